theorem dX15_init_0 : decode cX15_init 0 = .ok (.aload_n 0, 1) := by decide +kernel
theorem dX15_init_1 : decode cX15_init 1 = .ok (.invokespecial 25, 3) := by decide +kernel
theorem dX15_init_4 : decode cX15_init 4 = .ok (.aload_n 0, 1) := by decide +kernel
theorem dX15_init_5 : decode cX15_init 5 = .ok (.sipush 3000, 3) := by decide +kernel
theorem dX15_init_8 : decode cX15_init 8 = .ok (.newarray .byte, 2) := by decide +kernel
theorem dX15_init_10 : decode cX15_init 10 = .ok (.putfield 31, 3) := by decide +kernel
theorem dX15_init_13 : decode cX15_init 13 = .ok (.aload_n 0, 1) := by decide +kernel
theorem dX15_init_14 : decode cX15_init 14 = .ok (.sipush 6000, 3) := by decide +kernel
theorem dX15_init_17 : decode cX15_init 17 = .ok (.newarray .byte, 2) := by decide +kernel
theorem dX15_init_19 : decode cX15_init 19 = .ok (.putfield 35, 3) := by decide +kernel
theorem dX15_init_22 : decode cX15_init 22 = .ok (.aload_n 0, 1) := by decide +kernel
theorem dX15_init_23 : decode cX15_init 23 = .ok (.bipush 40, 2) := by decide +kernel
theorem dX15_init_25 : decode cX15_init 25 = .ok (.newarray .int, 2) := by decide +kernel
theorem dX15_init_27 : decode cX15_init 27 = .ok (.putfield 38, 3) := by decide +kernel
theorem dX15_init_30 : decode cX15_init 30 = .ok (.aload_n 0, 1) := by decide +kernel
theorem dX15_init_31 : decode cX15_init 31 = .ok (.bipush 40, 2) := by decide +kernel
theorem dX15_init_33 : decode cX15_init 33 = .ok (.newarray .int, 2) := by decide +kernel
theorem dX15_init_35 : decode cX15_init 35 = .ok (.putfield 42, 3) := by decide +kernel
theorem dX15_init_38 : decode cX15_init 38 = .ok (.aload_n 0, 1) := by decide +kernel
theorem dX15_init_39 : decode cX15_init 39 = .ok (.bipush 40, 2) := by decide +kernel
theorem dX15_init_41 : decode cX15_init 41 = .ok (.anewarray 45, 3) := by decide +kernel
theorem dX15_init_44 : decode cX15_init 44 = .ok (.putfield 47, 3) := by decide +kernel
theorem dX15_init_47 : decode cX15_init 47 = .ok (.aload_n 0, 1) := by decide +kernel
theorem dX15_init_48 : decode cX15_init 48 = .ok (.bipush 40, 2) := by decide +kernel
theorem dX15_init_50 : decode cX15_init 50 = .ok (.anewarray 45, 3) := by decide +kernel
theorem dX15_init_53 : decode cX15_init 53 = .ok (.putfield 51, 3) := by decide +kernel
theorem dX15_init_56 : decode cX15_init 56 = .ok (.aload_n 0, 1) := by decide +kernel
theorem dX15_init_57 : decode cX15_init 57 = .ok (.new 45, 3) := by decide +kernel
theorem dX15_init_60 : decode cX15_init 60 = .ok (.dup, 1) := by decide +kernel
theorem dX15_init_61 : decode cX15_init 61 = .ok (.bipush 30, 2) := by decide +kernel
theorem dX15_init_63 : decode cX15_init 63 = .ok (.invokespecial 54, 3) := by decide +kernel
theorem dX15_init_66 : decode cX15_init 66 = .ok (.putfield 57, 3) := by decide +kernel
theorem dX15_init_69 : decode cX15_init 69 = .ok (.aload_n 0, 1) := by decide +kernel
theorem dX15_init_70 : decode cX15_init 70 = .ok (.new 45, 3) := by decide +kernel
theorem dX15_init_73 : decode cX15_init 73 = .ok (.dup, 1) := by decide +kernel
theorem dX15_init_74 : decode cX15_init 74 = .ok (.bipush 60, 2) := by decide +kernel
theorem dX15_init_76 : decode cX15_init 76 = .ok (.invokespecial 54, 3) := by decide +kernel
theorem dX15_init_79 : decode cX15_init 79 = .ok (.putfield 61, 3) := by decide +kernel
theorem dX15_init_82 : decode cX15_init 82 = .ok (.aload_n 0, 1) := by decide +kernel
theorem dX15_init_83 : decode cX15_init 83 = .ok (.bipush 13, 2) := by decide +kernel
theorem dX15_init_85 : decode cX15_init 85 = .ok (.anewarray 45, 3) := by decide +kernel
theorem dX15_init_88 : decode cX15_init 88 = .ok (.putfield 64, 3) := by decide +kernel
theorem dX15_init_91 : decode cX15_init 91 = .ok (.aload_n 0, 1) := by decide +kernel
theorem dX15_init_92 : decode cX15_init 92 = .ok (.new 45, 3) := by decide +kernel
theorem dX15_init_95 : decode cX15_init 95 = .ok (.dup, 1) := by decide +kernel
theorem dX15_init_96 : decode cX15_init 96 = .ok (.bipush 100, 2) := by decide +kernel
theorem dX15_init_98 : decode cX15_init 98 = .ok (.invokespecial 54, 3) := by decide +kernel
theorem dX15_init_101 : decode cX15_init 101 = .ok (.putfield 67, 3) := by decide +kernel
theorem dX15_init_104 : decode cX15_init 104 = .ok (.aload_n 0, 1) := by decide +kernel
theorem dX15_init_105 : decode cX15_init 105 = .ok (.sipush 3000, 3) := by decide +kernel
theorem dX15_init_108 : decode cX15_init 108 = .ok (.newarray .byte, 2) := by decide +kernel
theorem dX15_init_110 : decode cX15_init 110 = .ok (.putfield 70, 3) := by decide +kernel
theorem dX15_init_113 : decode cX15_init 113 = .ok (.aload_n 0, 1) := by decide +kernel
theorem dX15_init_114 : decode cX15_init 114 = .ok (.bipush 21, 2) := by decide +kernel
theorem dX15_init_116 : decode cX15_init 116 = .ok (.newarray .int, 2) := by decide +kernel
theorem dX15_init_118 : decode cX15_init 118 = .ok (.putfield 73, 3) := by decide +kernel
theorem dX15_init_121 : decode cX15_init 121 = .ok (.aload_n 0, 1) := by decide +kernel
theorem dX15_init_122 : decode cX15_init 122 = .ok (.bipush 21, 2) := by decide +kernel
theorem dX15_init_124 : decode cX15_init 124 = .ok (.newarray .int, 2) := by decide +kernel
theorem dX15_init_126 : decode cX15_init 126 = .ok (.putfield 76, 3) := by decide +kernel
theorem dX15_init_129 : decode cX15_init 129 = .ok (.aload_n 0, 1) := by decide +kernel
theorem dX15_init_130 : decode cX15_init 130 = .ok (.bipush 21, 2) := by decide +kernel
theorem dX15_init_132 : decode cX15_init 132 = .ok (.newarray .int, 2) := by decide +kernel
theorem dX15_init_134 : decode cX15_init 134 = .ok (.putfield 79, 3) := by decide +kernel
theorem dX15_init_137 : decode cX15_init 137 = .ok (.aload_n 0, 1) := by decide +kernel
theorem dX15_init_138 : decode cX15_init 138 = .ok (.bipush 21, 2) := by decide +kernel
theorem dX15_init_140 : decode cX15_init 140 = .ok (.newarray .int, 2) := by decide +kernel
theorem dX15_init_142 : decode cX15_init 142 = .ok (.putfield 82, 3) := by decide +kernel
theorem dX15_init_145 : decode cX15_init 145 = .ok (.aload_n 0, 1) := by decide +kernel
theorem dX15_init_146 : decode cX15_init 146 = .ok (.bipush 21, 2) := by decide +kernel
theorem dX15_init_148 : decode cX15_init 148 = .ok (.newarray .int, 2) := by decide +kernel
theorem dX15_init_150 : decode cX15_init 150 = .ok (.putfield 85, 3) := by decide +kernel
theorem dX15_init_153 : decode cX15_init 153 = .ok (.aload_n 0, 1) := by decide +kernel
theorem dX15_init_154 : decode cX15_init 154 = .ok (.bipush 21, 2) := by decide +kernel
theorem dX15_init_156 : decode cX15_init 156 = .ok (.newarray .int, 2) := by decide +kernel
theorem dX15_init_158 : decode cX15_init 158 = .ok (.putfield 88, 3) := by decide +kernel
theorem dX15_init_161 : decode cX15_init 161 = .ok (.aload_n 0, 1) := by decide +kernel
theorem dX15_init_162 : decode cX15_init 162 = .ok (.new 45, 3) := by decide +kernel
theorem dX15_init_165 : decode cX15_init 165 = .ok (.dup, 1) := by decide +kernel
theorem dX15_init_166 : decode cX15_init 166 = .ok (.sipush 6000, 3) := by decide +kernel
theorem dX15_init_169 : decode cX15_init 169 = .ok (.invokespecial 54, 3) := by decide +kernel
theorem dX15_init_172 : decode cX15_init 172 = .ok (.putfield 91, 3) := by decide +kernel
theorem dX15_init_175 : decode cX15_init 175 = .ok (.aload_n 0, 1) := by decide +kernel
theorem dX15_init_176 : decode cX15_init 176 = .ok (.new 94, 3) := by decide +kernel
theorem dX15_init_179 : decode cX15_init 179 = .ok (.dup, 1) := by decide +kernel
theorem dX15_init_180 : decode cX15_init 180 = .ok (.sipush 3000, 3) := by decide +kernel
theorem dX15_init_183 : decode cX15_init 183 = .ok (.invokespecial 96, 3) := by decide +kernel
theorem dX15_init_186 : decode cX15_init 186 = .ok (.putfield 97, 3) := by decide +kernel
theorem dX15_init_189 : decode cX15_init 189 = .ok (.aload_n 0, 1) := by decide +kernel
theorem dX15_init_190 : decode cX15_init 190 = .ok (.new 94, 3) := by decide +kernel
theorem dX15_init_193 : decode cX15_init 193 = .ok (.dup, 1) := by decide +kernel
theorem dX15_init_194 : decode cX15_init 194 = .ok (.sipush 700, 3) := by decide +kernel
theorem dX15_init_197 : decode cX15_init 197 = .ok (.invokespecial 96, 3) := by decide +kernel
theorem dX15_init_200 : decode cX15_init 200 = .ok (.putfield 101, 3) := by decide +kernel
theorem dX15_init_203 : decode cX15_init 203 = .ok (.aload_n 0, 1) := by decide +kernel
theorem dX15_init_204 : decode cX15_init 204 = .ok (.new 94, 3) := by decide +kernel
theorem dX15_init_207 : decode cX15_init 207 = .ok (.dup, 1) := by decide +kernel
theorem dX15_init_208 : decode cX15_init 208 = .ok (.sipush 700, 3) := by decide +kernel
theorem dX15_init_211 : decode cX15_init 211 = .ok (.invokespecial 96, 3) := by decide +kernel
theorem dX15_init_214 : decode cX15_init 214 = .ok (.putfield 104, 3) := by decide +kernel
theorem dX15_init_217 : decode cX15_init 217 = .ok (.aload_n 0, 1) := by decide +kernel
theorem dX15_init_218 : decode cX15_init 218 = .ok (.new 107, 3) := by decide +kernel
theorem dX15_init_221 : decode cX15_init 221 = .ok (.dup, 1) := by decide +kernel
theorem dX15_init_222 : decode cX15_init 222 = .ok (.invokespecial 109, 3) := by decide +kernel
theorem dX15_init_225 : decode cX15_init 225 = .ok (.putfield 110, 3) := by decide +kernel
theorem dX15_init_228 : decode cX15_init 228 = .ok (.aload_n 0, 1) := by decide +kernel
theorem dX15_init_229 : decode cX15_init 229 = .ok (.bipush 33, 2) := by decide +kernel
theorem dX15_init_231 : decode cX15_init 231 = .ok (.newarray .int, 2) := by decide +kernel
theorem dX15_init_233 : decode cX15_init 233 = .ok (.putfield 114, 3) := by decide +kernel
theorem dX15_init_236 : decode cX15_init 236 = .ok (.aload_n 0, 1) := by decide +kernel
theorem dX15_init_237 : decode cX15_init 237 = .ok (.bipush 33, 2) := by decide +kernel
theorem dX15_init_239 : decode cX15_init 239 = .ok (.newarray .int, 2) := by decide +kernel
theorem dX15_init_241 : decode cX15_init 241 = .ok (.putfield 117, 3) := by decide +kernel
theorem dX15_init_244 : decode cX15_init 244 = .ok (.aload_n 0, 1) := by decide +kernel
theorem dX15_init_245 : decode cX15_init 245 = .ok (.bipush 33, 2) := by decide +kernel
theorem dX15_init_247 : decode cX15_init 247 = .ok (.newarray .int, 2) := by decide +kernel
theorem dX15_init_249 : decode cX15_init 249 = .ok (.putfield 120, 3) := by decide +kernel
theorem dX15_init_252 : decode cX15_init 252 = .ok (.aload_n 0, 1) := by decide +kernel
theorem dX15_init_253 : decode cX15_init 253 = .ok (.bipush 66, 2) := by decide +kernel
theorem dX15_init_255 : decode cX15_init 255 = .ok (.newarray .int, 2) := by decide +kernel
theorem dX15_init_257 : decode cX15_init 257 = .ok (.putfield 123, 3) := by decide +kernel
theorem dX15_init_260 : decode cX15_init 260 = .ok (.aload_n 0, 1) := by decide +kernel
theorem dX15_init_261 : decode cX15_init 261 = .ok (.bipush 33, 2) := by decide +kernel
theorem dX15_init_263 : decode cX15_init 263 = .ok (.newarray .int, 2) := by decide +kernel
theorem dX15_init_265 : decode cX15_init 265 = .ok (.putfield 126, 3) := by decide +kernel
theorem dX15_init_268 : decode cX15_init 268 = .ok (.aload_n 0, 1) := by decide +kernel
theorem dX15_init_269 : decode cX15_init 269 = .ok (.bipush 32, 2) := by decide +kernel
theorem dX15_init_271 : decode cX15_init 271 = .ok (.newarray .byte, 2) := by decide +kernel
theorem dX15_init_273 : decode cX15_init 273 = .ok (.putfield 129, 3) := by decide +kernel
theorem dX15_init_276 : decode cX15_init 276 = .ok (.aload_n 0, 1) := by decide +kernel
theorem dX15_init_277 : decode cX15_init 277 = .ok (.bipush 32, 2) := by decide +kernel
theorem dX15_init_279 : decode cX15_init 279 = .ok (.newarray .byte, 2) := by decide +kernel
theorem dX15_init_281 : decode cX15_init 281 = .ok (.putfield 132, 3) := by decide +kernel
theorem dX15_init_284 : decode cX15_init 284 = .ok (.aload_n 0, 1) := by decide +kernel
theorem dX15_init_285 : decode cX15_init 285 = .ok (.bipush 64, 2) := by decide +kernel
theorem dX15_init_287 : decode cX15_init 287 = .ok (.newarray .byte, 2) := by decide +kernel
theorem dX15_init_289 : decode cX15_init 289 = .ok (.putfield 135, 3) := by decide +kernel
theorem dX15_init_292 : decode cX15_init 292 = .ok (.aload_n 0, 1) := by decide +kernel
theorem dX15_init_293 : decode cX15_init 293 = .ok (.bipush 64, 2) := by decide +kernel
theorem dX15_init_295 : decode cX15_init 295 = .ok (.newarray .byte, 2) := by decide +kernel
theorem dX15_init_297 : decode cX15_init 297 = .ok (.putfield 138, 3) := by decide +kernel
theorem dX15_init_300 : decode cX15_init 300 = .ok (.aload_n 0, 1) := by decide +kernel
theorem dX15_init_301 : decode cX15_init 301 = .ok (.bipush 64, 2) := by decide +kernel
theorem dX15_init_303 : decode cX15_init 303 = .ok (.newarray .byte, 2) := by decide +kernel
theorem dX15_init_305 : decode cX15_init 305 = .ok (.putfield 141, 3) := by decide +kernel
theorem dX15_init_308 : decode cX15_init 308 = .ok (.aload_n 0, 1) := by decide +kernel
theorem dX15_init_309 : decode cX15_init 309 = .ok (.new 45, 3) := by decide +kernel
theorem dX15_init_312 : decode cX15_init 312 = .ok (.dup, 1) := by decide +kernel
theorem dX15_init_313 : decode cX15_init 313 = .ok (.sipush 6000, 3) := by decide +kernel
theorem dX15_init_316 : decode cX15_init 316 = .ok (.invokespecial 54, 3) := by decide +kernel
theorem dX15_init_319 : decode cX15_init 319 = .ok (.putfield 144, 3) := by decide +kernel
theorem dX15_init_322 : decode cX15_init 322 = .ok (.aload_n 0, 1) := by decide +kernel
theorem dX15_init_323 : decode cX15_init 323 = .ok (.new 45, 3) := by decide +kernel
theorem dX15_init_326 : decode cX15_init 326 = .ok (.dup, 1) := by decide +kernel
theorem dX15_init_327 : decode cX15_init 327 = .ok (.sipush 3000, 3) := by decide +kernel
theorem dX15_init_330 : decode cX15_init 330 = .ok (.invokespecial 54, 3) := by decide +kernel
theorem dX15_init_333 : decode cX15_init 333 = .ok (.putfield 147, 3) := by decide +kernel
theorem dX15_init_336 : decode cX15_init 336 = .ok (.aload_n 0, 1) := by decide +kernel
theorem dX15_init_337 : decode cX15_init 337 = .ok (.bipush 20, 2) := by decide +kernel
theorem dX15_init_339 : decode cX15_init 339 = .ok (.newarray .boolean, 2) := by decide +kernel
theorem dX15_init_341 : decode cX15_init 341 = .ok (.putfield 150, 3) := by decide +kernel
theorem dX15_init_344 : decode cX15_init 344 = .ok (.aload_n 0, 1) := by decide +kernel
theorem dX15_init_345 : decode cX15_init 345 = .ok (.bipush 19, 2) := by decide +kernel
theorem dX15_init_347 : decode cX15_init 347 = .ok (.newarray .int, 2) := by decide +kernel
theorem dX15_init_349 : decode cX15_init 349 = .ok (.dup, 1) := by decide +kernel
theorem dX15_init_350 : decode cX15_init 350 = .ok (.iconst 0, 1) := by decide +kernel
theorem dX15_init_351 : decode cX15_init 351 = .ok (.bipush 48, 2) := by decide +kernel
theorem dX15_init_353 : decode cX15_init 353 = .ok (.iastore, 1) := by decide +kernel
theorem dX15_init_354 : decode cX15_init 354 = .ok (.dup, 1) := by decide +kernel
theorem dX15_init_355 : decode cX15_init 355 = .ok (.iconst 1, 1) := by decide +kernel
theorem dX15_init_356 : decode cX15_init 356 = .ok (.bipush 49, 2) := by decide +kernel
theorem dX15_init_358 : decode cX15_init 358 = .ok (.iastore, 1) := by decide +kernel
theorem dX15_init_359 : decode cX15_init 359 = .ok (.dup, 1) := by decide +kernel
theorem dX15_init_360 : decode cX15_init 360 = .ok (.iconst 2, 1) := by decide +kernel
theorem dX15_init_361 : decode cX15_init 361 = .ok (.bipush 48, 2) := by decide +kernel
theorem dX15_init_363 : decode cX15_init 363 = .ok (.iastore, 1) := by decide +kernel
theorem dX15_init_364 : decode cX15_init 364 = .ok (.dup, 1) := by decide +kernel
theorem dX15_init_365 : decode cX15_init 365 = .ok (.iconst 3, 1) := by decide +kernel
theorem dX15_init_366 : decode cX15_init 366 = .ok (.bipush 13, 2) := by decide +kernel
theorem dX15_init_368 : decode cX15_init 368 = .ok (.iastore, 1) := by decide +kernel
theorem dX15_init_369 : decode cX15_init 369 = .ok (.dup, 1) := by decide +kernel
theorem dX15_init_370 : decode cX15_init 370 = .ok (.iconst 4, 1) := by decide +kernel
theorem dX15_init_371 : decode cX15_init 371 = .ok (.bipush 6, 2) := by decide +kernel
theorem dX15_init_373 : decode cX15_init 373 = .ok (.iastore, 1) := by decide +kernel
theorem dX15_init_374 : decode cX15_init 374 = .ok (.dup, 1) := by decide +kernel
theorem dX15_init_375 : decode cX15_init 375 = .ok (.iconst 5, 1) := by decide +kernel
theorem dX15_init_376 : decode cX15_init 376 = .ok (.bipush 9, 2) := by decide +kernel
theorem dX15_init_378 : decode cX15_init 378 = .ok (.iastore, 1) := by decide +kernel
theorem dX15_init_379 : decode cX15_init 379 = .ok (.dup, 1) := by decide +kernel
theorem dX15_init_380 : decode cX15_init 380 = .ok (.bipush 6, 2) := by decide +kernel
theorem dX15_init_382 : decode cX15_init 382 = .ok (.bipush 96, 2) := by decide +kernel
theorem dX15_init_384 : decode cX15_init 384 = .ok (.iastore, 1) := by decide +kernel
theorem dX15_init_385 : decode cX15_init 385 = .ok (.dup, 1) := by decide +kernel
theorem dX15_init_386 : decode cX15_init 386 = .ok (.bipush 7, 2) := by decide +kernel
theorem dX15_init_388 : decode cX15_init 388 = .ok (.sipush 134, 3) := by decide +kernel
theorem dX15_init_391 : decode cX15_init 391 = .ok (.iastore, 1) := by decide +kernel
theorem dX15_init_392 : decode cX15_init 392 = .ok (.dup, 1) := by decide +kernel
theorem dX15_init_393 : decode cX15_init 393 = .ok (.bipush 8, 2) := by decide +kernel
theorem dX15_init_395 : decode cX15_init 395 = .ok (.bipush 72, 2) := by decide +kernel
theorem dX15_init_397 : decode cX15_init 397 = .ok (.iastore, 1) := by decide +kernel
theorem dX15_init_398 : decode cX15_init 398 = .ok (.dup, 1) := by decide +kernel
theorem dX15_init_399 : decode cX15_init 399 = .ok (.bipush 9, 2) := by decide +kernel
theorem dX15_init_401 : decode cX15_init 401 = .ok (.iconst 1, 1) := by decide +kernel
theorem dX15_init_402 : decode cX15_init 402 = .ok (.iastore, 1) := by decide +kernel
theorem dX15_init_403 : decode cX15_init 403 = .ok (.dup, 1) := by decide +kernel
theorem dX15_init_404 : decode cX15_init 404 = .ok (.bipush 10, 2) := by decide +kernel
theorem dX15_init_406 : decode cX15_init 406 = .ok (.bipush 101, 2) := by decide +kernel
theorem dX15_init_408 : decode cX15_init 408 = .ok (.iastore, 1) := by decide +kernel
theorem dX15_init_409 : decode cX15_init 409 = .ok (.dup, 1) := by decide +kernel
theorem dX15_init_410 : decode cX15_init 410 = .ok (.bipush 11, 2) := by decide +kernel
theorem dX15_init_412 : decode cX15_init 412 = .ok (.iconst 3, 1) := by decide +kernel
theorem dX15_init_413 : decode cX15_init 413 = .ok (.iastore, 1) := by decide +kernel
theorem dX15_init_414 : decode cX15_init 414 = .ok (.dup, 1) := by decide +kernel
theorem dX15_init_415 : decode cX15_init 415 = .ok (.bipush 12, 2) := by decide +kernel
theorem dX15_init_417 : decode cX15_init 417 = .ok (.iconst 4, 1) := by decide +kernel
theorem dX15_init_418 : decode cX15_init 418 = .ok (.iastore, 1) := by decide +kernel
theorem dX15_init_419 : decode cX15_init 419 = .ok (.dup, 1) := by decide +kernel
theorem dX15_init_420 : decode cX15_init 420 = .ok (.bipush 13, 2) := by decide +kernel
theorem dX15_init_422 : decode cX15_init 422 = .ok (.iconst 2, 1) := by decide +kernel
theorem dX15_init_423 : decode cX15_init 423 = .ok (.iastore, 1) := by decide +kernel
theorem dX15_init_424 : decode cX15_init 424 = .ok (.dup, 1) := by decide +kernel
theorem dX15_init_425 : decode cX15_init 425 = .ok (.bipush 14, 2) := by decide +kernel
theorem dX15_init_427 : decode cX15_init 427 = .ok (.iconst 1, 1) := by decide +kernel
theorem dX15_init_428 : decode cX15_init 428 = .ok (.iastore, 1) := by decide +kernel
theorem dX15_init_429 : decode cX15_init 429 = .ok (.dup, 1) := by decide +kernel
theorem dX15_init_430 : decode cX15_init 430 = .ok (.bipush 15, 2) := by decide +kernel
theorem dX15_init_432 : decode cX15_init 432 = .ok (.iconst 5, 1) := by decide +kernel
theorem dX15_init_433 : decode cX15_init 433 = .ok (.iastore, 1) := by decide +kernel
theorem dX15_init_434 : decode cX15_init 434 = .ok (.dup, 1) := by decide +kernel
theorem dX15_init_435 : decode cX15_init 435 = .ok (.bipush 16, 2) := by decide +kernel
theorem dX15_init_437 : decode cX15_init 437 = .ok (.iconst 0, 1) := by decide +kernel
theorem dX15_init_438 : decode cX15_init 438 = .ok (.iastore, 1) := by decide +kernel
theorem dX15_init_439 : decode cX15_init 439 = .ok (.dup, 1) := by decide +kernel
theorem dX15_init_440 : decode cX15_init 440 = .ok (.bipush 17, 2) := by decide +kernel
theorem dX15_init_442 : decode cX15_init 442 = .ok (.iconst 4, 1) := by decide +kernel
theorem dX15_init_443 : decode cX15_init 443 = .ok (.iastore, 1) := by decide +kernel
theorem dX15_init_444 : decode cX15_init 444 = .ok (.dup, 1) := by decide +kernel
theorem dX15_init_445 : decode cX15_init 445 = .ok (.bipush 18, 2) := by decide +kernel
theorem dX15_init_447 : decode cX15_init 447 = .ok (.bipush 32, 2) := by decide +kernel
theorem dX15_init_449 : decode cX15_init 449 = .ok (.iastore, 1) := by decide +kernel
theorem dX15_init_450 : decode cX15_init 450 = .ok (.putfield 154, 3) := by decide +kernel
theorem dX15_init_453 : decode cX15_init 453 = .ok (.aload_n 0, 1) := by decide +kernel
theorem dX15_init_454 : decode cX15_init 454 = .ok (.new 45, 3) := by decide +kernel
theorem dX15_init_457 : decode cX15_init 457 = .ok (.dup, 1) := by decide +kernel
theorem dX15_init_458 : decode cX15_init 458 = .ok (.sipush 6000, 3) := by decide +kernel
theorem dX15_init_461 : decode cX15_init 461 = .ok (.invokespecial 54, 3) := by decide +kernel
theorem dX15_init_464 : decode cX15_init 464 = .ok (.putfield 157, 3) := by decide +kernel
theorem dX15_init_467 : decode cX15_init 467 = .ok (.aload_n 0, 1) := by decide +kernel
theorem dX15_init_468 : decode cX15_init 468 = .ok (.new 45, 3) := by decide +kernel
theorem dX15_init_471 : decode cX15_init 471 = .ok (.dup, 1) := by decide +kernel
theorem dX15_init_472 : decode cX15_init 472 = .ok (.sipush 6000, 3) := by decide +kernel
theorem dX15_init_475 : decode cX15_init 475 = .ok (.invokespecial 54, 3) := by decide +kernel
theorem dX15_init_478 : decode cX15_init 478 = .ok (.putfield 160, 3) := by decide +kernel
theorem dX15_init_481 : decode cX15_init 481 = .ok (.aload_n 0, 1) := by decide +kernel
theorem dX15_init_482 : decode cX15_init 482 = .ok (.new 45, 3) := by decide +kernel
theorem dX15_init_485 : decode cX15_init 485 = .ok (.dup, 1) := by decide +kernel
theorem dX15_init_486 : decode cX15_init 486 = .ok (.sipush 6000, 3) := by decide +kernel
theorem dX15_init_489 : decode cX15_init 489 = .ok (.invokespecial 54, 3) := by decide +kernel
theorem dX15_init_492 : decode cX15_init 492 = .ok (.putfield 163, 3) := by decide +kernel
theorem dX15_init_495 : decode cX15_init 495 = .ok (.iconst 0, 1) := by decide +kernel
theorem dX15_init_496 : decode cX15_init 496 = .ok (.istore_n 1, 1) := by decide +kernel
theorem dX15_init_497 : decode cX15_init 497 = .ok (.iload_n 1, 1) := by decide +kernel
theorem dX15_init_498 : decode cX15_init 498 = .ok (.bipush 40, 2) := by decide +kernel
theorem dX15_init_500 : decode cX15_init 500 = .ok (.if_icmp .ge 40, 3) := by decide +kernel
theorem dX15_init_503 : decode cX15_init 503 = .ok (.aload_n 0, 1) := by decide +kernel
theorem dX15_init_504 : decode cX15_init 504 = .ok (.getfield 47, 3) := by decide +kernel
theorem dX15_init_507 : decode cX15_init 507 = .ok (.iload_n 1, 1) := by decide +kernel
theorem dX15_init_508 : decode cX15_init 508 = .ok (.new 45, 3) := by decide +kernel
theorem dX15_init_511 : decode cX15_init 511 = .ok (.dup, 1) := by decide +kernel
theorem dX15_init_512 : decode cX15_init 512 = .ok (.bipush 60, 2) := by decide +kernel
theorem dX15_init_514 : decode cX15_init 514 = .ok (.invokespecial 54, 3) := by decide +kernel
theorem dX15_init_517 : decode cX15_init 517 = .ok (.aastore, 1) := by decide +kernel
theorem dX15_init_518 : decode cX15_init 518 = .ok (.aload_n 0, 1) := by decide +kernel
theorem dX15_init_519 : decode cX15_init 519 = .ok (.getfield 51, 3) := by decide +kernel
theorem dX15_init_522 : decode cX15_init 522 = .ok (.iload_n 1, 1) := by decide +kernel
theorem dX15_init_523 : decode cX15_init 523 = .ok (.new 45, 3) := by decide +kernel
theorem dX15_init_526 : decode cX15_init 526 = .ok (.dup, 1) := by decide +kernel
theorem dX15_init_527 : decode cX15_init 527 = .ok (.sipush 700, 3) := by decide +kernel
theorem dX15_init_530 : decode cX15_init 530 = .ok (.invokespecial 54, 3) := by decide +kernel
theorem dX15_init_533 : decode cX15_init 533 = .ok (.aastore, 1) := by decide +kernel
theorem dX15_init_534 : decode cX15_init 534 = .ok (.iinc 1 1, 3) := by decide +kernel
theorem dX15_init_537 : decode cX15_init 537 = .ok (.goto (-40), 3) := by decide +kernel
theorem dX15_init_540 : decode cX15_init 540 = .ok (.iconst 0, 1) := by decide +kernel
theorem dX15_init_541 : decode cX15_init 541 = .ok (.istore_n 1, 1) := by decide +kernel
theorem dX15_init_542 : decode cX15_init 542 = .ok (.iload_n 1, 1) := by decide +kernel
theorem dX15_init_543 : decode cX15_init 543 = .ok (.bipush 13, 2) := by decide +kernel
theorem dX15_init_545 : decode cX15_init 545 = .ok (.if_icmp .ge 24, 3) := by decide +kernel
theorem dX15_init_548 : decode cX15_init 548 = .ok (.aload_n 0, 1) := by decide +kernel
theorem dX15_init_549 : decode cX15_init 549 = .ok (.getfield 64, 3) := by decide +kernel
theorem dX15_init_552 : decode cX15_init 552 = .ok (.iload_n 1, 1) := by decide +kernel
theorem dX15_init_553 : decode cX15_init 553 = .ok (.new 45, 3) := by decide +kernel
theorem dX15_init_556 : decode cX15_init 556 = .ok (.dup, 1) := by decide +kernel
theorem dX15_init_557 : decode cX15_init 557 = .ok (.bipush 61, 2) := by decide +kernel
theorem dX15_init_559 : decode cX15_init 559 = .ok (.invokespecial 54, 3) := by decide +kernel
theorem dX15_init_562 : decode cX15_init 562 = .ok (.aastore, 1) := by decide +kernel
theorem dX15_init_563 : decode cX15_init 563 = .ok (.iinc 1 1, 3) := by decide +kernel
theorem dX15_init_566 : decode cX15_init 566 = .ok (.goto (-24), 3) := by decide +kernel
theorem dX15_init_569 : decode cX15_init 569 = .ok (.return_, 1) := by decide +kernel
theorem kt_1119 : Cond.methodLink RX15 25 objectInit ∈ tb := tb_at (i := 1200) (by decide +kernel) (by decide +kernel)
theorem kt_1121 : Cond.classLink RX15 45 RX14 ∈ tb := tb_at (i := 1201) (by decide +kernel) (by decide +kernel)
theorem kt_1122 : Cond.methodLink RX15 54 yX14_init ∈ tb := tb_at (i := 1204) (by decide +kernel) (by decide +kernel)
theorem kt_1127 : Cond.classLink RX15 94 RX13 ∈ tb := tb_at (i := 1219) (by decide +kernel) (by decide +kernel)
theorem kt_1128 : Cond.instantiable RX13 5 ∈ tb := tb_at (i := 1220) (by decide +kernel) (by decide +kernel)
theorem kt_1129 : Cond.code yX13_init cX13_init 2 none ∈ tb := tb_at (i := 1223) (by decide +kernel) (by decide +kernel)
theorem kt_1130 : Cond.methodLink RX15 96 yX13_init ∈ tb := tb_at (i := 1221) (by decide +kernel) (by decide +kernel)
theorem kt_1131 : Cond.instanceMethod yX13_init ∈ tb := tb_at (i := 1222) (by decide +kernel) (by decide +kernel)
theorem kt_1133 : Cond.classLink RX15 107 RX12 ∈ tb := tb_at (i := 1246) (by decide +kernel) (by decide +kernel)
theorem kt_1134 : Cond.instantiable RX12 7 ∈ tb := tb_at (i := 1247) (by decide +kernel) (by decide +kernel)
theorem kt_1135 : Cond.code yX12_init cX12_init 3 none ∈ tb := tb_at (i := 1250) (by decide +kernel) (by decide +kernel)
theorem kt_1136 : Cond.methodLink RX15 109 yX12_init ∈ tb := tb_at (i := 1248) (by decide +kernel) (by decide +kernel)
theorem kt_1137 : Cond.instanceMethod yX12_init ∈ tb := tb_at (i := 1249) (by decide +kernel) (by decide +kernel)
theorem fs_nek {q : Nat} {e : TyE} {l : List (Nat × TyE)} (h : e.1 ≠ 99) (hl : ∀ p ∈ l, p.2.1 ≠ 99) : ∀ p ∈ (q, e) :: l, p.2.1 ≠ 99 := by
  intro p hp
  rcases List.mem_cons.mp hp with w | w
  · rw [w]
    exact h
  · exact hl p w
set_option maxHeartbeats 4000000 in
set_option maxRecDepth 100000 in
theorem k_X15_init (l : Launch) (dC : Nat → ClassId) (dI : Nat → Nat → Nat) (cs : Nat → ClassId) (gm : Nat → Nat → Nat) (sz : Nat) (h0 : Nat) (ρ : Nat) (hg0 : ∀ k j, gm k j = 0) : Met l yX15_init (.code yX15_init cX15_init 2 none :: tb) ({ frames := 4, cells := 254, slots := 82375, locals := 133 }) (va_Pc [.ref h0] (PTm (dC, dI) cs RAWT gm [h0] (fun _ => .inr (15, (.null) :: (.int 0) :: (.int 0) :: (.int 0) :: (.null) :: (.null) :: (.null) :: (.null) :: (.null) :: (.null) :: (.null) :: (.int 0) :: (.int 0) :: (.null) :: (.int 0) :: (.int 0) :: (.null) :: (.int 0) :: (.int 0) :: (.int 0) :: (.int 0) :: (.int 0) :: (.int 0) :: (.null) :: (.null) :: (.null) :: (.null) :: (.null) :: (.null) :: (.null) :: (.int 0) :: (.int 0) :: (.int 0) :: (.int 0) :: (.null) :: (.null) :: (.null) :: (.null) :: (.null) :: (.null) :: (.null) :: (.null) :: (.null) :: (.null) :: (.null) :: (.null) :: (.null) :: (.null) :: (.null) :: (.null) :: (.null) :: (.null) :: (.int 0) :: (.int 0) :: (.int 0) :: (.null) :: (.null) :: (.null) :: (.null) :: [])) sz)) (va_Qv (fun _ : Unit => True) (fun _ T9 => ∃ (L2 : List Nat) (F2 : Nat → va_E) (ty2 : TyM), ∃ ta : Nat, ∃ ou : Nat, ∃ so : Nat, ∃ ad : Nat, ∃ na : Nat, ∃ va : Nat, ∃ lc : Nat, ∃ dm : Nat, ∃ tg : Nat, ∃ pe : Nat, ∃ ml : Nat, ∃ bg : Nat, ∃ co : Nat, ∃ sp : Nat, ∃ nb0 : Nat, ∃ nb1 : Nat, ∃ nb2 : Nat, ∃ pl : Nat, ∃ se : Nat, ∃ ke : Nat, ∃ wi : Nat, ∃ hs : Nat, ∃ mo : Nat, ∃ po : Nat, ∃ nu : Nat, ∃ pr : Nat, ∃ sq : Nat, ∃ xa : Nat, ∃ sa : Nat, ∃ n64 : Nat, ∃ m64 : Nat, ∃ ex : Nat, ∃ wh : Nat, ∃ sd : Nat, ∃ tk : Nat, ∃ hd : Nat, ∃ ak : Nat, ∃ ho : Nat, ∃ ot : Nat, ∃ sx : Nat, ∃ s0 : Nat, ∃ s1 : Nat, ∃ s2 : Nat, NEWm (dC, dI) cs ty2 gm L2 F2 (va_A (va_pl [h0] (fun _ => .inr (15, (.null) :: (.int 0) :: (.int 0) :: (.int 0) :: (.null) :: (.null) :: (.null) :: (.null) :: (.null) :: (.null) :: (.null) :: (.int 0) :: (.int 0) :: (.null) :: (.int 0) :: (.int 0) :: (.null) :: (.int 0) :: (.int 0) :: (.int 0) :: (.int 0) :: (.int 0) :: (.int 0) :: (.null) :: (.null) :: (.null) :: (.null) :: (.null) :: (.null) :: (.null) :: (.int 0) :: (.int 0) :: (.int 0) :: (.int 0) :: (.null) :: (.null) :: (.null) :: (.null) :: (.null) :: (.null) :: (.null) :: (.null) :: (.null) :: (.null) :: (.null) :: (.null) :: (.null) :: (.null) :: (.null) :: (.null) :: (.null) :: (.null) :: (.int 0) :: (.int 0) :: (.int 0) :: (.null) :: (.null) :: (.null) :: (.null) :: []))) sz) T9.heap ∧ h0 ∈ L2 ∧ ty2 h0 = (15, ρ, [ta, ou, so, ad, na, va, lc, dm, tg, pe, ml, bg, co, sp, nb0, nb1, nb2, pl, se, ke, wi, hs, mo, po, nu, pr, sq, xa, sa, n64, m64, ex, wh, sd, tk, hd, ak, ho, ot, sx, s0, s1, s2, 0, 0, 0, 0, 0, 0, 1, 0, 0, 0, 0]) ∧ nb0 ≠ nb1 ∧ nb0 ≠ nb2 ∧ nb1 ≠ nb2) (va_A (va_pl [h0] (fun _ => .inr (15, (.null) :: (.int 0) :: (.int 0) :: (.int 0) :: (.null) :: (.null) :: (.null) :: (.null) :: (.null) :: (.null) :: (.null) :: (.int 0) :: (.int 0) :: (.null) :: (.int 0) :: (.int 0) :: (.null) :: (.int 0) :: (.int 0) :: (.int 0) :: (.int 0) :: (.int 0) :: (.int 0) :: (.null) :: (.null) :: (.null) :: (.null) :: (.null) :: (.null) :: (.null) :: (.int 0) :: (.int 0) :: (.int 0) :: (.int 0) :: (.null) :: (.null) :: (.null) :: (.null) :: (.null) :: (.null) :: (.null) :: (.null) :: (.null) :: (.null) :: (.null) :: (.null) :: (.null) :: (.null) :: (.null) :: (.null) :: (.null) :: (.null) :: (.int 0) :: (.int 0) :: (.int 0) :: (.null) :: (.null) :: (.null) :: (.null) :: []))) sz)) 254 82375 (va_A (va_pl [h0] (fun _ => .inr (15, (.null) :: (.int 0) :: (.int 0) :: (.int 0) :: (.null) :: (.null) :: (.null) :: (.null) :: (.null) :: (.null) :: (.null) :: (.int 0) :: (.int 0) :: (.null) :: (.int 0) :: (.int 0) :: (.null) :: (.int 0) :: (.int 0) :: (.int 0) :: (.int 0) :: (.int 0) :: (.int 0) :: (.null) :: (.null) :: (.null) :: (.null) :: (.null) :: (.null) :: (.null) :: (.int 0) :: (.int 0) :: (.int 0) :: (.int 0) :: (.null) :: (.null) :: (.null) :: (.null) :: (.null) :: (.null) :: (.null) :: (.null) :: (.null) :: (.null) :: (.null) :: (.null) :: (.null) :: (.null) :: (.null) :: (.null) :: (.null) :: (.null) :: (.int 0) :: (.int 0) :: (.int 0) :: (.null) :: (.null) :: (.null) :: (.null) :: []))) sz) := by
  refine Met.ofW (cc := cX15_init) (maxL := 2) (ret := none) (by decide) rfl ?_
  intro p e s m args below meth c s₁ B hml hv
  obtain ⟨rfl, hsz, hP, hK, hD0, hE, hO⟩ := hv
  have hx := B.exec
  have hb := B.bytes
  have hr := B.returns
  have hts : ∀ w ∈ tb, w.before _ s = true := fun w h => atoms_spec (ws := .code yX15_init cX15_init 2 none :: tb) B.pre w (List.mem_cons_of_mem _ h)
  have hown : s.vm.findClass RX15 = some m.cls := findClass_of_methodNamed B.named
  have hin : meth.name = "<init>" := (name_of_methodNamed B.named B.method).1
  have hlocks := B.notSynchronized
  subst hsz
  have hD := hD0.self (sz := s.heap.size)
  generalize hAe : va_A (va_pl [h0] (fun _ => .inr (15, (.null) :: (.int 0) :: (.int 0) :: (.int 0) :: (.null) :: (.null) :: (.null) :: (.null) :: (.null) :: (.null) :: (.null) :: (.int 0) :: (.int 0) :: (.null) :: (.int 0) :: (.int 0) :: (.null) :: (.int 0) :: (.int 0) :: (.int 0) :: (.int 0) :: (.int 0) :: (.int 0) :: (.null) :: (.null) :: (.null) :: (.null) :: (.null) :: (.null) :: (.null) :: (.int 0) :: (.int 0) :: (.int 0) :: (.int 0) :: (.null) :: (.null) :: (.null) :: (.null) :: (.null) :: (.null) :: (.null) :: (.null) :: (.null) :: (.null) :: (.null) :: (.null) :: (.null) :: (.null) :: (.null) :: (.null) :: (.null) :: (.null) :: (.int 0) :: (.int 0) :: (.int 0) :: (.null) :: (.null) :: (.null) :: (.null) :: []))) s.heap.size = A at hD ⊢
  have hA : ∀ q : Nat, s.heap.size ≤ q → A q := fun q h => by rw [← hAe]; exact Or.inr h
  have hS : va_S A s.heap s.heap [] := va_S.rf
  have hl := lv_entry ([.ref h0]) (n := 2) (Nat.le_of_ble_eq_true rfl)
  rw [lg_entry_eq]
  generalize (lg_sl ([.ref h0]) ++ List.replicate (2 - (lg_sl ([.ref h0])).length) Slot.unset).toArray = ls at hl ⊢
  have hl : lv_has ls 2 [(0, .ref h0)] := hl
  obtain ⟨L, ty, F, hN, hL_h0, hT_h0, hF_h0⟩ : ∃ (L : List Nat) (t9 : TyM) (F : Nat → va_E), NEWm (dC, dI) cs t9 gm L F A s.heap ∧ h0 ∈ L ∧ t9 h0 = (99, 0, []) ∧ F h0 = .inr (15, (.null) :: (.int 0) :: (.int 0) :: (.int 0) :: (.null) :: (.null) :: (.null) :: (.null) :: (.null) :: (.null) :: (.null) :: (.int 0) :: (.int 0) :: (.null) :: (.int 0) :: (.int 0) :: (.null) :: (.int 0) :: (.int 0) :: (.int 0) :: (.int 0) :: (.int 0) :: (.int 0) :: (.null) :: (.null) :: (.null) :: (.null) :: (.null) :: (.null) :: (.null) :: (.int 0) :: (.int 0) :: (.int 0) :: (.int 0) :: (.null) :: (.null) :: (.null) :: (.null) :: (.null) :: (.null) :: (.null) :: (.null) :: (.null) :: (.null) :: (.null) :: (.null) :: (.null) :: (.null) :: (.null) :: (.null) :: (.null) :: (.null) :: (.int 0) :: (.int 0) :: (.int 0) :: (.null) :: (.null) :: (.null) :: (.null) :: []) := ⟨[h0], RAWT, fun _ => .inr (15, (.null) :: (.int 0) :: (.int 0) :: (.int 0) :: (.null) :: (.null) :: (.null) :: (.null) :: (.null) :: (.null) :: (.null) :: (.int 0) :: (.int 0) :: (.null) :: (.int 0) :: (.int 0) :: (.null) :: (.int 0) :: (.int 0) :: (.int 0) :: (.int 0) :: (.int 0) :: (.int 0) :: (.null) :: (.null) :: (.null) :: (.null) :: (.null) :: (.null) :: (.null) :: (.int 0) :: (.int 0) :: (.int 0) :: (.int 0) :: (.null) :: (.null) :: (.null) :: (.null) :: (.null) :: (.null) :: (.null) :: (.null) :: (.null) :: (.null) :: (.null) :: (.null) :: (.null) :: (.null) :: (.null) :: (.null) :: (.null) :: (.null) :: (.int 0) :: (.int 0) :: (.int 0) :: (.null) :: (.null) :: (.null) :: (.null) :: []), ⟨hP, hD, hO, fun a _ => wtam_raw rfl⟩, List.mem_singleton.mpr rfl, rfl, rfl⟩
  obtain ⟨hP, hD, hO, hW⟩ := hN
  have hfs : ∀ p ∈ ([] : List (Nat × TyE)), p.1 ∈ L ∧ ty p.1 = p.2 := fun p h => absurd h List.not_mem_nil
  refine lv_aload_n hx hb dX15_init_0 rfl (lv_at hl 0 rfl) ?_
  refine W.objInit hx hb hown (hts _ kt_1119) (hts _ kt_1009) (hts _ kt_1010) rfl (by rw [hml]; exact hl.1) rfl dX15_init_1 (Nat.le_of_ble_eq_true rfl) (Nat.le_of_ble_eq_true rfl) ?_
  refine W.eq (g2 := F0 m 4 ls []) rfl ?_
  refine lv_aload_n hx hb dX15_init_4 rfl (lv_at hl 0 rfl) ?_
  refine lv_sipush (v := 3000) hx hb dX15_init_5 (by decide) ?_
  refine va_newa (atype := .byte) (ty := .byte) (a0 := (3000, .inl (fun _ => 0))) (N' := 3000) hx hb (hts _ kt_1032) rfl hK hP hD hS hA (fun _ => rfl) (by decide) (by decide) (by show _ * 1 ≤ _; omega) (by show _ + 1 ≤ 254; omega) (by show _ + 3000 ≤ 82375; omega) dX15_init_8 (fun q_1 cA H hKn hPa hDa hS => ?_)
  obtain rfl := cid_byte hK hKn
  obtain ⟨L, ty, F_2, hN9, hold, holdF, hL_q_1, hT_q_1, hF_q_1⟩ := grow1m (e := (17, ρ + 1, [3000])) hPa hDa hO hW (shm.octs rtf_self ⟨_, rfl, fun _ => rfl⟩) (wtam_octs rtf_self ⟨by omega, by omega⟩)
  obtain ⟨hP, hD, hO, hW⟩ := hN9
  replace hT_h0 := (hold _ hL_h0).2.trans hT_h0
  replace hF_h0 := (holdF _ hL_h0).1.trans hF_h0
  replace hL_h0 := (hold _ hL_h0).1
  replace hfs := gr_cons hold hfs hL_q_1 hT_q_1
  refine pg_putF (ci := 15) (v := .ref q_1) (ty := .array .byte) (C := RX15) (T := TX15) (N := 59) hx hb hts it_15 tyX15 tyX15_ok nmX15 hown hK hP hD hS hL_h0 hF_h0 rfl 0 (by decide) (hts _ kt_1006) (fun _ h9 => h9) rfl hin rfl (by decide +kernel) (rfl) (rfl) (Nat.le_of_ble_eq_true rfl) dX15_init_10 (fun H locs hP hD hS => ?_)
  obtain ⟨F_3, he_4, hP, hD, hO⟩ : ∃ G, G = va_up F_2 h0 (.inr (15, (.ref q_1) :: (.int 0) :: (.int 0) :: (.int 0) :: (.null) :: (.null) :: (.null) :: (.null) :: (.null) :: (.null) :: (.null) :: (.int 0) :: (.int 0) :: (.null) :: (.int 0) :: (.int 0) :: (.null) :: (.int 0) :: (.int 0) :: (.int 0) :: (.int 0) :: (.int 0) :: (.int 0) :: (.null) :: (.null) :: (.null) :: (.null) :: (.null) :: (.null) :: (.null) :: (.int 0) :: (.int 0) :: (.int 0) :: (.int 0) :: (.null) :: (.null) :: (.null) :: (.null) :: (.null) :: (.null) :: (.null) :: (.null) :: (.null) :: (.null) :: (.null) :: (.null) :: (.null) :: (.null) :: (.null) :: (.null) :: (.null) :: (.null) :: (.int 0) :: (.int 0) :: (.int 0) :: (.null) :: (.null) :: (.null) :: (.null) :: [])) ∧ va_P (dC, dI) vwCl (va_pl L G) H ∧ va_D A (va_pl L G) ∧ OKm cs ty gm L G := ⟨_, rfl, hP, hD, hO.up (shm.raw hT_h0)⟩
  have hF_5 : F_3 h0 = .inr (15, (.ref q_1) :: (.int 0) :: (.int 0) :: (.int 0) :: (.null) :: (.null) :: (.null) :: (.null) :: (.null) :: (.null) :: (.null) :: (.int 0) :: (.int 0) :: (.null) :: (.int 0) :: (.int 0) :: (.null) :: (.int 0) :: (.int 0) :: (.int 0) :: (.int 0) :: (.int 0) :: (.int 0) :: (.null) :: (.null) :: (.null) :: (.null) :: (.null) :: (.null) :: (.null) :: (.int 0) :: (.int 0) :: (.int 0) :: (.int 0) :: (.null) :: (.null) :: (.null) :: (.null) :: (.null) :: (.null) :: (.null) :: (.null) :: (.null) :: (.null) :: (.null) :: (.null) :: (.null) :: (.null) :: (.null) :: (.null) :: (.null) :: (.null) :: (.int 0) :: (.int 0) :: (.int 0) :: (.null) :: (.null) :: (.null) :: (.null) :: []) := by rw [he_4]; exact up_self
  refine lv_aload_n hx hb dX15_init_13 rfl (lv_at hl 0 rfl) ?_
  refine lv_sipush (v := 6000) hx hb dX15_init_14 (by decide) ?_
  refine va_newa (atype := .byte) (ty := .byte) (a0 := (6000, .inl (fun _ => 0))) (N' := 6000) hx hb (hts _ kt_1032) rfl hK hP hD hS hA (fun _ => rfl) (by decide) (by decide) (by show _ * 1 ≤ _; omega) (by show _ + 1 ≤ 254; omega) (by show _ + 6000 ≤ 82375; omega) dX15_init_17 (fun q_6 cA H hKn hPa hDa hS => ?_)
  obtain rfl := cid_byte hK hKn
  obtain ⟨L, ty, F_7, hN9, hold, holdF, hL_q_6, hT_q_6, hF_q_6⟩ := grow1m (e := (17, ρ + 2, [6000])) hPa hDa hO hW (shm.octs rtf_self ⟨_, rfl, fun _ => rfl⟩) (wtam_octs rtf_self ⟨by omega, by omega⟩)
  obtain ⟨hP, hD, hO, hW⟩ := hN9
  replace hT_h0 := (hold _ hL_h0).2.trans hT_h0
  have hF_h0 := (holdF _ hL_h0).1.trans hF_5
  replace hL_h0 := (hold _ hL_h0).1
  replace hfs := gr_cons hold hfs hL_q_6 hT_q_6
  refine pg_putF (ci := 15) (v := .ref q_6) (ty := .array .byte) (C := RX15) (T := TX15) (N := 59) hx hb hts it_15 tyX15 tyX15_ok nmX15 hown hK hP hD hS hL_h0 hF_h0 rfl 4 (by decide) (hts _ kt_1120) (fun _ h9 => h9) rfl hin rfl (by decide +kernel) (rfl) (rfl) (Nat.le_of_ble_eq_true rfl) dX15_init_19 (fun H locs hP hD hS => ?_)
  obtain ⟨F_8, he_9, hP, hD, hO⟩ : ∃ G, G = va_up F_7 h0 (.inr (15, (.ref q_1) :: (.int 0) :: (.int 0) :: (.int 0) :: (.ref q_6) :: (.null) :: (.null) :: (.null) :: (.null) :: (.null) :: (.null) :: (.int 0) :: (.int 0) :: (.null) :: (.int 0) :: (.int 0) :: (.null) :: (.int 0) :: (.int 0) :: (.int 0) :: (.int 0) :: (.int 0) :: (.int 0) :: (.null) :: (.null) :: (.null) :: (.null) :: (.null) :: (.null) :: (.null) :: (.int 0) :: (.int 0) :: (.int 0) :: (.int 0) :: (.null) :: (.null) :: (.null) :: (.null) :: (.null) :: (.null) :: (.null) :: (.null) :: (.null) :: (.null) :: (.null) :: (.null) :: (.null) :: (.null) :: (.null) :: (.null) :: (.null) :: (.null) :: (.int 0) :: (.int 0) :: (.int 0) :: (.null) :: (.null) :: (.null) :: (.null) :: [])) ∧ va_P (dC, dI) vwCl (va_pl L G) H ∧ va_D A (va_pl L G) ∧ OKm cs ty gm L G := ⟨_, rfl, hP, hD, hO.up (shm.raw hT_h0)⟩
  have hF_10 : F_8 h0 = .inr (15, (.ref q_1) :: (.int 0) :: (.int 0) :: (.int 0) :: (.ref q_6) :: (.null) :: (.null) :: (.null) :: (.null) :: (.null) :: (.null) :: (.int 0) :: (.int 0) :: (.null) :: (.int 0) :: (.int 0) :: (.null) :: (.int 0) :: (.int 0) :: (.int 0) :: (.int 0) :: (.int 0) :: (.int 0) :: (.null) :: (.null) :: (.null) :: (.null) :: (.null) :: (.null) :: (.null) :: (.int 0) :: (.int 0) :: (.int 0) :: (.int 0) :: (.null) :: (.null) :: (.null) :: (.null) :: (.null) :: (.null) :: (.null) :: (.null) :: (.null) :: (.null) :: (.null) :: (.null) :: (.null) :: (.null) :: (.null) :: (.null) :: (.null) :: (.null) :: (.int 0) :: (.int 0) :: (.int 0) :: (.null) :: (.null) :: (.null) :: (.null) :: []) := by rw [he_9]; exact up_self
  refine lv_aload_n hx hb dX15_init_22 rfl (lv_at hl 0 rfl) ?_
  refine lv_bipush (v := 40) hx hb dX15_init_23 (by decide) ?_
  refine va_newa (atype := .int) (ty := .int) (a0 := (40, .inl (fun _ => 0))) (N' := 40) hx hb (hts _ kt_1007) rfl hK hP hD hS hA (fun _ => rfl) (by decide) (by decide) (by show _ * 4 ≤ _; omega) (by show _ + 1 ≤ 254; omega) (by show _ + 40 ≤ 82375; omega) dX15_init_25 (fun q_11 cA H hKn hPa hDa hS => ?_)
  obtain rfl := cid_int hK hKn
  obtain ⟨L, ty, F_12, hN9, hold, holdF, hL_q_11, hT_q_11, hF_q_11⟩ := grow1m (e := (16, ρ + 3, [40])) hPa hDa hO hW (shm.ints rtf_self ⟨_, rfl⟩) (wtam_ints rtf_self ⟨by omega, by omega⟩)
  obtain ⟨hP, hD, hO, hW⟩ := hN9
  replace hT_h0 := (hold _ hL_h0).2.trans hT_h0
  have hF_h0 := (holdF _ hL_h0).1.trans hF_10
  replace hL_h0 := (hold _ hL_h0).1
  replace hfs := gr_cons hold hfs hL_q_11 hT_q_11
  refine pg_putF (ci := 15) (v := .ref q_11) (ty := .array .int) (C := RX15) (T := TX15) (N := 59) hx hb hts it_15 tyX15 tyX15_ok nmX15 hown hK hP hD hS hL_h0 hF_h0 rfl 5 (by decide) (hts _ kt_718) (fun _ h9 => h9) rfl hin rfl (by decide +kernel) (rfl) (rfl) (Nat.le_of_ble_eq_true rfl) dX15_init_27 (fun H locs hP hD hS => ?_)
  obtain ⟨F_13, he_14, hP, hD, hO⟩ : ∃ G, G = va_up F_12 h0 (.inr (15, (.ref q_1) :: (.int 0) :: (.int 0) :: (.int 0) :: (.ref q_6) :: (.ref q_11) :: (.null) :: (.null) :: (.null) :: (.null) :: (.null) :: (.int 0) :: (.int 0) :: (.null) :: (.int 0) :: (.int 0) :: (.null) :: (.int 0) :: (.int 0) :: (.int 0) :: (.int 0) :: (.int 0) :: (.int 0) :: (.null) :: (.null) :: (.null) :: (.null) :: (.null) :: (.null) :: (.null) :: (.int 0) :: (.int 0) :: (.int 0) :: (.int 0) :: (.null) :: (.null) :: (.null) :: (.null) :: (.null) :: (.null) :: (.null) :: (.null) :: (.null) :: (.null) :: (.null) :: (.null) :: (.null) :: (.null) :: (.null) :: (.null) :: (.null) :: (.null) :: (.int 0) :: (.int 0) :: (.int 0) :: (.null) :: (.null) :: (.null) :: (.null) :: [])) ∧ va_P (dC, dI) vwCl (va_pl L G) H ∧ va_D A (va_pl L G) ∧ OKm cs ty gm L G := ⟨_, rfl, hP, hD, hO.up (shm.raw hT_h0)⟩
  have hF_15 : F_13 h0 = .inr (15, (.ref q_1) :: (.int 0) :: (.int 0) :: (.int 0) :: (.ref q_6) :: (.ref q_11) :: (.null) :: (.null) :: (.null) :: (.null) :: (.null) :: (.int 0) :: (.int 0) :: (.null) :: (.int 0) :: (.int 0) :: (.null) :: (.int 0) :: (.int 0) :: (.int 0) :: (.int 0) :: (.int 0) :: (.int 0) :: (.null) :: (.null) :: (.null) :: (.null) :: (.null) :: (.null) :: (.null) :: (.int 0) :: (.int 0) :: (.int 0) :: (.int 0) :: (.null) :: (.null) :: (.null) :: (.null) :: (.null) :: (.null) :: (.null) :: (.null) :: (.null) :: (.null) :: (.null) :: (.null) :: (.null) :: (.null) :: (.null) :: (.null) :: (.null) :: (.null) :: (.int 0) :: (.int 0) :: (.int 0) :: (.null) :: (.null) :: (.null) :: (.null) :: []) := by rw [he_14]; exact up_self
  refine lv_aload_n hx hb dX15_init_30 rfl (lv_at hl 0 rfl) ?_
  refine lv_bipush (v := 40) hx hb dX15_init_31 (by decide) ?_
  refine va_newa (atype := .int) (ty := .int) (a0 := (40, .inl (fun _ => 0))) (N' := 40) hx hb (hts _ kt_1007) rfl hK hP hD hS hA (fun _ => rfl) (by decide) (by decide) (by show _ * 4 ≤ _; omega) (by show _ + 1 ≤ 254; omega) (by show _ + 40 ≤ 82375; omega) dX15_init_33 (fun q_16 cA H hKn hPa hDa hS => ?_)
  obtain rfl := cid_int hK hKn
  obtain ⟨L, ty, F_17, hN9, hold, holdF, hL_q_16, hT_q_16, hF_q_16⟩ := grow1m (e := (16, ρ + 31, [40])) hPa hDa hO hW (shm.ints rtf_self ⟨_, rfl⟩) (wtam_ints rtf_self ⟨by omega, by omega⟩)
  obtain ⟨hP, hD, hO, hW⟩ := hN9
  replace hT_h0 := (hold _ hL_h0).2.trans hT_h0
  have hF_h0 := (holdF _ hL_h0).1.trans hF_15
  replace hL_h0 := (hold _ hL_h0).1
  replace hfs := gr_cons hold hfs hL_q_16 hT_q_16
  refine pg_putF (ci := 15) (v := .ref q_16) (ty := .array .int) (C := RX15) (T := TX15) (N := 59) hx hb hts it_15 tyX15 tyX15_ok nmX15 hown hK hP hD hS hL_h0 hF_h0 rfl 6 (by decide) (hts _ kt_740) (fun _ h9 => h9) rfl hin rfl (by decide +kernel) (rfl) (rfl) (Nat.le_of_ble_eq_true rfl) dX15_init_35 (fun H locs hP hD hS => ?_)
  obtain ⟨F_18, he_19, hP, hD, hO⟩ : ∃ G, G = va_up F_17 h0 (.inr (15, (.ref q_1) :: (.int 0) :: (.int 0) :: (.int 0) :: (.ref q_6) :: (.ref q_11) :: (.ref q_16) :: (.null) :: (.null) :: (.null) :: (.null) :: (.int 0) :: (.int 0) :: (.null) :: (.int 0) :: (.int 0) :: (.null) :: (.int 0) :: (.int 0) :: (.int 0) :: (.int 0) :: (.int 0) :: (.int 0) :: (.null) :: (.null) :: (.null) :: (.null) :: (.null) :: (.null) :: (.null) :: (.int 0) :: (.int 0) :: (.int 0) :: (.int 0) :: (.null) :: (.null) :: (.null) :: (.null) :: (.null) :: (.null) :: (.null) :: (.null) :: (.null) :: (.null) :: (.null) :: (.null) :: (.null) :: (.null) :: (.null) :: (.null) :: (.null) :: (.null) :: (.int 0) :: (.int 0) :: (.int 0) :: (.null) :: (.null) :: (.null) :: (.null) :: [])) ∧ va_P (dC, dI) vwCl (va_pl L G) H ∧ va_D A (va_pl L G) ∧ OKm cs ty gm L G := ⟨_, rfl, hP, hD, hO.up (shm.raw hT_h0)⟩
  have hF_20 : F_18 h0 = .inr (15, (.ref q_1) :: (.int 0) :: (.int 0) :: (.int 0) :: (.ref q_6) :: (.ref q_11) :: (.ref q_16) :: (.null) :: (.null) :: (.null) :: (.null) :: (.int 0) :: (.int 0) :: (.null) :: (.int 0) :: (.int 0) :: (.null) :: (.int 0) :: (.int 0) :: (.int 0) :: (.int 0) :: (.int 0) :: (.int 0) :: (.null) :: (.null) :: (.null) :: (.null) :: (.null) :: (.null) :: (.null) :: (.int 0) :: (.int 0) :: (.int 0) :: (.int 0) :: (.null) :: (.null) :: (.null) :: (.null) :: (.null) :: (.null) :: (.null) :: (.null) :: (.null) :: (.null) :: (.null) :: (.null) :: (.null) :: (.null) :: (.null) :: (.null) :: (.null) :: (.null) :: (.int 0) :: (.int 0) :: (.int 0) :: (.null) :: (.null) :: (.null) :: (.null) :: []) := by rw [he_19]; exact up_self
  refine lv_aload_n hx hb dX15_init_38 rfl (lv_at hl 0 rfl) ?_
  refine lv_bipush (v := 40) hx hb dX15_init_39 (by decide) ?_
  refine va_newq (N' := 40) hx hb hown (hts _ kt_1121) (hE.ao14) hK hP hD hS hA (by decide) (by decide) (by decide) (by show _ + 1 ≤ 254; omega) (by show _ + 40 ≤ 82375; omega) dX15_init_41 (fun q_21 cA H hKn hPa hDa hS => ?_)
  obtain rfl := cid_o14 hK hKn
  obtain ⟨L, ty, F_22, hN9, hold, holdF, hL_q_21, hT_q_21, hF_q_21⟩ := grow1m (e := (99, 0, [])) hPa hDa hO hW (shm.raw rtf_self) (wtam_raw rtf_self)
  obtain ⟨hP, hD, hO, hW⟩ := hN9
  have hne_h0_q_21 := (holdF _ hL_h0).2
  replace hT_h0 := (hold _ hL_h0).2.trans hT_h0
  have hF_h0 := (holdF _ hL_h0).1.trans hF_20
  replace hL_h0 := (hold _ hL_h0).1
  replace hfs := gr_keep hold hfs
  refine pg_putF (ci := 15) (v := .ref q_21) (ty := .array (.object "PostGateModel$Text")) (C := RX15) (T := TX15) (N := 59) hx hb hts it_15 tyX15 tyX15_ok nmX15 hown hK hP hD hS hL_h0 hF_h0 rfl 7 (by decide) (hts _ kt_719) (fun _ h9 => h9) rfl hin rfl (by decide +kernel) (rfl) (rfl) (Nat.le_of_ble_eq_true rfl) dX15_init_44 (fun H locs hP hD hS => ?_)
  obtain ⟨F_23, he_24, hP, hD, hO⟩ : ∃ G, G = va_up F_22 h0 (.inr (15, (.ref q_1) :: (.int 0) :: (.int 0) :: (.int 0) :: (.ref q_6) :: (.ref q_11) :: (.ref q_16) :: (.ref q_21) :: (.null) :: (.null) :: (.null) :: (.int 0) :: (.int 0) :: (.null) :: (.int 0) :: (.int 0) :: (.null) :: (.int 0) :: (.int 0) :: (.int 0) :: (.int 0) :: (.int 0) :: (.int 0) :: (.null) :: (.null) :: (.null) :: (.null) :: (.null) :: (.null) :: (.null) :: (.int 0) :: (.int 0) :: (.int 0) :: (.int 0) :: (.null) :: (.null) :: (.null) :: (.null) :: (.null) :: (.null) :: (.null) :: (.null) :: (.null) :: (.null) :: (.null) :: (.null) :: (.null) :: (.null) :: (.null) :: (.null) :: (.null) :: (.null) :: (.int 0) :: (.int 0) :: (.int 0) :: (.null) :: (.null) :: (.null) :: (.null) :: [])) ∧ va_P (dC, dI) vwCl (va_pl L G) H ∧ va_D A (va_pl L G) ∧ OKm cs ty gm L G := ⟨_, rfl, hP, hD, hO.up (shm.raw hT_h0)⟩
  have hF_25 : F_23 h0 = .inr (15, (.ref q_1) :: (.int 0) :: (.int 0) :: (.int 0) :: (.ref q_6) :: (.ref q_11) :: (.ref q_16) :: (.ref q_21) :: (.null) :: (.null) :: (.null) :: (.int 0) :: (.int 0) :: (.null) :: (.int 0) :: (.int 0) :: (.null) :: (.int 0) :: (.int 0) :: (.int 0) :: (.int 0) :: (.int 0) :: (.int 0) :: (.null) :: (.null) :: (.null) :: (.null) :: (.null) :: (.null) :: (.null) :: (.int 0) :: (.int 0) :: (.int 0) :: (.int 0) :: (.null) :: (.null) :: (.null) :: (.null) :: (.null) :: (.null) :: (.null) :: (.null) :: (.null) :: (.null) :: (.null) :: (.null) :: (.null) :: (.null) :: (.null) :: (.null) :: (.null) :: (.null) :: (.int 0) :: (.int 0) :: (.int 0) :: (.null) :: (.null) :: (.null) :: (.null) :: []) := by rw [he_24]; exact up_self
  have hF_26 : F_23 q_21 = .inl (cs 23, 40, .inr (.inr (.inr (.inr (fun _ => none))))) := by rw [he_24, up_ne hne_h0_q_21.symm]; exact hF_q_21
  refine lv_aload_n hx hb dX15_init_47 rfl (lv_at hl 0 rfl) ?_
  refine lv_bipush (v := 40) hx hb dX15_init_48 (by decide) ?_
  refine va_newq (N' := 40) hx hb hown (hts _ kt_1121) (hE.ao14) hK hP hD hS hA (by decide) (by decide) (by decide) (by show _ + 1 ≤ 254; omega) (by show _ + 40 ≤ 82375; omega) dX15_init_50 (fun q_27 cA H hKn hPa hDa hS => ?_)
  obtain rfl := cid_o14 hK hKn
  obtain ⟨L, ty, F_28, hN9, hold, holdF, hL_q_27, hT_q_27, hF_q_27⟩ := grow1m (e := (99, 0, [])) hPa hDa hO hW (shm.raw rtf_self) (wtam_raw rtf_self)
  obtain ⟨hP, hD, hO, hW⟩ := hN9
  have hne_h0_q_27 := (holdF _ hL_h0).2
  replace hT_h0 := (hold _ hL_h0).2.trans hT_h0
  have hF_h0 := (holdF _ hL_h0).1.trans hF_25
  replace hL_h0 := (hold _ hL_h0).1
  have hne_q_21_q_27 := (holdF _ hL_q_21).2
  replace hT_q_21 := (hold _ hL_q_21).2.trans hT_q_21
  have hF_q_21 := (holdF _ hL_q_21).1.trans hF_26
  replace hL_q_21 := (hold _ hL_q_21).1
  replace hfs := gr_keep hold hfs
  refine pg_putF (ci := 15) (v := .ref q_27) (ty := .array (.object "PostGateModel$Text")) (C := RX15) (T := TX15) (N := 59) hx hb hts it_15 tyX15 tyX15_ok nmX15 hown hK hP hD hS hL_h0 hF_h0 rfl 8 (by decide) (hts _ kt_732) (fun _ h9 => h9) rfl hin rfl (by decide +kernel) (rfl) (rfl) (Nat.le_of_ble_eq_true rfl) dX15_init_53 (fun H locs hP hD hS => ?_)
  obtain ⟨F_29, he_30, hP, hD, hO⟩ : ∃ G, G = va_up F_28 h0 (.inr (15, (.ref q_1) :: (.int 0) :: (.int 0) :: (.int 0) :: (.ref q_6) :: (.ref q_11) :: (.ref q_16) :: (.ref q_21) :: (.ref q_27) :: (.null) :: (.null) :: (.int 0) :: (.int 0) :: (.null) :: (.int 0) :: (.int 0) :: (.null) :: (.int 0) :: (.int 0) :: (.int 0) :: (.int 0) :: (.int 0) :: (.int 0) :: (.null) :: (.null) :: (.null) :: (.null) :: (.null) :: (.null) :: (.null) :: (.int 0) :: (.int 0) :: (.int 0) :: (.int 0) :: (.null) :: (.null) :: (.null) :: (.null) :: (.null) :: (.null) :: (.null) :: (.null) :: (.null) :: (.null) :: (.null) :: (.null) :: (.null) :: (.null) :: (.null) :: (.null) :: (.null) :: (.null) :: (.int 0) :: (.int 0) :: (.int 0) :: (.null) :: (.null) :: (.null) :: (.null) :: [])) ∧ va_P (dC, dI) vwCl (va_pl L G) H ∧ va_D A (va_pl L G) ∧ OKm cs ty gm L G := ⟨_, rfl, hP, hD, hO.up (shm.raw hT_h0)⟩
  have hF_31 : F_29 h0 = .inr (15, (.ref q_1) :: (.int 0) :: (.int 0) :: (.int 0) :: (.ref q_6) :: (.ref q_11) :: (.ref q_16) :: (.ref q_21) :: (.ref q_27) :: (.null) :: (.null) :: (.int 0) :: (.int 0) :: (.null) :: (.int 0) :: (.int 0) :: (.null) :: (.int 0) :: (.int 0) :: (.int 0) :: (.int 0) :: (.int 0) :: (.int 0) :: (.null) :: (.null) :: (.null) :: (.null) :: (.null) :: (.null) :: (.null) :: (.int 0) :: (.int 0) :: (.int 0) :: (.int 0) :: (.null) :: (.null) :: (.null) :: (.null) :: (.null) :: (.null) :: (.null) :: (.null) :: (.null) :: (.null) :: (.null) :: (.null) :: (.null) :: (.null) :: (.null) :: (.null) :: (.null) :: (.null) :: (.int 0) :: (.int 0) :: (.int 0) :: (.null) :: (.null) :: (.null) :: (.null) :: []) := by rw [he_30]; exact up_self
  have hF_32 : F_29 q_21 = .inl (cs 23, 40, .inr (.inr (.inr (.inr (fun _ => none))))) := by rw [he_30, up_ne hne_h0_q_21.symm]; exact hF_q_21
  have hF_33 : F_29 q_27 = .inl (cs 23, 40, .inr (.inr (.inr (.inr (fun _ => none))))) := by rw [he_30, up_ne hne_h0_q_27.symm]; exact hF_q_27
  refine lv_aload_n hx hb dX15_init_56 rfl (lv_at hl 0 rfl) ?_
  refine va_new (ci := 14) (fs := [.null, .int 0]) (C := RX14) (T := TX14) (N := 2) hx hb hts it_14 tyX14 tyX14_ok hown (hts _ kt_1121) (hts _ kt_1035) (hts _ kt_676) hK hP hD hS hA rfl df_14 (by show _ + 1 ≤ 254; omega) (by show _ + 2 ≤ 82375; omega) dX15_init_57 (fun q_34 H hPa hDa hS => ?_)
  have hP := left1 hPa
  have hD := left2 hDa
  refine lv_dup hx hb dX15_init_60 rfl ?_
  refine lv_bipush (v := 30) hx hb dX15_init_61 (by decide) ?_
  refine W.eq (g2 := F0 m 63 ls [.int (nI 30), .ref q_34, .ref q_34, .ref h0]) rfl ?_
  have hFc := free1 hDa hS hA
  have hPq := right1 hPa
  refine va_callv (va_runI (As := [.int (nI 30)]) (rest := [.ref q_34, .ref h0]) ⟨hx, hb, hml, hown, hts⟩ (k_X14_init l dC dI cs gm H.size q_34 30 (ρ + 5) (by omega)) ⟨callB_of 1 hts (gi kt_1036) rfl rfl rfl (hts _ kt_676) (hts _ kt_1122) (by decide +kernel) ⟨Nat.le_of_ble_eq_true rfl, Nat.le_of_ble_eq_true rfl⟩, rfl, (hts _ kt_1038)⟩ ⟨fun a U g mk q => ⟨q.1, PTm.calling q.2⟩, fun U hU hWm => ⟨rfl, PTm.mk hU hWm hPq hK one1 hE (fun a _ => shm.raw rfl)⟩⟩ rfl rfl hl.1 rfl (lv_room (Nat.le_of_ble_eq_true rfl)) dX15_init_63 ⟨by show _ + 1 ≤ 254; omega, by show _ + 30 ≤ 82375; omega⟩) hS (fun q _ h => hFc q h) hFc (fun u t H1 locs ht hvm hw hB hz1 hk1 hS => ?_)
  obtain ⟨L2, F2, ty2, r_35, hN2, hc1, hc2⟩ := hB
  rw [ht] at hN2
  obtain ⟨L, ty, F_36, hN9, hold, holdF, hnew, hnewF⟩ := join1m hPa hDa hO hW hk1 hFc hN2
  obtain ⟨hP, hD, hO, hW⟩ := hN9
  generalize H1 = H at hP hS ⊢
  have hL_q_34 := (hnew _ hc1).1
  have hT_q_34 := (hnew _ hc1).2.trans hc2
  replace hT_h0 := (hold _ hL_h0).2.trans hT_h0
  have hF_h0 := (holdF _ hL_h0).1.trans hF_31
  replace hL_h0 := (hold _ hL_h0).1
  replace hT_q_21 := (hold _ hL_q_21).2.trans hT_q_21
  have hF_q_21 := (holdF _ hL_q_21).1.trans hF_32
  replace hL_q_21 := (hold _ hL_q_21).1
  replace hT_q_27 := (hold _ hL_q_27).2.trans hT_q_27
  have hF_q_27 := (holdF _ hL_q_27).1.trans hF_33
  replace hL_q_27 := (hold _ hL_q_27).1
  replace hfs := gr_cons hold hfs hL_q_34 hT_q_34
  refine pg_putF (ci := 15) (v := .ref q_34) (ty := .object "PostGateModel$Text") (C := RX15) (T := TX15) (N := 59) hx hb hts it_15 tyX15 tyX15_ok nmX15 hown hK hP hD hS hL_h0 hF_h0 rfl 9 (by decide) (hts _ kt_1123) (fun _ h9 => h9) rfl hin rfl (by decide +kernel) (rfl) (rfl) (Nat.le_of_ble_eq_true rfl) dX15_init_66 (fun H locs hP hD hS => ?_)
  obtain ⟨F_37, he_38, hP, hD, hO⟩ : ∃ G, G = va_up F_36 h0 (.inr (15, (.ref q_1) :: (.int 0) :: (.int 0) :: (.int 0) :: (.ref q_6) :: (.ref q_11) :: (.ref q_16) :: (.ref q_21) :: (.ref q_27) :: (.ref q_34) :: (.null) :: (.int 0) :: (.int 0) :: (.null) :: (.int 0) :: (.int 0) :: (.null) :: (.int 0) :: (.int 0) :: (.int 0) :: (.int 0) :: (.int 0) :: (.int 0) :: (.null) :: (.null) :: (.null) :: (.null) :: (.null) :: (.null) :: (.null) :: (.int 0) :: (.int 0) :: (.int 0) :: (.int 0) :: (.null) :: (.null) :: (.null) :: (.null) :: (.null) :: (.null) :: (.null) :: (.null) :: (.null) :: (.null) :: (.null) :: (.null) :: (.null) :: (.null) :: (.null) :: (.null) :: (.null) :: (.null) :: (.int 0) :: (.int 0) :: (.int 0) :: (.null) :: (.null) :: (.null) :: (.null) :: [])) ∧ va_P (dC, dI) vwCl (va_pl L G) H ∧ va_D A (va_pl L G) ∧ OKm cs ty gm L G := ⟨_, rfl, hP, hD, hO.up (shm.raw hT_h0)⟩
  have hF_39 : F_37 h0 = .inr (15, (.ref q_1) :: (.int 0) :: (.int 0) :: (.int 0) :: (.ref q_6) :: (.ref q_11) :: (.ref q_16) :: (.ref q_21) :: (.ref q_27) :: (.ref q_34) :: (.null) :: (.int 0) :: (.int 0) :: (.null) :: (.int 0) :: (.int 0) :: (.null) :: (.int 0) :: (.int 0) :: (.int 0) :: (.int 0) :: (.int 0) :: (.int 0) :: (.null) :: (.null) :: (.null) :: (.null) :: (.null) :: (.null) :: (.null) :: (.int 0) :: (.int 0) :: (.int 0) :: (.int 0) :: (.null) :: (.null) :: (.null) :: (.null) :: (.null) :: (.null) :: (.null) :: (.null) :: (.null) :: (.null) :: (.null) :: (.null) :: (.null) :: (.null) :: (.null) :: (.null) :: (.null) :: (.null) :: (.int 0) :: (.int 0) :: (.int 0) :: (.null) :: (.null) :: (.null) :: (.null) :: []) := by rw [he_38]; exact up_self
  have hF_40 : F_37 q_21 = .inl (cs 23, 40, .inr (.inr (.inr (.inr (fun _ => none))))) := by rw [he_38, up_ne hne_h0_q_21.symm]; exact hF_q_21
  have hF_41 : F_37 q_27 = .inl (cs 23, 40, .inr (.inr (.inr (.inr (fun _ => none))))) := by rw [he_38, up_ne hne_h0_q_27.symm]; exact hF_q_27
  refine lv_aload_n hx hb dX15_init_69 rfl (lv_at hl 0 rfl) ?_
  refine va_new (ci := 14) (fs := [.null, .int 0]) (C := RX14) (T := TX14) (N := 2) hx hb hts it_14 tyX14 tyX14_ok hown (hts _ kt_1121) (hts _ kt_1035) (hts _ kt_676) hK hP hD hS hA rfl df_14 (by show _ + 1 ≤ 254; omega) (by show _ + 2 ≤ 82375; omega) dX15_init_70 (fun q_42 H hPa hDa hS => ?_)
  have hP := left1 hPa
  have hD := left2 hDa
  refine lv_dup hx hb dX15_init_73 rfl ?_
  refine lv_bipush (v := 60) hx hb dX15_init_74 (by decide) ?_
  refine W.eq (g2 := F0 m 76 ls [.int (nI 60), .ref q_42, .ref q_42, .ref h0]) rfl ?_
  have hFc := free1 hDa hS hA
  have hPq := right1 hPa
  refine va_callv (va_runI (As := [.int (nI 60)]) (rest := [.ref q_42, .ref h0]) ⟨hx, hb, hml, hown, hts⟩ (k_X14_init l dC dI cs gm H.size q_42 60 (ρ + 32) (by omega)) ⟨callB_of 1 hts (gi kt_1036) rfl rfl rfl (hts _ kt_676) (hts _ kt_1122) (by decide +kernel) ⟨Nat.le_of_ble_eq_true rfl, Nat.le_of_ble_eq_true rfl⟩, rfl, (hts _ kt_1038)⟩ ⟨fun a U g mk q => ⟨q.1, PTm.calling q.2⟩, fun U hU hWm => ⟨rfl, PTm.mk hU hWm hPq hK one1 hE (fun a _ => shm.raw rfl)⟩⟩ rfl rfl hl.1 rfl (lv_room (Nat.le_of_ble_eq_true rfl)) dX15_init_76 ⟨by show _ + 1 ≤ 254; omega, by show _ + 60 ≤ 82375; omega⟩) hS (fun q _ h => hFc q h) hFc (fun u t H1 locs ht hvm hw hB hz1 hk1 hS => ?_)
  obtain ⟨L2, F2, ty2, r_43, hN2, hc1, hc2⟩ := hB
  rw [ht] at hN2
  obtain ⟨L, ty, F_44, hN9, hold, holdF, hnew, hnewF⟩ := join1m hPa hDa hO hW hk1 hFc hN2
  obtain ⟨hP, hD, hO, hW⟩ := hN9
  generalize H1 = H at hP hS ⊢
  have hL_q_42 := (hnew _ hc1).1
  have hT_q_42 := (hnew _ hc1).2.trans hc2
  replace hT_h0 := (hold _ hL_h0).2.trans hT_h0
  have hF_h0 := (holdF _ hL_h0).1.trans hF_39
  replace hL_h0 := (hold _ hL_h0).1
  replace hT_q_21 := (hold _ hL_q_21).2.trans hT_q_21
  have hF_q_21 := (holdF _ hL_q_21).1.trans hF_40
  replace hL_q_21 := (hold _ hL_q_21).1
  replace hT_q_27 := (hold _ hL_q_27).2.trans hT_q_27
  have hF_q_27 := (holdF _ hL_q_27).1.trans hF_41
  replace hL_q_27 := (hold _ hL_q_27).1
  replace hfs := gr_cons hold hfs hL_q_42 hT_q_42
  refine pg_putF (ci := 15) (v := .ref q_42) (ty := .object "PostGateModel$Text") (C := RX15) (T := TX15) (N := 59) hx hb hts it_15 tyX15 tyX15_ok nmX15 hown hK hP hD hS hL_h0 hF_h0 rfl 10 (by decide) (hts _ kt_1124) (fun _ h9 => h9) rfl hin rfl (by decide +kernel) (rfl) (rfl) (Nat.le_of_ble_eq_true rfl) dX15_init_79 (fun H locs hP hD hS => ?_)
  obtain ⟨F_45, he_46, hP, hD, hO⟩ : ∃ G, G = va_up F_44 h0 (.inr (15, (.ref q_1) :: (.int 0) :: (.int 0) :: (.int 0) :: (.ref q_6) :: (.ref q_11) :: (.ref q_16) :: (.ref q_21) :: (.ref q_27) :: (.ref q_34) :: (.ref q_42) :: (.int 0) :: (.int 0) :: (.null) :: (.int 0) :: (.int 0) :: (.null) :: (.int 0) :: (.int 0) :: (.int 0) :: (.int 0) :: (.int 0) :: (.int 0) :: (.null) :: (.null) :: (.null) :: (.null) :: (.null) :: (.null) :: (.null) :: (.int 0) :: (.int 0) :: (.int 0) :: (.int 0) :: (.null) :: (.null) :: (.null) :: (.null) :: (.null) :: (.null) :: (.null) :: (.null) :: (.null) :: (.null) :: (.null) :: (.null) :: (.null) :: (.null) :: (.null) :: (.null) :: (.null) :: (.null) :: (.int 0) :: (.int 0) :: (.int 0) :: (.null) :: (.null) :: (.null) :: (.null) :: [])) ∧ va_P (dC, dI) vwCl (va_pl L G) H ∧ va_D A (va_pl L G) ∧ OKm cs ty gm L G := ⟨_, rfl, hP, hD, hO.up (shm.raw hT_h0)⟩
  have hF_47 : F_45 h0 = .inr (15, (.ref q_1) :: (.int 0) :: (.int 0) :: (.int 0) :: (.ref q_6) :: (.ref q_11) :: (.ref q_16) :: (.ref q_21) :: (.ref q_27) :: (.ref q_34) :: (.ref q_42) :: (.int 0) :: (.int 0) :: (.null) :: (.int 0) :: (.int 0) :: (.null) :: (.int 0) :: (.int 0) :: (.int 0) :: (.int 0) :: (.int 0) :: (.int 0) :: (.null) :: (.null) :: (.null) :: (.null) :: (.null) :: (.null) :: (.null) :: (.int 0) :: (.int 0) :: (.int 0) :: (.int 0) :: (.null) :: (.null) :: (.null) :: (.null) :: (.null) :: (.null) :: (.null) :: (.null) :: (.null) :: (.null) :: (.null) :: (.null) :: (.null) :: (.null) :: (.null) :: (.null) :: (.null) :: (.null) :: (.int 0) :: (.int 0) :: (.int 0) :: (.null) :: (.null) :: (.null) :: (.null) :: []) := by rw [he_46]; exact up_self
  have hF_48 : F_45 q_21 = .inl (cs 23, 40, .inr (.inr (.inr (.inr (fun _ => none))))) := by rw [he_46, up_ne hne_h0_q_21.symm]; exact hF_q_21
  have hF_49 : F_45 q_27 = .inl (cs 23, 40, .inr (.inr (.inr (.inr (fun _ => none))))) := by rw [he_46, up_ne hne_h0_q_27.symm]; exact hF_q_27
  refine lv_aload_n hx hb dX15_init_82 rfl (lv_at hl 0 rfl) ?_
  refine lv_bipush (v := 13) hx hb dX15_init_83 (by decide) ?_
  refine va_newq (N' := 13) hx hb hown (hts _ kt_1121) (hE.ao14) hK hP hD hS hA (by decide) (by decide) (by decide) (by show _ + 1 ≤ 254; omega) (by show _ + 13 ≤ 82375; omega) dX15_init_85 (fun q_50 cA H hKn hPa hDa hS => ?_)
  obtain rfl := cid_o14 hK hKn
  obtain ⟨L, ty, F_51, hN9, hold, holdF, hL_q_50, hT_q_50, hF_q_50⟩ := grow1m (e := (99, 0, [])) hPa hDa hO hW (shm.raw rtf_self) (wtam_raw rtf_self)
  obtain ⟨hP, hD, hO, hW⟩ := hN9
  have hne_h0_q_50 := (holdF _ hL_h0).2
  replace hT_h0 := (hold _ hL_h0).2.trans hT_h0
  have hF_h0 := (holdF _ hL_h0).1.trans hF_47
  replace hL_h0 := (hold _ hL_h0).1
  have hne_q_21_q_50 := (holdF _ hL_q_21).2
  replace hT_q_21 := (hold _ hL_q_21).2.trans hT_q_21
  have hF_q_21 := (holdF _ hL_q_21).1.trans hF_48
  replace hL_q_21 := (hold _ hL_q_21).1
  have hne_q_27_q_50 := (holdF _ hL_q_27).2
  replace hT_q_27 := (hold _ hL_q_27).2.trans hT_q_27
  have hF_q_27 := (holdF _ hL_q_27).1.trans hF_49
  replace hL_q_27 := (hold _ hL_q_27).1
  replace hfs := gr_keep hold hfs
  refine pg_putF (ci := 15) (v := .ref q_50) (ty := .array (.object "PostGateModel$Text")) (C := RX15) (T := TX15) (N := 59) hx hb hts it_15 tyX15 tyX15_ok nmX15 hown hK hP hD hS hL_h0 hF_h0 rfl 13 (by decide) (hts _ kt_1125) (fun _ h9 => h9) rfl hin rfl (by decide +kernel) (rfl) (rfl) (Nat.le_of_ble_eq_true rfl) dX15_init_88 (fun H locs hP hD hS => ?_)
  obtain ⟨F_52, he_53, hP, hD, hO⟩ : ∃ G, G = va_up F_51 h0 (.inr (15, (.ref q_1) :: (.int 0) :: (.int 0) :: (.int 0) :: (.ref q_6) :: (.ref q_11) :: (.ref q_16) :: (.ref q_21) :: (.ref q_27) :: (.ref q_34) :: (.ref q_42) :: (.int 0) :: (.int 0) :: (.ref q_50) :: (.int 0) :: (.int 0) :: (.null) :: (.int 0) :: (.int 0) :: (.int 0) :: (.int 0) :: (.int 0) :: (.int 0) :: (.null) :: (.null) :: (.null) :: (.null) :: (.null) :: (.null) :: (.null) :: (.int 0) :: (.int 0) :: (.int 0) :: (.int 0) :: (.null) :: (.null) :: (.null) :: (.null) :: (.null) :: (.null) :: (.null) :: (.null) :: (.null) :: (.null) :: (.null) :: (.null) :: (.null) :: (.null) :: (.null) :: (.null) :: (.null) :: (.null) :: (.int 0) :: (.int 0) :: (.int 0) :: (.null) :: (.null) :: (.null) :: (.null) :: [])) ∧ va_P (dC, dI) vwCl (va_pl L G) H ∧ va_D A (va_pl L G) ∧ OKm cs ty gm L G := ⟨_, rfl, hP, hD, hO.up (shm.raw hT_h0)⟩
  have hF_54 : F_52 h0 = .inr (15, (.ref q_1) :: (.int 0) :: (.int 0) :: (.int 0) :: (.ref q_6) :: (.ref q_11) :: (.ref q_16) :: (.ref q_21) :: (.ref q_27) :: (.ref q_34) :: (.ref q_42) :: (.int 0) :: (.int 0) :: (.ref q_50) :: (.int 0) :: (.int 0) :: (.null) :: (.int 0) :: (.int 0) :: (.int 0) :: (.int 0) :: (.int 0) :: (.int 0) :: (.null) :: (.null) :: (.null) :: (.null) :: (.null) :: (.null) :: (.null) :: (.int 0) :: (.int 0) :: (.int 0) :: (.int 0) :: (.null) :: (.null) :: (.null) :: (.null) :: (.null) :: (.null) :: (.null) :: (.null) :: (.null) :: (.null) :: (.null) :: (.null) :: (.null) :: (.null) :: (.null) :: (.null) :: (.null) :: (.null) :: (.int 0) :: (.int 0) :: (.int 0) :: (.null) :: (.null) :: (.null) :: (.null) :: []) := by rw [he_53]; exact up_self
  have hF_55 : F_52 q_21 = .inl (cs 23, 40, .inr (.inr (.inr (.inr (fun _ => none))))) := by rw [he_53, up_ne hne_h0_q_21.symm]; exact hF_q_21
  have hF_56 : F_52 q_27 = .inl (cs 23, 40, .inr (.inr (.inr (.inr (fun _ => none))))) := by rw [he_53, up_ne hne_h0_q_27.symm]; exact hF_q_27
  have hF_57 : F_52 q_50 = .inl (cs 23, 13, .inr (.inr (.inr (.inr (fun _ => none))))) := by rw [he_53, up_ne hne_h0_q_50.symm]; exact hF_q_50
  refine lv_aload_n hx hb dX15_init_91 rfl (lv_at hl 0 rfl) ?_
  refine va_new (ci := 14) (fs := [.null, .int 0]) (C := RX14) (T := TX14) (N := 2) hx hb hts it_14 tyX14 tyX14_ok hown (hts _ kt_1121) (hts _ kt_1035) (hts _ kt_676) hK hP hD hS hA rfl df_14 (by show _ + 1 ≤ 254; omega) (by show _ + 2 ≤ 82375; omega) dX15_init_92 (fun q_58 H hPa hDa hS => ?_)
  have hP := left1 hPa
  have hD := left2 hDa
  refine lv_dup hx hb dX15_init_95 rfl ?_
  refine lv_bipush (v := 100) hx hb dX15_init_96 (by decide) ?_
  refine W.eq (g2 := F0 m 98 ls [.int (nI 100), .ref q_58, .ref q_58, .ref h0]) rfl ?_
  have hFc := free1 hDa hS hA
  have hPq := right1 hPa
  refine va_callv (va_runI (As := [.int (nI 100)]) (rest := [.ref q_58, .ref h0]) ⟨hx, hb, hml, hown, hts⟩ (k_X14_init l dC dI cs gm H.size q_58 100 (ρ + 7) (by omega)) ⟨callB_of 1 hts (gi kt_1036) rfl rfl rfl (hts _ kt_676) (hts _ kt_1122) (by decide +kernel) ⟨Nat.le_of_ble_eq_true rfl, Nat.le_of_ble_eq_true rfl⟩, rfl, (hts _ kt_1038)⟩ ⟨fun a U g mk q => ⟨q.1, PTm.calling q.2⟩, fun U hU hWm => ⟨rfl, PTm.mk hU hWm hPq hK one1 hE (fun a _ => shm.raw rfl)⟩⟩ rfl rfl hl.1 rfl (lv_room (Nat.le_of_ble_eq_true rfl)) dX15_init_98 ⟨by show _ + 1 ≤ 254; omega, by show _ + 100 ≤ 82375; omega⟩) hS (fun q _ h => hFc q h) hFc (fun u t H1 locs ht hvm hw hB hz1 hk1 hS => ?_)
  obtain ⟨L2, F2, ty2, r_59, hN2, hc1, hc2⟩ := hB
  rw [ht] at hN2
  obtain ⟨L, ty, F_60, hN9, hold, holdF, hnew, hnewF⟩ := join1m hPa hDa hO hW hk1 hFc hN2
  obtain ⟨hP, hD, hO, hW⟩ := hN9
  generalize H1 = H at hP hS ⊢
  have hL_q_58 := (hnew _ hc1).1
  have hT_q_58 := (hnew _ hc1).2.trans hc2
  replace hT_h0 := (hold _ hL_h0).2.trans hT_h0
  have hF_h0 := (holdF _ hL_h0).1.trans hF_54
  replace hL_h0 := (hold _ hL_h0).1
  replace hT_q_21 := (hold _ hL_q_21).2.trans hT_q_21
  have hF_q_21 := (holdF _ hL_q_21).1.trans hF_55
  replace hL_q_21 := (hold _ hL_q_21).1
  replace hT_q_27 := (hold _ hL_q_27).2.trans hT_q_27
  have hF_q_27 := (holdF _ hL_q_27).1.trans hF_56
  replace hL_q_27 := (hold _ hL_q_27).1
  replace hT_q_50 := (hold _ hL_q_50).2.trans hT_q_50
  have hF_q_50 := (holdF _ hL_q_50).1.trans hF_57
  replace hL_q_50 := (hold _ hL_q_50).1
  replace hfs := gr_cons hold hfs hL_q_58 hT_q_58
  refine pg_putF (ci := 15) (v := .ref q_58) (ty := .object "PostGateModel$Text") (C := RX15) (T := TX15) (N := 59) hx hb hts it_15 tyX15 tyX15_ok nmX15 hown hK hP hD hS hL_h0 hF_h0 rfl 16 (by decide) (hts _ kt_1126) (fun _ h9 => h9) rfl hin rfl (by decide +kernel) (rfl) (rfl) (Nat.le_of_ble_eq_true rfl) dX15_init_101 (fun H locs hP hD hS => ?_)
  obtain ⟨F_61, he_62, hP, hD, hO⟩ : ∃ G, G = va_up F_60 h0 (.inr (15, (.ref q_1) :: (.int 0) :: (.int 0) :: (.int 0) :: (.ref q_6) :: (.ref q_11) :: (.ref q_16) :: (.ref q_21) :: (.ref q_27) :: (.ref q_34) :: (.ref q_42) :: (.int 0) :: (.int 0) :: (.ref q_50) :: (.int 0) :: (.int 0) :: (.ref q_58) :: (.int 0) :: (.int 0) :: (.int 0) :: (.int 0) :: (.int 0) :: (.int 0) :: (.null) :: (.null) :: (.null) :: (.null) :: (.null) :: (.null) :: (.null) :: (.int 0) :: (.int 0) :: (.int 0) :: (.int 0) :: (.null) :: (.null) :: (.null) :: (.null) :: (.null) :: (.null) :: (.null) :: (.null) :: (.null) :: (.null) :: (.null) :: (.null) :: (.null) :: (.null) :: (.null) :: (.null) :: (.null) :: (.null) :: (.int 0) :: (.int 0) :: (.int 0) :: (.null) :: (.null) :: (.null) :: (.null) :: [])) ∧ va_P (dC, dI) vwCl (va_pl L G) H ∧ va_D A (va_pl L G) ∧ OKm cs ty gm L G := ⟨_, rfl, hP, hD, hO.up (shm.raw hT_h0)⟩
  have hF_63 : F_61 h0 = .inr (15, (.ref q_1) :: (.int 0) :: (.int 0) :: (.int 0) :: (.ref q_6) :: (.ref q_11) :: (.ref q_16) :: (.ref q_21) :: (.ref q_27) :: (.ref q_34) :: (.ref q_42) :: (.int 0) :: (.int 0) :: (.ref q_50) :: (.int 0) :: (.int 0) :: (.ref q_58) :: (.int 0) :: (.int 0) :: (.int 0) :: (.int 0) :: (.int 0) :: (.int 0) :: (.null) :: (.null) :: (.null) :: (.null) :: (.null) :: (.null) :: (.null) :: (.int 0) :: (.int 0) :: (.int 0) :: (.int 0) :: (.null) :: (.null) :: (.null) :: (.null) :: (.null) :: (.null) :: (.null) :: (.null) :: (.null) :: (.null) :: (.null) :: (.null) :: (.null) :: (.null) :: (.null) :: (.null) :: (.null) :: (.null) :: (.int 0) :: (.int 0) :: (.int 0) :: (.null) :: (.null) :: (.null) :: (.null) :: []) := by rw [he_62]; exact up_self
  have hF_64 : F_61 q_21 = .inl (cs 23, 40, .inr (.inr (.inr (.inr (fun _ => none))))) := by rw [he_62, up_ne hne_h0_q_21.symm]; exact hF_q_21
  have hF_65 : F_61 q_27 = .inl (cs 23, 40, .inr (.inr (.inr (.inr (fun _ => none))))) := by rw [he_62, up_ne hne_h0_q_27.symm]; exact hF_q_27
  have hF_66 : F_61 q_50 = .inl (cs 23, 13, .inr (.inr (.inr (.inr (fun _ => none))))) := by rw [he_62, up_ne hne_h0_q_50.symm]; exact hF_q_50
  refine lv_aload_n hx hb dX15_init_104 rfl (lv_at hl 0 rfl) ?_
  refine lv_sipush (v := 3000) hx hb dX15_init_105 (by decide) ?_
  refine va_newa (atype := .byte) (ty := .byte) (a0 := (3000, .inl (fun _ => 0))) (N' := 3000) hx hb (hts _ kt_1032) rfl hK hP hD hS hA (fun _ => rfl) (by decide) (by decide) (by show _ * 1 ≤ _; omega) (by show _ + 1 ≤ 254; omega) (by show _ + 3000 ≤ 82375; omega) dX15_init_108 (fun q_67 cA H hKn hPa hDa hS => ?_)
  obtain rfl := cid_byte hK hKn
  obtain ⟨L, ty, F_68, hN9, hold, holdF, hL_q_67, hT_q_67, hF_q_67⟩ := grow1m (e := (17, ρ + 8, [3000])) hPa hDa hO hW (shm.octs rtf_self ⟨_, rfl, fun _ => rfl⟩) (wtam_octs rtf_self ⟨by omega, by omega⟩)
  obtain ⟨hP, hD, hO, hW⟩ := hN9
  replace hT_h0 := (hold _ hL_h0).2.trans hT_h0
  have hF_h0 := (holdF _ hL_h0).1.trans hF_63
  replace hL_h0 := (hold _ hL_h0).1
  replace hT_q_21 := (hold _ hL_q_21).2.trans hT_q_21
  have hF_q_21 := (holdF _ hL_q_21).1.trans hF_64
  replace hL_q_21 := (hold _ hL_q_21).1
  replace hT_q_27 := (hold _ hL_q_27).2.trans hT_q_27
  have hF_q_27 := (holdF _ hL_q_27).1.trans hF_65
  replace hL_q_27 := (hold _ hL_q_27).1
  replace hT_q_50 := (hold _ hL_q_50).2.trans hT_q_50
  have hF_q_50 := (holdF _ hL_q_50).1.trans hF_66
  replace hL_q_50 := (hold _ hL_q_50).1
  replace hfs := gr_cons hold hfs hL_q_67 hT_q_67
  refine pg_putF (ci := 15) (v := .ref q_67) (ty := .array .byte) (C := RX15) (T := TX15) (N := 59) hx hb hts it_15 tyX15 tyX15_ok nmX15 hown hK hP hD hS hL_h0 hF_h0 rfl 23 (by decide) (hts _ kt_887) (fun _ h9 => h9) rfl hin rfl (by decide +kernel) (rfl) (rfl) (Nat.le_of_ble_eq_true rfl) dX15_init_110 (fun H locs hP hD hS => ?_)
  obtain ⟨F_69, he_70, hP, hD, hO⟩ : ∃ G, G = va_up F_68 h0 (.inr (15, (.ref q_1) :: (.int 0) :: (.int 0) :: (.int 0) :: (.ref q_6) :: (.ref q_11) :: (.ref q_16) :: (.ref q_21) :: (.ref q_27) :: (.ref q_34) :: (.ref q_42) :: (.int 0) :: (.int 0) :: (.ref q_50) :: (.int 0) :: (.int 0) :: (.ref q_58) :: (.int 0) :: (.int 0) :: (.int 0) :: (.int 0) :: (.int 0) :: (.int 0) :: (.ref q_67) :: (.null) :: (.null) :: (.null) :: (.null) :: (.null) :: (.null) :: (.int 0) :: (.int 0) :: (.int 0) :: (.int 0) :: (.null) :: (.null) :: (.null) :: (.null) :: (.null) :: (.null) :: (.null) :: (.null) :: (.null) :: (.null) :: (.null) :: (.null) :: (.null) :: (.null) :: (.null) :: (.null) :: (.null) :: (.null) :: (.int 0) :: (.int 0) :: (.int 0) :: (.null) :: (.null) :: (.null) :: (.null) :: [])) ∧ va_P (dC, dI) vwCl (va_pl L G) H ∧ va_D A (va_pl L G) ∧ OKm cs ty gm L G := ⟨_, rfl, hP, hD, hO.up (shm.raw hT_h0)⟩
  have hF_71 : F_69 h0 = .inr (15, (.ref q_1) :: (.int 0) :: (.int 0) :: (.int 0) :: (.ref q_6) :: (.ref q_11) :: (.ref q_16) :: (.ref q_21) :: (.ref q_27) :: (.ref q_34) :: (.ref q_42) :: (.int 0) :: (.int 0) :: (.ref q_50) :: (.int 0) :: (.int 0) :: (.ref q_58) :: (.int 0) :: (.int 0) :: (.int 0) :: (.int 0) :: (.int 0) :: (.int 0) :: (.ref q_67) :: (.null) :: (.null) :: (.null) :: (.null) :: (.null) :: (.null) :: (.int 0) :: (.int 0) :: (.int 0) :: (.int 0) :: (.null) :: (.null) :: (.null) :: (.null) :: (.null) :: (.null) :: (.null) :: (.null) :: (.null) :: (.null) :: (.null) :: (.null) :: (.null) :: (.null) :: (.null) :: (.null) :: (.null) :: (.null) :: (.int 0) :: (.int 0) :: (.int 0) :: (.null) :: (.null) :: (.null) :: (.null) :: []) := by rw [he_70]; exact up_self
  have hF_72 : F_69 q_21 = .inl (cs 23, 40, .inr (.inr (.inr (.inr (fun _ => none))))) := by rw [he_70, up_ne hne_h0_q_21.symm]; exact hF_q_21
  have hF_73 : F_69 q_27 = .inl (cs 23, 40, .inr (.inr (.inr (.inr (fun _ => none))))) := by rw [he_70, up_ne hne_h0_q_27.symm]; exact hF_q_27
  have hF_74 : F_69 q_50 = .inl (cs 23, 13, .inr (.inr (.inr (.inr (fun _ => none))))) := by rw [he_70, up_ne hne_h0_q_50.symm]; exact hF_q_50
  refine lv_aload_n hx hb dX15_init_113 rfl (lv_at hl 0 rfl) ?_
  refine lv_bipush (v := 21) hx hb dX15_init_114 (by decide) ?_
  refine va_newa (atype := .int) (ty := .int) (a0 := (21, .inl (fun _ => 0))) (N' := 21) hx hb (hts _ kt_1007) rfl hK hP hD hS hA (fun _ => rfl) (by decide) (by decide) (by show _ * 4 ≤ _; omega) (by show _ + 1 ≤ 254; omega) (by show _ + 21 ≤ 82375; omega) dX15_init_116 (fun q_75 cA H hKn hPa hDa hS => ?_)
  obtain rfl := cid_int hK hKn
  obtain ⟨L, ty, F_76, hN9, hold, holdF, hL_q_75, hT_q_75, hF_q_75⟩ := grow1m (e := (26, ρ + 8, [0])) hPa hDa hO hW (shm.pos rtf_self ⟨_, rfl, fun j _ => by rw [hg0]; rfl⟩) (wtam_pos rtf_self trivial)
  obtain ⟨hP, hD, hO, hW⟩ := hN9
  replace hT_h0 := (hold _ hL_h0).2.trans hT_h0
  have hF_h0 := (holdF _ hL_h0).1.trans hF_71
  replace hL_h0 := (hold _ hL_h0).1
  replace hT_q_21 := (hold _ hL_q_21).2.trans hT_q_21
  have hF_q_21 := (holdF _ hL_q_21).1.trans hF_72
  replace hL_q_21 := (hold _ hL_q_21).1
  replace hT_q_27 := (hold _ hL_q_27).2.trans hT_q_27
  have hF_q_27 := (holdF _ hL_q_27).1.trans hF_73
  replace hL_q_27 := (hold _ hL_q_27).1
  replace hT_q_50 := (hold _ hL_q_50).2.trans hT_q_50
  have hF_q_50 := (holdF _ hL_q_50).1.trans hF_74
  replace hL_q_50 := (hold _ hL_q_50).1
  replace hfs := gr_cons hold hfs hL_q_75 hT_q_75
  refine pg_putF (ci := 15) (v := .ref q_75) (ty := .array .int) (C := RX15) (T := TX15) (N := 59) hx hb hts it_15 tyX15 tyX15_ok nmX15 hown hK hP hD hS hL_h0 hF_h0 rfl 24 (by decide) (hts _ kt_888) (fun _ h9 => h9) rfl hin rfl (by decide +kernel) (rfl) (rfl) (Nat.le_of_ble_eq_true rfl) dX15_init_118 (fun H locs hP hD hS => ?_)
  obtain ⟨F_77, he_78, hP, hD, hO⟩ : ∃ G, G = va_up F_76 h0 (.inr (15, (.ref q_1) :: (.int 0) :: (.int 0) :: (.int 0) :: (.ref q_6) :: (.ref q_11) :: (.ref q_16) :: (.ref q_21) :: (.ref q_27) :: (.ref q_34) :: (.ref q_42) :: (.int 0) :: (.int 0) :: (.ref q_50) :: (.int 0) :: (.int 0) :: (.ref q_58) :: (.int 0) :: (.int 0) :: (.int 0) :: (.int 0) :: (.int 0) :: (.int 0) :: (.ref q_67) :: (.ref q_75) :: (.null) :: (.null) :: (.null) :: (.null) :: (.null) :: (.int 0) :: (.int 0) :: (.int 0) :: (.int 0) :: (.null) :: (.null) :: (.null) :: (.null) :: (.null) :: (.null) :: (.null) :: (.null) :: (.null) :: (.null) :: (.null) :: (.null) :: (.null) :: (.null) :: (.null) :: (.null) :: (.null) :: (.null) :: (.int 0) :: (.int 0) :: (.int 0) :: (.null) :: (.null) :: (.null) :: (.null) :: [])) ∧ va_P (dC, dI) vwCl (va_pl L G) H ∧ va_D A (va_pl L G) ∧ OKm cs ty gm L G := ⟨_, rfl, hP, hD, hO.up (shm.raw hT_h0)⟩
  have hF_79 : F_77 h0 = .inr (15, (.ref q_1) :: (.int 0) :: (.int 0) :: (.int 0) :: (.ref q_6) :: (.ref q_11) :: (.ref q_16) :: (.ref q_21) :: (.ref q_27) :: (.ref q_34) :: (.ref q_42) :: (.int 0) :: (.int 0) :: (.ref q_50) :: (.int 0) :: (.int 0) :: (.ref q_58) :: (.int 0) :: (.int 0) :: (.int 0) :: (.int 0) :: (.int 0) :: (.int 0) :: (.ref q_67) :: (.ref q_75) :: (.null) :: (.null) :: (.null) :: (.null) :: (.null) :: (.int 0) :: (.int 0) :: (.int 0) :: (.int 0) :: (.null) :: (.null) :: (.null) :: (.null) :: (.null) :: (.null) :: (.null) :: (.null) :: (.null) :: (.null) :: (.null) :: (.null) :: (.null) :: (.null) :: (.null) :: (.null) :: (.null) :: (.null) :: (.int 0) :: (.int 0) :: (.int 0) :: (.null) :: (.null) :: (.null) :: (.null) :: []) := by rw [he_78]; exact up_self
  have hF_80 : F_77 q_21 = .inl (cs 23, 40, .inr (.inr (.inr (.inr (fun _ => none))))) := by rw [he_78, up_ne hne_h0_q_21.symm]; exact hF_q_21
  have hF_81 : F_77 q_27 = .inl (cs 23, 40, .inr (.inr (.inr (.inr (fun _ => none))))) := by rw [he_78, up_ne hne_h0_q_27.symm]; exact hF_q_27
  have hF_82 : F_77 q_50 = .inl (cs 23, 13, .inr (.inr (.inr (.inr (fun _ => none))))) := by rw [he_78, up_ne hne_h0_q_50.symm]; exact hF_q_50
  refine lv_aload_n hx hb dX15_init_121 rfl (lv_at hl 0 rfl) ?_
  refine lv_bipush (v := 21) hx hb dX15_init_122 (by decide) ?_
  refine va_newa (atype := .int) (ty := .int) (a0 := (21, .inl (fun _ => 0))) (N' := 21) hx hb (hts _ kt_1007) rfl hK hP hD hS hA (fun _ => rfl) (by decide) (by decide) (by show _ * 4 ≤ _; omega) (by show _ + 1 ≤ 254; omega) (by show _ + 21 ≤ 82375; omega) dX15_init_124 (fun q_83 cA H hKn hPa hDa hS => ?_)
  obtain rfl := cid_int hK hKn
  obtain ⟨L, ty, F_84, hN9, hold, holdF, hL_q_83, hT_q_83, hF_q_83⟩ := grow1m (e := (26, ρ + 8, [1])) hPa hDa hO hW (shm.pos rtf_self ⟨_, rfl, fun j _ => by rw [hg0]; rfl⟩) (wtam_pos rtf_self trivial)
  obtain ⟨hP, hD, hO, hW⟩ := hN9
  replace hT_h0 := (hold _ hL_h0).2.trans hT_h0
  have hF_h0 := (holdF _ hL_h0).1.trans hF_79
  replace hL_h0 := (hold _ hL_h0).1
  replace hT_q_21 := (hold _ hL_q_21).2.trans hT_q_21
  have hF_q_21 := (holdF _ hL_q_21).1.trans hF_80
  replace hL_q_21 := (hold _ hL_q_21).1
  replace hT_q_27 := (hold _ hL_q_27).2.trans hT_q_27
  have hF_q_27 := (holdF _ hL_q_27).1.trans hF_81
  replace hL_q_27 := (hold _ hL_q_27).1
  replace hT_q_50 := (hold _ hL_q_50).2.trans hT_q_50
  have hF_q_50 := (holdF _ hL_q_50).1.trans hF_82
  replace hL_q_50 := (hold _ hL_q_50).1
  replace hfs := gr_cons hold hfs hL_q_83 hT_q_83
  refine pg_putF (ci := 15) (v := .ref q_83) (ty := .array .int) (C := RX15) (T := TX15) (N := 59) hx hb hts it_15 tyX15 tyX15_ok nmX15 hown hK hP hD hS hL_h0 hF_h0 rfl 25 (by decide) (hts _ kt_889) (fun _ h9 => h9) rfl hin rfl (by decide +kernel) (rfl) (rfl) (Nat.le_of_ble_eq_true rfl) dX15_init_126 (fun H locs hP hD hS => ?_)
  obtain ⟨F_85, he_86, hP, hD, hO⟩ : ∃ G, G = va_up F_84 h0 (.inr (15, (.ref q_1) :: (.int 0) :: (.int 0) :: (.int 0) :: (.ref q_6) :: (.ref q_11) :: (.ref q_16) :: (.ref q_21) :: (.ref q_27) :: (.ref q_34) :: (.ref q_42) :: (.int 0) :: (.int 0) :: (.ref q_50) :: (.int 0) :: (.int 0) :: (.ref q_58) :: (.int 0) :: (.int 0) :: (.int 0) :: (.int 0) :: (.int 0) :: (.int 0) :: (.ref q_67) :: (.ref q_75) :: (.ref q_83) :: (.null) :: (.null) :: (.null) :: (.null) :: (.int 0) :: (.int 0) :: (.int 0) :: (.int 0) :: (.null) :: (.null) :: (.null) :: (.null) :: (.null) :: (.null) :: (.null) :: (.null) :: (.null) :: (.null) :: (.null) :: (.null) :: (.null) :: (.null) :: (.null) :: (.null) :: (.null) :: (.null) :: (.int 0) :: (.int 0) :: (.int 0) :: (.null) :: (.null) :: (.null) :: (.null) :: [])) ∧ va_P (dC, dI) vwCl (va_pl L G) H ∧ va_D A (va_pl L G) ∧ OKm cs ty gm L G := ⟨_, rfl, hP, hD, hO.up (shm.raw hT_h0)⟩
  have hF_87 : F_85 h0 = .inr (15, (.ref q_1) :: (.int 0) :: (.int 0) :: (.int 0) :: (.ref q_6) :: (.ref q_11) :: (.ref q_16) :: (.ref q_21) :: (.ref q_27) :: (.ref q_34) :: (.ref q_42) :: (.int 0) :: (.int 0) :: (.ref q_50) :: (.int 0) :: (.int 0) :: (.ref q_58) :: (.int 0) :: (.int 0) :: (.int 0) :: (.int 0) :: (.int 0) :: (.int 0) :: (.ref q_67) :: (.ref q_75) :: (.ref q_83) :: (.null) :: (.null) :: (.null) :: (.null) :: (.int 0) :: (.int 0) :: (.int 0) :: (.int 0) :: (.null) :: (.null) :: (.null) :: (.null) :: (.null) :: (.null) :: (.null) :: (.null) :: (.null) :: (.null) :: (.null) :: (.null) :: (.null) :: (.null) :: (.null) :: (.null) :: (.null) :: (.null) :: (.int 0) :: (.int 0) :: (.int 0) :: (.null) :: (.null) :: (.null) :: (.null) :: []) := by rw [he_86]; exact up_self
  have hF_88 : F_85 q_21 = .inl (cs 23, 40, .inr (.inr (.inr (.inr (fun _ => none))))) := by rw [he_86, up_ne hne_h0_q_21.symm]; exact hF_q_21
  have hF_89 : F_85 q_27 = .inl (cs 23, 40, .inr (.inr (.inr (.inr (fun _ => none))))) := by rw [he_86, up_ne hne_h0_q_27.symm]; exact hF_q_27
  have hF_90 : F_85 q_50 = .inl (cs 23, 13, .inr (.inr (.inr (.inr (fun _ => none))))) := by rw [he_86, up_ne hne_h0_q_50.symm]; exact hF_q_50
  refine lv_aload_n hx hb dX15_init_129 rfl (lv_at hl 0 rfl) ?_
  refine lv_bipush (v := 21) hx hb dX15_init_130 (by decide) ?_
  refine va_newa (atype := .int) (ty := .int) (a0 := (21, .inl (fun _ => 0))) (N' := 21) hx hb (hts _ kt_1007) rfl hK hP hD hS hA (fun _ => rfl) (by decide) (by decide) (by show _ * 4 ≤ _; omega) (by show _ + 1 ≤ 254; omega) (by show _ + 21 ≤ 82375; omega) dX15_init_132 (fun q_91 cA H hKn hPa hDa hS => ?_)
  obtain rfl := cid_int hK hKn
  obtain ⟨L, ty, F_92, hN9, hold, holdF, hL_q_91, hT_q_91, hF_q_91⟩ := grow1m (e := (26, ρ + 8, [2])) hPa hDa hO hW (shm.pos rtf_self ⟨_, rfl, fun j _ => by rw [hg0]; rfl⟩) (wtam_pos rtf_self trivial)
  obtain ⟨hP, hD, hO, hW⟩ := hN9
  replace hT_h0 := (hold _ hL_h0).2.trans hT_h0
  have hF_h0 := (holdF _ hL_h0).1.trans hF_87
  replace hL_h0 := (hold _ hL_h0).1
  replace hT_q_21 := (hold _ hL_q_21).2.trans hT_q_21
  have hF_q_21 := (holdF _ hL_q_21).1.trans hF_88
  replace hL_q_21 := (hold _ hL_q_21).1
  replace hT_q_27 := (hold _ hL_q_27).2.trans hT_q_27
  have hF_q_27 := (holdF _ hL_q_27).1.trans hF_89
  replace hL_q_27 := (hold _ hL_q_27).1
  replace hT_q_50 := (hold _ hL_q_50).2.trans hT_q_50
  have hF_q_50 := (holdF _ hL_q_50).1.trans hF_90
  replace hL_q_50 := (hold _ hL_q_50).1
  replace hfs := gr_cons hold hfs hL_q_91 hT_q_91
  refine pg_putF (ci := 15) (v := .ref q_91) (ty := .array .int) (C := RX15) (T := TX15) (N := 59) hx hb hts it_15 tyX15 tyX15_ok nmX15 hown hK hP hD hS hL_h0 hF_h0 rfl 26 (by decide) (hts _ kt_890) (fun _ h9 => h9) rfl hin rfl (by decide +kernel) (rfl) (rfl) (Nat.le_of_ble_eq_true rfl) dX15_init_134 (fun H locs hP hD hS => ?_)
  obtain ⟨F_93, he_94, hP, hD, hO⟩ : ∃ G, G = va_up F_92 h0 (.inr (15, (.ref q_1) :: (.int 0) :: (.int 0) :: (.int 0) :: (.ref q_6) :: (.ref q_11) :: (.ref q_16) :: (.ref q_21) :: (.ref q_27) :: (.ref q_34) :: (.ref q_42) :: (.int 0) :: (.int 0) :: (.ref q_50) :: (.int 0) :: (.int 0) :: (.ref q_58) :: (.int 0) :: (.int 0) :: (.int 0) :: (.int 0) :: (.int 0) :: (.int 0) :: (.ref q_67) :: (.ref q_75) :: (.ref q_83) :: (.ref q_91) :: (.null) :: (.null) :: (.null) :: (.int 0) :: (.int 0) :: (.int 0) :: (.int 0) :: (.null) :: (.null) :: (.null) :: (.null) :: (.null) :: (.null) :: (.null) :: (.null) :: (.null) :: (.null) :: (.null) :: (.null) :: (.null) :: (.null) :: (.null) :: (.null) :: (.null) :: (.null) :: (.int 0) :: (.int 0) :: (.int 0) :: (.null) :: (.null) :: (.null) :: (.null) :: [])) ∧ va_P (dC, dI) vwCl (va_pl L G) H ∧ va_D A (va_pl L G) ∧ OKm cs ty gm L G := ⟨_, rfl, hP, hD, hO.up (shm.raw hT_h0)⟩
  have hF_95 : F_93 h0 = .inr (15, (.ref q_1) :: (.int 0) :: (.int 0) :: (.int 0) :: (.ref q_6) :: (.ref q_11) :: (.ref q_16) :: (.ref q_21) :: (.ref q_27) :: (.ref q_34) :: (.ref q_42) :: (.int 0) :: (.int 0) :: (.ref q_50) :: (.int 0) :: (.int 0) :: (.ref q_58) :: (.int 0) :: (.int 0) :: (.int 0) :: (.int 0) :: (.int 0) :: (.int 0) :: (.ref q_67) :: (.ref q_75) :: (.ref q_83) :: (.ref q_91) :: (.null) :: (.null) :: (.null) :: (.int 0) :: (.int 0) :: (.int 0) :: (.int 0) :: (.null) :: (.null) :: (.null) :: (.null) :: (.null) :: (.null) :: (.null) :: (.null) :: (.null) :: (.null) :: (.null) :: (.null) :: (.null) :: (.null) :: (.null) :: (.null) :: (.null) :: (.null) :: (.int 0) :: (.int 0) :: (.int 0) :: (.null) :: (.null) :: (.null) :: (.null) :: []) := by rw [he_94]; exact up_self
  have hF_96 : F_93 q_21 = .inl (cs 23, 40, .inr (.inr (.inr (.inr (fun _ => none))))) := by rw [he_94, up_ne hne_h0_q_21.symm]; exact hF_q_21
  have hF_97 : F_93 q_27 = .inl (cs 23, 40, .inr (.inr (.inr (.inr (fun _ => none))))) := by rw [he_94, up_ne hne_h0_q_27.symm]; exact hF_q_27
  have hF_98 : F_93 q_50 = .inl (cs 23, 13, .inr (.inr (.inr (.inr (fun _ => none))))) := by rw [he_94, up_ne hne_h0_q_50.symm]; exact hF_q_50
  refine lv_aload_n hx hb dX15_init_137 rfl (lv_at hl 0 rfl) ?_
  refine lv_bipush (v := 21) hx hb dX15_init_138 (by decide) ?_
  refine va_newa (atype := .int) (ty := .int) (a0 := (21, .inl (fun _ => 0))) (N' := 21) hx hb (hts _ kt_1007) rfl hK hP hD hS hA (fun _ => rfl) (by decide) (by decide) (by show _ * 4 ≤ _; omega) (by show _ + 1 ≤ 254; omega) (by show _ + 21 ≤ 82375; omega) dX15_init_140 (fun q_99 cA H hKn hPa hDa hS => ?_)
  obtain rfl := cid_int hK hKn
  obtain ⟨L, ty, F_100, hN9, hold, holdF, hL_q_99, hT_q_99, hF_q_99⟩ := grow1m (e := (25, ρ + 9, [21, 1280])) hPa hDa hO hW (shm.idb rtf_self ⟨_, rfl, fun _ => ⟨0, Nat.zero_le _, rfl⟩⟩) (wtam_idb rtf_self trivial)
  obtain ⟨hP, hD, hO, hW⟩ := hN9
  replace hT_h0 := (hold _ hL_h0).2.trans hT_h0
  have hF_h0 := (holdF _ hL_h0).1.trans hF_95
  replace hL_h0 := (hold _ hL_h0).1
  replace hT_q_21 := (hold _ hL_q_21).2.trans hT_q_21
  have hF_q_21 := (holdF _ hL_q_21).1.trans hF_96
  replace hL_q_21 := (hold _ hL_q_21).1
  replace hT_q_27 := (hold _ hL_q_27).2.trans hT_q_27
  have hF_q_27 := (holdF _ hL_q_27).1.trans hF_97
  replace hL_q_27 := (hold _ hL_q_27).1
  replace hT_q_50 := (hold _ hL_q_50).2.trans hT_q_50
  have hF_q_50 := (holdF _ hL_q_50).1.trans hF_98
  replace hL_q_50 := (hold _ hL_q_50).1
  replace hfs := gr_cons hold hfs hL_q_99 hT_q_99
  refine pg_putF (ci := 15) (v := .ref q_99) (ty := .array .int) (C := RX15) (T := TX15) (N := 59) hx hb hts it_15 tyX15 tyX15_ok nmX15 hown hK hP hD hS hL_h0 hF_h0 rfl 27 (by decide) (hts _ kt_1003) (fun _ h9 => h9) rfl hin rfl (by decide +kernel) (rfl) (rfl) (Nat.le_of_ble_eq_true rfl) dX15_init_142 (fun H locs hP hD hS => ?_)
  obtain ⟨F_101, he_102, hP, hD, hO⟩ : ∃ G, G = va_up F_100 h0 (.inr (15, (.ref q_1) :: (.int 0) :: (.int 0) :: (.int 0) :: (.ref q_6) :: (.ref q_11) :: (.ref q_16) :: (.ref q_21) :: (.ref q_27) :: (.ref q_34) :: (.ref q_42) :: (.int 0) :: (.int 0) :: (.ref q_50) :: (.int 0) :: (.int 0) :: (.ref q_58) :: (.int 0) :: (.int 0) :: (.int 0) :: (.int 0) :: (.int 0) :: (.int 0) :: (.ref q_67) :: (.ref q_75) :: (.ref q_83) :: (.ref q_91) :: (.ref q_99) :: (.null) :: (.null) :: (.int 0) :: (.int 0) :: (.int 0) :: (.int 0) :: (.null) :: (.null) :: (.null) :: (.null) :: (.null) :: (.null) :: (.null) :: (.null) :: (.null) :: (.null) :: (.null) :: (.null) :: (.null) :: (.null) :: (.null) :: (.null) :: (.null) :: (.null) :: (.int 0) :: (.int 0) :: (.int 0) :: (.null) :: (.null) :: (.null) :: (.null) :: [])) ∧ va_P (dC, dI) vwCl (va_pl L G) H ∧ va_D A (va_pl L G) ∧ OKm cs ty gm L G := ⟨_, rfl, hP, hD, hO.up (shm.raw hT_h0)⟩
  have hF_103 : F_101 h0 = .inr (15, (.ref q_1) :: (.int 0) :: (.int 0) :: (.int 0) :: (.ref q_6) :: (.ref q_11) :: (.ref q_16) :: (.ref q_21) :: (.ref q_27) :: (.ref q_34) :: (.ref q_42) :: (.int 0) :: (.int 0) :: (.ref q_50) :: (.int 0) :: (.int 0) :: (.ref q_58) :: (.int 0) :: (.int 0) :: (.int 0) :: (.int 0) :: (.int 0) :: (.int 0) :: (.ref q_67) :: (.ref q_75) :: (.ref q_83) :: (.ref q_91) :: (.ref q_99) :: (.null) :: (.null) :: (.int 0) :: (.int 0) :: (.int 0) :: (.int 0) :: (.null) :: (.null) :: (.null) :: (.null) :: (.null) :: (.null) :: (.null) :: (.null) :: (.null) :: (.null) :: (.null) :: (.null) :: (.null) :: (.null) :: (.null) :: (.null) :: (.null) :: (.null) :: (.int 0) :: (.int 0) :: (.int 0) :: (.null) :: (.null) :: (.null) :: (.null) :: []) := by rw [he_102]; exact up_self
  have hF_104 : F_101 q_21 = .inl (cs 23, 40, .inr (.inr (.inr (.inr (fun _ => none))))) := by rw [he_102, up_ne hne_h0_q_21.symm]; exact hF_q_21
  have hF_105 : F_101 q_27 = .inl (cs 23, 40, .inr (.inr (.inr (.inr (fun _ => none))))) := by rw [he_102, up_ne hne_h0_q_27.symm]; exact hF_q_27
  have hF_106 : F_101 q_50 = .inl (cs 23, 13, .inr (.inr (.inr (.inr (fun _ => none))))) := by rw [he_102, up_ne hne_h0_q_50.symm]; exact hF_q_50
  refine lv_aload_n hx hb dX15_init_145 rfl (lv_at hl 0 rfl) ?_
  refine lv_bipush (v := 21) hx hb dX15_init_146 (by decide) ?_
  refine va_newa (atype := .int) (ty := .int) (a0 := (21, .inl (fun _ => 0))) (N' := 21) hx hb (hts _ kt_1007) rfl hK hP hD hS hA (fun _ => rfl) (by decide) (by decide) (by show _ * 4 ≤ _; omega) (by show _ + 1 ≤ 254; omega) (by show _ + 21 ≤ 82375; omega) dX15_init_148 (fun q_107 cA H hKn hPa hDa hS => ?_)
  obtain rfl := cid_int hK hKn
  obtain ⟨L, ty, F_108, hN9, hold, holdF, hL_q_107, hT_q_107, hF_q_107⟩ := grow1m (e := (25, ρ + 9, [21, 1280])) hPa hDa hO hW (shm.idb rtf_self ⟨_, rfl, fun _ => ⟨0, Nat.zero_le _, rfl⟩⟩) (wtam_idb rtf_self trivial)
  obtain ⟨hP, hD, hO, hW⟩ := hN9
  have hn01 : q_99 ≠ q_107 := (holdF _ (hfs _ (List.mem_cons_self)).1).2
  replace hT_h0 := (hold _ hL_h0).2.trans hT_h0
  have hF_h0 := (holdF _ hL_h0).1.trans hF_103
  replace hL_h0 := (hold _ hL_h0).1
  replace hT_q_21 := (hold _ hL_q_21).2.trans hT_q_21
  have hF_q_21 := (holdF _ hL_q_21).1.trans hF_104
  replace hL_q_21 := (hold _ hL_q_21).1
  replace hT_q_27 := (hold _ hL_q_27).2.trans hT_q_27
  have hF_q_27 := (holdF _ hL_q_27).1.trans hF_105
  replace hL_q_27 := (hold _ hL_q_27).1
  replace hT_q_50 := (hold _ hL_q_50).2.trans hT_q_50
  have hF_q_50 := (holdF _ hL_q_50).1.trans hF_106
  replace hL_q_50 := (hold _ hL_q_50).1
  replace hfs := gr_cons hold hfs hL_q_107 hT_q_107
  refine pg_putF (ci := 15) (v := .ref q_107) (ty := .array .int) (C := RX15) (T := TX15) (N := 59) hx hb hts it_15 tyX15 tyX15_ok nmX15 hown hK hP hD hS hL_h0 hF_h0 rfl 28 (by decide) (hts _ kt_1004) (fun _ h9 => h9) rfl hin rfl (by decide +kernel) (rfl) (rfl) (Nat.le_of_ble_eq_true rfl) dX15_init_150 (fun H locs hP hD hS => ?_)
  obtain ⟨F_109, he_110, hP, hD, hO⟩ : ∃ G, G = va_up F_108 h0 (.inr (15, (.ref q_1) :: (.int 0) :: (.int 0) :: (.int 0) :: (.ref q_6) :: (.ref q_11) :: (.ref q_16) :: (.ref q_21) :: (.ref q_27) :: (.ref q_34) :: (.ref q_42) :: (.int 0) :: (.int 0) :: (.ref q_50) :: (.int 0) :: (.int 0) :: (.ref q_58) :: (.int 0) :: (.int 0) :: (.int 0) :: (.int 0) :: (.int 0) :: (.int 0) :: (.ref q_67) :: (.ref q_75) :: (.ref q_83) :: (.ref q_91) :: (.ref q_99) :: (.ref q_107) :: (.null) :: (.int 0) :: (.int 0) :: (.int 0) :: (.int 0) :: (.null) :: (.null) :: (.null) :: (.null) :: (.null) :: (.null) :: (.null) :: (.null) :: (.null) :: (.null) :: (.null) :: (.null) :: (.null) :: (.null) :: (.null) :: (.null) :: (.null) :: (.null) :: (.int 0) :: (.int 0) :: (.int 0) :: (.null) :: (.null) :: (.null) :: (.null) :: [])) ∧ va_P (dC, dI) vwCl (va_pl L G) H ∧ va_D A (va_pl L G) ∧ OKm cs ty gm L G := ⟨_, rfl, hP, hD, hO.up (shm.raw hT_h0)⟩
  have hF_111 : F_109 h0 = .inr (15, (.ref q_1) :: (.int 0) :: (.int 0) :: (.int 0) :: (.ref q_6) :: (.ref q_11) :: (.ref q_16) :: (.ref q_21) :: (.ref q_27) :: (.ref q_34) :: (.ref q_42) :: (.int 0) :: (.int 0) :: (.ref q_50) :: (.int 0) :: (.int 0) :: (.ref q_58) :: (.int 0) :: (.int 0) :: (.int 0) :: (.int 0) :: (.int 0) :: (.int 0) :: (.ref q_67) :: (.ref q_75) :: (.ref q_83) :: (.ref q_91) :: (.ref q_99) :: (.ref q_107) :: (.null) :: (.int 0) :: (.int 0) :: (.int 0) :: (.int 0) :: (.null) :: (.null) :: (.null) :: (.null) :: (.null) :: (.null) :: (.null) :: (.null) :: (.null) :: (.null) :: (.null) :: (.null) :: (.null) :: (.null) :: (.null) :: (.null) :: (.null) :: (.null) :: (.int 0) :: (.int 0) :: (.int 0) :: (.null) :: (.null) :: (.null) :: (.null) :: []) := by rw [he_110]; exact up_self
  have hF_112 : F_109 q_21 = .inl (cs 23, 40, .inr (.inr (.inr (.inr (fun _ => none))))) := by rw [he_110, up_ne hne_h0_q_21.symm]; exact hF_q_21
  have hF_113 : F_109 q_27 = .inl (cs 23, 40, .inr (.inr (.inr (.inr (fun _ => none))))) := by rw [he_110, up_ne hne_h0_q_27.symm]; exact hF_q_27
  have hF_114 : F_109 q_50 = .inl (cs 23, 13, .inr (.inr (.inr (.inr (fun _ => none))))) := by rw [he_110, up_ne hne_h0_q_50.symm]; exact hF_q_50
  refine lv_aload_n hx hb dX15_init_153 rfl (lv_at hl 0 rfl) ?_
  refine lv_bipush (v := 21) hx hb dX15_init_154 (by decide) ?_
  refine va_newa (atype := .int) (ty := .int) (a0 := (21, .inl (fun _ => 0))) (N' := 21) hx hb (hts _ kt_1007) rfl hK hP hD hS hA (fun _ => rfl) (by decide) (by decide) (by show _ * 4 ≤ _; omega) (by show _ + 1 ≤ 254; omega) (by show _ + 21 ≤ 82375; omega) dX15_init_156 (fun q_115 cA H hKn hPa hDa hS => ?_)
  obtain rfl := cid_int hK hKn
  obtain ⟨L, ty, F_116, hN9, hold, holdF, hL_q_115, hT_q_115, hF_q_115⟩ := grow1m (e := (25, ρ + 9, [21, 1280])) hPa hDa hO hW (shm.idb rtf_self ⟨_, rfl, fun _ => ⟨0, Nat.zero_le _, rfl⟩⟩) (wtam_idb rtf_self trivial)
  obtain ⟨hP, hD, hO, hW⟩ := hN9
  have hn02 : q_99 ≠ q_115 := (holdF _ (hfs _ (List.mem_cons_of_mem _ (List.mem_cons_self))).1).2
  have hn12 : q_107 ≠ q_115 := (holdF _ (hfs _ (List.mem_cons_self)).1).2
  replace hT_h0 := (hold _ hL_h0).2.trans hT_h0
  have hF_h0 := (holdF _ hL_h0).1.trans hF_111
  replace hL_h0 := (hold _ hL_h0).1
  replace hT_q_21 := (hold _ hL_q_21).2.trans hT_q_21
  have hF_q_21 := (holdF _ hL_q_21).1.trans hF_112
  replace hL_q_21 := (hold _ hL_q_21).1
  replace hT_q_27 := (hold _ hL_q_27).2.trans hT_q_27
  have hF_q_27 := (holdF _ hL_q_27).1.trans hF_113
  replace hL_q_27 := (hold _ hL_q_27).1
  replace hT_q_50 := (hold _ hL_q_50).2.trans hT_q_50
  have hF_q_50 := (holdF _ hL_q_50).1.trans hF_114
  replace hL_q_50 := (hold _ hL_q_50).1
  replace hfs := gr_cons hold hfs hL_q_115 hT_q_115
  refine pg_putF (ci := 15) (v := .ref q_115) (ty := .array .int) (C := RX15) (T := TX15) (N := 59) hx hb hts it_15 tyX15 tyX15_ok nmX15 hown hK hP hD hS hL_h0 hF_h0 rfl 29 (by decide) (hts _ kt_1005) (fun _ h9 => h9) rfl hin rfl (by decide +kernel) (rfl) (rfl) (Nat.le_of_ble_eq_true rfl) dX15_init_158 (fun H locs hP hD hS => ?_)
  obtain ⟨F_117, he_118, hP, hD, hO⟩ : ∃ G, G = va_up F_116 h0 (.inr (15, (.ref q_1) :: (.int 0) :: (.int 0) :: (.int 0) :: (.ref q_6) :: (.ref q_11) :: (.ref q_16) :: (.ref q_21) :: (.ref q_27) :: (.ref q_34) :: (.ref q_42) :: (.int 0) :: (.int 0) :: (.ref q_50) :: (.int 0) :: (.int 0) :: (.ref q_58) :: (.int 0) :: (.int 0) :: (.int 0) :: (.int 0) :: (.int 0) :: (.int 0) :: (.ref q_67) :: (.ref q_75) :: (.ref q_83) :: (.ref q_91) :: (.ref q_99) :: (.ref q_107) :: (.ref q_115) :: (.int 0) :: (.int 0) :: (.int 0) :: (.int 0) :: (.null) :: (.null) :: (.null) :: (.null) :: (.null) :: (.null) :: (.null) :: (.null) :: (.null) :: (.null) :: (.null) :: (.null) :: (.null) :: (.null) :: (.null) :: (.null) :: (.null) :: (.null) :: (.int 0) :: (.int 0) :: (.int 0) :: (.null) :: (.null) :: (.null) :: (.null) :: [])) ∧ va_P (dC, dI) vwCl (va_pl L G) H ∧ va_D A (va_pl L G) ∧ OKm cs ty gm L G := ⟨_, rfl, hP, hD, hO.up (shm.raw hT_h0)⟩
  have hF_119 : F_117 h0 = .inr (15, (.ref q_1) :: (.int 0) :: (.int 0) :: (.int 0) :: (.ref q_6) :: (.ref q_11) :: (.ref q_16) :: (.ref q_21) :: (.ref q_27) :: (.ref q_34) :: (.ref q_42) :: (.int 0) :: (.int 0) :: (.ref q_50) :: (.int 0) :: (.int 0) :: (.ref q_58) :: (.int 0) :: (.int 0) :: (.int 0) :: (.int 0) :: (.int 0) :: (.int 0) :: (.ref q_67) :: (.ref q_75) :: (.ref q_83) :: (.ref q_91) :: (.ref q_99) :: (.ref q_107) :: (.ref q_115) :: (.int 0) :: (.int 0) :: (.int 0) :: (.int 0) :: (.null) :: (.null) :: (.null) :: (.null) :: (.null) :: (.null) :: (.null) :: (.null) :: (.null) :: (.null) :: (.null) :: (.null) :: (.null) :: (.null) :: (.null) :: (.null) :: (.null) :: (.null) :: (.int 0) :: (.int 0) :: (.int 0) :: (.null) :: (.null) :: (.null) :: (.null) :: []) := by rw [he_118]; exact up_self
  have hF_120 : F_117 q_21 = .inl (cs 23, 40, .inr (.inr (.inr (.inr (fun _ => none))))) := by rw [he_118, up_ne hne_h0_q_21.symm]; exact hF_q_21
  have hF_121 : F_117 q_27 = .inl (cs 23, 40, .inr (.inr (.inr (.inr (fun _ => none))))) := by rw [he_118, up_ne hne_h0_q_27.symm]; exact hF_q_27
  have hF_122 : F_117 q_50 = .inl (cs 23, 13, .inr (.inr (.inr (.inr (fun _ => none))))) := by rw [he_118, up_ne hne_h0_q_50.symm]; exact hF_q_50
  refine lv_aload_n hx hb dX15_init_161 rfl (lv_at hl 0 rfl) ?_
  refine va_new (ci := 14) (fs := [.null, .int 0]) (C := RX14) (T := TX14) (N := 2) hx hb hts it_14 tyX14 tyX14_ok hown (hts _ kt_1121) (hts _ kt_1035) (hts _ kt_676) hK hP hD hS hA rfl df_14 (by show _ + 1 ≤ 254; omega) (by show _ + 2 ≤ 82375; omega) dX15_init_162 (fun q_123 H hPa hDa hS => ?_)
  have hP := left1 hPa
  have hD := left2 hDa
  refine lv_dup hx hb dX15_init_165 rfl ?_
  refine lv_sipush (v := 6000) hx hb dX15_init_166 (by decide) ?_
  refine W.eq (g2 := F0 m 169 ls [.int (nI 6000), .ref q_123, .ref q_123, .ref h0]) rfl ?_
  have hFc := free1 hDa hS hA
  have hPq := right1 hPa
  refine va_callv (va_runI (As := [.int (nI 6000)]) (rest := [.ref q_123, .ref h0]) ⟨hx, hb, hml, hown, hts⟩ (k_X14_init l dC dI cs gm H.size q_123 6000 (ρ + 10) (by omega)) ⟨callB_of 1 hts (gi kt_1036) rfl rfl rfl (hts _ kt_676) (hts _ kt_1122) (by decide +kernel) ⟨Nat.le_of_ble_eq_true rfl, Nat.le_of_ble_eq_true rfl⟩, rfl, (hts _ kt_1038)⟩ ⟨fun a U g mk q => ⟨q.1, PTm.calling q.2⟩, fun U hU hWm => ⟨rfl, PTm.mk hU hWm hPq hK one1 hE (fun a _ => shm.raw rfl)⟩⟩ rfl rfl hl.1 rfl (lv_room (Nat.le_of_ble_eq_true rfl)) dX15_init_169 ⟨by show _ + 1 ≤ 254; omega, by show _ + 6000 ≤ 82375; omega⟩) hS (fun q _ h => hFc q h) hFc (fun u t H1 locs ht hvm hw hB hz1 hk1 hS => ?_)
  obtain ⟨L2, F2, ty2, r_124, hN2, hc1, hc2⟩ := hB
  rw [ht] at hN2
  obtain ⟨L, ty, F_125, hN9, hold, holdF, hnew, hnewF⟩ := join1m hPa hDa hO hW hk1 hFc hN2
  obtain ⟨hP, hD, hO, hW⟩ := hN9
  generalize H1 = H at hP hS ⊢
  have hL_q_123 := (hnew _ hc1).1
  have hT_q_123 := (hnew _ hc1).2.trans hc2
  replace hT_h0 := (hold _ hL_h0).2.trans hT_h0
  have hF_h0 := (holdF _ hL_h0).1.trans hF_119
  replace hL_h0 := (hold _ hL_h0).1
  replace hT_q_21 := (hold _ hL_q_21).2.trans hT_q_21
  have hF_q_21 := (holdF _ hL_q_21).1.trans hF_120
  replace hL_q_21 := (hold _ hL_q_21).1
  replace hT_q_27 := (hold _ hL_q_27).2.trans hT_q_27
  have hF_q_27 := (holdF _ hL_q_27).1.trans hF_121
  replace hL_q_27 := (hold _ hL_q_27).1
  replace hT_q_50 := (hold _ hL_q_50).2.trans hT_q_50
  have hF_q_50 := (holdF _ hL_q_50).1.trans hF_122
  replace hL_q_50 := (hold _ hL_q_50).1
  replace hfs := gr_cons hold hfs hL_q_123 hT_q_123
  refine pg_putF (ci := 15) (v := .ref q_123) (ty := .object "PostGateModel$Text") (C := RX15) (T := TX15) (N := 59) hx hb hts it_15 tyX15 tyX15_ok nmX15 hown hK hP hD hS hL_h0 hF_h0 rfl 34 (by decide) (hts _ kt_901) (fun _ h9 => h9) rfl hin rfl (by decide +kernel) (rfl) (rfl) (Nat.le_of_ble_eq_true rfl) dX15_init_172 (fun H locs hP hD hS => ?_)
  obtain ⟨F_126, he_127, hP, hD, hO⟩ : ∃ G, G = va_up F_125 h0 (.inr (15, (.ref q_1) :: (.int 0) :: (.int 0) :: (.int 0) :: (.ref q_6) :: (.ref q_11) :: (.ref q_16) :: (.ref q_21) :: (.ref q_27) :: (.ref q_34) :: (.ref q_42) :: (.int 0) :: (.int 0) :: (.ref q_50) :: (.int 0) :: (.int 0) :: (.ref q_58) :: (.int 0) :: (.int 0) :: (.int 0) :: (.int 0) :: (.int 0) :: (.int 0) :: (.ref q_67) :: (.ref q_75) :: (.ref q_83) :: (.ref q_91) :: (.ref q_99) :: (.ref q_107) :: (.ref q_115) :: (.int 0) :: (.int 0) :: (.int 0) :: (.int 0) :: (.ref q_123) :: (.null) :: (.null) :: (.null) :: (.null) :: (.null) :: (.null) :: (.null) :: (.null) :: (.null) :: (.null) :: (.null) :: (.null) :: (.null) :: (.null) :: (.null) :: (.null) :: (.null) :: (.int 0) :: (.int 0) :: (.int 0) :: (.null) :: (.null) :: (.null) :: (.null) :: [])) ∧ va_P (dC, dI) vwCl (va_pl L G) H ∧ va_D A (va_pl L G) ∧ OKm cs ty gm L G := ⟨_, rfl, hP, hD, hO.up (shm.raw hT_h0)⟩
  have hF_128 : F_126 h0 = .inr (15, (.ref q_1) :: (.int 0) :: (.int 0) :: (.int 0) :: (.ref q_6) :: (.ref q_11) :: (.ref q_16) :: (.ref q_21) :: (.ref q_27) :: (.ref q_34) :: (.ref q_42) :: (.int 0) :: (.int 0) :: (.ref q_50) :: (.int 0) :: (.int 0) :: (.ref q_58) :: (.int 0) :: (.int 0) :: (.int 0) :: (.int 0) :: (.int 0) :: (.int 0) :: (.ref q_67) :: (.ref q_75) :: (.ref q_83) :: (.ref q_91) :: (.ref q_99) :: (.ref q_107) :: (.ref q_115) :: (.int 0) :: (.int 0) :: (.int 0) :: (.int 0) :: (.ref q_123) :: (.null) :: (.null) :: (.null) :: (.null) :: (.null) :: (.null) :: (.null) :: (.null) :: (.null) :: (.null) :: (.null) :: (.null) :: (.null) :: (.null) :: (.null) :: (.null) :: (.null) :: (.int 0) :: (.int 0) :: (.int 0) :: (.null) :: (.null) :: (.null) :: (.null) :: []) := by rw [he_127]; exact up_self
  have hF_129 : F_126 q_21 = .inl (cs 23, 40, .inr (.inr (.inr (.inr (fun _ => none))))) := by rw [he_127, up_ne hne_h0_q_21.symm]; exact hF_q_21
  have hF_130 : F_126 q_27 = .inl (cs 23, 40, .inr (.inr (.inr (.inr (fun _ => none))))) := by rw [he_127, up_ne hne_h0_q_27.symm]; exact hF_q_27
  have hF_131 : F_126 q_50 = .inl (cs 23, 13, .inr (.inr (.inr (.inr (fun _ => none))))) := by rw [he_127, up_ne hne_h0_q_50.symm]; exact hF_q_50
  refine lv_aload_n hx hb dX15_init_175 rfl (lv_at hl 0 rfl) ?_
  refine va_new (ci := 13) (fs := [.null, .null, .null, .null, .int 0]) (C := RX13) (T := TX13) (N := 5) hx hb hts it_13 tyX13 tyX13_ok hown (hts _ kt_1127) (hts _ kt_1128) (hts _ kt_829) hK hP hD hS hA rfl df_13 (by show _ + 1 ≤ 254; omega) (by show _ + 5 ≤ 82375; omega) dX15_init_176 (fun q_132 H hPa hDa hS => ?_)
  have hP := left1 hPa
  have hD := left2 hDa
  refine lv_dup hx hb dX15_init_179 rfl ?_
  refine lv_sipush (v := 3000) hx hb dX15_init_180 (by decide) ?_
  refine W.eq (g2 := F0 m 183 ls [.int (nI 3000), .ref q_132, .ref q_132, .ref h0]) rfl ?_
  have hFc := free1 hDa hS hA
  have hPq := right1 hPa
  refine va_callv (va_runI (As := [.int (nI 3000)]) (rest := [.ref q_132, .ref h0]) ⟨hx, hb, hml, hown, hts⟩ (k_X13_init l dC dI cs gm H.size q_132 3000 (ρ + 11) 1280 (by omega) (by omega)) ⟨callB_of 1 hts (gi kt_1129) rfl rfl rfl (hts _ kt_829) (hts _ kt_1130) (by decide +kernel) ⟨Nat.le_of_ble_eq_true rfl, Nat.le_of_ble_eq_true rfl⟩, rfl, (hts _ kt_1131)⟩ ⟨fun a U g mk q => ⟨q.1, PTm.calling q.2⟩, fun U hU hWm => ⟨rfl, PTm.mk hU hWm hPq hK one1 hE (fun a _ => shm.raw rfl)⟩⟩ rfl rfl hl.1 rfl (lv_room (Nat.le_of_ble_eq_true rfl)) dX15_init_183 ⟨by show _ + 5 ≤ 254; omega, by show _ + (3000 + 122) ≤ 82375; omega⟩) hS (fun q _ h => hFc q h) hFc (fun u t H1 locs ht hvm hw hB hz1 hk1 hS => ?_)
  obtain ⟨L2, F2, ty2, x_133, y0_134, y1_135, y2_136, hN2, hc1, hc2⟩ := hB
  rw [ht] at hN2
  obtain ⟨L, ty, F_137, hN9, hold, holdF, hnew, hnewF⟩ := join1m hPa hDa hO hW hk1 hFc hN2
  obtain ⟨hP, hD, hO, hW⟩ := hN9
  generalize H1 = H at hP hS ⊢
  have hL_q_132 := (hnew _ hc1).1
  have hT_q_132 := (hnew _ hc1).2.trans hc2
  replace hT_h0 := (hold _ hL_h0).2.trans hT_h0
  have hF_h0 := (holdF _ hL_h0).1.trans hF_128
  replace hL_h0 := (hold _ hL_h0).1
  replace hT_q_21 := (hold _ hL_q_21).2.trans hT_q_21
  have hF_q_21 := (holdF _ hL_q_21).1.trans hF_129
  replace hL_q_21 := (hold _ hL_q_21).1
  replace hT_q_27 := (hold _ hL_q_27).2.trans hT_q_27
  have hF_q_27 := (holdF _ hL_q_27).1.trans hF_130
  replace hL_q_27 := (hold _ hL_q_27).1
  replace hT_q_50 := (hold _ hL_q_50).2.trans hT_q_50
  have hF_q_50 := (holdF _ hL_q_50).1.trans hF_131
  replace hL_q_50 := (hold _ hL_q_50).1
  replace hfs := gr_cons hold hfs hL_q_132 hT_q_132
  refine pg_putF (ci := 15) (v := .ref q_132) (ty := .object "PostGateModel$Tags") (C := RX15) (T := TX15) (N := 59) hx hb hts it_15 tyX15 tyX15_ok nmX15 hown hK hP hD hS hL_h0 hF_h0 rfl 35 (by decide) (hts _ kt_847) (fun _ h9 => h9) rfl hin rfl (by decide +kernel) (rfl) (rfl) (Nat.le_of_ble_eq_true rfl) dX15_init_186 (fun H locs hP hD hS => ?_)
  obtain ⟨F_138, he_139, hP, hD, hO⟩ : ∃ G, G = va_up F_137 h0 (.inr (15, (.ref q_1) :: (.int 0) :: (.int 0) :: (.int 0) :: (.ref q_6) :: (.ref q_11) :: (.ref q_16) :: (.ref q_21) :: (.ref q_27) :: (.ref q_34) :: (.ref q_42) :: (.int 0) :: (.int 0) :: (.ref q_50) :: (.int 0) :: (.int 0) :: (.ref q_58) :: (.int 0) :: (.int 0) :: (.int 0) :: (.int 0) :: (.int 0) :: (.int 0) :: (.ref q_67) :: (.ref q_75) :: (.ref q_83) :: (.ref q_91) :: (.ref q_99) :: (.ref q_107) :: (.ref q_115) :: (.int 0) :: (.int 0) :: (.int 0) :: (.int 0) :: (.ref q_123) :: (.ref q_132) :: (.null) :: (.null) :: (.null) :: (.null) :: (.null) :: (.null) :: (.null) :: (.null) :: (.null) :: (.null) :: (.null) :: (.null) :: (.null) :: (.null) :: (.null) :: (.null) :: (.int 0) :: (.int 0) :: (.int 0) :: (.null) :: (.null) :: (.null) :: (.null) :: [])) ∧ va_P (dC, dI) vwCl (va_pl L G) H ∧ va_D A (va_pl L G) ∧ OKm cs ty gm L G := ⟨_, rfl, hP, hD, hO.up (shm.raw hT_h0)⟩
  have hF_140 : F_138 h0 = .inr (15, (.ref q_1) :: (.int 0) :: (.int 0) :: (.int 0) :: (.ref q_6) :: (.ref q_11) :: (.ref q_16) :: (.ref q_21) :: (.ref q_27) :: (.ref q_34) :: (.ref q_42) :: (.int 0) :: (.int 0) :: (.ref q_50) :: (.int 0) :: (.int 0) :: (.ref q_58) :: (.int 0) :: (.int 0) :: (.int 0) :: (.int 0) :: (.int 0) :: (.int 0) :: (.ref q_67) :: (.ref q_75) :: (.ref q_83) :: (.ref q_91) :: (.ref q_99) :: (.ref q_107) :: (.ref q_115) :: (.int 0) :: (.int 0) :: (.int 0) :: (.int 0) :: (.ref q_123) :: (.ref q_132) :: (.null) :: (.null) :: (.null) :: (.null) :: (.null) :: (.null) :: (.null) :: (.null) :: (.null) :: (.null) :: (.null) :: (.null) :: (.null) :: (.null) :: (.null) :: (.null) :: (.int 0) :: (.int 0) :: (.int 0) :: (.null) :: (.null) :: (.null) :: (.null) :: []) := by rw [he_139]; exact up_self
  have hF_141 : F_138 q_21 = .inl (cs 23, 40, .inr (.inr (.inr (.inr (fun _ => none))))) := by rw [he_139, up_ne hne_h0_q_21.symm]; exact hF_q_21
  have hF_142 : F_138 q_27 = .inl (cs 23, 40, .inr (.inr (.inr (.inr (fun _ => none))))) := by rw [he_139, up_ne hne_h0_q_27.symm]; exact hF_q_27
  have hF_143 : F_138 q_50 = .inl (cs 23, 13, .inr (.inr (.inr (.inr (fun _ => none))))) := by rw [he_139, up_ne hne_h0_q_50.symm]; exact hF_q_50
  refine lv_aload_n hx hb dX15_init_189 rfl (lv_at hl 0 rfl) ?_
  refine va_new (ci := 13) (fs := [.null, .null, .null, .null, .int 0]) (C := RX13) (T := TX13) (N := 5) hx hb hts it_13 tyX13 tyX13_ok hown (hts _ kt_1127) (hts _ kt_1128) (hts _ kt_829) hK hP hD hS hA rfl df_13 (by show _ + 1 ≤ 254; omega) (by show _ + 5 ≤ 82375; omega) dX15_init_190 (fun q_144 H hPa hDa hS => ?_)
  have hP := left1 hPa
  have hD := left2 hDa
  refine lv_dup hx hb dX15_init_193 rfl ?_
  refine lv_sipush (v := 700) hx hb dX15_init_194 (by decide) ?_
  refine W.eq (g2 := F0 m 197 ls [.int (nI 700), .ref q_144, .ref q_144, .ref h0]) rfl ?_
  have hFc := free1 hDa hS hA
  have hPq := right1 hPa
  refine va_callv (va_runI (As := [.int (nI 700)]) (rest := [.ref q_144, .ref h0]) ⟨hx, hb, hml, hown, hts⟩ (k_X13_init l dC dI cs gm H.size q_144 700 (ρ + 13) 700 (by omega) (by omega)) ⟨callB_of 1 hts (gi kt_1129) rfl rfl rfl (hts _ kt_829) (hts _ kt_1130) (by decide +kernel) ⟨Nat.le_of_ble_eq_true rfl, Nat.le_of_ble_eq_true rfl⟩, rfl, (hts _ kt_1131)⟩ ⟨fun a U g mk q => ⟨q.1, PTm.calling q.2⟩, fun U hU hWm => ⟨rfl, PTm.mk hU hWm hPq hK one1 hE (fun a _ => shm.raw rfl)⟩⟩ rfl rfl hl.1 rfl (lv_room (Nat.le_of_ble_eq_true rfl)) dX15_init_197 ⟨by show _ + 5 ≤ 254; omega, by show _ + (700 + 122) ≤ 82375; omega⟩) hS (fun q _ h => hFc q h) hFc (fun u t H1 locs ht hvm hw hB hz1 hk1 hS => ?_)
  obtain ⟨L2, F2, ty2, x_145, y0_146, y1_147, y2_148, hN2, hc1, hc2⟩ := hB
  rw [ht] at hN2
  obtain ⟨L, ty, F_149, hN9, hold, holdF, hnew, hnewF⟩ := join1m hPa hDa hO hW hk1 hFc hN2
  obtain ⟨hP, hD, hO, hW⟩ := hN9
  generalize H1 = H at hP hS ⊢
  have hL_q_144 := (hnew _ hc1).1
  have hT_q_144 := (hnew _ hc1).2.trans hc2
  replace hT_h0 := (hold _ hL_h0).2.trans hT_h0
  have hF_h0 := (holdF _ hL_h0).1.trans hF_140
  replace hL_h0 := (hold _ hL_h0).1
  replace hT_q_21 := (hold _ hL_q_21).2.trans hT_q_21
  have hF_q_21 := (holdF _ hL_q_21).1.trans hF_141
  replace hL_q_21 := (hold _ hL_q_21).1
  replace hT_q_27 := (hold _ hL_q_27).2.trans hT_q_27
  have hF_q_27 := (holdF _ hL_q_27).1.trans hF_142
  replace hL_q_27 := (hold _ hL_q_27).1
  replace hT_q_50 := (hold _ hL_q_50).2.trans hT_q_50
  have hF_q_50 := (holdF _ hL_q_50).1.trans hF_143
  replace hL_q_50 := (hold _ hL_q_50).1
  replace hfs := gr_cons hold hfs hL_q_144 hT_q_144
  refine pg_putF (ci := 15) (v := .ref q_144) (ty := .object "PostGateModel$Tags") (C := RX15) (T := TX15) (N := 59) hx hb hts it_15 tyX15 tyX15_ok nmX15 hown hK hP hD hS hL_h0 hF_h0 rfl 36 (by decide) (hts _ kt_925) (fun _ h9 => h9) rfl hin rfl (by decide +kernel) (rfl) (rfl) (Nat.le_of_ble_eq_true rfl) dX15_init_200 (fun H locs hP hD hS => ?_)
  obtain ⟨F_150, he_151, hP, hD, hO⟩ : ∃ G, G = va_up F_149 h0 (.inr (15, (.ref q_1) :: (.int 0) :: (.int 0) :: (.int 0) :: (.ref q_6) :: (.ref q_11) :: (.ref q_16) :: (.ref q_21) :: (.ref q_27) :: (.ref q_34) :: (.ref q_42) :: (.int 0) :: (.int 0) :: (.ref q_50) :: (.int 0) :: (.int 0) :: (.ref q_58) :: (.int 0) :: (.int 0) :: (.int 0) :: (.int 0) :: (.int 0) :: (.int 0) :: (.ref q_67) :: (.ref q_75) :: (.ref q_83) :: (.ref q_91) :: (.ref q_99) :: (.ref q_107) :: (.ref q_115) :: (.int 0) :: (.int 0) :: (.int 0) :: (.int 0) :: (.ref q_123) :: (.ref q_132) :: (.ref q_144) :: (.null) :: (.null) :: (.null) :: (.null) :: (.null) :: (.null) :: (.null) :: (.null) :: (.null) :: (.null) :: (.null) :: (.null) :: (.null) :: (.null) :: (.null) :: (.int 0) :: (.int 0) :: (.int 0) :: (.null) :: (.null) :: (.null) :: (.null) :: [])) ∧ va_P (dC, dI) vwCl (va_pl L G) H ∧ va_D A (va_pl L G) ∧ OKm cs ty gm L G := ⟨_, rfl, hP, hD, hO.up (shm.raw hT_h0)⟩
  have hF_152 : F_150 h0 = .inr (15, (.ref q_1) :: (.int 0) :: (.int 0) :: (.int 0) :: (.ref q_6) :: (.ref q_11) :: (.ref q_16) :: (.ref q_21) :: (.ref q_27) :: (.ref q_34) :: (.ref q_42) :: (.int 0) :: (.int 0) :: (.ref q_50) :: (.int 0) :: (.int 0) :: (.ref q_58) :: (.int 0) :: (.int 0) :: (.int 0) :: (.int 0) :: (.int 0) :: (.int 0) :: (.ref q_67) :: (.ref q_75) :: (.ref q_83) :: (.ref q_91) :: (.ref q_99) :: (.ref q_107) :: (.ref q_115) :: (.int 0) :: (.int 0) :: (.int 0) :: (.int 0) :: (.ref q_123) :: (.ref q_132) :: (.ref q_144) :: (.null) :: (.null) :: (.null) :: (.null) :: (.null) :: (.null) :: (.null) :: (.null) :: (.null) :: (.null) :: (.null) :: (.null) :: (.null) :: (.null) :: (.null) :: (.int 0) :: (.int 0) :: (.int 0) :: (.null) :: (.null) :: (.null) :: (.null) :: []) := by rw [he_151]; exact up_self
  have hF_153 : F_150 q_21 = .inl (cs 23, 40, .inr (.inr (.inr (.inr (fun _ => none))))) := by rw [he_151, up_ne hne_h0_q_21.symm]; exact hF_q_21
  have hF_154 : F_150 q_27 = .inl (cs 23, 40, .inr (.inr (.inr (.inr (fun _ => none))))) := by rw [he_151, up_ne hne_h0_q_27.symm]; exact hF_q_27
  have hF_155 : F_150 q_50 = .inl (cs 23, 13, .inr (.inr (.inr (.inr (fun _ => none))))) := by rw [he_151, up_ne hne_h0_q_50.symm]; exact hF_q_50
  refine lv_aload_n hx hb dX15_init_203 rfl (lv_at hl 0 rfl) ?_
  refine va_new (ci := 13) (fs := [.null, .null, .null, .null, .int 0]) (C := RX13) (T := TX13) (N := 5) hx hb hts it_13 tyX13 tyX13_ok hown (hts _ kt_1127) (hts _ kt_1128) (hts _ kt_829) hK hP hD hS hA rfl df_13 (by show _ + 1 ≤ 254; omega) (by show _ + 5 ≤ 82375; omega) dX15_init_204 (fun q_156 H hPa hDa hS => ?_)
  have hP := left1 hPa
  have hD := left2 hDa
  refine lv_dup hx hb dX15_init_207 rfl ?_
  refine lv_sipush (v := 700) hx hb dX15_init_208 (by decide) ?_
  refine W.eq (g2 := F0 m 211 ls [.int (nI 700), .ref q_156, .ref q_156, .ref h0]) rfl ?_
  have hFc := free1 hDa hS hA
  have hPq := right1 hPa
  refine va_callv (va_runI (As := [.int (nI 700)]) (rest := [.ref q_156, .ref h0]) ⟨hx, hb, hml, hown, hts⟩ (k_X13_init l dC dI cs gm H.size q_156 700 (ρ + 15) 700 (by omega) (by omega)) ⟨callB_of 1 hts (gi kt_1129) rfl rfl rfl (hts _ kt_829) (hts _ kt_1130) (by decide +kernel) ⟨Nat.le_of_ble_eq_true rfl, Nat.le_of_ble_eq_true rfl⟩, rfl, (hts _ kt_1131)⟩ ⟨fun a U g mk q => ⟨q.1, PTm.calling q.2⟩, fun U hU hWm => ⟨rfl, PTm.mk hU hWm hPq hK one1 hE (fun a _ => shm.raw rfl)⟩⟩ rfl rfl hl.1 rfl (lv_room (Nat.le_of_ble_eq_true rfl)) dX15_init_211 ⟨by show _ + 5 ≤ 254; omega, by show _ + (700 + 122) ≤ 82375; omega⟩) hS (fun q _ h => hFc q h) hFc (fun u t H1 locs ht hvm hw hB hz1 hk1 hS => ?_)
  obtain ⟨L2, F2, ty2, x_157, y0_158, y1_159, y2_160, hN2, hc1, hc2⟩ := hB
  rw [ht] at hN2
  obtain ⟨L, ty, F_161, hN9, hold, holdF, hnew, hnewF⟩ := join1m hPa hDa hO hW hk1 hFc hN2
  obtain ⟨hP, hD, hO, hW⟩ := hN9
  generalize H1 = H at hP hS ⊢
  have hL_q_156 := (hnew _ hc1).1
  have hT_q_156 := (hnew _ hc1).2.trans hc2
  replace hT_h0 := (hold _ hL_h0).2.trans hT_h0
  have hF_h0 := (holdF _ hL_h0).1.trans hF_152
  replace hL_h0 := (hold _ hL_h0).1
  replace hT_q_21 := (hold _ hL_q_21).2.trans hT_q_21
  have hF_q_21 := (holdF _ hL_q_21).1.trans hF_153
  replace hL_q_21 := (hold _ hL_q_21).1
  replace hT_q_27 := (hold _ hL_q_27).2.trans hT_q_27
  have hF_q_27 := (holdF _ hL_q_27).1.trans hF_154
  replace hL_q_27 := (hold _ hL_q_27).1
  replace hT_q_50 := (hold _ hL_q_50).2.trans hT_q_50
  have hF_q_50 := (holdF _ hL_q_50).1.trans hF_155
  replace hL_q_50 := (hold _ hL_q_50).1
  replace hfs := gr_cons hold hfs hL_q_156 hT_q_156
  refine pg_putF (ci := 15) (v := .ref q_156) (ty := .object "PostGateModel$Tags") (C := RX15) (T := TX15) (N := 59) hx hb hts it_15 tyX15 tyX15_ok nmX15 hown hK hP hD hS hL_h0 hF_h0 rfl 37 (by decide) (hts _ kt_1132) (fun _ h9 => h9) rfl hin rfl (by decide +kernel) (rfl) (rfl) (Nat.le_of_ble_eq_true rfl) dX15_init_214 (fun H locs hP hD hS => ?_)
  obtain ⟨F_162, he_163, hP, hD, hO⟩ : ∃ G, G = va_up F_161 h0 (.inr (15, (.ref q_1) :: (.int 0) :: (.int 0) :: (.int 0) :: (.ref q_6) :: (.ref q_11) :: (.ref q_16) :: (.ref q_21) :: (.ref q_27) :: (.ref q_34) :: (.ref q_42) :: (.int 0) :: (.int 0) :: (.ref q_50) :: (.int 0) :: (.int 0) :: (.ref q_58) :: (.int 0) :: (.int 0) :: (.int 0) :: (.int 0) :: (.int 0) :: (.int 0) :: (.ref q_67) :: (.ref q_75) :: (.ref q_83) :: (.ref q_91) :: (.ref q_99) :: (.ref q_107) :: (.ref q_115) :: (.int 0) :: (.int 0) :: (.int 0) :: (.int 0) :: (.ref q_123) :: (.ref q_132) :: (.ref q_144) :: (.ref q_156) :: (.null) :: (.null) :: (.null) :: (.null) :: (.null) :: (.null) :: (.null) :: (.null) :: (.null) :: (.null) :: (.null) :: (.null) :: (.null) :: (.null) :: (.int 0) :: (.int 0) :: (.int 0) :: (.null) :: (.null) :: (.null) :: (.null) :: [])) ∧ va_P (dC, dI) vwCl (va_pl L G) H ∧ va_D A (va_pl L G) ∧ OKm cs ty gm L G := ⟨_, rfl, hP, hD, hO.up (shm.raw hT_h0)⟩
  have hF_164 : F_162 h0 = .inr (15, (.ref q_1) :: (.int 0) :: (.int 0) :: (.int 0) :: (.ref q_6) :: (.ref q_11) :: (.ref q_16) :: (.ref q_21) :: (.ref q_27) :: (.ref q_34) :: (.ref q_42) :: (.int 0) :: (.int 0) :: (.ref q_50) :: (.int 0) :: (.int 0) :: (.ref q_58) :: (.int 0) :: (.int 0) :: (.int 0) :: (.int 0) :: (.int 0) :: (.int 0) :: (.ref q_67) :: (.ref q_75) :: (.ref q_83) :: (.ref q_91) :: (.ref q_99) :: (.ref q_107) :: (.ref q_115) :: (.int 0) :: (.int 0) :: (.int 0) :: (.int 0) :: (.ref q_123) :: (.ref q_132) :: (.ref q_144) :: (.ref q_156) :: (.null) :: (.null) :: (.null) :: (.null) :: (.null) :: (.null) :: (.null) :: (.null) :: (.null) :: (.null) :: (.null) :: (.null) :: (.null) :: (.null) :: (.int 0) :: (.int 0) :: (.int 0) :: (.null) :: (.null) :: (.null) :: (.null) :: []) := by rw [he_163]; exact up_self
  have hF_165 : F_162 q_21 = .inl (cs 23, 40, .inr (.inr (.inr (.inr (fun _ => none))))) := by rw [he_163, up_ne hne_h0_q_21.symm]; exact hF_q_21
  have hF_166 : F_162 q_27 = .inl (cs 23, 40, .inr (.inr (.inr (.inr (fun _ => none))))) := by rw [he_163, up_ne hne_h0_q_27.symm]; exact hF_q_27
  have hF_167 : F_162 q_50 = .inl (cs 23, 13, .inr (.inr (.inr (.inr (fun _ => none))))) := by rw [he_163, up_ne hne_h0_q_50.symm]; exact hF_q_50
  refine lv_aload_n hx hb dX15_init_217 rfl (lv_at hl 0 rfl) ?_
  refine va_new (ci := 12) (fs := [.null, .null, .null, .null, .null, .int 0, .long 0]) (C := RX12) (T := TX12) (N := 7) hx hb hts it_12 tyX12 tyX12_ok hown (hts _ kt_1133) (hts _ kt_1134) (hts _ kt_779) hK hP hD hS hA rfl df_12 (by show _ + 1 ≤ 254; omega) (by show _ + 7 ≤ 82375; omega) dX15_init_218 (fun q_168 H hPa hDa hS => ?_)
  have hP := left1 hPa
  have hD := left2 hDa
  refine lv_dup hx hb dX15_init_221 rfl ?_
  refine W.eq (g2 := F0 m 222 ls [.ref q_168, .ref q_168, .ref h0]) rfl ?_
  have hFc := free1 hDa hS hA
  have hPq := right1 hPa
  refine va_callv (va_runI (As := []) (rest := [.ref q_168, .ref h0]) ⟨hx, hb, hml, hown, hts⟩ (k_X12_init l dC dI cs gm H.size q_168 (ρ + 17) ) ⟨callB_of 0 hts (gi kt_1135) rfl rfl rfl (hts _ kt_779) (hts _ kt_1136) (by decide +kernel) ⟨Nat.le_of_ble_eq_true rfl, Nat.le_of_ble_eq_true rfl⟩, rfl, (hts _ kt_1137)⟩ ⟨fun a U g mk q => ⟨q.1, PTm.calling q.2⟩, fun U hU hWm => ⟨rfl, PTm.mk hU hWm hPq hK one1 hE (fun a _ => shm.raw rfl)⟩⟩ rfl rfl hl.1 rfl (lv_room (Nat.le_of_ble_eq_true rfl)) dX15_init_222 ⟨by show _ + 5 ≤ 254; omega, by show _ + 208 ≤ 82375; omega⟩) hS (fun q _ h => hFc q h) hFc (fun u t H1 locs ht hvm hw hB hz1 hk1 hS => ?_)
  obtain ⟨L2, F2, ty2, x_169, y_170, w_171, u9_172, bl_173, hN2, hc1, hc2⟩ := hB
  rw [ht] at hN2
  obtain ⟨L, ty, F_174, hN9, hold, holdF, hnew, hnewF⟩ := join1m hPa hDa hO hW hk1 hFc hN2
  obtain ⟨hP, hD, hO, hW⟩ := hN9
  generalize H1 = H at hP hS ⊢
  have hL_q_168 := (hnew _ hc1).1
  have hT_q_168 := (hnew _ hc1).2.trans hc2
  replace hT_h0 := (hold _ hL_h0).2.trans hT_h0
  have hF_h0 := (holdF _ hL_h0).1.trans hF_164
  replace hL_h0 := (hold _ hL_h0).1
  replace hT_q_21 := (hold _ hL_q_21).2.trans hT_q_21
  have hF_q_21 := (holdF _ hL_q_21).1.trans hF_165
  replace hL_q_21 := (hold _ hL_q_21).1
  replace hT_q_27 := (hold _ hL_q_27).2.trans hT_q_27
  have hF_q_27 := (holdF _ hL_q_27).1.trans hF_166
  replace hL_q_27 := (hold _ hL_q_27).1
  replace hT_q_50 := (hold _ hL_q_50).2.trans hT_q_50
  have hF_q_50 := (holdF _ hL_q_50).1.trans hF_167
  replace hL_q_50 := (hold _ hL_q_50).1
  replace hfs := gr_cons hold hfs hL_q_168 hT_q_168
  refine pg_putF (ci := 15) (v := .ref q_168) (ty := .object "PostGateModel$Hash") (C := RX15) (T := TX15) (N := 59) hx hb hts it_15 tyX15 tyX15_ok nmX15 hown hK hP hD hS hL_h0 hF_h0 rfl 38 (by decide) (hts _ kt_794) (fun _ h9 => h9) rfl hin rfl (by decide +kernel) (rfl) (rfl) (Nat.le_of_ble_eq_true rfl) dX15_init_225 (fun H locs hP hD hS => ?_)
  obtain ⟨F_175, he_176, hP, hD, hO⟩ : ∃ G, G = va_up F_174 h0 (.inr (15, (.ref q_1) :: (.int 0) :: (.int 0) :: (.int 0) :: (.ref q_6) :: (.ref q_11) :: (.ref q_16) :: (.ref q_21) :: (.ref q_27) :: (.ref q_34) :: (.ref q_42) :: (.int 0) :: (.int 0) :: (.ref q_50) :: (.int 0) :: (.int 0) :: (.ref q_58) :: (.int 0) :: (.int 0) :: (.int 0) :: (.int 0) :: (.int 0) :: (.int 0) :: (.ref q_67) :: (.ref q_75) :: (.ref q_83) :: (.ref q_91) :: (.ref q_99) :: (.ref q_107) :: (.ref q_115) :: (.int 0) :: (.int 0) :: (.int 0) :: (.int 0) :: (.ref q_123) :: (.ref q_132) :: (.ref q_144) :: (.ref q_156) :: (.ref q_168) :: (.null) :: (.null) :: (.null) :: (.null) :: (.null) :: (.null) :: (.null) :: (.null) :: (.null) :: (.null) :: (.null) :: (.null) :: (.null) :: (.int 0) :: (.int 0) :: (.int 0) :: (.null) :: (.null) :: (.null) :: (.null) :: [])) ∧ va_P (dC, dI) vwCl (va_pl L G) H ∧ va_D A (va_pl L G) ∧ OKm cs ty gm L G := ⟨_, rfl, hP, hD, hO.up (shm.raw hT_h0)⟩
  have hF_177 : F_175 h0 = .inr (15, (.ref q_1) :: (.int 0) :: (.int 0) :: (.int 0) :: (.ref q_6) :: (.ref q_11) :: (.ref q_16) :: (.ref q_21) :: (.ref q_27) :: (.ref q_34) :: (.ref q_42) :: (.int 0) :: (.int 0) :: (.ref q_50) :: (.int 0) :: (.int 0) :: (.ref q_58) :: (.int 0) :: (.int 0) :: (.int 0) :: (.int 0) :: (.int 0) :: (.int 0) :: (.ref q_67) :: (.ref q_75) :: (.ref q_83) :: (.ref q_91) :: (.ref q_99) :: (.ref q_107) :: (.ref q_115) :: (.int 0) :: (.int 0) :: (.int 0) :: (.int 0) :: (.ref q_123) :: (.ref q_132) :: (.ref q_144) :: (.ref q_156) :: (.ref q_168) :: (.null) :: (.null) :: (.null) :: (.null) :: (.null) :: (.null) :: (.null) :: (.null) :: (.null) :: (.null) :: (.null) :: (.null) :: (.null) :: (.int 0) :: (.int 0) :: (.int 0) :: (.null) :: (.null) :: (.null) :: (.null) :: []) := by rw [he_176]; exact up_self
  have hF_178 : F_175 q_21 = .inl (cs 23, 40, .inr (.inr (.inr (.inr (fun _ => none))))) := by rw [he_176, up_ne hne_h0_q_21.symm]; exact hF_q_21
  have hF_179 : F_175 q_27 = .inl (cs 23, 40, .inr (.inr (.inr (.inr (fun _ => none))))) := by rw [he_176, up_ne hne_h0_q_27.symm]; exact hF_q_27
  have hF_180 : F_175 q_50 = .inl (cs 23, 13, .inr (.inr (.inr (.inr (fun _ => none))))) := by rw [he_176, up_ne hne_h0_q_50.symm]; exact hF_q_50
  refine lv_aload_n hx hb dX15_init_228 rfl (lv_at hl 0 rfl) ?_
  refine lv_bipush (v := 33) hx hb dX15_init_229 (by decide) ?_
  refine va_newa (atype := .int) (ty := .int) (a0 := (33, .inl (fun _ => 0))) (N' := 33) hx hb (hts _ kt_1007) rfl hK hP hD hS hA (fun _ => rfl) (by decide) (by decide) (by show _ * 4 ≤ _; omega) (by show _ + 1 ≤ 254; omega) (by show _ + 33 ≤ 82375; omega) dX15_init_231 (fun q_181 cA H hKn hPa hDa hS => ?_)
  obtain rfl := cid_int hK hKn
  obtain ⟨L, ty, F_182, hN9, hold, holdF, hL_q_181, hT_q_181, hF_q_181⟩ := grow1m (e := (16, ρ + 18, [33])) hPa hDa hO hW (shm.ints rtf_self ⟨_, rfl⟩) (wtam_ints rtf_self ⟨by omega, by omega⟩)
  obtain ⟨hP, hD, hO, hW⟩ := hN9
  replace hT_h0 := (hold _ hL_h0).2.trans hT_h0
  have hF_h0 := (holdF _ hL_h0).1.trans hF_177
  replace hL_h0 := (hold _ hL_h0).1
  replace hT_q_21 := (hold _ hL_q_21).2.trans hT_q_21
  have hF_q_21 := (holdF _ hL_q_21).1.trans hF_178
  replace hL_q_21 := (hold _ hL_q_21).1
  replace hT_q_27 := (hold _ hL_q_27).2.trans hT_q_27
  have hF_q_27 := (holdF _ hL_q_27).1.trans hF_179
  replace hL_q_27 := (hold _ hL_q_27).1
  replace hT_q_50 := (hold _ hL_q_50).2.trans hT_q_50
  have hF_q_50 := (holdF _ hL_q_50).1.trans hF_180
  replace hL_q_50 := (hold _ hL_q_50).1
  replace hfs := gr_cons hold hfs hL_q_181 hT_q_181
  refine pg_putF (ci := 15) (v := .ref q_181) (ty := .array .int) (C := RX15) (T := TX15) (N := 59) hx hb hts it_15 tyX15 tyX15_ok nmX15 hown hK hP hD hS hL_h0 hF_h0 rfl 39 (by decide) (hts _ kt_811) (fun _ h9 => h9) rfl hin rfl (by decide +kernel) (rfl) (rfl) (Nat.le_of_ble_eq_true rfl) dX15_init_233 (fun H locs hP hD hS => ?_)
  obtain ⟨F_183, he_184, hP, hD, hO⟩ : ∃ G, G = va_up F_182 h0 (.inr (15, (.ref q_1) :: (.int 0) :: (.int 0) :: (.int 0) :: (.ref q_6) :: (.ref q_11) :: (.ref q_16) :: (.ref q_21) :: (.ref q_27) :: (.ref q_34) :: (.ref q_42) :: (.int 0) :: (.int 0) :: (.ref q_50) :: (.int 0) :: (.int 0) :: (.ref q_58) :: (.int 0) :: (.int 0) :: (.int 0) :: (.int 0) :: (.int 0) :: (.int 0) :: (.ref q_67) :: (.ref q_75) :: (.ref q_83) :: (.ref q_91) :: (.ref q_99) :: (.ref q_107) :: (.ref q_115) :: (.int 0) :: (.int 0) :: (.int 0) :: (.int 0) :: (.ref q_123) :: (.ref q_132) :: (.ref q_144) :: (.ref q_156) :: (.ref q_168) :: (.ref q_181) :: (.null) :: (.null) :: (.null) :: (.null) :: (.null) :: (.null) :: (.null) :: (.null) :: (.null) :: (.null) :: (.null) :: (.null) :: (.int 0) :: (.int 0) :: (.int 0) :: (.null) :: (.null) :: (.null) :: (.null) :: [])) ∧ va_P (dC, dI) vwCl (va_pl L G) H ∧ va_D A (va_pl L G) ∧ OKm cs ty gm L G := ⟨_, rfl, hP, hD, hO.up (shm.raw hT_h0)⟩
  have hF_185 : F_183 h0 = .inr (15, (.ref q_1) :: (.int 0) :: (.int 0) :: (.int 0) :: (.ref q_6) :: (.ref q_11) :: (.ref q_16) :: (.ref q_21) :: (.ref q_27) :: (.ref q_34) :: (.ref q_42) :: (.int 0) :: (.int 0) :: (.ref q_50) :: (.int 0) :: (.int 0) :: (.ref q_58) :: (.int 0) :: (.int 0) :: (.int 0) :: (.int 0) :: (.int 0) :: (.int 0) :: (.ref q_67) :: (.ref q_75) :: (.ref q_83) :: (.ref q_91) :: (.ref q_99) :: (.ref q_107) :: (.ref q_115) :: (.int 0) :: (.int 0) :: (.int 0) :: (.int 0) :: (.ref q_123) :: (.ref q_132) :: (.ref q_144) :: (.ref q_156) :: (.ref q_168) :: (.ref q_181) :: (.null) :: (.null) :: (.null) :: (.null) :: (.null) :: (.null) :: (.null) :: (.null) :: (.null) :: (.null) :: (.null) :: (.null) :: (.int 0) :: (.int 0) :: (.int 0) :: (.null) :: (.null) :: (.null) :: (.null) :: []) := by rw [he_184]; exact up_self
  have hF_186 : F_183 q_21 = .inl (cs 23, 40, .inr (.inr (.inr (.inr (fun _ => none))))) := by rw [he_184, up_ne hne_h0_q_21.symm]; exact hF_q_21
  have hF_187 : F_183 q_27 = .inl (cs 23, 40, .inr (.inr (.inr (.inr (fun _ => none))))) := by rw [he_184, up_ne hne_h0_q_27.symm]; exact hF_q_27
  have hF_188 : F_183 q_50 = .inl (cs 23, 13, .inr (.inr (.inr (.inr (fun _ => none))))) := by rw [he_184, up_ne hne_h0_q_50.symm]; exact hF_q_50
  refine lv_aload_n hx hb dX15_init_236 rfl (lv_at hl 0 rfl) ?_
  refine lv_bipush (v := 33) hx hb dX15_init_237 (by decide) ?_
  refine va_newa (atype := .int) (ty := .int) (a0 := (33, .inl (fun _ => 0))) (N' := 33) hx hb (hts _ kt_1007) rfl hK hP hD hS hA (fun _ => rfl) (by decide) (by decide) (by show _ * 4 ≤ _; omega) (by show _ + 1 ≤ 254; omega) (by show _ + 33 ≤ 82375; omega) dX15_init_239 (fun q_189 cA H hKn hPa hDa hS => ?_)
  obtain rfl := cid_int hK hKn
  obtain ⟨L, ty, F_190, hN9, hold, holdF, hL_q_189, hT_q_189, hF_q_189⟩ := grow1m (e := (16, ρ + 87, [33])) hPa hDa hO hW (shm.ints rtf_self ⟨_, rfl⟩) (wtam_ints rtf_self ⟨by omega, by omega⟩)
  obtain ⟨hP, hD, hO, hW⟩ := hN9
  replace hT_h0 := (hold _ hL_h0).2.trans hT_h0
  have hF_h0 := (holdF _ hL_h0).1.trans hF_185
  replace hL_h0 := (hold _ hL_h0).1
  replace hT_q_21 := (hold _ hL_q_21).2.trans hT_q_21
  have hF_q_21 := (holdF _ hL_q_21).1.trans hF_186
  replace hL_q_21 := (hold _ hL_q_21).1
  replace hT_q_27 := (hold _ hL_q_27).2.trans hT_q_27
  have hF_q_27 := (holdF _ hL_q_27).1.trans hF_187
  replace hL_q_27 := (hold _ hL_q_27).1
  replace hT_q_50 := (hold _ hL_q_50).2.trans hT_q_50
  have hF_q_50 := (holdF _ hL_q_50).1.trans hF_188
  replace hL_q_50 := (hold _ hL_q_50).1
  replace hfs := gr_cons hold hfs hL_q_189 hT_q_189
  refine pg_putF (ci := 15) (v := .ref q_189) (ty := .array .int) (C := RX15) (T := TX15) (N := 59) hx hb hts it_15 tyX15 tyX15_ok nmX15 hown hK hP hD hS hL_h0 hF_h0 rfl 40 (by decide) (hts _ kt_817) (fun _ h9 => h9) rfl hin rfl (by decide +kernel) (rfl) (rfl) (Nat.le_of_ble_eq_true rfl) dX15_init_241 (fun H locs hP hD hS => ?_)
  obtain ⟨F_191, he_192, hP, hD, hO⟩ : ∃ G, G = va_up F_190 h0 (.inr (15, (.ref q_1) :: (.int 0) :: (.int 0) :: (.int 0) :: (.ref q_6) :: (.ref q_11) :: (.ref q_16) :: (.ref q_21) :: (.ref q_27) :: (.ref q_34) :: (.ref q_42) :: (.int 0) :: (.int 0) :: (.ref q_50) :: (.int 0) :: (.int 0) :: (.ref q_58) :: (.int 0) :: (.int 0) :: (.int 0) :: (.int 0) :: (.int 0) :: (.int 0) :: (.ref q_67) :: (.ref q_75) :: (.ref q_83) :: (.ref q_91) :: (.ref q_99) :: (.ref q_107) :: (.ref q_115) :: (.int 0) :: (.int 0) :: (.int 0) :: (.int 0) :: (.ref q_123) :: (.ref q_132) :: (.ref q_144) :: (.ref q_156) :: (.ref q_168) :: (.ref q_181) :: (.ref q_189) :: (.null) :: (.null) :: (.null) :: (.null) :: (.null) :: (.null) :: (.null) :: (.null) :: (.null) :: (.null) :: (.null) :: (.int 0) :: (.int 0) :: (.int 0) :: (.null) :: (.null) :: (.null) :: (.null) :: [])) ∧ va_P (dC, dI) vwCl (va_pl L G) H ∧ va_D A (va_pl L G) ∧ OKm cs ty gm L G := ⟨_, rfl, hP, hD, hO.up (shm.raw hT_h0)⟩
  have hF_193 : F_191 h0 = .inr (15, (.ref q_1) :: (.int 0) :: (.int 0) :: (.int 0) :: (.ref q_6) :: (.ref q_11) :: (.ref q_16) :: (.ref q_21) :: (.ref q_27) :: (.ref q_34) :: (.ref q_42) :: (.int 0) :: (.int 0) :: (.ref q_50) :: (.int 0) :: (.int 0) :: (.ref q_58) :: (.int 0) :: (.int 0) :: (.int 0) :: (.int 0) :: (.int 0) :: (.int 0) :: (.ref q_67) :: (.ref q_75) :: (.ref q_83) :: (.ref q_91) :: (.ref q_99) :: (.ref q_107) :: (.ref q_115) :: (.int 0) :: (.int 0) :: (.int 0) :: (.int 0) :: (.ref q_123) :: (.ref q_132) :: (.ref q_144) :: (.ref q_156) :: (.ref q_168) :: (.ref q_181) :: (.ref q_189) :: (.null) :: (.null) :: (.null) :: (.null) :: (.null) :: (.null) :: (.null) :: (.null) :: (.null) :: (.null) :: (.null) :: (.int 0) :: (.int 0) :: (.int 0) :: (.null) :: (.null) :: (.null) :: (.null) :: []) := by rw [he_192]; exact up_self
  have hF_194 : F_191 q_21 = .inl (cs 23, 40, .inr (.inr (.inr (.inr (fun _ => none))))) := by rw [he_192, up_ne hne_h0_q_21.symm]; exact hF_q_21
  have hF_195 : F_191 q_27 = .inl (cs 23, 40, .inr (.inr (.inr (.inr (fun _ => none))))) := by rw [he_192, up_ne hne_h0_q_27.symm]; exact hF_q_27
  have hF_196 : F_191 q_50 = .inl (cs 23, 13, .inr (.inr (.inr (.inr (fun _ => none))))) := by rw [he_192, up_ne hne_h0_q_50.symm]; exact hF_q_50
  refine lv_aload_n hx hb dX15_init_244 rfl (lv_at hl 0 rfl) ?_
  refine lv_bipush (v := 33) hx hb dX15_init_245 (by decide) ?_
  refine va_newa (atype := .int) (ty := .int) (a0 := (33, .inl (fun _ => 0))) (N' := 33) hx hb (hts _ kt_1007) rfl hK hP hD hS hA (fun _ => rfl) (by decide) (by decide) (by show _ * 4 ≤ _; omega) (by show _ + 1 ≤ 254; omega) (by show _ + 33 ≤ 82375; omega) dX15_init_247 (fun q_197 cA H hKn hPa hDa hS => ?_)
  obtain rfl := cid_int hK hKn
  obtain ⟨L, ty, F_198, hN9, hold, holdF, hL_q_197, hT_q_197, hF_q_197⟩ := grow1m (e := (16, ρ + 88, [33])) hPa hDa hO hW (shm.ints rtf_self ⟨_, rfl⟩) (wtam_ints rtf_self ⟨by omega, by omega⟩)
  obtain ⟨hP, hD, hO, hW⟩ := hN9
  replace hT_h0 := (hold _ hL_h0).2.trans hT_h0
  have hF_h0 := (holdF _ hL_h0).1.trans hF_193
  replace hL_h0 := (hold _ hL_h0).1
  replace hT_q_21 := (hold _ hL_q_21).2.trans hT_q_21
  have hF_q_21 := (holdF _ hL_q_21).1.trans hF_194
  replace hL_q_21 := (hold _ hL_q_21).1
  replace hT_q_27 := (hold _ hL_q_27).2.trans hT_q_27
  have hF_q_27 := (holdF _ hL_q_27).1.trans hF_195
  replace hL_q_27 := (hold _ hL_q_27).1
  replace hT_q_50 := (hold _ hL_q_50).2.trans hT_q_50
  have hF_q_50 := (holdF _ hL_q_50).1.trans hF_196
  replace hL_q_50 := (hold _ hL_q_50).1
  replace hfs := gr_cons hold hfs hL_q_197 hT_q_197
  refine pg_putF (ci := 15) (v := .ref q_197) (ty := .array .int) (C := RX15) (T := TX15) (N := 59) hx hb hts it_15 tyX15 tyX15_ok nmX15 hown hK hP hD hS hL_h0 hF_h0 rfl 41 (by decide) (hts _ kt_911) (fun _ h9 => h9) rfl hin rfl (by decide +kernel) (rfl) (rfl) (Nat.le_of_ble_eq_true rfl) dX15_init_249 (fun H locs hP hD hS => ?_)
  obtain ⟨F_199, he_200, hP, hD, hO⟩ : ∃ G, G = va_up F_198 h0 (.inr (15, (.ref q_1) :: (.int 0) :: (.int 0) :: (.int 0) :: (.ref q_6) :: (.ref q_11) :: (.ref q_16) :: (.ref q_21) :: (.ref q_27) :: (.ref q_34) :: (.ref q_42) :: (.int 0) :: (.int 0) :: (.ref q_50) :: (.int 0) :: (.int 0) :: (.ref q_58) :: (.int 0) :: (.int 0) :: (.int 0) :: (.int 0) :: (.int 0) :: (.int 0) :: (.ref q_67) :: (.ref q_75) :: (.ref q_83) :: (.ref q_91) :: (.ref q_99) :: (.ref q_107) :: (.ref q_115) :: (.int 0) :: (.int 0) :: (.int 0) :: (.int 0) :: (.ref q_123) :: (.ref q_132) :: (.ref q_144) :: (.ref q_156) :: (.ref q_168) :: (.ref q_181) :: (.ref q_189) :: (.ref q_197) :: (.null) :: (.null) :: (.null) :: (.null) :: (.null) :: (.null) :: (.null) :: (.null) :: (.null) :: (.null) :: (.int 0) :: (.int 0) :: (.int 0) :: (.null) :: (.null) :: (.null) :: (.null) :: [])) ∧ va_P (dC, dI) vwCl (va_pl L G) H ∧ va_D A (va_pl L G) ∧ OKm cs ty gm L G := ⟨_, rfl, hP, hD, hO.up (shm.raw hT_h0)⟩
  have hF_201 : F_199 h0 = .inr (15, (.ref q_1) :: (.int 0) :: (.int 0) :: (.int 0) :: (.ref q_6) :: (.ref q_11) :: (.ref q_16) :: (.ref q_21) :: (.ref q_27) :: (.ref q_34) :: (.ref q_42) :: (.int 0) :: (.int 0) :: (.ref q_50) :: (.int 0) :: (.int 0) :: (.ref q_58) :: (.int 0) :: (.int 0) :: (.int 0) :: (.int 0) :: (.int 0) :: (.int 0) :: (.ref q_67) :: (.ref q_75) :: (.ref q_83) :: (.ref q_91) :: (.ref q_99) :: (.ref q_107) :: (.ref q_115) :: (.int 0) :: (.int 0) :: (.int 0) :: (.int 0) :: (.ref q_123) :: (.ref q_132) :: (.ref q_144) :: (.ref q_156) :: (.ref q_168) :: (.ref q_181) :: (.ref q_189) :: (.ref q_197) :: (.null) :: (.null) :: (.null) :: (.null) :: (.null) :: (.null) :: (.null) :: (.null) :: (.null) :: (.null) :: (.int 0) :: (.int 0) :: (.int 0) :: (.null) :: (.null) :: (.null) :: (.null) :: []) := by rw [he_200]; exact up_self
  have hF_202 : F_199 q_21 = .inl (cs 23, 40, .inr (.inr (.inr (.inr (fun _ => none))))) := by rw [he_200, up_ne hne_h0_q_21.symm]; exact hF_q_21
  have hF_203 : F_199 q_27 = .inl (cs 23, 40, .inr (.inr (.inr (.inr (fun _ => none))))) := by rw [he_200, up_ne hne_h0_q_27.symm]; exact hF_q_27
  have hF_204 : F_199 q_50 = .inl (cs 23, 13, .inr (.inr (.inr (.inr (fun _ => none))))) := by rw [he_200, up_ne hne_h0_q_50.symm]; exact hF_q_50
  refine lv_aload_n hx hb dX15_init_252 rfl (lv_at hl 0 rfl) ?_
  refine lv_bipush (v := 66) hx hb dX15_init_253 (by decide) ?_
  refine va_newa (atype := .int) (ty := .int) (a0 := (66, .inl (fun _ => 0))) (N' := 66) hx hb (hts _ kt_1007) rfl hK hP hD hS hA (fun _ => rfl) (by decide) (by decide) (by show _ * 4 ≤ _; omega) (by show _ + 1 ≤ 254; omega) (by show _ + 66 ≤ 82375; omega) dX15_init_255 (fun q_205 cA H hKn hPa hDa hS => ?_)
  obtain rfl := cid_int hK hKn
  obtain ⟨L, ty, F_206, hN9, hold, holdF, hL_q_205, hT_q_205, hF_q_205⟩ := grow1m (e := (16, ρ + 89, [66])) hPa hDa hO hW (shm.ints rtf_self ⟨_, rfl⟩) (wtam_ints rtf_self ⟨by omega, by omega⟩)
  obtain ⟨hP, hD, hO, hW⟩ := hN9
  replace hT_h0 := (hold _ hL_h0).2.trans hT_h0
  have hF_h0 := (holdF _ hL_h0).1.trans hF_201
  replace hL_h0 := (hold _ hL_h0).1
  replace hT_q_21 := (hold _ hL_q_21).2.trans hT_q_21
  have hF_q_21 := (holdF _ hL_q_21).1.trans hF_202
  replace hL_q_21 := (hold _ hL_q_21).1
  replace hT_q_27 := (hold _ hL_q_27).2.trans hT_q_27
  have hF_q_27 := (holdF _ hL_q_27).1.trans hF_203
  replace hL_q_27 := (hold _ hL_q_27).1
  replace hT_q_50 := (hold _ hL_q_50).2.trans hT_q_50
  have hF_q_50 := (holdF _ hL_q_50).1.trans hF_204
  replace hL_q_50 := (hold _ hL_q_50).1
  replace hfs := gr_cons hold hfs hL_q_205 hT_q_205
  refine pg_putF (ci := 15) (v := .ref q_205) (ty := .array .int) (C := RX15) (T := TX15) (N := 59) hx hb hts it_15 tyX15 tyX15_ok nmX15 hown hK hP hD hS hL_h0 hF_h0 rfl 42 (by decide) (hts _ kt_816) (fun _ h9 => h9) rfl hin rfl (by decide +kernel) (rfl) (rfl) (Nat.le_of_ble_eq_true rfl) dX15_init_257 (fun H locs hP hD hS => ?_)
  obtain ⟨F_207, he_208, hP, hD, hO⟩ : ∃ G, G = va_up F_206 h0 (.inr (15, (.ref q_1) :: (.int 0) :: (.int 0) :: (.int 0) :: (.ref q_6) :: (.ref q_11) :: (.ref q_16) :: (.ref q_21) :: (.ref q_27) :: (.ref q_34) :: (.ref q_42) :: (.int 0) :: (.int 0) :: (.ref q_50) :: (.int 0) :: (.int 0) :: (.ref q_58) :: (.int 0) :: (.int 0) :: (.int 0) :: (.int 0) :: (.int 0) :: (.int 0) :: (.ref q_67) :: (.ref q_75) :: (.ref q_83) :: (.ref q_91) :: (.ref q_99) :: (.ref q_107) :: (.ref q_115) :: (.int 0) :: (.int 0) :: (.int 0) :: (.int 0) :: (.ref q_123) :: (.ref q_132) :: (.ref q_144) :: (.ref q_156) :: (.ref q_168) :: (.ref q_181) :: (.ref q_189) :: (.ref q_197) :: (.ref q_205) :: (.null) :: (.null) :: (.null) :: (.null) :: (.null) :: (.null) :: (.null) :: (.null) :: (.null) :: (.int 0) :: (.int 0) :: (.int 0) :: (.null) :: (.null) :: (.null) :: (.null) :: [])) ∧ va_P (dC, dI) vwCl (va_pl L G) H ∧ va_D A (va_pl L G) ∧ OKm cs ty gm L G := ⟨_, rfl, hP, hD, hO.up (shm.raw hT_h0)⟩
  have hF_209 : F_207 h0 = .inr (15, (.ref q_1) :: (.int 0) :: (.int 0) :: (.int 0) :: (.ref q_6) :: (.ref q_11) :: (.ref q_16) :: (.ref q_21) :: (.ref q_27) :: (.ref q_34) :: (.ref q_42) :: (.int 0) :: (.int 0) :: (.ref q_50) :: (.int 0) :: (.int 0) :: (.ref q_58) :: (.int 0) :: (.int 0) :: (.int 0) :: (.int 0) :: (.int 0) :: (.int 0) :: (.ref q_67) :: (.ref q_75) :: (.ref q_83) :: (.ref q_91) :: (.ref q_99) :: (.ref q_107) :: (.ref q_115) :: (.int 0) :: (.int 0) :: (.int 0) :: (.int 0) :: (.ref q_123) :: (.ref q_132) :: (.ref q_144) :: (.ref q_156) :: (.ref q_168) :: (.ref q_181) :: (.ref q_189) :: (.ref q_197) :: (.ref q_205) :: (.null) :: (.null) :: (.null) :: (.null) :: (.null) :: (.null) :: (.null) :: (.null) :: (.null) :: (.int 0) :: (.int 0) :: (.int 0) :: (.null) :: (.null) :: (.null) :: (.null) :: []) := by rw [he_208]; exact up_self
  have hF_210 : F_207 q_21 = .inl (cs 23, 40, .inr (.inr (.inr (.inr (fun _ => none))))) := by rw [he_208, up_ne hne_h0_q_21.symm]; exact hF_q_21
  have hF_211 : F_207 q_27 = .inl (cs 23, 40, .inr (.inr (.inr (.inr (fun _ => none))))) := by rw [he_208, up_ne hne_h0_q_27.symm]; exact hF_q_27
  have hF_212 : F_207 q_50 = .inl (cs 23, 13, .inr (.inr (.inr (.inr (fun _ => none))))) := by rw [he_208, up_ne hne_h0_q_50.symm]; exact hF_q_50
  refine lv_aload_n hx hb dX15_init_260 rfl (lv_at hl 0 rfl) ?_
  refine lv_bipush (v := 33) hx hb dX15_init_261 (by decide) ?_
  refine va_newa (atype := .int) (ty := .int) (a0 := (33, .inl (fun _ => 0))) (N' := 33) hx hb (hts _ kt_1007) rfl hK hP hD hS hA (fun _ => rfl) (by decide) (by decide) (by show _ * 4 ≤ _; omega) (by show _ + 1 ≤ 254; omega) (by show _ + 33 ≤ 82375; omega) dX15_init_263 (fun q_213 cA H hKn hPa hDa hS => ?_)
  obtain rfl := cid_int hK hKn
  obtain ⟨L, ty, F_214, hN9, hold, holdF, hL_q_213, hT_q_213, hF_q_213⟩ := grow1m (e := (16, ρ + 90, [33])) hPa hDa hO hW (shm.ints rtf_self ⟨_, rfl⟩) (wtam_ints rtf_self ⟨by omega, by omega⟩)
  obtain ⟨hP, hD, hO, hW⟩ := hN9
  replace hT_h0 := (hold _ hL_h0).2.trans hT_h0
  have hF_h0 := (holdF _ hL_h0).1.trans hF_209
  replace hL_h0 := (hold _ hL_h0).1
  replace hT_q_21 := (hold _ hL_q_21).2.trans hT_q_21
  have hF_q_21 := (holdF _ hL_q_21).1.trans hF_210
  replace hL_q_21 := (hold _ hL_q_21).1
  replace hT_q_27 := (hold _ hL_q_27).2.trans hT_q_27
  have hF_q_27 := (holdF _ hL_q_27).1.trans hF_211
  replace hL_q_27 := (hold _ hL_q_27).1
  replace hT_q_50 := (hold _ hL_q_50).2.trans hT_q_50
  have hF_q_50 := (holdF _ hL_q_50).1.trans hF_212
  replace hL_q_50 := (hold _ hL_q_50).1
  replace hfs := gr_cons hold hfs hL_q_213 hT_q_213
  refine pg_putF (ci := 15) (v := .ref q_213) (ty := .array .int) (C := RX15) (T := TX15) (N := 59) hx hb hts it_15 tyX15 tyX15_ok nmX15 hown hK hP hD hS hL_h0 hF_h0 rfl 43 (by decide) (hts _ kt_922) (fun _ h9 => h9) rfl hin rfl (by decide +kernel) (rfl) (rfl) (Nat.le_of_ble_eq_true rfl) dX15_init_265 (fun H locs hP hD hS => ?_)
  obtain ⟨F_215, he_216, hP, hD, hO⟩ : ∃ G, G = va_up F_214 h0 (.inr (15, (.ref q_1) :: (.int 0) :: (.int 0) :: (.int 0) :: (.ref q_6) :: (.ref q_11) :: (.ref q_16) :: (.ref q_21) :: (.ref q_27) :: (.ref q_34) :: (.ref q_42) :: (.int 0) :: (.int 0) :: (.ref q_50) :: (.int 0) :: (.int 0) :: (.ref q_58) :: (.int 0) :: (.int 0) :: (.int 0) :: (.int 0) :: (.int 0) :: (.int 0) :: (.ref q_67) :: (.ref q_75) :: (.ref q_83) :: (.ref q_91) :: (.ref q_99) :: (.ref q_107) :: (.ref q_115) :: (.int 0) :: (.int 0) :: (.int 0) :: (.int 0) :: (.ref q_123) :: (.ref q_132) :: (.ref q_144) :: (.ref q_156) :: (.ref q_168) :: (.ref q_181) :: (.ref q_189) :: (.ref q_197) :: (.ref q_205) :: (.ref q_213) :: (.null) :: (.null) :: (.null) :: (.null) :: (.null) :: (.null) :: (.null) :: (.null) :: (.int 0) :: (.int 0) :: (.int 0) :: (.null) :: (.null) :: (.null) :: (.null) :: [])) ∧ va_P (dC, dI) vwCl (va_pl L G) H ∧ va_D A (va_pl L G) ∧ OKm cs ty gm L G := ⟨_, rfl, hP, hD, hO.up (shm.raw hT_h0)⟩
  have hF_217 : F_215 h0 = .inr (15, (.ref q_1) :: (.int 0) :: (.int 0) :: (.int 0) :: (.ref q_6) :: (.ref q_11) :: (.ref q_16) :: (.ref q_21) :: (.ref q_27) :: (.ref q_34) :: (.ref q_42) :: (.int 0) :: (.int 0) :: (.ref q_50) :: (.int 0) :: (.int 0) :: (.ref q_58) :: (.int 0) :: (.int 0) :: (.int 0) :: (.int 0) :: (.int 0) :: (.int 0) :: (.ref q_67) :: (.ref q_75) :: (.ref q_83) :: (.ref q_91) :: (.ref q_99) :: (.ref q_107) :: (.ref q_115) :: (.int 0) :: (.int 0) :: (.int 0) :: (.int 0) :: (.ref q_123) :: (.ref q_132) :: (.ref q_144) :: (.ref q_156) :: (.ref q_168) :: (.ref q_181) :: (.ref q_189) :: (.ref q_197) :: (.ref q_205) :: (.ref q_213) :: (.null) :: (.null) :: (.null) :: (.null) :: (.null) :: (.null) :: (.null) :: (.null) :: (.int 0) :: (.int 0) :: (.int 0) :: (.null) :: (.null) :: (.null) :: (.null) :: []) := by rw [he_216]; exact up_self
  have hF_218 : F_215 q_21 = .inl (cs 23, 40, .inr (.inr (.inr (.inr (fun _ => none))))) := by rw [he_216, up_ne hne_h0_q_21.symm]; exact hF_q_21
  have hF_219 : F_215 q_27 = .inl (cs 23, 40, .inr (.inr (.inr (.inr (fun _ => none))))) := by rw [he_216, up_ne hne_h0_q_27.symm]; exact hF_q_27
  have hF_220 : F_215 q_50 = .inl (cs 23, 13, .inr (.inr (.inr (.inr (fun _ => none))))) := by rw [he_216, up_ne hne_h0_q_50.symm]; exact hF_q_50
  refine lv_aload_n hx hb dX15_init_268 rfl (lv_at hl 0 rfl) ?_
  refine lv_bipush (v := 32) hx hb dX15_init_269 (by decide) ?_
  refine va_newa (atype := .byte) (ty := .byte) (a0 := (32, .inl (fun _ => 0))) (N' := 32) hx hb (hts _ kt_1032) rfl hK hP hD hS hA (fun _ => rfl) (by decide) (by decide) (by show _ * 1 ≤ _; omega) (by show _ + 1 ≤ 254; omega) (by show _ + 32 ≤ 82375; omega) dX15_init_271 (fun q_221 cA H hKn hPa hDa hS => ?_)
  obtain rfl := cid_byte hK hKn
  obtain ⟨L, ty, F_222, hN9, hold, holdF, hL_q_221, hT_q_221, hF_q_221⟩ := grow1m (e := (17, ρ + 19, [32])) hPa hDa hO hW (shm.octs rtf_self ⟨_, rfl, fun _ => rfl⟩) (wtam_octs rtf_self ⟨by omega, by omega⟩)
  obtain ⟨hP, hD, hO, hW⟩ := hN9
  replace hT_h0 := (hold _ hL_h0).2.trans hT_h0
  have hF_h0 := (holdF _ hL_h0).1.trans hF_217
  replace hL_h0 := (hold _ hL_h0).1
  replace hT_q_21 := (hold _ hL_q_21).2.trans hT_q_21
  have hF_q_21 := (holdF _ hL_q_21).1.trans hF_218
  replace hL_q_21 := (hold _ hL_q_21).1
  replace hT_q_27 := (hold _ hL_q_27).2.trans hT_q_27
  have hF_q_27 := (holdF _ hL_q_27).1.trans hF_219
  replace hL_q_27 := (hold _ hL_q_27).1
  replace hT_q_50 := (hold _ hL_q_50).2.trans hT_q_50
  have hF_q_50 := (holdF _ hL_q_50).1.trans hF_220
  replace hL_q_50 := (hold _ hL_q_50).1
  replace hfs := gr_cons hold hfs hL_q_221 hT_q_221
  refine pg_putF (ci := 15) (v := .ref q_221) (ty := .array .byte) (C := RX15) (T := TX15) (N := 59) hx hb hts it_15 tyX15 tyX15_ok nmX15 hown hK hP hD hS hL_h0 hF_h0 rfl 44 (by decide) (hts _ kt_921) (fun _ h9 => h9) rfl hin rfl (by decide +kernel) (rfl) (rfl) (Nat.le_of_ble_eq_true rfl) dX15_init_273 (fun H locs hP hD hS => ?_)
  obtain ⟨F_223, he_224, hP, hD, hO⟩ : ∃ G, G = va_up F_222 h0 (.inr (15, (.ref q_1) :: (.int 0) :: (.int 0) :: (.int 0) :: (.ref q_6) :: (.ref q_11) :: (.ref q_16) :: (.ref q_21) :: (.ref q_27) :: (.ref q_34) :: (.ref q_42) :: (.int 0) :: (.int 0) :: (.ref q_50) :: (.int 0) :: (.int 0) :: (.ref q_58) :: (.int 0) :: (.int 0) :: (.int 0) :: (.int 0) :: (.int 0) :: (.int 0) :: (.ref q_67) :: (.ref q_75) :: (.ref q_83) :: (.ref q_91) :: (.ref q_99) :: (.ref q_107) :: (.ref q_115) :: (.int 0) :: (.int 0) :: (.int 0) :: (.int 0) :: (.ref q_123) :: (.ref q_132) :: (.ref q_144) :: (.ref q_156) :: (.ref q_168) :: (.ref q_181) :: (.ref q_189) :: (.ref q_197) :: (.ref q_205) :: (.ref q_213) :: (.ref q_221) :: (.null) :: (.null) :: (.null) :: (.null) :: (.null) :: (.null) :: (.null) :: (.int 0) :: (.int 0) :: (.int 0) :: (.null) :: (.null) :: (.null) :: (.null) :: [])) ∧ va_P (dC, dI) vwCl (va_pl L G) H ∧ va_D A (va_pl L G) ∧ OKm cs ty gm L G := ⟨_, rfl, hP, hD, hO.up (shm.raw hT_h0)⟩
  have hF_225 : F_223 h0 = .inr (15, (.ref q_1) :: (.int 0) :: (.int 0) :: (.int 0) :: (.ref q_6) :: (.ref q_11) :: (.ref q_16) :: (.ref q_21) :: (.ref q_27) :: (.ref q_34) :: (.ref q_42) :: (.int 0) :: (.int 0) :: (.ref q_50) :: (.int 0) :: (.int 0) :: (.ref q_58) :: (.int 0) :: (.int 0) :: (.int 0) :: (.int 0) :: (.int 0) :: (.int 0) :: (.ref q_67) :: (.ref q_75) :: (.ref q_83) :: (.ref q_91) :: (.ref q_99) :: (.ref q_107) :: (.ref q_115) :: (.int 0) :: (.int 0) :: (.int 0) :: (.int 0) :: (.ref q_123) :: (.ref q_132) :: (.ref q_144) :: (.ref q_156) :: (.ref q_168) :: (.ref q_181) :: (.ref q_189) :: (.ref q_197) :: (.ref q_205) :: (.ref q_213) :: (.ref q_221) :: (.null) :: (.null) :: (.null) :: (.null) :: (.null) :: (.null) :: (.null) :: (.int 0) :: (.int 0) :: (.int 0) :: (.null) :: (.null) :: (.null) :: (.null) :: []) := by rw [he_224]; exact up_self
  have hF_226 : F_223 q_21 = .inl (cs 23, 40, .inr (.inr (.inr (.inr (fun _ => none))))) := by rw [he_224, up_ne hne_h0_q_21.symm]; exact hF_q_21
  have hF_227 : F_223 q_27 = .inl (cs 23, 40, .inr (.inr (.inr (.inr (fun _ => none))))) := by rw [he_224, up_ne hne_h0_q_27.symm]; exact hF_q_27
  have hF_228 : F_223 q_50 = .inl (cs 23, 13, .inr (.inr (.inr (.inr (fun _ => none))))) := by rw [he_224, up_ne hne_h0_q_50.symm]; exact hF_q_50
  refine lv_aload_n hx hb dX15_init_276 rfl (lv_at hl 0 rfl) ?_
  refine lv_bipush (v := 32) hx hb dX15_init_277 (by decide) ?_
  refine va_newa (atype := .byte) (ty := .byte) (a0 := (32, .inl (fun _ => 0))) (N' := 32) hx hb (hts _ kt_1032) rfl hK hP hD hS hA (fun _ => rfl) (by decide) (by decide) (by show _ * 1 ≤ _; omega) (by show _ + 1 ≤ 254; omega) (by show _ + 32 ≤ 82375; omega) dX15_init_279 (fun q_229 cA H hKn hPa hDa hS => ?_)
  obtain rfl := cid_byte hK hKn
  obtain ⟨L, ty, F_230, hN9, hold, holdF, hL_q_229, hT_q_229, hF_q_229⟩ := grow1m (e := (17, ρ + 20, [32])) hPa hDa hO hW (shm.octs rtf_self ⟨_, rfl, fun _ => rfl⟩) (wtam_octs rtf_self ⟨by omega, by omega⟩)
  obtain ⟨hP, hD, hO, hW⟩ := hN9
  replace hT_h0 := (hold _ hL_h0).2.trans hT_h0
  have hF_h0 := (holdF _ hL_h0).1.trans hF_225
  replace hL_h0 := (hold _ hL_h0).1
  replace hT_q_21 := (hold _ hL_q_21).2.trans hT_q_21
  have hF_q_21 := (holdF _ hL_q_21).1.trans hF_226
  replace hL_q_21 := (hold _ hL_q_21).1
  replace hT_q_27 := (hold _ hL_q_27).2.trans hT_q_27
  have hF_q_27 := (holdF _ hL_q_27).1.trans hF_227
  replace hL_q_27 := (hold _ hL_q_27).1
  replace hT_q_50 := (hold _ hL_q_50).2.trans hT_q_50
  have hF_q_50 := (holdF _ hL_q_50).1.trans hF_228
  replace hL_q_50 := (hold _ hL_q_50).1
  replace hfs := gr_cons hold hfs hL_q_229 hT_q_229
  refine pg_putF (ci := 15) (v := .ref q_229) (ty := .array .byte) (C := RX15) (T := TX15) (N := 59) hx hb hts it_15 tyX15 tyX15_ok nmX15 hown hK hP hD hS hL_h0 hF_h0 rfl 45 (by decide) (hts _ kt_871) (fun _ h9 => h9) rfl hin rfl (by decide +kernel) (rfl) (rfl) (Nat.le_of_ble_eq_true rfl) dX15_init_281 (fun H locs hP hD hS => ?_)
  obtain ⟨F_231, he_232, hP, hD, hO⟩ : ∃ G, G = va_up F_230 h0 (.inr (15, (.ref q_1) :: (.int 0) :: (.int 0) :: (.int 0) :: (.ref q_6) :: (.ref q_11) :: (.ref q_16) :: (.ref q_21) :: (.ref q_27) :: (.ref q_34) :: (.ref q_42) :: (.int 0) :: (.int 0) :: (.ref q_50) :: (.int 0) :: (.int 0) :: (.ref q_58) :: (.int 0) :: (.int 0) :: (.int 0) :: (.int 0) :: (.int 0) :: (.int 0) :: (.ref q_67) :: (.ref q_75) :: (.ref q_83) :: (.ref q_91) :: (.ref q_99) :: (.ref q_107) :: (.ref q_115) :: (.int 0) :: (.int 0) :: (.int 0) :: (.int 0) :: (.ref q_123) :: (.ref q_132) :: (.ref q_144) :: (.ref q_156) :: (.ref q_168) :: (.ref q_181) :: (.ref q_189) :: (.ref q_197) :: (.ref q_205) :: (.ref q_213) :: (.ref q_221) :: (.ref q_229) :: (.null) :: (.null) :: (.null) :: (.null) :: (.null) :: (.null) :: (.int 0) :: (.int 0) :: (.int 0) :: (.null) :: (.null) :: (.null) :: (.null) :: [])) ∧ va_P (dC, dI) vwCl (va_pl L G) H ∧ va_D A (va_pl L G) ∧ OKm cs ty gm L G := ⟨_, rfl, hP, hD, hO.up (shm.raw hT_h0)⟩
  have hF_233 : F_231 h0 = .inr (15, (.ref q_1) :: (.int 0) :: (.int 0) :: (.int 0) :: (.ref q_6) :: (.ref q_11) :: (.ref q_16) :: (.ref q_21) :: (.ref q_27) :: (.ref q_34) :: (.ref q_42) :: (.int 0) :: (.int 0) :: (.ref q_50) :: (.int 0) :: (.int 0) :: (.ref q_58) :: (.int 0) :: (.int 0) :: (.int 0) :: (.int 0) :: (.int 0) :: (.int 0) :: (.ref q_67) :: (.ref q_75) :: (.ref q_83) :: (.ref q_91) :: (.ref q_99) :: (.ref q_107) :: (.ref q_115) :: (.int 0) :: (.int 0) :: (.int 0) :: (.int 0) :: (.ref q_123) :: (.ref q_132) :: (.ref q_144) :: (.ref q_156) :: (.ref q_168) :: (.ref q_181) :: (.ref q_189) :: (.ref q_197) :: (.ref q_205) :: (.ref q_213) :: (.ref q_221) :: (.ref q_229) :: (.null) :: (.null) :: (.null) :: (.null) :: (.null) :: (.null) :: (.int 0) :: (.int 0) :: (.int 0) :: (.null) :: (.null) :: (.null) :: (.null) :: []) := by rw [he_232]; exact up_self
  have hF_234 : F_231 q_21 = .inl (cs 23, 40, .inr (.inr (.inr (.inr (fun _ => none))))) := by rw [he_232, up_ne hne_h0_q_21.symm]; exact hF_q_21
  have hF_235 : F_231 q_27 = .inl (cs 23, 40, .inr (.inr (.inr (.inr (fun _ => none))))) := by rw [he_232, up_ne hne_h0_q_27.symm]; exact hF_q_27
  have hF_236 : F_231 q_50 = .inl (cs 23, 13, .inr (.inr (.inr (.inr (fun _ => none))))) := by rw [he_232, up_ne hne_h0_q_50.symm]; exact hF_q_50
  refine lv_aload_n hx hb dX15_init_284 rfl (lv_at hl 0 rfl) ?_
  refine lv_bipush (v := 64) hx hb dX15_init_285 (by decide) ?_
  refine va_newa (atype := .byte) (ty := .byte) (a0 := (64, .inl (fun _ => 0))) (N' := 64) hx hb (hts _ kt_1032) rfl hK hP hD hS hA (fun _ => rfl) (by decide) (by decide) (by show _ * 1 ≤ _; omega) (by show _ + 1 ≤ 254; omega) (by show _ + 64 ≤ 82375; omega) dX15_init_287 (fun q_237 cA H hKn hPa hDa hS => ?_)
  obtain rfl := cid_byte hK hKn
  obtain ⟨L, ty, F_238, hN9, hold, holdF, hL_q_237, hT_q_237, hF_q_237⟩ := grow1m (e := (17, ρ + 21, [64])) hPa hDa hO hW (shm.octs rtf_self ⟨_, rfl, fun _ => rfl⟩) (wtam_octs rtf_self ⟨by omega, by omega⟩)
  obtain ⟨hP, hD, hO, hW⟩ := hN9
  replace hT_h0 := (hold _ hL_h0).2.trans hT_h0
  have hF_h0 := (holdF _ hL_h0).1.trans hF_233
  replace hL_h0 := (hold _ hL_h0).1
  replace hT_q_21 := (hold _ hL_q_21).2.trans hT_q_21
  have hF_q_21 := (holdF _ hL_q_21).1.trans hF_234
  replace hL_q_21 := (hold _ hL_q_21).1
  replace hT_q_27 := (hold _ hL_q_27).2.trans hT_q_27
  have hF_q_27 := (holdF _ hL_q_27).1.trans hF_235
  replace hL_q_27 := (hold _ hL_q_27).1
  replace hT_q_50 := (hold _ hL_q_50).2.trans hT_q_50
  have hF_q_50 := (holdF _ hL_q_50).1.trans hF_236
  replace hL_q_50 := (hold _ hL_q_50).1
  replace hfs := gr_cons hold hfs hL_q_237 hT_q_237
  refine pg_putF (ci := 15) (v := .ref q_237) (ty := .array .byte) (C := RX15) (T := TX15) (N := 59) hx hb hts it_15 tyX15 tyX15_ok nmX15 hown hK hP hD hS hL_h0 hF_h0 rfl 46 (by decide) (hts _ kt_875) (fun _ h9 => h9) rfl hin rfl (by decide +kernel) (rfl) (rfl) (Nat.le_of_ble_eq_true rfl) dX15_init_289 (fun H locs hP hD hS => ?_)
  obtain ⟨F_239, he_240, hP, hD, hO⟩ : ∃ G, G = va_up F_238 h0 (.inr (15, (.ref q_1) :: (.int 0) :: (.int 0) :: (.int 0) :: (.ref q_6) :: (.ref q_11) :: (.ref q_16) :: (.ref q_21) :: (.ref q_27) :: (.ref q_34) :: (.ref q_42) :: (.int 0) :: (.int 0) :: (.ref q_50) :: (.int 0) :: (.int 0) :: (.ref q_58) :: (.int 0) :: (.int 0) :: (.int 0) :: (.int 0) :: (.int 0) :: (.int 0) :: (.ref q_67) :: (.ref q_75) :: (.ref q_83) :: (.ref q_91) :: (.ref q_99) :: (.ref q_107) :: (.ref q_115) :: (.int 0) :: (.int 0) :: (.int 0) :: (.int 0) :: (.ref q_123) :: (.ref q_132) :: (.ref q_144) :: (.ref q_156) :: (.ref q_168) :: (.ref q_181) :: (.ref q_189) :: (.ref q_197) :: (.ref q_205) :: (.ref q_213) :: (.ref q_221) :: (.ref q_229) :: (.ref q_237) :: (.null) :: (.null) :: (.null) :: (.null) :: (.null) :: (.int 0) :: (.int 0) :: (.int 0) :: (.null) :: (.null) :: (.null) :: (.null) :: [])) ∧ va_P (dC, dI) vwCl (va_pl L G) H ∧ va_D A (va_pl L G) ∧ OKm cs ty gm L G := ⟨_, rfl, hP, hD, hO.up (shm.raw hT_h0)⟩
  have hF_241 : F_239 h0 = .inr (15, (.ref q_1) :: (.int 0) :: (.int 0) :: (.int 0) :: (.ref q_6) :: (.ref q_11) :: (.ref q_16) :: (.ref q_21) :: (.ref q_27) :: (.ref q_34) :: (.ref q_42) :: (.int 0) :: (.int 0) :: (.ref q_50) :: (.int 0) :: (.int 0) :: (.ref q_58) :: (.int 0) :: (.int 0) :: (.int 0) :: (.int 0) :: (.int 0) :: (.int 0) :: (.ref q_67) :: (.ref q_75) :: (.ref q_83) :: (.ref q_91) :: (.ref q_99) :: (.ref q_107) :: (.ref q_115) :: (.int 0) :: (.int 0) :: (.int 0) :: (.int 0) :: (.ref q_123) :: (.ref q_132) :: (.ref q_144) :: (.ref q_156) :: (.ref q_168) :: (.ref q_181) :: (.ref q_189) :: (.ref q_197) :: (.ref q_205) :: (.ref q_213) :: (.ref q_221) :: (.ref q_229) :: (.ref q_237) :: (.null) :: (.null) :: (.null) :: (.null) :: (.null) :: (.int 0) :: (.int 0) :: (.int 0) :: (.null) :: (.null) :: (.null) :: (.null) :: []) := by rw [he_240]; exact up_self
  have hF_242 : F_239 q_21 = .inl (cs 23, 40, .inr (.inr (.inr (.inr (fun _ => none))))) := by rw [he_240, up_ne hne_h0_q_21.symm]; exact hF_q_21
  have hF_243 : F_239 q_27 = .inl (cs 23, 40, .inr (.inr (.inr (.inr (fun _ => none))))) := by rw [he_240, up_ne hne_h0_q_27.symm]; exact hF_q_27
  have hF_244 : F_239 q_50 = .inl (cs 23, 13, .inr (.inr (.inr (.inr (fun _ => none))))) := by rw [he_240, up_ne hne_h0_q_50.symm]; exact hF_q_50
  refine lv_aload_n hx hb dX15_init_292 rfl (lv_at hl 0 rfl) ?_
  refine lv_bipush (v := 64) hx hb dX15_init_293 (by decide) ?_
  refine va_newa (atype := .byte) (ty := .byte) (a0 := (64, .inl (fun _ => 0))) (N' := 64) hx hb (hts _ kt_1032) rfl hK hP hD hS hA (fun _ => rfl) (by decide) (by decide) (by show _ * 1 ≤ _; omega) (by show _ + 1 ≤ 254; omega) (by show _ + 64 ≤ 82375; omega) dX15_init_295 (fun q_245 cA H hKn hPa hDa hS => ?_)
  obtain rfl := cid_byte hK hKn
  obtain ⟨L, ty, F_246, hN9, hold, holdF, hL_q_245, hT_q_245, hF_q_245⟩ := grow1m (e := (17, ρ + 22, [64])) hPa hDa hO hW (shm.octs rtf_self ⟨_, rfl, fun _ => rfl⟩) (wtam_octs rtf_self ⟨by omega, by omega⟩)
  obtain ⟨hP, hD, hO, hW⟩ := hN9
  replace hT_h0 := (hold _ hL_h0).2.trans hT_h0
  have hF_h0 := (holdF _ hL_h0).1.trans hF_241
  replace hL_h0 := (hold _ hL_h0).1
  replace hT_q_21 := (hold _ hL_q_21).2.trans hT_q_21
  have hF_q_21 := (holdF _ hL_q_21).1.trans hF_242
  replace hL_q_21 := (hold _ hL_q_21).1
  replace hT_q_27 := (hold _ hL_q_27).2.trans hT_q_27
  have hF_q_27 := (holdF _ hL_q_27).1.trans hF_243
  replace hL_q_27 := (hold _ hL_q_27).1
  replace hT_q_50 := (hold _ hL_q_50).2.trans hT_q_50
  have hF_q_50 := (holdF _ hL_q_50).1.trans hF_244
  replace hL_q_50 := (hold _ hL_q_50).1
  replace hfs := gr_cons hold hfs hL_q_245 hT_q_245
  refine pg_putF (ci := 15) (v := .ref q_245) (ty := .array .byte) (C := RX15) (T := TX15) (N := 59) hx hb hts it_15 tyX15 tyX15_ok nmX15 hown hK hP hD hS hL_h0 hF_h0 rfl 47 (by decide) (hts _ kt_907) (fun _ h9 => h9) rfl hin rfl (by decide +kernel) (rfl) (rfl) (Nat.le_of_ble_eq_true rfl) dX15_init_297 (fun H locs hP hD hS => ?_)
  obtain ⟨F_247, he_248, hP, hD, hO⟩ : ∃ G, G = va_up F_246 h0 (.inr (15, (.ref q_1) :: (.int 0) :: (.int 0) :: (.int 0) :: (.ref q_6) :: (.ref q_11) :: (.ref q_16) :: (.ref q_21) :: (.ref q_27) :: (.ref q_34) :: (.ref q_42) :: (.int 0) :: (.int 0) :: (.ref q_50) :: (.int 0) :: (.int 0) :: (.ref q_58) :: (.int 0) :: (.int 0) :: (.int 0) :: (.int 0) :: (.int 0) :: (.int 0) :: (.ref q_67) :: (.ref q_75) :: (.ref q_83) :: (.ref q_91) :: (.ref q_99) :: (.ref q_107) :: (.ref q_115) :: (.int 0) :: (.int 0) :: (.int 0) :: (.int 0) :: (.ref q_123) :: (.ref q_132) :: (.ref q_144) :: (.ref q_156) :: (.ref q_168) :: (.ref q_181) :: (.ref q_189) :: (.ref q_197) :: (.ref q_205) :: (.ref q_213) :: (.ref q_221) :: (.ref q_229) :: (.ref q_237) :: (.ref q_245) :: (.null) :: (.null) :: (.null) :: (.null) :: (.int 0) :: (.int 0) :: (.int 0) :: (.null) :: (.null) :: (.null) :: (.null) :: [])) ∧ va_P (dC, dI) vwCl (va_pl L G) H ∧ va_D A (va_pl L G) ∧ OKm cs ty gm L G := ⟨_, rfl, hP, hD, hO.up (shm.raw hT_h0)⟩
  have hF_249 : F_247 h0 = .inr (15, (.ref q_1) :: (.int 0) :: (.int 0) :: (.int 0) :: (.ref q_6) :: (.ref q_11) :: (.ref q_16) :: (.ref q_21) :: (.ref q_27) :: (.ref q_34) :: (.ref q_42) :: (.int 0) :: (.int 0) :: (.ref q_50) :: (.int 0) :: (.int 0) :: (.ref q_58) :: (.int 0) :: (.int 0) :: (.int 0) :: (.int 0) :: (.int 0) :: (.int 0) :: (.ref q_67) :: (.ref q_75) :: (.ref q_83) :: (.ref q_91) :: (.ref q_99) :: (.ref q_107) :: (.ref q_115) :: (.int 0) :: (.int 0) :: (.int 0) :: (.int 0) :: (.ref q_123) :: (.ref q_132) :: (.ref q_144) :: (.ref q_156) :: (.ref q_168) :: (.ref q_181) :: (.ref q_189) :: (.ref q_197) :: (.ref q_205) :: (.ref q_213) :: (.ref q_221) :: (.ref q_229) :: (.ref q_237) :: (.ref q_245) :: (.null) :: (.null) :: (.null) :: (.null) :: (.int 0) :: (.int 0) :: (.int 0) :: (.null) :: (.null) :: (.null) :: (.null) :: []) := by rw [he_248]; exact up_self
  have hF_250 : F_247 q_21 = .inl (cs 23, 40, .inr (.inr (.inr (.inr (fun _ => none))))) := by rw [he_248, up_ne hne_h0_q_21.symm]; exact hF_q_21
  have hF_251 : F_247 q_27 = .inl (cs 23, 40, .inr (.inr (.inr (.inr (fun _ => none))))) := by rw [he_248, up_ne hne_h0_q_27.symm]; exact hF_q_27
  have hF_252 : F_247 q_50 = .inl (cs 23, 13, .inr (.inr (.inr (.inr (fun _ => none))))) := by rw [he_248, up_ne hne_h0_q_50.symm]; exact hF_q_50
  refine lv_aload_n hx hb dX15_init_300 rfl (lv_at hl 0 rfl) ?_
  refine lv_bipush (v := 64) hx hb dX15_init_301 (by decide) ?_
  refine va_newa (atype := .byte) (ty := .byte) (a0 := (64, .inl (fun _ => 0))) (N' := 64) hx hb (hts _ kt_1032) rfl hK hP hD hS hA (fun _ => rfl) (by decide) (by decide) (by show _ * 1 ≤ _; omega) (by show _ + 1 ≤ 254; omega) (by show _ + 64 ≤ 82375; omega) dX15_init_303 (fun q_253 cA H hKn hPa hDa hS => ?_)
  obtain rfl := cid_byte hK hKn
  obtain ⟨L, ty, F_254, hN9, hold, holdF, hL_q_253, hT_q_253, hF_q_253⟩ := grow1m (e := (17, ρ + 23, [64])) hPa hDa hO hW (shm.octs rtf_self ⟨_, rfl, fun _ => rfl⟩) (wtam_octs rtf_self ⟨by omega, by omega⟩)
  obtain ⟨hP, hD, hO, hW⟩ := hN9
  replace hT_h0 := (hold _ hL_h0).2.trans hT_h0
  have hF_h0 := (holdF _ hL_h0).1.trans hF_249
  replace hL_h0 := (hold _ hL_h0).1
  replace hT_q_21 := (hold _ hL_q_21).2.trans hT_q_21
  have hF_q_21 := (holdF _ hL_q_21).1.trans hF_250
  replace hL_q_21 := (hold _ hL_q_21).1
  replace hT_q_27 := (hold _ hL_q_27).2.trans hT_q_27
  have hF_q_27 := (holdF _ hL_q_27).1.trans hF_251
  replace hL_q_27 := (hold _ hL_q_27).1
  replace hT_q_50 := (hold _ hL_q_50).2.trans hT_q_50
  have hF_q_50 := (holdF _ hL_q_50).1.trans hF_252
  replace hL_q_50 := (hold _ hL_q_50).1
  replace hfs := gr_cons hold hfs hL_q_253 hT_q_253
  refine pg_putF (ci := 15) (v := .ref q_253) (ty := .array .byte) (C := RX15) (T := TX15) (N := 59) hx hb hts it_15 tyX15 tyX15_ok nmX15 hown hK hP hD hS hL_h0 hF_h0 rfl 48 (by decide) (hts _ kt_917) (fun _ h9 => h9) rfl hin rfl (by decide +kernel) (rfl) (rfl) (Nat.le_of_ble_eq_true rfl) dX15_init_305 (fun H locs hP hD hS => ?_)
  obtain ⟨F_255, he_256, hP, hD, hO⟩ : ∃ G, G = va_up F_254 h0 (.inr (15, (.ref q_1) :: (.int 0) :: (.int 0) :: (.int 0) :: (.ref q_6) :: (.ref q_11) :: (.ref q_16) :: (.ref q_21) :: (.ref q_27) :: (.ref q_34) :: (.ref q_42) :: (.int 0) :: (.int 0) :: (.ref q_50) :: (.int 0) :: (.int 0) :: (.ref q_58) :: (.int 0) :: (.int 0) :: (.int 0) :: (.int 0) :: (.int 0) :: (.int 0) :: (.ref q_67) :: (.ref q_75) :: (.ref q_83) :: (.ref q_91) :: (.ref q_99) :: (.ref q_107) :: (.ref q_115) :: (.int 0) :: (.int 0) :: (.int 0) :: (.int 0) :: (.ref q_123) :: (.ref q_132) :: (.ref q_144) :: (.ref q_156) :: (.ref q_168) :: (.ref q_181) :: (.ref q_189) :: (.ref q_197) :: (.ref q_205) :: (.ref q_213) :: (.ref q_221) :: (.ref q_229) :: (.ref q_237) :: (.ref q_245) :: (.ref q_253) :: (.null) :: (.null) :: (.null) :: (.int 0) :: (.int 0) :: (.int 0) :: (.null) :: (.null) :: (.null) :: (.null) :: [])) ∧ va_P (dC, dI) vwCl (va_pl L G) H ∧ va_D A (va_pl L G) ∧ OKm cs ty gm L G := ⟨_, rfl, hP, hD, hO.up (shm.raw hT_h0)⟩
  have hF_257 : F_255 h0 = .inr (15, (.ref q_1) :: (.int 0) :: (.int 0) :: (.int 0) :: (.ref q_6) :: (.ref q_11) :: (.ref q_16) :: (.ref q_21) :: (.ref q_27) :: (.ref q_34) :: (.ref q_42) :: (.int 0) :: (.int 0) :: (.ref q_50) :: (.int 0) :: (.int 0) :: (.ref q_58) :: (.int 0) :: (.int 0) :: (.int 0) :: (.int 0) :: (.int 0) :: (.int 0) :: (.ref q_67) :: (.ref q_75) :: (.ref q_83) :: (.ref q_91) :: (.ref q_99) :: (.ref q_107) :: (.ref q_115) :: (.int 0) :: (.int 0) :: (.int 0) :: (.int 0) :: (.ref q_123) :: (.ref q_132) :: (.ref q_144) :: (.ref q_156) :: (.ref q_168) :: (.ref q_181) :: (.ref q_189) :: (.ref q_197) :: (.ref q_205) :: (.ref q_213) :: (.ref q_221) :: (.ref q_229) :: (.ref q_237) :: (.ref q_245) :: (.ref q_253) :: (.null) :: (.null) :: (.null) :: (.int 0) :: (.int 0) :: (.int 0) :: (.null) :: (.null) :: (.null) :: (.null) :: []) := by rw [he_256]; exact up_self
  have hF_258 : F_255 q_21 = .inl (cs 23, 40, .inr (.inr (.inr (.inr (fun _ => none))))) := by rw [he_256, up_ne hne_h0_q_21.symm]; exact hF_q_21
  have hF_259 : F_255 q_27 = .inl (cs 23, 40, .inr (.inr (.inr (.inr (fun _ => none))))) := by rw [he_256, up_ne hne_h0_q_27.symm]; exact hF_q_27
  have hF_260 : F_255 q_50 = .inl (cs 23, 13, .inr (.inr (.inr (.inr (fun _ => none))))) := by rw [he_256, up_ne hne_h0_q_50.symm]; exact hF_q_50
  refine lv_aload_n hx hb dX15_init_308 rfl (lv_at hl 0 rfl) ?_
  refine va_new (ci := 14) (fs := [.null, .int 0]) (C := RX14) (T := TX14) (N := 2) hx hb hts it_14 tyX14 tyX14_ok hown (hts _ kt_1121) (hts _ kt_1035) (hts _ kt_676) hK hP hD hS hA rfl df_14 (by show _ + 1 ≤ 254; omega) (by show _ + 2 ≤ 82375; omega) dX15_init_309 (fun q_261 H hPa hDa hS => ?_)
  have hP := left1 hPa
  have hD := left2 hDa
  refine lv_dup hx hb dX15_init_312 rfl ?_
  refine lv_sipush (v := 6000) hx hb dX15_init_313 (by decide) ?_
  refine W.eq (g2 := F0 m 316 ls [.int (nI 6000), .ref q_261, .ref q_261, .ref h0]) rfl ?_
  have hFc := free1 hDa hS hA
  have hPq := right1 hPa
  refine va_callv (va_runI (As := [.int (nI 6000)]) (rest := [.ref q_261, .ref h0]) ⟨hx, hb, hml, hown, hts⟩ (k_X14_init l dC dI cs gm H.size q_261 6000 (ρ + 24) (by omega)) ⟨callB_of 1 hts (gi kt_1036) rfl rfl rfl (hts _ kt_676) (hts _ kt_1122) (by decide +kernel) ⟨Nat.le_of_ble_eq_true rfl, Nat.le_of_ble_eq_true rfl⟩, rfl, (hts _ kt_1038)⟩ ⟨fun a U g mk q => ⟨q.1, PTm.calling q.2⟩, fun U hU hWm => ⟨rfl, PTm.mk hU hWm hPq hK one1 hE (fun a _ => shm.raw rfl)⟩⟩ rfl rfl hl.1 rfl (lv_room (Nat.le_of_ble_eq_true rfl)) dX15_init_316 ⟨by show _ + 1 ≤ 254; omega, by show _ + 6000 ≤ 82375; omega⟩) hS (fun q _ h => hFc q h) hFc (fun u t H1 locs ht hvm hw hB hz1 hk1 hS => ?_)
  obtain ⟨L2, F2, ty2, r_262, hN2, hc1, hc2⟩ := hB
  rw [ht] at hN2
  obtain ⟨L, ty, F_263, hN9, hold, holdF, hnew, hnewF⟩ := join1m hPa hDa hO hW hk1 hFc hN2
  obtain ⟨hP, hD, hO, hW⟩ := hN9
  generalize H1 = H at hP hS ⊢
  have hL_q_261 := (hnew _ hc1).1
  have hT_q_261 := (hnew _ hc1).2.trans hc2
  replace hT_h0 := (hold _ hL_h0).2.trans hT_h0
  have hF_h0 := (holdF _ hL_h0).1.trans hF_257
  replace hL_h0 := (hold _ hL_h0).1
  replace hT_q_21 := (hold _ hL_q_21).2.trans hT_q_21
  have hF_q_21 := (holdF _ hL_q_21).1.trans hF_258
  replace hL_q_21 := (hold _ hL_q_21).1
  replace hT_q_27 := (hold _ hL_q_27).2.trans hT_q_27
  have hF_q_27 := (holdF _ hL_q_27).1.trans hF_259
  replace hL_q_27 := (hold _ hL_q_27).1
  replace hT_q_50 := (hold _ hL_q_50).2.trans hT_q_50
  have hF_q_50 := (holdF _ hL_q_50).1.trans hF_260
  replace hL_q_50 := (hold _ hL_q_50).1
  replace hfs := gr_cons hold hfs hL_q_261 hT_q_261
  refine pg_putF (ci := 15) (v := .ref q_261) (ty := .object "PostGateModel$Text") (C := RX15) (T := TX15) (N := 59) hx hb hts it_15 tyX15 tyX15_ok nmX15 hown hK hP hD hS hL_h0 hF_h0 rfl 49 (by decide) (hts _ kt_924) (fun _ h9 => h9) rfl hin rfl (by decide +kernel) (rfl) (rfl) (Nat.le_of_ble_eq_true rfl) dX15_init_319 (fun H locs hP hD hS => ?_)
  obtain ⟨F_264, he_265, hP, hD, hO⟩ : ∃ G, G = va_up F_263 h0 (.inr (15, (.ref q_1) :: (.int 0) :: (.int 0) :: (.int 0) :: (.ref q_6) :: (.ref q_11) :: (.ref q_16) :: (.ref q_21) :: (.ref q_27) :: (.ref q_34) :: (.ref q_42) :: (.int 0) :: (.int 0) :: (.ref q_50) :: (.int 0) :: (.int 0) :: (.ref q_58) :: (.int 0) :: (.int 0) :: (.int 0) :: (.int 0) :: (.int 0) :: (.int 0) :: (.ref q_67) :: (.ref q_75) :: (.ref q_83) :: (.ref q_91) :: (.ref q_99) :: (.ref q_107) :: (.ref q_115) :: (.int 0) :: (.int 0) :: (.int 0) :: (.int 0) :: (.ref q_123) :: (.ref q_132) :: (.ref q_144) :: (.ref q_156) :: (.ref q_168) :: (.ref q_181) :: (.ref q_189) :: (.ref q_197) :: (.ref q_205) :: (.ref q_213) :: (.ref q_221) :: (.ref q_229) :: (.ref q_237) :: (.ref q_245) :: (.ref q_253) :: (.ref q_261) :: (.null) :: (.null) :: (.int 0) :: (.int 0) :: (.int 0) :: (.null) :: (.null) :: (.null) :: (.null) :: [])) ∧ va_P (dC, dI) vwCl (va_pl L G) H ∧ va_D A (va_pl L G) ∧ OKm cs ty gm L G := ⟨_, rfl, hP, hD, hO.up (shm.raw hT_h0)⟩
  have hF_266 : F_264 h0 = .inr (15, (.ref q_1) :: (.int 0) :: (.int 0) :: (.int 0) :: (.ref q_6) :: (.ref q_11) :: (.ref q_16) :: (.ref q_21) :: (.ref q_27) :: (.ref q_34) :: (.ref q_42) :: (.int 0) :: (.int 0) :: (.ref q_50) :: (.int 0) :: (.int 0) :: (.ref q_58) :: (.int 0) :: (.int 0) :: (.int 0) :: (.int 0) :: (.int 0) :: (.int 0) :: (.ref q_67) :: (.ref q_75) :: (.ref q_83) :: (.ref q_91) :: (.ref q_99) :: (.ref q_107) :: (.ref q_115) :: (.int 0) :: (.int 0) :: (.int 0) :: (.int 0) :: (.ref q_123) :: (.ref q_132) :: (.ref q_144) :: (.ref q_156) :: (.ref q_168) :: (.ref q_181) :: (.ref q_189) :: (.ref q_197) :: (.ref q_205) :: (.ref q_213) :: (.ref q_221) :: (.ref q_229) :: (.ref q_237) :: (.ref q_245) :: (.ref q_253) :: (.ref q_261) :: (.null) :: (.null) :: (.int 0) :: (.int 0) :: (.int 0) :: (.null) :: (.null) :: (.null) :: (.null) :: []) := by rw [he_265]; exact up_self
  have hF_267 : F_264 q_21 = .inl (cs 23, 40, .inr (.inr (.inr (.inr (fun _ => none))))) := by rw [he_265, up_ne hne_h0_q_21.symm]; exact hF_q_21
  have hF_268 : F_264 q_27 = .inl (cs 23, 40, .inr (.inr (.inr (.inr (fun _ => none))))) := by rw [he_265, up_ne hne_h0_q_27.symm]; exact hF_q_27
  have hF_269 : F_264 q_50 = .inl (cs 23, 13, .inr (.inr (.inr (.inr (fun _ => none))))) := by rw [he_265, up_ne hne_h0_q_50.symm]; exact hF_q_50
  refine lv_aload_n hx hb dX15_init_322 rfl (lv_at hl 0 rfl) ?_
  refine va_new (ci := 14) (fs := [.null, .int 0]) (C := RX14) (T := TX14) (N := 2) hx hb hts it_14 tyX14 tyX14_ok hown (hts _ kt_1121) (hts _ kt_1035) (hts _ kt_676) hK hP hD hS hA rfl df_14 (by show _ + 1 ≤ 254; omega) (by show _ + 2 ≤ 82375; omega) dX15_init_323 (fun q_270 H hPa hDa hS => ?_)
  have hP := left1 hPa
  have hD := left2 hDa
  refine lv_dup hx hb dX15_init_326 rfl ?_
  refine lv_sipush (v := 3000) hx hb dX15_init_327 (by decide) ?_
  refine W.eq (g2 := F0 m 330 ls [.int (nI 3000), .ref q_270, .ref q_270, .ref h0]) rfl ?_
  have hFc := free1 hDa hS hA
  have hPq := right1 hPa
  refine va_callv (va_runI (As := [.int (nI 3000)]) (rest := [.ref q_270, .ref h0]) ⟨hx, hb, hml, hown, hts⟩ (k_X14_init l dC dI cs gm H.size q_270 3000 (ρ + 25) (by omega)) ⟨callB_of 1 hts (gi kt_1036) rfl rfl rfl (hts _ kt_676) (hts _ kt_1122) (by decide +kernel) ⟨Nat.le_of_ble_eq_true rfl, Nat.le_of_ble_eq_true rfl⟩, rfl, (hts _ kt_1038)⟩ ⟨fun a U g mk q => ⟨q.1, PTm.calling q.2⟩, fun U hU hWm => ⟨rfl, PTm.mk hU hWm hPq hK one1 hE (fun a _ => shm.raw rfl)⟩⟩ rfl rfl hl.1 rfl (lv_room (Nat.le_of_ble_eq_true rfl)) dX15_init_330 ⟨by show _ + 1 ≤ 254; omega, by show _ + 3000 ≤ 82375; omega⟩) hS (fun q _ h => hFc q h) hFc (fun u t H1 locs ht hvm hw hB hz1 hk1 hS => ?_)
  obtain ⟨L2, F2, ty2, r_271, hN2, hc1, hc2⟩ := hB
  rw [ht] at hN2
  obtain ⟨L, ty, F_272, hN9, hold, holdF, hnew, hnewF⟩ := join1m hPa hDa hO hW hk1 hFc hN2
  obtain ⟨hP, hD, hO, hW⟩ := hN9
  generalize H1 = H at hP hS ⊢
  have hL_q_270 := (hnew _ hc1).1
  have hT_q_270 := (hnew _ hc1).2.trans hc2
  replace hT_h0 := (hold _ hL_h0).2.trans hT_h0
  have hF_h0 := (holdF _ hL_h0).1.trans hF_266
  replace hL_h0 := (hold _ hL_h0).1
  replace hT_q_21 := (hold _ hL_q_21).2.trans hT_q_21
  have hF_q_21 := (holdF _ hL_q_21).1.trans hF_267
  replace hL_q_21 := (hold _ hL_q_21).1
  replace hT_q_27 := (hold _ hL_q_27).2.trans hT_q_27
  have hF_q_27 := (holdF _ hL_q_27).1.trans hF_268
  replace hL_q_27 := (hold _ hL_q_27).1
  replace hT_q_50 := (hold _ hL_q_50).2.trans hT_q_50
  have hF_q_50 := (holdF _ hL_q_50).1.trans hF_269
  replace hL_q_50 := (hold _ hL_q_50).1
  replace hfs := gr_cons hold hfs hL_q_270 hT_q_270
  refine pg_putF (ci := 15) (v := .ref q_270) (ty := .object "PostGateModel$Text") (C := RX15) (T := TX15) (N := 59) hx hb hts it_15 tyX15 tyX15_ok nmX15 hown hK hP hD hS hL_h0 hF_h0 rfl 50 (by decide) (hts _ kt_961) (fun _ h9 => h9) rfl hin rfl (by decide +kernel) (rfl) (rfl) (Nat.le_of_ble_eq_true rfl) dX15_init_333 (fun H locs hP hD hS => ?_)
  obtain ⟨F_273, he_274, hP, hD, hO⟩ : ∃ G, G = va_up F_272 h0 (.inr (15, (.ref q_1) :: (.int 0) :: (.int 0) :: (.int 0) :: (.ref q_6) :: (.ref q_11) :: (.ref q_16) :: (.ref q_21) :: (.ref q_27) :: (.ref q_34) :: (.ref q_42) :: (.int 0) :: (.int 0) :: (.ref q_50) :: (.int 0) :: (.int 0) :: (.ref q_58) :: (.int 0) :: (.int 0) :: (.int 0) :: (.int 0) :: (.int 0) :: (.int 0) :: (.ref q_67) :: (.ref q_75) :: (.ref q_83) :: (.ref q_91) :: (.ref q_99) :: (.ref q_107) :: (.ref q_115) :: (.int 0) :: (.int 0) :: (.int 0) :: (.int 0) :: (.ref q_123) :: (.ref q_132) :: (.ref q_144) :: (.ref q_156) :: (.ref q_168) :: (.ref q_181) :: (.ref q_189) :: (.ref q_197) :: (.ref q_205) :: (.ref q_213) :: (.ref q_221) :: (.ref q_229) :: (.ref q_237) :: (.ref q_245) :: (.ref q_253) :: (.ref q_261) :: (.ref q_270) :: (.null) :: (.int 0) :: (.int 0) :: (.int 0) :: (.null) :: (.null) :: (.null) :: (.null) :: [])) ∧ va_P (dC, dI) vwCl (va_pl L G) H ∧ va_D A (va_pl L G) ∧ OKm cs ty gm L G := ⟨_, rfl, hP, hD, hO.up (shm.raw hT_h0)⟩
  have hF_275 : F_273 h0 = .inr (15, (.ref q_1) :: (.int 0) :: (.int 0) :: (.int 0) :: (.ref q_6) :: (.ref q_11) :: (.ref q_16) :: (.ref q_21) :: (.ref q_27) :: (.ref q_34) :: (.ref q_42) :: (.int 0) :: (.int 0) :: (.ref q_50) :: (.int 0) :: (.int 0) :: (.ref q_58) :: (.int 0) :: (.int 0) :: (.int 0) :: (.int 0) :: (.int 0) :: (.int 0) :: (.ref q_67) :: (.ref q_75) :: (.ref q_83) :: (.ref q_91) :: (.ref q_99) :: (.ref q_107) :: (.ref q_115) :: (.int 0) :: (.int 0) :: (.int 0) :: (.int 0) :: (.ref q_123) :: (.ref q_132) :: (.ref q_144) :: (.ref q_156) :: (.ref q_168) :: (.ref q_181) :: (.ref q_189) :: (.ref q_197) :: (.ref q_205) :: (.ref q_213) :: (.ref q_221) :: (.ref q_229) :: (.ref q_237) :: (.ref q_245) :: (.ref q_253) :: (.ref q_261) :: (.ref q_270) :: (.null) :: (.int 0) :: (.int 0) :: (.int 0) :: (.null) :: (.null) :: (.null) :: (.null) :: []) := by rw [he_274]; exact up_self
  have hF_276 : F_273 q_21 = .inl (cs 23, 40, .inr (.inr (.inr (.inr (fun _ => none))))) := by rw [he_274, up_ne hne_h0_q_21.symm]; exact hF_q_21
  have hF_277 : F_273 q_27 = .inl (cs 23, 40, .inr (.inr (.inr (.inr (fun _ => none))))) := by rw [he_274, up_ne hne_h0_q_27.symm]; exact hF_q_27
  have hF_278 : F_273 q_50 = .inl (cs 23, 13, .inr (.inr (.inr (.inr (fun _ => none))))) := by rw [he_274, up_ne hne_h0_q_50.symm]; exact hF_q_50
  refine lv_aload_n hx hb dX15_init_336 rfl (lv_at hl 0 rfl) ?_
  refine lv_bipush (v := 20) hx hb dX15_init_337 (by decide) ?_
  refine va_newa (atype := .boolean) (ty := .boolean) (a0 := (20, .inl (fun _ => 0))) (N' := 20) hx hb (hts _ kt_1065) rfl hK hP hD hS hA (fun _ => rfl) (by decide) (by decide) (by show _ * 1 ≤ _; omega) (by show _ + 1 ≤ 254; omega) (by show _ + 20 ≤ 82375; omega) dX15_init_339 (fun q_279 cA H hKn hPa hDa hS => ?_)
  obtain rfl := cid_boolean hK hKn
  obtain ⟨L, ty, F_280, hN9, hold, holdF, hL_q_279, hT_q_279, hF_q_279⟩ := grow1m (e := (18, ρ + 26, [20])) hPa hDa hO hW (shm.bits rtf_self ⟨_, rfl⟩) (wtam_bits rtf_self trivial)
  obtain ⟨hP, hD, hO, hW⟩ := hN9
  replace hT_h0 := (hold _ hL_h0).2.trans hT_h0
  have hF_h0 := (holdF _ hL_h0).1.trans hF_275
  replace hL_h0 := (hold _ hL_h0).1
  replace hT_q_21 := (hold _ hL_q_21).2.trans hT_q_21
  have hF_q_21 := (holdF _ hL_q_21).1.trans hF_276
  replace hL_q_21 := (hold _ hL_q_21).1
  replace hT_q_27 := (hold _ hL_q_27).2.trans hT_q_27
  have hF_q_27 := (holdF _ hL_q_27).1.trans hF_277
  replace hL_q_27 := (hold _ hL_q_27).1
  replace hT_q_50 := (hold _ hL_q_50).2.trans hT_q_50
  have hF_q_50 := (holdF _ hL_q_50).1.trans hF_278
  replace hL_q_50 := (hold _ hL_q_50).1
  replace hfs := gr_cons hold hfs hL_q_279 hT_q_279
  refine pg_putF (ci := 15) (v := .ref q_279) (ty := .array .boolean) (C := RX15) (T := TX15) (N := 59) hx hb hts it_15 tyX15 tyX15_ok nmX15 hown hK hP hD hS hL_h0 hF_h0 rfl 51 (by decide) (hts _ kt_929) (fun _ h9 => h9) rfl hin rfl (by decide +kernel) (rfl) (rfl) (Nat.le_of_ble_eq_true rfl) dX15_init_341 (fun H locs hP hD hS => ?_)
  obtain ⟨F_281, he_282, hP, hD, hO⟩ : ∃ G, G = va_up F_280 h0 (.inr (15, (.ref q_1) :: (.int 0) :: (.int 0) :: (.int 0) :: (.ref q_6) :: (.ref q_11) :: (.ref q_16) :: (.ref q_21) :: (.ref q_27) :: (.ref q_34) :: (.ref q_42) :: (.int 0) :: (.int 0) :: (.ref q_50) :: (.int 0) :: (.int 0) :: (.ref q_58) :: (.int 0) :: (.int 0) :: (.int 0) :: (.int 0) :: (.int 0) :: (.int 0) :: (.ref q_67) :: (.ref q_75) :: (.ref q_83) :: (.ref q_91) :: (.ref q_99) :: (.ref q_107) :: (.ref q_115) :: (.int 0) :: (.int 0) :: (.int 0) :: (.int 0) :: (.ref q_123) :: (.ref q_132) :: (.ref q_144) :: (.ref q_156) :: (.ref q_168) :: (.ref q_181) :: (.ref q_189) :: (.ref q_197) :: (.ref q_205) :: (.ref q_213) :: (.ref q_221) :: (.ref q_229) :: (.ref q_237) :: (.ref q_245) :: (.ref q_253) :: (.ref q_261) :: (.ref q_270) :: (.ref q_279) :: (.int 0) :: (.int 0) :: (.int 0) :: (.null) :: (.null) :: (.null) :: (.null) :: [])) ∧ va_P (dC, dI) vwCl (va_pl L G) H ∧ va_D A (va_pl L G) ∧ OKm cs ty gm L G := ⟨_, rfl, hP, hD, hO.up (shm.raw hT_h0)⟩
  have hF_283 : F_281 h0 = .inr (15, (.ref q_1) :: (.int 0) :: (.int 0) :: (.int 0) :: (.ref q_6) :: (.ref q_11) :: (.ref q_16) :: (.ref q_21) :: (.ref q_27) :: (.ref q_34) :: (.ref q_42) :: (.int 0) :: (.int 0) :: (.ref q_50) :: (.int 0) :: (.int 0) :: (.ref q_58) :: (.int 0) :: (.int 0) :: (.int 0) :: (.int 0) :: (.int 0) :: (.int 0) :: (.ref q_67) :: (.ref q_75) :: (.ref q_83) :: (.ref q_91) :: (.ref q_99) :: (.ref q_107) :: (.ref q_115) :: (.int 0) :: (.int 0) :: (.int 0) :: (.int 0) :: (.ref q_123) :: (.ref q_132) :: (.ref q_144) :: (.ref q_156) :: (.ref q_168) :: (.ref q_181) :: (.ref q_189) :: (.ref q_197) :: (.ref q_205) :: (.ref q_213) :: (.ref q_221) :: (.ref q_229) :: (.ref q_237) :: (.ref q_245) :: (.ref q_253) :: (.ref q_261) :: (.ref q_270) :: (.ref q_279) :: (.int 0) :: (.int 0) :: (.int 0) :: (.null) :: (.null) :: (.null) :: (.null) :: []) := by rw [he_282]; exact up_self
  have hF_284 : F_281 q_21 = .inl (cs 23, 40, .inr (.inr (.inr (.inr (fun _ => none))))) := by rw [he_282, up_ne hne_h0_q_21.symm]; exact hF_q_21
  have hF_285 : F_281 q_27 = .inl (cs 23, 40, .inr (.inr (.inr (.inr (fun _ => none))))) := by rw [he_282, up_ne hne_h0_q_27.symm]; exact hF_q_27
  have hF_286 : F_281 q_50 = .inl (cs 23, 13, .inr (.inr (.inr (.inr (fun _ => none))))) := by rw [he_282, up_ne hne_h0_q_50.symm]; exact hF_q_50
  refine lv_aload_n hx hb dX15_init_344 rfl (lv_at hl 0 rfl) ?_
  refine lv_bipush (v := 19) hx hb dX15_init_345 (by decide) ?_
  refine va_newa (atype := .int) (ty := .int) (a0 := (19, .inl (fun _ => 0))) (N' := 19) hx hb (hts _ kt_1007) rfl hK hP hD hS hA (fun _ => rfl) (by decide) (by decide) (by show _ * 4 ≤ _; omega) (by show _ + 1 ≤ 254; omega) (by show _ + 19 ≤ 82375; omega) dX15_init_347 (fun q_287 cA H hKn hPa hDa hS => ?_)
  obtain rfl := cid_int hK hKn
  obtain ⟨L, ty, F_288, hN9, hold, holdF, hL_q_287, hT_q_287, hF_q_287⟩ := grow1m (e := (99, 0, [])) hPa hDa hO hW (shm.raw rtf_self) (wtam_raw rtf_self)
  obtain ⟨hP, hD, hO, hW⟩ := hN9
  have hne_h0_q_287 := (holdF _ hL_h0).2
  replace hT_h0 := (hold _ hL_h0).2.trans hT_h0
  have hF_h0 := (holdF _ hL_h0).1.trans hF_283
  replace hL_h0 := (hold _ hL_h0).1
  have hne_q_21_q_287 := (holdF _ hL_q_21).2
  replace hT_q_21 := (hold _ hL_q_21).2.trans hT_q_21
  have hF_q_21 := (holdF _ hL_q_21).1.trans hF_284
  replace hL_q_21 := (hold _ hL_q_21).1
  have hne_q_27_q_287 := (holdF _ hL_q_27).2
  replace hT_q_27 := (hold _ hL_q_27).2.trans hT_q_27
  have hF_q_27 := (holdF _ hL_q_27).1.trans hF_285
  replace hL_q_27 := (hold _ hL_q_27).1
  have hne_q_50_q_287 := (holdF _ hL_q_50).2
  replace hT_q_50 := (hold _ hL_q_50).2.trans hT_q_50
  have hF_q_50 := (holdF _ hL_q_50).1.trans hF_286
  replace hL_q_50 := (hold _ hL_q_50).1
  replace hfs := gr_keep hold hfs
  refine lv_dup hx hb dX15_init_349 rfl ?_
  refine lv_iconst (v := 0) hx hb dX15_init_350 (by decide) ?_
  refine lv_bipush (v := 48) hx hb dX15_init_351 (by decide) ?_
  refine pg_iast hx hb hK hP hD hS hL_q_287 0 hF_q_287 rfl (show vp_in (0 : Int32) 19 from (show vp_in (nI 0) 19 from vp_in_nI (by omega) (by omega))) dX15_init_353 (fun H locs hP hD hS => ?_)
  obtain ⟨F_289, he_290, hP, hD, hO⟩ : ∃ G, G = va_up F_288 q_287 (.inl (cs 16, 19, .inl (upd (fun _ => 0) (0 : Int32).toNatClampNeg 48))) ∧ va_P (dC, dI) vwCl (va_pl L G) H ∧ va_D A (va_pl L G) ∧ OKm cs ty gm L G := ⟨_, rfl, hP, hD, hO.up (shm.raw hT_q_287)⟩
  have hF_291 : F_289 q_287 = .inl (cs 16, 19, .inl (upd (fun _ => 0) (0 : Int32).toNatClampNeg 48)) := by rw [he_290]; exact up_self
  have hF_292 : F_289 h0 = .inr (15, (.ref q_1) :: (.int 0) :: (.int 0) :: (.int 0) :: (.ref q_6) :: (.ref q_11) :: (.ref q_16) :: (.ref q_21) :: (.ref q_27) :: (.ref q_34) :: (.ref q_42) :: (.int 0) :: (.int 0) :: (.ref q_50) :: (.int 0) :: (.int 0) :: (.ref q_58) :: (.int 0) :: (.int 0) :: (.int 0) :: (.int 0) :: (.int 0) :: (.int 0) :: (.ref q_67) :: (.ref q_75) :: (.ref q_83) :: (.ref q_91) :: (.ref q_99) :: (.ref q_107) :: (.ref q_115) :: (.int 0) :: (.int 0) :: (.int 0) :: (.int 0) :: (.ref q_123) :: (.ref q_132) :: (.ref q_144) :: (.ref q_156) :: (.ref q_168) :: (.ref q_181) :: (.ref q_189) :: (.ref q_197) :: (.ref q_205) :: (.ref q_213) :: (.ref q_221) :: (.ref q_229) :: (.ref q_237) :: (.ref q_245) :: (.ref q_253) :: (.ref q_261) :: (.ref q_270) :: (.ref q_279) :: (.int 0) :: (.int 0) :: (.int 0) :: (.null) :: (.null) :: (.null) :: (.null) :: []) := by rw [he_290, up_ne hne_h0_q_287]; exact hF_h0
  have hF_293 : F_289 q_21 = .inl (cs 23, 40, .inr (.inr (.inr (.inr (fun _ => none))))) := by rw [he_290, up_ne hne_q_21_q_287]; exact hF_q_21
  have hF_294 : F_289 q_27 = .inl (cs 23, 40, .inr (.inr (.inr (.inr (fun _ => none))))) := by rw [he_290, up_ne hne_q_27_q_287]; exact hF_q_27
  have hF_295 : F_289 q_50 = .inl (cs 23, 13, .inr (.inr (.inr (.inr (fun _ => none))))) := by rw [he_290, up_ne hne_q_50_q_287]; exact hF_q_50
  refine lv_dup hx hb dX15_init_354 rfl ?_
  refine lv_iconst (v := 1) hx hb dX15_init_355 (by decide) ?_
  refine lv_bipush (v := 49) hx hb dX15_init_356 (by decide) ?_
  refine pg_iast hx hb hK hP hD hS hL_q_287 0 hF_291 rfl (show vp_in (1 : Int32) 19 from (show vp_in (nI 1) 19 from vp_in_nI (by omega) (by omega))) dX15_init_358 (fun H locs hP hD hS => ?_)
  obtain ⟨F_296, he_297, hP, hD, hO⟩ : ∃ G, G = va_up F_289 q_287 (.inl (cs 16, 19, .inl (upd (upd (fun _ => 0) (0 : Int32).toNatClampNeg 48) (1 : Int32).toNatClampNeg 49))) ∧ va_P (dC, dI) vwCl (va_pl L G) H ∧ va_D A (va_pl L G) ∧ OKm cs ty gm L G := ⟨_, rfl, hP, hD, hO.up (shm.raw hT_q_287)⟩
  have hF_298 : F_296 q_287 = .inl (cs 16, 19, .inl (upd (upd (fun _ => 0) (0 : Int32).toNatClampNeg 48) (1 : Int32).toNatClampNeg 49)) := by rw [he_297]; exact up_self
  have hF_299 : F_296 h0 = .inr (15, (.ref q_1) :: (.int 0) :: (.int 0) :: (.int 0) :: (.ref q_6) :: (.ref q_11) :: (.ref q_16) :: (.ref q_21) :: (.ref q_27) :: (.ref q_34) :: (.ref q_42) :: (.int 0) :: (.int 0) :: (.ref q_50) :: (.int 0) :: (.int 0) :: (.ref q_58) :: (.int 0) :: (.int 0) :: (.int 0) :: (.int 0) :: (.int 0) :: (.int 0) :: (.ref q_67) :: (.ref q_75) :: (.ref q_83) :: (.ref q_91) :: (.ref q_99) :: (.ref q_107) :: (.ref q_115) :: (.int 0) :: (.int 0) :: (.int 0) :: (.int 0) :: (.ref q_123) :: (.ref q_132) :: (.ref q_144) :: (.ref q_156) :: (.ref q_168) :: (.ref q_181) :: (.ref q_189) :: (.ref q_197) :: (.ref q_205) :: (.ref q_213) :: (.ref q_221) :: (.ref q_229) :: (.ref q_237) :: (.ref q_245) :: (.ref q_253) :: (.ref q_261) :: (.ref q_270) :: (.ref q_279) :: (.int 0) :: (.int 0) :: (.int 0) :: (.null) :: (.null) :: (.null) :: (.null) :: []) := by rw [he_297, up_ne hne_h0_q_287]; exact hF_292
  have hF_300 : F_296 q_21 = .inl (cs 23, 40, .inr (.inr (.inr (.inr (fun _ => none))))) := by rw [he_297, up_ne hne_q_21_q_287]; exact hF_293
  have hF_301 : F_296 q_27 = .inl (cs 23, 40, .inr (.inr (.inr (.inr (fun _ => none))))) := by rw [he_297, up_ne hne_q_27_q_287]; exact hF_294
  have hF_302 : F_296 q_50 = .inl (cs 23, 13, .inr (.inr (.inr (.inr (fun _ => none))))) := by rw [he_297, up_ne hne_q_50_q_287]; exact hF_295
  refine lv_dup hx hb dX15_init_359 rfl ?_
  refine lv_iconst (v := 2) hx hb dX15_init_360 (by decide) ?_
  refine lv_bipush (v := 48) hx hb dX15_init_361 (by decide) ?_
  refine pg_iast hx hb hK hP hD hS hL_q_287 0 hF_298 rfl (show vp_in (2 : Int32) 19 from (show vp_in (nI 2) 19 from vp_in_nI (by omega) (by omega))) dX15_init_363 (fun H locs hP hD hS => ?_)
  obtain ⟨F_303, he_304, hP, hD, hO⟩ : ∃ G, G = va_up F_296 q_287 (.inl (cs 16, 19, .inl (upd (upd (upd (fun _ => 0) (0 : Int32).toNatClampNeg 48) (1 : Int32).toNatClampNeg 49) (2 : Int32).toNatClampNeg 48))) ∧ va_P (dC, dI) vwCl (va_pl L G) H ∧ va_D A (va_pl L G) ∧ OKm cs ty gm L G := ⟨_, rfl, hP, hD, hO.up (shm.raw hT_q_287)⟩
  have hF_305 : F_303 q_287 = .inl (cs 16, 19, .inl (upd (upd (upd (fun _ => 0) (0 : Int32).toNatClampNeg 48) (1 : Int32).toNatClampNeg 49) (2 : Int32).toNatClampNeg 48)) := by rw [he_304]; exact up_self
  have hF_306 : F_303 h0 = .inr (15, (.ref q_1) :: (.int 0) :: (.int 0) :: (.int 0) :: (.ref q_6) :: (.ref q_11) :: (.ref q_16) :: (.ref q_21) :: (.ref q_27) :: (.ref q_34) :: (.ref q_42) :: (.int 0) :: (.int 0) :: (.ref q_50) :: (.int 0) :: (.int 0) :: (.ref q_58) :: (.int 0) :: (.int 0) :: (.int 0) :: (.int 0) :: (.int 0) :: (.int 0) :: (.ref q_67) :: (.ref q_75) :: (.ref q_83) :: (.ref q_91) :: (.ref q_99) :: (.ref q_107) :: (.ref q_115) :: (.int 0) :: (.int 0) :: (.int 0) :: (.int 0) :: (.ref q_123) :: (.ref q_132) :: (.ref q_144) :: (.ref q_156) :: (.ref q_168) :: (.ref q_181) :: (.ref q_189) :: (.ref q_197) :: (.ref q_205) :: (.ref q_213) :: (.ref q_221) :: (.ref q_229) :: (.ref q_237) :: (.ref q_245) :: (.ref q_253) :: (.ref q_261) :: (.ref q_270) :: (.ref q_279) :: (.int 0) :: (.int 0) :: (.int 0) :: (.null) :: (.null) :: (.null) :: (.null) :: []) := by rw [he_304, up_ne hne_h0_q_287]; exact hF_299
  have hF_307 : F_303 q_21 = .inl (cs 23, 40, .inr (.inr (.inr (.inr (fun _ => none))))) := by rw [he_304, up_ne hne_q_21_q_287]; exact hF_300
  have hF_308 : F_303 q_27 = .inl (cs 23, 40, .inr (.inr (.inr (.inr (fun _ => none))))) := by rw [he_304, up_ne hne_q_27_q_287]; exact hF_301
  have hF_309 : F_303 q_50 = .inl (cs 23, 13, .inr (.inr (.inr (.inr (fun _ => none))))) := by rw [he_304, up_ne hne_q_50_q_287]; exact hF_302
  refine lv_dup hx hb dX15_init_364 rfl ?_
  refine lv_iconst (v := 3) hx hb dX15_init_365 (by decide) ?_
  refine lv_bipush (v := 13) hx hb dX15_init_366 (by decide) ?_
  refine pg_iast hx hb hK hP hD hS hL_q_287 0 hF_305 rfl (show vp_in (3 : Int32) 19 from (show vp_in (nI 3) 19 from vp_in_nI (by omega) (by omega))) dX15_init_368 (fun H locs hP hD hS => ?_)
  obtain ⟨F_310, he_311, hP, hD, hO⟩ : ∃ G, G = va_up F_303 q_287 (.inl (cs 16, 19, .inl (upd (upd (upd (upd (fun _ => 0) (0 : Int32).toNatClampNeg 48) (1 : Int32).toNatClampNeg 49) (2 : Int32).toNatClampNeg 48) (3 : Int32).toNatClampNeg 13))) ∧ va_P (dC, dI) vwCl (va_pl L G) H ∧ va_D A (va_pl L G) ∧ OKm cs ty gm L G := ⟨_, rfl, hP, hD, hO.up (shm.raw hT_q_287)⟩
  have hF_312 : F_310 q_287 = .inl (cs 16, 19, .inl (upd (upd (upd (upd (fun _ => 0) (0 : Int32).toNatClampNeg 48) (1 : Int32).toNatClampNeg 49) (2 : Int32).toNatClampNeg 48) (3 : Int32).toNatClampNeg 13)) := by rw [he_311]; exact up_self
  have hF_313 : F_310 h0 = .inr (15, (.ref q_1) :: (.int 0) :: (.int 0) :: (.int 0) :: (.ref q_6) :: (.ref q_11) :: (.ref q_16) :: (.ref q_21) :: (.ref q_27) :: (.ref q_34) :: (.ref q_42) :: (.int 0) :: (.int 0) :: (.ref q_50) :: (.int 0) :: (.int 0) :: (.ref q_58) :: (.int 0) :: (.int 0) :: (.int 0) :: (.int 0) :: (.int 0) :: (.int 0) :: (.ref q_67) :: (.ref q_75) :: (.ref q_83) :: (.ref q_91) :: (.ref q_99) :: (.ref q_107) :: (.ref q_115) :: (.int 0) :: (.int 0) :: (.int 0) :: (.int 0) :: (.ref q_123) :: (.ref q_132) :: (.ref q_144) :: (.ref q_156) :: (.ref q_168) :: (.ref q_181) :: (.ref q_189) :: (.ref q_197) :: (.ref q_205) :: (.ref q_213) :: (.ref q_221) :: (.ref q_229) :: (.ref q_237) :: (.ref q_245) :: (.ref q_253) :: (.ref q_261) :: (.ref q_270) :: (.ref q_279) :: (.int 0) :: (.int 0) :: (.int 0) :: (.null) :: (.null) :: (.null) :: (.null) :: []) := by rw [he_311, up_ne hne_h0_q_287]; exact hF_306
  have hF_314 : F_310 q_21 = .inl (cs 23, 40, .inr (.inr (.inr (.inr (fun _ => none))))) := by rw [he_311, up_ne hne_q_21_q_287]; exact hF_307
  have hF_315 : F_310 q_27 = .inl (cs 23, 40, .inr (.inr (.inr (.inr (fun _ => none))))) := by rw [he_311, up_ne hne_q_27_q_287]; exact hF_308
  have hF_316 : F_310 q_50 = .inl (cs 23, 13, .inr (.inr (.inr (.inr (fun _ => none))))) := by rw [he_311, up_ne hne_q_50_q_287]; exact hF_309
  refine lv_dup hx hb dX15_init_369 rfl ?_
  refine lv_iconst (v := 4) hx hb dX15_init_370 (by decide) ?_
  refine lv_bipush (v := 6) hx hb dX15_init_371 (by decide) ?_
  refine pg_iast hx hb hK hP hD hS hL_q_287 0 hF_312 rfl (show vp_in (4 : Int32) 19 from (show vp_in (nI 4) 19 from vp_in_nI (by omega) (by omega))) dX15_init_373 (fun H locs hP hD hS => ?_)
  obtain ⟨F_317, he_318, hP, hD, hO⟩ : ∃ G, G = va_up F_310 q_287 (.inl (cs 16, 19, .inl (upd (upd (upd (upd (upd (fun _ => 0) (0 : Int32).toNatClampNeg 48) (1 : Int32).toNatClampNeg 49) (2 : Int32).toNatClampNeg 48) (3 : Int32).toNatClampNeg 13) (4 : Int32).toNatClampNeg 6))) ∧ va_P (dC, dI) vwCl (va_pl L G) H ∧ va_D A (va_pl L G) ∧ OKm cs ty gm L G := ⟨_, rfl, hP, hD, hO.up (shm.raw hT_q_287)⟩
  have hF_319 : F_317 q_287 = .inl (cs 16, 19, .inl (upd (upd (upd (upd (upd (fun _ => 0) (0 : Int32).toNatClampNeg 48) (1 : Int32).toNatClampNeg 49) (2 : Int32).toNatClampNeg 48) (3 : Int32).toNatClampNeg 13) (4 : Int32).toNatClampNeg 6)) := by rw [he_318]; exact up_self
  have hF_320 : F_317 h0 = .inr (15, (.ref q_1) :: (.int 0) :: (.int 0) :: (.int 0) :: (.ref q_6) :: (.ref q_11) :: (.ref q_16) :: (.ref q_21) :: (.ref q_27) :: (.ref q_34) :: (.ref q_42) :: (.int 0) :: (.int 0) :: (.ref q_50) :: (.int 0) :: (.int 0) :: (.ref q_58) :: (.int 0) :: (.int 0) :: (.int 0) :: (.int 0) :: (.int 0) :: (.int 0) :: (.ref q_67) :: (.ref q_75) :: (.ref q_83) :: (.ref q_91) :: (.ref q_99) :: (.ref q_107) :: (.ref q_115) :: (.int 0) :: (.int 0) :: (.int 0) :: (.int 0) :: (.ref q_123) :: (.ref q_132) :: (.ref q_144) :: (.ref q_156) :: (.ref q_168) :: (.ref q_181) :: (.ref q_189) :: (.ref q_197) :: (.ref q_205) :: (.ref q_213) :: (.ref q_221) :: (.ref q_229) :: (.ref q_237) :: (.ref q_245) :: (.ref q_253) :: (.ref q_261) :: (.ref q_270) :: (.ref q_279) :: (.int 0) :: (.int 0) :: (.int 0) :: (.null) :: (.null) :: (.null) :: (.null) :: []) := by rw [he_318, up_ne hne_h0_q_287]; exact hF_313
  have hF_321 : F_317 q_21 = .inl (cs 23, 40, .inr (.inr (.inr (.inr (fun _ => none))))) := by rw [he_318, up_ne hne_q_21_q_287]; exact hF_314
  have hF_322 : F_317 q_27 = .inl (cs 23, 40, .inr (.inr (.inr (.inr (fun _ => none))))) := by rw [he_318, up_ne hne_q_27_q_287]; exact hF_315
  have hF_323 : F_317 q_50 = .inl (cs 23, 13, .inr (.inr (.inr (.inr (fun _ => none))))) := by rw [he_318, up_ne hne_q_50_q_287]; exact hF_316
  refine lv_dup hx hb dX15_init_374 rfl ?_
  refine lv_iconst (v := 5) hx hb dX15_init_375 (by decide) ?_
  refine lv_bipush (v := 9) hx hb dX15_init_376 (by decide) ?_
  refine pg_iast hx hb hK hP hD hS hL_q_287 0 hF_319 rfl (show vp_in (5 : Int32) 19 from (show vp_in (nI 5) 19 from vp_in_nI (by omega) (by omega))) dX15_init_378 (fun H locs hP hD hS => ?_)
  obtain ⟨F_324, he_325, hP, hD, hO⟩ : ∃ G, G = va_up F_317 q_287 (.inl (cs 16, 19, .inl (upd (upd (upd (upd (upd (upd (fun _ => 0) (0 : Int32).toNatClampNeg 48) (1 : Int32).toNatClampNeg 49) (2 : Int32).toNatClampNeg 48) (3 : Int32).toNatClampNeg 13) (4 : Int32).toNatClampNeg 6) (5 : Int32).toNatClampNeg 9))) ∧ va_P (dC, dI) vwCl (va_pl L G) H ∧ va_D A (va_pl L G) ∧ OKm cs ty gm L G := ⟨_, rfl, hP, hD, hO.up (shm.raw hT_q_287)⟩
  have hF_326 : F_324 q_287 = .inl (cs 16, 19, .inl (upd (upd (upd (upd (upd (upd (fun _ => 0) (0 : Int32).toNatClampNeg 48) (1 : Int32).toNatClampNeg 49) (2 : Int32).toNatClampNeg 48) (3 : Int32).toNatClampNeg 13) (4 : Int32).toNatClampNeg 6) (5 : Int32).toNatClampNeg 9)) := by rw [he_325]; exact up_self
  have hF_327 : F_324 h0 = .inr (15, (.ref q_1) :: (.int 0) :: (.int 0) :: (.int 0) :: (.ref q_6) :: (.ref q_11) :: (.ref q_16) :: (.ref q_21) :: (.ref q_27) :: (.ref q_34) :: (.ref q_42) :: (.int 0) :: (.int 0) :: (.ref q_50) :: (.int 0) :: (.int 0) :: (.ref q_58) :: (.int 0) :: (.int 0) :: (.int 0) :: (.int 0) :: (.int 0) :: (.int 0) :: (.ref q_67) :: (.ref q_75) :: (.ref q_83) :: (.ref q_91) :: (.ref q_99) :: (.ref q_107) :: (.ref q_115) :: (.int 0) :: (.int 0) :: (.int 0) :: (.int 0) :: (.ref q_123) :: (.ref q_132) :: (.ref q_144) :: (.ref q_156) :: (.ref q_168) :: (.ref q_181) :: (.ref q_189) :: (.ref q_197) :: (.ref q_205) :: (.ref q_213) :: (.ref q_221) :: (.ref q_229) :: (.ref q_237) :: (.ref q_245) :: (.ref q_253) :: (.ref q_261) :: (.ref q_270) :: (.ref q_279) :: (.int 0) :: (.int 0) :: (.int 0) :: (.null) :: (.null) :: (.null) :: (.null) :: []) := by rw [he_325, up_ne hne_h0_q_287]; exact hF_320
  have hF_328 : F_324 q_21 = .inl (cs 23, 40, .inr (.inr (.inr (.inr (fun _ => none))))) := by rw [he_325, up_ne hne_q_21_q_287]; exact hF_321
  have hF_329 : F_324 q_27 = .inl (cs 23, 40, .inr (.inr (.inr (.inr (fun _ => none))))) := by rw [he_325, up_ne hne_q_27_q_287]; exact hF_322
  have hF_330 : F_324 q_50 = .inl (cs 23, 13, .inr (.inr (.inr (.inr (fun _ => none))))) := by rw [he_325, up_ne hne_q_50_q_287]; exact hF_323
  refine lv_dup hx hb dX15_init_379 rfl ?_
  refine lv_bipush (v := 6) hx hb dX15_init_380 (by decide) ?_
  refine lv_bipush (v := 96) hx hb dX15_init_382 (by decide) ?_
  refine pg_iast hx hb hK hP hD hS hL_q_287 0 hF_326 rfl (show vp_in (6 : Int32) 19 from (show vp_in (nI 6) 19 from vp_in_nI (by omega) (by omega))) dX15_init_384 (fun H locs hP hD hS => ?_)
  obtain ⟨F_331, he_332, hP, hD, hO⟩ : ∃ G, G = va_up F_324 q_287 (.inl (cs 16, 19, .inl (upd (upd (upd (upd (upd (upd (upd (fun _ => 0) (0 : Int32).toNatClampNeg 48) (1 : Int32).toNatClampNeg 49) (2 : Int32).toNatClampNeg 48) (3 : Int32).toNatClampNeg 13) (4 : Int32).toNatClampNeg 6) (5 : Int32).toNatClampNeg 9) (6 : Int32).toNatClampNeg 96))) ∧ va_P (dC, dI) vwCl (va_pl L G) H ∧ va_D A (va_pl L G) ∧ OKm cs ty gm L G := ⟨_, rfl, hP, hD, hO.up (shm.raw hT_q_287)⟩
  have hF_333 : F_331 q_287 = .inl (cs 16, 19, .inl (upd (upd (upd (upd (upd (upd (upd (fun _ => 0) (0 : Int32).toNatClampNeg 48) (1 : Int32).toNatClampNeg 49) (2 : Int32).toNatClampNeg 48) (3 : Int32).toNatClampNeg 13) (4 : Int32).toNatClampNeg 6) (5 : Int32).toNatClampNeg 9) (6 : Int32).toNatClampNeg 96)) := by rw [he_332]; exact up_self
  have hF_334 : F_331 h0 = .inr (15, (.ref q_1) :: (.int 0) :: (.int 0) :: (.int 0) :: (.ref q_6) :: (.ref q_11) :: (.ref q_16) :: (.ref q_21) :: (.ref q_27) :: (.ref q_34) :: (.ref q_42) :: (.int 0) :: (.int 0) :: (.ref q_50) :: (.int 0) :: (.int 0) :: (.ref q_58) :: (.int 0) :: (.int 0) :: (.int 0) :: (.int 0) :: (.int 0) :: (.int 0) :: (.ref q_67) :: (.ref q_75) :: (.ref q_83) :: (.ref q_91) :: (.ref q_99) :: (.ref q_107) :: (.ref q_115) :: (.int 0) :: (.int 0) :: (.int 0) :: (.int 0) :: (.ref q_123) :: (.ref q_132) :: (.ref q_144) :: (.ref q_156) :: (.ref q_168) :: (.ref q_181) :: (.ref q_189) :: (.ref q_197) :: (.ref q_205) :: (.ref q_213) :: (.ref q_221) :: (.ref q_229) :: (.ref q_237) :: (.ref q_245) :: (.ref q_253) :: (.ref q_261) :: (.ref q_270) :: (.ref q_279) :: (.int 0) :: (.int 0) :: (.int 0) :: (.null) :: (.null) :: (.null) :: (.null) :: []) := by rw [he_332, up_ne hne_h0_q_287]; exact hF_327
  have hF_335 : F_331 q_21 = .inl (cs 23, 40, .inr (.inr (.inr (.inr (fun _ => none))))) := by rw [he_332, up_ne hne_q_21_q_287]; exact hF_328
  have hF_336 : F_331 q_27 = .inl (cs 23, 40, .inr (.inr (.inr (.inr (fun _ => none))))) := by rw [he_332, up_ne hne_q_27_q_287]; exact hF_329
  have hF_337 : F_331 q_50 = .inl (cs 23, 13, .inr (.inr (.inr (.inr (fun _ => none))))) := by rw [he_332, up_ne hne_q_50_q_287]; exact hF_330
  refine lv_dup hx hb dX15_init_385 rfl ?_
  refine lv_bipush (v := 7) hx hb dX15_init_386 (by decide) ?_
  refine lv_sipush (v := 134) hx hb dX15_init_388 (by decide) ?_
  refine pg_iast hx hb hK hP hD hS hL_q_287 0 hF_333 rfl (show vp_in (7 : Int32) 19 from (show vp_in (nI 7) 19 from vp_in_nI (by omega) (by omega))) dX15_init_391 (fun H locs hP hD hS => ?_)
  obtain ⟨F_338, he_339, hP, hD, hO⟩ : ∃ G, G = va_up F_331 q_287 (.inl (cs 16, 19, .inl (upd (upd (upd (upd (upd (upd (upd (upd (fun _ => 0) (0 : Int32).toNatClampNeg 48) (1 : Int32).toNatClampNeg 49) (2 : Int32).toNatClampNeg 48) (3 : Int32).toNatClampNeg 13) (4 : Int32).toNatClampNeg 6) (5 : Int32).toNatClampNeg 9) (6 : Int32).toNatClampNeg 96) (7 : Int32).toNatClampNeg 134))) ∧ va_P (dC, dI) vwCl (va_pl L G) H ∧ va_D A (va_pl L G) ∧ OKm cs ty gm L G := ⟨_, rfl, hP, hD, hO.up (shm.raw hT_q_287)⟩
  have hF_340 : F_338 q_287 = .inl (cs 16, 19, .inl (upd (upd (upd (upd (upd (upd (upd (upd (fun _ => 0) (0 : Int32).toNatClampNeg 48) (1 : Int32).toNatClampNeg 49) (2 : Int32).toNatClampNeg 48) (3 : Int32).toNatClampNeg 13) (4 : Int32).toNatClampNeg 6) (5 : Int32).toNatClampNeg 9) (6 : Int32).toNatClampNeg 96) (7 : Int32).toNatClampNeg 134)) := by rw [he_339]; exact up_self
  have hF_341 : F_338 h0 = .inr (15, (.ref q_1) :: (.int 0) :: (.int 0) :: (.int 0) :: (.ref q_6) :: (.ref q_11) :: (.ref q_16) :: (.ref q_21) :: (.ref q_27) :: (.ref q_34) :: (.ref q_42) :: (.int 0) :: (.int 0) :: (.ref q_50) :: (.int 0) :: (.int 0) :: (.ref q_58) :: (.int 0) :: (.int 0) :: (.int 0) :: (.int 0) :: (.int 0) :: (.int 0) :: (.ref q_67) :: (.ref q_75) :: (.ref q_83) :: (.ref q_91) :: (.ref q_99) :: (.ref q_107) :: (.ref q_115) :: (.int 0) :: (.int 0) :: (.int 0) :: (.int 0) :: (.ref q_123) :: (.ref q_132) :: (.ref q_144) :: (.ref q_156) :: (.ref q_168) :: (.ref q_181) :: (.ref q_189) :: (.ref q_197) :: (.ref q_205) :: (.ref q_213) :: (.ref q_221) :: (.ref q_229) :: (.ref q_237) :: (.ref q_245) :: (.ref q_253) :: (.ref q_261) :: (.ref q_270) :: (.ref q_279) :: (.int 0) :: (.int 0) :: (.int 0) :: (.null) :: (.null) :: (.null) :: (.null) :: []) := by rw [he_339, up_ne hne_h0_q_287]; exact hF_334
  have hF_342 : F_338 q_21 = .inl (cs 23, 40, .inr (.inr (.inr (.inr (fun _ => none))))) := by rw [he_339, up_ne hne_q_21_q_287]; exact hF_335
  have hF_343 : F_338 q_27 = .inl (cs 23, 40, .inr (.inr (.inr (.inr (fun _ => none))))) := by rw [he_339, up_ne hne_q_27_q_287]; exact hF_336
  have hF_344 : F_338 q_50 = .inl (cs 23, 13, .inr (.inr (.inr (.inr (fun _ => none))))) := by rw [he_339, up_ne hne_q_50_q_287]; exact hF_337
  refine lv_dup hx hb dX15_init_392 rfl ?_
  refine lv_bipush (v := 8) hx hb dX15_init_393 (by decide) ?_
  refine lv_bipush (v := 72) hx hb dX15_init_395 (by decide) ?_
  refine pg_iast hx hb hK hP hD hS hL_q_287 0 hF_340 rfl (show vp_in (8 : Int32) 19 from (show vp_in (nI 8) 19 from vp_in_nI (by omega) (by omega))) dX15_init_397 (fun H locs hP hD hS => ?_)
  obtain ⟨F_345, he_346, hP, hD, hO⟩ : ∃ G, G = va_up F_338 q_287 (.inl (cs 16, 19, .inl (upd (upd (upd (upd (upd (upd (upd (upd (upd (fun _ => 0) (0 : Int32).toNatClampNeg 48) (1 : Int32).toNatClampNeg 49) (2 : Int32).toNatClampNeg 48) (3 : Int32).toNatClampNeg 13) (4 : Int32).toNatClampNeg 6) (5 : Int32).toNatClampNeg 9) (6 : Int32).toNatClampNeg 96) (7 : Int32).toNatClampNeg 134) (8 : Int32).toNatClampNeg 72))) ∧ va_P (dC, dI) vwCl (va_pl L G) H ∧ va_D A (va_pl L G) ∧ OKm cs ty gm L G := ⟨_, rfl, hP, hD, hO.up (shm.raw hT_q_287)⟩
  have hF_347 : F_345 q_287 = .inl (cs 16, 19, .inl (upd (upd (upd (upd (upd (upd (upd (upd (upd (fun _ => 0) (0 : Int32).toNatClampNeg 48) (1 : Int32).toNatClampNeg 49) (2 : Int32).toNatClampNeg 48) (3 : Int32).toNatClampNeg 13) (4 : Int32).toNatClampNeg 6) (5 : Int32).toNatClampNeg 9) (6 : Int32).toNatClampNeg 96) (7 : Int32).toNatClampNeg 134) (8 : Int32).toNatClampNeg 72)) := by rw [he_346]; exact up_self
  have hF_348 : F_345 h0 = .inr (15, (.ref q_1) :: (.int 0) :: (.int 0) :: (.int 0) :: (.ref q_6) :: (.ref q_11) :: (.ref q_16) :: (.ref q_21) :: (.ref q_27) :: (.ref q_34) :: (.ref q_42) :: (.int 0) :: (.int 0) :: (.ref q_50) :: (.int 0) :: (.int 0) :: (.ref q_58) :: (.int 0) :: (.int 0) :: (.int 0) :: (.int 0) :: (.int 0) :: (.int 0) :: (.ref q_67) :: (.ref q_75) :: (.ref q_83) :: (.ref q_91) :: (.ref q_99) :: (.ref q_107) :: (.ref q_115) :: (.int 0) :: (.int 0) :: (.int 0) :: (.int 0) :: (.ref q_123) :: (.ref q_132) :: (.ref q_144) :: (.ref q_156) :: (.ref q_168) :: (.ref q_181) :: (.ref q_189) :: (.ref q_197) :: (.ref q_205) :: (.ref q_213) :: (.ref q_221) :: (.ref q_229) :: (.ref q_237) :: (.ref q_245) :: (.ref q_253) :: (.ref q_261) :: (.ref q_270) :: (.ref q_279) :: (.int 0) :: (.int 0) :: (.int 0) :: (.null) :: (.null) :: (.null) :: (.null) :: []) := by rw [he_346, up_ne hne_h0_q_287]; exact hF_341
  have hF_349 : F_345 q_21 = .inl (cs 23, 40, .inr (.inr (.inr (.inr (fun _ => none))))) := by rw [he_346, up_ne hne_q_21_q_287]; exact hF_342
  have hF_350 : F_345 q_27 = .inl (cs 23, 40, .inr (.inr (.inr (.inr (fun _ => none))))) := by rw [he_346, up_ne hne_q_27_q_287]; exact hF_343
  have hF_351 : F_345 q_50 = .inl (cs 23, 13, .inr (.inr (.inr (.inr (fun _ => none))))) := by rw [he_346, up_ne hne_q_50_q_287]; exact hF_344
  refine lv_dup hx hb dX15_init_398 rfl ?_
  refine lv_bipush (v := 9) hx hb dX15_init_399 (by decide) ?_
  refine lv_iconst (v := 1) hx hb dX15_init_401 (by decide) ?_
  refine pg_iast hx hb hK hP hD hS hL_q_287 0 hF_347 rfl (show vp_in (9 : Int32) 19 from (show vp_in (nI 9) 19 from vp_in_nI (by omega) (by omega))) dX15_init_402 (fun H locs hP hD hS => ?_)
  obtain ⟨F_352, he_353, hP, hD, hO⟩ : ∃ G, G = va_up F_345 q_287 (.inl (cs 16, 19, .inl (upd (upd (upd (upd (upd (upd (upd (upd (upd (upd (fun _ => 0) (0 : Int32).toNatClampNeg 48) (1 : Int32).toNatClampNeg 49) (2 : Int32).toNatClampNeg 48) (3 : Int32).toNatClampNeg 13) (4 : Int32).toNatClampNeg 6) (5 : Int32).toNatClampNeg 9) (6 : Int32).toNatClampNeg 96) (7 : Int32).toNatClampNeg 134) (8 : Int32).toNatClampNeg 72) (9 : Int32).toNatClampNeg 1))) ∧ va_P (dC, dI) vwCl (va_pl L G) H ∧ va_D A (va_pl L G) ∧ OKm cs ty gm L G := ⟨_, rfl, hP, hD, hO.up (shm.raw hT_q_287)⟩
  have hF_354 : F_352 q_287 = .inl (cs 16, 19, .inl (upd (upd (upd (upd (upd (upd (upd (upd (upd (upd (fun _ => 0) (0 : Int32).toNatClampNeg 48) (1 : Int32).toNatClampNeg 49) (2 : Int32).toNatClampNeg 48) (3 : Int32).toNatClampNeg 13) (4 : Int32).toNatClampNeg 6) (5 : Int32).toNatClampNeg 9) (6 : Int32).toNatClampNeg 96) (7 : Int32).toNatClampNeg 134) (8 : Int32).toNatClampNeg 72) (9 : Int32).toNatClampNeg 1)) := by rw [he_353]; exact up_self
  have hF_355 : F_352 h0 = .inr (15, (.ref q_1) :: (.int 0) :: (.int 0) :: (.int 0) :: (.ref q_6) :: (.ref q_11) :: (.ref q_16) :: (.ref q_21) :: (.ref q_27) :: (.ref q_34) :: (.ref q_42) :: (.int 0) :: (.int 0) :: (.ref q_50) :: (.int 0) :: (.int 0) :: (.ref q_58) :: (.int 0) :: (.int 0) :: (.int 0) :: (.int 0) :: (.int 0) :: (.int 0) :: (.ref q_67) :: (.ref q_75) :: (.ref q_83) :: (.ref q_91) :: (.ref q_99) :: (.ref q_107) :: (.ref q_115) :: (.int 0) :: (.int 0) :: (.int 0) :: (.int 0) :: (.ref q_123) :: (.ref q_132) :: (.ref q_144) :: (.ref q_156) :: (.ref q_168) :: (.ref q_181) :: (.ref q_189) :: (.ref q_197) :: (.ref q_205) :: (.ref q_213) :: (.ref q_221) :: (.ref q_229) :: (.ref q_237) :: (.ref q_245) :: (.ref q_253) :: (.ref q_261) :: (.ref q_270) :: (.ref q_279) :: (.int 0) :: (.int 0) :: (.int 0) :: (.null) :: (.null) :: (.null) :: (.null) :: []) := by rw [he_353, up_ne hne_h0_q_287]; exact hF_348
  have hF_356 : F_352 q_21 = .inl (cs 23, 40, .inr (.inr (.inr (.inr (fun _ => none))))) := by rw [he_353, up_ne hne_q_21_q_287]; exact hF_349
  have hF_357 : F_352 q_27 = .inl (cs 23, 40, .inr (.inr (.inr (.inr (fun _ => none))))) := by rw [he_353, up_ne hne_q_27_q_287]; exact hF_350
  have hF_358 : F_352 q_50 = .inl (cs 23, 13, .inr (.inr (.inr (.inr (fun _ => none))))) := by rw [he_353, up_ne hne_q_50_q_287]; exact hF_351
  refine lv_dup hx hb dX15_init_403 rfl ?_
  refine lv_bipush (v := 10) hx hb dX15_init_404 (by decide) ?_
  refine lv_bipush (v := 101) hx hb dX15_init_406 (by decide) ?_
  refine pg_iast hx hb hK hP hD hS hL_q_287 0 hF_354 rfl (show vp_in (10 : Int32) 19 from (show vp_in (nI 10) 19 from vp_in_nI (by omega) (by omega))) dX15_init_408 (fun H locs hP hD hS => ?_)
  obtain ⟨F_359, he_360, hP, hD, hO⟩ : ∃ G, G = va_up F_352 q_287 (.inl (cs 16, 19, .inl (upd (upd (upd (upd (upd (upd (upd (upd (upd (upd (upd (fun _ => 0) (0 : Int32).toNatClampNeg 48) (1 : Int32).toNatClampNeg 49) (2 : Int32).toNatClampNeg 48) (3 : Int32).toNatClampNeg 13) (4 : Int32).toNatClampNeg 6) (5 : Int32).toNatClampNeg 9) (6 : Int32).toNatClampNeg 96) (7 : Int32).toNatClampNeg 134) (8 : Int32).toNatClampNeg 72) (9 : Int32).toNatClampNeg 1) (10 : Int32).toNatClampNeg 101))) ∧ va_P (dC, dI) vwCl (va_pl L G) H ∧ va_D A (va_pl L G) ∧ OKm cs ty gm L G := ⟨_, rfl, hP, hD, hO.up (shm.raw hT_q_287)⟩
  have hF_361 : F_359 q_287 = .inl (cs 16, 19, .inl (upd (upd (upd (upd (upd (upd (upd (upd (upd (upd (upd (fun _ => 0) (0 : Int32).toNatClampNeg 48) (1 : Int32).toNatClampNeg 49) (2 : Int32).toNatClampNeg 48) (3 : Int32).toNatClampNeg 13) (4 : Int32).toNatClampNeg 6) (5 : Int32).toNatClampNeg 9) (6 : Int32).toNatClampNeg 96) (7 : Int32).toNatClampNeg 134) (8 : Int32).toNatClampNeg 72) (9 : Int32).toNatClampNeg 1) (10 : Int32).toNatClampNeg 101)) := by rw [he_360]; exact up_self
  have hF_362 : F_359 h0 = .inr (15, (.ref q_1) :: (.int 0) :: (.int 0) :: (.int 0) :: (.ref q_6) :: (.ref q_11) :: (.ref q_16) :: (.ref q_21) :: (.ref q_27) :: (.ref q_34) :: (.ref q_42) :: (.int 0) :: (.int 0) :: (.ref q_50) :: (.int 0) :: (.int 0) :: (.ref q_58) :: (.int 0) :: (.int 0) :: (.int 0) :: (.int 0) :: (.int 0) :: (.int 0) :: (.ref q_67) :: (.ref q_75) :: (.ref q_83) :: (.ref q_91) :: (.ref q_99) :: (.ref q_107) :: (.ref q_115) :: (.int 0) :: (.int 0) :: (.int 0) :: (.int 0) :: (.ref q_123) :: (.ref q_132) :: (.ref q_144) :: (.ref q_156) :: (.ref q_168) :: (.ref q_181) :: (.ref q_189) :: (.ref q_197) :: (.ref q_205) :: (.ref q_213) :: (.ref q_221) :: (.ref q_229) :: (.ref q_237) :: (.ref q_245) :: (.ref q_253) :: (.ref q_261) :: (.ref q_270) :: (.ref q_279) :: (.int 0) :: (.int 0) :: (.int 0) :: (.null) :: (.null) :: (.null) :: (.null) :: []) := by rw [he_360, up_ne hne_h0_q_287]; exact hF_355
  have hF_363 : F_359 q_21 = .inl (cs 23, 40, .inr (.inr (.inr (.inr (fun _ => none))))) := by rw [he_360, up_ne hne_q_21_q_287]; exact hF_356
  have hF_364 : F_359 q_27 = .inl (cs 23, 40, .inr (.inr (.inr (.inr (fun _ => none))))) := by rw [he_360, up_ne hne_q_27_q_287]; exact hF_357
  have hF_365 : F_359 q_50 = .inl (cs 23, 13, .inr (.inr (.inr (.inr (fun _ => none))))) := by rw [he_360, up_ne hne_q_50_q_287]; exact hF_358
  refine lv_dup hx hb dX15_init_409 rfl ?_
  refine lv_bipush (v := 11) hx hb dX15_init_410 (by decide) ?_
  refine lv_iconst (v := 3) hx hb dX15_init_412 (by decide) ?_
  refine pg_iast hx hb hK hP hD hS hL_q_287 0 hF_361 rfl (show vp_in (11 : Int32) 19 from (show vp_in (nI 11) 19 from vp_in_nI (by omega) (by omega))) dX15_init_413 (fun H locs hP hD hS => ?_)
  obtain ⟨F_366, he_367, hP, hD, hO⟩ : ∃ G, G = va_up F_359 q_287 (.inl (cs 16, 19, .inl (upd (upd (upd (upd (upd (upd (upd (upd (upd (upd (upd (upd (fun _ => 0) (0 : Int32).toNatClampNeg 48) (1 : Int32).toNatClampNeg 49) (2 : Int32).toNatClampNeg 48) (3 : Int32).toNatClampNeg 13) (4 : Int32).toNatClampNeg 6) (5 : Int32).toNatClampNeg 9) (6 : Int32).toNatClampNeg 96) (7 : Int32).toNatClampNeg 134) (8 : Int32).toNatClampNeg 72) (9 : Int32).toNatClampNeg 1) (10 : Int32).toNatClampNeg 101) (11 : Int32).toNatClampNeg 3))) ∧ va_P (dC, dI) vwCl (va_pl L G) H ∧ va_D A (va_pl L G) ∧ OKm cs ty gm L G := ⟨_, rfl, hP, hD, hO.up (shm.raw hT_q_287)⟩
  have hF_368 : F_366 q_287 = .inl (cs 16, 19, .inl (upd (upd (upd (upd (upd (upd (upd (upd (upd (upd (upd (upd (fun _ => 0) (0 : Int32).toNatClampNeg 48) (1 : Int32).toNatClampNeg 49) (2 : Int32).toNatClampNeg 48) (3 : Int32).toNatClampNeg 13) (4 : Int32).toNatClampNeg 6) (5 : Int32).toNatClampNeg 9) (6 : Int32).toNatClampNeg 96) (7 : Int32).toNatClampNeg 134) (8 : Int32).toNatClampNeg 72) (9 : Int32).toNatClampNeg 1) (10 : Int32).toNatClampNeg 101) (11 : Int32).toNatClampNeg 3)) := by rw [he_367]; exact up_self
  have hF_369 : F_366 h0 = .inr (15, (.ref q_1) :: (.int 0) :: (.int 0) :: (.int 0) :: (.ref q_6) :: (.ref q_11) :: (.ref q_16) :: (.ref q_21) :: (.ref q_27) :: (.ref q_34) :: (.ref q_42) :: (.int 0) :: (.int 0) :: (.ref q_50) :: (.int 0) :: (.int 0) :: (.ref q_58) :: (.int 0) :: (.int 0) :: (.int 0) :: (.int 0) :: (.int 0) :: (.int 0) :: (.ref q_67) :: (.ref q_75) :: (.ref q_83) :: (.ref q_91) :: (.ref q_99) :: (.ref q_107) :: (.ref q_115) :: (.int 0) :: (.int 0) :: (.int 0) :: (.int 0) :: (.ref q_123) :: (.ref q_132) :: (.ref q_144) :: (.ref q_156) :: (.ref q_168) :: (.ref q_181) :: (.ref q_189) :: (.ref q_197) :: (.ref q_205) :: (.ref q_213) :: (.ref q_221) :: (.ref q_229) :: (.ref q_237) :: (.ref q_245) :: (.ref q_253) :: (.ref q_261) :: (.ref q_270) :: (.ref q_279) :: (.int 0) :: (.int 0) :: (.int 0) :: (.null) :: (.null) :: (.null) :: (.null) :: []) := by rw [he_367, up_ne hne_h0_q_287]; exact hF_362
  have hF_370 : F_366 q_21 = .inl (cs 23, 40, .inr (.inr (.inr (.inr (fun _ => none))))) := by rw [he_367, up_ne hne_q_21_q_287]; exact hF_363
  have hF_371 : F_366 q_27 = .inl (cs 23, 40, .inr (.inr (.inr (.inr (fun _ => none))))) := by rw [he_367, up_ne hne_q_27_q_287]; exact hF_364
  have hF_372 : F_366 q_50 = .inl (cs 23, 13, .inr (.inr (.inr (.inr (fun _ => none))))) := by rw [he_367, up_ne hne_q_50_q_287]; exact hF_365
  refine lv_dup hx hb dX15_init_414 rfl ?_
  refine lv_bipush (v := 12) hx hb dX15_init_415 (by decide) ?_
  refine lv_iconst (v := 4) hx hb dX15_init_417 (by decide) ?_
  refine pg_iast hx hb hK hP hD hS hL_q_287 0 hF_368 rfl (show vp_in (12 : Int32) 19 from (show vp_in (nI 12) 19 from vp_in_nI (by omega) (by omega))) dX15_init_418 (fun H locs hP hD hS => ?_)
  obtain ⟨F_373, he_374, hP, hD, hO⟩ : ∃ G, G = va_up F_366 q_287 (.inl (cs 16, 19, .inl (upd (upd (upd (upd (upd (upd (upd (upd (upd (upd (upd (upd (upd (fun _ => 0) (0 : Int32).toNatClampNeg 48) (1 : Int32).toNatClampNeg 49) (2 : Int32).toNatClampNeg 48) (3 : Int32).toNatClampNeg 13) (4 : Int32).toNatClampNeg 6) (5 : Int32).toNatClampNeg 9) (6 : Int32).toNatClampNeg 96) (7 : Int32).toNatClampNeg 134) (8 : Int32).toNatClampNeg 72) (9 : Int32).toNatClampNeg 1) (10 : Int32).toNatClampNeg 101) (11 : Int32).toNatClampNeg 3) (12 : Int32).toNatClampNeg 4))) ∧ va_P (dC, dI) vwCl (va_pl L G) H ∧ va_D A (va_pl L G) ∧ OKm cs ty gm L G := ⟨_, rfl, hP, hD, hO.up (shm.raw hT_q_287)⟩
  have hF_375 : F_373 q_287 = .inl (cs 16, 19, .inl (upd (upd (upd (upd (upd (upd (upd (upd (upd (upd (upd (upd (upd (fun _ => 0) (0 : Int32).toNatClampNeg 48) (1 : Int32).toNatClampNeg 49) (2 : Int32).toNatClampNeg 48) (3 : Int32).toNatClampNeg 13) (4 : Int32).toNatClampNeg 6) (5 : Int32).toNatClampNeg 9) (6 : Int32).toNatClampNeg 96) (7 : Int32).toNatClampNeg 134) (8 : Int32).toNatClampNeg 72) (9 : Int32).toNatClampNeg 1) (10 : Int32).toNatClampNeg 101) (11 : Int32).toNatClampNeg 3) (12 : Int32).toNatClampNeg 4)) := by rw [he_374]; exact up_self
  have hF_376 : F_373 h0 = .inr (15, (.ref q_1) :: (.int 0) :: (.int 0) :: (.int 0) :: (.ref q_6) :: (.ref q_11) :: (.ref q_16) :: (.ref q_21) :: (.ref q_27) :: (.ref q_34) :: (.ref q_42) :: (.int 0) :: (.int 0) :: (.ref q_50) :: (.int 0) :: (.int 0) :: (.ref q_58) :: (.int 0) :: (.int 0) :: (.int 0) :: (.int 0) :: (.int 0) :: (.int 0) :: (.ref q_67) :: (.ref q_75) :: (.ref q_83) :: (.ref q_91) :: (.ref q_99) :: (.ref q_107) :: (.ref q_115) :: (.int 0) :: (.int 0) :: (.int 0) :: (.int 0) :: (.ref q_123) :: (.ref q_132) :: (.ref q_144) :: (.ref q_156) :: (.ref q_168) :: (.ref q_181) :: (.ref q_189) :: (.ref q_197) :: (.ref q_205) :: (.ref q_213) :: (.ref q_221) :: (.ref q_229) :: (.ref q_237) :: (.ref q_245) :: (.ref q_253) :: (.ref q_261) :: (.ref q_270) :: (.ref q_279) :: (.int 0) :: (.int 0) :: (.int 0) :: (.null) :: (.null) :: (.null) :: (.null) :: []) := by rw [he_374, up_ne hne_h0_q_287]; exact hF_369
  have hF_377 : F_373 q_21 = .inl (cs 23, 40, .inr (.inr (.inr (.inr (fun _ => none))))) := by rw [he_374, up_ne hne_q_21_q_287]; exact hF_370
  have hF_378 : F_373 q_27 = .inl (cs 23, 40, .inr (.inr (.inr (.inr (fun _ => none))))) := by rw [he_374, up_ne hne_q_27_q_287]; exact hF_371
  have hF_379 : F_373 q_50 = .inl (cs 23, 13, .inr (.inr (.inr (.inr (fun _ => none))))) := by rw [he_374, up_ne hne_q_50_q_287]; exact hF_372
  refine lv_dup hx hb dX15_init_419 rfl ?_
  refine lv_bipush (v := 13) hx hb dX15_init_420 (by decide) ?_
  refine lv_iconst (v := 2) hx hb dX15_init_422 (by decide) ?_
  refine pg_iast hx hb hK hP hD hS hL_q_287 0 hF_375 rfl (show vp_in (13 : Int32) 19 from (show vp_in (nI 13) 19 from vp_in_nI (by omega) (by omega))) dX15_init_423 (fun H locs hP hD hS => ?_)
  obtain ⟨F_380, he_381, hP, hD, hO⟩ : ∃ G, G = va_up F_373 q_287 (.inl (cs 16, 19, .inl (upd (upd (upd (upd (upd (upd (upd (upd (upd (upd (upd (upd (upd (upd (fun _ => 0) (0 : Int32).toNatClampNeg 48) (1 : Int32).toNatClampNeg 49) (2 : Int32).toNatClampNeg 48) (3 : Int32).toNatClampNeg 13) (4 : Int32).toNatClampNeg 6) (5 : Int32).toNatClampNeg 9) (6 : Int32).toNatClampNeg 96) (7 : Int32).toNatClampNeg 134) (8 : Int32).toNatClampNeg 72) (9 : Int32).toNatClampNeg 1) (10 : Int32).toNatClampNeg 101) (11 : Int32).toNatClampNeg 3) (12 : Int32).toNatClampNeg 4) (13 : Int32).toNatClampNeg 2))) ∧ va_P (dC, dI) vwCl (va_pl L G) H ∧ va_D A (va_pl L G) ∧ OKm cs ty gm L G := ⟨_, rfl, hP, hD, hO.up (shm.raw hT_q_287)⟩
  have hF_382 : F_380 q_287 = .inl (cs 16, 19, .inl (upd (upd (upd (upd (upd (upd (upd (upd (upd (upd (upd (upd (upd (upd (fun _ => 0) (0 : Int32).toNatClampNeg 48) (1 : Int32).toNatClampNeg 49) (2 : Int32).toNatClampNeg 48) (3 : Int32).toNatClampNeg 13) (4 : Int32).toNatClampNeg 6) (5 : Int32).toNatClampNeg 9) (6 : Int32).toNatClampNeg 96) (7 : Int32).toNatClampNeg 134) (8 : Int32).toNatClampNeg 72) (9 : Int32).toNatClampNeg 1) (10 : Int32).toNatClampNeg 101) (11 : Int32).toNatClampNeg 3) (12 : Int32).toNatClampNeg 4) (13 : Int32).toNatClampNeg 2)) := by rw [he_381]; exact up_self
  have hF_383 : F_380 h0 = .inr (15, (.ref q_1) :: (.int 0) :: (.int 0) :: (.int 0) :: (.ref q_6) :: (.ref q_11) :: (.ref q_16) :: (.ref q_21) :: (.ref q_27) :: (.ref q_34) :: (.ref q_42) :: (.int 0) :: (.int 0) :: (.ref q_50) :: (.int 0) :: (.int 0) :: (.ref q_58) :: (.int 0) :: (.int 0) :: (.int 0) :: (.int 0) :: (.int 0) :: (.int 0) :: (.ref q_67) :: (.ref q_75) :: (.ref q_83) :: (.ref q_91) :: (.ref q_99) :: (.ref q_107) :: (.ref q_115) :: (.int 0) :: (.int 0) :: (.int 0) :: (.int 0) :: (.ref q_123) :: (.ref q_132) :: (.ref q_144) :: (.ref q_156) :: (.ref q_168) :: (.ref q_181) :: (.ref q_189) :: (.ref q_197) :: (.ref q_205) :: (.ref q_213) :: (.ref q_221) :: (.ref q_229) :: (.ref q_237) :: (.ref q_245) :: (.ref q_253) :: (.ref q_261) :: (.ref q_270) :: (.ref q_279) :: (.int 0) :: (.int 0) :: (.int 0) :: (.null) :: (.null) :: (.null) :: (.null) :: []) := by rw [he_381, up_ne hne_h0_q_287]; exact hF_376
  have hF_384 : F_380 q_21 = .inl (cs 23, 40, .inr (.inr (.inr (.inr (fun _ => none))))) := by rw [he_381, up_ne hne_q_21_q_287]; exact hF_377
  have hF_385 : F_380 q_27 = .inl (cs 23, 40, .inr (.inr (.inr (.inr (fun _ => none))))) := by rw [he_381, up_ne hne_q_27_q_287]; exact hF_378
  have hF_386 : F_380 q_50 = .inl (cs 23, 13, .inr (.inr (.inr (.inr (fun _ => none))))) := by rw [he_381, up_ne hne_q_50_q_287]; exact hF_379
  refine lv_dup hx hb dX15_init_424 rfl ?_
  refine lv_bipush (v := 14) hx hb dX15_init_425 (by decide) ?_
  refine lv_iconst (v := 1) hx hb dX15_init_427 (by decide) ?_
  refine pg_iast hx hb hK hP hD hS hL_q_287 0 hF_382 rfl (show vp_in (14 : Int32) 19 from (show vp_in (nI 14) 19 from vp_in_nI (by omega) (by omega))) dX15_init_428 (fun H locs hP hD hS => ?_)
  obtain ⟨F_387, he_388, hP, hD, hO⟩ : ∃ G, G = va_up F_380 q_287 (.inl (cs 16, 19, .inl (upd (upd (upd (upd (upd (upd (upd (upd (upd (upd (upd (upd (upd (upd (upd (fun _ => 0) (0 : Int32).toNatClampNeg 48) (1 : Int32).toNatClampNeg 49) (2 : Int32).toNatClampNeg 48) (3 : Int32).toNatClampNeg 13) (4 : Int32).toNatClampNeg 6) (5 : Int32).toNatClampNeg 9) (6 : Int32).toNatClampNeg 96) (7 : Int32).toNatClampNeg 134) (8 : Int32).toNatClampNeg 72) (9 : Int32).toNatClampNeg 1) (10 : Int32).toNatClampNeg 101) (11 : Int32).toNatClampNeg 3) (12 : Int32).toNatClampNeg 4) (13 : Int32).toNatClampNeg 2) (14 : Int32).toNatClampNeg 1))) ∧ va_P (dC, dI) vwCl (va_pl L G) H ∧ va_D A (va_pl L G) ∧ OKm cs ty gm L G := ⟨_, rfl, hP, hD, hO.up (shm.raw hT_q_287)⟩
  have hF_389 : F_387 q_287 = .inl (cs 16, 19, .inl (upd (upd (upd (upd (upd (upd (upd (upd (upd (upd (upd (upd (upd (upd (upd (fun _ => 0) (0 : Int32).toNatClampNeg 48) (1 : Int32).toNatClampNeg 49) (2 : Int32).toNatClampNeg 48) (3 : Int32).toNatClampNeg 13) (4 : Int32).toNatClampNeg 6) (5 : Int32).toNatClampNeg 9) (6 : Int32).toNatClampNeg 96) (7 : Int32).toNatClampNeg 134) (8 : Int32).toNatClampNeg 72) (9 : Int32).toNatClampNeg 1) (10 : Int32).toNatClampNeg 101) (11 : Int32).toNatClampNeg 3) (12 : Int32).toNatClampNeg 4) (13 : Int32).toNatClampNeg 2) (14 : Int32).toNatClampNeg 1)) := by rw [he_388]; exact up_self
  have hF_390 : F_387 h0 = .inr (15, (.ref q_1) :: (.int 0) :: (.int 0) :: (.int 0) :: (.ref q_6) :: (.ref q_11) :: (.ref q_16) :: (.ref q_21) :: (.ref q_27) :: (.ref q_34) :: (.ref q_42) :: (.int 0) :: (.int 0) :: (.ref q_50) :: (.int 0) :: (.int 0) :: (.ref q_58) :: (.int 0) :: (.int 0) :: (.int 0) :: (.int 0) :: (.int 0) :: (.int 0) :: (.ref q_67) :: (.ref q_75) :: (.ref q_83) :: (.ref q_91) :: (.ref q_99) :: (.ref q_107) :: (.ref q_115) :: (.int 0) :: (.int 0) :: (.int 0) :: (.int 0) :: (.ref q_123) :: (.ref q_132) :: (.ref q_144) :: (.ref q_156) :: (.ref q_168) :: (.ref q_181) :: (.ref q_189) :: (.ref q_197) :: (.ref q_205) :: (.ref q_213) :: (.ref q_221) :: (.ref q_229) :: (.ref q_237) :: (.ref q_245) :: (.ref q_253) :: (.ref q_261) :: (.ref q_270) :: (.ref q_279) :: (.int 0) :: (.int 0) :: (.int 0) :: (.null) :: (.null) :: (.null) :: (.null) :: []) := by rw [he_388, up_ne hne_h0_q_287]; exact hF_383
  have hF_391 : F_387 q_21 = .inl (cs 23, 40, .inr (.inr (.inr (.inr (fun _ => none))))) := by rw [he_388, up_ne hne_q_21_q_287]; exact hF_384
  have hF_392 : F_387 q_27 = .inl (cs 23, 40, .inr (.inr (.inr (.inr (fun _ => none))))) := by rw [he_388, up_ne hne_q_27_q_287]; exact hF_385
  have hF_393 : F_387 q_50 = .inl (cs 23, 13, .inr (.inr (.inr (.inr (fun _ => none))))) := by rw [he_388, up_ne hne_q_50_q_287]; exact hF_386
  refine lv_dup hx hb dX15_init_429 rfl ?_
  refine lv_bipush (v := 15) hx hb dX15_init_430 (by decide) ?_
  refine lv_iconst (v := 5) hx hb dX15_init_432 (by decide) ?_
  refine pg_iast hx hb hK hP hD hS hL_q_287 0 hF_389 rfl (show vp_in (15 : Int32) 19 from (show vp_in (nI 15) 19 from vp_in_nI (by omega) (by omega))) dX15_init_433 (fun H locs hP hD hS => ?_)
  obtain ⟨F_394, he_395, hP, hD, hO⟩ : ∃ G, G = va_up F_387 q_287 (.inl (cs 16, 19, .inl (upd (upd (upd (upd (upd (upd (upd (upd (upd (upd (upd (upd (upd (upd (upd (upd (fun _ => 0) (0 : Int32).toNatClampNeg 48) (1 : Int32).toNatClampNeg 49) (2 : Int32).toNatClampNeg 48) (3 : Int32).toNatClampNeg 13) (4 : Int32).toNatClampNeg 6) (5 : Int32).toNatClampNeg 9) (6 : Int32).toNatClampNeg 96) (7 : Int32).toNatClampNeg 134) (8 : Int32).toNatClampNeg 72) (9 : Int32).toNatClampNeg 1) (10 : Int32).toNatClampNeg 101) (11 : Int32).toNatClampNeg 3) (12 : Int32).toNatClampNeg 4) (13 : Int32).toNatClampNeg 2) (14 : Int32).toNatClampNeg 1) (15 : Int32).toNatClampNeg 5))) ∧ va_P (dC, dI) vwCl (va_pl L G) H ∧ va_D A (va_pl L G) ∧ OKm cs ty gm L G := ⟨_, rfl, hP, hD, hO.up (shm.raw hT_q_287)⟩
  have hF_396 : F_394 q_287 = .inl (cs 16, 19, .inl (upd (upd (upd (upd (upd (upd (upd (upd (upd (upd (upd (upd (upd (upd (upd (upd (fun _ => 0) (0 : Int32).toNatClampNeg 48) (1 : Int32).toNatClampNeg 49) (2 : Int32).toNatClampNeg 48) (3 : Int32).toNatClampNeg 13) (4 : Int32).toNatClampNeg 6) (5 : Int32).toNatClampNeg 9) (6 : Int32).toNatClampNeg 96) (7 : Int32).toNatClampNeg 134) (8 : Int32).toNatClampNeg 72) (9 : Int32).toNatClampNeg 1) (10 : Int32).toNatClampNeg 101) (11 : Int32).toNatClampNeg 3) (12 : Int32).toNatClampNeg 4) (13 : Int32).toNatClampNeg 2) (14 : Int32).toNatClampNeg 1) (15 : Int32).toNatClampNeg 5)) := by rw [he_395]; exact up_self
  have hF_397 : F_394 h0 = .inr (15, (.ref q_1) :: (.int 0) :: (.int 0) :: (.int 0) :: (.ref q_6) :: (.ref q_11) :: (.ref q_16) :: (.ref q_21) :: (.ref q_27) :: (.ref q_34) :: (.ref q_42) :: (.int 0) :: (.int 0) :: (.ref q_50) :: (.int 0) :: (.int 0) :: (.ref q_58) :: (.int 0) :: (.int 0) :: (.int 0) :: (.int 0) :: (.int 0) :: (.int 0) :: (.ref q_67) :: (.ref q_75) :: (.ref q_83) :: (.ref q_91) :: (.ref q_99) :: (.ref q_107) :: (.ref q_115) :: (.int 0) :: (.int 0) :: (.int 0) :: (.int 0) :: (.ref q_123) :: (.ref q_132) :: (.ref q_144) :: (.ref q_156) :: (.ref q_168) :: (.ref q_181) :: (.ref q_189) :: (.ref q_197) :: (.ref q_205) :: (.ref q_213) :: (.ref q_221) :: (.ref q_229) :: (.ref q_237) :: (.ref q_245) :: (.ref q_253) :: (.ref q_261) :: (.ref q_270) :: (.ref q_279) :: (.int 0) :: (.int 0) :: (.int 0) :: (.null) :: (.null) :: (.null) :: (.null) :: []) := by rw [he_395, up_ne hne_h0_q_287]; exact hF_390
  have hF_398 : F_394 q_21 = .inl (cs 23, 40, .inr (.inr (.inr (.inr (fun _ => none))))) := by rw [he_395, up_ne hne_q_21_q_287]; exact hF_391
  have hF_399 : F_394 q_27 = .inl (cs 23, 40, .inr (.inr (.inr (.inr (fun _ => none))))) := by rw [he_395, up_ne hne_q_27_q_287]; exact hF_392
  have hF_400 : F_394 q_50 = .inl (cs 23, 13, .inr (.inr (.inr (.inr (fun _ => none))))) := by rw [he_395, up_ne hne_q_50_q_287]; exact hF_393
  refine lv_dup hx hb dX15_init_434 rfl ?_
  refine lv_bipush (v := 16) hx hb dX15_init_435 (by decide) ?_
  refine lv_iconst (v := 0) hx hb dX15_init_437 (by decide) ?_
  refine pg_iast hx hb hK hP hD hS hL_q_287 0 hF_396 rfl (show vp_in (16 : Int32) 19 from (show vp_in (nI 16) 19 from vp_in_nI (by omega) (by omega))) dX15_init_438 (fun H locs hP hD hS => ?_)
  obtain ⟨F_401, he_402, hP, hD, hO⟩ : ∃ G, G = va_up F_394 q_287 (.inl (cs 16, 19, .inl (upd (upd (upd (upd (upd (upd (upd (upd (upd (upd (upd (upd (upd (upd (upd (upd (upd (fun _ => 0) (0 : Int32).toNatClampNeg 48) (1 : Int32).toNatClampNeg 49) (2 : Int32).toNatClampNeg 48) (3 : Int32).toNatClampNeg 13) (4 : Int32).toNatClampNeg 6) (5 : Int32).toNatClampNeg 9) (6 : Int32).toNatClampNeg 96) (7 : Int32).toNatClampNeg 134) (8 : Int32).toNatClampNeg 72) (9 : Int32).toNatClampNeg 1) (10 : Int32).toNatClampNeg 101) (11 : Int32).toNatClampNeg 3) (12 : Int32).toNatClampNeg 4) (13 : Int32).toNatClampNeg 2) (14 : Int32).toNatClampNeg 1) (15 : Int32).toNatClampNeg 5) (16 : Int32).toNatClampNeg 0))) ∧ va_P (dC, dI) vwCl (va_pl L G) H ∧ va_D A (va_pl L G) ∧ OKm cs ty gm L G := ⟨_, rfl, hP, hD, hO.up (shm.raw hT_q_287)⟩
  have hF_403 : F_401 q_287 = .inl (cs 16, 19, .inl (upd (upd (upd (upd (upd (upd (upd (upd (upd (upd (upd (upd (upd (upd (upd (upd (upd (fun _ => 0) (0 : Int32).toNatClampNeg 48) (1 : Int32).toNatClampNeg 49) (2 : Int32).toNatClampNeg 48) (3 : Int32).toNatClampNeg 13) (4 : Int32).toNatClampNeg 6) (5 : Int32).toNatClampNeg 9) (6 : Int32).toNatClampNeg 96) (7 : Int32).toNatClampNeg 134) (8 : Int32).toNatClampNeg 72) (9 : Int32).toNatClampNeg 1) (10 : Int32).toNatClampNeg 101) (11 : Int32).toNatClampNeg 3) (12 : Int32).toNatClampNeg 4) (13 : Int32).toNatClampNeg 2) (14 : Int32).toNatClampNeg 1) (15 : Int32).toNatClampNeg 5) (16 : Int32).toNatClampNeg 0)) := by rw [he_402]; exact up_self
  have hF_404 : F_401 h0 = .inr (15, (.ref q_1) :: (.int 0) :: (.int 0) :: (.int 0) :: (.ref q_6) :: (.ref q_11) :: (.ref q_16) :: (.ref q_21) :: (.ref q_27) :: (.ref q_34) :: (.ref q_42) :: (.int 0) :: (.int 0) :: (.ref q_50) :: (.int 0) :: (.int 0) :: (.ref q_58) :: (.int 0) :: (.int 0) :: (.int 0) :: (.int 0) :: (.int 0) :: (.int 0) :: (.ref q_67) :: (.ref q_75) :: (.ref q_83) :: (.ref q_91) :: (.ref q_99) :: (.ref q_107) :: (.ref q_115) :: (.int 0) :: (.int 0) :: (.int 0) :: (.int 0) :: (.ref q_123) :: (.ref q_132) :: (.ref q_144) :: (.ref q_156) :: (.ref q_168) :: (.ref q_181) :: (.ref q_189) :: (.ref q_197) :: (.ref q_205) :: (.ref q_213) :: (.ref q_221) :: (.ref q_229) :: (.ref q_237) :: (.ref q_245) :: (.ref q_253) :: (.ref q_261) :: (.ref q_270) :: (.ref q_279) :: (.int 0) :: (.int 0) :: (.int 0) :: (.null) :: (.null) :: (.null) :: (.null) :: []) := by rw [he_402, up_ne hne_h0_q_287]; exact hF_397
  have hF_405 : F_401 q_21 = .inl (cs 23, 40, .inr (.inr (.inr (.inr (fun _ => none))))) := by rw [he_402, up_ne hne_q_21_q_287]; exact hF_398
  have hF_406 : F_401 q_27 = .inl (cs 23, 40, .inr (.inr (.inr (.inr (fun _ => none))))) := by rw [he_402, up_ne hne_q_27_q_287]; exact hF_399
  have hF_407 : F_401 q_50 = .inl (cs 23, 13, .inr (.inr (.inr (.inr (fun _ => none))))) := by rw [he_402, up_ne hne_q_50_q_287]; exact hF_400
  refine lv_dup hx hb dX15_init_439 rfl ?_
  refine lv_bipush (v := 17) hx hb dX15_init_440 (by decide) ?_
  refine lv_iconst (v := 4) hx hb dX15_init_442 (by decide) ?_
  refine pg_iast hx hb hK hP hD hS hL_q_287 0 hF_403 rfl (show vp_in (17 : Int32) 19 from (show vp_in (nI 17) 19 from vp_in_nI (by omega) (by omega))) dX15_init_443 (fun H locs hP hD hS => ?_)
  obtain ⟨F_408, he_409, hP, hD, hO⟩ : ∃ G, G = va_up F_401 q_287 (.inl (cs 16, 19, .inl (upd (upd (upd (upd (upd (upd (upd (upd (upd (upd (upd (upd (upd (upd (upd (upd (upd (upd (fun _ => 0) (0 : Int32).toNatClampNeg 48) (1 : Int32).toNatClampNeg 49) (2 : Int32).toNatClampNeg 48) (3 : Int32).toNatClampNeg 13) (4 : Int32).toNatClampNeg 6) (5 : Int32).toNatClampNeg 9) (6 : Int32).toNatClampNeg 96) (7 : Int32).toNatClampNeg 134) (8 : Int32).toNatClampNeg 72) (9 : Int32).toNatClampNeg 1) (10 : Int32).toNatClampNeg 101) (11 : Int32).toNatClampNeg 3) (12 : Int32).toNatClampNeg 4) (13 : Int32).toNatClampNeg 2) (14 : Int32).toNatClampNeg 1) (15 : Int32).toNatClampNeg 5) (16 : Int32).toNatClampNeg 0) (17 : Int32).toNatClampNeg 4))) ∧ va_P (dC, dI) vwCl (va_pl L G) H ∧ va_D A (va_pl L G) ∧ OKm cs ty gm L G := ⟨_, rfl, hP, hD, hO.up (shm.raw hT_q_287)⟩
  have hF_410 : F_408 q_287 = .inl (cs 16, 19, .inl (upd (upd (upd (upd (upd (upd (upd (upd (upd (upd (upd (upd (upd (upd (upd (upd (upd (upd (fun _ => 0) (0 : Int32).toNatClampNeg 48) (1 : Int32).toNatClampNeg 49) (2 : Int32).toNatClampNeg 48) (3 : Int32).toNatClampNeg 13) (4 : Int32).toNatClampNeg 6) (5 : Int32).toNatClampNeg 9) (6 : Int32).toNatClampNeg 96) (7 : Int32).toNatClampNeg 134) (8 : Int32).toNatClampNeg 72) (9 : Int32).toNatClampNeg 1) (10 : Int32).toNatClampNeg 101) (11 : Int32).toNatClampNeg 3) (12 : Int32).toNatClampNeg 4) (13 : Int32).toNatClampNeg 2) (14 : Int32).toNatClampNeg 1) (15 : Int32).toNatClampNeg 5) (16 : Int32).toNatClampNeg 0) (17 : Int32).toNatClampNeg 4)) := by rw [he_409]; exact up_self
  have hF_411 : F_408 h0 = .inr (15, (.ref q_1) :: (.int 0) :: (.int 0) :: (.int 0) :: (.ref q_6) :: (.ref q_11) :: (.ref q_16) :: (.ref q_21) :: (.ref q_27) :: (.ref q_34) :: (.ref q_42) :: (.int 0) :: (.int 0) :: (.ref q_50) :: (.int 0) :: (.int 0) :: (.ref q_58) :: (.int 0) :: (.int 0) :: (.int 0) :: (.int 0) :: (.int 0) :: (.int 0) :: (.ref q_67) :: (.ref q_75) :: (.ref q_83) :: (.ref q_91) :: (.ref q_99) :: (.ref q_107) :: (.ref q_115) :: (.int 0) :: (.int 0) :: (.int 0) :: (.int 0) :: (.ref q_123) :: (.ref q_132) :: (.ref q_144) :: (.ref q_156) :: (.ref q_168) :: (.ref q_181) :: (.ref q_189) :: (.ref q_197) :: (.ref q_205) :: (.ref q_213) :: (.ref q_221) :: (.ref q_229) :: (.ref q_237) :: (.ref q_245) :: (.ref q_253) :: (.ref q_261) :: (.ref q_270) :: (.ref q_279) :: (.int 0) :: (.int 0) :: (.int 0) :: (.null) :: (.null) :: (.null) :: (.null) :: []) := by rw [he_409, up_ne hne_h0_q_287]; exact hF_404
  have hF_412 : F_408 q_21 = .inl (cs 23, 40, .inr (.inr (.inr (.inr (fun _ => none))))) := by rw [he_409, up_ne hne_q_21_q_287]; exact hF_405
  have hF_413 : F_408 q_27 = .inl (cs 23, 40, .inr (.inr (.inr (.inr (fun _ => none))))) := by rw [he_409, up_ne hne_q_27_q_287]; exact hF_406
  have hF_414 : F_408 q_50 = .inl (cs 23, 13, .inr (.inr (.inr (.inr (fun _ => none))))) := by rw [he_409, up_ne hne_q_50_q_287]; exact hF_407
  refine lv_dup hx hb dX15_init_444 rfl ?_
  refine lv_bipush (v := 18) hx hb dX15_init_445 (by decide) ?_
  refine lv_bipush (v := 32) hx hb dX15_init_447 (by decide) ?_
  refine pg_iast hx hb hK hP hD hS hL_q_287 0 hF_410 rfl (show vp_in (18 : Int32) 19 from (show vp_in (nI 18) 19 from vp_in_nI (by omega) (by omega))) dX15_init_449 (fun H locs hP hD hS => ?_)
  obtain ⟨F_415, he_416, hP, hD, hO⟩ : ∃ G, G = va_up F_408 q_287 (.inl (cs 16, 19, .inl (upd (upd (upd (upd (upd (upd (upd (upd (upd (upd (upd (upd (upd (upd (upd (upd (upd (upd (upd (fun _ => 0) (0 : Int32).toNatClampNeg 48) (1 : Int32).toNatClampNeg 49) (2 : Int32).toNatClampNeg 48) (3 : Int32).toNatClampNeg 13) (4 : Int32).toNatClampNeg 6) (5 : Int32).toNatClampNeg 9) (6 : Int32).toNatClampNeg 96) (7 : Int32).toNatClampNeg 134) (8 : Int32).toNatClampNeg 72) (9 : Int32).toNatClampNeg 1) (10 : Int32).toNatClampNeg 101) (11 : Int32).toNatClampNeg 3) (12 : Int32).toNatClampNeg 4) (13 : Int32).toNatClampNeg 2) (14 : Int32).toNatClampNeg 1) (15 : Int32).toNatClampNeg 5) (16 : Int32).toNatClampNeg 0) (17 : Int32).toNatClampNeg 4) (18 : Int32).toNatClampNeg 32))) ∧ va_P (dC, dI) vwCl (va_pl L G) H ∧ va_D A (va_pl L G) ∧ OKm cs ty gm L G := ⟨_, rfl, hP, hD, hO.up (shm.raw hT_q_287)⟩
  have hF_417 : F_415 q_287 = .inl (cs 16, 19, .inl (upd (upd (upd (upd (upd (upd (upd (upd (upd (upd (upd (upd (upd (upd (upd (upd (upd (upd (upd (fun _ => 0) (0 : Int32).toNatClampNeg 48) (1 : Int32).toNatClampNeg 49) (2 : Int32).toNatClampNeg 48) (3 : Int32).toNatClampNeg 13) (4 : Int32).toNatClampNeg 6) (5 : Int32).toNatClampNeg 9) (6 : Int32).toNatClampNeg 96) (7 : Int32).toNatClampNeg 134) (8 : Int32).toNatClampNeg 72) (9 : Int32).toNatClampNeg 1) (10 : Int32).toNatClampNeg 101) (11 : Int32).toNatClampNeg 3) (12 : Int32).toNatClampNeg 4) (13 : Int32).toNatClampNeg 2) (14 : Int32).toNatClampNeg 1) (15 : Int32).toNatClampNeg 5) (16 : Int32).toNatClampNeg 0) (17 : Int32).toNatClampNeg 4) (18 : Int32).toNatClampNeg 32)) := by rw [he_416]; exact up_self
  have hF_418 : F_415 h0 = .inr (15, (.ref q_1) :: (.int 0) :: (.int 0) :: (.int 0) :: (.ref q_6) :: (.ref q_11) :: (.ref q_16) :: (.ref q_21) :: (.ref q_27) :: (.ref q_34) :: (.ref q_42) :: (.int 0) :: (.int 0) :: (.ref q_50) :: (.int 0) :: (.int 0) :: (.ref q_58) :: (.int 0) :: (.int 0) :: (.int 0) :: (.int 0) :: (.int 0) :: (.int 0) :: (.ref q_67) :: (.ref q_75) :: (.ref q_83) :: (.ref q_91) :: (.ref q_99) :: (.ref q_107) :: (.ref q_115) :: (.int 0) :: (.int 0) :: (.int 0) :: (.int 0) :: (.ref q_123) :: (.ref q_132) :: (.ref q_144) :: (.ref q_156) :: (.ref q_168) :: (.ref q_181) :: (.ref q_189) :: (.ref q_197) :: (.ref q_205) :: (.ref q_213) :: (.ref q_221) :: (.ref q_229) :: (.ref q_237) :: (.ref q_245) :: (.ref q_253) :: (.ref q_261) :: (.ref q_270) :: (.ref q_279) :: (.int 0) :: (.int 0) :: (.int 0) :: (.null) :: (.null) :: (.null) :: (.null) :: []) := by rw [he_416, up_ne hne_h0_q_287]; exact hF_411
  have hF_419 : F_415 q_21 = .inl (cs 23, 40, .inr (.inr (.inr (.inr (fun _ => none))))) := by rw [he_416, up_ne hne_q_21_q_287]; exact hF_412
  have hF_420 : F_415 q_27 = .inl (cs 23, 40, .inr (.inr (.inr (.inr (fun _ => none))))) := by rw [he_416, up_ne hne_q_27_q_287]; exact hF_413
  have hF_421 : F_415 q_50 = .inl (cs 23, 13, .inr (.inr (.inr (.inr (fun _ => none))))) := by rw [he_416, up_ne hne_q_50_q_287]; exact hF_414
  have hr9 : (ty q_287).1 = 99 := by rw [hT_q_287]
  have hN9 : NEWm (dC, dI) cs (rtf ty q_287 (28, ρ + 27, [19])) gm L F_415 A H := NEWm.into ⟨hP, hD, hO, hW⟩ hr9 (by rw [hF_417]; exact shm.kst rtf_self ⟨_, rfl, by decide +kernel⟩) (wtam_kst rtf_self trivial)
  obtain ⟨ty, hty9, hN9, hfs, hT_h0, hT_q_21, hT_q_27, hT_q_50⟩ : ∃ t9 : TyM, t9 = rtf ty q_287 (28, ρ + 27, [19]) ∧ NEWm (dC, dI) cs t9 gm L F_415 A H ∧ (∀ p ∈ ((q_287, (28, ρ + 27, [19])) :: (q_279, (18, ρ + 26, [20])) :: (q_270, (14, ρ + 25, [r_271, 3000])) :: (q_261, (14, ρ + 24, [r_262, 6000])) :: (q_253, (17, ρ + 23, [64])) :: (q_245, (17, ρ + 22, [64])) :: (q_237, (17, ρ + 21, [64])) :: (q_229, (17, ρ + 20, [32])) :: (q_221, (17, ρ + 19, [32])) :: (q_213, (16, ρ + 90, [33])) :: (q_205, (16, ρ + 89, [66])) :: (q_197, (16, ρ + 88, [33])) :: (q_189, (16, ρ + 87, [33])) :: (q_181, (16, ρ + 18, [33])) :: (q_168, (12, ρ + 17, [x_169, y_170, w_171, u9_172, bl_173])) :: (q_156, (13, ρ + 15, [x_157, 700, 700, y0_158, y1_159, y2_160])) :: (q_144, (13, ρ + 13, [x_145, 700, 700, y0_146, y1_147, y2_148])) :: (q_132, (13, ρ + 11, [x_133, 3000, 1280, y0_134, y1_135, y2_136])) :: (q_123, (14, ρ + 10, [r_124, 6000])) :: (q_115, (25, ρ + 9, [21, 1280])) :: (q_107, (25, ρ + 9, [21, 1280])) :: (q_99, (25, ρ + 9, [21, 1280])) :: (q_91, (26, ρ + 8, [2])) :: (q_83, (26, ρ + 8, [1])) :: (q_75, (26, ρ + 8, [0])) :: (q_67, (17, ρ + 8, [3000])) :: (q_58, (14, ρ + 7, [r_59, 100])) :: (q_42, (14, ρ + 32, [r_43, 60])) :: (q_34, (14, ρ + 5, [r_35, 30])) :: (q_16, (16, ρ + 31, [40])) :: (q_11, (16, ρ + 3, [40])) :: (q_6, (17, ρ + 2, [6000])) :: (q_1, (17, ρ + 1, [3000])) :: [] : List (Nat × TyE)), p.1 ∈ L ∧ t9 p.1 = p.2) ∧ t9 h0 = (99, 0, []) ∧ t9 q_21 = (99, 0, []) ∧ t9 q_27 = (99, 0, []) ∧ t9 q_50 = (99, 0, []) := ⟨_, rfl, hN9, into_fs hr9 hfs (fs_nek (show (18 : Nat) ≠ 99 by decide) (fs_nek (show (14 : Nat) ≠ 99 by decide) (fs_nek (show (14 : Nat) ≠ 99 by decide) (fs_nek (show (17 : Nat) ≠ 99 by decide) (fs_nek (show (17 : Nat) ≠ 99 by decide) (fs_nek (show (17 : Nat) ≠ 99 by decide) (fs_nek (show (17 : Nat) ≠ 99 by decide) (fs_nek (show (17 : Nat) ≠ 99 by decide) (fs_nek (show (16 : Nat) ≠ 99 by decide) (fs_nek (show (16 : Nat) ≠ 99 by decide) (fs_nek (show (16 : Nat) ≠ 99 by decide) (fs_nek (show (16 : Nat) ≠ 99 by decide) (fs_nek (show (16 : Nat) ≠ 99 by decide) (fs_nek (show (12 : Nat) ≠ 99 by decide) (fs_nek (show (13 : Nat) ≠ 99 by decide) (fs_nek (show (13 : Nat) ≠ 99 by decide) (fs_nek (show (13 : Nat) ≠ 99 by decide) (fs_nek (show (14 : Nat) ≠ 99 by decide) (fs_nek (show (25 : Nat) ≠ 99 by decide) (fs_nek (show (25 : Nat) ≠ 99 by decide) (fs_nek (show (25 : Nat) ≠ 99 by decide) (fs_nek (show (26 : Nat) ≠ 99 by decide) (fs_nek (show (26 : Nat) ≠ 99 by decide) (fs_nek (show (26 : Nat) ≠ 99 by decide) (fs_nek (show (17 : Nat) ≠ 99 by decide) (fs_nek (show (14 : Nat) ≠ 99 by decide) (fs_nek (show (14 : Nat) ≠ 99 by decide) (fs_nek (show (14 : Nat) ≠ 99 by decide) (fs_nek (show (16 : Nat) ≠ 99 by decide) (fs_nek (show (16 : Nat) ≠ 99 by decide) (fs_nek (show (17 : Nat) ≠ 99 by decide) (fs_nek (show (17 : Nat) ≠ 99 by decide) (fun _ h => absurd h List.not_mem_nil))))))))))))))))))))))))))))))))) hL_q_287, (rtf_ne hne_h0_q_287).trans hT_h0, (rtf_ne hne_q_21_q_287).trans hT_q_21, (rtf_ne hne_q_27_q_287).trans hT_q_27, (rtf_ne hne_q_50_q_287).trans hT_q_50⟩
  obtain ⟨hP, hD, hO, hW⟩ := hN9
  refine pg_putF (ci := 15) (v := .ref q_287) (ty := .array .int) (C := RX15) (T := TX15) (N := 59) hx hb hts it_15 tyX15 tyX15_ok nmX15 hown hK hP hD hS hL_h0 hF_418 rfl 55 (by decide) (hts _ kt_923) (fun _ h9 => h9) rfl hin rfl (by decide +kernel) (rfl) (rfl) (Nat.le_of_ble_eq_true rfl) dX15_init_450 (fun H locs hP hD hS => ?_)
  obtain ⟨F_422, he_423, hP, hD, hO⟩ : ∃ G, G = va_up F_415 h0 (.inr (15, (.ref q_1) :: (.int 0) :: (.int 0) :: (.int 0) :: (.ref q_6) :: (.ref q_11) :: (.ref q_16) :: (.ref q_21) :: (.ref q_27) :: (.ref q_34) :: (.ref q_42) :: (.int 0) :: (.int 0) :: (.ref q_50) :: (.int 0) :: (.int 0) :: (.ref q_58) :: (.int 0) :: (.int 0) :: (.int 0) :: (.int 0) :: (.int 0) :: (.int 0) :: (.ref q_67) :: (.ref q_75) :: (.ref q_83) :: (.ref q_91) :: (.ref q_99) :: (.ref q_107) :: (.ref q_115) :: (.int 0) :: (.int 0) :: (.int 0) :: (.int 0) :: (.ref q_123) :: (.ref q_132) :: (.ref q_144) :: (.ref q_156) :: (.ref q_168) :: (.ref q_181) :: (.ref q_189) :: (.ref q_197) :: (.ref q_205) :: (.ref q_213) :: (.ref q_221) :: (.ref q_229) :: (.ref q_237) :: (.ref q_245) :: (.ref q_253) :: (.ref q_261) :: (.ref q_270) :: (.ref q_279) :: (.int 0) :: (.int 0) :: (.int 0) :: (.ref q_287) :: (.null) :: (.null) :: (.null) :: [])) ∧ va_P (dC, dI) vwCl (va_pl L G) H ∧ va_D A (va_pl L G) ∧ OKm cs ty gm L G := ⟨_, rfl, hP, hD, hO.up (shm.raw hT_h0)⟩
  have hF_424 : F_422 h0 = .inr (15, (.ref q_1) :: (.int 0) :: (.int 0) :: (.int 0) :: (.ref q_6) :: (.ref q_11) :: (.ref q_16) :: (.ref q_21) :: (.ref q_27) :: (.ref q_34) :: (.ref q_42) :: (.int 0) :: (.int 0) :: (.ref q_50) :: (.int 0) :: (.int 0) :: (.ref q_58) :: (.int 0) :: (.int 0) :: (.int 0) :: (.int 0) :: (.int 0) :: (.int 0) :: (.ref q_67) :: (.ref q_75) :: (.ref q_83) :: (.ref q_91) :: (.ref q_99) :: (.ref q_107) :: (.ref q_115) :: (.int 0) :: (.int 0) :: (.int 0) :: (.int 0) :: (.ref q_123) :: (.ref q_132) :: (.ref q_144) :: (.ref q_156) :: (.ref q_168) :: (.ref q_181) :: (.ref q_189) :: (.ref q_197) :: (.ref q_205) :: (.ref q_213) :: (.ref q_221) :: (.ref q_229) :: (.ref q_237) :: (.ref q_245) :: (.ref q_253) :: (.ref q_261) :: (.ref q_270) :: (.ref q_279) :: (.int 0) :: (.int 0) :: (.int 0) :: (.ref q_287) :: (.null) :: (.null) :: (.null) :: []) := by rw [he_423]; exact up_self
  have hF_425 : F_422 q_21 = .inl (cs 23, 40, .inr (.inr (.inr (.inr (fun _ => none))))) := by rw [he_423, up_ne hne_h0_q_21.symm]; exact hF_419
  have hF_426 : F_422 q_27 = .inl (cs 23, 40, .inr (.inr (.inr (.inr (fun _ => none))))) := by rw [he_423, up_ne hne_h0_q_27.symm]; exact hF_420
  have hF_427 : F_422 q_50 = .inl (cs 23, 13, .inr (.inr (.inr (.inr (fun _ => none))))) := by rw [he_423, up_ne hne_h0_q_50.symm]; exact hF_421
  refine lv_aload_n hx hb dX15_init_453 rfl (lv_at hl 0 rfl) ?_
  refine va_new (ci := 14) (fs := [.null, .int 0]) (C := RX14) (T := TX14) (N := 2) hx hb hts it_14 tyX14 tyX14_ok hown (hts _ kt_1121) (hts _ kt_1035) (hts _ kt_676) hK hP hD hS hA rfl df_14 (by show _ + 1 ≤ 254; omega) (by show _ + 2 ≤ 82375; omega) dX15_init_454 (fun q_428 H hPa hDa hS => ?_)
  have hP := left1 hPa
  have hD := left2 hDa
  refine lv_dup hx hb dX15_init_457 rfl ?_
  refine lv_sipush (v := 6000) hx hb dX15_init_458 (by decide) ?_
  refine W.eq (g2 := F0 m 461 ls [.int (nI 6000), .ref q_428, .ref q_428, .ref h0]) rfl ?_
  have hFc := free1 hDa hS hA
  have hPq := right1 hPa
  refine va_callv (va_runI (As := [.int (nI 6000)]) (rest := [.ref q_428, .ref h0]) ⟨hx, hb, hml, hown, hts⟩ (k_X14_init l dC dI cs gm H.size q_428 6000 (ρ + 28) (by omega)) ⟨callB_of 1 hts (gi kt_1036) rfl rfl rfl (hts _ kt_676) (hts _ kt_1122) (by decide +kernel) ⟨Nat.le_of_ble_eq_true rfl, Nat.le_of_ble_eq_true rfl⟩, rfl, (hts _ kt_1038)⟩ ⟨fun a U g mk q => ⟨q.1, PTm.calling q.2⟩, fun U hU hWm => ⟨rfl, PTm.mk hU hWm hPq hK one1 hE (fun a _ => shm.raw rfl)⟩⟩ rfl rfl hl.1 rfl (lv_room (Nat.le_of_ble_eq_true rfl)) dX15_init_461 ⟨by show _ + 1 ≤ 254; omega, by show _ + 6000 ≤ 82375; omega⟩) hS (fun q _ h => hFc q h) hFc (fun u t H1 locs ht hvm hw hB hz1 hk1 hS => ?_)
  obtain ⟨L2, F2, ty2, r_429, hN2, hc1, hc2⟩ := hB
  rw [ht] at hN2
  obtain ⟨L, ty, F_430, hN9, hold, holdF, hnew, hnewF⟩ := join1m hPa hDa hO hW hk1 hFc hN2
  obtain ⟨hP, hD, hO, hW⟩ := hN9
  generalize H1 = H at hP hS ⊢
  have hL_q_428 := (hnew _ hc1).1
  have hT_q_428 := (hnew _ hc1).2.trans hc2
  replace hT_h0 := (hold _ hL_h0).2.trans hT_h0
  have hF_h0 := (holdF _ hL_h0).1.trans hF_424
  replace hL_h0 := (hold _ hL_h0).1
  replace hT_q_21 := (hold _ hL_q_21).2.trans hT_q_21
  have hF_q_21 := (holdF _ hL_q_21).1.trans hF_425
  replace hL_q_21 := (hold _ hL_q_21).1
  replace hT_q_27 := (hold _ hL_q_27).2.trans hT_q_27
  have hF_q_27 := (holdF _ hL_q_27).1.trans hF_426
  replace hL_q_27 := (hold _ hL_q_27).1
  replace hT_q_50 := (hold _ hL_q_50).2.trans hT_q_50
  have hF_q_50 := (holdF _ hL_q_50).1.trans hF_427
  replace hL_q_50 := (hold _ hL_q_50).1
  replace hfs := gr_cons hold hfs hL_q_428 hT_q_428
  refine pg_putF (ci := 15) (v := .ref q_428) (ty := .object "PostGateModel$Text") (C := RX15) (T := TX15) (N := 59) hx hb hts it_15 tyX15 tyX15_ok nmX15 hown hK hP hD hS hL_h0 hF_h0 rfl 56 (by decide) (hts _ kt_993) (fun _ h9 => h9) rfl hin rfl (by decide +kernel) (rfl) (rfl) (Nat.le_of_ble_eq_true rfl) dX15_init_464 (fun H locs hP hD hS => ?_)
  obtain ⟨F_431, he_432, hP, hD, hO⟩ : ∃ G, G = va_up F_430 h0 (.inr (15, (.ref q_1) :: (.int 0) :: (.int 0) :: (.int 0) :: (.ref q_6) :: (.ref q_11) :: (.ref q_16) :: (.ref q_21) :: (.ref q_27) :: (.ref q_34) :: (.ref q_42) :: (.int 0) :: (.int 0) :: (.ref q_50) :: (.int 0) :: (.int 0) :: (.ref q_58) :: (.int 0) :: (.int 0) :: (.int 0) :: (.int 0) :: (.int 0) :: (.int 0) :: (.ref q_67) :: (.ref q_75) :: (.ref q_83) :: (.ref q_91) :: (.ref q_99) :: (.ref q_107) :: (.ref q_115) :: (.int 0) :: (.int 0) :: (.int 0) :: (.int 0) :: (.ref q_123) :: (.ref q_132) :: (.ref q_144) :: (.ref q_156) :: (.ref q_168) :: (.ref q_181) :: (.ref q_189) :: (.ref q_197) :: (.ref q_205) :: (.ref q_213) :: (.ref q_221) :: (.ref q_229) :: (.ref q_237) :: (.ref q_245) :: (.ref q_253) :: (.ref q_261) :: (.ref q_270) :: (.ref q_279) :: (.int 0) :: (.int 0) :: (.int 0) :: (.ref q_287) :: (.ref q_428) :: (.null) :: (.null) :: [])) ∧ va_P (dC, dI) vwCl (va_pl L G) H ∧ va_D A (va_pl L G) ∧ OKm cs ty gm L G := ⟨_, rfl, hP, hD, hO.up (shm.raw hT_h0)⟩
  have hF_433 : F_431 h0 = .inr (15, (.ref q_1) :: (.int 0) :: (.int 0) :: (.int 0) :: (.ref q_6) :: (.ref q_11) :: (.ref q_16) :: (.ref q_21) :: (.ref q_27) :: (.ref q_34) :: (.ref q_42) :: (.int 0) :: (.int 0) :: (.ref q_50) :: (.int 0) :: (.int 0) :: (.ref q_58) :: (.int 0) :: (.int 0) :: (.int 0) :: (.int 0) :: (.int 0) :: (.int 0) :: (.ref q_67) :: (.ref q_75) :: (.ref q_83) :: (.ref q_91) :: (.ref q_99) :: (.ref q_107) :: (.ref q_115) :: (.int 0) :: (.int 0) :: (.int 0) :: (.int 0) :: (.ref q_123) :: (.ref q_132) :: (.ref q_144) :: (.ref q_156) :: (.ref q_168) :: (.ref q_181) :: (.ref q_189) :: (.ref q_197) :: (.ref q_205) :: (.ref q_213) :: (.ref q_221) :: (.ref q_229) :: (.ref q_237) :: (.ref q_245) :: (.ref q_253) :: (.ref q_261) :: (.ref q_270) :: (.ref q_279) :: (.int 0) :: (.int 0) :: (.int 0) :: (.ref q_287) :: (.ref q_428) :: (.null) :: (.null) :: []) := by rw [he_432]; exact up_self
  have hF_434 : F_431 q_21 = .inl (cs 23, 40, .inr (.inr (.inr (.inr (fun _ => none))))) := by rw [he_432, up_ne hne_h0_q_21.symm]; exact hF_q_21
  have hF_435 : F_431 q_27 = .inl (cs 23, 40, .inr (.inr (.inr (.inr (fun _ => none))))) := by rw [he_432, up_ne hne_h0_q_27.symm]; exact hF_q_27
  have hF_436 : F_431 q_50 = .inl (cs 23, 13, .inr (.inr (.inr (.inr (fun _ => none))))) := by rw [he_432, up_ne hne_h0_q_50.symm]; exact hF_q_50
  refine lv_aload_n hx hb dX15_init_467 rfl (lv_at hl 0 rfl) ?_
  refine va_new (ci := 14) (fs := [.null, .int 0]) (C := RX14) (T := TX14) (N := 2) hx hb hts it_14 tyX14 tyX14_ok hown (hts _ kt_1121) (hts _ kt_1035) (hts _ kt_676) hK hP hD hS hA rfl df_14 (by show _ + 1 ≤ 254; omega) (by show _ + 2 ≤ 82375; omega) dX15_init_468 (fun q_437 H hPa hDa hS => ?_)
  have hP := left1 hPa
  have hD := left2 hDa
  refine lv_dup hx hb dX15_init_471 rfl ?_
  refine lv_sipush (v := 6000) hx hb dX15_init_472 (by decide) ?_
  refine W.eq (g2 := F0 m 475 ls [.int (nI 6000), .ref q_437, .ref q_437, .ref h0]) rfl ?_
  have hFc := free1 hDa hS hA
  have hPq := right1 hPa
  refine va_callv (va_runI (As := [.int (nI 6000)]) (rest := [.ref q_437, .ref h0]) ⟨hx, hb, hml, hown, hts⟩ (k_X14_init l dC dI cs gm H.size q_437 6000 (ρ + 29) (by omega)) ⟨callB_of 1 hts (gi kt_1036) rfl rfl rfl (hts _ kt_676) (hts _ kt_1122) (by decide +kernel) ⟨Nat.le_of_ble_eq_true rfl, Nat.le_of_ble_eq_true rfl⟩, rfl, (hts _ kt_1038)⟩ ⟨fun a U g mk q => ⟨q.1, PTm.calling q.2⟩, fun U hU hWm => ⟨rfl, PTm.mk hU hWm hPq hK one1 hE (fun a _ => shm.raw rfl)⟩⟩ rfl rfl hl.1 rfl (lv_room (Nat.le_of_ble_eq_true rfl)) dX15_init_475 ⟨by show _ + 1 ≤ 254; omega, by show _ + 6000 ≤ 82375; omega⟩) hS (fun q _ h => hFc q h) hFc (fun u t H1 locs ht hvm hw hB hz1 hk1 hS => ?_)
  obtain ⟨L2, F2, ty2, r_438, hN2, hc1, hc2⟩ := hB
  rw [ht] at hN2
  obtain ⟨L, ty, F_439, hN9, hold, holdF, hnew, hnewF⟩ := join1m hPa hDa hO hW hk1 hFc hN2
  obtain ⟨hP, hD, hO, hW⟩ := hN9
  generalize H1 = H at hP hS ⊢
  have hL_q_437 := (hnew _ hc1).1
  have hT_q_437 := (hnew _ hc1).2.trans hc2
  replace hT_h0 := (hold _ hL_h0).2.trans hT_h0
  have hF_h0 := (holdF _ hL_h0).1.trans hF_433
  replace hL_h0 := (hold _ hL_h0).1
  replace hT_q_21 := (hold _ hL_q_21).2.trans hT_q_21
  have hF_q_21 := (holdF _ hL_q_21).1.trans hF_434
  replace hL_q_21 := (hold _ hL_q_21).1
  replace hT_q_27 := (hold _ hL_q_27).2.trans hT_q_27
  have hF_q_27 := (holdF _ hL_q_27).1.trans hF_435
  replace hL_q_27 := (hold _ hL_q_27).1
  replace hT_q_50 := (hold _ hL_q_50).2.trans hT_q_50
  have hF_q_50 := (holdF _ hL_q_50).1.trans hF_436
  replace hL_q_50 := (hold _ hL_q_50).1
  replace hfs := gr_cons hold hfs hL_q_437 hT_q_437
  refine pg_putF (ci := 15) (v := .ref q_437) (ty := .object "PostGateModel$Text") (C := RX15) (T := TX15) (N := 59) hx hb hts it_15 tyX15 tyX15_ok nmX15 hown hK hP hD hS hL_h0 hF_h0 rfl 57 (by decide) (hts _ kt_950) (fun _ h9 => h9) rfl hin rfl (by decide +kernel) (rfl) (rfl) (Nat.le_of_ble_eq_true rfl) dX15_init_478 (fun H locs hP hD hS => ?_)
  obtain ⟨F_440, he_441, hP, hD, hO⟩ : ∃ G, G = va_up F_439 h0 (.inr (15, (.ref q_1) :: (.int 0) :: (.int 0) :: (.int 0) :: (.ref q_6) :: (.ref q_11) :: (.ref q_16) :: (.ref q_21) :: (.ref q_27) :: (.ref q_34) :: (.ref q_42) :: (.int 0) :: (.int 0) :: (.ref q_50) :: (.int 0) :: (.int 0) :: (.ref q_58) :: (.int 0) :: (.int 0) :: (.int 0) :: (.int 0) :: (.int 0) :: (.int 0) :: (.ref q_67) :: (.ref q_75) :: (.ref q_83) :: (.ref q_91) :: (.ref q_99) :: (.ref q_107) :: (.ref q_115) :: (.int 0) :: (.int 0) :: (.int 0) :: (.int 0) :: (.ref q_123) :: (.ref q_132) :: (.ref q_144) :: (.ref q_156) :: (.ref q_168) :: (.ref q_181) :: (.ref q_189) :: (.ref q_197) :: (.ref q_205) :: (.ref q_213) :: (.ref q_221) :: (.ref q_229) :: (.ref q_237) :: (.ref q_245) :: (.ref q_253) :: (.ref q_261) :: (.ref q_270) :: (.ref q_279) :: (.int 0) :: (.int 0) :: (.int 0) :: (.ref q_287) :: (.ref q_428) :: (.ref q_437) :: (.null) :: [])) ∧ va_P (dC, dI) vwCl (va_pl L G) H ∧ va_D A (va_pl L G) ∧ OKm cs ty gm L G := ⟨_, rfl, hP, hD, hO.up (shm.raw hT_h0)⟩
  have hF_442 : F_440 h0 = .inr (15, (.ref q_1) :: (.int 0) :: (.int 0) :: (.int 0) :: (.ref q_6) :: (.ref q_11) :: (.ref q_16) :: (.ref q_21) :: (.ref q_27) :: (.ref q_34) :: (.ref q_42) :: (.int 0) :: (.int 0) :: (.ref q_50) :: (.int 0) :: (.int 0) :: (.ref q_58) :: (.int 0) :: (.int 0) :: (.int 0) :: (.int 0) :: (.int 0) :: (.int 0) :: (.ref q_67) :: (.ref q_75) :: (.ref q_83) :: (.ref q_91) :: (.ref q_99) :: (.ref q_107) :: (.ref q_115) :: (.int 0) :: (.int 0) :: (.int 0) :: (.int 0) :: (.ref q_123) :: (.ref q_132) :: (.ref q_144) :: (.ref q_156) :: (.ref q_168) :: (.ref q_181) :: (.ref q_189) :: (.ref q_197) :: (.ref q_205) :: (.ref q_213) :: (.ref q_221) :: (.ref q_229) :: (.ref q_237) :: (.ref q_245) :: (.ref q_253) :: (.ref q_261) :: (.ref q_270) :: (.ref q_279) :: (.int 0) :: (.int 0) :: (.int 0) :: (.ref q_287) :: (.ref q_428) :: (.ref q_437) :: (.null) :: []) := by rw [he_441]; exact up_self
  have hF_443 : F_440 q_21 = .inl (cs 23, 40, .inr (.inr (.inr (.inr (fun _ => none))))) := by rw [he_441, up_ne hne_h0_q_21.symm]; exact hF_q_21
  have hF_444 : F_440 q_27 = .inl (cs 23, 40, .inr (.inr (.inr (.inr (fun _ => none))))) := by rw [he_441, up_ne hne_h0_q_27.symm]; exact hF_q_27
  have hF_445 : F_440 q_50 = .inl (cs 23, 13, .inr (.inr (.inr (.inr (fun _ => none))))) := by rw [he_441, up_ne hne_h0_q_50.symm]; exact hF_q_50
  refine lv_aload_n hx hb dX15_init_481 rfl (lv_at hl 0 rfl) ?_
  refine va_new (ci := 14) (fs := [.null, .int 0]) (C := RX14) (T := TX14) (N := 2) hx hb hts it_14 tyX14 tyX14_ok hown (hts _ kt_1121) (hts _ kt_1035) (hts _ kt_676) hK hP hD hS hA rfl df_14 (by show _ + 1 ≤ 254; omega) (by show _ + 2 ≤ 82375; omega) dX15_init_482 (fun q_446 H hPa hDa hS => ?_)
  have hP := left1 hPa
  have hD := left2 hDa
  refine lv_dup hx hb dX15_init_485 rfl ?_
  refine lv_sipush (v := 6000) hx hb dX15_init_486 (by decide) ?_
  refine W.eq (g2 := F0 m 489 ls [.int (nI 6000), .ref q_446, .ref q_446, .ref h0]) rfl ?_
  have hFc := free1 hDa hS hA
  have hPq := right1 hPa
  refine va_callv (va_runI (As := [.int (nI 6000)]) (rest := [.ref q_446, .ref h0]) ⟨hx, hb, hml, hown, hts⟩ (k_X14_init l dC dI cs gm H.size q_446 6000 (ρ + 30) (by omega)) ⟨callB_of 1 hts (gi kt_1036) rfl rfl rfl (hts _ kt_676) (hts _ kt_1122) (by decide +kernel) ⟨Nat.le_of_ble_eq_true rfl, Nat.le_of_ble_eq_true rfl⟩, rfl, (hts _ kt_1038)⟩ ⟨fun a U g mk q => ⟨q.1, PTm.calling q.2⟩, fun U hU hWm => ⟨rfl, PTm.mk hU hWm hPq hK one1 hE (fun a _ => shm.raw rfl)⟩⟩ rfl rfl hl.1 rfl (lv_room (Nat.le_of_ble_eq_true rfl)) dX15_init_489 ⟨by show _ + 1 ≤ 254; omega, by show _ + 6000 ≤ 82375; omega⟩) hS (fun q _ h => hFc q h) hFc (fun u t H1 locs ht hvm hw hB hz1 hk1 hS => ?_)
  obtain ⟨L2, F2, ty2, r_447, hN2, hc1, hc2⟩ := hB
  rw [ht] at hN2
  obtain ⟨L, ty, F_448, hN9, hold, holdF, hnew, hnewF⟩ := join1m hPa hDa hO hW hk1 hFc hN2
  obtain ⟨hP, hD, hO, hW⟩ := hN9
  generalize H1 = H at hP hS ⊢
  have hL_q_446 := (hnew _ hc1).1
  have hT_q_446 := (hnew _ hc1).2.trans hc2
  replace hT_h0 := (hold _ hL_h0).2.trans hT_h0
  have hF_h0 := (holdF _ hL_h0).1.trans hF_442
  replace hL_h0 := (hold _ hL_h0).1
  replace hT_q_21 := (hold _ hL_q_21).2.trans hT_q_21
  have hF_q_21 := (holdF _ hL_q_21).1.trans hF_443
  replace hL_q_21 := (hold _ hL_q_21).1
  replace hT_q_27 := (hold _ hL_q_27).2.trans hT_q_27
  have hF_q_27 := (holdF _ hL_q_27).1.trans hF_444
  replace hL_q_27 := (hold _ hL_q_27).1
  replace hT_q_50 := (hold _ hL_q_50).2.trans hT_q_50
  have hF_q_50 := (holdF _ hL_q_50).1.trans hF_445
  replace hL_q_50 := (hold _ hL_q_50).1
  replace hfs := gr_cons hold hfs hL_q_446 hT_q_446
  refine pg_putF (ci := 15) (v := .ref q_446) (ty := .object "PostGateModel$Text") (C := RX15) (T := TX15) (N := 59) hx hb hts it_15 tyX15 tyX15_ok nmX15 hown hK hP hD hS hL_h0 hF_h0 rfl 58 (by decide) (hts _ kt_955) (fun _ h9 => h9) rfl hin rfl (by decide +kernel) (rfl) (rfl) (Nat.le_of_ble_eq_true rfl) dX15_init_492 (fun H locs hP hD hS => ?_)
  obtain ⟨F_449, he_450, hP, hD, hO⟩ : ∃ G, G = va_up F_448 h0 (.inr (15, (.ref q_1) :: (.int 0) :: (.int 0) :: (.int 0) :: (.ref q_6) :: (.ref q_11) :: (.ref q_16) :: (.ref q_21) :: (.ref q_27) :: (.ref q_34) :: (.ref q_42) :: (.int 0) :: (.int 0) :: (.ref q_50) :: (.int 0) :: (.int 0) :: (.ref q_58) :: (.int 0) :: (.int 0) :: (.int 0) :: (.int 0) :: (.int 0) :: (.int 0) :: (.ref q_67) :: (.ref q_75) :: (.ref q_83) :: (.ref q_91) :: (.ref q_99) :: (.ref q_107) :: (.ref q_115) :: (.int 0) :: (.int 0) :: (.int 0) :: (.int 0) :: (.ref q_123) :: (.ref q_132) :: (.ref q_144) :: (.ref q_156) :: (.ref q_168) :: (.ref q_181) :: (.ref q_189) :: (.ref q_197) :: (.ref q_205) :: (.ref q_213) :: (.ref q_221) :: (.ref q_229) :: (.ref q_237) :: (.ref q_245) :: (.ref q_253) :: (.ref q_261) :: (.ref q_270) :: (.ref q_279) :: (.int 0) :: (.int 0) :: (.int 0) :: (.ref q_287) :: (.ref q_428) :: (.ref q_437) :: (.ref q_446) :: [])) ∧ va_P (dC, dI) vwCl (va_pl L G) H ∧ va_D A (va_pl L G) ∧ OKm cs ty gm L G := ⟨_, rfl, hP, hD, hO.up (shm.raw hT_h0)⟩
  have hF_451 : F_449 h0 = .inr (15, (.ref q_1) :: (.int 0) :: (.int 0) :: (.int 0) :: (.ref q_6) :: (.ref q_11) :: (.ref q_16) :: (.ref q_21) :: (.ref q_27) :: (.ref q_34) :: (.ref q_42) :: (.int 0) :: (.int 0) :: (.ref q_50) :: (.int 0) :: (.int 0) :: (.ref q_58) :: (.int 0) :: (.int 0) :: (.int 0) :: (.int 0) :: (.int 0) :: (.int 0) :: (.ref q_67) :: (.ref q_75) :: (.ref q_83) :: (.ref q_91) :: (.ref q_99) :: (.ref q_107) :: (.ref q_115) :: (.int 0) :: (.int 0) :: (.int 0) :: (.int 0) :: (.ref q_123) :: (.ref q_132) :: (.ref q_144) :: (.ref q_156) :: (.ref q_168) :: (.ref q_181) :: (.ref q_189) :: (.ref q_197) :: (.ref q_205) :: (.ref q_213) :: (.ref q_221) :: (.ref q_229) :: (.ref q_237) :: (.ref q_245) :: (.ref q_253) :: (.ref q_261) :: (.ref q_270) :: (.ref q_279) :: (.int 0) :: (.int 0) :: (.int 0) :: (.ref q_287) :: (.ref q_428) :: (.ref q_437) :: (.ref q_446) :: []) := by rw [he_450]; exact up_self
  have hF_452 : F_449 q_21 = .inl (cs 23, 40, .inr (.inr (.inr (.inr (fun _ => none))))) := by rw [he_450, up_ne hne_h0_q_21.symm]; exact hF_q_21
  have hF_453 : F_449 q_27 = .inl (cs 23, 40, .inr (.inr (.inr (.inr (fun _ => none))))) := by rw [he_450, up_ne hne_h0_q_27.symm]; exact hF_q_27
  have hF_454 : F_449 q_50 = .inl (cs 23, 13, .inr (.inr (.inr (.inr (fun _ => none))))) := by rw [he_450, up_ne hne_h0_q_50.symm]; exact hF_q_50
  refine lv_iconst (v := 0) hx hb dX15_init_495 (by decide) ?_
  refine lv_istore_n (lv' := [(1, .int 0), (0, .ref h0)]) hx hb dX15_init_496 rfl hl (by decide) rfl (fun ls hl => ?_)
  refine W.widen (k := 68 + 4 * 0) (n := 50996 + 764 * 0) (by omega) (by omega) ?_
  refine gr_loopm (σ := Nat × (Nat → Option Nat) × (Nat → Option Nat)) A (dC, dI) cs gm 497 2 (fun (j, fa, fb) => [(1, .int (nI j)), (0, .ref h0)]) (fun (j, fa, fb) => []) (fun (j, fa, fb) => 68 + 4 * j) (fun (j, fa, fb) => 50996 + 764 * j) (fun (j, fa, fb) ty L FF => (j ≤ 40 ∧ FILJ (fun j9 e9 => ∃ r9, e9 = (14, ρ + 4 + j9 + 100, [r9, 60])) L ty fa j ∧ FILJ (fun j9 e9 => ∃ r9, e9 = (14, ρ + 50 + j9 + 100, [r9, 700])) L ty fb j) ∧ h0 ∈ L ∧ ty h0 = (99, 0, []) ∧ FF h0 = .inr (15, (.ref q_1) :: (.int 0) :: (.int 0) :: (.int 0) :: (.ref q_6) :: (.ref q_11) :: (.ref q_16) :: (.ref q_21) :: (.ref q_27) :: (.ref q_34) :: (.ref q_42) :: (.int 0) :: (.int 0) :: (.ref q_50) :: (.int 0) :: (.int 0) :: (.ref q_58) :: (.int 0) :: (.int 0) :: (.int 0) :: (.int 0) :: (.int 0) :: (.int 0) :: (.ref q_67) :: (.ref q_75) :: (.ref q_83) :: (.ref q_91) :: (.ref q_99) :: (.ref q_107) :: (.ref q_115) :: (.int 0) :: (.int 0) :: (.int 0) :: (.int 0) :: (.ref q_123) :: (.ref q_132) :: (.ref q_144) :: (.ref q_156) :: (.ref q_168) :: (.ref q_181) :: (.ref q_189) :: (.ref q_197) :: (.ref q_205) :: (.ref q_213) :: (.ref q_221) :: (.ref q_229) :: (.ref q_237) :: (.ref q_245) :: (.ref q_253) :: (.ref q_261) :: (.ref q_270) :: (.ref q_279) :: (.int 0) :: (.int 0) :: (.int 0) :: (.ref q_287) :: (.ref q_428) :: (.ref q_437) :: (.ref q_446) :: []) ∧ q_21 ∈ L ∧ ty q_21 = (99, 0, []) ∧ FF q_21 = .inl (cs 23, 40, .inr (.inr (.inr (.inr fa)))) ∧ q_27 ∈ L ∧ ty q_27 = (99, 0, []) ∧ FF q_27 = .inl (cs 23, 40, .inr (.inr (.inr (.inr fb)))) ∧ q_50 ∈ L ∧ ty q_50 = (99, 0, []) ∧ FF q_50 = .inl (cs 23, 13, .inr (.inr (.inr (.inr (fun _ => none))))) ∧ (∀ p ∈ ((q_446, (14, ρ + 30, [r_447, 6000])) :: (q_437, (14, ρ + 29, [r_438, 6000])) :: (q_428, (14, ρ + 28, [r_429, 6000])) :: (q_287, (28, ρ + 27, [19])) :: (q_279, (18, ρ + 26, [20])) :: (q_270, (14, ρ + 25, [r_271, 3000])) :: (q_261, (14, ρ + 24, [r_262, 6000])) :: (q_253, (17, ρ + 23, [64])) :: (q_245, (17, ρ + 22, [64])) :: (q_237, (17, ρ + 21, [64])) :: (q_229, (17, ρ + 20, [32])) :: (q_221, (17, ρ + 19, [32])) :: (q_213, (16, ρ + 90, [33])) :: (q_205, (16, ρ + 89, [66])) :: (q_197, (16, ρ + 88, [33])) :: (q_189, (16, ρ + 87, [33])) :: (q_181, (16, ρ + 18, [33])) :: (q_168, (12, ρ + 17, [x_169, y_170, w_171, u9_172, bl_173])) :: (q_156, (13, ρ + 15, [x_157, 700, 700, y0_158, y1_159, y2_160])) :: (q_144, (13, ρ + 13, [x_145, 700, 700, y0_146, y1_147, y2_148])) :: (q_132, (13, ρ + 11, [x_133, 3000, 1280, y0_134, y1_135, y2_136])) :: (q_123, (14, ρ + 10, [r_124, 6000])) :: (q_115, (25, ρ + 9, [21, 1280])) :: (q_107, (25, ρ + 9, [21, 1280])) :: (q_99, (25, ρ + 9, [21, 1280])) :: (q_91, (26, ρ + 8, [2])) :: (q_83, (26, ρ + 8, [1])) :: (q_75, (26, ρ + 8, [0])) :: (q_67, (17, ρ + 8, [3000])) :: (q_58, (14, ρ + 7, [r_59, 100])) :: (q_42, (14, ρ + 32, [r_43, 60])) :: (q_34, (14, ρ + 5, [r_35, 30])) :: (q_16, (16, ρ + 31, [40])) :: (q_11, (16, ρ + 3, [40])) :: (q_6, (17, ρ + 2, [6000])) :: (q_1, (17, ρ + 1, [3000])) :: [] : List (Nat × TyE)), p.1 ∈ L ∧ ty p.1 = p.2)) (fun (j, fa, fb) => 40 - j) ?_ (0, (fun _ => none), (fun _ => none)) ty L F_449 ⟨⟨by omega, FILJ.nil, FILJ.nil⟩, hL_h0, hT_h0, hF_451, hL_q_21, hT_q_21, hF_452, hL_q_27, hT_q_27, hF_453, hL_q_50, hT_q_50, hF_454, hfs⟩ _ _ ⟨hP, hD, hO, hW⟩ hS ls (lv_sub hl [0, 1] rfl)
  rintro ⟨j, fa, fb⟩ ty L F_455 hv_456 ih_457 H locs hN9 hS ls hl
  have hl : lv_has ls 2 [(1, .int (nI j)), (0, .ref h0)] := hl
  obtain ⟨hu, hL_h0, hT_h0, hF_h0, hL_q_21, hT_q_21, hF_q_21, hL_q_27, hT_q_27, hF_q_27, hL_q_50, hT_q_50, hF_q_50, hfs⟩ := hv_456
  have hu : j ≤ 40 ∧ FILJ (fun j9 e9 => ∃ r9, e9 = (14, ρ + 4 + j9 + 100, [r9, 60])) L ty fa j ∧ FILJ (fun j9 e9 => ∃ r9, e9 = (14, ρ + 50 + j9 + 100, [r9, 700])) L ty fb j := hu
  obtain ⟨hP, hD, hO, hW⟩ := hN9
  refine W.eq (g2 := F0 m 497 ls []) rfl ?_
  refine W.widen (k := 68 + 4 * j) (n := 50996 + 764 * j) (Nat.le_refl _) (Nat.le_refl _) ?_
  obtain ⟨hu1, hu2, hu3⟩ := hu
  refine lv_iload_n hx hb dX15_init_497 rfl (lv_at hl 0 rfl) ?_
  refine lv_bipush (v := 40) hx hb dX15_init_498 (by decide) ?_
  refine lv_icmp_ge (tgt := 540) hx hb dX15_init_500 (by decide) (fun c_458 => ?_) (fun c_458 => ?_)
  ·
    have hi_459 : 40 ≤ j := leN (N := 40) c_458
    obtain rfl : j = 40 := by omega
    have hr9 : (ty q_21).1 = 99 := by rw [hT_q_21]
    have hN9 : NEWm (dC, dI) cs (rtf ty q_21 (27, ρ + 4, [40, 60])) gm L F_455 A H := NEWm.into ⟨hP, hD, hO, hW⟩ hr9 (by rw [hF_q_21]; exact shm.rtxj rtf_self ⟨_, rfl, fun i hi => by obtain ⟨b, h1, h2, r9, h3⟩ := hu2 i (by omega); exact ⟨b, r9, h1, h2, rtf_old hr9 h3 (by decide)⟩⟩) (wtam_rtxj rtf_self trivial)
    obtain ⟨ty, hty9, hN9, hfs, hT_h0, hT_q_27, hT_q_50⟩ : ∃ t9 : TyM, t9 = rtf ty q_21 (27, ρ + 4, [40, 60]) ∧ NEWm (dC, dI) cs t9 gm L F_455 A H ∧ (∀ p ∈ ((q_21, (27, ρ + 4, [40, 60])) :: (q_446, (14, ρ + 30, [r_447, 6000])) :: (q_437, (14, ρ + 29, [r_438, 6000])) :: (q_428, (14, ρ + 28, [r_429, 6000])) :: (q_287, (28, ρ + 27, [19])) :: (q_279, (18, ρ + 26, [20])) :: (q_270, (14, ρ + 25, [r_271, 3000])) :: (q_261, (14, ρ + 24, [r_262, 6000])) :: (q_253, (17, ρ + 23, [64])) :: (q_245, (17, ρ + 22, [64])) :: (q_237, (17, ρ + 21, [64])) :: (q_229, (17, ρ + 20, [32])) :: (q_221, (17, ρ + 19, [32])) :: (q_213, (16, ρ + 90, [33])) :: (q_205, (16, ρ + 89, [66])) :: (q_197, (16, ρ + 88, [33])) :: (q_189, (16, ρ + 87, [33])) :: (q_181, (16, ρ + 18, [33])) :: (q_168, (12, ρ + 17, [x_169, y_170, w_171, u9_172, bl_173])) :: (q_156, (13, ρ + 15, [x_157, 700, 700, y0_158, y1_159, y2_160])) :: (q_144, (13, ρ + 13, [x_145, 700, 700, y0_146, y1_147, y2_148])) :: (q_132, (13, ρ + 11, [x_133, 3000, 1280, y0_134, y1_135, y2_136])) :: (q_123, (14, ρ + 10, [r_124, 6000])) :: (q_115, (25, ρ + 9, [21, 1280])) :: (q_107, (25, ρ + 9, [21, 1280])) :: (q_99, (25, ρ + 9, [21, 1280])) :: (q_91, (26, ρ + 8, [2])) :: (q_83, (26, ρ + 8, [1])) :: (q_75, (26, ρ + 8, [0])) :: (q_67, (17, ρ + 8, [3000])) :: (q_58, (14, ρ + 7, [r_59, 100])) :: (q_42, (14, ρ + 32, [r_43, 60])) :: (q_34, (14, ρ + 5, [r_35, 30])) :: (q_16, (16, ρ + 31, [40])) :: (q_11, (16, ρ + 3, [40])) :: (q_6, (17, ρ + 2, [6000])) :: (q_1, (17, ρ + 1, [3000])) :: [] : List (Nat × TyE)), p.1 ∈ L ∧ t9 p.1 = p.2) ∧ t9 h0 = (99, 0, []) ∧ t9 q_27 = (99, 0, []) ∧ t9 q_50 = (99, 0, []) := ⟨_, rfl, hN9, into_fs hr9 hfs (fs_nek (show (14 : Nat) ≠ 99 by decide) (fs_nek (show (14 : Nat) ≠ 99 by decide) (fs_nek (show (14 : Nat) ≠ 99 by decide) (fs_nek (show (28 : Nat) ≠ 99 by decide) (fs_nek (show (18 : Nat) ≠ 99 by decide) (fs_nek (show (14 : Nat) ≠ 99 by decide) (fs_nek (show (14 : Nat) ≠ 99 by decide) (fs_nek (show (17 : Nat) ≠ 99 by decide) (fs_nek (show (17 : Nat) ≠ 99 by decide) (fs_nek (show (17 : Nat) ≠ 99 by decide) (fs_nek (show (17 : Nat) ≠ 99 by decide) (fs_nek (show (17 : Nat) ≠ 99 by decide) (fs_nek (show (16 : Nat) ≠ 99 by decide) (fs_nek (show (16 : Nat) ≠ 99 by decide) (fs_nek (show (16 : Nat) ≠ 99 by decide) (fs_nek (show (16 : Nat) ≠ 99 by decide) (fs_nek (show (16 : Nat) ≠ 99 by decide) (fs_nek (show (12 : Nat) ≠ 99 by decide) (fs_nek (show (13 : Nat) ≠ 99 by decide) (fs_nek (show (13 : Nat) ≠ 99 by decide) (fs_nek (show (13 : Nat) ≠ 99 by decide) (fs_nek (show (14 : Nat) ≠ 99 by decide) (fs_nek (show (25 : Nat) ≠ 99 by decide) (fs_nek (show (25 : Nat) ≠ 99 by decide) (fs_nek (show (25 : Nat) ≠ 99 by decide) (fs_nek (show (26 : Nat) ≠ 99 by decide) (fs_nek (show (26 : Nat) ≠ 99 by decide) (fs_nek (show (26 : Nat) ≠ 99 by decide) (fs_nek (show (17 : Nat) ≠ 99 by decide) (fs_nek (show (14 : Nat) ≠ 99 by decide) (fs_nek (show (14 : Nat) ≠ 99 by decide) (fs_nek (show (14 : Nat) ≠ 99 by decide) (fs_nek (show (16 : Nat) ≠ 99 by decide) (fs_nek (show (16 : Nat) ≠ 99 by decide) (fs_nek (show (17 : Nat) ≠ 99 by decide) (fs_nek (show (17 : Nat) ≠ 99 by decide) (fun _ h => absurd h List.not_mem_nil))))))))))))))))))))))))))))))))))))) hL_q_21, (rtf_ne hne_h0_q_21).trans hT_h0, (rtf_ne hne_q_21_q_27.symm).trans hT_q_27, (rtf_ne hne_q_21_q_50.symm).trans hT_q_50⟩
    obtain ⟨hP, hD, hO, hW⟩ := hN9
    have hu3 : FILJ (fun j9 e9 => ∃ r9, e9 = (14, ρ + 50 + j9 + 100, [r9, 700])) L ty fb 40 := fun i hi => by obtain ⟨b, h1, h2, r9, h3⟩ := hu3 i hi; exact ⟨b, h1, h2, r9, by rw [hty9]; exact rtf_old hr9 h3 (by decide)⟩
    have hr9 : (ty q_27).1 = 99 := by rw [hT_q_27]
    have hN9 : NEWm (dC, dI) cs (rtf ty q_27 (27, ρ + 50, [40, 700])) gm L F_455 A H := NEWm.into ⟨hP, hD, hO, hW⟩ hr9 (by rw [hF_q_27]; exact shm.rtxj rtf_self ⟨_, rfl, fun i hi => by obtain ⟨b, h1, h2, r9, h3⟩ := hu3 i (by omega); exact ⟨b, r9, h1, h2, rtf_old hr9 h3 (by decide)⟩⟩) (wtam_rtxj rtf_self trivial)
    obtain ⟨ty, hty9, hN9, hfs, hT_h0, hT_q_50⟩ : ∃ t9 : TyM, t9 = rtf ty q_27 (27, ρ + 50, [40, 700]) ∧ NEWm (dC, dI) cs t9 gm L F_455 A H ∧ (∀ p ∈ ((q_27, (27, ρ + 50, [40, 700])) :: (q_21, (27, ρ + 4, [40, 60])) :: (q_446, (14, ρ + 30, [r_447, 6000])) :: (q_437, (14, ρ + 29, [r_438, 6000])) :: (q_428, (14, ρ + 28, [r_429, 6000])) :: (q_287, (28, ρ + 27, [19])) :: (q_279, (18, ρ + 26, [20])) :: (q_270, (14, ρ + 25, [r_271, 3000])) :: (q_261, (14, ρ + 24, [r_262, 6000])) :: (q_253, (17, ρ + 23, [64])) :: (q_245, (17, ρ + 22, [64])) :: (q_237, (17, ρ + 21, [64])) :: (q_229, (17, ρ + 20, [32])) :: (q_221, (17, ρ + 19, [32])) :: (q_213, (16, ρ + 90, [33])) :: (q_205, (16, ρ + 89, [66])) :: (q_197, (16, ρ + 88, [33])) :: (q_189, (16, ρ + 87, [33])) :: (q_181, (16, ρ + 18, [33])) :: (q_168, (12, ρ + 17, [x_169, y_170, w_171, u9_172, bl_173])) :: (q_156, (13, ρ + 15, [x_157, 700, 700, y0_158, y1_159, y2_160])) :: (q_144, (13, ρ + 13, [x_145, 700, 700, y0_146, y1_147, y2_148])) :: (q_132, (13, ρ + 11, [x_133, 3000, 1280, y0_134, y1_135, y2_136])) :: (q_123, (14, ρ + 10, [r_124, 6000])) :: (q_115, (25, ρ + 9, [21, 1280])) :: (q_107, (25, ρ + 9, [21, 1280])) :: (q_99, (25, ρ + 9, [21, 1280])) :: (q_91, (26, ρ + 8, [2])) :: (q_83, (26, ρ + 8, [1])) :: (q_75, (26, ρ + 8, [0])) :: (q_67, (17, ρ + 8, [3000])) :: (q_58, (14, ρ + 7, [r_59, 100])) :: (q_42, (14, ρ + 32, [r_43, 60])) :: (q_34, (14, ρ + 5, [r_35, 30])) :: (q_16, (16, ρ + 31, [40])) :: (q_11, (16, ρ + 3, [40])) :: (q_6, (17, ρ + 2, [6000])) :: (q_1, (17, ρ + 1, [3000])) :: [] : List (Nat × TyE)), p.1 ∈ L ∧ t9 p.1 = p.2) ∧ t9 h0 = (99, 0, []) ∧ t9 q_50 = (99, 0, []) := ⟨_, rfl, hN9, into_fs hr9 hfs (fs_nek (show (27 : Nat) ≠ 99 by decide) (fs_nek (show (14 : Nat) ≠ 99 by decide) (fs_nek (show (14 : Nat) ≠ 99 by decide) (fs_nek (show (14 : Nat) ≠ 99 by decide) (fs_nek (show (28 : Nat) ≠ 99 by decide) (fs_nek (show (18 : Nat) ≠ 99 by decide) (fs_nek (show (14 : Nat) ≠ 99 by decide) (fs_nek (show (14 : Nat) ≠ 99 by decide) (fs_nek (show (17 : Nat) ≠ 99 by decide) (fs_nek (show (17 : Nat) ≠ 99 by decide) (fs_nek (show (17 : Nat) ≠ 99 by decide) (fs_nek (show (17 : Nat) ≠ 99 by decide) (fs_nek (show (17 : Nat) ≠ 99 by decide) (fs_nek (show (16 : Nat) ≠ 99 by decide) (fs_nek (show (16 : Nat) ≠ 99 by decide) (fs_nek (show (16 : Nat) ≠ 99 by decide) (fs_nek (show (16 : Nat) ≠ 99 by decide) (fs_nek (show (16 : Nat) ≠ 99 by decide) (fs_nek (show (12 : Nat) ≠ 99 by decide) (fs_nek (show (13 : Nat) ≠ 99 by decide) (fs_nek (show (13 : Nat) ≠ 99 by decide) (fs_nek (show (13 : Nat) ≠ 99 by decide) (fs_nek (show (14 : Nat) ≠ 99 by decide) (fs_nek (show (25 : Nat) ≠ 99 by decide) (fs_nek (show (25 : Nat) ≠ 99 by decide) (fs_nek (show (25 : Nat) ≠ 99 by decide) (fs_nek (show (26 : Nat) ≠ 99 by decide) (fs_nek (show (26 : Nat) ≠ 99 by decide) (fs_nek (show (26 : Nat) ≠ 99 by decide) (fs_nek (show (17 : Nat) ≠ 99 by decide) (fs_nek (show (14 : Nat) ≠ 99 by decide) (fs_nek (show (14 : Nat) ≠ 99 by decide) (fs_nek (show (14 : Nat) ≠ 99 by decide) (fs_nek (show (16 : Nat) ≠ 99 by decide) (fs_nek (show (16 : Nat) ≠ 99 by decide) (fs_nek (show (17 : Nat) ≠ 99 by decide) (fs_nek (show (17 : Nat) ≠ 99 by decide) (fun _ h => absurd h List.not_mem_nil)))))))))))))))))))))))))))))))))))))) hL_q_27, (rtf_ne hne_h0_q_27).trans hT_h0, (rtf_ne hne_q_27_q_50.symm).trans hT_q_50⟩
    obtain ⟨hP, hD, hO, hW⟩ := hN9
    refine lv_iconst (v := 0) hx hb dX15_init_540 (by decide) ?_
    refine lv_istore_n (lv' := [(1, .int 0), (0, .ref h0)]) hx hb dX15_init_541 rfl hl (by decide) rfl (fun ls hl => ?_)
    refine W.widen (k := 228 + 2 * 0) (n := 81556 + 63 * 0) (by omega) (by omega) ?_
    refine gr_loopm (σ := Nat × (Nat → Option Nat)) A (dC, dI) cs gm 542 2 (fun (j2, fc) => [(1, .int (nI j2)), (0, .ref h0)]) (fun (j2, fc) => []) (fun (j2, fc) => 228 + 2 * j2) (fun (j2, fc) => 81556 + 63 * j2) (fun (j2, fc) ty L FF => (j2 ≤ 13 ∧ FILJ (fun j9 e9 => ∃ r9, e9 = (14, ρ + 200 + j9 + 100, [r9, 61])) L ty fc j2) ∧ h0 ∈ L ∧ ty h0 = (99, 0, []) ∧ FF h0 = .inr (15, (.ref q_1) :: (.int 0) :: (.int 0) :: (.int 0) :: (.ref q_6) :: (.ref q_11) :: (.ref q_16) :: (.ref q_21) :: (.ref q_27) :: (.ref q_34) :: (.ref q_42) :: (.int 0) :: (.int 0) :: (.ref q_50) :: (.int 0) :: (.int 0) :: (.ref q_58) :: (.int 0) :: (.int 0) :: (.int 0) :: (.int 0) :: (.int 0) :: (.int 0) :: (.ref q_67) :: (.ref q_75) :: (.ref q_83) :: (.ref q_91) :: (.ref q_99) :: (.ref q_107) :: (.ref q_115) :: (.int 0) :: (.int 0) :: (.int 0) :: (.int 0) :: (.ref q_123) :: (.ref q_132) :: (.ref q_144) :: (.ref q_156) :: (.ref q_168) :: (.ref q_181) :: (.ref q_189) :: (.ref q_197) :: (.ref q_205) :: (.ref q_213) :: (.ref q_221) :: (.ref q_229) :: (.ref q_237) :: (.ref q_245) :: (.ref q_253) :: (.ref q_261) :: (.ref q_270) :: (.ref q_279) :: (.int 0) :: (.int 0) :: (.int 0) :: (.ref q_287) :: (.ref q_428) :: (.ref q_437) :: (.ref q_446) :: []) ∧ q_50 ∈ L ∧ ty q_50 = (99, 0, []) ∧ FF q_50 = .inl (cs 23, 13, .inr (.inr (.inr (.inr fc)))) ∧ (∀ p ∈ ((q_27, (27, ρ + 50, [40, 700])) :: (q_21, (27, ρ + 4, [40, 60])) :: (q_446, (14, ρ + 30, [r_447, 6000])) :: (q_437, (14, ρ + 29, [r_438, 6000])) :: (q_428, (14, ρ + 28, [r_429, 6000])) :: (q_287, (28, ρ + 27, [19])) :: (q_279, (18, ρ + 26, [20])) :: (q_270, (14, ρ + 25, [r_271, 3000])) :: (q_261, (14, ρ + 24, [r_262, 6000])) :: (q_253, (17, ρ + 23, [64])) :: (q_245, (17, ρ + 22, [64])) :: (q_237, (17, ρ + 21, [64])) :: (q_229, (17, ρ + 20, [32])) :: (q_221, (17, ρ + 19, [32])) :: (q_213, (16, ρ + 90, [33])) :: (q_205, (16, ρ + 89, [66])) :: (q_197, (16, ρ + 88, [33])) :: (q_189, (16, ρ + 87, [33])) :: (q_181, (16, ρ + 18, [33])) :: (q_168, (12, ρ + 17, [x_169, y_170, w_171, u9_172, bl_173])) :: (q_156, (13, ρ + 15, [x_157, 700, 700, y0_158, y1_159, y2_160])) :: (q_144, (13, ρ + 13, [x_145, 700, 700, y0_146, y1_147, y2_148])) :: (q_132, (13, ρ + 11, [x_133, 3000, 1280, y0_134, y1_135, y2_136])) :: (q_123, (14, ρ + 10, [r_124, 6000])) :: (q_115, (25, ρ + 9, [21, 1280])) :: (q_107, (25, ρ + 9, [21, 1280])) :: (q_99, (25, ρ + 9, [21, 1280])) :: (q_91, (26, ρ + 8, [2])) :: (q_83, (26, ρ + 8, [1])) :: (q_75, (26, ρ + 8, [0])) :: (q_67, (17, ρ + 8, [3000])) :: (q_58, (14, ρ + 7, [r_59, 100])) :: (q_42, (14, ρ + 32, [r_43, 60])) :: (q_34, (14, ρ + 5, [r_35, 30])) :: (q_16, (16, ρ + 31, [40])) :: (q_11, (16, ρ + 3, [40])) :: (q_6, (17, ρ + 2, [6000])) :: (q_1, (17, ρ + 1, [3000])) :: [] : List (Nat × TyE)), p.1 ∈ L ∧ ty p.1 = p.2)) (fun (j2, fc) => 13 - j2) ?_ (0, (fun _ => none)) ty L F_455 ⟨⟨by omega, FILJ.nil⟩, hL_h0, hT_h0, hF_h0, hL_q_50, hT_q_50, hF_q_50, hfs⟩ _ _ ⟨hP, hD, hO, hW⟩ hS ls (lv_sub hl [0, 1] rfl)
    rintro ⟨j2, fc⟩ ty L F_460 hv_461 ih_462 H locs hN9 hS ls hl
    have hl : lv_has ls 2 [(1, .int (nI j2)), (0, .ref h0)] := hl
    obtain ⟨hu, hL_h0, hT_h0, hF_h0, hL_q_50, hT_q_50, hF_q_50, hfs⟩ := hv_461
    have hu : j2 ≤ 13 ∧ FILJ (fun j9 e9 => ∃ r9, e9 = (14, ρ + 200 + j9 + 100, [r9, 61])) L ty fc j2 := hu
    obtain ⟨hP, hD, hO, hW⟩ := hN9
    refine W.eq (g2 := F0 m 542 ls []) rfl ?_
    refine W.widen (k := 228 + 2 * j2) (n := 81556 + 63 * j2) (Nat.le_refl _) (Nat.le_refl _) ?_
    obtain ⟨hu1, hu4⟩ := hu
    refine lv_iload_n hx hb dX15_init_542 rfl (lv_at hl 0 rfl) ?_
    refine lv_bipush (v := 13) hx hb dX15_init_543 (by decide) ?_
    refine lv_icmp_ge (tgt := 569) hx hb dX15_init_545 (by decide) (fun c_463 => ?_) (fun c_463 => ?_)
    ·
      have hi_464 : 13 ≤ j2 := leN (N := 13) c_463
      obtain rfl : j2 = 13 := by omega
      have hr9 : (ty q_50).1 = 99 := by rw [hT_q_50]
      have hN9 : NEWm (dC, dI) cs (rtf ty q_50 (27, ρ + 200, [13, 61])) gm L F_460 A H := NEWm.into ⟨hP, hD, hO, hW⟩ hr9 (by rw [hF_q_50]; exact shm.rtxj rtf_self ⟨_, rfl, fun i hi => by obtain ⟨b, h1, h2, r9, h3⟩ := hu4 i (by omega); exact ⟨b, r9, h1, h2, rtf_old hr9 h3 (by decide)⟩⟩) (wtam_rtxj rtf_self trivial)
      obtain ⟨ty, hty9, hN9, hfs, hT_h0⟩ : ∃ t9 : TyM, t9 = rtf ty q_50 (27, ρ + 200, [13, 61]) ∧ NEWm (dC, dI) cs t9 gm L F_460 A H ∧ (∀ p ∈ ((q_50, (27, ρ + 200, [13, 61])) :: (q_27, (27, ρ + 50, [40, 700])) :: (q_21, (27, ρ + 4, [40, 60])) :: (q_446, (14, ρ + 30, [r_447, 6000])) :: (q_437, (14, ρ + 29, [r_438, 6000])) :: (q_428, (14, ρ + 28, [r_429, 6000])) :: (q_287, (28, ρ + 27, [19])) :: (q_279, (18, ρ + 26, [20])) :: (q_270, (14, ρ + 25, [r_271, 3000])) :: (q_261, (14, ρ + 24, [r_262, 6000])) :: (q_253, (17, ρ + 23, [64])) :: (q_245, (17, ρ + 22, [64])) :: (q_237, (17, ρ + 21, [64])) :: (q_229, (17, ρ + 20, [32])) :: (q_221, (17, ρ + 19, [32])) :: (q_213, (16, ρ + 90, [33])) :: (q_205, (16, ρ + 89, [66])) :: (q_197, (16, ρ + 88, [33])) :: (q_189, (16, ρ + 87, [33])) :: (q_181, (16, ρ + 18, [33])) :: (q_168, (12, ρ + 17, [x_169, y_170, w_171, u9_172, bl_173])) :: (q_156, (13, ρ + 15, [x_157, 700, 700, y0_158, y1_159, y2_160])) :: (q_144, (13, ρ + 13, [x_145, 700, 700, y0_146, y1_147, y2_148])) :: (q_132, (13, ρ + 11, [x_133, 3000, 1280, y0_134, y1_135, y2_136])) :: (q_123, (14, ρ + 10, [r_124, 6000])) :: (q_115, (25, ρ + 9, [21, 1280])) :: (q_107, (25, ρ + 9, [21, 1280])) :: (q_99, (25, ρ + 9, [21, 1280])) :: (q_91, (26, ρ + 8, [2])) :: (q_83, (26, ρ + 8, [1])) :: (q_75, (26, ρ + 8, [0])) :: (q_67, (17, ρ + 8, [3000])) :: (q_58, (14, ρ + 7, [r_59, 100])) :: (q_42, (14, ρ + 32, [r_43, 60])) :: (q_34, (14, ρ + 5, [r_35, 30])) :: (q_16, (16, ρ + 31, [40])) :: (q_11, (16, ρ + 3, [40])) :: (q_6, (17, ρ + 2, [6000])) :: (q_1, (17, ρ + 1, [3000])) :: [] : List (Nat × TyE)), p.1 ∈ L ∧ t9 p.1 = p.2) ∧ t9 h0 = (99, 0, []) := ⟨_, rfl, hN9, into_fs hr9 hfs (fs_nek (show (27 : Nat) ≠ 99 by decide) (fs_nek (show (27 : Nat) ≠ 99 by decide) (fs_nek (show (14 : Nat) ≠ 99 by decide) (fs_nek (show (14 : Nat) ≠ 99 by decide) (fs_nek (show (14 : Nat) ≠ 99 by decide) (fs_nek (show (28 : Nat) ≠ 99 by decide) (fs_nek (show (18 : Nat) ≠ 99 by decide) (fs_nek (show (14 : Nat) ≠ 99 by decide) (fs_nek (show (14 : Nat) ≠ 99 by decide) (fs_nek (show (17 : Nat) ≠ 99 by decide) (fs_nek (show (17 : Nat) ≠ 99 by decide) (fs_nek (show (17 : Nat) ≠ 99 by decide) (fs_nek (show (17 : Nat) ≠ 99 by decide) (fs_nek (show (17 : Nat) ≠ 99 by decide) (fs_nek (show (16 : Nat) ≠ 99 by decide) (fs_nek (show (16 : Nat) ≠ 99 by decide) (fs_nek (show (16 : Nat) ≠ 99 by decide) (fs_nek (show (16 : Nat) ≠ 99 by decide) (fs_nek (show (16 : Nat) ≠ 99 by decide) (fs_nek (show (12 : Nat) ≠ 99 by decide) (fs_nek (show (13 : Nat) ≠ 99 by decide) (fs_nek (show (13 : Nat) ≠ 99 by decide) (fs_nek (show (13 : Nat) ≠ 99 by decide) (fs_nek (show (14 : Nat) ≠ 99 by decide) (fs_nek (show (25 : Nat) ≠ 99 by decide) (fs_nek (show (25 : Nat) ≠ 99 by decide) (fs_nek (show (25 : Nat) ≠ 99 by decide) (fs_nek (show (26 : Nat) ≠ 99 by decide) (fs_nek (show (26 : Nat) ≠ 99 by decide) (fs_nek (show (26 : Nat) ≠ 99 by decide) (fs_nek (show (17 : Nat) ≠ 99 by decide) (fs_nek (show (14 : Nat) ≠ 99 by decide) (fs_nek (show (14 : Nat) ≠ 99 by decide) (fs_nek (show (14 : Nat) ≠ 99 by decide) (fs_nek (show (16 : Nat) ≠ 99 by decide) (fs_nek (show (16 : Nat) ≠ 99 by decide) (fs_nek (show (17 : Nat) ≠ 99 by decide) (fs_nek (show (17 : Nat) ≠ 99 by decide) (fun _ h => absurd h List.not_mem_nil))))))))))))))))))))))))))))))))))))))) hL_q_50, (rtf_ne hne_h0_q_50).trans hT_h0⟩
      obtain ⟨hP, hD, hO, hW⟩ := hN9
      have hr9 : (ty h0).1 = 99 := by rw [hT_h0]
      have hN9 : NEWm (dC, dI) cs (rtf ty h0 (15, ρ, [q_1, q_6, q_11, q_16, q_21, q_27, q_34, q_42, q_50, q_58, q_67, q_75, q_83, q_91, q_99, q_107, q_115, q_123, q_132, q_144, q_156, q_168, q_181, q_189, q_197, q_205, q_213, q_221, q_229, q_237, q_245, q_253, q_261, q_270, q_279, q_287, q_428, q_437, q_446, x_133, y0_134, y1_135, y2_136, 0, 0, 0, 0, 0, 0, 1, 0, 0, 0, 0])) gm L F_460 A H := NEWm.into ⟨hP, hD, hO, hW⟩ hr9 (by rw [hF_h0]; exact shm.mod rtf_self ⟨0, 0, 0, 0, 0, 0, 0, 0, 0, 0, 0, 0, rfl, (by first | omega | assumption | exact Or.inl rfl | exact Or.inr rfl | exact Or.inl ⟨rfl, rfl⟩ | exact Or.inr ⟨rfl, rfl⟩), (by first | omega | assumption | exact Or.inl rfl | exact Or.inr rfl | exact Or.inl ⟨rfl, rfl⟩ | exact Or.inr ⟨rfl, rfl⟩), (by first | omega | assumption | exact Or.inl rfl | exact Or.inr rfl | exact Or.inl ⟨rfl, rfl⟩ | exact Or.inr ⟨rfl, rfl⟩), (by first | omega | assumption | exact Or.inl rfl | exact Or.inr rfl | exact Or.inl ⟨rfl, rfl⟩ | exact Or.inr ⟨rfl, rfl⟩), (by first | omega | assumption | exact Or.inl rfl | exact Or.inr rfl | exact Or.inl ⟨rfl, rfl⟩ | exact Or.inr ⟨rfl, rfl⟩)⟩) (wtam_mod rtf_self ⟨(hfs _ (List.mem_cons_of_mem _ (List.mem_cons_of_mem _ (List.mem_cons_of_mem _ (List.mem_cons_of_mem _ (List.mem_cons_of_mem _ (List.mem_cons_of_mem _ (List.mem_cons_of_mem _ (List.mem_cons_of_mem _ (List.mem_cons_of_mem _ (List.mem_cons_of_mem _ (List.mem_cons_of_mem _ (List.mem_cons_of_mem _ (List.mem_cons_of_mem _ (List.mem_cons_of_mem _ (List.mem_cons_of_mem _ (List.mem_cons_of_mem _ (List.mem_cons_of_mem _ (List.mem_cons_of_mem _ (List.mem_cons_of_mem _ (List.mem_cons_of_mem _ (List.mem_cons_of_mem _ (List.mem_cons_of_mem _ (List.mem_cons_of_mem _ (List.mem_cons_of_mem _ (List.mem_cons_of_mem _ (List.mem_cons_of_mem _ (List.mem_cons_of_mem _ (List.mem_cons_of_mem _ (List.mem_cons_of_mem _ (List.mem_cons_of_mem _ (List.mem_cons_of_mem _ (List.mem_cons_of_mem _ (List.mem_cons_of_mem _ (List.mem_cons_of_mem _ (List.mem_cons_of_mem _ (List.mem_cons_of_mem _ (List.mem_cons_of_mem _ (List.mem_cons_of_mem _ (List.mem_cons_self)))))))))))))))))))))))))))))))))))))))).1, rtf_old hr9 (hfs _ (List.mem_cons_of_mem _ (List.mem_cons_of_mem _ (List.mem_cons_of_mem _ (List.mem_cons_of_mem _ (List.mem_cons_of_mem _ (List.mem_cons_of_mem _ (List.mem_cons_of_mem _ (List.mem_cons_of_mem _ (List.mem_cons_of_mem _ (List.mem_cons_of_mem _ (List.mem_cons_of_mem _ (List.mem_cons_of_mem _ (List.mem_cons_of_mem _ (List.mem_cons_of_mem _ (List.mem_cons_of_mem _ (List.mem_cons_of_mem _ (List.mem_cons_of_mem _ (List.mem_cons_of_mem _ (List.mem_cons_of_mem _ (List.mem_cons_of_mem _ (List.mem_cons_of_mem _ (List.mem_cons_of_mem _ (List.mem_cons_of_mem _ (List.mem_cons_of_mem _ (List.mem_cons_of_mem _ (List.mem_cons_of_mem _ (List.mem_cons_of_mem _ (List.mem_cons_of_mem _ (List.mem_cons_of_mem _ (List.mem_cons_of_mem _ (List.mem_cons_of_mem _ (List.mem_cons_of_mem _ (List.mem_cons_of_mem _ (List.mem_cons_of_mem _ (List.mem_cons_of_mem _ (List.mem_cons_of_mem _ (List.mem_cons_of_mem _ (List.mem_cons_of_mem _ (List.mem_cons_self)))))))))))))))))))))))))))))))))))))))).2 (by decide), (hfs _ (List.mem_cons_of_mem _ (List.mem_cons_of_mem _ (List.mem_cons_of_mem _ (List.mem_cons_of_mem _ (List.mem_cons_of_mem _ (List.mem_cons_of_mem _ (List.mem_cons_of_mem _ (List.mem_cons_of_mem _ (List.mem_cons_of_mem _ (List.mem_cons_of_mem _ (List.mem_cons_of_mem _ (List.mem_cons_of_mem _ (List.mem_cons_of_mem _ (List.mem_cons_of_mem _ (List.mem_cons_of_mem _ (List.mem_cons_of_mem _ (List.mem_cons_of_mem _ (List.mem_cons_of_mem _ (List.mem_cons_of_mem _ (List.mem_cons_of_mem _ (List.mem_cons_of_mem _ (List.mem_cons_of_mem _ (List.mem_cons_of_mem _ (List.mem_cons_of_mem _ (List.mem_cons_of_mem _ (List.mem_cons_of_mem _ (List.mem_cons_of_mem _ (List.mem_cons_of_mem _ (List.mem_cons_of_mem _ (List.mem_cons_of_mem _ (List.mem_cons_of_mem _ (List.mem_cons_of_mem _ (List.mem_cons_of_mem _ (List.mem_cons_of_mem _ (List.mem_cons_of_mem _ (List.mem_cons_of_mem _ (List.mem_cons_of_mem _ (List.mem_cons_self))))))))))))))))))))))))))))))))))))))).1, rtf_old hr9 (hfs _ (List.mem_cons_of_mem _ (List.mem_cons_of_mem _ (List.mem_cons_of_mem _ (List.mem_cons_of_mem _ (List.mem_cons_of_mem _ (List.mem_cons_of_mem _ (List.mem_cons_of_mem _ (List.mem_cons_of_mem _ (List.mem_cons_of_mem _ (List.mem_cons_of_mem _ (List.mem_cons_of_mem _ (List.mem_cons_of_mem _ (List.mem_cons_of_mem _ (List.mem_cons_of_mem _ (List.mem_cons_of_mem _ (List.mem_cons_of_mem _ (List.mem_cons_of_mem _ (List.mem_cons_of_mem _ (List.mem_cons_of_mem _ (List.mem_cons_of_mem _ (List.mem_cons_of_mem _ (List.mem_cons_of_mem _ (List.mem_cons_of_mem _ (List.mem_cons_of_mem _ (List.mem_cons_of_mem _ (List.mem_cons_of_mem _ (List.mem_cons_of_mem _ (List.mem_cons_of_mem _ (List.mem_cons_of_mem _ (List.mem_cons_of_mem _ (List.mem_cons_of_mem _ (List.mem_cons_of_mem _ (List.mem_cons_of_mem _ (List.mem_cons_of_mem _ (List.mem_cons_of_mem _ (List.mem_cons_of_mem _ (List.mem_cons_of_mem _ (List.mem_cons_self))))))))))))))))))))))))))))))))))))))).2 (by decide), (hfs _ (List.mem_cons_of_mem _ (List.mem_cons_of_mem _ (List.mem_cons_of_mem _ (List.mem_cons_of_mem _ (List.mem_cons_of_mem _ (List.mem_cons_of_mem _ (List.mem_cons_of_mem _ (List.mem_cons_of_mem _ (List.mem_cons_of_mem _ (List.mem_cons_of_mem _ (List.mem_cons_of_mem _ (List.mem_cons_of_mem _ (List.mem_cons_of_mem _ (List.mem_cons_of_mem _ (List.mem_cons_of_mem _ (List.mem_cons_of_mem _ (List.mem_cons_of_mem _ (List.mem_cons_of_mem _ (List.mem_cons_of_mem _ (List.mem_cons_of_mem _ (List.mem_cons_of_mem _ (List.mem_cons_of_mem _ (List.mem_cons_of_mem _ (List.mem_cons_of_mem _ (List.mem_cons_of_mem _ (List.mem_cons_of_mem _ (List.mem_cons_of_mem _ (List.mem_cons_of_mem _ (List.mem_cons_of_mem _ (List.mem_cons_of_mem _ (List.mem_cons_of_mem _ (List.mem_cons_of_mem _ (List.mem_cons_of_mem _ (List.mem_cons_of_mem _ (List.mem_cons_of_mem _ (List.mem_cons_of_mem _ (List.mem_cons_self)))))))))))))))))))))))))))))))))))))).1, rtf_old hr9 (hfs _ (List.mem_cons_of_mem _ (List.mem_cons_of_mem _ (List.mem_cons_of_mem _ (List.mem_cons_of_mem _ (List.mem_cons_of_mem _ (List.mem_cons_of_mem _ (List.mem_cons_of_mem _ (List.mem_cons_of_mem _ (List.mem_cons_of_mem _ (List.mem_cons_of_mem _ (List.mem_cons_of_mem _ (List.mem_cons_of_mem _ (List.mem_cons_of_mem _ (List.mem_cons_of_mem _ (List.mem_cons_of_mem _ (List.mem_cons_of_mem _ (List.mem_cons_of_mem _ (List.mem_cons_of_mem _ (List.mem_cons_of_mem _ (List.mem_cons_of_mem _ (List.mem_cons_of_mem _ (List.mem_cons_of_mem _ (List.mem_cons_of_mem _ (List.mem_cons_of_mem _ (List.mem_cons_of_mem _ (List.mem_cons_of_mem _ (List.mem_cons_of_mem _ (List.mem_cons_of_mem _ (List.mem_cons_of_mem _ (List.mem_cons_of_mem _ (List.mem_cons_of_mem _ (List.mem_cons_of_mem _ (List.mem_cons_of_mem _ (List.mem_cons_of_mem _ (List.mem_cons_of_mem _ (List.mem_cons_of_mem _ (List.mem_cons_self)))))))))))))))))))))))))))))))))))))).2 (by decide), (hfs _ (List.mem_cons_of_mem _ (List.mem_cons_of_mem _ (List.mem_cons_of_mem _ (List.mem_cons_of_mem _ (List.mem_cons_of_mem _ (List.mem_cons_of_mem _ (List.mem_cons_of_mem _ (List.mem_cons_of_mem _ (List.mem_cons_of_mem _ (List.mem_cons_of_mem _ (List.mem_cons_of_mem _ (List.mem_cons_of_mem _ (List.mem_cons_of_mem _ (List.mem_cons_of_mem _ (List.mem_cons_of_mem _ (List.mem_cons_of_mem _ (List.mem_cons_of_mem _ (List.mem_cons_of_mem _ (List.mem_cons_of_mem _ (List.mem_cons_of_mem _ (List.mem_cons_of_mem _ (List.mem_cons_of_mem _ (List.mem_cons_of_mem _ (List.mem_cons_of_mem _ (List.mem_cons_of_mem _ (List.mem_cons_of_mem _ (List.mem_cons_of_mem _ (List.mem_cons_of_mem _ (List.mem_cons_of_mem _ (List.mem_cons_of_mem _ (List.mem_cons_of_mem _ (List.mem_cons_of_mem _ (List.mem_cons_of_mem _ (List.mem_cons_of_mem _ (List.mem_cons_of_mem _ (List.mem_cons_self))))))))))))))))))))))))))))))))))))).1, rtf_old hr9 (hfs _ (List.mem_cons_of_mem _ (List.mem_cons_of_mem _ (List.mem_cons_of_mem _ (List.mem_cons_of_mem _ (List.mem_cons_of_mem _ (List.mem_cons_of_mem _ (List.mem_cons_of_mem _ (List.mem_cons_of_mem _ (List.mem_cons_of_mem _ (List.mem_cons_of_mem _ (List.mem_cons_of_mem _ (List.mem_cons_of_mem _ (List.mem_cons_of_mem _ (List.mem_cons_of_mem _ (List.mem_cons_of_mem _ (List.mem_cons_of_mem _ (List.mem_cons_of_mem _ (List.mem_cons_of_mem _ (List.mem_cons_of_mem _ (List.mem_cons_of_mem _ (List.mem_cons_of_mem _ (List.mem_cons_of_mem _ (List.mem_cons_of_mem _ (List.mem_cons_of_mem _ (List.mem_cons_of_mem _ (List.mem_cons_of_mem _ (List.mem_cons_of_mem _ (List.mem_cons_of_mem _ (List.mem_cons_of_mem _ (List.mem_cons_of_mem _ (List.mem_cons_of_mem _ (List.mem_cons_of_mem _ (List.mem_cons_of_mem _ (List.mem_cons_of_mem _ (List.mem_cons_of_mem _ (List.mem_cons_self))))))))))))))))))))))))))))))))))))).2 (by decide), (hfs _ (List.mem_cons_of_mem _ (List.mem_cons_of_mem _ (List.mem_cons_self)))).1, rtf_old hr9 (hfs _ (List.mem_cons_of_mem _ (List.mem_cons_of_mem _ (List.mem_cons_self)))).2 (by decide), (hfs _ (List.mem_cons_of_mem _ (List.mem_cons_self))).1, rtf_old hr9 (hfs _ (List.mem_cons_of_mem _ (List.mem_cons_self))).2 (by decide), (hfs _ (List.mem_cons_of_mem _ (List.mem_cons_of_mem _ (List.mem_cons_of_mem _ (List.mem_cons_of_mem _ (List.mem_cons_of_mem _ (List.mem_cons_of_mem _ (List.mem_cons_of_mem _ (List.mem_cons_of_mem _ (List.mem_cons_of_mem _ (List.mem_cons_of_mem _ (List.mem_cons_of_mem _ (List.mem_cons_of_mem _ (List.mem_cons_of_mem _ (List.mem_cons_of_mem _ (List.mem_cons_of_mem _ (List.mem_cons_of_mem _ (List.mem_cons_of_mem _ (List.mem_cons_of_mem _ (List.mem_cons_of_mem _ (List.mem_cons_of_mem _ (List.mem_cons_of_mem _ (List.mem_cons_of_mem _ (List.mem_cons_of_mem _ (List.mem_cons_of_mem _ (List.mem_cons_of_mem _ (List.mem_cons_of_mem _ (List.mem_cons_of_mem _ (List.mem_cons_of_mem _ (List.mem_cons_of_mem _ (List.mem_cons_of_mem _ (List.mem_cons_of_mem _ (List.mem_cons_of_mem _ (List.mem_cons_of_mem _ (List.mem_cons_of_mem _ (List.mem_cons_self)))))))))))))))))))))))))))))))))))).1, ⟨_, rtf_old hr9 (hfs _ (List.mem_cons_of_mem _ (List.mem_cons_of_mem _ (List.mem_cons_of_mem _ (List.mem_cons_of_mem _ (List.mem_cons_of_mem _ (List.mem_cons_of_mem _ (List.mem_cons_of_mem _ (List.mem_cons_of_mem _ (List.mem_cons_of_mem _ (List.mem_cons_of_mem _ (List.mem_cons_of_mem _ (List.mem_cons_of_mem _ (List.mem_cons_of_mem _ (List.mem_cons_of_mem _ (List.mem_cons_of_mem _ (List.mem_cons_of_mem _ (List.mem_cons_of_mem _ (List.mem_cons_of_mem _ (List.mem_cons_of_mem _ (List.mem_cons_of_mem _ (List.mem_cons_of_mem _ (List.mem_cons_of_mem _ (List.mem_cons_of_mem _ (List.mem_cons_of_mem _ (List.mem_cons_of_mem _ (List.mem_cons_of_mem _ (List.mem_cons_of_mem _ (List.mem_cons_of_mem _ (List.mem_cons_of_mem _ (List.mem_cons_of_mem _ (List.mem_cons_of_mem _ (List.mem_cons_of_mem _ (List.mem_cons_of_mem _ (List.mem_cons_of_mem _ (List.mem_cons_self)))))))))))))))))))))))))))))))))))).2 (by decide)⟩, (hfs _ (List.mem_cons_of_mem _ (List.mem_cons_of_mem _ (List.mem_cons_of_mem _ (List.mem_cons_of_mem _ (List.mem_cons_of_mem _ (List.mem_cons_of_mem _ (List.mem_cons_of_mem _ (List.mem_cons_of_mem _ (List.mem_cons_of_mem _ (List.mem_cons_of_mem _ (List.mem_cons_of_mem _ (List.mem_cons_of_mem _ (List.mem_cons_of_mem _ (List.mem_cons_of_mem _ (List.mem_cons_of_mem _ (List.mem_cons_of_mem _ (List.mem_cons_of_mem _ (List.mem_cons_of_mem _ (List.mem_cons_of_mem _ (List.mem_cons_of_mem _ (List.mem_cons_of_mem _ (List.mem_cons_of_mem _ (List.mem_cons_of_mem _ (List.mem_cons_of_mem _ (List.mem_cons_of_mem _ (List.mem_cons_of_mem _ (List.mem_cons_of_mem _ (List.mem_cons_of_mem _ (List.mem_cons_of_mem _ (List.mem_cons_of_mem _ (List.mem_cons_of_mem _ (List.mem_cons_of_mem _ (List.mem_cons_of_mem _ (List.mem_cons_self))))))))))))))))))))))))))))))))))).1, ⟨_, rtf_old hr9 (hfs _ (List.mem_cons_of_mem _ (List.mem_cons_of_mem _ (List.mem_cons_of_mem _ (List.mem_cons_of_mem _ (List.mem_cons_of_mem _ (List.mem_cons_of_mem _ (List.mem_cons_of_mem _ (List.mem_cons_of_mem _ (List.mem_cons_of_mem _ (List.mem_cons_of_mem _ (List.mem_cons_of_mem _ (List.mem_cons_of_mem _ (List.mem_cons_of_mem _ (List.mem_cons_of_mem _ (List.mem_cons_of_mem _ (List.mem_cons_of_mem _ (List.mem_cons_of_mem _ (List.mem_cons_of_mem _ (List.mem_cons_of_mem _ (List.mem_cons_of_mem _ (List.mem_cons_of_mem _ (List.mem_cons_of_mem _ (List.mem_cons_of_mem _ (List.mem_cons_of_mem _ (List.mem_cons_of_mem _ (List.mem_cons_of_mem _ (List.mem_cons_of_mem _ (List.mem_cons_of_mem _ (List.mem_cons_of_mem _ (List.mem_cons_of_mem _ (List.mem_cons_of_mem _ (List.mem_cons_of_mem _ (List.mem_cons_of_mem _ (List.mem_cons_self))))))))))))))))))))))))))))))))))).2 (by decide)⟩, (hfs _ (List.mem_cons_self)).1, rtf_old hr9 (hfs _ (List.mem_cons_self)).2 (by decide), (hfs _ (List.mem_cons_of_mem _ (List.mem_cons_of_mem _ (List.mem_cons_of_mem _ (List.mem_cons_of_mem _ (List.mem_cons_of_mem _ (List.mem_cons_of_mem _ (List.mem_cons_of_mem _ (List.mem_cons_of_mem _ (List.mem_cons_of_mem _ (List.mem_cons_of_mem _ (List.mem_cons_of_mem _ (List.mem_cons_of_mem _ (List.mem_cons_of_mem _ (List.mem_cons_of_mem _ (List.mem_cons_of_mem _ (List.mem_cons_of_mem _ (List.mem_cons_of_mem _ (List.mem_cons_of_mem _ (List.mem_cons_of_mem _ (List.mem_cons_of_mem _ (List.mem_cons_of_mem _ (List.mem_cons_of_mem _ (List.mem_cons_of_mem _ (List.mem_cons_of_mem _ (List.mem_cons_of_mem _ (List.mem_cons_of_mem _ (List.mem_cons_of_mem _ (List.mem_cons_of_mem _ (List.mem_cons_of_mem _ (List.mem_cons_of_mem _ (List.mem_cons_of_mem _ (List.mem_cons_of_mem _ (List.mem_cons_self)))))))))))))))))))))))))))))))))).1, ⟨_, rtf_old hr9 (hfs _ (List.mem_cons_of_mem _ (List.mem_cons_of_mem _ (List.mem_cons_of_mem _ (List.mem_cons_of_mem _ (List.mem_cons_of_mem _ (List.mem_cons_of_mem _ (List.mem_cons_of_mem _ (List.mem_cons_of_mem _ (List.mem_cons_of_mem _ (List.mem_cons_of_mem _ (List.mem_cons_of_mem _ (List.mem_cons_of_mem _ (List.mem_cons_of_mem _ (List.mem_cons_of_mem _ (List.mem_cons_of_mem _ (List.mem_cons_of_mem _ (List.mem_cons_of_mem _ (List.mem_cons_of_mem _ (List.mem_cons_of_mem _ (List.mem_cons_of_mem _ (List.mem_cons_of_mem _ (List.mem_cons_of_mem _ (List.mem_cons_of_mem _ (List.mem_cons_of_mem _ (List.mem_cons_of_mem _ (List.mem_cons_of_mem _ (List.mem_cons_of_mem _ (List.mem_cons_of_mem _ (List.mem_cons_of_mem _ (List.mem_cons_of_mem _ (List.mem_cons_of_mem _ (List.mem_cons_of_mem _ (List.mem_cons_self)))))))))))))))))))))))))))))))))).2 (by decide)⟩, (hfs _ (List.mem_cons_of_mem _ (List.mem_cons_of_mem _ (List.mem_cons_of_mem _ (List.mem_cons_of_mem _ (List.mem_cons_of_mem _ (List.mem_cons_of_mem _ (List.mem_cons_of_mem _ (List.mem_cons_of_mem _ (List.mem_cons_of_mem _ (List.mem_cons_of_mem _ (List.mem_cons_of_mem _ (List.mem_cons_of_mem _ (List.mem_cons_of_mem _ (List.mem_cons_of_mem _ (List.mem_cons_of_mem _ (List.mem_cons_of_mem _ (List.mem_cons_of_mem _ (List.mem_cons_of_mem _ (List.mem_cons_of_mem _ (List.mem_cons_of_mem _ (List.mem_cons_of_mem _ (List.mem_cons_of_mem _ (List.mem_cons_of_mem _ (List.mem_cons_of_mem _ (List.mem_cons_of_mem _ (List.mem_cons_of_mem _ (List.mem_cons_of_mem _ (List.mem_cons_of_mem _ (List.mem_cons_of_mem _ (List.mem_cons_of_mem _ (List.mem_cons_of_mem _ (List.mem_cons_self))))))))))))))))))))))))))))))))).1, rtf_old hr9 (hfs _ (List.mem_cons_of_mem _ (List.mem_cons_of_mem _ (List.mem_cons_of_mem _ (List.mem_cons_of_mem _ (List.mem_cons_of_mem _ (List.mem_cons_of_mem _ (List.mem_cons_of_mem _ (List.mem_cons_of_mem _ (List.mem_cons_of_mem _ (List.mem_cons_of_mem _ (List.mem_cons_of_mem _ (List.mem_cons_of_mem _ (List.mem_cons_of_mem _ (List.mem_cons_of_mem _ (List.mem_cons_of_mem _ (List.mem_cons_of_mem _ (List.mem_cons_of_mem _ (List.mem_cons_of_mem _ (List.mem_cons_of_mem _ (List.mem_cons_of_mem _ (List.mem_cons_of_mem _ (List.mem_cons_of_mem _ (List.mem_cons_of_mem _ (List.mem_cons_of_mem _ (List.mem_cons_of_mem _ (List.mem_cons_of_mem _ (List.mem_cons_of_mem _ (List.mem_cons_of_mem _ (List.mem_cons_of_mem _ (List.mem_cons_of_mem _ (List.mem_cons_of_mem _ (List.mem_cons_self))))))))))))))))))))))))))))))))).2 (by decide), (hfs _ (List.mem_cons_of_mem _ (List.mem_cons_of_mem _ (List.mem_cons_of_mem _ (List.mem_cons_of_mem _ (List.mem_cons_of_mem _ (List.mem_cons_of_mem _ (List.mem_cons_of_mem _ (List.mem_cons_of_mem _ (List.mem_cons_of_mem _ (List.mem_cons_of_mem _ (List.mem_cons_of_mem _ (List.mem_cons_of_mem _ (List.mem_cons_of_mem _ (List.mem_cons_of_mem _ (List.mem_cons_of_mem _ (List.mem_cons_of_mem _ (List.mem_cons_of_mem _ (List.mem_cons_of_mem _ (List.mem_cons_of_mem _ (List.mem_cons_of_mem _ (List.mem_cons_of_mem _ (List.mem_cons_of_mem _ (List.mem_cons_of_mem _ (List.mem_cons_of_mem _ (List.mem_cons_of_mem _ (List.mem_cons_of_mem _ (List.mem_cons_of_mem _ (List.mem_cons_of_mem _ (List.mem_cons_of_mem _ (List.mem_cons_of_mem _ (List.mem_cons_self)))))))))))))))))))))))))))))))).1, rtf_old hr9 (hfs _ (List.mem_cons_of_mem _ (List.mem_cons_of_mem _ (List.mem_cons_of_mem _ (List.mem_cons_of_mem _ (List.mem_cons_of_mem _ (List.mem_cons_of_mem _ (List.mem_cons_of_mem _ (List.mem_cons_of_mem _ (List.mem_cons_of_mem _ (List.mem_cons_of_mem _ (List.mem_cons_of_mem _ (List.mem_cons_of_mem _ (List.mem_cons_of_mem _ (List.mem_cons_of_mem _ (List.mem_cons_of_mem _ (List.mem_cons_of_mem _ (List.mem_cons_of_mem _ (List.mem_cons_of_mem _ (List.mem_cons_of_mem _ (List.mem_cons_of_mem _ (List.mem_cons_of_mem _ (List.mem_cons_of_mem _ (List.mem_cons_of_mem _ (List.mem_cons_of_mem _ (List.mem_cons_of_mem _ (List.mem_cons_of_mem _ (List.mem_cons_of_mem _ (List.mem_cons_of_mem _ (List.mem_cons_of_mem _ (List.mem_cons_of_mem _ (List.mem_cons_self)))))))))))))))))))))))))))))))).2 (by decide), (hfs _ (List.mem_cons_of_mem _ (List.mem_cons_of_mem _ (List.mem_cons_of_mem _ (List.mem_cons_of_mem _ (List.mem_cons_of_mem _ (List.mem_cons_of_mem _ (List.mem_cons_of_mem _ (List.mem_cons_of_mem _ (List.mem_cons_of_mem _ (List.mem_cons_of_mem _ (List.mem_cons_of_mem _ (List.mem_cons_of_mem _ (List.mem_cons_of_mem _ (List.mem_cons_of_mem _ (List.mem_cons_of_mem _ (List.mem_cons_of_mem _ (List.mem_cons_of_mem _ (List.mem_cons_of_mem _ (List.mem_cons_of_mem _ (List.mem_cons_of_mem _ (List.mem_cons_of_mem _ (List.mem_cons_of_mem _ (List.mem_cons_of_mem _ (List.mem_cons_of_mem _ (List.mem_cons_of_mem _ (List.mem_cons_of_mem _ (List.mem_cons_of_mem _ (List.mem_cons_of_mem _ (List.mem_cons_of_mem _ (List.mem_cons_self))))))))))))))))))))))))))))))).1, rtf_old hr9 (hfs _ (List.mem_cons_of_mem _ (List.mem_cons_of_mem _ (List.mem_cons_of_mem _ (List.mem_cons_of_mem _ (List.mem_cons_of_mem _ (List.mem_cons_of_mem _ (List.mem_cons_of_mem _ (List.mem_cons_of_mem _ (List.mem_cons_of_mem _ (List.mem_cons_of_mem _ (List.mem_cons_of_mem _ (List.mem_cons_of_mem _ (List.mem_cons_of_mem _ (List.mem_cons_of_mem _ (List.mem_cons_of_mem _ (List.mem_cons_of_mem _ (List.mem_cons_of_mem _ (List.mem_cons_of_mem _ (List.mem_cons_of_mem _ (List.mem_cons_of_mem _ (List.mem_cons_of_mem _ (List.mem_cons_of_mem _ (List.mem_cons_of_mem _ (List.mem_cons_of_mem _ (List.mem_cons_of_mem _ (List.mem_cons_of_mem _ (List.mem_cons_of_mem _ (List.mem_cons_of_mem _ (List.mem_cons_of_mem _ (List.mem_cons_self))))))))))))))))))))))))))))))).2 (by decide), (hfs _ (List.mem_cons_of_mem _ (List.mem_cons_of_mem _ (List.mem_cons_of_mem _ (List.mem_cons_of_mem _ (List.mem_cons_of_mem _ (List.mem_cons_of_mem _ (List.mem_cons_of_mem _ (List.mem_cons_of_mem _ (List.mem_cons_of_mem _ (List.mem_cons_of_mem _ (List.mem_cons_of_mem _ (List.mem_cons_of_mem _ (List.mem_cons_of_mem _ (List.mem_cons_of_mem _ (List.mem_cons_of_mem _ (List.mem_cons_of_mem _ (List.mem_cons_of_mem _ (List.mem_cons_of_mem _ (List.mem_cons_of_mem _ (List.mem_cons_of_mem _ (List.mem_cons_of_mem _ (List.mem_cons_of_mem _ (List.mem_cons_of_mem _ (List.mem_cons_of_mem _ (List.mem_cons_of_mem _ (List.mem_cons_of_mem _ (List.mem_cons_of_mem _ (List.mem_cons_of_mem _ (List.mem_cons_self)))))))))))))))))))))))))))))).1, rtf_old hr9 (hfs _ (List.mem_cons_of_mem _ (List.mem_cons_of_mem _ (List.mem_cons_of_mem _ (List.mem_cons_of_mem _ (List.mem_cons_of_mem _ (List.mem_cons_of_mem _ (List.mem_cons_of_mem _ (List.mem_cons_of_mem _ (List.mem_cons_of_mem _ (List.mem_cons_of_mem _ (List.mem_cons_of_mem _ (List.mem_cons_of_mem _ (List.mem_cons_of_mem _ (List.mem_cons_of_mem _ (List.mem_cons_of_mem _ (List.mem_cons_of_mem _ (List.mem_cons_of_mem _ (List.mem_cons_of_mem _ (List.mem_cons_of_mem _ (List.mem_cons_of_mem _ (List.mem_cons_of_mem _ (List.mem_cons_of_mem _ (List.mem_cons_of_mem _ (List.mem_cons_of_mem _ (List.mem_cons_of_mem _ (List.mem_cons_of_mem _ (List.mem_cons_of_mem _ (List.mem_cons_of_mem _ (List.mem_cons_self)))))))))))))))))))))))))))))).2 (by decide), (hfs _ (List.mem_cons_of_mem _ (List.mem_cons_of_mem _ (List.mem_cons_of_mem _ (List.mem_cons_of_mem _ (List.mem_cons_of_mem _ (List.mem_cons_of_mem _ (List.mem_cons_of_mem _ (List.mem_cons_of_mem _ (List.mem_cons_of_mem _ (List.mem_cons_of_mem _ (List.mem_cons_of_mem _ (List.mem_cons_of_mem _ (List.mem_cons_of_mem _ (List.mem_cons_of_mem _ (List.mem_cons_of_mem _ (List.mem_cons_of_mem _ (List.mem_cons_of_mem _ (List.mem_cons_of_mem _ (List.mem_cons_of_mem _ (List.mem_cons_of_mem _ (List.mem_cons_of_mem _ (List.mem_cons_of_mem _ (List.mem_cons_of_mem _ (List.mem_cons_of_mem _ (List.mem_cons_of_mem _ (List.mem_cons_of_mem _ (List.mem_cons_of_mem _ (List.mem_cons_self))))))))))))))))))))))))))))).1, rtf_old hr9 (hfs _ (List.mem_cons_of_mem _ (List.mem_cons_of_mem _ (List.mem_cons_of_mem _ (List.mem_cons_of_mem _ (List.mem_cons_of_mem _ (List.mem_cons_of_mem _ (List.mem_cons_of_mem _ (List.mem_cons_of_mem _ (List.mem_cons_of_mem _ (List.mem_cons_of_mem _ (List.mem_cons_of_mem _ (List.mem_cons_of_mem _ (List.mem_cons_of_mem _ (List.mem_cons_of_mem _ (List.mem_cons_of_mem _ (List.mem_cons_of_mem _ (List.mem_cons_of_mem _ (List.mem_cons_of_mem _ (List.mem_cons_of_mem _ (List.mem_cons_of_mem _ (List.mem_cons_of_mem _ (List.mem_cons_of_mem _ (List.mem_cons_of_mem _ (List.mem_cons_of_mem _ (List.mem_cons_of_mem _ (List.mem_cons_of_mem _ (List.mem_cons_of_mem _ (List.mem_cons_self))))))))))))))))))))))))))))).2 (by decide), (hfs _ (List.mem_cons_of_mem _ (List.mem_cons_of_mem _ (List.mem_cons_of_mem _ (List.mem_cons_of_mem _ (List.mem_cons_of_mem _ (List.mem_cons_of_mem _ (List.mem_cons_of_mem _ (List.mem_cons_of_mem _ (List.mem_cons_of_mem _ (List.mem_cons_of_mem _ (List.mem_cons_of_mem _ (List.mem_cons_of_mem _ (List.mem_cons_of_mem _ (List.mem_cons_of_mem _ (List.mem_cons_of_mem _ (List.mem_cons_of_mem _ (List.mem_cons_of_mem _ (List.mem_cons_of_mem _ (List.mem_cons_of_mem _ (List.mem_cons_of_mem _ (List.mem_cons_of_mem _ (List.mem_cons_of_mem _ (List.mem_cons_of_mem _ (List.mem_cons_of_mem _ (List.mem_cons_of_mem _ (List.mem_cons_of_mem _ (List.mem_cons_self)))))))))))))))))))))))))))).1, rtf_old hr9 (hfs _ (List.mem_cons_of_mem _ (List.mem_cons_of_mem _ (List.mem_cons_of_mem _ (List.mem_cons_of_mem _ (List.mem_cons_of_mem _ (List.mem_cons_of_mem _ (List.mem_cons_of_mem _ (List.mem_cons_of_mem _ (List.mem_cons_of_mem _ (List.mem_cons_of_mem _ (List.mem_cons_of_mem _ (List.mem_cons_of_mem _ (List.mem_cons_of_mem _ (List.mem_cons_of_mem _ (List.mem_cons_of_mem _ (List.mem_cons_of_mem _ (List.mem_cons_of_mem _ (List.mem_cons_of_mem _ (List.mem_cons_of_mem _ (List.mem_cons_of_mem _ (List.mem_cons_of_mem _ (List.mem_cons_of_mem _ (List.mem_cons_of_mem _ (List.mem_cons_of_mem _ (List.mem_cons_of_mem _ (List.mem_cons_of_mem _ (List.mem_cons_self)))))))))))))))))))))))))))).2 (by decide), (hfs _ (List.mem_cons_of_mem _ (List.mem_cons_of_mem _ (List.mem_cons_of_mem _ (List.mem_cons_of_mem _ (List.mem_cons_of_mem _ (List.mem_cons_of_mem _ (List.mem_cons_of_mem _ (List.mem_cons_of_mem _ (List.mem_cons_of_mem _ (List.mem_cons_of_mem _ (List.mem_cons_of_mem _ (List.mem_cons_of_mem _ (List.mem_cons_of_mem _ (List.mem_cons_of_mem _ (List.mem_cons_of_mem _ (List.mem_cons_of_mem _ (List.mem_cons_of_mem _ (List.mem_cons_of_mem _ (List.mem_cons_of_mem _ (List.mem_cons_of_mem _ (List.mem_cons_of_mem _ (List.mem_cons_of_mem _ (List.mem_cons_of_mem _ (List.mem_cons_of_mem _ (List.mem_cons_of_mem _ (List.mem_cons_self))))))))))))))))))))))))))).1, rtf_old hr9 (hfs _ (List.mem_cons_of_mem _ (List.mem_cons_of_mem _ (List.mem_cons_of_mem _ (List.mem_cons_of_mem _ (List.mem_cons_of_mem _ (List.mem_cons_of_mem _ (List.mem_cons_of_mem _ (List.mem_cons_of_mem _ (List.mem_cons_of_mem _ (List.mem_cons_of_mem _ (List.mem_cons_of_mem _ (List.mem_cons_of_mem _ (List.mem_cons_of_mem _ (List.mem_cons_of_mem _ (List.mem_cons_of_mem _ (List.mem_cons_of_mem _ (List.mem_cons_of_mem _ (List.mem_cons_of_mem _ (List.mem_cons_of_mem _ (List.mem_cons_of_mem _ (List.mem_cons_of_mem _ (List.mem_cons_of_mem _ (List.mem_cons_of_mem _ (List.mem_cons_of_mem _ (List.mem_cons_of_mem _ (List.mem_cons_self))))))))))))))))))))))))))).2 (by decide), (hfs _ (List.mem_cons_of_mem _ (List.mem_cons_of_mem _ (List.mem_cons_of_mem _ (List.mem_cons_of_mem _ (List.mem_cons_of_mem _ (List.mem_cons_of_mem _ (List.mem_cons_of_mem _ (List.mem_cons_of_mem _ (List.mem_cons_of_mem _ (List.mem_cons_of_mem _ (List.mem_cons_of_mem _ (List.mem_cons_of_mem _ (List.mem_cons_of_mem _ (List.mem_cons_of_mem _ (List.mem_cons_of_mem _ (List.mem_cons_of_mem _ (List.mem_cons_of_mem _ (List.mem_cons_of_mem _ (List.mem_cons_of_mem _ (List.mem_cons_of_mem _ (List.mem_cons_of_mem _ (List.mem_cons_of_mem _ (List.mem_cons_of_mem _ (List.mem_cons_of_mem _ (List.mem_cons_self)))))))))))))))))))))))))).1, ⟨_, rtf_old hr9 (hfs _ (List.mem_cons_of_mem _ (List.mem_cons_of_mem _ (List.mem_cons_of_mem _ (List.mem_cons_of_mem _ (List.mem_cons_of_mem _ (List.mem_cons_of_mem _ (List.mem_cons_of_mem _ (List.mem_cons_of_mem _ (List.mem_cons_of_mem _ (List.mem_cons_of_mem _ (List.mem_cons_of_mem _ (List.mem_cons_of_mem _ (List.mem_cons_of_mem _ (List.mem_cons_of_mem _ (List.mem_cons_of_mem _ (List.mem_cons_of_mem _ (List.mem_cons_of_mem _ (List.mem_cons_of_mem _ (List.mem_cons_of_mem _ (List.mem_cons_of_mem _ (List.mem_cons_of_mem _ (List.mem_cons_of_mem _ (List.mem_cons_of_mem _ (List.mem_cons_of_mem _ (List.mem_cons_self)))))))))))))))))))))))))).2 (by decide)⟩, (hfs _ (List.mem_cons_of_mem _ (List.mem_cons_of_mem _ (List.mem_cons_of_mem _ (List.mem_cons_of_mem _ (List.mem_cons_of_mem _ (List.mem_cons_of_mem _ (List.mem_cons_of_mem _ (List.mem_cons_of_mem _ (List.mem_cons_of_mem _ (List.mem_cons_of_mem _ (List.mem_cons_of_mem _ (List.mem_cons_of_mem _ (List.mem_cons_of_mem _ (List.mem_cons_of_mem _ (List.mem_cons_of_mem _ (List.mem_cons_of_mem _ (List.mem_cons_of_mem _ (List.mem_cons_of_mem _ (List.mem_cons_of_mem _ (List.mem_cons_of_mem _ (List.mem_cons_of_mem _ (List.mem_cons_of_mem _ (List.mem_cons_of_mem _ (List.mem_cons_self))))))))))))))))))))))))).1, rtf_old hr9 (hfs _ (List.mem_cons_of_mem _ (List.mem_cons_of_mem _ (List.mem_cons_of_mem _ (List.mem_cons_of_mem _ (List.mem_cons_of_mem _ (List.mem_cons_of_mem _ (List.mem_cons_of_mem _ (List.mem_cons_of_mem _ (List.mem_cons_of_mem _ (List.mem_cons_of_mem _ (List.mem_cons_of_mem _ (List.mem_cons_of_mem _ (List.mem_cons_of_mem _ (List.mem_cons_of_mem _ (List.mem_cons_of_mem _ (List.mem_cons_of_mem _ (List.mem_cons_of_mem _ (List.mem_cons_of_mem _ (List.mem_cons_of_mem _ (List.mem_cons_of_mem _ (List.mem_cons_of_mem _ (List.mem_cons_of_mem _ (List.mem_cons_of_mem _ (List.mem_cons_self))))))))))))))))))))))))).2 (by decide), (hfs _ (List.mem_cons_of_mem _ (List.mem_cons_of_mem _ (List.mem_cons_of_mem _ (List.mem_cons_of_mem _ (List.mem_cons_of_mem _ (List.mem_cons_of_mem _ (List.mem_cons_of_mem _ (List.mem_cons_of_mem _ (List.mem_cons_of_mem _ (List.mem_cons_of_mem _ (List.mem_cons_of_mem _ (List.mem_cons_of_mem _ (List.mem_cons_of_mem _ (List.mem_cons_of_mem _ (List.mem_cons_of_mem _ (List.mem_cons_of_mem _ (List.mem_cons_of_mem _ (List.mem_cons_of_mem _ (List.mem_cons_of_mem _ (List.mem_cons_of_mem _ (List.mem_cons_of_mem _ (List.mem_cons_of_mem _ (List.mem_cons_self)))))))))))))))))))))))).1, ⟨_, _, _, _, rtf_old hr9 (hfs _ (List.mem_cons_of_mem _ (List.mem_cons_of_mem _ (List.mem_cons_of_mem _ (List.mem_cons_of_mem _ (List.mem_cons_of_mem _ (List.mem_cons_of_mem _ (List.mem_cons_of_mem _ (List.mem_cons_of_mem _ (List.mem_cons_of_mem _ (List.mem_cons_of_mem _ (List.mem_cons_of_mem _ (List.mem_cons_of_mem _ (List.mem_cons_of_mem _ (List.mem_cons_of_mem _ (List.mem_cons_of_mem _ (List.mem_cons_of_mem _ (List.mem_cons_of_mem _ (List.mem_cons_of_mem _ (List.mem_cons_of_mem _ (List.mem_cons_of_mem _ (List.mem_cons_of_mem _ (List.mem_cons_of_mem _ (List.mem_cons_self)))))))))))))))))))))))).2 (by decide)⟩, (hfs _ (List.mem_cons_of_mem _ (List.mem_cons_of_mem _ (List.mem_cons_of_mem _ (List.mem_cons_of_mem _ (List.mem_cons_of_mem _ (List.mem_cons_of_mem _ (List.mem_cons_of_mem _ (List.mem_cons_of_mem _ (List.mem_cons_of_mem _ (List.mem_cons_of_mem _ (List.mem_cons_of_mem _ (List.mem_cons_of_mem _ (List.mem_cons_of_mem _ (List.mem_cons_of_mem _ (List.mem_cons_of_mem _ (List.mem_cons_of_mem _ (List.mem_cons_of_mem _ (List.mem_cons_of_mem _ (List.mem_cons_of_mem _ (List.mem_cons_of_mem _ (List.mem_cons_of_mem _ (List.mem_cons_self))))))))))))))))))))))).1, ⟨_, _, _, _, rtf_old hr9 (hfs _ (List.mem_cons_of_mem _ (List.mem_cons_of_mem _ (List.mem_cons_of_mem _ (List.mem_cons_of_mem _ (List.mem_cons_of_mem _ (List.mem_cons_of_mem _ (List.mem_cons_of_mem _ (List.mem_cons_of_mem _ (List.mem_cons_of_mem _ (List.mem_cons_of_mem _ (List.mem_cons_of_mem _ (List.mem_cons_of_mem _ (List.mem_cons_of_mem _ (List.mem_cons_of_mem _ (List.mem_cons_of_mem _ (List.mem_cons_of_mem _ (List.mem_cons_of_mem _ (List.mem_cons_of_mem _ (List.mem_cons_of_mem _ (List.mem_cons_of_mem _ (List.mem_cons_of_mem _ (List.mem_cons_self))))))))))))))))))))))).2 (by decide)⟩, (hfs _ (List.mem_cons_of_mem _ (List.mem_cons_of_mem _ (List.mem_cons_of_mem _ (List.mem_cons_of_mem _ (List.mem_cons_of_mem _ (List.mem_cons_of_mem _ (List.mem_cons_of_mem _ (List.mem_cons_of_mem _ (List.mem_cons_of_mem _ (List.mem_cons_of_mem _ (List.mem_cons_of_mem _ (List.mem_cons_of_mem _ (List.mem_cons_of_mem _ (List.mem_cons_of_mem _ (List.mem_cons_of_mem _ (List.mem_cons_of_mem _ (List.mem_cons_of_mem _ (List.mem_cons_of_mem _ (List.mem_cons_of_mem _ (List.mem_cons_of_mem _ (List.mem_cons_self)))))))))))))))))))))).1, ⟨_, _, _, _, _, rtf_old hr9 (hfs _ (List.mem_cons_of_mem _ (List.mem_cons_of_mem _ (List.mem_cons_of_mem _ (List.mem_cons_of_mem _ (List.mem_cons_of_mem _ (List.mem_cons_of_mem _ (List.mem_cons_of_mem _ (List.mem_cons_of_mem _ (List.mem_cons_of_mem _ (List.mem_cons_of_mem _ (List.mem_cons_of_mem _ (List.mem_cons_of_mem _ (List.mem_cons_of_mem _ (List.mem_cons_of_mem _ (List.mem_cons_of_mem _ (List.mem_cons_of_mem _ (List.mem_cons_of_mem _ (List.mem_cons_of_mem _ (List.mem_cons_of_mem _ (List.mem_cons_of_mem _ (List.mem_cons_self)))))))))))))))))))))).2 (by decide)⟩, (hfs _ (List.mem_cons_of_mem _ (List.mem_cons_of_mem _ (List.mem_cons_of_mem _ (List.mem_cons_of_mem _ (List.mem_cons_of_mem _ (List.mem_cons_of_mem _ (List.mem_cons_of_mem _ (List.mem_cons_of_mem _ (List.mem_cons_of_mem _ (List.mem_cons_of_mem _ (List.mem_cons_of_mem _ (List.mem_cons_of_mem _ (List.mem_cons_of_mem _ (List.mem_cons_of_mem _ (List.mem_cons_of_mem _ (List.mem_cons_of_mem _ (List.mem_cons_of_mem _ (List.mem_cons_of_mem _ (List.mem_cons_of_mem _ (List.mem_cons_self))))))))))))))))))))).1, rtf_old hr9 (hfs _ (List.mem_cons_of_mem _ (List.mem_cons_of_mem _ (List.mem_cons_of_mem _ (List.mem_cons_of_mem _ (List.mem_cons_of_mem _ (List.mem_cons_of_mem _ (List.mem_cons_of_mem _ (List.mem_cons_of_mem _ (List.mem_cons_of_mem _ (List.mem_cons_of_mem _ (List.mem_cons_of_mem _ (List.mem_cons_of_mem _ (List.mem_cons_of_mem _ (List.mem_cons_of_mem _ (List.mem_cons_of_mem _ (List.mem_cons_of_mem _ (List.mem_cons_of_mem _ (List.mem_cons_of_mem _ (List.mem_cons_of_mem _ (List.mem_cons_self))))))))))))))))))))).2 (by decide), (hfs _ (List.mem_cons_of_mem _ (List.mem_cons_of_mem _ (List.mem_cons_of_mem _ (List.mem_cons_of_mem _ (List.mem_cons_of_mem _ (List.mem_cons_of_mem _ (List.mem_cons_of_mem _ (List.mem_cons_of_mem _ (List.mem_cons_of_mem _ (List.mem_cons_of_mem _ (List.mem_cons_of_mem _ (List.mem_cons_of_mem _ (List.mem_cons_of_mem _ (List.mem_cons_of_mem _ (List.mem_cons_of_mem _ (List.mem_cons_of_mem _ (List.mem_cons_of_mem _ (List.mem_cons_of_mem _ (List.mem_cons_self)))))))))))))))))))).1, rtf_old hr9 (hfs _ (List.mem_cons_of_mem _ (List.mem_cons_of_mem _ (List.mem_cons_of_mem _ (List.mem_cons_of_mem _ (List.mem_cons_of_mem _ (List.mem_cons_of_mem _ (List.mem_cons_of_mem _ (List.mem_cons_of_mem _ (List.mem_cons_of_mem _ (List.mem_cons_of_mem _ (List.mem_cons_of_mem _ (List.mem_cons_of_mem _ (List.mem_cons_of_mem _ (List.mem_cons_of_mem _ (List.mem_cons_of_mem _ (List.mem_cons_of_mem _ (List.mem_cons_of_mem _ (List.mem_cons_of_mem _ (List.mem_cons_self)))))))))))))))))))).2 (by decide), (hfs _ (List.mem_cons_of_mem _ (List.mem_cons_of_mem _ (List.mem_cons_of_mem _ (List.mem_cons_of_mem _ (List.mem_cons_of_mem _ (List.mem_cons_of_mem _ (List.mem_cons_of_mem _ (List.mem_cons_of_mem _ (List.mem_cons_of_mem _ (List.mem_cons_of_mem _ (List.mem_cons_of_mem _ (List.mem_cons_of_mem _ (List.mem_cons_of_mem _ (List.mem_cons_of_mem _ (List.mem_cons_of_mem _ (List.mem_cons_of_mem _ (List.mem_cons_of_mem _ (List.mem_cons_self))))))))))))))))))).1, rtf_old hr9 (hfs _ (List.mem_cons_of_mem _ (List.mem_cons_of_mem _ (List.mem_cons_of_mem _ (List.mem_cons_of_mem _ (List.mem_cons_of_mem _ (List.mem_cons_of_mem _ (List.mem_cons_of_mem _ (List.mem_cons_of_mem _ (List.mem_cons_of_mem _ (List.mem_cons_of_mem _ (List.mem_cons_of_mem _ (List.mem_cons_of_mem _ (List.mem_cons_of_mem _ (List.mem_cons_of_mem _ (List.mem_cons_of_mem _ (List.mem_cons_of_mem _ (List.mem_cons_of_mem _ (List.mem_cons_self))))))))))))))))))).2 (by decide), (hfs _ (List.mem_cons_of_mem _ (List.mem_cons_of_mem _ (List.mem_cons_of_mem _ (List.mem_cons_of_mem _ (List.mem_cons_of_mem _ (List.mem_cons_of_mem _ (List.mem_cons_of_mem _ (List.mem_cons_of_mem _ (List.mem_cons_of_mem _ (List.mem_cons_of_mem _ (List.mem_cons_of_mem _ (List.mem_cons_of_mem _ (List.mem_cons_of_mem _ (List.mem_cons_of_mem _ (List.mem_cons_of_mem _ (List.mem_cons_of_mem _ (List.mem_cons_self)))))))))))))))))).1, rtf_old hr9 (hfs _ (List.mem_cons_of_mem _ (List.mem_cons_of_mem _ (List.mem_cons_of_mem _ (List.mem_cons_of_mem _ (List.mem_cons_of_mem _ (List.mem_cons_of_mem _ (List.mem_cons_of_mem _ (List.mem_cons_of_mem _ (List.mem_cons_of_mem _ (List.mem_cons_of_mem _ (List.mem_cons_of_mem _ (List.mem_cons_of_mem _ (List.mem_cons_of_mem _ (List.mem_cons_of_mem _ (List.mem_cons_of_mem _ (List.mem_cons_of_mem _ (List.mem_cons_self)))))))))))))))))).2 (by decide), (hfs _ (List.mem_cons_of_mem _ (List.mem_cons_of_mem _ (List.mem_cons_of_mem _ (List.mem_cons_of_mem _ (List.mem_cons_of_mem _ (List.mem_cons_of_mem _ (List.mem_cons_of_mem _ (List.mem_cons_of_mem _ (List.mem_cons_of_mem _ (List.mem_cons_of_mem _ (List.mem_cons_of_mem _ (List.mem_cons_of_mem _ (List.mem_cons_of_mem _ (List.mem_cons_of_mem _ (List.mem_cons_of_mem _ (List.mem_cons_self))))))))))))))))).1, rtf_old hr9 (hfs _ (List.mem_cons_of_mem _ (List.mem_cons_of_mem _ (List.mem_cons_of_mem _ (List.mem_cons_of_mem _ (List.mem_cons_of_mem _ (List.mem_cons_of_mem _ (List.mem_cons_of_mem _ (List.mem_cons_of_mem _ (List.mem_cons_of_mem _ (List.mem_cons_of_mem _ (List.mem_cons_of_mem _ (List.mem_cons_of_mem _ (List.mem_cons_of_mem _ (List.mem_cons_of_mem _ (List.mem_cons_of_mem _ (List.mem_cons_self))))))))))))))))).2 (by decide), (hfs _ (List.mem_cons_of_mem _ (List.mem_cons_of_mem _ (List.mem_cons_of_mem _ (List.mem_cons_of_mem _ (List.mem_cons_of_mem _ (List.mem_cons_of_mem _ (List.mem_cons_of_mem _ (List.mem_cons_of_mem _ (List.mem_cons_of_mem _ (List.mem_cons_of_mem _ (List.mem_cons_of_mem _ (List.mem_cons_of_mem _ (List.mem_cons_of_mem _ (List.mem_cons_of_mem _ (List.mem_cons_self)))))))))))))))).1, rtf_old hr9 (hfs _ (List.mem_cons_of_mem _ (List.mem_cons_of_mem _ (List.mem_cons_of_mem _ (List.mem_cons_of_mem _ (List.mem_cons_of_mem _ (List.mem_cons_of_mem _ (List.mem_cons_of_mem _ (List.mem_cons_of_mem _ (List.mem_cons_of_mem _ (List.mem_cons_of_mem _ (List.mem_cons_of_mem _ (List.mem_cons_of_mem _ (List.mem_cons_of_mem _ (List.mem_cons_of_mem _ (List.mem_cons_self)))))))))))))))).2 (by decide), (hfs _ (List.mem_cons_of_mem _ (List.mem_cons_of_mem _ (List.mem_cons_of_mem _ (List.mem_cons_of_mem _ (List.mem_cons_of_mem _ (List.mem_cons_of_mem _ (List.mem_cons_of_mem _ (List.mem_cons_of_mem _ (List.mem_cons_of_mem _ (List.mem_cons_of_mem _ (List.mem_cons_of_mem _ (List.mem_cons_of_mem _ (List.mem_cons_of_mem _ (List.mem_cons_self))))))))))))))).1, rtf_old hr9 (hfs _ (List.mem_cons_of_mem _ (List.mem_cons_of_mem _ (List.mem_cons_of_mem _ (List.mem_cons_of_mem _ (List.mem_cons_of_mem _ (List.mem_cons_of_mem _ (List.mem_cons_of_mem _ (List.mem_cons_of_mem _ (List.mem_cons_of_mem _ (List.mem_cons_of_mem _ (List.mem_cons_of_mem _ (List.mem_cons_of_mem _ (List.mem_cons_of_mem _ (List.mem_cons_self))))))))))))))).2 (by decide), (hfs _ (List.mem_cons_of_mem _ (List.mem_cons_of_mem _ (List.mem_cons_of_mem _ (List.mem_cons_of_mem _ (List.mem_cons_of_mem _ (List.mem_cons_of_mem _ (List.mem_cons_of_mem _ (List.mem_cons_of_mem _ (List.mem_cons_of_mem _ (List.mem_cons_of_mem _ (List.mem_cons_of_mem _ (List.mem_cons_of_mem _ (List.mem_cons_self)))))))))))))).1, rtf_old hr9 (hfs _ (List.mem_cons_of_mem _ (List.mem_cons_of_mem _ (List.mem_cons_of_mem _ (List.mem_cons_of_mem _ (List.mem_cons_of_mem _ (List.mem_cons_of_mem _ (List.mem_cons_of_mem _ (List.mem_cons_of_mem _ (List.mem_cons_of_mem _ (List.mem_cons_of_mem _ (List.mem_cons_of_mem _ (List.mem_cons_of_mem _ (List.mem_cons_self)))))))))))))).2 (by decide), (hfs _ (List.mem_cons_of_mem _ (List.mem_cons_of_mem _ (List.mem_cons_of_mem _ (List.mem_cons_of_mem _ (List.mem_cons_of_mem _ (List.mem_cons_of_mem _ (List.mem_cons_of_mem _ (List.mem_cons_of_mem _ (List.mem_cons_of_mem _ (List.mem_cons_of_mem _ (List.mem_cons_of_mem _ (List.mem_cons_self))))))))))))).1, rtf_old hr9 (hfs _ (List.mem_cons_of_mem _ (List.mem_cons_of_mem _ (List.mem_cons_of_mem _ (List.mem_cons_of_mem _ (List.mem_cons_of_mem _ (List.mem_cons_of_mem _ (List.mem_cons_of_mem _ (List.mem_cons_of_mem _ (List.mem_cons_of_mem _ (List.mem_cons_of_mem _ (List.mem_cons_of_mem _ (List.mem_cons_self))))))))))))).2 (by decide), (hfs _ (List.mem_cons_of_mem _ (List.mem_cons_of_mem _ (List.mem_cons_of_mem _ (List.mem_cons_of_mem _ (List.mem_cons_of_mem _ (List.mem_cons_of_mem _ (List.mem_cons_of_mem _ (List.mem_cons_of_mem _ (List.mem_cons_of_mem _ (List.mem_cons_of_mem _ (List.mem_cons_self)))))))))))).1, rtf_old hr9 (hfs _ (List.mem_cons_of_mem _ (List.mem_cons_of_mem _ (List.mem_cons_of_mem _ (List.mem_cons_of_mem _ (List.mem_cons_of_mem _ (List.mem_cons_of_mem _ (List.mem_cons_of_mem _ (List.mem_cons_of_mem _ (List.mem_cons_of_mem _ (List.mem_cons_of_mem _ (List.mem_cons_self)))))))))))).2 (by decide), (hfs _ (List.mem_cons_of_mem _ (List.mem_cons_of_mem _ (List.mem_cons_of_mem _ (List.mem_cons_of_mem _ (List.mem_cons_of_mem _ (List.mem_cons_of_mem _ (List.mem_cons_of_mem _ (List.mem_cons_of_mem _ (List.mem_cons_of_mem _ (List.mem_cons_self))))))))))).1, ⟨_, rtf_old hr9 (hfs _ (List.mem_cons_of_mem _ (List.mem_cons_of_mem _ (List.mem_cons_of_mem _ (List.mem_cons_of_mem _ (List.mem_cons_of_mem _ (List.mem_cons_of_mem _ (List.mem_cons_of_mem _ (List.mem_cons_of_mem _ (List.mem_cons_of_mem _ (List.mem_cons_self))))))))))).2 (by decide)⟩, (hfs _ (List.mem_cons_of_mem _ (List.mem_cons_of_mem _ (List.mem_cons_of_mem _ (List.mem_cons_of_mem _ (List.mem_cons_of_mem _ (List.mem_cons_of_mem _ (List.mem_cons_of_mem _ (List.mem_cons_of_mem _ (List.mem_cons_self)))))))))).1, ⟨_, rtf_old hr9 (hfs _ (List.mem_cons_of_mem _ (List.mem_cons_of_mem _ (List.mem_cons_of_mem _ (List.mem_cons_of_mem _ (List.mem_cons_of_mem _ (List.mem_cons_of_mem _ (List.mem_cons_of_mem _ (List.mem_cons_of_mem _ (List.mem_cons_self)))))))))).2 (by decide)⟩, (hfs _ (List.mem_cons_of_mem _ (List.mem_cons_of_mem _ (List.mem_cons_of_mem _ (List.mem_cons_of_mem _ (List.mem_cons_of_mem _ (List.mem_cons_of_mem _ (List.mem_cons_of_mem _ (List.mem_cons_self))))))))).1, rtf_old hr9 (hfs _ (List.mem_cons_of_mem _ (List.mem_cons_of_mem _ (List.mem_cons_of_mem _ (List.mem_cons_of_mem _ (List.mem_cons_of_mem _ (List.mem_cons_of_mem _ (List.mem_cons_of_mem _ (List.mem_cons_self))))))))).2 (by decide), (hfs _ (List.mem_cons_of_mem _ (List.mem_cons_of_mem _ (List.mem_cons_of_mem _ (List.mem_cons_of_mem _ (List.mem_cons_of_mem _ (List.mem_cons_of_mem _ (List.mem_cons_self)))))))).1, rtf_old hr9 (hfs _ (List.mem_cons_of_mem _ (List.mem_cons_of_mem _ (List.mem_cons_of_mem _ (List.mem_cons_of_mem _ (List.mem_cons_of_mem _ (List.mem_cons_of_mem _ (List.mem_cons_self)))))))).2 (by decide), (hfs _ (List.mem_cons_of_mem _ (List.mem_cons_of_mem _ (List.mem_cons_of_mem _ (List.mem_cons_of_mem _ (List.mem_cons_of_mem _ (List.mem_cons_self))))))).1, ⟨_, rtf_old hr9 (hfs _ (List.mem_cons_of_mem _ (List.mem_cons_of_mem _ (List.mem_cons_of_mem _ (List.mem_cons_of_mem _ (List.mem_cons_of_mem _ (List.mem_cons_self))))))).2 (by decide)⟩, (hfs _ (List.mem_cons_of_mem _ (List.mem_cons_of_mem _ (List.mem_cons_of_mem _ (List.mem_cons_of_mem _ (List.mem_cons_self)))))).1, ⟨_, rtf_old hr9 (hfs _ (List.mem_cons_of_mem _ (List.mem_cons_of_mem _ (List.mem_cons_of_mem _ (List.mem_cons_of_mem _ (List.mem_cons_self)))))).2 (by decide)⟩, (hfs _ (List.mem_cons_of_mem _ (List.mem_cons_of_mem _ (List.mem_cons_of_mem _ (List.mem_cons_self))))).1, ⟨_, rtf_old hr9 (hfs _ (List.mem_cons_of_mem _ (List.mem_cons_of_mem _ (List.mem_cons_of_mem _ (List.mem_cons_self))))).2 (by decide)⟩, by omega, by omega, by omega, by omega, Or.inl rfl, fun j hj => absurd hj (Nat.not_lt_zero _), fun j hj => absurd hj (Nat.not_lt_zero _), fun k j => by rw [hg0]; omega, by omega⟩)
      refine W.widen (k := 254) (n := 82375) (by omega) (by omega) ?_
      exact W.vret hx hb hr (fun t ht hWm => ⟨⟨(), rfl, trivial, ⟨L, F_460, rtf ty h0 (15, ρ, [q_1, q_6, q_11, q_16, q_21, q_27, q_34, q_42, q_50, q_58, q_67, q_75, q_83, q_91, q_99, q_107, q_115, q_123, q_132, q_144, q_156, q_168, q_181, q_189, q_197, q_205, q_213, q_221, q_229, q_237, q_245, q_253, q_261, q_270, q_279, q_287, q_428, q_437, q_446, x_133, y0_134, y1_135, y2_136, 0, 0, 0, 0, 0, 0, 1, 0, 0, 0, 0]), q_1, q_6, q_11, q_16, q_21, q_27, q_34, q_42, q_50, q_58, q_67, q_75, q_83, q_91, q_99, q_107, q_115, q_123, q_132, q_144, q_156, q_168, q_181, q_189, q_197, q_205, q_213, q_221, q_229, q_237, q_245, q_253, q_261, q_270, q_279, q_287, q_428, q_437, q_446, x_133, y0_134, y1_135, y2_136, (by rw [ht]; exact hN9), hL_h0, rtf_self, hn01, hn02, hn12⟩⟩, hS.F ht⟩) hS.2.2 dX15_init_569
    ·
      have hi_465 : j2 < 13 := ltN (N := 13) c_463
      refine lv_aload_n hx hb dX15_init_548 rfl (lv_at hl 1 rfl) ?_
      refine pg_get (ci := 15) (v := .ref q_50) (C := RX15) (T := TX15) (N := 59) hx hb hts it_15 hown hK hP hL_h0 hF_h0 rfl 13 (by decide) (hts _ kt_1125) (fun _ h9 => h9) rfl dX15_init_549 ?_
      refine lv_iload_n hx hb dX15_init_552 rfl (lv_at hl 0 rfl) ?_
      refine va_new (ci := 14) (fs := [.null, .int 0]) (C := RX14) (T := TX14) (N := 2) hx hb hts it_14 tyX14 tyX14_ok hown (hts _ kt_1121) (hts _ kt_1035) (hts _ kt_676) hK hP hD hS hA rfl df_14 (by show _ + 1 ≤ 254; omega) (by show _ + 2 ≤ 82375; omega) dX15_init_553 (fun q_466 H hPa hDa hS => ?_)
      have hP := left1 hPa
      have hD := left2 hDa
      refine lv_dup hx hb dX15_init_556 rfl ?_
      refine lv_bipush (v := 61) hx hb dX15_init_557 (by decide) ?_
      refine W.eq (g2 := F0 m 559 ls [.int (nI 61), .ref q_466, .ref q_466, .int (nI j2), .ref q_50]) rfl ?_
      have hFc := free1 hDa hS hA
      have hPq := right1 hPa
      refine va_callv (va_runI (As := [.int (nI 61)]) (rest := [.ref q_466, .int (nI j2), .ref q_50]) ⟨hx, hb, hml, hown, hts⟩ (k_X14_init l dC dI cs gm H.size q_466 61 (ρ + 200 + j2 + 100) (by omega)) ⟨callB_of 1 hts (gi kt_1036) rfl rfl rfl (hts _ kt_676) (hts _ kt_1122) (by decide +kernel) ⟨Nat.le_of_ble_eq_true rfl, Nat.le_of_ble_eq_true rfl⟩, rfl, (hts _ kt_1038)⟩ ⟨fun a U g mk q => ⟨q.1, PTm.calling q.2⟩, fun U hU hWm => ⟨rfl, PTm.mk hU hWm hPq hK one1 hE (fun a _ => shm.raw rfl)⟩⟩ rfl rfl hl.1 rfl (lv_room (Nat.le_of_ble_eq_true rfl)) dX15_init_559 ⟨by show _ + 1 ≤ 254; omega, by show _ + 61 ≤ 82375; omega⟩) hS (fun q _ h => hFc q h) hFc (fun u t H1 locs ht hvm hw hB hz1 hk1 hS => ?_)
      obtain ⟨L2, F2, ty2, r_467, hN2, hc1, hc2⟩ := hB
      rw [ht] at hN2
      obtain ⟨L, ty, F_468, hN9, hold, holdF, hnew, hnewF⟩ := join1m hPa hDa hO hW hk1 hFc hN2
      obtain ⟨hP, hD, hO, hW⟩ := hN9
      generalize H1 = H at hP hS ⊢
      have hL_q_466 := (hnew _ hc1).1
      have hT_q_466 := (hnew _ hc1).2.trans hc2
      replace hT_h0 := (hold _ hL_h0).2.trans hT_h0
      replace hF_h0 := (holdF _ hL_h0).1.trans hF_h0
      replace hL_h0 := (hold _ hL_h0).1
      replace hT_q_50 := (hold _ hL_q_50).2.trans hT_q_50
      replace hF_q_50 := (holdF _ hL_q_50).1.trans hF_q_50
      replace hL_q_50 := (hold _ hL_q_50).1
      replace hfs := gr_cons hold hfs hL_q_466 hT_q_466
      have hu4 := hu4.keep hold
      obtain ⟨hi_469, ht_470, hq_471⟩ := hW.txt hL_q_466 hT_q_466
      obtain ⟨z_472, hF_473, hq_474⟩ := hO.txt hL_q_466 hT_q_466
      refine pg_aast (r := (RX14, TX14, 2)) hx hb hK hP hD hS hL_q_50 7 14 hF_q_50 rfl hL_q_466 hF_473 rfl (vp_in_nI (by omega) (by omega)) dX15_init_562 (fun H locs hP hD hS => ?_)
      obtain ⟨F_475, he_476, hP, hD, hO⟩ : ∃ G, G = va_up F_468 q_50 (.inl (cs 23, 13, .inr (.inr (.inr (.inr (va_up fc ((nI j2)).toNatClampNeg (some q_466))))))) ∧ va_P (dC, dI) vwCl (va_pl L G) H ∧ va_D A (va_pl L G) ∧ OKm cs ty gm L G := ⟨_, rfl, hP, hD, hO.up (shm.raw hT_q_50)⟩
      have hF_477 : F_475 q_50 = .inl (cs 23, 13, .inr (.inr (.inr (.inr (va_up fc ((nI j2)).toNatClampNeg (some q_466)))))) := by rw [he_476]; exact up_self
      have hF_478 : F_475 h0 = .inr (15, (.ref q_1) :: (.int 0) :: (.int 0) :: (.int 0) :: (.ref q_6) :: (.ref q_11) :: (.ref q_16) :: (.ref q_21) :: (.ref q_27) :: (.ref q_34) :: (.ref q_42) :: (.int 0) :: (.int 0) :: (.ref q_50) :: (.int 0) :: (.int 0) :: (.ref q_58) :: (.int 0) :: (.int 0) :: (.int 0) :: (.int 0) :: (.int 0) :: (.int 0) :: (.ref q_67) :: (.ref q_75) :: (.ref q_83) :: (.ref q_91) :: (.ref q_99) :: (.ref q_107) :: (.ref q_115) :: (.int 0) :: (.int 0) :: (.int 0) :: (.int 0) :: (.ref q_123) :: (.ref q_132) :: (.ref q_144) :: (.ref q_156) :: (.ref q_168) :: (.ref q_181) :: (.ref q_189) :: (.ref q_197) :: (.ref q_205) :: (.ref q_213) :: (.ref q_221) :: (.ref q_229) :: (.ref q_237) :: (.ref q_245) :: (.ref q_253) :: (.ref q_261) :: (.ref q_270) :: (.ref q_279) :: (.int 0) :: (.int 0) :: (.int 0) :: (.ref q_287) :: (.ref q_428) :: (.ref q_437) :: (.ref q_446) :: []) := by rw [he_476, up_ne hne_h0_q_50]; exact hF_h0
      have hu4 := hu4.add (by omega) hL_q_466 ⟨_, hT_q_466⟩
      refine lv_iinc (v := (nI (j2 + 1))) (lv' := [(1, .int (nI (j2 + 1))), (0, .ref h0)]) hx hb dX15_init_563 hl (k := 0) rfl (nI_1 _) (by decide) rfl (fun ls hl => ?_)
      refine lv_goto (tgt := 542) hx hb dX15_init_566 (by decide) ?_
      refine W.widen (k := 228 + 2 * (j2 + 1)) (n := 81556 + 63 * (j2 + 1)) (by omega) (by omega) ?_
      exact ih_462 ((j2 + 1), (va_up fc ((nI j2)).toNatClampNeg (some q_466))) ty L F_475 ⟨⟨by omega, hu4⟩, hL_h0, hT_h0, hF_478, hL_q_50, hT_q_50, hF_477, fsub hfs (fun _ h => List.mem_cons_of_mem _ (h))⟩ (by show 13 - (j2 + 1) < 13 - j2; omega) _ _ ⟨hP, hD, hO, hW⟩ hS ls (lv_sub hl [0, 1] rfl)
  ·
    have hi_479 : j < 40 := ltN (N := 40) c_458
    refine lv_aload_n hx hb dX15_init_503 rfl (lv_at hl 1 rfl) ?_
    refine pg_get (ci := 15) (v := .ref q_21) (C := RX15) (T := TX15) (N := 59) hx hb hts it_15 hown hK hP hL_h0 hF_h0 rfl 7 (by decide) (hts _ kt_719) (fun _ h9 => h9) rfl dX15_init_504 ?_
    refine lv_iload_n hx hb dX15_init_507 rfl (lv_at hl 0 rfl) ?_
    refine va_new (ci := 14) (fs := [.null, .int 0]) (C := RX14) (T := TX14) (N := 2) hx hb hts it_14 tyX14 tyX14_ok hown (hts _ kt_1121) (hts _ kt_1035) (hts _ kt_676) hK hP hD hS hA rfl df_14 (by show _ + 1 ≤ 254; omega) (by show _ + 2 ≤ 82375; omega) dX15_init_508 (fun q_480 H hPa hDa hS => ?_)
    have hP := left1 hPa
    have hD := left2 hDa
    refine lv_dup hx hb dX15_init_511 rfl ?_
    refine lv_bipush (v := 60) hx hb dX15_init_512 (by decide) ?_
    refine W.eq (g2 := F0 m 514 ls [.int (nI 60), .ref q_480, .ref q_480, .int (nI j), .ref q_21]) rfl ?_
    have hFc := free1 hDa hS hA
    have hPq := right1 hPa
    refine va_callv (va_runI (As := [.int (nI 60)]) (rest := [.ref q_480, .int (nI j), .ref q_21]) ⟨hx, hb, hml, hown, hts⟩ (k_X14_init l dC dI cs gm H.size q_480 60 (ρ + 4 + j + 100) (by omega)) ⟨callB_of 1 hts (gi kt_1036) rfl rfl rfl (hts _ kt_676) (hts _ kt_1122) (by decide +kernel) ⟨Nat.le_of_ble_eq_true rfl, Nat.le_of_ble_eq_true rfl⟩, rfl, (hts _ kt_1038)⟩ ⟨fun a U g mk q => ⟨q.1, PTm.calling q.2⟩, fun U hU hWm => ⟨rfl, PTm.mk hU hWm hPq hK one1 hE (fun a _ => shm.raw rfl)⟩⟩ rfl rfl hl.1 rfl (lv_room (Nat.le_of_ble_eq_true rfl)) dX15_init_514 ⟨by show _ + 1 ≤ 254; omega, by show _ + 60 ≤ 82375; omega⟩) hS (fun q _ h => hFc q h) hFc (fun u t H1 locs ht hvm hw hB hz1 hk1 hS => ?_)
    obtain ⟨L2, F2, ty2, r_481, hN2, hc1, hc2⟩ := hB
    rw [ht] at hN2
    obtain ⟨L, ty, F_482, hN9, hold, holdF, hnew, hnewF⟩ := join1m hPa hDa hO hW hk1 hFc hN2
    obtain ⟨hP, hD, hO, hW⟩ := hN9
    generalize H1 = H at hP hS ⊢
    have hL_q_480 := (hnew _ hc1).1
    have hT_q_480 := (hnew _ hc1).2.trans hc2
    replace hT_h0 := (hold _ hL_h0).2.trans hT_h0
    replace hF_h0 := (holdF _ hL_h0).1.trans hF_h0
    replace hL_h0 := (hold _ hL_h0).1
    replace hT_q_21 := (hold _ hL_q_21).2.trans hT_q_21
    replace hF_q_21 := (holdF _ hL_q_21).1.trans hF_q_21
    replace hL_q_21 := (hold _ hL_q_21).1
    replace hT_q_27 := (hold _ hL_q_27).2.trans hT_q_27
    replace hF_q_27 := (holdF _ hL_q_27).1.trans hF_q_27
    replace hL_q_27 := (hold _ hL_q_27).1
    replace hT_q_50 := (hold _ hL_q_50).2.trans hT_q_50
    replace hF_q_50 := (holdF _ hL_q_50).1.trans hF_q_50
    replace hL_q_50 := (hold _ hL_q_50).1
    replace hfs := gr_cons hold hfs hL_q_480 hT_q_480
    have hu2 := hu2.keep hold
    have hu3 := hu3.keep hold
    obtain ⟨hi_483, ht_484, hq_485⟩ := hW.txt hL_q_480 hT_q_480
    obtain ⟨z_486, hF_487, hq_488⟩ := hO.txt hL_q_480 hT_q_480
    refine pg_aast (r := (RX14, TX14, 2)) hx hb hK hP hD hS hL_q_21 7 14 hF_q_21 rfl hL_q_480 hF_487 rfl (vp_in_nI (by omega) (by omega)) dX15_init_517 (fun H locs hP hD hS => ?_)
    obtain ⟨F_489, he_490, hP, hD, hO⟩ : ∃ G, G = va_up F_482 q_21 (.inl (cs 23, 40, .inr (.inr (.inr (.inr (va_up fa ((nI j)).toNatClampNeg (some q_480))))))) ∧ va_P (dC, dI) vwCl (va_pl L G) H ∧ va_D A (va_pl L G) ∧ OKm cs ty gm L G := ⟨_, rfl, hP, hD, hO.up (shm.raw hT_q_21)⟩
    have hF_491 : F_489 q_21 = .inl (cs 23, 40, .inr (.inr (.inr (.inr (va_up fa ((nI j)).toNatClampNeg (some q_480)))))) := by rw [he_490]; exact up_self
    have hF_492 : F_489 h0 = .inr (15, (.ref q_1) :: (.int 0) :: (.int 0) :: (.int 0) :: (.ref q_6) :: (.ref q_11) :: (.ref q_16) :: (.ref q_21) :: (.ref q_27) :: (.ref q_34) :: (.ref q_42) :: (.int 0) :: (.int 0) :: (.ref q_50) :: (.int 0) :: (.int 0) :: (.ref q_58) :: (.int 0) :: (.int 0) :: (.int 0) :: (.int 0) :: (.int 0) :: (.int 0) :: (.ref q_67) :: (.ref q_75) :: (.ref q_83) :: (.ref q_91) :: (.ref q_99) :: (.ref q_107) :: (.ref q_115) :: (.int 0) :: (.int 0) :: (.int 0) :: (.int 0) :: (.ref q_123) :: (.ref q_132) :: (.ref q_144) :: (.ref q_156) :: (.ref q_168) :: (.ref q_181) :: (.ref q_189) :: (.ref q_197) :: (.ref q_205) :: (.ref q_213) :: (.ref q_221) :: (.ref q_229) :: (.ref q_237) :: (.ref q_245) :: (.ref q_253) :: (.ref q_261) :: (.ref q_270) :: (.ref q_279) :: (.int 0) :: (.int 0) :: (.int 0) :: (.ref q_287) :: (.ref q_428) :: (.ref q_437) :: (.ref q_446) :: []) := by rw [he_490, up_ne hne_h0_q_21]; exact hF_h0
    have hF_493 : F_489 q_27 = .inl (cs 23, 40, .inr (.inr (.inr (.inr fb)))) := by rw [he_490, up_ne hne_q_21_q_27.symm]; exact hF_q_27
    have hF_494 : F_489 q_50 = .inl (cs 23, 13, .inr (.inr (.inr (.inr (fun _ => none))))) := by rw [he_490, up_ne hne_q_21_q_50.symm]; exact hF_q_50
    have hu2 := hu2.add (by omega) hL_q_480 ⟨_, hT_q_480⟩
    refine lv_aload_n hx hb dX15_init_518 rfl (lv_at hl 1 rfl) ?_
    refine pg_get (ci := 15) (v := .ref q_27) (C := RX15) (T := TX15) (N := 59) hx hb hts it_15 hown hK hP hL_h0 hF_492 rfl 8 (by decide) (hts _ kt_732) (fun _ h9 => h9) rfl dX15_init_519 ?_
    refine lv_iload_n hx hb dX15_init_522 rfl (lv_at hl 0 rfl) ?_
    refine va_new (ci := 14) (fs := [.null, .int 0]) (C := RX14) (T := TX14) (N := 2) hx hb hts it_14 tyX14 tyX14_ok hown (hts _ kt_1121) (hts _ kt_1035) (hts _ kt_676) hK hP hD hS hA rfl df_14 (by show _ + 1 ≤ 254; omega) (by show _ + 2 ≤ 82375; omega) dX15_init_523 (fun q_495 H hPa hDa hS => ?_)
    have hP := left1 hPa
    have hD := left2 hDa
    refine lv_dup hx hb dX15_init_526 rfl ?_
    refine lv_sipush (v := 700) hx hb dX15_init_527 (by decide) ?_
    refine W.eq (g2 := F0 m 530 ls [.int (nI 700), .ref q_495, .ref q_495, .int (nI j), .ref q_27]) rfl ?_
    have hFc := free1 hDa hS hA
    have hPq := right1 hPa
    refine va_callv (va_runI (As := [.int (nI 700)]) (rest := [.ref q_495, .int (nI j), .ref q_27]) ⟨hx, hb, hml, hown, hts⟩ (k_X14_init l dC dI cs gm H.size q_495 700 (ρ + 50 + j + 100) (by omega)) ⟨callB_of 1 hts (gi kt_1036) rfl rfl rfl (hts _ kt_676) (hts _ kt_1122) (by decide +kernel) ⟨Nat.le_of_ble_eq_true rfl, Nat.le_of_ble_eq_true rfl⟩, rfl, (hts _ kt_1038)⟩ ⟨fun a U g mk q => ⟨q.1, PTm.calling q.2⟩, fun U hU hWm => ⟨rfl, PTm.mk hU hWm hPq hK one1 hE (fun a _ => shm.raw rfl)⟩⟩ rfl rfl hl.1 rfl (lv_room (Nat.le_of_ble_eq_true rfl)) dX15_init_530 ⟨by show _ + 1 ≤ 254; omega, by show _ + 700 ≤ 82375; omega⟩) hS (fun q _ h => hFc q h) hFc (fun u t H1 locs ht hvm hw hB hz1 hk1 hS => ?_)
    obtain ⟨L2, F2, ty2, r_496, hN2, hc1, hc2⟩ := hB
    rw [ht] at hN2
    obtain ⟨L, ty, F_497, hN9, hold, holdF, hnew, hnewF⟩ := join1m hPa hDa hO hW hk1 hFc hN2
    obtain ⟨hP, hD, hO, hW⟩ := hN9
    generalize H1 = H at hP hS ⊢
    have hL_q_495 := (hnew _ hc1).1
    have hT_q_495 := (hnew _ hc1).2.trans hc2
    replace hT_h0 := (hold _ hL_h0).2.trans hT_h0
    have hF_h0 := (holdF _ hL_h0).1.trans hF_492
    replace hL_h0 := (hold _ hL_h0).1
    replace hT_q_21 := (hold _ hL_q_21).2.trans hT_q_21
    have hF_q_21 := (holdF _ hL_q_21).1.trans hF_491
    replace hL_q_21 := (hold _ hL_q_21).1
    replace hT_q_27 := (hold _ hL_q_27).2.trans hT_q_27
    have hF_q_27 := (holdF _ hL_q_27).1.trans hF_493
    replace hL_q_27 := (hold _ hL_q_27).1
    replace hT_q_50 := (hold _ hL_q_50).2.trans hT_q_50
    have hF_q_50 := (holdF _ hL_q_50).1.trans hF_494
    replace hL_q_50 := (hold _ hL_q_50).1
    replace hfs := gr_cons hold hfs hL_q_495 hT_q_495
    have hu2 := hu2.keep hold
    have hu3 := hu3.keep hold
    obtain ⟨hi_498, ht_499, hq_500⟩ := hW.txt hL_q_495 hT_q_495
    obtain ⟨z_501, hF_502, hq_503⟩ := hO.txt hL_q_495 hT_q_495
    refine pg_aast (r := (RX14, TX14, 2)) hx hb hK hP hD hS hL_q_27 7 14 hF_q_27 rfl hL_q_495 hF_502 rfl (vp_in_nI (by omega) (by omega)) dX15_init_533 (fun H locs hP hD hS => ?_)
    obtain ⟨F_504, he_505, hP, hD, hO⟩ : ∃ G, G = va_up F_497 q_27 (.inl (cs 23, 40, .inr (.inr (.inr (.inr (va_up fb ((nI j)).toNatClampNeg (some q_495))))))) ∧ va_P (dC, dI) vwCl (va_pl L G) H ∧ va_D A (va_pl L G) ∧ OKm cs ty gm L G := ⟨_, rfl, hP, hD, hO.up (shm.raw hT_q_27)⟩
    have hF_506 : F_504 q_27 = .inl (cs 23, 40, .inr (.inr (.inr (.inr (va_up fb ((nI j)).toNatClampNeg (some q_495)))))) := by rw [he_505]; exact up_self
    have hF_507 : F_504 q_21 = .inl (cs 23, 40, .inr (.inr (.inr (.inr (va_up fa ((nI j)).toNatClampNeg (some q_480)))))) := by rw [he_505, up_ne hne_q_21_q_27]; exact hF_q_21
    have hF_508 : F_504 h0 = .inr (15, (.ref q_1) :: (.int 0) :: (.int 0) :: (.int 0) :: (.ref q_6) :: (.ref q_11) :: (.ref q_16) :: (.ref q_21) :: (.ref q_27) :: (.ref q_34) :: (.ref q_42) :: (.int 0) :: (.int 0) :: (.ref q_50) :: (.int 0) :: (.int 0) :: (.ref q_58) :: (.int 0) :: (.int 0) :: (.int 0) :: (.int 0) :: (.int 0) :: (.int 0) :: (.ref q_67) :: (.ref q_75) :: (.ref q_83) :: (.ref q_91) :: (.ref q_99) :: (.ref q_107) :: (.ref q_115) :: (.int 0) :: (.int 0) :: (.int 0) :: (.int 0) :: (.ref q_123) :: (.ref q_132) :: (.ref q_144) :: (.ref q_156) :: (.ref q_168) :: (.ref q_181) :: (.ref q_189) :: (.ref q_197) :: (.ref q_205) :: (.ref q_213) :: (.ref q_221) :: (.ref q_229) :: (.ref q_237) :: (.ref q_245) :: (.ref q_253) :: (.ref q_261) :: (.ref q_270) :: (.ref q_279) :: (.int 0) :: (.int 0) :: (.int 0) :: (.ref q_287) :: (.ref q_428) :: (.ref q_437) :: (.ref q_446) :: []) := by rw [he_505, up_ne hne_h0_q_27]; exact hF_h0
    have hF_509 : F_504 q_50 = .inl (cs 23, 13, .inr (.inr (.inr (.inr (fun _ => none))))) := by rw [he_505, up_ne hne_q_27_q_50.symm]; exact hF_q_50
    have hu3 := hu3.add (by omega) hL_q_495 ⟨_, hT_q_495⟩
    refine lv_iinc (v := (nI (j + 1))) (lv' := [(1, .int (nI (j + 1))), (0, .ref h0)]) hx hb dX15_init_534 hl (k := 0) rfl (nI_1 _) (by decide) rfl (fun ls hl => ?_)
    refine lv_goto (tgt := 497) hx hb dX15_init_537 (by decide) ?_
    refine W.widen (k := 68 + 4 * (j + 1)) (n := 50996 + 764 * (j + 1)) (by omega) (by omega) ?_
    exact ih_457 ((j + 1), (va_up fa ((nI j)).toNatClampNeg (some q_480)), (va_up fb ((nI j)).toNatClampNeg (some q_495))) ty L F_504 ⟨⟨by omega, hu2, hu3⟩, hL_h0, hT_h0, hF_508, hL_q_21, hT_q_21, hF_507, hL_q_27, hT_q_27, hF_506, hL_q_50, hT_q_50, hF_509, fsub hfs (fun _ h => List.mem_cons_of_mem _ (List.mem_cons_of_mem _ (h)))⟩ (by show 40 - (j + 1) < 40 - j; omega) _ _ ⟨hP, hD, hO, hW⟩ hS ls (lv_sub hl [0, 1] rfl)
