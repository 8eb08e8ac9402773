theorem dL_law_0 : decode cL_law 0 = .ok (.new 7, 3) := by decide +kernel
theorem dL_law_3 : decode cL_law 3 = .ok (.dup, 1) := by decide +kernel
theorem dL_law_4 : decode cL_law 4 = .ok (.invokespecial 9, 3) := by decide +kernel
theorem dL_law_7 : decode cL_law 7 = .ok (.astore_n 1, 1) := by decide +kernel
theorem dL_law_8 : decode cL_law 8 = .ok (.new 10, 3) := by decide +kernel
theorem dL_law_11 : decode cL_law 11 = .ok (.dup, 1) := by decide +kernel
theorem dL_law_12 : decode cL_law 12 = .ok (.invokespecial 12, 3) := by decide +kernel
theorem dL_law_15 : decode cL_law 15 = .ok (.astore_n 2, 1) := by decide +kernel
theorem dL_law_16 : decode cL_law 16 = .ok (.iconst 0, 1) := by decide +kernel
theorem dL_law_17 : decode cL_law 17 = .ok (.istore_n 3, 1) := by decide +kernel
theorem dL_law_18 : decode cL_law 18 = .ok (.iload_n 3, 1) := by decide +kernel
theorem dL_law_19 : decode cL_law 19 = .ok (.aload_n 0, 1) := by decide +kernel
theorem dL_law_20 : decode cL_law 20 = .ok (.arraylength, 1) := by decide +kernel
theorem dL_law_21 : decode cL_law 21 = .ok (.bipush 6, 2) := by decide +kernel
theorem dL_law_23 : decode cL_law 23 = .ok (.isub, 1) := by decide +kernel
theorem dL_law_24 : decode cL_law 24 = .ok (.if_icmp .gt 504, 3) := by decide +kernel
theorem dL_law_27 : decode cL_law 27 = .ok (.aload_n 0, 1) := by decide +kernel
theorem dL_law_28 : decode cL_law 28 = .ok (.iload_n 3, 1) := by decide +kernel
theorem dL_law_29 : decode cL_law 29 = .ok (.iaload, 1) := by decide +kernel
theorem dL_law_30 : decode cL_law 30 = .ok (.bipush 15, 2) := by decide +kernel
theorem dL_law_32 : decode cL_law 32 = .ok (.iand, 1) := by decide +kernel
theorem dL_law_33 : decode cL_law 33 = .ok (.tableswitch 489 0 15 #[79, 142, 165, 198, 211, 234, 247, 270, 283, 296, 329, 368, 417, 430, 453, 466], 79) := by decide +kernel
theorem dL_law_112 : decode cL_law 112 = .ok (.aload_n 1, 1) := by decide +kernel
theorem dL_law_113 : decode cL_law 113 = .ok (.aload_n 0, 1) := by decide +kernel
theorem dL_law_114 : decode cL_law 114 = .ok (.iload_n 3, 1) := by decide +kernel
theorem dL_law_115 : decode cL_law 115 = .ok (.iconst 1, 1) := by decide +kernel
theorem dL_law_116 : decode cL_law 116 = .ok (.iadd, 1) := by decide +kernel
theorem dL_law_117 : decode cL_law 117 = .ok (.iaload, 1) := by decide +kernel
theorem dL_law_118 : decode cL_law 118 = .ok (.aload_n 0, 1) := by decide +kernel
theorem dL_law_119 : decode cL_law 119 = .ok (.iload_n 3, 1) := by decide +kernel
theorem dL_law_120 : decode cL_law 120 = .ok (.iconst 2, 1) := by decide +kernel
theorem dL_law_121 : decode cL_law 121 = .ok (.iadd, 1) := by decide +kernel
theorem dL_law_122 : decode cL_law 122 = .ok (.iaload, 1) := by decide +kernel
theorem dL_law_123 : decode cL_law 123 = .ok (.aload_n 0, 1) := by decide +kernel
theorem dL_law_124 : decode cL_law 124 = .ok (.iload_n 3, 1) := by decide +kernel
theorem dL_law_125 : decode cL_law 125 = .ok (.iconst 3, 1) := by decide +kernel
theorem dL_law_126 : decode cL_law 126 = .ok (.iadd, 1) := by decide +kernel
theorem dL_law_127 : decode cL_law 127 = .ok (.iaload, 1) := by decide +kernel
theorem dL_law_128 : decode cL_law 128 = .ok (.aload_n 0, 1) := by decide +kernel
theorem dL_law_129 : decode cL_law 129 = .ok (.iload_n 3, 1) := by decide +kernel
theorem dL_law_130 : decode cL_law 130 = .ok (.iconst 4, 1) := by decide +kernel
theorem dL_law_131 : decode cL_law 131 = .ok (.iadd, 1) := by decide +kernel
theorem dL_law_132 : decode cL_law 132 = .ok (.iaload, 1) := by decide +kernel
theorem dL_law_133 : decode cL_law 133 = .ok (.aload_n 0, 1) := by decide +kernel
theorem dL_law_134 : decode cL_law 134 = .ok (.iload_n 3, 1) := by decide +kernel
theorem dL_law_135 : decode cL_law 135 = .ok (.iconst 5, 1) := by decide +kernel
theorem dL_law_136 : decode cL_law 136 = .ok (.iadd, 1) := by decide +kernel
theorem dL_law_137 : decode cL_law 137 = .ok (.iaload, 1) := by decide +kernel
theorem dL_law_138 : decode cL_law 138 = .ok (.invokevirtual 13, 3) := by decide +kernel
theorem dL_law_141 : decode cL_law 141 = .ok (.pop, 1) := by decide +kernel
theorem dL_law_142 : decode cL_law 142 = .ok (.aload_n 2, 1) := by decide +kernel
theorem dL_law_143 : decode cL_law 143 = .ok (.aload_n 0, 1) := by decide +kernel
theorem dL_law_144 : decode cL_law 144 = .ok (.iload_n 3, 1) := by decide +kernel
theorem dL_law_145 : decode cL_law 145 = .ok (.iconst 1, 1) := by decide +kernel
theorem dL_law_146 : decode cL_law 146 = .ok (.iadd, 1) := by decide +kernel
theorem dL_law_147 : decode cL_law 147 = .ok (.iaload, 1) := by decide +kernel
theorem dL_law_148 : decode cL_law 148 = .ok (.aload_n 0, 1) := by decide +kernel
theorem dL_law_149 : decode cL_law 149 = .ok (.iload_n 3, 1) := by decide +kernel
theorem dL_law_150 : decode cL_law 150 = .ok (.iconst 2, 1) := by decide +kernel
theorem dL_law_151 : decode cL_law 151 = .ok (.iadd, 1) := by decide +kernel
theorem dL_law_152 : decode cL_law 152 = .ok (.iaload, 1) := by decide +kernel
theorem dL_law_153 : decode cL_law 153 = .ok (.aload_n 0, 1) := by decide +kernel
theorem dL_law_154 : decode cL_law 154 = .ok (.iload_n 3, 1) := by decide +kernel
theorem dL_law_155 : decode cL_law 155 = .ok (.iconst 3, 1) := by decide +kernel
theorem dL_law_156 : decode cL_law 156 = .ok (.iadd, 1) := by decide +kernel
theorem dL_law_157 : decode cL_law 157 = .ok (.iaload, 1) := by decide +kernel
theorem dL_law_158 : decode cL_law 158 = .ok (.aload_n 0, 1) := by decide +kernel
theorem dL_law_159 : decode cL_law 159 = .ok (.iload_n 3, 1) := by decide +kernel
theorem dL_law_160 : decode cL_law 160 = .ok (.iconst 4, 1) := by decide +kernel
theorem dL_law_161 : decode cL_law 161 = .ok (.iadd, 1) := by decide +kernel
theorem dL_law_162 : decode cL_law 162 = .ok (.iaload, 1) := by decide +kernel
theorem dL_law_163 : decode cL_law 163 = .ok (.aload_n 0, 1) := by decide +kernel
theorem dL_law_164 : decode cL_law 164 = .ok (.iload_n 3, 1) := by decide +kernel
theorem dL_law_165 : decode cL_law 165 = .ok (.iconst 5, 1) := by decide +kernel
theorem dL_law_166 : decode cL_law 166 = .ok (.iadd, 1) := by decide +kernel
theorem dL_law_167 : decode cL_law 167 = .ok (.iaload, 1) := by decide +kernel
theorem dL_law_168 : decode cL_law 168 = .ok (.invokevirtual 17, 3) := by decide +kernel
theorem dL_law_171 : decode cL_law 171 = .ok (.pop, 1) := by decide +kernel
theorem dL_law_172 : decode cL_law 172 = .ok (.goto 350, 3) := by decide +kernel
theorem dL_law_175 : decode cL_law 175 = .ok (.aload_n 1, 1) := by decide +kernel
theorem dL_law_176 : decode cL_law 176 = .ok (.aload_n 0, 1) := by decide +kernel
theorem dL_law_177 : decode cL_law 177 = .ok (.iload_n 3, 1) := by decide +kernel
theorem dL_law_178 : decode cL_law 178 = .ok (.iconst 1, 1) := by decide +kernel
theorem dL_law_179 : decode cL_law 179 = .ok (.iadd, 1) := by decide +kernel
theorem dL_law_180 : decode cL_law 180 = .ok (.iaload, 1) := by decide +kernel
theorem dL_law_181 : decode cL_law 181 = .ok (.invokevirtual 18, 3) := by decide +kernel
theorem dL_law_184 : decode cL_law 184 = .ok (.pop, 1) := by decide +kernel
theorem dL_law_185 : decode cL_law 185 = .ok (.aload_n 2, 1) := by decide +kernel
theorem dL_law_186 : decode cL_law 186 = .ok (.aload_n 0, 1) := by decide +kernel
theorem dL_law_187 : decode cL_law 187 = .ok (.iload_n 3, 1) := by decide +kernel
theorem dL_law_188 : decode cL_law 188 = .ok (.iconst 1, 1) := by decide +kernel
theorem dL_law_189 : decode cL_law 189 = .ok (.iadd, 1) := by decide +kernel
theorem dL_law_190 : decode cL_law 190 = .ok (.iaload, 1) := by decide +kernel
theorem dL_law_191 : decode cL_law 191 = .ok (.invokevirtual 22, 3) := by decide +kernel
theorem dL_law_194 : decode cL_law 194 = .ok (.pop, 1) := by decide +kernel
theorem dL_law_195 : decode cL_law 195 = .ok (.goto 327, 3) := by decide +kernel
theorem dL_law_198 : decode cL_law 198 = .ok (.aload_n 1, 1) := by decide +kernel
theorem dL_law_199 : decode cL_law 199 = .ok (.aload_n 0, 1) := by decide +kernel
theorem dL_law_200 : decode cL_law 200 = .ok (.iload_n 3, 1) := by decide +kernel
theorem dL_law_201 : decode cL_law 201 = .ok (.iconst 1, 1) := by decide +kernel
theorem dL_law_202 : decode cL_law 202 = .ok (.iadd, 1) := by decide +kernel
theorem dL_law_203 : decode cL_law 203 = .ok (.iaload, 1) := by decide +kernel
theorem dL_law_204 : decode cL_law 204 = .ok (.aload_n 0, 1) := by decide +kernel
theorem dL_law_205 : decode cL_law 205 = .ok (.iload_n 3, 1) := by decide +kernel
theorem dL_law_206 : decode cL_law 206 = .ok (.iconst 2, 1) := by decide +kernel
theorem dL_law_207 : decode cL_law 207 = .ok (.iadd, 1) := by decide +kernel
theorem dL_law_208 : decode cL_law 208 = .ok (.iaload, 1) := by decide +kernel
theorem dL_law_209 : decode cL_law 209 = .ok (.invokevirtual 23, 3) := by decide +kernel
theorem dL_law_212 : decode cL_law 212 = .ok (.pop, 1) := by decide +kernel
theorem dL_law_213 : decode cL_law 213 = .ok (.aload_n 2, 1) := by decide +kernel
theorem dL_law_214 : decode cL_law 214 = .ok (.aload_n 0, 1) := by decide +kernel
theorem dL_law_215 : decode cL_law 215 = .ok (.iload_n 3, 1) := by decide +kernel
theorem dL_law_216 : decode cL_law 216 = .ok (.iconst 1, 1) := by decide +kernel
theorem dL_law_217 : decode cL_law 217 = .ok (.iadd, 1) := by decide +kernel
theorem dL_law_218 : decode cL_law 218 = .ok (.iaload, 1) := by decide +kernel
theorem dL_law_219 : decode cL_law 219 = .ok (.aload_n 0, 1) := by decide +kernel
theorem dL_law_220 : decode cL_law 220 = .ok (.iload_n 3, 1) := by decide +kernel
theorem dL_law_221 : decode cL_law 221 = .ok (.iconst 2, 1) := by decide +kernel
theorem dL_law_222 : decode cL_law 222 = .ok (.iadd, 1) := by decide +kernel
theorem dL_law_223 : decode cL_law 223 = .ok (.iaload, 1) := by decide +kernel
theorem dL_law_224 : decode cL_law 224 = .ok (.invokevirtual 27, 3) := by decide +kernel
theorem dL_law_227 : decode cL_law 227 = .ok (.pop, 1) := by decide +kernel
theorem dL_law_228 : decode cL_law 228 = .ok (.goto 294, 3) := by decide +kernel
theorem dL_law_231 : decode cL_law 231 = .ok (.aload_n 1, 1) := by decide +kernel
theorem dL_law_232 : decode cL_law 232 = .ok (.invokevirtual 28, 3) := by decide +kernel
theorem dL_law_235 : decode cL_law 235 = .ok (.pop, 1) := by decide +kernel
theorem dL_law_236 : decode cL_law 236 = .ok (.aload_n 2, 1) := by decide +kernel
theorem dL_law_237 : decode cL_law 237 = .ok (.invokevirtual 32, 3) := by decide +kernel
theorem dL_law_240 : decode cL_law 240 = .ok (.pop, 1) := by decide +kernel
theorem dL_law_241 : decode cL_law 241 = .ok (.goto 281, 3) := by decide +kernel
theorem dL_law_244 : decode cL_law 244 = .ok (.aload_n 1, 1) := by decide +kernel
theorem dL_law_245 : decode cL_law 245 = .ok (.aload_n 0, 1) := by decide +kernel
theorem dL_law_246 : decode cL_law 246 = .ok (.iload_n 3, 1) := by decide +kernel
theorem dL_law_247 : decode cL_law 247 = .ok (.iconst 1, 1) := by decide +kernel
theorem dL_law_248 : decode cL_law 248 = .ok (.iadd, 1) := by decide +kernel
theorem dL_law_249 : decode cL_law 249 = .ok (.iaload, 1) := by decide +kernel
theorem dL_law_250 : decode cL_law 250 = .ok (.invokevirtual 33, 3) := by decide +kernel
theorem dL_law_253 : decode cL_law 253 = .ok (.pop, 1) := by decide +kernel
theorem dL_law_254 : decode cL_law 254 = .ok (.aload_n 2, 1) := by decide +kernel
theorem dL_law_255 : decode cL_law 255 = .ok (.aload_n 0, 1) := by decide +kernel
theorem dL_law_256 : decode cL_law 256 = .ok (.iload_n 3, 1) := by decide +kernel
theorem dL_law_257 : decode cL_law 257 = .ok (.iconst 1, 1) := by decide +kernel
theorem dL_law_258 : decode cL_law 258 = .ok (.iadd, 1) := by decide +kernel
theorem dL_law_259 : decode cL_law 259 = .ok (.iaload, 1) := by decide +kernel
theorem dL_law_260 : decode cL_law 260 = .ok (.invokevirtual 36, 3) := by decide +kernel
theorem dL_law_263 : decode cL_law 263 = .ok (.pop, 1) := by decide +kernel
theorem dL_law_264 : decode cL_law 264 = .ok (.goto 258, 3) := by decide +kernel
theorem dL_law_267 : decode cL_law 267 = .ok (.aload_n 1, 1) := by decide +kernel
theorem dL_law_268 : decode cL_law 268 = .ok (.invokevirtual 37, 3) := by decide +kernel
theorem dL_law_271 : decode cL_law 271 = .ok (.pop, 1) := by decide +kernel
theorem dL_law_272 : decode cL_law 272 = .ok (.aload_n 2, 1) := by decide +kernel
theorem dL_law_273 : decode cL_law 273 = .ok (.invokevirtual 40, 3) := by decide +kernel
theorem dL_law_276 : decode cL_law 276 = .ok (.pop, 1) := by decide +kernel
theorem dL_law_277 : decode cL_law 277 = .ok (.goto 245, 3) := by decide +kernel
theorem dL_law_280 : decode cL_law 280 = .ok (.aload_n 1, 1) := by decide +kernel
theorem dL_law_281 : decode cL_law 281 = .ok (.aload_n 0, 1) := by decide +kernel
theorem dL_law_282 : decode cL_law 282 = .ok (.iload_n 3, 1) := by decide +kernel
theorem dL_law_283 : decode cL_law 283 = .ok (.iconst 1, 1) := by decide +kernel
theorem dL_law_284 : decode cL_law 284 = .ok (.iadd, 1) := by decide +kernel
theorem dL_law_285 : decode cL_law 285 = .ok (.iaload, 1) := by decide +kernel
theorem dL_law_286 : decode cL_law 286 = .ok (.invokevirtual 41, 3) := by decide +kernel
theorem dL_law_289 : decode cL_law 289 = .ok (.pop, 1) := by decide +kernel
theorem dL_law_290 : decode cL_law 290 = .ok (.aload_n 2, 1) := by decide +kernel
theorem dL_law_291 : decode cL_law 291 = .ok (.aload_n 0, 1) := by decide +kernel
theorem dL_law_292 : decode cL_law 292 = .ok (.iload_n 3, 1) := by decide +kernel
theorem dL_law_293 : decode cL_law 293 = .ok (.iconst 1, 1) := by decide +kernel
theorem dL_law_294 : decode cL_law 294 = .ok (.iadd, 1) := by decide +kernel
theorem dL_law_295 : decode cL_law 295 = .ok (.iaload, 1) := by decide +kernel
theorem dL_law_296 : decode cL_law 296 = .ok (.invokevirtual 44, 3) := by decide +kernel
theorem dL_law_299 : decode cL_law 299 = .ok (.pop, 1) := by decide +kernel
theorem dL_law_300 : decode cL_law 300 = .ok (.goto 222, 3) := by decide +kernel
theorem dL_law_303 : decode cL_law 303 = .ok (.aload_n 1, 1) := by decide +kernel
theorem dL_law_304 : decode cL_law 304 = .ok (.invokevirtual 45, 3) := by decide +kernel
theorem dL_law_307 : decode cL_law 307 = .ok (.pop, 1) := by decide +kernel
theorem dL_law_308 : decode cL_law 308 = .ok (.aload_n 2, 1) := by decide +kernel
theorem dL_law_309 : decode cL_law 309 = .ok (.invokevirtual 48, 3) := by decide +kernel
theorem dL_law_312 : decode cL_law 312 = .ok (.pop, 1) := by decide +kernel
theorem dL_law_313 : decode cL_law 313 = .ok (.goto 209, 3) := by decide +kernel
theorem dL_law_316 : decode cL_law 316 = .ok (.aload_n 1, 1) := by decide +kernel
theorem dL_law_317 : decode cL_law 317 = .ok (.invokevirtual 49, 3) := by decide +kernel
theorem dL_law_320 : decode cL_law 320 = .ok (.pop, 1) := by decide +kernel
theorem dL_law_321 : decode cL_law 321 = .ok (.aload_n 2, 1) := by decide +kernel
theorem dL_law_322 : decode cL_law 322 = .ok (.invokevirtual 52, 3) := by decide +kernel
theorem dL_law_325 : decode cL_law 325 = .ok (.pop, 1) := by decide +kernel
theorem dL_law_326 : decode cL_law 326 = .ok (.goto 196, 3) := by decide +kernel
theorem dL_law_329 : decode cL_law 329 = .ok (.aload_n 1, 1) := by decide +kernel
theorem dL_law_330 : decode cL_law 330 = .ok (.aload_n 0, 1) := by decide +kernel
theorem dL_law_331 : decode cL_law 331 = .ok (.iload_n 3, 1) := by decide +kernel
theorem dL_law_332 : decode cL_law 332 = .ok (.iconst 1, 1) := by decide +kernel
theorem dL_law_333 : decode cL_law 333 = .ok (.iadd, 1) := by decide +kernel
theorem dL_law_334 : decode cL_law 334 = .ok (.iaload, 1) := by decide +kernel
theorem dL_law_335 : decode cL_law 335 = .ok (.aload_n 0, 1) := by decide +kernel
theorem dL_law_336 : decode cL_law 336 = .ok (.iload_n 3, 1) := by decide +kernel
theorem dL_law_337 : decode cL_law 337 = .ok (.iconst 2, 1) := by decide +kernel
theorem dL_law_338 : decode cL_law 338 = .ok (.iadd, 1) := by decide +kernel
theorem dL_law_339 : decode cL_law 339 = .ok (.iaload, 1) := by decide +kernel
theorem dL_law_340 : decode cL_law 340 = .ok (.invokevirtual 53, 3) := by decide +kernel
theorem dL_law_343 : decode cL_law 343 = .ok (.pop, 1) := by decide +kernel
theorem dL_law_344 : decode cL_law 344 = .ok (.aload_n 2, 1) := by decide +kernel
theorem dL_law_345 : decode cL_law 345 = .ok (.aload_n 0, 1) := by decide +kernel
theorem dL_law_346 : decode cL_law 346 = .ok (.iload_n 3, 1) := by decide +kernel
theorem dL_law_347 : decode cL_law 347 = .ok (.iconst 1, 1) := by decide +kernel
theorem dL_law_348 : decode cL_law 348 = .ok (.iadd, 1) := by decide +kernel
theorem dL_law_349 : decode cL_law 349 = .ok (.iaload, 1) := by decide +kernel
theorem dL_law_350 : decode cL_law 350 = .ok (.aload_n 0, 1) := by decide +kernel
theorem dL_law_351 : decode cL_law 351 = .ok (.iload_n 3, 1) := by decide +kernel
theorem dL_law_352 : decode cL_law 352 = .ok (.iconst 2, 1) := by decide +kernel
theorem dL_law_353 : decode cL_law 353 = .ok (.iadd, 1) := by decide +kernel
theorem dL_law_354 : decode cL_law 354 = .ok (.iaload, 1) := by decide +kernel
theorem dL_law_355 : decode cL_law 355 = .ok (.invokevirtual 56, 3) := by decide +kernel
theorem dL_law_358 : decode cL_law 358 = .ok (.pop, 1) := by decide +kernel
theorem dL_law_359 : decode cL_law 359 = .ok (.goto 163, 3) := by decide +kernel
theorem dL_law_362 : decode cL_law 362 = .ok (.aload_n 1, 1) := by decide +kernel
theorem dL_law_363 : decode cL_law 363 = .ok (.aload_n 0, 1) := by decide +kernel
theorem dL_law_364 : decode cL_law 364 = .ok (.iload_n 3, 1) := by decide +kernel
theorem dL_law_365 : decode cL_law 365 = .ok (.iconst 1, 1) := by decide +kernel
theorem dL_law_366 : decode cL_law 366 = .ok (.iadd, 1) := by decide +kernel
theorem dL_law_367 : decode cL_law 367 = .ok (.iaload, 1) := by decide +kernel
theorem dL_law_368 : decode cL_law 368 = .ok (.ifCond .eq 7, 3) := by decide +kernel
theorem dL_law_371 : decode cL_law 371 = .ok (.iconst 1, 1) := by decide +kernel
theorem dL_law_372 : decode cL_law 372 = .ok (.goto 4, 3) := by decide +kernel
theorem dL_law_375 : decode cL_law 375 = .ok (.iconst 0, 1) := by decide +kernel
theorem dL_law_376 : decode cL_law 376 = .ok (.invokevirtual 57, 3) := by decide +kernel
theorem dL_law_379 : decode cL_law 379 = .ok (.pop, 1) := by decide +kernel
theorem dL_law_380 : decode cL_law 380 = .ok (.aload_n 2, 1) := by decide +kernel
theorem dL_law_381 : decode cL_law 381 = .ok (.aload_n 0, 1) := by decide +kernel
theorem dL_law_382 : decode cL_law 382 = .ok (.iload_n 3, 1) := by decide +kernel
theorem dL_law_383 : decode cL_law 383 = .ok (.iconst 1, 1) := by decide +kernel
theorem dL_law_384 : decode cL_law 384 = .ok (.iadd, 1) := by decide +kernel
theorem dL_law_385 : decode cL_law 385 = .ok (.iaload, 1) := by decide +kernel
theorem dL_law_386 : decode cL_law 386 = .ok (.ifCond .eq 7, 3) := by decide +kernel
theorem dL_law_389 : decode cL_law 389 = .ok (.iconst 1, 1) := by decide +kernel
theorem dL_law_390 : decode cL_law 390 = .ok (.goto 4, 3) := by decide +kernel
theorem dL_law_393 : decode cL_law 393 = .ok (.iconst 0, 1) := by decide +kernel
theorem dL_law_394 : decode cL_law 394 = .ok (.invokevirtual 61, 3) := by decide +kernel
theorem dL_law_397 : decode cL_law 397 = .ok (.pop, 1) := by decide +kernel
theorem dL_law_398 : decode cL_law 398 = .ok (.goto 124, 3) := by decide +kernel
theorem dL_law_401 : decode cL_law 401 = .ok (.aload_n 1, 1) := by decide +kernel
theorem dL_law_402 : decode cL_law 402 = .ok (.aload_n 0, 1) := by decide +kernel
theorem dL_law_403 : decode cL_law 403 = .ok (.iload_n 3, 1) := by decide +kernel
theorem dL_law_404 : decode cL_law 404 = .ok (.iconst 1, 1) := by decide +kernel
theorem dL_law_405 : decode cL_law 405 = .ok (.iadd, 1) := by decide +kernel
theorem dL_law_406 : decode cL_law 406 = .ok (.iaload, 1) := by decide +kernel
theorem dL_law_407 : decode cL_law 407 = .ok (.aload_n 0, 1) := by decide +kernel
theorem dL_law_408 : decode cL_law 408 = .ok (.iload_n 3, 1) := by decide +kernel
theorem dL_law_409 : decode cL_law 409 = .ok (.iconst 2, 1) := by decide +kernel
theorem dL_law_410 : decode cL_law 410 = .ok (.iadd, 1) := by decide +kernel
theorem dL_law_411 : decode cL_law 411 = .ok (.iaload, 1) := by decide +kernel
theorem dL_law_412 : decode cL_law 412 = .ok (.ifCond .eq 7, 3) := by decide +kernel
theorem dL_law_415 : decode cL_law 415 = .ok (.iconst 1, 1) := by decide +kernel
theorem dL_law_416 : decode cL_law 416 = .ok (.goto 4, 3) := by decide +kernel
theorem dL_law_419 : decode cL_law 419 = .ok (.iconst 0, 1) := by decide +kernel
theorem dL_law_420 : decode cL_law 420 = .ok (.invokevirtual 62, 3) := by decide +kernel
theorem dL_law_423 : decode cL_law 423 = .ok (.pop, 1) := by decide +kernel
theorem dL_law_424 : decode cL_law 424 = .ok (.aload_n 2, 1) := by decide +kernel
theorem dL_law_425 : decode cL_law 425 = .ok (.aload_n 0, 1) := by decide +kernel
theorem dL_law_426 : decode cL_law 426 = .ok (.iload_n 3, 1) := by decide +kernel
theorem dL_law_427 : decode cL_law 427 = .ok (.iconst 1, 1) := by decide +kernel
theorem dL_law_428 : decode cL_law 428 = .ok (.iadd, 1) := by decide +kernel
theorem dL_law_429 : decode cL_law 429 = .ok (.iaload, 1) := by decide +kernel
theorem dL_law_430 : decode cL_law 430 = .ok (.aload_n 0, 1) := by decide +kernel
theorem dL_law_431 : decode cL_law 431 = .ok (.iload_n 3, 1) := by decide +kernel
theorem dL_law_432 : decode cL_law 432 = .ok (.iconst 2, 1) := by decide +kernel
theorem dL_law_433 : decode cL_law 433 = .ok (.iadd, 1) := by decide +kernel
theorem dL_law_434 : decode cL_law 434 = .ok (.iaload, 1) := by decide +kernel
theorem dL_law_435 : decode cL_law 435 = .ok (.ifCond .eq 7, 3) := by decide +kernel
theorem dL_law_438 : decode cL_law 438 = .ok (.iconst 1, 1) := by decide +kernel
theorem dL_law_439 : decode cL_law 439 = .ok (.goto 4, 3) := by decide +kernel
theorem dL_law_442 : decode cL_law 442 = .ok (.iconst 0, 1) := by decide +kernel
theorem dL_law_443 : decode cL_law 443 = .ok (.invokevirtual 66, 3) := by decide +kernel
theorem dL_law_446 : decode cL_law 446 = .ok (.pop, 1) := by decide +kernel
theorem dL_law_447 : decode cL_law 447 = .ok (.goto 75, 3) := by decide +kernel
theorem dL_law_450 : decode cL_law 450 = .ok (.aload_n 1, 1) := by decide +kernel
theorem dL_law_451 : decode cL_law 451 = .ok (.invokevirtual 67, 3) := by decide +kernel
theorem dL_law_454 : decode cL_law 454 = .ok (.pop, 1) := by decide +kernel
theorem dL_law_455 : decode cL_law 455 = .ok (.aload_n 2, 1) := by decide +kernel
theorem dL_law_456 : decode cL_law 456 = .ok (.invokevirtual 70, 3) := by decide +kernel
theorem dL_law_459 : decode cL_law 459 = .ok (.pop, 1) := by decide +kernel
theorem dL_law_460 : decode cL_law 460 = .ok (.goto 62, 3) := by decide +kernel
theorem dL_law_463 : decode cL_law 463 = .ok (.aload_n 1, 1) := by decide +kernel
theorem dL_law_464 : decode cL_law 464 = .ok (.aload_n 0, 1) := by decide +kernel
theorem dL_law_465 : decode cL_law 465 = .ok (.iload_n 3, 1) := by decide +kernel
theorem dL_law_466 : decode cL_law 466 = .ok (.iconst 1, 1) := by decide +kernel
theorem dL_law_467 : decode cL_law 467 = .ok (.iadd, 1) := by decide +kernel
theorem dL_law_468 : decode cL_law 468 = .ok (.iaload, 1) := by decide +kernel
theorem dL_law_469 : decode cL_law 469 = .ok (.invokevirtual 71, 3) := by decide +kernel
theorem dL_law_472 : decode cL_law 472 = .ok (.aload_n 2, 1) := by decide +kernel
theorem dL_law_473 : decode cL_law 473 = .ok (.aload_n 0, 1) := by decide +kernel
theorem dL_law_474 : decode cL_law 474 = .ok (.iload_n 3, 1) := by decide +kernel
theorem dL_law_475 : decode cL_law 475 = .ok (.iconst 1, 1) := by decide +kernel
theorem dL_law_476 : decode cL_law 476 = .ok (.iadd, 1) := by decide +kernel
theorem dL_law_477 : decode cL_law 477 = .ok (.iaload, 1) := by decide +kernel
theorem dL_law_478 : decode cL_law 478 = .ok (.invokevirtual 74, 3) := by decide +kernel
theorem dL_law_481 : decode cL_law 481 = .ok (.if_icmp .eq 41, 3) := by decide +kernel
theorem dL_law_484 : decode cL_law 484 = .ok (.iconst 0, 1) := by decide +kernel
theorem dL_law_485 : decode cL_law 485 = .ok (.ireturn, 1) := by decide +kernel
theorem dL_law_486 : decode cL_law 486 = .ok (.aload_n 1, 1) := by decide +kernel
theorem dL_law_487 : decode cL_law 487 = .ok (.invokevirtual 75, 3) := by decide +kernel
theorem dL_law_490 : decode cL_law 490 = .ok (.pop, 1) := by decide +kernel
theorem dL_law_491 : decode cL_law 491 = .ok (.aload_n 2, 1) := by decide +kernel
theorem dL_law_492 : decode cL_law 492 = .ok (.invokevirtual 78, 3) := by decide +kernel
theorem dL_law_495 : decode cL_law 495 = .ok (.pop, 1) := by decide +kernel
theorem dL_law_496 : decode cL_law 496 = .ok (.goto 26, 3) := by decide +kernel
theorem dL_law_499 : decode cL_law 499 = .ok (.aload_n 1, 1) := by decide +kernel
theorem dL_law_500 : decode cL_law 500 = .ok (.aload_n 0, 1) := by decide +kernel
theorem dL_law_501 : decode cL_law 501 = .ok (.iload_n 3, 1) := by decide +kernel
theorem dL_law_502 : decode cL_law 502 = .ok (.iconst 1, 1) := by decide +kernel
theorem dL_law_503 : decode cL_law 503 = .ok (.iadd, 1) := by decide +kernel
theorem dL_law_504 : decode cL_law 504 = .ok (.iaload, 1) := by decide +kernel
theorem dL_law_505 : decode cL_law 505 = .ok (.invokevirtual 79, 3) := by decide +kernel
theorem dL_law_508 : decode cL_law 508 = .ok (.pop, 1) := by decide +kernel
theorem dL_law_509 : decode cL_law 509 = .ok (.aload_n 2, 1) := by decide +kernel
theorem dL_law_510 : decode cL_law 510 = .ok (.aload_n 0, 1) := by decide +kernel
theorem dL_law_511 : decode cL_law 511 = .ok (.iload_n 3, 1) := by decide +kernel
theorem dL_law_512 : decode cL_law 512 = .ok (.iconst 1, 1) := by decide +kernel
theorem dL_law_513 : decode cL_law 513 = .ok (.iadd, 1) := by decide +kernel
theorem dL_law_514 : decode cL_law 514 = .ok (.iaload, 1) := by decide +kernel
theorem dL_law_515 : decode cL_law 515 = .ok (.invokevirtual 82, 3) := by decide +kernel
theorem dL_law_518 : decode cL_law 518 = .ok (.pop, 1) := by decide +kernel
theorem dL_law_519 : decode cL_law 519 = .ok (.goto 3, 3) := by decide +kernel
theorem dL_law_522 : decode cL_law 522 = .ok (.iinc 3 6, 3) := by decide +kernel
theorem dL_law_525 : decode cL_law 525 = .ok (.goto (-507), 3) := by decide +kernel
theorem dL_law_528 : decode cL_law 528 = .ok (.iconst 1, 1) := by decide +kernel
theorem dL_law_529 : decode cL_law 529 = .ok (.ireturn, 1) := by decide +kernel
theorem kt_1207 : Cond.code yX11_feed cX11_feed 6 (some .int) ∈ tb := tb_at (i := 488) (by decide +kernel) (by decide +kernel)
theorem kt_1208 : Cond.methodLink RL 13 yX11_feed ∈ tb := tb_at (i := 485) (by decide +kernel) (by decide +kernel)
theorem kt_1209 : Cond.instanceMethod yX11_feed ∈ tb := tb_at (i := 486) (by decide +kernel) (by decide +kernel)
theorem kt_1210 : Cond.selects RX11 yX11_feed yX11_feed ∈ tb := tb_at (i := 487) (by decide +kernel) (by decide +kernel)
theorem kt_1211 : Cond.code yX15_feed cX15_feed 8 (some .int) ∈ tb := tb_at (i := 1470) (by decide +kernel) (by decide +kernel)
theorem kt_1212 : Cond.methodLink RL 17 yX15_feed ∈ tb := tb_at (i := 1467) (by decide +kernel) (by decide +kernel)
theorem kt_1213 : Cond.instanceMethod yX15_feed ∈ tb := tb_at (i := 1468) (by decide +kernel) (by decide +kernel)
theorem kt_1214 : Cond.selects RX15 yX15_feed yX15_feed ∈ tb := tb_at (i := 1469) (by decide +kernel) (by decide +kernel)
theorem kt_1215 : Cond.code yX11_end cX11_end 2 (some .int) ∈ tb := tb_at (i := 500) (by decide +kernel) (by decide +kernel)
theorem kt_1216 : Cond.methodLink RL 18 yX11_end ∈ tb := tb_at (i := 497) (by decide +kernel) (by decide +kernel)
theorem kt_1217 : Cond.instanceMethod yX11_end ∈ tb := tb_at (i := 498) (by decide +kernel) (by decide +kernel)
theorem kt_1218 : Cond.selects RX11 yX11_end yX11_end ∈ tb := tb_at (i := 499) (by decide +kernel) (by decide +kernel)
theorem kt_1219 : Cond.code yX15_end cX15_end 2 (some .int) ∈ tb := tb_at (i := 1474) (by decide +kernel) (by decide +kernel)
theorem kt_1220 : Cond.methodLink RL 22 yX15_end ∈ tb := tb_at (i := 1471) (by decide +kernel) (by decide +kernel)
theorem kt_1221 : Cond.instanceMethod yX15_end ∈ tb := tb_at (i := 1472) (by decide +kernel) (by decide +kernel)
theorem kt_1222 : Cond.selects RX15 yX15_end yX15_end ∈ tb := tb_at (i := 1473) (by decide +kernel) (by decide +kernel)
set_option maxHeartbeats 4000000 in
set_option maxRecDepth 100000 in
theorem law_0 {p : Program} {l : Launch} {e : Env} {s : State} {m : MethodId} {below : List Frame} {meth : Method} {c : Code} {A Bq : Nat → Prop} {dC : Nat → ClassId} {dI : Nat → Nat → Nat} {cs : Nat → ClassId} {b Ln : Nat} {xs : Nat → Int32} (C0 : LC p s m meth c A dC dI cs b Ln xs) {xq h0 i zt ze cc ss : Nat} {f gt : Nat → Int32} {n : Nat} {bb : Int32} {zm : Nat} {fL sA sB sC : Nat → Int32} {DX : Nat → ETY} {zo : Nat} {fo : Nat → Int32} {SD : SDR} {aS vS : Int32} {c9 u9 : Nat} {nf bd mm : Nat} {gm : Nat → Nat → Nat} {gl : Nat → Int32} {EX : Nat → ETY} {go : Nat → Int32} {fm sn : Nat} {LC DN : List Nat} {gc gv : Nat} (hi : i + 6 ≤ Ln) (hLn : Ln ≤ 384) (hnz : zt ≤ 1280) (hcc : cc + 1 ≤ 600000) (hss : ss + 5 ≤ 7302250) {H : Heap} {locs : List Loc} {ls : Array Slot} (hrel : REL f gt zt) (hlr : LRL n bb zm fL sA sB sC nf bd mm gm gl) (hdr : DREL DX EX ze) (hro : REL fo go zo) (hsr : SRL SD aS vS fm sn LC DN) (hvn : VNI EX ze) (hce : c9 = gc ∧ u9 = gv) (hC : PCl (dC, dI) cs A Bq xq zt ze f n bb zm fL sA sB sC DX zo fo SD aS vS c9 u9 H) (hM : PMl (dC, dI) cs A Bq h0 zt ze gt nf bd mm gm gl EX zo go fm sn LC DN gc gv H) (hS : va_S A s.heap H locs) (hl : lv_has ls 4 [(3, .int (nI i)), (2, .ref h0), (1, .ref xq), (0, .ref b)]) (kk : ∀ (z2 c2 : Nat) (f2 g2 : Nat → Int32) (n : Nat) (bb : Int32) (zm : Nat) (fL sA sB sC : Nat → Int32) (DX : Nat → ETY) (zo : Nat) (fo : Nat → Int32) (SD : SDR) (aS vS : Int32) (c9 u9 : Nat) (nf bd mm : Nat) (gm : Nat → Nat → Nat) (gl : Nat → Int32) (EX : Nat → ETY) (go : Nat → Int32) (fm sn : Nat) (LC DN : List Nat) (gc gv : Nat) (H : Heap) (locs : List Loc) (ls : Array Slot), z2 ≤ zt + 20 → c2 ≤ 40 → REL f2 g2 z2 → LRL n bb zm fL sA sB sC nf bd mm gm gl → DREL DX EX c2 → REL fo go zo → SRL SD aS vS fm sn LC DN → VNI EX c2 → (c9 = gc ∧ u9 = gv) → PCl (dC, dI) cs A Bq xq z2 c2 f2 n bb zm fL sA sB sC DX zo fo SD aS vS c9 u9 H → PMl (dC, dI) cs A Bq h0 z2 c2 g2 nf bd mm gm gl EX zo go fm sn LC DN gc gv H → va_S A s.heap H locs → lv_has ls 4 [(3, .int (nI i)), (2, .ref h0), (1, .ref xq), (0, .ref b)] → W p l e room_1 s m #[Value.ref b] below meth c H locs (cc + 1) (ss + 5) (lw_Z below #[Value.ref b] s) (F0 m 522 ls [])) : W p l e room_1 s m #[Value.ref b] below meth c H locs cc ss (lw_Z below #[Value.ref b] s) (F0 m 112 ls []) := by
  obtain ⟨hx, hb, hr, hml, hown, hts, hX, hbl, hbA, hlocks, hE, hGc, hGm, hK, hA, hAs⟩ := id C0
  refine lv_aload_n hx hb dL_law_112 rfl (lv_at hl 2 rfl) ?_
  refine lv_aload_n hx hb dL_law_113 rfl (lv_at hl 3 rfl) ?_
  refine lv_iload_n hx hb dL_law_114 rfl (lv_at hl 0 rfl) ?_
  refine lv_iconst (v := 1) hx hb dL_law_115 (by decide) ?_
  refine lv_iadd hx hb dL_law_116 ?_
  refine lv_topi (fun x_1 ex_1 => ?_)
  obtain rfl : x_1 = (nI (i + 1)) := ex_1.trans (nI_add i 1)
  refine va_sld hx hb hX hbl hbA hS (vp_in_nI (by omega) (by omega)) dL_law_117 ?_
  refine lv_topi (fun x_2 ex_2 => ?_)
  obtain rfl : x_2 = (xs (i + 1)) := ex_2.trans (congrArg xs (nI_clamp (by omega)))
  refine lv_aload_n hx hb dL_law_118 rfl (lv_at hl 3 rfl) ?_
  refine lv_iload_n hx hb dL_law_119 rfl (lv_at hl 0 rfl) ?_
  refine lv_iconst (v := 2) hx hb dL_law_120 (by decide) ?_
  refine lv_iadd hx hb dL_law_121 ?_
  refine lv_topi (fun x_3 ex_3 => ?_)
  obtain rfl : x_3 = (nI (i + 2)) := ex_3.trans (nI_add i 2)
  refine va_sld hx hb hX hbl hbA hS (vp_in_nI (by omega) (by omega)) dL_law_122 ?_
  refine lv_topi (fun x_4 ex_4 => ?_)
  obtain rfl : x_4 = (xs (i + 2)) := ex_4.trans (congrArg xs (nI_clamp (by omega)))
  refine lv_aload_n hx hb dL_law_123 rfl (lv_at hl 3 rfl) ?_
  refine lv_iload_n hx hb dL_law_124 rfl (lv_at hl 0 rfl) ?_
  refine lv_iconst (v := 3) hx hb dL_law_125 (by decide) ?_
  refine lv_iadd hx hb dL_law_126 ?_
  refine lv_topi (fun x_5 ex_5 => ?_)
  obtain rfl : x_5 = (nI (i + 3)) := ex_5.trans (nI_add i 3)
  refine va_sld hx hb hX hbl hbA hS (vp_in_nI (by omega) (by omega)) dL_law_127 ?_
  refine lv_topi (fun x_6 ex_6 => ?_)
  obtain rfl : x_6 = (xs (i + 3)) := ex_6.trans (congrArg xs (nI_clamp (by omega)))
  refine lv_aload_n hx hb dL_law_128 rfl (lv_at hl 3 rfl) ?_
  refine lv_iload_n hx hb dL_law_129 rfl (lv_at hl 0 rfl) ?_
  refine lv_iconst (v := 4) hx hb dL_law_130 (by decide) ?_
  refine lv_iadd hx hb dL_law_131 ?_
  refine lv_topi (fun x_7 ex_7 => ?_)
  obtain rfl : x_7 = (nI (i + 4)) := ex_7.trans (nI_add i 4)
  refine va_sld hx hb hX hbl hbA hS (vp_in_nI (by omega) (by omega)) dL_law_132 ?_
  refine lv_topi (fun x_8 ex_8 => ?_)
  obtain rfl : x_8 = (xs (i + 4)) := ex_8.trans (congrArg xs (nI_clamp (by omega)))
  refine lv_aload_n hx hb dL_law_133 rfl (lv_at hl 3 rfl) ?_
  refine lv_iload_n hx hb dL_law_134 rfl (lv_at hl 0 rfl) ?_
  refine lv_iconst (v := 5) hx hb dL_law_135 (by decide) ?_
  refine lv_iadd hx hb dL_law_136 ?_
  refine lv_topi (fun x_9 ex_9 => ?_)
  obtain rfl : x_9 = (nI (i + 5)) := ex_9.trans (nI_add i 5)
  refine va_sld hx hb hX hbl hbA hS (vp_in_nI (by omega) (by omega)) dL_law_137 ?_
  refine lv_topi (fun x_10 ex_10 => ?_)
  obtain rfl : x_10 = (xs (i + 5)) := ex_10.trans (congrArg xs (nI_clamp (by omega)))
  obtain ⟨L, F, ty, ρ, ta, ou, di, ea, ck, sl, po, hs, rt, ro, ca0, ca1, ca2, ca3, cnm, cte, ⟨hP, hD, hO, hW⟩, hL_xq, hT_xq, hTta, hFt, hFr, hzt, hFd, hcn, hLT, hDI, hTck, hFk, hSD, hCol, hTou, hFou, hFro, hzo, hBq⟩ := hC
  have hG := hGc
  have hTS : TS F ta zt := ⟨hzt, rt, hFt⟩
  obtain ⟨hi_11, ⟨r_12, ht_13⟩, hi_14, ⟨r_15, ht_16⟩, hi_17, ht_18, hi_19, ⟨w0_20, w1_21, w2_22, w3_23, nm_24, te_25, ht_26⟩, hi_27, ⟨l1_28, lx_29, ly0_30, ly1_31, ly2_32, k1_33, kx_34, ky0_35, ky1_36, ky2_37, w0_38, w1_39, w2_40, w3_41, w4_42, w5_43, w6_44, w7_45, w8_46, tk_47, h1_48, hx_49, hy_50, hw_51, pw_52, px_53, py_54, pz_55, pu_56, ht_57⟩, hi_58, ⟨w0_59, w1_60, rc_61, rx_62, ry0_63, ry1_64, ry2_65, ht_66⟩, hi_67, ⟨hx_68, hy_69, hw_70, ht_71⟩⟩ := hW.gate hL_xq hT_xq
  obtain ⟨le_72, sp_73, μ_74, ν_75, hF_76, hq_77, hq_78, hq_79, hq_80, hq_81, hq_82⟩ := hO.gate hL_xq hT_xq
  obtain ⟨x_83, y0_84, y1_85, y2_86, ht_87⟩ := id hq_78
  obtain ⟨x_88, y0_89, y1_90, y2_91, ht_92⟩ := id hq_80
  obtain ⟨hiR, htR, -⟩ := hW.bytes hi_11 hTta
  obtain ⟨hi_93, ht_94⟩ := hW.dir hi_17 ht_18
  have hO0 := hO
  obtain ⟨hi_95, ht_96, hi_97, ⟨r_98, ht_99⟩, hi_100, ⟨r_101, ht_102⟩, hi_103, ⟨r_104, ht_105⟩, hi_106, ⟨r_107, ht_108⟩, hi_109, ht_110, hi_111, ht_112⟩ := hW.chk hi_19 hTck
  have ht_99 : ty ca0 = (0, ρ + 36, [r_98, 91]) := ht_99
  have ht_102 : ty ca1 = (0, ρ + 37, [r_101, 30]) := ht_102
  have ht_105 : ty ca2 = (0, ρ + 38, [r_104, 60]) := ht_105
  have ht_108 : ty ca3 = (0, ρ + 39, [r_107, 15]) := ht_108
  have ht_110 : ty cnm = (20, ρ + 40, [12]) := ht_110
  have ht_112 : ty cte = (22, ρ + 41, [11]) := ht_112
  obtain ⟨hiO, htO, -⟩ := hW.bytes hi_14 hTou
  have hFc := pg_free hD hS hA
  refine va_calli (va_runV (As := [.int (xs (i + 1)), .int (xs (i + 2)), .int (xs (i + 3)), .int (xs (i + 4)), .int (xs (i + 5))]) (rest := []) ⟨hx, hb, hml, hown, hts⟩ (s_X11_feed_e l dC dI cs ty L H.size F xq ρ ta ou di ea ck sl po hs zt rt ze f (xs (i + 1)) (xs (i + 2)) (xs (i + 3)) (xs (i + 4)) (xs (i + 5)) hW hL_xq hT_xq hi_11 hTta hFt hFr hzt (by omega)) ⟨callB_of 5 hts (gi kt_1207) rfl rfl rfl (hts _ kt_664) (hts _ kt_1208) (by decide +kernel) ⟨Nat.le_of_ble_eq_true rfl, Nat.le_of_ble_eq_true rfl⟩, (hts _ kt_1209), (hts _ kt_1210)⟩ ⟨fun a U g mk q => ⟨q.1, PT.calling q.2⟩, pg_recv hK hP hL_xq hF_76 (q := (RX11, TX11, 9)) rfl, fun U hU hWm => ⟨rfl, PT.mk hU hWm hP hK hD hE hO⟩⟩ rfl rfl hl.1 rfl (lv_room (Nat.le_of_ble_eq_true rfl)) dL_law_138 ⟨by show _ + 0 ≤ 600000; omega, by show _ + 0 ≤ 7302250; omega⟩) hS (fun q _ h => hFc q h) hFc (fun r_113 u t H1 locs ht hvm hw hB hz1 hk1 hS => ?_)
  obtain ⟨F2, hB1, hf0, hf1⟩ := hB
  obtain ⟨hP, hD, hO, hR⟩ := QT.back hB1 ht hFc FR.refl (fun q h => h)
  have hM := hM.kept hBq hk1
  have hLT := hLT.fr hW hT_xq hB1.2.2.2 (fun q h => by simp only [List.mem_cons, List.not_mem_nil, or_false] at h; omega)
  have hCol9 := hCol
  have hDI := DIRC.fr hDI hO0 hW hi_93 ht_94 hcn hB1.2.2.2 (hB1.2.2.2 ea (by rw [ht_94]; simp)) (fun k hk => by simp only [List.mem_cons, List.not_mem_nil, or_false]; omega)
  have hFk9 := (hB1.2.2.2 ck (by rw [hTck]; simp)).trans hFk
  have hSD9 := hSD.imp id (fun q => q.fr hO0 hW hi_97 ht_99 hi_100 ht_102 hi_103 ht_105 hi_106 ht_108 hB1.2.2.2 (fun k9 h1 h2 => by simp only [List.mem_cons, List.not_mem_nil, or_false]; omega))
  have hC : PCl (dC, dI) cs A Bq xq (zt + 20) ze (up4 (up4 (up4 (up4 (up4 f zt (ocT (xs (i + 1)) 24) (ocT (xs (i + 1)) 16) (ocT (xs (i + 1)) 8) (ocT (xs (i + 1)) 0)) (zt + 4) (ocT (xs (i + 2)) 24) (ocT (xs (i + 2)) 16) (ocT (xs (i + 2)) 8) (ocT (xs (i + 2)) 0)) (zt + 8) (ocT (xs (i + 3)) 24) (ocT (xs (i + 3)) 16) (ocT (xs (i + 3)) 8) (ocT (xs (i + 3)) 0)) (zt + 12) (ocT (xs (i + 4)) 24) (ocT (xs (i + 4)) 16) (ocT (xs (i + 4)) 8) (ocT (xs (i + 4)) 0)) (zt + 16) (ocT (xs (i + 5)) 24) (ocT (xs (i + 5)) 16) (ocT (xs (i + 5)) 8) (ocT (xs (i + 5)) 0)) n bb zm fL sA sB sC DX zo fo SD aS vS c9 u9 H1 := ⟨L, F2, ty, ρ, ta, ou, di, ea, ck, sl, po, hs, rt, ro, ca0, ca1, ca2, ca3, cnm, cte, ⟨hP, hD, hO, hW⟩, hL_xq, hT_xq, hTta, hf0, hf1, (by omega), (hB1.2.2.2 di (by rw [ht_96]; simp)).trans hFd, hcn, hLT, hDI, hTck, hFk9, hSD9, hCol9, hTou, (hB1.2.2.2 ou (by rw [hTou]; simp)).trans hFou, (hB1.2.2.2 ro (by rw [htO]; simp)).trans hFro, hzo, hBq⟩
  generalize H1 = H at hC hM hS ⊢
  refine lv_pop hx hb dL_law_141 rfl ?_
  refine lv_aload_n hx hb dL_law_142 rfl (lv_at hl 1 rfl) ?_
  refine lv_aload_n hx hb dL_law_143 rfl (lv_at hl 3 rfl) ?_
  refine lv_iload_n hx hb dL_law_144 rfl (lv_at hl 0 rfl) ?_
  refine lv_iconst (v := 1) hx hb dL_law_145 (by decide) ?_
  refine lv_iadd hx hb dL_law_146 ?_
  refine lv_topi (fun x_114 ex_114 => ?_)
  obtain rfl : x_114 = (nI (i + 1)) := ex_114.trans (nI_add i 1)
  refine va_sld hx hb hX hbl hbA hS (vp_in_nI (by omega) (by omega)) dL_law_147 ?_
  refine lv_topi (fun x_115 ex_115 => ?_)
  obtain rfl : x_115 = (xs (i + 1)) := ex_115.trans (congrArg xs (nI_clamp (by omega)))
  refine lv_aload_n hx hb dL_law_148 rfl (lv_at hl 3 rfl) ?_
  refine lv_iload_n hx hb dL_law_149 rfl (lv_at hl 0 rfl) ?_
  refine lv_iconst (v := 2) hx hb dL_law_150 (by decide) ?_
  refine lv_iadd hx hb dL_law_151 ?_
  refine lv_topi (fun x_116 ex_116 => ?_)
  obtain rfl : x_116 = (nI (i + 2)) := ex_116.trans (nI_add i 2)
  refine va_sld hx hb hX hbl hbA hS (vp_in_nI (by omega) (by omega)) dL_law_152 ?_
  refine lv_topi (fun x_117 ex_117 => ?_)
  obtain rfl : x_117 = (xs (i + 2)) := ex_117.trans (congrArg xs (nI_clamp (by omega)))
  refine lv_aload_n hx hb dL_law_153 rfl (lv_at hl 3 rfl) ?_
  refine lv_iload_n hx hb dL_law_154 rfl (lv_at hl 0 rfl) ?_
  refine lv_iconst (v := 3) hx hb dL_law_155 (by decide) ?_
  refine lv_iadd hx hb dL_law_156 ?_
  refine lv_topi (fun x_118 ex_118 => ?_)
  obtain rfl : x_118 = (nI (i + 3)) := ex_118.trans (nI_add i 3)
  refine va_sld hx hb hX hbl hbA hS (vp_in_nI (by omega) (by omega)) dL_law_157 ?_
  refine lv_topi (fun x_119 ex_119 => ?_)
  obtain rfl : x_119 = (xs (i + 3)) := ex_119.trans (congrArg xs (nI_clamp (by omega)))
  refine lv_aload_n hx hb dL_law_158 rfl (lv_at hl 3 rfl) ?_
  refine lv_iload_n hx hb dL_law_159 rfl (lv_at hl 0 rfl) ?_
  refine lv_iconst (v := 4) hx hb dL_law_160 (by decide) ?_
  refine lv_iadd hx hb dL_law_161 ?_
  refine lv_topi (fun x_120 ex_120 => ?_)
  obtain rfl : x_120 = (nI (i + 4)) := ex_120.trans (nI_add i 4)
  refine va_sld hx hb hX hbl hbA hS (vp_in_nI (by omega) (by omega)) dL_law_162 ?_
  refine lv_topi (fun x_121 ex_121 => ?_)
  obtain rfl : x_121 = (xs (i + 4)) := ex_121.trans (congrArg xs (nI_clamp (by omega)))
  refine lv_aload_n hx hb dL_law_163 rfl (lv_at hl 3 rfl) ?_
  refine lv_iload_n hx hb dL_law_164 rfl (lv_at hl 0 rfl) ?_
  refine lv_iconst (v := 5) hx hb dL_law_165 (by decide) ?_
  refine lv_iadd hx hb dL_law_166 ?_
  refine lv_topi (fun x_122 ex_122 => ?_)
  obtain rfl : x_122 = (nI (i + 5)) := ex_122.trans (nI_add i 5)
  refine va_sld hx hb hX hbl hbA hS (vp_in_nI (by omega) (by omega)) dL_law_167 ?_
  refine lv_topi (fun x_123 ex_123 => ?_)
  obtain rfl : x_123 = (xs (i + 5)) := ex_123.trans (congrArg xs (nI_clamp (by omega)))
  obtain ⟨L, F, ty, ρ, ta, ou, so, ad, na, va, lc, dm, tg, pe, ml, bg, co, sp, nb0, nb1, nb2, pl, se, ke, wi, hs, mo, po, nu, pr, sq, xa, sa, n64, m64, ex, wh, sd, tk, hd, ak, ho, ot, sx, s0, s1, s2, ⟨hP, hD, hO, hW⟩, hL_h0, hT_h0, hFta, hFml, hDM, hSN, hFou, hn01, hn02, hn12, hU26, hU15, hBq⟩ := hM
  have hG := hGm
  obtain ⟨hq_146, hq_147, hq_148, hq_149, hq_150, hgO, hgA, hgB, hq_151⟩ := hW.sc hL_h0 hT_h0
  obtain ⟨v14_152, v15_153, v17_154, v18_155, v19_156, v20_157, v21_158, v22_159, v33_160, v52_161, v53_162, v54_163, hF_164, hq_165, hq_166, hq_167, hq_168, hq_169⟩ := hO.mod hL_h0 hT_h0
  obtain ⟨hi_170, ht_171⟩ := hW.f_ta hL_h0 hT_h0
  obtain ⟨hLs0, hTs0⟩ := hW.f_so hL_h0 hT_h0
  obtain ⟨hLd0, hTd0⟩ := hW.f_ad hL_h0 hT_h0
  obtain ⟨hLn0, hTn0⟩ := hW.f_na hL_h0 hT_h0
  obtain ⟨hLv0, hTv0⟩ := hW.f_va hL_h0 hT_h0
  have hO0 := hO
  obtain ⟨hi_172, r_124, ht_173⟩ := hW.f_lc hL_h0 hT_h0
  obtain ⟨hi_174, ht_175, hq_176⟩ := hW.txt hi_172 ht_173
  obtain ⟨hi_177, r_125, ht_178⟩ := hW.f_dm hL_h0 hT_h0
  obtain ⟨hi_179, ht_180, hq_181⟩ := hW.txt hi_177 ht_178
  obtain ⟨hi_182, r_126, ht_183⟩ := hW.f_pe hL_h0 hT_h0
  obtain ⟨hi_184, ht_185, hq_186⟩ := hW.txt hi_182 ht_183
  have hFc := pg_free hD hS hA
  refine va_calli (va_runV (As := [.int (xs (i + 1)), .int (xs (i + 2)), .int (xs (i + 3)), .int (xs (i + 4)), .int (xs (i + 5))]) (rest := []) ⟨hx, hb, hml, hown, hts⟩ (s_X15_feed_e l dC dI cs ty gm L H.size F h0 ρ ta ou so ad na va lc dm tg pe ml bg co sp nb0 nb1 nb2 pl se ke wi hs mo po nu pr sq xa sa n64 m64 ex wh sd tk hd ak ho ot sx s0 s1 s2 nf bd mm zo fm sn 1 gc gv ze zt (xs (i + 1)) (xs (i + 2)) (xs (i + 3)) (xs (i + 4)) (xs (i + 5)) gt hW hL_h0 hT_h0 hFta (by omega)) ⟨callB_of 5 hts (gi kt_1211) rfl rfl rfl (hts _ kt_669) (hts _ kt_1212) (by decide +kernel) ⟨Nat.le_of_ble_eq_true rfl, Nat.le_of_ble_eq_true rfl⟩, (hts _ kt_1213), (hts _ kt_1214)⟩ ⟨fun a U g mk q => ⟨q.1, PTm.calling q.2⟩, pg_recv hK hP hL_h0 hF_164 (q := (RX15, TX15, 59)) rfl, fun U hU hWm => ⟨rfl, PTm.mk hU hWm hP hK hD hE hO⟩⟩ rfl rfl hl.1 rfl (lv_room (Nat.le_of_ble_eq_true rfl)) dL_law_168 ⟨by show _ + 1 ≤ 600000; omega, by show _ + 5 ≤ 7302250; omega⟩) hS (fun q _ h => hFc q h) hFc (fun r_187 u t H1 locs ht hvm hw hB hz1 hk1 hS => ?_)
  obtain ⟨F2, ty9, g2, hty9, hB1, hW9, hga0, hga, hgb⟩ := hB
  subst hty9
  obtain ⟨hP, hD, hO, hR⟩ := QTm.back hB1 ht hFc FR.refl (fun q h => h)
  have hC := hC.kept hBq hk1
  obtain ⟨hi_188, ht_189⟩ := hW.f_ml hL_h0 hT_h0
  have hR9 := FR.unre hT_h0 rfl hB1.2.2.2
  have hDM := DIRM.fr hDM hO0 hW hLn0 hTn0 hLv0 hTv0 hcn hR9 (hR9 so (by rw [hTs0]; simp)) (hR9 ad (by rw [hTd0]; simp)) (hR9 na (by rw [hTn0]; simp)) (hR9 va (by rw [hTv0]; simp)) (fun k hk => ⟨by simp only [List.mem_cons, List.not_mem_nil, or_false]; omega, by simp only [List.mem_cons, List.not_mem_nil, or_false]; omega⟩)
  have hSN9 := hSN.imp id (fun q => And.intro (q.1.fr hO0 hW hi_172 ht_173 hR9 (by simp only [List.mem_cons, List.not_mem_nil, or_false]; omega)) (q.2.fr hO0 hW hi_177 ht_178 hR9 (by simp only [List.mem_cons, List.not_mem_nil, or_false]; omega)))
  obtain ⟨hi_190, ht_191⟩ := hW.f_ou hL_h0 hT_h0
  have hM : PMl (dC, dI) cs A Bq h0 (zt + 20) ze g2 nf bd mm gm gl EX zo go fm sn LC DN gc gv H1 := ⟨L, F2, _, ρ, ta, ou, so, ad, na, va, lc, dm, tg, pe, ml, bg, co, sp, nb0, nb1, nb2, pl, se, ke, wi, hs, mo, po, nu, pr, sq, xa, sa, n64, m64, ex, wh, sd, tk, hd, ak, ho, ot, sx, s0, s1, s2, ⟨hP, hD, hO, hW9⟩, hL_h0, rtf_self, hga0, (hB1.2.2.2 ml (by rw [rtf_tr hT_h0 (by decide) ht_189]; simp)).trans hFml, hDM, hSN9, (hB1.2.2.2 ou (by rw [rtf_tr hT_h0 (by decide) ht_191]; simp)).trans hFou, hn01, hn02, hn12, U_re hU26, U15_re hU15, hBq⟩
  generalize H1 = H at hC hM hS ⊢
  refine lv_pop hx hb dL_law_171 rfl ?_
  refine lv_goto (tgt := 522) hx hb dL_law_172 (by decide) ?_
  refine W.widen (k := cc + 1) (n := ss + 5) (by omega) (by omega) ?_
  exact kk (zt + 20) ze (up4 (up4 (up4 (up4 (up4 f zt (ocT (xs (i + 1)) 24) (ocT (xs (i + 1)) 16) (ocT (xs (i + 1)) 8) (ocT (xs (i + 1)) 0)) (zt + 4) (ocT (xs (i + 2)) 24) (ocT (xs (i + 2)) 16) (ocT (xs (i + 2)) 8) (ocT (xs (i + 2)) 0)) (zt + 8) (ocT (xs (i + 3)) 24) (ocT (xs (i + 3)) 16) (ocT (xs (i + 3)) 8) (ocT (xs (i + 3)) 0)) (zt + 12) (ocT (xs (i + 4)) 24) (ocT (xs (i + 4)) 16) (ocT (xs (i + 4)) 8) (ocT (xs (i + 4)) 0)) (zt + 16) (ocT (xs (i + 5)) 24) (ocT (xs (i + 5)) 16) (ocT (xs (i + 5)) 8) (ocT (xs (i + 5)) 0)) g2 n bb zm fL sA sB sC DX zo fo SD aS vS c9 u9 nf bd mm gm gl EX go fm sn LC DN gc gv _ _ _ (by omega) hcn (rel_feed hrel hga hgb) hlr hdr hro hsr hvn hce hC hM hS hl
set_option maxHeartbeats 4000000 in
set_option maxRecDepth 100000 in
theorem law_1 {p : Program} {l : Launch} {e : Env} {s : State} {m : MethodId} {below : List Frame} {meth : Method} {c : Code} {A Bq : Nat → Prop} {dC : Nat → ClassId} {dI : Nat → Nat → Nat} {cs : Nat → ClassId} {b Ln : Nat} {xs : Nat → Int32} (C0 : LC p s m meth c A dC dI cs b Ln xs) {xq h0 i zt ze cc ss : Nat} {f gt : Nat → Int32} {n : Nat} {bb : Int32} {zm : Nat} {fL sA sB sC : Nat → Int32} {DX : Nat → ETY} {zo : Nat} {fo : Nat → Int32} {SD : SDR} {aS vS : Int32} {c9 u9 : Nat} {nf bd mm : Nat} {gm : Nat → Nat → Nat} {gl : Nat → Int32} {EX : Nat → ETY} {go : Nat → Int32} {fm sn : Nat} {LC DN : List Nat} {gc gv : Nat} (hi : i + 6 ≤ Ln) (hLn : Ln ≤ 384) (hnz : zt ≤ 1280) (hcc : cc + 1 ≤ 600000) (hss : ss + 5 ≤ 7302250) {H : Heap} {locs : List Loc} {ls : Array Slot} (hrel : REL f gt zt) (hlr : LRL n bb zm fL sA sB sC nf bd mm gm gl) (hdr : DREL DX EX ze) (hro : REL fo go zo) (hsr : SRL SD aS vS fm sn LC DN) (hvn : VNI EX ze) (hce : c9 = gc ∧ u9 = gv) (hC : PCl (dC, dI) cs A Bq xq zt ze f n bb zm fL sA sB sC DX zo fo SD aS vS c9 u9 H) (hM : PMl (dC, dI) cs A Bq h0 zt ze gt nf bd mm gm gl EX zo go fm sn LC DN gc gv H) (hS : va_S A s.heap H locs) (hl : lv_has ls 4 [(3, .int (nI i)), (2, .ref h0), (1, .ref xq), (0, .ref b)]) (kk : ∀ (z2 c2 : Nat) (f2 g2 : Nat → Int32) (n : Nat) (bb : Int32) (zm : Nat) (fL sA sB sC : Nat → Int32) (DX : Nat → ETY) (zo : Nat) (fo : Nat → Int32) (SD : SDR) (aS vS : Int32) (c9 u9 : Nat) (nf bd mm : Nat) (gm : Nat → Nat → Nat) (gl : Nat → Int32) (EX : Nat → ETY) (go : Nat → Int32) (fm sn : Nat) (LC DN : List Nat) (gc gv : Nat) (H : Heap) (locs : List Loc) (ls : Array Slot), z2 ≤ zt + 20 → c2 ≤ 40 → REL f2 g2 z2 → LRL n bb zm fL sA sB sC nf bd mm gm gl → DREL DX EX c2 → REL fo go zo → SRL SD aS vS fm sn LC DN → VNI EX c2 → (c9 = gc ∧ u9 = gv) → PCl (dC, dI) cs A Bq xq z2 c2 f2 n bb zm fL sA sB sC DX zo fo SD aS vS c9 u9 H → PMl (dC, dI) cs A Bq h0 z2 c2 g2 nf bd mm gm gl EX zo go fm sn LC DN gc gv H → va_S A s.heap H locs → lv_has ls 4 [(3, .int (nI i)), (2, .ref h0), (1, .ref xq), (0, .ref b)] → W p l e room_1 s m #[Value.ref b] below meth c H locs (cc + 1) (ss + 5) (lw_Z below #[Value.ref b] s) (F0 m 522 ls [])) : W p l e room_1 s m #[Value.ref b] below meth c H locs cc ss (lw_Z below #[Value.ref b] s) (F0 m 175 ls []) := by
  obtain ⟨hx, hb, hr, hml, hown, hts, hX, hbl, hbA, hlocks, hE, hGc, hGm, hK, hA, hAs⟩ := id C0
  refine lv_aload_n hx hb dL_law_175 rfl (lv_at hl 2 rfl) ?_
  refine lv_aload_n hx hb dL_law_176 rfl (lv_at hl 3 rfl) ?_
  refine lv_iload_n hx hb dL_law_177 rfl (lv_at hl 0 rfl) ?_
  refine lv_iconst (v := 1) hx hb dL_law_178 (by decide) ?_
  refine lv_iadd hx hb dL_law_179 ?_
  refine lv_topi (fun x_1 ex_1 => ?_)
  obtain rfl : x_1 = (nI (i + 1)) := ex_1.trans (nI_add i 1)
  refine va_sld hx hb hX hbl hbA hS (vp_in_nI (by omega) (by omega)) dL_law_180 ?_
  refine lv_topi (fun x_2 ex_2 => ?_)
  obtain rfl : x_2 = (xs (i + 1)) := ex_2.trans (congrArg xs (nI_clamp (by omega)))
  obtain ⟨L, F, ty, ρ, ta, ou, di, ea, ck, sl, po, hs, rt, ro, ca0, ca1, ca2, ca3, cnm, cte, ⟨hP, hD, hO, hW⟩, hL_xq, hT_xq, hTta, hFt, hFr, hzt, hFd, hcn, hLT, hDI, hTck, hFk, hSD, hCol, hTou, hFou, hFro, hzo, hBq⟩ := hC
  have hG := hGc
  have hTS : TS F ta zt := ⟨hzt, rt, hFt⟩
  obtain ⟨hi_3, ⟨r_4, ht_5⟩, hi_6, ⟨r_7, ht_8⟩, hi_9, ht_10, hi_11, ⟨w0_12, w1_13, w2_14, w3_15, nm_16, te_17, ht_18⟩, hi_19, ⟨l1_20, lx_21, ly0_22, ly1_23, ly2_24, k1_25, kx_26, ky0_27, ky1_28, ky2_29, w0_30, w1_31, w2_32, w3_33, w4_34, w5_35, w6_36, w7_37, w8_38, tk_39, h1_40, hx_41, hy_42, hw_43, pw_44, px_45, py_46, pz_47, pu_48, ht_49⟩, hi_50, ⟨w0_51, w1_52, rc_53, rx_54, ry0_55, ry1_56, ry2_57, ht_58⟩, hi_59, ⟨hx_60, hy_61, hw_62, ht_63⟩⟩ := hW.gate hL_xq hT_xq
  obtain ⟨le_64, sp_65, μ_66, ν_67, hF_68, hq_69, hq_70, hq_71, hq_72, hq_73, hq_74⟩ := hO.gate hL_xq hT_xq
  obtain ⟨x_75, y0_76, y1_77, y2_78, ht_79⟩ := id hq_70
  obtain ⟨x_80, y0_81, y1_82, y2_83, ht_84⟩ := id hq_72
  obtain ⟨hiR, htR, -⟩ := hW.bytes hi_3 hTta
  obtain ⟨hi_85, ht_86⟩ := hW.dir hi_9 ht_10
  have hO0 := hO
  obtain ⟨hi_87, ht_88, hi_89, ⟨r_90, ht_91⟩, hi_92, ⟨r_93, ht_94⟩, hi_95, ⟨r_96, ht_97⟩, hi_98, ⟨r_99, ht_100⟩, hi_101, ht_102, hi_103, ht_104⟩ := hW.chk hi_11 hTck
  have ht_91 : ty ca0 = (0, ρ + 36, [r_90, 91]) := ht_91
  have ht_94 : ty ca1 = (0, ρ + 37, [r_93, 30]) := ht_94
  have ht_97 : ty ca2 = (0, ρ + 38, [r_96, 60]) := ht_97
  have ht_100 : ty ca3 = (0, ρ + 39, [r_99, 15]) := ht_100
  have ht_102 : ty cnm = (20, ρ + 40, [12]) := ht_102
  have ht_104 : ty cte = (22, ρ + 41, [11]) := ht_104
  obtain ⟨hiO, htO, -⟩ := hW.bytes hi_6 hTou
  have hFc := pg_free hD hS hA
  refine va_calli (va_runV (As := [.int (xs (i + 1))]) (rest := []) ⟨hx, hb, hml, hown, hts⟩ (s_X11_end_e l dC dI cs ty L H.size F xq ρ ta ou di ea ck sl po hs zt rt ze f (xs (i + 1)) hW hL_xq hT_xq hi_3 hTta hFt hFr hzt) ⟨callB_of 1 hts (gi kt_1215) rfl rfl rfl (hts _ kt_664) (hts _ kt_1216) (by decide +kernel) ⟨Nat.le_of_ble_eq_true rfl, Nat.le_of_ble_eq_true rfl⟩, (hts _ kt_1217), (hts _ kt_1218)⟩ ⟨fun a U g mk q => ⟨q.1, PT.calling q.2⟩, pg_recv hK hP hL_xq hF_68 (q := (RX11, TX11, 9)) rfl, fun U hU hWm => ⟨rfl, PT.mk hU hWm hP hK hD hE hO⟩⟩ rfl rfl hl.1 rfl (lv_room (Nat.le_of_ble_eq_true rfl)) dL_law_181 ⟨by show _ + 0 ≤ 600000; omega, by show _ + 0 ≤ 7302250; omega⟩) hS (fun q _ h => hFc q h) hFc (fun r_105 u t H1 locs ht hvm hw hB hz1 hk1 hS => ?_)
  obtain ⟨F2, hB1, hf0, hf1⟩ := hB
  obtain ⟨hP, hD, hO, hR⟩ := QT.back hB1 ht hFc FR.refl (fun q h => h)
  have hM := hM.kept hBq hk1
  have hLT := hLT.fr hW hT_xq hB1.2.2.2 (fun q h => by simp only [List.mem_cons, List.not_mem_nil, or_false] at h; omega)
  have hCol9 := hCol
  have hDI := DIRC.fr hDI hO0 hW hi_85 ht_86 hcn hB1.2.2.2 (hB1.2.2.2 ea (by rw [ht_86]; simp)) (fun k hk => by simp only [List.mem_cons, List.not_mem_nil, or_false]; omega)
  have hFk9 := (hB1.2.2.2 ck (by rw [hTck]; simp)).trans hFk
  have hSD9 := hSD.imp id (fun q => q.fr hO0 hW hi_89 ht_91 hi_92 ht_94 hi_95 ht_97 hi_98 ht_100 hB1.2.2.2 (fun k9 h1 h2 => by simp only [List.mem_cons, List.not_mem_nil, or_false]; omega))
  have hC : PCl (dC, dI) cs A Bq xq (if ¬ (xs (i + 1)) < 0 ∧ ¬ nI zt < (xs (i + 1)) then (xs (i + 1)).toNatClampNeg else zt) ze f n bb zm fL sA sB sC DX zo fo SD aS vS c9 u9 H1 := ⟨L, F2, ty, ρ, ta, ou, di, ea, ck, sl, po, hs, rt, ro, ca0, ca1, ca2, ca3, cnm, cte, ⟨hP, hD, hO, hW⟩, hL_xq, hT_xq, hTta, hf0, hf1, (end_le (n := 3000) hzt hzt), (hB1.2.2.2 di (by rw [ht_88]; simp)).trans hFd, hcn, hLT, hDI, hTck, hFk9, hSD9, hCol9, hTou, (hB1.2.2.2 ou (by rw [hTou]; simp)).trans hFou, (hB1.2.2.2 ro (by rw [htO]; simp)).trans hFro, hzo, hBq⟩
  generalize H1 = H at hC hM hS ⊢
  refine lv_pop hx hb dL_law_184 rfl ?_
  refine lv_aload_n hx hb dL_law_185 rfl (lv_at hl 1 rfl) ?_
  refine lv_aload_n hx hb dL_law_186 rfl (lv_at hl 3 rfl) ?_
  refine lv_iload_n hx hb dL_law_187 rfl (lv_at hl 0 rfl) ?_
  refine lv_iconst (v := 1) hx hb dL_law_188 (by decide) ?_
  refine lv_iadd hx hb dL_law_189 ?_
  refine lv_topi (fun x_106 ex_106 => ?_)
  obtain rfl : x_106 = (nI (i + 1)) := ex_106.trans (nI_add i 1)
  refine va_sld hx hb hX hbl hbA hS (vp_in_nI (by omega) (by omega)) dL_law_190 ?_
  refine lv_topi (fun x_107 ex_107 => ?_)
  obtain rfl : x_107 = (xs (i + 1)) := ex_107.trans (congrArg xs (nI_clamp (by omega)))
  obtain ⟨L, F, ty, ρ, ta, ou, so, ad, na, va, lc, dm, tg, pe, ml, bg, co, sp, nb0, nb1, nb2, pl, se, ke, wi, hs, mo, po, nu, pr, sq, xa, sa, n64, m64, ex, wh, sd, tk, hd, ak, ho, ot, sx, s0, s1, s2, ⟨hP, hD, hO, hW⟩, hL_h0, hT_h0, hFta, hFml, hDM, hSN, hFou, hn01, hn02, hn12, hU26, hU15, hBq⟩ := hM
  have hG := hGm
  obtain ⟨hq_130, hq_131, hq_132, hq_133, hq_134, hgO, hgA, hgB, hq_135⟩ := hW.sc hL_h0 hT_h0
  obtain ⟨v14_136, v15_137, v17_138, v18_139, v19_140, v20_141, v21_142, v22_143, v33_144, v52_145, v53_146, v54_147, hF_148, hq_149, hq_150, hq_151, hq_152, hq_153⟩ := hO.mod hL_h0 hT_h0
  obtain ⟨hi_154, ht_155⟩ := hW.f_ta hL_h0 hT_h0
  obtain ⟨hLs0, hTs0⟩ := hW.f_so hL_h0 hT_h0
  obtain ⟨hLd0, hTd0⟩ := hW.f_ad hL_h0 hT_h0
  obtain ⟨hLn0, hTn0⟩ := hW.f_na hL_h0 hT_h0
  obtain ⟨hLv0, hTv0⟩ := hW.f_va hL_h0 hT_h0
  have hO0 := hO
  obtain ⟨hi_156, r_108, ht_157⟩ := hW.f_lc hL_h0 hT_h0
  obtain ⟨hi_158, ht_159, hq_160⟩ := hW.txt hi_156 ht_157
  obtain ⟨hi_161, r_109, ht_162⟩ := hW.f_dm hL_h0 hT_h0
  obtain ⟨hi_163, ht_164, hq_165⟩ := hW.txt hi_161 ht_162
  obtain ⟨hi_166, r_110, ht_167⟩ := hW.f_pe hL_h0 hT_h0
  obtain ⟨hi_168, ht_169, hq_170⟩ := hW.txt hi_166 ht_167
  have hFc := pg_free hD hS hA
  refine va_calli (va_runV (As := [.int (xs (i + 1))]) (rest := []) ⟨hx, hb, hml, hown, hts⟩ (s_X15_end l dC dI cs ty gm L H.size F h0 ρ ta ou so ad na va lc dm tg pe ml bg co sp nb0 nb1 nb2 pl se ke wi hs mo po nu pr sq xa sa n64 m64 ex wh sd tk hd ak ho ot sx s0 s1 s2 nf bd mm zo fm sn 1 gc gv ze zt (xs (i + 1)) hW hL_h0 hT_h0) ⟨callB_of 1 hts (gi kt_1219) rfl rfl rfl (hts _ kt_669) (hts _ kt_1220) (by decide +kernel) ⟨Nat.le_of_ble_eq_true rfl, Nat.le_of_ble_eq_true rfl⟩, (hts _ kt_1221), (hts _ kt_1222)⟩ ⟨fun a U g mk q => ⟨q.1, PTm.calling q.2⟩, pg_recv hK hP hL_h0 hF_148 (q := (RX15, TX15, 59)) rfl, fun U hU hWm => ⟨rfl, PTm.mk hU hWm hP hK hD hE hO⟩⟩ rfl rfl hl.1 rfl (lv_room (Nat.le_of_ble_eq_true rfl)) dL_law_191 ⟨by show _ + 0 ≤ 600000; omega, by show _ + 0 ≤ 7302250; omega⟩) hS (fun q _ h => hFc q h) hFc (fun r_171 u t H1 locs ht hvm hw hB hz1 hk1 hS => ?_)
  obtain ⟨F2, ty9, hty9, hB1, hW9⟩ := hB
  subst hty9
  obtain ⟨hP, hD, hO, hR⟩ := QTm.back hB1 ht hFc FR.refl (fun q h => h)
  have hC := hC.kept hBq hk1
  obtain ⟨hi_172, ht_173⟩ := hW.f_ml hL_h0 hT_h0
  have hR9 := FR.unre hT_h0 rfl hB1.2.2.2
  have hDM := DIRM.fr hDM hO0 hW hLn0 hTn0 hLv0 hTv0 hcn hR9 (hR9 so (by rw [hTs0]; simp)) (hR9 ad (by rw [hTd0]; simp)) (hR9 na (by rw [hTn0]; simp)) (hR9 va (by rw [hTv0]; simp)) (fun k hk => ⟨by simp only [List.mem_cons, List.not_mem_nil, or_false]; omega, by simp only [List.mem_cons, List.not_mem_nil, or_false]; omega⟩)
  have hSN9 := hSN.imp id (fun q => And.intro (q.1.fr hO0 hW hi_156 ht_157 hR9 (by simp only [List.mem_cons, List.not_mem_nil, or_false]; omega)) (q.2.fr hO0 hW hi_161 ht_162 hR9 (by simp only [List.mem_cons, List.not_mem_nil, or_false]; omega)))
  obtain ⟨hi_174, ht_175⟩ := hW.f_ou hL_h0 hT_h0
  have hM : PMl (dC, dI) cs A Bq h0 (if ¬ (xs (i + 1)) < 0 ∧ ¬ nI zt < (xs (i + 1)) then (xs (i + 1)).toNatClampNeg else zt) ze gt nf bd mm gm gl EX zo go fm sn LC DN gc gv H1 := ⟨L, F2, _, ρ, ta, ou, so, ad, na, va, lc, dm, tg, pe, ml, bg, co, sp, nb0, nb1, nb2, pl, se, ke, wi, hs, mo, po, nu, pr, sq, xa, sa, n64, m64, ex, wh, sd, tk, hd, ak, ho, ot, sx, s0, s1, s2, ⟨hP, hD, hO, hW9⟩, hL_h0, rtf_self, (hB1.2.2.2 ta (by rw [rtf_tr hT_h0 (by decide) ht_155]; simp)).trans hFta, (hB1.2.2.2 ml (by rw [rtf_tr hT_h0 (by decide) ht_173]; simp)).trans hFml, hDM, hSN9, (hB1.2.2.2 ou (by rw [rtf_tr hT_h0 (by decide) ht_175]; simp)).trans hFou, hn01, hn02, hn12, U_re hU26, U15_re hU15, hBq⟩
  generalize H1 = H at hC hM hS ⊢
  refine lv_pop hx hb dL_law_194 rfl ?_
  refine lv_goto (tgt := 522) hx hb dL_law_195 (by decide) ?_
  refine W.widen (k := cc + 1) (n := ss + 5) (by omega) (by omega) ?_
  exact kk (if ¬ (xs (i + 1)) < 0 ∧ ¬ nI zt < (xs (i + 1)) then (xs (i + 1)).toNatClampNeg else zt) ze f gt n bb zm fL sA sB sC DX zo fo SD aS vS c9 u9 nf bd mm gm gl EX go fm sn LC DN gc gv _ _ _ (Nat.le_trans (end_le (n := zt) (by omega) (Nat.le_refl _)) (by omega)) hcn (hrel.le (end_le (n := zt) (by omega) (Nat.le_refl _))) hlr hdr hro hsr hvn hce hC hM hS hl
