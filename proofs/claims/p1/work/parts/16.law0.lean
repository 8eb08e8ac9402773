theorem dL_law_0 : decode cL_law 0 = .ok (.new 7, 3) := by decide +kernel
theorem dL_law_3 : decode cL_law 3 = .ok (.dup, 1) := by decide +kernel
theorem dL_law_4 : decode cL_law 4 = .ok (.invokespecial 9, 3) := by decide +kernel
theorem dL_law_7 : decode cL_law 7 = .ok (.astore_n 1, 1) := by decide +kernel
theorem dL_law_8 : decode cL_law 8 = .ok (.new 10, 3) := by decide +kernel
theorem dL_law_11 : decode cL_law 11 = .ok (.dup, 1) := by decide +kernel
theorem dL_law_12 : decode cL_law 12 = .ok (.invokespecial 12, 3) := by decide +kernel
theorem dL_law_15 : decode cL_law 15 = .ok (.astore_n 2, 1) := by decide +kernel
theorem dL_law_16 : decode cL_law 16 = .ok (.iconst 0, 1) := by decide +kernel
theorem dL_law_17 : decode cL_law 17 = .ok (.istore_n 3, 1) := by decide +kernel
theorem dL_law_18 : decode cL_law 18 = .ok (.iload_n 3, 1) := by decide +kernel
theorem dL_law_19 : decode cL_law 19 = .ok (.aload_n 0, 1) := by decide +kernel
theorem dL_law_20 : decode cL_law 20 = .ok (.arraylength, 1) := by decide +kernel
theorem dL_law_21 : decode cL_law 21 = .ok (.bipush 6, 2) := by decide +kernel
theorem dL_law_23 : decode cL_law 23 = .ok (.isub, 1) := by decide +kernel
theorem dL_law_24 : decode cL_law 24 = .ok (.if_icmp .gt 504, 3) := by decide +kernel
theorem dL_law_27 : decode cL_law 27 = .ok (.aload_n 0, 1) := by decide +kernel
theorem dL_law_28 : decode cL_law 28 = .ok (.iload_n 3, 1) := by decide +kernel
theorem dL_law_29 : decode cL_law 29 = .ok (.iaload, 1) := by decide +kernel
theorem dL_law_30 : decode cL_law 30 = .ok (.bipush 15, 2) := by decide +kernel
theorem dL_law_32 : decode cL_law 32 = .ok (.iand, 1) := by decide +kernel
theorem dL_law_33 : decode cL_law 33 = .ok (.tableswitch 489 0 15 #[79, 142, 165, 198, 211, 234, 247, 270, 283, 296, 329, 368, 417, 430, 453, 466], 79) := by decide +kernel
theorem dL_law_112 : decode cL_law 112 = .ok (.aload_n 1, 1) := by decide +kernel
theorem dL_law_113 : decode cL_law 113 = .ok (.aload_n 0, 1) := by decide +kernel
theorem dL_law_114 : decode cL_law 114 = .ok (.iload_n 3, 1) := by decide +kernel
theorem dL_law_115 : decode cL_law 115 = .ok (.iconst 1, 1) := by decide +kernel
theorem dL_law_116 : decode cL_law 116 = .ok (.iadd, 1) := by decide +kernel
theorem dL_law_117 : decode cL_law 117 = .ok (.iaload, 1) := by decide +kernel
theorem dL_law_118 : decode cL_law 118 = .ok (.aload_n 0, 1) := by decide +kernel
theorem dL_law_119 : decode cL_law 119 = .ok (.iload_n 3, 1) := by decide +kernel
theorem dL_law_120 : decode cL_law 120 = .ok (.iconst 2, 1) := by decide +kernel
theorem dL_law_121 : decode cL_law 121 = .ok (.iadd, 1) := by decide +kernel
theorem dL_law_122 : decode cL_law 122 = .ok (.iaload, 1) := by decide +kernel
theorem dL_law_123 : decode cL_law 123 = .ok (.aload_n 0, 1) := by decide +kernel
theorem dL_law_124 : decode cL_law 124 = .ok (.iload_n 3, 1) := by decide +kernel
theorem dL_law_125 : decode cL_law 125 = .ok (.iconst 3, 1) := by decide +kernel
theorem dL_law_126 : decode cL_law 126 = .ok (.iadd, 1) := by decide +kernel
theorem dL_law_127 : decode cL_law 127 = .ok (.iaload, 1) := by decide +kernel
theorem dL_law_128 : decode cL_law 128 = .ok (.aload_n 0, 1) := by decide +kernel
theorem dL_law_129 : decode cL_law 129 = .ok (.iload_n 3, 1) := by decide +kernel
theorem dL_law_130 : decode cL_law 130 = .ok (.iconst 4, 1) := by decide +kernel
theorem dL_law_131 : decode cL_law 131 = .ok (.iadd, 1) := by decide +kernel
theorem dL_law_132 : decode cL_law 132 = .ok (.iaload, 1) := by decide +kernel
theorem dL_law_133 : decode cL_law 133 = .ok (.aload_n 0, 1) := by decide +kernel
theorem dL_law_134 : decode cL_law 134 = .ok (.iload_n 3, 1) := by decide +kernel
theorem dL_law_135 : decode cL_law 135 = .ok (.iconst 5, 1) := by decide +kernel
theorem dL_law_136 : decode cL_law 136 = .ok (.iadd, 1) := by decide +kernel
theorem dL_law_137 : decode cL_law 137 = .ok (.iaload, 1) := by decide +kernel
theorem dL_law_138 : decode cL_law 138 = .ok (.invokevirtual 13, 3) := by decide +kernel
theorem dL_law_141 : decode cL_law 141 = .ok (.aload_n 2, 1) := by decide +kernel
theorem dL_law_142 : decode cL_law 142 = .ok (.aload_n 0, 1) := by decide +kernel
theorem dL_law_143 : decode cL_law 143 = .ok (.iload_n 3, 1) := by decide +kernel
theorem dL_law_144 : decode cL_law 144 = .ok (.iconst 1, 1) := by decide +kernel
theorem dL_law_145 : decode cL_law 145 = .ok (.iadd, 1) := by decide +kernel
theorem dL_law_146 : decode cL_law 146 = .ok (.iaload, 1) := by decide +kernel
theorem dL_law_147 : decode cL_law 147 = .ok (.aload_n 0, 1) := by decide +kernel
theorem dL_law_148 : decode cL_law 148 = .ok (.iload_n 3, 1) := by decide +kernel
theorem dL_law_149 : decode cL_law 149 = .ok (.iconst 2, 1) := by decide +kernel
theorem dL_law_150 : decode cL_law 150 = .ok (.iadd, 1) := by decide +kernel
theorem dL_law_151 : decode cL_law 151 = .ok (.iaload, 1) := by decide +kernel
theorem dL_law_152 : decode cL_law 152 = .ok (.aload_n 0, 1) := by decide +kernel
theorem dL_law_153 : decode cL_law 153 = .ok (.iload_n 3, 1) := by decide +kernel
theorem dL_law_154 : decode cL_law 154 = .ok (.iconst 3, 1) := by decide +kernel
theorem dL_law_155 : decode cL_law 155 = .ok (.iadd, 1) := by decide +kernel
theorem dL_law_156 : decode cL_law 156 = .ok (.iaload, 1) := by decide +kernel
theorem dL_law_157 : decode cL_law 157 = .ok (.aload_n 0, 1) := by decide +kernel
theorem dL_law_158 : decode cL_law 158 = .ok (.iload_n 3, 1) := by decide +kernel
theorem dL_law_159 : decode cL_law 159 = .ok (.iconst 4, 1) := by decide +kernel
theorem dL_law_160 : decode cL_law 160 = .ok (.iadd, 1) := by decide +kernel
theorem dL_law_161 : decode cL_law 161 = .ok (.iaload, 1) := by decide +kernel
theorem dL_law_162 : decode cL_law 162 = .ok (.aload_n 0, 1) := by decide +kernel
theorem dL_law_163 : decode cL_law 163 = .ok (.iload_n 3, 1) := by decide +kernel
theorem dL_law_164 : decode cL_law 164 = .ok (.iconst 5, 1) := by decide +kernel
theorem dL_law_165 : decode cL_law 165 = .ok (.iadd, 1) := by decide +kernel
theorem dL_law_166 : decode cL_law 166 = .ok (.iaload, 1) := by decide +kernel
theorem dL_law_167 : decode cL_law 167 = .ok (.invokevirtual 17, 3) := by decide +kernel
theorem dL_law_170 : decode cL_law 170 = .ok (.if_icmp .eq 352, 3) := by decide +kernel
theorem dL_law_173 : decode cL_law 173 = .ok (.iconst 0, 1) := by decide +kernel
theorem dL_law_174 : decode cL_law 174 = .ok (.ireturn, 1) := by decide +kernel
theorem dL_law_175 : decode cL_law 175 = .ok (.aload_n 1, 1) := by decide +kernel
theorem dL_law_176 : decode cL_law 176 = .ok (.aload_n 0, 1) := by decide +kernel
theorem dL_law_177 : decode cL_law 177 = .ok (.iload_n 3, 1) := by decide +kernel
theorem dL_law_178 : decode cL_law 178 = .ok (.iconst 1, 1) := by decide +kernel
theorem dL_law_179 : decode cL_law 179 = .ok (.iadd, 1) := by decide +kernel
theorem dL_law_180 : decode cL_law 180 = .ok (.iaload, 1) := by decide +kernel
theorem dL_law_181 : decode cL_law 181 = .ok (.invokevirtual 18, 3) := by decide +kernel
theorem dL_law_184 : decode cL_law 184 = .ok (.aload_n 2, 1) := by decide +kernel
theorem dL_law_185 : decode cL_law 185 = .ok (.aload_n 0, 1) := by decide +kernel
theorem dL_law_186 : decode cL_law 186 = .ok (.iload_n 3, 1) := by decide +kernel
theorem dL_law_187 : decode cL_law 187 = .ok (.iconst 1, 1) := by decide +kernel
theorem dL_law_188 : decode cL_law 188 = .ok (.iadd, 1) := by decide +kernel
theorem dL_law_189 : decode cL_law 189 = .ok (.iaload, 1) := by decide +kernel
theorem dL_law_190 : decode cL_law 190 = .ok (.invokevirtual 22, 3) := by decide +kernel
theorem dL_law_193 : decode cL_law 193 = .ok (.if_icmp .eq 329, 3) := by decide +kernel
theorem dL_law_196 : decode cL_law 196 = .ok (.iconst 0, 1) := by decide +kernel
theorem dL_law_197 : decode cL_law 197 = .ok (.ireturn, 1) := by decide +kernel
theorem dL_law_198 : decode cL_law 198 = .ok (.aload_n 1, 1) := by decide +kernel
theorem dL_law_199 : decode cL_law 199 = .ok (.aload_n 0, 1) := by decide +kernel
theorem dL_law_200 : decode cL_law 200 = .ok (.iload_n 3, 1) := by decide +kernel
theorem dL_law_201 : decode cL_law 201 = .ok (.iconst 1, 1) := by decide +kernel
theorem dL_law_202 : decode cL_law 202 = .ok (.iadd, 1) := by decide +kernel
theorem dL_law_203 : decode cL_law 203 = .ok (.iaload, 1) := by decide +kernel
theorem dL_law_204 : decode cL_law 204 = .ok (.aload_n 0, 1) := by decide +kernel
theorem dL_law_205 : decode cL_law 205 = .ok (.iload_n 3, 1) := by decide +kernel
theorem dL_law_206 : decode cL_law 206 = .ok (.iconst 2, 1) := by decide +kernel
theorem dL_law_207 : decode cL_law 207 = .ok (.iadd, 1) := by decide +kernel
theorem dL_law_208 : decode cL_law 208 = .ok (.iaload, 1) := by decide +kernel
theorem dL_law_209 : decode cL_law 209 = .ok (.invokevirtual 23, 3) := by decide +kernel
theorem dL_law_212 : decode cL_law 212 = .ok (.aload_n 2, 1) := by decide +kernel
theorem dL_law_213 : decode cL_law 213 = .ok (.aload_n 0, 1) := by decide +kernel
theorem dL_law_214 : decode cL_law 214 = .ok (.iload_n 3, 1) := by decide +kernel
theorem dL_law_215 : decode cL_law 215 = .ok (.iconst 1, 1) := by decide +kernel
theorem dL_law_216 : decode cL_law 216 = .ok (.iadd, 1) := by decide +kernel
theorem dL_law_217 : decode cL_law 217 = .ok (.iaload, 1) := by decide +kernel
theorem dL_law_218 : decode cL_law 218 = .ok (.aload_n 0, 1) := by decide +kernel
theorem dL_law_219 : decode cL_law 219 = .ok (.iload_n 3, 1) := by decide +kernel
theorem dL_law_220 : decode cL_law 220 = .ok (.iconst 2, 1) := by decide +kernel
theorem dL_law_221 : decode cL_law 221 = .ok (.iadd, 1) := by decide +kernel
theorem dL_law_222 : decode cL_law 222 = .ok (.iaload, 1) := by decide +kernel
theorem dL_law_223 : decode cL_law 223 = .ok (.invokevirtual 27, 3) := by decide +kernel
theorem dL_law_226 : decode cL_law 226 = .ok (.if_icmp .eq 296, 3) := by decide +kernel
theorem dL_law_229 : decode cL_law 229 = .ok (.iconst 0, 1) := by decide +kernel
theorem dL_law_230 : decode cL_law 230 = .ok (.ireturn, 1) := by decide +kernel
theorem dL_law_231 : decode cL_law 231 = .ok (.aload_n 1, 1) := by decide +kernel
theorem dL_law_232 : decode cL_law 232 = .ok (.invokevirtual 28, 3) := by decide +kernel
theorem dL_law_235 : decode cL_law 235 = .ok (.aload_n 2, 1) := by decide +kernel
theorem dL_law_236 : decode cL_law 236 = .ok (.invokevirtual 32, 3) := by decide +kernel
theorem dL_law_239 : decode cL_law 239 = .ok (.if_icmp .eq 283, 3) := by decide +kernel
theorem dL_law_242 : decode cL_law 242 = .ok (.iconst 0, 1) := by decide +kernel
theorem dL_law_243 : decode cL_law 243 = .ok (.ireturn, 1) := by decide +kernel
theorem dL_law_244 : decode cL_law 244 = .ok (.aload_n 1, 1) := by decide +kernel
theorem dL_law_245 : decode cL_law 245 = .ok (.aload_n 0, 1) := by decide +kernel
theorem dL_law_246 : decode cL_law 246 = .ok (.iload_n 3, 1) := by decide +kernel
theorem dL_law_247 : decode cL_law 247 = .ok (.iconst 1, 1) := by decide +kernel
theorem dL_law_248 : decode cL_law 248 = .ok (.iadd, 1) := by decide +kernel
theorem dL_law_249 : decode cL_law 249 = .ok (.iaload, 1) := by decide +kernel
theorem dL_law_250 : decode cL_law 250 = .ok (.invokevirtual 33, 3) := by decide +kernel
theorem dL_law_253 : decode cL_law 253 = .ok (.aload_n 2, 1) := by decide +kernel
theorem dL_law_254 : decode cL_law 254 = .ok (.aload_n 0, 1) := by decide +kernel
theorem dL_law_255 : decode cL_law 255 = .ok (.iload_n 3, 1) := by decide +kernel
theorem dL_law_256 : decode cL_law 256 = .ok (.iconst 1, 1) := by decide +kernel
theorem dL_law_257 : decode cL_law 257 = .ok (.iadd, 1) := by decide +kernel
theorem dL_law_258 : decode cL_law 258 = .ok (.iaload, 1) := by decide +kernel
theorem dL_law_259 : decode cL_law 259 = .ok (.invokevirtual 36, 3) := by decide +kernel
theorem dL_law_262 : decode cL_law 262 = .ok (.if_icmp .eq 260, 3) := by decide +kernel
theorem dL_law_265 : decode cL_law 265 = .ok (.iconst 0, 1) := by decide +kernel
theorem dL_law_266 : decode cL_law 266 = .ok (.ireturn, 1) := by decide +kernel
theorem dL_law_267 : decode cL_law 267 = .ok (.aload_n 1, 1) := by decide +kernel
theorem dL_law_268 : decode cL_law 268 = .ok (.invokevirtual 37, 3) := by decide +kernel
theorem dL_law_271 : decode cL_law 271 = .ok (.aload_n 2, 1) := by decide +kernel
theorem dL_law_272 : decode cL_law 272 = .ok (.invokevirtual 40, 3) := by decide +kernel
theorem dL_law_275 : decode cL_law 275 = .ok (.if_icmp .eq 247, 3) := by decide +kernel
theorem dL_law_278 : decode cL_law 278 = .ok (.iconst 0, 1) := by decide +kernel
theorem dL_law_279 : decode cL_law 279 = .ok (.ireturn, 1) := by decide +kernel
theorem dL_law_280 : decode cL_law 280 = .ok (.aload_n 1, 1) := by decide +kernel
theorem dL_law_281 : decode cL_law 281 = .ok (.aload_n 0, 1) := by decide +kernel
theorem dL_law_282 : decode cL_law 282 = .ok (.iload_n 3, 1) := by decide +kernel
theorem dL_law_283 : decode cL_law 283 = .ok (.iconst 1, 1) := by decide +kernel
theorem dL_law_284 : decode cL_law 284 = .ok (.iadd, 1) := by decide +kernel
theorem dL_law_285 : decode cL_law 285 = .ok (.iaload, 1) := by decide +kernel
theorem dL_law_286 : decode cL_law 286 = .ok (.invokevirtual 41, 3) := by decide +kernel
theorem dL_law_289 : decode cL_law 289 = .ok (.aload_n 2, 1) := by decide +kernel
theorem dL_law_290 : decode cL_law 290 = .ok (.aload_n 0, 1) := by decide +kernel
theorem dL_law_291 : decode cL_law 291 = .ok (.iload_n 3, 1) := by decide +kernel
theorem dL_law_292 : decode cL_law 292 = .ok (.iconst 1, 1) := by decide +kernel
theorem dL_law_293 : decode cL_law 293 = .ok (.iadd, 1) := by decide +kernel
theorem dL_law_294 : decode cL_law 294 = .ok (.iaload, 1) := by decide +kernel
theorem dL_law_295 : decode cL_law 295 = .ok (.invokevirtual 44, 3) := by decide +kernel
theorem dL_law_298 : decode cL_law 298 = .ok (.if_icmp .eq 224, 3) := by decide +kernel
theorem dL_law_301 : decode cL_law 301 = .ok (.iconst 0, 1) := by decide +kernel
theorem dL_law_302 : decode cL_law 302 = .ok (.ireturn, 1) := by decide +kernel
theorem dL_law_303 : decode cL_law 303 = .ok (.aload_n 1, 1) := by decide +kernel
theorem dL_law_304 : decode cL_law 304 = .ok (.invokevirtual 45, 3) := by decide +kernel
theorem dL_law_307 : decode cL_law 307 = .ok (.aload_n 2, 1) := by decide +kernel
theorem dL_law_308 : decode cL_law 308 = .ok (.invokevirtual 48, 3) := by decide +kernel
theorem dL_law_311 : decode cL_law 311 = .ok (.if_icmp .eq 211, 3) := by decide +kernel
theorem dL_law_314 : decode cL_law 314 = .ok (.iconst 0, 1) := by decide +kernel
theorem dL_law_315 : decode cL_law 315 = .ok (.ireturn, 1) := by decide +kernel
theorem dL_law_316 : decode cL_law 316 = .ok (.aload_n 1, 1) := by decide +kernel
theorem dL_law_317 : decode cL_law 317 = .ok (.invokevirtual 49, 3) := by decide +kernel
theorem dL_law_320 : decode cL_law 320 = .ok (.aload_n 2, 1) := by decide +kernel
theorem dL_law_321 : decode cL_law 321 = .ok (.invokevirtual 52, 3) := by decide +kernel
theorem dL_law_324 : decode cL_law 324 = .ok (.if_icmp .eq 198, 3) := by decide +kernel
theorem dL_law_327 : decode cL_law 327 = .ok (.iconst 0, 1) := by decide +kernel
theorem dL_law_328 : decode cL_law 328 = .ok (.ireturn, 1) := by decide +kernel
theorem dL_law_329 : decode cL_law 329 = .ok (.aload_n 1, 1) := by decide +kernel
theorem dL_law_330 : decode cL_law 330 = .ok (.aload_n 0, 1) := by decide +kernel
theorem dL_law_331 : decode cL_law 331 = .ok (.iload_n 3, 1) := by decide +kernel
theorem dL_law_332 : decode cL_law 332 = .ok (.iconst 1, 1) := by decide +kernel
theorem dL_law_333 : decode cL_law 333 = .ok (.iadd, 1) := by decide +kernel
theorem dL_law_334 : decode cL_law 334 = .ok (.iaload, 1) := by decide +kernel
theorem dL_law_335 : decode cL_law 335 = .ok (.aload_n 0, 1) := by decide +kernel
theorem dL_law_336 : decode cL_law 336 = .ok (.iload_n 3, 1) := by decide +kernel
theorem dL_law_337 : decode cL_law 337 = .ok (.iconst 2, 1) := by decide +kernel
theorem dL_law_338 : decode cL_law 338 = .ok (.iadd, 1) := by decide +kernel
theorem dL_law_339 : decode cL_law 339 = .ok (.iaload, 1) := by decide +kernel
theorem dL_law_340 : decode cL_law 340 = .ok (.invokevirtual 53, 3) := by decide +kernel
theorem dL_law_343 : decode cL_law 343 = .ok (.aload_n 2, 1) := by decide +kernel
theorem dL_law_344 : decode cL_law 344 = .ok (.aload_n 0, 1) := by decide +kernel
theorem dL_law_345 : decode cL_law 345 = .ok (.iload_n 3, 1) := by decide +kernel
theorem dL_law_346 : decode cL_law 346 = .ok (.iconst 1, 1) := by decide +kernel
theorem dL_law_347 : decode cL_law 347 = .ok (.iadd, 1) := by decide +kernel
theorem dL_law_348 : decode cL_law 348 = .ok (.iaload, 1) := by decide +kernel
theorem dL_law_349 : decode cL_law 349 = .ok (.aload_n 0, 1) := by decide +kernel
theorem dL_law_350 : decode cL_law 350 = .ok (.iload_n 3, 1) := by decide +kernel
theorem dL_law_351 : decode cL_law 351 = .ok (.iconst 2, 1) := by decide +kernel
theorem dL_law_352 : decode cL_law 352 = .ok (.iadd, 1) := by decide +kernel
theorem dL_law_353 : decode cL_law 353 = .ok (.iaload, 1) := by decide +kernel
theorem dL_law_354 : decode cL_law 354 = .ok (.invokevirtual 56, 3) := by decide +kernel
theorem dL_law_357 : decode cL_law 357 = .ok (.if_icmp .eq 165, 3) := by decide +kernel
theorem dL_law_360 : decode cL_law 360 = .ok (.iconst 0, 1) := by decide +kernel
theorem dL_law_361 : decode cL_law 361 = .ok (.ireturn, 1) := by decide +kernel
theorem dL_law_362 : decode cL_law 362 = .ok (.aload_n 1, 1) := by decide +kernel
theorem dL_law_363 : decode cL_law 363 = .ok (.aload_n 0, 1) := by decide +kernel
theorem dL_law_364 : decode cL_law 364 = .ok (.iload_n 3, 1) := by decide +kernel
theorem dL_law_365 : decode cL_law 365 = .ok (.iconst 1, 1) := by decide +kernel
theorem dL_law_366 : decode cL_law 366 = .ok (.iadd, 1) := by decide +kernel
theorem dL_law_367 : decode cL_law 367 = .ok (.iaload, 1) := by decide +kernel
theorem dL_law_368 : decode cL_law 368 = .ok (.ifCond .eq 7, 3) := by decide +kernel
theorem dL_law_371 : decode cL_law 371 = .ok (.iconst 1, 1) := by decide +kernel
theorem dL_law_372 : decode cL_law 372 = .ok (.goto 4, 3) := by decide +kernel
theorem dL_law_375 : decode cL_law 375 = .ok (.iconst 0, 1) := by decide +kernel
theorem dL_law_376 : decode cL_law 376 = .ok (.invokevirtual 57, 3) := by decide +kernel
theorem dL_law_379 : decode cL_law 379 = .ok (.aload_n 2, 1) := by decide +kernel
theorem dL_law_380 : decode cL_law 380 = .ok (.aload_n 0, 1) := by decide +kernel
theorem dL_law_381 : decode cL_law 381 = .ok (.iload_n 3, 1) := by decide +kernel
theorem dL_law_382 : decode cL_law 382 = .ok (.iconst 1, 1) := by decide +kernel
theorem dL_law_383 : decode cL_law 383 = .ok (.iadd, 1) := by decide +kernel
theorem dL_law_384 : decode cL_law 384 = .ok (.iaload, 1) := by decide +kernel
theorem dL_law_385 : decode cL_law 385 = .ok (.ifCond .eq 7, 3) := by decide +kernel
theorem dL_law_388 : decode cL_law 388 = .ok (.iconst 1, 1) := by decide +kernel
theorem dL_law_389 : decode cL_law 389 = .ok (.goto 4, 3) := by decide +kernel
theorem dL_law_392 : decode cL_law 392 = .ok (.iconst 0, 1) := by decide +kernel
theorem dL_law_393 : decode cL_law 393 = .ok (.invokevirtual 61, 3) := by decide +kernel
theorem dL_law_396 : decode cL_law 396 = .ok (.if_icmp .eq 126, 3) := by decide +kernel
theorem dL_law_399 : decode cL_law 399 = .ok (.iconst 0, 1) := by decide +kernel
theorem dL_law_400 : decode cL_law 400 = .ok (.ireturn, 1) := by decide +kernel
theorem dL_law_401 : decode cL_law 401 = .ok (.aload_n 1, 1) := by decide +kernel
theorem dL_law_402 : decode cL_law 402 = .ok (.aload_n 0, 1) := by decide +kernel
theorem dL_law_403 : decode cL_law 403 = .ok (.iload_n 3, 1) := by decide +kernel
theorem dL_law_404 : decode cL_law 404 = .ok (.iconst 1, 1) := by decide +kernel
theorem dL_law_405 : decode cL_law 405 = .ok (.iadd, 1) := by decide +kernel
theorem dL_law_406 : decode cL_law 406 = .ok (.iaload, 1) := by decide +kernel
theorem dL_law_407 : decode cL_law 407 = .ok (.aload_n 0, 1) := by decide +kernel
theorem dL_law_408 : decode cL_law 408 = .ok (.iload_n 3, 1) := by decide +kernel
theorem dL_law_409 : decode cL_law 409 = .ok (.iconst 2, 1) := by decide +kernel
theorem dL_law_410 : decode cL_law 410 = .ok (.iadd, 1) := by decide +kernel
theorem dL_law_411 : decode cL_law 411 = .ok (.iaload, 1) := by decide +kernel
theorem dL_law_412 : decode cL_law 412 = .ok (.ifCond .eq 7, 3) := by decide +kernel
theorem dL_law_415 : decode cL_law 415 = .ok (.iconst 1, 1) := by decide +kernel
theorem dL_law_416 : decode cL_law 416 = .ok (.goto 4, 3) := by decide +kernel
theorem dL_law_419 : decode cL_law 419 = .ok (.iconst 0, 1) := by decide +kernel
theorem dL_law_420 : decode cL_law 420 = .ok (.invokevirtual 62, 3) := by decide +kernel
theorem dL_law_423 : decode cL_law 423 = .ok (.aload_n 2, 1) := by decide +kernel
theorem dL_law_424 : decode cL_law 424 = .ok (.aload_n 0, 1) := by decide +kernel
theorem dL_law_425 : decode cL_law 425 = .ok (.iload_n 3, 1) := by decide +kernel
theorem dL_law_426 : decode cL_law 426 = .ok (.iconst 1, 1) := by decide +kernel
theorem dL_law_427 : decode cL_law 427 = .ok (.iadd, 1) := by decide +kernel
theorem dL_law_428 : decode cL_law 428 = .ok (.iaload, 1) := by decide +kernel
theorem dL_law_429 : decode cL_law 429 = .ok (.aload_n 0, 1) := by decide +kernel
theorem dL_law_430 : decode cL_law 430 = .ok (.iload_n 3, 1) := by decide +kernel
theorem dL_law_431 : decode cL_law 431 = .ok (.iconst 2, 1) := by decide +kernel
theorem dL_law_432 : decode cL_law 432 = .ok (.iadd, 1) := by decide +kernel
theorem dL_law_433 : decode cL_law 433 = .ok (.iaload, 1) := by decide +kernel
theorem dL_law_434 : decode cL_law 434 = .ok (.ifCond .eq 7, 3) := by decide +kernel
theorem dL_law_437 : decode cL_law 437 = .ok (.iconst 1, 1) := by decide +kernel
theorem dL_law_438 : decode cL_law 438 = .ok (.goto 4, 3) := by decide +kernel
theorem dL_law_441 : decode cL_law 441 = .ok (.iconst 0, 1) := by decide +kernel
theorem dL_law_442 : decode cL_law 442 = .ok (.invokevirtual 66, 3) := by decide +kernel
theorem dL_law_445 : decode cL_law 445 = .ok (.if_icmp .eq 77, 3) := by decide +kernel
theorem dL_law_448 : decode cL_law 448 = .ok (.iconst 0, 1) := by decide +kernel
theorem dL_law_449 : decode cL_law 449 = .ok (.ireturn, 1) := by decide +kernel
theorem dL_law_450 : decode cL_law 450 = .ok (.aload_n 1, 1) := by decide +kernel
theorem dL_law_451 : decode cL_law 451 = .ok (.invokevirtual 67, 3) := by decide +kernel
theorem dL_law_454 : decode cL_law 454 = .ok (.aload_n 2, 1) := by decide +kernel
theorem dL_law_455 : decode cL_law 455 = .ok (.invokevirtual 70, 3) := by decide +kernel
theorem dL_law_458 : decode cL_law 458 = .ok (.if_icmp .eq 64, 3) := by decide +kernel
theorem dL_law_461 : decode cL_law 461 = .ok (.iconst 0, 1) := by decide +kernel
theorem dL_law_462 : decode cL_law 462 = .ok (.ireturn, 1) := by decide +kernel
theorem dL_law_463 : decode cL_law 463 = .ok (.aload_n 1, 1) := by decide +kernel
theorem dL_law_464 : decode cL_law 464 = .ok (.aload_n 0, 1) := by decide +kernel
theorem dL_law_465 : decode cL_law 465 = .ok (.iload_n 3, 1) := by decide +kernel
theorem dL_law_466 : decode cL_law 466 = .ok (.iconst 1, 1) := by decide +kernel
theorem dL_law_467 : decode cL_law 467 = .ok (.iadd, 1) := by decide +kernel
theorem dL_law_468 : decode cL_law 468 = .ok (.iaload, 1) := by decide +kernel
theorem dL_law_469 : decode cL_law 469 = .ok (.invokevirtual 71, 3) := by decide +kernel
theorem dL_law_472 : decode cL_law 472 = .ok (.aload_n 2, 1) := by decide +kernel
theorem dL_law_473 : decode cL_law 473 = .ok (.aload_n 0, 1) := by decide +kernel
theorem dL_law_474 : decode cL_law 474 = .ok (.iload_n 3, 1) := by decide +kernel
theorem dL_law_475 : decode cL_law 475 = .ok (.iconst 1, 1) := by decide +kernel
theorem dL_law_476 : decode cL_law 476 = .ok (.iadd, 1) := by decide +kernel
theorem dL_law_477 : decode cL_law 477 = .ok (.iaload, 1) := by decide +kernel
theorem dL_law_478 : decode cL_law 478 = .ok (.invokevirtual 74, 3) := by decide +kernel
theorem dL_law_481 : decode cL_law 481 = .ok (.if_icmp .eq 41, 3) := by decide +kernel
theorem dL_law_484 : decode cL_law 484 = .ok (.iconst 0, 1) := by decide +kernel
theorem dL_law_485 : decode cL_law 485 = .ok (.ireturn, 1) := by decide +kernel
theorem dL_law_486 : decode cL_law 486 = .ok (.aload_n 1, 1) := by decide +kernel
theorem dL_law_487 : decode cL_law 487 = .ok (.invokevirtual 75, 3) := by decide +kernel
theorem dL_law_490 : decode cL_law 490 = .ok (.aload_n 2, 1) := by decide +kernel
theorem dL_law_491 : decode cL_law 491 = .ok (.invokevirtual 78, 3) := by decide +kernel
theorem dL_law_494 : decode cL_law 494 = .ok (.if_icmp .eq 28, 3) := by decide +kernel
theorem dL_law_497 : decode cL_law 497 = .ok (.iconst 0, 1) := by decide +kernel
theorem dL_law_498 : decode cL_law 498 = .ok (.ireturn, 1) := by decide +kernel
theorem dL_law_499 : decode cL_law 499 = .ok (.aload_n 1, 1) := by decide +kernel
theorem dL_law_500 : decode cL_law 500 = .ok (.aload_n 0, 1) := by decide +kernel
theorem dL_law_501 : decode cL_law 501 = .ok (.iload_n 3, 1) := by decide +kernel
theorem dL_law_502 : decode cL_law 502 = .ok (.iconst 1, 1) := by decide +kernel
theorem dL_law_503 : decode cL_law 503 = .ok (.iadd, 1) := by decide +kernel
theorem dL_law_504 : decode cL_law 504 = .ok (.iaload, 1) := by decide +kernel
theorem dL_law_505 : decode cL_law 505 = .ok (.invokevirtual 79, 3) := by decide +kernel
theorem dL_law_508 : decode cL_law 508 = .ok (.aload_n 2, 1) := by decide +kernel
theorem dL_law_509 : decode cL_law 509 = .ok (.aload_n 0, 1) := by decide +kernel
theorem dL_law_510 : decode cL_law 510 = .ok (.iload_n 3, 1) := by decide +kernel
theorem dL_law_511 : decode cL_law 511 = .ok (.iconst 1, 1) := by decide +kernel
theorem dL_law_512 : decode cL_law 512 = .ok (.iadd, 1) := by decide +kernel
theorem dL_law_513 : decode cL_law 513 = .ok (.iaload, 1) := by decide +kernel
theorem dL_law_514 : decode cL_law 514 = .ok (.invokevirtual 82, 3) := by decide +kernel
theorem dL_law_517 : decode cL_law 517 = .ok (.if_icmp .eq 5, 3) := by decide +kernel
theorem dL_law_520 : decode cL_law 520 = .ok (.iconst 0, 1) := by decide +kernel
theorem dL_law_521 : decode cL_law 521 = .ok (.ireturn, 1) := by decide +kernel
theorem dL_law_522 : decode cL_law 522 = .ok (.iinc 3 6, 3) := by decide +kernel
theorem dL_law_525 : decode cL_law 525 = .ok (.goto (-507), 3) := by decide +kernel
theorem dL_law_528 : decode cL_law 528 = .ok (.iconst 1, 1) := by decide +kernel
theorem dL_law_529 : decode cL_law 529 = .ok (.ireturn, 1) := by decide +kernel
theorem kt_415 : Cond.code yX11_feed cX11_feed 6 (some .int) ∈ tb := tb_at (i := 488) (by decide +kernel) (by decide +kernel)
theorem kt_416 : Cond.initialized RX11 ∈ tb := tb_at (i := 81) (by decide +kernel) (by decide +kernel)
theorem kt_417 : Cond.methodLink RL 13 yX11_feed ∈ tb := tb_at (i := 485) (by decide +kernel) (by decide +kernel)
theorem kt_418 : Cond.instanceMethod yX11_feed ∈ tb := tb_at (i := 486) (by decide +kernel) (by decide +kernel)
theorem kt_419 : Cond.selects RX11 yX11_feed yX11_feed ∈ tb := tb_at (i := 487) (by decide +kernel) (by decide +kernel)
theorem kt_420 : Cond.code yX15_feed cX15_feed 8 (some .int) ∈ tb := tb_at (i := 1470) (by decide +kernel) (by decide +kernel)
theorem kt_421 : Cond.methodLink RL 17 yX15_feed ∈ tb := tb_at (i := 1467) (by decide +kernel) (by decide +kernel)
theorem kt_422 : Cond.instanceMethod yX15_feed ∈ tb := tb_at (i := 1468) (by decide +kernel) (by decide +kernel)
theorem kt_423 : Cond.selects RX15 yX15_feed yX15_feed ∈ tb := tb_at (i := 1469) (by decide +kernel) (by decide +kernel)
theorem kt_424 : Cond.code yX11_end cX11_end 2 (some .int) ∈ tb := tb_at (i := 500) (by decide +kernel) (by decide +kernel)
theorem kt_425 : Cond.methodLink RL 18 yX11_end ∈ tb := tb_at (i := 497) (by decide +kernel) (by decide +kernel)
theorem kt_426 : Cond.instanceMethod yX11_end ∈ tb := tb_at (i := 498) (by decide +kernel) (by decide +kernel)
theorem kt_427 : Cond.selects RX11 yX11_end yX11_end ∈ tb := tb_at (i := 499) (by decide +kernel) (by decide +kernel)
theorem kt_428 : Cond.code yX15_end cX15_end 2 (some .int) ∈ tb := tb_at (i := 1474) (by decide +kernel) (by decide +kernel)
theorem kt_429 : Cond.methodLink RL 22 yX15_end ∈ tb := tb_at (i := 1471) (by decide +kernel) (by decide +kernel)
theorem kt_430 : Cond.instanceMethod yX15_end ∈ tb := tb_at (i := 1472) (by decide +kernel) (by decide +kernel)
theorem kt_431 : Cond.selects RX15 yX15_end yX15_end ∈ tb := tb_at (i := 1473) (by decide +kernel) (by decide +kernel)
theorem kt_432 : Cond.code yX11_entry cX11_entry 4 (some .int) ∈ tb := tb_at (i := 508) (by decide +kernel) (by decide +kernel)
theorem kt_433 : Cond.methodLink RL 23 yX11_entry ∈ tb := tb_at (i := 505) (by decide +kernel) (by decide +kernel)
theorem kt_434 : Cond.instanceMethod yX11_entry ∈ tb := tb_at (i := 506) (by decide +kernel) (by decide +kernel)
theorem kt_435 : Cond.selects RX11 yX11_entry yX11_entry ∈ tb := tb_at (i := 507) (by decide +kernel) (by decide +kernel)
theorem kt_436 : Cond.code yX15_entry cX15_entry 7 (some .int) ∈ tb := tb_at (i := 1481) (by decide +kernel) (by decide +kernel)
theorem kt_437 : Cond.methodLink RL 27 yX15_entry ∈ tb := tb_at (i := 1478) (by decide +kernel) (by decide +kernel)
theorem kt_438 : Cond.instanceMethod yX15_entry ∈ tb := tb_at (i := 1479) (by decide +kernel) (by decide +kernel)
theorem kt_439 : Cond.selects RX15 yX15_entry yX15_entry ∈ tb := tb_at (i := 1480) (by decide +kernel) (by decide +kernel)
theorem kt_440 : Cond.code yX11_forget cX11_forget 1 (some .int) ∈ tb := tb_at (i := 555) (by decide +kernel) (by decide +kernel)
theorem kt_441 : Cond.methodLink RL 28 yX11_forget ∈ tb := tb_at (i := 552) (by decide +kernel) (by decide +kernel)
theorem kt_442 : Cond.instanceMethod yX11_forget ∈ tb := tb_at (i := 553) (by decide +kernel) (by decide +kernel)
theorem kt_443 : Cond.selects RX11 yX11_forget yX11_forget ∈ tb := tb_at (i := 554) (by decide +kernel) (by decide +kernel)
theorem kt_444 : Cond.code yX15_forget cX15_forget 2 (some .int) ∈ tb := tb_at (i := 1510) (by decide +kernel) (by decide +kernel)
theorem kt_445 : Cond.methodLink RL 32 yX15_forget ∈ tb := tb_at (i := 1507) (by decide +kernel) (by decide +kernel)
theorem kt_446 : Cond.instanceMethod yX15_forget ∈ tb := tb_at (i := 1508) (by decide +kernel) (by decide +kernel)
theorem kt_447 : Cond.selects RX15 yX15_forget yX15_forget ∈ tb := tb_at (i := 1509) (by decide +kernel) (by decide +kernel)
def LC (p : Program) (s : State) (m : MethodId) (meth : Method) (c : Code) (b : Nat) (xs : Nat → Int32) : Prop :=
  p.tables.exec = Jvm.exec ∧ c.code = cL_law ∧ meth.sig.returnType = ret ∧ c.maxLocals = 4 ∧ s.vm.findClass RL = some m.cls ∧ (∀ w ∈ tb, w.before #[Value.ref b] s = true) ∧ va_X b 6 xs s s.heap ∧ b < s.heap.size ∧ meth.locks = false ∧ ENV s ∧ SHV (fun q : Nat => s.heap.size ≤ q) s s.heap
set_option maxHeartbeats 4000000 in
set_option maxRecDepth 100000 in
theorem law_0 {p : Program} {l : Launch} {e : Env} {s : State} {m : MethodId} {below : List Frame} {meth : Method} {c : Code} {dC : Nat → ClassId} {dI : Nat → Nat → Nat} {b : Nat} {xs : Nat → Int32} (C0 : LC p s m meth c b xs) {xq : Nat} {mq : Nat} {g_t : Nat} {g_o : Nat} {g_d : Nat} {g_ck : Nat} {g_se : Nat} {g_po : Nat} {g_sh : Nat} {g_le : Nat} {g_sp : Nat} {g_tr : Nat} {g_orw : Nat} {g_de : Nat} {g_k1 : Nat} {g_k2 : Nat} {g_k3 : Nat} {g_k4 : Nat} {g_k5 : Nat} {g_k6 : Nat} {g_sw : Nat} {g_ss : Nat} {g_st : Nat} {g_l0 : Nat} {g_l1 : Nat} {g_l2 : Nat} {g_l3 : Nat} {g_px : Nat} {g_p1 : Nat} {g_p2 : Nat} {g_p3 : Nat} {g_pr : Nat} {g_ct : ClassId} {g_co : ClassId} {g_cw : ClassId} {g_cs : ClassId} {g_cst : ClassId} {g_cp : ClassId} {m_fs2 : List Value} {m_y0 : Nat} {m_y4 : Nat} {m_y38 : Nat} {m_y44 : Nat} {m_z1 : Nat} {m_z2 : Nat} {m_z3 : Nat} {m_z4 : Nat} {m_z5 : Nat} {m_ct : ClassId} {m_co : ClassId} {m_ch : ClassId} {m_d1 : ClassId} {m_d2 : ClassId} {m_d3 : ClassId} {m_d4 : ClassId} {m_d5 : ClassId} {m_f1 : Nat → Int32} {m_f4 : Nat → Int32} (hL : m_fs2.length = 59) (hF0 : m_fs2[0]? = some (.ref m_y0)) (hF1 : m_fs2[1]? = some (.int 0)) (hF2 : m_fs2[2]? = some (.int 0)) (hF3 : m_fs2[3]? = some (.int 0)) (hF4 : m_fs2[4]? = some (.ref m_y4)) (hF12 : m_fs2[12]? = some (.int 0)) (hF14 : m_fs2[14]? = some (.int 0)) (hF15 : m_fs2[15]? = some (.int 0)) (hF30 : m_fs2[30]? = some (.int 0)) (hF33 : m_fs2[33]? = some (.int 0)) (hF38 : m_fs2[38]? = some (.ref m_y38)) (hF44 : m_fs2[44]? = some (.ref m_y44)) {H : Heap} {locs : List Loc} {ls : Array Slot} (hK : va_K (dC, dI) vwCl [(g_ct, .int), (g_co, .int), (g_cw, .int), (g_cs, .int), (g_cst, .int), (g_cp, .int), (m_ct, .byte), (m_co, .byte), (m_d1, .int), (m_d2, .int), (m_d3, .int), (m_d4, .int), (m_d5, .byte), (m_ch, .byte)] s) (hP : va_P (dC, dI) vwCl [(xq, .inr (11, [.ref g_t, .ref g_o, .ref g_d, .ref g_ck, .ref g_se, .ref g_po, .ref g_sh, .ref g_le, .ref g_sp])), (g_t, .inr (0, [.ref g_tr, .int 0, .int 0])), (g_tr, .inl (g_ct, 3000, .inl (fun _ => 0))), (g_o, .inr (0, [.ref g_orw, .int 0, .int 0])), (g_orw, .inl (g_co, 3000, .inl (fun _ => 0))), (g_d, .inr (2, [.ref g_de, .int 0])), (g_ck, .inr (1, [.ref g_d, .ref g_k1, .ref g_k2, .ref g_k3, .ref g_k4, .ref g_k5, .ref g_k6, .int 0, .int 0, .int 0, .int 0])), (g_sh, .inr (8, [.ref g_sw, .ref g_ss, .ref g_st])), (g_sw, .inl (g_cw, 64, .inl (fun _ => 0))), (g_ss, .inl (g_cs, 8, .inl (fun _ => 0))), (g_st, .inl (g_cst, 8, .inl (fun _ => 0))), (g_le, .inr (4, [.ref g_l0, .ref g_l1, .ref g_l2, .ref g_l3, .int 0, .int 0])), (g_sp, .inr (4, [.ref g_px, .ref g_p1, .ref g_p2, .ref g_p3, .int 0, .int 0])), (g_px, .inr (0, [.ref g_pr, .int 0, .int 0])), (g_pr, .inl (g_cp, 3000, .inl (fun _ => 0))), (mq, .inr (15, m_fs2)), (m_y0, .inl (m_ct, 3000, .inl (fun _ => 0))), (m_y4, .inl (m_co, 6000, .inl (fun _ => 0))), (m_y38, .inr (12, [.ref m_z1, .ref m_z2, .ref m_z3, .ref m_z4, .ref m_z5, .int 0, .long 0])), (m_z1, .inl (m_d1, 8, .inl m_f1)), (m_z2, .inl (m_d2, 8, .inl (fun _ => 0))), (m_z3, .inl (m_d3, 64, .inl (fun _ => 0))), (m_z4, .inl (m_d4, 64, .inl m_f4)), (m_z5, .inl (m_d5, 64, .inl (fun _ => 0))), (m_y44, .inl (m_ch, 32, .inl (fun _ => 0)))] H) (hD : va_D (fun q : Nat => s.heap.size ≤ q) [(xq, .inr (11, [.ref g_t, .ref g_o, .ref g_d, .ref g_ck, .ref g_se, .ref g_po, .ref g_sh, .ref g_le, .ref g_sp])), (g_t, .inr (0, [.ref g_tr, .int 0, .int 0])), (g_tr, .inl (g_ct, 3000, .inl (fun _ => 0))), (g_o, .inr (0, [.ref g_orw, .int 0, .int 0])), (g_orw, .inl (g_co, 3000, .inl (fun _ => 0))), (g_d, .inr (2, [.ref g_de, .int 0])), (g_ck, .inr (1, [.ref g_d, .ref g_k1, .ref g_k2, .ref g_k3, .ref g_k4, .ref g_k5, .ref g_k6, .int 0, .int 0, .int 0, .int 0])), (g_sh, .inr (8, [.ref g_sw, .ref g_ss, .ref g_st])), (g_sw, .inl (g_cw, 64, .inl (fun _ => 0))), (g_ss, .inl (g_cs, 8, .inl (fun _ => 0))), (g_st, .inl (g_cst, 8, .inl (fun _ => 0))), (g_le, .inr (4, [.ref g_l0, .ref g_l1, .ref g_l2, .ref g_l3, .int 0, .int 0])), (g_sp, .inr (4, [.ref g_px, .ref g_p1, .ref g_p2, .ref g_p3, .int 0, .int 0])), (g_px, .inr (0, [.ref g_pr, .int 0, .int 0])), (g_pr, .inl (g_cp, 3000, .inl (fun _ => 0))), (mq, .inr (15, m_fs2)), (m_y0, .inl (m_ct, 3000, .inl (fun _ => 0))), (m_y4, .inl (m_co, 6000, .inl (fun _ => 0))), (m_y38, .inr (12, [.ref m_z1, .ref m_z2, .ref m_z3, .ref m_z4, .ref m_z5, .int 0, .long 0])), (m_z1, .inl (m_d1, 8, .inl m_f1)), (m_z2, .inl (m_d2, 8, .inl (fun _ => 0))), (m_z3, .inl (m_d3, 64, .inl (fun _ => 0))), (m_z4, .inl (m_d4, 64, .inl m_f4)), (m_z5, .inl (m_d5, 64, .inl (fun _ => 0))), (m_y44, .inl (m_ch, 32, .inl (fun _ => 0)))]) (hS : va_S (fun q : Nat => s.heap.size ≤ q) s.heap H locs) (hl : lv_has ls 4 [(3, .int 0), (2, .ref mq), (1, .ref xq), (0, .ref b)]) : W p l e room_1 s m #[Value.ref b] below meth c H locs 576 138251 (lw_Z below #[Value.ref b] s) (F0 m 112 ls []) := by
  obtain ⟨hx, hb, hr, hml, hown, hts, hX, hbl, hlocks, hE, hZ⟩ := C0
  have hA : ∀ q : Nat, s.heap.size ≤ q → (fun q : Nat => s.heap.size ≤ q) q := fun _ h => h
  have hbA : ¬ (fun q : Nat => s.heap.size ≤ q) b := Nat.not_le.mpr hbl
  refine lv_aload_n hx hb dL_law_112 rfl (lv_at hl 2 rfl) ?_
  refine lv_aload_n hx hb dL_law_113 rfl (lv_at hl 3 rfl) ?_
  refine lv_iload_n hx hb dL_law_114 rfl (lv_at hl 0 rfl) ?_
  refine lv_iconst (v := 1) hx hb dL_law_115 (by decide) ?_
  refine lv_iadd hx hb dL_law_116 ?_
  refine lv_topi (fun x_1 ex_1 => ?_)
  obtain rfl : x_1 = 1 := ex_1.trans (by decide)
  refine va_sld hx hb hX hbl hbA hS (show vp_in (1 : Int32) 6 from (show vp_in (nI 1) 6 from vp_in_nI (by omega) (by omega))) dL_law_117 ?_
  refine lv_topi (fun x_2 ex_2 => ?_)
  obtain rfl : x_2 = xs 1 := ex_2.trans (congrArg xs (by decide))
  refine lv_aload_n hx hb dL_law_118 rfl (lv_at hl 3 rfl) ?_
  refine lv_iload_n hx hb dL_law_119 rfl (lv_at hl 0 rfl) ?_
  refine lv_iconst (v := 2) hx hb dL_law_120 (by decide) ?_
  refine lv_iadd hx hb dL_law_121 ?_
  refine lv_topi (fun x_3 ex_3 => ?_)
  obtain rfl : x_3 = 2 := ex_3.trans (by decide)
  refine va_sld hx hb hX hbl hbA hS (show vp_in (2 : Int32) 6 from (show vp_in (nI 2) 6 from vp_in_nI (by omega) (by omega))) dL_law_122 ?_
  refine lv_topi (fun x_4 ex_4 => ?_)
  obtain rfl : x_4 = xs 2 := ex_4.trans (congrArg xs (by decide))
  refine lv_aload_n hx hb dL_law_123 rfl (lv_at hl 3 rfl) ?_
  refine lv_iload_n hx hb dL_law_124 rfl (lv_at hl 0 rfl) ?_
  refine lv_iconst (v := 3) hx hb dL_law_125 (by decide) ?_
  refine lv_iadd hx hb dL_law_126 ?_
  refine lv_topi (fun x_5 ex_5 => ?_)
  obtain rfl : x_5 = 3 := ex_5.trans (by decide)
  refine va_sld hx hb hX hbl hbA hS (show vp_in (3 : Int32) 6 from (show vp_in (nI 3) 6 from vp_in_nI (by omega) (by omega))) dL_law_127 ?_
  refine lv_topi (fun x_6 ex_6 => ?_)
  obtain rfl : x_6 = xs 3 := ex_6.trans (congrArg xs (by decide))
  refine lv_aload_n hx hb dL_law_128 rfl (lv_at hl 3 rfl) ?_
  refine lv_iload_n hx hb dL_law_129 rfl (lv_at hl 0 rfl) ?_
  refine lv_iconst (v := 4) hx hb dL_law_130 (by decide) ?_
  refine lv_iadd hx hb dL_law_131 ?_
  refine lv_topi (fun x_7 ex_7 => ?_)
  obtain rfl : x_7 = 4 := ex_7.trans (by decide)
  refine va_sld hx hb hX hbl hbA hS (show vp_in (4 : Int32) 6 from (show vp_in (nI 4) 6 from vp_in_nI (by omega) (by omega))) dL_law_132 ?_
  refine lv_topi (fun x_8 ex_8 => ?_)
  obtain rfl : x_8 = xs 4 := ex_8.trans (congrArg xs (by decide))
  refine lv_aload_n hx hb dL_law_133 rfl (lv_at hl 3 rfl) ?_
  refine lv_iload_n hx hb dL_law_134 rfl (lv_at hl 0 rfl) ?_
  refine lv_iconst (v := 5) hx hb dL_law_135 (by decide) ?_
  refine lv_iadd hx hb dL_law_136 ?_
  refine lv_topi (fun x_9 ex_9 => ?_)
  obtain rfl : x_9 = 5 := ex_9.trans (by decide)
  refine va_sld hx hb hX hbl hbA hS (show vp_in (5 : Int32) 6 from (show vp_in (nI 5) 6 from vp_in_nI (by omega) (by omega))) dL_law_137 ?_
  refine lv_topi (fun x_10 ex_10 => ?_)
  obtain rfl : x_10 = xs 5 := ex_10.trans (congrArg xs (by decide))
  have hPc := hP.sub (ws' := [(xq, .inr (11, [.ref g_t, .ref g_o, .ref g_d, .ref g_ck, .ref g_se, .ref g_po, .ref g_sh, .ref g_le, .ref g_sp])), (g_t, .inr (0, [.ref g_tr, .int 0, .int 0])), (g_tr, .inl (g_ct, 3000, .inl (fun _ => 0)))]) [0, 1, 2] rfl
  have hDc := hD.sub (ws' := [(xq, .inr (11, [.ref g_t, .ref g_o, .ref g_d, .ref g_ck, .ref g_se, .ref g_po, .ref g_sh, .ref g_le, .ref g_sp])), (g_t, .inr (0, [.ref g_tr, .int 0, .int 0])), (g_tr, .inl (g_ct, 3000, .inl (fun _ => 0)))]) [0, 1, 2] (by decide) rfl
  have hKc := hK.sub (tys' := [(g_ct, .int)]) [0] rfl
  have hFc := va_free (wc := [(xq, .inr (11, [.ref g_t, .ref g_o, .ref g_d, .ref g_ck, .ref g_se, .ref g_po, .ref g_sh, .ref g_le, .ref g_sp])), (g_t, .inr (0, [.ref g_tr, .int 0, .int 0])), (g_tr, .inl (g_ct, 3000, .inl (fun _ => 0)))]) hD hS hA [0, 1, 2] rfl
  refine va_calli (va_runV (As := [.int (xs 1), .int (xs 2), .int (xs 3), .int (xs 4), .int (xs 5)]) (rest := []) ⟨hx, hb, hml, hown, hts⟩ (c_X11_feed l dC dI H.size xq g_t g_o g_d g_ck g_se g_po g_sh g_le g_sp g_tr g_ct (xs 1) (xs 2) (xs 3) (xs 4) (xs 5) ) ⟨callB_of 5 hts (gi kt_415) rfl rfl rfl (hts _ kt_416) (hts _ kt_417) (by decide +kernel) ⟨Nat.le_of_ble_eq_true rfl, Nat.le_of_ble_eq_true rfl⟩, (hts _ kt_418), (hts _ kt_419)⟩ ⟨fun a U g mk q => ⟨q.1, PW.calling q.2⟩, va_recv hKc hPc (ci := 11) (q0 := 0) rfl rfl, fun U hU hW => ⟨rfl, PW.mk hU hW hPc hKc hDc hE⟩⟩ rfl rfl hl.1 rfl (lv_room (Nat.le_of_ble_eq_true rfl)) dL_law_138 ⟨by show _ + 0 ≤ 600000; omega, by show _ + 0 ≤ 7302249; omega⟩) hS (fun q _ h => hFc q h) hFc (fun r_11 u t H1 locs ht hvm hw hB hz1 hk1 hS => ?_)
  have hB1 := hB
  obtain ⟨hP, hD, hK⟩ := QW.join (wr := [(g_o, .inr (0, [.ref g_orw, .int 0, .int 0])), (g_orw, .inl (g_co, 3000, .inl (fun _ => 0))), (g_d, .inr (2, [.ref g_de, .int 0])), (g_ck, .inr (1, [.ref g_d, .ref g_k1, .ref g_k2, .ref g_k3, .ref g_k4, .ref g_k5, .ref g_k6, .int 0, .int 0, .int 0, .int 0])), (g_sh, .inr (8, [.ref g_sw, .ref g_ss, .ref g_st])), (g_sw, .inl (g_cw, 64, .inl (fun _ => 0))), (g_ss, .inl (g_cs, 8, .inl (fun _ => 0))), (g_st, .inl (g_cst, 8, .inl (fun _ => 0))), (g_le, .inr (4, [.ref g_l0, .ref g_l1, .ref g_l2, .ref g_l3, .int 0, .int 0])), (g_sp, .inr (4, [.ref g_px, .ref g_p1, .ref g_p2, .ref g_p3, .int 0, .int 0])), (g_px, .inr (0, [.ref g_pr, .int 0, .int 0])), (g_pr, .inl (g_cp, 3000, .inl (fun _ => 0))), (mq, .inr (15, m_fs2)), (m_y0, .inl (m_ct, 3000, .inl (fun _ => 0))), (m_y4, .inl (m_co, 6000, .inl (fun _ => 0))), (m_y38, .inr (12, [.ref m_z1, .ref m_z2, .ref m_z3, .ref m_z4, .ref m_z5, .int 0, .long 0])), (m_z1, .inl (m_d1, 8, .inl m_f1)), (m_z2, .inl (m_d2, 8, .inl (fun _ => 0))), (m_z3, .inl (m_d3, 64, .inl (fun _ => 0))), (m_z4, .inl (m_d4, 64, .inl m_f4)), (m_z5, .inl (m_d5, 64, .inl (fun _ => 0))), (m_y44, .inl (m_ch, 32, .inl (fun _ => 0)))]) hP hD hK [0, 1, 2] [3, 4, 5, 6, 7, 8, 9, 10, 11, 12, 13, 14, 15, 16, 17, 18, 19, 20, 21, 22, 23, 24] rfl rfl (by decide) (by decide) hk1 hFc ht hvm hB1
  generalize H1 = H at hP hS ⊢
  have hK : va_K (dC, dI) vwCl [(g_ct, .int), (g_co, .int), (g_cw, .int), (g_cs, .int), (g_cst, .int), (g_cp, .int), (m_ct, .byte), (m_co, .byte), (m_d1, .int), (m_d2, .int), (m_d3, .int), (m_d4, .int), (m_d5, .byte), (m_ch, .byte)] s := hK.sub [0, 1, 2, 3, 4, 5, 6, 7, 8, 9, 10, 11, 12, 13] rfl
  have hP : va_P (dC, dI) vwCl [(g_o, .inr (0, [.ref g_orw, .int 0, .int 0])), (g_orw, .inl (g_co, 3000, .inl (fun _ => 0))), (g_d, .inr (2, [.ref g_de, .int 0])), (g_ck, .inr (1, [.ref g_d, .ref g_k1, .ref g_k2, .ref g_k3, .ref g_k4, .ref g_k5, .ref g_k6, .int 0, .int 0, .int 0, .int 0])), (g_sh, .inr (8, [.ref g_sw, .ref g_ss, .ref g_st])), (g_sw, .inl (g_cw, 64, .inl (fun _ => 0))), (g_ss, .inl (g_cs, 8, .inl (fun _ => 0))), (g_st, .inl (g_cst, 8, .inl (fun _ => 0))), (g_le, .inr (4, [.ref g_l0, .ref g_l1, .ref g_l2, .ref g_l3, .int 0, .int 0])), (g_sp, .inr (4, [.ref g_px, .ref g_p1, .ref g_p2, .ref g_p3, .int 0, .int 0])), (g_px, .inr (0, [.ref g_pr, .int 0, .int 0])), (g_pr, .inl (g_cp, 3000, .inl (fun _ => 0))), (mq, .inr (15, m_fs2)), (m_y0, .inl (m_ct, 3000, .inl (fun _ => 0))), (m_y4, .inl (m_co, 6000, .inl (fun _ => 0))), (m_y38, .inr (12, [.ref m_z1, .ref m_z2, .ref m_z3, .ref m_z4, .ref m_z5, .int 0, .long 0])), (m_z1, .inl (m_d1, 8, .inl m_f1)), (m_z2, .inl (m_d2, 8, .inl (fun _ => 0))), (m_z3, .inl (m_d3, 64, .inl (fun _ => 0))), (m_z4, .inl (m_d4, 64, .inl m_f4)), (m_z5, .inl (m_d5, 64, .inl (fun _ => 0))), (m_y44, .inl (m_ch, 32, .inl (fun _ => 0)))] H := hP
  have hD : va_D (fun q : Nat => s.heap.size ≤ q) [(g_o, .inr (0, [.ref g_orw, .int 0, .int 0])), (g_orw, .inl (g_co, 3000, .inl (fun _ => 0))), (g_d, .inr (2, [.ref g_de, .int 0])), (g_ck, .inr (1, [.ref g_d, .ref g_k1, .ref g_k2, .ref g_k3, .ref g_k4, .ref g_k5, .ref g_k6, .int 0, .int 0, .int 0, .int 0])), (g_sh, .inr (8, [.ref g_sw, .ref g_ss, .ref g_st])), (g_sw, .inl (g_cw, 64, .inl (fun _ => 0))), (g_ss, .inl (g_cs, 8, .inl (fun _ => 0))), (g_st, .inl (g_cst, 8, .inl (fun _ => 0))), (g_le, .inr (4, [.ref g_l0, .ref g_l1, .ref g_l2, .ref g_l3, .int 0, .int 0])), (g_sp, .inr (4, [.ref g_px, .ref g_p1, .ref g_p2, .ref g_p3, .int 0, .int 0])), (g_px, .inr (0, [.ref g_pr, .int 0, .int 0])), (g_pr, .inl (g_cp, 3000, .inl (fun _ => 0))), (mq, .inr (15, m_fs2)), (m_y0, .inl (m_ct, 3000, .inl (fun _ => 0))), (m_y4, .inl (m_co, 6000, .inl (fun _ => 0))), (m_y38, .inr (12, [.ref m_z1, .ref m_z2, .ref m_z3, .ref m_z4, .ref m_z5, .int 0, .long 0])), (m_z1, .inl (m_d1, 8, .inl m_f1)), (m_z2, .inl (m_d2, 8, .inl (fun _ => 0))), (m_z3, .inl (m_d3, 64, .inl (fun _ => 0))), (m_z4, .inl (m_d4, 64, .inl m_f4)), (m_z5, .inl (m_d5, 64, .inl (fun _ => 0))), (m_y44, .inl (m_ch, 32, .inl (fun _ => 0)))] := hD
  have hw : r_11 = 20 := hw
  subst hw
  refine lv_aload_n hx hb dL_law_141 rfl (lv_at hl 1 rfl) ?_
  refine lv_aload_n hx hb dL_law_142 rfl (lv_at hl 3 rfl) ?_
  refine lv_iload_n hx hb dL_law_143 rfl (lv_at hl 0 rfl) ?_
  refine lv_iconst (v := 1) hx hb dL_law_144 (by decide) ?_
  refine lv_iadd hx hb dL_law_145 ?_
  refine lv_topi (fun x_12 ex_12 => ?_)
  obtain rfl : x_12 = 1 := ex_12.trans (by decide)
  refine va_sld hx hb hX hbl hbA hS (show vp_in (1 : Int32) 6 from (show vp_in (nI 1) 6 from vp_in_nI (by omega) (by omega))) dL_law_146 ?_
  refine lv_topi (fun x_13 ex_13 => ?_)
  obtain rfl : x_13 = xs 1 := ex_13.trans (congrArg xs (by decide))
  refine lv_aload_n hx hb dL_law_147 rfl (lv_at hl 3 rfl) ?_
  refine lv_iload_n hx hb dL_law_148 rfl (lv_at hl 0 rfl) ?_
  refine lv_iconst (v := 2) hx hb dL_law_149 (by decide) ?_
  refine lv_iadd hx hb dL_law_150 ?_
  refine lv_topi (fun x_14 ex_14 => ?_)
  obtain rfl : x_14 = 2 := ex_14.trans (by decide)
  refine va_sld hx hb hX hbl hbA hS (show vp_in (2 : Int32) 6 from (show vp_in (nI 2) 6 from vp_in_nI (by omega) (by omega))) dL_law_151 ?_
  refine lv_topi (fun x_15 ex_15 => ?_)
  obtain rfl : x_15 = xs 2 := ex_15.trans (congrArg xs (by decide))
  refine lv_aload_n hx hb dL_law_152 rfl (lv_at hl 3 rfl) ?_
  refine lv_iload_n hx hb dL_law_153 rfl (lv_at hl 0 rfl) ?_
  refine lv_iconst (v := 3) hx hb dL_law_154 (by decide) ?_
  refine lv_iadd hx hb dL_law_155 ?_
  refine lv_topi (fun x_16 ex_16 => ?_)
  obtain rfl : x_16 = 3 := ex_16.trans (by decide)
  refine va_sld hx hb hX hbl hbA hS (show vp_in (3 : Int32) 6 from (show vp_in (nI 3) 6 from vp_in_nI (by omega) (by omega))) dL_law_156 ?_
  refine lv_topi (fun x_17 ex_17 => ?_)
  obtain rfl : x_17 = xs 3 := ex_17.trans (congrArg xs (by decide))
  refine lv_aload_n hx hb dL_law_157 rfl (lv_at hl 3 rfl) ?_
  refine lv_iload_n hx hb dL_law_158 rfl (lv_at hl 0 rfl) ?_
  refine lv_iconst (v := 4) hx hb dL_law_159 (by decide) ?_
  refine lv_iadd hx hb dL_law_160 ?_
  refine lv_topi (fun x_18 ex_18 => ?_)
  obtain rfl : x_18 = 4 := ex_18.trans (by decide)
  refine va_sld hx hb hX hbl hbA hS (show vp_in (4 : Int32) 6 from (show vp_in (nI 4) 6 from vp_in_nI (by omega) (by omega))) dL_law_161 ?_
  refine lv_topi (fun x_19 ex_19 => ?_)
  obtain rfl : x_19 = xs 4 := ex_19.trans (congrArg xs (by decide))
  refine lv_aload_n hx hb dL_law_162 rfl (lv_at hl 3 rfl) ?_
  refine lv_iload_n hx hb dL_law_163 rfl (lv_at hl 0 rfl) ?_
  refine lv_iconst (v := 5) hx hb dL_law_164 (by decide) ?_
  refine lv_iadd hx hb dL_law_165 ?_
  refine lv_topi (fun x_20 ex_20 => ?_)
  obtain rfl : x_20 = 5 := ex_20.trans (by decide)
  refine va_sld hx hb hX hbl hbA hS (show vp_in (5 : Int32) 6 from (show vp_in (nI 5) 6 from vp_in_nI (by omega) (by omega))) dL_law_166 ?_
  refine lv_topi (fun x_21 ex_21 => ?_)
  obtain rfl : x_21 = xs 5 := ex_21.trans (congrArg xs (by decide))
  have hPc := hP.sub (ws' := [(mq, .inr (15, m_fs2)), (m_y0, .inl (m_ct, 3000, .inl (fun _ => 0)))]) [12, 13] rfl
  have hDc := hD.sub (ws' := [(mq, .inr (15, m_fs2)), (m_y0, .inl (m_ct, 3000, .inl (fun _ => 0)))]) [12, 13] (by decide) rfl
  have hKc := hK.sub (tys' := [(m_ct, .byte)]) [6] rfl
  have hFc := va_free (wc := [(mq, .inr (15, m_fs2)), (m_y0, .inl (m_ct, 3000, .inl (fun _ => 0)))]) hD hS hA [12, 13] rfl
  refine va_calli (va_runV (As := [.int (xs 1), .int (xs 2), .int (xs 3), .int (xs 4), .int (xs 5)]) (rest := [.int 20]) ⟨hx, hb, hml, hown, hts⟩ (c_X15_feed l dC dI H.size mq m_fs2 m_y0 m_y4 m_y38 m_y44 m_ct (xs 1) (xs 2) (xs 3) (xs 4) (xs 5) (hL) (hF0) (hF1) (hF2) (hF3) (hF4) (hF12) (hF14) (hF15) (hF30) (hF33) (hF38) (hF44)) ⟨callB_of 5 hts (gi kt_420) rfl rfl rfl (hts _ kt_375) (hts _ kt_421) (by decide +kernel) ⟨Nat.le_of_ble_eq_true rfl, Nat.le_of_ble_eq_true rfl⟩, (hts _ kt_422), (hts _ kt_423)⟩ ⟨fun a U g mk q => ⟨q.1, PW.calling q.2⟩, va_recv hKc hPc (ci := 15) (q0 := 0) rfl rfl, fun U hU hW => ⟨rfl, PW.mk hU hW hPc hKc hDc hE⟩⟩ rfl rfl hl.1 rfl (lv_room (Nat.le_of_ble_eq_true rfl)) dL_law_167 ⟨by show _ + 1 ≤ 600000; omega, by show _ + 5 ≤ 7302249; omega⟩) hS (fun q _ h => hFc q h) hFc (fun r_22 u t H1 locs ht hvm hw hB hz1 hk1 hS => ?_)
  have hB1 := hB
  obtain ⟨hP, hD, hK⟩ := QW.join (wr := [(g_o, .inr (0, [.ref g_orw, .int 0, .int 0])), (g_orw, .inl (g_co, 3000, .inl (fun _ => 0))), (g_d, .inr (2, [.ref g_de, .int 0])), (g_ck, .inr (1, [.ref g_d, .ref g_k1, .ref g_k2, .ref g_k3, .ref g_k4, .ref g_k5, .ref g_k6, .int 0, .int 0, .int 0, .int 0])), (g_sh, .inr (8, [.ref g_sw, .ref g_ss, .ref g_st])), (g_sw, .inl (g_cw, 64, .inl (fun _ => 0))), (g_ss, .inl (g_cs, 8, .inl (fun _ => 0))), (g_st, .inl (g_cst, 8, .inl (fun _ => 0))), (g_le, .inr (4, [.ref g_l0, .ref g_l1, .ref g_l2, .ref g_l3, .int 0, .int 0])), (g_sp, .inr (4, [.ref g_px, .ref g_p1, .ref g_p2, .ref g_p3, .int 0, .int 0])), (g_px, .inr (0, [.ref g_pr, .int 0, .int 0])), (g_pr, .inl (g_cp, 3000, .inl (fun _ => 0))), (m_y4, .inl (m_co, 6000, .inl (fun _ => 0))), (m_y38, .inr (12, [.ref m_z1, .ref m_z2, .ref m_z3, .ref m_z4, .ref m_z5, .int 0, .long 0])), (m_z1, .inl (m_d1, 8, .inl m_f1)), (m_z2, .inl (m_d2, 8, .inl (fun _ => 0))), (m_z3, .inl (m_d3, 64, .inl (fun _ => 0))), (m_z4, .inl (m_d4, 64, .inl m_f4)), (m_z5, .inl (m_d5, 64, .inl (fun _ => 0))), (m_y44, .inl (m_ch, 32, .inl (fun _ => 0)))]) hP hD hK [12, 13] [0, 1, 2, 3, 4, 5, 6, 7, 8, 9, 10, 11, 14, 15, 16, 17, 18, 19, 20, 21] rfl rfl (by decide) (by decide) hk1 hFc ht hvm hB1
  generalize H1 = H at hP hS ⊢
  have hK : va_K (dC, dI) vwCl [(g_ct, .int), (g_co, .int), (g_cw, .int), (g_cs, .int), (g_cst, .int), (g_cp, .int), (m_ct, .byte), (m_co, .byte), (m_d1, .int), (m_d2, .int), (m_d3, .int), (m_d4, .int), (m_d5, .byte), (m_ch, .byte)] s := hK.sub [0, 1, 2, 3, 4, 5, 6, 7, 8, 9, 10, 11, 12, 13] rfl
  have hP : va_P (dC, dI) vwCl [(g_o, .inr (0, [.ref g_orw, .int 0, .int 0])), (g_orw, .inl (g_co, 3000, .inl (fun _ => 0))), (g_d, .inr (2, [.ref g_de, .int 0])), (g_ck, .inr (1, [.ref g_d, .ref g_k1, .ref g_k2, .ref g_k3, .ref g_k4, .ref g_k5, .ref g_k6, .int 0, .int 0, .int 0, .int 0])), (g_sh, .inr (8, [.ref g_sw, .ref g_ss, .ref g_st])), (g_sw, .inl (g_cw, 64, .inl (fun _ => 0))), (g_ss, .inl (g_cs, 8, .inl (fun _ => 0))), (g_st, .inl (g_cst, 8, .inl (fun _ => 0))), (g_le, .inr (4, [.ref g_l0, .ref g_l1, .ref g_l2, .ref g_l3, .int 0, .int 0])), (g_sp, .inr (4, [.ref g_px, .ref g_p1, .ref g_p2, .ref g_p3, .int 0, .int 0])), (g_px, .inr (0, [.ref g_pr, .int 0, .int 0])), (g_pr, .inl (g_cp, 3000, .inl (fun _ => 0))), (m_y4, .inl (m_co, 6000, .inl (fun _ => 0))), (m_y38, .inr (12, [.ref m_z1, .ref m_z2, .ref m_z3, .ref m_z4, .ref m_z5, .int 0, .long 0])), (m_z1, .inl (m_d1, 8, .inl m_f1)), (m_z2, .inl (m_d2, 8, .inl (fun _ => 0))), (m_z3, .inl (m_d3, 64, .inl (fun _ => 0))), (m_z4, .inl (m_d4, 64, .inl m_f4)), (m_z5, .inl (m_d5, 64, .inl (fun _ => 0))), (m_y44, .inl (m_ch, 32, .inl (fun _ => 0)))] H := hP
  have hD : va_D (fun q : Nat => s.heap.size ≤ q) [(g_o, .inr (0, [.ref g_orw, .int 0, .int 0])), (g_orw, .inl (g_co, 3000, .inl (fun _ => 0))), (g_d, .inr (2, [.ref g_de, .int 0])), (g_ck, .inr (1, [.ref g_d, .ref g_k1, .ref g_k2, .ref g_k3, .ref g_k4, .ref g_k5, .ref g_k6, .int 0, .int 0, .int 0, .int 0])), (g_sh, .inr (8, [.ref g_sw, .ref g_ss, .ref g_st])), (g_sw, .inl (g_cw, 64, .inl (fun _ => 0))), (g_ss, .inl (g_cs, 8, .inl (fun _ => 0))), (g_st, .inl (g_cst, 8, .inl (fun _ => 0))), (g_le, .inr (4, [.ref g_l0, .ref g_l1, .ref g_l2, .ref g_l3, .int 0, .int 0])), (g_sp, .inr (4, [.ref g_px, .ref g_p1, .ref g_p2, .ref g_p3, .int 0, .int 0])), (g_px, .inr (0, [.ref g_pr, .int 0, .int 0])), (g_pr, .inl (g_cp, 3000, .inl (fun _ => 0))), (m_y4, .inl (m_co, 6000, .inl (fun _ => 0))), (m_y38, .inr (12, [.ref m_z1, .ref m_z2, .ref m_z3, .ref m_z4, .ref m_z5, .int 0, .long 0])), (m_z1, .inl (m_d1, 8, .inl m_f1)), (m_z2, .inl (m_d2, 8, .inl (fun _ => 0))), (m_z3, .inl (m_d3, 64, .inl (fun _ => 0))), (m_z4, .inl (m_d4, 64, .inl m_f4)), (m_z5, .inl (m_d5, 64, .inl (fun _ => 0))), (m_y44, .inl (m_ch, 32, .inl (fun _ => 0)))] := hD
  have hw : r_22 = 20 := hw
  subst hw
  refine lv_icmp_eq (tgt := 522) hx hb dL_law_170 (by decide) (fun c_23 => ?_) (fun c_23 => absurd (by decide) c_23)
  refine lv_iinc (v := 6) (lv' := [(3, .int 6), (2, .ref mq), (1, .ref xq), (0, .ref b)]) hx hb dL_law_522 hl (k := 0) rfl (by decide) (by decide) rfl (fun ls hl => ?_)
  refine lv_goto (tgt := 18) hx hb dL_law_525 (by decide) ?_
  refine lv_iload_n hx hb dL_law_18 rfl (lv_at hl 0 rfl) ?_
  refine lv_aload_n hx hb dL_law_19 rfl (lv_at hl 3 rfl) ?_
  refine va_slen hx hb hX hbl hbA hS dL_law_20 ?_
  refine W.eq (g2 := F0 m 21 ls [.int 6, .int 6]) rfl ?_
  refine lv_bipush (v := 6) hx hb dL_law_21 (by decide) ?_
  refine lv_isub hx hb dL_law_23 ?_
  refine lv_topi (fun x_24 ex_24 => ?_)
  obtain rfl : x_24 = 0 := ex_24.trans (by decide)
  refine lv_icmp_gt (tgt := 528) hx hb dL_law_24 (by decide) (fun c_25 => ?_) (fun c_25 => absurd (by decide) c_25)
  refine lv_iconst (v := 1) hx hb dL_law_528 (by decide) ?_
  refine va_forget (fun q hq => hS.2.2 q hq) ?_
  refine W.widen (k := 600000) (n := 7302249) (by omega) (by omega) ?_
  exact lw_ret hx hb hr hlocks dL_law_529
set_option maxHeartbeats 4000000 in
set_option maxRecDepth 100000 in
theorem law_1 {p : Program} {l : Launch} {e : Env} {s : State} {m : MethodId} {below : List Frame} {meth : Method} {c : Code} {dC : Nat → ClassId} {dI : Nat → Nat → Nat} {b : Nat} {xs : Nat → Int32} (C0 : LC p s m meth c b xs) {xq : Nat} {mq : Nat} {g_t : Nat} {g_o : Nat} {g_d : Nat} {g_ck : Nat} {g_se : Nat} {g_po : Nat} {g_sh : Nat} {g_le : Nat} {g_sp : Nat} {g_tr : Nat} {g_orw : Nat} {g_de : Nat} {g_k1 : Nat} {g_k2 : Nat} {g_k3 : Nat} {g_k4 : Nat} {g_k5 : Nat} {g_k6 : Nat} {g_sw : Nat} {g_ss : Nat} {g_st : Nat} {g_l0 : Nat} {g_l1 : Nat} {g_l2 : Nat} {g_l3 : Nat} {g_px : Nat} {g_p1 : Nat} {g_p2 : Nat} {g_p3 : Nat} {g_pr : Nat} {g_ct : ClassId} {g_co : ClassId} {g_cw : ClassId} {g_cs : ClassId} {g_cst : ClassId} {g_cp : ClassId} {m_fs2 : List Value} {m_y0 : Nat} {m_y4 : Nat} {m_y38 : Nat} {m_y44 : Nat} {m_z1 : Nat} {m_z2 : Nat} {m_z3 : Nat} {m_z4 : Nat} {m_z5 : Nat} {m_ct : ClassId} {m_co : ClassId} {m_ch : ClassId} {m_d1 : ClassId} {m_d2 : ClassId} {m_d3 : ClassId} {m_d4 : ClassId} {m_d5 : ClassId} {m_f1 : Nat → Int32} {m_f4 : Nat → Int32} (hL : m_fs2.length = 59) (hF0 : m_fs2[0]? = some (.ref m_y0)) (hF1 : m_fs2[1]? = some (.int 0)) (hF2 : m_fs2[2]? = some (.int 0)) (hF3 : m_fs2[3]? = some (.int 0)) (hF4 : m_fs2[4]? = some (.ref m_y4)) (hF12 : m_fs2[12]? = some (.int 0)) (hF14 : m_fs2[14]? = some (.int 0)) (hF15 : m_fs2[15]? = some (.int 0)) (hF30 : m_fs2[30]? = some (.int 0)) (hF33 : m_fs2[33]? = some (.int 0)) (hF38 : m_fs2[38]? = some (.ref m_y38)) (hF44 : m_fs2[44]? = some (.ref m_y44)) {H : Heap} {locs : List Loc} {ls : Array Slot} (hK : va_K (dC, dI) vwCl [(g_ct, .int), (g_co, .int), (g_cw, .int), (g_cs, .int), (g_cst, .int), (g_cp, .int), (m_ct, .byte), (m_co, .byte), (m_d1, .int), (m_d2, .int), (m_d3, .int), (m_d4, .int), (m_d5, .byte), (m_ch, .byte)] s) (hP : va_P (dC, dI) vwCl [(xq, .inr (11, [.ref g_t, .ref g_o, .ref g_d, .ref g_ck, .ref g_se, .ref g_po, .ref g_sh, .ref g_le, .ref g_sp])), (g_t, .inr (0, [.ref g_tr, .int 0, .int 0])), (g_tr, .inl (g_ct, 3000, .inl (fun _ => 0))), (g_o, .inr (0, [.ref g_orw, .int 0, .int 0])), (g_orw, .inl (g_co, 3000, .inl (fun _ => 0))), (g_d, .inr (2, [.ref g_de, .int 0])), (g_ck, .inr (1, [.ref g_d, .ref g_k1, .ref g_k2, .ref g_k3, .ref g_k4, .ref g_k5, .ref g_k6, .int 0, .int 0, .int 0, .int 0])), (g_sh, .inr (8, [.ref g_sw, .ref g_ss, .ref g_st])), (g_sw, .inl (g_cw, 64, .inl (fun _ => 0))), (g_ss, .inl (g_cs, 8, .inl (fun _ => 0))), (g_st, .inl (g_cst, 8, .inl (fun _ => 0))), (g_le, .inr (4, [.ref g_l0, .ref g_l1, .ref g_l2, .ref g_l3, .int 0, .int 0])), (g_sp, .inr (4, [.ref g_px, .ref g_p1, .ref g_p2, .ref g_p3, .int 0, .int 0])), (g_px, .inr (0, [.ref g_pr, .int 0, .int 0])), (g_pr, .inl (g_cp, 3000, .inl (fun _ => 0))), (mq, .inr (15, m_fs2)), (m_y0, .inl (m_ct, 3000, .inl (fun _ => 0))), (m_y4, .inl (m_co, 6000, .inl (fun _ => 0))), (m_y38, .inr (12, [.ref m_z1, .ref m_z2, .ref m_z3, .ref m_z4, .ref m_z5, .int 0, .long 0])), (m_z1, .inl (m_d1, 8, .inl m_f1)), (m_z2, .inl (m_d2, 8, .inl (fun _ => 0))), (m_z3, .inl (m_d3, 64, .inl (fun _ => 0))), (m_z4, .inl (m_d4, 64, .inl m_f4)), (m_z5, .inl (m_d5, 64, .inl (fun _ => 0))), (m_y44, .inl (m_ch, 32, .inl (fun _ => 0)))] H) (hD : va_D (fun q : Nat => s.heap.size ≤ q) [(xq, .inr (11, [.ref g_t, .ref g_o, .ref g_d, .ref g_ck, .ref g_se, .ref g_po, .ref g_sh, .ref g_le, .ref g_sp])), (g_t, .inr (0, [.ref g_tr, .int 0, .int 0])), (g_tr, .inl (g_ct, 3000, .inl (fun _ => 0))), (g_o, .inr (0, [.ref g_orw, .int 0, .int 0])), (g_orw, .inl (g_co, 3000, .inl (fun _ => 0))), (g_d, .inr (2, [.ref g_de, .int 0])), (g_ck, .inr (1, [.ref g_d, .ref g_k1, .ref g_k2, .ref g_k3, .ref g_k4, .ref g_k5, .ref g_k6, .int 0, .int 0, .int 0, .int 0])), (g_sh, .inr (8, [.ref g_sw, .ref g_ss, .ref g_st])), (g_sw, .inl (g_cw, 64, .inl (fun _ => 0))), (g_ss, .inl (g_cs, 8, .inl (fun _ => 0))), (g_st, .inl (g_cst, 8, .inl (fun _ => 0))), (g_le, .inr (4, [.ref g_l0, .ref g_l1, .ref g_l2, .ref g_l3, .int 0, .int 0])), (g_sp, .inr (4, [.ref g_px, .ref g_p1, .ref g_p2, .ref g_p3, .int 0, .int 0])), (g_px, .inr (0, [.ref g_pr, .int 0, .int 0])), (g_pr, .inl (g_cp, 3000, .inl (fun _ => 0))), (mq, .inr (15, m_fs2)), (m_y0, .inl (m_ct, 3000, .inl (fun _ => 0))), (m_y4, .inl (m_co, 6000, .inl (fun _ => 0))), (m_y38, .inr (12, [.ref m_z1, .ref m_z2, .ref m_z3, .ref m_z4, .ref m_z5, .int 0, .long 0])), (m_z1, .inl (m_d1, 8, .inl m_f1)), (m_z2, .inl (m_d2, 8, .inl (fun _ => 0))), (m_z3, .inl (m_d3, 64, .inl (fun _ => 0))), (m_z4, .inl (m_d4, 64, .inl m_f4)), (m_z5, .inl (m_d5, 64, .inl (fun _ => 0))), (m_y44, .inl (m_ch, 32, .inl (fun _ => 0)))]) (hS : va_S (fun q : Nat => s.heap.size ≤ q) s.heap H locs) (hl : lv_has ls 4 [(3, .int 0), (2, .ref mq), (1, .ref xq), (0, .ref b)]) : W p l e room_1 s m #[Value.ref b] below meth c H locs 576 138251 (lw_Z below #[Value.ref b] s) (F0 m 175 ls []) := by
  obtain ⟨hx, hb, hr, hml, hown, hts, hX, hbl, hlocks, hE, hZ⟩ := C0
  have hA : ∀ q : Nat, s.heap.size ≤ q → (fun q : Nat => s.heap.size ≤ q) q := fun _ h => h
  have hbA : ¬ (fun q : Nat => s.heap.size ≤ q) b := Nat.not_le.mpr hbl
  refine lv_aload_n hx hb dL_law_175 rfl (lv_at hl 2 rfl) ?_
  refine lv_aload_n hx hb dL_law_176 rfl (lv_at hl 3 rfl) ?_
  refine lv_iload_n hx hb dL_law_177 rfl (lv_at hl 0 rfl) ?_
  refine lv_iconst (v := 1) hx hb dL_law_178 (by decide) ?_
  refine lv_iadd hx hb dL_law_179 ?_
  refine lv_topi (fun x_1 ex_1 => ?_)
  obtain rfl : x_1 = 1 := ex_1.trans (by decide)
  refine va_sld hx hb hX hbl hbA hS (show vp_in (1 : Int32) 6 from (show vp_in (nI 1) 6 from vp_in_nI (by omega) (by omega))) dL_law_180 ?_
  refine lv_topi (fun x_2 ex_2 => ?_)
  obtain rfl : x_2 = xs 1 := ex_2.trans (congrArg xs (by decide))
  have hPc := hP.sub (ws' := [(xq, .inr (11, [.ref g_t, .ref g_o, .ref g_d, .ref g_ck, .ref g_se, .ref g_po, .ref g_sh, .ref g_le, .ref g_sp])), (g_t, .inr (0, [.ref g_tr, .int 0, .int 0]))]) [0, 1] rfl
  have hDc := hD.sub (ws' := [(xq, .inr (11, [.ref g_t, .ref g_o, .ref g_d, .ref g_ck, .ref g_se, .ref g_po, .ref g_sh, .ref g_le, .ref g_sp])), (g_t, .inr (0, [.ref g_tr, .int 0, .int 0]))]) [0, 1] (by decide) rfl
  have hKc := hK.sub (tys' := []) [] rfl
  have hFc := va_free (wc := [(xq, .inr (11, [.ref g_t, .ref g_o, .ref g_d, .ref g_ck, .ref g_se, .ref g_po, .ref g_sh, .ref g_le, .ref g_sp])), (g_t, .inr (0, [.ref g_tr, .int 0, .int 0]))]) hD hS hA [0, 1] rfl
  refine va_calli (va_runV (As := [.int (xs 1)]) (rest := []) ⟨hx, hb, hml, hown, hts⟩ (c_X11_end l dC dI H.size xq g_t g_o g_d g_ck g_se g_po g_sh g_le g_sp g_tr (xs 1) ) ⟨callB_of 1 hts (gi kt_424) rfl rfl rfl (hts _ kt_416) (hts _ kt_425) (by decide +kernel) ⟨Nat.le_of_ble_eq_true rfl, Nat.le_of_ble_eq_true rfl⟩, (hts _ kt_426), (hts _ kt_427)⟩ ⟨fun a U g mk q => ⟨q.1, PW.calling q.2⟩, va_recv hKc hPc (ci := 11) (q0 := 0) rfl rfl, fun U hU hW => ⟨rfl, PW.mk hU hW hPc hKc hDc hE⟩⟩ rfl rfl hl.1 rfl (lv_room (Nat.le_of_ble_eq_true rfl)) dL_law_181 ⟨by show _ + 0 ≤ 600000; omega, by show _ + 0 ≤ 7302249; omega⟩) hS (fun q _ h => hFc q h) hFc (fun r_3 u t H1 locs ht hvm hw hB hz1 hk1 hS => ?_)
  have hB1 := hB
  obtain ⟨hP, hD, hK⟩ := QW.join (wr := [(g_tr, .inl (g_ct, 3000, .inl (fun _ => 0))), (g_o, .inr (0, [.ref g_orw, .int 0, .int 0])), (g_orw, .inl (g_co, 3000, .inl (fun _ => 0))), (g_d, .inr (2, [.ref g_de, .int 0])), (g_ck, .inr (1, [.ref g_d, .ref g_k1, .ref g_k2, .ref g_k3, .ref g_k4, .ref g_k5, .ref g_k6, .int 0, .int 0, .int 0, .int 0])), (g_sh, .inr (8, [.ref g_sw, .ref g_ss, .ref g_st])), (g_sw, .inl (g_cw, 64, .inl (fun _ => 0))), (g_ss, .inl (g_cs, 8, .inl (fun _ => 0))), (g_st, .inl (g_cst, 8, .inl (fun _ => 0))), (g_le, .inr (4, [.ref g_l0, .ref g_l1, .ref g_l2, .ref g_l3, .int 0, .int 0])), (g_sp, .inr (4, [.ref g_px, .ref g_p1, .ref g_p2, .ref g_p3, .int 0, .int 0])), (g_px, .inr (0, [.ref g_pr, .int 0, .int 0])), (g_pr, .inl (g_cp, 3000, .inl (fun _ => 0))), (mq, .inr (15, m_fs2)), (m_y0, .inl (m_ct, 3000, .inl (fun _ => 0))), (m_y4, .inl (m_co, 6000, .inl (fun _ => 0))), (m_y38, .inr (12, [.ref m_z1, .ref m_z2, .ref m_z3, .ref m_z4, .ref m_z5, .int 0, .long 0])), (m_z1, .inl (m_d1, 8, .inl m_f1)), (m_z2, .inl (m_d2, 8, .inl (fun _ => 0))), (m_z3, .inl (m_d3, 64, .inl (fun _ => 0))), (m_z4, .inl (m_d4, 64, .inl m_f4)), (m_z5, .inl (m_d5, 64, .inl (fun _ => 0))), (m_y44, .inl (m_ch, 32, .inl (fun _ => 0)))]) hP hD hK [0, 1] [2, 3, 4, 5, 6, 7, 8, 9, 10, 11, 12, 13, 14, 15, 16, 17, 18, 19, 20, 21, 22, 23, 24] rfl rfl (by decide) (by decide) hk1 hFc ht hvm hB1
  generalize H1 = H at hP hS ⊢
  have hK : va_K (dC, dI) vwCl [(g_ct, .int), (g_co, .int), (g_cw, .int), (g_cs, .int), (g_cst, .int), (g_cp, .int), (m_ct, .byte), (m_co, .byte), (m_d1, .int), (m_d2, .int), (m_d3, .int), (m_d4, .int), (m_d5, .byte), (m_ch, .byte)] s := hK.sub [0, 1, 2, 3, 4, 5, 6, 7, 8, 9, 10, 11, 12, 13] rfl
  have hP : va_P (dC, dI) vwCl [(g_tr, .inl (g_ct, 3000, .inl (fun _ => 0))), (g_o, .inr (0, [.ref g_orw, .int 0, .int 0])), (g_orw, .inl (g_co, 3000, .inl (fun _ => 0))), (g_d, .inr (2, [.ref g_de, .int 0])), (g_ck, .inr (1, [.ref g_d, .ref g_k1, .ref g_k2, .ref g_k3, .ref g_k4, .ref g_k5, .ref g_k6, .int 0, .int 0, .int 0, .int 0])), (g_sh, .inr (8, [.ref g_sw, .ref g_ss, .ref g_st])), (g_sw, .inl (g_cw, 64, .inl (fun _ => 0))), (g_ss, .inl (g_cs, 8, .inl (fun _ => 0))), (g_st, .inl (g_cst, 8, .inl (fun _ => 0))), (g_le, .inr (4, [.ref g_l0, .ref g_l1, .ref g_l2, .ref g_l3, .int 0, .int 0])), (g_sp, .inr (4, [.ref g_px, .ref g_p1, .ref g_p2, .ref g_p3, .int 0, .int 0])), (g_px, .inr (0, [.ref g_pr, .int 0, .int 0])), (g_pr, .inl (g_cp, 3000, .inl (fun _ => 0))), (mq, .inr (15, m_fs2)), (m_y0, .inl (m_ct, 3000, .inl (fun _ => 0))), (m_y4, .inl (m_co, 6000, .inl (fun _ => 0))), (m_y38, .inr (12, [.ref m_z1, .ref m_z2, .ref m_z3, .ref m_z4, .ref m_z5, .int 0, .long 0])), (m_z1, .inl (m_d1, 8, .inl m_f1)), (m_z2, .inl (m_d2, 8, .inl (fun _ => 0))), (m_z3, .inl (m_d3, 64, .inl (fun _ => 0))), (m_z4, .inl (m_d4, 64, .inl m_f4)), (m_z5, .inl (m_d5, 64, .inl (fun _ => 0))), (m_y44, .inl (m_ch, 32, .inl (fun _ => 0)))] H := hP
  have hD : va_D (fun q : Nat => s.heap.size ≤ q) [(g_tr, .inl (g_ct, 3000, .inl (fun _ => 0))), (g_o, .inr (0, [.ref g_orw, .int 0, .int 0])), (g_orw, .inl (g_co, 3000, .inl (fun _ => 0))), (g_d, .inr (2, [.ref g_de, .int 0])), (g_ck, .inr (1, [.ref g_d, .ref g_k1, .ref g_k2, .ref g_k3, .ref g_k4, .ref g_k5, .ref g_k6, .int 0, .int 0, .int 0, .int 0])), (g_sh, .inr (8, [.ref g_sw, .ref g_ss, .ref g_st])), (g_sw, .inl (g_cw, 64, .inl (fun _ => 0))), (g_ss, .inl (g_cs, 8, .inl (fun _ => 0))), (g_st, .inl (g_cst, 8, .inl (fun _ => 0))), (g_le, .inr (4, [.ref g_l0, .ref g_l1, .ref g_l2, .ref g_l3, .int 0, .int 0])), (g_sp, .inr (4, [.ref g_px, .ref g_p1, .ref g_p2, .ref g_p3, .int 0, .int 0])), (g_px, .inr (0, [.ref g_pr, .int 0, .int 0])), (g_pr, .inl (g_cp, 3000, .inl (fun _ => 0))), (mq, .inr (15, m_fs2)), (m_y0, .inl (m_ct, 3000, .inl (fun _ => 0))), (m_y4, .inl (m_co, 6000, .inl (fun _ => 0))), (m_y38, .inr (12, [.ref m_z1, .ref m_z2, .ref m_z3, .ref m_z4, .ref m_z5, .int 0, .long 0])), (m_z1, .inl (m_d1, 8, .inl m_f1)), (m_z2, .inl (m_d2, 8, .inl (fun _ => 0))), (m_z3, .inl (m_d3, 64, .inl (fun _ => 0))), (m_z4, .inl (m_d4, 64, .inl m_f4)), (m_z5, .inl (m_d5, 64, .inl (fun _ => 0))), (m_y44, .inl (m_ch, 32, .inl (fun _ => 0)))] := hD
  have hw : r_3 = (if (xs 1) = 0 then 0 else (-1)) := hw
  have hw_4 := hw
  refine lv_aload_n hx hb dL_law_184 rfl (lv_at hl 1 rfl) ?_
  refine lv_aload_n hx hb dL_law_185 rfl (lv_at hl 3 rfl) ?_
  refine lv_iload_n hx hb dL_law_186 rfl (lv_at hl 0 rfl) ?_
  refine lv_iconst (v := 1) hx hb dL_law_187 (by decide) ?_
  refine lv_iadd hx hb dL_law_188 ?_
  refine lv_topi (fun x_5 ex_5 => ?_)
  obtain rfl : x_5 = 1 := ex_5.trans (by decide)
  refine va_sld hx hb hX hbl hbA hS (show vp_in (1 : Int32) 6 from (show vp_in (nI 1) 6 from vp_in_nI (by omega) (by omega))) dL_law_189 ?_
  refine lv_topi (fun x_6 ex_6 => ?_)
  obtain rfl : x_6 = xs 1 := ex_6.trans (congrArg xs (by decide))
  have hPc := hP.sub (ws' := [(mq, .inr (15, m_fs2))]) [13] rfl
  have hDc := hD.sub (ws' := [(mq, .inr (15, m_fs2))]) [13] (by decide) rfl
  have hKc := hK.sub (tys' := []) [] rfl
  have hFc := va_free (wc := [(mq, .inr (15, m_fs2))]) hD hS hA [13] rfl
  refine va_calli (va_runV (As := [.int (xs 1)]) (rest := [.int r_3]) ⟨hx, hb, hml, hown, hts⟩ (c_X15_end l dC dI H.size mq m_fs2 m_y0 m_y4 m_y38 m_y44 (xs 1) (hL) (hF0) (hF1) (hF2) (hF3) (hF4) (hF12) (hF14) (hF15) (hF30) (hF33) (hF38) (hF44)) ⟨callB_of 1 hts (gi kt_428) rfl rfl rfl (hts _ kt_375) (hts _ kt_429) (by decide +kernel) ⟨Nat.le_of_ble_eq_true rfl, Nat.le_of_ble_eq_true rfl⟩, (hts _ kt_430), (hts _ kt_431)⟩ ⟨fun a U g mk q => ⟨q.1, PW.calling q.2⟩, va_recv hKc hPc (ci := 15) (q0 := 0) rfl rfl, fun U hU hW => ⟨rfl, PW.mk hU hW hPc hKc hDc hE⟩⟩ rfl rfl hl.1 rfl (lv_room (Nat.le_of_ble_eq_true rfl)) dL_law_190 ⟨by show _ + 0 ≤ 600000; omega, by show _ + 0 ≤ 7302249; omega⟩) hS (fun q _ h => hFc q h) hFc (fun r_7 u t H1 locs ht hvm hw hB hz1 hk1 hS => ?_)
  have hB1 := hB
  obtain ⟨hP, hD, hK⟩ := QW.join (wr := [(g_tr, .inl (g_ct, 3000, .inl (fun _ => 0))), (g_o, .inr (0, [.ref g_orw, .int 0, .int 0])), (g_orw, .inl (g_co, 3000, .inl (fun _ => 0))), (g_d, .inr (2, [.ref g_de, .int 0])), (g_ck, .inr (1, [.ref g_d, .ref g_k1, .ref g_k2, .ref g_k3, .ref g_k4, .ref g_k5, .ref g_k6, .int 0, .int 0, .int 0, .int 0])), (g_sh, .inr (8, [.ref g_sw, .ref g_ss, .ref g_st])), (g_sw, .inl (g_cw, 64, .inl (fun _ => 0))), (g_ss, .inl (g_cs, 8, .inl (fun _ => 0))), (g_st, .inl (g_cst, 8, .inl (fun _ => 0))), (g_le, .inr (4, [.ref g_l0, .ref g_l1, .ref g_l2, .ref g_l3, .int 0, .int 0])), (g_sp, .inr (4, [.ref g_px, .ref g_p1, .ref g_p2, .ref g_p3, .int 0, .int 0])), (g_px, .inr (0, [.ref g_pr, .int 0, .int 0])), (g_pr, .inl (g_cp, 3000, .inl (fun _ => 0))), (m_y0, .inl (m_ct, 3000, .inl (fun _ => 0))), (m_y4, .inl (m_co, 6000, .inl (fun _ => 0))), (m_y38, .inr (12, [.ref m_z1, .ref m_z2, .ref m_z3, .ref m_z4, .ref m_z5, .int 0, .long 0])), (m_z1, .inl (m_d1, 8, .inl m_f1)), (m_z2, .inl (m_d2, 8, .inl (fun _ => 0))), (m_z3, .inl (m_d3, 64, .inl (fun _ => 0))), (m_z4, .inl (m_d4, 64, .inl m_f4)), (m_z5, .inl (m_d5, 64, .inl (fun _ => 0))), (m_y44, .inl (m_ch, 32, .inl (fun _ => 0)))]) hP hD hK [13] [0, 1, 2, 3, 4, 5, 6, 7, 8, 9, 10, 11, 12, 14, 15, 16, 17, 18, 19, 20, 21, 22] rfl rfl (by decide) (by decide) hk1 hFc ht hvm hB1
  generalize H1 = H at hP hS ⊢
  have hK : va_K (dC, dI) vwCl [(g_ct, .int), (g_co, .int), (g_cw, .int), (g_cs, .int), (g_cst, .int), (g_cp, .int), (m_ct, .byte), (m_co, .byte), (m_d1, .int), (m_d2, .int), (m_d3, .int), (m_d4, .int), (m_d5, .byte), (m_ch, .byte)] s := hK.sub [0, 1, 2, 3, 4, 5, 6, 7, 8, 9, 10, 11, 12, 13] rfl
  have hP : va_P (dC, dI) vwCl [(g_tr, .inl (g_ct, 3000, .inl (fun _ => 0))), (g_o, .inr (0, [.ref g_orw, .int 0, .int 0])), (g_orw, .inl (g_co, 3000, .inl (fun _ => 0))), (g_d, .inr (2, [.ref g_de, .int 0])), (g_ck, .inr (1, [.ref g_d, .ref g_k1, .ref g_k2, .ref g_k3, .ref g_k4, .ref g_k5, .ref g_k6, .int 0, .int 0, .int 0, .int 0])), (g_sh, .inr (8, [.ref g_sw, .ref g_ss, .ref g_st])), (g_sw, .inl (g_cw, 64, .inl (fun _ => 0))), (g_ss, .inl (g_cs, 8, .inl (fun _ => 0))), (g_st, .inl (g_cst, 8, .inl (fun _ => 0))), (g_le, .inr (4, [.ref g_l0, .ref g_l1, .ref g_l2, .ref g_l3, .int 0, .int 0])), (g_sp, .inr (4, [.ref g_px, .ref g_p1, .ref g_p2, .ref g_p3, .int 0, .int 0])), (g_px, .inr (0, [.ref g_pr, .int 0, .int 0])), (g_pr, .inl (g_cp, 3000, .inl (fun _ => 0))), (m_y0, .inl (m_ct, 3000, .inl (fun _ => 0))), (m_y4, .inl (m_co, 6000, .inl (fun _ => 0))), (m_y38, .inr (12, [.ref m_z1, .ref m_z2, .ref m_z3, .ref m_z4, .ref m_z5, .int 0, .long 0])), (m_z1, .inl (m_d1, 8, .inl m_f1)), (m_z2, .inl (m_d2, 8, .inl (fun _ => 0))), (m_z3, .inl (m_d3, 64, .inl (fun _ => 0))), (m_z4, .inl (m_d4, 64, .inl m_f4)), (m_z5, .inl (m_d5, 64, .inl (fun _ => 0))), (m_y44, .inl (m_ch, 32, .inl (fun _ => 0)))] H := hP
  have hD : va_D (fun q : Nat => s.heap.size ≤ q) [(g_tr, .inl (g_ct, 3000, .inl (fun _ => 0))), (g_o, .inr (0, [.ref g_orw, .int 0, .int 0])), (g_orw, .inl (g_co, 3000, .inl (fun _ => 0))), (g_d, .inr (2, [.ref g_de, .int 0])), (g_ck, .inr (1, [.ref g_d, .ref g_k1, .ref g_k2, .ref g_k3, .ref g_k4, .ref g_k5, .ref g_k6, .int 0, .int 0, .int 0, .int 0])), (g_sh, .inr (8, [.ref g_sw, .ref g_ss, .ref g_st])), (g_sw, .inl (g_cw, 64, .inl (fun _ => 0))), (g_ss, .inl (g_cs, 8, .inl (fun _ => 0))), (g_st, .inl (g_cst, 8, .inl (fun _ => 0))), (g_le, .inr (4, [.ref g_l0, .ref g_l1, .ref g_l2, .ref g_l3, .int 0, .int 0])), (g_sp, .inr (4, [.ref g_px, .ref g_p1, .ref g_p2, .ref g_p3, .int 0, .int 0])), (g_px, .inr (0, [.ref g_pr, .int 0, .int 0])), (g_pr, .inl (g_cp, 3000, .inl (fun _ => 0))), (m_y0, .inl (m_ct, 3000, .inl (fun _ => 0))), (m_y4, .inl (m_co, 6000, .inl (fun _ => 0))), (m_y38, .inr (12, [.ref m_z1, .ref m_z2, .ref m_z3, .ref m_z4, .ref m_z5, .int 0, .long 0])), (m_z1, .inl (m_d1, 8, .inl m_f1)), (m_z2, .inl (m_d2, 8, .inl (fun _ => 0))), (m_z3, .inl (m_d3, 64, .inl (fun _ => 0))), (m_z4, .inl (m_d4, 64, .inl m_f4)), (m_z5, .inl (m_d5, 64, .inl (fun _ => 0))), (m_y44, .inl (m_ch, 32, .inl (fun _ => 0)))] := hD
  have hw : r_7 = (if (xs 1) = 0 then 0 else (-1)) := hw
  have hw_8 := hw
  refine lv_icmp_eq (tgt := 522) hx hb dL_law_193 (by decide) (fun c_9 => ?_) (fun c_9 => absurd (hw_4.trans hw_8.symm) c_9)
  refine lv_iinc (v := 6) (lv' := [(3, .int 6), (2, .ref mq), (1, .ref xq), (0, .ref b)]) hx hb dL_law_522 hl (k := 0) rfl (by decide) (by decide) rfl (fun ls hl => ?_)
  refine lv_goto (tgt := 18) hx hb dL_law_525 (by decide) ?_
  refine lv_iload_n hx hb dL_law_18 rfl (lv_at hl 0 rfl) ?_
  refine lv_aload_n hx hb dL_law_19 rfl (lv_at hl 3 rfl) ?_
  refine va_slen hx hb hX hbl hbA hS dL_law_20 ?_
  refine W.eq (g2 := F0 m 21 ls [.int 6, .int 6]) rfl ?_
  refine lv_bipush (v := 6) hx hb dL_law_21 (by decide) ?_
  refine lv_isub hx hb dL_law_23 ?_
  refine lv_topi (fun x_10 ex_10 => ?_)
  obtain rfl : x_10 = 0 := ex_10.trans (by decide)
  refine lv_icmp_gt (tgt := 528) hx hb dL_law_24 (by decide) (fun c_11 => ?_) (fun c_11 => absurd (by decide) c_11)
  refine lv_iconst (v := 1) hx hb dL_law_528 (by decide) ?_
  refine va_forget (fun q hq => hS.2.2 q hq) ?_
  refine W.widen (k := 600000) (n := 7302249) (by omega) (by omega) ?_
  exact lw_ret hx hb hr hlocks dL_law_529
set_option maxHeartbeats 4000000 in
set_option maxRecDepth 100000 in
theorem law_2 {p : Program} {l : Launch} {e : Env} {s : State} {m : MethodId} {below : List Frame} {meth : Method} {c : Code} {dC : Nat → ClassId} {dI : Nat → Nat → Nat} {b : Nat} {xs : Nat → Int32} (C0 : LC p s m meth c b xs) {xq : Nat} {mq : Nat} {g_t : Nat} {g_o : Nat} {g_d : Nat} {g_ck : Nat} {g_se : Nat} {g_po : Nat} {g_sh : Nat} {g_le : Nat} {g_sp : Nat} {g_tr : Nat} {g_orw : Nat} {g_de : Nat} {g_k1 : Nat} {g_k2 : Nat} {g_k3 : Nat} {g_k4 : Nat} {g_k5 : Nat} {g_k6 : Nat} {g_sw : Nat} {g_ss : Nat} {g_st : Nat} {g_l0 : Nat} {g_l1 : Nat} {g_l2 : Nat} {g_l3 : Nat} {g_px : Nat} {g_p1 : Nat} {g_p2 : Nat} {g_p3 : Nat} {g_pr : Nat} {g_ct : ClassId} {g_co : ClassId} {g_cw : ClassId} {g_cs : ClassId} {g_cst : ClassId} {g_cp : ClassId} {m_fs2 : List Value} {m_y0 : Nat} {m_y4 : Nat} {m_y38 : Nat} {m_y44 : Nat} {m_z1 : Nat} {m_z2 : Nat} {m_z3 : Nat} {m_z4 : Nat} {m_z5 : Nat} {m_ct : ClassId} {m_co : ClassId} {m_ch : ClassId} {m_d1 : ClassId} {m_d2 : ClassId} {m_d3 : ClassId} {m_d4 : ClassId} {m_d5 : ClassId} {m_f1 : Nat → Int32} {m_f4 : Nat → Int32} (hL : m_fs2.length = 59) (hF0 : m_fs2[0]? = some (.ref m_y0)) (hF1 : m_fs2[1]? = some (.int 0)) (hF2 : m_fs2[2]? = some (.int 0)) (hF3 : m_fs2[3]? = some (.int 0)) (hF4 : m_fs2[4]? = some (.ref m_y4)) (hF12 : m_fs2[12]? = some (.int 0)) (hF14 : m_fs2[14]? = some (.int 0)) (hF15 : m_fs2[15]? = some (.int 0)) (hF30 : m_fs2[30]? = some (.int 0)) (hF33 : m_fs2[33]? = some (.int 0)) (hF38 : m_fs2[38]? = some (.ref m_y38)) (hF44 : m_fs2[44]? = some (.ref m_y44)) {H : Heap} {locs : List Loc} {ls : Array Slot} (hK : va_K (dC, dI) vwCl [(g_ct, .int), (g_co, .int), (g_cw, .int), (g_cs, .int), (g_cst, .int), (g_cp, .int), (m_ct, .byte), (m_co, .byte), (m_d1, .int), (m_d2, .int), (m_d3, .int), (m_d4, .int), (m_d5, .byte), (m_ch, .byte)] s) (hP : va_P (dC, dI) vwCl [(xq, .inr (11, [.ref g_t, .ref g_o, .ref g_d, .ref g_ck, .ref g_se, .ref g_po, .ref g_sh, .ref g_le, .ref g_sp])), (g_t, .inr (0, [.ref g_tr, .int 0, .int 0])), (g_tr, .inl (g_ct, 3000, .inl (fun _ => 0))), (g_o, .inr (0, [.ref g_orw, .int 0, .int 0])), (g_orw, .inl (g_co, 3000, .inl (fun _ => 0))), (g_d, .inr (2, [.ref g_de, .int 0])), (g_ck, .inr (1, [.ref g_d, .ref g_k1, .ref g_k2, .ref g_k3, .ref g_k4, .ref g_k5, .ref g_k6, .int 0, .int 0, .int 0, .int 0])), (g_sh, .inr (8, [.ref g_sw, .ref g_ss, .ref g_st])), (g_sw, .inl (g_cw, 64, .inl (fun _ => 0))), (g_ss, .inl (g_cs, 8, .inl (fun _ => 0))), (g_st, .inl (g_cst, 8, .inl (fun _ => 0))), (g_le, .inr (4, [.ref g_l0, .ref g_l1, .ref g_l2, .ref g_l3, .int 0, .int 0])), (g_sp, .inr (4, [.ref g_px, .ref g_p1, .ref g_p2, .ref g_p3, .int 0, .int 0])), (g_px, .inr (0, [.ref g_pr, .int 0, .int 0])), (g_pr, .inl (g_cp, 3000, .inl (fun _ => 0))), (mq, .inr (15, m_fs2)), (m_y0, .inl (m_ct, 3000, .inl (fun _ => 0))), (m_y4, .inl (m_co, 6000, .inl (fun _ => 0))), (m_y38, .inr (12, [.ref m_z1, .ref m_z2, .ref m_z3, .ref m_z4, .ref m_z5, .int 0, .long 0])), (m_z1, .inl (m_d1, 8, .inl m_f1)), (m_z2, .inl (m_d2, 8, .inl (fun _ => 0))), (m_z3, .inl (m_d3, 64, .inl (fun _ => 0))), (m_z4, .inl (m_d4, 64, .inl m_f4)), (m_z5, .inl (m_d5, 64, .inl (fun _ => 0))), (m_y44, .inl (m_ch, 32, .inl (fun _ => 0)))] H) (hD : va_D (fun q : Nat => s.heap.size ≤ q) [(xq, .inr (11, [.ref g_t, .ref g_o, .ref g_d, .ref g_ck, .ref g_se, .ref g_po, .ref g_sh, .ref g_le, .ref g_sp])), (g_t, .inr (0, [.ref g_tr, .int 0, .int 0])), (g_tr, .inl (g_ct, 3000, .inl (fun _ => 0))), (g_o, .inr (0, [.ref g_orw, .int 0, .int 0])), (g_orw, .inl (g_co, 3000, .inl (fun _ => 0))), (g_d, .inr (2, [.ref g_de, .int 0])), (g_ck, .inr (1, [.ref g_d, .ref g_k1, .ref g_k2, .ref g_k3, .ref g_k4, .ref g_k5, .ref g_k6, .int 0, .int 0, .int 0, .int 0])), (g_sh, .inr (8, [.ref g_sw, .ref g_ss, .ref g_st])), (g_sw, .inl (g_cw, 64, .inl (fun _ => 0))), (g_ss, .inl (g_cs, 8, .inl (fun _ => 0))), (g_st, .inl (g_cst, 8, .inl (fun _ => 0))), (g_le, .inr (4, [.ref g_l0, .ref g_l1, .ref g_l2, .ref g_l3, .int 0, .int 0])), (g_sp, .inr (4, [.ref g_px, .ref g_p1, .ref g_p2, .ref g_p3, .int 0, .int 0])), (g_px, .inr (0, [.ref g_pr, .int 0, .int 0])), (g_pr, .inl (g_cp, 3000, .inl (fun _ => 0))), (mq, .inr (15, m_fs2)), (m_y0, .inl (m_ct, 3000, .inl (fun _ => 0))), (m_y4, .inl (m_co, 6000, .inl (fun _ => 0))), (m_y38, .inr (12, [.ref m_z1, .ref m_z2, .ref m_z3, .ref m_z4, .ref m_z5, .int 0, .long 0])), (m_z1, .inl (m_d1, 8, .inl m_f1)), (m_z2, .inl (m_d2, 8, .inl (fun _ => 0))), (m_z3, .inl (m_d3, 64, .inl (fun _ => 0))), (m_z4, .inl (m_d4, 64, .inl m_f4)), (m_z5, .inl (m_d5, 64, .inl (fun _ => 0))), (m_y44, .inl (m_ch, 32, .inl (fun _ => 0)))]) (hS : va_S (fun q : Nat => s.heap.size ≤ q) s.heap H locs) (hl : lv_has ls 4 [(3, .int 0), (2, .ref mq), (1, .ref xq), (0, .ref b)]) : W p l e room_1 s m #[Value.ref b] below meth c H locs 576 138251 (lw_Z below #[Value.ref b] s) (F0 m 198 ls []) := by
  obtain ⟨hx, hb, hr, hml, hown, hts, hX, hbl, hlocks, hE, hZ⟩ := C0
  have hA : ∀ q : Nat, s.heap.size ≤ q → (fun q : Nat => s.heap.size ≤ q) q := fun _ h => h
  have hbA : ¬ (fun q : Nat => s.heap.size ≤ q) b := Nat.not_le.mpr hbl
  refine lv_aload_n hx hb dL_law_198 rfl (lv_at hl 2 rfl) ?_
  refine lv_aload_n hx hb dL_law_199 rfl (lv_at hl 3 rfl) ?_
  refine lv_iload_n hx hb dL_law_200 rfl (lv_at hl 0 rfl) ?_
  refine lv_iconst (v := 1) hx hb dL_law_201 (by decide) ?_
  refine lv_iadd hx hb dL_law_202 ?_
  refine lv_topi (fun x_1 ex_1 => ?_)
  obtain rfl : x_1 = 1 := ex_1.trans (by decide)
  refine va_sld hx hb hX hbl hbA hS (show vp_in (1 : Int32) 6 from (show vp_in (nI 1) 6 from vp_in_nI (by omega) (by omega))) dL_law_203 ?_
  refine lv_topi (fun x_2 ex_2 => ?_)
  obtain rfl : x_2 = xs 1 := ex_2.trans (congrArg xs (by decide))
  refine lv_aload_n hx hb dL_law_204 rfl (lv_at hl 3 rfl) ?_
  refine lv_iload_n hx hb dL_law_205 rfl (lv_at hl 0 rfl) ?_
  refine lv_iconst (v := 2) hx hb dL_law_206 (by decide) ?_
  refine lv_iadd hx hb dL_law_207 ?_
  refine lv_topi (fun x_3 ex_3 => ?_)
  obtain rfl : x_3 = 2 := ex_3.trans (by decide)
  refine va_sld hx hb hX hbl hbA hS (show vp_in (2 : Int32) 6 from (show vp_in (nI 2) 6 from vp_in_nI (by omega) (by omega))) dL_law_208 ?_
  refine lv_topi (fun x_4 ex_4 => ?_)
  obtain rfl : x_4 = xs 2 := ex_4.trans (congrArg xs (by decide))
  have hPc := hP.sub (ws' := [(xq, .inr (11, [.ref g_t, .ref g_o, .ref g_d, .ref g_ck, .ref g_se, .ref g_po, .ref g_sh, .ref g_le, .ref g_sp])), (g_t, .inr (0, [.ref g_tr, .int 0, .int 0])), (g_d, .inr (2, [.ref g_de, .int 0]))]) [0, 1, 5] rfl
  have hDc := hD.sub (ws' := [(xq, .inr (11, [.ref g_t, .ref g_o, .ref g_d, .ref g_ck, .ref g_se, .ref g_po, .ref g_sh, .ref g_le, .ref g_sp])), (g_t, .inr (0, [.ref g_tr, .int 0, .int 0])), (g_d, .inr (2, [.ref g_de, .int 0]))]) [0, 1, 5] (by decide) rfl
  have hKc := hK.sub (tys' := []) [] rfl
  have hFc := va_free (wc := [(xq, .inr (11, [.ref g_t, .ref g_o, .ref g_d, .ref g_ck, .ref g_se, .ref g_po, .ref g_sh, .ref g_le, .ref g_sp])), (g_t, .inr (0, [.ref g_tr, .int 0, .int 0])), (g_d, .inr (2, [.ref g_de, .int 0]))]) hD hS hA [0, 1, 5] rfl
  refine va_calli (va_runV (As := [.int (xs 1), .int (xs 2)]) (rest := []) ⟨hx, hb, hml, hown, hts⟩ (c_X11_entry l dC dI H.size xq g_t g_o g_d g_ck g_se g_po g_sh g_le g_sp g_tr g_de (xs 1) (xs 2) ) ⟨callB_of 2 hts (gi kt_432) rfl rfl rfl (hts _ kt_416) (hts _ kt_433) (by decide +kernel) ⟨Nat.le_of_ble_eq_true rfl, Nat.le_of_ble_eq_true rfl⟩, (hts _ kt_434), (hts _ kt_435)⟩ ⟨fun a U g mk q => ⟨q.1, PW.calling q.2⟩, va_recv hKc hPc (ci := 11) (q0 := 0) rfl rfl, fun U hU hW => ⟨rfl, PW.mk hU hW hPc hKc hDc hE⟩⟩ rfl rfl hl.1 rfl (lv_room (Nat.le_of_ble_eq_true rfl)) dL_law_209 ⟨by show _ + 0 ≤ 600000; omega, by show _ + 0 ≤ 7302249; omega⟩) hS (fun q _ h => hFc q h) hFc (fun r_5 u t H1 locs ht hvm hw hB hz1 hk1 hS => ?_)
  have hB1 := hB
  obtain ⟨hP, hD, hK⟩ := QW.join (wr := [(g_tr, .inl (g_ct, 3000, .inl (fun _ => 0))), (g_o, .inr (0, [.ref g_orw, .int 0, .int 0])), (g_orw, .inl (g_co, 3000, .inl (fun _ => 0))), (g_ck, .inr (1, [.ref g_d, .ref g_k1, .ref g_k2, .ref g_k3, .ref g_k4, .ref g_k5, .ref g_k6, .int 0, .int 0, .int 0, .int 0])), (g_sh, .inr (8, [.ref g_sw, .ref g_ss, .ref g_st])), (g_sw, .inl (g_cw, 64, .inl (fun _ => 0))), (g_ss, .inl (g_cs, 8, .inl (fun _ => 0))), (g_st, .inl (g_cst, 8, .inl (fun _ => 0))), (g_le, .inr (4, [.ref g_l0, .ref g_l1, .ref g_l2, .ref g_l3, .int 0, .int 0])), (g_sp, .inr (4, [.ref g_px, .ref g_p1, .ref g_p2, .ref g_p3, .int 0, .int 0])), (g_px, .inr (0, [.ref g_pr, .int 0, .int 0])), (g_pr, .inl (g_cp, 3000, .inl (fun _ => 0))), (mq, .inr (15, m_fs2)), (m_y0, .inl (m_ct, 3000, .inl (fun _ => 0))), (m_y4, .inl (m_co, 6000, .inl (fun _ => 0))), (m_y38, .inr (12, [.ref m_z1, .ref m_z2, .ref m_z3, .ref m_z4, .ref m_z5, .int 0, .long 0])), (m_z1, .inl (m_d1, 8, .inl m_f1)), (m_z2, .inl (m_d2, 8, .inl (fun _ => 0))), (m_z3, .inl (m_d3, 64, .inl (fun _ => 0))), (m_z4, .inl (m_d4, 64, .inl m_f4)), (m_z5, .inl (m_d5, 64, .inl (fun _ => 0))), (m_y44, .inl (m_ch, 32, .inl (fun _ => 0)))]) hP hD hK [0, 1, 5] [2, 3, 4, 6, 7, 8, 9, 10, 11, 12, 13, 14, 15, 16, 17, 18, 19, 20, 21, 22, 23, 24] rfl rfl (by decide) (by decide) hk1 hFc ht hvm hB1
  generalize H1 = H at hP hS ⊢
  have hK : va_K (dC, dI) vwCl [(g_ct, .int), (g_co, .int), (g_cw, .int), (g_cs, .int), (g_cst, .int), (g_cp, .int), (m_ct, .byte), (m_co, .byte), (m_d1, .int), (m_d2, .int), (m_d3, .int), (m_d4, .int), (m_d5, .byte), (m_ch, .byte)] s := hK.sub [0, 1, 2, 3, 4, 5, 6, 7, 8, 9, 10, 11, 12, 13] rfl
  have hP : va_P (dC, dI) vwCl [(g_tr, .inl (g_ct, 3000, .inl (fun _ => 0))), (g_o, .inr (0, [.ref g_orw, .int 0, .int 0])), (g_orw, .inl (g_co, 3000, .inl (fun _ => 0))), (g_ck, .inr (1, [.ref g_d, .ref g_k1, .ref g_k2, .ref g_k3, .ref g_k4, .ref g_k5, .ref g_k6, .int 0, .int 0, .int 0, .int 0])), (g_sh, .inr (8, [.ref g_sw, .ref g_ss, .ref g_st])), (g_sw, .inl (g_cw, 64, .inl (fun _ => 0))), (g_ss, .inl (g_cs, 8, .inl (fun _ => 0))), (g_st, .inl (g_cst, 8, .inl (fun _ => 0))), (g_le, .inr (4, [.ref g_l0, .ref g_l1, .ref g_l2, .ref g_l3, .int 0, .int 0])), (g_sp, .inr (4, [.ref g_px, .ref g_p1, .ref g_p2, .ref g_p3, .int 0, .int 0])), (g_px, .inr (0, [.ref g_pr, .int 0, .int 0])), (g_pr, .inl (g_cp, 3000, .inl (fun _ => 0))), (mq, .inr (15, m_fs2)), (m_y0, .inl (m_ct, 3000, .inl (fun _ => 0))), (m_y4, .inl (m_co, 6000, .inl (fun _ => 0))), (m_y38, .inr (12, [.ref m_z1, .ref m_z2, .ref m_z3, .ref m_z4, .ref m_z5, .int 0, .long 0])), (m_z1, .inl (m_d1, 8, .inl m_f1)), (m_z2, .inl (m_d2, 8, .inl (fun _ => 0))), (m_z3, .inl (m_d3, 64, .inl (fun _ => 0))), (m_z4, .inl (m_d4, 64, .inl m_f4)), (m_z5, .inl (m_d5, 64, .inl (fun _ => 0))), (m_y44, .inl (m_ch, 32, .inl (fun _ => 0)))] H := hP
  have hD : va_D (fun q : Nat => s.heap.size ≤ q) [(g_tr, .inl (g_ct, 3000, .inl (fun _ => 0))), (g_o, .inr (0, [.ref g_orw, .int 0, .int 0])), (g_orw, .inl (g_co, 3000, .inl (fun _ => 0))), (g_ck, .inr (1, [.ref g_d, .ref g_k1, .ref g_k2, .ref g_k3, .ref g_k4, .ref g_k5, .ref g_k6, .int 0, .int 0, .int 0, .int 0])), (g_sh, .inr (8, [.ref g_sw, .ref g_ss, .ref g_st])), (g_sw, .inl (g_cw, 64, .inl (fun _ => 0))), (g_ss, .inl (g_cs, 8, .inl (fun _ => 0))), (g_st, .inl (g_cst, 8, .inl (fun _ => 0))), (g_le, .inr (4, [.ref g_l0, .ref g_l1, .ref g_l2, .ref g_l3, .int 0, .int 0])), (g_sp, .inr (4, [.ref g_px, .ref g_p1, .ref g_p2, .ref g_p3, .int 0, .int 0])), (g_px, .inr (0, [.ref g_pr, .int 0, .int 0])), (g_pr, .inl (g_cp, 3000, .inl (fun _ => 0))), (mq, .inr (15, m_fs2)), (m_y0, .inl (m_ct, 3000, .inl (fun _ => 0))), (m_y4, .inl (m_co, 6000, .inl (fun _ => 0))), (m_y38, .inr (12, [.ref m_z1, .ref m_z2, .ref m_z3, .ref m_z4, .ref m_z5, .int 0, .long 0])), (m_z1, .inl (m_d1, 8, .inl m_f1)), (m_z2, .inl (m_d2, 8, .inl (fun _ => 0))), (m_z3, .inl (m_d3, 64, .inl (fun _ => 0))), (m_z4, .inl (m_d4, 64, .inl m_f4)), (m_z5, .inl (m_d5, 64, .inl (fun _ => 0))), (m_y44, .inl (m_ch, 32, .inl (fun _ => 0)))] := hD
  have hw : r_5 = (-1) := hw
  subst hw
  refine lv_aload_n hx hb dL_law_212 rfl (lv_at hl 1 rfl) ?_
  refine lv_aload_n hx hb dL_law_213 rfl (lv_at hl 3 rfl) ?_
  refine lv_iload_n hx hb dL_law_214 rfl (lv_at hl 0 rfl) ?_
  refine lv_iconst (v := 1) hx hb dL_law_215 (by decide) ?_
  refine lv_iadd hx hb dL_law_216 ?_
  refine lv_topi (fun x_6 ex_6 => ?_)
  obtain rfl : x_6 = 1 := ex_6.trans (by decide)
  refine va_sld hx hb hX hbl hbA hS (show vp_in (1 : Int32) 6 from (show vp_in (nI 1) 6 from vp_in_nI (by omega) (by omega))) dL_law_217 ?_
  refine lv_topi (fun x_7 ex_7 => ?_)
  obtain rfl : x_7 = xs 1 := ex_7.trans (congrArg xs (by decide))
  refine lv_aload_n hx hb dL_law_218 rfl (lv_at hl 3 rfl) ?_
  refine lv_iload_n hx hb dL_law_219 rfl (lv_at hl 0 rfl) ?_
  refine lv_iconst (v := 2) hx hb dL_law_220 (by decide) ?_
  refine lv_iadd hx hb dL_law_221 ?_
  refine lv_topi (fun x_8 ex_8 => ?_)
  obtain rfl : x_8 = 2 := ex_8.trans (by decide)
  refine va_sld hx hb hX hbl hbA hS (show vp_in (2 : Int32) 6 from (show vp_in (nI 2) 6 from vp_in_nI (by omega) (by omega))) dL_law_222 ?_
  refine lv_topi (fun x_9 ex_9 => ?_)
  obtain rfl : x_9 = xs 2 := ex_9.trans (congrArg xs (by decide))
  have hPc := hP.sub (ws' := [(mq, .inr (15, m_fs2))]) [12] rfl
  have hDc := hD.sub (ws' := [(mq, .inr (15, m_fs2))]) [12] (by decide) rfl
  have hKc := hK.sub (tys' := []) [] rfl
  have hFc := va_free (wc := [(mq, .inr (15, m_fs2))]) hD hS hA [12] rfl
  refine va_calli (va_runV (As := [.int (xs 1), .int (xs 2)]) (rest := [.int (-1)]) ⟨hx, hb, hml, hown, hts⟩ (c_X15_entry l dC dI H.size mq m_fs2 m_y0 m_y4 m_y38 m_y44 (xs 1) (xs 2) (hL) (hF0) (hF1) (hF2) (hF3) (hF4) (hF12) (hF14) (hF15) (hF30) (hF33) (hF38) (hF44)) ⟨callB_of 2 hts (gi kt_436) rfl rfl rfl (hts _ kt_375) (hts _ kt_437) (by decide +kernel) ⟨Nat.le_of_ble_eq_true rfl, Nat.le_of_ble_eq_true rfl⟩, (hts _ kt_438), (hts _ kt_439)⟩ ⟨fun a U g mk q => ⟨q.1, PW.calling q.2⟩, va_recv hKc hPc (ci := 15) (q0 := 0) rfl rfl, fun U hU hW => ⟨rfl, PW.mk hU hW hPc hKc hDc hE⟩⟩ rfl rfl hl.1 rfl (lv_room (Nat.le_of_ble_eq_true rfl)) dL_law_223 ⟨by show _ + 0 ≤ 600000; omega, by show _ + 0 ≤ 7302249; omega⟩) hS (fun q _ h => hFc q h) hFc (fun r_10 u t H1 locs ht hvm hw hB hz1 hk1 hS => ?_)
  have hB1 := hB
  obtain ⟨hP, hD, hK⟩ := QW.join (wr := [(g_tr, .inl (g_ct, 3000, .inl (fun _ => 0))), (g_o, .inr (0, [.ref g_orw, .int 0, .int 0])), (g_orw, .inl (g_co, 3000, .inl (fun _ => 0))), (g_ck, .inr (1, [.ref g_d, .ref g_k1, .ref g_k2, .ref g_k3, .ref g_k4, .ref g_k5, .ref g_k6, .int 0, .int 0, .int 0, .int 0])), (g_sh, .inr (8, [.ref g_sw, .ref g_ss, .ref g_st])), (g_sw, .inl (g_cw, 64, .inl (fun _ => 0))), (g_ss, .inl (g_cs, 8, .inl (fun _ => 0))), (g_st, .inl (g_cst, 8, .inl (fun _ => 0))), (g_le, .inr (4, [.ref g_l0, .ref g_l1, .ref g_l2, .ref g_l3, .int 0, .int 0])), (g_sp, .inr (4, [.ref g_px, .ref g_p1, .ref g_p2, .ref g_p3, .int 0, .int 0])), (g_px, .inr (0, [.ref g_pr, .int 0, .int 0])), (g_pr, .inl (g_cp, 3000, .inl (fun _ => 0))), (m_y0, .inl (m_ct, 3000, .inl (fun _ => 0))), (m_y4, .inl (m_co, 6000, .inl (fun _ => 0))), (m_y38, .inr (12, [.ref m_z1, .ref m_z2, .ref m_z3, .ref m_z4, .ref m_z5, .int 0, .long 0])), (m_z1, .inl (m_d1, 8, .inl m_f1)), (m_z2, .inl (m_d2, 8, .inl (fun _ => 0))), (m_z3, .inl (m_d3, 64, .inl (fun _ => 0))), (m_z4, .inl (m_d4, 64, .inl m_f4)), (m_z5, .inl (m_d5, 64, .inl (fun _ => 0))), (m_y44, .inl (m_ch, 32, .inl (fun _ => 0)))]) hP hD hK [12] [0, 1, 2, 3, 4, 5, 6, 7, 8, 9, 10, 11, 13, 14, 15, 16, 17, 18, 19, 20, 21] rfl rfl (by decide) (by decide) hk1 hFc ht hvm hB1
  generalize H1 = H at hP hS ⊢
  have hK : va_K (dC, dI) vwCl [(g_ct, .int), (g_co, .int), (g_cw, .int), (g_cs, .int), (g_cst, .int), (g_cp, .int), (m_ct, .byte), (m_co, .byte), (m_d1, .int), (m_d2, .int), (m_d3, .int), (m_d4, .int), (m_d5, .byte), (m_ch, .byte)] s := hK.sub [0, 1, 2, 3, 4, 5, 6, 7, 8, 9, 10, 11, 12, 13] rfl
  have hP : va_P (dC, dI) vwCl [(g_tr, .inl (g_ct, 3000, .inl (fun _ => 0))), (g_o, .inr (0, [.ref g_orw, .int 0, .int 0])), (g_orw, .inl (g_co, 3000, .inl (fun _ => 0))), (g_ck, .inr (1, [.ref g_d, .ref g_k1, .ref g_k2, .ref g_k3, .ref g_k4, .ref g_k5, .ref g_k6, .int 0, .int 0, .int 0, .int 0])), (g_sh, .inr (8, [.ref g_sw, .ref g_ss, .ref g_st])), (g_sw, .inl (g_cw, 64, .inl (fun _ => 0))), (g_ss, .inl (g_cs, 8, .inl (fun _ => 0))), (g_st, .inl (g_cst, 8, .inl (fun _ => 0))), (g_le, .inr (4, [.ref g_l0, .ref g_l1, .ref g_l2, .ref g_l3, .int 0, .int 0])), (g_sp, .inr (4, [.ref g_px, .ref g_p1, .ref g_p2, .ref g_p3, .int 0, .int 0])), (g_px, .inr (0, [.ref g_pr, .int 0, .int 0])), (g_pr, .inl (g_cp, 3000, .inl (fun _ => 0))), (m_y0, .inl (m_ct, 3000, .inl (fun _ => 0))), (m_y4, .inl (m_co, 6000, .inl (fun _ => 0))), (m_y38, .inr (12, [.ref m_z1, .ref m_z2, .ref m_z3, .ref m_z4, .ref m_z5, .int 0, .long 0])), (m_z1, .inl (m_d1, 8, .inl m_f1)), (m_z2, .inl (m_d2, 8, .inl (fun _ => 0))), (m_z3, .inl (m_d3, 64, .inl (fun _ => 0))), (m_z4, .inl (m_d4, 64, .inl m_f4)), (m_z5, .inl (m_d5, 64, .inl (fun _ => 0))), (m_y44, .inl (m_ch, 32, .inl (fun _ => 0)))] H := hP
  have hD : va_D (fun q : Nat => s.heap.size ≤ q) [(g_tr, .inl (g_ct, 3000, .inl (fun _ => 0))), (g_o, .inr (0, [.ref g_orw, .int 0, .int 0])), (g_orw, .inl (g_co, 3000, .inl (fun _ => 0))), (g_ck, .inr (1, [.ref g_d, .ref g_k1, .ref g_k2, .ref g_k3, .ref g_k4, .ref g_k5, .ref g_k6, .int 0, .int 0, .int 0, .int 0])), (g_sh, .inr (8, [.ref g_sw, .ref g_ss, .ref g_st])), (g_sw, .inl (g_cw, 64, .inl (fun _ => 0))), (g_ss, .inl (g_cs, 8, .inl (fun _ => 0))), (g_st, .inl (g_cst, 8, .inl (fun _ => 0))), (g_le, .inr (4, [.ref g_l0, .ref g_l1, .ref g_l2, .ref g_l3, .int 0, .int 0])), (g_sp, .inr (4, [.ref g_px, .ref g_p1, .ref g_p2, .ref g_p3, .int 0, .int 0])), (g_px, .inr (0, [.ref g_pr, .int 0, .int 0])), (g_pr, .inl (g_cp, 3000, .inl (fun _ => 0))), (m_y0, .inl (m_ct, 3000, .inl (fun _ => 0))), (m_y4, .inl (m_co, 6000, .inl (fun _ => 0))), (m_y38, .inr (12, [.ref m_z1, .ref m_z2, .ref m_z3, .ref m_z4, .ref m_z5, .int 0, .long 0])), (m_z1, .inl (m_d1, 8, .inl m_f1)), (m_z2, .inl (m_d2, 8, .inl (fun _ => 0))), (m_z3, .inl (m_d3, 64, .inl (fun _ => 0))), (m_z4, .inl (m_d4, 64, .inl m_f4)), (m_z5, .inl (m_d5, 64, .inl (fun _ => 0))), (m_y44, .inl (m_ch, 32, .inl (fun _ => 0)))] := hD
  have hw : r_10 = (-1) := hw
  subst hw
  refine lv_icmp_eq (tgt := 522) hx hb dL_law_226 (by decide) (fun c_11 => ?_) (fun c_11 => absurd (by decide) c_11)
  refine lv_iinc (v := 6) (lv' := [(3, .int 6), (2, .ref mq), (1, .ref xq), (0, .ref b)]) hx hb dL_law_522 hl (k := 0) rfl (by decide) (by decide) rfl (fun ls hl => ?_)
  refine lv_goto (tgt := 18) hx hb dL_law_525 (by decide) ?_
  refine lv_iload_n hx hb dL_law_18 rfl (lv_at hl 0 rfl) ?_
  refine lv_aload_n hx hb dL_law_19 rfl (lv_at hl 3 rfl) ?_
  refine va_slen hx hb hX hbl hbA hS dL_law_20 ?_
  refine W.eq (g2 := F0 m 21 ls [.int 6, .int 6]) rfl ?_
  refine lv_bipush (v := 6) hx hb dL_law_21 (by decide) ?_
  refine lv_isub hx hb dL_law_23 ?_
  refine lv_topi (fun x_12 ex_12 => ?_)
  obtain rfl : x_12 = 0 := ex_12.trans (by decide)
  refine lv_icmp_gt (tgt := 528) hx hb dL_law_24 (by decide) (fun c_13 => ?_) (fun c_13 => absurd (by decide) c_13)
  refine lv_iconst (v := 1) hx hb dL_law_528 (by decide) ?_
  refine va_forget (fun q hq => hS.2.2 q hq) ?_
  refine W.widen (k := 600000) (n := 7302249) (by omega) (by omega) ?_
  exact lw_ret hx hb hr hlocks dL_law_529
set_option maxHeartbeats 4000000 in
set_option maxRecDepth 100000 in
theorem law_3 {p : Program} {l : Launch} {e : Env} {s : State} {m : MethodId} {below : List Frame} {meth : Method} {c : Code} {dC : Nat → ClassId} {dI : Nat → Nat → Nat} {b : Nat} {xs : Nat → Int32} (C0 : LC p s m meth c b xs) {xq : Nat} {mq : Nat} {g_t : Nat} {g_o : Nat} {g_d : Nat} {g_ck : Nat} {g_se : Nat} {g_po : Nat} {g_sh : Nat} {g_le : Nat} {g_sp : Nat} {g_tr : Nat} {g_orw : Nat} {g_de : Nat} {g_k1 : Nat} {g_k2 : Nat} {g_k3 : Nat} {g_k4 : Nat} {g_k5 : Nat} {g_k6 : Nat} {g_sw : Nat} {g_ss : Nat} {g_st : Nat} {g_l0 : Nat} {g_l1 : Nat} {g_l2 : Nat} {g_l3 : Nat} {g_px : Nat} {g_p1 : Nat} {g_p2 : Nat} {g_p3 : Nat} {g_pr : Nat} {g_ct : ClassId} {g_co : ClassId} {g_cw : ClassId} {g_cs : ClassId} {g_cst : ClassId} {g_cp : ClassId} {m_fs2 : List Value} {m_y0 : Nat} {m_y4 : Nat} {m_y38 : Nat} {m_y44 : Nat} {m_z1 : Nat} {m_z2 : Nat} {m_z3 : Nat} {m_z4 : Nat} {m_z5 : Nat} {m_ct : ClassId} {m_co : ClassId} {m_ch : ClassId} {m_d1 : ClassId} {m_d2 : ClassId} {m_d3 : ClassId} {m_d4 : ClassId} {m_d5 : ClassId} {m_f1 : Nat → Int32} {m_f4 : Nat → Int32} (hL : m_fs2.length = 59) (hF0 : m_fs2[0]? = some (.ref m_y0)) (hF1 : m_fs2[1]? = some (.int 0)) (hF2 : m_fs2[2]? = some (.int 0)) (hF3 : m_fs2[3]? = some (.int 0)) (hF4 : m_fs2[4]? = some (.ref m_y4)) (hF12 : m_fs2[12]? = some (.int 0)) (hF14 : m_fs2[14]? = some (.int 0)) (hF15 : m_fs2[15]? = some (.int 0)) (hF30 : m_fs2[30]? = some (.int 0)) (hF33 : m_fs2[33]? = some (.int 0)) (hF38 : m_fs2[38]? = some (.ref m_y38)) (hF44 : m_fs2[44]? = some (.ref m_y44)) {H : Heap} {locs : List Loc} {ls : Array Slot} (hK : va_K (dC, dI) vwCl [(g_ct, .int), (g_co, .int), (g_cw, .int), (g_cs, .int), (g_cst, .int), (g_cp, .int), (m_ct, .byte), (m_co, .byte), (m_d1, .int), (m_d2, .int), (m_d3, .int), (m_d4, .int), (m_d5, .byte), (m_ch, .byte)] s) (hP : va_P (dC, dI) vwCl [(xq, .inr (11, [.ref g_t, .ref g_o, .ref g_d, .ref g_ck, .ref g_se, .ref g_po, .ref g_sh, .ref g_le, .ref g_sp])), (g_t, .inr (0, [.ref g_tr, .int 0, .int 0])), (g_tr, .inl (g_ct, 3000, .inl (fun _ => 0))), (g_o, .inr (0, [.ref g_orw, .int 0, .int 0])), (g_orw, .inl (g_co, 3000, .inl (fun _ => 0))), (g_d, .inr (2, [.ref g_de, .int 0])), (g_ck, .inr (1, [.ref g_d, .ref g_k1, .ref g_k2, .ref g_k3, .ref g_k4, .ref g_k5, .ref g_k6, .int 0, .int 0, .int 0, .int 0])), (g_sh, .inr (8, [.ref g_sw, .ref g_ss, .ref g_st])), (g_sw, .inl (g_cw, 64, .inl (fun _ => 0))), (g_ss, .inl (g_cs, 8, .inl (fun _ => 0))), (g_st, .inl (g_cst, 8, .inl (fun _ => 0))), (g_le, .inr (4, [.ref g_l0, .ref g_l1, .ref g_l2, .ref g_l3, .int 0, .int 0])), (g_sp, .inr (4, [.ref g_px, .ref g_p1, .ref g_p2, .ref g_p3, .int 0, .int 0])), (g_px, .inr (0, [.ref g_pr, .int 0, .int 0])), (g_pr, .inl (g_cp, 3000, .inl (fun _ => 0))), (mq, .inr (15, m_fs2)), (m_y0, .inl (m_ct, 3000, .inl (fun _ => 0))), (m_y4, .inl (m_co, 6000, .inl (fun _ => 0))), (m_y38, .inr (12, [.ref m_z1, .ref m_z2, .ref m_z3, .ref m_z4, .ref m_z5, .int 0, .long 0])), (m_z1, .inl (m_d1, 8, .inl m_f1)), (m_z2, .inl (m_d2, 8, .inl (fun _ => 0))), (m_z3, .inl (m_d3, 64, .inl (fun _ => 0))), (m_z4, .inl (m_d4, 64, .inl m_f4)), (m_z5, .inl (m_d5, 64, .inl (fun _ => 0))), (m_y44, .inl (m_ch, 32, .inl (fun _ => 0)))] H) (hD : va_D (fun q : Nat => s.heap.size ≤ q) [(xq, .inr (11, [.ref g_t, .ref g_o, .ref g_d, .ref g_ck, .ref g_se, .ref g_po, .ref g_sh, .ref g_le, .ref g_sp])), (g_t, .inr (0, [.ref g_tr, .int 0, .int 0])), (g_tr, .inl (g_ct, 3000, .inl (fun _ => 0))), (g_o, .inr (0, [.ref g_orw, .int 0, .int 0])), (g_orw, .inl (g_co, 3000, .inl (fun _ => 0))), (g_d, .inr (2, [.ref g_de, .int 0])), (g_ck, .inr (1, [.ref g_d, .ref g_k1, .ref g_k2, .ref g_k3, .ref g_k4, .ref g_k5, .ref g_k6, .int 0, .int 0, .int 0, .int 0])), (g_sh, .inr (8, [.ref g_sw, .ref g_ss, .ref g_st])), (g_sw, .inl (g_cw, 64, .inl (fun _ => 0))), (g_ss, .inl (g_cs, 8, .inl (fun _ => 0))), (g_st, .inl (g_cst, 8, .inl (fun _ => 0))), (g_le, .inr (4, [.ref g_l0, .ref g_l1, .ref g_l2, .ref g_l3, .int 0, .int 0])), (g_sp, .inr (4, [.ref g_px, .ref g_p1, .ref g_p2, .ref g_p3, .int 0, .int 0])), (g_px, .inr (0, [.ref g_pr, .int 0, .int 0])), (g_pr, .inl (g_cp, 3000, .inl (fun _ => 0))), (mq, .inr (15, m_fs2)), (m_y0, .inl (m_ct, 3000, .inl (fun _ => 0))), (m_y4, .inl (m_co, 6000, .inl (fun _ => 0))), (m_y38, .inr (12, [.ref m_z1, .ref m_z2, .ref m_z3, .ref m_z4, .ref m_z5, .int 0, .long 0])), (m_z1, .inl (m_d1, 8, .inl m_f1)), (m_z2, .inl (m_d2, 8, .inl (fun _ => 0))), (m_z3, .inl (m_d3, 64, .inl (fun _ => 0))), (m_z4, .inl (m_d4, 64, .inl m_f4)), (m_z5, .inl (m_d5, 64, .inl (fun _ => 0))), (m_y44, .inl (m_ch, 32, .inl (fun _ => 0)))]) (hS : va_S (fun q : Nat => s.heap.size ≤ q) s.heap H locs) (hl : lv_has ls 4 [(3, .int 0), (2, .ref mq), (1, .ref xq), (0, .ref b)]) : W p l e room_1 s m #[Value.ref b] below meth c H locs 576 138251 (lw_Z below #[Value.ref b] s) (F0 m 231 ls []) := by
  obtain ⟨hx, hb, hr, hml, hown, hts, hX, hbl, hlocks, hE, hZ⟩ := C0
  have hA : ∀ q : Nat, s.heap.size ≤ q → (fun q : Nat => s.heap.size ≤ q) q := fun _ h => h
  have hbA : ¬ (fun q : Nat => s.heap.size ≤ q) b := Nat.not_le.mpr hbl
  refine lv_aload_n hx hb dL_law_231 rfl (lv_at hl 2 rfl) ?_
  have hPc := hP.sub (ws' := [(xq, .inr (11, [.ref g_t, .ref g_o, .ref g_d, .ref g_ck, .ref g_se, .ref g_po, .ref g_sh, .ref g_le, .ref g_sp])), (g_d, .inr (2, [.ref g_de, .int 0]))]) [0, 5] rfl
  have hDc := hD.sub (ws' := [(xq, .inr (11, [.ref g_t, .ref g_o, .ref g_d, .ref g_ck, .ref g_se, .ref g_po, .ref g_sh, .ref g_le, .ref g_sp])), (g_d, .inr (2, [.ref g_de, .int 0]))]) [0, 5] (by decide) rfl
  have hKc := hK.sub (tys' := []) [] rfl
  have hFc := va_free (wc := [(xq, .inr (11, [.ref g_t, .ref g_o, .ref g_d, .ref g_ck, .ref g_se, .ref g_po, .ref g_sh, .ref g_le, .ref g_sp])), (g_d, .inr (2, [.ref g_de, .int 0]))]) hD hS hA [0, 5] rfl
  refine va_calli (va_runV (As := []) (rest := []) ⟨hx, hb, hml, hown, hts⟩ (c_X11_forget l dC dI H.size xq g_t g_o g_d g_ck g_se g_po g_sh g_le g_sp g_de ) ⟨callB_of 0 hts (gi kt_440) rfl rfl rfl (hts _ kt_416) (hts _ kt_441) (by decide +kernel) ⟨Nat.le_of_ble_eq_true rfl, Nat.le_of_ble_eq_true rfl⟩, (hts _ kt_442), (hts _ kt_443)⟩ ⟨fun a U g mk q => ⟨q.1, PW.calling q.2⟩, va_recv hKc hPc (ci := 11) (q0 := 0) rfl rfl, fun U hU hW => ⟨rfl, PW.mk hU hW hPc hKc hDc hE⟩⟩ rfl rfl hl.1 rfl (lv_room (Nat.le_of_ble_eq_true rfl)) dL_law_232 ⟨by show _ + 0 ≤ 600000; omega, by show _ + 0 ≤ 7302249; omega⟩) hS (fun q _ h => hFc q h) hFc (fun r_1 u t H1 locs ht hvm hw hB hz1 hk1 hS => ?_)
  have hB1 := hB
  obtain ⟨hP, hD, hK⟩ := QW.join (wr := [(g_t, .inr (0, [.ref g_tr, .int 0, .int 0])), (g_tr, .inl (g_ct, 3000, .inl (fun _ => 0))), (g_o, .inr (0, [.ref g_orw, .int 0, .int 0])), (g_orw, .inl (g_co, 3000, .inl (fun _ => 0))), (g_ck, .inr (1, [.ref g_d, .ref g_k1, .ref g_k2, .ref g_k3, .ref g_k4, .ref g_k5, .ref g_k6, .int 0, .int 0, .int 0, .int 0])), (g_sh, .inr (8, [.ref g_sw, .ref g_ss, .ref g_st])), (g_sw, .inl (g_cw, 64, .inl (fun _ => 0))), (g_ss, .inl (g_cs, 8, .inl (fun _ => 0))), (g_st, .inl (g_cst, 8, .inl (fun _ => 0))), (g_le, .inr (4, [.ref g_l0, .ref g_l1, .ref g_l2, .ref g_l3, .int 0, .int 0])), (g_sp, .inr (4, [.ref g_px, .ref g_p1, .ref g_p2, .ref g_p3, .int 0, .int 0])), (g_px, .inr (0, [.ref g_pr, .int 0, .int 0])), (g_pr, .inl (g_cp, 3000, .inl (fun _ => 0))), (mq, .inr (15, m_fs2)), (m_y0, .inl (m_ct, 3000, .inl (fun _ => 0))), (m_y4, .inl (m_co, 6000, .inl (fun _ => 0))), (m_y38, .inr (12, [.ref m_z1, .ref m_z2, .ref m_z3, .ref m_z4, .ref m_z5, .int 0, .long 0])), (m_z1, .inl (m_d1, 8, .inl m_f1)), (m_z2, .inl (m_d2, 8, .inl (fun _ => 0))), (m_z3, .inl (m_d3, 64, .inl (fun _ => 0))), (m_z4, .inl (m_d4, 64, .inl m_f4)), (m_z5, .inl (m_d5, 64, .inl (fun _ => 0))), (m_y44, .inl (m_ch, 32, .inl (fun _ => 0)))]) hP hD hK [0, 5] [1, 2, 3, 4, 6, 7, 8, 9, 10, 11, 12, 13, 14, 15, 16, 17, 18, 19, 20, 21, 22, 23, 24] rfl rfl (by decide) (by decide) hk1 hFc ht hvm hB1
  generalize H1 = H at hP hS ⊢
  have hK : va_K (dC, dI) vwCl [(g_ct, .int), (g_co, .int), (g_cw, .int), (g_cs, .int), (g_cst, .int), (g_cp, .int), (m_ct, .byte), (m_co, .byte), (m_d1, .int), (m_d2, .int), (m_d3, .int), (m_d4, .int), (m_d5, .byte), (m_ch, .byte)] s := hK.sub [0, 1, 2, 3, 4, 5, 6, 7, 8, 9, 10, 11, 12, 13] rfl
  have hP : va_P (dC, dI) vwCl [(g_t, .inr (0, [.ref g_tr, .int 0, .int 0])), (g_tr, .inl (g_ct, 3000, .inl (fun _ => 0))), (g_o, .inr (0, [.ref g_orw, .int 0, .int 0])), (g_orw, .inl (g_co, 3000, .inl (fun _ => 0))), (g_ck, .inr (1, [.ref g_d, .ref g_k1, .ref g_k2, .ref g_k3, .ref g_k4, .ref g_k5, .ref g_k6, .int 0, .int 0, .int 0, .int 0])), (g_sh, .inr (8, [.ref g_sw, .ref g_ss, .ref g_st])), (g_sw, .inl (g_cw, 64, .inl (fun _ => 0))), (g_ss, .inl (g_cs, 8, .inl (fun _ => 0))), (g_st, .inl (g_cst, 8, .inl (fun _ => 0))), (g_le, .inr (4, [.ref g_l0, .ref g_l1, .ref g_l2, .ref g_l3, .int 0, .int 0])), (g_sp, .inr (4, [.ref g_px, .ref g_p1, .ref g_p2, .ref g_p3, .int 0, .int 0])), (g_px, .inr (0, [.ref g_pr, .int 0, .int 0])), (g_pr, .inl (g_cp, 3000, .inl (fun _ => 0))), (mq, .inr (15, m_fs2)), (m_y0, .inl (m_ct, 3000, .inl (fun _ => 0))), (m_y4, .inl (m_co, 6000, .inl (fun _ => 0))), (m_y38, .inr (12, [.ref m_z1, .ref m_z2, .ref m_z3, .ref m_z4, .ref m_z5, .int 0, .long 0])), (m_z1, .inl (m_d1, 8, .inl m_f1)), (m_z2, .inl (m_d2, 8, .inl (fun _ => 0))), (m_z3, .inl (m_d3, 64, .inl (fun _ => 0))), (m_z4, .inl (m_d4, 64, .inl m_f4)), (m_z5, .inl (m_d5, 64, .inl (fun _ => 0))), (m_y44, .inl (m_ch, 32, .inl (fun _ => 0)))] H := hP
  have hD : va_D (fun q : Nat => s.heap.size ≤ q) [(g_t, .inr (0, [.ref g_tr, .int 0, .int 0])), (g_tr, .inl (g_ct, 3000, .inl (fun _ => 0))), (g_o, .inr (0, [.ref g_orw, .int 0, .int 0])), (g_orw, .inl (g_co, 3000, .inl (fun _ => 0))), (g_ck, .inr (1, [.ref g_d, .ref g_k1, .ref g_k2, .ref g_k3, .ref g_k4, .ref g_k5, .ref g_k6, .int 0, .int 0, .int 0, .int 0])), (g_sh, .inr (8, [.ref g_sw, .ref g_ss, .ref g_st])), (g_sw, .inl (g_cw, 64, .inl (fun _ => 0))), (g_ss, .inl (g_cs, 8, .inl (fun _ => 0))), (g_st, .inl (g_cst, 8, .inl (fun _ => 0))), (g_le, .inr (4, [.ref g_l0, .ref g_l1, .ref g_l2, .ref g_l3, .int 0, .int 0])), (g_sp, .inr (4, [.ref g_px, .ref g_p1, .ref g_p2, .ref g_p3, .int 0, .int 0])), (g_px, .inr (0, [.ref g_pr, .int 0, .int 0])), (g_pr, .inl (g_cp, 3000, .inl (fun _ => 0))), (mq, .inr (15, m_fs2)), (m_y0, .inl (m_ct, 3000, .inl (fun _ => 0))), (m_y4, .inl (m_co, 6000, .inl (fun _ => 0))), (m_y38, .inr (12, [.ref m_z1, .ref m_z2, .ref m_z3, .ref m_z4, .ref m_z5, .int 0, .long 0])), (m_z1, .inl (m_d1, 8, .inl m_f1)), (m_z2, .inl (m_d2, 8, .inl (fun _ => 0))), (m_z3, .inl (m_d3, 64, .inl (fun _ => 0))), (m_z4, .inl (m_d4, 64, .inl m_f4)), (m_z5, .inl (m_d5, 64, .inl (fun _ => 0))), (m_y44, .inl (m_ch, 32, .inl (fun _ => 0)))] := hD
  have hw : r_1 = 0 := hw
  subst hw
  refine lv_aload_n hx hb dL_law_235 rfl (lv_at hl 1 rfl) ?_
  have hPc := hP.sub (ws' := [(mq, .inr (15, m_fs2))]) [13] rfl
  have hDc := hD.sub (ws' := [(mq, .inr (15, m_fs2))]) [13] (by decide) rfl
  have hKc := hK.sub (tys' := []) [] rfl
  have hFc := va_free (wc := [(mq, .inr (15, m_fs2))]) hD hS hA [13] rfl
  refine va_calli (va_runV (As := []) (rest := [.int 0]) ⟨hx, hb, hml, hown, hts⟩ (c_X15_forget l dC dI H.size mq m_fs2 m_y0 m_y4 m_y38 m_y44 (hL) (hF0) (hF1) (hF2) (hF3) (hF4) (hF12) (hF14) (hF15) (hF30) (hF33) (hF38) (hF44)) ⟨callB_of 0 hts (gi kt_444) rfl rfl rfl (hts _ kt_375) (hts _ kt_445) (by decide +kernel) ⟨Nat.le_of_ble_eq_true rfl, Nat.le_of_ble_eq_true rfl⟩, (hts _ kt_446), (hts _ kt_447)⟩ ⟨fun a U g mk q => ⟨q.1, PW.calling q.2⟩, va_recv hKc hPc (ci := 15) (q0 := 0) rfl rfl, fun U hU hW => ⟨rfl, PW.mk hU hW hPc hKc hDc hE⟩⟩ rfl rfl hl.1 rfl (lv_room (Nat.le_of_ble_eq_true rfl)) dL_law_236 ⟨by show _ + 0 ≤ 600000; omega, by show _ + 0 ≤ 7302249; omega⟩) hS (fun q _ h => hFc q h) hFc (fun r_2 u t H1 locs ht hvm hw hB hz1 hk1 hS => ?_)
  have hB1 := hB
  obtain ⟨hP, hD, hK⟩ := QW.join (wr := [(g_t, .inr (0, [.ref g_tr, .int 0, .int 0])), (g_tr, .inl (g_ct, 3000, .inl (fun _ => 0))), (g_o, .inr (0, [.ref g_orw, .int 0, .int 0])), (g_orw, .inl (g_co, 3000, .inl (fun _ => 0))), (g_ck, .inr (1, [.ref g_d, .ref g_k1, .ref g_k2, .ref g_k3, .ref g_k4, .ref g_k5, .ref g_k6, .int 0, .int 0, .int 0, .int 0])), (g_sh, .inr (8, [.ref g_sw, .ref g_ss, .ref g_st])), (g_sw, .inl (g_cw, 64, .inl (fun _ => 0))), (g_ss, .inl (g_cs, 8, .inl (fun _ => 0))), (g_st, .inl (g_cst, 8, .inl (fun _ => 0))), (g_le, .inr (4, [.ref g_l0, .ref g_l1, .ref g_l2, .ref g_l3, .int 0, .int 0])), (g_sp, .inr (4, [.ref g_px, .ref g_p1, .ref g_p2, .ref g_p3, .int 0, .int 0])), (g_px, .inr (0, [.ref g_pr, .int 0, .int 0])), (g_pr, .inl (g_cp, 3000, .inl (fun _ => 0))), (m_y0, .inl (m_ct, 3000, .inl (fun _ => 0))), (m_y4, .inl (m_co, 6000, .inl (fun _ => 0))), (m_y38, .inr (12, [.ref m_z1, .ref m_z2, .ref m_z3, .ref m_z4, .ref m_z5, .int 0, .long 0])), (m_z1, .inl (m_d1, 8, .inl m_f1)), (m_z2, .inl (m_d2, 8, .inl (fun _ => 0))), (m_z3, .inl (m_d3, 64, .inl (fun _ => 0))), (m_z4, .inl (m_d4, 64, .inl m_f4)), (m_z5, .inl (m_d5, 64, .inl (fun _ => 0))), (m_y44, .inl (m_ch, 32, .inl (fun _ => 0)))]) hP hD hK [13] [0, 1, 2, 3, 4, 5, 6, 7, 8, 9, 10, 11, 12, 14, 15, 16, 17, 18, 19, 20, 21, 22] rfl rfl (by decide) (by decide) hk1 hFc ht hvm hB1
  generalize H1 = H at hP hS ⊢
  have hK : va_K (dC, dI) vwCl [(g_ct, .int), (g_co, .int), (g_cw, .int), (g_cs, .int), (g_cst, .int), (g_cp, .int), (m_ct, .byte), (m_co, .byte), (m_d1, .int), (m_d2, .int), (m_d3, .int), (m_d4, .int), (m_d5, .byte), (m_ch, .byte)] s := hK.sub [0, 1, 2, 3, 4, 5, 6, 7, 8, 9, 10, 11, 12, 13] rfl
  have hP : va_P (dC, dI) vwCl [(g_t, .inr (0, [.ref g_tr, .int 0, .int 0])), (g_tr, .inl (g_ct, 3000, .inl (fun _ => 0))), (g_o, .inr (0, [.ref g_orw, .int 0, .int 0])), (g_orw, .inl (g_co, 3000, .inl (fun _ => 0))), (g_ck, .inr (1, [.ref g_d, .ref g_k1, .ref g_k2, .ref g_k3, .ref g_k4, .ref g_k5, .ref g_k6, .int 0, .int 0, .int 0, .int 0])), (g_sh, .inr (8, [.ref g_sw, .ref g_ss, .ref g_st])), (g_sw, .inl (g_cw, 64, .inl (fun _ => 0))), (g_ss, .inl (g_cs, 8, .inl (fun _ => 0))), (g_st, .inl (g_cst, 8, .inl (fun _ => 0))), (g_le, .inr (4, [.ref g_l0, .ref g_l1, .ref g_l2, .ref g_l3, .int 0, .int 0])), (g_sp, .inr (4, [.ref g_px, .ref g_p1, .ref g_p2, .ref g_p3, .int 0, .int 0])), (g_px, .inr (0, [.ref g_pr, .int 0, .int 0])), (g_pr, .inl (g_cp, 3000, .inl (fun _ => 0))), (m_y0, .inl (m_ct, 3000, .inl (fun _ => 0))), (m_y4, .inl (m_co, 6000, .inl (fun _ => 0))), (m_y38, .inr (12, [.ref m_z1, .ref m_z2, .ref m_z3, .ref m_z4, .ref m_z5, .int 0, .long 0])), (m_z1, .inl (m_d1, 8, .inl m_f1)), (m_z2, .inl (m_d2, 8, .inl (fun _ => 0))), (m_z3, .inl (m_d3, 64, .inl (fun _ => 0))), (m_z4, .inl (m_d4, 64, .inl m_f4)), (m_z5, .inl (m_d5, 64, .inl (fun _ => 0))), (m_y44, .inl (m_ch, 32, .inl (fun _ => 0)))] H := hP
  have hD : va_D (fun q : Nat => s.heap.size ≤ q) [(g_t, .inr (0, [.ref g_tr, .int 0, .int 0])), (g_tr, .inl (g_ct, 3000, .inl (fun _ => 0))), (g_o, .inr (0, [.ref g_orw, .int 0, .int 0])), (g_orw, .inl (g_co, 3000, .inl (fun _ => 0))), (g_ck, .inr (1, [.ref g_d, .ref g_k1, .ref g_k2, .ref g_k3, .ref g_k4, .ref g_k5, .ref g_k6, .int 0, .int 0, .int 0, .int 0])), (g_sh, .inr (8, [.ref g_sw, .ref g_ss, .ref g_st])), (g_sw, .inl (g_cw, 64, .inl (fun _ => 0))), (g_ss, .inl (g_cs, 8, .inl (fun _ => 0))), (g_st, .inl (g_cst, 8, .inl (fun _ => 0))), (g_le, .inr (4, [.ref g_l0, .ref g_l1, .ref g_l2, .ref g_l3, .int 0, .int 0])), (g_sp, .inr (4, [.ref g_px, .ref g_p1, .ref g_p2, .ref g_p3, .int 0, .int 0])), (g_px, .inr (0, [.ref g_pr, .int 0, .int 0])), (g_pr, .inl (g_cp, 3000, .inl (fun _ => 0))), (m_y0, .inl (m_ct, 3000, .inl (fun _ => 0))), (m_y4, .inl (m_co, 6000, .inl (fun _ => 0))), (m_y38, .inr (12, [.ref m_z1, .ref m_z2, .ref m_z3, .ref m_z4, .ref m_z5, .int 0, .long 0])), (m_z1, .inl (m_d1, 8, .inl m_f1)), (m_z2, .inl (m_d2, 8, .inl (fun _ => 0))), (m_z3, .inl (m_d3, 64, .inl (fun _ => 0))), (m_z4, .inl (m_d4, 64, .inl m_f4)), (m_z5, .inl (m_d5, 64, .inl (fun _ => 0))), (m_y44, .inl (m_ch, 32, .inl (fun _ => 0)))] := hD
  have hw : r_2 = 0 := hw
  subst hw
  refine lv_icmp_eq (tgt := 522) hx hb dL_law_239 (by decide) (fun c_3 => ?_) (fun c_3 => absurd (by decide) c_3)
  refine lv_iinc (v := 6) (lv' := [(3, .int 6), (2, .ref mq), (1, .ref xq), (0, .ref b)]) hx hb dL_law_522 hl (k := 0) rfl (by decide) (by decide) rfl (fun ls hl => ?_)
  refine lv_goto (tgt := 18) hx hb dL_law_525 (by decide) ?_
  refine lv_iload_n hx hb dL_law_18 rfl (lv_at hl 0 rfl) ?_
  refine lv_aload_n hx hb dL_law_19 rfl (lv_at hl 3 rfl) ?_
  refine va_slen hx hb hX hbl hbA hS dL_law_20 ?_
  refine W.eq (g2 := F0 m 21 ls [.int 6, .int 6]) rfl ?_
  refine lv_bipush (v := 6) hx hb dL_law_21 (by decide) ?_
  refine lv_isub hx hb dL_law_23 ?_
  refine lv_topi (fun x_4 ex_4 => ?_)
  obtain rfl : x_4 = 0 := ex_4.trans (by decide)
  refine lv_icmp_gt (tgt := 528) hx hb dL_law_24 (by decide) (fun c_5 => ?_) (fun c_5 => absurd (by decide) c_5)
  refine lv_iconst (v := 1) hx hb dL_law_528 (by decide) ?_
  refine va_forget (fun q hq => hS.2.2 q hq) ?_
  refine W.widen (k := 600000) (n := 7302249) (by omega) (by omega) ?_
  exact lw_ret hx hb hr hlocks dL_law_529
