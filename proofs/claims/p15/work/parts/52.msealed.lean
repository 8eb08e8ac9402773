theorem dX15_fieldsPlain_0 : decode cX15_fieldsPlain 0 = .ok (.aload_n 0, 1) := by decide +kernel
theorem dX15_fieldsPlain_1 : decode cX15_fieldsPlain 1 = .ok (.getfield 91, 3) := by decide +kernel
theorem dX15_fieldsPlain_4 : decode cX15_fieldsPlain 4 = .ok (.iconst 0, 1) := by decide +kernel
theorem dX15_fieldsPlain_5 : decode cX15_fieldsPlain 5 = .ok (.putfield 190, 3) := by decide +kernel
theorem dX15_fieldsPlain_8 : decode cX15_fieldsPlain 8 = .ok (.aload_n 0, 1) := by decide +kernel
theorem dX15_fieldsPlain_9 : decode cX15_fieldsPlain 9 = .ok (.getfield 150, 3) := by decide +kernel
theorem dX15_fieldsPlain_12 : decode cX15_fieldsPlain 12 = .ok (.iconst 0, 1) := by decide +kernel
theorem dX15_fieldsPlain_13 : decode cX15_fieldsPlain 13 = .ok (.invokestatic 541, 3) := by decide +kernel
theorem dX15_fieldsPlain_16 : decode cX15_fieldsPlain 16 = .ok (.aload_n 0, 1) := by decide +kernel
theorem dX15_fieldsPlain_17 : decode cX15_fieldsPlain 17 = .ok (.getfield 97, 3) := by decide +kernel
theorem dX15_fieldsPlain_20 : decode cX15_fieldsPlain 20 = .ok (.ldc_w 486, 3) := by decide +kernel
theorem dX15_fieldsPlain_23 : decode cX15_fieldsPlain 23 = .ok (.invokevirtual 399, 3) := by decide +kernel
theorem dX15_fieldsPlain_26 : decode cX15_fieldsPlain 26 = .ok (.istore_n 2, 1) := by decide +kernel
theorem dX15_fieldsPlain_27 : decode cX15_fieldsPlain 27 = .ok (.aload_n 0, 1) := by decide +kernel
theorem dX15_fieldsPlain_28 : decode cX15_fieldsPlain 28 = .ok (.getfield 97, 3) := by decide +kernel
theorem dX15_fieldsPlain_31 : decode cX15_fieldsPlain 31 = .ok (.getfield 409, 3) := by decide +kernel
theorem dX15_fieldsPlain_34 : decode cX15_fieldsPlain 34 = .ok (.getfield 295, 3) := by decide +kernel
theorem dX15_fieldsPlain_37 : decode cX15_fieldsPlain 37 = .ok (.astore_n 3, 1) := by decide +kernel
theorem dX15_fieldsPlain_38 : decode cX15_fieldsPlain 38 = .ok (.aload_n 0, 1) := by decide +kernel
theorem dX15_fieldsPlain_39 : decode cX15_fieldsPlain 39 = .ok (.getfield 97, 3) := by decide +kernel
theorem dX15_fieldsPlain_42 : decode cX15_fieldsPlain 42 = .ok (.getfield 403, 3) := by decide +kernel
theorem dX15_fieldsPlain_45 : decode cX15_fieldsPlain 45 = .ok (.iload_n 2, 1) := by decide +kernel
theorem dX15_fieldsPlain_46 : decode cX15_fieldsPlain 46 = .ok (.iaload, 1) := by decide +kernel
theorem dX15_fieldsPlain_47 : decode cX15_fieldsPlain 47 = .ok (.iconst 1, 1) := by decide +kernel
theorem dX15_fieldsPlain_48 : decode cX15_fieldsPlain 48 = .ok (.iadd, 1) := by decide +kernel
theorem dX15_fieldsPlain_49 : decode cX15_fieldsPlain 49 = .ok (.istore 4, 2) := by decide +kernel
theorem dX15_fieldsPlain_51 : decode cX15_fieldsPlain 51 = .ok (.iload 4, 2) := by decide +kernel
theorem dX15_fieldsPlain_53 : decode cX15_fieldsPlain 53 = .ok (.aload_n 0, 1) := by decide +kernel
theorem dX15_fieldsPlain_54 : decode cX15_fieldsPlain 54 = .ok (.getfield 97, 3) := by decide +kernel
theorem dX15_fieldsPlain_57 : decode cX15_fieldsPlain 57 = .ok (.getfield 406, 3) := by decide +kernel
theorem dX15_fieldsPlain_60 : decode cX15_fieldsPlain 60 = .ok (.iload_n 2, 1) := by decide +kernel
theorem dX15_fieldsPlain_61 : decode cX15_fieldsPlain 61 = .ok (.iaload, 1) := by decide +kernel
theorem dX15_fieldsPlain_62 : decode cX15_fieldsPlain 62 = .ok (.if_icmp .gt 122, 3) := by decide +kernel
theorem dX15_fieldsPlain_65 : decode cX15_fieldsPlain 65 = .ok (.iload 4, 2) := by decide +kernel
theorem dX15_fieldsPlain_67 : decode cX15_fieldsPlain 67 = .ok (.istore 5, 2) := by decide +kernel
theorem dX15_fieldsPlain_69 : decode cX15_fieldsPlain 69 = .ok (.iload 5, 2) := by decide +kernel
theorem dX15_fieldsPlain_71 : decode cX15_fieldsPlain 71 = .ok (.aload_n 0, 1) := by decide +kernel
theorem dX15_fieldsPlain_72 : decode cX15_fieldsPlain 72 = .ok (.getfield 97, 3) := by decide +kernel
theorem dX15_fieldsPlain_75 : decode cX15_fieldsPlain 75 = .ok (.getfield 406, 3) := by decide +kernel
theorem dX15_fieldsPlain_78 : decode cX15_fieldsPlain 78 = .ok (.iload_n 2, 1) := by decide +kernel
theorem dX15_fieldsPlain_79 : decode cX15_fieldsPlain 79 = .ok (.iaload, 1) := by decide +kernel
theorem dX15_fieldsPlain_80 : decode cX15_fieldsPlain 80 = .ok (.if_icmp .ge 18, 3) := by decide +kernel
theorem dX15_fieldsPlain_83 : decode cX15_fieldsPlain 83 = .ok (.aload_n 3, 1) := by decide +kernel
theorem dX15_fieldsPlain_84 : decode cX15_fieldsPlain 84 = .ok (.iload 5, 2) := by decide +kernel
theorem dX15_fieldsPlain_86 : decode cX15_fieldsPlain 86 = .ok (.baload, 1) := by decide +kernel
theorem dX15_fieldsPlain_87 : decode cX15_fieldsPlain 87 = .ok (.bipush 58, 2) := by decide +kernel
theorem dX15_fieldsPlain_89 : decode cX15_fieldsPlain 89 = .ok (.if_icmp .eq 9, 3) := by decide +kernel
theorem dX15_fieldsPlain_92 : decode cX15_fieldsPlain 92 = .ok (.iinc 5 1, 3) := by decide +kernel
theorem dX15_fieldsPlain_95 : decode cX15_fieldsPlain 95 = .ok (.goto (-26), 3) := by decide +kernel
theorem dX15_fieldsPlain_98 : decode cX15_fieldsPlain 98 = .ok (.aload_n 0, 1) := by decide +kernel
theorem dX15_fieldsPlain_99 : decode cX15_fieldsPlain 99 = .ok (.getfield 355, 3) := by decide +kernel
theorem dX15_fieldsPlain_102 : decode cX15_fieldsPlain 102 = .ok (.iconst 1, 1) := by decide +kernel
theorem dX15_fieldsPlain_103 : decode cX15_fieldsPlain 103 = .ok (.isub, 1) := by decide +kernel
theorem dX15_fieldsPlain_104 : decode cX15_fieldsPlain 104 = .ok (.istore 6, 2) := by decide +kernel
theorem dX15_fieldsPlain_106 : decode cX15_fieldsPlain 106 = .ok (.iload 6, 2) := by decide +kernel
theorem dX15_fieldsPlain_108 : decode cX15_fieldsPlain 108 = .ok (.ifCond .lt 33, 3) := by decide +kernel
theorem dX15_fieldsPlain_111 : decode cX15_fieldsPlain 111 = .ok (.aload_n 0, 1) := by decide +kernel
theorem dX15_fieldsPlain_112 : decode cX15_fieldsPlain 112 = .ok (.getfield 150, 3) := by decide +kernel
theorem dX15_fieldsPlain_115 : decode cX15_fieldsPlain 115 = .ok (.iload 6, 2) := by decide +kernel
theorem dX15_fieldsPlain_117 : decode cX15_fieldsPlain 117 = .ok (.baload, 1) := by decide +kernel
theorem dX15_fieldsPlain_118 : decode cX15_fieldsPlain 118 = .ok (.ifCond .ne 17, 3) := by decide +kernel
theorem dX15_fieldsPlain_121 : decode cX15_fieldsPlain 121 = .ok (.aload_n 0, 1) := by decide +kernel
theorem dX15_fieldsPlain_122 : decode cX15_fieldsPlain 122 = .ok (.iload 6, 2) := by decide +kernel
theorem dX15_fieldsPlain_124 : decode cX15_fieldsPlain 124 = .ok (.aload_n 3, 1) := by decide +kernel
theorem dX15_fieldsPlain_125 : decode cX15_fieldsPlain 125 = .ok (.iload 4, 2) := by decide +kernel
theorem dX15_fieldsPlain_127 : decode cX15_fieldsPlain 127 = .ok (.iload 5, 2) := by decide +kernel
theorem dX15_fieldsPlain_129 : decode cX15_fieldsPlain 129 = .ok (.invokevirtual 544, 3) := by decide +kernel
theorem dX15_fieldsPlain_132 : decode cX15_fieldsPlain 132 = .ok (.ifCond .ne 9, 3) := by decide +kernel
theorem dX15_fieldsPlain_135 : decode cX15_fieldsPlain 135 = .ok (.iinc 6 (-1), 3) := by decide +kernel
theorem dX15_fieldsPlain_138 : decode cX15_fieldsPlain 138 = .ok (.goto (-32), 3) := by decide +kernel
theorem dX15_fieldsPlain_141 : decode cX15_fieldsPlain 141 = .ok (.iload 6, 2) := by decide +kernel
theorem dX15_fieldsPlain_143 : decode cX15_fieldsPlain 143 = .ok (.ifCond .lt 32, 3) := by decide +kernel
theorem dX15_fieldsPlain_146 : decode cX15_fieldsPlain 146 = .ok (.aload_n 0, 1) := by decide +kernel
theorem dX15_fieldsPlain_147 : decode cX15_fieldsPlain 147 = .ok (.getfield 150, 3) := by decide +kernel
theorem dX15_fieldsPlain_150 : decode cX15_fieldsPlain 150 = .ok (.iload 6, 2) := by decide +kernel
theorem dX15_fieldsPlain_152 : decode cX15_fieldsPlain 152 = .ok (.iconst 1, 1) := by decide +kernel
theorem dX15_fieldsPlain_153 : decode cX15_fieldsPlain 153 = .ok (.bastore, 1) := by decide +kernel
theorem dX15_fieldsPlain_154 : decode cX15_fieldsPlain 154 = .ok (.aload_n 0, 1) := by decide +kernel
theorem dX15_fieldsPlain_155 : decode cX15_fieldsPlain 155 = .ok (.iload 6, 2) := by decide +kernel
theorem dX15_fieldsPlain_157 : decode cX15_fieldsPlain 157 = .ok (.aload_n 0, 1) := by decide +kernel
theorem dX15_fieldsPlain_158 : decode cX15_fieldsPlain 158 = .ok (.getfield 491, 3) := by decide +kernel
theorem dX15_fieldsPlain_161 : decode cX15_fieldsPlain 161 = .ok (.iconst 0, 1) := by decide +kernel
theorem dX15_fieldsPlain_162 : decode cX15_fieldsPlain 162 = .ok (.iconst 0, 1) := by decide +kernel
theorem dX15_fieldsPlain_163 : decode cX15_fieldsPlain 163 = .ok (.invokevirtual 395, 3) := by decide +kernel
theorem dX15_fieldsPlain_166 : decode cX15_fieldsPlain 166 = .ok (.aload_n 0, 1) := by decide +kernel
theorem dX15_fieldsPlain_167 : decode cX15_fieldsPlain 167 = .ok (.getfield 91, 3) := by decide +kernel
theorem dX15_fieldsPlain_170 : decode cX15_fieldsPlain 170 = .ok (.bipush 10, 2) := by decide +kernel
theorem dX15_fieldsPlain_172 : decode cX15_fieldsPlain 172 = .ok (.invokevirtual 292, 3) := by decide +kernel
theorem dX15_fieldsPlain_175 : decode cX15_fieldsPlain 175 = .ok (.iload 5, 2) := by decide +kernel
theorem dX15_fieldsPlain_177 : decode cX15_fieldsPlain 177 = .ok (.iconst 1, 1) := by decide +kernel
theorem dX15_fieldsPlain_178 : decode cX15_fieldsPlain 178 = .ok (.iadd, 1) := by decide +kernel
theorem dX15_fieldsPlain_179 : decode cX15_fieldsPlain 179 = .ok (.istore 4, 2) := by decide +kernel
theorem dX15_fieldsPlain_181 : decode cX15_fieldsPlain 181 = .ok (.goto (-130), 3) := by decide +kernel
theorem dX15_fieldsPlain_184 : decode cX15_fieldsPlain 184 = .ok (.aload_n 0, 1) := by decide +kernel
theorem dX15_fieldsPlain_185 : decode cX15_fieldsPlain 185 = .ok (.getfield 76, 3) := by decide +kernel
theorem dX15_fieldsPlain_188 : decode cX15_fieldsPlain 188 = .ok (.iload_n 1, 1) := by decide +kernel
theorem dX15_fieldsPlain_189 : decode cX15_fieldsPlain 189 = .ok (.iaload, 1) := by decide +kernel
theorem dX15_fieldsPlain_190 : decode cX15_fieldsPlain 190 = .ok (.iconst 1, 1) := by decide +kernel
theorem dX15_fieldsPlain_191 : decode cX15_fieldsPlain 191 = .ok (.iadd, 1) := by decide +kernel
theorem dX15_fieldsPlain_192 : decode cX15_fieldsPlain 192 = .ok (.istore 4, 2) := by decide +kernel
theorem dX15_fieldsPlain_194 : decode cX15_fieldsPlain 194 = .ok (.iconst 0, 1) := by decide +kernel
theorem dX15_fieldsPlain_195 : decode cX15_fieldsPlain 195 = .ok (.istore 5, 2) := by decide +kernel
theorem dX15_fieldsPlain_197 : decode cX15_fieldsPlain 197 = .ok (.iconst 0, 1) := by decide +kernel
theorem dX15_fieldsPlain_198 : decode cX15_fieldsPlain 198 = .ok (.istore 6, 2) := by decide +kernel
theorem dX15_fieldsPlain_200 : decode cX15_fieldsPlain 200 = .ok (.aload_n 0, 1) := by decide +kernel
theorem dX15_fieldsPlain_201 : decode cX15_fieldsPlain 201 = .ok (.iload_n 1, 1) := by decide +kernel
theorem dX15_fieldsPlain_202 : decode cX15_fieldsPlain 202 = .ok (.invokevirtual 382, 3) := by decide +kernel
theorem dX15_fieldsPlain_205 : decode cX15_fieldsPlain 205 = .ok (.istore 7, 2) := by decide +kernel
theorem dX15_fieldsPlain_207 : decode cX15_fieldsPlain 207 = .ok (.iload 4, 2) := by decide +kernel
theorem dX15_fieldsPlain_209 : decode cX15_fieldsPlain 209 = .ok (.iload 7, 2) := by decide +kernel
theorem dX15_fieldsPlain_211 : decode cX15_fieldsPlain 211 = .ok (.if_icmp .ge 131, 3) := by decide +kernel
theorem dX15_fieldsPlain_214 : decode cX15_fieldsPlain 214 = .ok (.iload 4, 2) := by decide +kernel
theorem dX15_fieldsPlain_216 : decode cX15_fieldsPlain 216 = .ok (.istore 8, 2) := by decide +kernel
theorem dX15_fieldsPlain_218 : decode cX15_fieldsPlain 218 = .ok (.iload 4, 2) := by decide +kernel
theorem dX15_fieldsPlain_220 : decode cX15_fieldsPlain 220 = .ok (.istore 9, 2) := by decide +kernel
theorem dX15_fieldsPlain_222 : decode cX15_fieldsPlain 222 = .ok (.iconst 0, 1) := by decide +kernel
theorem dX15_fieldsPlain_223 : decode cX15_fieldsPlain 223 = .ok (.istore 10, 2) := by decide +kernel
theorem dX15_fieldsPlain_225 : decode cX15_fieldsPlain 225 = .ok (.iload 8, 2) := by decide +kernel
theorem dX15_fieldsPlain_227 : decode cX15_fieldsPlain 227 = .ok (.iload 7, 2) := by decide +kernel
theorem dX15_fieldsPlain_229 : decode cX15_fieldsPlain 229 = .ok (.if_icmp .ge 21, 3) := by decide +kernel
theorem dX15_fieldsPlain_232 : decode cX15_fieldsPlain 232 = .ok (.aload_n 0, 1) := by decide +kernel
theorem dX15_fieldsPlain_233 : decode cX15_fieldsPlain 233 = .ok (.getfield 70, 3) := by decide +kernel
theorem dX15_fieldsPlain_236 : decode cX15_fieldsPlain 236 = .ok (.iload 8, 2) := by decide +kernel
theorem dX15_fieldsPlain_238 : decode cX15_fieldsPlain 238 = .ok (.baload, 1) := by decide +kernel
theorem dX15_fieldsPlain_239 : decode cX15_fieldsPlain 239 = .ok (.bipush 59, 2) := by decide +kernel
theorem dX15_fieldsPlain_241 : decode cX15_fieldsPlain 241 = .ok (.if_icmp .eq 9, 3) := by decide +kernel
theorem dX15_fieldsPlain_244 : decode cX15_fieldsPlain 244 = .ok (.iinc 8 1, 3) := by decide +kernel
theorem dX15_fieldsPlain_247 : decode cX15_fieldsPlain 247 = .ok (.goto (-22), 3) := by decide +kernel
theorem dX15_fieldsPlain_250 : decode cX15_fieldsPlain 250 = .ok (.iload 9, 2) := by decide +kernel
theorem dX15_fieldsPlain_252 : decode cX15_fieldsPlain 252 = .ok (.iload 8, 2) := by decide +kernel
theorem dX15_fieldsPlain_254 : decode cX15_fieldsPlain 254 = .ok (.if_icmp .ge 62, 3) := by decide +kernel
theorem dX15_fieldsPlain_257 : decode cX15_fieldsPlain 257 = .ok (.aload_n 0, 1) := by decide +kernel
theorem dX15_fieldsPlain_258 : decode cX15_fieldsPlain 258 = .ok (.getfield 70, 3) := by decide +kernel
theorem dX15_fieldsPlain_261 : decode cX15_fieldsPlain 261 = .ok (.iload 9, 2) := by decide +kernel
theorem dX15_fieldsPlain_263 : decode cX15_fieldsPlain 263 = .ok (.baload, 1) := by decide +kernel
theorem dX15_fieldsPlain_264 : decode cX15_fieldsPlain 264 = .ok (.bipush 61, 2) := by decide +kernel
theorem dX15_fieldsPlain_266 : decode cX15_fieldsPlain 266 = .ok (.if_icmp .eq 50, 3) := by decide +kernel
theorem dX15_fieldsPlain_269 : decode cX15_fieldsPlain 269 = .ok (.aload_n 0, 1) := by decide +kernel
theorem dX15_fieldsPlain_270 : decode cX15_fieldsPlain 270 = .ok (.getfield 70, 3) := by decide +kernel
theorem dX15_fieldsPlain_273 : decode cX15_fieldsPlain 273 = .ok (.iload 9, 2) := by decide +kernel
theorem dX15_fieldsPlain_275 : decode cX15_fieldsPlain 275 = .ok (.baload, 1) := by decide +kernel
theorem dX15_fieldsPlain_276 : decode cX15_fieldsPlain 276 = .ok (.invokestatic 347, 3) := by decide +kernel
theorem dX15_fieldsPlain_279 : decode cX15_fieldsPlain 279 = .ok (.ifCond .ne 31, 3) := by decide +kernel
theorem dX15_fieldsPlain_282 : decode cX15_fieldsPlain 282 = .ok (.aload_n 0, 1) := by decide +kernel
theorem dX15_fieldsPlain_283 : decode cX15_fieldsPlain 283 = .ok (.getfield 70, 3) := by decide +kernel
theorem dX15_fieldsPlain_286 : decode cX15_fieldsPlain 286 = .ok (.iload 9, 2) := by decide +kernel
theorem dX15_fieldsPlain_288 : decode cX15_fieldsPlain 288 = .ok (.baload, 1) := by decide +kernel
theorem dX15_fieldsPlain_289 : decode cX15_fieldsPlain 289 = .ok (.bipush 10, 2) := by decide +kernel
theorem dX15_fieldsPlain_291 : decode cX15_fieldsPlain 291 = .ok (.if_icmp .eq 19, 3) := by decide +kernel
theorem dX15_fieldsPlain_294 : decode cX15_fieldsPlain 294 = .ok (.sipush 256, 3) := by decide +kernel
theorem dX15_fieldsPlain_297 : decode cX15_fieldsPlain 297 = .ok (.iload 10, 2) := by decide +kernel
theorem dX15_fieldsPlain_299 : decode cX15_fieldsPlain 299 = .ok (.imul, 1) := by decide +kernel
theorem dX15_fieldsPlain_300 : decode cX15_fieldsPlain 300 = .ok (.aload_n 0, 1) := by decide +kernel
theorem dX15_fieldsPlain_301 : decode cX15_fieldsPlain 301 = .ok (.getfield 70, 3) := by decide +kernel
theorem dX15_fieldsPlain_304 : decode cX15_fieldsPlain 304 = .ok (.iload 9, 2) := by decide +kernel
theorem dX15_fieldsPlain_306 : decode cX15_fieldsPlain 306 = .ok (.baload, 1) := by decide +kernel
theorem dX15_fieldsPlain_307 : decode cX15_fieldsPlain 307 = .ok (.iadd, 1) := by decide +kernel
theorem dX15_fieldsPlain_308 : decode cX15_fieldsPlain 308 = .ok (.istore 10, 2) := by decide +kernel
theorem dX15_fieldsPlain_310 : decode cX15_fieldsPlain 310 = .ok (.iinc 9 1, 3) := by decide +kernel
theorem dX15_fieldsPlain_313 : decode cX15_fieldsPlain 313 = .ok (.goto (-63), 3) := by decide +kernel
theorem dX15_fieldsPlain_316 : decode cX15_fieldsPlain 316 = .ok (.iload 10, 2) := by decide +kernel
theorem dX15_fieldsPlain_318 : decode cX15_fieldsPlain 318 = .ok (.bipush 98, 2) := by decide +kernel
theorem dX15_fieldsPlain_320 : decode cX15_fieldsPlain 320 = .ok (.if_icmp .ne 13, 3) := by decide +kernel
theorem dX15_fieldsPlain_323 : decode cX15_fieldsPlain 323 = .ok (.iload 9, 2) := by decide +kernel
theorem dX15_fieldsPlain_325 : decode cX15_fieldsPlain 325 = .ok (.iconst 1, 1) := by decide +kernel
theorem dX15_fieldsPlain_326 : decode cX15_fieldsPlain 326 = .ok (.iadd, 1) := by decide +kernel
theorem dX15_fieldsPlain_327 : decode cX15_fieldsPlain 327 = .ok (.istore 5, 2) := by decide +kernel
theorem dX15_fieldsPlain_329 : decode cX15_fieldsPlain 329 = .ok (.iload 8, 2) := by decide +kernel
theorem dX15_fieldsPlain_331 : decode cX15_fieldsPlain 331 = .ok (.istore 6, 2) := by decide +kernel
theorem dX15_fieldsPlain_333 : decode cX15_fieldsPlain 333 = .ok (.iload 8, 2) := by decide +kernel
theorem dX15_fieldsPlain_335 : decode cX15_fieldsPlain 335 = .ok (.iconst 1, 1) := by decide +kernel
theorem dX15_fieldsPlain_336 : decode cX15_fieldsPlain 336 = .ok (.iadd, 1) := by decide +kernel
theorem dX15_fieldsPlain_337 : decode cX15_fieldsPlain 337 = .ok (.istore 4, 2) := by decide +kernel
theorem dX15_fieldsPlain_339 : decode cX15_fieldsPlain 339 = .ok (.goto (-132), 3) := by decide +kernel
theorem dX15_fieldsPlain_342 : decode cX15_fieldsPlain 342 = .ok (.aload_n 0, 1) := by decide +kernel
theorem dX15_fieldsPlain_343 : decode cX15_fieldsPlain 343 = .ok (.iload_n 1, 1) := by decide +kernel
theorem dX15_fieldsPlain_344 : decode cX15_fieldsPlain 344 = .ok (.aload_n 0, 1) := by decide +kernel
theorem dX15_fieldsPlain_345 : decode cX15_fieldsPlain 345 = .ok (.getfield 491, 3) := by decide +kernel
theorem dX15_fieldsPlain_348 : decode cX15_fieldsPlain 348 = .ok (.iload 5, 2) := by decide +kernel
theorem dX15_fieldsPlain_350 : decode cX15_fieldsPlain 350 = .ok (.iload 6, 2) := by decide +kernel
theorem dX15_fieldsPlain_352 : decode cX15_fieldsPlain 352 = .ok (.invokevirtual 395, 3) := by decide +kernel
theorem dX15_fieldsPlain_355 : decode cX15_fieldsPlain 355 = .ok (.return_, 1) := by decide +kernel
theorem dX15_isAlikeTo_0 : decode cX15_isAlikeTo 0 = .ok (.aload_n 0, 1) := by decide +kernel
theorem dX15_isAlikeTo_1 : decode cX15_isAlikeTo 1 = .ok (.getfield 76, 3) := by decide +kernel
theorem dX15_isAlikeTo_4 : decode cX15_isAlikeTo 4 = .ok (.iload_n 1, 1) := by decide +kernel
theorem dX15_isAlikeTo_5 : decode cX15_isAlikeTo 5 = .ok (.iaload, 1) := by decide +kernel
theorem dX15_isAlikeTo_6 : decode cX15_isAlikeTo 6 = .ok (.aload_n 0, 1) := by decide +kernel
theorem dX15_isAlikeTo_7 : decode cX15_isAlikeTo 7 = .ok (.getfield 73, 3) := by decide +kernel
theorem dX15_isAlikeTo_10 : decode cX15_isAlikeTo 10 = .ok (.iload_n 1, 1) := by decide +kernel
theorem dX15_isAlikeTo_11 : decode cX15_isAlikeTo 11 = .ok (.iaload, 1) := by decide +kernel
theorem dX15_isAlikeTo_12 : decode cX15_isAlikeTo 12 = .ok (.isub, 1) := by decide +kernel
theorem dX15_isAlikeTo_13 : decode cX15_isAlikeTo 13 = .ok (.iload 4, 2) := by decide +kernel
theorem dX15_isAlikeTo_15 : decode cX15_isAlikeTo 15 = .ok (.iload_n 3, 1) := by decide +kernel
theorem dX15_isAlikeTo_16 : decode cX15_isAlikeTo 16 = .ok (.isub, 1) := by decide +kernel
theorem dX15_isAlikeTo_17 : decode cX15_isAlikeTo 17 = .ok (.if_icmp .eq 5, 3) := by decide +kernel
theorem dX15_isAlikeTo_20 : decode cX15_isAlikeTo 20 = .ok (.iconst 0, 1) := by decide +kernel
theorem dX15_isAlikeTo_21 : decode cX15_isAlikeTo 21 = .ok (.ireturn, 1) := by decide +kernel
theorem dX15_isAlikeTo_22 : decode cX15_isAlikeTo 22 = .ok (.iconst 0, 1) := by decide +kernel
theorem dX15_isAlikeTo_23 : decode cX15_isAlikeTo 23 = .ok (.istore 5, 2) := by decide +kernel
theorem dX15_isAlikeTo_25 : decode cX15_isAlikeTo 25 = .ok (.iload 5, 2) := by decide +kernel
theorem dX15_isAlikeTo_27 : decode cX15_isAlikeTo 27 = .ok (.iload 4, 2) := by decide +kernel
theorem dX15_isAlikeTo_29 : decode cX15_isAlikeTo 29 = .ok (.iload_n 3, 1) := by decide +kernel
theorem dX15_isAlikeTo_30 : decode cX15_isAlikeTo 30 = .ok (.isub, 1) := by decide +kernel
theorem dX15_isAlikeTo_31 : decode cX15_isAlikeTo 31 = .ok (.if_icmp .ge 40, 3) := by decide +kernel
theorem dX15_isAlikeTo_34 : decode cX15_isAlikeTo 34 = .ok (.aload_n 0, 1) := by decide +kernel
theorem dX15_isAlikeTo_35 : decode cX15_isAlikeTo 35 = .ok (.getfield 70, 3) := by decide +kernel
theorem dX15_isAlikeTo_38 : decode cX15_isAlikeTo 38 = .ok (.aload_n 0, 1) := by decide +kernel
theorem dX15_isAlikeTo_39 : decode cX15_isAlikeTo 39 = .ok (.getfield 73, 3) := by decide +kernel
theorem dX15_isAlikeTo_42 : decode cX15_isAlikeTo 42 = .ok (.iload_n 1, 1) := by decide +kernel
theorem dX15_isAlikeTo_43 : decode cX15_isAlikeTo 43 = .ok (.iaload, 1) := by decide +kernel
theorem dX15_isAlikeTo_44 : decode cX15_isAlikeTo 44 = .ok (.iload 5, 2) := by decide +kernel
theorem dX15_isAlikeTo_46 : decode cX15_isAlikeTo 46 = .ok (.iadd, 1) := by decide +kernel
theorem dX15_isAlikeTo_47 : decode cX15_isAlikeTo 47 = .ok (.baload, 1) := by decide +kernel
theorem dX15_isAlikeTo_48 : decode cX15_isAlikeTo 48 = .ok (.invokestatic 21, 3) := by decide +kernel
theorem dX15_isAlikeTo_51 : decode cX15_isAlikeTo 51 = .ok (.aload_n 2, 1) := by decide +kernel
theorem dX15_isAlikeTo_52 : decode cX15_isAlikeTo 52 = .ok (.iload_n 3, 1) := by decide +kernel
theorem dX15_isAlikeTo_53 : decode cX15_isAlikeTo 53 = .ok (.iload 5, 2) := by decide +kernel
theorem dX15_isAlikeTo_55 : decode cX15_isAlikeTo 55 = .ok (.iadd, 1) := by decide +kernel
theorem dX15_isAlikeTo_56 : decode cX15_isAlikeTo 56 = .ok (.baload, 1) := by decide +kernel
theorem dX15_isAlikeTo_57 : decode cX15_isAlikeTo 57 = .ok (.invokestatic 21, 3) := by decide +kernel
theorem dX15_isAlikeTo_60 : decode cX15_isAlikeTo 60 = .ok (.if_icmp .eq 5, 3) := by decide +kernel
theorem dX15_isAlikeTo_63 : decode cX15_isAlikeTo 63 = .ok (.iconst 0, 1) := by decide +kernel
theorem dX15_isAlikeTo_64 : decode cX15_isAlikeTo 64 = .ok (.ireturn, 1) := by decide +kernel
theorem dX15_isAlikeTo_65 : decode cX15_isAlikeTo 65 = .ok (.iinc 5 1, 3) := by decide +kernel
theorem dX15_isAlikeTo_68 : decode cX15_isAlikeTo 68 = .ok (.goto (-43), 3) := by decide +kernel
theorem dX15_isAlikeTo_71 : decode cX15_isAlikeTo 71 = .ok (.iconst 1, 1) := by decide +kernel
theorem dX15_isAlikeTo_72 : decode cX15_isAlikeTo 72 = .ok (.ireturn, 1) := by decide +kernel
theorem dX15_isPower_0 : decode cX15_isPower 0 = .ok (.aload_n 0, 1) := by decide +kernel
theorem dX15_isPower_1 : decode cX15_isPower 1 = .ok (.getfield 138, 3) := by decide +kernel
theorem dX15_isPower_4 : decode cX15_isPower 4 = .ok (.aload_n 0, 1) := by decide +kernel
theorem dX15_isPower_5 : decode cX15_isPower 5 = .ok (.getfield 114, 3) := by decide +kernel
theorem dX15_isPower_8 : decode cX15_isPower 8 = .ok (.invokestatic 548, 3) := by decide +kernel
theorem dX15_isPower_11 : decode cX15_isPower 11 = .ok (.aload_n 0, 1) := by decide +kernel
theorem dX15_isPower_12 : decode cX15_isPower 12 = .ok (.getfield 135, 3) := by decide +kernel
theorem dX15_isPower_15 : decode cX15_isPower 15 = .ok (.aload_n 0, 1) := by decide +kernel
theorem dX15_isPower_16 : decode cX15_isPower 16 = .ok (.getfield 120, 3) := by decide +kernel
theorem dX15_isPower_19 : decode cX15_isPower 19 = .ok (.invokestatic 548, 3) := by decide +kernel
theorem dX15_isPower_22 : decode cX15_isPower 22 = .ok (.aload_n 0, 1) := by decide +kernel
theorem dX15_isPower_23 : decode cX15_isPower 23 = .ok (.aload_n 0, 1) := by decide +kernel
theorem dX15_isPower_24 : decode cX15_isPower 24 = .ok (.getfield 120, 3) := by decide +kernel
theorem dX15_isPower_27 : decode cX15_isPower 27 = .ok (.bipush 32, 2) := by decide +kernel
theorem dX15_isPower_29 : decode cX15_isPower 29 = .ok (.aload_n 0, 1) := by decide +kernel
theorem dX15_isPower_30 : decode cX15_isPower 30 = .ok (.getfield 117, 3) := by decide +kernel
theorem dX15_isPower_33 : decode cX15_isPower 33 = .ok (.invokevirtual 437, 3) := by decide +kernel
theorem dX15_isPower_36 : decode cX15_isPower 36 = .ok (.aload_n 0, 1) := by decide +kernel
theorem dX15_isPower_37 : decode cX15_isPower 37 = .ok (.getfield 117, 3) := by decide +kernel
theorem dX15_isPower_40 : decode cX15_isPower 40 = .ok (.iconst 0, 1) := by decide +kernel
theorem dX15_isPower_41 : decode cX15_isPower 41 = .ok (.aload_n 0, 1) := by decide +kernel
theorem dX15_isPower_42 : decode cX15_isPower 42 = .ok (.getfield 120, 3) := by decide +kernel
theorem dX15_isPower_45 : decode cX15_isPower 45 = .ok (.iconst 0, 1) := by decide +kernel
theorem dX15_isPower_46 : decode cX15_isPower 46 = .ok (.bipush 33, 2) := by decide +kernel
theorem dX15_isPower_48 : decode cX15_isPower 48 = .ok (.invokestatic 358, 3) := by decide +kernel
theorem dX15_isPower_51 : decode cX15_isPower 51 = .ok (.iconst 0, 1) := by decide +kernel
theorem dX15_isPower_52 : decode cX15_isPower 52 = .ok (.istore_n 1, 1) := by decide +kernel
theorem dX15_isPower_53 : decode cX15_isPower 53 = .ok (.iload_n 1, 1) := by decide +kernel
theorem dX15_isPower_54 : decode cX15_isPower 54 = .ok (.bipush 16, 2) := by decide +kernel
theorem dX15_isPower_56 : decode cX15_isPower 56 = .ok (.if_icmp .ge 32, 3) := by decide +kernel
theorem dX15_isPower_59 : decode cX15_isPower 59 = .ok (.aload_n 0, 1) := by decide +kernel
theorem dX15_isPower_60 : decode cX15_isPower 60 = .ok (.getfield 117, 3) := by decide +kernel
theorem dX15_isPower_63 : decode cX15_isPower 63 = .ok (.iconst 0, 1) := by decide +kernel
theorem dX15_isPower_64 : decode cX15_isPower 64 = .ok (.aload_n 0, 1) := by decide +kernel
theorem dX15_isPower_65 : decode cX15_isPower 65 = .ok (.getfield 126, 3) := by decide +kernel
theorem dX15_isPower_68 : decode cX15_isPower 68 = .ok (.iconst 0, 1) := by decide +kernel
theorem dX15_isPower_69 : decode cX15_isPower 69 = .ok (.bipush 33, 2) := by decide +kernel
theorem dX15_isPower_71 : decode cX15_isPower 71 = .ok (.invokestatic 358, 3) := by decide +kernel
theorem dX15_isPower_74 : decode cX15_isPower 74 = .ok (.aload_n 0, 1) := by decide +kernel
theorem dX15_isPower_75 : decode cX15_isPower 75 = .ok (.aload_n 0, 1) := by decide +kernel
theorem dX15_isPower_76 : decode cX15_isPower 76 = .ok (.getfield 126, 3) := by decide +kernel
theorem dX15_isPower_79 : decode cX15_isPower 79 = .ok (.invokevirtual 552, 3) := by decide +kernel
theorem dX15_isPower_82 : decode cX15_isPower 82 = .ok (.iinc 1 1, 3) := by decide +kernel
theorem dX15_isPower_85 : decode cX15_isPower 85 = .ok (.goto (-32), 3) := by decide +kernel
theorem dX15_isPower_88 : decode cX15_isPower 88 = .ok (.aload_n 0, 1) := by decide +kernel
theorem dX15_isPower_89 : decode cX15_isPower 89 = .ok (.aload_n 0, 1) := by decide +kernel
theorem dX15_isPower_90 : decode cX15_isPower 90 = .ok (.getfield 120, 3) := by decide +kernel
theorem dX15_isPower_93 : decode cX15_isPower 93 = .ok (.invokevirtual 552, 3) := by decide +kernel
theorem dX15_isPower_96 : decode cX15_isPower 96 = .ok (.aload_n 0, 1) := by decide +kernel
theorem dX15_isPower_97 : decode cX15_isPower 97 = .ok (.getfield 141, 3) := by decide +kernel
theorem dX15_isPower_100 : decode cX15_isPower 100 = .ok (.iconst (-1), 1) := by decide +kernel
theorem dX15_isPower_101 : decode cX15_isPower 101 = .ok (.invokestatic 556, 3) := by decide +kernel
theorem dX15_isPower_104 : decode cX15_isPower 104 = .ok (.aload_n 0, 1) := by decide +kernel
theorem dX15_isPower_105 : decode cX15_isPower 105 = .ok (.getfield 141, 3) := by decide +kernel
theorem dX15_isPower_108 : decode cX15_isPower 108 = .ok (.iconst 0, 1) := by decide +kernel
theorem dX15_isPower_109 : decode cX15_isPower 109 = .ok (.iconst 0, 1) := by decide +kernel
theorem dX15_isPower_110 : decode cX15_isPower 110 = .ok (.bastore, 1) := by decide +kernel
theorem dX15_isPower_111 : decode cX15_isPower 111 = .ok (.aload_n 0, 1) := by decide +kernel
theorem dX15_isPower_112 : decode cX15_isPower 112 = .ok (.getfield 141, 3) := by decide +kernel
theorem dX15_isPower_115 : decode cX15_isPower 115 = .ok (.iconst 1, 1) := by decide +kernel
theorem dX15_isPower_116 : decode cX15_isPower 116 = .ok (.iconst 1, 1) := by decide +kernel
theorem dX15_isPower_117 : decode cX15_isPower 117 = .ok (.bastore, 1) := by decide +kernel
theorem dX15_isPower_118 : decode cX15_isPower 118 = .ok (.aload_n 0, 1) := by decide +kernel
theorem dX15_isPower_119 : decode cX15_isPower 119 = .ok (.getfield 141, 3) := by decide +kernel
theorem dX15_isPower_122 : decode cX15_isPower 122 = .ok (.bipush 12, 2) := by decide +kernel
theorem dX15_isPower_124 : decode cX15_isPower 124 = .ok (.iconst 0, 1) := by decide +kernel
theorem dX15_isPower_125 : decode cX15_isPower 125 = .ok (.bastore, 1) := by decide +kernel
theorem dX15_isPower_126 : decode cX15_isPower 126 = .ok (.iconst 0, 1) := by decide +kernel
theorem dX15_isPower_127 : decode cX15_isPower 127 = .ok (.istore_n 1, 1) := by decide +kernel
theorem dX15_isPower_128 : decode cX15_isPower 128 = .ok (.iload_n 1, 1) := by decide +kernel
theorem dX15_isPower_129 : decode cX15_isPower 129 = .ok (.bipush 19, 2) := by decide +kernel
theorem dX15_isPower_131 : decode cX15_isPower 131 = .ok (.if_icmp .ge 25, 3) := by decide +kernel
theorem dX15_isPower_134 : decode cX15_isPower 134 = .ok (.aload_n 0, 1) := by decide +kernel
theorem dX15_isPower_135 : decode cX15_isPower 135 = .ok (.getfield 141, 3) := by decide +kernel
theorem dX15_isPower_138 : decode cX15_isPower 138 = .ok (.bipush 13, 2) := by decide +kernel
theorem dX15_isPower_140 : decode cX15_isPower 140 = .ok (.iload_n 1, 1) := by decide +kernel
theorem dX15_isPower_141 : decode cX15_isPower 141 = .ok (.iadd, 1) := by decide +kernel
theorem dX15_isPower_142 : decode cX15_isPower 142 = .ok (.aload_n 0, 1) := by decide +kernel
theorem dX15_isPower_143 : decode cX15_isPower 143 = .ok (.getfield 154, 3) := by decide +kernel
theorem dX15_isPower_146 : decode cX15_isPower 146 = .ok (.iload_n 1, 1) := by decide +kernel
theorem dX15_isPower_147 : decode cX15_isPower 147 = .ok (.iaload, 1) := by decide +kernel
theorem dX15_isPower_148 : decode cX15_isPower 148 = .ok (.i2b, 1) := by decide +kernel
theorem dX15_isPower_149 : decode cX15_isPower 149 = .ok (.bastore, 1) := by decide +kernel
theorem dX15_isPower_150 : decode cX15_isPower 150 = .ok (.iinc 1 1, 3) := by decide +kernel
theorem dX15_isPower_153 : decode cX15_isPower 153 = .ok (.goto (-25), 3) := by decide +kernel
theorem dX15_isPower_156 : decode cX15_isPower 156 = .ok (.aload_n 0, 1) := by decide +kernel
theorem dX15_isPower_157 : decode cX15_isPower 157 = .ok (.getfield 129, 3) := by decide +kernel
theorem dX15_isPower_160 : decode cX15_isPower 160 = .ok (.iconst 0, 1) := by decide +kernel
theorem dX15_isPower_161 : decode cX15_isPower 161 = .ok (.aload_n 0, 1) := by decide +kernel
theorem dX15_isPower_162 : decode cX15_isPower 162 = .ok (.getfield 141, 3) := by decide +kernel
theorem dX15_isPower_165 : decode cX15_isPower 165 = .ok (.bipush 32, 2) := by decide +kernel
theorem dX15_isPower_167 : decode cX15_isPower 167 = .ok (.bipush 32, 2) := by decide +kernel
theorem dX15_isPower_169 : decode cX15_isPower 169 = .ok (.invokestatic 358, 3) := by decide +kernel
theorem dX15_isPower_172 : decode cX15_isPower 172 = .ok (.aload_n 0, 1) := by decide +kernel
theorem dX15_isPower_173 : decode cX15_isPower 173 = .ok (.getfield 141, 3) := by decide +kernel
theorem dX15_isPower_176 : decode cX15_isPower 176 = .ok (.aload_n 0, 1) := by decide +kernel
theorem dX15_isPower_177 : decode cX15_isPower 177 = .ok (.getfield 126, 3) := by decide +kernel
theorem dX15_isPower_180 : decode cX15_isPower 180 = .ok (.invokestatic 548, 3) := by decide +kernel
theorem dX15_isPower_183 : decode cX15_isPower 183 = .ok (.iconst 1, 1) := by decide +kernel
theorem dX15_isPower_184 : decode cX15_isPower 184 = .ok (.istore_n 1, 1) := by decide +kernel
theorem dX15_isPower_185 : decode cX15_isPower 185 = .ok (.iconst 0, 1) := by decide +kernel
theorem dX15_isPower_186 : decode cX15_isPower 186 = .ok (.istore_n 2, 1) := by decide +kernel
theorem dX15_isPower_187 : decode cX15_isPower 187 = .ok (.iload_n 2, 1) := by decide +kernel
theorem dX15_isPower_188 : decode cX15_isPower 188 = .ok (.bipush 33, 2) := by decide +kernel
theorem dX15_isPower_190 : decode cX15_isPower 190 = .ok (.if_icmp .ge 32, 3) := by decide +kernel
theorem dX15_isPower_193 : decode cX15_isPower 193 = .ok (.iload_n 1, 1) := by decide +kernel
theorem dX15_isPower_194 : decode cX15_isPower 194 = .ok (.aload_n 0, 1) := by decide +kernel
theorem dX15_isPower_195 : decode cX15_isPower 195 = .ok (.getfield 126, 3) := by decide +kernel
theorem dX15_isPower_198 : decode cX15_isPower 198 = .ok (.iload_n 2, 1) := by decide +kernel
theorem dX15_isPower_199 : decode cX15_isPower 199 = .ok (.iaload, 1) := by decide +kernel
theorem dX15_isPower_200 : decode cX15_isPower 200 = .ok (.aload_n 0, 1) := by decide +kernel
theorem dX15_isPower_201 : decode cX15_isPower 201 = .ok (.getfield 117, 3) := by decide +kernel
theorem dX15_isPower_204 : decode cX15_isPower 204 = .ok (.iload_n 2, 1) := by decide +kernel
theorem dX15_isPower_205 : decode cX15_isPower 205 = .ok (.iaload, 1) := by decide +kernel
theorem dX15_isPower_206 : decode cX15_isPower 206 = .ok (.if_icmp .ne 7, 3) := by decide +kernel
theorem dX15_isPower_209 : decode cX15_isPower 209 = .ok (.iconst 1, 1) := by decide +kernel
theorem dX15_isPower_210 : decode cX15_isPower 210 = .ok (.goto 4, 3) := by decide +kernel
theorem dX15_isPower_213 : decode cX15_isPower 213 = .ok (.iconst 0, 1) := by decide +kernel
theorem dX15_isPower_214 : decode cX15_isPower 214 = .ok (.iand, 1) := by decide +kernel
theorem dX15_isPower_215 : decode cX15_isPower 215 = .ok (.istore_n 1, 1) := by decide +kernel
theorem dX15_isPower_216 : decode cX15_isPower 216 = .ok (.iinc 2 1, 3) := by decide +kernel
theorem dX15_isPower_219 : decode cX15_isPower 219 = .ok (.goto (-32), 3) := by decide +kernel
theorem dX15_isPower_222 : decode cX15_isPower 222 = .ok (.iload_n 1, 1) := by decide +kernel
theorem dX15_isPower_223 : decode cX15_isPower 223 = .ok (.ireturn, 1) := by decide +kernel
theorem dX15_keyOf_0 : decode cX15_keyOf 0 = .ok (.aload_n 0, 1) := by decide +kernel
theorem dX15_keyOf_1 : decode cX15_keyOf 1 = .ok (.aload_n 0, 1) := by decide +kernel
theorem dX15_keyOf_2 : decode cX15_keyOf 2 = .ok (.getfield 144, 3) := by decide +kernel
theorem dX15_keyOf_5 : decode cX15_keyOf 5 = .ok (.invokevirtual 308, 3) := by decide +kernel
theorem dX15_keyOf_8 : decode cX15_keyOf 8 = .ok (.ifCond .eq 5, 3) := by decide +kernel
theorem dX15_keyOf_11 : decode cX15_keyOf 11 = .ok (.iconst 5, 1) := by decide +kernel
theorem dX15_keyOf_12 : decode cX15_keyOf 12 = .ok (.ireturn, 1) := by decide +kernel
theorem dX15_keyOf_13 : decode cX15_keyOf 13 = .ok (.iconst 0, 1) := by decide +kernel
theorem dX15_keyOf_14 : decode cX15_keyOf 14 = .ok (.istore_n 1, 1) := by decide +kernel
theorem dX15_keyOf_15 : decode cX15_keyOf 15 = .ok (.iload_n 1, 1) := by decide +kernel
theorem dX15_keyOf_16 : decode cX15_keyOf 16 = .ok (.aload_n 0, 1) := by decide +kernel
theorem dX15_keyOf_17 : decode cX15_keyOf 17 = .ok (.getfield 177, 3) := by decide +kernel
theorem dX15_keyOf_20 : decode cX15_keyOf 20 = .ok (.if_icmp .ge 22, 3) := by decide +kernel
theorem dX15_keyOf_23 : decode cX15_keyOf 23 = .ok (.aload_n 0, 1) := by decide +kernel
theorem dX15_keyOf_24 : decode cX15_keyOf 24 = .ok (.iload_n 1, 1) := by decide +kernel
theorem dX15_keyOf_25 : decode cX15_keyOf 25 = .ok (.iconst 0, 1) := by decide +kernel
theorem dX15_keyOf_26 : decode cX15_keyOf 26 = .ok (.aload_n 0, 1) := by decide +kernel
theorem dX15_keyOf_27 : decode cX15_keyOf 27 = .ok (.getfield 144, 3) := by decide +kernel
theorem dX15_keyOf_30 : decode cX15_keyOf 30 = .ok (.invokevirtual 196, 3) := by decide +kernel
theorem dX15_keyOf_33 : decode cX15_keyOf 33 = .ok (.ifCond .ne 9, 3) := by decide +kernel
theorem dX15_keyOf_36 : decode cX15_keyOf 36 = .ok (.iinc 1 1, 3) := by decide +kernel
theorem dX15_keyOf_39 : decode cX15_keyOf 39 = .ok (.goto (-24), 3) := by decide +kernel
theorem dX15_keyOf_42 : decode cX15_keyOf 42 = .ok (.iload_n 1, 1) := by decide +kernel
theorem dX15_keyOf_43 : decode cX15_keyOf 43 = .ok (.aload_n 0, 1) := by decide +kernel
theorem dX15_keyOf_44 : decode cX15_keyOf 44 = .ok (.getfield 177, 3) := by decide +kernel
theorem dX15_keyOf_47 : decode cX15_keyOf 47 = .ok (.if_icmp .ne 6, 3) := by decide +kernel
theorem dX15_keyOf_50 : decode cX15_keyOf 50 = .ok (.bipush 6, 2) := by decide +kernel
theorem dX15_keyOf_52 : decode cX15_keyOf 52 = .ok (.ireturn, 1) := by decide +kernel
theorem dX15_keyOf_53 : decode cX15_keyOf 53 = .ok (.aload_n 0, 1) := by decide +kernel
theorem dX15_keyOf_54 : decode cX15_keyOf 54 = .ok (.getfield 51, 3) := by decide +kernel
theorem dX15_keyOf_57 : decode cX15_keyOf 57 = .ok (.iload_n 1, 1) := by decide +kernel
theorem dX15_keyOf_58 : decode cX15_keyOf 58 = .ok (.aaload, 1) := by decide +kernel
theorem dX15_keyOf_59 : decode cX15_keyOf 59 = .ok (.getfield 295, 3) := by decide +kernel
theorem dX15_keyOf_62 : decode cX15_keyOf 62 = .ok (.iconst 0, 1) := by decide +kernel
theorem dX15_keyOf_63 : decode cX15_keyOf 63 = .ok (.aload_n 0, 1) := by decide +kernel
theorem dX15_keyOf_64 : decode cX15_keyOf 64 = .ok (.getfield 51, 3) := by decide +kernel
theorem dX15_keyOf_67 : decode cX15_keyOf 67 = .ok (.iload_n 1, 1) := by decide +kernel
theorem dX15_keyOf_68 : decode cX15_keyOf 68 = .ok (.aaload, 1) := by decide +kernel
theorem dX15_keyOf_69 : decode cX15_keyOf 69 = .ok (.getfield 190, 3) := by decide +kernel
theorem dX15_keyOf_72 : decode cX15_keyOf 72 = .ok (.aload_n 0, 1) := by decide +kernel
theorem dX15_keyOf_73 : decode cX15_keyOf 73 = .ok (.getfield 101, 3) := by decide +kernel
theorem dX15_keyOf_76 : decode cX15_keyOf 76 = .ok (.getfield 409, 3) := by decide +kernel
theorem dX15_keyOf_79 : decode cX15_keyOf 79 = .ok (.invokestatic 507, 3) := by decide +kernel
theorem dX15_keyOf_82 : decode cX15_keyOf 82 = .ok (.aload_n 0, 1) := by decide +kernel
theorem dX15_keyOf_83 : decode cX15_keyOf 83 = .ok (.getfield 101, 3) := by decide +kernel
theorem dX15_keyOf_86 : decode cX15_keyOf 86 = .ok (.bipush 8, 2) := by decide +kernel
theorem dX15_keyOf_88 : decode cX15_keyOf 88 = .ok (.invokevirtual 441, 3) := by decide +kernel
theorem dX15_keyOf_91 : decode cX15_keyOf 91 = .ok (.ifCond .eq 48, 3) := by decide +kernel
theorem dX15_keyOf_94 : decode cX15_keyOf 94 = .ok (.aload_n 0, 1) := by decide +kernel
theorem dX15_keyOf_95 : decode cX15_keyOf 95 = .ok (.getfield 101, 3) := by decide +kernel
theorem dX15_keyOf_98 : decode cX15_keyOf 98 = .ok (.ldc_w 533, 3) := by decide +kernel
theorem dX15_keyOf_101 : decode cX15_keyOf 101 = .ok (.bipush 64, 2) := by decide +kernel
theorem dX15_keyOf_103 : decode cX15_keyOf 103 = .ok (.aload_n 0, 1) := by decide +kernel
theorem dX15_keyOf_104 : decode cX15_keyOf 104 = .ok (.getfield 138, 3) := by decide +kernel
theorem dX15_keyOf_107 : decode cX15_keyOf 107 = .ok (.invokestatic 464, 3) := by decide +kernel
theorem dX15_keyOf_110 : decode cX15_keyOf 110 = .ok (.ifCond .eq 29, 3) := by decide +kernel
theorem dX15_keyOf_113 : decode cX15_keyOf 113 = .ok (.aload_n 0, 1) := by decide +kernel
theorem dX15_keyOf_114 : decode cX15_keyOf 114 = .ok (.getfield 138, 3) := by decide +kernel
theorem dX15_keyOf_117 : decode cX15_keyOf 117 = .ok (.iconst 0, 1) := by decide +kernel
theorem dX15_keyOf_118 : decode cX15_keyOf 118 = .ok (.baload, 1) := by decide +kernel
theorem dX15_keyOf_119 : decode cX15_keyOf 119 = .ok (.ifCond .ge 20, 3) := by decide +kernel
theorem dX15_keyOf_122 : decode cX15_keyOf 122 = .ok (.aload_n 0, 1) := by decide +kernel
theorem dX15_keyOf_123 : decode cX15_keyOf 123 = .ok (.getfield 138, 3) := by decide +kernel
theorem dX15_keyOf_126 : decode cX15_keyOf 126 = .ok (.bipush 63, 2) := by decide +kernel
theorem dX15_keyOf_128 : decode cX15_keyOf 128 = .ok (.baload, 1) := by decide +kernel
theorem dX15_keyOf_129 : decode cX15_keyOf 129 = .ok (.iconst 1, 1) := by decide +kernel
theorem dX15_keyOf_130 : decode cX15_keyOf 130 = .ok (.iand, 1) := by decide +kernel
theorem dX15_keyOf_131 : decode cX15_keyOf 131 = .ok (.iconst 1, 1) := by decide +kernel
theorem dX15_keyOf_132 : decode cX15_keyOf 132 = .ok (.if_icmp .ne 7, 3) := by decide +kernel
theorem dX15_keyOf_135 : decode cX15_keyOf 135 = .ok (.iconst 1, 1) := by decide +kernel
theorem dX15_keyOf_136 : decode cX15_keyOf 136 = .ok (.goto 4, 3) := by decide +kernel
theorem dX15_keyOf_139 : decode cX15_keyOf 139 = .ok (.iconst 0, 1) := by decide +kernel
theorem dX15_keyOf_140 : decode cX15_keyOf 140 = .ok (.istore_n 2, 1) := by decide +kernel
theorem dX15_keyOf_141 : decode cX15_keyOf 141 = .ok (.iload_n 2, 1) := by decide +kernel
theorem dX15_keyOf_142 : decode cX15_keyOf 142 = .ok (.aload_n 0, 1) := by decide +kernel
theorem dX15_keyOf_143 : decode cX15_keyOf 143 = .ok (.getfield 101, 3) := by decide +kernel
theorem dX15_keyOf_146 : decode cX15_keyOf 146 = .ok (.ldc_w 444, 3) := by decide +kernel
theorem dX15_keyOf_149 : decode cX15_keyOf 149 = .ok (.invokevirtual 399, 3) := by decide +kernel
theorem dX15_keyOf_152 : decode cX15_keyOf 152 = .ok (.ifCond .lt 19, 3) := by decide +kernel
theorem dX15_keyOf_155 : decode cX15_keyOf 155 = .ok (.aload_n 0, 1) := by decide +kernel
theorem dX15_keyOf_156 : decode cX15_keyOf 156 = .ok (.getfield 101, 3) := by decide +kernel
theorem dX15_keyOf_159 : decode cX15_keyOf 159 = .ok (.ldc_w 444, 3) := by decide +kernel
theorem dX15_keyOf_162 : decode cX15_keyOf 162 = .ok (.ldc_w 535, 3) := by decide +kernel
theorem dX15_keyOf_165 : decode cX15_keyOf 165 = .ok (.invokevirtual 448, 3) := by decide +kernel
theorem dX15_keyOf_168 : decode cX15_keyOf 168 = .ok (.ifCond .eq 7, 3) := by decide +kernel
theorem dX15_keyOf_171 : decode cX15_keyOf 171 = .ok (.iconst 1, 1) := by decide +kernel
theorem dX15_keyOf_172 : decode cX15_keyOf 172 = .ok (.goto 4, 3) := by decide +kernel
theorem dX15_keyOf_175 : decode cX15_keyOf 175 = .ok (.iconst 0, 1) := by decide +kernel
theorem dX15_keyOf_176 : decode cX15_keyOf 176 = .ok (.iand, 1) := by decide +kernel
theorem dX15_keyOf_177 : decode cX15_keyOf 177 = .ok (.istore_n 2, 1) := by decide +kernel
theorem dX15_keyOf_178 : decode cX15_keyOf 178 = .ok (.iload_n 2, 1) := by decide +kernel
theorem dX15_keyOf_179 : decode cX15_keyOf 179 = .ok (.aload_n 0, 1) := by decide +kernel
theorem dX15_keyOf_180 : decode cX15_keyOf 180 = .ok (.getfield 101, 3) := by decide +kernel
theorem dX15_keyOf_183 : decode cX15_keyOf 183 = .ok (.ldc_w 537, 3) := by decide +kernel
theorem dX15_keyOf_186 : decode cX15_keyOf 186 = .ok (.invokevirtual 399, 3) := by decide +kernel
theorem dX15_keyOf_189 : decode cX15_keyOf 189 = .ok (.ifCond .lt 19, 3) := by decide +kernel
theorem dX15_keyOf_192 : decode cX15_keyOf 192 = .ok (.aload_n 0, 1) := by decide +kernel
theorem dX15_keyOf_193 : decode cX15_keyOf 193 = .ok (.getfield 101, 3) := by decide +kernel
theorem dX15_keyOf_196 : decode cX15_keyOf 196 = .ok (.ldc_w 537, 3) := by decide +kernel
theorem dX15_keyOf_199 : decode cX15_keyOf 199 = .ok (.ldc_w 539, 3) := by decide +kernel
theorem dX15_keyOf_202 : decode cX15_keyOf 202 = .ok (.invokevirtual 448, 3) := by decide +kernel
theorem dX15_keyOf_205 : decode cX15_keyOf 205 = .ok (.ifCond .eq 7, 3) := by decide +kernel
theorem dX15_keyOf_208 : decode cX15_keyOf 208 = .ok (.iconst 1, 1) := by decide +kernel
theorem dX15_keyOf_209 : decode cX15_keyOf 209 = .ok (.goto 4, 3) := by decide +kernel
theorem dX15_keyOf_212 : decode cX15_keyOf 212 = .ok (.iconst 0, 1) := by decide +kernel
theorem dX15_keyOf_213 : decode cX15_keyOf 213 = .ok (.iand, 1) := by decide +kernel
theorem dX15_keyOf_214 : decode cX15_keyOf 214 = .ok (.istore_n 2, 1) := by decide +kernel
theorem dX15_keyOf_215 : decode cX15_keyOf 215 = .ok (.iload_n 2, 1) := by decide +kernel
theorem dX15_keyOf_216 : decode cX15_keyOf 216 = .ok (.ifCond .eq 7, 3) := by decide +kernel
theorem dX15_keyOf_219 : decode cX15_keyOf 219 = .ok (.iconst 2, 1) := by decide +kernel
theorem dX15_keyOf_220 : decode cX15_keyOf 220 = .ok (.goto 5, 3) := by decide +kernel
theorem dX15_keyOf_223 : decode cX15_keyOf 223 = .ok (.bipush 6, 2) := by decide +kernel
theorem dX15_keyOf_225 : decode cX15_keyOf 225 = .ok (.ireturn, 1) := by decide +kernel
theorem kt_907 : Cond.fieldLink RX15 138 "PostGateModel" "modulus64" "[B" ∈ tb := tb_at (i := 1336) (by decide +kernel) (by decide +kernel)
theorem kt_908 : Cond.code yX15_digits cX15_digits 3 none ∈ tb := tb_at (i := 1824) (by decide +kernel) (by decide +kernel)
theorem kt_909 : Cond.methodLink RX15 548 yX15_digits ∈ tb := tb_at (i := 1822) (by decide +kernel) (by decide +kernel)
theorem kt_910 : Cond.static yX15_digits ∈ tb := tb_at (i := 1823) (by decide +kernel) (by decide +kernel)
theorem kt_911 : Cond.fieldLink RX15 120 "PostGateModel" "number" "[I" ∈ tb := tb_at (i := 1330) (by decide +kernel) (by decide +kernel)
theorem kt_912 : Cond.methodLink RX15 358 arraycopyName ∈ tb := tb_at (i := 1647) (by decide +kernel) (by decide +kernel)
theorem kt_913 : Cond.code yX15_times cX15_times 6 none ∈ tb := tb_at (i := 1839) (by decide +kernel) (by decide +kernel)
theorem kt_914 : Cond.methodLink RX15 552 yX15_times ∈ tb := tb_at (i := 1836) (by decide +kernel) (by decide +kernel)
theorem kt_915 : Cond.instanceMethod yX15_times ∈ tb := tb_at (i := 1838) (by decide +kernel) (by decide +kernel)
theorem kt_916 : Cond.selects RX15 yX15_times yX15_times ∈ tb := tb_at (i := 75) (by decide +kernel) (by decide +kernel)
theorem kt_917 : Cond.fieldLink RX15 141 "PostGateModel" "expected" "[B" ∈ tb := tb_at (i := 1337) (by decide +kernel) (by decide +kernel)
theorem kt_918 : Cond.code yJ7_fill_031fb cJ7_fill_031fb 4 none ∈ tb := tb_at (i := 1843) (by decide +kernel) (by decide +kernel)
theorem kt_919 : Cond.methodLink RX15 556 yJ7_fill_031fb ∈ tb := tb_at (i := 1841) (by decide +kernel) (by decide +kernel)
theorem kt_920 : Cond.static yJ7_fill_031fb ∈ tb := tb_at (i := 1842) (by decide +kernel) (by decide +kernel)
theorem kt_921 : Cond.fieldLink RX15 129 "PostGateModel" "hashed" "[B" ∈ tb := tb_at (i := 1333) (by decide +kernel) (by decide +kernel)
theorem kt_922 : Cond.fieldLink RX15 126 "PostGateModel" "square" "[I" ∈ tb := tb_at (i := 1332) (by decide +kernel) (by decide +kernel)
theorem kt_923 : Cond.fieldLink RX15 154 "PostGateModel" "head" "[I" ∈ tb := tb_at (i := 1344) (by decide +kernel) (by decide +kernel)
theorem kt_924 : Cond.fieldLink RX15 144 "PostGateModel" "where" "LPostGateModel$Text;" ∈ tb := tb_at (i := 1338) (by decide +kernel) (by decide +kernel)
theorem kt_925 : Cond.fieldLink RX15 101 "PostGateModel" "key" "LPostGateModel$Tags;" ∈ tb := tb_at (i := 1325) (by decide +kernel) (by decide +kernel)
theorem kt_926 : Cond.code yX15_withoutWhite cX15_withoutWhite 5 none ∈ tb := tb_at (i := 1701) (by decide +kernel) (by decide +kernel)
theorem kt_927 : Cond.methodLink RX15 507 yX15_withoutWhite ∈ tb := tb_at (i := 1699) (by decide +kernel) (by decide +kernel)
theorem kt_928 : Cond.static yX15_withoutWhite ∈ tb := tb_at (i := 1700) (by decide +kernel) (by decide +kernel)
theorem kt_929 : Cond.fieldLink RX15 150 "PostGateModel" "taken" "[Z" ∈ tb := tb_at (i := 1340) (by decide +kernel) (by decide +kernel)
theorem kt_930 : Cond.code yJ7_fill_49daa cJ7_fill_49daa 4 none ∈ tb := tb_at (i := 1813) (by decide +kernel) (by decide +kernel)
theorem kt_931 : Cond.methodLink RX15 541 yJ7_fill_49daa ∈ tb := tb_at (i := 1811) (by decide +kernel) (by decide +kernel)
theorem kt_932 : Cond.static yJ7_fill_49daa ∈ tb := tb_at (i := 1812) (by decide +kernel) (by decide +kernel)
theorem kt_933 : Cond.code yX15_fieldPlain cX15_fieldPlain 9 none ∈ tb := tb_at (i := 1682) (by decide +kernel) (by decide +kernel)
theorem kt_934 : Cond.methodLink RX15 395 yX15_fieldPlain ∈ tb := tb_at (i := 1679) (by decide +kernel) (by decide +kernel)
theorem kt_935 : Cond.instanceMethod yX15_fieldPlain ∈ tb := tb_at (i := 1681) (by decide +kernel) (by decide +kernel)
theorem kt_936 : Cond.selects RX15 yX15_fieldPlain yX15_fieldPlain ∈ tb := tb_at (i := 59) (by decide +kernel) (by decide +kernel)
theorem kt_937 : Cond.code yX15_isAlikeTo cX15_isAlikeTo 6 (some .boolean) ∈ tb := tb_at (i := 1817) (by decide +kernel) (by decide +kernel)
theorem kt_938 : Cond.methodLink RX15 544 yX15_isAlikeTo ∈ tb := tb_at (i := 1814) (by decide +kernel) (by decide +kernel)
theorem kt_939 : Cond.instanceMethod yX15_isAlikeTo ∈ tb := tb_at (i := 1816) (by decide +kernel) (by decide +kernel)
theorem kt_940 : Cond.selects RX15 yX15_isAlikeTo yX15_isAlikeTo ∈ tb := tb_at (i := 72) (by decide +kernel) (by decide +kernel)
def tsum (gm : Nat → Nat → Nat) (ft : Nat → Int32) : Nat → Nat
  | 0 => 0
  | k + 1 => tsum gm ft k + (if ft k = 0 then 0 else gm 2 k - gm 0 k + 1)
theorem tsum_zero {gm : Nat → Nat → Nat} {ft : Nat → Int32} {n : Nat} (h : ∀ k, k < n → ft k = 0) : tsum gm ft n = 0 := by
  induction n with
  | zero => rfl
  | succ n ih =>
    show tsum gm ft n + (if ft n = 0 then 0 else gm 2 n - gm 0 n + 1) = 0
    rw [ih (fun k hk => h k (by omega)), if_pos (h n (by omega))]
theorem tsum_same {gm : Nat → Nat → Nat} {ft fu : Nat → Int32} {n : Nat} (h : ∀ k, k < n → fu k = ft k) : tsum gm fu n = tsum gm ft n := by
  induction n with
  | zero => rfl
  | succ n ih =>
    show tsum gm fu n + (if fu n = 0 then 0 else gm 2 n - gm 0 n + 1) = tsum gm ft n + (if ft n = 0 then 0 else gm 2 n - gm 0 n + 1)
    rw [ih (fun k hk => h k (by omega)), h n (by omega)]
theorem tsum_set {gm : Nat → Nat → Nat} {ft fu : Nat → Int32} {n k : Nat} (hk : k < n) (h0 : ft k = 0) (h1 : fu k ≠ 0) (h : ∀ i, i ≠ k → fu i = ft i) : tsum gm fu n = tsum gm ft n + (gm 2 k - gm 0 k + 1) := by
  induction n with
  | zero => omega
  | succ n ih =>
    show tsum gm fu n + (if fu n = 0 then 0 else gm 2 n - gm 0 n + 1) = tsum gm ft n + (if ft n = 0 then 0 else gm 2 n - gm 0 n + 1) + _
    rcases Nat.lt_or_ge k n with q | q
    · rw [ih q, h n (by omega)]
      omega
    · have e : k = n := by omega
      subst e
      rw [tsum_same (fun i hi => h i (by omega)), if_neg h1, if_pos h0]
      omega
theorem tsum_le {gm : Nat → Nat → Nat} {ft : Nat → Int32} {n nf mm : Nat} (hO : ∀ j, j < nf → gm 0 j < gm 1 j ∧ gm 1 j < gm 2 j ∧ gm 2 j ≤ mm) (hA : ∀ j, j + 1 < nf → gm 2 j ≤ gm 0 (j + 1)) (hn : n ≤ nf) : tsum gm ft n ≤ mm + n ∧ (∀ j, n = j + 1 → tsum gm ft n ≤ gm 2 j + n) := by
  induction n with
  | zero => exact ⟨Nat.zero_le _, fun j h => by omega⟩
  | succ n ih =>
    have i1 := ih (by omega)
    have o1 := hO n (by omega)
    have key : tsum gm ft (n + 1) ≤ gm 2 n + (n + 1) := by
      show tsum gm ft n + (if ft n = 0 then 0 else gm 2 n - gm 0 n + 1) ≤ _
      rcases Nat.eq_zero_or_pos n with q | q
      · subst q
        show 0 + _ ≤ _
        split <;> omega
      · have i2 := i1.2 (n - 1) (by omega)
        have a1 := hA (n - 1) (by omega)
        rw [show n - 1 + 1 = n from by omega] at a1
        split <;> omega
    exact ⟨by omega, fun j h => by rw [show j = n from by omega]; exact key⟩
theorem upd_ne1 {f : Nat → Int32} {k : Nat} : upd f k (vp_nar .boolean 1) k ≠ 0 := by
  show (if k = k then vp_nar .boolean 1 else f k) ≠ 0
  rw [if_pos rfl]
  decide
theorem upd_oth {f : Nat → Int32} {k i : Nat} {x : Int32} (h : i ≠ k) : upd f k x i = f i := if_neg h
set_option maxHeartbeats 4000000 in
set_option maxRecDepth 100000 in
theorem s_X15_isAlikeTo (l : Launch) (dC : Nat → ClassId) (dI : Nat → Nat → Nat) (cs : Nat → ClassId) (ty : TyM) (gm : Nat → Nat → Nat) (L : List Nat) (sz : Nat) (F : Nat → va_E) (h0 : Nat) (ρ : Nat) (ta : Nat) (ou : Nat) (so : Nat) (ad : Nat) (na : Nat) (va : Nat) (lc : Nat) (dm : Nat) (tg : Nat) (pe : Nat) (ml : Nat) (bg : Nat) (co : Nat) (sp : Nat) (nb0 : Nat) (nb1 : Nat) (nb2 : Nat) (pl : Nat) (se : Nat) (ke : Nat) (wi : Nat) (hs : Nat) (mo : Nat) (po : Nat) (nu : Nat) (pr : Nat) (sq : Nat) (xa : Nat) (sa : Nat) (n64 : Nat) (m64 : Nat) (ex : Nat) (wh : Nat) (sd : Nat) (tk : Nat) (hd : Nat) (ak : Nat) (ho : Nat) (ot : Nat) (sx : Nat) (s0 : Nat) (s1 : Nat) (s2 : Nat) (nf : Nat) (bd : Nat) (mm : Nat) (zo : Nat) (fm : Nat) (sn : Nat) (hg : Nat) (gc : Nat) (gv : Nat) (ze : Nat) (zt : Nat) (g1 : Nat) (σ : Nat) (n1 : Nat) (jf : Nat) (a : Nat) (tt : Nat) (hW : WTm ty gm L) (hL_h0 : h0 ∈ L) (hT_h0 : ty h0 = (15, ρ, [ta, ou, so, ad, na, va, lc, dm, tg, pe, ml, bg, co, sp, nb0, nb1, nb2, pl, se, ke, wi, hs, mo, po, nu, pr, sq, xa, sa, n64, m64, ex, wh, sd, tk, hd, ak, ho, ot, sx, s0, s1, s2, nf, bd, mm, zo, fm, sn, hg, gc, gv, ze, zt])) (hL_g1 : g1 ∈ L) (hT_g1 : ty g1 = (17, σ, [n1])) (hjf : jf < nf) (ha : a ≤ tt) (htn : tt ≤ n1) : Met l yX15_isAlikeTo (.code yX15_isAlikeTo cX15_isAlikeTo 6 (some .boolean) :: tb) ({ frames := 1, cells := 0, slots := 0, locals := 20 }) (va_Pc [.ref h0, .int (nI jf), .ref g1, .int (nI a), .int (nI tt)] (PTm (dC, dI) cs ty gm L F sz)) (va_Qi (fun (r : Int32) (_ : Unit) => (r = 0 ∨ r = 1)) (fun _ T9 => ∃ F2 : Nat → va_E, QTm (dC, dI) cs ty gm L [] F F2 (va_A (va_pl L F) sz) T9) (va_A (va_pl L F) sz)) 0 0 (va_A (va_pl L F) sz) := by
  refine Met.ofW (cc := cX15_isAlikeTo) (maxL := 6) (ret := (some .boolean)) (by decide) rfl ?_
  intro p e s m args below meth c s₁ B hml hv
  obtain ⟨rfl, hsz, hP, hK, hD0, hE, hO⟩ := hv
  have hx := B.exec
  have hb := B.bytes
  have hr := B.returns
  have hts : ∀ w ∈ tb, w.before _ s = true := fun w h => atoms_spec (ws := .code yX15_isAlikeTo cX15_isAlikeTo 6 (some .boolean) :: tb) B.pre w (List.mem_cons_of_mem _ h)
  have hown : s.vm.findClass RX15 = some m.cls := findClass_of_methodNamed B.named
  have hlocks := B.notSynchronized
  subst hsz
  have hD := hD0.self (sz := s.heap.size)
  generalize hAe : va_A (va_pl L F) s.heap.size = A at hD ⊢
  have hA : ∀ q : Nat, s.heap.size ≤ q → A q := fun q h => by rw [← hAe]; exact Or.inr h
  have hS : va_S A s.heap s.heap [] := va_S.rf
  have hR : FR ty [] F F := FR.refl
  have hl := lv_entry ([.ref h0, .int (nI jf), .ref g1, .int (nI a), .int (nI tt)]) (n := 6) (Nat.le_of_ble_eq_true rfl)
  rw [lg_entry_eq]
  generalize (lg_sl ([.ref h0, .int (nI jf), .ref g1, .int (nI a), .int (nI tt)]) ++ List.replicate (6 - (lg_sl ([.ref h0, .int (nI jf), .ref g1, .int (nI a), .int (nI tt)])).length) Slot.unset).toArray = ls at hl ⊢
  have hl : lv_has ls 6 [(0, .ref h0), (1, .int (nI jf)), (2, .ref g1), (3, .int (nI a)), (4, .int (nI tt))] := hl
  obtain ⟨hq_23, hq_24, hq_25, hq_26, hq_27, hgO, hgA, hgB, hq_28⟩ := hW.sc hL_h0 hT_h0
  have hoj := hgO jf hjf
  obtain ⟨hq_29, hq_30⟩ := hW.octs hL_g1 hT_g1
  refine lv_aload_n hx hb dX15_isAlikeTo_0 rfl (lv_at hl 0 rfl) ?_
  obtain ⟨v14_31, v15_32, v17_33, v18_34, v19_35, v20_36, v21_37, v22_38, v33_39, v52_40, v53_41, v54_42, hF_43, hq_44, hq_45, hq_46, hq_47, hq_48⟩ := hO.mod hL_h0 hT_h0
  refine pg_get (ci := 15) (v := .ref co) (C := RX15) (T := TX15) (N := 59) hx hb hts it_15 hown hK hP hL_h0 hF_43 rfl 25 (by decide) (hts _ kt_889) (fun _ h9 => h9) rfl dX15_isAlikeTo_1 ?_
  refine lv_iload_n hx hb dX15_isAlikeTo_4 rfl (lv_at hl 1 rfl) ?_
  obtain ⟨hi_49, ht_50⟩ := hW.f_co hL_h0 hT_h0
  obtain ⟨f_51, hF_52, hq_53⟩ := hO.pos hi_49 ht_50
  refine pg_iald hx hb hK hP hi_49 0 hF_52 rfl (vp_in_nI (by omega) (by omega)) dX15_isAlikeTo_5 ?_
  refine lv_topi (fun x_54 ex_54 => ?_)
  obtain rfl : x_54 = (nI (gm 1 jf)) := ex_54.trans (by rw [show ((nI jf) : Int32) = nI jf from rfl, nI_clamp (by omega)]; exact hq_53 jf (by omega))
  have hgbx_54 := hgB 1 jf
  refine lv_aload_n hx hb dX15_isAlikeTo_6 rfl (lv_at hl 0 rfl) ?_
  refine pg_get (ci := 15) (v := .ref bg) (C := RX15) (T := TX15) (N := 59) hx hb hts it_15 hown hK hP hL_h0 hF_43 rfl 24 (by decide) (hts _ kt_888) (fun _ h9 => h9) rfl dX15_isAlikeTo_7 ?_
  refine lv_iload_n hx hb dX15_isAlikeTo_10 rfl (lv_at hl 1 rfl) ?_
  obtain ⟨hi_55, ht_56⟩ := hW.f_bg hL_h0 hT_h0
  obtain ⟨f_57, hF_58, hq_59⟩ := hO.pos hi_55 ht_56
  refine pg_iald hx hb hK hP hi_55 0 hF_58 rfl (vp_in_nI (by omega) (by omega)) dX15_isAlikeTo_11 ?_
  refine lv_topi (fun x_60 ex_60 => ?_)
  obtain rfl : x_60 = (nI (gm 0 jf)) := ex_60.trans (by rw [show ((nI jf) : Int32) = nI jf from rfl, nI_clamp (by omega)]; exact hq_59 jf (by omega))
  have hgbx_60 := hgB 0 jf
  refine lv_isub hx hb dX15_isAlikeTo_12 ?_
  refine lv_topi (fun x_61 ex_61 => ?_)
  obtain rfl : x_61 = (nI ((gm 1 jf) - (gm 0 jf))) := ex_61.trans (pk_sub (a := (gm 1 jf)) (b := (gm 0 jf)) (by omega))
  refine lv_iload hx hb dX15_isAlikeTo_13 (lv_at hl 4 rfl) ?_
  refine lv_iload_n hx hb dX15_isAlikeTo_15 rfl (lv_at hl 3 rfl) ?_
  refine lv_isub hx hb dX15_isAlikeTo_16 ?_
  refine lv_topi (fun x_62 ex_62 => ?_)
  obtain rfl : x_62 = (nI (tt - a)) := ex_62.trans (pk_sub (a := tt) (b := a) (by omega))
  refine lv_icmp_eq (tgt := 22) hx hb dX15_isAlikeTo_17 (by decide) (fun c_63 => ?_) (fun c_63 => ?_)
  ·
    have hi_64 : ((gm 1 jf) - (gm 0 jf)) = (tt - a) := (nI_eq (a := ((gm 1 jf) - (gm 0 jf))) (b := (tt - a)) (by omega) (by omega)).mp c_63
    refine lv_iconst (v := 0) hx hb dX15_isAlikeTo_22 (by decide) ?_
    refine lv_istore (lv' := [(5, .int 0), (0, .ref h0), (1, .int (nI jf)), (2, .ref g1), (3, .int (nI a)), (4, .int (nI tt))]) hx hb dX15_isAlikeTo_23 hl (by decide) rfl (fun ls hl => ?_)
    refine W.widen (k := 0) (n := 0) (by omega) (by omega) ?_
    refine pl_loopm (σ := Nat) A (dC, dI) cs ty gm L [] F 25 6 (fun j => [(5, .int (nI j)), (0, .ref h0), (1, .int (nI jf)), (2, .ref g1), (3, .int (nI a)), (4, .int (nI tt))]) (fun j => []) (fun j _ => j ≤ tt - a) (fun j => tt - a - j) ?_ 0 F (by omega) hO hR _ _ hP hD hS ls (lv_sub hl [0, 1, 2, 3, 4, 5] rfl)
    rintro j F_65 hv_66 hO hR ih_67 H locs hP hD hS ls hl
    have hl : lv_has ls 6 [(5, .int (nI j)), (0, .ref h0), (1, .int (nI jf)), (2, .ref g1), (3, .int (nI a)), (4, .int (nI tt))] := hl
    have hv_66 : j ≤ tt - a := hv_66
    refine W.eq (g2 := F0 m 25 ls []) rfl ?_
    obtain rfl : F = F_65 := (funext (fun a => hR a List.not_mem_nil)).symm
    refine lv_iload hx hb dX15_isAlikeTo_25 (lv_at hl 0 rfl) ?_
    refine lv_iload hx hb dX15_isAlikeTo_27 (lv_at hl 5 rfl) ?_
    refine lv_iload_n hx hb dX15_isAlikeTo_29 rfl (lv_at hl 4 rfl) ?_
    refine lv_isub hx hb dX15_isAlikeTo_30 ?_
    refine lv_topi (fun x_68 ex_68 => ?_)
    obtain rfl : x_68 = (nI (tt - a)) := ex_68.trans (pk_sub (a := tt) (b := a) (by omega))
    refine lv_icmp_ge (tgt := 71) hx hb dX15_isAlikeTo_31 (by decide) (fun c_69 => ?_) (fun c_69 => ?_)
    ·
      have hi_70 : (tt - a) ≤ j := leN (N := (tt - a)) c_69
      refine lv_iconst (v := 1) hx hb dX15_isAlikeTo_71 (by decide) ?_
      refine W.widen (k := 0) (n := 0) (by omega) (by omega) ?_
      exact W.zret (v := 1) (ty := .boolean) hx hb hr (by decide) (fun t ht hWm => ⟨⟨1, (), rfl, (by first | exact Or.inl rfl | exact Or.inr rfl), ⟨F, QTm.mk ht hP hD hO hR⟩⟩, hS.F ht⟩) hS.2.2 dX15_isAlikeTo_72
    ·
      have hi_71 : j < (tt - a) := ltN (N := (tt - a)) c_69
      refine lv_aload_n hx hb dX15_isAlikeTo_34 rfl (lv_at hl 1 rfl) ?_
      refine pg_get (ci := 15) (v := .ref ml) (C := RX15) (T := TX15) (N := 59) hx hb hts it_15 hown hK hP hL_h0 hF_43 rfl 23 (by decide) (hts _ kt_887) (fun _ h9 => h9) rfl dX15_isAlikeTo_35 ?_
      refine lv_aload_n hx hb dX15_isAlikeTo_38 rfl (lv_at hl 1 rfl) ?_
      refine pg_get (ci := 15) (v := .ref bg) (C := RX15) (T := TX15) (N := 59) hx hb hts it_15 hown hK hP hL_h0 hF_43 rfl 24 (by decide) (hts _ kt_888) (fun _ h9 => h9) rfl dX15_isAlikeTo_39 ?_
      refine lv_iload_n hx hb dX15_isAlikeTo_42 rfl (lv_at hl 2 rfl) ?_
      refine pg_iald hx hb hK hP hi_55 0 hF_58 rfl (vp_in_nI (by omega) (by omega)) dX15_isAlikeTo_43 ?_
      refine lv_topi (fun x_72 ex_72 => ?_)
      obtain rfl : x_72 = (nI (gm 0 jf)) := ex_72.trans (by rw [show ((nI jf) : Int32) = nI jf from rfl, nI_clamp (by omega)]; exact hq_59 jf (by omega))
      have hgbx_72 := hgB 0 jf
      refine lv_iload hx hb dX15_isAlikeTo_44 (lv_at hl 0 rfl) ?_
      refine lv_iadd hx hb dX15_isAlikeTo_46 ?_
      refine lv_topi (fun x_73 ex_73 => ?_)
      obtain rfl : x_73 = (nI ((gm 0 jf) + j)) := ex_73.trans (nI_add (gm 0 jf) j)
      obtain ⟨hi_74, ht_75⟩ := hW.f_ml hL_h0 hT_h0
      obtain ⟨hq_76, hq_77⟩ := hW.octs hi_74 ht_75
      obtain ⟨f_78, hF_79, hq_80⟩ := hO.octs hi_74 ht_75
      refine pg_bald hx hb hK hP hi_74 1 hF_79 rfl (vp_in_nI (by omega) (by omega)) dX15_isAlikeTo_47 ?_
      refine lv_topi (fun x_81 ex_81 => ?_)
      obtain rfl : x_81 = f_78 ((gm 0 jf) + j) := ex_81.trans (congrArg f_78 (show ((nI ((gm 0 jf) + j)) : Int32).toNatClampNeg = ((gm 0 jf) + j) from nI_clamp (by omega)))
      have hFc := pg_free hD hS hA
      refine va_calli (va_runS (As := [.int (f_78 ((gm 0 jf) + j))]) (rest := []) ⟨hx, hb, hml, hown, hts⟩ (s_X15_small l dC dI cs ty gm L H.size F (f_78 ((gm 0 jf) + j)) hW ) ⟨callB_of 1 hts (gi kt_697) rfl rfl rfl (hts _ kt_669) (hts _ kt_698) (by decide +kernel) ⟨Nat.le_of_ble_eq_true rfl, Nat.le_of_ble_eq_true rfl⟩, (hts _ kt_699)⟩ ⟨fun a U g mk q => ⟨q.1, PTm.calling q.2⟩, fun U hU hWm => ⟨rfl, PTm.mk hU hWm hP hK hD hE hO⟩⟩ rfl rfl hl.1 rfl (lv_room (Nat.le_of_ble_eq_true rfl)) dX15_isAlikeTo_48 ⟨by show _ + 0 ≤ 0; omega, by show _ + 0 ≤ 0; omega⟩) hS (fun q _ h => hFc q h) hFc (fun r_82 u t H1 locs ht hvm hw hB hz1 hk1 hS => ?_)
      obtain ⟨F_83, hB1⟩ := hB
      obtain rfl : F = F_83 := (funext (fun a => hB1.2.2.2 a List.not_mem_nil)).symm
      obtain ⟨hP, hD, hO, hR⟩ := QTm.back hB1 ht hFc hR (fun q h => absurd h List.not_mem_nil)
      generalize H1 = H at hP hS ⊢
      have hw : True := hw
      have hw_84 := hw
      refine lv_aload_n hx hb dX15_isAlikeTo_51 rfl (lv_at hl 3 rfl) ?_
      refine lv_iload_n hx hb dX15_isAlikeTo_52 rfl (lv_at hl 4 rfl) ?_
      refine lv_iload hx hb dX15_isAlikeTo_53 (lv_at hl 0 rfl) ?_
      refine lv_iadd hx hb dX15_isAlikeTo_55 ?_
      refine lv_topi (fun x_85 ex_85 => ?_)
      obtain rfl : x_85 = (nI (a + j)) := ex_85.trans (nI_add a j)
      obtain ⟨f_86, hF_87, hq_88⟩ := hO.octs hL_g1 hT_g1
      refine pg_bald hx hb hK hP hL_g1 1 hF_87 rfl (vp_in_nI (by omega) (by omega)) dX15_isAlikeTo_56 ?_
      refine lv_topi (fun x_89 ex_89 => ?_)
      obtain rfl : x_89 = f_86 (a + j) := ex_89.trans (congrArg f_86 (show ((nI (a + j)) : Int32).toNatClampNeg = (a + j) from nI_clamp (by omega)))
      have hFc := pg_free hD hS hA
      refine va_calli (va_runS (As := [.int (f_86 (a + j))]) (rest := [.int r_82]) ⟨hx, hb, hml, hown, hts⟩ (s_X15_small l dC dI cs ty gm L H.size F (f_86 (a + j)) hW ) ⟨callB_of 1 hts (gi kt_697) rfl rfl rfl (hts _ kt_669) (hts _ kt_698) (by decide +kernel) ⟨Nat.le_of_ble_eq_true rfl, Nat.le_of_ble_eq_true rfl⟩, (hts _ kt_699)⟩ ⟨fun a U g mk q => ⟨q.1, PTm.calling q.2⟩, fun U hU hWm => ⟨rfl, PTm.mk hU hWm hP hK hD hE hO⟩⟩ rfl rfl hl.1 rfl (lv_room (Nat.le_of_ble_eq_true rfl)) dX15_isAlikeTo_57 ⟨by show _ + 0 ≤ 0; omega, by show _ + 0 ≤ 0; omega⟩) hS (fun q _ h => hFc q h) hFc (fun r_90 u t H1 locs ht hvm hw hB hz1 hk1 hS => ?_)
      obtain ⟨F_91, hB1⟩ := hB
      obtain rfl : F = F_91 := (funext (fun a => hB1.2.2.2 a List.not_mem_nil)).symm
      obtain ⟨hP, hD, hO, hR⟩ := QTm.back hB1 ht hFc hR (fun q h => absurd h List.not_mem_nil)
      generalize H1 = H at hP hS ⊢
      have hw : True := hw
      have hw_92 := hw
      refine lv_icmp_eq (tgt := 65) hx hb dX15_isAlikeTo_60 (by decide) (fun c_93 => ?_) (fun c_93 => ?_)
      ·
        refine lv_iinc (v := (nI (j + 1))) (lv' := [(5, .int (nI (j + 1))), (0, .ref h0), (1, .int (nI jf)), (2, .ref g1), (3, .int (nI a)), (4, .int (nI tt))]) hx hb dX15_isAlikeTo_65 hl (k := 0) rfl (nI_1 _) (by decide) rfl (fun ls hl => ?_)
        refine lv_goto (tgt := 25) hx hb dX15_isAlikeTo_68 (by decide) ?_
        refine W.widen (k := 0) (n := 0) (by omega) (by omega) ?_
        exact ih_67 (j + 1) F (by first | omega | exact ⟨by omega, by omega⟩ | trivial) (by show tt - a - (j + 1) < tt - a - j; omega) hO hR _ _ hP hD hS ls (lv_sub hl [0, 1, 2, 3, 4, 5] rfl)
      ·
        refine lv_iconst (v := 0) hx hb dX15_isAlikeTo_63 (by decide) ?_
        refine W.widen (k := 0) (n := 0) (by omega) (by omega) ?_
        exact W.zret (v := 0) (ty := .boolean) hx hb hr (by decide) (fun t ht hWm => ⟨⟨0, (), rfl, (by first | exact Or.inl rfl | exact Or.inr rfl), ⟨F, QTm.mk ht hP hD hO hR⟩⟩, hS.F ht⟩) hS.2.2 dX15_isAlikeTo_64
  ·
    have hi_94 : ((gm 1 jf) - (gm 0 jf)) ≠ (tt - a) := fun q => c_63 (by rw [q])
    refine lv_iconst (v := 0) hx hb dX15_isAlikeTo_20 (by decide) ?_
    refine W.widen (k := 0) (n := 0) (by omega) (by omega) ?_
    exact W.zret (v := 0) (ty := .boolean) hx hb hr (by decide) (fun t ht hWm => ⟨⟨0, (), rfl, (by first | exact Or.inl rfl | exact Or.inr rfl), ⟨F, QTm.mk ht hP hD hO hR⟩⟩, hS.F ht⟩) hS.2.2 dX15_isAlikeTo_21
set_option maxHeartbeats 4000000 in
set_option maxRecDepth 100000 in
theorem s_X15_isPower (l : Launch) (dC : Nat → ClassId) (dI : Nat → Nat → Nat) (cs : Nat → ClassId) (ty : TyM) (gm : Nat → Nat → Nat) (L : List Nat) (sz : Nat) (F : Nat → va_E) (h0 : Nat) (ρ : Nat) (ta : Nat) (ou : Nat) (so : Nat) (ad : Nat) (na : Nat) (va : Nat) (lc : Nat) (dm : Nat) (tg : Nat) (pe : Nat) (ml : Nat) (bg : Nat) (co : Nat) (sp : Nat) (nb0 : Nat) (nb1 : Nat) (nb2 : Nat) (pl : Nat) (se : Nat) (ke : Nat) (wi : Nat) (hs : Nat) (mo : Nat) (po : Nat) (nu : Nat) (pr : Nat) (sq : Nat) (xa : Nat) (sa : Nat) (n64 : Nat) (m64 : Nat) (ex : Nat) (wh : Nat) (sd : Nat) (tk : Nat) (hd : Nat) (ak : Nat) (ho : Nat) (ot : Nat) (sx : Nat) (s0 : Nat) (s1 : Nat) (s2 : Nat) (nf : Nat) (bd : Nat) (mm : Nat) (zo : Nat) (fm : Nat) (sn : Nat) (hg : Nat) (gc : Nat) (gv : Nat) (ze : Nat) (zt : Nat) (hW : WTm ty gm L) (hL_h0 : h0 ∈ L) (hT_h0 : ty h0 = (15, ρ, [ta, ou, so, ad, na, va, lc, dm, tg, pe, ml, bg, co, sp, nb0, nb1, nb2, pl, se, ke, wi, hs, mo, po, nu, pr, sq, xa, sa, n64, m64, ex, wh, sd, tk, hd, ak, ho, ot, sx, s0, s1, s2, nf, bd, mm, zo, fm, sn, hg, gc, gv, ze, zt])) : Met l yX15_isPower (.code yX15_isPower cX15_isPower 3 (some .boolean) :: tb) ({ frames := 3, cells := 0, slots := 0, locals := 76 }) (va_Pc [.ref h0] (PTm (dC, dI) cs ty gm L F sz)) (va_Qi (fun (r : Int32) (_ : Unit) => (r = 0 ∨ r = 1)) (fun _ T9 => ∃ F2 : Nat → va_E, QTm (dC, dI) cs ty gm L [ρ + 18, ρ + 87, ρ + 88, ρ + 89, ρ + 90, ρ + 23] F F2 (va_A (va_pl L F) sz) T9) (va_A (va_pl L F) sz)) 0 0 (va_A (va_pl L F) sz) := by
  refine Met.ofW (cc := cX15_isPower) (maxL := 3) (ret := (some .boolean)) (by decide) rfl ?_
  intro p e s m args below meth c s₁ B hml hv
  obtain ⟨rfl, hsz, hP, hK, hD0, hE, hO⟩ := hv
  have hx := B.exec
  have hb := B.bytes
  have hr := B.returns
  have hts : ∀ w ∈ tb, w.before _ s = true := fun w h => atoms_spec (ws := .code yX15_isPower cX15_isPower 3 (some .boolean) :: tb) B.pre w (List.mem_cons_of_mem _ h)
  have hown : s.vm.findClass RX15 = some m.cls := findClass_of_methodNamed B.named
  have hlocks := B.notSynchronized
  subst hsz
  have hD := hD0.self (sz := s.heap.size)
  generalize hAe : va_A (va_pl L F) s.heap.size = A at hD ⊢
  have hA : ∀ q : Nat, s.heap.size ≤ q → A q := fun q h => by rw [← hAe]; exact Or.inr h
  have hS : va_S A s.heap s.heap [] := va_S.rf
  have hR : FR ty [ρ + 18, ρ + 87, ρ + 88, ρ + 89, ρ + 90, ρ + 23] F F := FR.refl
  have hl := lv_entry ([.ref h0]) (n := 3) (Nat.le_of_ble_eq_true rfl)
  rw [lg_entry_eq]
  generalize (lg_sl ([.ref h0]) ++ List.replicate (3 - (lg_sl ([.ref h0])).length) Slot.unset).toArray = ls at hl ⊢
  have hl : lv_has ls 3 [(0, .ref h0)] := hl
  obtain ⟨hq_23, hq_24, hq_25, hq_26, hq_27, hgO, hgA, hgB, hq_28⟩ := hW.sc hL_h0 hT_h0
  refine lv_aload_n hx hb dX15_isPower_0 rfl (lv_at hl 0 rfl) ?_
  obtain ⟨v14_29, v15_30, v17_31, v18_32, v19_33, v20_34, v21_35, v22_36, v33_37, v52_38, v53_39, v54_40, hF_41, hq_42, hq_43, hq_44, hq_45, hq_46⟩ := hO.mod hL_h0 hT_h0
  refine pg_get (ci := 15) (v := .ref m64) (C := RX15) (T := TX15) (N := 59) hx hb hts it_15 hown hK hP hL_h0 hF_41 rfl 47 (by decide) (hts _ kt_907) (fun _ h9 => h9) rfl dX15_isPower_1 ?_
  refine lv_aload_n hx hb dX15_isPower_4 rfl (lv_at hl 0 rfl) ?_
  refine pg_get (ci := 15) (v := .ref mo) (C := RX15) (T := TX15) (N := 59) hx hb hts it_15 hown hK hP hL_h0 hF_41 rfl 39 (by decide) (hts _ kt_811) (fun _ h9 => h9) rfl dX15_isPower_5 ?_
  obtain ⟨hi_47, ht_48⟩ := hW.f_m64 hL_h0 hT_h0
  obtain ⟨hq_49, hq_50⟩ := hW.octs hi_47 ht_48
  obtain ⟨hi_51, ht_52⟩ := hW.f_mo hL_h0 hT_h0
  obtain ⟨hq_53, hq_54⟩ := hW.ints hi_51 ht_52
  have hFc := pg_free hD hS hA
  refine va_callv (va_runS (As := [.ref m64, .ref mo]) (rest := []) ⟨hx, hb, hml, hown, hts⟩ (s_X15_digits l dC dI cs ty gm L s.heap.size F m64 (ρ + 22) mo (ρ + 18) hW hi_47 ht_48 hi_51 ht_52) ⟨callB_of 2 hts (gi kt_908) rfl rfl rfl (hts _ kt_669) (hts _ kt_909) (by decide +kernel) ⟨Nat.le_of_ble_eq_true rfl, Nat.le_of_ble_eq_true rfl⟩, (hts _ kt_910)⟩ ⟨fun a U g mk q => ⟨q.1, PTm.calling q.2⟩, fun U hU hWm => ⟨rfl, PTm.mk hU hWm hP hK hD hE hO⟩⟩ rfl rfl hl.1 rfl (lv_room (Nat.le_of_ble_eq_true rfl)) dX15_isPower_8 ⟨by show _ + 0 ≤ 0; omega, by show _ + 0 ≤ 0; omega⟩) hS (fun q _ h => hFc q h) hFc (fun u t H1 locs ht hvm hw hB hz1 hk1 hS => ?_)
  obtain ⟨F_56, hB1⟩ := hB
  obtain ⟨hP, hD, hO, hR⟩ := QTm.back hB1 ht hFc hR (fun q h => by simp only [List.mem_cons, List.not_mem_nil, or_false] at h ⊢; omega)
  have hF_57 : F_56 h0 = .inr (15, (.ref ta) :: (.int (nI zt)) :: (.int (nI zo)) :: (.int (nI ze)) :: (.ref ou) :: (.ref so) :: (.ref ad) :: (.ref na) :: (.ref va) :: (.ref lc) :: (.ref dm) :: (.int (nI fm)) :: (.int (nI sn)) :: (.ref tg) :: (.int v14_29) :: (.int v15_30) :: (.ref pe) :: (.int v17_31) :: (.int v18_32) :: (.int v19_33) :: (.int v20_34) :: (.int v21_35) :: (.int v22_36) :: (.ref ml) :: (.ref bg) :: (.ref co) :: (.ref sp) :: (.ref nb0) :: (.ref nb1) :: (.ref nb2) :: (.int (nI nf)) :: (.int (nI bd)) :: (.int (nI mm)) :: (.int v33_37) :: (.ref pl) :: (.ref se) :: (.ref ke) :: (.ref wi) :: (.ref hs) :: (.ref mo) :: (.ref po) :: (.ref nu) :: (.ref pr) :: (.ref sq) :: (.ref xa) :: (.ref sa) :: (.ref n64) :: (.ref m64) :: (.ref ex) :: (.ref wh) :: (.ref sd) :: (.ref tk) :: (.int v52_38) :: (.int v53_39) :: (.int v54_40) :: (.ref hd) :: (.ref ak) :: (.ref ho) :: (.ref ot) :: []) := (hB1.2.2.2 h0 (by rw [hT_h0]; simp)).trans hF_41
  generalize H1 = H at hP hS ⊢
  refine lv_aload_n hx hb dX15_isPower_11 rfl (lv_at hl 0 rfl) ?_
  refine pg_get (ci := 15) (v := .ref n64) (C := RX15) (T := TX15) (N := 59) hx hb hts it_15 hown hK hP hL_h0 hF_57 rfl 46 (by decide) (hts _ kt_875) (fun _ h9 => h9) rfl dX15_isPower_12 ?_
  refine lv_aload_n hx hb dX15_isPower_15 rfl (lv_at hl 0 rfl) ?_
  refine pg_get (ci := 15) (v := .ref nu) (C := RX15) (T := TX15) (N := 59) hx hb hts it_15 hown hK hP hL_h0 hF_57 rfl 41 (by decide) (hts _ kt_911) (fun _ h9 => h9) rfl dX15_isPower_16 ?_
  obtain ⟨hi_58, ht_59⟩ := hW.f_n64 hL_h0 hT_h0
  obtain ⟨hq_60, hq_61⟩ := hW.octs hi_58 ht_59
  obtain ⟨hi_62, ht_63⟩ := hW.f_nu hL_h0 hT_h0
  obtain ⟨hq_64, hq_65⟩ := hW.ints hi_62 ht_63
  have hFc := pg_free hD hS hA
  refine va_callv (va_runS (As := [.ref n64, .ref nu]) (rest := []) ⟨hx, hb, hml, hown, hts⟩ (s_X15_digits l dC dI cs ty gm L H.size F_56 n64 (ρ + 21) nu (ρ + 88) hW hi_58 ht_59 hi_62 ht_63) ⟨callB_of 2 hts (gi kt_908) rfl rfl rfl (hts _ kt_669) (hts _ kt_909) (by decide +kernel) ⟨Nat.le_of_ble_eq_true rfl, Nat.le_of_ble_eq_true rfl⟩, (hts _ kt_910)⟩ ⟨fun a U g mk q => ⟨q.1, PTm.calling q.2⟩, fun U hU hWm => ⟨rfl, PTm.mk hU hWm hP hK hD hE hO⟩⟩ rfl rfl hl.1 rfl (lv_room (Nat.le_of_ble_eq_true rfl)) dX15_isPower_19 ⟨by show _ + 0 ≤ 0; omega, by show _ + 0 ≤ 0; omega⟩) hS (fun q _ h => hFc q h) hFc (fun u t H1 locs ht hvm hw hB hz1 hk1 hS => ?_)
  obtain ⟨F_67, hB1⟩ := hB
  obtain ⟨hP, hD, hO, hR⟩ := QTm.back hB1 ht hFc hR (fun q h => by simp only [List.mem_cons, List.not_mem_nil, or_false] at h ⊢; omega)
  have hF_68 : F_67 h0 = .inr (15, (.ref ta) :: (.int (nI zt)) :: (.int (nI zo)) :: (.int (nI ze)) :: (.ref ou) :: (.ref so) :: (.ref ad) :: (.ref na) :: (.ref va) :: (.ref lc) :: (.ref dm) :: (.int (nI fm)) :: (.int (nI sn)) :: (.ref tg) :: (.int v14_29) :: (.int v15_30) :: (.ref pe) :: (.int v17_31) :: (.int v18_32) :: (.int v19_33) :: (.int v20_34) :: (.int v21_35) :: (.int v22_36) :: (.ref ml) :: (.ref bg) :: (.ref co) :: (.ref sp) :: (.ref nb0) :: (.ref nb1) :: (.ref nb2) :: (.int (nI nf)) :: (.int (nI bd)) :: (.int (nI mm)) :: (.int v33_37) :: (.ref pl) :: (.ref se) :: (.ref ke) :: (.ref wi) :: (.ref hs) :: (.ref mo) :: (.ref po) :: (.ref nu) :: (.ref pr) :: (.ref sq) :: (.ref xa) :: (.ref sa) :: (.ref n64) :: (.ref m64) :: (.ref ex) :: (.ref wh) :: (.ref sd) :: (.ref tk) :: (.int v52_38) :: (.int v53_39) :: (.int v54_40) :: (.ref hd) :: (.ref ak) :: (.ref ho) :: (.ref ot) :: []) := (hB1.2.2.2 h0 (by rw [hT_h0]; simp)).trans hF_57
  generalize H1 = H at hP hS ⊢
  refine lv_aload_n hx hb dX15_isPower_22 rfl (lv_at hl 0 rfl) ?_
  refine lv_aload_n hx hb dX15_isPower_23 rfl (lv_at hl 0 rfl) ?_
  refine pg_get (ci := 15) (v := .ref nu) (C := RX15) (T := TX15) (N := 59) hx hb hts it_15 hown hK hP hL_h0 hF_68 rfl 41 (by decide) (hts _ kt_911) (fun _ h9 => h9) rfl dX15_isPower_24 ?_
  refine lv_bipush (v := 32) hx hb dX15_isPower_27 (by decide) ?_
  refine lv_aload_n hx hb dX15_isPower_29 rfl (lv_at hl 0 rfl) ?_
  refine pg_get (ci := 15) (v := .ref po) (C := RX15) (T := TX15) (N := 59) hx hb hts it_15 hown hK hP hL_h0 hF_68 rfl 40 (by decide) (hts _ kt_817) (fun _ h9 => h9) rfl dX15_isPower_30 ?_
  obtain ⟨hi_69, ht_70⟩ := hW.f_po hL_h0 hT_h0
  obtain ⟨hq_71, hq_72⟩ := hW.ints hi_69 ht_70
  have hFc := pg_free hD hS hA
  refine va_callv (va_runV (As := [.ref nu, .int 32, .ref po]) (rest := []) ⟨hx, hb, hml, hown, hts⟩ (s_X15_remainder_32 l dC dI cs ty gm L H.size F_67 h0 ρ ta ou so ad na va lc dm tg pe ml bg co sp nb0 nb1 nb2 pl se ke wi hs mo po nu pr sq xa sa n64 m64 ex wh sd tk hd ak ho ot sx s0 s1 s2 nf bd mm zo fm sn hg gc gv ze zt nu (ρ + 88) po (ρ + 87) hW hL_h0 hT_h0 hi_62 ht_63 hi_69 ht_70) ⟨callB_of 3 hts (gi kt_818) rfl rfl rfl (hts _ kt_669) (hts _ kt_819) (by decide +kernel) ⟨Nat.le_of_ble_eq_true rfl, Nat.le_of_ble_eq_true rfl⟩, (hts _ kt_820), (hts _ kt_821)⟩ ⟨fun a U g mk q => ⟨q.1, PTm.calling q.2⟩, pg_recv hK hP hL_h0 hF_68 (q := (RX15, TX15, 59)) rfl, fun U hU hWm => ⟨rfl, PTm.mk hU hWm hP hK hD hE hO⟩⟩ rfl rfl hl.1 rfl (lv_room (Nat.le_of_ble_eq_true rfl)) dX15_isPower_33 ⟨by show _ + 0 ≤ 0; omega, by show _ + 0 ≤ 0; omega⟩) hS (fun q _ h => hFc q h) hFc (fun u t H1 locs ht hvm hw hB hz1 hk1 hS => ?_)
  obtain ⟨F_74, hB1⟩ := hB
  obtain ⟨hP, hD, hO, hR⟩ := QTm.back hB1 ht hFc hR (fun q h => by simp only [List.mem_cons, List.not_mem_nil, or_false] at h ⊢; omega)
  have hF_75 : F_74 h0 = .inr (15, (.ref ta) :: (.int (nI zt)) :: (.int (nI zo)) :: (.int (nI ze)) :: (.ref ou) :: (.ref so) :: (.ref ad) :: (.ref na) :: (.ref va) :: (.ref lc) :: (.ref dm) :: (.int (nI fm)) :: (.int (nI sn)) :: (.ref tg) :: (.int v14_29) :: (.int v15_30) :: (.ref pe) :: (.int v17_31) :: (.int v18_32) :: (.int v19_33) :: (.int v20_34) :: (.int v21_35) :: (.int v22_36) :: (.ref ml) :: (.ref bg) :: (.ref co) :: (.ref sp) :: (.ref nb0) :: (.ref nb1) :: (.ref nb2) :: (.int (nI nf)) :: (.int (nI bd)) :: (.int (nI mm)) :: (.int v33_37) :: (.ref pl) :: (.ref se) :: (.ref ke) :: (.ref wi) :: (.ref hs) :: (.ref mo) :: (.ref po) :: (.ref nu) :: (.ref pr) :: (.ref sq) :: (.ref xa) :: (.ref sa) :: (.ref n64) :: (.ref m64) :: (.ref ex) :: (.ref wh) :: (.ref sd) :: (.ref tk) :: (.int v52_38) :: (.int v53_39) :: (.int v54_40) :: (.ref hd) :: (.ref ak) :: (.ref ho) :: (.ref ot) :: []) := (hB1.2.2.2 h0 (by rw [hT_h0]; simp)).trans hF_68
  generalize H1 = H at hP hS ⊢
  refine lv_aload_n hx hb dX15_isPower_36 rfl (lv_at hl 0 rfl) ?_
  refine pg_get (ci := 15) (v := .ref po) (C := RX15) (T := TX15) (N := 59) hx hb hts it_15 hown hK hP hL_h0 hF_75 rfl 40 (by decide) (hts _ kt_817) (fun _ h9 => h9) rfl dX15_isPower_37 ?_
  refine lv_iconst (v := 0) hx hb dX15_isPower_40 (by decide) ?_
  refine lv_aload_n hx hb dX15_isPower_41 rfl (lv_at hl 0 rfl) ?_
  refine pg_get (ci := 15) (v := .ref nu) (C := RX15) (T := TX15) (N := 59) hx hb hts it_15 hown hK hP hL_h0 hF_75 rfl 41 (by decide) (hts _ kt_911) (fun _ h9 => h9) rfl dX15_isPower_42 ?_
  refine lv_iconst (v := 0) hx hb dX15_isPower_45 (by decide) ?_
  refine lv_bipush (v := 33) hx hb dX15_isPower_46 (by decide) ?_
  obtain ⟨f_76, hF_77⟩ := hO.ints hi_69 ht_70
  obtain ⟨f_78, hF_79⟩ := hO.ints hi_62 ht_63
  refine pg_copyi hx hb (by rw [hml]; exact hl.1.symm) hown (hts _ kt_912) (hts _ kt_29) (hts _ kt_30) (hts _ kt_31) hK hP hD hS hi_69 hi_62 0 0 hF_77 hF_79 rfl rfl rfl (by decide) (by decide) (by decide) (by decide) (by decide) (fun _ _ => rfl) (Nat.le_of_ble_eq_true rfl) (by decide) dX15_isPower_48 (fun H locs hP hD hS => ?_)
  obtain ⟨F_80, he_81, hP, hD, hO, hR⟩ : ∃ G, G = va_up F_74 nu (.inl (cs 16, 33, .inl (va_cpy f_76 f_78 (0 : Int32).toNatClampNeg (0 : Int32).toNatClampNeg (33 : Int32).toNatClampNeg))) ∧ va_P (dC, dI) vwCl (va_pl L G) H ∧ va_D A (va_pl L G) ∧ OKm cs ty gm L G ∧ FR ty [ρ + 18, ρ + 87, ρ + 88, ρ + 89, ρ + 90, ρ + 23] F G := ⟨_, rfl, hP, hD, hO.up (shm.ints ht_63 ⟨_, rfl⟩), hR.up ht_63 (by simp)⟩
  have hF_82 : F_80 nu = .inl (cs 16, 33, .inl (va_cpy f_76 f_78 (0 : Int32).toNatClampNeg (0 : Int32).toNatClampNeg (33 : Int32).toNatClampNeg)) := by rw [he_81]; exact up_self
  have hF_83 : F_80 h0 = .inr (15, (.ref ta) :: (.int (nI zt)) :: (.int (nI zo)) :: (.int (nI ze)) :: (.ref ou) :: (.ref so) :: (.ref ad) :: (.ref na) :: (.ref va) :: (.ref lc) :: (.ref dm) :: (.int (nI fm)) :: (.int (nI sn)) :: (.ref tg) :: (.int v14_29) :: (.int v15_30) :: (.ref pe) :: (.int v17_31) :: (.int v18_32) :: (.int v19_33) :: (.int v20_34) :: (.int v21_35) :: (.int v22_36) :: (.ref ml) :: (.ref bg) :: (.ref co) :: (.ref sp) :: (.ref nb0) :: (.ref nb1) :: (.ref nb2) :: (.int (nI nf)) :: (.int (nI bd)) :: (.int (nI mm)) :: (.int v33_37) :: (.ref pl) :: (.ref se) :: (.ref ke) :: (.ref wi) :: (.ref hs) :: (.ref mo) :: (.ref po) :: (.ref nu) :: (.ref pr) :: (.ref sq) :: (.ref xa) :: (.ref sa) :: (.ref n64) :: (.ref m64) :: (.ref ex) :: (.ref wh) :: (.ref sd) :: (.ref tk) :: (.int v52_38) :: (.int v53_39) :: (.int v54_40) :: (.ref hd) :: (.ref ak) :: (.ref ho) :: (.ref ot) :: []) := by rw [he_81, up_ne (ne_ty hT_h0 ht_63 (by simp))]; exact hF_75
  have hF_84 : F_80 po = .inl (cs 16, 33, .inl f_76) := by rw [he_81, up_ne (ne_ty2 ht_70 ht_63 (by simp))]; exact hF_77
  obtain ⟨f_85, hF_82⟩ : ∃ f : Nat → Int32, F_80 nu = .inl (cs 16, 33, .inl f) := ⟨_, hF_82⟩
  refine lv_iconst (v := 0) hx hb dX15_isPower_51 (by decide) ?_
  refine lv_istore_n (lv' := [(1, .int 0), (0, .ref h0)]) hx hb dX15_isPower_52 rfl hl (by decide) rfl (fun ls hl => ?_)
  refine W.widen (k := 0) (n := 0) (by omega) (by omega) ?_
  have hF_87 : F h0 = .inr (15, (.ref ta) :: (.int (nI zt)) :: (.int (nI zo)) :: (.int (nI ze)) :: (.ref ou) :: (.ref so) :: (.ref ad) :: (.ref na) :: (.ref va) :: (.ref lc) :: (.ref dm) :: (.int (nI fm)) :: (.int (nI sn)) :: (.ref tg) :: (.int v14_29) :: (.int v15_30) :: (.ref pe) :: (.int v17_31) :: (.int v18_32) :: (.int v19_33) :: (.int v20_34) :: (.int v21_35) :: (.int v22_36) :: (.ref ml) :: (.ref bg) :: (.ref co) :: (.ref sp) :: (.ref nb0) :: (.ref nb1) :: (.ref nb2) :: (.int (nI nf)) :: (.int (nI bd)) :: (.int (nI mm)) :: (.int v33_37) :: (.ref pl) :: (.ref se) :: (.ref ke) :: (.ref wi) :: (.ref hs) :: (.ref mo) :: (.ref po) :: (.ref nu) :: (.ref pr) :: (.ref sq) :: (.ref xa) :: (.ref sa) :: (.ref n64) :: (.ref m64) :: (.ref ex) :: (.ref wh) :: (.ref sd) :: (.ref tk) :: (.int v52_38) :: (.int v53_39) :: (.int v54_40) :: (.ref hd) :: (.ref ak) :: (.ref ho) :: (.ref ot) :: []) := (hR h0 (by rw [hT_h0]; simp)).symm.trans hF_83
  refine pl_loopm (σ := Nat) A (dC, dI) cs ty gm L [ρ + 18, ρ + 87, ρ + 88, ρ + 89, ρ + 90, ρ + 23] F 53 3 (fun j => [(1, .int (nI j)), (0, .ref h0)]) (fun j => []) (fun j _ => j ≤ 16) (fun j => 16 - j) ?_ 0 F_80 (by omega) hO hR _ _ hP hD hS ls (lv_sub hl [0, 1] rfl)
  rintro j F_86 hv_88 hO hR ih_89 H locs hP hD hS ls hl
  have hl : lv_has ls 3 [(1, .int (nI j)), (0, .ref h0)] := hl
  have hv_88 : j ≤ 16 := hv_88
  refine W.eq (g2 := F0 m 53 ls []) rfl ?_
  have hF_90 : F_86 h0 = .inr (15, (.ref ta) :: (.int (nI zt)) :: (.int (nI zo)) :: (.int (nI ze)) :: (.ref ou) :: (.ref so) :: (.ref ad) :: (.ref na) :: (.ref va) :: (.ref lc) :: (.ref dm) :: (.int (nI fm)) :: (.int (nI sn)) :: (.ref tg) :: (.int v14_29) :: (.int v15_30) :: (.ref pe) :: (.int v17_31) :: (.int v18_32) :: (.int v19_33) :: (.int v20_34) :: (.int v21_35) :: (.int v22_36) :: (.ref ml) :: (.ref bg) :: (.ref co) :: (.ref sp) :: (.ref nb0) :: (.ref nb1) :: (.ref nb2) :: (.int (nI nf)) :: (.int (nI bd)) :: (.int (nI mm)) :: (.int v33_37) :: (.ref pl) :: (.ref se) :: (.ref ke) :: (.ref wi) :: (.ref hs) :: (.ref mo) :: (.ref po) :: (.ref nu) :: (.ref pr) :: (.ref sq) :: (.ref xa) :: (.ref sa) :: (.ref n64) :: (.ref m64) :: (.ref ex) :: (.ref wh) :: (.ref sd) :: (.ref tk) :: (.int v52_38) :: (.int v53_39) :: (.int v54_40) :: (.ref hd) :: (.ref ak) :: (.ref ho) :: (.ref ot) :: []) := (hR h0 (by rw [hT_h0]; simp)).trans hF_87
  refine lv_iload_n hx hb dX15_isPower_53 rfl (lv_at hl 0 rfl) ?_
  refine lv_bipush (v := 16) hx hb dX15_isPower_54 (by decide) ?_
  refine lv_icmp_ge (tgt := 88) hx hb dX15_isPower_56 (by decide) (fun c_91 => ?_) (fun c_91 => ?_)
  ·
    have hi_92 : 16 ≤ j := leN (N := 16) c_91
    refine lv_aload_n hx hb dX15_isPower_88 rfl (lv_at hl 1 rfl) ?_
    refine lv_aload_n hx hb dX15_isPower_89 rfl (lv_at hl 1 rfl) ?_
    refine pg_get (ci := 15) (v := .ref nu) (C := RX15) (T := TX15) (N := 59) hx hb hts it_15 hown hK hP hL_h0 hF_90 rfl 41 (by decide) (hts _ kt_911) (fun _ h9 => h9) rfl dX15_isPower_90 ?_
    have hFc := pg_free hD hS hA
    refine va_callv (va_runV (As := [.ref nu]) (rest := []) ⟨hx, hb, hml, hown, hts⟩ (s_X15_times l dC dI cs ty gm L H.size F_86 h0 ρ ta ou so ad na va lc dm tg pe ml bg co sp nb0 nb1 nb2 pl se ke wi hs mo po nu pr sq xa sa n64 m64 ex wh sd tk hd ak ho ot sx s0 s1 s2 nf bd mm zo fm sn hg gc gv ze zt nu (ρ + 88) hW hL_h0 hT_h0 hi_62 ht_63) ⟨callB_of 1 hts (gi kt_913) rfl rfl rfl (hts _ kt_669) (hts _ kt_914) (by decide +kernel) ⟨Nat.le_of_ble_eq_true rfl, Nat.le_of_ble_eq_true rfl⟩, (hts _ kt_915), (hts _ kt_916)⟩ ⟨fun a U g mk q => ⟨q.1, PTm.calling q.2⟩, pg_recv hK hP hL_h0 hF_90 (q := (RX15, TX15, 59)) rfl, fun U hU hWm => ⟨rfl, PTm.mk hU hWm hP hK hD hE hO⟩⟩ rfl rfl hl.1 rfl (lv_room (Nat.le_of_ble_eq_true rfl)) dX15_isPower_93 ⟨by show _ + 0 ≤ 0; omega, by show _ + 0 ≤ 0; omega⟩) hS (fun q _ h => hFc q h) hFc (fun u t H1 locs ht hvm hw hB hz1 hk1 hS => ?_)
    obtain ⟨F_94, hB1⟩ := hB
    obtain ⟨hP, hD, hO, hR⟩ := QTm.back hB1 ht hFc hR (fun q h => by simp only [List.mem_cons, List.not_mem_nil, or_false] at h ⊢; omega)
    have hF_95 : F_94 h0 = .inr (15, (.ref ta) :: (.int (nI zt)) :: (.int (nI zo)) :: (.int (nI ze)) :: (.ref ou) :: (.ref so) :: (.ref ad) :: (.ref na) :: (.ref va) :: (.ref lc) :: (.ref dm) :: (.int (nI fm)) :: (.int (nI sn)) :: (.ref tg) :: (.int v14_29) :: (.int v15_30) :: (.ref pe) :: (.int v17_31) :: (.int v18_32) :: (.int v19_33) :: (.int v20_34) :: (.int v21_35) :: (.int v22_36) :: (.ref ml) :: (.ref bg) :: (.ref co) :: (.ref sp) :: (.ref nb0) :: (.ref nb1) :: (.ref nb2) :: (.int (nI nf)) :: (.int (nI bd)) :: (.int (nI mm)) :: (.int v33_37) :: (.ref pl) :: (.ref se) :: (.ref ke) :: (.ref wi) :: (.ref hs) :: (.ref mo) :: (.ref po) :: (.ref nu) :: (.ref pr) :: (.ref sq) :: (.ref xa) :: (.ref sa) :: (.ref n64) :: (.ref m64) :: (.ref ex) :: (.ref wh) :: (.ref sd) :: (.ref tk) :: (.int v52_38) :: (.int v53_39) :: (.int v54_40) :: (.ref hd) :: (.ref ak) :: (.ref ho) :: (.ref ot) :: []) := (hB1.2.2.2 h0 (by rw [hT_h0]; simp)).trans hF_90
    generalize H1 = H at hP hS ⊢
    refine lv_aload_n hx hb dX15_isPower_96 rfl (lv_at hl 1 rfl) ?_
    refine pg_get (ci := 15) (v := .ref ex) (C := RX15) (T := TX15) (N := 59) hx hb hts it_15 hown hK hP hL_h0 hF_95 rfl 48 (by decide) (hts _ kt_917) (fun _ h9 => h9) rfl dX15_isPower_97 ?_
    refine lv_iconst (v := (-1)) hx hb dX15_isPower_100 (by decide) ?_
    obtain ⟨hi_96, ht_97⟩ := hW.f_ex hL_h0 hT_h0
    obtain ⟨hq_98, hq_99⟩ := hW.octs hi_96 ht_97
    have hFc := pg_free hD hS hA
    refine va_callv (va_runS (As := [.ref ex, .int (-1)]) (rest := []) ⟨hx, hb, hml, hown, hts⟩ (m_J7_fill_031fb l dC dI cs ty gm L H.size F_94 ex (ρ + 23) 64 (-1) hW hi_96 ht_97 (by first | omega | assumption | exact Or.inl rfl)) ⟨callB_of 2 hts (gi kt_918) rfl rfl rfl (hts _ kt_808) (hts _ kt_919) (by decide +kernel) ⟨Nat.le_of_ble_eq_true rfl, Nat.le_of_ble_eq_true rfl⟩, (hts _ kt_920)⟩ ⟨fun a U g mk q => ⟨q.1, PTm.calling q.2⟩, fun U hU hWm => ⟨rfl, PTm.mk hU hWm hP hK hD hE hO⟩⟩ rfl rfl hl.1 rfl (lv_room (Nat.le_of_ble_eq_true rfl)) dX15_isPower_101 ⟨by show _ + 0 ≤ 0; omega, by show _ + 0 ≤ 0; omega⟩) hS (fun q _ h => hFc q h) hFc (fun u t H1 locs ht hvm hw hB hz1 hk1 hS => ?_)
    obtain ⟨F_101, hB1⟩ := hB
    obtain ⟨hP, hD, hO, hR⟩ := QTm.back hB1 ht hFc hR (fun q h => by simp only [List.mem_cons, List.not_mem_nil, or_false] at h ⊢; omega)
    have hF_102 : F_101 h0 = .inr (15, (.ref ta) :: (.int (nI zt)) :: (.int (nI zo)) :: (.int (nI ze)) :: (.ref ou) :: (.ref so) :: (.ref ad) :: (.ref na) :: (.ref va) :: (.ref lc) :: (.ref dm) :: (.int (nI fm)) :: (.int (nI sn)) :: (.ref tg) :: (.int v14_29) :: (.int v15_30) :: (.ref pe) :: (.int v17_31) :: (.int v18_32) :: (.int v19_33) :: (.int v20_34) :: (.int v21_35) :: (.int v22_36) :: (.ref ml) :: (.ref bg) :: (.ref co) :: (.ref sp) :: (.ref nb0) :: (.ref nb1) :: (.ref nb2) :: (.int (nI nf)) :: (.int (nI bd)) :: (.int (nI mm)) :: (.int v33_37) :: (.ref pl) :: (.ref se) :: (.ref ke) :: (.ref wi) :: (.ref hs) :: (.ref mo) :: (.ref po) :: (.ref nu) :: (.ref pr) :: (.ref sq) :: (.ref xa) :: (.ref sa) :: (.ref n64) :: (.ref m64) :: (.ref ex) :: (.ref wh) :: (.ref sd) :: (.ref tk) :: (.int v52_38) :: (.int v53_39) :: (.int v54_40) :: (.ref hd) :: (.ref ak) :: (.ref ho) :: (.ref ot) :: []) := (hB1.2.2.2 h0 (by rw [hT_h0]; simp)).trans hF_95
    generalize H1 = H at hP hS ⊢
    refine lv_aload_n hx hb dX15_isPower_104 rfl (lv_at hl 1 rfl) ?_
    refine pg_get (ci := 15) (v := .ref ex) (C := RX15) (T := TX15) (N := 59) hx hb hts it_15 hown hK hP hL_h0 hF_102 rfl 48 (by decide) (hts _ kt_917) (fun _ h9 => h9) rfl dX15_isPower_105 ?_
    refine lv_iconst (v := 0) hx hb dX15_isPower_108 (by decide) ?_
    refine lv_iconst (v := 0) hx hb dX15_isPower_109 (by decide) ?_
    obtain ⟨f_103, hF_104, hq_105⟩ := hO.octs hi_96 ht_97
    refine pg_bast hx hb hK hP hD hS hi_96 1 hF_104 rfl (show vp_in (0 : Int32) 64 from (show vp_in (nI 0) 64 from vp_in_nI (by omega) (by omega))) dX15_isPower_110 (fun H locs hP hD hS => ?_)
    obtain ⟨F_106, he_107, hP, hD, hO, hR⟩ : ∃ G, G = va_up F_101 ex (.inl (cs 17, 64, .inl (upd f_103 (0 : Int32).toNatClampNeg (vp_nar .byte (0))))) ∧ va_P (dC, dI) vwCl (va_pl L G) H ∧ va_D A (va_pl L G) ∧ OKm cs ty gm L G ∧ FR ty [ρ + 18, ρ + 87, ρ + 88, ρ + 89, ρ + 90, ρ + 23] F G := ⟨_, rfl, hP, hD, hO.up (shm.octs ht_97 ⟨_, rfl, bfm_upd hq_105 _ _⟩), hR.up ht_97 (by simp)⟩
    have hF_108 : F_106 ex = .inl (cs 17, 64, .inl (upd f_103 (0 : Int32).toNatClampNeg (vp_nar .byte (0)))) := by rw [he_107]; exact up_self
    have hF_109 : F_106 h0 = .inr (15, (.ref ta) :: (.int (nI zt)) :: (.int (nI zo)) :: (.int (nI ze)) :: (.ref ou) :: (.ref so) :: (.ref ad) :: (.ref na) :: (.ref va) :: (.ref lc) :: (.ref dm) :: (.int (nI fm)) :: (.int (nI sn)) :: (.ref tg) :: (.int v14_29) :: (.int v15_30) :: (.ref pe) :: (.int v17_31) :: (.int v18_32) :: (.int v19_33) :: (.int v20_34) :: (.int v21_35) :: (.int v22_36) :: (.ref ml) :: (.ref bg) :: (.ref co) :: (.ref sp) :: (.ref nb0) :: (.ref nb1) :: (.ref nb2) :: (.int (nI nf)) :: (.int (nI bd)) :: (.int (nI mm)) :: (.int v33_37) :: (.ref pl) :: (.ref se) :: (.ref ke) :: (.ref wi) :: (.ref hs) :: (.ref mo) :: (.ref po) :: (.ref nu) :: (.ref pr) :: (.ref sq) :: (.ref xa) :: (.ref sa) :: (.ref n64) :: (.ref m64) :: (.ref ex) :: (.ref wh) :: (.ref sd) :: (.ref tk) :: (.int v52_38) :: (.int v53_39) :: (.int v54_40) :: (.ref hd) :: (.ref ak) :: (.ref ho) :: (.ref ot) :: []) := by rw [he_107, up_ne (ne_ty hT_h0 ht_97 (by simp))]; exact hF_102
    obtain ⟨f_110, hF_108, hq_111⟩ : ∃ f : Nat → Int32, F_106 ex = .inl (cs 17, 64, .inl f) ∧ BFm f := ⟨_, hF_108, bfm_upd hq_105 _ _⟩
    refine lv_aload_n hx hb dX15_isPower_111 rfl (lv_at hl 1 rfl) ?_
    refine pg_get (ci := 15) (v := .ref ex) (C := RX15) (T := TX15) (N := 59) hx hb hts it_15 hown hK hP hL_h0 hF_109 rfl 48 (by decide) (hts _ kt_917) (fun _ h9 => h9) rfl dX15_isPower_112 ?_
    refine lv_iconst (v := 1) hx hb dX15_isPower_115 (by decide) ?_
    refine lv_iconst (v := 1) hx hb dX15_isPower_116 (by decide) ?_
    refine pg_bast hx hb hK hP hD hS hi_96 1 hF_108 rfl (show vp_in (1 : Int32) 64 from (show vp_in (nI 1) 64 from vp_in_nI (by omega) (by omega))) dX15_isPower_117 (fun H locs hP hD hS => ?_)
    obtain ⟨F_112, he_113, hP, hD, hO, hR⟩ : ∃ G, G = va_up F_106 ex (.inl (cs 17, 64, .inl (upd f_110 (1 : Int32).toNatClampNeg (vp_nar .byte (1))))) ∧ va_P (dC, dI) vwCl (va_pl L G) H ∧ va_D A (va_pl L G) ∧ OKm cs ty gm L G ∧ FR ty [ρ + 18, ρ + 87, ρ + 88, ρ + 89, ρ + 90, ρ + 23] F G := ⟨_, rfl, hP, hD, hO.up (shm.octs ht_97 ⟨_, rfl, bfm_upd hq_111 _ _⟩), hR.up ht_97 (by simp)⟩
    have hF_114 : F_112 ex = .inl (cs 17, 64, .inl (upd f_110 (1 : Int32).toNatClampNeg (vp_nar .byte (1)))) := by rw [he_113]; exact up_self
    have hF_115 : F_112 h0 = .inr (15, (.ref ta) :: (.int (nI zt)) :: (.int (nI zo)) :: (.int (nI ze)) :: (.ref ou) :: (.ref so) :: (.ref ad) :: (.ref na) :: (.ref va) :: (.ref lc) :: (.ref dm) :: (.int (nI fm)) :: (.int (nI sn)) :: (.ref tg) :: (.int v14_29) :: (.int v15_30) :: (.ref pe) :: (.int v17_31) :: (.int v18_32) :: (.int v19_33) :: (.int v20_34) :: (.int v21_35) :: (.int v22_36) :: (.ref ml) :: (.ref bg) :: (.ref co) :: (.ref sp) :: (.ref nb0) :: (.ref nb1) :: (.ref nb2) :: (.int (nI nf)) :: (.int (nI bd)) :: (.int (nI mm)) :: (.int v33_37) :: (.ref pl) :: (.ref se) :: (.ref ke) :: (.ref wi) :: (.ref hs) :: (.ref mo) :: (.ref po) :: (.ref nu) :: (.ref pr) :: (.ref sq) :: (.ref xa) :: (.ref sa) :: (.ref n64) :: (.ref m64) :: (.ref ex) :: (.ref wh) :: (.ref sd) :: (.ref tk) :: (.int v52_38) :: (.int v53_39) :: (.int v54_40) :: (.ref hd) :: (.ref ak) :: (.ref ho) :: (.ref ot) :: []) := by rw [he_113, up_ne (ne_ty hT_h0 ht_97 (by simp))]; exact hF_109
    obtain ⟨f_116, hF_114, hq_117⟩ : ∃ f : Nat → Int32, F_112 ex = .inl (cs 17, 64, .inl f) ∧ BFm f := ⟨_, hF_114, bfm_upd hq_111 _ _⟩
    refine lv_aload_n hx hb dX15_isPower_118 rfl (lv_at hl 1 rfl) ?_
    refine pg_get (ci := 15) (v := .ref ex) (C := RX15) (T := TX15) (N := 59) hx hb hts it_15 hown hK hP hL_h0 hF_115 rfl 48 (by decide) (hts _ kt_917) (fun _ h9 => h9) rfl dX15_isPower_119 ?_
    refine lv_bipush (v := 12) hx hb dX15_isPower_122 (by decide) ?_
    refine lv_iconst (v := 0) hx hb dX15_isPower_124 (by decide) ?_
    refine pg_bast hx hb hK hP hD hS hi_96 1 hF_114 rfl (show vp_in (12 : Int32) 64 from (show vp_in (nI 12) 64 from vp_in_nI (by omega) (by omega))) dX15_isPower_125 (fun H locs hP hD hS => ?_)
    obtain ⟨F_118, he_119, hP, hD, hO, hR⟩ : ∃ G, G = va_up F_112 ex (.inl (cs 17, 64, .inl (upd f_116 (12 : Int32).toNatClampNeg (vp_nar .byte (0))))) ∧ va_P (dC, dI) vwCl (va_pl L G) H ∧ va_D A (va_pl L G) ∧ OKm cs ty gm L G ∧ FR ty [ρ + 18, ρ + 87, ρ + 88, ρ + 89, ρ + 90, ρ + 23] F G := ⟨_, rfl, hP, hD, hO.up (shm.octs ht_97 ⟨_, rfl, bfm_upd hq_117 _ _⟩), hR.up ht_97 (by simp)⟩
    have hF_120 : F_118 ex = .inl (cs 17, 64, .inl (upd f_116 (12 : Int32).toNatClampNeg (vp_nar .byte (0)))) := by rw [he_119]; exact up_self
    have hF_121 : F_118 h0 = .inr (15, (.ref ta) :: (.int (nI zt)) :: (.int (nI zo)) :: (.int (nI ze)) :: (.ref ou) :: (.ref so) :: (.ref ad) :: (.ref na) :: (.ref va) :: (.ref lc) :: (.ref dm) :: (.int (nI fm)) :: (.int (nI sn)) :: (.ref tg) :: (.int v14_29) :: (.int v15_30) :: (.ref pe) :: (.int v17_31) :: (.int v18_32) :: (.int v19_33) :: (.int v20_34) :: (.int v21_35) :: (.int v22_36) :: (.ref ml) :: (.ref bg) :: (.ref co) :: (.ref sp) :: (.ref nb0) :: (.ref nb1) :: (.ref nb2) :: (.int (nI nf)) :: (.int (nI bd)) :: (.int (nI mm)) :: (.int v33_37) :: (.ref pl) :: (.ref se) :: (.ref ke) :: (.ref wi) :: (.ref hs) :: (.ref mo) :: (.ref po) :: (.ref nu) :: (.ref pr) :: (.ref sq) :: (.ref xa) :: (.ref sa) :: (.ref n64) :: (.ref m64) :: (.ref ex) :: (.ref wh) :: (.ref sd) :: (.ref tk) :: (.int v52_38) :: (.int v53_39) :: (.int v54_40) :: (.ref hd) :: (.ref ak) :: (.ref ho) :: (.ref ot) :: []) := by rw [he_119, up_ne (ne_ty hT_h0 ht_97 (by simp))]; exact hF_115
    obtain ⟨f_122, hF_120, hq_123⟩ : ∃ f : Nat → Int32, F_118 ex = .inl (cs 17, 64, .inl f) ∧ BFm f := ⟨_, hF_120, bfm_upd hq_117 _ _⟩
    refine lv_iconst (v := 0) hx hb dX15_isPower_126 (by decide) ?_
    refine lv_istore_n (lv' := [(1, .int 0), (0, .ref h0)]) hx hb dX15_isPower_127 rfl hl (by decide) rfl (fun ls hl => ?_)
    refine W.widen (k := 0) (n := 0) (by omega) (by omega) ?_
    have hF_125 : F h0 = .inr (15, (.ref ta) :: (.int (nI zt)) :: (.int (nI zo)) :: (.int (nI ze)) :: (.ref ou) :: (.ref so) :: (.ref ad) :: (.ref na) :: (.ref va) :: (.ref lc) :: (.ref dm) :: (.int (nI fm)) :: (.int (nI sn)) :: (.ref tg) :: (.int v14_29) :: (.int v15_30) :: (.ref pe) :: (.int v17_31) :: (.int v18_32) :: (.int v19_33) :: (.int v20_34) :: (.int v21_35) :: (.int v22_36) :: (.ref ml) :: (.ref bg) :: (.ref co) :: (.ref sp) :: (.ref nb0) :: (.ref nb1) :: (.ref nb2) :: (.int (nI nf)) :: (.int (nI bd)) :: (.int (nI mm)) :: (.int v33_37) :: (.ref pl) :: (.ref se) :: (.ref ke) :: (.ref wi) :: (.ref hs) :: (.ref mo) :: (.ref po) :: (.ref nu) :: (.ref pr) :: (.ref sq) :: (.ref xa) :: (.ref sa) :: (.ref n64) :: (.ref m64) :: (.ref ex) :: (.ref wh) :: (.ref sd) :: (.ref tk) :: (.int v52_38) :: (.int v53_39) :: (.int v54_40) :: (.ref hd) :: (.ref ak) :: (.ref ho) :: (.ref ot) :: []) := (hR h0 (by rw [hT_h0]; simp)).symm.trans hF_121
    refine pl_loopm (σ := Nat) A (dC, dI) cs ty gm L [ρ + 18, ρ + 87, ρ + 88, ρ + 89, ρ + 90, ρ + 23] F 128 3 (fun j2 => [(1, .int (nI j2)), (0, .ref h0)]) (fun j2 => []) (fun j2 _ => j2 ≤ 19) (fun j2 => 19 - j2) ?_ 0 F_118 (by omega) hO hR _ _ hP hD hS ls (lv_sub hl [0, 1] rfl)
    rintro j2 F_124 hv_126 hO hR ih_127 H locs hP hD hS ls hl
    have hl : lv_has ls 3 [(1, .int (nI j2)), (0, .ref h0)] := hl
    have hv_126 : j2 ≤ 19 := hv_126
    refine W.eq (g2 := F0 m 128 ls []) rfl ?_
    have hF_128 : F_124 h0 = .inr (15, (.ref ta) :: (.int (nI zt)) :: (.int (nI zo)) :: (.int (nI ze)) :: (.ref ou) :: (.ref so) :: (.ref ad) :: (.ref na) :: (.ref va) :: (.ref lc) :: (.ref dm) :: (.int (nI fm)) :: (.int (nI sn)) :: (.ref tg) :: (.int v14_29) :: (.int v15_30) :: (.ref pe) :: (.int v17_31) :: (.int v18_32) :: (.int v19_33) :: (.int v20_34) :: (.int v21_35) :: (.int v22_36) :: (.ref ml) :: (.ref bg) :: (.ref co) :: (.ref sp) :: (.ref nb0) :: (.ref nb1) :: (.ref nb2) :: (.int (nI nf)) :: (.int (nI bd)) :: (.int (nI mm)) :: (.int v33_37) :: (.ref pl) :: (.ref se) :: (.ref ke) :: (.ref wi) :: (.ref hs) :: (.ref mo) :: (.ref po) :: (.ref nu) :: (.ref pr) :: (.ref sq) :: (.ref xa) :: (.ref sa) :: (.ref n64) :: (.ref m64) :: (.ref ex) :: (.ref wh) :: (.ref sd) :: (.ref tk) :: (.int v52_38) :: (.int v53_39) :: (.int v54_40) :: (.ref hd) :: (.ref ak) :: (.ref ho) :: (.ref ot) :: []) := (hR h0 (by rw [hT_h0]; simp)).trans hF_125
    refine lv_iload_n hx hb dX15_isPower_128 rfl (lv_at hl 0 rfl) ?_
    refine lv_bipush (v := 19) hx hb dX15_isPower_129 (by decide) ?_
    refine lv_icmp_ge (tgt := 156) hx hb dX15_isPower_131 (by decide) (fun c_129 => ?_) (fun c_129 => ?_)
    ·
      have hi_130 : 19 ≤ j2 := leN (N := 19) c_129
      refine lv_aload_n hx hb dX15_isPower_156 rfl (lv_at hl 1 rfl) ?_
      refine pg_get (ci := 15) (v := .ref xa) (C := RX15) (T := TX15) (N := 59) hx hb hts it_15 hown hK hP hL_h0 hF_128 rfl 44 (by decide) (hts _ kt_921) (fun _ h9 => h9) rfl dX15_isPower_157 ?_
      refine lv_iconst (v := 0) hx hb dX15_isPower_160 (by decide) ?_
      refine lv_aload_n hx hb dX15_isPower_161 rfl (lv_at hl 1 rfl) ?_
      refine pg_get (ci := 15) (v := .ref ex) (C := RX15) (T := TX15) (N := 59) hx hb hts it_15 hown hK hP hL_h0 hF_128 rfl 48 (by decide) (hts _ kt_917) (fun _ h9 => h9) rfl dX15_isPower_162 ?_
      refine lv_bipush (v := 32) hx hb dX15_isPower_165 (by decide) ?_
      refine lv_bipush (v := 32) hx hb dX15_isPower_167 (by decide) ?_
      obtain ⟨hi_131, ht_132⟩ := hW.f_xa hL_h0 hT_h0
      obtain ⟨hq_133, hq_134⟩ := hW.octs hi_131 ht_132
      obtain ⟨f_135, hF_136, hq_137⟩ := hO.octs hi_131 ht_132
      obtain ⟨f_138, hF_139, hq_140⟩ := hO.octs hi_96 ht_97
      refine pg_copyi hx hb (by rw [hml]; exact hl.1.symm) hown (hts _ kt_912) (hts _ kt_29) (hts _ kt_30) (hts _ kt_31) hK hP hD hS hi_131 hi_96 1 1 hF_136 hF_139 rfl rfl rfl (by decide) (by decide) (by decide) (by decide) (by decide) (fun _ _ => hq_137 _) (Nat.le_of_ble_eq_true rfl) (by decide) dX15_isPower_169 (fun H locs hP hD hS => ?_)
      obtain ⟨F_141, he_142, hP, hD, hO, hR⟩ : ∃ G, G = va_up F_124 ex (.inl (cs 17, 64, .inl (va_cpy f_135 f_138 (0 : Int32).toNatClampNeg (32 : Int32).toNatClampNeg (32 : Int32).toNatClampNeg))) ∧ va_P (dC, dI) vwCl (va_pl L G) H ∧ va_D A (va_pl L G) ∧ OKm cs ty gm L G ∧ FR ty [ρ + 18, ρ + 87, ρ + 88, ρ + 89, ρ + 90, ρ + 23] F G := ⟨_, rfl, hP, hD, hO.up (shm.octs ht_97 ⟨_, rfl, bfm_cpy hq_137 hq_140 _ _ _⟩), hR.up ht_97 (by simp)⟩
      have hF_143 : F_141 ex = .inl (cs 17, 64, .inl (va_cpy f_135 f_138 (0 : Int32).toNatClampNeg (32 : Int32).toNatClampNeg (32 : Int32).toNatClampNeg)) := by rw [he_142]; exact up_self
      have hF_144 : F_141 h0 = .inr (15, (.ref ta) :: (.int (nI zt)) :: (.int (nI zo)) :: (.int (nI ze)) :: (.ref ou) :: (.ref so) :: (.ref ad) :: (.ref na) :: (.ref va) :: (.ref lc) :: (.ref dm) :: (.int (nI fm)) :: (.int (nI sn)) :: (.ref tg) :: (.int v14_29) :: (.int v15_30) :: (.ref pe) :: (.int v17_31) :: (.int v18_32) :: (.int v19_33) :: (.int v20_34) :: (.int v21_35) :: (.int v22_36) :: (.ref ml) :: (.ref bg) :: (.ref co) :: (.ref sp) :: (.ref nb0) :: (.ref nb1) :: (.ref nb2) :: (.int (nI nf)) :: (.int (nI bd)) :: (.int (nI mm)) :: (.int v33_37) :: (.ref pl) :: (.ref se) :: (.ref ke) :: (.ref wi) :: (.ref hs) :: (.ref mo) :: (.ref po) :: (.ref nu) :: (.ref pr) :: (.ref sq) :: (.ref xa) :: (.ref sa) :: (.ref n64) :: (.ref m64) :: (.ref ex) :: (.ref wh) :: (.ref sd) :: (.ref tk) :: (.int v52_38) :: (.int v53_39) :: (.int v54_40) :: (.ref hd) :: (.ref ak) :: (.ref ho) :: (.ref ot) :: []) := by rw [he_142, up_ne (ne_ty hT_h0 ht_97 (by simp))]; exact hF_128
      have hF_145 : F_141 xa = .inl (cs 17, 32, .inl f_135) := by rw [he_142, up_ne (ne_ty2 ht_132 ht_97 (by simp))]; exact hF_136
      obtain ⟨f_146, hF_143, hq_147⟩ : ∃ f : Nat → Int32, F_141 ex = .inl (cs 17, 64, .inl f) ∧ BFm f := ⟨_, hF_143, bfm_cpy hq_137 hq_140 _ _ _⟩
      refine lv_aload_n hx hb dX15_isPower_172 rfl (lv_at hl 1 rfl) ?_
      refine pg_get (ci := 15) (v := .ref ex) (C := RX15) (T := TX15) (N := 59) hx hb hts it_15 hown hK hP hL_h0 hF_144 rfl 48 (by decide) (hts _ kt_917) (fun _ h9 => h9) rfl dX15_isPower_173 ?_
      refine lv_aload_n hx hb dX15_isPower_176 rfl (lv_at hl 1 rfl) ?_
      refine pg_get (ci := 15) (v := .ref sq) (C := RX15) (T := TX15) (N := 59) hx hb hts it_15 hown hK hP hL_h0 hF_144 rfl 43 (by decide) (hts _ kt_922) (fun _ h9 => h9) rfl dX15_isPower_177 ?_
      obtain ⟨hi_148, ht_149⟩ := hW.f_sq hL_h0 hT_h0
      obtain ⟨hq_150, hq_151⟩ := hW.ints hi_148 ht_149
      have hFc := pg_free hD hS hA
      refine va_callv (va_runS (As := [.ref ex, .ref sq]) (rest := []) ⟨hx, hb, hml, hown, hts⟩ (s_X15_digits l dC dI cs ty gm L H.size F_141 ex (ρ + 23) sq (ρ + 90) hW hi_96 ht_97 hi_148 ht_149) ⟨callB_of 2 hts (gi kt_908) rfl rfl rfl (hts _ kt_669) (hts _ kt_909) (by decide +kernel) ⟨Nat.le_of_ble_eq_true rfl, Nat.le_of_ble_eq_true rfl⟩, (hts _ kt_910)⟩ ⟨fun a U g mk q => ⟨q.1, PTm.calling q.2⟩, fun U hU hWm => ⟨rfl, PTm.mk hU hWm hP hK hD hE hO⟩⟩ rfl rfl hl.1 rfl (lv_room (Nat.le_of_ble_eq_true rfl)) dX15_isPower_180 ⟨by show _ + 0 ≤ 0; omega, by show _ + 0 ≤ 0; omega⟩) hS (fun q _ h => hFc q h) hFc (fun u t H1 locs ht hvm hw hB hz1 hk1 hS => ?_)
      obtain ⟨F_153, hB1⟩ := hB
      obtain ⟨hP, hD, hO, hR⟩ := QTm.back hB1 ht hFc hR (fun q h => by simp only [List.mem_cons, List.not_mem_nil, or_false] at h ⊢; omega)
      have hF_154 : F_153 ex = .inl (cs 17, 64, .inl f_146) := (hB1.2.2.2 ex (by rw [ht_97]; simp)).trans hF_143
      have hF_155 : F_153 h0 = .inr (15, (.ref ta) :: (.int (nI zt)) :: (.int (nI zo)) :: (.int (nI ze)) :: (.ref ou) :: (.ref so) :: (.ref ad) :: (.ref na) :: (.ref va) :: (.ref lc) :: (.ref dm) :: (.int (nI fm)) :: (.int (nI sn)) :: (.ref tg) :: (.int v14_29) :: (.int v15_30) :: (.ref pe) :: (.int v17_31) :: (.int v18_32) :: (.int v19_33) :: (.int v20_34) :: (.int v21_35) :: (.int v22_36) :: (.ref ml) :: (.ref bg) :: (.ref co) :: (.ref sp) :: (.ref nb0) :: (.ref nb1) :: (.ref nb2) :: (.int (nI nf)) :: (.int (nI bd)) :: (.int (nI mm)) :: (.int v33_37) :: (.ref pl) :: (.ref se) :: (.ref ke) :: (.ref wi) :: (.ref hs) :: (.ref mo) :: (.ref po) :: (.ref nu) :: (.ref pr) :: (.ref sq) :: (.ref xa) :: (.ref sa) :: (.ref n64) :: (.ref m64) :: (.ref ex) :: (.ref wh) :: (.ref sd) :: (.ref tk) :: (.int v52_38) :: (.int v53_39) :: (.int v54_40) :: (.ref hd) :: (.ref ak) :: (.ref ho) :: (.ref ot) :: []) := (hB1.2.2.2 h0 (by rw [hT_h0]; simp)).trans hF_144
      have hF_156 : F_153 xa = .inl (cs 17, 32, .inl f_135) := (hB1.2.2.2 xa (by rw [ht_132]; simp)).trans hF_145
      generalize H1 = H at hP hS ⊢
      refine lv_iconst (v := 1) hx hb dX15_isPower_183 (by decide) ?_
      refine lv_istore_n (lv' := [(1, .int 1), (0, .ref h0)]) hx hb dX15_isPower_184 rfl hl (by decide) rfl (fun ls hl => ?_)
      refine lv_iconst (v := 0) hx hb dX15_isPower_185 (by decide) ?_
      refine lv_istore_n (lv' := [(2, .int 0), (1, .int 1), (0, .ref h0)]) hx hb dX15_isPower_186 rfl hl (by decide) rfl (fun ls hl => ?_)
      refine W.widen (k := 0) (n := 0) (by omega) (by omega) ?_
      have hF_158 : F h0 = .inr (15, (.ref ta) :: (.int (nI zt)) :: (.int (nI zo)) :: (.int (nI ze)) :: (.ref ou) :: (.ref so) :: (.ref ad) :: (.ref na) :: (.ref va) :: (.ref lc) :: (.ref dm) :: (.int (nI fm)) :: (.int (nI sn)) :: (.ref tg) :: (.int v14_29) :: (.int v15_30) :: (.ref pe) :: (.int v17_31) :: (.int v18_32) :: (.int v19_33) :: (.int v20_34) :: (.int v21_35) :: (.int v22_36) :: (.ref ml) :: (.ref bg) :: (.ref co) :: (.ref sp) :: (.ref nb0) :: (.ref nb1) :: (.ref nb2) :: (.int (nI nf)) :: (.int (nI bd)) :: (.int (nI mm)) :: (.int v33_37) :: (.ref pl) :: (.ref se) :: (.ref ke) :: (.ref wi) :: (.ref hs) :: (.ref mo) :: (.ref po) :: (.ref nu) :: (.ref pr) :: (.ref sq) :: (.ref xa) :: (.ref sa) :: (.ref n64) :: (.ref m64) :: (.ref ex) :: (.ref wh) :: (.ref sd) :: (.ref tk) :: (.int v52_38) :: (.int v53_39) :: (.int v54_40) :: (.ref hd) :: (.ref ak) :: (.ref ho) :: (.ref ot) :: []) := (hR h0 (by rw [hT_h0]; simp)).symm.trans hF_155
      have hF_159 : F xa = .inl (cs 17, 32, .inl f_135) := (hR xa (by rw [ht_132]; simp)).symm.trans hF_156
      refine pl_loopm (σ := Nat × Int32) A (dC, dI) cs ty gm L [ρ + 18, ρ + 87, ρ + 88, ρ + 89, ρ + 90, ρ + 23] F 187 3 (fun (j3, w1) => [(2, .int (nI j3)), (1, .int w1), (0, .ref h0)]) (fun (j3, w1) => []) (fun (j3, w1) _ => j3 ≤ 33 ∧ (w1 = 0 ∨ w1 = 1)) (fun (j3, w1) => 33 - j3) ?_ (0, 1) F_153 (⟨by omega, Or.inr rfl⟩) hO hR _ _ hP hD hS ls (lv_sub hl [0, 1, 2] rfl)
      rintro ⟨j3, w1⟩ F_157 hv_160 hO hR ih_161 H locs hP hD hS ls hl
      have hl : lv_has ls 3 [(2, .int (nI j3)), (1, .int w1), (0, .ref h0)] := hl
      have hv_160 : j3 ≤ 33 ∧ (w1 = 0 ∨ w1 = 1) := hv_160
      refine W.eq (g2 := F0 m 187 ls []) rfl ?_
      have hF_162 : F_157 h0 = .inr (15, (.ref ta) :: (.int (nI zt)) :: (.int (nI zo)) :: (.int (nI ze)) :: (.ref ou) :: (.ref so) :: (.ref ad) :: (.ref na) :: (.ref va) :: (.ref lc) :: (.ref dm) :: (.int (nI fm)) :: (.int (nI sn)) :: (.ref tg) :: (.int v14_29) :: (.int v15_30) :: (.ref pe) :: (.int v17_31) :: (.int v18_32) :: (.int v19_33) :: (.int v20_34) :: (.int v21_35) :: (.int v22_36) :: (.ref ml) :: (.ref bg) :: (.ref co) :: (.ref sp) :: (.ref nb0) :: (.ref nb1) :: (.ref nb2) :: (.int (nI nf)) :: (.int (nI bd)) :: (.int (nI mm)) :: (.int v33_37) :: (.ref pl) :: (.ref se) :: (.ref ke) :: (.ref wi) :: (.ref hs) :: (.ref mo) :: (.ref po) :: (.ref nu) :: (.ref pr) :: (.ref sq) :: (.ref xa) :: (.ref sa) :: (.ref n64) :: (.ref m64) :: (.ref ex) :: (.ref wh) :: (.ref sd) :: (.ref tk) :: (.int v52_38) :: (.int v53_39) :: (.int v54_40) :: (.ref hd) :: (.ref ak) :: (.ref ho) :: (.ref ot) :: []) := (hR h0 (by rw [hT_h0]; simp)).trans hF_158
      have hF_163 : F_157 xa = .inl (cs 17, 32, .inl f_135) := (hR xa (by rw [ht_132]; simp)).trans hF_159
      obtain ⟨hv1, hv2⟩ := hv_160
      refine lv_iload_n hx hb dX15_isPower_187 rfl (lv_at hl 0 rfl) ?_
      refine lv_bipush (v := 33) hx hb dX15_isPower_188 (by decide) ?_
      refine lv_icmp_ge (tgt := 222) hx hb dX15_isPower_190 (by decide) (fun c_164 => ?_) (fun c_164 => ?_)
      ·
        have hi_165 : 33 ≤ j3 := leN (N := 33) c_164
        refine lv_iload_n hx hb dX15_isPower_222 rfl (lv_at hl 1 rfl) ?_
        refine W.widen (k := 0) (n := 0) (by omega) (by omega) ?_
        exact W.zret (v := w1) (ty := .boolean) hx hb hr (bitN hv2) (fun t ht hWm => ⟨⟨w1, (), rfl, hv2, ⟨F_157, QTm.mk ht hP hD hO hR⟩⟩, hS.F ht⟩) hS.2.2 dX15_isPower_223
      ·
        have hi_166 : j3 < 33 := ltN (N := 33) c_164
        refine lv_iload_n hx hb dX15_isPower_193 rfl (lv_at hl 1 rfl) ?_
        refine lv_aload_n hx hb dX15_isPower_194 rfl (lv_at hl 2 rfl) ?_
        refine pg_get (ci := 15) (v := .ref sq) (C := RX15) (T := TX15) (N := 59) hx hb hts it_15 hown hK hP hL_h0 hF_162 rfl 43 (by decide) (hts _ kt_922) (fun _ h9 => h9) rfl dX15_isPower_195 ?_
        refine lv_iload_n hx hb dX15_isPower_198 rfl (lv_at hl 0 rfl) ?_
        obtain ⟨f_167, hF_168⟩ := hO.ints hi_148 ht_149
        refine pg_iald hx hb hK hP hi_148 0 hF_168 rfl (vp_in_nI (by omega) (by omega)) dX15_isPower_199 ?_
        refine lv_topi (fun x_169 _ => ?_)
        refine lv_aload_n hx hb dX15_isPower_200 rfl (lv_at hl 2 rfl) ?_
        refine pg_get (ci := 15) (v := .ref po) (C := RX15) (T := TX15) (N := 59) hx hb hts it_15 hown hK hP hL_h0 hF_162 rfl 40 (by decide) (hts _ kt_817) (fun _ h9 => h9) rfl dX15_isPower_201 ?_
        refine lv_iload_n hx hb dX15_isPower_204 rfl (lv_at hl 0 rfl) ?_
        obtain ⟨f_170, hF_171⟩ := hO.ints hi_69 ht_70
        refine pg_iald hx hb hK hP hi_69 0 hF_171 rfl (vp_in_nI (by omega) (by omega)) dX15_isPower_205 ?_
        refine lv_topi (fun x_172 _ => ?_)
        refine lv_icmp_ne (tgt := 213) hx hb dX15_isPower_206 (by decide) (fun c_173 => ?_) (fun c_173 => ?_)
        ·
          refine lv_iconst (v := 0) hx hb dX15_isPower_213 (by decide) ?_
          refine lv_iand hx hb dX15_isPower_214 ?_
          refine lv_topi (fun x_174 ex_174 => ?_)
          obtain rfl : x_174 = (w1 &&& 0) := ex_174.trans (rfl)
          refine lv_istore_n (lv' := [(1, .int (w1 &&& 0)), (2, .int (nI j3)), (0, .ref h0)]) hx hb dX15_isPower_215 rfl hl (by decide) rfl (fun ls hl => ?_)
          refine lv_iinc (v := (nI (j3 + 1))) (lv' := [(2, .int (nI (j3 + 1))), (1, .int (w1 &&& 0)), (0, .ref h0)]) hx hb dX15_isPower_216 hl (k := 1) rfl (nI_1 _) (by decide) rfl (fun ls hl => ?_)
          refine lv_goto (tgt := 187) hx hb dX15_isPower_219 (by decide) ?_
          refine W.widen (k := 0) (n := 0) (by omega) (by omega) ?_
          exact ih_161 ((j3 + 1), (w1 &&& 0)) F_157 (⟨by omega, andbit hv2 (by first | exact Or.inl rfl | exact Or.inr rfl)⟩) (by show 33 - (j3 + 1) < 33 - j3; omega) hO hR _ _ hP hD hS ls (lv_sub hl [0, 1, 2] rfl)
        ·
          refine lv_iconst (v := 1) hx hb dX15_isPower_209 (by decide) ?_
          refine lv_goto (tgt := 214) hx hb dX15_isPower_210 (by decide) ?_
          refine lv_iand hx hb dX15_isPower_214 ?_
          refine lv_topi (fun x_175 ex_175 => ?_)
          obtain rfl : x_175 = (w1 &&& 1) := ex_175.trans (rfl)
          refine lv_istore_n (lv' := [(1, .int (w1 &&& 1)), (2, .int (nI j3)), (0, .ref h0)]) hx hb dX15_isPower_215 rfl hl (by decide) rfl (fun ls hl => ?_)
          refine lv_iinc (v := (nI (j3 + 1))) (lv' := [(2, .int (nI (j3 + 1))), (1, .int (w1 &&& 1)), (0, .ref h0)]) hx hb dX15_isPower_216 hl (k := 1) rfl (nI_1 _) (by decide) rfl (fun ls hl => ?_)
          refine lv_goto (tgt := 187) hx hb dX15_isPower_219 (by decide) ?_
          refine W.widen (k := 0) (n := 0) (by omega) (by omega) ?_
          exact ih_161 ((j3 + 1), (w1 &&& 1)) F_157 (⟨by omega, andbit hv2 (by first | exact Or.inl rfl | exact Or.inr rfl)⟩) (by show 33 - (j3 + 1) < 33 - j3; omega) hO hR _ _ hP hD hS ls (lv_sub hl [0, 1, 2] rfl)
    ·
      have hi_176 : j2 < 19 := ltN (N := 19) c_129
      refine lv_aload_n hx hb dX15_isPower_134 rfl (lv_at hl 1 rfl) ?_
      refine pg_get (ci := 15) (v := .ref ex) (C := RX15) (T := TX15) (N := 59) hx hb hts it_15 hown hK hP hL_h0 hF_128 rfl 48 (by decide) (hts _ kt_917) (fun _ h9 => h9) rfl dX15_isPower_135 ?_
      refine lv_bipush (v := 13) hx hb dX15_isPower_138 (by decide) ?_
      refine lv_iload_n hx hb dX15_isPower_140 rfl (lv_at hl 0 rfl) ?_
      refine lv_iadd hx hb dX15_isPower_141 ?_
      refine lv_topi (fun x_177 ex_177 => ?_)
      obtain rfl : x_177 = (nI (13 + j2)) := ex_177.trans (nI_add 13 j2)
      refine lv_aload_n hx hb dX15_isPower_142 rfl (lv_at hl 1 rfl) ?_
      refine pg_get (ci := 15) (v := .ref hd) (C := RX15) (T := TX15) (N := 59) hx hb hts it_15 hown hK hP hL_h0 hF_128 rfl 55 (by decide) (hts _ kt_923) (fun _ h9 => h9) rfl dX15_isPower_143 ?_
      refine lv_iload_n hx hb dX15_isPower_146 rfl (lv_at hl 0 rfl) ?_
      obtain ⟨hi_178, ht_179⟩ := hW.f_hd hL_h0 hT_h0
      obtain ⟨f_180, hF_181, hq_182⟩ := hO.kst hi_178 ht_179
      refine pg_iald hx hb hK hP hi_178 0 hF_181 rfl (vp_in_nI (by omega) (by omega)) dX15_isPower_147 ?_
      refine lv_topi (fun x_183 _ => ?_)
      refine lv_i2b hx hb dX15_isPower_148 rfl ?_
      refine lv_topi (fun x_184 _ => ?_)
      obtain ⟨f_185, hF_186, hq_187⟩ := hO.octs hi_96 ht_97
      refine pg_bast hx hb hK hP hD hS hi_96 1 hF_186 rfl (vp_in_nI (by omega) (by omega)) dX15_isPower_149 (fun H locs hP hD hS => ?_)
      obtain ⟨F_188, he_189, hP, hD, hO, hR⟩ : ∃ G, G = va_up F_124 ex (.inl (cs 17, 64, .inl (upd f_185 ((nI (13 + j2))).toNatClampNeg (vp_nar .byte (x_184))))) ∧ va_P (dC, dI) vwCl (va_pl L G) H ∧ va_D A (va_pl L G) ∧ OKm cs ty gm L G ∧ FR ty [ρ + 18, ρ + 87, ρ + 88, ρ + 89, ρ + 90, ρ + 23] F G := ⟨_, rfl, hP, hD, hO.up (shm.octs ht_97 ⟨_, rfl, bfm_upd hq_187 _ _⟩), hR.up ht_97 (by simp)⟩
      have hF_190 : F_188 ex = .inl (cs 17, 64, .inl (upd f_185 ((nI (13 + j2))).toNatClampNeg (vp_nar .byte (x_184)))) := by rw [he_189]; exact up_self
      have hF_191 : F_188 h0 = .inr (15, (.ref ta) :: (.int (nI zt)) :: (.int (nI zo)) :: (.int (nI ze)) :: (.ref ou) :: (.ref so) :: (.ref ad) :: (.ref na) :: (.ref va) :: (.ref lc) :: (.ref dm) :: (.int (nI fm)) :: (.int (nI sn)) :: (.ref tg) :: (.int v14_29) :: (.int v15_30) :: (.ref pe) :: (.int v17_31) :: (.int v18_32) :: (.int v19_33) :: (.int v20_34) :: (.int v21_35) :: (.int v22_36) :: (.ref ml) :: (.ref bg) :: (.ref co) :: (.ref sp) :: (.ref nb0) :: (.ref nb1) :: (.ref nb2) :: (.int (nI nf)) :: (.int (nI bd)) :: (.int (nI mm)) :: (.int v33_37) :: (.ref pl) :: (.ref se) :: (.ref ke) :: (.ref wi) :: (.ref hs) :: (.ref mo) :: (.ref po) :: (.ref nu) :: (.ref pr) :: (.ref sq) :: (.ref xa) :: (.ref sa) :: (.ref n64) :: (.ref m64) :: (.ref ex) :: (.ref wh) :: (.ref sd) :: (.ref tk) :: (.int v52_38) :: (.int v53_39) :: (.int v54_40) :: (.ref hd) :: (.ref ak) :: (.ref ho) :: (.ref ot) :: []) := by rw [he_189, up_ne (ne_ty hT_h0 ht_97 (by simp))]; exact hF_128
      have hF_192 : F_188 hd = .inl (cs 16, 19, .inl f_180) := by rw [he_189, up_ne (ne_ty ht_179 ht_97 (by simp))]; exact hF_181
      obtain ⟨f_193, hF_190, hq_194⟩ : ∃ f : Nat → Int32, F_188 ex = .inl (cs 17, 64, .inl f) ∧ BFm f := ⟨_, hF_190, bfm_upd hq_187 _ _⟩
      refine lv_iinc (v := (nI (j2 + 1))) (lv' := [(1, .int (nI (j2 + 1))), (0, .ref h0)]) hx hb dX15_isPower_150 hl (k := 0) rfl (nI_1 _) (by decide) rfl (fun ls hl => ?_)
      refine lv_goto (tgt := 128) hx hb dX15_isPower_153 (by decide) ?_
      refine W.widen (k := 0) (n := 0) (by omega) (by omega) ?_
      exact ih_127 (j2 + 1) F_188 (by first | omega | exact ⟨by omega, by omega⟩ | trivial) (by show 19 - (j2 + 1) < 19 - j2; omega) hO hR _ _ hP hD hS ls (lv_sub hl [0, 1] rfl)
  ·
    have hi_195 : j < 16 := ltN (N := 16) c_91
    refine lv_aload_n hx hb dX15_isPower_59 rfl (lv_at hl 1 rfl) ?_
    refine pg_get (ci := 15) (v := .ref po) (C := RX15) (T := TX15) (N := 59) hx hb hts it_15 hown hK hP hL_h0 hF_90 rfl 40 (by decide) (hts _ kt_817) (fun _ h9 => h9) rfl dX15_isPower_60 ?_
    refine lv_iconst (v := 0) hx hb dX15_isPower_63 (by decide) ?_
    refine lv_aload_n hx hb dX15_isPower_64 rfl (lv_at hl 1 rfl) ?_
    refine pg_get (ci := 15) (v := .ref sq) (C := RX15) (T := TX15) (N := 59) hx hb hts it_15 hown hK hP hL_h0 hF_90 rfl 43 (by decide) (hts _ kt_922) (fun _ h9 => h9) rfl dX15_isPower_65 ?_
    refine lv_iconst (v := 0) hx hb dX15_isPower_68 (by decide) ?_
    refine lv_bipush (v := 33) hx hb dX15_isPower_69 (by decide) ?_
    obtain ⟨f_196, hF_197⟩ := hO.ints hi_69 ht_70
    obtain ⟨hi_198, ht_199⟩ := hW.f_sq hL_h0 hT_h0
    obtain ⟨hq_200, hq_201⟩ := hW.ints hi_198 ht_199
    obtain ⟨f_202, hF_203⟩ := hO.ints hi_198 ht_199
    refine pg_copyi hx hb (by rw [hml]; exact hl.1.symm) hown (hts _ kt_912) (hts _ kt_29) (hts _ kt_30) (hts _ kt_31) hK hP hD hS hi_69 hi_198 0 0 hF_197 hF_203 rfl rfl rfl (by decide) (by decide) (by decide) (by decide) (by decide) (fun _ _ => rfl) (Nat.le_of_ble_eq_true rfl) (by decide) dX15_isPower_71 (fun H locs hP hD hS => ?_)
    obtain ⟨F_204, he_205, hP, hD, hO, hR⟩ : ∃ G, G = va_up F_86 sq (.inl (cs 16, 33, .inl (va_cpy f_196 f_202 (0 : Int32).toNatClampNeg (0 : Int32).toNatClampNeg (33 : Int32).toNatClampNeg))) ∧ va_P (dC, dI) vwCl (va_pl L G) H ∧ va_D A (va_pl L G) ∧ OKm cs ty gm L G ∧ FR ty [ρ + 18, ρ + 87, ρ + 88, ρ + 89, ρ + 90, ρ + 23] F G := ⟨_, rfl, hP, hD, hO.up (shm.ints ht_199 ⟨_, rfl⟩), hR.up ht_199 (by simp)⟩
    have hF_206 : F_204 sq = .inl (cs 16, 33, .inl (va_cpy f_196 f_202 (0 : Int32).toNatClampNeg (0 : Int32).toNatClampNeg (33 : Int32).toNatClampNeg)) := by rw [he_205]; exact up_self
    have hF_207 : F_204 h0 = .inr (15, (.ref ta) :: (.int (nI zt)) :: (.int (nI zo)) :: (.int (nI ze)) :: (.ref ou) :: (.ref so) :: (.ref ad) :: (.ref na) :: (.ref va) :: (.ref lc) :: (.ref dm) :: (.int (nI fm)) :: (.int (nI sn)) :: (.ref tg) :: (.int v14_29) :: (.int v15_30) :: (.ref pe) :: (.int v17_31) :: (.int v18_32) :: (.int v19_33) :: (.int v20_34) :: (.int v21_35) :: (.int v22_36) :: (.ref ml) :: (.ref bg) :: (.ref co) :: (.ref sp) :: (.ref nb0) :: (.ref nb1) :: (.ref nb2) :: (.int (nI nf)) :: (.int (nI bd)) :: (.int (nI mm)) :: (.int v33_37) :: (.ref pl) :: (.ref se) :: (.ref ke) :: (.ref wi) :: (.ref hs) :: (.ref mo) :: (.ref po) :: (.ref nu) :: (.ref pr) :: (.ref sq) :: (.ref xa) :: (.ref sa) :: (.ref n64) :: (.ref m64) :: (.ref ex) :: (.ref wh) :: (.ref sd) :: (.ref tk) :: (.int v52_38) :: (.int v53_39) :: (.int v54_40) :: (.ref hd) :: (.ref ak) :: (.ref ho) :: (.ref ot) :: []) := by rw [he_205, up_ne (ne_ty hT_h0 ht_199 (by simp))]; exact hF_90
    have hF_208 : F_204 po = .inl (cs 16, 33, .inl f_196) := by rw [he_205, up_ne (ne_ty2 ht_70 ht_199 (by simp))]; exact hF_197
    obtain ⟨f_209, hF_206⟩ : ∃ f : Nat → Int32, F_204 sq = .inl (cs 16, 33, .inl f) := ⟨_, hF_206⟩
    refine lv_aload_n hx hb dX15_isPower_74 rfl (lv_at hl 1 rfl) ?_
    refine lv_aload_n hx hb dX15_isPower_75 rfl (lv_at hl 1 rfl) ?_
    refine pg_get (ci := 15) (v := .ref sq) (C := RX15) (T := TX15) (N := 59) hx hb hts it_15 hown hK hP hL_h0 hF_207 rfl 43 (by decide) (hts _ kt_922) (fun _ h9 => h9) rfl dX15_isPower_76 ?_
    have hFc := pg_free hD hS hA
    refine va_callv (va_runV (As := [.ref sq]) (rest := []) ⟨hx, hb, hml, hown, hts⟩ (s_X15_times l dC dI cs ty gm L H.size F_204 h0 ρ ta ou so ad na va lc dm tg pe ml bg co sp nb0 nb1 nb2 pl se ke wi hs mo po nu pr sq xa sa n64 m64 ex wh sd tk hd ak ho ot sx s0 s1 s2 nf bd mm zo fm sn hg gc gv ze zt sq (ρ + 90) hW hL_h0 hT_h0 hi_198 ht_199) ⟨callB_of 1 hts (gi kt_913) rfl rfl rfl (hts _ kt_669) (hts _ kt_914) (by decide +kernel) ⟨Nat.le_of_ble_eq_true rfl, Nat.le_of_ble_eq_true rfl⟩, (hts _ kt_915), (hts _ kt_916)⟩ ⟨fun a U g mk q => ⟨q.1, PTm.calling q.2⟩, pg_recv hK hP hL_h0 hF_207 (q := (RX15, TX15, 59)) rfl, fun U hU hWm => ⟨rfl, PTm.mk hU hWm hP hK hD hE hO⟩⟩ rfl rfl hl.1 rfl (lv_room (Nat.le_of_ble_eq_true rfl)) dX15_isPower_79 ⟨by show _ + 0 ≤ 0; omega, by show _ + 0 ≤ 0; omega⟩) hS (fun q _ h => hFc q h) hFc (fun u t H1 locs ht hvm hw hB hz1 hk1 hS => ?_)
    obtain ⟨F_211, hB1⟩ := hB
    obtain ⟨hP, hD, hO, hR⟩ := QTm.back hB1 ht hFc hR (fun q h => by simp only [List.mem_cons, List.not_mem_nil, or_false] at h ⊢; omega)
    have hF_212 : F_211 h0 = .inr (15, (.ref ta) :: (.int (nI zt)) :: (.int (nI zo)) :: (.int (nI ze)) :: (.ref ou) :: (.ref so) :: (.ref ad) :: (.ref na) :: (.ref va) :: (.ref lc) :: (.ref dm) :: (.int (nI fm)) :: (.int (nI sn)) :: (.ref tg) :: (.int v14_29) :: (.int v15_30) :: (.ref pe) :: (.int v17_31) :: (.int v18_32) :: (.int v19_33) :: (.int v20_34) :: (.int v21_35) :: (.int v22_36) :: (.ref ml) :: (.ref bg) :: (.ref co) :: (.ref sp) :: (.ref nb0) :: (.ref nb1) :: (.ref nb2) :: (.int (nI nf)) :: (.int (nI bd)) :: (.int (nI mm)) :: (.int v33_37) :: (.ref pl) :: (.ref se) :: (.ref ke) :: (.ref wi) :: (.ref hs) :: (.ref mo) :: (.ref po) :: (.ref nu) :: (.ref pr) :: (.ref sq) :: (.ref xa) :: (.ref sa) :: (.ref n64) :: (.ref m64) :: (.ref ex) :: (.ref wh) :: (.ref sd) :: (.ref tk) :: (.int v52_38) :: (.int v53_39) :: (.int v54_40) :: (.ref hd) :: (.ref ak) :: (.ref ho) :: (.ref ot) :: []) := (hB1.2.2.2 h0 (by rw [hT_h0]; simp)).trans hF_207
    generalize H1 = H at hP hS ⊢
    refine lv_iinc (v := (nI (j + 1))) (lv' := [(1, .int (nI (j + 1))), (0, .ref h0)]) hx hb dX15_isPower_82 hl (k := 0) rfl (nI_1 _) (by decide) rfl (fun ls hl => ?_)
    refine lv_goto (tgt := 53) hx hb dX15_isPower_85 (by decide) ?_
    refine W.widen (k := 0) (n := 0) (by omega) (by omega) ?_
    exact ih_89 (j + 1) F_211 (by first | omega | exact ⟨by omega, by omega⟩ | trivial) (by show 16 - (j + 1) < 16 - j; omega) hO hR _ _ hP hD hS ls (lv_sub hl [0, 1] rfl)
set_option maxHeartbeats 4000000 in
set_option maxRecDepth 100000 in
theorem s_X15_keyOf (l : Launch) (dC : Nat → ClassId) (dI : Nat → Nat → Nat) (cs : Nat → ClassId) (ty : TyM) (gm : Nat → Nat → Nat) (L : List Nat) (sz : Nat) (F : Nat → va_E) (h0 : Nat) (ρ : Nat) (ta : Nat) (ou : Nat) (so : Nat) (ad : Nat) (na : Nat) (va : Nat) (lc : Nat) (dm : Nat) (tg : Nat) (pe : Nat) (ml : Nat) (bg : Nat) (co : Nat) (sp : Nat) (nb0 : Nat) (nb1 : Nat) (nb2 : Nat) (pl : Nat) (se : Nat) (ke : Nat) (wi : Nat) (hs : Nat) (mo : Nat) (po : Nat) (nu : Nat) (pr : Nat) (sq : Nat) (xa : Nat) (sa : Nat) (n64 : Nat) (m64 : Nat) (ex : Nat) (wh : Nat) (sd : Nat) (tk : Nat) (hd : Nat) (ak : Nat) (ho : Nat) (ot : Nat) (sx : Nat) (s0 : Nat) (s1 : Nat) (s2 : Nat) (nf : Nat) (bd : Nat) (mm : Nat) (zo : Nat) (fm : Nat) (sn : Nat) (hg : Nat) (gc : Nat) (gv : Nat) (ze : Nat) (zt : Nat) (hW : WTm ty gm L) (hL_h0 : h0 ∈ L) (hT_h0 : ty h0 = (15, ρ, [ta, ou, so, ad, na, va, lc, dm, tg, pe, ml, bg, co, sp, nb0, nb1, nb2, pl, se, ke, wi, hs, mo, po, nu, pr, sq, xa, sa, n64, m64, ex, wh, sd, tk, hd, ak, ho, ot, sx, s0, s1, s2, nf, bd, mm, zo, fm, sn, hg, gc, gv, ze, zt])) : Met l yX15_keyOf (.code yX15_keyOf cX15_keyOf 3 (some .int) :: tb) ({ frames := 7, cells := 0, slots := 0, locals := 164 }) (va_Pc [.ref h0] (PTEm (dC, dI) cs ty gm L F sz [])) (va_Qi (fun (r : Int32) (_ : Unit) => True) (fun _ T9 => ∃ F2 : Nat → va_E, QTm (dC, dI) cs ty gm L [ρ + 13, ρ + 14, ρ + 22, ρ + 83, ρ + 84] F F2 (va_A (va_pl L F) sz) T9) (va_A (va_pl L F) sz)) 0 0 (va_A (va_pl L F) sz) := by
  refine Met.ofW (cc := cX15_keyOf) (maxL := 3) (ret := (some .int)) (by decide) rfl ?_
  intro p e s m args below meth c s₁ B hml hv
  obtain ⟨rfl, ⟨hsz, hP, hK, hD0, hE, hO⟩, hG, hX⟩ := hv
  have hx := B.exec
  have hb := B.bytes
  have hr := B.returns
  have hts : ∀ w ∈ tb, w.before _ s = true := fun w h => atoms_spec (ws := .code yX15_keyOf cX15_keyOf 3 (some .int) :: tb) B.pre w (List.mem_cons_of_mem _ h)
  have hown : s.vm.findClass RX15 = some m.cls := findClass_of_methodNamed B.named
  have hlocks := B.notSynchronized
  subst hsz
  have hD := hD0.self (sz := s.heap.size)
  generalize hAe : va_A (va_pl L F) s.heap.size = A at hD hG hX ⊢
  have hA : ∀ q : Nat, s.heap.size ≤ q → A q := fun q h => by rw [← hAe]; exact Or.inr h
  have hS : va_S A s.heap s.heap [] := va_S.rf
  have hR : FR ty [ρ + 13, ρ + 14, ρ + 22, ρ + 83, ρ + 84] F F := FR.refl
  have hl := lv_entry ([.ref h0]) (n := 3) (Nat.le_of_ble_eq_true rfl)
  rw [lg_entry_eq]
  generalize (lg_sl ([.ref h0]) ++ List.replicate (3 - (lg_sl ([.ref h0])).length) Slot.unset).toArray = ls at hl ⊢
  have hl : lv_has ls 3 [(0, .ref h0)] := hl
  obtain ⟨hq_23, hq_24, hq_25, hq_26, hq_27, hgO, hgA, hgB, hq_28⟩ := hW.sc hL_h0 hT_h0
  obtain ⟨hi_29, x_5, y0_6, y1_7, y2_8, ht_30⟩ := hW.f_ke hL_h0 hT_h0
  obtain ⟨hi_31, hi_32, hi_33, hi_34, ⟨r_35, ht_36⟩, ht_37, ht_38, ht_39, hq_40, hq_41⟩ := hW.tags hi_29 ht_30
  have ht_36 : ty x_5 = (14, ρ + 14, [r_35, 700]) := ht_36
  have ht_38 : ty y1_7 = (25, ρ + 83, [40, 700]) := ht_38
  have ht_39 : ty y2_8 = (25, ρ + 84, [40, 700]) := ht_39
  obtain ⟨z_42, hF_43, hq_44⟩ := hO.tags hi_29 ht_30
  obtain ⟨hi_45, ht_46, hq_47⟩ := hW.txt hi_31 ht_36
  refine lv_aload_n hx hb dX15_keyOf_0 rfl (lv_at hl 0 rfl) ?_
  refine lv_aload_n hx hb dX15_keyOf_1 rfl (lv_at hl 0 rfl) ?_
  obtain ⟨v14_48, v15_49, v17_50, v18_51, v19_52, v20_53, v21_54, v22_55, v33_56, v52_57, v53_58, v54_59, hF_60, hq_61, hq_62, hq_63, hq_64, hq_65⟩ := hO.mod hL_h0 hT_h0
  refine pg_get (ci := 15) (v := .ref wh) (C := RX15) (T := TX15) (N := 59) hx hb hts it_15 hown hK hP hL_h0 hF_60 rfl 49 (by decide) (hts _ kt_924) (fun _ h9 => h9) rfl dX15_keyOf_2 ?_
  obtain ⟨hi_66, r_18, ht_67⟩ := hW.f_wh hL_h0 hT_h0
  obtain ⟨hi_68, ht_69, hq_70⟩ := hW.txt hi_66 ht_67
  have hFc := pg_free hD hS hA
  refine va_calli (va_runV (As := [.ref wh]) (rest := []) ⟨hx, hb, hml, hown, hts⟩ (s_X15_isTrouble l dC dI cs ty gm L s.heap.size F h0 ρ ta ou so ad na va lc dm tg pe ml bg co sp nb0 nb1 nb2 pl se ke wi hs mo po nu pr sq xa sa n64 m64 ex wh sd tk hd ak ho ot sx s0 s1 s2 nf bd mm zo fm sn hg gc gv ze zt wh (ρ + 24) r_18 6000 hW hL_h0 hT_h0 hi_66 ht_67) ⟨callB_of 1 hts (gi kt_736) rfl rfl rfl (hts _ kt_669) (hts _ kt_737) (by decide +kernel) ⟨Nat.le_of_ble_eq_true rfl, Nat.le_of_ble_eq_true rfl⟩, (hts _ kt_738), (hts _ kt_739)⟩ ⟨fun a U g mk q => ⟨q.1, PTm.calling q.2⟩, pg_recv hK hP hL_h0 hF_60 (q := (RX15, TX15, 59)) rfl, fun U hU hWm => ⟨rfl, PTm.mk hU hWm hP hK hD hE hO⟩⟩ rfl rfl hl.1 rfl (lv_room (Nat.le_of_ble_eq_true rfl)) dX15_keyOf_5 ⟨by show _ + 0 ≤ 0; omega, by show _ + 0 ≤ 0; omega⟩) hS (fun q _ h => hFc q h) hFc (fun r_71 u t H1 locs ht hvm hw hB hz1 hk1 hS => ?_)
  obtain ⟨F_72, hB1⟩ := hB
  obtain rfl : F = F_72 := (funext (fun a => hB1.2.2.2 a List.not_mem_nil)).symm
  obtain ⟨hP, hD, hO, hR⟩ := QTm.back hB1 ht hFc hR (fun q h => absurd h List.not_mem_nil)
  generalize H1 = H at hP hS ⊢
  have hw : (r_71 = 0 ∨ r_71 = 1) := hw
  have hw_73 := hw
  refine lv_if_eq (tgt := 13) hx hb dX15_keyOf_8 (by decide) (fun c_74 => ?_) (fun c_74 => ?_)
  ·
    refine lv_iconst (v := 0) hx hb dX15_keyOf_13 (by decide) ?_
    refine lv_istore_n (lv' := [(1, .int 0), (0, .ref h0)]) hx hb dX15_keyOf_14 rfl hl (by decide) rfl (fun ls hl => ?_)
    refine W.widen (k := 0) (n := 0) (by omega) (by omega) ?_
    have hF_76 : F h0 = .inr (15, (.ref ta) :: (.int (nI zt)) :: (.int (nI zo)) :: (.int (nI ze)) :: (.ref ou) :: (.ref so) :: (.ref ad) :: (.ref na) :: (.ref va) :: (.ref lc) :: (.ref dm) :: (.int (nI fm)) :: (.int (nI sn)) :: (.ref tg) :: (.int v14_48) :: (.int v15_49) :: (.ref pe) :: (.int v17_50) :: (.int v18_51) :: (.int v19_52) :: (.int v20_53) :: (.int v21_54) :: (.int v22_55) :: (.ref ml) :: (.ref bg) :: (.ref co) :: (.ref sp) :: (.ref nb0) :: (.ref nb1) :: (.ref nb2) :: (.int (nI nf)) :: (.int (nI bd)) :: (.int (nI mm)) :: (.int v33_56) :: (.ref pl) :: (.ref se) :: (.ref ke) :: (.ref wi) :: (.ref hs) :: (.ref mo) :: (.ref po) :: (.ref nu) :: (.ref pr) :: (.ref sq) :: (.ref xa) :: (.ref sa) :: (.ref n64) :: (.ref m64) :: (.ref ex) :: (.ref wh) :: (.ref sd) :: (.ref tk) :: (.int v52_57) :: (.int v53_58) :: (.int v54_59) :: (.ref hd) :: (.ref ak) :: (.ref ho) :: (.ref ot) :: []) := (hR h0 (by rw [hT_h0]; simp)).symm.trans hF_60
    refine pl_loopm (σ := Nat) A (dC, dI) cs ty gm L [ρ + 13, ρ + 14, ρ + 22, ρ + 83, ρ + 84] F 15 3 (fun j => [(1, .int (nI j)), (0, .ref h0)]) (fun j => []) (fun j _ => j ≤ ze) (fun j => 40 - j) ?_ 0 F (by omega) hO hR _ _ hP hD hS ls (lv_sub hl [0, 1] rfl)
    rintro j F_75 hv_77 hO hR ih_78 H locs hP hD hS ls hl
    have hl : lv_has ls 3 [(1, .int (nI j)), (0, .ref h0)] := hl
    have hv_77 : j ≤ ze := hv_77
    refine W.eq (g2 := F0 m 15 ls []) rfl ?_
    have hF_79 : F_75 h0 = .inr (15, (.ref ta) :: (.int (nI zt)) :: (.int (nI zo)) :: (.int (nI ze)) :: (.ref ou) :: (.ref so) :: (.ref ad) :: (.ref na) :: (.ref va) :: (.ref lc) :: (.ref dm) :: (.int (nI fm)) :: (.int (nI sn)) :: (.ref tg) :: (.int v14_48) :: (.int v15_49) :: (.ref pe) :: (.int v17_50) :: (.int v18_51) :: (.int v19_52) :: (.int v20_53) :: (.int v21_54) :: (.int v22_55) :: (.ref ml) :: (.ref bg) :: (.ref co) :: (.ref sp) :: (.ref nb0) :: (.ref nb1) :: (.ref nb2) :: (.int (nI nf)) :: (.int (nI bd)) :: (.int (nI mm)) :: (.int v33_56) :: (.ref pl) :: (.ref se) :: (.ref ke) :: (.ref wi) :: (.ref hs) :: (.ref mo) :: (.ref po) :: (.ref nu) :: (.ref pr) :: (.ref sq) :: (.ref xa) :: (.ref sa) :: (.ref n64) :: (.ref m64) :: (.ref ex) :: (.ref wh) :: (.ref sd) :: (.ref tk) :: (.int v52_57) :: (.int v53_58) :: (.int v54_59) :: (.ref hd) :: (.ref ak) :: (.ref ho) :: (.ref ot) :: []) := (hR h0 (by rw [hT_h0]; simp)).trans hF_76
    refine lv_iload_n hx hb dX15_keyOf_15 rfl (lv_at hl 0 rfl) ?_
    refine lv_aload_n hx hb dX15_keyOf_16 rfl (lv_at hl 1 rfl) ?_
    refine pg_get (ci := 15) (v := .int (nI ze)) (C := RX15) (T := TX15) (N := 59) hx hb hts it_15 hown hK hP hL_h0 hF_79 rfl 3 (by decide) (hts _ kt_724) (fun _ h9 => h9) rfl dX15_keyOf_17 ?_
    refine lv_icmp_ge (tgt := 42) hx hb dX15_keyOf_20 (by decide) (fun c_80 => ?_) (fun c_80 => ?_)
    ·
      have hi_81 : ze ≤ j := leN (N := ze) c_80
      refine lv_iload_n hx hb dX15_keyOf_42 rfl (lv_at hl 0 rfl) ?_
      refine lv_aload_n hx hb dX15_keyOf_43 rfl (lv_at hl 1 rfl) ?_
      refine pg_get (ci := 15) (v := .int (nI ze)) (C := RX15) (T := TX15) (N := 59) hx hb hts it_15 hown hK hP hL_h0 hF_79 rfl 3 (by decide) (hts _ kt_724) (fun _ h9 => h9) rfl dX15_keyOf_44 ?_
      refine lv_icmp_ne (tgt := 53) hx hb dX15_keyOf_47 (by decide) (fun c_82 => ?_) (fun c_82 => ?_)
      ·
        have hi_83 : j ≠ ze := fun q => c_82 (by rw [q])
        obtain ⟨z_84, hF_85, hq_86⟩ := hO.tags hi_29 ht_30
        refine lv_aload_n hx hb dX15_keyOf_53 rfl (lv_at hl 1 rfl) ?_
        refine pg_get (ci := 15) (v := .ref va) (C := RX15) (T := TX15) (N := 59) hx hb hts it_15 hown hK hP hL_h0 hF_79 rfl 8 (by decide) (hts _ kt_732) (fun _ h9 => h9) rfl dX15_keyOf_54 ?_
        refine lv_iload_n hx hb dX15_keyOf_57 rfl (lv_at hl 0 rfl) ?_
        obtain ⟨hi_87, ht_88⟩ := hW.f_va hL_h0 hT_h0
        obtain ⟨f_89, hF_90, hq_91⟩ := hO.rtxj hi_87 ht_88
        obtain ⟨b_92, r_93, hbf_94, hi_95, ht_96⟩ := hq_91 j (by omega)
        refine pg_aald (r := b_92) hx hb hK hP hi_87 7 hF_90 rfl (vp_in_nI (by omega) (by omega)) (show f_89 ((nI j) : Int32).toNatClampNeg = _ from by rw [show ((nI j) : Int32) = nI j from rfl, nI_clamp (by omega)]; exact hbf_94) dX15_keyOf_58 ?_
        obtain ⟨hi_97, ht_98, hq_99⟩ := hW.txt hi_95 ht_96
        obtain ⟨z_100, hF_101, hq_102⟩ := hO.txt hi_95 ht_96
        refine pg_get (ci := 14) (v := .ref r_93) (C := RX14) (T := TX14) (N := 2) hx hb hts it_14 hown hK hP hi_95 hF_101 rfl 0 (by decide) (hts _ kt_710) (fun _ h9 => h9) rfl dX15_keyOf_59 ?_
        refine lv_iconst (v := 0) hx hb dX15_keyOf_62 (by decide) ?_
        refine lv_aload_n hx hb dX15_keyOf_63 rfl (lv_at hl 1 rfl) ?_
        refine pg_get (ci := 15) (v := .ref va) (C := RX15) (T := TX15) (N := 59) hx hb hts it_15 hown hK hP hL_h0 hF_79 rfl 8 (by decide) (hts _ kt_732) (fun _ h9 => h9) rfl dX15_keyOf_64 ?_
        refine lv_iload_n hx hb dX15_keyOf_67 rfl (lv_at hl 0 rfl) ?_
        obtain ⟨b_103, r_104, hbf_105, hi_106, ht_107⟩ := hq_91 j (by omega)
        refine pg_aald (r := b_103) hx hb hK hP hi_87 7 hF_90 rfl (vp_in_nI (by omega) (by omega)) (show f_89 ((nI j) : Int32).toNatClampNeg = _ from by rw [show ((nI j) : Int32) = nI j from rfl, nI_clamp (by omega)]; exact hbf_105) dX15_keyOf_68 ?_
        obtain ⟨hi_108, ht_109, hq_110⟩ := hW.txt hi_106 ht_107
        obtain ⟨z_111, hF_112, hq_113⟩ := hO.txt hi_106 ht_107
        refine pg_get (ci := 14) (v := .int (nI z_111)) (C := RX14) (T := TX14) (N := 2) hx hb hts it_14 hown hK hP hi_106 hF_112 rfl 1 (by decide) (hts _ kt_709) (fun _ h9 => h9) rfl dX15_keyOf_69 ?_
        refine lv_aload_n hx hb dX15_keyOf_72 rfl (lv_at hl 1 rfl) ?_
        refine pg_get (ci := 15) (v := .ref ke) (C := RX15) (T := TX15) (N := 59) hx hb hts it_15 hown hK hP hL_h0 hF_79 rfl 36 (by decide) (hts _ kt_925) (fun _ h9 => h9) rfl dX15_keyOf_73 ?_
        refine pg_get (ci := 13) (v := .ref x_5) (C := RX13) (T := TX13) (N := 5) hx hb hts it_13 hown hK hP hi_29 hF_85 rfl 0 (by decide) (hts _ kt_842) (fun _ h9 => h9) rfl dX15_keyOf_76 ?_
        refine W.eq (g2 := F0 m 79 ls [.ref x_5, .int (nI z_111), .int (nI 0), .ref r_93]) rfl ?_
        obtain ⟨hq_114, hq_115⟩ := hW.octs hi_97 ht_98
        have hFc := pg_free hD hS hA
        refine va_callv (va_runS (As := [.ref r_93, .int (nI 0), .int (nI z_111), .ref x_5]) (rest := []) ⟨hx, hb, hml, hown, hts⟩ (s_X15_withoutWhite l dC dI cs ty gm L H.size F_75 r_93 (ρ + 50 + j + 100) 700 x_5 (ρ + 14) r_35 700 0 z_111 hW hi_97 ht_98 hi_31 ht_36 (by first | omega | assumption | exact Or.inl rfl) (by first | omega | assumption | exact Or.inl rfl) (by first | omega | assumption | exact Or.inl rfl)) ⟨callB_of 4 hts (gi kt_926) rfl rfl rfl (hts _ kt_669) (hts _ kt_927) (by decide +kernel) ⟨Nat.le_of_ble_eq_true rfl, Nat.le_of_ble_eq_true rfl⟩, (hts _ kt_928)⟩ ⟨fun a U g mk q => ⟨q.1, PTm.calling q.2⟩, fun U hU hWm => ⟨rfl, PTm.mk hU hWm hP hK hD hE hO⟩⟩ rfl rfl hl.1 rfl (lv_room (Nat.le_of_ble_eq_true rfl)) dX15_keyOf_79 ⟨by show _ + 0 ≤ 0; omega, by show _ + 0 ≤ 0; omega⟩) hS (fun q _ h => hFc q h) hFc (fun u t H1 locs ht hvm hw hB hz1 hk1 hS => ?_)
        obtain ⟨F_117, z2_118, hB1, hq_119, hq_120⟩ := hB
        obtain ⟨hP, hD, hO, hR⟩ := QTm.back hB1 ht hFc hR (fun q h => by simp only [List.mem_cons, List.not_mem_nil, or_false] at h ⊢; omega)
        have hF_121 : F_117 h0 = .inr (15, (.ref ta) :: (.int (nI zt)) :: (.int (nI zo)) :: (.int (nI ze)) :: (.ref ou) :: (.ref so) :: (.ref ad) :: (.ref na) :: (.ref va) :: (.ref lc) :: (.ref dm) :: (.int (nI fm)) :: (.int (nI sn)) :: (.ref tg) :: (.int v14_48) :: (.int v15_49) :: (.ref pe) :: (.int v17_50) :: (.int v18_51) :: (.int v19_52) :: (.int v20_53) :: (.int v21_54) :: (.int v22_55) :: (.ref ml) :: (.ref bg) :: (.ref co) :: (.ref sp) :: (.ref nb0) :: (.ref nb1) :: (.ref nb2) :: (.int (nI nf)) :: (.int (nI bd)) :: (.int (nI mm)) :: (.int v33_56) :: (.ref pl) :: (.ref se) :: (.ref ke) :: (.ref wi) :: (.ref hs) :: (.ref mo) :: (.ref po) :: (.ref nu) :: (.ref pr) :: (.ref sq) :: (.ref xa) :: (.ref sa) :: (.ref n64) :: (.ref m64) :: (.ref ex) :: (.ref wh) :: (.ref sd) :: (.ref tk) :: (.int v52_57) :: (.int v53_58) :: (.int v54_59) :: (.ref hd) :: (.ref ak) :: (.ref ho) :: (.ref ot) :: []) := (hB1.2.2.2 h0 (by rw [hT_h0]; simp)).trans hF_79
        have hF_122 : F_117 ke = .inr (13, [.ref x_5, .ref y0_6, .ref y1_7, .ref y2_8, .int (nI z_84)]) := (hB1.2.2.2 ke (by rw [ht_30]; simp)).trans hF_85
        have hF_123 : F_117 va = .inl (cs 23, 40, .inr (.inr (.inr (.inr f_89)))) := (hB1.2.2.2 va (by rw [ht_88]; simp)).trans hF_90
        have hF_124 : F_117 b_92 = .inr (14, [.ref r_93, .int (nI z_100)]) := (hB1.2.2.2 b_92 (by rw [ht_96]; simp only [List.mem_cons, List.not_mem_nil, or_false]; omega)).trans hF_101
        have hF_125 : F_117 b_103 = .inr (14, [.ref r_104, .int (nI z_111)]) := (hB1.2.2.2 b_103 (by rw [ht_107]; simp only [List.mem_cons, List.not_mem_nil, or_false]; omega)).trans hF_112
        generalize H1 = H at hP hS ⊢
        refine lv_aload_n hx hb dX15_keyOf_82 rfl (lv_at hl 1 rfl) ?_
        refine pg_get (ci := 15) (v := .ref ke) (C := RX15) (T := TX15) (N := 59) hx hb hts it_15 hown hK hP hL_h0 hF_121 rfl 36 (by decide) (hts _ kt_925) (fun _ h9 => h9) rfl dX15_keyOf_83 ?_
        refine lv_bipush (v := 8) hx hb dX15_keyOf_86 (by decide) ?_
        have hFc := pg_free hD hS hA
        refine va_calli (va_runV (As := [.int 8]) (rest := []) ⟨hx, hb, hml, hown, hts⟩ (s_X13_read l dC dI cs ty gm L H.size F_117 ke (ρ + 13) x_5 700 700 y0_6 y1_7 y2_8 r_35 z2_118 8 hW hi_29 ht_30 hi_31 ht_36 hq_119 (by first | omega | assumption | exact Or.inl rfl)) ⟨callB_of 1 hts (gi kt_859) rfl rfl rfl (hts _ kt_829) (hts _ kt_860) (by decide +kernel) ⟨Nat.le_of_ble_eq_true rfl, Nat.le_of_ble_eq_true rfl⟩, (hts _ kt_861), (hts _ kt_862)⟩ ⟨fun a U g mk q => ⟨q.1, PTm.calling q.2⟩, pg_recv hK hP hi_29 hF_122 (q := (RX13, TX13, 5)) rfl, fun U hU hWm => ⟨rfl, PTm.mk hU hWm hP hK hD hE hO⟩⟩ rfl rfl hl.1 rfl (lv_room (Nat.le_of_ble_eq_true rfl)) dX15_keyOf_88 ⟨by show _ + 0 ≤ 0; omega, by show _ + 0 ≤ 0; omega⟩) hS (fun q _ h => hFc q h) hFc (fun r_126 u t H1 locs ht hvm hw hB hz1 hk1 hS => ?_)
        obtain ⟨F_127, z2_128, hB1, hq_129, hq_130⟩ := hB
        obtain ⟨hP, hD, hO, hR⟩ := QTm.back hB1 ht hFc hR (fun q h => by simp only [List.mem_cons, List.not_mem_nil, or_false] at h ⊢; omega)
        have hF_131 : F_127 h0 = .inr (15, (.ref ta) :: (.int (nI zt)) :: (.int (nI zo)) :: (.int (nI ze)) :: (.ref ou) :: (.ref so) :: (.ref ad) :: (.ref na) :: (.ref va) :: (.ref lc) :: (.ref dm) :: (.int (nI fm)) :: (.int (nI sn)) :: (.ref tg) :: (.int v14_48) :: (.int v15_49) :: (.ref pe) :: (.int v17_50) :: (.int v18_51) :: (.int v19_52) :: (.int v20_53) :: (.int v21_54) :: (.int v22_55) :: (.ref ml) :: (.ref bg) :: (.ref co) :: (.ref sp) :: (.ref nb0) :: (.ref nb1) :: (.ref nb2) :: (.int (nI nf)) :: (.int (nI bd)) :: (.int (nI mm)) :: (.int v33_56) :: (.ref pl) :: (.ref se) :: (.ref ke) :: (.ref wi) :: (.ref hs) :: (.ref mo) :: (.ref po) :: (.ref nu) :: (.ref pr) :: (.ref sq) :: (.ref xa) :: (.ref sa) :: (.ref n64) :: (.ref m64) :: (.ref ex) :: (.ref wh) :: (.ref sd) :: (.ref tk) :: (.int v52_57) :: (.int v53_58) :: (.int v54_59) :: (.ref hd) :: (.ref ak) :: (.ref ho) :: (.ref ot) :: []) := (hB1.2.2.2 h0 (by rw [hT_h0]; simp <;> omega)).trans hF_121
        have hF_132 : F_127 va = .inl (cs 23, 40, .inr (.inr (.inr (.inr f_89)))) := (hB1.2.2.2 va (by rw [ht_88]; simp <;> omega)).trans hF_123
        have hF_133 : F_127 b_92 = .inr (14, [.ref r_93, .int (nI z_100)]) := (hB1.2.2.2 b_92 (by rw [ht_96]; simp only [List.mem_cons, List.not_mem_nil, or_false]; omega)).trans hF_124
        have hF_134 : F_127 b_103 = .inr (14, [.ref r_104, .int (nI z_111)]) := (hB1.2.2.2 b_103 (by rw [ht_107]; simp only [List.mem_cons, List.not_mem_nil, or_false]; omega)).trans hF_125
        have hF_135 : F_127 x_5 = .inr (14, [.ref r_35, .int (nI z2_118)]) := (hB1.2.2.2 x_5 (by rw [ht_36]; simp <;> omega)).trans hq_119
        generalize H1 = H at hP hS ⊢
        have hw : (r_126 = 0 ∨ r_126 = 1) := hw
        have hw_136 := hw
        have hF_139 : F h0 = .inr (15, (.ref ta) :: (.int (nI zt)) :: (.int (nI zo)) :: (.int (nI ze)) :: (.ref ou) :: (.ref so) :: (.ref ad) :: (.ref na) :: (.ref va) :: (.ref lc) :: (.ref dm) :: (.int (nI fm)) :: (.int (nI sn)) :: (.ref tg) :: (.int v14_48) :: (.int v15_49) :: (.ref pe) :: (.int v17_50) :: (.int v18_51) :: (.int v19_52) :: (.int v20_53) :: (.int v21_54) :: (.int v22_55) :: (.ref ml) :: (.ref bg) :: (.ref co) :: (.ref sp) :: (.ref nb0) :: (.ref nb1) :: (.ref nb2) :: (.int (nI nf)) :: (.int (nI bd)) :: (.int (nI mm)) :: (.int v33_56) :: (.ref pl) :: (.ref se) :: (.ref ke) :: (.ref wi) :: (.ref hs) :: (.ref mo) :: (.ref po) :: (.ref nu) :: (.ref pr) :: (.ref sq) :: (.ref xa) :: (.ref sa) :: (.ref n64) :: (.ref m64) :: (.ref ex) :: (.ref wh) :: (.ref sd) :: (.ref tk) :: (.int v52_57) :: (.int v53_58) :: (.int v54_59) :: (.ref hd) :: (.ref ak) :: (.ref ho) :: (.ref ot) :: []) := (hR h0 (by rw [hT_h0]; simp)).symm.trans hF_131
        have hF_140 : F va = .inl (cs 23, 40, .inr (.inr (.inr (.inr f_89)))) := (hR va (by rw [ht_88]; simp)).symm.trans hF_132
        have hF_141 : F b_92 = .inr (14, [.ref r_93, .int (nI z_100)]) := (hR b_92 (by rw [ht_96]; simp only [List.mem_cons, List.not_mem_nil, or_false]; omega)).symm.trans hF_133
        have hF_142 : F b_103 = .inr (14, [.ref r_104, .int (nI z_111)]) := (hR b_103 (by rw [ht_107]; simp only [List.mem_cons, List.not_mem_nil, or_false]; omega)).symm.trans hF_134
        refine W.widen (k := 0) (n := 0) (by omega) (by omega) ?_
        refine pl_cutm (σ := Int32) A (dC, dI) cs ty gm L [ρ + 13, ρ + 14, ρ + 22, ρ + 83, ρ + 84] F 140 3 (fun s140 => [(1, .int (nI j)), (0, .ref h0)]) (fun s140 => [.int s140]) (fun s140 FF => ∃ zk : Nat, zk ≤ 40 ∧ FF ke = .inr (13, [.ref x_5, .ref y0_6, .ref y1_7, .ref y2_8, .int (nI zk)])) ?_ (fun jn_137 => ?_)
        ·
          rintro s140 F_138 hv_143 hO hR H locs hP hD hS ls hl
          have hl : lv_has ls 3 [(1, .int (nI j)), (0, .ref h0)] := hl
          have hv_143 : ∃ zk : Nat, zk ≤ 40 ∧ F_138 ke = .inr (13, [.ref x_5, .ref y0_6, .ref y1_7, .ref y2_8, .int (nI zk)]) := hv_143
          refine W.eq (g2 := F0 m 140 ls [.int s140]) rfl ?_
          have hF_144 : F_138 h0 = .inr (15, (.ref ta) :: (.int (nI zt)) :: (.int (nI zo)) :: (.int (nI ze)) :: (.ref ou) :: (.ref so) :: (.ref ad) :: (.ref na) :: (.ref va) :: (.ref lc) :: (.ref dm) :: (.int (nI fm)) :: (.int (nI sn)) :: (.ref tg) :: (.int v14_48) :: (.int v15_49) :: (.ref pe) :: (.int v17_50) :: (.int v18_51) :: (.int v19_52) :: (.int v20_53) :: (.int v21_54) :: (.int v22_55) :: (.ref ml) :: (.ref bg) :: (.ref co) :: (.ref sp) :: (.ref nb0) :: (.ref nb1) :: (.ref nb2) :: (.int (nI nf)) :: (.int (nI bd)) :: (.int (nI mm)) :: (.int v33_56) :: (.ref pl) :: (.ref se) :: (.ref ke) :: (.ref wi) :: (.ref hs) :: (.ref mo) :: (.ref po) :: (.ref nu) :: (.ref pr) :: (.ref sq) :: (.ref xa) :: (.ref sa) :: (.ref n64) :: (.ref m64) :: (.ref ex) :: (.ref wh) :: (.ref sd) :: (.ref tk) :: (.int v52_57) :: (.int v53_58) :: (.int v54_59) :: (.ref hd) :: (.ref ak) :: (.ref ho) :: (.ref ot) :: []) := (hR h0 (by rw [hT_h0]; simp)).trans hF_139
          have hF_145 : F_138 va = .inl (cs 23, 40, .inr (.inr (.inr (.inr f_89)))) := (hR va (by rw [ht_88]; simp)).trans hF_140
          have hF_146 : F_138 b_92 = .inr (14, [.ref r_93, .int (nI z_100)]) := (hR b_92 (by rw [ht_96]; simp only [List.mem_cons, List.not_mem_nil, or_false]; omega)).trans hF_141
          have hF_147 : F_138 b_103 = .inr (14, [.ref r_104, .int (nI z_111)]) := (hR b_103 (by rw [ht_107]; simp only [List.mem_cons, List.not_mem_nil, or_false]; omega)).trans hF_142
          obtain ⟨zk140, hzk140a, hzk140b⟩ := hv_143
          refine lv_istore_n (lv' := [(2, .int s140), (1, .int (nI j)), (0, .ref h0)]) hx hb dX15_keyOf_140 rfl hl (by decide) rfl (fun ls hl => ?_)
          refine lv_iload_n hx hb dX15_keyOf_141 rfl (lv_at hl 0 rfl) ?_
          have hF_150 : F h0 = .inr (15, (.ref ta) :: (.int (nI zt)) :: (.int (nI zo)) :: (.int (nI ze)) :: (.ref ou) :: (.ref so) :: (.ref ad) :: (.ref na) :: (.ref va) :: (.ref lc) :: (.ref dm) :: (.int (nI fm)) :: (.int (nI sn)) :: (.ref tg) :: (.int v14_48) :: (.int v15_49) :: (.ref pe) :: (.int v17_50) :: (.int v18_51) :: (.int v19_52) :: (.int v20_53) :: (.int v21_54) :: (.int v22_55) :: (.ref ml) :: (.ref bg) :: (.ref co) :: (.ref sp) :: (.ref nb0) :: (.ref nb1) :: (.ref nb2) :: (.int (nI nf)) :: (.int (nI bd)) :: (.int (nI mm)) :: (.int v33_56) :: (.ref pl) :: (.ref se) :: (.ref ke) :: (.ref wi) :: (.ref hs) :: (.ref mo) :: (.ref po) :: (.ref nu) :: (.ref pr) :: (.ref sq) :: (.ref xa) :: (.ref sa) :: (.ref n64) :: (.ref m64) :: (.ref ex) :: (.ref wh) :: (.ref sd) :: (.ref tk) :: (.int v52_57) :: (.int v53_58) :: (.int v54_59) :: (.ref hd) :: (.ref ak) :: (.ref ho) :: (.ref ot) :: []) := (hR h0 (by rw [hT_h0]; simp)).symm.trans hF_144
          have hF_151 : F va = .inl (cs 23, 40, .inr (.inr (.inr (.inr f_89)))) := (hR va (by rw [ht_88]; simp)).symm.trans hF_145
          have hF_152 : F b_92 = .inr (14, [.ref r_93, .int (nI z_100)]) := (hR b_92 (by rw [ht_96]; simp only [List.mem_cons, List.not_mem_nil, or_false]; omega)).symm.trans hF_146
          have hF_153 : F b_103 = .inr (14, [.ref r_104, .int (nI z_111)]) := (hR b_103 (by rw [ht_107]; simp only [List.mem_cons, List.not_mem_nil, or_false]; omega)).symm.trans hF_147
          refine W.widen (k := 0) (n := 0) (by omega) (by omega) ?_
          refine pl_cutm (σ := Int32) A (dC, dI) cs ty gm L [ρ + 13, ρ + 14, ρ + 22, ρ + 83, ρ + 84] F 176 3 (fun s176 => [(2, .int s140), (1, .int (nI j)), (0, .ref h0)]) (fun s176 => [.int s176, .int s140]) (fun s176 FF => ∃ zk : Nat, zk ≤ 40 ∧ FF ke = .inr (13, [.ref x_5, .ref y0_6, .ref y1_7, .ref y2_8, .int (nI zk)])) ?_ (fun jn_148 => ?_)
          ·
            rintro s176 F_149 hv_154 hO hR H locs hP hD hS ls hl
            have hl : lv_has ls 3 [(2, .int s140), (1, .int (nI j)), (0, .ref h0)] := hl
            have hv_154 : ∃ zk : Nat, zk ≤ 40 ∧ F_149 ke = .inr (13, [.ref x_5, .ref y0_6, .ref y1_7, .ref y2_8, .int (nI zk)]) := hv_154
            refine W.eq (g2 := F0 m 176 ls [.int s176, .int s140]) rfl ?_
            have hF_155 : F_149 h0 = .inr (15, (.ref ta) :: (.int (nI zt)) :: (.int (nI zo)) :: (.int (nI ze)) :: (.ref ou) :: (.ref so) :: (.ref ad) :: (.ref na) :: (.ref va) :: (.ref lc) :: (.ref dm) :: (.int (nI fm)) :: (.int (nI sn)) :: (.ref tg) :: (.int v14_48) :: (.int v15_49) :: (.ref pe) :: (.int v17_50) :: (.int v18_51) :: (.int v19_52) :: (.int v20_53) :: (.int v21_54) :: (.int v22_55) :: (.ref ml) :: (.ref bg) :: (.ref co) :: (.ref sp) :: (.ref nb0) :: (.ref nb1) :: (.ref nb2) :: (.int (nI nf)) :: (.int (nI bd)) :: (.int (nI mm)) :: (.int v33_56) :: (.ref pl) :: (.ref se) :: (.ref ke) :: (.ref wi) :: (.ref hs) :: (.ref mo) :: (.ref po) :: (.ref nu) :: (.ref pr) :: (.ref sq) :: (.ref xa) :: (.ref sa) :: (.ref n64) :: (.ref m64) :: (.ref ex) :: (.ref wh) :: (.ref sd) :: (.ref tk) :: (.int v52_57) :: (.int v53_58) :: (.int v54_59) :: (.ref hd) :: (.ref ak) :: (.ref ho) :: (.ref ot) :: []) := (hR h0 (by rw [hT_h0]; simp)).trans hF_150
            have hF_156 : F_149 va = .inl (cs 23, 40, .inr (.inr (.inr (.inr f_89)))) := (hR va (by rw [ht_88]; simp)).trans hF_151
            have hF_157 : F_149 b_92 = .inr (14, [.ref r_93, .int (nI z_100)]) := (hR b_92 (by rw [ht_96]; simp only [List.mem_cons, List.not_mem_nil, or_false]; omega)).trans hF_152
            have hF_158 : F_149 b_103 = .inr (14, [.ref r_104, .int (nI z_111)]) := (hR b_103 (by rw [ht_107]; simp only [List.mem_cons, List.not_mem_nil, or_false]; omega)).trans hF_153
            obtain ⟨zk176, hzk176a, hzk176b⟩ := hv_154
            refine lv_iand hx hb dX15_keyOf_176 ?_
            refine lv_topi (fun x_159 ex_159 => ?_)
            refine lv_istore_n (lv' := [(2, .int x_159), (1, .int (nI j)), (0, .ref h0)]) hx hb dX15_keyOf_177 rfl hl (by decide) rfl (fun ls hl => ?_)
            refine lv_iload_n hx hb dX15_keyOf_178 rfl (lv_at hl 0 rfl) ?_
            have hF_162 : F h0 = .inr (15, (.ref ta) :: (.int (nI zt)) :: (.int (nI zo)) :: (.int (nI ze)) :: (.ref ou) :: (.ref so) :: (.ref ad) :: (.ref na) :: (.ref va) :: (.ref lc) :: (.ref dm) :: (.int (nI fm)) :: (.int (nI sn)) :: (.ref tg) :: (.int v14_48) :: (.int v15_49) :: (.ref pe) :: (.int v17_50) :: (.int v18_51) :: (.int v19_52) :: (.int v20_53) :: (.int v21_54) :: (.int v22_55) :: (.ref ml) :: (.ref bg) :: (.ref co) :: (.ref sp) :: (.ref nb0) :: (.ref nb1) :: (.ref nb2) :: (.int (nI nf)) :: (.int (nI bd)) :: (.int (nI mm)) :: (.int v33_56) :: (.ref pl) :: (.ref se) :: (.ref ke) :: (.ref wi) :: (.ref hs) :: (.ref mo) :: (.ref po) :: (.ref nu) :: (.ref pr) :: (.ref sq) :: (.ref xa) :: (.ref sa) :: (.ref n64) :: (.ref m64) :: (.ref ex) :: (.ref wh) :: (.ref sd) :: (.ref tk) :: (.int v52_57) :: (.int v53_58) :: (.int v54_59) :: (.ref hd) :: (.ref ak) :: (.ref ho) :: (.ref ot) :: []) := (hR h0 (by rw [hT_h0]; simp)).symm.trans hF_155
            have hF_163 : F va = .inl (cs 23, 40, .inr (.inr (.inr (.inr f_89)))) := (hR va (by rw [ht_88]; simp)).symm.trans hF_156
            have hF_164 : F b_92 = .inr (14, [.ref r_93, .int (nI z_100)]) := (hR b_92 (by rw [ht_96]; simp only [List.mem_cons, List.not_mem_nil, or_false]; omega)).symm.trans hF_157
            have hF_165 : F b_103 = .inr (14, [.ref r_104, .int (nI z_111)]) := (hR b_103 (by rw [ht_107]; simp only [List.mem_cons, List.not_mem_nil, or_false]; omega)).symm.trans hF_158
            refine W.widen (k := 0) (n := 0) (by omega) (by omega) ?_
            refine pl_cutm (σ := Int32) A (dC, dI) cs ty gm L [ρ + 13, ρ + 14, ρ + 22, ρ + 83, ρ + 84] F 213 3 (fun s213 => [(2, .int x_159), (1, .int (nI j)), (0, .ref h0)]) (fun s213 => [.int s213, .int x_159]) (fun s213 FF => ∃ zk : Nat, zk ≤ 40 ∧ FF ke = .inr (13, [.ref x_5, .ref y0_6, .ref y1_7, .ref y2_8, .int (nI zk)])) ?_ (fun jn_160 => ?_)
            ·
              rintro s213 F_161 hv_166 hO hR H locs hP hD hS ls hl
              have hl : lv_has ls 3 [(2, .int x_159), (1, .int (nI j)), (0, .ref h0)] := hl
              have hv_166 : ∃ zk : Nat, zk ≤ 40 ∧ F_161 ke = .inr (13, [.ref x_5, .ref y0_6, .ref y1_7, .ref y2_8, .int (nI zk)]) := hv_166
              refine W.eq (g2 := F0 m 213 ls [.int s213, .int x_159]) rfl ?_
              have hF_167 : F_161 h0 = .inr (15, (.ref ta) :: (.int (nI zt)) :: (.int (nI zo)) :: (.int (nI ze)) :: (.ref ou) :: (.ref so) :: (.ref ad) :: (.ref na) :: (.ref va) :: (.ref lc) :: (.ref dm) :: (.int (nI fm)) :: (.int (nI sn)) :: (.ref tg) :: (.int v14_48) :: (.int v15_49) :: (.ref pe) :: (.int v17_50) :: (.int v18_51) :: (.int v19_52) :: (.int v20_53) :: (.int v21_54) :: (.int v22_55) :: (.ref ml) :: (.ref bg) :: (.ref co) :: (.ref sp) :: (.ref nb0) :: (.ref nb1) :: (.ref nb2) :: (.int (nI nf)) :: (.int (nI bd)) :: (.int (nI mm)) :: (.int v33_56) :: (.ref pl) :: (.ref se) :: (.ref ke) :: (.ref wi) :: (.ref hs) :: (.ref mo) :: (.ref po) :: (.ref nu) :: (.ref pr) :: (.ref sq) :: (.ref xa) :: (.ref sa) :: (.ref n64) :: (.ref m64) :: (.ref ex) :: (.ref wh) :: (.ref sd) :: (.ref tk) :: (.int v52_57) :: (.int v53_58) :: (.int v54_59) :: (.ref hd) :: (.ref ak) :: (.ref ho) :: (.ref ot) :: []) := (hR h0 (by rw [hT_h0]; simp)).trans hF_162
              have hF_168 : F_161 va = .inl (cs 23, 40, .inr (.inr (.inr (.inr f_89)))) := (hR va (by rw [ht_88]; simp)).trans hF_163
              have hF_169 : F_161 b_92 = .inr (14, [.ref r_93, .int (nI z_100)]) := (hR b_92 (by rw [ht_96]; simp only [List.mem_cons, List.not_mem_nil, or_false]; omega)).trans hF_164
              have hF_170 : F_161 b_103 = .inr (14, [.ref r_104, .int (nI z_111)]) := (hR b_103 (by rw [ht_107]; simp only [List.mem_cons, List.not_mem_nil, or_false]; omega)).trans hF_165
              obtain ⟨zk213, hzk213a, hzk213b⟩ := hv_166
              refine lv_iand hx hb dX15_keyOf_213 ?_
              refine lv_topi (fun x_171 ex_171 => ?_)
              refine lv_istore_n (lv' := [(2, .int x_171), (1, .int (nI j)), (0, .ref h0)]) hx hb dX15_keyOf_214 rfl hl (by decide) rfl (fun ls hl => ?_)
              refine lv_iload_n hx hb dX15_keyOf_215 rfl (lv_at hl 0 rfl) ?_
              refine lv_if_eq (tgt := 223) hx hb dX15_keyOf_216 (by decide) (fun c_172 => ?_) (fun c_172 => ?_)
              ·
                refine lv_bipush (v := 6) hx hb dX15_keyOf_223 (by decide) ?_
                refine W.widen (k := 0) (n := 0) (by omega) (by omega) ?_
                exact W.iret (v := 6) hx hb hr (fun t ht hWm => ⟨⟨6, (), rfl, trivial, ⟨F_161, QTm.mk ht hP hD hO hR⟩⟩, hS.F ht⟩) hS.2.2 dX15_keyOf_225
              ·
                refine lv_iconst (v := 2) hx hb dX15_keyOf_219 (by decide) ?_
                refine lv_goto (tgt := 225) hx hb dX15_keyOf_220 (by decide) ?_
                refine W.widen (k := 0) (n := 0) (by omega) (by omega) ?_
                exact W.iret (v := 2) hx hb hr (fun t ht hWm => ⟨⟨2, (), rfl, trivial, ⟨F_161, QTm.mk ht hP hD hO hR⟩⟩, hS.F ht⟩) hS.2.2 dX15_keyOf_225
            ·
              refine lv_aload_n hx hb dX15_keyOf_179 rfl (lv_at hl 2 rfl) ?_
              refine pg_get (ci := 15) (v := .ref ke) (C := RX15) (T := TX15) (N := 59) hx hb hts it_15 hown hK hP hL_h0 hF_155 rfl 36 (by decide) (hts _ kt_925) (fun _ h9 => h9) rfl dX15_keyOf_180 ?_
              obtain ⟨q_173, v_174, hr_q_173, hX_q_173⟩ := hG.2.2 ("PostGateModel", 537, "k", [107]) (by decide +kernel)
              have hX_q_173 : SXc q_173 v_174 1 (cct [107]) A s s.heap := hX_q_173
              obtain ⟨xo_q_173, xc_q_173, xv_q_173, xt_q_173, xn_q_173⟩ := id hX_q_173
              have hr_q_173 : vk_R "PostGateModel" 537 "k" q_173 s := hr_q_173
              refine va_ldcwS hx hb hown hr_q_173 dX15_keyOf_183 ?_
              have hFc := pg_free hD hS hA
              refine va_calli (va_runV (As := [.ref q_173]) (rest := [.int x_159]) ⟨hx, hb, hml, hown, hts⟩ (s_X13_find l dC dI cs ty gm L H.size F_149 ke (ρ + 13) x_5 700 700 y0_6 y1_7 y2_8 r_35 zk176 q_173 v_174 1 (cct [107]) hW hi_29 ht_30 hi_31 ht_36 hzk176b (by first | omega | assumption | exact Or.inl rfl)) ⟨callB_of 1 hts (gi kt_828) rfl rfl rfl (hts _ kt_829) (hts _ kt_839) (by decide +kernel) ⟨Nat.le_of_ble_eq_true rfl, Nat.le_of_ble_eq_true rfl⟩, (hts _ kt_831), (hts _ kt_832)⟩ ⟨fun a U g mk q => ⟨q.1, PTEm.calling q.2⟩, pg_recv hK hP hi_29 hzk176b (q := (RX13, TX13, 5)) rfl, fun U hU hWm => ⟨rfl, PTEm.mk hU hWm hP hK hD hE hO hG (fun x hx => by rw [List.mem_singleton] at hx; subst hx; exact hX_q_173) hS hFc⟩⟩ rfl rfl hl.1 rfl (lv_room (Nat.le_of_ble_eq_true rfl)) dX15_keyOf_186 ⟨by show _ + 0 ≤ 0; omega, by show _ + 0 ≤ 0; omega⟩) hS (fun q _ h => hFc q h) hFc (fun r_175 u t H1 locs ht hvm hw hB hz1 hk1 hS => ?_)
              obtain ⟨F_176, hB1⟩ := hB
              obtain rfl : F_149 = F_176 := (funext (fun a => hB1.2.2.2 a List.not_mem_nil)).symm
              obtain ⟨hP, hD, hO, hR⟩ := QTm.back hB1 ht hFc hR (fun q h => absurd h List.not_mem_nil)
              generalize H1 = H at hP hS ⊢
              have hw : FND (gA (F_149 r_35)) (gA (F_149 y0_6)) (gA (F_149 y1_7)) zk176 (cct [107]) 1 r_175 := hw
              have hw_177 := hw
              refine lv_if_lt (tgt := 208) hx hb dX15_keyOf_189 (by decide) (fun c_178 => ?_) (fun c_178 => ?_)
              ·
                refine lv_iconst (v := 1) hx hb dX15_keyOf_208 (by decide) ?_
                refine lv_goto (tgt := 213) hx hb dX15_keyOf_209 (by decide) ?_
                refine W.widen (k := 0) (n := 0) (by omega) (by omega) ?_
                exact jn_160 1 F_149 (⟨_, by omega, hzk176b⟩) hO hR _ _ hP hD hS ls (lv_sub hl [0, 1, 2] rfl)
              ·
                refine lv_aload_n hx hb dX15_keyOf_192 rfl (lv_at hl 2 rfl) ?_
                refine pg_get (ci := 15) (v := .ref ke) (C := RX15) (T := TX15) (N := 59) hx hb hts it_15 hown hK hP hL_h0 hF_155 rfl 36 (by decide) (hts _ kt_925) (fun _ h9 => h9) rfl dX15_keyOf_193 ?_
                refine va_ldcwS hx hb hown hr_q_173 dX15_keyOf_196 ?_
                obtain ⟨q_179, v_180, hr_q_179, hX_q_179⟩ := hG.2.2 ("PostGateModel", 539, "rsa", [114, 115, 97]) (by decide +kernel)
                have hX_q_179 : SXc q_179 v_180 3 (cct [114, 115, 97]) A s s.heap := hX_q_179
                obtain ⟨xo_q_179, xc_q_179, xv_q_179, xt_q_179, xn_q_179⟩ := id hX_q_179
                have hr_q_179 : vk_R "PostGateModel" 539 "rsa" q_179 s := hr_q_179
                refine va_ldcwS hx hb hown hr_q_179 dX15_keyOf_199 ?_
                have hFc := pg_free hD hS hA
                refine va_calli (va_runV (As := [.ref q_173, .ref q_179]) (rest := [.int x_159]) ⟨hx, hb, hml, hown, hts⟩ (s_X13_has l dC dI cs ty gm L H.size F_149 ke (ρ + 13) x_5 700 700 y0_6 y1_7 y2_8 r_35 zk176 q_173 v_174 1 (cct [107]) q_179 v_180 3 (cct [114, 115, 97]) hW hi_29 ht_30 hi_31 ht_36 hzk176b (by first | omega | assumption | exact Or.inl rfl)) ⟨callB_of 2 hts (gi kt_863) rfl rfl rfl (hts _ kt_829) (hts _ kt_864) (by decide +kernel) ⟨Nat.le_of_ble_eq_true rfl, Nat.le_of_ble_eq_true rfl⟩, (hts _ kt_865), (hts _ kt_866)⟩ ⟨fun a U g mk q => ⟨q.1, PTEm.calling q.2⟩, pg_recv hK hP hi_29 hzk176b (q := (RX13, TX13, 5)) rfl, fun U hU hWm => ⟨rfl, PTEm.mk hU hWm hP hK hD hE hO hG (fun x hx => by simp only [List.mem_cons, List.not_mem_nil, or_false] at hx; rcases hx with hx | hx <;> subst hx <;> first | exact hX_q_173 | exact hX_q_179) hS hFc⟩⟩ rfl rfl hl.1 rfl (lv_room (Nat.le_of_ble_eq_true rfl)) dX15_keyOf_202 ⟨by show _ + 0 ≤ 0; omega, by show _ + 0 ≤ 0; omega⟩) hS (fun q _ h => hFc q h) hFc (fun r_181 u t H1 locs ht hvm hw hB hz1 hk1 hS => ?_)
                obtain ⟨F_182, hB1⟩ := hB
                obtain rfl : F_149 = F_182 := (funext (fun a => hB1.2.2.2 a List.not_mem_nil)).symm
                obtain ⟨hP, hD, hO, hR⟩ := QTm.back hB1 ht hFc hR (fun q h => absurd h List.not_mem_nil)
                generalize H1 = H at hP hS ⊢
                have hw : (r_181 = 0 ∨ r_181 = 1) := hw
                have hw_183 := hw
                refine lv_if_eq (tgt := 212) hx hb dX15_keyOf_205 (by decide) (fun c_184 => ?_) (fun c_184 => ?_)
                ·
                  refine lv_iconst (v := 0) hx hb dX15_keyOf_212 (by decide) ?_
                  refine W.widen (k := 0) (n := 0) (by omega) (by omega) ?_
                  exact jn_160 0 F_149 (⟨_, by omega, hzk176b⟩) hO hR _ _ hP hD hS ls (lv_sub hl [0, 1, 2] rfl)
                ·
                  refine lv_iconst (v := 1) hx hb dX15_keyOf_208 (by decide) ?_
                  refine lv_goto (tgt := 213) hx hb dX15_keyOf_209 (by decide) ?_
                  refine W.widen (k := 0) (n := 0) (by omega) (by omega) ?_
                  exact jn_160 1 F_149 (⟨_, by omega, hzk176b⟩) hO hR _ _ hP hD hS ls (lv_sub hl [0, 1, 2] rfl)
          ·
            refine lv_aload_n hx hb dX15_keyOf_142 rfl (lv_at hl 2 rfl) ?_
            refine pg_get (ci := 15) (v := .ref ke) (C := RX15) (T := TX15) (N := 59) hx hb hts it_15 hown hK hP hL_h0 hF_144 rfl 36 (by decide) (hts _ kt_925) (fun _ h9 => h9) rfl dX15_keyOf_143 ?_
            obtain ⟨q_185, v_186, hr_q_185, hX_q_185⟩ := hG.2.2 ("PostGateModel", 444, "v", [118]) (by decide +kernel)
            have hX_q_185 : SXc q_185 v_186 1 (cct [118]) A s s.heap := hX_q_185
            obtain ⟨xo_q_185, xc_q_185, xv_q_185, xt_q_185, xn_q_185⟩ := id hX_q_185
            have hr_q_185 : vk_R "PostGateModel" 444 "v" q_185 s := hr_q_185
            refine va_ldcwS hx hb hown hr_q_185 dX15_keyOf_146 ?_
            have hFc := pg_free hD hS hA
            refine va_calli (va_runV (As := [.ref q_185]) (rest := [.int s140]) ⟨hx, hb, hml, hown, hts⟩ (s_X13_find l dC dI cs ty gm L H.size F_138 ke (ρ + 13) x_5 700 700 y0_6 y1_7 y2_8 r_35 zk140 q_185 v_186 1 (cct [118]) hW hi_29 ht_30 hi_31 ht_36 hzk140b (by first | omega | assumption | exact Or.inl rfl)) ⟨callB_of 1 hts (gi kt_828) rfl rfl rfl (hts _ kt_829) (hts _ kt_839) (by decide +kernel) ⟨Nat.le_of_ble_eq_true rfl, Nat.le_of_ble_eq_true rfl⟩, (hts _ kt_831), (hts _ kt_832)⟩ ⟨fun a U g mk q => ⟨q.1, PTEm.calling q.2⟩, pg_recv hK hP hi_29 hzk140b (q := (RX13, TX13, 5)) rfl, fun U hU hWm => ⟨rfl, PTEm.mk hU hWm hP hK hD hE hO hG (fun x hx => by rw [List.mem_singleton] at hx; subst hx; exact hX_q_185) hS hFc⟩⟩ rfl rfl hl.1 rfl (lv_room (Nat.le_of_ble_eq_true rfl)) dX15_keyOf_149 ⟨by show _ + 0 ≤ 0; omega, by show _ + 0 ≤ 0; omega⟩) hS (fun q _ h => hFc q h) hFc (fun r_187 u t H1 locs ht hvm hw hB hz1 hk1 hS => ?_)
            obtain ⟨F_188, hB1⟩ := hB
            obtain rfl : F_138 = F_188 := (funext (fun a => hB1.2.2.2 a List.not_mem_nil)).symm
            obtain ⟨hP, hD, hO, hR⟩ := QTm.back hB1 ht hFc hR (fun q h => absurd h List.not_mem_nil)
            generalize H1 = H at hP hS ⊢
            have hw : FND (gA (F_138 r_35)) (gA (F_138 y0_6)) (gA (F_138 y1_7)) zk140 (cct [118]) 1 r_187 := hw
            have hw_189 := hw
            refine lv_if_lt (tgt := 171) hx hb dX15_keyOf_152 (by decide) (fun c_190 => ?_) (fun c_190 => ?_)
            ·
              refine lv_iconst (v := 1) hx hb dX15_keyOf_171 (by decide) ?_
              refine lv_goto (tgt := 176) hx hb dX15_keyOf_172 (by decide) ?_
              refine W.widen (k := 0) (n := 0) (by omega) (by omega) ?_
              exact jn_148 1 F_138 (⟨_, by omega, hzk140b⟩) hO hR _ _ hP hD hS ls (lv_sub hl [0, 1, 2] rfl)
            ·
              refine lv_aload_n hx hb dX15_keyOf_155 rfl (lv_at hl 2 rfl) ?_
              refine pg_get (ci := 15) (v := .ref ke) (C := RX15) (T := TX15) (N := 59) hx hb hts it_15 hown hK hP hL_h0 hF_144 rfl 36 (by decide) (hts _ kt_925) (fun _ h9 => h9) rfl dX15_keyOf_156 ?_
              refine va_ldcwS hx hb hown hr_q_185 dX15_keyOf_159 ?_
              obtain ⟨q_191, v_192, hr_q_191, hX_q_191⟩ := hG.2.2 ("PostGateModel", 535, "DKIM1", [68, 75, 73, 77, 49]) (by decide +kernel)
              have hX_q_191 : SXc q_191 v_192 5 (cct [68, 75, 73, 77, 49]) A s s.heap := hX_q_191
              obtain ⟨xo_q_191, xc_q_191, xv_q_191, xt_q_191, xn_q_191⟩ := id hX_q_191
              have hr_q_191 : vk_R "PostGateModel" 535 "DKIM1" q_191 s := hr_q_191
              refine va_ldcwS hx hb hown hr_q_191 dX15_keyOf_162 ?_
              have hFc := pg_free hD hS hA
              refine va_calli (va_runV (As := [.ref q_185, .ref q_191]) (rest := [.int s140]) ⟨hx, hb, hml, hown, hts⟩ (s_X13_has l dC dI cs ty gm L H.size F_138 ke (ρ + 13) x_5 700 700 y0_6 y1_7 y2_8 r_35 zk140 q_185 v_186 1 (cct [118]) q_191 v_192 5 (cct [68, 75, 73, 77, 49]) hW hi_29 ht_30 hi_31 ht_36 hzk140b (by first | omega | assumption | exact Or.inl rfl)) ⟨callB_of 2 hts (gi kt_863) rfl rfl rfl (hts _ kt_829) (hts _ kt_864) (by decide +kernel) ⟨Nat.le_of_ble_eq_true rfl, Nat.le_of_ble_eq_true rfl⟩, (hts _ kt_865), (hts _ kt_866)⟩ ⟨fun a U g mk q => ⟨q.1, PTEm.calling q.2⟩, pg_recv hK hP hi_29 hzk140b (q := (RX13, TX13, 5)) rfl, fun U hU hWm => ⟨rfl, PTEm.mk hU hWm hP hK hD hE hO hG (fun x hx => by simp only [List.mem_cons, List.not_mem_nil, or_false] at hx; rcases hx with hx | hx <;> subst hx <;> first | exact hX_q_185 | exact hX_q_191) hS hFc⟩⟩ rfl rfl hl.1 rfl (lv_room (Nat.le_of_ble_eq_true rfl)) dX15_keyOf_165 ⟨by show _ + 0 ≤ 0; omega, by show _ + 0 ≤ 0; omega⟩) hS (fun q _ h => hFc q h) hFc (fun r_193 u t H1 locs ht hvm hw hB hz1 hk1 hS => ?_)
              obtain ⟨F_194, hB1⟩ := hB
              obtain rfl : F_138 = F_194 := (funext (fun a => hB1.2.2.2 a List.not_mem_nil)).symm
              obtain ⟨hP, hD, hO, hR⟩ := QTm.back hB1 ht hFc hR (fun q h => absurd h List.not_mem_nil)
              generalize H1 = H at hP hS ⊢
              have hw : (r_193 = 0 ∨ r_193 = 1) := hw
              have hw_195 := hw
              refine lv_if_eq (tgt := 175) hx hb dX15_keyOf_168 (by decide) (fun c_196 => ?_) (fun c_196 => ?_)
              ·
                refine lv_iconst (v := 0) hx hb dX15_keyOf_175 (by decide) ?_
                refine W.widen (k := 0) (n := 0) (by omega) (by omega) ?_
                exact jn_148 0 F_138 (⟨_, by omega, hzk140b⟩) hO hR _ _ hP hD hS ls (lv_sub hl [0, 1, 2] rfl)
              ·
                refine lv_iconst (v := 1) hx hb dX15_keyOf_171 (by decide) ?_
                refine lv_goto (tgt := 176) hx hb dX15_keyOf_172 (by decide) ?_
                refine W.widen (k := 0) (n := 0) (by omega) (by omega) ?_
                exact jn_148 1 F_138 (⟨_, by omega, hzk140b⟩) hO hR _ _ hP hD hS ls (lv_sub hl [0, 1, 2] rfl)
        ·
          refine lv_if_eq (tgt := 139) hx hb dX15_keyOf_91 (by decide) (fun c_197 => ?_) (fun c_197 => ?_)
          ·
            refine lv_iconst (v := 0) hx hb dX15_keyOf_139 (by decide) ?_
            refine W.widen (k := 0) (n := 0) (by omega) (by omega) ?_
            exact jn_137 0 F_127 (⟨_, by omega, hq_129⟩) hO hR _ _ hP hD hS ls (lv_sub hl [0, 1] rfl)
          ·
            refine lv_aload_n hx hb dX15_keyOf_94 rfl (lv_at hl 1 rfl) ?_
            refine pg_get (ci := 15) (v := .ref ke) (C := RX15) (T := TX15) (N := 59) hx hb hts it_15 hown hK hP hL_h0 hF_131 rfl 36 (by decide) (hts _ kt_925) (fun _ h9 => h9) rfl dX15_keyOf_95 ?_
            obtain ⟨q_198, v_199, hr_q_198, hX_q_198⟩ := hG.2.2 ("PostGateModel", 533, "p", [112]) (by decide +kernel)
            have hX_q_198 : SXc q_198 v_199 1 (cct [112]) A s s.heap := hX_q_198
            obtain ⟨xo_q_198, xc_q_198, xv_q_198, xt_q_198, xn_q_198⟩ := id hX_q_198
            have hr_q_198 : vk_R "PostGateModel" 533 "p" q_198 s := hr_q_198
            refine va_ldcwS hx hb hown hr_q_198 dX15_keyOf_98 ?_
            refine lv_bipush (v := 64) hx hb dX15_keyOf_101 (by decide) ?_
            refine lv_aload_n hx hb dX15_keyOf_103 rfl (lv_at hl 1 rfl) ?_
            refine pg_get (ci := 15) (v := .ref m64) (C := RX15) (T := TX15) (N := 59) hx hb hts it_15 hown hK hP hL_h0 hF_131 rfl 47 (by decide) (hts _ kt_907) (fun _ h9 => h9) rfl dX15_keyOf_104 ?_
            obtain ⟨hi_200, ht_201⟩ := hW.f_m64 hL_h0 hT_h0
            obtain ⟨hq_202, hq_203⟩ := hW.octs hi_200 ht_201
            have hFc := pg_free hD hS hA
            refine va_calli (va_runS (As := [.ref ke, .ref q_198, .int 64, .ref m64]) (rest := []) ⟨hx, hb, hml, hown, hts⟩ (s_X15_base_64 l dC dI cs ty gm L H.size F_127 ke (ρ + 13) x_5 700 700 y0_6 y1_7 y2_8 r_35 z2_128 m64 (ρ + 22) q_198 v_199 1 (cct [112]) hW hi_29 ht_30 hi_31 ht_36 hi_200 ht_201 hq_129 (by first | omega | assumption | exact Or.inl rfl)) ⟨callB_of 4 hts (gi kt_872) rfl rfl rfl (hts _ kt_669) (hts _ kt_873) (by decide +kernel) ⟨Nat.le_of_ble_eq_true rfl, Nat.le_of_ble_eq_true rfl⟩, (hts _ kt_874)⟩ ⟨fun a U g mk q => ⟨q.1, PTEm.calling q.2⟩, fun U hU hWm => ⟨rfl, PTEm.mk hU hWm hP hK hD hE hO hG (fun x hx => by rw [List.mem_singleton] at hx; subst hx; exact hX_q_198) hS hFc⟩⟩ rfl rfl hl.1 rfl (lv_room (Nat.le_of_ble_eq_true rfl)) dX15_keyOf_107 ⟨by show _ + 0 ≤ 0; omega, by show _ + 0 ≤ 0; omega⟩) hS (fun q _ h => hFc q h) hFc (fun r_204 u t H1 locs ht hvm hw hB hz1 hk1 hS => ?_)
            obtain ⟨F_205, hB1⟩ := hB
            obtain ⟨hP, hD, hO, hR⟩ := QTm.back hB1 ht hFc hR (fun q h => by simp only [List.mem_cons, List.not_mem_nil, or_false] at h ⊢; omega)
            have hF_206 : F_205 h0 = .inr (15, (.ref ta) :: (.int (nI zt)) :: (.int (nI zo)) :: (.int (nI ze)) :: (.ref ou) :: (.ref so) :: (.ref ad) :: (.ref na) :: (.ref va) :: (.ref lc) :: (.ref dm) :: (.int (nI fm)) :: (.int (nI sn)) :: (.ref tg) :: (.int v14_48) :: (.int v15_49) :: (.ref pe) :: (.int v17_50) :: (.int v18_51) :: (.int v19_52) :: (.int v20_53) :: (.int v21_54) :: (.int v22_55) :: (.ref ml) :: (.ref bg) :: (.ref co) :: (.ref sp) :: (.ref nb0) :: (.ref nb1) :: (.ref nb2) :: (.int (nI nf)) :: (.int (nI bd)) :: (.int (nI mm)) :: (.int v33_56) :: (.ref pl) :: (.ref se) :: (.ref ke) :: (.ref wi) :: (.ref hs) :: (.ref mo) :: (.ref po) :: (.ref nu) :: (.ref pr) :: (.ref sq) :: (.ref xa) :: (.ref sa) :: (.ref n64) :: (.ref m64) :: (.ref ex) :: (.ref wh) :: (.ref sd) :: (.ref tk) :: (.int v52_57) :: (.int v53_58) :: (.int v54_59) :: (.ref hd) :: (.ref ak) :: (.ref ho) :: (.ref ot) :: []) := (hB1.2.2.2 h0 (by rw [hT_h0]; simp)).trans hF_131
            have hF_207 : F_205 va = .inl (cs 23, 40, .inr (.inr (.inr (.inr f_89)))) := (hB1.2.2.2 va (by rw [ht_88]; simp)).trans hF_132
            have hF_208 : F_205 b_92 = .inr (14, [.ref r_93, .int (nI z_100)]) := (hB1.2.2.2 b_92 (by rw [ht_96]; simp only [List.mem_cons, List.not_mem_nil, or_false]; omega)).trans hF_133
            have hF_209 : F_205 b_103 = .inr (14, [.ref r_104, .int (nI z_111)]) := (hB1.2.2.2 b_103 (by rw [ht_107]; simp only [List.mem_cons, List.not_mem_nil, or_false]; omega)).trans hF_134
            have hF_210 : F_205 x_5 = .inr (14, [.ref r_35, .int (nI z2_118)]) := (hB1.2.2.2 x_5 (by rw [ht_36]; simp)).trans hF_135
            have hF_211 : F_205 ke = .inr (13, [.ref x_5, .ref y0_6, .ref y1_7, .ref y2_8, .int (nI z2_128)]) := (hB1.2.2.2 ke (by rw [ht_30]; simp)).trans hq_129
            generalize H1 = H at hP hS ⊢
            have hw : (r_204 = 0 ∨ r_204 = 1) := hw
            have hw_212 := hw
            refine lv_if_eq (tgt := 139) hx hb dX15_keyOf_110 (by decide) (fun c_213 => ?_) (fun c_213 => ?_)
            ·
              refine lv_iconst (v := 0) hx hb dX15_keyOf_139 (by decide) ?_
              refine W.widen (k := 0) (n := 0) (by omega) (by omega) ?_
              exact jn_137 0 F_205 (⟨_, by omega, hF_211⟩) hO hR _ _ hP hD hS ls (lv_sub hl [0, 1] rfl)
            ·
              refine lv_aload_n hx hb dX15_keyOf_113 rfl (lv_at hl 1 rfl) ?_
              refine pg_get (ci := 15) (v := .ref m64) (C := RX15) (T := TX15) (N := 59) hx hb hts it_15 hown hK hP hL_h0 hF_206 rfl 47 (by decide) (hts _ kt_907) (fun _ h9 => h9) rfl dX15_keyOf_114 ?_
              refine lv_iconst (v := 0) hx hb dX15_keyOf_117 (by decide) ?_
              obtain ⟨f_214, hF_215, hq_216⟩ := hO.octs hi_200 ht_201
              refine pg_bald hx hb hK hP hi_200 1 hF_215 rfl (show vp_in (0 : Int32) 64 from (show vp_in (nI 0) 64 from vp_in_nI (by omega) (by omega))) dX15_keyOf_118 ?_
              refine lv_topi (fun x_217 ex_217 => ?_)
              obtain rfl : x_217 = f_214 0 := ex_217.trans (congrArg f_214 (show (0 : Int32).toNatClampNeg = 0 from by decide))
              refine lv_if_ge (tgt := 139) hx hb dX15_keyOf_119 (by decide) (fun c_218 => ?_) (fun c_218 => ?_)
              ·
                refine lv_iconst (v := 0) hx hb dX15_keyOf_139 (by decide) ?_
                refine W.widen (k := 0) (n := 0) (by omega) (by omega) ?_
                exact jn_137 0 F_205 (⟨_, by omega, hF_211⟩) hO hR _ _ hP hD hS ls (lv_sub hl [0, 1] rfl)
              ·
                refine lv_aload_n hx hb dX15_keyOf_122 rfl (lv_at hl 1 rfl) ?_
                refine pg_get (ci := 15) (v := .ref m64) (C := RX15) (T := TX15) (N := 59) hx hb hts it_15 hown hK hP hL_h0 hF_206 rfl 47 (by decide) (hts _ kt_907) (fun _ h9 => h9) rfl dX15_keyOf_123 ?_
                refine lv_bipush (v := 63) hx hb dX15_keyOf_126 (by decide) ?_
                refine pg_bald hx hb hK hP hi_200 1 hF_215 rfl (show vp_in (63 : Int32) 64 from (show vp_in (nI 63) 64 from vp_in_nI (by omega) (by omega))) dX15_keyOf_128 ?_
                refine lv_topi (fun x_219 ex_219 => ?_)
                obtain rfl : x_219 = f_214 63 := ex_219.trans (congrArg f_214 (show (63 : Int32).toNatClampNeg = 63 from by decide))
                refine lv_iconst (v := 1) hx hb dX15_keyOf_129 (by decide) ?_
                refine lv_iand hx hb dX15_keyOf_130 ?_
                refine lv_topi (fun x_220 _ => ?_)
                refine lv_iconst (v := 1) hx hb dX15_keyOf_131 (by decide) ?_
                refine lv_icmp_ne (tgt := 139) hx hb dX15_keyOf_132 (by decide) (fun c_221 => ?_) (fun c_221 => ?_)
                ·
                  refine lv_iconst (v := 0) hx hb dX15_keyOf_139 (by decide) ?_
                  refine W.widen (k := 0) (n := 0) (by omega) (by omega) ?_
                  exact jn_137 0 F_205 (⟨_, by omega, hF_211⟩) hO hR _ _ hP hD hS ls (lv_sub hl [0, 1] rfl)
                ·
                  refine lv_iconst (v := 1) hx hb dX15_keyOf_135 (by decide) ?_
                  refine lv_goto (tgt := 140) hx hb dX15_keyOf_136 (by decide) ?_
                  refine W.widen (k := 0) (n := 0) (by omega) (by omega) ?_
                  exact jn_137 1 F_205 (⟨_, by omega, hF_211⟩) hO hR _ _ hP hD hS ls (lv_sub hl [0, 1] rfl)
      ·
        have hi_222 : j = ze := (nI_eq (a := j) (b := ze) (by omega) (by omega)).mp c_82
        refine lv_bipush (v := 6) hx hb dX15_keyOf_50 (by decide) ?_
        refine W.widen (k := 0) (n := 0) (by omega) (by omega) ?_
        exact W.iret (v := 6) hx hb hr (fun t ht hWm => ⟨⟨6, (), rfl, trivial, ⟨F_75, QTm.mk ht hP hD hO hR⟩⟩, hS.F ht⟩) hS.2.2 dX15_keyOf_52
    ·
      have hi_223 : j < ze := ltN (N := ze) c_80
      refine lv_aload_n hx hb dX15_keyOf_23 rfl (lv_at hl 1 rfl) ?_
      refine lv_iload_n hx hb dX15_keyOf_24 rfl (lv_at hl 0 rfl) ?_
      refine lv_iconst (v := 0) hx hb dX15_keyOf_25 (by decide) ?_
      refine lv_aload_n hx hb dX15_keyOf_26 rfl (lv_at hl 1 rfl) ?_
      refine pg_get (ci := 15) (v := .ref wh) (C := RX15) (T := TX15) (N := 59) hx hb hts it_15 hown hK hP hL_h0 hF_79 rfl 49 (by decide) (hts _ kt_924) (fun _ h9 => h9) rfl dX15_keyOf_27 ?_
      have hFc := pg_free hD hS hA
      refine va_calli (va_runV (As := [.int (nI j), .int 0, .ref wh]) (rest := []) ⟨hx, hb, hml, hown, hts⟩ (s_X15_isOf l dC dI cs ty gm L H.size F_75 h0 ρ ta ou so ad na va lc dm tg pe ml bg co sp nb0 nb1 nb2 pl se ke wi hs mo po nu pr sq xa sa n64 m64 ex wh sd tk hd ak ho ot sx s0 s1 s2 nf bd mm zo fm sn hg gc gv ze zt j wh (ρ + 24) r_18 6000 0 hW hL_h0 hT_h0 hi_66 ht_67 (by first | omega | assumption | exact Or.inl rfl)) ⟨callB_of 3 hts (gi kt_725) rfl rfl rfl (hts _ kt_669) (hts _ kt_726) (by decide +kernel) ⟨Nat.le_of_ble_eq_true rfl, Nat.le_of_ble_eq_true rfl⟩, (hts _ kt_727), (hts _ kt_728)⟩ ⟨fun a U g mk q => ⟨q.1, PTm.calling q.2⟩, pg_recv hK hP hL_h0 hF_79 (q := (RX15, TX15, 59)) rfl, fun U hU hWm => ⟨rfl, PTm.mk hU hWm hP hK hD hE hO⟩⟩ rfl rfl hl.1 rfl (lv_room (Nat.le_of_ble_eq_true rfl)) dX15_keyOf_30 ⟨by show _ + 0 ≤ 0; omega, by show _ + 0 ≤ 0; omega⟩) hS (fun q _ h => hFc q h) hFc (fun r_224 u t H1 locs ht hvm hw hB hz1 hk1 hS => ?_)
      obtain ⟨F_225, hB1⟩ := hB
      obtain rfl : F_75 = F_225 := (funext (fun a => hB1.2.2.2 a List.not_mem_nil)).symm
      obtain ⟨hP, hD, hO, hR⟩ := QTm.back hB1 ht hFc hR (fun q h => absurd h List.not_mem_nil)
      generalize H1 = H at hP hS ⊢
      have hw : (r_224 = 0 ∨ r_224 = 1) := hw
      have hw_226 := hw
      refine lv_if_ne (tgt := 42) hx hb dX15_keyOf_33 (by decide) (fun c_227 => ?_) (fun c_227 => ?_)
      ·
        refine lv_iload_n hx hb dX15_keyOf_42 rfl (lv_at hl 0 rfl) ?_
        refine lv_aload_n hx hb dX15_keyOf_43 rfl (lv_at hl 1 rfl) ?_
        refine pg_get (ci := 15) (v := .int (nI ze)) (C := RX15) (T := TX15) (N := 59) hx hb hts it_15 hown hK hP hL_h0 hF_79 rfl 3 (by decide) (hts _ kt_724) (fun _ h9 => h9) rfl dX15_keyOf_44 ?_
        refine lv_icmp_ne (tgt := 53) hx hb dX15_keyOf_47 (by decide) (fun c_228 => ?_) (fun c_228 => ?_)
        ·
          have hi_229 : j ≠ ze := fun q => c_228 (by rw [q])
          obtain ⟨z_230, hF_231, hq_232⟩ := hO.tags hi_29 ht_30
          refine lv_aload_n hx hb dX15_keyOf_53 rfl (lv_at hl 1 rfl) ?_
          refine pg_get (ci := 15) (v := .ref va) (C := RX15) (T := TX15) (N := 59) hx hb hts it_15 hown hK hP hL_h0 hF_79 rfl 8 (by decide) (hts _ kt_732) (fun _ h9 => h9) rfl dX15_keyOf_54 ?_
          refine lv_iload_n hx hb dX15_keyOf_57 rfl (lv_at hl 0 rfl) ?_
          obtain ⟨hi_233, ht_234⟩ := hW.f_va hL_h0 hT_h0
          obtain ⟨f_235, hF_236, hq_237⟩ := hO.rtxj hi_233 ht_234
          obtain ⟨b_238, r_239, hbf_240, hi_241, ht_242⟩ := hq_237 j (by omega)
          refine pg_aald (r := b_238) hx hb hK hP hi_233 7 hF_236 rfl (vp_in_nI (by omega) (by omega)) (show f_235 ((nI j) : Int32).toNatClampNeg = _ from by rw [show ((nI j) : Int32) = nI j from rfl, nI_clamp (by omega)]; exact hbf_240) dX15_keyOf_58 ?_
          obtain ⟨hi_243, ht_244, hq_245⟩ := hW.txt hi_241 ht_242
          obtain ⟨z_246, hF_247, hq_248⟩ := hO.txt hi_241 ht_242
          refine pg_get (ci := 14) (v := .ref r_239) (C := RX14) (T := TX14) (N := 2) hx hb hts it_14 hown hK hP hi_241 hF_247 rfl 0 (by decide) (hts _ kt_710) (fun _ h9 => h9) rfl dX15_keyOf_59 ?_
          refine lv_iconst (v := 0) hx hb dX15_keyOf_62 (by decide) ?_
          refine lv_aload_n hx hb dX15_keyOf_63 rfl (lv_at hl 1 rfl) ?_
          refine pg_get (ci := 15) (v := .ref va) (C := RX15) (T := TX15) (N := 59) hx hb hts it_15 hown hK hP hL_h0 hF_79 rfl 8 (by decide) (hts _ kt_732) (fun _ h9 => h9) rfl dX15_keyOf_64 ?_
          refine lv_iload_n hx hb dX15_keyOf_67 rfl (lv_at hl 0 rfl) ?_
          obtain ⟨b_249, r_250, hbf_251, hi_252, ht_253⟩ := hq_237 j (by omega)
          refine pg_aald (r := b_249) hx hb hK hP hi_233 7 hF_236 rfl (vp_in_nI (by omega) (by omega)) (show f_235 ((nI j) : Int32).toNatClampNeg = _ from by rw [show ((nI j) : Int32) = nI j from rfl, nI_clamp (by omega)]; exact hbf_251) dX15_keyOf_68 ?_
          obtain ⟨hi_254, ht_255, hq_256⟩ := hW.txt hi_252 ht_253
          obtain ⟨z_257, hF_258, hq_259⟩ := hO.txt hi_252 ht_253
          refine pg_get (ci := 14) (v := .int (nI z_257)) (C := RX14) (T := TX14) (N := 2) hx hb hts it_14 hown hK hP hi_252 hF_258 rfl 1 (by decide) (hts _ kt_709) (fun _ h9 => h9) rfl dX15_keyOf_69 ?_
          refine lv_aload_n hx hb dX15_keyOf_72 rfl (lv_at hl 1 rfl) ?_
          refine pg_get (ci := 15) (v := .ref ke) (C := RX15) (T := TX15) (N := 59) hx hb hts it_15 hown hK hP hL_h0 hF_79 rfl 36 (by decide) (hts _ kt_925) (fun _ h9 => h9) rfl dX15_keyOf_73 ?_
          refine pg_get (ci := 13) (v := .ref x_5) (C := RX13) (T := TX13) (N := 5) hx hb hts it_13 hown hK hP hi_29 hF_231 rfl 0 (by decide) (hts _ kt_842) (fun _ h9 => h9) rfl dX15_keyOf_76 ?_
          refine W.eq (g2 := F0 m 79 ls [.ref x_5, .int (nI z_257), .int (nI 0), .ref r_239]) rfl ?_
          obtain ⟨hq_260, hq_261⟩ := hW.octs hi_243 ht_244
          have hFc := pg_free hD hS hA
          refine va_callv (va_runS (As := [.ref r_239, .int (nI 0), .int (nI z_257), .ref x_5]) (rest := []) ⟨hx, hb, hml, hown, hts⟩ (s_X15_withoutWhite l dC dI cs ty gm L H.size F_75 r_239 (ρ + 50 + j + 100) 700 x_5 (ρ + 14) r_35 700 0 z_257 hW hi_243 ht_244 hi_31 ht_36 (by first | omega | assumption | exact Or.inl rfl) (by first | omega | assumption | exact Or.inl rfl) (by first | omega | assumption | exact Or.inl rfl)) ⟨callB_of 4 hts (gi kt_926) rfl rfl rfl (hts _ kt_669) (hts _ kt_927) (by decide +kernel) ⟨Nat.le_of_ble_eq_true rfl, Nat.le_of_ble_eq_true rfl⟩, (hts _ kt_928)⟩ ⟨fun a U g mk q => ⟨q.1, PTm.calling q.2⟩, fun U hU hWm => ⟨rfl, PTm.mk hU hWm hP hK hD hE hO⟩⟩ rfl rfl hl.1 rfl (lv_room (Nat.le_of_ble_eq_true rfl)) dX15_keyOf_79 ⟨by show _ + 0 ≤ 0; omega, by show _ + 0 ≤ 0; omega⟩) hS (fun q _ h => hFc q h) hFc (fun u t H1 locs ht hvm hw hB hz1 hk1 hS => ?_)
          obtain ⟨F_263, z2_264, hB1, hq_265, hq_266⟩ := hB
          obtain ⟨hP, hD, hO, hR⟩ := QTm.back hB1 ht hFc hR (fun q h => by simp only [List.mem_cons, List.not_mem_nil, or_false] at h ⊢; omega)
          have hF_267 : F_263 h0 = .inr (15, (.ref ta) :: (.int (nI zt)) :: (.int (nI zo)) :: (.int (nI ze)) :: (.ref ou) :: (.ref so) :: (.ref ad) :: (.ref na) :: (.ref va) :: (.ref lc) :: (.ref dm) :: (.int (nI fm)) :: (.int (nI sn)) :: (.ref tg) :: (.int v14_48) :: (.int v15_49) :: (.ref pe) :: (.int v17_50) :: (.int v18_51) :: (.int v19_52) :: (.int v20_53) :: (.int v21_54) :: (.int v22_55) :: (.ref ml) :: (.ref bg) :: (.ref co) :: (.ref sp) :: (.ref nb0) :: (.ref nb1) :: (.ref nb2) :: (.int (nI nf)) :: (.int (nI bd)) :: (.int (nI mm)) :: (.int v33_56) :: (.ref pl) :: (.ref se) :: (.ref ke) :: (.ref wi) :: (.ref hs) :: (.ref mo) :: (.ref po) :: (.ref nu) :: (.ref pr) :: (.ref sq) :: (.ref xa) :: (.ref sa) :: (.ref n64) :: (.ref m64) :: (.ref ex) :: (.ref wh) :: (.ref sd) :: (.ref tk) :: (.int v52_57) :: (.int v53_58) :: (.int v54_59) :: (.ref hd) :: (.ref ak) :: (.ref ho) :: (.ref ot) :: []) := (hB1.2.2.2 h0 (by rw [hT_h0]; simp)).trans hF_79
          have hF_268 : F_263 ke = .inr (13, [.ref x_5, .ref y0_6, .ref y1_7, .ref y2_8, .int (nI z_230)]) := (hB1.2.2.2 ke (by rw [ht_30]; simp)).trans hF_231
          have hF_269 : F_263 va = .inl (cs 23, 40, .inr (.inr (.inr (.inr f_235)))) := (hB1.2.2.2 va (by rw [ht_234]; simp)).trans hF_236
          have hF_270 : F_263 b_238 = .inr (14, [.ref r_239, .int (nI z_246)]) := (hB1.2.2.2 b_238 (by rw [ht_242]; simp only [List.mem_cons, List.not_mem_nil, or_false]; omega)).trans hF_247
          have hF_271 : F_263 b_249 = .inr (14, [.ref r_250, .int (nI z_257)]) := (hB1.2.2.2 b_249 (by rw [ht_253]; simp only [List.mem_cons, List.not_mem_nil, or_false]; omega)).trans hF_258
          generalize H1 = H at hP hS ⊢
          refine lv_aload_n hx hb dX15_keyOf_82 rfl (lv_at hl 1 rfl) ?_
          refine pg_get (ci := 15) (v := .ref ke) (C := RX15) (T := TX15) (N := 59) hx hb hts it_15 hown hK hP hL_h0 hF_267 rfl 36 (by decide) (hts _ kt_925) (fun _ h9 => h9) rfl dX15_keyOf_83 ?_
          refine lv_bipush (v := 8) hx hb dX15_keyOf_86 (by decide) ?_
          have hFc := pg_free hD hS hA
          refine va_calli (va_runV (As := [.int 8]) (rest := []) ⟨hx, hb, hml, hown, hts⟩ (s_X13_read l dC dI cs ty gm L H.size F_263 ke (ρ + 13) x_5 700 700 y0_6 y1_7 y2_8 r_35 z2_264 8 hW hi_29 ht_30 hi_31 ht_36 hq_265 (by first | omega | assumption | exact Or.inl rfl)) ⟨callB_of 1 hts (gi kt_859) rfl rfl rfl (hts _ kt_829) (hts _ kt_860) (by decide +kernel) ⟨Nat.le_of_ble_eq_true rfl, Nat.le_of_ble_eq_true rfl⟩, (hts _ kt_861), (hts _ kt_862)⟩ ⟨fun a U g mk q => ⟨q.1, PTm.calling q.2⟩, pg_recv hK hP hi_29 hF_268 (q := (RX13, TX13, 5)) rfl, fun U hU hWm => ⟨rfl, PTm.mk hU hWm hP hK hD hE hO⟩⟩ rfl rfl hl.1 rfl (lv_room (Nat.le_of_ble_eq_true rfl)) dX15_keyOf_88 ⟨by show _ + 0 ≤ 0; omega, by show _ + 0 ≤ 0; omega⟩) hS (fun q _ h => hFc q h) hFc (fun r_272 u t H1 locs ht hvm hw hB hz1 hk1 hS => ?_)
          obtain ⟨F_273, z2_274, hB1, hq_275, hq_276⟩ := hB
          obtain ⟨hP, hD, hO, hR⟩ := QTm.back hB1 ht hFc hR (fun q h => by simp only [List.mem_cons, List.not_mem_nil, or_false] at h ⊢; omega)
          have hF_277 : F_273 h0 = .inr (15, (.ref ta) :: (.int (nI zt)) :: (.int (nI zo)) :: (.int (nI ze)) :: (.ref ou) :: (.ref so) :: (.ref ad) :: (.ref na) :: (.ref va) :: (.ref lc) :: (.ref dm) :: (.int (nI fm)) :: (.int (nI sn)) :: (.ref tg) :: (.int v14_48) :: (.int v15_49) :: (.ref pe) :: (.int v17_50) :: (.int v18_51) :: (.int v19_52) :: (.int v20_53) :: (.int v21_54) :: (.int v22_55) :: (.ref ml) :: (.ref bg) :: (.ref co) :: (.ref sp) :: (.ref nb0) :: (.ref nb1) :: (.ref nb2) :: (.int (nI nf)) :: (.int (nI bd)) :: (.int (nI mm)) :: (.int v33_56) :: (.ref pl) :: (.ref se) :: (.ref ke) :: (.ref wi) :: (.ref hs) :: (.ref mo) :: (.ref po) :: (.ref nu) :: (.ref pr) :: (.ref sq) :: (.ref xa) :: (.ref sa) :: (.ref n64) :: (.ref m64) :: (.ref ex) :: (.ref wh) :: (.ref sd) :: (.ref tk) :: (.int v52_57) :: (.int v53_58) :: (.int v54_59) :: (.ref hd) :: (.ref ak) :: (.ref ho) :: (.ref ot) :: []) := (hB1.2.2.2 h0 (by rw [hT_h0]; simp <;> omega)).trans hF_267
          have hF_278 : F_273 va = .inl (cs 23, 40, .inr (.inr (.inr (.inr f_235)))) := (hB1.2.2.2 va (by rw [ht_234]; simp <;> omega)).trans hF_269
          have hF_279 : F_273 b_238 = .inr (14, [.ref r_239, .int (nI z_246)]) := (hB1.2.2.2 b_238 (by rw [ht_242]; simp only [List.mem_cons, List.not_mem_nil, or_false]; omega)).trans hF_270
          have hF_280 : F_273 b_249 = .inr (14, [.ref r_250, .int (nI z_257)]) := (hB1.2.2.2 b_249 (by rw [ht_253]; simp only [List.mem_cons, List.not_mem_nil, or_false]; omega)).trans hF_271
          have hF_281 : F_273 x_5 = .inr (14, [.ref r_35, .int (nI z2_264)]) := (hB1.2.2.2 x_5 (by rw [ht_36]; simp <;> omega)).trans hq_265
          generalize H1 = H at hP hS ⊢
          have hw : (r_272 = 0 ∨ r_272 = 1) := hw
          have hw_282 := hw
          have hF_285 : F h0 = .inr (15, (.ref ta) :: (.int (nI zt)) :: (.int (nI zo)) :: (.int (nI ze)) :: (.ref ou) :: (.ref so) :: (.ref ad) :: (.ref na) :: (.ref va) :: (.ref lc) :: (.ref dm) :: (.int (nI fm)) :: (.int (nI sn)) :: (.ref tg) :: (.int v14_48) :: (.int v15_49) :: (.ref pe) :: (.int v17_50) :: (.int v18_51) :: (.int v19_52) :: (.int v20_53) :: (.int v21_54) :: (.int v22_55) :: (.ref ml) :: (.ref bg) :: (.ref co) :: (.ref sp) :: (.ref nb0) :: (.ref nb1) :: (.ref nb2) :: (.int (nI nf)) :: (.int (nI bd)) :: (.int (nI mm)) :: (.int v33_56) :: (.ref pl) :: (.ref se) :: (.ref ke) :: (.ref wi) :: (.ref hs) :: (.ref mo) :: (.ref po) :: (.ref nu) :: (.ref pr) :: (.ref sq) :: (.ref xa) :: (.ref sa) :: (.ref n64) :: (.ref m64) :: (.ref ex) :: (.ref wh) :: (.ref sd) :: (.ref tk) :: (.int v52_57) :: (.int v53_58) :: (.int v54_59) :: (.ref hd) :: (.ref ak) :: (.ref ho) :: (.ref ot) :: []) := (hR h0 (by rw [hT_h0]; simp)).symm.trans hF_277
          have hF_286 : F va = .inl (cs 23, 40, .inr (.inr (.inr (.inr f_235)))) := (hR va (by rw [ht_234]; simp)).symm.trans hF_278
          have hF_287 : F b_238 = .inr (14, [.ref r_239, .int (nI z_246)]) := (hR b_238 (by rw [ht_242]; simp only [List.mem_cons, List.not_mem_nil, or_false]; omega)).symm.trans hF_279
          have hF_288 : F b_249 = .inr (14, [.ref r_250, .int (nI z_257)]) := (hR b_249 (by rw [ht_253]; simp only [List.mem_cons, List.not_mem_nil, or_false]; omega)).symm.trans hF_280
          refine W.widen (k := 0) (n := 0) (by omega) (by omega) ?_
          refine pl_cutm (σ := Int32) A (dC, dI) cs ty gm L [ρ + 13, ρ + 14, ρ + 22, ρ + 83, ρ + 84] F 140 3 (fun s140 => [(1, .int (nI j)), (0, .ref h0)]) (fun s140 => [.int s140]) (fun s140 FF => ∃ zk : Nat, zk ≤ 40 ∧ FF ke = .inr (13, [.ref x_5, .ref y0_6, .ref y1_7, .ref y2_8, .int (nI zk)])) ?_ (fun jn_283 => ?_)
          ·
            rintro s140 F_284 hv_289 hO hR H locs hP hD hS ls hl
            have hl : lv_has ls 3 [(1, .int (nI j)), (0, .ref h0)] := hl
            have hv_289 : ∃ zk : Nat, zk ≤ 40 ∧ F_284 ke = .inr (13, [.ref x_5, .ref y0_6, .ref y1_7, .ref y2_8, .int (nI zk)]) := hv_289
            refine W.eq (g2 := F0 m 140 ls [.int s140]) rfl ?_
            have hF_290 : F_284 h0 = .inr (15, (.ref ta) :: (.int (nI zt)) :: (.int (nI zo)) :: (.int (nI ze)) :: (.ref ou) :: (.ref so) :: (.ref ad) :: (.ref na) :: (.ref va) :: (.ref lc) :: (.ref dm) :: (.int (nI fm)) :: (.int (nI sn)) :: (.ref tg) :: (.int v14_48) :: (.int v15_49) :: (.ref pe) :: (.int v17_50) :: (.int v18_51) :: (.int v19_52) :: (.int v20_53) :: (.int v21_54) :: (.int v22_55) :: (.ref ml) :: (.ref bg) :: (.ref co) :: (.ref sp) :: (.ref nb0) :: (.ref nb1) :: (.ref nb2) :: (.int (nI nf)) :: (.int (nI bd)) :: (.int (nI mm)) :: (.int v33_56) :: (.ref pl) :: (.ref se) :: (.ref ke) :: (.ref wi) :: (.ref hs) :: (.ref mo) :: (.ref po) :: (.ref nu) :: (.ref pr) :: (.ref sq) :: (.ref xa) :: (.ref sa) :: (.ref n64) :: (.ref m64) :: (.ref ex) :: (.ref wh) :: (.ref sd) :: (.ref tk) :: (.int v52_57) :: (.int v53_58) :: (.int v54_59) :: (.ref hd) :: (.ref ak) :: (.ref ho) :: (.ref ot) :: []) := (hR h0 (by rw [hT_h0]; simp)).trans hF_285
            have hF_291 : F_284 va = .inl (cs 23, 40, .inr (.inr (.inr (.inr f_235)))) := (hR va (by rw [ht_234]; simp)).trans hF_286
            have hF_292 : F_284 b_238 = .inr (14, [.ref r_239, .int (nI z_246)]) := (hR b_238 (by rw [ht_242]; simp only [List.mem_cons, List.not_mem_nil, or_false]; omega)).trans hF_287
            have hF_293 : F_284 b_249 = .inr (14, [.ref r_250, .int (nI z_257)]) := (hR b_249 (by rw [ht_253]; simp only [List.mem_cons, List.not_mem_nil, or_false]; omega)).trans hF_288
            obtain ⟨zk140, hzk140a, hzk140b⟩ := hv_289
            refine lv_istore_n (lv' := [(2, .int s140), (1, .int (nI j)), (0, .ref h0)]) hx hb dX15_keyOf_140 rfl hl (by decide) rfl (fun ls hl => ?_)
            refine lv_iload_n hx hb dX15_keyOf_141 rfl (lv_at hl 0 rfl) ?_
            have hF_296 : F h0 = .inr (15, (.ref ta) :: (.int (nI zt)) :: (.int (nI zo)) :: (.int (nI ze)) :: (.ref ou) :: (.ref so) :: (.ref ad) :: (.ref na) :: (.ref va) :: (.ref lc) :: (.ref dm) :: (.int (nI fm)) :: (.int (nI sn)) :: (.ref tg) :: (.int v14_48) :: (.int v15_49) :: (.ref pe) :: (.int v17_50) :: (.int v18_51) :: (.int v19_52) :: (.int v20_53) :: (.int v21_54) :: (.int v22_55) :: (.ref ml) :: (.ref bg) :: (.ref co) :: (.ref sp) :: (.ref nb0) :: (.ref nb1) :: (.ref nb2) :: (.int (nI nf)) :: (.int (nI bd)) :: (.int (nI mm)) :: (.int v33_56) :: (.ref pl) :: (.ref se) :: (.ref ke) :: (.ref wi) :: (.ref hs) :: (.ref mo) :: (.ref po) :: (.ref nu) :: (.ref pr) :: (.ref sq) :: (.ref xa) :: (.ref sa) :: (.ref n64) :: (.ref m64) :: (.ref ex) :: (.ref wh) :: (.ref sd) :: (.ref tk) :: (.int v52_57) :: (.int v53_58) :: (.int v54_59) :: (.ref hd) :: (.ref ak) :: (.ref ho) :: (.ref ot) :: []) := (hR h0 (by rw [hT_h0]; simp)).symm.trans hF_290
            have hF_297 : F va = .inl (cs 23, 40, .inr (.inr (.inr (.inr f_235)))) := (hR va (by rw [ht_234]; simp)).symm.trans hF_291
            have hF_298 : F b_238 = .inr (14, [.ref r_239, .int (nI z_246)]) := (hR b_238 (by rw [ht_242]; simp only [List.mem_cons, List.not_mem_nil, or_false]; omega)).symm.trans hF_292
            have hF_299 : F b_249 = .inr (14, [.ref r_250, .int (nI z_257)]) := (hR b_249 (by rw [ht_253]; simp only [List.mem_cons, List.not_mem_nil, or_false]; omega)).symm.trans hF_293
            refine W.widen (k := 0) (n := 0) (by omega) (by omega) ?_
            refine pl_cutm (σ := Int32) A (dC, dI) cs ty gm L [ρ + 13, ρ + 14, ρ + 22, ρ + 83, ρ + 84] F 176 3 (fun s176 => [(2, .int s140), (1, .int (nI j)), (0, .ref h0)]) (fun s176 => [.int s176, .int s140]) (fun s176 FF => ∃ zk : Nat, zk ≤ 40 ∧ FF ke = .inr (13, [.ref x_5, .ref y0_6, .ref y1_7, .ref y2_8, .int (nI zk)])) ?_ (fun jn_294 => ?_)
            ·
              rintro s176 F_295 hv_300 hO hR H locs hP hD hS ls hl
              have hl : lv_has ls 3 [(2, .int s140), (1, .int (nI j)), (0, .ref h0)] := hl
              have hv_300 : ∃ zk : Nat, zk ≤ 40 ∧ F_295 ke = .inr (13, [.ref x_5, .ref y0_6, .ref y1_7, .ref y2_8, .int (nI zk)]) := hv_300
              refine W.eq (g2 := F0 m 176 ls [.int s176, .int s140]) rfl ?_
              have hF_301 : F_295 h0 = .inr (15, (.ref ta) :: (.int (nI zt)) :: (.int (nI zo)) :: (.int (nI ze)) :: (.ref ou) :: (.ref so) :: (.ref ad) :: (.ref na) :: (.ref va) :: (.ref lc) :: (.ref dm) :: (.int (nI fm)) :: (.int (nI sn)) :: (.ref tg) :: (.int v14_48) :: (.int v15_49) :: (.ref pe) :: (.int v17_50) :: (.int v18_51) :: (.int v19_52) :: (.int v20_53) :: (.int v21_54) :: (.int v22_55) :: (.ref ml) :: (.ref bg) :: (.ref co) :: (.ref sp) :: (.ref nb0) :: (.ref nb1) :: (.ref nb2) :: (.int (nI nf)) :: (.int (nI bd)) :: (.int (nI mm)) :: (.int v33_56) :: (.ref pl) :: (.ref se) :: (.ref ke) :: (.ref wi) :: (.ref hs) :: (.ref mo) :: (.ref po) :: (.ref nu) :: (.ref pr) :: (.ref sq) :: (.ref xa) :: (.ref sa) :: (.ref n64) :: (.ref m64) :: (.ref ex) :: (.ref wh) :: (.ref sd) :: (.ref tk) :: (.int v52_57) :: (.int v53_58) :: (.int v54_59) :: (.ref hd) :: (.ref ak) :: (.ref ho) :: (.ref ot) :: []) := (hR h0 (by rw [hT_h0]; simp)).trans hF_296
              have hF_302 : F_295 va = .inl (cs 23, 40, .inr (.inr (.inr (.inr f_235)))) := (hR va (by rw [ht_234]; simp)).trans hF_297
              have hF_303 : F_295 b_238 = .inr (14, [.ref r_239, .int (nI z_246)]) := (hR b_238 (by rw [ht_242]; simp only [List.mem_cons, List.not_mem_nil, or_false]; omega)).trans hF_298
              have hF_304 : F_295 b_249 = .inr (14, [.ref r_250, .int (nI z_257)]) := (hR b_249 (by rw [ht_253]; simp only [List.mem_cons, List.not_mem_nil, or_false]; omega)).trans hF_299
              obtain ⟨zk176, hzk176a, hzk176b⟩ := hv_300
              refine lv_iand hx hb dX15_keyOf_176 ?_
              refine lv_topi (fun x_305 ex_305 => ?_)
              refine lv_istore_n (lv' := [(2, .int x_305), (1, .int (nI j)), (0, .ref h0)]) hx hb dX15_keyOf_177 rfl hl (by decide) rfl (fun ls hl => ?_)
              refine lv_iload_n hx hb dX15_keyOf_178 rfl (lv_at hl 0 rfl) ?_
              have hF_308 : F h0 = .inr (15, (.ref ta) :: (.int (nI zt)) :: (.int (nI zo)) :: (.int (nI ze)) :: (.ref ou) :: (.ref so) :: (.ref ad) :: (.ref na) :: (.ref va) :: (.ref lc) :: (.ref dm) :: (.int (nI fm)) :: (.int (nI sn)) :: (.ref tg) :: (.int v14_48) :: (.int v15_49) :: (.ref pe) :: (.int v17_50) :: (.int v18_51) :: (.int v19_52) :: (.int v20_53) :: (.int v21_54) :: (.int v22_55) :: (.ref ml) :: (.ref bg) :: (.ref co) :: (.ref sp) :: (.ref nb0) :: (.ref nb1) :: (.ref nb2) :: (.int (nI nf)) :: (.int (nI bd)) :: (.int (nI mm)) :: (.int v33_56) :: (.ref pl) :: (.ref se) :: (.ref ke) :: (.ref wi) :: (.ref hs) :: (.ref mo) :: (.ref po) :: (.ref nu) :: (.ref pr) :: (.ref sq) :: (.ref xa) :: (.ref sa) :: (.ref n64) :: (.ref m64) :: (.ref ex) :: (.ref wh) :: (.ref sd) :: (.ref tk) :: (.int v52_57) :: (.int v53_58) :: (.int v54_59) :: (.ref hd) :: (.ref ak) :: (.ref ho) :: (.ref ot) :: []) := (hR h0 (by rw [hT_h0]; simp)).symm.trans hF_301
              have hF_309 : F va = .inl (cs 23, 40, .inr (.inr (.inr (.inr f_235)))) := (hR va (by rw [ht_234]; simp)).symm.trans hF_302
              have hF_310 : F b_238 = .inr (14, [.ref r_239, .int (nI z_246)]) := (hR b_238 (by rw [ht_242]; simp only [List.mem_cons, List.not_mem_nil, or_false]; omega)).symm.trans hF_303
              have hF_311 : F b_249 = .inr (14, [.ref r_250, .int (nI z_257)]) := (hR b_249 (by rw [ht_253]; simp only [List.mem_cons, List.not_mem_nil, or_false]; omega)).symm.trans hF_304
              refine W.widen (k := 0) (n := 0) (by omega) (by omega) ?_
              refine pl_cutm (σ := Int32) A (dC, dI) cs ty gm L [ρ + 13, ρ + 14, ρ + 22, ρ + 83, ρ + 84] F 213 3 (fun s213 => [(2, .int x_305), (1, .int (nI j)), (0, .ref h0)]) (fun s213 => [.int s213, .int x_305]) (fun s213 FF => ∃ zk : Nat, zk ≤ 40 ∧ FF ke = .inr (13, [.ref x_5, .ref y0_6, .ref y1_7, .ref y2_8, .int (nI zk)])) ?_ (fun jn_306 => ?_)
              ·
                rintro s213 F_307 hv_312 hO hR H locs hP hD hS ls hl
                have hl : lv_has ls 3 [(2, .int x_305), (1, .int (nI j)), (0, .ref h0)] := hl
                have hv_312 : ∃ zk : Nat, zk ≤ 40 ∧ F_307 ke = .inr (13, [.ref x_5, .ref y0_6, .ref y1_7, .ref y2_8, .int (nI zk)]) := hv_312
                refine W.eq (g2 := F0 m 213 ls [.int s213, .int x_305]) rfl ?_
                have hF_313 : F_307 h0 = .inr (15, (.ref ta) :: (.int (nI zt)) :: (.int (nI zo)) :: (.int (nI ze)) :: (.ref ou) :: (.ref so) :: (.ref ad) :: (.ref na) :: (.ref va) :: (.ref lc) :: (.ref dm) :: (.int (nI fm)) :: (.int (nI sn)) :: (.ref tg) :: (.int v14_48) :: (.int v15_49) :: (.ref pe) :: (.int v17_50) :: (.int v18_51) :: (.int v19_52) :: (.int v20_53) :: (.int v21_54) :: (.int v22_55) :: (.ref ml) :: (.ref bg) :: (.ref co) :: (.ref sp) :: (.ref nb0) :: (.ref nb1) :: (.ref nb2) :: (.int (nI nf)) :: (.int (nI bd)) :: (.int (nI mm)) :: (.int v33_56) :: (.ref pl) :: (.ref se) :: (.ref ke) :: (.ref wi) :: (.ref hs) :: (.ref mo) :: (.ref po) :: (.ref nu) :: (.ref pr) :: (.ref sq) :: (.ref xa) :: (.ref sa) :: (.ref n64) :: (.ref m64) :: (.ref ex) :: (.ref wh) :: (.ref sd) :: (.ref tk) :: (.int v52_57) :: (.int v53_58) :: (.int v54_59) :: (.ref hd) :: (.ref ak) :: (.ref ho) :: (.ref ot) :: []) := (hR h0 (by rw [hT_h0]; simp)).trans hF_308
                have hF_314 : F_307 va = .inl (cs 23, 40, .inr (.inr (.inr (.inr f_235)))) := (hR va (by rw [ht_234]; simp)).trans hF_309
                have hF_315 : F_307 b_238 = .inr (14, [.ref r_239, .int (nI z_246)]) := (hR b_238 (by rw [ht_242]; simp only [List.mem_cons, List.not_mem_nil, or_false]; omega)).trans hF_310
                have hF_316 : F_307 b_249 = .inr (14, [.ref r_250, .int (nI z_257)]) := (hR b_249 (by rw [ht_253]; simp only [List.mem_cons, List.not_mem_nil, or_false]; omega)).trans hF_311
                obtain ⟨zk213, hzk213a, hzk213b⟩ := hv_312
                refine lv_iand hx hb dX15_keyOf_213 ?_
                refine lv_topi (fun x_317 ex_317 => ?_)
                refine lv_istore_n (lv' := [(2, .int x_317), (1, .int (nI j)), (0, .ref h0)]) hx hb dX15_keyOf_214 rfl hl (by decide) rfl (fun ls hl => ?_)
                refine lv_iload_n hx hb dX15_keyOf_215 rfl (lv_at hl 0 rfl) ?_
                refine lv_if_eq (tgt := 223) hx hb dX15_keyOf_216 (by decide) (fun c_318 => ?_) (fun c_318 => ?_)
                ·
                  refine lv_bipush (v := 6) hx hb dX15_keyOf_223 (by decide) ?_
                  refine W.widen (k := 0) (n := 0) (by omega) (by omega) ?_
                  exact W.iret (v := 6) hx hb hr (fun t ht hWm => ⟨⟨6, (), rfl, trivial, ⟨F_307, QTm.mk ht hP hD hO hR⟩⟩, hS.F ht⟩) hS.2.2 dX15_keyOf_225
                ·
                  refine lv_iconst (v := 2) hx hb dX15_keyOf_219 (by decide) ?_
                  refine lv_goto (tgt := 225) hx hb dX15_keyOf_220 (by decide) ?_
                  refine W.widen (k := 0) (n := 0) (by omega) (by omega) ?_
                  exact W.iret (v := 2) hx hb hr (fun t ht hWm => ⟨⟨2, (), rfl, trivial, ⟨F_307, QTm.mk ht hP hD hO hR⟩⟩, hS.F ht⟩) hS.2.2 dX15_keyOf_225
              ·
                refine lv_aload_n hx hb dX15_keyOf_179 rfl (lv_at hl 2 rfl) ?_
                refine pg_get (ci := 15) (v := .ref ke) (C := RX15) (T := TX15) (N := 59) hx hb hts it_15 hown hK hP hL_h0 hF_301 rfl 36 (by decide) (hts _ kt_925) (fun _ h9 => h9) rfl dX15_keyOf_180 ?_
                obtain ⟨q_319, v_320, hr_q_319, hX_q_319⟩ := hG.2.2 ("PostGateModel", 537, "k", [107]) (by decide +kernel)
                have hX_q_319 : SXc q_319 v_320 1 (cct [107]) A s s.heap := hX_q_319
                obtain ⟨xo_q_319, xc_q_319, xv_q_319, xt_q_319, xn_q_319⟩ := id hX_q_319
                have hr_q_319 : vk_R "PostGateModel" 537 "k" q_319 s := hr_q_319
                refine va_ldcwS hx hb hown hr_q_319 dX15_keyOf_183 ?_
                have hFc := pg_free hD hS hA
                refine va_calli (va_runV (As := [.ref q_319]) (rest := [.int x_305]) ⟨hx, hb, hml, hown, hts⟩ (s_X13_find l dC dI cs ty gm L H.size F_295 ke (ρ + 13) x_5 700 700 y0_6 y1_7 y2_8 r_35 zk176 q_319 v_320 1 (cct [107]) hW hi_29 ht_30 hi_31 ht_36 hzk176b (by first | omega | assumption | exact Or.inl rfl)) ⟨callB_of 1 hts (gi kt_828) rfl rfl rfl (hts _ kt_829) (hts _ kt_839) (by decide +kernel) ⟨Nat.le_of_ble_eq_true rfl, Nat.le_of_ble_eq_true rfl⟩, (hts _ kt_831), (hts _ kt_832)⟩ ⟨fun a U g mk q => ⟨q.1, PTEm.calling q.2⟩, pg_recv hK hP hi_29 hzk176b (q := (RX13, TX13, 5)) rfl, fun U hU hWm => ⟨rfl, PTEm.mk hU hWm hP hK hD hE hO hG (fun x hx => by rw [List.mem_singleton] at hx; subst hx; exact hX_q_319) hS hFc⟩⟩ rfl rfl hl.1 rfl (lv_room (Nat.le_of_ble_eq_true rfl)) dX15_keyOf_186 ⟨by show _ + 0 ≤ 0; omega, by show _ + 0 ≤ 0; omega⟩) hS (fun q _ h => hFc q h) hFc (fun r_321 u t H1 locs ht hvm hw hB hz1 hk1 hS => ?_)
                obtain ⟨F_322, hB1⟩ := hB
                obtain rfl : F_295 = F_322 := (funext (fun a => hB1.2.2.2 a List.not_mem_nil)).symm
                obtain ⟨hP, hD, hO, hR⟩ := QTm.back hB1 ht hFc hR (fun q h => absurd h List.not_mem_nil)
                generalize H1 = H at hP hS ⊢
                have hw : FND (gA (F_295 r_35)) (gA (F_295 y0_6)) (gA (F_295 y1_7)) zk176 (cct [107]) 1 r_321 := hw
                have hw_323 := hw
                refine lv_if_lt (tgt := 208) hx hb dX15_keyOf_189 (by decide) (fun c_324 => ?_) (fun c_324 => ?_)
                ·
                  refine lv_iconst (v := 1) hx hb dX15_keyOf_208 (by decide) ?_
                  refine lv_goto (tgt := 213) hx hb dX15_keyOf_209 (by decide) ?_
                  refine W.widen (k := 0) (n := 0) (by omega) (by omega) ?_
                  exact jn_306 1 F_295 (⟨_, by omega, hzk176b⟩) hO hR _ _ hP hD hS ls (lv_sub hl [0, 1, 2] rfl)
                ·
                  refine lv_aload_n hx hb dX15_keyOf_192 rfl (lv_at hl 2 rfl) ?_
                  refine pg_get (ci := 15) (v := .ref ke) (C := RX15) (T := TX15) (N := 59) hx hb hts it_15 hown hK hP hL_h0 hF_301 rfl 36 (by decide) (hts _ kt_925) (fun _ h9 => h9) rfl dX15_keyOf_193 ?_
                  refine va_ldcwS hx hb hown hr_q_319 dX15_keyOf_196 ?_
                  obtain ⟨q_325, v_326, hr_q_325, hX_q_325⟩ := hG.2.2 ("PostGateModel", 539, "rsa", [114, 115, 97]) (by decide +kernel)
                  have hX_q_325 : SXc q_325 v_326 3 (cct [114, 115, 97]) A s s.heap := hX_q_325
                  obtain ⟨xo_q_325, xc_q_325, xv_q_325, xt_q_325, xn_q_325⟩ := id hX_q_325
                  have hr_q_325 : vk_R "PostGateModel" 539 "rsa" q_325 s := hr_q_325
                  refine va_ldcwS hx hb hown hr_q_325 dX15_keyOf_199 ?_
                  have hFc := pg_free hD hS hA
                  refine va_calli (va_runV (As := [.ref q_319, .ref q_325]) (rest := [.int x_305]) ⟨hx, hb, hml, hown, hts⟩ (s_X13_has l dC dI cs ty gm L H.size F_295 ke (ρ + 13) x_5 700 700 y0_6 y1_7 y2_8 r_35 zk176 q_319 v_320 1 (cct [107]) q_325 v_326 3 (cct [114, 115, 97]) hW hi_29 ht_30 hi_31 ht_36 hzk176b (by first | omega | assumption | exact Or.inl rfl)) ⟨callB_of 2 hts (gi kt_863) rfl rfl rfl (hts _ kt_829) (hts _ kt_864) (by decide +kernel) ⟨Nat.le_of_ble_eq_true rfl, Nat.le_of_ble_eq_true rfl⟩, (hts _ kt_865), (hts _ kt_866)⟩ ⟨fun a U g mk q => ⟨q.1, PTEm.calling q.2⟩, pg_recv hK hP hi_29 hzk176b (q := (RX13, TX13, 5)) rfl, fun U hU hWm => ⟨rfl, PTEm.mk hU hWm hP hK hD hE hO hG (fun x hx => by simp only [List.mem_cons, List.not_mem_nil, or_false] at hx; rcases hx with hx | hx <;> subst hx <;> first | exact hX_q_319 | exact hX_q_325) hS hFc⟩⟩ rfl rfl hl.1 rfl (lv_room (Nat.le_of_ble_eq_true rfl)) dX15_keyOf_202 ⟨by show _ + 0 ≤ 0; omega, by show _ + 0 ≤ 0; omega⟩) hS (fun q _ h => hFc q h) hFc (fun r_327 u t H1 locs ht hvm hw hB hz1 hk1 hS => ?_)
                  obtain ⟨F_328, hB1⟩ := hB
                  obtain rfl : F_295 = F_328 := (funext (fun a => hB1.2.2.2 a List.not_mem_nil)).symm
                  obtain ⟨hP, hD, hO, hR⟩ := QTm.back hB1 ht hFc hR (fun q h => absurd h List.not_mem_nil)
                  generalize H1 = H at hP hS ⊢
                  have hw : (r_327 = 0 ∨ r_327 = 1) := hw
                  have hw_329 := hw
                  refine lv_if_eq (tgt := 212) hx hb dX15_keyOf_205 (by decide) (fun c_330 => ?_) (fun c_330 => ?_)
                  ·
                    refine lv_iconst (v := 0) hx hb dX15_keyOf_212 (by decide) ?_
                    refine W.widen (k := 0) (n := 0) (by omega) (by omega) ?_
                    exact jn_306 0 F_295 (⟨_, by omega, hzk176b⟩) hO hR _ _ hP hD hS ls (lv_sub hl [0, 1, 2] rfl)
                  ·
                    refine lv_iconst (v := 1) hx hb dX15_keyOf_208 (by decide) ?_
                    refine lv_goto (tgt := 213) hx hb dX15_keyOf_209 (by decide) ?_
                    refine W.widen (k := 0) (n := 0) (by omega) (by omega) ?_
                    exact jn_306 1 F_295 (⟨_, by omega, hzk176b⟩) hO hR _ _ hP hD hS ls (lv_sub hl [0, 1, 2] rfl)
            ·
              refine lv_aload_n hx hb dX15_keyOf_142 rfl (lv_at hl 2 rfl) ?_
              refine pg_get (ci := 15) (v := .ref ke) (C := RX15) (T := TX15) (N := 59) hx hb hts it_15 hown hK hP hL_h0 hF_290 rfl 36 (by decide) (hts _ kt_925) (fun _ h9 => h9) rfl dX15_keyOf_143 ?_
              obtain ⟨q_331, v_332, hr_q_331, hX_q_331⟩ := hG.2.2 ("PostGateModel", 444, "v", [118]) (by decide +kernel)
              have hX_q_331 : SXc q_331 v_332 1 (cct [118]) A s s.heap := hX_q_331
              obtain ⟨xo_q_331, xc_q_331, xv_q_331, xt_q_331, xn_q_331⟩ := id hX_q_331
              have hr_q_331 : vk_R "PostGateModel" 444 "v" q_331 s := hr_q_331
              refine va_ldcwS hx hb hown hr_q_331 dX15_keyOf_146 ?_
              have hFc := pg_free hD hS hA
              refine va_calli (va_runV (As := [.ref q_331]) (rest := [.int s140]) ⟨hx, hb, hml, hown, hts⟩ (s_X13_find l dC dI cs ty gm L H.size F_284 ke (ρ + 13) x_5 700 700 y0_6 y1_7 y2_8 r_35 zk140 q_331 v_332 1 (cct [118]) hW hi_29 ht_30 hi_31 ht_36 hzk140b (by first | omega | assumption | exact Or.inl rfl)) ⟨callB_of 1 hts (gi kt_828) rfl rfl rfl (hts _ kt_829) (hts _ kt_839) (by decide +kernel) ⟨Nat.le_of_ble_eq_true rfl, Nat.le_of_ble_eq_true rfl⟩, (hts _ kt_831), (hts _ kt_832)⟩ ⟨fun a U g mk q => ⟨q.1, PTEm.calling q.2⟩, pg_recv hK hP hi_29 hzk140b (q := (RX13, TX13, 5)) rfl, fun U hU hWm => ⟨rfl, PTEm.mk hU hWm hP hK hD hE hO hG (fun x hx => by rw [List.mem_singleton] at hx; subst hx; exact hX_q_331) hS hFc⟩⟩ rfl rfl hl.1 rfl (lv_room (Nat.le_of_ble_eq_true rfl)) dX15_keyOf_149 ⟨by show _ + 0 ≤ 0; omega, by show _ + 0 ≤ 0; omega⟩) hS (fun q _ h => hFc q h) hFc (fun r_333 u t H1 locs ht hvm hw hB hz1 hk1 hS => ?_)
              obtain ⟨F_334, hB1⟩ := hB
              obtain rfl : F_284 = F_334 := (funext (fun a => hB1.2.2.2 a List.not_mem_nil)).symm
              obtain ⟨hP, hD, hO, hR⟩ := QTm.back hB1 ht hFc hR (fun q h => absurd h List.not_mem_nil)
              generalize H1 = H at hP hS ⊢
              have hw : FND (gA (F_284 r_35)) (gA (F_284 y0_6)) (gA (F_284 y1_7)) zk140 (cct [118]) 1 r_333 := hw
              have hw_335 := hw
              refine lv_if_lt (tgt := 171) hx hb dX15_keyOf_152 (by decide) (fun c_336 => ?_) (fun c_336 => ?_)
              ·
                refine lv_iconst (v := 1) hx hb dX15_keyOf_171 (by decide) ?_
                refine lv_goto (tgt := 176) hx hb dX15_keyOf_172 (by decide) ?_
                refine W.widen (k := 0) (n := 0) (by omega) (by omega) ?_
                exact jn_294 1 F_284 (⟨_, by omega, hzk140b⟩) hO hR _ _ hP hD hS ls (lv_sub hl [0, 1, 2] rfl)
              ·
                refine lv_aload_n hx hb dX15_keyOf_155 rfl (lv_at hl 2 rfl) ?_
                refine pg_get (ci := 15) (v := .ref ke) (C := RX15) (T := TX15) (N := 59) hx hb hts it_15 hown hK hP hL_h0 hF_290 rfl 36 (by decide) (hts _ kt_925) (fun _ h9 => h9) rfl dX15_keyOf_156 ?_
                refine va_ldcwS hx hb hown hr_q_331 dX15_keyOf_159 ?_
                obtain ⟨q_337, v_338, hr_q_337, hX_q_337⟩ := hG.2.2 ("PostGateModel", 535, "DKIM1", [68, 75, 73, 77, 49]) (by decide +kernel)
                have hX_q_337 : SXc q_337 v_338 5 (cct [68, 75, 73, 77, 49]) A s s.heap := hX_q_337
                obtain ⟨xo_q_337, xc_q_337, xv_q_337, xt_q_337, xn_q_337⟩ := id hX_q_337
                have hr_q_337 : vk_R "PostGateModel" 535 "DKIM1" q_337 s := hr_q_337
                refine va_ldcwS hx hb hown hr_q_337 dX15_keyOf_162 ?_
                have hFc := pg_free hD hS hA
                refine va_calli (va_runV (As := [.ref q_331, .ref q_337]) (rest := [.int s140]) ⟨hx, hb, hml, hown, hts⟩ (s_X13_has l dC dI cs ty gm L H.size F_284 ke (ρ + 13) x_5 700 700 y0_6 y1_7 y2_8 r_35 zk140 q_331 v_332 1 (cct [118]) q_337 v_338 5 (cct [68, 75, 73, 77, 49]) hW hi_29 ht_30 hi_31 ht_36 hzk140b (by first | omega | assumption | exact Or.inl rfl)) ⟨callB_of 2 hts (gi kt_863) rfl rfl rfl (hts _ kt_829) (hts _ kt_864) (by decide +kernel) ⟨Nat.le_of_ble_eq_true rfl, Nat.le_of_ble_eq_true rfl⟩, (hts _ kt_865), (hts _ kt_866)⟩ ⟨fun a U g mk q => ⟨q.1, PTEm.calling q.2⟩, pg_recv hK hP hi_29 hzk140b (q := (RX13, TX13, 5)) rfl, fun U hU hWm => ⟨rfl, PTEm.mk hU hWm hP hK hD hE hO hG (fun x hx => by simp only [List.mem_cons, List.not_mem_nil, or_false] at hx; rcases hx with hx | hx <;> subst hx <;> first | exact hX_q_331 | exact hX_q_337) hS hFc⟩⟩ rfl rfl hl.1 rfl (lv_room (Nat.le_of_ble_eq_true rfl)) dX15_keyOf_165 ⟨by show _ + 0 ≤ 0; omega, by show _ + 0 ≤ 0; omega⟩) hS (fun q _ h => hFc q h) hFc (fun r_339 u t H1 locs ht hvm hw hB hz1 hk1 hS => ?_)
                obtain ⟨F_340, hB1⟩ := hB
                obtain rfl : F_284 = F_340 := (funext (fun a => hB1.2.2.2 a List.not_mem_nil)).symm
                obtain ⟨hP, hD, hO, hR⟩ := QTm.back hB1 ht hFc hR (fun q h => absurd h List.not_mem_nil)
                generalize H1 = H at hP hS ⊢
                have hw : (r_339 = 0 ∨ r_339 = 1) := hw
                have hw_341 := hw
                refine lv_if_eq (tgt := 175) hx hb dX15_keyOf_168 (by decide) (fun c_342 => ?_) (fun c_342 => ?_)
                ·
                  refine lv_iconst (v := 0) hx hb dX15_keyOf_175 (by decide) ?_
                  refine W.widen (k := 0) (n := 0) (by omega) (by omega) ?_
                  exact jn_294 0 F_284 (⟨_, by omega, hzk140b⟩) hO hR _ _ hP hD hS ls (lv_sub hl [0, 1, 2] rfl)
                ·
                  refine lv_iconst (v := 1) hx hb dX15_keyOf_171 (by decide) ?_
                  refine lv_goto (tgt := 176) hx hb dX15_keyOf_172 (by decide) ?_
                  refine W.widen (k := 0) (n := 0) (by omega) (by omega) ?_
                  exact jn_294 1 F_284 (⟨_, by omega, hzk140b⟩) hO hR _ _ hP hD hS ls (lv_sub hl [0, 1, 2] rfl)
          ·
            refine lv_if_eq (tgt := 139) hx hb dX15_keyOf_91 (by decide) (fun c_343 => ?_) (fun c_343 => ?_)
            ·
              refine lv_iconst (v := 0) hx hb dX15_keyOf_139 (by decide) ?_
              refine W.widen (k := 0) (n := 0) (by omega) (by omega) ?_
              exact jn_283 0 F_273 (⟨_, by omega, hq_275⟩) hO hR _ _ hP hD hS ls (lv_sub hl [0, 1] rfl)
            ·
              refine lv_aload_n hx hb dX15_keyOf_94 rfl (lv_at hl 1 rfl) ?_
              refine pg_get (ci := 15) (v := .ref ke) (C := RX15) (T := TX15) (N := 59) hx hb hts it_15 hown hK hP hL_h0 hF_277 rfl 36 (by decide) (hts _ kt_925) (fun _ h9 => h9) rfl dX15_keyOf_95 ?_
              obtain ⟨q_344, v_345, hr_q_344, hX_q_344⟩ := hG.2.2 ("PostGateModel", 533, "p", [112]) (by decide +kernel)
              have hX_q_344 : SXc q_344 v_345 1 (cct [112]) A s s.heap := hX_q_344
              obtain ⟨xo_q_344, xc_q_344, xv_q_344, xt_q_344, xn_q_344⟩ := id hX_q_344
              have hr_q_344 : vk_R "PostGateModel" 533 "p" q_344 s := hr_q_344
              refine va_ldcwS hx hb hown hr_q_344 dX15_keyOf_98 ?_
              refine lv_bipush (v := 64) hx hb dX15_keyOf_101 (by decide) ?_
              refine lv_aload_n hx hb dX15_keyOf_103 rfl (lv_at hl 1 rfl) ?_
              refine pg_get (ci := 15) (v := .ref m64) (C := RX15) (T := TX15) (N := 59) hx hb hts it_15 hown hK hP hL_h0 hF_277 rfl 47 (by decide) (hts _ kt_907) (fun _ h9 => h9) rfl dX15_keyOf_104 ?_
              obtain ⟨hi_346, ht_347⟩ := hW.f_m64 hL_h0 hT_h0
              obtain ⟨hq_348, hq_349⟩ := hW.octs hi_346 ht_347
              have hFc := pg_free hD hS hA
              refine va_calli (va_runS (As := [.ref ke, .ref q_344, .int 64, .ref m64]) (rest := []) ⟨hx, hb, hml, hown, hts⟩ (s_X15_base_64 l dC dI cs ty gm L H.size F_273 ke (ρ + 13) x_5 700 700 y0_6 y1_7 y2_8 r_35 z2_274 m64 (ρ + 22) q_344 v_345 1 (cct [112]) hW hi_29 ht_30 hi_31 ht_36 hi_346 ht_347 hq_275 (by first | omega | assumption | exact Or.inl rfl)) ⟨callB_of 4 hts (gi kt_872) rfl rfl rfl (hts _ kt_669) (hts _ kt_873) (by decide +kernel) ⟨Nat.le_of_ble_eq_true rfl, Nat.le_of_ble_eq_true rfl⟩, (hts _ kt_874)⟩ ⟨fun a U g mk q => ⟨q.1, PTEm.calling q.2⟩, fun U hU hWm => ⟨rfl, PTEm.mk hU hWm hP hK hD hE hO hG (fun x hx => by rw [List.mem_singleton] at hx; subst hx; exact hX_q_344) hS hFc⟩⟩ rfl rfl hl.1 rfl (lv_room (Nat.le_of_ble_eq_true rfl)) dX15_keyOf_107 ⟨by show _ + 0 ≤ 0; omega, by show _ + 0 ≤ 0; omega⟩) hS (fun q _ h => hFc q h) hFc (fun r_350 u t H1 locs ht hvm hw hB hz1 hk1 hS => ?_)
              obtain ⟨F_351, hB1⟩ := hB
              obtain ⟨hP, hD, hO, hR⟩ := QTm.back hB1 ht hFc hR (fun q h => by simp only [List.mem_cons, List.not_mem_nil, or_false] at h ⊢; omega)
              have hF_352 : F_351 h0 = .inr (15, (.ref ta) :: (.int (nI zt)) :: (.int (nI zo)) :: (.int (nI ze)) :: (.ref ou) :: (.ref so) :: (.ref ad) :: (.ref na) :: (.ref va) :: (.ref lc) :: (.ref dm) :: (.int (nI fm)) :: (.int (nI sn)) :: (.ref tg) :: (.int v14_48) :: (.int v15_49) :: (.ref pe) :: (.int v17_50) :: (.int v18_51) :: (.int v19_52) :: (.int v20_53) :: (.int v21_54) :: (.int v22_55) :: (.ref ml) :: (.ref bg) :: (.ref co) :: (.ref sp) :: (.ref nb0) :: (.ref nb1) :: (.ref nb2) :: (.int (nI nf)) :: (.int (nI bd)) :: (.int (nI mm)) :: (.int v33_56) :: (.ref pl) :: (.ref se) :: (.ref ke) :: (.ref wi) :: (.ref hs) :: (.ref mo) :: (.ref po) :: (.ref nu) :: (.ref pr) :: (.ref sq) :: (.ref xa) :: (.ref sa) :: (.ref n64) :: (.ref m64) :: (.ref ex) :: (.ref wh) :: (.ref sd) :: (.ref tk) :: (.int v52_57) :: (.int v53_58) :: (.int v54_59) :: (.ref hd) :: (.ref ak) :: (.ref ho) :: (.ref ot) :: []) := (hB1.2.2.2 h0 (by rw [hT_h0]; simp)).trans hF_277
              have hF_353 : F_351 va = .inl (cs 23, 40, .inr (.inr (.inr (.inr f_235)))) := (hB1.2.2.2 va (by rw [ht_234]; simp)).trans hF_278
              have hF_354 : F_351 b_238 = .inr (14, [.ref r_239, .int (nI z_246)]) := (hB1.2.2.2 b_238 (by rw [ht_242]; simp only [List.mem_cons, List.not_mem_nil, or_false]; omega)).trans hF_279
              have hF_355 : F_351 b_249 = .inr (14, [.ref r_250, .int (nI z_257)]) := (hB1.2.2.2 b_249 (by rw [ht_253]; simp only [List.mem_cons, List.not_mem_nil, or_false]; omega)).trans hF_280
              have hF_356 : F_351 x_5 = .inr (14, [.ref r_35, .int (nI z2_264)]) := (hB1.2.2.2 x_5 (by rw [ht_36]; simp)).trans hF_281
              have hF_357 : F_351 ke = .inr (13, [.ref x_5, .ref y0_6, .ref y1_7, .ref y2_8, .int (nI z2_274)]) := (hB1.2.2.2 ke (by rw [ht_30]; simp)).trans hq_275
              generalize H1 = H at hP hS ⊢
              have hw : (r_350 = 0 ∨ r_350 = 1) := hw
              have hw_358 := hw
              refine lv_if_eq (tgt := 139) hx hb dX15_keyOf_110 (by decide) (fun c_359 => ?_) (fun c_359 => ?_)
              ·
                refine lv_iconst (v := 0) hx hb dX15_keyOf_139 (by decide) ?_
                refine W.widen (k := 0) (n := 0) (by omega) (by omega) ?_
                exact jn_283 0 F_351 (⟨_, by omega, hF_357⟩) hO hR _ _ hP hD hS ls (lv_sub hl [0, 1] rfl)
              ·
                refine lv_aload_n hx hb dX15_keyOf_113 rfl (lv_at hl 1 rfl) ?_
                refine pg_get (ci := 15) (v := .ref m64) (C := RX15) (T := TX15) (N := 59) hx hb hts it_15 hown hK hP hL_h0 hF_352 rfl 47 (by decide) (hts _ kt_907) (fun _ h9 => h9) rfl dX15_keyOf_114 ?_
                refine lv_iconst (v := 0) hx hb dX15_keyOf_117 (by decide) ?_
                obtain ⟨f_360, hF_361, hq_362⟩ := hO.octs hi_346 ht_347
                refine pg_bald hx hb hK hP hi_346 1 hF_361 rfl (show vp_in (0 : Int32) 64 from (show vp_in (nI 0) 64 from vp_in_nI (by omega) (by omega))) dX15_keyOf_118 ?_
                refine lv_topi (fun x_363 ex_363 => ?_)
                obtain rfl : x_363 = f_360 0 := ex_363.trans (congrArg f_360 (show (0 : Int32).toNatClampNeg = 0 from by decide))
                refine lv_if_ge (tgt := 139) hx hb dX15_keyOf_119 (by decide) (fun c_364 => ?_) (fun c_364 => ?_)
                ·
                  refine lv_iconst (v := 0) hx hb dX15_keyOf_139 (by decide) ?_
                  refine W.widen (k := 0) (n := 0) (by omega) (by omega) ?_
                  exact jn_283 0 F_351 (⟨_, by omega, hF_357⟩) hO hR _ _ hP hD hS ls (lv_sub hl [0, 1] rfl)
                ·
                  refine lv_aload_n hx hb dX15_keyOf_122 rfl (lv_at hl 1 rfl) ?_
                  refine pg_get (ci := 15) (v := .ref m64) (C := RX15) (T := TX15) (N := 59) hx hb hts it_15 hown hK hP hL_h0 hF_352 rfl 47 (by decide) (hts _ kt_907) (fun _ h9 => h9) rfl dX15_keyOf_123 ?_
                  refine lv_bipush (v := 63) hx hb dX15_keyOf_126 (by decide) ?_
                  refine pg_bald hx hb hK hP hi_346 1 hF_361 rfl (show vp_in (63 : Int32) 64 from (show vp_in (nI 63) 64 from vp_in_nI (by omega) (by omega))) dX15_keyOf_128 ?_
                  refine lv_topi (fun x_365 ex_365 => ?_)
                  obtain rfl : x_365 = f_360 63 := ex_365.trans (congrArg f_360 (show (63 : Int32).toNatClampNeg = 63 from by decide))
                  refine lv_iconst (v := 1) hx hb dX15_keyOf_129 (by decide) ?_
                  refine lv_iand hx hb dX15_keyOf_130 ?_
                  refine lv_topi (fun x_366 _ => ?_)
                  refine lv_iconst (v := 1) hx hb dX15_keyOf_131 (by decide) ?_
                  refine lv_icmp_ne (tgt := 139) hx hb dX15_keyOf_132 (by decide) (fun c_367 => ?_) (fun c_367 => ?_)
                  ·
                    refine lv_iconst (v := 0) hx hb dX15_keyOf_139 (by decide) ?_
                    refine W.widen (k := 0) (n := 0) (by omega) (by omega) ?_
                    exact jn_283 0 F_351 (⟨_, by omega, hF_357⟩) hO hR _ _ hP hD hS ls (lv_sub hl [0, 1] rfl)
                  ·
                    refine lv_iconst (v := 1) hx hb dX15_keyOf_135 (by decide) ?_
                    refine lv_goto (tgt := 140) hx hb dX15_keyOf_136 (by decide) ?_
                    refine W.widen (k := 0) (n := 0) (by omega) (by omega) ?_
                    exact jn_283 1 F_351 (⟨_, by omega, hF_357⟩) hO hR _ _ hP hD hS ls (lv_sub hl [0, 1] rfl)
        ·
          have hi_368 : j = ze := (nI_eq (a := j) (b := ze) (by omega) (by omega)).mp c_228
          refine lv_bipush (v := 6) hx hb dX15_keyOf_50 (by decide) ?_
          refine W.widen (k := 0) (n := 0) (by omega) (by omega) ?_
          exact W.iret (v := 6) hx hb hr (fun t ht hWm => ⟨⟨6, (), rfl, trivial, ⟨F_75, QTm.mk ht hP hD hO hR⟩⟩, hS.F ht⟩) hS.2.2 dX15_keyOf_52
      ·
        refine lv_iinc (v := (nI (j + 1))) (lv' := [(1, .int (nI (j + 1))), (0, .ref h0)]) hx hb dX15_keyOf_36 hl (k := 0) rfl (nI_1 _) (by decide) rfl (fun ls hl => ?_)
        refine lv_goto (tgt := 15) hx hb dX15_keyOf_39 (by decide) ?_
        refine W.widen (k := 0) (n := 0) (by omega) (by omega) ?_
        exact ih_78 (j + 1) F_75 (by first | omega | exact ⟨by omega, by omega⟩ | trivial) (by show 40 - (j + 1) < 40 - j; omega) hO hR _ _ hP hD hS ls (lv_sub hl [0, 1] rfl)
  ·
    refine lv_iconst (v := 5) hx hb dX15_keyOf_11 (by decide) ?_
    refine W.widen (k := 0) (n := 0) (by omega) (by omega) ?_
    exact W.iret (v := 5) hx hb hr (fun t ht hWm => ⟨⟨5, (), rfl, trivial, ⟨F, QTm.mk ht hP hD hO hR⟩⟩, hS.F ht⟩) hS.2.2 dX15_keyOf_12
set_option maxHeartbeats 4000000 in
set_option maxRecDepth 100000 in
theorem s_X15_fieldsPlain (l : Launch) (dC : Nat → ClassId) (dI : Nat → Nat → Nat) (cs : Nat → ClassId) (ty : TyM) (gm : Nat → Nat → Nat) (L : List Nat) (sz : Nat) (F : Nat → va_E) (h0 : Nat) (ρ : Nat) (ta : Nat) (ou : Nat) (so : Nat) (ad : Nat) (na : Nat) (va : Nat) (lc : Nat) (dm : Nat) (tg : Nat) (pe : Nat) (ml : Nat) (bg : Nat) (co : Nat) (sp : Nat) (nb0 : Nat) (nb1 : Nat) (nb2 : Nat) (pl : Nat) (se : Nat) (ke : Nat) (wi : Nat) (hs : Nat) (mo : Nat) (po : Nat) (nu : Nat) (pr : Nat) (sq : Nat) (xa : Nat) (sa : Nat) (n64 : Nat) (m64 : Nat) (ex : Nat) (wh : Nat) (sd : Nat) (tk : Nat) (hd : Nat) (ak : Nat) (ho : Nat) (ot : Nat) (sx : Nat) (s0 : Nat) (s1 : Nat) (s2 : Nat) (nf : Nat) (bd : Nat) (mm : Nat) (zo : Nat) (fm : Nat) (sn : Nat) (hg : Nat) (gc : Nat) (gv : Nat) (ze : Nat) (zt : Nat) (sb : Nat) (rl : Nat) (eb : Nat → Int32) (e0 : Nat → Int32) (e1 : Nat → Int32) (e2 : Nat → Int32) (zs : Nat) (kh : Nat) (jf : Nat) (hW : WTm ty gm L) (hL_h0 : h0 ∈ L) (hT_h0 : ty h0 = (15, ρ, [ta, ou, so, ad, na, va, lc, dm, tg, pe, ml, bg, co, sp, nb0, nb1, nb2, pl, se, ke, wi, hs, mo, po, nu, pr, sq, xa, sa, n64, m64, ex, wh, sd, tk, hd, ak, ho, ot, sx, s0, s1, s2, nf, bd, mm, zo, fm, sn, hg, gc, gv, ze, zt])) (hL_sx : sx ∈ L) (hT_sx : ty sx = (14, ρ + 12, [sb, 3000])) (hL_pl : pl ∈ L) (hT_pl : ty pl = (14, ρ + 10, [rl, 6000])) (hfk0 : F sb = .inl (cs 17, 3000, .inl eb)) (hfk1 : F s0 = .inl (cs 16, 40, .inl e0)) (hfk2 : F s1 = .inl (cs 16, 40, .inl e1)) (hfk3 : F s2 = .inl (cs 16, 40, .inl e2)) (hfk4 : F se = .inr (13, [.ref sx, .ref s0, .ref s1, .ref s2, .int (nI zs)])) (hzs : zs ≤ 40) (hkh : kh < zs) (hfn : FND eb e0 e1 zs (cct [104]) 1 (nI kh)) (hjf : jf < nf) : Met l yX15_fieldsPlain (.code yX15_fieldsPlain cX15_fieldsPlain 11 none :: tb) ({ frames := 6, cells := 0, slots := 0, locals := 131 }) (va_Pc [.ref h0, .int (nI jf)] (PTEm (dC, dI) cs ty gm L F sz [])) (va_Qv (fun _ : Unit => True) (fun _ T9 => ∃ F2 : Nat → va_E, QTm (dC, dI) cs ty gm L [ρ + 10, ρ + 26] F F2 (va_A (va_pl L F) sz) T9) (va_A (va_pl L F) sz)) 0 0 (va_A (va_pl L F) sz) := by
  refine Met.ofW (cc := cX15_fieldsPlain) (maxL := 11) (ret := none) (by decide) rfl ?_
  intro p e s m args below meth c s₁ B hml hv
  obtain ⟨rfl, ⟨hsz, hP, hK, hD0, hE, hO⟩, hG, hX⟩ := hv
  have hx := B.exec
  have hb := B.bytes
  have hr := B.returns
  have hts : ∀ w ∈ tb, w.before _ s = true := fun w h => atoms_spec (ws := .code yX15_fieldsPlain cX15_fieldsPlain 11 none :: tb) B.pre w (List.mem_cons_of_mem _ h)
  have hown : s.vm.findClass RX15 = some m.cls := findClass_of_methodNamed B.named
  have hlocks := B.notSynchronized
  subst hsz
  have hD := hD0.self (sz := s.heap.size)
  generalize hAe : va_A (va_pl L F) s.heap.size = A at hD hG hX ⊢
  have hA : ∀ q : Nat, s.heap.size ≤ q → A q := fun q h => by rw [← hAe]; exact Or.inr h
  have hS : va_S A s.heap s.heap [] := va_S.rf
  have hR : FR ty [ρ + 10, ρ + 26] F F := FR.refl
  have hl := lv_entry ([.ref h0, .int (nI jf)]) (n := 11) (Nat.le_of_ble_eq_true rfl)
  rw [lg_entry_eq]
  generalize (lg_sl ([.ref h0, .int (nI jf)]) ++ List.replicate (11 - (lg_sl ([.ref h0, .int (nI jf)])).length) Slot.unset).toArray = ls at hl ⊢
  have hl : lv_has ls 11 [(0, .ref h0), (1, .int (nI jf))] := hl
  obtain ⟨hq_22, hq_23, hq_24, hq_25, hq_26, hgO, hgA, hgB, hq_27⟩ := hW.sc hL_h0 hT_h0
  have hoj := hgO jf hjf
  obtain ⟨hi_28, ht_29⟩ := hW.f_se hL_h0 hT_h0
  obtain ⟨_, hi_30, hi_31, hi_32, _, ht_33, ht_34, ht_35, hq_36, hq_37⟩ := hW.tags hi_28 ht_29
  have ht_34 : ty s1 = (25, ρ + 81, [40, 1280]) := ht_34
  have ht_35 : ty s2 = (25, ρ + 82, [40, 1280]) := ht_35
  obtain ⟨hi_38, ht_39, hq_40⟩ := hW.txt hL_sx hT_sx
  obtain ⟨hi_41, ht_42, hq_43⟩ := hW.txt hL_pl hT_pl
  obtain ⟨hi_44, ht_45⟩ := hW.f_tk hL_h0 hT_h0
  refine lv_aload_n hx hb dX15_fieldsPlain_0 rfl (lv_at hl 0 rfl) ?_
  obtain ⟨v14_46, v15_47, v17_48, v18_49, v19_50, v20_51, v21_52, v22_53, v33_54, v52_55, v53_56, v54_57, hF_58, hq_59, hq_60, hq_61, hq_62, hq_63⟩ := hO.mod hL_h0 hT_h0
  refine pg_get (ci := 15) (v := .ref pl) (C := RX15) (T := TX15) (N := 59) hx hb hts it_15 hown hK hP hL_h0 hF_58 rfl 34 (by decide) (hts _ kt_901) (fun _ h9 => h9) rfl dX15_fieldsPlain_1 ?_
  refine lv_iconst (v := 0) hx hb dX15_fieldsPlain_4 (by decide) ?_
  obtain ⟨z_64, hF_65, hq_66⟩ := hO.txt hL_pl hT_pl
  refine pg_put (ci := 14) (v := .int 0) (ty := .int) (C := RX14) (T := TX14) (N := 2) hx hb hts it_14 tyX14 tyX14_ok nmX14 hown hK hP hD hS hL_pl hF_65 rfl 1 (by decide) (hts _ kt_709) (fun _ h9 => h9) rfl (by decide +kernel) (rfl) (rfl) (Nat.le_of_ble_eq_true rfl) dX15_fieldsPlain_5 (fun H locs hP hD hS => ?_)
  obtain ⟨F_67, he_68, hP, hD, hO, hR⟩ : ∃ G, G = va_up F pl (.inr (14, [.ref rl, .int 0])) ∧ va_P (dC, dI) vwCl (va_pl L G) H ∧ va_D A (va_pl L G) ∧ OKm cs ty gm L G ∧ FR ty [ρ + 10, ρ + 26] F G := ⟨_, rfl, hP, hD, hO.up (shm.txt hT_pl ⟨0, rfl, (by first | omega | assumption | exact Or.inl rfl | exact Or.inr rfl)⟩), hR.up hT_pl (by simp)⟩
  have hF_69 : F_67 pl = .inr (14, [.ref rl, .int 0]) := by rw [he_68]; exact up_self
  have hF_70 : F_67 sb = .inl (cs 17, 3000, .inl eb) := by rw [he_68, up_ne (ne_ty ht_39 hT_pl (by simp))]; exact hfk0
  have hF_71 : F_67 s0 = .inl (cs 16, 40, .inl e0) := by rw [he_68, up_ne (ne_ty ht_33 hT_pl (by simp))]; exact hfk1
  have hF_72 : F_67 s1 = .inl (cs 16, 40, .inl e1) := by rw [he_68, up_ne (ne_ty ht_34 hT_pl (by simp))]; exact hfk2
  have hF_73 : F_67 s2 = .inl (cs 16, 40, .inl e2) := by rw [he_68, up_ne (ne_ty ht_35 hT_pl (by simp))]; exact hfk3
  have hF_74 : F_67 se = .inr (13, [.ref sx, .ref s0, .ref s1, .ref s2, .int (nI zs)]) := by rw [he_68, up_ne (ne_ty ht_29 hT_pl (by simp))]; exact hfk4
  have hF_75 : F_67 h0 = .inr (15, (.ref ta) :: (.int (nI zt)) :: (.int (nI zo)) :: (.int (nI ze)) :: (.ref ou) :: (.ref so) :: (.ref ad) :: (.ref na) :: (.ref va) :: (.ref lc) :: (.ref dm) :: (.int (nI fm)) :: (.int (nI sn)) :: (.ref tg) :: (.int v14_46) :: (.int v15_47) :: (.ref pe) :: (.int v17_48) :: (.int v18_49) :: (.int v19_50) :: (.int v20_51) :: (.int v21_52) :: (.int v22_53) :: (.ref ml) :: (.ref bg) :: (.ref co) :: (.ref sp) :: (.ref nb0) :: (.ref nb1) :: (.ref nb2) :: (.int (nI nf)) :: (.int (nI bd)) :: (.int (nI mm)) :: (.int v33_54) :: (.ref pl) :: (.ref se) :: (.ref ke) :: (.ref wi) :: (.ref hs) :: (.ref mo) :: (.ref po) :: (.ref nu) :: (.ref pr) :: (.ref sq) :: (.ref xa) :: (.ref sa) :: (.ref n64) :: (.ref m64) :: (.ref ex) :: (.ref wh) :: (.ref sd) :: (.ref tk) :: (.int v52_55) :: (.int v53_56) :: (.int v54_57) :: (.ref hd) :: (.ref ak) :: (.ref ho) :: (.ref ot) :: []) := by rw [he_68, up_ne (ne_ty hT_h0 hT_pl (by simp))]; exact hF_58
  refine lv_aload_n hx hb dX15_fieldsPlain_8 rfl (lv_at hl 0 rfl) ?_
  refine pg_get (ci := 15) (v := .ref tk) (C := RX15) (T := TX15) (N := 59) hx hb hts it_15 hown hK hP hL_h0 hF_75 rfl 51 (by decide) (hts _ kt_929) (fun _ h9 => h9) rfl dX15_fieldsPlain_9 ?_
  refine lv_iconst (v := 0) hx hb dX15_fieldsPlain_12 (by decide) ?_
  have hFc := pg_free hD hS hA
  refine va_callv (va_runS (As := [.ref tk, .int 0]) (rest := []) ⟨hx, hb, hml, hown, hts⟩ (m_J7_fill_49daa l dC dI cs ty gm L H.size F_67 tk (ρ + 26) 20 hW hi_44 ht_45 (by first | omega | assumption | exact Or.inl rfl)) ⟨callB_of 2 hts (gi kt_930) rfl rfl rfl (hts _ kt_808) (hts _ kt_931) (by decide +kernel) ⟨Nat.le_of_ble_eq_true rfl, Nat.le_of_ble_eq_true rfl⟩, (hts _ kt_932)⟩ ⟨fun a U g mk q => ⟨q.1, PTm.calling q.2⟩, fun U hU hWm => ⟨rfl, PTm.mk hU hWm hP hK hD hE hO⟩⟩ rfl rfl hl.1 rfl (lv_room (Nat.le_of_ble_eq_true rfl)) dX15_fieldsPlain_13 ⟨by show _ + 0 ≤ 0; omega, by show _ + 0 ≤ 0; omega⟩) hS (fun q _ h => hFc q h) hFc (fun u t H1 locs ht hvm hw hB hz1 hk1 hS => ?_)
  obtain ⟨F_77, f2_78, hB1, hq_79, hq_80⟩ := hB
  obtain ⟨hP, hD, hO, hR⟩ := QTm.back hB1 ht hFc hR (fun q h => by simp only [List.mem_cons, List.not_mem_nil, or_false] at h ⊢; omega)
  have hF_81 : F_77 pl = .inr (14, [.ref rl, .int 0]) := (hB1.2.2.2 pl (by rw [hT_pl]; simp)).trans hF_69
  have hF_82 : F_77 sb = .inl (cs 17, 3000, .inl eb) := (hB1.2.2.2 sb (by rw [ht_39]; simp)).trans hF_70
  have hF_83 : F_77 s0 = .inl (cs 16, 40, .inl e0) := (hB1.2.2.2 s0 (by rw [ht_33]; simp)).trans hF_71
  have hF_84 : F_77 s1 = .inl (cs 16, 40, .inl e1) := (hB1.2.2.2 s1 (by rw [ht_34]; simp)).trans hF_72
  have hF_85 : F_77 s2 = .inl (cs 16, 40, .inl e2) := (hB1.2.2.2 s2 (by rw [ht_35]; simp)).trans hF_73
  have hF_86 : F_77 se = .inr (13, [.ref sx, .ref s0, .ref s1, .ref s2, .int (nI zs)]) := (hB1.2.2.2 se (by rw [ht_29]; simp)).trans hF_74
  have hF_87 : F_77 h0 = .inr (15, (.ref ta) :: (.int (nI zt)) :: (.int (nI zo)) :: (.int (nI ze)) :: (.ref ou) :: (.ref so) :: (.ref ad) :: (.ref na) :: (.ref va) :: (.ref lc) :: (.ref dm) :: (.int (nI fm)) :: (.int (nI sn)) :: (.ref tg) :: (.int v14_46) :: (.int v15_47) :: (.ref pe) :: (.int v17_48) :: (.int v18_49) :: (.int v19_50) :: (.int v20_51) :: (.int v21_52) :: (.int v22_53) :: (.ref ml) :: (.ref bg) :: (.ref co) :: (.ref sp) :: (.ref nb0) :: (.ref nb1) :: (.ref nb2) :: (.int (nI nf)) :: (.int (nI bd)) :: (.int (nI mm)) :: (.int v33_54) :: (.ref pl) :: (.ref se) :: (.ref ke) :: (.ref wi) :: (.ref hs) :: (.ref mo) :: (.ref po) :: (.ref nu) :: (.ref pr) :: (.ref sq) :: (.ref xa) :: (.ref sa) :: (.ref n64) :: (.ref m64) :: (.ref ex) :: (.ref wh) :: (.ref sd) :: (.ref tk) :: (.int v52_55) :: (.int v53_56) :: (.int v54_57) :: (.ref hd) :: (.ref ak) :: (.ref ho) :: (.ref ot) :: []) := (hB1.2.2.2 h0 (by rw [hT_h0]; simp)).trans hF_75
  generalize H1 = H at hP hS ⊢
  refine lv_aload_n hx hb dX15_fieldsPlain_16 rfl (lv_at hl 0 rfl) ?_
  refine pg_get (ci := 15) (v := .ref se) (C := RX15) (T := TX15) (N := 59) hx hb hts it_15 hown hK hP hL_h0 hF_87 rfl 35 (by decide) (hts _ kt_847) (fun _ h9 => h9) rfl dX15_fieldsPlain_17 ?_
  obtain ⟨q_88, v_89, hr_q_88, hX_q_88⟩ := hG.2.2 ("PostGateModel", 486, "h", [104]) (by decide +kernel)
  have hX_q_88 : SXc q_88 v_89 1 (cct [104]) A s s.heap := hX_q_88
  obtain ⟨xo_q_88, xc_q_88, xv_q_88, xt_q_88, xn_q_88⟩ := id hX_q_88
  have hr_q_88 : vk_R "PostGateModel" 486 "h" q_88 s := hr_q_88
  refine va_ldcwS hx hb hown hr_q_88 dX15_fieldsPlain_20 ?_
  have hFc := pg_free hD hS hA
  refine va_calli (va_runV (As := [.ref q_88]) (rest := []) ⟨hx, hb, hml, hown, hts⟩ (s_X13_find l dC dI cs ty gm L H.size F_77 se (ρ + 11) sx 3000 1280 s0 s1 s2 sb zs q_88 v_89 1 (cct [104]) hW hi_28 ht_29 hL_sx hT_sx hF_86 (by first | omega | assumption | exact Or.inl rfl)) ⟨callB_of 1 hts (gi kt_828) rfl rfl rfl (hts _ kt_829) (hts _ kt_839) (by decide +kernel) ⟨Nat.le_of_ble_eq_true rfl, Nat.le_of_ble_eq_true rfl⟩, (hts _ kt_831), (hts _ kt_832)⟩ ⟨fun a U g mk q => ⟨q.1, PTEm.calling q.2⟩, pg_recv hK hP hi_28 hF_86 (q := (RX13, TX13, 5)) rfl, fun U hU hWm => ⟨rfl, PTEm.mk hU hWm hP hK hD hE hO hG (fun x hx => by rw [List.mem_singleton] at hx; subst hx; exact hX_q_88) hS hFc⟩⟩ rfl rfl hl.1 rfl (lv_room (Nat.le_of_ble_eq_true rfl)) dX15_fieldsPlain_23 ⟨by show _ + 0 ≤ 0; omega, by show _ + 0 ≤ 0; omega⟩) hS (fun q _ h => hFc q h) hFc (fun r_90 u t H1 locs ht hvm hw hB hz1 hk1 hS => ?_)
  obtain ⟨F_91, hB1⟩ := hB
  obtain rfl : F_77 = F_91 := (funext (fun a => hB1.2.2.2 a List.not_mem_nil)).symm
  obtain ⟨hP, hD, hO, hR⟩ := QTm.back hB1 ht hFc hR (fun q h => absurd h List.not_mem_nil)
  generalize H1 = H at hP hS ⊢
  have hw : FND (gA (F_77 sb)) (gA (F_77 s0)) (gA (F_77 s1)) zs (cct [104]) 1 r_90 := hw
  have hw_92 := hw
  have hfr : FND eb e0 e1 zs (cct [104]) 1 r_90 := by have h9 := hw_92; rw [gA_fun hF_82, gA_fun hF_83, gA_fun hF_84] at h9; exact h9
  obtain rfl := FND.uniq hfr hfn
  refine lv_istore_n (lv' := [(2, .int (nI kh)), (0, .ref h0), (1, .int (nI jf))]) hx hb dX15_fieldsPlain_26 rfl hl (by decide) rfl (fun ls hl => ?_)
  refine lv_aload_n hx hb dX15_fieldsPlain_27 rfl (lv_at hl 1 rfl) ?_
  refine pg_get (ci := 15) (v := .ref se) (C := RX15) (T := TX15) (N := 59) hx hb hts it_15 hown hK hP hL_h0 hF_87 rfl 35 (by decide) (hts _ kt_847) (fun _ h9 => h9) rfl dX15_fieldsPlain_28 ?_
  refine pg_get (ci := 13) (v := .ref sx) (C := RX13) (T := TX13) (N := 5) hx hb hts it_13 hown hK hP hi_28 hF_86 rfl 0 (by decide) (hts _ kt_842) (fun _ h9 => h9) rfl dX15_fieldsPlain_31 ?_
  obtain ⟨z_93, hF_94, hq_95⟩ := hO.txt hL_sx hT_sx
  refine pg_get (ci := 14) (v := .ref sb) (C := RX14) (T := TX14) (N := 2) hx hb hts it_14 hown hK hP hL_sx hF_94 rfl 0 (by decide) (hts _ kt_710) (fun _ h9 => h9) rfl dX15_fieldsPlain_34 ?_
  refine lv_astore_n (lv' := [(3, .ref sb), (2, .int (nI kh)), (0, .ref h0), (1, .int (nI jf))]) hx hb dX15_fieldsPlain_37 rfl hl (by decide) rfl (fun ls hl => ?_)
  refine lv_aload_n hx hb dX15_fieldsPlain_38 rfl (lv_at hl 2 rfl) ?_
  refine pg_get (ci := 15) (v := .ref se) (C := RX15) (T := TX15) (N := 59) hx hb hts it_15 hown hK hP hL_h0 hF_87 rfl 35 (by decide) (hts _ kt_847) (fun _ h9 => h9) rfl dX15_fieldsPlain_39 ?_
  refine pg_get (ci := 13) (v := .ref s1) (C := RX13) (T := TX13) (N := 5) hx hb hts it_13 hown hK hP hi_28 hF_86 rfl 2 (by decide) (hts _ kt_840) (fun _ h9 => h9) rfl dX15_fieldsPlain_42 ?_
  refine lv_iload_n hx hb dX15_fieldsPlain_45 rfl (lv_at hl 1 rfl) ?_
  refine pg_iald hx hb hK hP hi_31 0 hF_84 rfl (vp_in_nI (by omega) (by omega)) dX15_fieldsPlain_46 ?_
  have hq_96 := ixb_of hF_84 (hO.idb hi_31 ht_34)
  obtain ⟨k_97, hk_98, ek_99⟩ := hq_96 ((nI kh) : Int32).toNatClampNeg
  refine lv_topi (fun x_100 ex_100 => ?_)
  obtain rfl : x_100 = nI k_97 := ex_100.trans ek_99
  refine lv_iconst (v := 1) hx hb dX15_fieldsPlain_47 (by decide) ?_
  refine lv_iadd hx hb dX15_fieldsPlain_48 ?_
  refine lv_topi (fun x_101 ex_101 => ?_)
  obtain rfl : x_101 = (nI (k_97 + 1)) := ex_101.trans (nI_add k_97 1)
  refine lv_istore (lv' := [(4, .int (nI (k_97 + 1))), (3, .ref sb), (2, .int (nI kh)), (0, .ref h0), (1, .int (nI jf))]) hx hb dX15_fieldsPlain_49 hl (by decide) rfl (fun ls hl => ?_)
  refine W.widen (k := 0) (n := 0) (by omega) (by omega) ?_
  have hF_103 : F sb = .inl (cs 17, 3000, .inl eb) := (hR sb (by rw [ht_39]; simp)).symm.trans hF_82
  have hF_104 : F s0 = .inl (cs 16, 40, .inl e0) := (hR s0 (by rw [ht_33]; simp)).symm.trans hF_83
  have hF_105 : F s1 = .inl (cs 16, 40, .inl e1) := (hR s1 (by rw [ht_34]; simp)).symm.trans hF_84
  have hF_106 : F s2 = .inl (cs 16, 40, .inl e2) := (hR s2 (by rw [ht_35]; simp)).symm.trans hF_85
  have hF_107 : F se = .inr (13, [.ref sx, .ref s0, .ref s1, .ref s2, .int (nI zs)]) := (hR se (by rw [ht_29]; simp)).symm.trans hF_86
  have hF_108 : F h0 = .inr (15, (.ref ta) :: (.int (nI zt)) :: (.int (nI zo)) :: (.int (nI ze)) :: (.ref ou) :: (.ref so) :: (.ref ad) :: (.ref na) :: (.ref va) :: (.ref lc) :: (.ref dm) :: (.int (nI fm)) :: (.int (nI sn)) :: (.ref tg) :: (.int v14_46) :: (.int v15_47) :: (.ref pe) :: (.int v17_48) :: (.int v18_49) :: (.int v19_50) :: (.int v20_51) :: (.int v21_52) :: (.int v22_53) :: (.ref ml) :: (.ref bg) :: (.ref co) :: (.ref sp) :: (.ref nb0) :: (.ref nb1) :: (.ref nb2) :: (.int (nI nf)) :: (.int (nI bd)) :: (.int (nI mm)) :: (.int v33_54) :: (.ref pl) :: (.ref se) :: (.ref ke) :: (.ref wi) :: (.ref hs) :: (.ref mo) :: (.ref po) :: (.ref nu) :: (.ref pr) :: (.ref sq) :: (.ref xa) :: (.ref sa) :: (.ref n64) :: (.ref m64) :: (.ref ex) :: (.ref wh) :: (.ref sd) :: (.ref tk) :: (.int v52_55) :: (.int v53_56) :: (.int v54_57) :: (.ref hd) :: (.ref ak) :: (.ref ho) :: (.ref ot) :: []) := (hR h0 (by rw [hT_h0]; simp)).symm.trans hF_87
  have hF_109 : F sx = .inr (14, [.ref sb, .int (nI z_93)]) := (hR sx (by rw [hT_sx]; simp)).symm.trans hF_94
  refine pl_loopm (σ := Nat × Nat × (Nat → Int32)) A (dC, dI) cs ty gm L [ρ + 10, ρ + 26] F 51 11 (fun (j, zz, ft) => [(4, .int (nI j)), (3, .ref sb), (2, .int (nI kh)), (0, .ref h0), (1, .int (nI jf))]) (fun (j, zz, ft) => []) (fun (j, zz, ft) FF => j ≤ 1282 ∧ zz ≤ tsum gm ft nf ∧ FF pl = .inr (14, [.ref rl, .int (nI zz)]) ∧ FF tk = .inl (cs 18, 20, .inl ft)) (fun (j, zz, ft) => 1282 - j) ?_ ((k_97 + 1), 0, f2_78) F_77 (⟨by omega, by omega, hF_81, hq_79⟩) hO hR _ _ hP hD hS ls (lv_sub hl [0, 1, 2, 3, 4] rfl)
  rintro ⟨j, zz, ft⟩ F_102 hv_110 hO hR ih_111 H locs hP hD hS ls hl
  have hl : lv_has ls 11 [(4, .int (nI j)), (3, .ref sb), (2, .int (nI kh)), (0, .ref h0), (1, .int (nI jf))] := hl
  have hv_110 : j ≤ 1282 ∧ zz ≤ tsum gm ft nf ∧ F_102 pl = .inr (14, [.ref rl, .int (nI zz)]) ∧ F_102 tk = .inl (cs 18, 20, .inl ft) := hv_110
  refine W.eq (g2 := F0 m 51 ls []) rfl ?_
  have hF_112 : F_102 sb = .inl (cs 17, 3000, .inl eb) := (hR sb (by rw [ht_39]; simp)).trans hF_103
  have hF_113 : F_102 s0 = .inl (cs 16, 40, .inl e0) := (hR s0 (by rw [ht_33]; simp)).trans hF_104
  have hF_114 : F_102 s1 = .inl (cs 16, 40, .inl e1) := (hR s1 (by rw [ht_34]; simp)).trans hF_105
  have hF_115 : F_102 s2 = .inl (cs 16, 40, .inl e2) := (hR s2 (by rw [ht_35]; simp)).trans hF_106
  have hF_116 : F_102 se = .inr (13, [.ref sx, .ref s0, .ref s1, .ref s2, .int (nI zs)]) := (hR se (by rw [ht_29]; simp)).trans hF_107
  have hF_117 : F_102 h0 = .inr (15, (.ref ta) :: (.int (nI zt)) :: (.int (nI zo)) :: (.int (nI ze)) :: (.ref ou) :: (.ref so) :: (.ref ad) :: (.ref na) :: (.ref va) :: (.ref lc) :: (.ref dm) :: (.int (nI fm)) :: (.int (nI sn)) :: (.ref tg) :: (.int v14_46) :: (.int v15_47) :: (.ref pe) :: (.int v17_48) :: (.int v18_49) :: (.int v19_50) :: (.int v20_51) :: (.int v21_52) :: (.int v22_53) :: (.ref ml) :: (.ref bg) :: (.ref co) :: (.ref sp) :: (.ref nb0) :: (.ref nb1) :: (.ref nb2) :: (.int (nI nf)) :: (.int (nI bd)) :: (.int (nI mm)) :: (.int v33_54) :: (.ref pl) :: (.ref se) :: (.ref ke) :: (.ref wi) :: (.ref hs) :: (.ref mo) :: (.ref po) :: (.ref nu) :: (.ref pr) :: (.ref sq) :: (.ref xa) :: (.ref sa) :: (.ref n64) :: (.ref m64) :: (.ref ex) :: (.ref wh) :: (.ref sd) :: (.ref tk) :: (.int v52_55) :: (.int v53_56) :: (.int v54_57) :: (.ref hd) :: (.ref ak) :: (.ref ho) :: (.ref ot) :: []) := (hR h0 (by rw [hT_h0]; simp)).trans hF_108
  have hF_118 : F_102 sx = .inr (14, [.ref sb, .int (nI z_93)]) := (hR sx (by rw [hT_sx]; simp)).trans hF_109
  obtain ⟨hp1, hp2, hp3, hp4⟩ := hv_110
  have htl := (tsum_le (ft := ft) hgO hgA (Nat.le_refl nf)).1
  refine lv_iload hx hb dX15_fieldsPlain_51 (lv_at hl 0 rfl) ?_
  refine lv_aload_n hx hb dX15_fieldsPlain_53 rfl (lv_at hl 3 rfl) ?_
  refine pg_get (ci := 15) (v := .ref se) (C := RX15) (T := TX15) (N := 59) hx hb hts it_15 hown hK hP hL_h0 hF_117 rfl 35 (by decide) (hts _ kt_847) (fun _ h9 => h9) rfl dX15_fieldsPlain_54 ?_
  refine pg_get (ci := 13) (v := .ref s2) (C := RX13) (T := TX13) (N := 5) hx hb hts it_13 hown hK hP hi_28 hF_116 rfl 3 (by decide) (hts _ kt_841) (fun _ h9 => h9) rfl dX15_fieldsPlain_57 ?_
  refine lv_iload_n hx hb dX15_fieldsPlain_60 rfl (lv_at hl 2 rfl) ?_
  refine pg_iald hx hb hK hP hi_32 0 hF_115 rfl (vp_in_nI (by omega) (by omega)) dX15_fieldsPlain_61 ?_
  have hq_119 := ixb_of hF_115 (hO.idb hi_32 ht_35)
  obtain ⟨k_120, hk_121, ek_122⟩ := hq_119 ((nI kh) : Int32).toNatClampNeg
  refine lv_topi (fun x_123 ex_123 => ?_)
  obtain rfl : x_123 = nI k_120 := ex_123.trans ek_122
  refine lv_icmp_gt (tgt := 184) hx hb dX15_fieldsPlain_62 (by decide) (fun c_124 => ?_) (fun c_124 => ?_)
  ·
    have hi_125 : k_120 < j := (nI_ltI (a := k_120) (b := j) (by omega) (by omega)).mp c_124
    refine lv_aload_n hx hb dX15_fieldsPlain_184 rfl (lv_at hl 3 rfl) ?_
    refine pg_get (ci := 15) (v := .ref co) (C := RX15) (T := TX15) (N := 59) hx hb hts it_15 hown hK hP hL_h0 hF_117 rfl 25 (by decide) (hts _ kt_889) (fun _ h9 => h9) rfl dX15_fieldsPlain_185 ?_
    refine lv_iload_n hx hb dX15_fieldsPlain_188 rfl (lv_at hl 4 rfl) ?_
    obtain ⟨hi_126, ht_127⟩ := hW.f_co hL_h0 hT_h0
    obtain ⟨f_128, hF_129, hq_130⟩ := hO.pos hi_126 ht_127
    refine pg_iald hx hb hK hP hi_126 0 hF_129 rfl (vp_in_nI (by omega) (by omega)) dX15_fieldsPlain_189 ?_
    refine lv_topi (fun x_131 ex_131 => ?_)
    obtain rfl : x_131 = (nI (gm 1 jf)) := ex_131.trans (by rw [show ((nI jf) : Int32) = nI jf from rfl, nI_clamp (by omega)]; exact hq_130 jf (by omega))
    have hgbx_131 := hgB 1 jf
    refine lv_iconst (v := 1) hx hb dX15_fieldsPlain_190 (by decide) ?_
    refine lv_iadd hx hb dX15_fieldsPlain_191 ?_
    refine lv_topi (fun x_132 ex_132 => ?_)
    obtain rfl : x_132 = (nI ((gm 1 jf) + 1)) := ex_132.trans (nI_add (gm 1 jf) 1)
    refine lv_istore (lv' := [(4, .int (nI ((gm 1 jf) + 1))), (3, .ref sb), (2, .int (nI kh)), (0, .ref h0), (1, .int (nI jf))]) hx hb dX15_fieldsPlain_192 hl (by decide) rfl (fun ls hl => ?_)
    refine lv_iconst (v := 0) hx hb dX15_fieldsPlain_194 (by decide) ?_
    refine lv_istore (lv' := [(5, .int 0), (4, .int (nI ((gm 1 jf) + 1))), (3, .ref sb), (2, .int (nI kh)), (0, .ref h0), (1, .int (nI jf))]) hx hb dX15_fieldsPlain_195 hl (by decide) rfl (fun ls hl => ?_)
    refine lv_iconst (v := 0) hx hb dX15_fieldsPlain_197 (by decide) ?_
    refine lv_istore (lv' := [(6, .int 0), (5, .int 0), (4, .int (nI ((gm 1 jf) + 1))), (3, .ref sb), (2, .int (nI kh)), (0, .ref h0), (1, .int (nI jf))]) hx hb dX15_fieldsPlain_198 hl (by decide) rfl (fun ls hl => ?_)
    refine lv_aload_n hx hb dX15_fieldsPlain_200 rfl (lv_at hl 5 rfl) ?_
    refine lv_iload_n hx hb dX15_fieldsPlain_201 rfl (lv_at hl 6 rfl) ?_
    have hFc := pg_free hD hS hA
    refine va_calli (va_runV (As := [.int (nI jf)]) (rest := []) ⟨hx, hb, hml, hown, hts⟩ (s_X15_valueEnd l dC dI cs ty gm L H.size F_102 h0 ρ ta ou so ad na va lc dm tg pe ml bg co sp nb0 nb1 nb2 pl se ke wi hs mo po nu pr sq xa sa n64 m64 ex wh sd tk hd ak ho ot sx s0 s1 s2 nf bd mm zo fm sn hg gc gv ze zt jf hW hL_h0 hT_h0 (by first | omega | assumption | exact Or.inl rfl)) ⟨callB_of 1 hts (gi kt_897) rfl rfl rfl (hts _ kt_669) (hts _ kt_898) (by decide +kernel) ⟨Nat.le_of_ble_eq_true rfl, Nat.le_of_ble_eq_true rfl⟩, (hts _ kt_899), (hts _ kt_900)⟩ ⟨fun a U g mk q => ⟨q.1, PTm.calling q.2⟩, pg_recv hK hP hL_h0 hF_117 (q := (RX15, TX15, 59)) rfl, fun U hU hWm => ⟨rfl, PTm.mk hU hWm hP hK hD hE hO⟩⟩ rfl rfl hl.1 rfl (lv_room (Nat.le_of_ble_eq_true rfl)) dX15_fieldsPlain_202 ⟨by show _ + 0 ≤ 0; omega, by show _ + 0 ≤ 0; omega⟩) hS (fun q _ h => hFc q h) hFc (fun r_133 u t H1 locs ht hvm hw hB hz1 hk1 hS => ?_)
    obtain ⟨F_134, hB1⟩ := hB
    obtain rfl : F_102 = F_134 := (funext (fun a => hB1.2.2.2 a List.not_mem_nil)).symm
    obtain ⟨hP, hD, hO, hR⟩ := QTm.back hB1 ht hFc hR (fun q h => absurd h List.not_mem_nil)
    generalize H1 = H at hP hS ⊢
    have hw : (∃ k : Nat, gm 1 jf ≤ k ∧ k ≤ gm 2 jf ∧ r_133 = nI k) := hw
    have hw_135 := hw
    obtain ⟨kv, hkv1, hkv2, ekv⟩ := hw_135
    subst ekv
    refine lv_istore (lv' := [(7, .int (nI kv)), (6, .int 0), (5, .int 0), (4, .int (nI ((gm 1 jf) + 1))), (3, .ref sb), (2, .int (nI kh)), (0, .ref h0), (1, .int (nI jf))]) hx hb dX15_fieldsPlain_205 hl (by decide) rfl (fun ls hl => ?_)
    refine W.widen (k := 0) (n := 0) (by omega) (by omega) ?_
    have hF_137 : F sb = .inl (cs 17, 3000, .inl eb) := (hR sb (by rw [ht_39]; simp)).symm.trans hF_112
    have hF_138 : F s0 = .inl (cs 16, 40, .inl e0) := (hR s0 (by rw [ht_33]; simp)).symm.trans hF_113
    have hF_139 : F s1 = .inl (cs 16, 40, .inl e1) := (hR s1 (by rw [ht_34]; simp)).symm.trans hF_114
    have hF_140 : F s2 = .inl (cs 16, 40, .inl e2) := (hR s2 (by rw [ht_35]; simp)).symm.trans hF_115
    have hF_141 : F se = .inr (13, [.ref sx, .ref s0, .ref s1, .ref s2, .int (nI zs)]) := (hR se (by rw [ht_29]; simp)).symm.trans hF_116
    have hF_142 : F h0 = .inr (15, (.ref ta) :: (.int (nI zt)) :: (.int (nI zo)) :: (.int (nI ze)) :: (.ref ou) :: (.ref so) :: (.ref ad) :: (.ref na) :: (.ref va) :: (.ref lc) :: (.ref dm) :: (.int (nI fm)) :: (.int (nI sn)) :: (.ref tg) :: (.int v14_46) :: (.int v15_47) :: (.ref pe) :: (.int v17_48) :: (.int v18_49) :: (.int v19_50) :: (.int v20_51) :: (.int v21_52) :: (.int v22_53) :: (.ref ml) :: (.ref bg) :: (.ref co) :: (.ref sp) :: (.ref nb0) :: (.ref nb1) :: (.ref nb2) :: (.int (nI nf)) :: (.int (nI bd)) :: (.int (nI mm)) :: (.int v33_54) :: (.ref pl) :: (.ref se) :: (.ref ke) :: (.ref wi) :: (.ref hs) :: (.ref mo) :: (.ref po) :: (.ref nu) :: (.ref pr) :: (.ref sq) :: (.ref xa) :: (.ref sa) :: (.ref n64) :: (.ref m64) :: (.ref ex) :: (.ref wh) :: (.ref sd) :: (.ref tk) :: (.int v52_55) :: (.int v53_56) :: (.int v54_57) :: (.ref hd) :: (.ref ak) :: (.ref ho) :: (.ref ot) :: []) := (hR h0 (by rw [hT_h0]; simp)).symm.trans hF_117
    have hF_143 : F sx = .inr (14, [.ref sb, .int (nI z_93)]) := (hR sx (by rw [hT_sx]; simp)).symm.trans hF_118
    have hF_144 : F co = .inl (cs 16, 21, .inl f_128) := (hR co (by rw [ht_127]; simp)).symm.trans hF_129
    refine pl_loopm (σ := Nat × Int32 × Int32) A (dC, dI) cs ty gm L [ρ + 10, ρ + 26] F 207 11 (fun (j2, w5, w6) => [(7, .int (nI kv)), (6, .int w6), (5, .int w5), (4, .int (nI j2)), (0, .ref h0), (1, .int (nI jf))]) (fun (j2, w5, w6) => []) (fun (j2, w5, w6) FF => j2 ≤ 1282 ∧ FF pl = .inr (14, [.ref rl, .int (nI zz)])) (fun (j2, w5, w6) => 1282 - j2) ?_ (((gm 1 jf) + 1), 0, 0) F_102 (⟨by omega, hp3⟩) hO hR _ _ hP hD hS ls (lv_sub hl [0, 1, 2, 3, 6, 7] rfl)
    rintro ⟨j2, w5, w6⟩ F_136 hv_145 hO hR ih_146 H locs hP hD hS ls hl
    have hl : lv_has ls 11 [(7, .int (nI kv)), (6, .int w6), (5, .int w5), (4, .int (nI j2)), (0, .ref h0), (1, .int (nI jf))] := hl
    have hv_145 : j2 ≤ 1282 ∧ F_136 pl = .inr (14, [.ref rl, .int (nI zz)]) := hv_145
    refine W.eq (g2 := F0 m 207 ls []) rfl ?_
    have hF_147 : F_136 sb = .inl (cs 17, 3000, .inl eb) := (hR sb (by rw [ht_39]; simp)).trans hF_137
    have hF_148 : F_136 s0 = .inl (cs 16, 40, .inl e0) := (hR s0 (by rw [ht_33]; simp)).trans hF_138
    have hF_149 : F_136 s1 = .inl (cs 16, 40, .inl e1) := (hR s1 (by rw [ht_34]; simp)).trans hF_139
    have hF_150 : F_136 s2 = .inl (cs 16, 40, .inl e2) := (hR s2 (by rw [ht_35]; simp)).trans hF_140
    have hF_151 : F_136 se = .inr (13, [.ref sx, .ref s0, .ref s1, .ref s2, .int (nI zs)]) := (hR se (by rw [ht_29]; simp)).trans hF_141
    have hF_152 : F_136 h0 = .inr (15, (.ref ta) :: (.int (nI zt)) :: (.int (nI zo)) :: (.int (nI ze)) :: (.ref ou) :: (.ref so) :: (.ref ad) :: (.ref na) :: (.ref va) :: (.ref lc) :: (.ref dm) :: (.int (nI fm)) :: (.int (nI sn)) :: (.ref tg) :: (.int v14_46) :: (.int v15_47) :: (.ref pe) :: (.int v17_48) :: (.int v18_49) :: (.int v19_50) :: (.int v20_51) :: (.int v21_52) :: (.int v22_53) :: (.ref ml) :: (.ref bg) :: (.ref co) :: (.ref sp) :: (.ref nb0) :: (.ref nb1) :: (.ref nb2) :: (.int (nI nf)) :: (.int (nI bd)) :: (.int (nI mm)) :: (.int v33_54) :: (.ref pl) :: (.ref se) :: (.ref ke) :: (.ref wi) :: (.ref hs) :: (.ref mo) :: (.ref po) :: (.ref nu) :: (.ref pr) :: (.ref sq) :: (.ref xa) :: (.ref sa) :: (.ref n64) :: (.ref m64) :: (.ref ex) :: (.ref wh) :: (.ref sd) :: (.ref tk) :: (.int v52_55) :: (.int v53_56) :: (.int v54_57) :: (.ref hd) :: (.ref ak) :: (.ref ho) :: (.ref ot) :: []) := (hR h0 (by rw [hT_h0]; simp)).trans hF_142
    have hF_153 : F_136 sx = .inr (14, [.ref sb, .int (nI z_93)]) := (hR sx (by rw [hT_sx]; simp)).trans hF_143
    have hF_154 : F_136 co = .inl (cs 16, 21, .inl f_128) := (hR co (by rw [ht_127]; simp)).trans hF_144
    obtain ⟨hx1a, hx1b⟩ := hv_145
    refine lv_iload hx hb dX15_fieldsPlain_207 (lv_at hl 3 rfl) ?_
    refine lv_iload hx hb dX15_fieldsPlain_209 (lv_at hl 0 rfl) ?_
    refine lv_icmp_ge (tgt := 342) hx hb dX15_fieldsPlain_211 (by decide) (fun c_155 => ?_) (fun c_155 => ?_)
    ·
      have hi_156 : kv ≤ j2 := leN (N := kv) c_155
      refine lv_aload_n hx hb dX15_fieldsPlain_342 rfl (lv_at hl 4 rfl) ?_
      refine lv_iload_n hx hb dX15_fieldsPlain_343 rfl (lv_at hl 5 rfl) ?_
      refine lv_aload_n hx hb dX15_fieldsPlain_344 rfl (lv_at hl 4 rfl) ?_
      refine pg_get (ci := 15) (v := .int v52_55) (C := RX15) (T := TX15) (N := 59) hx hb hts it_15 hown hK hP hL_h0 hF_152 rfl 52 (by decide) (hts _ kt_857) (fun _ h9 => h9) rfl dX15_fieldsPlain_345 ?_
      refine lv_iload hx hb dX15_fieldsPlain_348 (lv_at hl 2 rfl) ?_
      refine lv_iload hx hb dX15_fieldsPlain_350 (lv_at hl 1 rfl) ?_
      have hFc := pg_free hD hS hA
      refine va_callv (va_runV (As := [.int (nI jf), .int v52_55, .int w5, .int w6]) (rest := []) ⟨hx, hb, hml, hown, hts⟩ (s_X15_fieldPlain l dC dI cs ty gm L H.size F_136 h0 ρ ta ou so ad na va lc dm tg pe ml bg co sp nb0 nb1 nb2 pl se ke wi hs mo po nu pr sq xa sa n64 m64 ex wh sd tk hd ak ho ot sx s0 s1 s2 nf bd mm zo fm sn hg gc gv ze zt rl jf zz v52_55 w5 w6 hW hL_h0 hT_h0 hL_pl hT_pl (by first | omega | assumption | exact Or.inl rfl) hx1b (by first | omega | assumption | exact Or.inl rfl)) ⟨callB_of 4 hts (gi kt_933) rfl rfl rfl (hts _ kt_669) (hts _ kt_934) (by decide +kernel) ⟨Nat.le_of_ble_eq_true rfl, Nat.le_of_ble_eq_true rfl⟩, (hts _ kt_935), (hts _ kt_936)⟩ ⟨fun a U g mk q => ⟨q.1, PTm.calling q.2⟩, pg_recv hK hP hL_h0 hF_152 (q := (RX15, TX15, 59)) rfl, fun U hU hWm => ⟨rfl, PTm.mk hU hWm hP hK hD hE hO⟩⟩ rfl rfl hl.1 rfl (lv_room (Nat.le_of_ble_eq_true rfl)) dX15_fieldsPlain_352 ⟨by show _ + 0 ≤ 0; omega, by show _ + 0 ≤ 0; omega⟩) hS (fun q _ h => hFc q h) hFc (fun u t H1 locs ht hvm hw hB hz1 hk1 hS => ?_)
      obtain ⟨F_158, z2_159, hB1, hq_160, hq_161⟩ := hB
      obtain ⟨hP, hD, hO, hR⟩ := QTm.back hB1 ht hFc hR (fun q h => by simp only [List.mem_cons, List.not_mem_nil, or_false] at h ⊢; omega)
      have hF_162 : F_158 sb = .inl (cs 17, 3000, .inl eb) := (hB1.2.2.2 sb (by rw [ht_39]; simp)).trans hF_147
      have hF_163 : F_158 s0 = .inl (cs 16, 40, .inl e0) := (hB1.2.2.2 s0 (by rw [ht_33]; simp)).trans hF_148
      have hF_164 : F_158 s1 = .inl (cs 16, 40, .inl e1) := (hB1.2.2.2 s1 (by rw [ht_34]; simp)).trans hF_149
      have hF_165 : F_158 s2 = .inl (cs 16, 40, .inl e2) := (hB1.2.2.2 s2 (by rw [ht_35]; simp)).trans hF_150
      have hF_166 : F_158 se = .inr (13, [.ref sx, .ref s0, .ref s1, .ref s2, .int (nI zs)]) := (hB1.2.2.2 se (by rw [ht_29]; simp)).trans hF_151
      have hF_167 : F_158 h0 = .inr (15, (.ref ta) :: (.int (nI zt)) :: (.int (nI zo)) :: (.int (nI ze)) :: (.ref ou) :: (.ref so) :: (.ref ad) :: (.ref na) :: (.ref va) :: (.ref lc) :: (.ref dm) :: (.int (nI fm)) :: (.int (nI sn)) :: (.ref tg) :: (.int v14_46) :: (.int v15_47) :: (.ref pe) :: (.int v17_48) :: (.int v18_49) :: (.int v19_50) :: (.int v20_51) :: (.int v21_52) :: (.int v22_53) :: (.ref ml) :: (.ref bg) :: (.ref co) :: (.ref sp) :: (.ref nb0) :: (.ref nb1) :: (.ref nb2) :: (.int (nI nf)) :: (.int (nI bd)) :: (.int (nI mm)) :: (.int v33_54) :: (.ref pl) :: (.ref se) :: (.ref ke) :: (.ref wi) :: (.ref hs) :: (.ref mo) :: (.ref po) :: (.ref nu) :: (.ref pr) :: (.ref sq) :: (.ref xa) :: (.ref sa) :: (.ref n64) :: (.ref m64) :: (.ref ex) :: (.ref wh) :: (.ref sd) :: (.ref tk) :: (.int v52_55) :: (.int v53_56) :: (.int v54_57) :: (.ref hd) :: (.ref ak) :: (.ref ho) :: (.ref ot) :: []) := (hB1.2.2.2 h0 (by rw [hT_h0]; simp)).trans hF_152
      have hF_168 : F_158 sx = .inr (14, [.ref sb, .int (nI z_93)]) := (hB1.2.2.2 sx (by rw [hT_sx]; simp)).trans hF_153
      have hF_169 : F_158 co = .inl (cs 16, 21, .inl f_128) := (hB1.2.2.2 co (by rw [ht_127]; simp)).trans hF_154
      generalize H1 = H at hP hS ⊢
      refine W.widen (k := 0) (n := 0) (by omega) (by omega) ?_
      exact W.vret hx hb hr (fun t ht hWm => ⟨⟨(), rfl, trivial, ⟨F_158, QTm.mk ht hP hD hO hR⟩⟩, hS.F ht⟩) hS.2.2 dX15_fieldsPlain_355
    ·
      have hi_170 : j2 < kv := ltN (N := kv) c_155
      refine lv_iload hx hb dX15_fieldsPlain_214 (lv_at hl 3 rfl) ?_
      refine lv_istore (lv' := [(8, .int (nI j2)), (7, .int (nI kv)), (6, .int w6), (5, .int w5), (4, .int (nI j2)), (0, .ref h0), (1, .int (nI jf))]) hx hb dX15_fieldsPlain_216 hl (by decide) rfl (fun ls hl => ?_)
      refine lv_iload hx hb dX15_fieldsPlain_218 (lv_at hl 4 rfl) ?_
      refine lv_istore (lv' := [(9, .int (nI j2)), (8, .int (nI j2)), (7, .int (nI kv)), (6, .int w6), (5, .int w5), (4, .int (nI j2)), (0, .ref h0), (1, .int (nI jf))]) hx hb dX15_fieldsPlain_220 hl (by decide) rfl (fun ls hl => ?_)
      refine lv_iconst (v := 0) hx hb dX15_fieldsPlain_222 (by decide) ?_
      refine lv_istore (lv' := [(10, .int 0), (9, .int (nI j2)), (8, .int (nI j2)), (7, .int (nI kv)), (6, .int w6), (5, .int w5), (4, .int (nI j2)), (0, .ref h0), (1, .int (nI jf))]) hx hb dX15_fieldsPlain_223 hl (by decide) rfl (fun ls hl => ?_)
      refine W.widen (k := 0) (n := 0) (by omega) (by omega) ?_
      have hF_172 : F sb = .inl (cs 17, 3000, .inl eb) := (hR sb (by rw [ht_39]; simp)).symm.trans hF_147
      have hF_173 : F s0 = .inl (cs 16, 40, .inl e0) := (hR s0 (by rw [ht_33]; simp)).symm.trans hF_148
      have hF_174 : F s1 = .inl (cs 16, 40, .inl e1) := (hR s1 (by rw [ht_34]; simp)).symm.trans hF_149
      have hF_175 : F s2 = .inl (cs 16, 40, .inl e2) := (hR s2 (by rw [ht_35]; simp)).symm.trans hF_150
      have hF_176 : F se = .inr (13, [.ref sx, .ref s0, .ref s1, .ref s2, .int (nI zs)]) := (hR se (by rw [ht_29]; simp)).symm.trans hF_151
      have hF_177 : F h0 = .inr (15, (.ref ta) :: (.int (nI zt)) :: (.int (nI zo)) :: (.int (nI ze)) :: (.ref ou) :: (.ref so) :: (.ref ad) :: (.ref na) :: (.ref va) :: (.ref lc) :: (.ref dm) :: (.int (nI fm)) :: (.int (nI sn)) :: (.ref tg) :: (.int v14_46) :: (.int v15_47) :: (.ref pe) :: (.int v17_48) :: (.int v18_49) :: (.int v19_50) :: (.int v20_51) :: (.int v21_52) :: (.int v22_53) :: (.ref ml) :: (.ref bg) :: (.ref co) :: (.ref sp) :: (.ref nb0) :: (.ref nb1) :: (.ref nb2) :: (.int (nI nf)) :: (.int (nI bd)) :: (.int (nI mm)) :: (.int v33_54) :: (.ref pl) :: (.ref se) :: (.ref ke) :: (.ref wi) :: (.ref hs) :: (.ref mo) :: (.ref po) :: (.ref nu) :: (.ref pr) :: (.ref sq) :: (.ref xa) :: (.ref sa) :: (.ref n64) :: (.ref m64) :: (.ref ex) :: (.ref wh) :: (.ref sd) :: (.ref tk) :: (.int v52_55) :: (.int v53_56) :: (.int v54_57) :: (.ref hd) :: (.ref ak) :: (.ref ho) :: (.ref ot) :: []) := (hR h0 (by rw [hT_h0]; simp)).symm.trans hF_152
      have hF_178 : F sx = .inr (14, [.ref sb, .int (nI z_93)]) := (hR sx (by rw [hT_sx]; simp)).symm.trans hF_153
      have hF_179 : F co = .inl (cs 16, 21, .inl f_128) := (hR co (by rw [ht_127]; simp)).symm.trans hF_154
      refine pl_loopm (σ := Nat) A (dC, dI) cs ty gm L [ρ + 10, ρ + 26] F 225 11 (fun i2 => [(10, .int 0), (9, .int (nI j2)), (8, .int (nI i2)), (7, .int (nI kv)), (6, .int w6), (5, .int w5), (4, .int (nI j2)), (0, .ref h0), (1, .int (nI jf))]) (fun i2 => []) (fun i2 FF => (j2 ≤ i2 ∧ i2 ≤ kv) ∧ FF pl = .inr (14, [.ref rl, .int (nI zz)])) (fun i2 => kv - i2) ?_ j2 F_136 (⟨⟨by omega, by omega⟩, hx1b⟩) hO hR _ _ hP hD hS ls (lv_sub hl [0, 1, 2, 3, 4, 5, 6, 7, 8] rfl)
      rintro i2 F_171 hv_180 hO hR ih_181 H locs hP hD hS ls hl
      have hl : lv_has ls 11 [(10, .int 0), (9, .int (nI j2)), (8, .int (nI i2)), (7, .int (nI kv)), (6, .int w6), (5, .int w5), (4, .int (nI j2)), (0, .ref h0), (1, .int (nI jf))] := hl
      have hv_180 : (j2 ≤ i2 ∧ i2 ≤ kv) ∧ F_171 pl = .inr (14, [.ref rl, .int (nI zz)]) := hv_180
      refine W.eq (g2 := F0 m 225 ls []) rfl ?_
      have hF_182 : F_171 sb = .inl (cs 17, 3000, .inl eb) := (hR sb (by rw [ht_39]; simp)).trans hF_172
      have hF_183 : F_171 s0 = .inl (cs 16, 40, .inl e0) := (hR s0 (by rw [ht_33]; simp)).trans hF_173
      have hF_184 : F_171 s1 = .inl (cs 16, 40, .inl e1) := (hR s1 (by rw [ht_34]; simp)).trans hF_174
      have hF_185 : F_171 s2 = .inl (cs 16, 40, .inl e2) := (hR s2 (by rw [ht_35]; simp)).trans hF_175
      have hF_186 : F_171 se = .inr (13, [.ref sx, .ref s0, .ref s1, .ref s2, .int (nI zs)]) := (hR se (by rw [ht_29]; simp)).trans hF_176
      have hF_187 : F_171 h0 = .inr (15, (.ref ta) :: (.int (nI zt)) :: (.int (nI zo)) :: (.int (nI ze)) :: (.ref ou) :: (.ref so) :: (.ref ad) :: (.ref na) :: (.ref va) :: (.ref lc) :: (.ref dm) :: (.int (nI fm)) :: (.int (nI sn)) :: (.ref tg) :: (.int v14_46) :: (.int v15_47) :: (.ref pe) :: (.int v17_48) :: (.int v18_49) :: (.int v19_50) :: (.int v20_51) :: (.int v21_52) :: (.int v22_53) :: (.ref ml) :: (.ref bg) :: (.ref co) :: (.ref sp) :: (.ref nb0) :: (.ref nb1) :: (.ref nb2) :: (.int (nI nf)) :: (.int (nI bd)) :: (.int (nI mm)) :: (.int v33_54) :: (.ref pl) :: (.ref se) :: (.ref ke) :: (.ref wi) :: (.ref hs) :: (.ref mo) :: (.ref po) :: (.ref nu) :: (.ref pr) :: (.ref sq) :: (.ref xa) :: (.ref sa) :: (.ref n64) :: (.ref m64) :: (.ref ex) :: (.ref wh) :: (.ref sd) :: (.ref tk) :: (.int v52_55) :: (.int v53_56) :: (.int v54_57) :: (.ref hd) :: (.ref ak) :: (.ref ho) :: (.ref ot) :: []) := (hR h0 (by rw [hT_h0]; simp)).trans hF_177
      have hF_188 : F_171 sx = .inr (14, [.ref sb, .int (nI z_93)]) := (hR sx (by rw [hT_sx]; simp)).trans hF_178
      have hF_189 : F_171 co = .inl (cs 16, 21, .inl f_128) := (hR co (by rw [ht_127]; simp)).trans hF_179
      obtain ⟨hx2a, hx2b⟩ := hv_180
      refine lv_iload hx hb dX15_fieldsPlain_225 (lv_at hl 2 rfl) ?_
      refine lv_iload hx hb dX15_fieldsPlain_227 (lv_at hl 3 rfl) ?_
      refine lv_icmp_ge (tgt := 250) hx hb dX15_fieldsPlain_229 (by decide) (fun c_190 => ?_) (fun c_190 => ?_)
      ·
        have hi_191 : kv ≤ i2 := leN (N := kv) c_190
        refine W.widen (k := 0) (n := 0) (by omega) (by omega) ?_
        have hF_193 : F sb = .inl (cs 17, 3000, .inl eb) := (hR sb (by rw [ht_39]; simp)).symm.trans hF_182
        have hF_194 : F s0 = .inl (cs 16, 40, .inl e0) := (hR s0 (by rw [ht_33]; simp)).symm.trans hF_183
        have hF_195 : F s1 = .inl (cs 16, 40, .inl e1) := (hR s1 (by rw [ht_34]; simp)).symm.trans hF_184
        have hF_196 : F s2 = .inl (cs 16, 40, .inl e2) := (hR s2 (by rw [ht_35]; simp)).symm.trans hF_185
        have hF_197 : F se = .inr (13, [.ref sx, .ref s0, .ref s1, .ref s2, .int (nI zs)]) := (hR se (by rw [ht_29]; simp)).symm.trans hF_186
        have hF_198 : F h0 = .inr (15, (.ref ta) :: (.int (nI zt)) :: (.int (nI zo)) :: (.int (nI ze)) :: (.ref ou) :: (.ref so) :: (.ref ad) :: (.ref na) :: (.ref va) :: (.ref lc) :: (.ref dm) :: (.int (nI fm)) :: (.int (nI sn)) :: (.ref tg) :: (.int v14_46) :: (.int v15_47) :: (.ref pe) :: (.int v17_48) :: (.int v18_49) :: (.int v19_50) :: (.int v20_51) :: (.int v21_52) :: (.int v22_53) :: (.ref ml) :: (.ref bg) :: (.ref co) :: (.ref sp) :: (.ref nb0) :: (.ref nb1) :: (.ref nb2) :: (.int (nI nf)) :: (.int (nI bd)) :: (.int (nI mm)) :: (.int v33_54) :: (.ref pl) :: (.ref se) :: (.ref ke) :: (.ref wi) :: (.ref hs) :: (.ref mo) :: (.ref po) :: (.ref nu) :: (.ref pr) :: (.ref sq) :: (.ref xa) :: (.ref sa) :: (.ref n64) :: (.ref m64) :: (.ref ex) :: (.ref wh) :: (.ref sd) :: (.ref tk) :: (.int v52_55) :: (.int v53_56) :: (.int v54_57) :: (.ref hd) :: (.ref ak) :: (.ref ho) :: (.ref ot) :: []) := (hR h0 (by rw [hT_h0]; simp)).symm.trans hF_187
        have hF_199 : F sx = .inr (14, [.ref sb, .int (nI z_93)]) := (hR sx (by rw [hT_sx]; simp)).symm.trans hF_188
        have hF_200 : F co = .inl (cs 16, 21, .inl f_128) := (hR co (by rw [ht_127]; simp)).symm.trans hF_189
        refine pl_loopm (σ := Nat × Int32) A (dC, dI) cs ty gm L [ρ + 10, ρ + 26] F 250 11 (fun (i3, w10) => [(10, .int w10), (9, .int (nI i3)), (8, .int (nI i2)), (7, .int (nI kv)), (6, .int w6), (5, .int w5), (4, .int (nI j2)), (0, .ref h0), (1, .int (nI jf))]) (fun (i3, w10) => []) (fun (i3, w10) FF => (j2 ≤ i3 ∧ i3 ≤ i2) ∧ FF pl = .inr (14, [.ref rl, .int (nI zz)])) (fun (i3, w10) => i2 - i3) ?_ (j2, 0) F_171 (⟨⟨by omega, by omega⟩, hx2b⟩) hO hR _ _ hP hD hS ls (lv_sub hl [0, 1, 2, 3, 4, 5, 6, 7, 8] rfl)
        rintro ⟨i3, w10⟩ F_192 hv_201 hO hR ih_202 H locs hP hD hS ls hl
        have hl : lv_has ls 11 [(10, .int w10), (9, .int (nI i3)), (8, .int (nI i2)), (7, .int (nI kv)), (6, .int w6), (5, .int w5), (4, .int (nI j2)), (0, .ref h0), (1, .int (nI jf))] := hl
        have hv_201 : (j2 ≤ i3 ∧ i3 ≤ i2) ∧ F_192 pl = .inr (14, [.ref rl, .int (nI zz)]) := hv_201
        refine W.eq (g2 := F0 m 250 ls []) rfl ?_
        have hF_203 : F_192 sb = .inl (cs 17, 3000, .inl eb) := (hR sb (by rw [ht_39]; simp)).trans hF_193
        have hF_204 : F_192 s0 = .inl (cs 16, 40, .inl e0) := (hR s0 (by rw [ht_33]; simp)).trans hF_194
        have hF_205 : F_192 s1 = .inl (cs 16, 40, .inl e1) := (hR s1 (by rw [ht_34]; simp)).trans hF_195
        have hF_206 : F_192 s2 = .inl (cs 16, 40, .inl e2) := (hR s2 (by rw [ht_35]; simp)).trans hF_196
        have hF_207 : F_192 se = .inr (13, [.ref sx, .ref s0, .ref s1, .ref s2, .int (nI zs)]) := (hR se (by rw [ht_29]; simp)).trans hF_197
        have hF_208 : F_192 h0 = .inr (15, (.ref ta) :: (.int (nI zt)) :: (.int (nI zo)) :: (.int (nI ze)) :: (.ref ou) :: (.ref so) :: (.ref ad) :: (.ref na) :: (.ref va) :: (.ref lc) :: (.ref dm) :: (.int (nI fm)) :: (.int (nI sn)) :: (.ref tg) :: (.int v14_46) :: (.int v15_47) :: (.ref pe) :: (.int v17_48) :: (.int v18_49) :: (.int v19_50) :: (.int v20_51) :: (.int v21_52) :: (.int v22_53) :: (.ref ml) :: (.ref bg) :: (.ref co) :: (.ref sp) :: (.ref nb0) :: (.ref nb1) :: (.ref nb2) :: (.int (nI nf)) :: (.int (nI bd)) :: (.int (nI mm)) :: (.int v33_54) :: (.ref pl) :: (.ref se) :: (.ref ke) :: (.ref wi) :: (.ref hs) :: (.ref mo) :: (.ref po) :: (.ref nu) :: (.ref pr) :: (.ref sq) :: (.ref xa) :: (.ref sa) :: (.ref n64) :: (.ref m64) :: (.ref ex) :: (.ref wh) :: (.ref sd) :: (.ref tk) :: (.int v52_55) :: (.int v53_56) :: (.int v54_57) :: (.ref hd) :: (.ref ak) :: (.ref ho) :: (.ref ot) :: []) := (hR h0 (by rw [hT_h0]; simp)).trans hF_198
        have hF_209 : F_192 sx = .inr (14, [.ref sb, .int (nI z_93)]) := (hR sx (by rw [hT_sx]; simp)).trans hF_199
        have hF_210 : F_192 co = .inl (cs 16, 21, .inl f_128) := (hR co (by rw [ht_127]; simp)).trans hF_200
        obtain ⟨hx3a, hx3b⟩ := hv_201
        refine lv_iload hx hb dX15_fieldsPlain_250 (lv_at hl 1 rfl) ?_
        refine lv_iload hx hb dX15_fieldsPlain_252 (lv_at hl 2 rfl) ?_
        refine lv_icmp_ge (tgt := 316) hx hb dX15_fieldsPlain_254 (by decide) (fun c_211 => ?_) (fun c_211 => ?_)
        ·
          have hi_212 : i2 ≤ i3 := leN (N := i2) c_211
          refine lv_iload hx hb dX15_fieldsPlain_316 (lv_at hl 0 rfl) ?_
          refine lv_bipush (v := 98) hx hb dX15_fieldsPlain_318 (by decide) ?_
          refine lv_icmp_ne (tgt := 333) hx hb dX15_fieldsPlain_320 (by decide) (fun c_213 => ?_) (fun c_213 => ?_)
          ·
            refine lv_iload hx hb dX15_fieldsPlain_333 (lv_at hl 2 rfl) ?_
            refine lv_iconst (v := 1) hx hb dX15_fieldsPlain_335 (by decide) ?_
            refine lv_iadd hx hb dX15_fieldsPlain_336 ?_
            refine lv_topi (fun x_214 ex_214 => ?_)
            obtain rfl : x_214 = (nI (i2 + 1)) := ex_214.trans (nI_add i2 1)
            refine lv_istore (lv' := [(4, .int (nI (i2 + 1))), (10, .int w10), (9, .int (nI i3)), (8, .int (nI i2)), (7, .int (nI kv)), (6, .int w6), (5, .int w5), (0, .ref h0), (1, .int (nI jf))]) hx hb dX15_fieldsPlain_337 hl (by decide) rfl (fun ls hl => ?_)
            refine lv_goto (tgt := 207) hx hb dX15_fieldsPlain_339 (by decide) ?_
            refine W.widen (k := 0) (n := 0) (by omega) (by omega) ?_
            exact ih_146 ((i2 + 1), w5, w6) F_192 (⟨by omega, hx3b⟩) (by show 1282 - (i2 + 1) < 1282 - j2; omega) hO hR _ _ hP hD hS ls (lv_sub hl [4, 5, 6, 0, 7, 8] rfl)
          ·
            refine lv_iload hx hb dX15_fieldsPlain_323 (lv_at hl 1 rfl) ?_
            refine lv_iconst (v := 1) hx hb dX15_fieldsPlain_325 (by decide) ?_
            refine lv_iadd hx hb dX15_fieldsPlain_326 ?_
            refine lv_topi (fun x_215 ex_215 => ?_)
            obtain rfl : x_215 = (nI (i3 + 1)) := ex_215.trans (nI_add i3 1)
            refine lv_istore (lv' := [(5, .int (nI (i3 + 1))), (10, .int w10), (9, .int (nI i3)), (8, .int (nI i2)), (7, .int (nI kv)), (6, .int w6), (4, .int (nI j2)), (0, .ref h0), (1, .int (nI jf))]) hx hb dX15_fieldsPlain_327 hl (by decide) rfl (fun ls hl => ?_)
            refine lv_iload hx hb dX15_fieldsPlain_329 (lv_at hl 3 rfl) ?_
            refine lv_istore (lv' := [(6, .int (nI i2)), (5, .int (nI (i3 + 1))), (10, .int w10), (9, .int (nI i3)), (8, .int (nI i2)), (7, .int (nI kv)), (4, .int (nI j2)), (0, .ref h0), (1, .int (nI jf))]) hx hb dX15_fieldsPlain_331 hl (by decide) rfl (fun ls hl => ?_)
            refine lv_iload hx hb dX15_fieldsPlain_333 (lv_at hl 4 rfl) ?_
            refine lv_iconst (v := 1) hx hb dX15_fieldsPlain_335 (by decide) ?_
            refine lv_iadd hx hb dX15_fieldsPlain_336 ?_
            refine lv_topi (fun x_216 ex_216 => ?_)
            obtain rfl : x_216 = (nI (i2 + 1)) := ex_216.trans (nI_add i2 1)
            refine lv_istore (lv' := [(4, .int (nI (i2 + 1))), (6, .int (nI i2)), (5, .int (nI (i3 + 1))), (10, .int w10), (9, .int (nI i3)), (8, .int (nI i2)), (7, .int (nI kv)), (0, .ref h0), (1, .int (nI jf))]) hx hb dX15_fieldsPlain_337 hl (by decide) rfl (fun ls hl => ?_)
            refine lv_goto (tgt := 207) hx hb dX15_fieldsPlain_339 (by decide) ?_
            refine W.widen (k := 0) (n := 0) (by omega) (by omega) ?_
            exact ih_146 ((i2 + 1), (nI (i3 + 1)), (nI i2)) F_192 (⟨by omega, hx3b⟩) (by show 1282 - (i2 + 1) < 1282 - j2; omega) hO hR _ _ hP hD hS ls (lv_sub hl [6, 1, 2, 0, 7, 8] rfl)
        ·
          have hi_217 : i3 < i2 := ltN (N := i2) c_211
          refine lv_aload_n hx hb dX15_fieldsPlain_257 rfl (lv_at hl 7 rfl) ?_
          refine pg_get (ci := 15) (v := .ref ml) (C := RX15) (T := TX15) (N := 59) hx hb hts it_15 hown hK hP hL_h0 hF_208 rfl 23 (by decide) (hts _ kt_887) (fun _ h9 => h9) rfl dX15_fieldsPlain_258 ?_
          refine lv_iload hx hb dX15_fieldsPlain_261 (lv_at hl 1 rfl) ?_
          obtain ⟨hi_218, ht_219⟩ := hW.f_ml hL_h0 hT_h0
          obtain ⟨hq_220, hq_221⟩ := hW.octs hi_218 ht_219
          obtain ⟨f_222, hF_223, hq_224⟩ := hO.octs hi_218 ht_219
          refine pg_bald hx hb hK hP hi_218 1 hF_223 rfl (vp_in_nI (by omega) (by omega)) dX15_fieldsPlain_263 ?_
          refine lv_topi (fun x_225 ex_225 => ?_)
          obtain rfl : x_225 = f_222 i3 := ex_225.trans (congrArg f_222 (show ((nI i3) : Int32).toNatClampNeg = i3 from nI_clamp (by omega)))
          refine lv_bipush (v := 61) hx hb dX15_fieldsPlain_264 (by decide) ?_
          refine lv_icmp_eq (tgt := 316) hx hb dX15_fieldsPlain_266 (by decide) (fun c_226 => ?_) (fun c_226 => ?_)
          ·
            refine lv_iload hx hb dX15_fieldsPlain_316 (lv_at hl 0 rfl) ?_
            refine lv_bipush (v := 98) hx hb dX15_fieldsPlain_318 (by decide) ?_
            refine lv_icmp_ne (tgt := 333) hx hb dX15_fieldsPlain_320 (by decide) (fun c_227 => ?_) (fun c_227 => ?_)
            ·
              refine lv_iload hx hb dX15_fieldsPlain_333 (lv_at hl 2 rfl) ?_
              refine lv_iconst (v := 1) hx hb dX15_fieldsPlain_335 (by decide) ?_
              refine lv_iadd hx hb dX15_fieldsPlain_336 ?_
              refine lv_topi (fun x_228 ex_228 => ?_)
              obtain rfl : x_228 = (nI (i2 + 1)) := ex_228.trans (nI_add i2 1)
              refine lv_istore (lv' := [(4, .int (nI (i2 + 1))), (10, .int w10), (9, .int (nI i3)), (8, .int (nI i2)), (7, .int (nI kv)), (6, .int w6), (5, .int w5), (0, .ref h0), (1, .int (nI jf))]) hx hb dX15_fieldsPlain_337 hl (by decide) rfl (fun ls hl => ?_)
              refine lv_goto (tgt := 207) hx hb dX15_fieldsPlain_339 (by decide) ?_
              refine W.widen (k := 0) (n := 0) (by omega) (by omega) ?_
              exact ih_146 ((i2 + 1), w5, w6) F_192 (⟨by omega, hx3b⟩) (by show 1282 - (i2 + 1) < 1282 - j2; omega) hO hR _ _ hP hD hS ls (lv_sub hl [4, 5, 6, 0, 7, 8] rfl)
            ·
              refine lv_iload hx hb dX15_fieldsPlain_323 (lv_at hl 1 rfl) ?_
              refine lv_iconst (v := 1) hx hb dX15_fieldsPlain_325 (by decide) ?_
              refine lv_iadd hx hb dX15_fieldsPlain_326 ?_
              refine lv_topi (fun x_229 ex_229 => ?_)
              obtain rfl : x_229 = (nI (i3 + 1)) := ex_229.trans (nI_add i3 1)
              refine lv_istore (lv' := [(5, .int (nI (i3 + 1))), (10, .int w10), (9, .int (nI i3)), (8, .int (nI i2)), (7, .int (nI kv)), (6, .int w6), (4, .int (nI j2)), (0, .ref h0), (1, .int (nI jf))]) hx hb dX15_fieldsPlain_327 hl (by decide) rfl (fun ls hl => ?_)
              refine lv_iload hx hb dX15_fieldsPlain_329 (lv_at hl 3 rfl) ?_
              refine lv_istore (lv' := [(6, .int (nI i2)), (5, .int (nI (i3 + 1))), (10, .int w10), (9, .int (nI i3)), (8, .int (nI i2)), (7, .int (nI kv)), (4, .int (nI j2)), (0, .ref h0), (1, .int (nI jf))]) hx hb dX15_fieldsPlain_331 hl (by decide) rfl (fun ls hl => ?_)
              refine lv_iload hx hb dX15_fieldsPlain_333 (lv_at hl 4 rfl) ?_
              refine lv_iconst (v := 1) hx hb dX15_fieldsPlain_335 (by decide) ?_
              refine lv_iadd hx hb dX15_fieldsPlain_336 ?_
              refine lv_topi (fun x_230 ex_230 => ?_)
              obtain rfl : x_230 = (nI (i2 + 1)) := ex_230.trans (nI_add i2 1)
              refine lv_istore (lv' := [(4, .int (nI (i2 + 1))), (6, .int (nI i2)), (5, .int (nI (i3 + 1))), (10, .int w10), (9, .int (nI i3)), (8, .int (nI i2)), (7, .int (nI kv)), (0, .ref h0), (1, .int (nI jf))]) hx hb dX15_fieldsPlain_337 hl (by decide) rfl (fun ls hl => ?_)
              refine lv_goto (tgt := 207) hx hb dX15_fieldsPlain_339 (by decide) ?_
              refine W.widen (k := 0) (n := 0) (by omega) (by omega) ?_
              exact ih_146 ((i2 + 1), (nI (i3 + 1)), (nI i2)) F_192 (⟨by omega, hx3b⟩) (by show 1282 - (i2 + 1) < 1282 - j2; omega) hO hR _ _ hP hD hS ls (lv_sub hl [6, 1, 2, 0, 7, 8] rfl)
          ·
            refine lv_aload_n hx hb dX15_fieldsPlain_269 rfl (lv_at hl 7 rfl) ?_
            refine pg_get (ci := 15) (v := .ref ml) (C := RX15) (T := TX15) (N := 59) hx hb hts it_15 hown hK hP hL_h0 hF_208 rfl 23 (by decide) (hts _ kt_887) (fun _ h9 => h9) rfl dX15_fieldsPlain_270 ?_
            refine lv_iload hx hb dX15_fieldsPlain_273 (lv_at hl 1 rfl) ?_
            refine pg_bald hx hb hK hP hi_218 1 hF_223 rfl (vp_in_nI (by omega) (by omega)) dX15_fieldsPlain_275 ?_
            refine lv_topi (fun x_231 ex_231 => ?_)
            obtain rfl : x_231 = f_222 i3 := ex_231.trans (congrArg f_222 (show ((nI i3) : Int32).toNatClampNeg = i3 from nI_clamp (by omega)))
            have hFc := pg_free hD hS hA
            refine va_calli (va_runS (As := [.int (f_222 i3)]) (rest := []) ⟨hx, hb, hml, hown, hts⟩ (s_X15_isWhite l dC dI cs ty gm L H.size F_192 (f_222 i3) hW ) ⟨callB_of 1 hts (gi kt_715) rfl rfl rfl (hts _ kt_669) (hts _ kt_716) (by decide +kernel) ⟨Nat.le_of_ble_eq_true rfl, Nat.le_of_ble_eq_true rfl⟩, (hts _ kt_717)⟩ ⟨fun a U g mk q => ⟨q.1, PTm.calling q.2⟩, fun U hU hWm => ⟨rfl, PTm.mk hU hWm hP hK hD hE hO⟩⟩ rfl rfl hl.1 rfl (lv_room (Nat.le_of_ble_eq_true rfl)) dX15_fieldsPlain_276 ⟨by show _ + 0 ≤ 0; omega, by show _ + 0 ≤ 0; omega⟩) hS (fun q _ h => hFc q h) hFc (fun r_232 u t H1 locs ht hvm hw hB hz1 hk1 hS => ?_)
            obtain ⟨F_233, hB1⟩ := hB
            obtain rfl : F_192 = F_233 := (funext (fun a => hB1.2.2.2 a List.not_mem_nil)).symm
            obtain ⟨hP, hD, hO, hR⟩ := QTm.back hB1 ht hFc hR (fun q h => absurd h List.not_mem_nil)
            generalize H1 = H at hP hS ⊢
            have hw : (r_232 = 0 ∨ r_232 = 1) := hw
            have hw_234 := hw
            refine lv_if_ne (tgt := 310) hx hb dX15_fieldsPlain_279 (by decide) (fun c_235 => ?_) (fun c_235 => ?_)
            ·
              refine lv_iinc (v := (nI (i3 + 1))) (lv' := [(9, .int (nI (i3 + 1))), (10, .int w10), (8, .int (nI i2)), (7, .int (nI kv)), (6, .int w6), (5, .int w5), (4, .int (nI j2)), (0, .ref h0), (1, .int (nI jf))]) hx hb dX15_fieldsPlain_310 hl (k := 1) rfl (nI_1 _) (by decide) rfl (fun ls hl => ?_)
              refine lv_goto (tgt := 250) hx hb dX15_fieldsPlain_313 (by decide) ?_
              refine W.widen (k := 0) (n := 0) (by omega) (by omega) ?_
              exact ih_202 ((i3 + 1), w10) F_192 (⟨⟨by omega, by omega⟩, hx3b⟩) (by show i2 - (i3 + 1) < i2 - i3; omega) hO hR _ _ hP hD hS ls (lv_sub hl [1, 0, 2, 3, 4, 5, 6, 7, 8] rfl)
            ·
              refine lv_aload_n hx hb dX15_fieldsPlain_282 rfl (lv_at hl 7 rfl) ?_
              refine pg_get (ci := 15) (v := .ref ml) (C := RX15) (T := TX15) (N := 59) hx hb hts it_15 hown hK hP hL_h0 hF_208 rfl 23 (by decide) (hts _ kt_887) (fun _ h9 => h9) rfl dX15_fieldsPlain_283 ?_
              refine lv_iload hx hb dX15_fieldsPlain_286 (lv_at hl 1 rfl) ?_
              refine pg_bald hx hb hK hP hi_218 1 hF_223 rfl (vp_in_nI (by omega) (by omega)) dX15_fieldsPlain_288 ?_
              refine lv_topi (fun x_236 ex_236 => ?_)
              obtain rfl : x_236 = f_222 i3 := ex_236.trans (congrArg f_222 (show ((nI i3) : Int32).toNatClampNeg = i3 from nI_clamp (by omega)))
              refine lv_bipush (v := 10) hx hb dX15_fieldsPlain_289 (by decide) ?_
              refine lv_icmp_eq (tgt := 310) hx hb dX15_fieldsPlain_291 (by decide) (fun c_237 => ?_) (fun c_237 => ?_)
              ·
                refine lv_iinc (v := (nI (i3 + 1))) (lv' := [(9, .int (nI (i3 + 1))), (10, .int w10), (8, .int (nI i2)), (7, .int (nI kv)), (6, .int w6), (5, .int w5), (4, .int (nI j2)), (0, .ref h0), (1, .int (nI jf))]) hx hb dX15_fieldsPlain_310 hl (k := 1) rfl (nI_1 _) (by decide) rfl (fun ls hl => ?_)
                refine lv_goto (tgt := 250) hx hb dX15_fieldsPlain_313 (by decide) ?_
                refine W.widen (k := 0) (n := 0) (by omega) (by omega) ?_
                exact ih_202 ((i3 + 1), w10) F_192 (⟨⟨by omega, by omega⟩, hx3b⟩) (by show i2 - (i3 + 1) < i2 - i3; omega) hO hR _ _ hP hD hS ls (lv_sub hl [1, 0, 2, 3, 4, 5, 6, 7, 8] rfl)
              ·
                refine lv_sipush (v := 256) hx hb dX15_fieldsPlain_294 (by decide) ?_
                refine lv_iload hx hb dX15_fieldsPlain_297 (lv_at hl 0 rfl) ?_
                refine lv_imul hx hb dX15_fieldsPlain_299 ?_
                refine lv_topi (fun x_238 ex_238 => ?_)
                refine lv_aload_n hx hb dX15_fieldsPlain_300 rfl (lv_at hl 7 rfl) ?_
                refine pg_get (ci := 15) (v := .ref ml) (C := RX15) (T := TX15) (N := 59) hx hb hts it_15 hown hK hP hL_h0 hF_208 rfl 23 (by decide) (hts _ kt_887) (fun _ h9 => h9) rfl dX15_fieldsPlain_301 ?_
                refine lv_iload hx hb dX15_fieldsPlain_304 (lv_at hl 1 rfl) ?_
                refine pg_bald hx hb hK hP hi_218 1 hF_223 rfl (vp_in_nI (by omega) (by omega)) dX15_fieldsPlain_306 ?_
                refine lv_topi (fun x_239 ex_239 => ?_)
                obtain rfl : x_239 = f_222 i3 := ex_239.trans (congrArg f_222 (show ((nI i3) : Int32).toNatClampNeg = i3 from nI_clamp (by omega)))
                refine lv_iadd hx hb dX15_fieldsPlain_307 ?_
                refine lv_topi (fun x_240 ex_240 => ?_)
                refine lv_istore (lv' := [(10, .int x_240), (9, .int (nI i3)), (8, .int (nI i2)), (7, .int (nI kv)), (6, .int w6), (5, .int w5), (4, .int (nI j2)), (0, .ref h0), (1, .int (nI jf))]) hx hb dX15_fieldsPlain_308 hl (by decide) rfl (fun ls hl => ?_)
                refine lv_iinc (v := (nI (i3 + 1))) (lv' := [(9, .int (nI (i3 + 1))), (10, .int x_240), (8, .int (nI i2)), (7, .int (nI kv)), (6, .int w6), (5, .int w5), (4, .int (nI j2)), (0, .ref h0), (1, .int (nI jf))]) hx hb dX15_fieldsPlain_310 hl (k := 1) rfl (nI_1 _) (by decide) rfl (fun ls hl => ?_)
                refine lv_goto (tgt := 250) hx hb dX15_fieldsPlain_313 (by decide) ?_
                refine W.widen (k := 0) (n := 0) (by omega) (by omega) ?_
                exact ih_202 ((i3 + 1), x_240) F_192 (⟨⟨by omega, by omega⟩, hx3b⟩) (by show i2 - (i3 + 1) < i2 - i3; omega) hO hR _ _ hP hD hS ls (lv_sub hl [1, 0, 2, 3, 4, 5, 6, 7, 8] rfl)
      ·
        have hi_241 : i2 < kv := ltN (N := kv) c_190
        refine lv_aload_n hx hb dX15_fieldsPlain_232 rfl (lv_at hl 7 rfl) ?_
        refine pg_get (ci := 15) (v := .ref ml) (C := RX15) (T := TX15) (N := 59) hx hb hts it_15 hown hK hP hL_h0 hF_187 rfl 23 (by decide) (hts _ kt_887) (fun _ h9 => h9) rfl dX15_fieldsPlain_233 ?_
        refine lv_iload hx hb dX15_fieldsPlain_236 (lv_at hl 2 rfl) ?_
        obtain ⟨hi_242, ht_243⟩ := hW.f_ml hL_h0 hT_h0
        obtain ⟨hq_244, hq_245⟩ := hW.octs hi_242 ht_243
        obtain ⟨f_246, hF_247, hq_248⟩ := hO.octs hi_242 ht_243
        refine pg_bald hx hb hK hP hi_242 1 hF_247 rfl (vp_in_nI (by omega) (by omega)) dX15_fieldsPlain_238 ?_
        refine lv_topi (fun x_249 ex_249 => ?_)
        obtain rfl : x_249 = f_246 i2 := ex_249.trans (congrArg f_246 (show ((nI i2) : Int32).toNatClampNeg = i2 from nI_clamp (by omega)))
        refine lv_bipush (v := 59) hx hb dX15_fieldsPlain_239 (by decide) ?_
        refine lv_icmp_eq (tgt := 250) hx hb dX15_fieldsPlain_241 (by decide) (fun c_250 => ?_) (fun c_250 => ?_)
        ·
          refine W.widen (k := 0) (n := 0) (by omega) (by omega) ?_
          have hF_252 : F sb = .inl (cs 17, 3000, .inl eb) := (hR sb (by rw [ht_39]; simp)).symm.trans hF_182
          have hF_253 : F s0 = .inl (cs 16, 40, .inl e0) := (hR s0 (by rw [ht_33]; simp)).symm.trans hF_183
          have hF_254 : F s1 = .inl (cs 16, 40, .inl e1) := (hR s1 (by rw [ht_34]; simp)).symm.trans hF_184
          have hF_255 : F s2 = .inl (cs 16, 40, .inl e2) := (hR s2 (by rw [ht_35]; simp)).symm.trans hF_185
          have hF_256 : F se = .inr (13, [.ref sx, .ref s0, .ref s1, .ref s2, .int (nI zs)]) := (hR se (by rw [ht_29]; simp)).symm.trans hF_186
          have hF_257 : F h0 = .inr (15, (.ref ta) :: (.int (nI zt)) :: (.int (nI zo)) :: (.int (nI ze)) :: (.ref ou) :: (.ref so) :: (.ref ad) :: (.ref na) :: (.ref va) :: (.ref lc) :: (.ref dm) :: (.int (nI fm)) :: (.int (nI sn)) :: (.ref tg) :: (.int v14_46) :: (.int v15_47) :: (.ref pe) :: (.int v17_48) :: (.int v18_49) :: (.int v19_50) :: (.int v20_51) :: (.int v21_52) :: (.int v22_53) :: (.ref ml) :: (.ref bg) :: (.ref co) :: (.ref sp) :: (.ref nb0) :: (.ref nb1) :: (.ref nb2) :: (.int (nI nf)) :: (.int (nI bd)) :: (.int (nI mm)) :: (.int v33_54) :: (.ref pl) :: (.ref se) :: (.ref ke) :: (.ref wi) :: (.ref hs) :: (.ref mo) :: (.ref po) :: (.ref nu) :: (.ref pr) :: (.ref sq) :: (.ref xa) :: (.ref sa) :: (.ref n64) :: (.ref m64) :: (.ref ex) :: (.ref wh) :: (.ref sd) :: (.ref tk) :: (.int v52_55) :: (.int v53_56) :: (.int v54_57) :: (.ref hd) :: (.ref ak) :: (.ref ho) :: (.ref ot) :: []) := (hR h0 (by rw [hT_h0]; simp)).symm.trans hF_187
          have hF_258 : F sx = .inr (14, [.ref sb, .int (nI z_93)]) := (hR sx (by rw [hT_sx]; simp)).symm.trans hF_188
          have hF_259 : F co = .inl (cs 16, 21, .inl f_128) := (hR co (by rw [ht_127]; simp)).symm.trans hF_189
          have hF_260 : F ml = .inl (cs 17, 3000, .inl f_246) := (hR ml (by rw [ht_243]; simp)).symm.trans hF_247
          refine pl_loopm (σ := Nat × Int32) A (dC, dI) cs ty gm L [ρ + 10, ρ + 26] F 250 11 (fun (i3, w10) => [(10, .int w10), (9, .int (nI i3)), (8, .int (nI i2)), (7, .int (nI kv)), (6, .int w6), (5, .int w5), (4, .int (nI j2)), (0, .ref h0), (1, .int (nI jf))]) (fun (i3, w10) => []) (fun (i3, w10) FF => (j2 ≤ i3 ∧ i3 ≤ i2) ∧ FF pl = .inr (14, [.ref rl, .int (nI zz)])) (fun (i3, w10) => i2 - i3) ?_ (j2, 0) F_171 (⟨⟨by omega, by omega⟩, hx2b⟩) hO hR _ _ hP hD hS ls (lv_sub hl [0, 1, 2, 3, 4, 5, 6, 7, 8] rfl)
          rintro ⟨i3, w10⟩ F_251 hv_261 hO hR ih_262 H locs hP hD hS ls hl
          have hl : lv_has ls 11 [(10, .int w10), (9, .int (nI i3)), (8, .int (nI i2)), (7, .int (nI kv)), (6, .int w6), (5, .int w5), (4, .int (nI j2)), (0, .ref h0), (1, .int (nI jf))] := hl
          have hv_261 : (j2 ≤ i3 ∧ i3 ≤ i2) ∧ F_251 pl = .inr (14, [.ref rl, .int (nI zz)]) := hv_261
          refine W.eq (g2 := F0 m 250 ls []) rfl ?_
          have hF_263 : F_251 sb = .inl (cs 17, 3000, .inl eb) := (hR sb (by rw [ht_39]; simp)).trans hF_252
          have hF_264 : F_251 s0 = .inl (cs 16, 40, .inl e0) := (hR s0 (by rw [ht_33]; simp)).trans hF_253
          have hF_265 : F_251 s1 = .inl (cs 16, 40, .inl e1) := (hR s1 (by rw [ht_34]; simp)).trans hF_254
          have hF_266 : F_251 s2 = .inl (cs 16, 40, .inl e2) := (hR s2 (by rw [ht_35]; simp)).trans hF_255
          have hF_267 : F_251 se = .inr (13, [.ref sx, .ref s0, .ref s1, .ref s2, .int (nI zs)]) := (hR se (by rw [ht_29]; simp)).trans hF_256
          have hF_268 : F_251 h0 = .inr (15, (.ref ta) :: (.int (nI zt)) :: (.int (nI zo)) :: (.int (nI ze)) :: (.ref ou) :: (.ref so) :: (.ref ad) :: (.ref na) :: (.ref va) :: (.ref lc) :: (.ref dm) :: (.int (nI fm)) :: (.int (nI sn)) :: (.ref tg) :: (.int v14_46) :: (.int v15_47) :: (.ref pe) :: (.int v17_48) :: (.int v18_49) :: (.int v19_50) :: (.int v20_51) :: (.int v21_52) :: (.int v22_53) :: (.ref ml) :: (.ref bg) :: (.ref co) :: (.ref sp) :: (.ref nb0) :: (.ref nb1) :: (.ref nb2) :: (.int (nI nf)) :: (.int (nI bd)) :: (.int (nI mm)) :: (.int v33_54) :: (.ref pl) :: (.ref se) :: (.ref ke) :: (.ref wi) :: (.ref hs) :: (.ref mo) :: (.ref po) :: (.ref nu) :: (.ref pr) :: (.ref sq) :: (.ref xa) :: (.ref sa) :: (.ref n64) :: (.ref m64) :: (.ref ex) :: (.ref wh) :: (.ref sd) :: (.ref tk) :: (.int v52_55) :: (.int v53_56) :: (.int v54_57) :: (.ref hd) :: (.ref ak) :: (.ref ho) :: (.ref ot) :: []) := (hR h0 (by rw [hT_h0]; simp)).trans hF_257
          have hF_269 : F_251 sx = .inr (14, [.ref sb, .int (nI z_93)]) := (hR sx (by rw [hT_sx]; simp)).trans hF_258
          have hF_270 : F_251 co = .inl (cs 16, 21, .inl f_128) := (hR co (by rw [ht_127]; simp)).trans hF_259
          have hF_271 : F_251 ml = .inl (cs 17, 3000, .inl f_246) := (hR ml (by rw [ht_243]; simp)).trans hF_260
          obtain ⟨hx3a, hx3b⟩ := hv_261
          refine lv_iload hx hb dX15_fieldsPlain_250 (lv_at hl 1 rfl) ?_
          refine lv_iload hx hb dX15_fieldsPlain_252 (lv_at hl 2 rfl) ?_
          refine lv_icmp_ge (tgt := 316) hx hb dX15_fieldsPlain_254 (by decide) (fun c_272 => ?_) (fun c_272 => ?_)
          ·
            have hi_273 : i2 ≤ i3 := leN (N := i2) c_272
            refine lv_iload hx hb dX15_fieldsPlain_316 (lv_at hl 0 rfl) ?_
            refine lv_bipush (v := 98) hx hb dX15_fieldsPlain_318 (by decide) ?_
            refine lv_icmp_ne (tgt := 333) hx hb dX15_fieldsPlain_320 (by decide) (fun c_274 => ?_) (fun c_274 => ?_)
            ·
              refine lv_iload hx hb dX15_fieldsPlain_333 (lv_at hl 2 rfl) ?_
              refine lv_iconst (v := 1) hx hb dX15_fieldsPlain_335 (by decide) ?_
              refine lv_iadd hx hb dX15_fieldsPlain_336 ?_
              refine lv_topi (fun x_275 ex_275 => ?_)
              obtain rfl : x_275 = (nI (i2 + 1)) := ex_275.trans (nI_add i2 1)
              refine lv_istore (lv' := [(4, .int (nI (i2 + 1))), (10, .int w10), (9, .int (nI i3)), (8, .int (nI i2)), (7, .int (nI kv)), (6, .int w6), (5, .int w5), (0, .ref h0), (1, .int (nI jf))]) hx hb dX15_fieldsPlain_337 hl (by decide) rfl (fun ls hl => ?_)
              refine lv_goto (tgt := 207) hx hb dX15_fieldsPlain_339 (by decide) ?_
              refine W.widen (k := 0) (n := 0) (by omega) (by omega) ?_
              exact ih_146 ((i2 + 1), w5, w6) F_251 (⟨by omega, hx3b⟩) (by show 1282 - (i2 + 1) < 1282 - j2; omega) hO hR _ _ hP hD hS ls (lv_sub hl [4, 5, 6, 0, 7, 8] rfl)
            ·
              refine lv_iload hx hb dX15_fieldsPlain_323 (lv_at hl 1 rfl) ?_
              refine lv_iconst (v := 1) hx hb dX15_fieldsPlain_325 (by decide) ?_
              refine lv_iadd hx hb dX15_fieldsPlain_326 ?_
              refine lv_topi (fun x_276 ex_276 => ?_)
              obtain rfl : x_276 = (nI (i3 + 1)) := ex_276.trans (nI_add i3 1)
              refine lv_istore (lv' := [(5, .int (nI (i3 + 1))), (10, .int w10), (9, .int (nI i3)), (8, .int (nI i2)), (7, .int (nI kv)), (6, .int w6), (4, .int (nI j2)), (0, .ref h0), (1, .int (nI jf))]) hx hb dX15_fieldsPlain_327 hl (by decide) rfl (fun ls hl => ?_)
              refine lv_iload hx hb dX15_fieldsPlain_329 (lv_at hl 3 rfl) ?_
              refine lv_istore (lv' := [(6, .int (nI i2)), (5, .int (nI (i3 + 1))), (10, .int w10), (9, .int (nI i3)), (8, .int (nI i2)), (7, .int (nI kv)), (4, .int (nI j2)), (0, .ref h0), (1, .int (nI jf))]) hx hb dX15_fieldsPlain_331 hl (by decide) rfl (fun ls hl => ?_)
              refine lv_iload hx hb dX15_fieldsPlain_333 (lv_at hl 4 rfl) ?_
              refine lv_iconst (v := 1) hx hb dX15_fieldsPlain_335 (by decide) ?_
              refine lv_iadd hx hb dX15_fieldsPlain_336 ?_
              refine lv_topi (fun x_277 ex_277 => ?_)
              obtain rfl : x_277 = (nI (i2 + 1)) := ex_277.trans (nI_add i2 1)
              refine lv_istore (lv' := [(4, .int (nI (i2 + 1))), (6, .int (nI i2)), (5, .int (nI (i3 + 1))), (10, .int w10), (9, .int (nI i3)), (8, .int (nI i2)), (7, .int (nI kv)), (0, .ref h0), (1, .int (nI jf))]) hx hb dX15_fieldsPlain_337 hl (by decide) rfl (fun ls hl => ?_)
              refine lv_goto (tgt := 207) hx hb dX15_fieldsPlain_339 (by decide) ?_
              refine W.widen (k := 0) (n := 0) (by omega) (by omega) ?_
              exact ih_146 ((i2 + 1), (nI (i3 + 1)), (nI i2)) F_251 (⟨by omega, hx3b⟩) (by show 1282 - (i2 + 1) < 1282 - j2; omega) hO hR _ _ hP hD hS ls (lv_sub hl [6, 1, 2, 0, 7, 8] rfl)
          ·
            have hi_278 : i3 < i2 := ltN (N := i2) c_272
            refine lv_aload_n hx hb dX15_fieldsPlain_257 rfl (lv_at hl 7 rfl) ?_
            refine pg_get (ci := 15) (v := .ref ml) (C := RX15) (T := TX15) (N := 59) hx hb hts it_15 hown hK hP hL_h0 hF_268 rfl 23 (by decide) (hts _ kt_887) (fun _ h9 => h9) rfl dX15_fieldsPlain_258 ?_
            refine lv_iload hx hb dX15_fieldsPlain_261 (lv_at hl 1 rfl) ?_
            refine pg_bald hx hb hK hP hi_242 1 hF_271 rfl (vp_in_nI (by omega) (by omega)) dX15_fieldsPlain_263 ?_
            refine lv_topi (fun x_279 ex_279 => ?_)
            obtain rfl : x_279 = f_246 i3 := ex_279.trans (congrArg f_246 (show ((nI i3) : Int32).toNatClampNeg = i3 from nI_clamp (by omega)))
            refine lv_bipush (v := 61) hx hb dX15_fieldsPlain_264 (by decide) ?_
            refine lv_icmp_eq (tgt := 316) hx hb dX15_fieldsPlain_266 (by decide) (fun c_280 => ?_) (fun c_280 => ?_)
            ·
              refine lv_iload hx hb dX15_fieldsPlain_316 (lv_at hl 0 rfl) ?_
              refine lv_bipush (v := 98) hx hb dX15_fieldsPlain_318 (by decide) ?_
              refine lv_icmp_ne (tgt := 333) hx hb dX15_fieldsPlain_320 (by decide) (fun c_281 => ?_) (fun c_281 => ?_)
              ·
                refine lv_iload hx hb dX15_fieldsPlain_333 (lv_at hl 2 rfl) ?_
                refine lv_iconst (v := 1) hx hb dX15_fieldsPlain_335 (by decide) ?_
                refine lv_iadd hx hb dX15_fieldsPlain_336 ?_
                refine lv_topi (fun x_282 ex_282 => ?_)
                obtain rfl : x_282 = (nI (i2 + 1)) := ex_282.trans (nI_add i2 1)
                refine lv_istore (lv' := [(4, .int (nI (i2 + 1))), (10, .int w10), (9, .int (nI i3)), (8, .int (nI i2)), (7, .int (nI kv)), (6, .int w6), (5, .int w5), (0, .ref h0), (1, .int (nI jf))]) hx hb dX15_fieldsPlain_337 hl (by decide) rfl (fun ls hl => ?_)
                refine lv_goto (tgt := 207) hx hb dX15_fieldsPlain_339 (by decide) ?_
                refine W.widen (k := 0) (n := 0) (by omega) (by omega) ?_
                exact ih_146 ((i2 + 1), w5, w6) F_251 (⟨by omega, hx3b⟩) (by show 1282 - (i2 + 1) < 1282 - j2; omega) hO hR _ _ hP hD hS ls (lv_sub hl [4, 5, 6, 0, 7, 8] rfl)
              ·
                refine lv_iload hx hb dX15_fieldsPlain_323 (lv_at hl 1 rfl) ?_
                refine lv_iconst (v := 1) hx hb dX15_fieldsPlain_325 (by decide) ?_
                refine lv_iadd hx hb dX15_fieldsPlain_326 ?_
                refine lv_topi (fun x_283 ex_283 => ?_)
                obtain rfl : x_283 = (nI (i3 + 1)) := ex_283.trans (nI_add i3 1)
                refine lv_istore (lv' := [(5, .int (nI (i3 + 1))), (10, .int w10), (9, .int (nI i3)), (8, .int (nI i2)), (7, .int (nI kv)), (6, .int w6), (4, .int (nI j2)), (0, .ref h0), (1, .int (nI jf))]) hx hb dX15_fieldsPlain_327 hl (by decide) rfl (fun ls hl => ?_)
                refine lv_iload hx hb dX15_fieldsPlain_329 (lv_at hl 3 rfl) ?_
                refine lv_istore (lv' := [(6, .int (nI i2)), (5, .int (nI (i3 + 1))), (10, .int w10), (9, .int (nI i3)), (8, .int (nI i2)), (7, .int (nI kv)), (4, .int (nI j2)), (0, .ref h0), (1, .int (nI jf))]) hx hb dX15_fieldsPlain_331 hl (by decide) rfl (fun ls hl => ?_)
                refine lv_iload hx hb dX15_fieldsPlain_333 (lv_at hl 4 rfl) ?_
                refine lv_iconst (v := 1) hx hb dX15_fieldsPlain_335 (by decide) ?_
                refine lv_iadd hx hb dX15_fieldsPlain_336 ?_
                refine lv_topi (fun x_284 ex_284 => ?_)
                obtain rfl : x_284 = (nI (i2 + 1)) := ex_284.trans (nI_add i2 1)
                refine lv_istore (lv' := [(4, .int (nI (i2 + 1))), (6, .int (nI i2)), (5, .int (nI (i3 + 1))), (10, .int w10), (9, .int (nI i3)), (8, .int (nI i2)), (7, .int (nI kv)), (0, .ref h0), (1, .int (nI jf))]) hx hb dX15_fieldsPlain_337 hl (by decide) rfl (fun ls hl => ?_)
                refine lv_goto (tgt := 207) hx hb dX15_fieldsPlain_339 (by decide) ?_
                refine W.widen (k := 0) (n := 0) (by omega) (by omega) ?_
                exact ih_146 ((i2 + 1), (nI (i3 + 1)), (nI i2)) F_251 (⟨by omega, hx3b⟩) (by show 1282 - (i2 + 1) < 1282 - j2; omega) hO hR _ _ hP hD hS ls (lv_sub hl [6, 1, 2, 0, 7, 8] rfl)
            ·
              refine lv_aload_n hx hb dX15_fieldsPlain_269 rfl (lv_at hl 7 rfl) ?_
              refine pg_get (ci := 15) (v := .ref ml) (C := RX15) (T := TX15) (N := 59) hx hb hts it_15 hown hK hP hL_h0 hF_268 rfl 23 (by decide) (hts _ kt_887) (fun _ h9 => h9) rfl dX15_fieldsPlain_270 ?_
              refine lv_iload hx hb dX15_fieldsPlain_273 (lv_at hl 1 rfl) ?_
              refine pg_bald hx hb hK hP hi_242 1 hF_271 rfl (vp_in_nI (by omega) (by omega)) dX15_fieldsPlain_275 ?_
              refine lv_topi (fun x_285 ex_285 => ?_)
              obtain rfl : x_285 = f_246 i3 := ex_285.trans (congrArg f_246 (show ((nI i3) : Int32).toNatClampNeg = i3 from nI_clamp (by omega)))
              have hFc := pg_free hD hS hA
              refine va_calli (va_runS (As := [.int (f_246 i3)]) (rest := []) ⟨hx, hb, hml, hown, hts⟩ (s_X15_isWhite l dC dI cs ty gm L H.size F_251 (f_246 i3) hW ) ⟨callB_of 1 hts (gi kt_715) rfl rfl rfl (hts _ kt_669) (hts _ kt_716) (by decide +kernel) ⟨Nat.le_of_ble_eq_true rfl, Nat.le_of_ble_eq_true rfl⟩, (hts _ kt_717)⟩ ⟨fun a U g mk q => ⟨q.1, PTm.calling q.2⟩, fun U hU hWm => ⟨rfl, PTm.mk hU hWm hP hK hD hE hO⟩⟩ rfl rfl hl.1 rfl (lv_room (Nat.le_of_ble_eq_true rfl)) dX15_fieldsPlain_276 ⟨by show _ + 0 ≤ 0; omega, by show _ + 0 ≤ 0; omega⟩) hS (fun q _ h => hFc q h) hFc (fun r_286 u t H1 locs ht hvm hw hB hz1 hk1 hS => ?_)
              obtain ⟨F_287, hB1⟩ := hB
              obtain rfl : F_251 = F_287 := (funext (fun a => hB1.2.2.2 a List.not_mem_nil)).symm
              obtain ⟨hP, hD, hO, hR⟩ := QTm.back hB1 ht hFc hR (fun q h => absurd h List.not_mem_nil)
              generalize H1 = H at hP hS ⊢
              have hw : (r_286 = 0 ∨ r_286 = 1) := hw
              have hw_288 := hw
              refine lv_if_ne (tgt := 310) hx hb dX15_fieldsPlain_279 (by decide) (fun c_289 => ?_) (fun c_289 => ?_)
              ·
                refine lv_iinc (v := (nI (i3 + 1))) (lv' := [(9, .int (nI (i3 + 1))), (10, .int w10), (8, .int (nI i2)), (7, .int (nI kv)), (6, .int w6), (5, .int w5), (4, .int (nI j2)), (0, .ref h0), (1, .int (nI jf))]) hx hb dX15_fieldsPlain_310 hl (k := 1) rfl (nI_1 _) (by decide) rfl (fun ls hl => ?_)
                refine lv_goto (tgt := 250) hx hb dX15_fieldsPlain_313 (by decide) ?_
                refine W.widen (k := 0) (n := 0) (by omega) (by omega) ?_
                exact ih_262 ((i3 + 1), w10) F_251 (⟨⟨by omega, by omega⟩, hx3b⟩) (by show i2 - (i3 + 1) < i2 - i3; omega) hO hR _ _ hP hD hS ls (lv_sub hl [1, 0, 2, 3, 4, 5, 6, 7, 8] rfl)
              ·
                refine lv_aload_n hx hb dX15_fieldsPlain_282 rfl (lv_at hl 7 rfl) ?_
                refine pg_get (ci := 15) (v := .ref ml) (C := RX15) (T := TX15) (N := 59) hx hb hts it_15 hown hK hP hL_h0 hF_268 rfl 23 (by decide) (hts _ kt_887) (fun _ h9 => h9) rfl dX15_fieldsPlain_283 ?_
                refine lv_iload hx hb dX15_fieldsPlain_286 (lv_at hl 1 rfl) ?_
                refine pg_bald hx hb hK hP hi_242 1 hF_271 rfl (vp_in_nI (by omega) (by omega)) dX15_fieldsPlain_288 ?_
                refine lv_topi (fun x_290 ex_290 => ?_)
                obtain rfl : x_290 = f_246 i3 := ex_290.trans (congrArg f_246 (show ((nI i3) : Int32).toNatClampNeg = i3 from nI_clamp (by omega)))
                refine lv_bipush (v := 10) hx hb dX15_fieldsPlain_289 (by decide) ?_
                refine lv_icmp_eq (tgt := 310) hx hb dX15_fieldsPlain_291 (by decide) (fun c_291 => ?_) (fun c_291 => ?_)
                ·
                  refine lv_iinc (v := (nI (i3 + 1))) (lv' := [(9, .int (nI (i3 + 1))), (10, .int w10), (8, .int (nI i2)), (7, .int (nI kv)), (6, .int w6), (5, .int w5), (4, .int (nI j2)), (0, .ref h0), (1, .int (nI jf))]) hx hb dX15_fieldsPlain_310 hl (k := 1) rfl (nI_1 _) (by decide) rfl (fun ls hl => ?_)
                  refine lv_goto (tgt := 250) hx hb dX15_fieldsPlain_313 (by decide) ?_
                  refine W.widen (k := 0) (n := 0) (by omega) (by omega) ?_
                  exact ih_262 ((i3 + 1), w10) F_251 (⟨⟨by omega, by omega⟩, hx3b⟩) (by show i2 - (i3 + 1) < i2 - i3; omega) hO hR _ _ hP hD hS ls (lv_sub hl [1, 0, 2, 3, 4, 5, 6, 7, 8] rfl)
                ·
                  refine lv_sipush (v := 256) hx hb dX15_fieldsPlain_294 (by decide) ?_
                  refine lv_iload hx hb dX15_fieldsPlain_297 (lv_at hl 0 rfl) ?_
                  refine lv_imul hx hb dX15_fieldsPlain_299 ?_
                  refine lv_topi (fun x_292 ex_292 => ?_)
                  refine lv_aload_n hx hb dX15_fieldsPlain_300 rfl (lv_at hl 7 rfl) ?_
                  refine pg_get (ci := 15) (v := .ref ml) (C := RX15) (T := TX15) (N := 59) hx hb hts it_15 hown hK hP hL_h0 hF_268 rfl 23 (by decide) (hts _ kt_887) (fun _ h9 => h9) rfl dX15_fieldsPlain_301 ?_
                  refine lv_iload hx hb dX15_fieldsPlain_304 (lv_at hl 1 rfl) ?_
                  refine pg_bald hx hb hK hP hi_242 1 hF_271 rfl (vp_in_nI (by omega) (by omega)) dX15_fieldsPlain_306 ?_
                  refine lv_topi (fun x_293 ex_293 => ?_)
                  obtain rfl : x_293 = f_246 i3 := ex_293.trans (congrArg f_246 (show ((nI i3) : Int32).toNatClampNeg = i3 from nI_clamp (by omega)))
                  refine lv_iadd hx hb dX15_fieldsPlain_307 ?_
                  refine lv_topi (fun x_294 ex_294 => ?_)
                  refine lv_istore (lv' := [(10, .int x_294), (9, .int (nI i3)), (8, .int (nI i2)), (7, .int (nI kv)), (6, .int w6), (5, .int w5), (4, .int (nI j2)), (0, .ref h0), (1, .int (nI jf))]) hx hb dX15_fieldsPlain_308 hl (by decide) rfl (fun ls hl => ?_)
                  refine lv_iinc (v := (nI (i3 + 1))) (lv' := [(9, .int (nI (i3 + 1))), (10, .int x_294), (8, .int (nI i2)), (7, .int (nI kv)), (6, .int w6), (5, .int w5), (4, .int (nI j2)), (0, .ref h0), (1, .int (nI jf))]) hx hb dX15_fieldsPlain_310 hl (k := 1) rfl (nI_1 _) (by decide) rfl (fun ls hl => ?_)
                  refine lv_goto (tgt := 250) hx hb dX15_fieldsPlain_313 (by decide) ?_
                  refine W.widen (k := 0) (n := 0) (by omega) (by omega) ?_
                  exact ih_262 ((i3 + 1), x_294) F_251 (⟨⟨by omega, by omega⟩, hx3b⟩) (by show i2 - (i3 + 1) < i2 - i3; omega) hO hR _ _ hP hD hS ls (lv_sub hl [1, 0, 2, 3, 4, 5, 6, 7, 8] rfl)
        ·
          refine lv_iinc (v := (nI (i2 + 1))) (lv' := [(8, .int (nI (i2 + 1))), (10, .int 0), (9, .int (nI j2)), (7, .int (nI kv)), (6, .int w6), (5, .int w5), (4, .int (nI j2)), (0, .ref h0), (1, .int (nI jf))]) hx hb dX15_fieldsPlain_244 hl (k := 2) rfl (nI_1 _) (by decide) rfl (fun ls hl => ?_)
          refine lv_goto (tgt := 225) hx hb dX15_fieldsPlain_247 (by decide) ?_
          refine W.widen (k := 0) (n := 0) (by omega) (by omega) ?_
          exact ih_181 (i2 + 1) F_171 (⟨⟨by omega, by omega⟩, hx2b⟩) (by show kv - (i2 + 1) < kv - i2; omega) hO hR _ _ hP hD hS ls (lv_sub hl [1, 2, 0, 3, 4, 5, 6, 7, 8] rfl)
  ·
    have hi_295 : j ≤ k_120 := Nat.not_lt.mp (fun q => c_124 ((nI_ltI (a := k_120) (b := j) (by omega) (by omega)).mpr q))
    refine lv_iload hx hb dX15_fieldsPlain_65 (lv_at hl 0 rfl) ?_
    refine lv_istore (lv' := [(5, .int (nI j)), (4, .int (nI j)), (3, .ref sb), (2, .int (nI kh)), (0, .ref h0), (1, .int (nI jf))]) hx hb dX15_fieldsPlain_67 hl (by decide) rfl (fun ls hl => ?_)
    refine W.widen (k := 0) (n := 0) (by omega) (by omega) ?_
    have hF_297 : F sb = .inl (cs 17, 3000, .inl eb) := (hR sb (by rw [ht_39]; simp)).symm.trans hF_112
    have hF_298 : F s0 = .inl (cs 16, 40, .inl e0) := (hR s0 (by rw [ht_33]; simp)).symm.trans hF_113
    have hF_299 : F s1 = .inl (cs 16, 40, .inl e1) := (hR s1 (by rw [ht_34]; simp)).symm.trans hF_114
    have hF_300 : F s2 = .inl (cs 16, 40, .inl e2) := (hR s2 (by rw [ht_35]; simp)).symm.trans hF_115
    have hF_301 : F se = .inr (13, [.ref sx, .ref s0, .ref s1, .ref s2, .int (nI zs)]) := (hR se (by rw [ht_29]; simp)).symm.trans hF_116
    have hF_302 : F h0 = .inr (15, (.ref ta) :: (.int (nI zt)) :: (.int (nI zo)) :: (.int (nI ze)) :: (.ref ou) :: (.ref so) :: (.ref ad) :: (.ref na) :: (.ref va) :: (.ref lc) :: (.ref dm) :: (.int (nI fm)) :: (.int (nI sn)) :: (.ref tg) :: (.int v14_46) :: (.int v15_47) :: (.ref pe) :: (.int v17_48) :: (.int v18_49) :: (.int v19_50) :: (.int v20_51) :: (.int v21_52) :: (.int v22_53) :: (.ref ml) :: (.ref bg) :: (.ref co) :: (.ref sp) :: (.ref nb0) :: (.ref nb1) :: (.ref nb2) :: (.int (nI nf)) :: (.int (nI bd)) :: (.int (nI mm)) :: (.int v33_54) :: (.ref pl) :: (.ref se) :: (.ref ke) :: (.ref wi) :: (.ref hs) :: (.ref mo) :: (.ref po) :: (.ref nu) :: (.ref pr) :: (.ref sq) :: (.ref xa) :: (.ref sa) :: (.ref n64) :: (.ref m64) :: (.ref ex) :: (.ref wh) :: (.ref sd) :: (.ref tk) :: (.int v52_55) :: (.int v53_56) :: (.int v54_57) :: (.ref hd) :: (.ref ak) :: (.ref ho) :: (.ref ot) :: []) := (hR h0 (by rw [hT_h0]; simp)).symm.trans hF_117
    have hF_303 : F sx = .inr (14, [.ref sb, .int (nI z_93)]) := (hR sx (by rw [hT_sx]; simp)).symm.trans hF_118
    refine pl_loopm (σ := Nat) A (dC, dI) cs ty gm L [ρ + 10, ρ + 26] F 69 11 (fun i => [(5, .int (nI i)), (4, .int (nI j)), (3, .ref sb), (2, .int (nI kh)), (0, .ref h0), (1, .int (nI jf))]) (fun i => []) (fun i FF => j ≤ i ∧ i ≤ 1281 ∧ FF pl = .inr (14, [.ref rl, .int (nI zz)]) ∧ FF tk = .inl (cs 18, 20, .inl ft)) (fun i => 1281 - i) ?_ j F_102 (⟨by omega, by omega, hp3, hp4⟩) hO hR _ _ hP hD hS ls (lv_sub hl [0, 1, 2, 3, 4, 5] rfl)
    rintro i F_296 hv_304 hO hR ih_305 H locs hP hD hS ls hl
    have hl : lv_has ls 11 [(5, .int (nI i)), (4, .int (nI j)), (3, .ref sb), (2, .int (nI kh)), (0, .ref h0), (1, .int (nI jf))] := hl
    have hv_304 : j ≤ i ∧ i ≤ 1281 ∧ F_296 pl = .inr (14, [.ref rl, .int (nI zz)]) ∧ F_296 tk = .inl (cs 18, 20, .inl ft) := hv_304
    refine W.eq (g2 := F0 m 69 ls []) rfl ?_
    have hF_306 : F_296 sb = .inl (cs 17, 3000, .inl eb) := (hR sb (by rw [ht_39]; simp)).trans hF_297
    have hF_307 : F_296 s0 = .inl (cs 16, 40, .inl e0) := (hR s0 (by rw [ht_33]; simp)).trans hF_298
    have hF_308 : F_296 s1 = .inl (cs 16, 40, .inl e1) := (hR s1 (by rw [ht_34]; simp)).trans hF_299
    have hF_309 : F_296 s2 = .inl (cs 16, 40, .inl e2) := (hR s2 (by rw [ht_35]; simp)).trans hF_300
    have hF_310 : F_296 se = .inr (13, [.ref sx, .ref s0, .ref s1, .ref s2, .int (nI zs)]) := (hR se (by rw [ht_29]; simp)).trans hF_301
    have hF_311 : F_296 h0 = .inr (15, (.ref ta) :: (.int (nI zt)) :: (.int (nI zo)) :: (.int (nI ze)) :: (.ref ou) :: (.ref so) :: (.ref ad) :: (.ref na) :: (.ref va) :: (.ref lc) :: (.ref dm) :: (.int (nI fm)) :: (.int (nI sn)) :: (.ref tg) :: (.int v14_46) :: (.int v15_47) :: (.ref pe) :: (.int v17_48) :: (.int v18_49) :: (.int v19_50) :: (.int v20_51) :: (.int v21_52) :: (.int v22_53) :: (.ref ml) :: (.ref bg) :: (.ref co) :: (.ref sp) :: (.ref nb0) :: (.ref nb1) :: (.ref nb2) :: (.int (nI nf)) :: (.int (nI bd)) :: (.int (nI mm)) :: (.int v33_54) :: (.ref pl) :: (.ref se) :: (.ref ke) :: (.ref wi) :: (.ref hs) :: (.ref mo) :: (.ref po) :: (.ref nu) :: (.ref pr) :: (.ref sq) :: (.ref xa) :: (.ref sa) :: (.ref n64) :: (.ref m64) :: (.ref ex) :: (.ref wh) :: (.ref sd) :: (.ref tk) :: (.int v52_55) :: (.int v53_56) :: (.int v54_57) :: (.ref hd) :: (.ref ak) :: (.ref ho) :: (.ref ot) :: []) := (hR h0 (by rw [hT_h0]; simp)).trans hF_302
    have hF_312 : F_296 sx = .inr (14, [.ref sb, .int (nI z_93)]) := (hR sx (by rw [hT_sx]; simp)).trans hF_303
    obtain ⟨hq1, hq2, hq3, hq4⟩ := hv_304
    refine lv_iload hx hb dX15_fieldsPlain_69 (lv_at hl 0 rfl) ?_
    refine lv_aload_n hx hb dX15_fieldsPlain_71 rfl (lv_at hl 4 rfl) ?_
    refine pg_get (ci := 15) (v := .ref se) (C := RX15) (T := TX15) (N := 59) hx hb hts it_15 hown hK hP hL_h0 hF_311 rfl 35 (by decide) (hts _ kt_847) (fun _ h9 => h9) rfl dX15_fieldsPlain_72 ?_
    refine pg_get (ci := 13) (v := .ref s2) (C := RX13) (T := TX13) (N := 5) hx hb hts it_13 hown hK hP hi_28 hF_310 rfl 3 (by decide) (hts _ kt_841) (fun _ h9 => h9) rfl dX15_fieldsPlain_75 ?_
    refine lv_iload_n hx hb dX15_fieldsPlain_78 rfl (lv_at hl 3 rfl) ?_
    refine pg_iald hx hb hK hP hi_32 0 hF_309 rfl (vp_in_nI (by omega) (by omega)) dX15_fieldsPlain_79 ?_
    refine lv_topi (fun x_313 ex_313 => ?_)
    obtain rfl : x_313 = nI k_120 := ex_313.trans ek_122
    refine lv_icmp_ge (tgt := 98) hx hb dX15_fieldsPlain_80 (by decide) (fun c_314 => ?_) (fun c_314 => ?_)
    ·
      have hi_315 : k_120 ≤ i := leN (N := k_120) c_314
      refine lv_aload_n hx hb dX15_fieldsPlain_98 rfl (lv_at hl 4 rfl) ?_
      refine pg_get (ci := 15) (v := .int (nI nf)) (C := RX15) (T := TX15) (N := 59) hx hb hts it_15 hown hK hP hL_h0 hF_311 rfl 30 (by decide) (hts _ kt_892) (fun _ h9 => h9) rfl dX15_fieldsPlain_99 ?_
      refine lv_iconst (v := 1) hx hb dX15_fieldsPlain_102 (by decide) ?_
      refine lv_isub hx hb dX15_fieldsPlain_103 ?_
      refine lv_topi (fun x_316 ex_316 => ?_)
      obtain rfl : x_316 = (nI nf - 1) := ex_316.trans (rfl)
      refine lv_istore (lv' := [(6, .int (nI nf - 1)), (5, .int (nI i)), (4, .int (nI j)), (3, .ref sb), (2, .int (nI kh)), (0, .ref h0), (1, .int (nI jf))]) hx hb dX15_fieldsPlain_104 hl (by decide) rfl (fun ls hl => ?_)
      refine W.widen (k := 0) (n := 0) (by omega) (by omega) ?_
      have hF_318 : F sb = .inl (cs 17, 3000, .inl eb) := (hR sb (by rw [ht_39]; simp)).symm.trans hF_306
      have hF_319 : F s0 = .inl (cs 16, 40, .inl e0) := (hR s0 (by rw [ht_33]; simp)).symm.trans hF_307
      have hF_320 : F s1 = .inl (cs 16, 40, .inl e1) := (hR s1 (by rw [ht_34]; simp)).symm.trans hF_308
      have hF_321 : F s2 = .inl (cs 16, 40, .inl e2) := (hR s2 (by rw [ht_35]; simp)).symm.trans hF_309
      have hF_322 : F se = .inr (13, [.ref sx, .ref s0, .ref s1, .ref s2, .int (nI zs)]) := (hR se (by rw [ht_29]; simp)).symm.trans hF_310
      have hF_323 : F h0 = .inr (15, (.ref ta) :: (.int (nI zt)) :: (.int (nI zo)) :: (.int (nI ze)) :: (.ref ou) :: (.ref so) :: (.ref ad) :: (.ref na) :: (.ref va) :: (.ref lc) :: (.ref dm) :: (.int (nI fm)) :: (.int (nI sn)) :: (.ref tg) :: (.int v14_46) :: (.int v15_47) :: (.ref pe) :: (.int v17_48) :: (.int v18_49) :: (.int v19_50) :: (.int v20_51) :: (.int v21_52) :: (.int v22_53) :: (.ref ml) :: (.ref bg) :: (.ref co) :: (.ref sp) :: (.ref nb0) :: (.ref nb1) :: (.ref nb2) :: (.int (nI nf)) :: (.int (nI bd)) :: (.int (nI mm)) :: (.int v33_54) :: (.ref pl) :: (.ref se) :: (.ref ke) :: (.ref wi) :: (.ref hs) :: (.ref mo) :: (.ref po) :: (.ref nu) :: (.ref pr) :: (.ref sq) :: (.ref xa) :: (.ref sa) :: (.ref n64) :: (.ref m64) :: (.ref ex) :: (.ref wh) :: (.ref sd) :: (.ref tk) :: (.int v52_55) :: (.int v53_56) :: (.int v54_57) :: (.ref hd) :: (.ref ak) :: (.ref ho) :: (.ref ot) :: []) := (hR h0 (by rw [hT_h0]; simp)).symm.trans hF_311
      have hF_324 : F sx = .inr (14, [.ref sb, .int (nI z_93)]) := (hR sx (by rw [hT_sx]; simp)).symm.trans hF_312
      refine pl_loopm (σ := Int32) A (dC, dI) cs ty gm L [ρ + 10, ρ + 26] F 106 11 (fun i1 => [(6, .int i1), (5, .int (nI i)), (4, .int (nI j)), (3, .ref sb), (2, .int (nI kh)), (0, .ref h0), (1, .int (nI jf))]) (fun i1 => []) (fun i1 FF => (∃ q : Nat, q ≤ nf ∧ i1 = nI q - 1) ∧ FF pl = .inr (14, [.ref rl, .int (nI zz)]) ∧ FF tk = .inl (cs 18, 20, .inl ft)) (fun i1 => (i1.toInt + 1).toNat) ?_ (nI nf - 1) F_296 (⟨⟨nf, Nat.le_refl _, rfl⟩, hq3, hq4⟩) hO hR _ _ hP hD hS ls (lv_sub hl [0, 1, 2, 3, 4, 5, 6] rfl)
      rintro i1 F_317 hv_325 hO hR ih_326 H locs hP hD hS ls hl
      have hl : lv_has ls 11 [(6, .int i1), (5, .int (nI i)), (4, .int (nI j)), (3, .ref sb), (2, .int (nI kh)), (0, .ref h0), (1, .int (nI jf))] := hl
      have hv_325 : (∃ q : Nat, q ≤ nf ∧ i1 = nI q - 1) ∧ F_317 pl = .inr (14, [.ref rl, .int (nI zz)]) ∧ F_317 tk = .inl (cs 18, 20, .inl ft) := hv_325
      refine W.eq (g2 := F0 m 106 ls []) rfl ?_
      have hF_327 : F_317 sb = .inl (cs 17, 3000, .inl eb) := (hR sb (by rw [ht_39]; simp)).trans hF_318
      have hF_328 : F_317 s0 = .inl (cs 16, 40, .inl e0) := (hR s0 (by rw [ht_33]; simp)).trans hF_319
      have hF_329 : F_317 s1 = .inl (cs 16, 40, .inl e1) := (hR s1 (by rw [ht_34]; simp)).trans hF_320
      have hF_330 : F_317 s2 = .inl (cs 16, 40, .inl e2) := (hR s2 (by rw [ht_35]; simp)).trans hF_321
      have hF_331 : F_317 se = .inr (13, [.ref sx, .ref s0, .ref s1, .ref s2, .int (nI zs)]) := (hR se (by rw [ht_29]; simp)).trans hF_322
      have hF_332 : F_317 h0 = .inr (15, (.ref ta) :: (.int (nI zt)) :: (.int (nI zo)) :: (.int (nI ze)) :: (.ref ou) :: (.ref so) :: (.ref ad) :: (.ref na) :: (.ref va) :: (.ref lc) :: (.ref dm) :: (.int (nI fm)) :: (.int (nI sn)) :: (.ref tg) :: (.int v14_46) :: (.int v15_47) :: (.ref pe) :: (.int v17_48) :: (.int v18_49) :: (.int v19_50) :: (.int v20_51) :: (.int v21_52) :: (.int v22_53) :: (.ref ml) :: (.ref bg) :: (.ref co) :: (.ref sp) :: (.ref nb0) :: (.ref nb1) :: (.ref nb2) :: (.int (nI nf)) :: (.int (nI bd)) :: (.int (nI mm)) :: (.int v33_54) :: (.ref pl) :: (.ref se) :: (.ref ke) :: (.ref wi) :: (.ref hs) :: (.ref mo) :: (.ref po) :: (.ref nu) :: (.ref pr) :: (.ref sq) :: (.ref xa) :: (.ref sa) :: (.ref n64) :: (.ref m64) :: (.ref ex) :: (.ref wh) :: (.ref sd) :: (.ref tk) :: (.int v52_55) :: (.int v53_56) :: (.int v54_57) :: (.ref hd) :: (.ref ak) :: (.ref ho) :: (.ref ot) :: []) := (hR h0 (by rw [hT_h0]; simp)).trans hF_323
      have hF_333 : F_317 sx = .inr (14, [.ref sb, .int (nI z_93)]) := (hR sx (by rw [hT_sx]; simp)).trans hF_324
      obtain ⟨hr1, hr2, hr3⟩ := hv_325
      refine lv_iload hx hb dX15_fieldsPlain_106 (lv_at hl 0 rfl) ?_
      refine lv_if_lt (tgt := 141) hx hb dX15_fieldsPlain_108 (by decide) (fun c_334 => ?_) (fun c_334 => ?_)
      ·
        refine lv_iload hx hb dX15_fieldsPlain_141 (lv_at hl 0 rfl) ?_
        refine lv_if_lt (tgt := 175) hx hb dX15_fieldsPlain_143 (by decide) (fun c_335 => ?_) (fun c_335 => absurd (c_334) c_335)
        refine lv_iload hx hb dX15_fieldsPlain_175 (lv_at hl 1 rfl) ?_
        refine lv_iconst (v := 1) hx hb dX15_fieldsPlain_177 (by decide) ?_
        refine lv_iadd hx hb dX15_fieldsPlain_178 ?_
        refine lv_topi (fun x_336 ex_336 => ?_)
        obtain rfl : x_336 = (nI (i + 1)) := ex_336.trans (nI_add i 1)
        refine lv_istore (lv' := [(4, .int (nI (i + 1))), (6, .int i1), (5, .int (nI i)), (3, .ref sb), (2, .int (nI kh)), (0, .ref h0), (1, .int (nI jf))]) hx hb dX15_fieldsPlain_179 hl (by decide) rfl (fun ls hl => ?_)
        refine lv_goto (tgt := 51) hx hb dX15_fieldsPlain_181 (by decide) ?_
        refine W.widen (k := 0) (n := 0) (by omega) (by omega) ?_
        exact ih_111 ((i + 1), zz, ft) F_317 (⟨by omega, by omega, hr2, hr3⟩) (by show 1282 - (i + 1) < 1282 - j; omega) hO hR _ _ hP hD hS ls (lv_sub hl [0, 3, 4, 5, 6] rfl)
      ·
        obtain ⟨k, hkn, rfl⟩ := dn_pos hr1 c_334
        have hok := hgO k hkn
        refine lv_aload_n hx hb dX15_fieldsPlain_111 rfl (lv_at hl 5 rfl) ?_
        refine pg_get (ci := 15) (v := .ref tk) (C := RX15) (T := TX15) (N := 59) hx hb hts it_15 hown hK hP hL_h0 hF_332 rfl 51 (by decide) (hts _ kt_929) (fun _ h9 => h9) rfl dX15_fieldsPlain_112 ?_
        refine lv_iload hx hb dX15_fieldsPlain_115 (lv_at hl 0 rfl) ?_
        refine pg_zald hx hb hK hP hi_44 2 hr3 rfl (vp_in_nI (by omega) (by omega)) dX15_fieldsPlain_117 ?_
        refine lv_topi (fun x_337 ex_337 => ?_)
        obtain rfl : x_337 = ft k := ex_337.trans (congrArg ft (show ((nI k) : Int32).toNatClampNeg = k from nI_clamp (by omega)))
        refine lv_if_ne (tgt := 135) hx hb dX15_fieldsPlain_118 (by decide) (fun c_338 => ?_) (fun c_338 => ?_)
        ·
          refine lv_iinc (v := (nI k + Int32.ofInt (-1))) (lv' := [(6, .int (nI k + Int32.ofInt (-1))), (5, .int (nI i)), (4, .int (nI j)), (3, .ref sb), (2, .int (nI kh)), (0, .ref h0), (1, .int (nI jf))]) hx hb dX15_fieldsPlain_135 hl (k := 0) rfl (rfl) (by decide) rfl (fun ls hl => ?_)
          refine lv_goto (tgt := 106) hx hb dX15_fieldsPlain_138 (by decide) ?_
          refine W.widen (k := 0) (n := 0) (by omega) (by omega) ?_
          exact ih_326 (nI k + Int32.ofInt (-1)) F_317 (⟨⟨k, by omega, dn_st k⟩, hr2, hr3⟩) (by show ((nI k + Int32.ofInt (-1)).toInt + 1).toNat < ((nI k).toInt + 1).toNat; exact dn_mu (by omega)) hO hR _ _ hP hD hS ls (lv_sub hl [0, 1, 2, 3, 4, 5, 6] rfl)
        ·
          have hft0 : ft k = 0 := c_338
          refine lv_aload_n hx hb dX15_fieldsPlain_121 rfl (lv_at hl 5 rfl) ?_
          refine lv_iload hx hb dX15_fieldsPlain_122 (lv_at hl 0 rfl) ?_
          refine lv_aload_n hx hb dX15_fieldsPlain_124 rfl (lv_at hl 3 rfl) ?_
          refine lv_iload hx hb dX15_fieldsPlain_125 (lv_at hl 2 rfl) ?_
          refine lv_iload hx hb dX15_fieldsPlain_127 (lv_at hl 1 rfl) ?_
          obtain ⟨hq_339, hq_340⟩ := hW.octs hi_38 ht_39
          have hFc := pg_free hD hS hA
          refine va_calli (va_runV (As := [.int (nI k), .ref sb, .int (nI j), .int (nI i)]) (rest := []) ⟨hx, hb, hml, hown, hts⟩ (s_X15_isAlikeTo l dC dI cs ty gm L H.size F_317 h0 ρ ta ou so ad na va lc dm tg pe ml bg co sp nb0 nb1 nb2 pl se ke wi hs mo po nu pr sq xa sa n64 m64 ex wh sd tk hd ak ho ot sx s0 s1 s2 nf bd mm zo fm sn hg gc gv ze zt sb (ρ + 12) 3000 k j i hW hL_h0 hT_h0 hi_38 ht_39 (by first | omega | assumption | exact Or.inl rfl) (by first | omega | assumption | exact Or.inl rfl) (by first | omega | assumption | exact Or.inl rfl)) ⟨callB_of 4 hts (gi kt_937) rfl rfl rfl (hts _ kt_669) (hts _ kt_938) (by decide +kernel) ⟨Nat.le_of_ble_eq_true rfl, Nat.le_of_ble_eq_true rfl⟩, (hts _ kt_939), (hts _ kt_940)⟩ ⟨fun a U g mk q => ⟨q.1, PTm.calling q.2⟩, pg_recv hK hP hL_h0 hF_332 (q := (RX15, TX15, 59)) rfl, fun U hU hWm => ⟨rfl, PTm.mk hU hWm hP hK hD hE hO⟩⟩ rfl rfl hl.1 rfl (lv_room (Nat.le_of_ble_eq_true rfl)) dX15_fieldsPlain_129 ⟨by show _ + 0 ≤ 0; omega, by show _ + 0 ≤ 0; omega⟩) hS (fun q _ h => hFc q h) hFc (fun r_341 u t H1 locs ht hvm hw hB hz1 hk1 hS => ?_)
          obtain ⟨F_342, hB1⟩ := hB
          obtain rfl : F_317 = F_342 := (funext (fun a => hB1.2.2.2 a List.not_mem_nil)).symm
          obtain ⟨hP, hD, hO, hR⟩ := QTm.back hB1 ht hFc hR (fun q h => absurd h List.not_mem_nil)
          generalize H1 = H at hP hS ⊢
          have hw : (r_341 = 0 ∨ r_341 = 1) := hw
          have hw_343 := hw
          refine lv_if_ne (tgt := 141) hx hb dX15_fieldsPlain_132 (by decide) (fun c_344 => ?_) (fun c_344 => ?_)
          ·
            refine lv_iload hx hb dX15_fieldsPlain_141 (lv_at hl 0 rfl) ?_
            refine lv_if_lt (tgt := 175) hx hb dX15_fieldsPlain_143 (by decide) (fun c_345 => absurd c_345 (nI_pos (by omega))) (fun c_345 => ?_)
            refine lv_aload_n hx hb dX15_fieldsPlain_146 rfl (lv_at hl 5 rfl) ?_
            refine pg_get (ci := 15) (v := .ref tk) (C := RX15) (T := TX15) (N := 59) hx hb hts it_15 hown hK hP hL_h0 hF_332 rfl 51 (by decide) (hts _ kt_929) (fun _ h9 => h9) rfl dX15_fieldsPlain_147 ?_
            refine lv_iload hx hb dX15_fieldsPlain_150 (lv_at hl 0 rfl) ?_
            refine lv_iconst (v := 1) hx hb dX15_fieldsPlain_152 (by decide) ?_
            refine pg_zast hx hb hK hP hD hS hi_44 2 hr3 rfl (vp_in_nI (by omega) (by omega)) dX15_fieldsPlain_153 (fun H locs hP hD hS => ?_)
            obtain ⟨F_346, he_347, hP, hD, hO, hR⟩ : ∃ G, G = va_up F_317 tk (.inl (cs 18, 20, .inl (upd ft ((nI k)).toNatClampNeg (vp_nar .boolean (1))))) ∧ va_P (dC, dI) vwCl (va_pl L G) H ∧ va_D A (va_pl L G) ∧ OKm cs ty gm L G ∧ FR ty [ρ + 10, ρ + 26] F G := ⟨_, rfl, hP, hD, hO.up (shm.bits ht_45 ⟨_, rfl⟩), hR.up ht_45 (by simp)⟩
            have hF_348 : F_346 tk = .inl (cs 18, 20, .inl (upd ft ((nI k)).toNatClampNeg (vp_nar .boolean (1)))) := by rw [he_347]; exact up_self
            have hF_349 : F_346 sb = .inl (cs 17, 3000, .inl eb) := by rw [he_347, up_ne (ne_ty ht_39 ht_45 (by simp))]; exact hF_327
            have hF_350 : F_346 s0 = .inl (cs 16, 40, .inl e0) := by rw [he_347, up_ne (ne_ty ht_33 ht_45 (by simp))]; exact hF_328
            have hF_351 : F_346 s1 = .inl (cs 16, 40, .inl e1) := by rw [he_347, up_ne (ne_ty ht_34 ht_45 (by simp))]; exact hF_329
            have hF_352 : F_346 s2 = .inl (cs 16, 40, .inl e2) := by rw [he_347, up_ne (ne_ty ht_35 ht_45 (by simp))]; exact hF_330
            have hF_353 : F_346 se = .inr (13, [.ref sx, .ref s0, .ref s1, .ref s2, .int (nI zs)]) := by rw [he_347, up_ne (ne_ty ht_29 ht_45 (by simp))]; exact hF_331
            have hF_354 : F_346 h0 = .inr (15, (.ref ta) :: (.int (nI zt)) :: (.int (nI zo)) :: (.int (nI ze)) :: (.ref ou) :: (.ref so) :: (.ref ad) :: (.ref na) :: (.ref va) :: (.ref lc) :: (.ref dm) :: (.int (nI fm)) :: (.int (nI sn)) :: (.ref tg) :: (.int v14_46) :: (.int v15_47) :: (.ref pe) :: (.int v17_48) :: (.int v18_49) :: (.int v19_50) :: (.int v20_51) :: (.int v21_52) :: (.int v22_53) :: (.ref ml) :: (.ref bg) :: (.ref co) :: (.ref sp) :: (.ref nb0) :: (.ref nb1) :: (.ref nb2) :: (.int (nI nf)) :: (.int (nI bd)) :: (.int (nI mm)) :: (.int v33_54) :: (.ref pl) :: (.ref se) :: (.ref ke) :: (.ref wi) :: (.ref hs) :: (.ref mo) :: (.ref po) :: (.ref nu) :: (.ref pr) :: (.ref sq) :: (.ref xa) :: (.ref sa) :: (.ref n64) :: (.ref m64) :: (.ref ex) :: (.ref wh) :: (.ref sd) :: (.ref tk) :: (.int v52_55) :: (.int v53_56) :: (.int v54_57) :: (.ref hd) :: (.ref ak) :: (.ref ho) :: (.ref ot) :: []) := by rw [he_347, up_ne (ne_ty hT_h0 ht_45 (by simp))]; exact hF_332
            have hF_355 : F_346 sx = .inr (14, [.ref sb, .int (nI z_93)]) := by rw [he_347, up_ne (ne_ty hT_sx ht_45 (by simp))]; exact hF_333
            have hF_356 : F_346 pl = .inr (14, [.ref rl, .int (nI zz)]) := by rw [he_347, up_ne (ne_ty hT_pl ht_45 (by simp))]; exact hr2
            obtain ⟨f_357, hF_348, hfe_358⟩ : ∃ f : Nat → Int32, F_346 tk = .inl (cs 18, 20, .inl f) ∧ f = upd ft ((nI k)).toNatClampNeg (vp_nar .boolean (1)) := ⟨_, hF_348, rfl⟩
            refine lv_aload_n hx hb dX15_fieldsPlain_154 rfl (lv_at hl 5 rfl) ?_
            refine lv_iload hx hb dX15_fieldsPlain_155 (lv_at hl 0 rfl) ?_
            refine lv_aload_n hx hb dX15_fieldsPlain_157 rfl (lv_at hl 5 rfl) ?_
            refine pg_get (ci := 15) (v := .int v52_55) (C := RX15) (T := TX15) (N := 59) hx hb hts it_15 hown hK hP hL_h0 hF_354 rfl 52 (by decide) (hts _ kt_857) (fun _ h9 => h9) rfl dX15_fieldsPlain_158 ?_
            refine lv_iconst (v := 0) hx hb dX15_fieldsPlain_161 (by decide) ?_
            refine lv_iconst (v := 0) hx hb dX15_fieldsPlain_162 (by decide) ?_
            have hFc := pg_free hD hS hA
            refine va_callv (va_runV (As := [.int (nI k), .int v52_55, .int 0, .int 0]) (rest := []) ⟨hx, hb, hml, hown, hts⟩ (s_X15_fieldPlain l dC dI cs ty gm L H.size F_346 h0 ρ ta ou so ad na va lc dm tg pe ml bg co sp nb0 nb1 nb2 pl se ke wi hs mo po nu pr sq xa sa n64 m64 ex wh sd tk hd ak ho ot sx s0 s1 s2 nf bd mm zo fm sn hg gc gv ze zt rl k zz v52_55 0 0 hW hL_h0 hT_h0 hL_pl hT_pl (by first | omega | assumption | exact Or.inl rfl) hF_356 (by first | omega | assumption | exact Or.inl rfl)) ⟨callB_of 4 hts (gi kt_933) rfl rfl rfl (hts _ kt_669) (hts _ kt_934) (by decide +kernel) ⟨Nat.le_of_ble_eq_true rfl, Nat.le_of_ble_eq_true rfl⟩, (hts _ kt_935), (hts _ kt_936)⟩ ⟨fun a U g mk q => ⟨q.1, PTm.calling q.2⟩, pg_recv hK hP hL_h0 hF_354 (q := (RX15, TX15, 59)) rfl, fun U hU hWm => ⟨rfl, PTm.mk hU hWm hP hK hD hE hO⟩⟩ rfl rfl hl.1 rfl (lv_room (Nat.le_of_ble_eq_true rfl)) dX15_fieldsPlain_163 ⟨by show _ + 0 ≤ 0; omega, by show _ + 0 ≤ 0; omega⟩) hS (fun q _ h => hFc q h) hFc (fun u t H1 locs ht hvm hw hB hz1 hk1 hS => ?_)
            obtain ⟨F_360, z2_361, hB1, hq_362, hq_363⟩ := hB
            obtain ⟨hP, hD, hO, hR⟩ := QTm.back hB1 ht hFc hR (fun q h => by simp only [List.mem_cons, List.not_mem_nil, or_false] at h ⊢; omega)
            have hF_364 : F_360 tk = .inl (cs 18, 20, .inl f_357) := (hB1.2.2.2 tk (by rw [ht_45]; simp)).trans hF_348
            have hF_365 : F_360 sb = .inl (cs 17, 3000, .inl eb) := (hB1.2.2.2 sb (by rw [ht_39]; simp)).trans hF_349
            have hF_366 : F_360 s0 = .inl (cs 16, 40, .inl e0) := (hB1.2.2.2 s0 (by rw [ht_33]; simp)).trans hF_350
            have hF_367 : F_360 s1 = .inl (cs 16, 40, .inl e1) := (hB1.2.2.2 s1 (by rw [ht_34]; simp)).trans hF_351
            have hF_368 : F_360 s2 = .inl (cs 16, 40, .inl e2) := (hB1.2.2.2 s2 (by rw [ht_35]; simp)).trans hF_352
            have hF_369 : F_360 se = .inr (13, [.ref sx, .ref s0, .ref s1, .ref s2, .int (nI zs)]) := (hB1.2.2.2 se (by rw [ht_29]; simp)).trans hF_353
            have hF_370 : F_360 h0 = .inr (15, (.ref ta) :: (.int (nI zt)) :: (.int (nI zo)) :: (.int (nI ze)) :: (.ref ou) :: (.ref so) :: (.ref ad) :: (.ref na) :: (.ref va) :: (.ref lc) :: (.ref dm) :: (.int (nI fm)) :: (.int (nI sn)) :: (.ref tg) :: (.int v14_46) :: (.int v15_47) :: (.ref pe) :: (.int v17_48) :: (.int v18_49) :: (.int v19_50) :: (.int v20_51) :: (.int v21_52) :: (.int v22_53) :: (.ref ml) :: (.ref bg) :: (.ref co) :: (.ref sp) :: (.ref nb0) :: (.ref nb1) :: (.ref nb2) :: (.int (nI nf)) :: (.int (nI bd)) :: (.int (nI mm)) :: (.int v33_54) :: (.ref pl) :: (.ref se) :: (.ref ke) :: (.ref wi) :: (.ref hs) :: (.ref mo) :: (.ref po) :: (.ref nu) :: (.ref pr) :: (.ref sq) :: (.ref xa) :: (.ref sa) :: (.ref n64) :: (.ref m64) :: (.ref ex) :: (.ref wh) :: (.ref sd) :: (.ref tk) :: (.int v52_55) :: (.int v53_56) :: (.int v54_57) :: (.ref hd) :: (.ref ak) :: (.ref ho) :: (.ref ot) :: []) := (hB1.2.2.2 h0 (by rw [hT_h0]; simp)).trans hF_354
            have hF_371 : F_360 sx = .inr (14, [.ref sb, .int (nI z_93)]) := (hB1.2.2.2 sx (by rw [hT_sx]; simp)).trans hF_355
            generalize H1 = H at hP hS ⊢
            refine lv_aload_n hx hb dX15_fieldsPlain_166 rfl (lv_at hl 5 rfl) ?_
            refine pg_get (ci := 15) (v := .ref pl) (C := RX15) (T := TX15) (N := 59) hx hb hts it_15 hown hK hP hL_h0 hF_370 rfl 34 (by decide) (hts _ kt_901) (fun _ h9 => h9) rfl dX15_fieldsPlain_167 ?_
            refine lv_bipush (v := 10) hx hb dX15_fieldsPlain_170 (by decide) ?_
            have hFc := pg_free hD hS hA
            refine va_callv (va_runV (As := [.int 10]) (rest := []) ⟨hx, hb, hml, hown, hts⟩ (s_X14_add l dC dI cs ty gm L H.size F_360 pl (ρ + 10) rl 6000 z2_361 10 hW hL_pl hT_pl hq_362 (by first | omega | assumption | exact Or.inl rfl)) ⟨callB_of 1 hts (gi kt_711) rfl rfl rfl (hts _ kt_676) (hts _ kt_712) (by decide +kernel) ⟨Nat.le_of_ble_eq_true rfl, Nat.le_of_ble_eq_true rfl⟩, (hts _ kt_713), (hts _ kt_714)⟩ ⟨fun a U g mk q => ⟨q.1, PTm.calling q.2⟩, pg_recv hK hP hL_pl hq_362 (q := (RX14, TX14, 2)) rfl, fun U hU hWm => ⟨rfl, PTm.mk hU hWm hP hK hD hE hO⟩⟩ rfl rfl hl.1 rfl (lv_room (Nat.le_of_ble_eq_true rfl)) dX15_fieldsPlain_172 ⟨by show _ + 0 ≤ 0; omega, by show _ + 0 ≤ 0; omega⟩) hS (fun q _ h => hFc q h) hFc (fun u t H1 locs ht hvm hw hB hz1 hk1 hS => ?_)
            obtain ⟨F_373, hB1, hq_374⟩ := hB
            obtain ⟨hP, hD, hO, hR⟩ := QTm.back hB1 ht hFc hR (fun q h => by simp only [List.mem_cons, List.not_mem_nil, or_false] at h ⊢; omega)
            have hF_375 : F_373 tk = .inl (cs 18, 20, .inl f_357) := (hB1.2.2.2 tk (by rw [ht_45]; simp)).trans hF_364
            have hF_376 : F_373 sb = .inl (cs 17, 3000, .inl eb) := (hB1.2.2.2 sb (by rw [ht_39]; simp)).trans hF_365
            have hF_377 : F_373 s0 = .inl (cs 16, 40, .inl e0) := (hB1.2.2.2 s0 (by rw [ht_33]; simp)).trans hF_366
            have hF_378 : F_373 s1 = .inl (cs 16, 40, .inl e1) := (hB1.2.2.2 s1 (by rw [ht_34]; simp)).trans hF_367
            have hF_379 : F_373 s2 = .inl (cs 16, 40, .inl e2) := (hB1.2.2.2 s2 (by rw [ht_35]; simp)).trans hF_368
            have hF_380 : F_373 se = .inr (13, [.ref sx, .ref s0, .ref s1, .ref s2, .int (nI zs)]) := (hB1.2.2.2 se (by rw [ht_29]; simp)).trans hF_369
            have hF_381 : F_373 h0 = .inr (15, (.ref ta) :: (.int (nI zt)) :: (.int (nI zo)) :: (.int (nI ze)) :: (.ref ou) :: (.ref so) :: (.ref ad) :: (.ref na) :: (.ref va) :: (.ref lc) :: (.ref dm) :: (.int (nI fm)) :: (.int (nI sn)) :: (.ref tg) :: (.int v14_46) :: (.int v15_47) :: (.ref pe) :: (.int v17_48) :: (.int v18_49) :: (.int v19_50) :: (.int v20_51) :: (.int v21_52) :: (.int v22_53) :: (.ref ml) :: (.ref bg) :: (.ref co) :: (.ref sp) :: (.ref nb0) :: (.ref nb1) :: (.ref nb2) :: (.int (nI nf)) :: (.int (nI bd)) :: (.int (nI mm)) :: (.int v33_54) :: (.ref pl) :: (.ref se) :: (.ref ke) :: (.ref wi) :: (.ref hs) :: (.ref mo) :: (.ref po) :: (.ref nu) :: (.ref pr) :: (.ref sq) :: (.ref xa) :: (.ref sa) :: (.ref n64) :: (.ref m64) :: (.ref ex) :: (.ref wh) :: (.ref sd) :: (.ref tk) :: (.int v52_55) :: (.int v53_56) :: (.int v54_57) :: (.ref hd) :: (.ref ak) :: (.ref ho) :: (.ref ot) :: []) := (hB1.2.2.2 h0 (by rw [hT_h0]; simp)).trans hF_370
            have hF_382 : F_373 sx = .inr (14, [.ref sb, .int (nI z_93)]) := (hB1.2.2.2 sx (by rw [hT_sx]; simp)).trans hF_371
            generalize H1 = H at hP hS ⊢
            refine lv_iload hx hb dX15_fieldsPlain_175 (lv_at hl 1 rfl) ?_
            refine lv_iconst (v := 1) hx hb dX15_fieldsPlain_177 (by decide) ?_
            refine lv_iadd hx hb dX15_fieldsPlain_178 ?_
            refine lv_topi (fun x_383 ex_383 => ?_)
            obtain rfl : x_383 = (nI (i + 1)) := ex_383.trans (nI_add i 1)
            refine lv_istore (lv' := [(4, .int (nI (i + 1))), (6, .int (nI k)), (5, .int (nI i)), (3, .ref sb), (2, .int (nI kh)), (0, .ref h0), (1, .int (nI jf))]) hx hb dX15_fieldsPlain_179 hl (by decide) rfl (fun ls hl => ?_)
            refine lv_goto (tgt := 51) hx hb dX15_fieldsPlain_181 (by decide) ?_
            refine W.widen (k := 0) (n := 0) (by omega) (by omega) ?_
            exact ih_111 ((i + 1), (z2_361 + 1), f_357) F_373 (⟨by omega, by rw [tsum_set (k := k) hkn hft0 (by rw [hfe_358, nI_clamp (by omega)]; exact upd_ne1) (fun i hi => by rw [hfe_358, nI_clamp (by omega)]; exact upd_oth hi)]; omega, hq_374, hF_375⟩) (by show 1282 - (i + 1) < 1282 - j; omega) hO hR _ _ hP hD hS ls (lv_sub hl [0, 3, 4, 5, 6] rfl)
          ·
            refine lv_iinc (v := (nI k + Int32.ofInt (-1))) (lv' := [(6, .int (nI k + Int32.ofInt (-1))), (5, .int (nI i)), (4, .int (nI j)), (3, .ref sb), (2, .int (nI kh)), (0, .ref h0), (1, .int (nI jf))]) hx hb dX15_fieldsPlain_135 hl (k := 0) rfl (rfl) (by decide) rfl (fun ls hl => ?_)
            refine lv_goto (tgt := 106) hx hb dX15_fieldsPlain_138 (by decide) ?_
            refine W.widen (k := 0) (n := 0) (by omega) (by omega) ?_
            exact ih_326 (nI k + Int32.ofInt (-1)) F_317 (⟨⟨k, by omega, dn_st k⟩, hr2, hr3⟩) (by show ((nI k + Int32.ofInt (-1)).toInt + 1).toNat < ((nI k).toInt + 1).toNat; exact dn_mu (by omega)) hO hR _ _ hP hD hS ls (lv_sub hl [0, 1, 2, 3, 4, 5, 6] rfl)
    ·
      have hi_384 : i < k_120 := ltN (N := k_120) c_314
      refine lv_aload_n hx hb dX15_fieldsPlain_83 rfl (lv_at hl 2 rfl) ?_
      refine lv_iload hx hb dX15_fieldsPlain_84 (lv_at hl 0 rfl) ?_
      obtain ⟨hq_385, hq_386⟩ := hW.octs hi_38 ht_39
      refine pg_bald hx hb hK hP hi_38 1 hF_306 rfl (vp_in_nI (by omega) (by omega)) dX15_fieldsPlain_86 ?_
      refine lv_topi (fun x_387 ex_387 => ?_)
      obtain rfl : x_387 = eb i := ex_387.trans (congrArg eb (show ((nI i) : Int32).toNatClampNeg = i from nI_clamp (by omega)))
      refine lv_bipush (v := 58) hx hb dX15_fieldsPlain_87 (by decide) ?_
      refine lv_icmp_eq (tgt := 98) hx hb dX15_fieldsPlain_89 (by decide) (fun c_388 => ?_) (fun c_388 => ?_)
      ·
        refine lv_aload_n hx hb dX15_fieldsPlain_98 rfl (lv_at hl 4 rfl) ?_
        refine pg_get (ci := 15) (v := .int (nI nf)) (C := RX15) (T := TX15) (N := 59) hx hb hts it_15 hown hK hP hL_h0 hF_311 rfl 30 (by decide) (hts _ kt_892) (fun _ h9 => h9) rfl dX15_fieldsPlain_99 ?_
        refine lv_iconst (v := 1) hx hb dX15_fieldsPlain_102 (by decide) ?_
        refine lv_isub hx hb dX15_fieldsPlain_103 ?_
        refine lv_topi (fun x_389 ex_389 => ?_)
        obtain rfl : x_389 = (nI nf - 1) := ex_389.trans (rfl)
        refine lv_istore (lv' := [(6, .int (nI nf - 1)), (5, .int (nI i)), (4, .int (nI j)), (3, .ref sb), (2, .int (nI kh)), (0, .ref h0), (1, .int (nI jf))]) hx hb dX15_fieldsPlain_104 hl (by decide) rfl (fun ls hl => ?_)
        refine W.widen (k := 0) (n := 0) (by omega) (by omega) ?_
        have hF_391 : F sb = .inl (cs 17, 3000, .inl eb) := (hR sb (by rw [ht_39]; simp)).symm.trans hF_306
        have hF_392 : F s0 = .inl (cs 16, 40, .inl e0) := (hR s0 (by rw [ht_33]; simp)).symm.trans hF_307
        have hF_393 : F s1 = .inl (cs 16, 40, .inl e1) := (hR s1 (by rw [ht_34]; simp)).symm.trans hF_308
        have hF_394 : F s2 = .inl (cs 16, 40, .inl e2) := (hR s2 (by rw [ht_35]; simp)).symm.trans hF_309
        have hF_395 : F se = .inr (13, [.ref sx, .ref s0, .ref s1, .ref s2, .int (nI zs)]) := (hR se (by rw [ht_29]; simp)).symm.trans hF_310
        have hF_396 : F h0 = .inr (15, (.ref ta) :: (.int (nI zt)) :: (.int (nI zo)) :: (.int (nI ze)) :: (.ref ou) :: (.ref so) :: (.ref ad) :: (.ref na) :: (.ref va) :: (.ref lc) :: (.ref dm) :: (.int (nI fm)) :: (.int (nI sn)) :: (.ref tg) :: (.int v14_46) :: (.int v15_47) :: (.ref pe) :: (.int v17_48) :: (.int v18_49) :: (.int v19_50) :: (.int v20_51) :: (.int v21_52) :: (.int v22_53) :: (.ref ml) :: (.ref bg) :: (.ref co) :: (.ref sp) :: (.ref nb0) :: (.ref nb1) :: (.ref nb2) :: (.int (nI nf)) :: (.int (nI bd)) :: (.int (nI mm)) :: (.int v33_54) :: (.ref pl) :: (.ref se) :: (.ref ke) :: (.ref wi) :: (.ref hs) :: (.ref mo) :: (.ref po) :: (.ref nu) :: (.ref pr) :: (.ref sq) :: (.ref xa) :: (.ref sa) :: (.ref n64) :: (.ref m64) :: (.ref ex) :: (.ref wh) :: (.ref sd) :: (.ref tk) :: (.int v52_55) :: (.int v53_56) :: (.int v54_57) :: (.ref hd) :: (.ref ak) :: (.ref ho) :: (.ref ot) :: []) := (hR h0 (by rw [hT_h0]; simp)).symm.trans hF_311
        have hF_397 : F sx = .inr (14, [.ref sb, .int (nI z_93)]) := (hR sx (by rw [hT_sx]; simp)).symm.trans hF_312
        refine pl_loopm (σ := Int32) A (dC, dI) cs ty gm L [ρ + 10, ρ + 26] F 106 11 (fun i1 => [(6, .int i1), (5, .int (nI i)), (4, .int (nI j)), (3, .ref sb), (2, .int (nI kh)), (0, .ref h0), (1, .int (nI jf))]) (fun i1 => []) (fun i1 FF => (∃ q : Nat, q ≤ nf ∧ i1 = nI q - 1) ∧ FF pl = .inr (14, [.ref rl, .int (nI zz)]) ∧ FF tk = .inl (cs 18, 20, .inl ft)) (fun i1 => (i1.toInt + 1).toNat) ?_ (nI nf - 1) F_296 (⟨⟨nf, Nat.le_refl _, rfl⟩, hq3, hq4⟩) hO hR _ _ hP hD hS ls (lv_sub hl [0, 1, 2, 3, 4, 5, 6] rfl)
        rintro i1 F_390 hv_398 hO hR ih_399 H locs hP hD hS ls hl
        have hl : lv_has ls 11 [(6, .int i1), (5, .int (nI i)), (4, .int (nI j)), (3, .ref sb), (2, .int (nI kh)), (0, .ref h0), (1, .int (nI jf))] := hl
        have hv_398 : (∃ q : Nat, q ≤ nf ∧ i1 = nI q - 1) ∧ F_390 pl = .inr (14, [.ref rl, .int (nI zz)]) ∧ F_390 tk = .inl (cs 18, 20, .inl ft) := hv_398
        refine W.eq (g2 := F0 m 106 ls []) rfl ?_
        have hF_400 : F_390 sb = .inl (cs 17, 3000, .inl eb) := (hR sb (by rw [ht_39]; simp)).trans hF_391
        have hF_401 : F_390 s0 = .inl (cs 16, 40, .inl e0) := (hR s0 (by rw [ht_33]; simp)).trans hF_392
        have hF_402 : F_390 s1 = .inl (cs 16, 40, .inl e1) := (hR s1 (by rw [ht_34]; simp)).trans hF_393
        have hF_403 : F_390 s2 = .inl (cs 16, 40, .inl e2) := (hR s2 (by rw [ht_35]; simp)).trans hF_394
        have hF_404 : F_390 se = .inr (13, [.ref sx, .ref s0, .ref s1, .ref s2, .int (nI zs)]) := (hR se (by rw [ht_29]; simp)).trans hF_395
        have hF_405 : F_390 h0 = .inr (15, (.ref ta) :: (.int (nI zt)) :: (.int (nI zo)) :: (.int (nI ze)) :: (.ref ou) :: (.ref so) :: (.ref ad) :: (.ref na) :: (.ref va) :: (.ref lc) :: (.ref dm) :: (.int (nI fm)) :: (.int (nI sn)) :: (.ref tg) :: (.int v14_46) :: (.int v15_47) :: (.ref pe) :: (.int v17_48) :: (.int v18_49) :: (.int v19_50) :: (.int v20_51) :: (.int v21_52) :: (.int v22_53) :: (.ref ml) :: (.ref bg) :: (.ref co) :: (.ref sp) :: (.ref nb0) :: (.ref nb1) :: (.ref nb2) :: (.int (nI nf)) :: (.int (nI bd)) :: (.int (nI mm)) :: (.int v33_54) :: (.ref pl) :: (.ref se) :: (.ref ke) :: (.ref wi) :: (.ref hs) :: (.ref mo) :: (.ref po) :: (.ref nu) :: (.ref pr) :: (.ref sq) :: (.ref xa) :: (.ref sa) :: (.ref n64) :: (.ref m64) :: (.ref ex) :: (.ref wh) :: (.ref sd) :: (.ref tk) :: (.int v52_55) :: (.int v53_56) :: (.int v54_57) :: (.ref hd) :: (.ref ak) :: (.ref ho) :: (.ref ot) :: []) := (hR h0 (by rw [hT_h0]; simp)).trans hF_396
        have hF_406 : F_390 sx = .inr (14, [.ref sb, .int (nI z_93)]) := (hR sx (by rw [hT_sx]; simp)).trans hF_397
        obtain ⟨hr1, hr2, hr3⟩ := hv_398
        refine lv_iload hx hb dX15_fieldsPlain_106 (lv_at hl 0 rfl) ?_
        refine lv_if_lt (tgt := 141) hx hb dX15_fieldsPlain_108 (by decide) (fun c_407 => ?_) (fun c_407 => ?_)
        ·
          refine lv_iload hx hb dX15_fieldsPlain_141 (lv_at hl 0 rfl) ?_
          refine lv_if_lt (tgt := 175) hx hb dX15_fieldsPlain_143 (by decide) (fun c_408 => ?_) (fun c_408 => absurd (c_407) c_408)
          refine lv_iload hx hb dX15_fieldsPlain_175 (lv_at hl 1 rfl) ?_
          refine lv_iconst (v := 1) hx hb dX15_fieldsPlain_177 (by decide) ?_
          refine lv_iadd hx hb dX15_fieldsPlain_178 ?_
          refine lv_topi (fun x_409 ex_409 => ?_)
          obtain rfl : x_409 = (nI (i + 1)) := ex_409.trans (nI_add i 1)
          refine lv_istore (lv' := [(4, .int (nI (i + 1))), (6, .int i1), (5, .int (nI i)), (3, .ref sb), (2, .int (nI kh)), (0, .ref h0), (1, .int (nI jf))]) hx hb dX15_fieldsPlain_179 hl (by decide) rfl (fun ls hl => ?_)
          refine lv_goto (tgt := 51) hx hb dX15_fieldsPlain_181 (by decide) ?_
          refine W.widen (k := 0) (n := 0) (by omega) (by omega) ?_
          exact ih_111 ((i + 1), zz, ft) F_390 (⟨by omega, by omega, hr2, hr3⟩) (by show 1282 - (i + 1) < 1282 - j; omega) hO hR _ _ hP hD hS ls (lv_sub hl [0, 3, 4, 5, 6] rfl)
        ·
          obtain ⟨k, hkn, rfl⟩ := dn_pos hr1 c_407
          have hok := hgO k hkn
          refine lv_aload_n hx hb dX15_fieldsPlain_111 rfl (lv_at hl 5 rfl) ?_
          refine pg_get (ci := 15) (v := .ref tk) (C := RX15) (T := TX15) (N := 59) hx hb hts it_15 hown hK hP hL_h0 hF_405 rfl 51 (by decide) (hts _ kt_929) (fun _ h9 => h9) rfl dX15_fieldsPlain_112 ?_
          refine lv_iload hx hb dX15_fieldsPlain_115 (lv_at hl 0 rfl) ?_
          refine pg_zald hx hb hK hP hi_44 2 hr3 rfl (vp_in_nI (by omega) (by omega)) dX15_fieldsPlain_117 ?_
          refine lv_topi (fun x_410 ex_410 => ?_)
          obtain rfl : x_410 = ft k := ex_410.trans (congrArg ft (show ((nI k) : Int32).toNatClampNeg = k from nI_clamp (by omega)))
          refine lv_if_ne (tgt := 135) hx hb dX15_fieldsPlain_118 (by decide) (fun c_411 => ?_) (fun c_411 => ?_)
          ·
            refine lv_iinc (v := (nI k + Int32.ofInt (-1))) (lv' := [(6, .int (nI k + Int32.ofInt (-1))), (5, .int (nI i)), (4, .int (nI j)), (3, .ref sb), (2, .int (nI kh)), (0, .ref h0), (1, .int (nI jf))]) hx hb dX15_fieldsPlain_135 hl (k := 0) rfl (rfl) (by decide) rfl (fun ls hl => ?_)
            refine lv_goto (tgt := 106) hx hb dX15_fieldsPlain_138 (by decide) ?_
            refine W.widen (k := 0) (n := 0) (by omega) (by omega) ?_
            exact ih_399 (nI k + Int32.ofInt (-1)) F_390 (⟨⟨k, by omega, dn_st k⟩, hr2, hr3⟩) (by show ((nI k + Int32.ofInt (-1)).toInt + 1).toNat < ((nI k).toInt + 1).toNat; exact dn_mu (by omega)) hO hR _ _ hP hD hS ls (lv_sub hl [0, 1, 2, 3, 4, 5, 6] rfl)
          ·
            have hft0 : ft k = 0 := c_411
            refine lv_aload_n hx hb dX15_fieldsPlain_121 rfl (lv_at hl 5 rfl) ?_
            refine lv_iload hx hb dX15_fieldsPlain_122 (lv_at hl 0 rfl) ?_
            refine lv_aload_n hx hb dX15_fieldsPlain_124 rfl (lv_at hl 3 rfl) ?_
            refine lv_iload hx hb dX15_fieldsPlain_125 (lv_at hl 2 rfl) ?_
            refine lv_iload hx hb dX15_fieldsPlain_127 (lv_at hl 1 rfl) ?_
            have hFc := pg_free hD hS hA
            refine va_calli (va_runV (As := [.int (nI k), .ref sb, .int (nI j), .int (nI i)]) (rest := []) ⟨hx, hb, hml, hown, hts⟩ (s_X15_isAlikeTo l dC dI cs ty gm L H.size F_390 h0 ρ ta ou so ad na va lc dm tg pe ml bg co sp nb0 nb1 nb2 pl se ke wi hs mo po nu pr sq xa sa n64 m64 ex wh sd tk hd ak ho ot sx s0 s1 s2 nf bd mm zo fm sn hg gc gv ze zt sb (ρ + 12) 3000 k j i hW hL_h0 hT_h0 hi_38 ht_39 (by first | omega | assumption | exact Or.inl rfl) (by first | omega | assumption | exact Or.inl rfl) (by first | omega | assumption | exact Or.inl rfl)) ⟨callB_of 4 hts (gi kt_937) rfl rfl rfl (hts _ kt_669) (hts _ kt_938) (by decide +kernel) ⟨Nat.le_of_ble_eq_true rfl, Nat.le_of_ble_eq_true rfl⟩, (hts _ kt_939), (hts _ kt_940)⟩ ⟨fun a U g mk q => ⟨q.1, PTm.calling q.2⟩, pg_recv hK hP hL_h0 hF_405 (q := (RX15, TX15, 59)) rfl, fun U hU hWm => ⟨rfl, PTm.mk hU hWm hP hK hD hE hO⟩⟩ rfl rfl hl.1 rfl (lv_room (Nat.le_of_ble_eq_true rfl)) dX15_fieldsPlain_129 ⟨by show _ + 0 ≤ 0; omega, by show _ + 0 ≤ 0; omega⟩) hS (fun q _ h => hFc q h) hFc (fun r_412 u t H1 locs ht hvm hw hB hz1 hk1 hS => ?_)
            obtain ⟨F_413, hB1⟩ := hB
            obtain rfl : F_390 = F_413 := (funext (fun a => hB1.2.2.2 a List.not_mem_nil)).symm
            obtain ⟨hP, hD, hO, hR⟩ := QTm.back hB1 ht hFc hR (fun q h => absurd h List.not_mem_nil)
            generalize H1 = H at hP hS ⊢
            have hw : (r_412 = 0 ∨ r_412 = 1) := hw
            have hw_414 := hw
            refine lv_if_ne (tgt := 141) hx hb dX15_fieldsPlain_132 (by decide) (fun c_415 => ?_) (fun c_415 => ?_)
            ·
              refine lv_iload hx hb dX15_fieldsPlain_141 (lv_at hl 0 rfl) ?_
              refine lv_if_lt (tgt := 175) hx hb dX15_fieldsPlain_143 (by decide) (fun c_416 => absurd c_416 (nI_pos (by omega))) (fun c_416 => ?_)
              refine lv_aload_n hx hb dX15_fieldsPlain_146 rfl (lv_at hl 5 rfl) ?_
              refine pg_get (ci := 15) (v := .ref tk) (C := RX15) (T := TX15) (N := 59) hx hb hts it_15 hown hK hP hL_h0 hF_405 rfl 51 (by decide) (hts _ kt_929) (fun _ h9 => h9) rfl dX15_fieldsPlain_147 ?_
              refine lv_iload hx hb dX15_fieldsPlain_150 (lv_at hl 0 rfl) ?_
              refine lv_iconst (v := 1) hx hb dX15_fieldsPlain_152 (by decide) ?_
              refine pg_zast hx hb hK hP hD hS hi_44 2 hr3 rfl (vp_in_nI (by omega) (by omega)) dX15_fieldsPlain_153 (fun H locs hP hD hS => ?_)
              obtain ⟨F_417, he_418, hP, hD, hO, hR⟩ : ∃ G, G = va_up F_390 tk (.inl (cs 18, 20, .inl (upd ft ((nI k)).toNatClampNeg (vp_nar .boolean (1))))) ∧ va_P (dC, dI) vwCl (va_pl L G) H ∧ va_D A (va_pl L G) ∧ OKm cs ty gm L G ∧ FR ty [ρ + 10, ρ + 26] F G := ⟨_, rfl, hP, hD, hO.up (shm.bits ht_45 ⟨_, rfl⟩), hR.up ht_45 (by simp)⟩
              have hF_419 : F_417 tk = .inl (cs 18, 20, .inl (upd ft ((nI k)).toNatClampNeg (vp_nar .boolean (1)))) := by rw [he_418]; exact up_self
              have hF_420 : F_417 sb = .inl (cs 17, 3000, .inl eb) := by rw [he_418, up_ne (ne_ty ht_39 ht_45 (by simp))]; exact hF_400
              have hF_421 : F_417 s0 = .inl (cs 16, 40, .inl e0) := by rw [he_418, up_ne (ne_ty ht_33 ht_45 (by simp))]; exact hF_401
              have hF_422 : F_417 s1 = .inl (cs 16, 40, .inl e1) := by rw [he_418, up_ne (ne_ty ht_34 ht_45 (by simp))]; exact hF_402
              have hF_423 : F_417 s2 = .inl (cs 16, 40, .inl e2) := by rw [he_418, up_ne (ne_ty ht_35 ht_45 (by simp))]; exact hF_403
              have hF_424 : F_417 se = .inr (13, [.ref sx, .ref s0, .ref s1, .ref s2, .int (nI zs)]) := by rw [he_418, up_ne (ne_ty ht_29 ht_45 (by simp))]; exact hF_404
              have hF_425 : F_417 h0 = .inr (15, (.ref ta) :: (.int (nI zt)) :: (.int (nI zo)) :: (.int (nI ze)) :: (.ref ou) :: (.ref so) :: (.ref ad) :: (.ref na) :: (.ref va) :: (.ref lc) :: (.ref dm) :: (.int (nI fm)) :: (.int (nI sn)) :: (.ref tg) :: (.int v14_46) :: (.int v15_47) :: (.ref pe) :: (.int v17_48) :: (.int v18_49) :: (.int v19_50) :: (.int v20_51) :: (.int v21_52) :: (.int v22_53) :: (.ref ml) :: (.ref bg) :: (.ref co) :: (.ref sp) :: (.ref nb0) :: (.ref nb1) :: (.ref nb2) :: (.int (nI nf)) :: (.int (nI bd)) :: (.int (nI mm)) :: (.int v33_54) :: (.ref pl) :: (.ref se) :: (.ref ke) :: (.ref wi) :: (.ref hs) :: (.ref mo) :: (.ref po) :: (.ref nu) :: (.ref pr) :: (.ref sq) :: (.ref xa) :: (.ref sa) :: (.ref n64) :: (.ref m64) :: (.ref ex) :: (.ref wh) :: (.ref sd) :: (.ref tk) :: (.int v52_55) :: (.int v53_56) :: (.int v54_57) :: (.ref hd) :: (.ref ak) :: (.ref ho) :: (.ref ot) :: []) := by rw [he_418, up_ne (ne_ty hT_h0 ht_45 (by simp))]; exact hF_405
              have hF_426 : F_417 sx = .inr (14, [.ref sb, .int (nI z_93)]) := by rw [he_418, up_ne (ne_ty hT_sx ht_45 (by simp))]; exact hF_406
              have hF_427 : F_417 pl = .inr (14, [.ref rl, .int (nI zz)]) := by rw [he_418, up_ne (ne_ty hT_pl ht_45 (by simp))]; exact hr2
              obtain ⟨f_428, hF_419, hfe_429⟩ : ∃ f : Nat → Int32, F_417 tk = .inl (cs 18, 20, .inl f) ∧ f = upd ft ((nI k)).toNatClampNeg (vp_nar .boolean (1)) := ⟨_, hF_419, rfl⟩
              refine lv_aload_n hx hb dX15_fieldsPlain_154 rfl (lv_at hl 5 rfl) ?_
              refine lv_iload hx hb dX15_fieldsPlain_155 (lv_at hl 0 rfl) ?_
              refine lv_aload_n hx hb dX15_fieldsPlain_157 rfl (lv_at hl 5 rfl) ?_
              refine pg_get (ci := 15) (v := .int v52_55) (C := RX15) (T := TX15) (N := 59) hx hb hts it_15 hown hK hP hL_h0 hF_425 rfl 52 (by decide) (hts _ kt_857) (fun _ h9 => h9) rfl dX15_fieldsPlain_158 ?_
              refine lv_iconst (v := 0) hx hb dX15_fieldsPlain_161 (by decide) ?_
              refine lv_iconst (v := 0) hx hb dX15_fieldsPlain_162 (by decide) ?_
              have hFc := pg_free hD hS hA
              refine va_callv (va_runV (As := [.int (nI k), .int v52_55, .int 0, .int 0]) (rest := []) ⟨hx, hb, hml, hown, hts⟩ (s_X15_fieldPlain l dC dI cs ty gm L H.size F_417 h0 ρ ta ou so ad na va lc dm tg pe ml bg co sp nb0 nb1 nb2 pl se ke wi hs mo po nu pr sq xa sa n64 m64 ex wh sd tk hd ak ho ot sx s0 s1 s2 nf bd mm zo fm sn hg gc gv ze zt rl k zz v52_55 0 0 hW hL_h0 hT_h0 hL_pl hT_pl (by first | omega | assumption | exact Or.inl rfl) hF_427 (by first | omega | assumption | exact Or.inl rfl)) ⟨callB_of 4 hts (gi kt_933) rfl rfl rfl (hts _ kt_669) (hts _ kt_934) (by decide +kernel) ⟨Nat.le_of_ble_eq_true rfl, Nat.le_of_ble_eq_true rfl⟩, (hts _ kt_935), (hts _ kt_936)⟩ ⟨fun a U g mk q => ⟨q.1, PTm.calling q.2⟩, pg_recv hK hP hL_h0 hF_425 (q := (RX15, TX15, 59)) rfl, fun U hU hWm => ⟨rfl, PTm.mk hU hWm hP hK hD hE hO⟩⟩ rfl rfl hl.1 rfl (lv_room (Nat.le_of_ble_eq_true rfl)) dX15_fieldsPlain_163 ⟨by show _ + 0 ≤ 0; omega, by show _ + 0 ≤ 0; omega⟩) hS (fun q _ h => hFc q h) hFc (fun u t H1 locs ht hvm hw hB hz1 hk1 hS => ?_)
              obtain ⟨F_431, z2_432, hB1, hq_433, hq_434⟩ := hB
              obtain ⟨hP, hD, hO, hR⟩ := QTm.back hB1 ht hFc hR (fun q h => by simp only [List.mem_cons, List.not_mem_nil, or_false] at h ⊢; omega)
              have hF_435 : F_431 tk = .inl (cs 18, 20, .inl f_428) := (hB1.2.2.2 tk (by rw [ht_45]; simp)).trans hF_419
              have hF_436 : F_431 sb = .inl (cs 17, 3000, .inl eb) := (hB1.2.2.2 sb (by rw [ht_39]; simp)).trans hF_420
              have hF_437 : F_431 s0 = .inl (cs 16, 40, .inl e0) := (hB1.2.2.2 s0 (by rw [ht_33]; simp)).trans hF_421
              have hF_438 : F_431 s1 = .inl (cs 16, 40, .inl e1) := (hB1.2.2.2 s1 (by rw [ht_34]; simp)).trans hF_422
              have hF_439 : F_431 s2 = .inl (cs 16, 40, .inl e2) := (hB1.2.2.2 s2 (by rw [ht_35]; simp)).trans hF_423
              have hF_440 : F_431 se = .inr (13, [.ref sx, .ref s0, .ref s1, .ref s2, .int (nI zs)]) := (hB1.2.2.2 se (by rw [ht_29]; simp)).trans hF_424
              have hF_441 : F_431 h0 = .inr (15, (.ref ta) :: (.int (nI zt)) :: (.int (nI zo)) :: (.int (nI ze)) :: (.ref ou) :: (.ref so) :: (.ref ad) :: (.ref na) :: (.ref va) :: (.ref lc) :: (.ref dm) :: (.int (nI fm)) :: (.int (nI sn)) :: (.ref tg) :: (.int v14_46) :: (.int v15_47) :: (.ref pe) :: (.int v17_48) :: (.int v18_49) :: (.int v19_50) :: (.int v20_51) :: (.int v21_52) :: (.int v22_53) :: (.ref ml) :: (.ref bg) :: (.ref co) :: (.ref sp) :: (.ref nb0) :: (.ref nb1) :: (.ref nb2) :: (.int (nI nf)) :: (.int (nI bd)) :: (.int (nI mm)) :: (.int v33_54) :: (.ref pl) :: (.ref se) :: (.ref ke) :: (.ref wi) :: (.ref hs) :: (.ref mo) :: (.ref po) :: (.ref nu) :: (.ref pr) :: (.ref sq) :: (.ref xa) :: (.ref sa) :: (.ref n64) :: (.ref m64) :: (.ref ex) :: (.ref wh) :: (.ref sd) :: (.ref tk) :: (.int v52_55) :: (.int v53_56) :: (.int v54_57) :: (.ref hd) :: (.ref ak) :: (.ref ho) :: (.ref ot) :: []) := (hB1.2.2.2 h0 (by rw [hT_h0]; simp)).trans hF_425
              have hF_442 : F_431 sx = .inr (14, [.ref sb, .int (nI z_93)]) := (hB1.2.2.2 sx (by rw [hT_sx]; simp)).trans hF_426
              generalize H1 = H at hP hS ⊢
              refine lv_aload_n hx hb dX15_fieldsPlain_166 rfl (lv_at hl 5 rfl) ?_
              refine pg_get (ci := 15) (v := .ref pl) (C := RX15) (T := TX15) (N := 59) hx hb hts it_15 hown hK hP hL_h0 hF_441 rfl 34 (by decide) (hts _ kt_901) (fun _ h9 => h9) rfl dX15_fieldsPlain_167 ?_
              refine lv_bipush (v := 10) hx hb dX15_fieldsPlain_170 (by decide) ?_
              have hFc := pg_free hD hS hA
              refine va_callv (va_runV (As := [.int 10]) (rest := []) ⟨hx, hb, hml, hown, hts⟩ (s_X14_add l dC dI cs ty gm L H.size F_431 pl (ρ + 10) rl 6000 z2_432 10 hW hL_pl hT_pl hq_433 (by first | omega | assumption | exact Or.inl rfl)) ⟨callB_of 1 hts (gi kt_711) rfl rfl rfl (hts _ kt_676) (hts _ kt_712) (by decide +kernel) ⟨Nat.le_of_ble_eq_true rfl, Nat.le_of_ble_eq_true rfl⟩, (hts _ kt_713), (hts _ kt_714)⟩ ⟨fun a U g mk q => ⟨q.1, PTm.calling q.2⟩, pg_recv hK hP hL_pl hq_433 (q := (RX14, TX14, 2)) rfl, fun U hU hWm => ⟨rfl, PTm.mk hU hWm hP hK hD hE hO⟩⟩ rfl rfl hl.1 rfl (lv_room (Nat.le_of_ble_eq_true rfl)) dX15_fieldsPlain_172 ⟨by show _ + 0 ≤ 0; omega, by show _ + 0 ≤ 0; omega⟩) hS (fun q _ h => hFc q h) hFc (fun u t H1 locs ht hvm hw hB hz1 hk1 hS => ?_)
              obtain ⟨F_444, hB1, hq_445⟩ := hB
              obtain ⟨hP, hD, hO, hR⟩ := QTm.back hB1 ht hFc hR (fun q h => by simp only [List.mem_cons, List.not_mem_nil, or_false] at h ⊢; omega)
              have hF_446 : F_444 tk = .inl (cs 18, 20, .inl f_428) := (hB1.2.2.2 tk (by rw [ht_45]; simp)).trans hF_435
              have hF_447 : F_444 sb = .inl (cs 17, 3000, .inl eb) := (hB1.2.2.2 sb (by rw [ht_39]; simp)).trans hF_436
              have hF_448 : F_444 s0 = .inl (cs 16, 40, .inl e0) := (hB1.2.2.2 s0 (by rw [ht_33]; simp)).trans hF_437
              have hF_449 : F_444 s1 = .inl (cs 16, 40, .inl e1) := (hB1.2.2.2 s1 (by rw [ht_34]; simp)).trans hF_438
              have hF_450 : F_444 s2 = .inl (cs 16, 40, .inl e2) := (hB1.2.2.2 s2 (by rw [ht_35]; simp)).trans hF_439
              have hF_451 : F_444 se = .inr (13, [.ref sx, .ref s0, .ref s1, .ref s2, .int (nI zs)]) := (hB1.2.2.2 se (by rw [ht_29]; simp)).trans hF_440
              have hF_452 : F_444 h0 = .inr (15, (.ref ta) :: (.int (nI zt)) :: (.int (nI zo)) :: (.int (nI ze)) :: (.ref ou) :: (.ref so) :: (.ref ad) :: (.ref na) :: (.ref va) :: (.ref lc) :: (.ref dm) :: (.int (nI fm)) :: (.int (nI sn)) :: (.ref tg) :: (.int v14_46) :: (.int v15_47) :: (.ref pe) :: (.int v17_48) :: (.int v18_49) :: (.int v19_50) :: (.int v20_51) :: (.int v21_52) :: (.int v22_53) :: (.ref ml) :: (.ref bg) :: (.ref co) :: (.ref sp) :: (.ref nb0) :: (.ref nb1) :: (.ref nb2) :: (.int (nI nf)) :: (.int (nI bd)) :: (.int (nI mm)) :: (.int v33_54) :: (.ref pl) :: (.ref se) :: (.ref ke) :: (.ref wi) :: (.ref hs) :: (.ref mo) :: (.ref po) :: (.ref nu) :: (.ref pr) :: (.ref sq) :: (.ref xa) :: (.ref sa) :: (.ref n64) :: (.ref m64) :: (.ref ex) :: (.ref wh) :: (.ref sd) :: (.ref tk) :: (.int v52_55) :: (.int v53_56) :: (.int v54_57) :: (.ref hd) :: (.ref ak) :: (.ref ho) :: (.ref ot) :: []) := (hB1.2.2.2 h0 (by rw [hT_h0]; simp)).trans hF_441
              have hF_453 : F_444 sx = .inr (14, [.ref sb, .int (nI z_93)]) := (hB1.2.2.2 sx (by rw [hT_sx]; simp)).trans hF_442
              generalize H1 = H at hP hS ⊢
              refine lv_iload hx hb dX15_fieldsPlain_175 (lv_at hl 1 rfl) ?_
              refine lv_iconst (v := 1) hx hb dX15_fieldsPlain_177 (by decide) ?_
              refine lv_iadd hx hb dX15_fieldsPlain_178 ?_
              refine lv_topi (fun x_454 ex_454 => ?_)
              obtain rfl : x_454 = (nI (i + 1)) := ex_454.trans (nI_add i 1)
              refine lv_istore (lv' := [(4, .int (nI (i + 1))), (6, .int (nI k)), (5, .int (nI i)), (3, .ref sb), (2, .int (nI kh)), (0, .ref h0), (1, .int (nI jf))]) hx hb dX15_fieldsPlain_179 hl (by decide) rfl (fun ls hl => ?_)
              refine lv_goto (tgt := 51) hx hb dX15_fieldsPlain_181 (by decide) ?_
              refine W.widen (k := 0) (n := 0) (by omega) (by omega) ?_
              exact ih_111 ((i + 1), (z2_432 + 1), f_428) F_444 (⟨by omega, by rw [tsum_set (k := k) hkn hft0 (by rw [hfe_429, nI_clamp (by omega)]; exact upd_ne1) (fun i hi => by rw [hfe_429, nI_clamp (by omega)]; exact upd_oth hi)]; omega, hq_445, hF_446⟩) (by show 1282 - (i + 1) < 1282 - j; omega) hO hR _ _ hP hD hS ls (lv_sub hl [0, 3, 4, 5, 6] rfl)
            ·
              refine lv_iinc (v := (nI k + Int32.ofInt (-1))) (lv' := [(6, .int (nI k + Int32.ofInt (-1))), (5, .int (nI i)), (4, .int (nI j)), (3, .ref sb), (2, .int (nI kh)), (0, .ref h0), (1, .int (nI jf))]) hx hb dX15_fieldsPlain_135 hl (k := 0) rfl (rfl) (by decide) rfl (fun ls hl => ?_)
              refine lv_goto (tgt := 106) hx hb dX15_fieldsPlain_138 (by decide) ?_
              refine W.widen (k := 0) (n := 0) (by omega) (by omega) ?_
              exact ih_399 (nI k + Int32.ofInt (-1)) F_390 (⟨⟨k, by omega, dn_st k⟩, hr2, hr3⟩) (by show ((nI k + Int32.ofInt (-1)).toInt + 1).toNat < ((nI k).toInt + 1).toNat; exact dn_mu (by omega)) hO hR _ _ hP hD hS ls (lv_sub hl [0, 1, 2, 3, 4, 5, 6] rfl)
      ·
        refine lv_iinc (v := (nI (i + 1))) (lv' := [(5, .int (nI (i + 1))), (4, .int (nI j)), (3, .ref sb), (2, .int (nI kh)), (0, .ref h0), (1, .int (nI jf))]) hx hb dX15_fieldsPlain_92 hl (k := 0) rfl (nI_1 _) (by decide) rfl (fun ls hl => ?_)
        refine lv_goto (tgt := 69) hx hb dX15_fieldsPlain_95 (by decide) ?_
        refine W.widen (k := 0) (n := 0) (by omega) (by omega) ?_
        exact ih_305 (i + 1) F_296 (⟨by omega, by omega, hq3, hq4⟩) (by show 1281 - (i + 1) < 1281 - i; omega) hO hR _ _ hP hD hS ls (lv_sub hl [0, 1, 2, 3, 4, 5] rfl)
