theorem dX15_fieldsPlain_0 : decode cX15_fieldsPlain 0 = .ok (.aload_n 0, 1) := by decide +kernel
theorem dX15_fieldsPlain_1 : decode cX15_fieldsPlain 1 = .ok (.getfield 91, 3) := by decide +kernel
theorem dX15_fieldsPlain_4 : decode cX15_fieldsPlain 4 = .ok (.iconst 0, 1) := by decide +kernel
theorem dX15_fieldsPlain_5 : decode cX15_fieldsPlain 5 = .ok (.putfield 190, 3) := by decide +kernel
theorem dX15_fieldsPlain_8 : decode cX15_fieldsPlain 8 = .ok (.aload_n 0, 1) := by decide +kernel
theorem dX15_fieldsPlain_9 : decode cX15_fieldsPlain 9 = .ok (.getfield 150, 3) := by decide +kernel
theorem dX15_fieldsPlain_12 : decode cX15_fieldsPlain 12 = .ok (.iconst 0, 1) := by decide +kernel
theorem dX15_fieldsPlain_13 : decode cX15_fieldsPlain 13 = .ok (.invokestatic 541, 3) := by decide +kernel
theorem dX15_fieldsPlain_16 : decode cX15_fieldsPlain 16 = .ok (.aload_n 0, 1) := by decide +kernel
theorem dX15_fieldsPlain_17 : decode cX15_fieldsPlain 17 = .ok (.getfield 97, 3) := by decide +kernel
theorem dX15_fieldsPlain_20 : decode cX15_fieldsPlain 20 = .ok (.ldc_w 486, 3) := by decide +kernel
theorem dX15_fieldsPlain_23 : decode cX15_fieldsPlain 23 = .ok (.invokevirtual 399, 3) := by decide +kernel
theorem dX15_fieldsPlain_26 : decode cX15_fieldsPlain 26 = .ok (.istore_n 2, 1) := by decide +kernel
theorem dX15_fieldsPlain_27 : decode cX15_fieldsPlain 27 = .ok (.aload_n 0, 1) := by decide +kernel
theorem dX15_fieldsPlain_28 : decode cX15_fieldsPlain 28 = .ok (.getfield 97, 3) := by decide +kernel
theorem dX15_fieldsPlain_31 : decode cX15_fieldsPlain 31 = .ok (.getfield 409, 3) := by decide +kernel
theorem dX15_fieldsPlain_34 : decode cX15_fieldsPlain 34 = .ok (.getfield 295, 3) := by decide +kernel
theorem dX15_fieldsPlain_37 : decode cX15_fieldsPlain 37 = .ok (.astore_n 3, 1) := by decide +kernel
theorem dX15_fieldsPlain_38 : decode cX15_fieldsPlain 38 = .ok (.aload_n 0, 1) := by decide +kernel
theorem dX15_fieldsPlain_39 : decode cX15_fieldsPlain 39 = .ok (.getfield 97, 3) := by decide +kernel
theorem dX15_fieldsPlain_42 : decode cX15_fieldsPlain 42 = .ok (.getfield 403, 3) := by decide +kernel
theorem dX15_fieldsPlain_45 : decode cX15_fieldsPlain 45 = .ok (.iload_n 2, 1) := by decide +kernel
theorem dX15_fieldsPlain_46 : decode cX15_fieldsPlain 46 = .ok (.iaload, 1) := by decide +kernel
theorem dX15_fieldsPlain_47 : decode cX15_fieldsPlain 47 = .ok (.iconst 1, 1) := by decide +kernel
theorem dX15_fieldsPlain_48 : decode cX15_fieldsPlain 48 = .ok (.iadd, 1) := by decide +kernel
theorem dX15_fieldsPlain_49 : decode cX15_fieldsPlain 49 = .ok (.istore 4, 2) := by decide +kernel
theorem dX15_fieldsPlain_51 : decode cX15_fieldsPlain 51 = .ok (.iload 4, 2) := by decide +kernel
theorem dX15_fieldsPlain_53 : decode cX15_fieldsPlain 53 = .ok (.aload_n 0, 1) := by decide +kernel
theorem dX15_fieldsPlain_54 : decode cX15_fieldsPlain 54 = .ok (.getfield 97, 3) := by decide +kernel
theorem dX15_fieldsPlain_57 : decode cX15_fieldsPlain 57 = .ok (.getfield 406, 3) := by decide +kernel
theorem dX15_fieldsPlain_60 : decode cX15_fieldsPlain 60 = .ok (.iload_n 2, 1) := by decide +kernel
theorem dX15_fieldsPlain_61 : decode cX15_fieldsPlain 61 = .ok (.iaload, 1) := by decide +kernel
theorem dX15_fieldsPlain_62 : decode cX15_fieldsPlain 62 = .ok (.if_icmp .gt 122, 3) := by decide +kernel
theorem dX15_fieldsPlain_65 : decode cX15_fieldsPlain 65 = .ok (.iload 4, 2) := by decide +kernel
theorem dX15_fieldsPlain_67 : decode cX15_fieldsPlain 67 = .ok (.istore 5, 2) := by decide +kernel
theorem dX15_fieldsPlain_69 : decode cX15_fieldsPlain 69 = .ok (.iload 5, 2) := by decide +kernel
theorem dX15_fieldsPlain_71 : decode cX15_fieldsPlain 71 = .ok (.aload_n 0, 1) := by decide +kernel
theorem dX15_fieldsPlain_72 : decode cX15_fieldsPlain 72 = .ok (.getfield 97, 3) := by decide +kernel
theorem dX15_fieldsPlain_75 : decode cX15_fieldsPlain 75 = .ok (.getfield 406, 3) := by decide +kernel
theorem dX15_fieldsPlain_78 : decode cX15_fieldsPlain 78 = .ok (.iload_n 2, 1) := by decide +kernel
theorem dX15_fieldsPlain_79 : decode cX15_fieldsPlain 79 = .ok (.iaload, 1) := by decide +kernel
theorem dX15_fieldsPlain_80 : decode cX15_fieldsPlain 80 = .ok (.if_icmp .ge 18, 3) := by decide +kernel
theorem dX15_fieldsPlain_83 : decode cX15_fieldsPlain 83 = .ok (.aload_n 3, 1) := by decide +kernel
theorem dX15_fieldsPlain_84 : decode cX15_fieldsPlain 84 = .ok (.iload 5, 2) := by decide +kernel
theorem dX15_fieldsPlain_86 : decode cX15_fieldsPlain 86 = .ok (.baload, 1) := by decide +kernel
theorem dX15_fieldsPlain_87 : decode cX15_fieldsPlain 87 = .ok (.bipush 58, 2) := by decide +kernel
theorem dX15_fieldsPlain_89 : decode cX15_fieldsPlain 89 = .ok (.if_icmp .eq 9, 3) := by decide +kernel
theorem dX15_fieldsPlain_92 : decode cX15_fieldsPlain 92 = .ok (.iinc 5 1, 3) := by decide +kernel
theorem dX15_fieldsPlain_95 : decode cX15_fieldsPlain 95 = .ok (.goto (-26), 3) := by decide +kernel
theorem dX15_fieldsPlain_98 : decode cX15_fieldsPlain 98 = .ok (.aload_n 0, 1) := by decide +kernel
theorem dX15_fieldsPlain_99 : decode cX15_fieldsPlain 99 = .ok (.getfield 355, 3) := by decide +kernel
theorem dX15_fieldsPlain_102 : decode cX15_fieldsPlain 102 = .ok (.iconst 1, 1) := by decide +kernel
theorem dX15_fieldsPlain_103 : decode cX15_fieldsPlain 103 = .ok (.isub, 1) := by decide +kernel
theorem dX15_fieldsPlain_104 : decode cX15_fieldsPlain 104 = .ok (.istore 6, 2) := by decide +kernel
theorem dX15_fieldsPlain_106 : decode cX15_fieldsPlain 106 = .ok (.iload 6, 2) := by decide +kernel
theorem dX15_fieldsPlain_108 : decode cX15_fieldsPlain 108 = .ok (.ifCond .lt 33, 3) := by decide +kernel
theorem dX15_fieldsPlain_111 : decode cX15_fieldsPlain 111 = .ok (.aload_n 0, 1) := by decide +kernel
theorem dX15_fieldsPlain_112 : decode cX15_fieldsPlain 112 = .ok (.getfield 150, 3) := by decide +kernel
theorem dX15_fieldsPlain_115 : decode cX15_fieldsPlain 115 = .ok (.iload 6, 2) := by decide +kernel
theorem dX15_fieldsPlain_117 : decode cX15_fieldsPlain 117 = .ok (.baload, 1) := by decide +kernel
theorem dX15_fieldsPlain_118 : decode cX15_fieldsPlain 118 = .ok (.ifCond .ne 17, 3) := by decide +kernel
theorem dX15_fieldsPlain_121 : decode cX15_fieldsPlain 121 = .ok (.aload_n 0, 1) := by decide +kernel
theorem dX15_fieldsPlain_122 : decode cX15_fieldsPlain 122 = .ok (.iload 6, 2) := by decide +kernel
theorem dX15_fieldsPlain_124 : decode cX15_fieldsPlain 124 = .ok (.aload_n 3, 1) := by decide +kernel
theorem dX15_fieldsPlain_125 : decode cX15_fieldsPlain 125 = .ok (.iload 4, 2) := by decide +kernel
theorem dX15_fieldsPlain_127 : decode cX15_fieldsPlain 127 = .ok (.iload 5, 2) := by decide +kernel
theorem dX15_fieldsPlain_129 : decode cX15_fieldsPlain 129 = .ok (.invokevirtual 544, 3) := by decide +kernel
theorem dX15_fieldsPlain_132 : decode cX15_fieldsPlain 132 = .ok (.ifCond .ne 9, 3) := by decide +kernel
theorem dX15_fieldsPlain_135 : decode cX15_fieldsPlain 135 = .ok (.iinc 6 (-1), 3) := by decide +kernel
theorem dX15_fieldsPlain_138 : decode cX15_fieldsPlain 138 = .ok (.goto (-32), 3) := by decide +kernel
theorem dX15_fieldsPlain_141 : decode cX15_fieldsPlain 141 = .ok (.iload 6, 2) := by decide +kernel
theorem dX15_fieldsPlain_143 : decode cX15_fieldsPlain 143 = .ok (.ifCond .lt 32, 3) := by decide +kernel
theorem dX15_fieldsPlain_146 : decode cX15_fieldsPlain 146 = .ok (.aload_n 0, 1) := by decide +kernel
theorem dX15_fieldsPlain_147 : decode cX15_fieldsPlain 147 = .ok (.getfield 150, 3) := by decide +kernel
theorem dX15_fieldsPlain_150 : decode cX15_fieldsPlain 150 = .ok (.iload 6, 2) := by decide +kernel
theorem dX15_fieldsPlain_152 : decode cX15_fieldsPlain 152 = .ok (.iconst 1, 1) := by decide +kernel
theorem dX15_fieldsPlain_153 : decode cX15_fieldsPlain 153 = .ok (.bastore, 1) := by decide +kernel
theorem dX15_fieldsPlain_154 : decode cX15_fieldsPlain 154 = .ok (.aload_n 0, 1) := by decide +kernel
theorem dX15_fieldsPlain_155 : decode cX15_fieldsPlain 155 = .ok (.iload 6, 2) := by decide +kernel
theorem dX15_fieldsPlain_157 : decode cX15_fieldsPlain 157 = .ok (.aload_n 0, 1) := by decide +kernel
theorem dX15_fieldsPlain_158 : decode cX15_fieldsPlain 158 = .ok (.getfield 491, 3) := by decide +kernel
theorem dX15_fieldsPlain_161 : decode cX15_fieldsPlain 161 = .ok (.iconst 0, 1) := by decide +kernel
theorem dX15_fieldsPlain_162 : decode cX15_fieldsPlain 162 = .ok (.iconst 0, 1) := by decide +kernel
theorem dX15_fieldsPlain_163 : decode cX15_fieldsPlain 163 = .ok (.invokevirtual 395, 3) := by decide +kernel
theorem dX15_fieldsPlain_166 : decode cX15_fieldsPlain 166 = .ok (.aload_n 0, 1) := by decide +kernel
theorem dX15_fieldsPlain_167 : decode cX15_fieldsPlain 167 = .ok (.getfield 91, 3) := by decide +kernel
theorem dX15_fieldsPlain_170 : decode cX15_fieldsPlain 170 = .ok (.bipush 10, 2) := by decide +kernel
theorem dX15_fieldsPlain_172 : decode cX15_fieldsPlain 172 = .ok (.invokevirtual 292, 3) := by decide +kernel
theorem dX15_fieldsPlain_175 : decode cX15_fieldsPlain 175 = .ok (.iload 5, 2) := by decide +kernel
theorem dX15_fieldsPlain_177 : decode cX15_fieldsPlain 177 = .ok (.iconst 1, 1) := by decide +kernel
theorem dX15_fieldsPlain_178 : decode cX15_fieldsPlain 178 = .ok (.iadd, 1) := by decide +kernel
theorem dX15_fieldsPlain_179 : decode cX15_fieldsPlain 179 = .ok (.istore 4, 2) := by decide +kernel
theorem dX15_fieldsPlain_181 : decode cX15_fieldsPlain 181 = .ok (.goto (-130), 3) := by decide +kernel
theorem dX15_fieldsPlain_184 : decode cX15_fieldsPlain 184 = .ok (.aload_n 0, 1) := by decide +kernel
theorem dX15_fieldsPlain_185 : decode cX15_fieldsPlain 185 = .ok (.getfield 76, 3) := by decide +kernel
theorem dX15_fieldsPlain_188 : decode cX15_fieldsPlain 188 = .ok (.iload_n 1, 1) := by decide +kernel
theorem dX15_fieldsPlain_189 : decode cX15_fieldsPlain 189 = .ok (.iaload, 1) := by decide +kernel
theorem dX15_fieldsPlain_190 : decode cX15_fieldsPlain 190 = .ok (.iconst 1, 1) := by decide +kernel
theorem dX15_fieldsPlain_191 : decode cX15_fieldsPlain 191 = .ok (.iadd, 1) := by decide +kernel
theorem dX15_fieldsPlain_192 : decode cX15_fieldsPlain 192 = .ok (.istore 4, 2) := by decide +kernel
theorem dX15_fieldsPlain_194 : decode cX15_fieldsPlain 194 = .ok (.iconst 0, 1) := by decide +kernel
theorem dX15_fieldsPlain_195 : decode cX15_fieldsPlain 195 = .ok (.istore 5, 2) := by decide +kernel
theorem dX15_fieldsPlain_197 : decode cX15_fieldsPlain 197 = .ok (.iconst 0, 1) := by decide +kernel
theorem dX15_fieldsPlain_198 : decode cX15_fieldsPlain 198 = .ok (.istore 6, 2) := by decide +kernel
theorem dX15_fieldsPlain_200 : decode cX15_fieldsPlain 200 = .ok (.aload_n 0, 1) := by decide +kernel
theorem dX15_fieldsPlain_201 : decode cX15_fieldsPlain 201 = .ok (.iload_n 1, 1) := by decide +kernel
theorem dX15_fieldsPlain_202 : decode cX15_fieldsPlain 202 = .ok (.invokevirtual 382, 3) := by decide +kernel
theorem dX15_fieldsPlain_205 : decode cX15_fieldsPlain 205 = .ok (.istore 7, 2) := by decide +kernel
theorem dX15_fieldsPlain_207 : decode cX15_fieldsPlain 207 = .ok (.iload 4, 2) := by decide +kernel
theorem dX15_fieldsPlain_209 : decode cX15_fieldsPlain 209 = .ok (.iload 7, 2) := by decide +kernel
theorem dX15_fieldsPlain_211 : decode cX15_fieldsPlain 211 = .ok (.if_icmp .ge 131, 3) := by decide +kernel
theorem dX15_fieldsPlain_214 : decode cX15_fieldsPlain 214 = .ok (.iload 4, 2) := by decide +kernel
theorem dX15_fieldsPlain_216 : decode cX15_fieldsPlain 216 = .ok (.istore 8, 2) := by decide +kernel
theorem dX15_fieldsPlain_218 : decode cX15_fieldsPlain 218 = .ok (.iload 4, 2) := by decide +kernel
theorem dX15_fieldsPlain_220 : decode cX15_fieldsPlain 220 = .ok (.istore 9, 2) := by decide +kernel
theorem dX15_fieldsPlain_222 : decode cX15_fieldsPlain 222 = .ok (.iconst 0, 1) := by decide +kernel
theorem dX15_fieldsPlain_223 : decode cX15_fieldsPlain 223 = .ok (.istore 10, 2) := by decide +kernel
theorem dX15_fieldsPlain_225 : decode cX15_fieldsPlain 225 = .ok (.iload 8, 2) := by decide +kernel
theorem dX15_fieldsPlain_227 : decode cX15_fieldsPlain 227 = .ok (.iload 7, 2) := by decide +kernel
theorem dX15_fieldsPlain_229 : decode cX15_fieldsPlain 229 = .ok (.if_icmp .ge 21, 3) := by decide +kernel
theorem dX15_fieldsPlain_232 : decode cX15_fieldsPlain 232 = .ok (.aload_n 0, 1) := by decide +kernel
theorem dX15_fieldsPlain_233 : decode cX15_fieldsPlain 233 = .ok (.getfield 70, 3) := by decide +kernel
theorem dX15_fieldsPlain_236 : decode cX15_fieldsPlain 236 = .ok (.iload 8, 2) := by decide +kernel
theorem dX15_fieldsPlain_238 : decode cX15_fieldsPlain 238 = .ok (.baload, 1) := by decide +kernel
theorem dX15_fieldsPlain_239 : decode cX15_fieldsPlain 239 = .ok (.bipush 59, 2) := by decide +kernel
theorem dX15_fieldsPlain_241 : decode cX15_fieldsPlain 241 = .ok (.if_icmp .eq 9, 3) := by decide +kernel
theorem dX15_fieldsPlain_244 : decode cX15_fieldsPlain 244 = .ok (.iinc 8 1, 3) := by decide +kernel
theorem dX15_fieldsPlain_247 : decode cX15_fieldsPlain 247 = .ok (.goto (-22), 3) := by decide +kernel
theorem dX15_fieldsPlain_250 : decode cX15_fieldsPlain 250 = .ok (.iload 9, 2) := by decide +kernel
theorem dX15_fieldsPlain_252 : decode cX15_fieldsPlain 252 = .ok (.iload 8, 2) := by decide +kernel
theorem dX15_fieldsPlain_254 : decode cX15_fieldsPlain 254 = .ok (.if_icmp .ge 62, 3) := by decide +kernel
theorem dX15_fieldsPlain_257 : decode cX15_fieldsPlain 257 = .ok (.aload_n 0, 1) := by decide +kernel
theorem dX15_fieldsPlain_258 : decode cX15_fieldsPlain 258 = .ok (.getfield 70, 3) := by decide +kernel
theorem dX15_fieldsPlain_261 : decode cX15_fieldsPlain 261 = .ok (.iload 9, 2) := by decide +kernel
theorem dX15_fieldsPlain_263 : decode cX15_fieldsPlain 263 = .ok (.baload, 1) := by decide +kernel
theorem dX15_fieldsPlain_264 : decode cX15_fieldsPlain 264 = .ok (.bipush 61, 2) := by decide +kernel
theorem dX15_fieldsPlain_266 : decode cX15_fieldsPlain 266 = .ok (.if_icmp .eq 50, 3) := by decide +kernel
theorem dX15_fieldsPlain_269 : decode cX15_fieldsPlain 269 = .ok (.aload_n 0, 1) := by decide +kernel
theorem dX15_fieldsPlain_270 : decode cX15_fieldsPlain 270 = .ok (.getfield 70, 3) := by decide +kernel
theorem dX15_fieldsPlain_273 : decode cX15_fieldsPlain 273 = .ok (.iload 9, 2) := by decide +kernel
theorem dX15_fieldsPlain_275 : decode cX15_fieldsPlain 275 = .ok (.baload, 1) := by decide +kernel
theorem dX15_fieldsPlain_276 : decode cX15_fieldsPlain 276 = .ok (.invokestatic 347, 3) := by decide +kernel
theorem dX15_fieldsPlain_279 : decode cX15_fieldsPlain 279 = .ok (.ifCond .ne 31, 3) := by decide +kernel
theorem dX15_fieldsPlain_282 : decode cX15_fieldsPlain 282 = .ok (.aload_n 0, 1) := by decide +kernel
theorem dX15_fieldsPlain_283 : decode cX15_fieldsPlain 283 = .ok (.getfield 70, 3) := by decide +kernel
theorem dX15_fieldsPlain_286 : decode cX15_fieldsPlain 286 = .ok (.iload 9, 2) := by decide +kernel
theorem dX15_fieldsPlain_288 : decode cX15_fieldsPlain 288 = .ok (.baload, 1) := by decide +kernel
theorem dX15_fieldsPlain_289 : decode cX15_fieldsPlain 289 = .ok (.bipush 10, 2) := by decide +kernel
theorem dX15_fieldsPlain_291 : decode cX15_fieldsPlain 291 = .ok (.if_icmp .eq 19, 3) := by decide +kernel
theorem dX15_fieldsPlain_294 : decode cX15_fieldsPlain 294 = .ok (.sipush 256, 3) := by decide +kernel
theorem dX15_fieldsPlain_297 : decode cX15_fieldsPlain 297 = .ok (.iload 10, 2) := by decide +kernel
theorem dX15_fieldsPlain_299 : decode cX15_fieldsPlain 299 = .ok (.imul, 1) := by decide +kernel
theorem dX15_fieldsPlain_300 : decode cX15_fieldsPlain 300 = .ok (.aload_n 0, 1) := by decide +kernel
theorem dX15_fieldsPlain_301 : decode cX15_fieldsPlain 301 = .ok (.getfield 70, 3) := by decide +kernel
theorem dX15_fieldsPlain_304 : decode cX15_fieldsPlain 304 = .ok (.iload 9, 2) := by decide +kernel
theorem dX15_fieldsPlain_306 : decode cX15_fieldsPlain 306 = .ok (.baload, 1) := by decide +kernel
theorem dX15_fieldsPlain_307 : decode cX15_fieldsPlain 307 = .ok (.iadd, 1) := by decide +kernel
theorem dX15_fieldsPlain_308 : decode cX15_fieldsPlain 308 = .ok (.istore 10, 2) := by decide +kernel
theorem dX15_fieldsPlain_310 : decode cX15_fieldsPlain 310 = .ok (.iinc 9 1, 3) := by decide +kernel
theorem dX15_fieldsPlain_313 : decode cX15_fieldsPlain 313 = .ok (.goto (-63), 3) := by decide +kernel
theorem dX15_fieldsPlain_316 : decode cX15_fieldsPlain 316 = .ok (.iload 10, 2) := by decide +kernel
theorem dX15_fieldsPlain_318 : decode cX15_fieldsPlain 318 = .ok (.bipush 98, 2) := by decide +kernel
theorem dX15_fieldsPlain_320 : decode cX15_fieldsPlain 320 = .ok (.if_icmp .ne 13, 3) := by decide +kernel
theorem dX15_fieldsPlain_323 : decode cX15_fieldsPlain 323 = .ok (.iload 9, 2) := by decide +kernel
theorem dX15_fieldsPlain_325 : decode cX15_fieldsPlain 325 = .ok (.iconst 1, 1) := by decide +kernel
theorem dX15_fieldsPlain_326 : decode cX15_fieldsPlain 326 = .ok (.iadd, 1) := by decide +kernel
theorem dX15_fieldsPlain_327 : decode cX15_fieldsPlain 327 = .ok (.istore 5, 2) := by decide +kernel
theorem dX15_fieldsPlain_329 : decode cX15_fieldsPlain 329 = .ok (.iload 8, 2) := by decide +kernel
theorem dX15_fieldsPlain_331 : decode cX15_fieldsPlain 331 = .ok (.istore 6, 2) := by decide +kernel
theorem dX15_fieldsPlain_333 : decode cX15_fieldsPlain 333 = .ok (.iload 8, 2) := by decide +kernel
theorem dX15_fieldsPlain_335 : decode cX15_fieldsPlain 335 = .ok (.iconst 1, 1) := by decide +kernel
theorem dX15_fieldsPlain_336 : decode cX15_fieldsPlain 336 = .ok (.iadd, 1) := by decide +kernel
theorem dX15_fieldsPlain_337 : decode cX15_fieldsPlain 337 = .ok (.istore 4, 2) := by decide +kernel
theorem dX15_fieldsPlain_339 : decode cX15_fieldsPlain 339 = .ok (.goto (-132), 3) := by decide +kernel
theorem dX15_fieldsPlain_342 : decode cX15_fieldsPlain 342 = .ok (.aload_n 0, 1) := by decide +kernel
theorem dX15_fieldsPlain_343 : decode cX15_fieldsPlain 343 = .ok (.iload_n 1, 1) := by decide +kernel
theorem dX15_fieldsPlain_344 : decode cX15_fieldsPlain 344 = .ok (.aload_n 0, 1) := by decide +kernel
theorem dX15_fieldsPlain_345 : decode cX15_fieldsPlain 345 = .ok (.getfield 491, 3) := by decide +kernel
theorem dX15_fieldsPlain_348 : decode cX15_fieldsPlain 348 = .ok (.iload 5, 2) := by decide +kernel
theorem dX15_fieldsPlain_350 : decode cX15_fieldsPlain 350 = .ok (.iload 6, 2) := by decide +kernel
theorem dX15_fieldsPlain_352 : decode cX15_fieldsPlain 352 = .ok (.invokevirtual 395, 3) := by decide +kernel
theorem dX15_fieldsPlain_355 : decode cX15_fieldsPlain 355 = .ok (.return_, 1) := by decide +kernel
theorem dX15_isAlikeTo_0 : decode cX15_isAlikeTo 0 = .ok (.aload_n 0, 1) := by decide +kernel
theorem dX15_isAlikeTo_1 : decode cX15_isAlikeTo 1 = .ok (.getfield 76, 3) := by decide +kernel
theorem dX15_isAlikeTo_4 : decode cX15_isAlikeTo 4 = .ok (.iload_n 1, 1) := by decide +kernel
theorem dX15_isAlikeTo_5 : decode cX15_isAlikeTo 5 = .ok (.iaload, 1) := by decide +kernel
theorem dX15_isAlikeTo_6 : decode cX15_isAlikeTo 6 = .ok (.aload_n 0, 1) := by decide +kernel
theorem dX15_isAlikeTo_7 : decode cX15_isAlikeTo 7 = .ok (.getfield 73, 3) := by decide +kernel
theorem dX15_isAlikeTo_10 : decode cX15_isAlikeTo 10 = .ok (.iload_n 1, 1) := by decide +kernel
theorem dX15_isAlikeTo_11 : decode cX15_isAlikeTo 11 = .ok (.iaload, 1) := by decide +kernel
theorem dX15_isAlikeTo_12 : decode cX15_isAlikeTo 12 = .ok (.isub, 1) := by decide +kernel
theorem dX15_isAlikeTo_13 : decode cX15_isAlikeTo 13 = .ok (.iload 4, 2) := by decide +kernel
theorem dX15_isAlikeTo_15 : decode cX15_isAlikeTo 15 = .ok (.iload_n 3, 1) := by decide +kernel
theorem dX15_isAlikeTo_16 : decode cX15_isAlikeTo 16 = .ok (.isub, 1) := by decide +kernel
theorem dX15_isAlikeTo_17 : decode cX15_isAlikeTo 17 = .ok (.if_icmp .eq 5, 3) := by decide +kernel
theorem dX15_isAlikeTo_20 : decode cX15_isAlikeTo 20 = .ok (.iconst 0, 1) := by decide +kernel
theorem dX15_isAlikeTo_21 : decode cX15_isAlikeTo 21 = .ok (.ireturn, 1) := by decide +kernel
theorem dX15_isAlikeTo_22 : decode cX15_isAlikeTo 22 = .ok (.iconst 0, 1) := by decide +kernel
theorem dX15_isAlikeTo_23 : decode cX15_isAlikeTo 23 = .ok (.istore 5, 2) := by decide +kernel
theorem dX15_isAlikeTo_25 : decode cX15_isAlikeTo 25 = .ok (.iload 5, 2) := by decide +kernel
theorem dX15_isAlikeTo_27 : decode cX15_isAlikeTo 27 = .ok (.iload 4, 2) := by decide +kernel
theorem dX15_isAlikeTo_29 : decode cX15_isAlikeTo 29 = .ok (.iload_n 3, 1) := by decide +kernel
theorem dX15_isAlikeTo_30 : decode cX15_isAlikeTo 30 = .ok (.isub, 1) := by decide +kernel
theorem dX15_isAlikeTo_31 : decode cX15_isAlikeTo 31 = .ok (.if_icmp .ge 40, 3) := by decide +kernel
theorem dX15_isAlikeTo_34 : decode cX15_isAlikeTo 34 = .ok (.aload_n 0, 1) := by decide +kernel
theorem dX15_isAlikeTo_35 : decode cX15_isAlikeTo 35 = .ok (.getfield 70, 3) := by decide +kernel
theorem dX15_isAlikeTo_38 : decode cX15_isAlikeTo 38 = .ok (.aload_n 0, 1) := by decide +kernel
theorem dX15_isAlikeTo_39 : decode cX15_isAlikeTo 39 = .ok (.getfield 73, 3) := by decide +kernel
theorem dX15_isAlikeTo_42 : decode cX15_isAlikeTo 42 = .ok (.iload_n 1, 1) := by decide +kernel
theorem dX15_isAlikeTo_43 : decode cX15_isAlikeTo 43 = .ok (.iaload, 1) := by decide +kernel
theorem dX15_isAlikeTo_44 : decode cX15_isAlikeTo 44 = .ok (.iload 5, 2) := by decide +kernel
theorem dX15_isAlikeTo_46 : decode cX15_isAlikeTo 46 = .ok (.iadd, 1) := by decide +kernel
theorem dX15_isAlikeTo_47 : decode cX15_isAlikeTo 47 = .ok (.baload, 1) := by decide +kernel
theorem dX15_isAlikeTo_48 : decode cX15_isAlikeTo 48 = .ok (.invokestatic 21, 3) := by decide +kernel
theorem dX15_isAlikeTo_51 : decode cX15_isAlikeTo 51 = .ok (.aload_n 2, 1) := by decide +kernel
theorem dX15_isAlikeTo_52 : decode cX15_isAlikeTo 52 = .ok (.iload_n 3, 1) := by decide +kernel
theorem dX15_isAlikeTo_53 : decode cX15_isAlikeTo 53 = .ok (.iload 5, 2) := by decide +kernel
theorem dX15_isAlikeTo_55 : decode cX15_isAlikeTo 55 = .ok (.iadd, 1) := by decide +kernel
theorem dX15_isAlikeTo_56 : decode cX15_isAlikeTo 56 = .ok (.baload, 1) := by decide +kernel
theorem dX15_isAlikeTo_57 : decode cX15_isAlikeTo 57 = .ok (.invokestatic 21, 3) := by decide +kernel
theorem dX15_isAlikeTo_60 : decode cX15_isAlikeTo 60 = .ok (.if_icmp .eq 5, 3) := by decide +kernel
theorem dX15_isAlikeTo_63 : decode cX15_isAlikeTo 63 = .ok (.iconst 0, 1) := by decide +kernel
theorem dX15_isAlikeTo_64 : decode cX15_isAlikeTo 64 = .ok (.ireturn, 1) := by decide +kernel
theorem dX15_isAlikeTo_65 : decode cX15_isAlikeTo 65 = .ok (.iinc 5 1, 3) := by decide +kernel
theorem dX15_isAlikeTo_68 : decode cX15_isAlikeTo 68 = .ok (.goto (-43), 3) := by decide +kernel
theorem dX15_isAlikeTo_71 : decode cX15_isAlikeTo 71 = .ok (.iconst 1, 1) := by decide +kernel
theorem dX15_isAlikeTo_72 : decode cX15_isAlikeTo 72 = .ok (.ireturn, 1) := by decide +kernel
theorem dX15_isPower_0 : decode cX15_isPower 0 = .ok (.aload_n 0, 1) := by decide +kernel
theorem dX15_isPower_1 : decode cX15_isPower 1 = .ok (.getfield 138, 3) := by decide +kernel
theorem dX15_isPower_4 : decode cX15_isPower 4 = .ok (.aload_n 0, 1) := by decide +kernel
theorem dX15_isPower_5 : decode cX15_isPower 5 = .ok (.getfield 114, 3) := by decide +kernel
theorem dX15_isPower_8 : decode cX15_isPower 8 = .ok (.invokestatic 548, 3) := by decide +kernel
theorem dX15_isPower_11 : decode cX15_isPower 11 = .ok (.aload_n 0, 1) := by decide +kernel
theorem dX15_isPower_12 : decode cX15_isPower 12 = .ok (.getfield 135, 3) := by decide +kernel
theorem dX15_isPower_15 : decode cX15_isPower 15 = .ok (.aload_n 0, 1) := by decide +kernel
theorem dX15_isPower_16 : decode cX15_isPower 16 = .ok (.getfield 120, 3) := by decide +kernel
theorem dX15_isPower_19 : decode cX15_isPower 19 = .ok (.invokestatic 548, 3) := by decide +kernel
theorem dX15_isPower_22 : decode cX15_isPower 22 = .ok (.aload_n 0, 1) := by decide +kernel
theorem dX15_isPower_23 : decode cX15_isPower 23 = .ok (.aload_n 0, 1) := by decide +kernel
theorem dX15_isPower_24 : decode cX15_isPower 24 = .ok (.getfield 120, 3) := by decide +kernel
theorem dX15_isPower_27 : decode cX15_isPower 27 = .ok (.bipush 32, 2) := by decide +kernel
theorem dX15_isPower_29 : decode cX15_isPower 29 = .ok (.aload_n 0, 1) := by decide +kernel
theorem dX15_isPower_30 : decode cX15_isPower 30 = .ok (.getfield 117, 3) := by decide +kernel
theorem dX15_isPower_33 : decode cX15_isPower 33 = .ok (.invokevirtual 437, 3) := by decide +kernel
theorem dX15_isPower_36 : decode cX15_isPower 36 = .ok (.aload_n 0, 1) := by decide +kernel
theorem dX15_isPower_37 : decode cX15_isPower 37 = .ok (.getfield 117, 3) := by decide +kernel
theorem dX15_isPower_40 : decode cX15_isPower 40 = .ok (.iconst 0, 1) := by decide +kernel
theorem dX15_isPower_41 : decode cX15_isPower 41 = .ok (.aload_n 0, 1) := by decide +kernel
theorem dX15_isPower_42 : decode cX15_isPower 42 = .ok (.getfield 120, 3) := by decide +kernel
theorem dX15_isPower_45 : decode cX15_isPower 45 = .ok (.iconst 0, 1) := by decide +kernel
theorem dX15_isPower_46 : decode cX15_isPower 46 = .ok (.bipush 33, 2) := by decide +kernel
theorem dX15_isPower_48 : decode cX15_isPower 48 = .ok (.invokestatic 358, 3) := by decide +kernel
theorem dX15_isPower_51 : decode cX15_isPower 51 = .ok (.iconst 0, 1) := by decide +kernel
theorem dX15_isPower_52 : decode cX15_isPower 52 = .ok (.istore_n 1, 1) := by decide +kernel
theorem dX15_isPower_53 : decode cX15_isPower 53 = .ok (.iload_n 1, 1) := by decide +kernel
theorem dX15_isPower_54 : decode cX15_isPower 54 = .ok (.bipush 16, 2) := by decide +kernel
theorem dX15_isPower_56 : decode cX15_isPower 56 = .ok (.if_icmp .ge 32, 3) := by decide +kernel
theorem dX15_isPower_59 : decode cX15_isPower 59 = .ok (.aload_n 0, 1) := by decide +kernel
theorem dX15_isPower_60 : decode cX15_isPower 60 = .ok (.getfield 117, 3) := by decide +kernel
theorem dX15_isPower_63 : decode cX15_isPower 63 = .ok (.iconst 0, 1) := by decide +kernel
theorem dX15_isPower_64 : decode cX15_isPower 64 = .ok (.aload_n 0, 1) := by decide +kernel
theorem dX15_isPower_65 : decode cX15_isPower 65 = .ok (.getfield 126, 3) := by decide +kernel
theorem dX15_isPower_68 : decode cX15_isPower 68 = .ok (.iconst 0, 1) := by decide +kernel
theorem dX15_isPower_69 : decode cX15_isPower 69 = .ok (.bipush 33, 2) := by decide +kernel
theorem dX15_isPower_71 : decode cX15_isPower 71 = .ok (.invokestatic 358, 3) := by decide +kernel
theorem dX15_isPower_74 : decode cX15_isPower 74 = .ok (.aload_n 0, 1) := by decide +kernel
theorem dX15_isPower_75 : decode cX15_isPower 75 = .ok (.aload_n 0, 1) := by decide +kernel
theorem dX15_isPower_76 : decode cX15_isPower 76 = .ok (.getfield 126, 3) := by decide +kernel
theorem dX15_isPower_79 : decode cX15_isPower 79 = .ok (.invokevirtual 552, 3) := by decide +kernel
theorem dX15_isPower_82 : decode cX15_isPower 82 = .ok (.iinc 1 1, 3) := by decide +kernel
theorem dX15_isPower_85 : decode cX15_isPower 85 = .ok (.goto (-32), 3) := by decide +kernel
theorem dX15_isPower_88 : decode cX15_isPower 88 = .ok (.aload_n 0, 1) := by decide +kernel
theorem dX15_isPower_89 : decode cX15_isPower 89 = .ok (.aload_n 0, 1) := by decide +kernel
theorem dX15_isPower_90 : decode cX15_isPower 90 = .ok (.getfield 120, 3) := by decide +kernel
theorem dX15_isPower_93 : decode cX15_isPower 93 = .ok (.invokevirtual 552, 3) := by decide +kernel
theorem dX15_isPower_96 : decode cX15_isPower 96 = .ok (.aload_n 0, 1) := by decide +kernel
theorem dX15_isPower_97 : decode cX15_isPower 97 = .ok (.getfield 141, 3) := by decide +kernel
theorem dX15_isPower_100 : decode cX15_isPower 100 = .ok (.iconst (-1), 1) := by decide +kernel
theorem dX15_isPower_101 : decode cX15_isPower 101 = .ok (.invokestatic 556, 3) := by decide +kernel
theorem dX15_isPower_104 : decode cX15_isPower 104 = .ok (.aload_n 0, 1) := by decide +kernel
theorem dX15_isPower_105 : decode cX15_isPower 105 = .ok (.getfield 141, 3) := by decide +kernel
theorem dX15_isPower_108 : decode cX15_isPower 108 = .ok (.iconst 0, 1) := by decide +kernel
theorem dX15_isPower_109 : decode cX15_isPower 109 = .ok (.iconst 0, 1) := by decide +kernel
theorem dX15_isPower_110 : decode cX15_isPower 110 = .ok (.bastore, 1) := by decide +kernel
theorem dX15_isPower_111 : decode cX15_isPower 111 = .ok (.aload_n 0, 1) := by decide +kernel
theorem dX15_isPower_112 : decode cX15_isPower 112 = .ok (.getfield 141, 3) := by decide +kernel
theorem dX15_isPower_115 : decode cX15_isPower 115 = .ok (.iconst 1, 1) := by decide +kernel
theorem dX15_isPower_116 : decode cX15_isPower 116 = .ok (.iconst 1, 1) := by decide +kernel
theorem dX15_isPower_117 : decode cX15_isPower 117 = .ok (.bastore, 1) := by decide +kernel
theorem dX15_isPower_118 : decode cX15_isPower 118 = .ok (.aload_n 0, 1) := by decide +kernel
theorem dX15_isPower_119 : decode cX15_isPower 119 = .ok (.getfield 141, 3) := by decide +kernel
theorem dX15_isPower_122 : decode cX15_isPower 122 = .ok (.bipush 12, 2) := by decide +kernel
theorem dX15_isPower_124 : decode cX15_isPower 124 = .ok (.iconst 0, 1) := by decide +kernel
theorem dX15_isPower_125 : decode cX15_isPower 125 = .ok (.bastore, 1) := by decide +kernel
theorem dX15_isPower_126 : decode cX15_isPower 126 = .ok (.iconst 0, 1) := by decide +kernel
theorem dX15_isPower_127 : decode cX15_isPower 127 = .ok (.istore_n 1, 1) := by decide +kernel
theorem dX15_isPower_128 : decode cX15_isPower 128 = .ok (.iload_n 1, 1) := by decide +kernel
theorem dX15_isPower_129 : decode cX15_isPower 129 = .ok (.bipush 19, 2) := by decide +kernel
theorem dX15_isPower_131 : decode cX15_isPower 131 = .ok (.if_icmp .ge 25, 3) := by decide +kernel
theorem dX15_isPower_134 : decode cX15_isPower 134 = .ok (.aload_n 0, 1) := by decide +kernel
theorem dX15_isPower_135 : decode cX15_isPower 135 = .ok (.getfield 141, 3) := by decide +kernel
theorem dX15_isPower_138 : decode cX15_isPower 138 = .ok (.bipush 13, 2) := by decide +kernel
theorem dX15_isPower_140 : decode cX15_isPower 140 = .ok (.iload_n 1, 1) := by decide +kernel
theorem dX15_isPower_141 : decode cX15_isPower 141 = .ok (.iadd, 1) := by decide +kernel
theorem dX15_isPower_142 : decode cX15_isPower 142 = .ok (.aload_n 0, 1) := by decide +kernel
theorem dX15_isPower_143 : decode cX15_isPower 143 = .ok (.getfield 154, 3) := by decide +kernel
theorem dX15_isPower_146 : decode cX15_isPower 146 = .ok (.iload_n 1, 1) := by decide +kernel
theorem dX15_isPower_147 : decode cX15_isPower 147 = .ok (.iaload, 1) := by decide +kernel
theorem dX15_isPower_148 : decode cX15_isPower 148 = .ok (.i2b, 1) := by decide +kernel
theorem dX15_isPower_149 : decode cX15_isPower 149 = .ok (.bastore, 1) := by decide +kernel
theorem dX15_isPower_150 : decode cX15_isPower 150 = .ok (.iinc 1 1, 3) := by decide +kernel
theorem dX15_isPower_153 : decode cX15_isPower 153 = .ok (.goto (-25), 3) := by decide +kernel
theorem dX15_isPower_156 : decode cX15_isPower 156 = .ok (.aload_n 0, 1) := by decide +kernel
theorem dX15_isPower_157 : decode cX15_isPower 157 = .ok (.getfield 129, 3) := by decide +kernel
theorem dX15_isPower_160 : decode cX15_isPower 160 = .ok (.iconst 0, 1) := by decide +kernel
theorem dX15_isPower_161 : decode cX15_isPower 161 = .ok (.aload_n 0, 1) := by decide +kernel
theorem dX15_isPower_162 : decode cX15_isPower 162 = .ok (.getfield 141, 3) := by decide +kernel
theorem dX15_isPower_165 : decode cX15_isPower 165 = .ok (.bipush 32, 2) := by decide +kernel
theorem dX15_isPower_167 : decode cX15_isPower 167 = .ok (.bipush 32, 2) := by decide +kernel
theorem dX15_isPower_169 : decode cX15_isPower 169 = .ok (.invokestatic 358, 3) := by decide +kernel
theorem dX15_isPower_172 : decode cX15_isPower 172 = .ok (.aload_n 0, 1) := by decide +kernel
theorem dX15_isPower_173 : decode cX15_isPower 173 = .ok (.getfield 141, 3) := by decide +kernel
theorem dX15_isPower_176 : decode cX15_isPower 176 = .ok (.aload_n 0, 1) := by decide +kernel
theorem dX15_isPower_177 : decode cX15_isPower 177 = .ok (.getfield 126, 3) := by decide +kernel
theorem dX15_isPower_180 : decode cX15_isPower 180 = .ok (.invokestatic 548, 3) := by decide +kernel
theorem dX15_isPower_183 : decode cX15_isPower 183 = .ok (.iconst 1, 1) := by decide +kernel
theorem dX15_isPower_184 : decode cX15_isPower 184 = .ok (.istore_n 1, 1) := by decide +kernel
theorem dX15_isPower_185 : decode cX15_isPower 185 = .ok (.iconst 0, 1) := by decide +kernel
theorem dX15_isPower_186 : decode cX15_isPower 186 = .ok (.istore_n 2, 1) := by decide +kernel
theorem dX15_isPower_187 : decode cX15_isPower 187 = .ok (.iload_n 2, 1) := by decide +kernel
theorem dX15_isPower_188 : decode cX15_isPower 188 = .ok (.bipush 33, 2) := by decide +kernel
theorem dX15_isPower_190 : decode cX15_isPower 190 = .ok (.if_icmp .ge 32, 3) := by decide +kernel
theorem dX15_isPower_193 : decode cX15_isPower 193 = .ok (.iload_n 1, 1) := by decide +kernel
theorem dX15_isPower_194 : decode cX15_isPower 194 = .ok (.aload_n 0, 1) := by decide +kernel
theorem dX15_isPower_195 : decode cX15_isPower 195 = .ok (.getfield 126, 3) := by decide +kernel
theorem dX15_isPower_198 : decode cX15_isPower 198 = .ok (.iload_n 2, 1) := by decide +kernel
theorem dX15_isPower_199 : decode cX15_isPower 199 = .ok (.iaload, 1) := by decide +kernel
theorem dX15_isPower_200 : decode cX15_isPower 200 = .ok (.aload_n 0, 1) := by decide +kernel
theorem dX15_isPower_201 : decode cX15_isPower 201 = .ok (.getfield 117, 3) := by decide +kernel
theorem dX15_isPower_204 : decode cX15_isPower 204 = .ok (.iload_n 2, 1) := by decide +kernel
theorem dX15_isPower_205 : decode cX15_isPower 205 = .ok (.iaload, 1) := by decide +kernel
theorem dX15_isPower_206 : decode cX15_isPower 206 = .ok (.if_icmp .ne 7, 3) := by decide +kernel
theorem dX15_isPower_209 : decode cX15_isPower 209 = .ok (.iconst 1, 1) := by decide +kernel
theorem dX15_isPower_210 : decode cX15_isPower 210 = .ok (.goto 4, 3) := by decide +kernel
theorem dX15_isPower_213 : decode cX15_isPower 213 = .ok (.iconst 0, 1) := by decide +kernel
theorem dX15_isPower_214 : decode cX15_isPower 214 = .ok (.iand, 1) := by decide +kernel
theorem dX15_isPower_215 : decode cX15_isPower 215 = .ok (.istore_n 1, 1) := by decide +kernel
theorem dX15_isPower_216 : decode cX15_isPower 216 = .ok (.iinc 2 1, 3) := by decide +kernel
theorem dX15_isPower_219 : decode cX15_isPower 219 = .ok (.goto (-32), 3) := by decide +kernel
theorem dX15_isPower_222 : decode cX15_isPower 222 = .ok (.iload_n 1, 1) := by decide +kernel
theorem dX15_isPower_223 : decode cX15_isPower 223 = .ok (.ireturn, 1) := by decide +kernel
theorem dX15_keyOf_0 : decode cX15_keyOf 0 = .ok (.aload_n 0, 1) := by decide +kernel
theorem dX15_keyOf_1 : decode cX15_keyOf 1 = .ok (.aload_n 0, 1) := by decide +kernel
theorem dX15_keyOf_2 : decode cX15_keyOf 2 = .ok (.getfield 144, 3) := by decide +kernel
theorem dX15_keyOf_5 : decode cX15_keyOf 5 = .ok (.invokevirtual 308, 3) := by decide +kernel
theorem dX15_keyOf_8 : decode cX15_keyOf 8 = .ok (.ifCond .eq 5, 3) := by decide +kernel
theorem dX15_keyOf_11 : decode cX15_keyOf 11 = .ok (.iconst 5, 1) := by decide +kernel
theorem dX15_keyOf_12 : decode cX15_keyOf 12 = .ok (.ireturn, 1) := by decide +kernel
theorem dX15_keyOf_13 : decode cX15_keyOf 13 = .ok (.iconst 0, 1) := by decide +kernel
theorem dX15_keyOf_14 : decode cX15_keyOf 14 = .ok (.istore_n 1, 1) := by decide +kernel
theorem dX15_keyOf_15 : decode cX15_keyOf 15 = .ok (.iload_n 1, 1) := by decide +kernel
theorem dX15_keyOf_16 : decode cX15_keyOf 16 = .ok (.aload_n 0, 1) := by decide +kernel
theorem dX15_keyOf_17 : decode cX15_keyOf 17 = .ok (.getfield 177, 3) := by decide +kernel
theorem dX15_keyOf_20 : decode cX15_keyOf 20 = .ok (.if_icmp .ge 22, 3) := by decide +kernel
theorem dX15_keyOf_23 : decode cX15_keyOf 23 = .ok (.aload_n 0, 1) := by decide +kernel
theorem dX15_keyOf_24 : decode cX15_keyOf 24 = .ok (.iload_n 1, 1) := by decide +kernel
theorem dX15_keyOf_25 : decode cX15_keyOf 25 = .ok (.iconst 0, 1) := by decide +kernel
theorem dX15_keyOf_26 : decode cX15_keyOf 26 = .ok (.aload_n 0, 1) := by decide +kernel
theorem dX15_keyOf_27 : decode cX15_keyOf 27 = .ok (.getfield 144, 3) := by decide +kernel
theorem dX15_keyOf_30 : decode cX15_keyOf 30 = .ok (.invokevirtual 196, 3) := by decide +kernel
theorem dX15_keyOf_33 : decode cX15_keyOf 33 = .ok (.ifCond .ne 9, 3) := by decide +kernel
theorem dX15_keyOf_36 : decode cX15_keyOf 36 = .ok (.iinc 1 1, 3) := by decide +kernel
theorem dX15_keyOf_39 : decode cX15_keyOf 39 = .ok (.goto (-24), 3) := by decide +kernel
theorem dX15_keyOf_42 : decode cX15_keyOf 42 = .ok (.iload_n 1, 1) := by decide +kernel
theorem dX15_keyOf_43 : decode cX15_keyOf 43 = .ok (.aload_n 0, 1) := by decide +kernel
theorem dX15_keyOf_44 : decode cX15_keyOf 44 = .ok (.getfield 177, 3) := by decide +kernel
theorem dX15_keyOf_47 : decode cX15_keyOf 47 = .ok (.if_icmp .ne 6, 3) := by decide +kernel
theorem dX15_keyOf_50 : decode cX15_keyOf 50 = .ok (.bipush 6, 2) := by decide +kernel
theorem dX15_keyOf_52 : decode cX15_keyOf 52 = .ok (.ireturn, 1) := by decide +kernel
theorem dX15_keyOf_53 : decode cX15_keyOf 53 = .ok (.aload_n 0, 1) := by decide +kernel
theorem dX15_keyOf_54 : decode cX15_keyOf 54 = .ok (.getfield 51, 3) := by decide +kernel
theorem dX15_keyOf_57 : decode cX15_keyOf 57 = .ok (.iload_n 1, 1) := by decide +kernel
theorem dX15_keyOf_58 : decode cX15_keyOf 58 = .ok (.aaload, 1) := by decide +kernel
theorem dX15_keyOf_59 : decode cX15_keyOf 59 = .ok (.getfield 295, 3) := by decide +kernel
theorem dX15_keyOf_62 : decode cX15_keyOf 62 = .ok (.iconst 0, 1) := by decide +kernel
theorem dX15_keyOf_63 : decode cX15_keyOf 63 = .ok (.aload_n 0, 1) := by decide +kernel
theorem dX15_keyOf_64 : decode cX15_keyOf 64 = .ok (.getfield 51, 3) := by decide +kernel
theorem dX15_keyOf_67 : decode cX15_keyOf 67 = .ok (.iload_n 1, 1) := by decide +kernel
theorem dX15_keyOf_68 : decode cX15_keyOf 68 = .ok (.aaload, 1) := by decide +kernel
theorem dX15_keyOf_69 : decode cX15_keyOf 69 = .ok (.getfield 190, 3) := by decide +kernel
theorem dX15_keyOf_72 : decode cX15_keyOf 72 = .ok (.aload_n 0, 1) := by decide +kernel
theorem dX15_keyOf_73 : decode cX15_keyOf 73 = .ok (.getfield 101, 3) := by decide +kernel
theorem dX15_keyOf_76 : decode cX15_keyOf 76 = .ok (.getfield 409, 3) := by decide +kernel
theorem dX15_keyOf_79 : decode cX15_keyOf 79 = .ok (.invokestatic 507, 3) := by decide +kernel
theorem dX15_keyOf_82 : decode cX15_keyOf 82 = .ok (.aload_n 0, 1) := by decide +kernel
theorem dX15_keyOf_83 : decode cX15_keyOf 83 = .ok (.getfield 101, 3) := by decide +kernel
theorem dX15_keyOf_86 : decode cX15_keyOf 86 = .ok (.bipush 8, 2) := by decide +kernel
theorem dX15_keyOf_88 : decode cX15_keyOf 88 = .ok (.invokevirtual 441, 3) := by decide +kernel
theorem dX15_keyOf_91 : decode cX15_keyOf 91 = .ok (.ifCond .eq 48, 3) := by decide +kernel
theorem dX15_keyOf_94 : decode cX15_keyOf 94 = .ok (.aload_n 0, 1) := by decide +kernel
theorem dX15_keyOf_95 : decode cX15_keyOf 95 = .ok (.getfield 101, 3) := by decide +kernel
theorem dX15_keyOf_98 : decode cX15_keyOf 98 = .ok (.ldc_w 533, 3) := by decide +kernel
theorem dX15_keyOf_101 : decode cX15_keyOf 101 = .ok (.bipush 64, 2) := by decide +kernel
theorem dX15_keyOf_103 : decode cX15_keyOf 103 = .ok (.aload_n 0, 1) := by decide +kernel
theorem dX15_keyOf_104 : decode cX15_keyOf 104 = .ok (.getfield 138, 3) := by decide +kernel
theorem dX15_keyOf_107 : decode cX15_keyOf 107 = .ok (.invokestatic 464, 3) := by decide +kernel
theorem dX15_keyOf_110 : decode cX15_keyOf 110 = .ok (.ifCond .eq 29, 3) := by decide +kernel
theorem dX15_keyOf_113 : decode cX15_keyOf 113 = .ok (.aload_n 0, 1) := by decide +kernel
theorem dX15_keyOf_114 : decode cX15_keyOf 114 = .ok (.getfield 138, 3) := by decide +kernel
theorem dX15_keyOf_117 : decode cX15_keyOf 117 = .ok (.iconst 0, 1) := by decide +kernel
theorem dX15_keyOf_118 : decode cX15_keyOf 118 = .ok (.baload, 1) := by decide +kernel
theorem dX15_keyOf_119 : decode cX15_keyOf 119 = .ok (.ifCond .ge 20, 3) := by decide +kernel
theorem dX15_keyOf_122 : decode cX15_keyOf 122 = .ok (.aload_n 0, 1) := by decide +kernel
theorem dX15_keyOf_123 : decode cX15_keyOf 123 = .ok (.getfield 138, 3) := by decide +kernel
theorem dX15_keyOf_126 : decode cX15_keyOf 126 = .ok (.bipush 63, 2) := by decide +kernel
theorem dX15_keyOf_128 : decode cX15_keyOf 128 = .ok (.baload, 1) := by decide +kernel
theorem dX15_keyOf_129 : decode cX15_keyOf 129 = .ok (.iconst 1, 1) := by decide +kernel
theorem dX15_keyOf_130 : decode cX15_keyOf 130 = .ok (.iand, 1) := by decide +kernel
theorem dX15_keyOf_131 : decode cX15_keyOf 131 = .ok (.iconst 1, 1) := by decide +kernel
theorem dX15_keyOf_132 : decode cX15_keyOf 132 = .ok (.if_icmp .ne 7, 3) := by decide +kernel
theorem dX15_keyOf_135 : decode cX15_keyOf 135 = .ok (.iconst 1, 1) := by decide +kernel
theorem dX15_keyOf_136 : decode cX15_keyOf 136 = .ok (.goto 4, 3) := by decide +kernel
theorem dX15_keyOf_139 : decode cX15_keyOf 139 = .ok (.iconst 0, 1) := by decide +kernel
theorem dX15_keyOf_140 : decode cX15_keyOf 140 = .ok (.istore_n 2, 1) := by decide +kernel
theorem dX15_keyOf_141 : decode cX15_keyOf 141 = .ok (.iload_n 2, 1) := by decide +kernel
theorem dX15_keyOf_142 : decode cX15_keyOf 142 = .ok (.aload_n 0, 1) := by decide +kernel
theorem dX15_keyOf_143 : decode cX15_keyOf 143 = .ok (.getfield 101, 3) := by decide +kernel
theorem dX15_keyOf_146 : decode cX15_keyOf 146 = .ok (.ldc_w 444, 3) := by decide +kernel
theorem dX15_keyOf_149 : decode cX15_keyOf 149 = .ok (.invokevirtual 399, 3) := by decide +kernel
theorem dX15_keyOf_152 : decode cX15_keyOf 152 = .ok (.ifCond .lt 19, 3) := by decide +kernel
theorem dX15_keyOf_155 : decode cX15_keyOf 155 = .ok (.aload_n 0, 1) := by decide +kernel
theorem dX15_keyOf_156 : decode cX15_keyOf 156 = .ok (.getfield 101, 3) := by decide +kernel
theorem dX15_keyOf_159 : decode cX15_keyOf 159 = .ok (.ldc_w 444, 3) := by decide +kernel
theorem dX15_keyOf_162 : decode cX15_keyOf 162 = .ok (.ldc_w 535, 3) := by decide +kernel
theorem dX15_keyOf_165 : decode cX15_keyOf 165 = .ok (.invokevirtual 448, 3) := by decide +kernel
theorem dX15_keyOf_168 : decode cX15_keyOf 168 = .ok (.ifCond .eq 7, 3) := by decide +kernel
theorem dX15_keyOf_171 : decode cX15_keyOf 171 = .ok (.iconst 1, 1) := by decide +kernel
theorem dX15_keyOf_172 : decode cX15_keyOf 172 = .ok (.goto 4, 3) := by decide +kernel
theorem dX15_keyOf_175 : decode cX15_keyOf 175 = .ok (.iconst 0, 1) := by decide +kernel
theorem dX15_keyOf_176 : decode cX15_keyOf 176 = .ok (.iand, 1) := by decide +kernel
theorem dX15_keyOf_177 : decode cX15_keyOf 177 = .ok (.istore_n 2, 1) := by decide +kernel
theorem dX15_keyOf_178 : decode cX15_keyOf 178 = .ok (.iload_n 2, 1) := by decide +kernel
theorem dX15_keyOf_179 : decode cX15_keyOf 179 = .ok (.aload_n 0, 1) := by decide +kernel
theorem dX15_keyOf_180 : decode cX15_keyOf 180 = .ok (.getfield 101, 3) := by decide +kernel
theorem dX15_keyOf_183 : decode cX15_keyOf 183 = .ok (.ldc_w 537, 3) := by decide +kernel
theorem dX15_keyOf_186 : decode cX15_keyOf 186 = .ok (.invokevirtual 399, 3) := by decide +kernel
theorem dX15_keyOf_189 : decode cX15_keyOf 189 = .ok (.ifCond .lt 19, 3) := by decide +kernel
theorem dX15_keyOf_192 : decode cX15_keyOf 192 = .ok (.aload_n 0, 1) := by decide +kernel
theorem dX15_keyOf_193 : decode cX15_keyOf 193 = .ok (.getfield 101, 3) := by decide +kernel
theorem dX15_keyOf_196 : decode cX15_keyOf 196 = .ok (.ldc_w 537, 3) := by decide +kernel
theorem dX15_keyOf_199 : decode cX15_keyOf 199 = .ok (.ldc_w 539, 3) := by decide +kernel
theorem dX15_keyOf_202 : decode cX15_keyOf 202 = .ok (.invokevirtual 448, 3) := by decide +kernel
theorem dX15_keyOf_205 : decode cX15_keyOf 205 = .ok (.ifCond .eq 7, 3) := by decide +kernel
theorem dX15_keyOf_208 : decode cX15_keyOf 208 = .ok (.iconst 1, 1) := by decide +kernel
theorem dX15_keyOf_209 : decode cX15_keyOf 209 = .ok (.goto 4, 3) := by decide +kernel
theorem dX15_keyOf_212 : decode cX15_keyOf 212 = .ok (.iconst 0, 1) := by decide +kernel
theorem dX15_keyOf_213 : decode cX15_keyOf 213 = .ok (.iand, 1) := by decide +kernel
theorem dX15_keyOf_214 : decode cX15_keyOf 214 = .ok (.istore_n 2, 1) := by decide +kernel
theorem dX15_keyOf_215 : decode cX15_keyOf 215 = .ok (.iload_n 2, 1) := by decide +kernel
theorem dX15_keyOf_216 : decode cX15_keyOf 216 = .ok (.ifCond .eq 7, 3) := by decide +kernel
theorem dX15_keyOf_219 : decode cX15_keyOf 219 = .ok (.iconst 2, 1) := by decide +kernel
theorem dX15_keyOf_220 : decode cX15_keyOf 220 = .ok (.goto 5, 3) := by decide +kernel
theorem dX15_keyOf_223 : decode cX15_keyOf 223 = .ok (.bipush 6, 2) := by decide +kernel
theorem dX15_keyOf_225 : decode cX15_keyOf 225 = .ok (.ireturn, 1) := by decide +kernel
theorem kt_937 : Cond.fieldLink RX15 138 "PostGateModel" "modulus64" "[B" ∈ tb := tb_at (i := 1336) (by decide +kernel) (by decide +kernel)
theorem kt_938 : Cond.code yX15_digits cX15_digits 3 none ∈ tb := tb_at (i := 1824) (by decide +kernel) (by decide +kernel)
theorem kt_939 : Cond.methodLink RX15 548 yX15_digits ∈ tb := tb_at (i := 1822) (by decide +kernel) (by decide +kernel)
theorem kt_940 : Cond.static yX15_digits ∈ tb := tb_at (i := 1823) (by decide +kernel) (by decide +kernel)
theorem kt_941 : Cond.fieldLink RX15 120 "PostGateModel" "number" "[I" ∈ tb := tb_at (i := 1330) (by decide +kernel) (by decide +kernel)
theorem kt_942 : Cond.code yX15_times cX15_times 6 none ∈ tb := tb_at (i := 1839) (by decide +kernel) (by decide +kernel)
theorem kt_943 : Cond.methodLink RX15 552 yX15_times ∈ tb := tb_at (i := 1836) (by decide +kernel) (by decide +kernel)
theorem kt_944 : Cond.instanceMethod yX15_times ∈ tb := tb_at (i := 1838) (by decide +kernel) (by decide +kernel)
theorem kt_945 : Cond.selects RX15 yX15_times yX15_times ∈ tb := tb_at (i := 75) (by decide +kernel) (by decide +kernel)
theorem kt_946 : Cond.fieldLink RX15 141 "PostGateModel" "expected" "[B" ∈ tb := tb_at (i := 1337) (by decide +kernel) (by decide +kernel)
theorem kt_947 : Cond.code yJ7_fill_031fb cJ7_fill_031fb 4 none ∈ tb := tb_at (i := 1843) (by decide +kernel) (by decide +kernel)
theorem kt_948 : Cond.methodLink RX15 556 yJ7_fill_031fb ∈ tb := tb_at (i := 1841) (by decide +kernel) (by decide +kernel)
theorem kt_949 : Cond.static yJ7_fill_031fb ∈ tb := tb_at (i := 1842) (by decide +kernel) (by decide +kernel)
theorem kt_950 : Cond.fieldLink RX15 129 "PostGateModel" "hashed" "[B" ∈ tb := tb_at (i := 1333) (by decide +kernel) (by decide +kernel)
theorem kt_951 : Cond.fieldLink RX15 126 "PostGateModel" "square" "[I" ∈ tb := tb_at (i := 1332) (by decide +kernel) (by decide +kernel)
theorem kt_952 : Cond.fieldLink RX15 154 "PostGateModel" "head" "[I" ∈ tb := tb_at (i := 1344) (by decide +kernel) (by decide +kernel)
theorem kt_953 : Cond.fieldLink RX15 144 "PostGateModel" "where" "LPostGateModel$Text;" ∈ tb := tb_at (i := 1338) (by decide +kernel) (by decide +kernel)
theorem kt_954 : Cond.fieldLink RX15 101 "PostGateModel" "key" "LPostGateModel$Tags;" ∈ tb := tb_at (i := 1325) (by decide +kernel) (by decide +kernel)
theorem kt_955 : Cond.code yX15_withoutWhite cX15_withoutWhite 5 none ∈ tb := tb_at (i := 1701) (by decide +kernel) (by decide +kernel)
theorem kt_956 : Cond.methodLink RX15 507 yX15_withoutWhite ∈ tb := tb_at (i := 1699) (by decide +kernel) (by decide +kernel)
theorem kt_957 : Cond.static yX15_withoutWhite ∈ tb := tb_at (i := 1700) (by decide +kernel) (by decide +kernel)
theorem kt_958 : Cond.fieldLink RX15 150 "PostGateModel" "taken" "[Z" ∈ tb := tb_at (i := 1340) (by decide +kernel) (by decide +kernel)
theorem kt_959 : Cond.code yJ7_fill_49daa cJ7_fill_49daa 4 none ∈ tb := tb_at (i := 1813) (by decide +kernel) (by decide +kernel)
theorem kt_960 : Cond.methodLink RX15 541 yJ7_fill_49daa ∈ tb := tb_at (i := 1811) (by decide +kernel) (by decide +kernel)
theorem kt_961 : Cond.static yJ7_fill_49daa ∈ tb := tb_at (i := 1812) (by decide +kernel) (by decide +kernel)
theorem kt_962 : Cond.code yX15_isAlikeTo cX15_isAlikeTo 6 (some .boolean) ∈ tb := tb_at (i := 1817) (by decide +kernel) (by decide +kernel)
theorem kt_963 : Cond.methodLink RX15 544 yX15_isAlikeTo ∈ tb := tb_at (i := 1814) (by decide +kernel) (by decide +kernel)
theorem kt_964 : Cond.instanceMethod yX15_isAlikeTo ∈ tb := tb_at (i := 1816) (by decide +kernel) (by decide +kernel)
theorem kt_965 : Cond.selects RX15 yX15_isAlikeTo yX15_isAlikeTo ∈ tb := tb_at (i := 72) (by decide +kernel) (by decide +kernel)
def tsum (gm : Nat → Nat → Nat) (ft : Nat → Int32) : Nat → Nat
  | 0 => 0
  | k + 1 => tsum gm ft k + (if ft k = 0 then 0 else gm 2 k - gm 0 k + 1)
theorem tsum_zero {gm : Nat → Nat → Nat} {ft : Nat → Int32} {n : Nat} (h : ∀ k, k < n → ft k = 0) : tsum gm ft n = 0 := by
  induction n with
  | zero => rfl
  | succ n ih =>
    show tsum gm ft n + (if ft n = 0 then 0 else gm 2 n - gm 0 n + 1) = 0
    rw [ih (fun k hk => h k (by omega)), if_pos (h n (by omega))]
theorem tsum_same {gm : Nat → Nat → Nat} {ft fu : Nat → Int32} {n : Nat} (h : ∀ k, k < n → fu k = ft k) : tsum gm fu n = tsum gm ft n := by
  induction n with
  | zero => rfl
  | succ n ih =>
    show tsum gm fu n + (if fu n = 0 then 0 else gm 2 n - gm 0 n + 1) = tsum gm ft n + (if ft n = 0 then 0 else gm 2 n - gm 0 n + 1)
    rw [ih (fun k hk => h k (by omega)), h n (by omega)]
theorem tsum_set {gm : Nat → Nat → Nat} {ft fu : Nat → Int32} {n k : Nat} (hk : k < n) (h0 : ft k = 0) (h1 : fu k ≠ 0) (h : ∀ i, i ≠ k → fu i = ft i) : tsum gm fu n = tsum gm ft n + (gm 2 k - gm 0 k + 1) := by
  induction n with
  | zero => omega
  | succ n ih =>
    show tsum gm fu n + (if fu n = 0 then 0 else gm 2 n - gm 0 n + 1) = tsum gm ft n + (if ft n = 0 then 0 else gm 2 n - gm 0 n + 1) + _
    rcases Nat.lt_or_ge k n with q | q
    · rw [ih q, h n (by omega)]
      omega
    · have e : k = n := by omega
      subst e
      rw [tsum_same (fun i hi => h i (by omega)), if_neg h1, if_pos h0]
      omega
theorem tsum_le {gm : Nat → Nat → Nat} {ft : Nat → Int32} {n nf mm : Nat} (hO : ∀ j, j < nf → gm 0 j < gm 1 j ∧ gm 1 j < gm 2 j ∧ gm 2 j ≤ mm) (hA : ∀ j, j + 1 < nf → gm 2 j ≤ gm 0 (j + 1)) (hn : n ≤ nf) : tsum gm ft n ≤ mm + n ∧ (∀ j, n = j + 1 → tsum gm ft n ≤ gm 2 j + n) := by
  induction n with
  | zero => exact ⟨Nat.zero_le _, fun j h => by omega⟩
  | succ n ih =>
    have i1 := ih (by omega)
    have o1 := hO n (by omega)
    have key : tsum gm ft (n + 1) ≤ gm 2 n + (n + 1) := by
      show tsum gm ft n + (if ft n = 0 then 0 else gm 2 n - gm 0 n + 1) ≤ _
      rcases Nat.eq_zero_or_pos n with q | q
      · subst q
        show 0 + _ ≤ _
        split <;> omega
      · have i2 := i1.2 (n - 1) (by omega)
        have a1 := hA (n - 1) (by omega)
        rw [show n - 1 + 1 = n from by omega] at a1
        split <;> omega
    exact ⟨by omega, fun j h => by rw [show j = n from by omega]; exact key⟩
theorem upd_ne1 {f : Nat → Int32} {k : Nat} : upd f k (vp_nar .boolean 1) k ≠ 0 := by
  show (if k = k then vp_nar .boolean 1 else f k) ≠ 0
  rw [if_pos rfl]
  decide
theorem upd_oth {f : Nat → Int32} {k i : Nat} {x : Int32} (h : i ≠ k) : upd f k x i = f i := if_neg h
set_option maxHeartbeats 4000000 in
set_option maxRecDepth 100000 in
theorem s_X15_isAlikeTo (l : Launch) (dC : Nat → ClassId) (dI : Nat → Nat → Nat) (cs : Nat → ClassId) (ty : TyM) (gm : Nat → Nat → Nat) (L : List Nat) (sz : Nat) (F : Nat → va_E) (h0 : Nat) (ρ : Nat) (ta : Nat) (ou : Nat) (so : Nat) (ad : Nat) (na : Nat) (va : Nat) (lc : Nat) (dm : Nat) (tg : Nat) (pe : Nat) (ml : Nat) (bg : Nat) (co : Nat) (sp : Nat) (nb0 : Nat) (nb1 : Nat) (nb2 : Nat) (pl : Nat) (se : Nat) (ke : Nat) (wi : Nat) (hs : Nat) (mo : Nat) (po : Nat) (nu : Nat) (pr : Nat) (sq : Nat) (xa : Nat) (sa : Nat) (n64 : Nat) (m64 : Nat) (ex : Nat) (wh : Nat) (sd : Nat) (tk : Nat) (hd : Nat) (ak : Nat) (ho : Nat) (ot : Nat) (sx : Nat) (s0 : Nat) (s1 : Nat) (s2 : Nat) (nf : Nat) (bd : Nat) (mm : Nat) (zt : Nat) (g1 : Nat) (σ : Nat) (n1 : Nat) (jf : Nat) (a : Nat) (tt : Nat) (hW : WTm ty gm L) (hL_h0 : h0 ∈ L) (hT_h0 : ty h0 = (15, ρ, [ta, ou, so, ad, na, va, lc, dm, tg, pe, ml, bg, co, sp, nb0, nb1, nb2, pl, se, ke, wi, hs, mo, po, nu, pr, sq, xa, sa, n64, m64, ex, wh, sd, tk, hd, ak, ho, ot, sx, s0, s1, s2, nf, bd, mm, zt])) (hL_g1 : g1 ∈ L) (hT_g1 : ty g1 = (17, σ, [n1])) (hjf : jf < nf) (ha : a ≤ tt) (htn : tt ≤ n1) : Met l yX15_isAlikeTo (.code yX15_isAlikeTo cX15_isAlikeTo 6 (some .boolean) :: tb) ({ frames := 1, cells := 0, slots := 0, locals := 20 }) (va_Pc [.ref h0, .int (nI jf), .ref g1, .int (nI a), .int (nI tt)] (PTm (dC, dI) cs ty gm L F sz)) (va_Qi (fun (r : Int32) (_ : Unit) => (r = 0 ∨ r = 1)) (fun _ T9 => ∃ F2 : Nat → va_E, QTm (dC, dI) cs ty gm L [] F F2 (va_A (va_pl L F) sz) T9) (va_A (va_pl L F) sz)) 0 0 (va_A (va_pl L F) sz) := by
  refine Met.ofW (cc := cX15_isAlikeTo) (maxL := 6) (ret := (some .boolean)) (by decide) rfl ?_
  intro p e s m args below meth c s₁ B hml hv
  obtain ⟨rfl, hsz, hP, hK, hD0, hE, hO⟩ := hv
  have hx := B.exec
  have hb := B.bytes
  have hr := B.returns
  have hts : ∀ w ∈ tb, w.before _ s = true := fun w h => atoms_spec (ws := .code yX15_isAlikeTo cX15_isAlikeTo 6 (some .boolean) :: tb) B.pre w (List.mem_cons_of_mem _ h)
  have hown : s.vm.findClass RX15 = some m.cls := findClass_of_methodNamed B.named
  have hlocks := B.notSynchronized
  subst hsz
  have hD := hD0.self (sz := s.heap.size)
  generalize hAe : va_A (va_pl L F) s.heap.size = A at hD ⊢
  have hA : ∀ q : Nat, s.heap.size ≤ q → A q := fun q h => by rw [← hAe]; exact Or.inr h
  have hS : va_S A s.heap s.heap [] := va_S.rf
  have hR : FR ty [] F F := FR.refl
  have hl := lv_entry ([.ref h0, .int (nI jf), .ref g1, .int (nI a), .int (nI tt)]) (n := 6) (Nat.le_of_ble_eq_true rfl)
  rw [lg_entry_eq]
  generalize (lg_sl ([.ref h0, .int (nI jf), .ref g1, .int (nI a), .int (nI tt)]) ++ List.replicate (6 - (lg_sl ([.ref h0, .int (nI jf), .ref g1, .int (nI a), .int (nI tt)])).length) Slot.unset).toArray = ls at hl ⊢
  have hl : lv_has ls 6 [(0, .ref h0), (1, .int (nI jf)), (2, .ref g1), (3, .int (nI a)), (4, .int (nI tt))] := hl
  obtain ⟨hi_1, ht_2, hi_3, ht_4, hi_5, ht_6, hi_7, ht_8, hi_9, ht_10, hi_11, ht_12, hi_13, ⟨r_14, ht_15⟩, hi_16, ⟨r_17, ht_18⟩, hi_19, ht_20, hi_21, ⟨r_22, ht_23⟩, hi_24, ht_25, hi_26, ht_27, hi_28, ht_29, hi_30, ht_31, hi_32, ht_33, hi_34, ht_35, hi_36, ht_37, hi_38, ⟨r_39, ht_40⟩, hi_41, ht_42, hi_43, ⟨x_44, y0_45, y1_46, y2_47, ht_48⟩, hi_49, ⟨x_50, y0_51, y1_52, y2_53, ht_54⟩, hi_55, ⟨x_56, y_57, w_58, u_59, bl_60, ht_61⟩, hi_62, ht_63, hi_64, ht_65, hi_66, ht_67, hi_68, ht_69, hi_70, ht_71, hi_72, ht_73, hi_74, ht_75, hi_76, ht_77, hi_78, ht_79, hi_80, ht_81, hi_82, ⟨r_83, ht_84⟩, hi_85, ⟨r_86, ht_87⟩, hi_88, ht_89, hi_90, ht_91, hi_92, ⟨r_93, ht_94⟩, hi_95, ⟨r_96, ht_97⟩, hi_98, ⟨r_99, ht_100⟩, hq_101, hq_102, hq_103, hq_104, hq_105, hgO, hgA, hgB⟩ := hW.mod hL_h0 hT_h0
  have hoj := hgO jf hjf
  obtain ⟨hq_106, hq_107⟩ := hW.octs hL_g1 hT_g1
  refine lv_aload_n hx hb dX15_isAlikeTo_0 rfl (lv_at hl 0 rfl) ?_
  obtain ⟨zo_108, ze_109, v11_110, v12_111, v14_112, v15_113, v17_114, v18_115, v19_116, v20_117, v21_118, v22_119, v33_120, v52_121, v53_122, v54_123, hF_124, hq_125, hq_126, hq_127, hq_128⟩ := hO.mod hL_h0 hT_h0
  refine pg_get (ci := 15) (v := .ref co) (C := RX15) (T := TX15) (N := 59) hx hb hts it_15 hown hK hP hL_h0 hF_124 rfl 25 (by decide) (hts _ kt_904) (fun _ h9 => h9) rfl dX15_isAlikeTo_1 ?_
  refine lv_iload_n hx hb dX15_isAlikeTo_4 rfl (lv_at hl 1 rfl) ?_
  obtain ⟨f_129, hF_130, hq_131⟩ := hO.pos hi_28 ht_29
  refine pg_iald hx hb hK hP hi_28 0 hF_130 rfl (vp_in_nI (by omega) (by omega)) dX15_isAlikeTo_5 ?_
  refine lv_topi (fun x_132 ex_132 => ?_)
  obtain rfl : x_132 = (nI (gm 1 jf)) := ex_132.trans (by rw [show ((nI jf) : Int32) = nI jf from rfl, nI_clamp (by omega)]; exact hq_131 jf (by omega))
  have hgbx_132 := hgB 1 jf
  refine lv_aload_n hx hb dX15_isAlikeTo_6 rfl (lv_at hl 0 rfl) ?_
  refine pg_get (ci := 15) (v := .ref bg) (C := RX15) (T := TX15) (N := 59) hx hb hts it_15 hown hK hP hL_h0 hF_124 rfl 24 (by decide) (hts _ kt_903) (fun _ h9 => h9) rfl dX15_isAlikeTo_7 ?_
  refine lv_iload_n hx hb dX15_isAlikeTo_10 rfl (lv_at hl 1 rfl) ?_
  obtain ⟨f_133, hF_134, hq_135⟩ := hO.pos hi_26 ht_27
  refine pg_iald hx hb hK hP hi_26 0 hF_134 rfl (vp_in_nI (by omega) (by omega)) dX15_isAlikeTo_11 ?_
  refine lv_topi (fun x_136 ex_136 => ?_)
  obtain rfl : x_136 = (nI (gm 0 jf)) := ex_136.trans (by rw [show ((nI jf) : Int32) = nI jf from rfl, nI_clamp (by omega)]; exact hq_135 jf (by omega))
  have hgbx_136 := hgB 0 jf
  refine lv_isub hx hb dX15_isAlikeTo_12 ?_
  refine lv_topi (fun x_137 ex_137 => ?_)
  obtain rfl : x_137 = (nI ((gm 1 jf) - (gm 0 jf))) := ex_137.trans (pk_sub (a := (gm 1 jf)) (b := (gm 0 jf)) (by omega))
  refine lv_iload hx hb dX15_isAlikeTo_13 (lv_at hl 4 rfl) ?_
  refine lv_iload_n hx hb dX15_isAlikeTo_15 rfl (lv_at hl 3 rfl) ?_
  refine lv_isub hx hb dX15_isAlikeTo_16 ?_
  refine lv_topi (fun x_138 ex_138 => ?_)
  obtain rfl : x_138 = (nI (tt - a)) := ex_138.trans (pk_sub (a := tt) (b := a) (by omega))
  refine lv_icmp_eq (tgt := 22) hx hb dX15_isAlikeTo_17 (by decide) (fun c_139 => ?_) (fun c_139 => ?_)
  ·
    have hi_140 : ((gm 1 jf) - (gm 0 jf)) = (tt - a) := (nI_eq (a := ((gm 1 jf) - (gm 0 jf))) (b := (tt - a)) (by omega) (by omega)).mp c_139
    refine lv_iconst (v := 0) hx hb dX15_isAlikeTo_22 (by decide) ?_
    refine lv_istore (lv' := [(5, .int 0), (0, .ref h0), (1, .int (nI jf)), (2, .ref g1), (3, .int (nI a)), (4, .int (nI tt))]) hx hb dX15_isAlikeTo_23 hl (by decide) rfl (fun ls hl => ?_)
    refine W.widen (k := 0) (n := 0) (by omega) (by omega) ?_
    refine pl_loopm (σ := Nat) A (dC, dI) cs ty gm L [] F 25 6 (fun j => [(5, .int (nI j)), (0, .ref h0), (1, .int (nI jf)), (2, .ref g1), (3, .int (nI a)), (4, .int (nI tt))]) (fun j => []) (fun j _ => j ≤ tt - a) (fun j => tt - a - j) ?_ 0 F (by omega) hO hR _ _ hP hD hS ls (lv_sub hl [0, 1, 2, 3, 4, 5] rfl)
    rintro j F_141 hv_142 hO hR ih_143 H locs hP hD hS ls hl
    have hl : lv_has ls 6 [(5, .int (nI j)), (0, .ref h0), (1, .int (nI jf)), (2, .ref g1), (3, .int (nI a)), (4, .int (nI tt))] := hl
    have hv_142 : j ≤ tt - a := hv_142
    refine W.eq (g2 := F0 m 25 ls []) rfl ?_
    obtain rfl : F = F_141 := (funext (fun a => hR a List.not_mem_nil)).symm
    refine lv_iload hx hb dX15_isAlikeTo_25 (lv_at hl 0 rfl) ?_
    refine lv_iload hx hb dX15_isAlikeTo_27 (lv_at hl 5 rfl) ?_
    refine lv_iload_n hx hb dX15_isAlikeTo_29 rfl (lv_at hl 4 rfl) ?_
    refine lv_isub hx hb dX15_isAlikeTo_30 ?_
    refine lv_topi (fun x_144 ex_144 => ?_)
    obtain rfl : x_144 = (nI (tt - a)) := ex_144.trans (pk_sub (a := tt) (b := a) (by omega))
    refine lv_icmp_ge (tgt := 71) hx hb dX15_isAlikeTo_31 (by decide) (fun c_145 => ?_) (fun c_145 => ?_)
    ·
      have hi_146 : (tt - a) ≤ j := leN (N := (tt - a)) c_145
      refine lv_iconst (v := 1) hx hb dX15_isAlikeTo_71 (by decide) ?_
      refine W.widen (k := 0) (n := 0) (by omega) (by omega) ?_
      exact W.zret (v := 1) (ty := .boolean) hx hb hr (by decide) (fun t ht hWm => ⟨⟨1, (), rfl, (by first | exact Or.inl rfl | exact Or.inr rfl), ⟨F, QTm.mk ht hP hD hO hR⟩⟩, hS.F ht⟩) hS.2.2 dX15_isAlikeTo_72
    ·
      have hi_147 : j < (tt - a) := ltN (N := (tt - a)) c_145
      refine lv_aload_n hx hb dX15_isAlikeTo_34 rfl (lv_at hl 1 rfl) ?_
      refine pg_get (ci := 15) (v := .ref ml) (C := RX15) (T := TX15) (N := 59) hx hb hts it_15 hown hK hP hL_h0 hF_124 rfl 23 (by decide) (hts _ kt_902) (fun _ h9 => h9) rfl dX15_isAlikeTo_35 ?_
      refine lv_aload_n hx hb dX15_isAlikeTo_38 rfl (lv_at hl 1 rfl) ?_
      refine pg_get (ci := 15) (v := .ref bg) (C := RX15) (T := TX15) (N := 59) hx hb hts it_15 hown hK hP hL_h0 hF_124 rfl 24 (by decide) (hts _ kt_903) (fun _ h9 => h9) rfl dX15_isAlikeTo_39 ?_
      refine lv_iload_n hx hb dX15_isAlikeTo_42 rfl (lv_at hl 2 rfl) ?_
      refine pg_iald hx hb hK hP hi_26 0 hF_134 rfl (vp_in_nI (by omega) (by omega)) dX15_isAlikeTo_43 ?_
      refine lv_topi (fun x_148 ex_148 => ?_)
      obtain rfl : x_148 = (nI (gm 0 jf)) := ex_148.trans (by rw [show ((nI jf) : Int32) = nI jf from rfl, nI_clamp (by omega)]; exact hq_135 jf (by omega))
      have hgbx_148 := hgB 0 jf
      refine lv_iload hx hb dX15_isAlikeTo_44 (lv_at hl 0 rfl) ?_
      refine lv_iadd hx hb dX15_isAlikeTo_46 ?_
      refine lv_topi (fun x_149 ex_149 => ?_)
      obtain rfl : x_149 = (nI ((gm 0 jf) + j)) := ex_149.trans (nI_add (gm 0 jf) j)
      obtain ⟨hq_150, hq_151⟩ := hW.octs hi_24 ht_25
      obtain ⟨f_152, hF_153, hq_154⟩ := hO.octs hi_24 ht_25
      refine pg_bald hx hb hK hP hi_24 1 hF_153 rfl (vp_in_nI (by omega) (by omega)) dX15_isAlikeTo_47 ?_
      refine lv_topi (fun x_155 ex_155 => ?_)
      obtain rfl : x_155 = f_152 ((gm 0 jf) + j) := ex_155.trans (congrArg f_152 (show ((nI ((gm 0 jf) + j)) : Int32).toNatClampNeg = ((gm 0 jf) + j) from nI_clamp (by omega)))
      have hFc := pg_free hD hS hA
      refine va_calli (va_runS (As := [.int (f_152 ((gm 0 jf) + j))]) (rest := []) ⟨hx, hb, hml, hown, hts⟩ (s_X15_small l dC dI cs ty gm L H.size F (f_152 ((gm 0 jf) + j)) hW ) ⟨callB_of 1 hts (gi kt_697) rfl rfl rfl (hts _ kt_669) (hts _ kt_698) (by decide +kernel) ⟨Nat.le_of_ble_eq_true rfl, Nat.le_of_ble_eq_true rfl⟩, (hts _ kt_699)⟩ ⟨fun a U g mk q => ⟨q.1, PTm.calling q.2⟩, fun U hU hWm => ⟨rfl, PTm.mk hU hWm hP hK hD hE hO⟩⟩ rfl rfl hl.1 rfl (lv_room (Nat.le_of_ble_eq_true rfl)) dX15_isAlikeTo_48 ⟨by show _ + 0 ≤ 0; omega, by show _ + 0 ≤ 0; omega⟩) hS (fun q _ h => hFc q h) hFc (fun r_156 u t H1 locs ht hvm hw hB hz1 hk1 hS => ?_)
      obtain ⟨F_157, hB1⟩ := hB
      obtain rfl : F = F_157 := (funext (fun a => hB1.2.2.2 a List.not_mem_nil)).symm
      obtain ⟨hP, hD, hO, hR⟩ := QTm.back hB1 ht hFc hR (fun q h => absurd h List.not_mem_nil)
      generalize H1 = H at hP hS ⊢
      have hw : True := hw
      have hw_158 := hw
      refine lv_aload_n hx hb dX15_isAlikeTo_51 rfl (lv_at hl 3 rfl) ?_
      refine lv_iload_n hx hb dX15_isAlikeTo_52 rfl (lv_at hl 4 rfl) ?_
      refine lv_iload hx hb dX15_isAlikeTo_53 (lv_at hl 0 rfl) ?_
      refine lv_iadd hx hb dX15_isAlikeTo_55 ?_
      refine lv_topi (fun x_159 ex_159 => ?_)
      obtain rfl : x_159 = (nI (a + j)) := ex_159.trans (nI_add a j)
      obtain ⟨f_160, hF_161, hq_162⟩ := hO.octs hL_g1 hT_g1
      refine pg_bald hx hb hK hP hL_g1 1 hF_161 rfl (vp_in_nI (by omega) (by omega)) dX15_isAlikeTo_56 ?_
      refine lv_topi (fun x_163 ex_163 => ?_)
      obtain rfl : x_163 = f_160 (a + j) := ex_163.trans (congrArg f_160 (show ((nI (a + j)) : Int32).toNatClampNeg = (a + j) from nI_clamp (by omega)))
      have hFc := pg_free hD hS hA
      refine va_calli (va_runS (As := [.int (f_160 (a + j))]) (rest := [.int r_156]) ⟨hx, hb, hml, hown, hts⟩ (s_X15_small l dC dI cs ty gm L H.size F (f_160 (a + j)) hW ) ⟨callB_of 1 hts (gi kt_697) rfl rfl rfl (hts _ kt_669) (hts _ kt_698) (by decide +kernel) ⟨Nat.le_of_ble_eq_true rfl, Nat.le_of_ble_eq_true rfl⟩, (hts _ kt_699)⟩ ⟨fun a U g mk q => ⟨q.1, PTm.calling q.2⟩, fun U hU hWm => ⟨rfl, PTm.mk hU hWm hP hK hD hE hO⟩⟩ rfl rfl hl.1 rfl (lv_room (Nat.le_of_ble_eq_true rfl)) dX15_isAlikeTo_57 ⟨by show _ + 0 ≤ 0; omega, by show _ + 0 ≤ 0; omega⟩) hS (fun q _ h => hFc q h) hFc (fun r_164 u t H1 locs ht hvm hw hB hz1 hk1 hS => ?_)
      obtain ⟨F_165, hB1⟩ := hB
      obtain rfl : F = F_165 := (funext (fun a => hB1.2.2.2 a List.not_mem_nil)).symm
      obtain ⟨hP, hD, hO, hR⟩ := QTm.back hB1 ht hFc hR (fun q h => absurd h List.not_mem_nil)
      generalize H1 = H at hP hS ⊢
      have hw : True := hw
      have hw_166 := hw
      refine lv_icmp_eq (tgt := 65) hx hb dX15_isAlikeTo_60 (by decide) (fun c_167 => ?_) (fun c_167 => ?_)
      ·
        refine lv_iinc (v := (nI (j + 1))) (lv' := [(5, .int (nI (j + 1))), (0, .ref h0), (1, .int (nI jf)), (2, .ref g1), (3, .int (nI a)), (4, .int (nI tt))]) hx hb dX15_isAlikeTo_65 hl (k := 0) rfl (nI_1 _) (by decide) rfl (fun ls hl => ?_)
        refine lv_goto (tgt := 25) hx hb dX15_isAlikeTo_68 (by decide) ?_
        refine W.widen (k := 0) (n := 0) (by omega) (by omega) ?_
        exact ih_143 (j + 1) F (by first | omega | exact ⟨by omega, by omega⟩ | trivial) (by show tt - a - (j + 1) < tt - a - j; omega) hO hR _ _ hP hD hS ls (lv_sub hl [0, 1, 2, 3, 4, 5] rfl)
      ·
        refine lv_iconst (v := 0) hx hb dX15_isAlikeTo_63 (by decide) ?_
        refine W.widen (k := 0) (n := 0) (by omega) (by omega) ?_
        exact W.zret (v := 0) (ty := .boolean) hx hb hr (by decide) (fun t ht hWm => ⟨⟨0, (), rfl, (by first | exact Or.inl rfl | exact Or.inr rfl), ⟨F, QTm.mk ht hP hD hO hR⟩⟩, hS.F ht⟩) hS.2.2 dX15_isAlikeTo_64
  ·
    have hi_168 : ((gm 1 jf) - (gm 0 jf)) ≠ (tt - a) := fun q => c_139 (by rw [q])
    refine lv_iconst (v := 0) hx hb dX15_isAlikeTo_20 (by decide) ?_
    refine W.widen (k := 0) (n := 0) (by omega) (by omega) ?_
    exact W.zret (v := 0) (ty := .boolean) hx hb hr (by decide) (fun t ht hWm => ⟨⟨0, (), rfl, (by first | exact Or.inl rfl | exact Or.inr rfl), ⟨F, QTm.mk ht hP hD hO hR⟩⟩, hS.F ht⟩) hS.2.2 dX15_isAlikeTo_21
set_option maxHeartbeats 4000000 in
set_option maxRecDepth 100000 in
theorem s_X15_isPower (l : Launch) (dC : Nat → ClassId) (dI : Nat → Nat → Nat) (cs : Nat → ClassId) (ty : TyM) (gm : Nat → Nat → Nat) (L : List Nat) (sz : Nat) (F : Nat → va_E) (h0 : Nat) (ρ : Nat) (ta : Nat) (ou : Nat) (so : Nat) (ad : Nat) (na : Nat) (va : Nat) (lc : Nat) (dm : Nat) (tg : Nat) (pe : Nat) (ml : Nat) (bg : Nat) (co : Nat) (sp : Nat) (nb0 : Nat) (nb1 : Nat) (nb2 : Nat) (pl : Nat) (se : Nat) (ke : Nat) (wi : Nat) (hs : Nat) (mo : Nat) (po : Nat) (nu : Nat) (pr : Nat) (sq : Nat) (xa : Nat) (sa : Nat) (n64 : Nat) (m64 : Nat) (ex : Nat) (wh : Nat) (sd : Nat) (tk : Nat) (hd : Nat) (ak : Nat) (ho : Nat) (ot : Nat) (sx : Nat) (s0 : Nat) (s1 : Nat) (s2 : Nat) (nf : Nat) (bd : Nat) (mm : Nat) (zt : Nat) (hW : WTm ty gm L) (hL_h0 : h0 ∈ L) (hT_h0 : ty h0 = (15, ρ, [ta, ou, so, ad, na, va, lc, dm, tg, pe, ml, bg, co, sp, nb0, nb1, nb2, pl, se, ke, wi, hs, mo, po, nu, pr, sq, xa, sa, n64, m64, ex, wh, sd, tk, hd, ak, ho, ot, sx, s0, s1, s2, nf, bd, mm, zt])) : Met l yX15_isPower (.code yX15_isPower cX15_isPower 3 (some .boolean) :: tb) ({ frames := 3, cells := 0, slots := 0, locals := 76 }) (va_Pc [.ref h0] (PTm (dC, dI) cs ty gm L F sz)) (va_Qi (fun (r : Int32) (_ : Unit) => (r = 0 ∨ r = 1)) (fun _ T9 => ∃ F2 : Nat → va_E, QTm (dC, dI) cs ty gm L [ρ + 18, ρ + 23] F F2 (va_A (va_pl L F) sz) T9) (va_A (va_pl L F) sz)) 0 0 (va_A (va_pl L F) sz) := by
  refine Met.ofW (cc := cX15_isPower) (maxL := 3) (ret := (some .boolean)) (by decide) rfl ?_
  intro p e s m args below meth c s₁ B hml hv
  obtain ⟨rfl, hsz, hP, hK, hD0, hE, hO⟩ := hv
  have hx := B.exec
  have hb := B.bytes
  have hr := B.returns
  have hts : ∀ w ∈ tb, w.before _ s = true := fun w h => atoms_spec (ws := .code yX15_isPower cX15_isPower 3 (some .boolean) :: tb) B.pre w (List.mem_cons_of_mem _ h)
  have hown : s.vm.findClass RX15 = some m.cls := findClass_of_methodNamed B.named
  have hlocks := B.notSynchronized
  subst hsz
  have hD := hD0.self (sz := s.heap.size)
  generalize hAe : va_A (va_pl L F) s.heap.size = A at hD ⊢
  have hA : ∀ q : Nat, s.heap.size ≤ q → A q := fun q h => by rw [← hAe]; exact Or.inr h
  have hS : va_S A s.heap s.heap [] := va_S.rf
  have hR : FR ty [ρ + 18, ρ + 23] F F := FR.refl
  have hl := lv_entry ([.ref h0]) (n := 3) (Nat.le_of_ble_eq_true rfl)
  rw [lg_entry_eq]
  generalize (lg_sl ([.ref h0]) ++ List.replicate (3 - (lg_sl ([.ref h0])).length) Slot.unset).toArray = ls at hl ⊢
  have hl : lv_has ls 3 [(0, .ref h0)] := hl
  obtain ⟨hi_1, ht_2, hi_3, ht_4, hi_5, ht_6, hi_7, ht_8, hi_9, ht_10, hi_11, ht_12, hi_13, ⟨r_14, ht_15⟩, hi_16, ⟨r_17, ht_18⟩, hi_19, ht_20, hi_21, ⟨r_22, ht_23⟩, hi_24, ht_25, hi_26, ht_27, hi_28, ht_29, hi_30, ht_31, hi_32, ht_33, hi_34, ht_35, hi_36, ht_37, hi_38, ⟨r_39, ht_40⟩, hi_41, ht_42, hi_43, ⟨x_44, y0_45, y1_46, y2_47, ht_48⟩, hi_49, ⟨x_50, y0_51, y1_52, y2_53, ht_54⟩, hi_55, ⟨x_56, y_57, w_58, u_59, bl_60, ht_61⟩, hi_62, ht_63, hi_64, ht_65, hi_66, ht_67, hi_68, ht_69, hi_70, ht_71, hi_72, ht_73, hi_74, ht_75, hi_76, ht_77, hi_78, ht_79, hi_80, ht_81, hi_82, ⟨r_83, ht_84⟩, hi_85, ⟨r_86, ht_87⟩, hi_88, ht_89, hi_90, ht_91, hi_92, ⟨r_93, ht_94⟩, hi_95, ⟨r_96, ht_97⟩, hi_98, ⟨r_99, ht_100⟩, hq_101, hq_102, hq_103, hq_104, hq_105, hgO, hgA, hgB⟩ := hW.mod hL_h0 hT_h0
  refine lv_aload_n hx hb dX15_isPower_0 rfl (lv_at hl 0 rfl) ?_
  obtain ⟨zo_106, ze_107, v11_108, v12_109, v14_110, v15_111, v17_112, v18_113, v19_114, v20_115, v21_116, v22_117, v33_118, v52_119, v53_120, v54_121, hF_122, hq_123, hq_124, hq_125, hq_126⟩ := hO.mod hL_h0 hT_h0
  refine pg_get (ci := 15) (v := .ref m64) (C := RX15) (T := TX15) (N := 59) hx hb hts it_15 hown hK hP hL_h0 hF_122 rfl 47 (by decide) (hts _ kt_937) (fun _ h9 => h9) rfl dX15_isPower_1 ?_
  refine lv_aload_n hx hb dX15_isPower_4 rfl (lv_at hl 0 rfl) ?_
  refine pg_get (ci := 15) (v := .ref mo) (C := RX15) (T := TX15) (N := 59) hx hb hts it_15 hown hK hP hL_h0 hF_122 rfl 39 (by decide) (hts _ kt_826) (fun _ h9 => h9) rfl dX15_isPower_5 ?_
  obtain ⟨hq_127, hq_128⟩ := hW.octs hi_78 ht_79
  obtain ⟨hq_129, hq_130⟩ := hW.ints hi_62 ht_63
  have hFc := pg_free hD hS hA
  refine va_callv (va_runS (As := [.ref m64, .ref mo]) (rest := []) ⟨hx, hb, hml, hown, hts⟩ (s_X15_digits l dC dI cs ty gm L s.heap.size F m64 (ρ + 22) mo (ρ + 18) hW hi_78 ht_79 hi_62 ht_63) ⟨callB_of 2 hts (gi kt_938) rfl rfl rfl (hts _ kt_669) (hts _ kt_939) (by decide +kernel) ⟨Nat.le_of_ble_eq_true rfl, Nat.le_of_ble_eq_true rfl⟩, (hts _ kt_940)⟩ ⟨fun a U g mk q => ⟨q.1, PTm.calling q.2⟩, fun U hU hWm => ⟨rfl, PTm.mk hU hWm hP hK hD hE hO⟩⟩ rfl rfl hl.1 rfl (lv_room (Nat.le_of_ble_eq_true rfl)) dX15_isPower_8 ⟨by show _ + 0 ≤ 0; omega, by show _ + 0 ≤ 0; omega⟩) hS (fun q _ h => hFc q h) hFc (fun u t H1 locs ht hvm hw hB hz1 hk1 hS => ?_)
  obtain ⟨F_132, hB1⟩ := hB
  obtain ⟨hP, hD, hO, hR⟩ := QTm.back hB1 ht hFc hR (fun q h => by simp only [List.mem_cons, List.not_mem_nil, or_false] at h ⊢; omega)
  have hF_133 : F_132 h0 = .inr (15, (.ref ta) :: (.int (nI zt)) :: (.int (nI zo_106)) :: (.int (nI ze_107)) :: (.ref ou) :: (.ref so) :: (.ref ad) :: (.ref na) :: (.ref va) :: (.ref lc) :: (.ref dm) :: (.int v11_108) :: (.int v12_109) :: (.ref tg) :: (.int v14_110) :: (.int v15_111) :: (.ref pe) :: (.int v17_112) :: (.int v18_113) :: (.int v19_114) :: (.int v20_115) :: (.int v21_116) :: (.int v22_117) :: (.ref ml) :: (.ref bg) :: (.ref co) :: (.ref sp) :: (.ref nb0) :: (.ref nb1) :: (.ref nb2) :: (.int (nI nf)) :: (.int (nI bd)) :: (.int (nI mm)) :: (.int v33_118) :: (.ref pl) :: (.ref se) :: (.ref ke) :: (.ref wi) :: (.ref hs) :: (.ref mo) :: (.ref po) :: (.ref nu) :: (.ref pr) :: (.ref sq) :: (.ref xa) :: (.ref sa) :: (.ref n64) :: (.ref m64) :: (.ref ex) :: (.ref wh) :: (.ref sd) :: (.ref tk) :: (.int v52_119) :: (.int v53_120) :: (.int v54_121) :: (.ref hd) :: (.ref ak) :: (.ref ho) :: (.ref ot) :: []) := (hB1.2.2.2 h0 (by rw [hT_h0]; simp)).trans hF_122
  generalize H1 = H at hP hS ⊢
  refine lv_aload_n hx hb dX15_isPower_11 rfl (lv_at hl 0 rfl) ?_
  refine pg_get (ci := 15) (v := .ref n64) (C := RX15) (T := TX15) (N := 59) hx hb hts it_15 hown hK hP hL_h0 hF_133 rfl 46 (by decide) (hts _ kt_890) (fun _ h9 => h9) rfl dX15_isPower_12 ?_
  refine lv_aload_n hx hb dX15_isPower_15 rfl (lv_at hl 0 rfl) ?_
  refine pg_get (ci := 15) (v := .ref nu) (C := RX15) (T := TX15) (N := 59) hx hb hts it_15 hown hK hP hL_h0 hF_133 rfl 41 (by decide) (hts _ kt_941) (fun _ h9 => h9) rfl dX15_isPower_16 ?_
  obtain ⟨hq_134, hq_135⟩ := hW.octs hi_76 ht_77
  obtain ⟨hq_136, hq_137⟩ := hW.ints hi_66 ht_67
  have hFc := pg_free hD hS hA
  refine va_callv (va_runS (As := [.ref n64, .ref nu]) (rest := []) ⟨hx, hb, hml, hown, hts⟩ (s_X15_digits l dC dI cs ty gm L H.size F_132 n64 (ρ + 21) nu (ρ + 18) hW hi_76 ht_77 hi_66 ht_67) ⟨callB_of 2 hts (gi kt_938) rfl rfl rfl (hts _ kt_669) (hts _ kt_939) (by decide +kernel) ⟨Nat.le_of_ble_eq_true rfl, Nat.le_of_ble_eq_true rfl⟩, (hts _ kt_940)⟩ ⟨fun a U g mk q => ⟨q.1, PTm.calling q.2⟩, fun U hU hWm => ⟨rfl, PTm.mk hU hWm hP hK hD hE hO⟩⟩ rfl rfl hl.1 rfl (lv_room (Nat.le_of_ble_eq_true rfl)) dX15_isPower_19 ⟨by show _ + 0 ≤ 0; omega, by show _ + 0 ≤ 0; omega⟩) hS (fun q _ h => hFc q h) hFc (fun u t H1 locs ht hvm hw hB hz1 hk1 hS => ?_)
  obtain ⟨F_139, hB1⟩ := hB
  obtain ⟨hP, hD, hO, hR⟩ := QTm.back hB1 ht hFc hR (fun q h => by simp only [List.mem_cons, List.not_mem_nil, or_false] at h ⊢; omega)
  have hF_140 : F_139 h0 = .inr (15, (.ref ta) :: (.int (nI zt)) :: (.int (nI zo_106)) :: (.int (nI ze_107)) :: (.ref ou) :: (.ref so) :: (.ref ad) :: (.ref na) :: (.ref va) :: (.ref lc) :: (.ref dm) :: (.int v11_108) :: (.int v12_109) :: (.ref tg) :: (.int v14_110) :: (.int v15_111) :: (.ref pe) :: (.int v17_112) :: (.int v18_113) :: (.int v19_114) :: (.int v20_115) :: (.int v21_116) :: (.int v22_117) :: (.ref ml) :: (.ref bg) :: (.ref co) :: (.ref sp) :: (.ref nb0) :: (.ref nb1) :: (.ref nb2) :: (.int (nI nf)) :: (.int (nI bd)) :: (.int (nI mm)) :: (.int v33_118) :: (.ref pl) :: (.ref se) :: (.ref ke) :: (.ref wi) :: (.ref hs) :: (.ref mo) :: (.ref po) :: (.ref nu) :: (.ref pr) :: (.ref sq) :: (.ref xa) :: (.ref sa) :: (.ref n64) :: (.ref m64) :: (.ref ex) :: (.ref wh) :: (.ref sd) :: (.ref tk) :: (.int v52_119) :: (.int v53_120) :: (.int v54_121) :: (.ref hd) :: (.ref ak) :: (.ref ho) :: (.ref ot) :: []) := (hB1.2.2.2 h0 (by rw [hT_h0]; simp)).trans hF_133
  generalize H1 = H at hP hS ⊢
  refine lv_aload_n hx hb dX15_isPower_22 rfl (lv_at hl 0 rfl) ?_
  refine lv_aload_n hx hb dX15_isPower_23 rfl (lv_at hl 0 rfl) ?_
  refine pg_get (ci := 15) (v := .ref nu) (C := RX15) (T := TX15) (N := 59) hx hb hts it_15 hown hK hP hL_h0 hF_140 rfl 41 (by decide) (hts _ kt_941) (fun _ h9 => h9) rfl dX15_isPower_24 ?_
  refine lv_bipush (v := 32) hx hb dX15_isPower_27 (by decide) ?_
  refine lv_aload_n hx hb dX15_isPower_29 rfl (lv_at hl 0 rfl) ?_
  refine pg_get (ci := 15) (v := .ref po) (C := RX15) (T := TX15) (N := 59) hx hb hts it_15 hown hK hP hL_h0 hF_140 rfl 40 (by decide) (hts _ kt_832) (fun _ h9 => h9) rfl dX15_isPower_30 ?_
  obtain ⟨hq_141, hq_142⟩ := hW.ints hi_64 ht_65
  have hFc := pg_free hD hS hA
  refine va_callv (va_runV (As := [.ref nu, .int 32, .ref po]) (rest := []) ⟨hx, hb, hml, hown, hts⟩ (s_X15_remainder_32 l dC dI cs ty gm L H.size F_139 h0 ρ ta ou so ad na va lc dm tg pe ml bg co sp nb0 nb1 nb2 pl se ke wi hs mo po nu pr sq xa sa n64 m64 ex wh sd tk hd ak ho ot sx s0 s1 s2 nf bd mm zt nu (ρ + 18) po (ρ + 18) hW hL_h0 hT_h0 hi_66 ht_67 hi_64 ht_65) ⟨callB_of 3 hts (gi kt_833) rfl rfl rfl (hts _ kt_669) (hts _ kt_834) (by decide +kernel) ⟨Nat.le_of_ble_eq_true rfl, Nat.le_of_ble_eq_true rfl⟩, (hts _ kt_835), (hts _ kt_836)⟩ ⟨fun a U g mk q => ⟨q.1, PTm.calling q.2⟩, pg_recv hK hP hL_h0 hF_140 (q := (RX15, TX15, 59)) rfl, fun U hU hWm => ⟨rfl, PTm.mk hU hWm hP hK hD hE hO⟩⟩ rfl rfl hl.1 rfl (lv_room (Nat.le_of_ble_eq_true rfl)) dX15_isPower_33 ⟨by show _ + 0 ≤ 0; omega, by show _ + 0 ≤ 0; omega⟩) hS (fun q _ h => hFc q h) hFc (fun u t H1 locs ht hvm hw hB hz1 hk1 hS => ?_)
  obtain ⟨F_144, hB1⟩ := hB
  obtain ⟨hP, hD, hO, hR⟩ := QTm.back hB1 ht hFc hR (fun q h => by simp only [List.mem_cons, List.not_mem_nil, or_false] at h ⊢; omega)
  have hF_145 : F_144 h0 = .inr (15, (.ref ta) :: (.int (nI zt)) :: (.int (nI zo_106)) :: (.int (nI ze_107)) :: (.ref ou) :: (.ref so) :: (.ref ad) :: (.ref na) :: (.ref va) :: (.ref lc) :: (.ref dm) :: (.int v11_108) :: (.int v12_109) :: (.ref tg) :: (.int v14_110) :: (.int v15_111) :: (.ref pe) :: (.int v17_112) :: (.int v18_113) :: (.int v19_114) :: (.int v20_115) :: (.int v21_116) :: (.int v22_117) :: (.ref ml) :: (.ref bg) :: (.ref co) :: (.ref sp) :: (.ref nb0) :: (.ref nb1) :: (.ref nb2) :: (.int (nI nf)) :: (.int (nI bd)) :: (.int (nI mm)) :: (.int v33_118) :: (.ref pl) :: (.ref se) :: (.ref ke) :: (.ref wi) :: (.ref hs) :: (.ref mo) :: (.ref po) :: (.ref nu) :: (.ref pr) :: (.ref sq) :: (.ref xa) :: (.ref sa) :: (.ref n64) :: (.ref m64) :: (.ref ex) :: (.ref wh) :: (.ref sd) :: (.ref tk) :: (.int v52_119) :: (.int v53_120) :: (.int v54_121) :: (.ref hd) :: (.ref ak) :: (.ref ho) :: (.ref ot) :: []) := (hB1.2.2.2 h0 (by rw [hT_h0]; simp)).trans hF_140
  generalize H1 = H at hP hS ⊢
  refine lv_aload_n hx hb dX15_isPower_36 rfl (lv_at hl 0 rfl) ?_
  refine pg_get (ci := 15) (v := .ref po) (C := RX15) (T := TX15) (N := 59) hx hb hts it_15 hown hK hP hL_h0 hF_145 rfl 40 (by decide) (hts _ kt_832) (fun _ h9 => h9) rfl dX15_isPower_37 ?_
  refine lv_iconst (v := 0) hx hb dX15_isPower_40 (by decide) ?_
  refine lv_aload_n hx hb dX15_isPower_41 rfl (lv_at hl 0 rfl) ?_
  refine pg_get (ci := 15) (v := .ref nu) (C := RX15) (T := TX15) (N := 59) hx hb hts it_15 hown hK hP hL_h0 hF_145 rfl 41 (by decide) (hts _ kt_941) (fun _ h9 => h9) rfl dX15_isPower_42 ?_
  refine lv_iconst (v := 0) hx hb dX15_isPower_45 (by decide) ?_
  refine lv_bipush (v := 33) hx hb dX15_isPower_46 (by decide) ?_
  obtain ⟨f_146, hF_147⟩ := hO.ints hi_64 ht_65
  obtain ⟨f_148, hF_149⟩ := hO.ints hi_66 ht_67
  refine pg_copyi hx hb (by rw [hml]; exact hl.1.symm) hown (hts _ kt_923) (hts _ kt_29) (hts _ kt_30) (hts _ kt_31) hK hP hD hS hi_64 hi_66 0 0 hF_147 hF_149 rfl rfl rfl (by decide) (by decide) (by decide) (by decide) (by decide) (fun _ _ => rfl) (Nat.le_of_ble_eq_true rfl) (by decide) dX15_isPower_48 (fun H locs hP hD hS => ?_)
  obtain ⟨F_150, he_151, hP, hD, hO, hR⟩ : ∃ G, G = va_up F_144 nu (.inl (cs 16, 33, .inl (va_cpy f_146 f_148 (0 : Int32).toNatClampNeg (0 : Int32).toNatClampNeg (33 : Int32).toNatClampNeg))) ∧ va_P (dC, dI) vwCl (va_pl L G) H ∧ va_D A (va_pl L G) ∧ OKm cs ty gm L G ∧ FR ty [ρ + 18, ρ + 23] F G := ⟨_, rfl, hP, hD, hO.up (shm.ints ht_67 ⟨_, rfl⟩), hR.up ht_67 (by simp)⟩
  have hF_152 : F_150 nu = .inl (cs 16, 33, .inl (va_cpy f_146 f_148 (0 : Int32).toNatClampNeg (0 : Int32).toNatClampNeg (33 : Int32).toNatClampNeg)) := by rw [he_151]; exact up_self
  have hF_153 : F_150 h0 = .inr (15, (.ref ta) :: (.int (nI zt)) :: (.int (nI zo_106)) :: (.int (nI ze_107)) :: (.ref ou) :: (.ref so) :: (.ref ad) :: (.ref na) :: (.ref va) :: (.ref lc) :: (.ref dm) :: (.int v11_108) :: (.int v12_109) :: (.ref tg) :: (.int v14_110) :: (.int v15_111) :: (.ref pe) :: (.int v17_112) :: (.int v18_113) :: (.int v19_114) :: (.int v20_115) :: (.int v21_116) :: (.int v22_117) :: (.ref ml) :: (.ref bg) :: (.ref co) :: (.ref sp) :: (.ref nb0) :: (.ref nb1) :: (.ref nb2) :: (.int (nI nf)) :: (.int (nI bd)) :: (.int (nI mm)) :: (.int v33_118) :: (.ref pl) :: (.ref se) :: (.ref ke) :: (.ref wi) :: (.ref hs) :: (.ref mo) :: (.ref po) :: (.ref nu) :: (.ref pr) :: (.ref sq) :: (.ref xa) :: (.ref sa) :: (.ref n64) :: (.ref m64) :: (.ref ex) :: (.ref wh) :: (.ref sd) :: (.ref tk) :: (.int v52_119) :: (.int v53_120) :: (.int v54_121) :: (.ref hd) :: (.ref ak) :: (.ref ho) :: (.ref ot) :: []) := by rw [he_151, up_ne (ne_ty hT_h0 ht_67 (by simp))]; exact hF_145
  obtain ⟨f_154, hF_152⟩ : ∃ f : Nat → Int32, F_150 nu = .inl (cs 16, 33, .inl f) := ⟨_, hF_152⟩
  refine lv_iconst (v := 0) hx hb dX15_isPower_51 (by decide) ?_
  refine lv_istore_n (lv' := [(1, .int 0), (0, .ref h0)]) hx hb dX15_isPower_52 rfl hl (by decide) rfl (fun ls hl => ?_)
  refine W.widen (k := 0) (n := 0) (by omega) (by omega) ?_
  have hF_156 : F h0 = .inr (15, (.ref ta) :: (.int (nI zt)) :: (.int (nI zo_106)) :: (.int (nI ze_107)) :: (.ref ou) :: (.ref so) :: (.ref ad) :: (.ref na) :: (.ref va) :: (.ref lc) :: (.ref dm) :: (.int v11_108) :: (.int v12_109) :: (.ref tg) :: (.int v14_110) :: (.int v15_111) :: (.ref pe) :: (.int v17_112) :: (.int v18_113) :: (.int v19_114) :: (.int v20_115) :: (.int v21_116) :: (.int v22_117) :: (.ref ml) :: (.ref bg) :: (.ref co) :: (.ref sp) :: (.ref nb0) :: (.ref nb1) :: (.ref nb2) :: (.int (nI nf)) :: (.int (nI bd)) :: (.int (nI mm)) :: (.int v33_118) :: (.ref pl) :: (.ref se) :: (.ref ke) :: (.ref wi) :: (.ref hs) :: (.ref mo) :: (.ref po) :: (.ref nu) :: (.ref pr) :: (.ref sq) :: (.ref xa) :: (.ref sa) :: (.ref n64) :: (.ref m64) :: (.ref ex) :: (.ref wh) :: (.ref sd) :: (.ref tk) :: (.int v52_119) :: (.int v53_120) :: (.int v54_121) :: (.ref hd) :: (.ref ak) :: (.ref ho) :: (.ref ot) :: []) := (hR h0 (by rw [hT_h0]; simp)).symm.trans hF_153
  refine pl_loopm (σ := Nat) A (dC, dI) cs ty gm L [ρ + 18, ρ + 23] F 53 3 (fun j => [(1, .int (nI j)), (0, .ref h0)]) (fun j => []) (fun j _ => j ≤ 16) (fun j => 16 - j) ?_ 0 F_150 (by omega) hO hR _ _ hP hD hS ls (lv_sub hl [0, 1] rfl)
  rintro j F_155 hv_157 hO hR ih_158 H locs hP hD hS ls hl
  have hl : lv_has ls 3 [(1, .int (nI j)), (0, .ref h0)] := hl
  have hv_157 : j ≤ 16 := hv_157
  refine W.eq (g2 := F0 m 53 ls []) rfl ?_
  have hF_159 : F_155 h0 = .inr (15, (.ref ta) :: (.int (nI zt)) :: (.int (nI zo_106)) :: (.int (nI ze_107)) :: (.ref ou) :: (.ref so) :: (.ref ad) :: (.ref na) :: (.ref va) :: (.ref lc) :: (.ref dm) :: (.int v11_108) :: (.int v12_109) :: (.ref tg) :: (.int v14_110) :: (.int v15_111) :: (.ref pe) :: (.int v17_112) :: (.int v18_113) :: (.int v19_114) :: (.int v20_115) :: (.int v21_116) :: (.int v22_117) :: (.ref ml) :: (.ref bg) :: (.ref co) :: (.ref sp) :: (.ref nb0) :: (.ref nb1) :: (.ref nb2) :: (.int (nI nf)) :: (.int (nI bd)) :: (.int (nI mm)) :: (.int v33_118) :: (.ref pl) :: (.ref se) :: (.ref ke) :: (.ref wi) :: (.ref hs) :: (.ref mo) :: (.ref po) :: (.ref nu) :: (.ref pr) :: (.ref sq) :: (.ref xa) :: (.ref sa) :: (.ref n64) :: (.ref m64) :: (.ref ex) :: (.ref wh) :: (.ref sd) :: (.ref tk) :: (.int v52_119) :: (.int v53_120) :: (.int v54_121) :: (.ref hd) :: (.ref ak) :: (.ref ho) :: (.ref ot) :: []) := (hR h0 (by rw [hT_h0]; simp)).trans hF_156
  refine lv_iload_n hx hb dX15_isPower_53 rfl (lv_at hl 0 rfl) ?_
  refine lv_bipush (v := 16) hx hb dX15_isPower_54 (by decide) ?_
  refine lv_icmp_ge (tgt := 88) hx hb dX15_isPower_56 (by decide) (fun c_160 => ?_) (fun c_160 => ?_)
  ·
    have hi_161 : 16 ≤ j := leN (N := 16) c_160
    refine lv_aload_n hx hb dX15_isPower_88 rfl (lv_at hl 1 rfl) ?_
    refine lv_aload_n hx hb dX15_isPower_89 rfl (lv_at hl 1 rfl) ?_
    refine pg_get (ci := 15) (v := .ref nu) (C := RX15) (T := TX15) (N := 59) hx hb hts it_15 hown hK hP hL_h0 hF_159 rfl 41 (by decide) (hts _ kt_941) (fun _ h9 => h9) rfl dX15_isPower_90 ?_
    have hFc := pg_free hD hS hA
    refine va_callv (va_runV (As := [.ref nu]) (rest := []) ⟨hx, hb, hml, hown, hts⟩ (s_X15_times l dC dI cs ty gm L H.size F_155 h0 ρ ta ou so ad na va lc dm tg pe ml bg co sp nb0 nb1 nb2 pl se ke wi hs mo po nu pr sq xa sa n64 m64 ex wh sd tk hd ak ho ot sx s0 s1 s2 nf bd mm zt nu (ρ + 18) hW hL_h0 hT_h0 hi_66 ht_67) ⟨callB_of 1 hts (gi kt_942) rfl rfl rfl (hts _ kt_669) (hts _ kt_943) (by decide +kernel) ⟨Nat.le_of_ble_eq_true rfl, Nat.le_of_ble_eq_true rfl⟩, (hts _ kt_944), (hts _ kt_945)⟩ ⟨fun a U g mk q => ⟨q.1, PTm.calling q.2⟩, pg_recv hK hP hL_h0 hF_159 (q := (RX15, TX15, 59)) rfl, fun U hU hWm => ⟨rfl, PTm.mk hU hWm hP hK hD hE hO⟩⟩ rfl rfl hl.1 rfl (lv_room (Nat.le_of_ble_eq_true rfl)) dX15_isPower_93 ⟨by show _ + 0 ≤ 0; omega, by show _ + 0 ≤ 0; omega⟩) hS (fun q _ h => hFc q h) hFc (fun u t H1 locs ht hvm hw hB hz1 hk1 hS => ?_)
    obtain ⟨F_163, hB1⟩ := hB
    obtain ⟨hP, hD, hO, hR⟩ := QTm.back hB1 ht hFc hR (fun q h => by simp only [List.mem_cons, List.not_mem_nil, or_false] at h ⊢; omega)
    have hF_164 : F_163 h0 = .inr (15, (.ref ta) :: (.int (nI zt)) :: (.int (nI zo_106)) :: (.int (nI ze_107)) :: (.ref ou) :: (.ref so) :: (.ref ad) :: (.ref na) :: (.ref va) :: (.ref lc) :: (.ref dm) :: (.int v11_108) :: (.int v12_109) :: (.ref tg) :: (.int v14_110) :: (.int v15_111) :: (.ref pe) :: (.int v17_112) :: (.int v18_113) :: (.int v19_114) :: (.int v20_115) :: (.int v21_116) :: (.int v22_117) :: (.ref ml) :: (.ref bg) :: (.ref co) :: (.ref sp) :: (.ref nb0) :: (.ref nb1) :: (.ref nb2) :: (.int (nI nf)) :: (.int (nI bd)) :: (.int (nI mm)) :: (.int v33_118) :: (.ref pl) :: (.ref se) :: (.ref ke) :: (.ref wi) :: (.ref hs) :: (.ref mo) :: (.ref po) :: (.ref nu) :: (.ref pr) :: (.ref sq) :: (.ref xa) :: (.ref sa) :: (.ref n64) :: (.ref m64) :: (.ref ex) :: (.ref wh) :: (.ref sd) :: (.ref tk) :: (.int v52_119) :: (.int v53_120) :: (.int v54_121) :: (.ref hd) :: (.ref ak) :: (.ref ho) :: (.ref ot) :: []) := (hB1.2.2.2 h0 (by rw [hT_h0]; simp)).trans hF_159
    generalize H1 = H at hP hS ⊢
    refine lv_aload_n hx hb dX15_isPower_96 rfl (lv_at hl 1 rfl) ?_
    refine pg_get (ci := 15) (v := .ref ex) (C := RX15) (T := TX15) (N := 59) hx hb hts it_15 hown hK hP hL_h0 hF_164 rfl 48 (by decide) (hts _ kt_946) (fun _ h9 => h9) rfl dX15_isPower_97 ?_
    refine lv_iconst (v := (-1)) hx hb dX15_isPower_100 (by decide) ?_
    obtain ⟨hq_165, hq_166⟩ := hW.octs hi_80 ht_81
    have hFc := pg_free hD hS hA
    refine va_callv (va_runS (As := [.ref ex, .int (-1)]) (rest := []) ⟨hx, hb, hml, hown, hts⟩ (m_J7_fill_031fb l dC dI cs ty gm L H.size F_163 ex (ρ + 23) 64 (-1) hW hi_80 ht_81 (by first | omega | assumption)) ⟨callB_of 2 hts (gi kt_947) rfl rfl rfl (hts _ kt_823) (hts _ kt_948) (by decide +kernel) ⟨Nat.le_of_ble_eq_true rfl, Nat.le_of_ble_eq_true rfl⟩, (hts _ kt_949)⟩ ⟨fun a U g mk q => ⟨q.1, PTm.calling q.2⟩, fun U hU hWm => ⟨rfl, PTm.mk hU hWm hP hK hD hE hO⟩⟩ rfl rfl hl.1 rfl (lv_room (Nat.le_of_ble_eq_true rfl)) dX15_isPower_101 ⟨by show _ + 0 ≤ 0; omega, by show _ + 0 ≤ 0; omega⟩) hS (fun q _ h => hFc q h) hFc (fun u t H1 locs ht hvm hw hB hz1 hk1 hS => ?_)
    obtain ⟨F_168, hB1⟩ := hB
    obtain ⟨hP, hD, hO, hR⟩ := QTm.back hB1 ht hFc hR (fun q h => by simp only [List.mem_cons, List.not_mem_nil, or_false] at h ⊢; omega)
    have hF_169 : F_168 h0 = .inr (15, (.ref ta) :: (.int (nI zt)) :: (.int (nI zo_106)) :: (.int (nI ze_107)) :: (.ref ou) :: (.ref so) :: (.ref ad) :: (.ref na) :: (.ref va) :: (.ref lc) :: (.ref dm) :: (.int v11_108) :: (.int v12_109) :: (.ref tg) :: (.int v14_110) :: (.int v15_111) :: (.ref pe) :: (.int v17_112) :: (.int v18_113) :: (.int v19_114) :: (.int v20_115) :: (.int v21_116) :: (.int v22_117) :: (.ref ml) :: (.ref bg) :: (.ref co) :: (.ref sp) :: (.ref nb0) :: (.ref nb1) :: (.ref nb2) :: (.int (nI nf)) :: (.int (nI bd)) :: (.int (nI mm)) :: (.int v33_118) :: (.ref pl) :: (.ref se) :: (.ref ke) :: (.ref wi) :: (.ref hs) :: (.ref mo) :: (.ref po) :: (.ref nu) :: (.ref pr) :: (.ref sq) :: (.ref xa) :: (.ref sa) :: (.ref n64) :: (.ref m64) :: (.ref ex) :: (.ref wh) :: (.ref sd) :: (.ref tk) :: (.int v52_119) :: (.int v53_120) :: (.int v54_121) :: (.ref hd) :: (.ref ak) :: (.ref ho) :: (.ref ot) :: []) := (hB1.2.2.2 h0 (by rw [hT_h0]; simp)).trans hF_164
    generalize H1 = H at hP hS ⊢
    refine lv_aload_n hx hb dX15_isPower_104 rfl (lv_at hl 1 rfl) ?_
    refine pg_get (ci := 15) (v := .ref ex) (C := RX15) (T := TX15) (N := 59) hx hb hts it_15 hown hK hP hL_h0 hF_169 rfl 48 (by decide) (hts _ kt_946) (fun _ h9 => h9) rfl dX15_isPower_105 ?_
    refine lv_iconst (v := 0) hx hb dX15_isPower_108 (by decide) ?_
    refine lv_iconst (v := 0) hx hb dX15_isPower_109 (by decide) ?_
    obtain ⟨f_170, hF_171, hq_172⟩ := hO.octs hi_80 ht_81
    refine pg_bast hx hb hK hP hD hS hi_80 1 hF_171 rfl (show vp_in (0 : Int32) 64 from (show vp_in (nI 0) 64 from vp_in_nI (by omega) (by omega))) dX15_isPower_110 (fun H locs hP hD hS => ?_)
    obtain ⟨F_173, he_174, hP, hD, hO, hR⟩ : ∃ G, G = va_up F_168 ex (.inl (cs 17, 64, .inl (upd f_170 (0 : Int32).toNatClampNeg (vp_nar .byte (0))))) ∧ va_P (dC, dI) vwCl (va_pl L G) H ∧ va_D A (va_pl L G) ∧ OKm cs ty gm L G ∧ FR ty [ρ + 18, ρ + 23] F G := ⟨_, rfl, hP, hD, hO.up (shm.octs ht_81 ⟨_, rfl, bfm_upd hq_172 _ _⟩), hR.up ht_81 (by simp)⟩
    have hF_175 : F_173 ex = .inl (cs 17, 64, .inl (upd f_170 (0 : Int32).toNatClampNeg (vp_nar .byte (0)))) := by rw [he_174]; exact up_self
    have hF_176 : F_173 h0 = .inr (15, (.ref ta) :: (.int (nI zt)) :: (.int (nI zo_106)) :: (.int (nI ze_107)) :: (.ref ou) :: (.ref so) :: (.ref ad) :: (.ref na) :: (.ref va) :: (.ref lc) :: (.ref dm) :: (.int v11_108) :: (.int v12_109) :: (.ref tg) :: (.int v14_110) :: (.int v15_111) :: (.ref pe) :: (.int v17_112) :: (.int v18_113) :: (.int v19_114) :: (.int v20_115) :: (.int v21_116) :: (.int v22_117) :: (.ref ml) :: (.ref bg) :: (.ref co) :: (.ref sp) :: (.ref nb0) :: (.ref nb1) :: (.ref nb2) :: (.int (nI nf)) :: (.int (nI bd)) :: (.int (nI mm)) :: (.int v33_118) :: (.ref pl) :: (.ref se) :: (.ref ke) :: (.ref wi) :: (.ref hs) :: (.ref mo) :: (.ref po) :: (.ref nu) :: (.ref pr) :: (.ref sq) :: (.ref xa) :: (.ref sa) :: (.ref n64) :: (.ref m64) :: (.ref ex) :: (.ref wh) :: (.ref sd) :: (.ref tk) :: (.int v52_119) :: (.int v53_120) :: (.int v54_121) :: (.ref hd) :: (.ref ak) :: (.ref ho) :: (.ref ot) :: []) := by rw [he_174, up_ne (ne_ty hT_h0 ht_81 (by simp))]; exact hF_169
    obtain ⟨f_177, hF_175, hq_178⟩ : ∃ f : Nat → Int32, F_173 ex = .inl (cs 17, 64, .inl f) ∧ BFm f := ⟨_, hF_175, bfm_upd hq_172 _ _⟩
    refine lv_aload_n hx hb dX15_isPower_111 rfl (lv_at hl 1 rfl) ?_
    refine pg_get (ci := 15) (v := .ref ex) (C := RX15) (T := TX15) (N := 59) hx hb hts it_15 hown hK hP hL_h0 hF_176 rfl 48 (by decide) (hts _ kt_946) (fun _ h9 => h9) rfl dX15_isPower_112 ?_
    refine lv_iconst (v := 1) hx hb dX15_isPower_115 (by decide) ?_
    refine lv_iconst (v := 1) hx hb dX15_isPower_116 (by decide) ?_
    refine pg_bast hx hb hK hP hD hS hi_80 1 hF_175 rfl (show vp_in (1 : Int32) 64 from (show vp_in (nI 1) 64 from vp_in_nI (by omega) (by omega))) dX15_isPower_117 (fun H locs hP hD hS => ?_)
    obtain ⟨F_179, he_180, hP, hD, hO, hR⟩ : ∃ G, G = va_up F_173 ex (.inl (cs 17, 64, .inl (upd f_177 (1 : Int32).toNatClampNeg (vp_nar .byte (1))))) ∧ va_P (dC, dI) vwCl (va_pl L G) H ∧ va_D A (va_pl L G) ∧ OKm cs ty gm L G ∧ FR ty [ρ + 18, ρ + 23] F G := ⟨_, rfl, hP, hD, hO.up (shm.octs ht_81 ⟨_, rfl, bfm_upd hq_178 _ _⟩), hR.up ht_81 (by simp)⟩
    have hF_181 : F_179 ex = .inl (cs 17, 64, .inl (upd f_177 (1 : Int32).toNatClampNeg (vp_nar .byte (1)))) := by rw [he_180]; exact up_self
    have hF_182 : F_179 h0 = .inr (15, (.ref ta) :: (.int (nI zt)) :: (.int (nI zo_106)) :: (.int (nI ze_107)) :: (.ref ou) :: (.ref so) :: (.ref ad) :: (.ref na) :: (.ref va) :: (.ref lc) :: (.ref dm) :: (.int v11_108) :: (.int v12_109) :: (.ref tg) :: (.int v14_110) :: (.int v15_111) :: (.ref pe) :: (.int v17_112) :: (.int v18_113) :: (.int v19_114) :: (.int v20_115) :: (.int v21_116) :: (.int v22_117) :: (.ref ml) :: (.ref bg) :: (.ref co) :: (.ref sp) :: (.ref nb0) :: (.ref nb1) :: (.ref nb2) :: (.int (nI nf)) :: (.int (nI bd)) :: (.int (nI mm)) :: (.int v33_118) :: (.ref pl) :: (.ref se) :: (.ref ke) :: (.ref wi) :: (.ref hs) :: (.ref mo) :: (.ref po) :: (.ref nu) :: (.ref pr) :: (.ref sq) :: (.ref xa) :: (.ref sa) :: (.ref n64) :: (.ref m64) :: (.ref ex) :: (.ref wh) :: (.ref sd) :: (.ref tk) :: (.int v52_119) :: (.int v53_120) :: (.int v54_121) :: (.ref hd) :: (.ref ak) :: (.ref ho) :: (.ref ot) :: []) := by rw [he_180, up_ne (ne_ty hT_h0 ht_81 (by simp))]; exact hF_176
    obtain ⟨f_183, hF_181, hq_184⟩ : ∃ f : Nat → Int32, F_179 ex = .inl (cs 17, 64, .inl f) ∧ BFm f := ⟨_, hF_181, bfm_upd hq_178 _ _⟩
    refine lv_aload_n hx hb dX15_isPower_118 rfl (lv_at hl 1 rfl) ?_
    refine pg_get (ci := 15) (v := .ref ex) (C := RX15) (T := TX15) (N := 59) hx hb hts it_15 hown hK hP hL_h0 hF_182 rfl 48 (by decide) (hts _ kt_946) (fun _ h9 => h9) rfl dX15_isPower_119 ?_
    refine lv_bipush (v := 12) hx hb dX15_isPower_122 (by decide) ?_
    refine lv_iconst (v := 0) hx hb dX15_isPower_124 (by decide) ?_
    refine pg_bast hx hb hK hP hD hS hi_80 1 hF_181 rfl (show vp_in (12 : Int32) 64 from (show vp_in (nI 12) 64 from vp_in_nI (by omega) (by omega))) dX15_isPower_125 (fun H locs hP hD hS => ?_)
    obtain ⟨F_185, he_186, hP, hD, hO, hR⟩ : ∃ G, G = va_up F_179 ex (.inl (cs 17, 64, .inl (upd f_183 (12 : Int32).toNatClampNeg (vp_nar .byte (0))))) ∧ va_P (dC, dI) vwCl (va_pl L G) H ∧ va_D A (va_pl L G) ∧ OKm cs ty gm L G ∧ FR ty [ρ + 18, ρ + 23] F G := ⟨_, rfl, hP, hD, hO.up (shm.octs ht_81 ⟨_, rfl, bfm_upd hq_184 _ _⟩), hR.up ht_81 (by simp)⟩
    have hF_187 : F_185 ex = .inl (cs 17, 64, .inl (upd f_183 (12 : Int32).toNatClampNeg (vp_nar .byte (0)))) := by rw [he_186]; exact up_self
    have hF_188 : F_185 h0 = .inr (15, (.ref ta) :: (.int (nI zt)) :: (.int (nI zo_106)) :: (.int (nI ze_107)) :: (.ref ou) :: (.ref so) :: (.ref ad) :: (.ref na) :: (.ref va) :: (.ref lc) :: (.ref dm) :: (.int v11_108) :: (.int v12_109) :: (.ref tg) :: (.int v14_110) :: (.int v15_111) :: (.ref pe) :: (.int v17_112) :: (.int v18_113) :: (.int v19_114) :: (.int v20_115) :: (.int v21_116) :: (.int v22_117) :: (.ref ml) :: (.ref bg) :: (.ref co) :: (.ref sp) :: (.ref nb0) :: (.ref nb1) :: (.ref nb2) :: (.int (nI nf)) :: (.int (nI bd)) :: (.int (nI mm)) :: (.int v33_118) :: (.ref pl) :: (.ref se) :: (.ref ke) :: (.ref wi) :: (.ref hs) :: (.ref mo) :: (.ref po) :: (.ref nu) :: (.ref pr) :: (.ref sq) :: (.ref xa) :: (.ref sa) :: (.ref n64) :: (.ref m64) :: (.ref ex) :: (.ref wh) :: (.ref sd) :: (.ref tk) :: (.int v52_119) :: (.int v53_120) :: (.int v54_121) :: (.ref hd) :: (.ref ak) :: (.ref ho) :: (.ref ot) :: []) := by rw [he_186, up_ne (ne_ty hT_h0 ht_81 (by simp))]; exact hF_182
    obtain ⟨f_189, hF_187, hq_190⟩ : ∃ f : Nat → Int32, F_185 ex = .inl (cs 17, 64, .inl f) ∧ BFm f := ⟨_, hF_187, bfm_upd hq_184 _ _⟩
    refine lv_iconst (v := 0) hx hb dX15_isPower_126 (by decide) ?_
    refine lv_istore_n (lv' := [(1, .int 0), (0, .ref h0)]) hx hb dX15_isPower_127 rfl hl (by decide) rfl (fun ls hl => ?_)
    refine W.widen (k := 0) (n := 0) (by omega) (by omega) ?_
    have hF_192 : F h0 = .inr (15, (.ref ta) :: (.int (nI zt)) :: (.int (nI zo_106)) :: (.int (nI ze_107)) :: (.ref ou) :: (.ref so) :: (.ref ad) :: (.ref na) :: (.ref va) :: (.ref lc) :: (.ref dm) :: (.int v11_108) :: (.int v12_109) :: (.ref tg) :: (.int v14_110) :: (.int v15_111) :: (.ref pe) :: (.int v17_112) :: (.int v18_113) :: (.int v19_114) :: (.int v20_115) :: (.int v21_116) :: (.int v22_117) :: (.ref ml) :: (.ref bg) :: (.ref co) :: (.ref sp) :: (.ref nb0) :: (.ref nb1) :: (.ref nb2) :: (.int (nI nf)) :: (.int (nI bd)) :: (.int (nI mm)) :: (.int v33_118) :: (.ref pl) :: (.ref se) :: (.ref ke) :: (.ref wi) :: (.ref hs) :: (.ref mo) :: (.ref po) :: (.ref nu) :: (.ref pr) :: (.ref sq) :: (.ref xa) :: (.ref sa) :: (.ref n64) :: (.ref m64) :: (.ref ex) :: (.ref wh) :: (.ref sd) :: (.ref tk) :: (.int v52_119) :: (.int v53_120) :: (.int v54_121) :: (.ref hd) :: (.ref ak) :: (.ref ho) :: (.ref ot) :: []) := (hR h0 (by rw [hT_h0]; simp)).symm.trans hF_188
    refine pl_loopm (σ := Nat) A (dC, dI) cs ty gm L [ρ + 18, ρ + 23] F 128 3 (fun j2 => [(1, .int (nI j2)), (0, .ref h0)]) (fun j2 => []) (fun j2 _ => j2 ≤ 19) (fun j2 => 19 - j2) ?_ 0 F_185 (by omega) hO hR _ _ hP hD hS ls (lv_sub hl [0, 1] rfl)
    rintro j2 F_191 hv_193 hO hR ih_194 H locs hP hD hS ls hl
    have hl : lv_has ls 3 [(1, .int (nI j2)), (0, .ref h0)] := hl
    have hv_193 : j2 ≤ 19 := hv_193
    refine W.eq (g2 := F0 m 128 ls []) rfl ?_
    have hF_195 : F_191 h0 = .inr (15, (.ref ta) :: (.int (nI zt)) :: (.int (nI zo_106)) :: (.int (nI ze_107)) :: (.ref ou) :: (.ref so) :: (.ref ad) :: (.ref na) :: (.ref va) :: (.ref lc) :: (.ref dm) :: (.int v11_108) :: (.int v12_109) :: (.ref tg) :: (.int v14_110) :: (.int v15_111) :: (.ref pe) :: (.int v17_112) :: (.int v18_113) :: (.int v19_114) :: (.int v20_115) :: (.int v21_116) :: (.int v22_117) :: (.ref ml) :: (.ref bg) :: (.ref co) :: (.ref sp) :: (.ref nb0) :: (.ref nb1) :: (.ref nb2) :: (.int (nI nf)) :: (.int (nI bd)) :: (.int (nI mm)) :: (.int v33_118) :: (.ref pl) :: (.ref se) :: (.ref ke) :: (.ref wi) :: (.ref hs) :: (.ref mo) :: (.ref po) :: (.ref nu) :: (.ref pr) :: (.ref sq) :: (.ref xa) :: (.ref sa) :: (.ref n64) :: (.ref m64) :: (.ref ex) :: (.ref wh) :: (.ref sd) :: (.ref tk) :: (.int v52_119) :: (.int v53_120) :: (.int v54_121) :: (.ref hd) :: (.ref ak) :: (.ref ho) :: (.ref ot) :: []) := (hR h0 (by rw [hT_h0]; simp)).trans hF_192
    refine lv_iload_n hx hb dX15_isPower_128 rfl (lv_at hl 0 rfl) ?_
    refine lv_bipush (v := 19) hx hb dX15_isPower_129 (by decide) ?_
    refine lv_icmp_ge (tgt := 156) hx hb dX15_isPower_131 (by decide) (fun c_196 => ?_) (fun c_196 => ?_)
    ·
      have hi_197 : 19 ≤ j2 := leN (N := 19) c_196
      refine lv_aload_n hx hb dX15_isPower_156 rfl (lv_at hl 1 rfl) ?_
      refine pg_get (ci := 15) (v := .ref xa) (C := RX15) (T := TX15) (N := 59) hx hb hts it_15 hown hK hP hL_h0 hF_195 rfl 44 (by decide) (hts _ kt_950) (fun _ h9 => h9) rfl dX15_isPower_157 ?_
      refine lv_iconst (v := 0) hx hb dX15_isPower_160 (by decide) ?_
      refine lv_aload_n hx hb dX15_isPower_161 rfl (lv_at hl 1 rfl) ?_
      refine pg_get (ci := 15) (v := .ref ex) (C := RX15) (T := TX15) (N := 59) hx hb hts it_15 hown hK hP hL_h0 hF_195 rfl 48 (by decide) (hts _ kt_946) (fun _ h9 => h9) rfl dX15_isPower_162 ?_
      refine lv_bipush (v := 32) hx hb dX15_isPower_165 (by decide) ?_
      refine lv_bipush (v := 32) hx hb dX15_isPower_167 (by decide) ?_
      obtain ⟨hq_198, hq_199⟩ := hW.octs hi_72 ht_73
      obtain ⟨f_200, hF_201, hq_202⟩ := hO.octs hi_72 ht_73
      obtain ⟨f_203, hF_204, hq_205⟩ := hO.octs hi_80 ht_81
      refine pg_copyi hx hb (by rw [hml]; exact hl.1.symm) hown (hts _ kt_923) (hts _ kt_29) (hts _ kt_30) (hts _ kt_31) hK hP hD hS hi_72 hi_80 1 1 hF_201 hF_204 rfl rfl rfl (by decide) (by decide) (by decide) (by decide) (by decide) (fun _ _ => hq_202 _) (Nat.le_of_ble_eq_true rfl) (by decide) dX15_isPower_169 (fun H locs hP hD hS => ?_)
      obtain ⟨F_206, he_207, hP, hD, hO, hR⟩ : ∃ G, G = va_up F_191 ex (.inl (cs 17, 64, .inl (va_cpy f_200 f_203 (0 : Int32).toNatClampNeg (32 : Int32).toNatClampNeg (32 : Int32).toNatClampNeg))) ∧ va_P (dC, dI) vwCl (va_pl L G) H ∧ va_D A (va_pl L G) ∧ OKm cs ty gm L G ∧ FR ty [ρ + 18, ρ + 23] F G := ⟨_, rfl, hP, hD, hO.up (shm.octs ht_81 ⟨_, rfl, bfm_cpy hq_202 hq_205 _ _ _⟩), hR.up ht_81 (by simp)⟩
      have hF_208 : F_206 ex = .inl (cs 17, 64, .inl (va_cpy f_200 f_203 (0 : Int32).toNatClampNeg (32 : Int32).toNatClampNeg (32 : Int32).toNatClampNeg)) := by rw [he_207]; exact up_self
      have hF_209 : F_206 h0 = .inr (15, (.ref ta) :: (.int (nI zt)) :: (.int (nI zo_106)) :: (.int (nI ze_107)) :: (.ref ou) :: (.ref so) :: (.ref ad) :: (.ref na) :: (.ref va) :: (.ref lc) :: (.ref dm) :: (.int v11_108) :: (.int v12_109) :: (.ref tg) :: (.int v14_110) :: (.int v15_111) :: (.ref pe) :: (.int v17_112) :: (.int v18_113) :: (.int v19_114) :: (.int v20_115) :: (.int v21_116) :: (.int v22_117) :: (.ref ml) :: (.ref bg) :: (.ref co) :: (.ref sp) :: (.ref nb0) :: (.ref nb1) :: (.ref nb2) :: (.int (nI nf)) :: (.int (nI bd)) :: (.int (nI mm)) :: (.int v33_118) :: (.ref pl) :: (.ref se) :: (.ref ke) :: (.ref wi) :: (.ref hs) :: (.ref mo) :: (.ref po) :: (.ref nu) :: (.ref pr) :: (.ref sq) :: (.ref xa) :: (.ref sa) :: (.ref n64) :: (.ref m64) :: (.ref ex) :: (.ref wh) :: (.ref sd) :: (.ref tk) :: (.int v52_119) :: (.int v53_120) :: (.int v54_121) :: (.ref hd) :: (.ref ak) :: (.ref ho) :: (.ref ot) :: []) := by rw [he_207, up_ne (ne_ty hT_h0 ht_81 (by simp))]; exact hF_195
      have hF_210 : F_206 xa = .inl (cs 17, 32, .inl f_200) := by rw [he_207, up_ne (ne_ty2 ht_73 ht_81 (by simp))]; exact hF_201
      obtain ⟨f_211, hF_208, hq_212⟩ : ∃ f : Nat → Int32, F_206 ex = .inl (cs 17, 64, .inl f) ∧ BFm f := ⟨_, hF_208, bfm_cpy hq_202 hq_205 _ _ _⟩
      refine lv_aload_n hx hb dX15_isPower_172 rfl (lv_at hl 1 rfl) ?_
      refine pg_get (ci := 15) (v := .ref ex) (C := RX15) (T := TX15) (N := 59) hx hb hts it_15 hown hK hP hL_h0 hF_209 rfl 48 (by decide) (hts _ kt_946) (fun _ h9 => h9) rfl dX15_isPower_173 ?_
      refine lv_aload_n hx hb dX15_isPower_176 rfl (lv_at hl 1 rfl) ?_
      refine pg_get (ci := 15) (v := .ref sq) (C := RX15) (T := TX15) (N := 59) hx hb hts it_15 hown hK hP hL_h0 hF_209 rfl 43 (by decide) (hts _ kt_951) (fun _ h9 => h9) rfl dX15_isPower_177 ?_
      obtain ⟨hq_213, hq_214⟩ := hW.ints hi_70 ht_71
      have hFc := pg_free hD hS hA
      refine va_callv (va_runS (As := [.ref ex, .ref sq]) (rest := []) ⟨hx, hb, hml, hown, hts⟩ (s_X15_digits l dC dI cs ty gm L H.size F_206 ex (ρ + 23) sq (ρ + 18) hW hi_80 ht_81 hi_70 ht_71) ⟨callB_of 2 hts (gi kt_938) rfl rfl rfl (hts _ kt_669) (hts _ kt_939) (by decide +kernel) ⟨Nat.le_of_ble_eq_true rfl, Nat.le_of_ble_eq_true rfl⟩, (hts _ kt_940)⟩ ⟨fun a U g mk q => ⟨q.1, PTm.calling q.2⟩, fun U hU hWm => ⟨rfl, PTm.mk hU hWm hP hK hD hE hO⟩⟩ rfl rfl hl.1 rfl (lv_room (Nat.le_of_ble_eq_true rfl)) dX15_isPower_180 ⟨by show _ + 0 ≤ 0; omega, by show _ + 0 ≤ 0; omega⟩) hS (fun q _ h => hFc q h) hFc (fun u t H1 locs ht hvm hw hB hz1 hk1 hS => ?_)
      obtain ⟨F_216, hB1⟩ := hB
      obtain ⟨hP, hD, hO, hR⟩ := QTm.back hB1 ht hFc hR (fun q h => by simp only [List.mem_cons, List.not_mem_nil, or_false] at h ⊢; omega)
      have hF_217 : F_216 ex = .inl (cs 17, 64, .inl f_211) := (hB1.2.2.2 ex (by rw [ht_81]; simp)).trans hF_208
      have hF_218 : F_216 h0 = .inr (15, (.ref ta) :: (.int (nI zt)) :: (.int (nI zo_106)) :: (.int (nI ze_107)) :: (.ref ou) :: (.ref so) :: (.ref ad) :: (.ref na) :: (.ref va) :: (.ref lc) :: (.ref dm) :: (.int v11_108) :: (.int v12_109) :: (.ref tg) :: (.int v14_110) :: (.int v15_111) :: (.ref pe) :: (.int v17_112) :: (.int v18_113) :: (.int v19_114) :: (.int v20_115) :: (.int v21_116) :: (.int v22_117) :: (.ref ml) :: (.ref bg) :: (.ref co) :: (.ref sp) :: (.ref nb0) :: (.ref nb1) :: (.ref nb2) :: (.int (nI nf)) :: (.int (nI bd)) :: (.int (nI mm)) :: (.int v33_118) :: (.ref pl) :: (.ref se) :: (.ref ke) :: (.ref wi) :: (.ref hs) :: (.ref mo) :: (.ref po) :: (.ref nu) :: (.ref pr) :: (.ref sq) :: (.ref xa) :: (.ref sa) :: (.ref n64) :: (.ref m64) :: (.ref ex) :: (.ref wh) :: (.ref sd) :: (.ref tk) :: (.int v52_119) :: (.int v53_120) :: (.int v54_121) :: (.ref hd) :: (.ref ak) :: (.ref ho) :: (.ref ot) :: []) := (hB1.2.2.2 h0 (by rw [hT_h0]; simp)).trans hF_209
      have hF_219 : F_216 xa = .inl (cs 17, 32, .inl f_200) := (hB1.2.2.2 xa (by rw [ht_73]; simp)).trans hF_210
      generalize H1 = H at hP hS ⊢
      refine lv_iconst (v := 1) hx hb dX15_isPower_183 (by decide) ?_
      refine lv_istore_n (lv' := [(1, .int 1), (0, .ref h0)]) hx hb dX15_isPower_184 rfl hl (by decide) rfl (fun ls hl => ?_)
      refine lv_iconst (v := 0) hx hb dX15_isPower_185 (by decide) ?_
      refine lv_istore_n (lv' := [(2, .int 0), (1, .int 1), (0, .ref h0)]) hx hb dX15_isPower_186 rfl hl (by decide) rfl (fun ls hl => ?_)
      refine W.widen (k := 0) (n := 0) (by omega) (by omega) ?_
      have hF_221 : F h0 = .inr (15, (.ref ta) :: (.int (nI zt)) :: (.int (nI zo_106)) :: (.int (nI ze_107)) :: (.ref ou) :: (.ref so) :: (.ref ad) :: (.ref na) :: (.ref va) :: (.ref lc) :: (.ref dm) :: (.int v11_108) :: (.int v12_109) :: (.ref tg) :: (.int v14_110) :: (.int v15_111) :: (.ref pe) :: (.int v17_112) :: (.int v18_113) :: (.int v19_114) :: (.int v20_115) :: (.int v21_116) :: (.int v22_117) :: (.ref ml) :: (.ref bg) :: (.ref co) :: (.ref sp) :: (.ref nb0) :: (.ref nb1) :: (.ref nb2) :: (.int (nI nf)) :: (.int (nI bd)) :: (.int (nI mm)) :: (.int v33_118) :: (.ref pl) :: (.ref se) :: (.ref ke) :: (.ref wi) :: (.ref hs) :: (.ref mo) :: (.ref po) :: (.ref nu) :: (.ref pr) :: (.ref sq) :: (.ref xa) :: (.ref sa) :: (.ref n64) :: (.ref m64) :: (.ref ex) :: (.ref wh) :: (.ref sd) :: (.ref tk) :: (.int v52_119) :: (.int v53_120) :: (.int v54_121) :: (.ref hd) :: (.ref ak) :: (.ref ho) :: (.ref ot) :: []) := (hR h0 (by rw [hT_h0]; simp)).symm.trans hF_218
      have hF_222 : F xa = .inl (cs 17, 32, .inl f_200) := (hR xa (by rw [ht_73]; simp)).symm.trans hF_219
      refine pl_loopm (σ := Nat × Int32) A (dC, dI) cs ty gm L [ρ + 18, ρ + 23] F 187 3 (fun (j3, w1) => [(2, .int (nI j3)), (1, .int w1), (0, .ref h0)]) (fun (j3, w1) => []) (fun (j3, w1) _ => j3 ≤ 33 ∧ (w1 = 0 ∨ w1 = 1)) (fun (j3, w1) => 33 - j3) ?_ (0, 1) F_216 (⟨by omega, Or.inr rfl⟩) hO hR _ _ hP hD hS ls (lv_sub hl [0, 1, 2] rfl)
      rintro ⟨j3, w1⟩ F_220 hv_223 hO hR ih_224 H locs hP hD hS ls hl
      have hl : lv_has ls 3 [(2, .int (nI j3)), (1, .int w1), (0, .ref h0)] := hl
      have hv_223 : j3 ≤ 33 ∧ (w1 = 0 ∨ w1 = 1) := hv_223
      refine W.eq (g2 := F0 m 187 ls []) rfl ?_
      have hF_225 : F_220 h0 = .inr (15, (.ref ta) :: (.int (nI zt)) :: (.int (nI zo_106)) :: (.int (nI ze_107)) :: (.ref ou) :: (.ref so) :: (.ref ad) :: (.ref na) :: (.ref va) :: (.ref lc) :: (.ref dm) :: (.int v11_108) :: (.int v12_109) :: (.ref tg) :: (.int v14_110) :: (.int v15_111) :: (.ref pe) :: (.int v17_112) :: (.int v18_113) :: (.int v19_114) :: (.int v20_115) :: (.int v21_116) :: (.int v22_117) :: (.ref ml) :: (.ref bg) :: (.ref co) :: (.ref sp) :: (.ref nb0) :: (.ref nb1) :: (.ref nb2) :: (.int (nI nf)) :: (.int (nI bd)) :: (.int (nI mm)) :: (.int v33_118) :: (.ref pl) :: (.ref se) :: (.ref ke) :: (.ref wi) :: (.ref hs) :: (.ref mo) :: (.ref po) :: (.ref nu) :: (.ref pr) :: (.ref sq) :: (.ref xa) :: (.ref sa) :: (.ref n64) :: (.ref m64) :: (.ref ex) :: (.ref wh) :: (.ref sd) :: (.ref tk) :: (.int v52_119) :: (.int v53_120) :: (.int v54_121) :: (.ref hd) :: (.ref ak) :: (.ref ho) :: (.ref ot) :: []) := (hR h0 (by rw [hT_h0]; simp)).trans hF_221
      have hF_226 : F_220 xa = .inl (cs 17, 32, .inl f_200) := (hR xa (by rw [ht_73]; simp)).trans hF_222
      obtain ⟨hv1, hv2⟩ := hv_223
      refine lv_iload_n hx hb dX15_isPower_187 rfl (lv_at hl 0 rfl) ?_
      refine lv_bipush (v := 33) hx hb dX15_isPower_188 (by decide) ?_
      refine lv_icmp_ge (tgt := 222) hx hb dX15_isPower_190 (by decide) (fun c_227 => ?_) (fun c_227 => ?_)
      ·
        have hi_228 : 33 ≤ j3 := leN (N := 33) c_227
        refine lv_iload_n hx hb dX15_isPower_222 rfl (lv_at hl 1 rfl) ?_
        refine W.widen (k := 0) (n := 0) (by omega) (by omega) ?_
        exact W.zret (v := w1) (ty := .boolean) hx hb hr (bitN hv2) (fun t ht hWm => ⟨⟨w1, (), rfl, hv2, ⟨F_220, QTm.mk ht hP hD hO hR⟩⟩, hS.F ht⟩) hS.2.2 dX15_isPower_223
      ·
        have hi_229 : j3 < 33 := ltN (N := 33) c_227
        refine lv_iload_n hx hb dX15_isPower_193 rfl (lv_at hl 1 rfl) ?_
        refine lv_aload_n hx hb dX15_isPower_194 rfl (lv_at hl 2 rfl) ?_
        refine pg_get (ci := 15) (v := .ref sq) (C := RX15) (T := TX15) (N := 59) hx hb hts it_15 hown hK hP hL_h0 hF_225 rfl 43 (by decide) (hts _ kt_951) (fun _ h9 => h9) rfl dX15_isPower_195 ?_
        refine lv_iload_n hx hb dX15_isPower_198 rfl (lv_at hl 0 rfl) ?_
        obtain ⟨f_230, hF_231⟩ := hO.ints hi_70 ht_71
        refine pg_iald hx hb hK hP hi_70 0 hF_231 rfl (vp_in_nI (by omega) (by omega)) dX15_isPower_199 ?_
        refine lv_topi (fun x_232 _ => ?_)
        refine lv_aload_n hx hb dX15_isPower_200 rfl (lv_at hl 2 rfl) ?_
        refine pg_get (ci := 15) (v := .ref po) (C := RX15) (T := TX15) (N := 59) hx hb hts it_15 hown hK hP hL_h0 hF_225 rfl 40 (by decide) (hts _ kt_832) (fun _ h9 => h9) rfl dX15_isPower_201 ?_
        refine lv_iload_n hx hb dX15_isPower_204 rfl (lv_at hl 0 rfl) ?_
        obtain ⟨f_233, hF_234⟩ := hO.ints hi_64 ht_65
        refine pg_iald hx hb hK hP hi_64 0 hF_234 rfl (vp_in_nI (by omega) (by omega)) dX15_isPower_205 ?_
        refine lv_topi (fun x_235 _ => ?_)
        refine lv_icmp_ne (tgt := 213) hx hb dX15_isPower_206 (by decide) (fun c_236 => ?_) (fun c_236 => ?_)
        ·
          refine lv_iconst (v := 0) hx hb dX15_isPower_213 (by decide) ?_
          refine lv_iand hx hb dX15_isPower_214 ?_
          refine lv_topi (fun x_237 ex_237 => ?_)
          obtain rfl : x_237 = (w1 &&& 0) := ex_237.trans (rfl)
          refine lv_istore_n (lv' := [(1, .int (w1 &&& 0)), (2, .int (nI j3)), (0, .ref h0)]) hx hb dX15_isPower_215 rfl hl (by decide) rfl (fun ls hl => ?_)
          refine lv_iinc (v := (nI (j3 + 1))) (lv' := [(2, .int (nI (j3 + 1))), (1, .int (w1 &&& 0)), (0, .ref h0)]) hx hb dX15_isPower_216 hl (k := 1) rfl (nI_1 _) (by decide) rfl (fun ls hl => ?_)
          refine lv_goto (tgt := 187) hx hb dX15_isPower_219 (by decide) ?_
          refine W.widen (k := 0) (n := 0) (by omega) (by omega) ?_
          exact ih_224 ((j3 + 1), (w1 &&& 0)) F_220 (⟨by omega, andbit hv2 (by first | exact Or.inl rfl | exact Or.inr rfl)⟩) (by show 33 - (j3 + 1) < 33 - j3; omega) hO hR _ _ hP hD hS ls (lv_sub hl [0, 1, 2] rfl)
        ·
          refine lv_iconst (v := 1) hx hb dX15_isPower_209 (by decide) ?_
          refine lv_goto (tgt := 214) hx hb dX15_isPower_210 (by decide) ?_
          refine lv_iand hx hb dX15_isPower_214 ?_
          refine lv_topi (fun x_238 ex_238 => ?_)
          obtain rfl : x_238 = (w1 &&& 1) := ex_238.trans (rfl)
          refine lv_istore_n (lv' := [(1, .int (w1 &&& 1)), (2, .int (nI j3)), (0, .ref h0)]) hx hb dX15_isPower_215 rfl hl (by decide) rfl (fun ls hl => ?_)
          refine lv_iinc (v := (nI (j3 + 1))) (lv' := [(2, .int (nI (j3 + 1))), (1, .int (w1 &&& 1)), (0, .ref h0)]) hx hb dX15_isPower_216 hl (k := 1) rfl (nI_1 _) (by decide) rfl (fun ls hl => ?_)
          refine lv_goto (tgt := 187) hx hb dX15_isPower_219 (by decide) ?_
          refine W.widen (k := 0) (n := 0) (by omega) (by omega) ?_
          exact ih_224 ((j3 + 1), (w1 &&& 1)) F_220 (⟨by omega, andbit hv2 (by first | exact Or.inl rfl | exact Or.inr rfl)⟩) (by show 33 - (j3 + 1) < 33 - j3; omega) hO hR _ _ hP hD hS ls (lv_sub hl [0, 1, 2] rfl)
    ·
      have hi_239 : j2 < 19 := ltN (N := 19) c_196
      refine lv_aload_n hx hb dX15_isPower_134 rfl (lv_at hl 1 rfl) ?_
      refine pg_get (ci := 15) (v := .ref ex) (C := RX15) (T := TX15) (N := 59) hx hb hts it_15 hown hK hP hL_h0 hF_195 rfl 48 (by decide) (hts _ kt_946) (fun _ h9 => h9) rfl dX15_isPower_135 ?_
      refine lv_bipush (v := 13) hx hb dX15_isPower_138 (by decide) ?_
      refine lv_iload_n hx hb dX15_isPower_140 rfl (lv_at hl 0 rfl) ?_
      refine lv_iadd hx hb dX15_isPower_141 ?_
      refine lv_topi (fun x_240 ex_240 => ?_)
      obtain rfl : x_240 = (nI (13 + j2)) := ex_240.trans (nI_add 13 j2)
      refine lv_aload_n hx hb dX15_isPower_142 rfl (lv_at hl 1 rfl) ?_
      refine pg_get (ci := 15) (v := .ref hd) (C := RX15) (T := TX15) (N := 59) hx hb hts it_15 hown hK hP hL_h0 hF_195 rfl 55 (by decide) (hts _ kt_952) (fun _ h9 => h9) rfl dX15_isPower_143 ?_
      refine lv_iload_n hx hb dX15_isPower_146 rfl (lv_at hl 0 rfl) ?_
      obtain ⟨hq_241, hq_242⟩ := hW.ints hi_90 ht_91
      obtain ⟨f_243, hF_244⟩ := hO.ints hi_90 ht_91
      refine pg_iald hx hb hK hP hi_90 0 hF_244 rfl (vp_in_nI (by omega) (by omega)) dX15_isPower_147 ?_
      refine lv_topi (fun x_245 _ => ?_)
      refine lv_i2b hx hb dX15_isPower_148 rfl ?_
      refine lv_topi (fun x_246 _ => ?_)
      obtain ⟨f_247, hF_248, hq_249⟩ := hO.octs hi_80 ht_81
      refine pg_bast hx hb hK hP hD hS hi_80 1 hF_248 rfl (vp_in_nI (by omega) (by omega)) dX15_isPower_149 (fun H locs hP hD hS => ?_)
      obtain ⟨F_250, he_251, hP, hD, hO, hR⟩ : ∃ G, G = va_up F_191 ex (.inl (cs 17, 64, .inl (upd f_247 ((nI (13 + j2))).toNatClampNeg (vp_nar .byte (x_246))))) ∧ va_P (dC, dI) vwCl (va_pl L G) H ∧ va_D A (va_pl L G) ∧ OKm cs ty gm L G ∧ FR ty [ρ + 18, ρ + 23] F G := ⟨_, rfl, hP, hD, hO.up (shm.octs ht_81 ⟨_, rfl, bfm_upd hq_249 _ _⟩), hR.up ht_81 (by simp)⟩
      have hF_252 : F_250 ex = .inl (cs 17, 64, .inl (upd f_247 ((nI (13 + j2))).toNatClampNeg (vp_nar .byte (x_246)))) := by rw [he_251]; exact up_self
      have hF_253 : F_250 h0 = .inr (15, (.ref ta) :: (.int (nI zt)) :: (.int (nI zo_106)) :: (.int (nI ze_107)) :: (.ref ou) :: (.ref so) :: (.ref ad) :: (.ref na) :: (.ref va) :: (.ref lc) :: (.ref dm) :: (.int v11_108) :: (.int v12_109) :: (.ref tg) :: (.int v14_110) :: (.int v15_111) :: (.ref pe) :: (.int v17_112) :: (.int v18_113) :: (.int v19_114) :: (.int v20_115) :: (.int v21_116) :: (.int v22_117) :: (.ref ml) :: (.ref bg) :: (.ref co) :: (.ref sp) :: (.ref nb0) :: (.ref nb1) :: (.ref nb2) :: (.int (nI nf)) :: (.int (nI bd)) :: (.int (nI mm)) :: (.int v33_118) :: (.ref pl) :: (.ref se) :: (.ref ke) :: (.ref wi) :: (.ref hs) :: (.ref mo) :: (.ref po) :: (.ref nu) :: (.ref pr) :: (.ref sq) :: (.ref xa) :: (.ref sa) :: (.ref n64) :: (.ref m64) :: (.ref ex) :: (.ref wh) :: (.ref sd) :: (.ref tk) :: (.int v52_119) :: (.int v53_120) :: (.int v54_121) :: (.ref hd) :: (.ref ak) :: (.ref ho) :: (.ref ot) :: []) := by rw [he_251, up_ne (ne_ty hT_h0 ht_81 (by simp))]; exact hF_195
      have hF_254 : F_250 hd = .inl (cs 16, 19, .inl f_243) := by rw [he_251, up_ne (ne_ty ht_91 ht_81 (by simp))]; exact hF_244
      obtain ⟨f_255, hF_252, hq_256⟩ : ∃ f : Nat → Int32, F_250 ex = .inl (cs 17, 64, .inl f) ∧ BFm f := ⟨_, hF_252, bfm_upd hq_249 _ _⟩
      refine lv_iinc (v := (nI (j2 + 1))) (lv' := [(1, .int (nI (j2 + 1))), (0, .ref h0)]) hx hb dX15_isPower_150 hl (k := 0) rfl (nI_1 _) (by decide) rfl (fun ls hl => ?_)
      refine lv_goto (tgt := 128) hx hb dX15_isPower_153 (by decide) ?_
      refine W.widen (k := 0) (n := 0) (by omega) (by omega) ?_
      exact ih_194 (j2 + 1) F_250 (by first | omega | exact ⟨by omega, by omega⟩ | trivial) (by show 19 - (j2 + 1) < 19 - j2; omega) hO hR _ _ hP hD hS ls (lv_sub hl [0, 1] rfl)
  ·
    have hi_257 : j < 16 := ltN (N := 16) c_160
    refine lv_aload_n hx hb dX15_isPower_59 rfl (lv_at hl 1 rfl) ?_
    refine pg_get (ci := 15) (v := .ref po) (C := RX15) (T := TX15) (N := 59) hx hb hts it_15 hown hK hP hL_h0 hF_159 rfl 40 (by decide) (hts _ kt_832) (fun _ h9 => h9) rfl dX15_isPower_60 ?_
    refine lv_iconst (v := 0) hx hb dX15_isPower_63 (by decide) ?_
    refine lv_aload_n hx hb dX15_isPower_64 rfl (lv_at hl 1 rfl) ?_
    refine pg_get (ci := 15) (v := .ref sq) (C := RX15) (T := TX15) (N := 59) hx hb hts it_15 hown hK hP hL_h0 hF_159 rfl 43 (by decide) (hts _ kt_951) (fun _ h9 => h9) rfl dX15_isPower_65 ?_
    refine lv_iconst (v := 0) hx hb dX15_isPower_68 (by decide) ?_
    refine lv_bipush (v := 33) hx hb dX15_isPower_69 (by decide) ?_
    obtain ⟨f_258, hF_259⟩ := hO.ints hi_64 ht_65
    obtain ⟨hq_260, hq_261⟩ := hW.ints hi_70 ht_71
    obtain ⟨f_262, hF_263⟩ := hO.ints hi_70 ht_71
    refine pg_copyi hx hb (by rw [hml]; exact hl.1.symm) hown (hts _ kt_923) (hts _ kt_29) (hts _ kt_30) (hts _ kt_31) hK hP hD hS hi_64 hi_70 0 0 hF_259 hF_263 rfl rfl rfl (by decide) (by decide) (by decide) (by decide) (by decide) (fun _ _ => rfl) (Nat.le_of_ble_eq_true rfl) (by decide) dX15_isPower_71 (fun H locs hP hD hS => ?_)
    obtain ⟨F_264, he_265, hP, hD, hO, hR⟩ : ∃ G, G = va_up F_155 sq (.inl (cs 16, 33, .inl (va_cpy f_258 f_262 (0 : Int32).toNatClampNeg (0 : Int32).toNatClampNeg (33 : Int32).toNatClampNeg))) ∧ va_P (dC, dI) vwCl (va_pl L G) H ∧ va_D A (va_pl L G) ∧ OKm cs ty gm L G ∧ FR ty [ρ + 18, ρ + 23] F G := ⟨_, rfl, hP, hD, hO.up (shm.ints ht_71 ⟨_, rfl⟩), hR.up ht_71 (by simp)⟩
    have hF_266 : F_264 sq = .inl (cs 16, 33, .inl (va_cpy f_258 f_262 (0 : Int32).toNatClampNeg (0 : Int32).toNatClampNeg (33 : Int32).toNatClampNeg)) := by rw [he_265]; exact up_self
    have hF_267 : F_264 h0 = .inr (15, (.ref ta) :: (.int (nI zt)) :: (.int (nI zo_106)) :: (.int (nI ze_107)) :: (.ref ou) :: (.ref so) :: (.ref ad) :: (.ref na) :: (.ref va) :: (.ref lc) :: (.ref dm) :: (.int v11_108) :: (.int v12_109) :: (.ref tg) :: (.int v14_110) :: (.int v15_111) :: (.ref pe) :: (.int v17_112) :: (.int v18_113) :: (.int v19_114) :: (.int v20_115) :: (.int v21_116) :: (.int v22_117) :: (.ref ml) :: (.ref bg) :: (.ref co) :: (.ref sp) :: (.ref nb0) :: (.ref nb1) :: (.ref nb2) :: (.int (nI nf)) :: (.int (nI bd)) :: (.int (nI mm)) :: (.int v33_118) :: (.ref pl) :: (.ref se) :: (.ref ke) :: (.ref wi) :: (.ref hs) :: (.ref mo) :: (.ref po) :: (.ref nu) :: (.ref pr) :: (.ref sq) :: (.ref xa) :: (.ref sa) :: (.ref n64) :: (.ref m64) :: (.ref ex) :: (.ref wh) :: (.ref sd) :: (.ref tk) :: (.int v52_119) :: (.int v53_120) :: (.int v54_121) :: (.ref hd) :: (.ref ak) :: (.ref ho) :: (.ref ot) :: []) := by rw [he_265, up_ne (ne_ty hT_h0 ht_71 (by simp))]; exact hF_159
    obtain ⟨f_268, hF_266⟩ : ∃ f : Nat → Int32, F_264 sq = .inl (cs 16, 33, .inl f) := ⟨_, hF_266⟩
    refine lv_aload_n hx hb dX15_isPower_74 rfl (lv_at hl 1 rfl) ?_
    refine lv_aload_n hx hb dX15_isPower_75 rfl (lv_at hl 1 rfl) ?_
    refine pg_get (ci := 15) (v := .ref sq) (C := RX15) (T := TX15) (N := 59) hx hb hts it_15 hown hK hP hL_h0 hF_267 rfl 43 (by decide) (hts _ kt_951) (fun _ h9 => h9) rfl dX15_isPower_76 ?_
    have hFc := pg_free hD hS hA
    refine va_callv (va_runV (As := [.ref sq]) (rest := []) ⟨hx, hb, hml, hown, hts⟩ (s_X15_times l dC dI cs ty gm L H.size F_264 h0 ρ ta ou so ad na va lc dm tg pe ml bg co sp nb0 nb1 nb2 pl se ke wi hs mo po nu pr sq xa sa n64 m64 ex wh sd tk hd ak ho ot sx s0 s1 s2 nf bd mm zt sq (ρ + 18) hW hL_h0 hT_h0 hi_70 ht_71) ⟨callB_of 1 hts (gi kt_942) rfl rfl rfl (hts _ kt_669) (hts _ kt_943) (by decide +kernel) ⟨Nat.le_of_ble_eq_true rfl, Nat.le_of_ble_eq_true rfl⟩, (hts _ kt_944), (hts _ kt_945)⟩ ⟨fun a U g mk q => ⟨q.1, PTm.calling q.2⟩, pg_recv hK hP hL_h0 hF_267 (q := (RX15, TX15, 59)) rfl, fun U hU hWm => ⟨rfl, PTm.mk hU hWm hP hK hD hE hO⟩⟩ rfl rfl hl.1 rfl (lv_room (Nat.le_of_ble_eq_true rfl)) dX15_isPower_79 ⟨by show _ + 0 ≤ 0; omega, by show _ + 0 ≤ 0; omega⟩) hS (fun q _ h => hFc q h) hFc (fun u t H1 locs ht hvm hw hB hz1 hk1 hS => ?_)
    obtain ⟨F_270, hB1⟩ := hB
    obtain ⟨hP, hD, hO, hR⟩ := QTm.back hB1 ht hFc hR (fun q h => by simp only [List.mem_cons, List.not_mem_nil, or_false] at h ⊢; omega)
    have hF_271 : F_270 h0 = .inr (15, (.ref ta) :: (.int (nI zt)) :: (.int (nI zo_106)) :: (.int (nI ze_107)) :: (.ref ou) :: (.ref so) :: (.ref ad) :: (.ref na) :: (.ref va) :: (.ref lc) :: (.ref dm) :: (.int v11_108) :: (.int v12_109) :: (.ref tg) :: (.int v14_110) :: (.int v15_111) :: (.ref pe) :: (.int v17_112) :: (.int v18_113) :: (.int v19_114) :: (.int v20_115) :: (.int v21_116) :: (.int v22_117) :: (.ref ml) :: (.ref bg) :: (.ref co) :: (.ref sp) :: (.ref nb0) :: (.ref nb1) :: (.ref nb2) :: (.int (nI nf)) :: (.int (nI bd)) :: (.int (nI mm)) :: (.int v33_118) :: (.ref pl) :: (.ref se) :: (.ref ke) :: (.ref wi) :: (.ref hs) :: (.ref mo) :: (.ref po) :: (.ref nu) :: (.ref pr) :: (.ref sq) :: (.ref xa) :: (.ref sa) :: (.ref n64) :: (.ref m64) :: (.ref ex) :: (.ref wh) :: (.ref sd) :: (.ref tk) :: (.int v52_119) :: (.int v53_120) :: (.int v54_121) :: (.ref hd) :: (.ref ak) :: (.ref ho) :: (.ref ot) :: []) := (hB1.2.2.2 h0 (by rw [hT_h0]; simp)).trans hF_267
    generalize H1 = H at hP hS ⊢
    refine lv_iinc (v := (nI (j + 1))) (lv' := [(1, .int (nI (j + 1))), (0, .ref h0)]) hx hb dX15_isPower_82 hl (k := 0) rfl (nI_1 _) (by decide) rfl (fun ls hl => ?_)
    refine lv_goto (tgt := 53) hx hb dX15_isPower_85 (by decide) ?_
    refine W.widen (k := 0) (n := 0) (by omega) (by omega) ?_
    exact ih_158 (j + 1) F_270 (by first | omega | exact ⟨by omega, by omega⟩ | trivial) (by show 16 - (j + 1) < 16 - j; omega) hO hR _ _ hP hD hS ls (lv_sub hl [0, 1] rfl)
set_option maxHeartbeats 4000000 in
set_option maxRecDepth 100000 in
theorem s_X15_keyOf (l : Launch) (dC : Nat → ClassId) (dI : Nat → Nat → Nat) (cs : Nat → ClassId) (ty : TyM) (gm : Nat → Nat → Nat) (L : List Nat) (sz : Nat) (F : Nat → va_E) (h0 : Nat) (ρ : Nat) (ta : Nat) (ou : Nat) (so : Nat) (ad : Nat) (na : Nat) (va : Nat) (lc : Nat) (dm : Nat) (tg : Nat) (pe : Nat) (ml : Nat) (bg : Nat) (co : Nat) (sp : Nat) (nb0 : Nat) (nb1 : Nat) (nb2 : Nat) (pl : Nat) (se : Nat) (ke : Nat) (wi : Nat) (hs : Nat) (mo : Nat) (po : Nat) (nu : Nat) (pr : Nat) (sq : Nat) (xa : Nat) (sa : Nat) (n64 : Nat) (m64 : Nat) (ex : Nat) (wh : Nat) (sd : Nat) (tk : Nat) (hd : Nat) (ak : Nat) (ho : Nat) (ot : Nat) (sx : Nat) (s0 : Nat) (s1 : Nat) (s2 : Nat) (nf : Nat) (bd : Nat) (mm : Nat) (zt : Nat) (hW : WTm ty gm L) (hL_h0 : h0 ∈ L) (hT_h0 : ty h0 = (15, ρ, [ta, ou, so, ad, na, va, lc, dm, tg, pe, ml, bg, co, sp, nb0, nb1, nb2, pl, se, ke, wi, hs, mo, po, nu, pr, sq, xa, sa, n64, m64, ex, wh, sd, tk, hd, ak, ho, ot, sx, s0, s1, s2, nf, bd, mm, zt])) : Met l yX15_keyOf (.code yX15_keyOf cX15_keyOf 3 (some .int) :: tb) ({ frames := 7, cells := 0, slots := 0, locals := 164 }) (va_Pc [.ref h0] (PTEm (dC, dI) cs ty gm L F sz [])) (va_Qi (fun (r : Int32) (_ : Unit) => True) (fun _ T9 => ∃ F2 : Nat → va_E, QTm (dC, dI) cs ty gm L [ρ + 13, ρ + 14, ρ + 22] F F2 (va_A (va_pl L F) sz) T9) (va_A (va_pl L F) sz)) 0 0 (va_A (va_pl L F) sz) := by
  refine Met.ofW (cc := cX15_keyOf) (maxL := 3) (ret := (some .int)) (by decide) rfl ?_
  intro p e s m args below meth c s₁ B hml hv
  obtain ⟨rfl, ⟨hsz, hP, hK, hD0, hE, hO⟩, hG, hX⟩ := hv
  have hx := B.exec
  have hb := B.bytes
  have hr := B.returns
  have hts : ∀ w ∈ tb, w.before _ s = true := fun w h => atoms_spec (ws := .code yX15_keyOf cX15_keyOf 3 (some .int) :: tb) B.pre w (List.mem_cons_of_mem _ h)
  have hown : s.vm.findClass RX15 = some m.cls := findClass_of_methodNamed B.named
  have hlocks := B.notSynchronized
  subst hsz
  have hD := hD0.self (sz := s.heap.size)
  generalize hAe : va_A (va_pl L F) s.heap.size = A at hD hG hX ⊢
  have hA : ∀ q : Nat, s.heap.size ≤ q → A q := fun q h => by rw [← hAe]; exact Or.inr h
  have hS : va_S A s.heap s.heap [] := va_S.rf
  have hR : FR ty [ρ + 13, ρ + 14, ρ + 22] F F := FR.refl
  have hl := lv_entry ([.ref h0]) (n := 3) (Nat.le_of_ble_eq_true rfl)
  rw [lg_entry_eq]
  generalize (lg_sl ([.ref h0]) ++ List.replicate (3 - (lg_sl ([.ref h0])).length) Slot.unset).toArray = ls at hl ⊢
  have hl : lv_has ls 3 [(0, .ref h0)] := hl
  obtain ⟨hi_1, ht_2, hi_3, ht_4, hi_5, ht_6, hi_7, ht_8, hi_9, ht_10, hi_11, ht_12, hi_13, ⟨r_14, ht_15⟩, hi_16, ⟨r_17, ht_18⟩, hi_19, ht_20, hi_21, ⟨r_22, ht_23⟩, hi_24, ht_25, hi_26, ht_27, hi_28, ht_29, hi_30, ht_31, hi_32, ht_33, hi_34, ht_35, hi_36, ht_37, hi_38, ⟨r_39, ht_40⟩, hi_41, ht_42, hi_43, ⟨x_44, y0_45, y1_46, y2_47, ht_48⟩, hi_49, ⟨x_50, y0_51, y1_52, y2_53, ht_54⟩, hi_55, ⟨x_56, y_57, w_58, u_59, bl_60, ht_61⟩, hi_62, ht_63, hi_64, ht_65, hi_66, ht_67, hi_68, ht_69, hi_70, ht_71, hi_72, ht_73, hi_74, ht_75, hi_76, ht_77, hi_78, ht_79, hi_80, ht_81, hi_82, ⟨r_83, ht_84⟩, hi_85, ⟨r_86, ht_87⟩, hi_88, ht_89, hi_90, ht_91, hi_92, ⟨r_93, ht_94⟩, hi_95, ⟨r_96, ht_97⟩, hi_98, ⟨r_99, ht_100⟩, hq_101, hq_102, hq_103, hq_104, hq_105, hgO, hgA, hgB⟩ := hW.mod hL_h0 hT_h0
  obtain ⟨hi_106, hi_107, hi_108, hi_109, ⟨r_110, ht_111⟩, ht_112, ht_113, ht_114, hq_115, hq_116⟩ := hW.tags hi_43 ht_48
  have ht_111 : ty x_44 = (14, ρ + 14, [r_110, 700]) := ht_111
  obtain ⟨z_117, hF_118, hq_119⟩ := hO.tags hi_43 ht_48
  obtain ⟨hi_120, ht_121, hq_122⟩ := hW.txt hi_106 ht_111
  refine lv_aload_n hx hb dX15_keyOf_0 rfl (lv_at hl 0 rfl) ?_
  refine lv_aload_n hx hb dX15_keyOf_1 rfl (lv_at hl 0 rfl) ?_
  obtain ⟨zo_123, ze_124, v11_125, v12_126, v14_127, v15_128, v17_129, v18_130, v19_131, v20_132, v21_133, v22_134, v33_135, v52_136, v53_137, v54_138, hF_139, hq_140, hq_141, hq_142, hq_143⟩ := hO.mod hL_h0 hT_h0
  refine pg_get (ci := 15) (v := .ref wh) (C := RX15) (T := TX15) (N := 59) hx hb hts it_15 hown hK hP hL_h0 hF_139 rfl 49 (by decide) (hts _ kt_953) (fun _ h9 => h9) rfl dX15_keyOf_2 ?_
  obtain ⟨hi_144, ht_145, hq_146⟩ := hW.txt hi_82 ht_84
  have hFc := pg_free hD hS hA
  refine va_calli (va_runV (As := [.ref wh]) (rest := []) ⟨hx, hb, hml, hown, hts⟩ (s_X15_isTrouble l dC dI cs ty gm L s.heap.size F h0 ρ ta ou so ad na va lc dm tg pe ml bg co sp nb0 nb1 nb2 pl se ke wi hs mo po nu pr sq xa sa n64 m64 ex wh sd tk hd ak ho ot sx s0 s1 s2 nf bd mm zt wh (ρ + 24) r_83 6000 hW hL_h0 hT_h0 hi_82 ht_84) ⟨callB_of 1 hts (gi kt_736) rfl rfl rfl (hts _ kt_669) (hts _ kt_737) (by decide +kernel) ⟨Nat.le_of_ble_eq_true rfl, Nat.le_of_ble_eq_true rfl⟩, (hts _ kt_738), (hts _ kt_739)⟩ ⟨fun a U g mk q => ⟨q.1, PTm.calling q.2⟩, pg_recv hK hP hL_h0 hF_139 (q := (RX15, TX15, 59)) rfl, fun U hU hWm => ⟨rfl, PTm.mk hU hWm hP hK hD hE hO⟩⟩ rfl rfl hl.1 rfl (lv_room (Nat.le_of_ble_eq_true rfl)) dX15_keyOf_5 ⟨by show _ + 0 ≤ 0; omega, by show _ + 0 ≤ 0; omega⟩) hS (fun q _ h => hFc q h) hFc (fun r_147 u t H1 locs ht hvm hw hB hz1 hk1 hS => ?_)
  obtain ⟨F_148, hB1⟩ := hB
  obtain rfl : F = F_148 := (funext (fun a => hB1.2.2.2 a List.not_mem_nil)).symm
  obtain ⟨hP, hD, hO, hR⟩ := QTm.back hB1 ht hFc hR (fun q h => absurd h List.not_mem_nil)
  generalize H1 = H at hP hS ⊢
  have hw : (r_147 = 0 ∨ r_147 = 1) := hw
  have hw_149 := hw
  refine lv_if_eq (tgt := 13) hx hb dX15_keyOf_8 (by decide) (fun c_150 => ?_) (fun c_150 => ?_)
  ·
    refine lv_iconst (v := 0) hx hb dX15_keyOf_13 (by decide) ?_
    refine lv_istore_n (lv' := [(1, .int 0), (0, .ref h0)]) hx hb dX15_keyOf_14 rfl hl (by decide) rfl (fun ls hl => ?_)
    refine W.widen (k := 0) (n := 0) (by omega) (by omega) ?_
    have hF_152 : F h0 = .inr (15, (.ref ta) :: (.int (nI zt)) :: (.int (nI zo_123)) :: (.int (nI ze_124)) :: (.ref ou) :: (.ref so) :: (.ref ad) :: (.ref na) :: (.ref va) :: (.ref lc) :: (.ref dm) :: (.int v11_125) :: (.int v12_126) :: (.ref tg) :: (.int v14_127) :: (.int v15_128) :: (.ref pe) :: (.int v17_129) :: (.int v18_130) :: (.int v19_131) :: (.int v20_132) :: (.int v21_133) :: (.int v22_134) :: (.ref ml) :: (.ref bg) :: (.ref co) :: (.ref sp) :: (.ref nb0) :: (.ref nb1) :: (.ref nb2) :: (.int (nI nf)) :: (.int (nI bd)) :: (.int (nI mm)) :: (.int v33_135) :: (.ref pl) :: (.ref se) :: (.ref ke) :: (.ref wi) :: (.ref hs) :: (.ref mo) :: (.ref po) :: (.ref nu) :: (.ref pr) :: (.ref sq) :: (.ref xa) :: (.ref sa) :: (.ref n64) :: (.ref m64) :: (.ref ex) :: (.ref wh) :: (.ref sd) :: (.ref tk) :: (.int v52_136) :: (.int v53_137) :: (.int v54_138) :: (.ref hd) :: (.ref ak) :: (.ref ho) :: (.ref ot) :: []) := (hR h0 (by rw [hT_h0]; simp)).symm.trans hF_139
    refine pl_loopm (σ := Nat) A (dC, dI) cs ty gm L [ρ + 13, ρ + 14, ρ + 22] F 15 3 (fun j => [(1, .int (nI j)), (0, .ref h0)]) (fun j => []) (fun j _ => j ≤ ze_124) (fun j => 40 - j) ?_ 0 F (by omega) hO hR _ _ hP hD hS ls (lv_sub hl [0, 1] rfl)
    rintro j F_151 hv_153 hO hR ih_154 H locs hP hD hS ls hl
    have hl : lv_has ls 3 [(1, .int (nI j)), (0, .ref h0)] := hl
    have hv_153 : j ≤ ze_124 := hv_153
    refine W.eq (g2 := F0 m 15 ls []) rfl ?_
    have hF_155 : F_151 h0 = .inr (15, (.ref ta) :: (.int (nI zt)) :: (.int (nI zo_123)) :: (.int (nI ze_124)) :: (.ref ou) :: (.ref so) :: (.ref ad) :: (.ref na) :: (.ref va) :: (.ref lc) :: (.ref dm) :: (.int v11_125) :: (.int v12_126) :: (.ref tg) :: (.int v14_127) :: (.int v15_128) :: (.ref pe) :: (.int v17_129) :: (.int v18_130) :: (.int v19_131) :: (.int v20_132) :: (.int v21_133) :: (.int v22_134) :: (.ref ml) :: (.ref bg) :: (.ref co) :: (.ref sp) :: (.ref nb0) :: (.ref nb1) :: (.ref nb2) :: (.int (nI nf)) :: (.int (nI bd)) :: (.int (nI mm)) :: (.int v33_135) :: (.ref pl) :: (.ref se) :: (.ref ke) :: (.ref wi) :: (.ref hs) :: (.ref mo) :: (.ref po) :: (.ref nu) :: (.ref pr) :: (.ref sq) :: (.ref xa) :: (.ref sa) :: (.ref n64) :: (.ref m64) :: (.ref ex) :: (.ref wh) :: (.ref sd) :: (.ref tk) :: (.int v52_136) :: (.int v53_137) :: (.int v54_138) :: (.ref hd) :: (.ref ak) :: (.ref ho) :: (.ref ot) :: []) := (hR h0 (by rw [hT_h0]; simp)).trans hF_152
    refine lv_iload_n hx hb dX15_keyOf_15 rfl (lv_at hl 0 rfl) ?_
    refine lv_aload_n hx hb dX15_keyOf_16 rfl (lv_at hl 1 rfl) ?_
    refine pg_get (ci := 15) (v := .int (nI ze_124)) (C := RX15) (T := TX15) (N := 59) hx hb hts it_15 hown hK hP hL_h0 hF_155 rfl 3 (by decide) (hts _ kt_724) (fun _ h9 => h9) rfl dX15_keyOf_17 ?_
    refine lv_icmp_ge (tgt := 42) hx hb dX15_keyOf_20 (by decide) (fun c_156 => ?_) (fun c_156 => ?_)
    ·
      have hi_157 : ze_124 ≤ j := leN (N := ze_124) c_156
      refine lv_iload_n hx hb dX15_keyOf_42 rfl (lv_at hl 0 rfl) ?_
      refine lv_aload_n hx hb dX15_keyOf_43 rfl (lv_at hl 1 rfl) ?_
      refine pg_get (ci := 15) (v := .int (nI ze_124)) (C := RX15) (T := TX15) (N := 59) hx hb hts it_15 hown hK hP hL_h0 hF_155 rfl 3 (by decide) (hts _ kt_724) (fun _ h9 => h9) rfl dX15_keyOf_44 ?_
      refine lv_icmp_ne (tgt := 53) hx hb dX15_keyOf_47 (by decide) (fun c_158 => ?_) (fun c_158 => ?_)
      ·
        have hi_159 : j ≠ ze_124 := fun q => c_158 (by rw [q])
        obtain ⟨z_160, hF_161, hq_162⟩ := hO.tags hi_43 ht_48
        refine lv_aload_n hx hb dX15_keyOf_53 rfl (lv_at hl 1 rfl) ?_
        refine pg_get (ci := 15) (v := .ref va) (C := RX15) (T := TX15) (N := 59) hx hb hts it_15 hown hK hP hL_h0 hF_155 rfl 8 (by decide) (hts _ kt_732) (fun _ h9 => h9) rfl dX15_keyOf_54 ?_
        refine lv_iload_n hx hb dX15_keyOf_57 rfl (lv_at hl 0 rfl) ?_
        obtain ⟨f_163, hF_164, hq_165⟩ := hO.rtxt hi_11 ht_12
        obtain ⟨b_166, r_167, hbf_168, hi_169, ht_170⟩ := hq_165 j (by omega)
        refine pg_aald (r := b_166) hx hb hK hP hi_11 7 hF_164 rfl (vp_in_nI (by omega) (by omega)) (show f_163 ((nI j) : Int32).toNatClampNeg = _ from by rw [show ((nI j) : Int32) = nI j from rfl, nI_clamp (by omega)]; exact hbf_168) dX15_keyOf_58 ?_
        obtain ⟨hi_171, ht_172, hq_173⟩ := hW.txt hi_169 ht_170
        obtain ⟨z_174, hF_175, hq_176⟩ := hO.txt hi_169 ht_170
        refine pg_get (ci := 14) (v := .ref r_167) (C := RX14) (T := TX14) (N := 2) hx hb hts it_14 hown hK hP hi_169 hF_175 rfl 0 (by decide) (hts _ kt_710) (fun _ h9 => h9) rfl dX15_keyOf_59 ?_
        refine lv_iconst (v := 0) hx hb dX15_keyOf_62 (by decide) ?_
        refine lv_aload_n hx hb dX15_keyOf_63 rfl (lv_at hl 1 rfl) ?_
        refine pg_get (ci := 15) (v := .ref va) (C := RX15) (T := TX15) (N := 59) hx hb hts it_15 hown hK hP hL_h0 hF_155 rfl 8 (by decide) (hts _ kt_732) (fun _ h9 => h9) rfl dX15_keyOf_64 ?_
        refine lv_iload_n hx hb dX15_keyOf_67 rfl (lv_at hl 0 rfl) ?_
        obtain ⟨b_177, r_178, hbf_179, hi_180, ht_181⟩ := hq_165 j (by omega)
        refine pg_aald (r := b_177) hx hb hK hP hi_11 7 hF_164 rfl (vp_in_nI (by omega) (by omega)) (show f_163 ((nI j) : Int32).toNatClampNeg = _ from by rw [show ((nI j) : Int32) = nI j from rfl, nI_clamp (by omega)]; exact hbf_179) dX15_keyOf_68 ?_
        obtain ⟨hi_182, ht_183, hq_184⟩ := hW.txt hi_180 ht_181
        obtain ⟨z_185, hF_186, hq_187⟩ := hO.txt hi_180 ht_181
        refine pg_get (ci := 14) (v := .int (nI z_185)) (C := RX14) (T := TX14) (N := 2) hx hb hts it_14 hown hK hP hi_180 hF_186 rfl 1 (by decide) (hts _ kt_709) (fun _ h9 => h9) rfl dX15_keyOf_69 ?_
        refine lv_aload_n hx hb dX15_keyOf_72 rfl (lv_at hl 1 rfl) ?_
        refine pg_get (ci := 15) (v := .ref ke) (C := RX15) (T := TX15) (N := 59) hx hb hts it_15 hown hK hP hL_h0 hF_155 rfl 36 (by decide) (hts _ kt_954) (fun _ h9 => h9) rfl dX15_keyOf_73 ?_
        refine pg_get (ci := 13) (v := .ref x_44) (C := RX13) (T := TX13) (N := 5) hx hb hts it_13 hown hK hP hi_43 hF_161 rfl 0 (by decide) (hts _ kt_857) (fun _ h9 => h9) rfl dX15_keyOf_76 ?_
        refine W.eq (g2 := F0 m 79 ls [.ref x_44, .int (nI z_185), .int (nI 0), .ref r_167]) rfl ?_
        obtain ⟨hq_188, hq_189⟩ := hW.octs hi_171 ht_172
        have hFc := pg_free hD hS hA
        refine va_callv (va_runS (As := [.ref r_167, .int (nI 0), .int (nI z_185), .ref x_44]) (rest := []) ⟨hx, hb, hml, hown, hts⟩ (s_X15_withoutWhite l dC dI cs ty gm L H.size F_151 r_167 (ρ + 31) 700 x_44 (ρ + 14) r_110 700 0 z_185 hW hi_171 ht_172 hi_106 ht_111 (by first | omega | assumption) (by first | omega | assumption) (by first | omega | assumption)) ⟨callB_of 4 hts (gi kt_955) rfl rfl rfl (hts _ kt_669) (hts _ kt_956) (by decide +kernel) ⟨Nat.le_of_ble_eq_true rfl, Nat.le_of_ble_eq_true rfl⟩, (hts _ kt_957)⟩ ⟨fun a U g mk q => ⟨q.1, PTm.calling q.2⟩, fun U hU hWm => ⟨rfl, PTm.mk hU hWm hP hK hD hE hO⟩⟩ rfl rfl hl.1 rfl (lv_room (Nat.le_of_ble_eq_true rfl)) dX15_keyOf_79 ⟨by show _ + 0 ≤ 0; omega, by show _ + 0 ≤ 0; omega⟩) hS (fun q _ h => hFc q h) hFc (fun u t H1 locs ht hvm hw hB hz1 hk1 hS => ?_)
        obtain ⟨F_191, z2_192, hB1, hq_193, hq_194⟩ := hB
        obtain ⟨hP, hD, hO, hR⟩ := QTm.back hB1 ht hFc hR (fun q h => by simp only [List.mem_cons, List.not_mem_nil, or_false] at h ⊢; omega)
        have hF_195 : F_191 h0 = .inr (15, (.ref ta) :: (.int (nI zt)) :: (.int (nI zo_123)) :: (.int (nI ze_124)) :: (.ref ou) :: (.ref so) :: (.ref ad) :: (.ref na) :: (.ref va) :: (.ref lc) :: (.ref dm) :: (.int v11_125) :: (.int v12_126) :: (.ref tg) :: (.int v14_127) :: (.int v15_128) :: (.ref pe) :: (.int v17_129) :: (.int v18_130) :: (.int v19_131) :: (.int v20_132) :: (.int v21_133) :: (.int v22_134) :: (.ref ml) :: (.ref bg) :: (.ref co) :: (.ref sp) :: (.ref nb0) :: (.ref nb1) :: (.ref nb2) :: (.int (nI nf)) :: (.int (nI bd)) :: (.int (nI mm)) :: (.int v33_135) :: (.ref pl) :: (.ref se) :: (.ref ke) :: (.ref wi) :: (.ref hs) :: (.ref mo) :: (.ref po) :: (.ref nu) :: (.ref pr) :: (.ref sq) :: (.ref xa) :: (.ref sa) :: (.ref n64) :: (.ref m64) :: (.ref ex) :: (.ref wh) :: (.ref sd) :: (.ref tk) :: (.int v52_136) :: (.int v53_137) :: (.int v54_138) :: (.ref hd) :: (.ref ak) :: (.ref ho) :: (.ref ot) :: []) := (hB1.2.2.2 h0 (by rw [hT_h0]; simp)).trans hF_155
        have hF_196 : F_191 ke = .inr (13, [.ref x_44, .ref y0_45, .ref y1_46, .ref y2_47, .int (nI z_160)]) := (hB1.2.2.2 ke (by rw [ht_48]; simp)).trans hF_161
        have hF_197 : F_191 va = .inl (cs 23, 40, .inr (.inr (.inr (.inr f_163)))) := (hB1.2.2.2 va (by rw [ht_12]; simp)).trans hF_164
        have hF_198 : F_191 b_166 = .inr (14, [.ref r_167, .int (nI z_174)]) := (hB1.2.2.2 b_166 (by rw [ht_170]; simp)).trans hF_175
        have hF_199 : F_191 b_177 = .inr (14, [.ref r_178, .int (nI z_185)]) := (hB1.2.2.2 b_177 (by rw [ht_181]; simp)).trans hF_186
        generalize H1 = H at hP hS ⊢
        refine lv_aload_n hx hb dX15_keyOf_82 rfl (lv_at hl 1 rfl) ?_
        refine pg_get (ci := 15) (v := .ref ke) (C := RX15) (T := TX15) (N := 59) hx hb hts it_15 hown hK hP hL_h0 hF_195 rfl 36 (by decide) (hts _ kt_954) (fun _ h9 => h9) rfl dX15_keyOf_83 ?_
        refine lv_bipush (v := 8) hx hb dX15_keyOf_86 (by decide) ?_
        have hFc := pg_free hD hS hA
        refine va_calli (va_runV (As := [.int 8]) (rest := []) ⟨hx, hb, hml, hown, hts⟩ (s_X13_read l dC dI cs ty gm L H.size F_191 ke (ρ + 13) x_44 700 700 y0_45 y1_46 y2_47 r_110 z2_192 8 hW hi_43 ht_48 hi_106 ht_111 hq_193 (by first | omega | assumption)) ⟨callB_of 1 hts (gi kt_874) rfl rfl rfl (hts _ kt_844) (hts _ kt_875) (by decide +kernel) ⟨Nat.le_of_ble_eq_true rfl, Nat.le_of_ble_eq_true rfl⟩, (hts _ kt_876), (hts _ kt_877)⟩ ⟨fun a U g mk q => ⟨q.1, PTm.calling q.2⟩, pg_recv hK hP hi_43 hF_196 (q := (RX13, TX13, 5)) rfl, fun U hU hWm => ⟨rfl, PTm.mk hU hWm hP hK hD hE hO⟩⟩ rfl rfl hl.1 rfl (lv_room (Nat.le_of_ble_eq_true rfl)) dX15_keyOf_88 ⟨by show _ + 0 ≤ 0; omega, by show _ + 0 ≤ 0; omega⟩) hS (fun q _ h => hFc q h) hFc (fun r_200 u t H1 locs ht hvm hw hB hz1 hk1 hS => ?_)
        obtain ⟨F_201, z2_202, hB1, hq_203, hq_204⟩ := hB
        obtain ⟨hP, hD, hO, hR⟩ := QTm.back hB1 ht hFc hR (fun q h => by simp only [List.mem_cons, List.not_mem_nil, or_false] at h ⊢; omega)
        have hF_205 : F_201 h0 = .inr (15, (.ref ta) :: (.int (nI zt)) :: (.int (nI zo_123)) :: (.int (nI ze_124)) :: (.ref ou) :: (.ref so) :: (.ref ad) :: (.ref na) :: (.ref va) :: (.ref lc) :: (.ref dm) :: (.int v11_125) :: (.int v12_126) :: (.ref tg) :: (.int v14_127) :: (.int v15_128) :: (.ref pe) :: (.int v17_129) :: (.int v18_130) :: (.int v19_131) :: (.int v20_132) :: (.int v21_133) :: (.int v22_134) :: (.ref ml) :: (.ref bg) :: (.ref co) :: (.ref sp) :: (.ref nb0) :: (.ref nb1) :: (.ref nb2) :: (.int (nI nf)) :: (.int (nI bd)) :: (.int (nI mm)) :: (.int v33_135) :: (.ref pl) :: (.ref se) :: (.ref ke) :: (.ref wi) :: (.ref hs) :: (.ref mo) :: (.ref po) :: (.ref nu) :: (.ref pr) :: (.ref sq) :: (.ref xa) :: (.ref sa) :: (.ref n64) :: (.ref m64) :: (.ref ex) :: (.ref wh) :: (.ref sd) :: (.ref tk) :: (.int v52_136) :: (.int v53_137) :: (.int v54_138) :: (.ref hd) :: (.ref ak) :: (.ref ho) :: (.ref ot) :: []) := (hB1.2.2.2 h0 (by rw [hT_h0]; simp)).trans hF_195
        have hF_206 : F_201 va = .inl (cs 23, 40, .inr (.inr (.inr (.inr f_163)))) := (hB1.2.2.2 va (by rw [ht_12]; simp)).trans hF_197
        have hF_207 : F_201 b_166 = .inr (14, [.ref r_167, .int (nI z_174)]) := (hB1.2.2.2 b_166 (by rw [ht_170]; simp)).trans hF_198
        have hF_208 : F_201 b_177 = .inr (14, [.ref r_178, .int (nI z_185)]) := (hB1.2.2.2 b_177 (by rw [ht_181]; simp)).trans hF_199
        have hF_209 : F_201 x_44 = .inr (14, [.ref r_110, .int (nI z2_192)]) := (hB1.2.2.2 x_44 (by rw [ht_111]; simp)).trans hq_193
        generalize H1 = H at hP hS ⊢
        have hw : (r_200 = 0 ∨ r_200 = 1) := hw
        have hw_210 := hw
        have hF_213 : F h0 = .inr (15, (.ref ta) :: (.int (nI zt)) :: (.int (nI zo_123)) :: (.int (nI ze_124)) :: (.ref ou) :: (.ref so) :: (.ref ad) :: (.ref na) :: (.ref va) :: (.ref lc) :: (.ref dm) :: (.int v11_125) :: (.int v12_126) :: (.ref tg) :: (.int v14_127) :: (.int v15_128) :: (.ref pe) :: (.int v17_129) :: (.int v18_130) :: (.int v19_131) :: (.int v20_132) :: (.int v21_133) :: (.int v22_134) :: (.ref ml) :: (.ref bg) :: (.ref co) :: (.ref sp) :: (.ref nb0) :: (.ref nb1) :: (.ref nb2) :: (.int (nI nf)) :: (.int (nI bd)) :: (.int (nI mm)) :: (.int v33_135) :: (.ref pl) :: (.ref se) :: (.ref ke) :: (.ref wi) :: (.ref hs) :: (.ref mo) :: (.ref po) :: (.ref nu) :: (.ref pr) :: (.ref sq) :: (.ref xa) :: (.ref sa) :: (.ref n64) :: (.ref m64) :: (.ref ex) :: (.ref wh) :: (.ref sd) :: (.ref tk) :: (.int v52_136) :: (.int v53_137) :: (.int v54_138) :: (.ref hd) :: (.ref ak) :: (.ref ho) :: (.ref ot) :: []) := (hR h0 (by rw [hT_h0]; simp)).symm.trans hF_205
        have hF_214 : F va = .inl (cs 23, 40, .inr (.inr (.inr (.inr f_163)))) := (hR va (by rw [ht_12]; simp)).symm.trans hF_206
        have hF_215 : F b_166 = .inr (14, [.ref r_167, .int (nI z_174)]) := (hR b_166 (by rw [ht_170]; simp)).symm.trans hF_207
        have hF_216 : F b_177 = .inr (14, [.ref r_178, .int (nI z_185)]) := (hR b_177 (by rw [ht_181]; simp)).symm.trans hF_208
        refine W.widen (k := 0) (n := 0) (by omega) (by omega) ?_
        refine pl_cutm (σ := Int32) A (dC, dI) cs ty gm L [ρ + 13, ρ + 14, ρ + 22] F 140 3 (fun s140 => [(1, .int (nI j)), (0, .ref h0)]) (fun s140 => [.int s140]) (fun s140 FF => ∃ zk : Nat, zk ≤ 40 ∧ FF ke = .inr (13, [.ref x_44, .ref y0_45, .ref y1_46, .ref y2_47, .int (nI zk)])) ?_ (fun jn_211 => ?_)
        ·
          rintro s140 F_212 hv_217 hO hR H locs hP hD hS ls hl
          have hl : lv_has ls 3 [(1, .int (nI j)), (0, .ref h0)] := hl
          have hv_217 : ∃ zk : Nat, zk ≤ 40 ∧ F_212 ke = .inr (13, [.ref x_44, .ref y0_45, .ref y1_46, .ref y2_47, .int (nI zk)]) := hv_217
          refine W.eq (g2 := F0 m 140 ls [.int s140]) rfl ?_
          have hF_218 : F_212 h0 = .inr (15, (.ref ta) :: (.int (nI zt)) :: (.int (nI zo_123)) :: (.int (nI ze_124)) :: (.ref ou) :: (.ref so) :: (.ref ad) :: (.ref na) :: (.ref va) :: (.ref lc) :: (.ref dm) :: (.int v11_125) :: (.int v12_126) :: (.ref tg) :: (.int v14_127) :: (.int v15_128) :: (.ref pe) :: (.int v17_129) :: (.int v18_130) :: (.int v19_131) :: (.int v20_132) :: (.int v21_133) :: (.int v22_134) :: (.ref ml) :: (.ref bg) :: (.ref co) :: (.ref sp) :: (.ref nb0) :: (.ref nb1) :: (.ref nb2) :: (.int (nI nf)) :: (.int (nI bd)) :: (.int (nI mm)) :: (.int v33_135) :: (.ref pl) :: (.ref se) :: (.ref ke) :: (.ref wi) :: (.ref hs) :: (.ref mo) :: (.ref po) :: (.ref nu) :: (.ref pr) :: (.ref sq) :: (.ref xa) :: (.ref sa) :: (.ref n64) :: (.ref m64) :: (.ref ex) :: (.ref wh) :: (.ref sd) :: (.ref tk) :: (.int v52_136) :: (.int v53_137) :: (.int v54_138) :: (.ref hd) :: (.ref ak) :: (.ref ho) :: (.ref ot) :: []) := (hR h0 (by rw [hT_h0]; simp)).trans hF_213
          have hF_219 : F_212 va = .inl (cs 23, 40, .inr (.inr (.inr (.inr f_163)))) := (hR va (by rw [ht_12]; simp)).trans hF_214
          have hF_220 : F_212 b_166 = .inr (14, [.ref r_167, .int (nI z_174)]) := (hR b_166 (by rw [ht_170]; simp)).trans hF_215
          have hF_221 : F_212 b_177 = .inr (14, [.ref r_178, .int (nI z_185)]) := (hR b_177 (by rw [ht_181]; simp)).trans hF_216
          obtain ⟨zk140, hzk140a, hzk140b⟩ := hv_217
          refine lv_istore_n (lv' := [(2, .int s140), (1, .int (nI j)), (0, .ref h0)]) hx hb dX15_keyOf_140 rfl hl (by decide) rfl (fun ls hl => ?_)
          refine lv_iload_n hx hb dX15_keyOf_141 rfl (lv_at hl 0 rfl) ?_
          have hF_224 : F h0 = .inr (15, (.ref ta) :: (.int (nI zt)) :: (.int (nI zo_123)) :: (.int (nI ze_124)) :: (.ref ou) :: (.ref so) :: (.ref ad) :: (.ref na) :: (.ref va) :: (.ref lc) :: (.ref dm) :: (.int v11_125) :: (.int v12_126) :: (.ref tg) :: (.int v14_127) :: (.int v15_128) :: (.ref pe) :: (.int v17_129) :: (.int v18_130) :: (.int v19_131) :: (.int v20_132) :: (.int v21_133) :: (.int v22_134) :: (.ref ml) :: (.ref bg) :: (.ref co) :: (.ref sp) :: (.ref nb0) :: (.ref nb1) :: (.ref nb2) :: (.int (nI nf)) :: (.int (nI bd)) :: (.int (nI mm)) :: (.int v33_135) :: (.ref pl) :: (.ref se) :: (.ref ke) :: (.ref wi) :: (.ref hs) :: (.ref mo) :: (.ref po) :: (.ref nu) :: (.ref pr) :: (.ref sq) :: (.ref xa) :: (.ref sa) :: (.ref n64) :: (.ref m64) :: (.ref ex) :: (.ref wh) :: (.ref sd) :: (.ref tk) :: (.int v52_136) :: (.int v53_137) :: (.int v54_138) :: (.ref hd) :: (.ref ak) :: (.ref ho) :: (.ref ot) :: []) := (hR h0 (by rw [hT_h0]; simp)).symm.trans hF_218
          have hF_225 : F va = .inl (cs 23, 40, .inr (.inr (.inr (.inr f_163)))) := (hR va (by rw [ht_12]; simp)).symm.trans hF_219
          have hF_226 : F b_166 = .inr (14, [.ref r_167, .int (nI z_174)]) := (hR b_166 (by rw [ht_170]; simp)).symm.trans hF_220
          have hF_227 : F b_177 = .inr (14, [.ref r_178, .int (nI z_185)]) := (hR b_177 (by rw [ht_181]; simp)).symm.trans hF_221
          refine W.widen (k := 0) (n := 0) (by omega) (by omega) ?_
          refine pl_cutm (σ := Int32) A (dC, dI) cs ty gm L [ρ + 13, ρ + 14, ρ + 22] F 176 3 (fun s176 => [(2, .int s140), (1, .int (nI j)), (0, .ref h0)]) (fun s176 => [.int s176, .int s140]) (fun s176 FF => ∃ zk : Nat, zk ≤ 40 ∧ FF ke = .inr (13, [.ref x_44, .ref y0_45, .ref y1_46, .ref y2_47, .int (nI zk)])) ?_ (fun jn_222 => ?_)
          ·
            rintro s176 F_223 hv_228 hO hR H locs hP hD hS ls hl
            have hl : lv_has ls 3 [(2, .int s140), (1, .int (nI j)), (0, .ref h0)] := hl
            have hv_228 : ∃ zk : Nat, zk ≤ 40 ∧ F_223 ke = .inr (13, [.ref x_44, .ref y0_45, .ref y1_46, .ref y2_47, .int (nI zk)]) := hv_228
            refine W.eq (g2 := F0 m 176 ls [.int s176, .int s140]) rfl ?_
            have hF_229 : F_223 h0 = .inr (15, (.ref ta) :: (.int (nI zt)) :: (.int (nI zo_123)) :: (.int (nI ze_124)) :: (.ref ou) :: (.ref so) :: (.ref ad) :: (.ref na) :: (.ref va) :: (.ref lc) :: (.ref dm) :: (.int v11_125) :: (.int v12_126) :: (.ref tg) :: (.int v14_127) :: (.int v15_128) :: (.ref pe) :: (.int v17_129) :: (.int v18_130) :: (.int v19_131) :: (.int v20_132) :: (.int v21_133) :: (.int v22_134) :: (.ref ml) :: (.ref bg) :: (.ref co) :: (.ref sp) :: (.ref nb0) :: (.ref nb1) :: (.ref nb2) :: (.int (nI nf)) :: (.int (nI bd)) :: (.int (nI mm)) :: (.int v33_135) :: (.ref pl) :: (.ref se) :: (.ref ke) :: (.ref wi) :: (.ref hs) :: (.ref mo) :: (.ref po) :: (.ref nu) :: (.ref pr) :: (.ref sq) :: (.ref xa) :: (.ref sa) :: (.ref n64) :: (.ref m64) :: (.ref ex) :: (.ref wh) :: (.ref sd) :: (.ref tk) :: (.int v52_136) :: (.int v53_137) :: (.int v54_138) :: (.ref hd) :: (.ref ak) :: (.ref ho) :: (.ref ot) :: []) := (hR h0 (by rw [hT_h0]; simp)).trans hF_224
            have hF_230 : F_223 va = .inl (cs 23, 40, .inr (.inr (.inr (.inr f_163)))) := (hR va (by rw [ht_12]; simp)).trans hF_225
            have hF_231 : F_223 b_166 = .inr (14, [.ref r_167, .int (nI z_174)]) := (hR b_166 (by rw [ht_170]; simp)).trans hF_226
            have hF_232 : F_223 b_177 = .inr (14, [.ref r_178, .int (nI z_185)]) := (hR b_177 (by rw [ht_181]; simp)).trans hF_227
            obtain ⟨zk176, hzk176a, hzk176b⟩ := hv_228
            refine lv_iand hx hb dX15_keyOf_176 ?_
            refine lv_topi (fun x_233 ex_233 => ?_)
            refine lv_istore_n (lv' := [(2, .int x_233), (1, .int (nI j)), (0, .ref h0)]) hx hb dX15_keyOf_177 rfl hl (by decide) rfl (fun ls hl => ?_)
            refine lv_iload_n hx hb dX15_keyOf_178 rfl (lv_at hl 0 rfl) ?_
            have hF_236 : F h0 = .inr (15, (.ref ta) :: (.int (nI zt)) :: (.int (nI zo_123)) :: (.int (nI ze_124)) :: (.ref ou) :: (.ref so) :: (.ref ad) :: (.ref na) :: (.ref va) :: (.ref lc) :: (.ref dm) :: (.int v11_125) :: (.int v12_126) :: (.ref tg) :: (.int v14_127) :: (.int v15_128) :: (.ref pe) :: (.int v17_129) :: (.int v18_130) :: (.int v19_131) :: (.int v20_132) :: (.int v21_133) :: (.int v22_134) :: (.ref ml) :: (.ref bg) :: (.ref co) :: (.ref sp) :: (.ref nb0) :: (.ref nb1) :: (.ref nb2) :: (.int (nI nf)) :: (.int (nI bd)) :: (.int (nI mm)) :: (.int v33_135) :: (.ref pl) :: (.ref se) :: (.ref ke) :: (.ref wi) :: (.ref hs) :: (.ref mo) :: (.ref po) :: (.ref nu) :: (.ref pr) :: (.ref sq) :: (.ref xa) :: (.ref sa) :: (.ref n64) :: (.ref m64) :: (.ref ex) :: (.ref wh) :: (.ref sd) :: (.ref tk) :: (.int v52_136) :: (.int v53_137) :: (.int v54_138) :: (.ref hd) :: (.ref ak) :: (.ref ho) :: (.ref ot) :: []) := (hR h0 (by rw [hT_h0]; simp)).symm.trans hF_229
            have hF_237 : F va = .inl (cs 23, 40, .inr (.inr (.inr (.inr f_163)))) := (hR va (by rw [ht_12]; simp)).symm.trans hF_230
            have hF_238 : F b_166 = .inr (14, [.ref r_167, .int (nI z_174)]) := (hR b_166 (by rw [ht_170]; simp)).symm.trans hF_231
            have hF_239 : F b_177 = .inr (14, [.ref r_178, .int (nI z_185)]) := (hR b_177 (by rw [ht_181]; simp)).symm.trans hF_232
            refine W.widen (k := 0) (n := 0) (by omega) (by omega) ?_
            refine pl_cutm (σ := Int32) A (dC, dI) cs ty gm L [ρ + 13, ρ + 14, ρ + 22] F 213 3 (fun s213 => [(2, .int x_233), (1, .int (nI j)), (0, .ref h0)]) (fun s213 => [.int s213, .int x_233]) (fun s213 FF => ∃ zk : Nat, zk ≤ 40 ∧ FF ke = .inr (13, [.ref x_44, .ref y0_45, .ref y1_46, .ref y2_47, .int (nI zk)])) ?_ (fun jn_234 => ?_)
            ·
              rintro s213 F_235 hv_240 hO hR H locs hP hD hS ls hl
              have hl : lv_has ls 3 [(2, .int x_233), (1, .int (nI j)), (0, .ref h0)] := hl
              have hv_240 : ∃ zk : Nat, zk ≤ 40 ∧ F_235 ke = .inr (13, [.ref x_44, .ref y0_45, .ref y1_46, .ref y2_47, .int (nI zk)]) := hv_240
              refine W.eq (g2 := F0 m 213 ls [.int s213, .int x_233]) rfl ?_
              have hF_241 : F_235 h0 = .inr (15, (.ref ta) :: (.int (nI zt)) :: (.int (nI zo_123)) :: (.int (nI ze_124)) :: (.ref ou) :: (.ref so) :: (.ref ad) :: (.ref na) :: (.ref va) :: (.ref lc) :: (.ref dm) :: (.int v11_125) :: (.int v12_126) :: (.ref tg) :: (.int v14_127) :: (.int v15_128) :: (.ref pe) :: (.int v17_129) :: (.int v18_130) :: (.int v19_131) :: (.int v20_132) :: (.int v21_133) :: (.int v22_134) :: (.ref ml) :: (.ref bg) :: (.ref co) :: (.ref sp) :: (.ref nb0) :: (.ref nb1) :: (.ref nb2) :: (.int (nI nf)) :: (.int (nI bd)) :: (.int (nI mm)) :: (.int v33_135) :: (.ref pl) :: (.ref se) :: (.ref ke) :: (.ref wi) :: (.ref hs) :: (.ref mo) :: (.ref po) :: (.ref nu) :: (.ref pr) :: (.ref sq) :: (.ref xa) :: (.ref sa) :: (.ref n64) :: (.ref m64) :: (.ref ex) :: (.ref wh) :: (.ref sd) :: (.ref tk) :: (.int v52_136) :: (.int v53_137) :: (.int v54_138) :: (.ref hd) :: (.ref ak) :: (.ref ho) :: (.ref ot) :: []) := (hR h0 (by rw [hT_h0]; simp)).trans hF_236
              have hF_242 : F_235 va = .inl (cs 23, 40, .inr (.inr (.inr (.inr f_163)))) := (hR va (by rw [ht_12]; simp)).trans hF_237
              have hF_243 : F_235 b_166 = .inr (14, [.ref r_167, .int (nI z_174)]) := (hR b_166 (by rw [ht_170]; simp)).trans hF_238
              have hF_244 : F_235 b_177 = .inr (14, [.ref r_178, .int (nI z_185)]) := (hR b_177 (by rw [ht_181]; simp)).trans hF_239
              obtain ⟨zk213, hzk213a, hzk213b⟩ := hv_240
              refine lv_iand hx hb dX15_keyOf_213 ?_
              refine lv_topi (fun x_245 ex_245 => ?_)
              refine lv_istore_n (lv' := [(2, .int x_245), (1, .int (nI j)), (0, .ref h0)]) hx hb dX15_keyOf_214 rfl hl (by decide) rfl (fun ls hl => ?_)
              refine lv_iload_n hx hb dX15_keyOf_215 rfl (lv_at hl 0 rfl) ?_
              refine lv_if_eq (tgt := 223) hx hb dX15_keyOf_216 (by decide) (fun c_246 => ?_) (fun c_246 => ?_)
              ·
                refine lv_bipush (v := 6) hx hb dX15_keyOf_223 (by decide) ?_
                refine W.widen (k := 0) (n := 0) (by omega) (by omega) ?_
                exact W.iret (v := 6) hx hb hr (fun t ht hWm => ⟨⟨6, (), rfl, trivial, ⟨F_235, QTm.mk ht hP hD hO hR⟩⟩, hS.F ht⟩) hS.2.2 dX15_keyOf_225
              ·
                refine lv_iconst (v := 2) hx hb dX15_keyOf_219 (by decide) ?_
                refine lv_goto (tgt := 225) hx hb dX15_keyOf_220 (by decide) ?_
                refine W.widen (k := 0) (n := 0) (by omega) (by omega) ?_
                exact W.iret (v := 2) hx hb hr (fun t ht hWm => ⟨⟨2, (), rfl, trivial, ⟨F_235, QTm.mk ht hP hD hO hR⟩⟩, hS.F ht⟩) hS.2.2 dX15_keyOf_225
            ·
              refine lv_aload_n hx hb dX15_keyOf_179 rfl (lv_at hl 2 rfl) ?_
              refine pg_get (ci := 15) (v := .ref ke) (C := RX15) (T := TX15) (N := 59) hx hb hts it_15 hown hK hP hL_h0 hF_229 rfl 36 (by decide) (hts _ kt_954) (fun _ h9 => h9) rfl dX15_keyOf_180 ?_
              obtain ⟨q_247, v_248, hr_q_247, hX_q_247⟩ := hG.2.2 ("PostGateModel", 537, "k", [107]) (by decide +kernel)
              have hX_q_247 : SXc q_247 v_248 1 (cct [107]) A s s.heap := hX_q_247
              obtain ⟨xo_q_247, xc_q_247, xv_q_247, xt_q_247, xn_q_247⟩ := id hX_q_247
              have hr_q_247 : vk_R "PostGateModel" 537 "k" q_247 s := hr_q_247
              refine va_ldcwS hx hb hown hr_q_247 dX15_keyOf_183 ?_
              have hFc := pg_free hD hS hA
              refine va_calli (va_runV (As := [.ref q_247]) (rest := [.int x_233]) ⟨hx, hb, hml, hown, hts⟩ (s_X13_find l dC dI cs ty gm L H.size F_223 ke (ρ + 13) x_44 700 700 y0_45 y1_46 y2_47 r_110 zk176 q_247 v_248 1 (cct [107]) hW hi_43 ht_48 hi_106 ht_111 hzk176b (by first | omega | assumption)) ⟨callB_of 1 hts (gi kt_843) rfl rfl rfl (hts _ kt_844) (hts _ kt_854) (by decide +kernel) ⟨Nat.le_of_ble_eq_true rfl, Nat.le_of_ble_eq_true rfl⟩, (hts _ kt_846), (hts _ kt_847)⟩ ⟨fun a U g mk q => ⟨q.1, PTEm.calling q.2⟩, pg_recv hK hP hi_43 hzk176b (q := (RX13, TX13, 5)) rfl, fun U hU hWm => ⟨rfl, PTEm.mk hU hWm hP hK hD hE hO hG (fun x hx => by rw [List.mem_singleton] at hx; subst hx; exact hX_q_247) hS hFc⟩⟩ rfl rfl hl.1 rfl (lv_room (Nat.le_of_ble_eq_true rfl)) dX15_keyOf_186 ⟨by show _ + 0 ≤ 0; omega, by show _ + 0 ≤ 0; omega⟩) hS (fun q _ h => hFc q h) hFc (fun r_249 u t H1 locs ht hvm hw hB hz1 hk1 hS => ?_)
              obtain ⟨F_250, hB1⟩ := hB
              obtain rfl : F_223 = F_250 := (funext (fun a => hB1.2.2.2 a List.not_mem_nil)).symm
              obtain ⟨hP, hD, hO, hR⟩ := QTm.back hB1 ht hFc hR (fun q h => absurd h List.not_mem_nil)
              generalize H1 = H at hP hS ⊢
              have hw : FND (gA (F_223 r_110)) (gA (F_223 y0_45)) (gA (F_223 y1_46)) zk176 (cct [107]) 1 r_249 := hw
              have hw_251 := hw
              refine lv_if_lt (tgt := 208) hx hb dX15_keyOf_189 (by decide) (fun c_252 => ?_) (fun c_252 => ?_)
              ·
                refine lv_iconst (v := 1) hx hb dX15_keyOf_208 (by decide) ?_
                refine lv_goto (tgt := 213) hx hb dX15_keyOf_209 (by decide) ?_
                refine W.widen (k := 0) (n := 0) (by omega) (by omega) ?_
                exact jn_234 1 F_223 (⟨_, by omega, hzk176b⟩) hO hR _ _ hP hD hS ls (lv_sub hl [0, 1, 2] rfl)
              ·
                refine lv_aload_n hx hb dX15_keyOf_192 rfl (lv_at hl 2 rfl) ?_
                refine pg_get (ci := 15) (v := .ref ke) (C := RX15) (T := TX15) (N := 59) hx hb hts it_15 hown hK hP hL_h0 hF_229 rfl 36 (by decide) (hts _ kt_954) (fun _ h9 => h9) rfl dX15_keyOf_193 ?_
                refine va_ldcwS hx hb hown hr_q_247 dX15_keyOf_196 ?_
                obtain ⟨q_253, v_254, hr_q_253, hX_q_253⟩ := hG.2.2 ("PostGateModel", 539, "rsa", [114, 115, 97]) (by decide +kernel)
                have hX_q_253 : SXc q_253 v_254 3 (cct [114, 115, 97]) A s s.heap := hX_q_253
                obtain ⟨xo_q_253, xc_q_253, xv_q_253, xt_q_253, xn_q_253⟩ := id hX_q_253
                have hr_q_253 : vk_R "PostGateModel" 539 "rsa" q_253 s := hr_q_253
                refine va_ldcwS hx hb hown hr_q_253 dX15_keyOf_199 ?_
                have hFc := pg_free hD hS hA
                refine va_calli (va_runV (As := [.ref q_247, .ref q_253]) (rest := [.int x_233]) ⟨hx, hb, hml, hown, hts⟩ (s_X13_has l dC dI cs ty gm L H.size F_223 ke (ρ + 13) x_44 700 700 y0_45 y1_46 y2_47 r_110 zk176 q_247 v_248 1 (cct [107]) q_253 v_254 3 (cct [114, 115, 97]) hW hi_43 ht_48 hi_106 ht_111 hzk176b (by first | omega | assumption)) ⟨callB_of 2 hts (gi kt_878) rfl rfl rfl (hts _ kt_844) (hts _ kt_879) (by decide +kernel) ⟨Nat.le_of_ble_eq_true rfl, Nat.le_of_ble_eq_true rfl⟩, (hts _ kt_880), (hts _ kt_881)⟩ ⟨fun a U g mk q => ⟨q.1, PTEm.calling q.2⟩, pg_recv hK hP hi_43 hzk176b (q := (RX13, TX13, 5)) rfl, fun U hU hWm => ⟨rfl, PTEm.mk hU hWm hP hK hD hE hO hG (fun x hx => by simp only [List.mem_cons, List.not_mem_nil, or_false] at hx; rcases hx with hx | hx <;> subst hx <;> first | exact hX_q_247 | exact hX_q_253) hS hFc⟩⟩ rfl rfl hl.1 rfl (lv_room (Nat.le_of_ble_eq_true rfl)) dX15_keyOf_202 ⟨by show _ + 0 ≤ 0; omega, by show _ + 0 ≤ 0; omega⟩) hS (fun q _ h => hFc q h) hFc (fun r_255 u t H1 locs ht hvm hw hB hz1 hk1 hS => ?_)
                obtain ⟨F_256, hB1⟩ := hB
                obtain rfl : F_223 = F_256 := (funext (fun a => hB1.2.2.2 a List.not_mem_nil)).symm
                obtain ⟨hP, hD, hO, hR⟩ := QTm.back hB1 ht hFc hR (fun q h => absurd h List.not_mem_nil)
                generalize H1 = H at hP hS ⊢
                have hw : (r_255 = 0 ∨ r_255 = 1) := hw
                have hw_257 := hw
                refine lv_if_eq (tgt := 212) hx hb dX15_keyOf_205 (by decide) (fun c_258 => ?_) (fun c_258 => ?_)
                ·
                  refine lv_iconst (v := 0) hx hb dX15_keyOf_212 (by decide) ?_
                  refine W.widen (k := 0) (n := 0) (by omega) (by omega) ?_
                  exact jn_234 0 F_223 (⟨_, by omega, hzk176b⟩) hO hR _ _ hP hD hS ls (lv_sub hl [0, 1, 2] rfl)
                ·
                  refine lv_iconst (v := 1) hx hb dX15_keyOf_208 (by decide) ?_
                  refine lv_goto (tgt := 213) hx hb dX15_keyOf_209 (by decide) ?_
                  refine W.widen (k := 0) (n := 0) (by omega) (by omega) ?_
                  exact jn_234 1 F_223 (⟨_, by omega, hzk176b⟩) hO hR _ _ hP hD hS ls (lv_sub hl [0, 1, 2] rfl)
          ·
            refine lv_aload_n hx hb dX15_keyOf_142 rfl (lv_at hl 2 rfl) ?_
            refine pg_get (ci := 15) (v := .ref ke) (C := RX15) (T := TX15) (N := 59) hx hb hts it_15 hown hK hP hL_h0 hF_218 rfl 36 (by decide) (hts _ kt_954) (fun _ h9 => h9) rfl dX15_keyOf_143 ?_
            obtain ⟨q_259, v_260, hr_q_259, hX_q_259⟩ := hG.2.2 ("PostGateModel", 444, "v", [118]) (by decide +kernel)
            have hX_q_259 : SXc q_259 v_260 1 (cct [118]) A s s.heap := hX_q_259
            obtain ⟨xo_q_259, xc_q_259, xv_q_259, xt_q_259, xn_q_259⟩ := id hX_q_259
            have hr_q_259 : vk_R "PostGateModel" 444 "v" q_259 s := hr_q_259
            refine va_ldcwS hx hb hown hr_q_259 dX15_keyOf_146 ?_
            have hFc := pg_free hD hS hA
            refine va_calli (va_runV (As := [.ref q_259]) (rest := [.int s140]) ⟨hx, hb, hml, hown, hts⟩ (s_X13_find l dC dI cs ty gm L H.size F_212 ke (ρ + 13) x_44 700 700 y0_45 y1_46 y2_47 r_110 zk140 q_259 v_260 1 (cct [118]) hW hi_43 ht_48 hi_106 ht_111 hzk140b (by first | omega | assumption)) ⟨callB_of 1 hts (gi kt_843) rfl rfl rfl (hts _ kt_844) (hts _ kt_854) (by decide +kernel) ⟨Nat.le_of_ble_eq_true rfl, Nat.le_of_ble_eq_true rfl⟩, (hts _ kt_846), (hts _ kt_847)⟩ ⟨fun a U g mk q => ⟨q.1, PTEm.calling q.2⟩, pg_recv hK hP hi_43 hzk140b (q := (RX13, TX13, 5)) rfl, fun U hU hWm => ⟨rfl, PTEm.mk hU hWm hP hK hD hE hO hG (fun x hx => by rw [List.mem_singleton] at hx; subst hx; exact hX_q_259) hS hFc⟩⟩ rfl rfl hl.1 rfl (lv_room (Nat.le_of_ble_eq_true rfl)) dX15_keyOf_149 ⟨by show _ + 0 ≤ 0; omega, by show _ + 0 ≤ 0; omega⟩) hS (fun q _ h => hFc q h) hFc (fun r_261 u t H1 locs ht hvm hw hB hz1 hk1 hS => ?_)
            obtain ⟨F_262, hB1⟩ := hB
            obtain rfl : F_212 = F_262 := (funext (fun a => hB1.2.2.2 a List.not_mem_nil)).symm
            obtain ⟨hP, hD, hO, hR⟩ := QTm.back hB1 ht hFc hR (fun q h => absurd h List.not_mem_nil)
            generalize H1 = H at hP hS ⊢
            have hw : FND (gA (F_212 r_110)) (gA (F_212 y0_45)) (gA (F_212 y1_46)) zk140 (cct [118]) 1 r_261 := hw
            have hw_263 := hw
            refine lv_if_lt (tgt := 171) hx hb dX15_keyOf_152 (by decide) (fun c_264 => ?_) (fun c_264 => ?_)
            ·
              refine lv_iconst (v := 1) hx hb dX15_keyOf_171 (by decide) ?_
              refine lv_goto (tgt := 176) hx hb dX15_keyOf_172 (by decide) ?_
              refine W.widen (k := 0) (n := 0) (by omega) (by omega) ?_
              exact jn_222 1 F_212 (⟨_, by omega, hzk140b⟩) hO hR _ _ hP hD hS ls (lv_sub hl [0, 1, 2] rfl)
            ·
              refine lv_aload_n hx hb dX15_keyOf_155 rfl (lv_at hl 2 rfl) ?_
              refine pg_get (ci := 15) (v := .ref ke) (C := RX15) (T := TX15) (N := 59) hx hb hts it_15 hown hK hP hL_h0 hF_218 rfl 36 (by decide) (hts _ kt_954) (fun _ h9 => h9) rfl dX15_keyOf_156 ?_
              refine va_ldcwS hx hb hown hr_q_259 dX15_keyOf_159 ?_
              obtain ⟨q_265, v_266, hr_q_265, hX_q_265⟩ := hG.2.2 ("PostGateModel", 535, "DKIM1", [68, 75, 73, 77, 49]) (by decide +kernel)
              have hX_q_265 : SXc q_265 v_266 5 (cct [68, 75, 73, 77, 49]) A s s.heap := hX_q_265
              obtain ⟨xo_q_265, xc_q_265, xv_q_265, xt_q_265, xn_q_265⟩ := id hX_q_265
              have hr_q_265 : vk_R "PostGateModel" 535 "DKIM1" q_265 s := hr_q_265
              refine va_ldcwS hx hb hown hr_q_265 dX15_keyOf_162 ?_
              have hFc := pg_free hD hS hA
              refine va_calli (va_runV (As := [.ref q_259, .ref q_265]) (rest := [.int s140]) ⟨hx, hb, hml, hown, hts⟩ (s_X13_has l dC dI cs ty gm L H.size F_212 ke (ρ + 13) x_44 700 700 y0_45 y1_46 y2_47 r_110 zk140 q_259 v_260 1 (cct [118]) q_265 v_266 5 (cct [68, 75, 73, 77, 49]) hW hi_43 ht_48 hi_106 ht_111 hzk140b (by first | omega | assumption)) ⟨callB_of 2 hts (gi kt_878) rfl rfl rfl (hts _ kt_844) (hts _ kt_879) (by decide +kernel) ⟨Nat.le_of_ble_eq_true rfl, Nat.le_of_ble_eq_true rfl⟩, (hts _ kt_880), (hts _ kt_881)⟩ ⟨fun a U g mk q => ⟨q.1, PTEm.calling q.2⟩, pg_recv hK hP hi_43 hzk140b (q := (RX13, TX13, 5)) rfl, fun U hU hWm => ⟨rfl, PTEm.mk hU hWm hP hK hD hE hO hG (fun x hx => by simp only [List.mem_cons, List.not_mem_nil, or_false] at hx; rcases hx with hx | hx <;> subst hx <;> first | exact hX_q_259 | exact hX_q_265) hS hFc⟩⟩ rfl rfl hl.1 rfl (lv_room (Nat.le_of_ble_eq_true rfl)) dX15_keyOf_165 ⟨by show _ + 0 ≤ 0; omega, by show _ + 0 ≤ 0; omega⟩) hS (fun q _ h => hFc q h) hFc (fun r_267 u t H1 locs ht hvm hw hB hz1 hk1 hS => ?_)
              obtain ⟨F_268, hB1⟩ := hB
              obtain rfl : F_212 = F_268 := (funext (fun a => hB1.2.2.2 a List.not_mem_nil)).symm
              obtain ⟨hP, hD, hO, hR⟩ := QTm.back hB1 ht hFc hR (fun q h => absurd h List.not_mem_nil)
              generalize H1 = H at hP hS ⊢
              have hw : (r_267 = 0 ∨ r_267 = 1) := hw
              have hw_269 := hw
              refine lv_if_eq (tgt := 175) hx hb dX15_keyOf_168 (by decide) (fun c_270 => ?_) (fun c_270 => ?_)
              ·
                refine lv_iconst (v := 0) hx hb dX15_keyOf_175 (by decide) ?_
                refine W.widen (k := 0) (n := 0) (by omega) (by omega) ?_
                exact jn_222 0 F_212 (⟨_, by omega, hzk140b⟩) hO hR _ _ hP hD hS ls (lv_sub hl [0, 1, 2] rfl)
              ·
                refine lv_iconst (v := 1) hx hb dX15_keyOf_171 (by decide) ?_
                refine lv_goto (tgt := 176) hx hb dX15_keyOf_172 (by decide) ?_
                refine W.widen (k := 0) (n := 0) (by omega) (by omega) ?_
                exact jn_222 1 F_212 (⟨_, by omega, hzk140b⟩) hO hR _ _ hP hD hS ls (lv_sub hl [0, 1, 2] rfl)
        ·
          refine lv_if_eq (tgt := 139) hx hb dX15_keyOf_91 (by decide) (fun c_271 => ?_) (fun c_271 => ?_)
          ·
            refine lv_iconst (v := 0) hx hb dX15_keyOf_139 (by decide) ?_
            refine W.widen (k := 0) (n := 0) (by omega) (by omega) ?_
            exact jn_211 0 F_201 (⟨_, by omega, hq_203⟩) hO hR _ _ hP hD hS ls (lv_sub hl [0, 1] rfl)
          ·
            refine lv_aload_n hx hb dX15_keyOf_94 rfl (lv_at hl 1 rfl) ?_
            refine pg_get (ci := 15) (v := .ref ke) (C := RX15) (T := TX15) (N := 59) hx hb hts it_15 hown hK hP hL_h0 hF_205 rfl 36 (by decide) (hts _ kt_954) (fun _ h9 => h9) rfl dX15_keyOf_95 ?_
            obtain ⟨q_272, v_273, hr_q_272, hX_q_272⟩ := hG.2.2 ("PostGateModel", 533, "p", [112]) (by decide +kernel)
            have hX_q_272 : SXc q_272 v_273 1 (cct [112]) A s s.heap := hX_q_272
            obtain ⟨xo_q_272, xc_q_272, xv_q_272, xt_q_272, xn_q_272⟩ := id hX_q_272
            have hr_q_272 : vk_R "PostGateModel" 533 "p" q_272 s := hr_q_272
            refine va_ldcwS hx hb hown hr_q_272 dX15_keyOf_98 ?_
            refine lv_bipush (v := 64) hx hb dX15_keyOf_101 (by decide) ?_
            refine lv_aload_n hx hb dX15_keyOf_103 rfl (lv_at hl 1 rfl) ?_
            refine pg_get (ci := 15) (v := .ref m64) (C := RX15) (T := TX15) (N := 59) hx hb hts it_15 hown hK hP hL_h0 hF_205 rfl 47 (by decide) (hts _ kt_937) (fun _ h9 => h9) rfl dX15_keyOf_104 ?_
            obtain ⟨hq_274, hq_275⟩ := hW.octs hi_78 ht_79
            have hFc := pg_free hD hS hA
            refine va_calli (va_runS (As := [.ref ke, .ref q_272, .int 64, .ref m64]) (rest := []) ⟨hx, hb, hml, hown, hts⟩ (s_X15_base_64 l dC dI cs ty gm L H.size F_201 ke (ρ + 13) x_44 700 700 y0_45 y1_46 y2_47 r_110 z2_202 m64 (ρ + 22) q_272 v_273 1 (cct [112]) hW hi_43 ht_48 hi_106 ht_111 hi_78 ht_79 hq_203 (by first | omega | assumption)) ⟨callB_of 4 hts (gi kt_887) rfl rfl rfl (hts _ kt_669) (hts _ kt_888) (by decide +kernel) ⟨Nat.le_of_ble_eq_true rfl, Nat.le_of_ble_eq_true rfl⟩, (hts _ kt_889)⟩ ⟨fun a U g mk q => ⟨q.1, PTEm.calling q.2⟩, fun U hU hWm => ⟨rfl, PTEm.mk hU hWm hP hK hD hE hO hG (fun x hx => by rw [List.mem_singleton] at hx; subst hx; exact hX_q_272) hS hFc⟩⟩ rfl rfl hl.1 rfl (lv_room (Nat.le_of_ble_eq_true rfl)) dX15_keyOf_107 ⟨by show _ + 0 ≤ 0; omega, by show _ + 0 ≤ 0; omega⟩) hS (fun q _ h => hFc q h) hFc (fun r_276 u t H1 locs ht hvm hw hB hz1 hk1 hS => ?_)
            obtain ⟨F_277, hB1⟩ := hB
            obtain ⟨hP, hD, hO, hR⟩ := QTm.back hB1 ht hFc hR (fun q h => by simp only [List.mem_cons, List.not_mem_nil, or_false] at h ⊢; omega)
            have hF_278 : F_277 h0 = .inr (15, (.ref ta) :: (.int (nI zt)) :: (.int (nI zo_123)) :: (.int (nI ze_124)) :: (.ref ou) :: (.ref so) :: (.ref ad) :: (.ref na) :: (.ref va) :: (.ref lc) :: (.ref dm) :: (.int v11_125) :: (.int v12_126) :: (.ref tg) :: (.int v14_127) :: (.int v15_128) :: (.ref pe) :: (.int v17_129) :: (.int v18_130) :: (.int v19_131) :: (.int v20_132) :: (.int v21_133) :: (.int v22_134) :: (.ref ml) :: (.ref bg) :: (.ref co) :: (.ref sp) :: (.ref nb0) :: (.ref nb1) :: (.ref nb2) :: (.int (nI nf)) :: (.int (nI bd)) :: (.int (nI mm)) :: (.int v33_135) :: (.ref pl) :: (.ref se) :: (.ref ke) :: (.ref wi) :: (.ref hs) :: (.ref mo) :: (.ref po) :: (.ref nu) :: (.ref pr) :: (.ref sq) :: (.ref xa) :: (.ref sa) :: (.ref n64) :: (.ref m64) :: (.ref ex) :: (.ref wh) :: (.ref sd) :: (.ref tk) :: (.int v52_136) :: (.int v53_137) :: (.int v54_138) :: (.ref hd) :: (.ref ak) :: (.ref ho) :: (.ref ot) :: []) := (hB1.2.2.2 h0 (by rw [hT_h0]; simp)).trans hF_205
            have hF_279 : F_277 va = .inl (cs 23, 40, .inr (.inr (.inr (.inr f_163)))) := (hB1.2.2.2 va (by rw [ht_12]; simp)).trans hF_206
            have hF_280 : F_277 b_166 = .inr (14, [.ref r_167, .int (nI z_174)]) := (hB1.2.2.2 b_166 (by rw [ht_170]; simp)).trans hF_207
            have hF_281 : F_277 b_177 = .inr (14, [.ref r_178, .int (nI z_185)]) := (hB1.2.2.2 b_177 (by rw [ht_181]; simp)).trans hF_208
            have hF_282 : F_277 x_44 = .inr (14, [.ref r_110, .int (nI z2_192)]) := (hB1.2.2.2 x_44 (by rw [ht_111]; simp)).trans hF_209
            have hF_283 : F_277 ke = .inr (13, [.ref x_44, .ref y0_45, .ref y1_46, .ref y2_47, .int (nI z2_202)]) := (hB1.2.2.2 ke (by rw [ht_48]; simp)).trans hq_203
            generalize H1 = H at hP hS ⊢
            have hw : (r_276 = 0 ∨ r_276 = 1) := hw
            have hw_284 := hw
            refine lv_if_eq (tgt := 139) hx hb dX15_keyOf_110 (by decide) (fun c_285 => ?_) (fun c_285 => ?_)
            ·
              refine lv_iconst (v := 0) hx hb dX15_keyOf_139 (by decide) ?_
              refine W.widen (k := 0) (n := 0) (by omega) (by omega) ?_
              exact jn_211 0 F_277 (⟨_, by omega, hF_283⟩) hO hR _ _ hP hD hS ls (lv_sub hl [0, 1] rfl)
            ·
              refine lv_aload_n hx hb dX15_keyOf_113 rfl (lv_at hl 1 rfl) ?_
              refine pg_get (ci := 15) (v := .ref m64) (C := RX15) (T := TX15) (N := 59) hx hb hts it_15 hown hK hP hL_h0 hF_278 rfl 47 (by decide) (hts _ kt_937) (fun _ h9 => h9) rfl dX15_keyOf_114 ?_
              refine lv_iconst (v := 0) hx hb dX15_keyOf_117 (by decide) ?_
              obtain ⟨f_286, hF_287, hq_288⟩ := hO.octs hi_78 ht_79
              refine pg_bald hx hb hK hP hi_78 1 hF_287 rfl (show vp_in (0 : Int32) 64 from (show vp_in (nI 0) 64 from vp_in_nI (by omega) (by omega))) dX15_keyOf_118 ?_
              refine lv_topi (fun x_289 ex_289 => ?_)
              obtain rfl : x_289 = f_286 0 := ex_289.trans (congrArg f_286 (show (0 : Int32).toNatClampNeg = 0 from by decide))
              refine lv_if_ge (tgt := 139) hx hb dX15_keyOf_119 (by decide) (fun c_290 => ?_) (fun c_290 => ?_)
              ·
                refine lv_iconst (v := 0) hx hb dX15_keyOf_139 (by decide) ?_
                refine W.widen (k := 0) (n := 0) (by omega) (by omega) ?_
                exact jn_211 0 F_277 (⟨_, by omega, hF_283⟩) hO hR _ _ hP hD hS ls (lv_sub hl [0, 1] rfl)
              ·
                refine lv_aload_n hx hb dX15_keyOf_122 rfl (lv_at hl 1 rfl) ?_
                refine pg_get (ci := 15) (v := .ref m64) (C := RX15) (T := TX15) (N := 59) hx hb hts it_15 hown hK hP hL_h0 hF_278 rfl 47 (by decide) (hts _ kt_937) (fun _ h9 => h9) rfl dX15_keyOf_123 ?_
                refine lv_bipush (v := 63) hx hb dX15_keyOf_126 (by decide) ?_
                refine pg_bald hx hb hK hP hi_78 1 hF_287 rfl (show vp_in (63 : Int32) 64 from (show vp_in (nI 63) 64 from vp_in_nI (by omega) (by omega))) dX15_keyOf_128 ?_
                refine lv_topi (fun x_291 ex_291 => ?_)
                obtain rfl : x_291 = f_286 63 := ex_291.trans (congrArg f_286 (show (63 : Int32).toNatClampNeg = 63 from by decide))
                refine lv_iconst (v := 1) hx hb dX15_keyOf_129 (by decide) ?_
                refine lv_iand hx hb dX15_keyOf_130 ?_
                refine lv_topi (fun x_292 _ => ?_)
                refine lv_iconst (v := 1) hx hb dX15_keyOf_131 (by decide) ?_
                refine lv_icmp_ne (tgt := 139) hx hb dX15_keyOf_132 (by decide) (fun c_293 => ?_) (fun c_293 => ?_)
                ·
                  refine lv_iconst (v := 0) hx hb dX15_keyOf_139 (by decide) ?_
                  refine W.widen (k := 0) (n := 0) (by omega) (by omega) ?_
                  exact jn_211 0 F_277 (⟨_, by omega, hF_283⟩) hO hR _ _ hP hD hS ls (lv_sub hl [0, 1] rfl)
                ·
                  refine lv_iconst (v := 1) hx hb dX15_keyOf_135 (by decide) ?_
                  refine lv_goto (tgt := 140) hx hb dX15_keyOf_136 (by decide) ?_
                  refine W.widen (k := 0) (n := 0) (by omega) (by omega) ?_
                  exact jn_211 1 F_277 (⟨_, by omega, hF_283⟩) hO hR _ _ hP hD hS ls (lv_sub hl [0, 1] rfl)
      ·
        have hi_294 : j = ze_124 := (nI_eq (a := j) (b := ze_124) (by omega) (by omega)).mp c_158
        refine lv_bipush (v := 6) hx hb dX15_keyOf_50 (by decide) ?_
        refine W.widen (k := 0) (n := 0) (by omega) (by omega) ?_
        exact W.iret (v := 6) hx hb hr (fun t ht hWm => ⟨⟨6, (), rfl, trivial, ⟨F_151, QTm.mk ht hP hD hO hR⟩⟩, hS.F ht⟩) hS.2.2 dX15_keyOf_52
    ·
      have hi_295 : j < ze_124 := ltN (N := ze_124) c_156
      refine lv_aload_n hx hb dX15_keyOf_23 rfl (lv_at hl 1 rfl) ?_
      refine lv_iload_n hx hb dX15_keyOf_24 rfl (lv_at hl 0 rfl) ?_
      refine lv_iconst (v := 0) hx hb dX15_keyOf_25 (by decide) ?_
      refine lv_aload_n hx hb dX15_keyOf_26 rfl (lv_at hl 1 rfl) ?_
      refine pg_get (ci := 15) (v := .ref wh) (C := RX15) (T := TX15) (N := 59) hx hb hts it_15 hown hK hP hL_h0 hF_155 rfl 49 (by decide) (hts _ kt_953) (fun _ h9 => h9) rfl dX15_keyOf_27 ?_
      have hFc := pg_free hD hS hA
      refine va_calli (va_runV (As := [.int (nI j), .int 0, .ref wh]) (rest := []) ⟨hx, hb, hml, hown, hts⟩ (s_X15_isOf l dC dI cs ty gm L H.size F_151 h0 ρ ta ou so ad na va lc dm tg pe ml bg co sp nb0 nb1 nb2 pl se ke wi hs mo po nu pr sq xa sa n64 m64 ex wh sd tk hd ak ho ot sx s0 s1 s2 nf bd mm zt j wh (ρ + 24) r_83 6000 0 hW hL_h0 hT_h0 hi_82 ht_84 (by first | omega | assumption)) ⟨callB_of 3 hts (gi kt_725) rfl rfl rfl (hts _ kt_669) (hts _ kt_726) (by decide +kernel) ⟨Nat.le_of_ble_eq_true rfl, Nat.le_of_ble_eq_true rfl⟩, (hts _ kt_727), (hts _ kt_728)⟩ ⟨fun a U g mk q => ⟨q.1, PTm.calling q.2⟩, pg_recv hK hP hL_h0 hF_155 (q := (RX15, TX15, 59)) rfl, fun U hU hWm => ⟨rfl, PTm.mk hU hWm hP hK hD hE hO⟩⟩ rfl rfl hl.1 rfl (lv_room (Nat.le_of_ble_eq_true rfl)) dX15_keyOf_30 ⟨by show _ + 0 ≤ 0; omega, by show _ + 0 ≤ 0; omega⟩) hS (fun q _ h => hFc q h) hFc (fun r_296 u t H1 locs ht hvm hw hB hz1 hk1 hS => ?_)
      obtain ⟨F_297, hB1⟩ := hB
      obtain rfl : F_151 = F_297 := (funext (fun a => hB1.2.2.2 a List.not_mem_nil)).symm
      obtain ⟨hP, hD, hO, hR⟩ := QTm.back hB1 ht hFc hR (fun q h => absurd h List.not_mem_nil)
      generalize H1 = H at hP hS ⊢
      have hw : (r_296 = 0 ∨ r_296 = 1) := hw
      have hw_298 := hw
      refine lv_if_ne (tgt := 42) hx hb dX15_keyOf_33 (by decide) (fun c_299 => ?_) (fun c_299 => ?_)
      ·
        refine lv_iload_n hx hb dX15_keyOf_42 rfl (lv_at hl 0 rfl) ?_
        refine lv_aload_n hx hb dX15_keyOf_43 rfl (lv_at hl 1 rfl) ?_
        refine pg_get (ci := 15) (v := .int (nI ze_124)) (C := RX15) (T := TX15) (N := 59) hx hb hts it_15 hown hK hP hL_h0 hF_155 rfl 3 (by decide) (hts _ kt_724) (fun _ h9 => h9) rfl dX15_keyOf_44 ?_
        refine lv_icmp_ne (tgt := 53) hx hb dX15_keyOf_47 (by decide) (fun c_300 => ?_) (fun c_300 => ?_)
        ·
          have hi_301 : j ≠ ze_124 := fun q => c_300 (by rw [q])
          obtain ⟨z_302, hF_303, hq_304⟩ := hO.tags hi_43 ht_48
          refine lv_aload_n hx hb dX15_keyOf_53 rfl (lv_at hl 1 rfl) ?_
          refine pg_get (ci := 15) (v := .ref va) (C := RX15) (T := TX15) (N := 59) hx hb hts it_15 hown hK hP hL_h0 hF_155 rfl 8 (by decide) (hts _ kt_732) (fun _ h9 => h9) rfl dX15_keyOf_54 ?_
          refine lv_iload_n hx hb dX15_keyOf_57 rfl (lv_at hl 0 rfl) ?_
          obtain ⟨f_305, hF_306, hq_307⟩ := hO.rtxt hi_11 ht_12
          obtain ⟨b_308, r_309, hbf_310, hi_311, ht_312⟩ := hq_307 j (by omega)
          refine pg_aald (r := b_308) hx hb hK hP hi_11 7 hF_306 rfl (vp_in_nI (by omega) (by omega)) (show f_305 ((nI j) : Int32).toNatClampNeg = _ from by rw [show ((nI j) : Int32) = nI j from rfl, nI_clamp (by omega)]; exact hbf_310) dX15_keyOf_58 ?_
          obtain ⟨hi_313, ht_314, hq_315⟩ := hW.txt hi_311 ht_312
          obtain ⟨z_316, hF_317, hq_318⟩ := hO.txt hi_311 ht_312
          refine pg_get (ci := 14) (v := .ref r_309) (C := RX14) (T := TX14) (N := 2) hx hb hts it_14 hown hK hP hi_311 hF_317 rfl 0 (by decide) (hts _ kt_710) (fun _ h9 => h9) rfl dX15_keyOf_59 ?_
          refine lv_iconst (v := 0) hx hb dX15_keyOf_62 (by decide) ?_
          refine lv_aload_n hx hb dX15_keyOf_63 rfl (lv_at hl 1 rfl) ?_
          refine pg_get (ci := 15) (v := .ref va) (C := RX15) (T := TX15) (N := 59) hx hb hts it_15 hown hK hP hL_h0 hF_155 rfl 8 (by decide) (hts _ kt_732) (fun _ h9 => h9) rfl dX15_keyOf_64 ?_
          refine lv_iload_n hx hb dX15_keyOf_67 rfl (lv_at hl 0 rfl) ?_
          obtain ⟨b_319, r_320, hbf_321, hi_322, ht_323⟩ := hq_307 j (by omega)
          refine pg_aald (r := b_319) hx hb hK hP hi_11 7 hF_306 rfl (vp_in_nI (by omega) (by omega)) (show f_305 ((nI j) : Int32).toNatClampNeg = _ from by rw [show ((nI j) : Int32) = nI j from rfl, nI_clamp (by omega)]; exact hbf_321) dX15_keyOf_68 ?_
          obtain ⟨hi_324, ht_325, hq_326⟩ := hW.txt hi_322 ht_323
          obtain ⟨z_327, hF_328, hq_329⟩ := hO.txt hi_322 ht_323
          refine pg_get (ci := 14) (v := .int (nI z_327)) (C := RX14) (T := TX14) (N := 2) hx hb hts it_14 hown hK hP hi_322 hF_328 rfl 1 (by decide) (hts _ kt_709) (fun _ h9 => h9) rfl dX15_keyOf_69 ?_
          refine lv_aload_n hx hb dX15_keyOf_72 rfl (lv_at hl 1 rfl) ?_
          refine pg_get (ci := 15) (v := .ref ke) (C := RX15) (T := TX15) (N := 59) hx hb hts it_15 hown hK hP hL_h0 hF_155 rfl 36 (by decide) (hts _ kt_954) (fun _ h9 => h9) rfl dX15_keyOf_73 ?_
          refine pg_get (ci := 13) (v := .ref x_44) (C := RX13) (T := TX13) (N := 5) hx hb hts it_13 hown hK hP hi_43 hF_303 rfl 0 (by decide) (hts _ kt_857) (fun _ h9 => h9) rfl dX15_keyOf_76 ?_
          refine W.eq (g2 := F0 m 79 ls [.ref x_44, .int (nI z_327), .int (nI 0), .ref r_309]) rfl ?_
          obtain ⟨hq_330, hq_331⟩ := hW.octs hi_313 ht_314
          have hFc := pg_free hD hS hA
          refine va_callv (va_runS (As := [.ref r_309, .int (nI 0), .int (nI z_327), .ref x_44]) (rest := []) ⟨hx, hb, hml, hown, hts⟩ (s_X15_withoutWhite l dC dI cs ty gm L H.size F_151 r_309 (ρ + 31) 700 x_44 (ρ + 14) r_110 700 0 z_327 hW hi_313 ht_314 hi_106 ht_111 (by first | omega | assumption) (by first | omega | assumption) (by first | omega | assumption)) ⟨callB_of 4 hts (gi kt_955) rfl rfl rfl (hts _ kt_669) (hts _ kt_956) (by decide +kernel) ⟨Nat.le_of_ble_eq_true rfl, Nat.le_of_ble_eq_true rfl⟩, (hts _ kt_957)⟩ ⟨fun a U g mk q => ⟨q.1, PTm.calling q.2⟩, fun U hU hWm => ⟨rfl, PTm.mk hU hWm hP hK hD hE hO⟩⟩ rfl rfl hl.1 rfl (lv_room (Nat.le_of_ble_eq_true rfl)) dX15_keyOf_79 ⟨by show _ + 0 ≤ 0; omega, by show _ + 0 ≤ 0; omega⟩) hS (fun q _ h => hFc q h) hFc (fun u t H1 locs ht hvm hw hB hz1 hk1 hS => ?_)
          obtain ⟨F_333, z2_334, hB1, hq_335, hq_336⟩ := hB
          obtain ⟨hP, hD, hO, hR⟩ := QTm.back hB1 ht hFc hR (fun q h => by simp only [List.mem_cons, List.not_mem_nil, or_false] at h ⊢; omega)
          have hF_337 : F_333 h0 = .inr (15, (.ref ta) :: (.int (nI zt)) :: (.int (nI zo_123)) :: (.int (nI ze_124)) :: (.ref ou) :: (.ref so) :: (.ref ad) :: (.ref na) :: (.ref va) :: (.ref lc) :: (.ref dm) :: (.int v11_125) :: (.int v12_126) :: (.ref tg) :: (.int v14_127) :: (.int v15_128) :: (.ref pe) :: (.int v17_129) :: (.int v18_130) :: (.int v19_131) :: (.int v20_132) :: (.int v21_133) :: (.int v22_134) :: (.ref ml) :: (.ref bg) :: (.ref co) :: (.ref sp) :: (.ref nb0) :: (.ref nb1) :: (.ref nb2) :: (.int (nI nf)) :: (.int (nI bd)) :: (.int (nI mm)) :: (.int v33_135) :: (.ref pl) :: (.ref se) :: (.ref ke) :: (.ref wi) :: (.ref hs) :: (.ref mo) :: (.ref po) :: (.ref nu) :: (.ref pr) :: (.ref sq) :: (.ref xa) :: (.ref sa) :: (.ref n64) :: (.ref m64) :: (.ref ex) :: (.ref wh) :: (.ref sd) :: (.ref tk) :: (.int v52_136) :: (.int v53_137) :: (.int v54_138) :: (.ref hd) :: (.ref ak) :: (.ref ho) :: (.ref ot) :: []) := (hB1.2.2.2 h0 (by rw [hT_h0]; simp)).trans hF_155
          have hF_338 : F_333 ke = .inr (13, [.ref x_44, .ref y0_45, .ref y1_46, .ref y2_47, .int (nI z_302)]) := (hB1.2.2.2 ke (by rw [ht_48]; simp)).trans hF_303
          have hF_339 : F_333 va = .inl (cs 23, 40, .inr (.inr (.inr (.inr f_305)))) := (hB1.2.2.2 va (by rw [ht_12]; simp)).trans hF_306
          have hF_340 : F_333 b_308 = .inr (14, [.ref r_309, .int (nI z_316)]) := (hB1.2.2.2 b_308 (by rw [ht_312]; simp)).trans hF_317
          have hF_341 : F_333 b_319 = .inr (14, [.ref r_320, .int (nI z_327)]) := (hB1.2.2.2 b_319 (by rw [ht_323]; simp)).trans hF_328
          generalize H1 = H at hP hS ⊢
          refine lv_aload_n hx hb dX15_keyOf_82 rfl (lv_at hl 1 rfl) ?_
          refine pg_get (ci := 15) (v := .ref ke) (C := RX15) (T := TX15) (N := 59) hx hb hts it_15 hown hK hP hL_h0 hF_337 rfl 36 (by decide) (hts _ kt_954) (fun _ h9 => h9) rfl dX15_keyOf_83 ?_
          refine lv_bipush (v := 8) hx hb dX15_keyOf_86 (by decide) ?_
          have hFc := pg_free hD hS hA
          refine va_calli (va_runV (As := [.int 8]) (rest := []) ⟨hx, hb, hml, hown, hts⟩ (s_X13_read l dC dI cs ty gm L H.size F_333 ke (ρ + 13) x_44 700 700 y0_45 y1_46 y2_47 r_110 z2_334 8 hW hi_43 ht_48 hi_106 ht_111 hq_335 (by first | omega | assumption)) ⟨callB_of 1 hts (gi kt_874) rfl rfl rfl (hts _ kt_844) (hts _ kt_875) (by decide +kernel) ⟨Nat.le_of_ble_eq_true rfl, Nat.le_of_ble_eq_true rfl⟩, (hts _ kt_876), (hts _ kt_877)⟩ ⟨fun a U g mk q => ⟨q.1, PTm.calling q.2⟩, pg_recv hK hP hi_43 hF_338 (q := (RX13, TX13, 5)) rfl, fun U hU hWm => ⟨rfl, PTm.mk hU hWm hP hK hD hE hO⟩⟩ rfl rfl hl.1 rfl (lv_room (Nat.le_of_ble_eq_true rfl)) dX15_keyOf_88 ⟨by show _ + 0 ≤ 0; omega, by show _ + 0 ≤ 0; omega⟩) hS (fun q _ h => hFc q h) hFc (fun r_342 u t H1 locs ht hvm hw hB hz1 hk1 hS => ?_)
          obtain ⟨F_343, z2_344, hB1, hq_345, hq_346⟩ := hB
          obtain ⟨hP, hD, hO, hR⟩ := QTm.back hB1 ht hFc hR (fun q h => by simp only [List.mem_cons, List.not_mem_nil, or_false] at h ⊢; omega)
          have hF_347 : F_343 h0 = .inr (15, (.ref ta) :: (.int (nI zt)) :: (.int (nI zo_123)) :: (.int (nI ze_124)) :: (.ref ou) :: (.ref so) :: (.ref ad) :: (.ref na) :: (.ref va) :: (.ref lc) :: (.ref dm) :: (.int v11_125) :: (.int v12_126) :: (.ref tg) :: (.int v14_127) :: (.int v15_128) :: (.ref pe) :: (.int v17_129) :: (.int v18_130) :: (.int v19_131) :: (.int v20_132) :: (.int v21_133) :: (.int v22_134) :: (.ref ml) :: (.ref bg) :: (.ref co) :: (.ref sp) :: (.ref nb0) :: (.ref nb1) :: (.ref nb2) :: (.int (nI nf)) :: (.int (nI bd)) :: (.int (nI mm)) :: (.int v33_135) :: (.ref pl) :: (.ref se) :: (.ref ke) :: (.ref wi) :: (.ref hs) :: (.ref mo) :: (.ref po) :: (.ref nu) :: (.ref pr) :: (.ref sq) :: (.ref xa) :: (.ref sa) :: (.ref n64) :: (.ref m64) :: (.ref ex) :: (.ref wh) :: (.ref sd) :: (.ref tk) :: (.int v52_136) :: (.int v53_137) :: (.int v54_138) :: (.ref hd) :: (.ref ak) :: (.ref ho) :: (.ref ot) :: []) := (hB1.2.2.2 h0 (by rw [hT_h0]; simp)).trans hF_337
          have hF_348 : F_343 va = .inl (cs 23, 40, .inr (.inr (.inr (.inr f_305)))) := (hB1.2.2.2 va (by rw [ht_12]; simp)).trans hF_339
          have hF_349 : F_343 b_308 = .inr (14, [.ref r_309, .int (nI z_316)]) := (hB1.2.2.2 b_308 (by rw [ht_312]; simp)).trans hF_340
          have hF_350 : F_343 b_319 = .inr (14, [.ref r_320, .int (nI z_327)]) := (hB1.2.2.2 b_319 (by rw [ht_323]; simp)).trans hF_341
          have hF_351 : F_343 x_44 = .inr (14, [.ref r_110, .int (nI z2_334)]) := (hB1.2.2.2 x_44 (by rw [ht_111]; simp)).trans hq_335
          generalize H1 = H at hP hS ⊢
          have hw : (r_342 = 0 ∨ r_342 = 1) := hw
          have hw_352 := hw
          have hF_355 : F h0 = .inr (15, (.ref ta) :: (.int (nI zt)) :: (.int (nI zo_123)) :: (.int (nI ze_124)) :: (.ref ou) :: (.ref so) :: (.ref ad) :: (.ref na) :: (.ref va) :: (.ref lc) :: (.ref dm) :: (.int v11_125) :: (.int v12_126) :: (.ref tg) :: (.int v14_127) :: (.int v15_128) :: (.ref pe) :: (.int v17_129) :: (.int v18_130) :: (.int v19_131) :: (.int v20_132) :: (.int v21_133) :: (.int v22_134) :: (.ref ml) :: (.ref bg) :: (.ref co) :: (.ref sp) :: (.ref nb0) :: (.ref nb1) :: (.ref nb2) :: (.int (nI nf)) :: (.int (nI bd)) :: (.int (nI mm)) :: (.int v33_135) :: (.ref pl) :: (.ref se) :: (.ref ke) :: (.ref wi) :: (.ref hs) :: (.ref mo) :: (.ref po) :: (.ref nu) :: (.ref pr) :: (.ref sq) :: (.ref xa) :: (.ref sa) :: (.ref n64) :: (.ref m64) :: (.ref ex) :: (.ref wh) :: (.ref sd) :: (.ref tk) :: (.int v52_136) :: (.int v53_137) :: (.int v54_138) :: (.ref hd) :: (.ref ak) :: (.ref ho) :: (.ref ot) :: []) := (hR h0 (by rw [hT_h0]; simp)).symm.trans hF_347
          have hF_356 : F va = .inl (cs 23, 40, .inr (.inr (.inr (.inr f_305)))) := (hR va (by rw [ht_12]; simp)).symm.trans hF_348
          have hF_357 : F b_308 = .inr (14, [.ref r_309, .int (nI z_316)]) := (hR b_308 (by rw [ht_312]; simp)).symm.trans hF_349
          have hF_358 : F b_319 = .inr (14, [.ref r_320, .int (nI z_327)]) := (hR b_319 (by rw [ht_323]; simp)).symm.trans hF_350
          refine W.widen (k := 0) (n := 0) (by omega) (by omega) ?_
          refine pl_cutm (σ := Int32) A (dC, dI) cs ty gm L [ρ + 13, ρ + 14, ρ + 22] F 140 3 (fun s140 => [(1, .int (nI j)), (0, .ref h0)]) (fun s140 => [.int s140]) (fun s140 FF => ∃ zk : Nat, zk ≤ 40 ∧ FF ke = .inr (13, [.ref x_44, .ref y0_45, .ref y1_46, .ref y2_47, .int (nI zk)])) ?_ (fun jn_353 => ?_)
          ·
            rintro s140 F_354 hv_359 hO hR H locs hP hD hS ls hl
            have hl : lv_has ls 3 [(1, .int (nI j)), (0, .ref h0)] := hl
            have hv_359 : ∃ zk : Nat, zk ≤ 40 ∧ F_354 ke = .inr (13, [.ref x_44, .ref y0_45, .ref y1_46, .ref y2_47, .int (nI zk)]) := hv_359
            refine W.eq (g2 := F0 m 140 ls [.int s140]) rfl ?_
            have hF_360 : F_354 h0 = .inr (15, (.ref ta) :: (.int (nI zt)) :: (.int (nI zo_123)) :: (.int (nI ze_124)) :: (.ref ou) :: (.ref so) :: (.ref ad) :: (.ref na) :: (.ref va) :: (.ref lc) :: (.ref dm) :: (.int v11_125) :: (.int v12_126) :: (.ref tg) :: (.int v14_127) :: (.int v15_128) :: (.ref pe) :: (.int v17_129) :: (.int v18_130) :: (.int v19_131) :: (.int v20_132) :: (.int v21_133) :: (.int v22_134) :: (.ref ml) :: (.ref bg) :: (.ref co) :: (.ref sp) :: (.ref nb0) :: (.ref nb1) :: (.ref nb2) :: (.int (nI nf)) :: (.int (nI bd)) :: (.int (nI mm)) :: (.int v33_135) :: (.ref pl) :: (.ref se) :: (.ref ke) :: (.ref wi) :: (.ref hs) :: (.ref mo) :: (.ref po) :: (.ref nu) :: (.ref pr) :: (.ref sq) :: (.ref xa) :: (.ref sa) :: (.ref n64) :: (.ref m64) :: (.ref ex) :: (.ref wh) :: (.ref sd) :: (.ref tk) :: (.int v52_136) :: (.int v53_137) :: (.int v54_138) :: (.ref hd) :: (.ref ak) :: (.ref ho) :: (.ref ot) :: []) := (hR h0 (by rw [hT_h0]; simp)).trans hF_355
            have hF_361 : F_354 va = .inl (cs 23, 40, .inr (.inr (.inr (.inr f_305)))) := (hR va (by rw [ht_12]; simp)).trans hF_356
            have hF_362 : F_354 b_308 = .inr (14, [.ref r_309, .int (nI z_316)]) := (hR b_308 (by rw [ht_312]; simp)).trans hF_357
            have hF_363 : F_354 b_319 = .inr (14, [.ref r_320, .int (nI z_327)]) := (hR b_319 (by rw [ht_323]; simp)).trans hF_358
            obtain ⟨zk140, hzk140a, hzk140b⟩ := hv_359
            refine lv_istore_n (lv' := [(2, .int s140), (1, .int (nI j)), (0, .ref h0)]) hx hb dX15_keyOf_140 rfl hl (by decide) rfl (fun ls hl => ?_)
            refine lv_iload_n hx hb dX15_keyOf_141 rfl (lv_at hl 0 rfl) ?_
            have hF_366 : F h0 = .inr (15, (.ref ta) :: (.int (nI zt)) :: (.int (nI zo_123)) :: (.int (nI ze_124)) :: (.ref ou) :: (.ref so) :: (.ref ad) :: (.ref na) :: (.ref va) :: (.ref lc) :: (.ref dm) :: (.int v11_125) :: (.int v12_126) :: (.ref tg) :: (.int v14_127) :: (.int v15_128) :: (.ref pe) :: (.int v17_129) :: (.int v18_130) :: (.int v19_131) :: (.int v20_132) :: (.int v21_133) :: (.int v22_134) :: (.ref ml) :: (.ref bg) :: (.ref co) :: (.ref sp) :: (.ref nb0) :: (.ref nb1) :: (.ref nb2) :: (.int (nI nf)) :: (.int (nI bd)) :: (.int (nI mm)) :: (.int v33_135) :: (.ref pl) :: (.ref se) :: (.ref ke) :: (.ref wi) :: (.ref hs) :: (.ref mo) :: (.ref po) :: (.ref nu) :: (.ref pr) :: (.ref sq) :: (.ref xa) :: (.ref sa) :: (.ref n64) :: (.ref m64) :: (.ref ex) :: (.ref wh) :: (.ref sd) :: (.ref tk) :: (.int v52_136) :: (.int v53_137) :: (.int v54_138) :: (.ref hd) :: (.ref ak) :: (.ref ho) :: (.ref ot) :: []) := (hR h0 (by rw [hT_h0]; simp)).symm.trans hF_360
            have hF_367 : F va = .inl (cs 23, 40, .inr (.inr (.inr (.inr f_305)))) := (hR va (by rw [ht_12]; simp)).symm.trans hF_361
            have hF_368 : F b_308 = .inr (14, [.ref r_309, .int (nI z_316)]) := (hR b_308 (by rw [ht_312]; simp)).symm.trans hF_362
            have hF_369 : F b_319 = .inr (14, [.ref r_320, .int (nI z_327)]) := (hR b_319 (by rw [ht_323]; simp)).symm.trans hF_363
            refine W.widen (k := 0) (n := 0) (by omega) (by omega) ?_
            refine pl_cutm (σ := Int32) A (dC, dI) cs ty gm L [ρ + 13, ρ + 14, ρ + 22] F 176 3 (fun s176 => [(2, .int s140), (1, .int (nI j)), (0, .ref h0)]) (fun s176 => [.int s176, .int s140]) (fun s176 FF => ∃ zk : Nat, zk ≤ 40 ∧ FF ke = .inr (13, [.ref x_44, .ref y0_45, .ref y1_46, .ref y2_47, .int (nI zk)])) ?_ (fun jn_364 => ?_)
            ·
              rintro s176 F_365 hv_370 hO hR H locs hP hD hS ls hl
              have hl : lv_has ls 3 [(2, .int s140), (1, .int (nI j)), (0, .ref h0)] := hl
              have hv_370 : ∃ zk : Nat, zk ≤ 40 ∧ F_365 ke = .inr (13, [.ref x_44, .ref y0_45, .ref y1_46, .ref y2_47, .int (nI zk)]) := hv_370
              refine W.eq (g2 := F0 m 176 ls [.int s176, .int s140]) rfl ?_
              have hF_371 : F_365 h0 = .inr (15, (.ref ta) :: (.int (nI zt)) :: (.int (nI zo_123)) :: (.int (nI ze_124)) :: (.ref ou) :: (.ref so) :: (.ref ad) :: (.ref na) :: (.ref va) :: (.ref lc) :: (.ref dm) :: (.int v11_125) :: (.int v12_126) :: (.ref tg) :: (.int v14_127) :: (.int v15_128) :: (.ref pe) :: (.int v17_129) :: (.int v18_130) :: (.int v19_131) :: (.int v20_132) :: (.int v21_133) :: (.int v22_134) :: (.ref ml) :: (.ref bg) :: (.ref co) :: (.ref sp) :: (.ref nb0) :: (.ref nb1) :: (.ref nb2) :: (.int (nI nf)) :: (.int (nI bd)) :: (.int (nI mm)) :: (.int v33_135) :: (.ref pl) :: (.ref se) :: (.ref ke) :: (.ref wi) :: (.ref hs) :: (.ref mo) :: (.ref po) :: (.ref nu) :: (.ref pr) :: (.ref sq) :: (.ref xa) :: (.ref sa) :: (.ref n64) :: (.ref m64) :: (.ref ex) :: (.ref wh) :: (.ref sd) :: (.ref tk) :: (.int v52_136) :: (.int v53_137) :: (.int v54_138) :: (.ref hd) :: (.ref ak) :: (.ref ho) :: (.ref ot) :: []) := (hR h0 (by rw [hT_h0]; simp)).trans hF_366
              have hF_372 : F_365 va = .inl (cs 23, 40, .inr (.inr (.inr (.inr f_305)))) := (hR va (by rw [ht_12]; simp)).trans hF_367
              have hF_373 : F_365 b_308 = .inr (14, [.ref r_309, .int (nI z_316)]) := (hR b_308 (by rw [ht_312]; simp)).trans hF_368
              have hF_374 : F_365 b_319 = .inr (14, [.ref r_320, .int (nI z_327)]) := (hR b_319 (by rw [ht_323]; simp)).trans hF_369
              obtain ⟨zk176, hzk176a, hzk176b⟩ := hv_370
              refine lv_iand hx hb dX15_keyOf_176 ?_
              refine lv_topi (fun x_375 ex_375 => ?_)
              refine lv_istore_n (lv' := [(2, .int x_375), (1, .int (nI j)), (0, .ref h0)]) hx hb dX15_keyOf_177 rfl hl (by decide) rfl (fun ls hl => ?_)
              refine lv_iload_n hx hb dX15_keyOf_178 rfl (lv_at hl 0 rfl) ?_
              have hF_378 : F h0 = .inr (15, (.ref ta) :: (.int (nI zt)) :: (.int (nI zo_123)) :: (.int (nI ze_124)) :: (.ref ou) :: (.ref so) :: (.ref ad) :: (.ref na) :: (.ref va) :: (.ref lc) :: (.ref dm) :: (.int v11_125) :: (.int v12_126) :: (.ref tg) :: (.int v14_127) :: (.int v15_128) :: (.ref pe) :: (.int v17_129) :: (.int v18_130) :: (.int v19_131) :: (.int v20_132) :: (.int v21_133) :: (.int v22_134) :: (.ref ml) :: (.ref bg) :: (.ref co) :: (.ref sp) :: (.ref nb0) :: (.ref nb1) :: (.ref nb2) :: (.int (nI nf)) :: (.int (nI bd)) :: (.int (nI mm)) :: (.int v33_135) :: (.ref pl) :: (.ref se) :: (.ref ke) :: (.ref wi) :: (.ref hs) :: (.ref mo) :: (.ref po) :: (.ref nu) :: (.ref pr) :: (.ref sq) :: (.ref xa) :: (.ref sa) :: (.ref n64) :: (.ref m64) :: (.ref ex) :: (.ref wh) :: (.ref sd) :: (.ref tk) :: (.int v52_136) :: (.int v53_137) :: (.int v54_138) :: (.ref hd) :: (.ref ak) :: (.ref ho) :: (.ref ot) :: []) := (hR h0 (by rw [hT_h0]; simp)).symm.trans hF_371
              have hF_379 : F va = .inl (cs 23, 40, .inr (.inr (.inr (.inr f_305)))) := (hR va (by rw [ht_12]; simp)).symm.trans hF_372
              have hF_380 : F b_308 = .inr (14, [.ref r_309, .int (nI z_316)]) := (hR b_308 (by rw [ht_312]; simp)).symm.trans hF_373
              have hF_381 : F b_319 = .inr (14, [.ref r_320, .int (nI z_327)]) := (hR b_319 (by rw [ht_323]; simp)).symm.trans hF_374
              refine W.widen (k := 0) (n := 0) (by omega) (by omega) ?_
              refine pl_cutm (σ := Int32) A (dC, dI) cs ty gm L [ρ + 13, ρ + 14, ρ + 22] F 213 3 (fun s213 => [(2, .int x_375), (1, .int (nI j)), (0, .ref h0)]) (fun s213 => [.int s213, .int x_375]) (fun s213 FF => ∃ zk : Nat, zk ≤ 40 ∧ FF ke = .inr (13, [.ref x_44, .ref y0_45, .ref y1_46, .ref y2_47, .int (nI zk)])) ?_ (fun jn_376 => ?_)
              ·
                rintro s213 F_377 hv_382 hO hR H locs hP hD hS ls hl
                have hl : lv_has ls 3 [(2, .int x_375), (1, .int (nI j)), (0, .ref h0)] := hl
                have hv_382 : ∃ zk : Nat, zk ≤ 40 ∧ F_377 ke = .inr (13, [.ref x_44, .ref y0_45, .ref y1_46, .ref y2_47, .int (nI zk)]) := hv_382
                refine W.eq (g2 := F0 m 213 ls [.int s213, .int x_375]) rfl ?_
                have hF_383 : F_377 h0 = .inr (15, (.ref ta) :: (.int (nI zt)) :: (.int (nI zo_123)) :: (.int (nI ze_124)) :: (.ref ou) :: (.ref so) :: (.ref ad) :: (.ref na) :: (.ref va) :: (.ref lc) :: (.ref dm) :: (.int v11_125) :: (.int v12_126) :: (.ref tg) :: (.int v14_127) :: (.int v15_128) :: (.ref pe) :: (.int v17_129) :: (.int v18_130) :: (.int v19_131) :: (.int v20_132) :: (.int v21_133) :: (.int v22_134) :: (.ref ml) :: (.ref bg) :: (.ref co) :: (.ref sp) :: (.ref nb0) :: (.ref nb1) :: (.ref nb2) :: (.int (nI nf)) :: (.int (nI bd)) :: (.int (nI mm)) :: (.int v33_135) :: (.ref pl) :: (.ref se) :: (.ref ke) :: (.ref wi) :: (.ref hs) :: (.ref mo) :: (.ref po) :: (.ref nu) :: (.ref pr) :: (.ref sq) :: (.ref xa) :: (.ref sa) :: (.ref n64) :: (.ref m64) :: (.ref ex) :: (.ref wh) :: (.ref sd) :: (.ref tk) :: (.int v52_136) :: (.int v53_137) :: (.int v54_138) :: (.ref hd) :: (.ref ak) :: (.ref ho) :: (.ref ot) :: []) := (hR h0 (by rw [hT_h0]; simp)).trans hF_378
                have hF_384 : F_377 va = .inl (cs 23, 40, .inr (.inr (.inr (.inr f_305)))) := (hR va (by rw [ht_12]; simp)).trans hF_379
                have hF_385 : F_377 b_308 = .inr (14, [.ref r_309, .int (nI z_316)]) := (hR b_308 (by rw [ht_312]; simp)).trans hF_380
                have hF_386 : F_377 b_319 = .inr (14, [.ref r_320, .int (nI z_327)]) := (hR b_319 (by rw [ht_323]; simp)).trans hF_381
                obtain ⟨zk213, hzk213a, hzk213b⟩ := hv_382
                refine lv_iand hx hb dX15_keyOf_213 ?_
                refine lv_topi (fun x_387 ex_387 => ?_)
                refine lv_istore_n (lv' := [(2, .int x_387), (1, .int (nI j)), (0, .ref h0)]) hx hb dX15_keyOf_214 rfl hl (by decide) rfl (fun ls hl => ?_)
                refine lv_iload_n hx hb dX15_keyOf_215 rfl (lv_at hl 0 rfl) ?_
                refine lv_if_eq (tgt := 223) hx hb dX15_keyOf_216 (by decide) (fun c_388 => ?_) (fun c_388 => ?_)
                ·
                  refine lv_bipush (v := 6) hx hb dX15_keyOf_223 (by decide) ?_
                  refine W.widen (k := 0) (n := 0) (by omega) (by omega) ?_
                  exact W.iret (v := 6) hx hb hr (fun t ht hWm => ⟨⟨6, (), rfl, trivial, ⟨F_377, QTm.mk ht hP hD hO hR⟩⟩, hS.F ht⟩) hS.2.2 dX15_keyOf_225
                ·
                  refine lv_iconst (v := 2) hx hb dX15_keyOf_219 (by decide) ?_
                  refine lv_goto (tgt := 225) hx hb dX15_keyOf_220 (by decide) ?_
                  refine W.widen (k := 0) (n := 0) (by omega) (by omega) ?_
                  exact W.iret (v := 2) hx hb hr (fun t ht hWm => ⟨⟨2, (), rfl, trivial, ⟨F_377, QTm.mk ht hP hD hO hR⟩⟩, hS.F ht⟩) hS.2.2 dX15_keyOf_225
              ·
                refine lv_aload_n hx hb dX15_keyOf_179 rfl (lv_at hl 2 rfl) ?_
                refine pg_get (ci := 15) (v := .ref ke) (C := RX15) (T := TX15) (N := 59) hx hb hts it_15 hown hK hP hL_h0 hF_371 rfl 36 (by decide) (hts _ kt_954) (fun _ h9 => h9) rfl dX15_keyOf_180 ?_
                obtain ⟨q_389, v_390, hr_q_389, hX_q_389⟩ := hG.2.2 ("PostGateModel", 537, "k", [107]) (by decide +kernel)
                have hX_q_389 : SXc q_389 v_390 1 (cct [107]) A s s.heap := hX_q_389
                obtain ⟨xo_q_389, xc_q_389, xv_q_389, xt_q_389, xn_q_389⟩ := id hX_q_389
                have hr_q_389 : vk_R "PostGateModel" 537 "k" q_389 s := hr_q_389
                refine va_ldcwS hx hb hown hr_q_389 dX15_keyOf_183 ?_
                have hFc := pg_free hD hS hA
                refine va_calli (va_runV (As := [.ref q_389]) (rest := [.int x_375]) ⟨hx, hb, hml, hown, hts⟩ (s_X13_find l dC dI cs ty gm L H.size F_365 ke (ρ + 13) x_44 700 700 y0_45 y1_46 y2_47 r_110 zk176 q_389 v_390 1 (cct [107]) hW hi_43 ht_48 hi_106 ht_111 hzk176b (by first | omega | assumption)) ⟨callB_of 1 hts (gi kt_843) rfl rfl rfl (hts _ kt_844) (hts _ kt_854) (by decide +kernel) ⟨Nat.le_of_ble_eq_true rfl, Nat.le_of_ble_eq_true rfl⟩, (hts _ kt_846), (hts _ kt_847)⟩ ⟨fun a U g mk q => ⟨q.1, PTEm.calling q.2⟩, pg_recv hK hP hi_43 hzk176b (q := (RX13, TX13, 5)) rfl, fun U hU hWm => ⟨rfl, PTEm.mk hU hWm hP hK hD hE hO hG (fun x hx => by rw [List.mem_singleton] at hx; subst hx; exact hX_q_389) hS hFc⟩⟩ rfl rfl hl.1 rfl (lv_room (Nat.le_of_ble_eq_true rfl)) dX15_keyOf_186 ⟨by show _ + 0 ≤ 0; omega, by show _ + 0 ≤ 0; omega⟩) hS (fun q _ h => hFc q h) hFc (fun r_391 u t H1 locs ht hvm hw hB hz1 hk1 hS => ?_)
                obtain ⟨F_392, hB1⟩ := hB
                obtain rfl : F_365 = F_392 := (funext (fun a => hB1.2.2.2 a List.not_mem_nil)).symm
                obtain ⟨hP, hD, hO, hR⟩ := QTm.back hB1 ht hFc hR (fun q h => absurd h List.not_mem_nil)
                generalize H1 = H at hP hS ⊢
                have hw : FND (gA (F_365 r_110)) (gA (F_365 y0_45)) (gA (F_365 y1_46)) zk176 (cct [107]) 1 r_391 := hw
                have hw_393 := hw
                refine lv_if_lt (tgt := 208) hx hb dX15_keyOf_189 (by decide) (fun c_394 => ?_) (fun c_394 => ?_)
                ·
                  refine lv_iconst (v := 1) hx hb dX15_keyOf_208 (by decide) ?_
                  refine lv_goto (tgt := 213) hx hb dX15_keyOf_209 (by decide) ?_
                  refine W.widen (k := 0) (n := 0) (by omega) (by omega) ?_
                  exact jn_376 1 F_365 (⟨_, by omega, hzk176b⟩) hO hR _ _ hP hD hS ls (lv_sub hl [0, 1, 2] rfl)
                ·
                  refine lv_aload_n hx hb dX15_keyOf_192 rfl (lv_at hl 2 rfl) ?_
                  refine pg_get (ci := 15) (v := .ref ke) (C := RX15) (T := TX15) (N := 59) hx hb hts it_15 hown hK hP hL_h0 hF_371 rfl 36 (by decide) (hts _ kt_954) (fun _ h9 => h9) rfl dX15_keyOf_193 ?_
                  refine va_ldcwS hx hb hown hr_q_389 dX15_keyOf_196 ?_
                  obtain ⟨q_395, v_396, hr_q_395, hX_q_395⟩ := hG.2.2 ("PostGateModel", 539, "rsa", [114, 115, 97]) (by decide +kernel)
                  have hX_q_395 : SXc q_395 v_396 3 (cct [114, 115, 97]) A s s.heap := hX_q_395
                  obtain ⟨xo_q_395, xc_q_395, xv_q_395, xt_q_395, xn_q_395⟩ := id hX_q_395
                  have hr_q_395 : vk_R "PostGateModel" 539 "rsa" q_395 s := hr_q_395
                  refine va_ldcwS hx hb hown hr_q_395 dX15_keyOf_199 ?_
                  have hFc := pg_free hD hS hA
                  refine va_calli (va_runV (As := [.ref q_389, .ref q_395]) (rest := [.int x_375]) ⟨hx, hb, hml, hown, hts⟩ (s_X13_has l dC dI cs ty gm L H.size F_365 ke (ρ + 13) x_44 700 700 y0_45 y1_46 y2_47 r_110 zk176 q_389 v_390 1 (cct [107]) q_395 v_396 3 (cct [114, 115, 97]) hW hi_43 ht_48 hi_106 ht_111 hzk176b (by first | omega | assumption)) ⟨callB_of 2 hts (gi kt_878) rfl rfl rfl (hts _ kt_844) (hts _ kt_879) (by decide +kernel) ⟨Nat.le_of_ble_eq_true rfl, Nat.le_of_ble_eq_true rfl⟩, (hts _ kt_880), (hts _ kt_881)⟩ ⟨fun a U g mk q => ⟨q.1, PTEm.calling q.2⟩, pg_recv hK hP hi_43 hzk176b (q := (RX13, TX13, 5)) rfl, fun U hU hWm => ⟨rfl, PTEm.mk hU hWm hP hK hD hE hO hG (fun x hx => by simp only [List.mem_cons, List.not_mem_nil, or_false] at hx; rcases hx with hx | hx <;> subst hx <;> first | exact hX_q_389 | exact hX_q_395) hS hFc⟩⟩ rfl rfl hl.1 rfl (lv_room (Nat.le_of_ble_eq_true rfl)) dX15_keyOf_202 ⟨by show _ + 0 ≤ 0; omega, by show _ + 0 ≤ 0; omega⟩) hS (fun q _ h => hFc q h) hFc (fun r_397 u t H1 locs ht hvm hw hB hz1 hk1 hS => ?_)
                  obtain ⟨F_398, hB1⟩ := hB
                  obtain rfl : F_365 = F_398 := (funext (fun a => hB1.2.2.2 a List.not_mem_nil)).symm
                  obtain ⟨hP, hD, hO, hR⟩ := QTm.back hB1 ht hFc hR (fun q h => absurd h List.not_mem_nil)
                  generalize H1 = H at hP hS ⊢
                  have hw : (r_397 = 0 ∨ r_397 = 1) := hw
                  have hw_399 := hw
                  refine lv_if_eq (tgt := 212) hx hb dX15_keyOf_205 (by decide) (fun c_400 => ?_) (fun c_400 => ?_)
                  ·
                    refine lv_iconst (v := 0) hx hb dX15_keyOf_212 (by decide) ?_
                    refine W.widen (k := 0) (n := 0) (by omega) (by omega) ?_
                    exact jn_376 0 F_365 (⟨_, by omega, hzk176b⟩) hO hR _ _ hP hD hS ls (lv_sub hl [0, 1, 2] rfl)
                  ·
                    refine lv_iconst (v := 1) hx hb dX15_keyOf_208 (by decide) ?_
                    refine lv_goto (tgt := 213) hx hb dX15_keyOf_209 (by decide) ?_
                    refine W.widen (k := 0) (n := 0) (by omega) (by omega) ?_
                    exact jn_376 1 F_365 (⟨_, by omega, hzk176b⟩) hO hR _ _ hP hD hS ls (lv_sub hl [0, 1, 2] rfl)
            ·
              refine lv_aload_n hx hb dX15_keyOf_142 rfl (lv_at hl 2 rfl) ?_
              refine pg_get (ci := 15) (v := .ref ke) (C := RX15) (T := TX15) (N := 59) hx hb hts it_15 hown hK hP hL_h0 hF_360 rfl 36 (by decide) (hts _ kt_954) (fun _ h9 => h9) rfl dX15_keyOf_143 ?_
              obtain ⟨q_401, v_402, hr_q_401, hX_q_401⟩ := hG.2.2 ("PostGateModel", 444, "v", [118]) (by decide +kernel)
              have hX_q_401 : SXc q_401 v_402 1 (cct [118]) A s s.heap := hX_q_401
              obtain ⟨xo_q_401, xc_q_401, xv_q_401, xt_q_401, xn_q_401⟩ := id hX_q_401
              have hr_q_401 : vk_R "PostGateModel" 444 "v" q_401 s := hr_q_401
              refine va_ldcwS hx hb hown hr_q_401 dX15_keyOf_146 ?_
              have hFc := pg_free hD hS hA
              refine va_calli (va_runV (As := [.ref q_401]) (rest := [.int s140]) ⟨hx, hb, hml, hown, hts⟩ (s_X13_find l dC dI cs ty gm L H.size F_354 ke (ρ + 13) x_44 700 700 y0_45 y1_46 y2_47 r_110 zk140 q_401 v_402 1 (cct [118]) hW hi_43 ht_48 hi_106 ht_111 hzk140b (by first | omega | assumption)) ⟨callB_of 1 hts (gi kt_843) rfl rfl rfl (hts _ kt_844) (hts _ kt_854) (by decide +kernel) ⟨Nat.le_of_ble_eq_true rfl, Nat.le_of_ble_eq_true rfl⟩, (hts _ kt_846), (hts _ kt_847)⟩ ⟨fun a U g mk q => ⟨q.1, PTEm.calling q.2⟩, pg_recv hK hP hi_43 hzk140b (q := (RX13, TX13, 5)) rfl, fun U hU hWm => ⟨rfl, PTEm.mk hU hWm hP hK hD hE hO hG (fun x hx => by rw [List.mem_singleton] at hx; subst hx; exact hX_q_401) hS hFc⟩⟩ rfl rfl hl.1 rfl (lv_room (Nat.le_of_ble_eq_true rfl)) dX15_keyOf_149 ⟨by show _ + 0 ≤ 0; omega, by show _ + 0 ≤ 0; omega⟩) hS (fun q _ h => hFc q h) hFc (fun r_403 u t H1 locs ht hvm hw hB hz1 hk1 hS => ?_)
              obtain ⟨F_404, hB1⟩ := hB
              obtain rfl : F_354 = F_404 := (funext (fun a => hB1.2.2.2 a List.not_mem_nil)).symm
              obtain ⟨hP, hD, hO, hR⟩ := QTm.back hB1 ht hFc hR (fun q h => absurd h List.not_mem_nil)
              generalize H1 = H at hP hS ⊢
              have hw : FND (gA (F_354 r_110)) (gA (F_354 y0_45)) (gA (F_354 y1_46)) zk140 (cct [118]) 1 r_403 := hw
              have hw_405 := hw
              refine lv_if_lt (tgt := 171) hx hb dX15_keyOf_152 (by decide) (fun c_406 => ?_) (fun c_406 => ?_)
              ·
                refine lv_iconst (v := 1) hx hb dX15_keyOf_171 (by decide) ?_
                refine lv_goto (tgt := 176) hx hb dX15_keyOf_172 (by decide) ?_
                refine W.widen (k := 0) (n := 0) (by omega) (by omega) ?_
                exact jn_364 1 F_354 (⟨_, by omega, hzk140b⟩) hO hR _ _ hP hD hS ls (lv_sub hl [0, 1, 2] rfl)
              ·
                refine lv_aload_n hx hb dX15_keyOf_155 rfl (lv_at hl 2 rfl) ?_
                refine pg_get (ci := 15) (v := .ref ke) (C := RX15) (T := TX15) (N := 59) hx hb hts it_15 hown hK hP hL_h0 hF_360 rfl 36 (by decide) (hts _ kt_954) (fun _ h9 => h9) rfl dX15_keyOf_156 ?_
                refine va_ldcwS hx hb hown hr_q_401 dX15_keyOf_159 ?_
                obtain ⟨q_407, v_408, hr_q_407, hX_q_407⟩ := hG.2.2 ("PostGateModel", 535, "DKIM1", [68, 75, 73, 77, 49]) (by decide +kernel)
                have hX_q_407 : SXc q_407 v_408 5 (cct [68, 75, 73, 77, 49]) A s s.heap := hX_q_407
                obtain ⟨xo_q_407, xc_q_407, xv_q_407, xt_q_407, xn_q_407⟩ := id hX_q_407
                have hr_q_407 : vk_R "PostGateModel" 535 "DKIM1" q_407 s := hr_q_407
                refine va_ldcwS hx hb hown hr_q_407 dX15_keyOf_162 ?_
                have hFc := pg_free hD hS hA
                refine va_calli (va_runV (As := [.ref q_401, .ref q_407]) (rest := [.int s140]) ⟨hx, hb, hml, hown, hts⟩ (s_X13_has l dC dI cs ty gm L H.size F_354 ke (ρ + 13) x_44 700 700 y0_45 y1_46 y2_47 r_110 zk140 q_401 v_402 1 (cct [118]) q_407 v_408 5 (cct [68, 75, 73, 77, 49]) hW hi_43 ht_48 hi_106 ht_111 hzk140b (by first | omega | assumption)) ⟨callB_of 2 hts (gi kt_878) rfl rfl rfl (hts _ kt_844) (hts _ kt_879) (by decide +kernel) ⟨Nat.le_of_ble_eq_true rfl, Nat.le_of_ble_eq_true rfl⟩, (hts _ kt_880), (hts _ kt_881)⟩ ⟨fun a U g mk q => ⟨q.1, PTEm.calling q.2⟩, pg_recv hK hP hi_43 hzk140b (q := (RX13, TX13, 5)) rfl, fun U hU hWm => ⟨rfl, PTEm.mk hU hWm hP hK hD hE hO hG (fun x hx => by simp only [List.mem_cons, List.not_mem_nil, or_false] at hx; rcases hx with hx | hx <;> subst hx <;> first | exact hX_q_401 | exact hX_q_407) hS hFc⟩⟩ rfl rfl hl.1 rfl (lv_room (Nat.le_of_ble_eq_true rfl)) dX15_keyOf_165 ⟨by show _ + 0 ≤ 0; omega, by show _ + 0 ≤ 0; omega⟩) hS (fun q _ h => hFc q h) hFc (fun r_409 u t H1 locs ht hvm hw hB hz1 hk1 hS => ?_)
                obtain ⟨F_410, hB1⟩ := hB
                obtain rfl : F_354 = F_410 := (funext (fun a => hB1.2.2.2 a List.not_mem_nil)).symm
                obtain ⟨hP, hD, hO, hR⟩ := QTm.back hB1 ht hFc hR (fun q h => absurd h List.not_mem_nil)
                generalize H1 = H at hP hS ⊢
                have hw : (r_409 = 0 ∨ r_409 = 1) := hw
                have hw_411 := hw
                refine lv_if_eq (tgt := 175) hx hb dX15_keyOf_168 (by decide) (fun c_412 => ?_) (fun c_412 => ?_)
                ·
                  refine lv_iconst (v := 0) hx hb dX15_keyOf_175 (by decide) ?_
                  refine W.widen (k := 0) (n := 0) (by omega) (by omega) ?_
                  exact jn_364 0 F_354 (⟨_, by omega, hzk140b⟩) hO hR _ _ hP hD hS ls (lv_sub hl [0, 1, 2] rfl)
                ·
                  refine lv_iconst (v := 1) hx hb dX15_keyOf_171 (by decide) ?_
                  refine lv_goto (tgt := 176) hx hb dX15_keyOf_172 (by decide) ?_
                  refine W.widen (k := 0) (n := 0) (by omega) (by omega) ?_
                  exact jn_364 1 F_354 (⟨_, by omega, hzk140b⟩) hO hR _ _ hP hD hS ls (lv_sub hl [0, 1, 2] rfl)
          ·
            refine lv_if_eq (tgt := 139) hx hb dX15_keyOf_91 (by decide) (fun c_413 => ?_) (fun c_413 => ?_)
            ·
              refine lv_iconst (v := 0) hx hb dX15_keyOf_139 (by decide) ?_
              refine W.widen (k := 0) (n := 0) (by omega) (by omega) ?_
              exact jn_353 0 F_343 (⟨_, by omega, hq_345⟩) hO hR _ _ hP hD hS ls (lv_sub hl [0, 1] rfl)
            ·
              refine lv_aload_n hx hb dX15_keyOf_94 rfl (lv_at hl 1 rfl) ?_
              refine pg_get (ci := 15) (v := .ref ke) (C := RX15) (T := TX15) (N := 59) hx hb hts it_15 hown hK hP hL_h0 hF_347 rfl 36 (by decide) (hts _ kt_954) (fun _ h9 => h9) rfl dX15_keyOf_95 ?_
              obtain ⟨q_414, v_415, hr_q_414, hX_q_414⟩ := hG.2.2 ("PostGateModel", 533, "p", [112]) (by decide +kernel)
              have hX_q_414 : SXc q_414 v_415 1 (cct [112]) A s s.heap := hX_q_414
              obtain ⟨xo_q_414, xc_q_414, xv_q_414, xt_q_414, xn_q_414⟩ := id hX_q_414
              have hr_q_414 : vk_R "PostGateModel" 533 "p" q_414 s := hr_q_414
              refine va_ldcwS hx hb hown hr_q_414 dX15_keyOf_98 ?_
              refine lv_bipush (v := 64) hx hb dX15_keyOf_101 (by decide) ?_
              refine lv_aload_n hx hb dX15_keyOf_103 rfl (lv_at hl 1 rfl) ?_
              refine pg_get (ci := 15) (v := .ref m64) (C := RX15) (T := TX15) (N := 59) hx hb hts it_15 hown hK hP hL_h0 hF_347 rfl 47 (by decide) (hts _ kt_937) (fun _ h9 => h9) rfl dX15_keyOf_104 ?_
              obtain ⟨hq_416, hq_417⟩ := hW.octs hi_78 ht_79
              have hFc := pg_free hD hS hA
              refine va_calli (va_runS (As := [.ref ke, .ref q_414, .int 64, .ref m64]) (rest := []) ⟨hx, hb, hml, hown, hts⟩ (s_X15_base_64 l dC dI cs ty gm L H.size F_343 ke (ρ + 13) x_44 700 700 y0_45 y1_46 y2_47 r_110 z2_344 m64 (ρ + 22) q_414 v_415 1 (cct [112]) hW hi_43 ht_48 hi_106 ht_111 hi_78 ht_79 hq_345 (by first | omega | assumption)) ⟨callB_of 4 hts (gi kt_887) rfl rfl rfl (hts _ kt_669) (hts _ kt_888) (by decide +kernel) ⟨Nat.le_of_ble_eq_true rfl, Nat.le_of_ble_eq_true rfl⟩, (hts _ kt_889)⟩ ⟨fun a U g mk q => ⟨q.1, PTEm.calling q.2⟩, fun U hU hWm => ⟨rfl, PTEm.mk hU hWm hP hK hD hE hO hG (fun x hx => by rw [List.mem_singleton] at hx; subst hx; exact hX_q_414) hS hFc⟩⟩ rfl rfl hl.1 rfl (lv_room (Nat.le_of_ble_eq_true rfl)) dX15_keyOf_107 ⟨by show _ + 0 ≤ 0; omega, by show _ + 0 ≤ 0; omega⟩) hS (fun q _ h => hFc q h) hFc (fun r_418 u t H1 locs ht hvm hw hB hz1 hk1 hS => ?_)
              obtain ⟨F_419, hB1⟩ := hB
              obtain ⟨hP, hD, hO, hR⟩ := QTm.back hB1 ht hFc hR (fun q h => by simp only [List.mem_cons, List.not_mem_nil, or_false] at h ⊢; omega)
              have hF_420 : F_419 h0 = .inr (15, (.ref ta) :: (.int (nI zt)) :: (.int (nI zo_123)) :: (.int (nI ze_124)) :: (.ref ou) :: (.ref so) :: (.ref ad) :: (.ref na) :: (.ref va) :: (.ref lc) :: (.ref dm) :: (.int v11_125) :: (.int v12_126) :: (.ref tg) :: (.int v14_127) :: (.int v15_128) :: (.ref pe) :: (.int v17_129) :: (.int v18_130) :: (.int v19_131) :: (.int v20_132) :: (.int v21_133) :: (.int v22_134) :: (.ref ml) :: (.ref bg) :: (.ref co) :: (.ref sp) :: (.ref nb0) :: (.ref nb1) :: (.ref nb2) :: (.int (nI nf)) :: (.int (nI bd)) :: (.int (nI mm)) :: (.int v33_135) :: (.ref pl) :: (.ref se) :: (.ref ke) :: (.ref wi) :: (.ref hs) :: (.ref mo) :: (.ref po) :: (.ref nu) :: (.ref pr) :: (.ref sq) :: (.ref xa) :: (.ref sa) :: (.ref n64) :: (.ref m64) :: (.ref ex) :: (.ref wh) :: (.ref sd) :: (.ref tk) :: (.int v52_136) :: (.int v53_137) :: (.int v54_138) :: (.ref hd) :: (.ref ak) :: (.ref ho) :: (.ref ot) :: []) := (hB1.2.2.2 h0 (by rw [hT_h0]; simp)).trans hF_347
              have hF_421 : F_419 va = .inl (cs 23, 40, .inr (.inr (.inr (.inr f_305)))) := (hB1.2.2.2 va (by rw [ht_12]; simp)).trans hF_348
              have hF_422 : F_419 b_308 = .inr (14, [.ref r_309, .int (nI z_316)]) := (hB1.2.2.2 b_308 (by rw [ht_312]; simp)).trans hF_349
              have hF_423 : F_419 b_319 = .inr (14, [.ref r_320, .int (nI z_327)]) := (hB1.2.2.2 b_319 (by rw [ht_323]; simp)).trans hF_350
              have hF_424 : F_419 x_44 = .inr (14, [.ref r_110, .int (nI z2_334)]) := (hB1.2.2.2 x_44 (by rw [ht_111]; simp)).trans hF_351
              have hF_425 : F_419 ke = .inr (13, [.ref x_44, .ref y0_45, .ref y1_46, .ref y2_47, .int (nI z2_344)]) := (hB1.2.2.2 ke (by rw [ht_48]; simp)).trans hq_345
              generalize H1 = H at hP hS ⊢
              have hw : (r_418 = 0 ∨ r_418 = 1) := hw
              have hw_426 := hw
              refine lv_if_eq (tgt := 139) hx hb dX15_keyOf_110 (by decide) (fun c_427 => ?_) (fun c_427 => ?_)
              ·
                refine lv_iconst (v := 0) hx hb dX15_keyOf_139 (by decide) ?_
                refine W.widen (k := 0) (n := 0) (by omega) (by omega) ?_
                exact jn_353 0 F_419 (⟨_, by omega, hF_425⟩) hO hR _ _ hP hD hS ls (lv_sub hl [0, 1] rfl)
              ·
                refine lv_aload_n hx hb dX15_keyOf_113 rfl (lv_at hl 1 rfl) ?_
                refine pg_get (ci := 15) (v := .ref m64) (C := RX15) (T := TX15) (N := 59) hx hb hts it_15 hown hK hP hL_h0 hF_420 rfl 47 (by decide) (hts _ kt_937) (fun _ h9 => h9) rfl dX15_keyOf_114 ?_
                refine lv_iconst (v := 0) hx hb dX15_keyOf_117 (by decide) ?_
                obtain ⟨f_428, hF_429, hq_430⟩ := hO.octs hi_78 ht_79
                refine pg_bald hx hb hK hP hi_78 1 hF_429 rfl (show vp_in (0 : Int32) 64 from (show vp_in (nI 0) 64 from vp_in_nI (by omega) (by omega))) dX15_keyOf_118 ?_
                refine lv_topi (fun x_431 ex_431 => ?_)
                obtain rfl : x_431 = f_428 0 := ex_431.trans (congrArg f_428 (show (0 : Int32).toNatClampNeg = 0 from by decide))
                refine lv_if_ge (tgt := 139) hx hb dX15_keyOf_119 (by decide) (fun c_432 => ?_) (fun c_432 => ?_)
                ·
                  refine lv_iconst (v := 0) hx hb dX15_keyOf_139 (by decide) ?_
                  refine W.widen (k := 0) (n := 0) (by omega) (by omega) ?_
                  exact jn_353 0 F_419 (⟨_, by omega, hF_425⟩) hO hR _ _ hP hD hS ls (lv_sub hl [0, 1] rfl)
                ·
                  refine lv_aload_n hx hb dX15_keyOf_122 rfl (lv_at hl 1 rfl) ?_
                  refine pg_get (ci := 15) (v := .ref m64) (C := RX15) (T := TX15) (N := 59) hx hb hts it_15 hown hK hP hL_h0 hF_420 rfl 47 (by decide) (hts _ kt_937) (fun _ h9 => h9) rfl dX15_keyOf_123 ?_
                  refine lv_bipush (v := 63) hx hb dX15_keyOf_126 (by decide) ?_
                  refine pg_bald hx hb hK hP hi_78 1 hF_429 rfl (show vp_in (63 : Int32) 64 from (show vp_in (nI 63) 64 from vp_in_nI (by omega) (by omega))) dX15_keyOf_128 ?_
                  refine lv_topi (fun x_433 ex_433 => ?_)
                  obtain rfl : x_433 = f_428 63 := ex_433.trans (congrArg f_428 (show (63 : Int32).toNatClampNeg = 63 from by decide))
                  refine lv_iconst (v := 1) hx hb dX15_keyOf_129 (by decide) ?_
                  refine lv_iand hx hb dX15_keyOf_130 ?_
                  refine lv_topi (fun x_434 _ => ?_)
                  refine lv_iconst (v := 1) hx hb dX15_keyOf_131 (by decide) ?_
                  refine lv_icmp_ne (tgt := 139) hx hb dX15_keyOf_132 (by decide) (fun c_435 => ?_) (fun c_435 => ?_)
                  ·
                    refine lv_iconst (v := 0) hx hb dX15_keyOf_139 (by decide) ?_
                    refine W.widen (k := 0) (n := 0) (by omega) (by omega) ?_
                    exact jn_353 0 F_419 (⟨_, by omega, hF_425⟩) hO hR _ _ hP hD hS ls (lv_sub hl [0, 1] rfl)
                  ·
                    refine lv_iconst (v := 1) hx hb dX15_keyOf_135 (by decide) ?_
                    refine lv_goto (tgt := 140) hx hb dX15_keyOf_136 (by decide) ?_
                    refine W.widen (k := 0) (n := 0) (by omega) (by omega) ?_
                    exact jn_353 1 F_419 (⟨_, by omega, hF_425⟩) hO hR _ _ hP hD hS ls (lv_sub hl [0, 1] rfl)
        ·
          have hi_436 : j = ze_124 := (nI_eq (a := j) (b := ze_124) (by omega) (by omega)).mp c_300
          refine lv_bipush (v := 6) hx hb dX15_keyOf_50 (by decide) ?_
          refine W.widen (k := 0) (n := 0) (by omega) (by omega) ?_
          exact W.iret (v := 6) hx hb hr (fun t ht hWm => ⟨⟨6, (), rfl, trivial, ⟨F_151, QTm.mk ht hP hD hO hR⟩⟩, hS.F ht⟩) hS.2.2 dX15_keyOf_52
      ·
        refine lv_iinc (v := (nI (j + 1))) (lv' := [(1, .int (nI (j + 1))), (0, .ref h0)]) hx hb dX15_keyOf_36 hl (k := 0) rfl (nI_1 _) (by decide) rfl (fun ls hl => ?_)
        refine lv_goto (tgt := 15) hx hb dX15_keyOf_39 (by decide) ?_
        refine W.widen (k := 0) (n := 0) (by omega) (by omega) ?_
        exact ih_154 (j + 1) F_151 (by first | omega | exact ⟨by omega, by omega⟩ | trivial) (by show 40 - (j + 1) < 40 - j; omega) hO hR _ _ hP hD hS ls (lv_sub hl [0, 1] rfl)
  ·
    refine lv_iconst (v := 5) hx hb dX15_keyOf_11 (by decide) ?_
    refine W.widen (k := 0) (n := 0) (by omega) (by omega) ?_
    exact W.iret (v := 5) hx hb hr (fun t ht hWm => ⟨⟨5, (), rfl, trivial, ⟨F, QTm.mk ht hP hD hO hR⟩⟩, hS.F ht⟩) hS.2.2 dX15_keyOf_12
set_option maxHeartbeats 4000000 in
set_option maxRecDepth 100000 in
theorem s_X15_fieldsPlain (l : Launch) (dC : Nat → ClassId) (dI : Nat → Nat → Nat) (cs : Nat → ClassId) (ty : TyM) (gm : Nat → Nat → Nat) (L : List Nat) (sz : Nat) (F : Nat → va_E) (h0 : Nat) (ρ : Nat) (ta : Nat) (ou : Nat) (so : Nat) (ad : Nat) (na : Nat) (va : Nat) (lc : Nat) (dm : Nat) (tg : Nat) (pe : Nat) (ml : Nat) (bg : Nat) (co : Nat) (sp : Nat) (nb0 : Nat) (nb1 : Nat) (nb2 : Nat) (pl : Nat) (se : Nat) (ke : Nat) (wi : Nat) (hs : Nat) (mo : Nat) (po : Nat) (nu : Nat) (pr : Nat) (sq : Nat) (xa : Nat) (sa : Nat) (n64 : Nat) (m64 : Nat) (ex : Nat) (wh : Nat) (sd : Nat) (tk : Nat) (hd : Nat) (ak : Nat) (ho : Nat) (ot : Nat) (sx : Nat) (s0 : Nat) (s1 : Nat) (s2 : Nat) (nf : Nat) (bd : Nat) (mm : Nat) (zt : Nat) (sb : Nat) (rl : Nat) (eb : Nat → Int32) (e0 : Nat → Int32) (e1 : Nat → Int32) (e2 : Nat → Int32) (zs : Nat) (kh : Nat) (jf : Nat) (hW : WTm ty gm L) (hL_h0 : h0 ∈ L) (hT_h0 : ty h0 = (15, ρ, [ta, ou, so, ad, na, va, lc, dm, tg, pe, ml, bg, co, sp, nb0, nb1, nb2, pl, se, ke, wi, hs, mo, po, nu, pr, sq, xa, sa, n64, m64, ex, wh, sd, tk, hd, ak, ho, ot, sx, s0, s1, s2, nf, bd, mm, zt])) (hL_sx : sx ∈ L) (hT_sx : ty sx = (14, ρ + 12, [sb, 3000])) (hL_pl : pl ∈ L) (hT_pl : ty pl = (14, ρ + 10, [rl, 6000])) (hfk0 : F sb = .inl (cs 17, 3000, .inl eb)) (hfk1 : F s0 = .inl (cs 16, 40, .inl e0)) (hfk2 : F s1 = .inl (cs 16, 40, .inl e1)) (hfk3 : F s2 = .inl (cs 16, 40, .inl e2)) (hfk4 : F se = .inr (13, [.ref sx, .ref s0, .ref s1, .ref s2, .int (nI zs)])) (hzs : zs ≤ 40) (hkh : kh < zs) (hfn : FND eb e0 e1 zs (cct [104]) 1 (nI kh)) (hjf : jf < nf) : Met l yX15_fieldsPlain (.code yX15_fieldsPlain cX15_fieldsPlain 11 none :: tb) ({ frames := 6, cells := 0, slots := 0, locals := 131 }) (va_Pc [.ref h0, .int (nI jf)] (PTEm (dC, dI) cs ty gm L F sz [])) (va_Qv (fun _ : Unit => True) (fun _ T9 => ∃ F2 : Nat → va_E, QTm (dC, dI) cs ty gm L [ρ + 10, ρ + 26] F F2 (va_A (va_pl L F) sz) T9) (va_A (va_pl L F) sz)) 0 0 (va_A (va_pl L F) sz) := by
  refine Met.ofW (cc := cX15_fieldsPlain) (maxL := 11) (ret := none) (by decide) rfl ?_
  intro p e s m args below meth c s₁ B hml hv
  obtain ⟨rfl, ⟨hsz, hP, hK, hD0, hE, hO⟩, hG, hX⟩ := hv
  have hx := B.exec
  have hb := B.bytes
  have hr := B.returns
  have hts : ∀ w ∈ tb, w.before _ s = true := fun w h => atoms_spec (ws := .code yX15_fieldsPlain cX15_fieldsPlain 11 none :: tb) B.pre w (List.mem_cons_of_mem _ h)
  have hown : s.vm.findClass RX15 = some m.cls := findClass_of_methodNamed B.named
  have hlocks := B.notSynchronized
  subst hsz
  have hD := hD0.self (sz := s.heap.size)
  generalize hAe : va_A (va_pl L F) s.heap.size = A at hD hG hX ⊢
  have hA : ∀ q : Nat, s.heap.size ≤ q → A q := fun q h => by rw [← hAe]; exact Or.inr h
  have hS : va_S A s.heap s.heap [] := va_S.rf
  have hR : FR ty [ρ + 10, ρ + 26] F F := FR.refl
  have hl := lv_entry ([.ref h0, .int (nI jf)]) (n := 11) (Nat.le_of_ble_eq_true rfl)
  rw [lg_entry_eq]
  generalize (lg_sl ([.ref h0, .int (nI jf)]) ++ List.replicate (11 - (lg_sl ([.ref h0, .int (nI jf)])).length) Slot.unset).toArray = ls at hl ⊢
  have hl : lv_has ls 11 [(0, .ref h0), (1, .int (nI jf))] := hl
  obtain ⟨hi_1, ht_2, hi_3, ht_4, hi_5, ht_6, hi_7, ht_8, hi_9, ht_10, hi_11, ht_12, hi_13, ⟨r_14, ht_15⟩, hi_16, ⟨r_17, ht_18⟩, hi_19, ht_20, hi_21, ⟨r_22, ht_23⟩, hi_24, ht_25, hi_26, ht_27, hi_28, ht_29, hi_30, ht_31, hi_32, ht_33, hi_34, ht_35, hi_36, ht_37, _, _, hi_38, ht_39, hi_40, ⟨x_41, y0_42, y1_43, y2_44, ht_45⟩, hi_46, ⟨x_47, y0_48, y1_49, y2_50, ht_51⟩, hi_52, ⟨x_53, y_54, w_55, u_56, bl_57, ht_58⟩, hi_59, ht_60, hi_61, ht_62, hi_63, ht_64, hi_65, ht_66, hi_67, ht_68, hi_69, ht_70, hi_71, ht_72, hi_73, ht_74, hi_75, ht_76, hi_77, ht_78, hi_79, ⟨r_80, ht_81⟩, hi_82, ⟨r_83, ht_84⟩, hi_85, ht_86, hi_87, ht_88, hi_89, ⟨r_90, ht_91⟩, hi_92, ⟨r_93, ht_94⟩, hi_95, ⟨r_96, ht_97⟩, hq_98, hq_99, hq_100, hq_101, hq_102, hgO, hgA, hgB⟩ := hW.mod hL_h0 hT_h0
  have hoj := hgO jf hjf
  obtain ⟨_, hi_103, hi_104, hi_105, _, ht_106, ht_107, ht_108, hq_109, hq_110⟩ := hW.tags hi_38 ht_39
  obtain ⟨hi_111, ht_112, hq_113⟩ := hW.txt hL_sx hT_sx
  obtain ⟨hi_114, ht_115, hq_116⟩ := hW.txt hL_pl hT_pl
  refine lv_aload_n hx hb dX15_fieldsPlain_0 rfl (lv_at hl 0 rfl) ?_
  obtain ⟨zo_117, ze_118, v11_119, v12_120, v14_121, v15_122, v17_123, v18_124, v19_125, v20_126, v21_127, v22_128, v33_129, v52_130, v53_131, v54_132, hF_133, hq_134, hq_135, hq_136, hq_137⟩ := hO.mod hL_h0 hT_h0
  refine pg_get (ci := 15) (v := .ref pl) (C := RX15) (T := TX15) (N := 59) hx hb hts it_15 hown hK hP hL_h0 hF_133 rfl 34 (by decide) (hts _ kt_916) (fun _ h9 => h9) rfl dX15_fieldsPlain_1 ?_
  refine lv_iconst (v := 0) hx hb dX15_fieldsPlain_4 (by decide) ?_
  obtain ⟨z_138, hF_139, hq_140⟩ := hO.txt hL_pl hT_pl
  refine pg_put (ci := 14) (v := .int 0) (ty := .int) (C := RX14) (T := TX14) (N := 2) hx hb hts it_14 tyX14 tyX14_ok nmX14 hown hK hP hD hS hL_pl hF_139 rfl 1 (by decide) (hts _ kt_709) (fun _ h9 => h9) rfl (by decide +kernel) (rfl) (rfl) (Nat.le_of_ble_eq_true rfl) dX15_fieldsPlain_5 (fun H locs hP hD hS => ?_)
  obtain ⟨F_141, he_142, hP, hD, hO, hR⟩ : ∃ G, G = va_up F pl (.inr (14, [.ref rl, .int 0])) ∧ va_P (dC, dI) vwCl (va_pl L G) H ∧ va_D A (va_pl L G) ∧ OKm cs ty gm L G ∧ FR ty [ρ + 10, ρ + 26] F G := ⟨_, rfl, hP, hD, hO.up (shm.txt hT_pl ⟨0, rfl, (by first | omega | assumption | exact Or.inl rfl | exact Or.inr rfl)⟩), hR.up hT_pl (by simp)⟩
  have hF_143 : F_141 pl = .inr (14, [.ref rl, .int 0]) := by rw [he_142]; exact up_self
  have hF_144 : F_141 sb = .inl (cs 17, 3000, .inl eb) := by rw [he_142, up_ne (ne_ty ht_112 hT_pl (by simp))]; exact hfk0
  have hF_145 : F_141 s0 = .inl (cs 16, 40, .inl e0) := by rw [he_142, up_ne (ne_ty ht_106 hT_pl (by simp))]; exact hfk1
  have hF_146 : F_141 s1 = .inl (cs 16, 40, .inl e1) := by rw [he_142, up_ne (ne_ty ht_107 hT_pl (by simp))]; exact hfk2
  have hF_147 : F_141 s2 = .inl (cs 16, 40, .inl e2) := by rw [he_142, up_ne (ne_ty ht_108 hT_pl (by simp))]; exact hfk3
  have hF_148 : F_141 se = .inr (13, [.ref sx, .ref s0, .ref s1, .ref s2, .int (nI zs)]) := by rw [he_142, up_ne (ne_ty ht_39 hT_pl (by simp))]; exact hfk4
  have hF_149 : F_141 h0 = .inr (15, (.ref ta) :: (.int (nI zt)) :: (.int (nI zo_117)) :: (.int (nI ze_118)) :: (.ref ou) :: (.ref so) :: (.ref ad) :: (.ref na) :: (.ref va) :: (.ref lc) :: (.ref dm) :: (.int v11_119) :: (.int v12_120) :: (.ref tg) :: (.int v14_121) :: (.int v15_122) :: (.ref pe) :: (.int v17_123) :: (.int v18_124) :: (.int v19_125) :: (.int v20_126) :: (.int v21_127) :: (.int v22_128) :: (.ref ml) :: (.ref bg) :: (.ref co) :: (.ref sp) :: (.ref nb0) :: (.ref nb1) :: (.ref nb2) :: (.int (nI nf)) :: (.int (nI bd)) :: (.int (nI mm)) :: (.int v33_129) :: (.ref pl) :: (.ref se) :: (.ref ke) :: (.ref wi) :: (.ref hs) :: (.ref mo) :: (.ref po) :: (.ref nu) :: (.ref pr) :: (.ref sq) :: (.ref xa) :: (.ref sa) :: (.ref n64) :: (.ref m64) :: (.ref ex) :: (.ref wh) :: (.ref sd) :: (.ref tk) :: (.int v52_130) :: (.int v53_131) :: (.int v54_132) :: (.ref hd) :: (.ref ak) :: (.ref ho) :: (.ref ot) :: []) := by rw [he_142, up_ne (ne_ty hT_h0 hT_pl (by simp))]; exact hF_133
  refine lv_aload_n hx hb dX15_fieldsPlain_8 rfl (lv_at hl 0 rfl) ?_
  refine pg_get (ci := 15) (v := .ref tk) (C := RX15) (T := TX15) (N := 59) hx hb hts it_15 hown hK hP hL_h0 hF_149 rfl 51 (by decide) (hts _ kt_958) (fun _ h9 => h9) rfl dX15_fieldsPlain_9 ?_
  refine lv_iconst (v := 0) hx hb dX15_fieldsPlain_12 (by decide) ?_
  have hFc := pg_free hD hS hA
  refine va_callv (va_runS (As := [.ref tk, .int 0]) (rest := []) ⟨hx, hb, hml, hown, hts⟩ (m_J7_fill_49daa l dC dI cs ty gm L H.size F_141 tk (ρ + 26) 20 hW hi_85 ht_86 (by first | omega | assumption)) ⟨callB_of 2 hts (gi kt_959) rfl rfl rfl (hts _ kt_823) (hts _ kt_960) (by decide +kernel) ⟨Nat.le_of_ble_eq_true rfl, Nat.le_of_ble_eq_true rfl⟩, (hts _ kt_961)⟩ ⟨fun a U g mk q => ⟨q.1, PTm.calling q.2⟩, fun U hU hWm => ⟨rfl, PTm.mk hU hWm hP hK hD hE hO⟩⟩ rfl rfl hl.1 rfl (lv_room (Nat.le_of_ble_eq_true rfl)) dX15_fieldsPlain_13 ⟨by show _ + 0 ≤ 0; omega, by show _ + 0 ≤ 0; omega⟩) hS (fun q _ h => hFc q h) hFc (fun u t H1 locs ht hvm hw hB hz1 hk1 hS => ?_)
  obtain ⟨F_151, f2_152, hB1, hq_153, hq_154⟩ := hB
  obtain ⟨hP, hD, hO, hR⟩ := QTm.back hB1 ht hFc hR (fun q h => by simp only [List.mem_cons, List.not_mem_nil, or_false] at h ⊢; omega)
  have hF_155 : F_151 pl = .inr (14, [.ref rl, .int 0]) := (hB1.2.2.2 pl (by rw [hT_pl]; simp)).trans hF_143
  have hF_156 : F_151 sb = .inl (cs 17, 3000, .inl eb) := (hB1.2.2.2 sb (by rw [ht_112]; simp)).trans hF_144
  have hF_157 : F_151 s0 = .inl (cs 16, 40, .inl e0) := (hB1.2.2.2 s0 (by rw [ht_106]; simp)).trans hF_145
  have hF_158 : F_151 s1 = .inl (cs 16, 40, .inl e1) := (hB1.2.2.2 s1 (by rw [ht_107]; simp)).trans hF_146
  have hF_159 : F_151 s2 = .inl (cs 16, 40, .inl e2) := (hB1.2.2.2 s2 (by rw [ht_108]; simp)).trans hF_147
  have hF_160 : F_151 se = .inr (13, [.ref sx, .ref s0, .ref s1, .ref s2, .int (nI zs)]) := (hB1.2.2.2 se (by rw [ht_39]; simp)).trans hF_148
  have hF_161 : F_151 h0 = .inr (15, (.ref ta) :: (.int (nI zt)) :: (.int (nI zo_117)) :: (.int (nI ze_118)) :: (.ref ou) :: (.ref so) :: (.ref ad) :: (.ref na) :: (.ref va) :: (.ref lc) :: (.ref dm) :: (.int v11_119) :: (.int v12_120) :: (.ref tg) :: (.int v14_121) :: (.int v15_122) :: (.ref pe) :: (.int v17_123) :: (.int v18_124) :: (.int v19_125) :: (.int v20_126) :: (.int v21_127) :: (.int v22_128) :: (.ref ml) :: (.ref bg) :: (.ref co) :: (.ref sp) :: (.ref nb0) :: (.ref nb1) :: (.ref nb2) :: (.int (nI nf)) :: (.int (nI bd)) :: (.int (nI mm)) :: (.int v33_129) :: (.ref pl) :: (.ref se) :: (.ref ke) :: (.ref wi) :: (.ref hs) :: (.ref mo) :: (.ref po) :: (.ref nu) :: (.ref pr) :: (.ref sq) :: (.ref xa) :: (.ref sa) :: (.ref n64) :: (.ref m64) :: (.ref ex) :: (.ref wh) :: (.ref sd) :: (.ref tk) :: (.int v52_130) :: (.int v53_131) :: (.int v54_132) :: (.ref hd) :: (.ref ak) :: (.ref ho) :: (.ref ot) :: []) := (hB1.2.2.2 h0 (by rw [hT_h0]; simp)).trans hF_149
  generalize H1 = H at hP hS ⊢
  refine lv_aload_n hx hb dX15_fieldsPlain_16 rfl (lv_at hl 0 rfl) ?_
  refine pg_get (ci := 15) (v := .ref se) (C := RX15) (T := TX15) (N := 59) hx hb hts it_15 hown hK hP hL_h0 hF_161 rfl 35 (by decide) (hts _ kt_862) (fun _ h9 => h9) rfl dX15_fieldsPlain_17 ?_
  obtain ⟨q_162, v_163, hr_q_162, hX_q_162⟩ := hG.2.2 ("PostGateModel", 486, "h", [104]) (by decide +kernel)
  have hX_q_162 : SXc q_162 v_163 1 (cct [104]) A s s.heap := hX_q_162
  obtain ⟨xo_q_162, xc_q_162, xv_q_162, xt_q_162, xn_q_162⟩ := id hX_q_162
  have hr_q_162 : vk_R "PostGateModel" 486 "h" q_162 s := hr_q_162
  refine va_ldcwS hx hb hown hr_q_162 dX15_fieldsPlain_20 ?_
  have hFc := pg_free hD hS hA
  refine va_calli (va_runV (As := [.ref q_162]) (rest := []) ⟨hx, hb, hml, hown, hts⟩ (s_X13_find l dC dI cs ty gm L H.size F_151 se (ρ + 11) sx 3000 1280 s0 s1 s2 sb zs q_162 v_163 1 (cct [104]) hW hi_38 ht_39 hL_sx hT_sx hF_160 (by first | omega | assumption)) ⟨callB_of 1 hts (gi kt_843) rfl rfl rfl (hts _ kt_844) (hts _ kt_854) (by decide +kernel) ⟨Nat.le_of_ble_eq_true rfl, Nat.le_of_ble_eq_true rfl⟩, (hts _ kt_846), (hts _ kt_847)⟩ ⟨fun a U g mk q => ⟨q.1, PTEm.calling q.2⟩, pg_recv hK hP hi_38 hF_160 (q := (RX13, TX13, 5)) rfl, fun U hU hWm => ⟨rfl, PTEm.mk hU hWm hP hK hD hE hO hG (fun x hx => by rw [List.mem_singleton] at hx; subst hx; exact hX_q_162) hS hFc⟩⟩ rfl rfl hl.1 rfl (lv_room (Nat.le_of_ble_eq_true rfl)) dX15_fieldsPlain_23 ⟨by show _ + 0 ≤ 0; omega, by show _ + 0 ≤ 0; omega⟩) hS (fun q _ h => hFc q h) hFc (fun r_164 u t H1 locs ht hvm hw hB hz1 hk1 hS => ?_)
  obtain ⟨F_165, hB1⟩ := hB
  obtain rfl : F_151 = F_165 := (funext (fun a => hB1.2.2.2 a List.not_mem_nil)).symm
  obtain ⟨hP, hD, hO, hR⟩ := QTm.back hB1 ht hFc hR (fun q h => absurd h List.not_mem_nil)
  generalize H1 = H at hP hS ⊢
  have hw : FND (gA (F_151 sb)) (gA (F_151 s0)) (gA (F_151 s1)) zs (cct [104]) 1 r_164 := hw
  have hw_166 := hw
  have hfr : FND eb e0 e1 zs (cct [104]) 1 r_164 := by have h9 := hw_166; rw [gA_fun hF_156, gA_fun hF_157, gA_fun hF_158] at h9; exact h9
  obtain rfl := FND.uniq hfr hfn
  refine lv_istore_n (lv' := [(2, .int (nI kh)), (0, .ref h0), (1, .int (nI jf))]) hx hb dX15_fieldsPlain_26 rfl hl (by decide) rfl (fun ls hl => ?_)
  refine lv_aload_n hx hb dX15_fieldsPlain_27 rfl (lv_at hl 1 rfl) ?_
  refine pg_get (ci := 15) (v := .ref se) (C := RX15) (T := TX15) (N := 59) hx hb hts it_15 hown hK hP hL_h0 hF_161 rfl 35 (by decide) (hts _ kt_862) (fun _ h9 => h9) rfl dX15_fieldsPlain_28 ?_
  refine pg_get (ci := 13) (v := .ref sx) (C := RX13) (T := TX13) (N := 5) hx hb hts it_13 hown hK hP hi_38 hF_160 rfl 0 (by decide) (hts _ kt_857) (fun _ h9 => h9) rfl dX15_fieldsPlain_31 ?_
  obtain ⟨z_167, hF_168, hq_169⟩ := hO.txt hL_sx hT_sx
  refine pg_get (ci := 14) (v := .ref sb) (C := RX14) (T := TX14) (N := 2) hx hb hts it_14 hown hK hP hL_sx hF_168 rfl 0 (by decide) (hts _ kt_710) (fun _ h9 => h9) rfl dX15_fieldsPlain_34 ?_
  refine lv_astore_n (lv' := [(3, .ref sb), (2, .int (nI kh)), (0, .ref h0), (1, .int (nI jf))]) hx hb dX15_fieldsPlain_37 rfl hl (by decide) rfl (fun ls hl => ?_)
  refine lv_aload_n hx hb dX15_fieldsPlain_38 rfl (lv_at hl 2 rfl) ?_
  refine pg_get (ci := 15) (v := .ref se) (C := RX15) (T := TX15) (N := 59) hx hb hts it_15 hown hK hP hL_h0 hF_161 rfl 35 (by decide) (hts _ kt_862) (fun _ h9 => h9) rfl dX15_fieldsPlain_39 ?_
  refine pg_get (ci := 13) (v := .ref s1) (C := RX13) (T := TX13) (N := 5) hx hb hts it_13 hown hK hP hi_38 hF_160 rfl 2 (by decide) (hts _ kt_855) (fun _ h9 => h9) rfl dX15_fieldsPlain_42 ?_
  refine lv_iload_n hx hb dX15_fieldsPlain_45 rfl (lv_at hl 1 rfl) ?_
  refine pg_iald hx hb hK hP hi_104 0 hF_158 rfl (vp_in_nI (by omega) (by omega)) dX15_fieldsPlain_46 ?_
  have hq_170 := ixb_of hF_158 (hO.idb hi_104 ht_107)
  obtain ⟨k_171, hk_172, ek_173⟩ := hq_170 ((nI kh) : Int32).toNatClampNeg
  refine lv_topi (fun x_174 ex_174 => ?_)
  obtain rfl : x_174 = nI k_171 := ex_174.trans ek_173
  refine lv_iconst (v := 1) hx hb dX15_fieldsPlain_47 (by decide) ?_
  refine lv_iadd hx hb dX15_fieldsPlain_48 ?_
  refine lv_topi (fun x_175 ex_175 => ?_)
  obtain rfl : x_175 = (nI (k_171 + 1)) := ex_175.trans (nI_add k_171 1)
  refine lv_istore (lv' := [(4, .int (nI (k_171 + 1))), (3, .ref sb), (2, .int (nI kh)), (0, .ref h0), (1, .int (nI jf))]) hx hb dX15_fieldsPlain_49 hl (by decide) rfl (fun ls hl => ?_)
  refine W.widen (k := 0) (n := 0) (by omega) (by omega) ?_
  have hF_177 : F sb = .inl (cs 17, 3000, .inl eb) := (hR sb (by rw [ht_112]; simp)).symm.trans hF_156
  have hF_178 : F s0 = .inl (cs 16, 40, .inl e0) := (hR s0 (by rw [ht_106]; simp)).symm.trans hF_157
  have hF_179 : F s1 = .inl (cs 16, 40, .inl e1) := (hR s1 (by rw [ht_107]; simp)).symm.trans hF_158
  have hF_180 : F s2 = .inl (cs 16, 40, .inl e2) := (hR s2 (by rw [ht_108]; simp)).symm.trans hF_159
  have hF_181 : F se = .inr (13, [.ref sx, .ref s0, .ref s1, .ref s2, .int (nI zs)]) := (hR se (by rw [ht_39]; simp)).symm.trans hF_160
  have hF_182 : F h0 = .inr (15, (.ref ta) :: (.int (nI zt)) :: (.int (nI zo_117)) :: (.int (nI ze_118)) :: (.ref ou) :: (.ref so) :: (.ref ad) :: (.ref na) :: (.ref va) :: (.ref lc) :: (.ref dm) :: (.int v11_119) :: (.int v12_120) :: (.ref tg) :: (.int v14_121) :: (.int v15_122) :: (.ref pe) :: (.int v17_123) :: (.int v18_124) :: (.int v19_125) :: (.int v20_126) :: (.int v21_127) :: (.int v22_128) :: (.ref ml) :: (.ref bg) :: (.ref co) :: (.ref sp) :: (.ref nb0) :: (.ref nb1) :: (.ref nb2) :: (.int (nI nf)) :: (.int (nI bd)) :: (.int (nI mm)) :: (.int v33_129) :: (.ref pl) :: (.ref se) :: (.ref ke) :: (.ref wi) :: (.ref hs) :: (.ref mo) :: (.ref po) :: (.ref nu) :: (.ref pr) :: (.ref sq) :: (.ref xa) :: (.ref sa) :: (.ref n64) :: (.ref m64) :: (.ref ex) :: (.ref wh) :: (.ref sd) :: (.ref tk) :: (.int v52_130) :: (.int v53_131) :: (.int v54_132) :: (.ref hd) :: (.ref ak) :: (.ref ho) :: (.ref ot) :: []) := (hR h0 (by rw [hT_h0]; simp)).symm.trans hF_161
  have hF_183 : F sx = .inr (14, [.ref sb, .int (nI z_167)]) := (hR sx (by rw [hT_sx]; simp)).symm.trans hF_168
  refine pl_loopm (σ := Nat × Nat × (Nat → Int32)) A (dC, dI) cs ty gm L [ρ + 10, ρ + 26] F 51 11 (fun (j, zz, ft) => [(4, .int (nI j)), (3, .ref sb), (2, .int (nI kh)), (0, .ref h0), (1, .int (nI jf))]) (fun (j, zz, ft) => []) (fun (j, zz, ft) FF => j ≤ 1282 ∧ zz ≤ tsum gm ft nf ∧ FF pl = .inr (14, [.ref rl, .int (nI zz)]) ∧ FF tk = .inl (cs 18, 20, .inl ft)) (fun (j, zz, ft) => 1282 - j) ?_ ((k_171 + 1), 0, f2_152) F_151 (⟨by omega, by omega, hF_155, hq_153⟩) hO hR _ _ hP hD hS ls (lv_sub hl [0, 1, 2, 3, 4] rfl)
  rintro ⟨j, zz, ft⟩ F_176 hv_184 hO hR ih_185 H locs hP hD hS ls hl
  have hl : lv_has ls 11 [(4, .int (nI j)), (3, .ref sb), (2, .int (nI kh)), (0, .ref h0), (1, .int (nI jf))] := hl
  have hv_184 : j ≤ 1282 ∧ zz ≤ tsum gm ft nf ∧ F_176 pl = .inr (14, [.ref rl, .int (nI zz)]) ∧ F_176 tk = .inl (cs 18, 20, .inl ft) := hv_184
  refine W.eq (g2 := F0 m 51 ls []) rfl ?_
  have hF_186 : F_176 sb = .inl (cs 17, 3000, .inl eb) := (hR sb (by rw [ht_112]; simp)).trans hF_177
  have hF_187 : F_176 s0 = .inl (cs 16, 40, .inl e0) := (hR s0 (by rw [ht_106]; simp)).trans hF_178
  have hF_188 : F_176 s1 = .inl (cs 16, 40, .inl e1) := (hR s1 (by rw [ht_107]; simp)).trans hF_179
  have hF_189 : F_176 s2 = .inl (cs 16, 40, .inl e2) := (hR s2 (by rw [ht_108]; simp)).trans hF_180
  have hF_190 : F_176 se = .inr (13, [.ref sx, .ref s0, .ref s1, .ref s2, .int (nI zs)]) := (hR se (by rw [ht_39]; simp)).trans hF_181
  have hF_191 : F_176 h0 = .inr (15, (.ref ta) :: (.int (nI zt)) :: (.int (nI zo_117)) :: (.int (nI ze_118)) :: (.ref ou) :: (.ref so) :: (.ref ad) :: (.ref na) :: (.ref va) :: (.ref lc) :: (.ref dm) :: (.int v11_119) :: (.int v12_120) :: (.ref tg) :: (.int v14_121) :: (.int v15_122) :: (.ref pe) :: (.int v17_123) :: (.int v18_124) :: (.int v19_125) :: (.int v20_126) :: (.int v21_127) :: (.int v22_128) :: (.ref ml) :: (.ref bg) :: (.ref co) :: (.ref sp) :: (.ref nb0) :: (.ref nb1) :: (.ref nb2) :: (.int (nI nf)) :: (.int (nI bd)) :: (.int (nI mm)) :: (.int v33_129) :: (.ref pl) :: (.ref se) :: (.ref ke) :: (.ref wi) :: (.ref hs) :: (.ref mo) :: (.ref po) :: (.ref nu) :: (.ref pr) :: (.ref sq) :: (.ref xa) :: (.ref sa) :: (.ref n64) :: (.ref m64) :: (.ref ex) :: (.ref wh) :: (.ref sd) :: (.ref tk) :: (.int v52_130) :: (.int v53_131) :: (.int v54_132) :: (.ref hd) :: (.ref ak) :: (.ref ho) :: (.ref ot) :: []) := (hR h0 (by rw [hT_h0]; simp)).trans hF_182
  have hF_192 : F_176 sx = .inr (14, [.ref sb, .int (nI z_167)]) := (hR sx (by rw [hT_sx]; simp)).trans hF_183
  obtain ⟨hp1, hp2, hp3, hp4⟩ := hv_184
  have htl := (tsum_le (ft := ft) hgO hgA (Nat.le_refl nf)).1
  refine lv_iload hx hb dX15_fieldsPlain_51 (lv_at hl 0 rfl) ?_
  refine lv_aload_n hx hb dX15_fieldsPlain_53 rfl (lv_at hl 3 rfl) ?_
  refine pg_get (ci := 15) (v := .ref se) (C := RX15) (T := TX15) (N := 59) hx hb hts it_15 hown hK hP hL_h0 hF_191 rfl 35 (by decide) (hts _ kt_862) (fun _ h9 => h9) rfl dX15_fieldsPlain_54 ?_
  refine pg_get (ci := 13) (v := .ref s2) (C := RX13) (T := TX13) (N := 5) hx hb hts it_13 hown hK hP hi_38 hF_190 rfl 3 (by decide) (hts _ kt_856) (fun _ h9 => h9) rfl dX15_fieldsPlain_57 ?_
  refine lv_iload_n hx hb dX15_fieldsPlain_60 rfl (lv_at hl 2 rfl) ?_
  refine pg_iald hx hb hK hP hi_105 0 hF_189 rfl (vp_in_nI (by omega) (by omega)) dX15_fieldsPlain_61 ?_
  have hq_193 := ixb_of hF_189 (hO.idb hi_105 ht_108)
  obtain ⟨k_194, hk_195, ek_196⟩ := hq_193 ((nI kh) : Int32).toNatClampNeg
  refine lv_topi (fun x_197 ex_197 => ?_)
  obtain rfl : x_197 = nI k_194 := ex_197.trans ek_196
  refine lv_icmp_gt (tgt := 184) hx hb dX15_fieldsPlain_62 (by decide) (fun c_198 => ?_) (fun c_198 => ?_)
  ·
    have hi_199 : k_194 < j := (nI_ltI (a := k_194) (b := j) (by omega) (by omega)).mp c_198
    refine lv_aload_n hx hb dX15_fieldsPlain_184 rfl (lv_at hl 3 rfl) ?_
    refine pg_get (ci := 15) (v := .ref co) (C := RX15) (T := TX15) (N := 59) hx hb hts it_15 hown hK hP hL_h0 hF_191 rfl 25 (by decide) (hts _ kt_904) (fun _ h9 => h9) rfl dX15_fieldsPlain_185 ?_
    refine lv_iload_n hx hb dX15_fieldsPlain_188 rfl (lv_at hl 4 rfl) ?_
    obtain ⟨f_200, hF_201, hq_202⟩ := hO.pos hi_28 ht_29
    refine pg_iald hx hb hK hP hi_28 0 hF_201 rfl (vp_in_nI (by omega) (by omega)) dX15_fieldsPlain_189 ?_
    refine lv_topi (fun x_203 ex_203 => ?_)
    obtain rfl : x_203 = (nI (gm 1 jf)) := ex_203.trans (by rw [show ((nI jf) : Int32) = nI jf from rfl, nI_clamp (by omega)]; exact hq_202 jf (by omega))
    have hgbx_203 := hgB 1 jf
    refine lv_iconst (v := 1) hx hb dX15_fieldsPlain_190 (by decide) ?_
    refine lv_iadd hx hb dX15_fieldsPlain_191 ?_
    refine lv_topi (fun x_204 ex_204 => ?_)
    obtain rfl : x_204 = (nI ((gm 1 jf) + 1)) := ex_204.trans (nI_add (gm 1 jf) 1)
    refine lv_istore (lv' := [(4, .int (nI ((gm 1 jf) + 1))), (3, .ref sb), (2, .int (nI kh)), (0, .ref h0), (1, .int (nI jf))]) hx hb dX15_fieldsPlain_192 hl (by decide) rfl (fun ls hl => ?_)
    refine lv_iconst (v := 0) hx hb dX15_fieldsPlain_194 (by decide) ?_
    refine lv_istore (lv' := [(5, .int 0), (4, .int (nI ((gm 1 jf) + 1))), (3, .ref sb), (2, .int (nI kh)), (0, .ref h0), (1, .int (nI jf))]) hx hb dX15_fieldsPlain_195 hl (by decide) rfl (fun ls hl => ?_)
    refine lv_iconst (v := 0) hx hb dX15_fieldsPlain_197 (by decide) ?_
    refine lv_istore (lv' := [(6, .int 0), (5, .int 0), (4, .int (nI ((gm 1 jf) + 1))), (3, .ref sb), (2, .int (nI kh)), (0, .ref h0), (1, .int (nI jf))]) hx hb dX15_fieldsPlain_198 hl (by decide) rfl (fun ls hl => ?_)
    refine lv_aload_n hx hb dX15_fieldsPlain_200 rfl (lv_at hl 5 rfl) ?_
    refine lv_iload_n hx hb dX15_fieldsPlain_201 rfl (lv_at hl 6 rfl) ?_
    have hFc := pg_free hD hS hA
    refine va_calli (va_runV (As := [.int (nI jf)]) (rest := []) ⟨hx, hb, hml, hown, hts⟩ (s_X15_valueEnd l dC dI cs ty gm L H.size F_176 h0 ρ ta ou so ad na va lc dm tg pe ml bg co sp nb0 nb1 nb2 pl se ke wi hs mo po nu pr sq xa sa n64 m64 ex wh sd tk hd ak ho ot sx s0 s1 s2 nf bd mm zt jf hW hL_h0 hT_h0 (by first | omega | assumption)) ⟨callB_of 1 hts (gi kt_912) rfl rfl rfl (hts _ kt_669) (hts _ kt_913) (by decide +kernel) ⟨Nat.le_of_ble_eq_true rfl, Nat.le_of_ble_eq_true rfl⟩, (hts _ kt_914), (hts _ kt_915)⟩ ⟨fun a U g mk q => ⟨q.1, PTm.calling q.2⟩, pg_recv hK hP hL_h0 hF_191 (q := (RX15, TX15, 59)) rfl, fun U hU hWm => ⟨rfl, PTm.mk hU hWm hP hK hD hE hO⟩⟩ rfl rfl hl.1 rfl (lv_room (Nat.le_of_ble_eq_true rfl)) dX15_fieldsPlain_202 ⟨by show _ + 0 ≤ 0; omega, by show _ + 0 ≤ 0; omega⟩) hS (fun q _ h => hFc q h) hFc (fun r_205 u t H1 locs ht hvm hw hB hz1 hk1 hS => ?_)
    obtain ⟨F_206, hB1⟩ := hB
    obtain rfl : F_176 = F_206 := (funext (fun a => hB1.2.2.2 a List.not_mem_nil)).symm
    obtain ⟨hP, hD, hO, hR⟩ := QTm.back hB1 ht hFc hR (fun q h => absurd h List.not_mem_nil)
    generalize H1 = H at hP hS ⊢
    have hw : (∃ k : Nat, gm 1 jf ≤ k ∧ k ≤ gm 2 jf ∧ r_205 = nI k) := hw
    have hw_207 := hw
    obtain ⟨kv, hkv1, hkv2, ekv⟩ := hw_207
    subst ekv
    refine lv_istore (lv' := [(7, .int (nI kv)), (6, .int 0), (5, .int 0), (4, .int (nI ((gm 1 jf) + 1))), (3, .ref sb), (2, .int (nI kh)), (0, .ref h0), (1, .int (nI jf))]) hx hb dX15_fieldsPlain_205 hl (by decide) rfl (fun ls hl => ?_)
    refine W.widen (k := 0) (n := 0) (by omega) (by omega) ?_
    have hF_209 : F sb = .inl (cs 17, 3000, .inl eb) := (hR sb (by rw [ht_112]; simp)).symm.trans hF_186
    have hF_210 : F s0 = .inl (cs 16, 40, .inl e0) := (hR s0 (by rw [ht_106]; simp)).symm.trans hF_187
    have hF_211 : F s1 = .inl (cs 16, 40, .inl e1) := (hR s1 (by rw [ht_107]; simp)).symm.trans hF_188
    have hF_212 : F s2 = .inl (cs 16, 40, .inl e2) := (hR s2 (by rw [ht_108]; simp)).symm.trans hF_189
    have hF_213 : F se = .inr (13, [.ref sx, .ref s0, .ref s1, .ref s2, .int (nI zs)]) := (hR se (by rw [ht_39]; simp)).symm.trans hF_190
    have hF_214 : F h0 = .inr (15, (.ref ta) :: (.int (nI zt)) :: (.int (nI zo_117)) :: (.int (nI ze_118)) :: (.ref ou) :: (.ref so) :: (.ref ad) :: (.ref na) :: (.ref va) :: (.ref lc) :: (.ref dm) :: (.int v11_119) :: (.int v12_120) :: (.ref tg) :: (.int v14_121) :: (.int v15_122) :: (.ref pe) :: (.int v17_123) :: (.int v18_124) :: (.int v19_125) :: (.int v20_126) :: (.int v21_127) :: (.int v22_128) :: (.ref ml) :: (.ref bg) :: (.ref co) :: (.ref sp) :: (.ref nb0) :: (.ref nb1) :: (.ref nb2) :: (.int (nI nf)) :: (.int (nI bd)) :: (.int (nI mm)) :: (.int v33_129) :: (.ref pl) :: (.ref se) :: (.ref ke) :: (.ref wi) :: (.ref hs) :: (.ref mo) :: (.ref po) :: (.ref nu) :: (.ref pr) :: (.ref sq) :: (.ref xa) :: (.ref sa) :: (.ref n64) :: (.ref m64) :: (.ref ex) :: (.ref wh) :: (.ref sd) :: (.ref tk) :: (.int v52_130) :: (.int v53_131) :: (.int v54_132) :: (.ref hd) :: (.ref ak) :: (.ref ho) :: (.ref ot) :: []) := (hR h0 (by rw [hT_h0]; simp)).symm.trans hF_191
    have hF_215 : F sx = .inr (14, [.ref sb, .int (nI z_167)]) := (hR sx (by rw [hT_sx]; simp)).symm.trans hF_192
    have hF_216 : F co = .inl (cs 16, 21, .inl f_200) := (hR co (by rw [ht_29]; simp)).symm.trans hF_201
    refine pl_loopm (σ := Nat × Int32 × Int32) A (dC, dI) cs ty gm L [ρ + 10, ρ + 26] F 207 11 (fun (j2, w5, w6) => [(7, .int (nI kv)), (6, .int w6), (5, .int w5), (4, .int (nI j2)), (0, .ref h0), (1, .int (nI jf))]) (fun (j2, w5, w6) => []) (fun (j2, w5, w6) FF => j2 ≤ 1282 ∧ FF pl = .inr (14, [.ref rl, .int (nI zz)])) (fun (j2, w5, w6) => 1282 - j2) ?_ (((gm 1 jf) + 1), 0, 0) F_176 (⟨by omega, hp3⟩) hO hR _ _ hP hD hS ls (lv_sub hl [0, 1, 2, 3, 6, 7] rfl)
    rintro ⟨j2, w5, w6⟩ F_208 hv_217 hO hR ih_218 H locs hP hD hS ls hl
    have hl : lv_has ls 11 [(7, .int (nI kv)), (6, .int w6), (5, .int w5), (4, .int (nI j2)), (0, .ref h0), (1, .int (nI jf))] := hl
    have hv_217 : j2 ≤ 1282 ∧ F_208 pl = .inr (14, [.ref rl, .int (nI zz)]) := hv_217
    refine W.eq (g2 := F0 m 207 ls []) rfl ?_
    have hF_219 : F_208 sb = .inl (cs 17, 3000, .inl eb) := (hR sb (by rw [ht_112]; simp)).trans hF_209
    have hF_220 : F_208 s0 = .inl (cs 16, 40, .inl e0) := (hR s0 (by rw [ht_106]; simp)).trans hF_210
    have hF_221 : F_208 s1 = .inl (cs 16, 40, .inl e1) := (hR s1 (by rw [ht_107]; simp)).trans hF_211
    have hF_222 : F_208 s2 = .inl (cs 16, 40, .inl e2) := (hR s2 (by rw [ht_108]; simp)).trans hF_212
    have hF_223 : F_208 se = .inr (13, [.ref sx, .ref s0, .ref s1, .ref s2, .int (nI zs)]) := (hR se (by rw [ht_39]; simp)).trans hF_213
    have hF_224 : F_208 h0 = .inr (15, (.ref ta) :: (.int (nI zt)) :: (.int (nI zo_117)) :: (.int (nI ze_118)) :: (.ref ou) :: (.ref so) :: (.ref ad) :: (.ref na) :: (.ref va) :: (.ref lc) :: (.ref dm) :: (.int v11_119) :: (.int v12_120) :: (.ref tg) :: (.int v14_121) :: (.int v15_122) :: (.ref pe) :: (.int v17_123) :: (.int v18_124) :: (.int v19_125) :: (.int v20_126) :: (.int v21_127) :: (.int v22_128) :: (.ref ml) :: (.ref bg) :: (.ref co) :: (.ref sp) :: (.ref nb0) :: (.ref nb1) :: (.ref nb2) :: (.int (nI nf)) :: (.int (nI bd)) :: (.int (nI mm)) :: (.int v33_129) :: (.ref pl) :: (.ref se) :: (.ref ke) :: (.ref wi) :: (.ref hs) :: (.ref mo) :: (.ref po) :: (.ref nu) :: (.ref pr) :: (.ref sq) :: (.ref xa) :: (.ref sa) :: (.ref n64) :: (.ref m64) :: (.ref ex) :: (.ref wh) :: (.ref sd) :: (.ref tk) :: (.int v52_130) :: (.int v53_131) :: (.int v54_132) :: (.ref hd) :: (.ref ak) :: (.ref ho) :: (.ref ot) :: []) := (hR h0 (by rw [hT_h0]; simp)).trans hF_214
    have hF_225 : F_208 sx = .inr (14, [.ref sb, .int (nI z_167)]) := (hR sx (by rw [hT_sx]; simp)).trans hF_215
    have hF_226 : F_208 co = .inl (cs 16, 21, .inl f_200) := (hR co (by rw [ht_29]; simp)).trans hF_216
    obtain ⟨hx1a, hx1b⟩ := hv_217
    refine lv_iload hx hb dX15_fieldsPlain_207 (lv_at hl 3 rfl) ?_
    refine lv_iload hx hb dX15_fieldsPlain_209 (lv_at hl 0 rfl) ?_
    refine lv_icmp_ge (tgt := 342) hx hb dX15_fieldsPlain_211 (by decide) (fun c_227 => ?_) (fun c_227 => ?_)
    ·
      have hi_228 : kv ≤ j2 := leN (N := kv) c_227
      refine lv_aload_n hx hb dX15_fieldsPlain_342 rfl (lv_at hl 4 rfl) ?_
      refine lv_iload_n hx hb dX15_fieldsPlain_343 rfl (lv_at hl 5 rfl) ?_
      refine lv_aload_n hx hb dX15_fieldsPlain_344 rfl (lv_at hl 4 rfl) ?_
      refine pg_get (ci := 15) (v := .int v52_130) (C := RX15) (T := TX15) (N := 59) hx hb hts it_15 hown hK hP hL_h0 hF_224 rfl 52 (by decide) (hts _ kt_872) (fun _ h9 => h9) rfl dX15_fieldsPlain_345 ?_
      refine lv_iload hx hb dX15_fieldsPlain_348 (lv_at hl 2 rfl) ?_
      refine lv_iload hx hb dX15_fieldsPlain_350 (lv_at hl 1 rfl) ?_
      have hFc := pg_free hD hS hA
      refine va_callv (va_runV (As := [.int (nI jf), .int v52_130, .int w5, .int w6]) (rest := []) ⟨hx, hb, hml, hown, hts⟩ (s_X15_fieldPlain l dC dI cs ty gm L H.size F_208 h0 ρ ta ou so ad na va lc dm tg pe ml bg co sp nb0 nb1 nb2 pl se ke wi hs mo po nu pr sq xa sa n64 m64 ex wh sd tk hd ak ho ot sx s0 s1 s2 nf bd mm zt rl jf zz v52_130 w5 w6 hW hL_h0 hT_h0 hL_pl hT_pl (by first | omega | assumption) hx1b (by first | omega | assumption)) ⟨callB_of 4 hts (gi kt_933) rfl rfl rfl (hts _ kt_669) (hts _ kt_934) (by decide +kernel) ⟨Nat.le_of_ble_eq_true rfl, Nat.le_of_ble_eq_true rfl⟩, (hts _ kt_935), (hts _ kt_936)⟩ ⟨fun a U g mk q => ⟨q.1, PTm.calling q.2⟩, pg_recv hK hP hL_h0 hF_224 (q := (RX15, TX15, 59)) rfl, fun U hU hWm => ⟨rfl, PTm.mk hU hWm hP hK hD hE hO⟩⟩ rfl rfl hl.1 rfl (lv_room (Nat.le_of_ble_eq_true rfl)) dX15_fieldsPlain_352 ⟨by show _ + 0 ≤ 0; omega, by show _ + 0 ≤ 0; omega⟩) hS (fun q _ h => hFc q h) hFc (fun u t H1 locs ht hvm hw hB hz1 hk1 hS => ?_)
      obtain ⟨F_230, z2_231, hB1, hq_232, hq_233⟩ := hB
      obtain ⟨hP, hD, hO, hR⟩ := QTm.back hB1 ht hFc hR (fun q h => by simp only [List.mem_cons, List.not_mem_nil, or_false] at h ⊢; omega)
      have hF_234 : F_230 sb = .inl (cs 17, 3000, .inl eb) := (hB1.2.2.2 sb (by rw [ht_112]; simp)).trans hF_219
      have hF_235 : F_230 s0 = .inl (cs 16, 40, .inl e0) := (hB1.2.2.2 s0 (by rw [ht_106]; simp)).trans hF_220
      have hF_236 : F_230 s1 = .inl (cs 16, 40, .inl e1) := (hB1.2.2.2 s1 (by rw [ht_107]; simp)).trans hF_221
      have hF_237 : F_230 s2 = .inl (cs 16, 40, .inl e2) := (hB1.2.2.2 s2 (by rw [ht_108]; simp)).trans hF_222
      have hF_238 : F_230 se = .inr (13, [.ref sx, .ref s0, .ref s1, .ref s2, .int (nI zs)]) := (hB1.2.2.2 se (by rw [ht_39]; simp)).trans hF_223
      have hF_239 : F_230 h0 = .inr (15, (.ref ta) :: (.int (nI zt)) :: (.int (nI zo_117)) :: (.int (nI ze_118)) :: (.ref ou) :: (.ref so) :: (.ref ad) :: (.ref na) :: (.ref va) :: (.ref lc) :: (.ref dm) :: (.int v11_119) :: (.int v12_120) :: (.ref tg) :: (.int v14_121) :: (.int v15_122) :: (.ref pe) :: (.int v17_123) :: (.int v18_124) :: (.int v19_125) :: (.int v20_126) :: (.int v21_127) :: (.int v22_128) :: (.ref ml) :: (.ref bg) :: (.ref co) :: (.ref sp) :: (.ref nb0) :: (.ref nb1) :: (.ref nb2) :: (.int (nI nf)) :: (.int (nI bd)) :: (.int (nI mm)) :: (.int v33_129) :: (.ref pl) :: (.ref se) :: (.ref ke) :: (.ref wi) :: (.ref hs) :: (.ref mo) :: (.ref po) :: (.ref nu) :: (.ref pr) :: (.ref sq) :: (.ref xa) :: (.ref sa) :: (.ref n64) :: (.ref m64) :: (.ref ex) :: (.ref wh) :: (.ref sd) :: (.ref tk) :: (.int v52_130) :: (.int v53_131) :: (.int v54_132) :: (.ref hd) :: (.ref ak) :: (.ref ho) :: (.ref ot) :: []) := (hB1.2.2.2 h0 (by rw [hT_h0]; simp)).trans hF_224
      have hF_240 : F_230 sx = .inr (14, [.ref sb, .int (nI z_167)]) := (hB1.2.2.2 sx (by rw [hT_sx]; simp)).trans hF_225
      have hF_241 : F_230 co = .inl (cs 16, 21, .inl f_200) := (hB1.2.2.2 co (by rw [ht_29]; simp)).trans hF_226
      generalize H1 = H at hP hS ⊢
      refine W.widen (k := 0) (n := 0) (by omega) (by omega) ?_
      exact W.vret hx hb hr (fun t ht hWm => ⟨⟨(), rfl, trivial, ⟨F_230, QTm.mk ht hP hD hO hR⟩⟩, hS.F ht⟩) hS.2.2 dX15_fieldsPlain_355
    ·
      have hi_242 : j2 < kv := ltN (N := kv) c_227
      refine lv_iload hx hb dX15_fieldsPlain_214 (lv_at hl 3 rfl) ?_
      refine lv_istore (lv' := [(8, .int (nI j2)), (7, .int (nI kv)), (6, .int w6), (5, .int w5), (4, .int (nI j2)), (0, .ref h0), (1, .int (nI jf))]) hx hb dX15_fieldsPlain_216 hl (by decide) rfl (fun ls hl => ?_)
      refine lv_iload hx hb dX15_fieldsPlain_218 (lv_at hl 4 rfl) ?_
      refine lv_istore (lv' := [(9, .int (nI j2)), (8, .int (nI j2)), (7, .int (nI kv)), (6, .int w6), (5, .int w5), (4, .int (nI j2)), (0, .ref h0), (1, .int (nI jf))]) hx hb dX15_fieldsPlain_220 hl (by decide) rfl (fun ls hl => ?_)
      refine lv_iconst (v := 0) hx hb dX15_fieldsPlain_222 (by decide) ?_
      refine lv_istore (lv' := [(10, .int 0), (9, .int (nI j2)), (8, .int (nI j2)), (7, .int (nI kv)), (6, .int w6), (5, .int w5), (4, .int (nI j2)), (0, .ref h0), (1, .int (nI jf))]) hx hb dX15_fieldsPlain_223 hl (by decide) rfl (fun ls hl => ?_)
      refine W.widen (k := 0) (n := 0) (by omega) (by omega) ?_
      have hF_244 : F sb = .inl (cs 17, 3000, .inl eb) := (hR sb (by rw [ht_112]; simp)).symm.trans hF_219
      have hF_245 : F s0 = .inl (cs 16, 40, .inl e0) := (hR s0 (by rw [ht_106]; simp)).symm.trans hF_220
      have hF_246 : F s1 = .inl (cs 16, 40, .inl e1) := (hR s1 (by rw [ht_107]; simp)).symm.trans hF_221
      have hF_247 : F s2 = .inl (cs 16, 40, .inl e2) := (hR s2 (by rw [ht_108]; simp)).symm.trans hF_222
      have hF_248 : F se = .inr (13, [.ref sx, .ref s0, .ref s1, .ref s2, .int (nI zs)]) := (hR se (by rw [ht_39]; simp)).symm.trans hF_223
      have hF_249 : F h0 = .inr (15, (.ref ta) :: (.int (nI zt)) :: (.int (nI zo_117)) :: (.int (nI ze_118)) :: (.ref ou) :: (.ref so) :: (.ref ad) :: (.ref na) :: (.ref va) :: (.ref lc) :: (.ref dm) :: (.int v11_119) :: (.int v12_120) :: (.ref tg) :: (.int v14_121) :: (.int v15_122) :: (.ref pe) :: (.int v17_123) :: (.int v18_124) :: (.int v19_125) :: (.int v20_126) :: (.int v21_127) :: (.int v22_128) :: (.ref ml) :: (.ref bg) :: (.ref co) :: (.ref sp) :: (.ref nb0) :: (.ref nb1) :: (.ref nb2) :: (.int (nI nf)) :: (.int (nI bd)) :: (.int (nI mm)) :: (.int v33_129) :: (.ref pl) :: (.ref se) :: (.ref ke) :: (.ref wi) :: (.ref hs) :: (.ref mo) :: (.ref po) :: (.ref nu) :: (.ref pr) :: (.ref sq) :: (.ref xa) :: (.ref sa) :: (.ref n64) :: (.ref m64) :: (.ref ex) :: (.ref wh) :: (.ref sd) :: (.ref tk) :: (.int v52_130) :: (.int v53_131) :: (.int v54_132) :: (.ref hd) :: (.ref ak) :: (.ref ho) :: (.ref ot) :: []) := (hR h0 (by rw [hT_h0]; simp)).symm.trans hF_224
      have hF_250 : F sx = .inr (14, [.ref sb, .int (nI z_167)]) := (hR sx (by rw [hT_sx]; simp)).symm.trans hF_225
      have hF_251 : F co = .inl (cs 16, 21, .inl f_200) := (hR co (by rw [ht_29]; simp)).symm.trans hF_226
      refine pl_loopm (σ := Nat) A (dC, dI) cs ty gm L [ρ + 10, ρ + 26] F 225 11 (fun i2 => [(10, .int 0), (9, .int (nI j2)), (8, .int (nI i2)), (7, .int (nI kv)), (6, .int w6), (5, .int w5), (4, .int (nI j2)), (0, .ref h0), (1, .int (nI jf))]) (fun i2 => []) (fun i2 FF => (j2 ≤ i2 ∧ i2 ≤ kv) ∧ FF pl = .inr (14, [.ref rl, .int (nI zz)])) (fun i2 => kv - i2) ?_ j2 F_208 (⟨⟨by omega, by omega⟩, hx1b⟩) hO hR _ _ hP hD hS ls (lv_sub hl [0, 1, 2, 3, 4, 5, 6, 7, 8] rfl)
      rintro i2 F_243 hv_252 hO hR ih_253 H locs hP hD hS ls hl
      have hl : lv_has ls 11 [(10, .int 0), (9, .int (nI j2)), (8, .int (nI i2)), (7, .int (nI kv)), (6, .int w6), (5, .int w5), (4, .int (nI j2)), (0, .ref h0), (1, .int (nI jf))] := hl
      have hv_252 : (j2 ≤ i2 ∧ i2 ≤ kv) ∧ F_243 pl = .inr (14, [.ref rl, .int (nI zz)]) := hv_252
      refine W.eq (g2 := F0 m 225 ls []) rfl ?_
      have hF_254 : F_243 sb = .inl (cs 17, 3000, .inl eb) := (hR sb (by rw [ht_112]; simp)).trans hF_244
      have hF_255 : F_243 s0 = .inl (cs 16, 40, .inl e0) := (hR s0 (by rw [ht_106]; simp)).trans hF_245
      have hF_256 : F_243 s1 = .inl (cs 16, 40, .inl e1) := (hR s1 (by rw [ht_107]; simp)).trans hF_246
      have hF_257 : F_243 s2 = .inl (cs 16, 40, .inl e2) := (hR s2 (by rw [ht_108]; simp)).trans hF_247
      have hF_258 : F_243 se = .inr (13, [.ref sx, .ref s0, .ref s1, .ref s2, .int (nI zs)]) := (hR se (by rw [ht_39]; simp)).trans hF_248
      have hF_259 : F_243 h0 = .inr (15, (.ref ta) :: (.int (nI zt)) :: (.int (nI zo_117)) :: (.int (nI ze_118)) :: (.ref ou) :: (.ref so) :: (.ref ad) :: (.ref na) :: (.ref va) :: (.ref lc) :: (.ref dm) :: (.int v11_119) :: (.int v12_120) :: (.ref tg) :: (.int v14_121) :: (.int v15_122) :: (.ref pe) :: (.int v17_123) :: (.int v18_124) :: (.int v19_125) :: (.int v20_126) :: (.int v21_127) :: (.int v22_128) :: (.ref ml) :: (.ref bg) :: (.ref co) :: (.ref sp) :: (.ref nb0) :: (.ref nb1) :: (.ref nb2) :: (.int (nI nf)) :: (.int (nI bd)) :: (.int (nI mm)) :: (.int v33_129) :: (.ref pl) :: (.ref se) :: (.ref ke) :: (.ref wi) :: (.ref hs) :: (.ref mo) :: (.ref po) :: (.ref nu) :: (.ref pr) :: (.ref sq) :: (.ref xa) :: (.ref sa) :: (.ref n64) :: (.ref m64) :: (.ref ex) :: (.ref wh) :: (.ref sd) :: (.ref tk) :: (.int v52_130) :: (.int v53_131) :: (.int v54_132) :: (.ref hd) :: (.ref ak) :: (.ref ho) :: (.ref ot) :: []) := (hR h0 (by rw [hT_h0]; simp)).trans hF_249
      have hF_260 : F_243 sx = .inr (14, [.ref sb, .int (nI z_167)]) := (hR sx (by rw [hT_sx]; simp)).trans hF_250
      have hF_261 : F_243 co = .inl (cs 16, 21, .inl f_200) := (hR co (by rw [ht_29]; simp)).trans hF_251
      obtain ⟨hx2a, hx2b⟩ := hv_252
      refine lv_iload hx hb dX15_fieldsPlain_225 (lv_at hl 2 rfl) ?_
      refine lv_iload hx hb dX15_fieldsPlain_227 (lv_at hl 3 rfl) ?_
      refine lv_icmp_ge (tgt := 250) hx hb dX15_fieldsPlain_229 (by decide) (fun c_262 => ?_) (fun c_262 => ?_)
      ·
        have hi_263 : kv ≤ i2 := leN (N := kv) c_262
        refine W.widen (k := 0) (n := 0) (by omega) (by omega) ?_
        have hF_265 : F sb = .inl (cs 17, 3000, .inl eb) := (hR sb (by rw [ht_112]; simp)).symm.trans hF_254
        have hF_266 : F s0 = .inl (cs 16, 40, .inl e0) := (hR s0 (by rw [ht_106]; simp)).symm.trans hF_255
        have hF_267 : F s1 = .inl (cs 16, 40, .inl e1) := (hR s1 (by rw [ht_107]; simp)).symm.trans hF_256
        have hF_268 : F s2 = .inl (cs 16, 40, .inl e2) := (hR s2 (by rw [ht_108]; simp)).symm.trans hF_257
        have hF_269 : F se = .inr (13, [.ref sx, .ref s0, .ref s1, .ref s2, .int (nI zs)]) := (hR se (by rw [ht_39]; simp)).symm.trans hF_258
        have hF_270 : F h0 = .inr (15, (.ref ta) :: (.int (nI zt)) :: (.int (nI zo_117)) :: (.int (nI ze_118)) :: (.ref ou) :: (.ref so) :: (.ref ad) :: (.ref na) :: (.ref va) :: (.ref lc) :: (.ref dm) :: (.int v11_119) :: (.int v12_120) :: (.ref tg) :: (.int v14_121) :: (.int v15_122) :: (.ref pe) :: (.int v17_123) :: (.int v18_124) :: (.int v19_125) :: (.int v20_126) :: (.int v21_127) :: (.int v22_128) :: (.ref ml) :: (.ref bg) :: (.ref co) :: (.ref sp) :: (.ref nb0) :: (.ref nb1) :: (.ref nb2) :: (.int (nI nf)) :: (.int (nI bd)) :: (.int (nI mm)) :: (.int v33_129) :: (.ref pl) :: (.ref se) :: (.ref ke) :: (.ref wi) :: (.ref hs) :: (.ref mo) :: (.ref po) :: (.ref nu) :: (.ref pr) :: (.ref sq) :: (.ref xa) :: (.ref sa) :: (.ref n64) :: (.ref m64) :: (.ref ex) :: (.ref wh) :: (.ref sd) :: (.ref tk) :: (.int v52_130) :: (.int v53_131) :: (.int v54_132) :: (.ref hd) :: (.ref ak) :: (.ref ho) :: (.ref ot) :: []) := (hR h0 (by rw [hT_h0]; simp)).symm.trans hF_259
        have hF_271 : F sx = .inr (14, [.ref sb, .int (nI z_167)]) := (hR sx (by rw [hT_sx]; simp)).symm.trans hF_260
        have hF_272 : F co = .inl (cs 16, 21, .inl f_200) := (hR co (by rw [ht_29]; simp)).symm.trans hF_261
        refine pl_loopm (σ := Nat × Int32) A (dC, dI) cs ty gm L [ρ + 10, ρ + 26] F 250 11 (fun (i3, w10) => [(10, .int w10), (9, .int (nI i3)), (8, .int (nI i2)), (7, .int (nI kv)), (6, .int w6), (5, .int w5), (4, .int (nI j2)), (0, .ref h0), (1, .int (nI jf))]) (fun (i3, w10) => []) (fun (i3, w10) FF => (j2 ≤ i3 ∧ i3 ≤ i2) ∧ FF pl = .inr (14, [.ref rl, .int (nI zz)])) (fun (i3, w10) => i2 - i3) ?_ (j2, 0) F_243 (⟨⟨by omega, by omega⟩, hx2b⟩) hO hR _ _ hP hD hS ls (lv_sub hl [0, 1, 2, 3, 4, 5, 6, 7, 8] rfl)
        rintro ⟨i3, w10⟩ F_264 hv_273 hO hR ih_274 H locs hP hD hS ls hl
        have hl : lv_has ls 11 [(10, .int w10), (9, .int (nI i3)), (8, .int (nI i2)), (7, .int (nI kv)), (6, .int w6), (5, .int w5), (4, .int (nI j2)), (0, .ref h0), (1, .int (nI jf))] := hl
        have hv_273 : (j2 ≤ i3 ∧ i3 ≤ i2) ∧ F_264 pl = .inr (14, [.ref rl, .int (nI zz)]) := hv_273
        refine W.eq (g2 := F0 m 250 ls []) rfl ?_
        have hF_275 : F_264 sb = .inl (cs 17, 3000, .inl eb) := (hR sb (by rw [ht_112]; simp)).trans hF_265
        have hF_276 : F_264 s0 = .inl (cs 16, 40, .inl e0) := (hR s0 (by rw [ht_106]; simp)).trans hF_266
        have hF_277 : F_264 s1 = .inl (cs 16, 40, .inl e1) := (hR s1 (by rw [ht_107]; simp)).trans hF_267
        have hF_278 : F_264 s2 = .inl (cs 16, 40, .inl e2) := (hR s2 (by rw [ht_108]; simp)).trans hF_268
        have hF_279 : F_264 se = .inr (13, [.ref sx, .ref s0, .ref s1, .ref s2, .int (nI zs)]) := (hR se (by rw [ht_39]; simp)).trans hF_269
        have hF_280 : F_264 h0 = .inr (15, (.ref ta) :: (.int (nI zt)) :: (.int (nI zo_117)) :: (.int (nI ze_118)) :: (.ref ou) :: (.ref so) :: (.ref ad) :: (.ref na) :: (.ref va) :: (.ref lc) :: (.ref dm) :: (.int v11_119) :: (.int v12_120) :: (.ref tg) :: (.int v14_121) :: (.int v15_122) :: (.ref pe) :: (.int v17_123) :: (.int v18_124) :: (.int v19_125) :: (.int v20_126) :: (.int v21_127) :: (.int v22_128) :: (.ref ml) :: (.ref bg) :: (.ref co) :: (.ref sp) :: (.ref nb0) :: (.ref nb1) :: (.ref nb2) :: (.int (nI nf)) :: (.int (nI bd)) :: (.int (nI mm)) :: (.int v33_129) :: (.ref pl) :: (.ref se) :: (.ref ke) :: (.ref wi) :: (.ref hs) :: (.ref mo) :: (.ref po) :: (.ref nu) :: (.ref pr) :: (.ref sq) :: (.ref xa) :: (.ref sa) :: (.ref n64) :: (.ref m64) :: (.ref ex) :: (.ref wh) :: (.ref sd) :: (.ref tk) :: (.int v52_130) :: (.int v53_131) :: (.int v54_132) :: (.ref hd) :: (.ref ak) :: (.ref ho) :: (.ref ot) :: []) := (hR h0 (by rw [hT_h0]; simp)).trans hF_270
        have hF_281 : F_264 sx = .inr (14, [.ref sb, .int (nI z_167)]) := (hR sx (by rw [hT_sx]; simp)).trans hF_271
        have hF_282 : F_264 co = .inl (cs 16, 21, .inl f_200) := (hR co (by rw [ht_29]; simp)).trans hF_272
        obtain ⟨hx3a, hx3b⟩ := hv_273
        refine lv_iload hx hb dX15_fieldsPlain_250 (lv_at hl 1 rfl) ?_
        refine lv_iload hx hb dX15_fieldsPlain_252 (lv_at hl 2 rfl) ?_
        refine lv_icmp_ge (tgt := 316) hx hb dX15_fieldsPlain_254 (by decide) (fun c_283 => ?_) (fun c_283 => ?_)
        ·
          have hi_284 : i2 ≤ i3 := leN (N := i2) c_283
          refine lv_iload hx hb dX15_fieldsPlain_316 (lv_at hl 0 rfl) ?_
          refine lv_bipush (v := 98) hx hb dX15_fieldsPlain_318 (by decide) ?_
          refine lv_icmp_ne (tgt := 333) hx hb dX15_fieldsPlain_320 (by decide) (fun c_285 => ?_) (fun c_285 => ?_)
          ·
            refine lv_iload hx hb dX15_fieldsPlain_333 (lv_at hl 2 rfl) ?_
            refine lv_iconst (v := 1) hx hb dX15_fieldsPlain_335 (by decide) ?_
            refine lv_iadd hx hb dX15_fieldsPlain_336 ?_
            refine lv_topi (fun x_286 ex_286 => ?_)
            obtain rfl : x_286 = (nI (i2 + 1)) := ex_286.trans (nI_add i2 1)
            refine lv_istore (lv' := [(4, .int (nI (i2 + 1))), (10, .int w10), (9, .int (nI i3)), (8, .int (nI i2)), (7, .int (nI kv)), (6, .int w6), (5, .int w5), (0, .ref h0), (1, .int (nI jf))]) hx hb dX15_fieldsPlain_337 hl (by decide) rfl (fun ls hl => ?_)
            refine lv_goto (tgt := 207) hx hb dX15_fieldsPlain_339 (by decide) ?_
            refine W.widen (k := 0) (n := 0) (by omega) (by omega) ?_
            exact ih_218 ((i2 + 1), w5, w6) F_264 (⟨by omega, hx3b⟩) (by show 1282 - (i2 + 1) < 1282 - j2; omega) hO hR _ _ hP hD hS ls (lv_sub hl [4, 5, 6, 0, 7, 8] rfl)
          ·
            refine lv_iload hx hb dX15_fieldsPlain_323 (lv_at hl 1 rfl) ?_
            refine lv_iconst (v := 1) hx hb dX15_fieldsPlain_325 (by decide) ?_
            refine lv_iadd hx hb dX15_fieldsPlain_326 ?_
            refine lv_topi (fun x_287 ex_287 => ?_)
            obtain rfl : x_287 = (nI (i3 + 1)) := ex_287.trans (nI_add i3 1)
            refine lv_istore (lv' := [(5, .int (nI (i3 + 1))), (10, .int w10), (9, .int (nI i3)), (8, .int (nI i2)), (7, .int (nI kv)), (6, .int w6), (4, .int (nI j2)), (0, .ref h0), (1, .int (nI jf))]) hx hb dX15_fieldsPlain_327 hl (by decide) rfl (fun ls hl => ?_)
            refine lv_iload hx hb dX15_fieldsPlain_329 (lv_at hl 3 rfl) ?_
            refine lv_istore (lv' := [(6, .int (nI i2)), (5, .int (nI (i3 + 1))), (10, .int w10), (9, .int (nI i3)), (8, .int (nI i2)), (7, .int (nI kv)), (4, .int (nI j2)), (0, .ref h0), (1, .int (nI jf))]) hx hb dX15_fieldsPlain_331 hl (by decide) rfl (fun ls hl => ?_)
            refine lv_iload hx hb dX15_fieldsPlain_333 (lv_at hl 4 rfl) ?_
            refine lv_iconst (v := 1) hx hb dX15_fieldsPlain_335 (by decide) ?_
            refine lv_iadd hx hb dX15_fieldsPlain_336 ?_
            refine lv_topi (fun x_288 ex_288 => ?_)
            obtain rfl : x_288 = (nI (i2 + 1)) := ex_288.trans (nI_add i2 1)
            refine lv_istore (lv' := [(4, .int (nI (i2 + 1))), (6, .int (nI i2)), (5, .int (nI (i3 + 1))), (10, .int w10), (9, .int (nI i3)), (8, .int (nI i2)), (7, .int (nI kv)), (0, .ref h0), (1, .int (nI jf))]) hx hb dX15_fieldsPlain_337 hl (by decide) rfl (fun ls hl => ?_)
            refine lv_goto (tgt := 207) hx hb dX15_fieldsPlain_339 (by decide) ?_
            refine W.widen (k := 0) (n := 0) (by omega) (by omega) ?_
            exact ih_218 ((i2 + 1), (nI (i3 + 1)), (nI i2)) F_264 (⟨by omega, hx3b⟩) (by show 1282 - (i2 + 1) < 1282 - j2; omega) hO hR _ _ hP hD hS ls (lv_sub hl [6, 1, 2, 0, 7, 8] rfl)
        ·
          have hi_289 : i3 < i2 := ltN (N := i2) c_283
          refine lv_aload_n hx hb dX15_fieldsPlain_257 rfl (lv_at hl 7 rfl) ?_
          refine pg_get (ci := 15) (v := .ref ml) (C := RX15) (T := TX15) (N := 59) hx hb hts it_15 hown hK hP hL_h0 hF_280 rfl 23 (by decide) (hts _ kt_902) (fun _ h9 => h9) rfl dX15_fieldsPlain_258 ?_
          refine lv_iload hx hb dX15_fieldsPlain_261 (lv_at hl 1 rfl) ?_
          obtain ⟨hq_290, hq_291⟩ := hW.octs hi_24 ht_25
          obtain ⟨f_292, hF_293, hq_294⟩ := hO.octs hi_24 ht_25
          refine pg_bald hx hb hK hP hi_24 1 hF_293 rfl (vp_in_nI (by omega) (by omega)) dX15_fieldsPlain_263 ?_
          refine lv_topi (fun x_295 ex_295 => ?_)
          obtain rfl : x_295 = f_292 i3 := ex_295.trans (congrArg f_292 (show ((nI i3) : Int32).toNatClampNeg = i3 from nI_clamp (by omega)))
          refine lv_bipush (v := 61) hx hb dX15_fieldsPlain_264 (by decide) ?_
          refine lv_icmp_eq (tgt := 316) hx hb dX15_fieldsPlain_266 (by decide) (fun c_296 => ?_) (fun c_296 => ?_)
          ·
            refine lv_iload hx hb dX15_fieldsPlain_316 (lv_at hl 0 rfl) ?_
            refine lv_bipush (v := 98) hx hb dX15_fieldsPlain_318 (by decide) ?_
            refine lv_icmp_ne (tgt := 333) hx hb dX15_fieldsPlain_320 (by decide) (fun c_297 => ?_) (fun c_297 => ?_)
            ·
              refine lv_iload hx hb dX15_fieldsPlain_333 (lv_at hl 2 rfl) ?_
              refine lv_iconst (v := 1) hx hb dX15_fieldsPlain_335 (by decide) ?_
              refine lv_iadd hx hb dX15_fieldsPlain_336 ?_
              refine lv_topi (fun x_298 ex_298 => ?_)
              obtain rfl : x_298 = (nI (i2 + 1)) := ex_298.trans (nI_add i2 1)
              refine lv_istore (lv' := [(4, .int (nI (i2 + 1))), (10, .int w10), (9, .int (nI i3)), (8, .int (nI i2)), (7, .int (nI kv)), (6, .int w6), (5, .int w5), (0, .ref h0), (1, .int (nI jf))]) hx hb dX15_fieldsPlain_337 hl (by decide) rfl (fun ls hl => ?_)
              refine lv_goto (tgt := 207) hx hb dX15_fieldsPlain_339 (by decide) ?_
              refine W.widen (k := 0) (n := 0) (by omega) (by omega) ?_
              exact ih_218 ((i2 + 1), w5, w6) F_264 (⟨by omega, hx3b⟩) (by show 1282 - (i2 + 1) < 1282 - j2; omega) hO hR _ _ hP hD hS ls (lv_sub hl [4, 5, 6, 0, 7, 8] rfl)
            ·
              refine lv_iload hx hb dX15_fieldsPlain_323 (lv_at hl 1 rfl) ?_
              refine lv_iconst (v := 1) hx hb dX15_fieldsPlain_325 (by decide) ?_
              refine lv_iadd hx hb dX15_fieldsPlain_326 ?_
              refine lv_topi (fun x_299 ex_299 => ?_)
              obtain rfl : x_299 = (nI (i3 + 1)) := ex_299.trans (nI_add i3 1)
              refine lv_istore (lv' := [(5, .int (nI (i3 + 1))), (10, .int w10), (9, .int (nI i3)), (8, .int (nI i2)), (7, .int (nI kv)), (6, .int w6), (4, .int (nI j2)), (0, .ref h0), (1, .int (nI jf))]) hx hb dX15_fieldsPlain_327 hl (by decide) rfl (fun ls hl => ?_)
              refine lv_iload hx hb dX15_fieldsPlain_329 (lv_at hl 3 rfl) ?_
              refine lv_istore (lv' := [(6, .int (nI i2)), (5, .int (nI (i3 + 1))), (10, .int w10), (9, .int (nI i3)), (8, .int (nI i2)), (7, .int (nI kv)), (4, .int (nI j2)), (0, .ref h0), (1, .int (nI jf))]) hx hb dX15_fieldsPlain_331 hl (by decide) rfl (fun ls hl => ?_)
              refine lv_iload hx hb dX15_fieldsPlain_333 (lv_at hl 4 rfl) ?_
              refine lv_iconst (v := 1) hx hb dX15_fieldsPlain_335 (by decide) ?_
              refine lv_iadd hx hb dX15_fieldsPlain_336 ?_
              refine lv_topi (fun x_300 ex_300 => ?_)
              obtain rfl : x_300 = (nI (i2 + 1)) := ex_300.trans (nI_add i2 1)
              refine lv_istore (lv' := [(4, .int (nI (i2 + 1))), (6, .int (nI i2)), (5, .int (nI (i3 + 1))), (10, .int w10), (9, .int (nI i3)), (8, .int (nI i2)), (7, .int (nI kv)), (0, .ref h0), (1, .int (nI jf))]) hx hb dX15_fieldsPlain_337 hl (by decide) rfl (fun ls hl => ?_)
              refine lv_goto (tgt := 207) hx hb dX15_fieldsPlain_339 (by decide) ?_
              refine W.widen (k := 0) (n := 0) (by omega) (by omega) ?_
              exact ih_218 ((i2 + 1), (nI (i3 + 1)), (nI i2)) F_264 (⟨by omega, hx3b⟩) (by show 1282 - (i2 + 1) < 1282 - j2; omega) hO hR _ _ hP hD hS ls (lv_sub hl [6, 1, 2, 0, 7, 8] rfl)
          ·
            refine lv_aload_n hx hb dX15_fieldsPlain_269 rfl (lv_at hl 7 rfl) ?_
            refine pg_get (ci := 15) (v := .ref ml) (C := RX15) (T := TX15) (N := 59) hx hb hts it_15 hown hK hP hL_h0 hF_280 rfl 23 (by decide) (hts _ kt_902) (fun _ h9 => h9) rfl dX15_fieldsPlain_270 ?_
            refine lv_iload hx hb dX15_fieldsPlain_273 (lv_at hl 1 rfl) ?_
            refine pg_bald hx hb hK hP hi_24 1 hF_293 rfl (vp_in_nI (by omega) (by omega)) dX15_fieldsPlain_275 ?_
            refine lv_topi (fun x_301 ex_301 => ?_)
            obtain rfl : x_301 = f_292 i3 := ex_301.trans (congrArg f_292 (show ((nI i3) : Int32).toNatClampNeg = i3 from nI_clamp (by omega)))
            have hFc := pg_free hD hS hA
            refine va_calli (va_runS (As := [.int (f_292 i3)]) (rest := []) ⟨hx, hb, hml, hown, hts⟩ (s_X15_isWhite l dC dI cs ty gm L H.size F_264 (f_292 i3) hW ) ⟨callB_of 1 hts (gi kt_715) rfl rfl rfl (hts _ kt_669) (hts _ kt_716) (by decide +kernel) ⟨Nat.le_of_ble_eq_true rfl, Nat.le_of_ble_eq_true rfl⟩, (hts _ kt_717)⟩ ⟨fun a U g mk q => ⟨q.1, PTm.calling q.2⟩, fun U hU hWm => ⟨rfl, PTm.mk hU hWm hP hK hD hE hO⟩⟩ rfl rfl hl.1 rfl (lv_room (Nat.le_of_ble_eq_true rfl)) dX15_fieldsPlain_276 ⟨by show _ + 0 ≤ 0; omega, by show _ + 0 ≤ 0; omega⟩) hS (fun q _ h => hFc q h) hFc (fun r_302 u t H1 locs ht hvm hw hB hz1 hk1 hS => ?_)
            obtain ⟨F_303, hB1⟩ := hB
            obtain rfl : F_264 = F_303 := (funext (fun a => hB1.2.2.2 a List.not_mem_nil)).symm
            obtain ⟨hP, hD, hO, hR⟩ := QTm.back hB1 ht hFc hR (fun q h => absurd h List.not_mem_nil)
            generalize H1 = H at hP hS ⊢
            have hw : (r_302 = 0 ∨ r_302 = 1) := hw
            have hw_304 := hw
            refine lv_if_ne (tgt := 310) hx hb dX15_fieldsPlain_279 (by decide) (fun c_305 => ?_) (fun c_305 => ?_)
            ·
              refine lv_iinc (v := (nI (i3 + 1))) (lv' := [(9, .int (nI (i3 + 1))), (10, .int w10), (8, .int (nI i2)), (7, .int (nI kv)), (6, .int w6), (5, .int w5), (4, .int (nI j2)), (0, .ref h0), (1, .int (nI jf))]) hx hb dX15_fieldsPlain_310 hl (k := 1) rfl (nI_1 _) (by decide) rfl (fun ls hl => ?_)
              refine lv_goto (tgt := 250) hx hb dX15_fieldsPlain_313 (by decide) ?_
              refine W.widen (k := 0) (n := 0) (by omega) (by omega) ?_
              exact ih_274 ((i3 + 1), w10) F_264 (⟨⟨by omega, by omega⟩, hx3b⟩) (by show i2 - (i3 + 1) < i2 - i3; omega) hO hR _ _ hP hD hS ls (lv_sub hl [1, 0, 2, 3, 4, 5, 6, 7, 8] rfl)
            ·
              refine lv_aload_n hx hb dX15_fieldsPlain_282 rfl (lv_at hl 7 rfl) ?_
              refine pg_get (ci := 15) (v := .ref ml) (C := RX15) (T := TX15) (N := 59) hx hb hts it_15 hown hK hP hL_h0 hF_280 rfl 23 (by decide) (hts _ kt_902) (fun _ h9 => h9) rfl dX15_fieldsPlain_283 ?_
              refine lv_iload hx hb dX15_fieldsPlain_286 (lv_at hl 1 rfl) ?_
              refine pg_bald hx hb hK hP hi_24 1 hF_293 rfl (vp_in_nI (by omega) (by omega)) dX15_fieldsPlain_288 ?_
              refine lv_topi (fun x_306 ex_306 => ?_)
              obtain rfl : x_306 = f_292 i3 := ex_306.trans (congrArg f_292 (show ((nI i3) : Int32).toNatClampNeg = i3 from nI_clamp (by omega)))
              refine lv_bipush (v := 10) hx hb dX15_fieldsPlain_289 (by decide) ?_
              refine lv_icmp_eq (tgt := 310) hx hb dX15_fieldsPlain_291 (by decide) (fun c_307 => ?_) (fun c_307 => ?_)
              ·
                refine lv_iinc (v := (nI (i3 + 1))) (lv' := [(9, .int (nI (i3 + 1))), (10, .int w10), (8, .int (nI i2)), (7, .int (nI kv)), (6, .int w6), (5, .int w5), (4, .int (nI j2)), (0, .ref h0), (1, .int (nI jf))]) hx hb dX15_fieldsPlain_310 hl (k := 1) rfl (nI_1 _) (by decide) rfl (fun ls hl => ?_)
                refine lv_goto (tgt := 250) hx hb dX15_fieldsPlain_313 (by decide) ?_
                refine W.widen (k := 0) (n := 0) (by omega) (by omega) ?_
                exact ih_274 ((i3 + 1), w10) F_264 (⟨⟨by omega, by omega⟩, hx3b⟩) (by show i2 - (i3 + 1) < i2 - i3; omega) hO hR _ _ hP hD hS ls (lv_sub hl [1, 0, 2, 3, 4, 5, 6, 7, 8] rfl)
              ·
                refine lv_sipush (v := 256) hx hb dX15_fieldsPlain_294 (by decide) ?_
                refine lv_iload hx hb dX15_fieldsPlain_297 (lv_at hl 0 rfl) ?_
                refine lv_imul hx hb dX15_fieldsPlain_299 ?_
                refine lv_topi (fun x_308 ex_308 => ?_)
                refine lv_aload_n hx hb dX15_fieldsPlain_300 rfl (lv_at hl 7 rfl) ?_
                refine pg_get (ci := 15) (v := .ref ml) (C := RX15) (T := TX15) (N := 59) hx hb hts it_15 hown hK hP hL_h0 hF_280 rfl 23 (by decide) (hts _ kt_902) (fun _ h9 => h9) rfl dX15_fieldsPlain_301 ?_
                refine lv_iload hx hb dX15_fieldsPlain_304 (lv_at hl 1 rfl) ?_
                refine pg_bald hx hb hK hP hi_24 1 hF_293 rfl (vp_in_nI (by omega) (by omega)) dX15_fieldsPlain_306 ?_
                refine lv_topi (fun x_309 ex_309 => ?_)
                obtain rfl : x_309 = f_292 i3 := ex_309.trans (congrArg f_292 (show ((nI i3) : Int32).toNatClampNeg = i3 from nI_clamp (by omega)))
                refine lv_iadd hx hb dX15_fieldsPlain_307 ?_
                refine lv_topi (fun x_310 ex_310 => ?_)
                refine lv_istore (lv' := [(10, .int x_310), (9, .int (nI i3)), (8, .int (nI i2)), (7, .int (nI kv)), (6, .int w6), (5, .int w5), (4, .int (nI j2)), (0, .ref h0), (1, .int (nI jf))]) hx hb dX15_fieldsPlain_308 hl (by decide) rfl (fun ls hl => ?_)
                refine lv_iinc (v := (nI (i3 + 1))) (lv' := [(9, .int (nI (i3 + 1))), (10, .int x_310), (8, .int (nI i2)), (7, .int (nI kv)), (6, .int w6), (5, .int w5), (4, .int (nI j2)), (0, .ref h0), (1, .int (nI jf))]) hx hb dX15_fieldsPlain_310 hl (k := 1) rfl (nI_1 _) (by decide) rfl (fun ls hl => ?_)
                refine lv_goto (tgt := 250) hx hb dX15_fieldsPlain_313 (by decide) ?_
                refine W.widen (k := 0) (n := 0) (by omega) (by omega) ?_
                exact ih_274 ((i3 + 1), x_310) F_264 (⟨⟨by omega, by omega⟩, hx3b⟩) (by show i2 - (i3 + 1) < i2 - i3; omega) hO hR _ _ hP hD hS ls (lv_sub hl [1, 0, 2, 3, 4, 5, 6, 7, 8] rfl)
      ·
        have hi_311 : i2 < kv := ltN (N := kv) c_262
        refine lv_aload_n hx hb dX15_fieldsPlain_232 rfl (lv_at hl 7 rfl) ?_
        refine pg_get (ci := 15) (v := .ref ml) (C := RX15) (T := TX15) (N := 59) hx hb hts it_15 hown hK hP hL_h0 hF_259 rfl 23 (by decide) (hts _ kt_902) (fun _ h9 => h9) rfl dX15_fieldsPlain_233 ?_
        refine lv_iload hx hb dX15_fieldsPlain_236 (lv_at hl 2 rfl) ?_
        obtain ⟨hq_312, hq_313⟩ := hW.octs hi_24 ht_25
        obtain ⟨f_314, hF_315, hq_316⟩ := hO.octs hi_24 ht_25
        refine pg_bald hx hb hK hP hi_24 1 hF_315 rfl (vp_in_nI (by omega) (by omega)) dX15_fieldsPlain_238 ?_
        refine lv_topi (fun x_317 ex_317 => ?_)
        obtain rfl : x_317 = f_314 i2 := ex_317.trans (congrArg f_314 (show ((nI i2) : Int32).toNatClampNeg = i2 from nI_clamp (by omega)))
        refine lv_bipush (v := 59) hx hb dX15_fieldsPlain_239 (by decide) ?_
        refine lv_icmp_eq (tgt := 250) hx hb dX15_fieldsPlain_241 (by decide) (fun c_318 => ?_) (fun c_318 => ?_)
        ·
          refine W.widen (k := 0) (n := 0) (by omega) (by omega) ?_
          have hF_320 : F sb = .inl (cs 17, 3000, .inl eb) := (hR sb (by rw [ht_112]; simp)).symm.trans hF_254
          have hF_321 : F s0 = .inl (cs 16, 40, .inl e0) := (hR s0 (by rw [ht_106]; simp)).symm.trans hF_255
          have hF_322 : F s1 = .inl (cs 16, 40, .inl e1) := (hR s1 (by rw [ht_107]; simp)).symm.trans hF_256
          have hF_323 : F s2 = .inl (cs 16, 40, .inl e2) := (hR s2 (by rw [ht_108]; simp)).symm.trans hF_257
          have hF_324 : F se = .inr (13, [.ref sx, .ref s0, .ref s1, .ref s2, .int (nI zs)]) := (hR se (by rw [ht_39]; simp)).symm.trans hF_258
          have hF_325 : F h0 = .inr (15, (.ref ta) :: (.int (nI zt)) :: (.int (nI zo_117)) :: (.int (nI ze_118)) :: (.ref ou) :: (.ref so) :: (.ref ad) :: (.ref na) :: (.ref va) :: (.ref lc) :: (.ref dm) :: (.int v11_119) :: (.int v12_120) :: (.ref tg) :: (.int v14_121) :: (.int v15_122) :: (.ref pe) :: (.int v17_123) :: (.int v18_124) :: (.int v19_125) :: (.int v20_126) :: (.int v21_127) :: (.int v22_128) :: (.ref ml) :: (.ref bg) :: (.ref co) :: (.ref sp) :: (.ref nb0) :: (.ref nb1) :: (.ref nb2) :: (.int (nI nf)) :: (.int (nI bd)) :: (.int (nI mm)) :: (.int v33_129) :: (.ref pl) :: (.ref se) :: (.ref ke) :: (.ref wi) :: (.ref hs) :: (.ref mo) :: (.ref po) :: (.ref nu) :: (.ref pr) :: (.ref sq) :: (.ref xa) :: (.ref sa) :: (.ref n64) :: (.ref m64) :: (.ref ex) :: (.ref wh) :: (.ref sd) :: (.ref tk) :: (.int v52_130) :: (.int v53_131) :: (.int v54_132) :: (.ref hd) :: (.ref ak) :: (.ref ho) :: (.ref ot) :: []) := (hR h0 (by rw [hT_h0]; simp)).symm.trans hF_259
          have hF_326 : F sx = .inr (14, [.ref sb, .int (nI z_167)]) := (hR sx (by rw [hT_sx]; simp)).symm.trans hF_260
          have hF_327 : F co = .inl (cs 16, 21, .inl f_200) := (hR co (by rw [ht_29]; simp)).symm.trans hF_261
          have hF_328 : F ml = .inl (cs 17, 3000, .inl f_314) := (hR ml (by rw [ht_25]; simp)).symm.trans hF_315
          refine pl_loopm (σ := Nat × Int32) A (dC, dI) cs ty gm L [ρ + 10, ρ + 26] F 250 11 (fun (i3, w10) => [(10, .int w10), (9, .int (nI i3)), (8, .int (nI i2)), (7, .int (nI kv)), (6, .int w6), (5, .int w5), (4, .int (nI j2)), (0, .ref h0), (1, .int (nI jf))]) (fun (i3, w10) => []) (fun (i3, w10) FF => (j2 ≤ i3 ∧ i3 ≤ i2) ∧ FF pl = .inr (14, [.ref rl, .int (nI zz)])) (fun (i3, w10) => i2 - i3) ?_ (j2, 0) F_243 (⟨⟨by omega, by omega⟩, hx2b⟩) hO hR _ _ hP hD hS ls (lv_sub hl [0, 1, 2, 3, 4, 5, 6, 7, 8] rfl)
          rintro ⟨i3, w10⟩ F_319 hv_329 hO hR ih_330 H locs hP hD hS ls hl
          have hl : lv_has ls 11 [(10, .int w10), (9, .int (nI i3)), (8, .int (nI i2)), (7, .int (nI kv)), (6, .int w6), (5, .int w5), (4, .int (nI j2)), (0, .ref h0), (1, .int (nI jf))] := hl
          have hv_329 : (j2 ≤ i3 ∧ i3 ≤ i2) ∧ F_319 pl = .inr (14, [.ref rl, .int (nI zz)]) := hv_329
          refine W.eq (g2 := F0 m 250 ls []) rfl ?_
          have hF_331 : F_319 sb = .inl (cs 17, 3000, .inl eb) := (hR sb (by rw [ht_112]; simp)).trans hF_320
          have hF_332 : F_319 s0 = .inl (cs 16, 40, .inl e0) := (hR s0 (by rw [ht_106]; simp)).trans hF_321
          have hF_333 : F_319 s1 = .inl (cs 16, 40, .inl e1) := (hR s1 (by rw [ht_107]; simp)).trans hF_322
          have hF_334 : F_319 s2 = .inl (cs 16, 40, .inl e2) := (hR s2 (by rw [ht_108]; simp)).trans hF_323
          have hF_335 : F_319 se = .inr (13, [.ref sx, .ref s0, .ref s1, .ref s2, .int (nI zs)]) := (hR se (by rw [ht_39]; simp)).trans hF_324
          have hF_336 : F_319 h0 = .inr (15, (.ref ta) :: (.int (nI zt)) :: (.int (nI zo_117)) :: (.int (nI ze_118)) :: (.ref ou) :: (.ref so) :: (.ref ad) :: (.ref na) :: (.ref va) :: (.ref lc) :: (.ref dm) :: (.int v11_119) :: (.int v12_120) :: (.ref tg) :: (.int v14_121) :: (.int v15_122) :: (.ref pe) :: (.int v17_123) :: (.int v18_124) :: (.int v19_125) :: (.int v20_126) :: (.int v21_127) :: (.int v22_128) :: (.ref ml) :: (.ref bg) :: (.ref co) :: (.ref sp) :: (.ref nb0) :: (.ref nb1) :: (.ref nb2) :: (.int (nI nf)) :: (.int (nI bd)) :: (.int (nI mm)) :: (.int v33_129) :: (.ref pl) :: (.ref se) :: (.ref ke) :: (.ref wi) :: (.ref hs) :: (.ref mo) :: (.ref po) :: (.ref nu) :: (.ref pr) :: (.ref sq) :: (.ref xa) :: (.ref sa) :: (.ref n64) :: (.ref m64) :: (.ref ex) :: (.ref wh) :: (.ref sd) :: (.ref tk) :: (.int v52_130) :: (.int v53_131) :: (.int v54_132) :: (.ref hd) :: (.ref ak) :: (.ref ho) :: (.ref ot) :: []) := (hR h0 (by rw [hT_h0]; simp)).trans hF_325
          have hF_337 : F_319 sx = .inr (14, [.ref sb, .int (nI z_167)]) := (hR sx (by rw [hT_sx]; simp)).trans hF_326
          have hF_338 : F_319 co = .inl (cs 16, 21, .inl f_200) := (hR co (by rw [ht_29]; simp)).trans hF_327
          have hF_339 : F_319 ml = .inl (cs 17, 3000, .inl f_314) := (hR ml (by rw [ht_25]; simp)).trans hF_328
          obtain ⟨hx3a, hx3b⟩ := hv_329
          refine lv_iload hx hb dX15_fieldsPlain_250 (lv_at hl 1 rfl) ?_
          refine lv_iload hx hb dX15_fieldsPlain_252 (lv_at hl 2 rfl) ?_
          refine lv_icmp_ge (tgt := 316) hx hb dX15_fieldsPlain_254 (by decide) (fun c_340 => ?_) (fun c_340 => ?_)
          ·
            have hi_341 : i2 ≤ i3 := leN (N := i2) c_340
            refine lv_iload hx hb dX15_fieldsPlain_316 (lv_at hl 0 rfl) ?_
            refine lv_bipush (v := 98) hx hb dX15_fieldsPlain_318 (by decide) ?_
            refine lv_icmp_ne (tgt := 333) hx hb dX15_fieldsPlain_320 (by decide) (fun c_342 => ?_) (fun c_342 => ?_)
            ·
              refine lv_iload hx hb dX15_fieldsPlain_333 (lv_at hl 2 rfl) ?_
              refine lv_iconst (v := 1) hx hb dX15_fieldsPlain_335 (by decide) ?_
              refine lv_iadd hx hb dX15_fieldsPlain_336 ?_
              refine lv_topi (fun x_343 ex_343 => ?_)
              obtain rfl : x_343 = (nI (i2 + 1)) := ex_343.trans (nI_add i2 1)
              refine lv_istore (lv' := [(4, .int (nI (i2 + 1))), (10, .int w10), (9, .int (nI i3)), (8, .int (nI i2)), (7, .int (nI kv)), (6, .int w6), (5, .int w5), (0, .ref h0), (1, .int (nI jf))]) hx hb dX15_fieldsPlain_337 hl (by decide) rfl (fun ls hl => ?_)
              refine lv_goto (tgt := 207) hx hb dX15_fieldsPlain_339 (by decide) ?_
              refine W.widen (k := 0) (n := 0) (by omega) (by omega) ?_
              exact ih_218 ((i2 + 1), w5, w6) F_319 (⟨by omega, hx3b⟩) (by show 1282 - (i2 + 1) < 1282 - j2; omega) hO hR _ _ hP hD hS ls (lv_sub hl [4, 5, 6, 0, 7, 8] rfl)
            ·
              refine lv_iload hx hb dX15_fieldsPlain_323 (lv_at hl 1 rfl) ?_
              refine lv_iconst (v := 1) hx hb dX15_fieldsPlain_325 (by decide) ?_
              refine lv_iadd hx hb dX15_fieldsPlain_326 ?_
              refine lv_topi (fun x_344 ex_344 => ?_)
              obtain rfl : x_344 = (nI (i3 + 1)) := ex_344.trans (nI_add i3 1)
              refine lv_istore (lv' := [(5, .int (nI (i3 + 1))), (10, .int w10), (9, .int (nI i3)), (8, .int (nI i2)), (7, .int (nI kv)), (6, .int w6), (4, .int (nI j2)), (0, .ref h0), (1, .int (nI jf))]) hx hb dX15_fieldsPlain_327 hl (by decide) rfl (fun ls hl => ?_)
              refine lv_iload hx hb dX15_fieldsPlain_329 (lv_at hl 3 rfl) ?_
              refine lv_istore (lv' := [(6, .int (nI i2)), (5, .int (nI (i3 + 1))), (10, .int w10), (9, .int (nI i3)), (8, .int (nI i2)), (7, .int (nI kv)), (4, .int (nI j2)), (0, .ref h0), (1, .int (nI jf))]) hx hb dX15_fieldsPlain_331 hl (by decide) rfl (fun ls hl => ?_)
              refine lv_iload hx hb dX15_fieldsPlain_333 (lv_at hl 4 rfl) ?_
              refine lv_iconst (v := 1) hx hb dX15_fieldsPlain_335 (by decide) ?_
              refine lv_iadd hx hb dX15_fieldsPlain_336 ?_
              refine lv_topi (fun x_345 ex_345 => ?_)
              obtain rfl : x_345 = (nI (i2 + 1)) := ex_345.trans (nI_add i2 1)
              refine lv_istore (lv' := [(4, .int (nI (i2 + 1))), (6, .int (nI i2)), (5, .int (nI (i3 + 1))), (10, .int w10), (9, .int (nI i3)), (8, .int (nI i2)), (7, .int (nI kv)), (0, .ref h0), (1, .int (nI jf))]) hx hb dX15_fieldsPlain_337 hl (by decide) rfl (fun ls hl => ?_)
              refine lv_goto (tgt := 207) hx hb dX15_fieldsPlain_339 (by decide) ?_
              refine W.widen (k := 0) (n := 0) (by omega) (by omega) ?_
              exact ih_218 ((i2 + 1), (nI (i3 + 1)), (nI i2)) F_319 (⟨by omega, hx3b⟩) (by show 1282 - (i2 + 1) < 1282 - j2; omega) hO hR _ _ hP hD hS ls (lv_sub hl [6, 1, 2, 0, 7, 8] rfl)
          ·
            have hi_346 : i3 < i2 := ltN (N := i2) c_340
            refine lv_aload_n hx hb dX15_fieldsPlain_257 rfl (lv_at hl 7 rfl) ?_
            refine pg_get (ci := 15) (v := .ref ml) (C := RX15) (T := TX15) (N := 59) hx hb hts it_15 hown hK hP hL_h0 hF_336 rfl 23 (by decide) (hts _ kt_902) (fun _ h9 => h9) rfl dX15_fieldsPlain_258 ?_
            refine lv_iload hx hb dX15_fieldsPlain_261 (lv_at hl 1 rfl) ?_
            refine pg_bald hx hb hK hP hi_24 1 hF_339 rfl (vp_in_nI (by omega) (by omega)) dX15_fieldsPlain_263 ?_
            refine lv_topi (fun x_347 ex_347 => ?_)
            obtain rfl : x_347 = f_314 i3 := ex_347.trans (congrArg f_314 (show ((nI i3) : Int32).toNatClampNeg = i3 from nI_clamp (by omega)))
            refine lv_bipush (v := 61) hx hb dX15_fieldsPlain_264 (by decide) ?_
            refine lv_icmp_eq (tgt := 316) hx hb dX15_fieldsPlain_266 (by decide) (fun c_348 => ?_) (fun c_348 => ?_)
            ·
              refine lv_iload hx hb dX15_fieldsPlain_316 (lv_at hl 0 rfl) ?_
              refine lv_bipush (v := 98) hx hb dX15_fieldsPlain_318 (by decide) ?_
              refine lv_icmp_ne (tgt := 333) hx hb dX15_fieldsPlain_320 (by decide) (fun c_349 => ?_) (fun c_349 => ?_)
              ·
                refine lv_iload hx hb dX15_fieldsPlain_333 (lv_at hl 2 rfl) ?_
                refine lv_iconst (v := 1) hx hb dX15_fieldsPlain_335 (by decide) ?_
                refine lv_iadd hx hb dX15_fieldsPlain_336 ?_
                refine lv_topi (fun x_350 ex_350 => ?_)
                obtain rfl : x_350 = (nI (i2 + 1)) := ex_350.trans (nI_add i2 1)
                refine lv_istore (lv' := [(4, .int (nI (i2 + 1))), (10, .int w10), (9, .int (nI i3)), (8, .int (nI i2)), (7, .int (nI kv)), (6, .int w6), (5, .int w5), (0, .ref h0), (1, .int (nI jf))]) hx hb dX15_fieldsPlain_337 hl (by decide) rfl (fun ls hl => ?_)
                refine lv_goto (tgt := 207) hx hb dX15_fieldsPlain_339 (by decide) ?_
                refine W.widen (k := 0) (n := 0) (by omega) (by omega) ?_
                exact ih_218 ((i2 + 1), w5, w6) F_319 (⟨by omega, hx3b⟩) (by show 1282 - (i2 + 1) < 1282 - j2; omega) hO hR _ _ hP hD hS ls (lv_sub hl [4, 5, 6, 0, 7, 8] rfl)
              ·
                refine lv_iload hx hb dX15_fieldsPlain_323 (lv_at hl 1 rfl) ?_
                refine lv_iconst (v := 1) hx hb dX15_fieldsPlain_325 (by decide) ?_
                refine lv_iadd hx hb dX15_fieldsPlain_326 ?_
                refine lv_topi (fun x_351 ex_351 => ?_)
                obtain rfl : x_351 = (nI (i3 + 1)) := ex_351.trans (nI_add i3 1)
                refine lv_istore (lv' := [(5, .int (nI (i3 + 1))), (10, .int w10), (9, .int (nI i3)), (8, .int (nI i2)), (7, .int (nI kv)), (6, .int w6), (4, .int (nI j2)), (0, .ref h0), (1, .int (nI jf))]) hx hb dX15_fieldsPlain_327 hl (by decide) rfl (fun ls hl => ?_)
                refine lv_iload hx hb dX15_fieldsPlain_329 (lv_at hl 3 rfl) ?_
                refine lv_istore (lv' := [(6, .int (nI i2)), (5, .int (nI (i3 + 1))), (10, .int w10), (9, .int (nI i3)), (8, .int (nI i2)), (7, .int (nI kv)), (4, .int (nI j2)), (0, .ref h0), (1, .int (nI jf))]) hx hb dX15_fieldsPlain_331 hl (by decide) rfl (fun ls hl => ?_)
                refine lv_iload hx hb dX15_fieldsPlain_333 (lv_at hl 4 rfl) ?_
                refine lv_iconst (v := 1) hx hb dX15_fieldsPlain_335 (by decide) ?_
                refine lv_iadd hx hb dX15_fieldsPlain_336 ?_
                refine lv_topi (fun x_352 ex_352 => ?_)
                obtain rfl : x_352 = (nI (i2 + 1)) := ex_352.trans (nI_add i2 1)
                refine lv_istore (lv' := [(4, .int (nI (i2 + 1))), (6, .int (nI i2)), (5, .int (nI (i3 + 1))), (10, .int w10), (9, .int (nI i3)), (8, .int (nI i2)), (7, .int (nI kv)), (0, .ref h0), (1, .int (nI jf))]) hx hb dX15_fieldsPlain_337 hl (by decide) rfl (fun ls hl => ?_)
                refine lv_goto (tgt := 207) hx hb dX15_fieldsPlain_339 (by decide) ?_
                refine W.widen (k := 0) (n := 0) (by omega) (by omega) ?_
                exact ih_218 ((i2 + 1), (nI (i3 + 1)), (nI i2)) F_319 (⟨by omega, hx3b⟩) (by show 1282 - (i2 + 1) < 1282 - j2; omega) hO hR _ _ hP hD hS ls (lv_sub hl [6, 1, 2, 0, 7, 8] rfl)
            ·
              refine lv_aload_n hx hb dX15_fieldsPlain_269 rfl (lv_at hl 7 rfl) ?_
              refine pg_get (ci := 15) (v := .ref ml) (C := RX15) (T := TX15) (N := 59) hx hb hts it_15 hown hK hP hL_h0 hF_336 rfl 23 (by decide) (hts _ kt_902) (fun _ h9 => h9) rfl dX15_fieldsPlain_270 ?_
              refine lv_iload hx hb dX15_fieldsPlain_273 (lv_at hl 1 rfl) ?_
              refine pg_bald hx hb hK hP hi_24 1 hF_339 rfl (vp_in_nI (by omega) (by omega)) dX15_fieldsPlain_275 ?_
              refine lv_topi (fun x_353 ex_353 => ?_)
              obtain rfl : x_353 = f_314 i3 := ex_353.trans (congrArg f_314 (show ((nI i3) : Int32).toNatClampNeg = i3 from nI_clamp (by omega)))
              have hFc := pg_free hD hS hA
              refine va_calli (va_runS (As := [.int (f_314 i3)]) (rest := []) ⟨hx, hb, hml, hown, hts⟩ (s_X15_isWhite l dC dI cs ty gm L H.size F_319 (f_314 i3) hW ) ⟨callB_of 1 hts (gi kt_715) rfl rfl rfl (hts _ kt_669) (hts _ kt_716) (by decide +kernel) ⟨Nat.le_of_ble_eq_true rfl, Nat.le_of_ble_eq_true rfl⟩, (hts _ kt_717)⟩ ⟨fun a U g mk q => ⟨q.1, PTm.calling q.2⟩, fun U hU hWm => ⟨rfl, PTm.mk hU hWm hP hK hD hE hO⟩⟩ rfl rfl hl.1 rfl (lv_room (Nat.le_of_ble_eq_true rfl)) dX15_fieldsPlain_276 ⟨by show _ + 0 ≤ 0; omega, by show _ + 0 ≤ 0; omega⟩) hS (fun q _ h => hFc q h) hFc (fun r_354 u t H1 locs ht hvm hw hB hz1 hk1 hS => ?_)
              obtain ⟨F_355, hB1⟩ := hB
              obtain rfl : F_319 = F_355 := (funext (fun a => hB1.2.2.2 a List.not_mem_nil)).symm
              obtain ⟨hP, hD, hO, hR⟩ := QTm.back hB1 ht hFc hR (fun q h => absurd h List.not_mem_nil)
              generalize H1 = H at hP hS ⊢
              have hw : (r_354 = 0 ∨ r_354 = 1) := hw
              have hw_356 := hw
              refine lv_if_ne (tgt := 310) hx hb dX15_fieldsPlain_279 (by decide) (fun c_357 => ?_) (fun c_357 => ?_)
              ·
                refine lv_iinc (v := (nI (i3 + 1))) (lv' := [(9, .int (nI (i3 + 1))), (10, .int w10), (8, .int (nI i2)), (7, .int (nI kv)), (6, .int w6), (5, .int w5), (4, .int (nI j2)), (0, .ref h0), (1, .int (nI jf))]) hx hb dX15_fieldsPlain_310 hl (k := 1) rfl (nI_1 _) (by decide) rfl (fun ls hl => ?_)
                refine lv_goto (tgt := 250) hx hb dX15_fieldsPlain_313 (by decide) ?_
                refine W.widen (k := 0) (n := 0) (by omega) (by omega) ?_
                exact ih_330 ((i3 + 1), w10) F_319 (⟨⟨by omega, by omega⟩, hx3b⟩) (by show i2 - (i3 + 1) < i2 - i3; omega) hO hR _ _ hP hD hS ls (lv_sub hl [1, 0, 2, 3, 4, 5, 6, 7, 8] rfl)
              ·
                refine lv_aload_n hx hb dX15_fieldsPlain_282 rfl (lv_at hl 7 rfl) ?_
                refine pg_get (ci := 15) (v := .ref ml) (C := RX15) (T := TX15) (N := 59) hx hb hts it_15 hown hK hP hL_h0 hF_336 rfl 23 (by decide) (hts _ kt_902) (fun _ h9 => h9) rfl dX15_fieldsPlain_283 ?_
                refine lv_iload hx hb dX15_fieldsPlain_286 (lv_at hl 1 rfl) ?_
                refine pg_bald hx hb hK hP hi_24 1 hF_339 rfl (vp_in_nI (by omega) (by omega)) dX15_fieldsPlain_288 ?_
                refine lv_topi (fun x_358 ex_358 => ?_)
                obtain rfl : x_358 = f_314 i3 := ex_358.trans (congrArg f_314 (show ((nI i3) : Int32).toNatClampNeg = i3 from nI_clamp (by omega)))
                refine lv_bipush (v := 10) hx hb dX15_fieldsPlain_289 (by decide) ?_
                refine lv_icmp_eq (tgt := 310) hx hb dX15_fieldsPlain_291 (by decide) (fun c_359 => ?_) (fun c_359 => ?_)
                ·
                  refine lv_iinc (v := (nI (i3 + 1))) (lv' := [(9, .int (nI (i3 + 1))), (10, .int w10), (8, .int (nI i2)), (7, .int (nI kv)), (6, .int w6), (5, .int w5), (4, .int (nI j2)), (0, .ref h0), (1, .int (nI jf))]) hx hb dX15_fieldsPlain_310 hl (k := 1) rfl (nI_1 _) (by decide) rfl (fun ls hl => ?_)
                  refine lv_goto (tgt := 250) hx hb dX15_fieldsPlain_313 (by decide) ?_
                  refine W.widen (k := 0) (n := 0) (by omega) (by omega) ?_
                  exact ih_330 ((i3 + 1), w10) F_319 (⟨⟨by omega, by omega⟩, hx3b⟩) (by show i2 - (i3 + 1) < i2 - i3; omega) hO hR _ _ hP hD hS ls (lv_sub hl [1, 0, 2, 3, 4, 5, 6, 7, 8] rfl)
                ·
                  refine lv_sipush (v := 256) hx hb dX15_fieldsPlain_294 (by decide) ?_
                  refine lv_iload hx hb dX15_fieldsPlain_297 (lv_at hl 0 rfl) ?_
                  refine lv_imul hx hb dX15_fieldsPlain_299 ?_
                  refine lv_topi (fun x_360 ex_360 => ?_)
                  refine lv_aload_n hx hb dX15_fieldsPlain_300 rfl (lv_at hl 7 rfl) ?_
                  refine pg_get (ci := 15) (v := .ref ml) (C := RX15) (T := TX15) (N := 59) hx hb hts it_15 hown hK hP hL_h0 hF_336 rfl 23 (by decide) (hts _ kt_902) (fun _ h9 => h9) rfl dX15_fieldsPlain_301 ?_
                  refine lv_iload hx hb dX15_fieldsPlain_304 (lv_at hl 1 rfl) ?_
                  refine pg_bald hx hb hK hP hi_24 1 hF_339 rfl (vp_in_nI (by omega) (by omega)) dX15_fieldsPlain_306 ?_
                  refine lv_topi (fun x_361 ex_361 => ?_)
                  obtain rfl : x_361 = f_314 i3 := ex_361.trans (congrArg f_314 (show ((nI i3) : Int32).toNatClampNeg = i3 from nI_clamp (by omega)))
                  refine lv_iadd hx hb dX15_fieldsPlain_307 ?_
                  refine lv_topi (fun x_362 ex_362 => ?_)
                  refine lv_istore (lv' := [(10, .int x_362), (9, .int (nI i3)), (8, .int (nI i2)), (7, .int (nI kv)), (6, .int w6), (5, .int w5), (4, .int (nI j2)), (0, .ref h0), (1, .int (nI jf))]) hx hb dX15_fieldsPlain_308 hl (by decide) rfl (fun ls hl => ?_)
                  refine lv_iinc (v := (nI (i3 + 1))) (lv' := [(9, .int (nI (i3 + 1))), (10, .int x_362), (8, .int (nI i2)), (7, .int (nI kv)), (6, .int w6), (5, .int w5), (4, .int (nI j2)), (0, .ref h0), (1, .int (nI jf))]) hx hb dX15_fieldsPlain_310 hl (k := 1) rfl (nI_1 _) (by decide) rfl (fun ls hl => ?_)
                  refine lv_goto (tgt := 250) hx hb dX15_fieldsPlain_313 (by decide) ?_
                  refine W.widen (k := 0) (n := 0) (by omega) (by omega) ?_
                  exact ih_330 ((i3 + 1), x_362) F_319 (⟨⟨by omega, by omega⟩, hx3b⟩) (by show i2 - (i3 + 1) < i2 - i3; omega) hO hR _ _ hP hD hS ls (lv_sub hl [1, 0, 2, 3, 4, 5, 6, 7, 8] rfl)
        ·
          refine lv_iinc (v := (nI (i2 + 1))) (lv' := [(8, .int (nI (i2 + 1))), (10, .int 0), (9, .int (nI j2)), (7, .int (nI kv)), (6, .int w6), (5, .int w5), (4, .int (nI j2)), (0, .ref h0), (1, .int (nI jf))]) hx hb dX15_fieldsPlain_244 hl (k := 2) rfl (nI_1 _) (by decide) rfl (fun ls hl => ?_)
          refine lv_goto (tgt := 225) hx hb dX15_fieldsPlain_247 (by decide) ?_
          refine W.widen (k := 0) (n := 0) (by omega) (by omega) ?_
          exact ih_253 (i2 + 1) F_243 (⟨⟨by omega, by omega⟩, hx2b⟩) (by show kv - (i2 + 1) < kv - i2; omega) hO hR _ _ hP hD hS ls (lv_sub hl [1, 2, 0, 3, 4, 5, 6, 7, 8] rfl)
  ·
    have hi_363 : j ≤ k_194 := Nat.not_lt.mp (fun q => c_198 ((nI_ltI (a := k_194) (b := j) (by omega) (by omega)).mpr q))
    refine lv_iload hx hb dX15_fieldsPlain_65 (lv_at hl 0 rfl) ?_
    refine lv_istore (lv' := [(5, .int (nI j)), (4, .int (nI j)), (3, .ref sb), (2, .int (nI kh)), (0, .ref h0), (1, .int (nI jf))]) hx hb dX15_fieldsPlain_67 hl (by decide) rfl (fun ls hl => ?_)
    refine W.widen (k := 0) (n := 0) (by omega) (by omega) ?_
    have hF_365 : F sb = .inl (cs 17, 3000, .inl eb) := (hR sb (by rw [ht_112]; simp)).symm.trans hF_186
    have hF_366 : F s0 = .inl (cs 16, 40, .inl e0) := (hR s0 (by rw [ht_106]; simp)).symm.trans hF_187
    have hF_367 : F s1 = .inl (cs 16, 40, .inl e1) := (hR s1 (by rw [ht_107]; simp)).symm.trans hF_188
    have hF_368 : F s2 = .inl (cs 16, 40, .inl e2) := (hR s2 (by rw [ht_108]; simp)).symm.trans hF_189
    have hF_369 : F se = .inr (13, [.ref sx, .ref s0, .ref s1, .ref s2, .int (nI zs)]) := (hR se (by rw [ht_39]; simp)).symm.trans hF_190
    have hF_370 : F h0 = .inr (15, (.ref ta) :: (.int (nI zt)) :: (.int (nI zo_117)) :: (.int (nI ze_118)) :: (.ref ou) :: (.ref so) :: (.ref ad) :: (.ref na) :: (.ref va) :: (.ref lc) :: (.ref dm) :: (.int v11_119) :: (.int v12_120) :: (.ref tg) :: (.int v14_121) :: (.int v15_122) :: (.ref pe) :: (.int v17_123) :: (.int v18_124) :: (.int v19_125) :: (.int v20_126) :: (.int v21_127) :: (.int v22_128) :: (.ref ml) :: (.ref bg) :: (.ref co) :: (.ref sp) :: (.ref nb0) :: (.ref nb1) :: (.ref nb2) :: (.int (nI nf)) :: (.int (nI bd)) :: (.int (nI mm)) :: (.int v33_129) :: (.ref pl) :: (.ref se) :: (.ref ke) :: (.ref wi) :: (.ref hs) :: (.ref mo) :: (.ref po) :: (.ref nu) :: (.ref pr) :: (.ref sq) :: (.ref xa) :: (.ref sa) :: (.ref n64) :: (.ref m64) :: (.ref ex) :: (.ref wh) :: (.ref sd) :: (.ref tk) :: (.int v52_130) :: (.int v53_131) :: (.int v54_132) :: (.ref hd) :: (.ref ak) :: (.ref ho) :: (.ref ot) :: []) := (hR h0 (by rw [hT_h0]; simp)).symm.trans hF_191
    have hF_371 : F sx = .inr (14, [.ref sb, .int (nI z_167)]) := (hR sx (by rw [hT_sx]; simp)).symm.trans hF_192
    refine pl_loopm (σ := Nat) A (dC, dI) cs ty gm L [ρ + 10, ρ + 26] F 69 11 (fun i => [(5, .int (nI i)), (4, .int (nI j)), (3, .ref sb), (2, .int (nI kh)), (0, .ref h0), (1, .int (nI jf))]) (fun i => []) (fun i FF => j ≤ i ∧ i ≤ 1281 ∧ FF pl = .inr (14, [.ref rl, .int (nI zz)]) ∧ FF tk = .inl (cs 18, 20, .inl ft)) (fun i => 1281 - i) ?_ j F_176 (⟨by omega, by omega, hp3, hp4⟩) hO hR _ _ hP hD hS ls (lv_sub hl [0, 1, 2, 3, 4, 5] rfl)
    rintro i F_364 hv_372 hO hR ih_373 H locs hP hD hS ls hl
    have hl : lv_has ls 11 [(5, .int (nI i)), (4, .int (nI j)), (3, .ref sb), (2, .int (nI kh)), (0, .ref h0), (1, .int (nI jf))] := hl
    have hv_372 : j ≤ i ∧ i ≤ 1281 ∧ F_364 pl = .inr (14, [.ref rl, .int (nI zz)]) ∧ F_364 tk = .inl (cs 18, 20, .inl ft) := hv_372
    refine W.eq (g2 := F0 m 69 ls []) rfl ?_
    have hF_374 : F_364 sb = .inl (cs 17, 3000, .inl eb) := (hR sb (by rw [ht_112]; simp)).trans hF_365
    have hF_375 : F_364 s0 = .inl (cs 16, 40, .inl e0) := (hR s0 (by rw [ht_106]; simp)).trans hF_366
    have hF_376 : F_364 s1 = .inl (cs 16, 40, .inl e1) := (hR s1 (by rw [ht_107]; simp)).trans hF_367
    have hF_377 : F_364 s2 = .inl (cs 16, 40, .inl e2) := (hR s2 (by rw [ht_108]; simp)).trans hF_368
    have hF_378 : F_364 se = .inr (13, [.ref sx, .ref s0, .ref s1, .ref s2, .int (nI zs)]) := (hR se (by rw [ht_39]; simp)).trans hF_369
    have hF_379 : F_364 h0 = .inr (15, (.ref ta) :: (.int (nI zt)) :: (.int (nI zo_117)) :: (.int (nI ze_118)) :: (.ref ou) :: (.ref so) :: (.ref ad) :: (.ref na) :: (.ref va) :: (.ref lc) :: (.ref dm) :: (.int v11_119) :: (.int v12_120) :: (.ref tg) :: (.int v14_121) :: (.int v15_122) :: (.ref pe) :: (.int v17_123) :: (.int v18_124) :: (.int v19_125) :: (.int v20_126) :: (.int v21_127) :: (.int v22_128) :: (.ref ml) :: (.ref bg) :: (.ref co) :: (.ref sp) :: (.ref nb0) :: (.ref nb1) :: (.ref nb2) :: (.int (nI nf)) :: (.int (nI bd)) :: (.int (nI mm)) :: (.int v33_129) :: (.ref pl) :: (.ref se) :: (.ref ke) :: (.ref wi) :: (.ref hs) :: (.ref mo) :: (.ref po) :: (.ref nu) :: (.ref pr) :: (.ref sq) :: (.ref xa) :: (.ref sa) :: (.ref n64) :: (.ref m64) :: (.ref ex) :: (.ref wh) :: (.ref sd) :: (.ref tk) :: (.int v52_130) :: (.int v53_131) :: (.int v54_132) :: (.ref hd) :: (.ref ak) :: (.ref ho) :: (.ref ot) :: []) := (hR h0 (by rw [hT_h0]; simp)).trans hF_370
    have hF_380 : F_364 sx = .inr (14, [.ref sb, .int (nI z_167)]) := (hR sx (by rw [hT_sx]; simp)).trans hF_371
    obtain ⟨hq1, hq2, hq3, hq4⟩ := hv_372
    refine lv_iload hx hb dX15_fieldsPlain_69 (lv_at hl 0 rfl) ?_
    refine lv_aload_n hx hb dX15_fieldsPlain_71 rfl (lv_at hl 4 rfl) ?_
    refine pg_get (ci := 15) (v := .ref se) (C := RX15) (T := TX15) (N := 59) hx hb hts it_15 hown hK hP hL_h0 hF_379 rfl 35 (by decide) (hts _ kt_862) (fun _ h9 => h9) rfl dX15_fieldsPlain_72 ?_
    refine pg_get (ci := 13) (v := .ref s2) (C := RX13) (T := TX13) (N := 5) hx hb hts it_13 hown hK hP hi_38 hF_378 rfl 3 (by decide) (hts _ kt_856) (fun _ h9 => h9) rfl dX15_fieldsPlain_75 ?_
    refine lv_iload_n hx hb dX15_fieldsPlain_78 rfl (lv_at hl 3 rfl) ?_
    refine pg_iald hx hb hK hP hi_105 0 hF_377 rfl (vp_in_nI (by omega) (by omega)) dX15_fieldsPlain_79 ?_
    refine lv_topi (fun x_381 ex_381 => ?_)
    obtain rfl : x_381 = nI k_194 := ex_381.trans ek_196
    refine lv_icmp_ge (tgt := 98) hx hb dX15_fieldsPlain_80 (by decide) (fun c_382 => ?_) (fun c_382 => ?_)
    ·
      have hi_383 : k_194 ≤ i := leN (N := k_194) c_382
      refine lv_aload_n hx hb dX15_fieldsPlain_98 rfl (lv_at hl 4 rfl) ?_
      refine pg_get (ci := 15) (v := .int (nI nf)) (C := RX15) (T := TX15) (N := 59) hx hb hts it_15 hown hK hP hL_h0 hF_379 rfl 30 (by decide) (hts _ kt_907) (fun _ h9 => h9) rfl dX15_fieldsPlain_99 ?_
      refine lv_iconst (v := 1) hx hb dX15_fieldsPlain_102 (by decide) ?_
      refine lv_isub hx hb dX15_fieldsPlain_103 ?_
      refine lv_topi (fun x_384 ex_384 => ?_)
      obtain rfl : x_384 = (nI nf - 1) := ex_384.trans (rfl)
      refine lv_istore (lv' := [(6, .int (nI nf - 1)), (5, .int (nI i)), (4, .int (nI j)), (3, .ref sb), (2, .int (nI kh)), (0, .ref h0), (1, .int (nI jf))]) hx hb dX15_fieldsPlain_104 hl (by decide) rfl (fun ls hl => ?_)
      refine W.widen (k := 0) (n := 0) (by omega) (by omega) ?_
      have hF_386 : F sb = .inl (cs 17, 3000, .inl eb) := (hR sb (by rw [ht_112]; simp)).symm.trans hF_374
      have hF_387 : F s0 = .inl (cs 16, 40, .inl e0) := (hR s0 (by rw [ht_106]; simp)).symm.trans hF_375
      have hF_388 : F s1 = .inl (cs 16, 40, .inl e1) := (hR s1 (by rw [ht_107]; simp)).symm.trans hF_376
      have hF_389 : F s2 = .inl (cs 16, 40, .inl e2) := (hR s2 (by rw [ht_108]; simp)).symm.trans hF_377
      have hF_390 : F se = .inr (13, [.ref sx, .ref s0, .ref s1, .ref s2, .int (nI zs)]) := (hR se (by rw [ht_39]; simp)).symm.trans hF_378
      have hF_391 : F h0 = .inr (15, (.ref ta) :: (.int (nI zt)) :: (.int (nI zo_117)) :: (.int (nI ze_118)) :: (.ref ou) :: (.ref so) :: (.ref ad) :: (.ref na) :: (.ref va) :: (.ref lc) :: (.ref dm) :: (.int v11_119) :: (.int v12_120) :: (.ref tg) :: (.int v14_121) :: (.int v15_122) :: (.ref pe) :: (.int v17_123) :: (.int v18_124) :: (.int v19_125) :: (.int v20_126) :: (.int v21_127) :: (.int v22_128) :: (.ref ml) :: (.ref bg) :: (.ref co) :: (.ref sp) :: (.ref nb0) :: (.ref nb1) :: (.ref nb2) :: (.int (nI nf)) :: (.int (nI bd)) :: (.int (nI mm)) :: (.int v33_129) :: (.ref pl) :: (.ref se) :: (.ref ke) :: (.ref wi) :: (.ref hs) :: (.ref mo) :: (.ref po) :: (.ref nu) :: (.ref pr) :: (.ref sq) :: (.ref xa) :: (.ref sa) :: (.ref n64) :: (.ref m64) :: (.ref ex) :: (.ref wh) :: (.ref sd) :: (.ref tk) :: (.int v52_130) :: (.int v53_131) :: (.int v54_132) :: (.ref hd) :: (.ref ak) :: (.ref ho) :: (.ref ot) :: []) := (hR h0 (by rw [hT_h0]; simp)).symm.trans hF_379
      have hF_392 : F sx = .inr (14, [.ref sb, .int (nI z_167)]) := (hR sx (by rw [hT_sx]; simp)).symm.trans hF_380
      refine pl_loopm (σ := Int32) A (dC, dI) cs ty gm L [ρ + 10, ρ + 26] F 106 11 (fun i1 => [(6, .int i1), (5, .int (nI i)), (4, .int (nI j)), (3, .ref sb), (2, .int (nI kh)), (0, .ref h0), (1, .int (nI jf))]) (fun i1 => []) (fun i1 FF => (∃ q : Nat, q ≤ nf ∧ i1 = nI q - 1) ∧ FF pl = .inr (14, [.ref rl, .int (nI zz)]) ∧ FF tk = .inl (cs 18, 20, .inl ft)) (fun i1 => (i1.toInt + 1).toNat) ?_ (nI nf - 1) F_364 (⟨⟨nf, Nat.le_refl _, rfl⟩, hq3, hq4⟩) hO hR _ _ hP hD hS ls (lv_sub hl [0, 1, 2, 3, 4, 5, 6] rfl)
      rintro i1 F_385 hv_393 hO hR ih_394 H locs hP hD hS ls hl
      have hl : lv_has ls 11 [(6, .int i1), (5, .int (nI i)), (4, .int (nI j)), (3, .ref sb), (2, .int (nI kh)), (0, .ref h0), (1, .int (nI jf))] := hl
      have hv_393 : (∃ q : Nat, q ≤ nf ∧ i1 = nI q - 1) ∧ F_385 pl = .inr (14, [.ref rl, .int (nI zz)]) ∧ F_385 tk = .inl (cs 18, 20, .inl ft) := hv_393
      refine W.eq (g2 := F0 m 106 ls []) rfl ?_
      have hF_395 : F_385 sb = .inl (cs 17, 3000, .inl eb) := (hR sb (by rw [ht_112]; simp)).trans hF_386
      have hF_396 : F_385 s0 = .inl (cs 16, 40, .inl e0) := (hR s0 (by rw [ht_106]; simp)).trans hF_387
      have hF_397 : F_385 s1 = .inl (cs 16, 40, .inl e1) := (hR s1 (by rw [ht_107]; simp)).trans hF_388
      have hF_398 : F_385 s2 = .inl (cs 16, 40, .inl e2) := (hR s2 (by rw [ht_108]; simp)).trans hF_389
      have hF_399 : F_385 se = .inr (13, [.ref sx, .ref s0, .ref s1, .ref s2, .int (nI zs)]) := (hR se (by rw [ht_39]; simp)).trans hF_390
      have hF_400 : F_385 h0 = .inr (15, (.ref ta) :: (.int (nI zt)) :: (.int (nI zo_117)) :: (.int (nI ze_118)) :: (.ref ou) :: (.ref so) :: (.ref ad) :: (.ref na) :: (.ref va) :: (.ref lc) :: (.ref dm) :: (.int v11_119) :: (.int v12_120) :: (.ref tg) :: (.int v14_121) :: (.int v15_122) :: (.ref pe) :: (.int v17_123) :: (.int v18_124) :: (.int v19_125) :: (.int v20_126) :: (.int v21_127) :: (.int v22_128) :: (.ref ml) :: (.ref bg) :: (.ref co) :: (.ref sp) :: (.ref nb0) :: (.ref nb1) :: (.ref nb2) :: (.int (nI nf)) :: (.int (nI bd)) :: (.int (nI mm)) :: (.int v33_129) :: (.ref pl) :: (.ref se) :: (.ref ke) :: (.ref wi) :: (.ref hs) :: (.ref mo) :: (.ref po) :: (.ref nu) :: (.ref pr) :: (.ref sq) :: (.ref xa) :: (.ref sa) :: (.ref n64) :: (.ref m64) :: (.ref ex) :: (.ref wh) :: (.ref sd) :: (.ref tk) :: (.int v52_130) :: (.int v53_131) :: (.int v54_132) :: (.ref hd) :: (.ref ak) :: (.ref ho) :: (.ref ot) :: []) := (hR h0 (by rw [hT_h0]; simp)).trans hF_391
      have hF_401 : F_385 sx = .inr (14, [.ref sb, .int (nI z_167)]) := (hR sx (by rw [hT_sx]; simp)).trans hF_392
      obtain ⟨hr1, hr2, hr3⟩ := hv_393
      refine lv_iload hx hb dX15_fieldsPlain_106 (lv_at hl 0 rfl) ?_
      refine lv_if_lt (tgt := 141) hx hb dX15_fieldsPlain_108 (by decide) (fun c_402 => ?_) (fun c_402 => ?_)
      ·
        refine lv_iload hx hb dX15_fieldsPlain_141 (lv_at hl 0 rfl) ?_
        refine lv_if_lt (tgt := 175) hx hb dX15_fieldsPlain_143 (by decide) (fun c_403 => ?_) (fun c_403 => absurd (c_402) c_403)
        refine lv_iload hx hb dX15_fieldsPlain_175 (lv_at hl 1 rfl) ?_
        refine lv_iconst (v := 1) hx hb dX15_fieldsPlain_177 (by decide) ?_
        refine lv_iadd hx hb dX15_fieldsPlain_178 ?_
        refine lv_topi (fun x_404 ex_404 => ?_)
        obtain rfl : x_404 = (nI (i + 1)) := ex_404.trans (nI_add i 1)
        refine lv_istore (lv' := [(4, .int (nI (i + 1))), (6, .int i1), (5, .int (nI i)), (3, .ref sb), (2, .int (nI kh)), (0, .ref h0), (1, .int (nI jf))]) hx hb dX15_fieldsPlain_179 hl (by decide) rfl (fun ls hl => ?_)
        refine lv_goto (tgt := 51) hx hb dX15_fieldsPlain_181 (by decide) ?_
        refine W.widen (k := 0) (n := 0) (by omega) (by omega) ?_
        exact ih_185 ((i + 1), zz, ft) F_385 (⟨by omega, by omega, hr2, hr3⟩) (by show 1282 - (i + 1) < 1282 - j; omega) hO hR _ _ hP hD hS ls (lv_sub hl [0, 3, 4, 5, 6] rfl)
      ·
        obtain ⟨k, hkn, rfl⟩ := dn_pos hr1 c_402
        have hok := hgO k hkn
        refine lv_aload_n hx hb dX15_fieldsPlain_111 rfl (lv_at hl 5 rfl) ?_
        refine pg_get (ci := 15) (v := .ref tk) (C := RX15) (T := TX15) (N := 59) hx hb hts it_15 hown hK hP hL_h0 hF_400 rfl 51 (by decide) (hts _ kt_958) (fun _ h9 => h9) rfl dX15_fieldsPlain_112 ?_
        refine lv_iload hx hb dX15_fieldsPlain_115 (lv_at hl 0 rfl) ?_
        refine pg_zald hx hb hK hP hi_85 2 hr3 rfl (vp_in_nI (by omega) (by omega)) dX15_fieldsPlain_117 ?_
        refine lv_topi (fun x_405 ex_405 => ?_)
        obtain rfl : x_405 = ft k := ex_405.trans (congrArg ft (show ((nI k) : Int32).toNatClampNeg = k from nI_clamp (by omega)))
        refine lv_if_ne (tgt := 135) hx hb dX15_fieldsPlain_118 (by decide) (fun c_406 => ?_) (fun c_406 => ?_)
        ·
          refine lv_iinc (v := (nI k + Int32.ofInt (-1))) (lv' := [(6, .int (nI k + Int32.ofInt (-1))), (5, .int (nI i)), (4, .int (nI j)), (3, .ref sb), (2, .int (nI kh)), (0, .ref h0), (1, .int (nI jf))]) hx hb dX15_fieldsPlain_135 hl (k := 0) rfl (rfl) (by decide) rfl (fun ls hl => ?_)
          refine lv_goto (tgt := 106) hx hb dX15_fieldsPlain_138 (by decide) ?_
          refine W.widen (k := 0) (n := 0) (by omega) (by omega) ?_
          exact ih_394 (nI k + Int32.ofInt (-1)) F_385 (⟨⟨k, by omega, dn_st k⟩, hr2, hr3⟩) (by show ((nI k + Int32.ofInt (-1)).toInt + 1).toNat < ((nI k).toInt + 1).toNat; exact dn_mu (by omega)) hO hR _ _ hP hD hS ls (lv_sub hl [0, 1, 2, 3, 4, 5, 6] rfl)
        ·
          have hft0 : ft k = 0 := c_406
          refine lv_aload_n hx hb dX15_fieldsPlain_121 rfl (lv_at hl 5 rfl) ?_
          refine lv_iload hx hb dX15_fieldsPlain_122 (lv_at hl 0 rfl) ?_
          refine lv_aload_n hx hb dX15_fieldsPlain_124 rfl (lv_at hl 3 rfl) ?_
          refine lv_iload hx hb dX15_fieldsPlain_125 (lv_at hl 2 rfl) ?_
          refine lv_iload hx hb dX15_fieldsPlain_127 (lv_at hl 1 rfl) ?_
          obtain ⟨hq_407, hq_408⟩ := hW.octs hi_111 ht_112
          have hFc := pg_free hD hS hA
          refine va_calli (va_runV (As := [.int (nI k), .ref sb, .int (nI j), .int (nI i)]) (rest := []) ⟨hx, hb, hml, hown, hts⟩ (s_X15_isAlikeTo l dC dI cs ty gm L H.size F_385 h0 ρ ta ou so ad na va lc dm tg pe ml bg co sp nb0 nb1 nb2 pl se ke wi hs mo po nu pr sq xa sa n64 m64 ex wh sd tk hd ak ho ot sx s0 s1 s2 nf bd mm zt sb (ρ + 12) 3000 k j i hW hL_h0 hT_h0 hi_111 ht_112 (by first | omega | assumption) (by first | omega | assumption) (by first | omega | assumption)) ⟨callB_of 4 hts (gi kt_962) rfl rfl rfl (hts _ kt_669) (hts _ kt_963) (by decide +kernel) ⟨Nat.le_of_ble_eq_true rfl, Nat.le_of_ble_eq_true rfl⟩, (hts _ kt_964), (hts _ kt_965)⟩ ⟨fun a U g mk q => ⟨q.1, PTm.calling q.2⟩, pg_recv hK hP hL_h0 hF_400 (q := (RX15, TX15, 59)) rfl, fun U hU hWm => ⟨rfl, PTm.mk hU hWm hP hK hD hE hO⟩⟩ rfl rfl hl.1 rfl (lv_room (Nat.le_of_ble_eq_true rfl)) dX15_fieldsPlain_129 ⟨by show _ + 0 ≤ 0; omega, by show _ + 0 ≤ 0; omega⟩) hS (fun q _ h => hFc q h) hFc (fun r_409 u t H1 locs ht hvm hw hB hz1 hk1 hS => ?_)
          obtain ⟨F_410, hB1⟩ := hB
          obtain rfl : F_385 = F_410 := (funext (fun a => hB1.2.2.2 a List.not_mem_nil)).symm
          obtain ⟨hP, hD, hO, hR⟩ := QTm.back hB1 ht hFc hR (fun q h => absurd h List.not_mem_nil)
          generalize H1 = H at hP hS ⊢
          have hw : (r_409 = 0 ∨ r_409 = 1) := hw
          have hw_411 := hw
          refine lv_if_ne (tgt := 141) hx hb dX15_fieldsPlain_132 (by decide) (fun c_412 => ?_) (fun c_412 => ?_)
          ·
            refine lv_iload hx hb dX15_fieldsPlain_141 (lv_at hl 0 rfl) ?_
            refine lv_if_lt (tgt := 175) hx hb dX15_fieldsPlain_143 (by decide) (fun c_413 => absurd c_413 (nI_pos (by omega))) (fun c_413 => ?_)
            refine lv_aload_n hx hb dX15_fieldsPlain_146 rfl (lv_at hl 5 rfl) ?_
            refine pg_get (ci := 15) (v := .ref tk) (C := RX15) (T := TX15) (N := 59) hx hb hts it_15 hown hK hP hL_h0 hF_400 rfl 51 (by decide) (hts _ kt_958) (fun _ h9 => h9) rfl dX15_fieldsPlain_147 ?_
            refine lv_iload hx hb dX15_fieldsPlain_150 (lv_at hl 0 rfl) ?_
            refine lv_iconst (v := 1) hx hb dX15_fieldsPlain_152 (by decide) ?_
            refine pg_zast hx hb hK hP hD hS hi_85 2 hr3 rfl (vp_in_nI (by omega) (by omega)) dX15_fieldsPlain_153 (fun H locs hP hD hS => ?_)
            obtain ⟨F_414, he_415, hP, hD, hO, hR⟩ : ∃ G, G = va_up F_385 tk (.inl (cs 18, 20, .inl (upd ft ((nI k)).toNatClampNeg (vp_nar .boolean (1))))) ∧ va_P (dC, dI) vwCl (va_pl L G) H ∧ va_D A (va_pl L G) ∧ OKm cs ty gm L G ∧ FR ty [ρ + 10, ρ + 26] F G := ⟨_, rfl, hP, hD, hO.up (shm.bits ht_86 ⟨_, rfl⟩), hR.up ht_86 (by simp)⟩
            have hF_416 : F_414 tk = .inl (cs 18, 20, .inl (upd ft ((nI k)).toNatClampNeg (vp_nar .boolean (1)))) := by rw [he_415]; exact up_self
            have hF_417 : F_414 sb = .inl (cs 17, 3000, .inl eb) := by rw [he_415, up_ne (ne_ty ht_112 ht_86 (by simp))]; exact hF_395
            have hF_418 : F_414 s0 = .inl (cs 16, 40, .inl e0) := by rw [he_415, up_ne (ne_ty ht_106 ht_86 (by simp))]; exact hF_396
            have hF_419 : F_414 s1 = .inl (cs 16, 40, .inl e1) := by rw [he_415, up_ne (ne_ty ht_107 ht_86 (by simp))]; exact hF_397
            have hF_420 : F_414 s2 = .inl (cs 16, 40, .inl e2) := by rw [he_415, up_ne (ne_ty ht_108 ht_86 (by simp))]; exact hF_398
            have hF_421 : F_414 se = .inr (13, [.ref sx, .ref s0, .ref s1, .ref s2, .int (nI zs)]) := by rw [he_415, up_ne (ne_ty ht_39 ht_86 (by simp))]; exact hF_399
            have hF_422 : F_414 h0 = .inr (15, (.ref ta) :: (.int (nI zt)) :: (.int (nI zo_117)) :: (.int (nI ze_118)) :: (.ref ou) :: (.ref so) :: (.ref ad) :: (.ref na) :: (.ref va) :: (.ref lc) :: (.ref dm) :: (.int v11_119) :: (.int v12_120) :: (.ref tg) :: (.int v14_121) :: (.int v15_122) :: (.ref pe) :: (.int v17_123) :: (.int v18_124) :: (.int v19_125) :: (.int v20_126) :: (.int v21_127) :: (.int v22_128) :: (.ref ml) :: (.ref bg) :: (.ref co) :: (.ref sp) :: (.ref nb0) :: (.ref nb1) :: (.ref nb2) :: (.int (nI nf)) :: (.int (nI bd)) :: (.int (nI mm)) :: (.int v33_129) :: (.ref pl) :: (.ref se) :: (.ref ke) :: (.ref wi) :: (.ref hs) :: (.ref mo) :: (.ref po) :: (.ref nu) :: (.ref pr) :: (.ref sq) :: (.ref xa) :: (.ref sa) :: (.ref n64) :: (.ref m64) :: (.ref ex) :: (.ref wh) :: (.ref sd) :: (.ref tk) :: (.int v52_130) :: (.int v53_131) :: (.int v54_132) :: (.ref hd) :: (.ref ak) :: (.ref ho) :: (.ref ot) :: []) := by rw [he_415, up_ne (ne_ty hT_h0 ht_86 (by simp))]; exact hF_400
            have hF_423 : F_414 sx = .inr (14, [.ref sb, .int (nI z_167)]) := by rw [he_415, up_ne (ne_ty hT_sx ht_86 (by simp))]; exact hF_401
            have hF_424 : F_414 pl = .inr (14, [.ref rl, .int (nI zz)]) := by rw [he_415, up_ne (ne_ty hT_pl ht_86 (by simp))]; exact hr2
            obtain ⟨f_425, hF_416, hfe_426⟩ : ∃ f : Nat → Int32, F_414 tk = .inl (cs 18, 20, .inl f) ∧ f = upd ft ((nI k)).toNatClampNeg (vp_nar .boolean (1)) := ⟨_, hF_416, rfl⟩
            refine lv_aload_n hx hb dX15_fieldsPlain_154 rfl (lv_at hl 5 rfl) ?_
            refine lv_iload hx hb dX15_fieldsPlain_155 (lv_at hl 0 rfl) ?_
            refine lv_aload_n hx hb dX15_fieldsPlain_157 rfl (lv_at hl 5 rfl) ?_
            refine pg_get (ci := 15) (v := .int v52_130) (C := RX15) (T := TX15) (N := 59) hx hb hts it_15 hown hK hP hL_h0 hF_422 rfl 52 (by decide) (hts _ kt_872) (fun _ h9 => h9) rfl dX15_fieldsPlain_158 ?_
            refine lv_iconst (v := 0) hx hb dX15_fieldsPlain_161 (by decide) ?_
            refine lv_iconst (v := 0) hx hb dX15_fieldsPlain_162 (by decide) ?_
            have hFc := pg_free hD hS hA
            refine va_callv (va_runV (As := [.int (nI k), .int v52_130, .int 0, .int 0]) (rest := []) ⟨hx, hb, hml, hown, hts⟩ (s_X15_fieldPlain l dC dI cs ty gm L H.size F_414 h0 ρ ta ou so ad na va lc dm tg pe ml bg co sp nb0 nb1 nb2 pl se ke wi hs mo po nu pr sq xa sa n64 m64 ex wh sd tk hd ak ho ot sx s0 s1 s2 nf bd mm zt rl k zz v52_130 0 0 hW hL_h0 hT_h0 hL_pl hT_pl (by first | omega | assumption) hF_424 (by first | omega | assumption)) ⟨callB_of 4 hts (gi kt_933) rfl rfl rfl (hts _ kt_669) (hts _ kt_934) (by decide +kernel) ⟨Nat.le_of_ble_eq_true rfl, Nat.le_of_ble_eq_true rfl⟩, (hts _ kt_935), (hts _ kt_936)⟩ ⟨fun a U g mk q => ⟨q.1, PTm.calling q.2⟩, pg_recv hK hP hL_h0 hF_422 (q := (RX15, TX15, 59)) rfl, fun U hU hWm => ⟨rfl, PTm.mk hU hWm hP hK hD hE hO⟩⟩ rfl rfl hl.1 rfl (lv_room (Nat.le_of_ble_eq_true rfl)) dX15_fieldsPlain_163 ⟨by show _ + 0 ≤ 0; omega, by show _ + 0 ≤ 0; omega⟩) hS (fun q _ h => hFc q h) hFc (fun u t H1 locs ht hvm hw hB hz1 hk1 hS => ?_)
            obtain ⟨F_428, z2_429, hB1, hq_430, hq_431⟩ := hB
            obtain ⟨hP, hD, hO, hR⟩ := QTm.back hB1 ht hFc hR (fun q h => by simp only [List.mem_cons, List.not_mem_nil, or_false] at h ⊢; omega)
            have hF_432 : F_428 tk = .inl (cs 18, 20, .inl f_425) := (hB1.2.2.2 tk (by rw [ht_86]; simp)).trans hF_416
            have hF_433 : F_428 sb = .inl (cs 17, 3000, .inl eb) := (hB1.2.2.2 sb (by rw [ht_112]; simp)).trans hF_417
            have hF_434 : F_428 s0 = .inl (cs 16, 40, .inl e0) := (hB1.2.2.2 s0 (by rw [ht_106]; simp)).trans hF_418
            have hF_435 : F_428 s1 = .inl (cs 16, 40, .inl e1) := (hB1.2.2.2 s1 (by rw [ht_107]; simp)).trans hF_419
            have hF_436 : F_428 s2 = .inl (cs 16, 40, .inl e2) := (hB1.2.2.2 s2 (by rw [ht_108]; simp)).trans hF_420
            have hF_437 : F_428 se = .inr (13, [.ref sx, .ref s0, .ref s1, .ref s2, .int (nI zs)]) := (hB1.2.2.2 se (by rw [ht_39]; simp)).trans hF_421
            have hF_438 : F_428 h0 = .inr (15, (.ref ta) :: (.int (nI zt)) :: (.int (nI zo_117)) :: (.int (nI ze_118)) :: (.ref ou) :: (.ref so) :: (.ref ad) :: (.ref na) :: (.ref va) :: (.ref lc) :: (.ref dm) :: (.int v11_119) :: (.int v12_120) :: (.ref tg) :: (.int v14_121) :: (.int v15_122) :: (.ref pe) :: (.int v17_123) :: (.int v18_124) :: (.int v19_125) :: (.int v20_126) :: (.int v21_127) :: (.int v22_128) :: (.ref ml) :: (.ref bg) :: (.ref co) :: (.ref sp) :: (.ref nb0) :: (.ref nb1) :: (.ref nb2) :: (.int (nI nf)) :: (.int (nI bd)) :: (.int (nI mm)) :: (.int v33_129) :: (.ref pl) :: (.ref se) :: (.ref ke) :: (.ref wi) :: (.ref hs) :: (.ref mo) :: (.ref po) :: (.ref nu) :: (.ref pr) :: (.ref sq) :: (.ref xa) :: (.ref sa) :: (.ref n64) :: (.ref m64) :: (.ref ex) :: (.ref wh) :: (.ref sd) :: (.ref tk) :: (.int v52_130) :: (.int v53_131) :: (.int v54_132) :: (.ref hd) :: (.ref ak) :: (.ref ho) :: (.ref ot) :: []) := (hB1.2.2.2 h0 (by rw [hT_h0]; simp)).trans hF_422
            have hF_439 : F_428 sx = .inr (14, [.ref sb, .int (nI z_167)]) := (hB1.2.2.2 sx (by rw [hT_sx]; simp)).trans hF_423
            generalize H1 = H at hP hS ⊢
            refine lv_aload_n hx hb dX15_fieldsPlain_166 rfl (lv_at hl 5 rfl) ?_
            refine pg_get (ci := 15) (v := .ref pl) (C := RX15) (T := TX15) (N := 59) hx hb hts it_15 hown hK hP hL_h0 hF_438 rfl 34 (by decide) (hts _ kt_916) (fun _ h9 => h9) rfl dX15_fieldsPlain_167 ?_
            refine lv_bipush (v := 10) hx hb dX15_fieldsPlain_170 (by decide) ?_
            have hFc := pg_free hD hS hA
            refine va_callv (va_runV (As := [.int 10]) (rest := []) ⟨hx, hb, hml, hown, hts⟩ (s_X14_add l dC dI cs ty gm L H.size F_428 pl (ρ + 10) rl 6000 z2_429 10 hW hL_pl hT_pl hq_430 (by first | omega | assumption)) ⟨callB_of 1 hts (gi kt_711) rfl rfl rfl (hts _ kt_676) (hts _ kt_712) (by decide +kernel) ⟨Nat.le_of_ble_eq_true rfl, Nat.le_of_ble_eq_true rfl⟩, (hts _ kt_713), (hts _ kt_714)⟩ ⟨fun a U g mk q => ⟨q.1, PTm.calling q.2⟩, pg_recv hK hP hL_pl hq_430 (q := (RX14, TX14, 2)) rfl, fun U hU hWm => ⟨rfl, PTm.mk hU hWm hP hK hD hE hO⟩⟩ rfl rfl hl.1 rfl (lv_room (Nat.le_of_ble_eq_true rfl)) dX15_fieldsPlain_172 ⟨by show _ + 0 ≤ 0; omega, by show _ + 0 ≤ 0; omega⟩) hS (fun q _ h => hFc q h) hFc (fun u t H1 locs ht hvm hw hB hz1 hk1 hS => ?_)
            obtain ⟨F_441, hB1, hq_442⟩ := hB
            obtain ⟨hP, hD, hO, hR⟩ := QTm.back hB1 ht hFc hR (fun q h => by simp only [List.mem_cons, List.not_mem_nil, or_false] at h ⊢; omega)
            have hF_443 : F_441 tk = .inl (cs 18, 20, .inl f_425) := (hB1.2.2.2 tk (by rw [ht_86]; simp)).trans hF_432
            have hF_444 : F_441 sb = .inl (cs 17, 3000, .inl eb) := (hB1.2.2.2 sb (by rw [ht_112]; simp)).trans hF_433
            have hF_445 : F_441 s0 = .inl (cs 16, 40, .inl e0) := (hB1.2.2.2 s0 (by rw [ht_106]; simp)).trans hF_434
            have hF_446 : F_441 s1 = .inl (cs 16, 40, .inl e1) := (hB1.2.2.2 s1 (by rw [ht_107]; simp)).trans hF_435
            have hF_447 : F_441 s2 = .inl (cs 16, 40, .inl e2) := (hB1.2.2.2 s2 (by rw [ht_108]; simp)).trans hF_436
            have hF_448 : F_441 se = .inr (13, [.ref sx, .ref s0, .ref s1, .ref s2, .int (nI zs)]) := (hB1.2.2.2 se (by rw [ht_39]; simp)).trans hF_437
            have hF_449 : F_441 h0 = .inr (15, (.ref ta) :: (.int (nI zt)) :: (.int (nI zo_117)) :: (.int (nI ze_118)) :: (.ref ou) :: (.ref so) :: (.ref ad) :: (.ref na) :: (.ref va) :: (.ref lc) :: (.ref dm) :: (.int v11_119) :: (.int v12_120) :: (.ref tg) :: (.int v14_121) :: (.int v15_122) :: (.ref pe) :: (.int v17_123) :: (.int v18_124) :: (.int v19_125) :: (.int v20_126) :: (.int v21_127) :: (.int v22_128) :: (.ref ml) :: (.ref bg) :: (.ref co) :: (.ref sp) :: (.ref nb0) :: (.ref nb1) :: (.ref nb2) :: (.int (nI nf)) :: (.int (nI bd)) :: (.int (nI mm)) :: (.int v33_129) :: (.ref pl) :: (.ref se) :: (.ref ke) :: (.ref wi) :: (.ref hs) :: (.ref mo) :: (.ref po) :: (.ref nu) :: (.ref pr) :: (.ref sq) :: (.ref xa) :: (.ref sa) :: (.ref n64) :: (.ref m64) :: (.ref ex) :: (.ref wh) :: (.ref sd) :: (.ref tk) :: (.int v52_130) :: (.int v53_131) :: (.int v54_132) :: (.ref hd) :: (.ref ak) :: (.ref ho) :: (.ref ot) :: []) := (hB1.2.2.2 h0 (by rw [hT_h0]; simp)).trans hF_438
            have hF_450 : F_441 sx = .inr (14, [.ref sb, .int (nI z_167)]) := (hB1.2.2.2 sx (by rw [hT_sx]; simp)).trans hF_439
            generalize H1 = H at hP hS ⊢
            refine lv_iload hx hb dX15_fieldsPlain_175 (lv_at hl 1 rfl) ?_
            refine lv_iconst (v := 1) hx hb dX15_fieldsPlain_177 (by decide) ?_
            refine lv_iadd hx hb dX15_fieldsPlain_178 ?_
            refine lv_topi (fun x_451 ex_451 => ?_)
            obtain rfl : x_451 = (nI (i + 1)) := ex_451.trans (nI_add i 1)
            refine lv_istore (lv' := [(4, .int (nI (i + 1))), (6, .int (nI k)), (5, .int (nI i)), (3, .ref sb), (2, .int (nI kh)), (0, .ref h0), (1, .int (nI jf))]) hx hb dX15_fieldsPlain_179 hl (by decide) rfl (fun ls hl => ?_)
            refine lv_goto (tgt := 51) hx hb dX15_fieldsPlain_181 (by decide) ?_
            refine W.widen (k := 0) (n := 0) (by omega) (by omega) ?_
            exact ih_185 ((i + 1), (z2_429 + 1), f_425) F_441 (⟨by omega, by rw [tsum_set (k := k) hkn hft0 (by rw [hfe_426, nI_clamp (by omega)]; exact upd_ne1) (fun i hi => by rw [hfe_426, nI_clamp (by omega)]; exact upd_oth hi)]; omega, hq_442, hF_443⟩) (by show 1282 - (i + 1) < 1282 - j; omega) hO hR _ _ hP hD hS ls (lv_sub hl [0, 3, 4, 5, 6] rfl)
          ·
            refine lv_iinc (v := (nI k + Int32.ofInt (-1))) (lv' := [(6, .int (nI k + Int32.ofInt (-1))), (5, .int (nI i)), (4, .int (nI j)), (3, .ref sb), (2, .int (nI kh)), (0, .ref h0), (1, .int (nI jf))]) hx hb dX15_fieldsPlain_135 hl (k := 0) rfl (rfl) (by decide) rfl (fun ls hl => ?_)
            refine lv_goto (tgt := 106) hx hb dX15_fieldsPlain_138 (by decide) ?_
            refine W.widen (k := 0) (n := 0) (by omega) (by omega) ?_
            exact ih_394 (nI k + Int32.ofInt (-1)) F_385 (⟨⟨k, by omega, dn_st k⟩, hr2, hr3⟩) (by show ((nI k + Int32.ofInt (-1)).toInt + 1).toNat < ((nI k).toInt + 1).toNat; exact dn_mu (by omega)) hO hR _ _ hP hD hS ls (lv_sub hl [0, 1, 2, 3, 4, 5, 6] rfl)
    ·
      have hi_452 : i < k_194 := ltN (N := k_194) c_382
      refine lv_aload_n hx hb dX15_fieldsPlain_83 rfl (lv_at hl 2 rfl) ?_
      refine lv_iload hx hb dX15_fieldsPlain_84 (lv_at hl 0 rfl) ?_
      obtain ⟨hq_453, hq_454⟩ := hW.octs hi_111 ht_112
      refine pg_bald hx hb hK hP hi_111 1 hF_374 rfl (vp_in_nI (by omega) (by omega)) dX15_fieldsPlain_86 ?_
      refine lv_topi (fun x_455 ex_455 => ?_)
      obtain rfl : x_455 = eb i := ex_455.trans (congrArg eb (show ((nI i) : Int32).toNatClampNeg = i from nI_clamp (by omega)))
      refine lv_bipush (v := 58) hx hb dX15_fieldsPlain_87 (by decide) ?_
      refine lv_icmp_eq (tgt := 98) hx hb dX15_fieldsPlain_89 (by decide) (fun c_456 => ?_) (fun c_456 => ?_)
      ·
        refine lv_aload_n hx hb dX15_fieldsPlain_98 rfl (lv_at hl 4 rfl) ?_
        refine pg_get (ci := 15) (v := .int (nI nf)) (C := RX15) (T := TX15) (N := 59) hx hb hts it_15 hown hK hP hL_h0 hF_379 rfl 30 (by decide) (hts _ kt_907) (fun _ h9 => h9) rfl dX15_fieldsPlain_99 ?_
        refine lv_iconst (v := 1) hx hb dX15_fieldsPlain_102 (by decide) ?_
        refine lv_isub hx hb dX15_fieldsPlain_103 ?_
        refine lv_topi (fun x_457 ex_457 => ?_)
        obtain rfl : x_457 = (nI nf - 1) := ex_457.trans (rfl)
        refine lv_istore (lv' := [(6, .int (nI nf - 1)), (5, .int (nI i)), (4, .int (nI j)), (3, .ref sb), (2, .int (nI kh)), (0, .ref h0), (1, .int (nI jf))]) hx hb dX15_fieldsPlain_104 hl (by decide) rfl (fun ls hl => ?_)
        refine W.widen (k := 0) (n := 0) (by omega) (by omega) ?_
        have hF_459 : F sb = .inl (cs 17, 3000, .inl eb) := (hR sb (by rw [ht_112]; simp)).symm.trans hF_374
        have hF_460 : F s0 = .inl (cs 16, 40, .inl e0) := (hR s0 (by rw [ht_106]; simp)).symm.trans hF_375
        have hF_461 : F s1 = .inl (cs 16, 40, .inl e1) := (hR s1 (by rw [ht_107]; simp)).symm.trans hF_376
        have hF_462 : F s2 = .inl (cs 16, 40, .inl e2) := (hR s2 (by rw [ht_108]; simp)).symm.trans hF_377
        have hF_463 : F se = .inr (13, [.ref sx, .ref s0, .ref s1, .ref s2, .int (nI zs)]) := (hR se (by rw [ht_39]; simp)).symm.trans hF_378
        have hF_464 : F h0 = .inr (15, (.ref ta) :: (.int (nI zt)) :: (.int (nI zo_117)) :: (.int (nI ze_118)) :: (.ref ou) :: (.ref so) :: (.ref ad) :: (.ref na) :: (.ref va) :: (.ref lc) :: (.ref dm) :: (.int v11_119) :: (.int v12_120) :: (.ref tg) :: (.int v14_121) :: (.int v15_122) :: (.ref pe) :: (.int v17_123) :: (.int v18_124) :: (.int v19_125) :: (.int v20_126) :: (.int v21_127) :: (.int v22_128) :: (.ref ml) :: (.ref bg) :: (.ref co) :: (.ref sp) :: (.ref nb0) :: (.ref nb1) :: (.ref nb2) :: (.int (nI nf)) :: (.int (nI bd)) :: (.int (nI mm)) :: (.int v33_129) :: (.ref pl) :: (.ref se) :: (.ref ke) :: (.ref wi) :: (.ref hs) :: (.ref mo) :: (.ref po) :: (.ref nu) :: (.ref pr) :: (.ref sq) :: (.ref xa) :: (.ref sa) :: (.ref n64) :: (.ref m64) :: (.ref ex) :: (.ref wh) :: (.ref sd) :: (.ref tk) :: (.int v52_130) :: (.int v53_131) :: (.int v54_132) :: (.ref hd) :: (.ref ak) :: (.ref ho) :: (.ref ot) :: []) := (hR h0 (by rw [hT_h0]; simp)).symm.trans hF_379
        have hF_465 : F sx = .inr (14, [.ref sb, .int (nI z_167)]) := (hR sx (by rw [hT_sx]; simp)).symm.trans hF_380
        refine pl_loopm (σ := Int32) A (dC, dI) cs ty gm L [ρ + 10, ρ + 26] F 106 11 (fun i1 => [(6, .int i1), (5, .int (nI i)), (4, .int (nI j)), (3, .ref sb), (2, .int (nI kh)), (0, .ref h0), (1, .int (nI jf))]) (fun i1 => []) (fun i1 FF => (∃ q : Nat, q ≤ nf ∧ i1 = nI q - 1) ∧ FF pl = .inr (14, [.ref rl, .int (nI zz)]) ∧ FF tk = .inl (cs 18, 20, .inl ft)) (fun i1 => (i1.toInt + 1).toNat) ?_ (nI nf - 1) F_364 (⟨⟨nf, Nat.le_refl _, rfl⟩, hq3, hq4⟩) hO hR _ _ hP hD hS ls (lv_sub hl [0, 1, 2, 3, 4, 5, 6] rfl)
        rintro i1 F_458 hv_466 hO hR ih_467 H locs hP hD hS ls hl
        have hl : lv_has ls 11 [(6, .int i1), (5, .int (nI i)), (4, .int (nI j)), (3, .ref sb), (2, .int (nI kh)), (0, .ref h0), (1, .int (nI jf))] := hl
        have hv_466 : (∃ q : Nat, q ≤ nf ∧ i1 = nI q - 1) ∧ F_458 pl = .inr (14, [.ref rl, .int (nI zz)]) ∧ F_458 tk = .inl (cs 18, 20, .inl ft) := hv_466
        refine W.eq (g2 := F0 m 106 ls []) rfl ?_
        have hF_468 : F_458 sb = .inl (cs 17, 3000, .inl eb) := (hR sb (by rw [ht_112]; simp)).trans hF_459
        have hF_469 : F_458 s0 = .inl (cs 16, 40, .inl e0) := (hR s0 (by rw [ht_106]; simp)).trans hF_460
        have hF_470 : F_458 s1 = .inl (cs 16, 40, .inl e1) := (hR s1 (by rw [ht_107]; simp)).trans hF_461
        have hF_471 : F_458 s2 = .inl (cs 16, 40, .inl e2) := (hR s2 (by rw [ht_108]; simp)).trans hF_462
        have hF_472 : F_458 se = .inr (13, [.ref sx, .ref s0, .ref s1, .ref s2, .int (nI zs)]) := (hR se (by rw [ht_39]; simp)).trans hF_463
        have hF_473 : F_458 h0 = .inr (15, (.ref ta) :: (.int (nI zt)) :: (.int (nI zo_117)) :: (.int (nI ze_118)) :: (.ref ou) :: (.ref so) :: (.ref ad) :: (.ref na) :: (.ref va) :: (.ref lc) :: (.ref dm) :: (.int v11_119) :: (.int v12_120) :: (.ref tg) :: (.int v14_121) :: (.int v15_122) :: (.ref pe) :: (.int v17_123) :: (.int v18_124) :: (.int v19_125) :: (.int v20_126) :: (.int v21_127) :: (.int v22_128) :: (.ref ml) :: (.ref bg) :: (.ref co) :: (.ref sp) :: (.ref nb0) :: (.ref nb1) :: (.ref nb2) :: (.int (nI nf)) :: (.int (nI bd)) :: (.int (nI mm)) :: (.int v33_129) :: (.ref pl) :: (.ref se) :: (.ref ke) :: (.ref wi) :: (.ref hs) :: (.ref mo) :: (.ref po) :: (.ref nu) :: (.ref pr) :: (.ref sq) :: (.ref xa) :: (.ref sa) :: (.ref n64) :: (.ref m64) :: (.ref ex) :: (.ref wh) :: (.ref sd) :: (.ref tk) :: (.int v52_130) :: (.int v53_131) :: (.int v54_132) :: (.ref hd) :: (.ref ak) :: (.ref ho) :: (.ref ot) :: []) := (hR h0 (by rw [hT_h0]; simp)).trans hF_464
        have hF_474 : F_458 sx = .inr (14, [.ref sb, .int (nI z_167)]) := (hR sx (by rw [hT_sx]; simp)).trans hF_465
        obtain ⟨hr1, hr2, hr3⟩ := hv_466
        refine lv_iload hx hb dX15_fieldsPlain_106 (lv_at hl 0 rfl) ?_
        refine lv_if_lt (tgt := 141) hx hb dX15_fieldsPlain_108 (by decide) (fun c_475 => ?_) (fun c_475 => ?_)
        ·
          refine lv_iload hx hb dX15_fieldsPlain_141 (lv_at hl 0 rfl) ?_
          refine lv_if_lt (tgt := 175) hx hb dX15_fieldsPlain_143 (by decide) (fun c_476 => ?_) (fun c_476 => absurd (c_475) c_476)
          refine lv_iload hx hb dX15_fieldsPlain_175 (lv_at hl 1 rfl) ?_
          refine lv_iconst (v := 1) hx hb dX15_fieldsPlain_177 (by decide) ?_
          refine lv_iadd hx hb dX15_fieldsPlain_178 ?_
          refine lv_topi (fun x_477 ex_477 => ?_)
          obtain rfl : x_477 = (nI (i + 1)) := ex_477.trans (nI_add i 1)
          refine lv_istore (lv' := [(4, .int (nI (i + 1))), (6, .int i1), (5, .int (nI i)), (3, .ref sb), (2, .int (nI kh)), (0, .ref h0), (1, .int (nI jf))]) hx hb dX15_fieldsPlain_179 hl (by decide) rfl (fun ls hl => ?_)
          refine lv_goto (tgt := 51) hx hb dX15_fieldsPlain_181 (by decide) ?_
          refine W.widen (k := 0) (n := 0) (by omega) (by omega) ?_
          exact ih_185 ((i + 1), zz, ft) F_458 (⟨by omega, by omega, hr2, hr3⟩) (by show 1282 - (i + 1) < 1282 - j; omega) hO hR _ _ hP hD hS ls (lv_sub hl [0, 3, 4, 5, 6] rfl)
        ·
          obtain ⟨k, hkn, rfl⟩ := dn_pos hr1 c_475
          have hok := hgO k hkn
          refine lv_aload_n hx hb dX15_fieldsPlain_111 rfl (lv_at hl 5 rfl) ?_
          refine pg_get (ci := 15) (v := .ref tk) (C := RX15) (T := TX15) (N := 59) hx hb hts it_15 hown hK hP hL_h0 hF_473 rfl 51 (by decide) (hts _ kt_958) (fun _ h9 => h9) rfl dX15_fieldsPlain_112 ?_
          refine lv_iload hx hb dX15_fieldsPlain_115 (lv_at hl 0 rfl) ?_
          refine pg_zald hx hb hK hP hi_85 2 hr3 rfl (vp_in_nI (by omega) (by omega)) dX15_fieldsPlain_117 ?_
          refine lv_topi (fun x_478 ex_478 => ?_)
          obtain rfl : x_478 = ft k := ex_478.trans (congrArg ft (show ((nI k) : Int32).toNatClampNeg = k from nI_clamp (by omega)))
          refine lv_if_ne (tgt := 135) hx hb dX15_fieldsPlain_118 (by decide) (fun c_479 => ?_) (fun c_479 => ?_)
          ·
            refine lv_iinc (v := (nI k + Int32.ofInt (-1))) (lv' := [(6, .int (nI k + Int32.ofInt (-1))), (5, .int (nI i)), (4, .int (nI j)), (3, .ref sb), (2, .int (nI kh)), (0, .ref h0), (1, .int (nI jf))]) hx hb dX15_fieldsPlain_135 hl (k := 0) rfl (rfl) (by decide) rfl (fun ls hl => ?_)
            refine lv_goto (tgt := 106) hx hb dX15_fieldsPlain_138 (by decide) ?_
            refine W.widen (k := 0) (n := 0) (by omega) (by omega) ?_
            exact ih_467 (nI k + Int32.ofInt (-1)) F_458 (⟨⟨k, by omega, dn_st k⟩, hr2, hr3⟩) (by show ((nI k + Int32.ofInt (-1)).toInt + 1).toNat < ((nI k).toInt + 1).toNat; exact dn_mu (by omega)) hO hR _ _ hP hD hS ls (lv_sub hl [0, 1, 2, 3, 4, 5, 6] rfl)
          ·
            have hft0 : ft k = 0 := c_479
            refine lv_aload_n hx hb dX15_fieldsPlain_121 rfl (lv_at hl 5 rfl) ?_
            refine lv_iload hx hb dX15_fieldsPlain_122 (lv_at hl 0 rfl) ?_
            refine lv_aload_n hx hb dX15_fieldsPlain_124 rfl (lv_at hl 3 rfl) ?_
            refine lv_iload hx hb dX15_fieldsPlain_125 (lv_at hl 2 rfl) ?_
            refine lv_iload hx hb dX15_fieldsPlain_127 (lv_at hl 1 rfl) ?_
            have hFc := pg_free hD hS hA
            refine va_calli (va_runV (As := [.int (nI k), .ref sb, .int (nI j), .int (nI i)]) (rest := []) ⟨hx, hb, hml, hown, hts⟩ (s_X15_isAlikeTo l dC dI cs ty gm L H.size F_458 h0 ρ ta ou so ad na va lc dm tg pe ml bg co sp nb0 nb1 nb2 pl se ke wi hs mo po nu pr sq xa sa n64 m64 ex wh sd tk hd ak ho ot sx s0 s1 s2 nf bd mm zt sb (ρ + 12) 3000 k j i hW hL_h0 hT_h0 hi_111 ht_112 (by first | omega | assumption) (by first | omega | assumption) (by first | omega | assumption)) ⟨callB_of 4 hts (gi kt_962) rfl rfl rfl (hts _ kt_669) (hts _ kt_963) (by decide +kernel) ⟨Nat.le_of_ble_eq_true rfl, Nat.le_of_ble_eq_true rfl⟩, (hts _ kt_964), (hts _ kt_965)⟩ ⟨fun a U g mk q => ⟨q.1, PTm.calling q.2⟩, pg_recv hK hP hL_h0 hF_473 (q := (RX15, TX15, 59)) rfl, fun U hU hWm => ⟨rfl, PTm.mk hU hWm hP hK hD hE hO⟩⟩ rfl rfl hl.1 rfl (lv_room (Nat.le_of_ble_eq_true rfl)) dX15_fieldsPlain_129 ⟨by show _ + 0 ≤ 0; omega, by show _ + 0 ≤ 0; omega⟩) hS (fun q _ h => hFc q h) hFc (fun r_480 u t H1 locs ht hvm hw hB hz1 hk1 hS => ?_)
            obtain ⟨F_481, hB1⟩ := hB
            obtain rfl : F_458 = F_481 := (funext (fun a => hB1.2.2.2 a List.not_mem_nil)).symm
            obtain ⟨hP, hD, hO, hR⟩ := QTm.back hB1 ht hFc hR (fun q h => absurd h List.not_mem_nil)
            generalize H1 = H at hP hS ⊢
            have hw : (r_480 = 0 ∨ r_480 = 1) := hw
            have hw_482 := hw
            refine lv_if_ne (tgt := 141) hx hb dX15_fieldsPlain_132 (by decide) (fun c_483 => ?_) (fun c_483 => ?_)
            ·
              refine lv_iload hx hb dX15_fieldsPlain_141 (lv_at hl 0 rfl) ?_
              refine lv_if_lt (tgt := 175) hx hb dX15_fieldsPlain_143 (by decide) (fun c_484 => absurd c_484 (nI_pos (by omega))) (fun c_484 => ?_)
              refine lv_aload_n hx hb dX15_fieldsPlain_146 rfl (lv_at hl 5 rfl) ?_
              refine pg_get (ci := 15) (v := .ref tk) (C := RX15) (T := TX15) (N := 59) hx hb hts it_15 hown hK hP hL_h0 hF_473 rfl 51 (by decide) (hts _ kt_958) (fun _ h9 => h9) rfl dX15_fieldsPlain_147 ?_
              refine lv_iload hx hb dX15_fieldsPlain_150 (lv_at hl 0 rfl) ?_
              refine lv_iconst (v := 1) hx hb dX15_fieldsPlain_152 (by decide) ?_
              refine pg_zast hx hb hK hP hD hS hi_85 2 hr3 rfl (vp_in_nI (by omega) (by omega)) dX15_fieldsPlain_153 (fun H locs hP hD hS => ?_)
              obtain ⟨F_485, he_486, hP, hD, hO, hR⟩ : ∃ G, G = va_up F_458 tk (.inl (cs 18, 20, .inl (upd ft ((nI k)).toNatClampNeg (vp_nar .boolean (1))))) ∧ va_P (dC, dI) vwCl (va_pl L G) H ∧ va_D A (va_pl L G) ∧ OKm cs ty gm L G ∧ FR ty [ρ + 10, ρ + 26] F G := ⟨_, rfl, hP, hD, hO.up (shm.bits ht_86 ⟨_, rfl⟩), hR.up ht_86 (by simp)⟩
              have hF_487 : F_485 tk = .inl (cs 18, 20, .inl (upd ft ((nI k)).toNatClampNeg (vp_nar .boolean (1)))) := by rw [he_486]; exact up_self
              have hF_488 : F_485 sb = .inl (cs 17, 3000, .inl eb) := by rw [he_486, up_ne (ne_ty ht_112 ht_86 (by simp))]; exact hF_468
              have hF_489 : F_485 s0 = .inl (cs 16, 40, .inl e0) := by rw [he_486, up_ne (ne_ty ht_106 ht_86 (by simp))]; exact hF_469
              have hF_490 : F_485 s1 = .inl (cs 16, 40, .inl e1) := by rw [he_486, up_ne (ne_ty ht_107 ht_86 (by simp))]; exact hF_470
              have hF_491 : F_485 s2 = .inl (cs 16, 40, .inl e2) := by rw [he_486, up_ne (ne_ty ht_108 ht_86 (by simp))]; exact hF_471
              have hF_492 : F_485 se = .inr (13, [.ref sx, .ref s0, .ref s1, .ref s2, .int (nI zs)]) := by rw [he_486, up_ne (ne_ty ht_39 ht_86 (by simp))]; exact hF_472
              have hF_493 : F_485 h0 = .inr (15, (.ref ta) :: (.int (nI zt)) :: (.int (nI zo_117)) :: (.int (nI ze_118)) :: (.ref ou) :: (.ref so) :: (.ref ad) :: (.ref na) :: (.ref va) :: (.ref lc) :: (.ref dm) :: (.int v11_119) :: (.int v12_120) :: (.ref tg) :: (.int v14_121) :: (.int v15_122) :: (.ref pe) :: (.int v17_123) :: (.int v18_124) :: (.int v19_125) :: (.int v20_126) :: (.int v21_127) :: (.int v22_128) :: (.ref ml) :: (.ref bg) :: (.ref co) :: (.ref sp) :: (.ref nb0) :: (.ref nb1) :: (.ref nb2) :: (.int (nI nf)) :: (.int (nI bd)) :: (.int (nI mm)) :: (.int v33_129) :: (.ref pl) :: (.ref se) :: (.ref ke) :: (.ref wi) :: (.ref hs) :: (.ref mo) :: (.ref po) :: (.ref nu) :: (.ref pr) :: (.ref sq) :: (.ref xa) :: (.ref sa) :: (.ref n64) :: (.ref m64) :: (.ref ex) :: (.ref wh) :: (.ref sd) :: (.ref tk) :: (.int v52_130) :: (.int v53_131) :: (.int v54_132) :: (.ref hd) :: (.ref ak) :: (.ref ho) :: (.ref ot) :: []) := by rw [he_486, up_ne (ne_ty hT_h0 ht_86 (by simp))]; exact hF_473
              have hF_494 : F_485 sx = .inr (14, [.ref sb, .int (nI z_167)]) := by rw [he_486, up_ne (ne_ty hT_sx ht_86 (by simp))]; exact hF_474
              have hF_495 : F_485 pl = .inr (14, [.ref rl, .int (nI zz)]) := by rw [he_486, up_ne (ne_ty hT_pl ht_86 (by simp))]; exact hr2
              obtain ⟨f_496, hF_487, hfe_497⟩ : ∃ f : Nat → Int32, F_485 tk = .inl (cs 18, 20, .inl f) ∧ f = upd ft ((nI k)).toNatClampNeg (vp_nar .boolean (1)) := ⟨_, hF_487, rfl⟩
              refine lv_aload_n hx hb dX15_fieldsPlain_154 rfl (lv_at hl 5 rfl) ?_
              refine lv_iload hx hb dX15_fieldsPlain_155 (lv_at hl 0 rfl) ?_
              refine lv_aload_n hx hb dX15_fieldsPlain_157 rfl (lv_at hl 5 rfl) ?_
              refine pg_get (ci := 15) (v := .int v52_130) (C := RX15) (T := TX15) (N := 59) hx hb hts it_15 hown hK hP hL_h0 hF_493 rfl 52 (by decide) (hts _ kt_872) (fun _ h9 => h9) rfl dX15_fieldsPlain_158 ?_
              refine lv_iconst (v := 0) hx hb dX15_fieldsPlain_161 (by decide) ?_
              refine lv_iconst (v := 0) hx hb dX15_fieldsPlain_162 (by decide) ?_
              have hFc := pg_free hD hS hA
              refine va_callv (va_runV (As := [.int (nI k), .int v52_130, .int 0, .int 0]) (rest := []) ⟨hx, hb, hml, hown, hts⟩ (s_X15_fieldPlain l dC dI cs ty gm L H.size F_485 h0 ρ ta ou so ad na va lc dm tg pe ml bg co sp nb0 nb1 nb2 pl se ke wi hs mo po nu pr sq xa sa n64 m64 ex wh sd tk hd ak ho ot sx s0 s1 s2 nf bd mm zt rl k zz v52_130 0 0 hW hL_h0 hT_h0 hL_pl hT_pl (by first | omega | assumption) hF_495 (by first | omega | assumption)) ⟨callB_of 4 hts (gi kt_933) rfl rfl rfl (hts _ kt_669) (hts _ kt_934) (by decide +kernel) ⟨Nat.le_of_ble_eq_true rfl, Nat.le_of_ble_eq_true rfl⟩, (hts _ kt_935), (hts _ kt_936)⟩ ⟨fun a U g mk q => ⟨q.1, PTm.calling q.2⟩, pg_recv hK hP hL_h0 hF_493 (q := (RX15, TX15, 59)) rfl, fun U hU hWm => ⟨rfl, PTm.mk hU hWm hP hK hD hE hO⟩⟩ rfl rfl hl.1 rfl (lv_room (Nat.le_of_ble_eq_true rfl)) dX15_fieldsPlain_163 ⟨by show _ + 0 ≤ 0; omega, by show _ + 0 ≤ 0; omega⟩) hS (fun q _ h => hFc q h) hFc (fun u t H1 locs ht hvm hw hB hz1 hk1 hS => ?_)
              obtain ⟨F_499, z2_500, hB1, hq_501, hq_502⟩ := hB
              obtain ⟨hP, hD, hO, hR⟩ := QTm.back hB1 ht hFc hR (fun q h => by simp only [List.mem_cons, List.not_mem_nil, or_false] at h ⊢; omega)
              have hF_503 : F_499 tk = .inl (cs 18, 20, .inl f_496) := (hB1.2.2.2 tk (by rw [ht_86]; simp)).trans hF_487
              have hF_504 : F_499 sb = .inl (cs 17, 3000, .inl eb) := (hB1.2.2.2 sb (by rw [ht_112]; simp)).trans hF_488
              have hF_505 : F_499 s0 = .inl (cs 16, 40, .inl e0) := (hB1.2.2.2 s0 (by rw [ht_106]; simp)).trans hF_489
              have hF_506 : F_499 s1 = .inl (cs 16, 40, .inl e1) := (hB1.2.2.2 s1 (by rw [ht_107]; simp)).trans hF_490
              have hF_507 : F_499 s2 = .inl (cs 16, 40, .inl e2) := (hB1.2.2.2 s2 (by rw [ht_108]; simp)).trans hF_491
              have hF_508 : F_499 se = .inr (13, [.ref sx, .ref s0, .ref s1, .ref s2, .int (nI zs)]) := (hB1.2.2.2 se (by rw [ht_39]; simp)).trans hF_492
              have hF_509 : F_499 h0 = .inr (15, (.ref ta) :: (.int (nI zt)) :: (.int (nI zo_117)) :: (.int (nI ze_118)) :: (.ref ou) :: (.ref so) :: (.ref ad) :: (.ref na) :: (.ref va) :: (.ref lc) :: (.ref dm) :: (.int v11_119) :: (.int v12_120) :: (.ref tg) :: (.int v14_121) :: (.int v15_122) :: (.ref pe) :: (.int v17_123) :: (.int v18_124) :: (.int v19_125) :: (.int v20_126) :: (.int v21_127) :: (.int v22_128) :: (.ref ml) :: (.ref bg) :: (.ref co) :: (.ref sp) :: (.ref nb0) :: (.ref nb1) :: (.ref nb2) :: (.int (nI nf)) :: (.int (nI bd)) :: (.int (nI mm)) :: (.int v33_129) :: (.ref pl) :: (.ref se) :: (.ref ke) :: (.ref wi) :: (.ref hs) :: (.ref mo) :: (.ref po) :: (.ref nu) :: (.ref pr) :: (.ref sq) :: (.ref xa) :: (.ref sa) :: (.ref n64) :: (.ref m64) :: (.ref ex) :: (.ref wh) :: (.ref sd) :: (.ref tk) :: (.int v52_130) :: (.int v53_131) :: (.int v54_132) :: (.ref hd) :: (.ref ak) :: (.ref ho) :: (.ref ot) :: []) := (hB1.2.2.2 h0 (by rw [hT_h0]; simp)).trans hF_493
              have hF_510 : F_499 sx = .inr (14, [.ref sb, .int (nI z_167)]) := (hB1.2.2.2 sx (by rw [hT_sx]; simp)).trans hF_494
              generalize H1 = H at hP hS ⊢
              refine lv_aload_n hx hb dX15_fieldsPlain_166 rfl (lv_at hl 5 rfl) ?_
              refine pg_get (ci := 15) (v := .ref pl) (C := RX15) (T := TX15) (N := 59) hx hb hts it_15 hown hK hP hL_h0 hF_509 rfl 34 (by decide) (hts _ kt_916) (fun _ h9 => h9) rfl dX15_fieldsPlain_167 ?_
              refine lv_bipush (v := 10) hx hb dX15_fieldsPlain_170 (by decide) ?_
              have hFc := pg_free hD hS hA
              refine va_callv (va_runV (As := [.int 10]) (rest := []) ⟨hx, hb, hml, hown, hts⟩ (s_X14_add l dC dI cs ty gm L H.size F_499 pl (ρ + 10) rl 6000 z2_500 10 hW hL_pl hT_pl hq_501 (by first | omega | assumption)) ⟨callB_of 1 hts (gi kt_711) rfl rfl rfl (hts _ kt_676) (hts _ kt_712) (by decide +kernel) ⟨Nat.le_of_ble_eq_true rfl, Nat.le_of_ble_eq_true rfl⟩, (hts _ kt_713), (hts _ kt_714)⟩ ⟨fun a U g mk q => ⟨q.1, PTm.calling q.2⟩, pg_recv hK hP hL_pl hq_501 (q := (RX14, TX14, 2)) rfl, fun U hU hWm => ⟨rfl, PTm.mk hU hWm hP hK hD hE hO⟩⟩ rfl rfl hl.1 rfl (lv_room (Nat.le_of_ble_eq_true rfl)) dX15_fieldsPlain_172 ⟨by show _ + 0 ≤ 0; omega, by show _ + 0 ≤ 0; omega⟩) hS (fun q _ h => hFc q h) hFc (fun u t H1 locs ht hvm hw hB hz1 hk1 hS => ?_)
              obtain ⟨F_512, hB1, hq_513⟩ := hB
              obtain ⟨hP, hD, hO, hR⟩ := QTm.back hB1 ht hFc hR (fun q h => by simp only [List.mem_cons, List.not_mem_nil, or_false] at h ⊢; omega)
              have hF_514 : F_512 tk = .inl (cs 18, 20, .inl f_496) := (hB1.2.2.2 tk (by rw [ht_86]; simp)).trans hF_503
              have hF_515 : F_512 sb = .inl (cs 17, 3000, .inl eb) := (hB1.2.2.2 sb (by rw [ht_112]; simp)).trans hF_504
              have hF_516 : F_512 s0 = .inl (cs 16, 40, .inl e0) := (hB1.2.2.2 s0 (by rw [ht_106]; simp)).trans hF_505
              have hF_517 : F_512 s1 = .inl (cs 16, 40, .inl e1) := (hB1.2.2.2 s1 (by rw [ht_107]; simp)).trans hF_506
              have hF_518 : F_512 s2 = .inl (cs 16, 40, .inl e2) := (hB1.2.2.2 s2 (by rw [ht_108]; simp)).trans hF_507
              have hF_519 : F_512 se = .inr (13, [.ref sx, .ref s0, .ref s1, .ref s2, .int (nI zs)]) := (hB1.2.2.2 se (by rw [ht_39]; simp)).trans hF_508
              have hF_520 : F_512 h0 = .inr (15, (.ref ta) :: (.int (nI zt)) :: (.int (nI zo_117)) :: (.int (nI ze_118)) :: (.ref ou) :: (.ref so) :: (.ref ad) :: (.ref na) :: (.ref va) :: (.ref lc) :: (.ref dm) :: (.int v11_119) :: (.int v12_120) :: (.ref tg) :: (.int v14_121) :: (.int v15_122) :: (.ref pe) :: (.int v17_123) :: (.int v18_124) :: (.int v19_125) :: (.int v20_126) :: (.int v21_127) :: (.int v22_128) :: (.ref ml) :: (.ref bg) :: (.ref co) :: (.ref sp) :: (.ref nb0) :: (.ref nb1) :: (.ref nb2) :: (.int (nI nf)) :: (.int (nI bd)) :: (.int (nI mm)) :: (.int v33_129) :: (.ref pl) :: (.ref se) :: (.ref ke) :: (.ref wi) :: (.ref hs) :: (.ref mo) :: (.ref po) :: (.ref nu) :: (.ref pr) :: (.ref sq) :: (.ref xa) :: (.ref sa) :: (.ref n64) :: (.ref m64) :: (.ref ex) :: (.ref wh) :: (.ref sd) :: (.ref tk) :: (.int v52_130) :: (.int v53_131) :: (.int v54_132) :: (.ref hd) :: (.ref ak) :: (.ref ho) :: (.ref ot) :: []) := (hB1.2.2.2 h0 (by rw [hT_h0]; simp)).trans hF_509
              have hF_521 : F_512 sx = .inr (14, [.ref sb, .int (nI z_167)]) := (hB1.2.2.2 sx (by rw [hT_sx]; simp)).trans hF_510
              generalize H1 = H at hP hS ⊢
              refine lv_iload hx hb dX15_fieldsPlain_175 (lv_at hl 1 rfl) ?_
              refine lv_iconst (v := 1) hx hb dX15_fieldsPlain_177 (by decide) ?_
              refine lv_iadd hx hb dX15_fieldsPlain_178 ?_
              refine lv_topi (fun x_522 ex_522 => ?_)
              obtain rfl : x_522 = (nI (i + 1)) := ex_522.trans (nI_add i 1)
              refine lv_istore (lv' := [(4, .int (nI (i + 1))), (6, .int (nI k)), (5, .int (nI i)), (3, .ref sb), (2, .int (nI kh)), (0, .ref h0), (1, .int (nI jf))]) hx hb dX15_fieldsPlain_179 hl (by decide) rfl (fun ls hl => ?_)
              refine lv_goto (tgt := 51) hx hb dX15_fieldsPlain_181 (by decide) ?_
              refine W.widen (k := 0) (n := 0) (by omega) (by omega) ?_
              exact ih_185 ((i + 1), (z2_500 + 1), f_496) F_512 (⟨by omega, by rw [tsum_set (k := k) hkn hft0 (by rw [hfe_497, nI_clamp (by omega)]; exact upd_ne1) (fun i hi => by rw [hfe_497, nI_clamp (by omega)]; exact upd_oth hi)]; omega, hq_513, hF_514⟩) (by show 1282 - (i + 1) < 1282 - j; omega) hO hR _ _ hP hD hS ls (lv_sub hl [0, 3, 4, 5, 6] rfl)
            ·
              refine lv_iinc (v := (nI k + Int32.ofInt (-1))) (lv' := [(6, .int (nI k + Int32.ofInt (-1))), (5, .int (nI i)), (4, .int (nI j)), (3, .ref sb), (2, .int (nI kh)), (0, .ref h0), (1, .int (nI jf))]) hx hb dX15_fieldsPlain_135 hl (k := 0) rfl (rfl) (by decide) rfl (fun ls hl => ?_)
              refine lv_goto (tgt := 106) hx hb dX15_fieldsPlain_138 (by decide) ?_
              refine W.widen (k := 0) (n := 0) (by omega) (by omega) ?_
              exact ih_467 (nI k + Int32.ofInt (-1)) F_458 (⟨⟨k, by omega, dn_st k⟩, hr2, hr3⟩) (by show ((nI k + Int32.ofInt (-1)).toInt + 1).toNat < ((nI k).toInt + 1).toNat; exact dn_mu (by omega)) hO hR _ _ hP hD hS ls (lv_sub hl [0, 1, 2, 3, 4, 5, 6] rfl)
      ·
        refine lv_iinc (v := (nI (i + 1))) (lv' := [(5, .int (nI (i + 1))), (4, .int (nI j)), (3, .ref sb), (2, .int (nI kh)), (0, .ref h0), (1, .int (nI jf))]) hx hb dX15_fieldsPlain_92 hl (k := 0) rfl (nI_1 _) (by decide) rfl (fun ls hl => ?_)
        refine lv_goto (tgt := 69) hx hb dX15_fieldsPlain_95 (by decide) ?_
        refine W.widen (k := 0) (n := 0) (by omega) (by omega) ?_
        exact ih_373 (i + 1) F_364 (⟨by omega, by omega, hq3, hq4⟩) (by show 1281 - (i + 1) < 1281 - i; omega) hO hR _ _ hP hD hS ls (lv_sub hl [0, 1, 2, 3, 4, 5] rfl)
