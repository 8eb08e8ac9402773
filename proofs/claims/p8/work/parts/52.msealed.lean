theorem dX15_fieldsPlain_0 : decode cX15_fieldsPlain 0 = .ok (.aload_n 0, 1) := by decide +kernel
theorem dX15_fieldsPlain_1 : decode cX15_fieldsPlain 1 = .ok (.getfield 91, 3) := by decide +kernel
theorem dX15_fieldsPlain_4 : decode cX15_fieldsPlain 4 = .ok (.iconst 0, 1) := by decide +kernel
theorem dX15_fieldsPlain_5 : decode cX15_fieldsPlain 5 = .ok (.putfield 190, 3) := by decide +kernel
theorem dX15_fieldsPlain_8 : decode cX15_fieldsPlain 8 = .ok (.aload_n 0, 1) := by decide +kernel
theorem dX15_fieldsPlain_9 : decode cX15_fieldsPlain 9 = .ok (.getfield 150, 3) := by decide +kernel
theorem dX15_fieldsPlain_12 : decode cX15_fieldsPlain 12 = .ok (.iconst 0, 1) := by decide +kernel
theorem dX15_fieldsPlain_13 : decode cX15_fieldsPlain 13 = .ok (.invokestatic 541, 3) := by decide +kernel
theorem dX15_fieldsPlain_16 : decode cX15_fieldsPlain 16 = .ok (.aload_n 0, 1) := by decide +kernel
theorem dX15_fieldsPlain_17 : decode cX15_fieldsPlain 17 = .ok (.getfield 97, 3) := by decide +kernel
theorem dX15_fieldsPlain_20 : decode cX15_fieldsPlain 20 = .ok (.ldc_w 486, 3) := by decide +kernel
theorem dX15_fieldsPlain_23 : decode cX15_fieldsPlain 23 = .ok (.invokevirtual 399, 3) := by decide +kernel
theorem dX15_fieldsPlain_26 : decode cX15_fieldsPlain 26 = .ok (.istore_n 2, 1) := by decide +kernel
theorem dX15_fieldsPlain_27 : decode cX15_fieldsPlain 27 = .ok (.aload_n 0, 1) := by decide +kernel
theorem dX15_fieldsPlain_28 : decode cX15_fieldsPlain 28 = .ok (.getfield 97, 3) := by decide +kernel
theorem dX15_fieldsPlain_31 : decode cX15_fieldsPlain 31 = .ok (.getfield 409, 3) := by decide +kernel
theorem dX15_fieldsPlain_34 : decode cX15_fieldsPlain 34 = .ok (.getfield 295, 3) := by decide +kernel
theorem dX15_fieldsPlain_37 : decode cX15_fieldsPlain 37 = .ok (.astore_n 3, 1) := by decide +kernel
theorem dX15_fieldsPlain_38 : decode cX15_fieldsPlain 38 = .ok (.aload_n 0, 1) := by decide +kernel
theorem dX15_fieldsPlain_39 : decode cX15_fieldsPlain 39 = .ok (.getfield 97, 3) := by decide +kernel
theorem dX15_fieldsPlain_42 : decode cX15_fieldsPlain 42 = .ok (.getfield 403, 3) := by decide +kernel
theorem dX15_fieldsPlain_45 : decode cX15_fieldsPlain 45 = .ok (.iload_n 2, 1) := by decide +kernel
theorem dX15_fieldsPlain_46 : decode cX15_fieldsPlain 46 = .ok (.iaload, 1) := by decide +kernel
theorem dX15_fieldsPlain_47 : decode cX15_fieldsPlain 47 = .ok (.iconst 1, 1) := by decide +kernel
theorem dX15_fieldsPlain_48 : decode cX15_fieldsPlain 48 = .ok (.iadd, 1) := by decide +kernel
theorem dX15_fieldsPlain_49 : decode cX15_fieldsPlain 49 = .ok (.istore 4, 2) := by decide +kernel
theorem dX15_fieldsPlain_51 : decode cX15_fieldsPlain 51 = .ok (.iload 4, 2) := by decide +kernel
theorem dX15_fieldsPlain_53 : decode cX15_fieldsPlain 53 = .ok (.aload_n 0, 1) := by decide +kernel
theorem dX15_fieldsPlain_54 : decode cX15_fieldsPlain 54 = .ok (.getfield 97, 3) := by decide +kernel
theorem dX15_fieldsPlain_57 : decode cX15_fieldsPlain 57 = .ok (.getfield 406, 3) := by decide +kernel
theorem dX15_fieldsPlain_60 : decode cX15_fieldsPlain 60 = .ok (.iload_n 2, 1) := by decide +kernel
theorem dX15_fieldsPlain_61 : decode cX15_fieldsPlain 61 = .ok (.iaload, 1) := by decide +kernel
theorem dX15_fieldsPlain_62 : decode cX15_fieldsPlain 62 = .ok (.if_icmp .gt 122, 3) := by decide +kernel
theorem dX15_fieldsPlain_65 : decode cX15_fieldsPlain 65 = .ok (.iload 4, 2) := by decide +kernel
theorem dX15_fieldsPlain_67 : decode cX15_fieldsPlain 67 = .ok (.istore 5, 2) := by decide +kernel
theorem dX15_fieldsPlain_69 : decode cX15_fieldsPlain 69 = .ok (.iload 5, 2) := by decide +kernel
theorem dX15_fieldsPlain_71 : decode cX15_fieldsPlain 71 = .ok (.aload_n 0, 1) := by decide +kernel
theorem dX15_fieldsPlain_72 : decode cX15_fieldsPlain 72 = .ok (.getfield 97, 3) := by decide +kernel
theorem dX15_fieldsPlain_75 : decode cX15_fieldsPlain 75 = .ok (.getfield 406, 3) := by decide +kernel
theorem dX15_fieldsPlain_78 : decode cX15_fieldsPlain 78 = .ok (.iload_n 2, 1) := by decide +kernel
theorem dX15_fieldsPlain_79 : decode cX15_fieldsPlain 79 = .ok (.iaload, 1) := by decide +kernel
theorem dX15_fieldsPlain_80 : decode cX15_fieldsPlain 80 = .ok (.if_icmp .ge 18, 3) := by decide +kernel
theorem dX15_fieldsPlain_83 : decode cX15_fieldsPlain 83 = .ok (.aload_n 3, 1) := by decide +kernel
theorem dX15_fieldsPlain_84 : decode cX15_fieldsPlain 84 = .ok (.iload 5, 2) := by decide +kernel
theorem dX15_fieldsPlain_86 : decode cX15_fieldsPlain 86 = .ok (.baload, 1) := by decide +kernel
theorem dX15_fieldsPlain_87 : decode cX15_fieldsPlain 87 = .ok (.bipush 58, 2) := by decide +kernel
theorem dX15_fieldsPlain_89 : decode cX15_fieldsPlain 89 = .ok (.if_icmp .eq 9, 3) := by decide +kernel
theorem dX15_fieldsPlain_92 : decode cX15_fieldsPlain 92 = .ok (.iinc 5 1, 3) := by decide +kernel
theorem dX15_fieldsPlain_95 : decode cX15_fieldsPlain 95 = .ok (.goto (-26), 3) := by decide +kernel
theorem dX15_fieldsPlain_98 : decode cX15_fieldsPlain 98 = .ok (.aload_n 0, 1) := by decide +kernel
theorem dX15_fieldsPlain_99 : decode cX15_fieldsPlain 99 = .ok (.getfield 355, 3) := by decide +kernel
theorem dX15_fieldsPlain_102 : decode cX15_fieldsPlain 102 = .ok (.iconst 1, 1) := by decide +kernel
theorem dX15_fieldsPlain_103 : decode cX15_fieldsPlain 103 = .ok (.isub, 1) := by decide +kernel
theorem dX15_fieldsPlain_104 : decode cX15_fieldsPlain 104 = .ok (.istore 6, 2) := by decide +kernel
theorem dX15_fieldsPlain_106 : decode cX15_fieldsPlain 106 = .ok (.iload 6, 2) := by decide +kernel
theorem dX15_fieldsPlain_108 : decode cX15_fieldsPlain 108 = .ok (.ifCond .lt 33, 3) := by decide +kernel
theorem dX15_fieldsPlain_111 : decode cX15_fieldsPlain 111 = .ok (.aload_n 0, 1) := by decide +kernel
theorem dX15_fieldsPlain_112 : decode cX15_fieldsPlain 112 = .ok (.getfield 150, 3) := by decide +kernel
theorem dX15_fieldsPlain_115 : decode cX15_fieldsPlain 115 = .ok (.iload 6, 2) := by decide +kernel
theorem dX15_fieldsPlain_117 : decode cX15_fieldsPlain 117 = .ok (.baload, 1) := by decide +kernel
theorem dX15_fieldsPlain_118 : decode cX15_fieldsPlain 118 = .ok (.ifCond .ne 17, 3) := by decide +kernel
theorem dX15_fieldsPlain_121 : decode cX15_fieldsPlain 121 = .ok (.aload_n 0, 1) := by decide +kernel
theorem dX15_fieldsPlain_122 : decode cX15_fieldsPlain 122 = .ok (.iload 6, 2) := by decide +kernel
theorem dX15_fieldsPlain_124 : decode cX15_fieldsPlain 124 = .ok (.aload_n 3, 1) := by decide +kernel
theorem dX15_fieldsPlain_125 : decode cX15_fieldsPlain 125 = .ok (.iload 4, 2) := by decide +kernel
theorem dX15_fieldsPlain_127 : decode cX15_fieldsPlain 127 = .ok (.iload 5, 2) := by decide +kernel
theorem dX15_fieldsPlain_129 : decode cX15_fieldsPlain 129 = .ok (.invokevirtual 544, 3) := by decide +kernel
theorem dX15_fieldsPlain_132 : decode cX15_fieldsPlain 132 = .ok (.ifCond .ne 9, 3) := by decide +kernel
theorem dX15_fieldsPlain_135 : decode cX15_fieldsPlain 135 = .ok (.iinc 6 (-1), 3) := by decide +kernel
theorem dX15_fieldsPlain_138 : decode cX15_fieldsPlain 138 = .ok (.goto (-32), 3) := by decide +kernel
theorem dX15_fieldsPlain_141 : decode cX15_fieldsPlain 141 = .ok (.iload 6, 2) := by decide +kernel
theorem dX15_fieldsPlain_143 : decode cX15_fieldsPlain 143 = .ok (.ifCond .lt 32, 3) := by decide +kernel
theorem dX15_fieldsPlain_146 : decode cX15_fieldsPlain 146 = .ok (.aload_n 0, 1) := by decide +kernel
theorem dX15_fieldsPlain_147 : decode cX15_fieldsPlain 147 = .ok (.getfield 150, 3) := by decide +kernel
theorem dX15_fieldsPlain_150 : decode cX15_fieldsPlain 150 = .ok (.iload 6, 2) := by decide +kernel
theorem dX15_fieldsPlain_152 : decode cX15_fieldsPlain 152 = .ok (.iconst 1, 1) := by decide +kernel
theorem dX15_fieldsPlain_153 : decode cX15_fieldsPlain 153 = .ok (.bastore, 1) := by decide +kernel
theorem dX15_fieldsPlain_154 : decode cX15_fieldsPlain 154 = .ok (.aload_n 0, 1) := by decide +kernel
theorem dX15_fieldsPlain_155 : decode cX15_fieldsPlain 155 = .ok (.iload 6, 2) := by decide +kernel
theorem dX15_fieldsPlain_157 : decode cX15_fieldsPlain 157 = .ok (.aload_n 0, 1) := by decide +kernel
theorem dX15_fieldsPlain_158 : decode cX15_fieldsPlain 158 = .ok (.getfield 491, 3) := by decide +kernel
theorem dX15_fieldsPlain_161 : decode cX15_fieldsPlain 161 = .ok (.iconst 0, 1) := by decide +kernel
theorem dX15_fieldsPlain_162 : decode cX15_fieldsPlain 162 = .ok (.iconst 0, 1) := by decide +kernel
theorem dX15_fieldsPlain_163 : decode cX15_fieldsPlain 163 = .ok (.invokevirtual 395, 3) := by decide +kernel
theorem dX15_fieldsPlain_166 : decode cX15_fieldsPlain 166 = .ok (.aload_n 0, 1) := by decide +kernel
theorem dX15_fieldsPlain_167 : decode cX15_fieldsPlain 167 = .ok (.getfield 91, 3) := by decide +kernel
theorem dX15_fieldsPlain_170 : decode cX15_fieldsPlain 170 = .ok (.bipush 10, 2) := by decide +kernel
theorem dX15_fieldsPlain_172 : decode cX15_fieldsPlain 172 = .ok (.invokevirtual 292, 3) := by decide +kernel
theorem dX15_fieldsPlain_175 : decode cX15_fieldsPlain 175 = .ok (.iload 5, 2) := by decide +kernel
theorem dX15_fieldsPlain_177 : decode cX15_fieldsPlain 177 = .ok (.iconst 1, 1) := by decide +kernel
theorem dX15_fieldsPlain_178 : decode cX15_fieldsPlain 178 = .ok (.iadd, 1) := by decide +kernel
theorem dX15_fieldsPlain_179 : decode cX15_fieldsPlain 179 = .ok (.istore 4, 2) := by decide +kernel
theorem dX15_fieldsPlain_181 : decode cX15_fieldsPlain 181 = .ok (.goto (-130), 3) := by decide +kernel
theorem dX15_fieldsPlain_184 : decode cX15_fieldsPlain 184 = .ok (.aload_n 0, 1) := by decide +kernel
theorem dX15_fieldsPlain_185 : decode cX15_fieldsPlain 185 = .ok (.getfield 76, 3) := by decide +kernel
theorem dX15_fieldsPlain_188 : decode cX15_fieldsPlain 188 = .ok (.iload_n 1, 1) := by decide +kernel
theorem dX15_fieldsPlain_189 : decode cX15_fieldsPlain 189 = .ok (.iaload, 1) := by decide +kernel
theorem dX15_fieldsPlain_190 : decode cX15_fieldsPlain 190 = .ok (.iconst 1, 1) := by decide +kernel
theorem dX15_fieldsPlain_191 : decode cX15_fieldsPlain 191 = .ok (.iadd, 1) := by decide +kernel
theorem dX15_fieldsPlain_192 : decode cX15_fieldsPlain 192 = .ok (.istore 4, 2) := by decide +kernel
theorem dX15_fieldsPlain_194 : decode cX15_fieldsPlain 194 = .ok (.iconst 0, 1) := by decide +kernel
theorem dX15_fieldsPlain_195 : decode cX15_fieldsPlain 195 = .ok (.istore 5, 2) := by decide +kernel
theorem dX15_fieldsPlain_197 : decode cX15_fieldsPlain 197 = .ok (.iconst 0, 1) := by decide +kernel
theorem dX15_fieldsPlain_198 : decode cX15_fieldsPlain 198 = .ok (.istore 6, 2) := by decide +kernel
theorem dX15_fieldsPlain_200 : decode cX15_fieldsPlain 200 = .ok (.aload_n 0, 1) := by decide +kernel
theorem dX15_fieldsPlain_201 : decode cX15_fieldsPlain 201 = .ok (.iload_n 1, 1) := by decide +kernel
theorem dX15_fieldsPlain_202 : decode cX15_fieldsPlain 202 = .ok (.invokevirtual 382, 3) := by decide +kernel
theorem dX15_fieldsPlain_205 : decode cX15_fieldsPlain 205 = .ok (.istore 7, 2) := by decide +kernel
theorem dX15_fieldsPlain_207 : decode cX15_fieldsPlain 207 = .ok (.iload 4, 2) := by decide +kernel
theorem dX15_fieldsPlain_209 : decode cX15_fieldsPlain 209 = .ok (.iload 7, 2) := by decide +kernel
theorem dX15_fieldsPlain_211 : decode cX15_fieldsPlain 211 = .ok (.if_icmp .ge 131, 3) := by decide +kernel
theorem dX15_fieldsPlain_214 : decode cX15_fieldsPlain 214 = .ok (.iload 4, 2) := by decide +kernel
theorem dX15_fieldsPlain_216 : decode cX15_fieldsPlain 216 = .ok (.istore 8, 2) := by decide +kernel
theorem dX15_fieldsPlain_218 : decode cX15_fieldsPlain 218 = .ok (.iload 4, 2) := by decide +kernel
theorem dX15_fieldsPlain_220 : decode cX15_fieldsPlain 220 = .ok (.istore 9, 2) := by decide +kernel
theorem dX15_fieldsPlain_222 : decode cX15_fieldsPlain 222 = .ok (.iconst 0, 1) := by decide +kernel
theorem dX15_fieldsPlain_223 : decode cX15_fieldsPlain 223 = .ok (.istore 10, 2) := by decide +kernel
theorem dX15_fieldsPlain_225 : decode cX15_fieldsPlain 225 = .ok (.iload 8, 2) := by decide +kernel
theorem dX15_fieldsPlain_227 : decode cX15_fieldsPlain 227 = .ok (.iload 7, 2) := by decide +kernel
theorem dX15_fieldsPlain_229 : decode cX15_fieldsPlain 229 = .ok (.if_icmp .ge 21, 3) := by decide +kernel
theorem dX15_fieldsPlain_232 : decode cX15_fieldsPlain 232 = .ok (.aload_n 0, 1) := by decide +kernel
theorem dX15_fieldsPlain_233 : decode cX15_fieldsPlain 233 = .ok (.getfield 70, 3) := by decide +kernel
theorem dX15_fieldsPlain_236 : decode cX15_fieldsPlain 236 = .ok (.iload 8, 2) := by decide +kernel
theorem dX15_fieldsPlain_238 : decode cX15_fieldsPlain 238 = .ok (.baload, 1) := by decide +kernel
theorem dX15_fieldsPlain_239 : decode cX15_fieldsPlain 239 = .ok (.bipush 59, 2) := by decide +kernel
theorem dX15_fieldsPlain_241 : decode cX15_fieldsPlain 241 = .ok (.if_icmp .eq 9, 3) := by decide +kernel
theorem dX15_fieldsPlain_244 : decode cX15_fieldsPlain 244 = .ok (.iinc 8 1, 3) := by decide +kernel
theorem dX15_fieldsPlain_247 : decode cX15_fieldsPlain 247 = .ok (.goto (-22), 3) := by decide +kernel
theorem dX15_fieldsPlain_250 : decode cX15_fieldsPlain 250 = .ok (.iload 9, 2) := by decide +kernel
theorem dX15_fieldsPlain_252 : decode cX15_fieldsPlain 252 = .ok (.iload 8, 2) := by decide +kernel
theorem dX15_fieldsPlain_254 : decode cX15_fieldsPlain 254 = .ok (.if_icmp .ge 62, 3) := by decide +kernel
theorem dX15_fieldsPlain_257 : decode cX15_fieldsPlain 257 = .ok (.aload_n 0, 1) := by decide +kernel
theorem dX15_fieldsPlain_258 : decode cX15_fieldsPlain 258 = .ok (.getfield 70, 3) := by decide +kernel
theorem dX15_fieldsPlain_261 : decode cX15_fieldsPlain 261 = .ok (.iload 9, 2) := by decide +kernel
theorem dX15_fieldsPlain_263 : decode cX15_fieldsPlain 263 = .ok (.baload, 1) := by decide +kernel
theorem dX15_fieldsPlain_264 : decode cX15_fieldsPlain 264 = .ok (.bipush 61, 2) := by decide +kernel
theorem dX15_fieldsPlain_266 : decode cX15_fieldsPlain 266 = .ok (.if_icmp .eq 50, 3) := by decide +kernel
theorem dX15_fieldsPlain_269 : decode cX15_fieldsPlain 269 = .ok (.aload_n 0, 1) := by decide +kernel
theorem dX15_fieldsPlain_270 : decode cX15_fieldsPlain 270 = .ok (.getfield 70, 3) := by decide +kernel
theorem dX15_fieldsPlain_273 : decode cX15_fieldsPlain 273 = .ok (.iload 9, 2) := by decide +kernel
theorem dX15_fieldsPlain_275 : decode cX15_fieldsPlain 275 = .ok (.baload, 1) := by decide +kernel
theorem dX15_fieldsPlain_276 : decode cX15_fieldsPlain 276 = .ok (.invokestatic 347, 3) := by decide +kernel
theorem dX15_fieldsPlain_279 : decode cX15_fieldsPlain 279 = .ok (.ifCond .ne 31, 3) := by decide +kernel
theorem dX15_fieldsPlain_282 : decode cX15_fieldsPlain 282 = .ok (.aload_n 0, 1) := by decide +kernel
theorem dX15_fieldsPlain_283 : decode cX15_fieldsPlain 283 = .ok (.getfield 70, 3) := by decide +kernel
theorem dX15_fieldsPlain_286 : decode cX15_fieldsPlain 286 = .ok (.iload 9, 2) := by decide +kernel
theorem dX15_fieldsPlain_288 : decode cX15_fieldsPlain 288 = .ok (.baload, 1) := by decide +kernel
theorem dX15_fieldsPlain_289 : decode cX15_fieldsPlain 289 = .ok (.bipush 10, 2) := by decide +kernel
theorem dX15_fieldsPlain_291 : decode cX15_fieldsPlain 291 = .ok (.if_icmp .eq 19, 3) := by decide +kernel
theorem dX15_fieldsPlain_294 : decode cX15_fieldsPlain 294 = .ok (.sipush 256, 3) := by decide +kernel
theorem dX15_fieldsPlain_297 : decode cX15_fieldsPlain 297 = .ok (.iload 10, 2) := by decide +kernel
theorem dX15_fieldsPlain_299 : decode cX15_fieldsPlain 299 = .ok (.imul, 1) := by decide +kernel
theorem dX15_fieldsPlain_300 : decode cX15_fieldsPlain 300 = .ok (.aload_n 0, 1) := by decide +kernel
theorem dX15_fieldsPlain_301 : decode cX15_fieldsPlain 301 = .ok (.getfield 70, 3) := by decide +kernel
theorem dX15_fieldsPlain_304 : decode cX15_fieldsPlain 304 = .ok (.iload 9, 2) := by decide +kernel
theorem dX15_fieldsPlain_306 : decode cX15_fieldsPlain 306 = .ok (.baload, 1) := by decide +kernel
theorem dX15_fieldsPlain_307 : decode cX15_fieldsPlain 307 = .ok (.iadd, 1) := by decide +kernel
theorem dX15_fieldsPlain_308 : decode cX15_fieldsPlain 308 = .ok (.istore 10, 2) := by decide +kernel
theorem dX15_fieldsPlain_310 : decode cX15_fieldsPlain 310 = .ok (.iinc 9 1, 3) := by decide +kernel
theorem dX15_fieldsPlain_313 : decode cX15_fieldsPlain 313 = .ok (.goto (-63), 3) := by decide +kernel
theorem dX15_fieldsPlain_316 : decode cX15_fieldsPlain 316 = .ok (.iload 10, 2) := by decide +kernel
theorem dX15_fieldsPlain_318 : decode cX15_fieldsPlain 318 = .ok (.bipush 98, 2) := by decide +kernel
theorem dX15_fieldsPlain_320 : decode cX15_fieldsPlain 320 = .ok (.if_icmp .ne 13, 3) := by decide +kernel
theorem dX15_fieldsPlain_323 : decode cX15_fieldsPlain 323 = .ok (.iload 9, 2) := by decide +kernel
theorem dX15_fieldsPlain_325 : decode cX15_fieldsPlain 325 = .ok (.iconst 1, 1) := by decide +kernel
theorem dX15_fieldsPlain_326 : decode cX15_fieldsPlain 326 = .ok (.iadd, 1) := by decide +kernel
theorem dX15_fieldsPlain_327 : decode cX15_fieldsPlain 327 = .ok (.istore 5, 2) := by decide +kernel
theorem dX15_fieldsPlain_329 : decode cX15_fieldsPlain 329 = .ok (.iload 8, 2) := by decide +kernel
theorem dX15_fieldsPlain_331 : decode cX15_fieldsPlain 331 = .ok (.istore 6, 2) := by decide +kernel
theorem dX15_fieldsPlain_333 : decode cX15_fieldsPlain 333 = .ok (.iload 8, 2) := by decide +kernel
theorem dX15_fieldsPlain_335 : decode cX15_fieldsPlain 335 = .ok (.iconst 1, 1) := by decide +kernel
theorem dX15_fieldsPlain_336 : decode cX15_fieldsPlain 336 = .ok (.iadd, 1) := by decide +kernel
theorem dX15_fieldsPlain_337 : decode cX15_fieldsPlain 337 = .ok (.istore 4, 2) := by decide +kernel
theorem dX15_fieldsPlain_339 : decode cX15_fieldsPlain 339 = .ok (.goto (-132), 3) := by decide +kernel
theorem dX15_fieldsPlain_342 : decode cX15_fieldsPlain 342 = .ok (.aload_n 0, 1) := by decide +kernel
theorem dX15_fieldsPlain_343 : decode cX15_fieldsPlain 343 = .ok (.iload_n 1, 1) := by decide +kernel
theorem dX15_fieldsPlain_344 : decode cX15_fieldsPlain 344 = .ok (.aload_n 0, 1) := by decide +kernel
theorem dX15_fieldsPlain_345 : decode cX15_fieldsPlain 345 = .ok (.getfield 491, 3) := by decide +kernel
theorem dX15_fieldsPlain_348 : decode cX15_fieldsPlain 348 = .ok (.iload 5, 2) := by decide +kernel
theorem dX15_fieldsPlain_350 : decode cX15_fieldsPlain 350 = .ok (.iload 6, 2) := by decide +kernel
theorem dX15_fieldsPlain_352 : decode cX15_fieldsPlain 352 = .ok (.invokevirtual 395, 3) := by decide +kernel
theorem dX15_fieldsPlain_355 : decode cX15_fieldsPlain 355 = .ok (.return_, 1) := by decide +kernel
theorem dX15_isAlikeTo_0 : decode cX15_isAlikeTo 0 = .ok (.aload_n 0, 1) := by decide +kernel
theorem dX15_isAlikeTo_1 : decode cX15_isAlikeTo 1 = .ok (.getfield 76, 3) := by decide +kernel
theorem dX15_isAlikeTo_4 : decode cX15_isAlikeTo 4 = .ok (.iload_n 1, 1) := by decide +kernel
theorem dX15_isAlikeTo_5 : decode cX15_isAlikeTo 5 = .ok (.iaload, 1) := by decide +kernel
theorem dX15_isAlikeTo_6 : decode cX15_isAlikeTo 6 = .ok (.aload_n 0, 1) := by decide +kernel
theorem dX15_isAlikeTo_7 : decode cX15_isAlikeTo 7 = .ok (.getfield 73, 3) := by decide +kernel
theorem dX15_isAlikeTo_10 : decode cX15_isAlikeTo 10 = .ok (.iload_n 1, 1) := by decide +kernel
theorem dX15_isAlikeTo_11 : decode cX15_isAlikeTo 11 = .ok (.iaload, 1) := by decide +kernel
theorem dX15_isAlikeTo_12 : decode cX15_isAlikeTo 12 = .ok (.isub, 1) := by decide +kernel
theorem dX15_isAlikeTo_13 : decode cX15_isAlikeTo 13 = .ok (.iload 4, 2) := by decide +kernel
theorem dX15_isAlikeTo_15 : decode cX15_isAlikeTo 15 = .ok (.iload_n 3, 1) := by decide +kernel
theorem dX15_isAlikeTo_16 : decode cX15_isAlikeTo 16 = .ok (.isub, 1) := by decide +kernel
theorem dX15_isAlikeTo_17 : decode cX15_isAlikeTo 17 = .ok (.if_icmp .eq 5, 3) := by decide +kernel
theorem dX15_isAlikeTo_20 : decode cX15_isAlikeTo 20 = .ok (.iconst 0, 1) := by decide +kernel
theorem dX15_isAlikeTo_21 : decode cX15_isAlikeTo 21 = .ok (.ireturn, 1) := by decide +kernel
theorem dX15_isAlikeTo_22 : decode cX15_isAlikeTo 22 = .ok (.iconst 0, 1) := by decide +kernel
theorem dX15_isAlikeTo_23 : decode cX15_isAlikeTo 23 = .ok (.istore 5, 2) := by decide +kernel
theorem dX15_isAlikeTo_25 : decode cX15_isAlikeTo 25 = .ok (.iload 5, 2) := by decide +kernel
theorem dX15_isAlikeTo_27 : decode cX15_isAlikeTo 27 = .ok (.iload 4, 2) := by decide +kernel
theorem dX15_isAlikeTo_29 : decode cX15_isAlikeTo 29 = .ok (.iload_n 3, 1) := by decide +kernel
theorem dX15_isAlikeTo_30 : decode cX15_isAlikeTo 30 = .ok (.isub, 1) := by decide +kernel
theorem dX15_isAlikeTo_31 : decode cX15_isAlikeTo 31 = .ok (.if_icmp .ge 40, 3) := by decide +kernel
theorem dX15_isAlikeTo_34 : decode cX15_isAlikeTo 34 = .ok (.aload_n 0, 1) := by decide +kernel
theorem dX15_isAlikeTo_35 : decode cX15_isAlikeTo 35 = .ok (.getfield 70, 3) := by decide +kernel
theorem dX15_isAlikeTo_38 : decode cX15_isAlikeTo 38 = .ok (.aload_n 0, 1) := by decide +kernel
theorem dX15_isAlikeTo_39 : decode cX15_isAlikeTo 39 = .ok (.getfield 73, 3) := by decide +kernel
theorem dX15_isAlikeTo_42 : decode cX15_isAlikeTo 42 = .ok (.iload_n 1, 1) := by decide +kernel
theorem dX15_isAlikeTo_43 : decode cX15_isAlikeTo 43 = .ok (.iaload, 1) := by decide +kernel
theorem dX15_isAlikeTo_44 : decode cX15_isAlikeTo 44 = .ok (.iload 5, 2) := by decide +kernel
theorem dX15_isAlikeTo_46 : decode cX15_isAlikeTo 46 = .ok (.iadd, 1) := by decide +kernel
theorem dX15_isAlikeTo_47 : decode cX15_isAlikeTo 47 = .ok (.baload, 1) := by decide +kernel
theorem dX15_isAlikeTo_48 : decode cX15_isAlikeTo 48 = .ok (.invokestatic 21, 3) := by decide +kernel
theorem dX15_isAlikeTo_51 : decode cX15_isAlikeTo 51 = .ok (.aload_n 2, 1) := by decide +kernel
theorem dX15_isAlikeTo_52 : decode cX15_isAlikeTo 52 = .ok (.iload_n 3, 1) := by decide +kernel
theorem dX15_isAlikeTo_53 : decode cX15_isAlikeTo 53 = .ok (.iload 5, 2) := by decide +kernel
theorem dX15_isAlikeTo_55 : decode cX15_isAlikeTo 55 = .ok (.iadd, 1) := by decide +kernel
theorem dX15_isAlikeTo_56 : decode cX15_isAlikeTo 56 = .ok (.baload, 1) := by decide +kernel
theorem dX15_isAlikeTo_57 : decode cX15_isAlikeTo 57 = .ok (.invokestatic 21, 3) := by decide +kernel
theorem dX15_isAlikeTo_60 : decode cX15_isAlikeTo 60 = .ok (.if_icmp .eq 5, 3) := by decide +kernel
theorem dX15_isAlikeTo_63 : decode cX15_isAlikeTo 63 = .ok (.iconst 0, 1) := by decide +kernel
theorem dX15_isAlikeTo_64 : decode cX15_isAlikeTo 64 = .ok (.ireturn, 1) := by decide +kernel
theorem dX15_isAlikeTo_65 : decode cX15_isAlikeTo 65 = .ok (.iinc 5 1, 3) := by decide +kernel
theorem dX15_isAlikeTo_68 : decode cX15_isAlikeTo 68 = .ok (.goto (-43), 3) := by decide +kernel
theorem dX15_isAlikeTo_71 : decode cX15_isAlikeTo 71 = .ok (.iconst 1, 1) := by decide +kernel
theorem dX15_isAlikeTo_72 : decode cX15_isAlikeTo 72 = .ok (.ireturn, 1) := by decide +kernel
theorem dX15_isPower_0 : decode cX15_isPower 0 = .ok (.aload_n 0, 1) := by decide +kernel
theorem dX15_isPower_1 : decode cX15_isPower 1 = .ok (.getfield 138, 3) := by decide +kernel
theorem dX15_isPower_4 : decode cX15_isPower 4 = .ok (.aload_n 0, 1) := by decide +kernel
theorem dX15_isPower_5 : decode cX15_isPower 5 = .ok (.getfield 114, 3) := by decide +kernel
theorem dX15_isPower_8 : decode cX15_isPower 8 = .ok (.invokestatic 548, 3) := by decide +kernel
theorem dX15_isPower_11 : decode cX15_isPower 11 = .ok (.aload_n 0, 1) := by decide +kernel
theorem dX15_isPower_12 : decode cX15_isPower 12 = .ok (.getfield 135, 3) := by decide +kernel
theorem dX15_isPower_15 : decode cX15_isPower 15 = .ok (.aload_n 0, 1) := by decide +kernel
theorem dX15_isPower_16 : decode cX15_isPower 16 = .ok (.getfield 120, 3) := by decide +kernel
theorem dX15_isPower_19 : decode cX15_isPower 19 = .ok (.invokestatic 548, 3) := by decide +kernel
theorem dX15_isPower_22 : decode cX15_isPower 22 = .ok (.aload_n 0, 1) := by decide +kernel
theorem dX15_isPower_23 : decode cX15_isPower 23 = .ok (.aload_n 0, 1) := by decide +kernel
theorem dX15_isPower_24 : decode cX15_isPower 24 = .ok (.getfield 120, 3) := by decide +kernel
theorem dX15_isPower_27 : decode cX15_isPower 27 = .ok (.bipush 32, 2) := by decide +kernel
theorem dX15_isPower_29 : decode cX15_isPower 29 = .ok (.aload_n 0, 1) := by decide +kernel
theorem dX15_isPower_30 : decode cX15_isPower 30 = .ok (.getfield 117, 3) := by decide +kernel
theorem dX15_isPower_33 : decode cX15_isPower 33 = .ok (.invokevirtual 437, 3) := by decide +kernel
theorem dX15_isPower_36 : decode cX15_isPower 36 = .ok (.aload_n 0, 1) := by decide +kernel
theorem dX15_isPower_37 : decode cX15_isPower 37 = .ok (.getfield 117, 3) := by decide +kernel
theorem dX15_isPower_40 : decode cX15_isPower 40 = .ok (.iconst 0, 1) := by decide +kernel
theorem dX15_isPower_41 : decode cX15_isPower 41 = .ok (.aload_n 0, 1) := by decide +kernel
theorem dX15_isPower_42 : decode cX15_isPower 42 = .ok (.getfield 120, 3) := by decide +kernel
theorem dX15_isPower_45 : decode cX15_isPower 45 = .ok (.iconst 0, 1) := by decide +kernel
theorem dX15_isPower_46 : decode cX15_isPower 46 = .ok (.bipush 33, 2) := by decide +kernel
theorem dX15_isPower_48 : decode cX15_isPower 48 = .ok (.invokestatic 358, 3) := by decide +kernel
theorem dX15_isPower_51 : decode cX15_isPower 51 = .ok (.iconst 0, 1) := by decide +kernel
theorem dX15_isPower_52 : decode cX15_isPower 52 = .ok (.istore_n 1, 1) := by decide +kernel
theorem dX15_isPower_53 : decode cX15_isPower 53 = .ok (.iload_n 1, 1) := by decide +kernel
theorem dX15_isPower_54 : decode cX15_isPower 54 = .ok (.bipush 16, 2) := by decide +kernel
theorem dX15_isPower_56 : decode cX15_isPower 56 = .ok (.if_icmp .ge 32, 3) := by decide +kernel
theorem dX15_isPower_59 : decode cX15_isPower 59 = .ok (.aload_n 0, 1) := by decide +kernel
theorem dX15_isPower_60 : decode cX15_isPower 60 = .ok (.getfield 117, 3) := by decide +kernel
theorem dX15_isPower_63 : decode cX15_isPower 63 = .ok (.iconst 0, 1) := by decide +kernel
theorem dX15_isPower_64 : decode cX15_isPower 64 = .ok (.aload_n 0, 1) := by decide +kernel
theorem dX15_isPower_65 : decode cX15_isPower 65 = .ok (.getfield 126, 3) := by decide +kernel
theorem dX15_isPower_68 : decode cX15_isPower 68 = .ok (.iconst 0, 1) := by decide +kernel
theorem dX15_isPower_69 : decode cX15_isPower 69 = .ok (.bipush 33, 2) := by decide +kernel
theorem dX15_isPower_71 : decode cX15_isPower 71 = .ok (.invokestatic 358, 3) := by decide +kernel
theorem dX15_isPower_74 : decode cX15_isPower 74 = .ok (.aload_n 0, 1) := by decide +kernel
theorem dX15_isPower_75 : decode cX15_isPower 75 = .ok (.aload_n 0, 1) := by decide +kernel
theorem dX15_isPower_76 : decode cX15_isPower 76 = .ok (.getfield 126, 3) := by decide +kernel
theorem dX15_isPower_79 : decode cX15_isPower 79 = .ok (.invokevirtual 552, 3) := by decide +kernel
theorem dX15_isPower_82 : decode cX15_isPower 82 = .ok (.iinc 1 1, 3) := by decide +kernel
theorem dX15_isPower_85 : decode cX15_isPower 85 = .ok (.goto (-32), 3) := by decide +kernel
theorem dX15_isPower_88 : decode cX15_isPower 88 = .ok (.aload_n 0, 1) := by decide +kernel
theorem dX15_isPower_89 : decode cX15_isPower 89 = .ok (.aload_n 0, 1) := by decide +kernel
theorem dX15_isPower_90 : decode cX15_isPower 90 = .ok (.getfield 120, 3) := by decide +kernel
theorem dX15_isPower_93 : decode cX15_isPower 93 = .ok (.invokevirtual 552, 3) := by decide +kernel
theorem dX15_isPower_96 : decode cX15_isPower 96 = .ok (.aload_n 0, 1) := by decide +kernel
theorem dX15_isPower_97 : decode cX15_isPower 97 = .ok (.getfield 141, 3) := by decide +kernel
theorem dX15_isPower_100 : decode cX15_isPower 100 = .ok (.iconst (-1), 1) := by decide +kernel
theorem dX15_isPower_101 : decode cX15_isPower 101 = .ok (.invokestatic 556, 3) := by decide +kernel
theorem dX15_isPower_104 : decode cX15_isPower 104 = .ok (.aload_n 0, 1) := by decide +kernel
theorem dX15_isPower_105 : decode cX15_isPower 105 = .ok (.getfield 141, 3) := by decide +kernel
theorem dX15_isPower_108 : decode cX15_isPower 108 = .ok (.iconst 0, 1) := by decide +kernel
theorem dX15_isPower_109 : decode cX15_isPower 109 = .ok (.iconst 0, 1) := by decide +kernel
theorem dX15_isPower_110 : decode cX15_isPower 110 = .ok (.bastore, 1) := by decide +kernel
theorem dX15_isPower_111 : decode cX15_isPower 111 = .ok (.aload_n 0, 1) := by decide +kernel
theorem dX15_isPower_112 : decode cX15_isPower 112 = .ok (.getfield 141, 3) := by decide +kernel
theorem dX15_isPower_115 : decode cX15_isPower 115 = .ok (.iconst 1, 1) := by decide +kernel
theorem dX15_isPower_116 : decode cX15_isPower 116 = .ok (.iconst 1, 1) := by decide +kernel
theorem dX15_isPower_117 : decode cX15_isPower 117 = .ok (.bastore, 1) := by decide +kernel
theorem dX15_isPower_118 : decode cX15_isPower 118 = .ok (.aload_n 0, 1) := by decide +kernel
theorem dX15_isPower_119 : decode cX15_isPower 119 = .ok (.getfield 141, 3) := by decide +kernel
theorem dX15_isPower_122 : decode cX15_isPower 122 = .ok (.bipush 12, 2) := by decide +kernel
theorem dX15_isPower_124 : decode cX15_isPower 124 = .ok (.iconst 0, 1) := by decide +kernel
theorem dX15_isPower_125 : decode cX15_isPower 125 = .ok (.bastore, 1) := by decide +kernel
theorem dX15_isPower_126 : decode cX15_isPower 126 = .ok (.iconst 0, 1) := by decide +kernel
theorem dX15_isPower_127 : decode cX15_isPower 127 = .ok (.istore_n 1, 1) := by decide +kernel
theorem dX15_isPower_128 : decode cX15_isPower 128 = .ok (.iload_n 1, 1) := by decide +kernel
theorem dX15_isPower_129 : decode cX15_isPower 129 = .ok (.bipush 19, 2) := by decide +kernel
theorem dX15_isPower_131 : decode cX15_isPower 131 = .ok (.if_icmp .ge 25, 3) := by decide +kernel
theorem dX15_isPower_134 : decode cX15_isPower 134 = .ok (.aload_n 0, 1) := by decide +kernel
theorem dX15_isPower_135 : decode cX15_isPower 135 = .ok (.getfield 141, 3) := by decide +kernel
theorem dX15_isPower_138 : decode cX15_isPower 138 = .ok (.bipush 13, 2) := by decide +kernel
theorem dX15_isPower_140 : decode cX15_isPower 140 = .ok (.iload_n 1, 1) := by decide +kernel
theorem dX15_isPower_141 : decode cX15_isPower 141 = .ok (.iadd, 1) := by decide +kernel
theorem dX15_isPower_142 : decode cX15_isPower 142 = .ok (.aload_n 0, 1) := by decide +kernel
theorem dX15_isPower_143 : decode cX15_isPower 143 = .ok (.getfield 154, 3) := by decide +kernel
theorem dX15_isPower_146 : decode cX15_isPower 146 = .ok (.iload_n 1, 1) := by decide +kernel
theorem dX15_isPower_147 : decode cX15_isPower 147 = .ok (.iaload, 1) := by decide +kernel
theorem dX15_isPower_148 : decode cX15_isPower 148 = .ok (.i2b, 1) := by decide +kernel
theorem dX15_isPower_149 : decode cX15_isPower 149 = .ok (.bastore, 1) := by decide +kernel
theorem dX15_isPower_150 : decode cX15_isPower 150 = .ok (.iinc 1 1, 3) := by decide +kernel
theorem dX15_isPower_153 : decode cX15_isPower 153 = .ok (.goto (-25), 3) := by decide +kernel
theorem dX15_isPower_156 : decode cX15_isPower 156 = .ok (.aload_n 0, 1) := by decide +kernel
theorem dX15_isPower_157 : decode cX15_isPower 157 = .ok (.getfield 129, 3) := by decide +kernel
theorem dX15_isPower_160 : decode cX15_isPower 160 = .ok (.iconst 0, 1) := by decide +kernel
theorem dX15_isPower_161 : decode cX15_isPower 161 = .ok (.aload_n 0, 1) := by decide +kernel
theorem dX15_isPower_162 : decode cX15_isPower 162 = .ok (.getfield 141, 3) := by decide +kernel
theorem dX15_isPower_165 : decode cX15_isPower 165 = .ok (.bipush 32, 2) := by decide +kernel
theorem dX15_isPower_167 : decode cX15_isPower 167 = .ok (.bipush 32, 2) := by decide +kernel
theorem dX15_isPower_169 : decode cX15_isPower 169 = .ok (.invokestatic 358, 3) := by decide +kernel
theorem dX15_isPower_172 : decode cX15_isPower 172 = .ok (.aload_n 0, 1) := by decide +kernel
theorem dX15_isPower_173 : decode cX15_isPower 173 = .ok (.getfield 141, 3) := by decide +kernel
theorem dX15_isPower_176 : decode cX15_isPower 176 = .ok (.aload_n 0, 1) := by decide +kernel
theorem dX15_isPower_177 : decode cX15_isPower 177 = .ok (.getfield 126, 3) := by decide +kernel
theorem dX15_isPower_180 : decode cX15_isPower 180 = .ok (.invokestatic 548, 3) := by decide +kernel
theorem dX15_isPower_183 : decode cX15_isPower 183 = .ok (.iconst 1, 1) := by decide +kernel
theorem dX15_isPower_184 : decode cX15_isPower 184 = .ok (.istore_n 1, 1) := by decide +kernel
theorem dX15_isPower_185 : decode cX15_isPower 185 = .ok (.iconst 0, 1) := by decide +kernel
theorem dX15_isPower_186 : decode cX15_isPower 186 = .ok (.istore_n 2, 1) := by decide +kernel
theorem dX15_isPower_187 : decode cX15_isPower 187 = .ok (.iload_n 2, 1) := by decide +kernel
theorem dX15_isPower_188 : decode cX15_isPower 188 = .ok (.bipush 33, 2) := by decide +kernel
theorem dX15_isPower_190 : decode cX15_isPower 190 = .ok (.if_icmp .ge 32, 3) := by decide +kernel
theorem dX15_isPower_193 : decode cX15_isPower 193 = .ok (.iload_n 1, 1) := by decide +kernel
theorem dX15_isPower_194 : decode cX15_isPower 194 = .ok (.aload_n 0, 1) := by decide +kernel
theorem dX15_isPower_195 : decode cX15_isPower 195 = .ok (.getfield 126, 3) := by decide +kernel
theorem dX15_isPower_198 : decode cX15_isPower 198 = .ok (.iload_n 2, 1) := by decide +kernel
theorem dX15_isPower_199 : decode cX15_isPower 199 = .ok (.iaload, 1) := by decide +kernel
theorem dX15_isPower_200 : decode cX15_isPower 200 = .ok (.aload_n 0, 1) := by decide +kernel
theorem dX15_isPower_201 : decode cX15_isPower 201 = .ok (.getfield 117, 3) := by decide +kernel
theorem dX15_isPower_204 : decode cX15_isPower 204 = .ok (.iload_n 2, 1) := by decide +kernel
theorem dX15_isPower_205 : decode cX15_isPower 205 = .ok (.iaload, 1) := by decide +kernel
theorem dX15_isPower_206 : decode cX15_isPower 206 = .ok (.if_icmp .ne 7, 3) := by decide +kernel
theorem dX15_isPower_209 : decode cX15_isPower 209 = .ok (.iconst 1, 1) := by decide +kernel
theorem dX15_isPower_210 : decode cX15_isPower 210 = .ok (.goto 4, 3) := by decide +kernel
theorem dX15_isPower_213 : decode cX15_isPower 213 = .ok (.iconst 0, 1) := by decide +kernel
theorem dX15_isPower_214 : decode cX15_isPower 214 = .ok (.iand, 1) := by decide +kernel
theorem dX15_isPower_215 : decode cX15_isPower 215 = .ok (.istore_n 1, 1) := by decide +kernel
theorem dX15_isPower_216 : decode cX15_isPower 216 = .ok (.iinc 2 1, 3) := by decide +kernel
theorem dX15_isPower_219 : decode cX15_isPower 219 = .ok (.goto (-32), 3) := by decide +kernel
theorem dX15_isPower_222 : decode cX15_isPower 222 = .ok (.iload_n 1, 1) := by decide +kernel
theorem dX15_isPower_223 : decode cX15_isPower 223 = .ok (.ireturn, 1) := by decide +kernel
theorem dX15_keyOf_0 : decode cX15_keyOf 0 = .ok (.aload_n 0, 1) := by decide +kernel
theorem dX15_keyOf_1 : decode cX15_keyOf 1 = .ok (.aload_n 0, 1) := by decide +kernel
theorem dX15_keyOf_2 : decode cX15_keyOf 2 = .ok (.getfield 144, 3) := by decide +kernel
theorem dX15_keyOf_5 : decode cX15_keyOf 5 = .ok (.invokevirtual 308, 3) := by decide +kernel
theorem dX15_keyOf_8 : decode cX15_keyOf 8 = .ok (.ifCond .eq 5, 3) := by decide +kernel
theorem dX15_keyOf_11 : decode cX15_keyOf 11 = .ok (.iconst 5, 1) := by decide +kernel
theorem dX15_keyOf_12 : decode cX15_keyOf 12 = .ok (.ireturn, 1) := by decide +kernel
theorem dX15_keyOf_13 : decode cX15_keyOf 13 = .ok (.iconst 0, 1) := by decide +kernel
theorem dX15_keyOf_14 : decode cX15_keyOf 14 = .ok (.istore_n 1, 1) := by decide +kernel
theorem dX15_keyOf_15 : decode cX15_keyOf 15 = .ok (.iload_n 1, 1) := by decide +kernel
theorem dX15_keyOf_16 : decode cX15_keyOf 16 = .ok (.aload_n 0, 1) := by decide +kernel
theorem dX15_keyOf_17 : decode cX15_keyOf 17 = .ok (.getfield 177, 3) := by decide +kernel
theorem dX15_keyOf_20 : decode cX15_keyOf 20 = .ok (.if_icmp .ge 22, 3) := by decide +kernel
theorem dX15_keyOf_23 : decode cX15_keyOf 23 = .ok (.aload_n 0, 1) := by decide +kernel
theorem dX15_keyOf_24 : decode cX15_keyOf 24 = .ok (.iload_n 1, 1) := by decide +kernel
theorem dX15_keyOf_25 : decode cX15_keyOf 25 = .ok (.iconst 0, 1) := by decide +kernel
theorem dX15_keyOf_26 : decode cX15_keyOf 26 = .ok (.aload_n 0, 1) := by decide +kernel
theorem dX15_keyOf_27 : decode cX15_keyOf 27 = .ok (.getfield 144, 3) := by decide +kernel
theorem dX15_keyOf_30 : decode cX15_keyOf 30 = .ok (.invokevirtual 196, 3) := by decide +kernel
theorem dX15_keyOf_33 : decode cX15_keyOf 33 = .ok (.ifCond .ne 9, 3) := by decide +kernel
theorem dX15_keyOf_36 : decode cX15_keyOf 36 = .ok (.iinc 1 1, 3) := by decide +kernel
theorem dX15_keyOf_39 : decode cX15_keyOf 39 = .ok (.goto (-24), 3) := by decide +kernel
theorem dX15_keyOf_42 : decode cX15_keyOf 42 = .ok (.iload_n 1, 1) := by decide +kernel
theorem dX15_keyOf_43 : decode cX15_keyOf 43 = .ok (.aload_n 0, 1) := by decide +kernel
theorem dX15_keyOf_44 : decode cX15_keyOf 44 = .ok (.getfield 177, 3) := by decide +kernel
theorem dX15_keyOf_47 : decode cX15_keyOf 47 = .ok (.if_icmp .ne 6, 3) := by decide +kernel
theorem dX15_keyOf_50 : decode cX15_keyOf 50 = .ok (.bipush 6, 2) := by decide +kernel
theorem dX15_keyOf_52 : decode cX15_keyOf 52 = .ok (.ireturn, 1) := by decide +kernel
theorem dX15_keyOf_53 : decode cX15_keyOf 53 = .ok (.aload_n 0, 1) := by decide +kernel
theorem dX15_keyOf_54 : decode cX15_keyOf 54 = .ok (.getfield 51, 3) := by decide +kernel
theorem dX15_keyOf_57 : decode cX15_keyOf 57 = .ok (.iload_n 1, 1) := by decide +kernel
theorem dX15_keyOf_58 : decode cX15_keyOf 58 = .ok (.aaload, 1) := by decide +kernel
theorem dX15_keyOf_59 : decode cX15_keyOf 59 = .ok (.getfield 295, 3) := by decide +kernel
theorem dX15_keyOf_62 : decode cX15_keyOf 62 = .ok (.iconst 0, 1) := by decide +kernel
theorem dX15_keyOf_63 : decode cX15_keyOf 63 = .ok (.aload_n 0, 1) := by decide +kernel
theorem dX15_keyOf_64 : decode cX15_keyOf 64 = .ok (.getfield 51, 3) := by decide +kernel
theorem dX15_keyOf_67 : decode cX15_keyOf 67 = .ok (.iload_n 1, 1) := by decide +kernel
theorem dX15_keyOf_68 : decode cX15_keyOf 68 = .ok (.aaload, 1) := by decide +kernel
theorem dX15_keyOf_69 : decode cX15_keyOf 69 = .ok (.getfield 190, 3) := by decide +kernel
theorem dX15_keyOf_72 : decode cX15_keyOf 72 = .ok (.aload_n 0, 1) := by decide +kernel
theorem dX15_keyOf_73 : decode cX15_keyOf 73 = .ok (.getfield 101, 3) := by decide +kernel
theorem dX15_keyOf_76 : decode cX15_keyOf 76 = .ok (.getfield 409, 3) := by decide +kernel
theorem dX15_keyOf_79 : decode cX15_keyOf 79 = .ok (.invokestatic 507, 3) := by decide +kernel
theorem dX15_keyOf_82 : decode cX15_keyOf 82 = .ok (.aload_n 0, 1) := by decide +kernel
theorem dX15_keyOf_83 : decode cX15_keyOf 83 = .ok (.getfield 101, 3) := by decide +kernel
theorem dX15_keyOf_86 : decode cX15_keyOf 86 = .ok (.bipush 8, 2) := by decide +kernel
theorem dX15_keyOf_88 : decode cX15_keyOf 88 = .ok (.invokevirtual 441, 3) := by decide +kernel
theorem dX15_keyOf_91 : decode cX15_keyOf 91 = .ok (.ifCond .eq 48, 3) := by decide +kernel
theorem dX15_keyOf_94 : decode cX15_keyOf 94 = .ok (.aload_n 0, 1) := by decide +kernel
theorem dX15_keyOf_95 : decode cX15_keyOf 95 = .ok (.getfield 101, 3) := by decide +kernel
theorem dX15_keyOf_98 : decode cX15_keyOf 98 = .ok (.ldc_w 533, 3) := by decide +kernel
theorem dX15_keyOf_101 : decode cX15_keyOf 101 = .ok (.bipush 64, 2) := by decide +kernel
theorem dX15_keyOf_103 : decode cX15_keyOf 103 = .ok (.aload_n 0, 1) := by decide +kernel
theorem dX15_keyOf_104 : decode cX15_keyOf 104 = .ok (.getfield 138, 3) := by decide +kernel
theorem dX15_keyOf_107 : decode cX15_keyOf 107 = .ok (.invokestatic 464, 3) := by decide +kernel
theorem dX15_keyOf_110 : decode cX15_keyOf 110 = .ok (.ifCond .eq 29, 3) := by decide +kernel
theorem dX15_keyOf_113 : decode cX15_keyOf 113 = .ok (.aload_n 0, 1) := by decide +kernel
theorem dX15_keyOf_114 : decode cX15_keyOf 114 = .ok (.getfield 138, 3) := by decide +kernel
theorem dX15_keyOf_117 : decode cX15_keyOf 117 = .ok (.iconst 0, 1) := by decide +kernel
theorem dX15_keyOf_118 : decode cX15_keyOf 118 = .ok (.baload, 1) := by decide +kernel
theorem dX15_keyOf_119 : decode cX15_keyOf 119 = .ok (.ifCond .ge 20, 3) := by decide +kernel
theorem dX15_keyOf_122 : decode cX15_keyOf 122 = .ok (.aload_n 0, 1) := by decide +kernel
theorem dX15_keyOf_123 : decode cX15_keyOf 123 = .ok (.getfield 138, 3) := by decide +kernel
theorem dX15_keyOf_126 : decode cX15_keyOf 126 = .ok (.bipush 63, 2) := by decide +kernel
theorem dX15_keyOf_128 : decode cX15_keyOf 128 = .ok (.baload, 1) := by decide +kernel
theorem dX15_keyOf_129 : decode cX15_keyOf 129 = .ok (.iconst 1, 1) := by decide +kernel
theorem dX15_keyOf_130 : decode cX15_keyOf 130 = .ok (.iand, 1) := by decide +kernel
theorem dX15_keyOf_131 : decode cX15_keyOf 131 = .ok (.iconst 1, 1) := by decide +kernel
theorem dX15_keyOf_132 : decode cX15_keyOf 132 = .ok (.if_icmp .ne 7, 3) := by decide +kernel
theorem dX15_keyOf_135 : decode cX15_keyOf 135 = .ok (.iconst 1, 1) := by decide +kernel
theorem dX15_keyOf_136 : decode cX15_keyOf 136 = .ok (.goto 4, 3) := by decide +kernel
theorem dX15_keyOf_139 : decode cX15_keyOf 139 = .ok (.iconst 0, 1) := by decide +kernel
theorem dX15_keyOf_140 : decode cX15_keyOf 140 = .ok (.istore_n 2, 1) := by decide +kernel
theorem dX15_keyOf_141 : decode cX15_keyOf 141 = .ok (.iload_n 2, 1) := by decide +kernel
theorem dX15_keyOf_142 : decode cX15_keyOf 142 = .ok (.aload_n 0, 1) := by decide +kernel
theorem dX15_keyOf_143 : decode cX15_keyOf 143 = .ok (.getfield 101, 3) := by decide +kernel
theorem dX15_keyOf_146 : decode cX15_keyOf 146 = .ok (.ldc_w 444, 3) := by decide +kernel
theorem dX15_keyOf_149 : decode cX15_keyOf 149 = .ok (.invokevirtual 399, 3) := by decide +kernel
theorem dX15_keyOf_152 : decode cX15_keyOf 152 = .ok (.ifCond .lt 19, 3) := by decide +kernel
theorem dX15_keyOf_155 : decode cX15_keyOf 155 = .ok (.aload_n 0, 1) := by decide +kernel
theorem dX15_keyOf_156 : decode cX15_keyOf 156 = .ok (.getfield 101, 3) := by decide +kernel
theorem dX15_keyOf_159 : decode cX15_keyOf 159 = .ok (.ldc_w 444, 3) := by decide +kernel
theorem dX15_keyOf_162 : decode cX15_keyOf 162 = .ok (.ldc_w 535, 3) := by decide +kernel
theorem dX15_keyOf_165 : decode cX15_keyOf 165 = .ok (.invokevirtual 448, 3) := by decide +kernel
theorem dX15_keyOf_168 : decode cX15_keyOf 168 = .ok (.ifCond .eq 7, 3) := by decide +kernel
theorem dX15_keyOf_171 : decode cX15_keyOf 171 = .ok (.iconst 1, 1) := by decide +kernel
theorem dX15_keyOf_172 : decode cX15_keyOf 172 = .ok (.goto 4, 3) := by decide +kernel
theorem dX15_keyOf_175 : decode cX15_keyOf 175 = .ok (.iconst 0, 1) := by decide +kernel
theorem dX15_keyOf_176 : decode cX15_keyOf 176 = .ok (.iand, 1) := by decide +kernel
theorem dX15_keyOf_177 : decode cX15_keyOf 177 = .ok (.istore_n 2, 1) := by decide +kernel
theorem dX15_keyOf_178 : decode cX15_keyOf 178 = .ok (.iload_n 2, 1) := by decide +kernel
theorem dX15_keyOf_179 : decode cX15_keyOf 179 = .ok (.aload_n 0, 1) := by decide +kernel
theorem dX15_keyOf_180 : decode cX15_keyOf 180 = .ok (.getfield 101, 3) := by decide +kernel
theorem dX15_keyOf_183 : decode cX15_keyOf 183 = .ok (.ldc_w 537, 3) := by decide +kernel
theorem dX15_keyOf_186 : decode cX15_keyOf 186 = .ok (.invokevirtual 399, 3) := by decide +kernel
theorem dX15_keyOf_189 : decode cX15_keyOf 189 = .ok (.ifCond .lt 19, 3) := by decide +kernel
theorem dX15_keyOf_192 : decode cX15_keyOf 192 = .ok (.aload_n 0, 1) := by decide +kernel
theorem dX15_keyOf_193 : decode cX15_keyOf 193 = .ok (.getfield 101, 3) := by decide +kernel
theorem dX15_keyOf_196 : decode cX15_keyOf 196 = .ok (.ldc_w 537, 3) := by decide +kernel
theorem dX15_keyOf_199 : decode cX15_keyOf 199 = .ok (.ldc_w 539, 3) := by decide +kernel
theorem dX15_keyOf_202 : decode cX15_keyOf 202 = .ok (.invokevirtual 448, 3) := by decide +kernel
theorem dX15_keyOf_205 : decode cX15_keyOf 205 = .ok (.ifCond .eq 7, 3) := by decide +kernel
theorem dX15_keyOf_208 : decode cX15_keyOf 208 = .ok (.iconst 1, 1) := by decide +kernel
theorem dX15_keyOf_209 : decode cX15_keyOf 209 = .ok (.goto 4, 3) := by decide +kernel
theorem dX15_keyOf_212 : decode cX15_keyOf 212 = .ok (.iconst 0, 1) := by decide +kernel
theorem dX15_keyOf_213 : decode cX15_keyOf 213 = .ok (.iand, 1) := by decide +kernel
theorem dX15_keyOf_214 : decode cX15_keyOf 214 = .ok (.istore_n 2, 1) := by decide +kernel
theorem dX15_keyOf_215 : decode cX15_keyOf 215 = .ok (.iload_n 2, 1) := by decide +kernel
theorem dX15_keyOf_216 : decode cX15_keyOf 216 = .ok (.ifCond .eq 7, 3) := by decide +kernel
theorem dX15_keyOf_219 : decode cX15_keyOf 219 = .ok (.iconst 2, 1) := by decide +kernel
theorem dX15_keyOf_220 : decode cX15_keyOf 220 = .ok (.goto 5, 3) := by decide +kernel
theorem dX15_keyOf_223 : decode cX15_keyOf 223 = .ok (.bipush 6, 2) := by decide +kernel
theorem dX15_keyOf_225 : decode cX15_keyOf 225 = .ok (.ireturn, 1) := by decide +kernel
theorem kt_922 : Cond.fieldLink RX15 138 "PostGateModel" "modulus64" "[B" ∈ tb := tb_at (i := 1336) (by decide +kernel) (by decide +kernel)
theorem kt_923 : Cond.code yX15_digits cX15_digits 3 none ∈ tb := tb_at (i := 1824) (by decide +kernel) (by decide +kernel)
theorem kt_924 : Cond.methodLink RX15 548 yX15_digits ∈ tb := tb_at (i := 1822) (by decide +kernel) (by decide +kernel)
theorem kt_925 : Cond.static yX15_digits ∈ tb := tb_at (i := 1823) (by decide +kernel) (by decide +kernel)
theorem kt_926 : Cond.fieldLink RX15 120 "PostGateModel" "number" "[I" ∈ tb := tb_at (i := 1330) (by decide +kernel) (by decide +kernel)
theorem kt_927 : Cond.code yX15_times cX15_times 6 none ∈ tb := tb_at (i := 1839) (by decide +kernel) (by decide +kernel)
theorem kt_928 : Cond.methodLink RX15 552 yX15_times ∈ tb := tb_at (i := 1836) (by decide +kernel) (by decide +kernel)
theorem kt_929 : Cond.instanceMethod yX15_times ∈ tb := tb_at (i := 1838) (by decide +kernel) (by decide +kernel)
theorem kt_930 : Cond.selects RX15 yX15_times yX15_times ∈ tb := tb_at (i := 75) (by decide +kernel) (by decide +kernel)
theorem kt_931 : Cond.fieldLink RX15 141 "PostGateModel" "expected" "[B" ∈ tb := tb_at (i := 1337) (by decide +kernel) (by decide +kernel)
theorem kt_932 : Cond.code yJ7_fill_031fb cJ7_fill_031fb 4 none ∈ tb := tb_at (i := 1843) (by decide +kernel) (by decide +kernel)
theorem kt_933 : Cond.methodLink RX15 556 yJ7_fill_031fb ∈ tb := tb_at (i := 1841) (by decide +kernel) (by decide +kernel)
theorem kt_934 : Cond.static yJ7_fill_031fb ∈ tb := tb_at (i := 1842) (by decide +kernel) (by decide +kernel)
theorem kt_935 : Cond.fieldLink RX15 129 "PostGateModel" "hashed" "[B" ∈ tb := tb_at (i := 1333) (by decide +kernel) (by decide +kernel)
theorem kt_936 : Cond.fieldLink RX15 126 "PostGateModel" "square" "[I" ∈ tb := tb_at (i := 1332) (by decide +kernel) (by decide +kernel)
theorem kt_937 : Cond.fieldLink RX15 154 "PostGateModel" "head" "[I" ∈ tb := tb_at (i := 1344) (by decide +kernel) (by decide +kernel)
theorem kt_938 : Cond.fieldLink RX15 144 "PostGateModel" "where" "LPostGateModel$Text;" ∈ tb := tb_at (i := 1338) (by decide +kernel) (by decide +kernel)
theorem kt_939 : Cond.fieldLink RX15 101 "PostGateModel" "key" "LPostGateModel$Tags;" ∈ tb := tb_at (i := 1325) (by decide +kernel) (by decide +kernel)
theorem kt_940 : Cond.code yX15_withoutWhite cX15_withoutWhite 5 none ∈ tb := tb_at (i := 1701) (by decide +kernel) (by decide +kernel)
theorem kt_941 : Cond.methodLink RX15 507 yX15_withoutWhite ∈ tb := tb_at (i := 1699) (by decide +kernel) (by decide +kernel)
theorem kt_942 : Cond.static yX15_withoutWhite ∈ tb := tb_at (i := 1700) (by decide +kernel) (by decide +kernel)
theorem kt_943 : Cond.fieldLink RX15 150 "PostGateModel" "taken" "[Z" ∈ tb := tb_at (i := 1340) (by decide +kernel) (by decide +kernel)
theorem kt_944 : Cond.code yJ7_fill_49daa cJ7_fill_49daa 4 none ∈ tb := tb_at (i := 1813) (by decide +kernel) (by decide +kernel)
theorem kt_945 : Cond.methodLink RX15 541 yJ7_fill_49daa ∈ tb := tb_at (i := 1811) (by decide +kernel) (by decide +kernel)
theorem kt_946 : Cond.static yJ7_fill_49daa ∈ tb := tb_at (i := 1812) (by decide +kernel) (by decide +kernel)
theorem kt_947 : Cond.code yX15_isAlikeTo cX15_isAlikeTo 6 (some .boolean) ∈ tb := tb_at (i := 1817) (by decide +kernel) (by decide +kernel)
theorem kt_948 : Cond.methodLink RX15 544 yX15_isAlikeTo ∈ tb := tb_at (i := 1814) (by decide +kernel) (by decide +kernel)
theorem kt_949 : Cond.instanceMethod yX15_isAlikeTo ∈ tb := tb_at (i := 1816) (by decide +kernel) (by decide +kernel)
theorem kt_950 : Cond.selects RX15 yX15_isAlikeTo yX15_isAlikeTo ∈ tb := tb_at (i := 72) (by decide +kernel) (by decide +kernel)
def tsum (gm : Nat → Nat → Nat) (ft : Nat → Int32) : Nat → Nat
  | 0 => 0
  | k + 1 => tsum gm ft k + (if ft k = 0 then 0 else gm 2 k - gm 0 k + 1)
theorem tsum_zero {gm : Nat → Nat → Nat} {ft : Nat → Int32} {n : Nat} (h : ∀ k, k < n → ft k = 0) : tsum gm ft n = 0 := by
  induction n with
  | zero => rfl
  | succ n ih =>
    show tsum gm ft n + (if ft n = 0 then 0 else gm 2 n - gm 0 n + 1) = 0
    rw [ih (fun k hk => h k (by omega)), if_pos (h n (by omega))]
theorem tsum_same {gm : Nat → Nat → Nat} {ft fu : Nat → Int32} {n : Nat} (h : ∀ k, k < n → fu k = ft k) : tsum gm fu n = tsum gm ft n := by
  induction n with
  | zero => rfl
  | succ n ih =>
    show tsum gm fu n + (if fu n = 0 then 0 else gm 2 n - gm 0 n + 1) = tsum gm ft n + (if ft n = 0 then 0 else gm 2 n - gm 0 n + 1)
    rw [ih (fun k hk => h k (by omega)), h n (by omega)]
theorem tsum_set {gm : Nat → Nat → Nat} {ft fu : Nat → Int32} {n k : Nat} (hk : k < n) (h0 : ft k = 0) (h1 : fu k ≠ 0) (h : ∀ i, i ≠ k → fu i = ft i) : tsum gm fu n = tsum gm ft n + (gm 2 k - gm 0 k + 1) := by
  induction n with
  | zero => omega
  | succ n ih =>
    show tsum gm fu n + (if fu n = 0 then 0 else gm 2 n - gm 0 n + 1) = tsum gm ft n + (if ft n = 0 then 0 else gm 2 n - gm 0 n + 1) + _
    rcases Nat.lt_or_ge k n with q | q
    · rw [ih q, h n (by omega)]
      omega
    · have e : k = n := by omega
      subst e
      rw [tsum_same (fun i hi => h i (by omega)), if_neg h1, if_pos h0]
      omega
theorem tsum_le {gm : Nat → Nat → Nat} {ft : Nat → Int32} {n nf mm : Nat} (hO : ∀ j, j < nf → gm 0 j < gm 1 j ∧ gm 1 j < gm 2 j ∧ gm 2 j ≤ mm) (hA : ∀ j, j + 1 < nf → gm 2 j ≤ gm 0 (j + 1)) (hn : n ≤ nf) : tsum gm ft n ≤ mm + n ∧ (∀ j, n = j + 1 → tsum gm ft n ≤ gm 2 j + n) := by
  induction n with
  | zero => exact ⟨Nat.zero_le _, fun j h => by omega⟩
  | succ n ih =>
    have i1 := ih (by omega)
    have o1 := hO n (by omega)
    have key : tsum gm ft (n + 1) ≤ gm 2 n + (n + 1) := by
      show tsum gm ft n + (if ft n = 0 then 0 else gm 2 n - gm 0 n + 1) ≤ _
      rcases Nat.eq_zero_or_pos n with q | q
      · subst q
        show 0 + _ ≤ _
        split <;> omega
      · have i2 := i1.2 (n - 1) (by omega)
        have a1 := hA (n - 1) (by omega)
        rw [show n - 1 + 1 = n from by omega] at a1
        split <;> omega
    exact ⟨by omega, fun j h => by rw [show j = n from by omega]; exact key⟩
theorem upd_ne1 {f : Nat → Int32} {k : Nat} : upd f k (vp_nar .boolean 1) k ≠ 0 := by
  show (if k = k then vp_nar .boolean 1 else f k) ≠ 0
  rw [if_pos rfl]
  decide
theorem upd_oth {f : Nat → Int32} {k i : Nat} {x : Int32} (h : i ≠ k) : upd f k x i = f i := if_neg h
set_option maxHeartbeats 4000000 in
set_option maxRecDepth 100000 in
theorem s_X15_isAlikeTo (l : Launch) (dC : Nat → ClassId) (dI : Nat → Nat → Nat) (cs : Nat → ClassId) (ty : TyM) (gm : Nat → Nat → Nat) (L : List Nat) (sz : Nat) (F : Nat → va_E) (h0 : Nat) (ρ : Nat) (ta : Nat) (ou : Nat) (so : Nat) (ad : Nat) (na : Nat) (va : Nat) (lc : Nat) (dm : Nat) (tg : Nat) (pe : Nat) (ml : Nat) (bg : Nat) (co : Nat) (sp : Nat) (nb0 : Nat) (nb1 : Nat) (nb2 : Nat) (pl : Nat) (se : Nat) (ke : Nat) (wi : Nat) (hs : Nat) (mo : Nat) (po : Nat) (nu : Nat) (pr : Nat) (sq : Nat) (xa : Nat) (sa : Nat) (n64 : Nat) (m64 : Nat) (ex : Nat) (wh : Nat) (sd : Nat) (tk : Nat) (hd : Nat) (ak : Nat) (ho : Nat) (ot : Nat) (sx : Nat) (s0 : Nat) (s1 : Nat) (s2 : Nat) (nf : Nat) (bd : Nat) (mm : Nat) (fm : Nat) (sn : Nat) (hg : Nat) (gc : Nat) (gv : Nat) (ze : Nat) (zt : Nat) (g1 : Nat) (σ : Nat) (n1 : Nat) (jf : Nat) (a : Nat) (tt : Nat) (hW : WTm ty gm L) (hL_h0 : h0 ∈ L) (hT_h0 : ty h0 = (15, ρ, [ta, ou, so, ad, na, va, lc, dm, tg, pe, ml, bg, co, sp, nb0, nb1, nb2, pl, se, ke, wi, hs, mo, po, nu, pr, sq, xa, sa, n64, m64, ex, wh, sd, tk, hd, ak, ho, ot, sx, s0, s1, s2, nf, bd, mm, fm, sn, hg, gc, gv, ze, zt])) (hL_g1 : g1 ∈ L) (hT_g1 : ty g1 = (17, σ, [n1])) (hjf : jf < nf) (ha : a ≤ tt) (htn : tt ≤ n1) : Met l yX15_isAlikeTo (.code yX15_isAlikeTo cX15_isAlikeTo 6 (some .boolean) :: tb) ({ frames := 1, cells := 0, slots := 0, locals := 20 }) (va_Pc [.ref h0, .int (nI jf), .ref g1, .int (nI a), .int (nI tt)] (PTm (dC, dI) cs ty gm L F sz)) (va_Qi (fun (r : Int32) (_ : Unit) => (r = 0 ∨ r = 1)) (fun _ T9 => ∃ F2 : Nat → va_E, QTm (dC, dI) cs ty gm L [] F F2 (va_A (va_pl L F) sz) T9) (va_A (va_pl L F) sz)) 0 0 (va_A (va_pl L F) sz) := by
  refine Met.ofW (cc := cX15_isAlikeTo) (maxL := 6) (ret := (some .boolean)) (by decide) rfl ?_
  intro p e s m args below meth c s₁ B hml hv
  obtain ⟨rfl, hsz, hP, hK, hD0, hE, hO⟩ := hv
  have hx := B.exec
  have hb := B.bytes
  have hr := B.returns
  have hts : ∀ w ∈ tb, w.before _ s = true := fun w h => atoms_spec (ws := .code yX15_isAlikeTo cX15_isAlikeTo 6 (some .boolean) :: tb) B.pre w (List.mem_cons_of_mem _ h)
  have hown : s.vm.findClass RX15 = some m.cls := findClass_of_methodNamed B.named
  have hlocks := B.notSynchronized
  subst hsz
  have hD := hD0.self (sz := s.heap.size)
  generalize hAe : va_A (va_pl L F) s.heap.size = A at hD ⊢
  have hA : ∀ q : Nat, s.heap.size ≤ q → A q := fun q h => by rw [← hAe]; exact Or.inr h
  have hS : va_S A s.heap s.heap [] := va_S.rf
  have hR : FR ty [] F F := FR.refl
  have hl := lv_entry ([.ref h0, .int (nI jf), .ref g1, .int (nI a), .int (nI tt)]) (n := 6) (Nat.le_of_ble_eq_true rfl)
  rw [lg_entry_eq]
  generalize (lg_sl ([.ref h0, .int (nI jf), .ref g1, .int (nI a), .int (nI tt)]) ++ List.replicate (6 - (lg_sl ([.ref h0, .int (nI jf), .ref g1, .int (nI a), .int (nI tt)])).length) Slot.unset).toArray = ls at hl ⊢
  have hl : lv_has ls 6 [(0, .ref h0), (1, .int (nI jf)), (2, .ref g1), (3, .int (nI a)), (4, .int (nI tt))] := hl
  obtain ⟨hq_23, hq_24, hq_25, hq_26, hq_27, hgO, hgA, hgB, hq_28⟩ := hW.sc hL_h0 hT_h0
  have hoj := hgO jf hjf
  obtain ⟨hq_29, hq_30⟩ := hW.octs hL_g1 hT_g1
  refine lv_aload_n hx hb dX15_isAlikeTo_0 rfl (lv_at hl 0 rfl) ?_
  obtain ⟨zo_31, v14_32, v15_33, v17_34, v18_35, v19_36, v20_37, v21_38, v22_39, v33_40, v52_41, v53_42, v54_43, hF_44, hq_45, hq_46, hq_47, hq_48, hq_49⟩ := hO.mod hL_h0 hT_h0
  refine pg_get (ci := 15) (v := .ref co) (C := RX15) (T := TX15) (N := 59) hx hb hts it_15 hown hK hP hL_h0 hF_44 rfl 25 (by decide) (hts _ kt_889) (fun _ h9 => h9) rfl dX15_isAlikeTo_1 ?_
  refine lv_iload_n hx hb dX15_isAlikeTo_4 rfl (lv_at hl 1 rfl) ?_
  obtain ⟨hi_50, ht_51⟩ := hW.f_co hL_h0 hT_h0
  obtain ⟨f_52, hF_53, hq_54⟩ := hO.pos hi_50 ht_51
  refine pg_iald hx hb hK hP hi_50 0 hF_53 rfl (vp_in_nI (by omega) (by omega)) dX15_isAlikeTo_5 ?_
  refine lv_topi (fun x_55 ex_55 => ?_)
  obtain rfl : x_55 = (nI (gm 1 jf)) := ex_55.trans (by rw [show ((nI jf) : Int32) = nI jf from rfl, nI_clamp (by omega)]; exact hq_54 jf (by omega))
  have hgbx_55 := hgB 1 jf
  refine lv_aload_n hx hb dX15_isAlikeTo_6 rfl (lv_at hl 0 rfl) ?_
  refine pg_get (ci := 15) (v := .ref bg) (C := RX15) (T := TX15) (N := 59) hx hb hts it_15 hown hK hP hL_h0 hF_44 rfl 24 (by decide) (hts _ kt_888) (fun _ h9 => h9) rfl dX15_isAlikeTo_7 ?_
  refine lv_iload_n hx hb dX15_isAlikeTo_10 rfl (lv_at hl 1 rfl) ?_
  obtain ⟨hi_56, ht_57⟩ := hW.f_bg hL_h0 hT_h0
  obtain ⟨f_58, hF_59, hq_60⟩ := hO.pos hi_56 ht_57
  refine pg_iald hx hb hK hP hi_56 0 hF_59 rfl (vp_in_nI (by omega) (by omega)) dX15_isAlikeTo_11 ?_
  refine lv_topi (fun x_61 ex_61 => ?_)
  obtain rfl : x_61 = (nI (gm 0 jf)) := ex_61.trans (by rw [show ((nI jf) : Int32) = nI jf from rfl, nI_clamp (by omega)]; exact hq_60 jf (by omega))
  have hgbx_61 := hgB 0 jf
  refine lv_isub hx hb dX15_isAlikeTo_12 ?_
  refine lv_topi (fun x_62 ex_62 => ?_)
  obtain rfl : x_62 = (nI ((gm 1 jf) - (gm 0 jf))) := ex_62.trans (pk_sub (a := (gm 1 jf)) (b := (gm 0 jf)) (by omega))
  refine lv_iload hx hb dX15_isAlikeTo_13 (lv_at hl 4 rfl) ?_
  refine lv_iload_n hx hb dX15_isAlikeTo_15 rfl (lv_at hl 3 rfl) ?_
  refine lv_isub hx hb dX15_isAlikeTo_16 ?_
  refine lv_topi (fun x_63 ex_63 => ?_)
  obtain rfl : x_63 = (nI (tt - a)) := ex_63.trans (pk_sub (a := tt) (b := a) (by omega))
  refine lv_icmp_eq (tgt := 22) hx hb dX15_isAlikeTo_17 (by decide) (fun c_64 => ?_) (fun c_64 => ?_)
  ·
    have hi_65 : ((gm 1 jf) - (gm 0 jf)) = (tt - a) := (nI_eq (a := ((gm 1 jf) - (gm 0 jf))) (b := (tt - a)) (by omega) (by omega)).mp c_64
    refine lv_iconst (v := 0) hx hb dX15_isAlikeTo_22 (by decide) ?_
    refine lv_istore (lv' := [(5, .int 0), (0, .ref h0), (1, .int (nI jf)), (2, .ref g1), (3, .int (nI a)), (4, .int (nI tt))]) hx hb dX15_isAlikeTo_23 hl (by decide) rfl (fun ls hl => ?_)
    refine W.widen (k := 0) (n := 0) (by omega) (by omega) ?_
    refine pl_loopm (σ := Nat) A (dC, dI) cs ty gm L [] F 25 6 (fun j => [(5, .int (nI j)), (0, .ref h0), (1, .int (nI jf)), (2, .ref g1), (3, .int (nI a)), (4, .int (nI tt))]) (fun j => []) (fun j _ => j ≤ tt - a) (fun j => tt - a - j) ?_ 0 F (by omega) hO hR _ _ hP hD hS ls (lv_sub hl [0, 1, 2, 3, 4, 5] rfl)
    rintro j F_66 hv_67 hO hR ih_68 H locs hP hD hS ls hl
    have hl : lv_has ls 6 [(5, .int (nI j)), (0, .ref h0), (1, .int (nI jf)), (2, .ref g1), (3, .int (nI a)), (4, .int (nI tt))] := hl
    have hv_67 : j ≤ tt - a := hv_67
    refine W.eq (g2 := F0 m 25 ls []) rfl ?_
    obtain rfl : F = F_66 := (funext (fun a => hR a List.not_mem_nil)).symm
    refine lv_iload hx hb dX15_isAlikeTo_25 (lv_at hl 0 rfl) ?_
    refine lv_iload hx hb dX15_isAlikeTo_27 (lv_at hl 5 rfl) ?_
    refine lv_iload_n hx hb dX15_isAlikeTo_29 rfl (lv_at hl 4 rfl) ?_
    refine lv_isub hx hb dX15_isAlikeTo_30 ?_
    refine lv_topi (fun x_69 ex_69 => ?_)
    obtain rfl : x_69 = (nI (tt - a)) := ex_69.trans (pk_sub (a := tt) (b := a) (by omega))
    refine lv_icmp_ge (tgt := 71) hx hb dX15_isAlikeTo_31 (by decide) (fun c_70 => ?_) (fun c_70 => ?_)
    ·
      have hi_71 : (tt - a) ≤ j := leN (N := (tt - a)) c_70
      refine lv_iconst (v := 1) hx hb dX15_isAlikeTo_71 (by decide) ?_
      refine W.widen (k := 0) (n := 0) (by omega) (by omega) ?_
      exact W.zret (v := 1) (ty := .boolean) hx hb hr (by decide) (fun t ht hWm => ⟨⟨1, (), rfl, (by first | exact Or.inl rfl | exact Or.inr rfl), ⟨F, QTm.mk ht hP hD hO hR⟩⟩, hS.F ht⟩) hS.2.2 dX15_isAlikeTo_72
    ·
      have hi_72 : j < (tt - a) := ltN (N := (tt - a)) c_70
      refine lv_aload_n hx hb dX15_isAlikeTo_34 rfl (lv_at hl 1 rfl) ?_
      refine pg_get (ci := 15) (v := .ref ml) (C := RX15) (T := TX15) (N := 59) hx hb hts it_15 hown hK hP hL_h0 hF_44 rfl 23 (by decide) (hts _ kt_887) (fun _ h9 => h9) rfl dX15_isAlikeTo_35 ?_
      refine lv_aload_n hx hb dX15_isAlikeTo_38 rfl (lv_at hl 1 rfl) ?_
      refine pg_get (ci := 15) (v := .ref bg) (C := RX15) (T := TX15) (N := 59) hx hb hts it_15 hown hK hP hL_h0 hF_44 rfl 24 (by decide) (hts _ kt_888) (fun _ h9 => h9) rfl dX15_isAlikeTo_39 ?_
      refine lv_iload_n hx hb dX15_isAlikeTo_42 rfl (lv_at hl 2 rfl) ?_
      refine pg_iald hx hb hK hP hi_56 0 hF_59 rfl (vp_in_nI (by omega) (by omega)) dX15_isAlikeTo_43 ?_
      refine lv_topi (fun x_73 ex_73 => ?_)
      obtain rfl : x_73 = (nI (gm 0 jf)) := ex_73.trans (by rw [show ((nI jf) : Int32) = nI jf from rfl, nI_clamp (by omega)]; exact hq_60 jf (by omega))
      have hgbx_73 := hgB 0 jf
      refine lv_iload hx hb dX15_isAlikeTo_44 (lv_at hl 0 rfl) ?_
      refine lv_iadd hx hb dX15_isAlikeTo_46 ?_
      refine lv_topi (fun x_74 ex_74 => ?_)
      obtain rfl : x_74 = (nI ((gm 0 jf) + j)) := ex_74.trans (nI_add (gm 0 jf) j)
      obtain ⟨hi_75, ht_76⟩ := hW.f_ml hL_h0 hT_h0
      obtain ⟨hq_77, hq_78⟩ := hW.octs hi_75 ht_76
      obtain ⟨f_79, hF_80, hq_81⟩ := hO.octs hi_75 ht_76
      refine pg_bald hx hb hK hP hi_75 1 hF_80 rfl (vp_in_nI (by omega) (by omega)) dX15_isAlikeTo_47 ?_
      refine lv_topi (fun x_82 ex_82 => ?_)
      obtain rfl : x_82 = f_79 ((gm 0 jf) + j) := ex_82.trans (congrArg f_79 (show ((nI ((gm 0 jf) + j)) : Int32).toNatClampNeg = ((gm 0 jf) + j) from nI_clamp (by omega)))
      have hFc := pg_free hD hS hA
      refine va_calli (va_runS (As := [.int (f_79 ((gm 0 jf) + j))]) (rest := []) ⟨hx, hb, hml, hown, hts⟩ (s_X15_small l dC dI cs ty gm L H.size F (f_79 ((gm 0 jf) + j)) hW ) ⟨callB_of 1 hts (gi kt_697) rfl rfl rfl (hts _ kt_669) (hts _ kt_698) (by decide +kernel) ⟨Nat.le_of_ble_eq_true rfl, Nat.le_of_ble_eq_true rfl⟩, (hts _ kt_699)⟩ ⟨fun a U g mk q => ⟨q.1, PTm.calling q.2⟩, fun U hU hWm => ⟨rfl, PTm.mk hU hWm hP hK hD hE hO⟩⟩ rfl rfl hl.1 rfl (lv_room (Nat.le_of_ble_eq_true rfl)) dX15_isAlikeTo_48 ⟨by show _ + 0 ≤ 0; omega, by show _ + 0 ≤ 0; omega⟩) hS (fun q _ h => hFc q h) hFc (fun r_83 u t H1 locs ht hvm hw hB hz1 hk1 hS => ?_)
      obtain ⟨F_84, hB1⟩ := hB
      obtain rfl : F = F_84 := (funext (fun a => hB1.2.2.2 a List.not_mem_nil)).symm
      obtain ⟨hP, hD, hO, hR⟩ := QTm.back hB1 ht hFc hR (fun q h => absurd h List.not_mem_nil)
      generalize H1 = H at hP hS ⊢
      have hw : True := hw
      have hw_85 := hw
      refine lv_aload_n hx hb dX15_isAlikeTo_51 rfl (lv_at hl 3 rfl) ?_
      refine lv_iload_n hx hb dX15_isAlikeTo_52 rfl (lv_at hl 4 rfl) ?_
      refine lv_iload hx hb dX15_isAlikeTo_53 (lv_at hl 0 rfl) ?_
      refine lv_iadd hx hb dX15_isAlikeTo_55 ?_
      refine lv_topi (fun x_86 ex_86 => ?_)
      obtain rfl : x_86 = (nI (a + j)) := ex_86.trans (nI_add a j)
      obtain ⟨f_87, hF_88, hq_89⟩ := hO.octs hL_g1 hT_g1
      refine pg_bald hx hb hK hP hL_g1 1 hF_88 rfl (vp_in_nI (by omega) (by omega)) dX15_isAlikeTo_56 ?_
      refine lv_topi (fun x_90 ex_90 => ?_)
      obtain rfl : x_90 = f_87 (a + j) := ex_90.trans (congrArg f_87 (show ((nI (a + j)) : Int32).toNatClampNeg = (a + j) from nI_clamp (by omega)))
      have hFc := pg_free hD hS hA
      refine va_calli (va_runS (As := [.int (f_87 (a + j))]) (rest := [.int r_83]) ⟨hx, hb, hml, hown, hts⟩ (s_X15_small l dC dI cs ty gm L H.size F (f_87 (a + j)) hW ) ⟨callB_of 1 hts (gi kt_697) rfl rfl rfl (hts _ kt_669) (hts _ kt_698) (by decide +kernel) ⟨Nat.le_of_ble_eq_true rfl, Nat.le_of_ble_eq_true rfl⟩, (hts _ kt_699)⟩ ⟨fun a U g mk q => ⟨q.1, PTm.calling q.2⟩, fun U hU hWm => ⟨rfl, PTm.mk hU hWm hP hK hD hE hO⟩⟩ rfl rfl hl.1 rfl (lv_room (Nat.le_of_ble_eq_true rfl)) dX15_isAlikeTo_57 ⟨by show _ + 0 ≤ 0; omega, by show _ + 0 ≤ 0; omega⟩) hS (fun q _ h => hFc q h) hFc (fun r_91 u t H1 locs ht hvm hw hB hz1 hk1 hS => ?_)
      obtain ⟨F_92, hB1⟩ := hB
      obtain rfl : F = F_92 := (funext (fun a => hB1.2.2.2 a List.not_mem_nil)).symm
      obtain ⟨hP, hD, hO, hR⟩ := QTm.back hB1 ht hFc hR (fun q h => absurd h List.not_mem_nil)
      generalize H1 = H at hP hS ⊢
      have hw : True := hw
      have hw_93 := hw
      refine lv_icmp_eq (tgt := 65) hx hb dX15_isAlikeTo_60 (by decide) (fun c_94 => ?_) (fun c_94 => ?_)
      ·
        refine lv_iinc (v := (nI (j + 1))) (lv' := [(5, .int (nI (j + 1))), (0, .ref h0), (1, .int (nI jf)), (2, .ref g1), (3, .int (nI a)), (4, .int (nI tt))]) hx hb dX15_isAlikeTo_65 hl (k := 0) rfl (nI_1 _) (by decide) rfl (fun ls hl => ?_)
        refine lv_goto (tgt := 25) hx hb dX15_isAlikeTo_68 (by decide) ?_
        refine W.widen (k := 0) (n := 0) (by omega) (by omega) ?_
        exact ih_68 (j + 1) F (by first | omega | exact ⟨by omega, by omega⟩ | trivial) (by show tt - a - (j + 1) < tt - a - j; omega) hO hR _ _ hP hD hS ls (lv_sub hl [0, 1, 2, 3, 4, 5] rfl)
      ·
        refine lv_iconst (v := 0) hx hb dX15_isAlikeTo_63 (by decide) ?_
        refine W.widen (k := 0) (n := 0) (by omega) (by omega) ?_
        exact W.zret (v := 0) (ty := .boolean) hx hb hr (by decide) (fun t ht hWm => ⟨⟨0, (), rfl, (by first | exact Or.inl rfl | exact Or.inr rfl), ⟨F, QTm.mk ht hP hD hO hR⟩⟩, hS.F ht⟩) hS.2.2 dX15_isAlikeTo_64
  ·
    have hi_95 : ((gm 1 jf) - (gm 0 jf)) ≠ (tt - a) := fun q => c_64 (by rw [q])
    refine lv_iconst (v := 0) hx hb dX15_isAlikeTo_20 (by decide) ?_
    refine W.widen (k := 0) (n := 0) (by omega) (by omega) ?_
    exact W.zret (v := 0) (ty := .boolean) hx hb hr (by decide) (fun t ht hWm => ⟨⟨0, (), rfl, (by first | exact Or.inl rfl | exact Or.inr rfl), ⟨F, QTm.mk ht hP hD hO hR⟩⟩, hS.F ht⟩) hS.2.2 dX15_isAlikeTo_21
set_option maxHeartbeats 4000000 in
set_option maxRecDepth 100000 in
theorem s_X15_isPower (l : Launch) (dC : Nat → ClassId) (dI : Nat → Nat → Nat) (cs : Nat → ClassId) (ty : TyM) (gm : Nat → Nat → Nat) (L : List Nat) (sz : Nat) (F : Nat → va_E) (h0 : Nat) (ρ : Nat) (ta : Nat) (ou : Nat) (so : Nat) (ad : Nat) (na : Nat) (va : Nat) (lc : Nat) (dm : Nat) (tg : Nat) (pe : Nat) (ml : Nat) (bg : Nat) (co : Nat) (sp : Nat) (nb0 : Nat) (nb1 : Nat) (nb2 : Nat) (pl : Nat) (se : Nat) (ke : Nat) (wi : Nat) (hs : Nat) (mo : Nat) (po : Nat) (nu : Nat) (pr : Nat) (sq : Nat) (xa : Nat) (sa : Nat) (n64 : Nat) (m64 : Nat) (ex : Nat) (wh : Nat) (sd : Nat) (tk : Nat) (hd : Nat) (ak : Nat) (ho : Nat) (ot : Nat) (sx : Nat) (s0 : Nat) (s1 : Nat) (s2 : Nat) (nf : Nat) (bd : Nat) (mm : Nat) (fm : Nat) (sn : Nat) (hg : Nat) (gc : Nat) (gv : Nat) (ze : Nat) (zt : Nat) (hW : WTm ty gm L) (hL_h0 : h0 ∈ L) (hT_h0 : ty h0 = (15, ρ, [ta, ou, so, ad, na, va, lc, dm, tg, pe, ml, bg, co, sp, nb0, nb1, nb2, pl, se, ke, wi, hs, mo, po, nu, pr, sq, xa, sa, n64, m64, ex, wh, sd, tk, hd, ak, ho, ot, sx, s0, s1, s2, nf, bd, mm, fm, sn, hg, gc, gv, ze, zt])) : Met l yX15_isPower (.code yX15_isPower cX15_isPower 3 (some .boolean) :: tb) ({ frames := 3, cells := 0, slots := 0, locals := 76 }) (va_Pc [.ref h0] (PTm (dC, dI) cs ty gm L F sz)) (va_Qi (fun (r : Int32) (_ : Unit) => (r = 0 ∨ r = 1)) (fun _ T9 => ∃ F2 : Nat → va_E, QTm (dC, dI) cs ty gm L [ρ + 18, ρ + 23] F F2 (va_A (va_pl L F) sz) T9) (va_A (va_pl L F) sz)) 0 0 (va_A (va_pl L F) sz) := by
  refine Met.ofW (cc := cX15_isPower) (maxL := 3) (ret := (some .boolean)) (by decide) rfl ?_
  intro p e s m args below meth c s₁ B hml hv
  obtain ⟨rfl, hsz, hP, hK, hD0, hE, hO⟩ := hv
  have hx := B.exec
  have hb := B.bytes
  have hr := B.returns
  have hts : ∀ w ∈ tb, w.before _ s = true := fun w h => atoms_spec (ws := .code yX15_isPower cX15_isPower 3 (some .boolean) :: tb) B.pre w (List.mem_cons_of_mem _ h)
  have hown : s.vm.findClass RX15 = some m.cls := findClass_of_methodNamed B.named
  have hlocks := B.notSynchronized
  subst hsz
  have hD := hD0.self (sz := s.heap.size)
  generalize hAe : va_A (va_pl L F) s.heap.size = A at hD ⊢
  have hA : ∀ q : Nat, s.heap.size ≤ q → A q := fun q h => by rw [← hAe]; exact Or.inr h
  have hS : va_S A s.heap s.heap [] := va_S.rf
  have hR : FR ty [ρ + 18, ρ + 23] F F := FR.refl
  have hl := lv_entry ([.ref h0]) (n := 3) (Nat.le_of_ble_eq_true rfl)
  rw [lg_entry_eq]
  generalize (lg_sl ([.ref h0]) ++ List.replicate (3 - (lg_sl ([.ref h0])).length) Slot.unset).toArray = ls at hl ⊢
  have hl : lv_has ls 3 [(0, .ref h0)] := hl
  obtain ⟨hq_23, hq_24, hq_25, hq_26, hq_27, hgO, hgA, hgB, hq_28⟩ := hW.sc hL_h0 hT_h0
  refine lv_aload_n hx hb dX15_isPower_0 rfl (lv_at hl 0 rfl) ?_
  obtain ⟨zo_29, v14_30, v15_31, v17_32, v18_33, v19_34, v20_35, v21_36, v22_37, v33_38, v52_39, v53_40, v54_41, hF_42, hq_43, hq_44, hq_45, hq_46, hq_47⟩ := hO.mod hL_h0 hT_h0
  refine pg_get (ci := 15) (v := .ref m64) (C := RX15) (T := TX15) (N := 59) hx hb hts it_15 hown hK hP hL_h0 hF_42 rfl 47 (by decide) (hts _ kt_922) (fun _ h9 => h9) rfl dX15_isPower_1 ?_
  refine lv_aload_n hx hb dX15_isPower_4 rfl (lv_at hl 0 rfl) ?_
  refine pg_get (ci := 15) (v := .ref mo) (C := RX15) (T := TX15) (N := 59) hx hb hts it_15 hown hK hP hL_h0 hF_42 rfl 39 (by decide) (hts _ kt_811) (fun _ h9 => h9) rfl dX15_isPower_5 ?_
  obtain ⟨hi_48, ht_49⟩ := hW.f_m64 hL_h0 hT_h0
  obtain ⟨hq_50, hq_51⟩ := hW.octs hi_48 ht_49
  obtain ⟨hi_52, ht_53⟩ := hW.f_mo hL_h0 hT_h0
  obtain ⟨hq_54, hq_55⟩ := hW.ints hi_52 ht_53
  have hFc := pg_free hD hS hA
  refine va_callv (va_runS (As := [.ref m64, .ref mo]) (rest := []) ⟨hx, hb, hml, hown, hts⟩ (s_X15_digits l dC dI cs ty gm L s.heap.size F m64 (ρ + 22) mo (ρ + 18) hW hi_48 ht_49 hi_52 ht_53) ⟨callB_of 2 hts (gi kt_923) rfl rfl rfl (hts _ kt_669) (hts _ kt_924) (by decide +kernel) ⟨Nat.le_of_ble_eq_true rfl, Nat.le_of_ble_eq_true rfl⟩, (hts _ kt_925)⟩ ⟨fun a U g mk q => ⟨q.1, PTm.calling q.2⟩, fun U hU hWm => ⟨rfl, PTm.mk hU hWm hP hK hD hE hO⟩⟩ rfl rfl hl.1 rfl (lv_room (Nat.le_of_ble_eq_true rfl)) dX15_isPower_8 ⟨by show _ + 0 ≤ 0; omega, by show _ + 0 ≤ 0; omega⟩) hS (fun q _ h => hFc q h) hFc (fun u t H1 locs ht hvm hw hB hz1 hk1 hS => ?_)
  obtain ⟨F_57, hB1⟩ := hB
  obtain ⟨hP, hD, hO, hR⟩ := QTm.back hB1 ht hFc hR (fun q h => by simp only [List.mem_cons, List.not_mem_nil, or_false] at h ⊢; omega)
  have hF_58 : F_57 h0 = .inr (15, (.ref ta) :: (.int (nI zt)) :: (.int (nI zo_29)) :: (.int (nI ze)) :: (.ref ou) :: (.ref so) :: (.ref ad) :: (.ref na) :: (.ref va) :: (.ref lc) :: (.ref dm) :: (.int (nI fm)) :: (.int (nI sn)) :: (.ref tg) :: (.int v14_30) :: (.int v15_31) :: (.ref pe) :: (.int v17_32) :: (.int v18_33) :: (.int v19_34) :: (.int v20_35) :: (.int v21_36) :: (.int v22_37) :: (.ref ml) :: (.ref bg) :: (.ref co) :: (.ref sp) :: (.ref nb0) :: (.ref nb1) :: (.ref nb2) :: (.int (nI nf)) :: (.int (nI bd)) :: (.int (nI mm)) :: (.int v33_38) :: (.ref pl) :: (.ref se) :: (.ref ke) :: (.ref wi) :: (.ref hs) :: (.ref mo) :: (.ref po) :: (.ref nu) :: (.ref pr) :: (.ref sq) :: (.ref xa) :: (.ref sa) :: (.ref n64) :: (.ref m64) :: (.ref ex) :: (.ref wh) :: (.ref sd) :: (.ref tk) :: (.int v52_39) :: (.int v53_40) :: (.int v54_41) :: (.ref hd) :: (.ref ak) :: (.ref ho) :: (.ref ot) :: []) := (hB1.2.2.2 h0 (by rw [hT_h0]; simp)).trans hF_42
  generalize H1 = H at hP hS ⊢
  refine lv_aload_n hx hb dX15_isPower_11 rfl (lv_at hl 0 rfl) ?_
  refine pg_get (ci := 15) (v := .ref n64) (C := RX15) (T := TX15) (N := 59) hx hb hts it_15 hown hK hP hL_h0 hF_58 rfl 46 (by decide) (hts _ kt_875) (fun _ h9 => h9) rfl dX15_isPower_12 ?_
  refine lv_aload_n hx hb dX15_isPower_15 rfl (lv_at hl 0 rfl) ?_
  refine pg_get (ci := 15) (v := .ref nu) (C := RX15) (T := TX15) (N := 59) hx hb hts it_15 hown hK hP hL_h0 hF_58 rfl 41 (by decide) (hts _ kt_926) (fun _ h9 => h9) rfl dX15_isPower_16 ?_
  obtain ⟨hi_59, ht_60⟩ := hW.f_n64 hL_h0 hT_h0
  obtain ⟨hq_61, hq_62⟩ := hW.octs hi_59 ht_60
  obtain ⟨hi_63, ht_64⟩ := hW.f_nu hL_h0 hT_h0
  obtain ⟨hq_65, hq_66⟩ := hW.ints hi_63 ht_64
  have hFc := pg_free hD hS hA
  refine va_callv (va_runS (As := [.ref n64, .ref nu]) (rest := []) ⟨hx, hb, hml, hown, hts⟩ (s_X15_digits l dC dI cs ty gm L H.size F_57 n64 (ρ + 21) nu (ρ + 18) hW hi_59 ht_60 hi_63 ht_64) ⟨callB_of 2 hts (gi kt_923) rfl rfl rfl (hts _ kt_669) (hts _ kt_924) (by decide +kernel) ⟨Nat.le_of_ble_eq_true rfl, Nat.le_of_ble_eq_true rfl⟩, (hts _ kt_925)⟩ ⟨fun a U g mk q => ⟨q.1, PTm.calling q.2⟩, fun U hU hWm => ⟨rfl, PTm.mk hU hWm hP hK hD hE hO⟩⟩ rfl rfl hl.1 rfl (lv_room (Nat.le_of_ble_eq_true rfl)) dX15_isPower_19 ⟨by show _ + 0 ≤ 0; omega, by show _ + 0 ≤ 0; omega⟩) hS (fun q _ h => hFc q h) hFc (fun u t H1 locs ht hvm hw hB hz1 hk1 hS => ?_)
  obtain ⟨F_68, hB1⟩ := hB
  obtain ⟨hP, hD, hO, hR⟩ := QTm.back hB1 ht hFc hR (fun q h => by simp only [List.mem_cons, List.not_mem_nil, or_false] at h ⊢; omega)
  have hF_69 : F_68 h0 = .inr (15, (.ref ta) :: (.int (nI zt)) :: (.int (nI zo_29)) :: (.int (nI ze)) :: (.ref ou) :: (.ref so) :: (.ref ad) :: (.ref na) :: (.ref va) :: (.ref lc) :: (.ref dm) :: (.int (nI fm)) :: (.int (nI sn)) :: (.ref tg) :: (.int v14_30) :: (.int v15_31) :: (.ref pe) :: (.int v17_32) :: (.int v18_33) :: (.int v19_34) :: (.int v20_35) :: (.int v21_36) :: (.int v22_37) :: (.ref ml) :: (.ref bg) :: (.ref co) :: (.ref sp) :: (.ref nb0) :: (.ref nb1) :: (.ref nb2) :: (.int (nI nf)) :: (.int (nI bd)) :: (.int (nI mm)) :: (.int v33_38) :: (.ref pl) :: (.ref se) :: (.ref ke) :: (.ref wi) :: (.ref hs) :: (.ref mo) :: (.ref po) :: (.ref nu) :: (.ref pr) :: (.ref sq) :: (.ref xa) :: (.ref sa) :: (.ref n64) :: (.ref m64) :: (.ref ex) :: (.ref wh) :: (.ref sd) :: (.ref tk) :: (.int v52_39) :: (.int v53_40) :: (.int v54_41) :: (.ref hd) :: (.ref ak) :: (.ref ho) :: (.ref ot) :: []) := (hB1.2.2.2 h0 (by rw [hT_h0]; simp)).trans hF_58
  generalize H1 = H at hP hS ⊢
  refine lv_aload_n hx hb dX15_isPower_22 rfl (lv_at hl 0 rfl) ?_
  refine lv_aload_n hx hb dX15_isPower_23 rfl (lv_at hl 0 rfl) ?_
  refine pg_get (ci := 15) (v := .ref nu) (C := RX15) (T := TX15) (N := 59) hx hb hts it_15 hown hK hP hL_h0 hF_69 rfl 41 (by decide) (hts _ kt_926) (fun _ h9 => h9) rfl dX15_isPower_24 ?_
  refine lv_bipush (v := 32) hx hb dX15_isPower_27 (by decide) ?_
  refine lv_aload_n hx hb dX15_isPower_29 rfl (lv_at hl 0 rfl) ?_
  refine pg_get (ci := 15) (v := .ref po) (C := RX15) (T := TX15) (N := 59) hx hb hts it_15 hown hK hP hL_h0 hF_69 rfl 40 (by decide) (hts _ kt_817) (fun _ h9 => h9) rfl dX15_isPower_30 ?_
  obtain ⟨hi_70, ht_71⟩ := hW.f_po hL_h0 hT_h0
  obtain ⟨hq_72, hq_73⟩ := hW.ints hi_70 ht_71
  have hFc := pg_free hD hS hA
  refine va_callv (va_runV (As := [.ref nu, .int 32, .ref po]) (rest := []) ⟨hx, hb, hml, hown, hts⟩ (s_X15_remainder_32 l dC dI cs ty gm L H.size F_68 h0 ρ ta ou so ad na va lc dm tg pe ml bg co sp nb0 nb1 nb2 pl se ke wi hs mo po nu pr sq xa sa n64 m64 ex wh sd tk hd ak ho ot sx s0 s1 s2 nf bd mm fm sn hg gc gv ze zt nu (ρ + 18) po (ρ + 18) hW hL_h0 hT_h0 hi_63 ht_64 hi_70 ht_71) ⟨callB_of 3 hts (gi kt_818) rfl rfl rfl (hts _ kt_669) (hts _ kt_819) (by decide +kernel) ⟨Nat.le_of_ble_eq_true rfl, Nat.le_of_ble_eq_true rfl⟩, (hts _ kt_820), (hts _ kt_821)⟩ ⟨fun a U g mk q => ⟨q.1, PTm.calling q.2⟩, pg_recv hK hP hL_h0 hF_69 (q := (RX15, TX15, 59)) rfl, fun U hU hWm => ⟨rfl, PTm.mk hU hWm hP hK hD hE hO⟩⟩ rfl rfl hl.1 rfl (lv_room (Nat.le_of_ble_eq_true rfl)) dX15_isPower_33 ⟨by show _ + 0 ≤ 0; omega, by show _ + 0 ≤ 0; omega⟩) hS (fun q _ h => hFc q h) hFc (fun u t H1 locs ht hvm hw hB hz1 hk1 hS => ?_)
  obtain ⟨F_75, hB1⟩ := hB
  obtain ⟨hP, hD, hO, hR⟩ := QTm.back hB1 ht hFc hR (fun q h => by simp only [List.mem_cons, List.not_mem_nil, or_false] at h ⊢; omega)
  have hF_76 : F_75 h0 = .inr (15, (.ref ta) :: (.int (nI zt)) :: (.int (nI zo_29)) :: (.int (nI ze)) :: (.ref ou) :: (.ref so) :: (.ref ad) :: (.ref na) :: (.ref va) :: (.ref lc) :: (.ref dm) :: (.int (nI fm)) :: (.int (nI sn)) :: (.ref tg) :: (.int v14_30) :: (.int v15_31) :: (.ref pe) :: (.int v17_32) :: (.int v18_33) :: (.int v19_34) :: (.int v20_35) :: (.int v21_36) :: (.int v22_37) :: (.ref ml) :: (.ref bg) :: (.ref co) :: (.ref sp) :: (.ref nb0) :: (.ref nb1) :: (.ref nb2) :: (.int (nI nf)) :: (.int (nI bd)) :: (.int (nI mm)) :: (.int v33_38) :: (.ref pl) :: (.ref se) :: (.ref ke) :: (.ref wi) :: (.ref hs) :: (.ref mo) :: (.ref po) :: (.ref nu) :: (.ref pr) :: (.ref sq) :: (.ref xa) :: (.ref sa) :: (.ref n64) :: (.ref m64) :: (.ref ex) :: (.ref wh) :: (.ref sd) :: (.ref tk) :: (.int v52_39) :: (.int v53_40) :: (.int v54_41) :: (.ref hd) :: (.ref ak) :: (.ref ho) :: (.ref ot) :: []) := (hB1.2.2.2 h0 (by rw [hT_h0]; simp)).trans hF_69
  generalize H1 = H at hP hS ⊢
  refine lv_aload_n hx hb dX15_isPower_36 rfl (lv_at hl 0 rfl) ?_
  refine pg_get (ci := 15) (v := .ref po) (C := RX15) (T := TX15) (N := 59) hx hb hts it_15 hown hK hP hL_h0 hF_76 rfl 40 (by decide) (hts _ kt_817) (fun _ h9 => h9) rfl dX15_isPower_37 ?_
  refine lv_iconst (v := 0) hx hb dX15_isPower_40 (by decide) ?_
  refine lv_aload_n hx hb dX15_isPower_41 rfl (lv_at hl 0 rfl) ?_
  refine pg_get (ci := 15) (v := .ref nu) (C := RX15) (T := TX15) (N := 59) hx hb hts it_15 hown hK hP hL_h0 hF_76 rfl 41 (by decide) (hts _ kt_926) (fun _ h9 => h9) rfl dX15_isPower_42 ?_
  refine lv_iconst (v := 0) hx hb dX15_isPower_45 (by decide) ?_
  refine lv_bipush (v := 33) hx hb dX15_isPower_46 (by decide) ?_
  obtain ⟨f_77, hF_78⟩ := hO.ints hi_70 ht_71
  obtain ⟨f_79, hF_80⟩ := hO.ints hi_63 ht_64
  refine pg_copyi hx hb (by rw [hml]; exact hl.1.symm) hown (hts _ kt_908) (hts _ kt_29) (hts _ kt_30) (hts _ kt_31) hK hP hD hS hi_70 hi_63 0 0 hF_78 hF_80 rfl rfl rfl (by decide) (by decide) (by decide) (by decide) (by decide) (fun _ _ => rfl) (Nat.le_of_ble_eq_true rfl) (by decide) dX15_isPower_48 (fun H locs hP hD hS => ?_)
  obtain ⟨F_81, he_82, hP, hD, hO, hR⟩ : ∃ G, G = va_up F_75 nu (.inl (cs 16, 33, .inl (va_cpy f_77 f_79 (0 : Int32).toNatClampNeg (0 : Int32).toNatClampNeg (33 : Int32).toNatClampNeg))) ∧ va_P (dC, dI) vwCl (va_pl L G) H ∧ va_D A (va_pl L G) ∧ OKm cs ty gm L G ∧ FR ty [ρ + 18, ρ + 23] F G := ⟨_, rfl, hP, hD, hO.up (shm.ints ht_64 ⟨_, rfl⟩), hR.up ht_64 (by simp)⟩
  have hF_83 : F_81 nu = .inl (cs 16, 33, .inl (va_cpy f_77 f_79 (0 : Int32).toNatClampNeg (0 : Int32).toNatClampNeg (33 : Int32).toNatClampNeg)) := by rw [he_82]; exact up_self
  have hF_84 : F_81 h0 = .inr (15, (.ref ta) :: (.int (nI zt)) :: (.int (nI zo_29)) :: (.int (nI ze)) :: (.ref ou) :: (.ref so) :: (.ref ad) :: (.ref na) :: (.ref va) :: (.ref lc) :: (.ref dm) :: (.int (nI fm)) :: (.int (nI sn)) :: (.ref tg) :: (.int v14_30) :: (.int v15_31) :: (.ref pe) :: (.int v17_32) :: (.int v18_33) :: (.int v19_34) :: (.int v20_35) :: (.int v21_36) :: (.int v22_37) :: (.ref ml) :: (.ref bg) :: (.ref co) :: (.ref sp) :: (.ref nb0) :: (.ref nb1) :: (.ref nb2) :: (.int (nI nf)) :: (.int (nI bd)) :: (.int (nI mm)) :: (.int v33_38) :: (.ref pl) :: (.ref se) :: (.ref ke) :: (.ref wi) :: (.ref hs) :: (.ref mo) :: (.ref po) :: (.ref nu) :: (.ref pr) :: (.ref sq) :: (.ref xa) :: (.ref sa) :: (.ref n64) :: (.ref m64) :: (.ref ex) :: (.ref wh) :: (.ref sd) :: (.ref tk) :: (.int v52_39) :: (.int v53_40) :: (.int v54_41) :: (.ref hd) :: (.ref ak) :: (.ref ho) :: (.ref ot) :: []) := by rw [he_82, up_ne (ne_ty hT_h0 ht_64 (by simp))]; exact hF_76
  obtain ⟨f_85, hF_83⟩ : ∃ f : Nat → Int32, F_81 nu = .inl (cs 16, 33, .inl f) := ⟨_, hF_83⟩
  refine lv_iconst (v := 0) hx hb dX15_isPower_51 (by decide) ?_
  refine lv_istore_n (lv' := [(1, .int 0), (0, .ref h0)]) hx hb dX15_isPower_52 rfl hl (by decide) rfl (fun ls hl => ?_)
  refine W.widen (k := 0) (n := 0) (by omega) (by omega) ?_
  have hF_87 : F h0 = .inr (15, (.ref ta) :: (.int (nI zt)) :: (.int (nI zo_29)) :: (.int (nI ze)) :: (.ref ou) :: (.ref so) :: (.ref ad) :: (.ref na) :: (.ref va) :: (.ref lc) :: (.ref dm) :: (.int (nI fm)) :: (.int (nI sn)) :: (.ref tg) :: (.int v14_30) :: (.int v15_31) :: (.ref pe) :: (.int v17_32) :: (.int v18_33) :: (.int v19_34) :: (.int v20_35) :: (.int v21_36) :: (.int v22_37) :: (.ref ml) :: (.ref bg) :: (.ref co) :: (.ref sp) :: (.ref nb0) :: (.ref nb1) :: (.ref nb2) :: (.int (nI nf)) :: (.int (nI bd)) :: (.int (nI mm)) :: (.int v33_38) :: (.ref pl) :: (.ref se) :: (.ref ke) :: (.ref wi) :: (.ref hs) :: (.ref mo) :: (.ref po) :: (.ref nu) :: (.ref pr) :: (.ref sq) :: (.ref xa) :: (.ref sa) :: (.ref n64) :: (.ref m64) :: (.ref ex) :: (.ref wh) :: (.ref sd) :: (.ref tk) :: (.int v52_39) :: (.int v53_40) :: (.int v54_41) :: (.ref hd) :: (.ref ak) :: (.ref ho) :: (.ref ot) :: []) := (hR h0 (by rw [hT_h0]; simp)).symm.trans hF_84
  refine pl_loopm (σ := Nat) A (dC, dI) cs ty gm L [ρ + 18, ρ + 23] F 53 3 (fun j => [(1, .int (nI j)), (0, .ref h0)]) (fun j => []) (fun j _ => j ≤ 16) (fun j => 16 - j) ?_ 0 F_81 (by omega) hO hR _ _ hP hD hS ls (lv_sub hl [0, 1] rfl)
  rintro j F_86 hv_88 hO hR ih_89 H locs hP hD hS ls hl
  have hl : lv_has ls 3 [(1, .int (nI j)), (0, .ref h0)] := hl
  have hv_88 : j ≤ 16 := hv_88
  refine W.eq (g2 := F0 m 53 ls []) rfl ?_
  have hF_90 : F_86 h0 = .inr (15, (.ref ta) :: (.int (nI zt)) :: (.int (nI zo_29)) :: (.int (nI ze)) :: (.ref ou) :: (.ref so) :: (.ref ad) :: (.ref na) :: (.ref va) :: (.ref lc) :: (.ref dm) :: (.int (nI fm)) :: (.int (nI sn)) :: (.ref tg) :: (.int v14_30) :: (.int v15_31) :: (.ref pe) :: (.int v17_32) :: (.int v18_33) :: (.int v19_34) :: (.int v20_35) :: (.int v21_36) :: (.int v22_37) :: (.ref ml) :: (.ref bg) :: (.ref co) :: (.ref sp) :: (.ref nb0) :: (.ref nb1) :: (.ref nb2) :: (.int (nI nf)) :: (.int (nI bd)) :: (.int (nI mm)) :: (.int v33_38) :: (.ref pl) :: (.ref se) :: (.ref ke) :: (.ref wi) :: (.ref hs) :: (.ref mo) :: (.ref po) :: (.ref nu) :: (.ref pr) :: (.ref sq) :: (.ref xa) :: (.ref sa) :: (.ref n64) :: (.ref m64) :: (.ref ex) :: (.ref wh) :: (.ref sd) :: (.ref tk) :: (.int v52_39) :: (.int v53_40) :: (.int v54_41) :: (.ref hd) :: (.ref ak) :: (.ref ho) :: (.ref ot) :: []) := (hR h0 (by rw [hT_h0]; simp)).trans hF_87
  refine lv_iload_n hx hb dX15_isPower_53 rfl (lv_at hl 0 rfl) ?_
  refine lv_bipush (v := 16) hx hb dX15_isPower_54 (by decide) ?_
  refine lv_icmp_ge (tgt := 88) hx hb dX15_isPower_56 (by decide) (fun c_91 => ?_) (fun c_91 => ?_)
  ·
    have hi_92 : 16 ≤ j := leN (N := 16) c_91
    refine lv_aload_n hx hb dX15_isPower_88 rfl (lv_at hl 1 rfl) ?_
    refine lv_aload_n hx hb dX15_isPower_89 rfl (lv_at hl 1 rfl) ?_
    refine pg_get (ci := 15) (v := .ref nu) (C := RX15) (T := TX15) (N := 59) hx hb hts it_15 hown hK hP hL_h0 hF_90 rfl 41 (by decide) (hts _ kt_926) (fun _ h9 => h9) rfl dX15_isPower_90 ?_
    have hFc := pg_free hD hS hA
    refine va_callv (va_runV (As := [.ref nu]) (rest := []) ⟨hx, hb, hml, hown, hts⟩ (s_X15_times l dC dI cs ty gm L H.size F_86 h0 ρ ta ou so ad na va lc dm tg pe ml bg co sp nb0 nb1 nb2 pl se ke wi hs mo po nu pr sq xa sa n64 m64 ex wh sd tk hd ak ho ot sx s0 s1 s2 nf bd mm fm sn hg gc gv ze zt nu (ρ + 18) hW hL_h0 hT_h0 hi_63 ht_64) ⟨callB_of 1 hts (gi kt_927) rfl rfl rfl (hts _ kt_669) (hts _ kt_928) (by decide +kernel) ⟨Nat.le_of_ble_eq_true rfl, Nat.le_of_ble_eq_true rfl⟩, (hts _ kt_929), (hts _ kt_930)⟩ ⟨fun a U g mk q => ⟨q.1, PTm.calling q.2⟩, pg_recv hK hP hL_h0 hF_90 (q := (RX15, TX15, 59)) rfl, fun U hU hWm => ⟨rfl, PTm.mk hU hWm hP hK hD hE hO⟩⟩ rfl rfl hl.1 rfl (lv_room (Nat.le_of_ble_eq_true rfl)) dX15_isPower_93 ⟨by show _ + 0 ≤ 0; omega, by show _ + 0 ≤ 0; omega⟩) hS (fun q _ h => hFc q h) hFc (fun u t H1 locs ht hvm hw hB hz1 hk1 hS => ?_)
    obtain ⟨F_94, hB1⟩ := hB
    obtain ⟨hP, hD, hO, hR⟩ := QTm.back hB1 ht hFc hR (fun q h => by simp only [List.mem_cons, List.not_mem_nil, or_false] at h ⊢; omega)
    have hF_95 : F_94 h0 = .inr (15, (.ref ta) :: (.int (nI zt)) :: (.int (nI zo_29)) :: (.int (nI ze)) :: (.ref ou) :: (.ref so) :: (.ref ad) :: (.ref na) :: (.ref va) :: (.ref lc) :: (.ref dm) :: (.int (nI fm)) :: (.int (nI sn)) :: (.ref tg) :: (.int v14_30) :: (.int v15_31) :: (.ref pe) :: (.int v17_32) :: (.int v18_33) :: (.int v19_34) :: (.int v20_35) :: (.int v21_36) :: (.int v22_37) :: (.ref ml) :: (.ref bg) :: (.ref co) :: (.ref sp) :: (.ref nb0) :: (.ref nb1) :: (.ref nb2) :: (.int (nI nf)) :: (.int (nI bd)) :: (.int (nI mm)) :: (.int v33_38) :: (.ref pl) :: (.ref se) :: (.ref ke) :: (.ref wi) :: (.ref hs) :: (.ref mo) :: (.ref po) :: (.ref nu) :: (.ref pr) :: (.ref sq) :: (.ref xa) :: (.ref sa) :: (.ref n64) :: (.ref m64) :: (.ref ex) :: (.ref wh) :: (.ref sd) :: (.ref tk) :: (.int v52_39) :: (.int v53_40) :: (.int v54_41) :: (.ref hd) :: (.ref ak) :: (.ref ho) :: (.ref ot) :: []) := (hB1.2.2.2 h0 (by rw [hT_h0]; simp)).trans hF_90
    generalize H1 = H at hP hS ⊢
    refine lv_aload_n hx hb dX15_isPower_96 rfl (lv_at hl 1 rfl) ?_
    refine pg_get (ci := 15) (v := .ref ex) (C := RX15) (T := TX15) (N := 59) hx hb hts it_15 hown hK hP hL_h0 hF_95 rfl 48 (by decide) (hts _ kt_931) (fun _ h9 => h9) rfl dX15_isPower_97 ?_
    refine lv_iconst (v := (-1)) hx hb dX15_isPower_100 (by decide) ?_
    obtain ⟨hi_96, ht_97⟩ := hW.f_ex hL_h0 hT_h0
    obtain ⟨hq_98, hq_99⟩ := hW.octs hi_96 ht_97
    have hFc := pg_free hD hS hA
    refine va_callv (va_runS (As := [.ref ex, .int (-1)]) (rest := []) ⟨hx, hb, hml, hown, hts⟩ (m_J7_fill_031fb l dC dI cs ty gm L H.size F_94 ex (ρ + 23) 64 (-1) hW hi_96 ht_97 (by first | omega | assumption | exact Or.inl rfl)) ⟨callB_of 2 hts (gi kt_932) rfl rfl rfl (hts _ kt_808) (hts _ kt_933) (by decide +kernel) ⟨Nat.le_of_ble_eq_true rfl, Nat.le_of_ble_eq_true rfl⟩, (hts _ kt_934)⟩ ⟨fun a U g mk q => ⟨q.1, PTm.calling q.2⟩, fun U hU hWm => ⟨rfl, PTm.mk hU hWm hP hK hD hE hO⟩⟩ rfl rfl hl.1 rfl (lv_room (Nat.le_of_ble_eq_true rfl)) dX15_isPower_101 ⟨by show _ + 0 ≤ 0; omega, by show _ + 0 ≤ 0; omega⟩) hS (fun q _ h => hFc q h) hFc (fun u t H1 locs ht hvm hw hB hz1 hk1 hS => ?_)
    obtain ⟨F_101, hB1⟩ := hB
    obtain ⟨hP, hD, hO, hR⟩ := QTm.back hB1 ht hFc hR (fun q h => by simp only [List.mem_cons, List.not_mem_nil, or_false] at h ⊢; omega)
    have hF_102 : F_101 h0 = .inr (15, (.ref ta) :: (.int (nI zt)) :: (.int (nI zo_29)) :: (.int (nI ze)) :: (.ref ou) :: (.ref so) :: (.ref ad) :: (.ref na) :: (.ref va) :: (.ref lc) :: (.ref dm) :: (.int (nI fm)) :: (.int (nI sn)) :: (.ref tg) :: (.int v14_30) :: (.int v15_31) :: (.ref pe) :: (.int v17_32) :: (.int v18_33) :: (.int v19_34) :: (.int v20_35) :: (.int v21_36) :: (.int v22_37) :: (.ref ml) :: (.ref bg) :: (.ref co) :: (.ref sp) :: (.ref nb0) :: (.ref nb1) :: (.ref nb2) :: (.int (nI nf)) :: (.int (nI bd)) :: (.int (nI mm)) :: (.int v33_38) :: (.ref pl) :: (.ref se) :: (.ref ke) :: (.ref wi) :: (.ref hs) :: (.ref mo) :: (.ref po) :: (.ref nu) :: (.ref pr) :: (.ref sq) :: (.ref xa) :: (.ref sa) :: (.ref n64) :: (.ref m64) :: (.ref ex) :: (.ref wh) :: (.ref sd) :: (.ref tk) :: (.int v52_39) :: (.int v53_40) :: (.int v54_41) :: (.ref hd) :: (.ref ak) :: (.ref ho) :: (.ref ot) :: []) := (hB1.2.2.2 h0 (by rw [hT_h0]; simp)).trans hF_95
    generalize H1 = H at hP hS ⊢
    refine lv_aload_n hx hb dX15_isPower_104 rfl (lv_at hl 1 rfl) ?_
    refine pg_get (ci := 15) (v := .ref ex) (C := RX15) (T := TX15) (N := 59) hx hb hts it_15 hown hK hP hL_h0 hF_102 rfl 48 (by decide) (hts _ kt_931) (fun _ h9 => h9) rfl dX15_isPower_105 ?_
    refine lv_iconst (v := 0) hx hb dX15_isPower_108 (by decide) ?_
    refine lv_iconst (v := 0) hx hb dX15_isPower_109 (by decide) ?_
    obtain ⟨f_103, hF_104, hq_105⟩ := hO.octs hi_96 ht_97
    refine pg_bast hx hb hK hP hD hS hi_96 1 hF_104 rfl (show vp_in (0 : Int32) 64 from (show vp_in (nI 0) 64 from vp_in_nI (by omega) (by omega))) dX15_isPower_110 (fun H locs hP hD hS => ?_)
    obtain ⟨F_106, he_107, hP, hD, hO, hR⟩ : ∃ G, G = va_up F_101 ex (.inl (cs 17, 64, .inl (upd f_103 (0 : Int32).toNatClampNeg (vp_nar .byte (0))))) ∧ va_P (dC, dI) vwCl (va_pl L G) H ∧ va_D A (va_pl L G) ∧ OKm cs ty gm L G ∧ FR ty [ρ + 18, ρ + 23] F G := ⟨_, rfl, hP, hD, hO.up (shm.octs ht_97 ⟨_, rfl, bfm_upd hq_105 _ _⟩), hR.up ht_97 (by simp)⟩
    have hF_108 : F_106 ex = .inl (cs 17, 64, .inl (upd f_103 (0 : Int32).toNatClampNeg (vp_nar .byte (0)))) := by rw [he_107]; exact up_self
    have hF_109 : F_106 h0 = .inr (15, (.ref ta) :: (.int (nI zt)) :: (.int (nI zo_29)) :: (.int (nI ze)) :: (.ref ou) :: (.ref so) :: (.ref ad) :: (.ref na) :: (.ref va) :: (.ref lc) :: (.ref dm) :: (.int (nI fm)) :: (.int (nI sn)) :: (.ref tg) :: (.int v14_30) :: (.int v15_31) :: (.ref pe) :: (.int v17_32) :: (.int v18_33) :: (.int v19_34) :: (.int v20_35) :: (.int v21_36) :: (.int v22_37) :: (.ref ml) :: (.ref bg) :: (.ref co) :: (.ref sp) :: (.ref nb0) :: (.ref nb1) :: (.ref nb2) :: (.int (nI nf)) :: (.int (nI bd)) :: (.int (nI mm)) :: (.int v33_38) :: (.ref pl) :: (.ref se) :: (.ref ke) :: (.ref wi) :: (.ref hs) :: (.ref mo) :: (.ref po) :: (.ref nu) :: (.ref pr) :: (.ref sq) :: (.ref xa) :: (.ref sa) :: (.ref n64) :: (.ref m64) :: (.ref ex) :: (.ref wh) :: (.ref sd) :: (.ref tk) :: (.int v52_39) :: (.int v53_40) :: (.int v54_41) :: (.ref hd) :: (.ref ak) :: (.ref ho) :: (.ref ot) :: []) := by rw [he_107, up_ne (ne_ty hT_h0 ht_97 (by simp))]; exact hF_102
    obtain ⟨f_110, hF_108, hq_111⟩ : ∃ f : Nat → Int32, F_106 ex = .inl (cs 17, 64, .inl f) ∧ BFm f := ⟨_, hF_108, bfm_upd hq_105 _ _⟩
    refine lv_aload_n hx hb dX15_isPower_111 rfl (lv_at hl 1 rfl) ?_
    refine pg_get (ci := 15) (v := .ref ex) (C := RX15) (T := TX15) (N := 59) hx hb hts it_15 hown hK hP hL_h0 hF_109 rfl 48 (by decide) (hts _ kt_931) (fun _ h9 => h9) rfl dX15_isPower_112 ?_
    refine lv_iconst (v := 1) hx hb dX15_isPower_115 (by decide) ?_
    refine lv_iconst (v := 1) hx hb dX15_isPower_116 (by decide) ?_
    refine pg_bast hx hb hK hP hD hS hi_96 1 hF_108 rfl (show vp_in (1 : Int32) 64 from (show vp_in (nI 1) 64 from vp_in_nI (by omega) (by omega))) dX15_isPower_117 (fun H locs hP hD hS => ?_)
    obtain ⟨F_112, he_113, hP, hD, hO, hR⟩ : ∃ G, G = va_up F_106 ex (.inl (cs 17, 64, .inl (upd f_110 (1 : Int32).toNatClampNeg (vp_nar .byte (1))))) ∧ va_P (dC, dI) vwCl (va_pl L G) H ∧ va_D A (va_pl L G) ∧ OKm cs ty gm L G ∧ FR ty [ρ + 18, ρ + 23] F G := ⟨_, rfl, hP, hD, hO.up (shm.octs ht_97 ⟨_, rfl, bfm_upd hq_111 _ _⟩), hR.up ht_97 (by simp)⟩
    have hF_114 : F_112 ex = .inl (cs 17, 64, .inl (upd f_110 (1 : Int32).toNatClampNeg (vp_nar .byte (1)))) := by rw [he_113]; exact up_self
    have hF_115 : F_112 h0 = .inr (15, (.ref ta) :: (.int (nI zt)) :: (.int (nI zo_29)) :: (.int (nI ze)) :: (.ref ou) :: (.ref so) :: (.ref ad) :: (.ref na) :: (.ref va) :: (.ref lc) :: (.ref dm) :: (.int (nI fm)) :: (.int (nI sn)) :: (.ref tg) :: (.int v14_30) :: (.int v15_31) :: (.ref pe) :: (.int v17_32) :: (.int v18_33) :: (.int v19_34) :: (.int v20_35) :: (.int v21_36) :: (.int v22_37) :: (.ref ml) :: (.ref bg) :: (.ref co) :: (.ref sp) :: (.ref nb0) :: (.ref nb1) :: (.ref nb2) :: (.int (nI nf)) :: (.int (nI bd)) :: (.int (nI mm)) :: (.int v33_38) :: (.ref pl) :: (.ref se) :: (.ref ke) :: (.ref wi) :: (.ref hs) :: (.ref mo) :: (.ref po) :: (.ref nu) :: (.ref pr) :: (.ref sq) :: (.ref xa) :: (.ref sa) :: (.ref n64) :: (.ref m64) :: (.ref ex) :: (.ref wh) :: (.ref sd) :: (.ref tk) :: (.int v52_39) :: (.int v53_40) :: (.int v54_41) :: (.ref hd) :: (.ref ak) :: (.ref ho) :: (.ref ot) :: []) := by rw [he_113, up_ne (ne_ty hT_h0 ht_97 (by simp))]; exact hF_109
    obtain ⟨f_116, hF_114, hq_117⟩ : ∃ f : Nat → Int32, F_112 ex = .inl (cs 17, 64, .inl f) ∧ BFm f := ⟨_, hF_114, bfm_upd hq_111 _ _⟩
    refine lv_aload_n hx hb dX15_isPower_118 rfl (lv_at hl 1 rfl) ?_
    refine pg_get (ci := 15) (v := .ref ex) (C := RX15) (T := TX15) (N := 59) hx hb hts it_15 hown hK hP hL_h0 hF_115 rfl 48 (by decide) (hts _ kt_931) (fun _ h9 => h9) rfl dX15_isPower_119 ?_
    refine lv_bipush (v := 12) hx hb dX15_isPower_122 (by decide) ?_
    refine lv_iconst (v := 0) hx hb dX15_isPower_124 (by decide) ?_
    refine pg_bast hx hb hK hP hD hS hi_96 1 hF_114 rfl (show vp_in (12 : Int32) 64 from (show vp_in (nI 12) 64 from vp_in_nI (by omega) (by omega))) dX15_isPower_125 (fun H locs hP hD hS => ?_)
    obtain ⟨F_118, he_119, hP, hD, hO, hR⟩ : ∃ G, G = va_up F_112 ex (.inl (cs 17, 64, .inl (upd f_116 (12 : Int32).toNatClampNeg (vp_nar .byte (0))))) ∧ va_P (dC, dI) vwCl (va_pl L G) H ∧ va_D A (va_pl L G) ∧ OKm cs ty gm L G ∧ FR ty [ρ + 18, ρ + 23] F G := ⟨_, rfl, hP, hD, hO.up (shm.octs ht_97 ⟨_, rfl, bfm_upd hq_117 _ _⟩), hR.up ht_97 (by simp)⟩
    have hF_120 : F_118 ex = .inl (cs 17, 64, .inl (upd f_116 (12 : Int32).toNatClampNeg (vp_nar .byte (0)))) := by rw [he_119]; exact up_self
    have hF_121 : F_118 h0 = .inr (15, (.ref ta) :: (.int (nI zt)) :: (.int (nI zo_29)) :: (.int (nI ze)) :: (.ref ou) :: (.ref so) :: (.ref ad) :: (.ref na) :: (.ref va) :: (.ref lc) :: (.ref dm) :: (.int (nI fm)) :: (.int (nI sn)) :: (.ref tg) :: (.int v14_30) :: (.int v15_31) :: (.ref pe) :: (.int v17_32) :: (.int v18_33) :: (.int v19_34) :: (.int v20_35) :: (.int v21_36) :: (.int v22_37) :: (.ref ml) :: (.ref bg) :: (.ref co) :: (.ref sp) :: (.ref nb0) :: (.ref nb1) :: (.ref nb2) :: (.int (nI nf)) :: (.int (nI bd)) :: (.int (nI mm)) :: (.int v33_38) :: (.ref pl) :: (.ref se) :: (.ref ke) :: (.ref wi) :: (.ref hs) :: (.ref mo) :: (.ref po) :: (.ref nu) :: (.ref pr) :: (.ref sq) :: (.ref xa) :: (.ref sa) :: (.ref n64) :: (.ref m64) :: (.ref ex) :: (.ref wh) :: (.ref sd) :: (.ref tk) :: (.int v52_39) :: (.int v53_40) :: (.int v54_41) :: (.ref hd) :: (.ref ak) :: (.ref ho) :: (.ref ot) :: []) := by rw [he_119, up_ne (ne_ty hT_h0 ht_97 (by simp))]; exact hF_115
    obtain ⟨f_122, hF_120, hq_123⟩ : ∃ f : Nat → Int32, F_118 ex = .inl (cs 17, 64, .inl f) ∧ BFm f := ⟨_, hF_120, bfm_upd hq_117 _ _⟩
    refine lv_iconst (v := 0) hx hb dX15_isPower_126 (by decide) ?_
    refine lv_istore_n (lv' := [(1, .int 0), (0, .ref h0)]) hx hb dX15_isPower_127 rfl hl (by decide) rfl (fun ls hl => ?_)
    refine W.widen (k := 0) (n := 0) (by omega) (by omega) ?_
    have hF_125 : F h0 = .inr (15, (.ref ta) :: (.int (nI zt)) :: (.int (nI zo_29)) :: (.int (nI ze)) :: (.ref ou) :: (.ref so) :: (.ref ad) :: (.ref na) :: (.ref va) :: (.ref lc) :: (.ref dm) :: (.int (nI fm)) :: (.int (nI sn)) :: (.ref tg) :: (.int v14_30) :: (.int v15_31) :: (.ref pe) :: (.int v17_32) :: (.int v18_33) :: (.int v19_34) :: (.int v20_35) :: (.int v21_36) :: (.int v22_37) :: (.ref ml) :: (.ref bg) :: (.ref co) :: (.ref sp) :: (.ref nb0) :: (.ref nb1) :: (.ref nb2) :: (.int (nI nf)) :: (.int (nI bd)) :: (.int (nI mm)) :: (.int v33_38) :: (.ref pl) :: (.ref se) :: (.ref ke) :: (.ref wi) :: (.ref hs) :: (.ref mo) :: (.ref po) :: (.ref nu) :: (.ref pr) :: (.ref sq) :: (.ref xa) :: (.ref sa) :: (.ref n64) :: (.ref m64) :: (.ref ex) :: (.ref wh) :: (.ref sd) :: (.ref tk) :: (.int v52_39) :: (.int v53_40) :: (.int v54_41) :: (.ref hd) :: (.ref ak) :: (.ref ho) :: (.ref ot) :: []) := (hR h0 (by rw [hT_h0]; simp)).symm.trans hF_121
    refine pl_loopm (σ := Nat) A (dC, dI) cs ty gm L [ρ + 18, ρ + 23] F 128 3 (fun j2 => [(1, .int (nI j2)), (0, .ref h0)]) (fun j2 => []) (fun j2 _ => j2 ≤ 19) (fun j2 => 19 - j2) ?_ 0 F_118 (by omega) hO hR _ _ hP hD hS ls (lv_sub hl [0, 1] rfl)
    rintro j2 F_124 hv_126 hO hR ih_127 H locs hP hD hS ls hl
    have hl : lv_has ls 3 [(1, .int (nI j2)), (0, .ref h0)] := hl
    have hv_126 : j2 ≤ 19 := hv_126
    refine W.eq (g2 := F0 m 128 ls []) rfl ?_
    have hF_128 : F_124 h0 = .inr (15, (.ref ta) :: (.int (nI zt)) :: (.int (nI zo_29)) :: (.int (nI ze)) :: (.ref ou) :: (.ref so) :: (.ref ad) :: (.ref na) :: (.ref va) :: (.ref lc) :: (.ref dm) :: (.int (nI fm)) :: (.int (nI sn)) :: (.ref tg) :: (.int v14_30) :: (.int v15_31) :: (.ref pe) :: (.int v17_32) :: (.int v18_33) :: (.int v19_34) :: (.int v20_35) :: (.int v21_36) :: (.int v22_37) :: (.ref ml) :: (.ref bg) :: (.ref co) :: (.ref sp) :: (.ref nb0) :: (.ref nb1) :: (.ref nb2) :: (.int (nI nf)) :: (.int (nI bd)) :: (.int (nI mm)) :: (.int v33_38) :: (.ref pl) :: (.ref se) :: (.ref ke) :: (.ref wi) :: (.ref hs) :: (.ref mo) :: (.ref po) :: (.ref nu) :: (.ref pr) :: (.ref sq) :: (.ref xa) :: (.ref sa) :: (.ref n64) :: (.ref m64) :: (.ref ex) :: (.ref wh) :: (.ref sd) :: (.ref tk) :: (.int v52_39) :: (.int v53_40) :: (.int v54_41) :: (.ref hd) :: (.ref ak) :: (.ref ho) :: (.ref ot) :: []) := (hR h0 (by rw [hT_h0]; simp)).trans hF_125
    refine lv_iload_n hx hb dX15_isPower_128 rfl (lv_at hl 0 rfl) ?_
    refine lv_bipush (v := 19) hx hb dX15_isPower_129 (by decide) ?_
    refine lv_icmp_ge (tgt := 156) hx hb dX15_isPower_131 (by decide) (fun c_129 => ?_) (fun c_129 => ?_)
    ·
      have hi_130 : 19 ≤ j2 := leN (N := 19) c_129
      refine lv_aload_n hx hb dX15_isPower_156 rfl (lv_at hl 1 rfl) ?_
      refine pg_get (ci := 15) (v := .ref xa) (C := RX15) (T := TX15) (N := 59) hx hb hts it_15 hown hK hP hL_h0 hF_128 rfl 44 (by decide) (hts _ kt_935) (fun _ h9 => h9) rfl dX15_isPower_157 ?_
      refine lv_iconst (v := 0) hx hb dX15_isPower_160 (by decide) ?_
      refine lv_aload_n hx hb dX15_isPower_161 rfl (lv_at hl 1 rfl) ?_
      refine pg_get (ci := 15) (v := .ref ex) (C := RX15) (T := TX15) (N := 59) hx hb hts it_15 hown hK hP hL_h0 hF_128 rfl 48 (by decide) (hts _ kt_931) (fun _ h9 => h9) rfl dX15_isPower_162 ?_
      refine lv_bipush (v := 32) hx hb dX15_isPower_165 (by decide) ?_
      refine lv_bipush (v := 32) hx hb dX15_isPower_167 (by decide) ?_
      obtain ⟨hi_131, ht_132⟩ := hW.f_xa hL_h0 hT_h0
      obtain ⟨hq_133, hq_134⟩ := hW.octs hi_131 ht_132
      obtain ⟨f_135, hF_136, hq_137⟩ := hO.octs hi_131 ht_132
      obtain ⟨f_138, hF_139, hq_140⟩ := hO.octs hi_96 ht_97
      refine pg_copyi hx hb (by rw [hml]; exact hl.1.symm) hown (hts _ kt_908) (hts _ kt_29) (hts _ kt_30) (hts _ kt_31) hK hP hD hS hi_131 hi_96 1 1 hF_136 hF_139 rfl rfl rfl (by decide) (by decide) (by decide) (by decide) (by decide) (fun _ _ => hq_137 _) (Nat.le_of_ble_eq_true rfl) (by decide) dX15_isPower_169 (fun H locs hP hD hS => ?_)
      obtain ⟨F_141, he_142, hP, hD, hO, hR⟩ : ∃ G, G = va_up F_124 ex (.inl (cs 17, 64, .inl (va_cpy f_135 f_138 (0 : Int32).toNatClampNeg (32 : Int32).toNatClampNeg (32 : Int32).toNatClampNeg))) ∧ va_P (dC, dI) vwCl (va_pl L G) H ∧ va_D A (va_pl L G) ∧ OKm cs ty gm L G ∧ FR ty [ρ + 18, ρ + 23] F G := ⟨_, rfl, hP, hD, hO.up (shm.octs ht_97 ⟨_, rfl, bfm_cpy hq_137 hq_140 _ _ _⟩), hR.up ht_97 (by simp)⟩
      have hF_143 : F_141 ex = .inl (cs 17, 64, .inl (va_cpy f_135 f_138 (0 : Int32).toNatClampNeg (32 : Int32).toNatClampNeg (32 : Int32).toNatClampNeg)) := by rw [he_142]; exact up_self
      have hF_144 : F_141 h0 = .inr (15, (.ref ta) :: (.int (nI zt)) :: (.int (nI zo_29)) :: (.int (nI ze)) :: (.ref ou) :: (.ref so) :: (.ref ad) :: (.ref na) :: (.ref va) :: (.ref lc) :: (.ref dm) :: (.int (nI fm)) :: (.int (nI sn)) :: (.ref tg) :: (.int v14_30) :: (.int v15_31) :: (.ref pe) :: (.int v17_32) :: (.int v18_33) :: (.int v19_34) :: (.int v20_35) :: (.int v21_36) :: (.int v22_37) :: (.ref ml) :: (.ref bg) :: (.ref co) :: (.ref sp) :: (.ref nb0) :: (.ref nb1) :: (.ref nb2) :: (.int (nI nf)) :: (.int (nI bd)) :: (.int (nI mm)) :: (.int v33_38) :: (.ref pl) :: (.ref se) :: (.ref ke) :: (.ref wi) :: (.ref hs) :: (.ref mo) :: (.ref po) :: (.ref nu) :: (.ref pr) :: (.ref sq) :: (.ref xa) :: (.ref sa) :: (.ref n64) :: (.ref m64) :: (.ref ex) :: (.ref wh) :: (.ref sd) :: (.ref tk) :: (.int v52_39) :: (.int v53_40) :: (.int v54_41) :: (.ref hd) :: (.ref ak) :: (.ref ho) :: (.ref ot) :: []) := by rw [he_142, up_ne (ne_ty hT_h0 ht_97 (by simp))]; exact hF_128
      have hF_145 : F_141 xa = .inl (cs 17, 32, .inl f_135) := by rw [he_142, up_ne (ne_ty2 ht_132 ht_97 (by simp))]; exact hF_136
      obtain ⟨f_146, hF_143, hq_147⟩ : ∃ f : Nat → Int32, F_141 ex = .inl (cs 17, 64, .inl f) ∧ BFm f := ⟨_, hF_143, bfm_cpy hq_137 hq_140 _ _ _⟩
      refine lv_aload_n hx hb dX15_isPower_172 rfl (lv_at hl 1 rfl) ?_
      refine pg_get (ci := 15) (v := .ref ex) (C := RX15) (T := TX15) (N := 59) hx hb hts it_15 hown hK hP hL_h0 hF_144 rfl 48 (by decide) (hts _ kt_931) (fun _ h9 => h9) rfl dX15_isPower_173 ?_
      refine lv_aload_n hx hb dX15_isPower_176 rfl (lv_at hl 1 rfl) ?_
      refine pg_get (ci := 15) (v := .ref sq) (C := RX15) (T := TX15) (N := 59) hx hb hts it_15 hown hK hP hL_h0 hF_144 rfl 43 (by decide) (hts _ kt_936) (fun _ h9 => h9) rfl dX15_isPower_177 ?_
      obtain ⟨hi_148, ht_149⟩ := hW.f_sq hL_h0 hT_h0
      obtain ⟨hq_150, hq_151⟩ := hW.ints hi_148 ht_149
      have hFc := pg_free hD hS hA
      refine va_callv (va_runS (As := [.ref ex, .ref sq]) (rest := []) ⟨hx, hb, hml, hown, hts⟩ (s_X15_digits l dC dI cs ty gm L H.size F_141 ex (ρ + 23) sq (ρ + 18) hW hi_96 ht_97 hi_148 ht_149) ⟨callB_of 2 hts (gi kt_923) rfl rfl rfl (hts _ kt_669) (hts _ kt_924) (by decide +kernel) ⟨Nat.le_of_ble_eq_true rfl, Nat.le_of_ble_eq_true rfl⟩, (hts _ kt_925)⟩ ⟨fun a U g mk q => ⟨q.1, PTm.calling q.2⟩, fun U hU hWm => ⟨rfl, PTm.mk hU hWm hP hK hD hE hO⟩⟩ rfl rfl hl.1 rfl (lv_room (Nat.le_of_ble_eq_true rfl)) dX15_isPower_180 ⟨by show _ + 0 ≤ 0; omega, by show _ + 0 ≤ 0; omega⟩) hS (fun q _ h => hFc q h) hFc (fun u t H1 locs ht hvm hw hB hz1 hk1 hS => ?_)
      obtain ⟨F_153, hB1⟩ := hB
      obtain ⟨hP, hD, hO, hR⟩ := QTm.back hB1 ht hFc hR (fun q h => by simp only [List.mem_cons, List.not_mem_nil, or_false] at h ⊢; omega)
      have hF_154 : F_153 ex = .inl (cs 17, 64, .inl f_146) := (hB1.2.2.2 ex (by rw [ht_97]; simp)).trans hF_143
      have hF_155 : F_153 h0 = .inr (15, (.ref ta) :: (.int (nI zt)) :: (.int (nI zo_29)) :: (.int (nI ze)) :: (.ref ou) :: (.ref so) :: (.ref ad) :: (.ref na) :: (.ref va) :: (.ref lc) :: (.ref dm) :: (.int (nI fm)) :: (.int (nI sn)) :: (.ref tg) :: (.int v14_30) :: (.int v15_31) :: (.ref pe) :: (.int v17_32) :: (.int v18_33) :: (.int v19_34) :: (.int v20_35) :: (.int v21_36) :: (.int v22_37) :: (.ref ml) :: (.ref bg) :: (.ref co) :: (.ref sp) :: (.ref nb0) :: (.ref nb1) :: (.ref nb2) :: (.int (nI nf)) :: (.int (nI bd)) :: (.int (nI mm)) :: (.int v33_38) :: (.ref pl) :: (.ref se) :: (.ref ke) :: (.ref wi) :: (.ref hs) :: (.ref mo) :: (.ref po) :: (.ref nu) :: (.ref pr) :: (.ref sq) :: (.ref xa) :: (.ref sa) :: (.ref n64) :: (.ref m64) :: (.ref ex) :: (.ref wh) :: (.ref sd) :: (.ref tk) :: (.int v52_39) :: (.int v53_40) :: (.int v54_41) :: (.ref hd) :: (.ref ak) :: (.ref ho) :: (.ref ot) :: []) := (hB1.2.2.2 h0 (by rw [hT_h0]; simp)).trans hF_144
      have hF_156 : F_153 xa = .inl (cs 17, 32, .inl f_135) := (hB1.2.2.2 xa (by rw [ht_132]; simp)).trans hF_145
      generalize H1 = H at hP hS ⊢
      refine lv_iconst (v := 1) hx hb dX15_isPower_183 (by decide) ?_
      refine lv_istore_n (lv' := [(1, .int 1), (0, .ref h0)]) hx hb dX15_isPower_184 rfl hl (by decide) rfl (fun ls hl => ?_)
      refine lv_iconst (v := 0) hx hb dX15_isPower_185 (by decide) ?_
      refine lv_istore_n (lv' := [(2, .int 0), (1, .int 1), (0, .ref h0)]) hx hb dX15_isPower_186 rfl hl (by decide) rfl (fun ls hl => ?_)
      refine W.widen (k := 0) (n := 0) (by omega) (by omega) ?_
      have hF_158 : F h0 = .inr (15, (.ref ta) :: (.int (nI zt)) :: (.int (nI zo_29)) :: (.int (nI ze)) :: (.ref ou) :: (.ref so) :: (.ref ad) :: (.ref na) :: (.ref va) :: (.ref lc) :: (.ref dm) :: (.int (nI fm)) :: (.int (nI sn)) :: (.ref tg) :: (.int v14_30) :: (.int v15_31) :: (.ref pe) :: (.int v17_32) :: (.int v18_33) :: (.int v19_34) :: (.int v20_35) :: (.int v21_36) :: (.int v22_37) :: (.ref ml) :: (.ref bg) :: (.ref co) :: (.ref sp) :: (.ref nb0) :: (.ref nb1) :: (.ref nb2) :: (.int (nI nf)) :: (.int (nI bd)) :: (.int (nI mm)) :: (.int v33_38) :: (.ref pl) :: (.ref se) :: (.ref ke) :: (.ref wi) :: (.ref hs) :: (.ref mo) :: (.ref po) :: (.ref nu) :: (.ref pr) :: (.ref sq) :: (.ref xa) :: (.ref sa) :: (.ref n64) :: (.ref m64) :: (.ref ex) :: (.ref wh) :: (.ref sd) :: (.ref tk) :: (.int v52_39) :: (.int v53_40) :: (.int v54_41) :: (.ref hd) :: (.ref ak) :: (.ref ho) :: (.ref ot) :: []) := (hR h0 (by rw [hT_h0]; simp)).symm.trans hF_155
      have hF_159 : F xa = .inl (cs 17, 32, .inl f_135) := (hR xa (by rw [ht_132]; simp)).symm.trans hF_156
      refine pl_loopm (σ := Nat × Int32) A (dC, dI) cs ty gm L [ρ + 18, ρ + 23] F 187 3 (fun (j3, w1) => [(2, .int (nI j3)), (1, .int w1), (0, .ref h0)]) (fun (j3, w1) => []) (fun (j3, w1) _ => j3 ≤ 33 ∧ (w1 = 0 ∨ w1 = 1)) (fun (j3, w1) => 33 - j3) ?_ (0, 1) F_153 (⟨by omega, Or.inr rfl⟩) hO hR _ _ hP hD hS ls (lv_sub hl [0, 1, 2] rfl)
      rintro ⟨j3, w1⟩ F_157 hv_160 hO hR ih_161 H locs hP hD hS ls hl
      have hl : lv_has ls 3 [(2, .int (nI j3)), (1, .int w1), (0, .ref h0)] := hl
      have hv_160 : j3 ≤ 33 ∧ (w1 = 0 ∨ w1 = 1) := hv_160
      refine W.eq (g2 := F0 m 187 ls []) rfl ?_
      have hF_162 : F_157 h0 = .inr (15, (.ref ta) :: (.int (nI zt)) :: (.int (nI zo_29)) :: (.int (nI ze)) :: (.ref ou) :: (.ref so) :: (.ref ad) :: (.ref na) :: (.ref va) :: (.ref lc) :: (.ref dm) :: (.int (nI fm)) :: (.int (nI sn)) :: (.ref tg) :: (.int v14_30) :: (.int v15_31) :: (.ref pe) :: (.int v17_32) :: (.int v18_33) :: (.int v19_34) :: (.int v20_35) :: (.int v21_36) :: (.int v22_37) :: (.ref ml) :: (.ref bg) :: (.ref co) :: (.ref sp) :: (.ref nb0) :: (.ref nb1) :: (.ref nb2) :: (.int (nI nf)) :: (.int (nI bd)) :: (.int (nI mm)) :: (.int v33_38) :: (.ref pl) :: (.ref se) :: (.ref ke) :: (.ref wi) :: (.ref hs) :: (.ref mo) :: (.ref po) :: (.ref nu) :: (.ref pr) :: (.ref sq) :: (.ref xa) :: (.ref sa) :: (.ref n64) :: (.ref m64) :: (.ref ex) :: (.ref wh) :: (.ref sd) :: (.ref tk) :: (.int v52_39) :: (.int v53_40) :: (.int v54_41) :: (.ref hd) :: (.ref ak) :: (.ref ho) :: (.ref ot) :: []) := (hR h0 (by rw [hT_h0]; simp)).trans hF_158
      have hF_163 : F_157 xa = .inl (cs 17, 32, .inl f_135) := (hR xa (by rw [ht_132]; simp)).trans hF_159
      obtain ⟨hv1, hv2⟩ := hv_160
      refine lv_iload_n hx hb dX15_isPower_187 rfl (lv_at hl 0 rfl) ?_
      refine lv_bipush (v := 33) hx hb dX15_isPower_188 (by decide) ?_
      refine lv_icmp_ge (tgt := 222) hx hb dX15_isPower_190 (by decide) (fun c_164 => ?_) (fun c_164 => ?_)
      ·
        have hi_165 : 33 ≤ j3 := leN (N := 33) c_164
        refine lv_iload_n hx hb dX15_isPower_222 rfl (lv_at hl 1 rfl) ?_
        refine W.widen (k := 0) (n := 0) (by omega) (by omega) ?_
        exact W.zret (v := w1) (ty := .boolean) hx hb hr (bitN hv2) (fun t ht hWm => ⟨⟨w1, (), rfl, hv2, ⟨F_157, QTm.mk ht hP hD hO hR⟩⟩, hS.F ht⟩) hS.2.2 dX15_isPower_223
      ·
        have hi_166 : j3 < 33 := ltN (N := 33) c_164
        refine lv_iload_n hx hb dX15_isPower_193 rfl (lv_at hl 1 rfl) ?_
        refine lv_aload_n hx hb dX15_isPower_194 rfl (lv_at hl 2 rfl) ?_
        refine pg_get (ci := 15) (v := .ref sq) (C := RX15) (T := TX15) (N := 59) hx hb hts it_15 hown hK hP hL_h0 hF_162 rfl 43 (by decide) (hts _ kt_936) (fun _ h9 => h9) rfl dX15_isPower_195 ?_
        refine lv_iload_n hx hb dX15_isPower_198 rfl (lv_at hl 0 rfl) ?_
        obtain ⟨f_167, hF_168⟩ := hO.ints hi_148 ht_149
        refine pg_iald hx hb hK hP hi_148 0 hF_168 rfl (vp_in_nI (by omega) (by omega)) dX15_isPower_199 ?_
        refine lv_topi (fun x_169 _ => ?_)
        refine lv_aload_n hx hb dX15_isPower_200 rfl (lv_at hl 2 rfl) ?_
        refine pg_get (ci := 15) (v := .ref po) (C := RX15) (T := TX15) (N := 59) hx hb hts it_15 hown hK hP hL_h0 hF_162 rfl 40 (by decide) (hts _ kt_817) (fun _ h9 => h9) rfl dX15_isPower_201 ?_
        refine lv_iload_n hx hb dX15_isPower_204 rfl (lv_at hl 0 rfl) ?_
        obtain ⟨f_170, hF_171⟩ := hO.ints hi_70 ht_71
        refine pg_iald hx hb hK hP hi_70 0 hF_171 rfl (vp_in_nI (by omega) (by omega)) dX15_isPower_205 ?_
        refine lv_topi (fun x_172 _ => ?_)
        refine lv_icmp_ne (tgt := 213) hx hb dX15_isPower_206 (by decide) (fun c_173 => ?_) (fun c_173 => ?_)
        ·
          refine lv_iconst (v := 0) hx hb dX15_isPower_213 (by decide) ?_
          refine lv_iand hx hb dX15_isPower_214 ?_
          refine lv_topi (fun x_174 ex_174 => ?_)
          obtain rfl : x_174 = (w1 &&& 0) := ex_174.trans (rfl)
          refine lv_istore_n (lv' := [(1, .int (w1 &&& 0)), (2, .int (nI j3)), (0, .ref h0)]) hx hb dX15_isPower_215 rfl hl (by decide) rfl (fun ls hl => ?_)
          refine lv_iinc (v := (nI (j3 + 1))) (lv' := [(2, .int (nI (j3 + 1))), (1, .int (w1 &&& 0)), (0, .ref h0)]) hx hb dX15_isPower_216 hl (k := 1) rfl (nI_1 _) (by decide) rfl (fun ls hl => ?_)
          refine lv_goto (tgt := 187) hx hb dX15_isPower_219 (by decide) ?_
          refine W.widen (k := 0) (n := 0) (by omega) (by omega) ?_
          exact ih_161 ((j3 + 1), (w1 &&& 0)) F_157 (⟨by omega, andbit hv2 (by first | exact Or.inl rfl | exact Or.inr rfl)⟩) (by show 33 - (j3 + 1) < 33 - j3; omega) hO hR _ _ hP hD hS ls (lv_sub hl [0, 1, 2] rfl)
        ·
          refine lv_iconst (v := 1) hx hb dX15_isPower_209 (by decide) ?_
          refine lv_goto (tgt := 214) hx hb dX15_isPower_210 (by decide) ?_
          refine lv_iand hx hb dX15_isPower_214 ?_
          refine lv_topi (fun x_175 ex_175 => ?_)
          obtain rfl : x_175 = (w1 &&& 1) := ex_175.trans (rfl)
          refine lv_istore_n (lv' := [(1, .int (w1 &&& 1)), (2, .int (nI j3)), (0, .ref h0)]) hx hb dX15_isPower_215 rfl hl (by decide) rfl (fun ls hl => ?_)
          refine lv_iinc (v := (nI (j3 + 1))) (lv' := [(2, .int (nI (j3 + 1))), (1, .int (w1 &&& 1)), (0, .ref h0)]) hx hb dX15_isPower_216 hl (k := 1) rfl (nI_1 _) (by decide) rfl (fun ls hl => ?_)
          refine lv_goto (tgt := 187) hx hb dX15_isPower_219 (by decide) ?_
          refine W.widen (k := 0) (n := 0) (by omega) (by omega) ?_
          exact ih_161 ((j3 + 1), (w1 &&& 1)) F_157 (⟨by omega, andbit hv2 (by first | exact Or.inl rfl | exact Or.inr rfl)⟩) (by show 33 - (j3 + 1) < 33 - j3; omega) hO hR _ _ hP hD hS ls (lv_sub hl [0, 1, 2] rfl)
    ·
      have hi_176 : j2 < 19 := ltN (N := 19) c_129
      refine lv_aload_n hx hb dX15_isPower_134 rfl (lv_at hl 1 rfl) ?_
      refine pg_get (ci := 15) (v := .ref ex) (C := RX15) (T := TX15) (N := 59) hx hb hts it_15 hown hK hP hL_h0 hF_128 rfl 48 (by decide) (hts _ kt_931) (fun _ h9 => h9) rfl dX15_isPower_135 ?_
      refine lv_bipush (v := 13) hx hb dX15_isPower_138 (by decide) ?_
      refine lv_iload_n hx hb dX15_isPower_140 rfl (lv_at hl 0 rfl) ?_
      refine lv_iadd hx hb dX15_isPower_141 ?_
      refine lv_topi (fun x_177 ex_177 => ?_)
      obtain rfl : x_177 = (nI (13 + j2)) := ex_177.trans (nI_add 13 j2)
      refine lv_aload_n hx hb dX15_isPower_142 rfl (lv_at hl 1 rfl) ?_
      refine pg_get (ci := 15) (v := .ref hd) (C := RX15) (T := TX15) (N := 59) hx hb hts it_15 hown hK hP hL_h0 hF_128 rfl 55 (by decide) (hts _ kt_937) (fun _ h9 => h9) rfl dX15_isPower_143 ?_
      refine lv_iload_n hx hb dX15_isPower_146 rfl (lv_at hl 0 rfl) ?_
      obtain ⟨hi_178, ht_179⟩ := hW.f_hd hL_h0 hT_h0
      obtain ⟨hq_180, hq_181⟩ := hW.ints hi_178 ht_179
      obtain ⟨f_182, hF_183⟩ := hO.ints hi_178 ht_179
      refine pg_iald hx hb hK hP hi_178 0 hF_183 rfl (vp_in_nI (by omega) (by omega)) dX15_isPower_147 ?_
      refine lv_topi (fun x_184 _ => ?_)
      refine lv_i2b hx hb dX15_isPower_148 rfl ?_
      refine lv_topi (fun x_185 _ => ?_)
      obtain ⟨f_186, hF_187, hq_188⟩ := hO.octs hi_96 ht_97
      refine pg_bast hx hb hK hP hD hS hi_96 1 hF_187 rfl (vp_in_nI (by omega) (by omega)) dX15_isPower_149 (fun H locs hP hD hS => ?_)
      obtain ⟨F_189, he_190, hP, hD, hO, hR⟩ : ∃ G, G = va_up F_124 ex (.inl (cs 17, 64, .inl (upd f_186 ((nI (13 + j2))).toNatClampNeg (vp_nar .byte (x_185))))) ∧ va_P (dC, dI) vwCl (va_pl L G) H ∧ va_D A (va_pl L G) ∧ OKm cs ty gm L G ∧ FR ty [ρ + 18, ρ + 23] F G := ⟨_, rfl, hP, hD, hO.up (shm.octs ht_97 ⟨_, rfl, bfm_upd hq_188 _ _⟩), hR.up ht_97 (by simp)⟩
      have hF_191 : F_189 ex = .inl (cs 17, 64, .inl (upd f_186 ((nI (13 + j2))).toNatClampNeg (vp_nar .byte (x_185)))) := by rw [he_190]; exact up_self
      have hF_192 : F_189 h0 = .inr (15, (.ref ta) :: (.int (nI zt)) :: (.int (nI zo_29)) :: (.int (nI ze)) :: (.ref ou) :: (.ref so) :: (.ref ad) :: (.ref na) :: (.ref va) :: (.ref lc) :: (.ref dm) :: (.int (nI fm)) :: (.int (nI sn)) :: (.ref tg) :: (.int v14_30) :: (.int v15_31) :: (.ref pe) :: (.int v17_32) :: (.int v18_33) :: (.int v19_34) :: (.int v20_35) :: (.int v21_36) :: (.int v22_37) :: (.ref ml) :: (.ref bg) :: (.ref co) :: (.ref sp) :: (.ref nb0) :: (.ref nb1) :: (.ref nb2) :: (.int (nI nf)) :: (.int (nI bd)) :: (.int (nI mm)) :: (.int v33_38) :: (.ref pl) :: (.ref se) :: (.ref ke) :: (.ref wi) :: (.ref hs) :: (.ref mo) :: (.ref po) :: (.ref nu) :: (.ref pr) :: (.ref sq) :: (.ref xa) :: (.ref sa) :: (.ref n64) :: (.ref m64) :: (.ref ex) :: (.ref wh) :: (.ref sd) :: (.ref tk) :: (.int v52_39) :: (.int v53_40) :: (.int v54_41) :: (.ref hd) :: (.ref ak) :: (.ref ho) :: (.ref ot) :: []) := by rw [he_190, up_ne (ne_ty hT_h0 ht_97 (by simp))]; exact hF_128
      have hF_193 : F_189 hd = .inl (cs 16, 19, .inl f_182) := by rw [he_190, up_ne (ne_ty ht_179 ht_97 (by simp))]; exact hF_183
      obtain ⟨f_194, hF_191, hq_195⟩ : ∃ f : Nat → Int32, F_189 ex = .inl (cs 17, 64, .inl f) ∧ BFm f := ⟨_, hF_191, bfm_upd hq_188 _ _⟩
      refine lv_iinc (v := (nI (j2 + 1))) (lv' := [(1, .int (nI (j2 + 1))), (0, .ref h0)]) hx hb dX15_isPower_150 hl (k := 0) rfl (nI_1 _) (by decide) rfl (fun ls hl => ?_)
      refine lv_goto (tgt := 128) hx hb dX15_isPower_153 (by decide) ?_
      refine W.widen (k := 0) (n := 0) (by omega) (by omega) ?_
      exact ih_127 (j2 + 1) F_189 (by first | omega | exact ⟨by omega, by omega⟩ | trivial) (by show 19 - (j2 + 1) < 19 - j2; omega) hO hR _ _ hP hD hS ls (lv_sub hl [0, 1] rfl)
  ·
    have hi_196 : j < 16 := ltN (N := 16) c_91
    refine lv_aload_n hx hb dX15_isPower_59 rfl (lv_at hl 1 rfl) ?_
    refine pg_get (ci := 15) (v := .ref po) (C := RX15) (T := TX15) (N := 59) hx hb hts it_15 hown hK hP hL_h0 hF_90 rfl 40 (by decide) (hts _ kt_817) (fun _ h9 => h9) rfl dX15_isPower_60 ?_
    refine lv_iconst (v := 0) hx hb dX15_isPower_63 (by decide) ?_
    refine lv_aload_n hx hb dX15_isPower_64 rfl (lv_at hl 1 rfl) ?_
    refine pg_get (ci := 15) (v := .ref sq) (C := RX15) (T := TX15) (N := 59) hx hb hts it_15 hown hK hP hL_h0 hF_90 rfl 43 (by decide) (hts _ kt_936) (fun _ h9 => h9) rfl dX15_isPower_65 ?_
    refine lv_iconst (v := 0) hx hb dX15_isPower_68 (by decide) ?_
    refine lv_bipush (v := 33) hx hb dX15_isPower_69 (by decide) ?_
    obtain ⟨f_197, hF_198⟩ := hO.ints hi_70 ht_71
    obtain ⟨hi_199, ht_200⟩ := hW.f_sq hL_h0 hT_h0
    obtain ⟨hq_201, hq_202⟩ := hW.ints hi_199 ht_200
    obtain ⟨f_203, hF_204⟩ := hO.ints hi_199 ht_200
    refine pg_copyi hx hb (by rw [hml]; exact hl.1.symm) hown (hts _ kt_908) (hts _ kt_29) (hts _ kt_30) (hts _ kt_31) hK hP hD hS hi_70 hi_199 0 0 hF_198 hF_204 rfl rfl rfl (by decide) (by decide) (by decide) (by decide) (by decide) (fun _ _ => rfl) (Nat.le_of_ble_eq_true rfl) (by decide) dX15_isPower_71 (fun H locs hP hD hS => ?_)
    obtain ⟨F_205, he_206, hP, hD, hO, hR⟩ : ∃ G, G = va_up F_86 sq (.inl (cs 16, 33, .inl (va_cpy f_197 f_203 (0 : Int32).toNatClampNeg (0 : Int32).toNatClampNeg (33 : Int32).toNatClampNeg))) ∧ va_P (dC, dI) vwCl (va_pl L G) H ∧ va_D A (va_pl L G) ∧ OKm cs ty gm L G ∧ FR ty [ρ + 18, ρ + 23] F G := ⟨_, rfl, hP, hD, hO.up (shm.ints ht_200 ⟨_, rfl⟩), hR.up ht_200 (by simp)⟩
    have hF_207 : F_205 sq = .inl (cs 16, 33, .inl (va_cpy f_197 f_203 (0 : Int32).toNatClampNeg (0 : Int32).toNatClampNeg (33 : Int32).toNatClampNeg)) := by rw [he_206]; exact up_self
    have hF_208 : F_205 h0 = .inr (15, (.ref ta) :: (.int (nI zt)) :: (.int (nI zo_29)) :: (.int (nI ze)) :: (.ref ou) :: (.ref so) :: (.ref ad) :: (.ref na) :: (.ref va) :: (.ref lc) :: (.ref dm) :: (.int (nI fm)) :: (.int (nI sn)) :: (.ref tg) :: (.int v14_30) :: (.int v15_31) :: (.ref pe) :: (.int v17_32) :: (.int v18_33) :: (.int v19_34) :: (.int v20_35) :: (.int v21_36) :: (.int v22_37) :: (.ref ml) :: (.ref bg) :: (.ref co) :: (.ref sp) :: (.ref nb0) :: (.ref nb1) :: (.ref nb2) :: (.int (nI nf)) :: (.int (nI bd)) :: (.int (nI mm)) :: (.int v33_38) :: (.ref pl) :: (.ref se) :: (.ref ke) :: (.ref wi) :: (.ref hs) :: (.ref mo) :: (.ref po) :: (.ref nu) :: (.ref pr) :: (.ref sq) :: (.ref xa) :: (.ref sa) :: (.ref n64) :: (.ref m64) :: (.ref ex) :: (.ref wh) :: (.ref sd) :: (.ref tk) :: (.int v52_39) :: (.int v53_40) :: (.int v54_41) :: (.ref hd) :: (.ref ak) :: (.ref ho) :: (.ref ot) :: []) := by rw [he_206, up_ne (ne_ty hT_h0 ht_200 (by simp))]; exact hF_90
    obtain ⟨f_209, hF_207⟩ : ∃ f : Nat → Int32, F_205 sq = .inl (cs 16, 33, .inl f) := ⟨_, hF_207⟩
    refine lv_aload_n hx hb dX15_isPower_74 rfl (lv_at hl 1 rfl) ?_
    refine lv_aload_n hx hb dX15_isPower_75 rfl (lv_at hl 1 rfl) ?_
    refine pg_get (ci := 15) (v := .ref sq) (C := RX15) (T := TX15) (N := 59) hx hb hts it_15 hown hK hP hL_h0 hF_208 rfl 43 (by decide) (hts _ kt_936) (fun _ h9 => h9) rfl dX15_isPower_76 ?_
    have hFc := pg_free hD hS hA
    refine va_callv (va_runV (As := [.ref sq]) (rest := []) ⟨hx, hb, hml, hown, hts⟩ (s_X15_times l dC dI cs ty gm L H.size F_205 h0 ρ ta ou so ad na va lc dm tg pe ml bg co sp nb0 nb1 nb2 pl se ke wi hs mo po nu pr sq xa sa n64 m64 ex wh sd tk hd ak ho ot sx s0 s1 s2 nf bd mm fm sn hg gc gv ze zt sq (ρ + 18) hW hL_h0 hT_h0 hi_199 ht_200) ⟨callB_of 1 hts (gi kt_927) rfl rfl rfl (hts _ kt_669) (hts _ kt_928) (by decide +kernel) ⟨Nat.le_of_ble_eq_true rfl, Nat.le_of_ble_eq_true rfl⟩, (hts _ kt_929), (hts _ kt_930)⟩ ⟨fun a U g mk q => ⟨q.1, PTm.calling q.2⟩, pg_recv hK hP hL_h0 hF_208 (q := (RX15, TX15, 59)) rfl, fun U hU hWm => ⟨rfl, PTm.mk hU hWm hP hK hD hE hO⟩⟩ rfl rfl hl.1 rfl (lv_room (Nat.le_of_ble_eq_true rfl)) dX15_isPower_79 ⟨by show _ + 0 ≤ 0; omega, by show _ + 0 ≤ 0; omega⟩) hS (fun q _ h => hFc q h) hFc (fun u t H1 locs ht hvm hw hB hz1 hk1 hS => ?_)
    obtain ⟨F_211, hB1⟩ := hB
    obtain ⟨hP, hD, hO, hR⟩ := QTm.back hB1 ht hFc hR (fun q h => by simp only [List.mem_cons, List.not_mem_nil, or_false] at h ⊢; omega)
    have hF_212 : F_211 h0 = .inr (15, (.ref ta) :: (.int (nI zt)) :: (.int (nI zo_29)) :: (.int (nI ze)) :: (.ref ou) :: (.ref so) :: (.ref ad) :: (.ref na) :: (.ref va) :: (.ref lc) :: (.ref dm) :: (.int (nI fm)) :: (.int (nI sn)) :: (.ref tg) :: (.int v14_30) :: (.int v15_31) :: (.ref pe) :: (.int v17_32) :: (.int v18_33) :: (.int v19_34) :: (.int v20_35) :: (.int v21_36) :: (.int v22_37) :: (.ref ml) :: (.ref bg) :: (.ref co) :: (.ref sp) :: (.ref nb0) :: (.ref nb1) :: (.ref nb2) :: (.int (nI nf)) :: (.int (nI bd)) :: (.int (nI mm)) :: (.int v33_38) :: (.ref pl) :: (.ref se) :: (.ref ke) :: (.ref wi) :: (.ref hs) :: (.ref mo) :: (.ref po) :: (.ref nu) :: (.ref pr) :: (.ref sq) :: (.ref xa) :: (.ref sa) :: (.ref n64) :: (.ref m64) :: (.ref ex) :: (.ref wh) :: (.ref sd) :: (.ref tk) :: (.int v52_39) :: (.int v53_40) :: (.int v54_41) :: (.ref hd) :: (.ref ak) :: (.ref ho) :: (.ref ot) :: []) := (hB1.2.2.2 h0 (by rw [hT_h0]; simp)).trans hF_208
    generalize H1 = H at hP hS ⊢
    refine lv_iinc (v := (nI (j + 1))) (lv' := [(1, .int (nI (j + 1))), (0, .ref h0)]) hx hb dX15_isPower_82 hl (k := 0) rfl (nI_1 _) (by decide) rfl (fun ls hl => ?_)
    refine lv_goto (tgt := 53) hx hb dX15_isPower_85 (by decide) ?_
    refine W.widen (k := 0) (n := 0) (by omega) (by omega) ?_
    exact ih_89 (j + 1) F_211 (by first | omega | exact ⟨by omega, by omega⟩ | trivial) (by show 16 - (j + 1) < 16 - j; omega) hO hR _ _ hP hD hS ls (lv_sub hl [0, 1] rfl)
set_option maxHeartbeats 4000000 in
set_option maxRecDepth 100000 in
theorem s_X15_keyOf (l : Launch) (dC : Nat → ClassId) (dI : Nat → Nat → Nat) (cs : Nat → ClassId) (ty : TyM) (gm : Nat → Nat → Nat) (L : List Nat) (sz : Nat) (F : Nat → va_E) (h0 : Nat) (ρ : Nat) (ta : Nat) (ou : Nat) (so : Nat) (ad : Nat) (na : Nat) (va : Nat) (lc : Nat) (dm : Nat) (tg : Nat) (pe : Nat) (ml : Nat) (bg : Nat) (co : Nat) (sp : Nat) (nb0 : Nat) (nb1 : Nat) (nb2 : Nat) (pl : Nat) (se : Nat) (ke : Nat) (wi : Nat) (hs : Nat) (mo : Nat) (po : Nat) (nu : Nat) (pr : Nat) (sq : Nat) (xa : Nat) (sa : Nat) (n64 : Nat) (m64 : Nat) (ex : Nat) (wh : Nat) (sd : Nat) (tk : Nat) (hd : Nat) (ak : Nat) (ho : Nat) (ot : Nat) (sx : Nat) (s0 : Nat) (s1 : Nat) (s2 : Nat) (nf : Nat) (bd : Nat) (mm : Nat) (fm : Nat) (sn : Nat) (hg : Nat) (gc : Nat) (gv : Nat) (ze : Nat) (zt : Nat) (hW : WTm ty gm L) (hL_h0 : h0 ∈ L) (hT_h0 : ty h0 = (15, ρ, [ta, ou, so, ad, na, va, lc, dm, tg, pe, ml, bg, co, sp, nb0, nb1, nb2, pl, se, ke, wi, hs, mo, po, nu, pr, sq, xa, sa, n64, m64, ex, wh, sd, tk, hd, ak, ho, ot, sx, s0, s1, s2, nf, bd, mm, fm, sn, hg, gc, gv, ze, zt])) : Met l yX15_keyOf (.code yX15_keyOf cX15_keyOf 3 (some .int) :: tb) ({ frames := 7, cells := 0, slots := 0, locals := 164 }) (va_Pc [.ref h0] (PTEm (dC, dI) cs ty gm L F sz [])) (va_Qi (fun (r : Int32) (_ : Unit) => True) (fun _ T9 => ∃ F2 : Nat → va_E, QTm (dC, dI) cs ty gm L [ρ + 13, ρ + 14, ρ + 22, ρ + 83, ρ + 84] F F2 (va_A (va_pl L F) sz) T9) (va_A (va_pl L F) sz)) 0 0 (va_A (va_pl L F) sz) := by
  refine Met.ofW (cc := cX15_keyOf) (maxL := 3) (ret := (some .int)) (by decide) rfl ?_
  intro p e s m args below meth c s₁ B hml hv
  obtain ⟨rfl, ⟨hsz, hP, hK, hD0, hE, hO⟩, hG, hX⟩ := hv
  have hx := B.exec
  have hb := B.bytes
  have hr := B.returns
  have hts : ∀ w ∈ tb, w.before _ s = true := fun w h => atoms_spec (ws := .code yX15_keyOf cX15_keyOf 3 (some .int) :: tb) B.pre w (List.mem_cons_of_mem _ h)
  have hown : s.vm.findClass RX15 = some m.cls := findClass_of_methodNamed B.named
  have hlocks := B.notSynchronized
  subst hsz
  have hD := hD0.self (sz := s.heap.size)
  generalize hAe : va_A (va_pl L F) s.heap.size = A at hD hG hX ⊢
  have hA : ∀ q : Nat, s.heap.size ≤ q → A q := fun q h => by rw [← hAe]; exact Or.inr h
  have hS : va_S A s.heap s.heap [] := va_S.rf
  have hR : FR ty [ρ + 13, ρ + 14, ρ + 22, ρ + 83, ρ + 84] F F := FR.refl
  have hl := lv_entry ([.ref h0]) (n := 3) (Nat.le_of_ble_eq_true rfl)
  rw [lg_entry_eq]
  generalize (lg_sl ([.ref h0]) ++ List.replicate (3 - (lg_sl ([.ref h0])).length) Slot.unset).toArray = ls at hl ⊢
  have hl : lv_has ls 3 [(0, .ref h0)] := hl
  obtain ⟨hq_23, hq_24, hq_25, hq_26, hq_27, hgO, hgA, hgB, hq_28⟩ := hW.sc hL_h0 hT_h0
  obtain ⟨hi_29, x_5, y0_6, y1_7, y2_8, ht_30⟩ := hW.f_ke hL_h0 hT_h0
  obtain ⟨hi_31, hi_32, hi_33, hi_34, ⟨r_35, ht_36⟩, ht_37, ht_38, ht_39, hq_40, hq_41⟩ := hW.tags hi_29 ht_30
  have ht_36 : ty x_5 = (14, ρ + 14, [r_35, 700]) := ht_36
  have ht_38 : ty y1_7 = (25, ρ + 83, [40, 700]) := ht_38
  have ht_39 : ty y2_8 = (25, ρ + 84, [40, 700]) := ht_39
  obtain ⟨z_42, hF_43, hq_44⟩ := hO.tags hi_29 ht_30
  obtain ⟨hi_45, ht_46, hq_47⟩ := hW.txt hi_31 ht_36
  refine lv_aload_n hx hb dX15_keyOf_0 rfl (lv_at hl 0 rfl) ?_
  refine lv_aload_n hx hb dX15_keyOf_1 rfl (lv_at hl 0 rfl) ?_
  obtain ⟨zo_48, v14_49, v15_50, v17_51, v18_52, v19_53, v20_54, v21_55, v22_56, v33_57, v52_58, v53_59, v54_60, hF_61, hq_62, hq_63, hq_64, hq_65, hq_66⟩ := hO.mod hL_h0 hT_h0
  refine pg_get (ci := 15) (v := .ref wh) (C := RX15) (T := TX15) (N := 59) hx hb hts it_15 hown hK hP hL_h0 hF_61 rfl 49 (by decide) (hts _ kt_938) (fun _ h9 => h9) rfl dX15_keyOf_2 ?_
  obtain ⟨hi_67, r_18, ht_68⟩ := hW.f_wh hL_h0 hT_h0
  obtain ⟨hi_69, ht_70, hq_71⟩ := hW.txt hi_67 ht_68
  have hFc := pg_free hD hS hA
  refine va_calli (va_runV (As := [.ref wh]) (rest := []) ⟨hx, hb, hml, hown, hts⟩ (s_X15_isTrouble l dC dI cs ty gm L s.heap.size F h0 ρ ta ou so ad na va lc dm tg pe ml bg co sp nb0 nb1 nb2 pl se ke wi hs mo po nu pr sq xa sa n64 m64 ex wh sd tk hd ak ho ot sx s0 s1 s2 nf bd mm fm sn hg gc gv ze zt wh (ρ + 24) r_18 6000 hW hL_h0 hT_h0 hi_67 ht_68) ⟨callB_of 1 hts (gi kt_736) rfl rfl rfl (hts _ kt_669) (hts _ kt_737) (by decide +kernel) ⟨Nat.le_of_ble_eq_true rfl, Nat.le_of_ble_eq_true rfl⟩, (hts _ kt_738), (hts _ kt_739)⟩ ⟨fun a U g mk q => ⟨q.1, PTm.calling q.2⟩, pg_recv hK hP hL_h0 hF_61 (q := (RX15, TX15, 59)) rfl, fun U hU hWm => ⟨rfl, PTm.mk hU hWm hP hK hD hE hO⟩⟩ rfl rfl hl.1 rfl (lv_room (Nat.le_of_ble_eq_true rfl)) dX15_keyOf_5 ⟨by show _ + 0 ≤ 0; omega, by show _ + 0 ≤ 0; omega⟩) hS (fun q _ h => hFc q h) hFc (fun r_72 u t H1 locs ht hvm hw hB hz1 hk1 hS => ?_)
  obtain ⟨F_73, hB1⟩ := hB
  obtain rfl : F = F_73 := (funext (fun a => hB1.2.2.2 a List.not_mem_nil)).symm
  obtain ⟨hP, hD, hO, hR⟩ := QTm.back hB1 ht hFc hR (fun q h => absurd h List.not_mem_nil)
  generalize H1 = H at hP hS ⊢
  have hw : (r_72 = 0 ∨ r_72 = 1) := hw
  have hw_74 := hw
  refine lv_if_eq (tgt := 13) hx hb dX15_keyOf_8 (by decide) (fun c_75 => ?_) (fun c_75 => ?_)
  ·
    refine lv_iconst (v := 0) hx hb dX15_keyOf_13 (by decide) ?_
    refine lv_istore_n (lv' := [(1, .int 0), (0, .ref h0)]) hx hb dX15_keyOf_14 rfl hl (by decide) rfl (fun ls hl => ?_)
    refine W.widen (k := 0) (n := 0) (by omega) (by omega) ?_
    have hF_77 : F h0 = .inr (15, (.ref ta) :: (.int (nI zt)) :: (.int (nI zo_48)) :: (.int (nI ze)) :: (.ref ou) :: (.ref so) :: (.ref ad) :: (.ref na) :: (.ref va) :: (.ref lc) :: (.ref dm) :: (.int (nI fm)) :: (.int (nI sn)) :: (.ref tg) :: (.int v14_49) :: (.int v15_50) :: (.ref pe) :: (.int v17_51) :: (.int v18_52) :: (.int v19_53) :: (.int v20_54) :: (.int v21_55) :: (.int v22_56) :: (.ref ml) :: (.ref bg) :: (.ref co) :: (.ref sp) :: (.ref nb0) :: (.ref nb1) :: (.ref nb2) :: (.int (nI nf)) :: (.int (nI bd)) :: (.int (nI mm)) :: (.int v33_57) :: (.ref pl) :: (.ref se) :: (.ref ke) :: (.ref wi) :: (.ref hs) :: (.ref mo) :: (.ref po) :: (.ref nu) :: (.ref pr) :: (.ref sq) :: (.ref xa) :: (.ref sa) :: (.ref n64) :: (.ref m64) :: (.ref ex) :: (.ref wh) :: (.ref sd) :: (.ref tk) :: (.int v52_58) :: (.int v53_59) :: (.int v54_60) :: (.ref hd) :: (.ref ak) :: (.ref ho) :: (.ref ot) :: []) := (hR h0 (by rw [hT_h0]; simp)).symm.trans hF_61
    refine pl_loopm (σ := Nat) A (dC, dI) cs ty gm L [ρ + 13, ρ + 14, ρ + 22, ρ + 83, ρ + 84] F 15 3 (fun j => [(1, .int (nI j)), (0, .ref h0)]) (fun j => []) (fun j _ => j ≤ ze) (fun j => 40 - j) ?_ 0 F (by omega) hO hR _ _ hP hD hS ls (lv_sub hl [0, 1] rfl)
    rintro j F_76 hv_78 hO hR ih_79 H locs hP hD hS ls hl
    have hl : lv_has ls 3 [(1, .int (nI j)), (0, .ref h0)] := hl
    have hv_78 : j ≤ ze := hv_78
    refine W.eq (g2 := F0 m 15 ls []) rfl ?_
    have hF_80 : F_76 h0 = .inr (15, (.ref ta) :: (.int (nI zt)) :: (.int (nI zo_48)) :: (.int (nI ze)) :: (.ref ou) :: (.ref so) :: (.ref ad) :: (.ref na) :: (.ref va) :: (.ref lc) :: (.ref dm) :: (.int (nI fm)) :: (.int (nI sn)) :: (.ref tg) :: (.int v14_49) :: (.int v15_50) :: (.ref pe) :: (.int v17_51) :: (.int v18_52) :: (.int v19_53) :: (.int v20_54) :: (.int v21_55) :: (.int v22_56) :: (.ref ml) :: (.ref bg) :: (.ref co) :: (.ref sp) :: (.ref nb0) :: (.ref nb1) :: (.ref nb2) :: (.int (nI nf)) :: (.int (nI bd)) :: (.int (nI mm)) :: (.int v33_57) :: (.ref pl) :: (.ref se) :: (.ref ke) :: (.ref wi) :: (.ref hs) :: (.ref mo) :: (.ref po) :: (.ref nu) :: (.ref pr) :: (.ref sq) :: (.ref xa) :: (.ref sa) :: (.ref n64) :: (.ref m64) :: (.ref ex) :: (.ref wh) :: (.ref sd) :: (.ref tk) :: (.int v52_58) :: (.int v53_59) :: (.int v54_60) :: (.ref hd) :: (.ref ak) :: (.ref ho) :: (.ref ot) :: []) := (hR h0 (by rw [hT_h0]; simp)).trans hF_77
    refine lv_iload_n hx hb dX15_keyOf_15 rfl (lv_at hl 0 rfl) ?_
    refine lv_aload_n hx hb dX15_keyOf_16 rfl (lv_at hl 1 rfl) ?_
    refine pg_get (ci := 15) (v := .int (nI ze)) (C := RX15) (T := TX15) (N := 59) hx hb hts it_15 hown hK hP hL_h0 hF_80 rfl 3 (by decide) (hts _ kt_724) (fun _ h9 => h9) rfl dX15_keyOf_17 ?_
    refine lv_icmp_ge (tgt := 42) hx hb dX15_keyOf_20 (by decide) (fun c_81 => ?_) (fun c_81 => ?_)
    ·
      have hi_82 : ze ≤ j := leN (N := ze) c_81
      refine lv_iload_n hx hb dX15_keyOf_42 rfl (lv_at hl 0 rfl) ?_
      refine lv_aload_n hx hb dX15_keyOf_43 rfl (lv_at hl 1 rfl) ?_
      refine pg_get (ci := 15) (v := .int (nI ze)) (C := RX15) (T := TX15) (N := 59) hx hb hts it_15 hown hK hP hL_h0 hF_80 rfl 3 (by decide) (hts _ kt_724) (fun _ h9 => h9) rfl dX15_keyOf_44 ?_
      refine lv_icmp_ne (tgt := 53) hx hb dX15_keyOf_47 (by decide) (fun c_83 => ?_) (fun c_83 => ?_)
      ·
        have hi_84 : j ≠ ze := fun q => c_83 (by rw [q])
        obtain ⟨z_85, hF_86, hq_87⟩ := hO.tags hi_29 ht_30
        refine lv_aload_n hx hb dX15_keyOf_53 rfl (lv_at hl 1 rfl) ?_
        refine pg_get (ci := 15) (v := .ref va) (C := RX15) (T := TX15) (N := 59) hx hb hts it_15 hown hK hP hL_h0 hF_80 rfl 8 (by decide) (hts _ kt_732) (fun _ h9 => h9) rfl dX15_keyOf_54 ?_
        refine lv_iload_n hx hb dX15_keyOf_57 rfl (lv_at hl 0 rfl) ?_
        obtain ⟨hi_88, ht_89⟩ := hW.f_va hL_h0 hT_h0
        obtain ⟨f_90, hF_91, hq_92⟩ := hO.rtxj hi_88 ht_89
        obtain ⟨b_93, r_94, hbf_95, hi_96, ht_97⟩ := hq_92 j (by omega)
        refine pg_aald (r := b_93) hx hb hK hP hi_88 7 hF_91 rfl (vp_in_nI (by omega) (by omega)) (show f_90 ((nI j) : Int32).toNatClampNeg = _ from by rw [show ((nI j) : Int32) = nI j from rfl, nI_clamp (by omega)]; exact hbf_95) dX15_keyOf_58 ?_
        obtain ⟨hi_98, ht_99, hq_100⟩ := hW.txt hi_96 ht_97
        obtain ⟨z_101, hF_102, hq_103⟩ := hO.txt hi_96 ht_97
        refine pg_get (ci := 14) (v := .ref r_94) (C := RX14) (T := TX14) (N := 2) hx hb hts it_14 hown hK hP hi_96 hF_102 rfl 0 (by decide) (hts _ kt_710) (fun _ h9 => h9) rfl dX15_keyOf_59 ?_
        refine lv_iconst (v := 0) hx hb dX15_keyOf_62 (by decide) ?_
        refine lv_aload_n hx hb dX15_keyOf_63 rfl (lv_at hl 1 rfl) ?_
        refine pg_get (ci := 15) (v := .ref va) (C := RX15) (T := TX15) (N := 59) hx hb hts it_15 hown hK hP hL_h0 hF_80 rfl 8 (by decide) (hts _ kt_732) (fun _ h9 => h9) rfl dX15_keyOf_64 ?_
        refine lv_iload_n hx hb dX15_keyOf_67 rfl (lv_at hl 0 rfl) ?_
        obtain ⟨b_104, r_105, hbf_106, hi_107, ht_108⟩ := hq_92 j (by omega)
        refine pg_aald (r := b_104) hx hb hK hP hi_88 7 hF_91 rfl (vp_in_nI (by omega) (by omega)) (show f_90 ((nI j) : Int32).toNatClampNeg = _ from by rw [show ((nI j) : Int32) = nI j from rfl, nI_clamp (by omega)]; exact hbf_106) dX15_keyOf_68 ?_
        obtain ⟨hi_109, ht_110, hq_111⟩ := hW.txt hi_107 ht_108
        obtain ⟨z_112, hF_113, hq_114⟩ := hO.txt hi_107 ht_108
        refine pg_get (ci := 14) (v := .int (nI z_112)) (C := RX14) (T := TX14) (N := 2) hx hb hts it_14 hown hK hP hi_107 hF_113 rfl 1 (by decide) (hts _ kt_709) (fun _ h9 => h9) rfl dX15_keyOf_69 ?_
        refine lv_aload_n hx hb dX15_keyOf_72 rfl (lv_at hl 1 rfl) ?_
        refine pg_get (ci := 15) (v := .ref ke) (C := RX15) (T := TX15) (N := 59) hx hb hts it_15 hown hK hP hL_h0 hF_80 rfl 36 (by decide) (hts _ kt_939) (fun _ h9 => h9) rfl dX15_keyOf_73 ?_
        refine pg_get (ci := 13) (v := .ref x_5) (C := RX13) (T := TX13) (N := 5) hx hb hts it_13 hown hK hP hi_29 hF_86 rfl 0 (by decide) (hts _ kt_842) (fun _ h9 => h9) rfl dX15_keyOf_76 ?_
        refine W.eq (g2 := F0 m 79 ls [.ref x_5, .int (nI z_112), .int (nI 0), .ref r_94]) rfl ?_
        obtain ⟨hq_115, hq_116⟩ := hW.octs hi_98 ht_99
        have hFc := pg_free hD hS hA
        refine va_callv (va_runS (As := [.ref r_94, .int (nI 0), .int (nI z_112), .ref x_5]) (rest := []) ⟨hx, hb, hml, hown, hts⟩ (s_X15_withoutWhite l dC dI cs ty gm L H.size F_76 r_94 (ρ + 50 + j + 100) 700 x_5 (ρ + 14) r_35 700 0 z_112 hW hi_98 ht_99 hi_31 ht_36 (by first | omega | assumption | exact Or.inl rfl) (by first | omega | assumption | exact Or.inl rfl) (by first | omega | assumption | exact Or.inl rfl)) ⟨callB_of 4 hts (gi kt_940) rfl rfl rfl (hts _ kt_669) (hts _ kt_941) (by decide +kernel) ⟨Nat.le_of_ble_eq_true rfl, Nat.le_of_ble_eq_true rfl⟩, (hts _ kt_942)⟩ ⟨fun a U g mk q => ⟨q.1, PTm.calling q.2⟩, fun U hU hWm => ⟨rfl, PTm.mk hU hWm hP hK hD hE hO⟩⟩ rfl rfl hl.1 rfl (lv_room (Nat.le_of_ble_eq_true rfl)) dX15_keyOf_79 ⟨by show _ + 0 ≤ 0; omega, by show _ + 0 ≤ 0; omega⟩) hS (fun q _ h => hFc q h) hFc (fun u t H1 locs ht hvm hw hB hz1 hk1 hS => ?_)
        obtain ⟨F_118, z2_119, hB1, hq_120, hq_121⟩ := hB
        obtain ⟨hP, hD, hO, hR⟩ := QTm.back hB1 ht hFc hR (fun q h => by simp only [List.mem_cons, List.not_mem_nil, or_false] at h ⊢; omega)
        have hF_122 : F_118 h0 = .inr (15, (.ref ta) :: (.int (nI zt)) :: (.int (nI zo_48)) :: (.int (nI ze)) :: (.ref ou) :: (.ref so) :: (.ref ad) :: (.ref na) :: (.ref va) :: (.ref lc) :: (.ref dm) :: (.int (nI fm)) :: (.int (nI sn)) :: (.ref tg) :: (.int v14_49) :: (.int v15_50) :: (.ref pe) :: (.int v17_51) :: (.int v18_52) :: (.int v19_53) :: (.int v20_54) :: (.int v21_55) :: (.int v22_56) :: (.ref ml) :: (.ref bg) :: (.ref co) :: (.ref sp) :: (.ref nb0) :: (.ref nb1) :: (.ref nb2) :: (.int (nI nf)) :: (.int (nI bd)) :: (.int (nI mm)) :: (.int v33_57) :: (.ref pl) :: (.ref se) :: (.ref ke) :: (.ref wi) :: (.ref hs) :: (.ref mo) :: (.ref po) :: (.ref nu) :: (.ref pr) :: (.ref sq) :: (.ref xa) :: (.ref sa) :: (.ref n64) :: (.ref m64) :: (.ref ex) :: (.ref wh) :: (.ref sd) :: (.ref tk) :: (.int v52_58) :: (.int v53_59) :: (.int v54_60) :: (.ref hd) :: (.ref ak) :: (.ref ho) :: (.ref ot) :: []) := (hB1.2.2.2 h0 (by rw [hT_h0]; simp)).trans hF_80
        have hF_123 : F_118 ke = .inr (13, [.ref x_5, .ref y0_6, .ref y1_7, .ref y2_8, .int (nI z_85)]) := (hB1.2.2.2 ke (by rw [ht_30]; simp)).trans hF_86
        have hF_124 : F_118 va = .inl (cs 23, 40, .inr (.inr (.inr (.inr f_90)))) := (hB1.2.2.2 va (by rw [ht_89]; simp)).trans hF_91
        have hF_125 : F_118 b_93 = .inr (14, [.ref r_94, .int (nI z_101)]) := (hB1.2.2.2 b_93 (by rw [ht_97]; simp only [List.mem_cons, List.not_mem_nil, or_false]; omega)).trans hF_102
        have hF_126 : F_118 b_104 = .inr (14, [.ref r_105, .int (nI z_112)]) := (hB1.2.2.2 b_104 (by rw [ht_108]; simp only [List.mem_cons, List.not_mem_nil, or_false]; omega)).trans hF_113
        generalize H1 = H at hP hS ⊢
        refine lv_aload_n hx hb dX15_keyOf_82 rfl (lv_at hl 1 rfl) ?_
        refine pg_get (ci := 15) (v := .ref ke) (C := RX15) (T := TX15) (N := 59) hx hb hts it_15 hown hK hP hL_h0 hF_122 rfl 36 (by decide) (hts _ kt_939) (fun _ h9 => h9) rfl dX15_keyOf_83 ?_
        refine lv_bipush (v := 8) hx hb dX15_keyOf_86 (by decide) ?_
        have hFc := pg_free hD hS hA
        refine va_calli (va_runV (As := [.int 8]) (rest := []) ⟨hx, hb, hml, hown, hts⟩ (s_X13_read l dC dI cs ty gm L H.size F_118 ke (ρ + 13) x_5 700 700 y0_6 y1_7 y2_8 r_35 z2_119 8 hW hi_29 ht_30 hi_31 ht_36 hq_120 (by first | omega | assumption | exact Or.inl rfl)) ⟨callB_of 1 hts (gi kt_859) rfl rfl rfl (hts _ kt_829) (hts _ kt_860) (by decide +kernel) ⟨Nat.le_of_ble_eq_true rfl, Nat.le_of_ble_eq_true rfl⟩, (hts _ kt_861), (hts _ kt_862)⟩ ⟨fun a U g mk q => ⟨q.1, PTm.calling q.2⟩, pg_recv hK hP hi_29 hF_123 (q := (RX13, TX13, 5)) rfl, fun U hU hWm => ⟨rfl, PTm.mk hU hWm hP hK hD hE hO⟩⟩ rfl rfl hl.1 rfl (lv_room (Nat.le_of_ble_eq_true rfl)) dX15_keyOf_88 ⟨by show _ + 0 ≤ 0; omega, by show _ + 0 ≤ 0; omega⟩) hS (fun q _ h => hFc q h) hFc (fun r_127 u t H1 locs ht hvm hw hB hz1 hk1 hS => ?_)
        obtain ⟨F_128, z2_129, hB1, hq_130, hq_131⟩ := hB
        obtain ⟨hP, hD, hO, hR⟩ := QTm.back hB1 ht hFc hR (fun q h => by simp only [List.mem_cons, List.not_mem_nil, or_false] at h ⊢; omega)
        have hF_132 : F_128 h0 = .inr (15, (.ref ta) :: (.int (nI zt)) :: (.int (nI zo_48)) :: (.int (nI ze)) :: (.ref ou) :: (.ref so) :: (.ref ad) :: (.ref na) :: (.ref va) :: (.ref lc) :: (.ref dm) :: (.int (nI fm)) :: (.int (nI sn)) :: (.ref tg) :: (.int v14_49) :: (.int v15_50) :: (.ref pe) :: (.int v17_51) :: (.int v18_52) :: (.int v19_53) :: (.int v20_54) :: (.int v21_55) :: (.int v22_56) :: (.ref ml) :: (.ref bg) :: (.ref co) :: (.ref sp) :: (.ref nb0) :: (.ref nb1) :: (.ref nb2) :: (.int (nI nf)) :: (.int (nI bd)) :: (.int (nI mm)) :: (.int v33_57) :: (.ref pl) :: (.ref se) :: (.ref ke) :: (.ref wi) :: (.ref hs) :: (.ref mo) :: (.ref po) :: (.ref nu) :: (.ref pr) :: (.ref sq) :: (.ref xa) :: (.ref sa) :: (.ref n64) :: (.ref m64) :: (.ref ex) :: (.ref wh) :: (.ref sd) :: (.ref tk) :: (.int v52_58) :: (.int v53_59) :: (.int v54_60) :: (.ref hd) :: (.ref ak) :: (.ref ho) :: (.ref ot) :: []) := (hB1.2.2.2 h0 (by rw [hT_h0]; simp <;> omega)).trans hF_122
        have hF_133 : F_128 va = .inl (cs 23, 40, .inr (.inr (.inr (.inr f_90)))) := (hB1.2.2.2 va (by rw [ht_89]; simp <;> omega)).trans hF_124
        have hF_134 : F_128 b_93 = .inr (14, [.ref r_94, .int (nI z_101)]) := (hB1.2.2.2 b_93 (by rw [ht_97]; simp only [List.mem_cons, List.not_mem_nil, or_false]; omega)).trans hF_125
        have hF_135 : F_128 b_104 = .inr (14, [.ref r_105, .int (nI z_112)]) := (hB1.2.2.2 b_104 (by rw [ht_108]; simp only [List.mem_cons, List.not_mem_nil, or_false]; omega)).trans hF_126
        have hF_136 : F_128 x_5 = .inr (14, [.ref r_35, .int (nI z2_119)]) := (hB1.2.2.2 x_5 (by rw [ht_36]; simp <;> omega)).trans hq_120
        generalize H1 = H at hP hS ⊢
        have hw : (r_127 = 0 ∨ r_127 = 1) := hw
        have hw_137 := hw
        have hF_140 : F h0 = .inr (15, (.ref ta) :: (.int (nI zt)) :: (.int (nI zo_48)) :: (.int (nI ze)) :: (.ref ou) :: (.ref so) :: (.ref ad) :: (.ref na) :: (.ref va) :: (.ref lc) :: (.ref dm) :: (.int (nI fm)) :: (.int (nI sn)) :: (.ref tg) :: (.int v14_49) :: (.int v15_50) :: (.ref pe) :: (.int v17_51) :: (.int v18_52) :: (.int v19_53) :: (.int v20_54) :: (.int v21_55) :: (.int v22_56) :: (.ref ml) :: (.ref bg) :: (.ref co) :: (.ref sp) :: (.ref nb0) :: (.ref nb1) :: (.ref nb2) :: (.int (nI nf)) :: (.int (nI bd)) :: (.int (nI mm)) :: (.int v33_57) :: (.ref pl) :: (.ref se) :: (.ref ke) :: (.ref wi) :: (.ref hs) :: (.ref mo) :: (.ref po) :: (.ref nu) :: (.ref pr) :: (.ref sq) :: (.ref xa) :: (.ref sa) :: (.ref n64) :: (.ref m64) :: (.ref ex) :: (.ref wh) :: (.ref sd) :: (.ref tk) :: (.int v52_58) :: (.int v53_59) :: (.int v54_60) :: (.ref hd) :: (.ref ak) :: (.ref ho) :: (.ref ot) :: []) := (hR h0 (by rw [hT_h0]; simp)).symm.trans hF_132
        have hF_141 : F va = .inl (cs 23, 40, .inr (.inr (.inr (.inr f_90)))) := (hR va (by rw [ht_89]; simp)).symm.trans hF_133
        have hF_142 : F b_93 = .inr (14, [.ref r_94, .int (nI z_101)]) := (hR b_93 (by rw [ht_97]; simp only [List.mem_cons, List.not_mem_nil, or_false]; omega)).symm.trans hF_134
        have hF_143 : F b_104 = .inr (14, [.ref r_105, .int (nI z_112)]) := (hR b_104 (by rw [ht_108]; simp only [List.mem_cons, List.not_mem_nil, or_false]; omega)).symm.trans hF_135
        refine W.widen (k := 0) (n := 0) (by omega) (by omega) ?_
        refine pl_cutm (σ := Int32) A (dC, dI) cs ty gm L [ρ + 13, ρ + 14, ρ + 22, ρ + 83, ρ + 84] F 140 3 (fun s140 => [(1, .int (nI j)), (0, .ref h0)]) (fun s140 => [.int s140]) (fun s140 FF => ∃ zk : Nat, zk ≤ 40 ∧ FF ke = .inr (13, [.ref x_5, .ref y0_6, .ref y1_7, .ref y2_8, .int (nI zk)])) ?_ (fun jn_138 => ?_)
        ·
          rintro s140 F_139 hv_144 hO hR H locs hP hD hS ls hl
          have hl : lv_has ls 3 [(1, .int (nI j)), (0, .ref h0)] := hl
          have hv_144 : ∃ zk : Nat, zk ≤ 40 ∧ F_139 ke = .inr (13, [.ref x_5, .ref y0_6, .ref y1_7, .ref y2_8, .int (nI zk)]) := hv_144
          refine W.eq (g2 := F0 m 140 ls [.int s140]) rfl ?_
          have hF_145 : F_139 h0 = .inr (15, (.ref ta) :: (.int (nI zt)) :: (.int (nI zo_48)) :: (.int (nI ze)) :: (.ref ou) :: (.ref so) :: (.ref ad) :: (.ref na) :: (.ref va) :: (.ref lc) :: (.ref dm) :: (.int (nI fm)) :: (.int (nI sn)) :: (.ref tg) :: (.int v14_49) :: (.int v15_50) :: (.ref pe) :: (.int v17_51) :: (.int v18_52) :: (.int v19_53) :: (.int v20_54) :: (.int v21_55) :: (.int v22_56) :: (.ref ml) :: (.ref bg) :: (.ref co) :: (.ref sp) :: (.ref nb0) :: (.ref nb1) :: (.ref nb2) :: (.int (nI nf)) :: (.int (nI bd)) :: (.int (nI mm)) :: (.int v33_57) :: (.ref pl) :: (.ref se) :: (.ref ke) :: (.ref wi) :: (.ref hs) :: (.ref mo) :: (.ref po) :: (.ref nu) :: (.ref pr) :: (.ref sq) :: (.ref xa) :: (.ref sa) :: (.ref n64) :: (.ref m64) :: (.ref ex) :: (.ref wh) :: (.ref sd) :: (.ref tk) :: (.int v52_58) :: (.int v53_59) :: (.int v54_60) :: (.ref hd) :: (.ref ak) :: (.ref ho) :: (.ref ot) :: []) := (hR h0 (by rw [hT_h0]; simp)).trans hF_140
          have hF_146 : F_139 va = .inl (cs 23, 40, .inr (.inr (.inr (.inr f_90)))) := (hR va (by rw [ht_89]; simp)).trans hF_141
          have hF_147 : F_139 b_93 = .inr (14, [.ref r_94, .int (nI z_101)]) := (hR b_93 (by rw [ht_97]; simp only [List.mem_cons, List.not_mem_nil, or_false]; omega)).trans hF_142
          have hF_148 : F_139 b_104 = .inr (14, [.ref r_105, .int (nI z_112)]) := (hR b_104 (by rw [ht_108]; simp only [List.mem_cons, List.not_mem_nil, or_false]; omega)).trans hF_143
          obtain ⟨zk140, hzk140a, hzk140b⟩ := hv_144
          refine lv_istore_n (lv' := [(2, .int s140), (1, .int (nI j)), (0, .ref h0)]) hx hb dX15_keyOf_140 rfl hl (by decide) rfl (fun ls hl => ?_)
          refine lv_iload_n hx hb dX15_keyOf_141 rfl (lv_at hl 0 rfl) ?_
          have hF_151 : F h0 = .inr (15, (.ref ta) :: (.int (nI zt)) :: (.int (nI zo_48)) :: (.int (nI ze)) :: (.ref ou) :: (.ref so) :: (.ref ad) :: (.ref na) :: (.ref va) :: (.ref lc) :: (.ref dm) :: (.int (nI fm)) :: (.int (nI sn)) :: (.ref tg) :: (.int v14_49) :: (.int v15_50) :: (.ref pe) :: (.int v17_51) :: (.int v18_52) :: (.int v19_53) :: (.int v20_54) :: (.int v21_55) :: (.int v22_56) :: (.ref ml) :: (.ref bg) :: (.ref co) :: (.ref sp) :: (.ref nb0) :: (.ref nb1) :: (.ref nb2) :: (.int (nI nf)) :: (.int (nI bd)) :: (.int (nI mm)) :: (.int v33_57) :: (.ref pl) :: (.ref se) :: (.ref ke) :: (.ref wi) :: (.ref hs) :: (.ref mo) :: (.ref po) :: (.ref nu) :: (.ref pr) :: (.ref sq) :: (.ref xa) :: (.ref sa) :: (.ref n64) :: (.ref m64) :: (.ref ex) :: (.ref wh) :: (.ref sd) :: (.ref tk) :: (.int v52_58) :: (.int v53_59) :: (.int v54_60) :: (.ref hd) :: (.ref ak) :: (.ref ho) :: (.ref ot) :: []) := (hR h0 (by rw [hT_h0]; simp)).symm.trans hF_145
          have hF_152 : F va = .inl (cs 23, 40, .inr (.inr (.inr (.inr f_90)))) := (hR va (by rw [ht_89]; simp)).symm.trans hF_146
          have hF_153 : F b_93 = .inr (14, [.ref r_94, .int (nI z_101)]) := (hR b_93 (by rw [ht_97]; simp only [List.mem_cons, List.not_mem_nil, or_false]; omega)).symm.trans hF_147
          have hF_154 : F b_104 = .inr (14, [.ref r_105, .int (nI z_112)]) := (hR b_104 (by rw [ht_108]; simp only [List.mem_cons, List.not_mem_nil, or_false]; omega)).symm.trans hF_148
          refine W.widen (k := 0) (n := 0) (by omega) (by omega) ?_
          refine pl_cutm (σ := Int32) A (dC, dI) cs ty gm L [ρ + 13, ρ + 14, ρ + 22, ρ + 83, ρ + 84] F 176 3 (fun s176 => [(2, .int s140), (1, .int (nI j)), (0, .ref h0)]) (fun s176 => [.int s176, .int s140]) (fun s176 FF => ∃ zk : Nat, zk ≤ 40 ∧ FF ke = .inr (13, [.ref x_5, .ref y0_6, .ref y1_7, .ref y2_8, .int (nI zk)])) ?_ (fun jn_149 => ?_)
          ·
            rintro s176 F_150 hv_155 hO hR H locs hP hD hS ls hl
            have hl : lv_has ls 3 [(2, .int s140), (1, .int (nI j)), (0, .ref h0)] := hl
            have hv_155 : ∃ zk : Nat, zk ≤ 40 ∧ F_150 ke = .inr (13, [.ref x_5, .ref y0_6, .ref y1_7, .ref y2_8, .int (nI zk)]) := hv_155
            refine W.eq (g2 := F0 m 176 ls [.int s176, .int s140]) rfl ?_
            have hF_156 : F_150 h0 = .inr (15, (.ref ta) :: (.int (nI zt)) :: (.int (nI zo_48)) :: (.int (nI ze)) :: (.ref ou) :: (.ref so) :: (.ref ad) :: (.ref na) :: (.ref va) :: (.ref lc) :: (.ref dm) :: (.int (nI fm)) :: (.int (nI sn)) :: (.ref tg) :: (.int v14_49) :: (.int v15_50) :: (.ref pe) :: (.int v17_51) :: (.int v18_52) :: (.int v19_53) :: (.int v20_54) :: (.int v21_55) :: (.int v22_56) :: (.ref ml) :: (.ref bg) :: (.ref co) :: (.ref sp) :: (.ref nb0) :: (.ref nb1) :: (.ref nb2) :: (.int (nI nf)) :: (.int (nI bd)) :: (.int (nI mm)) :: (.int v33_57) :: (.ref pl) :: (.ref se) :: (.ref ke) :: (.ref wi) :: (.ref hs) :: (.ref mo) :: (.ref po) :: (.ref nu) :: (.ref pr) :: (.ref sq) :: (.ref xa) :: (.ref sa) :: (.ref n64) :: (.ref m64) :: (.ref ex) :: (.ref wh) :: (.ref sd) :: (.ref tk) :: (.int v52_58) :: (.int v53_59) :: (.int v54_60) :: (.ref hd) :: (.ref ak) :: (.ref ho) :: (.ref ot) :: []) := (hR h0 (by rw [hT_h0]; simp)).trans hF_151
            have hF_157 : F_150 va = .inl (cs 23, 40, .inr (.inr (.inr (.inr f_90)))) := (hR va (by rw [ht_89]; simp)).trans hF_152
            have hF_158 : F_150 b_93 = .inr (14, [.ref r_94, .int (nI z_101)]) := (hR b_93 (by rw [ht_97]; simp only [List.mem_cons, List.not_mem_nil, or_false]; omega)).trans hF_153
            have hF_159 : F_150 b_104 = .inr (14, [.ref r_105, .int (nI z_112)]) := (hR b_104 (by rw [ht_108]; simp only [List.mem_cons, List.not_mem_nil, or_false]; omega)).trans hF_154
            obtain ⟨zk176, hzk176a, hzk176b⟩ := hv_155
            refine lv_iand hx hb dX15_keyOf_176 ?_
            refine lv_topi (fun x_160 ex_160 => ?_)
            refine lv_istore_n (lv' := [(2, .int x_160), (1, .int (nI j)), (0, .ref h0)]) hx hb dX15_keyOf_177 rfl hl (by decide) rfl (fun ls hl => ?_)
            refine lv_iload_n hx hb dX15_keyOf_178 rfl (lv_at hl 0 rfl) ?_
            have hF_163 : F h0 = .inr (15, (.ref ta) :: (.int (nI zt)) :: (.int (nI zo_48)) :: (.int (nI ze)) :: (.ref ou) :: (.ref so) :: (.ref ad) :: (.ref na) :: (.ref va) :: (.ref lc) :: (.ref dm) :: (.int (nI fm)) :: (.int (nI sn)) :: (.ref tg) :: (.int v14_49) :: (.int v15_50) :: (.ref pe) :: (.int v17_51) :: (.int v18_52) :: (.int v19_53) :: (.int v20_54) :: (.int v21_55) :: (.int v22_56) :: (.ref ml) :: (.ref bg) :: (.ref co) :: (.ref sp) :: (.ref nb0) :: (.ref nb1) :: (.ref nb2) :: (.int (nI nf)) :: (.int (nI bd)) :: (.int (nI mm)) :: (.int v33_57) :: (.ref pl) :: (.ref se) :: (.ref ke) :: (.ref wi) :: (.ref hs) :: (.ref mo) :: (.ref po) :: (.ref nu) :: (.ref pr) :: (.ref sq) :: (.ref xa) :: (.ref sa) :: (.ref n64) :: (.ref m64) :: (.ref ex) :: (.ref wh) :: (.ref sd) :: (.ref tk) :: (.int v52_58) :: (.int v53_59) :: (.int v54_60) :: (.ref hd) :: (.ref ak) :: (.ref ho) :: (.ref ot) :: []) := (hR h0 (by rw [hT_h0]; simp)).symm.trans hF_156
            have hF_164 : F va = .inl (cs 23, 40, .inr (.inr (.inr (.inr f_90)))) := (hR va (by rw [ht_89]; simp)).symm.trans hF_157
            have hF_165 : F b_93 = .inr (14, [.ref r_94, .int (nI z_101)]) := (hR b_93 (by rw [ht_97]; simp only [List.mem_cons, List.not_mem_nil, or_false]; omega)).symm.trans hF_158
            have hF_166 : F b_104 = .inr (14, [.ref r_105, .int (nI z_112)]) := (hR b_104 (by rw [ht_108]; simp only [List.mem_cons, List.not_mem_nil, or_false]; omega)).symm.trans hF_159
            refine W.widen (k := 0) (n := 0) (by omega) (by omega) ?_
            refine pl_cutm (σ := Int32) A (dC, dI) cs ty gm L [ρ + 13, ρ + 14, ρ + 22, ρ + 83, ρ + 84] F 213 3 (fun s213 => [(2, .int x_160), (1, .int (nI j)), (0, .ref h0)]) (fun s213 => [.int s213, .int x_160]) (fun s213 FF => ∃ zk : Nat, zk ≤ 40 ∧ FF ke = .inr (13, [.ref x_5, .ref y0_6, .ref y1_7, .ref y2_8, .int (nI zk)])) ?_ (fun jn_161 => ?_)
            ·
              rintro s213 F_162 hv_167 hO hR H locs hP hD hS ls hl
              have hl : lv_has ls 3 [(2, .int x_160), (1, .int (nI j)), (0, .ref h0)] := hl
              have hv_167 : ∃ zk : Nat, zk ≤ 40 ∧ F_162 ke = .inr (13, [.ref x_5, .ref y0_6, .ref y1_7, .ref y2_8, .int (nI zk)]) := hv_167
              refine W.eq (g2 := F0 m 213 ls [.int s213, .int x_160]) rfl ?_
              have hF_168 : F_162 h0 = .inr (15, (.ref ta) :: (.int (nI zt)) :: (.int (nI zo_48)) :: (.int (nI ze)) :: (.ref ou) :: (.ref so) :: (.ref ad) :: (.ref na) :: (.ref va) :: (.ref lc) :: (.ref dm) :: (.int (nI fm)) :: (.int (nI sn)) :: (.ref tg) :: (.int v14_49) :: (.int v15_50) :: (.ref pe) :: (.int v17_51) :: (.int v18_52) :: (.int v19_53) :: (.int v20_54) :: (.int v21_55) :: (.int v22_56) :: (.ref ml) :: (.ref bg) :: (.ref co) :: (.ref sp) :: (.ref nb0) :: (.ref nb1) :: (.ref nb2) :: (.int (nI nf)) :: (.int (nI bd)) :: (.int (nI mm)) :: (.int v33_57) :: (.ref pl) :: (.ref se) :: (.ref ke) :: (.ref wi) :: (.ref hs) :: (.ref mo) :: (.ref po) :: (.ref nu) :: (.ref pr) :: (.ref sq) :: (.ref xa) :: (.ref sa) :: (.ref n64) :: (.ref m64) :: (.ref ex) :: (.ref wh) :: (.ref sd) :: (.ref tk) :: (.int v52_58) :: (.int v53_59) :: (.int v54_60) :: (.ref hd) :: (.ref ak) :: (.ref ho) :: (.ref ot) :: []) := (hR h0 (by rw [hT_h0]; simp)).trans hF_163
              have hF_169 : F_162 va = .inl (cs 23, 40, .inr (.inr (.inr (.inr f_90)))) := (hR va (by rw [ht_89]; simp)).trans hF_164
              have hF_170 : F_162 b_93 = .inr (14, [.ref r_94, .int (nI z_101)]) := (hR b_93 (by rw [ht_97]; simp only [List.mem_cons, List.not_mem_nil, or_false]; omega)).trans hF_165
              have hF_171 : F_162 b_104 = .inr (14, [.ref r_105, .int (nI z_112)]) := (hR b_104 (by rw [ht_108]; simp only [List.mem_cons, List.not_mem_nil, or_false]; omega)).trans hF_166
              obtain ⟨zk213, hzk213a, hzk213b⟩ := hv_167
              refine lv_iand hx hb dX15_keyOf_213 ?_
              refine lv_topi (fun x_172 ex_172 => ?_)
              refine lv_istore_n (lv' := [(2, .int x_172), (1, .int (nI j)), (0, .ref h0)]) hx hb dX15_keyOf_214 rfl hl (by decide) rfl (fun ls hl => ?_)
              refine lv_iload_n hx hb dX15_keyOf_215 rfl (lv_at hl 0 rfl) ?_
              refine lv_if_eq (tgt := 223) hx hb dX15_keyOf_216 (by decide) (fun c_173 => ?_) (fun c_173 => ?_)
              ·
                refine lv_bipush (v := 6) hx hb dX15_keyOf_223 (by decide) ?_
                refine W.widen (k := 0) (n := 0) (by omega) (by omega) ?_
                exact W.iret (v := 6) hx hb hr (fun t ht hWm => ⟨⟨6, (), rfl, trivial, ⟨F_162, QTm.mk ht hP hD hO hR⟩⟩, hS.F ht⟩) hS.2.2 dX15_keyOf_225
              ·
                refine lv_iconst (v := 2) hx hb dX15_keyOf_219 (by decide) ?_
                refine lv_goto (tgt := 225) hx hb dX15_keyOf_220 (by decide) ?_
                refine W.widen (k := 0) (n := 0) (by omega) (by omega) ?_
                exact W.iret (v := 2) hx hb hr (fun t ht hWm => ⟨⟨2, (), rfl, trivial, ⟨F_162, QTm.mk ht hP hD hO hR⟩⟩, hS.F ht⟩) hS.2.2 dX15_keyOf_225
            ·
              refine lv_aload_n hx hb dX15_keyOf_179 rfl (lv_at hl 2 rfl) ?_
              refine pg_get (ci := 15) (v := .ref ke) (C := RX15) (T := TX15) (N := 59) hx hb hts it_15 hown hK hP hL_h0 hF_156 rfl 36 (by decide) (hts _ kt_939) (fun _ h9 => h9) rfl dX15_keyOf_180 ?_
              obtain ⟨q_174, v_175, hr_q_174, hX_q_174⟩ := hG.2.2 ("PostGateModel", 537, "k", [107]) (by decide +kernel)
              have hX_q_174 : SXc q_174 v_175 1 (cct [107]) A s s.heap := hX_q_174
              obtain ⟨xo_q_174, xc_q_174, xv_q_174, xt_q_174, xn_q_174⟩ := id hX_q_174
              have hr_q_174 : vk_R "PostGateModel" 537 "k" q_174 s := hr_q_174
              refine va_ldcwS hx hb hown hr_q_174 dX15_keyOf_183 ?_
              have hFc := pg_free hD hS hA
              refine va_calli (va_runV (As := [.ref q_174]) (rest := [.int x_160]) ⟨hx, hb, hml, hown, hts⟩ (s_X13_find l dC dI cs ty gm L H.size F_150 ke (ρ + 13) x_5 700 700 y0_6 y1_7 y2_8 r_35 zk176 q_174 v_175 1 (cct [107]) hW hi_29 ht_30 hi_31 ht_36 hzk176b (by first | omega | assumption | exact Or.inl rfl)) ⟨callB_of 1 hts (gi kt_828) rfl rfl rfl (hts _ kt_829) (hts _ kt_839) (by decide +kernel) ⟨Nat.le_of_ble_eq_true rfl, Nat.le_of_ble_eq_true rfl⟩, (hts _ kt_831), (hts _ kt_832)⟩ ⟨fun a U g mk q => ⟨q.1, PTEm.calling q.2⟩, pg_recv hK hP hi_29 hzk176b (q := (RX13, TX13, 5)) rfl, fun U hU hWm => ⟨rfl, PTEm.mk hU hWm hP hK hD hE hO hG (fun x hx => by rw [List.mem_singleton] at hx; subst hx; exact hX_q_174) hS hFc⟩⟩ rfl rfl hl.1 rfl (lv_room (Nat.le_of_ble_eq_true rfl)) dX15_keyOf_186 ⟨by show _ + 0 ≤ 0; omega, by show _ + 0 ≤ 0; omega⟩) hS (fun q _ h => hFc q h) hFc (fun r_176 u t H1 locs ht hvm hw hB hz1 hk1 hS => ?_)
              obtain ⟨F_177, hB1⟩ := hB
              obtain rfl : F_150 = F_177 := (funext (fun a => hB1.2.2.2 a List.not_mem_nil)).symm
              obtain ⟨hP, hD, hO, hR⟩ := QTm.back hB1 ht hFc hR (fun q h => absurd h List.not_mem_nil)
              generalize H1 = H at hP hS ⊢
              have hw : FND (gA (F_150 r_35)) (gA (F_150 y0_6)) (gA (F_150 y1_7)) zk176 (cct [107]) 1 r_176 := hw
              have hw_178 := hw
              refine lv_if_lt (tgt := 208) hx hb dX15_keyOf_189 (by decide) (fun c_179 => ?_) (fun c_179 => ?_)
              ·
                refine lv_iconst (v := 1) hx hb dX15_keyOf_208 (by decide) ?_
                refine lv_goto (tgt := 213) hx hb dX15_keyOf_209 (by decide) ?_
                refine W.widen (k := 0) (n := 0) (by omega) (by omega) ?_
                exact jn_161 1 F_150 (⟨_, by omega, hzk176b⟩) hO hR _ _ hP hD hS ls (lv_sub hl [0, 1, 2] rfl)
              ·
                refine lv_aload_n hx hb dX15_keyOf_192 rfl (lv_at hl 2 rfl) ?_
                refine pg_get (ci := 15) (v := .ref ke) (C := RX15) (T := TX15) (N := 59) hx hb hts it_15 hown hK hP hL_h0 hF_156 rfl 36 (by decide) (hts _ kt_939) (fun _ h9 => h9) rfl dX15_keyOf_193 ?_
                refine va_ldcwS hx hb hown hr_q_174 dX15_keyOf_196 ?_
                obtain ⟨q_180, v_181, hr_q_180, hX_q_180⟩ := hG.2.2 ("PostGateModel", 539, "rsa", [114, 115, 97]) (by decide +kernel)
                have hX_q_180 : SXc q_180 v_181 3 (cct [114, 115, 97]) A s s.heap := hX_q_180
                obtain ⟨xo_q_180, xc_q_180, xv_q_180, xt_q_180, xn_q_180⟩ := id hX_q_180
                have hr_q_180 : vk_R "PostGateModel" 539 "rsa" q_180 s := hr_q_180
                refine va_ldcwS hx hb hown hr_q_180 dX15_keyOf_199 ?_
                have hFc := pg_free hD hS hA
                refine va_calli (va_runV (As := [.ref q_174, .ref q_180]) (rest := [.int x_160]) ⟨hx, hb, hml, hown, hts⟩ (s_X13_has l dC dI cs ty gm L H.size F_150 ke (ρ + 13) x_5 700 700 y0_6 y1_7 y2_8 r_35 zk176 q_174 v_175 1 (cct [107]) q_180 v_181 3 (cct [114, 115, 97]) hW hi_29 ht_30 hi_31 ht_36 hzk176b (by first | omega | assumption | exact Or.inl rfl)) ⟨callB_of 2 hts (gi kt_863) rfl rfl rfl (hts _ kt_829) (hts _ kt_864) (by decide +kernel) ⟨Nat.le_of_ble_eq_true rfl, Nat.le_of_ble_eq_true rfl⟩, (hts _ kt_865), (hts _ kt_866)⟩ ⟨fun a U g mk q => ⟨q.1, PTEm.calling q.2⟩, pg_recv hK hP hi_29 hzk176b (q := (RX13, TX13, 5)) rfl, fun U hU hWm => ⟨rfl, PTEm.mk hU hWm hP hK hD hE hO hG (fun x hx => by simp only [List.mem_cons, List.not_mem_nil, or_false] at hx; rcases hx with hx | hx <;> subst hx <;> first | exact hX_q_174 | exact hX_q_180) hS hFc⟩⟩ rfl rfl hl.1 rfl (lv_room (Nat.le_of_ble_eq_true rfl)) dX15_keyOf_202 ⟨by show _ + 0 ≤ 0; omega, by show _ + 0 ≤ 0; omega⟩) hS (fun q _ h => hFc q h) hFc (fun r_182 u t H1 locs ht hvm hw hB hz1 hk1 hS => ?_)
                obtain ⟨F_183, hB1⟩ := hB
                obtain rfl : F_150 = F_183 := (funext (fun a => hB1.2.2.2 a List.not_mem_nil)).symm
                obtain ⟨hP, hD, hO, hR⟩ := QTm.back hB1 ht hFc hR (fun q h => absurd h List.not_mem_nil)
                generalize H1 = H at hP hS ⊢
                have hw : (r_182 = 0 ∨ r_182 = 1) := hw
                have hw_184 := hw
                refine lv_if_eq (tgt := 212) hx hb dX15_keyOf_205 (by decide) (fun c_185 => ?_) (fun c_185 => ?_)
                ·
                  refine lv_iconst (v := 0) hx hb dX15_keyOf_212 (by decide) ?_
                  refine W.widen (k := 0) (n := 0) (by omega) (by omega) ?_
                  exact jn_161 0 F_150 (⟨_, by omega, hzk176b⟩) hO hR _ _ hP hD hS ls (lv_sub hl [0, 1, 2] rfl)
                ·
                  refine lv_iconst (v := 1) hx hb dX15_keyOf_208 (by decide) ?_
                  refine lv_goto (tgt := 213) hx hb dX15_keyOf_209 (by decide) ?_
                  refine W.widen (k := 0) (n := 0) (by omega) (by omega) ?_
                  exact jn_161 1 F_150 (⟨_, by omega, hzk176b⟩) hO hR _ _ hP hD hS ls (lv_sub hl [0, 1, 2] rfl)
          ·
            refine lv_aload_n hx hb dX15_keyOf_142 rfl (lv_at hl 2 rfl) ?_
            refine pg_get (ci := 15) (v := .ref ke) (C := RX15) (T := TX15) (N := 59) hx hb hts it_15 hown hK hP hL_h0 hF_145 rfl 36 (by decide) (hts _ kt_939) (fun _ h9 => h9) rfl dX15_keyOf_143 ?_
            obtain ⟨q_186, v_187, hr_q_186, hX_q_186⟩ := hG.2.2 ("PostGateModel", 444, "v", [118]) (by decide +kernel)
            have hX_q_186 : SXc q_186 v_187 1 (cct [118]) A s s.heap := hX_q_186
            obtain ⟨xo_q_186, xc_q_186, xv_q_186, xt_q_186, xn_q_186⟩ := id hX_q_186
            have hr_q_186 : vk_R "PostGateModel" 444 "v" q_186 s := hr_q_186
            refine va_ldcwS hx hb hown hr_q_186 dX15_keyOf_146 ?_
            have hFc := pg_free hD hS hA
            refine va_calli (va_runV (As := [.ref q_186]) (rest := [.int s140]) ⟨hx, hb, hml, hown, hts⟩ (s_X13_find l dC dI cs ty gm L H.size F_139 ke (ρ + 13) x_5 700 700 y0_6 y1_7 y2_8 r_35 zk140 q_186 v_187 1 (cct [118]) hW hi_29 ht_30 hi_31 ht_36 hzk140b (by first | omega | assumption | exact Or.inl rfl)) ⟨callB_of 1 hts (gi kt_828) rfl rfl rfl (hts _ kt_829) (hts _ kt_839) (by decide +kernel) ⟨Nat.le_of_ble_eq_true rfl, Nat.le_of_ble_eq_true rfl⟩, (hts _ kt_831), (hts _ kt_832)⟩ ⟨fun a U g mk q => ⟨q.1, PTEm.calling q.2⟩, pg_recv hK hP hi_29 hzk140b (q := (RX13, TX13, 5)) rfl, fun U hU hWm => ⟨rfl, PTEm.mk hU hWm hP hK hD hE hO hG (fun x hx => by rw [List.mem_singleton] at hx; subst hx; exact hX_q_186) hS hFc⟩⟩ rfl rfl hl.1 rfl (lv_room (Nat.le_of_ble_eq_true rfl)) dX15_keyOf_149 ⟨by show _ + 0 ≤ 0; omega, by show _ + 0 ≤ 0; omega⟩) hS (fun q _ h => hFc q h) hFc (fun r_188 u t H1 locs ht hvm hw hB hz1 hk1 hS => ?_)
            obtain ⟨F_189, hB1⟩ := hB
            obtain rfl : F_139 = F_189 := (funext (fun a => hB1.2.2.2 a List.not_mem_nil)).symm
            obtain ⟨hP, hD, hO, hR⟩ := QTm.back hB1 ht hFc hR (fun q h => absurd h List.not_mem_nil)
            generalize H1 = H at hP hS ⊢
            have hw : FND (gA (F_139 r_35)) (gA (F_139 y0_6)) (gA (F_139 y1_7)) zk140 (cct [118]) 1 r_188 := hw
            have hw_190 := hw
            refine lv_if_lt (tgt := 171) hx hb dX15_keyOf_152 (by decide) (fun c_191 => ?_) (fun c_191 => ?_)
            ·
              refine lv_iconst (v := 1) hx hb dX15_keyOf_171 (by decide) ?_
              refine lv_goto (tgt := 176) hx hb dX15_keyOf_172 (by decide) ?_
              refine W.widen (k := 0) (n := 0) (by omega) (by omega) ?_
              exact jn_149 1 F_139 (⟨_, by omega, hzk140b⟩) hO hR _ _ hP hD hS ls (lv_sub hl [0, 1, 2] rfl)
            ·
              refine lv_aload_n hx hb dX15_keyOf_155 rfl (lv_at hl 2 rfl) ?_
              refine pg_get (ci := 15) (v := .ref ke) (C := RX15) (T := TX15) (N := 59) hx hb hts it_15 hown hK hP hL_h0 hF_145 rfl 36 (by decide) (hts _ kt_939) (fun _ h9 => h9) rfl dX15_keyOf_156 ?_
              refine va_ldcwS hx hb hown hr_q_186 dX15_keyOf_159 ?_
              obtain ⟨q_192, v_193, hr_q_192, hX_q_192⟩ := hG.2.2 ("PostGateModel", 535, "DKIM1", [68, 75, 73, 77, 49]) (by decide +kernel)
              have hX_q_192 : SXc q_192 v_193 5 (cct [68, 75, 73, 77, 49]) A s s.heap := hX_q_192
              obtain ⟨xo_q_192, xc_q_192, xv_q_192, xt_q_192, xn_q_192⟩ := id hX_q_192
              have hr_q_192 : vk_R "PostGateModel" 535 "DKIM1" q_192 s := hr_q_192
              refine va_ldcwS hx hb hown hr_q_192 dX15_keyOf_162 ?_
              have hFc := pg_free hD hS hA
              refine va_calli (va_runV (As := [.ref q_186, .ref q_192]) (rest := [.int s140]) ⟨hx, hb, hml, hown, hts⟩ (s_X13_has l dC dI cs ty gm L H.size F_139 ke (ρ + 13) x_5 700 700 y0_6 y1_7 y2_8 r_35 zk140 q_186 v_187 1 (cct [118]) q_192 v_193 5 (cct [68, 75, 73, 77, 49]) hW hi_29 ht_30 hi_31 ht_36 hzk140b (by first | omega | assumption | exact Or.inl rfl)) ⟨callB_of 2 hts (gi kt_863) rfl rfl rfl (hts _ kt_829) (hts _ kt_864) (by decide +kernel) ⟨Nat.le_of_ble_eq_true rfl, Nat.le_of_ble_eq_true rfl⟩, (hts _ kt_865), (hts _ kt_866)⟩ ⟨fun a U g mk q => ⟨q.1, PTEm.calling q.2⟩, pg_recv hK hP hi_29 hzk140b (q := (RX13, TX13, 5)) rfl, fun U hU hWm => ⟨rfl, PTEm.mk hU hWm hP hK hD hE hO hG (fun x hx => by simp only [List.mem_cons, List.not_mem_nil, or_false] at hx; rcases hx with hx | hx <;> subst hx <;> first | exact hX_q_186 | exact hX_q_192) hS hFc⟩⟩ rfl rfl hl.1 rfl (lv_room (Nat.le_of_ble_eq_true rfl)) dX15_keyOf_165 ⟨by show _ + 0 ≤ 0; omega, by show _ + 0 ≤ 0; omega⟩) hS (fun q _ h => hFc q h) hFc (fun r_194 u t H1 locs ht hvm hw hB hz1 hk1 hS => ?_)
              obtain ⟨F_195, hB1⟩ := hB
              obtain rfl : F_139 = F_195 := (funext (fun a => hB1.2.2.2 a List.not_mem_nil)).symm
              obtain ⟨hP, hD, hO, hR⟩ := QTm.back hB1 ht hFc hR (fun q h => absurd h List.not_mem_nil)
              generalize H1 = H at hP hS ⊢
              have hw : (r_194 = 0 ∨ r_194 = 1) := hw
              have hw_196 := hw
              refine lv_if_eq (tgt := 175) hx hb dX15_keyOf_168 (by decide) (fun c_197 => ?_) (fun c_197 => ?_)
              ·
                refine lv_iconst (v := 0) hx hb dX15_keyOf_175 (by decide) ?_
                refine W.widen (k := 0) (n := 0) (by omega) (by omega) ?_
                exact jn_149 0 F_139 (⟨_, by omega, hzk140b⟩) hO hR _ _ hP hD hS ls (lv_sub hl [0, 1, 2] rfl)
              ·
                refine lv_iconst (v := 1) hx hb dX15_keyOf_171 (by decide) ?_
                refine lv_goto (tgt := 176) hx hb dX15_keyOf_172 (by decide) ?_
                refine W.widen (k := 0) (n := 0) (by omega) (by omega) ?_
                exact jn_149 1 F_139 (⟨_, by omega, hzk140b⟩) hO hR _ _ hP hD hS ls (lv_sub hl [0, 1, 2] rfl)
        ·
          refine lv_if_eq (tgt := 139) hx hb dX15_keyOf_91 (by decide) (fun c_198 => ?_) (fun c_198 => ?_)
          ·
            refine lv_iconst (v := 0) hx hb dX15_keyOf_139 (by decide) ?_
            refine W.widen (k := 0) (n := 0) (by omega) (by omega) ?_
            exact jn_138 0 F_128 (⟨_, by omega, hq_130⟩) hO hR _ _ hP hD hS ls (lv_sub hl [0, 1] rfl)
          ·
            refine lv_aload_n hx hb dX15_keyOf_94 rfl (lv_at hl 1 rfl) ?_
            refine pg_get (ci := 15) (v := .ref ke) (C := RX15) (T := TX15) (N := 59) hx hb hts it_15 hown hK hP hL_h0 hF_132 rfl 36 (by decide) (hts _ kt_939) (fun _ h9 => h9) rfl dX15_keyOf_95 ?_
            obtain ⟨q_199, v_200, hr_q_199, hX_q_199⟩ := hG.2.2 ("PostGateModel", 533, "p", [112]) (by decide +kernel)
            have hX_q_199 : SXc q_199 v_200 1 (cct [112]) A s s.heap := hX_q_199
            obtain ⟨xo_q_199, xc_q_199, xv_q_199, xt_q_199, xn_q_199⟩ := id hX_q_199
            have hr_q_199 : vk_R "PostGateModel" 533 "p" q_199 s := hr_q_199
            refine va_ldcwS hx hb hown hr_q_199 dX15_keyOf_98 ?_
            refine lv_bipush (v := 64) hx hb dX15_keyOf_101 (by decide) ?_
            refine lv_aload_n hx hb dX15_keyOf_103 rfl (lv_at hl 1 rfl) ?_
            refine pg_get (ci := 15) (v := .ref m64) (C := RX15) (T := TX15) (N := 59) hx hb hts it_15 hown hK hP hL_h0 hF_132 rfl 47 (by decide) (hts _ kt_922) (fun _ h9 => h9) rfl dX15_keyOf_104 ?_
            obtain ⟨hi_201, ht_202⟩ := hW.f_m64 hL_h0 hT_h0
            obtain ⟨hq_203, hq_204⟩ := hW.octs hi_201 ht_202
            have hFc := pg_free hD hS hA
            refine va_calli (va_runS (As := [.ref ke, .ref q_199, .int 64, .ref m64]) (rest := []) ⟨hx, hb, hml, hown, hts⟩ (s_X15_base_64 l dC dI cs ty gm L H.size F_128 ke (ρ + 13) x_5 700 700 y0_6 y1_7 y2_8 r_35 z2_129 m64 (ρ + 22) q_199 v_200 1 (cct [112]) hW hi_29 ht_30 hi_31 ht_36 hi_201 ht_202 hq_130 (by first | omega | assumption | exact Or.inl rfl)) ⟨callB_of 4 hts (gi kt_872) rfl rfl rfl (hts _ kt_669) (hts _ kt_873) (by decide +kernel) ⟨Nat.le_of_ble_eq_true rfl, Nat.le_of_ble_eq_true rfl⟩, (hts _ kt_874)⟩ ⟨fun a U g mk q => ⟨q.1, PTEm.calling q.2⟩, fun U hU hWm => ⟨rfl, PTEm.mk hU hWm hP hK hD hE hO hG (fun x hx => by rw [List.mem_singleton] at hx; subst hx; exact hX_q_199) hS hFc⟩⟩ rfl rfl hl.1 rfl (lv_room (Nat.le_of_ble_eq_true rfl)) dX15_keyOf_107 ⟨by show _ + 0 ≤ 0; omega, by show _ + 0 ≤ 0; omega⟩) hS (fun q _ h => hFc q h) hFc (fun r_205 u t H1 locs ht hvm hw hB hz1 hk1 hS => ?_)
            obtain ⟨F_206, hB1⟩ := hB
            obtain ⟨hP, hD, hO, hR⟩ := QTm.back hB1 ht hFc hR (fun q h => by simp only [List.mem_cons, List.not_mem_nil, or_false] at h ⊢; omega)
            have hF_207 : F_206 h0 = .inr (15, (.ref ta) :: (.int (nI zt)) :: (.int (nI zo_48)) :: (.int (nI ze)) :: (.ref ou) :: (.ref so) :: (.ref ad) :: (.ref na) :: (.ref va) :: (.ref lc) :: (.ref dm) :: (.int (nI fm)) :: (.int (nI sn)) :: (.ref tg) :: (.int v14_49) :: (.int v15_50) :: (.ref pe) :: (.int v17_51) :: (.int v18_52) :: (.int v19_53) :: (.int v20_54) :: (.int v21_55) :: (.int v22_56) :: (.ref ml) :: (.ref bg) :: (.ref co) :: (.ref sp) :: (.ref nb0) :: (.ref nb1) :: (.ref nb2) :: (.int (nI nf)) :: (.int (nI bd)) :: (.int (nI mm)) :: (.int v33_57) :: (.ref pl) :: (.ref se) :: (.ref ke) :: (.ref wi) :: (.ref hs) :: (.ref mo) :: (.ref po) :: (.ref nu) :: (.ref pr) :: (.ref sq) :: (.ref xa) :: (.ref sa) :: (.ref n64) :: (.ref m64) :: (.ref ex) :: (.ref wh) :: (.ref sd) :: (.ref tk) :: (.int v52_58) :: (.int v53_59) :: (.int v54_60) :: (.ref hd) :: (.ref ak) :: (.ref ho) :: (.ref ot) :: []) := (hB1.2.2.2 h0 (by rw [hT_h0]; simp)).trans hF_132
            have hF_208 : F_206 va = .inl (cs 23, 40, .inr (.inr (.inr (.inr f_90)))) := (hB1.2.2.2 va (by rw [ht_89]; simp)).trans hF_133
            have hF_209 : F_206 b_93 = .inr (14, [.ref r_94, .int (nI z_101)]) := (hB1.2.2.2 b_93 (by rw [ht_97]; simp only [List.mem_cons, List.not_mem_nil, or_false]; omega)).trans hF_134
            have hF_210 : F_206 b_104 = .inr (14, [.ref r_105, .int (nI z_112)]) := (hB1.2.2.2 b_104 (by rw [ht_108]; simp only [List.mem_cons, List.not_mem_nil, or_false]; omega)).trans hF_135
            have hF_211 : F_206 x_5 = .inr (14, [.ref r_35, .int (nI z2_119)]) := (hB1.2.2.2 x_5 (by rw [ht_36]; simp)).trans hF_136
            have hF_212 : F_206 ke = .inr (13, [.ref x_5, .ref y0_6, .ref y1_7, .ref y2_8, .int (nI z2_129)]) := (hB1.2.2.2 ke (by rw [ht_30]; simp)).trans hq_130
            generalize H1 = H at hP hS ⊢
            have hw : (r_205 = 0 ∨ r_205 = 1) := hw
            have hw_213 := hw
            refine lv_if_eq (tgt := 139) hx hb dX15_keyOf_110 (by decide) (fun c_214 => ?_) (fun c_214 => ?_)
            ·
              refine lv_iconst (v := 0) hx hb dX15_keyOf_139 (by decide) ?_
              refine W.widen (k := 0) (n := 0) (by omega) (by omega) ?_
              exact jn_138 0 F_206 (⟨_, by omega, hF_212⟩) hO hR _ _ hP hD hS ls (lv_sub hl [0, 1] rfl)
            ·
              refine lv_aload_n hx hb dX15_keyOf_113 rfl (lv_at hl 1 rfl) ?_
              refine pg_get (ci := 15) (v := .ref m64) (C := RX15) (T := TX15) (N := 59) hx hb hts it_15 hown hK hP hL_h0 hF_207 rfl 47 (by decide) (hts _ kt_922) (fun _ h9 => h9) rfl dX15_keyOf_114 ?_
              refine lv_iconst (v := 0) hx hb dX15_keyOf_117 (by decide) ?_
              obtain ⟨f_215, hF_216, hq_217⟩ := hO.octs hi_201 ht_202
              refine pg_bald hx hb hK hP hi_201 1 hF_216 rfl (show vp_in (0 : Int32) 64 from (show vp_in (nI 0) 64 from vp_in_nI (by omega) (by omega))) dX15_keyOf_118 ?_
              refine lv_topi (fun x_218 ex_218 => ?_)
              obtain rfl : x_218 = f_215 0 := ex_218.trans (congrArg f_215 (show (0 : Int32).toNatClampNeg = 0 from by decide))
              refine lv_if_ge (tgt := 139) hx hb dX15_keyOf_119 (by decide) (fun c_219 => ?_) (fun c_219 => ?_)
              ·
                refine lv_iconst (v := 0) hx hb dX15_keyOf_139 (by decide) ?_
                refine W.widen (k := 0) (n := 0) (by omega) (by omega) ?_
                exact jn_138 0 F_206 (⟨_, by omega, hF_212⟩) hO hR _ _ hP hD hS ls (lv_sub hl [0, 1] rfl)
              ·
                refine lv_aload_n hx hb dX15_keyOf_122 rfl (lv_at hl 1 rfl) ?_
                refine pg_get (ci := 15) (v := .ref m64) (C := RX15) (T := TX15) (N := 59) hx hb hts it_15 hown hK hP hL_h0 hF_207 rfl 47 (by decide) (hts _ kt_922) (fun _ h9 => h9) rfl dX15_keyOf_123 ?_
                refine lv_bipush (v := 63) hx hb dX15_keyOf_126 (by decide) ?_
                refine pg_bald hx hb hK hP hi_201 1 hF_216 rfl (show vp_in (63 : Int32) 64 from (show vp_in (nI 63) 64 from vp_in_nI (by omega) (by omega))) dX15_keyOf_128 ?_
                refine lv_topi (fun x_220 ex_220 => ?_)
                obtain rfl : x_220 = f_215 63 := ex_220.trans (congrArg f_215 (show (63 : Int32).toNatClampNeg = 63 from by decide))
                refine lv_iconst (v := 1) hx hb dX15_keyOf_129 (by decide) ?_
                refine lv_iand hx hb dX15_keyOf_130 ?_
                refine lv_topi (fun x_221 _ => ?_)
                refine lv_iconst (v := 1) hx hb dX15_keyOf_131 (by decide) ?_
                refine lv_icmp_ne (tgt := 139) hx hb dX15_keyOf_132 (by decide) (fun c_222 => ?_) (fun c_222 => ?_)
                ·
                  refine lv_iconst (v := 0) hx hb dX15_keyOf_139 (by decide) ?_
                  refine W.widen (k := 0) (n := 0) (by omega) (by omega) ?_
                  exact jn_138 0 F_206 (⟨_, by omega, hF_212⟩) hO hR _ _ hP hD hS ls (lv_sub hl [0, 1] rfl)
                ·
                  refine lv_iconst (v := 1) hx hb dX15_keyOf_135 (by decide) ?_
                  refine lv_goto (tgt := 140) hx hb dX15_keyOf_136 (by decide) ?_
                  refine W.widen (k := 0) (n := 0) (by omega) (by omega) ?_
                  exact jn_138 1 F_206 (⟨_, by omega, hF_212⟩) hO hR _ _ hP hD hS ls (lv_sub hl [0, 1] rfl)
      ·
        have hi_223 : j = ze := (nI_eq (a := j) (b := ze) (by omega) (by omega)).mp c_83
        refine lv_bipush (v := 6) hx hb dX15_keyOf_50 (by decide) ?_
        refine W.widen (k := 0) (n := 0) (by omega) (by omega) ?_
        exact W.iret (v := 6) hx hb hr (fun t ht hWm => ⟨⟨6, (), rfl, trivial, ⟨F_76, QTm.mk ht hP hD hO hR⟩⟩, hS.F ht⟩) hS.2.2 dX15_keyOf_52
    ·
      have hi_224 : j < ze := ltN (N := ze) c_81
      refine lv_aload_n hx hb dX15_keyOf_23 rfl (lv_at hl 1 rfl) ?_
      refine lv_iload_n hx hb dX15_keyOf_24 rfl (lv_at hl 0 rfl) ?_
      refine lv_iconst (v := 0) hx hb dX15_keyOf_25 (by decide) ?_
      refine lv_aload_n hx hb dX15_keyOf_26 rfl (lv_at hl 1 rfl) ?_
      refine pg_get (ci := 15) (v := .ref wh) (C := RX15) (T := TX15) (N := 59) hx hb hts it_15 hown hK hP hL_h0 hF_80 rfl 49 (by decide) (hts _ kt_938) (fun _ h9 => h9) rfl dX15_keyOf_27 ?_
      have hFc := pg_free hD hS hA
      refine va_calli (va_runV (As := [.int (nI j), .int 0, .ref wh]) (rest := []) ⟨hx, hb, hml, hown, hts⟩ (s_X15_isOf l dC dI cs ty gm L H.size F_76 h0 ρ ta ou so ad na va lc dm tg pe ml bg co sp nb0 nb1 nb2 pl se ke wi hs mo po nu pr sq xa sa n64 m64 ex wh sd tk hd ak ho ot sx s0 s1 s2 nf bd mm fm sn hg gc gv ze zt j wh (ρ + 24) r_18 6000 0 hW hL_h0 hT_h0 hi_67 ht_68 (by first | omega | assumption | exact Or.inl rfl)) ⟨callB_of 3 hts (gi kt_725) rfl rfl rfl (hts _ kt_669) (hts _ kt_726) (by decide +kernel) ⟨Nat.le_of_ble_eq_true rfl, Nat.le_of_ble_eq_true rfl⟩, (hts _ kt_727), (hts _ kt_728)⟩ ⟨fun a U g mk q => ⟨q.1, PTm.calling q.2⟩, pg_recv hK hP hL_h0 hF_80 (q := (RX15, TX15, 59)) rfl, fun U hU hWm => ⟨rfl, PTm.mk hU hWm hP hK hD hE hO⟩⟩ rfl rfl hl.1 rfl (lv_room (Nat.le_of_ble_eq_true rfl)) dX15_keyOf_30 ⟨by show _ + 0 ≤ 0; omega, by show _ + 0 ≤ 0; omega⟩) hS (fun q _ h => hFc q h) hFc (fun r_225 u t H1 locs ht hvm hw hB hz1 hk1 hS => ?_)
      obtain ⟨F_226, hB1⟩ := hB
      obtain rfl : F_76 = F_226 := (funext (fun a => hB1.2.2.2 a List.not_mem_nil)).symm
      obtain ⟨hP, hD, hO, hR⟩ := QTm.back hB1 ht hFc hR (fun q h => absurd h List.not_mem_nil)
      generalize H1 = H at hP hS ⊢
      have hw : (r_225 = 0 ∨ r_225 = 1) := hw
      have hw_227 := hw
      refine lv_if_ne (tgt := 42) hx hb dX15_keyOf_33 (by decide) (fun c_228 => ?_) (fun c_228 => ?_)
      ·
        refine lv_iload_n hx hb dX15_keyOf_42 rfl (lv_at hl 0 rfl) ?_
        refine lv_aload_n hx hb dX15_keyOf_43 rfl (lv_at hl 1 rfl) ?_
        refine pg_get (ci := 15) (v := .int (nI ze)) (C := RX15) (T := TX15) (N := 59) hx hb hts it_15 hown hK hP hL_h0 hF_80 rfl 3 (by decide) (hts _ kt_724) (fun _ h9 => h9) rfl dX15_keyOf_44 ?_
        refine lv_icmp_ne (tgt := 53) hx hb dX15_keyOf_47 (by decide) (fun c_229 => ?_) (fun c_229 => ?_)
        ·
          have hi_230 : j ≠ ze := fun q => c_229 (by rw [q])
          obtain ⟨z_231, hF_232, hq_233⟩ := hO.tags hi_29 ht_30
          refine lv_aload_n hx hb dX15_keyOf_53 rfl (lv_at hl 1 rfl) ?_
          refine pg_get (ci := 15) (v := .ref va) (C := RX15) (T := TX15) (N := 59) hx hb hts it_15 hown hK hP hL_h0 hF_80 rfl 8 (by decide) (hts _ kt_732) (fun _ h9 => h9) rfl dX15_keyOf_54 ?_
          refine lv_iload_n hx hb dX15_keyOf_57 rfl (lv_at hl 0 rfl) ?_
          obtain ⟨hi_234, ht_235⟩ := hW.f_va hL_h0 hT_h0
          obtain ⟨f_236, hF_237, hq_238⟩ := hO.rtxj hi_234 ht_235
          obtain ⟨b_239, r_240, hbf_241, hi_242, ht_243⟩ := hq_238 j (by omega)
          refine pg_aald (r := b_239) hx hb hK hP hi_234 7 hF_237 rfl (vp_in_nI (by omega) (by omega)) (show f_236 ((nI j) : Int32).toNatClampNeg = _ from by rw [show ((nI j) : Int32) = nI j from rfl, nI_clamp (by omega)]; exact hbf_241) dX15_keyOf_58 ?_
          obtain ⟨hi_244, ht_245, hq_246⟩ := hW.txt hi_242 ht_243
          obtain ⟨z_247, hF_248, hq_249⟩ := hO.txt hi_242 ht_243
          refine pg_get (ci := 14) (v := .ref r_240) (C := RX14) (T := TX14) (N := 2) hx hb hts it_14 hown hK hP hi_242 hF_248 rfl 0 (by decide) (hts _ kt_710) (fun _ h9 => h9) rfl dX15_keyOf_59 ?_
          refine lv_iconst (v := 0) hx hb dX15_keyOf_62 (by decide) ?_
          refine lv_aload_n hx hb dX15_keyOf_63 rfl (lv_at hl 1 rfl) ?_
          refine pg_get (ci := 15) (v := .ref va) (C := RX15) (T := TX15) (N := 59) hx hb hts it_15 hown hK hP hL_h0 hF_80 rfl 8 (by decide) (hts _ kt_732) (fun _ h9 => h9) rfl dX15_keyOf_64 ?_
          refine lv_iload_n hx hb dX15_keyOf_67 rfl (lv_at hl 0 rfl) ?_
          obtain ⟨b_250, r_251, hbf_252, hi_253, ht_254⟩ := hq_238 j (by omega)
          refine pg_aald (r := b_250) hx hb hK hP hi_234 7 hF_237 rfl (vp_in_nI (by omega) (by omega)) (show f_236 ((nI j) : Int32).toNatClampNeg = _ from by rw [show ((nI j) : Int32) = nI j from rfl, nI_clamp (by omega)]; exact hbf_252) dX15_keyOf_68 ?_
          obtain ⟨hi_255, ht_256, hq_257⟩ := hW.txt hi_253 ht_254
          obtain ⟨z_258, hF_259, hq_260⟩ := hO.txt hi_253 ht_254
          refine pg_get (ci := 14) (v := .int (nI z_258)) (C := RX14) (T := TX14) (N := 2) hx hb hts it_14 hown hK hP hi_253 hF_259 rfl 1 (by decide) (hts _ kt_709) (fun _ h9 => h9) rfl dX15_keyOf_69 ?_
          refine lv_aload_n hx hb dX15_keyOf_72 rfl (lv_at hl 1 rfl) ?_
          refine pg_get (ci := 15) (v := .ref ke) (C := RX15) (T := TX15) (N := 59) hx hb hts it_15 hown hK hP hL_h0 hF_80 rfl 36 (by decide) (hts _ kt_939) (fun _ h9 => h9) rfl dX15_keyOf_73 ?_
          refine pg_get (ci := 13) (v := .ref x_5) (C := RX13) (T := TX13) (N := 5) hx hb hts it_13 hown hK hP hi_29 hF_232 rfl 0 (by decide) (hts _ kt_842) (fun _ h9 => h9) rfl dX15_keyOf_76 ?_
          refine W.eq (g2 := F0 m 79 ls [.ref x_5, .int (nI z_258), .int (nI 0), .ref r_240]) rfl ?_
          obtain ⟨hq_261, hq_262⟩ := hW.octs hi_244 ht_245
          have hFc := pg_free hD hS hA
          refine va_callv (va_runS (As := [.ref r_240, .int (nI 0), .int (nI z_258), .ref x_5]) (rest := []) ⟨hx, hb, hml, hown, hts⟩ (s_X15_withoutWhite l dC dI cs ty gm L H.size F_76 r_240 (ρ + 50 + j + 100) 700 x_5 (ρ + 14) r_35 700 0 z_258 hW hi_244 ht_245 hi_31 ht_36 (by first | omega | assumption | exact Or.inl rfl) (by first | omega | assumption | exact Or.inl rfl) (by first | omega | assumption | exact Or.inl rfl)) ⟨callB_of 4 hts (gi kt_940) rfl rfl rfl (hts _ kt_669) (hts _ kt_941) (by decide +kernel) ⟨Nat.le_of_ble_eq_true rfl, Nat.le_of_ble_eq_true rfl⟩, (hts _ kt_942)⟩ ⟨fun a U g mk q => ⟨q.1, PTm.calling q.2⟩, fun U hU hWm => ⟨rfl, PTm.mk hU hWm hP hK hD hE hO⟩⟩ rfl rfl hl.1 rfl (lv_room (Nat.le_of_ble_eq_true rfl)) dX15_keyOf_79 ⟨by show _ + 0 ≤ 0; omega, by show _ + 0 ≤ 0; omega⟩) hS (fun q _ h => hFc q h) hFc (fun u t H1 locs ht hvm hw hB hz1 hk1 hS => ?_)
          obtain ⟨F_264, z2_265, hB1, hq_266, hq_267⟩ := hB
          obtain ⟨hP, hD, hO, hR⟩ := QTm.back hB1 ht hFc hR (fun q h => by simp only [List.mem_cons, List.not_mem_nil, or_false] at h ⊢; omega)
          have hF_268 : F_264 h0 = .inr (15, (.ref ta) :: (.int (nI zt)) :: (.int (nI zo_48)) :: (.int (nI ze)) :: (.ref ou) :: (.ref so) :: (.ref ad) :: (.ref na) :: (.ref va) :: (.ref lc) :: (.ref dm) :: (.int (nI fm)) :: (.int (nI sn)) :: (.ref tg) :: (.int v14_49) :: (.int v15_50) :: (.ref pe) :: (.int v17_51) :: (.int v18_52) :: (.int v19_53) :: (.int v20_54) :: (.int v21_55) :: (.int v22_56) :: (.ref ml) :: (.ref bg) :: (.ref co) :: (.ref sp) :: (.ref nb0) :: (.ref nb1) :: (.ref nb2) :: (.int (nI nf)) :: (.int (nI bd)) :: (.int (nI mm)) :: (.int v33_57) :: (.ref pl) :: (.ref se) :: (.ref ke) :: (.ref wi) :: (.ref hs) :: (.ref mo) :: (.ref po) :: (.ref nu) :: (.ref pr) :: (.ref sq) :: (.ref xa) :: (.ref sa) :: (.ref n64) :: (.ref m64) :: (.ref ex) :: (.ref wh) :: (.ref sd) :: (.ref tk) :: (.int v52_58) :: (.int v53_59) :: (.int v54_60) :: (.ref hd) :: (.ref ak) :: (.ref ho) :: (.ref ot) :: []) := (hB1.2.2.2 h0 (by rw [hT_h0]; simp)).trans hF_80
          have hF_269 : F_264 ke = .inr (13, [.ref x_5, .ref y0_6, .ref y1_7, .ref y2_8, .int (nI z_231)]) := (hB1.2.2.2 ke (by rw [ht_30]; simp)).trans hF_232
          have hF_270 : F_264 va = .inl (cs 23, 40, .inr (.inr (.inr (.inr f_236)))) := (hB1.2.2.2 va (by rw [ht_235]; simp)).trans hF_237
          have hF_271 : F_264 b_239 = .inr (14, [.ref r_240, .int (nI z_247)]) := (hB1.2.2.2 b_239 (by rw [ht_243]; simp only [List.mem_cons, List.not_mem_nil, or_false]; omega)).trans hF_248
          have hF_272 : F_264 b_250 = .inr (14, [.ref r_251, .int (nI z_258)]) := (hB1.2.2.2 b_250 (by rw [ht_254]; simp only [List.mem_cons, List.not_mem_nil, or_false]; omega)).trans hF_259
          generalize H1 = H at hP hS ⊢
          refine lv_aload_n hx hb dX15_keyOf_82 rfl (lv_at hl 1 rfl) ?_
          refine pg_get (ci := 15) (v := .ref ke) (C := RX15) (T := TX15) (N := 59) hx hb hts it_15 hown hK hP hL_h0 hF_268 rfl 36 (by decide) (hts _ kt_939) (fun _ h9 => h9) rfl dX15_keyOf_83 ?_
          refine lv_bipush (v := 8) hx hb dX15_keyOf_86 (by decide) ?_
          have hFc := pg_free hD hS hA
          refine va_calli (va_runV (As := [.int 8]) (rest := []) ⟨hx, hb, hml, hown, hts⟩ (s_X13_read l dC dI cs ty gm L H.size F_264 ke (ρ + 13) x_5 700 700 y0_6 y1_7 y2_8 r_35 z2_265 8 hW hi_29 ht_30 hi_31 ht_36 hq_266 (by first | omega | assumption | exact Or.inl rfl)) ⟨callB_of 1 hts (gi kt_859) rfl rfl rfl (hts _ kt_829) (hts _ kt_860) (by decide +kernel) ⟨Nat.le_of_ble_eq_true rfl, Nat.le_of_ble_eq_true rfl⟩, (hts _ kt_861), (hts _ kt_862)⟩ ⟨fun a U g mk q => ⟨q.1, PTm.calling q.2⟩, pg_recv hK hP hi_29 hF_269 (q := (RX13, TX13, 5)) rfl, fun U hU hWm => ⟨rfl, PTm.mk hU hWm hP hK hD hE hO⟩⟩ rfl rfl hl.1 rfl (lv_room (Nat.le_of_ble_eq_true rfl)) dX15_keyOf_88 ⟨by show _ + 0 ≤ 0; omega, by show _ + 0 ≤ 0; omega⟩) hS (fun q _ h => hFc q h) hFc (fun r_273 u t H1 locs ht hvm hw hB hz1 hk1 hS => ?_)
          obtain ⟨F_274, z2_275, hB1, hq_276, hq_277⟩ := hB
          obtain ⟨hP, hD, hO, hR⟩ := QTm.back hB1 ht hFc hR (fun q h => by simp only [List.mem_cons, List.not_mem_nil, or_false] at h ⊢; omega)
          have hF_278 : F_274 h0 = .inr (15, (.ref ta) :: (.int (nI zt)) :: (.int (nI zo_48)) :: (.int (nI ze)) :: (.ref ou) :: (.ref so) :: (.ref ad) :: (.ref na) :: (.ref va) :: (.ref lc) :: (.ref dm) :: (.int (nI fm)) :: (.int (nI sn)) :: (.ref tg) :: (.int v14_49) :: (.int v15_50) :: (.ref pe) :: (.int v17_51) :: (.int v18_52) :: (.int v19_53) :: (.int v20_54) :: (.int v21_55) :: (.int v22_56) :: (.ref ml) :: (.ref bg) :: (.ref co) :: (.ref sp) :: (.ref nb0) :: (.ref nb1) :: (.ref nb2) :: (.int (nI nf)) :: (.int (nI bd)) :: (.int (nI mm)) :: (.int v33_57) :: (.ref pl) :: (.ref se) :: (.ref ke) :: (.ref wi) :: (.ref hs) :: (.ref mo) :: (.ref po) :: (.ref nu) :: (.ref pr) :: (.ref sq) :: (.ref xa) :: (.ref sa) :: (.ref n64) :: (.ref m64) :: (.ref ex) :: (.ref wh) :: (.ref sd) :: (.ref tk) :: (.int v52_58) :: (.int v53_59) :: (.int v54_60) :: (.ref hd) :: (.ref ak) :: (.ref ho) :: (.ref ot) :: []) := (hB1.2.2.2 h0 (by rw [hT_h0]; simp <;> omega)).trans hF_268
          have hF_279 : F_274 va = .inl (cs 23, 40, .inr (.inr (.inr (.inr f_236)))) := (hB1.2.2.2 va (by rw [ht_235]; simp <;> omega)).trans hF_270
          have hF_280 : F_274 b_239 = .inr (14, [.ref r_240, .int (nI z_247)]) := (hB1.2.2.2 b_239 (by rw [ht_243]; simp only [List.mem_cons, List.not_mem_nil, or_false]; omega)).trans hF_271
          have hF_281 : F_274 b_250 = .inr (14, [.ref r_251, .int (nI z_258)]) := (hB1.2.2.2 b_250 (by rw [ht_254]; simp only [List.mem_cons, List.not_mem_nil, or_false]; omega)).trans hF_272
          have hF_282 : F_274 x_5 = .inr (14, [.ref r_35, .int (nI z2_265)]) := (hB1.2.2.2 x_5 (by rw [ht_36]; simp <;> omega)).trans hq_266
          generalize H1 = H at hP hS ⊢
          have hw : (r_273 = 0 ∨ r_273 = 1) := hw
          have hw_283 := hw
          have hF_286 : F h0 = .inr (15, (.ref ta) :: (.int (nI zt)) :: (.int (nI zo_48)) :: (.int (nI ze)) :: (.ref ou) :: (.ref so) :: (.ref ad) :: (.ref na) :: (.ref va) :: (.ref lc) :: (.ref dm) :: (.int (nI fm)) :: (.int (nI sn)) :: (.ref tg) :: (.int v14_49) :: (.int v15_50) :: (.ref pe) :: (.int v17_51) :: (.int v18_52) :: (.int v19_53) :: (.int v20_54) :: (.int v21_55) :: (.int v22_56) :: (.ref ml) :: (.ref bg) :: (.ref co) :: (.ref sp) :: (.ref nb0) :: (.ref nb1) :: (.ref nb2) :: (.int (nI nf)) :: (.int (nI bd)) :: (.int (nI mm)) :: (.int v33_57) :: (.ref pl) :: (.ref se) :: (.ref ke) :: (.ref wi) :: (.ref hs) :: (.ref mo) :: (.ref po) :: (.ref nu) :: (.ref pr) :: (.ref sq) :: (.ref xa) :: (.ref sa) :: (.ref n64) :: (.ref m64) :: (.ref ex) :: (.ref wh) :: (.ref sd) :: (.ref tk) :: (.int v52_58) :: (.int v53_59) :: (.int v54_60) :: (.ref hd) :: (.ref ak) :: (.ref ho) :: (.ref ot) :: []) := (hR h0 (by rw [hT_h0]; simp)).symm.trans hF_278
          have hF_287 : F va = .inl (cs 23, 40, .inr (.inr (.inr (.inr f_236)))) := (hR va (by rw [ht_235]; simp)).symm.trans hF_279
          have hF_288 : F b_239 = .inr (14, [.ref r_240, .int (nI z_247)]) := (hR b_239 (by rw [ht_243]; simp only [List.mem_cons, List.not_mem_nil, or_false]; omega)).symm.trans hF_280
          have hF_289 : F b_250 = .inr (14, [.ref r_251, .int (nI z_258)]) := (hR b_250 (by rw [ht_254]; simp only [List.mem_cons, List.not_mem_nil, or_false]; omega)).symm.trans hF_281
          refine W.widen (k := 0) (n := 0) (by omega) (by omega) ?_
          refine pl_cutm (σ := Int32) A (dC, dI) cs ty gm L [ρ + 13, ρ + 14, ρ + 22, ρ + 83, ρ + 84] F 140 3 (fun s140 => [(1, .int (nI j)), (0, .ref h0)]) (fun s140 => [.int s140]) (fun s140 FF => ∃ zk : Nat, zk ≤ 40 ∧ FF ke = .inr (13, [.ref x_5, .ref y0_6, .ref y1_7, .ref y2_8, .int (nI zk)])) ?_ (fun jn_284 => ?_)
          ·
            rintro s140 F_285 hv_290 hO hR H locs hP hD hS ls hl
            have hl : lv_has ls 3 [(1, .int (nI j)), (0, .ref h0)] := hl
            have hv_290 : ∃ zk : Nat, zk ≤ 40 ∧ F_285 ke = .inr (13, [.ref x_5, .ref y0_6, .ref y1_7, .ref y2_8, .int (nI zk)]) := hv_290
            refine W.eq (g2 := F0 m 140 ls [.int s140]) rfl ?_
            have hF_291 : F_285 h0 = .inr (15, (.ref ta) :: (.int (nI zt)) :: (.int (nI zo_48)) :: (.int (nI ze)) :: (.ref ou) :: (.ref so) :: (.ref ad) :: (.ref na) :: (.ref va) :: (.ref lc) :: (.ref dm) :: (.int (nI fm)) :: (.int (nI sn)) :: (.ref tg) :: (.int v14_49) :: (.int v15_50) :: (.ref pe) :: (.int v17_51) :: (.int v18_52) :: (.int v19_53) :: (.int v20_54) :: (.int v21_55) :: (.int v22_56) :: (.ref ml) :: (.ref bg) :: (.ref co) :: (.ref sp) :: (.ref nb0) :: (.ref nb1) :: (.ref nb2) :: (.int (nI nf)) :: (.int (nI bd)) :: (.int (nI mm)) :: (.int v33_57) :: (.ref pl) :: (.ref se) :: (.ref ke) :: (.ref wi) :: (.ref hs) :: (.ref mo) :: (.ref po) :: (.ref nu) :: (.ref pr) :: (.ref sq) :: (.ref xa) :: (.ref sa) :: (.ref n64) :: (.ref m64) :: (.ref ex) :: (.ref wh) :: (.ref sd) :: (.ref tk) :: (.int v52_58) :: (.int v53_59) :: (.int v54_60) :: (.ref hd) :: (.ref ak) :: (.ref ho) :: (.ref ot) :: []) := (hR h0 (by rw [hT_h0]; simp)).trans hF_286
            have hF_292 : F_285 va = .inl (cs 23, 40, .inr (.inr (.inr (.inr f_236)))) := (hR va (by rw [ht_235]; simp)).trans hF_287
            have hF_293 : F_285 b_239 = .inr (14, [.ref r_240, .int (nI z_247)]) := (hR b_239 (by rw [ht_243]; simp only [List.mem_cons, List.not_mem_nil, or_false]; omega)).trans hF_288
            have hF_294 : F_285 b_250 = .inr (14, [.ref r_251, .int (nI z_258)]) := (hR b_250 (by rw [ht_254]; simp only [List.mem_cons, List.not_mem_nil, or_false]; omega)).trans hF_289
            obtain ⟨zk140, hzk140a, hzk140b⟩ := hv_290
            refine lv_istore_n (lv' := [(2, .int s140), (1, .int (nI j)), (0, .ref h0)]) hx hb dX15_keyOf_140 rfl hl (by decide) rfl (fun ls hl => ?_)
            refine lv_iload_n hx hb dX15_keyOf_141 rfl (lv_at hl 0 rfl) ?_
            have hF_297 : F h0 = .inr (15, (.ref ta) :: (.int (nI zt)) :: (.int (nI zo_48)) :: (.int (nI ze)) :: (.ref ou) :: (.ref so) :: (.ref ad) :: (.ref na) :: (.ref va) :: (.ref lc) :: (.ref dm) :: (.int (nI fm)) :: (.int (nI sn)) :: (.ref tg) :: (.int v14_49) :: (.int v15_50) :: (.ref pe) :: (.int v17_51) :: (.int v18_52) :: (.int v19_53) :: (.int v20_54) :: (.int v21_55) :: (.int v22_56) :: (.ref ml) :: (.ref bg) :: (.ref co) :: (.ref sp) :: (.ref nb0) :: (.ref nb1) :: (.ref nb2) :: (.int (nI nf)) :: (.int (nI bd)) :: (.int (nI mm)) :: (.int v33_57) :: (.ref pl) :: (.ref se) :: (.ref ke) :: (.ref wi) :: (.ref hs) :: (.ref mo) :: (.ref po) :: (.ref nu) :: (.ref pr) :: (.ref sq) :: (.ref xa) :: (.ref sa) :: (.ref n64) :: (.ref m64) :: (.ref ex) :: (.ref wh) :: (.ref sd) :: (.ref tk) :: (.int v52_58) :: (.int v53_59) :: (.int v54_60) :: (.ref hd) :: (.ref ak) :: (.ref ho) :: (.ref ot) :: []) := (hR h0 (by rw [hT_h0]; simp)).symm.trans hF_291
            have hF_298 : F va = .inl (cs 23, 40, .inr (.inr (.inr (.inr f_236)))) := (hR va (by rw [ht_235]; simp)).symm.trans hF_292
            have hF_299 : F b_239 = .inr (14, [.ref r_240, .int (nI z_247)]) := (hR b_239 (by rw [ht_243]; simp only [List.mem_cons, List.not_mem_nil, or_false]; omega)).symm.trans hF_293
            have hF_300 : F b_250 = .inr (14, [.ref r_251, .int (nI z_258)]) := (hR b_250 (by rw [ht_254]; simp only [List.mem_cons, List.not_mem_nil, or_false]; omega)).symm.trans hF_294
            refine W.widen (k := 0) (n := 0) (by omega) (by omega) ?_
            refine pl_cutm (σ := Int32) A (dC, dI) cs ty gm L [ρ + 13, ρ + 14, ρ + 22, ρ + 83, ρ + 84] F 176 3 (fun s176 => [(2, .int s140), (1, .int (nI j)), (0, .ref h0)]) (fun s176 => [.int s176, .int s140]) (fun s176 FF => ∃ zk : Nat, zk ≤ 40 ∧ FF ke = .inr (13, [.ref x_5, .ref y0_6, .ref y1_7, .ref y2_8, .int (nI zk)])) ?_ (fun jn_295 => ?_)
            ·
              rintro s176 F_296 hv_301 hO hR H locs hP hD hS ls hl
              have hl : lv_has ls 3 [(2, .int s140), (1, .int (nI j)), (0, .ref h0)] := hl
              have hv_301 : ∃ zk : Nat, zk ≤ 40 ∧ F_296 ke = .inr (13, [.ref x_5, .ref y0_6, .ref y1_7, .ref y2_8, .int (nI zk)]) := hv_301
              refine W.eq (g2 := F0 m 176 ls [.int s176, .int s140]) rfl ?_
              have hF_302 : F_296 h0 = .inr (15, (.ref ta) :: (.int (nI zt)) :: (.int (nI zo_48)) :: (.int (nI ze)) :: (.ref ou) :: (.ref so) :: (.ref ad) :: (.ref na) :: (.ref va) :: (.ref lc) :: (.ref dm) :: (.int (nI fm)) :: (.int (nI sn)) :: (.ref tg) :: (.int v14_49) :: (.int v15_50) :: (.ref pe) :: (.int v17_51) :: (.int v18_52) :: (.int v19_53) :: (.int v20_54) :: (.int v21_55) :: (.int v22_56) :: (.ref ml) :: (.ref bg) :: (.ref co) :: (.ref sp) :: (.ref nb0) :: (.ref nb1) :: (.ref nb2) :: (.int (nI nf)) :: (.int (nI bd)) :: (.int (nI mm)) :: (.int v33_57) :: (.ref pl) :: (.ref se) :: (.ref ke) :: (.ref wi) :: (.ref hs) :: (.ref mo) :: (.ref po) :: (.ref nu) :: (.ref pr) :: (.ref sq) :: (.ref xa) :: (.ref sa) :: (.ref n64) :: (.ref m64) :: (.ref ex) :: (.ref wh) :: (.ref sd) :: (.ref tk) :: (.int v52_58) :: (.int v53_59) :: (.int v54_60) :: (.ref hd) :: (.ref ak) :: (.ref ho) :: (.ref ot) :: []) := (hR h0 (by rw [hT_h0]; simp)).trans hF_297
              have hF_303 : F_296 va = .inl (cs 23, 40, .inr (.inr (.inr (.inr f_236)))) := (hR va (by rw [ht_235]; simp)).trans hF_298
              have hF_304 : F_296 b_239 = .inr (14, [.ref r_240, .int (nI z_247)]) := (hR b_239 (by rw [ht_243]; simp only [List.mem_cons, List.not_mem_nil, or_false]; omega)).trans hF_299
              have hF_305 : F_296 b_250 = .inr (14, [.ref r_251, .int (nI z_258)]) := (hR b_250 (by rw [ht_254]; simp only [List.mem_cons, List.not_mem_nil, or_false]; omega)).trans hF_300
              obtain ⟨zk176, hzk176a, hzk176b⟩ := hv_301
              refine lv_iand hx hb dX15_keyOf_176 ?_
              refine lv_topi (fun x_306 ex_306 => ?_)
              refine lv_istore_n (lv' := [(2, .int x_306), (1, .int (nI j)), (0, .ref h0)]) hx hb dX15_keyOf_177 rfl hl (by decide) rfl (fun ls hl => ?_)
              refine lv_iload_n hx hb dX15_keyOf_178 rfl (lv_at hl 0 rfl) ?_
              have hF_309 : F h0 = .inr (15, (.ref ta) :: (.int (nI zt)) :: (.int (nI zo_48)) :: (.int (nI ze)) :: (.ref ou) :: (.ref so) :: (.ref ad) :: (.ref na) :: (.ref va) :: (.ref lc) :: (.ref dm) :: (.int (nI fm)) :: (.int (nI sn)) :: (.ref tg) :: (.int v14_49) :: (.int v15_50) :: (.ref pe) :: (.int v17_51) :: (.int v18_52) :: (.int v19_53) :: (.int v20_54) :: (.int v21_55) :: (.int v22_56) :: (.ref ml) :: (.ref bg) :: (.ref co) :: (.ref sp) :: (.ref nb0) :: (.ref nb1) :: (.ref nb2) :: (.int (nI nf)) :: (.int (nI bd)) :: (.int (nI mm)) :: (.int v33_57) :: (.ref pl) :: (.ref se) :: (.ref ke) :: (.ref wi) :: (.ref hs) :: (.ref mo) :: (.ref po) :: (.ref nu) :: (.ref pr) :: (.ref sq) :: (.ref xa) :: (.ref sa) :: (.ref n64) :: (.ref m64) :: (.ref ex) :: (.ref wh) :: (.ref sd) :: (.ref tk) :: (.int v52_58) :: (.int v53_59) :: (.int v54_60) :: (.ref hd) :: (.ref ak) :: (.ref ho) :: (.ref ot) :: []) := (hR h0 (by rw [hT_h0]; simp)).symm.trans hF_302
              have hF_310 : F va = .inl (cs 23, 40, .inr (.inr (.inr (.inr f_236)))) := (hR va (by rw [ht_235]; simp)).symm.trans hF_303
              have hF_311 : F b_239 = .inr (14, [.ref r_240, .int (nI z_247)]) := (hR b_239 (by rw [ht_243]; simp only [List.mem_cons, List.not_mem_nil, or_false]; omega)).symm.trans hF_304
              have hF_312 : F b_250 = .inr (14, [.ref r_251, .int (nI z_258)]) := (hR b_250 (by rw [ht_254]; simp only [List.mem_cons, List.not_mem_nil, or_false]; omega)).symm.trans hF_305
              refine W.widen (k := 0) (n := 0) (by omega) (by omega) ?_
              refine pl_cutm (σ := Int32) A (dC, dI) cs ty gm L [ρ + 13, ρ + 14, ρ + 22, ρ + 83, ρ + 84] F 213 3 (fun s213 => [(2, .int x_306), (1, .int (nI j)), (0, .ref h0)]) (fun s213 => [.int s213, .int x_306]) (fun s213 FF => ∃ zk : Nat, zk ≤ 40 ∧ FF ke = .inr (13, [.ref x_5, .ref y0_6, .ref y1_7, .ref y2_8, .int (nI zk)])) ?_ (fun jn_307 => ?_)
              ·
                rintro s213 F_308 hv_313 hO hR H locs hP hD hS ls hl
                have hl : lv_has ls 3 [(2, .int x_306), (1, .int (nI j)), (0, .ref h0)] := hl
                have hv_313 : ∃ zk : Nat, zk ≤ 40 ∧ F_308 ke = .inr (13, [.ref x_5, .ref y0_6, .ref y1_7, .ref y2_8, .int (nI zk)]) := hv_313
                refine W.eq (g2 := F0 m 213 ls [.int s213, .int x_306]) rfl ?_
                have hF_314 : F_308 h0 = .inr (15, (.ref ta) :: (.int (nI zt)) :: (.int (nI zo_48)) :: (.int (nI ze)) :: (.ref ou) :: (.ref so) :: (.ref ad) :: (.ref na) :: (.ref va) :: (.ref lc) :: (.ref dm) :: (.int (nI fm)) :: (.int (nI sn)) :: (.ref tg) :: (.int v14_49) :: (.int v15_50) :: (.ref pe) :: (.int v17_51) :: (.int v18_52) :: (.int v19_53) :: (.int v20_54) :: (.int v21_55) :: (.int v22_56) :: (.ref ml) :: (.ref bg) :: (.ref co) :: (.ref sp) :: (.ref nb0) :: (.ref nb1) :: (.ref nb2) :: (.int (nI nf)) :: (.int (nI bd)) :: (.int (nI mm)) :: (.int v33_57) :: (.ref pl) :: (.ref se) :: (.ref ke) :: (.ref wi) :: (.ref hs) :: (.ref mo) :: (.ref po) :: (.ref nu) :: (.ref pr) :: (.ref sq) :: (.ref xa) :: (.ref sa) :: (.ref n64) :: (.ref m64) :: (.ref ex) :: (.ref wh) :: (.ref sd) :: (.ref tk) :: (.int v52_58) :: (.int v53_59) :: (.int v54_60) :: (.ref hd) :: (.ref ak) :: (.ref ho) :: (.ref ot) :: []) := (hR h0 (by rw [hT_h0]; simp)).trans hF_309
                have hF_315 : F_308 va = .inl (cs 23, 40, .inr (.inr (.inr (.inr f_236)))) := (hR va (by rw [ht_235]; simp)).trans hF_310
                have hF_316 : F_308 b_239 = .inr (14, [.ref r_240, .int (nI z_247)]) := (hR b_239 (by rw [ht_243]; simp only [List.mem_cons, List.not_mem_nil, or_false]; omega)).trans hF_311
                have hF_317 : F_308 b_250 = .inr (14, [.ref r_251, .int (nI z_258)]) := (hR b_250 (by rw [ht_254]; simp only [List.mem_cons, List.not_mem_nil, or_false]; omega)).trans hF_312
                obtain ⟨zk213, hzk213a, hzk213b⟩ := hv_313
                refine lv_iand hx hb dX15_keyOf_213 ?_
                refine lv_topi (fun x_318 ex_318 => ?_)
                refine lv_istore_n (lv' := [(2, .int x_318), (1, .int (nI j)), (0, .ref h0)]) hx hb dX15_keyOf_214 rfl hl (by decide) rfl (fun ls hl => ?_)
                refine lv_iload_n hx hb dX15_keyOf_215 rfl (lv_at hl 0 rfl) ?_
                refine lv_if_eq (tgt := 223) hx hb dX15_keyOf_216 (by decide) (fun c_319 => ?_) (fun c_319 => ?_)
                ·
                  refine lv_bipush (v := 6) hx hb dX15_keyOf_223 (by decide) ?_
                  refine W.widen (k := 0) (n := 0) (by omega) (by omega) ?_
                  exact W.iret (v := 6) hx hb hr (fun t ht hWm => ⟨⟨6, (), rfl, trivial, ⟨F_308, QTm.mk ht hP hD hO hR⟩⟩, hS.F ht⟩) hS.2.2 dX15_keyOf_225
                ·
                  refine lv_iconst (v := 2) hx hb dX15_keyOf_219 (by decide) ?_
                  refine lv_goto (tgt := 225) hx hb dX15_keyOf_220 (by decide) ?_
                  refine W.widen (k := 0) (n := 0) (by omega) (by omega) ?_
                  exact W.iret (v := 2) hx hb hr (fun t ht hWm => ⟨⟨2, (), rfl, trivial, ⟨F_308, QTm.mk ht hP hD hO hR⟩⟩, hS.F ht⟩) hS.2.2 dX15_keyOf_225
              ·
                refine lv_aload_n hx hb dX15_keyOf_179 rfl (lv_at hl 2 rfl) ?_
                refine pg_get (ci := 15) (v := .ref ke) (C := RX15) (T := TX15) (N := 59) hx hb hts it_15 hown hK hP hL_h0 hF_302 rfl 36 (by decide) (hts _ kt_939) (fun _ h9 => h9) rfl dX15_keyOf_180 ?_
                obtain ⟨q_320, v_321, hr_q_320, hX_q_320⟩ := hG.2.2 ("PostGateModel", 537, "k", [107]) (by decide +kernel)
                have hX_q_320 : SXc q_320 v_321 1 (cct [107]) A s s.heap := hX_q_320
                obtain ⟨xo_q_320, xc_q_320, xv_q_320, xt_q_320, xn_q_320⟩ := id hX_q_320
                have hr_q_320 : vk_R "PostGateModel" 537 "k" q_320 s := hr_q_320
                refine va_ldcwS hx hb hown hr_q_320 dX15_keyOf_183 ?_
                have hFc := pg_free hD hS hA
                refine va_calli (va_runV (As := [.ref q_320]) (rest := [.int x_306]) ⟨hx, hb, hml, hown, hts⟩ (s_X13_find l dC dI cs ty gm L H.size F_296 ke (ρ + 13) x_5 700 700 y0_6 y1_7 y2_8 r_35 zk176 q_320 v_321 1 (cct [107]) hW hi_29 ht_30 hi_31 ht_36 hzk176b (by first | omega | assumption | exact Or.inl rfl)) ⟨callB_of 1 hts (gi kt_828) rfl rfl rfl (hts _ kt_829) (hts _ kt_839) (by decide +kernel) ⟨Nat.le_of_ble_eq_true rfl, Nat.le_of_ble_eq_true rfl⟩, (hts _ kt_831), (hts _ kt_832)⟩ ⟨fun a U g mk q => ⟨q.1, PTEm.calling q.2⟩, pg_recv hK hP hi_29 hzk176b (q := (RX13, TX13, 5)) rfl, fun U hU hWm => ⟨rfl, PTEm.mk hU hWm hP hK hD hE hO hG (fun x hx => by rw [List.mem_singleton] at hx; subst hx; exact hX_q_320) hS hFc⟩⟩ rfl rfl hl.1 rfl (lv_room (Nat.le_of_ble_eq_true rfl)) dX15_keyOf_186 ⟨by show _ + 0 ≤ 0; omega, by show _ + 0 ≤ 0; omega⟩) hS (fun q _ h => hFc q h) hFc (fun r_322 u t H1 locs ht hvm hw hB hz1 hk1 hS => ?_)
                obtain ⟨F_323, hB1⟩ := hB
                obtain rfl : F_296 = F_323 := (funext (fun a => hB1.2.2.2 a List.not_mem_nil)).symm
                obtain ⟨hP, hD, hO, hR⟩ := QTm.back hB1 ht hFc hR (fun q h => absurd h List.not_mem_nil)
                generalize H1 = H at hP hS ⊢
                have hw : FND (gA (F_296 r_35)) (gA (F_296 y0_6)) (gA (F_296 y1_7)) zk176 (cct [107]) 1 r_322 := hw
                have hw_324 := hw
                refine lv_if_lt (tgt := 208) hx hb dX15_keyOf_189 (by decide) (fun c_325 => ?_) (fun c_325 => ?_)
                ·
                  refine lv_iconst (v := 1) hx hb dX15_keyOf_208 (by decide) ?_
                  refine lv_goto (tgt := 213) hx hb dX15_keyOf_209 (by decide) ?_
                  refine W.widen (k := 0) (n := 0) (by omega) (by omega) ?_
                  exact jn_307 1 F_296 (⟨_, by omega, hzk176b⟩) hO hR _ _ hP hD hS ls (lv_sub hl [0, 1, 2] rfl)
                ·
                  refine lv_aload_n hx hb dX15_keyOf_192 rfl (lv_at hl 2 rfl) ?_
                  refine pg_get (ci := 15) (v := .ref ke) (C := RX15) (T := TX15) (N := 59) hx hb hts it_15 hown hK hP hL_h0 hF_302 rfl 36 (by decide) (hts _ kt_939) (fun _ h9 => h9) rfl dX15_keyOf_193 ?_
                  refine va_ldcwS hx hb hown hr_q_320 dX15_keyOf_196 ?_
                  obtain ⟨q_326, v_327, hr_q_326, hX_q_326⟩ := hG.2.2 ("PostGateModel", 539, "rsa", [114, 115, 97]) (by decide +kernel)
                  have hX_q_326 : SXc q_326 v_327 3 (cct [114, 115, 97]) A s s.heap := hX_q_326
                  obtain ⟨xo_q_326, xc_q_326, xv_q_326, xt_q_326, xn_q_326⟩ := id hX_q_326
                  have hr_q_326 : vk_R "PostGateModel" 539 "rsa" q_326 s := hr_q_326
                  refine va_ldcwS hx hb hown hr_q_326 dX15_keyOf_199 ?_
                  have hFc := pg_free hD hS hA
                  refine va_calli (va_runV (As := [.ref q_320, .ref q_326]) (rest := [.int x_306]) ⟨hx, hb, hml, hown, hts⟩ (s_X13_has l dC dI cs ty gm L H.size F_296 ke (ρ + 13) x_5 700 700 y0_6 y1_7 y2_8 r_35 zk176 q_320 v_321 1 (cct [107]) q_326 v_327 3 (cct [114, 115, 97]) hW hi_29 ht_30 hi_31 ht_36 hzk176b (by first | omega | assumption | exact Or.inl rfl)) ⟨callB_of 2 hts (gi kt_863) rfl rfl rfl (hts _ kt_829) (hts _ kt_864) (by decide +kernel) ⟨Nat.le_of_ble_eq_true rfl, Nat.le_of_ble_eq_true rfl⟩, (hts _ kt_865), (hts _ kt_866)⟩ ⟨fun a U g mk q => ⟨q.1, PTEm.calling q.2⟩, pg_recv hK hP hi_29 hzk176b (q := (RX13, TX13, 5)) rfl, fun U hU hWm => ⟨rfl, PTEm.mk hU hWm hP hK hD hE hO hG (fun x hx => by simp only [List.mem_cons, List.not_mem_nil, or_false] at hx; rcases hx with hx | hx <;> subst hx <;> first | exact hX_q_320 | exact hX_q_326) hS hFc⟩⟩ rfl rfl hl.1 rfl (lv_room (Nat.le_of_ble_eq_true rfl)) dX15_keyOf_202 ⟨by show _ + 0 ≤ 0; omega, by show _ + 0 ≤ 0; omega⟩) hS (fun q _ h => hFc q h) hFc (fun r_328 u t H1 locs ht hvm hw hB hz1 hk1 hS => ?_)
                  obtain ⟨F_329, hB1⟩ := hB
                  obtain rfl : F_296 = F_329 := (funext (fun a => hB1.2.2.2 a List.not_mem_nil)).symm
                  obtain ⟨hP, hD, hO, hR⟩ := QTm.back hB1 ht hFc hR (fun q h => absurd h List.not_mem_nil)
                  generalize H1 = H at hP hS ⊢
                  have hw : (r_328 = 0 ∨ r_328 = 1) := hw
                  have hw_330 := hw
                  refine lv_if_eq (tgt := 212) hx hb dX15_keyOf_205 (by decide) (fun c_331 => ?_) (fun c_331 => ?_)
                  ·
                    refine lv_iconst (v := 0) hx hb dX15_keyOf_212 (by decide) ?_
                    refine W.widen (k := 0) (n := 0) (by omega) (by omega) ?_
                    exact jn_307 0 F_296 (⟨_, by omega, hzk176b⟩) hO hR _ _ hP hD hS ls (lv_sub hl [0, 1, 2] rfl)
                  ·
                    refine lv_iconst (v := 1) hx hb dX15_keyOf_208 (by decide) ?_
                    refine lv_goto (tgt := 213) hx hb dX15_keyOf_209 (by decide) ?_
                    refine W.widen (k := 0) (n := 0) (by omega) (by omega) ?_
                    exact jn_307 1 F_296 (⟨_, by omega, hzk176b⟩) hO hR _ _ hP hD hS ls (lv_sub hl [0, 1, 2] rfl)
            ·
              refine lv_aload_n hx hb dX15_keyOf_142 rfl (lv_at hl 2 rfl) ?_
              refine pg_get (ci := 15) (v := .ref ke) (C := RX15) (T := TX15) (N := 59) hx hb hts it_15 hown hK hP hL_h0 hF_291 rfl 36 (by decide) (hts _ kt_939) (fun _ h9 => h9) rfl dX15_keyOf_143 ?_
              obtain ⟨q_332, v_333, hr_q_332, hX_q_332⟩ := hG.2.2 ("PostGateModel", 444, "v", [118]) (by decide +kernel)
              have hX_q_332 : SXc q_332 v_333 1 (cct [118]) A s s.heap := hX_q_332
              obtain ⟨xo_q_332, xc_q_332, xv_q_332, xt_q_332, xn_q_332⟩ := id hX_q_332
              have hr_q_332 : vk_R "PostGateModel" 444 "v" q_332 s := hr_q_332
              refine va_ldcwS hx hb hown hr_q_332 dX15_keyOf_146 ?_
              have hFc := pg_free hD hS hA
              refine va_calli (va_runV (As := [.ref q_332]) (rest := [.int s140]) ⟨hx, hb, hml, hown, hts⟩ (s_X13_find l dC dI cs ty gm L H.size F_285 ke (ρ + 13) x_5 700 700 y0_6 y1_7 y2_8 r_35 zk140 q_332 v_333 1 (cct [118]) hW hi_29 ht_30 hi_31 ht_36 hzk140b (by first | omega | assumption | exact Or.inl rfl)) ⟨callB_of 1 hts (gi kt_828) rfl rfl rfl (hts _ kt_829) (hts _ kt_839) (by decide +kernel) ⟨Nat.le_of_ble_eq_true rfl, Nat.le_of_ble_eq_true rfl⟩, (hts _ kt_831), (hts _ kt_832)⟩ ⟨fun a U g mk q => ⟨q.1, PTEm.calling q.2⟩, pg_recv hK hP hi_29 hzk140b (q := (RX13, TX13, 5)) rfl, fun U hU hWm => ⟨rfl, PTEm.mk hU hWm hP hK hD hE hO hG (fun x hx => by rw [List.mem_singleton] at hx; subst hx; exact hX_q_332) hS hFc⟩⟩ rfl rfl hl.1 rfl (lv_room (Nat.le_of_ble_eq_true rfl)) dX15_keyOf_149 ⟨by show _ + 0 ≤ 0; omega, by show _ + 0 ≤ 0; omega⟩) hS (fun q _ h => hFc q h) hFc (fun r_334 u t H1 locs ht hvm hw hB hz1 hk1 hS => ?_)
              obtain ⟨F_335, hB1⟩ := hB
              obtain rfl : F_285 = F_335 := (funext (fun a => hB1.2.2.2 a List.not_mem_nil)).symm
              obtain ⟨hP, hD, hO, hR⟩ := QTm.back hB1 ht hFc hR (fun q h => absurd h List.not_mem_nil)
              generalize H1 = H at hP hS ⊢
              have hw : FND (gA (F_285 r_35)) (gA (F_285 y0_6)) (gA (F_285 y1_7)) zk140 (cct [118]) 1 r_334 := hw
              have hw_336 := hw
              refine lv_if_lt (tgt := 171) hx hb dX15_keyOf_152 (by decide) (fun c_337 => ?_) (fun c_337 => ?_)
              ·
                refine lv_iconst (v := 1) hx hb dX15_keyOf_171 (by decide) ?_
                refine lv_goto (tgt := 176) hx hb dX15_keyOf_172 (by decide) ?_
                refine W.widen (k := 0) (n := 0) (by omega) (by omega) ?_
                exact jn_295 1 F_285 (⟨_, by omega, hzk140b⟩) hO hR _ _ hP hD hS ls (lv_sub hl [0, 1, 2] rfl)
              ·
                refine lv_aload_n hx hb dX15_keyOf_155 rfl (lv_at hl 2 rfl) ?_
                refine pg_get (ci := 15) (v := .ref ke) (C := RX15) (T := TX15) (N := 59) hx hb hts it_15 hown hK hP hL_h0 hF_291 rfl 36 (by decide) (hts _ kt_939) (fun _ h9 => h9) rfl dX15_keyOf_156 ?_
                refine va_ldcwS hx hb hown hr_q_332 dX15_keyOf_159 ?_
                obtain ⟨q_338, v_339, hr_q_338, hX_q_338⟩ := hG.2.2 ("PostGateModel", 535, "DKIM1", [68, 75, 73, 77, 49]) (by decide +kernel)
                have hX_q_338 : SXc q_338 v_339 5 (cct [68, 75, 73, 77, 49]) A s s.heap := hX_q_338
                obtain ⟨xo_q_338, xc_q_338, xv_q_338, xt_q_338, xn_q_338⟩ := id hX_q_338
                have hr_q_338 : vk_R "PostGateModel" 535 "DKIM1" q_338 s := hr_q_338
                refine va_ldcwS hx hb hown hr_q_338 dX15_keyOf_162 ?_
                have hFc := pg_free hD hS hA
                refine va_calli (va_runV (As := [.ref q_332, .ref q_338]) (rest := [.int s140]) ⟨hx, hb, hml, hown, hts⟩ (s_X13_has l dC dI cs ty gm L H.size F_285 ke (ρ + 13) x_5 700 700 y0_6 y1_7 y2_8 r_35 zk140 q_332 v_333 1 (cct [118]) q_338 v_339 5 (cct [68, 75, 73, 77, 49]) hW hi_29 ht_30 hi_31 ht_36 hzk140b (by first | omega | assumption | exact Or.inl rfl)) ⟨callB_of 2 hts (gi kt_863) rfl rfl rfl (hts _ kt_829) (hts _ kt_864) (by decide +kernel) ⟨Nat.le_of_ble_eq_true rfl, Nat.le_of_ble_eq_true rfl⟩, (hts _ kt_865), (hts _ kt_866)⟩ ⟨fun a U g mk q => ⟨q.1, PTEm.calling q.2⟩, pg_recv hK hP hi_29 hzk140b (q := (RX13, TX13, 5)) rfl, fun U hU hWm => ⟨rfl, PTEm.mk hU hWm hP hK hD hE hO hG (fun x hx => by simp only [List.mem_cons, List.not_mem_nil, or_false] at hx; rcases hx with hx | hx <;> subst hx <;> first | exact hX_q_332 | exact hX_q_338) hS hFc⟩⟩ rfl rfl hl.1 rfl (lv_room (Nat.le_of_ble_eq_true rfl)) dX15_keyOf_165 ⟨by show _ + 0 ≤ 0; omega, by show _ + 0 ≤ 0; omega⟩) hS (fun q _ h => hFc q h) hFc (fun r_340 u t H1 locs ht hvm hw hB hz1 hk1 hS => ?_)
                obtain ⟨F_341, hB1⟩ := hB
                obtain rfl : F_285 = F_341 := (funext (fun a => hB1.2.2.2 a List.not_mem_nil)).symm
                obtain ⟨hP, hD, hO, hR⟩ := QTm.back hB1 ht hFc hR (fun q h => absurd h List.not_mem_nil)
                generalize H1 = H at hP hS ⊢
                have hw : (r_340 = 0 ∨ r_340 = 1) := hw
                have hw_342 := hw
                refine lv_if_eq (tgt := 175) hx hb dX15_keyOf_168 (by decide) (fun c_343 => ?_) (fun c_343 => ?_)
                ·
                  refine lv_iconst (v := 0) hx hb dX15_keyOf_175 (by decide) ?_
                  refine W.widen (k := 0) (n := 0) (by omega) (by omega) ?_
                  exact jn_295 0 F_285 (⟨_, by omega, hzk140b⟩) hO hR _ _ hP hD hS ls (lv_sub hl [0, 1, 2] rfl)
                ·
                  refine lv_iconst (v := 1) hx hb dX15_keyOf_171 (by decide) ?_
                  refine lv_goto (tgt := 176) hx hb dX15_keyOf_172 (by decide) ?_
                  refine W.widen (k := 0) (n := 0) (by omega) (by omega) ?_
                  exact jn_295 1 F_285 (⟨_, by omega, hzk140b⟩) hO hR _ _ hP hD hS ls (lv_sub hl [0, 1, 2] rfl)
          ·
            refine lv_if_eq (tgt := 139) hx hb dX15_keyOf_91 (by decide) (fun c_344 => ?_) (fun c_344 => ?_)
            ·
              refine lv_iconst (v := 0) hx hb dX15_keyOf_139 (by decide) ?_
              refine W.widen (k := 0) (n := 0) (by omega) (by omega) ?_
              exact jn_284 0 F_274 (⟨_, by omega, hq_276⟩) hO hR _ _ hP hD hS ls (lv_sub hl [0, 1] rfl)
            ·
              refine lv_aload_n hx hb dX15_keyOf_94 rfl (lv_at hl 1 rfl) ?_
              refine pg_get (ci := 15) (v := .ref ke) (C := RX15) (T := TX15) (N := 59) hx hb hts it_15 hown hK hP hL_h0 hF_278 rfl 36 (by decide) (hts _ kt_939) (fun _ h9 => h9) rfl dX15_keyOf_95 ?_
              obtain ⟨q_345, v_346, hr_q_345, hX_q_345⟩ := hG.2.2 ("PostGateModel", 533, "p", [112]) (by decide +kernel)
              have hX_q_345 : SXc q_345 v_346 1 (cct [112]) A s s.heap := hX_q_345
              obtain ⟨xo_q_345, xc_q_345, xv_q_345, xt_q_345, xn_q_345⟩ := id hX_q_345
              have hr_q_345 : vk_R "PostGateModel" 533 "p" q_345 s := hr_q_345
              refine va_ldcwS hx hb hown hr_q_345 dX15_keyOf_98 ?_
              refine lv_bipush (v := 64) hx hb dX15_keyOf_101 (by decide) ?_
              refine lv_aload_n hx hb dX15_keyOf_103 rfl (lv_at hl 1 rfl) ?_
              refine pg_get (ci := 15) (v := .ref m64) (C := RX15) (T := TX15) (N := 59) hx hb hts it_15 hown hK hP hL_h0 hF_278 rfl 47 (by decide) (hts _ kt_922) (fun _ h9 => h9) rfl dX15_keyOf_104 ?_
              obtain ⟨hi_347, ht_348⟩ := hW.f_m64 hL_h0 hT_h0
              obtain ⟨hq_349, hq_350⟩ := hW.octs hi_347 ht_348
              have hFc := pg_free hD hS hA
              refine va_calli (va_runS (As := [.ref ke, .ref q_345, .int 64, .ref m64]) (rest := []) ⟨hx, hb, hml, hown, hts⟩ (s_X15_base_64 l dC dI cs ty gm L H.size F_274 ke (ρ + 13) x_5 700 700 y0_6 y1_7 y2_8 r_35 z2_275 m64 (ρ + 22) q_345 v_346 1 (cct [112]) hW hi_29 ht_30 hi_31 ht_36 hi_347 ht_348 hq_276 (by first | omega | assumption | exact Or.inl rfl)) ⟨callB_of 4 hts (gi kt_872) rfl rfl rfl (hts _ kt_669) (hts _ kt_873) (by decide +kernel) ⟨Nat.le_of_ble_eq_true rfl, Nat.le_of_ble_eq_true rfl⟩, (hts _ kt_874)⟩ ⟨fun a U g mk q => ⟨q.1, PTEm.calling q.2⟩, fun U hU hWm => ⟨rfl, PTEm.mk hU hWm hP hK hD hE hO hG (fun x hx => by rw [List.mem_singleton] at hx; subst hx; exact hX_q_345) hS hFc⟩⟩ rfl rfl hl.1 rfl (lv_room (Nat.le_of_ble_eq_true rfl)) dX15_keyOf_107 ⟨by show _ + 0 ≤ 0; omega, by show _ + 0 ≤ 0; omega⟩) hS (fun q _ h => hFc q h) hFc (fun r_351 u t H1 locs ht hvm hw hB hz1 hk1 hS => ?_)
              obtain ⟨F_352, hB1⟩ := hB
              obtain ⟨hP, hD, hO, hR⟩ := QTm.back hB1 ht hFc hR (fun q h => by simp only [List.mem_cons, List.not_mem_nil, or_false] at h ⊢; omega)
              have hF_353 : F_352 h0 = .inr (15, (.ref ta) :: (.int (nI zt)) :: (.int (nI zo_48)) :: (.int (nI ze)) :: (.ref ou) :: (.ref so) :: (.ref ad) :: (.ref na) :: (.ref va) :: (.ref lc) :: (.ref dm) :: (.int (nI fm)) :: (.int (nI sn)) :: (.ref tg) :: (.int v14_49) :: (.int v15_50) :: (.ref pe) :: (.int v17_51) :: (.int v18_52) :: (.int v19_53) :: (.int v20_54) :: (.int v21_55) :: (.int v22_56) :: (.ref ml) :: (.ref bg) :: (.ref co) :: (.ref sp) :: (.ref nb0) :: (.ref nb1) :: (.ref nb2) :: (.int (nI nf)) :: (.int (nI bd)) :: (.int (nI mm)) :: (.int v33_57) :: (.ref pl) :: (.ref se) :: (.ref ke) :: (.ref wi) :: (.ref hs) :: (.ref mo) :: (.ref po) :: (.ref nu) :: (.ref pr) :: (.ref sq) :: (.ref xa) :: (.ref sa) :: (.ref n64) :: (.ref m64) :: (.ref ex) :: (.ref wh) :: (.ref sd) :: (.ref tk) :: (.int v52_58) :: (.int v53_59) :: (.int v54_60) :: (.ref hd) :: (.ref ak) :: (.ref ho) :: (.ref ot) :: []) := (hB1.2.2.2 h0 (by rw [hT_h0]; simp)).trans hF_278
              have hF_354 : F_352 va = .inl (cs 23, 40, .inr (.inr (.inr (.inr f_236)))) := (hB1.2.2.2 va (by rw [ht_235]; simp)).trans hF_279
              have hF_355 : F_352 b_239 = .inr (14, [.ref r_240, .int (nI z_247)]) := (hB1.2.2.2 b_239 (by rw [ht_243]; simp only [List.mem_cons, List.not_mem_nil, or_false]; omega)).trans hF_280
              have hF_356 : F_352 b_250 = .inr (14, [.ref r_251, .int (nI z_258)]) := (hB1.2.2.2 b_250 (by rw [ht_254]; simp only [List.mem_cons, List.not_mem_nil, or_false]; omega)).trans hF_281
              have hF_357 : F_352 x_5 = .inr (14, [.ref r_35, .int (nI z2_265)]) := (hB1.2.2.2 x_5 (by rw [ht_36]; simp)).trans hF_282
              have hF_358 : F_352 ke = .inr (13, [.ref x_5, .ref y0_6, .ref y1_7, .ref y2_8, .int (nI z2_275)]) := (hB1.2.2.2 ke (by rw [ht_30]; simp)).trans hq_276
              generalize H1 = H at hP hS ⊢
              have hw : (r_351 = 0 ∨ r_351 = 1) := hw
              have hw_359 := hw
              refine lv_if_eq (tgt := 139) hx hb dX15_keyOf_110 (by decide) (fun c_360 => ?_) (fun c_360 => ?_)
              ·
                refine lv_iconst (v := 0) hx hb dX15_keyOf_139 (by decide) ?_
                refine W.widen (k := 0) (n := 0) (by omega) (by omega) ?_
                exact jn_284 0 F_352 (⟨_, by omega, hF_358⟩) hO hR _ _ hP hD hS ls (lv_sub hl [0, 1] rfl)
              ·
                refine lv_aload_n hx hb dX15_keyOf_113 rfl (lv_at hl 1 rfl) ?_
                refine pg_get (ci := 15) (v := .ref m64) (C := RX15) (T := TX15) (N := 59) hx hb hts it_15 hown hK hP hL_h0 hF_353 rfl 47 (by decide) (hts _ kt_922) (fun _ h9 => h9) rfl dX15_keyOf_114 ?_
                refine lv_iconst (v := 0) hx hb dX15_keyOf_117 (by decide) ?_
                obtain ⟨f_361, hF_362, hq_363⟩ := hO.octs hi_347 ht_348
                refine pg_bald hx hb hK hP hi_347 1 hF_362 rfl (show vp_in (0 : Int32) 64 from (show vp_in (nI 0) 64 from vp_in_nI (by omega) (by omega))) dX15_keyOf_118 ?_
                refine lv_topi (fun x_364 ex_364 => ?_)
                obtain rfl : x_364 = f_361 0 := ex_364.trans (congrArg f_361 (show (0 : Int32).toNatClampNeg = 0 from by decide))
                refine lv_if_ge (tgt := 139) hx hb dX15_keyOf_119 (by decide) (fun c_365 => ?_) (fun c_365 => ?_)
                ·
                  refine lv_iconst (v := 0) hx hb dX15_keyOf_139 (by decide) ?_
                  refine W.widen (k := 0) (n := 0) (by omega) (by omega) ?_
                  exact jn_284 0 F_352 (⟨_, by omega, hF_358⟩) hO hR _ _ hP hD hS ls (lv_sub hl [0, 1] rfl)
                ·
                  refine lv_aload_n hx hb dX15_keyOf_122 rfl (lv_at hl 1 rfl) ?_
                  refine pg_get (ci := 15) (v := .ref m64) (C := RX15) (T := TX15) (N := 59) hx hb hts it_15 hown hK hP hL_h0 hF_353 rfl 47 (by decide) (hts _ kt_922) (fun _ h9 => h9) rfl dX15_keyOf_123 ?_
                  refine lv_bipush (v := 63) hx hb dX15_keyOf_126 (by decide) ?_
                  refine pg_bald hx hb hK hP hi_347 1 hF_362 rfl (show vp_in (63 : Int32) 64 from (show vp_in (nI 63) 64 from vp_in_nI (by omega) (by omega))) dX15_keyOf_128 ?_
                  refine lv_topi (fun x_366 ex_366 => ?_)
                  obtain rfl : x_366 = f_361 63 := ex_366.trans (congrArg f_361 (show (63 : Int32).toNatClampNeg = 63 from by decide))
                  refine lv_iconst (v := 1) hx hb dX15_keyOf_129 (by decide) ?_
                  refine lv_iand hx hb dX15_keyOf_130 ?_
                  refine lv_topi (fun x_367 _ => ?_)
                  refine lv_iconst (v := 1) hx hb dX15_keyOf_131 (by decide) ?_
                  refine lv_icmp_ne (tgt := 139) hx hb dX15_keyOf_132 (by decide) (fun c_368 => ?_) (fun c_368 => ?_)
                  ·
                    refine lv_iconst (v := 0) hx hb dX15_keyOf_139 (by decide) ?_
                    refine W.widen (k := 0) (n := 0) (by omega) (by omega) ?_
                    exact jn_284 0 F_352 (⟨_, by omega, hF_358⟩) hO hR _ _ hP hD hS ls (lv_sub hl [0, 1] rfl)
                  ·
                    refine lv_iconst (v := 1) hx hb dX15_keyOf_135 (by decide) ?_
                    refine lv_goto (tgt := 140) hx hb dX15_keyOf_136 (by decide) ?_
                    refine W.widen (k := 0) (n := 0) (by omega) (by omega) ?_
                    exact jn_284 1 F_352 (⟨_, by omega, hF_358⟩) hO hR _ _ hP hD hS ls (lv_sub hl [0, 1] rfl)
        ·
          have hi_369 : j = ze := (nI_eq (a := j) (b := ze) (by omega) (by omega)).mp c_229
          refine lv_bipush (v := 6) hx hb dX15_keyOf_50 (by decide) ?_
          refine W.widen (k := 0) (n := 0) (by omega) (by omega) ?_
          exact W.iret (v := 6) hx hb hr (fun t ht hWm => ⟨⟨6, (), rfl, trivial, ⟨F_76, QTm.mk ht hP hD hO hR⟩⟩, hS.F ht⟩) hS.2.2 dX15_keyOf_52
      ·
        refine lv_iinc (v := (nI (j + 1))) (lv' := [(1, .int (nI (j + 1))), (0, .ref h0)]) hx hb dX15_keyOf_36 hl (k := 0) rfl (nI_1 _) (by decide) rfl (fun ls hl => ?_)
        refine lv_goto (tgt := 15) hx hb dX15_keyOf_39 (by decide) ?_
        refine W.widen (k := 0) (n := 0) (by omega) (by omega) ?_
        exact ih_79 (j + 1) F_76 (by first | omega | exact ⟨by omega, by omega⟩ | trivial) (by show 40 - (j + 1) < 40 - j; omega) hO hR _ _ hP hD hS ls (lv_sub hl [0, 1] rfl)
  ·
    refine lv_iconst (v := 5) hx hb dX15_keyOf_11 (by decide) ?_
    refine W.widen (k := 0) (n := 0) (by omega) (by omega) ?_
    exact W.iret (v := 5) hx hb hr (fun t ht hWm => ⟨⟨5, (), rfl, trivial, ⟨F, QTm.mk ht hP hD hO hR⟩⟩, hS.F ht⟩) hS.2.2 dX15_keyOf_12
set_option maxHeartbeats 4000000 in
set_option maxRecDepth 100000 in
theorem s_X15_fieldsPlain (l : Launch) (dC : Nat → ClassId) (dI : Nat → Nat → Nat) (cs : Nat → ClassId) (ty : TyM) (gm : Nat → Nat → Nat) (L : List Nat) (sz : Nat) (F : Nat → va_E) (h0 : Nat) (ρ : Nat) (ta : Nat) (ou : Nat) (so : Nat) (ad : Nat) (na : Nat) (va : Nat) (lc : Nat) (dm : Nat) (tg : Nat) (pe : Nat) (ml : Nat) (bg : Nat) (co : Nat) (sp : Nat) (nb0 : Nat) (nb1 : Nat) (nb2 : Nat) (pl : Nat) (se : Nat) (ke : Nat) (wi : Nat) (hs : Nat) (mo : Nat) (po : Nat) (nu : Nat) (pr : Nat) (sq : Nat) (xa : Nat) (sa : Nat) (n64 : Nat) (m64 : Nat) (ex : Nat) (wh : Nat) (sd : Nat) (tk : Nat) (hd : Nat) (ak : Nat) (ho : Nat) (ot : Nat) (sx : Nat) (s0 : Nat) (s1 : Nat) (s2 : Nat) (nf : Nat) (bd : Nat) (mm : Nat) (fm : Nat) (sn : Nat) (hg : Nat) (gc : Nat) (gv : Nat) (ze : Nat) (zt : Nat) (sb : Nat) (rl : Nat) (eb : Nat → Int32) (e0 : Nat → Int32) (e1 : Nat → Int32) (e2 : Nat → Int32) (zs : Nat) (kh : Nat) (jf : Nat) (hW : WTm ty gm L) (hL_h0 : h0 ∈ L) (hT_h0 : ty h0 = (15, ρ, [ta, ou, so, ad, na, va, lc, dm, tg, pe, ml, bg, co, sp, nb0, nb1, nb2, pl, se, ke, wi, hs, mo, po, nu, pr, sq, xa, sa, n64, m64, ex, wh, sd, tk, hd, ak, ho, ot, sx, s0, s1, s2, nf, bd, mm, fm, sn, hg, gc, gv, ze, zt])) (hL_sx : sx ∈ L) (hT_sx : ty sx = (14, ρ + 12, [sb, 3000])) (hL_pl : pl ∈ L) (hT_pl : ty pl = (14, ρ + 10, [rl, 6000])) (hfk0 : F sb = .inl (cs 17, 3000, .inl eb)) (hfk1 : F s0 = .inl (cs 16, 40, .inl e0)) (hfk2 : F s1 = .inl (cs 16, 40, .inl e1)) (hfk3 : F s2 = .inl (cs 16, 40, .inl e2)) (hfk4 : F se = .inr (13, [.ref sx, .ref s0, .ref s1, .ref s2, .int (nI zs)])) (hzs : zs ≤ 40) (hkh : kh < zs) (hfn : FND eb e0 e1 zs (cct [104]) 1 (nI kh)) (hjf : jf < nf) : Met l yX15_fieldsPlain (.code yX15_fieldsPlain cX15_fieldsPlain 11 none :: tb) ({ frames := 6, cells := 0, slots := 0, locals := 131 }) (va_Pc [.ref h0, .int (nI jf)] (PTEm (dC, dI) cs ty gm L F sz [])) (va_Qv (fun _ : Unit => True) (fun _ T9 => ∃ F2 : Nat → va_E, QTm (dC, dI) cs ty gm L [ρ + 10, ρ + 26] F F2 (va_A (va_pl L F) sz) T9) (va_A (va_pl L F) sz)) 0 0 (va_A (va_pl L F) sz) := by
  refine Met.ofW (cc := cX15_fieldsPlain) (maxL := 11) (ret := none) (by decide) rfl ?_
  intro p e s m args below meth c s₁ B hml hv
  obtain ⟨rfl, ⟨hsz, hP, hK, hD0, hE, hO⟩, hG, hX⟩ := hv
  have hx := B.exec
  have hb := B.bytes
  have hr := B.returns
  have hts : ∀ w ∈ tb, w.before _ s = true := fun w h => atoms_spec (ws := .code yX15_fieldsPlain cX15_fieldsPlain 11 none :: tb) B.pre w (List.mem_cons_of_mem _ h)
  have hown : s.vm.findClass RX15 = some m.cls := findClass_of_methodNamed B.named
  have hlocks := B.notSynchronized
  subst hsz
  have hD := hD0.self (sz := s.heap.size)
  generalize hAe : va_A (va_pl L F) s.heap.size = A at hD hG hX ⊢
  have hA : ∀ q : Nat, s.heap.size ≤ q → A q := fun q h => by rw [← hAe]; exact Or.inr h
  have hS : va_S A s.heap s.heap [] := va_S.rf
  have hR : FR ty [ρ + 10, ρ + 26] F F := FR.refl
  have hl := lv_entry ([.ref h0, .int (nI jf)]) (n := 11) (Nat.le_of_ble_eq_true rfl)
  rw [lg_entry_eq]
  generalize (lg_sl ([.ref h0, .int (nI jf)]) ++ List.replicate (11 - (lg_sl ([.ref h0, .int (nI jf)])).length) Slot.unset).toArray = ls at hl ⊢
  have hl : lv_has ls 11 [(0, .ref h0), (1, .int (nI jf))] := hl
  obtain ⟨hq_22, hq_23, hq_24, hq_25, hq_26, hgO, hgA, hgB, hq_27⟩ := hW.sc hL_h0 hT_h0
  have hoj := hgO jf hjf
  obtain ⟨hi_28, ht_29⟩ := hW.f_se hL_h0 hT_h0
  obtain ⟨_, hi_30, hi_31, hi_32, _, ht_33, ht_34, ht_35, hq_36, hq_37⟩ := hW.tags hi_28 ht_29
  have ht_34 : ty s1 = (25, ρ + 81, [40, 1280]) := ht_34
  have ht_35 : ty s2 = (25, ρ + 82, [40, 1280]) := ht_35
  obtain ⟨hi_38, ht_39, hq_40⟩ := hW.txt hL_sx hT_sx
  obtain ⟨hi_41, ht_42, hq_43⟩ := hW.txt hL_pl hT_pl
  obtain ⟨hi_44, ht_45⟩ := hW.f_tk hL_h0 hT_h0
  refine lv_aload_n hx hb dX15_fieldsPlain_0 rfl (lv_at hl 0 rfl) ?_
  obtain ⟨zo_46, v14_47, v15_48, v17_49, v18_50, v19_51, v20_52, v21_53, v22_54, v33_55, v52_56, v53_57, v54_58, hF_59, hq_60, hq_61, hq_62, hq_63, hq_64⟩ := hO.mod hL_h0 hT_h0
  refine pg_get (ci := 15) (v := .ref pl) (C := RX15) (T := TX15) (N := 59) hx hb hts it_15 hown hK hP hL_h0 hF_59 rfl 34 (by decide) (hts _ kt_901) (fun _ h9 => h9) rfl dX15_fieldsPlain_1 ?_
  refine lv_iconst (v := 0) hx hb dX15_fieldsPlain_4 (by decide) ?_
  obtain ⟨z_65, hF_66, hq_67⟩ := hO.txt hL_pl hT_pl
  refine pg_put (ci := 14) (v := .int 0) (ty := .int) (C := RX14) (T := TX14) (N := 2) hx hb hts it_14 tyX14 tyX14_ok nmX14 hown hK hP hD hS hL_pl hF_66 rfl 1 (by decide) (hts _ kt_709) (fun _ h9 => h9) rfl (by decide +kernel) (rfl) (rfl) (Nat.le_of_ble_eq_true rfl) dX15_fieldsPlain_5 (fun H locs hP hD hS => ?_)
  obtain ⟨F_68, he_69, hP, hD, hO, hR⟩ : ∃ G, G = va_up F pl (.inr (14, [.ref rl, .int 0])) ∧ va_P (dC, dI) vwCl (va_pl L G) H ∧ va_D A (va_pl L G) ∧ OKm cs ty gm L G ∧ FR ty [ρ + 10, ρ + 26] F G := ⟨_, rfl, hP, hD, hO.up (shm.txt hT_pl ⟨0, rfl, (by first | omega | assumption | exact Or.inl rfl | exact Or.inr rfl)⟩), hR.up hT_pl (by simp)⟩
  have hF_70 : F_68 pl = .inr (14, [.ref rl, .int 0]) := by rw [he_69]; exact up_self
  have hF_71 : F_68 sb = .inl (cs 17, 3000, .inl eb) := by rw [he_69, up_ne (ne_ty ht_39 hT_pl (by simp))]; exact hfk0
  have hF_72 : F_68 s0 = .inl (cs 16, 40, .inl e0) := by rw [he_69, up_ne (ne_ty ht_33 hT_pl (by simp))]; exact hfk1
  have hF_73 : F_68 s1 = .inl (cs 16, 40, .inl e1) := by rw [he_69, up_ne (ne_ty ht_34 hT_pl (by simp))]; exact hfk2
  have hF_74 : F_68 s2 = .inl (cs 16, 40, .inl e2) := by rw [he_69, up_ne (ne_ty ht_35 hT_pl (by simp))]; exact hfk3
  have hF_75 : F_68 se = .inr (13, [.ref sx, .ref s0, .ref s1, .ref s2, .int (nI zs)]) := by rw [he_69, up_ne (ne_ty ht_29 hT_pl (by simp))]; exact hfk4
  have hF_76 : F_68 h0 = .inr (15, (.ref ta) :: (.int (nI zt)) :: (.int (nI zo_46)) :: (.int (nI ze)) :: (.ref ou) :: (.ref so) :: (.ref ad) :: (.ref na) :: (.ref va) :: (.ref lc) :: (.ref dm) :: (.int (nI fm)) :: (.int (nI sn)) :: (.ref tg) :: (.int v14_47) :: (.int v15_48) :: (.ref pe) :: (.int v17_49) :: (.int v18_50) :: (.int v19_51) :: (.int v20_52) :: (.int v21_53) :: (.int v22_54) :: (.ref ml) :: (.ref bg) :: (.ref co) :: (.ref sp) :: (.ref nb0) :: (.ref nb1) :: (.ref nb2) :: (.int (nI nf)) :: (.int (nI bd)) :: (.int (nI mm)) :: (.int v33_55) :: (.ref pl) :: (.ref se) :: (.ref ke) :: (.ref wi) :: (.ref hs) :: (.ref mo) :: (.ref po) :: (.ref nu) :: (.ref pr) :: (.ref sq) :: (.ref xa) :: (.ref sa) :: (.ref n64) :: (.ref m64) :: (.ref ex) :: (.ref wh) :: (.ref sd) :: (.ref tk) :: (.int v52_56) :: (.int v53_57) :: (.int v54_58) :: (.ref hd) :: (.ref ak) :: (.ref ho) :: (.ref ot) :: []) := by rw [he_69, up_ne (ne_ty hT_h0 hT_pl (by simp))]; exact hF_59
  refine lv_aload_n hx hb dX15_fieldsPlain_8 rfl (lv_at hl 0 rfl) ?_
  refine pg_get (ci := 15) (v := .ref tk) (C := RX15) (T := TX15) (N := 59) hx hb hts it_15 hown hK hP hL_h0 hF_76 rfl 51 (by decide) (hts _ kt_943) (fun _ h9 => h9) rfl dX15_fieldsPlain_9 ?_
  refine lv_iconst (v := 0) hx hb dX15_fieldsPlain_12 (by decide) ?_
  have hFc := pg_free hD hS hA
  refine va_callv (va_runS (As := [.ref tk, .int 0]) (rest := []) ⟨hx, hb, hml, hown, hts⟩ (m_J7_fill_49daa l dC dI cs ty gm L H.size F_68 tk (ρ + 26) 20 hW hi_44 ht_45 (by first | omega | assumption | exact Or.inl rfl)) ⟨callB_of 2 hts (gi kt_944) rfl rfl rfl (hts _ kt_808) (hts _ kt_945) (by decide +kernel) ⟨Nat.le_of_ble_eq_true rfl, Nat.le_of_ble_eq_true rfl⟩, (hts _ kt_946)⟩ ⟨fun a U g mk q => ⟨q.1, PTm.calling q.2⟩, fun U hU hWm => ⟨rfl, PTm.mk hU hWm hP hK hD hE hO⟩⟩ rfl rfl hl.1 rfl (lv_room (Nat.le_of_ble_eq_true rfl)) dX15_fieldsPlain_13 ⟨by show _ + 0 ≤ 0; omega, by show _ + 0 ≤ 0; omega⟩) hS (fun q _ h => hFc q h) hFc (fun u t H1 locs ht hvm hw hB hz1 hk1 hS => ?_)
  obtain ⟨F_78, f2_79, hB1, hq_80, hq_81⟩ := hB
  obtain ⟨hP, hD, hO, hR⟩ := QTm.back hB1 ht hFc hR (fun q h => by simp only [List.mem_cons, List.not_mem_nil, or_false] at h ⊢; omega)
  have hF_82 : F_78 pl = .inr (14, [.ref rl, .int 0]) := (hB1.2.2.2 pl (by rw [hT_pl]; simp)).trans hF_70
  have hF_83 : F_78 sb = .inl (cs 17, 3000, .inl eb) := (hB1.2.2.2 sb (by rw [ht_39]; simp)).trans hF_71
  have hF_84 : F_78 s0 = .inl (cs 16, 40, .inl e0) := (hB1.2.2.2 s0 (by rw [ht_33]; simp)).trans hF_72
  have hF_85 : F_78 s1 = .inl (cs 16, 40, .inl e1) := (hB1.2.2.2 s1 (by rw [ht_34]; simp)).trans hF_73
  have hF_86 : F_78 s2 = .inl (cs 16, 40, .inl e2) := (hB1.2.2.2 s2 (by rw [ht_35]; simp)).trans hF_74
  have hF_87 : F_78 se = .inr (13, [.ref sx, .ref s0, .ref s1, .ref s2, .int (nI zs)]) := (hB1.2.2.2 se (by rw [ht_29]; simp)).trans hF_75
  have hF_88 : F_78 h0 = .inr (15, (.ref ta) :: (.int (nI zt)) :: (.int (nI zo_46)) :: (.int (nI ze)) :: (.ref ou) :: (.ref so) :: (.ref ad) :: (.ref na) :: (.ref va) :: (.ref lc) :: (.ref dm) :: (.int (nI fm)) :: (.int (nI sn)) :: (.ref tg) :: (.int v14_47) :: (.int v15_48) :: (.ref pe) :: (.int v17_49) :: (.int v18_50) :: (.int v19_51) :: (.int v20_52) :: (.int v21_53) :: (.int v22_54) :: (.ref ml) :: (.ref bg) :: (.ref co) :: (.ref sp) :: (.ref nb0) :: (.ref nb1) :: (.ref nb2) :: (.int (nI nf)) :: (.int (nI bd)) :: (.int (nI mm)) :: (.int v33_55) :: (.ref pl) :: (.ref se) :: (.ref ke) :: (.ref wi) :: (.ref hs) :: (.ref mo) :: (.ref po) :: (.ref nu) :: (.ref pr) :: (.ref sq) :: (.ref xa) :: (.ref sa) :: (.ref n64) :: (.ref m64) :: (.ref ex) :: (.ref wh) :: (.ref sd) :: (.ref tk) :: (.int v52_56) :: (.int v53_57) :: (.int v54_58) :: (.ref hd) :: (.ref ak) :: (.ref ho) :: (.ref ot) :: []) := (hB1.2.2.2 h0 (by rw [hT_h0]; simp)).trans hF_76
  generalize H1 = H at hP hS ⊢
  refine lv_aload_n hx hb dX15_fieldsPlain_16 rfl (lv_at hl 0 rfl) ?_
  refine pg_get (ci := 15) (v := .ref se) (C := RX15) (T := TX15) (N := 59) hx hb hts it_15 hown hK hP hL_h0 hF_88 rfl 35 (by decide) (hts _ kt_847) (fun _ h9 => h9) rfl dX15_fieldsPlain_17 ?_
  obtain ⟨q_89, v_90, hr_q_89, hX_q_89⟩ := hG.2.2 ("PostGateModel", 486, "h", [104]) (by decide +kernel)
  have hX_q_89 : SXc q_89 v_90 1 (cct [104]) A s s.heap := hX_q_89
  obtain ⟨xo_q_89, xc_q_89, xv_q_89, xt_q_89, xn_q_89⟩ := id hX_q_89
  have hr_q_89 : vk_R "PostGateModel" 486 "h" q_89 s := hr_q_89
  refine va_ldcwS hx hb hown hr_q_89 dX15_fieldsPlain_20 ?_
  have hFc := pg_free hD hS hA
  refine va_calli (va_runV (As := [.ref q_89]) (rest := []) ⟨hx, hb, hml, hown, hts⟩ (s_X13_find l dC dI cs ty gm L H.size F_78 se (ρ + 11) sx 3000 1280 s0 s1 s2 sb zs q_89 v_90 1 (cct [104]) hW hi_28 ht_29 hL_sx hT_sx hF_87 (by first | omega | assumption | exact Or.inl rfl)) ⟨callB_of 1 hts (gi kt_828) rfl rfl rfl (hts _ kt_829) (hts _ kt_839) (by decide +kernel) ⟨Nat.le_of_ble_eq_true rfl, Nat.le_of_ble_eq_true rfl⟩, (hts _ kt_831), (hts _ kt_832)⟩ ⟨fun a U g mk q => ⟨q.1, PTEm.calling q.2⟩, pg_recv hK hP hi_28 hF_87 (q := (RX13, TX13, 5)) rfl, fun U hU hWm => ⟨rfl, PTEm.mk hU hWm hP hK hD hE hO hG (fun x hx => by rw [List.mem_singleton] at hx; subst hx; exact hX_q_89) hS hFc⟩⟩ rfl rfl hl.1 rfl (lv_room (Nat.le_of_ble_eq_true rfl)) dX15_fieldsPlain_23 ⟨by show _ + 0 ≤ 0; omega, by show _ + 0 ≤ 0; omega⟩) hS (fun q _ h => hFc q h) hFc (fun r_91 u t H1 locs ht hvm hw hB hz1 hk1 hS => ?_)
  obtain ⟨F_92, hB1⟩ := hB
  obtain rfl : F_78 = F_92 := (funext (fun a => hB1.2.2.2 a List.not_mem_nil)).symm
  obtain ⟨hP, hD, hO, hR⟩ := QTm.back hB1 ht hFc hR (fun q h => absurd h List.not_mem_nil)
  generalize H1 = H at hP hS ⊢
  have hw : FND (gA (F_78 sb)) (gA (F_78 s0)) (gA (F_78 s1)) zs (cct [104]) 1 r_91 := hw
  have hw_93 := hw
  have hfr : FND eb e0 e1 zs (cct [104]) 1 r_91 := by have h9 := hw_93; rw [gA_fun hF_83, gA_fun hF_84, gA_fun hF_85] at h9; exact h9
  obtain rfl := FND.uniq hfr hfn
  refine lv_istore_n (lv' := [(2, .int (nI kh)), (0, .ref h0), (1, .int (nI jf))]) hx hb dX15_fieldsPlain_26 rfl hl (by decide) rfl (fun ls hl => ?_)
  refine lv_aload_n hx hb dX15_fieldsPlain_27 rfl (lv_at hl 1 rfl) ?_
  refine pg_get (ci := 15) (v := .ref se) (C := RX15) (T := TX15) (N := 59) hx hb hts it_15 hown hK hP hL_h0 hF_88 rfl 35 (by decide) (hts _ kt_847) (fun _ h9 => h9) rfl dX15_fieldsPlain_28 ?_
  refine pg_get (ci := 13) (v := .ref sx) (C := RX13) (T := TX13) (N := 5) hx hb hts it_13 hown hK hP hi_28 hF_87 rfl 0 (by decide) (hts _ kt_842) (fun _ h9 => h9) rfl dX15_fieldsPlain_31 ?_
  obtain ⟨z_94, hF_95, hq_96⟩ := hO.txt hL_sx hT_sx
  refine pg_get (ci := 14) (v := .ref sb) (C := RX14) (T := TX14) (N := 2) hx hb hts it_14 hown hK hP hL_sx hF_95 rfl 0 (by decide) (hts _ kt_710) (fun _ h9 => h9) rfl dX15_fieldsPlain_34 ?_
  refine lv_astore_n (lv' := [(3, .ref sb), (2, .int (nI kh)), (0, .ref h0), (1, .int (nI jf))]) hx hb dX15_fieldsPlain_37 rfl hl (by decide) rfl (fun ls hl => ?_)
  refine lv_aload_n hx hb dX15_fieldsPlain_38 rfl (lv_at hl 2 rfl) ?_
  refine pg_get (ci := 15) (v := .ref se) (C := RX15) (T := TX15) (N := 59) hx hb hts it_15 hown hK hP hL_h0 hF_88 rfl 35 (by decide) (hts _ kt_847) (fun _ h9 => h9) rfl dX15_fieldsPlain_39 ?_
  refine pg_get (ci := 13) (v := .ref s1) (C := RX13) (T := TX13) (N := 5) hx hb hts it_13 hown hK hP hi_28 hF_87 rfl 2 (by decide) (hts _ kt_840) (fun _ h9 => h9) rfl dX15_fieldsPlain_42 ?_
  refine lv_iload_n hx hb dX15_fieldsPlain_45 rfl (lv_at hl 1 rfl) ?_
  refine pg_iald hx hb hK hP hi_31 0 hF_85 rfl (vp_in_nI (by omega) (by omega)) dX15_fieldsPlain_46 ?_
  have hq_97 := ixb_of hF_85 (hO.idb hi_31 ht_34)
  obtain ⟨k_98, hk_99, ek_100⟩ := hq_97 ((nI kh) : Int32).toNatClampNeg
  refine lv_topi (fun x_101 ex_101 => ?_)
  obtain rfl : x_101 = nI k_98 := ex_101.trans ek_100
  refine lv_iconst (v := 1) hx hb dX15_fieldsPlain_47 (by decide) ?_
  refine lv_iadd hx hb dX15_fieldsPlain_48 ?_
  refine lv_topi (fun x_102 ex_102 => ?_)
  obtain rfl : x_102 = (nI (k_98 + 1)) := ex_102.trans (nI_add k_98 1)
  refine lv_istore (lv' := [(4, .int (nI (k_98 + 1))), (3, .ref sb), (2, .int (nI kh)), (0, .ref h0), (1, .int (nI jf))]) hx hb dX15_fieldsPlain_49 hl (by decide) rfl (fun ls hl => ?_)
  refine W.widen (k := 0) (n := 0) (by omega) (by omega) ?_
  have hF_104 : F sb = .inl (cs 17, 3000, .inl eb) := (hR sb (by rw [ht_39]; simp)).symm.trans hF_83
  have hF_105 : F s0 = .inl (cs 16, 40, .inl e0) := (hR s0 (by rw [ht_33]; simp)).symm.trans hF_84
  have hF_106 : F s1 = .inl (cs 16, 40, .inl e1) := (hR s1 (by rw [ht_34]; simp)).symm.trans hF_85
  have hF_107 : F s2 = .inl (cs 16, 40, .inl e2) := (hR s2 (by rw [ht_35]; simp)).symm.trans hF_86
  have hF_108 : F se = .inr (13, [.ref sx, .ref s0, .ref s1, .ref s2, .int (nI zs)]) := (hR se (by rw [ht_29]; simp)).symm.trans hF_87
  have hF_109 : F h0 = .inr (15, (.ref ta) :: (.int (nI zt)) :: (.int (nI zo_46)) :: (.int (nI ze)) :: (.ref ou) :: (.ref so) :: (.ref ad) :: (.ref na) :: (.ref va) :: (.ref lc) :: (.ref dm) :: (.int (nI fm)) :: (.int (nI sn)) :: (.ref tg) :: (.int v14_47) :: (.int v15_48) :: (.ref pe) :: (.int v17_49) :: (.int v18_50) :: (.int v19_51) :: (.int v20_52) :: (.int v21_53) :: (.int v22_54) :: (.ref ml) :: (.ref bg) :: (.ref co) :: (.ref sp) :: (.ref nb0) :: (.ref nb1) :: (.ref nb2) :: (.int (nI nf)) :: (.int (nI bd)) :: (.int (nI mm)) :: (.int v33_55) :: (.ref pl) :: (.ref se) :: (.ref ke) :: (.ref wi) :: (.ref hs) :: (.ref mo) :: (.ref po) :: (.ref nu) :: (.ref pr) :: (.ref sq) :: (.ref xa) :: (.ref sa) :: (.ref n64) :: (.ref m64) :: (.ref ex) :: (.ref wh) :: (.ref sd) :: (.ref tk) :: (.int v52_56) :: (.int v53_57) :: (.int v54_58) :: (.ref hd) :: (.ref ak) :: (.ref ho) :: (.ref ot) :: []) := (hR h0 (by rw [hT_h0]; simp)).symm.trans hF_88
  have hF_110 : F sx = .inr (14, [.ref sb, .int (nI z_94)]) := (hR sx (by rw [hT_sx]; simp)).symm.trans hF_95
  refine pl_loopm (σ := Nat × Nat × (Nat → Int32)) A (dC, dI) cs ty gm L [ρ + 10, ρ + 26] F 51 11 (fun (j, zz, ft) => [(4, .int (nI j)), (3, .ref sb), (2, .int (nI kh)), (0, .ref h0), (1, .int (nI jf))]) (fun (j, zz, ft) => []) (fun (j, zz, ft) FF => j ≤ 1282 ∧ zz ≤ tsum gm ft nf ∧ FF pl = .inr (14, [.ref rl, .int (nI zz)]) ∧ FF tk = .inl (cs 18, 20, .inl ft)) (fun (j, zz, ft) => 1282 - j) ?_ ((k_98 + 1), 0, f2_79) F_78 (⟨by omega, by omega, hF_82, hq_80⟩) hO hR _ _ hP hD hS ls (lv_sub hl [0, 1, 2, 3, 4] rfl)
  rintro ⟨j, zz, ft⟩ F_103 hv_111 hO hR ih_112 H locs hP hD hS ls hl
  have hl : lv_has ls 11 [(4, .int (nI j)), (3, .ref sb), (2, .int (nI kh)), (0, .ref h0), (1, .int (nI jf))] := hl
  have hv_111 : j ≤ 1282 ∧ zz ≤ tsum gm ft nf ∧ F_103 pl = .inr (14, [.ref rl, .int (nI zz)]) ∧ F_103 tk = .inl (cs 18, 20, .inl ft) := hv_111
  refine W.eq (g2 := F0 m 51 ls []) rfl ?_
  have hF_113 : F_103 sb = .inl (cs 17, 3000, .inl eb) := (hR sb (by rw [ht_39]; simp)).trans hF_104
  have hF_114 : F_103 s0 = .inl (cs 16, 40, .inl e0) := (hR s0 (by rw [ht_33]; simp)).trans hF_105
  have hF_115 : F_103 s1 = .inl (cs 16, 40, .inl e1) := (hR s1 (by rw [ht_34]; simp)).trans hF_106
  have hF_116 : F_103 s2 = .inl (cs 16, 40, .inl e2) := (hR s2 (by rw [ht_35]; simp)).trans hF_107
  have hF_117 : F_103 se = .inr (13, [.ref sx, .ref s0, .ref s1, .ref s2, .int (nI zs)]) := (hR se (by rw [ht_29]; simp)).trans hF_108
  have hF_118 : F_103 h0 = .inr (15, (.ref ta) :: (.int (nI zt)) :: (.int (nI zo_46)) :: (.int (nI ze)) :: (.ref ou) :: (.ref so) :: (.ref ad) :: (.ref na) :: (.ref va) :: (.ref lc) :: (.ref dm) :: (.int (nI fm)) :: (.int (nI sn)) :: (.ref tg) :: (.int v14_47) :: (.int v15_48) :: (.ref pe) :: (.int v17_49) :: (.int v18_50) :: (.int v19_51) :: (.int v20_52) :: (.int v21_53) :: (.int v22_54) :: (.ref ml) :: (.ref bg) :: (.ref co) :: (.ref sp) :: (.ref nb0) :: (.ref nb1) :: (.ref nb2) :: (.int (nI nf)) :: (.int (nI bd)) :: (.int (nI mm)) :: (.int v33_55) :: (.ref pl) :: (.ref se) :: (.ref ke) :: (.ref wi) :: (.ref hs) :: (.ref mo) :: (.ref po) :: (.ref nu) :: (.ref pr) :: (.ref sq) :: (.ref xa) :: (.ref sa) :: (.ref n64) :: (.ref m64) :: (.ref ex) :: (.ref wh) :: (.ref sd) :: (.ref tk) :: (.int v52_56) :: (.int v53_57) :: (.int v54_58) :: (.ref hd) :: (.ref ak) :: (.ref ho) :: (.ref ot) :: []) := (hR h0 (by rw [hT_h0]; simp)).trans hF_109
  have hF_119 : F_103 sx = .inr (14, [.ref sb, .int (nI z_94)]) := (hR sx (by rw [hT_sx]; simp)).trans hF_110
  obtain ⟨hp1, hp2, hp3, hp4⟩ := hv_111
  have htl := (tsum_le (ft := ft) hgO hgA (Nat.le_refl nf)).1
  refine lv_iload hx hb dX15_fieldsPlain_51 (lv_at hl 0 rfl) ?_
  refine lv_aload_n hx hb dX15_fieldsPlain_53 rfl (lv_at hl 3 rfl) ?_
  refine pg_get (ci := 15) (v := .ref se) (C := RX15) (T := TX15) (N := 59) hx hb hts it_15 hown hK hP hL_h0 hF_118 rfl 35 (by decide) (hts _ kt_847) (fun _ h9 => h9) rfl dX15_fieldsPlain_54 ?_
  refine pg_get (ci := 13) (v := .ref s2) (C := RX13) (T := TX13) (N := 5) hx hb hts it_13 hown hK hP hi_28 hF_117 rfl 3 (by decide) (hts _ kt_841) (fun _ h9 => h9) rfl dX15_fieldsPlain_57 ?_
  refine lv_iload_n hx hb dX15_fieldsPlain_60 rfl (lv_at hl 2 rfl) ?_
  refine pg_iald hx hb hK hP hi_32 0 hF_116 rfl (vp_in_nI (by omega) (by omega)) dX15_fieldsPlain_61 ?_
  have hq_120 := ixb_of hF_116 (hO.idb hi_32 ht_35)
  obtain ⟨k_121, hk_122, ek_123⟩ := hq_120 ((nI kh) : Int32).toNatClampNeg
  refine lv_topi (fun x_124 ex_124 => ?_)
  obtain rfl : x_124 = nI k_121 := ex_124.trans ek_123
  refine lv_icmp_gt (tgt := 184) hx hb dX15_fieldsPlain_62 (by decide) (fun c_125 => ?_) (fun c_125 => ?_)
  ·
    have hi_126 : k_121 < j := (nI_ltI (a := k_121) (b := j) (by omega) (by omega)).mp c_125
    refine lv_aload_n hx hb dX15_fieldsPlain_184 rfl (lv_at hl 3 rfl) ?_
    refine pg_get (ci := 15) (v := .ref co) (C := RX15) (T := TX15) (N := 59) hx hb hts it_15 hown hK hP hL_h0 hF_118 rfl 25 (by decide) (hts _ kt_889) (fun _ h9 => h9) rfl dX15_fieldsPlain_185 ?_
    refine lv_iload_n hx hb dX15_fieldsPlain_188 rfl (lv_at hl 4 rfl) ?_
    obtain ⟨hi_127, ht_128⟩ := hW.f_co hL_h0 hT_h0
    obtain ⟨f_129, hF_130, hq_131⟩ := hO.pos hi_127 ht_128
    refine pg_iald hx hb hK hP hi_127 0 hF_130 rfl (vp_in_nI (by omega) (by omega)) dX15_fieldsPlain_189 ?_
    refine lv_topi (fun x_132 ex_132 => ?_)
    obtain rfl : x_132 = (nI (gm 1 jf)) := ex_132.trans (by rw [show ((nI jf) : Int32) = nI jf from rfl, nI_clamp (by omega)]; exact hq_131 jf (by omega))
    have hgbx_132 := hgB 1 jf
    refine lv_iconst (v := 1) hx hb dX15_fieldsPlain_190 (by decide) ?_
    refine lv_iadd hx hb dX15_fieldsPlain_191 ?_
    refine lv_topi (fun x_133 ex_133 => ?_)
    obtain rfl : x_133 = (nI ((gm 1 jf) + 1)) := ex_133.trans (nI_add (gm 1 jf) 1)
    refine lv_istore (lv' := [(4, .int (nI ((gm 1 jf) + 1))), (3, .ref sb), (2, .int (nI kh)), (0, .ref h0), (1, .int (nI jf))]) hx hb dX15_fieldsPlain_192 hl (by decide) rfl (fun ls hl => ?_)
    refine lv_iconst (v := 0) hx hb dX15_fieldsPlain_194 (by decide) ?_
    refine lv_istore (lv' := [(5, .int 0), (4, .int (nI ((gm 1 jf) + 1))), (3, .ref sb), (2, .int (nI kh)), (0, .ref h0), (1, .int (nI jf))]) hx hb dX15_fieldsPlain_195 hl (by decide) rfl (fun ls hl => ?_)
    refine lv_iconst (v := 0) hx hb dX15_fieldsPlain_197 (by decide) ?_
    refine lv_istore (lv' := [(6, .int 0), (5, .int 0), (4, .int (nI ((gm 1 jf) + 1))), (3, .ref sb), (2, .int (nI kh)), (0, .ref h0), (1, .int (nI jf))]) hx hb dX15_fieldsPlain_198 hl (by decide) rfl (fun ls hl => ?_)
    refine lv_aload_n hx hb dX15_fieldsPlain_200 rfl (lv_at hl 5 rfl) ?_
    refine lv_iload_n hx hb dX15_fieldsPlain_201 rfl (lv_at hl 6 rfl) ?_
    have hFc := pg_free hD hS hA
    refine va_calli (va_runV (As := [.int (nI jf)]) (rest := []) ⟨hx, hb, hml, hown, hts⟩ (s_X15_valueEnd l dC dI cs ty gm L H.size F_103 h0 ρ ta ou so ad na va lc dm tg pe ml bg co sp nb0 nb1 nb2 pl se ke wi hs mo po nu pr sq xa sa n64 m64 ex wh sd tk hd ak ho ot sx s0 s1 s2 nf bd mm fm sn hg gc gv ze zt jf hW hL_h0 hT_h0 (by first | omega | assumption | exact Or.inl rfl)) ⟨callB_of 1 hts (gi kt_897) rfl rfl rfl (hts _ kt_669) (hts _ kt_898) (by decide +kernel) ⟨Nat.le_of_ble_eq_true rfl, Nat.le_of_ble_eq_true rfl⟩, (hts _ kt_899), (hts _ kt_900)⟩ ⟨fun a U g mk q => ⟨q.1, PTm.calling q.2⟩, pg_recv hK hP hL_h0 hF_118 (q := (RX15, TX15, 59)) rfl, fun U hU hWm => ⟨rfl, PTm.mk hU hWm hP hK hD hE hO⟩⟩ rfl rfl hl.1 rfl (lv_room (Nat.le_of_ble_eq_true rfl)) dX15_fieldsPlain_202 ⟨by show _ + 0 ≤ 0; omega, by show _ + 0 ≤ 0; omega⟩) hS (fun q _ h => hFc q h) hFc (fun r_134 u t H1 locs ht hvm hw hB hz1 hk1 hS => ?_)
    obtain ⟨F_135, hB1⟩ := hB
    obtain rfl : F_103 = F_135 := (funext (fun a => hB1.2.2.2 a List.not_mem_nil)).symm
    obtain ⟨hP, hD, hO, hR⟩ := QTm.back hB1 ht hFc hR (fun q h => absurd h List.not_mem_nil)
    generalize H1 = H at hP hS ⊢
    have hw : (∃ k : Nat, gm 1 jf ≤ k ∧ k ≤ gm 2 jf ∧ r_134 = nI k) := hw
    have hw_136 := hw
    obtain ⟨kv, hkv1, hkv2, ekv⟩ := hw_136
    subst ekv
    refine lv_istore (lv' := [(7, .int (nI kv)), (6, .int 0), (5, .int 0), (4, .int (nI ((gm 1 jf) + 1))), (3, .ref sb), (2, .int (nI kh)), (0, .ref h0), (1, .int (nI jf))]) hx hb dX15_fieldsPlain_205 hl (by decide) rfl (fun ls hl => ?_)
    refine W.widen (k := 0) (n := 0) (by omega) (by omega) ?_
    have hF_138 : F sb = .inl (cs 17, 3000, .inl eb) := (hR sb (by rw [ht_39]; simp)).symm.trans hF_113
    have hF_139 : F s0 = .inl (cs 16, 40, .inl e0) := (hR s0 (by rw [ht_33]; simp)).symm.trans hF_114
    have hF_140 : F s1 = .inl (cs 16, 40, .inl e1) := (hR s1 (by rw [ht_34]; simp)).symm.trans hF_115
    have hF_141 : F s2 = .inl (cs 16, 40, .inl e2) := (hR s2 (by rw [ht_35]; simp)).symm.trans hF_116
    have hF_142 : F se = .inr (13, [.ref sx, .ref s0, .ref s1, .ref s2, .int (nI zs)]) := (hR se (by rw [ht_29]; simp)).symm.trans hF_117
    have hF_143 : F h0 = .inr (15, (.ref ta) :: (.int (nI zt)) :: (.int (nI zo_46)) :: (.int (nI ze)) :: (.ref ou) :: (.ref so) :: (.ref ad) :: (.ref na) :: (.ref va) :: (.ref lc) :: (.ref dm) :: (.int (nI fm)) :: (.int (nI sn)) :: (.ref tg) :: (.int v14_47) :: (.int v15_48) :: (.ref pe) :: (.int v17_49) :: (.int v18_50) :: (.int v19_51) :: (.int v20_52) :: (.int v21_53) :: (.int v22_54) :: (.ref ml) :: (.ref bg) :: (.ref co) :: (.ref sp) :: (.ref nb0) :: (.ref nb1) :: (.ref nb2) :: (.int (nI nf)) :: (.int (nI bd)) :: (.int (nI mm)) :: (.int v33_55) :: (.ref pl) :: (.ref se) :: (.ref ke) :: (.ref wi) :: (.ref hs) :: (.ref mo) :: (.ref po) :: (.ref nu) :: (.ref pr) :: (.ref sq) :: (.ref xa) :: (.ref sa) :: (.ref n64) :: (.ref m64) :: (.ref ex) :: (.ref wh) :: (.ref sd) :: (.ref tk) :: (.int v52_56) :: (.int v53_57) :: (.int v54_58) :: (.ref hd) :: (.ref ak) :: (.ref ho) :: (.ref ot) :: []) := (hR h0 (by rw [hT_h0]; simp)).symm.trans hF_118
    have hF_144 : F sx = .inr (14, [.ref sb, .int (nI z_94)]) := (hR sx (by rw [hT_sx]; simp)).symm.trans hF_119
    have hF_145 : F co = .inl (cs 16, 21, .inl f_129) := (hR co (by rw [ht_128]; simp)).symm.trans hF_130
    refine pl_loopm (σ := Nat × Int32 × Int32) A (dC, dI) cs ty gm L [ρ + 10, ρ + 26] F 207 11 (fun (j2, w5, w6) => [(7, .int (nI kv)), (6, .int w6), (5, .int w5), (4, .int (nI j2)), (0, .ref h0), (1, .int (nI jf))]) (fun (j2, w5, w6) => []) (fun (j2, w5, w6) FF => j2 ≤ 1282 ∧ FF pl = .inr (14, [.ref rl, .int (nI zz)])) (fun (j2, w5, w6) => 1282 - j2) ?_ (((gm 1 jf) + 1), 0, 0) F_103 (⟨by omega, hp3⟩) hO hR _ _ hP hD hS ls (lv_sub hl [0, 1, 2, 3, 6, 7] rfl)
    rintro ⟨j2, w5, w6⟩ F_137 hv_146 hO hR ih_147 H locs hP hD hS ls hl
    have hl : lv_has ls 11 [(7, .int (nI kv)), (6, .int w6), (5, .int w5), (4, .int (nI j2)), (0, .ref h0), (1, .int (nI jf))] := hl
    have hv_146 : j2 ≤ 1282 ∧ F_137 pl = .inr (14, [.ref rl, .int (nI zz)]) := hv_146
    refine W.eq (g2 := F0 m 207 ls []) rfl ?_
    have hF_148 : F_137 sb = .inl (cs 17, 3000, .inl eb) := (hR sb (by rw [ht_39]; simp)).trans hF_138
    have hF_149 : F_137 s0 = .inl (cs 16, 40, .inl e0) := (hR s0 (by rw [ht_33]; simp)).trans hF_139
    have hF_150 : F_137 s1 = .inl (cs 16, 40, .inl e1) := (hR s1 (by rw [ht_34]; simp)).trans hF_140
    have hF_151 : F_137 s2 = .inl (cs 16, 40, .inl e2) := (hR s2 (by rw [ht_35]; simp)).trans hF_141
    have hF_152 : F_137 se = .inr (13, [.ref sx, .ref s0, .ref s1, .ref s2, .int (nI zs)]) := (hR se (by rw [ht_29]; simp)).trans hF_142
    have hF_153 : F_137 h0 = .inr (15, (.ref ta) :: (.int (nI zt)) :: (.int (nI zo_46)) :: (.int (nI ze)) :: (.ref ou) :: (.ref so) :: (.ref ad) :: (.ref na) :: (.ref va) :: (.ref lc) :: (.ref dm) :: (.int (nI fm)) :: (.int (nI sn)) :: (.ref tg) :: (.int v14_47) :: (.int v15_48) :: (.ref pe) :: (.int v17_49) :: (.int v18_50) :: (.int v19_51) :: (.int v20_52) :: (.int v21_53) :: (.int v22_54) :: (.ref ml) :: (.ref bg) :: (.ref co) :: (.ref sp) :: (.ref nb0) :: (.ref nb1) :: (.ref nb2) :: (.int (nI nf)) :: (.int (nI bd)) :: (.int (nI mm)) :: (.int v33_55) :: (.ref pl) :: (.ref se) :: (.ref ke) :: (.ref wi) :: (.ref hs) :: (.ref mo) :: (.ref po) :: (.ref nu) :: (.ref pr) :: (.ref sq) :: (.ref xa) :: (.ref sa) :: (.ref n64) :: (.ref m64) :: (.ref ex) :: (.ref wh) :: (.ref sd) :: (.ref tk) :: (.int v52_56) :: (.int v53_57) :: (.int v54_58) :: (.ref hd) :: (.ref ak) :: (.ref ho) :: (.ref ot) :: []) := (hR h0 (by rw [hT_h0]; simp)).trans hF_143
    have hF_154 : F_137 sx = .inr (14, [.ref sb, .int (nI z_94)]) := (hR sx (by rw [hT_sx]; simp)).trans hF_144
    have hF_155 : F_137 co = .inl (cs 16, 21, .inl f_129) := (hR co (by rw [ht_128]; simp)).trans hF_145
    obtain ⟨hx1a, hx1b⟩ := hv_146
    refine lv_iload hx hb dX15_fieldsPlain_207 (lv_at hl 3 rfl) ?_
    refine lv_iload hx hb dX15_fieldsPlain_209 (lv_at hl 0 rfl) ?_
    refine lv_icmp_ge (tgt := 342) hx hb dX15_fieldsPlain_211 (by decide) (fun c_156 => ?_) (fun c_156 => ?_)
    ·
      have hi_157 : kv ≤ j2 := leN (N := kv) c_156
      refine lv_aload_n hx hb dX15_fieldsPlain_342 rfl (lv_at hl 4 rfl) ?_
      refine lv_iload_n hx hb dX15_fieldsPlain_343 rfl (lv_at hl 5 rfl) ?_
      refine lv_aload_n hx hb dX15_fieldsPlain_344 rfl (lv_at hl 4 rfl) ?_
      refine pg_get (ci := 15) (v := .int v52_56) (C := RX15) (T := TX15) (N := 59) hx hb hts it_15 hown hK hP hL_h0 hF_153 rfl 52 (by decide) (hts _ kt_857) (fun _ h9 => h9) rfl dX15_fieldsPlain_345 ?_
      refine lv_iload hx hb dX15_fieldsPlain_348 (lv_at hl 2 rfl) ?_
      refine lv_iload hx hb dX15_fieldsPlain_350 (lv_at hl 1 rfl) ?_
      have hFc := pg_free hD hS hA
      refine va_callv (va_runV (As := [.int (nI jf), .int v52_56, .int w5, .int w6]) (rest := []) ⟨hx, hb, hml, hown, hts⟩ (s_X15_fieldPlain l dC dI cs ty gm L H.size F_137 h0 ρ ta ou so ad na va lc dm tg pe ml bg co sp nb0 nb1 nb2 pl se ke wi hs mo po nu pr sq xa sa n64 m64 ex wh sd tk hd ak ho ot sx s0 s1 s2 nf bd mm fm sn hg gc gv ze zt rl jf zz v52_56 w5 w6 hW hL_h0 hT_h0 hL_pl hT_pl (by first | omega | assumption | exact Or.inl rfl) hx1b (by first | omega | assumption | exact Or.inl rfl)) ⟨callB_of 4 hts (gi kt_918) rfl rfl rfl (hts _ kt_669) (hts _ kt_919) (by decide +kernel) ⟨Nat.le_of_ble_eq_true rfl, Nat.le_of_ble_eq_true rfl⟩, (hts _ kt_920), (hts _ kt_921)⟩ ⟨fun a U g mk q => ⟨q.1, PTm.calling q.2⟩, pg_recv hK hP hL_h0 hF_153 (q := (RX15, TX15, 59)) rfl, fun U hU hWm => ⟨rfl, PTm.mk hU hWm hP hK hD hE hO⟩⟩ rfl rfl hl.1 rfl (lv_room (Nat.le_of_ble_eq_true rfl)) dX15_fieldsPlain_352 ⟨by show _ + 0 ≤ 0; omega, by show _ + 0 ≤ 0; omega⟩) hS (fun q _ h => hFc q h) hFc (fun u t H1 locs ht hvm hw hB hz1 hk1 hS => ?_)
      obtain ⟨F_159, z2_160, hB1, hq_161, hq_162⟩ := hB
      obtain ⟨hP, hD, hO, hR⟩ := QTm.back hB1 ht hFc hR (fun q h => by simp only [List.mem_cons, List.not_mem_nil, or_false] at h ⊢; omega)
      have hF_163 : F_159 sb = .inl (cs 17, 3000, .inl eb) := (hB1.2.2.2 sb (by rw [ht_39]; simp)).trans hF_148
      have hF_164 : F_159 s0 = .inl (cs 16, 40, .inl e0) := (hB1.2.2.2 s0 (by rw [ht_33]; simp)).trans hF_149
      have hF_165 : F_159 s1 = .inl (cs 16, 40, .inl e1) := (hB1.2.2.2 s1 (by rw [ht_34]; simp)).trans hF_150
      have hF_166 : F_159 s2 = .inl (cs 16, 40, .inl e2) := (hB1.2.2.2 s2 (by rw [ht_35]; simp)).trans hF_151
      have hF_167 : F_159 se = .inr (13, [.ref sx, .ref s0, .ref s1, .ref s2, .int (nI zs)]) := (hB1.2.2.2 se (by rw [ht_29]; simp)).trans hF_152
      have hF_168 : F_159 h0 = .inr (15, (.ref ta) :: (.int (nI zt)) :: (.int (nI zo_46)) :: (.int (nI ze)) :: (.ref ou) :: (.ref so) :: (.ref ad) :: (.ref na) :: (.ref va) :: (.ref lc) :: (.ref dm) :: (.int (nI fm)) :: (.int (nI sn)) :: (.ref tg) :: (.int v14_47) :: (.int v15_48) :: (.ref pe) :: (.int v17_49) :: (.int v18_50) :: (.int v19_51) :: (.int v20_52) :: (.int v21_53) :: (.int v22_54) :: (.ref ml) :: (.ref bg) :: (.ref co) :: (.ref sp) :: (.ref nb0) :: (.ref nb1) :: (.ref nb2) :: (.int (nI nf)) :: (.int (nI bd)) :: (.int (nI mm)) :: (.int v33_55) :: (.ref pl) :: (.ref se) :: (.ref ke) :: (.ref wi) :: (.ref hs) :: (.ref mo) :: (.ref po) :: (.ref nu) :: (.ref pr) :: (.ref sq) :: (.ref xa) :: (.ref sa) :: (.ref n64) :: (.ref m64) :: (.ref ex) :: (.ref wh) :: (.ref sd) :: (.ref tk) :: (.int v52_56) :: (.int v53_57) :: (.int v54_58) :: (.ref hd) :: (.ref ak) :: (.ref ho) :: (.ref ot) :: []) := (hB1.2.2.2 h0 (by rw [hT_h0]; simp)).trans hF_153
      have hF_169 : F_159 sx = .inr (14, [.ref sb, .int (nI z_94)]) := (hB1.2.2.2 sx (by rw [hT_sx]; simp)).trans hF_154
      have hF_170 : F_159 co = .inl (cs 16, 21, .inl f_129) := (hB1.2.2.2 co (by rw [ht_128]; simp)).trans hF_155
      generalize H1 = H at hP hS ⊢
      refine W.widen (k := 0) (n := 0) (by omega) (by omega) ?_
      exact W.vret hx hb hr (fun t ht hWm => ⟨⟨(), rfl, trivial, ⟨F_159, QTm.mk ht hP hD hO hR⟩⟩, hS.F ht⟩) hS.2.2 dX15_fieldsPlain_355
    ·
      have hi_171 : j2 < kv := ltN (N := kv) c_156
      refine lv_iload hx hb dX15_fieldsPlain_214 (lv_at hl 3 rfl) ?_
      refine lv_istore (lv' := [(8, .int (nI j2)), (7, .int (nI kv)), (6, .int w6), (5, .int w5), (4, .int (nI j2)), (0, .ref h0), (1, .int (nI jf))]) hx hb dX15_fieldsPlain_216 hl (by decide) rfl (fun ls hl => ?_)
      refine lv_iload hx hb dX15_fieldsPlain_218 (lv_at hl 4 rfl) ?_
      refine lv_istore (lv' := [(9, .int (nI j2)), (8, .int (nI j2)), (7, .int (nI kv)), (6, .int w6), (5, .int w5), (4, .int (nI j2)), (0, .ref h0), (1, .int (nI jf))]) hx hb dX15_fieldsPlain_220 hl (by decide) rfl (fun ls hl => ?_)
      refine lv_iconst (v := 0) hx hb dX15_fieldsPlain_222 (by decide) ?_
      refine lv_istore (lv' := [(10, .int 0), (9, .int (nI j2)), (8, .int (nI j2)), (7, .int (nI kv)), (6, .int w6), (5, .int w5), (4, .int (nI j2)), (0, .ref h0), (1, .int (nI jf))]) hx hb dX15_fieldsPlain_223 hl (by decide) rfl (fun ls hl => ?_)
      refine W.widen (k := 0) (n := 0) (by omega) (by omega) ?_
      have hF_173 : F sb = .inl (cs 17, 3000, .inl eb) := (hR sb (by rw [ht_39]; simp)).symm.trans hF_148
      have hF_174 : F s0 = .inl (cs 16, 40, .inl e0) := (hR s0 (by rw [ht_33]; simp)).symm.trans hF_149
      have hF_175 : F s1 = .inl (cs 16, 40, .inl e1) := (hR s1 (by rw [ht_34]; simp)).symm.trans hF_150
      have hF_176 : F s2 = .inl (cs 16, 40, .inl e2) := (hR s2 (by rw [ht_35]; simp)).symm.trans hF_151
      have hF_177 : F se = .inr (13, [.ref sx, .ref s0, .ref s1, .ref s2, .int (nI zs)]) := (hR se (by rw [ht_29]; simp)).symm.trans hF_152
      have hF_178 : F h0 = .inr (15, (.ref ta) :: (.int (nI zt)) :: (.int (nI zo_46)) :: (.int (nI ze)) :: (.ref ou) :: (.ref so) :: (.ref ad) :: (.ref na) :: (.ref va) :: (.ref lc) :: (.ref dm) :: (.int (nI fm)) :: (.int (nI sn)) :: (.ref tg) :: (.int v14_47) :: (.int v15_48) :: (.ref pe) :: (.int v17_49) :: (.int v18_50) :: (.int v19_51) :: (.int v20_52) :: (.int v21_53) :: (.int v22_54) :: (.ref ml) :: (.ref bg) :: (.ref co) :: (.ref sp) :: (.ref nb0) :: (.ref nb1) :: (.ref nb2) :: (.int (nI nf)) :: (.int (nI bd)) :: (.int (nI mm)) :: (.int v33_55) :: (.ref pl) :: (.ref se) :: (.ref ke) :: (.ref wi) :: (.ref hs) :: (.ref mo) :: (.ref po) :: (.ref nu) :: (.ref pr) :: (.ref sq) :: (.ref xa) :: (.ref sa) :: (.ref n64) :: (.ref m64) :: (.ref ex) :: (.ref wh) :: (.ref sd) :: (.ref tk) :: (.int v52_56) :: (.int v53_57) :: (.int v54_58) :: (.ref hd) :: (.ref ak) :: (.ref ho) :: (.ref ot) :: []) := (hR h0 (by rw [hT_h0]; simp)).symm.trans hF_153
      have hF_179 : F sx = .inr (14, [.ref sb, .int (nI z_94)]) := (hR sx (by rw [hT_sx]; simp)).symm.trans hF_154
      have hF_180 : F co = .inl (cs 16, 21, .inl f_129) := (hR co (by rw [ht_128]; simp)).symm.trans hF_155
      refine pl_loopm (σ := Nat) A (dC, dI) cs ty gm L [ρ + 10, ρ + 26] F 225 11 (fun i2 => [(10, .int 0), (9, .int (nI j2)), (8, .int (nI i2)), (7, .int (nI kv)), (6, .int w6), (5, .int w5), (4, .int (nI j2)), (0, .ref h0), (1, .int (nI jf))]) (fun i2 => []) (fun i2 FF => (j2 ≤ i2 ∧ i2 ≤ kv) ∧ FF pl = .inr (14, [.ref rl, .int (nI zz)])) (fun i2 => kv - i2) ?_ j2 F_137 (⟨⟨by omega, by omega⟩, hx1b⟩) hO hR _ _ hP hD hS ls (lv_sub hl [0, 1, 2, 3, 4, 5, 6, 7, 8] rfl)
      rintro i2 F_172 hv_181 hO hR ih_182 H locs hP hD hS ls hl
      have hl : lv_has ls 11 [(10, .int 0), (9, .int (nI j2)), (8, .int (nI i2)), (7, .int (nI kv)), (6, .int w6), (5, .int w5), (4, .int (nI j2)), (0, .ref h0), (1, .int (nI jf))] := hl
      have hv_181 : (j2 ≤ i2 ∧ i2 ≤ kv) ∧ F_172 pl = .inr (14, [.ref rl, .int (nI zz)]) := hv_181
      refine W.eq (g2 := F0 m 225 ls []) rfl ?_
      have hF_183 : F_172 sb = .inl (cs 17, 3000, .inl eb) := (hR sb (by rw [ht_39]; simp)).trans hF_173
      have hF_184 : F_172 s0 = .inl (cs 16, 40, .inl e0) := (hR s0 (by rw [ht_33]; simp)).trans hF_174
      have hF_185 : F_172 s1 = .inl (cs 16, 40, .inl e1) := (hR s1 (by rw [ht_34]; simp)).trans hF_175
      have hF_186 : F_172 s2 = .inl (cs 16, 40, .inl e2) := (hR s2 (by rw [ht_35]; simp)).trans hF_176
      have hF_187 : F_172 se = .inr (13, [.ref sx, .ref s0, .ref s1, .ref s2, .int (nI zs)]) := (hR se (by rw [ht_29]; simp)).trans hF_177
      have hF_188 : F_172 h0 = .inr (15, (.ref ta) :: (.int (nI zt)) :: (.int (nI zo_46)) :: (.int (nI ze)) :: (.ref ou) :: (.ref so) :: (.ref ad) :: (.ref na) :: (.ref va) :: (.ref lc) :: (.ref dm) :: (.int (nI fm)) :: (.int (nI sn)) :: (.ref tg) :: (.int v14_47) :: (.int v15_48) :: (.ref pe) :: (.int v17_49) :: (.int v18_50) :: (.int v19_51) :: (.int v20_52) :: (.int v21_53) :: (.int v22_54) :: (.ref ml) :: (.ref bg) :: (.ref co) :: (.ref sp) :: (.ref nb0) :: (.ref nb1) :: (.ref nb2) :: (.int (nI nf)) :: (.int (nI bd)) :: (.int (nI mm)) :: (.int v33_55) :: (.ref pl) :: (.ref se) :: (.ref ke) :: (.ref wi) :: (.ref hs) :: (.ref mo) :: (.ref po) :: (.ref nu) :: (.ref pr) :: (.ref sq) :: (.ref xa) :: (.ref sa) :: (.ref n64) :: (.ref m64) :: (.ref ex) :: (.ref wh) :: (.ref sd) :: (.ref tk) :: (.int v52_56) :: (.int v53_57) :: (.int v54_58) :: (.ref hd) :: (.ref ak) :: (.ref ho) :: (.ref ot) :: []) := (hR h0 (by rw [hT_h0]; simp)).trans hF_178
      have hF_189 : F_172 sx = .inr (14, [.ref sb, .int (nI z_94)]) := (hR sx (by rw [hT_sx]; simp)).trans hF_179
      have hF_190 : F_172 co = .inl (cs 16, 21, .inl f_129) := (hR co (by rw [ht_128]; simp)).trans hF_180
      obtain ⟨hx2a, hx2b⟩ := hv_181
      refine lv_iload hx hb dX15_fieldsPlain_225 (lv_at hl 2 rfl) ?_
      refine lv_iload hx hb dX15_fieldsPlain_227 (lv_at hl 3 rfl) ?_
      refine lv_icmp_ge (tgt := 250) hx hb dX15_fieldsPlain_229 (by decide) (fun c_191 => ?_) (fun c_191 => ?_)
      ·
        have hi_192 : kv ≤ i2 := leN (N := kv) c_191
        refine W.widen (k := 0) (n := 0) (by omega) (by omega) ?_
        have hF_194 : F sb = .inl (cs 17, 3000, .inl eb) := (hR sb (by rw [ht_39]; simp)).symm.trans hF_183
        have hF_195 : F s0 = .inl (cs 16, 40, .inl e0) := (hR s0 (by rw [ht_33]; simp)).symm.trans hF_184
        have hF_196 : F s1 = .inl (cs 16, 40, .inl e1) := (hR s1 (by rw [ht_34]; simp)).symm.trans hF_185
        have hF_197 : F s2 = .inl (cs 16, 40, .inl e2) := (hR s2 (by rw [ht_35]; simp)).symm.trans hF_186
        have hF_198 : F se = .inr (13, [.ref sx, .ref s0, .ref s1, .ref s2, .int (nI zs)]) := (hR se (by rw [ht_29]; simp)).symm.trans hF_187
        have hF_199 : F h0 = .inr (15, (.ref ta) :: (.int (nI zt)) :: (.int (nI zo_46)) :: (.int (nI ze)) :: (.ref ou) :: (.ref so) :: (.ref ad) :: (.ref na) :: (.ref va) :: (.ref lc) :: (.ref dm) :: (.int (nI fm)) :: (.int (nI sn)) :: (.ref tg) :: (.int v14_47) :: (.int v15_48) :: (.ref pe) :: (.int v17_49) :: (.int v18_50) :: (.int v19_51) :: (.int v20_52) :: (.int v21_53) :: (.int v22_54) :: (.ref ml) :: (.ref bg) :: (.ref co) :: (.ref sp) :: (.ref nb0) :: (.ref nb1) :: (.ref nb2) :: (.int (nI nf)) :: (.int (nI bd)) :: (.int (nI mm)) :: (.int v33_55) :: (.ref pl) :: (.ref se) :: (.ref ke) :: (.ref wi) :: (.ref hs) :: (.ref mo) :: (.ref po) :: (.ref nu) :: (.ref pr) :: (.ref sq) :: (.ref xa) :: (.ref sa) :: (.ref n64) :: (.ref m64) :: (.ref ex) :: (.ref wh) :: (.ref sd) :: (.ref tk) :: (.int v52_56) :: (.int v53_57) :: (.int v54_58) :: (.ref hd) :: (.ref ak) :: (.ref ho) :: (.ref ot) :: []) := (hR h0 (by rw [hT_h0]; simp)).symm.trans hF_188
        have hF_200 : F sx = .inr (14, [.ref sb, .int (nI z_94)]) := (hR sx (by rw [hT_sx]; simp)).symm.trans hF_189
        have hF_201 : F co = .inl (cs 16, 21, .inl f_129) := (hR co (by rw [ht_128]; simp)).symm.trans hF_190
        refine pl_loopm (σ := Nat × Int32) A (dC, dI) cs ty gm L [ρ + 10, ρ + 26] F 250 11 (fun (i3, w10) => [(10, .int w10), (9, .int (nI i3)), (8, .int (nI i2)), (7, .int (nI kv)), (6, .int w6), (5, .int w5), (4, .int (nI j2)), (0, .ref h0), (1, .int (nI jf))]) (fun (i3, w10) => []) (fun (i3, w10) FF => (j2 ≤ i3 ∧ i3 ≤ i2) ∧ FF pl = .inr (14, [.ref rl, .int (nI zz)])) (fun (i3, w10) => i2 - i3) ?_ (j2, 0) F_172 (⟨⟨by omega, by omega⟩, hx2b⟩) hO hR _ _ hP hD hS ls (lv_sub hl [0, 1, 2, 3, 4, 5, 6, 7, 8] rfl)
        rintro ⟨i3, w10⟩ F_193 hv_202 hO hR ih_203 H locs hP hD hS ls hl
        have hl : lv_has ls 11 [(10, .int w10), (9, .int (nI i3)), (8, .int (nI i2)), (7, .int (nI kv)), (6, .int w6), (5, .int w5), (4, .int (nI j2)), (0, .ref h0), (1, .int (nI jf))] := hl
        have hv_202 : (j2 ≤ i3 ∧ i3 ≤ i2) ∧ F_193 pl = .inr (14, [.ref rl, .int (nI zz)]) := hv_202
        refine W.eq (g2 := F0 m 250 ls []) rfl ?_
        have hF_204 : F_193 sb = .inl (cs 17, 3000, .inl eb) := (hR sb (by rw [ht_39]; simp)).trans hF_194
        have hF_205 : F_193 s0 = .inl (cs 16, 40, .inl e0) := (hR s0 (by rw [ht_33]; simp)).trans hF_195
        have hF_206 : F_193 s1 = .inl (cs 16, 40, .inl e1) := (hR s1 (by rw [ht_34]; simp)).trans hF_196
        have hF_207 : F_193 s2 = .inl (cs 16, 40, .inl e2) := (hR s2 (by rw [ht_35]; simp)).trans hF_197
        have hF_208 : F_193 se = .inr (13, [.ref sx, .ref s0, .ref s1, .ref s2, .int (nI zs)]) := (hR se (by rw [ht_29]; simp)).trans hF_198
        have hF_209 : F_193 h0 = .inr (15, (.ref ta) :: (.int (nI zt)) :: (.int (nI zo_46)) :: (.int (nI ze)) :: (.ref ou) :: (.ref so) :: (.ref ad) :: (.ref na) :: (.ref va) :: (.ref lc) :: (.ref dm) :: (.int (nI fm)) :: (.int (nI sn)) :: (.ref tg) :: (.int v14_47) :: (.int v15_48) :: (.ref pe) :: (.int v17_49) :: (.int v18_50) :: (.int v19_51) :: (.int v20_52) :: (.int v21_53) :: (.int v22_54) :: (.ref ml) :: (.ref bg) :: (.ref co) :: (.ref sp) :: (.ref nb0) :: (.ref nb1) :: (.ref nb2) :: (.int (nI nf)) :: (.int (nI bd)) :: (.int (nI mm)) :: (.int v33_55) :: (.ref pl) :: (.ref se) :: (.ref ke) :: (.ref wi) :: (.ref hs) :: (.ref mo) :: (.ref po) :: (.ref nu) :: (.ref pr) :: (.ref sq) :: (.ref xa) :: (.ref sa) :: (.ref n64) :: (.ref m64) :: (.ref ex) :: (.ref wh) :: (.ref sd) :: (.ref tk) :: (.int v52_56) :: (.int v53_57) :: (.int v54_58) :: (.ref hd) :: (.ref ak) :: (.ref ho) :: (.ref ot) :: []) := (hR h0 (by rw [hT_h0]; simp)).trans hF_199
        have hF_210 : F_193 sx = .inr (14, [.ref sb, .int (nI z_94)]) := (hR sx (by rw [hT_sx]; simp)).trans hF_200
        have hF_211 : F_193 co = .inl (cs 16, 21, .inl f_129) := (hR co (by rw [ht_128]; simp)).trans hF_201
        obtain ⟨hx3a, hx3b⟩ := hv_202
        refine lv_iload hx hb dX15_fieldsPlain_250 (lv_at hl 1 rfl) ?_
        refine lv_iload hx hb dX15_fieldsPlain_252 (lv_at hl 2 rfl) ?_
        refine lv_icmp_ge (tgt := 316) hx hb dX15_fieldsPlain_254 (by decide) (fun c_212 => ?_) (fun c_212 => ?_)
        ·
          have hi_213 : i2 ≤ i3 := leN (N := i2) c_212
          refine lv_iload hx hb dX15_fieldsPlain_316 (lv_at hl 0 rfl) ?_
          refine lv_bipush (v := 98) hx hb dX15_fieldsPlain_318 (by decide) ?_
          refine lv_icmp_ne (tgt := 333) hx hb dX15_fieldsPlain_320 (by decide) (fun c_214 => ?_) (fun c_214 => ?_)
          ·
            refine lv_iload hx hb dX15_fieldsPlain_333 (lv_at hl 2 rfl) ?_
            refine lv_iconst (v := 1) hx hb dX15_fieldsPlain_335 (by decide) ?_
            refine lv_iadd hx hb dX15_fieldsPlain_336 ?_
            refine lv_topi (fun x_215 ex_215 => ?_)
            obtain rfl : x_215 = (nI (i2 + 1)) := ex_215.trans (nI_add i2 1)
            refine lv_istore (lv' := [(4, .int (nI (i2 + 1))), (10, .int w10), (9, .int (nI i3)), (8, .int (nI i2)), (7, .int (nI kv)), (6, .int w6), (5, .int w5), (0, .ref h0), (1, .int (nI jf))]) hx hb dX15_fieldsPlain_337 hl (by decide) rfl (fun ls hl => ?_)
            refine lv_goto (tgt := 207) hx hb dX15_fieldsPlain_339 (by decide) ?_
            refine W.widen (k := 0) (n := 0) (by omega) (by omega) ?_
            exact ih_147 ((i2 + 1), w5, w6) F_193 (⟨by omega, hx3b⟩) (by show 1282 - (i2 + 1) < 1282 - j2; omega) hO hR _ _ hP hD hS ls (lv_sub hl [4, 5, 6, 0, 7, 8] rfl)
          ·
            refine lv_iload hx hb dX15_fieldsPlain_323 (lv_at hl 1 rfl) ?_
            refine lv_iconst (v := 1) hx hb dX15_fieldsPlain_325 (by decide) ?_
            refine lv_iadd hx hb dX15_fieldsPlain_326 ?_
            refine lv_topi (fun x_216 ex_216 => ?_)
            obtain rfl : x_216 = (nI (i3 + 1)) := ex_216.trans (nI_add i3 1)
            refine lv_istore (lv' := [(5, .int (nI (i3 + 1))), (10, .int w10), (9, .int (nI i3)), (8, .int (nI i2)), (7, .int (nI kv)), (6, .int w6), (4, .int (nI j2)), (0, .ref h0), (1, .int (nI jf))]) hx hb dX15_fieldsPlain_327 hl (by decide) rfl (fun ls hl => ?_)
            refine lv_iload hx hb dX15_fieldsPlain_329 (lv_at hl 3 rfl) ?_
            refine lv_istore (lv' := [(6, .int (nI i2)), (5, .int (nI (i3 + 1))), (10, .int w10), (9, .int (nI i3)), (8, .int (nI i2)), (7, .int (nI kv)), (4, .int (nI j2)), (0, .ref h0), (1, .int (nI jf))]) hx hb dX15_fieldsPlain_331 hl (by decide) rfl (fun ls hl => ?_)
            refine lv_iload hx hb dX15_fieldsPlain_333 (lv_at hl 4 rfl) ?_
            refine lv_iconst (v := 1) hx hb dX15_fieldsPlain_335 (by decide) ?_
            refine lv_iadd hx hb dX15_fieldsPlain_336 ?_
            refine lv_topi (fun x_217 ex_217 => ?_)
            obtain rfl : x_217 = (nI (i2 + 1)) := ex_217.trans (nI_add i2 1)
            refine lv_istore (lv' := [(4, .int (nI (i2 + 1))), (6, .int (nI i2)), (5, .int (nI (i3 + 1))), (10, .int w10), (9, .int (nI i3)), (8, .int (nI i2)), (7, .int (nI kv)), (0, .ref h0), (1, .int (nI jf))]) hx hb dX15_fieldsPlain_337 hl (by decide) rfl (fun ls hl => ?_)
            refine lv_goto (tgt := 207) hx hb dX15_fieldsPlain_339 (by decide) ?_
            refine W.widen (k := 0) (n := 0) (by omega) (by omega) ?_
            exact ih_147 ((i2 + 1), (nI (i3 + 1)), (nI i2)) F_193 (⟨by omega, hx3b⟩) (by show 1282 - (i2 + 1) < 1282 - j2; omega) hO hR _ _ hP hD hS ls (lv_sub hl [6, 1, 2, 0, 7, 8] rfl)
        ·
          have hi_218 : i3 < i2 := ltN (N := i2) c_212
          refine lv_aload_n hx hb dX15_fieldsPlain_257 rfl (lv_at hl 7 rfl) ?_
          refine pg_get (ci := 15) (v := .ref ml) (C := RX15) (T := TX15) (N := 59) hx hb hts it_15 hown hK hP hL_h0 hF_209 rfl 23 (by decide) (hts _ kt_887) (fun _ h9 => h9) rfl dX15_fieldsPlain_258 ?_
          refine lv_iload hx hb dX15_fieldsPlain_261 (lv_at hl 1 rfl) ?_
          obtain ⟨hi_219, ht_220⟩ := hW.f_ml hL_h0 hT_h0
          obtain ⟨hq_221, hq_222⟩ := hW.octs hi_219 ht_220
          obtain ⟨f_223, hF_224, hq_225⟩ := hO.octs hi_219 ht_220
          refine pg_bald hx hb hK hP hi_219 1 hF_224 rfl (vp_in_nI (by omega) (by omega)) dX15_fieldsPlain_263 ?_
          refine lv_topi (fun x_226 ex_226 => ?_)
          obtain rfl : x_226 = f_223 i3 := ex_226.trans (congrArg f_223 (show ((nI i3) : Int32).toNatClampNeg = i3 from nI_clamp (by omega)))
          refine lv_bipush (v := 61) hx hb dX15_fieldsPlain_264 (by decide) ?_
          refine lv_icmp_eq (tgt := 316) hx hb dX15_fieldsPlain_266 (by decide) (fun c_227 => ?_) (fun c_227 => ?_)
          ·
            refine lv_iload hx hb dX15_fieldsPlain_316 (lv_at hl 0 rfl) ?_
            refine lv_bipush (v := 98) hx hb dX15_fieldsPlain_318 (by decide) ?_
            refine lv_icmp_ne (tgt := 333) hx hb dX15_fieldsPlain_320 (by decide) (fun c_228 => ?_) (fun c_228 => ?_)
            ·
              refine lv_iload hx hb dX15_fieldsPlain_333 (lv_at hl 2 rfl) ?_
              refine lv_iconst (v := 1) hx hb dX15_fieldsPlain_335 (by decide) ?_
              refine lv_iadd hx hb dX15_fieldsPlain_336 ?_
              refine lv_topi (fun x_229 ex_229 => ?_)
              obtain rfl : x_229 = (nI (i2 + 1)) := ex_229.trans (nI_add i2 1)
              refine lv_istore (lv' := [(4, .int (nI (i2 + 1))), (10, .int w10), (9, .int (nI i3)), (8, .int (nI i2)), (7, .int (nI kv)), (6, .int w6), (5, .int w5), (0, .ref h0), (1, .int (nI jf))]) hx hb dX15_fieldsPlain_337 hl (by decide) rfl (fun ls hl => ?_)
              refine lv_goto (tgt := 207) hx hb dX15_fieldsPlain_339 (by decide) ?_
              refine W.widen (k := 0) (n := 0) (by omega) (by omega) ?_
              exact ih_147 ((i2 + 1), w5, w6) F_193 (⟨by omega, hx3b⟩) (by show 1282 - (i2 + 1) < 1282 - j2; omega) hO hR _ _ hP hD hS ls (lv_sub hl [4, 5, 6, 0, 7, 8] rfl)
            ·
              refine lv_iload hx hb dX15_fieldsPlain_323 (lv_at hl 1 rfl) ?_
              refine lv_iconst (v := 1) hx hb dX15_fieldsPlain_325 (by decide) ?_
              refine lv_iadd hx hb dX15_fieldsPlain_326 ?_
              refine lv_topi (fun x_230 ex_230 => ?_)
              obtain rfl : x_230 = (nI (i3 + 1)) := ex_230.trans (nI_add i3 1)
              refine lv_istore (lv' := [(5, .int (nI (i3 + 1))), (10, .int w10), (9, .int (nI i3)), (8, .int (nI i2)), (7, .int (nI kv)), (6, .int w6), (4, .int (nI j2)), (0, .ref h0), (1, .int (nI jf))]) hx hb dX15_fieldsPlain_327 hl (by decide) rfl (fun ls hl => ?_)
              refine lv_iload hx hb dX15_fieldsPlain_329 (lv_at hl 3 rfl) ?_
              refine lv_istore (lv' := [(6, .int (nI i2)), (5, .int (nI (i3 + 1))), (10, .int w10), (9, .int (nI i3)), (8, .int (nI i2)), (7, .int (nI kv)), (4, .int (nI j2)), (0, .ref h0), (1, .int (nI jf))]) hx hb dX15_fieldsPlain_331 hl (by decide) rfl (fun ls hl => ?_)
              refine lv_iload hx hb dX15_fieldsPlain_333 (lv_at hl 4 rfl) ?_
              refine lv_iconst (v := 1) hx hb dX15_fieldsPlain_335 (by decide) ?_
              refine lv_iadd hx hb dX15_fieldsPlain_336 ?_
              refine lv_topi (fun x_231 ex_231 => ?_)
              obtain rfl : x_231 = (nI (i2 + 1)) := ex_231.trans (nI_add i2 1)
              refine lv_istore (lv' := [(4, .int (nI (i2 + 1))), (6, .int (nI i2)), (5, .int (nI (i3 + 1))), (10, .int w10), (9, .int (nI i3)), (8, .int (nI i2)), (7, .int (nI kv)), (0, .ref h0), (1, .int (nI jf))]) hx hb dX15_fieldsPlain_337 hl (by decide) rfl (fun ls hl => ?_)
              refine lv_goto (tgt := 207) hx hb dX15_fieldsPlain_339 (by decide) ?_
              refine W.widen (k := 0) (n := 0) (by omega) (by omega) ?_
              exact ih_147 ((i2 + 1), (nI (i3 + 1)), (nI i2)) F_193 (⟨by omega, hx3b⟩) (by show 1282 - (i2 + 1) < 1282 - j2; omega) hO hR _ _ hP hD hS ls (lv_sub hl [6, 1, 2, 0, 7, 8] rfl)
          ·
            refine lv_aload_n hx hb dX15_fieldsPlain_269 rfl (lv_at hl 7 rfl) ?_
            refine pg_get (ci := 15) (v := .ref ml) (C := RX15) (T := TX15) (N := 59) hx hb hts it_15 hown hK hP hL_h0 hF_209 rfl 23 (by decide) (hts _ kt_887) (fun _ h9 => h9) rfl dX15_fieldsPlain_270 ?_
            refine lv_iload hx hb dX15_fieldsPlain_273 (lv_at hl 1 rfl) ?_
            refine pg_bald hx hb hK hP hi_219 1 hF_224 rfl (vp_in_nI (by omega) (by omega)) dX15_fieldsPlain_275 ?_
            refine lv_topi (fun x_232 ex_232 => ?_)
            obtain rfl : x_232 = f_223 i3 := ex_232.trans (congrArg f_223 (show ((nI i3) : Int32).toNatClampNeg = i3 from nI_clamp (by omega)))
            have hFc := pg_free hD hS hA
            refine va_calli (va_runS (As := [.int (f_223 i3)]) (rest := []) ⟨hx, hb, hml, hown, hts⟩ (s_X15_isWhite l dC dI cs ty gm L H.size F_193 (f_223 i3) hW ) ⟨callB_of 1 hts (gi kt_715) rfl rfl rfl (hts _ kt_669) (hts _ kt_716) (by decide +kernel) ⟨Nat.le_of_ble_eq_true rfl, Nat.le_of_ble_eq_true rfl⟩, (hts _ kt_717)⟩ ⟨fun a U g mk q => ⟨q.1, PTm.calling q.2⟩, fun U hU hWm => ⟨rfl, PTm.mk hU hWm hP hK hD hE hO⟩⟩ rfl rfl hl.1 rfl (lv_room (Nat.le_of_ble_eq_true rfl)) dX15_fieldsPlain_276 ⟨by show _ + 0 ≤ 0; omega, by show _ + 0 ≤ 0; omega⟩) hS (fun q _ h => hFc q h) hFc (fun r_233 u t H1 locs ht hvm hw hB hz1 hk1 hS => ?_)
            obtain ⟨F_234, hB1⟩ := hB
            obtain rfl : F_193 = F_234 := (funext (fun a => hB1.2.2.2 a List.not_mem_nil)).symm
            obtain ⟨hP, hD, hO, hR⟩ := QTm.back hB1 ht hFc hR (fun q h => absurd h List.not_mem_nil)
            generalize H1 = H at hP hS ⊢
            have hw : (r_233 = 0 ∨ r_233 = 1) := hw
            have hw_235 := hw
            refine lv_if_ne (tgt := 310) hx hb dX15_fieldsPlain_279 (by decide) (fun c_236 => ?_) (fun c_236 => ?_)
            ·
              refine lv_iinc (v := (nI (i3 + 1))) (lv' := [(9, .int (nI (i3 + 1))), (10, .int w10), (8, .int (nI i2)), (7, .int (nI kv)), (6, .int w6), (5, .int w5), (4, .int (nI j2)), (0, .ref h0), (1, .int (nI jf))]) hx hb dX15_fieldsPlain_310 hl (k := 1) rfl (nI_1 _) (by decide) rfl (fun ls hl => ?_)
              refine lv_goto (tgt := 250) hx hb dX15_fieldsPlain_313 (by decide) ?_
              refine W.widen (k := 0) (n := 0) (by omega) (by omega) ?_
              exact ih_203 ((i3 + 1), w10) F_193 (⟨⟨by omega, by omega⟩, hx3b⟩) (by show i2 - (i3 + 1) < i2 - i3; omega) hO hR _ _ hP hD hS ls (lv_sub hl [1, 0, 2, 3, 4, 5, 6, 7, 8] rfl)
            ·
              refine lv_aload_n hx hb dX15_fieldsPlain_282 rfl (lv_at hl 7 rfl) ?_
              refine pg_get (ci := 15) (v := .ref ml) (C := RX15) (T := TX15) (N := 59) hx hb hts it_15 hown hK hP hL_h0 hF_209 rfl 23 (by decide) (hts _ kt_887) (fun _ h9 => h9) rfl dX15_fieldsPlain_283 ?_
              refine lv_iload hx hb dX15_fieldsPlain_286 (lv_at hl 1 rfl) ?_
              refine pg_bald hx hb hK hP hi_219 1 hF_224 rfl (vp_in_nI (by omega) (by omega)) dX15_fieldsPlain_288 ?_
              refine lv_topi (fun x_237 ex_237 => ?_)
              obtain rfl : x_237 = f_223 i3 := ex_237.trans (congrArg f_223 (show ((nI i3) : Int32).toNatClampNeg = i3 from nI_clamp (by omega)))
              refine lv_bipush (v := 10) hx hb dX15_fieldsPlain_289 (by decide) ?_
              refine lv_icmp_eq (tgt := 310) hx hb dX15_fieldsPlain_291 (by decide) (fun c_238 => ?_) (fun c_238 => ?_)
              ·
                refine lv_iinc (v := (nI (i3 + 1))) (lv' := [(9, .int (nI (i3 + 1))), (10, .int w10), (8, .int (nI i2)), (7, .int (nI kv)), (6, .int w6), (5, .int w5), (4, .int (nI j2)), (0, .ref h0), (1, .int (nI jf))]) hx hb dX15_fieldsPlain_310 hl (k := 1) rfl (nI_1 _) (by decide) rfl (fun ls hl => ?_)
                refine lv_goto (tgt := 250) hx hb dX15_fieldsPlain_313 (by decide) ?_
                refine W.widen (k := 0) (n := 0) (by omega) (by omega) ?_
                exact ih_203 ((i3 + 1), w10) F_193 (⟨⟨by omega, by omega⟩, hx3b⟩) (by show i2 - (i3 + 1) < i2 - i3; omega) hO hR _ _ hP hD hS ls (lv_sub hl [1, 0, 2, 3, 4, 5, 6, 7, 8] rfl)
              ·
                refine lv_sipush (v := 256) hx hb dX15_fieldsPlain_294 (by decide) ?_
                refine lv_iload hx hb dX15_fieldsPlain_297 (lv_at hl 0 rfl) ?_
                refine lv_imul hx hb dX15_fieldsPlain_299 ?_
                refine lv_topi (fun x_239 ex_239 => ?_)
                refine lv_aload_n hx hb dX15_fieldsPlain_300 rfl (lv_at hl 7 rfl) ?_
                refine pg_get (ci := 15) (v := .ref ml) (C := RX15) (T := TX15) (N := 59) hx hb hts it_15 hown hK hP hL_h0 hF_209 rfl 23 (by decide) (hts _ kt_887) (fun _ h9 => h9) rfl dX15_fieldsPlain_301 ?_
                refine lv_iload hx hb dX15_fieldsPlain_304 (lv_at hl 1 rfl) ?_
                refine pg_bald hx hb hK hP hi_219 1 hF_224 rfl (vp_in_nI (by omega) (by omega)) dX15_fieldsPlain_306 ?_
                refine lv_topi (fun x_240 ex_240 => ?_)
                obtain rfl : x_240 = f_223 i3 := ex_240.trans (congrArg f_223 (show ((nI i3) : Int32).toNatClampNeg = i3 from nI_clamp (by omega)))
                refine lv_iadd hx hb dX15_fieldsPlain_307 ?_
                refine lv_topi (fun x_241 ex_241 => ?_)
                refine lv_istore (lv' := [(10, .int x_241), (9, .int (nI i3)), (8, .int (nI i2)), (7, .int (nI kv)), (6, .int w6), (5, .int w5), (4, .int (nI j2)), (0, .ref h0), (1, .int (nI jf))]) hx hb dX15_fieldsPlain_308 hl (by decide) rfl (fun ls hl => ?_)
                refine lv_iinc (v := (nI (i3 + 1))) (lv' := [(9, .int (nI (i3 + 1))), (10, .int x_241), (8, .int (nI i2)), (7, .int (nI kv)), (6, .int w6), (5, .int w5), (4, .int (nI j2)), (0, .ref h0), (1, .int (nI jf))]) hx hb dX15_fieldsPlain_310 hl (k := 1) rfl (nI_1 _) (by decide) rfl (fun ls hl => ?_)
                refine lv_goto (tgt := 250) hx hb dX15_fieldsPlain_313 (by decide) ?_
                refine W.widen (k := 0) (n := 0) (by omega) (by omega) ?_
                exact ih_203 ((i3 + 1), x_241) F_193 (⟨⟨by omega, by omega⟩, hx3b⟩) (by show i2 - (i3 + 1) < i2 - i3; omega) hO hR _ _ hP hD hS ls (lv_sub hl [1, 0, 2, 3, 4, 5, 6, 7, 8] rfl)
      ·
        have hi_242 : i2 < kv := ltN (N := kv) c_191
        refine lv_aload_n hx hb dX15_fieldsPlain_232 rfl (lv_at hl 7 rfl) ?_
        refine pg_get (ci := 15) (v := .ref ml) (C := RX15) (T := TX15) (N := 59) hx hb hts it_15 hown hK hP hL_h0 hF_188 rfl 23 (by decide) (hts _ kt_887) (fun _ h9 => h9) rfl dX15_fieldsPlain_233 ?_
        refine lv_iload hx hb dX15_fieldsPlain_236 (lv_at hl 2 rfl) ?_
        obtain ⟨hi_243, ht_244⟩ := hW.f_ml hL_h0 hT_h0
        obtain ⟨hq_245, hq_246⟩ := hW.octs hi_243 ht_244
        obtain ⟨f_247, hF_248, hq_249⟩ := hO.octs hi_243 ht_244
        refine pg_bald hx hb hK hP hi_243 1 hF_248 rfl (vp_in_nI (by omega) (by omega)) dX15_fieldsPlain_238 ?_
        refine lv_topi (fun x_250 ex_250 => ?_)
        obtain rfl : x_250 = f_247 i2 := ex_250.trans (congrArg f_247 (show ((nI i2) : Int32).toNatClampNeg = i2 from nI_clamp (by omega)))
        refine lv_bipush (v := 59) hx hb dX15_fieldsPlain_239 (by decide) ?_
        refine lv_icmp_eq (tgt := 250) hx hb dX15_fieldsPlain_241 (by decide) (fun c_251 => ?_) (fun c_251 => ?_)
        ·
          refine W.widen (k := 0) (n := 0) (by omega) (by omega) ?_
          have hF_253 : F sb = .inl (cs 17, 3000, .inl eb) := (hR sb (by rw [ht_39]; simp)).symm.trans hF_183
          have hF_254 : F s0 = .inl (cs 16, 40, .inl e0) := (hR s0 (by rw [ht_33]; simp)).symm.trans hF_184
          have hF_255 : F s1 = .inl (cs 16, 40, .inl e1) := (hR s1 (by rw [ht_34]; simp)).symm.trans hF_185
          have hF_256 : F s2 = .inl (cs 16, 40, .inl e2) := (hR s2 (by rw [ht_35]; simp)).symm.trans hF_186
          have hF_257 : F se = .inr (13, [.ref sx, .ref s0, .ref s1, .ref s2, .int (nI zs)]) := (hR se (by rw [ht_29]; simp)).symm.trans hF_187
          have hF_258 : F h0 = .inr (15, (.ref ta) :: (.int (nI zt)) :: (.int (nI zo_46)) :: (.int (nI ze)) :: (.ref ou) :: (.ref so) :: (.ref ad) :: (.ref na) :: (.ref va) :: (.ref lc) :: (.ref dm) :: (.int (nI fm)) :: (.int (nI sn)) :: (.ref tg) :: (.int v14_47) :: (.int v15_48) :: (.ref pe) :: (.int v17_49) :: (.int v18_50) :: (.int v19_51) :: (.int v20_52) :: (.int v21_53) :: (.int v22_54) :: (.ref ml) :: (.ref bg) :: (.ref co) :: (.ref sp) :: (.ref nb0) :: (.ref nb1) :: (.ref nb2) :: (.int (nI nf)) :: (.int (nI bd)) :: (.int (nI mm)) :: (.int v33_55) :: (.ref pl) :: (.ref se) :: (.ref ke) :: (.ref wi) :: (.ref hs) :: (.ref mo) :: (.ref po) :: (.ref nu) :: (.ref pr) :: (.ref sq) :: (.ref xa) :: (.ref sa) :: (.ref n64) :: (.ref m64) :: (.ref ex) :: (.ref wh) :: (.ref sd) :: (.ref tk) :: (.int v52_56) :: (.int v53_57) :: (.int v54_58) :: (.ref hd) :: (.ref ak) :: (.ref ho) :: (.ref ot) :: []) := (hR h0 (by rw [hT_h0]; simp)).symm.trans hF_188
          have hF_259 : F sx = .inr (14, [.ref sb, .int (nI z_94)]) := (hR sx (by rw [hT_sx]; simp)).symm.trans hF_189
          have hF_260 : F co = .inl (cs 16, 21, .inl f_129) := (hR co (by rw [ht_128]; simp)).symm.trans hF_190
          have hF_261 : F ml = .inl (cs 17, 3000, .inl f_247) := (hR ml (by rw [ht_244]; simp)).symm.trans hF_248
          refine pl_loopm (σ := Nat × Int32) A (dC, dI) cs ty gm L [ρ + 10, ρ + 26] F 250 11 (fun (i3, w10) => [(10, .int w10), (9, .int (nI i3)), (8, .int (nI i2)), (7, .int (nI kv)), (6, .int w6), (5, .int w5), (4, .int (nI j2)), (0, .ref h0), (1, .int (nI jf))]) (fun (i3, w10) => []) (fun (i3, w10) FF => (j2 ≤ i3 ∧ i3 ≤ i2) ∧ FF pl = .inr (14, [.ref rl, .int (nI zz)])) (fun (i3, w10) => i2 - i3) ?_ (j2, 0) F_172 (⟨⟨by omega, by omega⟩, hx2b⟩) hO hR _ _ hP hD hS ls (lv_sub hl [0, 1, 2, 3, 4, 5, 6, 7, 8] rfl)
          rintro ⟨i3, w10⟩ F_252 hv_262 hO hR ih_263 H locs hP hD hS ls hl
          have hl : lv_has ls 11 [(10, .int w10), (9, .int (nI i3)), (8, .int (nI i2)), (7, .int (nI kv)), (6, .int w6), (5, .int w5), (4, .int (nI j2)), (0, .ref h0), (1, .int (nI jf))] := hl
          have hv_262 : (j2 ≤ i3 ∧ i3 ≤ i2) ∧ F_252 pl = .inr (14, [.ref rl, .int (nI zz)]) := hv_262
          refine W.eq (g2 := F0 m 250 ls []) rfl ?_
          have hF_264 : F_252 sb = .inl (cs 17, 3000, .inl eb) := (hR sb (by rw [ht_39]; simp)).trans hF_253
          have hF_265 : F_252 s0 = .inl (cs 16, 40, .inl e0) := (hR s0 (by rw [ht_33]; simp)).trans hF_254
          have hF_266 : F_252 s1 = .inl (cs 16, 40, .inl e1) := (hR s1 (by rw [ht_34]; simp)).trans hF_255
          have hF_267 : F_252 s2 = .inl (cs 16, 40, .inl e2) := (hR s2 (by rw [ht_35]; simp)).trans hF_256
          have hF_268 : F_252 se = .inr (13, [.ref sx, .ref s0, .ref s1, .ref s2, .int (nI zs)]) := (hR se (by rw [ht_29]; simp)).trans hF_257
          have hF_269 : F_252 h0 = .inr (15, (.ref ta) :: (.int (nI zt)) :: (.int (nI zo_46)) :: (.int (nI ze)) :: (.ref ou) :: (.ref so) :: (.ref ad) :: (.ref na) :: (.ref va) :: (.ref lc) :: (.ref dm) :: (.int (nI fm)) :: (.int (nI sn)) :: (.ref tg) :: (.int v14_47) :: (.int v15_48) :: (.ref pe) :: (.int v17_49) :: (.int v18_50) :: (.int v19_51) :: (.int v20_52) :: (.int v21_53) :: (.int v22_54) :: (.ref ml) :: (.ref bg) :: (.ref co) :: (.ref sp) :: (.ref nb0) :: (.ref nb1) :: (.ref nb2) :: (.int (nI nf)) :: (.int (nI bd)) :: (.int (nI mm)) :: (.int v33_55) :: (.ref pl) :: (.ref se) :: (.ref ke) :: (.ref wi) :: (.ref hs) :: (.ref mo) :: (.ref po) :: (.ref nu) :: (.ref pr) :: (.ref sq) :: (.ref xa) :: (.ref sa) :: (.ref n64) :: (.ref m64) :: (.ref ex) :: (.ref wh) :: (.ref sd) :: (.ref tk) :: (.int v52_56) :: (.int v53_57) :: (.int v54_58) :: (.ref hd) :: (.ref ak) :: (.ref ho) :: (.ref ot) :: []) := (hR h0 (by rw [hT_h0]; simp)).trans hF_258
          have hF_270 : F_252 sx = .inr (14, [.ref sb, .int (nI z_94)]) := (hR sx (by rw [hT_sx]; simp)).trans hF_259
          have hF_271 : F_252 co = .inl (cs 16, 21, .inl f_129) := (hR co (by rw [ht_128]; simp)).trans hF_260
          have hF_272 : F_252 ml = .inl (cs 17, 3000, .inl f_247) := (hR ml (by rw [ht_244]; simp)).trans hF_261
          obtain ⟨hx3a, hx3b⟩ := hv_262
          refine lv_iload hx hb dX15_fieldsPlain_250 (lv_at hl 1 rfl) ?_
          refine lv_iload hx hb dX15_fieldsPlain_252 (lv_at hl 2 rfl) ?_
          refine lv_icmp_ge (tgt := 316) hx hb dX15_fieldsPlain_254 (by decide) (fun c_273 => ?_) (fun c_273 => ?_)
          ·
            have hi_274 : i2 ≤ i3 := leN (N := i2) c_273
            refine lv_iload hx hb dX15_fieldsPlain_316 (lv_at hl 0 rfl) ?_
            refine lv_bipush (v := 98) hx hb dX15_fieldsPlain_318 (by decide) ?_
            refine lv_icmp_ne (tgt := 333) hx hb dX15_fieldsPlain_320 (by decide) (fun c_275 => ?_) (fun c_275 => ?_)
            ·
              refine lv_iload hx hb dX15_fieldsPlain_333 (lv_at hl 2 rfl) ?_
              refine lv_iconst (v := 1) hx hb dX15_fieldsPlain_335 (by decide) ?_
              refine lv_iadd hx hb dX15_fieldsPlain_336 ?_
              refine lv_topi (fun x_276 ex_276 => ?_)
              obtain rfl : x_276 = (nI (i2 + 1)) := ex_276.trans (nI_add i2 1)
              refine lv_istore (lv' := [(4, .int (nI (i2 + 1))), (10, .int w10), (9, .int (nI i3)), (8, .int (nI i2)), (7, .int (nI kv)), (6, .int w6), (5, .int w5), (0, .ref h0), (1, .int (nI jf))]) hx hb dX15_fieldsPlain_337 hl (by decide) rfl (fun ls hl => ?_)
              refine lv_goto (tgt := 207) hx hb dX15_fieldsPlain_339 (by decide) ?_
              refine W.widen (k := 0) (n := 0) (by omega) (by omega) ?_
              exact ih_147 ((i2 + 1), w5, w6) F_252 (⟨by omega, hx3b⟩) (by show 1282 - (i2 + 1) < 1282 - j2; omega) hO hR _ _ hP hD hS ls (lv_sub hl [4, 5, 6, 0, 7, 8] rfl)
            ·
              refine lv_iload hx hb dX15_fieldsPlain_323 (lv_at hl 1 rfl) ?_
              refine lv_iconst (v := 1) hx hb dX15_fieldsPlain_325 (by decide) ?_
              refine lv_iadd hx hb dX15_fieldsPlain_326 ?_
              refine lv_topi (fun x_277 ex_277 => ?_)
              obtain rfl : x_277 = (nI (i3 + 1)) := ex_277.trans (nI_add i3 1)
              refine lv_istore (lv' := [(5, .int (nI (i3 + 1))), (10, .int w10), (9, .int (nI i3)), (8, .int (nI i2)), (7, .int (nI kv)), (6, .int w6), (4, .int (nI j2)), (0, .ref h0), (1, .int (nI jf))]) hx hb dX15_fieldsPlain_327 hl (by decide) rfl (fun ls hl => ?_)
              refine lv_iload hx hb dX15_fieldsPlain_329 (lv_at hl 3 rfl) ?_
              refine lv_istore (lv' := [(6, .int (nI i2)), (5, .int (nI (i3 + 1))), (10, .int w10), (9, .int (nI i3)), (8, .int (nI i2)), (7, .int (nI kv)), (4, .int (nI j2)), (0, .ref h0), (1, .int (nI jf))]) hx hb dX15_fieldsPlain_331 hl (by decide) rfl (fun ls hl => ?_)
              refine lv_iload hx hb dX15_fieldsPlain_333 (lv_at hl 4 rfl) ?_
              refine lv_iconst (v := 1) hx hb dX15_fieldsPlain_335 (by decide) ?_
              refine lv_iadd hx hb dX15_fieldsPlain_336 ?_
              refine lv_topi (fun x_278 ex_278 => ?_)
              obtain rfl : x_278 = (nI (i2 + 1)) := ex_278.trans (nI_add i2 1)
              refine lv_istore (lv' := [(4, .int (nI (i2 + 1))), (6, .int (nI i2)), (5, .int (nI (i3 + 1))), (10, .int w10), (9, .int (nI i3)), (8, .int (nI i2)), (7, .int (nI kv)), (0, .ref h0), (1, .int (nI jf))]) hx hb dX15_fieldsPlain_337 hl (by decide) rfl (fun ls hl => ?_)
              refine lv_goto (tgt := 207) hx hb dX15_fieldsPlain_339 (by decide) ?_
              refine W.widen (k := 0) (n := 0) (by omega) (by omega) ?_
              exact ih_147 ((i2 + 1), (nI (i3 + 1)), (nI i2)) F_252 (⟨by omega, hx3b⟩) (by show 1282 - (i2 + 1) < 1282 - j2; omega) hO hR _ _ hP hD hS ls (lv_sub hl [6, 1, 2, 0, 7, 8] rfl)
          ·
            have hi_279 : i3 < i2 := ltN (N := i2) c_273
            refine lv_aload_n hx hb dX15_fieldsPlain_257 rfl (lv_at hl 7 rfl) ?_
            refine pg_get (ci := 15) (v := .ref ml) (C := RX15) (T := TX15) (N := 59) hx hb hts it_15 hown hK hP hL_h0 hF_269 rfl 23 (by decide) (hts _ kt_887) (fun _ h9 => h9) rfl dX15_fieldsPlain_258 ?_
            refine lv_iload hx hb dX15_fieldsPlain_261 (lv_at hl 1 rfl) ?_
            refine pg_bald hx hb hK hP hi_243 1 hF_272 rfl (vp_in_nI (by omega) (by omega)) dX15_fieldsPlain_263 ?_
            refine lv_topi (fun x_280 ex_280 => ?_)
            obtain rfl : x_280 = f_247 i3 := ex_280.trans (congrArg f_247 (show ((nI i3) : Int32).toNatClampNeg = i3 from nI_clamp (by omega)))
            refine lv_bipush (v := 61) hx hb dX15_fieldsPlain_264 (by decide) ?_
            refine lv_icmp_eq (tgt := 316) hx hb dX15_fieldsPlain_266 (by decide) (fun c_281 => ?_) (fun c_281 => ?_)
            ·
              refine lv_iload hx hb dX15_fieldsPlain_316 (lv_at hl 0 rfl) ?_
              refine lv_bipush (v := 98) hx hb dX15_fieldsPlain_318 (by decide) ?_
              refine lv_icmp_ne (tgt := 333) hx hb dX15_fieldsPlain_320 (by decide) (fun c_282 => ?_) (fun c_282 => ?_)
              ·
                refine lv_iload hx hb dX15_fieldsPlain_333 (lv_at hl 2 rfl) ?_
                refine lv_iconst (v := 1) hx hb dX15_fieldsPlain_335 (by decide) ?_
                refine lv_iadd hx hb dX15_fieldsPlain_336 ?_
                refine lv_topi (fun x_283 ex_283 => ?_)
                obtain rfl : x_283 = (nI (i2 + 1)) := ex_283.trans (nI_add i2 1)
                refine lv_istore (lv' := [(4, .int (nI (i2 + 1))), (10, .int w10), (9, .int (nI i3)), (8, .int (nI i2)), (7, .int (nI kv)), (6, .int w6), (5, .int w5), (0, .ref h0), (1, .int (nI jf))]) hx hb dX15_fieldsPlain_337 hl (by decide) rfl (fun ls hl => ?_)
                refine lv_goto (tgt := 207) hx hb dX15_fieldsPlain_339 (by decide) ?_
                refine W.widen (k := 0) (n := 0) (by omega) (by omega) ?_
                exact ih_147 ((i2 + 1), w5, w6) F_252 (⟨by omega, hx3b⟩) (by show 1282 - (i2 + 1) < 1282 - j2; omega) hO hR _ _ hP hD hS ls (lv_sub hl [4, 5, 6, 0, 7, 8] rfl)
              ·
                refine lv_iload hx hb dX15_fieldsPlain_323 (lv_at hl 1 rfl) ?_
                refine lv_iconst (v := 1) hx hb dX15_fieldsPlain_325 (by decide) ?_
                refine lv_iadd hx hb dX15_fieldsPlain_326 ?_
                refine lv_topi (fun x_284 ex_284 => ?_)
                obtain rfl : x_284 = (nI (i3 + 1)) := ex_284.trans (nI_add i3 1)
                refine lv_istore (lv' := [(5, .int (nI (i3 + 1))), (10, .int w10), (9, .int (nI i3)), (8, .int (nI i2)), (7, .int (nI kv)), (6, .int w6), (4, .int (nI j2)), (0, .ref h0), (1, .int (nI jf))]) hx hb dX15_fieldsPlain_327 hl (by decide) rfl (fun ls hl => ?_)
                refine lv_iload hx hb dX15_fieldsPlain_329 (lv_at hl 3 rfl) ?_
                refine lv_istore (lv' := [(6, .int (nI i2)), (5, .int (nI (i3 + 1))), (10, .int w10), (9, .int (nI i3)), (8, .int (nI i2)), (7, .int (nI kv)), (4, .int (nI j2)), (0, .ref h0), (1, .int (nI jf))]) hx hb dX15_fieldsPlain_331 hl (by decide) rfl (fun ls hl => ?_)
                refine lv_iload hx hb dX15_fieldsPlain_333 (lv_at hl 4 rfl) ?_
                refine lv_iconst (v := 1) hx hb dX15_fieldsPlain_335 (by decide) ?_
                refine lv_iadd hx hb dX15_fieldsPlain_336 ?_
                refine lv_topi (fun x_285 ex_285 => ?_)
                obtain rfl : x_285 = (nI (i2 + 1)) := ex_285.trans (nI_add i2 1)
                refine lv_istore (lv' := [(4, .int (nI (i2 + 1))), (6, .int (nI i2)), (5, .int (nI (i3 + 1))), (10, .int w10), (9, .int (nI i3)), (8, .int (nI i2)), (7, .int (nI kv)), (0, .ref h0), (1, .int (nI jf))]) hx hb dX15_fieldsPlain_337 hl (by decide) rfl (fun ls hl => ?_)
                refine lv_goto (tgt := 207) hx hb dX15_fieldsPlain_339 (by decide) ?_
                refine W.widen (k := 0) (n := 0) (by omega) (by omega) ?_
                exact ih_147 ((i2 + 1), (nI (i3 + 1)), (nI i2)) F_252 (⟨by omega, hx3b⟩) (by show 1282 - (i2 + 1) < 1282 - j2; omega) hO hR _ _ hP hD hS ls (lv_sub hl [6, 1, 2, 0, 7, 8] rfl)
            ·
              refine lv_aload_n hx hb dX15_fieldsPlain_269 rfl (lv_at hl 7 rfl) ?_
              refine pg_get (ci := 15) (v := .ref ml) (C := RX15) (T := TX15) (N := 59) hx hb hts it_15 hown hK hP hL_h0 hF_269 rfl 23 (by decide) (hts _ kt_887) (fun _ h9 => h9) rfl dX15_fieldsPlain_270 ?_
              refine lv_iload hx hb dX15_fieldsPlain_273 (lv_at hl 1 rfl) ?_
              refine pg_bald hx hb hK hP hi_243 1 hF_272 rfl (vp_in_nI (by omega) (by omega)) dX15_fieldsPlain_275 ?_
              refine lv_topi (fun x_286 ex_286 => ?_)
              obtain rfl : x_286 = f_247 i3 := ex_286.trans (congrArg f_247 (show ((nI i3) : Int32).toNatClampNeg = i3 from nI_clamp (by omega)))
              have hFc := pg_free hD hS hA
              refine va_calli (va_runS (As := [.int (f_247 i3)]) (rest := []) ⟨hx, hb, hml, hown, hts⟩ (s_X15_isWhite l dC dI cs ty gm L H.size F_252 (f_247 i3) hW ) ⟨callB_of 1 hts (gi kt_715) rfl rfl rfl (hts _ kt_669) (hts _ kt_716) (by decide +kernel) ⟨Nat.le_of_ble_eq_true rfl, Nat.le_of_ble_eq_true rfl⟩, (hts _ kt_717)⟩ ⟨fun a U g mk q => ⟨q.1, PTm.calling q.2⟩, fun U hU hWm => ⟨rfl, PTm.mk hU hWm hP hK hD hE hO⟩⟩ rfl rfl hl.1 rfl (lv_room (Nat.le_of_ble_eq_true rfl)) dX15_fieldsPlain_276 ⟨by show _ + 0 ≤ 0; omega, by show _ + 0 ≤ 0; omega⟩) hS (fun q _ h => hFc q h) hFc (fun r_287 u t H1 locs ht hvm hw hB hz1 hk1 hS => ?_)
              obtain ⟨F_288, hB1⟩ := hB
              obtain rfl : F_252 = F_288 := (funext (fun a => hB1.2.2.2 a List.not_mem_nil)).symm
              obtain ⟨hP, hD, hO, hR⟩ := QTm.back hB1 ht hFc hR (fun q h => absurd h List.not_mem_nil)
              generalize H1 = H at hP hS ⊢
              have hw : (r_287 = 0 ∨ r_287 = 1) := hw
              have hw_289 := hw
              refine lv_if_ne (tgt := 310) hx hb dX15_fieldsPlain_279 (by decide) (fun c_290 => ?_) (fun c_290 => ?_)
              ·
                refine lv_iinc (v := (nI (i3 + 1))) (lv' := [(9, .int (nI (i3 + 1))), (10, .int w10), (8, .int (nI i2)), (7, .int (nI kv)), (6, .int w6), (5, .int w5), (4, .int (nI j2)), (0, .ref h0), (1, .int (nI jf))]) hx hb dX15_fieldsPlain_310 hl (k := 1) rfl (nI_1 _) (by decide) rfl (fun ls hl => ?_)
                refine lv_goto (tgt := 250) hx hb dX15_fieldsPlain_313 (by decide) ?_
                refine W.widen (k := 0) (n := 0) (by omega) (by omega) ?_
                exact ih_263 ((i3 + 1), w10) F_252 (⟨⟨by omega, by omega⟩, hx3b⟩) (by show i2 - (i3 + 1) < i2 - i3; omega) hO hR _ _ hP hD hS ls (lv_sub hl [1, 0, 2, 3, 4, 5, 6, 7, 8] rfl)
              ·
                refine lv_aload_n hx hb dX15_fieldsPlain_282 rfl (lv_at hl 7 rfl) ?_
                refine pg_get (ci := 15) (v := .ref ml) (C := RX15) (T := TX15) (N := 59) hx hb hts it_15 hown hK hP hL_h0 hF_269 rfl 23 (by decide) (hts _ kt_887) (fun _ h9 => h9) rfl dX15_fieldsPlain_283 ?_
                refine lv_iload hx hb dX15_fieldsPlain_286 (lv_at hl 1 rfl) ?_
                refine pg_bald hx hb hK hP hi_243 1 hF_272 rfl (vp_in_nI (by omega) (by omega)) dX15_fieldsPlain_288 ?_
                refine lv_topi (fun x_291 ex_291 => ?_)
                obtain rfl : x_291 = f_247 i3 := ex_291.trans (congrArg f_247 (show ((nI i3) : Int32).toNatClampNeg = i3 from nI_clamp (by omega)))
                refine lv_bipush (v := 10) hx hb dX15_fieldsPlain_289 (by decide) ?_
                refine lv_icmp_eq (tgt := 310) hx hb dX15_fieldsPlain_291 (by decide) (fun c_292 => ?_) (fun c_292 => ?_)
                ·
                  refine lv_iinc (v := (nI (i3 + 1))) (lv' := [(9, .int (nI (i3 + 1))), (10, .int w10), (8, .int (nI i2)), (7, .int (nI kv)), (6, .int w6), (5, .int w5), (4, .int (nI j2)), (0, .ref h0), (1, .int (nI jf))]) hx hb dX15_fieldsPlain_310 hl (k := 1) rfl (nI_1 _) (by decide) rfl (fun ls hl => ?_)
                  refine lv_goto (tgt := 250) hx hb dX15_fieldsPlain_313 (by decide) ?_
                  refine W.widen (k := 0) (n := 0) (by omega) (by omega) ?_
                  exact ih_263 ((i3 + 1), w10) F_252 (⟨⟨by omega, by omega⟩, hx3b⟩) (by show i2 - (i3 + 1) < i2 - i3; omega) hO hR _ _ hP hD hS ls (lv_sub hl [1, 0, 2, 3, 4, 5, 6, 7, 8] rfl)
                ·
                  refine lv_sipush (v := 256) hx hb dX15_fieldsPlain_294 (by decide) ?_
                  refine lv_iload hx hb dX15_fieldsPlain_297 (lv_at hl 0 rfl) ?_
                  refine lv_imul hx hb dX15_fieldsPlain_299 ?_
                  refine lv_topi (fun x_293 ex_293 => ?_)
                  refine lv_aload_n hx hb dX15_fieldsPlain_300 rfl (lv_at hl 7 rfl) ?_
                  refine pg_get (ci := 15) (v := .ref ml) (C := RX15) (T := TX15) (N := 59) hx hb hts it_15 hown hK hP hL_h0 hF_269 rfl 23 (by decide) (hts _ kt_887) (fun _ h9 => h9) rfl dX15_fieldsPlain_301 ?_
                  refine lv_iload hx hb dX15_fieldsPlain_304 (lv_at hl 1 rfl) ?_
                  refine pg_bald hx hb hK hP hi_243 1 hF_272 rfl (vp_in_nI (by omega) (by omega)) dX15_fieldsPlain_306 ?_
                  refine lv_topi (fun x_294 ex_294 => ?_)
                  obtain rfl : x_294 = f_247 i3 := ex_294.trans (congrArg f_247 (show ((nI i3) : Int32).toNatClampNeg = i3 from nI_clamp (by omega)))
                  refine lv_iadd hx hb dX15_fieldsPlain_307 ?_
                  refine lv_topi (fun x_295 ex_295 => ?_)
                  refine lv_istore (lv' := [(10, .int x_295), (9, .int (nI i3)), (8, .int (nI i2)), (7, .int (nI kv)), (6, .int w6), (5, .int w5), (4, .int (nI j2)), (0, .ref h0), (1, .int (nI jf))]) hx hb dX15_fieldsPlain_308 hl (by decide) rfl (fun ls hl => ?_)
                  refine lv_iinc (v := (nI (i3 + 1))) (lv' := [(9, .int (nI (i3 + 1))), (10, .int x_295), (8, .int (nI i2)), (7, .int (nI kv)), (6, .int w6), (5, .int w5), (4, .int (nI j2)), (0, .ref h0), (1, .int (nI jf))]) hx hb dX15_fieldsPlain_310 hl (k := 1) rfl (nI_1 _) (by decide) rfl (fun ls hl => ?_)
                  refine lv_goto (tgt := 250) hx hb dX15_fieldsPlain_313 (by decide) ?_
                  refine W.widen (k := 0) (n := 0) (by omega) (by omega) ?_
                  exact ih_263 ((i3 + 1), x_295) F_252 (⟨⟨by omega, by omega⟩, hx3b⟩) (by show i2 - (i3 + 1) < i2 - i3; omega) hO hR _ _ hP hD hS ls (lv_sub hl [1, 0, 2, 3, 4, 5, 6, 7, 8] rfl)
        ·
          refine lv_iinc (v := (nI (i2 + 1))) (lv' := [(8, .int (nI (i2 + 1))), (10, .int 0), (9, .int (nI j2)), (7, .int (nI kv)), (6, .int w6), (5, .int w5), (4, .int (nI j2)), (0, .ref h0), (1, .int (nI jf))]) hx hb dX15_fieldsPlain_244 hl (k := 2) rfl (nI_1 _) (by decide) rfl (fun ls hl => ?_)
          refine lv_goto (tgt := 225) hx hb dX15_fieldsPlain_247 (by decide) ?_
          refine W.widen (k := 0) (n := 0) (by omega) (by omega) ?_
          exact ih_182 (i2 + 1) F_172 (⟨⟨by omega, by omega⟩, hx2b⟩) (by show kv - (i2 + 1) < kv - i2; omega) hO hR _ _ hP hD hS ls (lv_sub hl [1, 2, 0, 3, 4, 5, 6, 7, 8] rfl)
  ·
    have hi_296 : j ≤ k_121 := Nat.not_lt.mp (fun q => c_125 ((nI_ltI (a := k_121) (b := j) (by omega) (by omega)).mpr q))
    refine lv_iload hx hb dX15_fieldsPlain_65 (lv_at hl 0 rfl) ?_
    refine lv_istore (lv' := [(5, .int (nI j)), (4, .int (nI j)), (3, .ref sb), (2, .int (nI kh)), (0, .ref h0), (1, .int (nI jf))]) hx hb dX15_fieldsPlain_67 hl (by decide) rfl (fun ls hl => ?_)
    refine W.widen (k := 0) (n := 0) (by omega) (by omega) ?_
    have hF_298 : F sb = .inl (cs 17, 3000, .inl eb) := (hR sb (by rw [ht_39]; simp)).symm.trans hF_113
    have hF_299 : F s0 = .inl (cs 16, 40, .inl e0) := (hR s0 (by rw [ht_33]; simp)).symm.trans hF_114
    have hF_300 : F s1 = .inl (cs 16, 40, .inl e1) := (hR s1 (by rw [ht_34]; simp)).symm.trans hF_115
    have hF_301 : F s2 = .inl (cs 16, 40, .inl e2) := (hR s2 (by rw [ht_35]; simp)).symm.trans hF_116
    have hF_302 : F se = .inr (13, [.ref sx, .ref s0, .ref s1, .ref s2, .int (nI zs)]) := (hR se (by rw [ht_29]; simp)).symm.trans hF_117
    have hF_303 : F h0 = .inr (15, (.ref ta) :: (.int (nI zt)) :: (.int (nI zo_46)) :: (.int (nI ze)) :: (.ref ou) :: (.ref so) :: (.ref ad) :: (.ref na) :: (.ref va) :: (.ref lc) :: (.ref dm) :: (.int (nI fm)) :: (.int (nI sn)) :: (.ref tg) :: (.int v14_47) :: (.int v15_48) :: (.ref pe) :: (.int v17_49) :: (.int v18_50) :: (.int v19_51) :: (.int v20_52) :: (.int v21_53) :: (.int v22_54) :: (.ref ml) :: (.ref bg) :: (.ref co) :: (.ref sp) :: (.ref nb0) :: (.ref nb1) :: (.ref nb2) :: (.int (nI nf)) :: (.int (nI bd)) :: (.int (nI mm)) :: (.int v33_55) :: (.ref pl) :: (.ref se) :: (.ref ke) :: (.ref wi) :: (.ref hs) :: (.ref mo) :: (.ref po) :: (.ref nu) :: (.ref pr) :: (.ref sq) :: (.ref xa) :: (.ref sa) :: (.ref n64) :: (.ref m64) :: (.ref ex) :: (.ref wh) :: (.ref sd) :: (.ref tk) :: (.int v52_56) :: (.int v53_57) :: (.int v54_58) :: (.ref hd) :: (.ref ak) :: (.ref ho) :: (.ref ot) :: []) := (hR h0 (by rw [hT_h0]; simp)).symm.trans hF_118
    have hF_304 : F sx = .inr (14, [.ref sb, .int (nI z_94)]) := (hR sx (by rw [hT_sx]; simp)).symm.trans hF_119
    refine pl_loopm (σ := Nat) A (dC, dI) cs ty gm L [ρ + 10, ρ + 26] F 69 11 (fun i => [(5, .int (nI i)), (4, .int (nI j)), (3, .ref sb), (2, .int (nI kh)), (0, .ref h0), (1, .int (nI jf))]) (fun i => []) (fun i FF => j ≤ i ∧ i ≤ 1281 ∧ FF pl = .inr (14, [.ref rl, .int (nI zz)]) ∧ FF tk = .inl (cs 18, 20, .inl ft)) (fun i => 1281 - i) ?_ j F_103 (⟨by omega, by omega, hp3, hp4⟩) hO hR _ _ hP hD hS ls (lv_sub hl [0, 1, 2, 3, 4, 5] rfl)
    rintro i F_297 hv_305 hO hR ih_306 H locs hP hD hS ls hl
    have hl : lv_has ls 11 [(5, .int (nI i)), (4, .int (nI j)), (3, .ref sb), (2, .int (nI kh)), (0, .ref h0), (1, .int (nI jf))] := hl
    have hv_305 : j ≤ i ∧ i ≤ 1281 ∧ F_297 pl = .inr (14, [.ref rl, .int (nI zz)]) ∧ F_297 tk = .inl (cs 18, 20, .inl ft) := hv_305
    refine W.eq (g2 := F0 m 69 ls []) rfl ?_
    have hF_307 : F_297 sb = .inl (cs 17, 3000, .inl eb) := (hR sb (by rw [ht_39]; simp)).trans hF_298
    have hF_308 : F_297 s0 = .inl (cs 16, 40, .inl e0) := (hR s0 (by rw [ht_33]; simp)).trans hF_299
    have hF_309 : F_297 s1 = .inl (cs 16, 40, .inl e1) := (hR s1 (by rw [ht_34]; simp)).trans hF_300
    have hF_310 : F_297 s2 = .inl (cs 16, 40, .inl e2) := (hR s2 (by rw [ht_35]; simp)).trans hF_301
    have hF_311 : F_297 se = .inr (13, [.ref sx, .ref s0, .ref s1, .ref s2, .int (nI zs)]) := (hR se (by rw [ht_29]; simp)).trans hF_302
    have hF_312 : F_297 h0 = .inr (15, (.ref ta) :: (.int (nI zt)) :: (.int (nI zo_46)) :: (.int (nI ze)) :: (.ref ou) :: (.ref so) :: (.ref ad) :: (.ref na) :: (.ref va) :: (.ref lc) :: (.ref dm) :: (.int (nI fm)) :: (.int (nI sn)) :: (.ref tg) :: (.int v14_47) :: (.int v15_48) :: (.ref pe) :: (.int v17_49) :: (.int v18_50) :: (.int v19_51) :: (.int v20_52) :: (.int v21_53) :: (.int v22_54) :: (.ref ml) :: (.ref bg) :: (.ref co) :: (.ref sp) :: (.ref nb0) :: (.ref nb1) :: (.ref nb2) :: (.int (nI nf)) :: (.int (nI bd)) :: (.int (nI mm)) :: (.int v33_55) :: (.ref pl) :: (.ref se) :: (.ref ke) :: (.ref wi) :: (.ref hs) :: (.ref mo) :: (.ref po) :: (.ref nu) :: (.ref pr) :: (.ref sq) :: (.ref xa) :: (.ref sa) :: (.ref n64) :: (.ref m64) :: (.ref ex) :: (.ref wh) :: (.ref sd) :: (.ref tk) :: (.int v52_56) :: (.int v53_57) :: (.int v54_58) :: (.ref hd) :: (.ref ak) :: (.ref ho) :: (.ref ot) :: []) := (hR h0 (by rw [hT_h0]; simp)).trans hF_303
    have hF_313 : F_297 sx = .inr (14, [.ref sb, .int (nI z_94)]) := (hR sx (by rw [hT_sx]; simp)).trans hF_304
    obtain ⟨hq1, hq2, hq3, hq4⟩ := hv_305
    refine lv_iload hx hb dX15_fieldsPlain_69 (lv_at hl 0 rfl) ?_
    refine lv_aload_n hx hb dX15_fieldsPlain_71 rfl (lv_at hl 4 rfl) ?_
    refine pg_get (ci := 15) (v := .ref se) (C := RX15) (T := TX15) (N := 59) hx hb hts it_15 hown hK hP hL_h0 hF_312 rfl 35 (by decide) (hts _ kt_847) (fun _ h9 => h9) rfl dX15_fieldsPlain_72 ?_
    refine pg_get (ci := 13) (v := .ref s2) (C := RX13) (T := TX13) (N := 5) hx hb hts it_13 hown hK hP hi_28 hF_311 rfl 3 (by decide) (hts _ kt_841) (fun _ h9 => h9) rfl dX15_fieldsPlain_75 ?_
    refine lv_iload_n hx hb dX15_fieldsPlain_78 rfl (lv_at hl 3 rfl) ?_
    refine pg_iald hx hb hK hP hi_32 0 hF_310 rfl (vp_in_nI (by omega) (by omega)) dX15_fieldsPlain_79 ?_
    refine lv_topi (fun x_314 ex_314 => ?_)
    obtain rfl : x_314 = nI k_121 := ex_314.trans ek_123
    refine lv_icmp_ge (tgt := 98) hx hb dX15_fieldsPlain_80 (by decide) (fun c_315 => ?_) (fun c_315 => ?_)
    ·
      have hi_316 : k_121 ≤ i := leN (N := k_121) c_315
      refine lv_aload_n hx hb dX15_fieldsPlain_98 rfl (lv_at hl 4 rfl) ?_
      refine pg_get (ci := 15) (v := .int (nI nf)) (C := RX15) (T := TX15) (N := 59) hx hb hts it_15 hown hK hP hL_h0 hF_312 rfl 30 (by decide) (hts _ kt_892) (fun _ h9 => h9) rfl dX15_fieldsPlain_99 ?_
      refine lv_iconst (v := 1) hx hb dX15_fieldsPlain_102 (by decide) ?_
      refine lv_isub hx hb dX15_fieldsPlain_103 ?_
      refine lv_topi (fun x_317 ex_317 => ?_)
      obtain rfl : x_317 = (nI nf - 1) := ex_317.trans (rfl)
      refine lv_istore (lv' := [(6, .int (nI nf - 1)), (5, .int (nI i)), (4, .int (nI j)), (3, .ref sb), (2, .int (nI kh)), (0, .ref h0), (1, .int (nI jf))]) hx hb dX15_fieldsPlain_104 hl (by decide) rfl (fun ls hl => ?_)
      refine W.widen (k := 0) (n := 0) (by omega) (by omega) ?_
      have hF_319 : F sb = .inl (cs 17, 3000, .inl eb) := (hR sb (by rw [ht_39]; simp)).symm.trans hF_307
      have hF_320 : F s0 = .inl (cs 16, 40, .inl e0) := (hR s0 (by rw [ht_33]; simp)).symm.trans hF_308
      have hF_321 : F s1 = .inl (cs 16, 40, .inl e1) := (hR s1 (by rw [ht_34]; simp)).symm.trans hF_309
      have hF_322 : F s2 = .inl (cs 16, 40, .inl e2) := (hR s2 (by rw [ht_35]; simp)).symm.trans hF_310
      have hF_323 : F se = .inr (13, [.ref sx, .ref s0, .ref s1, .ref s2, .int (nI zs)]) := (hR se (by rw [ht_29]; simp)).symm.trans hF_311
      have hF_324 : F h0 = .inr (15, (.ref ta) :: (.int (nI zt)) :: (.int (nI zo_46)) :: (.int (nI ze)) :: (.ref ou) :: (.ref so) :: (.ref ad) :: (.ref na) :: (.ref va) :: (.ref lc) :: (.ref dm) :: (.int (nI fm)) :: (.int (nI sn)) :: (.ref tg) :: (.int v14_47) :: (.int v15_48) :: (.ref pe) :: (.int v17_49) :: (.int v18_50) :: (.int v19_51) :: (.int v20_52) :: (.int v21_53) :: (.int v22_54) :: (.ref ml) :: (.ref bg) :: (.ref co) :: (.ref sp) :: (.ref nb0) :: (.ref nb1) :: (.ref nb2) :: (.int (nI nf)) :: (.int (nI bd)) :: (.int (nI mm)) :: (.int v33_55) :: (.ref pl) :: (.ref se) :: (.ref ke) :: (.ref wi) :: (.ref hs) :: (.ref mo) :: (.ref po) :: (.ref nu) :: (.ref pr) :: (.ref sq) :: (.ref xa) :: (.ref sa) :: (.ref n64) :: (.ref m64) :: (.ref ex) :: (.ref wh) :: (.ref sd) :: (.ref tk) :: (.int v52_56) :: (.int v53_57) :: (.int v54_58) :: (.ref hd) :: (.ref ak) :: (.ref ho) :: (.ref ot) :: []) := (hR h0 (by rw [hT_h0]; simp)).symm.trans hF_312
      have hF_325 : F sx = .inr (14, [.ref sb, .int (nI z_94)]) := (hR sx (by rw [hT_sx]; simp)).symm.trans hF_313
      refine pl_loopm (σ := Int32) A (dC, dI) cs ty gm L [ρ + 10, ρ + 26] F 106 11 (fun i1 => [(6, .int i1), (5, .int (nI i)), (4, .int (nI j)), (3, .ref sb), (2, .int (nI kh)), (0, .ref h0), (1, .int (nI jf))]) (fun i1 => []) (fun i1 FF => (∃ q : Nat, q ≤ nf ∧ i1 = nI q - 1) ∧ FF pl = .inr (14, [.ref rl, .int (nI zz)]) ∧ FF tk = .inl (cs 18, 20, .inl ft)) (fun i1 => (i1.toInt + 1).toNat) ?_ (nI nf - 1) F_297 (⟨⟨nf, Nat.le_refl _, rfl⟩, hq3, hq4⟩) hO hR _ _ hP hD hS ls (lv_sub hl [0, 1, 2, 3, 4, 5, 6] rfl)
      rintro i1 F_318 hv_326 hO hR ih_327 H locs hP hD hS ls hl
      have hl : lv_has ls 11 [(6, .int i1), (5, .int (nI i)), (4, .int (nI j)), (3, .ref sb), (2, .int (nI kh)), (0, .ref h0), (1, .int (nI jf))] := hl
      have hv_326 : (∃ q : Nat, q ≤ nf ∧ i1 = nI q - 1) ∧ F_318 pl = .inr (14, [.ref rl, .int (nI zz)]) ∧ F_318 tk = .inl (cs 18, 20, .inl ft) := hv_326
      refine W.eq (g2 := F0 m 106 ls []) rfl ?_
      have hF_328 : F_318 sb = .inl (cs 17, 3000, .inl eb) := (hR sb (by rw [ht_39]; simp)).trans hF_319
      have hF_329 : F_318 s0 = .inl (cs 16, 40, .inl e0) := (hR s0 (by rw [ht_33]; simp)).trans hF_320
      have hF_330 : F_318 s1 = .inl (cs 16, 40, .inl e1) := (hR s1 (by rw [ht_34]; simp)).trans hF_321
      have hF_331 : F_318 s2 = .inl (cs 16, 40, .inl e2) := (hR s2 (by rw [ht_35]; simp)).trans hF_322
      have hF_332 : F_318 se = .inr (13, [.ref sx, .ref s0, .ref s1, .ref s2, .int (nI zs)]) := (hR se (by rw [ht_29]; simp)).trans hF_323
      have hF_333 : F_318 h0 = .inr (15, (.ref ta) :: (.int (nI zt)) :: (.int (nI zo_46)) :: (.int (nI ze)) :: (.ref ou) :: (.ref so) :: (.ref ad) :: (.ref na) :: (.ref va) :: (.ref lc) :: (.ref dm) :: (.int (nI fm)) :: (.int (nI sn)) :: (.ref tg) :: (.int v14_47) :: (.int v15_48) :: (.ref pe) :: (.int v17_49) :: (.int v18_50) :: (.int v19_51) :: (.int v20_52) :: (.int v21_53) :: (.int v22_54) :: (.ref ml) :: (.ref bg) :: (.ref co) :: (.ref sp) :: (.ref nb0) :: (.ref nb1) :: (.ref nb2) :: (.int (nI nf)) :: (.int (nI bd)) :: (.int (nI mm)) :: (.int v33_55) :: (.ref pl) :: (.ref se) :: (.ref ke) :: (.ref wi) :: (.ref hs) :: (.ref mo) :: (.ref po) :: (.ref nu) :: (.ref pr) :: (.ref sq) :: (.ref xa) :: (.ref sa) :: (.ref n64) :: (.ref m64) :: (.ref ex) :: (.ref wh) :: (.ref sd) :: (.ref tk) :: (.int v52_56) :: (.int v53_57) :: (.int v54_58) :: (.ref hd) :: (.ref ak) :: (.ref ho) :: (.ref ot) :: []) := (hR h0 (by rw [hT_h0]; simp)).trans hF_324
      have hF_334 : F_318 sx = .inr (14, [.ref sb, .int (nI z_94)]) := (hR sx (by rw [hT_sx]; simp)).trans hF_325
      obtain ⟨hr1, hr2, hr3⟩ := hv_326
      refine lv_iload hx hb dX15_fieldsPlain_106 (lv_at hl 0 rfl) ?_
      refine lv_if_lt (tgt := 141) hx hb dX15_fieldsPlain_108 (by decide) (fun c_335 => ?_) (fun c_335 => ?_)
      ·
        refine lv_iload hx hb dX15_fieldsPlain_141 (lv_at hl 0 rfl) ?_
        refine lv_if_lt (tgt := 175) hx hb dX15_fieldsPlain_143 (by decide) (fun c_336 => ?_) (fun c_336 => absurd (c_335) c_336)
        refine lv_iload hx hb dX15_fieldsPlain_175 (lv_at hl 1 rfl) ?_
        refine lv_iconst (v := 1) hx hb dX15_fieldsPlain_177 (by decide) ?_
        refine lv_iadd hx hb dX15_fieldsPlain_178 ?_
        refine lv_topi (fun x_337 ex_337 => ?_)
        obtain rfl : x_337 = (nI (i + 1)) := ex_337.trans (nI_add i 1)
        refine lv_istore (lv' := [(4, .int (nI (i + 1))), (6, .int i1), (5, .int (nI i)), (3, .ref sb), (2, .int (nI kh)), (0, .ref h0), (1, .int (nI jf))]) hx hb dX15_fieldsPlain_179 hl (by decide) rfl (fun ls hl => ?_)
        refine lv_goto (tgt := 51) hx hb dX15_fieldsPlain_181 (by decide) ?_
        refine W.widen (k := 0) (n := 0) (by omega) (by omega) ?_
        exact ih_112 ((i + 1), zz, ft) F_318 (⟨by omega, by omega, hr2, hr3⟩) (by show 1282 - (i + 1) < 1282 - j; omega) hO hR _ _ hP hD hS ls (lv_sub hl [0, 3, 4, 5, 6] rfl)
      ·
        obtain ⟨k, hkn, rfl⟩ := dn_pos hr1 c_335
        have hok := hgO k hkn
        refine lv_aload_n hx hb dX15_fieldsPlain_111 rfl (lv_at hl 5 rfl) ?_
        refine pg_get (ci := 15) (v := .ref tk) (C := RX15) (T := TX15) (N := 59) hx hb hts it_15 hown hK hP hL_h0 hF_333 rfl 51 (by decide) (hts _ kt_943) (fun _ h9 => h9) rfl dX15_fieldsPlain_112 ?_
        refine lv_iload hx hb dX15_fieldsPlain_115 (lv_at hl 0 rfl) ?_
        refine pg_zald hx hb hK hP hi_44 2 hr3 rfl (vp_in_nI (by omega) (by omega)) dX15_fieldsPlain_117 ?_
        refine lv_topi (fun x_338 ex_338 => ?_)
        obtain rfl : x_338 = ft k := ex_338.trans (congrArg ft (show ((nI k) : Int32).toNatClampNeg = k from nI_clamp (by omega)))
        refine lv_if_ne (tgt := 135) hx hb dX15_fieldsPlain_118 (by decide) (fun c_339 => ?_) (fun c_339 => ?_)
        ·
          refine lv_iinc (v := (nI k + Int32.ofInt (-1))) (lv' := [(6, .int (nI k + Int32.ofInt (-1))), (5, .int (nI i)), (4, .int (nI j)), (3, .ref sb), (2, .int (nI kh)), (0, .ref h0), (1, .int (nI jf))]) hx hb dX15_fieldsPlain_135 hl (k := 0) rfl (rfl) (by decide) rfl (fun ls hl => ?_)
          refine lv_goto (tgt := 106) hx hb dX15_fieldsPlain_138 (by decide) ?_
          refine W.widen (k := 0) (n := 0) (by omega) (by omega) ?_
          exact ih_327 (nI k + Int32.ofInt (-1)) F_318 (⟨⟨k, by omega, dn_st k⟩, hr2, hr3⟩) (by show ((nI k + Int32.ofInt (-1)).toInt + 1).toNat < ((nI k).toInt + 1).toNat; exact dn_mu (by omega)) hO hR _ _ hP hD hS ls (lv_sub hl [0, 1, 2, 3, 4, 5, 6] rfl)
        ·
          have hft0 : ft k = 0 := c_339
          refine lv_aload_n hx hb dX15_fieldsPlain_121 rfl (lv_at hl 5 rfl) ?_
          refine lv_iload hx hb dX15_fieldsPlain_122 (lv_at hl 0 rfl) ?_
          refine lv_aload_n hx hb dX15_fieldsPlain_124 rfl (lv_at hl 3 rfl) ?_
          refine lv_iload hx hb dX15_fieldsPlain_125 (lv_at hl 2 rfl) ?_
          refine lv_iload hx hb dX15_fieldsPlain_127 (lv_at hl 1 rfl) ?_
          obtain ⟨hq_340, hq_341⟩ := hW.octs hi_38 ht_39
          have hFc := pg_free hD hS hA
          refine va_calli (va_runV (As := [.int (nI k), .ref sb, .int (nI j), .int (nI i)]) (rest := []) ⟨hx, hb, hml, hown, hts⟩ (s_X15_isAlikeTo l dC dI cs ty gm L H.size F_318 h0 ρ ta ou so ad na va lc dm tg pe ml bg co sp nb0 nb1 nb2 pl se ke wi hs mo po nu pr sq xa sa n64 m64 ex wh sd tk hd ak ho ot sx s0 s1 s2 nf bd mm fm sn hg gc gv ze zt sb (ρ + 12) 3000 k j i hW hL_h0 hT_h0 hi_38 ht_39 (by first | omega | assumption | exact Or.inl rfl) (by first | omega | assumption | exact Or.inl rfl) (by first | omega | assumption | exact Or.inl rfl)) ⟨callB_of 4 hts (gi kt_947) rfl rfl rfl (hts _ kt_669) (hts _ kt_948) (by decide +kernel) ⟨Nat.le_of_ble_eq_true rfl, Nat.le_of_ble_eq_true rfl⟩, (hts _ kt_949), (hts _ kt_950)⟩ ⟨fun a U g mk q => ⟨q.1, PTm.calling q.2⟩, pg_recv hK hP hL_h0 hF_333 (q := (RX15, TX15, 59)) rfl, fun U hU hWm => ⟨rfl, PTm.mk hU hWm hP hK hD hE hO⟩⟩ rfl rfl hl.1 rfl (lv_room (Nat.le_of_ble_eq_true rfl)) dX15_fieldsPlain_129 ⟨by show _ + 0 ≤ 0; omega, by show _ + 0 ≤ 0; omega⟩) hS (fun q _ h => hFc q h) hFc (fun r_342 u t H1 locs ht hvm hw hB hz1 hk1 hS => ?_)
          obtain ⟨F_343, hB1⟩ := hB
          obtain rfl : F_318 = F_343 := (funext (fun a => hB1.2.2.2 a List.not_mem_nil)).symm
          obtain ⟨hP, hD, hO, hR⟩ := QTm.back hB1 ht hFc hR (fun q h => absurd h List.not_mem_nil)
          generalize H1 = H at hP hS ⊢
          have hw : (r_342 = 0 ∨ r_342 = 1) := hw
          have hw_344 := hw
          refine lv_if_ne (tgt := 141) hx hb dX15_fieldsPlain_132 (by decide) (fun c_345 => ?_) (fun c_345 => ?_)
          ·
            refine lv_iload hx hb dX15_fieldsPlain_141 (lv_at hl 0 rfl) ?_
            refine lv_if_lt (tgt := 175) hx hb dX15_fieldsPlain_143 (by decide) (fun c_346 => absurd c_346 (nI_pos (by omega))) (fun c_346 => ?_)
            refine lv_aload_n hx hb dX15_fieldsPlain_146 rfl (lv_at hl 5 rfl) ?_
            refine pg_get (ci := 15) (v := .ref tk) (C := RX15) (T := TX15) (N := 59) hx hb hts it_15 hown hK hP hL_h0 hF_333 rfl 51 (by decide) (hts _ kt_943) (fun _ h9 => h9) rfl dX15_fieldsPlain_147 ?_
            refine lv_iload hx hb dX15_fieldsPlain_150 (lv_at hl 0 rfl) ?_
            refine lv_iconst (v := 1) hx hb dX15_fieldsPlain_152 (by decide) ?_
            refine pg_zast hx hb hK hP hD hS hi_44 2 hr3 rfl (vp_in_nI (by omega) (by omega)) dX15_fieldsPlain_153 (fun H locs hP hD hS => ?_)
            obtain ⟨F_347, he_348, hP, hD, hO, hR⟩ : ∃ G, G = va_up F_318 tk (.inl (cs 18, 20, .inl (upd ft ((nI k)).toNatClampNeg (vp_nar .boolean (1))))) ∧ va_P (dC, dI) vwCl (va_pl L G) H ∧ va_D A (va_pl L G) ∧ OKm cs ty gm L G ∧ FR ty [ρ + 10, ρ + 26] F G := ⟨_, rfl, hP, hD, hO.up (shm.bits ht_45 ⟨_, rfl⟩), hR.up ht_45 (by simp)⟩
            have hF_349 : F_347 tk = .inl (cs 18, 20, .inl (upd ft ((nI k)).toNatClampNeg (vp_nar .boolean (1)))) := by rw [he_348]; exact up_self
            have hF_350 : F_347 sb = .inl (cs 17, 3000, .inl eb) := by rw [he_348, up_ne (ne_ty ht_39 ht_45 (by simp))]; exact hF_328
            have hF_351 : F_347 s0 = .inl (cs 16, 40, .inl e0) := by rw [he_348, up_ne (ne_ty ht_33 ht_45 (by simp))]; exact hF_329
            have hF_352 : F_347 s1 = .inl (cs 16, 40, .inl e1) := by rw [he_348, up_ne (ne_ty ht_34 ht_45 (by simp))]; exact hF_330
            have hF_353 : F_347 s2 = .inl (cs 16, 40, .inl e2) := by rw [he_348, up_ne (ne_ty ht_35 ht_45 (by simp))]; exact hF_331
            have hF_354 : F_347 se = .inr (13, [.ref sx, .ref s0, .ref s1, .ref s2, .int (nI zs)]) := by rw [he_348, up_ne (ne_ty ht_29 ht_45 (by simp))]; exact hF_332
            have hF_355 : F_347 h0 = .inr (15, (.ref ta) :: (.int (nI zt)) :: (.int (nI zo_46)) :: (.int (nI ze)) :: (.ref ou) :: (.ref so) :: (.ref ad) :: (.ref na) :: (.ref va) :: (.ref lc) :: (.ref dm) :: (.int (nI fm)) :: (.int (nI sn)) :: (.ref tg) :: (.int v14_47) :: (.int v15_48) :: (.ref pe) :: (.int v17_49) :: (.int v18_50) :: (.int v19_51) :: (.int v20_52) :: (.int v21_53) :: (.int v22_54) :: (.ref ml) :: (.ref bg) :: (.ref co) :: (.ref sp) :: (.ref nb0) :: (.ref nb1) :: (.ref nb2) :: (.int (nI nf)) :: (.int (nI bd)) :: (.int (nI mm)) :: (.int v33_55) :: (.ref pl) :: (.ref se) :: (.ref ke) :: (.ref wi) :: (.ref hs) :: (.ref mo) :: (.ref po) :: (.ref nu) :: (.ref pr) :: (.ref sq) :: (.ref xa) :: (.ref sa) :: (.ref n64) :: (.ref m64) :: (.ref ex) :: (.ref wh) :: (.ref sd) :: (.ref tk) :: (.int v52_56) :: (.int v53_57) :: (.int v54_58) :: (.ref hd) :: (.ref ak) :: (.ref ho) :: (.ref ot) :: []) := by rw [he_348, up_ne (ne_ty hT_h0 ht_45 (by simp))]; exact hF_333
            have hF_356 : F_347 sx = .inr (14, [.ref sb, .int (nI z_94)]) := by rw [he_348, up_ne (ne_ty hT_sx ht_45 (by simp))]; exact hF_334
            have hF_357 : F_347 pl = .inr (14, [.ref rl, .int (nI zz)]) := by rw [he_348, up_ne (ne_ty hT_pl ht_45 (by simp))]; exact hr2
            obtain ⟨f_358, hF_349, hfe_359⟩ : ∃ f : Nat → Int32, F_347 tk = .inl (cs 18, 20, .inl f) ∧ f = upd ft ((nI k)).toNatClampNeg (vp_nar .boolean (1)) := ⟨_, hF_349, rfl⟩
            refine lv_aload_n hx hb dX15_fieldsPlain_154 rfl (lv_at hl 5 rfl) ?_
            refine lv_iload hx hb dX15_fieldsPlain_155 (lv_at hl 0 rfl) ?_
            refine lv_aload_n hx hb dX15_fieldsPlain_157 rfl (lv_at hl 5 rfl) ?_
            refine pg_get (ci := 15) (v := .int v52_56) (C := RX15) (T := TX15) (N := 59) hx hb hts it_15 hown hK hP hL_h0 hF_355 rfl 52 (by decide) (hts _ kt_857) (fun _ h9 => h9) rfl dX15_fieldsPlain_158 ?_
            refine lv_iconst (v := 0) hx hb dX15_fieldsPlain_161 (by decide) ?_
            refine lv_iconst (v := 0) hx hb dX15_fieldsPlain_162 (by decide) ?_
            have hFc := pg_free hD hS hA
            refine va_callv (va_runV (As := [.int (nI k), .int v52_56, .int 0, .int 0]) (rest := []) ⟨hx, hb, hml, hown, hts⟩ (s_X15_fieldPlain l dC dI cs ty gm L H.size F_347 h0 ρ ta ou so ad na va lc dm tg pe ml bg co sp nb0 nb1 nb2 pl se ke wi hs mo po nu pr sq xa sa n64 m64 ex wh sd tk hd ak ho ot sx s0 s1 s2 nf bd mm fm sn hg gc gv ze zt rl k zz v52_56 0 0 hW hL_h0 hT_h0 hL_pl hT_pl (by first | omega | assumption | exact Or.inl rfl) hF_357 (by first | omega | assumption | exact Or.inl rfl)) ⟨callB_of 4 hts (gi kt_918) rfl rfl rfl (hts _ kt_669) (hts _ kt_919) (by decide +kernel) ⟨Nat.le_of_ble_eq_true rfl, Nat.le_of_ble_eq_true rfl⟩, (hts _ kt_920), (hts _ kt_921)⟩ ⟨fun a U g mk q => ⟨q.1, PTm.calling q.2⟩, pg_recv hK hP hL_h0 hF_355 (q := (RX15, TX15, 59)) rfl, fun U hU hWm => ⟨rfl, PTm.mk hU hWm hP hK hD hE hO⟩⟩ rfl rfl hl.1 rfl (lv_room (Nat.le_of_ble_eq_true rfl)) dX15_fieldsPlain_163 ⟨by show _ + 0 ≤ 0; omega, by show _ + 0 ≤ 0; omega⟩) hS (fun q _ h => hFc q h) hFc (fun u t H1 locs ht hvm hw hB hz1 hk1 hS => ?_)
            obtain ⟨F_361, z2_362, hB1, hq_363, hq_364⟩ := hB
            obtain ⟨hP, hD, hO, hR⟩ := QTm.back hB1 ht hFc hR (fun q h => by simp only [List.mem_cons, List.not_mem_nil, or_false] at h ⊢; omega)
            have hF_365 : F_361 tk = .inl (cs 18, 20, .inl f_358) := (hB1.2.2.2 tk (by rw [ht_45]; simp)).trans hF_349
            have hF_366 : F_361 sb = .inl (cs 17, 3000, .inl eb) := (hB1.2.2.2 sb (by rw [ht_39]; simp)).trans hF_350
            have hF_367 : F_361 s0 = .inl (cs 16, 40, .inl e0) := (hB1.2.2.2 s0 (by rw [ht_33]; simp)).trans hF_351
            have hF_368 : F_361 s1 = .inl (cs 16, 40, .inl e1) := (hB1.2.2.2 s1 (by rw [ht_34]; simp)).trans hF_352
            have hF_369 : F_361 s2 = .inl (cs 16, 40, .inl e2) := (hB1.2.2.2 s2 (by rw [ht_35]; simp)).trans hF_353
            have hF_370 : F_361 se = .inr (13, [.ref sx, .ref s0, .ref s1, .ref s2, .int (nI zs)]) := (hB1.2.2.2 se (by rw [ht_29]; simp)).trans hF_354
            have hF_371 : F_361 h0 = .inr (15, (.ref ta) :: (.int (nI zt)) :: (.int (nI zo_46)) :: (.int (nI ze)) :: (.ref ou) :: (.ref so) :: (.ref ad) :: (.ref na) :: (.ref va) :: (.ref lc) :: (.ref dm) :: (.int (nI fm)) :: (.int (nI sn)) :: (.ref tg) :: (.int v14_47) :: (.int v15_48) :: (.ref pe) :: (.int v17_49) :: (.int v18_50) :: (.int v19_51) :: (.int v20_52) :: (.int v21_53) :: (.int v22_54) :: (.ref ml) :: (.ref bg) :: (.ref co) :: (.ref sp) :: (.ref nb0) :: (.ref nb1) :: (.ref nb2) :: (.int (nI nf)) :: (.int (nI bd)) :: (.int (nI mm)) :: (.int v33_55) :: (.ref pl) :: (.ref se) :: (.ref ke) :: (.ref wi) :: (.ref hs) :: (.ref mo) :: (.ref po) :: (.ref nu) :: (.ref pr) :: (.ref sq) :: (.ref xa) :: (.ref sa) :: (.ref n64) :: (.ref m64) :: (.ref ex) :: (.ref wh) :: (.ref sd) :: (.ref tk) :: (.int v52_56) :: (.int v53_57) :: (.int v54_58) :: (.ref hd) :: (.ref ak) :: (.ref ho) :: (.ref ot) :: []) := (hB1.2.2.2 h0 (by rw [hT_h0]; simp)).trans hF_355
            have hF_372 : F_361 sx = .inr (14, [.ref sb, .int (nI z_94)]) := (hB1.2.2.2 sx (by rw [hT_sx]; simp)).trans hF_356
            generalize H1 = H at hP hS ⊢
            refine lv_aload_n hx hb dX15_fieldsPlain_166 rfl (lv_at hl 5 rfl) ?_
            refine pg_get (ci := 15) (v := .ref pl) (C := RX15) (T := TX15) (N := 59) hx hb hts it_15 hown hK hP hL_h0 hF_371 rfl 34 (by decide) (hts _ kt_901) (fun _ h9 => h9) rfl dX15_fieldsPlain_167 ?_
            refine lv_bipush (v := 10) hx hb dX15_fieldsPlain_170 (by decide) ?_
            have hFc := pg_free hD hS hA
            refine va_callv (va_runV (As := [.int 10]) (rest := []) ⟨hx, hb, hml, hown, hts⟩ (s_X14_add l dC dI cs ty gm L H.size F_361 pl (ρ + 10) rl 6000 z2_362 10 hW hL_pl hT_pl hq_363 (by first | omega | assumption | exact Or.inl rfl)) ⟨callB_of 1 hts (gi kt_711) rfl rfl rfl (hts _ kt_676) (hts _ kt_712) (by decide +kernel) ⟨Nat.le_of_ble_eq_true rfl, Nat.le_of_ble_eq_true rfl⟩, (hts _ kt_713), (hts _ kt_714)⟩ ⟨fun a U g mk q => ⟨q.1, PTm.calling q.2⟩, pg_recv hK hP hL_pl hq_363 (q := (RX14, TX14, 2)) rfl, fun U hU hWm => ⟨rfl, PTm.mk hU hWm hP hK hD hE hO⟩⟩ rfl rfl hl.1 rfl (lv_room (Nat.le_of_ble_eq_true rfl)) dX15_fieldsPlain_172 ⟨by show _ + 0 ≤ 0; omega, by show _ + 0 ≤ 0; omega⟩) hS (fun q _ h => hFc q h) hFc (fun u t H1 locs ht hvm hw hB hz1 hk1 hS => ?_)
            obtain ⟨F_374, hB1, hq_375⟩ := hB
            obtain ⟨hP, hD, hO, hR⟩ := QTm.back hB1 ht hFc hR (fun q h => by simp only [List.mem_cons, List.not_mem_nil, or_false] at h ⊢; omega)
            have hF_376 : F_374 tk = .inl (cs 18, 20, .inl f_358) := (hB1.2.2.2 tk (by rw [ht_45]; simp)).trans hF_365
            have hF_377 : F_374 sb = .inl (cs 17, 3000, .inl eb) := (hB1.2.2.2 sb (by rw [ht_39]; simp)).trans hF_366
            have hF_378 : F_374 s0 = .inl (cs 16, 40, .inl e0) := (hB1.2.2.2 s0 (by rw [ht_33]; simp)).trans hF_367
            have hF_379 : F_374 s1 = .inl (cs 16, 40, .inl e1) := (hB1.2.2.2 s1 (by rw [ht_34]; simp)).trans hF_368
            have hF_380 : F_374 s2 = .inl (cs 16, 40, .inl e2) := (hB1.2.2.2 s2 (by rw [ht_35]; simp)).trans hF_369
            have hF_381 : F_374 se = .inr (13, [.ref sx, .ref s0, .ref s1, .ref s2, .int (nI zs)]) := (hB1.2.2.2 se (by rw [ht_29]; simp)).trans hF_370
            have hF_382 : F_374 h0 = .inr (15, (.ref ta) :: (.int (nI zt)) :: (.int (nI zo_46)) :: (.int (nI ze)) :: (.ref ou) :: (.ref so) :: (.ref ad) :: (.ref na) :: (.ref va) :: (.ref lc) :: (.ref dm) :: (.int (nI fm)) :: (.int (nI sn)) :: (.ref tg) :: (.int v14_47) :: (.int v15_48) :: (.ref pe) :: (.int v17_49) :: (.int v18_50) :: (.int v19_51) :: (.int v20_52) :: (.int v21_53) :: (.int v22_54) :: (.ref ml) :: (.ref bg) :: (.ref co) :: (.ref sp) :: (.ref nb0) :: (.ref nb1) :: (.ref nb2) :: (.int (nI nf)) :: (.int (nI bd)) :: (.int (nI mm)) :: (.int v33_55) :: (.ref pl) :: (.ref se) :: (.ref ke) :: (.ref wi) :: (.ref hs) :: (.ref mo) :: (.ref po) :: (.ref nu) :: (.ref pr) :: (.ref sq) :: (.ref xa) :: (.ref sa) :: (.ref n64) :: (.ref m64) :: (.ref ex) :: (.ref wh) :: (.ref sd) :: (.ref tk) :: (.int v52_56) :: (.int v53_57) :: (.int v54_58) :: (.ref hd) :: (.ref ak) :: (.ref ho) :: (.ref ot) :: []) := (hB1.2.2.2 h0 (by rw [hT_h0]; simp)).trans hF_371
            have hF_383 : F_374 sx = .inr (14, [.ref sb, .int (nI z_94)]) := (hB1.2.2.2 sx (by rw [hT_sx]; simp)).trans hF_372
            generalize H1 = H at hP hS ⊢
            refine lv_iload hx hb dX15_fieldsPlain_175 (lv_at hl 1 rfl) ?_
            refine lv_iconst (v := 1) hx hb dX15_fieldsPlain_177 (by decide) ?_
            refine lv_iadd hx hb dX15_fieldsPlain_178 ?_
            refine lv_topi (fun x_384 ex_384 => ?_)
            obtain rfl : x_384 = (nI (i + 1)) := ex_384.trans (nI_add i 1)
            refine lv_istore (lv' := [(4, .int (nI (i + 1))), (6, .int (nI k)), (5, .int (nI i)), (3, .ref sb), (2, .int (nI kh)), (0, .ref h0), (1, .int (nI jf))]) hx hb dX15_fieldsPlain_179 hl (by decide) rfl (fun ls hl => ?_)
            refine lv_goto (tgt := 51) hx hb dX15_fieldsPlain_181 (by decide) ?_
            refine W.widen (k := 0) (n := 0) (by omega) (by omega) ?_
            exact ih_112 ((i + 1), (z2_362 + 1), f_358) F_374 (⟨by omega, by rw [tsum_set (k := k) hkn hft0 (by rw [hfe_359, nI_clamp (by omega)]; exact upd_ne1) (fun i hi => by rw [hfe_359, nI_clamp (by omega)]; exact upd_oth hi)]; omega, hq_375, hF_376⟩) (by show 1282 - (i + 1) < 1282 - j; omega) hO hR _ _ hP hD hS ls (lv_sub hl [0, 3, 4, 5, 6] rfl)
          ·
            refine lv_iinc (v := (nI k + Int32.ofInt (-1))) (lv' := [(6, .int (nI k + Int32.ofInt (-1))), (5, .int (nI i)), (4, .int (nI j)), (3, .ref sb), (2, .int (nI kh)), (0, .ref h0), (1, .int (nI jf))]) hx hb dX15_fieldsPlain_135 hl (k := 0) rfl (rfl) (by decide) rfl (fun ls hl => ?_)
            refine lv_goto (tgt := 106) hx hb dX15_fieldsPlain_138 (by decide) ?_
            refine W.widen (k := 0) (n := 0) (by omega) (by omega) ?_
            exact ih_327 (nI k + Int32.ofInt (-1)) F_318 (⟨⟨k, by omega, dn_st k⟩, hr2, hr3⟩) (by show ((nI k + Int32.ofInt (-1)).toInt + 1).toNat < ((nI k).toInt + 1).toNat; exact dn_mu (by omega)) hO hR _ _ hP hD hS ls (lv_sub hl [0, 1, 2, 3, 4, 5, 6] rfl)
    ·
      have hi_385 : i < k_121 := ltN (N := k_121) c_315
      refine lv_aload_n hx hb dX15_fieldsPlain_83 rfl (lv_at hl 2 rfl) ?_
      refine lv_iload hx hb dX15_fieldsPlain_84 (lv_at hl 0 rfl) ?_
      obtain ⟨hq_386, hq_387⟩ := hW.octs hi_38 ht_39
      refine pg_bald hx hb hK hP hi_38 1 hF_307 rfl (vp_in_nI (by omega) (by omega)) dX15_fieldsPlain_86 ?_
      refine lv_topi (fun x_388 ex_388 => ?_)
      obtain rfl : x_388 = eb i := ex_388.trans (congrArg eb (show ((nI i) : Int32).toNatClampNeg = i from nI_clamp (by omega)))
      refine lv_bipush (v := 58) hx hb dX15_fieldsPlain_87 (by decide) ?_
      refine lv_icmp_eq (tgt := 98) hx hb dX15_fieldsPlain_89 (by decide) (fun c_389 => ?_) (fun c_389 => ?_)
      ·
        refine lv_aload_n hx hb dX15_fieldsPlain_98 rfl (lv_at hl 4 rfl) ?_
        refine pg_get (ci := 15) (v := .int (nI nf)) (C := RX15) (T := TX15) (N := 59) hx hb hts it_15 hown hK hP hL_h0 hF_312 rfl 30 (by decide) (hts _ kt_892) (fun _ h9 => h9) rfl dX15_fieldsPlain_99 ?_
        refine lv_iconst (v := 1) hx hb dX15_fieldsPlain_102 (by decide) ?_
        refine lv_isub hx hb dX15_fieldsPlain_103 ?_
        refine lv_topi (fun x_390 ex_390 => ?_)
        obtain rfl : x_390 = (nI nf - 1) := ex_390.trans (rfl)
        refine lv_istore (lv' := [(6, .int (nI nf - 1)), (5, .int (nI i)), (4, .int (nI j)), (3, .ref sb), (2, .int (nI kh)), (0, .ref h0), (1, .int (nI jf))]) hx hb dX15_fieldsPlain_104 hl (by decide) rfl (fun ls hl => ?_)
        refine W.widen (k := 0) (n := 0) (by omega) (by omega) ?_
        have hF_392 : F sb = .inl (cs 17, 3000, .inl eb) := (hR sb (by rw [ht_39]; simp)).symm.trans hF_307
        have hF_393 : F s0 = .inl (cs 16, 40, .inl e0) := (hR s0 (by rw [ht_33]; simp)).symm.trans hF_308
        have hF_394 : F s1 = .inl (cs 16, 40, .inl e1) := (hR s1 (by rw [ht_34]; simp)).symm.trans hF_309
        have hF_395 : F s2 = .inl (cs 16, 40, .inl e2) := (hR s2 (by rw [ht_35]; simp)).symm.trans hF_310
        have hF_396 : F se = .inr (13, [.ref sx, .ref s0, .ref s1, .ref s2, .int (nI zs)]) := (hR se (by rw [ht_29]; simp)).symm.trans hF_311
        have hF_397 : F h0 = .inr (15, (.ref ta) :: (.int (nI zt)) :: (.int (nI zo_46)) :: (.int (nI ze)) :: (.ref ou) :: (.ref so) :: (.ref ad) :: (.ref na) :: (.ref va) :: (.ref lc) :: (.ref dm) :: (.int (nI fm)) :: (.int (nI sn)) :: (.ref tg) :: (.int v14_47) :: (.int v15_48) :: (.ref pe) :: (.int v17_49) :: (.int v18_50) :: (.int v19_51) :: (.int v20_52) :: (.int v21_53) :: (.int v22_54) :: (.ref ml) :: (.ref bg) :: (.ref co) :: (.ref sp) :: (.ref nb0) :: (.ref nb1) :: (.ref nb2) :: (.int (nI nf)) :: (.int (nI bd)) :: (.int (nI mm)) :: (.int v33_55) :: (.ref pl) :: (.ref se) :: (.ref ke) :: (.ref wi) :: (.ref hs) :: (.ref mo) :: (.ref po) :: (.ref nu) :: (.ref pr) :: (.ref sq) :: (.ref xa) :: (.ref sa) :: (.ref n64) :: (.ref m64) :: (.ref ex) :: (.ref wh) :: (.ref sd) :: (.ref tk) :: (.int v52_56) :: (.int v53_57) :: (.int v54_58) :: (.ref hd) :: (.ref ak) :: (.ref ho) :: (.ref ot) :: []) := (hR h0 (by rw [hT_h0]; simp)).symm.trans hF_312
        have hF_398 : F sx = .inr (14, [.ref sb, .int (nI z_94)]) := (hR sx (by rw [hT_sx]; simp)).symm.trans hF_313
        refine pl_loopm (σ := Int32) A (dC, dI) cs ty gm L [ρ + 10, ρ + 26] F 106 11 (fun i1 => [(6, .int i1), (5, .int (nI i)), (4, .int (nI j)), (3, .ref sb), (2, .int (nI kh)), (0, .ref h0), (1, .int (nI jf))]) (fun i1 => []) (fun i1 FF => (∃ q : Nat, q ≤ nf ∧ i1 = nI q - 1) ∧ FF pl = .inr (14, [.ref rl, .int (nI zz)]) ∧ FF tk = .inl (cs 18, 20, .inl ft)) (fun i1 => (i1.toInt + 1).toNat) ?_ (nI nf - 1) F_297 (⟨⟨nf, Nat.le_refl _, rfl⟩, hq3, hq4⟩) hO hR _ _ hP hD hS ls (lv_sub hl [0, 1, 2, 3, 4, 5, 6] rfl)
        rintro i1 F_391 hv_399 hO hR ih_400 H locs hP hD hS ls hl
        have hl : lv_has ls 11 [(6, .int i1), (5, .int (nI i)), (4, .int (nI j)), (3, .ref sb), (2, .int (nI kh)), (0, .ref h0), (1, .int (nI jf))] := hl
        have hv_399 : (∃ q : Nat, q ≤ nf ∧ i1 = nI q - 1) ∧ F_391 pl = .inr (14, [.ref rl, .int (nI zz)]) ∧ F_391 tk = .inl (cs 18, 20, .inl ft) := hv_399
        refine W.eq (g2 := F0 m 106 ls []) rfl ?_
        have hF_401 : F_391 sb = .inl (cs 17, 3000, .inl eb) := (hR sb (by rw [ht_39]; simp)).trans hF_392
        have hF_402 : F_391 s0 = .inl (cs 16, 40, .inl e0) := (hR s0 (by rw [ht_33]; simp)).trans hF_393
        have hF_403 : F_391 s1 = .inl (cs 16, 40, .inl e1) := (hR s1 (by rw [ht_34]; simp)).trans hF_394
        have hF_404 : F_391 s2 = .inl (cs 16, 40, .inl e2) := (hR s2 (by rw [ht_35]; simp)).trans hF_395
        have hF_405 : F_391 se = .inr (13, [.ref sx, .ref s0, .ref s1, .ref s2, .int (nI zs)]) := (hR se (by rw [ht_29]; simp)).trans hF_396
        have hF_406 : F_391 h0 = .inr (15, (.ref ta) :: (.int (nI zt)) :: (.int (nI zo_46)) :: (.int (nI ze)) :: (.ref ou) :: (.ref so) :: (.ref ad) :: (.ref na) :: (.ref va) :: (.ref lc) :: (.ref dm) :: (.int (nI fm)) :: (.int (nI sn)) :: (.ref tg) :: (.int v14_47) :: (.int v15_48) :: (.ref pe) :: (.int v17_49) :: (.int v18_50) :: (.int v19_51) :: (.int v20_52) :: (.int v21_53) :: (.int v22_54) :: (.ref ml) :: (.ref bg) :: (.ref co) :: (.ref sp) :: (.ref nb0) :: (.ref nb1) :: (.ref nb2) :: (.int (nI nf)) :: (.int (nI bd)) :: (.int (nI mm)) :: (.int v33_55) :: (.ref pl) :: (.ref se) :: (.ref ke) :: (.ref wi) :: (.ref hs) :: (.ref mo) :: (.ref po) :: (.ref nu) :: (.ref pr) :: (.ref sq) :: (.ref xa) :: (.ref sa) :: (.ref n64) :: (.ref m64) :: (.ref ex) :: (.ref wh) :: (.ref sd) :: (.ref tk) :: (.int v52_56) :: (.int v53_57) :: (.int v54_58) :: (.ref hd) :: (.ref ak) :: (.ref ho) :: (.ref ot) :: []) := (hR h0 (by rw [hT_h0]; simp)).trans hF_397
        have hF_407 : F_391 sx = .inr (14, [.ref sb, .int (nI z_94)]) := (hR sx (by rw [hT_sx]; simp)).trans hF_398
        obtain ⟨hr1, hr2, hr3⟩ := hv_399
        refine lv_iload hx hb dX15_fieldsPlain_106 (lv_at hl 0 rfl) ?_
        refine lv_if_lt (tgt := 141) hx hb dX15_fieldsPlain_108 (by decide) (fun c_408 => ?_) (fun c_408 => ?_)
        ·
          refine lv_iload hx hb dX15_fieldsPlain_141 (lv_at hl 0 rfl) ?_
          refine lv_if_lt (tgt := 175) hx hb dX15_fieldsPlain_143 (by decide) (fun c_409 => ?_) (fun c_409 => absurd (c_408) c_409)
          refine lv_iload hx hb dX15_fieldsPlain_175 (lv_at hl 1 rfl) ?_
          refine lv_iconst (v := 1) hx hb dX15_fieldsPlain_177 (by decide) ?_
          refine lv_iadd hx hb dX15_fieldsPlain_178 ?_
          refine lv_topi (fun x_410 ex_410 => ?_)
          obtain rfl : x_410 = (nI (i + 1)) := ex_410.trans (nI_add i 1)
          refine lv_istore (lv' := [(4, .int (nI (i + 1))), (6, .int i1), (5, .int (nI i)), (3, .ref sb), (2, .int (nI kh)), (0, .ref h0), (1, .int (nI jf))]) hx hb dX15_fieldsPlain_179 hl (by decide) rfl (fun ls hl => ?_)
          refine lv_goto (tgt := 51) hx hb dX15_fieldsPlain_181 (by decide) ?_
          refine W.widen (k := 0) (n := 0) (by omega) (by omega) ?_
          exact ih_112 ((i + 1), zz, ft) F_391 (⟨by omega, by omega, hr2, hr3⟩) (by show 1282 - (i + 1) < 1282 - j; omega) hO hR _ _ hP hD hS ls (lv_sub hl [0, 3, 4, 5, 6] rfl)
        ·
          obtain ⟨k, hkn, rfl⟩ := dn_pos hr1 c_408
          have hok := hgO k hkn
          refine lv_aload_n hx hb dX15_fieldsPlain_111 rfl (lv_at hl 5 rfl) ?_
          refine pg_get (ci := 15) (v := .ref tk) (C := RX15) (T := TX15) (N := 59) hx hb hts it_15 hown hK hP hL_h0 hF_406 rfl 51 (by decide) (hts _ kt_943) (fun _ h9 => h9) rfl dX15_fieldsPlain_112 ?_
          refine lv_iload hx hb dX15_fieldsPlain_115 (lv_at hl 0 rfl) ?_
          refine pg_zald hx hb hK hP hi_44 2 hr3 rfl (vp_in_nI (by omega) (by omega)) dX15_fieldsPlain_117 ?_
          refine lv_topi (fun x_411 ex_411 => ?_)
          obtain rfl : x_411 = ft k := ex_411.trans (congrArg ft (show ((nI k) : Int32).toNatClampNeg = k from nI_clamp (by omega)))
          refine lv_if_ne (tgt := 135) hx hb dX15_fieldsPlain_118 (by decide) (fun c_412 => ?_) (fun c_412 => ?_)
          ·
            refine lv_iinc (v := (nI k + Int32.ofInt (-1))) (lv' := [(6, .int (nI k + Int32.ofInt (-1))), (5, .int (nI i)), (4, .int (nI j)), (3, .ref sb), (2, .int (nI kh)), (0, .ref h0), (1, .int (nI jf))]) hx hb dX15_fieldsPlain_135 hl (k := 0) rfl (rfl) (by decide) rfl (fun ls hl => ?_)
            refine lv_goto (tgt := 106) hx hb dX15_fieldsPlain_138 (by decide) ?_
            refine W.widen (k := 0) (n := 0) (by omega) (by omega) ?_
            exact ih_400 (nI k + Int32.ofInt (-1)) F_391 (⟨⟨k, by omega, dn_st k⟩, hr2, hr3⟩) (by show ((nI k + Int32.ofInt (-1)).toInt + 1).toNat < ((nI k).toInt + 1).toNat; exact dn_mu (by omega)) hO hR _ _ hP hD hS ls (lv_sub hl [0, 1, 2, 3, 4, 5, 6] rfl)
          ·
            have hft0 : ft k = 0 := c_412
            refine lv_aload_n hx hb dX15_fieldsPlain_121 rfl (lv_at hl 5 rfl) ?_
            refine lv_iload hx hb dX15_fieldsPlain_122 (lv_at hl 0 rfl) ?_
            refine lv_aload_n hx hb dX15_fieldsPlain_124 rfl (lv_at hl 3 rfl) ?_
            refine lv_iload hx hb dX15_fieldsPlain_125 (lv_at hl 2 rfl) ?_
            refine lv_iload hx hb dX15_fieldsPlain_127 (lv_at hl 1 rfl) ?_
            have hFc := pg_free hD hS hA
            refine va_calli (va_runV (As := [.int (nI k), .ref sb, .int (nI j), .int (nI i)]) (rest := []) ⟨hx, hb, hml, hown, hts⟩ (s_X15_isAlikeTo l dC dI cs ty gm L H.size F_391 h0 ρ ta ou so ad na va lc dm tg pe ml bg co sp nb0 nb1 nb2 pl se ke wi hs mo po nu pr sq xa sa n64 m64 ex wh sd tk hd ak ho ot sx s0 s1 s2 nf bd mm fm sn hg gc gv ze zt sb (ρ + 12) 3000 k j i hW hL_h0 hT_h0 hi_38 ht_39 (by first | omega | assumption | exact Or.inl rfl) (by first | omega | assumption | exact Or.inl rfl) (by first | omega | assumption | exact Or.inl rfl)) ⟨callB_of 4 hts (gi kt_947) rfl rfl rfl (hts _ kt_669) (hts _ kt_948) (by decide +kernel) ⟨Nat.le_of_ble_eq_true rfl, Nat.le_of_ble_eq_true rfl⟩, (hts _ kt_949), (hts _ kt_950)⟩ ⟨fun a U g mk q => ⟨q.1, PTm.calling q.2⟩, pg_recv hK hP hL_h0 hF_406 (q := (RX15, TX15, 59)) rfl, fun U hU hWm => ⟨rfl, PTm.mk hU hWm hP hK hD hE hO⟩⟩ rfl rfl hl.1 rfl (lv_room (Nat.le_of_ble_eq_true rfl)) dX15_fieldsPlain_129 ⟨by show _ + 0 ≤ 0; omega, by show _ + 0 ≤ 0; omega⟩) hS (fun q _ h => hFc q h) hFc (fun r_413 u t H1 locs ht hvm hw hB hz1 hk1 hS => ?_)
            obtain ⟨F_414, hB1⟩ := hB
            obtain rfl : F_391 = F_414 := (funext (fun a => hB1.2.2.2 a List.not_mem_nil)).symm
            obtain ⟨hP, hD, hO, hR⟩ := QTm.back hB1 ht hFc hR (fun q h => absurd h List.not_mem_nil)
            generalize H1 = H at hP hS ⊢
            have hw : (r_413 = 0 ∨ r_413 = 1) := hw
            have hw_415 := hw
            refine lv_if_ne (tgt := 141) hx hb dX15_fieldsPlain_132 (by decide) (fun c_416 => ?_) (fun c_416 => ?_)
            ·
              refine lv_iload hx hb dX15_fieldsPlain_141 (lv_at hl 0 rfl) ?_
              refine lv_if_lt (tgt := 175) hx hb dX15_fieldsPlain_143 (by decide) (fun c_417 => absurd c_417 (nI_pos (by omega))) (fun c_417 => ?_)
              refine lv_aload_n hx hb dX15_fieldsPlain_146 rfl (lv_at hl 5 rfl) ?_
              refine pg_get (ci := 15) (v := .ref tk) (C := RX15) (T := TX15) (N := 59) hx hb hts it_15 hown hK hP hL_h0 hF_406 rfl 51 (by decide) (hts _ kt_943) (fun _ h9 => h9) rfl dX15_fieldsPlain_147 ?_
              refine lv_iload hx hb dX15_fieldsPlain_150 (lv_at hl 0 rfl) ?_
              refine lv_iconst (v := 1) hx hb dX15_fieldsPlain_152 (by decide) ?_
              refine pg_zast hx hb hK hP hD hS hi_44 2 hr3 rfl (vp_in_nI (by omega) (by omega)) dX15_fieldsPlain_153 (fun H locs hP hD hS => ?_)
              obtain ⟨F_418, he_419, hP, hD, hO, hR⟩ : ∃ G, G = va_up F_391 tk (.inl (cs 18, 20, .inl (upd ft ((nI k)).toNatClampNeg (vp_nar .boolean (1))))) ∧ va_P (dC, dI) vwCl (va_pl L G) H ∧ va_D A (va_pl L G) ∧ OKm cs ty gm L G ∧ FR ty [ρ + 10, ρ + 26] F G := ⟨_, rfl, hP, hD, hO.up (shm.bits ht_45 ⟨_, rfl⟩), hR.up ht_45 (by simp)⟩
              have hF_420 : F_418 tk = .inl (cs 18, 20, .inl (upd ft ((nI k)).toNatClampNeg (vp_nar .boolean (1)))) := by rw [he_419]; exact up_self
              have hF_421 : F_418 sb = .inl (cs 17, 3000, .inl eb) := by rw [he_419, up_ne (ne_ty ht_39 ht_45 (by simp))]; exact hF_401
              have hF_422 : F_418 s0 = .inl (cs 16, 40, .inl e0) := by rw [he_419, up_ne (ne_ty ht_33 ht_45 (by simp))]; exact hF_402
              have hF_423 : F_418 s1 = .inl (cs 16, 40, .inl e1) := by rw [he_419, up_ne (ne_ty ht_34 ht_45 (by simp))]; exact hF_403
              have hF_424 : F_418 s2 = .inl (cs 16, 40, .inl e2) := by rw [he_419, up_ne (ne_ty ht_35 ht_45 (by simp))]; exact hF_404
              have hF_425 : F_418 se = .inr (13, [.ref sx, .ref s0, .ref s1, .ref s2, .int (nI zs)]) := by rw [he_419, up_ne (ne_ty ht_29 ht_45 (by simp))]; exact hF_405
              have hF_426 : F_418 h0 = .inr (15, (.ref ta) :: (.int (nI zt)) :: (.int (nI zo_46)) :: (.int (nI ze)) :: (.ref ou) :: (.ref so) :: (.ref ad) :: (.ref na) :: (.ref va) :: (.ref lc) :: (.ref dm) :: (.int (nI fm)) :: (.int (nI sn)) :: (.ref tg) :: (.int v14_47) :: (.int v15_48) :: (.ref pe) :: (.int v17_49) :: (.int v18_50) :: (.int v19_51) :: (.int v20_52) :: (.int v21_53) :: (.int v22_54) :: (.ref ml) :: (.ref bg) :: (.ref co) :: (.ref sp) :: (.ref nb0) :: (.ref nb1) :: (.ref nb2) :: (.int (nI nf)) :: (.int (nI bd)) :: (.int (nI mm)) :: (.int v33_55) :: (.ref pl) :: (.ref se) :: (.ref ke) :: (.ref wi) :: (.ref hs) :: (.ref mo) :: (.ref po) :: (.ref nu) :: (.ref pr) :: (.ref sq) :: (.ref xa) :: (.ref sa) :: (.ref n64) :: (.ref m64) :: (.ref ex) :: (.ref wh) :: (.ref sd) :: (.ref tk) :: (.int v52_56) :: (.int v53_57) :: (.int v54_58) :: (.ref hd) :: (.ref ak) :: (.ref ho) :: (.ref ot) :: []) := by rw [he_419, up_ne (ne_ty hT_h0 ht_45 (by simp))]; exact hF_406
              have hF_427 : F_418 sx = .inr (14, [.ref sb, .int (nI z_94)]) := by rw [he_419, up_ne (ne_ty hT_sx ht_45 (by simp))]; exact hF_407
              have hF_428 : F_418 pl = .inr (14, [.ref rl, .int (nI zz)]) := by rw [he_419, up_ne (ne_ty hT_pl ht_45 (by simp))]; exact hr2
              obtain ⟨f_429, hF_420, hfe_430⟩ : ∃ f : Nat → Int32, F_418 tk = .inl (cs 18, 20, .inl f) ∧ f = upd ft ((nI k)).toNatClampNeg (vp_nar .boolean (1)) := ⟨_, hF_420, rfl⟩
              refine lv_aload_n hx hb dX15_fieldsPlain_154 rfl (lv_at hl 5 rfl) ?_
              refine lv_iload hx hb dX15_fieldsPlain_155 (lv_at hl 0 rfl) ?_
              refine lv_aload_n hx hb dX15_fieldsPlain_157 rfl (lv_at hl 5 rfl) ?_
              refine pg_get (ci := 15) (v := .int v52_56) (C := RX15) (T := TX15) (N := 59) hx hb hts it_15 hown hK hP hL_h0 hF_426 rfl 52 (by decide) (hts _ kt_857) (fun _ h9 => h9) rfl dX15_fieldsPlain_158 ?_
              refine lv_iconst (v := 0) hx hb dX15_fieldsPlain_161 (by decide) ?_
              refine lv_iconst (v := 0) hx hb dX15_fieldsPlain_162 (by decide) ?_
              have hFc := pg_free hD hS hA
              refine va_callv (va_runV (As := [.int (nI k), .int v52_56, .int 0, .int 0]) (rest := []) ⟨hx, hb, hml, hown, hts⟩ (s_X15_fieldPlain l dC dI cs ty gm L H.size F_418 h0 ρ ta ou so ad na va lc dm tg pe ml bg co sp nb0 nb1 nb2 pl se ke wi hs mo po nu pr sq xa sa n64 m64 ex wh sd tk hd ak ho ot sx s0 s1 s2 nf bd mm fm sn hg gc gv ze zt rl k zz v52_56 0 0 hW hL_h0 hT_h0 hL_pl hT_pl (by first | omega | assumption | exact Or.inl rfl) hF_428 (by first | omega | assumption | exact Or.inl rfl)) ⟨callB_of 4 hts (gi kt_918) rfl rfl rfl (hts _ kt_669) (hts _ kt_919) (by decide +kernel) ⟨Nat.le_of_ble_eq_true rfl, Nat.le_of_ble_eq_true rfl⟩, (hts _ kt_920), (hts _ kt_921)⟩ ⟨fun a U g mk q => ⟨q.1, PTm.calling q.2⟩, pg_recv hK hP hL_h0 hF_426 (q := (RX15, TX15, 59)) rfl, fun U hU hWm => ⟨rfl, PTm.mk hU hWm hP hK hD hE hO⟩⟩ rfl rfl hl.1 rfl (lv_room (Nat.le_of_ble_eq_true rfl)) dX15_fieldsPlain_163 ⟨by show _ + 0 ≤ 0; omega, by show _ + 0 ≤ 0; omega⟩) hS (fun q _ h => hFc q h) hFc (fun u t H1 locs ht hvm hw hB hz1 hk1 hS => ?_)
              obtain ⟨F_432, z2_433, hB1, hq_434, hq_435⟩ := hB
              obtain ⟨hP, hD, hO, hR⟩ := QTm.back hB1 ht hFc hR (fun q h => by simp only [List.mem_cons, List.not_mem_nil, or_false] at h ⊢; omega)
              have hF_436 : F_432 tk = .inl (cs 18, 20, .inl f_429) := (hB1.2.2.2 tk (by rw [ht_45]; simp)).trans hF_420
              have hF_437 : F_432 sb = .inl (cs 17, 3000, .inl eb) := (hB1.2.2.2 sb (by rw [ht_39]; simp)).trans hF_421
              have hF_438 : F_432 s0 = .inl (cs 16, 40, .inl e0) := (hB1.2.2.2 s0 (by rw [ht_33]; simp)).trans hF_422
              have hF_439 : F_432 s1 = .inl (cs 16, 40, .inl e1) := (hB1.2.2.2 s1 (by rw [ht_34]; simp)).trans hF_423
              have hF_440 : F_432 s2 = .inl (cs 16, 40, .inl e2) := (hB1.2.2.2 s2 (by rw [ht_35]; simp)).trans hF_424
              have hF_441 : F_432 se = .inr (13, [.ref sx, .ref s0, .ref s1, .ref s2, .int (nI zs)]) := (hB1.2.2.2 se (by rw [ht_29]; simp)).trans hF_425
              have hF_442 : F_432 h0 = .inr (15, (.ref ta) :: (.int (nI zt)) :: (.int (nI zo_46)) :: (.int (nI ze)) :: (.ref ou) :: (.ref so) :: (.ref ad) :: (.ref na) :: (.ref va) :: (.ref lc) :: (.ref dm) :: (.int (nI fm)) :: (.int (nI sn)) :: (.ref tg) :: (.int v14_47) :: (.int v15_48) :: (.ref pe) :: (.int v17_49) :: (.int v18_50) :: (.int v19_51) :: (.int v20_52) :: (.int v21_53) :: (.int v22_54) :: (.ref ml) :: (.ref bg) :: (.ref co) :: (.ref sp) :: (.ref nb0) :: (.ref nb1) :: (.ref nb2) :: (.int (nI nf)) :: (.int (nI bd)) :: (.int (nI mm)) :: (.int v33_55) :: (.ref pl) :: (.ref se) :: (.ref ke) :: (.ref wi) :: (.ref hs) :: (.ref mo) :: (.ref po) :: (.ref nu) :: (.ref pr) :: (.ref sq) :: (.ref xa) :: (.ref sa) :: (.ref n64) :: (.ref m64) :: (.ref ex) :: (.ref wh) :: (.ref sd) :: (.ref tk) :: (.int v52_56) :: (.int v53_57) :: (.int v54_58) :: (.ref hd) :: (.ref ak) :: (.ref ho) :: (.ref ot) :: []) := (hB1.2.2.2 h0 (by rw [hT_h0]; simp)).trans hF_426
              have hF_443 : F_432 sx = .inr (14, [.ref sb, .int (nI z_94)]) := (hB1.2.2.2 sx (by rw [hT_sx]; simp)).trans hF_427
              generalize H1 = H at hP hS ⊢
              refine lv_aload_n hx hb dX15_fieldsPlain_166 rfl (lv_at hl 5 rfl) ?_
              refine pg_get (ci := 15) (v := .ref pl) (C := RX15) (T := TX15) (N := 59) hx hb hts it_15 hown hK hP hL_h0 hF_442 rfl 34 (by decide) (hts _ kt_901) (fun _ h9 => h9) rfl dX15_fieldsPlain_167 ?_
              refine lv_bipush (v := 10) hx hb dX15_fieldsPlain_170 (by decide) ?_
              have hFc := pg_free hD hS hA
              refine va_callv (va_runV (As := [.int 10]) (rest := []) ⟨hx, hb, hml, hown, hts⟩ (s_X14_add l dC dI cs ty gm L H.size F_432 pl (ρ + 10) rl 6000 z2_433 10 hW hL_pl hT_pl hq_434 (by first | omega | assumption | exact Or.inl rfl)) ⟨callB_of 1 hts (gi kt_711) rfl rfl rfl (hts _ kt_676) (hts _ kt_712) (by decide +kernel) ⟨Nat.le_of_ble_eq_true rfl, Nat.le_of_ble_eq_true rfl⟩, (hts _ kt_713), (hts _ kt_714)⟩ ⟨fun a U g mk q => ⟨q.1, PTm.calling q.2⟩, pg_recv hK hP hL_pl hq_434 (q := (RX14, TX14, 2)) rfl, fun U hU hWm => ⟨rfl, PTm.mk hU hWm hP hK hD hE hO⟩⟩ rfl rfl hl.1 rfl (lv_room (Nat.le_of_ble_eq_true rfl)) dX15_fieldsPlain_172 ⟨by show _ + 0 ≤ 0; omega, by show _ + 0 ≤ 0; omega⟩) hS (fun q _ h => hFc q h) hFc (fun u t H1 locs ht hvm hw hB hz1 hk1 hS => ?_)
              obtain ⟨F_445, hB1, hq_446⟩ := hB
              obtain ⟨hP, hD, hO, hR⟩ := QTm.back hB1 ht hFc hR (fun q h => by simp only [List.mem_cons, List.not_mem_nil, or_false] at h ⊢; omega)
              have hF_447 : F_445 tk = .inl (cs 18, 20, .inl f_429) := (hB1.2.2.2 tk (by rw [ht_45]; simp)).trans hF_436
              have hF_448 : F_445 sb = .inl (cs 17, 3000, .inl eb) := (hB1.2.2.2 sb (by rw [ht_39]; simp)).trans hF_437
              have hF_449 : F_445 s0 = .inl (cs 16, 40, .inl e0) := (hB1.2.2.2 s0 (by rw [ht_33]; simp)).trans hF_438
              have hF_450 : F_445 s1 = .inl (cs 16, 40, .inl e1) := (hB1.2.2.2 s1 (by rw [ht_34]; simp)).trans hF_439
              have hF_451 : F_445 s2 = .inl (cs 16, 40, .inl e2) := (hB1.2.2.2 s2 (by rw [ht_35]; simp)).trans hF_440
              have hF_452 : F_445 se = .inr (13, [.ref sx, .ref s0, .ref s1, .ref s2, .int (nI zs)]) := (hB1.2.2.2 se (by rw [ht_29]; simp)).trans hF_441
              have hF_453 : F_445 h0 = .inr (15, (.ref ta) :: (.int (nI zt)) :: (.int (nI zo_46)) :: (.int (nI ze)) :: (.ref ou) :: (.ref so) :: (.ref ad) :: (.ref na) :: (.ref va) :: (.ref lc) :: (.ref dm) :: (.int (nI fm)) :: (.int (nI sn)) :: (.ref tg) :: (.int v14_47) :: (.int v15_48) :: (.ref pe) :: (.int v17_49) :: (.int v18_50) :: (.int v19_51) :: (.int v20_52) :: (.int v21_53) :: (.int v22_54) :: (.ref ml) :: (.ref bg) :: (.ref co) :: (.ref sp) :: (.ref nb0) :: (.ref nb1) :: (.ref nb2) :: (.int (nI nf)) :: (.int (nI bd)) :: (.int (nI mm)) :: (.int v33_55) :: (.ref pl) :: (.ref se) :: (.ref ke) :: (.ref wi) :: (.ref hs) :: (.ref mo) :: (.ref po) :: (.ref nu) :: (.ref pr) :: (.ref sq) :: (.ref xa) :: (.ref sa) :: (.ref n64) :: (.ref m64) :: (.ref ex) :: (.ref wh) :: (.ref sd) :: (.ref tk) :: (.int v52_56) :: (.int v53_57) :: (.int v54_58) :: (.ref hd) :: (.ref ak) :: (.ref ho) :: (.ref ot) :: []) := (hB1.2.2.2 h0 (by rw [hT_h0]; simp)).trans hF_442
              have hF_454 : F_445 sx = .inr (14, [.ref sb, .int (nI z_94)]) := (hB1.2.2.2 sx (by rw [hT_sx]; simp)).trans hF_443
              generalize H1 = H at hP hS ⊢
              refine lv_iload hx hb dX15_fieldsPlain_175 (lv_at hl 1 rfl) ?_
              refine lv_iconst (v := 1) hx hb dX15_fieldsPlain_177 (by decide) ?_
              refine lv_iadd hx hb dX15_fieldsPlain_178 ?_
              refine lv_topi (fun x_455 ex_455 => ?_)
              obtain rfl : x_455 = (nI (i + 1)) := ex_455.trans (nI_add i 1)
              refine lv_istore (lv' := [(4, .int (nI (i + 1))), (6, .int (nI k)), (5, .int (nI i)), (3, .ref sb), (2, .int (nI kh)), (0, .ref h0), (1, .int (nI jf))]) hx hb dX15_fieldsPlain_179 hl (by decide) rfl (fun ls hl => ?_)
              refine lv_goto (tgt := 51) hx hb dX15_fieldsPlain_181 (by decide) ?_
              refine W.widen (k := 0) (n := 0) (by omega) (by omega) ?_
              exact ih_112 ((i + 1), (z2_433 + 1), f_429) F_445 (⟨by omega, by rw [tsum_set (k := k) hkn hft0 (by rw [hfe_430, nI_clamp (by omega)]; exact upd_ne1) (fun i hi => by rw [hfe_430, nI_clamp (by omega)]; exact upd_oth hi)]; omega, hq_446, hF_447⟩) (by show 1282 - (i + 1) < 1282 - j; omega) hO hR _ _ hP hD hS ls (lv_sub hl [0, 3, 4, 5, 6] rfl)
            ·
              refine lv_iinc (v := (nI k + Int32.ofInt (-1))) (lv' := [(6, .int (nI k + Int32.ofInt (-1))), (5, .int (nI i)), (4, .int (nI j)), (3, .ref sb), (2, .int (nI kh)), (0, .ref h0), (1, .int (nI jf))]) hx hb dX15_fieldsPlain_135 hl (k := 0) rfl (rfl) (by decide) rfl (fun ls hl => ?_)
              refine lv_goto (tgt := 106) hx hb dX15_fieldsPlain_138 (by decide) ?_
              refine W.widen (k := 0) (n := 0) (by omega) (by omega) ?_
              exact ih_400 (nI k + Int32.ofInt (-1)) F_391 (⟨⟨k, by omega, dn_st k⟩, hr2, hr3⟩) (by show ((nI k + Int32.ofInt (-1)).toInt + 1).toNat < ((nI k).toInt + 1).toNat; exact dn_mu (by omega)) hO hR _ _ hP hD hS ls (lv_sub hl [0, 1, 2, 3, 4, 5, 6] rfl)
      ·
        refine lv_iinc (v := (nI (i + 1))) (lv' := [(5, .int (nI (i + 1))), (4, .int (nI j)), (3, .ref sb), (2, .int (nI kh)), (0, .ref h0), (1, .int (nI jf))]) hx hb dX15_fieldsPlain_92 hl (k := 0) rfl (nI_1 _) (by decide) rfl (fun ls hl => ?_)
        refine lv_goto (tgt := 69) hx hb dX15_fieldsPlain_95 (by decide) ?_
        refine W.widen (k := 0) (n := 0) (by omega) (by omega) ?_
        exact ih_306 (i + 1) F_297 (⟨by omega, by omega, hq3, hq4⟩) (by show 1281 - (i + 1) < 1281 - i; omega) hO hR _ _ hP hD hS ls (lv_sub hl [0, 1, 2, 3, 4, 5] rfl)
