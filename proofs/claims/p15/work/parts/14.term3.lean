theorem dX10_read_0 : decode cX10_read 0 = .ok (.aload_n 0, 1) := by decide +kernel
theorem dX10_read_1 : decode cX10_read 1 = .ok (.aload_n 1, 1) := by decide +kernel
theorem dX10_read_2 : decode cX10_read 2 = .ok (.iload_n 2, 1) := by decide +kernel
theorem dX10_read_3 : decode cX10_read 3 = .ok (.iload_n 3, 1) := by decide +kernel
theorem dX10_read_4 : decode cX10_read 4 = .ok (.invokevirtual 28, 3) := by decide +kernel
theorem dX10_read_7 : decode cX10_read 7 = .ok (.aload_n 0, 1) := by decide +kernel
theorem dX10_read_8 : decode cX10_read 8 = .ok (.iload_n 3, 1) := by decide +kernel
theorem dX10_read_9 : decode cX10_read 9 = .ok (.putfield 19, 3) := by decide +kernel
theorem dX10_read_12 : decode cX10_read 12 = .ok (.aload_n 0, 1) := by decide +kernel
theorem dX10_read_13 : decode cX10_read 13 = .ok (.bipush 32, 2) := by decide +kernel
theorem dX10_read_15 : decode cX10_read 15 = .ok (.putfield 22, 3) := by decide +kernel
theorem dX10_read_18 : decode cX10_read 18 = .ok (.aload_n 0, 1) := by decide +kernel
theorem dX10_read_19 : decode cX10_read 19 = .ok (.getfield 9, 3) := by decide +kernel
theorem dX10_read_22 : decode cX10_read 22 = .ok (.iconst 5, 1) := by decide +kernel
theorem dX10_read_23 : decode cX10_read 23 = .ok (.if_icmp .eq 19, 3) := by decide +kernel
theorem dX10_read_26 : decode cX10_read 26 = .ok (.aload_n 0, 1) := by decide +kernel
theorem dX10_read_27 : decode cX10_read 27 = .ok (.getfield 9, 3) := by decide +kernel
theorem dX10_read_30 : decode cX10_read 30 = .ok (.iconst 3, 1) := by decide +kernel
theorem dX10_read_31 : decode cX10_read 31 = .ok (.if_icmp .eq 11, 3) := by decide +kernel
theorem dX10_read_34 : decode cX10_read 34 = .ok (.aload_n 0, 1) := by decide +kernel
theorem dX10_read_35 : decode cX10_read 35 = .ok (.getfield 9, 3) := by decide +kernel
theorem dX10_read_38 : decode cX10_read 38 = .ok (.iconst 4, 1) := by decide +kernel
theorem dX10_read_39 : decode cX10_read 39 = .ok (.if_icmp .ne 47, 3) := by decide +kernel
theorem dX10_read_42 : decode cX10_read 42 = .ok (.aload_n 0, 1) := by decide +kernel
theorem dX10_read_43 : decode cX10_read 43 = .ok (.aload_n 1, 1) := by decide +kernel
theorem dX10_read_44 : decode cX10_read 44 = .ok (.bipush 47, 2) := by decide +kernel
theorem dX10_read_46 : decode cX10_read 46 = .ok (.aload_n 0, 1) := by decide +kernel
theorem dX10_read_47 : decode cX10_read 47 = .ok (.getfield 16, 3) := by decide +kernel
theorem dX10_read_50 : decode cX10_read 50 = .ok (.iload_n 3, 1) := by decide +kernel
theorem dX10_read_51 : decode cX10_read 51 = .ok (.invokevirtual 32, 3) := by decide +kernel
theorem dX10_read_54 : decode cX10_read 54 = .ok (.putfield 19, 3) := by decide +kernel
theorem dX10_read_57 : decode cX10_read 57 = .ok (.aload_n 0, 1) := by decide +kernel
theorem dX10_read_58 : decode cX10_read 58 = .ok (.aload_n 0, 1) := by decide +kernel
theorem dX10_read_59 : decode cX10_read 59 = .ok (.getfield 19, 3) := by decide +kernel
theorem dX10_read_62 : decode cX10_read 62 = .ok (.iload_n 3, 1) := by decide +kernel
theorem dX10_read_63 : decode cX10_read 63 = .ok (.if_icmp .ne 8, 3) := by decide +kernel
theorem dX10_read_66 : decode cX10_read 66 = .ok (.bipush 32, 2) := by decide +kernel
theorem dX10_read_68 : decode cX10_read 68 = .ok (.goto 15, 3) := by decide +kernel
theorem dX10_read_71 : decode cX10_read 71 = .ok (.aload_n 1, 1) := by decide +kernel
theorem dX10_read_72 : decode cX10_read 72 = .ok (.aload_n 0, 1) := by decide +kernel
theorem dX10_read_73 : decode cX10_read 73 = .ok (.getfield 19, 3) := by decide +kernel
theorem dX10_read_76 : decode cX10_read 76 = .ok (.iconst 1, 1) := by decide +kernel
theorem dX10_read_77 : decode cX10_read 77 = .ok (.iadd, 1) := by decide +kernel
theorem dX10_read_78 : decode cX10_read 78 = .ok (.iload_n 3, 1) := by decide +kernel
theorem dX10_read_79 : decode cX10_read 79 = .ok (.iconst 2, 1) := by decide +kernel
theorem dX10_read_80 : decode cX10_read 80 = .ok (.invokestatic 38, 3) := by decide +kernel
theorem dX10_read_83 : decode cX10_read 83 = .ok (.putfield 22, 3) := by decide +kernel
theorem dX10_read_86 : decode cX10_read 86 = .ok (.aload_n 0, 1) := by decide +kernel
theorem dX10_read_87 : decode cX10_read 87 = .ok (.getfield 22, 3) := by decide +kernel
theorem dX10_read_90 : decode cX10_read 90 = .ok (.ifCond .lt 16, 3) := by decide +kernel
theorem dX10_read_93 : decode cX10_read 93 = .ok (.aload_n 0, 1) := by decide +kernel
theorem dX10_read_94 : decode cX10_read 94 = .ok (.getfield 22, 3) := by decide +kernel
theorem dX10_read_97 : decode cX10_read 97 = .ok (.bipush 32, 2) := by decide +kernel
theorem dX10_read_99 : decode cX10_read 99 = .ok (.if_icmp .gt 7, 3) := by decide +kernel
theorem dX10_read_102 : decode cX10_read 102 = .ok (.iconst 1, 1) := by decide +kernel
theorem dX10_read_103 : decode cX10_read 103 = .ok (.goto 4, 3) := by decide +kernel
theorem dX10_read_106 : decode cX10_read 106 = .ok (.iconst 0, 1) := by decide +kernel
theorem dX10_read_107 : decode cX10_read 107 = .ok (.istore 4, 2) := by decide +kernel
theorem dX10_read_109 : decode cX10_read 109 = .ok (.aload_n 0, 1) := by decide +kernel
theorem dX10_read_110 : decode cX10_read 110 = .ok (.getfield 9, 3) := by decide +kernel
theorem dX10_read_113 : decode cX10_read 113 = .ok (.iconst 5, 1) := by decide +kernel
theorem dX10_read_114 : decode cX10_read 114 = .ok (.if_icmp .ne 34, 3) := by decide +kernel
theorem dX10_read_117 : decode cX10_read 117 = .ok (.iload 4, 2) := by decide +kernel
theorem dX10_read_119 : decode cX10_read 119 = .ok (.ifCond .eq 23, 3) := by decide +kernel
theorem dX10_read_122 : decode cX10_read 122 = .ok (.aload_n 0, 1) := by decide +kernel
theorem dX10_read_123 : decode cX10_read 123 = .ok (.aload_n 1, 1) := by decide +kernel
theorem dX10_read_124 : decode cX10_read 124 = .ok (.aload_n 0, 1) := by decide +kernel
theorem dX10_read_125 : decode cX10_read 125 = .ok (.getfield 16, 3) := by decide +kernel
theorem dX10_read_128 : decode cX10_read 128 = .ok (.aload_n 0, 1) := by decide +kernel
theorem dX10_read_129 : decode cX10_read 129 = .ok (.getfield 19, 3) := by decide +kernel
theorem dX10_read_132 : decode cX10_read 132 = .ok (.invokevirtual 42, 3) := by decide +kernel
theorem dX10_read_135 : decode cX10_read 135 = .ok (.ifCond .eq 7, 3) := by decide +kernel
theorem dX10_read_138 : decode cX10_read 138 = .ok (.iconst 1, 1) := by decide +kernel
theorem dX10_read_139 : decode cX10_read 139 = .ok (.goto 4, 3) := by decide +kernel
theorem dX10_read_142 : decode cX10_read 142 = .ok (.iconst 0, 1) := by decide +kernel
theorem dX10_read_143 : decode cX10_read 143 = .ok (.istore 4, 2) := by decide +kernel
theorem dX10_read_145 : decode cX10_read 145 = .ok (.goto 130, 3) := by decide +kernel
theorem dX10_read_148 : decode cX10_read 148 = .ok (.aload_n 0, 1) := by decide +kernel
theorem dX10_read_149 : decode cX10_read 149 = .ok (.getfield 9, 3) := by decide +kernel
theorem dX10_read_152 : decode cX10_read 152 = .ok (.iconst 3, 1) := by decide +kernel
theorem dX10_read_153 : decode cX10_read 153 = .ok (.if_icmp .eq 11, 3) := by decide +kernel
theorem dX10_read_156 : decode cX10_read 156 = .ok (.aload_n 0, 1) := by decide +kernel
theorem dX10_read_157 : decode cX10_read 157 = .ok (.getfield 9, 3) := by decide +kernel
theorem dX10_read_160 : decode cX10_read 160 = .ok (.iconst 4, 1) := by decide +kernel
theorem dX10_read_161 : decode cX10_read 161 = .ok (.if_icmp .ne 74, 3) := by decide +kernel
theorem dX10_read_164 : decode cX10_read 164 = .ok (.aload_n 1, 1) := by decide +kernel
theorem dX10_read_165 : decode cX10_read 165 = .ok (.aload_n 0, 1) := by decide +kernel
theorem dX10_read_166 : decode cX10_read 166 = .ok (.getfield 16, 3) := by decide +kernel
theorem dX10_read_169 : decode cX10_read 169 = .ok (.iconst 1, 1) := by decide +kernel
theorem dX10_read_170 : decode cX10_read 170 = .ok (.isub, 1) := by decide +kernel
theorem dX10_read_171 : decode cX10_read 171 = .ok (.invokevirtual 46, 3) := by decide +kernel
theorem dX10_read_174 : decode cX10_read 174 = .ok (.bipush 58, 2) := by decide +kernel
theorem dX10_read_176 : decode cX10_read 176 = .ok (.if_icmp .eq 7, 3) := by decide +kernel
theorem dX10_read_179 : decode cX10_read 179 = .ok (.iconst 1, 1) := by decide +kernel
theorem dX10_read_180 : decode cX10_read 180 = .ok (.goto 4, 3) := by decide +kernel
theorem dX10_read_183 : decode cX10_read 183 = .ok (.iconst 0, 1) := by decide +kernel
theorem dX10_read_184 : decode cX10_read 184 = .ok (.istore 5, 2) := by decide +kernel
theorem dX10_read_186 : decode cX10_read 186 = .ok (.iload 4, 2) := by decide +kernel
theorem dX10_read_188 : decode cX10_read 188 = .ok (.ifCond .eq 41, 3) := by decide +kernel
theorem dX10_read_191 : decode cX10_read 191 = .ok (.iload 5, 2) := by decide +kernel
theorem dX10_read_193 : decode cX10_read 193 = .ok (.ifCond .eq 17, 3) := by decide +kernel
theorem dX10_read_196 : decode cX10_read 196 = .ok (.aload_n 0, 1) := by decide +kernel
theorem dX10_read_197 : decode cX10_read 197 = .ok (.getfield 16, 3) := by decide +kernel
theorem dX10_read_200 : decode cX10_read 200 = .ok (.aload_n 0, 1) := by decide +kernel
theorem dX10_read_201 : decode cX10_read 201 = .ok (.getfield 19, 3) := by decide +kernel
theorem dX10_read_204 : decode cX10_read 204 = .ok (.if_icmp .ne 25, 3) := by decide +kernel
theorem dX10_read_207 : decode cX10_read 207 = .ok (.goto 18, 3) := by decide +kernel
theorem dX10_read_210 : decode cX10_read 210 = .ok (.aload_n 1, 1) := by decide +kernel
theorem dX10_read_211 : decode cX10_read 211 = .ok (.aload_n 0, 1) := by decide +kernel
theorem dX10_read_212 : decode cX10_read 212 = .ok (.getfield 16, 3) := by decide +kernel
theorem dX10_read_215 : decode cX10_read 215 = .ok (.aload_n 0, 1) := by decide +kernel
theorem dX10_read_216 : decode cX10_read 216 = .ok (.getfield 19, 3) := by decide +kernel
theorem dX10_read_219 : decode cX10_read 219 = .ok (.invokestatic 50, 3) := by decide +kernel
theorem dX10_read_222 : decode cX10_read 222 = .ok (.ifCond .eq 7, 3) := by decide +kernel
theorem dX10_read_225 : decode cX10_read 225 = .ok (.iconst 1, 1) := by decide +kernel
theorem dX10_read_226 : decode cX10_read 226 = .ok (.goto 4, 3) := by decide +kernel
theorem dX10_read_229 : decode cX10_read 229 = .ok (.iconst 0, 1) := by decide +kernel
theorem dX10_read_230 : decode cX10_read 230 = .ok (.istore 4, 2) := by decide +kernel
theorem dX10_read_232 : decode cX10_read 232 = .ok (.goto 43, 3) := by decide +kernel
theorem dX10_read_235 : decode cX10_read 235 = .ok (.aload_n 0, 1) := by decide +kernel
theorem dX10_read_236 : decode cX10_read 236 = .ok (.getfield 9, 3) := by decide +kernel
theorem dX10_read_239 : decode cX10_read 239 = .ok (.iconst 2, 1) := by decide +kernel
theorem dX10_read_240 : decode cX10_read 240 = .ok (.if_icmp .eq 21, 3) := by decide +kernel
theorem dX10_read_243 : decode cX10_read 243 = .ok (.aload_n 0, 1) := by decide +kernel
theorem dX10_read_244 : decode cX10_read 244 = .ok (.getfield 9, 3) := by decide +kernel
theorem dX10_read_247 : decode cX10_read 247 = .ok (.bipush 6, 2) := by decide +kernel
theorem dX10_read_249 : decode cX10_read 249 = .ok (.if_icmp .eq 12, 3) := by decide +kernel
theorem dX10_read_252 : decode cX10_read 252 = .ok (.aload_n 0, 1) := by decide +kernel
theorem dX10_read_253 : decode cX10_read 253 = .ok (.getfield 9, 3) := by decide +kernel
theorem dX10_read_256 : decode cX10_read 256 = .ok (.bipush 7, 2) := by decide +kernel
theorem dX10_read_258 : decode cX10_read 258 = .ok (.if_icmp .ne 17, 3) := by decide +kernel
theorem dX10_read_261 : decode cX10_read 261 = .ok (.aload_n 1, 1) := by decide +kernel
theorem dX10_read_262 : decode cX10_read 262 = .ok (.aload_n 0, 1) := by decide +kernel
theorem dX10_read_263 : decode cX10_read 263 = .ok (.getfield 16, 3) := by decide +kernel
theorem dX10_read_266 : decode cX10_read 266 = .ok (.aload_n 0, 1) := by decide +kernel
theorem dX10_read_267 : decode cX10_read 267 = .ok (.getfield 19, 3) := by decide +kernel
theorem dX10_read_270 : decode cX10_read 270 = .ok (.invokestatic 50, 3) := by decide +kernel
theorem dX10_read_273 : decode cX10_read 273 = .ok (.istore 4, 2) := by decide +kernel
theorem dX10_read_275 : decode cX10_read 275 = .ok (.aload_n 0, 1) := by decide +kernel
theorem dX10_read_276 : decode cX10_read 276 = .ok (.iload 4, 2) := by decide +kernel
theorem dX10_read_278 : decode cX10_read 278 = .ok (.ifCond .eq 10, 3) := by decide +kernel
theorem dX10_read_281 : decode cX10_read 281 = .ok (.aload_n 0, 1) := by decide +kernel
theorem dX10_read_282 : decode cX10_read 282 = .ok (.getfield 9, 3) := by decide +kernel
theorem dX10_read_285 : decode cX10_read 285 = .ok (.goto 4, 3) := by decide +kernel
theorem dX10_read_288 : decode cX10_read 288 = .ok (.iconst 0, 1) := by decide +kernel
theorem dX10_read_289 : decode cX10_read 289 = .ok (.putfield 9, 3) := by decide +kernel
theorem dX10_read_292 : decode cX10_read 292 = .ok (.return_, 1) := by decide +kernel
theorem dX10_readKind_0 : decode cX10_readKind 0 = .ok (.aload_n 0, 1) := by decide +kernel
theorem dX10_readKind_1 : decode cX10_readKind 1 = .ok (.bipush 43, 2) := by decide +kernel
theorem dX10_readKind_3 : decode cX10_readKind 3 = .ok (.putfield 13, 3) := by decide +kernel
theorem dX10_readKind_6 : decode cX10_readKind 6 = .ok (.aload_n 1, 1) := by decide +kernel
theorem dX10_readKind_7 : decode cX10_readKind 7 = .ok (.iload_n 2, 1) := by decide +kernel
theorem dX10_readKind_8 : decode cX10_readKind 8 = .ok (.iload_n 3, 1) := by decide +kernel
theorem dX10_readKind_9 : decode cX10_readKind 9 = .ok (.ldc 53, 2) := by decide +kernel
theorem dX10_readKind_11 : decode cX10_readKind 11 = .ok (.invokevirtual 55, 3) := by decide +kernel
theorem dX10_readKind_14 : decode cX10_readKind 14 = .ok (.ifCond .eq 14, 3) := by decide +kernel
theorem dX10_readKind_17 : decode cX10_readKind 17 = .ok (.aload_n 0, 1) := by decide +kernel
theorem dX10_readKind_18 : decode cX10_readKind 18 = .ok (.bipush 7, 2) := by decide +kernel
theorem dX10_readKind_20 : decode cX10_readKind 20 = .ok (.iload_n 2, 1) := by decide +kernel
theorem dX10_readKind_21 : decode cX10_readKind 21 = .ok (.bipush 9, 2) := by decide +kernel
theorem dX10_readKind_23 : decode cX10_readKind 23 = .ok (.iadd, 1) := by decide +kernel
theorem dX10_readKind_24 : decode cX10_readKind 24 = .ok (.invokevirtual 59, 3) := by decide +kernel
theorem dX10_readKind_27 : decode cX10_readKind 27 = .ok (.return_, 1) := by decide +kernel
theorem dX10_readKind_28 : decode cX10_readKind 28 = .ok (.aload_n 1, 1) := by decide +kernel
theorem dX10_readKind_29 : decode cX10_readKind 29 = .ok (.iload_n 2, 1) := by decide +kernel
theorem dX10_readKind_30 : decode cX10_readKind 30 = .ok (.iload_n 3, 1) := by decide +kernel
theorem dX10_readKind_31 : decode cX10_readKind 31 = .ok (.invokestatic 63, 3) := by decide +kernel
theorem dX10_readKind_34 : decode cX10_readKind 34 = .ok (.ifCond .eq 11, 3) := by decide +kernel
theorem dX10_readKind_37 : decode cX10_readKind 37 = .ok (.aload_n 0, 1) := by decide +kernel
theorem dX10_readKind_38 : decode cX10_readKind 38 = .ok (.bipush 8, 2) := by decide +kernel
theorem dX10_readKind_40 : decode cX10_readKind 40 = .ok (.iload_n 3, 1) := by decide +kernel
theorem dX10_readKind_41 : decode cX10_readKind 41 = .ok (.invokevirtual 59, 3) := by decide +kernel
theorem dX10_readKind_44 : decode cX10_readKind 44 = .ok (.return_, 1) := by decide +kernel
theorem dX10_readKind_45 : decode cX10_readKind 45 = .ok (.aload_n 1, 1) := by decide +kernel
theorem dX10_readKind_46 : decode cX10_readKind 46 = .ok (.iload_n 2, 1) := by decide +kernel
theorem dX10_readKind_47 : decode cX10_readKind 47 = .ok (.invokevirtual 46, 3) := by decide +kernel
theorem dX10_readKind_50 : decode cX10_readKind 50 = .ok (.istore 4, 2) := by decide +kernel
theorem dX10_readKind_52 : decode cX10_readKind 52 = .ok (.iload 4, 2) := by decide +kernel
theorem dX10_readKind_54 : decode cX10_readKind 54 = .ok (.bipush 43, 2) := by decide +kernel
theorem dX10_readKind_56 : decode cX10_readKind 56 = .ok (.if_icmp .eq 24, 3) := by decide +kernel
theorem dX10_readKind_59 : decode cX10_readKind 59 = .ok (.iload 4, 2) := by decide +kernel
theorem dX10_readKind_61 : decode cX10_readKind 61 = .ok (.bipush 63, 2) := by decide +kernel
theorem dX10_readKind_63 : decode cX10_readKind 63 = .ok (.if_icmp .eq 17, 3) := by decide +kernel
theorem dX10_readKind_66 : decode cX10_readKind 66 = .ok (.iload 4, 2) := by decide +kernel
theorem dX10_readKind_68 : decode cX10_readKind 68 = .ok (.bipush 126, 2) := by decide +kernel
theorem dX10_readKind_70 : decode cX10_readKind 70 = .ok (.if_icmp .eq 10, 3) := by decide +kernel
theorem dX10_readKind_73 : decode cX10_readKind 73 = .ok (.iload 4, 2) := by decide +kernel
theorem dX10_readKind_75 : decode cX10_readKind 75 = .ok (.bipush 45, 2) := by decide +kernel
theorem dX10_readKind_77 : decode cX10_readKind 77 = .ok (.if_icmp .ne 7, 3) := by decide +kernel
theorem dX10_readKind_80 : decode cX10_readKind 80 = .ok (.iconst 1, 1) := by decide +kernel
theorem dX10_readKind_81 : decode cX10_readKind 81 = .ok (.goto 4, 3) := by decide +kernel
theorem dX10_readKind_84 : decode cX10_readKind 84 = .ok (.iconst 0, 1) := by decide +kernel
theorem dX10_readKind_85 : decode cX10_readKind 85 = .ok (.istore 5, 2) := by decide +kernel
theorem dX10_readKind_87 : decode cX10_readKind 87 = .ok (.aload_n 0, 1) := by decide +kernel
theorem dX10_readKind_88 : decode cX10_readKind 88 = .ok (.iload 5, 2) := by decide +kernel
theorem dX10_readKind_90 : decode cX10_readKind 90 = .ok (.ifCond .eq 8, 3) := by decide +kernel
theorem dX10_readKind_93 : decode cX10_readKind 93 = .ok (.iload 4, 2) := by decide +kernel
theorem dX10_readKind_95 : decode cX10_readKind 95 = .ok (.goto 5, 3) := by decide +kernel
theorem dX10_readKind_98 : decode cX10_readKind 98 = .ok (.bipush 43, 2) := by decide +kernel
theorem dX10_readKind_100 : decode cX10_readKind 100 = .ok (.putfield 13, 3) := by decide +kernel
theorem dX10_readKind_103 : decode cX10_readKind 103 = .ok (.iload 5, 2) := by decide +kernel
theorem dX10_readKind_105 : decode cX10_readKind 105 = .ok (.ifCond .eq 9, 3) := by decide +kernel
theorem dX10_readKind_108 : decode cX10_readKind 108 = .ok (.iload_n 2, 1) := by decide +kernel
theorem dX10_readKind_109 : decode cX10_readKind 109 = .ok (.iconst 1, 1) := by decide +kernel
theorem dX10_readKind_110 : decode cX10_readKind 110 = .ok (.iadd, 1) := by decide +kernel
theorem dX10_readKind_111 : decode cX10_readKind 111 = .ok (.goto 4, 3) := by decide +kernel
theorem dX10_readKind_114 : decode cX10_readKind 114 = .ok (.iload_n 2, 1) := by decide +kernel
theorem dX10_readKind_115 : decode cX10_readKind 115 = .ok (.istore 6, 2) := by decide +kernel
theorem dX10_readKind_117 : decode cX10_readKind 117 = .ok (.aload_n 1, 1) := by decide +kernel
theorem dX10_readKind_118 : decode cX10_readKind 118 = .ok (.iload 6, 2) := by decide +kernel
theorem dX10_readKind_120 : decode cX10_readKind 120 = .ok (.iload_n 3, 1) := by decide +kernel
theorem dX10_readKind_121 : decode cX10_readKind 121 = .ok (.ldc 66, 2) := by decide +kernel
theorem dX10_readKind_123 : decode cX10_readKind 123 = .ok (.invokevirtual 68, 3) := by decide +kernel
theorem dX10_readKind_126 : decode cX10_readKind 126 = .ok (.ifCond .eq 12, 3) := by decide +kernel
theorem dX10_readKind_129 : decode cX10_readKind 129 = .ok (.aload_n 0, 1) := by decide +kernel
theorem dX10_readKind_130 : decode cX10_readKind 130 = .ok (.iconst 1, 1) := by decide +kernel
theorem dX10_readKind_131 : decode cX10_readKind 131 = .ok (.iload_n 3, 1) := by decide +kernel
theorem dX10_readKind_132 : decode cX10_readKind 132 = .ok (.invokevirtual 59, 3) := by decide +kernel
theorem dX10_readKind_135 : decode cX10_readKind 135 = .ok (.goto 170, 3) := by decide +kernel
theorem dX10_readKind_138 : decode cX10_readKind 138 = .ok (.aload_n 1, 1) := by decide +kernel
theorem dX10_readKind_139 : decode cX10_readKind 139 = .ok (.iload 6, 2) := by decide +kernel
theorem dX10_readKind_141 : decode cX10_readKind 141 = .ok (.iload_n 3, 1) := by decide +kernel
theorem dX10_readKind_142 : decode cX10_readKind 142 = .ok (.ldc 71, 2) := by decide +kernel
theorem dX10_readKind_144 : decode cX10_readKind 144 = .ok (.invokevirtual 55, 3) := by decide +kernel
theorem dX10_readKind_147 : decode cX10_readKind 147 = .ok (.ifCond .eq 16, 3) := by decide +kernel
theorem dX10_readKind_150 : decode cX10_readKind 150 = .ok (.aload_n 0, 1) := by decide +kernel
theorem dX10_readKind_151 : decode cX10_readKind 151 = .ok (.iconst 2, 1) := by decide +kernel
theorem dX10_readKind_152 : decode cX10_readKind 152 = .ok (.iload 6, 2) := by decide +kernel
theorem dX10_readKind_154 : decode cX10_readKind 154 = .ok (.bipush 8, 2) := by decide +kernel
theorem dX10_readKind_156 : decode cX10_readKind 156 = .ok (.iadd, 1) := by decide +kernel
theorem dX10_readKind_157 : decode cX10_readKind 157 = .ok (.invokevirtual 59, 3) := by decide +kernel
theorem dX10_readKind_160 : decode cX10_readKind 160 = .ok (.goto 145, 3) := by decide +kernel
theorem dX10_readKind_163 : decode cX10_readKind 163 = .ok (.aload_n 1, 1) := by decide +kernel
theorem dX10_readKind_164 : decode cX10_readKind 164 = .ok (.iload 6, 2) := by decide +kernel
theorem dX10_readKind_166 : decode cX10_readKind 166 = .ok (.iload_n 3, 1) := by decide +kernel
theorem dX10_readKind_167 : decode cX10_readKind 167 = .ok (.ldc 73, 2) := by decide +kernel
theorem dX10_readKind_169 : decode cX10_readKind 169 = .ok (.invokevirtual 55, 3) := by decide +kernel
theorem dX10_readKind_172 : decode cX10_readKind 172 = .ok (.ifCond .eq 17, 3) := by decide +kernel
theorem dX10_readKind_175 : decode cX10_readKind 175 = .ok (.aload_n 0, 1) := by decide +kernel
theorem dX10_readKind_176 : decode cX10_readKind 176 = .ok (.bipush 6, 2) := by decide +kernel
theorem dX10_readKind_178 : decode cX10_readKind 178 = .ok (.iload 6, 2) := by decide +kernel
theorem dX10_readKind_180 : decode cX10_readKind 180 = .ok (.bipush 7, 2) := by decide +kernel
theorem dX10_readKind_182 : decode cX10_readKind 182 = .ok (.iadd, 1) := by decide +kernel
theorem dX10_readKind_183 : decode cX10_readKind 183 = .ok (.invokevirtual 59, 3) := by decide +kernel
theorem dX10_readKind_186 : decode cX10_readKind 186 = .ok (.goto 119, 3) := by decide +kernel
theorem dX10_readKind_189 : decode cX10_readKind 189 = .ok (.aload_n 1, 1) := by decide +kernel
theorem dX10_readKind_190 : decode cX10_readKind 190 = .ok (.iload 6, 2) := by decide +kernel
theorem dX10_readKind_192 : decode cX10_readKind 192 = .ok (.iload_n 3, 1) := by decide +kernel
theorem dX10_readKind_193 : decode cX10_readKind 193 = .ok (.ldc 75, 2) := by decide +kernel
theorem dX10_readKind_195 : decode cX10_readKind 195 = .ok (.invokevirtual 55, 3) := by decide +kernel
theorem dX10_readKind_198 : decode cX10_readKind 198 = .ok (.ifCond .eq 15, 3) := by decide +kernel
theorem dX10_readKind_201 : decode cX10_readKind 201 = .ok (.aload_n 0, 1) := by decide +kernel
theorem dX10_readKind_202 : decode cX10_readKind 202 = .ok (.iconst 5, 1) := by decide +kernel
theorem dX10_readKind_203 : decode cX10_readKind 203 = .ok (.iload 6, 2) := by decide +kernel
theorem dX10_readKind_205 : decode cX10_readKind 205 = .ok (.iconst 4, 1) := by decide +kernel
theorem dX10_readKind_206 : decode cX10_readKind 206 = .ok (.iadd, 1) := by decide +kernel
theorem dX10_readKind_207 : decode cX10_readKind 207 = .ok (.invokevirtual 59, 3) := by decide +kernel
theorem dX10_readKind_210 : decode cX10_readKind 210 = .ok (.goto 95, 3) := by decide +kernel
theorem dX10_readKind_213 : decode cX10_readKind 213 = .ok (.aload_n 1, 1) := by decide +kernel
theorem dX10_readKind_214 : decode cX10_readKind 214 = .ok (.iload 6, 2) := by decide +kernel
theorem dX10_readKind_216 : decode cX10_readKind 216 = .ok (.iload_n 3, 1) := by decide +kernel
theorem dX10_readKind_217 : decode cX10_readKind 217 = .ok (.ldc 77, 2) := by decide +kernel
theorem dX10_readKind_219 : decode cX10_readKind 219 = .ok (.invokevirtual 55, 3) := by decide +kernel
theorem dX10_readKind_222 : decode cX10_readKind 222 = .ok (.ifCond .eq 34, 3) := by decide +kernel
theorem dX10_readKind_225 : decode cX10_readKind 225 = .ok (.aload_n 0, 1) := by decide +kernel
theorem dX10_readKind_226 : decode cX10_readKind 226 = .ok (.iconst 4, 1) := by decide +kernel
theorem dX10_readKind_227 : decode cX10_readKind 227 = .ok (.aload_n 1, 1) := by decide +kernel
theorem dX10_readKind_228 : decode cX10_readKind 228 = .ok (.iload 6, 2) := by decide +kernel
theorem dX10_readKind_230 : decode cX10_readKind 230 = .ok (.iload_n 3, 1) := by decide +kernel
theorem dX10_readKind_231 : decode cX10_readKind 231 = .ok (.ldc 79, 2) := by decide +kernel
theorem dX10_readKind_233 : decode cX10_readKind 233 = .ok (.invokevirtual 55, 3) := by decide +kernel
theorem dX10_readKind_236 : decode cX10_readKind 236 = .ok (.ifCond .eq 10, 3) := by decide +kernel
theorem dX10_readKind_239 : decode cX10_readKind 239 = .ok (.iload 6, 2) := by decide +kernel
theorem dX10_readKind_241 : decode cX10_readKind 241 = .ok (.iconst 3, 1) := by decide +kernel
theorem dX10_readKind_242 : decode cX10_readKind 242 = .ok (.iadd, 1) := by decide +kernel
theorem dX10_readKind_243 : decode cX10_readKind 243 = .ok (.goto 7, 3) := by decide +kernel
theorem dX10_readKind_246 : decode cX10_readKind 246 = .ok (.iload 6, 2) := by decide +kernel
theorem dX10_readKind_248 : decode cX10_readKind 248 = .ok (.iconst 2, 1) := by decide +kernel
theorem dX10_readKind_249 : decode cX10_readKind 249 = .ok (.iadd, 1) := by decide +kernel
theorem dX10_readKind_250 : decode cX10_readKind 250 = .ok (.invokevirtual 59, 3) := by decide +kernel
theorem dX10_readKind_253 : decode cX10_readKind 253 = .ok (.goto 52, 3) := by decide +kernel
theorem dX10_readKind_256 : decode cX10_readKind 256 = .ok (.aload_n 1, 1) := by decide +kernel
theorem dX10_readKind_257 : decode cX10_readKind 257 = .ok (.iload 6, 2) := by decide +kernel
theorem dX10_readKind_259 : decode cX10_readKind 259 = .ok (.iload_n 3, 1) := by decide +kernel
theorem dX10_readKind_260 : decode cX10_readKind 260 = .ok (.ldc 81, 2) := by decide +kernel
theorem dX10_readKind_262 : decode cX10_readKind 262 = .ok (.invokevirtual 55, 3) := by decide +kernel
theorem dX10_readKind_265 : decode cX10_readKind 265 = .ok (.ifCond .eq 34, 3) := by decide +kernel
theorem dX10_readKind_268 : decode cX10_readKind 268 = .ok (.aload_n 0, 1) := by decide +kernel
theorem dX10_readKind_269 : decode cX10_readKind 269 = .ok (.iconst 3, 1) := by decide +kernel
theorem dX10_readKind_270 : decode cX10_readKind 270 = .ok (.aload_n 1, 1) := by decide +kernel
theorem dX10_readKind_271 : decode cX10_readKind 271 = .ok (.iload 6, 2) := by decide +kernel
theorem dX10_readKind_273 : decode cX10_readKind 273 = .ok (.iload_n 3, 1) := by decide +kernel
theorem dX10_readKind_274 : decode cX10_readKind 274 = .ok (.ldc 83, 2) := by decide +kernel
theorem dX10_readKind_276 : decode cX10_readKind 276 = .ok (.invokevirtual 55, 3) := by decide +kernel
theorem dX10_readKind_279 : decode cX10_readKind 279 = .ok (.ifCond .eq 10, 3) := by decide +kernel
theorem dX10_readKind_282 : decode cX10_readKind 282 = .ok (.iload 6, 2) := by decide +kernel
theorem dX10_readKind_284 : decode cX10_readKind 284 = .ok (.iconst 2, 1) := by decide +kernel
theorem dX10_readKind_285 : decode cX10_readKind 285 = .ok (.iadd, 1) := by decide +kernel
theorem dX10_readKind_286 : decode cX10_readKind 286 = .ok (.goto 7, 3) := by decide +kernel
theorem dX10_readKind_289 : decode cX10_readKind 289 = .ok (.iload 6, 2) := by decide +kernel
theorem dX10_readKind_291 : decode cX10_readKind 291 = .ok (.iconst 1, 1) := by decide +kernel
theorem dX10_readKind_292 : decode cX10_readKind 292 = .ok (.iadd, 1) := by decide +kernel
theorem dX10_readKind_293 : decode cX10_readKind 293 = .ok (.invokevirtual 59, 3) := by decide +kernel
theorem dX10_readKind_296 : decode cX10_readKind 296 = .ok (.goto 9, 3) := by decide +kernel
theorem dX10_readKind_299 : decode cX10_readKind 299 = .ok (.aload_n 0, 1) := by decide +kernel
theorem dX10_readKind_300 : decode cX10_readKind 300 = .ok (.iconst 0, 1) := by decide +kernel
theorem dX10_readKind_301 : decode cX10_readKind 301 = .ok (.iload_n 3, 1) := by decide +kernel
theorem dX10_readKind_302 : decode cX10_readKind 302 = .ok (.invokevirtual 59, 3) := by decide +kernel
theorem dX10_readKind_305 : decode cX10_readKind 305 = .ok (.return_, 1) := by decide +kernel
theorem kt_135 : Cond.fieldLink RX10 13 "PostGate$Term" "sign" "I" ∈ tb := tb_at (i := 198) (by decide +kernel) (by decide +kernel)
theorem kt_136 : Cond.methodLink RX10 55 yX0_begins ∈ tb := tb_at (i := 692) (by decide +kernel) (by decide +kernel)
theorem kt_137 : Cond.code yX10_isOther cX10_isOther 6 (some .boolean) ∈ tb := tb_at (i := 699) (by decide +kernel) (by decide +kernel)
theorem kt_138 : Cond.methodLink RX10 63 yX10_isOther ∈ tb := tb_at (i := 697) (by decide +kernel) (by decide +kernel)
theorem kt_139 : Cond.static yX10_isOther ∈ tb := tb_at (i := 698) (by decide +kernel) (by decide +kernel)
theorem kt_140 : Cond.methodLink RX10 68 yX0_is ∈ tb := tb_at (i := 705) (by decide +kernel) (by decide +kernel)
theorem kt_141 : Cond.code yX10_setKind cX10_setKind 3 none ∈ tb := tb_at (i := 696) (by decide +kernel) (by decide +kernel)
theorem kt_142 : Cond.methodLink RX10 59 yX10_setKind ∈ tb := tb_at (i := 693) (by decide +kernel) (by decide +kernel)
theorem kt_143 : Cond.instanceMethod yX10_setKind ∈ tb := tb_at (i := 695) (by decide +kernel) (by decide +kernel)
theorem kt_144 : Cond.selects RX10 yX10_setKind yX10_setKind ∈ tb := tb_at (i := 3) (by decide +kernel) (by decide +kernel)
theorem kt_145 : Cond.code yX10_readKind cX10_readKind 7 none ∈ tb := tb_at (i := 690) (by decide +kernel) (by decide +kernel)
theorem kt_146 : Cond.methodLink RX10 28 yX10_readKind ∈ tb := tb_at (i := 687) (by decide +kernel) (by decide +kernel)
theorem kt_147 : Cond.instanceMethod yX10_readKind ∈ tb := tb_at (i := 689) (by decide +kernel) (by decide +kernel)
theorem kt_148 : Cond.selects RX10 yX10_readKind yX10_readKind ∈ tb := tb_at (i := 2) (by decide +kernel) (by decide +kernel)
theorem kt_149 : Cond.fieldLink RX10 19 "PostGate$Term" "stop" "I" ∈ tb := tb_at (i := 202) (by decide +kernel) (by decide +kernel)
theorem kt_150 : Cond.fieldLink RX10 22 "PostGate$Term" "bits" "I" ∈ tb := tb_at (i := 204) (by decide +kernel) (by decide +kernel)
theorem kt_151 : Cond.code yX10_isHost cX10_isHost 7 (some .boolean) ∈ tb := tb_at (i := 722) (by decide +kernel) (by decide +kernel)
theorem kt_152 : Cond.methodLink RX10 50 yX10_isHost ∈ tb := tb_at (i := 720) (by decide +kernel) (by decide +kernel)
theorem kt_153 : Cond.static yX10_isHost ∈ tb := tb_at (i := 721) (by decide +kernel) (by decide +kernel)
theorem kt_154 : Cond.code yX10_readQuad cX10_readQuad 8 (some .boolean) ∈ tb := tb_at (i := 719) (by decide +kernel) (by decide +kernel)
theorem kt_155 : Cond.methodLink RX10 42 yX10_readQuad ∈ tb := tb_at (i := 716) (by decide +kernel) (by decide +kernel)
theorem kt_156 : Cond.instanceMethod yX10_readQuad ∈ tb := tb_at (i := 718) (by decide +kernel) (by decide +kernel)
theorem kt_157 : Cond.selects RX10 yX10_readQuad yX10_readQuad ∈ tb := tb_at (i := 4) (by decide +kernel) (by decide +kernel)
theorem fnd {n t : Nat} {r : Int32} (h : r = nI t ∨ ∃ j : Nat, j < n ∧ r = nI j) (ht : t ≤ 10000) (hn : n ≤ 10000) : ∃ k : Nat, k ≤ 10000 ∧ r = nI k := by
  rcases h with h | ⟨j, hj, h⟩
  · exact ⟨t, ht, h⟩
  · exact ⟨j, by omega, h⟩
set_option maxHeartbeats 4000000 in
set_option maxRecDepth 100000 in
theorem s_X10_readKind (l : Launch) (dC : Nat → ClassId) (dI : Nat → Nat → Nat) (cs : Nat → ClassId) (ty : TyM) (L : List Nat) (sz : Nat) (F : Nat → va_E) (h0 : Nat) (ρ : Nat) (g1 : Nat) (σ : Nat) (r1 : Nat) (n1 : Nat) (x2 : Int32) (x3 : Int32) (hW : WT ty L) (hL_h0 : h0 ∈ L) (hT_h0 : ty h0 = (10, ρ, [])) (hL_g1 : g1 ∈ L) (hT_g1 : ty g1 = (0, σ, [r1, n1])) : Met l yX10_readKind (.code yX10_readKind cX10_readKind 7 none :: tb) ({ frames := 6, cells := 0, slots := 0, locals := 132 }) (va_Pc [.ref h0, .ref g1, .int x2, .int x3] (PTE (dC, dI) cs ty L F sz [])) (va_Qv (fun _ : Unit => True) (fun _ T9 => ∃ F2 : Nat → va_E, QT (dC, dI) cs ty L [ρ] F F2 (va_A (va_pl L F) sz) T9) (va_A (va_pl L F) sz)) 0 0 (va_A (va_pl L F) sz) := by
  refine Met.ofW (cc := cX10_readKind) (maxL := 7) (ret := none) (by decide) rfl ?_
  intro p e s m args below meth c s₁ B hml hv
  obtain ⟨rfl, ⟨hsz, hP, hK, hD0, hE, hO⟩, hG, hX⟩ := hv
  have hx := B.exec
  have hb := B.bytes
  have hr := B.returns
  have hts : ∀ w ∈ tb, w.before _ s = true := fun w h => atoms_spec (ws := .code yX10_readKind cX10_readKind 7 none :: tb) B.pre w (List.mem_cons_of_mem _ h)
  have hown : s.vm.findClass RX10 = some m.cls := findClass_of_methodNamed B.named
  have hlocks := B.notSynchronized
  subst hsz
  have hD := hD0.self (sz := s.heap.size)
  generalize hAe : va_A (va_pl L F) s.heap.size = A at hD hG hX ⊢
  have hA : ∀ q : Nat, s.heap.size ≤ q → A q := fun q h => by rw [← hAe]; exact Or.inr h
  have hS : va_S A s.heap s.heap [] := va_S.rf
  have hR : FR ty [ρ] F F := FR.refl
  have hl := lv_entry ([.ref h0, .ref g1, .int x2, .int x3]) (n := 7) (Nat.le_of_ble_eq_true rfl)
  rw [lg_entry_eq]
  generalize (lg_sl ([.ref h0, .ref g1, .int x2, .int x3]) ++ List.replicate (7 - (lg_sl ([.ref h0, .ref g1, .int x2, .int x3])).length) Slot.unset).toArray = ls at hl ⊢
  have hl : lv_has ls 7 [(0, .ref h0), (1, .ref g1), (2, .int x2), (3, .int x3)] := hl
  refine lv_aload_n hx hb dX10_readKind_0 rfl (lv_at hl 0 rfl) ?_
  refine lv_bipush (v := 43) hx hb dX10_readKind_1 (by decide) ?_
  obtain ⟨v0_1, v1_2, v2_3, z_4, v4_5, v5_6, hF_7, hq_8⟩ := hO.term hL_h0 hT_h0
  refine pg_put (ci := 10) (v := .int 43) (ty := .int) (C := RX10) (T := TX10) (N := 6) hx hb hts it_10 tyX10 tyX10_ok nmX10 hown hK hP hD hS hL_h0 hF_7 rfl 1 (by decide) (hts _ kt_135) (fun _ h9 => h9) rfl (by decide +kernel) (rfl) (rfl) (Nat.le_of_ble_eq_true rfl) dX10_readKind_3 (fun H locs hP hD hS => ?_)
  obtain ⟨F_9, he_10, hP, hD, hO, hR⟩ : ∃ G, G = va_up F h0 (.inr (10, [.int v0_1, .int 43, .int v2_3, .int (nI z_4), .int v4_5, .int v5_6])) ∧ va_P (dC, dI) vwCl (va_pl L G) H ∧ va_D A (va_pl L G) ∧ OK cs ty L G ∧ FR ty [ρ] F G := ⟨_, rfl, hP, hD, hO.up (sh.term hT_h0 ⟨v0_1, 43, v2_3, z_4, v4_5, v5_6, rfl, (by first | omega | assumption | exact Or.inl rfl | exact Or.inr rfl)⟩), hR.up hT_h0 (by simp)⟩
  have hF_11 : F_9 h0 = .inr (10, [.int v0_1, .int 43, .int v2_3, .int (nI z_4), .int v4_5, .int v5_6]) := by rw [he_10]; exact up_self
  refine lv_aload_n hx hb dX10_readKind_6 rfl (lv_at hl 1 rfl) ?_
  refine lv_iload_n hx hb dX10_readKind_7 rfl (lv_at hl 2 rfl) ?_
  refine lv_iload_n hx hb dX10_readKind_8 rfl (lv_at hl 3 rfl) ?_
  obtain ⟨q_12, v_13, hr_q_12, hXc_q_12⟩ := hG.2.2.2.2 ("PostGate$Term", 53, "redirect=", [114, 101, 100, 105, 114, 101, 99, 116, 61]) (by decide +kernel)
  have hXc_q_12 : SXc q_12 v_13 9 (cct [114, 101, 100, 105, 114, 101, 99, 116, 61]) A s s.heap := hXc_q_12
  have hX_q_12 : SX q_12 v_13 9 A s s.heap := hXc_q_12.sx
  obtain ⟨xo_q_12, xc_q_12, xv_q_12, xt_q_12, xn_q_12⟩ := id hXc_q_12
  have hr_q_12 : vk_R "PostGate$Term" 53 "redirect=" q_12 s := hr_q_12
  refine va_ldcS hx hb hown hr_q_12 dX10_readKind_9 ?_
  have hFc := pg_free hD hS hA
  obtain ⟨hi_14, ht_15, hq_16⟩ := hW.bytes hL_g1 hT_g1
  obtain ⟨z_17, o_18, hF_19, hq_20, hq_21⟩ := hO.bytes hL_g1 hT_g1
  refine va_calli (va_runV (As := [.int x2, .int x3, .ref q_12]) (rest := []) ⟨hx, hb, hml, hown, hts⟩ (s_X0_begins l dC dI cs ty L H.size F_9 g1 σ r1 n1 q_12 v_13 9 x2 x3 hW hL_g1 hT_g1) ⟨callB_of 3 hts (gi kt_112) rfl rfl rfl (hts _ kt_1) (hts _ kt_136) (by decide +kernel) ⟨Nat.le_of_ble_eq_true rfl, Nat.le_of_ble_eq_true rfl⟩, (hts _ kt_114), (hts _ kt_115)⟩ ⟨fun a U g mk q => ⟨q.1, PTE.calling q.2⟩, pg_recv hK hP hL_g1 hF_19 (q := (RX0, TX0, 3)) rfl, fun U hU hWm => ⟨rfl, PTE.mk hU hWm hP hK hD hE hO hG (fun x hx => by rw [List.mem_singleton] at hx; subst hx; exact hX_q_12) hS hFc⟩⟩ rfl rfl hl.1 rfl (lv_room (Nat.le_of_ble_eq_true rfl)) dX10_readKind_11 ⟨by show _ + 0 ≤ 0; omega, by show _ + 0 ≤ 0; omega⟩) hS (fun q _ h => hFc q h) hFc (fun r_22 u t H1 locs ht hvm hw hB hz1 hk1 hS => ?_)
  obtain ⟨F_23, hB1⟩ := hB
  obtain ⟨hP, hD, hO, hR⟩ := QT.back hB1 ht hFc hR (fun q h => absurd h List.not_mem_nil)
  have hF_24 : F_23 h0 = .inr (10, [.int v0_1, .int 43, .int v2_3, .int (nI z_4), .int v4_5, .int v5_6]) := (hB1.2.2.2 h0 List.not_mem_nil).trans hF_11
  have hF_25 : F_23 g1 = .inr (0, [.ref r1, .int (nI z_17), .int o_18]) := (hB1.2.2.2 g1 List.not_mem_nil).trans hF_19
  generalize H1 = H at hP hS ⊢
  have hw : (r_22 = 0 ∨ r_22 = 1) := hw
  have hw_26 := hw
  refine lv_if_eq (tgt := 28) hx hb dX10_readKind_14 (by decide) (fun c_27 => ?_) (fun c_27 => ?_)
  ·
    refine lv_aload_n hx hb dX10_readKind_28 rfl (lv_at hl 1 rfl) ?_
    refine lv_iload_n hx hb dX10_readKind_29 rfl (lv_at hl 2 rfl) ?_
    refine lv_iload_n hx hb dX10_readKind_30 rfl (lv_at hl 3 rfl) ?_
    have hFc := pg_free hD hS hA
    refine va_calli (va_runS (As := [.ref g1, .int x2, .int x3]) (rest := []) ⟨hx, hb, hml, hown, hts⟩ (s_X10_isOther l dC dI cs ty L H.size F_23 g1 σ r1 n1 x2 x3 hW hL_g1 hT_g1) ⟨callB_of 3 hts (gi kt_137) rfl rfl rfl (hts _ kt_90) (hts _ kt_138) (by decide +kernel) ⟨Nat.le_of_ble_eq_true rfl, Nat.le_of_ble_eq_true rfl⟩, (hts _ kt_139)⟩ ⟨fun a U g mk q => ⟨q.1, PT.calling q.2⟩, fun U hU hWm => ⟨rfl, PT.mk hU hWm hP hK hD hE hO⟩⟩ rfl rfl hl.1 rfl (lv_room (Nat.le_of_ble_eq_true rfl)) dX10_readKind_31 ⟨by show _ + 0 ≤ 0; omega, by show _ + 0 ≤ 0; omega⟩) hS (fun q _ h => hFc q h) hFc (fun r_28 u t H1 locs ht hvm hw hB hz1 hk1 hS => ?_)
    obtain ⟨F_29, hB1⟩ := hB
    obtain ⟨hP, hD, hO, hR⟩ := QT.back hB1 ht hFc hR (fun q h => absurd h List.not_mem_nil)
    have hF_30 : F_29 h0 = .inr (10, [.int v0_1, .int 43, .int v2_3, .int (nI z_4), .int v4_5, .int v5_6]) := (hB1.2.2.2 h0 List.not_mem_nil).trans hF_24
    have hF_31 : F_29 g1 = .inr (0, [.ref r1, .int (nI z_17), .int o_18]) := (hB1.2.2.2 g1 List.not_mem_nil).trans hF_25
    generalize H1 = H at hP hS ⊢
    have hw : (r_28 = 0 ∨ r_28 = 1) := hw
    have hw_32 := hw
    refine lv_if_eq (tgt := 45) hx hb dX10_readKind_34 (by decide) (fun c_33 => ?_) (fun c_33 => ?_)
    ·
      refine lv_aload_n hx hb dX10_readKind_45 rfl (lv_at hl 1 rfl) ?_
      refine lv_iload_n hx hb dX10_readKind_46 rfl (lv_at hl 2 rfl) ?_
      have hFc := pg_free hD hS hA
      refine va_calli (va_runV (As := [.int x2]) (rest := []) ⟨hx, hb, hml, hown, hts⟩ (s_X0_at l dC dI cs ty L H.size F_29 g1 σ r1 n1 x2 hW hL_g1 hT_g1) ⟨callB_of 1 hts (gi kt_21) rfl rfl rfl (hts _ kt_1) (hts _ kt_120) (by decide +kernel) ⟨Nat.le_of_ble_eq_true rfl, Nat.le_of_ble_eq_true rfl⟩, (hts _ kt_23), (hts _ kt_24)⟩ ⟨fun a U g mk q => ⟨q.1, PT.calling q.2⟩, pg_recv hK hP hL_g1 hF_31 (q := (RX0, TX0, 3)) rfl, fun U hU hWm => ⟨rfl, PT.mk hU hWm hP hK hD hE hO⟩⟩ rfl rfl hl.1 rfl (lv_room (Nat.le_of_ble_eq_true rfl)) dX10_readKind_47 ⟨by show _ + 0 ≤ 0; omega, by show _ + 0 ≤ 0; omega⟩) hS (fun q _ h => hFc q h) hFc (fun r_34 u t H1 locs ht hvm hw hB hz1 hk1 hS => ?_)
      obtain ⟨F_35, hB1⟩ := hB
      obtain ⟨hP, hD, hO, hR⟩ := QT.back hB1 ht hFc hR (fun q h => absurd h List.not_mem_nil)
      have hF_36 : F_35 h0 = .inr (10, [.int v0_1, .int 43, .int v2_3, .int (nI z_4), .int v4_5, .int v5_6]) := (hB1.2.2.2 h0 List.not_mem_nil).trans hF_30
      have hF_37 : F_35 g1 = .inr (0, [.ref r1, .int (nI z_17), .int o_18]) := (hB1.2.2.2 g1 List.not_mem_nil).trans hF_31
      generalize H1 = H at hP hS ⊢
      have hw : True := hw
      have hw_38 := hw
      refine lv_istore (lv' := [(4, .int r_34), (0, .ref h0), (1, .ref g1), (2, .int x2), (3, .int x3)]) hx hb dX10_readKind_50 hl (by decide) rfl (fun ls hl => ?_)
      refine W.widen (k := 0) (n := 0) (by omega) (by omega) ?_
      refine pl_cut (σ := Int32) A (dC, dI) cs ty L [ρ] F 85 7 (fun s0 => [(4, .int r_34), (0, .ref h0), (1, .ref g1), (2, .int x2), (3, .int x3)]) (fun s0 => [.int s0]) (fun s0 _ => True) ?_ (fun jn_39 => ?_)
      ·
        rintro s0 F_40 hv_41 hO hR H locs hP hD hS ls hl
        have hl : lv_has ls 7 [(4, .int r_34), (0, .ref h0), (1, .ref g1), (2, .int x2), (3, .int x3)] := hl
        have hv_41 : True := hv_41
        refine W.eq (g2 := F0 m 85 ls [.int s0]) rfl ?_
        refine lv_istore (lv' := [(5, .int s0), (4, .int r_34), (0, .ref h0), (1, .ref g1), (2, .int x2), (3, .int x3)]) hx hb dX10_readKind_85 hl (by decide) rfl (fun ls hl => ?_)
        refine W.widen (k := 0) (n := 0) (by omega) (by omega) ?_
        refine pl_cut (σ := Unit) A (dC, dI) cs ty L [ρ] F 103 7 (fun u0 => [(5, .int s0), (0, .ref h0), (1, .ref g1), (2, .int x2), (3, .int x3)]) (fun u0 => []) (fun u0 _ => True) ?_ (fun jn_42 => ?_)
        ·
          rintro u0 F_43 hv_44 hO hR H locs hP hD hS ls hl
          have hl : lv_has ls 7 [(5, .int s0), (0, .ref h0), (1, .ref g1), (2, .int x2), (3, .int x3)] := hl
          have hv_44 : True := hv_44
          refine W.eq (g2 := F0 m 103 ls []) rfl ?_
          refine W.widen (k := 0) (n := 0) (by omega) (by omega) ?_
          refine pl_cut (σ := Int32) A (dC, dI) cs ty L [ρ] F 117 7 (fun w6 => [(6, .int w6), (0, .ref h0), (1, .ref g1), (2, .int x2), (3, .int x3)]) (fun w6 => []) (fun w6 _ => True) ?_ (fun jn_45 => ?_)
          ·
            rintro w6 F_46 hv_47 hO hR H locs hP hD hS ls hl
            have hl : lv_has ls 7 [(6, .int w6), (0, .ref h0), (1, .ref g1), (2, .int x2), (3, .int x3)] := hl
            have hv_47 : True := hv_47
            refine W.eq (g2 := F0 m 117 ls []) rfl ?_
            refine lv_aload_n hx hb dX10_readKind_117 rfl (lv_at hl 2 rfl) ?_
            refine lv_iload hx hb dX10_readKind_118 (lv_at hl 0 rfl) ?_
            refine lv_iload_n hx hb dX10_readKind_120 rfl (lv_at hl 4 rfl) ?_
            obtain ⟨q_48, v_49, hr_q_48, hXc_q_48⟩ := hG.2.2.2.2 ("PostGate$Term", 66, "all", [97, 108, 108]) (by decide +kernel)
            have hXc_q_48 : SXc q_48 v_49 3 (cct [97, 108, 108]) A s s.heap := hXc_q_48
            have hX_q_48 : SX q_48 v_49 3 A s s.heap := hXc_q_48.sx
            obtain ⟨xo_q_48, xc_q_48, xv_q_48, xt_q_48, xn_q_48⟩ := id hXc_q_48
            have hr_q_48 : vk_R "PostGate$Term" 66 "all" q_48 s := hr_q_48
            refine va_ldcS hx hb hown hr_q_48 dX10_readKind_121 ?_
            have hFc := pg_free hD hS hA
            obtain ⟨z_50, o_51, hF_52, hq_53, hq_54⟩ := hO.bytes hL_g1 hT_g1
            refine va_calli (va_runV (As := [.int w6, .int x3, .ref q_48]) (rest := []) ⟨hx, hb, hml, hown, hts⟩ (s_X0_is l dC dI cs ty L H.size F_46 g1 σ r1 n1 q_48 v_49 3 w6 x3 hW hL_g1 hT_g1) ⟨callB_of 3 hts (gi kt_79) rfl rfl rfl (hts _ kt_1) (hts _ kt_140) (by decide +kernel) ⟨Nat.le_of_ble_eq_true rfl, Nat.le_of_ble_eq_true rfl⟩, (hts _ kt_81), (hts _ kt_82)⟩ ⟨fun a U g mk q => ⟨q.1, PTE.calling q.2⟩, pg_recv hK hP hL_g1 hF_52 (q := (RX0, TX0, 3)) rfl, fun U hU hWm => ⟨rfl, PTE.mk hU hWm hP hK hD hE hO hG (fun x hx => by rw [List.mem_singleton] at hx; subst hx; exact hX_q_48) hS hFc⟩⟩ rfl rfl hl.1 rfl (lv_room (Nat.le_of_ble_eq_true rfl)) dX10_readKind_123 ⟨by show _ + 0 ≤ 0; omega, by show _ + 0 ≤ 0; omega⟩) hS (fun q _ h => hFc q h) hFc (fun r_55 u t H1 locs ht hvm hw hB hz1 hk1 hS => ?_)
            obtain ⟨F_56, hB1⟩ := hB
            obtain ⟨hP, hD, hO, hR⟩ := QT.back hB1 ht hFc hR (fun q h => absurd h List.not_mem_nil)
            have hF_57 : F_56 g1 = .inr (0, [.ref r1, .int (nI z_50), .int o_51]) := (hB1.2.2.2 g1 List.not_mem_nil).trans hF_52
            generalize H1 = H at hP hS ⊢
            have hw : (r_55 = 0 ∨ r_55 = 1) := hw
            have hw_58 := hw
            refine lv_if_eq (tgt := 138) hx hb dX10_readKind_126 (by decide) (fun c_59 => ?_) (fun c_59 => ?_)
            ·
              refine lv_aload_n hx hb dX10_readKind_138 rfl (lv_at hl 2 rfl) ?_
              refine lv_iload hx hb dX10_readKind_139 (lv_at hl 0 rfl) ?_
              refine lv_iload_n hx hb dX10_readKind_141 rfl (lv_at hl 4 rfl) ?_
              obtain ⟨q_60, v_61, hr_q_60, hXc_q_60⟩ := hG.2.2.2.2 ("PostGate$Term", 71, "include:", [105, 110, 99, 108, 117, 100, 101, 58]) (by decide +kernel)
              have hXc_q_60 : SXc q_60 v_61 8 (cct [105, 110, 99, 108, 117, 100, 101, 58]) A s s.heap := hXc_q_60
              have hX_q_60 : SX q_60 v_61 8 A s s.heap := hXc_q_60.sx
              obtain ⟨xo_q_60, xc_q_60, xv_q_60, xt_q_60, xn_q_60⟩ := id hXc_q_60
              have hr_q_60 : vk_R "PostGate$Term" 71 "include:" q_60 s := hr_q_60
              refine va_ldcS hx hb hown hr_q_60 dX10_readKind_142 ?_
              have hFc := pg_free hD hS hA
              refine va_calli (va_runV (As := [.int w6, .int x3, .ref q_60]) (rest := []) ⟨hx, hb, hml, hown, hts⟩ (s_X0_begins l dC dI cs ty L H.size F_56 g1 σ r1 n1 q_60 v_61 8 w6 x3 hW hL_g1 hT_g1) ⟨callB_of 3 hts (gi kt_112) rfl rfl rfl (hts _ kt_1) (hts _ kt_136) (by decide +kernel) ⟨Nat.le_of_ble_eq_true rfl, Nat.le_of_ble_eq_true rfl⟩, (hts _ kt_114), (hts _ kt_115)⟩ ⟨fun a U g mk q => ⟨q.1, PTE.calling q.2⟩, pg_recv hK hP hL_g1 hF_57 (q := (RX0, TX0, 3)) rfl, fun U hU hWm => ⟨rfl, PTE.mk hU hWm hP hK hD hE hO hG (fun x hx => by rw [List.mem_singleton] at hx; subst hx; exact hX_q_60) hS hFc⟩⟩ rfl rfl hl.1 rfl (lv_room (Nat.le_of_ble_eq_true rfl)) dX10_readKind_144 ⟨by show _ + 0 ≤ 0; omega, by show _ + 0 ≤ 0; omega⟩) hS (fun q _ h => hFc q h) hFc (fun r_62 u t H1 locs ht hvm hw hB hz1 hk1 hS => ?_)
              obtain ⟨F_63, hB1⟩ := hB
              obtain ⟨hP, hD, hO, hR⟩ := QT.back hB1 ht hFc hR (fun q h => absurd h List.not_mem_nil)
              have hF_64 : F_63 g1 = .inr (0, [.ref r1, .int (nI z_50), .int o_51]) := (hB1.2.2.2 g1 List.not_mem_nil).trans hF_57
              generalize H1 = H at hP hS ⊢
              have hw : (r_62 = 0 ∨ r_62 = 1) := hw
              have hw_65 := hw
              refine lv_if_eq (tgt := 163) hx hb dX10_readKind_147 (by decide) (fun c_66 => ?_) (fun c_66 => ?_)
              ·
                refine lv_aload_n hx hb dX10_readKind_163 rfl (lv_at hl 2 rfl) ?_
                refine lv_iload hx hb dX10_readKind_164 (lv_at hl 0 rfl) ?_
                refine lv_iload_n hx hb dX10_readKind_166 rfl (lv_at hl 4 rfl) ?_
                obtain ⟨q_67, v_68, hr_q_67, hXc_q_67⟩ := hG.2.2.2.2 ("PostGate$Term", 73, "exists:", [101, 120, 105, 115, 116, 115, 58]) (by decide +kernel)
                have hXc_q_67 : SXc q_67 v_68 7 (cct [101, 120, 105, 115, 116, 115, 58]) A s s.heap := hXc_q_67
                have hX_q_67 : SX q_67 v_68 7 A s s.heap := hXc_q_67.sx
                obtain ⟨xo_q_67, xc_q_67, xv_q_67, xt_q_67, xn_q_67⟩ := id hXc_q_67
                have hr_q_67 : vk_R "PostGate$Term" 73 "exists:" q_67 s := hr_q_67
                refine va_ldcS hx hb hown hr_q_67 dX10_readKind_167 ?_
                have hFc := pg_free hD hS hA
                refine va_calli (va_runV (As := [.int w6, .int x3, .ref q_67]) (rest := []) ⟨hx, hb, hml, hown, hts⟩ (s_X0_begins l dC dI cs ty L H.size F_63 g1 σ r1 n1 q_67 v_68 7 w6 x3 hW hL_g1 hT_g1) ⟨callB_of 3 hts (gi kt_112) rfl rfl rfl (hts _ kt_1) (hts _ kt_136) (by decide +kernel) ⟨Nat.le_of_ble_eq_true rfl, Nat.le_of_ble_eq_true rfl⟩, (hts _ kt_114), (hts _ kt_115)⟩ ⟨fun a U g mk q => ⟨q.1, PTE.calling q.2⟩, pg_recv hK hP hL_g1 hF_64 (q := (RX0, TX0, 3)) rfl, fun U hU hWm => ⟨rfl, PTE.mk hU hWm hP hK hD hE hO hG (fun x hx => by rw [List.mem_singleton] at hx; subst hx; exact hX_q_67) hS hFc⟩⟩ rfl rfl hl.1 rfl (lv_room (Nat.le_of_ble_eq_true rfl)) dX10_readKind_169 ⟨by show _ + 0 ≤ 0; omega, by show _ + 0 ≤ 0; omega⟩) hS (fun q _ h => hFc q h) hFc (fun r_69 u t H1 locs ht hvm hw hB hz1 hk1 hS => ?_)
                obtain ⟨F_70, hB1⟩ := hB
                obtain ⟨hP, hD, hO, hR⟩ := QT.back hB1 ht hFc hR (fun q h => absurd h List.not_mem_nil)
                have hF_71 : F_70 g1 = .inr (0, [.ref r1, .int (nI z_50), .int o_51]) := (hB1.2.2.2 g1 List.not_mem_nil).trans hF_64
                generalize H1 = H at hP hS ⊢
                have hw : (r_69 = 0 ∨ r_69 = 1) := hw
                have hw_72 := hw
                refine lv_if_eq (tgt := 189) hx hb dX10_readKind_172 (by decide) (fun c_73 => ?_) (fun c_73 => ?_)
                ·
                  refine lv_aload_n hx hb dX10_readKind_189 rfl (lv_at hl 2 rfl) ?_
                  refine lv_iload hx hb dX10_readKind_190 (lv_at hl 0 rfl) ?_
                  refine lv_iload_n hx hb dX10_readKind_192 rfl (lv_at hl 4 rfl) ?_
                  obtain ⟨q_74, v_75, hr_q_74, hXc_q_74⟩ := hG.2.2.2.2 ("PostGate$Term", 75, "ip4:", [105, 112, 52, 58]) (by decide +kernel)
                  have hXc_q_74 : SXc q_74 v_75 4 (cct [105, 112, 52, 58]) A s s.heap := hXc_q_74
                  have hX_q_74 : SX q_74 v_75 4 A s s.heap := hXc_q_74.sx
                  obtain ⟨xo_q_74, xc_q_74, xv_q_74, xt_q_74, xn_q_74⟩ := id hXc_q_74
                  have hr_q_74 : vk_R "PostGate$Term" 75 "ip4:" q_74 s := hr_q_74
                  refine va_ldcS hx hb hown hr_q_74 dX10_readKind_193 ?_
                  have hFc := pg_free hD hS hA
                  refine va_calli (va_runV (As := [.int w6, .int x3, .ref q_74]) (rest := []) ⟨hx, hb, hml, hown, hts⟩ (s_X0_begins l dC dI cs ty L H.size F_70 g1 σ r1 n1 q_74 v_75 4 w6 x3 hW hL_g1 hT_g1) ⟨callB_of 3 hts (gi kt_112) rfl rfl rfl (hts _ kt_1) (hts _ kt_136) (by decide +kernel) ⟨Nat.le_of_ble_eq_true rfl, Nat.le_of_ble_eq_true rfl⟩, (hts _ kt_114), (hts _ kt_115)⟩ ⟨fun a U g mk q => ⟨q.1, PTE.calling q.2⟩, pg_recv hK hP hL_g1 hF_71 (q := (RX0, TX0, 3)) rfl, fun U hU hWm => ⟨rfl, PTE.mk hU hWm hP hK hD hE hO hG (fun x hx => by rw [List.mem_singleton] at hx; subst hx; exact hX_q_74) hS hFc⟩⟩ rfl rfl hl.1 rfl (lv_room (Nat.le_of_ble_eq_true rfl)) dX10_readKind_195 ⟨by show _ + 0 ≤ 0; omega, by show _ + 0 ≤ 0; omega⟩) hS (fun q _ h => hFc q h) hFc (fun r_76 u t H1 locs ht hvm hw hB hz1 hk1 hS => ?_)
                  obtain ⟨F_77, hB1⟩ := hB
                  obtain ⟨hP, hD, hO, hR⟩ := QT.back hB1 ht hFc hR (fun q h => absurd h List.not_mem_nil)
                  have hF_78 : F_77 g1 = .inr (0, [.ref r1, .int (nI z_50), .int o_51]) := (hB1.2.2.2 g1 List.not_mem_nil).trans hF_71
                  generalize H1 = H at hP hS ⊢
                  have hw : (r_76 = 0 ∨ r_76 = 1) := hw
                  have hw_79 := hw
                  refine lv_if_eq (tgt := 213) hx hb dX10_readKind_198 (by decide) (fun c_80 => ?_) (fun c_80 => ?_)
                  ·
                    refine lv_aload_n hx hb dX10_readKind_213 rfl (lv_at hl 2 rfl) ?_
                    refine lv_iload hx hb dX10_readKind_214 (lv_at hl 0 rfl) ?_
                    refine lv_iload_n hx hb dX10_readKind_216 rfl (lv_at hl 4 rfl) ?_
                    obtain ⟨q_81, v_82, hr_q_81, hXc_q_81⟩ := hG.2.2.2.2 ("PostGate$Term", 77, "mx", [109, 120]) (by decide +kernel)
                    have hXc_q_81 : SXc q_81 v_82 2 (cct [109, 120]) A s s.heap := hXc_q_81
                    have hX_q_81 : SX q_81 v_82 2 A s s.heap := hXc_q_81.sx
                    obtain ⟨xo_q_81, xc_q_81, xv_q_81, xt_q_81, xn_q_81⟩ := id hXc_q_81
                    have hr_q_81 : vk_R "PostGate$Term" 77 "mx" q_81 s := hr_q_81
                    refine va_ldcS hx hb hown hr_q_81 dX10_readKind_217 ?_
                    have hFc := pg_free hD hS hA
                    refine va_calli (va_runV (As := [.int w6, .int x3, .ref q_81]) (rest := []) ⟨hx, hb, hml, hown, hts⟩ (s_X0_begins l dC dI cs ty L H.size F_77 g1 σ r1 n1 q_81 v_82 2 w6 x3 hW hL_g1 hT_g1) ⟨callB_of 3 hts (gi kt_112) rfl rfl rfl (hts _ kt_1) (hts _ kt_136) (by decide +kernel) ⟨Nat.le_of_ble_eq_true rfl, Nat.le_of_ble_eq_true rfl⟩, (hts _ kt_114), (hts _ kt_115)⟩ ⟨fun a U g mk q => ⟨q.1, PTE.calling q.2⟩, pg_recv hK hP hL_g1 hF_78 (q := (RX0, TX0, 3)) rfl, fun U hU hWm => ⟨rfl, PTE.mk hU hWm hP hK hD hE hO hG (fun x hx => by rw [List.mem_singleton] at hx; subst hx; exact hX_q_81) hS hFc⟩⟩ rfl rfl hl.1 rfl (lv_room (Nat.le_of_ble_eq_true rfl)) dX10_readKind_219 ⟨by show _ + 0 ≤ 0; omega, by show _ + 0 ≤ 0; omega⟩) hS (fun q _ h => hFc q h) hFc (fun r_83 u t H1 locs ht hvm hw hB hz1 hk1 hS => ?_)
                    obtain ⟨F_84, hB1⟩ := hB
                    obtain ⟨hP, hD, hO, hR⟩ := QT.back hB1 ht hFc hR (fun q h => absurd h List.not_mem_nil)
                    have hF_85 : F_84 g1 = .inr (0, [.ref r1, .int (nI z_50), .int o_51]) := (hB1.2.2.2 g1 List.not_mem_nil).trans hF_78
                    generalize H1 = H at hP hS ⊢
                    have hw : (r_83 = 0 ∨ r_83 = 1) := hw
                    have hw_86 := hw
                    refine lv_if_eq (tgt := 256) hx hb dX10_readKind_222 (by decide) (fun c_87 => ?_) (fun c_87 => ?_)
                    ·
                      refine lv_aload_n hx hb dX10_readKind_256 rfl (lv_at hl 2 rfl) ?_
                      refine lv_iload hx hb dX10_readKind_257 (lv_at hl 0 rfl) ?_
                      refine lv_iload_n hx hb dX10_readKind_259 rfl (lv_at hl 4 rfl) ?_
                      obtain ⟨q_88, v_89, hr_q_88, hXc_q_88⟩ := hG.2.2.2.2 ("PostGate$Term", 81, "a", [97]) (by decide +kernel)
                      have hXc_q_88 : SXc q_88 v_89 1 (cct [97]) A s s.heap := hXc_q_88
                      have hX_q_88 : SX q_88 v_89 1 A s s.heap := hXc_q_88.sx
                      obtain ⟨xo_q_88, xc_q_88, xv_q_88, xt_q_88, xn_q_88⟩ := id hXc_q_88
                      have hr_q_88 : vk_R "PostGate$Term" 81 "a" q_88 s := hr_q_88
                      refine va_ldcS hx hb hown hr_q_88 dX10_readKind_260 ?_
                      have hFc := pg_free hD hS hA
                      refine va_calli (va_runV (As := [.int w6, .int x3, .ref q_88]) (rest := []) ⟨hx, hb, hml, hown, hts⟩ (s_X0_begins l dC dI cs ty L H.size F_84 g1 σ r1 n1 q_88 v_89 1 w6 x3 hW hL_g1 hT_g1) ⟨callB_of 3 hts (gi kt_112) rfl rfl rfl (hts _ kt_1) (hts _ kt_136) (by decide +kernel) ⟨Nat.le_of_ble_eq_true rfl, Nat.le_of_ble_eq_true rfl⟩, (hts _ kt_114), (hts _ kt_115)⟩ ⟨fun a U g mk q => ⟨q.1, PTE.calling q.2⟩, pg_recv hK hP hL_g1 hF_85 (q := (RX0, TX0, 3)) rfl, fun U hU hWm => ⟨rfl, PTE.mk hU hWm hP hK hD hE hO hG (fun x hx => by rw [List.mem_singleton] at hx; subst hx; exact hX_q_88) hS hFc⟩⟩ rfl rfl hl.1 rfl (lv_room (Nat.le_of_ble_eq_true rfl)) dX10_readKind_262 ⟨by show _ + 0 ≤ 0; omega, by show _ + 0 ≤ 0; omega⟩) hS (fun q _ h => hFc q h) hFc (fun r_90 u t H1 locs ht hvm hw hB hz1 hk1 hS => ?_)
                      obtain ⟨F_91, hB1⟩ := hB
                      obtain ⟨hP, hD, hO, hR⟩ := QT.back hB1 ht hFc hR (fun q h => absurd h List.not_mem_nil)
                      have hF_92 : F_91 g1 = .inr (0, [.ref r1, .int (nI z_50), .int o_51]) := (hB1.2.2.2 g1 List.not_mem_nil).trans hF_85
                      generalize H1 = H at hP hS ⊢
                      have hw : (r_90 = 0 ∨ r_90 = 1) := hw
                      have hw_93 := hw
                      refine lv_if_eq (tgt := 299) hx hb dX10_readKind_265 (by decide) (fun c_94 => ?_) (fun c_94 => ?_)
                      ·
                        refine lv_aload_n hx hb dX10_readKind_299 rfl (lv_at hl 1 rfl) ?_
                        refine lv_iconst (v := 0) hx hb dX10_readKind_300 (by decide) ?_
                        refine lv_iload_n hx hb dX10_readKind_301 rfl (lv_at hl 4 rfl) ?_
                        have hFc := pg_free hD hS hA
                        obtain ⟨v0_95, v1_96, v2_97, z_98, v4_99, v5_100, hF_101, hq_102⟩ := hO.term hL_h0 hT_h0
                        refine va_callv (va_runV (As := [.int 0, .int x3]) (rest := []) ⟨hx, hb, hml, hown, hts⟩ (s_X10_setKind l dC dI cs ty L H.size F_91 h0 ρ 0 x3 hW hL_h0 hT_h0) ⟨callB_of 2 hts (gi kt_141) rfl rfl rfl (hts _ kt_90) (hts _ kt_142) (by decide +kernel) ⟨Nat.le_of_ble_eq_true rfl, Nat.le_of_ble_eq_true rfl⟩, (hts _ kt_143), (hts _ kt_144)⟩ ⟨fun a U g mk q => ⟨q.1, PT.calling q.2⟩, pg_recv hK hP hL_h0 hF_101 (q := (RX10, TX10, 6)) rfl, fun U hU hWm => ⟨rfl, PT.mk hU hWm hP hK hD hE hO⟩⟩ rfl rfl hl.1 rfl (lv_room (Nat.le_of_ble_eq_true rfl)) dX10_readKind_302 ⟨by show _ + 0 ≤ 0; omega, by show _ + 0 ≤ 0; omega⟩) hS (fun q _ h => hFc q h) hFc (fun u t H1 locs ht hvm hw hB hz1 hk1 hS => ?_)
                        obtain ⟨F_104, hB1⟩ := hB
                        obtain ⟨hP, hD, hO, hR⟩ := QT.back hB1 ht hFc hR (fun q h => by simp only [List.mem_cons, List.not_mem_nil, or_false] at h ⊢; omega)
                        generalize H1 = H at hP hS ⊢
                        refine W.widen (k := 0) (n := 0) (by omega) (by omega) ?_
                        exact W.vret hx hb hr (fun t ht hWm => ⟨⟨(), rfl, trivial, ⟨F_104, QT.mk ht hP hD hO hR⟩⟩, hS.F ht⟩) hS.2.2 dX10_readKind_305
                      ·
                        refine lv_aload_n hx hb dX10_readKind_268 rfl (lv_at hl 1 rfl) ?_
                        refine lv_iconst (v := 3) hx hb dX10_readKind_269 (by decide) ?_
                        refine lv_aload_n hx hb dX10_readKind_270 rfl (lv_at hl 2 rfl) ?_
                        refine lv_iload hx hb dX10_readKind_271 (lv_at hl 0 rfl) ?_
                        refine lv_iload_n hx hb dX10_readKind_273 rfl (lv_at hl 4 rfl) ?_
                        obtain ⟨q_105, v_106, hr_q_105, hXc_q_105⟩ := hG.2.2.2.2 ("PostGate$Term", 83, "a:", [97, 58]) (by decide +kernel)
                        have hXc_q_105 : SXc q_105 v_106 2 (cct [97, 58]) A s s.heap := hXc_q_105
                        have hX_q_105 : SX q_105 v_106 2 A s s.heap := hXc_q_105.sx
                        obtain ⟨xo_q_105, xc_q_105, xv_q_105, xt_q_105, xn_q_105⟩ := id hXc_q_105
                        have hr_q_105 : vk_R "PostGate$Term" 83 "a:" q_105 s := hr_q_105
                        refine va_ldcS hx hb hown hr_q_105 dX10_readKind_274 ?_
                        have hFc := pg_free hD hS hA
                        refine va_calli (va_runV (As := [.int w6, .int x3, .ref q_105]) (rest := [.int 3, .ref h0]) ⟨hx, hb, hml, hown, hts⟩ (s_X0_begins l dC dI cs ty L H.size F_91 g1 σ r1 n1 q_105 v_106 2 w6 x3 hW hL_g1 hT_g1) ⟨callB_of 3 hts (gi kt_112) rfl rfl rfl (hts _ kt_1) (hts _ kt_136) (by decide +kernel) ⟨Nat.le_of_ble_eq_true rfl, Nat.le_of_ble_eq_true rfl⟩, (hts _ kt_114), (hts _ kt_115)⟩ ⟨fun a U g mk q => ⟨q.1, PTE.calling q.2⟩, pg_recv hK hP hL_g1 hF_92 (q := (RX0, TX0, 3)) rfl, fun U hU hWm => ⟨rfl, PTE.mk hU hWm hP hK hD hE hO hG (fun x hx => by rw [List.mem_singleton] at hx; subst hx; exact hX_q_105) hS hFc⟩⟩ rfl rfl hl.1 rfl (lv_room (Nat.le_of_ble_eq_true rfl)) dX10_readKind_276 ⟨by show _ + 0 ≤ 0; omega, by show _ + 0 ≤ 0; omega⟩) hS (fun q _ h => hFc q h) hFc (fun r_107 u t H1 locs ht hvm hw hB hz1 hk1 hS => ?_)
                        obtain ⟨F_108, hB1⟩ := hB
                        obtain ⟨hP, hD, hO, hR⟩ := QT.back hB1 ht hFc hR (fun q h => absurd h List.not_mem_nil)
                        have hF_109 : F_108 g1 = .inr (0, [.ref r1, .int (nI z_50), .int o_51]) := (hB1.2.2.2 g1 List.not_mem_nil).trans hF_92
                        generalize H1 = H at hP hS ⊢
                        have hw : (r_107 = 0 ∨ r_107 = 1) := hw
                        have hw_110 := hw
                        refine lv_if_eq (tgt := 289) hx hb dX10_readKind_279 (by decide) (fun c_111 => ?_) (fun c_111 => ?_)
                        ·
                          refine lv_iload hx hb dX10_readKind_289 (lv_at hl 0 rfl) ?_
                          refine lv_iconst (v := 1) hx hb dX10_readKind_291 (by decide) ?_
                          refine lv_iadd hx hb dX10_readKind_292 ?_
                          refine lv_topi (fun x_112 _ => ?_)
                          have hFc := pg_free hD hS hA
                          obtain ⟨v0_113, v1_114, v2_115, z_116, v4_117, v5_118, hF_119, hq_120⟩ := hO.term hL_h0 hT_h0
                          refine va_callv (va_runV (As := [.int 3, .int x_112]) (rest := []) ⟨hx, hb, hml, hown, hts⟩ (s_X10_setKind l dC dI cs ty L H.size F_108 h0 ρ 3 x_112 hW hL_h0 hT_h0) ⟨callB_of 2 hts (gi kt_141) rfl rfl rfl (hts _ kt_90) (hts _ kt_142) (by decide +kernel) ⟨Nat.le_of_ble_eq_true rfl, Nat.le_of_ble_eq_true rfl⟩, (hts _ kt_143), (hts _ kt_144)⟩ ⟨fun a U g mk q => ⟨q.1, PT.calling q.2⟩, pg_recv hK hP hL_h0 hF_119 (q := (RX10, TX10, 6)) rfl, fun U hU hWm => ⟨rfl, PT.mk hU hWm hP hK hD hE hO⟩⟩ rfl rfl hl.1 rfl (lv_room (Nat.le_of_ble_eq_true rfl)) dX10_readKind_293 ⟨by show _ + 0 ≤ 0; omega, by show _ + 0 ≤ 0; omega⟩) hS (fun q _ h => hFc q h) hFc (fun u t H1 locs ht hvm hw hB hz1 hk1 hS => ?_)
                          obtain ⟨F_122, hB1⟩ := hB
                          obtain ⟨hP, hD, hO, hR⟩ := QT.back hB1 ht hFc hR (fun q h => by simp only [List.mem_cons, List.not_mem_nil, or_false] at h ⊢; omega)
                          generalize H1 = H at hP hS ⊢
                          refine lv_goto (tgt := 305) hx hb dX10_readKind_296 (by decide) ?_
                          refine W.widen (k := 0) (n := 0) (by omega) (by omega) ?_
                          exact W.vret hx hb hr (fun t ht hWm => ⟨⟨(), rfl, trivial, ⟨F_122, QT.mk ht hP hD hO hR⟩⟩, hS.F ht⟩) hS.2.2 dX10_readKind_305
                        ·
                          refine lv_iload hx hb dX10_readKind_282 (lv_at hl 0 rfl) ?_
                          refine lv_iconst (v := 2) hx hb dX10_readKind_284 (by decide) ?_
                          refine lv_iadd hx hb dX10_readKind_285 ?_
                          refine lv_topi (fun x_123 _ => ?_)
                          refine lv_goto (tgt := 293) hx hb dX10_readKind_286 (by decide) ?_
                          have hFc := pg_free hD hS hA
                          obtain ⟨v0_124, v1_125, v2_126, z_127, v4_128, v5_129, hF_130, hq_131⟩ := hO.term hL_h0 hT_h0
                          refine va_callv (va_runV (As := [.int 3, .int x_123]) (rest := []) ⟨hx, hb, hml, hown, hts⟩ (s_X10_setKind l dC dI cs ty L H.size F_108 h0 ρ 3 x_123 hW hL_h0 hT_h0) ⟨callB_of 2 hts (gi kt_141) rfl rfl rfl (hts _ kt_90) (hts _ kt_142) (by decide +kernel) ⟨Nat.le_of_ble_eq_true rfl, Nat.le_of_ble_eq_true rfl⟩, (hts _ kt_143), (hts _ kt_144)⟩ ⟨fun a U g mk q => ⟨q.1, PT.calling q.2⟩, pg_recv hK hP hL_h0 hF_130 (q := (RX10, TX10, 6)) rfl, fun U hU hWm => ⟨rfl, PT.mk hU hWm hP hK hD hE hO⟩⟩ rfl rfl hl.1 rfl (lv_room (Nat.le_of_ble_eq_true rfl)) dX10_readKind_293 ⟨by show _ + 0 ≤ 0; omega, by show _ + 0 ≤ 0; omega⟩) hS (fun q _ h => hFc q h) hFc (fun u t H1 locs ht hvm hw hB hz1 hk1 hS => ?_)
                          obtain ⟨F_133, hB1⟩ := hB
                          obtain ⟨hP, hD, hO, hR⟩ := QT.back hB1 ht hFc hR (fun q h => by simp only [List.mem_cons, List.not_mem_nil, or_false] at h ⊢; omega)
                          generalize H1 = H at hP hS ⊢
                          refine lv_goto (tgt := 305) hx hb dX10_readKind_296 (by decide) ?_
                          refine W.widen (k := 0) (n := 0) (by omega) (by omega) ?_
                          exact W.vret hx hb hr (fun t ht hWm => ⟨⟨(), rfl, trivial, ⟨F_133, QT.mk ht hP hD hO hR⟩⟩, hS.F ht⟩) hS.2.2 dX10_readKind_305
                    ·
                      refine lv_aload_n hx hb dX10_readKind_225 rfl (lv_at hl 1 rfl) ?_
                      refine lv_iconst (v := 4) hx hb dX10_readKind_226 (by decide) ?_
                      refine lv_aload_n hx hb dX10_readKind_227 rfl (lv_at hl 2 rfl) ?_
                      refine lv_iload hx hb dX10_readKind_228 (lv_at hl 0 rfl) ?_
                      refine lv_iload_n hx hb dX10_readKind_230 rfl (lv_at hl 4 rfl) ?_
                      obtain ⟨q_134, v_135, hr_q_134, hXc_q_134⟩ := hG.2.2.2.2 ("PostGate$Term", 79, "mx:", [109, 120, 58]) (by decide +kernel)
                      have hXc_q_134 : SXc q_134 v_135 3 (cct [109, 120, 58]) A s s.heap := hXc_q_134
                      have hX_q_134 : SX q_134 v_135 3 A s s.heap := hXc_q_134.sx
                      obtain ⟨xo_q_134, xc_q_134, xv_q_134, xt_q_134, xn_q_134⟩ := id hXc_q_134
                      have hr_q_134 : vk_R "PostGate$Term" 79 "mx:" q_134 s := hr_q_134
                      refine va_ldcS hx hb hown hr_q_134 dX10_readKind_231 ?_
                      have hFc := pg_free hD hS hA
                      refine va_calli (va_runV (As := [.int w6, .int x3, .ref q_134]) (rest := [.int 4, .ref h0]) ⟨hx, hb, hml, hown, hts⟩ (s_X0_begins l dC dI cs ty L H.size F_84 g1 σ r1 n1 q_134 v_135 3 w6 x3 hW hL_g1 hT_g1) ⟨callB_of 3 hts (gi kt_112) rfl rfl rfl (hts _ kt_1) (hts _ kt_136) (by decide +kernel) ⟨Nat.le_of_ble_eq_true rfl, Nat.le_of_ble_eq_true rfl⟩, (hts _ kt_114), (hts _ kt_115)⟩ ⟨fun a U g mk q => ⟨q.1, PTE.calling q.2⟩, pg_recv hK hP hL_g1 hF_85 (q := (RX0, TX0, 3)) rfl, fun U hU hWm => ⟨rfl, PTE.mk hU hWm hP hK hD hE hO hG (fun x hx => by rw [List.mem_singleton] at hx; subst hx; exact hX_q_134) hS hFc⟩⟩ rfl rfl hl.1 rfl (lv_room (Nat.le_of_ble_eq_true rfl)) dX10_readKind_233 ⟨by show _ + 0 ≤ 0; omega, by show _ + 0 ≤ 0; omega⟩) hS (fun q _ h => hFc q h) hFc (fun r_136 u t H1 locs ht hvm hw hB hz1 hk1 hS => ?_)
                      obtain ⟨F_137, hB1⟩ := hB
                      obtain ⟨hP, hD, hO, hR⟩ := QT.back hB1 ht hFc hR (fun q h => absurd h List.not_mem_nil)
                      have hF_138 : F_137 g1 = .inr (0, [.ref r1, .int (nI z_50), .int o_51]) := (hB1.2.2.2 g1 List.not_mem_nil).trans hF_85
                      generalize H1 = H at hP hS ⊢
                      have hw : (r_136 = 0 ∨ r_136 = 1) := hw
                      have hw_139 := hw
                      refine lv_if_eq (tgt := 246) hx hb dX10_readKind_236 (by decide) (fun c_140 => ?_) (fun c_140 => ?_)
                      ·
                        refine lv_iload hx hb dX10_readKind_246 (lv_at hl 0 rfl) ?_
                        refine lv_iconst (v := 2) hx hb dX10_readKind_248 (by decide) ?_
                        refine lv_iadd hx hb dX10_readKind_249 ?_
                        refine lv_topi (fun x_141 _ => ?_)
                        have hFc := pg_free hD hS hA
                        obtain ⟨v0_142, v1_143, v2_144, z_145, v4_146, v5_147, hF_148, hq_149⟩ := hO.term hL_h0 hT_h0
                        refine va_callv (va_runV (As := [.int 4, .int x_141]) (rest := []) ⟨hx, hb, hml, hown, hts⟩ (s_X10_setKind l dC dI cs ty L H.size F_137 h0 ρ 4 x_141 hW hL_h0 hT_h0) ⟨callB_of 2 hts (gi kt_141) rfl rfl rfl (hts _ kt_90) (hts _ kt_142) (by decide +kernel) ⟨Nat.le_of_ble_eq_true rfl, Nat.le_of_ble_eq_true rfl⟩, (hts _ kt_143), (hts _ kt_144)⟩ ⟨fun a U g mk q => ⟨q.1, PT.calling q.2⟩, pg_recv hK hP hL_h0 hF_148 (q := (RX10, TX10, 6)) rfl, fun U hU hWm => ⟨rfl, PT.mk hU hWm hP hK hD hE hO⟩⟩ rfl rfl hl.1 rfl (lv_room (Nat.le_of_ble_eq_true rfl)) dX10_readKind_250 ⟨by show _ + 0 ≤ 0; omega, by show _ + 0 ≤ 0; omega⟩) hS (fun q _ h => hFc q h) hFc (fun u t H1 locs ht hvm hw hB hz1 hk1 hS => ?_)
                        obtain ⟨F_151, hB1⟩ := hB
                        obtain ⟨hP, hD, hO, hR⟩ := QT.back hB1 ht hFc hR (fun q h => by simp only [List.mem_cons, List.not_mem_nil, or_false] at h ⊢; omega)
                        generalize H1 = H at hP hS ⊢
                        refine lv_goto (tgt := 305) hx hb dX10_readKind_253 (by decide) ?_
                        refine W.widen (k := 0) (n := 0) (by omega) (by omega) ?_
                        exact W.vret hx hb hr (fun t ht hWm => ⟨⟨(), rfl, trivial, ⟨F_151, QT.mk ht hP hD hO hR⟩⟩, hS.F ht⟩) hS.2.2 dX10_readKind_305
                      ·
                        refine lv_iload hx hb dX10_readKind_239 (lv_at hl 0 rfl) ?_
                        refine lv_iconst (v := 3) hx hb dX10_readKind_241 (by decide) ?_
                        refine lv_iadd hx hb dX10_readKind_242 ?_
                        refine lv_topi (fun x_152 _ => ?_)
                        refine lv_goto (tgt := 250) hx hb dX10_readKind_243 (by decide) ?_
                        have hFc := pg_free hD hS hA
                        obtain ⟨v0_153, v1_154, v2_155, z_156, v4_157, v5_158, hF_159, hq_160⟩ := hO.term hL_h0 hT_h0
                        refine va_callv (va_runV (As := [.int 4, .int x_152]) (rest := []) ⟨hx, hb, hml, hown, hts⟩ (s_X10_setKind l dC dI cs ty L H.size F_137 h0 ρ 4 x_152 hW hL_h0 hT_h0) ⟨callB_of 2 hts (gi kt_141) rfl rfl rfl (hts _ kt_90) (hts _ kt_142) (by decide +kernel) ⟨Nat.le_of_ble_eq_true rfl, Nat.le_of_ble_eq_true rfl⟩, (hts _ kt_143), (hts _ kt_144)⟩ ⟨fun a U g mk q => ⟨q.1, PT.calling q.2⟩, pg_recv hK hP hL_h0 hF_159 (q := (RX10, TX10, 6)) rfl, fun U hU hWm => ⟨rfl, PT.mk hU hWm hP hK hD hE hO⟩⟩ rfl rfl hl.1 rfl (lv_room (Nat.le_of_ble_eq_true rfl)) dX10_readKind_250 ⟨by show _ + 0 ≤ 0; omega, by show _ + 0 ≤ 0; omega⟩) hS (fun q _ h => hFc q h) hFc (fun u t H1 locs ht hvm hw hB hz1 hk1 hS => ?_)
                        obtain ⟨F_162, hB1⟩ := hB
                        obtain ⟨hP, hD, hO, hR⟩ := QT.back hB1 ht hFc hR (fun q h => by simp only [List.mem_cons, List.not_mem_nil, or_false] at h ⊢; omega)
                        generalize H1 = H at hP hS ⊢
                        refine lv_goto (tgt := 305) hx hb dX10_readKind_253 (by decide) ?_
                        refine W.widen (k := 0) (n := 0) (by omega) (by omega) ?_
                        exact W.vret hx hb hr (fun t ht hWm => ⟨⟨(), rfl, trivial, ⟨F_162, QT.mk ht hP hD hO hR⟩⟩, hS.F ht⟩) hS.2.2 dX10_readKind_305
                  ·
                    refine lv_aload_n hx hb dX10_readKind_201 rfl (lv_at hl 1 rfl) ?_
                    refine lv_iconst (v := 5) hx hb dX10_readKind_202 (by decide) ?_
                    refine lv_iload hx hb dX10_readKind_203 (lv_at hl 0 rfl) ?_
                    refine lv_iconst (v := 4) hx hb dX10_readKind_205 (by decide) ?_
                    refine lv_iadd hx hb dX10_readKind_206 ?_
                    refine lv_topi (fun x_163 _ => ?_)
                    have hFc := pg_free hD hS hA
                    obtain ⟨v0_164, v1_165, v2_166, z_167, v4_168, v5_169, hF_170, hq_171⟩ := hO.term hL_h0 hT_h0
                    refine va_callv (va_runV (As := [.int 5, .int x_163]) (rest := []) ⟨hx, hb, hml, hown, hts⟩ (s_X10_setKind l dC dI cs ty L H.size F_77 h0 ρ 5 x_163 hW hL_h0 hT_h0) ⟨callB_of 2 hts (gi kt_141) rfl rfl rfl (hts _ kt_90) (hts _ kt_142) (by decide +kernel) ⟨Nat.le_of_ble_eq_true rfl, Nat.le_of_ble_eq_true rfl⟩, (hts _ kt_143), (hts _ kt_144)⟩ ⟨fun a U g mk q => ⟨q.1, PT.calling q.2⟩, pg_recv hK hP hL_h0 hF_170 (q := (RX10, TX10, 6)) rfl, fun U hU hWm => ⟨rfl, PT.mk hU hWm hP hK hD hE hO⟩⟩ rfl rfl hl.1 rfl (lv_room (Nat.le_of_ble_eq_true rfl)) dX10_readKind_207 ⟨by show _ + 0 ≤ 0; omega, by show _ + 0 ≤ 0; omega⟩) hS (fun q _ h => hFc q h) hFc (fun u t H1 locs ht hvm hw hB hz1 hk1 hS => ?_)
                    obtain ⟨F_173, hB1⟩ := hB
                    obtain ⟨hP, hD, hO, hR⟩ := QT.back hB1 ht hFc hR (fun q h => by simp only [List.mem_cons, List.not_mem_nil, or_false] at h ⊢; omega)
                    generalize H1 = H at hP hS ⊢
                    refine lv_goto (tgt := 305) hx hb dX10_readKind_210 (by decide) ?_
                    refine W.widen (k := 0) (n := 0) (by omega) (by omega) ?_
                    exact W.vret hx hb hr (fun t ht hWm => ⟨⟨(), rfl, trivial, ⟨F_173, QT.mk ht hP hD hO hR⟩⟩, hS.F ht⟩) hS.2.2 dX10_readKind_305
                ·
                  refine lv_aload_n hx hb dX10_readKind_175 rfl (lv_at hl 1 rfl) ?_
                  refine lv_bipush (v := 6) hx hb dX10_readKind_176 (by decide) ?_
                  refine lv_iload hx hb dX10_readKind_178 (lv_at hl 0 rfl) ?_
                  refine lv_bipush (v := 7) hx hb dX10_readKind_180 (by decide) ?_
                  refine lv_iadd hx hb dX10_readKind_182 ?_
                  refine lv_topi (fun x_174 _ => ?_)
                  have hFc := pg_free hD hS hA
                  obtain ⟨v0_175, v1_176, v2_177, z_178, v4_179, v5_180, hF_181, hq_182⟩ := hO.term hL_h0 hT_h0
                  refine va_callv (va_runV (As := [.int 6, .int x_174]) (rest := []) ⟨hx, hb, hml, hown, hts⟩ (s_X10_setKind l dC dI cs ty L H.size F_70 h0 ρ 6 x_174 hW hL_h0 hT_h0) ⟨callB_of 2 hts (gi kt_141) rfl rfl rfl (hts _ kt_90) (hts _ kt_142) (by decide +kernel) ⟨Nat.le_of_ble_eq_true rfl, Nat.le_of_ble_eq_true rfl⟩, (hts _ kt_143), (hts _ kt_144)⟩ ⟨fun a U g mk q => ⟨q.1, PT.calling q.2⟩, pg_recv hK hP hL_h0 hF_181 (q := (RX10, TX10, 6)) rfl, fun U hU hWm => ⟨rfl, PT.mk hU hWm hP hK hD hE hO⟩⟩ rfl rfl hl.1 rfl (lv_room (Nat.le_of_ble_eq_true rfl)) dX10_readKind_183 ⟨by show _ + 0 ≤ 0; omega, by show _ + 0 ≤ 0; omega⟩) hS (fun q _ h => hFc q h) hFc (fun u t H1 locs ht hvm hw hB hz1 hk1 hS => ?_)
                  obtain ⟨F_184, hB1⟩ := hB
                  obtain ⟨hP, hD, hO, hR⟩ := QT.back hB1 ht hFc hR (fun q h => by simp only [List.mem_cons, List.not_mem_nil, or_false] at h ⊢; omega)
                  generalize H1 = H at hP hS ⊢
                  refine lv_goto (tgt := 305) hx hb dX10_readKind_186 (by decide) ?_
                  refine W.widen (k := 0) (n := 0) (by omega) (by omega) ?_
                  exact W.vret hx hb hr (fun t ht hWm => ⟨⟨(), rfl, trivial, ⟨F_184, QT.mk ht hP hD hO hR⟩⟩, hS.F ht⟩) hS.2.2 dX10_readKind_305
              ·
                refine lv_aload_n hx hb dX10_readKind_150 rfl (lv_at hl 1 rfl) ?_
                refine lv_iconst (v := 2) hx hb dX10_readKind_151 (by decide) ?_
                refine lv_iload hx hb dX10_readKind_152 (lv_at hl 0 rfl) ?_
                refine lv_bipush (v := 8) hx hb dX10_readKind_154 (by decide) ?_
                refine lv_iadd hx hb dX10_readKind_156 ?_
                refine lv_topi (fun x_185 _ => ?_)
                have hFc := pg_free hD hS hA
                obtain ⟨v0_186, v1_187, v2_188, z_189, v4_190, v5_191, hF_192, hq_193⟩ := hO.term hL_h0 hT_h0
                refine va_callv (va_runV (As := [.int 2, .int x_185]) (rest := []) ⟨hx, hb, hml, hown, hts⟩ (s_X10_setKind l dC dI cs ty L H.size F_63 h0 ρ 2 x_185 hW hL_h0 hT_h0) ⟨callB_of 2 hts (gi kt_141) rfl rfl rfl (hts _ kt_90) (hts _ kt_142) (by decide +kernel) ⟨Nat.le_of_ble_eq_true rfl, Nat.le_of_ble_eq_true rfl⟩, (hts _ kt_143), (hts _ kt_144)⟩ ⟨fun a U g mk q => ⟨q.1, PT.calling q.2⟩, pg_recv hK hP hL_h0 hF_192 (q := (RX10, TX10, 6)) rfl, fun U hU hWm => ⟨rfl, PT.mk hU hWm hP hK hD hE hO⟩⟩ rfl rfl hl.1 rfl (lv_room (Nat.le_of_ble_eq_true rfl)) dX10_readKind_157 ⟨by show _ + 0 ≤ 0; omega, by show _ + 0 ≤ 0; omega⟩) hS (fun q _ h => hFc q h) hFc (fun u t H1 locs ht hvm hw hB hz1 hk1 hS => ?_)
                obtain ⟨F_195, hB1⟩ := hB
                obtain ⟨hP, hD, hO, hR⟩ := QT.back hB1 ht hFc hR (fun q h => by simp only [List.mem_cons, List.not_mem_nil, or_false] at h ⊢; omega)
                generalize H1 = H at hP hS ⊢
                refine lv_goto (tgt := 305) hx hb dX10_readKind_160 (by decide) ?_
                refine W.widen (k := 0) (n := 0) (by omega) (by omega) ?_
                exact W.vret hx hb hr (fun t ht hWm => ⟨⟨(), rfl, trivial, ⟨F_195, QT.mk ht hP hD hO hR⟩⟩, hS.F ht⟩) hS.2.2 dX10_readKind_305
            ·
              refine lv_aload_n hx hb dX10_readKind_129 rfl (lv_at hl 1 rfl) ?_
              refine lv_iconst (v := 1) hx hb dX10_readKind_130 (by decide) ?_
              refine lv_iload_n hx hb dX10_readKind_131 rfl (lv_at hl 4 rfl) ?_
              have hFc := pg_free hD hS hA
              obtain ⟨v0_196, v1_197, v2_198, z_199, v4_200, v5_201, hF_202, hq_203⟩ := hO.term hL_h0 hT_h0
              refine va_callv (va_runV (As := [.int 1, .int x3]) (rest := []) ⟨hx, hb, hml, hown, hts⟩ (s_X10_setKind l dC dI cs ty L H.size F_56 h0 ρ 1 x3 hW hL_h0 hT_h0) ⟨callB_of 2 hts (gi kt_141) rfl rfl rfl (hts _ kt_90) (hts _ kt_142) (by decide +kernel) ⟨Nat.le_of_ble_eq_true rfl, Nat.le_of_ble_eq_true rfl⟩, (hts _ kt_143), (hts _ kt_144)⟩ ⟨fun a U g mk q => ⟨q.1, PT.calling q.2⟩, pg_recv hK hP hL_h0 hF_202 (q := (RX10, TX10, 6)) rfl, fun U hU hWm => ⟨rfl, PT.mk hU hWm hP hK hD hE hO⟩⟩ rfl rfl hl.1 rfl (lv_room (Nat.le_of_ble_eq_true rfl)) dX10_readKind_132 ⟨by show _ + 0 ≤ 0; omega, by show _ + 0 ≤ 0; omega⟩) hS (fun q _ h => hFc q h) hFc (fun u t H1 locs ht hvm hw hB hz1 hk1 hS => ?_)
              obtain ⟨F_205, hB1⟩ := hB
              obtain ⟨hP, hD, hO, hR⟩ := QT.back hB1 ht hFc hR (fun q h => by simp only [List.mem_cons, List.not_mem_nil, or_false] at h ⊢; omega)
              generalize H1 = H at hP hS ⊢
              refine lv_goto (tgt := 305) hx hb dX10_readKind_135 (by decide) ?_
              refine W.widen (k := 0) (n := 0) (by omega) (by omega) ?_
              exact W.vret hx hb hr (fun t ht hWm => ⟨⟨(), rfl, trivial, ⟨F_205, QT.mk ht hP hD hO hR⟩⟩, hS.F ht⟩) hS.2.2 dX10_readKind_305
          ·
            refine lv_iload hx hb dX10_readKind_103 (lv_at hl 0 rfl) ?_
            refine lv_if_eq (tgt := 114) hx hb dX10_readKind_105 (by decide) (fun c_206 => ?_) (fun c_206 => ?_)
            ·
              refine lv_iload_n hx hb dX10_readKind_114 rfl (lv_at hl 3 rfl) ?_
              refine lv_istore (lv' := [(6, .int x2), (5, .int s0), (0, .ref h0), (1, .ref g1), (2, .int x2), (3, .int x3)]) hx hb dX10_readKind_115 hl (by decide) rfl (fun ls hl => ?_)
              refine W.widen (k := 0) (n := 0) (by omega) (by omega) ?_
              exact jn_45 x2 F_43 (trivial) hO hR _ _ hP hD hS ls (lv_sub hl [0, 2, 3, 4, 5] rfl)
            ·
              refine lv_iload_n hx hb dX10_readKind_108 rfl (lv_at hl 3 rfl) ?_
              refine lv_iconst (v := 1) hx hb dX10_readKind_109 (by decide) ?_
              refine lv_iadd hx hb dX10_readKind_110 ?_
              refine lv_topi (fun x_207 _ => ?_)
              refine lv_goto (tgt := 115) hx hb dX10_readKind_111 (by decide) ?_
              refine lv_istore (lv' := [(6, .int x_207), (5, .int s0), (0, .ref h0), (1, .ref g1), (2, .int x2), (3, .int x3)]) hx hb dX10_readKind_115 hl (by decide) rfl (fun ls hl => ?_)
              refine W.widen (k := 0) (n := 0) (by omega) (by omega) ?_
              exact jn_45 x_207 F_43 (trivial) hO hR _ _ hP hD hS ls (lv_sub hl [0, 2, 3, 4, 5] rfl)
        ·
          refine lv_aload_n hx hb dX10_readKind_87 rfl (lv_at hl 2 rfl) ?_
          refine lv_iload hx hb dX10_readKind_88 (lv_at hl 0 rfl) ?_
          refine lv_if_eq (tgt := 98) hx hb dX10_readKind_90 (by decide) (fun c_208 => ?_) (fun c_208 => ?_)
          ·
            refine lv_bipush (v := 43) hx hb dX10_readKind_98 (by decide) ?_
            obtain ⟨v0_209, v1_210, v2_211, z_212, v4_213, v5_214, hF_215, hq_216⟩ := hO.term hL_h0 hT_h0
            refine pg_put (ci := 10) (v := .int 43) (ty := .int) (C := RX10) (T := TX10) (N := 6) hx hb hts it_10 tyX10 tyX10_ok nmX10 hown hK hP hD hS hL_h0 hF_215 rfl 1 (by decide) (hts _ kt_135) (fun _ h9 => h9) rfl (by decide +kernel) (rfl) (rfl) (Nat.le_of_ble_eq_true rfl) dX10_readKind_100 (fun H locs hP hD hS => ?_)
            obtain ⟨F_217, he_218, hP, hD, hO, hR⟩ : ∃ G, G = va_up F_40 h0 (.inr (10, [.int v0_209, .int 43, .int v2_211, .int (nI z_212), .int v4_213, .int v5_214])) ∧ va_P (dC, dI) vwCl (va_pl L G) H ∧ va_D A (va_pl L G) ∧ OK cs ty L G ∧ FR ty [ρ] F G := ⟨_, rfl, hP, hD, hO.up (sh.term hT_h0 ⟨v0_209, 43, v2_211, z_212, v4_213, v5_214, rfl, (by first | omega | assumption | exact Or.inl rfl | exact Or.inr rfl)⟩), hR.up hT_h0 (by simp)⟩
            have hF_219 : F_217 h0 = .inr (10, [.int v0_209, .int 43, .int v2_211, .int (nI z_212), .int v4_213, .int v5_214]) := by rw [he_218]; exact up_self
            refine W.widen (k := 0) (n := 0) (by omega) (by omega) ?_
            exact jn_42 () F_217 (trivial) hO hR _ _ hP hD hS ls (lv_sub hl [0, 2, 3, 4, 5] rfl)
          ·
            refine lv_iload hx hb dX10_readKind_93 (lv_at hl 1 rfl) ?_
            refine lv_goto (tgt := 100) hx hb dX10_readKind_95 (by decide) ?_
            obtain ⟨v0_220, v1_221, v2_222, z_223, v4_224, v5_225, hF_226, hq_227⟩ := hO.term hL_h0 hT_h0
            refine pg_put (ci := 10) (v := .int r_34) (ty := .int) (C := RX10) (T := TX10) (N := 6) hx hb hts it_10 tyX10 tyX10_ok nmX10 hown hK hP hD hS hL_h0 hF_226 rfl 1 (by decide) (hts _ kt_135) (fun _ h9 => h9) rfl (by decide +kernel) (rfl) (rfl) (Nat.le_of_ble_eq_true rfl) dX10_readKind_100 (fun H locs hP hD hS => ?_)
            obtain ⟨F_228, he_229, hP, hD, hO, hR⟩ : ∃ G, G = va_up F_40 h0 (.inr (10, [.int v0_220, .int r_34, .int v2_222, .int (nI z_223), .int v4_224, .int v5_225])) ∧ va_P (dC, dI) vwCl (va_pl L G) H ∧ va_D A (va_pl L G) ∧ OK cs ty L G ∧ FR ty [ρ] F G := ⟨_, rfl, hP, hD, hO.up (sh.term hT_h0 ⟨v0_220, r_34, v2_222, z_223, v4_224, v5_225, rfl, (by first | omega | assumption | exact Or.inl rfl | exact Or.inr rfl)⟩), hR.up hT_h0 (by simp)⟩
            have hF_230 : F_228 h0 = .inr (10, [.int v0_220, .int r_34, .int v2_222, .int (nI z_223), .int v4_224, .int v5_225]) := by rw [he_229]; exact up_self
            refine W.widen (k := 0) (n := 0) (by omega) (by omega) ?_
            exact jn_42 () F_228 (trivial) hO hR _ _ hP hD hS ls (lv_sub hl [0, 2, 3, 4, 5] rfl)
      ·
        refine lv_iload hx hb dX10_readKind_52 (lv_at hl 0 rfl) ?_
        refine lv_bipush (v := 43) hx hb dX10_readKind_54 (by decide) ?_
        refine lv_icmp_eq (tgt := 80) hx hb dX10_readKind_56 (by decide) (fun c_231 => ?_) (fun c_231 => ?_)
        ·
          refine lv_iconst (v := 1) hx hb dX10_readKind_80 (by decide) ?_
          refine lv_goto (tgt := 85) hx hb dX10_readKind_81 (by decide) ?_
          refine W.widen (k := 0) (n := 0) (by omega) (by omega) ?_
          exact jn_39 1 F_35 (trivial) hO hR _ _ hP hD hS ls (lv_sub hl [0, 1, 2, 3, 4] rfl)
        ·
          refine lv_iload hx hb dX10_readKind_59 (lv_at hl 0 rfl) ?_
          refine lv_bipush (v := 63) hx hb dX10_readKind_61 (by decide) ?_
          refine lv_icmp_eq (tgt := 80) hx hb dX10_readKind_63 (by decide) (fun c_232 => ?_) (fun c_232 => ?_)
          ·
            refine lv_iconst (v := 1) hx hb dX10_readKind_80 (by decide) ?_
            refine lv_goto (tgt := 85) hx hb dX10_readKind_81 (by decide) ?_
            refine W.widen (k := 0) (n := 0) (by omega) (by omega) ?_
            exact jn_39 1 F_35 (trivial) hO hR _ _ hP hD hS ls (lv_sub hl [0, 1, 2, 3, 4] rfl)
          ·
            refine lv_iload hx hb dX10_readKind_66 (lv_at hl 0 rfl) ?_
            refine lv_bipush (v := 126) hx hb dX10_readKind_68 (by decide) ?_
            refine lv_icmp_eq (tgt := 80) hx hb dX10_readKind_70 (by decide) (fun c_233 => ?_) (fun c_233 => ?_)
            ·
              refine lv_iconst (v := 1) hx hb dX10_readKind_80 (by decide) ?_
              refine lv_goto (tgt := 85) hx hb dX10_readKind_81 (by decide) ?_
              refine W.widen (k := 0) (n := 0) (by omega) (by omega) ?_
              exact jn_39 1 F_35 (trivial) hO hR _ _ hP hD hS ls (lv_sub hl [0, 1, 2, 3, 4] rfl)
            ·
              refine lv_iload hx hb dX10_readKind_73 (lv_at hl 0 rfl) ?_
              refine lv_bipush (v := 45) hx hb dX10_readKind_75 (by decide) ?_
              refine lv_icmp_ne (tgt := 84) hx hb dX10_readKind_77 (by decide) (fun c_234 => ?_) (fun c_234 => ?_)
              ·
                refine lv_iconst (v := 0) hx hb dX10_readKind_84 (by decide) ?_
                refine W.widen (k := 0) (n := 0) (by omega) (by omega) ?_
                exact jn_39 0 F_35 (trivial) hO hR _ _ hP hD hS ls (lv_sub hl [0, 1, 2, 3, 4] rfl)
              ·
                refine lv_iconst (v := 1) hx hb dX10_readKind_80 (by decide) ?_
                refine lv_goto (tgt := 85) hx hb dX10_readKind_81 (by decide) ?_
                refine W.widen (k := 0) (n := 0) (by omega) (by omega) ?_
                exact jn_39 1 F_35 (trivial) hO hR _ _ hP hD hS ls (lv_sub hl [0, 1, 2, 3, 4] rfl)
    ·
      refine lv_aload_n hx hb dX10_readKind_37 rfl (lv_at hl 0 rfl) ?_
      refine lv_bipush (v := 8) hx hb dX10_readKind_38 (by decide) ?_
      refine lv_iload_n hx hb dX10_readKind_40 rfl (lv_at hl 3 rfl) ?_
      have hFc := pg_free hD hS hA
      refine va_callv (va_runV (As := [.int 8, .int x3]) (rest := []) ⟨hx, hb, hml, hown, hts⟩ (s_X10_setKind l dC dI cs ty L H.size F_29 h0 ρ 8 x3 hW hL_h0 hT_h0) ⟨callB_of 2 hts (gi kt_141) rfl rfl rfl (hts _ kt_90) (hts _ kt_142) (by decide +kernel) ⟨Nat.le_of_ble_eq_true rfl, Nat.le_of_ble_eq_true rfl⟩, (hts _ kt_143), (hts _ kt_144)⟩ ⟨fun a U g mk q => ⟨q.1, PT.calling q.2⟩, pg_recv hK hP hL_h0 hF_30 (q := (RX10, TX10, 6)) rfl, fun U hU hWm => ⟨rfl, PT.mk hU hWm hP hK hD hE hO⟩⟩ rfl rfl hl.1 rfl (lv_room (Nat.le_of_ble_eq_true rfl)) dX10_readKind_41 ⟨by show _ + 0 ≤ 0; omega, by show _ + 0 ≤ 0; omega⟩) hS (fun q _ h => hFc q h) hFc (fun u t H1 locs ht hvm hw hB hz1 hk1 hS => ?_)
      obtain ⟨F_236, hB1⟩ := hB
      obtain ⟨hP, hD, hO, hR⟩ := QT.back hB1 ht hFc hR (fun q h => by simp only [List.mem_cons, List.not_mem_nil, or_false] at h ⊢; omega)
      generalize H1 = H at hP hS ⊢
      refine W.widen (k := 0) (n := 0) (by omega) (by omega) ?_
      exact W.vret hx hb hr (fun t ht hWm => ⟨⟨(), rfl, trivial, ⟨F_236, QT.mk ht hP hD hO hR⟩⟩, hS.F ht⟩) hS.2.2 dX10_readKind_44
  ·
    refine lv_aload_n hx hb dX10_readKind_17 rfl (lv_at hl 0 rfl) ?_
    refine lv_bipush (v := 7) hx hb dX10_readKind_18 (by decide) ?_
    refine lv_iload_n hx hb dX10_readKind_20 rfl (lv_at hl 2 rfl) ?_
    refine lv_bipush (v := 9) hx hb dX10_readKind_21 (by decide) ?_
    refine lv_iadd hx hb dX10_readKind_23 ?_
    refine lv_topi (fun x_237 _ => ?_)
    have hFc := pg_free hD hS hA
    refine va_callv (va_runV (As := [.int 7, .int x_237]) (rest := []) ⟨hx, hb, hml, hown, hts⟩ (s_X10_setKind l dC dI cs ty L H.size F_23 h0 ρ 7 x_237 hW hL_h0 hT_h0) ⟨callB_of 2 hts (gi kt_141) rfl rfl rfl (hts _ kt_90) (hts _ kt_142) (by decide +kernel) ⟨Nat.le_of_ble_eq_true rfl, Nat.le_of_ble_eq_true rfl⟩, (hts _ kt_143), (hts _ kt_144)⟩ ⟨fun a U g mk q => ⟨q.1, PT.calling q.2⟩, pg_recv hK hP hL_h0 hF_24 (q := (RX10, TX10, 6)) rfl, fun U hU hWm => ⟨rfl, PT.mk hU hWm hP hK hD hE hO⟩⟩ rfl rfl hl.1 rfl (lv_room (Nat.le_of_ble_eq_true rfl)) dX10_readKind_24 ⟨by show _ + 0 ≤ 0; omega, by show _ + 0 ≤ 0; omega⟩) hS (fun q _ h => hFc q h) hFc (fun u t H1 locs ht hvm hw hB hz1 hk1 hS => ?_)
    obtain ⟨F_239, hB1⟩ := hB
    obtain ⟨hP, hD, hO, hR⟩ := QT.back hB1 ht hFc hR (fun q h => by simp only [List.mem_cons, List.not_mem_nil, or_false] at h ⊢; omega)
    generalize H1 = H at hP hS ⊢
    refine W.widen (k := 0) (n := 0) (by omega) (by omega) ?_
    exact W.vret hx hb hr (fun t ht hWm => ⟨⟨(), rfl, trivial, ⟨F_239, QT.mk ht hP hD hO hR⟩⟩, hS.F ht⟩) hS.2.2 dX10_readKind_27
set_option maxHeartbeats 4000000 in
set_option maxRecDepth 100000 in
theorem s_X10_read (l : Launch) (dC : Nat → ClassId) (dI : Nat → Nat → Nat) (cs : Nat → ClassId) (ty : TyM) (L : List Nat) (sz : Nat) (F : Nat → va_E) (h0 : Nat) (ρ : Nat) (g1 : Nat) (σ : Nat) (r1 : Nat) (n1 : Nat) (t3 : Nat) (x2 : Int32) (hW : WT ty L) (hL_h0 : h0 ∈ L) (hT_h0 : ty h0 = (10, ρ, [])) (hL_g1 : g1 ∈ L) (hT_g1 : ty g1 = (0, σ, [r1, n1])) (ht3 : t3 ≤ 10000) : Met l yX10_read (.code yX10_read cX10_read 6 none :: tb) ({ frames := 7, cells := 0, slots := 0, locals := 158 }) (va_Pc [.ref h0, .ref g1, .int x2, .int (nI t3)] (PTE (dC, dI) cs ty L F sz [])) (va_Qv (fun _ : Unit => True) (fun _ T9 => ∃ F2 : Nat → va_E, QT (dC, dI) cs ty L [ρ] F F2 (va_A (va_pl L F) sz) T9) (va_A (va_pl L F) sz)) 0 0 (va_A (va_pl L F) sz) := by
  refine Met.ofW (cc := cX10_read) (maxL := 6) (ret := none) (by decide) rfl ?_
  intro p e s m args below meth c s₁ B hml hv
  obtain ⟨rfl, ⟨hsz, hP, hK, hD0, hE, hO⟩, hG, hX⟩ := hv
  have hx := B.exec
  have hb := B.bytes
  have hr := B.returns
  have hts : ∀ w ∈ tb, w.before _ s = true := fun w h => atoms_spec (ws := .code yX10_read cX10_read 6 none :: tb) B.pre w (List.mem_cons_of_mem _ h)
  have hown : s.vm.findClass RX10 = some m.cls := findClass_of_methodNamed B.named
  have hlocks := B.notSynchronized
  subst hsz
  have hD := hD0.self (sz := s.heap.size)
  generalize hAe : va_A (va_pl L F) s.heap.size = A at hD hG hX ⊢
  have hA : ∀ q : Nat, s.heap.size ≤ q → A q := fun q h => by rw [← hAe]; exact Or.inr h
  have hS : va_S A s.heap s.heap [] := va_S.rf
  have hR : FR ty [ρ] F F := FR.refl
  have hl := lv_entry ([.ref h0, .ref g1, .int x2, .int (nI t3)]) (n := 6) (Nat.le_of_ble_eq_true rfl)
  rw [lg_entry_eq]
  generalize (lg_sl ([.ref h0, .ref g1, .int x2, .int (nI t3)]) ++ List.replicate (6 - (lg_sl ([.ref h0, .ref g1, .int x2, .int (nI t3)])).length) Slot.unset).toArray = ls at hl ⊢
  have hl : lv_has ls 6 [(0, .ref h0), (1, .ref g1), (2, .int x2), (3, .int (nI t3))] := hl
  refine lv_aload_n hx hb dX10_read_0 rfl (lv_at hl 0 rfl) ?_
  refine lv_aload_n hx hb dX10_read_1 rfl (lv_at hl 1 rfl) ?_
  refine lv_iload_n hx hb dX10_read_2 rfl (lv_at hl 2 rfl) ?_
  refine lv_iload_n hx hb dX10_read_3 rfl (lv_at hl 3 rfl) ?_
  have hFc := pg_free hD hS hA
  obtain ⟨v0_1, v1_2, v2_3, z_4, v4_5, v5_6, hF_7, hq_8⟩ := hO.term hL_h0 hT_h0
  refine va_callv (va_runV (As := [.ref g1, .int x2, .int (nI t3)]) (rest := []) ⟨hx, hb, hml, hown, hts⟩ (s_X10_readKind l dC dI cs ty L s.heap.size F h0 ρ g1 σ r1 n1 x2 (nI t3) hW hL_h0 hT_h0 hL_g1 hT_g1) ⟨callB_of 3 hts (gi kt_145) rfl rfl rfl (hts _ kt_90) (hts _ kt_146) (by decide +kernel) ⟨Nat.le_of_ble_eq_true rfl, Nat.le_of_ble_eq_true rfl⟩, (hts _ kt_147), (hts _ kt_148)⟩ ⟨fun a U g mk q => ⟨q.1, PTE.calling q.2⟩, pg_recv hK hP hL_h0 hF_7 (q := (RX10, TX10, 6)) rfl, fun U hU hWm => ⟨rfl, PTE.mk hU hWm hP hK hD hE hO hG (fun x hx => absurd hx List.not_mem_nil) hS hFc⟩⟩ rfl rfl hl.1 rfl (lv_room (Nat.le_of_ble_eq_true rfl)) dX10_read_4 ⟨by show _ + 0 ≤ 0; omega, by show _ + 0 ≤ 0; omega⟩) hS (fun q _ h => hFc q h) hFc (fun u t H1 locs ht hvm hw hB hz1 hk1 hS => ?_)
  obtain ⟨F_10, hB1⟩ := hB
  obtain ⟨hP, hD, hO, hR⟩ := QT.back hB1 ht hFc hR (fun q h => by simp only [List.mem_cons, List.not_mem_nil, or_false] at h ⊢; omega)
  generalize H1 = H at hP hS ⊢
  refine lv_aload_n hx hb dX10_read_7 rfl (lv_at hl 0 rfl) ?_
  refine lv_iload_n hx hb dX10_read_8 rfl (lv_at hl 3 rfl) ?_
  obtain ⟨v0_11, v1_12, v2_13, z_14, v4_15, v5_16, hF_17, hq_18⟩ := hO.term hL_h0 hT_h0
  refine pg_put (ci := 10) (v := .int (nI t3)) (ty := .int) (C := RX10) (T := TX10) (N := 6) hx hb hts it_10 tyX10 tyX10_ok nmX10 hown hK hP hD hS hL_h0 hF_17 rfl 3 (by decide) (hts _ kt_149) (fun _ h9 => h9) rfl (by decide +kernel) (rfl) (rfl) (Nat.le_of_ble_eq_true rfl) dX10_read_9 (fun H locs hP hD hS => ?_)
  obtain ⟨F_19, he_20, hP, hD, hO, hR⟩ : ∃ G, G = va_up F_10 h0 (.inr (10, [.int v0_11, .int v1_12, .int v2_13, .int (nI t3), .int v4_15, .int v5_16])) ∧ va_P (dC, dI) vwCl (va_pl L G) H ∧ va_D A (va_pl L G) ∧ OK cs ty L G ∧ FR ty [ρ] F G := ⟨_, rfl, hP, hD, hO.up (sh.term hT_h0 ⟨v0_11, v1_12, v2_13, t3, v4_15, v5_16, rfl, (by first | omega | assumption | exact Or.inl rfl | exact Or.inr rfl)⟩), hR.up hT_h0 (by simp)⟩
  have hF_21 : F_19 h0 = .inr (10, [.int v0_11, .int v1_12, .int v2_13, .int (nI t3), .int v4_15, .int v5_16]) := by rw [he_20]; exact up_self
  refine lv_aload_n hx hb dX10_read_12 rfl (lv_at hl 0 rfl) ?_
  refine lv_bipush (v := 32) hx hb dX10_read_13 (by decide) ?_
  refine pg_put (ci := 10) (v := .int 32) (ty := .int) (C := RX10) (T := TX10) (N := 6) hx hb hts it_10 tyX10 tyX10_ok nmX10 hown hK hP hD hS hL_h0 hF_21 rfl 4 (by decide) (hts _ kt_150) (fun _ h9 => h9) rfl (by decide +kernel) (rfl) (rfl) (Nat.le_of_ble_eq_true rfl) dX10_read_15 (fun H locs hP hD hS => ?_)
  obtain ⟨F_22, he_23, hP, hD, hO, hR⟩ : ∃ G, G = va_up F_19 h0 (.inr (10, [.int v0_11, .int v1_12, .int v2_13, .int (nI t3), .int 32, .int v5_16])) ∧ va_P (dC, dI) vwCl (va_pl L G) H ∧ va_D A (va_pl L G) ∧ OK cs ty L G ∧ FR ty [ρ] F G := ⟨_, rfl, hP, hD, hO.up (sh.term hT_h0 ⟨v0_11, v1_12, v2_13, t3, 32, v5_16, rfl, (by first | omega | assumption | exact Or.inl rfl | exact Or.inr rfl)⟩), hR.up hT_h0 (by simp)⟩
  have hF_24 : F_22 h0 = .inr (10, [.int v0_11, .int v1_12, .int v2_13, .int (nI t3), .int 32, .int v5_16]) := by rw [he_23]; exact up_self
  refine W.widen (k := 0) (n := 0) (by omega) (by omega) ?_
  refine pl_cut (σ := Int32 × Int32 × Int32 × Nat × Int32 × Int32) A (dC, dI) cs ty L [ρ] F 86 6 (fun (c0, c1, c2, t9, c4, c5) => [(0, .ref h0), (1, .ref g1), (2, .int x2), (3, .int (nI t3))]) (fun (c0, c1, c2, t9, c4, c5) => []) (fun (c0, c1, c2, t9, c4, c5) FF => FF h0 = .inr (10, [.int c0, .int c1, .int c2, .int (nI t9), .int c4, .int c5]) ∧ t9 ≤ 10000) ?_ (fun jn_25 => ?_)
  ·
    rintro ⟨c0, c1, c2, t9, c4, c5⟩ F_26 hv_27 hO hR H locs hP hD hS ls hl
    have hl : lv_has ls 6 [(0, .ref h0), (1, .ref g1), (2, .int x2), (3, .int (nI t3))] := hl
    have hv_27 : F_26 h0 = .inr (10, [.int c0, .int c1, .int c2, .int (nI t9), .int c4, .int c5]) ∧ t9 ≤ 10000 := hv_27
    refine W.eq (g2 := F0 m 86 ls []) rfl ?_
    obtain ⟨hv1a, hv1b⟩ := hv_27
    refine W.widen (k := 0) (n := 0) (by omega) (by omega) ?_
    refine pl_cut (σ := Int32 × Int32 × Int32 × Int32 × Nat × Int32 × Int32) A (dC, dI) cs ty L [ρ] F 109 6 (fun (s4, c0, c1, c2, t9, c4, c5) => [(4, .int s4), (0, .ref h0), (1, .ref g1), (2, .int x2), (3, .int (nI t3))]) (fun (s4, c0, c1, c2, t9, c4, c5) => []) (fun (s4, c0, c1, c2, t9, c4, c5) FF => FF h0 = .inr (10, [.int c0, .int c1, .int c2, .int (nI t9), .int c4, .int c5]) ∧ t9 ≤ 10000) ?_ (fun jn_28 => ?_)
    ·
      rintro ⟨s4, c0, c1, c2, t9, c4, c5⟩ F_29 hv_30 hO hR H locs hP hD hS ls hl
      have hl : lv_has ls 6 [(4, .int s4), (0, .ref h0), (1, .ref g1), (2, .int x2), (3, .int (nI t3))] := hl
      have hv_30 : F_29 h0 = .inr (10, [.int c0, .int c1, .int c2, .int (nI t9), .int c4, .int c5]) ∧ t9 ≤ 10000 := hv_30
      refine W.eq (g2 := F0 m 109 ls []) rfl ?_
      obtain ⟨hv2a, hv2b⟩ := hv_30
      refine W.widen (k := 0) (n := 0) (by omega) (by omega) ?_
      refine pl_cut (σ := Int32) A (dC, dI) cs ty L [ρ] F 275 6 (fun s9 => [(4, .int s9), (0, .ref h0), (1, .ref g1), (2, .int x2), (3, .int (nI t3))]) (fun s9 => []) (fun s9 _ => True) ?_ (fun jn_31 => ?_)
      ·
        rintro s9 F_32 hv_33 hO hR H locs hP hD hS ls hl
        have hl : lv_has ls 6 [(4, .int s9), (0, .ref h0), (1, .ref g1), (2, .int x2), (3, .int (nI t3))] := hl
        have hv_33 : True := hv_33
        refine W.eq (g2 := F0 m 275 ls []) rfl ?_
        refine lv_aload_n hx hb dX10_read_275 rfl (lv_at hl 1 rfl) ?_
        refine lv_iload hx hb dX10_read_276 (lv_at hl 0 rfl) ?_
        refine lv_if_eq (tgt := 288) hx hb dX10_read_278 (by decide) (fun c_34 => ?_) (fun c_34 => ?_)
        ·
          refine lv_iconst (v := 0) hx hb dX10_read_288 (by decide) ?_
          obtain ⟨v0_35, v1_36, v2_37, z_38, v4_39, v5_40, hF_41, hq_42⟩ := hO.term hL_h0 hT_h0
          refine pg_put (ci := 10) (v := .int 0) (ty := .int) (C := RX10) (T := TX10) (N := 6) hx hb hts it_10 tyX10 tyX10_ok nmX10 hown hK hP hD hS hL_h0 hF_41 rfl 0 (by decide) (hts _ kt_118) (fun _ h9 => h9) rfl (by decide +kernel) (rfl) (rfl) (Nat.le_of_ble_eq_true rfl) dX10_read_289 (fun H locs hP hD hS => ?_)
          obtain ⟨F_43, he_44, hP, hD, hO, hR⟩ : ∃ G, G = va_up F_32 h0 (.inr (10, [.int 0, .int v1_36, .int v2_37, .int (nI z_38), .int v4_39, .int v5_40])) ∧ va_P (dC, dI) vwCl (va_pl L G) H ∧ va_D A (va_pl L G) ∧ OK cs ty L G ∧ FR ty [ρ] F G := ⟨_, rfl, hP, hD, hO.up (sh.term hT_h0 ⟨0, v1_36, v2_37, z_38, v4_39, v5_40, rfl, (by first | omega | assumption | exact Or.inl rfl | exact Or.inr rfl)⟩), hR.up hT_h0 (by simp)⟩
          have hF_45 : F_43 h0 = .inr (10, [.int 0, .int v1_36, .int v2_37, .int (nI z_38), .int v4_39, .int v5_40]) := by rw [he_44]; exact up_self
          refine W.widen (k := 0) (n := 0) (by omega) (by omega) ?_
          exact W.vret hx hb hr (fun t ht hWm => ⟨⟨(), rfl, trivial, ⟨F_43, QT.mk ht hP hD hO hR⟩⟩, hS.F ht⟩) hS.2.2 dX10_read_292
        ·
          refine lv_aload_n hx hb dX10_read_281 rfl (lv_at hl 1 rfl) ?_
          obtain ⟨v0_46, v1_47, v2_48, z_49, v4_50, v5_51, hF_52, hq_53⟩ := hO.term hL_h0 hT_h0
          refine pg_get (ci := 10) (v := .int v0_46) (C := RX10) (T := TX10) (N := 6) hx hb hts it_10 hown hK hP hL_h0 hF_52 rfl 0 (by decide) (hts _ kt_118) (fun _ h9 => h9) rfl dX10_read_282 ?_
          refine lv_goto (tgt := 289) hx hb dX10_read_285 (by decide) ?_
          refine pg_put (ci := 10) (v := .int v0_46) (ty := .int) (C := RX10) (T := TX10) (N := 6) hx hb hts it_10 tyX10 tyX10_ok nmX10 hown hK hP hD hS hL_h0 hF_52 rfl 0 (by decide) (hts _ kt_118) (fun _ h9 => h9) rfl (by decide +kernel) (rfl) (rfl) (Nat.le_of_ble_eq_true rfl) dX10_read_289 (fun H locs hP hD hS => ?_)
          obtain ⟨F_54, he_55, hP, hD, hO, hR⟩ : ∃ G, G = va_up F_32 h0 (.inr (10, [.int v0_46, .int v1_47, .int v2_48, .int (nI z_49), .int v4_50, .int v5_51])) ∧ va_P (dC, dI) vwCl (va_pl L G) H ∧ va_D A (va_pl L G) ∧ OK cs ty L G ∧ FR ty [ρ] F G := ⟨_, rfl, hP, hD, hO.up (sh.term hT_h0 ⟨v0_46, v1_47, v2_48, z_49, v4_50, v5_51, rfl, (by first | omega | assumption | exact Or.inl rfl | exact Or.inr rfl)⟩), hR.up hT_h0 (by simp)⟩
          have hF_56 : F_54 h0 = .inr (10, [.int v0_46, .int v1_47, .int v2_48, .int (nI z_49), .int v4_50, .int v5_51]) := by rw [he_55]; exact up_self
          refine W.widen (k := 0) (n := 0) (by omega) (by omega) ?_
          exact W.vret hx hb hr (fun t ht hWm => ⟨⟨(), rfl, trivial, ⟨F_54, QT.mk ht hP hD hO hR⟩⟩, hS.F ht⟩) hS.2.2 dX10_read_292
      ·
        refine lv_aload_n hx hb dX10_read_109 rfl (lv_at hl 1 rfl) ?_
        refine pg_get (ci := 10) (v := .int c0) (C := RX10) (T := TX10) (N := 6) hx hb hts it_10 hown hK hP hL_h0 hv2a rfl 0 (by decide) (hts _ kt_118) (fun _ h9 => h9) rfl dX10_read_110 ?_
        refine lv_iconst (v := 5) hx hb dX10_read_113 (by decide) ?_
        refine lv_icmp_ne (tgt := 148) hx hb dX10_read_114 (by decide) (fun c_57 => ?_) (fun c_57 => ?_)
        ·
          refine lv_aload_n hx hb dX10_read_148 rfl (lv_at hl 1 rfl) ?_
          refine pg_get (ci := 10) (v := .int c0) (C := RX10) (T := TX10) (N := 6) hx hb hts it_10 hown hK hP hL_h0 hv2a rfl 0 (by decide) (hts _ kt_118) (fun _ h9 => h9) rfl dX10_read_149 ?_
          refine lv_iconst (v := 3) hx hb dX10_read_152 (by decide) ?_
          refine lv_icmp_eq (tgt := 164) hx hb dX10_read_153 (by decide) (fun c_58 => ?_) (fun c_58 => ?_)
          ·
            refine lv_aload_n hx hb dX10_read_164 rfl (lv_at hl 2 rfl) ?_
            refine lv_aload_n hx hb dX10_read_165 rfl (lv_at hl 1 rfl) ?_
            refine pg_get (ci := 10) (v := .int c2) (C := RX10) (T := TX10) (N := 6) hx hb hts it_10 hown hK hP hL_h0 hv2a rfl 2 (by decide) (hts _ kt_119) (fun _ h9 => h9) rfl dX10_read_166 ?_
            refine lv_iconst (v := 1) hx hb dX10_read_169 (by decide) ?_
            refine lv_isub hx hb dX10_read_170 ?_
            refine lv_topi (fun x_59 _ => ?_)
            have hFc := pg_free hD hS hA
            obtain ⟨hi_60, ht_61, hq_62⟩ := hW.bytes hL_g1 hT_g1
            obtain ⟨z_63, o_64, hF_65, hq_66, hq_67⟩ := hO.bytes hL_g1 hT_g1
            refine va_calli (va_runV (As := [.int x_59]) (rest := []) ⟨hx, hb, hml, hown, hts⟩ (s_X0_at l dC dI cs ty L H.size F_29 g1 σ r1 n1 x_59 hW hL_g1 hT_g1) ⟨callB_of 1 hts (gi kt_21) rfl rfl rfl (hts _ kt_1) (hts _ kt_120) (by decide +kernel) ⟨Nat.le_of_ble_eq_true rfl, Nat.le_of_ble_eq_true rfl⟩, (hts _ kt_23), (hts _ kt_24)⟩ ⟨fun a U g mk q => ⟨q.1, PT.calling q.2⟩, pg_recv hK hP hL_g1 hF_65 (q := (RX0, TX0, 3)) rfl, fun U hU hWm => ⟨rfl, PT.mk hU hWm hP hK hD hE hO⟩⟩ rfl rfl hl.1 rfl (lv_room (Nat.le_of_ble_eq_true rfl)) dX10_read_171 ⟨by show _ + 0 ≤ 0; omega, by show _ + 0 ≤ 0; omega⟩) hS (fun q _ h => hFc q h) hFc (fun r_68 u t H1 locs ht hvm hw hB hz1 hk1 hS => ?_)
            obtain ⟨F_69, hB1⟩ := hB
            obtain ⟨hP, hD, hO, hR⟩ := QT.back hB1 ht hFc hR (fun q h => absurd h List.not_mem_nil)
            have hF_70 : F_69 h0 = .inr (10, [.int c0, .int c1, .int c2, .int (nI t9), .int c4, .int c5]) := (hB1.2.2.2 h0 List.not_mem_nil).trans hv2a
            have hF_71 : F_69 g1 = .inr (0, [.ref r1, .int (nI z_63), .int o_64]) := (hB1.2.2.2 g1 List.not_mem_nil).trans hF_65
            generalize H1 = H at hP hS ⊢
            have hw : True := hw
            have hw_72 := hw
            refine lv_bipush (v := 58) hx hb dX10_read_174 (by decide) ?_
            refine lv_icmp_eq (tgt := 183) hx hb dX10_read_176 (by decide) (fun c_73 => ?_) (fun c_73 => ?_)
            ·
              refine lv_iconst (v := 0) hx hb dX10_read_183 (by decide) ?_
              refine lv_istore (lv' := [(5, .int 0), (4, .int s4), (0, .ref h0), (1, .ref g1), (2, .int x2), (3, .int (nI t3))]) hx hb dX10_read_184 hl (by decide) rfl (fun ls hl => ?_)
              refine lv_iload hx hb dX10_read_186 (lv_at hl 1 rfl) ?_
              refine lv_if_eq (tgt := 229) hx hb dX10_read_188 (by decide) (fun c_74 => ?_) (fun c_74 => ?_)
              ·
                refine lv_iconst (v := 0) hx hb dX10_read_229 (by decide) ?_
                refine lv_istore (lv' := [(4, .int 0), (5, .int 0), (0, .ref h0), (1, .ref g1), (2, .int x2), (3, .int (nI t3))]) hx hb dX10_read_230 hl (by decide) rfl (fun ls hl => ?_)
                refine lv_goto (tgt := 275) hx hb dX10_read_232 (by decide) ?_
                refine W.widen (k := 0) (n := 0) (by omega) (by omega) ?_
                exact jn_31 0 F_69 (trivial) hO hR _ _ hP hD hS ls (lv_sub hl [0, 2, 3, 4, 5] rfl)
              ·
                refine lv_iload hx hb dX10_read_191 (lv_at hl 0 rfl) ?_
                refine lv_if_eq (tgt := 210) hx hb dX10_read_193 (by decide) (fun c_75 => ?_) (fun c_75 => absurd (by decide) c_75)
                refine lv_aload_n hx hb dX10_read_210 rfl (lv_at hl 3 rfl) ?_
                refine lv_aload_n hx hb dX10_read_211 rfl (lv_at hl 2 rfl) ?_
                refine pg_get (ci := 10) (v := .int c2) (C := RX10) (T := TX10) (N := 6) hx hb hts it_10 hown hK hP hL_h0 hF_70 rfl 2 (by decide) (hts _ kt_119) (fun _ h9 => h9) rfl dX10_read_212 ?_
                refine lv_aload_n hx hb dX10_read_215 rfl (lv_at hl 2 rfl) ?_
                refine pg_get (ci := 10) (v := .int (nI t9)) (C := RX10) (T := TX10) (N := 6) hx hb hts it_10 hown hK hP hL_h0 hF_70 rfl 3 (by decide) (hts _ kt_149) (fun _ h9 => h9) rfl dX10_read_216 ?_
                have hFc := pg_free hD hS hA
                refine va_calli (va_runS (As := [.ref g1, .int c2, .int (nI t9)]) (rest := []) ⟨hx, hb, hml, hown, hts⟩ (s_X10_isHost l dC dI cs ty L H.size F_69 g1 σ r1 n1 t9 c2 hW hL_g1 hT_g1 (by omega)) ⟨callB_of 3 hts (gi kt_151) rfl rfl rfl (hts _ kt_90) (hts _ kt_152) (by decide +kernel) ⟨Nat.le_of_ble_eq_true rfl, Nat.le_of_ble_eq_true rfl⟩, (hts _ kt_153)⟩ ⟨fun a U g mk q => ⟨q.1, PT.calling q.2⟩, fun U hU hWm => ⟨rfl, PT.mk hU hWm hP hK hD hE hO⟩⟩ rfl rfl hl.1 rfl (lv_room (Nat.le_of_ble_eq_true rfl)) dX10_read_219 ⟨by show _ + 0 ≤ 0; omega, by show _ + 0 ≤ 0; omega⟩) hS (fun q _ h => hFc q h) hFc (fun r_76 u t H1 locs ht hvm hw hB hz1 hk1 hS => ?_)
                obtain ⟨F_77, hB1⟩ := hB
                obtain ⟨hP, hD, hO, hR⟩ := QT.back hB1 ht hFc hR (fun q h => absurd h List.not_mem_nil)
                have hF_78 : F_77 h0 = .inr (10, [.int c0, .int c1, .int c2, .int (nI t9), .int c4, .int c5]) := (hB1.2.2.2 h0 List.not_mem_nil).trans hF_70
                have hF_79 : F_77 g1 = .inr (0, [.ref r1, .int (nI z_63), .int o_64]) := (hB1.2.2.2 g1 List.not_mem_nil).trans hF_71
                generalize H1 = H at hP hS ⊢
                have hw : (r_76 = 0 ∨ r_76 = 1) := hw
                have hw_80 := hw
                refine lv_if_eq (tgt := 229) hx hb dX10_read_222 (by decide) (fun c_81 => ?_) (fun c_81 => ?_)
                ·
                  refine lv_iconst (v := 0) hx hb dX10_read_229 (by decide) ?_
                  refine lv_istore (lv' := [(4, .int 0), (5, .int 0), (0, .ref h0), (1, .ref g1), (2, .int x2), (3, .int (nI t3))]) hx hb dX10_read_230 hl (by decide) rfl (fun ls hl => ?_)
                  refine lv_goto (tgt := 275) hx hb dX10_read_232 (by decide) ?_
                  refine W.widen (k := 0) (n := 0) (by omega) (by omega) ?_
                  exact jn_31 0 F_77 (trivial) hO hR _ _ hP hD hS ls (lv_sub hl [0, 2, 3, 4, 5] rfl)
                ·
                  refine lv_iconst (v := 1) hx hb dX10_read_225 (by decide) ?_
                  refine lv_goto (tgt := 230) hx hb dX10_read_226 (by decide) ?_
                  refine lv_istore (lv' := [(4, .int 1), (5, .int 0), (0, .ref h0), (1, .ref g1), (2, .int x2), (3, .int (nI t3))]) hx hb dX10_read_230 hl (by decide) rfl (fun ls hl => ?_)
                  refine lv_goto (tgt := 275) hx hb dX10_read_232 (by decide) ?_
                  refine W.widen (k := 0) (n := 0) (by omega) (by omega) ?_
                  exact jn_31 1 F_77 (trivial) hO hR _ _ hP hD hS ls (lv_sub hl [0, 2, 3, 4, 5] rfl)
            ·
              refine lv_iconst (v := 1) hx hb dX10_read_179 (by decide) ?_
              refine lv_goto (tgt := 184) hx hb dX10_read_180 (by decide) ?_
              refine lv_istore (lv' := [(5, .int 1), (4, .int s4), (0, .ref h0), (1, .ref g1), (2, .int x2), (3, .int (nI t3))]) hx hb dX10_read_184 hl (by decide) rfl (fun ls hl => ?_)
              refine lv_iload hx hb dX10_read_186 (lv_at hl 1 rfl) ?_
              refine lv_if_eq (tgt := 229) hx hb dX10_read_188 (by decide) (fun c_82 => ?_) (fun c_82 => ?_)
              ·
                refine lv_iconst (v := 0) hx hb dX10_read_229 (by decide) ?_
                refine lv_istore (lv' := [(4, .int 0), (5, .int 1), (0, .ref h0), (1, .ref g1), (2, .int x2), (3, .int (nI t3))]) hx hb dX10_read_230 hl (by decide) rfl (fun ls hl => ?_)
                refine lv_goto (tgt := 275) hx hb dX10_read_232 (by decide) ?_
                refine W.widen (k := 0) (n := 0) (by omega) (by omega) ?_
                exact jn_31 0 F_69 (trivial) hO hR _ _ hP hD hS ls (lv_sub hl [0, 2, 3, 4, 5] rfl)
              ·
                refine lv_iload hx hb dX10_read_191 (lv_at hl 0 rfl) ?_
                refine lv_if_eq (tgt := 210) hx hb dX10_read_193 (by decide) (fun c_83 => absurd c_83 (by decide)) (fun c_83 => ?_)
                refine lv_aload_n hx hb dX10_read_196 rfl (lv_at hl 2 rfl) ?_
                refine pg_get (ci := 10) (v := .int c2) (C := RX10) (T := TX10) (N := 6) hx hb hts it_10 hown hK hP hL_h0 hF_70 rfl 2 (by decide) (hts _ kt_119) (fun _ h9 => h9) rfl dX10_read_197 ?_
                refine lv_aload_n hx hb dX10_read_200 rfl (lv_at hl 2 rfl) ?_
                refine pg_get (ci := 10) (v := .int (nI t9)) (C := RX10) (T := TX10) (N := 6) hx hb hts it_10 hown hK hP hL_h0 hF_70 rfl 3 (by decide) (hts _ kt_149) (fun _ h9 => h9) rfl dX10_read_201 ?_
                refine lv_icmp_ne (tgt := 229) hx hb dX10_read_204 (by decide) (fun c_84 => ?_) (fun c_84 => ?_)
                ·
                  refine lv_iconst (v := 0) hx hb dX10_read_229 (by decide) ?_
                  refine lv_istore (lv' := [(4, .int 0), (5, .int 1), (0, .ref h0), (1, .ref g1), (2, .int x2), (3, .int (nI t3))]) hx hb dX10_read_230 hl (by decide) rfl (fun ls hl => ?_)
                  refine lv_goto (tgt := 275) hx hb dX10_read_232 (by decide) ?_
                  refine W.widen (k := 0) (n := 0) (by omega) (by omega) ?_
                  exact jn_31 0 F_69 (trivial) hO hR _ _ hP hD hS ls (lv_sub hl [0, 2, 3, 4, 5] rfl)
                ·
                  refine lv_goto (tgt := 225) hx hb dX10_read_207 (by decide) ?_
                  refine lv_iconst (v := 1) hx hb dX10_read_225 (by decide) ?_
                  refine lv_goto (tgt := 230) hx hb dX10_read_226 (by decide) ?_
                  refine lv_istore (lv' := [(4, .int 1), (5, .int 1), (0, .ref h0), (1, .ref g1), (2, .int x2), (3, .int (nI t3))]) hx hb dX10_read_230 hl (by decide) rfl (fun ls hl => ?_)
                  refine lv_goto (tgt := 275) hx hb dX10_read_232 (by decide) ?_
                  refine W.widen (k := 0) (n := 0) (by omega) (by omega) ?_
                  exact jn_31 1 F_69 (trivial) hO hR _ _ hP hD hS ls (lv_sub hl [0, 2, 3, 4, 5] rfl)
          ·
            refine lv_aload_n hx hb dX10_read_156 rfl (lv_at hl 1 rfl) ?_
            refine pg_get (ci := 10) (v := .int c0) (C := RX10) (T := TX10) (N := 6) hx hb hts it_10 hown hK hP hL_h0 hv2a rfl 0 (by decide) (hts _ kt_118) (fun _ h9 => h9) rfl dX10_read_157 ?_
            refine lv_iconst (v := 4) hx hb dX10_read_160 (by decide) ?_
            refine lv_icmp_ne (tgt := 235) hx hb dX10_read_161 (by decide) (fun c_85 => ?_) (fun c_85 => ?_)
            ·
              refine lv_aload_n hx hb dX10_read_235 rfl (lv_at hl 1 rfl) ?_
              refine pg_get (ci := 10) (v := .int c0) (C := RX10) (T := TX10) (N := 6) hx hb hts it_10 hown hK hP hL_h0 hv2a rfl 0 (by decide) (hts _ kt_118) (fun _ h9 => h9) rfl dX10_read_236 ?_
              refine lv_iconst (v := 2) hx hb dX10_read_239 (by decide) ?_
              refine lv_icmp_eq (tgt := 261) hx hb dX10_read_240 (by decide) (fun c_86 => ?_) (fun c_86 => ?_)
              ·
                refine lv_aload_n hx hb dX10_read_261 rfl (lv_at hl 2 rfl) ?_
                refine lv_aload_n hx hb dX10_read_262 rfl (lv_at hl 1 rfl) ?_
                refine pg_get (ci := 10) (v := .int c2) (C := RX10) (T := TX10) (N := 6) hx hb hts it_10 hown hK hP hL_h0 hv2a rfl 2 (by decide) (hts _ kt_119) (fun _ h9 => h9) rfl dX10_read_263 ?_
                refine lv_aload_n hx hb dX10_read_266 rfl (lv_at hl 1 rfl) ?_
                refine pg_get (ci := 10) (v := .int (nI t9)) (C := RX10) (T := TX10) (N := 6) hx hb hts it_10 hown hK hP hL_h0 hv2a rfl 3 (by decide) (hts _ kt_149) (fun _ h9 => h9) rfl dX10_read_267 ?_
                have hFc := pg_free hD hS hA
                refine va_calli (va_runS (As := [.ref g1, .int c2, .int (nI t9)]) (rest := []) ⟨hx, hb, hml, hown, hts⟩ (s_X10_isHost l dC dI cs ty L H.size F_29 g1 σ r1 n1 t9 c2 hW hL_g1 hT_g1 (by omega)) ⟨callB_of 3 hts (gi kt_151) rfl rfl rfl (hts _ kt_90) (hts _ kt_152) (by decide +kernel) ⟨Nat.le_of_ble_eq_true rfl, Nat.le_of_ble_eq_true rfl⟩, (hts _ kt_153)⟩ ⟨fun a U g mk q => ⟨q.1, PT.calling q.2⟩, fun U hU hWm => ⟨rfl, PT.mk hU hWm hP hK hD hE hO⟩⟩ rfl rfl hl.1 rfl (lv_room (Nat.le_of_ble_eq_true rfl)) dX10_read_270 ⟨by show _ + 0 ≤ 0; omega, by show _ + 0 ≤ 0; omega⟩) hS (fun q _ h => hFc q h) hFc (fun r_87 u t H1 locs ht hvm hw hB hz1 hk1 hS => ?_)
                obtain ⟨F_88, hB1⟩ := hB
                obtain ⟨hP, hD, hO, hR⟩ := QT.back hB1 ht hFc hR (fun q h => absurd h List.not_mem_nil)
                have hF_89 : F_88 h0 = .inr (10, [.int c0, .int c1, .int c2, .int (nI t9), .int c4, .int c5]) := (hB1.2.2.2 h0 List.not_mem_nil).trans hv2a
                generalize H1 = H at hP hS ⊢
                have hw : (r_87 = 0 ∨ r_87 = 1) := hw
                have hw_90 := hw
                refine lv_istore (lv' := [(4, .int r_87), (0, .ref h0), (1, .ref g1), (2, .int x2), (3, .int (nI t3))]) hx hb dX10_read_273 hl (by decide) rfl (fun ls hl => ?_)
                refine W.widen (k := 0) (n := 0) (by omega) (by omega) ?_
                exact jn_31 r_87 F_88 (trivial) hO hR _ _ hP hD hS ls (lv_sub hl [0, 1, 2, 3, 4] rfl)
              ·
                refine lv_aload_n hx hb dX10_read_243 rfl (lv_at hl 1 rfl) ?_
                refine pg_get (ci := 10) (v := .int c0) (C := RX10) (T := TX10) (N := 6) hx hb hts it_10 hown hK hP hL_h0 hv2a rfl 0 (by decide) (hts _ kt_118) (fun _ h9 => h9) rfl dX10_read_244 ?_
                refine lv_bipush (v := 6) hx hb dX10_read_247 (by decide) ?_
                refine lv_icmp_eq (tgt := 261) hx hb dX10_read_249 (by decide) (fun c_91 => ?_) (fun c_91 => ?_)
                ·
                  refine lv_aload_n hx hb dX10_read_261 rfl (lv_at hl 2 rfl) ?_
                  refine lv_aload_n hx hb dX10_read_262 rfl (lv_at hl 1 rfl) ?_
                  refine pg_get (ci := 10) (v := .int c2) (C := RX10) (T := TX10) (N := 6) hx hb hts it_10 hown hK hP hL_h0 hv2a rfl 2 (by decide) (hts _ kt_119) (fun _ h9 => h9) rfl dX10_read_263 ?_
                  refine lv_aload_n hx hb dX10_read_266 rfl (lv_at hl 1 rfl) ?_
                  refine pg_get (ci := 10) (v := .int (nI t9)) (C := RX10) (T := TX10) (N := 6) hx hb hts it_10 hown hK hP hL_h0 hv2a rfl 3 (by decide) (hts _ kt_149) (fun _ h9 => h9) rfl dX10_read_267 ?_
                  have hFc := pg_free hD hS hA
                  refine va_calli (va_runS (As := [.ref g1, .int c2, .int (nI t9)]) (rest := []) ⟨hx, hb, hml, hown, hts⟩ (s_X10_isHost l dC dI cs ty L H.size F_29 g1 σ r1 n1 t9 c2 hW hL_g1 hT_g1 (by omega)) ⟨callB_of 3 hts (gi kt_151) rfl rfl rfl (hts _ kt_90) (hts _ kt_152) (by decide +kernel) ⟨Nat.le_of_ble_eq_true rfl, Nat.le_of_ble_eq_true rfl⟩, (hts _ kt_153)⟩ ⟨fun a U g mk q => ⟨q.1, PT.calling q.2⟩, fun U hU hWm => ⟨rfl, PT.mk hU hWm hP hK hD hE hO⟩⟩ rfl rfl hl.1 rfl (lv_room (Nat.le_of_ble_eq_true rfl)) dX10_read_270 ⟨by show _ + 0 ≤ 0; omega, by show _ + 0 ≤ 0; omega⟩) hS (fun q _ h => hFc q h) hFc (fun r_92 u t H1 locs ht hvm hw hB hz1 hk1 hS => ?_)
                  obtain ⟨F_93, hB1⟩ := hB
                  obtain ⟨hP, hD, hO, hR⟩ := QT.back hB1 ht hFc hR (fun q h => absurd h List.not_mem_nil)
                  have hF_94 : F_93 h0 = .inr (10, [.int c0, .int c1, .int c2, .int (nI t9), .int c4, .int c5]) := (hB1.2.2.2 h0 List.not_mem_nil).trans hv2a
                  generalize H1 = H at hP hS ⊢
                  have hw : (r_92 = 0 ∨ r_92 = 1) := hw
                  have hw_95 := hw
                  refine lv_istore (lv' := [(4, .int r_92), (0, .ref h0), (1, .ref g1), (2, .int x2), (3, .int (nI t3))]) hx hb dX10_read_273 hl (by decide) rfl (fun ls hl => ?_)
                  refine W.widen (k := 0) (n := 0) (by omega) (by omega) ?_
                  exact jn_31 r_92 F_93 (trivial) hO hR _ _ hP hD hS ls (lv_sub hl [0, 1, 2, 3, 4] rfl)
                ·
                  refine lv_aload_n hx hb dX10_read_252 rfl (lv_at hl 1 rfl) ?_
                  refine pg_get (ci := 10) (v := .int c0) (C := RX10) (T := TX10) (N := 6) hx hb hts it_10 hown hK hP hL_h0 hv2a rfl 0 (by decide) (hts _ kt_118) (fun _ h9 => h9) rfl dX10_read_253 ?_
                  refine lv_bipush (v := 7) hx hb dX10_read_256 (by decide) ?_
                  refine lv_icmp_ne (tgt := 275) hx hb dX10_read_258 (by decide) (fun c_96 => ?_) (fun c_96 => ?_)
                  ·
                    refine W.widen (k := 0) (n := 0) (by omega) (by omega) ?_
                    exact jn_31 s4 F_29 (trivial) hO hR _ _ hP hD hS ls (lv_sub hl [0, 1, 2, 3, 4] rfl)
                  ·
                    refine lv_aload_n hx hb dX10_read_261 rfl (lv_at hl 2 rfl) ?_
                    refine lv_aload_n hx hb dX10_read_262 rfl (lv_at hl 1 rfl) ?_
                    refine pg_get (ci := 10) (v := .int c2) (C := RX10) (T := TX10) (N := 6) hx hb hts it_10 hown hK hP hL_h0 hv2a rfl 2 (by decide) (hts _ kt_119) (fun _ h9 => h9) rfl dX10_read_263 ?_
                    refine lv_aload_n hx hb dX10_read_266 rfl (lv_at hl 1 rfl) ?_
                    refine pg_get (ci := 10) (v := .int (nI t9)) (C := RX10) (T := TX10) (N := 6) hx hb hts it_10 hown hK hP hL_h0 hv2a rfl 3 (by decide) (hts _ kt_149) (fun _ h9 => h9) rfl dX10_read_267 ?_
                    have hFc := pg_free hD hS hA
                    refine va_calli (va_runS (As := [.ref g1, .int c2, .int (nI t9)]) (rest := []) ⟨hx, hb, hml, hown, hts⟩ (s_X10_isHost l dC dI cs ty L H.size F_29 g1 σ r1 n1 t9 c2 hW hL_g1 hT_g1 (by omega)) ⟨callB_of 3 hts (gi kt_151) rfl rfl rfl (hts _ kt_90) (hts _ kt_152) (by decide +kernel) ⟨Nat.le_of_ble_eq_true rfl, Nat.le_of_ble_eq_true rfl⟩, (hts _ kt_153)⟩ ⟨fun a U g mk q => ⟨q.1, PT.calling q.2⟩, fun U hU hWm => ⟨rfl, PT.mk hU hWm hP hK hD hE hO⟩⟩ rfl rfl hl.1 rfl (lv_room (Nat.le_of_ble_eq_true rfl)) dX10_read_270 ⟨by show _ + 0 ≤ 0; omega, by show _ + 0 ≤ 0; omega⟩) hS (fun q _ h => hFc q h) hFc (fun r_97 u t H1 locs ht hvm hw hB hz1 hk1 hS => ?_)
                    obtain ⟨F_98, hB1⟩ := hB
                    obtain ⟨hP, hD, hO, hR⟩ := QT.back hB1 ht hFc hR (fun q h => absurd h List.not_mem_nil)
                    have hF_99 : F_98 h0 = .inr (10, [.int c0, .int c1, .int c2, .int (nI t9), .int c4, .int c5]) := (hB1.2.2.2 h0 List.not_mem_nil).trans hv2a
                    generalize H1 = H at hP hS ⊢
                    have hw : (r_97 = 0 ∨ r_97 = 1) := hw
                    have hw_100 := hw
                    refine lv_istore (lv' := [(4, .int r_97), (0, .ref h0), (1, .ref g1), (2, .int x2), (3, .int (nI t3))]) hx hb dX10_read_273 hl (by decide) rfl (fun ls hl => ?_)
                    refine W.widen (k := 0) (n := 0) (by omega) (by omega) ?_
                    exact jn_31 r_97 F_98 (trivial) hO hR _ _ hP hD hS ls (lv_sub hl [0, 1, 2, 3, 4] rfl)
            ·
              refine lv_aload_n hx hb dX10_read_164 rfl (lv_at hl 2 rfl) ?_
              refine lv_aload_n hx hb dX10_read_165 rfl (lv_at hl 1 rfl) ?_
              refine pg_get (ci := 10) (v := .int c2) (C := RX10) (T := TX10) (N := 6) hx hb hts it_10 hown hK hP hL_h0 hv2a rfl 2 (by decide) (hts _ kt_119) (fun _ h9 => h9) rfl dX10_read_166 ?_
              refine lv_iconst (v := 1) hx hb dX10_read_169 (by decide) ?_
              refine lv_isub hx hb dX10_read_170 ?_
              refine lv_topi (fun x_101 _ => ?_)
              have hFc := pg_free hD hS hA
              obtain ⟨hi_102, ht_103, hq_104⟩ := hW.bytes hL_g1 hT_g1
              obtain ⟨z_105, o_106, hF_107, hq_108, hq_109⟩ := hO.bytes hL_g1 hT_g1
              refine va_calli (va_runV (As := [.int x_101]) (rest := []) ⟨hx, hb, hml, hown, hts⟩ (s_X0_at l dC dI cs ty L H.size F_29 g1 σ r1 n1 x_101 hW hL_g1 hT_g1) ⟨callB_of 1 hts (gi kt_21) rfl rfl rfl (hts _ kt_1) (hts _ kt_120) (by decide +kernel) ⟨Nat.le_of_ble_eq_true rfl, Nat.le_of_ble_eq_true rfl⟩, (hts _ kt_23), (hts _ kt_24)⟩ ⟨fun a U g mk q => ⟨q.1, PT.calling q.2⟩, pg_recv hK hP hL_g1 hF_107 (q := (RX0, TX0, 3)) rfl, fun U hU hWm => ⟨rfl, PT.mk hU hWm hP hK hD hE hO⟩⟩ rfl rfl hl.1 rfl (lv_room (Nat.le_of_ble_eq_true rfl)) dX10_read_171 ⟨by show _ + 0 ≤ 0; omega, by show _ + 0 ≤ 0; omega⟩) hS (fun q _ h => hFc q h) hFc (fun r_110 u t H1 locs ht hvm hw hB hz1 hk1 hS => ?_)
              obtain ⟨F_111, hB1⟩ := hB
              obtain ⟨hP, hD, hO, hR⟩ := QT.back hB1 ht hFc hR (fun q h => absurd h List.not_mem_nil)
              have hF_112 : F_111 h0 = .inr (10, [.int c0, .int c1, .int c2, .int (nI t9), .int c4, .int c5]) := (hB1.2.2.2 h0 List.not_mem_nil).trans hv2a
              have hF_113 : F_111 g1 = .inr (0, [.ref r1, .int (nI z_105), .int o_106]) := (hB1.2.2.2 g1 List.not_mem_nil).trans hF_107
              generalize H1 = H at hP hS ⊢
              have hw : True := hw
              have hw_114 := hw
              refine lv_bipush (v := 58) hx hb dX10_read_174 (by decide) ?_
              refine lv_icmp_eq (tgt := 183) hx hb dX10_read_176 (by decide) (fun c_115 => ?_) (fun c_115 => ?_)
              ·
                refine lv_iconst (v := 0) hx hb dX10_read_183 (by decide) ?_
                refine lv_istore (lv' := [(5, .int 0), (4, .int s4), (0, .ref h0), (1, .ref g1), (2, .int x2), (3, .int (nI t3))]) hx hb dX10_read_184 hl (by decide) rfl (fun ls hl => ?_)
                refine lv_iload hx hb dX10_read_186 (lv_at hl 1 rfl) ?_
                refine lv_if_eq (tgt := 229) hx hb dX10_read_188 (by decide) (fun c_116 => ?_) (fun c_116 => ?_)
                ·
                  refine lv_iconst (v := 0) hx hb dX10_read_229 (by decide) ?_
                  refine lv_istore (lv' := [(4, .int 0), (5, .int 0), (0, .ref h0), (1, .ref g1), (2, .int x2), (3, .int (nI t3))]) hx hb dX10_read_230 hl (by decide) rfl (fun ls hl => ?_)
                  refine lv_goto (tgt := 275) hx hb dX10_read_232 (by decide) ?_
                  refine W.widen (k := 0) (n := 0) (by omega) (by omega) ?_
                  exact jn_31 0 F_111 (trivial) hO hR _ _ hP hD hS ls (lv_sub hl [0, 2, 3, 4, 5] rfl)
                ·
                  refine lv_iload hx hb dX10_read_191 (lv_at hl 0 rfl) ?_
                  refine lv_if_eq (tgt := 210) hx hb dX10_read_193 (by decide) (fun c_117 => ?_) (fun c_117 => absurd (by decide) c_117)
                  refine lv_aload_n hx hb dX10_read_210 rfl (lv_at hl 3 rfl) ?_
                  refine lv_aload_n hx hb dX10_read_211 rfl (lv_at hl 2 rfl) ?_
                  refine pg_get (ci := 10) (v := .int c2) (C := RX10) (T := TX10) (N := 6) hx hb hts it_10 hown hK hP hL_h0 hF_112 rfl 2 (by decide) (hts _ kt_119) (fun _ h9 => h9) rfl dX10_read_212 ?_
                  refine lv_aload_n hx hb dX10_read_215 rfl (lv_at hl 2 rfl) ?_
                  refine pg_get (ci := 10) (v := .int (nI t9)) (C := RX10) (T := TX10) (N := 6) hx hb hts it_10 hown hK hP hL_h0 hF_112 rfl 3 (by decide) (hts _ kt_149) (fun _ h9 => h9) rfl dX10_read_216 ?_
                  have hFc := pg_free hD hS hA
                  refine va_calli (va_runS (As := [.ref g1, .int c2, .int (nI t9)]) (rest := []) ⟨hx, hb, hml, hown, hts⟩ (s_X10_isHost l dC dI cs ty L H.size F_111 g1 σ r1 n1 t9 c2 hW hL_g1 hT_g1 (by omega)) ⟨callB_of 3 hts (gi kt_151) rfl rfl rfl (hts _ kt_90) (hts _ kt_152) (by decide +kernel) ⟨Nat.le_of_ble_eq_true rfl, Nat.le_of_ble_eq_true rfl⟩, (hts _ kt_153)⟩ ⟨fun a U g mk q => ⟨q.1, PT.calling q.2⟩, fun U hU hWm => ⟨rfl, PT.mk hU hWm hP hK hD hE hO⟩⟩ rfl rfl hl.1 rfl (lv_room (Nat.le_of_ble_eq_true rfl)) dX10_read_219 ⟨by show _ + 0 ≤ 0; omega, by show _ + 0 ≤ 0; omega⟩) hS (fun q _ h => hFc q h) hFc (fun r_118 u t H1 locs ht hvm hw hB hz1 hk1 hS => ?_)
                  obtain ⟨F_119, hB1⟩ := hB
                  obtain ⟨hP, hD, hO, hR⟩ := QT.back hB1 ht hFc hR (fun q h => absurd h List.not_mem_nil)
                  have hF_120 : F_119 h0 = .inr (10, [.int c0, .int c1, .int c2, .int (nI t9), .int c4, .int c5]) := (hB1.2.2.2 h0 List.not_mem_nil).trans hF_112
                  have hF_121 : F_119 g1 = .inr (0, [.ref r1, .int (nI z_105), .int o_106]) := (hB1.2.2.2 g1 List.not_mem_nil).trans hF_113
                  generalize H1 = H at hP hS ⊢
                  have hw : (r_118 = 0 ∨ r_118 = 1) := hw
                  have hw_122 := hw
                  refine lv_if_eq (tgt := 229) hx hb dX10_read_222 (by decide) (fun c_123 => ?_) (fun c_123 => ?_)
                  ·
                    refine lv_iconst (v := 0) hx hb dX10_read_229 (by decide) ?_
                    refine lv_istore (lv' := [(4, .int 0), (5, .int 0), (0, .ref h0), (1, .ref g1), (2, .int x2), (3, .int (nI t3))]) hx hb dX10_read_230 hl (by decide) rfl (fun ls hl => ?_)
                    refine lv_goto (tgt := 275) hx hb dX10_read_232 (by decide) ?_
                    refine W.widen (k := 0) (n := 0) (by omega) (by omega) ?_
                    exact jn_31 0 F_119 (trivial) hO hR _ _ hP hD hS ls (lv_sub hl [0, 2, 3, 4, 5] rfl)
                  ·
                    refine lv_iconst (v := 1) hx hb dX10_read_225 (by decide) ?_
                    refine lv_goto (tgt := 230) hx hb dX10_read_226 (by decide) ?_
                    refine lv_istore (lv' := [(4, .int 1), (5, .int 0), (0, .ref h0), (1, .ref g1), (2, .int x2), (3, .int (nI t3))]) hx hb dX10_read_230 hl (by decide) rfl (fun ls hl => ?_)
                    refine lv_goto (tgt := 275) hx hb dX10_read_232 (by decide) ?_
                    refine W.widen (k := 0) (n := 0) (by omega) (by omega) ?_
                    exact jn_31 1 F_119 (trivial) hO hR _ _ hP hD hS ls (lv_sub hl [0, 2, 3, 4, 5] rfl)
              ·
                refine lv_iconst (v := 1) hx hb dX10_read_179 (by decide) ?_
                refine lv_goto (tgt := 184) hx hb dX10_read_180 (by decide) ?_
                refine lv_istore (lv' := [(5, .int 1), (4, .int s4), (0, .ref h0), (1, .ref g1), (2, .int x2), (3, .int (nI t3))]) hx hb dX10_read_184 hl (by decide) rfl (fun ls hl => ?_)
                refine lv_iload hx hb dX10_read_186 (lv_at hl 1 rfl) ?_
                refine lv_if_eq (tgt := 229) hx hb dX10_read_188 (by decide) (fun c_124 => ?_) (fun c_124 => ?_)
                ·
                  refine lv_iconst (v := 0) hx hb dX10_read_229 (by decide) ?_
                  refine lv_istore (lv' := [(4, .int 0), (5, .int 1), (0, .ref h0), (1, .ref g1), (2, .int x2), (3, .int (nI t3))]) hx hb dX10_read_230 hl (by decide) rfl (fun ls hl => ?_)
                  refine lv_goto (tgt := 275) hx hb dX10_read_232 (by decide) ?_
                  refine W.widen (k := 0) (n := 0) (by omega) (by omega) ?_
                  exact jn_31 0 F_111 (trivial) hO hR _ _ hP hD hS ls (lv_sub hl [0, 2, 3, 4, 5] rfl)
                ·
                  refine lv_iload hx hb dX10_read_191 (lv_at hl 0 rfl) ?_
                  refine lv_if_eq (tgt := 210) hx hb dX10_read_193 (by decide) (fun c_125 => absurd c_125 (by decide)) (fun c_125 => ?_)
                  refine lv_aload_n hx hb dX10_read_196 rfl (lv_at hl 2 rfl) ?_
                  refine pg_get (ci := 10) (v := .int c2) (C := RX10) (T := TX10) (N := 6) hx hb hts it_10 hown hK hP hL_h0 hF_112 rfl 2 (by decide) (hts _ kt_119) (fun _ h9 => h9) rfl dX10_read_197 ?_
                  refine lv_aload_n hx hb dX10_read_200 rfl (lv_at hl 2 rfl) ?_
                  refine pg_get (ci := 10) (v := .int (nI t9)) (C := RX10) (T := TX10) (N := 6) hx hb hts it_10 hown hK hP hL_h0 hF_112 rfl 3 (by decide) (hts _ kt_149) (fun _ h9 => h9) rfl dX10_read_201 ?_
                  refine lv_icmp_ne (tgt := 229) hx hb dX10_read_204 (by decide) (fun c_126 => ?_) (fun c_126 => ?_)
                  ·
                    refine lv_iconst (v := 0) hx hb dX10_read_229 (by decide) ?_
                    refine lv_istore (lv' := [(4, .int 0), (5, .int 1), (0, .ref h0), (1, .ref g1), (2, .int x2), (3, .int (nI t3))]) hx hb dX10_read_230 hl (by decide) rfl (fun ls hl => ?_)
                    refine lv_goto (tgt := 275) hx hb dX10_read_232 (by decide) ?_
                    refine W.widen (k := 0) (n := 0) (by omega) (by omega) ?_
                    exact jn_31 0 F_111 (trivial) hO hR _ _ hP hD hS ls (lv_sub hl [0, 2, 3, 4, 5] rfl)
                  ·
                    refine lv_goto (tgt := 225) hx hb dX10_read_207 (by decide) ?_
                    refine lv_iconst (v := 1) hx hb dX10_read_225 (by decide) ?_
                    refine lv_goto (tgt := 230) hx hb dX10_read_226 (by decide) ?_
                    refine lv_istore (lv' := [(4, .int 1), (5, .int 1), (0, .ref h0), (1, .ref g1), (2, .int x2), (3, .int (nI t3))]) hx hb dX10_read_230 hl (by decide) rfl (fun ls hl => ?_)
                    refine lv_goto (tgt := 275) hx hb dX10_read_232 (by decide) ?_
                    refine W.widen (k := 0) (n := 0) (by omega) (by omega) ?_
                    exact jn_31 1 F_111 (trivial) hO hR _ _ hP hD hS ls (lv_sub hl [0, 2, 3, 4, 5] rfl)
        ·
          refine lv_iload hx hb dX10_read_117 (lv_at hl 0 rfl) ?_
          refine lv_if_eq (tgt := 142) hx hb dX10_read_119 (by decide) (fun c_127 => ?_) (fun c_127 => ?_)
          ·
            refine lv_iconst (v := 0) hx hb dX10_read_142 (by decide) ?_
            refine lv_istore (lv' := [(4, .int 0), (0, .ref h0), (1, .ref g1), (2, .int x2), (3, .int (nI t3))]) hx hb dX10_read_143 hl (by decide) rfl (fun ls hl => ?_)
            refine lv_goto (tgt := 275) hx hb dX10_read_145 (by decide) ?_
            refine W.widen (k := 0) (n := 0) (by omega) (by omega) ?_
            exact jn_31 0 F_29 (trivial) hO hR _ _ hP hD hS ls (lv_sub hl [0, 1, 2, 3, 4] rfl)
          ·
            refine lv_aload_n hx hb dX10_read_122 rfl (lv_at hl 1 rfl) ?_
            refine lv_aload_n hx hb dX10_read_123 rfl (lv_at hl 2 rfl) ?_
            refine lv_aload_n hx hb dX10_read_124 rfl (lv_at hl 1 rfl) ?_
            refine pg_get (ci := 10) (v := .int c2) (C := RX10) (T := TX10) (N := 6) hx hb hts it_10 hown hK hP hL_h0 hv2a rfl 2 (by decide) (hts _ kt_119) (fun _ h9 => h9) rfl dX10_read_125 ?_
            refine lv_aload_n hx hb dX10_read_128 rfl (lv_at hl 1 rfl) ?_
            refine pg_get (ci := 10) (v := .int (nI t9)) (C := RX10) (T := TX10) (N := 6) hx hb hts it_10 hown hK hP hL_h0 hv2a rfl 3 (by decide) (hts _ kt_149) (fun _ h9 => h9) rfl dX10_read_129 ?_
            have hFc := pg_free hD hS hA
            refine va_calli (va_runV (As := [.ref g1, .int c2, .int (nI t9)]) (rest := []) ⟨hx, hb, hml, hown, hts⟩ (s_X10_readQuad l dC dI cs ty L H.size F_29 h0 ρ g1 σ r1 n1 t9 c2 hW hL_h0 hT_h0 hL_g1 hT_g1 (by omega)) ⟨callB_of 3 hts (gi kt_154) rfl rfl rfl (hts _ kt_90) (hts _ kt_155) (by decide +kernel) ⟨Nat.le_of_ble_eq_true rfl, Nat.le_of_ble_eq_true rfl⟩, (hts _ kt_156), (hts _ kt_157)⟩ ⟨fun a U g mk q => ⟨q.1, PT.calling q.2⟩, pg_recv hK hP hL_h0 hv2a (q := (RX10, TX10, 6)) rfl, fun U hU hWm => ⟨rfl, PT.mk hU hWm hP hK hD hE hO⟩⟩ rfl rfl hl.1 rfl (lv_room (Nat.le_of_ble_eq_true rfl)) dX10_read_132 ⟨by show _ + 0 ≤ 0; omega, by show _ + 0 ≤ 0; omega⟩) hS (fun q _ h => hFc q h) hFc (fun r_128 u t H1 locs ht hvm hw hB hz1 hk1 hS => ?_)
            obtain ⟨F_129, hB1⟩ := hB
            obtain ⟨hP, hD, hO, hR⟩ := QT.back hB1 ht hFc hR (fun q h => by simp only [List.mem_cons, List.not_mem_nil, or_false] at h ⊢; omega)
            generalize H1 = H at hP hS ⊢
            have hw : (r_128 = 0 ∨ r_128 = 1) := hw
            have hw_130 := hw
            refine lv_if_eq (tgt := 142) hx hb dX10_read_135 (by decide) (fun c_131 => ?_) (fun c_131 => ?_)
            ·
              refine lv_iconst (v := 0) hx hb dX10_read_142 (by decide) ?_
              refine lv_istore (lv' := [(4, .int 0), (0, .ref h0), (1, .ref g1), (2, .int x2), (3, .int (nI t3))]) hx hb dX10_read_143 hl (by decide) rfl (fun ls hl => ?_)
              refine lv_goto (tgt := 275) hx hb dX10_read_145 (by decide) ?_
              refine W.widen (k := 0) (n := 0) (by omega) (by omega) ?_
              exact jn_31 0 F_129 (trivial) hO hR _ _ hP hD hS ls (lv_sub hl [0, 1, 2, 3, 4] rfl)
            ·
              refine lv_iconst (v := 1) hx hb dX10_read_138 (by decide) ?_
              refine lv_goto (tgt := 143) hx hb dX10_read_139 (by decide) ?_
              refine lv_istore (lv' := [(4, .int 1), (0, .ref h0), (1, .ref g1), (2, .int x2), (3, .int (nI t3))]) hx hb dX10_read_143 hl (by decide) rfl (fun ls hl => ?_)
              refine lv_goto (tgt := 275) hx hb dX10_read_145 (by decide) ?_
              refine W.widen (k := 0) (n := 0) (by omega) (by omega) ?_
              exact jn_31 1 F_129 (trivial) hO hR _ _ hP hD hS ls (lv_sub hl [0, 1, 2, 3, 4] rfl)
    ·
      refine lv_aload_n hx hb dX10_read_86 rfl (lv_at hl 0 rfl) ?_
      refine pg_get (ci := 10) (v := .int c4) (C := RX10) (T := TX10) (N := 6) hx hb hts it_10 hown hK hP hL_h0 hv1a rfl 4 (by decide) (hts _ kt_150) (fun _ h9 => h9) rfl dX10_read_87 ?_
      refine lv_if_lt (tgt := 106) hx hb dX10_read_90 (by decide) (fun c_132 => ?_) (fun c_132 => ?_)
      ·
        refine lv_iconst (v := 0) hx hb dX10_read_106 (by decide) ?_
        refine lv_istore (lv' := [(4, .int 0), (0, .ref h0), (1, .ref g1), (2, .int x2), (3, .int (nI t3))]) hx hb dX10_read_107 hl (by decide) rfl (fun ls hl => ?_)
        refine W.widen (k := 0) (n := 0) (by omega) (by omega) ?_
        exact jn_28 (0, c0, c1, c2, t9, c4, c5) F_26 (⟨hv1a, by omega⟩) hO hR _ _ hP hD hS ls (lv_sub hl [0, 1, 2, 3, 4] rfl)
      ·
        refine lv_aload_n hx hb dX10_read_93 rfl (lv_at hl 0 rfl) ?_
        refine pg_get (ci := 10) (v := .int c4) (C := RX10) (T := TX10) (N := 6) hx hb hts it_10 hown hK hP hL_h0 hv1a rfl 4 (by decide) (hts _ kt_150) (fun _ h9 => h9) rfl dX10_read_94 ?_
        refine lv_bipush (v := 32) hx hb dX10_read_97 (by decide) ?_
        refine lv_icmp_gt (tgt := 106) hx hb dX10_read_99 (by decide) (fun c_133 => ?_) (fun c_133 => ?_)
        ·
          refine lv_iconst (v := 0) hx hb dX10_read_106 (by decide) ?_
          refine lv_istore (lv' := [(4, .int 0), (0, .ref h0), (1, .ref g1), (2, .int x2), (3, .int (nI t3))]) hx hb dX10_read_107 hl (by decide) rfl (fun ls hl => ?_)
          refine W.widen (k := 0) (n := 0) (by omega) (by omega) ?_
          exact jn_28 (0, c0, c1, c2, t9, c4, c5) F_26 (⟨hv1a, by omega⟩) hO hR _ _ hP hD hS ls (lv_sub hl [0, 1, 2, 3, 4] rfl)
        ·
          refine lv_iconst (v := 1) hx hb dX10_read_102 (by decide) ?_
          refine lv_goto (tgt := 107) hx hb dX10_read_103 (by decide) ?_
          refine lv_istore (lv' := [(4, .int 1), (0, .ref h0), (1, .ref g1), (2, .int x2), (3, .int (nI t3))]) hx hb dX10_read_107 hl (by decide) rfl (fun ls hl => ?_)
          refine W.widen (k := 0) (n := 0) (by omega) (by omega) ?_
          exact jn_28 (1, c0, c1, c2, t9, c4, c5) F_26 (⟨hv1a, by omega⟩) hO hR _ _ hP hD hS ls (lv_sub hl [0, 1, 2, 3, 4] rfl)
  ·
    refine lv_aload_n hx hb dX10_read_18 rfl (lv_at hl 0 rfl) ?_
    refine pg_get (ci := 10) (v := .int v0_11) (C := RX10) (T := TX10) (N := 6) hx hb hts it_10 hown hK hP hL_h0 hF_24 rfl 0 (by decide) (hts _ kt_118) (fun _ h9 => h9) rfl dX10_read_19 ?_
    refine lv_iconst (v := 5) hx hb dX10_read_22 (by decide) ?_
    refine lv_icmp_eq (tgt := 42) hx hb dX10_read_23 (by decide) (fun c_134 => ?_) (fun c_134 => ?_)
    ·
      refine lv_aload_n hx hb dX10_read_42 rfl (lv_at hl 0 rfl) ?_
      refine lv_aload_n hx hb dX10_read_43 rfl (lv_at hl 1 rfl) ?_
      refine lv_bipush (v := 47) hx hb dX10_read_44 (by decide) ?_
      refine lv_aload_n hx hb dX10_read_46 rfl (lv_at hl 0 rfl) ?_
      refine pg_get (ci := 10) (v := .int v2_13) (C := RX10) (T := TX10) (N := 6) hx hb hts it_10 hown hK hP hL_h0 hF_24 rfl 2 (by decide) (hts _ kt_119) (fun _ h9 => h9) rfl dX10_read_47 ?_
      refine lv_iload_n hx hb dX10_read_50 rfl (lv_at hl 3 rfl) ?_
      have hFc := pg_free hD hS hA
      obtain ⟨hi_135, ht_136, hq_137⟩ := hW.bytes hL_g1 hT_g1
      obtain ⟨z_138, o_139, hF_140, hq_141, hq_142⟩ := hO.bytes hL_g1 hT_g1
      refine va_calli (va_runV (As := [.int 47, .int v2_13, .int (nI t3)]) (rest := [.ref h0]) ⟨hx, hb, hml, hown, hts⟩ (s_X0_find l dC dI cs ty L H.size F_22 g1 σ r1 n1 47 v2_13 (nI t3) hW hL_g1 hT_g1) ⟨callB_of 3 hts (gi kt_122) rfl rfl rfl (hts _ kt_1) (hts _ kt_123) (by decide +kernel) ⟨Nat.le_of_ble_eq_true rfl, Nat.le_of_ble_eq_true rfl⟩, (hts _ kt_124), (hts _ kt_125)⟩ ⟨fun a U g mk q => ⟨q.1, PT.calling q.2⟩, pg_recv hK hP hL_g1 hF_140 (q := (RX0, TX0, 3)) rfl, fun U hU hWm => ⟨rfl, PT.mk hU hWm hP hK hD hE hO⟩⟩ rfl rfl hl.1 rfl (lv_room (Nat.le_of_ble_eq_true rfl)) dX10_read_51 ⟨by show _ + 0 ≤ 0; omega, by show _ + 0 ≤ 0; omega⟩) hS (fun q _ h => hFc q h) hFc (fun r_143 u t H1 locs ht hvm hw hB hz1 hk1 hS => ?_)
      obtain ⟨F_144, hB1⟩ := hB
      obtain ⟨hP, hD, hO, hR⟩ := QT.back hB1 ht hFc hR (fun q h => absurd h List.not_mem_nil)
      have hF_145 : F_144 h0 = .inr (10, [.int v0_11, .int v1_12, .int v2_13, .int (nI t3), .int 32, .int v5_16]) := (hB1.2.2.2 h0 List.not_mem_nil).trans hF_24
      have hF_146 : F_144 g1 = .inr (0, [.ref r1, .int (nI z_138), .int o_139]) := (hB1.2.2.2 g1 List.not_mem_nil).trans hF_140
      generalize H1 = H at hP hS ⊢
      have hw : (r_143 = (nI t3) ∨ ∃ j : Nat, j < n1 ∧ r_143 = nI j) := hw
      have hw_147 := hw
      obtain ⟨t_148, ht_148, et_148⟩ := fnd hw_147 ht3 (by omega)
      subst et_148
      refine pg_put (ci := 10) (v := .int (nI t_148)) (ty := .int) (C := RX10) (T := TX10) (N := 6) hx hb hts it_10 tyX10 tyX10_ok nmX10 hown hK hP hD hS hL_h0 hF_145 rfl 3 (by decide) (hts _ kt_149) (fun _ h9 => h9) rfl (by decide +kernel) (rfl) (rfl) (Nat.le_of_ble_eq_true rfl) dX10_read_54 (fun H locs hP hD hS => ?_)
      obtain ⟨F_149, he_150, hP, hD, hO, hR⟩ : ∃ G, G = va_up F_144 h0 (.inr (10, [.int v0_11, .int v1_12, .int v2_13, .int (nI t_148), .int 32, .int v5_16])) ∧ va_P (dC, dI) vwCl (va_pl L G) H ∧ va_D A (va_pl L G) ∧ OK cs ty L G ∧ FR ty [ρ] F G := ⟨_, rfl, hP, hD, hO.up (sh.term hT_h0 ⟨v0_11, v1_12, v2_13, t_148, 32, v5_16, rfl, (by first | omega | assumption | exact Or.inl rfl | exact Or.inr rfl)⟩), hR.up hT_h0 (by simp)⟩
      have hF_151 : F_149 h0 = .inr (10, [.int v0_11, .int v1_12, .int v2_13, .int (nI t_148), .int 32, .int v5_16]) := by rw [he_150]; exact up_self
      have hF_152 : F_149 g1 = .inr (0, [.ref r1, .int (nI z_138), .int o_139]) := by rw [he_150, up_ne (ne_ty hT_g1 hT_h0 (by simp))]; exact hF_146
      refine lv_aload_n hx hb dX10_read_57 rfl (lv_at hl 0 rfl) ?_
      refine lv_aload_n hx hb dX10_read_58 rfl (lv_at hl 0 rfl) ?_
      refine pg_get (ci := 10) (v := .int (nI t_148)) (C := RX10) (T := TX10) (N := 6) hx hb hts it_10 hown hK hP hL_h0 hF_151 rfl 3 (by decide) (hts _ kt_149) (fun _ h9 => h9) rfl dX10_read_59 ?_
      refine lv_iload_n hx hb dX10_read_62 rfl (lv_at hl 3 rfl) ?_
      refine lv_icmp_ne (tgt := 71) hx hb dX10_read_63 (by decide) (fun c_153 => ?_) (fun c_153 => ?_)
      ·
        refine lv_aload_n hx hb dX10_read_71 rfl (lv_at hl 1 rfl) ?_
        refine lv_aload_n hx hb dX10_read_72 rfl (lv_at hl 0 rfl) ?_
        refine pg_get (ci := 10) (v := .int (nI t_148)) (C := RX10) (T := TX10) (N := 6) hx hb hts it_10 hown hK hP hL_h0 hF_151 rfl 3 (by decide) (hts _ kt_149) (fun _ h9 => h9) rfl dX10_read_73 ?_
        refine lv_iconst (v := 1) hx hb dX10_read_76 (by decide) ?_
        refine lv_iadd hx hb dX10_read_77 ?_
        refine lv_topi (fun x_155 _ => ?_)
        refine lv_iload_n hx hb dX10_read_78 rfl (lv_at hl 3 rfl) ?_
        refine lv_iconst (v := 2) hx hb dX10_read_79 (by decide) ?_
        have hFc := pg_free hD hS hA
        refine va_calli (va_runS (As := [.ref g1, .int x_155, .int (nI t3), .int 2]) (rest := [.ref h0]) ⟨hx, hb, hml, hown, hts⟩ (s_X10_numberOf l dC dI cs ty L H.size F_149 g1 σ r1 n1 x_155 (nI t3) 2 hW hL_g1 hT_g1) ⟨callB_of 4 hts (gi kt_132) rfl rfl rfl (hts _ kt_90) (hts _ kt_133) (by decide +kernel) ⟨Nat.le_of_ble_eq_true rfl, Nat.le_of_ble_eq_true rfl⟩, (hts _ kt_134)⟩ ⟨fun a U g mk q => ⟨q.1, PT.calling q.2⟩, fun U hU hWm => ⟨rfl, PT.mk hU hWm hP hK hD hE hO⟩⟩ rfl rfl hl.1 rfl (lv_room (Nat.le_of_ble_eq_true rfl)) dX10_read_80 ⟨by show _ + 0 ≤ 0; omega, by show _ + 0 ≤ 0; omega⟩) hS (fun q _ h => hFc q h) hFc (fun r_156 u t H1 locs ht hvm hw hB hz1 hk1 hS => ?_)
        obtain ⟨F_157, hB1⟩ := hB
        obtain ⟨hP, hD, hO, hR⟩ := QT.back hB1 ht hFc hR (fun q h => absurd h List.not_mem_nil)
        have hF_158 : F_157 h0 = .inr (10, [.int v0_11, .int v1_12, .int v2_13, .int (nI t_148), .int 32, .int v5_16]) := (hB1.2.2.2 h0 List.not_mem_nil).trans hF_151
        have hF_159 : F_157 g1 = .inr (0, [.ref r1, .int (nI z_138), .int o_139]) := (hB1.2.2.2 g1 List.not_mem_nil).trans hF_152
        generalize H1 = H at hP hS ⊢
        have hw : True := hw
        have hw_160 := hw
        refine pg_put (ci := 10) (v := .int r_156) (ty := .int) (C := RX10) (T := TX10) (N := 6) hx hb hts it_10 tyX10 tyX10_ok nmX10 hown hK hP hD hS hL_h0 hF_158 rfl 4 (by decide) (hts _ kt_150) (fun _ h9 => h9) rfl (by decide +kernel) (rfl) (rfl) (Nat.le_of_ble_eq_true rfl) dX10_read_83 (fun H locs hP hD hS => ?_)
        obtain ⟨F_161, he_162, hP, hD, hO, hR⟩ : ∃ G, G = va_up F_157 h0 (.inr (10, [.int v0_11, .int v1_12, .int v2_13, .int (nI t_148), .int r_156, .int v5_16])) ∧ va_P (dC, dI) vwCl (va_pl L G) H ∧ va_D A (va_pl L G) ∧ OK cs ty L G ∧ FR ty [ρ] F G := ⟨_, rfl, hP, hD, hO.up (sh.term hT_h0 ⟨v0_11, v1_12, v2_13, t_148, r_156, v5_16, rfl, (by first | omega | assumption | exact Or.inl rfl | exact Or.inr rfl)⟩), hR.up hT_h0 (by simp)⟩
        have hF_163 : F_161 h0 = .inr (10, [.int v0_11, .int v1_12, .int v2_13, .int (nI t_148), .int r_156, .int v5_16]) := by rw [he_162]; exact up_self
        have hF_164 : F_161 g1 = .inr (0, [.ref r1, .int (nI z_138), .int o_139]) := by rw [he_162, up_ne (ne_ty hT_g1 hT_h0 (by simp))]; exact hF_159
        refine W.widen (k := 0) (n := 0) (by omega) (by omega) ?_
        exact jn_25 (v0_11, v1_12, v2_13, t_148, r_156, v5_16) F_161 (⟨hF_163, by omega⟩) hO hR _ _ hP hD hS ls (lv_sub hl [0, 1, 2, 3] rfl)
      ·
        refine lv_bipush (v := 32) hx hb dX10_read_66 (by decide) ?_
        refine lv_goto (tgt := 83) hx hb dX10_read_68 (by decide) ?_
        refine pg_put (ci := 10) (v := .int 32) (ty := .int) (C := RX10) (T := TX10) (N := 6) hx hb hts it_10 tyX10 tyX10_ok nmX10 hown hK hP hD hS hL_h0 hF_151 rfl 4 (by decide) (hts _ kt_150) (fun _ h9 => h9) rfl (by decide +kernel) (rfl) (rfl) (Nat.le_of_ble_eq_true rfl) dX10_read_83 (fun H locs hP hD hS => ?_)
        obtain ⟨F_166, he_167, hP, hD, hO, hR⟩ : ∃ G, G = va_up F_149 h0 (.inr (10, [.int v0_11, .int v1_12, .int v2_13, .int (nI t_148), .int 32, .int v5_16])) ∧ va_P (dC, dI) vwCl (va_pl L G) H ∧ va_D A (va_pl L G) ∧ OK cs ty L G ∧ FR ty [ρ] F G := ⟨_, rfl, hP, hD, hO.up (sh.term hT_h0 ⟨v0_11, v1_12, v2_13, t_148, 32, v5_16, rfl, (by first | omega | assumption | exact Or.inl rfl | exact Or.inr rfl)⟩), hR.up hT_h0 (by simp)⟩
        have hF_168 : F_166 h0 = .inr (10, [.int v0_11, .int v1_12, .int v2_13, .int (nI t_148), .int 32, .int v5_16]) := by rw [he_167]; exact up_self
        have hF_169 : F_166 g1 = .inr (0, [.ref r1, .int (nI z_138), .int o_139]) := by rw [he_167, up_ne (ne_ty hT_g1 hT_h0 (by simp))]; exact hF_152
        refine W.widen (k := 0) (n := 0) (by omega) (by omega) ?_
        exact jn_25 (v0_11, v1_12, v2_13, t_148, 32, v5_16) F_166 (⟨hF_168, by omega⟩) hO hR _ _ hP hD hS ls (lv_sub hl [0, 1, 2, 3] rfl)
    ·
      refine lv_aload_n hx hb dX10_read_26 rfl (lv_at hl 0 rfl) ?_
      refine pg_get (ci := 10) (v := .int v0_11) (C := RX10) (T := TX10) (N := 6) hx hb hts it_10 hown hK hP hL_h0 hF_24 rfl 0 (by decide) (hts _ kt_118) (fun _ h9 => h9) rfl dX10_read_27 ?_
      refine lv_iconst (v := 3) hx hb dX10_read_30 (by decide) ?_
      refine lv_icmp_eq (tgt := 42) hx hb dX10_read_31 (by decide) (fun c_170 => ?_) (fun c_170 => ?_)
      ·
        refine lv_aload_n hx hb dX10_read_42 rfl (lv_at hl 0 rfl) ?_
        refine lv_aload_n hx hb dX10_read_43 rfl (lv_at hl 1 rfl) ?_
        refine lv_bipush (v := 47) hx hb dX10_read_44 (by decide) ?_
        refine lv_aload_n hx hb dX10_read_46 rfl (lv_at hl 0 rfl) ?_
        refine pg_get (ci := 10) (v := .int v2_13) (C := RX10) (T := TX10) (N := 6) hx hb hts it_10 hown hK hP hL_h0 hF_24 rfl 2 (by decide) (hts _ kt_119) (fun _ h9 => h9) rfl dX10_read_47 ?_
        refine lv_iload_n hx hb dX10_read_50 rfl (lv_at hl 3 rfl) ?_
        have hFc := pg_free hD hS hA
        obtain ⟨hi_171, ht_172, hq_173⟩ := hW.bytes hL_g1 hT_g1
        obtain ⟨z_174, o_175, hF_176, hq_177, hq_178⟩ := hO.bytes hL_g1 hT_g1
        refine va_calli (va_runV (As := [.int 47, .int v2_13, .int (nI t3)]) (rest := [.ref h0]) ⟨hx, hb, hml, hown, hts⟩ (s_X0_find l dC dI cs ty L H.size F_22 g1 σ r1 n1 47 v2_13 (nI t3) hW hL_g1 hT_g1) ⟨callB_of 3 hts (gi kt_122) rfl rfl rfl (hts _ kt_1) (hts _ kt_123) (by decide +kernel) ⟨Nat.le_of_ble_eq_true rfl, Nat.le_of_ble_eq_true rfl⟩, (hts _ kt_124), (hts _ kt_125)⟩ ⟨fun a U g mk q => ⟨q.1, PT.calling q.2⟩, pg_recv hK hP hL_g1 hF_176 (q := (RX0, TX0, 3)) rfl, fun U hU hWm => ⟨rfl, PT.mk hU hWm hP hK hD hE hO⟩⟩ rfl rfl hl.1 rfl (lv_room (Nat.le_of_ble_eq_true rfl)) dX10_read_51 ⟨by show _ + 0 ≤ 0; omega, by show _ + 0 ≤ 0; omega⟩) hS (fun q _ h => hFc q h) hFc (fun r_179 u t H1 locs ht hvm hw hB hz1 hk1 hS => ?_)
        obtain ⟨F_180, hB1⟩ := hB
        obtain ⟨hP, hD, hO, hR⟩ := QT.back hB1 ht hFc hR (fun q h => absurd h List.not_mem_nil)
        have hF_181 : F_180 h0 = .inr (10, [.int v0_11, .int v1_12, .int v2_13, .int (nI t3), .int 32, .int v5_16]) := (hB1.2.2.2 h0 List.not_mem_nil).trans hF_24
        have hF_182 : F_180 g1 = .inr (0, [.ref r1, .int (nI z_174), .int o_175]) := (hB1.2.2.2 g1 List.not_mem_nil).trans hF_176
        generalize H1 = H at hP hS ⊢
        have hw : (r_179 = (nI t3) ∨ ∃ j : Nat, j < n1 ∧ r_179 = nI j) := hw
        have hw_183 := hw
        obtain ⟨t_184, ht_184, et_184⟩ := fnd hw_183 ht3 (by omega)
        subst et_184
        refine pg_put (ci := 10) (v := .int (nI t_184)) (ty := .int) (C := RX10) (T := TX10) (N := 6) hx hb hts it_10 tyX10 tyX10_ok nmX10 hown hK hP hD hS hL_h0 hF_181 rfl 3 (by decide) (hts _ kt_149) (fun _ h9 => h9) rfl (by decide +kernel) (rfl) (rfl) (Nat.le_of_ble_eq_true rfl) dX10_read_54 (fun H locs hP hD hS => ?_)
        obtain ⟨F_185, he_186, hP, hD, hO, hR⟩ : ∃ G, G = va_up F_180 h0 (.inr (10, [.int v0_11, .int v1_12, .int v2_13, .int (nI t_184), .int 32, .int v5_16])) ∧ va_P (dC, dI) vwCl (va_pl L G) H ∧ va_D A (va_pl L G) ∧ OK cs ty L G ∧ FR ty [ρ] F G := ⟨_, rfl, hP, hD, hO.up (sh.term hT_h0 ⟨v0_11, v1_12, v2_13, t_184, 32, v5_16, rfl, (by first | omega | assumption | exact Or.inl rfl | exact Or.inr rfl)⟩), hR.up hT_h0 (by simp)⟩
        have hF_187 : F_185 h0 = .inr (10, [.int v0_11, .int v1_12, .int v2_13, .int (nI t_184), .int 32, .int v5_16]) := by rw [he_186]; exact up_self
        have hF_188 : F_185 g1 = .inr (0, [.ref r1, .int (nI z_174), .int o_175]) := by rw [he_186, up_ne (ne_ty hT_g1 hT_h0 (by simp))]; exact hF_182
        refine lv_aload_n hx hb dX10_read_57 rfl (lv_at hl 0 rfl) ?_
        refine lv_aload_n hx hb dX10_read_58 rfl (lv_at hl 0 rfl) ?_
        refine pg_get (ci := 10) (v := .int (nI t_184)) (C := RX10) (T := TX10) (N := 6) hx hb hts it_10 hown hK hP hL_h0 hF_187 rfl 3 (by decide) (hts _ kt_149) (fun _ h9 => h9) rfl dX10_read_59 ?_
        refine lv_iload_n hx hb dX10_read_62 rfl (lv_at hl 3 rfl) ?_
        refine lv_icmp_ne (tgt := 71) hx hb dX10_read_63 (by decide) (fun c_189 => ?_) (fun c_189 => ?_)
        ·
          refine lv_aload_n hx hb dX10_read_71 rfl (lv_at hl 1 rfl) ?_
          refine lv_aload_n hx hb dX10_read_72 rfl (lv_at hl 0 rfl) ?_
          refine pg_get (ci := 10) (v := .int (nI t_184)) (C := RX10) (T := TX10) (N := 6) hx hb hts it_10 hown hK hP hL_h0 hF_187 rfl 3 (by decide) (hts _ kt_149) (fun _ h9 => h9) rfl dX10_read_73 ?_
          refine lv_iconst (v := 1) hx hb dX10_read_76 (by decide) ?_
          refine lv_iadd hx hb dX10_read_77 ?_
          refine lv_topi (fun x_191 _ => ?_)
          refine lv_iload_n hx hb dX10_read_78 rfl (lv_at hl 3 rfl) ?_
          refine lv_iconst (v := 2) hx hb dX10_read_79 (by decide) ?_
          have hFc := pg_free hD hS hA
          refine va_calli (va_runS (As := [.ref g1, .int x_191, .int (nI t3), .int 2]) (rest := [.ref h0]) ⟨hx, hb, hml, hown, hts⟩ (s_X10_numberOf l dC dI cs ty L H.size F_185 g1 σ r1 n1 x_191 (nI t3) 2 hW hL_g1 hT_g1) ⟨callB_of 4 hts (gi kt_132) rfl rfl rfl (hts _ kt_90) (hts _ kt_133) (by decide +kernel) ⟨Nat.le_of_ble_eq_true rfl, Nat.le_of_ble_eq_true rfl⟩, (hts _ kt_134)⟩ ⟨fun a U g mk q => ⟨q.1, PT.calling q.2⟩, fun U hU hWm => ⟨rfl, PT.mk hU hWm hP hK hD hE hO⟩⟩ rfl rfl hl.1 rfl (lv_room (Nat.le_of_ble_eq_true rfl)) dX10_read_80 ⟨by show _ + 0 ≤ 0; omega, by show _ + 0 ≤ 0; omega⟩) hS (fun q _ h => hFc q h) hFc (fun r_192 u t H1 locs ht hvm hw hB hz1 hk1 hS => ?_)
          obtain ⟨F_193, hB1⟩ := hB
          obtain ⟨hP, hD, hO, hR⟩ := QT.back hB1 ht hFc hR (fun q h => absurd h List.not_mem_nil)
          have hF_194 : F_193 h0 = .inr (10, [.int v0_11, .int v1_12, .int v2_13, .int (nI t_184), .int 32, .int v5_16]) := (hB1.2.2.2 h0 List.not_mem_nil).trans hF_187
          have hF_195 : F_193 g1 = .inr (0, [.ref r1, .int (nI z_174), .int o_175]) := (hB1.2.2.2 g1 List.not_mem_nil).trans hF_188
          generalize H1 = H at hP hS ⊢
          have hw : True := hw
          have hw_196 := hw
          refine pg_put (ci := 10) (v := .int r_192) (ty := .int) (C := RX10) (T := TX10) (N := 6) hx hb hts it_10 tyX10 tyX10_ok nmX10 hown hK hP hD hS hL_h0 hF_194 rfl 4 (by decide) (hts _ kt_150) (fun _ h9 => h9) rfl (by decide +kernel) (rfl) (rfl) (Nat.le_of_ble_eq_true rfl) dX10_read_83 (fun H locs hP hD hS => ?_)
          obtain ⟨F_197, he_198, hP, hD, hO, hR⟩ : ∃ G, G = va_up F_193 h0 (.inr (10, [.int v0_11, .int v1_12, .int v2_13, .int (nI t_184), .int r_192, .int v5_16])) ∧ va_P (dC, dI) vwCl (va_pl L G) H ∧ va_D A (va_pl L G) ∧ OK cs ty L G ∧ FR ty [ρ] F G := ⟨_, rfl, hP, hD, hO.up (sh.term hT_h0 ⟨v0_11, v1_12, v2_13, t_184, r_192, v5_16, rfl, (by first | omega | assumption | exact Or.inl rfl | exact Or.inr rfl)⟩), hR.up hT_h0 (by simp)⟩
          have hF_199 : F_197 h0 = .inr (10, [.int v0_11, .int v1_12, .int v2_13, .int (nI t_184), .int r_192, .int v5_16]) := by rw [he_198]; exact up_self
          have hF_200 : F_197 g1 = .inr (0, [.ref r1, .int (nI z_174), .int o_175]) := by rw [he_198, up_ne (ne_ty hT_g1 hT_h0 (by simp))]; exact hF_195
          refine W.widen (k := 0) (n := 0) (by omega) (by omega) ?_
          exact jn_25 (v0_11, v1_12, v2_13, t_184, r_192, v5_16) F_197 (⟨hF_199, by omega⟩) hO hR _ _ hP hD hS ls (lv_sub hl [0, 1, 2, 3] rfl)
        ·
          refine lv_bipush (v := 32) hx hb dX10_read_66 (by decide) ?_
          refine lv_goto (tgt := 83) hx hb dX10_read_68 (by decide) ?_
          refine pg_put (ci := 10) (v := .int 32) (ty := .int) (C := RX10) (T := TX10) (N := 6) hx hb hts it_10 tyX10 tyX10_ok nmX10 hown hK hP hD hS hL_h0 hF_187 rfl 4 (by decide) (hts _ kt_150) (fun _ h9 => h9) rfl (by decide +kernel) (rfl) (rfl) (Nat.le_of_ble_eq_true rfl) dX10_read_83 (fun H locs hP hD hS => ?_)
          obtain ⟨F_202, he_203, hP, hD, hO, hR⟩ : ∃ G, G = va_up F_185 h0 (.inr (10, [.int v0_11, .int v1_12, .int v2_13, .int (nI t_184), .int 32, .int v5_16])) ∧ va_P (dC, dI) vwCl (va_pl L G) H ∧ va_D A (va_pl L G) ∧ OK cs ty L G ∧ FR ty [ρ] F G := ⟨_, rfl, hP, hD, hO.up (sh.term hT_h0 ⟨v0_11, v1_12, v2_13, t_184, 32, v5_16, rfl, (by first | omega | assumption | exact Or.inl rfl | exact Or.inr rfl)⟩), hR.up hT_h0 (by simp)⟩
          have hF_204 : F_202 h0 = .inr (10, [.int v0_11, .int v1_12, .int v2_13, .int (nI t_184), .int 32, .int v5_16]) := by rw [he_203]; exact up_self
          have hF_205 : F_202 g1 = .inr (0, [.ref r1, .int (nI z_174), .int o_175]) := by rw [he_203, up_ne (ne_ty hT_g1 hT_h0 (by simp))]; exact hF_188
          refine W.widen (k := 0) (n := 0) (by omega) (by omega) ?_
          exact jn_25 (v0_11, v1_12, v2_13, t_184, 32, v5_16) F_202 (⟨hF_204, by omega⟩) hO hR _ _ hP hD hS ls (lv_sub hl [0, 1, 2, 3] rfl)
      ·
        refine lv_aload_n hx hb dX10_read_34 rfl (lv_at hl 0 rfl) ?_
        refine pg_get (ci := 10) (v := .int v0_11) (C := RX10) (T := TX10) (N := 6) hx hb hts it_10 hown hK hP hL_h0 hF_24 rfl 0 (by decide) (hts _ kt_118) (fun _ h9 => h9) rfl dX10_read_35 ?_
        refine lv_iconst (v := 4) hx hb dX10_read_38 (by decide) ?_
        refine lv_icmp_ne (tgt := 86) hx hb dX10_read_39 (by decide) (fun c_206 => ?_) (fun c_206 => ?_)
        ·
          refine W.widen (k := 0) (n := 0) (by omega) (by omega) ?_
          exact jn_25 (v0_11, v1_12, v2_13, t3, 32, v5_16) F_22 (⟨hF_24, by omega⟩) hO hR _ _ hP hD hS ls (lv_sub hl [0, 1, 2, 3] rfl)
        ·
          refine lv_aload_n hx hb dX10_read_42 rfl (lv_at hl 0 rfl) ?_
          refine lv_aload_n hx hb dX10_read_43 rfl (lv_at hl 1 rfl) ?_
          refine lv_bipush (v := 47) hx hb dX10_read_44 (by decide) ?_
          refine lv_aload_n hx hb dX10_read_46 rfl (lv_at hl 0 rfl) ?_
          refine pg_get (ci := 10) (v := .int v2_13) (C := RX10) (T := TX10) (N := 6) hx hb hts it_10 hown hK hP hL_h0 hF_24 rfl 2 (by decide) (hts _ kt_119) (fun _ h9 => h9) rfl dX10_read_47 ?_
          refine lv_iload_n hx hb dX10_read_50 rfl (lv_at hl 3 rfl) ?_
          have hFc := pg_free hD hS hA
          obtain ⟨hi_207, ht_208, hq_209⟩ := hW.bytes hL_g1 hT_g1
          obtain ⟨z_210, o_211, hF_212, hq_213, hq_214⟩ := hO.bytes hL_g1 hT_g1
          refine va_calli (va_runV (As := [.int 47, .int v2_13, .int (nI t3)]) (rest := [.ref h0]) ⟨hx, hb, hml, hown, hts⟩ (s_X0_find l dC dI cs ty L H.size F_22 g1 σ r1 n1 47 v2_13 (nI t3) hW hL_g1 hT_g1) ⟨callB_of 3 hts (gi kt_122) rfl rfl rfl (hts _ kt_1) (hts _ kt_123) (by decide +kernel) ⟨Nat.le_of_ble_eq_true rfl, Nat.le_of_ble_eq_true rfl⟩, (hts _ kt_124), (hts _ kt_125)⟩ ⟨fun a U g mk q => ⟨q.1, PT.calling q.2⟩, pg_recv hK hP hL_g1 hF_212 (q := (RX0, TX0, 3)) rfl, fun U hU hWm => ⟨rfl, PT.mk hU hWm hP hK hD hE hO⟩⟩ rfl rfl hl.1 rfl (lv_room (Nat.le_of_ble_eq_true rfl)) dX10_read_51 ⟨by show _ + 0 ≤ 0; omega, by show _ + 0 ≤ 0; omega⟩) hS (fun q _ h => hFc q h) hFc (fun r_215 u t H1 locs ht hvm hw hB hz1 hk1 hS => ?_)
          obtain ⟨F_216, hB1⟩ := hB
          obtain ⟨hP, hD, hO, hR⟩ := QT.back hB1 ht hFc hR (fun q h => absurd h List.not_mem_nil)
          have hF_217 : F_216 h0 = .inr (10, [.int v0_11, .int v1_12, .int v2_13, .int (nI t3), .int 32, .int v5_16]) := (hB1.2.2.2 h0 List.not_mem_nil).trans hF_24
          have hF_218 : F_216 g1 = .inr (0, [.ref r1, .int (nI z_210), .int o_211]) := (hB1.2.2.2 g1 List.not_mem_nil).trans hF_212
          generalize H1 = H at hP hS ⊢
          have hw : (r_215 = (nI t3) ∨ ∃ j : Nat, j < n1 ∧ r_215 = nI j) := hw
          have hw_219 := hw
          obtain ⟨t_220, ht_220, et_220⟩ := fnd hw_219 ht3 (by omega)
          subst et_220
          refine pg_put (ci := 10) (v := .int (nI t_220)) (ty := .int) (C := RX10) (T := TX10) (N := 6) hx hb hts it_10 tyX10 tyX10_ok nmX10 hown hK hP hD hS hL_h0 hF_217 rfl 3 (by decide) (hts _ kt_149) (fun _ h9 => h9) rfl (by decide +kernel) (rfl) (rfl) (Nat.le_of_ble_eq_true rfl) dX10_read_54 (fun H locs hP hD hS => ?_)
          obtain ⟨F_221, he_222, hP, hD, hO, hR⟩ : ∃ G, G = va_up F_216 h0 (.inr (10, [.int v0_11, .int v1_12, .int v2_13, .int (nI t_220), .int 32, .int v5_16])) ∧ va_P (dC, dI) vwCl (va_pl L G) H ∧ va_D A (va_pl L G) ∧ OK cs ty L G ∧ FR ty [ρ] F G := ⟨_, rfl, hP, hD, hO.up (sh.term hT_h0 ⟨v0_11, v1_12, v2_13, t_220, 32, v5_16, rfl, (by first | omega | assumption | exact Or.inl rfl | exact Or.inr rfl)⟩), hR.up hT_h0 (by simp)⟩
          have hF_223 : F_221 h0 = .inr (10, [.int v0_11, .int v1_12, .int v2_13, .int (nI t_220), .int 32, .int v5_16]) := by rw [he_222]; exact up_self
          have hF_224 : F_221 g1 = .inr (0, [.ref r1, .int (nI z_210), .int o_211]) := by rw [he_222, up_ne (ne_ty hT_g1 hT_h0 (by simp))]; exact hF_218
          refine lv_aload_n hx hb dX10_read_57 rfl (lv_at hl 0 rfl) ?_
          refine lv_aload_n hx hb dX10_read_58 rfl (lv_at hl 0 rfl) ?_
          refine pg_get (ci := 10) (v := .int (nI t_220)) (C := RX10) (T := TX10) (N := 6) hx hb hts it_10 hown hK hP hL_h0 hF_223 rfl 3 (by decide) (hts _ kt_149) (fun _ h9 => h9) rfl dX10_read_59 ?_
          refine lv_iload_n hx hb dX10_read_62 rfl (lv_at hl 3 rfl) ?_
          refine lv_icmp_ne (tgt := 71) hx hb dX10_read_63 (by decide) (fun c_225 => ?_) (fun c_225 => ?_)
          ·
            refine lv_aload_n hx hb dX10_read_71 rfl (lv_at hl 1 rfl) ?_
            refine lv_aload_n hx hb dX10_read_72 rfl (lv_at hl 0 rfl) ?_
            refine pg_get (ci := 10) (v := .int (nI t_220)) (C := RX10) (T := TX10) (N := 6) hx hb hts it_10 hown hK hP hL_h0 hF_223 rfl 3 (by decide) (hts _ kt_149) (fun _ h9 => h9) rfl dX10_read_73 ?_
            refine lv_iconst (v := 1) hx hb dX10_read_76 (by decide) ?_
            refine lv_iadd hx hb dX10_read_77 ?_
            refine lv_topi (fun x_227 _ => ?_)
            refine lv_iload_n hx hb dX10_read_78 rfl (lv_at hl 3 rfl) ?_
            refine lv_iconst (v := 2) hx hb dX10_read_79 (by decide) ?_
            have hFc := pg_free hD hS hA
            refine va_calli (va_runS (As := [.ref g1, .int x_227, .int (nI t3), .int 2]) (rest := [.ref h0]) ⟨hx, hb, hml, hown, hts⟩ (s_X10_numberOf l dC dI cs ty L H.size F_221 g1 σ r1 n1 x_227 (nI t3) 2 hW hL_g1 hT_g1) ⟨callB_of 4 hts (gi kt_132) rfl rfl rfl (hts _ kt_90) (hts _ kt_133) (by decide +kernel) ⟨Nat.le_of_ble_eq_true rfl, Nat.le_of_ble_eq_true rfl⟩, (hts _ kt_134)⟩ ⟨fun a U g mk q => ⟨q.1, PT.calling q.2⟩, fun U hU hWm => ⟨rfl, PT.mk hU hWm hP hK hD hE hO⟩⟩ rfl rfl hl.1 rfl (lv_room (Nat.le_of_ble_eq_true rfl)) dX10_read_80 ⟨by show _ + 0 ≤ 0; omega, by show _ + 0 ≤ 0; omega⟩) hS (fun q _ h => hFc q h) hFc (fun r_228 u t H1 locs ht hvm hw hB hz1 hk1 hS => ?_)
            obtain ⟨F_229, hB1⟩ := hB
            obtain ⟨hP, hD, hO, hR⟩ := QT.back hB1 ht hFc hR (fun q h => absurd h List.not_mem_nil)
            have hF_230 : F_229 h0 = .inr (10, [.int v0_11, .int v1_12, .int v2_13, .int (nI t_220), .int 32, .int v5_16]) := (hB1.2.2.2 h0 List.not_mem_nil).trans hF_223
            have hF_231 : F_229 g1 = .inr (0, [.ref r1, .int (nI z_210), .int o_211]) := (hB1.2.2.2 g1 List.not_mem_nil).trans hF_224
            generalize H1 = H at hP hS ⊢
            have hw : True := hw
            have hw_232 := hw
            refine pg_put (ci := 10) (v := .int r_228) (ty := .int) (C := RX10) (T := TX10) (N := 6) hx hb hts it_10 tyX10 tyX10_ok nmX10 hown hK hP hD hS hL_h0 hF_230 rfl 4 (by decide) (hts _ kt_150) (fun _ h9 => h9) rfl (by decide +kernel) (rfl) (rfl) (Nat.le_of_ble_eq_true rfl) dX10_read_83 (fun H locs hP hD hS => ?_)
            obtain ⟨F_233, he_234, hP, hD, hO, hR⟩ : ∃ G, G = va_up F_229 h0 (.inr (10, [.int v0_11, .int v1_12, .int v2_13, .int (nI t_220), .int r_228, .int v5_16])) ∧ va_P (dC, dI) vwCl (va_pl L G) H ∧ va_D A (va_pl L G) ∧ OK cs ty L G ∧ FR ty [ρ] F G := ⟨_, rfl, hP, hD, hO.up (sh.term hT_h0 ⟨v0_11, v1_12, v2_13, t_220, r_228, v5_16, rfl, (by first | omega | assumption | exact Or.inl rfl | exact Or.inr rfl)⟩), hR.up hT_h0 (by simp)⟩
            have hF_235 : F_233 h0 = .inr (10, [.int v0_11, .int v1_12, .int v2_13, .int (nI t_220), .int r_228, .int v5_16]) := by rw [he_234]; exact up_self
            have hF_236 : F_233 g1 = .inr (0, [.ref r1, .int (nI z_210), .int o_211]) := by rw [he_234, up_ne (ne_ty hT_g1 hT_h0 (by simp))]; exact hF_231
            refine W.widen (k := 0) (n := 0) (by omega) (by omega) ?_
            exact jn_25 (v0_11, v1_12, v2_13, t_220, r_228, v5_16) F_233 (⟨hF_235, by omega⟩) hO hR _ _ hP hD hS ls (lv_sub hl [0, 1, 2, 3] rfl)
          ·
            refine lv_bipush (v := 32) hx hb dX10_read_66 (by decide) ?_
            refine lv_goto (tgt := 83) hx hb dX10_read_68 (by decide) ?_
            refine pg_put (ci := 10) (v := .int 32) (ty := .int) (C := RX10) (T := TX10) (N := 6) hx hb hts it_10 tyX10 tyX10_ok nmX10 hown hK hP hD hS hL_h0 hF_223 rfl 4 (by decide) (hts _ kt_150) (fun _ h9 => h9) rfl (by decide +kernel) (rfl) (rfl) (Nat.le_of_ble_eq_true rfl) dX10_read_83 (fun H locs hP hD hS => ?_)
            obtain ⟨F_238, he_239, hP, hD, hO, hR⟩ : ∃ G, G = va_up F_221 h0 (.inr (10, [.int v0_11, .int v1_12, .int v2_13, .int (nI t_220), .int 32, .int v5_16])) ∧ va_P (dC, dI) vwCl (va_pl L G) H ∧ va_D A (va_pl L G) ∧ OK cs ty L G ∧ FR ty [ρ] F G := ⟨_, rfl, hP, hD, hO.up (sh.term hT_h0 ⟨v0_11, v1_12, v2_13, t_220, 32, v5_16, rfl, (by first | omega | assumption | exact Or.inl rfl | exact Or.inr rfl)⟩), hR.up hT_h0 (by simp)⟩
            have hF_240 : F_238 h0 = .inr (10, [.int v0_11, .int v1_12, .int v2_13, .int (nI t_220), .int 32, .int v5_16]) := by rw [he_239]; exact up_self
            have hF_241 : F_238 g1 = .inr (0, [.ref r1, .int (nI z_210), .int o_211]) := by rw [he_239, up_ne (ne_ty hT_g1 hT_h0 (by simp))]; exact hF_224
            refine W.widen (k := 0) (n := 0) (by omega) (by omega) ?_
            exact jn_25 (v0_11, v1_12, v2_13, t_220, 32, v5_16) F_238 (⟨hF_240, by omega⟩) hO hR _ _ hP hD hS ls (lv_sub hl [0, 1, 2, 3] rfl)
