theorem dX10_read_0 : decode cX10_read 0 = .ok (.aload_n 0, 1) := by decide +kernel
theorem dX10_read_1 : decode cX10_read 1 = .ok (.aload_n 1, 1) := by decide +kernel
theorem dX10_read_2 : decode cX10_read 2 = .ok (.iload_n 2, 1) := by decide +kernel
theorem dX10_read_3 : decode cX10_read 3 = .ok (.iload_n 3, 1) := by decide +kernel
theorem dX10_read_4 : decode cX10_read 4 = .ok (.invokevirtual 28, 3) := by decide +kernel
theorem dX10_read_7 : decode cX10_read 7 = .ok (.aload_n 0, 1) := by decide +kernel
theorem dX10_read_8 : decode cX10_read 8 = .ok (.iload_n 3, 1) := by decide +kernel
theorem dX10_read_9 : decode cX10_read 9 = .ok (.putfield 19, 3) := by decide +kernel
theorem dX10_read_12 : decode cX10_read 12 = .ok (.aload_n 0, 1) := by decide +kernel
theorem dX10_read_13 : decode cX10_read 13 = .ok (.bipush 32, 2) := by decide +kernel
theorem dX10_read_15 : decode cX10_read 15 = .ok (.putfield 22, 3) := by decide +kernel
theorem dX10_read_18 : decode cX10_read 18 = .ok (.aload_n 0, 1) := by decide +kernel
theorem dX10_read_19 : decode cX10_read 19 = .ok (.getfield 9, 3) := by decide +kernel
theorem dX10_read_22 : decode cX10_read 22 = .ok (.iconst 5, 1) := by decide +kernel
theorem dX10_read_23 : decode cX10_read 23 = .ok (.if_icmp .eq 19, 3) := by decide +kernel
theorem dX10_read_26 : decode cX10_read 26 = .ok (.aload_n 0, 1) := by decide +kernel
theorem dX10_read_27 : decode cX10_read 27 = .ok (.getfield 9, 3) := by decide +kernel
theorem dX10_read_30 : decode cX10_read 30 = .ok (.iconst 3, 1) := by decide +kernel
theorem dX10_read_31 : decode cX10_read 31 = .ok (.if_icmp .eq 11, 3) := by decide +kernel
theorem dX10_read_34 : decode cX10_read 34 = .ok (.aload_n 0, 1) := by decide +kernel
theorem dX10_read_35 : decode cX10_read 35 = .ok (.getfield 9, 3) := by decide +kernel
theorem dX10_read_38 : decode cX10_read 38 = .ok (.iconst 4, 1) := by decide +kernel
theorem dX10_read_39 : decode cX10_read 39 = .ok (.if_icmp .ne 47, 3) := by decide +kernel
theorem dX10_read_42 : decode cX10_read 42 = .ok (.aload_n 0, 1) := by decide +kernel
theorem dX10_read_43 : decode cX10_read 43 = .ok (.aload_n 1, 1) := by decide +kernel
theorem dX10_read_44 : decode cX10_read 44 = .ok (.bipush 47, 2) := by decide +kernel
theorem dX10_read_46 : decode cX10_read 46 = .ok (.aload_n 0, 1) := by decide +kernel
theorem dX10_read_47 : decode cX10_read 47 = .ok (.getfield 16, 3) := by decide +kernel
theorem dX10_read_50 : decode cX10_read 50 = .ok (.iload_n 3, 1) := by decide +kernel
theorem dX10_read_51 : decode cX10_read 51 = .ok (.invokevirtual 32, 3) := by decide +kernel
theorem dX10_read_54 : decode cX10_read 54 = .ok (.putfield 19, 3) := by decide +kernel
theorem dX10_read_57 : decode cX10_read 57 = .ok (.aload_n 0, 1) := by decide +kernel
theorem dX10_read_58 : decode cX10_read 58 = .ok (.aload_n 0, 1) := by decide +kernel
theorem dX10_read_59 : decode cX10_read 59 = .ok (.getfield 19, 3) := by decide +kernel
theorem dX10_read_62 : decode cX10_read 62 = .ok (.iload_n 3, 1) := by decide +kernel
theorem dX10_read_63 : decode cX10_read 63 = .ok (.if_icmp .ne 8, 3) := by decide +kernel
theorem dX10_read_66 : decode cX10_read 66 = .ok (.bipush 32, 2) := by decide +kernel
theorem dX10_read_68 : decode cX10_read 68 = .ok (.goto 15, 3) := by decide +kernel
theorem dX10_read_71 : decode cX10_read 71 = .ok (.aload_n 1, 1) := by decide +kernel
theorem dX10_read_72 : decode cX10_read 72 = .ok (.aload_n 0, 1) := by decide +kernel
theorem dX10_read_73 : decode cX10_read 73 = .ok (.getfield 19, 3) := by decide +kernel
theorem dX10_read_76 : decode cX10_read 76 = .ok (.iconst 1, 1) := by decide +kernel
theorem dX10_read_77 : decode cX10_read 77 = .ok (.iadd, 1) := by decide +kernel
theorem dX10_read_78 : decode cX10_read 78 = .ok (.iload_n 3, 1) := by decide +kernel
theorem dX10_read_79 : decode cX10_read 79 = .ok (.iconst 2, 1) := by decide +kernel
theorem dX10_read_80 : decode cX10_read 80 = .ok (.invokestatic 38, 3) := by decide +kernel
theorem dX10_read_83 : decode cX10_read 83 = .ok (.putfield 22, 3) := by decide +kernel
theorem dX10_read_86 : decode cX10_read 86 = .ok (.aload_n 0, 1) := by decide +kernel
theorem dX10_read_87 : decode cX10_read 87 = .ok (.getfield 22, 3) := by decide +kernel
theorem dX10_read_90 : decode cX10_read 90 = .ok (.ifCond .lt 16, 3) := by decide +kernel
theorem dX10_read_93 : decode cX10_read 93 = .ok (.aload_n 0, 1) := by decide +kernel
theorem dX10_read_94 : decode cX10_read 94 = .ok (.getfield 22, 3) := by decide +kernel
theorem dX10_read_97 : decode cX10_read 97 = .ok (.bipush 32, 2) := by decide +kernel
theorem dX10_read_99 : decode cX10_read 99 = .ok (.if_icmp .gt 7, 3) := by decide +kernel
theorem dX10_read_102 : decode cX10_read 102 = .ok (.iconst 1, 1) := by decide +kernel
theorem dX10_read_103 : decode cX10_read 103 = .ok (.goto 4, 3) := by decide +kernel
theorem dX10_read_106 : decode cX10_read 106 = .ok (.iconst 0, 1) := by decide +kernel
theorem dX10_read_107 : decode cX10_read 107 = .ok (.istore 4, 2) := by decide +kernel
theorem dX10_read_109 : decode cX10_read 109 = .ok (.aload_n 0, 1) := by decide +kernel
theorem dX10_read_110 : decode cX10_read 110 = .ok (.getfield 9, 3) := by decide +kernel
theorem dX10_read_113 : decode cX10_read 113 = .ok (.iconst 5, 1) := by decide +kernel
theorem dX10_read_114 : decode cX10_read 114 = .ok (.if_icmp .ne 34, 3) := by decide +kernel
theorem dX10_read_117 : decode cX10_read 117 = .ok (.iload 4, 2) := by decide +kernel
theorem dX10_read_119 : decode cX10_read 119 = .ok (.ifCond .eq 23, 3) := by decide +kernel
theorem dX10_read_122 : decode cX10_read 122 = .ok (.aload_n 0, 1) := by decide +kernel
theorem dX10_read_123 : decode cX10_read 123 = .ok (.aload_n 1, 1) := by decide +kernel
theorem dX10_read_124 : decode cX10_read 124 = .ok (.aload_n 0, 1) := by decide +kernel
theorem dX10_read_125 : decode cX10_read 125 = .ok (.getfield 16, 3) := by decide +kernel
theorem dX10_read_128 : decode cX10_read 128 = .ok (.aload_n 0, 1) := by decide +kernel
theorem dX10_read_129 : decode cX10_read 129 = .ok (.getfield 19, 3) := by decide +kernel
theorem dX10_read_132 : decode cX10_read 132 = .ok (.invokevirtual 42, 3) := by decide +kernel
theorem dX10_read_135 : decode cX10_read 135 = .ok (.ifCond .eq 7, 3) := by decide +kernel
theorem dX10_read_138 : decode cX10_read 138 = .ok (.iconst 1, 1) := by decide +kernel
theorem dX10_read_139 : decode cX10_read 139 = .ok (.goto 4, 3) := by decide +kernel
theorem dX10_read_142 : decode cX10_read 142 = .ok (.iconst 0, 1) := by decide +kernel
theorem dX10_read_143 : decode cX10_read 143 = .ok (.istore 4, 2) := by decide +kernel
theorem dX10_read_145 : decode cX10_read 145 = .ok (.goto 130, 3) := by decide +kernel
theorem dX10_read_148 : decode cX10_read 148 = .ok (.aload_n 0, 1) := by decide +kernel
theorem dX10_read_149 : decode cX10_read 149 = .ok (.getfield 9, 3) := by decide +kernel
theorem dX10_read_152 : decode cX10_read 152 = .ok (.iconst 3, 1) := by decide +kernel
theorem dX10_read_153 : decode cX10_read 153 = .ok (.if_icmp .eq 11, 3) := by decide +kernel
theorem dX10_read_156 : decode cX10_read 156 = .ok (.aload_n 0, 1) := by decide +kernel
theorem dX10_read_157 : decode cX10_read 157 = .ok (.getfield 9, 3) := by decide +kernel
theorem dX10_read_160 : decode cX10_read 160 = .ok (.iconst 4, 1) := by decide +kernel
theorem dX10_read_161 : decode cX10_read 161 = .ok (.if_icmp .ne 74, 3) := by decide +kernel
theorem dX10_read_164 : decode cX10_read 164 = .ok (.aload_n 1, 1) := by decide +kernel
theorem dX10_read_165 : decode cX10_read 165 = .ok (.aload_n 0, 1) := by decide +kernel
theorem dX10_read_166 : decode cX10_read 166 = .ok (.getfield 16, 3) := by decide +kernel
theorem dX10_read_169 : decode cX10_read 169 = .ok (.iconst 1, 1) := by decide +kernel
theorem dX10_read_170 : decode cX10_read 170 = .ok (.isub, 1) := by decide +kernel
theorem dX10_read_171 : decode cX10_read 171 = .ok (.invokevirtual 46, 3) := by decide +kernel
theorem dX10_read_174 : decode cX10_read 174 = .ok (.bipush 58, 2) := by decide +kernel
theorem dX10_read_176 : decode cX10_read 176 = .ok (.if_icmp .eq 7, 3) := by decide +kernel
theorem dX10_read_179 : decode cX10_read 179 = .ok (.iconst 1, 1) := by decide +kernel
theorem dX10_read_180 : decode cX10_read 180 = .ok (.goto 4, 3) := by decide +kernel
theorem dX10_read_183 : decode cX10_read 183 = .ok (.iconst 0, 1) := by decide +kernel
theorem dX10_read_184 : decode cX10_read 184 = .ok (.istore 5, 2) := by decide +kernel
theorem dX10_read_186 : decode cX10_read 186 = .ok (.iload 4, 2) := by decide +kernel
theorem dX10_read_188 : decode cX10_read 188 = .ok (.ifCond .eq 41, 3) := by decide +kernel
theorem dX10_read_191 : decode cX10_read 191 = .ok (.iload 5, 2) := by decide +kernel
theorem dX10_read_193 : decode cX10_read 193 = .ok (.ifCond .eq 17, 3) := by decide +kernel
theorem dX10_read_196 : decode cX10_read 196 = .ok (.aload_n 0, 1) := by decide +kernel
theorem dX10_read_197 : decode cX10_read 197 = .ok (.getfield 16, 3) := by decide +kernel
theorem dX10_read_200 : decode cX10_read 200 = .ok (.aload_n 0, 1) := by decide +kernel
theorem dX10_read_201 : decode cX10_read 201 = .ok (.getfield 19, 3) := by decide +kernel
theorem dX10_read_204 : decode cX10_read 204 = .ok (.if_icmp .ne 25, 3) := by decide +kernel
theorem dX10_read_207 : decode cX10_read 207 = .ok (.goto 18, 3) := by decide +kernel
theorem dX10_read_210 : decode cX10_read 210 = .ok (.aload_n 1, 1) := by decide +kernel
theorem dX10_read_211 : decode cX10_read 211 = .ok (.aload_n 0, 1) := by decide +kernel
theorem dX10_read_212 : decode cX10_read 212 = .ok (.getfield 16, 3) := by decide +kernel
theorem dX10_read_215 : decode cX10_read 215 = .ok (.aload_n 0, 1) := by decide +kernel
theorem dX10_read_216 : decode cX10_read 216 = .ok (.getfield 19, 3) := by decide +kernel
theorem dX10_read_219 : decode cX10_read 219 = .ok (.invokestatic 50, 3) := by decide +kernel
theorem dX10_read_222 : decode cX10_read 222 = .ok (.ifCond .eq 7, 3) := by decide +kernel
theorem dX10_read_225 : decode cX10_read 225 = .ok (.iconst 1, 1) := by decide +kernel
theorem dX10_read_226 : decode cX10_read 226 = .ok (.goto 4, 3) := by decide +kernel
theorem dX10_read_229 : decode cX10_read 229 = .ok (.iconst 0, 1) := by decide +kernel
theorem dX10_read_230 : decode cX10_read 230 = .ok (.istore 4, 2) := by decide +kernel
theorem dX10_read_232 : decode cX10_read 232 = .ok (.goto 43, 3) := by decide +kernel
theorem dX10_read_235 : decode cX10_read 235 = .ok (.aload_n 0, 1) := by decide +kernel
theorem dX10_read_236 : decode cX10_read 236 = .ok (.getfield 9, 3) := by decide +kernel
theorem dX10_read_239 : decode cX10_read 239 = .ok (.iconst 2, 1) := by decide +kernel
theorem dX10_read_240 : decode cX10_read 240 = .ok (.if_icmp .eq 21, 3) := by decide +kernel
theorem dX10_read_243 : decode cX10_read 243 = .ok (.aload_n 0, 1) := by decide +kernel
theorem dX10_read_244 : decode cX10_read 244 = .ok (.getfield 9, 3) := by decide +kernel
theorem dX10_read_247 : decode cX10_read 247 = .ok (.bipush 6, 2) := by decide +kernel
theorem dX10_read_249 : decode cX10_read 249 = .ok (.if_icmp .eq 12, 3) := by decide +kernel
theorem dX10_read_252 : decode cX10_read 252 = .ok (.aload_n 0, 1) := by decide +kernel
theorem dX10_read_253 : decode cX10_read 253 = .ok (.getfield 9, 3) := by decide +kernel
theorem dX10_read_256 : decode cX10_read 256 = .ok (.bipush 7, 2) := by decide +kernel
theorem dX10_read_258 : decode cX10_read 258 = .ok (.if_icmp .ne 17, 3) := by decide +kernel
theorem dX10_read_261 : decode cX10_read 261 = .ok (.aload_n 1, 1) := by decide +kernel
theorem dX10_read_262 : decode cX10_read 262 = .ok (.aload_n 0, 1) := by decide +kernel
theorem dX10_read_263 : decode cX10_read 263 = .ok (.getfield 16, 3) := by decide +kernel
theorem dX10_read_266 : decode cX10_read 266 = .ok (.aload_n 0, 1) := by decide +kernel
theorem dX10_read_267 : decode cX10_read 267 = .ok (.getfield 19, 3) := by decide +kernel
theorem dX10_read_270 : decode cX10_read 270 = .ok (.invokestatic 50, 3) := by decide +kernel
theorem dX10_read_273 : decode cX10_read 273 = .ok (.istore 4, 2) := by decide +kernel
theorem dX10_read_275 : decode cX10_read 275 = .ok (.aload_n 0, 1) := by decide +kernel
theorem dX10_read_276 : decode cX10_read 276 = .ok (.iload 4, 2) := by decide +kernel
theorem dX10_read_278 : decode cX10_read 278 = .ok (.ifCond .eq 10, 3) := by decide +kernel
theorem dX10_read_281 : decode cX10_read 281 = .ok (.aload_n 0, 1) := by decide +kernel
theorem dX10_read_282 : decode cX10_read 282 = .ok (.getfield 9, 3) := by decide +kernel
theorem dX10_read_285 : decode cX10_read 285 = .ok (.goto 4, 3) := by decide +kernel
theorem dX10_read_288 : decode cX10_read 288 = .ok (.iconst 0, 1) := by decide +kernel
theorem dX10_read_289 : decode cX10_read 289 = .ok (.putfield 9, 3) := by decide +kernel
theorem dX10_read_292 : decode cX10_read 292 = .ok (.return_, 1) := by decide +kernel
theorem dX10_readKind_0 : decode cX10_readKind 0 = .ok (.aload_n 0, 1) := by decide +kernel
theorem dX10_readKind_1 : decode cX10_readKind 1 = .ok (.bipush 43, 2) := by decide +kernel
theorem dX10_readKind_3 : decode cX10_readKind 3 = .ok (.putfield 13, 3) := by decide +kernel
theorem dX10_readKind_6 : decode cX10_readKind 6 = .ok (.aload_n 1, 1) := by decide +kernel
theorem dX10_readKind_7 : decode cX10_readKind 7 = .ok (.iload_n 2, 1) := by decide +kernel
theorem dX10_readKind_8 : decode cX10_readKind 8 = .ok (.iload_n 3, 1) := by decide +kernel
theorem dX10_readKind_9 : decode cX10_readKind 9 = .ok (.ldc 53, 2) := by decide +kernel
theorem dX10_readKind_11 : decode cX10_readKind 11 = .ok (.invokevirtual 55, 3) := by decide +kernel
theorem dX10_readKind_14 : decode cX10_readKind 14 = .ok (.ifCond .eq 14, 3) := by decide +kernel
theorem dX10_readKind_17 : decode cX10_readKind 17 = .ok (.aload_n 0, 1) := by decide +kernel
theorem dX10_readKind_18 : decode cX10_readKind 18 = .ok (.bipush 7, 2) := by decide +kernel
theorem dX10_readKind_20 : decode cX10_readKind 20 = .ok (.iload_n 2, 1) := by decide +kernel
theorem dX10_readKind_21 : decode cX10_readKind 21 = .ok (.bipush 9, 2) := by decide +kernel
theorem dX10_readKind_23 : decode cX10_readKind 23 = .ok (.iadd, 1) := by decide +kernel
theorem dX10_readKind_24 : decode cX10_readKind 24 = .ok (.invokevirtual 59, 3) := by decide +kernel
theorem dX10_readKind_27 : decode cX10_readKind 27 = .ok (.return_, 1) := by decide +kernel
theorem dX10_readKind_28 : decode cX10_readKind 28 = .ok (.aload_n 1, 1) := by decide +kernel
theorem dX10_readKind_29 : decode cX10_readKind 29 = .ok (.iload_n 2, 1) := by decide +kernel
theorem dX10_readKind_30 : decode cX10_readKind 30 = .ok (.iload_n 3, 1) := by decide +kernel
theorem dX10_readKind_31 : decode cX10_readKind 31 = .ok (.invokestatic 63, 3) := by decide +kernel
theorem dX10_readKind_34 : decode cX10_readKind 34 = .ok (.ifCond .eq 11, 3) := by decide +kernel
theorem dX10_readKind_37 : decode cX10_readKind 37 = .ok (.aload_n 0, 1) := by decide +kernel
theorem dX10_readKind_38 : decode cX10_readKind 38 = .ok (.bipush 8, 2) := by decide +kernel
theorem dX10_readKind_40 : decode cX10_readKind 40 = .ok (.iload_n 3, 1) := by decide +kernel
theorem dX10_readKind_41 : decode cX10_readKind 41 = .ok (.invokevirtual 59, 3) := by decide +kernel
theorem dX10_readKind_44 : decode cX10_readKind 44 = .ok (.return_, 1) := by decide +kernel
theorem dX10_readKind_45 : decode cX10_readKind 45 = .ok (.aload_n 1, 1) := by decide +kernel
theorem dX10_readKind_46 : decode cX10_readKind 46 = .ok (.iload_n 2, 1) := by decide +kernel
theorem dX10_readKind_47 : decode cX10_readKind 47 = .ok (.invokevirtual 46, 3) := by decide +kernel
theorem dX10_readKind_50 : decode cX10_readKind 50 = .ok (.istore 4, 2) := by decide +kernel
theorem dX10_readKind_52 : decode cX10_readKind 52 = .ok (.iload 4, 2) := by decide +kernel
theorem dX10_readKind_54 : decode cX10_readKind 54 = .ok (.bipush 43, 2) := by decide +kernel
theorem dX10_readKind_56 : decode cX10_readKind 56 = .ok (.if_icmp .eq 24, 3) := by decide +kernel
theorem dX10_readKind_59 : decode cX10_readKind 59 = .ok (.iload 4, 2) := by decide +kernel
theorem dX10_readKind_61 : decode cX10_readKind 61 = .ok (.bipush 63, 2) := by decide +kernel
theorem dX10_readKind_63 : decode cX10_readKind 63 = .ok (.if_icmp .eq 17, 3) := by decide +kernel
theorem dX10_readKind_66 : decode cX10_readKind 66 = .ok (.iload 4, 2) := by decide +kernel
theorem dX10_readKind_68 : decode cX10_readKind 68 = .ok (.bipush 126, 2) := by decide +kernel
theorem dX10_readKind_70 : decode cX10_readKind 70 = .ok (.if_icmp .eq 10, 3) := by decide +kernel
theorem dX10_readKind_73 : decode cX10_readKind 73 = .ok (.iload 4, 2) := by decide +kernel
theorem dX10_readKind_75 : decode cX10_readKind 75 = .ok (.bipush 45, 2) := by decide +kernel
theorem dX10_readKind_77 : decode cX10_readKind 77 = .ok (.if_icmp .ne 7, 3) := by decide +kernel
theorem dX10_readKind_80 : decode cX10_readKind 80 = .ok (.iconst 1, 1) := by decide +kernel
theorem dX10_readKind_81 : decode cX10_readKind 81 = .ok (.goto 4, 3) := by decide +kernel
theorem dX10_readKind_84 : decode cX10_readKind 84 = .ok (.iconst 0, 1) := by decide +kernel
theorem dX10_readKind_85 : decode cX10_readKind 85 = .ok (.istore 5, 2) := by decide +kernel
theorem dX10_readKind_87 : decode cX10_readKind 87 = .ok (.aload_n 0, 1) := by decide +kernel
theorem dX10_readKind_88 : decode cX10_readKind 88 = .ok (.iload 5, 2) := by decide +kernel
theorem dX10_readKind_90 : decode cX10_readKind 90 = .ok (.ifCond .eq 8, 3) := by decide +kernel
theorem dX10_readKind_93 : decode cX10_readKind 93 = .ok (.iload 4, 2) := by decide +kernel
theorem dX10_readKind_95 : decode cX10_readKind 95 = .ok (.goto 5, 3) := by decide +kernel
theorem dX10_readKind_98 : decode cX10_readKind 98 = .ok (.bipush 43, 2) := by decide +kernel
theorem dX10_readKind_100 : decode cX10_readKind 100 = .ok (.putfield 13, 3) := by decide +kernel
theorem dX10_readKind_103 : decode cX10_readKind 103 = .ok (.iload 5, 2) := by decide +kernel
theorem dX10_readKind_105 : decode cX10_readKind 105 = .ok (.ifCond .eq 9, 3) := by decide +kernel
theorem dX10_readKind_108 : decode cX10_readKind 108 = .ok (.iload_n 2, 1) := by decide +kernel
theorem dX10_readKind_109 : decode cX10_readKind 109 = .ok (.iconst 1, 1) := by decide +kernel
theorem dX10_readKind_110 : decode cX10_readKind 110 = .ok (.iadd, 1) := by decide +kernel
theorem dX10_readKind_111 : decode cX10_readKind 111 = .ok (.goto 4, 3) := by decide +kernel
theorem dX10_readKind_114 : decode cX10_readKind 114 = .ok (.iload_n 2, 1) := by decide +kernel
theorem dX10_readKind_115 : decode cX10_readKind 115 = .ok (.istore 6, 2) := by decide +kernel
theorem dX10_readKind_117 : decode cX10_readKind 117 = .ok (.aload_n 1, 1) := by decide +kernel
theorem dX10_readKind_118 : decode cX10_readKind 118 = .ok (.iload 6, 2) := by decide +kernel
theorem dX10_readKind_120 : decode cX10_readKind 120 = .ok (.iload_n 3, 1) := by decide +kernel
theorem dX10_readKind_121 : decode cX10_readKind 121 = .ok (.ldc 66, 2) := by decide +kernel
theorem dX10_readKind_123 : decode cX10_readKind 123 = .ok (.invokevirtual 68, 3) := by decide +kernel
theorem dX10_readKind_126 : decode cX10_readKind 126 = .ok (.ifCond .eq 12, 3) := by decide +kernel
theorem dX10_readKind_129 : decode cX10_readKind 129 = .ok (.aload_n 0, 1) := by decide +kernel
theorem dX10_readKind_130 : decode cX10_readKind 130 = .ok (.iconst 1, 1) := by decide +kernel
theorem dX10_readKind_131 : decode cX10_readKind 131 = .ok (.iload_n 3, 1) := by decide +kernel
theorem dX10_readKind_132 : decode cX10_readKind 132 = .ok (.invokevirtual 59, 3) := by decide +kernel
theorem dX10_readKind_135 : decode cX10_readKind 135 = .ok (.goto 170, 3) := by decide +kernel
theorem dX10_readKind_138 : decode cX10_readKind 138 = .ok (.aload_n 1, 1) := by decide +kernel
theorem dX10_readKind_139 : decode cX10_readKind 139 = .ok (.iload 6, 2) := by decide +kernel
theorem dX10_readKind_141 : decode cX10_readKind 141 = .ok (.iload_n 3, 1) := by decide +kernel
theorem dX10_readKind_142 : decode cX10_readKind 142 = .ok (.ldc 71, 2) := by decide +kernel
theorem dX10_readKind_144 : decode cX10_readKind 144 = .ok (.invokevirtual 55, 3) := by decide +kernel
theorem dX10_readKind_147 : decode cX10_readKind 147 = .ok (.ifCond .eq 16, 3) := by decide +kernel
theorem dX10_readKind_150 : decode cX10_readKind 150 = .ok (.aload_n 0, 1) := by decide +kernel
theorem dX10_readKind_151 : decode cX10_readKind 151 = .ok (.iconst 2, 1) := by decide +kernel
theorem dX10_readKind_152 : decode cX10_readKind 152 = .ok (.iload 6, 2) := by decide +kernel
theorem dX10_readKind_154 : decode cX10_readKind 154 = .ok (.bipush 8, 2) := by decide +kernel
theorem dX10_readKind_156 : decode cX10_readKind 156 = .ok (.iadd, 1) := by decide +kernel
theorem dX10_readKind_157 : decode cX10_readKind 157 = .ok (.invokevirtual 59, 3) := by decide +kernel
theorem dX10_readKind_160 : decode cX10_readKind 160 = .ok (.goto 145, 3) := by decide +kernel
theorem dX10_readKind_163 : decode cX10_readKind 163 = .ok (.aload_n 1, 1) := by decide +kernel
theorem dX10_readKind_164 : decode cX10_readKind 164 = .ok (.iload 6, 2) := by decide +kernel
theorem dX10_readKind_166 : decode cX10_readKind 166 = .ok (.iload_n 3, 1) := by decide +kernel
theorem dX10_readKind_167 : decode cX10_readKind 167 = .ok (.ldc 73, 2) := by decide +kernel
theorem dX10_readKind_169 : decode cX10_readKind 169 = .ok (.invokevirtual 55, 3) := by decide +kernel
theorem dX10_readKind_172 : decode cX10_readKind 172 = .ok (.ifCond .eq 17, 3) := by decide +kernel
theorem dX10_readKind_175 : decode cX10_readKind 175 = .ok (.aload_n 0, 1) := by decide +kernel
theorem dX10_readKind_176 : decode cX10_readKind 176 = .ok (.bipush 6, 2) := by decide +kernel
theorem dX10_readKind_178 : decode cX10_readKind 178 = .ok (.iload 6, 2) := by decide +kernel
theorem dX10_readKind_180 : decode cX10_readKind 180 = .ok (.bipush 7, 2) := by decide +kernel
theorem dX10_readKind_182 : decode cX10_readKind 182 = .ok (.iadd, 1) := by decide +kernel
theorem dX10_readKind_183 : decode cX10_readKind 183 = .ok (.invokevirtual 59, 3) := by decide +kernel
theorem dX10_readKind_186 : decode cX10_readKind 186 = .ok (.goto 119, 3) := by decide +kernel
theorem dX10_readKind_189 : decode cX10_readKind 189 = .ok (.aload_n 1, 1) := by decide +kernel
theorem dX10_readKind_190 : decode cX10_readKind 190 = .ok (.iload 6, 2) := by decide +kernel
theorem dX10_readKind_192 : decode cX10_readKind 192 = .ok (.iload_n 3, 1) := by decide +kernel
theorem dX10_readKind_193 : decode cX10_readKind 193 = .ok (.ldc 75, 2) := by decide +kernel
theorem dX10_readKind_195 : decode cX10_readKind 195 = .ok (.invokevirtual 55, 3) := by decide +kernel
theorem dX10_readKind_198 : decode cX10_readKind 198 = .ok (.ifCond .eq 15, 3) := by decide +kernel
theorem dX10_readKind_201 : decode cX10_readKind 201 = .ok (.aload_n 0, 1) := by decide +kernel
theorem dX10_readKind_202 : decode cX10_readKind 202 = .ok (.iconst 5, 1) := by decide +kernel
theorem dX10_readKind_203 : decode cX10_readKind 203 = .ok (.iload 6, 2) := by decide +kernel
theorem dX10_readKind_205 : decode cX10_readKind 205 = .ok (.iconst 4, 1) := by decide +kernel
theorem dX10_readKind_206 : decode cX10_readKind 206 = .ok (.iadd, 1) := by decide +kernel
theorem dX10_readKind_207 : decode cX10_readKind 207 = .ok (.invokevirtual 59, 3) := by decide +kernel
theorem dX10_readKind_210 : decode cX10_readKind 210 = .ok (.goto 95, 3) := by decide +kernel
theorem dX10_readKind_213 : decode cX10_readKind 213 = .ok (.aload_n 1, 1) := by decide +kernel
theorem dX10_readKind_214 : decode cX10_readKind 214 = .ok (.iload 6, 2) := by decide +kernel
theorem dX10_readKind_216 : decode cX10_readKind 216 = .ok (.iload_n 3, 1) := by decide +kernel
theorem dX10_readKind_217 : decode cX10_readKind 217 = .ok (.ldc 77, 2) := by decide +kernel
theorem dX10_readKind_219 : decode cX10_readKind 219 = .ok (.invokevirtual 55, 3) := by decide +kernel
theorem dX10_readKind_222 : decode cX10_readKind 222 = .ok (.ifCond .eq 34, 3) := by decide +kernel
theorem dX10_readKind_225 : decode cX10_readKind 225 = .ok (.aload_n 0, 1) := by decide +kernel
theorem dX10_readKind_226 : decode cX10_readKind 226 = .ok (.iconst 4, 1) := by decide +kernel
theorem dX10_readKind_227 : decode cX10_readKind 227 = .ok (.aload_n 1, 1) := by decide +kernel
theorem dX10_readKind_228 : decode cX10_readKind 228 = .ok (.iload 6, 2) := by decide +kernel
theorem dX10_readKind_230 : decode cX10_readKind 230 = .ok (.iload_n 3, 1) := by decide +kernel
theorem dX10_readKind_231 : decode cX10_readKind 231 = .ok (.ldc 79, 2) := by decide +kernel
theorem dX10_readKind_233 : decode cX10_readKind 233 = .ok (.invokevirtual 55, 3) := by decide +kernel
theorem dX10_readKind_236 : decode cX10_readKind 236 = .ok (.ifCond .eq 10, 3) := by decide +kernel
theorem dX10_readKind_239 : decode cX10_readKind 239 = .ok (.iload 6, 2) := by decide +kernel
theorem dX10_readKind_241 : decode cX10_readKind 241 = .ok (.iconst 3, 1) := by decide +kernel
theorem dX10_readKind_242 : decode cX10_readKind 242 = .ok (.iadd, 1) := by decide +kernel
theorem dX10_readKind_243 : decode cX10_readKind 243 = .ok (.goto 7, 3) := by decide +kernel
theorem dX10_readKind_246 : decode cX10_readKind 246 = .ok (.iload 6, 2) := by decide +kernel
theorem dX10_readKind_248 : decode cX10_readKind 248 = .ok (.iconst 2, 1) := by decide +kernel
theorem dX10_readKind_249 : decode cX10_readKind 249 = .ok (.iadd, 1) := by decide +kernel
theorem dX10_readKind_250 : decode cX10_readKind 250 = .ok (.invokevirtual 59, 3) := by decide +kernel
theorem dX10_readKind_253 : decode cX10_readKind 253 = .ok (.goto 52, 3) := by decide +kernel
theorem dX10_readKind_256 : decode cX10_readKind 256 = .ok (.aload_n 1, 1) := by decide +kernel
theorem dX10_readKind_257 : decode cX10_readKind 257 = .ok (.iload 6, 2) := by decide +kernel
theorem dX10_readKind_259 : decode cX10_readKind 259 = .ok (.iload_n 3, 1) := by decide +kernel
theorem dX10_readKind_260 : decode cX10_readKind 260 = .ok (.ldc 81, 2) := by decide +kernel
theorem dX10_readKind_262 : decode cX10_readKind 262 = .ok (.invokevirtual 55, 3) := by decide +kernel
theorem dX10_readKind_265 : decode cX10_readKind 265 = .ok (.ifCond .eq 34, 3) := by decide +kernel
theorem dX10_readKind_268 : decode cX10_readKind 268 = .ok (.aload_n 0, 1) := by decide +kernel
theorem dX10_readKind_269 : decode cX10_readKind 269 = .ok (.iconst 3, 1) := by decide +kernel
theorem dX10_readKind_270 : decode cX10_readKind 270 = .ok (.aload_n 1, 1) := by decide +kernel
theorem dX10_readKind_271 : decode cX10_readKind 271 = .ok (.iload 6, 2) := by decide +kernel
theorem dX10_readKind_273 : decode cX10_readKind 273 = .ok (.iload_n 3, 1) := by decide +kernel
theorem dX10_readKind_274 : decode cX10_readKind 274 = .ok (.ldc 83, 2) := by decide +kernel
theorem dX10_readKind_276 : decode cX10_readKind 276 = .ok (.invokevirtual 55, 3) := by decide +kernel
theorem dX10_readKind_279 : decode cX10_readKind 279 = .ok (.ifCond .eq 10, 3) := by decide +kernel
theorem dX10_readKind_282 : decode cX10_readKind 282 = .ok (.iload 6, 2) := by decide +kernel
theorem dX10_readKind_284 : decode cX10_readKind 284 = .ok (.iconst 2, 1) := by decide +kernel
theorem dX10_readKind_285 : decode cX10_readKind 285 = .ok (.iadd, 1) := by decide +kernel
theorem dX10_readKind_286 : decode cX10_readKind 286 = .ok (.goto 7, 3) := by decide +kernel
theorem dX10_readKind_289 : decode cX10_readKind 289 = .ok (.iload 6, 2) := by decide +kernel
theorem dX10_readKind_291 : decode cX10_readKind 291 = .ok (.iconst 1, 1) := by decide +kernel
theorem dX10_readKind_292 : decode cX10_readKind 292 = .ok (.iadd, 1) := by decide +kernel
theorem dX10_readKind_293 : decode cX10_readKind 293 = .ok (.invokevirtual 59, 3) := by decide +kernel
theorem dX10_readKind_296 : decode cX10_readKind 296 = .ok (.goto 9, 3) := by decide +kernel
theorem dX10_readKind_299 : decode cX10_readKind 299 = .ok (.aload_n 0, 1) := by decide +kernel
theorem dX10_readKind_300 : decode cX10_readKind 300 = .ok (.iconst 0, 1) := by decide +kernel
theorem dX10_readKind_301 : decode cX10_readKind 301 = .ok (.iload_n 3, 1) := by decide +kernel
theorem dX10_readKind_302 : decode cX10_readKind 302 = .ok (.invokevirtual 59, 3) := by decide +kernel
theorem dX10_readKind_305 : decode cX10_readKind 305 = .ok (.return_, 1) := by decide +kernel
theorem kt_141 : Cond.fieldLink RX10 13 "PostGate$Term" "sign" "I" ∈ tb := tb_at (i := 198) (by decide +kernel) (by decide +kernel)
theorem kt_142 : Cond.methodLink RX10 55 yX0_begins ∈ tb := tb_at (i := 692) (by decide +kernel) (by decide +kernel)
theorem kt_143 : Cond.code yX10_isOther cX10_isOther 6 (some .boolean) ∈ tb := tb_at (i := 699) (by decide +kernel) (by decide +kernel)
theorem kt_144 : Cond.methodLink RX10 63 yX10_isOther ∈ tb := tb_at (i := 697) (by decide +kernel) (by decide +kernel)
theorem kt_145 : Cond.static yX10_isOther ∈ tb := tb_at (i := 698) (by decide +kernel) (by decide +kernel)
theorem kt_146 : Cond.methodLink RX10 68 yX0_is ∈ tb := tb_at (i := 705) (by decide +kernel) (by decide +kernel)
theorem kt_147 : Cond.code yX10_setKind cX10_setKind 3 none ∈ tb := tb_at (i := 696) (by decide +kernel) (by decide +kernel)
theorem kt_148 : Cond.methodLink RX10 59 yX10_setKind ∈ tb := tb_at (i := 693) (by decide +kernel) (by decide +kernel)
theorem kt_149 : Cond.instanceMethod yX10_setKind ∈ tb := tb_at (i := 695) (by decide +kernel) (by decide +kernel)
theorem kt_150 : Cond.selects RX10 yX10_setKind yX10_setKind ∈ tb := tb_at (i := 3) (by decide +kernel) (by decide +kernel)
theorem kt_151 : Cond.code yX10_readKind cX10_readKind 7 none ∈ tb := tb_at (i := 690) (by decide +kernel) (by decide +kernel)
theorem kt_152 : Cond.methodLink RX10 28 yX10_readKind ∈ tb := tb_at (i := 687) (by decide +kernel) (by decide +kernel)
theorem kt_153 : Cond.instanceMethod yX10_readKind ∈ tb := tb_at (i := 689) (by decide +kernel) (by decide +kernel)
theorem kt_154 : Cond.selects RX10 yX10_readKind yX10_readKind ∈ tb := tb_at (i := 2) (by decide +kernel) (by decide +kernel)
theorem kt_155 : Cond.fieldLink RX10 19 "PostGate$Term" "stop" "I" ∈ tb := tb_at (i := 202) (by decide +kernel) (by decide +kernel)
theorem kt_156 : Cond.fieldLink RX10 22 "PostGate$Term" "bits" "I" ∈ tb := tb_at (i := 204) (by decide +kernel) (by decide +kernel)
theorem kt_157 : Cond.code yX10_isHost cX10_isHost 7 (some .boolean) ∈ tb := tb_at (i := 722) (by decide +kernel) (by decide +kernel)
theorem kt_158 : Cond.methodLink RX10 50 yX10_isHost ∈ tb := tb_at (i := 720) (by decide +kernel) (by decide +kernel)
theorem kt_159 : Cond.static yX10_isHost ∈ tb := tb_at (i := 721) (by decide +kernel) (by decide +kernel)
theorem kt_160 : Cond.code yX10_readQuad cX10_readQuad 8 (some .boolean) ∈ tb := tb_at (i := 719) (by decide +kernel) (by decide +kernel)
theorem kt_161 : Cond.methodLink RX10 42 yX10_readQuad ∈ tb := tb_at (i := 716) (by decide +kernel) (by decide +kernel)
theorem kt_162 : Cond.instanceMethod yX10_readQuad ∈ tb := tb_at (i := 718) (by decide +kernel) (by decide +kernel)
theorem kt_163 : Cond.selects RX10 yX10_readQuad yX10_readQuad ∈ tb := tb_at (i := 4) (by decide +kernel) (by decide +kernel)
theorem fnd {n t : Nat} {r : Int32} (h : r = nI t ∨ ∃ j : Nat, j < n ∧ r = nI j) (ht : t ≤ 10000) (hn : n ≤ 10000) : ∃ k : Nat, k ≤ 10000 ∧ r = nI k := by
  rcases h with h | ⟨j, hj, h⟩
  · exact ⟨t, ht, h⟩
  · exact ⟨j, by omega, h⟩
set_option maxHeartbeats 4000000 in
set_option maxRecDepth 100000 in
theorem s_X10_readKind (l : Launch) (dC : Nat → ClassId) (dI : Nat → Nat → Nat) (cs : Nat → ClassId) (ty : TyM) (L : List Nat) (sz : Nat) (F : Nat → va_E) (h0 : Nat) (ρ : Nat) (g1 : Nat) (σ : Nat) (r1 : Nat) (n1 : Nat) (x2 : Int32) (x3 : Int32) (hW : WT ty L) (hL_h0 : h0 ∈ L) (hT_h0 : ty h0 = (10, ρ, [])) (hL_g1 : g1 ∈ L) (hT_g1 : ty g1 = (0, σ, [r1, n1])) : Met l yX10_readKind (.code yX10_readKind cX10_readKind 7 none :: tb) ({ frames := 6, cells := 0, slots := 0, locals := 132 }) (va_Pc [.ref h0, .ref g1, .int x2, .int x3] (PTE (dC, dI) cs ty L F sz [])) (va_Qv (fun _ : Unit => True) (fun _ T9 => ∃ F2 : Nat → va_E, QT (dC, dI) cs ty L [ρ] F F2 (va_A (va_pl L F) sz) T9) (va_A (va_pl L F) sz)) 0 0 (va_A (va_pl L F) sz) := by
  refine Met.ofW (cc := cX10_readKind) (maxL := 7) (ret := none) (by decide) rfl ?_
  intro p e s m args below meth c s₁ B hml hv
  obtain ⟨rfl, ⟨hsz, hP, hK, hD0, hE, hO⟩, hG, hX⟩ := hv
  have hx := B.exec
  have hb := B.bytes
  have hr := B.returns
  have hts : ∀ w ∈ tb, w.before _ s = true := fun w h => atoms_spec (ws := .code yX10_readKind cX10_readKind 7 none :: tb) B.pre w (List.mem_cons_of_mem _ h)
  have hown : s.vm.findClass RX10 = some m.cls := findClass_of_methodNamed B.named
  have hlocks := B.notSynchronized
  subst hsz
  have hD := hD0.self (sz := s.heap.size)
  generalize hAe : va_A (va_pl L F) s.heap.size = A at hD hG hX ⊢
  have hA : ∀ q : Nat, s.heap.size ≤ q → A q := fun q h => by rw [← hAe]; exact Or.inr h
  have hS : va_S A s.heap s.heap [] := va_S.rf
  have hR : FR ty [ρ] F F := FR.refl
  have hl := lv_entry ([.ref h0, .ref g1, .int x2, .int x3]) (n := 7) (Nat.le_of_ble_eq_true rfl)
  rw [lg_entry_eq]
  generalize (lg_sl ([.ref h0, .ref g1, .int x2, .int x3]) ++ List.replicate (7 - (lg_sl ([.ref h0, .ref g1, .int x2, .int x3])).length) Slot.unset).toArray = ls at hl ⊢
  have hl : lv_has ls 7 [(0, .ref h0), (1, .ref g1), (2, .int x2), (3, .int x3)] := hl
  refine lv_aload_n hx hb dX10_readKind_0 rfl (lv_at hl 0 rfl) ?_
  refine lv_bipush (v := 43) hx hb dX10_readKind_1 (by decide) ?_
  obtain ⟨v0_1, v1_2, v2_3, v3_4, v4_5, v5_6, hF_7⟩ := hO.term hL_h0 hT_h0
  refine pg_put (ci := 10) (v := .int 43) (ty := .int) (C := RX10) (T := TX10) (N := 6) hx hb hts it_10 tyX10 tyX10_ok nmX10 hown hK hP hD hS hL_h0 hF_7 rfl 1 (by decide) (hts _ kt_141) (fun _ h9 => h9) rfl (by decide +kernel) (rfl) (rfl) (Nat.le_of_ble_eq_true rfl) dX10_readKind_3 (fun H locs hP hD hS => ?_)
  obtain ⟨F_8, he_9, hP, hD, hO, hR⟩ : ∃ G, G = va_up F h0 (.inr (10, [.int v0_1, .int 43, .int v2_3, .int v3_4, .int v4_5, .int v5_6])) ∧ va_P (dC, dI) vwCl (va_pl L G) H ∧ va_D A (va_pl L G) ∧ OK cs ty L G ∧ FR ty [ρ] F G := ⟨_, rfl, hP, hD, hO.up (sh.term hT_h0 ⟨v0_1, 43, v2_3, v3_4, v4_5, v5_6, rfl⟩), hR.up hT_h0 (by simp)⟩
  have hF_10 : F_8 h0 = .inr (10, [.int v0_1, .int 43, .int v2_3, .int v3_4, .int v4_5, .int v5_6]) := by rw [he_9]; exact up_self
  refine lv_aload_n hx hb dX10_readKind_6 rfl (lv_at hl 1 rfl) ?_
  refine lv_iload_n hx hb dX10_readKind_7 rfl (lv_at hl 2 rfl) ?_
  refine lv_iload_n hx hb dX10_readKind_8 rfl (lv_at hl 3 rfl) ?_
  obtain ⟨q_11, v_12, hr_q_11, hX_q_11⟩ := hG.2.2.2 ("PostGate$Term", 53, "redirect=", 9) (by decide +kernel)
  obtain ⟨xo_q_11, xc_q_11, xv_q_11, xf_q_11, xt_q_11, xn_q_11⟩ := id hX_q_11
  refine va_ldcS hx hb hown hr_q_11 dX10_readKind_9 ?_
  have hFc := pg_free hD hS hA
  obtain ⟨hi_13, ht_14, hq_15⟩ := hW.bytes hL_g1 hT_g1
  obtain ⟨z_16, o_17, hF_18, hq_19, hq_20⟩ := hO.bytes hL_g1 hT_g1
  refine va_calli (va_runV (As := [.int x2, .int x3, .ref q_11]) (rest := []) ⟨hx, hb, hml, hown, hts⟩ (s_X0_begins l dC dI cs ty L H.size F_8 g1 σ r1 n1 q_11 v_12 9 x2 x3 hW hL_g1 hT_g1) ⟨callB_of 3 hts (gi kt_112) rfl rfl rfl (hts _ kt_1) (hts _ kt_142) (by decide +kernel) ⟨Nat.le_of_ble_eq_true rfl, Nat.le_of_ble_eq_true rfl⟩, (hts _ kt_114), (hts _ kt_115)⟩ ⟨fun a U g mk q => ⟨q.1, PTE.calling q.2⟩, pg_recv hK hP hL_g1 hF_18 (q := (RX0, TX0, 3)) rfl, fun U hU hWm => ⟨rfl, PTE.mk hU hWm hP hK hD hE hO hG (fun x hx => by rw [List.mem_singleton] at hx; subst hx; exact hX_q_11) hS hFc⟩⟩ rfl rfl hl.1 rfl (lv_room (Nat.le_of_ble_eq_true rfl)) dX10_readKind_11 ⟨by show _ + 0 ≤ 0; omega, by show _ + 0 ≤ 0; omega⟩) hS (fun q _ h => hFc q h) hFc (fun r_21 u t H1 locs ht hvm hw hB hz1 hk1 hS => ?_)
  obtain ⟨F_22, hB1⟩ := hB
  obtain ⟨hP, hD, hO, hR⟩ := QT.back hB1 ht hFc hR (fun q h => absurd h List.not_mem_nil)
  have hF_23 : F_22 h0 = .inr (10, [.int v0_1, .int 43, .int v2_3, .int v3_4, .int v4_5, .int v5_6]) := (hB1.2.2.2 h0 List.not_mem_nil).trans hF_10
  have hF_24 : F_22 g1 = .inr (0, [.ref r1, .int (nI z_16), .int o_17]) := (hB1.2.2.2 g1 List.not_mem_nil).trans hF_18
  generalize H1 = H at hP hS ⊢
  have hw : (r_21 = 0 ∨ r_21 = 1) := hw
  have hw_25 := hw
  refine lv_if_eq (tgt := 28) hx hb dX10_readKind_14 (by decide) (fun c_26 => ?_) (fun c_26 => ?_)
  ·
    refine lv_aload_n hx hb dX10_readKind_28 rfl (lv_at hl 1 rfl) ?_
    refine lv_iload_n hx hb dX10_readKind_29 rfl (lv_at hl 2 rfl) ?_
    refine lv_iload_n hx hb dX10_readKind_30 rfl (lv_at hl 3 rfl) ?_
    have hFc := pg_free hD hS hA
    refine va_calli (va_runS (As := [.ref g1, .int x2, .int x3]) (rest := []) ⟨hx, hb, hml, hown, hts⟩ (s_X10_isOther l dC dI cs ty L H.size F_22 g1 σ r1 n1 x2 x3 hW hL_g1 hT_g1) ⟨callB_of 3 hts (gi kt_143) rfl rfl rfl (hts _ kt_90) (hts _ kt_144) (by decide +kernel) ⟨Nat.le_of_ble_eq_true rfl, Nat.le_of_ble_eq_true rfl⟩, (hts _ kt_145)⟩ ⟨fun a U g mk q => ⟨q.1, PT.calling q.2⟩, fun U hU hWm => ⟨rfl, PT.mk hU hWm hP hK hD hE hO⟩⟩ rfl rfl hl.1 rfl (lv_room (Nat.le_of_ble_eq_true rfl)) dX10_readKind_31 ⟨by show _ + 0 ≤ 0; omega, by show _ + 0 ≤ 0; omega⟩) hS (fun q _ h => hFc q h) hFc (fun r_27 u t H1 locs ht hvm hw hB hz1 hk1 hS => ?_)
    obtain ⟨F_28, hB1⟩ := hB
    obtain ⟨hP, hD, hO, hR⟩ := QT.back hB1 ht hFc hR (fun q h => absurd h List.not_mem_nil)
    have hF_29 : F_28 h0 = .inr (10, [.int v0_1, .int 43, .int v2_3, .int v3_4, .int v4_5, .int v5_6]) := (hB1.2.2.2 h0 List.not_mem_nil).trans hF_23
    have hF_30 : F_28 g1 = .inr (0, [.ref r1, .int (nI z_16), .int o_17]) := (hB1.2.2.2 g1 List.not_mem_nil).trans hF_24
    generalize H1 = H at hP hS ⊢
    have hw : (r_27 = 0 ∨ r_27 = 1) := hw
    have hw_31 := hw
    refine lv_if_eq (tgt := 45) hx hb dX10_readKind_34 (by decide) (fun c_32 => ?_) (fun c_32 => ?_)
    ·
      refine lv_aload_n hx hb dX10_readKind_45 rfl (lv_at hl 1 rfl) ?_
      refine lv_iload_n hx hb dX10_readKind_46 rfl (lv_at hl 2 rfl) ?_
      have hFc := pg_free hD hS hA
      refine va_calli (va_runV (As := [.int x2]) (rest := []) ⟨hx, hb, hml, hown, hts⟩ (s_X0_at l dC dI cs ty L H.size F_28 g1 σ r1 n1 x2 hW hL_g1 hT_g1) ⟨callB_of 1 hts (gi kt_21) rfl rfl rfl (hts _ kt_1) (hts _ kt_129) (by decide +kernel) ⟨Nat.le_of_ble_eq_true rfl, Nat.le_of_ble_eq_true rfl⟩, (hts _ kt_23), (hts _ kt_24)⟩ ⟨fun a U g mk q => ⟨q.1, PT.calling q.2⟩, pg_recv hK hP hL_g1 hF_30 (q := (RX0, TX0, 3)) rfl, fun U hU hWm => ⟨rfl, PT.mk hU hWm hP hK hD hE hO⟩⟩ rfl rfl hl.1 rfl (lv_room (Nat.le_of_ble_eq_true rfl)) dX10_readKind_47 ⟨by show _ + 0 ≤ 0; omega, by show _ + 0 ≤ 0; omega⟩) hS (fun q _ h => hFc q h) hFc (fun r_33 u t H1 locs ht hvm hw hB hz1 hk1 hS => ?_)
      obtain ⟨F_34, hB1⟩ := hB
      obtain ⟨hP, hD, hO, hR⟩ := QT.back hB1 ht hFc hR (fun q h => absurd h List.not_mem_nil)
      have hF_35 : F_34 h0 = .inr (10, [.int v0_1, .int 43, .int v2_3, .int v3_4, .int v4_5, .int v5_6]) := (hB1.2.2.2 h0 List.not_mem_nil).trans hF_29
      have hF_36 : F_34 g1 = .inr (0, [.ref r1, .int (nI z_16), .int o_17]) := (hB1.2.2.2 g1 List.not_mem_nil).trans hF_30
      generalize H1 = H at hP hS ⊢
      have hw : True := hw
      have hw_37 := hw
      refine lv_istore (lv' := [(4, .int r_33), (0, .ref h0), (1, .ref g1), (2, .int x2), (3, .int x3)]) hx hb dX10_readKind_50 hl (by decide) rfl (fun ls hl => ?_)
      refine W.widen (k := 0) (n := 0) (by omega) (by omega) ?_
      refine pl_cut (σ := Int32) A (dC, dI) cs ty L [ρ] F 85 7 (fun s0 => [(4, .int r_33), (0, .ref h0), (1, .ref g1), (2, .int x2), (3, .int x3)]) (fun s0 => [.int s0]) (fun s0 _ => True) ?_ (fun jn_38 => ?_)
      ·
        rintro s0 F_39 hv_40 hO hR H locs hP hD hS ls hl
        have hl : lv_has ls 7 [(4, .int r_33), (0, .ref h0), (1, .ref g1), (2, .int x2), (3, .int x3)] := hl
        have hv_40 : True := hv_40
        refine W.eq (g2 := F0 m 85 ls [.int s0]) rfl ?_
        refine lv_istore (lv' := [(5, .int s0), (4, .int r_33), (0, .ref h0), (1, .ref g1), (2, .int x2), (3, .int x3)]) hx hb dX10_readKind_85 hl (by decide) rfl (fun ls hl => ?_)
        refine W.widen (k := 0) (n := 0) (by omega) (by omega) ?_
        refine pl_cut (σ := Unit) A (dC, dI) cs ty L [ρ] F 103 7 (fun u0 => [(5, .int s0), (0, .ref h0), (1, .ref g1), (2, .int x2), (3, .int x3)]) (fun u0 => []) (fun u0 _ => True) ?_ (fun jn_41 => ?_)
        ·
          rintro u0 F_42 hv_43 hO hR H locs hP hD hS ls hl
          have hl : lv_has ls 7 [(5, .int s0), (0, .ref h0), (1, .ref g1), (2, .int x2), (3, .int x3)] := hl
          have hv_43 : True := hv_43
          refine W.eq (g2 := F0 m 103 ls []) rfl ?_
          refine W.widen (k := 0) (n := 0) (by omega) (by omega) ?_
          refine pl_cut (σ := Int32) A (dC, dI) cs ty L [ρ] F 117 7 (fun w6 => [(6, .int w6), (0, .ref h0), (1, .ref g1), (2, .int x2), (3, .int x3)]) (fun w6 => []) (fun w6 _ => True) ?_ (fun jn_44 => ?_)
          ·
            rintro w6 F_45 hv_46 hO hR H locs hP hD hS ls hl
            have hl : lv_has ls 7 [(6, .int w6), (0, .ref h0), (1, .ref g1), (2, .int x2), (3, .int x3)] := hl
            have hv_46 : True := hv_46
            refine W.eq (g2 := F0 m 117 ls []) rfl ?_
            refine lv_aload_n hx hb dX10_readKind_117 rfl (lv_at hl 2 rfl) ?_
            refine lv_iload hx hb dX10_readKind_118 (lv_at hl 0 rfl) ?_
            refine lv_iload_n hx hb dX10_readKind_120 rfl (lv_at hl 4 rfl) ?_
            obtain ⟨q_47, v_48, hr_q_47, hX_q_47⟩ := hG.2.2.2 ("PostGate$Term", 66, "all", 3) (by decide +kernel)
            obtain ⟨xo_q_47, xc_q_47, xv_q_47, xf_q_47, xt_q_47, xn_q_47⟩ := id hX_q_47
            refine va_ldcS hx hb hown hr_q_47 dX10_readKind_121 ?_
            have hFc := pg_free hD hS hA
            obtain ⟨z_49, o_50, hF_51, hq_52, hq_53⟩ := hO.bytes hL_g1 hT_g1
            refine va_calli (va_runV (As := [.int w6, .int x3, .ref q_47]) (rest := []) ⟨hx, hb, hml, hown, hts⟩ (s_X0_is l dC dI cs ty L H.size F_45 g1 σ r1 n1 q_47 v_48 3 w6 x3 hW hL_g1 hT_g1) ⟨callB_of 3 hts (gi kt_79) rfl rfl rfl (hts _ kt_1) (hts _ kt_146) (by decide +kernel) ⟨Nat.le_of_ble_eq_true rfl, Nat.le_of_ble_eq_true rfl⟩, (hts _ kt_81), (hts _ kt_82)⟩ ⟨fun a U g mk q => ⟨q.1, PTE.calling q.2⟩, pg_recv hK hP hL_g1 hF_51 (q := (RX0, TX0, 3)) rfl, fun U hU hWm => ⟨rfl, PTE.mk hU hWm hP hK hD hE hO hG (fun x hx => by rw [List.mem_singleton] at hx; subst hx; exact hX_q_47) hS hFc⟩⟩ rfl rfl hl.1 rfl (lv_room (Nat.le_of_ble_eq_true rfl)) dX10_readKind_123 ⟨by show _ + 0 ≤ 0; omega, by show _ + 0 ≤ 0; omega⟩) hS (fun q _ h => hFc q h) hFc (fun r_54 u t H1 locs ht hvm hw hB hz1 hk1 hS => ?_)
            obtain ⟨F_55, hB1⟩ := hB
            obtain ⟨hP, hD, hO, hR⟩ := QT.back hB1 ht hFc hR (fun q h => absurd h List.not_mem_nil)
            have hF_56 : F_55 g1 = .inr (0, [.ref r1, .int (nI z_49), .int o_50]) := (hB1.2.2.2 g1 List.not_mem_nil).trans hF_51
            generalize H1 = H at hP hS ⊢
            have hw : (r_54 = 0 ∨ r_54 = 1) := hw
            have hw_57 := hw
            refine lv_if_eq (tgt := 138) hx hb dX10_readKind_126 (by decide) (fun c_58 => ?_) (fun c_58 => ?_)
            ·
              refine lv_aload_n hx hb dX10_readKind_138 rfl (lv_at hl 2 rfl) ?_
              refine lv_iload hx hb dX10_readKind_139 (lv_at hl 0 rfl) ?_
              refine lv_iload_n hx hb dX10_readKind_141 rfl (lv_at hl 4 rfl) ?_
              obtain ⟨q_59, v_60, hr_q_59, hX_q_59⟩ := hG.2.2.2 ("PostGate$Term", 71, "include:", 8) (by decide +kernel)
              obtain ⟨xo_q_59, xc_q_59, xv_q_59, xf_q_59, xt_q_59, xn_q_59⟩ := id hX_q_59
              refine va_ldcS hx hb hown hr_q_59 dX10_readKind_142 ?_
              have hFc := pg_free hD hS hA
              refine va_calli (va_runV (As := [.int w6, .int x3, .ref q_59]) (rest := []) ⟨hx, hb, hml, hown, hts⟩ (s_X0_begins l dC dI cs ty L H.size F_55 g1 σ r1 n1 q_59 v_60 8 w6 x3 hW hL_g1 hT_g1) ⟨callB_of 3 hts (gi kt_112) rfl rfl rfl (hts _ kt_1) (hts _ kt_142) (by decide +kernel) ⟨Nat.le_of_ble_eq_true rfl, Nat.le_of_ble_eq_true rfl⟩, (hts _ kt_114), (hts _ kt_115)⟩ ⟨fun a U g mk q => ⟨q.1, PTE.calling q.2⟩, pg_recv hK hP hL_g1 hF_56 (q := (RX0, TX0, 3)) rfl, fun U hU hWm => ⟨rfl, PTE.mk hU hWm hP hK hD hE hO hG (fun x hx => by rw [List.mem_singleton] at hx; subst hx; exact hX_q_59) hS hFc⟩⟩ rfl rfl hl.1 rfl (lv_room (Nat.le_of_ble_eq_true rfl)) dX10_readKind_144 ⟨by show _ + 0 ≤ 0; omega, by show _ + 0 ≤ 0; omega⟩) hS (fun q _ h => hFc q h) hFc (fun r_61 u t H1 locs ht hvm hw hB hz1 hk1 hS => ?_)
              obtain ⟨F_62, hB1⟩ := hB
              obtain ⟨hP, hD, hO, hR⟩ := QT.back hB1 ht hFc hR (fun q h => absurd h List.not_mem_nil)
              have hF_63 : F_62 g1 = .inr (0, [.ref r1, .int (nI z_49), .int o_50]) := (hB1.2.2.2 g1 List.not_mem_nil).trans hF_56
              generalize H1 = H at hP hS ⊢
              have hw : (r_61 = 0 ∨ r_61 = 1) := hw
              have hw_64 := hw
              refine lv_if_eq (tgt := 163) hx hb dX10_readKind_147 (by decide) (fun c_65 => ?_) (fun c_65 => ?_)
              ·
                refine lv_aload_n hx hb dX10_readKind_163 rfl (lv_at hl 2 rfl) ?_
                refine lv_iload hx hb dX10_readKind_164 (lv_at hl 0 rfl) ?_
                refine lv_iload_n hx hb dX10_readKind_166 rfl (lv_at hl 4 rfl) ?_
                obtain ⟨q_66, v_67, hr_q_66, hX_q_66⟩ := hG.2.2.2 ("PostGate$Term", 73, "exists:", 7) (by decide +kernel)
                obtain ⟨xo_q_66, xc_q_66, xv_q_66, xf_q_66, xt_q_66, xn_q_66⟩ := id hX_q_66
                refine va_ldcS hx hb hown hr_q_66 dX10_readKind_167 ?_
                have hFc := pg_free hD hS hA
                refine va_calli (va_runV (As := [.int w6, .int x3, .ref q_66]) (rest := []) ⟨hx, hb, hml, hown, hts⟩ (s_X0_begins l dC dI cs ty L H.size F_62 g1 σ r1 n1 q_66 v_67 7 w6 x3 hW hL_g1 hT_g1) ⟨callB_of 3 hts (gi kt_112) rfl rfl rfl (hts _ kt_1) (hts _ kt_142) (by decide +kernel) ⟨Nat.le_of_ble_eq_true rfl, Nat.le_of_ble_eq_true rfl⟩, (hts _ kt_114), (hts _ kt_115)⟩ ⟨fun a U g mk q => ⟨q.1, PTE.calling q.2⟩, pg_recv hK hP hL_g1 hF_63 (q := (RX0, TX0, 3)) rfl, fun U hU hWm => ⟨rfl, PTE.mk hU hWm hP hK hD hE hO hG (fun x hx => by rw [List.mem_singleton] at hx; subst hx; exact hX_q_66) hS hFc⟩⟩ rfl rfl hl.1 rfl (lv_room (Nat.le_of_ble_eq_true rfl)) dX10_readKind_169 ⟨by show _ + 0 ≤ 0; omega, by show _ + 0 ≤ 0; omega⟩) hS (fun q _ h => hFc q h) hFc (fun r_68 u t H1 locs ht hvm hw hB hz1 hk1 hS => ?_)
                obtain ⟨F_69, hB1⟩ := hB
                obtain ⟨hP, hD, hO, hR⟩ := QT.back hB1 ht hFc hR (fun q h => absurd h List.not_mem_nil)
                have hF_70 : F_69 g1 = .inr (0, [.ref r1, .int (nI z_49), .int o_50]) := (hB1.2.2.2 g1 List.not_mem_nil).trans hF_63
                generalize H1 = H at hP hS ⊢
                have hw : (r_68 = 0 ∨ r_68 = 1) := hw
                have hw_71 := hw
                refine lv_if_eq (tgt := 189) hx hb dX10_readKind_172 (by decide) (fun c_72 => ?_) (fun c_72 => ?_)
                ·
                  refine lv_aload_n hx hb dX10_readKind_189 rfl (lv_at hl 2 rfl) ?_
                  refine lv_iload hx hb dX10_readKind_190 (lv_at hl 0 rfl) ?_
                  refine lv_iload_n hx hb dX10_readKind_192 rfl (lv_at hl 4 rfl) ?_
                  obtain ⟨q_73, v_74, hr_q_73, hX_q_73⟩ := hG.2.2.2 ("PostGate$Term", 75, "ip4:", 4) (by decide +kernel)
                  obtain ⟨xo_q_73, xc_q_73, xv_q_73, xf_q_73, xt_q_73, xn_q_73⟩ := id hX_q_73
                  refine va_ldcS hx hb hown hr_q_73 dX10_readKind_193 ?_
                  have hFc := pg_free hD hS hA
                  refine va_calli (va_runV (As := [.int w6, .int x3, .ref q_73]) (rest := []) ⟨hx, hb, hml, hown, hts⟩ (s_X0_begins l dC dI cs ty L H.size F_69 g1 σ r1 n1 q_73 v_74 4 w6 x3 hW hL_g1 hT_g1) ⟨callB_of 3 hts (gi kt_112) rfl rfl rfl (hts _ kt_1) (hts _ kt_142) (by decide +kernel) ⟨Nat.le_of_ble_eq_true rfl, Nat.le_of_ble_eq_true rfl⟩, (hts _ kt_114), (hts _ kt_115)⟩ ⟨fun a U g mk q => ⟨q.1, PTE.calling q.2⟩, pg_recv hK hP hL_g1 hF_70 (q := (RX0, TX0, 3)) rfl, fun U hU hWm => ⟨rfl, PTE.mk hU hWm hP hK hD hE hO hG (fun x hx => by rw [List.mem_singleton] at hx; subst hx; exact hX_q_73) hS hFc⟩⟩ rfl rfl hl.1 rfl (lv_room (Nat.le_of_ble_eq_true rfl)) dX10_readKind_195 ⟨by show _ + 0 ≤ 0; omega, by show _ + 0 ≤ 0; omega⟩) hS (fun q _ h => hFc q h) hFc (fun r_75 u t H1 locs ht hvm hw hB hz1 hk1 hS => ?_)
                  obtain ⟨F_76, hB1⟩ := hB
                  obtain ⟨hP, hD, hO, hR⟩ := QT.back hB1 ht hFc hR (fun q h => absurd h List.not_mem_nil)
                  have hF_77 : F_76 g1 = .inr (0, [.ref r1, .int (nI z_49), .int o_50]) := (hB1.2.2.2 g1 List.not_mem_nil).trans hF_70
                  generalize H1 = H at hP hS ⊢
                  have hw : (r_75 = 0 ∨ r_75 = 1) := hw
                  have hw_78 := hw
                  refine lv_if_eq (tgt := 213) hx hb dX10_readKind_198 (by decide) (fun c_79 => ?_) (fun c_79 => ?_)
                  ·
                    refine lv_aload_n hx hb dX10_readKind_213 rfl (lv_at hl 2 rfl) ?_
                    refine lv_iload hx hb dX10_readKind_214 (lv_at hl 0 rfl) ?_
                    refine lv_iload_n hx hb dX10_readKind_216 rfl (lv_at hl 4 rfl) ?_
                    obtain ⟨q_80, v_81, hr_q_80, hX_q_80⟩ := hG.2.2.2 ("PostGate$Term", 77, "mx", 2) (by decide +kernel)
                    obtain ⟨xo_q_80, xc_q_80, xv_q_80, xf_q_80, xt_q_80, xn_q_80⟩ := id hX_q_80
                    refine va_ldcS hx hb hown hr_q_80 dX10_readKind_217 ?_
                    have hFc := pg_free hD hS hA
                    refine va_calli (va_runV (As := [.int w6, .int x3, .ref q_80]) (rest := []) ⟨hx, hb, hml, hown, hts⟩ (s_X0_begins l dC dI cs ty L H.size F_76 g1 σ r1 n1 q_80 v_81 2 w6 x3 hW hL_g1 hT_g1) ⟨callB_of 3 hts (gi kt_112) rfl rfl rfl (hts _ kt_1) (hts _ kt_142) (by decide +kernel) ⟨Nat.le_of_ble_eq_true rfl, Nat.le_of_ble_eq_true rfl⟩, (hts _ kt_114), (hts _ kt_115)⟩ ⟨fun a U g mk q => ⟨q.1, PTE.calling q.2⟩, pg_recv hK hP hL_g1 hF_77 (q := (RX0, TX0, 3)) rfl, fun U hU hWm => ⟨rfl, PTE.mk hU hWm hP hK hD hE hO hG (fun x hx => by rw [List.mem_singleton] at hx; subst hx; exact hX_q_80) hS hFc⟩⟩ rfl rfl hl.1 rfl (lv_room (Nat.le_of_ble_eq_true rfl)) dX10_readKind_219 ⟨by show _ + 0 ≤ 0; omega, by show _ + 0 ≤ 0; omega⟩) hS (fun q _ h => hFc q h) hFc (fun r_82 u t H1 locs ht hvm hw hB hz1 hk1 hS => ?_)
                    obtain ⟨F_83, hB1⟩ := hB
                    obtain ⟨hP, hD, hO, hR⟩ := QT.back hB1 ht hFc hR (fun q h => absurd h List.not_mem_nil)
                    have hF_84 : F_83 g1 = .inr (0, [.ref r1, .int (nI z_49), .int o_50]) := (hB1.2.2.2 g1 List.not_mem_nil).trans hF_77
                    generalize H1 = H at hP hS ⊢
                    have hw : (r_82 = 0 ∨ r_82 = 1) := hw
                    have hw_85 := hw
                    refine lv_if_eq (tgt := 256) hx hb dX10_readKind_222 (by decide) (fun c_86 => ?_) (fun c_86 => ?_)
                    ·
                      refine lv_aload_n hx hb dX10_readKind_256 rfl (lv_at hl 2 rfl) ?_
                      refine lv_iload hx hb dX10_readKind_257 (lv_at hl 0 rfl) ?_
                      refine lv_iload_n hx hb dX10_readKind_259 rfl (lv_at hl 4 rfl) ?_
                      obtain ⟨q_87, v_88, hr_q_87, hX_q_87⟩ := hG.2.2.2 ("PostGate$Term", 81, "a", 1) (by decide +kernel)
                      obtain ⟨xo_q_87, xc_q_87, xv_q_87, xf_q_87, xt_q_87, xn_q_87⟩ := id hX_q_87
                      refine va_ldcS hx hb hown hr_q_87 dX10_readKind_260 ?_
                      have hFc := pg_free hD hS hA
                      refine va_calli (va_runV (As := [.int w6, .int x3, .ref q_87]) (rest := []) ⟨hx, hb, hml, hown, hts⟩ (s_X0_begins l dC dI cs ty L H.size F_83 g1 σ r1 n1 q_87 v_88 1 w6 x3 hW hL_g1 hT_g1) ⟨callB_of 3 hts (gi kt_112) rfl rfl rfl (hts _ kt_1) (hts _ kt_142) (by decide +kernel) ⟨Nat.le_of_ble_eq_true rfl, Nat.le_of_ble_eq_true rfl⟩, (hts _ kt_114), (hts _ kt_115)⟩ ⟨fun a U g mk q => ⟨q.1, PTE.calling q.2⟩, pg_recv hK hP hL_g1 hF_84 (q := (RX0, TX0, 3)) rfl, fun U hU hWm => ⟨rfl, PTE.mk hU hWm hP hK hD hE hO hG (fun x hx => by rw [List.mem_singleton] at hx; subst hx; exact hX_q_87) hS hFc⟩⟩ rfl rfl hl.1 rfl (lv_room (Nat.le_of_ble_eq_true rfl)) dX10_readKind_262 ⟨by show _ + 0 ≤ 0; omega, by show _ + 0 ≤ 0; omega⟩) hS (fun q _ h => hFc q h) hFc (fun r_89 u t H1 locs ht hvm hw hB hz1 hk1 hS => ?_)
                      obtain ⟨F_90, hB1⟩ := hB
                      obtain ⟨hP, hD, hO, hR⟩ := QT.back hB1 ht hFc hR (fun q h => absurd h List.not_mem_nil)
                      have hF_91 : F_90 g1 = .inr (0, [.ref r1, .int (nI z_49), .int o_50]) := (hB1.2.2.2 g1 List.not_mem_nil).trans hF_84
                      generalize H1 = H at hP hS ⊢
                      have hw : (r_89 = 0 ∨ r_89 = 1) := hw
                      have hw_92 := hw
                      refine lv_if_eq (tgt := 299) hx hb dX10_readKind_265 (by decide) (fun c_93 => ?_) (fun c_93 => ?_)
                      ·
                        refine lv_aload_n hx hb dX10_readKind_299 rfl (lv_at hl 1 rfl) ?_
                        refine lv_iconst (v := 0) hx hb dX10_readKind_300 (by decide) ?_
                        refine lv_iload_n hx hb dX10_readKind_301 rfl (lv_at hl 4 rfl) ?_
                        have hFc := pg_free hD hS hA
                        obtain ⟨v0_94, v1_95, v2_96, v3_97, v4_98, v5_99, hF_100⟩ := hO.term hL_h0 hT_h0
                        refine va_callv (va_runV (As := [.int 0, .int x3]) (rest := []) ⟨hx, hb, hml, hown, hts⟩ (s_X10_setKind l dC dI cs ty L H.size F_90 h0 ρ 0 x3 hW hL_h0 hT_h0) ⟨callB_of 2 hts (gi kt_147) rfl rfl rfl (hts _ kt_90) (hts _ kt_148) (by decide +kernel) ⟨Nat.le_of_ble_eq_true rfl, Nat.le_of_ble_eq_true rfl⟩, (hts _ kt_149), (hts _ kt_150)⟩ ⟨fun a U g mk q => ⟨q.1, PT.calling q.2⟩, pg_recv hK hP hL_h0 hF_100 (q := (RX10, TX10, 6)) rfl, fun U hU hWm => ⟨rfl, PT.mk hU hWm hP hK hD hE hO⟩⟩ rfl rfl hl.1 rfl (lv_room (Nat.le_of_ble_eq_true rfl)) dX10_readKind_302 ⟨by show _ + 0 ≤ 0; omega, by show _ + 0 ≤ 0; omega⟩) hS (fun q _ h => hFc q h) hFc (fun u t H1 locs ht hvm hw hB hz1 hk1 hS => ?_)
                        obtain ⟨F_102, hB1⟩ := hB
                        obtain ⟨hP, hD, hO, hR⟩ := QT.back hB1 ht hFc hR (fun q h => by simp only [List.mem_cons, List.not_mem_nil, or_false] at h ⊢; omega)
                        generalize H1 = H at hP hS ⊢
                        refine W.widen (k := 0) (n := 0) (by omega) (by omega) ?_
                        exact W.vret hx hb hr (fun t ht hWm => ⟨⟨(), rfl, trivial, ⟨F_102, QT.mk ht hP hD hO hR⟩⟩, hS.F ht⟩) hS.2.2 dX10_readKind_305
                      ·
                        refine lv_aload_n hx hb dX10_readKind_268 rfl (lv_at hl 1 rfl) ?_
                        refine lv_iconst (v := 3) hx hb dX10_readKind_269 (by decide) ?_
                        refine lv_aload_n hx hb dX10_readKind_270 rfl (lv_at hl 2 rfl) ?_
                        refine lv_iload hx hb dX10_readKind_271 (lv_at hl 0 rfl) ?_
                        refine lv_iload_n hx hb dX10_readKind_273 rfl (lv_at hl 4 rfl) ?_
                        obtain ⟨q_103, v_104, hr_q_103, hX_q_103⟩ := hG.2.2.2 ("PostGate$Term", 83, "a:", 2) (by decide +kernel)
                        obtain ⟨xo_q_103, xc_q_103, xv_q_103, xf_q_103, xt_q_103, xn_q_103⟩ := id hX_q_103
                        refine va_ldcS hx hb hown hr_q_103 dX10_readKind_274 ?_
                        have hFc := pg_free hD hS hA
                        refine va_calli (va_runV (As := [.int w6, .int x3, .ref q_103]) (rest := [.int 3, .ref h0]) ⟨hx, hb, hml, hown, hts⟩ (s_X0_begins l dC dI cs ty L H.size F_90 g1 σ r1 n1 q_103 v_104 2 w6 x3 hW hL_g1 hT_g1) ⟨callB_of 3 hts (gi kt_112) rfl rfl rfl (hts _ kt_1) (hts _ kt_142) (by decide +kernel) ⟨Nat.le_of_ble_eq_true rfl, Nat.le_of_ble_eq_true rfl⟩, (hts _ kt_114), (hts _ kt_115)⟩ ⟨fun a U g mk q => ⟨q.1, PTE.calling q.2⟩, pg_recv hK hP hL_g1 hF_91 (q := (RX0, TX0, 3)) rfl, fun U hU hWm => ⟨rfl, PTE.mk hU hWm hP hK hD hE hO hG (fun x hx => by rw [List.mem_singleton] at hx; subst hx; exact hX_q_103) hS hFc⟩⟩ rfl rfl hl.1 rfl (lv_room (Nat.le_of_ble_eq_true rfl)) dX10_readKind_276 ⟨by show _ + 0 ≤ 0; omega, by show _ + 0 ≤ 0; omega⟩) hS (fun q _ h => hFc q h) hFc (fun r_105 u t H1 locs ht hvm hw hB hz1 hk1 hS => ?_)
                        obtain ⟨F_106, hB1⟩ := hB
                        obtain ⟨hP, hD, hO, hR⟩ := QT.back hB1 ht hFc hR (fun q h => absurd h List.not_mem_nil)
                        have hF_107 : F_106 g1 = .inr (0, [.ref r1, .int (nI z_49), .int o_50]) := (hB1.2.2.2 g1 List.not_mem_nil).trans hF_91
                        generalize H1 = H at hP hS ⊢
                        have hw : (r_105 = 0 ∨ r_105 = 1) := hw
                        have hw_108 := hw
                        refine lv_if_eq (tgt := 289) hx hb dX10_readKind_279 (by decide) (fun c_109 => ?_) (fun c_109 => ?_)
                        ·
                          refine lv_iload hx hb dX10_readKind_289 (lv_at hl 0 rfl) ?_
                          refine lv_iconst (v := 1) hx hb dX10_readKind_291 (by decide) ?_
                          refine lv_iadd hx hb dX10_readKind_292 ?_
                          refine lv_topi (fun x_110 _ => ?_)
                          have hFc := pg_free hD hS hA
                          obtain ⟨v0_111, v1_112, v2_113, v3_114, v4_115, v5_116, hF_117⟩ := hO.term hL_h0 hT_h0
                          refine va_callv (va_runV (As := [.int 3, .int x_110]) (rest := []) ⟨hx, hb, hml, hown, hts⟩ (s_X10_setKind l dC dI cs ty L H.size F_106 h0 ρ 3 x_110 hW hL_h0 hT_h0) ⟨callB_of 2 hts (gi kt_147) rfl rfl rfl (hts _ kt_90) (hts _ kt_148) (by decide +kernel) ⟨Nat.le_of_ble_eq_true rfl, Nat.le_of_ble_eq_true rfl⟩, (hts _ kt_149), (hts _ kt_150)⟩ ⟨fun a U g mk q => ⟨q.1, PT.calling q.2⟩, pg_recv hK hP hL_h0 hF_117 (q := (RX10, TX10, 6)) rfl, fun U hU hWm => ⟨rfl, PT.mk hU hWm hP hK hD hE hO⟩⟩ rfl rfl hl.1 rfl (lv_room (Nat.le_of_ble_eq_true rfl)) dX10_readKind_293 ⟨by show _ + 0 ≤ 0; omega, by show _ + 0 ≤ 0; omega⟩) hS (fun q _ h => hFc q h) hFc (fun u t H1 locs ht hvm hw hB hz1 hk1 hS => ?_)
                          obtain ⟨F_119, hB1⟩ := hB
                          obtain ⟨hP, hD, hO, hR⟩ := QT.back hB1 ht hFc hR (fun q h => by simp only [List.mem_cons, List.not_mem_nil, or_false] at h ⊢; omega)
                          generalize H1 = H at hP hS ⊢
                          refine lv_goto (tgt := 305) hx hb dX10_readKind_296 (by decide) ?_
                          refine W.widen (k := 0) (n := 0) (by omega) (by omega) ?_
                          exact W.vret hx hb hr (fun t ht hWm => ⟨⟨(), rfl, trivial, ⟨F_119, QT.mk ht hP hD hO hR⟩⟩, hS.F ht⟩) hS.2.2 dX10_readKind_305
                        ·
                          refine lv_iload hx hb dX10_readKind_282 (lv_at hl 0 rfl) ?_
                          refine lv_iconst (v := 2) hx hb dX10_readKind_284 (by decide) ?_
                          refine lv_iadd hx hb dX10_readKind_285 ?_
                          refine lv_topi (fun x_120 _ => ?_)
                          refine lv_goto (tgt := 293) hx hb dX10_readKind_286 (by decide) ?_
                          have hFc := pg_free hD hS hA
                          obtain ⟨v0_121, v1_122, v2_123, v3_124, v4_125, v5_126, hF_127⟩ := hO.term hL_h0 hT_h0
                          refine va_callv (va_runV (As := [.int 3, .int x_120]) (rest := []) ⟨hx, hb, hml, hown, hts⟩ (s_X10_setKind l dC dI cs ty L H.size F_106 h0 ρ 3 x_120 hW hL_h0 hT_h0) ⟨callB_of 2 hts (gi kt_147) rfl rfl rfl (hts _ kt_90) (hts _ kt_148) (by decide +kernel) ⟨Nat.le_of_ble_eq_true rfl, Nat.le_of_ble_eq_true rfl⟩, (hts _ kt_149), (hts _ kt_150)⟩ ⟨fun a U g mk q => ⟨q.1, PT.calling q.2⟩, pg_recv hK hP hL_h0 hF_127 (q := (RX10, TX10, 6)) rfl, fun U hU hWm => ⟨rfl, PT.mk hU hWm hP hK hD hE hO⟩⟩ rfl rfl hl.1 rfl (lv_room (Nat.le_of_ble_eq_true rfl)) dX10_readKind_293 ⟨by show _ + 0 ≤ 0; omega, by show _ + 0 ≤ 0; omega⟩) hS (fun q _ h => hFc q h) hFc (fun u t H1 locs ht hvm hw hB hz1 hk1 hS => ?_)
                          obtain ⟨F_129, hB1⟩ := hB
                          obtain ⟨hP, hD, hO, hR⟩ := QT.back hB1 ht hFc hR (fun q h => by simp only [List.mem_cons, List.not_mem_nil, or_false] at h ⊢; omega)
                          generalize H1 = H at hP hS ⊢
                          refine lv_goto (tgt := 305) hx hb dX10_readKind_296 (by decide) ?_
                          refine W.widen (k := 0) (n := 0) (by omega) (by omega) ?_
                          exact W.vret hx hb hr (fun t ht hWm => ⟨⟨(), rfl, trivial, ⟨F_129, QT.mk ht hP hD hO hR⟩⟩, hS.F ht⟩) hS.2.2 dX10_readKind_305
                    ·
                      refine lv_aload_n hx hb dX10_readKind_225 rfl (lv_at hl 1 rfl) ?_
                      refine lv_iconst (v := 4) hx hb dX10_readKind_226 (by decide) ?_
                      refine lv_aload_n hx hb dX10_readKind_227 rfl (lv_at hl 2 rfl) ?_
                      refine lv_iload hx hb dX10_readKind_228 (lv_at hl 0 rfl) ?_
                      refine lv_iload_n hx hb dX10_readKind_230 rfl (lv_at hl 4 rfl) ?_
                      obtain ⟨q_130, v_131, hr_q_130, hX_q_130⟩ := hG.2.2.2 ("PostGate$Term", 79, "mx:", 3) (by decide +kernel)
                      obtain ⟨xo_q_130, xc_q_130, xv_q_130, xf_q_130, xt_q_130, xn_q_130⟩ := id hX_q_130
                      refine va_ldcS hx hb hown hr_q_130 dX10_readKind_231 ?_
                      have hFc := pg_free hD hS hA
                      refine va_calli (va_runV (As := [.int w6, .int x3, .ref q_130]) (rest := [.int 4, .ref h0]) ⟨hx, hb, hml, hown, hts⟩ (s_X0_begins l dC dI cs ty L H.size F_83 g1 σ r1 n1 q_130 v_131 3 w6 x3 hW hL_g1 hT_g1) ⟨callB_of 3 hts (gi kt_112) rfl rfl rfl (hts _ kt_1) (hts _ kt_142) (by decide +kernel) ⟨Nat.le_of_ble_eq_true rfl, Nat.le_of_ble_eq_true rfl⟩, (hts _ kt_114), (hts _ kt_115)⟩ ⟨fun a U g mk q => ⟨q.1, PTE.calling q.2⟩, pg_recv hK hP hL_g1 hF_84 (q := (RX0, TX0, 3)) rfl, fun U hU hWm => ⟨rfl, PTE.mk hU hWm hP hK hD hE hO hG (fun x hx => by rw [List.mem_singleton] at hx; subst hx; exact hX_q_130) hS hFc⟩⟩ rfl rfl hl.1 rfl (lv_room (Nat.le_of_ble_eq_true rfl)) dX10_readKind_233 ⟨by show _ + 0 ≤ 0; omega, by show _ + 0 ≤ 0; omega⟩) hS (fun q _ h => hFc q h) hFc (fun r_132 u t H1 locs ht hvm hw hB hz1 hk1 hS => ?_)
                      obtain ⟨F_133, hB1⟩ := hB
                      obtain ⟨hP, hD, hO, hR⟩ := QT.back hB1 ht hFc hR (fun q h => absurd h List.not_mem_nil)
                      have hF_134 : F_133 g1 = .inr (0, [.ref r1, .int (nI z_49), .int o_50]) := (hB1.2.2.2 g1 List.not_mem_nil).trans hF_84
                      generalize H1 = H at hP hS ⊢
                      have hw : (r_132 = 0 ∨ r_132 = 1) := hw
                      have hw_135 := hw
                      refine lv_if_eq (tgt := 246) hx hb dX10_readKind_236 (by decide) (fun c_136 => ?_) (fun c_136 => ?_)
                      ·
                        refine lv_iload hx hb dX10_readKind_246 (lv_at hl 0 rfl) ?_
                        refine lv_iconst (v := 2) hx hb dX10_readKind_248 (by decide) ?_
                        refine lv_iadd hx hb dX10_readKind_249 ?_
                        refine lv_topi (fun x_137 _ => ?_)
                        have hFc := pg_free hD hS hA
                        obtain ⟨v0_138, v1_139, v2_140, v3_141, v4_142, v5_143, hF_144⟩ := hO.term hL_h0 hT_h0
                        refine va_callv (va_runV (As := [.int 4, .int x_137]) (rest := []) ⟨hx, hb, hml, hown, hts⟩ (s_X10_setKind l dC dI cs ty L H.size F_133 h0 ρ 4 x_137 hW hL_h0 hT_h0) ⟨callB_of 2 hts (gi kt_147) rfl rfl rfl (hts _ kt_90) (hts _ kt_148) (by decide +kernel) ⟨Nat.le_of_ble_eq_true rfl, Nat.le_of_ble_eq_true rfl⟩, (hts _ kt_149), (hts _ kt_150)⟩ ⟨fun a U g mk q => ⟨q.1, PT.calling q.2⟩, pg_recv hK hP hL_h0 hF_144 (q := (RX10, TX10, 6)) rfl, fun U hU hWm => ⟨rfl, PT.mk hU hWm hP hK hD hE hO⟩⟩ rfl rfl hl.1 rfl (lv_room (Nat.le_of_ble_eq_true rfl)) dX10_readKind_250 ⟨by show _ + 0 ≤ 0; omega, by show _ + 0 ≤ 0; omega⟩) hS (fun q _ h => hFc q h) hFc (fun u t H1 locs ht hvm hw hB hz1 hk1 hS => ?_)
                        obtain ⟨F_146, hB1⟩ := hB
                        obtain ⟨hP, hD, hO, hR⟩ := QT.back hB1 ht hFc hR (fun q h => by simp only [List.mem_cons, List.not_mem_nil, or_false] at h ⊢; omega)
                        generalize H1 = H at hP hS ⊢
                        refine lv_goto (tgt := 305) hx hb dX10_readKind_253 (by decide) ?_
                        refine W.widen (k := 0) (n := 0) (by omega) (by omega) ?_
                        exact W.vret hx hb hr (fun t ht hWm => ⟨⟨(), rfl, trivial, ⟨F_146, QT.mk ht hP hD hO hR⟩⟩, hS.F ht⟩) hS.2.2 dX10_readKind_305
                      ·
                        refine lv_iload hx hb dX10_readKind_239 (lv_at hl 0 rfl) ?_
                        refine lv_iconst (v := 3) hx hb dX10_readKind_241 (by decide) ?_
                        refine lv_iadd hx hb dX10_readKind_242 ?_
                        refine lv_topi (fun x_147 _ => ?_)
                        refine lv_goto (tgt := 250) hx hb dX10_readKind_243 (by decide) ?_
                        have hFc := pg_free hD hS hA
                        obtain ⟨v0_148, v1_149, v2_150, v3_151, v4_152, v5_153, hF_154⟩ := hO.term hL_h0 hT_h0
                        refine va_callv (va_runV (As := [.int 4, .int x_147]) (rest := []) ⟨hx, hb, hml, hown, hts⟩ (s_X10_setKind l dC dI cs ty L H.size F_133 h0 ρ 4 x_147 hW hL_h0 hT_h0) ⟨callB_of 2 hts (gi kt_147) rfl rfl rfl (hts _ kt_90) (hts _ kt_148) (by decide +kernel) ⟨Nat.le_of_ble_eq_true rfl, Nat.le_of_ble_eq_true rfl⟩, (hts _ kt_149), (hts _ kt_150)⟩ ⟨fun a U g mk q => ⟨q.1, PT.calling q.2⟩, pg_recv hK hP hL_h0 hF_154 (q := (RX10, TX10, 6)) rfl, fun U hU hWm => ⟨rfl, PT.mk hU hWm hP hK hD hE hO⟩⟩ rfl rfl hl.1 rfl (lv_room (Nat.le_of_ble_eq_true rfl)) dX10_readKind_250 ⟨by show _ + 0 ≤ 0; omega, by show _ + 0 ≤ 0; omega⟩) hS (fun q _ h => hFc q h) hFc (fun u t H1 locs ht hvm hw hB hz1 hk1 hS => ?_)
                        obtain ⟨F_156, hB1⟩ := hB
                        obtain ⟨hP, hD, hO, hR⟩ := QT.back hB1 ht hFc hR (fun q h => by simp only [List.mem_cons, List.not_mem_nil, or_false] at h ⊢; omega)
                        generalize H1 = H at hP hS ⊢
                        refine lv_goto (tgt := 305) hx hb dX10_readKind_253 (by decide) ?_
                        refine W.widen (k := 0) (n := 0) (by omega) (by omega) ?_
                        exact W.vret hx hb hr (fun t ht hWm => ⟨⟨(), rfl, trivial, ⟨F_156, QT.mk ht hP hD hO hR⟩⟩, hS.F ht⟩) hS.2.2 dX10_readKind_305
                  ·
                    refine lv_aload_n hx hb dX10_readKind_201 rfl (lv_at hl 1 rfl) ?_
                    refine lv_iconst (v := 5) hx hb dX10_readKind_202 (by decide) ?_
                    refine lv_iload hx hb dX10_readKind_203 (lv_at hl 0 rfl) ?_
                    refine lv_iconst (v := 4) hx hb dX10_readKind_205 (by decide) ?_
                    refine lv_iadd hx hb dX10_readKind_206 ?_
                    refine lv_topi (fun x_157 _ => ?_)
                    have hFc := pg_free hD hS hA
                    obtain ⟨v0_158, v1_159, v2_160, v3_161, v4_162, v5_163, hF_164⟩ := hO.term hL_h0 hT_h0
                    refine va_callv (va_runV (As := [.int 5, .int x_157]) (rest := []) ⟨hx, hb, hml, hown, hts⟩ (s_X10_setKind l dC dI cs ty L H.size F_76 h0 ρ 5 x_157 hW hL_h0 hT_h0) ⟨callB_of 2 hts (gi kt_147) rfl rfl rfl (hts _ kt_90) (hts _ kt_148) (by decide +kernel) ⟨Nat.le_of_ble_eq_true rfl, Nat.le_of_ble_eq_true rfl⟩, (hts _ kt_149), (hts _ kt_150)⟩ ⟨fun a U g mk q => ⟨q.1, PT.calling q.2⟩, pg_recv hK hP hL_h0 hF_164 (q := (RX10, TX10, 6)) rfl, fun U hU hWm => ⟨rfl, PT.mk hU hWm hP hK hD hE hO⟩⟩ rfl rfl hl.1 rfl (lv_room (Nat.le_of_ble_eq_true rfl)) dX10_readKind_207 ⟨by show _ + 0 ≤ 0; omega, by show _ + 0 ≤ 0; omega⟩) hS (fun q _ h => hFc q h) hFc (fun u t H1 locs ht hvm hw hB hz1 hk1 hS => ?_)
                    obtain ⟨F_166, hB1⟩ := hB
                    obtain ⟨hP, hD, hO, hR⟩ := QT.back hB1 ht hFc hR (fun q h => by simp only [List.mem_cons, List.not_mem_nil, or_false] at h ⊢; omega)
                    generalize H1 = H at hP hS ⊢
                    refine lv_goto (tgt := 305) hx hb dX10_readKind_210 (by decide) ?_
                    refine W.widen (k := 0) (n := 0) (by omega) (by omega) ?_
                    exact W.vret hx hb hr (fun t ht hWm => ⟨⟨(), rfl, trivial, ⟨F_166, QT.mk ht hP hD hO hR⟩⟩, hS.F ht⟩) hS.2.2 dX10_readKind_305
                ·
                  refine lv_aload_n hx hb dX10_readKind_175 rfl (lv_at hl 1 rfl) ?_
                  refine lv_bipush (v := 6) hx hb dX10_readKind_176 (by decide) ?_
                  refine lv_iload hx hb dX10_readKind_178 (lv_at hl 0 rfl) ?_
                  refine lv_bipush (v := 7) hx hb dX10_readKind_180 (by decide) ?_
                  refine lv_iadd hx hb dX10_readKind_182 ?_
                  refine lv_topi (fun x_167 _ => ?_)
                  have hFc := pg_free hD hS hA
                  obtain ⟨v0_168, v1_169, v2_170, v3_171, v4_172, v5_173, hF_174⟩ := hO.term hL_h0 hT_h0
                  refine va_callv (va_runV (As := [.int 6, .int x_167]) (rest := []) ⟨hx, hb, hml, hown, hts⟩ (s_X10_setKind l dC dI cs ty L H.size F_69 h0 ρ 6 x_167 hW hL_h0 hT_h0) ⟨callB_of 2 hts (gi kt_147) rfl rfl rfl (hts _ kt_90) (hts _ kt_148) (by decide +kernel) ⟨Nat.le_of_ble_eq_true rfl, Nat.le_of_ble_eq_true rfl⟩, (hts _ kt_149), (hts _ kt_150)⟩ ⟨fun a U g mk q => ⟨q.1, PT.calling q.2⟩, pg_recv hK hP hL_h0 hF_174 (q := (RX10, TX10, 6)) rfl, fun U hU hWm => ⟨rfl, PT.mk hU hWm hP hK hD hE hO⟩⟩ rfl rfl hl.1 rfl (lv_room (Nat.le_of_ble_eq_true rfl)) dX10_readKind_183 ⟨by show _ + 0 ≤ 0; omega, by show _ + 0 ≤ 0; omega⟩) hS (fun q _ h => hFc q h) hFc (fun u t H1 locs ht hvm hw hB hz1 hk1 hS => ?_)
                  obtain ⟨F_176, hB1⟩ := hB
                  obtain ⟨hP, hD, hO, hR⟩ := QT.back hB1 ht hFc hR (fun q h => by simp only [List.mem_cons, List.not_mem_nil, or_false] at h ⊢; omega)
                  generalize H1 = H at hP hS ⊢
                  refine lv_goto (tgt := 305) hx hb dX10_readKind_186 (by decide) ?_
                  refine W.widen (k := 0) (n := 0) (by omega) (by omega) ?_
                  exact W.vret hx hb hr (fun t ht hWm => ⟨⟨(), rfl, trivial, ⟨F_176, QT.mk ht hP hD hO hR⟩⟩, hS.F ht⟩) hS.2.2 dX10_readKind_305
              ·
                refine lv_aload_n hx hb dX10_readKind_150 rfl (lv_at hl 1 rfl) ?_
                refine lv_iconst (v := 2) hx hb dX10_readKind_151 (by decide) ?_
                refine lv_iload hx hb dX10_readKind_152 (lv_at hl 0 rfl) ?_
                refine lv_bipush (v := 8) hx hb dX10_readKind_154 (by decide) ?_
                refine lv_iadd hx hb dX10_readKind_156 ?_
                refine lv_topi (fun x_177 _ => ?_)
                have hFc := pg_free hD hS hA
                obtain ⟨v0_178, v1_179, v2_180, v3_181, v4_182, v5_183, hF_184⟩ := hO.term hL_h0 hT_h0
                refine va_callv (va_runV (As := [.int 2, .int x_177]) (rest := []) ⟨hx, hb, hml, hown, hts⟩ (s_X10_setKind l dC dI cs ty L H.size F_62 h0 ρ 2 x_177 hW hL_h0 hT_h0) ⟨callB_of 2 hts (gi kt_147) rfl rfl rfl (hts _ kt_90) (hts _ kt_148) (by decide +kernel) ⟨Nat.le_of_ble_eq_true rfl, Nat.le_of_ble_eq_true rfl⟩, (hts _ kt_149), (hts _ kt_150)⟩ ⟨fun a U g mk q => ⟨q.1, PT.calling q.2⟩, pg_recv hK hP hL_h0 hF_184 (q := (RX10, TX10, 6)) rfl, fun U hU hWm => ⟨rfl, PT.mk hU hWm hP hK hD hE hO⟩⟩ rfl rfl hl.1 rfl (lv_room (Nat.le_of_ble_eq_true rfl)) dX10_readKind_157 ⟨by show _ + 0 ≤ 0; omega, by show _ + 0 ≤ 0; omega⟩) hS (fun q _ h => hFc q h) hFc (fun u t H1 locs ht hvm hw hB hz1 hk1 hS => ?_)
                obtain ⟨F_186, hB1⟩ := hB
                obtain ⟨hP, hD, hO, hR⟩ := QT.back hB1 ht hFc hR (fun q h => by simp only [List.mem_cons, List.not_mem_nil, or_false] at h ⊢; omega)
                generalize H1 = H at hP hS ⊢
                refine lv_goto (tgt := 305) hx hb dX10_readKind_160 (by decide) ?_
                refine W.widen (k := 0) (n := 0) (by omega) (by omega) ?_
                exact W.vret hx hb hr (fun t ht hWm => ⟨⟨(), rfl, trivial, ⟨F_186, QT.mk ht hP hD hO hR⟩⟩, hS.F ht⟩) hS.2.2 dX10_readKind_305
            ·
              refine lv_aload_n hx hb dX10_readKind_129 rfl (lv_at hl 1 rfl) ?_
              refine lv_iconst (v := 1) hx hb dX10_readKind_130 (by decide) ?_
              refine lv_iload_n hx hb dX10_readKind_131 rfl (lv_at hl 4 rfl) ?_
              have hFc := pg_free hD hS hA
              obtain ⟨v0_187, v1_188, v2_189, v3_190, v4_191, v5_192, hF_193⟩ := hO.term hL_h0 hT_h0
              refine va_callv (va_runV (As := [.int 1, .int x3]) (rest := []) ⟨hx, hb, hml, hown, hts⟩ (s_X10_setKind l dC dI cs ty L H.size F_55 h0 ρ 1 x3 hW hL_h0 hT_h0) ⟨callB_of 2 hts (gi kt_147) rfl rfl rfl (hts _ kt_90) (hts _ kt_148) (by decide +kernel) ⟨Nat.le_of_ble_eq_true rfl, Nat.le_of_ble_eq_true rfl⟩, (hts _ kt_149), (hts _ kt_150)⟩ ⟨fun a U g mk q => ⟨q.1, PT.calling q.2⟩, pg_recv hK hP hL_h0 hF_193 (q := (RX10, TX10, 6)) rfl, fun U hU hWm => ⟨rfl, PT.mk hU hWm hP hK hD hE hO⟩⟩ rfl rfl hl.1 rfl (lv_room (Nat.le_of_ble_eq_true rfl)) dX10_readKind_132 ⟨by show _ + 0 ≤ 0; omega, by show _ + 0 ≤ 0; omega⟩) hS (fun q _ h => hFc q h) hFc (fun u t H1 locs ht hvm hw hB hz1 hk1 hS => ?_)
              obtain ⟨F_195, hB1⟩ := hB
              obtain ⟨hP, hD, hO, hR⟩ := QT.back hB1 ht hFc hR (fun q h => by simp only [List.mem_cons, List.not_mem_nil, or_false] at h ⊢; omega)
              generalize H1 = H at hP hS ⊢
              refine lv_goto (tgt := 305) hx hb dX10_readKind_135 (by decide) ?_
              refine W.widen (k := 0) (n := 0) (by omega) (by omega) ?_
              exact W.vret hx hb hr (fun t ht hWm => ⟨⟨(), rfl, trivial, ⟨F_195, QT.mk ht hP hD hO hR⟩⟩, hS.F ht⟩) hS.2.2 dX10_readKind_305
          ·
            refine lv_iload hx hb dX10_readKind_103 (lv_at hl 0 rfl) ?_
            refine lv_if_eq (tgt := 114) hx hb dX10_readKind_105 (by decide) (fun c_196 => ?_) (fun c_196 => ?_)
            ·
              refine lv_iload_n hx hb dX10_readKind_114 rfl (lv_at hl 3 rfl) ?_
              refine lv_istore (lv' := [(6, .int x2), (5, .int s0), (0, .ref h0), (1, .ref g1), (2, .int x2), (3, .int x3)]) hx hb dX10_readKind_115 hl (by decide) rfl (fun ls hl => ?_)
              refine W.widen (k := 0) (n := 0) (by omega) (by omega) ?_
              exact jn_44 x2 F_42 (trivial) hO hR _ _ hP hD hS ls (lv_sub hl [0, 2, 3, 4, 5] rfl)
            ·
              refine lv_iload_n hx hb dX10_readKind_108 rfl (lv_at hl 3 rfl) ?_
              refine lv_iconst (v := 1) hx hb dX10_readKind_109 (by decide) ?_
              refine lv_iadd hx hb dX10_readKind_110 ?_
              refine lv_topi (fun x_197 _ => ?_)
              refine lv_goto (tgt := 115) hx hb dX10_readKind_111 (by decide) ?_
              refine lv_istore (lv' := [(6, .int x_197), (5, .int s0), (0, .ref h0), (1, .ref g1), (2, .int x2), (3, .int x3)]) hx hb dX10_readKind_115 hl (by decide) rfl (fun ls hl => ?_)
              refine W.widen (k := 0) (n := 0) (by omega) (by omega) ?_
              exact jn_44 x_197 F_42 (trivial) hO hR _ _ hP hD hS ls (lv_sub hl [0, 2, 3, 4, 5] rfl)
        ·
          refine lv_aload_n hx hb dX10_readKind_87 rfl (lv_at hl 2 rfl) ?_
          refine lv_iload hx hb dX10_readKind_88 (lv_at hl 0 rfl) ?_
          refine lv_if_eq (tgt := 98) hx hb dX10_readKind_90 (by decide) (fun c_198 => ?_) (fun c_198 => ?_)
          ·
            refine lv_bipush (v := 43) hx hb dX10_readKind_98 (by decide) ?_
            obtain ⟨v0_199, v1_200, v2_201, v3_202, v4_203, v5_204, hF_205⟩ := hO.term hL_h0 hT_h0
            refine pg_put (ci := 10) (v := .int 43) (ty := .int) (C := RX10) (T := TX10) (N := 6) hx hb hts it_10 tyX10 tyX10_ok nmX10 hown hK hP hD hS hL_h0 hF_205 rfl 1 (by decide) (hts _ kt_141) (fun _ h9 => h9) rfl (by decide +kernel) (rfl) (rfl) (Nat.le_of_ble_eq_true rfl) dX10_readKind_100 (fun H locs hP hD hS => ?_)
            obtain ⟨F_206, he_207, hP, hD, hO, hR⟩ : ∃ G, G = va_up F_39 h0 (.inr (10, [.int v0_199, .int 43, .int v2_201, .int v3_202, .int v4_203, .int v5_204])) ∧ va_P (dC, dI) vwCl (va_pl L G) H ∧ va_D A (va_pl L G) ∧ OK cs ty L G ∧ FR ty [ρ] F G := ⟨_, rfl, hP, hD, hO.up (sh.term hT_h0 ⟨v0_199, 43, v2_201, v3_202, v4_203, v5_204, rfl⟩), hR.up hT_h0 (by simp)⟩
            have hF_208 : F_206 h0 = .inr (10, [.int v0_199, .int 43, .int v2_201, .int v3_202, .int v4_203, .int v5_204]) := by rw [he_207]; exact up_self
            refine W.widen (k := 0) (n := 0) (by omega) (by omega) ?_
            exact jn_41 () F_206 (trivial) hO hR _ _ hP hD hS ls (lv_sub hl [0, 2, 3, 4, 5] rfl)
          ·
            refine lv_iload hx hb dX10_readKind_93 (lv_at hl 1 rfl) ?_
            refine lv_goto (tgt := 100) hx hb dX10_readKind_95 (by decide) ?_
            obtain ⟨v0_209, v1_210, v2_211, v3_212, v4_213, v5_214, hF_215⟩ := hO.term hL_h0 hT_h0
            refine pg_put (ci := 10) (v := .int r_33) (ty := .int) (C := RX10) (T := TX10) (N := 6) hx hb hts it_10 tyX10 tyX10_ok nmX10 hown hK hP hD hS hL_h0 hF_215 rfl 1 (by decide) (hts _ kt_141) (fun _ h9 => h9) rfl (by decide +kernel) (rfl) (rfl) (Nat.le_of_ble_eq_true rfl) dX10_readKind_100 (fun H locs hP hD hS => ?_)
            obtain ⟨F_216, he_217, hP, hD, hO, hR⟩ : ∃ G, G = va_up F_39 h0 (.inr (10, [.int v0_209, .int r_33, .int v2_211, .int v3_212, .int v4_213, .int v5_214])) ∧ va_P (dC, dI) vwCl (va_pl L G) H ∧ va_D A (va_pl L G) ∧ OK cs ty L G ∧ FR ty [ρ] F G := ⟨_, rfl, hP, hD, hO.up (sh.term hT_h0 ⟨v0_209, r_33, v2_211, v3_212, v4_213, v5_214, rfl⟩), hR.up hT_h0 (by simp)⟩
            have hF_218 : F_216 h0 = .inr (10, [.int v0_209, .int r_33, .int v2_211, .int v3_212, .int v4_213, .int v5_214]) := by rw [he_217]; exact up_self
            refine W.widen (k := 0) (n := 0) (by omega) (by omega) ?_
            exact jn_41 () F_216 (trivial) hO hR _ _ hP hD hS ls (lv_sub hl [0, 2, 3, 4, 5] rfl)
      ·
        refine lv_iload hx hb dX10_readKind_52 (lv_at hl 0 rfl) ?_
        refine lv_bipush (v := 43) hx hb dX10_readKind_54 (by decide) ?_
        refine lv_icmp_eq (tgt := 80) hx hb dX10_readKind_56 (by decide) (fun c_219 => ?_) (fun c_219 => ?_)
        ·
          refine lv_iconst (v := 1) hx hb dX10_readKind_80 (by decide) ?_
          refine lv_goto (tgt := 85) hx hb dX10_readKind_81 (by decide) ?_
          refine W.widen (k := 0) (n := 0) (by omega) (by omega) ?_
          exact jn_38 1 F_34 (trivial) hO hR _ _ hP hD hS ls (lv_sub hl [0, 1, 2, 3, 4] rfl)
        ·
          refine lv_iload hx hb dX10_readKind_59 (lv_at hl 0 rfl) ?_
          refine lv_bipush (v := 63) hx hb dX10_readKind_61 (by decide) ?_
          refine lv_icmp_eq (tgt := 80) hx hb dX10_readKind_63 (by decide) (fun c_220 => ?_) (fun c_220 => ?_)
          ·
            refine lv_iconst (v := 1) hx hb dX10_readKind_80 (by decide) ?_
            refine lv_goto (tgt := 85) hx hb dX10_readKind_81 (by decide) ?_
            refine W.widen (k := 0) (n := 0) (by omega) (by omega) ?_
            exact jn_38 1 F_34 (trivial) hO hR _ _ hP hD hS ls (lv_sub hl [0, 1, 2, 3, 4] rfl)
          ·
            refine lv_iload hx hb dX10_readKind_66 (lv_at hl 0 rfl) ?_
            refine lv_bipush (v := 126) hx hb dX10_readKind_68 (by decide) ?_
            refine lv_icmp_eq (tgt := 80) hx hb dX10_readKind_70 (by decide) (fun c_221 => ?_) (fun c_221 => ?_)
            ·
              refine lv_iconst (v := 1) hx hb dX10_readKind_80 (by decide) ?_
              refine lv_goto (tgt := 85) hx hb dX10_readKind_81 (by decide) ?_
              refine W.widen (k := 0) (n := 0) (by omega) (by omega) ?_
              exact jn_38 1 F_34 (trivial) hO hR _ _ hP hD hS ls (lv_sub hl [0, 1, 2, 3, 4] rfl)
            ·
              refine lv_iload hx hb dX10_readKind_73 (lv_at hl 0 rfl) ?_
              refine lv_bipush (v := 45) hx hb dX10_readKind_75 (by decide) ?_
              refine lv_icmp_ne (tgt := 84) hx hb dX10_readKind_77 (by decide) (fun c_222 => ?_) (fun c_222 => ?_)
              ·
                refine lv_iconst (v := 0) hx hb dX10_readKind_84 (by decide) ?_
                refine W.widen (k := 0) (n := 0) (by omega) (by omega) ?_
                exact jn_38 0 F_34 (trivial) hO hR _ _ hP hD hS ls (lv_sub hl [0, 1, 2, 3, 4] rfl)
              ·
                refine lv_iconst (v := 1) hx hb dX10_readKind_80 (by decide) ?_
                refine lv_goto (tgt := 85) hx hb dX10_readKind_81 (by decide) ?_
                refine W.widen (k := 0) (n := 0) (by omega) (by omega) ?_
                exact jn_38 1 F_34 (trivial) hO hR _ _ hP hD hS ls (lv_sub hl [0, 1, 2, 3, 4] rfl)
    ·
      refine lv_aload_n hx hb dX10_readKind_37 rfl (lv_at hl 0 rfl) ?_
      refine lv_bipush (v := 8) hx hb dX10_readKind_38 (by decide) ?_
      refine lv_iload_n hx hb dX10_readKind_40 rfl (lv_at hl 3 rfl) ?_
      have hFc := pg_free hD hS hA
      refine va_callv (va_runV (As := [.int 8, .int x3]) (rest := []) ⟨hx, hb, hml, hown, hts⟩ (s_X10_setKind l dC dI cs ty L H.size F_28 h0 ρ 8 x3 hW hL_h0 hT_h0) ⟨callB_of 2 hts (gi kt_147) rfl rfl rfl (hts _ kt_90) (hts _ kt_148) (by decide +kernel) ⟨Nat.le_of_ble_eq_true rfl, Nat.le_of_ble_eq_true rfl⟩, (hts _ kt_149), (hts _ kt_150)⟩ ⟨fun a U g mk q => ⟨q.1, PT.calling q.2⟩, pg_recv hK hP hL_h0 hF_29 (q := (RX10, TX10, 6)) rfl, fun U hU hWm => ⟨rfl, PT.mk hU hWm hP hK hD hE hO⟩⟩ rfl rfl hl.1 rfl (lv_room (Nat.le_of_ble_eq_true rfl)) dX10_readKind_41 ⟨by show _ + 0 ≤ 0; omega, by show _ + 0 ≤ 0; omega⟩) hS (fun q _ h => hFc q h) hFc (fun u t H1 locs ht hvm hw hB hz1 hk1 hS => ?_)
      obtain ⟨F_224, hB1⟩ := hB
      obtain ⟨hP, hD, hO, hR⟩ := QT.back hB1 ht hFc hR (fun q h => by simp only [List.mem_cons, List.not_mem_nil, or_false] at h ⊢; omega)
      generalize H1 = H at hP hS ⊢
      refine W.widen (k := 0) (n := 0) (by omega) (by omega) ?_
      exact W.vret hx hb hr (fun t ht hWm => ⟨⟨(), rfl, trivial, ⟨F_224, QT.mk ht hP hD hO hR⟩⟩, hS.F ht⟩) hS.2.2 dX10_readKind_44
  ·
    refine lv_aload_n hx hb dX10_readKind_17 rfl (lv_at hl 0 rfl) ?_
    refine lv_bipush (v := 7) hx hb dX10_readKind_18 (by decide) ?_
    refine lv_iload_n hx hb dX10_readKind_20 rfl (lv_at hl 2 rfl) ?_
    refine lv_bipush (v := 9) hx hb dX10_readKind_21 (by decide) ?_
    refine lv_iadd hx hb dX10_readKind_23 ?_
    refine lv_topi (fun x_225 _ => ?_)
    have hFc := pg_free hD hS hA
    refine va_callv (va_runV (As := [.int 7, .int x_225]) (rest := []) ⟨hx, hb, hml, hown, hts⟩ (s_X10_setKind l dC dI cs ty L H.size F_22 h0 ρ 7 x_225 hW hL_h0 hT_h0) ⟨callB_of 2 hts (gi kt_147) rfl rfl rfl (hts _ kt_90) (hts _ kt_148) (by decide +kernel) ⟨Nat.le_of_ble_eq_true rfl, Nat.le_of_ble_eq_true rfl⟩, (hts _ kt_149), (hts _ kt_150)⟩ ⟨fun a U g mk q => ⟨q.1, PT.calling q.2⟩, pg_recv hK hP hL_h0 hF_23 (q := (RX10, TX10, 6)) rfl, fun U hU hWm => ⟨rfl, PT.mk hU hWm hP hK hD hE hO⟩⟩ rfl rfl hl.1 rfl (lv_room (Nat.le_of_ble_eq_true rfl)) dX10_readKind_24 ⟨by show _ + 0 ≤ 0; omega, by show _ + 0 ≤ 0; omega⟩) hS (fun q _ h => hFc q h) hFc (fun u t H1 locs ht hvm hw hB hz1 hk1 hS => ?_)
    obtain ⟨F_227, hB1⟩ := hB
    obtain ⟨hP, hD, hO, hR⟩ := QT.back hB1 ht hFc hR (fun q h => by simp only [List.mem_cons, List.not_mem_nil, or_false] at h ⊢; omega)
    generalize H1 = H at hP hS ⊢
    refine W.widen (k := 0) (n := 0) (by omega) (by omega) ?_
    exact W.vret hx hb hr (fun t ht hWm => ⟨⟨(), rfl, trivial, ⟨F_227, QT.mk ht hP hD hO hR⟩⟩, hS.F ht⟩) hS.2.2 dX10_readKind_27
set_option maxHeartbeats 4000000 in
set_option maxRecDepth 100000 in
theorem s_X10_read (l : Launch) (dC : Nat → ClassId) (dI : Nat → Nat → Nat) (cs : Nat → ClassId) (ty : TyM) (L : List Nat) (sz : Nat) (F : Nat → va_E) (h0 : Nat) (ρ : Nat) (g1 : Nat) (σ : Nat) (r1 : Nat) (n1 : Nat) (t3 : Nat) (x2 : Int32) (hW : WT ty L) (hL_h0 : h0 ∈ L) (hT_h0 : ty h0 = (10, ρ, [])) (hL_g1 : g1 ∈ L) (hT_g1 : ty g1 = (0, σ, [r1, n1])) (ht3 : t3 ≤ 10000) : Met l yX10_read (.code yX10_read cX10_read 6 none :: tb) ({ frames := 7, cells := 0, slots := 0, locals := 158 }) (va_Pc [.ref h0, .ref g1, .int x2, .int (nI t3)] (PTE (dC, dI) cs ty L F sz [])) (va_Qv (fun _ : Unit => True) (fun _ T9 => ∃ F2 : Nat → va_E, QT (dC, dI) cs ty L [ρ] F F2 (va_A (va_pl L F) sz) T9) (va_A (va_pl L F) sz)) 0 0 (va_A (va_pl L F) sz) := by
  refine Met.ofW (cc := cX10_read) (maxL := 6) (ret := none) (by decide) rfl ?_
  intro p e s m args below meth c s₁ B hml hv
  obtain ⟨rfl, ⟨hsz, hP, hK, hD0, hE, hO⟩, hG, hX⟩ := hv
  have hx := B.exec
  have hb := B.bytes
  have hr := B.returns
  have hts : ∀ w ∈ tb, w.before _ s = true := fun w h => atoms_spec (ws := .code yX10_read cX10_read 6 none :: tb) B.pre w (List.mem_cons_of_mem _ h)
  have hown : s.vm.findClass RX10 = some m.cls := findClass_of_methodNamed B.named
  have hlocks := B.notSynchronized
  subst hsz
  have hD := hD0.self (sz := s.heap.size)
  generalize hAe : va_A (va_pl L F) s.heap.size = A at hD hG hX ⊢
  have hA : ∀ q : Nat, s.heap.size ≤ q → A q := fun q h => by rw [← hAe]; exact Or.inr h
  have hS : va_S A s.heap s.heap [] := va_S.rf
  have hR : FR ty [ρ] F F := FR.refl
  have hl := lv_entry ([.ref h0, .ref g1, .int x2, .int (nI t3)]) (n := 6) (Nat.le_of_ble_eq_true rfl)
  rw [lg_entry_eq]
  generalize (lg_sl ([.ref h0, .ref g1, .int x2, .int (nI t3)]) ++ List.replicate (6 - (lg_sl ([.ref h0, .ref g1, .int x2, .int (nI t3)])).length) Slot.unset).toArray = ls at hl ⊢
  have hl : lv_has ls 6 [(0, .ref h0), (1, .ref g1), (2, .int x2), (3, .int (nI t3))] := hl
  refine lv_aload_n hx hb dX10_read_0 rfl (lv_at hl 0 rfl) ?_
  refine lv_aload_n hx hb dX10_read_1 rfl (lv_at hl 1 rfl) ?_
  refine lv_iload_n hx hb dX10_read_2 rfl (lv_at hl 2 rfl) ?_
  refine lv_iload_n hx hb dX10_read_3 rfl (lv_at hl 3 rfl) ?_
  have hFc := pg_free hD hS hA
  obtain ⟨v0_1, v1_2, v2_3, v3_4, v4_5, v5_6, hF_7⟩ := hO.term hL_h0 hT_h0
  refine va_callv (va_runV (As := [.ref g1, .int x2, .int (nI t3)]) (rest := []) ⟨hx, hb, hml, hown, hts⟩ (s_X10_readKind l dC dI cs ty L s.heap.size F h0 ρ g1 σ r1 n1 x2 (nI t3) hW hL_h0 hT_h0 hL_g1 hT_g1) ⟨callB_of 3 hts (gi kt_151) rfl rfl rfl (hts _ kt_90) (hts _ kt_152) (by decide +kernel) ⟨Nat.le_of_ble_eq_true rfl, Nat.le_of_ble_eq_true rfl⟩, (hts _ kt_153), (hts _ kt_154)⟩ ⟨fun a U g mk q => ⟨q.1, PTE.calling q.2⟩, pg_recv hK hP hL_h0 hF_7 (q := (RX10, TX10, 6)) rfl, fun U hU hWm => ⟨rfl, PTE.mk hU hWm hP hK hD hE hO hG (fun x hx => absurd hx List.not_mem_nil) hS hFc⟩⟩ rfl rfl hl.1 rfl (lv_room (Nat.le_of_ble_eq_true rfl)) dX10_read_4 ⟨by show _ + 0 ≤ 0; omega, by show _ + 0 ≤ 0; omega⟩) hS (fun q _ h => hFc q h) hFc (fun u t H1 locs ht hvm hw hB hz1 hk1 hS => ?_)
  obtain ⟨F_9, hB1⟩ := hB
  obtain ⟨hP, hD, hO, hR⟩ := QT.back hB1 ht hFc hR (fun q h => by simp only [List.mem_cons, List.not_mem_nil, or_false] at h ⊢; omega)
  generalize H1 = H at hP hS ⊢
  refine lv_aload_n hx hb dX10_read_7 rfl (lv_at hl 0 rfl) ?_
  refine lv_iload_n hx hb dX10_read_8 rfl (lv_at hl 3 rfl) ?_
  obtain ⟨v0_10, v1_11, v2_12, v3_13, v4_14, v5_15, hF_16⟩ := hO.term hL_h0 hT_h0
  refine pg_put (ci := 10) (v := .int (nI t3)) (ty := .int) (C := RX10) (T := TX10) (N := 6) hx hb hts it_10 tyX10 tyX10_ok nmX10 hown hK hP hD hS hL_h0 hF_16 rfl 3 (by decide) (hts _ kt_155) (fun _ h9 => h9) rfl (by decide +kernel) (rfl) (rfl) (Nat.le_of_ble_eq_true rfl) dX10_read_9 (fun H locs hP hD hS => ?_)
  obtain ⟨F_17, he_18, hP, hD, hO, hR⟩ : ∃ G, G = va_up F_9 h0 (.inr (10, [.int v0_10, .int v1_11, .int v2_12, .int (nI t3), .int v4_14, .int v5_15])) ∧ va_P (dC, dI) vwCl (va_pl L G) H ∧ va_D A (va_pl L G) ∧ OK cs ty L G ∧ FR ty [ρ] F G := ⟨_, rfl, hP, hD, hO.up (sh.term hT_h0 ⟨v0_10, v1_11, v2_12, (nI t3), v4_14, v5_15, rfl⟩), hR.up hT_h0 (by simp)⟩
  have hF_19 : F_17 h0 = .inr (10, [.int v0_10, .int v1_11, .int v2_12, .int (nI t3), .int v4_14, .int v5_15]) := by rw [he_18]; exact up_self
  refine lv_aload_n hx hb dX10_read_12 rfl (lv_at hl 0 rfl) ?_
  refine lv_bipush (v := 32) hx hb dX10_read_13 (by decide) ?_
  refine pg_put (ci := 10) (v := .int 32) (ty := .int) (C := RX10) (T := TX10) (N := 6) hx hb hts it_10 tyX10 tyX10_ok nmX10 hown hK hP hD hS hL_h0 hF_19 rfl 4 (by decide) (hts _ kt_156) (fun _ h9 => h9) rfl (by decide +kernel) (rfl) (rfl) (Nat.le_of_ble_eq_true rfl) dX10_read_15 (fun H locs hP hD hS => ?_)
  obtain ⟨F_20, he_21, hP, hD, hO, hR⟩ : ∃ G, G = va_up F_17 h0 (.inr (10, [.int v0_10, .int v1_11, .int v2_12, .int (nI t3), .int 32, .int v5_15])) ∧ va_P (dC, dI) vwCl (va_pl L G) H ∧ va_D A (va_pl L G) ∧ OK cs ty L G ∧ FR ty [ρ] F G := ⟨_, rfl, hP, hD, hO.up (sh.term hT_h0 ⟨v0_10, v1_11, v2_12, (nI t3), 32, v5_15, rfl⟩), hR.up hT_h0 (by simp)⟩
  have hF_22 : F_20 h0 = .inr (10, [.int v0_10, .int v1_11, .int v2_12, .int (nI t3), .int 32, .int v5_15]) := by rw [he_21]; exact up_self
  refine W.widen (k := 0) (n := 0) (by omega) (by omega) ?_
  refine pl_cut (σ := Int32 × Int32 × Int32 × Nat × Int32 × Int32) A (dC, dI) cs ty L [ρ] F 86 6 (fun (c0, c1, c2, t9, c4, c5) => [(0, .ref h0), (1, .ref g1), (2, .int x2), (3, .int (nI t3))]) (fun (c0, c1, c2, t9, c4, c5) => []) (fun (c0, c1, c2, t9, c4, c5) FF => FF h0 = .inr (10, [.int c0, .int c1, .int c2, .int (nI t9), .int c4, .int c5]) ∧ t9 ≤ 10000) ?_ (fun jn_23 => ?_)
  ·
    rintro ⟨c0, c1, c2, t9, c4, c5⟩ F_24 hv_25 hO hR H locs hP hD hS ls hl
    have hl : lv_has ls 6 [(0, .ref h0), (1, .ref g1), (2, .int x2), (3, .int (nI t3))] := hl
    have hv_25 : F_24 h0 = .inr (10, [.int c0, .int c1, .int c2, .int (nI t9), .int c4, .int c5]) ∧ t9 ≤ 10000 := hv_25
    refine W.eq (g2 := F0 m 86 ls []) rfl ?_
    obtain ⟨hv1a, hv1b⟩ := hv_25
    refine W.widen (k := 0) (n := 0) (by omega) (by omega) ?_
    refine pl_cut (σ := Int32 × Int32 × Int32 × Int32 × Nat × Int32 × Int32) A (dC, dI) cs ty L [ρ] F 109 6 (fun (s4, c0, c1, c2, t9, c4, c5) => [(4, .int s4), (0, .ref h0), (1, .ref g1), (2, .int x2), (3, .int (nI t3))]) (fun (s4, c0, c1, c2, t9, c4, c5) => []) (fun (s4, c0, c1, c2, t9, c4, c5) FF => FF h0 = .inr (10, [.int c0, .int c1, .int c2, .int (nI t9), .int c4, .int c5]) ∧ t9 ≤ 10000) ?_ (fun jn_26 => ?_)
    ·
      rintro ⟨s4, c0, c1, c2, t9, c4, c5⟩ F_27 hv_28 hO hR H locs hP hD hS ls hl
      have hl : lv_has ls 6 [(4, .int s4), (0, .ref h0), (1, .ref g1), (2, .int x2), (3, .int (nI t3))] := hl
      have hv_28 : F_27 h0 = .inr (10, [.int c0, .int c1, .int c2, .int (nI t9), .int c4, .int c5]) ∧ t9 ≤ 10000 := hv_28
      refine W.eq (g2 := F0 m 109 ls []) rfl ?_
      obtain ⟨hv2a, hv2b⟩ := hv_28
      refine W.widen (k := 0) (n := 0) (by omega) (by omega) ?_
      refine pl_cut (σ := Int32) A (dC, dI) cs ty L [ρ] F 275 6 (fun s9 => [(4, .int s9), (0, .ref h0), (1, .ref g1), (2, .int x2), (3, .int (nI t3))]) (fun s9 => []) (fun s9 _ => True) ?_ (fun jn_29 => ?_)
      ·
        rintro s9 F_30 hv_31 hO hR H locs hP hD hS ls hl
        have hl : lv_has ls 6 [(4, .int s9), (0, .ref h0), (1, .ref g1), (2, .int x2), (3, .int (nI t3))] := hl
        have hv_31 : True := hv_31
        refine W.eq (g2 := F0 m 275 ls []) rfl ?_
        refine lv_aload_n hx hb dX10_read_275 rfl (lv_at hl 1 rfl) ?_
        refine lv_iload hx hb dX10_read_276 (lv_at hl 0 rfl) ?_
        refine lv_if_eq (tgt := 288) hx hb dX10_read_278 (by decide) (fun c_32 => ?_) (fun c_32 => ?_)
        ·
          refine lv_iconst (v := 0) hx hb dX10_read_288 (by decide) ?_
          obtain ⟨v0_33, v1_34, v2_35, v3_36, v4_37, v5_38, hF_39⟩ := hO.term hL_h0 hT_h0
          refine pg_put (ci := 10) (v := .int 0) (ty := .int) (C := RX10) (T := TX10) (N := 6) hx hb hts it_10 tyX10 tyX10_ok nmX10 hown hK hP hD hS hL_h0 hF_39 rfl 0 (by decide) (hts _ kt_127) (fun _ h9 => h9) rfl (by decide +kernel) (rfl) (rfl) (Nat.le_of_ble_eq_true rfl) dX10_read_289 (fun H locs hP hD hS => ?_)
          obtain ⟨F_40, he_41, hP, hD, hO, hR⟩ : ∃ G, G = va_up F_30 h0 (.inr (10, [.int 0, .int v1_34, .int v2_35, .int v3_36, .int v4_37, .int v5_38])) ∧ va_P (dC, dI) vwCl (va_pl L G) H ∧ va_D A (va_pl L G) ∧ OK cs ty L G ∧ FR ty [ρ] F G := ⟨_, rfl, hP, hD, hO.up (sh.term hT_h0 ⟨0, v1_34, v2_35, v3_36, v4_37, v5_38, rfl⟩), hR.up hT_h0 (by simp)⟩
          have hF_42 : F_40 h0 = .inr (10, [.int 0, .int v1_34, .int v2_35, .int v3_36, .int v4_37, .int v5_38]) := by rw [he_41]; exact up_self
          refine W.widen (k := 0) (n := 0) (by omega) (by omega) ?_
          exact W.vret hx hb hr (fun t ht hWm => ⟨⟨(), rfl, trivial, ⟨F_40, QT.mk ht hP hD hO hR⟩⟩, hS.F ht⟩) hS.2.2 dX10_read_292
        ·
          refine lv_aload_n hx hb dX10_read_281 rfl (lv_at hl 1 rfl) ?_
          obtain ⟨v0_43, v1_44, v2_45, v3_46, v4_47, v5_48, hF_49⟩ := hO.term hL_h0 hT_h0
          refine pg_get (ci := 10) (v := .int v0_43) (C := RX10) (T := TX10) (N := 6) hx hb hts it_10 hown hK hP hL_h0 hF_49 rfl 0 (by decide) (hts _ kt_127) (fun _ h9 => h9) rfl dX10_read_282 ?_
          refine lv_goto (tgt := 289) hx hb dX10_read_285 (by decide) ?_
          refine pg_put (ci := 10) (v := .int v0_43) (ty := .int) (C := RX10) (T := TX10) (N := 6) hx hb hts it_10 tyX10 tyX10_ok nmX10 hown hK hP hD hS hL_h0 hF_49 rfl 0 (by decide) (hts _ kt_127) (fun _ h9 => h9) rfl (by decide +kernel) (rfl) (rfl) (Nat.le_of_ble_eq_true rfl) dX10_read_289 (fun H locs hP hD hS => ?_)
          obtain ⟨F_50, he_51, hP, hD, hO, hR⟩ : ∃ G, G = va_up F_30 h0 (.inr (10, [.int v0_43, .int v1_44, .int v2_45, .int v3_46, .int v4_47, .int v5_48])) ∧ va_P (dC, dI) vwCl (va_pl L G) H ∧ va_D A (va_pl L G) ∧ OK cs ty L G ∧ FR ty [ρ] F G := ⟨_, rfl, hP, hD, hO.up (sh.term hT_h0 ⟨v0_43, v1_44, v2_45, v3_46, v4_47, v5_48, rfl⟩), hR.up hT_h0 (by simp)⟩
          have hF_52 : F_50 h0 = .inr (10, [.int v0_43, .int v1_44, .int v2_45, .int v3_46, .int v4_47, .int v5_48]) := by rw [he_51]; exact up_self
          refine W.widen (k := 0) (n := 0) (by omega) (by omega) ?_
          exact W.vret hx hb hr (fun t ht hWm => ⟨⟨(), rfl, trivial, ⟨F_50, QT.mk ht hP hD hO hR⟩⟩, hS.F ht⟩) hS.2.2 dX10_read_292
      ·
        refine lv_aload_n hx hb dX10_read_109 rfl (lv_at hl 1 rfl) ?_
        refine pg_get (ci := 10) (v := .int c0) (C := RX10) (T := TX10) (N := 6) hx hb hts it_10 hown hK hP hL_h0 hv2a rfl 0 (by decide) (hts _ kt_127) (fun _ h9 => h9) rfl dX10_read_110 ?_
        refine lv_iconst (v := 5) hx hb dX10_read_113 (by decide) ?_
        refine lv_icmp_ne (tgt := 148) hx hb dX10_read_114 (by decide) (fun c_53 => ?_) (fun c_53 => ?_)
        ·
          refine lv_aload_n hx hb dX10_read_148 rfl (lv_at hl 1 rfl) ?_
          refine pg_get (ci := 10) (v := .int c0) (C := RX10) (T := TX10) (N := 6) hx hb hts it_10 hown hK hP hL_h0 hv2a rfl 0 (by decide) (hts _ kt_127) (fun _ h9 => h9) rfl dX10_read_149 ?_
          refine lv_iconst (v := 3) hx hb dX10_read_152 (by decide) ?_
          refine lv_icmp_eq (tgt := 164) hx hb dX10_read_153 (by decide) (fun c_54 => ?_) (fun c_54 => ?_)
          ·
            refine lv_aload_n hx hb dX10_read_164 rfl (lv_at hl 2 rfl) ?_
            refine lv_aload_n hx hb dX10_read_165 rfl (lv_at hl 1 rfl) ?_
            refine pg_get (ci := 10) (v := .int c2) (C := RX10) (T := TX10) (N := 6) hx hb hts it_10 hown hK hP hL_h0 hv2a rfl 2 (by decide) (hts _ kt_128) (fun _ h9 => h9) rfl dX10_read_166 ?_
            refine lv_iconst (v := 1) hx hb dX10_read_169 (by decide) ?_
            refine lv_isub hx hb dX10_read_170 ?_
            refine lv_topi (fun x_55 _ => ?_)
            have hFc := pg_free hD hS hA
            obtain ⟨hi_56, ht_57, hq_58⟩ := hW.bytes hL_g1 hT_g1
            obtain ⟨z_59, o_60, hF_61, hq_62, hq_63⟩ := hO.bytes hL_g1 hT_g1
            refine va_calli (va_runV (As := [.int x_55]) (rest := []) ⟨hx, hb, hml, hown, hts⟩ (s_X0_at l dC dI cs ty L H.size F_27 g1 σ r1 n1 x_55 hW hL_g1 hT_g1) ⟨callB_of 1 hts (gi kt_21) rfl rfl rfl (hts _ kt_1) (hts _ kt_129) (by decide +kernel) ⟨Nat.le_of_ble_eq_true rfl, Nat.le_of_ble_eq_true rfl⟩, (hts _ kt_23), (hts _ kt_24)⟩ ⟨fun a U g mk q => ⟨q.1, PT.calling q.2⟩, pg_recv hK hP hL_g1 hF_61 (q := (RX0, TX0, 3)) rfl, fun U hU hWm => ⟨rfl, PT.mk hU hWm hP hK hD hE hO⟩⟩ rfl rfl hl.1 rfl (lv_room (Nat.le_of_ble_eq_true rfl)) dX10_read_171 ⟨by show _ + 0 ≤ 0; omega, by show _ + 0 ≤ 0; omega⟩) hS (fun q _ h => hFc q h) hFc (fun r_64 u t H1 locs ht hvm hw hB hz1 hk1 hS => ?_)
            obtain ⟨F_65, hB1⟩ := hB
            obtain ⟨hP, hD, hO, hR⟩ := QT.back hB1 ht hFc hR (fun q h => absurd h List.not_mem_nil)
            have hF_66 : F_65 h0 = .inr (10, [.int c0, .int c1, .int c2, .int (nI t9), .int c4, .int c5]) := (hB1.2.2.2 h0 List.not_mem_nil).trans hv2a
            have hF_67 : F_65 g1 = .inr (0, [.ref r1, .int (nI z_59), .int o_60]) := (hB1.2.2.2 g1 List.not_mem_nil).trans hF_61
            generalize H1 = H at hP hS ⊢
            have hw : True := hw
            have hw_68 := hw
            refine lv_bipush (v := 58) hx hb dX10_read_174 (by decide) ?_
            refine lv_icmp_eq (tgt := 183) hx hb dX10_read_176 (by decide) (fun c_69 => ?_) (fun c_69 => ?_)
            ·
              refine lv_iconst (v := 0) hx hb dX10_read_183 (by decide) ?_
              refine lv_istore (lv' := [(5, .int 0), (4, .int s4), (0, .ref h0), (1, .ref g1), (2, .int x2), (3, .int (nI t3))]) hx hb dX10_read_184 hl (by decide) rfl (fun ls hl => ?_)
              refine lv_iload hx hb dX10_read_186 (lv_at hl 1 rfl) ?_
              refine lv_if_eq (tgt := 229) hx hb dX10_read_188 (by decide) (fun c_70 => ?_) (fun c_70 => ?_)
              ·
                refine lv_iconst (v := 0) hx hb dX10_read_229 (by decide) ?_
                refine lv_istore (lv' := [(4, .int 0), (5, .int 0), (0, .ref h0), (1, .ref g1), (2, .int x2), (3, .int (nI t3))]) hx hb dX10_read_230 hl (by decide) rfl (fun ls hl => ?_)
                refine lv_goto (tgt := 275) hx hb dX10_read_232 (by decide) ?_
                refine W.widen (k := 0) (n := 0) (by omega) (by omega) ?_
                exact jn_29 0 F_65 (trivial) hO hR _ _ hP hD hS ls (lv_sub hl [0, 2, 3, 4, 5] rfl)
              ·
                refine lv_iload hx hb dX10_read_191 (lv_at hl 0 rfl) ?_
                refine lv_if_eq (tgt := 210) hx hb dX10_read_193 (by decide) (fun c_71 => ?_) (fun c_71 => absurd (by decide) c_71)
                refine lv_aload_n hx hb dX10_read_210 rfl (lv_at hl 3 rfl) ?_
                refine lv_aload_n hx hb dX10_read_211 rfl (lv_at hl 2 rfl) ?_
                refine pg_get (ci := 10) (v := .int c2) (C := RX10) (T := TX10) (N := 6) hx hb hts it_10 hown hK hP hL_h0 hF_66 rfl 2 (by decide) (hts _ kt_128) (fun _ h9 => h9) rfl dX10_read_212 ?_
                refine lv_aload_n hx hb dX10_read_215 rfl (lv_at hl 2 rfl) ?_
                refine pg_get (ci := 10) (v := .int (nI t9)) (C := RX10) (T := TX10) (N := 6) hx hb hts it_10 hown hK hP hL_h0 hF_66 rfl 3 (by decide) (hts _ kt_155) (fun _ h9 => h9) rfl dX10_read_216 ?_
                have hFc := pg_free hD hS hA
                refine va_calli (va_runS (As := [.ref g1, .int c2, .int (nI t9)]) (rest := []) ⟨hx, hb, hml, hown, hts⟩ (s_X10_isHost l dC dI cs ty L H.size F_65 g1 σ r1 n1 t9 c2 hW hL_g1 hT_g1 (by omega)) ⟨callB_of 3 hts (gi kt_157) rfl rfl rfl (hts _ kt_90) (hts _ kt_158) (by decide +kernel) ⟨Nat.le_of_ble_eq_true rfl, Nat.le_of_ble_eq_true rfl⟩, (hts _ kt_159)⟩ ⟨fun a U g mk q => ⟨q.1, PT.calling q.2⟩, fun U hU hWm => ⟨rfl, PT.mk hU hWm hP hK hD hE hO⟩⟩ rfl rfl hl.1 rfl (lv_room (Nat.le_of_ble_eq_true rfl)) dX10_read_219 ⟨by show _ + 0 ≤ 0; omega, by show _ + 0 ≤ 0; omega⟩) hS (fun q _ h => hFc q h) hFc (fun r_72 u t H1 locs ht hvm hw hB hz1 hk1 hS => ?_)
                obtain ⟨F_73, hB1⟩ := hB
                obtain ⟨hP, hD, hO, hR⟩ := QT.back hB1 ht hFc hR (fun q h => absurd h List.not_mem_nil)
                have hF_74 : F_73 h0 = .inr (10, [.int c0, .int c1, .int c2, .int (nI t9), .int c4, .int c5]) := (hB1.2.2.2 h0 List.not_mem_nil).trans hF_66
                have hF_75 : F_73 g1 = .inr (0, [.ref r1, .int (nI z_59), .int o_60]) := (hB1.2.2.2 g1 List.not_mem_nil).trans hF_67
                generalize H1 = H at hP hS ⊢
                have hw : (r_72 = 0 ∨ r_72 = 1) := hw
                have hw_76 := hw
                refine lv_if_eq (tgt := 229) hx hb dX10_read_222 (by decide) (fun c_77 => ?_) (fun c_77 => ?_)
                ·
                  refine lv_iconst (v := 0) hx hb dX10_read_229 (by decide) ?_
                  refine lv_istore (lv' := [(4, .int 0), (5, .int 0), (0, .ref h0), (1, .ref g1), (2, .int x2), (3, .int (nI t3))]) hx hb dX10_read_230 hl (by decide) rfl (fun ls hl => ?_)
                  refine lv_goto (tgt := 275) hx hb dX10_read_232 (by decide) ?_
                  refine W.widen (k := 0) (n := 0) (by omega) (by omega) ?_
                  exact jn_29 0 F_73 (trivial) hO hR _ _ hP hD hS ls (lv_sub hl [0, 2, 3, 4, 5] rfl)
                ·
                  refine lv_iconst (v := 1) hx hb dX10_read_225 (by decide) ?_
                  refine lv_goto (tgt := 230) hx hb dX10_read_226 (by decide) ?_
                  refine lv_istore (lv' := [(4, .int 1), (5, .int 0), (0, .ref h0), (1, .ref g1), (2, .int x2), (3, .int (nI t3))]) hx hb dX10_read_230 hl (by decide) rfl (fun ls hl => ?_)
                  refine lv_goto (tgt := 275) hx hb dX10_read_232 (by decide) ?_
                  refine W.widen (k := 0) (n := 0) (by omega) (by omega) ?_
                  exact jn_29 1 F_73 (trivial) hO hR _ _ hP hD hS ls (lv_sub hl [0, 2, 3, 4, 5] rfl)
            ·
              refine lv_iconst (v := 1) hx hb dX10_read_179 (by decide) ?_
              refine lv_goto (tgt := 184) hx hb dX10_read_180 (by decide) ?_
              refine lv_istore (lv' := [(5, .int 1), (4, .int s4), (0, .ref h0), (1, .ref g1), (2, .int x2), (3, .int (nI t3))]) hx hb dX10_read_184 hl (by decide) rfl (fun ls hl => ?_)
              refine lv_iload hx hb dX10_read_186 (lv_at hl 1 rfl) ?_
              refine lv_if_eq (tgt := 229) hx hb dX10_read_188 (by decide) (fun c_78 => ?_) (fun c_78 => ?_)
              ·
                refine lv_iconst (v := 0) hx hb dX10_read_229 (by decide) ?_
                refine lv_istore (lv' := [(4, .int 0), (5, .int 1), (0, .ref h0), (1, .ref g1), (2, .int x2), (3, .int (nI t3))]) hx hb dX10_read_230 hl (by decide) rfl (fun ls hl => ?_)
                refine lv_goto (tgt := 275) hx hb dX10_read_232 (by decide) ?_
                refine W.widen (k := 0) (n := 0) (by omega) (by omega) ?_
                exact jn_29 0 F_65 (trivial) hO hR _ _ hP hD hS ls (lv_sub hl [0, 2, 3, 4, 5] rfl)
              ·
                refine lv_iload hx hb dX10_read_191 (lv_at hl 0 rfl) ?_
                refine lv_if_eq (tgt := 210) hx hb dX10_read_193 (by decide) (fun c_79 => absurd c_79 (by decide)) (fun c_79 => ?_)
                refine lv_aload_n hx hb dX10_read_196 rfl (lv_at hl 2 rfl) ?_
                refine pg_get (ci := 10) (v := .int c2) (C := RX10) (T := TX10) (N := 6) hx hb hts it_10 hown hK hP hL_h0 hF_66 rfl 2 (by decide) (hts _ kt_128) (fun _ h9 => h9) rfl dX10_read_197 ?_
                refine lv_aload_n hx hb dX10_read_200 rfl (lv_at hl 2 rfl) ?_
                refine pg_get (ci := 10) (v := .int (nI t9)) (C := RX10) (T := TX10) (N := 6) hx hb hts it_10 hown hK hP hL_h0 hF_66 rfl 3 (by decide) (hts _ kt_155) (fun _ h9 => h9) rfl dX10_read_201 ?_
                refine lv_icmp_ne (tgt := 229) hx hb dX10_read_204 (by decide) (fun c_80 => ?_) (fun c_80 => ?_)
                ·
                  refine lv_iconst (v := 0) hx hb dX10_read_229 (by decide) ?_
                  refine lv_istore (lv' := [(4, .int 0), (5, .int 1), (0, .ref h0), (1, .ref g1), (2, .int x2), (3, .int (nI t3))]) hx hb dX10_read_230 hl (by decide) rfl (fun ls hl => ?_)
                  refine lv_goto (tgt := 275) hx hb dX10_read_232 (by decide) ?_
                  refine W.widen (k := 0) (n := 0) (by omega) (by omega) ?_
                  exact jn_29 0 F_65 (trivial) hO hR _ _ hP hD hS ls (lv_sub hl [0, 2, 3, 4, 5] rfl)
                ·
                  refine lv_goto (tgt := 225) hx hb dX10_read_207 (by decide) ?_
                  refine lv_iconst (v := 1) hx hb dX10_read_225 (by decide) ?_
                  refine lv_goto (tgt := 230) hx hb dX10_read_226 (by decide) ?_
                  refine lv_istore (lv' := [(4, .int 1), (5, .int 1), (0, .ref h0), (1, .ref g1), (2, .int x2), (3, .int (nI t3))]) hx hb dX10_read_230 hl (by decide) rfl (fun ls hl => ?_)
                  refine lv_goto (tgt := 275) hx hb dX10_read_232 (by decide) ?_
                  refine W.widen (k := 0) (n := 0) (by omega) (by omega) ?_
                  exact jn_29 1 F_65 (trivial) hO hR _ _ hP hD hS ls (lv_sub hl [0, 2, 3, 4, 5] rfl)
          ·
            refine lv_aload_n hx hb dX10_read_156 rfl (lv_at hl 1 rfl) ?_
            refine pg_get (ci := 10) (v := .int c0) (C := RX10) (T := TX10) (N := 6) hx hb hts it_10 hown hK hP hL_h0 hv2a rfl 0 (by decide) (hts _ kt_127) (fun _ h9 => h9) rfl dX10_read_157 ?_
            refine lv_iconst (v := 4) hx hb dX10_read_160 (by decide) ?_
            refine lv_icmp_ne (tgt := 235) hx hb dX10_read_161 (by decide) (fun c_81 => ?_) (fun c_81 => ?_)
            ·
              refine lv_aload_n hx hb dX10_read_235 rfl (lv_at hl 1 rfl) ?_
              refine pg_get (ci := 10) (v := .int c0) (C := RX10) (T := TX10) (N := 6) hx hb hts it_10 hown hK hP hL_h0 hv2a rfl 0 (by decide) (hts _ kt_127) (fun _ h9 => h9) rfl dX10_read_236 ?_
              refine lv_iconst (v := 2) hx hb dX10_read_239 (by decide) ?_
              refine lv_icmp_eq (tgt := 261) hx hb dX10_read_240 (by decide) (fun c_82 => ?_) (fun c_82 => ?_)
              ·
                refine lv_aload_n hx hb dX10_read_261 rfl (lv_at hl 2 rfl) ?_
                refine lv_aload_n hx hb dX10_read_262 rfl (lv_at hl 1 rfl) ?_
                refine pg_get (ci := 10) (v := .int c2) (C := RX10) (T := TX10) (N := 6) hx hb hts it_10 hown hK hP hL_h0 hv2a rfl 2 (by decide) (hts _ kt_128) (fun _ h9 => h9) rfl dX10_read_263 ?_
                refine lv_aload_n hx hb dX10_read_266 rfl (lv_at hl 1 rfl) ?_
                refine pg_get (ci := 10) (v := .int (nI t9)) (C := RX10) (T := TX10) (N := 6) hx hb hts it_10 hown hK hP hL_h0 hv2a rfl 3 (by decide) (hts _ kt_155) (fun _ h9 => h9) rfl dX10_read_267 ?_
                have hFc := pg_free hD hS hA
                refine va_calli (va_runS (As := [.ref g1, .int c2, .int (nI t9)]) (rest := []) ⟨hx, hb, hml, hown, hts⟩ (s_X10_isHost l dC dI cs ty L H.size F_27 g1 σ r1 n1 t9 c2 hW hL_g1 hT_g1 (by omega)) ⟨callB_of 3 hts (gi kt_157) rfl rfl rfl (hts _ kt_90) (hts _ kt_158) (by decide +kernel) ⟨Nat.le_of_ble_eq_true rfl, Nat.le_of_ble_eq_true rfl⟩, (hts _ kt_159)⟩ ⟨fun a U g mk q => ⟨q.1, PT.calling q.2⟩, fun U hU hWm => ⟨rfl, PT.mk hU hWm hP hK hD hE hO⟩⟩ rfl rfl hl.1 rfl (lv_room (Nat.le_of_ble_eq_true rfl)) dX10_read_270 ⟨by show _ + 0 ≤ 0; omega, by show _ + 0 ≤ 0; omega⟩) hS (fun q _ h => hFc q h) hFc (fun r_83 u t H1 locs ht hvm hw hB hz1 hk1 hS => ?_)
                obtain ⟨F_84, hB1⟩ := hB
                obtain ⟨hP, hD, hO, hR⟩ := QT.back hB1 ht hFc hR (fun q h => absurd h List.not_mem_nil)
                have hF_85 : F_84 h0 = .inr (10, [.int c0, .int c1, .int c2, .int (nI t9), .int c4, .int c5]) := (hB1.2.2.2 h0 List.not_mem_nil).trans hv2a
                generalize H1 = H at hP hS ⊢
                have hw : (r_83 = 0 ∨ r_83 = 1) := hw
                have hw_86 := hw
                refine lv_istore (lv' := [(4, .int r_83), (0, .ref h0), (1, .ref g1), (2, .int x2), (3, .int (nI t3))]) hx hb dX10_read_273 hl (by decide) rfl (fun ls hl => ?_)
                refine W.widen (k := 0) (n := 0) (by omega) (by omega) ?_
                exact jn_29 r_83 F_84 (trivial) hO hR _ _ hP hD hS ls (lv_sub hl [0, 1, 2, 3, 4] rfl)
              ·
                refine lv_aload_n hx hb dX10_read_243 rfl (lv_at hl 1 rfl) ?_
                refine pg_get (ci := 10) (v := .int c0) (C := RX10) (T := TX10) (N := 6) hx hb hts it_10 hown hK hP hL_h0 hv2a rfl 0 (by decide) (hts _ kt_127) (fun _ h9 => h9) rfl dX10_read_244 ?_
                refine lv_bipush (v := 6) hx hb dX10_read_247 (by decide) ?_
                refine lv_icmp_eq (tgt := 261) hx hb dX10_read_249 (by decide) (fun c_87 => ?_) (fun c_87 => ?_)
                ·
                  refine lv_aload_n hx hb dX10_read_261 rfl (lv_at hl 2 rfl) ?_
                  refine lv_aload_n hx hb dX10_read_262 rfl (lv_at hl 1 rfl) ?_
                  refine pg_get (ci := 10) (v := .int c2) (C := RX10) (T := TX10) (N := 6) hx hb hts it_10 hown hK hP hL_h0 hv2a rfl 2 (by decide) (hts _ kt_128) (fun _ h9 => h9) rfl dX10_read_263 ?_
                  refine lv_aload_n hx hb dX10_read_266 rfl (lv_at hl 1 rfl) ?_
                  refine pg_get (ci := 10) (v := .int (nI t9)) (C := RX10) (T := TX10) (N := 6) hx hb hts it_10 hown hK hP hL_h0 hv2a rfl 3 (by decide) (hts _ kt_155) (fun _ h9 => h9) rfl dX10_read_267 ?_
                  have hFc := pg_free hD hS hA
                  refine va_calli (va_runS (As := [.ref g1, .int c2, .int (nI t9)]) (rest := []) ⟨hx, hb, hml, hown, hts⟩ (s_X10_isHost l dC dI cs ty L H.size F_27 g1 σ r1 n1 t9 c2 hW hL_g1 hT_g1 (by omega)) ⟨callB_of 3 hts (gi kt_157) rfl rfl rfl (hts _ kt_90) (hts _ kt_158) (by decide +kernel) ⟨Nat.le_of_ble_eq_true rfl, Nat.le_of_ble_eq_true rfl⟩, (hts _ kt_159)⟩ ⟨fun a U g mk q => ⟨q.1, PT.calling q.2⟩, fun U hU hWm => ⟨rfl, PT.mk hU hWm hP hK hD hE hO⟩⟩ rfl rfl hl.1 rfl (lv_room (Nat.le_of_ble_eq_true rfl)) dX10_read_270 ⟨by show _ + 0 ≤ 0; omega, by show _ + 0 ≤ 0; omega⟩) hS (fun q _ h => hFc q h) hFc (fun r_88 u t H1 locs ht hvm hw hB hz1 hk1 hS => ?_)
                  obtain ⟨F_89, hB1⟩ := hB
                  obtain ⟨hP, hD, hO, hR⟩ := QT.back hB1 ht hFc hR (fun q h => absurd h List.not_mem_nil)
                  have hF_90 : F_89 h0 = .inr (10, [.int c0, .int c1, .int c2, .int (nI t9), .int c4, .int c5]) := (hB1.2.2.2 h0 List.not_mem_nil).trans hv2a
                  generalize H1 = H at hP hS ⊢
                  have hw : (r_88 = 0 ∨ r_88 = 1) := hw
                  have hw_91 := hw
                  refine lv_istore (lv' := [(4, .int r_88), (0, .ref h0), (1, .ref g1), (2, .int x2), (3, .int (nI t3))]) hx hb dX10_read_273 hl (by decide) rfl (fun ls hl => ?_)
                  refine W.widen (k := 0) (n := 0) (by omega) (by omega) ?_
                  exact jn_29 r_88 F_89 (trivial) hO hR _ _ hP hD hS ls (lv_sub hl [0, 1, 2, 3, 4] rfl)
                ·
                  refine lv_aload_n hx hb dX10_read_252 rfl (lv_at hl 1 rfl) ?_
                  refine pg_get (ci := 10) (v := .int c0) (C := RX10) (T := TX10) (N := 6) hx hb hts it_10 hown hK hP hL_h0 hv2a rfl 0 (by decide) (hts _ kt_127) (fun _ h9 => h9) rfl dX10_read_253 ?_
                  refine lv_bipush (v := 7) hx hb dX10_read_256 (by decide) ?_
                  refine lv_icmp_ne (tgt := 275) hx hb dX10_read_258 (by decide) (fun c_92 => ?_) (fun c_92 => ?_)
                  ·
                    refine W.widen (k := 0) (n := 0) (by omega) (by omega) ?_
                    exact jn_29 s4 F_27 (trivial) hO hR _ _ hP hD hS ls (lv_sub hl [0, 1, 2, 3, 4] rfl)
                  ·
                    refine lv_aload_n hx hb dX10_read_261 rfl (lv_at hl 2 rfl) ?_
                    refine lv_aload_n hx hb dX10_read_262 rfl (lv_at hl 1 rfl) ?_
                    refine pg_get (ci := 10) (v := .int c2) (C := RX10) (T := TX10) (N := 6) hx hb hts it_10 hown hK hP hL_h0 hv2a rfl 2 (by decide) (hts _ kt_128) (fun _ h9 => h9) rfl dX10_read_263 ?_
                    refine lv_aload_n hx hb dX10_read_266 rfl (lv_at hl 1 rfl) ?_
                    refine pg_get (ci := 10) (v := .int (nI t9)) (C := RX10) (T := TX10) (N := 6) hx hb hts it_10 hown hK hP hL_h0 hv2a rfl 3 (by decide) (hts _ kt_155) (fun _ h9 => h9) rfl dX10_read_267 ?_
                    have hFc := pg_free hD hS hA
                    refine va_calli (va_runS (As := [.ref g1, .int c2, .int (nI t9)]) (rest := []) ⟨hx, hb, hml, hown, hts⟩ (s_X10_isHost l dC dI cs ty L H.size F_27 g1 σ r1 n1 t9 c2 hW hL_g1 hT_g1 (by omega)) ⟨callB_of 3 hts (gi kt_157) rfl rfl rfl (hts _ kt_90) (hts _ kt_158) (by decide +kernel) ⟨Nat.le_of_ble_eq_true rfl, Nat.le_of_ble_eq_true rfl⟩, (hts _ kt_159)⟩ ⟨fun a U g mk q => ⟨q.1, PT.calling q.2⟩, fun U hU hWm => ⟨rfl, PT.mk hU hWm hP hK hD hE hO⟩⟩ rfl rfl hl.1 rfl (lv_room (Nat.le_of_ble_eq_true rfl)) dX10_read_270 ⟨by show _ + 0 ≤ 0; omega, by show _ + 0 ≤ 0; omega⟩) hS (fun q _ h => hFc q h) hFc (fun r_93 u t H1 locs ht hvm hw hB hz1 hk1 hS => ?_)
                    obtain ⟨F_94, hB1⟩ := hB
                    obtain ⟨hP, hD, hO, hR⟩ := QT.back hB1 ht hFc hR (fun q h => absurd h List.not_mem_nil)
                    have hF_95 : F_94 h0 = .inr (10, [.int c0, .int c1, .int c2, .int (nI t9), .int c4, .int c5]) := (hB1.2.2.2 h0 List.not_mem_nil).trans hv2a
                    generalize H1 = H at hP hS ⊢
                    have hw : (r_93 = 0 ∨ r_93 = 1) := hw
                    have hw_96 := hw
                    refine lv_istore (lv' := [(4, .int r_93), (0, .ref h0), (1, .ref g1), (2, .int x2), (3, .int (nI t3))]) hx hb dX10_read_273 hl (by decide) rfl (fun ls hl => ?_)
                    refine W.widen (k := 0) (n := 0) (by omega) (by omega) ?_
                    exact jn_29 r_93 F_94 (trivial) hO hR _ _ hP hD hS ls (lv_sub hl [0, 1, 2, 3, 4] rfl)
            ·
              refine lv_aload_n hx hb dX10_read_164 rfl (lv_at hl 2 rfl) ?_
              refine lv_aload_n hx hb dX10_read_165 rfl (lv_at hl 1 rfl) ?_
              refine pg_get (ci := 10) (v := .int c2) (C := RX10) (T := TX10) (N := 6) hx hb hts it_10 hown hK hP hL_h0 hv2a rfl 2 (by decide) (hts _ kt_128) (fun _ h9 => h9) rfl dX10_read_166 ?_
              refine lv_iconst (v := 1) hx hb dX10_read_169 (by decide) ?_
              refine lv_isub hx hb dX10_read_170 ?_
              refine lv_topi (fun x_97 _ => ?_)
              have hFc := pg_free hD hS hA
              obtain ⟨hi_98, ht_99, hq_100⟩ := hW.bytes hL_g1 hT_g1
              obtain ⟨z_101, o_102, hF_103, hq_104, hq_105⟩ := hO.bytes hL_g1 hT_g1
              refine va_calli (va_runV (As := [.int x_97]) (rest := []) ⟨hx, hb, hml, hown, hts⟩ (s_X0_at l dC dI cs ty L H.size F_27 g1 σ r1 n1 x_97 hW hL_g1 hT_g1) ⟨callB_of 1 hts (gi kt_21) rfl rfl rfl (hts _ kt_1) (hts _ kt_129) (by decide +kernel) ⟨Nat.le_of_ble_eq_true rfl, Nat.le_of_ble_eq_true rfl⟩, (hts _ kt_23), (hts _ kt_24)⟩ ⟨fun a U g mk q => ⟨q.1, PT.calling q.2⟩, pg_recv hK hP hL_g1 hF_103 (q := (RX0, TX0, 3)) rfl, fun U hU hWm => ⟨rfl, PT.mk hU hWm hP hK hD hE hO⟩⟩ rfl rfl hl.1 rfl (lv_room (Nat.le_of_ble_eq_true rfl)) dX10_read_171 ⟨by show _ + 0 ≤ 0; omega, by show _ + 0 ≤ 0; omega⟩) hS (fun q _ h => hFc q h) hFc (fun r_106 u t H1 locs ht hvm hw hB hz1 hk1 hS => ?_)
              obtain ⟨F_107, hB1⟩ := hB
              obtain ⟨hP, hD, hO, hR⟩ := QT.back hB1 ht hFc hR (fun q h => absurd h List.not_mem_nil)
              have hF_108 : F_107 h0 = .inr (10, [.int c0, .int c1, .int c2, .int (nI t9), .int c4, .int c5]) := (hB1.2.2.2 h0 List.not_mem_nil).trans hv2a
              have hF_109 : F_107 g1 = .inr (0, [.ref r1, .int (nI z_101), .int o_102]) := (hB1.2.2.2 g1 List.not_mem_nil).trans hF_103
              generalize H1 = H at hP hS ⊢
              have hw : True := hw
              have hw_110 := hw
              refine lv_bipush (v := 58) hx hb dX10_read_174 (by decide) ?_
              refine lv_icmp_eq (tgt := 183) hx hb dX10_read_176 (by decide) (fun c_111 => ?_) (fun c_111 => ?_)
              ·
                refine lv_iconst (v := 0) hx hb dX10_read_183 (by decide) ?_
                refine lv_istore (lv' := [(5, .int 0), (4, .int s4), (0, .ref h0), (1, .ref g1), (2, .int x2), (3, .int (nI t3))]) hx hb dX10_read_184 hl (by decide) rfl (fun ls hl => ?_)
                refine lv_iload hx hb dX10_read_186 (lv_at hl 1 rfl) ?_
                refine lv_if_eq (tgt := 229) hx hb dX10_read_188 (by decide) (fun c_112 => ?_) (fun c_112 => ?_)
                ·
                  refine lv_iconst (v := 0) hx hb dX10_read_229 (by decide) ?_
                  refine lv_istore (lv' := [(4, .int 0), (5, .int 0), (0, .ref h0), (1, .ref g1), (2, .int x2), (3, .int (nI t3))]) hx hb dX10_read_230 hl (by decide) rfl (fun ls hl => ?_)
                  refine lv_goto (tgt := 275) hx hb dX10_read_232 (by decide) ?_
                  refine W.widen (k := 0) (n := 0) (by omega) (by omega) ?_
                  exact jn_29 0 F_107 (trivial) hO hR _ _ hP hD hS ls (lv_sub hl [0, 2, 3, 4, 5] rfl)
                ·
                  refine lv_iload hx hb dX10_read_191 (lv_at hl 0 rfl) ?_
                  refine lv_if_eq (tgt := 210) hx hb dX10_read_193 (by decide) (fun c_113 => ?_) (fun c_113 => absurd (by decide) c_113)
                  refine lv_aload_n hx hb dX10_read_210 rfl (lv_at hl 3 rfl) ?_
                  refine lv_aload_n hx hb dX10_read_211 rfl (lv_at hl 2 rfl) ?_
                  refine pg_get (ci := 10) (v := .int c2) (C := RX10) (T := TX10) (N := 6) hx hb hts it_10 hown hK hP hL_h0 hF_108 rfl 2 (by decide) (hts _ kt_128) (fun _ h9 => h9) rfl dX10_read_212 ?_
                  refine lv_aload_n hx hb dX10_read_215 rfl (lv_at hl 2 rfl) ?_
                  refine pg_get (ci := 10) (v := .int (nI t9)) (C := RX10) (T := TX10) (N := 6) hx hb hts it_10 hown hK hP hL_h0 hF_108 rfl 3 (by decide) (hts _ kt_155) (fun _ h9 => h9) rfl dX10_read_216 ?_
                  have hFc := pg_free hD hS hA
                  refine va_calli (va_runS (As := [.ref g1, .int c2, .int (nI t9)]) (rest := []) ⟨hx, hb, hml, hown, hts⟩ (s_X10_isHost l dC dI cs ty L H.size F_107 g1 σ r1 n1 t9 c2 hW hL_g1 hT_g1 (by omega)) ⟨callB_of 3 hts (gi kt_157) rfl rfl rfl (hts _ kt_90) (hts _ kt_158) (by decide +kernel) ⟨Nat.le_of_ble_eq_true rfl, Nat.le_of_ble_eq_true rfl⟩, (hts _ kt_159)⟩ ⟨fun a U g mk q => ⟨q.1, PT.calling q.2⟩, fun U hU hWm => ⟨rfl, PT.mk hU hWm hP hK hD hE hO⟩⟩ rfl rfl hl.1 rfl (lv_room (Nat.le_of_ble_eq_true rfl)) dX10_read_219 ⟨by show _ + 0 ≤ 0; omega, by show _ + 0 ≤ 0; omega⟩) hS (fun q _ h => hFc q h) hFc (fun r_114 u t H1 locs ht hvm hw hB hz1 hk1 hS => ?_)
                  obtain ⟨F_115, hB1⟩ := hB
                  obtain ⟨hP, hD, hO, hR⟩ := QT.back hB1 ht hFc hR (fun q h => absurd h List.not_mem_nil)
                  have hF_116 : F_115 h0 = .inr (10, [.int c0, .int c1, .int c2, .int (nI t9), .int c4, .int c5]) := (hB1.2.2.2 h0 List.not_mem_nil).trans hF_108
                  have hF_117 : F_115 g1 = .inr (0, [.ref r1, .int (nI z_101), .int o_102]) := (hB1.2.2.2 g1 List.not_mem_nil).trans hF_109
                  generalize H1 = H at hP hS ⊢
                  have hw : (r_114 = 0 ∨ r_114 = 1) := hw
                  have hw_118 := hw
                  refine lv_if_eq (tgt := 229) hx hb dX10_read_222 (by decide) (fun c_119 => ?_) (fun c_119 => ?_)
                  ·
                    refine lv_iconst (v := 0) hx hb dX10_read_229 (by decide) ?_
                    refine lv_istore (lv' := [(4, .int 0), (5, .int 0), (0, .ref h0), (1, .ref g1), (2, .int x2), (3, .int (nI t3))]) hx hb dX10_read_230 hl (by decide) rfl (fun ls hl => ?_)
                    refine lv_goto (tgt := 275) hx hb dX10_read_232 (by decide) ?_
                    refine W.widen (k := 0) (n := 0) (by omega) (by omega) ?_
                    exact jn_29 0 F_115 (trivial) hO hR _ _ hP hD hS ls (lv_sub hl [0, 2, 3, 4, 5] rfl)
                  ·
                    refine lv_iconst (v := 1) hx hb dX10_read_225 (by decide) ?_
                    refine lv_goto (tgt := 230) hx hb dX10_read_226 (by decide) ?_
                    refine lv_istore (lv' := [(4, .int 1), (5, .int 0), (0, .ref h0), (1, .ref g1), (2, .int x2), (3, .int (nI t3))]) hx hb dX10_read_230 hl (by decide) rfl (fun ls hl => ?_)
                    refine lv_goto (tgt := 275) hx hb dX10_read_232 (by decide) ?_
                    refine W.widen (k := 0) (n := 0) (by omega) (by omega) ?_
                    exact jn_29 1 F_115 (trivial) hO hR _ _ hP hD hS ls (lv_sub hl [0, 2, 3, 4, 5] rfl)
              ·
                refine lv_iconst (v := 1) hx hb dX10_read_179 (by decide) ?_
                refine lv_goto (tgt := 184) hx hb dX10_read_180 (by decide) ?_
                refine lv_istore (lv' := [(5, .int 1), (4, .int s4), (0, .ref h0), (1, .ref g1), (2, .int x2), (3, .int (nI t3))]) hx hb dX10_read_184 hl (by decide) rfl (fun ls hl => ?_)
                refine lv_iload hx hb dX10_read_186 (lv_at hl 1 rfl) ?_
                refine lv_if_eq (tgt := 229) hx hb dX10_read_188 (by decide) (fun c_120 => ?_) (fun c_120 => ?_)
                ·
                  refine lv_iconst (v := 0) hx hb dX10_read_229 (by decide) ?_
                  refine lv_istore (lv' := [(4, .int 0), (5, .int 1), (0, .ref h0), (1, .ref g1), (2, .int x2), (3, .int (nI t3))]) hx hb dX10_read_230 hl (by decide) rfl (fun ls hl => ?_)
                  refine lv_goto (tgt := 275) hx hb dX10_read_232 (by decide) ?_
                  refine W.widen (k := 0) (n := 0) (by omega) (by omega) ?_
                  exact jn_29 0 F_107 (trivial) hO hR _ _ hP hD hS ls (lv_sub hl [0, 2, 3, 4, 5] rfl)
                ·
                  refine lv_iload hx hb dX10_read_191 (lv_at hl 0 rfl) ?_
                  refine lv_if_eq (tgt := 210) hx hb dX10_read_193 (by decide) (fun c_121 => absurd c_121 (by decide)) (fun c_121 => ?_)
                  refine lv_aload_n hx hb dX10_read_196 rfl (lv_at hl 2 rfl) ?_
                  refine pg_get (ci := 10) (v := .int c2) (C := RX10) (T := TX10) (N := 6) hx hb hts it_10 hown hK hP hL_h0 hF_108 rfl 2 (by decide) (hts _ kt_128) (fun _ h9 => h9) rfl dX10_read_197 ?_
                  refine lv_aload_n hx hb dX10_read_200 rfl (lv_at hl 2 rfl) ?_
                  refine pg_get (ci := 10) (v := .int (nI t9)) (C := RX10) (T := TX10) (N := 6) hx hb hts it_10 hown hK hP hL_h0 hF_108 rfl 3 (by decide) (hts _ kt_155) (fun _ h9 => h9) rfl dX10_read_201 ?_
                  refine lv_icmp_ne (tgt := 229) hx hb dX10_read_204 (by decide) (fun c_122 => ?_) (fun c_122 => ?_)
                  ·
                    refine lv_iconst (v := 0) hx hb dX10_read_229 (by decide) ?_
                    refine lv_istore (lv' := [(4, .int 0), (5, .int 1), (0, .ref h0), (1, .ref g1), (2, .int x2), (3, .int (nI t3))]) hx hb dX10_read_230 hl (by decide) rfl (fun ls hl => ?_)
                    refine lv_goto (tgt := 275) hx hb dX10_read_232 (by decide) ?_
                    refine W.widen (k := 0) (n := 0) (by omega) (by omega) ?_
                    exact jn_29 0 F_107 (trivial) hO hR _ _ hP hD hS ls (lv_sub hl [0, 2, 3, 4, 5] rfl)
                  ·
                    refine lv_goto (tgt := 225) hx hb dX10_read_207 (by decide) ?_
                    refine lv_iconst (v := 1) hx hb dX10_read_225 (by decide) ?_
                    refine lv_goto (tgt := 230) hx hb dX10_read_226 (by decide) ?_
                    refine lv_istore (lv' := [(4, .int 1), (5, .int 1), (0, .ref h0), (1, .ref g1), (2, .int x2), (3, .int (nI t3))]) hx hb dX10_read_230 hl (by decide) rfl (fun ls hl => ?_)
                    refine lv_goto (tgt := 275) hx hb dX10_read_232 (by decide) ?_
                    refine W.widen (k := 0) (n := 0) (by omega) (by omega) ?_
                    exact jn_29 1 F_107 (trivial) hO hR _ _ hP hD hS ls (lv_sub hl [0, 2, 3, 4, 5] rfl)
        ·
          refine lv_iload hx hb dX10_read_117 (lv_at hl 0 rfl) ?_
          refine lv_if_eq (tgt := 142) hx hb dX10_read_119 (by decide) (fun c_123 => ?_) (fun c_123 => ?_)
          ·
            refine lv_iconst (v := 0) hx hb dX10_read_142 (by decide) ?_
            refine lv_istore (lv' := [(4, .int 0), (0, .ref h0), (1, .ref g1), (2, .int x2), (3, .int (nI t3))]) hx hb dX10_read_143 hl (by decide) rfl (fun ls hl => ?_)
            refine lv_goto (tgt := 275) hx hb dX10_read_145 (by decide) ?_
            refine W.widen (k := 0) (n := 0) (by omega) (by omega) ?_
            exact jn_29 0 F_27 (trivial) hO hR _ _ hP hD hS ls (lv_sub hl [0, 1, 2, 3, 4] rfl)
          ·
            refine lv_aload_n hx hb dX10_read_122 rfl (lv_at hl 1 rfl) ?_
            refine lv_aload_n hx hb dX10_read_123 rfl (lv_at hl 2 rfl) ?_
            refine lv_aload_n hx hb dX10_read_124 rfl (lv_at hl 1 rfl) ?_
            refine pg_get (ci := 10) (v := .int c2) (C := RX10) (T := TX10) (N := 6) hx hb hts it_10 hown hK hP hL_h0 hv2a rfl 2 (by decide) (hts _ kt_128) (fun _ h9 => h9) rfl dX10_read_125 ?_
            refine lv_aload_n hx hb dX10_read_128 rfl (lv_at hl 1 rfl) ?_
            refine pg_get (ci := 10) (v := .int (nI t9)) (C := RX10) (T := TX10) (N := 6) hx hb hts it_10 hown hK hP hL_h0 hv2a rfl 3 (by decide) (hts _ kt_155) (fun _ h9 => h9) rfl dX10_read_129 ?_
            have hFc := pg_free hD hS hA
            refine va_calli (va_runV (As := [.ref g1, .int c2, .int (nI t9)]) (rest := []) ⟨hx, hb, hml, hown, hts⟩ (s_X10_readQuad l dC dI cs ty L H.size F_27 h0 ρ g1 σ r1 n1 t9 c2 hW hL_h0 hT_h0 hL_g1 hT_g1 (by omega)) ⟨callB_of 3 hts (gi kt_160) rfl rfl rfl (hts _ kt_90) (hts _ kt_161) (by decide +kernel) ⟨Nat.le_of_ble_eq_true rfl, Nat.le_of_ble_eq_true rfl⟩, (hts _ kt_162), (hts _ kt_163)⟩ ⟨fun a U g mk q => ⟨q.1, PT.calling q.2⟩, pg_recv hK hP hL_h0 hv2a (q := (RX10, TX10, 6)) rfl, fun U hU hWm => ⟨rfl, PT.mk hU hWm hP hK hD hE hO⟩⟩ rfl rfl hl.1 rfl (lv_room (Nat.le_of_ble_eq_true rfl)) dX10_read_132 ⟨by show _ + 0 ≤ 0; omega, by show _ + 0 ≤ 0; omega⟩) hS (fun q _ h => hFc q h) hFc (fun r_124 u t H1 locs ht hvm hw hB hz1 hk1 hS => ?_)
            obtain ⟨F_125, hB1⟩ := hB
            obtain ⟨hP, hD, hO, hR⟩ := QT.back hB1 ht hFc hR (fun q h => by simp only [List.mem_cons, List.not_mem_nil, or_false] at h ⊢; omega)
            generalize H1 = H at hP hS ⊢
            have hw : (r_124 = 0 ∨ r_124 = 1) := hw
            have hw_126 := hw
            refine lv_if_eq (tgt := 142) hx hb dX10_read_135 (by decide) (fun c_127 => ?_) (fun c_127 => ?_)
            ·
              refine lv_iconst (v := 0) hx hb dX10_read_142 (by decide) ?_
              refine lv_istore (lv' := [(4, .int 0), (0, .ref h0), (1, .ref g1), (2, .int x2), (3, .int (nI t3))]) hx hb dX10_read_143 hl (by decide) rfl (fun ls hl => ?_)
              refine lv_goto (tgt := 275) hx hb dX10_read_145 (by decide) ?_
              refine W.widen (k := 0) (n := 0) (by omega) (by omega) ?_
              exact jn_29 0 F_125 (trivial) hO hR _ _ hP hD hS ls (lv_sub hl [0, 1, 2, 3, 4] rfl)
            ·
              refine lv_iconst (v := 1) hx hb dX10_read_138 (by decide) ?_
              refine lv_goto (tgt := 143) hx hb dX10_read_139 (by decide) ?_
              refine lv_istore (lv' := [(4, .int 1), (0, .ref h0), (1, .ref g1), (2, .int x2), (3, .int (nI t3))]) hx hb dX10_read_143 hl (by decide) rfl (fun ls hl => ?_)
              refine lv_goto (tgt := 275) hx hb dX10_read_145 (by decide) ?_
              refine W.widen (k := 0) (n := 0) (by omega) (by omega) ?_
              exact jn_29 1 F_125 (trivial) hO hR _ _ hP hD hS ls (lv_sub hl [0, 1, 2, 3, 4] rfl)
    ·
      refine lv_aload_n hx hb dX10_read_86 rfl (lv_at hl 0 rfl) ?_
      refine pg_get (ci := 10) (v := .int c4) (C := RX10) (T := TX10) (N := 6) hx hb hts it_10 hown hK hP hL_h0 hv1a rfl 4 (by decide) (hts _ kt_156) (fun _ h9 => h9) rfl dX10_read_87 ?_
      refine lv_if_lt (tgt := 106) hx hb dX10_read_90 (by decide) (fun c_128 => ?_) (fun c_128 => ?_)
      ·
        refine lv_iconst (v := 0) hx hb dX10_read_106 (by decide) ?_
        refine lv_istore (lv' := [(4, .int 0), (0, .ref h0), (1, .ref g1), (2, .int x2), (3, .int (nI t3))]) hx hb dX10_read_107 hl (by decide) rfl (fun ls hl => ?_)
        refine W.widen (k := 0) (n := 0) (by omega) (by omega) ?_
        exact jn_26 (0, c0, c1, c2, t9, c4, c5) F_24 (⟨hv1a, by omega⟩) hO hR _ _ hP hD hS ls (lv_sub hl [0, 1, 2, 3, 4] rfl)
      ·
        refine lv_aload_n hx hb dX10_read_93 rfl (lv_at hl 0 rfl) ?_
        refine pg_get (ci := 10) (v := .int c4) (C := RX10) (T := TX10) (N := 6) hx hb hts it_10 hown hK hP hL_h0 hv1a rfl 4 (by decide) (hts _ kt_156) (fun _ h9 => h9) rfl dX10_read_94 ?_
        refine lv_bipush (v := 32) hx hb dX10_read_97 (by decide) ?_
        refine lv_icmp_gt (tgt := 106) hx hb dX10_read_99 (by decide) (fun c_129 => ?_) (fun c_129 => ?_)
        ·
          refine lv_iconst (v := 0) hx hb dX10_read_106 (by decide) ?_
          refine lv_istore (lv' := [(4, .int 0), (0, .ref h0), (1, .ref g1), (2, .int x2), (3, .int (nI t3))]) hx hb dX10_read_107 hl (by decide) rfl (fun ls hl => ?_)
          refine W.widen (k := 0) (n := 0) (by omega) (by omega) ?_
          exact jn_26 (0, c0, c1, c2, t9, c4, c5) F_24 (⟨hv1a, by omega⟩) hO hR _ _ hP hD hS ls (lv_sub hl [0, 1, 2, 3, 4] rfl)
        ·
          refine lv_iconst (v := 1) hx hb dX10_read_102 (by decide) ?_
          refine lv_goto (tgt := 107) hx hb dX10_read_103 (by decide) ?_
          refine lv_istore (lv' := [(4, .int 1), (0, .ref h0), (1, .ref g1), (2, .int x2), (3, .int (nI t3))]) hx hb dX10_read_107 hl (by decide) rfl (fun ls hl => ?_)
          refine W.widen (k := 0) (n := 0) (by omega) (by omega) ?_
          exact jn_26 (1, c0, c1, c2, t9, c4, c5) F_24 (⟨hv1a, by omega⟩) hO hR _ _ hP hD hS ls (lv_sub hl [0, 1, 2, 3, 4] rfl)
  ·
    refine lv_aload_n hx hb dX10_read_18 rfl (lv_at hl 0 rfl) ?_
    refine pg_get (ci := 10) (v := .int v0_10) (C := RX10) (T := TX10) (N := 6) hx hb hts it_10 hown hK hP hL_h0 hF_22 rfl 0 (by decide) (hts _ kt_127) (fun _ h9 => h9) rfl dX10_read_19 ?_
    refine lv_iconst (v := 5) hx hb dX10_read_22 (by decide) ?_
    refine lv_icmp_eq (tgt := 42) hx hb dX10_read_23 (by decide) (fun c_130 => ?_) (fun c_130 => ?_)
    ·
      refine lv_aload_n hx hb dX10_read_42 rfl (lv_at hl 0 rfl) ?_
      refine lv_aload_n hx hb dX10_read_43 rfl (lv_at hl 1 rfl) ?_
      refine lv_bipush (v := 47) hx hb dX10_read_44 (by decide) ?_
      refine lv_aload_n hx hb dX10_read_46 rfl (lv_at hl 0 rfl) ?_
      refine pg_get (ci := 10) (v := .int v2_12) (C := RX10) (T := TX10) (N := 6) hx hb hts it_10 hown hK hP hL_h0 hF_22 rfl 2 (by decide) (hts _ kt_128) (fun _ h9 => h9) rfl dX10_read_47 ?_
      refine lv_iload_n hx hb dX10_read_50 rfl (lv_at hl 3 rfl) ?_
      have hFc := pg_free hD hS hA
      obtain ⟨hi_131, ht_132, hq_133⟩ := hW.bytes hL_g1 hT_g1
      obtain ⟨z_134, o_135, hF_136, hq_137, hq_138⟩ := hO.bytes hL_g1 hT_g1
      refine va_calli (va_runV (As := [.int 47, .int v2_12, .int (nI t3)]) (rest := [.ref h0]) ⟨hx, hb, hml, hown, hts⟩ (s_X0_find l dC dI cs ty L H.size F_20 g1 σ r1 n1 47 v2_12 (nI t3) hW hL_g1 hT_g1) ⟨callB_of 3 hts (gi kt_123) rfl rfl rfl (hts _ kt_1) (hts _ kt_131) (by decide +kernel) ⟨Nat.le_of_ble_eq_true rfl, Nat.le_of_ble_eq_true rfl⟩, (hts _ kt_125), (hts _ kt_126)⟩ ⟨fun a U g mk q => ⟨q.1, PT.calling q.2⟩, pg_recv hK hP hL_g1 hF_136 (q := (RX0, TX0, 3)) rfl, fun U hU hWm => ⟨rfl, PT.mk hU hWm hP hK hD hE hO⟩⟩ rfl rfl hl.1 rfl (lv_room (Nat.le_of_ble_eq_true rfl)) dX10_read_51 ⟨by show _ + 0 ≤ 0; omega, by show _ + 0 ≤ 0; omega⟩) hS (fun q _ h => hFc q h) hFc (fun r_139 u t H1 locs ht hvm hw hB hz1 hk1 hS => ?_)
      obtain ⟨F_140, hB1⟩ := hB
      obtain ⟨hP, hD, hO, hR⟩ := QT.back hB1 ht hFc hR (fun q h => absurd h List.not_mem_nil)
      have hF_141 : F_140 h0 = .inr (10, [.int v0_10, .int v1_11, .int v2_12, .int (nI t3), .int 32, .int v5_15]) := (hB1.2.2.2 h0 List.not_mem_nil).trans hF_22
      have hF_142 : F_140 g1 = .inr (0, [.ref r1, .int (nI z_134), .int o_135]) := (hB1.2.2.2 g1 List.not_mem_nil).trans hF_136
      generalize H1 = H at hP hS ⊢
      have hw : (r_139 = (nI t3) ∨ ∃ j : Nat, j < n1 ∧ r_139 = nI j) := hw
      have hw_143 := hw
      obtain ⟨t_144, ht_144, et_144⟩ := fnd hw_143 ht3 (by omega)
      subst et_144
      refine pg_put (ci := 10) (v := .int (nI t_144)) (ty := .int) (C := RX10) (T := TX10) (N := 6) hx hb hts it_10 tyX10 tyX10_ok nmX10 hown hK hP hD hS hL_h0 hF_141 rfl 3 (by decide) (hts _ kt_155) (fun _ h9 => h9) rfl (by decide +kernel) (rfl) (rfl) (Nat.le_of_ble_eq_true rfl) dX10_read_54 (fun H locs hP hD hS => ?_)
      obtain ⟨F_145, he_146, hP, hD, hO, hR⟩ : ∃ G, G = va_up F_140 h0 (.inr (10, [.int v0_10, .int v1_11, .int v2_12, .int (nI t_144), .int 32, .int v5_15])) ∧ va_P (dC, dI) vwCl (va_pl L G) H ∧ va_D A (va_pl L G) ∧ OK cs ty L G ∧ FR ty [ρ] F G := ⟨_, rfl, hP, hD, hO.up (sh.term hT_h0 ⟨v0_10, v1_11, v2_12, (nI t_144), 32, v5_15, rfl⟩), hR.up hT_h0 (by simp)⟩
      have hF_147 : F_145 h0 = .inr (10, [.int v0_10, .int v1_11, .int v2_12, .int (nI t_144), .int 32, .int v5_15]) := by rw [he_146]; exact up_self
      have hF_148 : F_145 g1 = .inr (0, [.ref r1, .int (nI z_134), .int o_135]) := by rw [he_146, up_ne (ne_ty hT_g1 hT_h0 (by simp))]; exact hF_142
      refine lv_aload_n hx hb dX10_read_57 rfl (lv_at hl 0 rfl) ?_
      refine lv_aload_n hx hb dX10_read_58 rfl (lv_at hl 0 rfl) ?_
      refine pg_get (ci := 10) (v := .int (nI t_144)) (C := RX10) (T := TX10) (N := 6) hx hb hts it_10 hown hK hP hL_h0 hF_147 rfl 3 (by decide) (hts _ kt_155) (fun _ h9 => h9) rfl dX10_read_59 ?_
      refine lv_iload_n hx hb dX10_read_62 rfl (lv_at hl 3 rfl) ?_
      refine lv_icmp_ne (tgt := 71) hx hb dX10_read_63 (by decide) (fun c_149 => ?_) (fun c_149 => ?_)
      ·
        refine lv_aload_n hx hb dX10_read_71 rfl (lv_at hl 1 rfl) ?_
        refine lv_aload_n hx hb dX10_read_72 rfl (lv_at hl 0 rfl) ?_
        refine pg_get (ci := 10) (v := .int (nI t_144)) (C := RX10) (T := TX10) (N := 6) hx hb hts it_10 hown hK hP hL_h0 hF_147 rfl 3 (by decide) (hts _ kt_155) (fun _ h9 => h9) rfl dX10_read_73 ?_
        refine lv_iconst (v := 1) hx hb dX10_read_76 (by decide) ?_
        refine lv_iadd hx hb dX10_read_77 ?_
        refine lv_topi (fun x_151 _ => ?_)
        refine lv_iload_n hx hb dX10_read_78 rfl (lv_at hl 3 rfl) ?_
        refine lv_iconst (v := 2) hx hb dX10_read_79 (by decide) ?_
        have hFc := pg_free hD hS hA
        refine va_calli (va_runS (As := [.ref g1, .int x_151, .int (nI t3), .int 2]) (rest := [.ref h0]) ⟨hx, hb, hml, hown, hts⟩ (s_X10_numberOf l dC dI cs ty L H.size F_145 g1 σ r1 n1 x_151 (nI t3) 2 hW hL_g1 hT_g1) ⟨callB_of 4 hts (gi kt_138) rfl rfl rfl (hts _ kt_90) (hts _ kt_139) (by decide +kernel) ⟨Nat.le_of_ble_eq_true rfl, Nat.le_of_ble_eq_true rfl⟩, (hts _ kt_140)⟩ ⟨fun a U g mk q => ⟨q.1, PT.calling q.2⟩, fun U hU hWm => ⟨rfl, PT.mk hU hWm hP hK hD hE hO⟩⟩ rfl rfl hl.1 rfl (lv_room (Nat.le_of_ble_eq_true rfl)) dX10_read_80 ⟨by show _ + 0 ≤ 0; omega, by show _ + 0 ≤ 0; omega⟩) hS (fun q _ h => hFc q h) hFc (fun r_152 u t H1 locs ht hvm hw hB hz1 hk1 hS => ?_)
        obtain ⟨F_153, hB1⟩ := hB
        obtain ⟨hP, hD, hO, hR⟩ := QT.back hB1 ht hFc hR (fun q h => absurd h List.not_mem_nil)
        have hF_154 : F_153 h0 = .inr (10, [.int v0_10, .int v1_11, .int v2_12, .int (nI t_144), .int 32, .int v5_15]) := (hB1.2.2.2 h0 List.not_mem_nil).trans hF_147
        have hF_155 : F_153 g1 = .inr (0, [.ref r1, .int (nI z_134), .int o_135]) := (hB1.2.2.2 g1 List.not_mem_nil).trans hF_148
        generalize H1 = H at hP hS ⊢
        have hw : True := hw
        have hw_156 := hw
        refine pg_put (ci := 10) (v := .int r_152) (ty := .int) (C := RX10) (T := TX10) (N := 6) hx hb hts it_10 tyX10 tyX10_ok nmX10 hown hK hP hD hS hL_h0 hF_154 rfl 4 (by decide) (hts _ kt_156) (fun _ h9 => h9) rfl (by decide +kernel) (rfl) (rfl) (Nat.le_of_ble_eq_true rfl) dX10_read_83 (fun H locs hP hD hS => ?_)
        obtain ⟨F_157, he_158, hP, hD, hO, hR⟩ : ∃ G, G = va_up F_153 h0 (.inr (10, [.int v0_10, .int v1_11, .int v2_12, .int (nI t_144), .int r_152, .int v5_15])) ∧ va_P (dC, dI) vwCl (va_pl L G) H ∧ va_D A (va_pl L G) ∧ OK cs ty L G ∧ FR ty [ρ] F G := ⟨_, rfl, hP, hD, hO.up (sh.term hT_h0 ⟨v0_10, v1_11, v2_12, (nI t_144), r_152, v5_15, rfl⟩), hR.up hT_h0 (by simp)⟩
        have hF_159 : F_157 h0 = .inr (10, [.int v0_10, .int v1_11, .int v2_12, .int (nI t_144), .int r_152, .int v5_15]) := by rw [he_158]; exact up_self
        have hF_160 : F_157 g1 = .inr (0, [.ref r1, .int (nI z_134), .int o_135]) := by rw [he_158, up_ne (ne_ty hT_g1 hT_h0 (by simp))]; exact hF_155
        refine W.widen (k := 0) (n := 0) (by omega) (by omega) ?_
        exact jn_23 (v0_10, v1_11, v2_12, t_144, r_152, v5_15) F_157 (⟨hF_159, by omega⟩) hO hR _ _ hP hD hS ls (lv_sub hl [0, 1, 2, 3] rfl)
      ·
        refine lv_bipush (v := 32) hx hb dX10_read_66 (by decide) ?_
        refine lv_goto (tgt := 83) hx hb dX10_read_68 (by decide) ?_
        refine pg_put (ci := 10) (v := .int 32) (ty := .int) (C := RX10) (T := TX10) (N := 6) hx hb hts it_10 tyX10 tyX10_ok nmX10 hown hK hP hD hS hL_h0 hF_147 rfl 4 (by decide) (hts _ kt_156) (fun _ h9 => h9) rfl (by decide +kernel) (rfl) (rfl) (Nat.le_of_ble_eq_true rfl) dX10_read_83 (fun H locs hP hD hS => ?_)
        obtain ⟨F_162, he_163, hP, hD, hO, hR⟩ : ∃ G, G = va_up F_145 h0 (.inr (10, [.int v0_10, .int v1_11, .int v2_12, .int (nI t_144), .int 32, .int v5_15])) ∧ va_P (dC, dI) vwCl (va_pl L G) H ∧ va_D A (va_pl L G) ∧ OK cs ty L G ∧ FR ty [ρ] F G := ⟨_, rfl, hP, hD, hO.up (sh.term hT_h0 ⟨v0_10, v1_11, v2_12, (nI t_144), 32, v5_15, rfl⟩), hR.up hT_h0 (by simp)⟩
        have hF_164 : F_162 h0 = .inr (10, [.int v0_10, .int v1_11, .int v2_12, .int (nI t_144), .int 32, .int v5_15]) := by rw [he_163]; exact up_self
        have hF_165 : F_162 g1 = .inr (0, [.ref r1, .int (nI z_134), .int o_135]) := by rw [he_163, up_ne (ne_ty hT_g1 hT_h0 (by simp))]; exact hF_148
        refine W.widen (k := 0) (n := 0) (by omega) (by omega) ?_
        exact jn_23 (v0_10, v1_11, v2_12, t_144, 32, v5_15) F_162 (⟨hF_164, by omega⟩) hO hR _ _ hP hD hS ls (lv_sub hl [0, 1, 2, 3] rfl)
    ·
      refine lv_aload_n hx hb dX10_read_26 rfl (lv_at hl 0 rfl) ?_
      refine pg_get (ci := 10) (v := .int v0_10) (C := RX10) (T := TX10) (N := 6) hx hb hts it_10 hown hK hP hL_h0 hF_22 rfl 0 (by decide) (hts _ kt_127) (fun _ h9 => h9) rfl dX10_read_27 ?_
      refine lv_iconst (v := 3) hx hb dX10_read_30 (by decide) ?_
      refine lv_icmp_eq (tgt := 42) hx hb dX10_read_31 (by decide) (fun c_166 => ?_) (fun c_166 => ?_)
      ·
        refine lv_aload_n hx hb dX10_read_42 rfl (lv_at hl 0 rfl) ?_
        refine lv_aload_n hx hb dX10_read_43 rfl (lv_at hl 1 rfl) ?_
        refine lv_bipush (v := 47) hx hb dX10_read_44 (by decide) ?_
        refine lv_aload_n hx hb dX10_read_46 rfl (lv_at hl 0 rfl) ?_
        refine pg_get (ci := 10) (v := .int v2_12) (C := RX10) (T := TX10) (N := 6) hx hb hts it_10 hown hK hP hL_h0 hF_22 rfl 2 (by decide) (hts _ kt_128) (fun _ h9 => h9) rfl dX10_read_47 ?_
        refine lv_iload_n hx hb dX10_read_50 rfl (lv_at hl 3 rfl) ?_
        have hFc := pg_free hD hS hA
        obtain ⟨hi_167, ht_168, hq_169⟩ := hW.bytes hL_g1 hT_g1
        obtain ⟨z_170, o_171, hF_172, hq_173, hq_174⟩ := hO.bytes hL_g1 hT_g1
        refine va_calli (va_runV (As := [.int 47, .int v2_12, .int (nI t3)]) (rest := [.ref h0]) ⟨hx, hb, hml, hown, hts⟩ (s_X0_find l dC dI cs ty L H.size F_20 g1 σ r1 n1 47 v2_12 (nI t3) hW hL_g1 hT_g1) ⟨callB_of 3 hts (gi kt_123) rfl rfl rfl (hts _ kt_1) (hts _ kt_131) (by decide +kernel) ⟨Nat.le_of_ble_eq_true rfl, Nat.le_of_ble_eq_true rfl⟩, (hts _ kt_125), (hts _ kt_126)⟩ ⟨fun a U g mk q => ⟨q.1, PT.calling q.2⟩, pg_recv hK hP hL_g1 hF_172 (q := (RX0, TX0, 3)) rfl, fun U hU hWm => ⟨rfl, PT.mk hU hWm hP hK hD hE hO⟩⟩ rfl rfl hl.1 rfl (lv_room (Nat.le_of_ble_eq_true rfl)) dX10_read_51 ⟨by show _ + 0 ≤ 0; omega, by show _ + 0 ≤ 0; omega⟩) hS (fun q _ h => hFc q h) hFc (fun r_175 u t H1 locs ht hvm hw hB hz1 hk1 hS => ?_)
        obtain ⟨F_176, hB1⟩ := hB
        obtain ⟨hP, hD, hO, hR⟩ := QT.back hB1 ht hFc hR (fun q h => absurd h List.not_mem_nil)
        have hF_177 : F_176 h0 = .inr (10, [.int v0_10, .int v1_11, .int v2_12, .int (nI t3), .int 32, .int v5_15]) := (hB1.2.2.2 h0 List.not_mem_nil).trans hF_22
        have hF_178 : F_176 g1 = .inr (0, [.ref r1, .int (nI z_170), .int o_171]) := (hB1.2.2.2 g1 List.not_mem_nil).trans hF_172
        generalize H1 = H at hP hS ⊢
        have hw : (r_175 = (nI t3) ∨ ∃ j : Nat, j < n1 ∧ r_175 = nI j) := hw
        have hw_179 := hw
        obtain ⟨t_180, ht_180, et_180⟩ := fnd hw_179 ht3 (by omega)
        subst et_180
        refine pg_put (ci := 10) (v := .int (nI t_180)) (ty := .int) (C := RX10) (T := TX10) (N := 6) hx hb hts it_10 tyX10 tyX10_ok nmX10 hown hK hP hD hS hL_h0 hF_177 rfl 3 (by decide) (hts _ kt_155) (fun _ h9 => h9) rfl (by decide +kernel) (rfl) (rfl) (Nat.le_of_ble_eq_true rfl) dX10_read_54 (fun H locs hP hD hS => ?_)
        obtain ⟨F_181, he_182, hP, hD, hO, hR⟩ : ∃ G, G = va_up F_176 h0 (.inr (10, [.int v0_10, .int v1_11, .int v2_12, .int (nI t_180), .int 32, .int v5_15])) ∧ va_P (dC, dI) vwCl (va_pl L G) H ∧ va_D A (va_pl L G) ∧ OK cs ty L G ∧ FR ty [ρ] F G := ⟨_, rfl, hP, hD, hO.up (sh.term hT_h0 ⟨v0_10, v1_11, v2_12, (nI t_180), 32, v5_15, rfl⟩), hR.up hT_h0 (by simp)⟩
        have hF_183 : F_181 h0 = .inr (10, [.int v0_10, .int v1_11, .int v2_12, .int (nI t_180), .int 32, .int v5_15]) := by rw [he_182]; exact up_self
        have hF_184 : F_181 g1 = .inr (0, [.ref r1, .int (nI z_170), .int o_171]) := by rw [he_182, up_ne (ne_ty hT_g1 hT_h0 (by simp))]; exact hF_178
        refine lv_aload_n hx hb dX10_read_57 rfl (lv_at hl 0 rfl) ?_
        refine lv_aload_n hx hb dX10_read_58 rfl (lv_at hl 0 rfl) ?_
        refine pg_get (ci := 10) (v := .int (nI t_180)) (C := RX10) (T := TX10) (N := 6) hx hb hts it_10 hown hK hP hL_h0 hF_183 rfl 3 (by decide) (hts _ kt_155) (fun _ h9 => h9) rfl dX10_read_59 ?_
        refine lv_iload_n hx hb dX10_read_62 rfl (lv_at hl 3 rfl) ?_
        refine lv_icmp_ne (tgt := 71) hx hb dX10_read_63 (by decide) (fun c_185 => ?_) (fun c_185 => ?_)
        ·
          refine lv_aload_n hx hb dX10_read_71 rfl (lv_at hl 1 rfl) ?_
          refine lv_aload_n hx hb dX10_read_72 rfl (lv_at hl 0 rfl) ?_
          refine pg_get (ci := 10) (v := .int (nI t_180)) (C := RX10) (T := TX10) (N := 6) hx hb hts it_10 hown hK hP hL_h0 hF_183 rfl 3 (by decide) (hts _ kt_155) (fun _ h9 => h9) rfl dX10_read_73 ?_
          refine lv_iconst (v := 1) hx hb dX10_read_76 (by decide) ?_
          refine lv_iadd hx hb dX10_read_77 ?_
          refine lv_topi (fun x_187 _ => ?_)
          refine lv_iload_n hx hb dX10_read_78 rfl (lv_at hl 3 rfl) ?_
          refine lv_iconst (v := 2) hx hb dX10_read_79 (by decide) ?_
          have hFc := pg_free hD hS hA
          refine va_calli (va_runS (As := [.ref g1, .int x_187, .int (nI t3), .int 2]) (rest := [.ref h0]) ⟨hx, hb, hml, hown, hts⟩ (s_X10_numberOf l dC dI cs ty L H.size F_181 g1 σ r1 n1 x_187 (nI t3) 2 hW hL_g1 hT_g1) ⟨callB_of 4 hts (gi kt_138) rfl rfl rfl (hts _ kt_90) (hts _ kt_139) (by decide +kernel) ⟨Nat.le_of_ble_eq_true rfl, Nat.le_of_ble_eq_true rfl⟩, (hts _ kt_140)⟩ ⟨fun a U g mk q => ⟨q.1, PT.calling q.2⟩, fun U hU hWm => ⟨rfl, PT.mk hU hWm hP hK hD hE hO⟩⟩ rfl rfl hl.1 rfl (lv_room (Nat.le_of_ble_eq_true rfl)) dX10_read_80 ⟨by show _ + 0 ≤ 0; omega, by show _ + 0 ≤ 0; omega⟩) hS (fun q _ h => hFc q h) hFc (fun r_188 u t H1 locs ht hvm hw hB hz1 hk1 hS => ?_)
          obtain ⟨F_189, hB1⟩ := hB
          obtain ⟨hP, hD, hO, hR⟩ := QT.back hB1 ht hFc hR (fun q h => absurd h List.not_mem_nil)
          have hF_190 : F_189 h0 = .inr (10, [.int v0_10, .int v1_11, .int v2_12, .int (nI t_180), .int 32, .int v5_15]) := (hB1.2.2.2 h0 List.not_mem_nil).trans hF_183
          have hF_191 : F_189 g1 = .inr (0, [.ref r1, .int (nI z_170), .int o_171]) := (hB1.2.2.2 g1 List.not_mem_nil).trans hF_184
          generalize H1 = H at hP hS ⊢
          have hw : True := hw
          have hw_192 := hw
          refine pg_put (ci := 10) (v := .int r_188) (ty := .int) (C := RX10) (T := TX10) (N := 6) hx hb hts it_10 tyX10 tyX10_ok nmX10 hown hK hP hD hS hL_h0 hF_190 rfl 4 (by decide) (hts _ kt_156) (fun _ h9 => h9) rfl (by decide +kernel) (rfl) (rfl) (Nat.le_of_ble_eq_true rfl) dX10_read_83 (fun H locs hP hD hS => ?_)
          obtain ⟨F_193, he_194, hP, hD, hO, hR⟩ : ∃ G, G = va_up F_189 h0 (.inr (10, [.int v0_10, .int v1_11, .int v2_12, .int (nI t_180), .int r_188, .int v5_15])) ∧ va_P (dC, dI) vwCl (va_pl L G) H ∧ va_D A (va_pl L G) ∧ OK cs ty L G ∧ FR ty [ρ] F G := ⟨_, rfl, hP, hD, hO.up (sh.term hT_h0 ⟨v0_10, v1_11, v2_12, (nI t_180), r_188, v5_15, rfl⟩), hR.up hT_h0 (by simp)⟩
          have hF_195 : F_193 h0 = .inr (10, [.int v0_10, .int v1_11, .int v2_12, .int (nI t_180), .int r_188, .int v5_15]) := by rw [he_194]; exact up_self
          have hF_196 : F_193 g1 = .inr (0, [.ref r1, .int (nI z_170), .int o_171]) := by rw [he_194, up_ne (ne_ty hT_g1 hT_h0 (by simp))]; exact hF_191
          refine W.widen (k := 0) (n := 0) (by omega) (by omega) ?_
          exact jn_23 (v0_10, v1_11, v2_12, t_180, r_188, v5_15) F_193 (⟨hF_195, by omega⟩) hO hR _ _ hP hD hS ls (lv_sub hl [0, 1, 2, 3] rfl)
        ·
          refine lv_bipush (v := 32) hx hb dX10_read_66 (by decide) ?_
          refine lv_goto (tgt := 83) hx hb dX10_read_68 (by decide) ?_
          refine pg_put (ci := 10) (v := .int 32) (ty := .int) (C := RX10) (T := TX10) (N := 6) hx hb hts it_10 tyX10 tyX10_ok nmX10 hown hK hP hD hS hL_h0 hF_183 rfl 4 (by decide) (hts _ kt_156) (fun _ h9 => h9) rfl (by decide +kernel) (rfl) (rfl) (Nat.le_of_ble_eq_true rfl) dX10_read_83 (fun H locs hP hD hS => ?_)
          obtain ⟨F_198, he_199, hP, hD, hO, hR⟩ : ∃ G, G = va_up F_181 h0 (.inr (10, [.int v0_10, .int v1_11, .int v2_12, .int (nI t_180), .int 32, .int v5_15])) ∧ va_P (dC, dI) vwCl (va_pl L G) H ∧ va_D A (va_pl L G) ∧ OK cs ty L G ∧ FR ty [ρ] F G := ⟨_, rfl, hP, hD, hO.up (sh.term hT_h0 ⟨v0_10, v1_11, v2_12, (nI t_180), 32, v5_15, rfl⟩), hR.up hT_h0 (by simp)⟩
          have hF_200 : F_198 h0 = .inr (10, [.int v0_10, .int v1_11, .int v2_12, .int (nI t_180), .int 32, .int v5_15]) := by rw [he_199]; exact up_self
          have hF_201 : F_198 g1 = .inr (0, [.ref r1, .int (nI z_170), .int o_171]) := by rw [he_199, up_ne (ne_ty hT_g1 hT_h0 (by simp))]; exact hF_184
          refine W.widen (k := 0) (n := 0) (by omega) (by omega) ?_
          exact jn_23 (v0_10, v1_11, v2_12, t_180, 32, v5_15) F_198 (⟨hF_200, by omega⟩) hO hR _ _ hP hD hS ls (lv_sub hl [0, 1, 2, 3] rfl)
      ·
        refine lv_aload_n hx hb dX10_read_34 rfl (lv_at hl 0 rfl) ?_
        refine pg_get (ci := 10) (v := .int v0_10) (C := RX10) (T := TX10) (N := 6) hx hb hts it_10 hown hK hP hL_h0 hF_22 rfl 0 (by decide) (hts _ kt_127) (fun _ h9 => h9) rfl dX10_read_35 ?_
        refine lv_iconst (v := 4) hx hb dX10_read_38 (by decide) ?_
        refine lv_icmp_ne (tgt := 86) hx hb dX10_read_39 (by decide) (fun c_202 => ?_) (fun c_202 => ?_)
        ·
          refine W.widen (k := 0) (n := 0) (by omega) (by omega) ?_
          exact jn_23 (v0_10, v1_11, v2_12, t3, 32, v5_15) F_20 (⟨hF_22, by omega⟩) hO hR _ _ hP hD hS ls (lv_sub hl [0, 1, 2, 3] rfl)
        ·
          refine lv_aload_n hx hb dX10_read_42 rfl (lv_at hl 0 rfl) ?_
          refine lv_aload_n hx hb dX10_read_43 rfl (lv_at hl 1 rfl) ?_
          refine lv_bipush (v := 47) hx hb dX10_read_44 (by decide) ?_
          refine lv_aload_n hx hb dX10_read_46 rfl (lv_at hl 0 rfl) ?_
          refine pg_get (ci := 10) (v := .int v2_12) (C := RX10) (T := TX10) (N := 6) hx hb hts it_10 hown hK hP hL_h0 hF_22 rfl 2 (by decide) (hts _ kt_128) (fun _ h9 => h9) rfl dX10_read_47 ?_
          refine lv_iload_n hx hb dX10_read_50 rfl (lv_at hl 3 rfl) ?_
          have hFc := pg_free hD hS hA
          obtain ⟨hi_203, ht_204, hq_205⟩ := hW.bytes hL_g1 hT_g1
          obtain ⟨z_206, o_207, hF_208, hq_209, hq_210⟩ := hO.bytes hL_g1 hT_g1
          refine va_calli (va_runV (As := [.int 47, .int v2_12, .int (nI t3)]) (rest := [.ref h0]) ⟨hx, hb, hml, hown, hts⟩ (s_X0_find l dC dI cs ty L H.size F_20 g1 σ r1 n1 47 v2_12 (nI t3) hW hL_g1 hT_g1) ⟨callB_of 3 hts (gi kt_123) rfl rfl rfl (hts _ kt_1) (hts _ kt_131) (by decide +kernel) ⟨Nat.le_of_ble_eq_true rfl, Nat.le_of_ble_eq_true rfl⟩, (hts _ kt_125), (hts _ kt_126)⟩ ⟨fun a U g mk q => ⟨q.1, PT.calling q.2⟩, pg_recv hK hP hL_g1 hF_208 (q := (RX0, TX0, 3)) rfl, fun U hU hWm => ⟨rfl, PT.mk hU hWm hP hK hD hE hO⟩⟩ rfl rfl hl.1 rfl (lv_room (Nat.le_of_ble_eq_true rfl)) dX10_read_51 ⟨by show _ + 0 ≤ 0; omega, by show _ + 0 ≤ 0; omega⟩) hS (fun q _ h => hFc q h) hFc (fun r_211 u t H1 locs ht hvm hw hB hz1 hk1 hS => ?_)
          obtain ⟨F_212, hB1⟩ := hB
          obtain ⟨hP, hD, hO, hR⟩ := QT.back hB1 ht hFc hR (fun q h => absurd h List.not_mem_nil)
          have hF_213 : F_212 h0 = .inr (10, [.int v0_10, .int v1_11, .int v2_12, .int (nI t3), .int 32, .int v5_15]) := (hB1.2.2.2 h0 List.not_mem_nil).trans hF_22
          have hF_214 : F_212 g1 = .inr (0, [.ref r1, .int (nI z_206), .int o_207]) := (hB1.2.2.2 g1 List.not_mem_nil).trans hF_208
          generalize H1 = H at hP hS ⊢
          have hw : (r_211 = (nI t3) ∨ ∃ j : Nat, j < n1 ∧ r_211 = nI j) := hw
          have hw_215 := hw
          obtain ⟨t_216, ht_216, et_216⟩ := fnd hw_215 ht3 (by omega)
          subst et_216
          refine pg_put (ci := 10) (v := .int (nI t_216)) (ty := .int) (C := RX10) (T := TX10) (N := 6) hx hb hts it_10 tyX10 tyX10_ok nmX10 hown hK hP hD hS hL_h0 hF_213 rfl 3 (by decide) (hts _ kt_155) (fun _ h9 => h9) rfl (by decide +kernel) (rfl) (rfl) (Nat.le_of_ble_eq_true rfl) dX10_read_54 (fun H locs hP hD hS => ?_)
          obtain ⟨F_217, he_218, hP, hD, hO, hR⟩ : ∃ G, G = va_up F_212 h0 (.inr (10, [.int v0_10, .int v1_11, .int v2_12, .int (nI t_216), .int 32, .int v5_15])) ∧ va_P (dC, dI) vwCl (va_pl L G) H ∧ va_D A (va_pl L G) ∧ OK cs ty L G ∧ FR ty [ρ] F G := ⟨_, rfl, hP, hD, hO.up (sh.term hT_h0 ⟨v0_10, v1_11, v2_12, (nI t_216), 32, v5_15, rfl⟩), hR.up hT_h0 (by simp)⟩
          have hF_219 : F_217 h0 = .inr (10, [.int v0_10, .int v1_11, .int v2_12, .int (nI t_216), .int 32, .int v5_15]) := by rw [he_218]; exact up_self
          have hF_220 : F_217 g1 = .inr (0, [.ref r1, .int (nI z_206), .int o_207]) := by rw [he_218, up_ne (ne_ty hT_g1 hT_h0 (by simp))]; exact hF_214
          refine lv_aload_n hx hb dX10_read_57 rfl (lv_at hl 0 rfl) ?_
          refine lv_aload_n hx hb dX10_read_58 rfl (lv_at hl 0 rfl) ?_
          refine pg_get (ci := 10) (v := .int (nI t_216)) (C := RX10) (T := TX10) (N := 6) hx hb hts it_10 hown hK hP hL_h0 hF_219 rfl 3 (by decide) (hts _ kt_155) (fun _ h9 => h9) rfl dX10_read_59 ?_
          refine lv_iload_n hx hb dX10_read_62 rfl (lv_at hl 3 rfl) ?_
          refine lv_icmp_ne (tgt := 71) hx hb dX10_read_63 (by decide) (fun c_221 => ?_) (fun c_221 => ?_)
          ·
            refine lv_aload_n hx hb dX10_read_71 rfl (lv_at hl 1 rfl) ?_
            refine lv_aload_n hx hb dX10_read_72 rfl (lv_at hl 0 rfl) ?_
            refine pg_get (ci := 10) (v := .int (nI t_216)) (C := RX10) (T := TX10) (N := 6) hx hb hts it_10 hown hK hP hL_h0 hF_219 rfl 3 (by decide) (hts _ kt_155) (fun _ h9 => h9) rfl dX10_read_73 ?_
            refine lv_iconst (v := 1) hx hb dX10_read_76 (by decide) ?_
            refine lv_iadd hx hb dX10_read_77 ?_
            refine lv_topi (fun x_223 _ => ?_)
            refine lv_iload_n hx hb dX10_read_78 rfl (lv_at hl 3 rfl) ?_
            refine lv_iconst (v := 2) hx hb dX10_read_79 (by decide) ?_
            have hFc := pg_free hD hS hA
            refine va_calli (va_runS (As := [.ref g1, .int x_223, .int (nI t3), .int 2]) (rest := [.ref h0]) ⟨hx, hb, hml, hown, hts⟩ (s_X10_numberOf l dC dI cs ty L H.size F_217 g1 σ r1 n1 x_223 (nI t3) 2 hW hL_g1 hT_g1) ⟨callB_of 4 hts (gi kt_138) rfl rfl rfl (hts _ kt_90) (hts _ kt_139) (by decide +kernel) ⟨Nat.le_of_ble_eq_true rfl, Nat.le_of_ble_eq_true rfl⟩, (hts _ kt_140)⟩ ⟨fun a U g mk q => ⟨q.1, PT.calling q.2⟩, fun U hU hWm => ⟨rfl, PT.mk hU hWm hP hK hD hE hO⟩⟩ rfl rfl hl.1 rfl (lv_room (Nat.le_of_ble_eq_true rfl)) dX10_read_80 ⟨by show _ + 0 ≤ 0; omega, by show _ + 0 ≤ 0; omega⟩) hS (fun q _ h => hFc q h) hFc (fun r_224 u t H1 locs ht hvm hw hB hz1 hk1 hS => ?_)
            obtain ⟨F_225, hB1⟩ := hB
            obtain ⟨hP, hD, hO, hR⟩ := QT.back hB1 ht hFc hR (fun q h => absurd h List.not_mem_nil)
            have hF_226 : F_225 h0 = .inr (10, [.int v0_10, .int v1_11, .int v2_12, .int (nI t_216), .int 32, .int v5_15]) := (hB1.2.2.2 h0 List.not_mem_nil).trans hF_219
            have hF_227 : F_225 g1 = .inr (0, [.ref r1, .int (nI z_206), .int o_207]) := (hB1.2.2.2 g1 List.not_mem_nil).trans hF_220
            generalize H1 = H at hP hS ⊢
            have hw : True := hw
            have hw_228 := hw
            refine pg_put (ci := 10) (v := .int r_224) (ty := .int) (C := RX10) (T := TX10) (N := 6) hx hb hts it_10 tyX10 tyX10_ok nmX10 hown hK hP hD hS hL_h0 hF_226 rfl 4 (by decide) (hts _ kt_156) (fun _ h9 => h9) rfl (by decide +kernel) (rfl) (rfl) (Nat.le_of_ble_eq_true rfl) dX10_read_83 (fun H locs hP hD hS => ?_)
            obtain ⟨F_229, he_230, hP, hD, hO, hR⟩ : ∃ G, G = va_up F_225 h0 (.inr (10, [.int v0_10, .int v1_11, .int v2_12, .int (nI t_216), .int r_224, .int v5_15])) ∧ va_P (dC, dI) vwCl (va_pl L G) H ∧ va_D A (va_pl L G) ∧ OK cs ty L G ∧ FR ty [ρ] F G := ⟨_, rfl, hP, hD, hO.up (sh.term hT_h0 ⟨v0_10, v1_11, v2_12, (nI t_216), r_224, v5_15, rfl⟩), hR.up hT_h0 (by simp)⟩
            have hF_231 : F_229 h0 = .inr (10, [.int v0_10, .int v1_11, .int v2_12, .int (nI t_216), .int r_224, .int v5_15]) := by rw [he_230]; exact up_self
            have hF_232 : F_229 g1 = .inr (0, [.ref r1, .int (nI z_206), .int o_207]) := by rw [he_230, up_ne (ne_ty hT_g1 hT_h0 (by simp))]; exact hF_227
            refine W.widen (k := 0) (n := 0) (by omega) (by omega) ?_
            exact jn_23 (v0_10, v1_11, v2_12, t_216, r_224, v5_15) F_229 (⟨hF_231, by omega⟩) hO hR _ _ hP hD hS ls (lv_sub hl [0, 1, 2, 3] rfl)
          ·
            refine lv_bipush (v := 32) hx hb dX10_read_66 (by decide) ?_
            refine lv_goto (tgt := 83) hx hb dX10_read_68 (by decide) ?_
            refine pg_put (ci := 10) (v := .int 32) (ty := .int) (C := RX10) (T := TX10) (N := 6) hx hb hts it_10 tyX10 tyX10_ok nmX10 hown hK hP hD hS hL_h0 hF_219 rfl 4 (by decide) (hts _ kt_156) (fun _ h9 => h9) rfl (by decide +kernel) (rfl) (rfl) (Nat.le_of_ble_eq_true rfl) dX10_read_83 (fun H locs hP hD hS => ?_)
            obtain ⟨F_234, he_235, hP, hD, hO, hR⟩ : ∃ G, G = va_up F_217 h0 (.inr (10, [.int v0_10, .int v1_11, .int v2_12, .int (nI t_216), .int 32, .int v5_15])) ∧ va_P (dC, dI) vwCl (va_pl L G) H ∧ va_D A (va_pl L G) ∧ OK cs ty L G ∧ FR ty [ρ] F G := ⟨_, rfl, hP, hD, hO.up (sh.term hT_h0 ⟨v0_10, v1_11, v2_12, (nI t_216), 32, v5_15, rfl⟩), hR.up hT_h0 (by simp)⟩
            have hF_236 : F_234 h0 = .inr (10, [.int v0_10, .int v1_11, .int v2_12, .int (nI t_216), .int 32, .int v5_15]) := by rw [he_235]; exact up_self
            have hF_237 : F_234 g1 = .inr (0, [.ref r1, .int (nI z_206), .int o_207]) := by rw [he_235, up_ne (ne_ty hT_g1 hT_h0 (by simp))]; exact hF_220
            refine W.widen (k := 0) (n := 0) (by omega) (by omega) ?_
            exact jn_23 (v0_10, v1_11, v2_12, t_216, 32, v5_15) F_234 (⟨hF_236, by omega⟩) hO hR _ _ hP hD hS ls (lv_sub hl [0, 1, 2, 3] rfl)
