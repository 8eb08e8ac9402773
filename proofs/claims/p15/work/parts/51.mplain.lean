theorem dX15_bodyPlain_0 : decode cX15_bodyPlain 0 = .ok (.aload_n 0, 1) := by decide +kernel
theorem dX15_bodyPlain_1 : decode cX15_bodyPlain 1 = .ok (.getfield 91, 3) := by decide +kernel
theorem dX15_bodyPlain_4 : decode cX15_bodyPlain 4 = .ok (.iconst 0, 1) := by decide +kernel
theorem dX15_bodyPlain_5 : decode cX15_bodyPlain 5 = .ok (.putfield 190, 3) := by decide +kernel
theorem dX15_bodyPlain_8 : decode cX15_bodyPlain 8 = .ok (.iconst 0, 1) := by decide +kernel
theorem dX15_bodyPlain_9 : decode cX15_bodyPlain 9 = .ok (.istore_n 2, 1) := by decide +kernel
theorem dX15_bodyPlain_10 : decode cX15_bodyPlain 10 = .ok (.aload_n 0, 1) := by decide +kernel
theorem dX15_bodyPlain_11 : decode cX15_bodyPlain 11 = .ok (.getfield 364, 3) := by decide +kernel
theorem dX15_bodyPlain_14 : decode cX15_bodyPlain 14 = .ok (.istore_n 3, 1) := by decide +kernel
theorem dX15_bodyPlain_15 : decode cX15_bodyPlain 15 = .ok (.iload_n 3, 1) := by decide +kernel
theorem dX15_bodyPlain_16 : decode cX15_bodyPlain 16 = .ok (.aload_n 0, 1) := by decide +kernel
theorem dX15_bodyPlain_17 : decode cX15_bodyPlain 17 = .ok (.getfield 367, 3) := by decide +kernel
theorem dX15_bodyPlain_20 : decode cX15_bodyPlain 20 = .ok (.if_icmp .ge 198, 3) := by decide +kernel
theorem dX15_bodyPlain_23 : decode cX15_bodyPlain 23 = .ok (.aload_n 0, 1) := by decide +kernel
theorem dX15_bodyPlain_24 : decode cX15_bodyPlain 24 = .ok (.getfield 70, 3) := by decide +kernel
theorem dX15_bodyPlain_27 : decode cX15_bodyPlain 27 = .ok (.iload_n 3, 1) := by decide +kernel
theorem dX15_bodyPlain_28 : decode cX15_bodyPlain 28 = .ok (.aload_n 0, 1) := by decide +kernel
theorem dX15_bodyPlain_29 : decode cX15_bodyPlain 29 = .ok (.getfield 367, 3) := by decide +kernel
theorem dX15_bodyPlain_32 : decode cX15_bodyPlain 32 = .ok (.invokestatic 344, 3) := by decide +kernel
theorem dX15_bodyPlain_35 : decode cX15_bodyPlain 35 = .ok (.istore 4, 2) := by decide +kernel
theorem dX15_bodyPlain_37 : decode cX15_bodyPlain 37 = .ok (.aload_n 0, 1) := by decide +kernel
theorem dX15_bodyPlain_38 : decode cX15_bodyPlain 38 = .ok (.getfield 70, 3) := by decide +kernel
theorem dX15_bodyPlain_41 : decode cX15_bodyPlain 41 = .ok (.iload 4, 2) := by decide +kernel
theorem dX15_bodyPlain_43 : decode cX15_bodyPlain 43 = .ok (.iconst 1, 1) := by decide +kernel
theorem dX15_bodyPlain_44 : decode cX15_bodyPlain 44 = .ok (.isub, 1) := by decide +kernel
theorem dX15_bodyPlain_45 : decode cX15_bodyPlain 45 = .ok (.baload, 1) := by decide +kernel
theorem dX15_bodyPlain_46 : decode cX15_bodyPlain 46 = .ok (.bipush 10, 2) := by decide +kernel
theorem dX15_bodyPlain_48 : decode cX15_bodyPlain 48 = .ok (.if_icmp .ne 10, 3) := by decide +kernel
theorem dX15_bodyPlain_51 : decode cX15_bodyPlain 51 = .ok (.iload 4, 2) := by decide +kernel
theorem dX15_bodyPlain_53 : decode cX15_bodyPlain 53 = .ok (.iconst 1, 1) := by decide +kernel
theorem dX15_bodyPlain_54 : decode cX15_bodyPlain 54 = .ok (.isub, 1) := by decide +kernel
theorem dX15_bodyPlain_55 : decode cX15_bodyPlain 55 = .ok (.goto 5, 3) := by decide +kernel
theorem dX15_bodyPlain_58 : decode cX15_bodyPlain 58 = .ok (.iload 4, 2) := by decide +kernel
theorem dX15_bodyPlain_60 : decode cX15_bodyPlain 60 = .ok (.istore 5, 2) := by decide +kernel
theorem dX15_bodyPlain_62 : decode cX15_bodyPlain 62 = .ok (.iload_n 1, 1) := by decide +kernel
theorem dX15_bodyPlain_63 : decode cX15_bodyPlain 63 = .ok (.ifCond .eq 30, 3) := by decide +kernel
theorem dX15_bodyPlain_66 : decode cX15_bodyPlain 66 = .ok (.iload 5, 2) := by decide +kernel
theorem dX15_bodyPlain_68 : decode cX15_bodyPlain 68 = .ok (.iload_n 3, 1) := by decide +kernel
theorem dX15_bodyPlain_69 : decode cX15_bodyPlain 69 = .ok (.if_icmp .le 24, 3) := by decide +kernel
theorem dX15_bodyPlain_72 : decode cX15_bodyPlain 72 = .ok (.aload_n 0, 1) := by decide +kernel
theorem dX15_bodyPlain_73 : decode cX15_bodyPlain 73 = .ok (.getfield 70, 3) := by decide +kernel
theorem dX15_bodyPlain_76 : decode cX15_bodyPlain 76 = .ok (.iload 5, 2) := by decide +kernel
theorem dX15_bodyPlain_78 : decode cX15_bodyPlain 78 = .ok (.iconst 1, 1) := by decide +kernel
theorem dX15_bodyPlain_79 : decode cX15_bodyPlain 79 = .ok (.isub, 1) := by decide +kernel
theorem dX15_bodyPlain_80 : decode cX15_bodyPlain 80 = .ok (.baload, 1) := by decide +kernel
theorem dX15_bodyPlain_81 : decode cX15_bodyPlain 81 = .ok (.invokestatic 347, 3) := by decide +kernel
theorem dX15_bodyPlain_84 : decode cX15_bodyPlain 84 = .ok (.ifCond .eq 9, 3) := by decide +kernel
theorem dX15_bodyPlain_87 : decode cX15_bodyPlain 87 = .ok (.iinc 5 (-1), 3) := by decide +kernel
theorem dX15_bodyPlain_90 : decode cX15_bodyPlain 90 = .ok (.goto (-24), 3) := by decide +kernel
theorem dX15_bodyPlain_93 : decode cX15_bodyPlain 93 = .ok (.iload 5, 2) := by decide +kernel
theorem dX15_bodyPlain_95 : decode cX15_bodyPlain 95 = .ok (.iload_n 3, 1) := by decide +kernel
theorem dX15_bodyPlain_96 : decode cX15_bodyPlain 96 = .ok (.if_icmp .le 7, 3) := by decide +kernel
theorem dX15_bodyPlain_99 : decode cX15_bodyPlain 99 = .ok (.iconst 1, 1) := by decide +kernel
theorem dX15_bodyPlain_100 : decode cX15_bodyPlain 100 = .ok (.goto 4, 3) := by decide +kernel
theorem dX15_bodyPlain_103 : decode cX15_bodyPlain 103 = .ok (.iconst 0, 1) := by decide +kernel
theorem dX15_bodyPlain_104 : decode cX15_bodyPlain 104 = .ok (.istore 6, 2) := by decide +kernel
theorem dX15_bodyPlain_106 : decode cX15_bodyPlain 106 = .ok (.iload_n 3, 1) := by decide +kernel
theorem dX15_bodyPlain_107 : decode cX15_bodyPlain 107 = .ok (.istore 7, 2) := by decide +kernel
theorem dX15_bodyPlain_109 : decode cX15_bodyPlain 109 = .ok (.iload 7, 2) := by decide +kernel
theorem dX15_bodyPlain_111 : decode cX15_bodyPlain 111 = .ok (.iload 5, 2) := by decide +kernel
theorem dX15_bodyPlain_113 : decode cX15_bodyPlain 113 = .ok (.if_icmp .ge 77, 3) := by decide +kernel
theorem dX15_bodyPlain_116 : decode cX15_bodyPlain 116 = .ok (.aload_n 0, 1) := by decide +kernel
theorem dX15_bodyPlain_117 : decode cX15_bodyPlain 117 = .ok (.getfield 70, 3) := by decide +kernel
theorem dX15_bodyPlain_120 : decode cX15_bodyPlain 120 = .ok (.iload 7, 2) := by decide +kernel
theorem dX15_bodyPlain_122 : decode cX15_bodyPlain 122 = .ok (.baload, 1) := by decide +kernel
theorem dX15_bodyPlain_123 : decode cX15_bodyPlain 123 = .ok (.invokestatic 347, 3) := by decide +kernel
theorem dX15_bodyPlain_126 : decode cX15_bodyPlain 126 = .ok (.istore 8, 2) := by decide +kernel
theorem dX15_bodyPlain_128 : decode cX15_bodyPlain 128 = .ok (.iload_n 1, 1) := by decide +kernel
theorem dX15_bodyPlain_129 : decode cX15_bodyPlain 129 = .ok (.ifCond .eq 8, 3) := by decide +kernel
theorem dX15_bodyPlain_132 : decode cX15_bodyPlain 132 = .ok (.iload 8, 2) := by decide +kernel
theorem dX15_bodyPlain_134 : decode cX15_bodyPlain 134 = .ok (.ifCond .ne 20, 3) := by decide +kernel
theorem dX15_bodyPlain_137 : decode cX15_bodyPlain 137 = .ok (.aload_n 0, 1) := by decide +kernel
theorem dX15_bodyPlain_138 : decode cX15_bodyPlain 138 = .ok (.getfield 91, 3) := by decide +kernel
theorem dX15_bodyPlain_141 : decode cX15_bodyPlain 141 = .ok (.aload_n 0, 1) := by decide +kernel
theorem dX15_bodyPlain_142 : decode cX15_bodyPlain 142 = .ok (.getfield 70, 3) := by decide +kernel
theorem dX15_bodyPlain_145 : decode cX15_bodyPlain 145 = .ok (.iload 7, 2) := by decide +kernel
theorem dX15_bodyPlain_147 : decode cX15_bodyPlain 147 = .ok (.baload, 1) := by decide +kernel
theorem dX15_bodyPlain_148 : decode cX15_bodyPlain 148 = .ok (.invokevirtual 292, 3) := by decide +kernel
theorem dX15_bodyPlain_151 : decode cX15_bodyPlain 151 = .ok (.goto 33, 3) := by decide +kernel
theorem dX15_bodyPlain_154 : decode cX15_bodyPlain 154 = .ok (.aload_n 0, 1) := by decide +kernel
theorem dX15_bodyPlain_155 : decode cX15_bodyPlain 155 = .ok (.getfield 70, 3) := by decide +kernel
theorem dX15_bodyPlain_158 : decode cX15_bodyPlain 158 = .ok (.iload 7, 2) := by decide +kernel
theorem dX15_bodyPlain_160 : decode cX15_bodyPlain 160 = .ok (.iconst 1, 1) := by decide +kernel
theorem dX15_bodyPlain_161 : decode cX15_bodyPlain 161 = .ok (.isub, 1) := by decide +kernel
theorem dX15_bodyPlain_162 : decode cX15_bodyPlain 162 = .ok (.baload, 1) := by decide +kernel
theorem dX15_bodyPlain_163 : decode cX15_bodyPlain 163 = .ok (.invokestatic 347, 3) := by decide +kernel
theorem dX15_bodyPlain_166 : decode cX15_bodyPlain 166 = .ok (.ifCond .eq 9, 3) := by decide +kernel
theorem dX15_bodyPlain_169 : decode cX15_bodyPlain 169 = .ok (.iload 7, 2) := by decide +kernel
theorem dX15_bodyPlain_171 : decode cX15_bodyPlain 171 = .ok (.iload_n 3, 1) := by decide +kernel
theorem dX15_bodyPlain_172 : decode cX15_bodyPlain 172 = .ok (.if_icmp .ne 12, 3) := by decide +kernel
theorem dX15_bodyPlain_175 : decode cX15_bodyPlain 175 = .ok (.aload_n 0, 1) := by decide +kernel
theorem dX15_bodyPlain_176 : decode cX15_bodyPlain 176 = .ok (.getfield 91, 3) := by decide +kernel
theorem dX15_bodyPlain_179 : decode cX15_bodyPlain 179 = .ok (.bipush 32, 2) := by decide +kernel
theorem dX15_bodyPlain_181 : decode cX15_bodyPlain 181 = .ok (.invokevirtual 292, 3) := by decide +kernel
theorem dX15_bodyPlain_184 : decode cX15_bodyPlain 184 = .ok (.iinc 7 1, 3) := by decide +kernel
theorem dX15_bodyPlain_187 : decode cX15_bodyPlain 187 = .ok (.goto (-78), 3) := by decide +kernel
theorem dX15_bodyPlain_190 : decode cX15_bodyPlain 190 = .ok (.aload_n 0, 1) := by decide +kernel
theorem dX15_bodyPlain_191 : decode cX15_bodyPlain 191 = .ok (.getfield 91, 3) := by decide +kernel
theorem dX15_bodyPlain_194 : decode cX15_bodyPlain 194 = .ok (.bipush 10, 2) := by decide +kernel
theorem dX15_bodyPlain_196 : decode cX15_bodyPlain 196 = .ok (.invokevirtual 292, 3) := by decide +kernel
theorem dX15_bodyPlain_199 : decode cX15_bodyPlain 199 = .ok (.iload 6, 2) := by decide +kernel
theorem dX15_bodyPlain_201 : decode cX15_bodyPlain 201 = .ok (.ifCond .eq 11, 3) := by decide +kernel
theorem dX15_bodyPlain_204 : decode cX15_bodyPlain 204 = .ok (.aload_n 0, 1) := by decide +kernel
theorem dX15_bodyPlain_205 : decode cX15_bodyPlain 205 = .ok (.getfield 91, 3) := by decide +kernel
theorem dX15_bodyPlain_208 : decode cX15_bodyPlain 208 = .ok (.getfield 190, 3) := by decide +kernel
theorem dX15_bodyPlain_211 : decode cX15_bodyPlain 211 = .ok (.istore_n 2, 1) := by decide +kernel
theorem dX15_bodyPlain_212 : decode cX15_bodyPlain 212 = .ok (.iload 4, 2) := by decide +kernel
theorem dX15_bodyPlain_214 : decode cX15_bodyPlain 214 = .ok (.istore_n 3, 1) := by decide +kernel
theorem dX15_bodyPlain_215 : decode cX15_bodyPlain 215 = .ok (.goto (-200), 3) := by decide +kernel
theorem dX15_bodyPlain_218 : decode cX15_bodyPlain 218 = .ok (.aload_n 0, 1) := by decide +kernel
theorem dX15_bodyPlain_219 : decode cX15_bodyPlain 219 = .ok (.getfield 91, 3) := by decide +kernel
theorem dX15_bodyPlain_222 : decode cX15_bodyPlain 222 = .ok (.iload_n 2, 1) := by decide +kernel
theorem dX15_bodyPlain_223 : decode cX15_bodyPlain 223 = .ok (.putfield 190, 3) := by decide +kernel
theorem dX15_bodyPlain_226 : decode cX15_bodyPlain 226 = .ok (.iload_n 2, 1) := by decide +kernel
theorem dX15_bodyPlain_227 : decode cX15_bodyPlain 227 = .ok (.ifCond .ne 16, 3) := by decide +kernel
theorem dX15_bodyPlain_230 : decode cX15_bodyPlain 230 = .ok (.iload_n 1, 1) := by decide +kernel
theorem dX15_bodyPlain_231 : decode cX15_bodyPlain 231 = .ok (.ifCond .ne 12, 3) := by decide +kernel
theorem dX15_bodyPlain_234 : decode cX15_bodyPlain 234 = .ok (.aload_n 0, 1) := by decide +kernel
theorem dX15_bodyPlain_235 : decode cX15_bodyPlain 235 = .ok (.getfield 91, 3) := by decide +kernel
theorem dX15_bodyPlain_238 : decode cX15_bodyPlain 238 = .ok (.bipush 10, 2) := by decide +kernel
theorem dX15_bodyPlain_240 : decode cX15_bodyPlain 240 = .ok (.invokevirtual 292, 3) := by decide +kernel
theorem dX15_bodyPlain_243 : decode cX15_bodyPlain 243 = .ok (.return_, 1) := by decide +kernel
theorem dX15_fieldPlain_0 : decode cX15_fieldPlain 0 = .ok (.aload_n 0, 1) := by decide +kernel
theorem dX15_fieldPlain_1 : decode cX15_fieldPlain 1 = .ok (.iload_n 1, 1) := by decide +kernel
theorem dX15_fieldPlain_2 : decode cX15_fieldPlain 2 = .ok (.invokevirtual 382, 3) := by decide +kernel
theorem dX15_fieldPlain_5 : decode cX15_fieldPlain 5 = .ok (.istore 5, 2) := by decide +kernel
theorem dX15_fieldPlain_7 : decode cX15_fieldPlain 7 = .ok (.iload_n 2, 1) := by decide +kernel
theorem dX15_fieldPlain_8 : decode cX15_fieldPlain 8 = .ok (.ifCond .ne 52, 3) := by decide +kernel
theorem dX15_fieldPlain_11 : decode cX15_fieldPlain 11 = .ok (.aload_n 0, 1) := by decide +kernel
theorem dX15_fieldPlain_12 : decode cX15_fieldPlain 12 = .ok (.getfield 73, 3) := by decide +kernel
theorem dX15_fieldPlain_15 : decode cX15_fieldPlain 15 = .ok (.iload_n 1, 1) := by decide +kernel
theorem dX15_fieldPlain_16 : decode cX15_fieldPlain 16 = .ok (.iaload, 1) := by decide +kernel
theorem dX15_fieldPlain_17 : decode cX15_fieldPlain 17 = .ok (.istore 6, 2) := by decide +kernel
theorem dX15_fieldPlain_19 : decode cX15_fieldPlain 19 = .ok (.iload 6, 2) := by decide +kernel
theorem dX15_fieldPlain_21 : decode cX15_fieldPlain 21 = .ok (.iload 5, 2) := by decide +kernel
theorem dX15_fieldPlain_23 : decode cX15_fieldPlain 23 = .ok (.if_icmp .ge 36, 3) := by decide +kernel
theorem dX15_fieldPlain_26 : decode cX15_fieldPlain 26 = .ok (.iload 6, 2) := by decide +kernel
theorem dX15_fieldPlain_28 : decode cX15_fieldPlain 28 = .ok (.iload_n 3, 1) := by decide +kernel
theorem dX15_fieldPlain_29 : decode cX15_fieldPlain 29 = .ok (.if_icmp .lt 10, 3) := by decide +kernel
theorem dX15_fieldPlain_32 : decode cX15_fieldPlain 32 = .ok (.iload 6, 2) := by decide +kernel
theorem dX15_fieldPlain_34 : decode cX15_fieldPlain 34 = .ok (.iload 4, 2) := by decide +kernel
theorem dX15_fieldPlain_36 : decode cX15_fieldPlain 36 = .ok (.if_icmp .lt 17, 3) := by decide +kernel
theorem dX15_fieldPlain_39 : decode cX15_fieldPlain 39 = .ok (.aload_n 0, 1) := by decide +kernel
theorem dX15_fieldPlain_40 : decode cX15_fieldPlain 40 = .ok (.getfield 91, 3) := by decide +kernel
theorem dX15_fieldPlain_43 : decode cX15_fieldPlain 43 = .ok (.aload_n 0, 1) := by decide +kernel
theorem dX15_fieldPlain_44 : decode cX15_fieldPlain 44 = .ok (.getfield 70, 3) := by decide +kernel
theorem dX15_fieldPlain_47 : decode cX15_fieldPlain 47 = .ok (.iload 6, 2) := by decide +kernel
theorem dX15_fieldPlain_49 : decode cX15_fieldPlain 49 = .ok (.baload, 1) := by decide +kernel
theorem dX15_fieldPlain_50 : decode cX15_fieldPlain 50 = .ok (.invokevirtual 292, 3) := by decide +kernel
theorem dX15_fieldPlain_53 : decode cX15_fieldPlain 53 = .ok (.iinc 6 1, 3) := by decide +kernel
theorem dX15_fieldPlain_56 : decode cX15_fieldPlain 56 = .ok (.goto (-37), 3) := by decide +kernel
theorem dX15_fieldPlain_59 : decode cX15_fieldPlain 59 = .ok (.return_, 1) := by decide +kernel
theorem dX15_fieldPlain_60 : decode cX15_fieldPlain 60 = .ok (.aload_n 0, 1) := by decide +kernel
theorem dX15_fieldPlain_61 : decode cX15_fieldPlain 61 = .ok (.getfield 73, 3) := by decide +kernel
theorem dX15_fieldPlain_64 : decode cX15_fieldPlain 64 = .ok (.iload_n 1, 1) := by decide +kernel
theorem dX15_fieldPlain_65 : decode cX15_fieldPlain 65 = .ok (.iaload, 1) := by decide +kernel
theorem dX15_fieldPlain_66 : decode cX15_fieldPlain 66 = .ok (.istore 6, 2) := by decide +kernel
theorem dX15_fieldPlain_68 : decode cX15_fieldPlain 68 = .ok (.iload 6, 2) := by decide +kernel
theorem dX15_fieldPlain_70 : decode cX15_fieldPlain 70 = .ok (.aload_n 0, 1) := by decide +kernel
theorem dX15_fieldPlain_71 : decode cX15_fieldPlain 71 = .ok (.getfield 76, 3) := by decide +kernel
theorem dX15_fieldPlain_74 : decode cX15_fieldPlain 74 = .ok (.iload_n 1, 1) := by decide +kernel
theorem dX15_fieldPlain_75 : decode cX15_fieldPlain 75 = .ok (.iaload, 1) := by decide +kernel
theorem dX15_fieldPlain_76 : decode cX15_fieldPlain 76 = .ok (.if_icmp .ge 26, 3) := by decide +kernel
theorem dX15_fieldPlain_79 : decode cX15_fieldPlain 79 = .ok (.aload_n 0, 1) := by decide +kernel
theorem dX15_fieldPlain_80 : decode cX15_fieldPlain 80 = .ok (.getfield 91, 3) := by decide +kernel
theorem dX15_fieldPlain_83 : decode cX15_fieldPlain 83 = .ok (.aload_n 0, 1) := by decide +kernel
theorem dX15_fieldPlain_84 : decode cX15_fieldPlain 84 = .ok (.getfield 70, 3) := by decide +kernel
theorem dX15_fieldPlain_87 : decode cX15_fieldPlain 87 = .ok (.iload 6, 2) := by decide +kernel
theorem dX15_fieldPlain_89 : decode cX15_fieldPlain 89 = .ok (.baload, 1) := by decide +kernel
theorem dX15_fieldPlain_90 : decode cX15_fieldPlain 90 = .ok (.invokestatic 21, 3) := by decide +kernel
theorem dX15_fieldPlain_93 : decode cX15_fieldPlain 93 = .ok (.invokevirtual 292, 3) := by decide +kernel
theorem dX15_fieldPlain_96 : decode cX15_fieldPlain 96 = .ok (.iinc 6 1, 3) := by decide +kernel
theorem dX15_fieldPlain_99 : decode cX15_fieldPlain 99 = .ok (.goto (-31), 3) := by decide +kernel
theorem dX15_fieldPlain_102 : decode cX15_fieldPlain 102 = .ok (.aload_n 0, 1) := by decide +kernel
theorem dX15_fieldPlain_103 : decode cX15_fieldPlain 103 = .ok (.getfield 91, 3) := by decide +kernel
theorem dX15_fieldPlain_106 : decode cX15_fieldPlain 106 = .ok (.bipush 58, 2) := by decide +kernel
theorem dX15_fieldPlain_108 : decode cX15_fieldPlain 108 = .ok (.invokevirtual 292, 3) := by decide +kernel
theorem dX15_fieldPlain_111 : decode cX15_fieldPlain 111 = .ok (.iconst 0, 1) := by decide +kernel
theorem dX15_fieldPlain_112 : decode cX15_fieldPlain 112 = .ok (.istore 6, 2) := by decide +kernel
theorem dX15_fieldPlain_114 : decode cX15_fieldPlain 114 = .ok (.iconst 0, 1) := by decide +kernel
theorem dX15_fieldPlain_115 : decode cX15_fieldPlain 115 = .ok (.istore 7, 2) := by decide +kernel
theorem dX15_fieldPlain_117 : decode cX15_fieldPlain 117 = .ok (.aload_n 0, 1) := by decide +kernel
theorem dX15_fieldPlain_118 : decode cX15_fieldPlain 118 = .ok (.getfield 76, 3) := by decide +kernel
theorem dX15_fieldPlain_121 : decode cX15_fieldPlain 121 = .ok (.iload_n 1, 1) := by decide +kernel
theorem dX15_fieldPlain_122 : decode cX15_fieldPlain 122 = .ok (.iaload, 1) := by decide +kernel
theorem dX15_fieldPlain_123 : decode cX15_fieldPlain 123 = .ok (.iconst 1, 1) := by decide +kernel
theorem dX15_fieldPlain_124 : decode cX15_fieldPlain 124 = .ok (.iadd, 1) := by decide +kernel
theorem dX15_fieldPlain_125 : decode cX15_fieldPlain 125 = .ok (.istore 8, 2) := by decide +kernel
theorem dX15_fieldPlain_127 : decode cX15_fieldPlain 127 = .ok (.iload 8, 2) := by decide +kernel
theorem dX15_fieldPlain_129 : decode cX15_fieldPlain 129 = .ok (.iload 5, 2) := by decide +kernel
theorem dX15_fieldPlain_131 : decode cX15_fieldPlain 131 = .ok (.if_icmp .ge 95, 3) := by decide +kernel
theorem dX15_fieldPlain_134 : decode cX15_fieldPlain 134 = .ok (.iload 8, 2) := by decide +kernel
theorem dX15_fieldPlain_136 : decode cX15_fieldPlain 136 = .ok (.iload_n 3, 1) := by decide +kernel
theorem dX15_fieldPlain_137 : decode cX15_fieldPlain 137 = .ok (.if_icmp .lt 10, 3) := by decide +kernel
theorem dX15_fieldPlain_140 : decode cX15_fieldPlain 140 = .ok (.iload 8, 2) := by decide +kernel
theorem dX15_fieldPlain_142 : decode cX15_fieldPlain 142 = .ok (.iload 4, 2) := by decide +kernel
theorem dX15_fieldPlain_144 : decode cX15_fieldPlain 144 = .ok (.if_icmp .lt 76, 3) := by decide +kernel
theorem dX15_fieldPlain_147 : decode cX15_fieldPlain 147 = .ok (.aload_n 0, 1) := by decide +kernel
theorem dX15_fieldPlain_148 : decode cX15_fieldPlain 148 = .ok (.getfield 70, 3) := by decide +kernel
theorem dX15_fieldPlain_151 : decode cX15_fieldPlain 151 = .ok (.iload 8, 2) := by decide +kernel
theorem dX15_fieldPlain_153 : decode cX15_fieldPlain 153 = .ok (.baload, 1) := by decide +kernel
theorem dX15_fieldPlain_154 : decode cX15_fieldPlain 154 = .ok (.bipush 10, 2) := by decide +kernel
theorem dX15_fieldPlain_156 : decode cX15_fieldPlain 156 = .ok (.if_icmp .ne 6, 3) := by decide +kernel
theorem dX15_fieldPlain_159 : decode cX15_fieldPlain 159 = .ok (.goto 61, 3) := by decide +kernel
theorem dX15_fieldPlain_162 : decode cX15_fieldPlain 162 = .ok (.aload_n 0, 1) := by decide +kernel
theorem dX15_fieldPlain_163 : decode cX15_fieldPlain 163 = .ok (.getfield 70, 3) := by decide +kernel
theorem dX15_fieldPlain_166 : decode cX15_fieldPlain 166 = .ok (.iload 8, 2) := by decide +kernel
theorem dX15_fieldPlain_168 : decode cX15_fieldPlain 168 = .ok (.baload, 1) := by decide +kernel
theorem dX15_fieldPlain_169 : decode cX15_fieldPlain 169 = .ok (.invokestatic 347, 3) := by decide +kernel
theorem dX15_fieldPlain_172 : decode cX15_fieldPlain 172 = .ok (.ifCond .eq 9, 3) := by decide +kernel
theorem dX15_fieldPlain_175 : decode cX15_fieldPlain 175 = .ok (.iconst 1, 1) := by decide +kernel
theorem dX15_fieldPlain_176 : decode cX15_fieldPlain 176 = .ok (.istore 7, 2) := by decide +kernel
theorem dX15_fieldPlain_178 : decode cX15_fieldPlain 178 = .ok (.goto 42, 3) := by decide +kernel
theorem dX15_fieldPlain_181 : decode cX15_fieldPlain 181 = .ok (.iload 7, 2) := by decide +kernel
theorem dX15_fieldPlain_183 : decode cX15_fieldPlain 183 = .ok (.ifCond .eq 17, 3) := by decide +kernel
theorem dX15_fieldPlain_186 : decode cX15_fieldPlain 186 = .ok (.iload 6, 2) := by decide +kernel
theorem dX15_fieldPlain_188 : decode cX15_fieldPlain 188 = .ok (.ifCond .eq 12, 3) := by decide +kernel
theorem dX15_fieldPlain_191 : decode cX15_fieldPlain 191 = .ok (.aload_n 0, 1) := by decide +kernel
theorem dX15_fieldPlain_192 : decode cX15_fieldPlain 192 = .ok (.getfield 91, 3) := by decide +kernel
theorem dX15_fieldPlain_195 : decode cX15_fieldPlain 195 = .ok (.bipush 32, 2) := by decide +kernel
theorem dX15_fieldPlain_197 : decode cX15_fieldPlain 197 = .ok (.invokevirtual 292, 3) := by decide +kernel
theorem dX15_fieldPlain_200 : decode cX15_fieldPlain 200 = .ok (.iconst 0, 1) := by decide +kernel
theorem dX15_fieldPlain_201 : decode cX15_fieldPlain 201 = .ok (.istore 7, 2) := by decide +kernel
theorem dX15_fieldPlain_203 : decode cX15_fieldPlain 203 = .ok (.iconst 1, 1) := by decide +kernel
theorem dX15_fieldPlain_204 : decode cX15_fieldPlain 204 = .ok (.istore 6, 2) := by decide +kernel
theorem dX15_fieldPlain_206 : decode cX15_fieldPlain 206 = .ok (.aload_n 0, 1) := by decide +kernel
theorem dX15_fieldPlain_207 : decode cX15_fieldPlain 207 = .ok (.getfield 91, 3) := by decide +kernel
theorem dX15_fieldPlain_210 : decode cX15_fieldPlain 210 = .ok (.aload_n 0, 1) := by decide +kernel
theorem dX15_fieldPlain_211 : decode cX15_fieldPlain 211 = .ok (.getfield 70, 3) := by decide +kernel
theorem dX15_fieldPlain_214 : decode cX15_fieldPlain 214 = .ok (.iload 8, 2) := by decide +kernel
theorem dX15_fieldPlain_216 : decode cX15_fieldPlain 216 = .ok (.baload, 1) := by decide +kernel
theorem dX15_fieldPlain_217 : decode cX15_fieldPlain 217 = .ok (.invokevirtual 292, 3) := by decide +kernel
theorem dX15_fieldPlain_220 : decode cX15_fieldPlain 220 = .ok (.iinc 8 1, 3) := by decide +kernel
theorem dX15_fieldPlain_223 : decode cX15_fieldPlain 223 = .ok (.goto (-96), 3) := by decide +kernel
theorem dX15_fieldPlain_226 : decode cX15_fieldPlain 226 = .ok (.return_, 1) := by decide +kernel
theorem dX15_isNamed_0 : decode cX15_isNamed 0 = .ok (.aload_n 0, 1) := by decide +kernel
theorem dX15_isNamed_1 : decode cX15_isNamed 1 = .ok (.getfield 70, 3) := by decide +kernel
theorem dX15_isNamed_4 : decode cX15_isNamed 4 = .ok (.aload_n 0, 1) := by decide +kernel
theorem dX15_isNamed_5 : decode cX15_isNamed 5 = .ok (.getfield 73, 3) := by decide +kernel
theorem dX15_isNamed_8 : decode cX15_isNamed 8 = .ok (.iload_n 1, 1) := by decide +kernel
theorem dX15_isNamed_9 : decode cX15_isNamed 9 = .ok (.iaload, 1) := by decide +kernel
theorem dX15_isNamed_10 : decode cX15_isNamed 10 = .ok (.aload_n 0, 1) := by decide +kernel
theorem dX15_isNamed_11 : decode cX15_isNamed 11 = .ok (.getfield 76, 3) := by decide +kernel
theorem dX15_isNamed_14 : decode cX15_isNamed 14 = .ok (.iload_n 1, 1) := by decide +kernel
theorem dX15_isNamed_15 : decode cX15_isNamed 15 = .ok (.iaload, 1) := by decide +kernel
theorem dX15_isNamed_16 : decode cX15_isNamed 16 = .ok (.aload_n 2, 1) := by decide +kernel
theorem dX15_isNamed_17 : decode cX15_isNamed 17 = .ok (.invokestatic 373, 3) := by decide +kernel
theorem dX15_isNamed_20 : decode cX15_isNamed 20 = .ok (.ireturn, 1) := by decide +kernel
theorem dX15_sealAt_0 : decode cX15_sealAt 0 = .ok (.iload_n 1, 1) := by decide +kernel
theorem dX15_sealAt_1 : decode cX15_sealAt 1 = .ok (.istore_n 2, 1) := by decide +kernel
theorem dX15_sealAt_2 : decode cX15_sealAt 2 = .ok (.iconst 0, 1) := by decide +kernel
theorem dX15_sealAt_3 : decode cX15_sealAt 3 = .ok (.istore_n 3, 1) := by decide +kernel
theorem dX15_sealAt_4 : decode cX15_sealAt 4 = .ok (.aload_n 0, 1) := by decide +kernel
theorem dX15_sealAt_5 : decode cX15_sealAt 5 = .ok (.getfield 370, 3) := by decide +kernel
theorem dX15_sealAt_8 : decode cX15_sealAt 8 = .ok (.ifCond .eq 44, 3) := by decide +kernel
theorem dX15_sealAt_11 : decode cX15_sealAt 11 = .ok (.iload_n 1, 1) := by decide +kernel
theorem dX15_sealAt_12 : decode cX15_sealAt 12 = .ok (.ifCond .lt 40, 3) := by decide +kernel
theorem dX15_sealAt_15 : decode cX15_sealAt 15 = .ok (.iload_n 3, 1) := by decide +kernel
theorem dX15_sealAt_16 : decode cX15_sealAt 16 = .ok (.aload_n 0, 1) := by decide +kernel
theorem dX15_sealAt_17 : decode cX15_sealAt 17 = .ok (.getfield 355, 3) := by decide +kernel
theorem dX15_sealAt_20 : decode cX15_sealAt 20 = .ok (.if_icmp .ge 32, 3) := by decide +kernel
theorem dX15_sealAt_23 : decode cX15_sealAt 23 = .ok (.aload_n 0, 1) := by decide +kernel
theorem dX15_sealAt_24 : decode cX15_sealAt 24 = .ok (.iload_n 3, 1) := by decide +kernel
theorem dX15_sealAt_25 : decode cX15_sealAt 25 = .ok (.ldc_w 376, 3) := by decide +kernel
theorem dX15_sealAt_28 : decode cX15_sealAt 28 = .ok (.invokevirtual 378, 3) := by decide +kernel
theorem dX15_sealAt_31 : decode cX15_sealAt 31 = .ok (.ifCond .ne 6, 3) := by decide +kernel
theorem dX15_sealAt_34 : decode cX15_sealAt 34 = .ok (.goto 12, 3) := by decide +kernel
theorem dX15_sealAt_37 : decode cX15_sealAt 37 = .ok (.iload_n 2, 1) := by decide +kernel
theorem dX15_sealAt_38 : decode cX15_sealAt 38 = .ok (.ifCond .ne 5, 3) := by decide +kernel
theorem dX15_sealAt_41 : decode cX15_sealAt 41 = .ok (.iload_n 3, 1) := by decide +kernel
theorem dX15_sealAt_42 : decode cX15_sealAt 42 = .ok (.ireturn, 1) := by decide +kernel
theorem dX15_sealAt_43 : decode cX15_sealAt 43 = .ok (.iinc 2 (-1), 3) := by decide +kernel
theorem dX15_sealAt_46 : decode cX15_sealAt 46 = .ok (.iinc 3 1, 3) := by decide +kernel
theorem dX15_sealAt_49 : decode cX15_sealAt 49 = .ok (.goto (-45), 3) := by decide +kernel
theorem dX15_sealAt_52 : decode cX15_sealAt 52 = .ok (.iconst (-1), 1) := by decide +kernel
theorem dX15_sealAt_53 : decode cX15_sealAt 53 = .ok (.ireturn, 1) := by decide +kernel
theorem dX15_seals_0 : decode cX15_seals 0 = .ok (.iconst 0, 1) := by decide +kernel
theorem dX15_seals_1 : decode cX15_seals 1 = .ok (.istore_n 1, 1) := by decide +kernel
theorem dX15_seals_2 : decode cX15_seals 2 = .ok (.iconst 0, 1) := by decide +kernel
theorem dX15_seals_3 : decode cX15_seals 3 = .ok (.istore_n 2, 1) := by decide +kernel
theorem dX15_seals_4 : decode cX15_seals 4 = .ok (.aload_n 0, 1) := by decide +kernel
theorem dX15_seals_5 : decode cX15_seals 5 = .ok (.getfield 370, 3) := by decide +kernel
theorem dX15_seals_8 : decode cX15_seals 8 = .ok (.ifCond .eq 31, 3) := by decide +kernel
theorem dX15_seals_11 : decode cX15_seals 11 = .ok (.iload_n 2, 1) := by decide +kernel
theorem dX15_seals_12 : decode cX15_seals 12 = .ok (.aload_n 0, 1) := by decide +kernel
theorem dX15_seals_13 : decode cX15_seals 13 = .ok (.getfield 355, 3) := by decide +kernel
theorem dX15_seals_16 : decode cX15_seals 16 = .ok (.if_icmp .ge 23, 3) := by decide +kernel
theorem dX15_seals_19 : decode cX15_seals 19 = .ok (.aload_n 0, 1) := by decide +kernel
theorem dX15_seals_20 : decode cX15_seals 20 = .ok (.iload_n 2, 1) := by decide +kernel
theorem dX15_seals_21 : decode cX15_seals 21 = .ok (.ldc_w 376, 3) := by decide +kernel
theorem dX15_seals_24 : decode cX15_seals 24 = .ok (.invokevirtual 378, 3) := by decide +kernel
theorem dX15_seals_27 : decode cX15_seals 27 = .ok (.ifCond .eq 6, 3) := by decide +kernel
theorem dX15_seals_30 : decode cX15_seals 30 = .ok (.iinc 1 1, 3) := by decide +kernel
theorem dX15_seals_33 : decode cX15_seals 33 = .ok (.iinc 2 1, 3) := by decide +kernel
theorem dX15_seals_36 : decode cX15_seals 36 = .ok (.goto (-32), 3) := by decide +kernel
theorem dX15_seals_39 : decode cX15_seals 39 = .ok (.iload_n 1, 1) := by decide +kernel
theorem dX15_seals_40 : decode cX15_seals 40 = .ok (.ireturn, 1) := by decide +kernel
theorem dX15_valueEnd_0 : decode cX15_valueEnd 0 = .ok (.aload_n 0, 1) := by decide +kernel
theorem dX15_valueEnd_1 : decode cX15_valueEnd 1 = .ok (.getfield 70, 3) := by decide +kernel
theorem dX15_valueEnd_4 : decode cX15_valueEnd 4 = .ok (.aload_n 0, 1) := by decide +kernel
theorem dX15_valueEnd_5 : decode cX15_valueEnd 5 = .ok (.getfield 79, 3) := by decide +kernel
theorem dX15_valueEnd_8 : decode cX15_valueEnd 8 = .ok (.iload_n 1, 1) := by decide +kernel
theorem dX15_valueEnd_9 : decode cX15_valueEnd 9 = .ok (.iaload, 1) := by decide +kernel
theorem dX15_valueEnd_10 : decode cX15_valueEnd 10 = .ok (.iconst 1, 1) := by decide +kernel
theorem dX15_valueEnd_11 : decode cX15_valueEnd 11 = .ok (.isub, 1) := by decide +kernel
theorem dX15_valueEnd_12 : decode cX15_valueEnd 12 = .ok (.baload, 1) := by decide +kernel
theorem dX15_valueEnd_13 : decode cX15_valueEnd 13 = .ok (.bipush 10, 2) := by decide +kernel
theorem dX15_valueEnd_15 : decode cX15_valueEnd 15 = .ok (.if_icmp .ne 14, 3) := by decide +kernel
theorem dX15_valueEnd_18 : decode cX15_valueEnd 18 = .ok (.aload_n 0, 1) := by decide +kernel
theorem dX15_valueEnd_19 : decode cX15_valueEnd 19 = .ok (.getfield 79, 3) := by decide +kernel
theorem dX15_valueEnd_22 : decode cX15_valueEnd 22 = .ok (.iload_n 1, 1) := by decide +kernel
theorem dX15_valueEnd_23 : decode cX15_valueEnd 23 = .ok (.iaload, 1) := by decide +kernel
theorem dX15_valueEnd_24 : decode cX15_valueEnd 24 = .ok (.iconst 1, 1) := by decide +kernel
theorem dX15_valueEnd_25 : decode cX15_valueEnd 25 = .ok (.isub, 1) := by decide +kernel
theorem dX15_valueEnd_26 : decode cX15_valueEnd 26 = .ok (.goto 9, 3) := by decide +kernel
theorem dX15_valueEnd_29 : decode cX15_valueEnd 29 = .ok (.aload_n 0, 1) := by decide +kernel
theorem dX15_valueEnd_30 : decode cX15_valueEnd 30 = .ok (.getfield 79, 3) := by decide +kernel
theorem dX15_valueEnd_33 : decode cX15_valueEnd 33 = .ok (.iload_n 1, 1) := by decide +kernel
theorem dX15_valueEnd_34 : decode cX15_valueEnd 34 = .ok (.iaload, 1) := by decide +kernel
theorem dX15_valueEnd_35 : decode cX15_valueEnd 35 = .ok (.ireturn, 1) := by decide +kernel
theorem kt_887 : Cond.fieldLink RX15 70 "PostGateModel" "mail" "[B" ∈ tb := tb_at (i := 1312) (by decide +kernel) (by decide +kernel)
theorem kt_888 : Cond.fieldLink RX15 73 "PostGateModel" "begin" "[I" ∈ tb := tb_at (i := 1313) (by decide +kernel) (by decide +kernel)
theorem kt_889 : Cond.fieldLink RX15 76 "PostGateModel" "colon" "[I" ∈ tb := tb_at (i := 1314) (by decide +kernel) (by decide +kernel)
theorem kt_890 : Cond.fieldLink RX15 79 "PostGateModel" "stop" "[I" ∈ tb := tb_at (i := 1315) (by decide +kernel) (by decide +kernel)
theorem kt_891 : Cond.fieldLink RX15 370 "PostGateModel" "mailed" "Z" ∈ tb := tb_at (i := 1322) (by decide +kernel) (by decide +kernel)
theorem kt_892 : Cond.fieldLink RX15 355 "PostGateModel" "fields" "I" ∈ tb := tb_at (i := 1319) (by decide +kernel) (by decide +kernel)
theorem kt_893 : Cond.code yX15_isNamed cX15_isNamed 3 (some .boolean) ∈ tb := tb_at (i := 1656) (by decide +kernel) (by decide +kernel)
theorem kt_894 : Cond.methodLink RX15 378 yX15_isNamed ∈ tb := tb_at (i := 1653) (by decide +kernel) (by decide +kernel)
theorem kt_895 : Cond.instanceMethod yX15_isNamed ∈ tb := tb_at (i := 1655) (by decide +kernel) (by decide +kernel)
theorem kt_896 : Cond.selects RX15 yX15_isNamed yX15_isNamed ∈ tb := tb_at (i := 56) (by decide +kernel) (by decide +kernel)
theorem kt_897 : Cond.code yX15_valueEnd cX15_valueEnd 2 (some .int) ∈ tb := tb_at (i := 1686) (by decide +kernel) (by decide +kernel)
theorem kt_898 : Cond.methodLink RX15 382 yX15_valueEnd ∈ tb := tb_at (i := 1683) (by decide +kernel) (by decide +kernel)
theorem kt_899 : Cond.instanceMethod yX15_valueEnd ∈ tb := tb_at (i := 1685) (by decide +kernel) (by decide +kernel)
theorem kt_900 : Cond.selects RX15 yX15_valueEnd yX15_valueEnd ∈ tb := tb_at (i := 60) (by decide +kernel) (by decide +kernel)
theorem kt_901 : Cond.fieldLink RX15 91 "PostGateModel" "plain" "LPostGateModel$Text;" ∈ tb := tb_at (i := 1323) (by decide +kernel) (by decide +kernel)
theorem kt_902 : Cond.fieldLink RX15 364 "PostGateModel" "body" "I" ∈ tb := tb_at (i := 1320) (by decide +kernel) (by decide +kernel)
theorem kt_903 : Cond.fieldLink RX15 367 "PostGateModel" "mailMany" "I" ∈ tb := tb_at (i := 1321) (by decide +kernel) (by decide +kernel)
theorem kt_904 : Cond.code yX15_lineEnd cX15_lineEnd 4 (some .int) ∈ tb := tb_at (i := 1638) (by decide +kernel) (by decide +kernel)
theorem kt_905 : Cond.methodLink RX15 344 yX15_lineEnd ∈ tb := tb_at (i := 1636) (by decide +kernel) (by decide +kernel)
theorem kt_906 : Cond.static yX15_lineEnd ∈ tb := tb_at (i := 1637) (by decide +kernel) (by decide +kernel)
set_option maxHeartbeats 4000000 in
set_option maxRecDepth 100000 in
theorem s_X15_isNamed (l : Launch) (dC : Nat → ClassId) (dI : Nat → Nat → Nat) (cs : Nat → ClassId) (ty : TyM) (gm : Nat → Nat → Nat) (L : List Nat) (sz : Nat) (F : Nat → va_E) (h0 : Nat) (ρ : Nat) (ta : Nat) (ou : Nat) (so : Nat) (ad : Nat) (na : Nat) (va : Nat) (lc : Nat) (dm : Nat) (tg : Nat) (pe : Nat) (ml : Nat) (bg : Nat) (co : Nat) (sp : Nat) (nb0 : Nat) (nb1 : Nat) (nb2 : Nat) (pl : Nat) (se : Nat) (ke : Nat) (wi : Nat) (hs : Nat) (mo : Nat) (po : Nat) (nu : Nat) (pr : Nat) (sq : Nat) (xa : Nat) (sa : Nat) (n64 : Nat) (m64 : Nat) (ex : Nat) (wh : Nat) (sd : Nat) (tk : Nat) (hd : Nat) (ak : Nat) (ho : Nat) (ot : Nat) (sx : Nat) (s0 : Nat) (s1 : Nat) (s2 : Nat) (nf : Nat) (bd : Nat) (mm : Nat) (zo : Nat) (fm : Nat) (sn : Nat) (hg : Nat) (gc : Nat) (gv : Nat) (ze : Nat) (zt : Nat) (jf : Nat) (q : Nat) (v : Nat) (k0 : Nat) (C : Nat → Int32) (hW : WTm ty gm L) (hL_h0 : h0 ∈ L) (hT_h0 : ty h0 = (15, ρ, [ta, ou, so, ad, na, va, lc, dm, tg, pe, ml, bg, co, sp, nb0, nb1, nb2, pl, se, ke, wi, hs, mo, po, nu, pr, sq, xa, sa, n64, m64, ex, wh, sd, tk, hd, ak, ho, ot, sx, s0, s1, s2, nf, bd, mm, zo, fm, sn, hg, gc, gv, ze, zt])) (hjf : jf < nf) : Met l yX15_isNamed (.code yX15_isNamed cX15_isNamed 3 (some .boolean) :: tb) ({ frames := 5, cells := 0, slots := 0, locals := 109 }) (va_Pc [.ref h0, .int (nI jf), .ref q] (PTEm (dC, dI) cs ty gm L F sz [(q, v, k0, C)])) (va_Qi (fun (r : Int32) (_ : Unit) => (r = 0 ∨ r = 1)) (fun _ T9 => ∃ F2 : Nat → va_E, QTm (dC, dI) cs ty gm L [] F F2 (va_A (va_pl L F) sz) T9) (va_A (va_pl L F) sz)) 0 0 (va_A (va_pl L F) sz) := by
  refine Met.ofW (cc := cX15_isNamed) (maxL := 3) (ret := (some .boolean)) (by decide) rfl ?_
  intro p e s m args below meth c s₁ B hml hv
  obtain ⟨rfl, ⟨hsz, hP, hK, hD0, hE, hO⟩, hG, hX⟩ := hv
  have hx := B.exec
  have hb := B.bytes
  have hr := B.returns
  have hts : ∀ w ∈ tb, w.before _ s = true := fun w h => atoms_spec (ws := .code yX15_isNamed cX15_isNamed 3 (some .boolean) :: tb) B.pre w (List.mem_cons_of_mem _ h)
  have hown : s.vm.findClass RX15 = some m.cls := findClass_of_methodNamed B.named
  have hlocks := B.notSynchronized
  subst hsz
  have hD := hD0.self (sz := s.heap.size)
  generalize hAe : va_A (va_pl L F) s.heap.size = A at hD hG hX ⊢
  have hX_q : SXc q v k0 C A s s.heap := hX (q, v, k0, C) (by simp)
  obtain ⟨xo_q, xc_q, xv_q, xt_q, xn_q⟩ := id hX_q
  have hA : ∀ q : Nat, s.heap.size ≤ q → A q := fun q h => by rw [← hAe]; exact Or.inr h
  have hS : va_S A s.heap s.heap [] := va_S.rf
  have hR : FR ty [] F F := FR.refl
  have hl := lv_entry ([.ref h0, .int (nI jf), .ref q]) (n := 3) (Nat.le_of_ble_eq_true rfl)
  rw [lg_entry_eq]
  generalize (lg_sl ([.ref h0, .int (nI jf), .ref q]) ++ List.replicate (3 - (lg_sl ([.ref h0, .int (nI jf), .ref q])).length) Slot.unset).toArray = ls at hl ⊢
  have hl : lv_has ls 3 [(0, .ref h0), (1, .int (nI jf)), (2, .ref q)] := hl
  obtain ⟨hq_23, hq_24, hq_25, hq_26, hq_27, hgO, hgA, hgB, hq_28⟩ := hW.sc hL_h0 hT_h0
  have hoj := hgO jf hjf
  refine lv_aload_n hx hb dX15_isNamed_0 rfl (lv_at hl 0 rfl) ?_
  obtain ⟨v14_29, v15_30, v17_31, v18_32, v19_33, v20_34, v21_35, v22_36, v33_37, v52_38, v53_39, v54_40, hF_41, hq_42, hq_43, hq_44, hq_45, hq_46⟩ := hO.mod hL_h0 hT_h0
  refine pg_get (ci := 15) (v := .ref ml) (C := RX15) (T := TX15) (N := 59) hx hb hts it_15 hown hK hP hL_h0 hF_41 rfl 23 (by decide) (hts _ kt_887) (fun _ h9 => h9) rfl dX15_isNamed_1 ?_
  refine lv_aload_n hx hb dX15_isNamed_4 rfl (lv_at hl 0 rfl) ?_
  refine pg_get (ci := 15) (v := .ref bg) (C := RX15) (T := TX15) (N := 59) hx hb hts it_15 hown hK hP hL_h0 hF_41 rfl 24 (by decide) (hts _ kt_888) (fun _ h9 => h9) rfl dX15_isNamed_5 ?_
  refine lv_iload_n hx hb dX15_isNamed_8 rfl (lv_at hl 1 rfl) ?_
  obtain ⟨hi_47, ht_48⟩ := hW.f_bg hL_h0 hT_h0
  obtain ⟨f_49, hF_50, hq_51⟩ := hO.pos hi_47 ht_48
  refine pg_iald hx hb hK hP hi_47 0 hF_50 rfl (vp_in_nI (by omega) (by omega)) dX15_isNamed_9 ?_
  refine lv_topi (fun x_52 ex_52 => ?_)
  obtain rfl : x_52 = (nI (gm 0 jf)) := ex_52.trans (by rw [show ((nI jf) : Int32) = nI jf from rfl, nI_clamp (by omega)]; exact hq_51 jf (by omega))
  have hgbx_52 := hgB 0 jf
  refine lv_aload_n hx hb dX15_isNamed_10 rfl (lv_at hl 0 rfl) ?_
  refine pg_get (ci := 15) (v := .ref co) (C := RX15) (T := TX15) (N := 59) hx hb hts it_15 hown hK hP hL_h0 hF_41 rfl 25 (by decide) (hts _ kt_889) (fun _ h9 => h9) rfl dX15_isNamed_11 ?_
  refine lv_iload_n hx hb dX15_isNamed_14 rfl (lv_at hl 1 rfl) ?_
  obtain ⟨hi_53, ht_54⟩ := hW.f_co hL_h0 hT_h0
  obtain ⟨f_55, hF_56, hq_57⟩ := hO.pos hi_53 ht_54
  refine pg_iald hx hb hK hP hi_53 0 hF_56 rfl (vp_in_nI (by omega) (by omega)) dX15_isNamed_15 ?_
  refine lv_topi (fun x_58 ex_58 => ?_)
  obtain rfl : x_58 = (nI (gm 1 jf)) := ex_58.trans (by rw [show ((nI jf) : Int32) = nI jf from rfl, nI_clamp (by omega)]; exact hq_57 jf (by omega))
  have hgbx_58 := hgB 1 jf
  refine lv_aload_n hx hb dX15_isNamed_16 rfl (lv_at hl 2 rfl) ?_
  obtain ⟨hi_59, ht_60⟩ := hW.f_ml hL_h0 hT_h0
  obtain ⟨hq_61, hq_62⟩ := hW.octs hi_59 ht_60
  have hFc := pg_free hD hS hA
  refine va_calli (va_runS (As := [.ref ml, .int (nI (gm 0 jf)), .int (nI (gm 1 jf)), .ref q]) (rest := []) ⟨hx, hb, hml, hown, hts⟩ (s_X15_isAlike l dC dI cs ty gm L s.heap.size F ml (ρ + 8) 3000 q v k0 C (gm 0 jf) (gm 1 jf) hW hi_59 ht_60 (by first | omega | assumption | exact Or.inl rfl) (by first | omega | assumption | exact Or.inl rfl)) ⟨callB_of 4 hts (gi kt_851) rfl rfl rfl (hts _ kt_669) (hts _ kt_852) (by decide +kernel) ⟨Nat.le_of_ble_eq_true rfl, Nat.le_of_ble_eq_true rfl⟩, (hts _ kt_853)⟩ ⟨fun a U g mk q => ⟨q.1, PTEm.calling q.2⟩, fun U hU hWm => ⟨rfl, PTEm.mk hU hWm hP hK hD hE hO hG (fun x hx => by rw [List.mem_singleton] at hx; subst hx; exact hX_q) hS hFc⟩⟩ rfl rfl hl.1 rfl (lv_room (Nat.le_of_ble_eq_true rfl)) dX15_isNamed_17 ⟨by show _ + 0 ≤ 0; omega, by show _ + 0 ≤ 0; omega⟩) hS (fun q _ h => hFc q h) hFc (fun r_63 u t H1 locs ht hvm hw hB hz1 hk1 hS => ?_)
  obtain ⟨F_64, hB1⟩ := hB
  obtain rfl : F = F_64 := (funext (fun a => hB1.2.2.2 a List.not_mem_nil)).symm
  obtain ⟨hP, hD, hO, hR⟩ := QTm.back hB1 ht hFc hR (fun q h => absurd h List.not_mem_nil)
  generalize H1 = H at hP hS ⊢
  have hw : (r_63 = 0 ∨ r_63 = 1) := hw
  have hw_65 := hw
  refine W.widen (k := 0) (n := 0) (by omega) (by omega) ?_
  exact W.zret (v := r_63) (ty := .boolean) hx hb hr (bitN hw_65) (fun t ht hWm => ⟨⟨r_63, (), rfl, hw_65, ⟨F, QTm.mk ht hP hD hO hR⟩⟩, hS.F ht⟩) hS.2.2 dX15_isNamed_20
set_option maxHeartbeats 4000000 in
set_option maxRecDepth 100000 in
theorem s_X15_valueEnd (l : Launch) (dC : Nat → ClassId) (dI : Nat → Nat → Nat) (cs : Nat → ClassId) (ty : TyM) (gm : Nat → Nat → Nat) (L : List Nat) (sz : Nat) (F : Nat → va_E) (h0 : Nat) (ρ : Nat) (ta : Nat) (ou : Nat) (so : Nat) (ad : Nat) (na : Nat) (va : Nat) (lc : Nat) (dm : Nat) (tg : Nat) (pe : Nat) (ml : Nat) (bg : Nat) (co : Nat) (sp : Nat) (nb0 : Nat) (nb1 : Nat) (nb2 : Nat) (pl : Nat) (se : Nat) (ke : Nat) (wi : Nat) (hs : Nat) (mo : Nat) (po : Nat) (nu : Nat) (pr : Nat) (sq : Nat) (xa : Nat) (sa : Nat) (n64 : Nat) (m64 : Nat) (ex : Nat) (wh : Nat) (sd : Nat) (tk : Nat) (hd : Nat) (ak : Nat) (ho : Nat) (ot : Nat) (sx : Nat) (s0 : Nat) (s1 : Nat) (s2 : Nat) (nf : Nat) (bd : Nat) (mm : Nat) (zo : Nat) (fm : Nat) (sn : Nat) (hg : Nat) (gc : Nat) (gv : Nat) (ze : Nat) (zt : Nat) (jf : Nat) (hW : WTm ty gm L) (hL_h0 : h0 ∈ L) (hT_h0 : ty h0 = (15, ρ, [ta, ou, so, ad, na, va, lc, dm, tg, pe, ml, bg, co, sp, nb0, nb1, nb2, pl, se, ke, wi, hs, mo, po, nu, pr, sq, xa, sa, n64, m64, ex, wh, sd, tk, hd, ak, ho, ot, sx, s0, s1, s2, nf, bd, mm, zo, fm, sn, hg, gc, gv, ze, zt])) (hjf : jf < nf) : Met l yX15_valueEnd (.code yX15_valueEnd cX15_valueEnd 2 (some .int) :: tb) ({ frames := 0, cells := 0, slots := 0, locals := 0 }) (va_Pc [.ref h0, .int (nI jf)] (PTm (dC, dI) cs ty gm L F sz)) (va_Qi (fun (r : Int32) (_ : Unit) => (∃ k : Nat, gm 1 jf ≤ k ∧ k ≤ gm 2 jf ∧ r = nI k)) (fun _ T9 => ∃ F2 : Nat → va_E, QTm (dC, dI) cs ty gm L [] F F2 (va_A (va_pl L F) sz) T9) (va_A (va_pl L F) sz)) 0 0 (va_A (va_pl L F) sz) := by
  refine Met.ofW (cc := cX15_valueEnd) (maxL := 2) (ret := (some .int)) (by decide) rfl ?_
  intro p e s m args below meth c s₁ B hml hv
  obtain ⟨rfl, hsz, hP, hK, hD0, hE, hO⟩ := hv
  have hx := B.exec
  have hb := B.bytes
  have hr := B.returns
  have hts : ∀ w ∈ tb, w.before _ s = true := fun w h => atoms_spec (ws := .code yX15_valueEnd cX15_valueEnd 2 (some .int) :: tb) B.pre w (List.mem_cons_of_mem _ h)
  have hown : s.vm.findClass RX15 = some m.cls := findClass_of_methodNamed B.named
  have hlocks := B.notSynchronized
  subst hsz
  have hD := hD0.self (sz := s.heap.size)
  generalize hAe : va_A (va_pl L F) s.heap.size = A at hD ⊢
  have hA : ∀ q : Nat, s.heap.size ≤ q → A q := fun q h => by rw [← hAe]; exact Or.inr h
  have hS : va_S A s.heap s.heap [] := va_S.rf
  have hR : FR ty [] F F := FR.refl
  have hl := lv_entry ([.ref h0, .int (nI jf)]) (n := 2) (Nat.le_of_ble_eq_true rfl)
  rw [lg_entry_eq]
  generalize (lg_sl ([.ref h0, .int (nI jf)]) ++ List.replicate (2 - (lg_sl ([.ref h0, .int (nI jf)])).length) Slot.unset).toArray = ls at hl ⊢
  have hl : lv_has ls 2 [(0, .ref h0), (1, .int (nI jf))] := hl
  obtain ⟨hq_23, hq_24, hq_25, hq_26, hq_27, hgO, hgA, hgB, hq_28⟩ := hW.sc hL_h0 hT_h0
  have hoj := hgO jf hjf
  refine lv_aload_n hx hb dX15_valueEnd_0 rfl (lv_at hl 0 rfl) ?_
  obtain ⟨v14_29, v15_30, v17_31, v18_32, v19_33, v20_34, v21_35, v22_36, v33_37, v52_38, v53_39, v54_40, hF_41, hq_42, hq_43, hq_44, hq_45, hq_46⟩ := hO.mod hL_h0 hT_h0
  refine pg_get (ci := 15) (v := .ref ml) (C := RX15) (T := TX15) (N := 59) hx hb hts it_15 hown hK hP hL_h0 hF_41 rfl 23 (by decide) (hts _ kt_887) (fun _ h9 => h9) rfl dX15_valueEnd_1 ?_
  refine lv_aload_n hx hb dX15_valueEnd_4 rfl (lv_at hl 0 rfl) ?_
  refine pg_get (ci := 15) (v := .ref sp) (C := RX15) (T := TX15) (N := 59) hx hb hts it_15 hown hK hP hL_h0 hF_41 rfl 26 (by decide) (hts _ kt_890) (fun _ h9 => h9) rfl dX15_valueEnd_5 ?_
  refine lv_iload_n hx hb dX15_valueEnd_8 rfl (lv_at hl 1 rfl) ?_
  obtain ⟨hi_47, ht_48⟩ := hW.f_sp hL_h0 hT_h0
  obtain ⟨f_49, hF_50, hq_51⟩ := hO.pos hi_47 ht_48
  refine pg_iald hx hb hK hP hi_47 0 hF_50 rfl (vp_in_nI (by omega) (by omega)) dX15_valueEnd_9 ?_
  refine lv_topi (fun x_52 ex_52 => ?_)
  obtain rfl : x_52 = (nI (gm 2 jf)) := ex_52.trans (by rw [show ((nI jf) : Int32) = nI jf from rfl, nI_clamp (by omega)]; exact hq_51 jf (by omega))
  have hgbx_52 := hgB 2 jf
  refine lv_iconst (v := 1) hx hb dX15_valueEnd_10 (by decide) ?_
  refine lv_isub hx hb dX15_valueEnd_11 ?_
  refine lv_topi (fun x_53 ex_53 => ?_)
  obtain rfl : x_53 = (nI ((gm 2 jf) - 1)) := ex_53.trans (pk_sub (a := (gm 2 jf)) (b := 1) (by omega))
  obtain ⟨hi_54, ht_55⟩ := hW.f_ml hL_h0 hT_h0
  obtain ⟨hq_56, hq_57⟩ := hW.octs hi_54 ht_55
  obtain ⟨f_58, hF_59, hq_60⟩ := hO.octs hi_54 ht_55
  refine pg_bald hx hb hK hP hi_54 1 hF_59 rfl (vp_in_nI (by omega) (by omega)) dX15_valueEnd_12 ?_
  refine lv_topi (fun x_61 ex_61 => ?_)
  obtain rfl : x_61 = f_58 ((gm 2 jf) - 1) := ex_61.trans (congrArg f_58 (show ((nI ((gm 2 jf) - 1)) : Int32).toNatClampNeg = ((gm 2 jf) - 1) from nI_clamp (by omega)))
  refine lv_bipush (v := 10) hx hb dX15_valueEnd_13 (by decide) ?_
  refine lv_icmp_ne (tgt := 29) hx hb dX15_valueEnd_15 (by decide) (fun c_62 => ?_) (fun c_62 => ?_)
  ·
    refine lv_aload_n hx hb dX15_valueEnd_29 rfl (lv_at hl 0 rfl) ?_
    refine pg_get (ci := 15) (v := .ref sp) (C := RX15) (T := TX15) (N := 59) hx hb hts it_15 hown hK hP hL_h0 hF_41 rfl 26 (by decide) (hts _ kt_890) (fun _ h9 => h9) rfl dX15_valueEnd_30 ?_
    refine lv_iload_n hx hb dX15_valueEnd_33 rfl (lv_at hl 1 rfl) ?_
    refine pg_iald hx hb hK hP hi_47 0 hF_50 rfl (vp_in_nI (by omega) (by omega)) dX15_valueEnd_34 ?_
    refine lv_topi (fun x_63 ex_63 => ?_)
    obtain rfl : x_63 = (nI (gm 2 jf)) := ex_63.trans (by rw [show ((nI jf) : Int32) = nI jf from rfl, nI_clamp (by omega)]; exact hq_51 jf (by omega))
    have hgbx_63 := hgB 2 jf
    refine W.widen (k := 0) (n := 0) (by omega) (by omega) ?_
    exact W.iret (v := (nI (gm 2 jf))) hx hb hr (fun t ht hWm => ⟨⟨(nI (gm 2 jf)), (), rfl, ⟨(gm 2 jf), by omega, by omega, rfl⟩, ⟨F, QTm.mk ht hP hD hO hR⟩⟩, hS.F ht⟩) hS.2.2 dX15_valueEnd_35
  ·
    refine lv_aload_n hx hb dX15_valueEnd_18 rfl (lv_at hl 0 rfl) ?_
    refine pg_get (ci := 15) (v := .ref sp) (C := RX15) (T := TX15) (N := 59) hx hb hts it_15 hown hK hP hL_h0 hF_41 rfl 26 (by decide) (hts _ kt_890) (fun _ h9 => h9) rfl dX15_valueEnd_19 ?_
    refine lv_iload_n hx hb dX15_valueEnd_22 rfl (lv_at hl 1 rfl) ?_
    refine pg_iald hx hb hK hP hi_47 0 hF_50 rfl (vp_in_nI (by omega) (by omega)) dX15_valueEnd_23 ?_
    refine lv_topi (fun x_64 ex_64 => ?_)
    obtain rfl : x_64 = (nI (gm 2 jf)) := ex_64.trans (by rw [show ((nI jf) : Int32) = nI jf from rfl, nI_clamp (by omega)]; exact hq_51 jf (by omega))
    have hgbx_64 := hgB 2 jf
    refine lv_iconst (v := 1) hx hb dX15_valueEnd_24 (by decide) ?_
    refine lv_isub hx hb dX15_valueEnd_25 ?_
    refine lv_topi (fun x_65 ex_65 => ?_)
    obtain rfl : x_65 = (nI ((gm 2 jf) - 1)) := ex_65.trans (pk_sub (a := (gm 2 jf)) (b := 1) (by omega))
    refine lv_goto (tgt := 35) hx hb dX15_valueEnd_26 (by decide) ?_
    refine W.widen (k := 0) (n := 0) (by omega) (by omega) ?_
    exact W.iret (v := (nI ((gm 2 jf) - 1))) hx hb hr (fun t ht hWm => ⟨⟨(nI ((gm 2 jf) - 1)), (), rfl, ⟨((gm 2 jf) - 1), by omega, by omega, rfl⟩, ⟨F, QTm.mk ht hP hD hO hR⟩⟩, hS.F ht⟩) hS.2.2 dX15_valueEnd_35
set_option maxHeartbeats 4000000 in
set_option maxRecDepth 100000 in
theorem s_X15_seals (l : Launch) (dC : Nat → ClassId) (dI : Nat → Nat → Nat) (cs : Nat → ClassId) (ty : TyM) (gm : Nat → Nat → Nat) (L : List Nat) (sz : Nat) (F : Nat → va_E) (h0 : Nat) (ρ : Nat) (ta : Nat) (ou : Nat) (so : Nat) (ad : Nat) (na : Nat) (va : Nat) (lc : Nat) (dm : Nat) (tg : Nat) (pe : Nat) (ml : Nat) (bg : Nat) (co : Nat) (sp : Nat) (nb0 : Nat) (nb1 : Nat) (nb2 : Nat) (pl : Nat) (se : Nat) (ke : Nat) (wi : Nat) (hs : Nat) (mo : Nat) (po : Nat) (nu : Nat) (pr : Nat) (sq : Nat) (xa : Nat) (sa : Nat) (n64 : Nat) (m64 : Nat) (ex : Nat) (wh : Nat) (sd : Nat) (tk : Nat) (hd : Nat) (ak : Nat) (ho : Nat) (ot : Nat) (sx : Nat) (s0 : Nat) (s1 : Nat) (s2 : Nat) (nf : Nat) (bd : Nat) (mm : Nat) (zo : Nat) (fm : Nat) (sn : Nat) (hg : Nat) (gc : Nat) (gv : Nat) (ze : Nat) (zt : Nat) (hW : WTm ty gm L) (hL_h0 : h0 ∈ L) (hT_h0 : ty h0 = (15, ρ, [ta, ou, so, ad, na, va, lc, dm, tg, pe, ml, bg, co, sp, nb0, nb1, nb2, pl, se, ke, wi, hs, mo, po, nu, pr, sq, xa, sa, n64, m64, ex, wh, sd, tk, hd, ak, ho, ot, sx, s0, s1, s2, nf, bd, mm, zo, fm, sn, hg, gc, gv, ze, zt])) : Met l yX15_seals (.code yX15_seals cX15_seals 3 (some .int) :: tb) ({ frames := 6, cells := 0, slots := 0, locals := 131 }) (va_Pc [.ref h0] (PTEm (dC, dI) cs ty gm L F sz [])) (va_Qi (fun (r : Int32) (_ : Unit) => True) (fun _ T9 => ∃ F2 : Nat → va_E, QTm (dC, dI) cs ty gm L [] F F2 (va_A (va_pl L F) sz) T9) (va_A (va_pl L F) sz)) 0 0 (va_A (va_pl L F) sz) := by
  refine Met.ofW (cc := cX15_seals) (maxL := 3) (ret := (some .int)) (by decide) rfl ?_
  intro p e s m args below meth c s₁ B hml hv
  obtain ⟨rfl, ⟨hsz, hP, hK, hD0, hE, hO⟩, hG, hX⟩ := hv
  have hx := B.exec
  have hb := B.bytes
  have hr := B.returns
  have hts : ∀ w ∈ tb, w.before _ s = true := fun w h => atoms_spec (ws := .code yX15_seals cX15_seals 3 (some .int) :: tb) B.pre w (List.mem_cons_of_mem _ h)
  have hown : s.vm.findClass RX15 = some m.cls := findClass_of_methodNamed B.named
  have hlocks := B.notSynchronized
  subst hsz
  have hD := hD0.self (sz := s.heap.size)
  generalize hAe : va_A (va_pl L F) s.heap.size = A at hD hG hX ⊢
  have hA : ∀ q : Nat, s.heap.size ≤ q → A q := fun q h => by rw [← hAe]; exact Or.inr h
  have hS : va_S A s.heap s.heap [] := va_S.rf
  have hR : FR ty [] F F := FR.refl
  have hl := lv_entry ([.ref h0]) (n := 3) (Nat.le_of_ble_eq_true rfl)
  rw [lg_entry_eq]
  generalize (lg_sl ([.ref h0]) ++ List.replicate (3 - (lg_sl ([.ref h0])).length) Slot.unset).toArray = ls at hl ⊢
  have hl : lv_has ls 3 [(0, .ref h0)] := hl
  obtain ⟨hq_23, hq_24, hq_25, hq_26, hq_27, hgO, hgA, hgB, hq_28⟩ := hW.sc hL_h0 hT_h0
  refine lv_iconst (v := 0) hx hb dX15_seals_0 (by decide) ?_
  refine lv_istore_n (lv' := [(1, .int 0), (0, .ref h0)]) hx hb dX15_seals_1 rfl hl (by decide) rfl (fun ls hl => ?_)
  refine lv_iconst (v := 0) hx hb dX15_seals_2 (by decide) ?_
  refine lv_istore_n (lv' := [(2, .int 0), (1, .int 0), (0, .ref h0)]) hx hb dX15_seals_3 rfl hl (by decide) rfl (fun ls hl => ?_)
  refine W.widen (k := 0) (n := 0) (by omega) (by omega) ?_
  refine pl_loopm (σ := Nat × Int32) A (dC, dI) cs ty gm L [] F 4 3 (fun (j, w1) => [(2, .int (nI j)), (1, .int w1), (0, .ref h0)]) (fun (j, w1) => []) (fun (j, w1) _ => j ≤ nf) (fun (j, w1) => nf - j) ?_ (0, 0) F (by omega) hO hR _ _ hP hD hS ls (lv_sub hl [0, 1, 2] rfl)
  rintro ⟨j, w1⟩ F_29 hv_30 hO hR ih_31 H locs hP hD hS ls hl
  have hl : lv_has ls 3 [(2, .int (nI j)), (1, .int w1), (0, .ref h0)] := hl
  have hv_30 : j ≤ nf := hv_30
  refine W.eq (g2 := F0 m 4 ls []) rfl ?_
  obtain rfl : F = F_29 := (funext (fun a => hR a List.not_mem_nil)).symm
  refine lv_aload_n hx hb dX15_seals_4 rfl (lv_at hl 2 rfl) ?_
  obtain ⟨v14_32, v15_33, v17_34, v18_35, v19_36, v20_37, v21_38, v22_39, v33_40, v52_41, v53_42, v54_43, hF_44, hq_45, hq_46, hq_47, hq_48, hq_49⟩ := hO.mod hL_h0 hT_h0
  refine pg_get (ci := 15) (v := .int v33_40) (C := RX15) (T := TX15) (N := 59) hx hb hts it_15 hown hK hP hL_h0 hF_44 rfl 33 (by decide) (hts _ kt_891) (fun _ h9 => h9) rfl dX15_seals_5 ?_
  refine lv_if_eq (tgt := 39) hx hb dX15_seals_8 (by decide) (fun c_50 => ?_) (fun c_50 => ?_)
  ·
    refine lv_iload_n hx hb dX15_seals_39 rfl (lv_at hl 1 rfl) ?_
    refine W.widen (k := 0) (n := 0) (by omega) (by omega) ?_
    exact W.iret (v := w1) hx hb hr (fun t ht hWm => ⟨⟨w1, (), rfl, trivial, ⟨F, QTm.mk ht hP hD hO hR⟩⟩, hS.F ht⟩) hS.2.2 dX15_seals_40
  ·
    refine lv_iload_n hx hb dX15_seals_11 rfl (lv_at hl 0 rfl) ?_
    refine lv_aload_n hx hb dX15_seals_12 rfl (lv_at hl 2 rfl) ?_
    refine pg_get (ci := 15) (v := .int (nI nf)) (C := RX15) (T := TX15) (N := 59) hx hb hts it_15 hown hK hP hL_h0 hF_44 rfl 30 (by decide) (hts _ kt_892) (fun _ h9 => h9) rfl dX15_seals_13 ?_
    refine lv_icmp_ge (tgt := 39) hx hb dX15_seals_16 (by decide) (fun c_51 => ?_) (fun c_51 => ?_)
    ·
      have hi_52 : nf ≤ j := leN (N := nf) c_51
      refine lv_iload_n hx hb dX15_seals_39 rfl (lv_at hl 1 rfl) ?_
      refine W.widen (k := 0) (n := 0) (by omega) (by omega) ?_
      exact W.iret (v := w1) hx hb hr (fun t ht hWm => ⟨⟨w1, (), rfl, trivial, ⟨F, QTm.mk ht hP hD hO hR⟩⟩, hS.F ht⟩) hS.2.2 dX15_seals_40
    ·
      have hi_53 : j < nf := ltN (N := nf) c_51
      refine lv_aload_n hx hb dX15_seals_19 rfl (lv_at hl 2 rfl) ?_
      refine lv_iload_n hx hb dX15_seals_20 rfl (lv_at hl 0 rfl) ?_
      obtain ⟨q_54, v_55, hr_q_54, hX_q_54⟩ := hG.2.2 ("PostGateModel", 376, "dkim-signature", [100, 107, 105, 109, 45, 115, 105, 103, 110, 97, 116, 117, 114, 101]) (by decide +kernel)
      have hX_q_54 : SXc q_54 v_55 14 (cct [100, 107, 105, 109, 45, 115, 105, 103, 110, 97, 116, 117, 114, 101]) A s s.heap := hX_q_54
      obtain ⟨xo_q_54, xc_q_54, xv_q_54, xt_q_54, xn_q_54⟩ := id hX_q_54
      have hr_q_54 : vk_R "PostGateModel" 376 "dkim-signature" q_54 s := hr_q_54
      refine va_ldcwS hx hb hown hr_q_54 dX15_seals_21 ?_
      have hFc := pg_free hD hS hA
      refine va_calli (va_runV (As := [.int (nI j), .ref q_54]) (rest := []) ⟨hx, hb, hml, hown, hts⟩ (s_X15_isNamed l dC dI cs ty gm L H.size F h0 ρ ta ou so ad na va lc dm tg pe ml bg co sp nb0 nb1 nb2 pl se ke wi hs mo po nu pr sq xa sa n64 m64 ex wh sd tk hd ak ho ot sx s0 s1 s2 nf bd mm zo fm sn hg gc gv ze zt j q_54 v_55 14 (cct [100, 107, 105, 109, 45, 115, 105, 103, 110, 97, 116, 117, 114, 101]) hW hL_h0 hT_h0 (by first | omega | assumption | exact Or.inl rfl)) ⟨callB_of 2 hts (gi kt_893) rfl rfl rfl (hts _ kt_669) (hts _ kt_894) (by decide +kernel) ⟨Nat.le_of_ble_eq_true rfl, Nat.le_of_ble_eq_true rfl⟩, (hts _ kt_895), (hts _ kt_896)⟩ ⟨fun a U g mk q => ⟨q.1, PTEm.calling q.2⟩, pg_recv hK hP hL_h0 hF_44 (q := (RX15, TX15, 59)) rfl, fun U hU hWm => ⟨rfl, PTEm.mk hU hWm hP hK hD hE hO hG (fun x hx => by rw [List.mem_singleton] at hx; subst hx; exact hX_q_54) hS hFc⟩⟩ rfl rfl hl.1 rfl (lv_room (Nat.le_of_ble_eq_true rfl)) dX15_seals_24 ⟨by show _ + 0 ≤ 0; omega, by show _ + 0 ≤ 0; omega⟩) hS (fun q _ h => hFc q h) hFc (fun r_56 u t H1 locs ht hvm hw hB hz1 hk1 hS => ?_)
      obtain ⟨F_57, hB1⟩ := hB
      obtain rfl : F = F_57 := (funext (fun a => hB1.2.2.2 a List.not_mem_nil)).symm
      obtain ⟨hP, hD, hO, hR⟩ := QTm.back hB1 ht hFc hR (fun q h => absurd h List.not_mem_nil)
      generalize H1 = H at hP hS ⊢
      have hw : (r_56 = 0 ∨ r_56 = 1) := hw
      have hw_58 := hw
      refine lv_if_eq (tgt := 33) hx hb dX15_seals_27 (by decide) (fun c_59 => ?_) (fun c_59 => ?_)
      ·
        refine lv_iinc (v := (nI (j + 1))) (lv' := [(2, .int (nI (j + 1))), (1, .int w1), (0, .ref h0)]) hx hb dX15_seals_33 hl (k := 0) rfl (nI_1 _) (by decide) rfl (fun ls hl => ?_)
        refine lv_goto (tgt := 4) hx hb dX15_seals_36 (by decide) ?_
        refine W.widen (k := 0) (n := 0) (by omega) (by omega) ?_
        exact ih_31 ((j + 1), w1) F (by first | omega | exact ⟨by omega, by omega⟩ | trivial) (by show nf - (j + 1) < nf - j; omega) hO hR _ _ hP hD hS ls (lv_sub hl [0, 1, 2] rfl)
      ·
        obtain ⟨x_60, ex_60⟩ : ∃ y : Int32, y = w1 + Int32.ofInt 1 := ⟨_, rfl⟩
        refine lv_iinc (v := x_60) (lv' := [(1, .int x_60), (2, .int (nI j)), (0, .ref h0)]) hx hb dX15_seals_30 hl (k := 1) rfl (ex_60.symm) (by decide) rfl (fun ls hl => ?_)
        refine lv_iinc (v := (nI (j + 1))) (lv' := [(2, .int (nI (j + 1))), (1, .int x_60), (0, .ref h0)]) hx hb dX15_seals_33 hl (k := 1) rfl (nI_1 _) (by decide) rfl (fun ls hl => ?_)
        refine lv_goto (tgt := 4) hx hb dX15_seals_36 (by decide) ?_
        refine W.widen (k := 0) (n := 0) (by omega) (by omega) ?_
        exact ih_31 ((j + 1), x_60) F (by first | omega | exact ⟨by omega, by omega⟩ | trivial) (by show nf - (j + 1) < nf - j; omega) hO hR _ _ hP hD hS ls (lv_sub hl [0, 1, 2] rfl)
set_option maxHeartbeats 4000000 in
set_option maxRecDepth 100000 in
theorem s_X15_sealAt (l : Launch) (dC : Nat → ClassId) (dI : Nat → Nat → Nat) (cs : Nat → ClassId) (ty : TyM) (gm : Nat → Nat → Nat) (L : List Nat) (sz : Nat) (F : Nat → va_E) (h0 : Nat) (ρ : Nat) (ta : Nat) (ou : Nat) (so : Nat) (ad : Nat) (na : Nat) (va : Nat) (lc : Nat) (dm : Nat) (tg : Nat) (pe : Nat) (ml : Nat) (bg : Nat) (co : Nat) (sp : Nat) (nb0 : Nat) (nb1 : Nat) (nb2 : Nat) (pl : Nat) (se : Nat) (ke : Nat) (wi : Nat) (hs : Nat) (mo : Nat) (po : Nat) (nu : Nat) (pr : Nat) (sq : Nat) (xa : Nat) (sa : Nat) (n64 : Nat) (m64 : Nat) (ex : Nat) (wh : Nat) (sd : Nat) (tk : Nat) (hd : Nat) (ak : Nat) (ho : Nat) (ot : Nat) (sx : Nat) (s0 : Nat) (s1 : Nat) (s2 : Nat) (nf : Nat) (bd : Nat) (mm : Nat) (zo : Nat) (fm : Nat) (sn : Nat) (hg : Nat) (gc : Nat) (gv : Nat) (ze : Nat) (zt : Nat) (x1 : Int32) (hW : WTm ty gm L) (hL_h0 : h0 ∈ L) (hT_h0 : ty h0 = (15, ρ, [ta, ou, so, ad, na, va, lc, dm, tg, pe, ml, bg, co, sp, nb0, nb1, nb2, pl, se, ke, wi, hs, mo, po, nu, pr, sq, xa, sa, n64, m64, ex, wh, sd, tk, hd, ak, ho, ot, sx, s0, s1, s2, nf, bd, mm, zo, fm, sn, hg, gc, gv, ze, zt])) : Met l yX15_sealAt (.code yX15_sealAt cX15_sealAt 4 (some .int) :: tb) ({ frames := 6, cells := 0, slots := 0, locals := 131 }) (va_Pc [.ref h0, .int x1] (PTEm (dC, dI) cs ty gm L F sz [])) (va_Qi (fun (r : Int32) (_ : Unit) => (r = (-1) ∨ ∃ j : Nat, j < nf ∧ r = nI j)) (fun _ T9 => ∃ F2 : Nat → va_E, QTm (dC, dI) cs ty gm L [] F F2 (va_A (va_pl L F) sz) T9) (va_A (va_pl L F) sz)) 0 0 (va_A (va_pl L F) sz) := by
  refine Met.ofW (cc := cX15_sealAt) (maxL := 4) (ret := (some .int)) (by decide) rfl ?_
  intro p e s m args below meth c s₁ B hml hv
  obtain ⟨rfl, ⟨hsz, hP, hK, hD0, hE, hO⟩, hG, hX⟩ := hv
  have hx := B.exec
  have hb := B.bytes
  have hr := B.returns
  have hts : ∀ w ∈ tb, w.before _ s = true := fun w h => atoms_spec (ws := .code yX15_sealAt cX15_sealAt 4 (some .int) :: tb) B.pre w (List.mem_cons_of_mem _ h)
  have hown : s.vm.findClass RX15 = some m.cls := findClass_of_methodNamed B.named
  have hlocks := B.notSynchronized
  subst hsz
  have hD := hD0.self (sz := s.heap.size)
  generalize hAe : va_A (va_pl L F) s.heap.size = A at hD hG hX ⊢
  have hA : ∀ q : Nat, s.heap.size ≤ q → A q := fun q h => by rw [← hAe]; exact Or.inr h
  have hS : va_S A s.heap s.heap [] := va_S.rf
  have hR : FR ty [] F F := FR.refl
  have hl := lv_entry ([.ref h0, .int x1]) (n := 4) (Nat.le_of_ble_eq_true rfl)
  rw [lg_entry_eq]
  generalize (lg_sl ([.ref h0, .int x1]) ++ List.replicate (4 - (lg_sl ([.ref h0, .int x1])).length) Slot.unset).toArray = ls at hl ⊢
  have hl : lv_has ls 4 [(0, .ref h0), (1, .int x1)] := hl
  obtain ⟨hq_23, hq_24, hq_25, hq_26, hq_27, hgO, hgA, hgB, hq_28⟩ := hW.sc hL_h0 hT_h0
  refine lv_iload_n hx hb dX15_sealAt_0 rfl (lv_at hl 1 rfl) ?_
  refine lv_istore_n (lv' := [(2, .int x1), (0, .ref h0), (1, .int x1)]) hx hb dX15_sealAt_1 rfl hl (by decide) rfl (fun ls hl => ?_)
  refine lv_iconst (v := 0) hx hb dX15_sealAt_2 (by decide) ?_
  refine lv_istore_n (lv' := [(3, .int 0), (2, .int x1), (0, .ref h0), (1, .int x1)]) hx hb dX15_sealAt_3 rfl hl (by decide) rfl (fun ls hl => ?_)
  refine W.widen (k := 0) (n := 0) (by omega) (by omega) ?_
  refine pl_loopm (σ := Nat × Int32) A (dC, dI) cs ty gm L [] F 4 4 (fun (j, w2) => [(3, .int (nI j)), (2, .int w2), (0, .ref h0), (1, .int x1)]) (fun (j, w2) => []) (fun (j, w2) _ => j ≤ nf) (fun (j, w2) => nf - j) ?_ (0, x1) F (by omega) hO hR _ _ hP hD hS ls (lv_sub hl [0, 1, 2, 3] rfl)
  rintro ⟨j, w2⟩ F_29 hv_30 hO hR ih_31 H locs hP hD hS ls hl
  have hl : lv_has ls 4 [(3, .int (nI j)), (2, .int w2), (0, .ref h0), (1, .int x1)] := hl
  have hv_30 : j ≤ nf := hv_30
  refine W.eq (g2 := F0 m 4 ls []) rfl ?_
  obtain rfl : F = F_29 := (funext (fun a => hR a List.not_mem_nil)).symm
  refine lv_aload_n hx hb dX15_sealAt_4 rfl (lv_at hl 2 rfl) ?_
  obtain ⟨v14_32, v15_33, v17_34, v18_35, v19_36, v20_37, v21_38, v22_39, v33_40, v52_41, v53_42, v54_43, hF_44, hq_45, hq_46, hq_47, hq_48, hq_49⟩ := hO.mod hL_h0 hT_h0
  refine pg_get (ci := 15) (v := .int v33_40) (C := RX15) (T := TX15) (N := 59) hx hb hts it_15 hown hK hP hL_h0 hF_44 rfl 33 (by decide) (hts _ kt_891) (fun _ h9 => h9) rfl dX15_sealAt_5 ?_
  refine lv_if_eq (tgt := 52) hx hb dX15_sealAt_8 (by decide) (fun c_50 => ?_) (fun c_50 => ?_)
  ·
    refine lv_iconst (v := (-1)) hx hb dX15_sealAt_52 (by decide) ?_
    refine W.widen (k := 0) (n := 0) (by omega) (by omega) ?_
    exact W.iret (v := (-1)) hx hb hr (fun t ht hWm => ⟨⟨(-1), (), rfl, Or.inl rfl, ⟨F, QTm.mk ht hP hD hO hR⟩⟩, hS.F ht⟩) hS.2.2 dX15_sealAt_53
  ·
    refine lv_iload_n hx hb dX15_sealAt_11 rfl (lv_at hl 3 rfl) ?_
    refine lv_if_lt (tgt := 52) hx hb dX15_sealAt_12 (by decide) (fun c_51 => ?_) (fun c_51 => ?_)
    ·
      refine lv_iconst (v := (-1)) hx hb dX15_sealAt_52 (by decide) ?_
      refine W.widen (k := 0) (n := 0) (by omega) (by omega) ?_
      exact W.iret (v := (-1)) hx hb hr (fun t ht hWm => ⟨⟨(-1), (), rfl, Or.inl rfl, ⟨F, QTm.mk ht hP hD hO hR⟩⟩, hS.F ht⟩) hS.2.2 dX15_sealAt_53
    ·
      refine lv_iload_n hx hb dX15_sealAt_15 rfl (lv_at hl 0 rfl) ?_
      refine lv_aload_n hx hb dX15_sealAt_16 rfl (lv_at hl 2 rfl) ?_
      refine pg_get (ci := 15) (v := .int (nI nf)) (C := RX15) (T := TX15) (N := 59) hx hb hts it_15 hown hK hP hL_h0 hF_44 rfl 30 (by decide) (hts _ kt_892) (fun _ h9 => h9) rfl dX15_sealAt_17 ?_
      refine lv_icmp_ge (tgt := 52) hx hb dX15_sealAt_20 (by decide) (fun c_52 => ?_) (fun c_52 => ?_)
      ·
        have hi_53 : nf ≤ j := leN (N := nf) c_52
        refine lv_iconst (v := (-1)) hx hb dX15_sealAt_52 (by decide) ?_
        refine W.widen (k := 0) (n := 0) (by omega) (by omega) ?_
        exact W.iret (v := (-1)) hx hb hr (fun t ht hWm => ⟨⟨(-1), (), rfl, Or.inl rfl, ⟨F, QTm.mk ht hP hD hO hR⟩⟩, hS.F ht⟩) hS.2.2 dX15_sealAt_53
      ·
        have hi_54 : j < nf := ltN (N := nf) c_52
        refine lv_aload_n hx hb dX15_sealAt_23 rfl (lv_at hl 2 rfl) ?_
        refine lv_iload_n hx hb dX15_sealAt_24 rfl (lv_at hl 0 rfl) ?_
        obtain ⟨q_55, v_56, hr_q_55, hX_q_55⟩ := hG.2.2 ("PostGateModel", 376, "dkim-signature", [100, 107, 105, 109, 45, 115, 105, 103, 110, 97, 116, 117, 114, 101]) (by decide +kernel)
        have hX_q_55 : SXc q_55 v_56 14 (cct [100, 107, 105, 109, 45, 115, 105, 103, 110, 97, 116, 117, 114, 101]) A s s.heap := hX_q_55
        obtain ⟨xo_q_55, xc_q_55, xv_q_55, xt_q_55, xn_q_55⟩ := id hX_q_55
        have hr_q_55 : vk_R "PostGateModel" 376 "dkim-signature" q_55 s := hr_q_55
        refine va_ldcwS hx hb hown hr_q_55 dX15_sealAt_25 ?_
        have hFc := pg_free hD hS hA
        refine va_calli (va_runV (As := [.int (nI j), .ref q_55]) (rest := []) ⟨hx, hb, hml, hown, hts⟩ (s_X15_isNamed l dC dI cs ty gm L H.size F h0 ρ ta ou so ad na va lc dm tg pe ml bg co sp nb0 nb1 nb2 pl se ke wi hs mo po nu pr sq xa sa n64 m64 ex wh sd tk hd ak ho ot sx s0 s1 s2 nf bd mm zo fm sn hg gc gv ze zt j q_55 v_56 14 (cct [100, 107, 105, 109, 45, 115, 105, 103, 110, 97, 116, 117, 114, 101]) hW hL_h0 hT_h0 (by first | omega | assumption | exact Or.inl rfl)) ⟨callB_of 2 hts (gi kt_893) rfl rfl rfl (hts _ kt_669) (hts _ kt_894) (by decide +kernel) ⟨Nat.le_of_ble_eq_true rfl, Nat.le_of_ble_eq_true rfl⟩, (hts _ kt_895), (hts _ kt_896)⟩ ⟨fun a U g mk q => ⟨q.1, PTEm.calling q.2⟩, pg_recv hK hP hL_h0 hF_44 (q := (RX15, TX15, 59)) rfl, fun U hU hWm => ⟨rfl, PTEm.mk hU hWm hP hK hD hE hO hG (fun x hx => by rw [List.mem_singleton] at hx; subst hx; exact hX_q_55) hS hFc⟩⟩ rfl rfl hl.1 rfl (lv_room (Nat.le_of_ble_eq_true rfl)) dX15_sealAt_28 ⟨by show _ + 0 ≤ 0; omega, by show _ + 0 ≤ 0; omega⟩) hS (fun q _ h => hFc q h) hFc (fun r_57 u t H1 locs ht hvm hw hB hz1 hk1 hS => ?_)
        obtain ⟨F_58, hB1⟩ := hB
        obtain rfl : F = F_58 := (funext (fun a => hB1.2.2.2 a List.not_mem_nil)).symm
        obtain ⟨hP, hD, hO, hR⟩ := QTm.back hB1 ht hFc hR (fun q h => absurd h List.not_mem_nil)
        generalize H1 = H at hP hS ⊢
        have hw : (r_57 = 0 ∨ r_57 = 1) := hw
        have hw_59 := hw
        refine lv_if_ne (tgt := 37) hx hb dX15_sealAt_31 (by decide) (fun c_60 => ?_) (fun c_60 => ?_)
        ·
          refine lv_iload_n hx hb dX15_sealAt_37 rfl (lv_at hl 1 rfl) ?_
          refine lv_if_ne (tgt := 43) hx hb dX15_sealAt_38 (by decide) (fun c_61 => ?_) (fun c_61 => ?_)
          ·
            obtain ⟨x_62, ex_62⟩ : ∃ y : Int32, y = w2 + Int32.ofInt (-1) := ⟨_, rfl⟩
            refine lv_iinc (v := x_62) (lv' := [(2, .int x_62), (3, .int (nI j)), (0, .ref h0), (1, .int x1)]) hx hb dX15_sealAt_43 hl (k := 1) rfl (ex_62.symm) (by decide) rfl (fun ls hl => ?_)
            refine lv_iinc (v := (nI (j + 1))) (lv' := [(3, .int (nI (j + 1))), (2, .int x_62), (0, .ref h0), (1, .int x1)]) hx hb dX15_sealAt_46 hl (k := 1) rfl (nI_1 _) (by decide) rfl (fun ls hl => ?_)
            refine lv_goto (tgt := 4) hx hb dX15_sealAt_49 (by decide) ?_
            refine W.widen (k := 0) (n := 0) (by omega) (by omega) ?_
            exact ih_31 ((j + 1), x_62) F (by first | omega | exact ⟨by omega, by omega⟩ | trivial) (by show nf - (j + 1) < nf - j; omega) hO hR _ _ hP hD hS ls (lv_sub hl [0, 1, 2, 3] rfl)
          ·
            refine lv_iload_n hx hb dX15_sealAt_41 rfl (lv_at hl 0 rfl) ?_
            refine W.widen (k := 0) (n := 0) (by omega) (by omega) ?_
            exact W.iret (v := (nI j)) hx hb hr (fun t ht hWm => ⟨⟨(nI j), (), rfl, (Or.inr ⟨j, by omega, rfl⟩), ⟨F, QTm.mk ht hP hD hO hR⟩⟩, hS.F ht⟩) hS.2.2 dX15_sealAt_42
        ·
          refine lv_goto (tgt := 46) hx hb dX15_sealAt_34 (by decide) ?_
          refine lv_iinc (v := (nI (j + 1))) (lv' := [(3, .int (nI (j + 1))), (2, .int w2), (0, .ref h0), (1, .int x1)]) hx hb dX15_sealAt_46 hl (k := 0) rfl (nI_1 _) (by decide) rfl (fun ls hl => ?_)
          refine lv_goto (tgt := 4) hx hb dX15_sealAt_49 (by decide) ?_
          refine W.widen (k := 0) (n := 0) (by omega) (by omega) ?_
          exact ih_31 ((j + 1), w2) F (by first | omega | exact ⟨by omega, by omega⟩ | trivial) (by show nf - (j + 1) < nf - j; omega) hO hR _ _ hP hD hS ls (lv_sub hl [0, 1, 2, 3] rfl)
set_option maxHeartbeats 4000000 in
set_option maxRecDepth 100000 in
theorem s_X15_fieldPlain (l : Launch) (dC : Nat → ClassId) (dI : Nat → Nat → Nat) (cs : Nat → ClassId) (ty : TyM) (gm : Nat → Nat → Nat) (L : List Nat) (sz : Nat) (F : Nat → va_E) (h0 : Nat) (ρ : Nat) (ta : Nat) (ou : Nat) (so : Nat) (ad : Nat) (na : Nat) (va : Nat) (lc : Nat) (dm : Nat) (tg : Nat) (pe : Nat) (ml : Nat) (bg : Nat) (co : Nat) (sp : Nat) (nb0 : Nat) (nb1 : Nat) (nb2 : Nat) (pl : Nat) (se : Nat) (ke : Nat) (wi : Nat) (hs : Nat) (mo : Nat) (po : Nat) (nu : Nat) (pr : Nat) (sq : Nat) (xa : Nat) (sa : Nat) (n64 : Nat) (m64 : Nat) (ex : Nat) (wh : Nat) (sd : Nat) (tk : Nat) (hd : Nat) (ak : Nat) (ho : Nat) (ot : Nat) (sx : Nat) (s0 : Nat) (s1 : Nat) (s2 : Nat) (nf : Nat) (bd : Nat) (mm : Nat) (zo : Nat) (fm : Nat) (sn : Nat) (hg : Nat) (gc : Nat) (gv : Nat) (ze : Nat) (zt : Nat) (rl : Nat) (jf : Nat) (z : Nat) (x2 : Int32) (x3 : Int32) (x4 : Int32) (hW : WTm ty gm L) (hL_h0 : h0 ∈ L) (hT_h0 : ty h0 = (15, ρ, [ta, ou, so, ad, na, va, lc, dm, tg, pe, ml, bg, co, sp, nb0, nb1, nb2, pl, se, ke, wi, hs, mo, po, nu, pr, sq, xa, sa, n64, m64, ex, wh, sd, tk, hd, ak, ho, ot, sx, s0, s1, s2, nf, bd, mm, zo, fm, sn, hg, gc, gv, ze, zt])) (hL_pl : pl ∈ L) (hT_pl : ty pl = (14, ρ + 10, [rl, 6000])) (hjf : jf < nf) (hFl : F pl = .inr (14, [.ref rl, .int (nI z)])) (hfit : z + (gm 2 jf - gm 0 jf) ≤ 6000) : Met l yX15_fieldPlain (.code yX15_fieldPlain cX15_fieldPlain 9 none :: tb) ({ frames := 1, cells := 0, slots := 0, locals := 21 }) (va_Pc [.ref h0, .int (nI jf), .int x2, .int x3, .int x4] (PTm (dC, dI) cs ty gm L F sz)) (va_Qv (fun _ : Unit => True) (fun _ T9 => ∃ F2 : Nat → va_E, ∃ z2 : Nat, QTm (dC, dI) cs ty gm L [ρ + 10] F F2 (va_A (va_pl L F) sz) T9 ∧ F2 pl = .inr (14, [.ref rl, .int (nI z2)]) ∧ z2 ≤ z + (gm 2 jf - gm 0 jf)) (va_A (va_pl L F) sz)) 0 0 (va_A (va_pl L F) sz) := by
  refine Met.ofW (cc := cX15_fieldPlain) (maxL := 9) (ret := none) (by decide) rfl ?_
  intro p e s m args below meth c s₁ B hml hv
  obtain ⟨rfl, hsz, hP, hK, hD0, hE, hO⟩ := hv
  have hx := B.exec
  have hb := B.bytes
  have hr := B.returns
  have hts : ∀ w ∈ tb, w.before _ s = true := fun w h => atoms_spec (ws := .code yX15_fieldPlain cX15_fieldPlain 9 none :: tb) B.pre w (List.mem_cons_of_mem _ h)
  have hown : s.vm.findClass RX15 = some m.cls := findClass_of_methodNamed B.named
  have hlocks := B.notSynchronized
  subst hsz
  have hD := hD0.self (sz := s.heap.size)
  generalize hAe : va_A (va_pl L F) s.heap.size = A at hD ⊢
  have hA : ∀ q : Nat, s.heap.size ≤ q → A q := fun q h => by rw [← hAe]; exact Or.inr h
  have hS : va_S A s.heap s.heap [] := va_S.rf
  have hR : FR ty [ρ + 10] F F := FR.refl
  have hl := lv_entry ([.ref h0, .int (nI jf), .int x2, .int x3, .int x4]) (n := 9) (Nat.le_of_ble_eq_true rfl)
  rw [lg_entry_eq]
  generalize (lg_sl ([.ref h0, .int (nI jf), .int x2, .int x3, .int x4]) ++ List.replicate (9 - (lg_sl ([.ref h0, .int (nI jf), .int x2, .int x3, .int x4])).length) Slot.unset).toArray = ls at hl ⊢
  have hl : lv_has ls 9 [(0, .ref h0), (1, .int (nI jf)), (2, .int x2), (3, .int x3), (4, .int x4)] := hl
  obtain ⟨hq_22, hq_23, hq_24, hq_25, hq_26, hgO, hgA, hgB, hq_27⟩ := hW.sc hL_h0 hT_h0
  have hoj := hgO jf hjf
  obtain ⟨hi_28, ht_29, hq_30⟩ := hW.txt hL_pl hT_pl
  refine lv_aload_n hx hb dX15_fieldPlain_0 rfl (lv_at hl 0 rfl) ?_
  refine lv_iload_n hx hb dX15_fieldPlain_1 rfl (lv_at hl 1 rfl) ?_
  have hFc := pg_free hD hS hA
  obtain ⟨v14_31, v15_32, v17_33, v18_34, v19_35, v20_36, v21_37, v22_38, v33_39, v52_40, v53_41, v54_42, hF_43, hq_44, hq_45, hq_46, hq_47, hq_48⟩ := hO.mod hL_h0 hT_h0
  refine va_calli (va_runV (As := [.int (nI jf)]) (rest := []) ⟨hx, hb, hml, hown, hts⟩ (s_X15_valueEnd l dC dI cs ty gm L s.heap.size F h0 ρ ta ou so ad na va lc dm tg pe ml bg co sp nb0 nb1 nb2 pl se ke wi hs mo po nu pr sq xa sa n64 m64 ex wh sd tk hd ak ho ot sx s0 s1 s2 nf bd mm zo fm sn hg gc gv ze zt jf hW hL_h0 hT_h0 (by first | omega | assumption | exact Or.inl rfl)) ⟨callB_of 1 hts (gi kt_897) rfl rfl rfl (hts _ kt_669) (hts _ kt_898) (by decide +kernel) ⟨Nat.le_of_ble_eq_true rfl, Nat.le_of_ble_eq_true rfl⟩, (hts _ kt_899), (hts _ kt_900)⟩ ⟨fun a U g mk q => ⟨q.1, PTm.calling q.2⟩, pg_recv hK hP hL_h0 hF_43 (q := (RX15, TX15, 59)) rfl, fun U hU hWm => ⟨rfl, PTm.mk hU hWm hP hK hD hE hO⟩⟩ rfl rfl hl.1 rfl (lv_room (Nat.le_of_ble_eq_true rfl)) dX15_fieldPlain_2 ⟨by show _ + 0 ≤ 0; omega, by show _ + 0 ≤ 0; omega⟩) hS (fun q _ h => hFc q h) hFc (fun r_49 u t H1 locs ht hvm hw hB hz1 hk1 hS => ?_)
  obtain ⟨F_50, hB1⟩ := hB
  obtain rfl : F = F_50 := (funext (fun a => hB1.2.2.2 a List.not_mem_nil)).symm
  obtain ⟨hP, hD, hO, hR⟩ := QTm.back hB1 ht hFc hR (fun q h => absurd h List.not_mem_nil)
  generalize H1 = H at hP hS ⊢
  have hw : (∃ k : Nat, gm 1 jf ≤ k ∧ k ≤ gm 2 jf ∧ r_49 = nI k) := hw
  have hw_51 := hw
  obtain ⟨kend, hke1, hke2, eke⟩ := hw_51
  subst eke
  refine lv_istore (lv' := [(5, .int (nI kend)), (0, .ref h0), (1, .int (nI jf)), (2, .int x2), (3, .int x3), (4, .int x4)]) hx hb dX15_fieldPlain_5 hl (by decide) rfl (fun ls hl => ?_)
  refine lv_iload_n hx hb dX15_fieldPlain_7 rfl (lv_at hl 3 rfl) ?_
  refine lv_if_ne (tgt := 60) hx hb dX15_fieldPlain_8 (by decide) (fun c_52 => ?_) (fun c_52 => ?_)
  ·
    refine lv_aload_n hx hb dX15_fieldPlain_60 rfl (lv_at hl 1 rfl) ?_
    refine pg_get (ci := 15) (v := .ref bg) (C := RX15) (T := TX15) (N := 59) hx hb hts it_15 hown hK hP hL_h0 hF_43 rfl 24 (by decide) (hts _ kt_888) (fun _ h9 => h9) rfl dX15_fieldPlain_61 ?_
    refine lv_iload_n hx hb dX15_fieldPlain_64 rfl (lv_at hl 2 rfl) ?_
    obtain ⟨hi_53, ht_54⟩ := hW.f_bg hL_h0 hT_h0
    obtain ⟨f_55, hF_56, hq_57⟩ := hO.pos hi_53 ht_54
    refine pg_iald hx hb hK hP hi_53 0 hF_56 rfl (vp_in_nI (by omega) (by omega)) dX15_fieldPlain_65 ?_
    refine lv_topi (fun x_58 ex_58 => ?_)
    obtain rfl : x_58 = (nI (gm 0 jf)) := ex_58.trans (by rw [show ((nI jf) : Int32) = nI jf from rfl, nI_clamp (by omega)]; exact hq_57 jf (by omega))
    have hgbx_58 := hgB 0 jf
    refine lv_istore (lv' := [(6, .int (nI (gm 0 jf))), (5, .int (nI kend)), (0, .ref h0), (1, .int (nI jf)), (2, .int x2), (3, .int x3), (4, .int x4)]) hx hb dX15_fieldPlain_66 hl (by decide) rfl (fun ls hl => ?_)
    refine W.widen (k := 0) (n := 0) (by omega) (by omega) ?_
    have hF_60 : F h0 = .inr (15, (.ref ta) :: (.int (nI zt)) :: (.int (nI zo)) :: (.int (nI ze)) :: (.ref ou) :: (.ref so) :: (.ref ad) :: (.ref na) :: (.ref va) :: (.ref lc) :: (.ref dm) :: (.int (nI fm)) :: (.int (nI sn)) :: (.ref tg) :: (.int v14_31) :: (.int v15_32) :: (.ref pe) :: (.int v17_33) :: (.int v18_34) :: (.int v19_35) :: (.int v20_36) :: (.int v21_37) :: (.int v22_38) :: (.ref ml) :: (.ref bg) :: (.ref co) :: (.ref sp) :: (.ref nb0) :: (.ref nb1) :: (.ref nb2) :: (.int (nI nf)) :: (.int (nI bd)) :: (.int (nI mm)) :: (.int v33_39) :: (.ref pl) :: (.ref se) :: (.ref ke) :: (.ref wi) :: (.ref hs) :: (.ref mo) :: (.ref po) :: (.ref nu) :: (.ref pr) :: (.ref sq) :: (.ref xa) :: (.ref sa) :: (.ref n64) :: (.ref m64) :: (.ref ex) :: (.ref wh) :: (.ref sd) :: (.ref tk) :: (.int v52_40) :: (.int v53_41) :: (.int v54_42) :: (.ref hd) :: (.ref ak) :: (.ref ho) :: (.ref ot) :: []) := (hR h0 (by rw [hT_h0]; simp)).symm.trans hF_43
    have hF_61 : F bg = .inl (cs 16, 21, .inl f_55) := (hR bg (by rw [ht_54]; simp)).symm.trans hF_56
    refine pl_loopm (σ := Nat × Nat) A (dC, dI) cs ty gm L [ρ + 10] F 68 9 (fun (j, zz) => [(6, .int (nI j)), (5, .int (nI kend)), (0, .ref h0), (1, .int (nI jf)), (2, .int x2), (3, .int x3), (4, .int x4)]) (fun (j, zz) => []) (fun (j, zz) FF => (gm 0 jf ≤ j ∧ j ≤ gm 1 jf) ∧ zz ≤ z + (j - gm 0 jf) ∧ FF pl = .inr (14, [.ref rl, .int (nI zz)])) (fun (j, zz) => gm 1 jf - j) ?_ ((gm 0 jf), z) F (⟨⟨by omega, by omega⟩, by omega, hFl⟩) hO hR _ _ hP hD hS ls (lv_sub hl [0, 1, 2, 3, 4, 5, 6] rfl)
    rintro ⟨j, zz⟩ F_59 hv_62 hO hR ih_63 H locs hP hD hS ls hl
    have hl : lv_has ls 9 [(6, .int (nI j)), (5, .int (nI kend)), (0, .ref h0), (1, .int (nI jf)), (2, .int x2), (3, .int x3), (4, .int x4)] := hl
    have hv_62 : (gm 0 jf ≤ j ∧ j ≤ gm 1 jf) ∧ zz ≤ z + (j - gm 0 jf) ∧ F_59 pl = .inr (14, [.ref rl, .int (nI zz)]) := hv_62
    refine W.eq (g2 := F0 m 68 ls []) rfl ?_
    have hF_64 : F_59 h0 = .inr (15, (.ref ta) :: (.int (nI zt)) :: (.int (nI zo)) :: (.int (nI ze)) :: (.ref ou) :: (.ref so) :: (.ref ad) :: (.ref na) :: (.ref va) :: (.ref lc) :: (.ref dm) :: (.int (nI fm)) :: (.int (nI sn)) :: (.ref tg) :: (.int v14_31) :: (.int v15_32) :: (.ref pe) :: (.int v17_33) :: (.int v18_34) :: (.int v19_35) :: (.int v20_36) :: (.int v21_37) :: (.int v22_38) :: (.ref ml) :: (.ref bg) :: (.ref co) :: (.ref sp) :: (.ref nb0) :: (.ref nb1) :: (.ref nb2) :: (.int (nI nf)) :: (.int (nI bd)) :: (.int (nI mm)) :: (.int v33_39) :: (.ref pl) :: (.ref se) :: (.ref ke) :: (.ref wi) :: (.ref hs) :: (.ref mo) :: (.ref po) :: (.ref nu) :: (.ref pr) :: (.ref sq) :: (.ref xa) :: (.ref sa) :: (.ref n64) :: (.ref m64) :: (.ref ex) :: (.ref wh) :: (.ref sd) :: (.ref tk) :: (.int v52_40) :: (.int v53_41) :: (.int v54_42) :: (.ref hd) :: (.ref ak) :: (.ref ho) :: (.ref ot) :: []) := (hR h0 (by rw [hT_h0]; simp)).trans hF_60
    have hF_65 : F_59 bg = .inl (cs 16, 21, .inl f_55) := (hR bg (by rw [ht_54]; simp)).trans hF_61
    obtain ⟨hp2, hq2, hr2⟩ := hv_62
    refine lv_iload hx hb dX15_fieldPlain_68 (lv_at hl 0 rfl) ?_
    refine lv_aload_n hx hb dX15_fieldPlain_70 rfl (lv_at hl 2 rfl) ?_
    refine pg_get (ci := 15) (v := .ref co) (C := RX15) (T := TX15) (N := 59) hx hb hts it_15 hown hK hP hL_h0 hF_64 rfl 25 (by decide) (hts _ kt_889) (fun _ h9 => h9) rfl dX15_fieldPlain_71 ?_
    refine lv_iload_n hx hb dX15_fieldPlain_74 rfl (lv_at hl 3 rfl) ?_
    obtain ⟨hi_66, ht_67⟩ := hW.f_co hL_h0 hT_h0
    obtain ⟨f_68, hF_69, hq_70⟩ := hO.pos hi_66 ht_67
    refine pg_iald hx hb hK hP hi_66 0 hF_69 rfl (vp_in_nI (by omega) (by omega)) dX15_fieldPlain_75 ?_
    refine lv_topi (fun x_71 ex_71 => ?_)
    obtain rfl : x_71 = (nI (gm 1 jf)) := ex_71.trans (by rw [show ((nI jf) : Int32) = nI jf from rfl, nI_clamp (by omega)]; exact hq_70 jf (by omega))
    have hgbx_71 := hgB 1 jf
    refine lv_icmp_ge (tgt := 102) hx hb dX15_fieldPlain_76 (by decide) (fun c_72 => ?_) (fun c_72 => ?_)
    ·
      have hi_73 : (gm 1 jf) ≤ j := leN (N := (gm 1 jf)) c_72
      refine lv_aload_n hx hb dX15_fieldPlain_102 rfl (lv_at hl 2 rfl) ?_
      refine pg_get (ci := 15) (v := .ref pl) (C := RX15) (T := TX15) (N := 59) hx hb hts it_15 hown hK hP hL_h0 hF_64 rfl 34 (by decide) (hts _ kt_901) (fun _ h9 => h9) rfl dX15_fieldPlain_103 ?_
      refine lv_bipush (v := 58) hx hb dX15_fieldPlain_106 (by decide) ?_
      have hFc := pg_free hD hS hA
      refine va_callv (va_runV (As := [.int 58]) (rest := []) ⟨hx, hb, hml, hown, hts⟩ (s_X14_add l dC dI cs ty gm L H.size F_59 pl (ρ + 10) rl 6000 zz 58 hW hL_pl hT_pl hr2 (by first | omega | assumption | exact Or.inl rfl)) ⟨callB_of 1 hts (gi kt_711) rfl rfl rfl (hts _ kt_676) (hts _ kt_712) (by decide +kernel) ⟨Nat.le_of_ble_eq_true rfl, Nat.le_of_ble_eq_true rfl⟩, (hts _ kt_713), (hts _ kt_714)⟩ ⟨fun a U g mk q => ⟨q.1, PTm.calling q.2⟩, pg_recv hK hP hL_pl hr2 (q := (RX14, TX14, 2)) rfl, fun U hU hWm => ⟨rfl, PTm.mk hU hWm hP hK hD hE hO⟩⟩ rfl rfl hl.1 rfl (lv_room (Nat.le_of_ble_eq_true rfl)) dX15_fieldPlain_108 ⟨by show _ + 0 ≤ 0; omega, by show _ + 0 ≤ 0; omega⟩) hS (fun q _ h => hFc q h) hFc (fun u t H1 locs ht hvm hw hB hz1 hk1 hS => ?_)
      obtain ⟨F_75, hB1, hq_76⟩ := hB
      obtain ⟨hP, hD, hO, hR⟩ := QTm.back hB1 ht hFc hR (fun q h => by simp only [List.mem_cons, List.not_mem_nil, or_false] at h ⊢; omega)
      have hF_77 : F_75 h0 = .inr (15, (.ref ta) :: (.int (nI zt)) :: (.int (nI zo)) :: (.int (nI ze)) :: (.ref ou) :: (.ref so) :: (.ref ad) :: (.ref na) :: (.ref va) :: (.ref lc) :: (.ref dm) :: (.int (nI fm)) :: (.int (nI sn)) :: (.ref tg) :: (.int v14_31) :: (.int v15_32) :: (.ref pe) :: (.int v17_33) :: (.int v18_34) :: (.int v19_35) :: (.int v20_36) :: (.int v21_37) :: (.int v22_38) :: (.ref ml) :: (.ref bg) :: (.ref co) :: (.ref sp) :: (.ref nb0) :: (.ref nb1) :: (.ref nb2) :: (.int (nI nf)) :: (.int (nI bd)) :: (.int (nI mm)) :: (.int v33_39) :: (.ref pl) :: (.ref se) :: (.ref ke) :: (.ref wi) :: (.ref hs) :: (.ref mo) :: (.ref po) :: (.ref nu) :: (.ref pr) :: (.ref sq) :: (.ref xa) :: (.ref sa) :: (.ref n64) :: (.ref m64) :: (.ref ex) :: (.ref wh) :: (.ref sd) :: (.ref tk) :: (.int v52_40) :: (.int v53_41) :: (.int v54_42) :: (.ref hd) :: (.ref ak) :: (.ref ho) :: (.ref ot) :: []) := (hB1.2.2.2 h0 (by rw [hT_h0]; simp)).trans hF_64
      have hF_78 : F_75 bg = .inl (cs 16, 21, .inl f_55) := (hB1.2.2.2 bg (by rw [ht_54]; simp)).trans hF_65
      have hF_79 : F_75 co = .inl (cs 16, 21, .inl f_68) := (hB1.2.2.2 co (by rw [ht_67]; simp)).trans hF_69
      generalize H1 = H at hP hS ⊢
      refine lv_iconst (v := 0) hx hb dX15_fieldPlain_111 (by decide) ?_
      refine lv_istore (lv' := [(6, .int 0), (5, .int (nI kend)), (0, .ref h0), (1, .int (nI jf)), (2, .int x2), (3, .int x3), (4, .int x4)]) hx hb dX15_fieldPlain_112 hl (by decide) rfl (fun ls hl => ?_)
      refine lv_iconst (v := 0) hx hb dX15_fieldPlain_114 (by decide) ?_
      refine lv_istore (lv' := [(7, .int 0), (6, .int 0), (5, .int (nI kend)), (0, .ref h0), (1, .int (nI jf)), (2, .int x2), (3, .int x3), (4, .int x4)]) hx hb dX15_fieldPlain_115 hl (by decide) rfl (fun ls hl => ?_)
      refine lv_aload_n hx hb dX15_fieldPlain_117 rfl (lv_at hl 3 rfl) ?_
      refine pg_get (ci := 15) (v := .ref co) (C := RX15) (T := TX15) (N := 59) hx hb hts it_15 hown hK hP hL_h0 hF_77 rfl 25 (by decide) (hts _ kt_889) (fun _ h9 => h9) rfl dX15_fieldPlain_118 ?_
      refine lv_iload_n hx hb dX15_fieldPlain_121 rfl (lv_at hl 4 rfl) ?_
      refine pg_iald hx hb hK hP hi_66 0 hF_79 rfl (vp_in_nI (by omega) (by omega)) dX15_fieldPlain_122 ?_
      refine lv_topi (fun x_80 ex_80 => ?_)
      obtain rfl : x_80 = (nI (gm 1 jf)) := ex_80.trans (by rw [show ((nI jf) : Int32) = nI jf from rfl, nI_clamp (by omega)]; exact hq_70 jf (by omega))
      have hgbx_80 := hgB 1 jf
      refine lv_iconst (v := 1) hx hb dX15_fieldPlain_123 (by decide) ?_
      refine lv_iadd hx hb dX15_fieldPlain_124 ?_
      refine lv_topi (fun x_81 ex_81 => ?_)
      obtain rfl : x_81 = (nI ((gm 1 jf) + 1)) := ex_81.trans (nI_add (gm 1 jf) 1)
      refine lv_istore (lv' := [(8, .int (nI ((gm 1 jf) + 1))), (7, .int 0), (6, .int 0), (5, .int (nI kend)), (0, .ref h0), (1, .int (nI jf)), (2, .int x2), (3, .int x3), (4, .int x4)]) hx hb dX15_fieldPlain_125 hl (by decide) rfl (fun ls hl => ?_)
      refine W.widen (k := 0) (n := 0) (by omega) (by omega) ?_
      have hF_83 : F h0 = .inr (15, (.ref ta) :: (.int (nI zt)) :: (.int (nI zo)) :: (.int (nI ze)) :: (.ref ou) :: (.ref so) :: (.ref ad) :: (.ref na) :: (.ref va) :: (.ref lc) :: (.ref dm) :: (.int (nI fm)) :: (.int (nI sn)) :: (.ref tg) :: (.int v14_31) :: (.int v15_32) :: (.ref pe) :: (.int v17_33) :: (.int v18_34) :: (.int v19_35) :: (.int v20_36) :: (.int v21_37) :: (.int v22_38) :: (.ref ml) :: (.ref bg) :: (.ref co) :: (.ref sp) :: (.ref nb0) :: (.ref nb1) :: (.ref nb2) :: (.int (nI nf)) :: (.int (nI bd)) :: (.int (nI mm)) :: (.int v33_39) :: (.ref pl) :: (.ref se) :: (.ref ke) :: (.ref wi) :: (.ref hs) :: (.ref mo) :: (.ref po) :: (.ref nu) :: (.ref pr) :: (.ref sq) :: (.ref xa) :: (.ref sa) :: (.ref n64) :: (.ref m64) :: (.ref ex) :: (.ref wh) :: (.ref sd) :: (.ref tk) :: (.int v52_40) :: (.int v53_41) :: (.int v54_42) :: (.ref hd) :: (.ref ak) :: (.ref ho) :: (.ref ot) :: []) := (hR h0 (by rw [hT_h0]; simp)).symm.trans hF_77
      have hF_84 : F bg = .inl (cs 16, 21, .inl f_55) := (hR bg (by rw [ht_54]; simp)).symm.trans hF_78
      have hF_85 : F co = .inl (cs 16, 21, .inl f_68) := (hR co (by rw [ht_67]; simp)).symm.trans hF_79
      refine pl_loopm (σ := Nat × Int32 × Int32 × Nat) A (dC, dI) cs ty gm L [ρ + 10] F 127 9 (fun (i, w6, w7, zz) => [(8, .int (nI i)), (7, .int w7), (6, .int w6), (5, .int (nI kend)), (0, .ref h0), (1, .int (nI jf)), (2, .int x2), (3, .int x3), (4, .int x4)]) (fun (i, w6, w7, zz) => []) (fun (i, w6, w7, zz) FF => (gm 1 jf + 1 ≤ i ∧ i ≤ max kend (gm 1 jf + 1)) ∧ (w7 = 0 ∨ zz + 1 ≤ (z + (gm 1 jf - gm 0 jf) + 1 + (i - (gm 1 jf + 1)))) ∧ zz ≤ (z + (gm 1 jf - gm 0 jf) + 1 + (i - (gm 1 jf + 1))) ∧ FF pl = .inr (14, [.ref rl, .int (nI zz)])) (fun (i, w6, w7, zz) => kend - i) ?_ (((gm 1 jf) + 1), 0, 0, (zz + 1)) F_75 (⟨⟨by omega, by omega⟩, Or.inl rfl, by omega, hq_76⟩) hO hR _ _ hP hD hS ls (lv_sub hl [0, 1, 2, 3, 4, 5, 6, 7, 8] rfl)
      rintro ⟨i, w6, w7, zz⟩ F_82 hv_86 hO hR ih_87 H locs hP hD hS ls hl
      have hl : lv_has ls 9 [(8, .int (nI i)), (7, .int w7), (6, .int w6), (5, .int (nI kend)), (0, .ref h0), (1, .int (nI jf)), (2, .int x2), (3, .int x3), (4, .int x4)] := hl
      have hv_86 : (gm 1 jf + 1 ≤ i ∧ i ≤ max kend (gm 1 jf + 1)) ∧ (w7 = 0 ∨ zz + 1 ≤ (z + (gm 1 jf - gm 0 jf) + 1 + (i - (gm 1 jf + 1)))) ∧ zz ≤ (z + (gm 1 jf - gm 0 jf) + 1 + (i - (gm 1 jf + 1))) ∧ F_82 pl = .inr (14, [.ref rl, .int (nI zz)]) := hv_86
      refine W.eq (g2 := F0 m 127 ls []) rfl ?_
      have hF_88 : F_82 h0 = .inr (15, (.ref ta) :: (.int (nI zt)) :: (.int (nI zo)) :: (.int (nI ze)) :: (.ref ou) :: (.ref so) :: (.ref ad) :: (.ref na) :: (.ref va) :: (.ref lc) :: (.ref dm) :: (.int (nI fm)) :: (.int (nI sn)) :: (.ref tg) :: (.int v14_31) :: (.int v15_32) :: (.ref pe) :: (.int v17_33) :: (.int v18_34) :: (.int v19_35) :: (.int v20_36) :: (.int v21_37) :: (.int v22_38) :: (.ref ml) :: (.ref bg) :: (.ref co) :: (.ref sp) :: (.ref nb0) :: (.ref nb1) :: (.ref nb2) :: (.int (nI nf)) :: (.int (nI bd)) :: (.int (nI mm)) :: (.int v33_39) :: (.ref pl) :: (.ref se) :: (.ref ke) :: (.ref wi) :: (.ref hs) :: (.ref mo) :: (.ref po) :: (.ref nu) :: (.ref pr) :: (.ref sq) :: (.ref xa) :: (.ref sa) :: (.ref n64) :: (.ref m64) :: (.ref ex) :: (.ref wh) :: (.ref sd) :: (.ref tk) :: (.int v52_40) :: (.int v53_41) :: (.int v54_42) :: (.ref hd) :: (.ref ak) :: (.ref ho) :: (.ref ot) :: []) := (hR h0 (by rw [hT_h0]; simp)).trans hF_83
      have hF_89 : F_82 bg = .inl (cs 16, 21, .inl f_55) := (hR bg (by rw [ht_54]; simp)).trans hF_84
      have hF_90 : F_82 co = .inl (cs 16, 21, .inl f_68) := (hR co (by rw [ht_67]; simp)).trans hF_85
      obtain ⟨hp3, hq3, hr3, hs3⟩ := hv_86
      refine lv_iload hx hb dX15_fieldPlain_127 (lv_at hl 0 rfl) ?_
      refine lv_iload hx hb dX15_fieldPlain_129 (lv_at hl 3 rfl) ?_
      refine lv_icmp_ge (tgt := 226) hx hb dX15_fieldPlain_131 (by decide) (fun c_91 => ?_) (fun c_91 => ?_)
      ·
        have hi_92 : kend ≤ i := leN (N := kend) c_91
        refine W.widen (k := 0) (n := 0) (by omega) (by omega) ?_
        exact W.vret hx hb hr (fun t ht hWm => ⟨⟨(), rfl, trivial, ⟨F_82, zz, QTm.mk ht hP hD hO hR, hs3, by omega⟩⟩, hS.F ht⟩) hS.2.2 dX15_fieldPlain_226
      ·
        have hi_93 : i < kend := ltN (N := kend) c_91
        refine lv_iload hx hb dX15_fieldPlain_134 (lv_at hl 0 rfl) ?_
        refine lv_iload_n hx hb dX15_fieldPlain_136 rfl (lv_at hl 7 rfl) ?_
        refine lv_icmp_lt (tgt := 147) hx hb dX15_fieldPlain_137 (by decide) (fun c_94 => ?_) (fun c_94 => ?_)
        ·
          refine lv_aload_n hx hb dX15_fieldPlain_147 rfl (lv_at hl 4 rfl) ?_
          refine pg_get (ci := 15) (v := .ref ml) (C := RX15) (T := TX15) (N := 59) hx hb hts it_15 hown hK hP hL_h0 hF_88 rfl 23 (by decide) (hts _ kt_887) (fun _ h9 => h9) rfl dX15_fieldPlain_148 ?_
          refine lv_iload hx hb dX15_fieldPlain_151 (lv_at hl 0 rfl) ?_
          obtain ⟨hi_95, ht_96⟩ := hW.f_ml hL_h0 hT_h0
          obtain ⟨hq_97, hq_98⟩ := hW.octs hi_95 ht_96
          obtain ⟨f_99, hF_100, hq_101⟩ := hO.octs hi_95 ht_96
          refine pg_bald hx hb hK hP hi_95 1 hF_100 rfl (vp_in_nI (by omega) (by omega)) dX15_fieldPlain_153 ?_
          refine lv_topi (fun x_102 ex_102 => ?_)
          obtain rfl : x_102 = f_99 i := ex_102.trans (congrArg f_99 (show ((nI i) : Int32).toNatClampNeg = i from nI_clamp (by omega)))
          refine lv_bipush (v := 10) hx hb dX15_fieldPlain_154 (by decide) ?_
          refine lv_icmp_ne (tgt := 162) hx hb dX15_fieldPlain_156 (by decide) (fun c_103 => ?_) (fun c_103 => ?_)
          ·
            refine lv_aload_n hx hb dX15_fieldPlain_162 rfl (lv_at hl 4 rfl) ?_
            refine pg_get (ci := 15) (v := .ref ml) (C := RX15) (T := TX15) (N := 59) hx hb hts it_15 hown hK hP hL_h0 hF_88 rfl 23 (by decide) (hts _ kt_887) (fun _ h9 => h9) rfl dX15_fieldPlain_163 ?_
            refine lv_iload hx hb dX15_fieldPlain_166 (lv_at hl 0 rfl) ?_
            refine pg_bald hx hb hK hP hi_95 1 hF_100 rfl (vp_in_nI (by omega) (by omega)) dX15_fieldPlain_168 ?_
            refine lv_topi (fun x_104 ex_104 => ?_)
            obtain rfl : x_104 = f_99 i := ex_104.trans (congrArg f_99 (show ((nI i) : Int32).toNatClampNeg = i from nI_clamp (by omega)))
            have hFc := pg_free hD hS hA
            refine va_calli (va_runS (As := [.int (f_99 i)]) (rest := []) ⟨hx, hb, hml, hown, hts⟩ (s_X15_isWhite l dC dI cs ty gm L H.size F_82 (f_99 i) hW ) ⟨callB_of 1 hts (gi kt_715) rfl rfl rfl (hts _ kt_669) (hts _ kt_716) (by decide +kernel) ⟨Nat.le_of_ble_eq_true rfl, Nat.le_of_ble_eq_true rfl⟩, (hts _ kt_717)⟩ ⟨fun a U g mk q => ⟨q.1, PTm.calling q.2⟩, fun U hU hWm => ⟨rfl, PTm.mk hU hWm hP hK hD hE hO⟩⟩ rfl rfl hl.1 rfl (lv_room (Nat.le_of_ble_eq_true rfl)) dX15_fieldPlain_169 ⟨by show _ + 0 ≤ 0; omega, by show _ + 0 ≤ 0; omega⟩) hS (fun q _ h => hFc q h) hFc (fun r_105 u t H1 locs ht hvm hw hB hz1 hk1 hS => ?_)
            obtain ⟨F_106, hB1⟩ := hB
            obtain rfl : F_82 = F_106 := (funext (fun a => hB1.2.2.2 a List.not_mem_nil)).symm
            obtain ⟨hP, hD, hO, hR⟩ := QTm.back hB1 ht hFc hR (fun q h => absurd h List.not_mem_nil)
            generalize H1 = H at hP hS ⊢
            have hw : (r_105 = 0 ∨ r_105 = 1) := hw
            have hw_107 := hw
            refine lv_if_eq (tgt := 181) hx hb dX15_fieldPlain_172 (by decide) (fun c_108 => ?_) (fun c_108 => ?_)
            ·
              refine lv_iload hx hb dX15_fieldPlain_181 (lv_at hl 1 rfl) ?_
              refine lv_if_eq (tgt := 200) hx hb dX15_fieldPlain_183 (by decide) (fun c_109 => ?_) (fun c_109 => ?_)
              ·
                refine lv_iconst (v := 0) hx hb dX15_fieldPlain_200 (by decide) ?_
                refine lv_istore (lv' := [(7, .int 0), (8, .int (nI i)), (6, .int w6), (5, .int (nI kend)), (0, .ref h0), (1, .int (nI jf)), (2, .int x2), (3, .int x3), (4, .int x4)]) hx hb dX15_fieldPlain_201 hl (by decide) rfl (fun ls hl => ?_)
                refine lv_iconst (v := 1) hx hb dX15_fieldPlain_203 (by decide) ?_
                refine lv_istore (lv' := [(6, .int 1), (7, .int 0), (8, .int (nI i)), (5, .int (nI kend)), (0, .ref h0), (1, .int (nI jf)), (2, .int x2), (3, .int x3), (4, .int x4)]) hx hb dX15_fieldPlain_204 hl (by decide) rfl (fun ls hl => ?_)
                refine lv_aload_n hx hb dX15_fieldPlain_206 rfl (lv_at hl 4 rfl) ?_
                refine pg_get (ci := 15) (v := .ref pl) (C := RX15) (T := TX15) (N := 59) hx hb hts it_15 hown hK hP hL_h0 hF_88 rfl 34 (by decide) (hts _ kt_901) (fun _ h9 => h9) rfl dX15_fieldPlain_207 ?_
                refine lv_aload_n hx hb dX15_fieldPlain_210 rfl (lv_at hl 4 rfl) ?_
                refine pg_get (ci := 15) (v := .ref ml) (C := RX15) (T := TX15) (N := 59) hx hb hts it_15 hown hK hP hL_h0 hF_88 rfl 23 (by decide) (hts _ kt_887) (fun _ h9 => h9) rfl dX15_fieldPlain_211 ?_
                refine lv_iload hx hb dX15_fieldPlain_214 (lv_at hl 2 rfl) ?_
                refine pg_bald hx hb hK hP hi_95 1 hF_100 rfl (vp_in_nI (by omega) (by omega)) dX15_fieldPlain_216 ?_
                refine lv_topi (fun x_110 ex_110 => ?_)
                obtain rfl : x_110 = f_99 i := ex_110.trans (congrArg f_99 (show ((nI i) : Int32).toNatClampNeg = i from nI_clamp (by omega)))
                have hFc := pg_free hD hS hA
                refine va_callv (va_runV (As := [.int (f_99 i)]) (rest := []) ⟨hx, hb, hml, hown, hts⟩ (s_X14_add l dC dI cs ty gm L H.size F_82 pl (ρ + 10) rl 6000 zz (f_99 i) hW hL_pl hT_pl hs3 (by first | omega | assumption | exact Or.inl rfl)) ⟨callB_of 1 hts (gi kt_711) rfl rfl rfl (hts _ kt_676) (hts _ kt_712) (by decide +kernel) ⟨Nat.le_of_ble_eq_true rfl, Nat.le_of_ble_eq_true rfl⟩, (hts _ kt_713), (hts _ kt_714)⟩ ⟨fun a U g mk q => ⟨q.1, PTm.calling q.2⟩, pg_recv hK hP hL_pl hs3 (q := (RX14, TX14, 2)) rfl, fun U hU hWm => ⟨rfl, PTm.mk hU hWm hP hK hD hE hO⟩⟩ rfl rfl hl.1 rfl (lv_room (Nat.le_of_ble_eq_true rfl)) dX15_fieldPlain_217 ⟨by show _ + 0 ≤ 0; omega, by show _ + 0 ≤ 0; omega⟩) hS (fun q _ h => hFc q h) hFc (fun u t H1 locs ht hvm hw hB hz1 hk1 hS => ?_)
                obtain ⟨F_112, hB1, hq_113⟩ := hB
                obtain ⟨hP, hD, hO, hR⟩ := QTm.back hB1 ht hFc hR (fun q h => by simp only [List.mem_cons, List.not_mem_nil, or_false] at h ⊢; omega)
                have hF_114 : F_112 h0 = .inr (15, (.ref ta) :: (.int (nI zt)) :: (.int (nI zo)) :: (.int (nI ze)) :: (.ref ou) :: (.ref so) :: (.ref ad) :: (.ref na) :: (.ref va) :: (.ref lc) :: (.ref dm) :: (.int (nI fm)) :: (.int (nI sn)) :: (.ref tg) :: (.int v14_31) :: (.int v15_32) :: (.ref pe) :: (.int v17_33) :: (.int v18_34) :: (.int v19_35) :: (.int v20_36) :: (.int v21_37) :: (.int v22_38) :: (.ref ml) :: (.ref bg) :: (.ref co) :: (.ref sp) :: (.ref nb0) :: (.ref nb1) :: (.ref nb2) :: (.int (nI nf)) :: (.int (nI bd)) :: (.int (nI mm)) :: (.int v33_39) :: (.ref pl) :: (.ref se) :: (.ref ke) :: (.ref wi) :: (.ref hs) :: (.ref mo) :: (.ref po) :: (.ref nu) :: (.ref pr) :: (.ref sq) :: (.ref xa) :: (.ref sa) :: (.ref n64) :: (.ref m64) :: (.ref ex) :: (.ref wh) :: (.ref sd) :: (.ref tk) :: (.int v52_40) :: (.int v53_41) :: (.int v54_42) :: (.ref hd) :: (.ref ak) :: (.ref ho) :: (.ref ot) :: []) := (hB1.2.2.2 h0 (by rw [hT_h0]; simp)).trans hF_88
                have hF_115 : F_112 bg = .inl (cs 16, 21, .inl f_55) := (hB1.2.2.2 bg (by rw [ht_54]; simp)).trans hF_89
                have hF_116 : F_112 co = .inl (cs 16, 21, .inl f_68) := (hB1.2.2.2 co (by rw [ht_67]; simp)).trans hF_90
                have hF_117 : F_112 ml = .inl (cs 17, 3000, .inl f_99) := (hB1.2.2.2 ml (by rw [ht_96]; simp)).trans hF_100
                generalize H1 = H at hP hS ⊢
                refine lv_iinc (v := (nI (i + 1))) (lv' := [(8, .int (nI (i + 1))), (6, .int 1), (7, .int 0), (5, .int (nI kend)), (0, .ref h0), (1, .int (nI jf)), (2, .int x2), (3, .int x3), (4, .int x4)]) hx hb dX15_fieldPlain_220 hl (k := 2) rfl (nI_1 _) (by decide) rfl (fun ls hl => ?_)
                refine lv_goto (tgt := 127) hx hb dX15_fieldPlain_223 (by decide) ?_
                refine W.widen (k := 0) (n := 0) (by omega) (by omega) ?_
                exact ih_87 ((i + 1), 1, 0, (zz + 1)) F_112 (⟨⟨by omega, by omega⟩, Or.inl rfl, by omega, hq_113⟩) (by show kend - (i + 1) < kend - i; omega) hO hR _ _ hP hD hS ls (lv_sub hl [0, 2, 1, 3, 4, 5, 6, 7, 8] rfl)
              ·
                have hzz : zz + 1 ≤ (z + (gm 1 jf - gm 0 jf) + 1 + (i - (gm 1 jf + 1))) := hq3.resolve_left c_109
                refine lv_iload hx hb dX15_fieldPlain_186 (lv_at hl 2 rfl) ?_
                refine lv_if_eq (tgt := 200) hx hb dX15_fieldPlain_188 (by decide) (fun c_118 => ?_) (fun c_118 => ?_)
                ·
                  refine lv_iconst (v := 0) hx hb dX15_fieldPlain_200 (by decide) ?_
                  refine lv_istore (lv' := [(7, .int 0), (8, .int (nI i)), (6, .int w6), (5, .int (nI kend)), (0, .ref h0), (1, .int (nI jf)), (2, .int x2), (3, .int x3), (4, .int x4)]) hx hb dX15_fieldPlain_201 hl (by decide) rfl (fun ls hl => ?_)
                  refine lv_iconst (v := 1) hx hb dX15_fieldPlain_203 (by decide) ?_
                  refine lv_istore (lv' := [(6, .int 1), (7, .int 0), (8, .int (nI i)), (5, .int (nI kend)), (0, .ref h0), (1, .int (nI jf)), (2, .int x2), (3, .int x3), (4, .int x4)]) hx hb dX15_fieldPlain_204 hl (by decide) rfl (fun ls hl => ?_)
                  refine lv_aload_n hx hb dX15_fieldPlain_206 rfl (lv_at hl 4 rfl) ?_
                  refine pg_get (ci := 15) (v := .ref pl) (C := RX15) (T := TX15) (N := 59) hx hb hts it_15 hown hK hP hL_h0 hF_88 rfl 34 (by decide) (hts _ kt_901) (fun _ h9 => h9) rfl dX15_fieldPlain_207 ?_
                  refine lv_aload_n hx hb dX15_fieldPlain_210 rfl (lv_at hl 4 rfl) ?_
                  refine pg_get (ci := 15) (v := .ref ml) (C := RX15) (T := TX15) (N := 59) hx hb hts it_15 hown hK hP hL_h0 hF_88 rfl 23 (by decide) (hts _ kt_887) (fun _ h9 => h9) rfl dX15_fieldPlain_211 ?_
                  refine lv_iload hx hb dX15_fieldPlain_214 (lv_at hl 2 rfl) ?_
                  refine pg_bald hx hb hK hP hi_95 1 hF_100 rfl (vp_in_nI (by omega) (by omega)) dX15_fieldPlain_216 ?_
                  refine lv_topi (fun x_119 ex_119 => ?_)
                  obtain rfl : x_119 = f_99 i := ex_119.trans (congrArg f_99 (show ((nI i) : Int32).toNatClampNeg = i from nI_clamp (by omega)))
                  have hFc := pg_free hD hS hA
                  refine va_callv (va_runV (As := [.int (f_99 i)]) (rest := []) ⟨hx, hb, hml, hown, hts⟩ (s_X14_add l dC dI cs ty gm L H.size F_82 pl (ρ + 10) rl 6000 zz (f_99 i) hW hL_pl hT_pl hs3 (by first | omega | assumption | exact Or.inl rfl)) ⟨callB_of 1 hts (gi kt_711) rfl rfl rfl (hts _ kt_676) (hts _ kt_712) (by decide +kernel) ⟨Nat.le_of_ble_eq_true rfl, Nat.le_of_ble_eq_true rfl⟩, (hts _ kt_713), (hts _ kt_714)⟩ ⟨fun a U g mk q => ⟨q.1, PTm.calling q.2⟩, pg_recv hK hP hL_pl hs3 (q := (RX14, TX14, 2)) rfl, fun U hU hWm => ⟨rfl, PTm.mk hU hWm hP hK hD hE hO⟩⟩ rfl rfl hl.1 rfl (lv_room (Nat.le_of_ble_eq_true rfl)) dX15_fieldPlain_217 ⟨by show _ + 0 ≤ 0; omega, by show _ + 0 ≤ 0; omega⟩) hS (fun q _ h => hFc q h) hFc (fun u t H1 locs ht hvm hw hB hz1 hk1 hS => ?_)
                  obtain ⟨F_121, hB1, hq_122⟩ := hB
                  obtain ⟨hP, hD, hO, hR⟩ := QTm.back hB1 ht hFc hR (fun q h => by simp only [List.mem_cons, List.not_mem_nil, or_false] at h ⊢; omega)
                  have hF_123 : F_121 h0 = .inr (15, (.ref ta) :: (.int (nI zt)) :: (.int (nI zo)) :: (.int (nI ze)) :: (.ref ou) :: (.ref so) :: (.ref ad) :: (.ref na) :: (.ref va) :: (.ref lc) :: (.ref dm) :: (.int (nI fm)) :: (.int (nI sn)) :: (.ref tg) :: (.int v14_31) :: (.int v15_32) :: (.ref pe) :: (.int v17_33) :: (.int v18_34) :: (.int v19_35) :: (.int v20_36) :: (.int v21_37) :: (.int v22_38) :: (.ref ml) :: (.ref bg) :: (.ref co) :: (.ref sp) :: (.ref nb0) :: (.ref nb1) :: (.ref nb2) :: (.int (nI nf)) :: (.int (nI bd)) :: (.int (nI mm)) :: (.int v33_39) :: (.ref pl) :: (.ref se) :: (.ref ke) :: (.ref wi) :: (.ref hs) :: (.ref mo) :: (.ref po) :: (.ref nu) :: (.ref pr) :: (.ref sq) :: (.ref xa) :: (.ref sa) :: (.ref n64) :: (.ref m64) :: (.ref ex) :: (.ref wh) :: (.ref sd) :: (.ref tk) :: (.int v52_40) :: (.int v53_41) :: (.int v54_42) :: (.ref hd) :: (.ref ak) :: (.ref ho) :: (.ref ot) :: []) := (hB1.2.2.2 h0 (by rw [hT_h0]; simp)).trans hF_88
                  have hF_124 : F_121 bg = .inl (cs 16, 21, .inl f_55) := (hB1.2.2.2 bg (by rw [ht_54]; simp)).trans hF_89
                  have hF_125 : F_121 co = .inl (cs 16, 21, .inl f_68) := (hB1.2.2.2 co (by rw [ht_67]; simp)).trans hF_90
                  have hF_126 : F_121 ml = .inl (cs 17, 3000, .inl f_99) := (hB1.2.2.2 ml (by rw [ht_96]; simp)).trans hF_100
                  generalize H1 = H at hP hS ⊢
                  refine lv_iinc (v := (nI (i + 1))) (lv' := [(8, .int (nI (i + 1))), (6, .int 1), (7, .int 0), (5, .int (nI kend)), (0, .ref h0), (1, .int (nI jf)), (2, .int x2), (3, .int x3), (4, .int x4)]) hx hb dX15_fieldPlain_220 hl (k := 2) rfl (nI_1 _) (by decide) rfl (fun ls hl => ?_)
                  refine lv_goto (tgt := 127) hx hb dX15_fieldPlain_223 (by decide) ?_
                  refine W.widen (k := 0) (n := 0) (by omega) (by omega) ?_
                  exact ih_87 ((i + 1), 1, 0, (zz + 1)) F_121 (⟨⟨by omega, by omega⟩, Or.inl rfl, by omega, hq_122⟩) (by show kend - (i + 1) < kend - i; omega) hO hR _ _ hP hD hS ls (lv_sub hl [0, 2, 1, 3, 4, 5, 6, 7, 8] rfl)
                ·
                  refine lv_aload_n hx hb dX15_fieldPlain_191 rfl (lv_at hl 4 rfl) ?_
                  refine pg_get (ci := 15) (v := .ref pl) (C := RX15) (T := TX15) (N := 59) hx hb hts it_15 hown hK hP hL_h0 hF_88 rfl 34 (by decide) (hts _ kt_901) (fun _ h9 => h9) rfl dX15_fieldPlain_192 ?_
                  refine lv_bipush (v := 32) hx hb dX15_fieldPlain_195 (by decide) ?_
                  have hFc := pg_free hD hS hA
                  refine va_callv (va_runV (As := [.int 32]) (rest := []) ⟨hx, hb, hml, hown, hts⟩ (s_X14_add l dC dI cs ty gm L H.size F_82 pl (ρ + 10) rl 6000 zz 32 hW hL_pl hT_pl hs3 (by first | omega | assumption | exact Or.inl rfl)) ⟨callB_of 1 hts (gi kt_711) rfl rfl rfl (hts _ kt_676) (hts _ kt_712) (by decide +kernel) ⟨Nat.le_of_ble_eq_true rfl, Nat.le_of_ble_eq_true rfl⟩, (hts _ kt_713), (hts _ kt_714)⟩ ⟨fun a U g mk q => ⟨q.1, PTm.calling q.2⟩, pg_recv hK hP hL_pl hs3 (q := (RX14, TX14, 2)) rfl, fun U hU hWm => ⟨rfl, PTm.mk hU hWm hP hK hD hE hO⟩⟩ rfl rfl hl.1 rfl (lv_room (Nat.le_of_ble_eq_true rfl)) dX15_fieldPlain_197 ⟨by show _ + 0 ≤ 0; omega, by show _ + 0 ≤ 0; omega⟩) hS (fun q _ h => hFc q h) hFc (fun u t H1 locs ht hvm hw hB hz1 hk1 hS => ?_)
                  obtain ⟨F_128, hB1, hq_129⟩ := hB
                  obtain ⟨hP, hD, hO, hR⟩ := QTm.back hB1 ht hFc hR (fun q h => by simp only [List.mem_cons, List.not_mem_nil, or_false] at h ⊢; omega)
                  have hF_130 : F_128 h0 = .inr (15, (.ref ta) :: (.int (nI zt)) :: (.int (nI zo)) :: (.int (nI ze)) :: (.ref ou) :: (.ref so) :: (.ref ad) :: (.ref na) :: (.ref va) :: (.ref lc) :: (.ref dm) :: (.int (nI fm)) :: (.int (nI sn)) :: (.ref tg) :: (.int v14_31) :: (.int v15_32) :: (.ref pe) :: (.int v17_33) :: (.int v18_34) :: (.int v19_35) :: (.int v20_36) :: (.int v21_37) :: (.int v22_38) :: (.ref ml) :: (.ref bg) :: (.ref co) :: (.ref sp) :: (.ref nb0) :: (.ref nb1) :: (.ref nb2) :: (.int (nI nf)) :: (.int (nI bd)) :: (.int (nI mm)) :: (.int v33_39) :: (.ref pl) :: (.ref se) :: (.ref ke) :: (.ref wi) :: (.ref hs) :: (.ref mo) :: (.ref po) :: (.ref nu) :: (.ref pr) :: (.ref sq) :: (.ref xa) :: (.ref sa) :: (.ref n64) :: (.ref m64) :: (.ref ex) :: (.ref wh) :: (.ref sd) :: (.ref tk) :: (.int v52_40) :: (.int v53_41) :: (.int v54_42) :: (.ref hd) :: (.ref ak) :: (.ref ho) :: (.ref ot) :: []) := (hB1.2.2.2 h0 (by rw [hT_h0]; simp)).trans hF_88
                  have hF_131 : F_128 bg = .inl (cs 16, 21, .inl f_55) := (hB1.2.2.2 bg (by rw [ht_54]; simp)).trans hF_89
                  have hF_132 : F_128 co = .inl (cs 16, 21, .inl f_68) := (hB1.2.2.2 co (by rw [ht_67]; simp)).trans hF_90
                  have hF_133 : F_128 ml = .inl (cs 17, 3000, .inl f_99) := (hB1.2.2.2 ml (by rw [ht_96]; simp)).trans hF_100
                  generalize H1 = H at hP hS ⊢
                  refine lv_iconst (v := 0) hx hb dX15_fieldPlain_200 (by decide) ?_
                  refine lv_istore (lv' := [(7, .int 0), (8, .int (nI i)), (6, .int w6), (5, .int (nI kend)), (0, .ref h0), (1, .int (nI jf)), (2, .int x2), (3, .int x3), (4, .int x4)]) hx hb dX15_fieldPlain_201 hl (by decide) rfl (fun ls hl => ?_)
                  refine lv_iconst (v := 1) hx hb dX15_fieldPlain_203 (by decide) ?_
                  refine lv_istore (lv' := [(6, .int 1), (7, .int 0), (8, .int (nI i)), (5, .int (nI kend)), (0, .ref h0), (1, .int (nI jf)), (2, .int x2), (3, .int x3), (4, .int x4)]) hx hb dX15_fieldPlain_204 hl (by decide) rfl (fun ls hl => ?_)
                  refine lv_aload_n hx hb dX15_fieldPlain_206 rfl (lv_at hl 4 rfl) ?_
                  refine pg_get (ci := 15) (v := .ref pl) (C := RX15) (T := TX15) (N := 59) hx hb hts it_15 hown hK hP hL_h0 hF_130 rfl 34 (by decide) (hts _ kt_901) (fun _ h9 => h9) rfl dX15_fieldPlain_207 ?_
                  refine lv_aload_n hx hb dX15_fieldPlain_210 rfl (lv_at hl 4 rfl) ?_
                  refine pg_get (ci := 15) (v := .ref ml) (C := RX15) (T := TX15) (N := 59) hx hb hts it_15 hown hK hP hL_h0 hF_130 rfl 23 (by decide) (hts _ kt_887) (fun _ h9 => h9) rfl dX15_fieldPlain_211 ?_
                  refine lv_iload hx hb dX15_fieldPlain_214 (lv_at hl 2 rfl) ?_
                  refine pg_bald hx hb hK hP hi_95 1 hF_133 rfl (vp_in_nI (by omega) (by omega)) dX15_fieldPlain_216 ?_
                  refine lv_topi (fun x_134 ex_134 => ?_)
                  obtain rfl : x_134 = f_99 i := ex_134.trans (congrArg f_99 (show ((nI i) : Int32).toNatClampNeg = i from nI_clamp (by omega)))
                  have hFc := pg_free hD hS hA
                  refine va_callv (va_runV (As := [.int (f_99 i)]) (rest := []) ⟨hx, hb, hml, hown, hts⟩ (s_X14_add l dC dI cs ty gm L H.size F_128 pl (ρ + 10) rl 6000 (zz + 1) (f_99 i) hW hL_pl hT_pl hq_129 (by first | omega | assumption | exact Or.inl rfl)) ⟨callB_of 1 hts (gi kt_711) rfl rfl rfl (hts _ kt_676) (hts _ kt_712) (by decide +kernel) ⟨Nat.le_of_ble_eq_true rfl, Nat.le_of_ble_eq_true rfl⟩, (hts _ kt_713), (hts _ kt_714)⟩ ⟨fun a U g mk q => ⟨q.1, PTm.calling q.2⟩, pg_recv hK hP hL_pl hq_129 (q := (RX14, TX14, 2)) rfl, fun U hU hWm => ⟨rfl, PTm.mk hU hWm hP hK hD hE hO⟩⟩ rfl rfl hl.1 rfl (lv_room (Nat.le_of_ble_eq_true rfl)) dX15_fieldPlain_217 ⟨by show _ + 0 ≤ 0; omega, by show _ + 0 ≤ 0; omega⟩) hS (fun q _ h => hFc q h) hFc (fun u t H1 locs ht hvm hw hB hz1 hk1 hS => ?_)
                  obtain ⟨F_136, hB1, hq_137⟩ := hB
                  obtain ⟨hP, hD, hO, hR⟩ := QTm.back hB1 ht hFc hR (fun q h => by simp only [List.mem_cons, List.not_mem_nil, or_false] at h ⊢; omega)
                  have hF_138 : F_136 h0 = .inr (15, (.ref ta) :: (.int (nI zt)) :: (.int (nI zo)) :: (.int (nI ze)) :: (.ref ou) :: (.ref so) :: (.ref ad) :: (.ref na) :: (.ref va) :: (.ref lc) :: (.ref dm) :: (.int (nI fm)) :: (.int (nI sn)) :: (.ref tg) :: (.int v14_31) :: (.int v15_32) :: (.ref pe) :: (.int v17_33) :: (.int v18_34) :: (.int v19_35) :: (.int v20_36) :: (.int v21_37) :: (.int v22_38) :: (.ref ml) :: (.ref bg) :: (.ref co) :: (.ref sp) :: (.ref nb0) :: (.ref nb1) :: (.ref nb2) :: (.int (nI nf)) :: (.int (nI bd)) :: (.int (nI mm)) :: (.int v33_39) :: (.ref pl) :: (.ref se) :: (.ref ke) :: (.ref wi) :: (.ref hs) :: (.ref mo) :: (.ref po) :: (.ref nu) :: (.ref pr) :: (.ref sq) :: (.ref xa) :: (.ref sa) :: (.ref n64) :: (.ref m64) :: (.ref ex) :: (.ref wh) :: (.ref sd) :: (.ref tk) :: (.int v52_40) :: (.int v53_41) :: (.int v54_42) :: (.ref hd) :: (.ref ak) :: (.ref ho) :: (.ref ot) :: []) := (hB1.2.2.2 h0 (by rw [hT_h0]; simp)).trans hF_130
                  have hF_139 : F_136 bg = .inl (cs 16, 21, .inl f_55) := (hB1.2.2.2 bg (by rw [ht_54]; simp)).trans hF_131
                  have hF_140 : F_136 co = .inl (cs 16, 21, .inl f_68) := (hB1.2.2.2 co (by rw [ht_67]; simp)).trans hF_132
                  have hF_141 : F_136 ml = .inl (cs 17, 3000, .inl f_99) := (hB1.2.2.2 ml (by rw [ht_96]; simp)).trans hF_133
                  generalize H1 = H at hP hS ⊢
                  refine lv_iinc (v := (nI (i + 1))) (lv' := [(8, .int (nI (i + 1))), (6, .int 1), (7, .int 0), (5, .int (nI kend)), (0, .ref h0), (1, .int (nI jf)), (2, .int x2), (3, .int x3), (4, .int x4)]) hx hb dX15_fieldPlain_220 hl (k := 2) rfl (nI_1 _) (by decide) rfl (fun ls hl => ?_)
                  refine lv_goto (tgt := 127) hx hb dX15_fieldPlain_223 (by decide) ?_
                  refine W.widen (k := 0) (n := 0) (by omega) (by omega) ?_
                  exact ih_87 ((i + 1), 1, 0, (zz + 2)) F_136 (⟨⟨by omega, by omega⟩, Or.inl rfl, by omega, hq_137⟩) (by show kend - (i + 1) < kend - i; omega) hO hR _ _ hP hD hS ls (lv_sub hl [0, 2, 1, 3, 4, 5, 6, 7, 8] rfl)
            ·
              refine lv_iconst (v := 1) hx hb dX15_fieldPlain_175 (by decide) ?_
              refine lv_istore (lv' := [(7, .int 1), (8, .int (nI i)), (6, .int w6), (5, .int (nI kend)), (0, .ref h0), (1, .int (nI jf)), (2, .int x2), (3, .int x3), (4, .int x4)]) hx hb dX15_fieldPlain_176 hl (by decide) rfl (fun ls hl => ?_)
              refine lv_goto (tgt := 220) hx hb dX15_fieldPlain_178 (by decide) ?_
              refine lv_iinc (v := (nI (i + 1))) (lv' := [(8, .int (nI (i + 1))), (7, .int 1), (6, .int w6), (5, .int (nI kend)), (0, .ref h0), (1, .int (nI jf)), (2, .int x2), (3, .int x3), (4, .int x4)]) hx hb dX15_fieldPlain_220 hl (k := 1) rfl (nI_1 _) (by decide) rfl (fun ls hl => ?_)
              refine lv_goto (tgt := 127) hx hb dX15_fieldPlain_223 (by decide) ?_
              refine W.widen (k := 0) (n := 0) (by omega) (by omega) ?_
              exact ih_87 ((i + 1), w6, 1, zz) F_82 (⟨⟨by omega, by omega⟩, Or.inr (by omega), by omega, hs3⟩) (by show kend - (i + 1) < kend - i; omega) hO hR _ _ hP hD hS ls (lv_sub hl [0, 1, 2, 3, 4, 5, 6, 7, 8] rfl)
          ·
            refine lv_goto (tgt := 220) hx hb dX15_fieldPlain_159 (by decide) ?_
            refine lv_iinc (v := (nI (i + 1))) (lv' := [(8, .int (nI (i + 1))), (7, .int w7), (6, .int w6), (5, .int (nI kend)), (0, .ref h0), (1, .int (nI jf)), (2, .int x2), (3, .int x3), (4, .int x4)]) hx hb dX15_fieldPlain_220 hl (k := 0) rfl (nI_1 _) (by decide) rfl (fun ls hl => ?_)
            refine lv_goto (tgt := 127) hx hb dX15_fieldPlain_223 (by decide) ?_
            refine W.widen (k := 0) (n := 0) (by omega) (by omega) ?_
            exact ih_87 ((i + 1), w6, w7, zz) F_82 (⟨⟨by omega, by omega⟩, hq3.imp id (fun h => by omega), by omega, hs3⟩) (by show kend - (i + 1) < kend - i; omega) hO hR _ _ hP hD hS ls (lv_sub hl [0, 1, 2, 3, 4, 5, 6, 7, 8] rfl)
        ·
          refine lv_iload hx hb dX15_fieldPlain_140 (lv_at hl 0 rfl) ?_
          refine lv_iload hx hb dX15_fieldPlain_142 (lv_at hl 8 rfl) ?_
          refine lv_icmp_lt (tgt := 220) hx hb dX15_fieldPlain_144 (by decide) (fun c_142 => ?_) (fun c_142 => ?_)
          ·
            refine lv_iinc (v := (nI (i + 1))) (lv' := [(8, .int (nI (i + 1))), (7, .int w7), (6, .int w6), (5, .int (nI kend)), (0, .ref h0), (1, .int (nI jf)), (2, .int x2), (3, .int x3), (4, .int x4)]) hx hb dX15_fieldPlain_220 hl (k := 0) rfl (nI_1 _) (by decide) rfl (fun ls hl => ?_)
            refine lv_goto (tgt := 127) hx hb dX15_fieldPlain_223 (by decide) ?_
            refine W.widen (k := 0) (n := 0) (by omega) (by omega) ?_
            exact ih_87 ((i + 1), w6, w7, zz) F_82 (⟨⟨by omega, by omega⟩, hq3.imp id (fun h => by omega), by omega, hs3⟩) (by show kend - (i + 1) < kend - i; omega) hO hR _ _ hP hD hS ls (lv_sub hl [0, 1, 2, 3, 4, 5, 6, 7, 8] rfl)
          ·
            refine lv_aload_n hx hb dX15_fieldPlain_147 rfl (lv_at hl 4 rfl) ?_
            refine pg_get (ci := 15) (v := .ref ml) (C := RX15) (T := TX15) (N := 59) hx hb hts it_15 hown hK hP hL_h0 hF_88 rfl 23 (by decide) (hts _ kt_887) (fun _ h9 => h9) rfl dX15_fieldPlain_148 ?_
            refine lv_iload hx hb dX15_fieldPlain_151 (lv_at hl 0 rfl) ?_
            obtain ⟨hi_143, ht_144⟩ := hW.f_ml hL_h0 hT_h0
            obtain ⟨hq_145, hq_146⟩ := hW.octs hi_143 ht_144
            obtain ⟨f_147, hF_148, hq_149⟩ := hO.octs hi_143 ht_144
            refine pg_bald hx hb hK hP hi_143 1 hF_148 rfl (vp_in_nI (by omega) (by omega)) dX15_fieldPlain_153 ?_
            refine lv_topi (fun x_150 ex_150 => ?_)
            obtain rfl : x_150 = f_147 i := ex_150.trans (congrArg f_147 (show ((nI i) : Int32).toNatClampNeg = i from nI_clamp (by omega)))
            refine lv_bipush (v := 10) hx hb dX15_fieldPlain_154 (by decide) ?_
            refine lv_icmp_ne (tgt := 162) hx hb dX15_fieldPlain_156 (by decide) (fun c_151 => ?_) (fun c_151 => ?_)
            ·
              refine lv_aload_n hx hb dX15_fieldPlain_162 rfl (lv_at hl 4 rfl) ?_
              refine pg_get (ci := 15) (v := .ref ml) (C := RX15) (T := TX15) (N := 59) hx hb hts it_15 hown hK hP hL_h0 hF_88 rfl 23 (by decide) (hts _ kt_887) (fun _ h9 => h9) rfl dX15_fieldPlain_163 ?_
              refine lv_iload hx hb dX15_fieldPlain_166 (lv_at hl 0 rfl) ?_
              refine pg_bald hx hb hK hP hi_143 1 hF_148 rfl (vp_in_nI (by omega) (by omega)) dX15_fieldPlain_168 ?_
              refine lv_topi (fun x_152 ex_152 => ?_)
              obtain rfl : x_152 = f_147 i := ex_152.trans (congrArg f_147 (show ((nI i) : Int32).toNatClampNeg = i from nI_clamp (by omega)))
              have hFc := pg_free hD hS hA
              refine va_calli (va_runS (As := [.int (f_147 i)]) (rest := []) ⟨hx, hb, hml, hown, hts⟩ (s_X15_isWhite l dC dI cs ty gm L H.size F_82 (f_147 i) hW ) ⟨callB_of 1 hts (gi kt_715) rfl rfl rfl (hts _ kt_669) (hts _ kt_716) (by decide +kernel) ⟨Nat.le_of_ble_eq_true rfl, Nat.le_of_ble_eq_true rfl⟩, (hts _ kt_717)⟩ ⟨fun a U g mk q => ⟨q.1, PTm.calling q.2⟩, fun U hU hWm => ⟨rfl, PTm.mk hU hWm hP hK hD hE hO⟩⟩ rfl rfl hl.1 rfl (lv_room (Nat.le_of_ble_eq_true rfl)) dX15_fieldPlain_169 ⟨by show _ + 0 ≤ 0; omega, by show _ + 0 ≤ 0; omega⟩) hS (fun q _ h => hFc q h) hFc (fun r_153 u t H1 locs ht hvm hw hB hz1 hk1 hS => ?_)
              obtain ⟨F_154, hB1⟩ := hB
              obtain rfl : F_82 = F_154 := (funext (fun a => hB1.2.2.2 a List.not_mem_nil)).symm
              obtain ⟨hP, hD, hO, hR⟩ := QTm.back hB1 ht hFc hR (fun q h => absurd h List.not_mem_nil)
              generalize H1 = H at hP hS ⊢
              have hw : (r_153 = 0 ∨ r_153 = 1) := hw
              have hw_155 := hw
              refine lv_if_eq (tgt := 181) hx hb dX15_fieldPlain_172 (by decide) (fun c_156 => ?_) (fun c_156 => ?_)
              ·
                refine lv_iload hx hb dX15_fieldPlain_181 (lv_at hl 1 rfl) ?_
                refine lv_if_eq (tgt := 200) hx hb dX15_fieldPlain_183 (by decide) (fun c_157 => ?_) (fun c_157 => ?_)
                ·
                  refine lv_iconst (v := 0) hx hb dX15_fieldPlain_200 (by decide) ?_
                  refine lv_istore (lv' := [(7, .int 0), (8, .int (nI i)), (6, .int w6), (5, .int (nI kend)), (0, .ref h0), (1, .int (nI jf)), (2, .int x2), (3, .int x3), (4, .int x4)]) hx hb dX15_fieldPlain_201 hl (by decide) rfl (fun ls hl => ?_)
                  refine lv_iconst (v := 1) hx hb dX15_fieldPlain_203 (by decide) ?_
                  refine lv_istore (lv' := [(6, .int 1), (7, .int 0), (8, .int (nI i)), (5, .int (nI kend)), (0, .ref h0), (1, .int (nI jf)), (2, .int x2), (3, .int x3), (4, .int x4)]) hx hb dX15_fieldPlain_204 hl (by decide) rfl (fun ls hl => ?_)
                  refine lv_aload_n hx hb dX15_fieldPlain_206 rfl (lv_at hl 4 rfl) ?_
                  refine pg_get (ci := 15) (v := .ref pl) (C := RX15) (T := TX15) (N := 59) hx hb hts it_15 hown hK hP hL_h0 hF_88 rfl 34 (by decide) (hts _ kt_901) (fun _ h9 => h9) rfl dX15_fieldPlain_207 ?_
                  refine lv_aload_n hx hb dX15_fieldPlain_210 rfl (lv_at hl 4 rfl) ?_
                  refine pg_get (ci := 15) (v := .ref ml) (C := RX15) (T := TX15) (N := 59) hx hb hts it_15 hown hK hP hL_h0 hF_88 rfl 23 (by decide) (hts _ kt_887) (fun _ h9 => h9) rfl dX15_fieldPlain_211 ?_
                  refine lv_iload hx hb dX15_fieldPlain_214 (lv_at hl 2 rfl) ?_
                  refine pg_bald hx hb hK hP hi_143 1 hF_148 rfl (vp_in_nI (by omega) (by omega)) dX15_fieldPlain_216 ?_
                  refine lv_topi (fun x_158 ex_158 => ?_)
                  obtain rfl : x_158 = f_147 i := ex_158.trans (congrArg f_147 (show ((nI i) : Int32).toNatClampNeg = i from nI_clamp (by omega)))
                  have hFc := pg_free hD hS hA
                  refine va_callv (va_runV (As := [.int (f_147 i)]) (rest := []) ⟨hx, hb, hml, hown, hts⟩ (s_X14_add l dC dI cs ty gm L H.size F_82 pl (ρ + 10) rl 6000 zz (f_147 i) hW hL_pl hT_pl hs3 (by first | omega | assumption | exact Or.inl rfl)) ⟨callB_of 1 hts (gi kt_711) rfl rfl rfl (hts _ kt_676) (hts _ kt_712) (by decide +kernel) ⟨Nat.le_of_ble_eq_true rfl, Nat.le_of_ble_eq_true rfl⟩, (hts _ kt_713), (hts _ kt_714)⟩ ⟨fun a U g mk q => ⟨q.1, PTm.calling q.2⟩, pg_recv hK hP hL_pl hs3 (q := (RX14, TX14, 2)) rfl, fun U hU hWm => ⟨rfl, PTm.mk hU hWm hP hK hD hE hO⟩⟩ rfl rfl hl.1 rfl (lv_room (Nat.le_of_ble_eq_true rfl)) dX15_fieldPlain_217 ⟨by show _ + 0 ≤ 0; omega, by show _ + 0 ≤ 0; omega⟩) hS (fun q _ h => hFc q h) hFc (fun u t H1 locs ht hvm hw hB hz1 hk1 hS => ?_)
                  obtain ⟨F_160, hB1, hq_161⟩ := hB
                  obtain ⟨hP, hD, hO, hR⟩ := QTm.back hB1 ht hFc hR (fun q h => by simp only [List.mem_cons, List.not_mem_nil, or_false] at h ⊢; omega)
                  have hF_162 : F_160 h0 = .inr (15, (.ref ta) :: (.int (nI zt)) :: (.int (nI zo)) :: (.int (nI ze)) :: (.ref ou) :: (.ref so) :: (.ref ad) :: (.ref na) :: (.ref va) :: (.ref lc) :: (.ref dm) :: (.int (nI fm)) :: (.int (nI sn)) :: (.ref tg) :: (.int v14_31) :: (.int v15_32) :: (.ref pe) :: (.int v17_33) :: (.int v18_34) :: (.int v19_35) :: (.int v20_36) :: (.int v21_37) :: (.int v22_38) :: (.ref ml) :: (.ref bg) :: (.ref co) :: (.ref sp) :: (.ref nb0) :: (.ref nb1) :: (.ref nb2) :: (.int (nI nf)) :: (.int (nI bd)) :: (.int (nI mm)) :: (.int v33_39) :: (.ref pl) :: (.ref se) :: (.ref ke) :: (.ref wi) :: (.ref hs) :: (.ref mo) :: (.ref po) :: (.ref nu) :: (.ref pr) :: (.ref sq) :: (.ref xa) :: (.ref sa) :: (.ref n64) :: (.ref m64) :: (.ref ex) :: (.ref wh) :: (.ref sd) :: (.ref tk) :: (.int v52_40) :: (.int v53_41) :: (.int v54_42) :: (.ref hd) :: (.ref ak) :: (.ref ho) :: (.ref ot) :: []) := (hB1.2.2.2 h0 (by rw [hT_h0]; simp)).trans hF_88
                  have hF_163 : F_160 bg = .inl (cs 16, 21, .inl f_55) := (hB1.2.2.2 bg (by rw [ht_54]; simp)).trans hF_89
                  have hF_164 : F_160 co = .inl (cs 16, 21, .inl f_68) := (hB1.2.2.2 co (by rw [ht_67]; simp)).trans hF_90
                  have hF_165 : F_160 ml = .inl (cs 17, 3000, .inl f_147) := (hB1.2.2.2 ml (by rw [ht_144]; simp)).trans hF_148
                  generalize H1 = H at hP hS ⊢
                  refine lv_iinc (v := (nI (i + 1))) (lv' := [(8, .int (nI (i + 1))), (6, .int 1), (7, .int 0), (5, .int (nI kend)), (0, .ref h0), (1, .int (nI jf)), (2, .int x2), (3, .int x3), (4, .int x4)]) hx hb dX15_fieldPlain_220 hl (k := 2) rfl (nI_1 _) (by decide) rfl (fun ls hl => ?_)
                  refine lv_goto (tgt := 127) hx hb dX15_fieldPlain_223 (by decide) ?_
                  refine W.widen (k := 0) (n := 0) (by omega) (by omega) ?_
                  exact ih_87 ((i + 1), 1, 0, (zz + 1)) F_160 (⟨⟨by omega, by omega⟩, Or.inl rfl, by omega, hq_161⟩) (by show kend - (i + 1) < kend - i; omega) hO hR _ _ hP hD hS ls (lv_sub hl [0, 2, 1, 3, 4, 5, 6, 7, 8] rfl)
                ·
                  have hzz : zz + 1 ≤ (z + (gm 1 jf - gm 0 jf) + 1 + (i - (gm 1 jf + 1))) := hq3.resolve_left c_157
                  refine lv_iload hx hb dX15_fieldPlain_186 (lv_at hl 2 rfl) ?_
                  refine lv_if_eq (tgt := 200) hx hb dX15_fieldPlain_188 (by decide) (fun c_166 => ?_) (fun c_166 => ?_)
                  ·
                    refine lv_iconst (v := 0) hx hb dX15_fieldPlain_200 (by decide) ?_
                    refine lv_istore (lv' := [(7, .int 0), (8, .int (nI i)), (6, .int w6), (5, .int (nI kend)), (0, .ref h0), (1, .int (nI jf)), (2, .int x2), (3, .int x3), (4, .int x4)]) hx hb dX15_fieldPlain_201 hl (by decide) rfl (fun ls hl => ?_)
                    refine lv_iconst (v := 1) hx hb dX15_fieldPlain_203 (by decide) ?_
                    refine lv_istore (lv' := [(6, .int 1), (7, .int 0), (8, .int (nI i)), (5, .int (nI kend)), (0, .ref h0), (1, .int (nI jf)), (2, .int x2), (3, .int x3), (4, .int x4)]) hx hb dX15_fieldPlain_204 hl (by decide) rfl (fun ls hl => ?_)
                    refine lv_aload_n hx hb dX15_fieldPlain_206 rfl (lv_at hl 4 rfl) ?_
                    refine pg_get (ci := 15) (v := .ref pl) (C := RX15) (T := TX15) (N := 59) hx hb hts it_15 hown hK hP hL_h0 hF_88 rfl 34 (by decide) (hts _ kt_901) (fun _ h9 => h9) rfl dX15_fieldPlain_207 ?_
                    refine lv_aload_n hx hb dX15_fieldPlain_210 rfl (lv_at hl 4 rfl) ?_
                    refine pg_get (ci := 15) (v := .ref ml) (C := RX15) (T := TX15) (N := 59) hx hb hts it_15 hown hK hP hL_h0 hF_88 rfl 23 (by decide) (hts _ kt_887) (fun _ h9 => h9) rfl dX15_fieldPlain_211 ?_
                    refine lv_iload hx hb dX15_fieldPlain_214 (lv_at hl 2 rfl) ?_
                    refine pg_bald hx hb hK hP hi_143 1 hF_148 rfl (vp_in_nI (by omega) (by omega)) dX15_fieldPlain_216 ?_
                    refine lv_topi (fun x_167 ex_167 => ?_)
                    obtain rfl : x_167 = f_147 i := ex_167.trans (congrArg f_147 (show ((nI i) : Int32).toNatClampNeg = i from nI_clamp (by omega)))
                    have hFc := pg_free hD hS hA
                    refine va_callv (va_runV (As := [.int (f_147 i)]) (rest := []) ⟨hx, hb, hml, hown, hts⟩ (s_X14_add l dC dI cs ty gm L H.size F_82 pl (ρ + 10) rl 6000 zz (f_147 i) hW hL_pl hT_pl hs3 (by first | omega | assumption | exact Or.inl rfl)) ⟨callB_of 1 hts (gi kt_711) rfl rfl rfl (hts _ kt_676) (hts _ kt_712) (by decide +kernel) ⟨Nat.le_of_ble_eq_true rfl, Nat.le_of_ble_eq_true rfl⟩, (hts _ kt_713), (hts _ kt_714)⟩ ⟨fun a U g mk q => ⟨q.1, PTm.calling q.2⟩, pg_recv hK hP hL_pl hs3 (q := (RX14, TX14, 2)) rfl, fun U hU hWm => ⟨rfl, PTm.mk hU hWm hP hK hD hE hO⟩⟩ rfl rfl hl.1 rfl (lv_room (Nat.le_of_ble_eq_true rfl)) dX15_fieldPlain_217 ⟨by show _ + 0 ≤ 0; omega, by show _ + 0 ≤ 0; omega⟩) hS (fun q _ h => hFc q h) hFc (fun u t H1 locs ht hvm hw hB hz1 hk1 hS => ?_)
                    obtain ⟨F_169, hB1, hq_170⟩ := hB
                    obtain ⟨hP, hD, hO, hR⟩ := QTm.back hB1 ht hFc hR (fun q h => by simp only [List.mem_cons, List.not_mem_nil, or_false] at h ⊢; omega)
                    have hF_171 : F_169 h0 = .inr (15, (.ref ta) :: (.int (nI zt)) :: (.int (nI zo)) :: (.int (nI ze)) :: (.ref ou) :: (.ref so) :: (.ref ad) :: (.ref na) :: (.ref va) :: (.ref lc) :: (.ref dm) :: (.int (nI fm)) :: (.int (nI sn)) :: (.ref tg) :: (.int v14_31) :: (.int v15_32) :: (.ref pe) :: (.int v17_33) :: (.int v18_34) :: (.int v19_35) :: (.int v20_36) :: (.int v21_37) :: (.int v22_38) :: (.ref ml) :: (.ref bg) :: (.ref co) :: (.ref sp) :: (.ref nb0) :: (.ref nb1) :: (.ref nb2) :: (.int (nI nf)) :: (.int (nI bd)) :: (.int (nI mm)) :: (.int v33_39) :: (.ref pl) :: (.ref se) :: (.ref ke) :: (.ref wi) :: (.ref hs) :: (.ref mo) :: (.ref po) :: (.ref nu) :: (.ref pr) :: (.ref sq) :: (.ref xa) :: (.ref sa) :: (.ref n64) :: (.ref m64) :: (.ref ex) :: (.ref wh) :: (.ref sd) :: (.ref tk) :: (.int v52_40) :: (.int v53_41) :: (.int v54_42) :: (.ref hd) :: (.ref ak) :: (.ref ho) :: (.ref ot) :: []) := (hB1.2.2.2 h0 (by rw [hT_h0]; simp)).trans hF_88
                    have hF_172 : F_169 bg = .inl (cs 16, 21, .inl f_55) := (hB1.2.2.2 bg (by rw [ht_54]; simp)).trans hF_89
                    have hF_173 : F_169 co = .inl (cs 16, 21, .inl f_68) := (hB1.2.2.2 co (by rw [ht_67]; simp)).trans hF_90
                    have hF_174 : F_169 ml = .inl (cs 17, 3000, .inl f_147) := (hB1.2.2.2 ml (by rw [ht_144]; simp)).trans hF_148
                    generalize H1 = H at hP hS ⊢
                    refine lv_iinc (v := (nI (i + 1))) (lv' := [(8, .int (nI (i + 1))), (6, .int 1), (7, .int 0), (5, .int (nI kend)), (0, .ref h0), (1, .int (nI jf)), (2, .int x2), (3, .int x3), (4, .int x4)]) hx hb dX15_fieldPlain_220 hl (k := 2) rfl (nI_1 _) (by decide) rfl (fun ls hl => ?_)
                    refine lv_goto (tgt := 127) hx hb dX15_fieldPlain_223 (by decide) ?_
                    refine W.widen (k := 0) (n := 0) (by omega) (by omega) ?_
                    exact ih_87 ((i + 1), 1, 0, (zz + 1)) F_169 (⟨⟨by omega, by omega⟩, Or.inl rfl, by omega, hq_170⟩) (by show kend - (i + 1) < kend - i; omega) hO hR _ _ hP hD hS ls (lv_sub hl [0, 2, 1, 3, 4, 5, 6, 7, 8] rfl)
                  ·
                    refine lv_aload_n hx hb dX15_fieldPlain_191 rfl (lv_at hl 4 rfl) ?_
                    refine pg_get (ci := 15) (v := .ref pl) (C := RX15) (T := TX15) (N := 59) hx hb hts it_15 hown hK hP hL_h0 hF_88 rfl 34 (by decide) (hts _ kt_901) (fun _ h9 => h9) rfl dX15_fieldPlain_192 ?_
                    refine lv_bipush (v := 32) hx hb dX15_fieldPlain_195 (by decide) ?_
                    have hFc := pg_free hD hS hA
                    refine va_callv (va_runV (As := [.int 32]) (rest := []) ⟨hx, hb, hml, hown, hts⟩ (s_X14_add l dC dI cs ty gm L H.size F_82 pl (ρ + 10) rl 6000 zz 32 hW hL_pl hT_pl hs3 (by first | omega | assumption | exact Or.inl rfl)) ⟨callB_of 1 hts (gi kt_711) rfl rfl rfl (hts _ kt_676) (hts _ kt_712) (by decide +kernel) ⟨Nat.le_of_ble_eq_true rfl, Nat.le_of_ble_eq_true rfl⟩, (hts _ kt_713), (hts _ kt_714)⟩ ⟨fun a U g mk q => ⟨q.1, PTm.calling q.2⟩, pg_recv hK hP hL_pl hs3 (q := (RX14, TX14, 2)) rfl, fun U hU hWm => ⟨rfl, PTm.mk hU hWm hP hK hD hE hO⟩⟩ rfl rfl hl.1 rfl (lv_room (Nat.le_of_ble_eq_true rfl)) dX15_fieldPlain_197 ⟨by show _ + 0 ≤ 0; omega, by show _ + 0 ≤ 0; omega⟩) hS (fun q _ h => hFc q h) hFc (fun u t H1 locs ht hvm hw hB hz1 hk1 hS => ?_)
                    obtain ⟨F_176, hB1, hq_177⟩ := hB
                    obtain ⟨hP, hD, hO, hR⟩ := QTm.back hB1 ht hFc hR (fun q h => by simp only [List.mem_cons, List.not_mem_nil, or_false] at h ⊢; omega)
                    have hF_178 : F_176 h0 = .inr (15, (.ref ta) :: (.int (nI zt)) :: (.int (nI zo)) :: (.int (nI ze)) :: (.ref ou) :: (.ref so) :: (.ref ad) :: (.ref na) :: (.ref va) :: (.ref lc) :: (.ref dm) :: (.int (nI fm)) :: (.int (nI sn)) :: (.ref tg) :: (.int v14_31) :: (.int v15_32) :: (.ref pe) :: (.int v17_33) :: (.int v18_34) :: (.int v19_35) :: (.int v20_36) :: (.int v21_37) :: (.int v22_38) :: (.ref ml) :: (.ref bg) :: (.ref co) :: (.ref sp) :: (.ref nb0) :: (.ref nb1) :: (.ref nb2) :: (.int (nI nf)) :: (.int (nI bd)) :: (.int (nI mm)) :: (.int v33_39) :: (.ref pl) :: (.ref se) :: (.ref ke) :: (.ref wi) :: (.ref hs) :: (.ref mo) :: (.ref po) :: (.ref nu) :: (.ref pr) :: (.ref sq) :: (.ref xa) :: (.ref sa) :: (.ref n64) :: (.ref m64) :: (.ref ex) :: (.ref wh) :: (.ref sd) :: (.ref tk) :: (.int v52_40) :: (.int v53_41) :: (.int v54_42) :: (.ref hd) :: (.ref ak) :: (.ref ho) :: (.ref ot) :: []) := (hB1.2.2.2 h0 (by rw [hT_h0]; simp)).trans hF_88
                    have hF_179 : F_176 bg = .inl (cs 16, 21, .inl f_55) := (hB1.2.2.2 bg (by rw [ht_54]; simp)).trans hF_89
                    have hF_180 : F_176 co = .inl (cs 16, 21, .inl f_68) := (hB1.2.2.2 co (by rw [ht_67]; simp)).trans hF_90
                    have hF_181 : F_176 ml = .inl (cs 17, 3000, .inl f_147) := (hB1.2.2.2 ml (by rw [ht_144]; simp)).trans hF_148
                    generalize H1 = H at hP hS ⊢
                    refine lv_iconst (v := 0) hx hb dX15_fieldPlain_200 (by decide) ?_
                    refine lv_istore (lv' := [(7, .int 0), (8, .int (nI i)), (6, .int w6), (5, .int (nI kend)), (0, .ref h0), (1, .int (nI jf)), (2, .int x2), (3, .int x3), (4, .int x4)]) hx hb dX15_fieldPlain_201 hl (by decide) rfl (fun ls hl => ?_)
                    refine lv_iconst (v := 1) hx hb dX15_fieldPlain_203 (by decide) ?_
                    refine lv_istore (lv' := [(6, .int 1), (7, .int 0), (8, .int (nI i)), (5, .int (nI kend)), (0, .ref h0), (1, .int (nI jf)), (2, .int x2), (3, .int x3), (4, .int x4)]) hx hb dX15_fieldPlain_204 hl (by decide) rfl (fun ls hl => ?_)
                    refine lv_aload_n hx hb dX15_fieldPlain_206 rfl (lv_at hl 4 rfl) ?_
                    refine pg_get (ci := 15) (v := .ref pl) (C := RX15) (T := TX15) (N := 59) hx hb hts it_15 hown hK hP hL_h0 hF_178 rfl 34 (by decide) (hts _ kt_901) (fun _ h9 => h9) rfl dX15_fieldPlain_207 ?_
                    refine lv_aload_n hx hb dX15_fieldPlain_210 rfl (lv_at hl 4 rfl) ?_
                    refine pg_get (ci := 15) (v := .ref ml) (C := RX15) (T := TX15) (N := 59) hx hb hts it_15 hown hK hP hL_h0 hF_178 rfl 23 (by decide) (hts _ kt_887) (fun _ h9 => h9) rfl dX15_fieldPlain_211 ?_
                    refine lv_iload hx hb dX15_fieldPlain_214 (lv_at hl 2 rfl) ?_
                    refine pg_bald hx hb hK hP hi_143 1 hF_181 rfl (vp_in_nI (by omega) (by omega)) dX15_fieldPlain_216 ?_
                    refine lv_topi (fun x_182 ex_182 => ?_)
                    obtain rfl : x_182 = f_147 i := ex_182.trans (congrArg f_147 (show ((nI i) : Int32).toNatClampNeg = i from nI_clamp (by omega)))
                    have hFc := pg_free hD hS hA
                    refine va_callv (va_runV (As := [.int (f_147 i)]) (rest := []) ⟨hx, hb, hml, hown, hts⟩ (s_X14_add l dC dI cs ty gm L H.size F_176 pl (ρ + 10) rl 6000 (zz + 1) (f_147 i) hW hL_pl hT_pl hq_177 (by first | omega | assumption | exact Or.inl rfl)) ⟨callB_of 1 hts (gi kt_711) rfl rfl rfl (hts _ kt_676) (hts _ kt_712) (by decide +kernel) ⟨Nat.le_of_ble_eq_true rfl, Nat.le_of_ble_eq_true rfl⟩, (hts _ kt_713), (hts _ kt_714)⟩ ⟨fun a U g mk q => ⟨q.1, PTm.calling q.2⟩, pg_recv hK hP hL_pl hq_177 (q := (RX14, TX14, 2)) rfl, fun U hU hWm => ⟨rfl, PTm.mk hU hWm hP hK hD hE hO⟩⟩ rfl rfl hl.1 rfl (lv_room (Nat.le_of_ble_eq_true rfl)) dX15_fieldPlain_217 ⟨by show _ + 0 ≤ 0; omega, by show _ + 0 ≤ 0; omega⟩) hS (fun q _ h => hFc q h) hFc (fun u t H1 locs ht hvm hw hB hz1 hk1 hS => ?_)
                    obtain ⟨F_184, hB1, hq_185⟩ := hB
                    obtain ⟨hP, hD, hO, hR⟩ := QTm.back hB1 ht hFc hR (fun q h => by simp only [List.mem_cons, List.not_mem_nil, or_false] at h ⊢; omega)
                    have hF_186 : F_184 h0 = .inr (15, (.ref ta) :: (.int (nI zt)) :: (.int (nI zo)) :: (.int (nI ze)) :: (.ref ou) :: (.ref so) :: (.ref ad) :: (.ref na) :: (.ref va) :: (.ref lc) :: (.ref dm) :: (.int (nI fm)) :: (.int (nI sn)) :: (.ref tg) :: (.int v14_31) :: (.int v15_32) :: (.ref pe) :: (.int v17_33) :: (.int v18_34) :: (.int v19_35) :: (.int v20_36) :: (.int v21_37) :: (.int v22_38) :: (.ref ml) :: (.ref bg) :: (.ref co) :: (.ref sp) :: (.ref nb0) :: (.ref nb1) :: (.ref nb2) :: (.int (nI nf)) :: (.int (nI bd)) :: (.int (nI mm)) :: (.int v33_39) :: (.ref pl) :: (.ref se) :: (.ref ke) :: (.ref wi) :: (.ref hs) :: (.ref mo) :: (.ref po) :: (.ref nu) :: (.ref pr) :: (.ref sq) :: (.ref xa) :: (.ref sa) :: (.ref n64) :: (.ref m64) :: (.ref ex) :: (.ref wh) :: (.ref sd) :: (.ref tk) :: (.int v52_40) :: (.int v53_41) :: (.int v54_42) :: (.ref hd) :: (.ref ak) :: (.ref ho) :: (.ref ot) :: []) := (hB1.2.2.2 h0 (by rw [hT_h0]; simp)).trans hF_178
                    have hF_187 : F_184 bg = .inl (cs 16, 21, .inl f_55) := (hB1.2.2.2 bg (by rw [ht_54]; simp)).trans hF_179
                    have hF_188 : F_184 co = .inl (cs 16, 21, .inl f_68) := (hB1.2.2.2 co (by rw [ht_67]; simp)).trans hF_180
                    have hF_189 : F_184 ml = .inl (cs 17, 3000, .inl f_147) := (hB1.2.2.2 ml (by rw [ht_144]; simp)).trans hF_181
                    generalize H1 = H at hP hS ⊢
                    refine lv_iinc (v := (nI (i + 1))) (lv' := [(8, .int (nI (i + 1))), (6, .int 1), (7, .int 0), (5, .int (nI kend)), (0, .ref h0), (1, .int (nI jf)), (2, .int x2), (3, .int x3), (4, .int x4)]) hx hb dX15_fieldPlain_220 hl (k := 2) rfl (nI_1 _) (by decide) rfl (fun ls hl => ?_)
                    refine lv_goto (tgt := 127) hx hb dX15_fieldPlain_223 (by decide) ?_
                    refine W.widen (k := 0) (n := 0) (by omega) (by omega) ?_
                    exact ih_87 ((i + 1), 1, 0, (zz + 2)) F_184 (⟨⟨by omega, by omega⟩, Or.inl rfl, by omega, hq_185⟩) (by show kend - (i + 1) < kend - i; omega) hO hR _ _ hP hD hS ls (lv_sub hl [0, 2, 1, 3, 4, 5, 6, 7, 8] rfl)
              ·
                refine lv_iconst (v := 1) hx hb dX15_fieldPlain_175 (by decide) ?_
                refine lv_istore (lv' := [(7, .int 1), (8, .int (nI i)), (6, .int w6), (5, .int (nI kend)), (0, .ref h0), (1, .int (nI jf)), (2, .int x2), (3, .int x3), (4, .int x4)]) hx hb dX15_fieldPlain_176 hl (by decide) rfl (fun ls hl => ?_)
                refine lv_goto (tgt := 220) hx hb dX15_fieldPlain_178 (by decide) ?_
                refine lv_iinc (v := (nI (i + 1))) (lv' := [(8, .int (nI (i + 1))), (7, .int 1), (6, .int w6), (5, .int (nI kend)), (0, .ref h0), (1, .int (nI jf)), (2, .int x2), (3, .int x3), (4, .int x4)]) hx hb dX15_fieldPlain_220 hl (k := 1) rfl (nI_1 _) (by decide) rfl (fun ls hl => ?_)
                refine lv_goto (tgt := 127) hx hb dX15_fieldPlain_223 (by decide) ?_
                refine W.widen (k := 0) (n := 0) (by omega) (by omega) ?_
                exact ih_87 ((i + 1), w6, 1, zz) F_82 (⟨⟨by omega, by omega⟩, Or.inr (by omega), by omega, hs3⟩) (by show kend - (i + 1) < kend - i; omega) hO hR _ _ hP hD hS ls (lv_sub hl [0, 1, 2, 3, 4, 5, 6, 7, 8] rfl)
            ·
              refine lv_goto (tgt := 220) hx hb dX15_fieldPlain_159 (by decide) ?_
              refine lv_iinc (v := (nI (i + 1))) (lv' := [(8, .int (nI (i + 1))), (7, .int w7), (6, .int w6), (5, .int (nI kend)), (0, .ref h0), (1, .int (nI jf)), (2, .int x2), (3, .int x3), (4, .int x4)]) hx hb dX15_fieldPlain_220 hl (k := 0) rfl (nI_1 _) (by decide) rfl (fun ls hl => ?_)
              refine lv_goto (tgt := 127) hx hb dX15_fieldPlain_223 (by decide) ?_
              refine W.widen (k := 0) (n := 0) (by omega) (by omega) ?_
              exact ih_87 ((i + 1), w6, w7, zz) F_82 (⟨⟨by omega, by omega⟩, hq3.imp id (fun h => by omega), by omega, hs3⟩) (by show kend - (i + 1) < kend - i; omega) hO hR _ _ hP hD hS ls (lv_sub hl [0, 1, 2, 3, 4, 5, 6, 7, 8] rfl)
    ·
      have hi_190 : j < (gm 1 jf) := ltN (N := (gm 1 jf)) c_72
      refine lv_aload_n hx hb dX15_fieldPlain_79 rfl (lv_at hl 2 rfl) ?_
      refine pg_get (ci := 15) (v := .ref pl) (C := RX15) (T := TX15) (N := 59) hx hb hts it_15 hown hK hP hL_h0 hF_64 rfl 34 (by decide) (hts _ kt_901) (fun _ h9 => h9) rfl dX15_fieldPlain_80 ?_
      refine lv_aload_n hx hb dX15_fieldPlain_83 rfl (lv_at hl 2 rfl) ?_
      refine pg_get (ci := 15) (v := .ref ml) (C := RX15) (T := TX15) (N := 59) hx hb hts it_15 hown hK hP hL_h0 hF_64 rfl 23 (by decide) (hts _ kt_887) (fun _ h9 => h9) rfl dX15_fieldPlain_84 ?_
      refine lv_iload hx hb dX15_fieldPlain_87 (lv_at hl 0 rfl) ?_
      obtain ⟨hi_191, ht_192⟩ := hW.f_ml hL_h0 hT_h0
      obtain ⟨hq_193, hq_194⟩ := hW.octs hi_191 ht_192
      obtain ⟨f_195, hF_196, hq_197⟩ := hO.octs hi_191 ht_192
      refine pg_bald hx hb hK hP hi_191 1 hF_196 rfl (vp_in_nI (by omega) (by omega)) dX15_fieldPlain_89 ?_
      refine lv_topi (fun x_198 ex_198 => ?_)
      obtain rfl : x_198 = f_195 j := ex_198.trans (congrArg f_195 (show ((nI j) : Int32).toNatClampNeg = j from nI_clamp (by omega)))
      have hFc := pg_free hD hS hA
      refine va_calli (va_runS (As := [.int (f_195 j)]) (rest := [.ref pl]) ⟨hx, hb, hml, hown, hts⟩ (s_X15_small l dC dI cs ty gm L H.size F_59 (f_195 j) hW ) ⟨callB_of 1 hts (gi kt_697) rfl rfl rfl (hts _ kt_669) (hts _ kt_698) (by decide +kernel) ⟨Nat.le_of_ble_eq_true rfl, Nat.le_of_ble_eq_true rfl⟩, (hts _ kt_699)⟩ ⟨fun a U g mk q => ⟨q.1, PTm.calling q.2⟩, fun U hU hWm => ⟨rfl, PTm.mk hU hWm hP hK hD hE hO⟩⟩ rfl rfl hl.1 rfl (lv_room (Nat.le_of_ble_eq_true rfl)) dX15_fieldPlain_90 ⟨by show _ + 0 ≤ 0; omega, by show _ + 0 ≤ 0; omega⟩) hS (fun q _ h => hFc q h) hFc (fun r_199 u t H1 locs ht hvm hw hB hz1 hk1 hS => ?_)
      obtain ⟨F_200, hB1⟩ := hB
      obtain rfl : F_59 = F_200 := (funext (fun a => hB1.2.2.2 a List.not_mem_nil)).symm
      obtain ⟨hP, hD, hO, hR⟩ := QTm.back hB1 ht hFc hR (fun q h => absurd h List.not_mem_nil)
      generalize H1 = H at hP hS ⊢
      have hw : True := hw
      have hw_201 := hw
      have hFc := pg_free hD hS hA
      refine va_callv (va_runV (As := [.int r_199]) (rest := []) ⟨hx, hb, hml, hown, hts⟩ (s_X14_add l dC dI cs ty gm L H.size F_59 pl (ρ + 10) rl 6000 zz r_199 hW hL_pl hT_pl hr2 (by first | omega | assumption | exact Or.inl rfl)) ⟨callB_of 1 hts (gi kt_711) rfl rfl rfl (hts _ kt_676) (hts _ kt_712) (by decide +kernel) ⟨Nat.le_of_ble_eq_true rfl, Nat.le_of_ble_eq_true rfl⟩, (hts _ kt_713), (hts _ kt_714)⟩ ⟨fun a U g mk q => ⟨q.1, PTm.calling q.2⟩, pg_recv hK hP hL_pl hr2 (q := (RX14, TX14, 2)) rfl, fun U hU hWm => ⟨rfl, PTm.mk hU hWm hP hK hD hE hO⟩⟩ rfl rfl hl.1 rfl (lv_room (Nat.le_of_ble_eq_true rfl)) dX15_fieldPlain_93 ⟨by show _ + 0 ≤ 0; omega, by show _ + 0 ≤ 0; omega⟩) hS (fun q _ h => hFc q h) hFc (fun u t H1 locs ht hvm hw hB hz1 hk1 hS => ?_)
      obtain ⟨F_203, hB1, hq_204⟩ := hB
      obtain ⟨hP, hD, hO, hR⟩ := QTm.back hB1 ht hFc hR (fun q h => by simp only [List.mem_cons, List.not_mem_nil, or_false] at h ⊢; omega)
      have hF_205 : F_203 h0 = .inr (15, (.ref ta) :: (.int (nI zt)) :: (.int (nI zo)) :: (.int (nI ze)) :: (.ref ou) :: (.ref so) :: (.ref ad) :: (.ref na) :: (.ref va) :: (.ref lc) :: (.ref dm) :: (.int (nI fm)) :: (.int (nI sn)) :: (.ref tg) :: (.int v14_31) :: (.int v15_32) :: (.ref pe) :: (.int v17_33) :: (.int v18_34) :: (.int v19_35) :: (.int v20_36) :: (.int v21_37) :: (.int v22_38) :: (.ref ml) :: (.ref bg) :: (.ref co) :: (.ref sp) :: (.ref nb0) :: (.ref nb1) :: (.ref nb2) :: (.int (nI nf)) :: (.int (nI bd)) :: (.int (nI mm)) :: (.int v33_39) :: (.ref pl) :: (.ref se) :: (.ref ke) :: (.ref wi) :: (.ref hs) :: (.ref mo) :: (.ref po) :: (.ref nu) :: (.ref pr) :: (.ref sq) :: (.ref xa) :: (.ref sa) :: (.ref n64) :: (.ref m64) :: (.ref ex) :: (.ref wh) :: (.ref sd) :: (.ref tk) :: (.int v52_40) :: (.int v53_41) :: (.int v54_42) :: (.ref hd) :: (.ref ak) :: (.ref ho) :: (.ref ot) :: []) := (hB1.2.2.2 h0 (by rw [hT_h0]; simp)).trans hF_64
      have hF_206 : F_203 bg = .inl (cs 16, 21, .inl f_55) := (hB1.2.2.2 bg (by rw [ht_54]; simp)).trans hF_65
      have hF_207 : F_203 co = .inl (cs 16, 21, .inl f_68) := (hB1.2.2.2 co (by rw [ht_67]; simp)).trans hF_69
      have hF_208 : F_203 ml = .inl (cs 17, 3000, .inl f_195) := (hB1.2.2.2 ml (by rw [ht_192]; simp)).trans hF_196
      generalize H1 = H at hP hS ⊢
      refine lv_iinc (v := (nI (j + 1))) (lv' := [(6, .int (nI (j + 1))), (5, .int (nI kend)), (0, .ref h0), (1, .int (nI jf)), (2, .int x2), (3, .int x3), (4, .int x4)]) hx hb dX15_fieldPlain_96 hl (k := 0) rfl (nI_1 _) (by decide) rfl (fun ls hl => ?_)
      refine lv_goto (tgt := 68) hx hb dX15_fieldPlain_99 (by decide) ?_
      refine W.widen (k := 0) (n := 0) (by omega) (by omega) ?_
      exact ih_63 ((j + 1), (zz + 1)) F_203 (⟨⟨by omega, by omega⟩, by omega, hq_204⟩) (by show gm 1 jf - (j + 1) < gm 1 jf - j; omega) hO hR _ _ hP hD hS ls (lv_sub hl [0, 1, 2, 3, 4, 5, 6] rfl)
  ·
    refine lv_aload_n hx hb dX15_fieldPlain_11 rfl (lv_at hl 1 rfl) ?_
    refine pg_get (ci := 15) (v := .ref bg) (C := RX15) (T := TX15) (N := 59) hx hb hts it_15 hown hK hP hL_h0 hF_43 rfl 24 (by decide) (hts _ kt_888) (fun _ h9 => h9) rfl dX15_fieldPlain_12 ?_
    refine lv_iload_n hx hb dX15_fieldPlain_15 rfl (lv_at hl 2 rfl) ?_
    obtain ⟨hi_209, ht_210⟩ := hW.f_bg hL_h0 hT_h0
    obtain ⟨f_211, hF_212, hq_213⟩ := hO.pos hi_209 ht_210
    refine pg_iald hx hb hK hP hi_209 0 hF_212 rfl (vp_in_nI (by omega) (by omega)) dX15_fieldPlain_16 ?_
    refine lv_topi (fun x_214 ex_214 => ?_)
    obtain rfl : x_214 = (nI (gm 0 jf)) := ex_214.trans (by rw [show ((nI jf) : Int32) = nI jf from rfl, nI_clamp (by omega)]; exact hq_213 jf (by omega))
    have hgbx_214 := hgB 0 jf
    refine lv_istore (lv' := [(6, .int (nI (gm 0 jf))), (5, .int (nI kend)), (0, .ref h0), (1, .int (nI jf)), (2, .int x2), (3, .int x3), (4, .int x4)]) hx hb dX15_fieldPlain_17 hl (by decide) rfl (fun ls hl => ?_)
    refine W.widen (k := 0) (n := 0) (by omega) (by omega) ?_
    have hF_216 : F h0 = .inr (15, (.ref ta) :: (.int (nI zt)) :: (.int (nI zo)) :: (.int (nI ze)) :: (.ref ou) :: (.ref so) :: (.ref ad) :: (.ref na) :: (.ref va) :: (.ref lc) :: (.ref dm) :: (.int (nI fm)) :: (.int (nI sn)) :: (.ref tg) :: (.int v14_31) :: (.int v15_32) :: (.ref pe) :: (.int v17_33) :: (.int v18_34) :: (.int v19_35) :: (.int v20_36) :: (.int v21_37) :: (.int v22_38) :: (.ref ml) :: (.ref bg) :: (.ref co) :: (.ref sp) :: (.ref nb0) :: (.ref nb1) :: (.ref nb2) :: (.int (nI nf)) :: (.int (nI bd)) :: (.int (nI mm)) :: (.int v33_39) :: (.ref pl) :: (.ref se) :: (.ref ke) :: (.ref wi) :: (.ref hs) :: (.ref mo) :: (.ref po) :: (.ref nu) :: (.ref pr) :: (.ref sq) :: (.ref xa) :: (.ref sa) :: (.ref n64) :: (.ref m64) :: (.ref ex) :: (.ref wh) :: (.ref sd) :: (.ref tk) :: (.int v52_40) :: (.int v53_41) :: (.int v54_42) :: (.ref hd) :: (.ref ak) :: (.ref ho) :: (.ref ot) :: []) := (hR h0 (by rw [hT_h0]; simp)).symm.trans hF_43
    have hF_217 : F bg = .inl (cs 16, 21, .inl f_211) := (hR bg (by rw [ht_210]; simp)).symm.trans hF_212
    refine pl_loopm (σ := Nat × Nat) A (dC, dI) cs ty gm L [ρ + 10] F 19 9 (fun (j, zz) => [(6, .int (nI j)), (5, .int (nI kend)), (0, .ref h0), (1, .int (nI jf)), (2, .int x2), (3, .int x3), (4, .int x4)]) (fun (j, zz) => []) (fun (j, zz) FF => (gm 0 jf ≤ j ∧ j ≤ kend) ∧ zz ≤ z + (j - gm 0 jf) ∧ FF pl = .inr (14, [.ref rl, .int (nI zz)])) (fun (j, zz) => kend - j) ?_ ((gm 0 jf), z) F (⟨⟨by omega, by omega⟩, by omega, hFl⟩) hO hR _ _ hP hD hS ls (lv_sub hl [0, 1, 2, 3, 4, 5, 6] rfl)
    rintro ⟨j, zz⟩ F_215 hv_218 hO hR ih_219 H locs hP hD hS ls hl
    have hl : lv_has ls 9 [(6, .int (nI j)), (5, .int (nI kend)), (0, .ref h0), (1, .int (nI jf)), (2, .int x2), (3, .int x3), (4, .int x4)] := hl
    have hv_218 : (gm 0 jf ≤ j ∧ j ≤ kend) ∧ zz ≤ z + (j - gm 0 jf) ∧ F_215 pl = .inr (14, [.ref rl, .int (nI zz)]) := hv_218
    refine W.eq (g2 := F0 m 19 ls []) rfl ?_
    have hF_220 : F_215 h0 = .inr (15, (.ref ta) :: (.int (nI zt)) :: (.int (nI zo)) :: (.int (nI ze)) :: (.ref ou) :: (.ref so) :: (.ref ad) :: (.ref na) :: (.ref va) :: (.ref lc) :: (.ref dm) :: (.int (nI fm)) :: (.int (nI sn)) :: (.ref tg) :: (.int v14_31) :: (.int v15_32) :: (.ref pe) :: (.int v17_33) :: (.int v18_34) :: (.int v19_35) :: (.int v20_36) :: (.int v21_37) :: (.int v22_38) :: (.ref ml) :: (.ref bg) :: (.ref co) :: (.ref sp) :: (.ref nb0) :: (.ref nb1) :: (.ref nb2) :: (.int (nI nf)) :: (.int (nI bd)) :: (.int (nI mm)) :: (.int v33_39) :: (.ref pl) :: (.ref se) :: (.ref ke) :: (.ref wi) :: (.ref hs) :: (.ref mo) :: (.ref po) :: (.ref nu) :: (.ref pr) :: (.ref sq) :: (.ref xa) :: (.ref sa) :: (.ref n64) :: (.ref m64) :: (.ref ex) :: (.ref wh) :: (.ref sd) :: (.ref tk) :: (.int v52_40) :: (.int v53_41) :: (.int v54_42) :: (.ref hd) :: (.ref ak) :: (.ref ho) :: (.ref ot) :: []) := (hR h0 (by rw [hT_h0]; simp)).trans hF_216
    have hF_221 : F_215 bg = .inl (cs 16, 21, .inl f_211) := (hR bg (by rw [ht_210]; simp)).trans hF_217
    obtain ⟨hp1, hq1, hr1⟩ := hv_218
    refine lv_iload hx hb dX15_fieldPlain_19 (lv_at hl 0 rfl) ?_
    refine lv_iload hx hb dX15_fieldPlain_21 (lv_at hl 1 rfl) ?_
    refine lv_icmp_ge (tgt := 59) hx hb dX15_fieldPlain_23 (by decide) (fun c_222 => ?_) (fun c_222 => ?_)
    ·
      have hi_223 : kend ≤ j := leN (N := kend) c_222
      refine W.widen (k := 0) (n := 0) (by omega) (by omega) ?_
      exact W.vret hx hb hr (fun t ht hWm => ⟨⟨(), rfl, trivial, ⟨F_215, zz, QTm.mk ht hP hD hO hR, hr1, by omega⟩⟩, hS.F ht⟩) hS.2.2 dX15_fieldPlain_59
    ·
      have hi_224 : j < kend := ltN (N := kend) c_222
      have hF_227 : F h0 = .inr (15, (.ref ta) :: (.int (nI zt)) :: (.int (nI zo)) :: (.int (nI ze)) :: (.ref ou) :: (.ref so) :: (.ref ad) :: (.ref na) :: (.ref va) :: (.ref lc) :: (.ref dm) :: (.int (nI fm)) :: (.int (nI sn)) :: (.ref tg) :: (.int v14_31) :: (.int v15_32) :: (.ref pe) :: (.int v17_33) :: (.int v18_34) :: (.int v19_35) :: (.int v20_36) :: (.int v21_37) :: (.int v22_38) :: (.ref ml) :: (.ref bg) :: (.ref co) :: (.ref sp) :: (.ref nb0) :: (.ref nb1) :: (.ref nb2) :: (.int (nI nf)) :: (.int (nI bd)) :: (.int (nI mm)) :: (.int v33_39) :: (.ref pl) :: (.ref se) :: (.ref ke) :: (.ref wi) :: (.ref hs) :: (.ref mo) :: (.ref po) :: (.ref nu) :: (.ref pr) :: (.ref sq) :: (.ref xa) :: (.ref sa) :: (.ref n64) :: (.ref m64) :: (.ref ex) :: (.ref wh) :: (.ref sd) :: (.ref tk) :: (.int v52_40) :: (.int v53_41) :: (.int v54_42) :: (.ref hd) :: (.ref ak) :: (.ref ho) :: (.ref ot) :: []) := (hR h0 (by rw [hT_h0]; simp)).symm.trans hF_220
      have hF_228 : F bg = .inl (cs 16, 21, .inl f_211) := (hR bg (by rw [ht_210]; simp)).symm.trans hF_221
      refine W.widen (k := 0) (n := 0) (by omega) (by omega) ?_
      refine pl_cutm (σ := Nat) A (dC, dI) cs ty gm L [ρ + 10] F 53 9 (fun zy => [(6, .int (nI j)), (5, .int (nI kend)), (0, .ref h0), (1, .int (nI jf)), (2, .int x2), (3, .int x3), (4, .int x4)]) (fun zy => []) (fun zy FF => zy ≤ z + (j + 1 - gm 0 jf) ∧ FF pl = .inr (14, [.ref rl, .int (nI zy)])) ?_ (fun jn_225 => ?_)
      ·
        rintro zy F_226 hv_229 hO hR H locs hP hD hS ls hl
        have hl : lv_has ls 9 [(6, .int (nI j)), (5, .int (nI kend)), (0, .ref h0), (1, .int (nI jf)), (2, .int x2), (3, .int x3), (4, .int x4)] := hl
        have hv_229 : zy ≤ z + (j + 1 - gm 0 jf) ∧ F_226 pl = .inr (14, [.ref rl, .int (nI zy)]) := hv_229
        refine W.eq (g2 := F0 m 53 ls []) rfl ?_
        have hF_230 : F_226 h0 = .inr (15, (.ref ta) :: (.int (nI zt)) :: (.int (nI zo)) :: (.int (nI ze)) :: (.ref ou) :: (.ref so) :: (.ref ad) :: (.ref na) :: (.ref va) :: (.ref lc) :: (.ref dm) :: (.int (nI fm)) :: (.int (nI sn)) :: (.ref tg) :: (.int v14_31) :: (.int v15_32) :: (.ref pe) :: (.int v17_33) :: (.int v18_34) :: (.int v19_35) :: (.int v20_36) :: (.int v21_37) :: (.int v22_38) :: (.ref ml) :: (.ref bg) :: (.ref co) :: (.ref sp) :: (.ref nb0) :: (.ref nb1) :: (.ref nb2) :: (.int (nI nf)) :: (.int (nI bd)) :: (.int (nI mm)) :: (.int v33_39) :: (.ref pl) :: (.ref se) :: (.ref ke) :: (.ref wi) :: (.ref hs) :: (.ref mo) :: (.ref po) :: (.ref nu) :: (.ref pr) :: (.ref sq) :: (.ref xa) :: (.ref sa) :: (.ref n64) :: (.ref m64) :: (.ref ex) :: (.ref wh) :: (.ref sd) :: (.ref tk) :: (.int v52_40) :: (.int v53_41) :: (.int v54_42) :: (.ref hd) :: (.ref ak) :: (.ref ho) :: (.ref ot) :: []) := (hR h0 (by rw [hT_h0]; simp)).trans hF_227
        have hF_231 : F_226 bg = .inl (cs 16, 21, .inl f_211) := (hR bg (by rw [ht_210]; simp)).trans hF_228
        obtain ⟨hy1, hy2⟩ := hv_229
        refine lv_iinc (v := (nI (j + 1))) (lv' := [(6, .int (nI (j + 1))), (5, .int (nI kend)), (0, .ref h0), (1, .int (nI jf)), (2, .int x2), (3, .int x3), (4, .int x4)]) hx hb dX15_fieldPlain_53 hl (k := 0) rfl (nI_1 _) (by decide) rfl (fun ls hl => ?_)
        refine lv_goto (tgt := 19) hx hb dX15_fieldPlain_56 (by decide) ?_
        refine W.widen (k := 0) (n := 0) (by omega) (by omega) ?_
        exact ih_219 ((j + 1), zy) F_226 (⟨⟨by omega, by omega⟩, by omega, hy2⟩) (by show kend - (j + 1) < kend - j; omega) hO hR _ _ hP hD hS ls (lv_sub hl [0, 1, 2, 3, 4, 5, 6] rfl)
      ·
        refine lv_iload hx hb dX15_fieldPlain_26 (lv_at hl 0 rfl) ?_
        refine lv_iload_n hx hb dX15_fieldPlain_28 rfl (lv_at hl 5 rfl) ?_
        refine lv_icmp_lt (tgt := 39) hx hb dX15_fieldPlain_29 (by decide) (fun c_232 => ?_) (fun c_232 => ?_)
        ·
          refine lv_aload_n hx hb dX15_fieldPlain_39 rfl (lv_at hl 2 rfl) ?_
          refine pg_get (ci := 15) (v := .ref pl) (C := RX15) (T := TX15) (N := 59) hx hb hts it_15 hown hK hP hL_h0 hF_220 rfl 34 (by decide) (hts _ kt_901) (fun _ h9 => h9) rfl dX15_fieldPlain_40 ?_
          refine lv_aload_n hx hb dX15_fieldPlain_43 rfl (lv_at hl 2 rfl) ?_
          refine pg_get (ci := 15) (v := .ref ml) (C := RX15) (T := TX15) (N := 59) hx hb hts it_15 hown hK hP hL_h0 hF_220 rfl 23 (by decide) (hts _ kt_887) (fun _ h9 => h9) rfl dX15_fieldPlain_44 ?_
          refine lv_iload hx hb dX15_fieldPlain_47 (lv_at hl 0 rfl) ?_
          obtain ⟨hi_233, ht_234⟩ := hW.f_ml hL_h0 hT_h0
          obtain ⟨hq_235, hq_236⟩ := hW.octs hi_233 ht_234
          obtain ⟨f_237, hF_238, hq_239⟩ := hO.octs hi_233 ht_234
          refine pg_bald hx hb hK hP hi_233 1 hF_238 rfl (vp_in_nI (by omega) (by omega)) dX15_fieldPlain_49 ?_
          refine lv_topi (fun x_240 ex_240 => ?_)
          obtain rfl : x_240 = f_237 j := ex_240.trans (congrArg f_237 (show ((nI j) : Int32).toNatClampNeg = j from nI_clamp (by omega)))
          have hFc := pg_free hD hS hA
          refine va_callv (va_runV (As := [.int (f_237 j)]) (rest := []) ⟨hx, hb, hml, hown, hts⟩ (s_X14_add l dC dI cs ty gm L H.size F_215 pl (ρ + 10) rl 6000 zz (f_237 j) hW hL_pl hT_pl hr1 (by first | omega | assumption | exact Or.inl rfl)) ⟨callB_of 1 hts (gi kt_711) rfl rfl rfl (hts _ kt_676) (hts _ kt_712) (by decide +kernel) ⟨Nat.le_of_ble_eq_true rfl, Nat.le_of_ble_eq_true rfl⟩, (hts _ kt_713), (hts _ kt_714)⟩ ⟨fun a U g mk q => ⟨q.1, PTm.calling q.2⟩, pg_recv hK hP hL_pl hr1 (q := (RX14, TX14, 2)) rfl, fun U hU hWm => ⟨rfl, PTm.mk hU hWm hP hK hD hE hO⟩⟩ rfl rfl hl.1 rfl (lv_room (Nat.le_of_ble_eq_true rfl)) dX15_fieldPlain_50 ⟨by show _ + 0 ≤ 0; omega, by show _ + 0 ≤ 0; omega⟩) hS (fun q _ h => hFc q h) hFc (fun u t H1 locs ht hvm hw hB hz1 hk1 hS => ?_)
          obtain ⟨F_242, hB1, hq_243⟩ := hB
          obtain ⟨hP, hD, hO, hR⟩ := QTm.back hB1 ht hFc hR (fun q h => by simp only [List.mem_cons, List.not_mem_nil, or_false] at h ⊢; omega)
          have hF_244 : F_242 h0 = .inr (15, (.ref ta) :: (.int (nI zt)) :: (.int (nI zo)) :: (.int (nI ze)) :: (.ref ou) :: (.ref so) :: (.ref ad) :: (.ref na) :: (.ref va) :: (.ref lc) :: (.ref dm) :: (.int (nI fm)) :: (.int (nI sn)) :: (.ref tg) :: (.int v14_31) :: (.int v15_32) :: (.ref pe) :: (.int v17_33) :: (.int v18_34) :: (.int v19_35) :: (.int v20_36) :: (.int v21_37) :: (.int v22_38) :: (.ref ml) :: (.ref bg) :: (.ref co) :: (.ref sp) :: (.ref nb0) :: (.ref nb1) :: (.ref nb2) :: (.int (nI nf)) :: (.int (nI bd)) :: (.int (nI mm)) :: (.int v33_39) :: (.ref pl) :: (.ref se) :: (.ref ke) :: (.ref wi) :: (.ref hs) :: (.ref mo) :: (.ref po) :: (.ref nu) :: (.ref pr) :: (.ref sq) :: (.ref xa) :: (.ref sa) :: (.ref n64) :: (.ref m64) :: (.ref ex) :: (.ref wh) :: (.ref sd) :: (.ref tk) :: (.int v52_40) :: (.int v53_41) :: (.int v54_42) :: (.ref hd) :: (.ref ak) :: (.ref ho) :: (.ref ot) :: []) := (hB1.2.2.2 h0 (by rw [hT_h0]; simp)).trans hF_220
          have hF_245 : F_242 bg = .inl (cs 16, 21, .inl f_211) := (hB1.2.2.2 bg (by rw [ht_210]; simp)).trans hF_221
          have hF_246 : F_242 ml = .inl (cs 17, 3000, .inl f_237) := (hB1.2.2.2 ml (by rw [ht_234]; simp)).trans hF_238
          generalize H1 = H at hP hS ⊢
          refine W.widen (k := 0) (n := 0) (by omega) (by omega) ?_
          exact jn_225 (zz + 1) F_242 (⟨by omega, hq_243⟩) hO hR _ _ hP hD hS ls (lv_sub hl [0, 1, 2, 3, 4, 5, 6] rfl)
        ·
          refine lv_iload hx hb dX15_fieldPlain_32 (lv_at hl 0 rfl) ?_
          refine lv_iload hx hb dX15_fieldPlain_34 (lv_at hl 6 rfl) ?_
          refine lv_icmp_lt (tgt := 53) hx hb dX15_fieldPlain_36 (by decide) (fun c_247 => ?_) (fun c_247 => ?_)
          ·
            refine W.widen (k := 0) (n := 0) (by omega) (by omega) ?_
            exact jn_225 zz F_215 (⟨by omega, hr1⟩) hO hR _ _ hP hD hS ls (lv_sub hl [0, 1, 2, 3, 4, 5, 6] rfl)
          ·
            refine lv_aload_n hx hb dX15_fieldPlain_39 rfl (lv_at hl 2 rfl) ?_
            refine pg_get (ci := 15) (v := .ref pl) (C := RX15) (T := TX15) (N := 59) hx hb hts it_15 hown hK hP hL_h0 hF_220 rfl 34 (by decide) (hts _ kt_901) (fun _ h9 => h9) rfl dX15_fieldPlain_40 ?_
            refine lv_aload_n hx hb dX15_fieldPlain_43 rfl (lv_at hl 2 rfl) ?_
            refine pg_get (ci := 15) (v := .ref ml) (C := RX15) (T := TX15) (N := 59) hx hb hts it_15 hown hK hP hL_h0 hF_220 rfl 23 (by decide) (hts _ kt_887) (fun _ h9 => h9) rfl dX15_fieldPlain_44 ?_
            refine lv_iload hx hb dX15_fieldPlain_47 (lv_at hl 0 rfl) ?_
            obtain ⟨hi_248, ht_249⟩ := hW.f_ml hL_h0 hT_h0
            obtain ⟨hq_250, hq_251⟩ := hW.octs hi_248 ht_249
            obtain ⟨f_252, hF_253, hq_254⟩ := hO.octs hi_248 ht_249
            refine pg_bald hx hb hK hP hi_248 1 hF_253 rfl (vp_in_nI (by omega) (by omega)) dX15_fieldPlain_49 ?_
            refine lv_topi (fun x_255 ex_255 => ?_)
            obtain rfl : x_255 = f_252 j := ex_255.trans (congrArg f_252 (show ((nI j) : Int32).toNatClampNeg = j from nI_clamp (by omega)))
            have hFc := pg_free hD hS hA
            refine va_callv (va_runV (As := [.int (f_252 j)]) (rest := []) ⟨hx, hb, hml, hown, hts⟩ (s_X14_add l dC dI cs ty gm L H.size F_215 pl (ρ + 10) rl 6000 zz (f_252 j) hW hL_pl hT_pl hr1 (by first | omega | assumption | exact Or.inl rfl)) ⟨callB_of 1 hts (gi kt_711) rfl rfl rfl (hts _ kt_676) (hts _ kt_712) (by decide +kernel) ⟨Nat.le_of_ble_eq_true rfl, Nat.le_of_ble_eq_true rfl⟩, (hts _ kt_713), (hts _ kt_714)⟩ ⟨fun a U g mk q => ⟨q.1, PTm.calling q.2⟩, pg_recv hK hP hL_pl hr1 (q := (RX14, TX14, 2)) rfl, fun U hU hWm => ⟨rfl, PTm.mk hU hWm hP hK hD hE hO⟩⟩ rfl rfl hl.1 rfl (lv_room (Nat.le_of_ble_eq_true rfl)) dX15_fieldPlain_50 ⟨by show _ + 0 ≤ 0; omega, by show _ + 0 ≤ 0; omega⟩) hS (fun q _ h => hFc q h) hFc (fun u t H1 locs ht hvm hw hB hz1 hk1 hS => ?_)
            obtain ⟨F_257, hB1, hq_258⟩ := hB
            obtain ⟨hP, hD, hO, hR⟩ := QTm.back hB1 ht hFc hR (fun q h => by simp only [List.mem_cons, List.not_mem_nil, or_false] at h ⊢; omega)
            have hF_259 : F_257 h0 = .inr (15, (.ref ta) :: (.int (nI zt)) :: (.int (nI zo)) :: (.int (nI ze)) :: (.ref ou) :: (.ref so) :: (.ref ad) :: (.ref na) :: (.ref va) :: (.ref lc) :: (.ref dm) :: (.int (nI fm)) :: (.int (nI sn)) :: (.ref tg) :: (.int v14_31) :: (.int v15_32) :: (.ref pe) :: (.int v17_33) :: (.int v18_34) :: (.int v19_35) :: (.int v20_36) :: (.int v21_37) :: (.int v22_38) :: (.ref ml) :: (.ref bg) :: (.ref co) :: (.ref sp) :: (.ref nb0) :: (.ref nb1) :: (.ref nb2) :: (.int (nI nf)) :: (.int (nI bd)) :: (.int (nI mm)) :: (.int v33_39) :: (.ref pl) :: (.ref se) :: (.ref ke) :: (.ref wi) :: (.ref hs) :: (.ref mo) :: (.ref po) :: (.ref nu) :: (.ref pr) :: (.ref sq) :: (.ref xa) :: (.ref sa) :: (.ref n64) :: (.ref m64) :: (.ref ex) :: (.ref wh) :: (.ref sd) :: (.ref tk) :: (.int v52_40) :: (.int v53_41) :: (.int v54_42) :: (.ref hd) :: (.ref ak) :: (.ref ho) :: (.ref ot) :: []) := (hB1.2.2.2 h0 (by rw [hT_h0]; simp)).trans hF_220
            have hF_260 : F_257 bg = .inl (cs 16, 21, .inl f_211) := (hB1.2.2.2 bg (by rw [ht_210]; simp)).trans hF_221
            have hF_261 : F_257 ml = .inl (cs 17, 3000, .inl f_252) := (hB1.2.2.2 ml (by rw [ht_249]; simp)).trans hF_253
            generalize H1 = H at hP hS ⊢
            refine W.widen (k := 0) (n := 0) (by omega) (by omega) ?_
            exact jn_225 (zz + 1) F_257 (⟨by omega, hq_258⟩) hO hR _ _ hP hD hS ls (lv_sub hl [0, 1, 2, 3, 4, 5, 6] rfl)
set_option maxHeartbeats 4000000 in
set_option maxRecDepth 100000 in
theorem s_X15_bodyPlain (l : Launch) (dC : Nat → ClassId) (dI : Nat → Nat → Nat) (cs : Nat → ClassId) (ty : TyM) (gm : Nat → Nat → Nat) (L : List Nat) (sz : Nat) (F : Nat → va_E) (h0 : Nat) (ρ : Nat) (ta : Nat) (ou : Nat) (so : Nat) (ad : Nat) (na : Nat) (va : Nat) (lc : Nat) (dm : Nat) (tg : Nat) (pe : Nat) (ml : Nat) (bg : Nat) (co : Nat) (sp : Nat) (nb0 : Nat) (nb1 : Nat) (nb2 : Nat) (pl : Nat) (se : Nat) (ke : Nat) (wi : Nat) (hs : Nat) (mo : Nat) (po : Nat) (nu : Nat) (pr : Nat) (sq : Nat) (xa : Nat) (sa : Nat) (n64 : Nat) (m64 : Nat) (ex : Nat) (wh : Nat) (sd : Nat) (tk : Nat) (hd : Nat) (ak : Nat) (ho : Nat) (ot : Nat) (sx : Nat) (s0 : Nat) (s1 : Nat) (s2 : Nat) (nf : Nat) (bd : Nat) (mm : Nat) (zo : Nat) (fm : Nat) (sn : Nat) (hg : Nat) (gc : Nat) (gv : Nat) (ze : Nat) (zt : Nat) (rl : Nat) (x1 : Int32) (hW : WTm ty gm L) (hL_h0 : h0 ∈ L) (hT_h0 : ty h0 = (15, ρ, [ta, ou, so, ad, na, va, lc, dm, tg, pe, ml, bg, co, sp, nb0, nb1, nb2, pl, se, ke, wi, hs, mo, po, nu, pr, sq, xa, sa, n64, m64, ex, wh, sd, tk, hd, ak, ho, ot, sx, s0, s1, s2, nf, bd, mm, zo, fm, sn, hg, gc, gv, ze, zt])) (hL_pl : pl ∈ L) (hT_pl : ty pl = (14, ρ + 10, [rl, 6000])) (hbd : 1 ≤ bd) : Met l yX15_bodyPlain (.code yX15_bodyPlain cX15_bodyPlain 9 none :: tb) ({ frames := 2, cells := 0, slots := 0, locals := 44 }) (va_Pc [.ref h0, .int x1] (PTm (dC, dI) cs ty gm L F sz)) (va_Qv (fun _ : Unit => True) (fun _ T9 => ∃ F2 : Nat → va_E, QTm (dC, dI) cs ty gm L [ρ + 10] F F2 (va_A (va_pl L F) sz) T9) (va_A (va_pl L F) sz)) 0 0 (va_A (va_pl L F) sz) := by
  refine Met.ofW (cc := cX15_bodyPlain) (maxL := 9) (ret := none) (by decide) rfl ?_
  intro p e s m args below meth c s₁ B hml hv
  obtain ⟨rfl, hsz, hP, hK, hD0, hE, hO⟩ := hv
  have hx := B.exec
  have hb := B.bytes
  have hr := B.returns
  have hts : ∀ w ∈ tb, w.before _ s = true := fun w h => atoms_spec (ws := .code yX15_bodyPlain cX15_bodyPlain 9 none :: tb) B.pre w (List.mem_cons_of_mem _ h)
  have hown : s.vm.findClass RX15 = some m.cls := findClass_of_methodNamed B.named
  have hlocks := B.notSynchronized
  subst hsz
  have hD := hD0.self (sz := s.heap.size)
  generalize hAe : va_A (va_pl L F) s.heap.size = A at hD ⊢
  have hA : ∀ q : Nat, s.heap.size ≤ q → A q := fun q h => by rw [← hAe]; exact Or.inr h
  have hS : va_S A s.heap s.heap [] := va_S.rf
  have hR : FR ty [ρ + 10] F F := FR.refl
  have hl := lv_entry ([.ref h0, .int x1]) (n := 9) (Nat.le_of_ble_eq_true rfl)
  rw [lg_entry_eq]
  generalize (lg_sl ([.ref h0, .int x1]) ++ List.replicate (9 - (lg_sl ([.ref h0, .int x1])).length) Slot.unset).toArray = ls at hl ⊢
  have hl : lv_has ls 9 [(0, .ref h0), (1, .int x1)] := hl
  obtain ⟨hq_22, hq_23, hq_24, hq_25, hq_26, hgO, hgA, hgB, hq_27⟩ := hW.sc hL_h0 hT_h0
  obtain ⟨hi_28, ht_29, hq_30⟩ := hW.txt hL_pl hT_pl
  refine lv_aload_n hx hb dX15_bodyPlain_0 rfl (lv_at hl 0 rfl) ?_
  obtain ⟨v14_31, v15_32, v17_33, v18_34, v19_35, v20_36, v21_37, v22_38, v33_39, v52_40, v53_41, v54_42, hF_43, hq_44, hq_45, hq_46, hq_47, hq_48⟩ := hO.mod hL_h0 hT_h0
  refine pg_get (ci := 15) (v := .ref pl) (C := RX15) (T := TX15) (N := 59) hx hb hts it_15 hown hK hP hL_h0 hF_43 rfl 34 (by decide) (hts _ kt_901) (fun _ h9 => h9) rfl dX15_bodyPlain_1 ?_
  refine lv_iconst (v := 0) hx hb dX15_bodyPlain_4 (by decide) ?_
  obtain ⟨z_49, hF_50, hq_51⟩ := hO.txt hL_pl hT_pl
  refine pg_put (ci := 14) (v := .int 0) (ty := .int) (C := RX14) (T := TX14) (N := 2) hx hb hts it_14 tyX14 tyX14_ok nmX14 hown hK hP hD hS hL_pl hF_50 rfl 1 (by decide) (hts _ kt_709) (fun _ h9 => h9) rfl (by decide +kernel) (rfl) (rfl) (Nat.le_of_ble_eq_true rfl) dX15_bodyPlain_5 (fun H locs hP hD hS => ?_)
  obtain ⟨F_52, he_53, hP, hD, hO, hR⟩ : ∃ G, G = va_up F pl (.inr (14, [.ref rl, .int 0])) ∧ va_P (dC, dI) vwCl (va_pl L G) H ∧ va_D A (va_pl L G) ∧ OKm cs ty gm L G ∧ FR ty [ρ + 10] F G := ⟨_, rfl, hP, hD, hO.up (shm.txt hT_pl ⟨0, rfl, (by first | omega | assumption | exact Or.inl rfl | exact Or.inr rfl)⟩), hR.up hT_pl (by simp)⟩
  have hF_54 : F_52 pl = .inr (14, [.ref rl, .int 0]) := by rw [he_53]; exact up_self
  have hF_55 : F_52 h0 = .inr (15, (.ref ta) :: (.int (nI zt)) :: (.int (nI zo)) :: (.int (nI ze)) :: (.ref ou) :: (.ref so) :: (.ref ad) :: (.ref na) :: (.ref va) :: (.ref lc) :: (.ref dm) :: (.int (nI fm)) :: (.int (nI sn)) :: (.ref tg) :: (.int v14_31) :: (.int v15_32) :: (.ref pe) :: (.int v17_33) :: (.int v18_34) :: (.int v19_35) :: (.int v20_36) :: (.int v21_37) :: (.int v22_38) :: (.ref ml) :: (.ref bg) :: (.ref co) :: (.ref sp) :: (.ref nb0) :: (.ref nb1) :: (.ref nb2) :: (.int (nI nf)) :: (.int (nI bd)) :: (.int (nI mm)) :: (.int v33_39) :: (.ref pl) :: (.ref se) :: (.ref ke) :: (.ref wi) :: (.ref hs) :: (.ref mo) :: (.ref po) :: (.ref nu) :: (.ref pr) :: (.ref sq) :: (.ref xa) :: (.ref sa) :: (.ref n64) :: (.ref m64) :: (.ref ex) :: (.ref wh) :: (.ref sd) :: (.ref tk) :: (.int v52_40) :: (.int v53_41) :: (.int v54_42) :: (.ref hd) :: (.ref ak) :: (.ref ho) :: (.ref ot) :: []) := by rw [he_53, up_ne (ne_ty hT_h0 hT_pl (by simp))]; exact hF_43
  refine lv_iconst (v := 0) hx hb dX15_bodyPlain_8 (by decide) ?_
  refine lv_istore_n (lv' := [(2, .int 0), (0, .ref h0), (1, .int x1)]) hx hb dX15_bodyPlain_9 rfl hl (by decide) rfl (fun ls hl => ?_)
  refine lv_aload_n hx hb dX15_bodyPlain_10 rfl (lv_at hl 1 rfl) ?_
  refine pg_get (ci := 15) (v := .int (nI bd)) (C := RX15) (T := TX15) (N := 59) hx hb hts it_15 hown hK hP hL_h0 hF_55 rfl 31 (by decide) (hts _ kt_902) (fun _ h9 => h9) rfl dX15_bodyPlain_11 ?_
  refine lv_istore_n (lv' := [(3, .int (nI bd)), (2, .int 0), (0, .ref h0), (1, .int x1)]) hx hb dX15_bodyPlain_14 rfl hl (by decide) rfl (fun ls hl => ?_)
  refine W.widen (k := 0) (n := 0) (by omega) (by omega) ?_
  have hF_57 : F h0 = .inr (15, (.ref ta) :: (.int (nI zt)) :: (.int (nI zo)) :: (.int (nI ze)) :: (.ref ou) :: (.ref so) :: (.ref ad) :: (.ref na) :: (.ref va) :: (.ref lc) :: (.ref dm) :: (.int (nI fm)) :: (.int (nI sn)) :: (.ref tg) :: (.int v14_31) :: (.int v15_32) :: (.ref pe) :: (.int v17_33) :: (.int v18_34) :: (.int v19_35) :: (.int v20_36) :: (.int v21_37) :: (.int v22_38) :: (.ref ml) :: (.ref bg) :: (.ref co) :: (.ref sp) :: (.ref nb0) :: (.ref nb1) :: (.ref nb2) :: (.int (nI nf)) :: (.int (nI bd)) :: (.int (nI mm)) :: (.int v33_39) :: (.ref pl) :: (.ref se) :: (.ref ke) :: (.ref wi) :: (.ref hs) :: (.ref mo) :: (.ref po) :: (.ref nu) :: (.ref pr) :: (.ref sq) :: (.ref xa) :: (.ref sa) :: (.ref n64) :: (.ref m64) :: (.ref ex) :: (.ref wh) :: (.ref sd) :: (.ref tk) :: (.int v52_40) :: (.int v53_41) :: (.int v54_42) :: (.ref hd) :: (.ref ak) :: (.ref ho) :: (.ref ot) :: []) := (hR h0 (by rw [hT_h0]; simp)).symm.trans hF_55
  refine pl_loopm (σ := Nat × Nat × Nat) A (dC, dI) cs ty gm L [ρ + 10] F 15 9 (fun (j, w2, zz) => [(3, .int (nI j)), (2, .int (nI w2)), (0, .ref h0), (1, .int x1)]) (fun (j, w2, zz) => []) (fun (j, w2, zz) FF => (bd ≤ j ∧ j ≤ mm) ∧ zz ≤ 2 * (j - bd) ∧ w2 ≤ 2 * (j - bd) ∧ FF pl = .inr (14, [.ref rl, .int (nI zz)])) (fun (j, w2, zz) => mm - j) ?_ (bd, 0, 0) F_52 (⟨⟨by omega, by omega⟩, by omega, by omega, hF_54⟩) hO hR _ _ hP hD hS ls (lv_sub hl [0, 1, 2, 3] rfl)
  rintro ⟨j, w2, zz⟩ F_56 hv_58 hO hR ih_59 H locs hP hD hS ls hl
  have hl : lv_has ls 9 [(3, .int (nI j)), (2, .int (nI w2)), (0, .ref h0), (1, .int x1)] := hl
  have hv_58 : (bd ≤ j ∧ j ≤ mm) ∧ zz ≤ 2 * (j - bd) ∧ w2 ≤ 2 * (j - bd) ∧ F_56 pl = .inr (14, [.ref rl, .int (nI zz)]) := hv_58
  refine W.eq (g2 := F0 m 15 ls []) rfl ?_
  have hF_60 : F_56 h0 = .inr (15, (.ref ta) :: (.int (nI zt)) :: (.int (nI zo)) :: (.int (nI ze)) :: (.ref ou) :: (.ref so) :: (.ref ad) :: (.ref na) :: (.ref va) :: (.ref lc) :: (.ref dm) :: (.int (nI fm)) :: (.int (nI sn)) :: (.ref tg) :: (.int v14_31) :: (.int v15_32) :: (.ref pe) :: (.int v17_33) :: (.int v18_34) :: (.int v19_35) :: (.int v20_36) :: (.int v21_37) :: (.int v22_38) :: (.ref ml) :: (.ref bg) :: (.ref co) :: (.ref sp) :: (.ref nb0) :: (.ref nb1) :: (.ref nb2) :: (.int (nI nf)) :: (.int (nI bd)) :: (.int (nI mm)) :: (.int v33_39) :: (.ref pl) :: (.ref se) :: (.ref ke) :: (.ref wi) :: (.ref hs) :: (.ref mo) :: (.ref po) :: (.ref nu) :: (.ref pr) :: (.ref sq) :: (.ref xa) :: (.ref sa) :: (.ref n64) :: (.ref m64) :: (.ref ex) :: (.ref wh) :: (.ref sd) :: (.ref tk) :: (.int v52_40) :: (.int v53_41) :: (.int v54_42) :: (.ref hd) :: (.ref ak) :: (.ref ho) :: (.ref ot) :: []) := (hR h0 (by rw [hT_h0]; simp)).trans hF_57
  obtain ⟨ha1, ha2, ha3, ha4⟩ := hv_58
  refine lv_iload_n hx hb dX15_bodyPlain_15 rfl (lv_at hl 0 rfl) ?_
  refine lv_aload_n hx hb dX15_bodyPlain_16 rfl (lv_at hl 2 rfl) ?_
  refine pg_get (ci := 15) (v := .int (nI mm)) (C := RX15) (T := TX15) (N := 59) hx hb hts it_15 hown hK hP hL_h0 hF_60 rfl 32 (by decide) (hts _ kt_903) (fun _ h9 => h9) rfl dX15_bodyPlain_17 ?_
  refine lv_icmp_ge (tgt := 218) hx hb dX15_bodyPlain_20 (by decide) (fun c_61 => ?_) (fun c_61 => ?_)
  ·
    have hi_62 : mm ≤ j := leN (N := mm) c_61
    refine lv_aload_n hx hb dX15_bodyPlain_218 rfl (lv_at hl 2 rfl) ?_
    refine pg_get (ci := 15) (v := .ref pl) (C := RX15) (T := TX15) (N := 59) hx hb hts it_15 hown hK hP hL_h0 hF_60 rfl 34 (by decide) (hts _ kt_901) (fun _ h9 => h9) rfl dX15_bodyPlain_219 ?_
    refine lv_iload_n hx hb dX15_bodyPlain_222 rfl (lv_at hl 1 rfl) ?_
    refine pg_put (ci := 14) (v := .int (nI w2)) (ty := .int) (C := RX14) (T := TX14) (N := 2) hx hb hts it_14 tyX14 tyX14_ok nmX14 hown hK hP hD hS hL_pl ha4 rfl 1 (by decide) (hts _ kt_709) (fun _ h9 => h9) rfl (by decide +kernel) (rfl) (rfl) (Nat.le_of_ble_eq_true rfl) dX15_bodyPlain_223 (fun H locs hP hD hS => ?_)
    obtain ⟨F_63, he_64, hP, hD, hO, hR⟩ : ∃ G, G = va_up F_56 pl (.inr (14, [.ref rl, .int (nI w2)])) ∧ va_P (dC, dI) vwCl (va_pl L G) H ∧ va_D A (va_pl L G) ∧ OKm cs ty gm L G ∧ FR ty [ρ + 10] F G := ⟨_, rfl, hP, hD, hO.up (shm.txt hT_pl ⟨w2, rfl, (by first | omega | assumption | exact Or.inl rfl | exact Or.inr rfl)⟩), hR.up hT_pl (by simp)⟩
    have hF_65 : F_63 pl = .inr (14, [.ref rl, .int (nI w2)]) := by rw [he_64]; exact up_self
    have hF_66 : F_63 h0 = .inr (15, (.ref ta) :: (.int (nI zt)) :: (.int (nI zo)) :: (.int (nI ze)) :: (.ref ou) :: (.ref so) :: (.ref ad) :: (.ref na) :: (.ref va) :: (.ref lc) :: (.ref dm) :: (.int (nI fm)) :: (.int (nI sn)) :: (.ref tg) :: (.int v14_31) :: (.int v15_32) :: (.ref pe) :: (.int v17_33) :: (.int v18_34) :: (.int v19_35) :: (.int v20_36) :: (.int v21_37) :: (.int v22_38) :: (.ref ml) :: (.ref bg) :: (.ref co) :: (.ref sp) :: (.ref nb0) :: (.ref nb1) :: (.ref nb2) :: (.int (nI nf)) :: (.int (nI bd)) :: (.int (nI mm)) :: (.int v33_39) :: (.ref pl) :: (.ref se) :: (.ref ke) :: (.ref wi) :: (.ref hs) :: (.ref mo) :: (.ref po) :: (.ref nu) :: (.ref pr) :: (.ref sq) :: (.ref xa) :: (.ref sa) :: (.ref n64) :: (.ref m64) :: (.ref ex) :: (.ref wh) :: (.ref sd) :: (.ref tk) :: (.int v52_40) :: (.int v53_41) :: (.int v54_42) :: (.ref hd) :: (.ref ak) :: (.ref ho) :: (.ref ot) :: []) := by rw [he_64, up_ne (ne_ty hT_h0 hT_pl (by simp))]; exact hF_60
    refine lv_iload_n hx hb dX15_bodyPlain_226 rfl (lv_at hl 1 rfl) ?_
    refine lv_if_ne (tgt := 243) hx hb dX15_bodyPlain_227 (by decide) (fun c_67 => ?_) (fun c_67 => ?_)
    ·
      have hi_68 : w2 ≠ 0 := fun q => c_67 (by rw [q]; rfl)
      refine W.widen (k := 0) (n := 0) (by omega) (by omega) ?_
      exact W.vret hx hb hr (fun t ht hWm => ⟨⟨(), rfl, trivial, ⟨F_63, QTm.mk ht hP hD hO hR⟩⟩, hS.F ht⟩) hS.2.2 dX15_bodyPlain_243
    ·
      have hi_69 : w2 = 0 := (nI_eq (a := w2) (b := 0) (by omega) (by omega)).mp c_67
      refine lv_iload_n hx hb dX15_bodyPlain_230 rfl (lv_at hl 3 rfl) ?_
      refine lv_if_ne (tgt := 243) hx hb dX15_bodyPlain_231 (by decide) (fun c_70 => ?_) (fun c_70 => ?_)
      ·
        refine W.widen (k := 0) (n := 0) (by omega) (by omega) ?_
        exact W.vret hx hb hr (fun t ht hWm => ⟨⟨(), rfl, trivial, ⟨F_63, QTm.mk ht hP hD hO hR⟩⟩, hS.F ht⟩) hS.2.2 dX15_bodyPlain_243
      ·
        refine lv_aload_n hx hb dX15_bodyPlain_234 rfl (lv_at hl 2 rfl) ?_
        refine pg_get (ci := 15) (v := .ref pl) (C := RX15) (T := TX15) (N := 59) hx hb hts it_15 hown hK hP hL_h0 hF_66 rfl 34 (by decide) (hts _ kt_901) (fun _ h9 => h9) rfl dX15_bodyPlain_235 ?_
        refine lv_bipush (v := 10) hx hb dX15_bodyPlain_238 (by decide) ?_
        have hFc := pg_free hD hS hA
        refine va_callv (va_runV (As := [.int 10]) (rest := []) ⟨hx, hb, hml, hown, hts⟩ (s_X14_add l dC dI cs ty gm L H.size F_63 pl (ρ + 10) rl 6000 w2 10 hW hL_pl hT_pl hF_65 (by first | omega | assumption | exact Or.inl rfl)) ⟨callB_of 1 hts (gi kt_711) rfl rfl rfl (hts _ kt_676) (hts _ kt_712) (by decide +kernel) ⟨Nat.le_of_ble_eq_true rfl, Nat.le_of_ble_eq_true rfl⟩, (hts _ kt_713), (hts _ kt_714)⟩ ⟨fun a U g mk q => ⟨q.1, PTm.calling q.2⟩, pg_recv hK hP hL_pl hF_65 (q := (RX14, TX14, 2)) rfl, fun U hU hWm => ⟨rfl, PTm.mk hU hWm hP hK hD hE hO⟩⟩ rfl rfl hl.1 rfl (lv_room (Nat.le_of_ble_eq_true rfl)) dX15_bodyPlain_240 ⟨by show _ + 0 ≤ 0; omega, by show _ + 0 ≤ 0; omega⟩) hS (fun q _ h => hFc q h) hFc (fun u t H1 locs ht hvm hw hB hz1 hk1 hS => ?_)
        obtain ⟨F_72, hB1, hq_73⟩ := hB
        obtain ⟨hP, hD, hO, hR⟩ := QTm.back hB1 ht hFc hR (fun q h => by simp only [List.mem_cons, List.not_mem_nil, or_false] at h ⊢; omega)
        have hF_74 : F_72 h0 = .inr (15, (.ref ta) :: (.int (nI zt)) :: (.int (nI zo)) :: (.int (nI ze)) :: (.ref ou) :: (.ref so) :: (.ref ad) :: (.ref na) :: (.ref va) :: (.ref lc) :: (.ref dm) :: (.int (nI fm)) :: (.int (nI sn)) :: (.ref tg) :: (.int v14_31) :: (.int v15_32) :: (.ref pe) :: (.int v17_33) :: (.int v18_34) :: (.int v19_35) :: (.int v20_36) :: (.int v21_37) :: (.int v22_38) :: (.ref ml) :: (.ref bg) :: (.ref co) :: (.ref sp) :: (.ref nb0) :: (.ref nb1) :: (.ref nb2) :: (.int (nI nf)) :: (.int (nI bd)) :: (.int (nI mm)) :: (.int v33_39) :: (.ref pl) :: (.ref se) :: (.ref ke) :: (.ref wi) :: (.ref hs) :: (.ref mo) :: (.ref po) :: (.ref nu) :: (.ref pr) :: (.ref sq) :: (.ref xa) :: (.ref sa) :: (.ref n64) :: (.ref m64) :: (.ref ex) :: (.ref wh) :: (.ref sd) :: (.ref tk) :: (.int v52_40) :: (.int v53_41) :: (.int v54_42) :: (.ref hd) :: (.ref ak) :: (.ref ho) :: (.ref ot) :: []) := (hB1.2.2.2 h0 (by rw [hT_h0]; simp)).trans hF_66
        generalize H1 = H at hP hS ⊢
        refine W.widen (k := 0) (n := 0) (by omega) (by omega) ?_
        exact W.vret hx hb hr (fun t ht hWm => ⟨⟨(), rfl, trivial, ⟨F_72, QTm.mk ht hP hD hO hR⟩⟩, hS.F ht⟩) hS.2.2 dX15_bodyPlain_243
  ·
    have hi_75 : j < mm := ltN (N := mm) c_61
    refine lv_aload_n hx hb dX15_bodyPlain_23 rfl (lv_at hl 2 rfl) ?_
    refine pg_get (ci := 15) (v := .ref ml) (C := RX15) (T := TX15) (N := 59) hx hb hts it_15 hown hK hP hL_h0 hF_60 rfl 23 (by decide) (hts _ kt_887) (fun _ h9 => h9) rfl dX15_bodyPlain_24 ?_
    refine lv_iload_n hx hb dX15_bodyPlain_27 rfl (lv_at hl 0 rfl) ?_
    refine lv_aload_n hx hb dX15_bodyPlain_28 rfl (lv_at hl 2 rfl) ?_
    refine pg_get (ci := 15) (v := .int (nI mm)) (C := RX15) (T := TX15) (N := 59) hx hb hts it_15 hown hK hP hL_h0 hF_60 rfl 32 (by decide) (hts _ kt_903) (fun _ h9 => h9) rfl dX15_bodyPlain_29 ?_
    obtain ⟨hi_76, ht_77⟩ := hW.f_ml hL_h0 hT_h0
    obtain ⟨hq_78, hq_79⟩ := hW.octs hi_76 ht_77
    have hFc := pg_free hD hS hA
    refine va_calli (va_runS (As := [.ref ml, .int (nI j), .int (nI mm)]) (rest := []) ⟨hx, hb, hml, hown, hts⟩ (s_X15_lineEnd l dC dI cs ty gm L H.size F_56 ml (ρ + 8) 3000 j mm hW hi_76 ht_77 (by first | omega | assumption | exact Or.inl rfl) (by first | omega | assumption | exact Or.inl rfl)) ⟨callB_of 3 hts (gi kt_904) rfl rfl rfl (hts _ kt_669) (hts _ kt_905) (by decide +kernel) ⟨Nat.le_of_ble_eq_true rfl, Nat.le_of_ble_eq_true rfl⟩, (hts _ kt_906)⟩ ⟨fun a U g mk q => ⟨q.1, PTm.calling q.2⟩, fun U hU hWm => ⟨rfl, PTm.mk hU hWm hP hK hD hE hO⟩⟩ rfl rfl hl.1 rfl (lv_room (Nat.le_of_ble_eq_true rfl)) dX15_bodyPlain_32 ⟨by show _ + 0 ≤ 0; omega, by show _ + 0 ≤ 0; omega⟩) hS (fun q _ h => hFc q h) hFc (fun r_80 u t H1 locs ht hvm hw hB hz1 hk1 hS => ?_)
    obtain ⟨F_81, hB1⟩ := hB
    obtain rfl : F_56 = F_81 := (funext (fun a => hB1.2.2.2 a List.not_mem_nil)).symm
    obtain ⟨hP, hD, hO, hR⟩ := QTm.back hB1 ht hFc hR (fun q h => absurd h List.not_mem_nil)
    generalize H1 = H at hP hS ⊢
    have hw : (∃ k : Nat, j < k ∧ k ≤ mm ∧ r_80 = nI k) := hw
    have hw_82 := hw
    obtain ⟨kend, hke1, hke2, eke⟩ := hw_82
    subst eke
    refine lv_istore (lv' := [(4, .int (nI kend)), (3, .int (nI j)), (2, .int (nI w2)), (0, .ref h0), (1, .int x1)]) hx hb dX15_bodyPlain_35 hl (by decide) rfl (fun ls hl => ?_)
    have hF_85 : F h0 = .inr (15, (.ref ta) :: (.int (nI zt)) :: (.int (nI zo)) :: (.int (nI ze)) :: (.ref ou) :: (.ref so) :: (.ref ad) :: (.ref na) :: (.ref va) :: (.ref lc) :: (.ref dm) :: (.int (nI fm)) :: (.int (nI sn)) :: (.ref tg) :: (.int v14_31) :: (.int v15_32) :: (.ref pe) :: (.int v17_33) :: (.int v18_34) :: (.int v19_35) :: (.int v20_36) :: (.int v21_37) :: (.int v22_38) :: (.ref ml) :: (.ref bg) :: (.ref co) :: (.ref sp) :: (.ref nb0) :: (.ref nb1) :: (.ref nb2) :: (.int (nI nf)) :: (.int (nI bd)) :: (.int (nI mm)) :: (.int v33_39) :: (.ref pl) :: (.ref se) :: (.ref ke) :: (.ref wi) :: (.ref hs) :: (.ref mo) :: (.ref po) :: (.ref nu) :: (.ref pr) :: (.ref sq) :: (.ref xa) :: (.ref sa) :: (.ref n64) :: (.ref m64) :: (.ref ex) :: (.ref wh) :: (.ref sd) :: (.ref tk) :: (.int v52_40) :: (.int v53_41) :: (.int v54_42) :: (.ref hd) :: (.ref ak) :: (.ref ho) :: (.ref ot) :: []) := (hR h0 (by rw [hT_h0]; simp)).symm.trans hF_60
    refine W.widen (k := 0) (n := 0) (by omega) (by omega) ?_
    refine pl_cutm (σ := Int32) A (dC, dI) cs ty gm L [ρ + 10] F 60 9 (fun s5 => [(4, .int (nI kend)), (3, .int (nI j)), (2, .int (nI w2)), (0, .ref h0), (1, .int x1)]) (fun s5 => [.int s5]) (fun s5 FF => (∃ k : Nat, j ≤ k ∧ k ≤ kend ∧ s5 = nI k) ∧ FF pl = .inr (14, [.ref rl, .int (nI zz)])) ?_ (fun jn_83 => ?_)
    ·
      rintro s5 F_84 hv_86 hO hR H locs hP hD hS ls hl
      have hl : lv_has ls 9 [(4, .int (nI kend)), (3, .int (nI j)), (2, .int (nI w2)), (0, .ref h0), (1, .int x1)] := hl
      have hv_86 : (∃ k : Nat, j ≤ k ∧ k ≤ kend ∧ s5 = nI k) ∧ F_84 pl = .inr (14, [.ref rl, .int (nI zz)]) := hv_86
      refine W.eq (g2 := F0 m 60 ls [.int s5]) rfl ?_
      have hF_87 : F_84 h0 = .inr (15, (.ref ta) :: (.int (nI zt)) :: (.int (nI zo)) :: (.int (nI ze)) :: (.ref ou) :: (.ref so) :: (.ref ad) :: (.ref na) :: (.ref va) :: (.ref lc) :: (.ref dm) :: (.int (nI fm)) :: (.int (nI sn)) :: (.ref tg) :: (.int v14_31) :: (.int v15_32) :: (.ref pe) :: (.int v17_33) :: (.int v18_34) :: (.int v19_35) :: (.int v20_36) :: (.int v21_37) :: (.int v22_38) :: (.ref ml) :: (.ref bg) :: (.ref co) :: (.ref sp) :: (.ref nb0) :: (.ref nb1) :: (.ref nb2) :: (.int (nI nf)) :: (.int (nI bd)) :: (.int (nI mm)) :: (.int v33_39) :: (.ref pl) :: (.ref se) :: (.ref ke) :: (.ref wi) :: (.ref hs) :: (.ref mo) :: (.ref po) :: (.ref nu) :: (.ref pr) :: (.ref sq) :: (.ref xa) :: (.ref sa) :: (.ref n64) :: (.ref m64) :: (.ref ex) :: (.ref wh) :: (.ref sd) :: (.ref tk) :: (.int v52_40) :: (.int v53_41) :: (.int v54_42) :: (.ref hd) :: (.ref ak) :: (.ref ho) :: (.ref ot) :: []) := (hR h0 (by rw [hT_h0]; simp)).trans hF_85
      obtain ⟨⟨ks, hks1, hks2, eks⟩, hks3⟩ := hv_86
      subst eks
      refine W.eq (g2 := F0 m 60 ls [.int (nI ks)]) rfl ?_
      refine lv_istore (lv' := [(5, .int (nI ks)), (4, .int (nI kend)), (3, .int (nI j)), (2, .int (nI w2)), (0, .ref h0), (1, .int x1)]) hx hb dX15_bodyPlain_60 hl (by decide) rfl (fun ls hl => ?_)
      have hF_90 : F h0 = .inr (15, (.ref ta) :: (.int (nI zt)) :: (.int (nI zo)) :: (.int (nI ze)) :: (.ref ou) :: (.ref so) :: (.ref ad) :: (.ref na) :: (.ref va) :: (.ref lc) :: (.ref dm) :: (.int (nI fm)) :: (.int (nI sn)) :: (.ref tg) :: (.int v14_31) :: (.int v15_32) :: (.ref pe) :: (.int v17_33) :: (.int v18_34) :: (.int v19_35) :: (.int v20_36) :: (.int v21_37) :: (.int v22_38) :: (.ref ml) :: (.ref bg) :: (.ref co) :: (.ref sp) :: (.ref nb0) :: (.ref nb1) :: (.ref nb2) :: (.int (nI nf)) :: (.int (nI bd)) :: (.int (nI mm)) :: (.int v33_39) :: (.ref pl) :: (.ref se) :: (.ref ke) :: (.ref wi) :: (.ref hs) :: (.ref mo) :: (.ref po) :: (.ref nu) :: (.ref pr) :: (.ref sq) :: (.ref xa) :: (.ref sa) :: (.ref n64) :: (.ref m64) :: (.ref ex) :: (.ref wh) :: (.ref sd) :: (.ref tk) :: (.int v52_40) :: (.int v53_41) :: (.int v54_42) :: (.ref hd) :: (.ref ak) :: (.ref ho) :: (.ref ot) :: []) := (hR h0 (by rw [hT_h0]; simp)).symm.trans hF_87
      refine W.widen (k := 0) (n := 0) (by omega) (by omega) ?_
      refine pl_cutm (σ := Int32) A (dC, dI) cs ty gm L [ρ + 10] F 93 9 (fun s6 => [(5, .int s6), (4, .int (nI kend)), (3, .int (nI j)), (2, .int (nI w2)), (0, .ref h0), (1, .int x1)]) (fun s6 => []) (fun s6 FF => (∃ k : Nat, j ≤ k ∧ k ≤ kend ∧ s6 = nI k) ∧ FF pl = .inr (14, [.ref rl, .int (nI zz)])) ?_ (fun jn_88 => ?_)
      ·
        rintro s6 F_89 hv_91 hO hR H locs hP hD hS ls hl
        have hl : lv_has ls 9 [(5, .int s6), (4, .int (nI kend)), (3, .int (nI j)), (2, .int (nI w2)), (0, .ref h0), (1, .int x1)] := hl
        have hv_91 : (∃ k : Nat, j ≤ k ∧ k ≤ kend ∧ s6 = nI k) ∧ F_89 pl = .inr (14, [.ref rl, .int (nI zz)]) := hv_91
        refine W.eq (g2 := F0 m 93 ls []) rfl ?_
        have hF_92 : F_89 h0 = .inr (15, (.ref ta) :: (.int (nI zt)) :: (.int (nI zo)) :: (.int (nI ze)) :: (.ref ou) :: (.ref so) :: (.ref ad) :: (.ref na) :: (.ref va) :: (.ref lc) :: (.ref dm) :: (.int (nI fm)) :: (.int (nI sn)) :: (.ref tg) :: (.int v14_31) :: (.int v15_32) :: (.ref pe) :: (.int v17_33) :: (.int v18_34) :: (.int v19_35) :: (.int v20_36) :: (.int v21_37) :: (.int v22_38) :: (.ref ml) :: (.ref bg) :: (.ref co) :: (.ref sp) :: (.ref nb0) :: (.ref nb1) :: (.ref nb2) :: (.int (nI nf)) :: (.int (nI bd)) :: (.int (nI mm)) :: (.int v33_39) :: (.ref pl) :: (.ref se) :: (.ref ke) :: (.ref wi) :: (.ref hs) :: (.ref mo) :: (.ref po) :: (.ref nu) :: (.ref pr) :: (.ref sq) :: (.ref xa) :: (.ref sa) :: (.ref n64) :: (.ref m64) :: (.ref ex) :: (.ref wh) :: (.ref sd) :: (.ref tk) :: (.int v52_40) :: (.int v53_41) :: (.int v54_42) :: (.ref hd) :: (.ref ak) :: (.ref ho) :: (.ref ot) :: []) := (hR h0 (by rw [hT_h0]; simp)).trans hF_90
        obtain ⟨⟨kt, hkt1, hkt2, ekt⟩, hkt3⟩ := hv_91
        subst ekt
        have hF_95 : F h0 = .inr (15, (.ref ta) :: (.int (nI zt)) :: (.int (nI zo)) :: (.int (nI ze)) :: (.ref ou) :: (.ref so) :: (.ref ad) :: (.ref na) :: (.ref va) :: (.ref lc) :: (.ref dm) :: (.int (nI fm)) :: (.int (nI sn)) :: (.ref tg) :: (.int v14_31) :: (.int v15_32) :: (.ref pe) :: (.int v17_33) :: (.int v18_34) :: (.int v19_35) :: (.int v20_36) :: (.int v21_37) :: (.int v22_38) :: (.ref ml) :: (.ref bg) :: (.ref co) :: (.ref sp) :: (.ref nb0) :: (.ref nb1) :: (.ref nb2) :: (.int (nI nf)) :: (.int (nI bd)) :: (.int (nI mm)) :: (.int v33_39) :: (.ref pl) :: (.ref se) :: (.ref ke) :: (.ref wi) :: (.ref hs) :: (.ref mo) :: (.ref po) :: (.ref nu) :: (.ref pr) :: (.ref sq) :: (.ref xa) :: (.ref sa) :: (.ref n64) :: (.ref m64) :: (.ref ex) :: (.ref wh) :: (.ref sd) :: (.ref tk) :: (.int v52_40) :: (.int v53_41) :: (.int v54_42) :: (.ref hd) :: (.ref ak) :: (.ref ho) :: (.ref ot) :: []) := (hR h0 (by rw [hT_h0]; simp)).symm.trans hF_92
        refine W.widen (k := 0) (n := 0) (by omega) (by omega) ?_
        refine pl_cutm (σ := Int32) A (dC, dI) cs ty gm L [ρ + 10] F 104 9 (fun s7 => [(5, .int (nI kt)), (4, .int (nI kend)), (3, .int (nI j)), (2, .int (nI w2)), (0, .ref h0), (1, .int x1)]) (fun s7 => [.int s7]) (fun s7 FF => FF pl = .inr (14, [.ref rl, .int (nI zz)])) ?_ (fun jn_93 => ?_)
        ·
          rintro s7 F_94 hv_96 hO hR H locs hP hD hS ls hl
          have hl : lv_has ls 9 [(5, .int (nI kt)), (4, .int (nI kend)), (3, .int (nI j)), (2, .int (nI w2)), (0, .ref h0), (1, .int x1)] := hl
          have hv_96 : F_94 pl = .inr (14, [.ref rl, .int (nI zz)]) := hv_96
          refine W.eq (g2 := F0 m 104 ls [.int s7]) rfl ?_
          have hF_97 : F_94 h0 = .inr (15, (.ref ta) :: (.int (nI zt)) :: (.int (nI zo)) :: (.int (nI ze)) :: (.ref ou) :: (.ref so) :: (.ref ad) :: (.ref na) :: (.ref va) :: (.ref lc) :: (.ref dm) :: (.int (nI fm)) :: (.int (nI sn)) :: (.ref tg) :: (.int v14_31) :: (.int v15_32) :: (.ref pe) :: (.int v17_33) :: (.int v18_34) :: (.int v19_35) :: (.int v20_36) :: (.int v21_37) :: (.int v22_38) :: (.ref ml) :: (.ref bg) :: (.ref co) :: (.ref sp) :: (.ref nb0) :: (.ref nb1) :: (.ref nb2) :: (.int (nI nf)) :: (.int (nI bd)) :: (.int (nI mm)) :: (.int v33_39) :: (.ref pl) :: (.ref se) :: (.ref ke) :: (.ref wi) :: (.ref hs) :: (.ref mo) :: (.ref po) :: (.ref nu) :: (.ref pr) :: (.ref sq) :: (.ref xa) :: (.ref sa) :: (.ref n64) :: (.ref m64) :: (.ref ex) :: (.ref wh) :: (.ref sd) :: (.ref tk) :: (.int v52_40) :: (.int v53_41) :: (.int v54_42) :: (.ref hd) :: (.ref ak) :: (.ref ho) :: (.ref ot) :: []) := (hR h0 (by rw [hT_h0]; simp)).trans hF_95
          refine lv_istore (lv' := [(6, .int s7), (5, .int (nI kt)), (4, .int (nI kend)), (3, .int (nI j)), (2, .int (nI w2)), (0, .ref h0), (1, .int x1)]) hx hb dX15_bodyPlain_104 hl (by decide) rfl (fun ls hl => ?_)
          refine lv_iload_n hx hb dX15_bodyPlain_106 rfl (lv_at hl 3 rfl) ?_
          refine lv_istore (lv' := [(7, .int (nI j)), (6, .int s7), (5, .int (nI kt)), (4, .int (nI kend)), (3, .int (nI j)), (2, .int (nI w2)), (0, .ref h0), (1, .int x1)]) hx hb dX15_bodyPlain_107 hl (by decide) rfl (fun ls hl => ?_)
          refine W.widen (k := 0) (n := 0) (by omega) (by omega) ?_
          have hF_99 : F h0 = .inr (15, (.ref ta) :: (.int (nI zt)) :: (.int (nI zo)) :: (.int (nI ze)) :: (.ref ou) :: (.ref so) :: (.ref ad) :: (.ref na) :: (.ref va) :: (.ref lc) :: (.ref dm) :: (.int (nI fm)) :: (.int (nI sn)) :: (.ref tg) :: (.int v14_31) :: (.int v15_32) :: (.ref pe) :: (.int v17_33) :: (.int v18_34) :: (.int v19_35) :: (.int v20_36) :: (.int v21_37) :: (.int v22_38) :: (.ref ml) :: (.ref bg) :: (.ref co) :: (.ref sp) :: (.ref nb0) :: (.ref nb1) :: (.ref nb2) :: (.int (nI nf)) :: (.int (nI bd)) :: (.int (nI mm)) :: (.int v33_39) :: (.ref pl) :: (.ref se) :: (.ref ke) :: (.ref wi) :: (.ref hs) :: (.ref mo) :: (.ref po) :: (.ref nu) :: (.ref pr) :: (.ref sq) :: (.ref xa) :: (.ref sa) :: (.ref n64) :: (.ref m64) :: (.ref ex) :: (.ref wh) :: (.ref sd) :: (.ref tk) :: (.int v52_40) :: (.int v53_41) :: (.int v54_42) :: (.ref hd) :: (.ref ak) :: (.ref ho) :: (.ref ot) :: []) := (hR h0 (by rw [hT_h0]; simp)).symm.trans hF_97
          refine pl_loopm (σ := Nat × Nat) A (dC, dI) cs ty gm L [ρ + 10] F 109 9 (fun (i, zw) => [(7, .int (nI i)), (6, .int s7), (5, .int (nI kt)), (4, .int (nI kend)), (3, .int (nI j)), (2, .int (nI w2)), (0, .ref h0), (1, .int x1)]) (fun (i, zw) => []) (fun (i, zw) FF => (j ≤ i ∧ i ≤ kt) ∧ zw ≤ 2 * (j - bd) + (i - j) ∧ FF pl = .inr (14, [.ref rl, .int (nI zw)])) (fun (i, zw) => kt - i) ?_ (j, zz) F_94 (⟨⟨by omega, by omega⟩, by omega, hv_96⟩) hO hR _ _ hP hD hS ls (lv_sub hl [0, 1, 2, 3, 4, 5, 6, 7] rfl)
          rintro ⟨i, zw⟩ F_98 hv_100 hO hR ih_101 H locs hP hD hS ls hl
          have hl : lv_has ls 9 [(7, .int (nI i)), (6, .int s7), (5, .int (nI kt)), (4, .int (nI kend)), (3, .int (nI j)), (2, .int (nI w2)), (0, .ref h0), (1, .int x1)] := hl
          have hv_100 : (j ≤ i ∧ i ≤ kt) ∧ zw ≤ 2 * (j - bd) + (i - j) ∧ F_98 pl = .inr (14, [.ref rl, .int (nI zw)]) := hv_100
          refine W.eq (g2 := F0 m 109 ls []) rfl ?_
          have hF_102 : F_98 h0 = .inr (15, (.ref ta) :: (.int (nI zt)) :: (.int (nI zo)) :: (.int (nI ze)) :: (.ref ou) :: (.ref so) :: (.ref ad) :: (.ref na) :: (.ref va) :: (.ref lc) :: (.ref dm) :: (.int (nI fm)) :: (.int (nI sn)) :: (.ref tg) :: (.int v14_31) :: (.int v15_32) :: (.ref pe) :: (.int v17_33) :: (.int v18_34) :: (.int v19_35) :: (.int v20_36) :: (.int v21_37) :: (.int v22_38) :: (.ref ml) :: (.ref bg) :: (.ref co) :: (.ref sp) :: (.ref nb0) :: (.ref nb1) :: (.ref nb2) :: (.int (nI nf)) :: (.int (nI bd)) :: (.int (nI mm)) :: (.int v33_39) :: (.ref pl) :: (.ref se) :: (.ref ke) :: (.ref wi) :: (.ref hs) :: (.ref mo) :: (.ref po) :: (.ref nu) :: (.ref pr) :: (.ref sq) :: (.ref xa) :: (.ref sa) :: (.ref n64) :: (.ref m64) :: (.ref ex) :: (.ref wh) :: (.ref sd) :: (.ref tk) :: (.int v52_40) :: (.int v53_41) :: (.int v54_42) :: (.ref hd) :: (.ref ak) :: (.ref ho) :: (.ref ot) :: []) := (hR h0 (by rw [hT_h0]; simp)).trans hF_99
          obtain ⟨hc1, hc2, hc3⟩ := hv_100
          refine lv_iload hx hb dX15_bodyPlain_109 (lv_at hl 0 rfl) ?_
          refine lv_iload hx hb dX15_bodyPlain_111 (lv_at hl 2 rfl) ?_
          refine lv_icmp_ge (tgt := 190) hx hb dX15_bodyPlain_113 (by decide) (fun c_103 => ?_) (fun c_103 => ?_)
          ·
            have hi_104 : kt ≤ i := leN (N := kt) c_103
            refine lv_aload_n hx hb dX15_bodyPlain_190 rfl (lv_at hl 6 rfl) ?_
            refine pg_get (ci := 15) (v := .ref pl) (C := RX15) (T := TX15) (N := 59) hx hb hts it_15 hown hK hP hL_h0 hF_102 rfl 34 (by decide) (hts _ kt_901) (fun _ h9 => h9) rfl dX15_bodyPlain_191 ?_
            refine lv_bipush (v := 10) hx hb dX15_bodyPlain_194 (by decide) ?_
            have hFc := pg_free hD hS hA
            refine va_callv (va_runV (As := [.int 10]) (rest := []) ⟨hx, hb, hml, hown, hts⟩ (s_X14_add l dC dI cs ty gm L H.size F_98 pl (ρ + 10) rl 6000 zw 10 hW hL_pl hT_pl hc3 (by first | omega | assumption | exact Or.inl rfl)) ⟨callB_of 1 hts (gi kt_711) rfl rfl rfl (hts _ kt_676) (hts _ kt_712) (by decide +kernel) ⟨Nat.le_of_ble_eq_true rfl, Nat.le_of_ble_eq_true rfl⟩, (hts _ kt_713), (hts _ kt_714)⟩ ⟨fun a U g mk q => ⟨q.1, PTm.calling q.2⟩, pg_recv hK hP hL_pl hc3 (q := (RX14, TX14, 2)) rfl, fun U hU hWm => ⟨rfl, PTm.mk hU hWm hP hK hD hE hO⟩⟩ rfl rfl hl.1 rfl (lv_room (Nat.le_of_ble_eq_true rfl)) dX15_bodyPlain_196 ⟨by show _ + 0 ≤ 0; omega, by show _ + 0 ≤ 0; omega⟩) hS (fun q _ h => hFc q h) hFc (fun u t H1 locs ht hvm hw hB hz1 hk1 hS => ?_)
            obtain ⟨F_106, hB1, hq_107⟩ := hB
            obtain ⟨hP, hD, hO, hR⟩ := QTm.back hB1 ht hFc hR (fun q h => by simp only [List.mem_cons, List.not_mem_nil, or_false] at h ⊢; omega)
            have hF_108 : F_106 h0 = .inr (15, (.ref ta) :: (.int (nI zt)) :: (.int (nI zo)) :: (.int (nI ze)) :: (.ref ou) :: (.ref so) :: (.ref ad) :: (.ref na) :: (.ref va) :: (.ref lc) :: (.ref dm) :: (.int (nI fm)) :: (.int (nI sn)) :: (.ref tg) :: (.int v14_31) :: (.int v15_32) :: (.ref pe) :: (.int v17_33) :: (.int v18_34) :: (.int v19_35) :: (.int v20_36) :: (.int v21_37) :: (.int v22_38) :: (.ref ml) :: (.ref bg) :: (.ref co) :: (.ref sp) :: (.ref nb0) :: (.ref nb1) :: (.ref nb2) :: (.int (nI nf)) :: (.int (nI bd)) :: (.int (nI mm)) :: (.int v33_39) :: (.ref pl) :: (.ref se) :: (.ref ke) :: (.ref wi) :: (.ref hs) :: (.ref mo) :: (.ref po) :: (.ref nu) :: (.ref pr) :: (.ref sq) :: (.ref xa) :: (.ref sa) :: (.ref n64) :: (.ref m64) :: (.ref ex) :: (.ref wh) :: (.ref sd) :: (.ref tk) :: (.int v52_40) :: (.int v53_41) :: (.int v54_42) :: (.ref hd) :: (.ref ak) :: (.ref ho) :: (.ref ot) :: []) := (hB1.2.2.2 h0 (by rw [hT_h0]; simp)).trans hF_102
            generalize H1 = H at hP hS ⊢
            refine lv_iload hx hb dX15_bodyPlain_199 (lv_at hl 1 rfl) ?_
            refine lv_if_eq (tgt := 212) hx hb dX15_bodyPlain_201 (by decide) (fun c_109 => ?_) (fun c_109 => ?_)
            ·
              refine lv_iload hx hb dX15_bodyPlain_212 (lv_at hl 3 rfl) ?_
              refine lv_istore_n (lv' := [(3, .int (nI kend)), (7, .int (nI i)), (6, .int s7), (5, .int (nI kt)), (4, .int (nI kend)), (2, .int (nI w2)), (0, .ref h0), (1, .int x1)]) hx hb dX15_bodyPlain_214 rfl hl (by decide) rfl (fun ls hl => ?_)
              refine lv_goto (tgt := 15) hx hb dX15_bodyPlain_215 (by decide) ?_
              refine W.widen (k := 0) (n := 0) (by omega) (by omega) ?_
              exact ih_59 (kend, w2, (zw + 1)) F_106 (⟨⟨by omega, by omega⟩, by omega, by omega, hq_107⟩) (by show mm - kend < mm - j; omega) hO hR _ _ hP hD hS ls (lv_sub hl [0, 5, 6, 7] rfl)
            ·
              refine lv_aload_n hx hb dX15_bodyPlain_204 rfl (lv_at hl 6 rfl) ?_
              refine pg_get (ci := 15) (v := .ref pl) (C := RX15) (T := TX15) (N := 59) hx hb hts it_15 hown hK hP hL_h0 hF_108 rfl 34 (by decide) (hts _ kt_901) (fun _ h9 => h9) rfl dX15_bodyPlain_205 ?_
              refine pg_get (ci := 14) (v := .int (nI (zw + 1))) (C := RX14) (T := TX14) (N := 2) hx hb hts it_14 hown hK hP hL_pl hq_107 rfl 1 (by decide) (hts _ kt_709) (fun _ h9 => h9) rfl dX15_bodyPlain_208 ?_
              refine lv_istore_n (lv' := [(2, .int (nI (zw + 1))), (7, .int (nI i)), (6, .int s7), (5, .int (nI kt)), (4, .int (nI kend)), (3, .int (nI j)), (0, .ref h0), (1, .int x1)]) hx hb dX15_bodyPlain_211 rfl hl (by decide) rfl (fun ls hl => ?_)
              refine lv_iload hx hb dX15_bodyPlain_212 (lv_at hl 4 rfl) ?_
              refine lv_istore_n (lv' := [(3, .int (nI kend)), (2, .int (nI (zw + 1))), (7, .int (nI i)), (6, .int s7), (5, .int (nI kt)), (4, .int (nI kend)), (0, .ref h0), (1, .int x1)]) hx hb dX15_bodyPlain_214 rfl hl (by decide) rfl (fun ls hl => ?_)
              refine lv_goto (tgt := 15) hx hb dX15_bodyPlain_215 (by decide) ?_
              refine W.widen (k := 0) (n := 0) (by omega) (by omega) ?_
              exact ih_59 (kend, (zw + 1), (zw + 1)) F_106 (⟨⟨by omega, by omega⟩, by omega, by omega, hq_107⟩) (by show mm - kend < mm - j; omega) hO hR _ _ hP hD hS ls (lv_sub hl [0, 1, 6, 7] rfl)
          ·
            have hi_110 : i < kt := ltN (N := kt) c_103
            refine lv_aload_n hx hb dX15_bodyPlain_116 rfl (lv_at hl 6 rfl) ?_
            refine pg_get (ci := 15) (v := .ref ml) (C := RX15) (T := TX15) (N := 59) hx hb hts it_15 hown hK hP hL_h0 hF_102 rfl 23 (by decide) (hts _ kt_887) (fun _ h9 => h9) rfl dX15_bodyPlain_117 ?_
            refine lv_iload hx hb dX15_bodyPlain_120 (lv_at hl 0 rfl) ?_
            obtain ⟨f_111, hF_112, hq_113⟩ := hO.octs hi_76 ht_77
            refine pg_bald hx hb hK hP hi_76 1 hF_112 rfl (vp_in_nI (by omega) (by omega)) dX15_bodyPlain_122 ?_
            refine lv_topi (fun x_114 ex_114 => ?_)
            obtain rfl : x_114 = f_111 i := ex_114.trans (congrArg f_111 (show ((nI i) : Int32).toNatClampNeg = i from nI_clamp (by omega)))
            have hFc := pg_free hD hS hA
            refine va_calli (va_runS (As := [.int (f_111 i)]) (rest := []) ⟨hx, hb, hml, hown, hts⟩ (s_X15_isWhite l dC dI cs ty gm L H.size F_98 (f_111 i) hW ) ⟨callB_of 1 hts (gi kt_715) rfl rfl rfl (hts _ kt_669) (hts _ kt_716) (by decide +kernel) ⟨Nat.le_of_ble_eq_true rfl, Nat.le_of_ble_eq_true rfl⟩, (hts _ kt_717)⟩ ⟨fun a U g mk q => ⟨q.1, PTm.calling q.2⟩, fun U hU hWm => ⟨rfl, PTm.mk hU hWm hP hK hD hE hO⟩⟩ rfl rfl hl.1 rfl (lv_room (Nat.le_of_ble_eq_true rfl)) dX15_bodyPlain_123 ⟨by show _ + 0 ≤ 0; omega, by show _ + 0 ≤ 0; omega⟩) hS (fun q _ h => hFc q h) hFc (fun r_115 u t H1 locs ht hvm hw hB hz1 hk1 hS => ?_)
            obtain ⟨F_116, hB1⟩ := hB
            obtain rfl : F_98 = F_116 := (funext (fun a => hB1.2.2.2 a List.not_mem_nil)).symm
            obtain ⟨hP, hD, hO, hR⟩ := QTm.back hB1 ht hFc hR (fun q h => absurd h List.not_mem_nil)
            generalize H1 = H at hP hS ⊢
            have hw : (r_115 = 0 ∨ r_115 = 1) := hw
            have hw_117 := hw
            refine lv_istore (lv' := [(8, .int r_115), (7, .int (nI i)), (6, .int s7), (5, .int (nI kt)), (4, .int (nI kend)), (3, .int (nI j)), (2, .int (nI w2)), (0, .ref h0), (1, .int x1)]) hx hb dX15_bodyPlain_126 hl (by decide) rfl (fun ls hl => ?_)
            refine lv_iload_n hx hb dX15_bodyPlain_128 rfl (lv_at hl 8 rfl) ?_
            refine lv_if_eq (tgt := 137) hx hb dX15_bodyPlain_129 (by decide) (fun c_118 => ?_) (fun c_118 => ?_)
            ·
              refine lv_aload_n hx hb dX15_bodyPlain_137 rfl (lv_at hl 7 rfl) ?_
              refine pg_get (ci := 15) (v := .ref pl) (C := RX15) (T := TX15) (N := 59) hx hb hts it_15 hown hK hP hL_h0 hF_102 rfl 34 (by decide) (hts _ kt_901) (fun _ h9 => h9) rfl dX15_bodyPlain_138 ?_
              refine lv_aload_n hx hb dX15_bodyPlain_141 rfl (lv_at hl 7 rfl) ?_
              refine pg_get (ci := 15) (v := .ref ml) (C := RX15) (T := TX15) (N := 59) hx hb hts it_15 hown hK hP hL_h0 hF_102 rfl 23 (by decide) (hts _ kt_887) (fun _ h9 => h9) rfl dX15_bodyPlain_142 ?_
              refine lv_iload hx hb dX15_bodyPlain_145 (lv_at hl 1 rfl) ?_
              refine pg_bald hx hb hK hP hi_76 1 hF_112 rfl (vp_in_nI (by omega) (by omega)) dX15_bodyPlain_147 ?_
              refine lv_topi (fun x_119 ex_119 => ?_)
              obtain rfl : x_119 = f_111 i := ex_119.trans (congrArg f_111 (show ((nI i) : Int32).toNatClampNeg = i from nI_clamp (by omega)))
              have hFc := pg_free hD hS hA
              refine va_callv (va_runV (As := [.int (f_111 i)]) (rest := []) ⟨hx, hb, hml, hown, hts⟩ (s_X14_add l dC dI cs ty gm L H.size F_98 pl (ρ + 10) rl 6000 zw (f_111 i) hW hL_pl hT_pl hc3 (by first | omega | assumption | exact Or.inl rfl)) ⟨callB_of 1 hts (gi kt_711) rfl rfl rfl (hts _ kt_676) (hts _ kt_712) (by decide +kernel) ⟨Nat.le_of_ble_eq_true rfl, Nat.le_of_ble_eq_true rfl⟩, (hts _ kt_713), (hts _ kt_714)⟩ ⟨fun a U g mk q => ⟨q.1, PTm.calling q.2⟩, pg_recv hK hP hL_pl hc3 (q := (RX14, TX14, 2)) rfl, fun U hU hWm => ⟨rfl, PTm.mk hU hWm hP hK hD hE hO⟩⟩ rfl rfl hl.1 rfl (lv_room (Nat.le_of_ble_eq_true rfl)) dX15_bodyPlain_148 ⟨by show _ + 0 ≤ 0; omega, by show _ + 0 ≤ 0; omega⟩) hS (fun q _ h => hFc q h) hFc (fun u t H1 locs ht hvm hw hB hz1 hk1 hS => ?_)
              obtain ⟨F_121, hB1, hq_122⟩ := hB
              obtain ⟨hP, hD, hO, hR⟩ := QTm.back hB1 ht hFc hR (fun q h => by simp only [List.mem_cons, List.not_mem_nil, or_false] at h ⊢; omega)
              have hF_123 : F_121 h0 = .inr (15, (.ref ta) :: (.int (nI zt)) :: (.int (nI zo)) :: (.int (nI ze)) :: (.ref ou) :: (.ref so) :: (.ref ad) :: (.ref na) :: (.ref va) :: (.ref lc) :: (.ref dm) :: (.int (nI fm)) :: (.int (nI sn)) :: (.ref tg) :: (.int v14_31) :: (.int v15_32) :: (.ref pe) :: (.int v17_33) :: (.int v18_34) :: (.int v19_35) :: (.int v20_36) :: (.int v21_37) :: (.int v22_38) :: (.ref ml) :: (.ref bg) :: (.ref co) :: (.ref sp) :: (.ref nb0) :: (.ref nb1) :: (.ref nb2) :: (.int (nI nf)) :: (.int (nI bd)) :: (.int (nI mm)) :: (.int v33_39) :: (.ref pl) :: (.ref se) :: (.ref ke) :: (.ref wi) :: (.ref hs) :: (.ref mo) :: (.ref po) :: (.ref nu) :: (.ref pr) :: (.ref sq) :: (.ref xa) :: (.ref sa) :: (.ref n64) :: (.ref m64) :: (.ref ex) :: (.ref wh) :: (.ref sd) :: (.ref tk) :: (.int v52_40) :: (.int v53_41) :: (.int v54_42) :: (.ref hd) :: (.ref ak) :: (.ref ho) :: (.ref ot) :: []) := (hB1.2.2.2 h0 (by rw [hT_h0]; simp)).trans hF_102
              have hF_124 : F_121 ml = .inl (cs 17, 3000, .inl f_111) := (hB1.2.2.2 ml (by rw [ht_77]; simp)).trans hF_112
              generalize H1 = H at hP hS ⊢
              refine lv_goto (tgt := 184) hx hb dX15_bodyPlain_151 (by decide) ?_
              refine lv_iinc (v := (nI (i + 1))) (lv' := [(7, .int (nI (i + 1))), (8, .int r_115), (6, .int s7), (5, .int (nI kt)), (4, .int (nI kend)), (3, .int (nI j)), (2, .int (nI w2)), (0, .ref h0), (1, .int x1)]) hx hb dX15_bodyPlain_184 hl (k := 1) rfl (nI_1 _) (by decide) rfl (fun ls hl => ?_)
              refine lv_goto (tgt := 109) hx hb dX15_bodyPlain_187 (by decide) ?_
              refine W.widen (k := 0) (n := 0) (by omega) (by omega) ?_
              exact ih_101 ((i + 1), (zw + 1)) F_121 (⟨⟨by omega, by omega⟩, by omega, hq_122⟩) (by show kt - (i + 1) < kt - i; omega) hO hR _ _ hP hD hS ls (lv_sub hl [0, 2, 3, 4, 5, 6, 7, 8] rfl)
            ·
              refine lv_iload hx hb dX15_bodyPlain_132 (lv_at hl 0 rfl) ?_
              refine lv_if_ne (tgt := 154) hx hb dX15_bodyPlain_134 (by decide) (fun c_125 => ?_) (fun c_125 => ?_)
              ·
                refine lv_aload_n hx hb dX15_bodyPlain_154 rfl (lv_at hl 7 rfl) ?_
                refine pg_get (ci := 15) (v := .ref ml) (C := RX15) (T := TX15) (N := 59) hx hb hts it_15 hown hK hP hL_h0 hF_102 rfl 23 (by decide) (hts _ kt_887) (fun _ h9 => h9) rfl dX15_bodyPlain_155 ?_
                refine lv_iload hx hb dX15_bodyPlain_158 (lv_at hl 1 rfl) ?_
                refine lv_iconst (v := 1) hx hb dX15_bodyPlain_160 (by decide) ?_
                refine lv_isub hx hb dX15_bodyPlain_161 ?_
                refine lv_topi (fun x_126 ex_126 => ?_)
                obtain rfl : x_126 = (nI (i - 1)) := ex_126.trans (pk_sub (a := i) (b := 1) (by omega))
                refine pg_bald hx hb hK hP hi_76 1 hF_112 rfl (vp_in_nI (by omega) (by omega)) dX15_bodyPlain_162 ?_
                refine lv_topi (fun x_127 ex_127 => ?_)
                obtain rfl : x_127 = f_111 (i - 1) := ex_127.trans (congrArg f_111 (show ((nI (i - 1)) : Int32).toNatClampNeg = (i - 1) from nI_clamp (by omega)))
                have hFc := pg_free hD hS hA
                refine va_calli (va_runS (As := [.int (f_111 (i - 1))]) (rest := []) ⟨hx, hb, hml, hown, hts⟩ (s_X15_isWhite l dC dI cs ty gm L H.size F_98 (f_111 (i - 1)) hW ) ⟨callB_of 1 hts (gi kt_715) rfl rfl rfl (hts _ kt_669) (hts _ kt_716) (by decide +kernel) ⟨Nat.le_of_ble_eq_true rfl, Nat.le_of_ble_eq_true rfl⟩, (hts _ kt_717)⟩ ⟨fun a U g mk q => ⟨q.1, PTm.calling q.2⟩, fun U hU hWm => ⟨rfl, PTm.mk hU hWm hP hK hD hE hO⟩⟩ rfl rfl hl.1 rfl (lv_room (Nat.le_of_ble_eq_true rfl)) dX15_bodyPlain_163 ⟨by show _ + 0 ≤ 0; omega, by show _ + 0 ≤ 0; omega⟩) hS (fun q _ h => hFc q h) hFc (fun r_128 u t H1 locs ht hvm hw hB hz1 hk1 hS => ?_)
                obtain ⟨F_129, hB1⟩ := hB
                obtain rfl : F_98 = F_129 := (funext (fun a => hB1.2.2.2 a List.not_mem_nil)).symm
                obtain ⟨hP, hD, hO, hR⟩ := QTm.back hB1 ht hFc hR (fun q h => absurd h List.not_mem_nil)
                generalize H1 = H at hP hS ⊢
                have hw : (r_128 = 0 ∨ r_128 = 1) := hw
                have hw_130 := hw
                refine lv_if_eq (tgt := 175) hx hb dX15_bodyPlain_166 (by decide) (fun c_131 => ?_) (fun c_131 => ?_)
                ·
                  refine lv_aload_n hx hb dX15_bodyPlain_175 rfl (lv_at hl 7 rfl) ?_
                  refine pg_get (ci := 15) (v := .ref pl) (C := RX15) (T := TX15) (N := 59) hx hb hts it_15 hown hK hP hL_h0 hF_102 rfl 34 (by decide) (hts _ kt_901) (fun _ h9 => h9) rfl dX15_bodyPlain_176 ?_
                  refine lv_bipush (v := 32) hx hb dX15_bodyPlain_179 (by decide) ?_
                  have hFc := pg_free hD hS hA
                  refine va_callv (va_runV (As := [.int 32]) (rest := []) ⟨hx, hb, hml, hown, hts⟩ (s_X14_add l dC dI cs ty gm L H.size F_98 pl (ρ + 10) rl 6000 zw 32 hW hL_pl hT_pl hc3 (by first | omega | assumption | exact Or.inl rfl)) ⟨callB_of 1 hts (gi kt_711) rfl rfl rfl (hts _ kt_676) (hts _ kt_712) (by decide +kernel) ⟨Nat.le_of_ble_eq_true rfl, Nat.le_of_ble_eq_true rfl⟩, (hts _ kt_713), (hts _ kt_714)⟩ ⟨fun a U g mk q => ⟨q.1, PTm.calling q.2⟩, pg_recv hK hP hL_pl hc3 (q := (RX14, TX14, 2)) rfl, fun U hU hWm => ⟨rfl, PTm.mk hU hWm hP hK hD hE hO⟩⟩ rfl rfl hl.1 rfl (lv_room (Nat.le_of_ble_eq_true rfl)) dX15_bodyPlain_181 ⟨by show _ + 0 ≤ 0; omega, by show _ + 0 ≤ 0; omega⟩) hS (fun q _ h => hFc q h) hFc (fun u t H1 locs ht hvm hw hB hz1 hk1 hS => ?_)
                  obtain ⟨F_133, hB1, hq_134⟩ := hB
                  obtain ⟨hP, hD, hO, hR⟩ := QTm.back hB1 ht hFc hR (fun q h => by simp only [List.mem_cons, List.not_mem_nil, or_false] at h ⊢; omega)
                  have hF_135 : F_133 h0 = .inr (15, (.ref ta) :: (.int (nI zt)) :: (.int (nI zo)) :: (.int (nI ze)) :: (.ref ou) :: (.ref so) :: (.ref ad) :: (.ref na) :: (.ref va) :: (.ref lc) :: (.ref dm) :: (.int (nI fm)) :: (.int (nI sn)) :: (.ref tg) :: (.int v14_31) :: (.int v15_32) :: (.ref pe) :: (.int v17_33) :: (.int v18_34) :: (.int v19_35) :: (.int v20_36) :: (.int v21_37) :: (.int v22_38) :: (.ref ml) :: (.ref bg) :: (.ref co) :: (.ref sp) :: (.ref nb0) :: (.ref nb1) :: (.ref nb2) :: (.int (nI nf)) :: (.int (nI bd)) :: (.int (nI mm)) :: (.int v33_39) :: (.ref pl) :: (.ref se) :: (.ref ke) :: (.ref wi) :: (.ref hs) :: (.ref mo) :: (.ref po) :: (.ref nu) :: (.ref pr) :: (.ref sq) :: (.ref xa) :: (.ref sa) :: (.ref n64) :: (.ref m64) :: (.ref ex) :: (.ref wh) :: (.ref sd) :: (.ref tk) :: (.int v52_40) :: (.int v53_41) :: (.int v54_42) :: (.ref hd) :: (.ref ak) :: (.ref ho) :: (.ref ot) :: []) := (hB1.2.2.2 h0 (by rw [hT_h0]; simp)).trans hF_102
                  have hF_136 : F_133 ml = .inl (cs 17, 3000, .inl f_111) := (hB1.2.2.2 ml (by rw [ht_77]; simp)).trans hF_112
                  generalize H1 = H at hP hS ⊢
                  refine lv_iinc (v := (nI (i + 1))) (lv' := [(7, .int (nI (i + 1))), (8, .int r_115), (6, .int s7), (5, .int (nI kt)), (4, .int (nI kend)), (3, .int (nI j)), (2, .int (nI w2)), (0, .ref h0), (1, .int x1)]) hx hb dX15_bodyPlain_184 hl (k := 1) rfl (nI_1 _) (by decide) rfl (fun ls hl => ?_)
                  refine lv_goto (tgt := 109) hx hb dX15_bodyPlain_187 (by decide) ?_
                  refine W.widen (k := 0) (n := 0) (by omega) (by omega) ?_
                  exact ih_101 ((i + 1), (zw + 1)) F_133 (⟨⟨by omega, by omega⟩, by omega, hq_134⟩) (by show kt - (i + 1) < kt - i; omega) hO hR _ _ hP hD hS ls (lv_sub hl [0, 2, 3, 4, 5, 6, 7, 8] rfl)
                ·
                  refine lv_iload hx hb dX15_bodyPlain_169 (lv_at hl 1 rfl) ?_
                  refine lv_iload_n hx hb dX15_bodyPlain_171 rfl (lv_at hl 5 rfl) ?_
                  refine lv_icmp_ne (tgt := 184) hx hb dX15_bodyPlain_172 (by decide) (fun c_137 => ?_) (fun c_137 => ?_)
                  ·
                    have hi_138 : i ≠ j := fun q => c_137 (by rw [q])
                    refine lv_iinc (v := (nI (i + 1))) (lv' := [(7, .int (nI (i + 1))), (8, .int r_115), (6, .int s7), (5, .int (nI kt)), (4, .int (nI kend)), (3, .int (nI j)), (2, .int (nI w2)), (0, .ref h0), (1, .int x1)]) hx hb dX15_bodyPlain_184 hl (k := 1) rfl (nI_1 _) (by decide) rfl (fun ls hl => ?_)
                    refine lv_goto (tgt := 109) hx hb dX15_bodyPlain_187 (by decide) ?_
                    refine W.widen (k := 0) (n := 0) (by omega) (by omega) ?_
                    exact ih_101 ((i + 1), zw) F_98 (⟨⟨by omega, by omega⟩, by omega, hc3⟩) (by show kt - (i + 1) < kt - i; omega) hO hR _ _ hP hD hS ls (lv_sub hl [0, 2, 3, 4, 5, 6, 7, 8] rfl)
                  ·
                    have hi_139 : i = j := (nI_eq (a := i) (b := j) (by omega) (by omega)).mp c_137
                    refine lv_aload_n hx hb dX15_bodyPlain_175 rfl (lv_at hl 7 rfl) ?_
                    refine pg_get (ci := 15) (v := .ref pl) (C := RX15) (T := TX15) (N := 59) hx hb hts it_15 hown hK hP hL_h0 hF_102 rfl 34 (by decide) (hts _ kt_901) (fun _ h9 => h9) rfl dX15_bodyPlain_176 ?_
                    refine lv_bipush (v := 32) hx hb dX15_bodyPlain_179 (by decide) ?_
                    have hFc := pg_free hD hS hA
                    refine va_callv (va_runV (As := [.int 32]) (rest := []) ⟨hx, hb, hml, hown, hts⟩ (s_X14_add l dC dI cs ty gm L H.size F_98 pl (ρ + 10) rl 6000 zw 32 hW hL_pl hT_pl hc3 (by first | omega | assumption | exact Or.inl rfl)) ⟨callB_of 1 hts (gi kt_711) rfl rfl rfl (hts _ kt_676) (hts _ kt_712) (by decide +kernel) ⟨Nat.le_of_ble_eq_true rfl, Nat.le_of_ble_eq_true rfl⟩, (hts _ kt_713), (hts _ kt_714)⟩ ⟨fun a U g mk q => ⟨q.1, PTm.calling q.2⟩, pg_recv hK hP hL_pl hc3 (q := (RX14, TX14, 2)) rfl, fun U hU hWm => ⟨rfl, PTm.mk hU hWm hP hK hD hE hO⟩⟩ rfl rfl hl.1 rfl (lv_room (Nat.le_of_ble_eq_true rfl)) dX15_bodyPlain_181 ⟨by show _ + 0 ≤ 0; omega, by show _ + 0 ≤ 0; omega⟩) hS (fun q _ h => hFc q h) hFc (fun u t H1 locs ht hvm hw hB hz1 hk1 hS => ?_)
                    obtain ⟨F_141, hB1, hq_142⟩ := hB
                    obtain ⟨hP, hD, hO, hR⟩ := QTm.back hB1 ht hFc hR (fun q h => by simp only [List.mem_cons, List.not_mem_nil, or_false] at h ⊢; omega)
                    have hF_143 : F_141 h0 = .inr (15, (.ref ta) :: (.int (nI zt)) :: (.int (nI zo)) :: (.int (nI ze)) :: (.ref ou) :: (.ref so) :: (.ref ad) :: (.ref na) :: (.ref va) :: (.ref lc) :: (.ref dm) :: (.int (nI fm)) :: (.int (nI sn)) :: (.ref tg) :: (.int v14_31) :: (.int v15_32) :: (.ref pe) :: (.int v17_33) :: (.int v18_34) :: (.int v19_35) :: (.int v20_36) :: (.int v21_37) :: (.int v22_38) :: (.ref ml) :: (.ref bg) :: (.ref co) :: (.ref sp) :: (.ref nb0) :: (.ref nb1) :: (.ref nb2) :: (.int (nI nf)) :: (.int (nI bd)) :: (.int (nI mm)) :: (.int v33_39) :: (.ref pl) :: (.ref se) :: (.ref ke) :: (.ref wi) :: (.ref hs) :: (.ref mo) :: (.ref po) :: (.ref nu) :: (.ref pr) :: (.ref sq) :: (.ref xa) :: (.ref sa) :: (.ref n64) :: (.ref m64) :: (.ref ex) :: (.ref wh) :: (.ref sd) :: (.ref tk) :: (.int v52_40) :: (.int v53_41) :: (.int v54_42) :: (.ref hd) :: (.ref ak) :: (.ref ho) :: (.ref ot) :: []) := (hB1.2.2.2 h0 (by rw [hT_h0]; simp)).trans hF_102
                    have hF_144 : F_141 ml = .inl (cs 17, 3000, .inl f_111) := (hB1.2.2.2 ml (by rw [ht_77]; simp)).trans hF_112
                    generalize H1 = H at hP hS ⊢
                    refine lv_iinc (v := (nI (i + 1))) (lv' := [(7, .int (nI (i + 1))), (8, .int r_115), (6, .int s7), (5, .int (nI kt)), (4, .int (nI kend)), (3, .int (nI j)), (2, .int (nI w2)), (0, .ref h0), (1, .int x1)]) hx hb dX15_bodyPlain_184 hl (k := 1) rfl (nI_1 _) (by decide) rfl (fun ls hl => ?_)
                    refine lv_goto (tgt := 109) hx hb dX15_bodyPlain_187 (by decide) ?_
                    refine W.widen (k := 0) (n := 0) (by omega) (by omega) ?_
                    exact ih_101 ((i + 1), (zw + 1)) F_141 (⟨⟨by omega, by omega⟩, by omega, hq_142⟩) (by show kt - (i + 1) < kt - i; omega) hO hR _ _ hP hD hS ls (lv_sub hl [0, 2, 3, 4, 5, 6, 7, 8] rfl)
              ·
                refine lv_aload_n hx hb dX15_bodyPlain_137 rfl (lv_at hl 7 rfl) ?_
                refine pg_get (ci := 15) (v := .ref pl) (C := RX15) (T := TX15) (N := 59) hx hb hts it_15 hown hK hP hL_h0 hF_102 rfl 34 (by decide) (hts _ kt_901) (fun _ h9 => h9) rfl dX15_bodyPlain_138 ?_
                refine lv_aload_n hx hb dX15_bodyPlain_141 rfl (lv_at hl 7 rfl) ?_
                refine pg_get (ci := 15) (v := .ref ml) (C := RX15) (T := TX15) (N := 59) hx hb hts it_15 hown hK hP hL_h0 hF_102 rfl 23 (by decide) (hts _ kt_887) (fun _ h9 => h9) rfl dX15_bodyPlain_142 ?_
                refine lv_iload hx hb dX15_bodyPlain_145 (lv_at hl 1 rfl) ?_
                refine pg_bald hx hb hK hP hi_76 1 hF_112 rfl (vp_in_nI (by omega) (by omega)) dX15_bodyPlain_147 ?_
                refine lv_topi (fun x_145 ex_145 => ?_)
                obtain rfl : x_145 = f_111 i := ex_145.trans (congrArg f_111 (show ((nI i) : Int32).toNatClampNeg = i from nI_clamp (by omega)))
                have hFc := pg_free hD hS hA
                refine va_callv (va_runV (As := [.int (f_111 i)]) (rest := []) ⟨hx, hb, hml, hown, hts⟩ (s_X14_add l dC dI cs ty gm L H.size F_98 pl (ρ + 10) rl 6000 zw (f_111 i) hW hL_pl hT_pl hc3 (by first | omega | assumption | exact Or.inl rfl)) ⟨callB_of 1 hts (gi kt_711) rfl rfl rfl (hts _ kt_676) (hts _ kt_712) (by decide +kernel) ⟨Nat.le_of_ble_eq_true rfl, Nat.le_of_ble_eq_true rfl⟩, (hts _ kt_713), (hts _ kt_714)⟩ ⟨fun a U g mk q => ⟨q.1, PTm.calling q.2⟩, pg_recv hK hP hL_pl hc3 (q := (RX14, TX14, 2)) rfl, fun U hU hWm => ⟨rfl, PTm.mk hU hWm hP hK hD hE hO⟩⟩ rfl rfl hl.1 rfl (lv_room (Nat.le_of_ble_eq_true rfl)) dX15_bodyPlain_148 ⟨by show _ + 0 ≤ 0; omega, by show _ + 0 ≤ 0; omega⟩) hS (fun q _ h => hFc q h) hFc (fun u t H1 locs ht hvm hw hB hz1 hk1 hS => ?_)
                obtain ⟨F_147, hB1, hq_148⟩ := hB
                obtain ⟨hP, hD, hO, hR⟩ := QTm.back hB1 ht hFc hR (fun q h => by simp only [List.mem_cons, List.not_mem_nil, or_false] at h ⊢; omega)
                have hF_149 : F_147 h0 = .inr (15, (.ref ta) :: (.int (nI zt)) :: (.int (nI zo)) :: (.int (nI ze)) :: (.ref ou) :: (.ref so) :: (.ref ad) :: (.ref na) :: (.ref va) :: (.ref lc) :: (.ref dm) :: (.int (nI fm)) :: (.int (nI sn)) :: (.ref tg) :: (.int v14_31) :: (.int v15_32) :: (.ref pe) :: (.int v17_33) :: (.int v18_34) :: (.int v19_35) :: (.int v20_36) :: (.int v21_37) :: (.int v22_38) :: (.ref ml) :: (.ref bg) :: (.ref co) :: (.ref sp) :: (.ref nb0) :: (.ref nb1) :: (.ref nb2) :: (.int (nI nf)) :: (.int (nI bd)) :: (.int (nI mm)) :: (.int v33_39) :: (.ref pl) :: (.ref se) :: (.ref ke) :: (.ref wi) :: (.ref hs) :: (.ref mo) :: (.ref po) :: (.ref nu) :: (.ref pr) :: (.ref sq) :: (.ref xa) :: (.ref sa) :: (.ref n64) :: (.ref m64) :: (.ref ex) :: (.ref wh) :: (.ref sd) :: (.ref tk) :: (.int v52_40) :: (.int v53_41) :: (.int v54_42) :: (.ref hd) :: (.ref ak) :: (.ref ho) :: (.ref ot) :: []) := (hB1.2.2.2 h0 (by rw [hT_h0]; simp)).trans hF_102
                have hF_150 : F_147 ml = .inl (cs 17, 3000, .inl f_111) := (hB1.2.2.2 ml (by rw [ht_77]; simp)).trans hF_112
                generalize H1 = H at hP hS ⊢
                refine lv_goto (tgt := 184) hx hb dX15_bodyPlain_151 (by decide) ?_
                refine lv_iinc (v := (nI (i + 1))) (lv' := [(7, .int (nI (i + 1))), (8, .int r_115), (6, .int s7), (5, .int (nI kt)), (4, .int (nI kend)), (3, .int (nI j)), (2, .int (nI w2)), (0, .ref h0), (1, .int x1)]) hx hb dX15_bodyPlain_184 hl (k := 1) rfl (nI_1 _) (by decide) rfl (fun ls hl => ?_)
                refine lv_goto (tgt := 109) hx hb dX15_bodyPlain_187 (by decide) ?_
                refine W.widen (k := 0) (n := 0) (by omega) (by omega) ?_
                exact ih_101 ((i + 1), (zw + 1)) F_147 (⟨⟨by omega, by omega⟩, by omega, hq_148⟩) (by show kt - (i + 1) < kt - i; omega) hO hR _ _ hP hD hS ls (lv_sub hl [0, 2, 3, 4, 5, 6, 7, 8] rfl)
        ·
          refine lv_iload hx hb dX15_bodyPlain_93 (lv_at hl 0 rfl) ?_
          refine lv_iload_n hx hb dX15_bodyPlain_95 rfl (lv_at hl 2 rfl) ?_
          refine lv_icmp_le (tgt := 103) hx hb dX15_bodyPlain_96 (by decide) (fun c_151 => ?_) (fun c_151 => ?_)
          ·
            have hi_152 : kt ≤ j := (nI_leI (a := kt) (b := j) (by omega) (by omega)).mp c_151
            refine lv_iconst (v := 0) hx hb dX15_bodyPlain_103 (by decide) ?_
            refine W.widen (k := 0) (n := 0) (by omega) (by omega) ?_
            exact jn_93 0 F_89 (hkt3) hO hR _ _ hP hD hS ls (lv_sub hl [0, 1, 2, 3, 4, 5] rfl)
          ·
            have hi_153 : j < kt := Nat.not_le.mp (fun q => c_151 ((nI_leI (a := kt) (b := j) (by omega) (by omega)).mpr q))
            refine lv_iconst (v := 1) hx hb dX15_bodyPlain_99 (by decide) ?_
            refine lv_goto (tgt := 104) hx hb dX15_bodyPlain_100 (by decide) ?_
            refine W.widen (k := 0) (n := 0) (by omega) (by omega) ?_
            exact jn_93 1 F_89 (hkt3) hO hR _ _ hP hD hS ls (lv_sub hl [0, 1, 2, 3, 4, 5] rfl)
      ·
        refine lv_iload_n hx hb dX15_bodyPlain_62 rfl (lv_at hl 5 rfl) ?_
        refine lv_if_eq (tgt := 93) hx hb dX15_bodyPlain_63 (by decide) (fun c_154 => ?_) (fun c_154 => ?_)
        ·
          refine W.widen (k := 0) (n := 0) (by omega) (by omega) ?_
          exact jn_88 (nI ks) F_84 (⟨⟨ks, by omega, by omega, rfl⟩, hks3⟩) hO hR _ _ hP hD hS ls (lv_sub hl [0, 1, 2, 3, 4, 5] rfl)
        ·
          refine W.widen (k := 0) (n := 0) (by omega) (by omega) ?_
          have hF_156 : F h0 = .inr (15, (.ref ta) :: (.int (nI zt)) :: (.int (nI zo)) :: (.int (nI ze)) :: (.ref ou) :: (.ref so) :: (.ref ad) :: (.ref na) :: (.ref va) :: (.ref lc) :: (.ref dm) :: (.int (nI fm)) :: (.int (nI sn)) :: (.ref tg) :: (.int v14_31) :: (.int v15_32) :: (.ref pe) :: (.int v17_33) :: (.int v18_34) :: (.int v19_35) :: (.int v20_36) :: (.int v21_37) :: (.int v22_38) :: (.ref ml) :: (.ref bg) :: (.ref co) :: (.ref sp) :: (.ref nb0) :: (.ref nb1) :: (.ref nb2) :: (.int (nI nf)) :: (.int (nI bd)) :: (.int (nI mm)) :: (.int v33_39) :: (.ref pl) :: (.ref se) :: (.ref ke) :: (.ref wi) :: (.ref hs) :: (.ref mo) :: (.ref po) :: (.ref nu) :: (.ref pr) :: (.ref sq) :: (.ref xa) :: (.ref sa) :: (.ref n64) :: (.ref m64) :: (.ref ex) :: (.ref wh) :: (.ref sd) :: (.ref tk) :: (.int v52_40) :: (.int v53_41) :: (.int v54_42) :: (.ref hd) :: (.ref ak) :: (.ref ho) :: (.ref ot) :: []) := (hR h0 (by rw [hT_h0]; simp)).symm.trans hF_87
          refine pl_loopm (σ := Nat) A (dC, dI) cs ty gm L [ρ + 10] F 66 9 (fun kx => [(5, .int (nI kx)), (4, .int (nI kend)), (3, .int (nI j)), (2, .int (nI w2)), (0, .ref h0), (1, .int x1)]) (fun kx => []) (fun kx FF => j ≤ kx ∧ kx ≤ kend ∧ FF pl = .inr (14, [.ref rl, .int (nI zz)])) (fun kx => kx) ?_ ks F_84 (⟨by omega, by omega, hks3⟩) hO hR _ _ hP hD hS ls (lv_sub hl [0, 1, 2, 3, 4, 5] rfl)
          rintro kx F_155 hv_157 hO hR ih_158 H locs hP hD hS ls hl
          have hl : lv_has ls 9 [(5, .int (nI kx)), (4, .int (nI kend)), (3, .int (nI j)), (2, .int (nI w2)), (0, .ref h0), (1, .int x1)] := hl
          have hv_157 : j ≤ kx ∧ kx ≤ kend ∧ F_155 pl = .inr (14, [.ref rl, .int (nI zz)]) := hv_157
          refine W.eq (g2 := F0 m 66 ls []) rfl ?_
          have hF_159 : F_155 h0 = .inr (15, (.ref ta) :: (.int (nI zt)) :: (.int (nI zo)) :: (.int (nI ze)) :: (.ref ou) :: (.ref so) :: (.ref ad) :: (.ref na) :: (.ref va) :: (.ref lc) :: (.ref dm) :: (.int (nI fm)) :: (.int (nI sn)) :: (.ref tg) :: (.int v14_31) :: (.int v15_32) :: (.ref pe) :: (.int v17_33) :: (.int v18_34) :: (.int v19_35) :: (.int v20_36) :: (.int v21_37) :: (.int v22_38) :: (.ref ml) :: (.ref bg) :: (.ref co) :: (.ref sp) :: (.ref nb0) :: (.ref nb1) :: (.ref nb2) :: (.int (nI nf)) :: (.int (nI bd)) :: (.int (nI mm)) :: (.int v33_39) :: (.ref pl) :: (.ref se) :: (.ref ke) :: (.ref wi) :: (.ref hs) :: (.ref mo) :: (.ref po) :: (.ref nu) :: (.ref pr) :: (.ref sq) :: (.ref xa) :: (.ref sa) :: (.ref n64) :: (.ref m64) :: (.ref ex) :: (.ref wh) :: (.ref sd) :: (.ref tk) :: (.int v52_40) :: (.int v53_41) :: (.int v54_42) :: (.ref hd) :: (.ref ak) :: (.ref ho) :: (.ref ot) :: []) := (hR h0 (by rw [hT_h0]; simp)).trans hF_156
          obtain ⟨hb1, hb2, hb3⟩ := hv_157
          refine lv_iload hx hb dX15_bodyPlain_66 (lv_at hl 0 rfl) ?_
          refine lv_iload_n hx hb dX15_bodyPlain_68 rfl (lv_at hl 2 rfl) ?_
          refine lv_icmp_le (tgt := 93) hx hb dX15_bodyPlain_69 (by decide) (fun c_160 => ?_) (fun c_160 => ?_)
          ·
            have hi_161 : kx ≤ j := (nI_leI (a := kx) (b := j) (by omega) (by omega)).mp c_160
            refine W.widen (k := 0) (n := 0) (by omega) (by omega) ?_
            exact jn_88 (nI kx) F_155 (⟨⟨kx, by omega, by omega, rfl⟩, hb3⟩) hO hR _ _ hP hD hS ls (lv_sub hl [0, 1, 2, 3, 4, 5] rfl)
          ·
            have hi_162 : j < kx := Nat.not_le.mp (fun q => c_160 ((nI_leI (a := kx) (b := j) (by omega) (by omega)).mpr q))
            refine lv_aload_n hx hb dX15_bodyPlain_72 rfl (lv_at hl 4 rfl) ?_
            refine pg_get (ci := 15) (v := .ref ml) (C := RX15) (T := TX15) (N := 59) hx hb hts it_15 hown hK hP hL_h0 hF_159 rfl 23 (by decide) (hts _ kt_887) (fun _ h9 => h9) rfl dX15_bodyPlain_73 ?_
            refine lv_iload hx hb dX15_bodyPlain_76 (lv_at hl 0 rfl) ?_
            refine lv_iconst (v := 1) hx hb dX15_bodyPlain_78 (by decide) ?_
            refine lv_isub hx hb dX15_bodyPlain_79 ?_
            refine lv_topi (fun x_163 ex_163 => ?_)
            obtain rfl : x_163 = (nI (kx - 1)) := ex_163.trans (pk_sub (a := kx) (b := 1) (by omega))
            obtain ⟨f_164, hF_165, hq_166⟩ := hO.octs hi_76 ht_77
            refine pg_bald hx hb hK hP hi_76 1 hF_165 rfl (vp_in_nI (by omega) (by omega)) dX15_bodyPlain_80 ?_
            refine lv_topi (fun x_167 ex_167 => ?_)
            obtain rfl : x_167 = f_164 (kx - 1) := ex_167.trans (congrArg f_164 (show ((nI (kx - 1)) : Int32).toNatClampNeg = (kx - 1) from nI_clamp (by omega)))
            have hFc := pg_free hD hS hA
            refine va_calli (va_runS (As := [.int (f_164 (kx - 1))]) (rest := []) ⟨hx, hb, hml, hown, hts⟩ (s_X15_isWhite l dC dI cs ty gm L H.size F_155 (f_164 (kx - 1)) hW ) ⟨callB_of 1 hts (gi kt_715) rfl rfl rfl (hts _ kt_669) (hts _ kt_716) (by decide +kernel) ⟨Nat.le_of_ble_eq_true rfl, Nat.le_of_ble_eq_true rfl⟩, (hts _ kt_717)⟩ ⟨fun a U g mk q => ⟨q.1, PTm.calling q.2⟩, fun U hU hWm => ⟨rfl, PTm.mk hU hWm hP hK hD hE hO⟩⟩ rfl rfl hl.1 rfl (lv_room (Nat.le_of_ble_eq_true rfl)) dX15_bodyPlain_81 ⟨by show _ + 0 ≤ 0; omega, by show _ + 0 ≤ 0; omega⟩) hS (fun q _ h => hFc q h) hFc (fun r_168 u t H1 locs ht hvm hw hB hz1 hk1 hS => ?_)
            obtain ⟨F_169, hB1⟩ := hB
            obtain rfl : F_155 = F_169 := (funext (fun a => hB1.2.2.2 a List.not_mem_nil)).symm
            obtain ⟨hP, hD, hO, hR⟩ := QTm.back hB1 ht hFc hR (fun q h => absurd h List.not_mem_nil)
            generalize H1 = H at hP hS ⊢
            have hw : (r_168 = 0 ∨ r_168 = 1) := hw
            have hw_170 := hw
            refine lv_if_eq (tgt := 93) hx hb dX15_bodyPlain_84 (by decide) (fun c_171 => ?_) (fun c_171 => ?_)
            ·
              refine W.widen (k := 0) (n := 0) (by omega) (by omega) ?_
              exact jn_88 (nI kx) F_155 (⟨⟨kx, by omega, by omega, rfl⟩, hb3⟩) hO hR _ _ hP hD hS ls (lv_sub hl [0, 1, 2, 3, 4, 5] rfl)
            ·
              refine lv_iinc (v := (nI (kx - 1))) (lv' := [(5, .int (nI (kx - 1))), (4, .int (nI kend)), (3, .int (nI j)), (2, .int (nI w2)), (0, .ref h0), (1, .int x1)]) hx hb dX15_bodyPlain_87 hl (k := 0) rfl (m1N (by omega)) (by decide) rfl (fun ls hl => ?_)
              refine lv_goto (tgt := 66) hx hb dX15_bodyPlain_90 (by decide) ?_
              refine W.widen (k := 0) (n := 0) (by omega) (by omega) ?_
              exact ih_158 (kx - 1) F_155 (⟨by omega, by omega, hb3⟩) (by show (kx - 1) < kx; omega) hO hR _ _ hP hD hS ls (lv_sub hl [0, 1, 2, 3, 4, 5] rfl)
    ·
      refine lv_aload_n hx hb dX15_bodyPlain_37 rfl (lv_at hl 3 rfl) ?_
      refine pg_get (ci := 15) (v := .ref ml) (C := RX15) (T := TX15) (N := 59) hx hb hts it_15 hown hK hP hL_h0 hF_60 rfl 23 (by decide) (hts _ kt_887) (fun _ h9 => h9) rfl dX15_bodyPlain_38 ?_
      refine lv_iload hx hb dX15_bodyPlain_41 (lv_at hl 0 rfl) ?_
      refine lv_iconst (v := 1) hx hb dX15_bodyPlain_43 (by decide) ?_
      refine lv_isub hx hb dX15_bodyPlain_44 ?_
      refine lv_topi (fun x_172 ex_172 => ?_)
      obtain rfl : x_172 = (nI (kend - 1)) := ex_172.trans (pk_sub (a := kend) (b := 1) (by omega))
      obtain ⟨f_173, hF_174, hq_175⟩ := hO.octs hi_76 ht_77
      refine pg_bald hx hb hK hP hi_76 1 hF_174 rfl (vp_in_nI (by omega) (by omega)) dX15_bodyPlain_45 ?_
      refine lv_topi (fun x_176 ex_176 => ?_)
      obtain rfl : x_176 = f_173 (kend - 1) := ex_176.trans (congrArg f_173 (show ((nI (kend - 1)) : Int32).toNatClampNeg = (kend - 1) from nI_clamp (by omega)))
      refine lv_bipush (v := 10) hx hb dX15_bodyPlain_46 (by decide) ?_
      refine lv_icmp_ne (tgt := 58) hx hb dX15_bodyPlain_48 (by decide) (fun c_177 => ?_) (fun c_177 => ?_)
      ·
        refine lv_iload hx hb dX15_bodyPlain_58 (lv_at hl 0 rfl) ?_
        refine W.widen (k := 0) (n := 0) (by omega) (by omega) ?_
        exact jn_83 (nI kend) F_56 (⟨⟨kend, by omega, by omega, rfl⟩, ha4⟩) hO hR _ _ hP hD hS ls (lv_sub hl [0, 1, 2, 3, 4] rfl)
      ·
        refine lv_iload hx hb dX15_bodyPlain_51 (lv_at hl 0 rfl) ?_
        refine lv_iconst (v := 1) hx hb dX15_bodyPlain_53 (by decide) ?_
        refine lv_isub hx hb dX15_bodyPlain_54 ?_
        refine lv_topi (fun x_178 ex_178 => ?_)
        obtain rfl : x_178 = (nI (kend - 1)) := ex_178.trans (pk_sub (a := kend) (b := 1) (by omega))
        refine lv_goto (tgt := 60) hx hb dX15_bodyPlain_55 (by decide) ?_
        refine W.widen (k := 0) (n := 0) (by omega) (by omega) ?_
        exact jn_83 (nI (kend - 1)) F_56 (⟨⟨(kend - 1), by omega, by omega, rfl⟩, ha4⟩) hO hR _ _ hP hD hS ls (lv_sub hl [0, 1, 2, 3, 4] rfl)
