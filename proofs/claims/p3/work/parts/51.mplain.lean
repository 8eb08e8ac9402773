theorem dX15_bodyPlain_0 : decode cX15_bodyPlain 0 = .ok (.aload_n 0, 1) := by decide +kernel
theorem dX15_bodyPlain_1 : decode cX15_bodyPlain 1 = .ok (.getfield 91, 3) := by decide +kernel
theorem dX15_bodyPlain_4 : decode cX15_bodyPlain 4 = .ok (.iconst 0, 1) := by decide +kernel
theorem dX15_bodyPlain_5 : decode cX15_bodyPlain 5 = .ok (.putfield 190, 3) := by decide +kernel
theorem dX15_bodyPlain_8 : decode cX15_bodyPlain 8 = .ok (.iconst 0, 1) := by decide +kernel
theorem dX15_bodyPlain_9 : decode cX15_bodyPlain 9 = .ok (.istore_n 2, 1) := by decide +kernel
theorem dX15_bodyPlain_10 : decode cX15_bodyPlain 10 = .ok (.aload_n 0, 1) := by decide +kernel
theorem dX15_bodyPlain_11 : decode cX15_bodyPlain 11 = .ok (.getfield 364, 3) := by decide +kernel
theorem dX15_bodyPlain_14 : decode cX15_bodyPlain 14 = .ok (.istore_n 3, 1) := by decide +kernel
theorem dX15_bodyPlain_15 : decode cX15_bodyPlain 15 = .ok (.iload_n 3, 1) := by decide +kernel
theorem dX15_bodyPlain_16 : decode cX15_bodyPlain 16 = .ok (.aload_n 0, 1) := by decide +kernel
theorem dX15_bodyPlain_17 : decode cX15_bodyPlain 17 = .ok (.getfield 367, 3) := by decide +kernel
theorem dX15_bodyPlain_20 : decode cX15_bodyPlain 20 = .ok (.if_icmp .ge 198, 3) := by decide +kernel
theorem dX15_bodyPlain_23 : decode cX15_bodyPlain 23 = .ok (.aload_n 0, 1) := by decide +kernel
theorem dX15_bodyPlain_24 : decode cX15_bodyPlain 24 = .ok (.getfield 70, 3) := by decide +kernel
theorem dX15_bodyPlain_27 : decode cX15_bodyPlain 27 = .ok (.iload_n 3, 1) := by decide +kernel
theorem dX15_bodyPlain_28 : decode cX15_bodyPlain 28 = .ok (.aload_n 0, 1) := by decide +kernel
theorem dX15_bodyPlain_29 : decode cX15_bodyPlain 29 = .ok (.getfield 367, 3) := by decide +kernel
theorem dX15_bodyPlain_32 : decode cX15_bodyPlain 32 = .ok (.invokestatic 344, 3) := by decide +kernel
theorem dX15_bodyPlain_35 : decode cX15_bodyPlain 35 = .ok (.istore 4, 2) := by decide +kernel
theorem dX15_bodyPlain_37 : decode cX15_bodyPlain 37 = .ok (.aload_n 0, 1) := by decide +kernel
theorem dX15_bodyPlain_38 : decode cX15_bodyPlain 38 = .ok (.getfield 70, 3) := by decide +kernel
theorem dX15_bodyPlain_41 : decode cX15_bodyPlain 41 = .ok (.iload 4, 2) := by decide +kernel
theorem dX15_bodyPlain_43 : decode cX15_bodyPlain 43 = .ok (.iconst 1, 1) := by decide +kernel
theorem dX15_bodyPlain_44 : decode cX15_bodyPlain 44 = .ok (.isub, 1) := by decide +kernel
theorem dX15_bodyPlain_45 : decode cX15_bodyPlain 45 = .ok (.baload, 1) := by decide +kernel
theorem dX15_bodyPlain_46 : decode cX15_bodyPlain 46 = .ok (.bipush 10, 2) := by decide +kernel
theorem dX15_bodyPlain_48 : decode cX15_bodyPlain 48 = .ok (.if_icmp .ne 10, 3) := by decide +kernel
theorem dX15_bodyPlain_51 : decode cX15_bodyPlain 51 = .ok (.iload 4, 2) := by decide +kernel
theorem dX15_bodyPlain_53 : decode cX15_bodyPlain 53 = .ok (.iconst 1, 1) := by decide +kernel
theorem dX15_bodyPlain_54 : decode cX15_bodyPlain 54 = .ok (.isub, 1) := by decide +kernel
theorem dX15_bodyPlain_55 : decode cX15_bodyPlain 55 = .ok (.goto 5, 3) := by decide +kernel
theorem dX15_bodyPlain_58 : decode cX15_bodyPlain 58 = .ok (.iload 4, 2) := by decide +kernel
theorem dX15_bodyPlain_60 : decode cX15_bodyPlain 60 = .ok (.istore 5, 2) := by decide +kernel
theorem dX15_bodyPlain_62 : decode cX15_bodyPlain 62 = .ok (.iload_n 1, 1) := by decide +kernel
theorem dX15_bodyPlain_63 : decode cX15_bodyPlain 63 = .ok (.ifCond .eq 30, 3) := by decide +kernel
theorem dX15_bodyPlain_66 : decode cX15_bodyPlain 66 = .ok (.iload 5, 2) := by decide +kernel
theorem dX15_bodyPlain_68 : decode cX15_bodyPlain 68 = .ok (.iload_n 3, 1) := by decide +kernel
theorem dX15_bodyPlain_69 : decode cX15_bodyPlain 69 = .ok (.if_icmp .le 24, 3) := by decide +kernel
theorem dX15_bodyPlain_72 : decode cX15_bodyPlain 72 = .ok (.aload_n 0, 1) := by decide +kernel
theorem dX15_bodyPlain_73 : decode cX15_bodyPlain 73 = .ok (.getfield 70, 3) := by decide +kernel
theorem dX15_bodyPlain_76 : decode cX15_bodyPlain 76 = .ok (.iload 5, 2) := by decide +kernel
theorem dX15_bodyPlain_78 : decode cX15_bodyPlain 78 = .ok (.iconst 1, 1) := by decide +kernel
theorem dX15_bodyPlain_79 : decode cX15_bodyPlain 79 = .ok (.isub, 1) := by decide +kernel
theorem dX15_bodyPlain_80 : decode cX15_bodyPlain 80 = .ok (.baload, 1) := by decide +kernel
theorem dX15_bodyPlain_81 : decode cX15_bodyPlain 81 = .ok (.invokestatic 347, 3) := by decide +kernel
theorem dX15_bodyPlain_84 : decode cX15_bodyPlain 84 = .ok (.ifCond .eq 9, 3) := by decide +kernel
theorem dX15_bodyPlain_87 : decode cX15_bodyPlain 87 = .ok (.iinc 5 (-1), 3) := by decide +kernel
theorem dX15_bodyPlain_90 : decode cX15_bodyPlain 90 = .ok (.goto (-24), 3) := by decide +kernel
theorem dX15_bodyPlain_93 : decode cX15_bodyPlain 93 = .ok (.iload 5, 2) := by decide +kernel
theorem dX15_bodyPlain_95 : decode cX15_bodyPlain 95 = .ok (.iload_n 3, 1) := by decide +kernel
theorem dX15_bodyPlain_96 : decode cX15_bodyPlain 96 = .ok (.if_icmp .le 7, 3) := by decide +kernel
theorem dX15_bodyPlain_99 : decode cX15_bodyPlain 99 = .ok (.iconst 1, 1) := by decide +kernel
theorem dX15_bodyPlain_100 : decode cX15_bodyPlain 100 = .ok (.goto 4, 3) := by decide +kernel
theorem dX15_bodyPlain_103 : decode cX15_bodyPlain 103 = .ok (.iconst 0, 1) := by decide +kernel
theorem dX15_bodyPlain_104 : decode cX15_bodyPlain 104 = .ok (.istore 6, 2) := by decide +kernel
theorem dX15_bodyPlain_106 : decode cX15_bodyPlain 106 = .ok (.iload_n 3, 1) := by decide +kernel
theorem dX15_bodyPlain_107 : decode cX15_bodyPlain 107 = .ok (.istore 7, 2) := by decide +kernel
theorem dX15_bodyPlain_109 : decode cX15_bodyPlain 109 = .ok (.iload 7, 2) := by decide +kernel
theorem dX15_bodyPlain_111 : decode cX15_bodyPlain 111 = .ok (.iload 5, 2) := by decide +kernel
theorem dX15_bodyPlain_113 : decode cX15_bodyPlain 113 = .ok (.if_icmp .ge 77, 3) := by decide +kernel
theorem dX15_bodyPlain_116 : decode cX15_bodyPlain 116 = .ok (.aload_n 0, 1) := by decide +kernel
theorem dX15_bodyPlain_117 : decode cX15_bodyPlain 117 = .ok (.getfield 70, 3) := by decide +kernel
theorem dX15_bodyPlain_120 : decode cX15_bodyPlain 120 = .ok (.iload 7, 2) := by decide +kernel
theorem dX15_bodyPlain_122 : decode cX15_bodyPlain 122 = .ok (.baload, 1) := by decide +kernel
theorem dX15_bodyPlain_123 : decode cX15_bodyPlain 123 = .ok (.invokestatic 347, 3) := by decide +kernel
theorem dX15_bodyPlain_126 : decode cX15_bodyPlain 126 = .ok (.istore 8, 2) := by decide +kernel
theorem dX15_bodyPlain_128 : decode cX15_bodyPlain 128 = .ok (.iload_n 1, 1) := by decide +kernel
theorem dX15_bodyPlain_129 : decode cX15_bodyPlain 129 = .ok (.ifCond .eq 8, 3) := by decide +kernel
theorem dX15_bodyPlain_132 : decode cX15_bodyPlain 132 = .ok (.iload 8, 2) := by decide +kernel
theorem dX15_bodyPlain_134 : decode cX15_bodyPlain 134 = .ok (.ifCond .ne 20, 3) := by decide +kernel
theorem dX15_bodyPlain_137 : decode cX15_bodyPlain 137 = .ok (.aload_n 0, 1) := by decide +kernel
theorem dX15_bodyPlain_138 : decode cX15_bodyPlain 138 = .ok (.getfield 91, 3) := by decide +kernel
theorem dX15_bodyPlain_141 : decode cX15_bodyPlain 141 = .ok (.aload_n 0, 1) := by decide +kernel
theorem dX15_bodyPlain_142 : decode cX15_bodyPlain 142 = .ok (.getfield 70, 3) := by decide +kernel
theorem dX15_bodyPlain_145 : decode cX15_bodyPlain 145 = .ok (.iload 7, 2) := by decide +kernel
theorem dX15_bodyPlain_147 : decode cX15_bodyPlain 147 = .ok (.baload, 1) := by decide +kernel
theorem dX15_bodyPlain_148 : decode cX15_bodyPlain 148 = .ok (.invokevirtual 292, 3) := by decide +kernel
theorem dX15_bodyPlain_151 : decode cX15_bodyPlain 151 = .ok (.goto 33, 3) := by decide +kernel
theorem dX15_bodyPlain_154 : decode cX15_bodyPlain 154 = .ok (.aload_n 0, 1) := by decide +kernel
theorem dX15_bodyPlain_155 : decode cX15_bodyPlain 155 = .ok (.getfield 70, 3) := by decide +kernel
theorem dX15_bodyPlain_158 : decode cX15_bodyPlain 158 = .ok (.iload 7, 2) := by decide +kernel
theorem dX15_bodyPlain_160 : decode cX15_bodyPlain 160 = .ok (.iconst 1, 1) := by decide +kernel
theorem dX15_bodyPlain_161 : decode cX15_bodyPlain 161 = .ok (.isub, 1) := by decide +kernel
theorem dX15_bodyPlain_162 : decode cX15_bodyPlain 162 = .ok (.baload, 1) := by decide +kernel
theorem dX15_bodyPlain_163 : decode cX15_bodyPlain 163 = .ok (.invokestatic 347, 3) := by decide +kernel
theorem dX15_bodyPlain_166 : decode cX15_bodyPlain 166 = .ok (.ifCond .eq 9, 3) := by decide +kernel
theorem dX15_bodyPlain_169 : decode cX15_bodyPlain 169 = .ok (.iload 7, 2) := by decide +kernel
theorem dX15_bodyPlain_171 : decode cX15_bodyPlain 171 = .ok (.iload_n 3, 1) := by decide +kernel
theorem dX15_bodyPlain_172 : decode cX15_bodyPlain 172 = .ok (.if_icmp .ne 12, 3) := by decide +kernel
theorem dX15_bodyPlain_175 : decode cX15_bodyPlain 175 = .ok (.aload_n 0, 1) := by decide +kernel
theorem dX15_bodyPlain_176 : decode cX15_bodyPlain 176 = .ok (.getfield 91, 3) := by decide +kernel
theorem dX15_bodyPlain_179 : decode cX15_bodyPlain 179 = .ok (.bipush 32, 2) := by decide +kernel
theorem dX15_bodyPlain_181 : decode cX15_bodyPlain 181 = .ok (.invokevirtual 292, 3) := by decide +kernel
theorem dX15_bodyPlain_184 : decode cX15_bodyPlain 184 = .ok (.iinc 7 1, 3) := by decide +kernel
theorem dX15_bodyPlain_187 : decode cX15_bodyPlain 187 = .ok (.goto (-78), 3) := by decide +kernel
theorem dX15_bodyPlain_190 : decode cX15_bodyPlain 190 = .ok (.aload_n 0, 1) := by decide +kernel
theorem dX15_bodyPlain_191 : decode cX15_bodyPlain 191 = .ok (.getfield 91, 3) := by decide +kernel
theorem dX15_bodyPlain_194 : decode cX15_bodyPlain 194 = .ok (.bipush 10, 2) := by decide +kernel
theorem dX15_bodyPlain_196 : decode cX15_bodyPlain 196 = .ok (.invokevirtual 292, 3) := by decide +kernel
theorem dX15_bodyPlain_199 : decode cX15_bodyPlain 199 = .ok (.iload 6, 2) := by decide +kernel
theorem dX15_bodyPlain_201 : decode cX15_bodyPlain 201 = .ok (.ifCond .eq 11, 3) := by decide +kernel
theorem dX15_bodyPlain_204 : decode cX15_bodyPlain 204 = .ok (.aload_n 0, 1) := by decide +kernel
theorem dX15_bodyPlain_205 : decode cX15_bodyPlain 205 = .ok (.getfield 91, 3) := by decide +kernel
theorem dX15_bodyPlain_208 : decode cX15_bodyPlain 208 = .ok (.getfield 190, 3) := by decide +kernel
theorem dX15_bodyPlain_211 : decode cX15_bodyPlain 211 = .ok (.istore_n 2, 1) := by decide +kernel
theorem dX15_bodyPlain_212 : decode cX15_bodyPlain 212 = .ok (.iload 4, 2) := by decide +kernel
theorem dX15_bodyPlain_214 : decode cX15_bodyPlain 214 = .ok (.istore_n 3, 1) := by decide +kernel
theorem dX15_bodyPlain_215 : decode cX15_bodyPlain 215 = .ok (.goto (-200), 3) := by decide +kernel
theorem dX15_bodyPlain_218 : decode cX15_bodyPlain 218 = .ok (.aload_n 0, 1) := by decide +kernel
theorem dX15_bodyPlain_219 : decode cX15_bodyPlain 219 = .ok (.getfield 91, 3) := by decide +kernel
theorem dX15_bodyPlain_222 : decode cX15_bodyPlain 222 = .ok (.iload_n 2, 1) := by decide +kernel
theorem dX15_bodyPlain_223 : decode cX15_bodyPlain 223 = .ok (.putfield 190, 3) := by decide +kernel
theorem dX15_bodyPlain_226 : decode cX15_bodyPlain 226 = .ok (.iload_n 2, 1) := by decide +kernel
theorem dX15_bodyPlain_227 : decode cX15_bodyPlain 227 = .ok (.ifCond .ne 16, 3) := by decide +kernel
theorem dX15_bodyPlain_230 : decode cX15_bodyPlain 230 = .ok (.iload_n 1, 1) := by decide +kernel
theorem dX15_bodyPlain_231 : decode cX15_bodyPlain 231 = .ok (.ifCond .ne 12, 3) := by decide +kernel
theorem dX15_bodyPlain_234 : decode cX15_bodyPlain 234 = .ok (.aload_n 0, 1) := by decide +kernel
theorem dX15_bodyPlain_235 : decode cX15_bodyPlain 235 = .ok (.getfield 91, 3) := by decide +kernel
theorem dX15_bodyPlain_238 : decode cX15_bodyPlain 238 = .ok (.bipush 10, 2) := by decide +kernel
theorem dX15_bodyPlain_240 : decode cX15_bodyPlain 240 = .ok (.invokevirtual 292, 3) := by decide +kernel
theorem dX15_bodyPlain_243 : decode cX15_bodyPlain 243 = .ok (.return_, 1) := by decide +kernel
theorem dX15_fieldPlain_0 : decode cX15_fieldPlain 0 = .ok (.aload_n 0, 1) := by decide +kernel
theorem dX15_fieldPlain_1 : decode cX15_fieldPlain 1 = .ok (.iload_n 1, 1) := by decide +kernel
theorem dX15_fieldPlain_2 : decode cX15_fieldPlain 2 = .ok (.invokevirtual 382, 3) := by decide +kernel
theorem dX15_fieldPlain_5 : decode cX15_fieldPlain 5 = .ok (.istore 5, 2) := by decide +kernel
theorem dX15_fieldPlain_7 : decode cX15_fieldPlain 7 = .ok (.iload_n 2, 1) := by decide +kernel
theorem dX15_fieldPlain_8 : decode cX15_fieldPlain 8 = .ok (.ifCond .ne 52, 3) := by decide +kernel
theorem dX15_fieldPlain_11 : decode cX15_fieldPlain 11 = .ok (.aload_n 0, 1) := by decide +kernel
theorem dX15_fieldPlain_12 : decode cX15_fieldPlain 12 = .ok (.getfield 73, 3) := by decide +kernel
theorem dX15_fieldPlain_15 : decode cX15_fieldPlain 15 = .ok (.iload_n 1, 1) := by decide +kernel
theorem dX15_fieldPlain_16 : decode cX15_fieldPlain 16 = .ok (.iaload, 1) := by decide +kernel
theorem dX15_fieldPlain_17 : decode cX15_fieldPlain 17 = .ok (.istore 6, 2) := by decide +kernel
theorem dX15_fieldPlain_19 : decode cX15_fieldPlain 19 = .ok (.iload 6, 2) := by decide +kernel
theorem dX15_fieldPlain_21 : decode cX15_fieldPlain 21 = .ok (.iload 5, 2) := by decide +kernel
theorem dX15_fieldPlain_23 : decode cX15_fieldPlain 23 = .ok (.if_icmp .ge 36, 3) := by decide +kernel
theorem dX15_fieldPlain_26 : decode cX15_fieldPlain 26 = .ok (.iload 6, 2) := by decide +kernel
theorem dX15_fieldPlain_28 : decode cX15_fieldPlain 28 = .ok (.iload_n 3, 1) := by decide +kernel
theorem dX15_fieldPlain_29 : decode cX15_fieldPlain 29 = .ok (.if_icmp .lt 10, 3) := by decide +kernel
theorem dX15_fieldPlain_32 : decode cX15_fieldPlain 32 = .ok (.iload 6, 2) := by decide +kernel
theorem dX15_fieldPlain_34 : decode cX15_fieldPlain 34 = .ok (.iload 4, 2) := by decide +kernel
theorem dX15_fieldPlain_36 : decode cX15_fieldPlain 36 = .ok (.if_icmp .lt 17, 3) := by decide +kernel
theorem dX15_fieldPlain_39 : decode cX15_fieldPlain 39 = .ok (.aload_n 0, 1) := by decide +kernel
theorem dX15_fieldPlain_40 : decode cX15_fieldPlain 40 = .ok (.getfield 91, 3) := by decide +kernel
theorem dX15_fieldPlain_43 : decode cX15_fieldPlain 43 = .ok (.aload_n 0, 1) := by decide +kernel
theorem dX15_fieldPlain_44 : decode cX15_fieldPlain 44 = .ok (.getfield 70, 3) := by decide +kernel
theorem dX15_fieldPlain_47 : decode cX15_fieldPlain 47 = .ok (.iload 6, 2) := by decide +kernel
theorem dX15_fieldPlain_49 : decode cX15_fieldPlain 49 = .ok (.baload, 1) := by decide +kernel
theorem dX15_fieldPlain_50 : decode cX15_fieldPlain 50 = .ok (.invokevirtual 292, 3) := by decide +kernel
theorem dX15_fieldPlain_53 : decode cX15_fieldPlain 53 = .ok (.iinc 6 1, 3) := by decide +kernel
theorem dX15_fieldPlain_56 : decode cX15_fieldPlain 56 = .ok (.goto (-37), 3) := by decide +kernel
theorem dX15_fieldPlain_59 : decode cX15_fieldPlain 59 = .ok (.return_, 1) := by decide +kernel
theorem dX15_fieldPlain_60 : decode cX15_fieldPlain 60 = .ok (.aload_n 0, 1) := by decide +kernel
theorem dX15_fieldPlain_61 : decode cX15_fieldPlain 61 = .ok (.getfield 73, 3) := by decide +kernel
theorem dX15_fieldPlain_64 : decode cX15_fieldPlain 64 = .ok (.iload_n 1, 1) := by decide +kernel
theorem dX15_fieldPlain_65 : decode cX15_fieldPlain 65 = .ok (.iaload, 1) := by decide +kernel
theorem dX15_fieldPlain_66 : decode cX15_fieldPlain 66 = .ok (.istore 6, 2) := by decide +kernel
theorem dX15_fieldPlain_68 : decode cX15_fieldPlain 68 = .ok (.iload 6, 2) := by decide +kernel
theorem dX15_fieldPlain_70 : decode cX15_fieldPlain 70 = .ok (.aload_n 0, 1) := by decide +kernel
theorem dX15_fieldPlain_71 : decode cX15_fieldPlain 71 = .ok (.getfield 76, 3) := by decide +kernel
theorem dX15_fieldPlain_74 : decode cX15_fieldPlain 74 = .ok (.iload_n 1, 1) := by decide +kernel
theorem dX15_fieldPlain_75 : decode cX15_fieldPlain 75 = .ok (.iaload, 1) := by decide +kernel
theorem dX15_fieldPlain_76 : decode cX15_fieldPlain 76 = .ok (.if_icmp .ge 26, 3) := by decide +kernel
theorem dX15_fieldPlain_79 : decode cX15_fieldPlain 79 = .ok (.aload_n 0, 1) := by decide +kernel
theorem dX15_fieldPlain_80 : decode cX15_fieldPlain 80 = .ok (.getfield 91, 3) := by decide +kernel
theorem dX15_fieldPlain_83 : decode cX15_fieldPlain 83 = .ok (.aload_n 0, 1) := by decide +kernel
theorem dX15_fieldPlain_84 : decode cX15_fieldPlain 84 = .ok (.getfield 70, 3) := by decide +kernel
theorem dX15_fieldPlain_87 : decode cX15_fieldPlain 87 = .ok (.iload 6, 2) := by decide +kernel
theorem dX15_fieldPlain_89 : decode cX15_fieldPlain 89 = .ok (.baload, 1) := by decide +kernel
theorem dX15_fieldPlain_90 : decode cX15_fieldPlain 90 = .ok (.invokestatic 21, 3) := by decide +kernel
theorem dX15_fieldPlain_93 : decode cX15_fieldPlain 93 = .ok (.invokevirtual 292, 3) := by decide +kernel
theorem dX15_fieldPlain_96 : decode cX15_fieldPlain 96 = .ok (.iinc 6 1, 3) := by decide +kernel
theorem dX15_fieldPlain_99 : decode cX15_fieldPlain 99 = .ok (.goto (-31), 3) := by decide +kernel
theorem dX15_fieldPlain_102 : decode cX15_fieldPlain 102 = .ok (.aload_n 0, 1) := by decide +kernel
theorem dX15_fieldPlain_103 : decode cX15_fieldPlain 103 = .ok (.getfield 91, 3) := by decide +kernel
theorem dX15_fieldPlain_106 : decode cX15_fieldPlain 106 = .ok (.bipush 58, 2) := by decide +kernel
theorem dX15_fieldPlain_108 : decode cX15_fieldPlain 108 = .ok (.invokevirtual 292, 3) := by decide +kernel
theorem dX15_fieldPlain_111 : decode cX15_fieldPlain 111 = .ok (.iconst 0, 1) := by decide +kernel
theorem dX15_fieldPlain_112 : decode cX15_fieldPlain 112 = .ok (.istore 6, 2) := by decide +kernel
theorem dX15_fieldPlain_114 : decode cX15_fieldPlain 114 = .ok (.iconst 0, 1) := by decide +kernel
theorem dX15_fieldPlain_115 : decode cX15_fieldPlain 115 = .ok (.istore 7, 2) := by decide +kernel
theorem dX15_fieldPlain_117 : decode cX15_fieldPlain 117 = .ok (.aload_n 0, 1) := by decide +kernel
theorem dX15_fieldPlain_118 : decode cX15_fieldPlain 118 = .ok (.getfield 76, 3) := by decide +kernel
theorem dX15_fieldPlain_121 : decode cX15_fieldPlain 121 = .ok (.iload_n 1, 1) := by decide +kernel
theorem dX15_fieldPlain_122 : decode cX15_fieldPlain 122 = .ok (.iaload, 1) := by decide +kernel
theorem dX15_fieldPlain_123 : decode cX15_fieldPlain 123 = .ok (.iconst 1, 1) := by decide +kernel
theorem dX15_fieldPlain_124 : decode cX15_fieldPlain 124 = .ok (.iadd, 1) := by decide +kernel
theorem dX15_fieldPlain_125 : decode cX15_fieldPlain 125 = .ok (.istore 8, 2) := by decide +kernel
theorem dX15_fieldPlain_127 : decode cX15_fieldPlain 127 = .ok (.iload 8, 2) := by decide +kernel
theorem dX15_fieldPlain_129 : decode cX15_fieldPlain 129 = .ok (.iload 5, 2) := by decide +kernel
theorem dX15_fieldPlain_131 : decode cX15_fieldPlain 131 = .ok (.if_icmp .ge 95, 3) := by decide +kernel
theorem dX15_fieldPlain_134 : decode cX15_fieldPlain 134 = .ok (.iload 8, 2) := by decide +kernel
theorem dX15_fieldPlain_136 : decode cX15_fieldPlain 136 = .ok (.iload_n 3, 1) := by decide +kernel
theorem dX15_fieldPlain_137 : decode cX15_fieldPlain 137 = .ok (.if_icmp .lt 10, 3) := by decide +kernel
theorem dX15_fieldPlain_140 : decode cX15_fieldPlain 140 = .ok (.iload 8, 2) := by decide +kernel
theorem dX15_fieldPlain_142 : decode cX15_fieldPlain 142 = .ok (.iload 4, 2) := by decide +kernel
theorem dX15_fieldPlain_144 : decode cX15_fieldPlain 144 = .ok (.if_icmp .lt 76, 3) := by decide +kernel
theorem dX15_fieldPlain_147 : decode cX15_fieldPlain 147 = .ok (.aload_n 0, 1) := by decide +kernel
theorem dX15_fieldPlain_148 : decode cX15_fieldPlain 148 = .ok (.getfield 70, 3) := by decide +kernel
theorem dX15_fieldPlain_151 : decode cX15_fieldPlain 151 = .ok (.iload 8, 2) := by decide +kernel
theorem dX15_fieldPlain_153 : decode cX15_fieldPlain 153 = .ok (.baload, 1) := by decide +kernel
theorem dX15_fieldPlain_154 : decode cX15_fieldPlain 154 = .ok (.bipush 10, 2) := by decide +kernel
theorem dX15_fieldPlain_156 : decode cX15_fieldPlain 156 = .ok (.if_icmp .ne 6, 3) := by decide +kernel
theorem dX15_fieldPlain_159 : decode cX15_fieldPlain 159 = .ok (.goto 61, 3) := by decide +kernel
theorem dX15_fieldPlain_162 : decode cX15_fieldPlain 162 = .ok (.aload_n 0, 1) := by decide +kernel
theorem dX15_fieldPlain_163 : decode cX15_fieldPlain 163 = .ok (.getfield 70, 3) := by decide +kernel
theorem dX15_fieldPlain_166 : decode cX15_fieldPlain 166 = .ok (.iload 8, 2) := by decide +kernel
theorem dX15_fieldPlain_168 : decode cX15_fieldPlain 168 = .ok (.baload, 1) := by decide +kernel
theorem dX15_fieldPlain_169 : decode cX15_fieldPlain 169 = .ok (.invokestatic 347, 3) := by decide +kernel
theorem dX15_fieldPlain_172 : decode cX15_fieldPlain 172 = .ok (.ifCond .eq 9, 3) := by decide +kernel
theorem dX15_fieldPlain_175 : decode cX15_fieldPlain 175 = .ok (.iconst 1, 1) := by decide +kernel
theorem dX15_fieldPlain_176 : decode cX15_fieldPlain 176 = .ok (.istore 7, 2) := by decide +kernel
theorem dX15_fieldPlain_178 : decode cX15_fieldPlain 178 = .ok (.goto 42, 3) := by decide +kernel
theorem dX15_fieldPlain_181 : decode cX15_fieldPlain 181 = .ok (.iload 7, 2) := by decide +kernel
theorem dX15_fieldPlain_183 : decode cX15_fieldPlain 183 = .ok (.ifCond .eq 17, 3) := by decide +kernel
theorem dX15_fieldPlain_186 : decode cX15_fieldPlain 186 = .ok (.iload 6, 2) := by decide +kernel
theorem dX15_fieldPlain_188 : decode cX15_fieldPlain 188 = .ok (.ifCond .eq 12, 3) := by decide +kernel
theorem dX15_fieldPlain_191 : decode cX15_fieldPlain 191 = .ok (.aload_n 0, 1) := by decide +kernel
theorem dX15_fieldPlain_192 : decode cX15_fieldPlain 192 = .ok (.getfield 91, 3) := by decide +kernel
theorem dX15_fieldPlain_195 : decode cX15_fieldPlain 195 = .ok (.bipush 32, 2) := by decide +kernel
theorem dX15_fieldPlain_197 : decode cX15_fieldPlain 197 = .ok (.invokevirtual 292, 3) := by decide +kernel
theorem dX15_fieldPlain_200 : decode cX15_fieldPlain 200 = .ok (.iconst 0, 1) := by decide +kernel
theorem dX15_fieldPlain_201 : decode cX15_fieldPlain 201 = .ok (.istore 7, 2) := by decide +kernel
theorem dX15_fieldPlain_203 : decode cX15_fieldPlain 203 = .ok (.iconst 1, 1) := by decide +kernel
theorem dX15_fieldPlain_204 : decode cX15_fieldPlain 204 = .ok (.istore 6, 2) := by decide +kernel
theorem dX15_fieldPlain_206 : decode cX15_fieldPlain 206 = .ok (.aload_n 0, 1) := by decide +kernel
theorem dX15_fieldPlain_207 : decode cX15_fieldPlain 207 = .ok (.getfield 91, 3) := by decide +kernel
theorem dX15_fieldPlain_210 : decode cX15_fieldPlain 210 = .ok (.aload_n 0, 1) := by decide +kernel
theorem dX15_fieldPlain_211 : decode cX15_fieldPlain 211 = .ok (.getfield 70, 3) := by decide +kernel
theorem dX15_fieldPlain_214 : decode cX15_fieldPlain 214 = .ok (.iload 8, 2) := by decide +kernel
theorem dX15_fieldPlain_216 : decode cX15_fieldPlain 216 = .ok (.baload, 1) := by decide +kernel
theorem dX15_fieldPlain_217 : decode cX15_fieldPlain 217 = .ok (.invokevirtual 292, 3) := by decide +kernel
theorem dX15_fieldPlain_220 : decode cX15_fieldPlain 220 = .ok (.iinc 8 1, 3) := by decide +kernel
theorem dX15_fieldPlain_223 : decode cX15_fieldPlain 223 = .ok (.goto (-96), 3) := by decide +kernel
theorem dX15_fieldPlain_226 : decode cX15_fieldPlain 226 = .ok (.return_, 1) := by decide +kernel
theorem dX15_isNamed_0 : decode cX15_isNamed 0 = .ok (.aload_n 0, 1) := by decide +kernel
theorem dX15_isNamed_1 : decode cX15_isNamed 1 = .ok (.getfield 70, 3) := by decide +kernel
theorem dX15_isNamed_4 : decode cX15_isNamed 4 = .ok (.aload_n 0, 1) := by decide +kernel
theorem dX15_isNamed_5 : decode cX15_isNamed 5 = .ok (.getfield 73, 3) := by decide +kernel
theorem dX15_isNamed_8 : decode cX15_isNamed 8 = .ok (.iload_n 1, 1) := by decide +kernel
theorem dX15_isNamed_9 : decode cX15_isNamed 9 = .ok (.iaload, 1) := by decide +kernel
theorem dX15_isNamed_10 : decode cX15_isNamed 10 = .ok (.aload_n 0, 1) := by decide +kernel
theorem dX15_isNamed_11 : decode cX15_isNamed 11 = .ok (.getfield 76, 3) := by decide +kernel
theorem dX15_isNamed_14 : decode cX15_isNamed 14 = .ok (.iload_n 1, 1) := by decide +kernel
theorem dX15_isNamed_15 : decode cX15_isNamed 15 = .ok (.iaload, 1) := by decide +kernel
theorem dX15_isNamed_16 : decode cX15_isNamed 16 = .ok (.aload_n 2, 1) := by decide +kernel
theorem dX15_isNamed_17 : decode cX15_isNamed 17 = .ok (.invokestatic 373, 3) := by decide +kernel
theorem dX15_isNamed_20 : decode cX15_isNamed 20 = .ok (.ireturn, 1) := by decide +kernel
theorem dX15_plainBody_0 : decode cX15_plainBody 0 = .ok (.aload_n 0, 1) := by decide +kernel
theorem dX15_plainBody_1 : decode cX15_plainBody 1 = .ok (.getfield 370, 3) := by decide +kernel
theorem dX15_plainBody_4 : decode cX15_plainBody 4 = .ok (.ifCond .ne 6, 3) := by decide +kernel
theorem dX15_plainBody_7 : decode cX15_plainBody 7 = .ok (.bipush (-2), 2) := by decide +kernel
theorem dX15_plainBody_9 : decode cX15_plainBody 9 = .ok (.ireturn, 1) := by decide +kernel
theorem dX15_plainBody_10 : decode cX15_plainBody 10 = .ok (.aload_n 0, 1) := by decide +kernel
theorem dX15_plainBody_11 : decode cX15_plainBody 11 = .ok (.iload_n 1, 1) := by decide +kernel
theorem dX15_plainBody_12 : decode cX15_plainBody 12 = .ok (.invokevirtual 388, 3) := by decide +kernel
theorem dX15_plainBody_15 : decode cX15_plainBody 15 = .ok (.aload_n 0, 1) := by decide +kernel
theorem dX15_plainBody_16 : decode cX15_plainBody 16 = .ok (.aload_n 0, 1) := by decide +kernel
theorem dX15_plainBody_17 : decode cX15_plainBody 17 = .ok (.getfield 91, 3) := by decide +kernel
theorem dX15_plainBody_20 : decode cX15_plainBody 20 = .ok (.invokevirtual 392, 3) := by decide +kernel
theorem dX15_plainBody_23 : decode cX15_plainBody 23 = .ok (.ireturn, 1) := by decide +kernel
theorem dX15_plainField_0 : decode cX15_plainField 0 = .ok (.aload_n 0, 1) := by decide +kernel
theorem dX15_plainField_1 : decode cX15_plainField 1 = .ok (.getfield 370, 3) := by decide +kernel
theorem dX15_plainField_4 : decode cX15_plainField 4 = .ok (.ifCond .eq 19, 3) := by decide +kernel
theorem dX15_plainField_7 : decode cX15_plainField 7 = .ok (.iload_n 1, 1) := by decide +kernel
theorem dX15_plainField_8 : decode cX15_plainField 8 = .ok (.i2l, 1) := by decide +kernel
theorem dX15_plainField_9 : decode cX15_plainField 9 = .ok (.lconst 0, 1) := by decide +kernel
theorem dX15_plainField_10 : decode cX15_plainField 10 = .ok (.aload_n 0, 1) := by decide +kernel
theorem dX15_plainField_11 : decode cX15_plainField 11 = .ok (.getfield 355, 3) := by decide +kernel
theorem dX15_plainField_14 : decode cX15_plainField 14 = .ok (.iconst 1, 1) := by decide +kernel
theorem dX15_plainField_15 : decode cX15_plainField 15 = .ok (.isub, 1) := by decide +kernel
theorem dX15_plainField_16 : decode cX15_plainField 16 = .ok (.i2l, 1) := by decide +kernel
theorem dX15_plainField_17 : decode cX15_plainField 17 = .ok (.invokestatic 170, 3) := by decide +kernel
theorem dX15_plainField_20 : decode cX15_plainField 20 = .ok (.ifCond .ne 6, 3) := by decide +kernel
theorem dX15_plainField_23 : decode cX15_plainField 23 = .ok (.bipush (-2), 2) := by decide +kernel
theorem dX15_plainField_25 : decode cX15_plainField 25 = .ok (.ireturn, 1) := by decide +kernel
theorem dX15_plainField_26 : decode cX15_plainField 26 = .ok (.aload_n 0, 1) := by decide +kernel
theorem dX15_plainField_27 : decode cX15_plainField 27 = .ok (.getfield 91, 3) := by decide +kernel
theorem dX15_plainField_30 : decode cX15_plainField 30 = .ok (.iconst 0, 1) := by decide +kernel
theorem dX15_plainField_31 : decode cX15_plainField 31 = .ok (.putfield 190, 3) := by decide +kernel
theorem dX15_plainField_34 : decode cX15_plainField 34 = .ok (.aload_n 0, 1) := by decide +kernel
theorem dX15_plainField_35 : decode cX15_plainField 35 = .ok (.iload_n 1, 1) := by decide +kernel
theorem dX15_plainField_36 : decode cX15_plainField 36 = .ok (.iload_n 2, 1) := by decide +kernel
theorem dX15_plainField_37 : decode cX15_plainField 37 = .ok (.iconst 0, 1) := by decide +kernel
theorem dX15_plainField_38 : decode cX15_plainField 38 = .ok (.iconst 0, 1) := by decide +kernel
theorem dX15_plainField_39 : decode cX15_plainField 39 = .ok (.invokevirtual 395, 3) := by decide +kernel
theorem dX15_plainField_42 : decode cX15_plainField 42 = .ok (.aload_n 0, 1) := by decide +kernel
theorem dX15_plainField_43 : decode cX15_plainField 43 = .ok (.aload_n 0, 1) := by decide +kernel
theorem dX15_plainField_44 : decode cX15_plainField 44 = .ok (.getfield 91, 3) := by decide +kernel
theorem dX15_plainField_47 : decode cX15_plainField 47 = .ok (.invokevirtual 392, 3) := by decide +kernel
theorem dX15_plainField_50 : decode cX15_plainField 50 = .ok (.ireturn, 1) := by decide +kernel
theorem dX15_sealAt_0 : decode cX15_sealAt 0 = .ok (.iload_n 1, 1) := by decide +kernel
theorem dX15_sealAt_1 : decode cX15_sealAt 1 = .ok (.istore_n 2, 1) := by decide +kernel
theorem dX15_sealAt_2 : decode cX15_sealAt 2 = .ok (.iconst 0, 1) := by decide +kernel
theorem dX15_sealAt_3 : decode cX15_sealAt 3 = .ok (.istore_n 3, 1) := by decide +kernel
theorem dX15_sealAt_4 : decode cX15_sealAt 4 = .ok (.aload_n 0, 1) := by decide +kernel
theorem dX15_sealAt_5 : decode cX15_sealAt 5 = .ok (.getfield 370, 3) := by decide +kernel
theorem dX15_sealAt_8 : decode cX15_sealAt 8 = .ok (.ifCond .eq 44, 3) := by decide +kernel
theorem dX15_sealAt_11 : decode cX15_sealAt 11 = .ok (.iload_n 1, 1) := by decide +kernel
theorem dX15_sealAt_12 : decode cX15_sealAt 12 = .ok (.ifCond .lt 40, 3) := by decide +kernel
theorem dX15_sealAt_15 : decode cX15_sealAt 15 = .ok (.iload_n 3, 1) := by decide +kernel
theorem dX15_sealAt_16 : decode cX15_sealAt 16 = .ok (.aload_n 0, 1) := by decide +kernel
theorem dX15_sealAt_17 : decode cX15_sealAt 17 = .ok (.getfield 355, 3) := by decide +kernel
theorem dX15_sealAt_20 : decode cX15_sealAt 20 = .ok (.if_icmp .ge 32, 3) := by decide +kernel
theorem dX15_sealAt_23 : decode cX15_sealAt 23 = .ok (.aload_n 0, 1) := by decide +kernel
theorem dX15_sealAt_24 : decode cX15_sealAt 24 = .ok (.iload_n 3, 1) := by decide +kernel
theorem dX15_sealAt_25 : decode cX15_sealAt 25 = .ok (.ldc_w 376, 3) := by decide +kernel
theorem dX15_sealAt_28 : decode cX15_sealAt 28 = .ok (.invokevirtual 378, 3) := by decide +kernel
theorem dX15_sealAt_31 : decode cX15_sealAt 31 = .ok (.ifCond .ne 6, 3) := by decide +kernel
theorem dX15_sealAt_34 : decode cX15_sealAt 34 = .ok (.goto 12, 3) := by decide +kernel
theorem dX15_sealAt_37 : decode cX15_sealAt 37 = .ok (.iload_n 2, 1) := by decide +kernel
theorem dX15_sealAt_38 : decode cX15_sealAt 38 = .ok (.ifCond .ne 5, 3) := by decide +kernel
theorem dX15_sealAt_41 : decode cX15_sealAt 41 = .ok (.iload_n 3, 1) := by decide +kernel
theorem dX15_sealAt_42 : decode cX15_sealAt 42 = .ok (.ireturn, 1) := by decide +kernel
theorem dX15_sealAt_43 : decode cX15_sealAt 43 = .ok (.iinc 2 (-1), 3) := by decide +kernel
theorem dX15_sealAt_46 : decode cX15_sealAt 46 = .ok (.iinc 3 1, 3) := by decide +kernel
theorem dX15_sealAt_49 : decode cX15_sealAt 49 = .ok (.goto (-45), 3) := by decide +kernel
theorem dX15_sealAt_52 : decode cX15_sealAt 52 = .ok (.iconst (-1), 1) := by decide +kernel
theorem dX15_sealAt_53 : decode cX15_sealAt 53 = .ok (.ireturn, 1) := by decide +kernel
theorem dX15_seals_0 : decode cX15_seals 0 = .ok (.iconst 0, 1) := by decide +kernel
theorem dX15_seals_1 : decode cX15_seals 1 = .ok (.istore_n 1, 1) := by decide +kernel
theorem dX15_seals_2 : decode cX15_seals 2 = .ok (.iconst 0, 1) := by decide +kernel
theorem dX15_seals_3 : decode cX15_seals 3 = .ok (.istore_n 2, 1) := by decide +kernel
theorem dX15_seals_4 : decode cX15_seals 4 = .ok (.aload_n 0, 1) := by decide +kernel
theorem dX15_seals_5 : decode cX15_seals 5 = .ok (.getfield 370, 3) := by decide +kernel
theorem dX15_seals_8 : decode cX15_seals 8 = .ok (.ifCond .eq 31, 3) := by decide +kernel
theorem dX15_seals_11 : decode cX15_seals 11 = .ok (.iload_n 2, 1) := by decide +kernel
theorem dX15_seals_12 : decode cX15_seals 12 = .ok (.aload_n 0, 1) := by decide +kernel
theorem dX15_seals_13 : decode cX15_seals 13 = .ok (.getfield 355, 3) := by decide +kernel
theorem dX15_seals_16 : decode cX15_seals 16 = .ok (.if_icmp .ge 23, 3) := by decide +kernel
theorem dX15_seals_19 : decode cX15_seals 19 = .ok (.aload_n 0, 1) := by decide +kernel
theorem dX15_seals_20 : decode cX15_seals 20 = .ok (.iload_n 2, 1) := by decide +kernel
theorem dX15_seals_21 : decode cX15_seals 21 = .ok (.ldc_w 376, 3) := by decide +kernel
theorem dX15_seals_24 : decode cX15_seals 24 = .ok (.invokevirtual 378, 3) := by decide +kernel
theorem dX15_seals_27 : decode cX15_seals 27 = .ok (.ifCond .eq 6, 3) := by decide +kernel
theorem dX15_seals_30 : decode cX15_seals 30 = .ok (.iinc 1 1, 3) := by decide +kernel
theorem dX15_seals_33 : decode cX15_seals 33 = .ok (.iinc 2 1, 3) := by decide +kernel
theorem dX15_seals_36 : decode cX15_seals 36 = .ok (.goto (-32), 3) := by decide +kernel
theorem dX15_seals_39 : decode cX15_seals 39 = .ok (.iload_n 1, 1) := by decide +kernel
theorem dX15_seals_40 : decode cX15_seals 40 = .ok (.ireturn, 1) := by decide +kernel
theorem dX15_tell_0 : decode cX15_tell 0 = .ok (.aload_n 1, 1) := by decide +kernel
theorem dX15_tell_1 : decode cX15_tell 1 = .ok (.getfield 295, 3) := by decide +kernel
theorem dX15_tell_4 : decode cX15_tell 4 = .ok (.iconst 0, 1) := by decide +kernel
theorem dX15_tell_5 : decode cX15_tell 5 = .ok (.aload_n 0, 1) := by decide +kernel
theorem dX15_tell_6 : decode cX15_tell 6 = .ok (.getfield 35, 3) := by decide +kernel
theorem dX15_tell_9 : decode cX15_tell 9 = .ok (.iconst 0, 1) := by decide +kernel
theorem dX15_tell_10 : decode cX15_tell 10 = .ok (.aload_n 1, 1) := by decide +kernel
theorem dX15_tell_11 : decode cX15_tell 11 = .ok (.getfield 190, 3) := by decide +kernel
theorem dX15_tell_14 : decode cX15_tell 14 = .ok (.invokestatic 358, 3) := by decide +kernel
theorem dX15_tell_17 : decode cX15_tell 17 = .ok (.aload_n 0, 1) := by decide +kernel
theorem dX15_tell_18 : decode cX15_tell 18 = .ok (.aload_n 1, 1) := by decide +kernel
theorem dX15_tell_19 : decode cX15_tell 19 = .ok (.getfield 190, 3) := by decide +kernel
theorem dX15_tell_22 : decode cX15_tell 22 = .ok (.putfield 385, 3) := by decide +kernel
theorem dX15_tell_25 : decode cX15_tell 25 = .ok (.aload_n 1, 1) := by decide +kernel
theorem dX15_tell_26 : decode cX15_tell 26 = .ok (.getfield 190, 3) := by decide +kernel
theorem dX15_tell_29 : decode cX15_tell 29 = .ok (.ireturn, 1) := by decide +kernel
theorem dX15_valueEnd_0 : decode cX15_valueEnd 0 = .ok (.aload_n 0, 1) := by decide +kernel
theorem dX15_valueEnd_1 : decode cX15_valueEnd 1 = .ok (.getfield 70, 3) := by decide +kernel
theorem dX15_valueEnd_4 : decode cX15_valueEnd 4 = .ok (.aload_n 0, 1) := by decide +kernel
theorem dX15_valueEnd_5 : decode cX15_valueEnd 5 = .ok (.getfield 79, 3) := by decide +kernel
theorem dX15_valueEnd_8 : decode cX15_valueEnd 8 = .ok (.iload_n 1, 1) := by decide +kernel
theorem dX15_valueEnd_9 : decode cX15_valueEnd 9 = .ok (.iaload, 1) := by decide +kernel
theorem dX15_valueEnd_10 : decode cX15_valueEnd 10 = .ok (.iconst 1, 1) := by decide +kernel
theorem dX15_valueEnd_11 : decode cX15_valueEnd 11 = .ok (.isub, 1) := by decide +kernel
theorem dX15_valueEnd_12 : decode cX15_valueEnd 12 = .ok (.baload, 1) := by decide +kernel
theorem dX15_valueEnd_13 : decode cX15_valueEnd 13 = .ok (.bipush 10, 2) := by decide +kernel
theorem dX15_valueEnd_15 : decode cX15_valueEnd 15 = .ok (.if_icmp .ne 14, 3) := by decide +kernel
theorem dX15_valueEnd_18 : decode cX15_valueEnd 18 = .ok (.aload_n 0, 1) := by decide +kernel
theorem dX15_valueEnd_19 : decode cX15_valueEnd 19 = .ok (.getfield 79, 3) := by decide +kernel
theorem dX15_valueEnd_22 : decode cX15_valueEnd 22 = .ok (.iload_n 1, 1) := by decide +kernel
theorem dX15_valueEnd_23 : decode cX15_valueEnd 23 = .ok (.iaload, 1) := by decide +kernel
theorem dX15_valueEnd_24 : decode cX15_valueEnd 24 = .ok (.iconst 1, 1) := by decide +kernel
theorem dX15_valueEnd_25 : decode cX15_valueEnd 25 = .ok (.isub, 1) := by decide +kernel
theorem dX15_valueEnd_26 : decode cX15_valueEnd 26 = .ok (.goto 9, 3) := by decide +kernel
theorem dX15_valueEnd_29 : decode cX15_valueEnd 29 = .ok (.aload_n 0, 1) := by decide +kernel
theorem dX15_valueEnd_30 : decode cX15_valueEnd 30 = .ok (.getfield 79, 3) := by decide +kernel
theorem dX15_valueEnd_33 : decode cX15_valueEnd 33 = .ok (.iload_n 1, 1) := by decide +kernel
theorem dX15_valueEnd_34 : decode cX15_valueEnd 34 = .ok (.iaload, 1) := by decide +kernel
theorem dX15_valueEnd_35 : decode cX15_valueEnd 35 = .ok (.ireturn, 1) := by decide +kernel
theorem kt_902 : Cond.fieldLink RX15 70 "PostGateModel" "mail" "[B" ∈ tb := tb_at (i := 1312) (by decide +kernel) (by decide +kernel)
theorem kt_903 : Cond.fieldLink RX15 73 "PostGateModel" "begin" "[I" ∈ tb := tb_at (i := 1313) (by decide +kernel) (by decide +kernel)
theorem kt_904 : Cond.fieldLink RX15 76 "PostGateModel" "colon" "[I" ∈ tb := tb_at (i := 1314) (by decide +kernel) (by decide +kernel)
theorem kt_905 : Cond.fieldLink RX15 79 "PostGateModel" "stop" "[I" ∈ tb := tb_at (i := 1315) (by decide +kernel) (by decide +kernel)
theorem kt_906 : Cond.fieldLink RX15 370 "PostGateModel" "mailed" "Z" ∈ tb := tb_at (i := 1322) (by decide +kernel) (by decide +kernel)
theorem kt_907 : Cond.fieldLink RX15 355 "PostGateModel" "fields" "I" ∈ tb := tb_at (i := 1319) (by decide +kernel) (by decide +kernel)
theorem kt_908 : Cond.code yX15_isNamed cX15_isNamed 3 (some .boolean) ∈ tb := tb_at (i := 1656) (by decide +kernel) (by decide +kernel)
theorem kt_909 : Cond.methodLink RX15 378 yX15_isNamed ∈ tb := tb_at (i := 1653) (by decide +kernel) (by decide +kernel)
theorem kt_910 : Cond.instanceMethod yX15_isNamed ∈ tb := tb_at (i := 1655) (by decide +kernel) (by decide +kernel)
theorem kt_911 : Cond.selects RX15 yX15_isNamed yX15_isNamed ∈ tb := tb_at (i := 56) (by decide +kernel) (by decide +kernel)
theorem kt_912 : Cond.code yX15_valueEnd cX15_valueEnd 2 (some .int) ∈ tb := tb_at (i := 1686) (by decide +kernel) (by decide +kernel)
theorem kt_913 : Cond.methodLink RX15 382 yX15_valueEnd ∈ tb := tb_at (i := 1683) (by decide +kernel) (by decide +kernel)
theorem kt_914 : Cond.instanceMethod yX15_valueEnd ∈ tb := tb_at (i := 1685) (by decide +kernel) (by decide +kernel)
theorem kt_915 : Cond.selects RX15 yX15_valueEnd yX15_valueEnd ∈ tb := tb_at (i := 60) (by decide +kernel) (by decide +kernel)
theorem kt_916 : Cond.fieldLink RX15 91 "PostGateModel" "plain" "LPostGateModel$Text;" ∈ tb := tb_at (i := 1323) (by decide +kernel) (by decide +kernel)
theorem kt_917 : Cond.fieldLink RX15 364 "PostGateModel" "body" "I" ∈ tb := tb_at (i := 1320) (by decide +kernel) (by decide +kernel)
theorem kt_918 : Cond.fieldLink RX15 367 "PostGateModel" "mailMany" "I" ∈ tb := tb_at (i := 1321) (by decide +kernel) (by decide +kernel)
theorem kt_919 : Cond.code yX15_lineEnd cX15_lineEnd 4 (some .int) ∈ tb := tb_at (i := 1638) (by decide +kernel) (by decide +kernel)
theorem kt_920 : Cond.methodLink RX15 344 yX15_lineEnd ∈ tb := tb_at (i := 1636) (by decide +kernel) (by decide +kernel)
theorem kt_921 : Cond.static yX15_lineEnd ∈ tb := tb_at (i := 1637) (by decide +kernel) (by decide +kernel)
theorem kt_922 : Cond.fieldLink RX15 35 "PostGateModel" "out" "[B" ∈ tb := tb_at (i := 1293) (by decide +kernel) (by decide +kernel)
theorem kt_923 : Cond.methodLink RX15 358 arraycopyName ∈ tb := tb_at (i := 1647) (by decide +kernel) (by decide +kernel)
theorem kt_924 : Cond.fieldLink RX15 385 "PostGateModel" "outMany" "I" ∈ tb := tb_at (i := 1291) (by decide +kernel) (by decide +kernel)
theorem kt_925 : Cond.code yX15_bodyPlain cX15_bodyPlain 9 none ∈ tb := tb_at (i := 1670) (by decide +kernel) (by decide +kernel)
theorem kt_926 : Cond.methodLink RX15 388 yX15_bodyPlain ∈ tb := tb_at (i := 1667) (by decide +kernel) (by decide +kernel)
theorem kt_927 : Cond.instanceMethod yX15_bodyPlain ∈ tb := tb_at (i := 1669) (by decide +kernel) (by decide +kernel)
theorem kt_928 : Cond.selects RX15 yX15_bodyPlain yX15_bodyPlain ∈ tb := tb_at (i := 57) (by decide +kernel) (by decide +kernel)
theorem kt_929 : Cond.code yX15_tell cX15_tell 2 (some .int) ∈ tb := tb_at (i := 1674) (by decide +kernel) (by decide +kernel)
theorem kt_930 : Cond.methodLink RX15 392 yX15_tell ∈ tb := tb_at (i := 1671) (by decide +kernel) (by decide +kernel)
theorem kt_931 : Cond.instanceMethod yX15_tell ∈ tb := tb_at (i := 1673) (by decide +kernel) (by decide +kernel)
theorem kt_932 : Cond.selects RX15 yX15_tell yX15_tell ∈ tb := tb_at (i := 58) (by decide +kernel) (by decide +kernel)
theorem kt_933 : Cond.code yX15_fieldPlain cX15_fieldPlain 9 none ∈ tb := tb_at (i := 1682) (by decide +kernel) (by decide +kernel)
theorem kt_934 : Cond.methodLink RX15 395 yX15_fieldPlain ∈ tb := tb_at (i := 1679) (by decide +kernel) (by decide +kernel)
theorem kt_935 : Cond.instanceMethod yX15_fieldPlain ∈ tb := tb_at (i := 1681) (by decide +kernel) (by decide +kernel)
theorem kt_936 : Cond.selects RX15 yX15_fieldPlain yX15_fieldPlain ∈ tb := tb_at (i := 59) (by decide +kernel) (by decide +kernel)
set_option maxHeartbeats 4000000 in
set_option maxRecDepth 100000 in
theorem s_X15_isNamed (l : Launch) (dC : Nat → ClassId) (dI : Nat → Nat → Nat) (cs : Nat → ClassId) (ty : TyM) (gm : Nat → Nat → Nat) (L : List Nat) (sz : Nat) (F : Nat → va_E) (h0 : Nat) (ρ : Nat) (ta : Nat) (ou : Nat) (so : Nat) (ad : Nat) (na : Nat) (va : Nat) (lc : Nat) (dm : Nat) (tg : Nat) (pe : Nat) (ml : Nat) (bg : Nat) (co : Nat) (sp : Nat) (nb0 : Nat) (nb1 : Nat) (nb2 : Nat) (pl : Nat) (se : Nat) (ke : Nat) (wi : Nat) (hs : Nat) (mo : Nat) (po : Nat) (nu : Nat) (pr : Nat) (sq : Nat) (xa : Nat) (sa : Nat) (n64 : Nat) (m64 : Nat) (ex : Nat) (wh : Nat) (sd : Nat) (tk : Nat) (hd : Nat) (ak : Nat) (ho : Nat) (ot : Nat) (sx : Nat) (s0 : Nat) (s1 : Nat) (s2 : Nat) (nf : Nat) (bd : Nat) (mm : Nat) (zt : Nat) (jf : Nat) (q : Nat) (v : Nat) (k0 : Nat) (C : Nat → Int32) (hW : WTm ty gm L) (hL_h0 : h0 ∈ L) (hT_h0 : ty h0 = (15, ρ, [ta, ou, so, ad, na, va, lc, dm, tg, pe, ml, bg, co, sp, nb0, nb1, nb2, pl, se, ke, wi, hs, mo, po, nu, pr, sq, xa, sa, n64, m64, ex, wh, sd, tk, hd, ak, ho, ot, sx, s0, s1, s2, nf, bd, mm, zt])) (hjf : jf < nf) : Met l yX15_isNamed (.code yX15_isNamed cX15_isNamed 3 (some .boolean) :: tb) ({ frames := 5, cells := 0, slots := 0, locals := 109 }) (va_Pc [.ref h0, .int (nI jf), .ref q] (PTEm (dC, dI) cs ty gm L F sz [(q, v, k0, C)])) (va_Qi (fun (r : Int32) (_ : Unit) => (r = 0 ∨ r = 1)) (fun _ T9 => ∃ F2 : Nat → va_E, QTm (dC, dI) cs ty gm L [] F F2 (va_A (va_pl L F) sz) T9) (va_A (va_pl L F) sz)) 0 0 (va_A (va_pl L F) sz) := by
  refine Met.ofW (cc := cX15_isNamed) (maxL := 3) (ret := (some .boolean)) (by decide) rfl ?_
  intro p e s m args below meth c s₁ B hml hv
  obtain ⟨rfl, ⟨hsz, hP, hK, hD0, hE, hO⟩, hG, hX⟩ := hv
  have hx := B.exec
  have hb := B.bytes
  have hr := B.returns
  have hts : ∀ w ∈ tb, w.before _ s = true := fun w h => atoms_spec (ws := .code yX15_isNamed cX15_isNamed 3 (some .boolean) :: tb) B.pre w (List.mem_cons_of_mem _ h)
  have hown : s.vm.findClass RX15 = some m.cls := findClass_of_methodNamed B.named
  have hlocks := B.notSynchronized
  subst hsz
  have hD := hD0.self (sz := s.heap.size)
  generalize hAe : va_A (va_pl L F) s.heap.size = A at hD hG hX ⊢
  have hX_q : SXc q v k0 C A s s.heap := hX (q, v, k0, C) (by simp)
  obtain ⟨xo_q, xc_q, xv_q, xt_q, xn_q⟩ := id hX_q
  have hA : ∀ q : Nat, s.heap.size ≤ q → A q := fun q h => by rw [← hAe]; exact Or.inr h
  have hS : va_S A s.heap s.heap [] := va_S.rf
  have hR : FR ty [] F F := FR.refl
  have hl := lv_entry ([.ref h0, .int (nI jf), .ref q]) (n := 3) (Nat.le_of_ble_eq_true rfl)
  rw [lg_entry_eq]
  generalize (lg_sl ([.ref h0, .int (nI jf), .ref q]) ++ List.replicate (3 - (lg_sl ([.ref h0, .int (nI jf), .ref q])).length) Slot.unset).toArray = ls at hl ⊢
  have hl : lv_has ls 3 [(0, .ref h0), (1, .int (nI jf)), (2, .ref q)] := hl
  obtain ⟨hi_1, ht_2, hi_3, ht_4, hi_5, ht_6, hi_7, ht_8, hi_9, ht_10, hi_11, ht_12, hi_13, ⟨r_14, ht_15⟩, hi_16, ⟨r_17, ht_18⟩, hi_19, ht_20, hi_21, ⟨r_22, ht_23⟩, hi_24, ht_25, hi_26, ht_27, hi_28, ht_29, hi_30, ht_31, hi_32, ht_33, hi_34, ht_35, hi_36, ht_37, hi_38, ⟨r_39, ht_40⟩, hi_41, ht_42, hi_43, ⟨x_44, y0_45, y1_46, y2_47, ht_48⟩, hi_49, ⟨x_50, y0_51, y1_52, y2_53, ht_54⟩, hi_55, ⟨x_56, y_57, w_58, u_59, bl_60, ht_61⟩, hi_62, ht_63, hi_64, ht_65, hi_66, ht_67, hi_68, ht_69, hi_70, ht_71, hi_72, ht_73, hi_74, ht_75, hi_76, ht_77, hi_78, ht_79, hi_80, ht_81, hi_82, ⟨r_83, ht_84⟩, hi_85, ⟨r_86, ht_87⟩, hi_88, ht_89, hi_90, ht_91, hi_92, ⟨r_93, ht_94⟩, hi_95, ⟨r_96, ht_97⟩, hi_98, ⟨r_99, ht_100⟩, hq_101, hq_102, hq_103, hq_104, hq_105, hgO, hgA, hgB⟩ := hW.mod hL_h0 hT_h0
  have hoj := hgO jf hjf
  refine lv_aload_n hx hb dX15_isNamed_0 rfl (lv_at hl 0 rfl) ?_
  obtain ⟨zo_106, ze_107, v11_108, v12_109, v14_110, v15_111, v17_112, v18_113, v19_114, v20_115, v21_116, v22_117, v33_118, v52_119, v53_120, v54_121, hF_122, hq_123, hq_124, hq_125, hq_126⟩ := hO.mod hL_h0 hT_h0
  refine pg_get (ci := 15) (v := .ref ml) (C := RX15) (T := TX15) (N := 59) hx hb hts it_15 hown hK hP hL_h0 hF_122 rfl 23 (by decide) (hts _ kt_902) (fun _ h9 => h9) rfl dX15_isNamed_1 ?_
  refine lv_aload_n hx hb dX15_isNamed_4 rfl (lv_at hl 0 rfl) ?_
  refine pg_get (ci := 15) (v := .ref bg) (C := RX15) (T := TX15) (N := 59) hx hb hts it_15 hown hK hP hL_h0 hF_122 rfl 24 (by decide) (hts _ kt_903) (fun _ h9 => h9) rfl dX15_isNamed_5 ?_
  refine lv_iload_n hx hb dX15_isNamed_8 rfl (lv_at hl 1 rfl) ?_
  obtain ⟨f_127, hF_128, hq_129⟩ := hO.pos hi_26 ht_27
  refine pg_iald hx hb hK hP hi_26 0 hF_128 rfl (vp_in_nI (by omega) (by omega)) dX15_isNamed_9 ?_
  refine lv_topi (fun x_130 ex_130 => ?_)
  obtain rfl : x_130 = (nI (gm 0 jf)) := ex_130.trans (by rw [show ((nI jf) : Int32) = nI jf from rfl, nI_clamp (by omega)]; exact hq_129 jf (by omega))
  have hgbx_130 := hgB 0 jf
  refine lv_aload_n hx hb dX15_isNamed_10 rfl (lv_at hl 0 rfl) ?_
  refine pg_get (ci := 15) (v := .ref co) (C := RX15) (T := TX15) (N := 59) hx hb hts it_15 hown hK hP hL_h0 hF_122 rfl 25 (by decide) (hts _ kt_904) (fun _ h9 => h9) rfl dX15_isNamed_11 ?_
  refine lv_iload_n hx hb dX15_isNamed_14 rfl (lv_at hl 1 rfl) ?_
  obtain ⟨f_131, hF_132, hq_133⟩ := hO.pos hi_28 ht_29
  refine pg_iald hx hb hK hP hi_28 0 hF_132 rfl (vp_in_nI (by omega) (by omega)) dX15_isNamed_15 ?_
  refine lv_topi (fun x_134 ex_134 => ?_)
  obtain rfl : x_134 = (nI (gm 1 jf)) := ex_134.trans (by rw [show ((nI jf) : Int32) = nI jf from rfl, nI_clamp (by omega)]; exact hq_133 jf (by omega))
  have hgbx_134 := hgB 1 jf
  refine lv_aload_n hx hb dX15_isNamed_16 rfl (lv_at hl 2 rfl) ?_
  obtain ⟨hq_135, hq_136⟩ := hW.octs hi_24 ht_25
  have hFc := pg_free hD hS hA
  refine va_calli (va_runS (As := [.ref ml, .int (nI (gm 0 jf)), .int (nI (gm 1 jf)), .ref q]) (rest := []) ⟨hx, hb, hml, hown, hts⟩ (s_X15_isAlike l dC dI cs ty gm L s.heap.size F ml (ρ + 8) 3000 q v k0 C (gm 0 jf) (gm 1 jf) hW hi_24 ht_25 (by first | omega | assumption) (by first | omega | assumption)) ⟨callB_of 4 hts (gi kt_866) rfl rfl rfl (hts _ kt_669) (hts _ kt_867) (by decide +kernel) ⟨Nat.le_of_ble_eq_true rfl, Nat.le_of_ble_eq_true rfl⟩, (hts _ kt_868)⟩ ⟨fun a U g mk q => ⟨q.1, PTEm.calling q.2⟩, fun U hU hWm => ⟨rfl, PTEm.mk hU hWm hP hK hD hE hO hG (fun x hx => by rw [List.mem_singleton] at hx; subst hx; exact hX_q) hS hFc⟩⟩ rfl rfl hl.1 rfl (lv_room (Nat.le_of_ble_eq_true rfl)) dX15_isNamed_17 ⟨by show _ + 0 ≤ 0; omega, by show _ + 0 ≤ 0; omega⟩) hS (fun q _ h => hFc q h) hFc (fun r_137 u t H1 locs ht hvm hw hB hz1 hk1 hS => ?_)
  obtain ⟨F_138, hB1⟩ := hB
  obtain rfl : F = F_138 := (funext (fun a => hB1.2.2.2 a List.not_mem_nil)).symm
  obtain ⟨hP, hD, hO, hR⟩ := QTm.back hB1 ht hFc hR (fun q h => absurd h List.not_mem_nil)
  generalize H1 = H at hP hS ⊢
  have hw : (r_137 = 0 ∨ r_137 = 1) := hw
  have hw_139 := hw
  refine W.widen (k := 0) (n := 0) (by omega) (by omega) ?_
  exact W.zret (v := r_137) (ty := .boolean) hx hb hr (bitN hw_139) (fun t ht hWm => ⟨⟨r_137, (), rfl, hw_139, ⟨F, QTm.mk ht hP hD hO hR⟩⟩, hS.F ht⟩) hS.2.2 dX15_isNamed_20
set_option maxHeartbeats 4000000 in
set_option maxRecDepth 100000 in
theorem s_X15_valueEnd (l : Launch) (dC : Nat → ClassId) (dI : Nat → Nat → Nat) (cs : Nat → ClassId) (ty : TyM) (gm : Nat → Nat → Nat) (L : List Nat) (sz : Nat) (F : Nat → va_E) (h0 : Nat) (ρ : Nat) (ta : Nat) (ou : Nat) (so : Nat) (ad : Nat) (na : Nat) (va : Nat) (lc : Nat) (dm : Nat) (tg : Nat) (pe : Nat) (ml : Nat) (bg : Nat) (co : Nat) (sp : Nat) (nb0 : Nat) (nb1 : Nat) (nb2 : Nat) (pl : Nat) (se : Nat) (ke : Nat) (wi : Nat) (hs : Nat) (mo : Nat) (po : Nat) (nu : Nat) (pr : Nat) (sq : Nat) (xa : Nat) (sa : Nat) (n64 : Nat) (m64 : Nat) (ex : Nat) (wh : Nat) (sd : Nat) (tk : Nat) (hd : Nat) (ak : Nat) (ho : Nat) (ot : Nat) (sx : Nat) (s0 : Nat) (s1 : Nat) (s2 : Nat) (nf : Nat) (bd : Nat) (mm : Nat) (zt : Nat) (jf : Nat) (hW : WTm ty gm L) (hL_h0 : h0 ∈ L) (hT_h0 : ty h0 = (15, ρ, [ta, ou, so, ad, na, va, lc, dm, tg, pe, ml, bg, co, sp, nb0, nb1, nb2, pl, se, ke, wi, hs, mo, po, nu, pr, sq, xa, sa, n64, m64, ex, wh, sd, tk, hd, ak, ho, ot, sx, s0, s1, s2, nf, bd, mm, zt])) (hjf : jf < nf) : Met l yX15_valueEnd (.code yX15_valueEnd cX15_valueEnd 2 (some .int) :: tb) ({ frames := 0, cells := 0, slots := 0, locals := 0 }) (va_Pc [.ref h0, .int (nI jf)] (PTm (dC, dI) cs ty gm L F sz)) (va_Qi (fun (r : Int32) (_ : Unit) => (∃ k : Nat, gm 1 jf ≤ k ∧ k ≤ gm 2 jf ∧ r = nI k)) (fun _ T9 => ∃ F2 : Nat → va_E, QTm (dC, dI) cs ty gm L [] F F2 (va_A (va_pl L F) sz) T9) (va_A (va_pl L F) sz)) 0 0 (va_A (va_pl L F) sz) := by
  refine Met.ofW (cc := cX15_valueEnd) (maxL := 2) (ret := (some .int)) (by decide) rfl ?_
  intro p e s m args below meth c s₁ B hml hv
  obtain ⟨rfl, hsz, hP, hK, hD0, hE, hO⟩ := hv
  have hx := B.exec
  have hb := B.bytes
  have hr := B.returns
  have hts : ∀ w ∈ tb, w.before _ s = true := fun w h => atoms_spec (ws := .code yX15_valueEnd cX15_valueEnd 2 (some .int) :: tb) B.pre w (List.mem_cons_of_mem _ h)
  have hown : s.vm.findClass RX15 = some m.cls := findClass_of_methodNamed B.named
  have hlocks := B.notSynchronized
  subst hsz
  have hD := hD0.self (sz := s.heap.size)
  generalize hAe : va_A (va_pl L F) s.heap.size = A at hD ⊢
  have hA : ∀ q : Nat, s.heap.size ≤ q → A q := fun q h => by rw [← hAe]; exact Or.inr h
  have hS : va_S A s.heap s.heap [] := va_S.rf
  have hR : FR ty [] F F := FR.refl
  have hl := lv_entry ([.ref h0, .int (nI jf)]) (n := 2) (Nat.le_of_ble_eq_true rfl)
  rw [lg_entry_eq]
  generalize (lg_sl ([.ref h0, .int (nI jf)]) ++ List.replicate (2 - (lg_sl ([.ref h0, .int (nI jf)])).length) Slot.unset).toArray = ls at hl ⊢
  have hl : lv_has ls 2 [(0, .ref h0), (1, .int (nI jf))] := hl
  obtain ⟨hi_1, ht_2, hi_3, ht_4, hi_5, ht_6, hi_7, ht_8, hi_9, ht_10, hi_11, ht_12, hi_13, ⟨r_14, ht_15⟩, hi_16, ⟨r_17, ht_18⟩, hi_19, ht_20, hi_21, ⟨r_22, ht_23⟩, hi_24, ht_25, hi_26, ht_27, hi_28, ht_29, hi_30, ht_31, hi_32, ht_33, hi_34, ht_35, hi_36, ht_37, hi_38, ⟨r_39, ht_40⟩, hi_41, ht_42, hi_43, ⟨x_44, y0_45, y1_46, y2_47, ht_48⟩, hi_49, ⟨x_50, y0_51, y1_52, y2_53, ht_54⟩, hi_55, ⟨x_56, y_57, w_58, u_59, bl_60, ht_61⟩, hi_62, ht_63, hi_64, ht_65, hi_66, ht_67, hi_68, ht_69, hi_70, ht_71, hi_72, ht_73, hi_74, ht_75, hi_76, ht_77, hi_78, ht_79, hi_80, ht_81, hi_82, ⟨r_83, ht_84⟩, hi_85, ⟨r_86, ht_87⟩, hi_88, ht_89, hi_90, ht_91, hi_92, ⟨r_93, ht_94⟩, hi_95, ⟨r_96, ht_97⟩, hi_98, ⟨r_99, ht_100⟩, hq_101, hq_102, hq_103, hq_104, hq_105, hgO, hgA, hgB⟩ := hW.mod hL_h0 hT_h0
  have hoj := hgO jf hjf
  refine lv_aload_n hx hb dX15_valueEnd_0 rfl (lv_at hl 0 rfl) ?_
  obtain ⟨zo_106, ze_107, v11_108, v12_109, v14_110, v15_111, v17_112, v18_113, v19_114, v20_115, v21_116, v22_117, v33_118, v52_119, v53_120, v54_121, hF_122, hq_123, hq_124, hq_125, hq_126⟩ := hO.mod hL_h0 hT_h0
  refine pg_get (ci := 15) (v := .ref ml) (C := RX15) (T := TX15) (N := 59) hx hb hts it_15 hown hK hP hL_h0 hF_122 rfl 23 (by decide) (hts _ kt_902) (fun _ h9 => h9) rfl dX15_valueEnd_1 ?_
  refine lv_aload_n hx hb dX15_valueEnd_4 rfl (lv_at hl 0 rfl) ?_
  refine pg_get (ci := 15) (v := .ref sp) (C := RX15) (T := TX15) (N := 59) hx hb hts it_15 hown hK hP hL_h0 hF_122 rfl 26 (by decide) (hts _ kt_905) (fun _ h9 => h9) rfl dX15_valueEnd_5 ?_
  refine lv_iload_n hx hb dX15_valueEnd_8 rfl (lv_at hl 1 rfl) ?_
  obtain ⟨f_127, hF_128, hq_129⟩ := hO.pos hi_30 ht_31
  refine pg_iald hx hb hK hP hi_30 0 hF_128 rfl (vp_in_nI (by omega) (by omega)) dX15_valueEnd_9 ?_
  refine lv_topi (fun x_130 ex_130 => ?_)
  obtain rfl : x_130 = (nI (gm 2 jf)) := ex_130.trans (by rw [show ((nI jf) : Int32) = nI jf from rfl, nI_clamp (by omega)]; exact hq_129 jf (by omega))
  have hgbx_130 := hgB 2 jf
  refine lv_iconst (v := 1) hx hb dX15_valueEnd_10 (by decide) ?_
  refine lv_isub hx hb dX15_valueEnd_11 ?_
  refine lv_topi (fun x_131 ex_131 => ?_)
  obtain rfl : x_131 = (nI ((gm 2 jf) - 1)) := ex_131.trans (pk_sub (a := (gm 2 jf)) (b := 1) (by omega))
  obtain ⟨hq_132, hq_133⟩ := hW.octs hi_24 ht_25
  obtain ⟨f_134, hF_135, hq_136⟩ := hO.octs hi_24 ht_25
  refine pg_bald hx hb hK hP hi_24 1 hF_135 rfl (vp_in_nI (by omega) (by omega)) dX15_valueEnd_12 ?_
  refine lv_topi (fun x_137 ex_137 => ?_)
  obtain rfl : x_137 = f_134 ((gm 2 jf) - 1) := ex_137.trans (congrArg f_134 (show ((nI ((gm 2 jf) - 1)) : Int32).toNatClampNeg = ((gm 2 jf) - 1) from nI_clamp (by omega)))
  refine lv_bipush (v := 10) hx hb dX15_valueEnd_13 (by decide) ?_
  refine lv_icmp_ne (tgt := 29) hx hb dX15_valueEnd_15 (by decide) (fun c_138 => ?_) (fun c_138 => ?_)
  ·
    refine lv_aload_n hx hb dX15_valueEnd_29 rfl (lv_at hl 0 rfl) ?_
    refine pg_get (ci := 15) (v := .ref sp) (C := RX15) (T := TX15) (N := 59) hx hb hts it_15 hown hK hP hL_h0 hF_122 rfl 26 (by decide) (hts _ kt_905) (fun _ h9 => h9) rfl dX15_valueEnd_30 ?_
    refine lv_iload_n hx hb dX15_valueEnd_33 rfl (lv_at hl 1 rfl) ?_
    refine pg_iald hx hb hK hP hi_30 0 hF_128 rfl (vp_in_nI (by omega) (by omega)) dX15_valueEnd_34 ?_
    refine lv_topi (fun x_139 ex_139 => ?_)
    obtain rfl : x_139 = (nI (gm 2 jf)) := ex_139.trans (by rw [show ((nI jf) : Int32) = nI jf from rfl, nI_clamp (by omega)]; exact hq_129 jf (by omega))
    have hgbx_139 := hgB 2 jf
    refine W.widen (k := 0) (n := 0) (by omega) (by omega) ?_
    exact W.iret (v := (nI (gm 2 jf))) hx hb hr (fun t ht hWm => ⟨⟨(nI (gm 2 jf)), (), rfl, ⟨(gm 2 jf), by omega, by omega, rfl⟩, ⟨F, QTm.mk ht hP hD hO hR⟩⟩, hS.F ht⟩) hS.2.2 dX15_valueEnd_35
  ·
    refine lv_aload_n hx hb dX15_valueEnd_18 rfl (lv_at hl 0 rfl) ?_
    refine pg_get (ci := 15) (v := .ref sp) (C := RX15) (T := TX15) (N := 59) hx hb hts it_15 hown hK hP hL_h0 hF_122 rfl 26 (by decide) (hts _ kt_905) (fun _ h9 => h9) rfl dX15_valueEnd_19 ?_
    refine lv_iload_n hx hb dX15_valueEnd_22 rfl (lv_at hl 1 rfl) ?_
    refine pg_iald hx hb hK hP hi_30 0 hF_128 rfl (vp_in_nI (by omega) (by omega)) dX15_valueEnd_23 ?_
    refine lv_topi (fun x_140 ex_140 => ?_)
    obtain rfl : x_140 = (nI (gm 2 jf)) := ex_140.trans (by rw [show ((nI jf) : Int32) = nI jf from rfl, nI_clamp (by omega)]; exact hq_129 jf (by omega))
    have hgbx_140 := hgB 2 jf
    refine lv_iconst (v := 1) hx hb dX15_valueEnd_24 (by decide) ?_
    refine lv_isub hx hb dX15_valueEnd_25 ?_
    refine lv_topi (fun x_141 ex_141 => ?_)
    obtain rfl : x_141 = (nI ((gm 2 jf) - 1)) := ex_141.trans (pk_sub (a := (gm 2 jf)) (b := 1) (by omega))
    refine lv_goto (tgt := 35) hx hb dX15_valueEnd_26 (by decide) ?_
    refine W.widen (k := 0) (n := 0) (by omega) (by omega) ?_
    exact W.iret (v := (nI ((gm 2 jf) - 1))) hx hb hr (fun t ht hWm => ⟨⟨(nI ((gm 2 jf) - 1)), (), rfl, ⟨((gm 2 jf) - 1), by omega, by omega, rfl⟩, ⟨F, QTm.mk ht hP hD hO hR⟩⟩, hS.F ht⟩) hS.2.2 dX15_valueEnd_35
set_option maxHeartbeats 4000000 in
set_option maxRecDepth 100000 in
theorem s_X15_seals (l : Launch) (dC : Nat → ClassId) (dI : Nat → Nat → Nat) (cs : Nat → ClassId) (ty : TyM) (gm : Nat → Nat → Nat) (L : List Nat) (sz : Nat) (F : Nat → va_E) (h0 : Nat) (ρ : Nat) (ta : Nat) (ou : Nat) (so : Nat) (ad : Nat) (na : Nat) (va : Nat) (lc : Nat) (dm : Nat) (tg : Nat) (pe : Nat) (ml : Nat) (bg : Nat) (co : Nat) (sp : Nat) (nb0 : Nat) (nb1 : Nat) (nb2 : Nat) (pl : Nat) (se : Nat) (ke : Nat) (wi : Nat) (hs : Nat) (mo : Nat) (po : Nat) (nu : Nat) (pr : Nat) (sq : Nat) (xa : Nat) (sa : Nat) (n64 : Nat) (m64 : Nat) (ex : Nat) (wh : Nat) (sd : Nat) (tk : Nat) (hd : Nat) (ak : Nat) (ho : Nat) (ot : Nat) (sx : Nat) (s0 : Nat) (s1 : Nat) (s2 : Nat) (nf : Nat) (bd : Nat) (mm : Nat) (zt : Nat) (hW : WTm ty gm L) (hL_h0 : h0 ∈ L) (hT_h0 : ty h0 = (15, ρ, [ta, ou, so, ad, na, va, lc, dm, tg, pe, ml, bg, co, sp, nb0, nb1, nb2, pl, se, ke, wi, hs, mo, po, nu, pr, sq, xa, sa, n64, m64, ex, wh, sd, tk, hd, ak, ho, ot, sx, s0, s1, s2, nf, bd, mm, zt])) : Met l yX15_seals (.code yX15_seals cX15_seals 3 (some .int) :: tb) ({ frames := 6, cells := 0, slots := 0, locals := 131 }) (va_Pc [.ref h0] (PTEm (dC, dI) cs ty gm L F sz [])) (va_Qi (fun (r : Int32) (_ : Unit) => True) (fun _ T9 => ∃ F2 : Nat → va_E, QTm (dC, dI) cs ty gm L [] F F2 (va_A (va_pl L F) sz) T9) (va_A (va_pl L F) sz)) 0 0 (va_A (va_pl L F) sz) := by
  refine Met.ofW (cc := cX15_seals) (maxL := 3) (ret := (some .int)) (by decide) rfl ?_
  intro p e s m args below meth c s₁ B hml hv
  obtain ⟨rfl, ⟨hsz, hP, hK, hD0, hE, hO⟩, hG, hX⟩ := hv
  have hx := B.exec
  have hb := B.bytes
  have hr := B.returns
  have hts : ∀ w ∈ tb, w.before _ s = true := fun w h => atoms_spec (ws := .code yX15_seals cX15_seals 3 (some .int) :: tb) B.pre w (List.mem_cons_of_mem _ h)
  have hown : s.vm.findClass RX15 = some m.cls := findClass_of_methodNamed B.named
  have hlocks := B.notSynchronized
  subst hsz
  have hD := hD0.self (sz := s.heap.size)
  generalize hAe : va_A (va_pl L F) s.heap.size = A at hD hG hX ⊢
  have hA : ∀ q : Nat, s.heap.size ≤ q → A q := fun q h => by rw [← hAe]; exact Or.inr h
  have hS : va_S A s.heap s.heap [] := va_S.rf
  have hR : FR ty [] F F := FR.refl
  have hl := lv_entry ([.ref h0]) (n := 3) (Nat.le_of_ble_eq_true rfl)
  rw [lg_entry_eq]
  generalize (lg_sl ([.ref h0]) ++ List.replicate (3 - (lg_sl ([.ref h0])).length) Slot.unset).toArray = ls at hl ⊢
  have hl : lv_has ls 3 [(0, .ref h0)] := hl
  obtain ⟨hi_1, ht_2, hi_3, ht_4, hi_5, ht_6, hi_7, ht_8, hi_9, ht_10, hi_11, ht_12, hi_13, ⟨r_14, ht_15⟩, hi_16, ⟨r_17, ht_18⟩, hi_19, ht_20, hi_21, ⟨r_22, ht_23⟩, hi_24, ht_25, hi_26, ht_27, hi_28, ht_29, hi_30, ht_31, hi_32, ht_33, hi_34, ht_35, hi_36, ht_37, hi_38, ⟨r_39, ht_40⟩, hi_41, ht_42, hi_43, ⟨x_44, y0_45, y1_46, y2_47, ht_48⟩, hi_49, ⟨x_50, y0_51, y1_52, y2_53, ht_54⟩, hi_55, ⟨x_56, y_57, w_58, u_59, bl_60, ht_61⟩, hi_62, ht_63, hi_64, ht_65, hi_66, ht_67, hi_68, ht_69, hi_70, ht_71, hi_72, ht_73, hi_74, ht_75, hi_76, ht_77, hi_78, ht_79, hi_80, ht_81, hi_82, ⟨r_83, ht_84⟩, hi_85, ⟨r_86, ht_87⟩, hi_88, ht_89, hi_90, ht_91, hi_92, ⟨r_93, ht_94⟩, hi_95, ⟨r_96, ht_97⟩, hi_98, ⟨r_99, ht_100⟩, hq_101, hq_102, hq_103, hq_104, hq_105, hgO, hgA, hgB⟩ := hW.mod hL_h0 hT_h0
  refine lv_iconst (v := 0) hx hb dX15_seals_0 (by decide) ?_
  refine lv_istore_n (lv' := [(1, .int 0), (0, .ref h0)]) hx hb dX15_seals_1 rfl hl (by decide) rfl (fun ls hl => ?_)
  refine lv_iconst (v := 0) hx hb dX15_seals_2 (by decide) ?_
  refine lv_istore_n (lv' := [(2, .int 0), (1, .int 0), (0, .ref h0)]) hx hb dX15_seals_3 rfl hl (by decide) rfl (fun ls hl => ?_)
  refine W.widen (k := 0) (n := 0) (by omega) (by omega) ?_
  refine pl_loopm (σ := Nat × Int32) A (dC, dI) cs ty gm L [] F 4 3 (fun (j, w1) => [(2, .int (nI j)), (1, .int w1), (0, .ref h0)]) (fun (j, w1) => []) (fun (j, w1) _ => j ≤ nf) (fun (j, w1) => nf - j) ?_ (0, 0) F (by omega) hO hR _ _ hP hD hS ls (lv_sub hl [0, 1, 2] rfl)
  rintro ⟨j, w1⟩ F_106 hv_107 hO hR ih_108 H locs hP hD hS ls hl
  have hl : lv_has ls 3 [(2, .int (nI j)), (1, .int w1), (0, .ref h0)] := hl
  have hv_107 : j ≤ nf := hv_107
  refine W.eq (g2 := F0 m 4 ls []) rfl ?_
  obtain rfl : F = F_106 := (funext (fun a => hR a List.not_mem_nil)).symm
  refine lv_aload_n hx hb dX15_seals_4 rfl (lv_at hl 2 rfl) ?_
  obtain ⟨zo_109, ze_110, v11_111, v12_112, v14_113, v15_114, v17_115, v18_116, v19_117, v20_118, v21_119, v22_120, v33_121, v52_122, v53_123, v54_124, hF_125, hq_126, hq_127, hq_128, hq_129⟩ := hO.mod hL_h0 hT_h0
  refine pg_get (ci := 15) (v := .int v33_121) (C := RX15) (T := TX15) (N := 59) hx hb hts it_15 hown hK hP hL_h0 hF_125 rfl 33 (by decide) (hts _ kt_906) (fun _ h9 => h9) rfl dX15_seals_5 ?_
  refine lv_if_eq (tgt := 39) hx hb dX15_seals_8 (by decide) (fun c_130 => ?_) (fun c_130 => ?_)
  ·
    refine lv_iload_n hx hb dX15_seals_39 rfl (lv_at hl 1 rfl) ?_
    refine W.widen (k := 0) (n := 0) (by omega) (by omega) ?_
    exact W.iret (v := w1) hx hb hr (fun t ht hWm => ⟨⟨w1, (), rfl, trivial, ⟨F, QTm.mk ht hP hD hO hR⟩⟩, hS.F ht⟩) hS.2.2 dX15_seals_40
  ·
    refine lv_iload_n hx hb dX15_seals_11 rfl (lv_at hl 0 rfl) ?_
    refine lv_aload_n hx hb dX15_seals_12 rfl (lv_at hl 2 rfl) ?_
    refine pg_get (ci := 15) (v := .int (nI nf)) (C := RX15) (T := TX15) (N := 59) hx hb hts it_15 hown hK hP hL_h0 hF_125 rfl 30 (by decide) (hts _ kt_907) (fun _ h9 => h9) rfl dX15_seals_13 ?_
    refine lv_icmp_ge (tgt := 39) hx hb dX15_seals_16 (by decide) (fun c_131 => ?_) (fun c_131 => ?_)
    ·
      have hi_132 : nf ≤ j := leN (N := nf) c_131
      refine lv_iload_n hx hb dX15_seals_39 rfl (lv_at hl 1 rfl) ?_
      refine W.widen (k := 0) (n := 0) (by omega) (by omega) ?_
      exact W.iret (v := w1) hx hb hr (fun t ht hWm => ⟨⟨w1, (), rfl, trivial, ⟨F, QTm.mk ht hP hD hO hR⟩⟩, hS.F ht⟩) hS.2.2 dX15_seals_40
    ·
      have hi_133 : j < nf := ltN (N := nf) c_131
      refine lv_aload_n hx hb dX15_seals_19 rfl (lv_at hl 2 rfl) ?_
      refine lv_iload_n hx hb dX15_seals_20 rfl (lv_at hl 0 rfl) ?_
      obtain ⟨q_134, v_135, hr_q_134, hX_q_134⟩ := hG.2.2 ("PostGateModel", 376, "dkim-signature", [100, 107, 105, 109, 45, 115, 105, 103, 110, 97, 116, 117, 114, 101]) (by decide +kernel)
      have hX_q_134 : SXc q_134 v_135 14 (cct [100, 107, 105, 109, 45, 115, 105, 103, 110, 97, 116, 117, 114, 101]) A s s.heap := hX_q_134
      obtain ⟨xo_q_134, xc_q_134, xv_q_134, xt_q_134, xn_q_134⟩ := id hX_q_134
      have hr_q_134 : vk_R "PostGateModel" 376 "dkim-signature" q_134 s := hr_q_134
      refine va_ldcwS hx hb hown hr_q_134 dX15_seals_21 ?_
      have hFc := pg_free hD hS hA
      refine va_calli (va_runV (As := [.int (nI j), .ref q_134]) (rest := []) ⟨hx, hb, hml, hown, hts⟩ (s_X15_isNamed l dC dI cs ty gm L H.size F h0 ρ ta ou so ad na va lc dm tg pe ml bg co sp nb0 nb1 nb2 pl se ke wi hs mo po nu pr sq xa sa n64 m64 ex wh sd tk hd ak ho ot sx s0 s1 s2 nf bd mm zt j q_134 v_135 14 (cct [100, 107, 105, 109, 45, 115, 105, 103, 110, 97, 116, 117, 114, 101]) hW hL_h0 hT_h0 (by first | omega | assumption)) ⟨callB_of 2 hts (gi kt_908) rfl rfl rfl (hts _ kt_669) (hts _ kt_909) (by decide +kernel) ⟨Nat.le_of_ble_eq_true rfl, Nat.le_of_ble_eq_true rfl⟩, (hts _ kt_910), (hts _ kt_911)⟩ ⟨fun a U g mk q => ⟨q.1, PTEm.calling q.2⟩, pg_recv hK hP hL_h0 hF_125 (q := (RX15, TX15, 59)) rfl, fun U hU hWm => ⟨rfl, PTEm.mk hU hWm hP hK hD hE hO hG (fun x hx => by rw [List.mem_singleton] at hx; subst hx; exact hX_q_134) hS hFc⟩⟩ rfl rfl hl.1 rfl (lv_room (Nat.le_of_ble_eq_true rfl)) dX15_seals_24 ⟨by show _ + 0 ≤ 0; omega, by show _ + 0 ≤ 0; omega⟩) hS (fun q _ h => hFc q h) hFc (fun r_136 u t H1 locs ht hvm hw hB hz1 hk1 hS => ?_)
      obtain ⟨F_137, hB1⟩ := hB
      obtain rfl : F = F_137 := (funext (fun a => hB1.2.2.2 a List.not_mem_nil)).symm
      obtain ⟨hP, hD, hO, hR⟩ := QTm.back hB1 ht hFc hR (fun q h => absurd h List.not_mem_nil)
      generalize H1 = H at hP hS ⊢
      have hw : (r_136 = 0 ∨ r_136 = 1) := hw
      have hw_138 := hw
      refine lv_if_eq (tgt := 33) hx hb dX15_seals_27 (by decide) (fun c_139 => ?_) (fun c_139 => ?_)
      ·
        refine lv_iinc (v := (nI (j + 1))) (lv' := [(2, .int (nI (j + 1))), (1, .int w1), (0, .ref h0)]) hx hb dX15_seals_33 hl (k := 0) rfl (nI_1 _) (by decide) rfl (fun ls hl => ?_)
        refine lv_goto (tgt := 4) hx hb dX15_seals_36 (by decide) ?_
        refine W.widen (k := 0) (n := 0) (by omega) (by omega) ?_
        exact ih_108 ((j + 1), w1) F (by first | omega | exact ⟨by omega, by omega⟩ | trivial) (by show nf - (j + 1) < nf - j; omega) hO hR _ _ hP hD hS ls (lv_sub hl [0, 1, 2] rfl)
      ·
        obtain ⟨x_140, ex_140⟩ : ∃ y : Int32, y = w1 + Int32.ofInt 1 := ⟨_, rfl⟩
        refine lv_iinc (v := x_140) (lv' := [(1, .int x_140), (2, .int (nI j)), (0, .ref h0)]) hx hb dX15_seals_30 hl (k := 1) rfl (ex_140.symm) (by decide) rfl (fun ls hl => ?_)
        refine lv_iinc (v := (nI (j + 1))) (lv' := [(2, .int (nI (j + 1))), (1, .int x_140), (0, .ref h0)]) hx hb dX15_seals_33 hl (k := 1) rfl (nI_1 _) (by decide) rfl (fun ls hl => ?_)
        refine lv_goto (tgt := 4) hx hb dX15_seals_36 (by decide) ?_
        refine W.widen (k := 0) (n := 0) (by omega) (by omega) ?_
        exact ih_108 ((j + 1), x_140) F (by first | omega | exact ⟨by omega, by omega⟩ | trivial) (by show nf - (j + 1) < nf - j; omega) hO hR _ _ hP hD hS ls (lv_sub hl [0, 1, 2] rfl)
set_option maxHeartbeats 4000000 in
set_option maxRecDepth 100000 in
theorem s_X15_sealAt (l : Launch) (dC : Nat → ClassId) (dI : Nat → Nat → Nat) (cs : Nat → ClassId) (ty : TyM) (gm : Nat → Nat → Nat) (L : List Nat) (sz : Nat) (F : Nat → va_E) (h0 : Nat) (ρ : Nat) (ta : Nat) (ou : Nat) (so : Nat) (ad : Nat) (na : Nat) (va : Nat) (lc : Nat) (dm : Nat) (tg : Nat) (pe : Nat) (ml : Nat) (bg : Nat) (co : Nat) (sp : Nat) (nb0 : Nat) (nb1 : Nat) (nb2 : Nat) (pl : Nat) (se : Nat) (ke : Nat) (wi : Nat) (hs : Nat) (mo : Nat) (po : Nat) (nu : Nat) (pr : Nat) (sq : Nat) (xa : Nat) (sa : Nat) (n64 : Nat) (m64 : Nat) (ex : Nat) (wh : Nat) (sd : Nat) (tk : Nat) (hd : Nat) (ak : Nat) (ho : Nat) (ot : Nat) (sx : Nat) (s0 : Nat) (s1 : Nat) (s2 : Nat) (nf : Nat) (bd : Nat) (mm : Nat) (zt : Nat) (x1 : Int32) (hW : WTm ty gm L) (hL_h0 : h0 ∈ L) (hT_h0 : ty h0 = (15, ρ, [ta, ou, so, ad, na, va, lc, dm, tg, pe, ml, bg, co, sp, nb0, nb1, nb2, pl, se, ke, wi, hs, mo, po, nu, pr, sq, xa, sa, n64, m64, ex, wh, sd, tk, hd, ak, ho, ot, sx, s0, s1, s2, nf, bd, mm, zt])) : Met l yX15_sealAt (.code yX15_sealAt cX15_sealAt 4 (some .int) :: tb) ({ frames := 6, cells := 0, slots := 0, locals := 131 }) (va_Pc [.ref h0, .int x1] (PTEm (dC, dI) cs ty gm L F sz [])) (va_Qi (fun (r : Int32) (_ : Unit) => (r = (-1) ∨ ∃ j : Nat, j < nf ∧ r = nI j)) (fun _ T9 => ∃ F2 : Nat → va_E, QTm (dC, dI) cs ty gm L [] F F2 (va_A (va_pl L F) sz) T9) (va_A (va_pl L F) sz)) 0 0 (va_A (va_pl L F) sz) := by
  refine Met.ofW (cc := cX15_sealAt) (maxL := 4) (ret := (some .int)) (by decide) rfl ?_
  intro p e s m args below meth c s₁ B hml hv
  obtain ⟨rfl, ⟨hsz, hP, hK, hD0, hE, hO⟩, hG, hX⟩ := hv
  have hx := B.exec
  have hb := B.bytes
  have hr := B.returns
  have hts : ∀ w ∈ tb, w.before _ s = true := fun w h => atoms_spec (ws := .code yX15_sealAt cX15_sealAt 4 (some .int) :: tb) B.pre w (List.mem_cons_of_mem _ h)
  have hown : s.vm.findClass RX15 = some m.cls := findClass_of_methodNamed B.named
  have hlocks := B.notSynchronized
  subst hsz
  have hD := hD0.self (sz := s.heap.size)
  generalize hAe : va_A (va_pl L F) s.heap.size = A at hD hG hX ⊢
  have hA : ∀ q : Nat, s.heap.size ≤ q → A q := fun q h => by rw [← hAe]; exact Or.inr h
  have hS : va_S A s.heap s.heap [] := va_S.rf
  have hR : FR ty [] F F := FR.refl
  have hl := lv_entry ([.ref h0, .int x1]) (n := 4) (Nat.le_of_ble_eq_true rfl)
  rw [lg_entry_eq]
  generalize (lg_sl ([.ref h0, .int x1]) ++ List.replicate (4 - (lg_sl ([.ref h0, .int x1])).length) Slot.unset).toArray = ls at hl ⊢
  have hl : lv_has ls 4 [(0, .ref h0), (1, .int x1)] := hl
  obtain ⟨hi_1, ht_2, hi_3, ht_4, hi_5, ht_6, hi_7, ht_8, hi_9, ht_10, hi_11, ht_12, hi_13, ⟨r_14, ht_15⟩, hi_16, ⟨r_17, ht_18⟩, hi_19, ht_20, hi_21, ⟨r_22, ht_23⟩, hi_24, ht_25, hi_26, ht_27, hi_28, ht_29, hi_30, ht_31, hi_32, ht_33, hi_34, ht_35, hi_36, ht_37, hi_38, ⟨r_39, ht_40⟩, hi_41, ht_42, hi_43, ⟨x_44, y0_45, y1_46, y2_47, ht_48⟩, hi_49, ⟨x_50, y0_51, y1_52, y2_53, ht_54⟩, hi_55, ⟨x_56, y_57, w_58, u_59, bl_60, ht_61⟩, hi_62, ht_63, hi_64, ht_65, hi_66, ht_67, hi_68, ht_69, hi_70, ht_71, hi_72, ht_73, hi_74, ht_75, hi_76, ht_77, hi_78, ht_79, hi_80, ht_81, hi_82, ⟨r_83, ht_84⟩, hi_85, ⟨r_86, ht_87⟩, hi_88, ht_89, hi_90, ht_91, hi_92, ⟨r_93, ht_94⟩, hi_95, ⟨r_96, ht_97⟩, hi_98, ⟨r_99, ht_100⟩, hq_101, hq_102, hq_103, hq_104, hq_105, hgO, hgA, hgB⟩ := hW.mod hL_h0 hT_h0
  refine lv_iload_n hx hb dX15_sealAt_0 rfl (lv_at hl 1 rfl) ?_
  refine lv_istore_n (lv' := [(2, .int x1), (0, .ref h0), (1, .int x1)]) hx hb dX15_sealAt_1 rfl hl (by decide) rfl (fun ls hl => ?_)
  refine lv_iconst (v := 0) hx hb dX15_sealAt_2 (by decide) ?_
  refine lv_istore_n (lv' := [(3, .int 0), (2, .int x1), (0, .ref h0), (1, .int x1)]) hx hb dX15_sealAt_3 rfl hl (by decide) rfl (fun ls hl => ?_)
  refine W.widen (k := 0) (n := 0) (by omega) (by omega) ?_
  refine pl_loopm (σ := Nat × Int32) A (dC, dI) cs ty gm L [] F 4 4 (fun (j, w2) => [(3, .int (nI j)), (2, .int w2), (0, .ref h0), (1, .int x1)]) (fun (j, w2) => []) (fun (j, w2) _ => j ≤ nf) (fun (j, w2) => nf - j) ?_ (0, x1) F (by omega) hO hR _ _ hP hD hS ls (lv_sub hl [0, 1, 2, 3] rfl)
  rintro ⟨j, w2⟩ F_106 hv_107 hO hR ih_108 H locs hP hD hS ls hl
  have hl : lv_has ls 4 [(3, .int (nI j)), (2, .int w2), (0, .ref h0), (1, .int x1)] := hl
  have hv_107 : j ≤ nf := hv_107
  refine W.eq (g2 := F0 m 4 ls []) rfl ?_
  obtain rfl : F = F_106 := (funext (fun a => hR a List.not_mem_nil)).symm
  refine lv_aload_n hx hb dX15_sealAt_4 rfl (lv_at hl 2 rfl) ?_
  obtain ⟨zo_109, ze_110, v11_111, v12_112, v14_113, v15_114, v17_115, v18_116, v19_117, v20_118, v21_119, v22_120, v33_121, v52_122, v53_123, v54_124, hF_125, hq_126, hq_127, hq_128, hq_129⟩ := hO.mod hL_h0 hT_h0
  refine pg_get (ci := 15) (v := .int v33_121) (C := RX15) (T := TX15) (N := 59) hx hb hts it_15 hown hK hP hL_h0 hF_125 rfl 33 (by decide) (hts _ kt_906) (fun _ h9 => h9) rfl dX15_sealAt_5 ?_
  refine lv_if_eq (tgt := 52) hx hb dX15_sealAt_8 (by decide) (fun c_130 => ?_) (fun c_130 => ?_)
  ·
    refine lv_iconst (v := (-1)) hx hb dX15_sealAt_52 (by decide) ?_
    refine W.widen (k := 0) (n := 0) (by omega) (by omega) ?_
    exact W.iret (v := (-1)) hx hb hr (fun t ht hWm => ⟨⟨(-1), (), rfl, Or.inl rfl, ⟨F, QTm.mk ht hP hD hO hR⟩⟩, hS.F ht⟩) hS.2.2 dX15_sealAt_53
  ·
    refine lv_iload_n hx hb dX15_sealAt_11 rfl (lv_at hl 3 rfl) ?_
    refine lv_if_lt (tgt := 52) hx hb dX15_sealAt_12 (by decide) (fun c_131 => ?_) (fun c_131 => ?_)
    ·
      refine lv_iconst (v := (-1)) hx hb dX15_sealAt_52 (by decide) ?_
      refine W.widen (k := 0) (n := 0) (by omega) (by omega) ?_
      exact W.iret (v := (-1)) hx hb hr (fun t ht hWm => ⟨⟨(-1), (), rfl, Or.inl rfl, ⟨F, QTm.mk ht hP hD hO hR⟩⟩, hS.F ht⟩) hS.2.2 dX15_sealAt_53
    ·
      refine lv_iload_n hx hb dX15_sealAt_15 rfl (lv_at hl 0 rfl) ?_
      refine lv_aload_n hx hb dX15_sealAt_16 rfl (lv_at hl 2 rfl) ?_
      refine pg_get (ci := 15) (v := .int (nI nf)) (C := RX15) (T := TX15) (N := 59) hx hb hts it_15 hown hK hP hL_h0 hF_125 rfl 30 (by decide) (hts _ kt_907) (fun _ h9 => h9) rfl dX15_sealAt_17 ?_
      refine lv_icmp_ge (tgt := 52) hx hb dX15_sealAt_20 (by decide) (fun c_132 => ?_) (fun c_132 => ?_)
      ·
        have hi_133 : nf ≤ j := leN (N := nf) c_132
        refine lv_iconst (v := (-1)) hx hb dX15_sealAt_52 (by decide) ?_
        refine W.widen (k := 0) (n := 0) (by omega) (by omega) ?_
        exact W.iret (v := (-1)) hx hb hr (fun t ht hWm => ⟨⟨(-1), (), rfl, Or.inl rfl, ⟨F, QTm.mk ht hP hD hO hR⟩⟩, hS.F ht⟩) hS.2.2 dX15_sealAt_53
      ·
        have hi_134 : j < nf := ltN (N := nf) c_132
        refine lv_aload_n hx hb dX15_sealAt_23 rfl (lv_at hl 2 rfl) ?_
        refine lv_iload_n hx hb dX15_sealAt_24 rfl (lv_at hl 0 rfl) ?_
        obtain ⟨q_135, v_136, hr_q_135, hX_q_135⟩ := hG.2.2 ("PostGateModel", 376, "dkim-signature", [100, 107, 105, 109, 45, 115, 105, 103, 110, 97, 116, 117, 114, 101]) (by decide +kernel)
        have hX_q_135 : SXc q_135 v_136 14 (cct [100, 107, 105, 109, 45, 115, 105, 103, 110, 97, 116, 117, 114, 101]) A s s.heap := hX_q_135
        obtain ⟨xo_q_135, xc_q_135, xv_q_135, xt_q_135, xn_q_135⟩ := id hX_q_135
        have hr_q_135 : vk_R "PostGateModel" 376 "dkim-signature" q_135 s := hr_q_135
        refine va_ldcwS hx hb hown hr_q_135 dX15_sealAt_25 ?_
        have hFc := pg_free hD hS hA
        refine va_calli (va_runV (As := [.int (nI j), .ref q_135]) (rest := []) ⟨hx, hb, hml, hown, hts⟩ (s_X15_isNamed l dC dI cs ty gm L H.size F h0 ρ ta ou so ad na va lc dm tg pe ml bg co sp nb0 nb1 nb2 pl se ke wi hs mo po nu pr sq xa sa n64 m64 ex wh sd tk hd ak ho ot sx s0 s1 s2 nf bd mm zt j q_135 v_136 14 (cct [100, 107, 105, 109, 45, 115, 105, 103, 110, 97, 116, 117, 114, 101]) hW hL_h0 hT_h0 (by first | omega | assumption)) ⟨callB_of 2 hts (gi kt_908) rfl rfl rfl (hts _ kt_669) (hts _ kt_909) (by decide +kernel) ⟨Nat.le_of_ble_eq_true rfl, Nat.le_of_ble_eq_true rfl⟩, (hts _ kt_910), (hts _ kt_911)⟩ ⟨fun a U g mk q => ⟨q.1, PTEm.calling q.2⟩, pg_recv hK hP hL_h0 hF_125 (q := (RX15, TX15, 59)) rfl, fun U hU hWm => ⟨rfl, PTEm.mk hU hWm hP hK hD hE hO hG (fun x hx => by rw [List.mem_singleton] at hx; subst hx; exact hX_q_135) hS hFc⟩⟩ rfl rfl hl.1 rfl (lv_room (Nat.le_of_ble_eq_true rfl)) dX15_sealAt_28 ⟨by show _ + 0 ≤ 0; omega, by show _ + 0 ≤ 0; omega⟩) hS (fun q _ h => hFc q h) hFc (fun r_137 u t H1 locs ht hvm hw hB hz1 hk1 hS => ?_)
        obtain ⟨F_138, hB1⟩ := hB
        obtain rfl : F = F_138 := (funext (fun a => hB1.2.2.2 a List.not_mem_nil)).symm
        obtain ⟨hP, hD, hO, hR⟩ := QTm.back hB1 ht hFc hR (fun q h => absurd h List.not_mem_nil)
        generalize H1 = H at hP hS ⊢
        have hw : (r_137 = 0 ∨ r_137 = 1) := hw
        have hw_139 := hw
        refine lv_if_ne (tgt := 37) hx hb dX15_sealAt_31 (by decide) (fun c_140 => ?_) (fun c_140 => ?_)
        ·
          refine lv_iload_n hx hb dX15_sealAt_37 rfl (lv_at hl 1 rfl) ?_
          refine lv_if_ne (tgt := 43) hx hb dX15_sealAt_38 (by decide) (fun c_141 => ?_) (fun c_141 => ?_)
          ·
            obtain ⟨x_142, ex_142⟩ : ∃ y : Int32, y = w2 + Int32.ofInt (-1) := ⟨_, rfl⟩
            refine lv_iinc (v := x_142) (lv' := [(2, .int x_142), (3, .int (nI j)), (0, .ref h0), (1, .int x1)]) hx hb dX15_sealAt_43 hl (k := 1) rfl (ex_142.symm) (by decide) rfl (fun ls hl => ?_)
            refine lv_iinc (v := (nI (j + 1))) (lv' := [(3, .int (nI (j + 1))), (2, .int x_142), (0, .ref h0), (1, .int x1)]) hx hb dX15_sealAt_46 hl (k := 1) rfl (nI_1 _) (by decide) rfl (fun ls hl => ?_)
            refine lv_goto (tgt := 4) hx hb dX15_sealAt_49 (by decide) ?_
            refine W.widen (k := 0) (n := 0) (by omega) (by omega) ?_
            exact ih_108 ((j + 1), x_142) F (by first | omega | exact ⟨by omega, by omega⟩ | trivial) (by show nf - (j + 1) < nf - j; omega) hO hR _ _ hP hD hS ls (lv_sub hl [0, 1, 2, 3] rfl)
          ·
            refine lv_iload_n hx hb dX15_sealAt_41 rfl (lv_at hl 0 rfl) ?_
            refine W.widen (k := 0) (n := 0) (by omega) (by omega) ?_
            exact W.iret (v := (nI j)) hx hb hr (fun t ht hWm => ⟨⟨(nI j), (), rfl, (Or.inr ⟨j, by omega, rfl⟩), ⟨F, QTm.mk ht hP hD hO hR⟩⟩, hS.F ht⟩) hS.2.2 dX15_sealAt_42
        ·
          refine lv_goto (tgt := 46) hx hb dX15_sealAt_34 (by decide) ?_
          refine lv_iinc (v := (nI (j + 1))) (lv' := [(3, .int (nI (j + 1))), (2, .int w2), (0, .ref h0), (1, .int x1)]) hx hb dX15_sealAt_46 hl (k := 0) rfl (nI_1 _) (by decide) rfl (fun ls hl => ?_)
          refine lv_goto (tgt := 4) hx hb dX15_sealAt_49 (by decide) ?_
          refine W.widen (k := 0) (n := 0) (by omega) (by omega) ?_
          exact ih_108 ((j + 1), w2) F (by first | omega | exact ⟨by omega, by omega⟩ | trivial) (by show nf - (j + 1) < nf - j; omega) hO hR _ _ hP hD hS ls (lv_sub hl [0, 1, 2, 3] rfl)
set_option maxHeartbeats 4000000 in
set_option maxRecDepth 100000 in
theorem s_X15_fieldPlain (l : Launch) (dC : Nat → ClassId) (dI : Nat → Nat → Nat) (cs : Nat → ClassId) (ty : TyM) (gm : Nat → Nat → Nat) (L : List Nat) (sz : Nat) (F : Nat → va_E) (h0 : Nat) (ρ : Nat) (ta : Nat) (ou : Nat) (so : Nat) (ad : Nat) (na : Nat) (va : Nat) (lc : Nat) (dm : Nat) (tg : Nat) (pe : Nat) (ml : Nat) (bg : Nat) (co : Nat) (sp : Nat) (nb0 : Nat) (nb1 : Nat) (nb2 : Nat) (pl : Nat) (se : Nat) (ke : Nat) (wi : Nat) (hs : Nat) (mo : Nat) (po : Nat) (nu : Nat) (pr : Nat) (sq : Nat) (xa : Nat) (sa : Nat) (n64 : Nat) (m64 : Nat) (ex : Nat) (wh : Nat) (sd : Nat) (tk : Nat) (hd : Nat) (ak : Nat) (ho : Nat) (ot : Nat) (sx : Nat) (s0 : Nat) (s1 : Nat) (s2 : Nat) (nf : Nat) (bd : Nat) (mm : Nat) (zt : Nat) (rl : Nat) (jf : Nat) (z : Nat) (x2 : Int32) (x3 : Int32) (x4 : Int32) (hW : WTm ty gm L) (hL_h0 : h0 ∈ L) (hT_h0 : ty h0 = (15, ρ, [ta, ou, so, ad, na, va, lc, dm, tg, pe, ml, bg, co, sp, nb0, nb1, nb2, pl, se, ke, wi, hs, mo, po, nu, pr, sq, xa, sa, n64, m64, ex, wh, sd, tk, hd, ak, ho, ot, sx, s0, s1, s2, nf, bd, mm, zt])) (hL_pl : pl ∈ L) (hT_pl : ty pl = (14, ρ + 10, [rl, 6000])) (hjf : jf < nf) (hFl : F pl = .inr (14, [.ref rl, .int (nI z)])) (hfit : z + (gm 2 jf - gm 0 jf) ≤ 6000) : Met l yX15_fieldPlain (.code yX15_fieldPlain cX15_fieldPlain 9 none :: tb) ({ frames := 1, cells := 0, slots := 0, locals := 21 }) (va_Pc [.ref h0, .int (nI jf), .int x2, .int x3, .int x4] (PTm (dC, dI) cs ty gm L F sz)) (va_Qv (fun _ : Unit => True) (fun _ T9 => ∃ F2 : Nat → va_E, ∃ z2 : Nat, QTm (dC, dI) cs ty gm L [ρ + 10] F F2 (va_A (va_pl L F) sz) T9 ∧ F2 pl = .inr (14, [.ref rl, .int (nI z2)]) ∧ z2 ≤ z + (gm 2 jf - gm 0 jf)) (va_A (va_pl L F) sz)) 0 0 (va_A (va_pl L F) sz) := by
  refine Met.ofW (cc := cX15_fieldPlain) (maxL := 9) (ret := none) (by decide) rfl ?_
  intro p e s m args below meth c s₁ B hml hv
  obtain ⟨rfl, hsz, hP, hK, hD0, hE, hO⟩ := hv
  have hx := B.exec
  have hb := B.bytes
  have hr := B.returns
  have hts : ∀ w ∈ tb, w.before _ s = true := fun w h => atoms_spec (ws := .code yX15_fieldPlain cX15_fieldPlain 9 none :: tb) B.pre w (List.mem_cons_of_mem _ h)
  have hown : s.vm.findClass RX15 = some m.cls := findClass_of_methodNamed B.named
  have hlocks := B.notSynchronized
  subst hsz
  have hD := hD0.self (sz := s.heap.size)
  generalize hAe : va_A (va_pl L F) s.heap.size = A at hD ⊢
  have hA : ∀ q : Nat, s.heap.size ≤ q → A q := fun q h => by rw [← hAe]; exact Or.inr h
  have hS : va_S A s.heap s.heap [] := va_S.rf
  have hR : FR ty [ρ + 10] F F := FR.refl
  have hl := lv_entry ([.ref h0, .int (nI jf), .int x2, .int x3, .int x4]) (n := 9) (Nat.le_of_ble_eq_true rfl)
  rw [lg_entry_eq]
  generalize (lg_sl ([.ref h0, .int (nI jf), .int x2, .int x3, .int x4]) ++ List.replicate (9 - (lg_sl ([.ref h0, .int (nI jf), .int x2, .int x3, .int x4])).length) Slot.unset).toArray = ls at hl ⊢
  have hl : lv_has ls 9 [(0, .ref h0), (1, .int (nI jf)), (2, .int x2), (3, .int x3), (4, .int x4)] := hl
  obtain ⟨hi_1, ht_2, hi_3, ht_4, hi_5, ht_6, hi_7, ht_8, hi_9, ht_10, hi_11, ht_12, hi_13, ⟨r_14, ht_15⟩, hi_16, ⟨r_17, ht_18⟩, hi_19, ht_20, hi_21, ⟨r_22, ht_23⟩, hi_24, ht_25, hi_26, ht_27, hi_28, ht_29, hi_30, ht_31, hi_32, ht_33, hi_34, ht_35, hi_36, ht_37, _, _, hi_38, ht_39, hi_40, ⟨x_41, y0_42, y1_43, y2_44, ht_45⟩, hi_46, ⟨x_47, y0_48, y1_49, y2_50, ht_51⟩, hi_52, ⟨x_53, y_54, w_55, u_56, bl_57, ht_58⟩, hi_59, ht_60, hi_61, ht_62, hi_63, ht_64, hi_65, ht_66, hi_67, ht_68, hi_69, ht_70, hi_71, ht_72, hi_73, ht_74, hi_75, ht_76, hi_77, ht_78, hi_79, ⟨r_80, ht_81⟩, hi_82, ⟨r_83, ht_84⟩, hi_85, ht_86, hi_87, ht_88, hi_89, ⟨r_90, ht_91⟩, hi_92, ⟨r_93, ht_94⟩, hi_95, ⟨r_96, ht_97⟩, hq_98, hq_99, hq_100, hq_101, hq_102, hgO, hgA, hgB⟩ := hW.mod hL_h0 hT_h0
  have hoj := hgO jf hjf
  obtain ⟨hi_103, ht_104, hq_105⟩ := hW.txt hL_pl hT_pl
  refine lv_aload_n hx hb dX15_fieldPlain_0 rfl (lv_at hl 0 rfl) ?_
  refine lv_iload_n hx hb dX15_fieldPlain_1 rfl (lv_at hl 1 rfl) ?_
  have hFc := pg_free hD hS hA
  obtain ⟨zo_106, ze_107, v11_108, v12_109, v14_110, v15_111, v17_112, v18_113, v19_114, v20_115, v21_116, v22_117, v33_118, v52_119, v53_120, v54_121, hF_122, hq_123, hq_124, hq_125, hq_126⟩ := hO.mod hL_h0 hT_h0
  refine va_calli (va_runV (As := [.int (nI jf)]) (rest := []) ⟨hx, hb, hml, hown, hts⟩ (s_X15_valueEnd l dC dI cs ty gm L s.heap.size F h0 ρ ta ou so ad na va lc dm tg pe ml bg co sp nb0 nb1 nb2 pl se ke wi hs mo po nu pr sq xa sa n64 m64 ex wh sd tk hd ak ho ot sx s0 s1 s2 nf bd mm zt jf hW hL_h0 hT_h0 (by first | omega | assumption)) ⟨callB_of 1 hts (gi kt_912) rfl rfl rfl (hts _ kt_669) (hts _ kt_913) (by decide +kernel) ⟨Nat.le_of_ble_eq_true rfl, Nat.le_of_ble_eq_true rfl⟩, (hts _ kt_914), (hts _ kt_915)⟩ ⟨fun a U g mk q => ⟨q.1, PTm.calling q.2⟩, pg_recv hK hP hL_h0 hF_122 (q := (RX15, TX15, 59)) rfl, fun U hU hWm => ⟨rfl, PTm.mk hU hWm hP hK hD hE hO⟩⟩ rfl rfl hl.1 rfl (lv_room (Nat.le_of_ble_eq_true rfl)) dX15_fieldPlain_2 ⟨by show _ + 0 ≤ 0; omega, by show _ + 0 ≤ 0; omega⟩) hS (fun q _ h => hFc q h) hFc (fun r_127 u t H1 locs ht hvm hw hB hz1 hk1 hS => ?_)
  obtain ⟨F_128, hB1⟩ := hB
  obtain rfl : F = F_128 := (funext (fun a => hB1.2.2.2 a List.not_mem_nil)).symm
  obtain ⟨hP, hD, hO, hR⟩ := QTm.back hB1 ht hFc hR (fun q h => absurd h List.not_mem_nil)
  generalize H1 = H at hP hS ⊢
  have hw : (∃ k : Nat, gm 1 jf ≤ k ∧ k ≤ gm 2 jf ∧ r_127 = nI k) := hw
  have hw_129 := hw
  obtain ⟨kend, hke1, hke2, eke⟩ := hw_129
  subst eke
  refine lv_istore (lv' := [(5, .int (nI kend)), (0, .ref h0), (1, .int (nI jf)), (2, .int x2), (3, .int x3), (4, .int x4)]) hx hb dX15_fieldPlain_5 hl (by decide) rfl (fun ls hl => ?_)
  refine lv_iload_n hx hb dX15_fieldPlain_7 rfl (lv_at hl 3 rfl) ?_
  refine lv_if_ne (tgt := 60) hx hb dX15_fieldPlain_8 (by decide) (fun c_130 => ?_) (fun c_130 => ?_)
  ·
    refine lv_aload_n hx hb dX15_fieldPlain_60 rfl (lv_at hl 1 rfl) ?_
    refine pg_get (ci := 15) (v := .ref bg) (C := RX15) (T := TX15) (N := 59) hx hb hts it_15 hown hK hP hL_h0 hF_122 rfl 24 (by decide) (hts _ kt_903) (fun _ h9 => h9) rfl dX15_fieldPlain_61 ?_
    refine lv_iload_n hx hb dX15_fieldPlain_64 rfl (lv_at hl 2 rfl) ?_
    obtain ⟨f_131, hF_132, hq_133⟩ := hO.pos hi_26 ht_27
    refine pg_iald hx hb hK hP hi_26 0 hF_132 rfl (vp_in_nI (by omega) (by omega)) dX15_fieldPlain_65 ?_
    refine lv_topi (fun x_134 ex_134 => ?_)
    obtain rfl : x_134 = (nI (gm 0 jf)) := ex_134.trans (by rw [show ((nI jf) : Int32) = nI jf from rfl, nI_clamp (by omega)]; exact hq_133 jf (by omega))
    have hgbx_134 := hgB 0 jf
    refine lv_istore (lv' := [(6, .int (nI (gm 0 jf))), (5, .int (nI kend)), (0, .ref h0), (1, .int (nI jf)), (2, .int x2), (3, .int x3), (4, .int x4)]) hx hb dX15_fieldPlain_66 hl (by decide) rfl (fun ls hl => ?_)
    refine W.widen (k := 0) (n := 0) (by omega) (by omega) ?_
    have hF_136 : F h0 = .inr (15, (.ref ta) :: (.int (nI zt)) :: (.int (nI zo_106)) :: (.int (nI ze_107)) :: (.ref ou) :: (.ref so) :: (.ref ad) :: (.ref na) :: (.ref va) :: (.ref lc) :: (.ref dm) :: (.int v11_108) :: (.int v12_109) :: (.ref tg) :: (.int v14_110) :: (.int v15_111) :: (.ref pe) :: (.int v17_112) :: (.int v18_113) :: (.int v19_114) :: (.int v20_115) :: (.int v21_116) :: (.int v22_117) :: (.ref ml) :: (.ref bg) :: (.ref co) :: (.ref sp) :: (.ref nb0) :: (.ref nb1) :: (.ref nb2) :: (.int (nI nf)) :: (.int (nI bd)) :: (.int (nI mm)) :: (.int v33_118) :: (.ref pl) :: (.ref se) :: (.ref ke) :: (.ref wi) :: (.ref hs) :: (.ref mo) :: (.ref po) :: (.ref nu) :: (.ref pr) :: (.ref sq) :: (.ref xa) :: (.ref sa) :: (.ref n64) :: (.ref m64) :: (.ref ex) :: (.ref wh) :: (.ref sd) :: (.ref tk) :: (.int v52_119) :: (.int v53_120) :: (.int v54_121) :: (.ref hd) :: (.ref ak) :: (.ref ho) :: (.ref ot) :: []) := (hR h0 (by rw [hT_h0]; simp)).symm.trans hF_122
    have hF_137 : F bg = .inl (cs 16, 21, .inl f_131) := (hR bg (by rw [ht_27]; simp)).symm.trans hF_132
    refine pl_loopm (σ := Nat × Nat) A (dC, dI) cs ty gm L [ρ + 10] F 68 9 (fun (j, zz) => [(6, .int (nI j)), (5, .int (nI kend)), (0, .ref h0), (1, .int (nI jf)), (2, .int x2), (3, .int x3), (4, .int x4)]) (fun (j, zz) => []) (fun (j, zz) FF => (gm 0 jf ≤ j ∧ j ≤ gm 1 jf) ∧ zz ≤ z + (j - gm 0 jf) ∧ FF pl = .inr (14, [.ref rl, .int (nI zz)])) (fun (j, zz) => gm 1 jf - j) ?_ ((gm 0 jf), z) F (⟨⟨by omega, by omega⟩, by omega, hFl⟩) hO hR _ _ hP hD hS ls (lv_sub hl [0, 1, 2, 3, 4, 5, 6] rfl)
    rintro ⟨j, zz⟩ F_135 hv_138 hO hR ih_139 H locs hP hD hS ls hl
    have hl : lv_has ls 9 [(6, .int (nI j)), (5, .int (nI kend)), (0, .ref h0), (1, .int (nI jf)), (2, .int x2), (3, .int x3), (4, .int x4)] := hl
    have hv_138 : (gm 0 jf ≤ j ∧ j ≤ gm 1 jf) ∧ zz ≤ z + (j - gm 0 jf) ∧ F_135 pl = .inr (14, [.ref rl, .int (nI zz)]) := hv_138
    refine W.eq (g2 := F0 m 68 ls []) rfl ?_
    have hF_140 : F_135 h0 = .inr (15, (.ref ta) :: (.int (nI zt)) :: (.int (nI zo_106)) :: (.int (nI ze_107)) :: (.ref ou) :: (.ref so) :: (.ref ad) :: (.ref na) :: (.ref va) :: (.ref lc) :: (.ref dm) :: (.int v11_108) :: (.int v12_109) :: (.ref tg) :: (.int v14_110) :: (.int v15_111) :: (.ref pe) :: (.int v17_112) :: (.int v18_113) :: (.int v19_114) :: (.int v20_115) :: (.int v21_116) :: (.int v22_117) :: (.ref ml) :: (.ref bg) :: (.ref co) :: (.ref sp) :: (.ref nb0) :: (.ref nb1) :: (.ref nb2) :: (.int (nI nf)) :: (.int (nI bd)) :: (.int (nI mm)) :: (.int v33_118) :: (.ref pl) :: (.ref se) :: (.ref ke) :: (.ref wi) :: (.ref hs) :: (.ref mo) :: (.ref po) :: (.ref nu) :: (.ref pr) :: (.ref sq) :: (.ref xa) :: (.ref sa) :: (.ref n64) :: (.ref m64) :: (.ref ex) :: (.ref wh) :: (.ref sd) :: (.ref tk) :: (.int v52_119) :: (.int v53_120) :: (.int v54_121) :: (.ref hd) :: (.ref ak) :: (.ref ho) :: (.ref ot) :: []) := (hR h0 (by rw [hT_h0]; simp)).trans hF_136
    have hF_141 : F_135 bg = .inl (cs 16, 21, .inl f_131) := (hR bg (by rw [ht_27]; simp)).trans hF_137
    obtain ⟨hp2, hq2, hr2⟩ := hv_138
    refine lv_iload hx hb dX15_fieldPlain_68 (lv_at hl 0 rfl) ?_
    refine lv_aload_n hx hb dX15_fieldPlain_70 rfl (lv_at hl 2 rfl) ?_
    refine pg_get (ci := 15) (v := .ref co) (C := RX15) (T := TX15) (N := 59) hx hb hts it_15 hown hK hP hL_h0 hF_140 rfl 25 (by decide) (hts _ kt_904) (fun _ h9 => h9) rfl dX15_fieldPlain_71 ?_
    refine lv_iload_n hx hb dX15_fieldPlain_74 rfl (lv_at hl 3 rfl) ?_
    obtain ⟨f_142, hF_143, hq_144⟩ := hO.pos hi_28 ht_29
    refine pg_iald hx hb hK hP hi_28 0 hF_143 rfl (vp_in_nI (by omega) (by omega)) dX15_fieldPlain_75 ?_
    refine lv_topi (fun x_145 ex_145 => ?_)
    obtain rfl : x_145 = (nI (gm 1 jf)) := ex_145.trans (by rw [show ((nI jf) : Int32) = nI jf from rfl, nI_clamp (by omega)]; exact hq_144 jf (by omega))
    have hgbx_145 := hgB 1 jf
    refine lv_icmp_ge (tgt := 102) hx hb dX15_fieldPlain_76 (by decide) (fun c_146 => ?_) (fun c_146 => ?_)
    ·
      have hi_147 : (gm 1 jf) ≤ j := leN (N := (gm 1 jf)) c_146
      refine lv_aload_n hx hb dX15_fieldPlain_102 rfl (lv_at hl 2 rfl) ?_
      refine pg_get (ci := 15) (v := .ref pl) (C := RX15) (T := TX15) (N := 59) hx hb hts it_15 hown hK hP hL_h0 hF_140 rfl 34 (by decide) (hts _ kt_916) (fun _ h9 => h9) rfl dX15_fieldPlain_103 ?_
      refine lv_bipush (v := 58) hx hb dX15_fieldPlain_106 (by decide) ?_
      have hFc := pg_free hD hS hA
      refine va_callv (va_runV (As := [.int 58]) (rest := []) ⟨hx, hb, hml, hown, hts⟩ (s_X14_add l dC dI cs ty gm L H.size F_135 pl (ρ + 10) rl 6000 zz 58 hW hL_pl hT_pl hr2 (by first | omega | assumption)) ⟨callB_of 1 hts (gi kt_711) rfl rfl rfl (hts _ kt_676) (hts _ kt_712) (by decide +kernel) ⟨Nat.le_of_ble_eq_true rfl, Nat.le_of_ble_eq_true rfl⟩, (hts _ kt_713), (hts _ kt_714)⟩ ⟨fun a U g mk q => ⟨q.1, PTm.calling q.2⟩, pg_recv hK hP hL_pl hr2 (q := (RX14, TX14, 2)) rfl, fun U hU hWm => ⟨rfl, PTm.mk hU hWm hP hK hD hE hO⟩⟩ rfl rfl hl.1 rfl (lv_room (Nat.le_of_ble_eq_true rfl)) dX15_fieldPlain_108 ⟨by show _ + 0 ≤ 0; omega, by show _ + 0 ≤ 0; omega⟩) hS (fun q _ h => hFc q h) hFc (fun u t H1 locs ht hvm hw hB hz1 hk1 hS => ?_)
      obtain ⟨F_149, hB1, hq_150⟩ := hB
      obtain ⟨hP, hD, hO, hR⟩ := QTm.back hB1 ht hFc hR (fun q h => by simp only [List.mem_cons, List.not_mem_nil, or_false] at h ⊢; omega)
      have hF_151 : F_149 h0 = .inr (15, (.ref ta) :: (.int (nI zt)) :: (.int (nI zo_106)) :: (.int (nI ze_107)) :: (.ref ou) :: (.ref so) :: (.ref ad) :: (.ref na) :: (.ref va) :: (.ref lc) :: (.ref dm) :: (.int v11_108) :: (.int v12_109) :: (.ref tg) :: (.int v14_110) :: (.int v15_111) :: (.ref pe) :: (.int v17_112) :: (.int v18_113) :: (.int v19_114) :: (.int v20_115) :: (.int v21_116) :: (.int v22_117) :: (.ref ml) :: (.ref bg) :: (.ref co) :: (.ref sp) :: (.ref nb0) :: (.ref nb1) :: (.ref nb2) :: (.int (nI nf)) :: (.int (nI bd)) :: (.int (nI mm)) :: (.int v33_118) :: (.ref pl) :: (.ref se) :: (.ref ke) :: (.ref wi) :: (.ref hs) :: (.ref mo) :: (.ref po) :: (.ref nu) :: (.ref pr) :: (.ref sq) :: (.ref xa) :: (.ref sa) :: (.ref n64) :: (.ref m64) :: (.ref ex) :: (.ref wh) :: (.ref sd) :: (.ref tk) :: (.int v52_119) :: (.int v53_120) :: (.int v54_121) :: (.ref hd) :: (.ref ak) :: (.ref ho) :: (.ref ot) :: []) := (hB1.2.2.2 h0 (by rw [hT_h0]; simp)).trans hF_140
      have hF_152 : F_149 bg = .inl (cs 16, 21, .inl f_131) := (hB1.2.2.2 bg (by rw [ht_27]; simp)).trans hF_141
      have hF_153 : F_149 co = .inl (cs 16, 21, .inl f_142) := (hB1.2.2.2 co (by rw [ht_29]; simp)).trans hF_143
      generalize H1 = H at hP hS ⊢
      refine lv_iconst (v := 0) hx hb dX15_fieldPlain_111 (by decide) ?_
      refine lv_istore (lv' := [(6, .int 0), (5, .int (nI kend)), (0, .ref h0), (1, .int (nI jf)), (2, .int x2), (3, .int x3), (4, .int x4)]) hx hb dX15_fieldPlain_112 hl (by decide) rfl (fun ls hl => ?_)
      refine lv_iconst (v := 0) hx hb dX15_fieldPlain_114 (by decide) ?_
      refine lv_istore (lv' := [(7, .int 0), (6, .int 0), (5, .int (nI kend)), (0, .ref h0), (1, .int (nI jf)), (2, .int x2), (3, .int x3), (4, .int x4)]) hx hb dX15_fieldPlain_115 hl (by decide) rfl (fun ls hl => ?_)
      refine lv_aload_n hx hb dX15_fieldPlain_117 rfl (lv_at hl 3 rfl) ?_
      refine pg_get (ci := 15) (v := .ref co) (C := RX15) (T := TX15) (N := 59) hx hb hts it_15 hown hK hP hL_h0 hF_151 rfl 25 (by decide) (hts _ kt_904) (fun _ h9 => h9) rfl dX15_fieldPlain_118 ?_
      refine lv_iload_n hx hb dX15_fieldPlain_121 rfl (lv_at hl 4 rfl) ?_
      refine pg_iald hx hb hK hP hi_28 0 hF_153 rfl (vp_in_nI (by omega) (by omega)) dX15_fieldPlain_122 ?_
      refine lv_topi (fun x_154 ex_154 => ?_)
      obtain rfl : x_154 = (nI (gm 1 jf)) := ex_154.trans (by rw [show ((nI jf) : Int32) = nI jf from rfl, nI_clamp (by omega)]; exact hq_144 jf (by omega))
      have hgbx_154 := hgB 1 jf
      refine lv_iconst (v := 1) hx hb dX15_fieldPlain_123 (by decide) ?_
      refine lv_iadd hx hb dX15_fieldPlain_124 ?_
      refine lv_topi (fun x_155 ex_155 => ?_)
      obtain rfl : x_155 = (nI ((gm 1 jf) + 1)) := ex_155.trans (nI_add (gm 1 jf) 1)
      refine lv_istore (lv' := [(8, .int (nI ((gm 1 jf) + 1))), (7, .int 0), (6, .int 0), (5, .int (nI kend)), (0, .ref h0), (1, .int (nI jf)), (2, .int x2), (3, .int x3), (4, .int x4)]) hx hb dX15_fieldPlain_125 hl (by decide) rfl (fun ls hl => ?_)
      refine W.widen (k := 0) (n := 0) (by omega) (by omega) ?_
      have hF_157 : F h0 = .inr (15, (.ref ta) :: (.int (nI zt)) :: (.int (nI zo_106)) :: (.int (nI ze_107)) :: (.ref ou) :: (.ref so) :: (.ref ad) :: (.ref na) :: (.ref va) :: (.ref lc) :: (.ref dm) :: (.int v11_108) :: (.int v12_109) :: (.ref tg) :: (.int v14_110) :: (.int v15_111) :: (.ref pe) :: (.int v17_112) :: (.int v18_113) :: (.int v19_114) :: (.int v20_115) :: (.int v21_116) :: (.int v22_117) :: (.ref ml) :: (.ref bg) :: (.ref co) :: (.ref sp) :: (.ref nb0) :: (.ref nb1) :: (.ref nb2) :: (.int (nI nf)) :: (.int (nI bd)) :: (.int (nI mm)) :: (.int v33_118) :: (.ref pl) :: (.ref se) :: (.ref ke) :: (.ref wi) :: (.ref hs) :: (.ref mo) :: (.ref po) :: (.ref nu) :: (.ref pr) :: (.ref sq) :: (.ref xa) :: (.ref sa) :: (.ref n64) :: (.ref m64) :: (.ref ex) :: (.ref wh) :: (.ref sd) :: (.ref tk) :: (.int v52_119) :: (.int v53_120) :: (.int v54_121) :: (.ref hd) :: (.ref ak) :: (.ref ho) :: (.ref ot) :: []) := (hR h0 (by rw [hT_h0]; simp)).symm.trans hF_151
      have hF_158 : F bg = .inl (cs 16, 21, .inl f_131) := (hR bg (by rw [ht_27]; simp)).symm.trans hF_152
      have hF_159 : F co = .inl (cs 16, 21, .inl f_142) := (hR co (by rw [ht_29]; simp)).symm.trans hF_153
      refine pl_loopm (σ := Nat × Int32 × Int32 × Nat) A (dC, dI) cs ty gm L [ρ + 10] F 127 9 (fun (i, w6, w7, zz) => [(8, .int (nI i)), (7, .int w7), (6, .int w6), (5, .int (nI kend)), (0, .ref h0), (1, .int (nI jf)), (2, .int x2), (3, .int x3), (4, .int x4)]) (fun (i, w6, w7, zz) => []) (fun (i, w6, w7, zz) FF => (gm 1 jf + 1 ≤ i ∧ i ≤ max kend (gm 1 jf + 1)) ∧ (w7 = 0 ∨ zz + 1 ≤ (z + (gm 1 jf - gm 0 jf) + 1 + (i - (gm 1 jf + 1)))) ∧ zz ≤ (z + (gm 1 jf - gm 0 jf) + 1 + (i - (gm 1 jf + 1))) ∧ FF pl = .inr (14, [.ref rl, .int (nI zz)])) (fun (i, w6, w7, zz) => kend - i) ?_ (((gm 1 jf) + 1), 0, 0, (zz + 1)) F_149 (⟨⟨by omega, by omega⟩, Or.inl rfl, by omega, hq_150⟩) hO hR _ _ hP hD hS ls (lv_sub hl [0, 1, 2, 3, 4, 5, 6, 7, 8] rfl)
      rintro ⟨i, w6, w7, zz⟩ F_156 hv_160 hO hR ih_161 H locs hP hD hS ls hl
      have hl : lv_has ls 9 [(8, .int (nI i)), (7, .int w7), (6, .int w6), (5, .int (nI kend)), (0, .ref h0), (1, .int (nI jf)), (2, .int x2), (3, .int x3), (4, .int x4)] := hl
      have hv_160 : (gm 1 jf + 1 ≤ i ∧ i ≤ max kend (gm 1 jf + 1)) ∧ (w7 = 0 ∨ zz + 1 ≤ (z + (gm 1 jf - gm 0 jf) + 1 + (i - (gm 1 jf + 1)))) ∧ zz ≤ (z + (gm 1 jf - gm 0 jf) + 1 + (i - (gm 1 jf + 1))) ∧ F_156 pl = .inr (14, [.ref rl, .int (nI zz)]) := hv_160
      refine W.eq (g2 := F0 m 127 ls []) rfl ?_
      have hF_162 : F_156 h0 = .inr (15, (.ref ta) :: (.int (nI zt)) :: (.int (nI zo_106)) :: (.int (nI ze_107)) :: (.ref ou) :: (.ref so) :: (.ref ad) :: (.ref na) :: (.ref va) :: (.ref lc) :: (.ref dm) :: (.int v11_108) :: (.int v12_109) :: (.ref tg) :: (.int v14_110) :: (.int v15_111) :: (.ref pe) :: (.int v17_112) :: (.int v18_113) :: (.int v19_114) :: (.int v20_115) :: (.int v21_116) :: (.int v22_117) :: (.ref ml) :: (.ref bg) :: (.ref co) :: (.ref sp) :: (.ref nb0) :: (.ref nb1) :: (.ref nb2) :: (.int (nI nf)) :: (.int (nI bd)) :: (.int (nI mm)) :: (.int v33_118) :: (.ref pl) :: (.ref se) :: (.ref ke) :: (.ref wi) :: (.ref hs) :: (.ref mo) :: (.ref po) :: (.ref nu) :: (.ref pr) :: (.ref sq) :: (.ref xa) :: (.ref sa) :: (.ref n64) :: (.ref m64) :: (.ref ex) :: (.ref wh) :: (.ref sd) :: (.ref tk) :: (.int v52_119) :: (.int v53_120) :: (.int v54_121) :: (.ref hd) :: (.ref ak) :: (.ref ho) :: (.ref ot) :: []) := (hR h0 (by rw [hT_h0]; simp)).trans hF_157
      have hF_163 : F_156 bg = .inl (cs 16, 21, .inl f_131) := (hR bg (by rw [ht_27]; simp)).trans hF_158
      have hF_164 : F_156 co = .inl (cs 16, 21, .inl f_142) := (hR co (by rw [ht_29]; simp)).trans hF_159
      obtain ⟨hp3, hq3, hr3, hs3⟩ := hv_160
      refine lv_iload hx hb dX15_fieldPlain_127 (lv_at hl 0 rfl) ?_
      refine lv_iload hx hb dX15_fieldPlain_129 (lv_at hl 3 rfl) ?_
      refine lv_icmp_ge (tgt := 226) hx hb dX15_fieldPlain_131 (by decide) (fun c_165 => ?_) (fun c_165 => ?_)
      ·
        have hi_166 : kend ≤ i := leN (N := kend) c_165
        refine W.widen (k := 0) (n := 0) (by omega) (by omega) ?_
        exact W.vret hx hb hr (fun t ht hWm => ⟨⟨(), rfl, trivial, ⟨F_156, zz, QTm.mk ht hP hD hO hR, hs3, by omega⟩⟩, hS.F ht⟩) hS.2.2 dX15_fieldPlain_226
      ·
        have hi_167 : i < kend := ltN (N := kend) c_165
        refine lv_iload hx hb dX15_fieldPlain_134 (lv_at hl 0 rfl) ?_
        refine lv_iload_n hx hb dX15_fieldPlain_136 rfl (lv_at hl 7 rfl) ?_
        refine lv_icmp_lt (tgt := 147) hx hb dX15_fieldPlain_137 (by decide) (fun c_168 => ?_) (fun c_168 => ?_)
        ·
          refine lv_aload_n hx hb dX15_fieldPlain_147 rfl (lv_at hl 4 rfl) ?_
          refine pg_get (ci := 15) (v := .ref ml) (C := RX15) (T := TX15) (N := 59) hx hb hts it_15 hown hK hP hL_h0 hF_162 rfl 23 (by decide) (hts _ kt_902) (fun _ h9 => h9) rfl dX15_fieldPlain_148 ?_
          refine lv_iload hx hb dX15_fieldPlain_151 (lv_at hl 0 rfl) ?_
          obtain ⟨hq_169, hq_170⟩ := hW.octs hi_24 ht_25
          obtain ⟨f_171, hF_172, hq_173⟩ := hO.octs hi_24 ht_25
          refine pg_bald hx hb hK hP hi_24 1 hF_172 rfl (vp_in_nI (by omega) (by omega)) dX15_fieldPlain_153 ?_
          refine lv_topi (fun x_174 ex_174 => ?_)
          obtain rfl : x_174 = f_171 i := ex_174.trans (congrArg f_171 (show ((nI i) : Int32).toNatClampNeg = i from nI_clamp (by omega)))
          refine lv_bipush (v := 10) hx hb dX15_fieldPlain_154 (by decide) ?_
          refine lv_icmp_ne (tgt := 162) hx hb dX15_fieldPlain_156 (by decide) (fun c_175 => ?_) (fun c_175 => ?_)
          ·
            refine lv_aload_n hx hb dX15_fieldPlain_162 rfl (lv_at hl 4 rfl) ?_
            refine pg_get (ci := 15) (v := .ref ml) (C := RX15) (T := TX15) (N := 59) hx hb hts it_15 hown hK hP hL_h0 hF_162 rfl 23 (by decide) (hts _ kt_902) (fun _ h9 => h9) rfl dX15_fieldPlain_163 ?_
            refine lv_iload hx hb dX15_fieldPlain_166 (lv_at hl 0 rfl) ?_
            refine pg_bald hx hb hK hP hi_24 1 hF_172 rfl (vp_in_nI (by omega) (by omega)) dX15_fieldPlain_168 ?_
            refine lv_topi (fun x_176 ex_176 => ?_)
            obtain rfl : x_176 = f_171 i := ex_176.trans (congrArg f_171 (show ((nI i) : Int32).toNatClampNeg = i from nI_clamp (by omega)))
            have hFc := pg_free hD hS hA
            refine va_calli (va_runS (As := [.int (f_171 i)]) (rest := []) ⟨hx, hb, hml, hown, hts⟩ (s_X15_isWhite l dC dI cs ty gm L H.size F_156 (f_171 i) hW ) ⟨callB_of 1 hts (gi kt_715) rfl rfl rfl (hts _ kt_669) (hts _ kt_716) (by decide +kernel) ⟨Nat.le_of_ble_eq_true rfl, Nat.le_of_ble_eq_true rfl⟩, (hts _ kt_717)⟩ ⟨fun a U g mk q => ⟨q.1, PTm.calling q.2⟩, fun U hU hWm => ⟨rfl, PTm.mk hU hWm hP hK hD hE hO⟩⟩ rfl rfl hl.1 rfl (lv_room (Nat.le_of_ble_eq_true rfl)) dX15_fieldPlain_169 ⟨by show _ + 0 ≤ 0; omega, by show _ + 0 ≤ 0; omega⟩) hS (fun q _ h => hFc q h) hFc (fun r_177 u t H1 locs ht hvm hw hB hz1 hk1 hS => ?_)
            obtain ⟨F_178, hB1⟩ := hB
            obtain rfl : F_156 = F_178 := (funext (fun a => hB1.2.2.2 a List.not_mem_nil)).symm
            obtain ⟨hP, hD, hO, hR⟩ := QTm.back hB1 ht hFc hR (fun q h => absurd h List.not_mem_nil)
            generalize H1 = H at hP hS ⊢
            have hw : (r_177 = 0 ∨ r_177 = 1) := hw
            have hw_179 := hw
            refine lv_if_eq (tgt := 181) hx hb dX15_fieldPlain_172 (by decide) (fun c_180 => ?_) (fun c_180 => ?_)
            ·
              refine lv_iload hx hb dX15_fieldPlain_181 (lv_at hl 1 rfl) ?_
              refine lv_if_eq (tgt := 200) hx hb dX15_fieldPlain_183 (by decide) (fun c_181 => ?_) (fun c_181 => ?_)
              ·
                refine lv_iconst (v := 0) hx hb dX15_fieldPlain_200 (by decide) ?_
                refine lv_istore (lv' := [(7, .int 0), (8, .int (nI i)), (6, .int w6), (5, .int (nI kend)), (0, .ref h0), (1, .int (nI jf)), (2, .int x2), (3, .int x3), (4, .int x4)]) hx hb dX15_fieldPlain_201 hl (by decide) rfl (fun ls hl => ?_)
                refine lv_iconst (v := 1) hx hb dX15_fieldPlain_203 (by decide) ?_
                refine lv_istore (lv' := [(6, .int 1), (7, .int 0), (8, .int (nI i)), (5, .int (nI kend)), (0, .ref h0), (1, .int (nI jf)), (2, .int x2), (3, .int x3), (4, .int x4)]) hx hb dX15_fieldPlain_204 hl (by decide) rfl (fun ls hl => ?_)
                refine lv_aload_n hx hb dX15_fieldPlain_206 rfl (lv_at hl 4 rfl) ?_
                refine pg_get (ci := 15) (v := .ref pl) (C := RX15) (T := TX15) (N := 59) hx hb hts it_15 hown hK hP hL_h0 hF_162 rfl 34 (by decide) (hts _ kt_916) (fun _ h9 => h9) rfl dX15_fieldPlain_207 ?_
                refine lv_aload_n hx hb dX15_fieldPlain_210 rfl (lv_at hl 4 rfl) ?_
                refine pg_get (ci := 15) (v := .ref ml) (C := RX15) (T := TX15) (N := 59) hx hb hts it_15 hown hK hP hL_h0 hF_162 rfl 23 (by decide) (hts _ kt_902) (fun _ h9 => h9) rfl dX15_fieldPlain_211 ?_
                refine lv_iload hx hb dX15_fieldPlain_214 (lv_at hl 2 rfl) ?_
                refine pg_bald hx hb hK hP hi_24 1 hF_172 rfl (vp_in_nI (by omega) (by omega)) dX15_fieldPlain_216 ?_
                refine lv_topi (fun x_182 ex_182 => ?_)
                obtain rfl : x_182 = f_171 i := ex_182.trans (congrArg f_171 (show ((nI i) : Int32).toNatClampNeg = i from nI_clamp (by omega)))
                have hFc := pg_free hD hS hA
                refine va_callv (va_runV (As := [.int (f_171 i)]) (rest := []) ⟨hx, hb, hml, hown, hts⟩ (s_X14_add l dC dI cs ty gm L H.size F_156 pl (ρ + 10) rl 6000 zz (f_171 i) hW hL_pl hT_pl hs3 (by first | omega | assumption)) ⟨callB_of 1 hts (gi kt_711) rfl rfl rfl (hts _ kt_676) (hts _ kt_712) (by decide +kernel) ⟨Nat.le_of_ble_eq_true rfl, Nat.le_of_ble_eq_true rfl⟩, (hts _ kt_713), (hts _ kt_714)⟩ ⟨fun a U g mk q => ⟨q.1, PTm.calling q.2⟩, pg_recv hK hP hL_pl hs3 (q := (RX14, TX14, 2)) rfl, fun U hU hWm => ⟨rfl, PTm.mk hU hWm hP hK hD hE hO⟩⟩ rfl rfl hl.1 rfl (lv_room (Nat.le_of_ble_eq_true rfl)) dX15_fieldPlain_217 ⟨by show _ + 0 ≤ 0; omega, by show _ + 0 ≤ 0; omega⟩) hS (fun q _ h => hFc q h) hFc (fun u t H1 locs ht hvm hw hB hz1 hk1 hS => ?_)
                obtain ⟨F_184, hB1, hq_185⟩ := hB
                obtain ⟨hP, hD, hO, hR⟩ := QTm.back hB1 ht hFc hR (fun q h => by simp only [List.mem_cons, List.not_mem_nil, or_false] at h ⊢; omega)
                have hF_186 : F_184 h0 = .inr (15, (.ref ta) :: (.int (nI zt)) :: (.int (nI zo_106)) :: (.int (nI ze_107)) :: (.ref ou) :: (.ref so) :: (.ref ad) :: (.ref na) :: (.ref va) :: (.ref lc) :: (.ref dm) :: (.int v11_108) :: (.int v12_109) :: (.ref tg) :: (.int v14_110) :: (.int v15_111) :: (.ref pe) :: (.int v17_112) :: (.int v18_113) :: (.int v19_114) :: (.int v20_115) :: (.int v21_116) :: (.int v22_117) :: (.ref ml) :: (.ref bg) :: (.ref co) :: (.ref sp) :: (.ref nb0) :: (.ref nb1) :: (.ref nb2) :: (.int (nI nf)) :: (.int (nI bd)) :: (.int (nI mm)) :: (.int v33_118) :: (.ref pl) :: (.ref se) :: (.ref ke) :: (.ref wi) :: (.ref hs) :: (.ref mo) :: (.ref po) :: (.ref nu) :: (.ref pr) :: (.ref sq) :: (.ref xa) :: (.ref sa) :: (.ref n64) :: (.ref m64) :: (.ref ex) :: (.ref wh) :: (.ref sd) :: (.ref tk) :: (.int v52_119) :: (.int v53_120) :: (.int v54_121) :: (.ref hd) :: (.ref ak) :: (.ref ho) :: (.ref ot) :: []) := (hB1.2.2.2 h0 (by rw [hT_h0]; simp)).trans hF_162
                have hF_187 : F_184 bg = .inl (cs 16, 21, .inl f_131) := (hB1.2.2.2 bg (by rw [ht_27]; simp)).trans hF_163
                have hF_188 : F_184 co = .inl (cs 16, 21, .inl f_142) := (hB1.2.2.2 co (by rw [ht_29]; simp)).trans hF_164
                have hF_189 : F_184 ml = .inl (cs 17, 3000, .inl f_171) := (hB1.2.2.2 ml (by rw [ht_25]; simp)).trans hF_172
                generalize H1 = H at hP hS ⊢
                refine lv_iinc (v := (nI (i + 1))) (lv' := [(8, .int (nI (i + 1))), (6, .int 1), (7, .int 0), (5, .int (nI kend)), (0, .ref h0), (1, .int (nI jf)), (2, .int x2), (3, .int x3), (4, .int x4)]) hx hb dX15_fieldPlain_220 hl (k := 2) rfl (nI_1 _) (by decide) rfl (fun ls hl => ?_)
                refine lv_goto (tgt := 127) hx hb dX15_fieldPlain_223 (by decide) ?_
                refine W.widen (k := 0) (n := 0) (by omega) (by omega) ?_
                exact ih_161 ((i + 1), 1, 0, (zz + 1)) F_184 (⟨⟨by omega, by omega⟩, Or.inl rfl, by omega, hq_185⟩) (by show kend - (i + 1) < kend - i; omega) hO hR _ _ hP hD hS ls (lv_sub hl [0, 2, 1, 3, 4, 5, 6, 7, 8] rfl)
              ·
                have hzz : zz + 1 ≤ (z + (gm 1 jf - gm 0 jf) + 1 + (i - (gm 1 jf + 1))) := hq3.resolve_left c_181
                refine lv_iload hx hb dX15_fieldPlain_186 (lv_at hl 2 rfl) ?_
                refine lv_if_eq (tgt := 200) hx hb dX15_fieldPlain_188 (by decide) (fun c_190 => ?_) (fun c_190 => ?_)
                ·
                  refine lv_iconst (v := 0) hx hb dX15_fieldPlain_200 (by decide) ?_
                  refine lv_istore (lv' := [(7, .int 0), (8, .int (nI i)), (6, .int w6), (5, .int (nI kend)), (0, .ref h0), (1, .int (nI jf)), (2, .int x2), (3, .int x3), (4, .int x4)]) hx hb dX15_fieldPlain_201 hl (by decide) rfl (fun ls hl => ?_)
                  refine lv_iconst (v := 1) hx hb dX15_fieldPlain_203 (by decide) ?_
                  refine lv_istore (lv' := [(6, .int 1), (7, .int 0), (8, .int (nI i)), (5, .int (nI kend)), (0, .ref h0), (1, .int (nI jf)), (2, .int x2), (3, .int x3), (4, .int x4)]) hx hb dX15_fieldPlain_204 hl (by decide) rfl (fun ls hl => ?_)
                  refine lv_aload_n hx hb dX15_fieldPlain_206 rfl (lv_at hl 4 rfl) ?_
                  refine pg_get (ci := 15) (v := .ref pl) (C := RX15) (T := TX15) (N := 59) hx hb hts it_15 hown hK hP hL_h0 hF_162 rfl 34 (by decide) (hts _ kt_916) (fun _ h9 => h9) rfl dX15_fieldPlain_207 ?_
                  refine lv_aload_n hx hb dX15_fieldPlain_210 rfl (lv_at hl 4 rfl) ?_
                  refine pg_get (ci := 15) (v := .ref ml) (C := RX15) (T := TX15) (N := 59) hx hb hts it_15 hown hK hP hL_h0 hF_162 rfl 23 (by decide) (hts _ kt_902) (fun _ h9 => h9) rfl dX15_fieldPlain_211 ?_
                  refine lv_iload hx hb dX15_fieldPlain_214 (lv_at hl 2 rfl) ?_
                  refine pg_bald hx hb hK hP hi_24 1 hF_172 rfl (vp_in_nI (by omega) (by omega)) dX15_fieldPlain_216 ?_
                  refine lv_topi (fun x_191 ex_191 => ?_)
                  obtain rfl : x_191 = f_171 i := ex_191.trans (congrArg f_171 (show ((nI i) : Int32).toNatClampNeg = i from nI_clamp (by omega)))
                  have hFc := pg_free hD hS hA
                  refine va_callv (va_runV (As := [.int (f_171 i)]) (rest := []) ⟨hx, hb, hml, hown, hts⟩ (s_X14_add l dC dI cs ty gm L H.size F_156 pl (ρ + 10) rl 6000 zz (f_171 i) hW hL_pl hT_pl hs3 (by first | omega | assumption)) ⟨callB_of 1 hts (gi kt_711) rfl rfl rfl (hts _ kt_676) (hts _ kt_712) (by decide +kernel) ⟨Nat.le_of_ble_eq_true rfl, Nat.le_of_ble_eq_true rfl⟩, (hts _ kt_713), (hts _ kt_714)⟩ ⟨fun a U g mk q => ⟨q.1, PTm.calling q.2⟩, pg_recv hK hP hL_pl hs3 (q := (RX14, TX14, 2)) rfl, fun U hU hWm => ⟨rfl, PTm.mk hU hWm hP hK hD hE hO⟩⟩ rfl rfl hl.1 rfl (lv_room (Nat.le_of_ble_eq_true rfl)) dX15_fieldPlain_217 ⟨by show _ + 0 ≤ 0; omega, by show _ + 0 ≤ 0; omega⟩) hS (fun q _ h => hFc q h) hFc (fun u t H1 locs ht hvm hw hB hz1 hk1 hS => ?_)
                  obtain ⟨F_193, hB1, hq_194⟩ := hB
                  obtain ⟨hP, hD, hO, hR⟩ := QTm.back hB1 ht hFc hR (fun q h => by simp only [List.mem_cons, List.not_mem_nil, or_false] at h ⊢; omega)
                  have hF_195 : F_193 h0 = .inr (15, (.ref ta) :: (.int (nI zt)) :: (.int (nI zo_106)) :: (.int (nI ze_107)) :: (.ref ou) :: (.ref so) :: (.ref ad) :: (.ref na) :: (.ref va) :: (.ref lc) :: (.ref dm) :: (.int v11_108) :: (.int v12_109) :: (.ref tg) :: (.int v14_110) :: (.int v15_111) :: (.ref pe) :: (.int v17_112) :: (.int v18_113) :: (.int v19_114) :: (.int v20_115) :: (.int v21_116) :: (.int v22_117) :: (.ref ml) :: (.ref bg) :: (.ref co) :: (.ref sp) :: (.ref nb0) :: (.ref nb1) :: (.ref nb2) :: (.int (nI nf)) :: (.int (nI bd)) :: (.int (nI mm)) :: (.int v33_118) :: (.ref pl) :: (.ref se) :: (.ref ke) :: (.ref wi) :: (.ref hs) :: (.ref mo) :: (.ref po) :: (.ref nu) :: (.ref pr) :: (.ref sq) :: (.ref xa) :: (.ref sa) :: (.ref n64) :: (.ref m64) :: (.ref ex) :: (.ref wh) :: (.ref sd) :: (.ref tk) :: (.int v52_119) :: (.int v53_120) :: (.int v54_121) :: (.ref hd) :: (.ref ak) :: (.ref ho) :: (.ref ot) :: []) := (hB1.2.2.2 h0 (by rw [hT_h0]; simp)).trans hF_162
                  have hF_196 : F_193 bg = .inl (cs 16, 21, .inl f_131) := (hB1.2.2.2 bg (by rw [ht_27]; simp)).trans hF_163
                  have hF_197 : F_193 co = .inl (cs 16, 21, .inl f_142) := (hB1.2.2.2 co (by rw [ht_29]; simp)).trans hF_164
                  have hF_198 : F_193 ml = .inl (cs 17, 3000, .inl f_171) := (hB1.2.2.2 ml (by rw [ht_25]; simp)).trans hF_172
                  generalize H1 = H at hP hS ⊢
                  refine lv_iinc (v := (nI (i + 1))) (lv' := [(8, .int (nI (i + 1))), (6, .int 1), (7, .int 0), (5, .int (nI kend)), (0, .ref h0), (1, .int (nI jf)), (2, .int x2), (3, .int x3), (4, .int x4)]) hx hb dX15_fieldPlain_220 hl (k := 2) rfl (nI_1 _) (by decide) rfl (fun ls hl => ?_)
                  refine lv_goto (tgt := 127) hx hb dX15_fieldPlain_223 (by decide) ?_
                  refine W.widen (k := 0) (n := 0) (by omega) (by omega) ?_
                  exact ih_161 ((i + 1), 1, 0, (zz + 1)) F_193 (⟨⟨by omega, by omega⟩, Or.inl rfl, by omega, hq_194⟩) (by show kend - (i + 1) < kend - i; omega) hO hR _ _ hP hD hS ls (lv_sub hl [0, 2, 1, 3, 4, 5, 6, 7, 8] rfl)
                ·
                  refine lv_aload_n hx hb dX15_fieldPlain_191 rfl (lv_at hl 4 rfl) ?_
                  refine pg_get (ci := 15) (v := .ref pl) (C := RX15) (T := TX15) (N := 59) hx hb hts it_15 hown hK hP hL_h0 hF_162 rfl 34 (by decide) (hts _ kt_916) (fun _ h9 => h9) rfl dX15_fieldPlain_192 ?_
                  refine lv_bipush (v := 32) hx hb dX15_fieldPlain_195 (by decide) ?_
                  have hFc := pg_free hD hS hA
                  refine va_callv (va_runV (As := [.int 32]) (rest := []) ⟨hx, hb, hml, hown, hts⟩ (s_X14_add l dC dI cs ty gm L H.size F_156 pl (ρ + 10) rl 6000 zz 32 hW hL_pl hT_pl hs3 (by first | omega | assumption)) ⟨callB_of 1 hts (gi kt_711) rfl rfl rfl (hts _ kt_676) (hts _ kt_712) (by decide +kernel) ⟨Nat.le_of_ble_eq_true rfl, Nat.le_of_ble_eq_true rfl⟩, (hts _ kt_713), (hts _ kt_714)⟩ ⟨fun a U g mk q => ⟨q.1, PTm.calling q.2⟩, pg_recv hK hP hL_pl hs3 (q := (RX14, TX14, 2)) rfl, fun U hU hWm => ⟨rfl, PTm.mk hU hWm hP hK hD hE hO⟩⟩ rfl rfl hl.1 rfl (lv_room (Nat.le_of_ble_eq_true rfl)) dX15_fieldPlain_197 ⟨by show _ + 0 ≤ 0; omega, by show _ + 0 ≤ 0; omega⟩) hS (fun q _ h => hFc q h) hFc (fun u t H1 locs ht hvm hw hB hz1 hk1 hS => ?_)
                  obtain ⟨F_200, hB1, hq_201⟩ := hB
                  obtain ⟨hP, hD, hO, hR⟩ := QTm.back hB1 ht hFc hR (fun q h => by simp only [List.mem_cons, List.not_mem_nil, or_false] at h ⊢; omega)
                  have hF_202 : F_200 h0 = .inr (15, (.ref ta) :: (.int (nI zt)) :: (.int (nI zo_106)) :: (.int (nI ze_107)) :: (.ref ou) :: (.ref so) :: (.ref ad) :: (.ref na) :: (.ref va) :: (.ref lc) :: (.ref dm) :: (.int v11_108) :: (.int v12_109) :: (.ref tg) :: (.int v14_110) :: (.int v15_111) :: (.ref pe) :: (.int v17_112) :: (.int v18_113) :: (.int v19_114) :: (.int v20_115) :: (.int v21_116) :: (.int v22_117) :: (.ref ml) :: (.ref bg) :: (.ref co) :: (.ref sp) :: (.ref nb0) :: (.ref nb1) :: (.ref nb2) :: (.int (nI nf)) :: (.int (nI bd)) :: (.int (nI mm)) :: (.int v33_118) :: (.ref pl) :: (.ref se) :: (.ref ke) :: (.ref wi) :: (.ref hs) :: (.ref mo) :: (.ref po) :: (.ref nu) :: (.ref pr) :: (.ref sq) :: (.ref xa) :: (.ref sa) :: (.ref n64) :: (.ref m64) :: (.ref ex) :: (.ref wh) :: (.ref sd) :: (.ref tk) :: (.int v52_119) :: (.int v53_120) :: (.int v54_121) :: (.ref hd) :: (.ref ak) :: (.ref ho) :: (.ref ot) :: []) := (hB1.2.2.2 h0 (by rw [hT_h0]; simp)).trans hF_162
                  have hF_203 : F_200 bg = .inl (cs 16, 21, .inl f_131) := (hB1.2.2.2 bg (by rw [ht_27]; simp)).trans hF_163
                  have hF_204 : F_200 co = .inl (cs 16, 21, .inl f_142) := (hB1.2.2.2 co (by rw [ht_29]; simp)).trans hF_164
                  have hF_205 : F_200 ml = .inl (cs 17, 3000, .inl f_171) := (hB1.2.2.2 ml (by rw [ht_25]; simp)).trans hF_172
                  generalize H1 = H at hP hS ⊢
                  refine lv_iconst (v := 0) hx hb dX15_fieldPlain_200 (by decide) ?_
                  refine lv_istore (lv' := [(7, .int 0), (8, .int (nI i)), (6, .int w6), (5, .int (nI kend)), (0, .ref h0), (1, .int (nI jf)), (2, .int x2), (3, .int x3), (4, .int x4)]) hx hb dX15_fieldPlain_201 hl (by decide) rfl (fun ls hl => ?_)
                  refine lv_iconst (v := 1) hx hb dX15_fieldPlain_203 (by decide) ?_
                  refine lv_istore (lv' := [(6, .int 1), (7, .int 0), (8, .int (nI i)), (5, .int (nI kend)), (0, .ref h0), (1, .int (nI jf)), (2, .int x2), (3, .int x3), (4, .int x4)]) hx hb dX15_fieldPlain_204 hl (by decide) rfl (fun ls hl => ?_)
                  refine lv_aload_n hx hb dX15_fieldPlain_206 rfl (lv_at hl 4 rfl) ?_
                  refine pg_get (ci := 15) (v := .ref pl) (C := RX15) (T := TX15) (N := 59) hx hb hts it_15 hown hK hP hL_h0 hF_202 rfl 34 (by decide) (hts _ kt_916) (fun _ h9 => h9) rfl dX15_fieldPlain_207 ?_
                  refine lv_aload_n hx hb dX15_fieldPlain_210 rfl (lv_at hl 4 rfl) ?_
                  refine pg_get (ci := 15) (v := .ref ml) (C := RX15) (T := TX15) (N := 59) hx hb hts it_15 hown hK hP hL_h0 hF_202 rfl 23 (by decide) (hts _ kt_902) (fun _ h9 => h9) rfl dX15_fieldPlain_211 ?_
                  refine lv_iload hx hb dX15_fieldPlain_214 (lv_at hl 2 rfl) ?_
                  refine pg_bald hx hb hK hP hi_24 1 hF_205 rfl (vp_in_nI (by omega) (by omega)) dX15_fieldPlain_216 ?_
                  refine lv_topi (fun x_206 ex_206 => ?_)
                  obtain rfl : x_206 = f_171 i := ex_206.trans (congrArg f_171 (show ((nI i) : Int32).toNatClampNeg = i from nI_clamp (by omega)))
                  have hFc := pg_free hD hS hA
                  refine va_callv (va_runV (As := [.int (f_171 i)]) (rest := []) ⟨hx, hb, hml, hown, hts⟩ (s_X14_add l dC dI cs ty gm L H.size F_200 pl (ρ + 10) rl 6000 (zz + 1) (f_171 i) hW hL_pl hT_pl hq_201 (by first | omega | assumption)) ⟨callB_of 1 hts (gi kt_711) rfl rfl rfl (hts _ kt_676) (hts _ kt_712) (by decide +kernel) ⟨Nat.le_of_ble_eq_true rfl, Nat.le_of_ble_eq_true rfl⟩, (hts _ kt_713), (hts _ kt_714)⟩ ⟨fun a U g mk q => ⟨q.1, PTm.calling q.2⟩, pg_recv hK hP hL_pl hq_201 (q := (RX14, TX14, 2)) rfl, fun U hU hWm => ⟨rfl, PTm.mk hU hWm hP hK hD hE hO⟩⟩ rfl rfl hl.1 rfl (lv_room (Nat.le_of_ble_eq_true rfl)) dX15_fieldPlain_217 ⟨by show _ + 0 ≤ 0; omega, by show _ + 0 ≤ 0; omega⟩) hS (fun q _ h => hFc q h) hFc (fun u t H1 locs ht hvm hw hB hz1 hk1 hS => ?_)
                  obtain ⟨F_208, hB1, hq_209⟩ := hB
                  obtain ⟨hP, hD, hO, hR⟩ := QTm.back hB1 ht hFc hR (fun q h => by simp only [List.mem_cons, List.not_mem_nil, or_false] at h ⊢; omega)
                  have hF_210 : F_208 h0 = .inr (15, (.ref ta) :: (.int (nI zt)) :: (.int (nI zo_106)) :: (.int (nI ze_107)) :: (.ref ou) :: (.ref so) :: (.ref ad) :: (.ref na) :: (.ref va) :: (.ref lc) :: (.ref dm) :: (.int v11_108) :: (.int v12_109) :: (.ref tg) :: (.int v14_110) :: (.int v15_111) :: (.ref pe) :: (.int v17_112) :: (.int v18_113) :: (.int v19_114) :: (.int v20_115) :: (.int v21_116) :: (.int v22_117) :: (.ref ml) :: (.ref bg) :: (.ref co) :: (.ref sp) :: (.ref nb0) :: (.ref nb1) :: (.ref nb2) :: (.int (nI nf)) :: (.int (nI bd)) :: (.int (nI mm)) :: (.int v33_118) :: (.ref pl) :: (.ref se) :: (.ref ke) :: (.ref wi) :: (.ref hs) :: (.ref mo) :: (.ref po) :: (.ref nu) :: (.ref pr) :: (.ref sq) :: (.ref xa) :: (.ref sa) :: (.ref n64) :: (.ref m64) :: (.ref ex) :: (.ref wh) :: (.ref sd) :: (.ref tk) :: (.int v52_119) :: (.int v53_120) :: (.int v54_121) :: (.ref hd) :: (.ref ak) :: (.ref ho) :: (.ref ot) :: []) := (hB1.2.2.2 h0 (by rw [hT_h0]; simp)).trans hF_202
                  have hF_211 : F_208 bg = .inl (cs 16, 21, .inl f_131) := (hB1.2.2.2 bg (by rw [ht_27]; simp)).trans hF_203
                  have hF_212 : F_208 co = .inl (cs 16, 21, .inl f_142) := (hB1.2.2.2 co (by rw [ht_29]; simp)).trans hF_204
                  have hF_213 : F_208 ml = .inl (cs 17, 3000, .inl f_171) := (hB1.2.2.2 ml (by rw [ht_25]; simp)).trans hF_205
                  generalize H1 = H at hP hS ⊢
                  refine lv_iinc (v := (nI (i + 1))) (lv' := [(8, .int (nI (i + 1))), (6, .int 1), (7, .int 0), (5, .int (nI kend)), (0, .ref h0), (1, .int (nI jf)), (2, .int x2), (3, .int x3), (4, .int x4)]) hx hb dX15_fieldPlain_220 hl (k := 2) rfl (nI_1 _) (by decide) rfl (fun ls hl => ?_)
                  refine lv_goto (tgt := 127) hx hb dX15_fieldPlain_223 (by decide) ?_
                  refine W.widen (k := 0) (n := 0) (by omega) (by omega) ?_
                  exact ih_161 ((i + 1), 1, 0, (zz + 2)) F_208 (⟨⟨by omega, by omega⟩, Or.inl rfl, by omega, hq_209⟩) (by show kend - (i + 1) < kend - i; omega) hO hR _ _ hP hD hS ls (lv_sub hl [0, 2, 1, 3, 4, 5, 6, 7, 8] rfl)
            ·
              refine lv_iconst (v := 1) hx hb dX15_fieldPlain_175 (by decide) ?_
              refine lv_istore (lv' := [(7, .int 1), (8, .int (nI i)), (6, .int w6), (5, .int (nI kend)), (0, .ref h0), (1, .int (nI jf)), (2, .int x2), (3, .int x3), (4, .int x4)]) hx hb dX15_fieldPlain_176 hl (by decide) rfl (fun ls hl => ?_)
              refine lv_goto (tgt := 220) hx hb dX15_fieldPlain_178 (by decide) ?_
              refine lv_iinc (v := (nI (i + 1))) (lv' := [(8, .int (nI (i + 1))), (7, .int 1), (6, .int w6), (5, .int (nI kend)), (0, .ref h0), (1, .int (nI jf)), (2, .int x2), (3, .int x3), (4, .int x4)]) hx hb dX15_fieldPlain_220 hl (k := 1) rfl (nI_1 _) (by decide) rfl (fun ls hl => ?_)
              refine lv_goto (tgt := 127) hx hb dX15_fieldPlain_223 (by decide) ?_
              refine W.widen (k := 0) (n := 0) (by omega) (by omega) ?_
              exact ih_161 ((i + 1), w6, 1, zz) F_156 (⟨⟨by omega, by omega⟩, Or.inr (by omega), by omega, hs3⟩) (by show kend - (i + 1) < kend - i; omega) hO hR _ _ hP hD hS ls (lv_sub hl [0, 1, 2, 3, 4, 5, 6, 7, 8] rfl)
          ·
            refine lv_goto (tgt := 220) hx hb dX15_fieldPlain_159 (by decide) ?_
            refine lv_iinc (v := (nI (i + 1))) (lv' := [(8, .int (nI (i + 1))), (7, .int w7), (6, .int w6), (5, .int (nI kend)), (0, .ref h0), (1, .int (nI jf)), (2, .int x2), (3, .int x3), (4, .int x4)]) hx hb dX15_fieldPlain_220 hl (k := 0) rfl (nI_1 _) (by decide) rfl (fun ls hl => ?_)
            refine lv_goto (tgt := 127) hx hb dX15_fieldPlain_223 (by decide) ?_
            refine W.widen (k := 0) (n := 0) (by omega) (by omega) ?_
            exact ih_161 ((i + 1), w6, w7, zz) F_156 (⟨⟨by omega, by omega⟩, hq3.imp id (fun h => by omega), by omega, hs3⟩) (by show kend - (i + 1) < kend - i; omega) hO hR _ _ hP hD hS ls (lv_sub hl [0, 1, 2, 3, 4, 5, 6, 7, 8] rfl)
        ·
          refine lv_iload hx hb dX15_fieldPlain_140 (lv_at hl 0 rfl) ?_
          refine lv_iload hx hb dX15_fieldPlain_142 (lv_at hl 8 rfl) ?_
          refine lv_icmp_lt (tgt := 220) hx hb dX15_fieldPlain_144 (by decide) (fun c_214 => ?_) (fun c_214 => ?_)
          ·
            refine lv_iinc (v := (nI (i + 1))) (lv' := [(8, .int (nI (i + 1))), (7, .int w7), (6, .int w6), (5, .int (nI kend)), (0, .ref h0), (1, .int (nI jf)), (2, .int x2), (3, .int x3), (4, .int x4)]) hx hb dX15_fieldPlain_220 hl (k := 0) rfl (nI_1 _) (by decide) rfl (fun ls hl => ?_)
            refine lv_goto (tgt := 127) hx hb dX15_fieldPlain_223 (by decide) ?_
            refine W.widen (k := 0) (n := 0) (by omega) (by omega) ?_
            exact ih_161 ((i + 1), w6, w7, zz) F_156 (⟨⟨by omega, by omega⟩, hq3.imp id (fun h => by omega), by omega, hs3⟩) (by show kend - (i + 1) < kend - i; omega) hO hR _ _ hP hD hS ls (lv_sub hl [0, 1, 2, 3, 4, 5, 6, 7, 8] rfl)
          ·
            refine lv_aload_n hx hb dX15_fieldPlain_147 rfl (lv_at hl 4 rfl) ?_
            refine pg_get (ci := 15) (v := .ref ml) (C := RX15) (T := TX15) (N := 59) hx hb hts it_15 hown hK hP hL_h0 hF_162 rfl 23 (by decide) (hts _ kt_902) (fun _ h9 => h9) rfl dX15_fieldPlain_148 ?_
            refine lv_iload hx hb dX15_fieldPlain_151 (lv_at hl 0 rfl) ?_
            obtain ⟨hq_215, hq_216⟩ := hW.octs hi_24 ht_25
            obtain ⟨f_217, hF_218, hq_219⟩ := hO.octs hi_24 ht_25
            refine pg_bald hx hb hK hP hi_24 1 hF_218 rfl (vp_in_nI (by omega) (by omega)) dX15_fieldPlain_153 ?_
            refine lv_topi (fun x_220 ex_220 => ?_)
            obtain rfl : x_220 = f_217 i := ex_220.trans (congrArg f_217 (show ((nI i) : Int32).toNatClampNeg = i from nI_clamp (by omega)))
            refine lv_bipush (v := 10) hx hb dX15_fieldPlain_154 (by decide) ?_
            refine lv_icmp_ne (tgt := 162) hx hb dX15_fieldPlain_156 (by decide) (fun c_221 => ?_) (fun c_221 => ?_)
            ·
              refine lv_aload_n hx hb dX15_fieldPlain_162 rfl (lv_at hl 4 rfl) ?_
              refine pg_get (ci := 15) (v := .ref ml) (C := RX15) (T := TX15) (N := 59) hx hb hts it_15 hown hK hP hL_h0 hF_162 rfl 23 (by decide) (hts _ kt_902) (fun _ h9 => h9) rfl dX15_fieldPlain_163 ?_
              refine lv_iload hx hb dX15_fieldPlain_166 (lv_at hl 0 rfl) ?_
              refine pg_bald hx hb hK hP hi_24 1 hF_218 rfl (vp_in_nI (by omega) (by omega)) dX15_fieldPlain_168 ?_
              refine lv_topi (fun x_222 ex_222 => ?_)
              obtain rfl : x_222 = f_217 i := ex_222.trans (congrArg f_217 (show ((nI i) : Int32).toNatClampNeg = i from nI_clamp (by omega)))
              have hFc := pg_free hD hS hA
              refine va_calli (va_runS (As := [.int (f_217 i)]) (rest := []) ⟨hx, hb, hml, hown, hts⟩ (s_X15_isWhite l dC dI cs ty gm L H.size F_156 (f_217 i) hW ) ⟨callB_of 1 hts (gi kt_715) rfl rfl rfl (hts _ kt_669) (hts _ kt_716) (by decide +kernel) ⟨Nat.le_of_ble_eq_true rfl, Nat.le_of_ble_eq_true rfl⟩, (hts _ kt_717)⟩ ⟨fun a U g mk q => ⟨q.1, PTm.calling q.2⟩, fun U hU hWm => ⟨rfl, PTm.mk hU hWm hP hK hD hE hO⟩⟩ rfl rfl hl.1 rfl (lv_room (Nat.le_of_ble_eq_true rfl)) dX15_fieldPlain_169 ⟨by show _ + 0 ≤ 0; omega, by show _ + 0 ≤ 0; omega⟩) hS (fun q _ h => hFc q h) hFc (fun r_223 u t H1 locs ht hvm hw hB hz1 hk1 hS => ?_)
              obtain ⟨F_224, hB1⟩ := hB
              obtain rfl : F_156 = F_224 := (funext (fun a => hB1.2.2.2 a List.not_mem_nil)).symm
              obtain ⟨hP, hD, hO, hR⟩ := QTm.back hB1 ht hFc hR (fun q h => absurd h List.not_mem_nil)
              generalize H1 = H at hP hS ⊢
              have hw : (r_223 = 0 ∨ r_223 = 1) := hw
              have hw_225 := hw
              refine lv_if_eq (tgt := 181) hx hb dX15_fieldPlain_172 (by decide) (fun c_226 => ?_) (fun c_226 => ?_)
              ·
                refine lv_iload hx hb dX15_fieldPlain_181 (lv_at hl 1 rfl) ?_
                refine lv_if_eq (tgt := 200) hx hb dX15_fieldPlain_183 (by decide) (fun c_227 => ?_) (fun c_227 => ?_)
                ·
                  refine lv_iconst (v := 0) hx hb dX15_fieldPlain_200 (by decide) ?_
                  refine lv_istore (lv' := [(7, .int 0), (8, .int (nI i)), (6, .int w6), (5, .int (nI kend)), (0, .ref h0), (1, .int (nI jf)), (2, .int x2), (3, .int x3), (4, .int x4)]) hx hb dX15_fieldPlain_201 hl (by decide) rfl (fun ls hl => ?_)
                  refine lv_iconst (v := 1) hx hb dX15_fieldPlain_203 (by decide) ?_
                  refine lv_istore (lv' := [(6, .int 1), (7, .int 0), (8, .int (nI i)), (5, .int (nI kend)), (0, .ref h0), (1, .int (nI jf)), (2, .int x2), (3, .int x3), (4, .int x4)]) hx hb dX15_fieldPlain_204 hl (by decide) rfl (fun ls hl => ?_)
                  refine lv_aload_n hx hb dX15_fieldPlain_206 rfl (lv_at hl 4 rfl) ?_
                  refine pg_get (ci := 15) (v := .ref pl) (C := RX15) (T := TX15) (N := 59) hx hb hts it_15 hown hK hP hL_h0 hF_162 rfl 34 (by decide) (hts _ kt_916) (fun _ h9 => h9) rfl dX15_fieldPlain_207 ?_
                  refine lv_aload_n hx hb dX15_fieldPlain_210 rfl (lv_at hl 4 rfl) ?_
                  refine pg_get (ci := 15) (v := .ref ml) (C := RX15) (T := TX15) (N := 59) hx hb hts it_15 hown hK hP hL_h0 hF_162 rfl 23 (by decide) (hts _ kt_902) (fun _ h9 => h9) rfl dX15_fieldPlain_211 ?_
                  refine lv_iload hx hb dX15_fieldPlain_214 (lv_at hl 2 rfl) ?_
                  refine pg_bald hx hb hK hP hi_24 1 hF_218 rfl (vp_in_nI (by omega) (by omega)) dX15_fieldPlain_216 ?_
                  refine lv_topi (fun x_228 ex_228 => ?_)
                  obtain rfl : x_228 = f_217 i := ex_228.trans (congrArg f_217 (show ((nI i) : Int32).toNatClampNeg = i from nI_clamp (by omega)))
                  have hFc := pg_free hD hS hA
                  refine va_callv (va_runV (As := [.int (f_217 i)]) (rest := []) ⟨hx, hb, hml, hown, hts⟩ (s_X14_add l dC dI cs ty gm L H.size F_156 pl (ρ + 10) rl 6000 zz (f_217 i) hW hL_pl hT_pl hs3 (by first | omega | assumption)) ⟨callB_of 1 hts (gi kt_711) rfl rfl rfl (hts _ kt_676) (hts _ kt_712) (by decide +kernel) ⟨Nat.le_of_ble_eq_true rfl, Nat.le_of_ble_eq_true rfl⟩, (hts _ kt_713), (hts _ kt_714)⟩ ⟨fun a U g mk q => ⟨q.1, PTm.calling q.2⟩, pg_recv hK hP hL_pl hs3 (q := (RX14, TX14, 2)) rfl, fun U hU hWm => ⟨rfl, PTm.mk hU hWm hP hK hD hE hO⟩⟩ rfl rfl hl.1 rfl (lv_room (Nat.le_of_ble_eq_true rfl)) dX15_fieldPlain_217 ⟨by show _ + 0 ≤ 0; omega, by show _ + 0 ≤ 0; omega⟩) hS (fun q _ h => hFc q h) hFc (fun u t H1 locs ht hvm hw hB hz1 hk1 hS => ?_)
                  obtain ⟨F_230, hB1, hq_231⟩ := hB
                  obtain ⟨hP, hD, hO, hR⟩ := QTm.back hB1 ht hFc hR (fun q h => by simp only [List.mem_cons, List.not_mem_nil, or_false] at h ⊢; omega)
                  have hF_232 : F_230 h0 = .inr (15, (.ref ta) :: (.int (nI zt)) :: (.int (nI zo_106)) :: (.int (nI ze_107)) :: (.ref ou) :: (.ref so) :: (.ref ad) :: (.ref na) :: (.ref va) :: (.ref lc) :: (.ref dm) :: (.int v11_108) :: (.int v12_109) :: (.ref tg) :: (.int v14_110) :: (.int v15_111) :: (.ref pe) :: (.int v17_112) :: (.int v18_113) :: (.int v19_114) :: (.int v20_115) :: (.int v21_116) :: (.int v22_117) :: (.ref ml) :: (.ref bg) :: (.ref co) :: (.ref sp) :: (.ref nb0) :: (.ref nb1) :: (.ref nb2) :: (.int (nI nf)) :: (.int (nI bd)) :: (.int (nI mm)) :: (.int v33_118) :: (.ref pl) :: (.ref se) :: (.ref ke) :: (.ref wi) :: (.ref hs) :: (.ref mo) :: (.ref po) :: (.ref nu) :: (.ref pr) :: (.ref sq) :: (.ref xa) :: (.ref sa) :: (.ref n64) :: (.ref m64) :: (.ref ex) :: (.ref wh) :: (.ref sd) :: (.ref tk) :: (.int v52_119) :: (.int v53_120) :: (.int v54_121) :: (.ref hd) :: (.ref ak) :: (.ref ho) :: (.ref ot) :: []) := (hB1.2.2.2 h0 (by rw [hT_h0]; simp)).trans hF_162
                  have hF_233 : F_230 bg = .inl (cs 16, 21, .inl f_131) := (hB1.2.2.2 bg (by rw [ht_27]; simp)).trans hF_163
                  have hF_234 : F_230 co = .inl (cs 16, 21, .inl f_142) := (hB1.2.2.2 co (by rw [ht_29]; simp)).trans hF_164
                  have hF_235 : F_230 ml = .inl (cs 17, 3000, .inl f_217) := (hB1.2.2.2 ml (by rw [ht_25]; simp)).trans hF_218
                  generalize H1 = H at hP hS ⊢
                  refine lv_iinc (v := (nI (i + 1))) (lv' := [(8, .int (nI (i + 1))), (6, .int 1), (7, .int 0), (5, .int (nI kend)), (0, .ref h0), (1, .int (nI jf)), (2, .int x2), (3, .int x3), (4, .int x4)]) hx hb dX15_fieldPlain_220 hl (k := 2) rfl (nI_1 _) (by decide) rfl (fun ls hl => ?_)
                  refine lv_goto (tgt := 127) hx hb dX15_fieldPlain_223 (by decide) ?_
                  refine W.widen (k := 0) (n := 0) (by omega) (by omega) ?_
                  exact ih_161 ((i + 1), 1, 0, (zz + 1)) F_230 (⟨⟨by omega, by omega⟩, Or.inl rfl, by omega, hq_231⟩) (by show kend - (i + 1) < kend - i; omega) hO hR _ _ hP hD hS ls (lv_sub hl [0, 2, 1, 3, 4, 5, 6, 7, 8] rfl)
                ·
                  have hzz : zz + 1 ≤ (z + (gm 1 jf - gm 0 jf) + 1 + (i - (gm 1 jf + 1))) := hq3.resolve_left c_227
                  refine lv_iload hx hb dX15_fieldPlain_186 (lv_at hl 2 rfl) ?_
                  refine lv_if_eq (tgt := 200) hx hb dX15_fieldPlain_188 (by decide) (fun c_236 => ?_) (fun c_236 => ?_)
                  ·
                    refine lv_iconst (v := 0) hx hb dX15_fieldPlain_200 (by decide) ?_
                    refine lv_istore (lv' := [(7, .int 0), (8, .int (nI i)), (6, .int w6), (5, .int (nI kend)), (0, .ref h0), (1, .int (nI jf)), (2, .int x2), (3, .int x3), (4, .int x4)]) hx hb dX15_fieldPlain_201 hl (by decide) rfl (fun ls hl => ?_)
                    refine lv_iconst (v := 1) hx hb dX15_fieldPlain_203 (by decide) ?_
                    refine lv_istore (lv' := [(6, .int 1), (7, .int 0), (8, .int (nI i)), (5, .int (nI kend)), (0, .ref h0), (1, .int (nI jf)), (2, .int x2), (3, .int x3), (4, .int x4)]) hx hb dX15_fieldPlain_204 hl (by decide) rfl (fun ls hl => ?_)
                    refine lv_aload_n hx hb dX15_fieldPlain_206 rfl (lv_at hl 4 rfl) ?_
                    refine pg_get (ci := 15) (v := .ref pl) (C := RX15) (T := TX15) (N := 59) hx hb hts it_15 hown hK hP hL_h0 hF_162 rfl 34 (by decide) (hts _ kt_916) (fun _ h9 => h9) rfl dX15_fieldPlain_207 ?_
                    refine lv_aload_n hx hb dX15_fieldPlain_210 rfl (lv_at hl 4 rfl) ?_
                    refine pg_get (ci := 15) (v := .ref ml) (C := RX15) (T := TX15) (N := 59) hx hb hts it_15 hown hK hP hL_h0 hF_162 rfl 23 (by decide) (hts _ kt_902) (fun _ h9 => h9) rfl dX15_fieldPlain_211 ?_
                    refine lv_iload hx hb dX15_fieldPlain_214 (lv_at hl 2 rfl) ?_
                    refine pg_bald hx hb hK hP hi_24 1 hF_218 rfl (vp_in_nI (by omega) (by omega)) dX15_fieldPlain_216 ?_
                    refine lv_topi (fun x_237 ex_237 => ?_)
                    obtain rfl : x_237 = f_217 i := ex_237.trans (congrArg f_217 (show ((nI i) : Int32).toNatClampNeg = i from nI_clamp (by omega)))
                    have hFc := pg_free hD hS hA
                    refine va_callv (va_runV (As := [.int (f_217 i)]) (rest := []) ⟨hx, hb, hml, hown, hts⟩ (s_X14_add l dC dI cs ty gm L H.size F_156 pl (ρ + 10) rl 6000 zz (f_217 i) hW hL_pl hT_pl hs3 (by first | omega | assumption)) ⟨callB_of 1 hts (gi kt_711) rfl rfl rfl (hts _ kt_676) (hts _ kt_712) (by decide +kernel) ⟨Nat.le_of_ble_eq_true rfl, Nat.le_of_ble_eq_true rfl⟩, (hts _ kt_713), (hts _ kt_714)⟩ ⟨fun a U g mk q => ⟨q.1, PTm.calling q.2⟩, pg_recv hK hP hL_pl hs3 (q := (RX14, TX14, 2)) rfl, fun U hU hWm => ⟨rfl, PTm.mk hU hWm hP hK hD hE hO⟩⟩ rfl rfl hl.1 rfl (lv_room (Nat.le_of_ble_eq_true rfl)) dX15_fieldPlain_217 ⟨by show _ + 0 ≤ 0; omega, by show _ + 0 ≤ 0; omega⟩) hS (fun q _ h => hFc q h) hFc (fun u t H1 locs ht hvm hw hB hz1 hk1 hS => ?_)
                    obtain ⟨F_239, hB1, hq_240⟩ := hB
                    obtain ⟨hP, hD, hO, hR⟩ := QTm.back hB1 ht hFc hR (fun q h => by simp only [List.mem_cons, List.not_mem_nil, or_false] at h ⊢; omega)
                    have hF_241 : F_239 h0 = .inr (15, (.ref ta) :: (.int (nI zt)) :: (.int (nI zo_106)) :: (.int (nI ze_107)) :: (.ref ou) :: (.ref so) :: (.ref ad) :: (.ref na) :: (.ref va) :: (.ref lc) :: (.ref dm) :: (.int v11_108) :: (.int v12_109) :: (.ref tg) :: (.int v14_110) :: (.int v15_111) :: (.ref pe) :: (.int v17_112) :: (.int v18_113) :: (.int v19_114) :: (.int v20_115) :: (.int v21_116) :: (.int v22_117) :: (.ref ml) :: (.ref bg) :: (.ref co) :: (.ref sp) :: (.ref nb0) :: (.ref nb1) :: (.ref nb2) :: (.int (nI nf)) :: (.int (nI bd)) :: (.int (nI mm)) :: (.int v33_118) :: (.ref pl) :: (.ref se) :: (.ref ke) :: (.ref wi) :: (.ref hs) :: (.ref mo) :: (.ref po) :: (.ref nu) :: (.ref pr) :: (.ref sq) :: (.ref xa) :: (.ref sa) :: (.ref n64) :: (.ref m64) :: (.ref ex) :: (.ref wh) :: (.ref sd) :: (.ref tk) :: (.int v52_119) :: (.int v53_120) :: (.int v54_121) :: (.ref hd) :: (.ref ak) :: (.ref ho) :: (.ref ot) :: []) := (hB1.2.2.2 h0 (by rw [hT_h0]; simp)).trans hF_162
                    have hF_242 : F_239 bg = .inl (cs 16, 21, .inl f_131) := (hB1.2.2.2 bg (by rw [ht_27]; simp)).trans hF_163
                    have hF_243 : F_239 co = .inl (cs 16, 21, .inl f_142) := (hB1.2.2.2 co (by rw [ht_29]; simp)).trans hF_164
                    have hF_244 : F_239 ml = .inl (cs 17, 3000, .inl f_217) := (hB1.2.2.2 ml (by rw [ht_25]; simp)).trans hF_218
                    generalize H1 = H at hP hS ⊢
                    refine lv_iinc (v := (nI (i + 1))) (lv' := [(8, .int (nI (i + 1))), (6, .int 1), (7, .int 0), (5, .int (nI kend)), (0, .ref h0), (1, .int (nI jf)), (2, .int x2), (3, .int x3), (4, .int x4)]) hx hb dX15_fieldPlain_220 hl (k := 2) rfl (nI_1 _) (by decide) rfl (fun ls hl => ?_)
                    refine lv_goto (tgt := 127) hx hb dX15_fieldPlain_223 (by decide) ?_
                    refine W.widen (k := 0) (n := 0) (by omega) (by omega) ?_
                    exact ih_161 ((i + 1), 1, 0, (zz + 1)) F_239 (⟨⟨by omega, by omega⟩, Or.inl rfl, by omega, hq_240⟩) (by show kend - (i + 1) < kend - i; omega) hO hR _ _ hP hD hS ls (lv_sub hl [0, 2, 1, 3, 4, 5, 6, 7, 8] rfl)
                  ·
                    refine lv_aload_n hx hb dX15_fieldPlain_191 rfl (lv_at hl 4 rfl) ?_
                    refine pg_get (ci := 15) (v := .ref pl) (C := RX15) (T := TX15) (N := 59) hx hb hts it_15 hown hK hP hL_h0 hF_162 rfl 34 (by decide) (hts _ kt_916) (fun _ h9 => h9) rfl dX15_fieldPlain_192 ?_
                    refine lv_bipush (v := 32) hx hb dX15_fieldPlain_195 (by decide) ?_
                    have hFc := pg_free hD hS hA
                    refine va_callv (va_runV (As := [.int 32]) (rest := []) ⟨hx, hb, hml, hown, hts⟩ (s_X14_add l dC dI cs ty gm L H.size F_156 pl (ρ + 10) rl 6000 zz 32 hW hL_pl hT_pl hs3 (by first | omega | assumption)) ⟨callB_of 1 hts (gi kt_711) rfl rfl rfl (hts _ kt_676) (hts _ kt_712) (by decide +kernel) ⟨Nat.le_of_ble_eq_true rfl, Nat.le_of_ble_eq_true rfl⟩, (hts _ kt_713), (hts _ kt_714)⟩ ⟨fun a U g mk q => ⟨q.1, PTm.calling q.2⟩, pg_recv hK hP hL_pl hs3 (q := (RX14, TX14, 2)) rfl, fun U hU hWm => ⟨rfl, PTm.mk hU hWm hP hK hD hE hO⟩⟩ rfl rfl hl.1 rfl (lv_room (Nat.le_of_ble_eq_true rfl)) dX15_fieldPlain_197 ⟨by show _ + 0 ≤ 0; omega, by show _ + 0 ≤ 0; omega⟩) hS (fun q _ h => hFc q h) hFc (fun u t H1 locs ht hvm hw hB hz1 hk1 hS => ?_)
                    obtain ⟨F_246, hB1, hq_247⟩ := hB
                    obtain ⟨hP, hD, hO, hR⟩ := QTm.back hB1 ht hFc hR (fun q h => by simp only [List.mem_cons, List.not_mem_nil, or_false] at h ⊢; omega)
                    have hF_248 : F_246 h0 = .inr (15, (.ref ta) :: (.int (nI zt)) :: (.int (nI zo_106)) :: (.int (nI ze_107)) :: (.ref ou) :: (.ref so) :: (.ref ad) :: (.ref na) :: (.ref va) :: (.ref lc) :: (.ref dm) :: (.int v11_108) :: (.int v12_109) :: (.ref tg) :: (.int v14_110) :: (.int v15_111) :: (.ref pe) :: (.int v17_112) :: (.int v18_113) :: (.int v19_114) :: (.int v20_115) :: (.int v21_116) :: (.int v22_117) :: (.ref ml) :: (.ref bg) :: (.ref co) :: (.ref sp) :: (.ref nb0) :: (.ref nb1) :: (.ref nb2) :: (.int (nI nf)) :: (.int (nI bd)) :: (.int (nI mm)) :: (.int v33_118) :: (.ref pl) :: (.ref se) :: (.ref ke) :: (.ref wi) :: (.ref hs) :: (.ref mo) :: (.ref po) :: (.ref nu) :: (.ref pr) :: (.ref sq) :: (.ref xa) :: (.ref sa) :: (.ref n64) :: (.ref m64) :: (.ref ex) :: (.ref wh) :: (.ref sd) :: (.ref tk) :: (.int v52_119) :: (.int v53_120) :: (.int v54_121) :: (.ref hd) :: (.ref ak) :: (.ref ho) :: (.ref ot) :: []) := (hB1.2.2.2 h0 (by rw [hT_h0]; simp)).trans hF_162
                    have hF_249 : F_246 bg = .inl (cs 16, 21, .inl f_131) := (hB1.2.2.2 bg (by rw [ht_27]; simp)).trans hF_163
                    have hF_250 : F_246 co = .inl (cs 16, 21, .inl f_142) := (hB1.2.2.2 co (by rw [ht_29]; simp)).trans hF_164
                    have hF_251 : F_246 ml = .inl (cs 17, 3000, .inl f_217) := (hB1.2.2.2 ml (by rw [ht_25]; simp)).trans hF_218
                    generalize H1 = H at hP hS ⊢
                    refine lv_iconst (v := 0) hx hb dX15_fieldPlain_200 (by decide) ?_
                    refine lv_istore (lv' := [(7, .int 0), (8, .int (nI i)), (6, .int w6), (5, .int (nI kend)), (0, .ref h0), (1, .int (nI jf)), (2, .int x2), (3, .int x3), (4, .int x4)]) hx hb dX15_fieldPlain_201 hl (by decide) rfl (fun ls hl => ?_)
                    refine lv_iconst (v := 1) hx hb dX15_fieldPlain_203 (by decide) ?_
                    refine lv_istore (lv' := [(6, .int 1), (7, .int 0), (8, .int (nI i)), (5, .int (nI kend)), (0, .ref h0), (1, .int (nI jf)), (2, .int x2), (3, .int x3), (4, .int x4)]) hx hb dX15_fieldPlain_204 hl (by decide) rfl (fun ls hl => ?_)
                    refine lv_aload_n hx hb dX15_fieldPlain_206 rfl (lv_at hl 4 rfl) ?_
                    refine pg_get (ci := 15) (v := .ref pl) (C := RX15) (T := TX15) (N := 59) hx hb hts it_15 hown hK hP hL_h0 hF_248 rfl 34 (by decide) (hts _ kt_916) (fun _ h9 => h9) rfl dX15_fieldPlain_207 ?_
                    refine lv_aload_n hx hb dX15_fieldPlain_210 rfl (lv_at hl 4 rfl) ?_
                    refine pg_get (ci := 15) (v := .ref ml) (C := RX15) (T := TX15) (N := 59) hx hb hts it_15 hown hK hP hL_h0 hF_248 rfl 23 (by decide) (hts _ kt_902) (fun _ h9 => h9) rfl dX15_fieldPlain_211 ?_
                    refine lv_iload hx hb dX15_fieldPlain_214 (lv_at hl 2 rfl) ?_
                    refine pg_bald hx hb hK hP hi_24 1 hF_251 rfl (vp_in_nI (by omega) (by omega)) dX15_fieldPlain_216 ?_
                    refine lv_topi (fun x_252 ex_252 => ?_)
                    obtain rfl : x_252 = f_217 i := ex_252.trans (congrArg f_217 (show ((nI i) : Int32).toNatClampNeg = i from nI_clamp (by omega)))
                    have hFc := pg_free hD hS hA
                    refine va_callv (va_runV (As := [.int (f_217 i)]) (rest := []) ⟨hx, hb, hml, hown, hts⟩ (s_X14_add l dC dI cs ty gm L H.size F_246 pl (ρ + 10) rl 6000 (zz + 1) (f_217 i) hW hL_pl hT_pl hq_247 (by first | omega | assumption)) ⟨callB_of 1 hts (gi kt_711) rfl rfl rfl (hts _ kt_676) (hts _ kt_712) (by decide +kernel) ⟨Nat.le_of_ble_eq_true rfl, Nat.le_of_ble_eq_true rfl⟩, (hts _ kt_713), (hts _ kt_714)⟩ ⟨fun a U g mk q => ⟨q.1, PTm.calling q.2⟩, pg_recv hK hP hL_pl hq_247 (q := (RX14, TX14, 2)) rfl, fun U hU hWm => ⟨rfl, PTm.mk hU hWm hP hK hD hE hO⟩⟩ rfl rfl hl.1 rfl (lv_room (Nat.le_of_ble_eq_true rfl)) dX15_fieldPlain_217 ⟨by show _ + 0 ≤ 0; omega, by show _ + 0 ≤ 0; omega⟩) hS (fun q _ h => hFc q h) hFc (fun u t H1 locs ht hvm hw hB hz1 hk1 hS => ?_)
                    obtain ⟨F_254, hB1, hq_255⟩ := hB
                    obtain ⟨hP, hD, hO, hR⟩ := QTm.back hB1 ht hFc hR (fun q h => by simp only [List.mem_cons, List.not_mem_nil, or_false] at h ⊢; omega)
                    have hF_256 : F_254 h0 = .inr (15, (.ref ta) :: (.int (nI zt)) :: (.int (nI zo_106)) :: (.int (nI ze_107)) :: (.ref ou) :: (.ref so) :: (.ref ad) :: (.ref na) :: (.ref va) :: (.ref lc) :: (.ref dm) :: (.int v11_108) :: (.int v12_109) :: (.ref tg) :: (.int v14_110) :: (.int v15_111) :: (.ref pe) :: (.int v17_112) :: (.int v18_113) :: (.int v19_114) :: (.int v20_115) :: (.int v21_116) :: (.int v22_117) :: (.ref ml) :: (.ref bg) :: (.ref co) :: (.ref sp) :: (.ref nb0) :: (.ref nb1) :: (.ref nb2) :: (.int (nI nf)) :: (.int (nI bd)) :: (.int (nI mm)) :: (.int v33_118) :: (.ref pl) :: (.ref se) :: (.ref ke) :: (.ref wi) :: (.ref hs) :: (.ref mo) :: (.ref po) :: (.ref nu) :: (.ref pr) :: (.ref sq) :: (.ref xa) :: (.ref sa) :: (.ref n64) :: (.ref m64) :: (.ref ex) :: (.ref wh) :: (.ref sd) :: (.ref tk) :: (.int v52_119) :: (.int v53_120) :: (.int v54_121) :: (.ref hd) :: (.ref ak) :: (.ref ho) :: (.ref ot) :: []) := (hB1.2.2.2 h0 (by rw [hT_h0]; simp)).trans hF_248
                    have hF_257 : F_254 bg = .inl (cs 16, 21, .inl f_131) := (hB1.2.2.2 bg (by rw [ht_27]; simp)).trans hF_249
                    have hF_258 : F_254 co = .inl (cs 16, 21, .inl f_142) := (hB1.2.2.2 co (by rw [ht_29]; simp)).trans hF_250
                    have hF_259 : F_254 ml = .inl (cs 17, 3000, .inl f_217) := (hB1.2.2.2 ml (by rw [ht_25]; simp)).trans hF_251
                    generalize H1 = H at hP hS ⊢
                    refine lv_iinc (v := (nI (i + 1))) (lv' := [(8, .int (nI (i + 1))), (6, .int 1), (7, .int 0), (5, .int (nI kend)), (0, .ref h0), (1, .int (nI jf)), (2, .int x2), (3, .int x3), (4, .int x4)]) hx hb dX15_fieldPlain_220 hl (k := 2) rfl (nI_1 _) (by decide) rfl (fun ls hl => ?_)
                    refine lv_goto (tgt := 127) hx hb dX15_fieldPlain_223 (by decide) ?_
                    refine W.widen (k := 0) (n := 0) (by omega) (by omega) ?_
                    exact ih_161 ((i + 1), 1, 0, (zz + 2)) F_254 (⟨⟨by omega, by omega⟩, Or.inl rfl, by omega, hq_255⟩) (by show kend - (i + 1) < kend - i; omega) hO hR _ _ hP hD hS ls (lv_sub hl [0, 2, 1, 3, 4, 5, 6, 7, 8] rfl)
              ·
                refine lv_iconst (v := 1) hx hb dX15_fieldPlain_175 (by decide) ?_
                refine lv_istore (lv' := [(7, .int 1), (8, .int (nI i)), (6, .int w6), (5, .int (nI kend)), (0, .ref h0), (1, .int (nI jf)), (2, .int x2), (3, .int x3), (4, .int x4)]) hx hb dX15_fieldPlain_176 hl (by decide) rfl (fun ls hl => ?_)
                refine lv_goto (tgt := 220) hx hb dX15_fieldPlain_178 (by decide) ?_
                refine lv_iinc (v := (nI (i + 1))) (lv' := [(8, .int (nI (i + 1))), (7, .int 1), (6, .int w6), (5, .int (nI kend)), (0, .ref h0), (1, .int (nI jf)), (2, .int x2), (3, .int x3), (4, .int x4)]) hx hb dX15_fieldPlain_220 hl (k := 1) rfl (nI_1 _) (by decide) rfl (fun ls hl => ?_)
                refine lv_goto (tgt := 127) hx hb dX15_fieldPlain_223 (by decide) ?_
                refine W.widen (k := 0) (n := 0) (by omega) (by omega) ?_
                exact ih_161 ((i + 1), w6, 1, zz) F_156 (⟨⟨by omega, by omega⟩, Or.inr (by omega), by omega, hs3⟩) (by show kend - (i + 1) < kend - i; omega) hO hR _ _ hP hD hS ls (lv_sub hl [0, 1, 2, 3, 4, 5, 6, 7, 8] rfl)
            ·
              refine lv_goto (tgt := 220) hx hb dX15_fieldPlain_159 (by decide) ?_
              refine lv_iinc (v := (nI (i + 1))) (lv' := [(8, .int (nI (i + 1))), (7, .int w7), (6, .int w6), (5, .int (nI kend)), (0, .ref h0), (1, .int (nI jf)), (2, .int x2), (3, .int x3), (4, .int x4)]) hx hb dX15_fieldPlain_220 hl (k := 0) rfl (nI_1 _) (by decide) rfl (fun ls hl => ?_)
              refine lv_goto (tgt := 127) hx hb dX15_fieldPlain_223 (by decide) ?_
              refine W.widen (k := 0) (n := 0) (by omega) (by omega) ?_
              exact ih_161 ((i + 1), w6, w7, zz) F_156 (⟨⟨by omega, by omega⟩, hq3.imp id (fun h => by omega), by omega, hs3⟩) (by show kend - (i + 1) < kend - i; omega) hO hR _ _ hP hD hS ls (lv_sub hl [0, 1, 2, 3, 4, 5, 6, 7, 8] rfl)
    ·
      have hi_260 : j < (gm 1 jf) := ltN (N := (gm 1 jf)) c_146
      refine lv_aload_n hx hb dX15_fieldPlain_79 rfl (lv_at hl 2 rfl) ?_
      refine pg_get (ci := 15) (v := .ref pl) (C := RX15) (T := TX15) (N := 59) hx hb hts it_15 hown hK hP hL_h0 hF_140 rfl 34 (by decide) (hts _ kt_916) (fun _ h9 => h9) rfl dX15_fieldPlain_80 ?_
      refine lv_aload_n hx hb dX15_fieldPlain_83 rfl (lv_at hl 2 rfl) ?_
      refine pg_get (ci := 15) (v := .ref ml) (C := RX15) (T := TX15) (N := 59) hx hb hts it_15 hown hK hP hL_h0 hF_140 rfl 23 (by decide) (hts _ kt_902) (fun _ h9 => h9) rfl dX15_fieldPlain_84 ?_
      refine lv_iload hx hb dX15_fieldPlain_87 (lv_at hl 0 rfl) ?_
      obtain ⟨hq_261, hq_262⟩ := hW.octs hi_24 ht_25
      obtain ⟨f_263, hF_264, hq_265⟩ := hO.octs hi_24 ht_25
      refine pg_bald hx hb hK hP hi_24 1 hF_264 rfl (vp_in_nI (by omega) (by omega)) dX15_fieldPlain_89 ?_
      refine lv_topi (fun x_266 ex_266 => ?_)
      obtain rfl : x_266 = f_263 j := ex_266.trans (congrArg f_263 (show ((nI j) : Int32).toNatClampNeg = j from nI_clamp (by omega)))
      have hFc := pg_free hD hS hA
      refine va_calli (va_runS (As := [.int (f_263 j)]) (rest := [.ref pl]) ⟨hx, hb, hml, hown, hts⟩ (s_X15_small l dC dI cs ty gm L H.size F_135 (f_263 j) hW ) ⟨callB_of 1 hts (gi kt_697) rfl rfl rfl (hts _ kt_669) (hts _ kt_698) (by decide +kernel) ⟨Nat.le_of_ble_eq_true rfl, Nat.le_of_ble_eq_true rfl⟩, (hts _ kt_699)⟩ ⟨fun a U g mk q => ⟨q.1, PTm.calling q.2⟩, fun U hU hWm => ⟨rfl, PTm.mk hU hWm hP hK hD hE hO⟩⟩ rfl rfl hl.1 rfl (lv_room (Nat.le_of_ble_eq_true rfl)) dX15_fieldPlain_90 ⟨by show _ + 0 ≤ 0; omega, by show _ + 0 ≤ 0; omega⟩) hS (fun q _ h => hFc q h) hFc (fun r_267 u t H1 locs ht hvm hw hB hz1 hk1 hS => ?_)
      obtain ⟨F_268, hB1⟩ := hB
      obtain rfl : F_135 = F_268 := (funext (fun a => hB1.2.2.2 a List.not_mem_nil)).symm
      obtain ⟨hP, hD, hO, hR⟩ := QTm.back hB1 ht hFc hR (fun q h => absurd h List.not_mem_nil)
      generalize H1 = H at hP hS ⊢
      have hw : True := hw
      have hw_269 := hw
      have hFc := pg_free hD hS hA
      refine va_callv (va_runV (As := [.int r_267]) (rest := []) ⟨hx, hb, hml, hown, hts⟩ (s_X14_add l dC dI cs ty gm L H.size F_135 pl (ρ + 10) rl 6000 zz r_267 hW hL_pl hT_pl hr2 (by first | omega | assumption)) ⟨callB_of 1 hts (gi kt_711) rfl rfl rfl (hts _ kt_676) (hts _ kt_712) (by decide +kernel) ⟨Nat.le_of_ble_eq_true rfl, Nat.le_of_ble_eq_true rfl⟩, (hts _ kt_713), (hts _ kt_714)⟩ ⟨fun a U g mk q => ⟨q.1, PTm.calling q.2⟩, pg_recv hK hP hL_pl hr2 (q := (RX14, TX14, 2)) rfl, fun U hU hWm => ⟨rfl, PTm.mk hU hWm hP hK hD hE hO⟩⟩ rfl rfl hl.1 rfl (lv_room (Nat.le_of_ble_eq_true rfl)) dX15_fieldPlain_93 ⟨by show _ + 0 ≤ 0; omega, by show _ + 0 ≤ 0; omega⟩) hS (fun q _ h => hFc q h) hFc (fun u t H1 locs ht hvm hw hB hz1 hk1 hS => ?_)
      obtain ⟨F_271, hB1, hq_272⟩ := hB
      obtain ⟨hP, hD, hO, hR⟩ := QTm.back hB1 ht hFc hR (fun q h => by simp only [List.mem_cons, List.not_mem_nil, or_false] at h ⊢; omega)
      have hF_273 : F_271 h0 = .inr (15, (.ref ta) :: (.int (nI zt)) :: (.int (nI zo_106)) :: (.int (nI ze_107)) :: (.ref ou) :: (.ref so) :: (.ref ad) :: (.ref na) :: (.ref va) :: (.ref lc) :: (.ref dm) :: (.int v11_108) :: (.int v12_109) :: (.ref tg) :: (.int v14_110) :: (.int v15_111) :: (.ref pe) :: (.int v17_112) :: (.int v18_113) :: (.int v19_114) :: (.int v20_115) :: (.int v21_116) :: (.int v22_117) :: (.ref ml) :: (.ref bg) :: (.ref co) :: (.ref sp) :: (.ref nb0) :: (.ref nb1) :: (.ref nb2) :: (.int (nI nf)) :: (.int (nI bd)) :: (.int (nI mm)) :: (.int v33_118) :: (.ref pl) :: (.ref se) :: (.ref ke) :: (.ref wi) :: (.ref hs) :: (.ref mo) :: (.ref po) :: (.ref nu) :: (.ref pr) :: (.ref sq) :: (.ref xa) :: (.ref sa) :: (.ref n64) :: (.ref m64) :: (.ref ex) :: (.ref wh) :: (.ref sd) :: (.ref tk) :: (.int v52_119) :: (.int v53_120) :: (.int v54_121) :: (.ref hd) :: (.ref ak) :: (.ref ho) :: (.ref ot) :: []) := (hB1.2.2.2 h0 (by rw [hT_h0]; simp)).trans hF_140
      have hF_274 : F_271 bg = .inl (cs 16, 21, .inl f_131) := (hB1.2.2.2 bg (by rw [ht_27]; simp)).trans hF_141
      have hF_275 : F_271 co = .inl (cs 16, 21, .inl f_142) := (hB1.2.2.2 co (by rw [ht_29]; simp)).trans hF_143
      have hF_276 : F_271 ml = .inl (cs 17, 3000, .inl f_263) := (hB1.2.2.2 ml (by rw [ht_25]; simp)).trans hF_264
      generalize H1 = H at hP hS ⊢
      refine lv_iinc (v := (nI (j + 1))) (lv' := [(6, .int (nI (j + 1))), (5, .int (nI kend)), (0, .ref h0), (1, .int (nI jf)), (2, .int x2), (3, .int x3), (4, .int x4)]) hx hb dX15_fieldPlain_96 hl (k := 0) rfl (nI_1 _) (by decide) rfl (fun ls hl => ?_)
      refine lv_goto (tgt := 68) hx hb dX15_fieldPlain_99 (by decide) ?_
      refine W.widen (k := 0) (n := 0) (by omega) (by omega) ?_
      exact ih_139 ((j + 1), (zz + 1)) F_271 (⟨⟨by omega, by omega⟩, by omega, hq_272⟩) (by show gm 1 jf - (j + 1) < gm 1 jf - j; omega) hO hR _ _ hP hD hS ls (lv_sub hl [0, 1, 2, 3, 4, 5, 6] rfl)
  ·
    refine lv_aload_n hx hb dX15_fieldPlain_11 rfl (lv_at hl 1 rfl) ?_
    refine pg_get (ci := 15) (v := .ref bg) (C := RX15) (T := TX15) (N := 59) hx hb hts it_15 hown hK hP hL_h0 hF_122 rfl 24 (by decide) (hts _ kt_903) (fun _ h9 => h9) rfl dX15_fieldPlain_12 ?_
    refine lv_iload_n hx hb dX15_fieldPlain_15 rfl (lv_at hl 2 rfl) ?_
    obtain ⟨f_277, hF_278, hq_279⟩ := hO.pos hi_26 ht_27
    refine pg_iald hx hb hK hP hi_26 0 hF_278 rfl (vp_in_nI (by omega) (by omega)) dX15_fieldPlain_16 ?_
    refine lv_topi (fun x_280 ex_280 => ?_)
    obtain rfl : x_280 = (nI (gm 0 jf)) := ex_280.trans (by rw [show ((nI jf) : Int32) = nI jf from rfl, nI_clamp (by omega)]; exact hq_279 jf (by omega))
    have hgbx_280 := hgB 0 jf
    refine lv_istore (lv' := [(6, .int (nI (gm 0 jf))), (5, .int (nI kend)), (0, .ref h0), (1, .int (nI jf)), (2, .int x2), (3, .int x3), (4, .int x4)]) hx hb dX15_fieldPlain_17 hl (by decide) rfl (fun ls hl => ?_)
    refine W.widen (k := 0) (n := 0) (by omega) (by omega) ?_
    have hF_282 : F h0 = .inr (15, (.ref ta) :: (.int (nI zt)) :: (.int (nI zo_106)) :: (.int (nI ze_107)) :: (.ref ou) :: (.ref so) :: (.ref ad) :: (.ref na) :: (.ref va) :: (.ref lc) :: (.ref dm) :: (.int v11_108) :: (.int v12_109) :: (.ref tg) :: (.int v14_110) :: (.int v15_111) :: (.ref pe) :: (.int v17_112) :: (.int v18_113) :: (.int v19_114) :: (.int v20_115) :: (.int v21_116) :: (.int v22_117) :: (.ref ml) :: (.ref bg) :: (.ref co) :: (.ref sp) :: (.ref nb0) :: (.ref nb1) :: (.ref nb2) :: (.int (nI nf)) :: (.int (nI bd)) :: (.int (nI mm)) :: (.int v33_118) :: (.ref pl) :: (.ref se) :: (.ref ke) :: (.ref wi) :: (.ref hs) :: (.ref mo) :: (.ref po) :: (.ref nu) :: (.ref pr) :: (.ref sq) :: (.ref xa) :: (.ref sa) :: (.ref n64) :: (.ref m64) :: (.ref ex) :: (.ref wh) :: (.ref sd) :: (.ref tk) :: (.int v52_119) :: (.int v53_120) :: (.int v54_121) :: (.ref hd) :: (.ref ak) :: (.ref ho) :: (.ref ot) :: []) := (hR h0 (by rw [hT_h0]; simp)).symm.trans hF_122
    have hF_283 : F bg = .inl (cs 16, 21, .inl f_277) := (hR bg (by rw [ht_27]; simp)).symm.trans hF_278
    refine pl_loopm (σ := Nat × Nat) A (dC, dI) cs ty gm L [ρ + 10] F 19 9 (fun (j, zz) => [(6, .int (nI j)), (5, .int (nI kend)), (0, .ref h0), (1, .int (nI jf)), (2, .int x2), (3, .int x3), (4, .int x4)]) (fun (j, zz) => []) (fun (j, zz) FF => (gm 0 jf ≤ j ∧ j ≤ kend) ∧ zz ≤ z + (j - gm 0 jf) ∧ FF pl = .inr (14, [.ref rl, .int (nI zz)])) (fun (j, zz) => kend - j) ?_ ((gm 0 jf), z) F (⟨⟨by omega, by omega⟩, by omega, hFl⟩) hO hR _ _ hP hD hS ls (lv_sub hl [0, 1, 2, 3, 4, 5, 6] rfl)
    rintro ⟨j, zz⟩ F_281 hv_284 hO hR ih_285 H locs hP hD hS ls hl
    have hl : lv_has ls 9 [(6, .int (nI j)), (5, .int (nI kend)), (0, .ref h0), (1, .int (nI jf)), (2, .int x2), (3, .int x3), (4, .int x4)] := hl
    have hv_284 : (gm 0 jf ≤ j ∧ j ≤ kend) ∧ zz ≤ z + (j - gm 0 jf) ∧ F_281 pl = .inr (14, [.ref rl, .int (nI zz)]) := hv_284
    refine W.eq (g2 := F0 m 19 ls []) rfl ?_
    have hF_286 : F_281 h0 = .inr (15, (.ref ta) :: (.int (nI zt)) :: (.int (nI zo_106)) :: (.int (nI ze_107)) :: (.ref ou) :: (.ref so) :: (.ref ad) :: (.ref na) :: (.ref va) :: (.ref lc) :: (.ref dm) :: (.int v11_108) :: (.int v12_109) :: (.ref tg) :: (.int v14_110) :: (.int v15_111) :: (.ref pe) :: (.int v17_112) :: (.int v18_113) :: (.int v19_114) :: (.int v20_115) :: (.int v21_116) :: (.int v22_117) :: (.ref ml) :: (.ref bg) :: (.ref co) :: (.ref sp) :: (.ref nb0) :: (.ref nb1) :: (.ref nb2) :: (.int (nI nf)) :: (.int (nI bd)) :: (.int (nI mm)) :: (.int v33_118) :: (.ref pl) :: (.ref se) :: (.ref ke) :: (.ref wi) :: (.ref hs) :: (.ref mo) :: (.ref po) :: (.ref nu) :: (.ref pr) :: (.ref sq) :: (.ref xa) :: (.ref sa) :: (.ref n64) :: (.ref m64) :: (.ref ex) :: (.ref wh) :: (.ref sd) :: (.ref tk) :: (.int v52_119) :: (.int v53_120) :: (.int v54_121) :: (.ref hd) :: (.ref ak) :: (.ref ho) :: (.ref ot) :: []) := (hR h0 (by rw [hT_h0]; simp)).trans hF_282
    have hF_287 : F_281 bg = .inl (cs 16, 21, .inl f_277) := (hR bg (by rw [ht_27]; simp)).trans hF_283
    obtain ⟨hp1, hq1, hr1⟩ := hv_284
    refine lv_iload hx hb dX15_fieldPlain_19 (lv_at hl 0 rfl) ?_
    refine lv_iload hx hb dX15_fieldPlain_21 (lv_at hl 1 rfl) ?_
    refine lv_icmp_ge (tgt := 59) hx hb dX15_fieldPlain_23 (by decide) (fun c_288 => ?_) (fun c_288 => ?_)
    ·
      have hi_289 : kend ≤ j := leN (N := kend) c_288
      refine W.widen (k := 0) (n := 0) (by omega) (by omega) ?_
      exact W.vret hx hb hr (fun t ht hWm => ⟨⟨(), rfl, trivial, ⟨F_281, zz, QTm.mk ht hP hD hO hR, hr1, by omega⟩⟩, hS.F ht⟩) hS.2.2 dX15_fieldPlain_59
    ·
      have hi_290 : j < kend := ltN (N := kend) c_288
      have hF_293 : F h0 = .inr (15, (.ref ta) :: (.int (nI zt)) :: (.int (nI zo_106)) :: (.int (nI ze_107)) :: (.ref ou) :: (.ref so) :: (.ref ad) :: (.ref na) :: (.ref va) :: (.ref lc) :: (.ref dm) :: (.int v11_108) :: (.int v12_109) :: (.ref tg) :: (.int v14_110) :: (.int v15_111) :: (.ref pe) :: (.int v17_112) :: (.int v18_113) :: (.int v19_114) :: (.int v20_115) :: (.int v21_116) :: (.int v22_117) :: (.ref ml) :: (.ref bg) :: (.ref co) :: (.ref sp) :: (.ref nb0) :: (.ref nb1) :: (.ref nb2) :: (.int (nI nf)) :: (.int (nI bd)) :: (.int (nI mm)) :: (.int v33_118) :: (.ref pl) :: (.ref se) :: (.ref ke) :: (.ref wi) :: (.ref hs) :: (.ref mo) :: (.ref po) :: (.ref nu) :: (.ref pr) :: (.ref sq) :: (.ref xa) :: (.ref sa) :: (.ref n64) :: (.ref m64) :: (.ref ex) :: (.ref wh) :: (.ref sd) :: (.ref tk) :: (.int v52_119) :: (.int v53_120) :: (.int v54_121) :: (.ref hd) :: (.ref ak) :: (.ref ho) :: (.ref ot) :: []) := (hR h0 (by rw [hT_h0]; simp)).symm.trans hF_286
      have hF_294 : F bg = .inl (cs 16, 21, .inl f_277) := (hR bg (by rw [ht_27]; simp)).symm.trans hF_287
      refine W.widen (k := 0) (n := 0) (by omega) (by omega) ?_
      refine pl_cutm (σ := Nat) A (dC, dI) cs ty gm L [ρ + 10] F 53 9 (fun zy => [(6, .int (nI j)), (5, .int (nI kend)), (0, .ref h0), (1, .int (nI jf)), (2, .int x2), (3, .int x3), (4, .int x4)]) (fun zy => []) (fun zy FF => zy ≤ z + (j + 1 - gm 0 jf) ∧ FF pl = .inr (14, [.ref rl, .int (nI zy)])) ?_ (fun jn_291 => ?_)
      ·
        rintro zy F_292 hv_295 hO hR H locs hP hD hS ls hl
        have hl : lv_has ls 9 [(6, .int (nI j)), (5, .int (nI kend)), (0, .ref h0), (1, .int (nI jf)), (2, .int x2), (3, .int x3), (4, .int x4)] := hl
        have hv_295 : zy ≤ z + (j + 1 - gm 0 jf) ∧ F_292 pl = .inr (14, [.ref rl, .int (nI zy)]) := hv_295
        refine W.eq (g2 := F0 m 53 ls []) rfl ?_
        have hF_296 : F_292 h0 = .inr (15, (.ref ta) :: (.int (nI zt)) :: (.int (nI zo_106)) :: (.int (nI ze_107)) :: (.ref ou) :: (.ref so) :: (.ref ad) :: (.ref na) :: (.ref va) :: (.ref lc) :: (.ref dm) :: (.int v11_108) :: (.int v12_109) :: (.ref tg) :: (.int v14_110) :: (.int v15_111) :: (.ref pe) :: (.int v17_112) :: (.int v18_113) :: (.int v19_114) :: (.int v20_115) :: (.int v21_116) :: (.int v22_117) :: (.ref ml) :: (.ref bg) :: (.ref co) :: (.ref sp) :: (.ref nb0) :: (.ref nb1) :: (.ref nb2) :: (.int (nI nf)) :: (.int (nI bd)) :: (.int (nI mm)) :: (.int v33_118) :: (.ref pl) :: (.ref se) :: (.ref ke) :: (.ref wi) :: (.ref hs) :: (.ref mo) :: (.ref po) :: (.ref nu) :: (.ref pr) :: (.ref sq) :: (.ref xa) :: (.ref sa) :: (.ref n64) :: (.ref m64) :: (.ref ex) :: (.ref wh) :: (.ref sd) :: (.ref tk) :: (.int v52_119) :: (.int v53_120) :: (.int v54_121) :: (.ref hd) :: (.ref ak) :: (.ref ho) :: (.ref ot) :: []) := (hR h0 (by rw [hT_h0]; simp)).trans hF_293
        have hF_297 : F_292 bg = .inl (cs 16, 21, .inl f_277) := (hR bg (by rw [ht_27]; simp)).trans hF_294
        obtain ⟨hy1, hy2⟩ := hv_295
        refine lv_iinc (v := (nI (j + 1))) (lv' := [(6, .int (nI (j + 1))), (5, .int (nI kend)), (0, .ref h0), (1, .int (nI jf)), (2, .int x2), (3, .int x3), (4, .int x4)]) hx hb dX15_fieldPlain_53 hl (k := 0) rfl (nI_1 _) (by decide) rfl (fun ls hl => ?_)
        refine lv_goto (tgt := 19) hx hb dX15_fieldPlain_56 (by decide) ?_
        refine W.widen (k := 0) (n := 0) (by omega) (by omega) ?_
        exact ih_285 ((j + 1), zy) F_292 (⟨⟨by omega, by omega⟩, by omega, hy2⟩) (by show kend - (j + 1) < kend - j; omega) hO hR _ _ hP hD hS ls (lv_sub hl [0, 1, 2, 3, 4, 5, 6] rfl)
      ·
        refine lv_iload hx hb dX15_fieldPlain_26 (lv_at hl 0 rfl) ?_
        refine lv_iload_n hx hb dX15_fieldPlain_28 rfl (lv_at hl 5 rfl) ?_
        refine lv_icmp_lt (tgt := 39) hx hb dX15_fieldPlain_29 (by decide) (fun c_298 => ?_) (fun c_298 => ?_)
        ·
          refine lv_aload_n hx hb dX15_fieldPlain_39 rfl (lv_at hl 2 rfl) ?_
          refine pg_get (ci := 15) (v := .ref pl) (C := RX15) (T := TX15) (N := 59) hx hb hts it_15 hown hK hP hL_h0 hF_286 rfl 34 (by decide) (hts _ kt_916) (fun _ h9 => h9) rfl dX15_fieldPlain_40 ?_
          refine lv_aload_n hx hb dX15_fieldPlain_43 rfl (lv_at hl 2 rfl) ?_
          refine pg_get (ci := 15) (v := .ref ml) (C := RX15) (T := TX15) (N := 59) hx hb hts it_15 hown hK hP hL_h0 hF_286 rfl 23 (by decide) (hts _ kt_902) (fun _ h9 => h9) rfl dX15_fieldPlain_44 ?_
          refine lv_iload hx hb dX15_fieldPlain_47 (lv_at hl 0 rfl) ?_
          obtain ⟨hq_299, hq_300⟩ := hW.octs hi_24 ht_25
          obtain ⟨f_301, hF_302, hq_303⟩ := hO.octs hi_24 ht_25
          refine pg_bald hx hb hK hP hi_24 1 hF_302 rfl (vp_in_nI (by omega) (by omega)) dX15_fieldPlain_49 ?_
          refine lv_topi (fun x_304 ex_304 => ?_)
          obtain rfl : x_304 = f_301 j := ex_304.trans (congrArg f_301 (show ((nI j) : Int32).toNatClampNeg = j from nI_clamp (by omega)))
          have hFc := pg_free hD hS hA
          refine va_callv (va_runV (As := [.int (f_301 j)]) (rest := []) ⟨hx, hb, hml, hown, hts⟩ (s_X14_add l dC dI cs ty gm L H.size F_281 pl (ρ + 10) rl 6000 zz (f_301 j) hW hL_pl hT_pl hr1 (by first | omega | assumption)) ⟨callB_of 1 hts (gi kt_711) rfl rfl rfl (hts _ kt_676) (hts _ kt_712) (by decide +kernel) ⟨Nat.le_of_ble_eq_true rfl, Nat.le_of_ble_eq_true rfl⟩, (hts _ kt_713), (hts _ kt_714)⟩ ⟨fun a U g mk q => ⟨q.1, PTm.calling q.2⟩, pg_recv hK hP hL_pl hr1 (q := (RX14, TX14, 2)) rfl, fun U hU hWm => ⟨rfl, PTm.mk hU hWm hP hK hD hE hO⟩⟩ rfl rfl hl.1 rfl (lv_room (Nat.le_of_ble_eq_true rfl)) dX15_fieldPlain_50 ⟨by show _ + 0 ≤ 0; omega, by show _ + 0 ≤ 0; omega⟩) hS (fun q _ h => hFc q h) hFc (fun u t H1 locs ht hvm hw hB hz1 hk1 hS => ?_)
          obtain ⟨F_306, hB1, hq_307⟩ := hB
          obtain ⟨hP, hD, hO, hR⟩ := QTm.back hB1 ht hFc hR (fun q h => by simp only [List.mem_cons, List.not_mem_nil, or_false] at h ⊢; omega)
          have hF_308 : F_306 h0 = .inr (15, (.ref ta) :: (.int (nI zt)) :: (.int (nI zo_106)) :: (.int (nI ze_107)) :: (.ref ou) :: (.ref so) :: (.ref ad) :: (.ref na) :: (.ref va) :: (.ref lc) :: (.ref dm) :: (.int v11_108) :: (.int v12_109) :: (.ref tg) :: (.int v14_110) :: (.int v15_111) :: (.ref pe) :: (.int v17_112) :: (.int v18_113) :: (.int v19_114) :: (.int v20_115) :: (.int v21_116) :: (.int v22_117) :: (.ref ml) :: (.ref bg) :: (.ref co) :: (.ref sp) :: (.ref nb0) :: (.ref nb1) :: (.ref nb2) :: (.int (nI nf)) :: (.int (nI bd)) :: (.int (nI mm)) :: (.int v33_118) :: (.ref pl) :: (.ref se) :: (.ref ke) :: (.ref wi) :: (.ref hs) :: (.ref mo) :: (.ref po) :: (.ref nu) :: (.ref pr) :: (.ref sq) :: (.ref xa) :: (.ref sa) :: (.ref n64) :: (.ref m64) :: (.ref ex) :: (.ref wh) :: (.ref sd) :: (.ref tk) :: (.int v52_119) :: (.int v53_120) :: (.int v54_121) :: (.ref hd) :: (.ref ak) :: (.ref ho) :: (.ref ot) :: []) := (hB1.2.2.2 h0 (by rw [hT_h0]; simp)).trans hF_286
          have hF_309 : F_306 bg = .inl (cs 16, 21, .inl f_277) := (hB1.2.2.2 bg (by rw [ht_27]; simp)).trans hF_287
          have hF_310 : F_306 ml = .inl (cs 17, 3000, .inl f_301) := (hB1.2.2.2 ml (by rw [ht_25]; simp)).trans hF_302
          generalize H1 = H at hP hS ⊢
          refine W.widen (k := 0) (n := 0) (by omega) (by omega) ?_
          exact jn_291 (zz + 1) F_306 (⟨by omega, hq_307⟩) hO hR _ _ hP hD hS ls (lv_sub hl [0, 1, 2, 3, 4, 5, 6] rfl)
        ·
          refine lv_iload hx hb dX15_fieldPlain_32 (lv_at hl 0 rfl) ?_
          refine lv_iload hx hb dX15_fieldPlain_34 (lv_at hl 6 rfl) ?_
          refine lv_icmp_lt (tgt := 53) hx hb dX15_fieldPlain_36 (by decide) (fun c_311 => ?_) (fun c_311 => ?_)
          ·
            refine W.widen (k := 0) (n := 0) (by omega) (by omega) ?_
            exact jn_291 zz F_281 (⟨by omega, hr1⟩) hO hR _ _ hP hD hS ls (lv_sub hl [0, 1, 2, 3, 4, 5, 6] rfl)
          ·
            refine lv_aload_n hx hb dX15_fieldPlain_39 rfl (lv_at hl 2 rfl) ?_
            refine pg_get (ci := 15) (v := .ref pl) (C := RX15) (T := TX15) (N := 59) hx hb hts it_15 hown hK hP hL_h0 hF_286 rfl 34 (by decide) (hts _ kt_916) (fun _ h9 => h9) rfl dX15_fieldPlain_40 ?_
            refine lv_aload_n hx hb dX15_fieldPlain_43 rfl (lv_at hl 2 rfl) ?_
            refine pg_get (ci := 15) (v := .ref ml) (C := RX15) (T := TX15) (N := 59) hx hb hts it_15 hown hK hP hL_h0 hF_286 rfl 23 (by decide) (hts _ kt_902) (fun _ h9 => h9) rfl dX15_fieldPlain_44 ?_
            refine lv_iload hx hb dX15_fieldPlain_47 (lv_at hl 0 rfl) ?_
            obtain ⟨hq_312, hq_313⟩ := hW.octs hi_24 ht_25
            obtain ⟨f_314, hF_315, hq_316⟩ := hO.octs hi_24 ht_25
            refine pg_bald hx hb hK hP hi_24 1 hF_315 rfl (vp_in_nI (by omega) (by omega)) dX15_fieldPlain_49 ?_
            refine lv_topi (fun x_317 ex_317 => ?_)
            obtain rfl : x_317 = f_314 j := ex_317.trans (congrArg f_314 (show ((nI j) : Int32).toNatClampNeg = j from nI_clamp (by omega)))
            have hFc := pg_free hD hS hA
            refine va_callv (va_runV (As := [.int (f_314 j)]) (rest := []) ⟨hx, hb, hml, hown, hts⟩ (s_X14_add l dC dI cs ty gm L H.size F_281 pl (ρ + 10) rl 6000 zz (f_314 j) hW hL_pl hT_pl hr1 (by first | omega | assumption)) ⟨callB_of 1 hts (gi kt_711) rfl rfl rfl (hts _ kt_676) (hts _ kt_712) (by decide +kernel) ⟨Nat.le_of_ble_eq_true rfl, Nat.le_of_ble_eq_true rfl⟩, (hts _ kt_713), (hts _ kt_714)⟩ ⟨fun a U g mk q => ⟨q.1, PTm.calling q.2⟩, pg_recv hK hP hL_pl hr1 (q := (RX14, TX14, 2)) rfl, fun U hU hWm => ⟨rfl, PTm.mk hU hWm hP hK hD hE hO⟩⟩ rfl rfl hl.1 rfl (lv_room (Nat.le_of_ble_eq_true rfl)) dX15_fieldPlain_50 ⟨by show _ + 0 ≤ 0; omega, by show _ + 0 ≤ 0; omega⟩) hS (fun q _ h => hFc q h) hFc (fun u t H1 locs ht hvm hw hB hz1 hk1 hS => ?_)
            obtain ⟨F_319, hB1, hq_320⟩ := hB
            obtain ⟨hP, hD, hO, hR⟩ := QTm.back hB1 ht hFc hR (fun q h => by simp only [List.mem_cons, List.not_mem_nil, or_false] at h ⊢; omega)
            have hF_321 : F_319 h0 = .inr (15, (.ref ta) :: (.int (nI zt)) :: (.int (nI zo_106)) :: (.int (nI ze_107)) :: (.ref ou) :: (.ref so) :: (.ref ad) :: (.ref na) :: (.ref va) :: (.ref lc) :: (.ref dm) :: (.int v11_108) :: (.int v12_109) :: (.ref tg) :: (.int v14_110) :: (.int v15_111) :: (.ref pe) :: (.int v17_112) :: (.int v18_113) :: (.int v19_114) :: (.int v20_115) :: (.int v21_116) :: (.int v22_117) :: (.ref ml) :: (.ref bg) :: (.ref co) :: (.ref sp) :: (.ref nb0) :: (.ref nb1) :: (.ref nb2) :: (.int (nI nf)) :: (.int (nI bd)) :: (.int (nI mm)) :: (.int v33_118) :: (.ref pl) :: (.ref se) :: (.ref ke) :: (.ref wi) :: (.ref hs) :: (.ref mo) :: (.ref po) :: (.ref nu) :: (.ref pr) :: (.ref sq) :: (.ref xa) :: (.ref sa) :: (.ref n64) :: (.ref m64) :: (.ref ex) :: (.ref wh) :: (.ref sd) :: (.ref tk) :: (.int v52_119) :: (.int v53_120) :: (.int v54_121) :: (.ref hd) :: (.ref ak) :: (.ref ho) :: (.ref ot) :: []) := (hB1.2.2.2 h0 (by rw [hT_h0]; simp)).trans hF_286
            have hF_322 : F_319 bg = .inl (cs 16, 21, .inl f_277) := (hB1.2.2.2 bg (by rw [ht_27]; simp)).trans hF_287
            have hF_323 : F_319 ml = .inl (cs 17, 3000, .inl f_314) := (hB1.2.2.2 ml (by rw [ht_25]; simp)).trans hF_315
            generalize H1 = H at hP hS ⊢
            refine W.widen (k := 0) (n := 0) (by omega) (by omega) ?_
            exact jn_291 (zz + 1) F_319 (⟨by omega, hq_320⟩) hO hR _ _ hP hD hS ls (lv_sub hl [0, 1, 2, 3, 4, 5, 6] rfl)
set_option maxHeartbeats 4000000 in
set_option maxRecDepth 100000 in
theorem s_X15_bodyPlain (l : Launch) (dC : Nat → ClassId) (dI : Nat → Nat → Nat) (cs : Nat → ClassId) (ty : TyM) (gm : Nat → Nat → Nat) (L : List Nat) (sz : Nat) (F : Nat → va_E) (h0 : Nat) (ρ : Nat) (ta : Nat) (ou : Nat) (so : Nat) (ad : Nat) (na : Nat) (va : Nat) (lc : Nat) (dm : Nat) (tg : Nat) (pe : Nat) (ml : Nat) (bg : Nat) (co : Nat) (sp : Nat) (nb0 : Nat) (nb1 : Nat) (nb2 : Nat) (pl : Nat) (se : Nat) (ke : Nat) (wi : Nat) (hs : Nat) (mo : Nat) (po : Nat) (nu : Nat) (pr : Nat) (sq : Nat) (xa : Nat) (sa : Nat) (n64 : Nat) (m64 : Nat) (ex : Nat) (wh : Nat) (sd : Nat) (tk : Nat) (hd : Nat) (ak : Nat) (ho : Nat) (ot : Nat) (sx : Nat) (s0 : Nat) (s1 : Nat) (s2 : Nat) (nf : Nat) (bd : Nat) (mm : Nat) (zt : Nat) (rl : Nat) (x1 : Int32) (hW : WTm ty gm L) (hL_h0 : h0 ∈ L) (hT_h0 : ty h0 = (15, ρ, [ta, ou, so, ad, na, va, lc, dm, tg, pe, ml, bg, co, sp, nb0, nb1, nb2, pl, se, ke, wi, hs, mo, po, nu, pr, sq, xa, sa, n64, m64, ex, wh, sd, tk, hd, ak, ho, ot, sx, s0, s1, s2, nf, bd, mm, zt])) (hL_pl : pl ∈ L) (hT_pl : ty pl = (14, ρ + 10, [rl, 6000])) (hbd : 1 ≤ bd) : Met l yX15_bodyPlain (.code yX15_bodyPlain cX15_bodyPlain 9 none :: tb) ({ frames := 2, cells := 0, slots := 0, locals := 44 }) (va_Pc [.ref h0, .int x1] (PTm (dC, dI) cs ty gm L F sz)) (va_Qv (fun _ : Unit => True) (fun _ T9 => ∃ F2 : Nat → va_E, QTm (dC, dI) cs ty gm L [ρ + 10] F F2 (va_A (va_pl L F) sz) T9) (va_A (va_pl L F) sz)) 0 0 (va_A (va_pl L F) sz) := by
  refine Met.ofW (cc := cX15_bodyPlain) (maxL := 9) (ret := none) (by decide) rfl ?_
  intro p e s m args below meth c s₁ B hml hv
  obtain ⟨rfl, hsz, hP, hK, hD0, hE, hO⟩ := hv
  have hx := B.exec
  have hb := B.bytes
  have hr := B.returns
  have hts : ∀ w ∈ tb, w.before _ s = true := fun w h => atoms_spec (ws := .code yX15_bodyPlain cX15_bodyPlain 9 none :: tb) B.pre w (List.mem_cons_of_mem _ h)
  have hown : s.vm.findClass RX15 = some m.cls := findClass_of_methodNamed B.named
  have hlocks := B.notSynchronized
  subst hsz
  have hD := hD0.self (sz := s.heap.size)
  generalize hAe : va_A (va_pl L F) s.heap.size = A at hD ⊢
  have hA : ∀ q : Nat, s.heap.size ≤ q → A q := fun q h => by rw [← hAe]; exact Or.inr h
  have hS : va_S A s.heap s.heap [] := va_S.rf
  have hR : FR ty [ρ + 10] F F := FR.refl
  have hl := lv_entry ([.ref h0, .int x1]) (n := 9) (Nat.le_of_ble_eq_true rfl)
  rw [lg_entry_eq]
  generalize (lg_sl ([.ref h0, .int x1]) ++ List.replicate (9 - (lg_sl ([.ref h0, .int x1])).length) Slot.unset).toArray = ls at hl ⊢
  have hl : lv_has ls 9 [(0, .ref h0), (1, .int x1)] := hl
  obtain ⟨hi_1, ht_2, hi_3, ht_4, hi_5, ht_6, hi_7, ht_8, hi_9, ht_10, hi_11, ht_12, hi_13, ⟨r_14, ht_15⟩, hi_16, ⟨r_17, ht_18⟩, hi_19, ht_20, hi_21, ⟨r_22, ht_23⟩, hi_24, ht_25, hi_26, ht_27, hi_28, ht_29, hi_30, ht_31, hi_32, ht_33, hi_34, ht_35, hi_36, ht_37, _, _, hi_38, ht_39, hi_40, ⟨x_41, y0_42, y1_43, y2_44, ht_45⟩, hi_46, ⟨x_47, y0_48, y1_49, y2_50, ht_51⟩, hi_52, ⟨x_53, y_54, w_55, u_56, bl_57, ht_58⟩, hi_59, ht_60, hi_61, ht_62, hi_63, ht_64, hi_65, ht_66, hi_67, ht_68, hi_69, ht_70, hi_71, ht_72, hi_73, ht_74, hi_75, ht_76, hi_77, ht_78, hi_79, ⟨r_80, ht_81⟩, hi_82, ⟨r_83, ht_84⟩, hi_85, ht_86, hi_87, ht_88, hi_89, ⟨r_90, ht_91⟩, hi_92, ⟨r_93, ht_94⟩, hi_95, ⟨r_96, ht_97⟩, hq_98, hq_99, hq_100, hq_101, hq_102, hgO, hgA, hgB⟩ := hW.mod hL_h0 hT_h0
  obtain ⟨hi_103, ht_104, hq_105⟩ := hW.txt hL_pl hT_pl
  refine lv_aload_n hx hb dX15_bodyPlain_0 rfl (lv_at hl 0 rfl) ?_
  obtain ⟨zo_106, ze_107, v11_108, v12_109, v14_110, v15_111, v17_112, v18_113, v19_114, v20_115, v21_116, v22_117, v33_118, v52_119, v53_120, v54_121, hF_122, hq_123, hq_124, hq_125, hq_126⟩ := hO.mod hL_h0 hT_h0
  refine pg_get (ci := 15) (v := .ref pl) (C := RX15) (T := TX15) (N := 59) hx hb hts it_15 hown hK hP hL_h0 hF_122 rfl 34 (by decide) (hts _ kt_916) (fun _ h9 => h9) rfl dX15_bodyPlain_1 ?_
  refine lv_iconst (v := 0) hx hb dX15_bodyPlain_4 (by decide) ?_
  obtain ⟨z_127, hF_128, hq_129⟩ := hO.txt hL_pl hT_pl
  refine pg_put (ci := 14) (v := .int 0) (ty := .int) (C := RX14) (T := TX14) (N := 2) hx hb hts it_14 tyX14 tyX14_ok nmX14 hown hK hP hD hS hL_pl hF_128 rfl 1 (by decide) (hts _ kt_709) (fun _ h9 => h9) rfl (by decide +kernel) (rfl) (rfl) (Nat.le_of_ble_eq_true rfl) dX15_bodyPlain_5 (fun H locs hP hD hS => ?_)
  obtain ⟨F_130, he_131, hP, hD, hO, hR⟩ : ∃ G, G = va_up F pl (.inr (14, [.ref rl, .int 0])) ∧ va_P (dC, dI) vwCl (va_pl L G) H ∧ va_D A (va_pl L G) ∧ OKm cs ty gm L G ∧ FR ty [ρ + 10] F G := ⟨_, rfl, hP, hD, hO.up (shm.txt hT_pl ⟨0, rfl, (by first | omega | assumption | exact Or.inl rfl | exact Or.inr rfl)⟩), hR.up hT_pl (by simp)⟩
  have hF_132 : F_130 pl = .inr (14, [.ref rl, .int 0]) := by rw [he_131]; exact up_self
  have hF_133 : F_130 h0 = .inr (15, (.ref ta) :: (.int (nI zt)) :: (.int (nI zo_106)) :: (.int (nI ze_107)) :: (.ref ou) :: (.ref so) :: (.ref ad) :: (.ref na) :: (.ref va) :: (.ref lc) :: (.ref dm) :: (.int v11_108) :: (.int v12_109) :: (.ref tg) :: (.int v14_110) :: (.int v15_111) :: (.ref pe) :: (.int v17_112) :: (.int v18_113) :: (.int v19_114) :: (.int v20_115) :: (.int v21_116) :: (.int v22_117) :: (.ref ml) :: (.ref bg) :: (.ref co) :: (.ref sp) :: (.ref nb0) :: (.ref nb1) :: (.ref nb2) :: (.int (nI nf)) :: (.int (nI bd)) :: (.int (nI mm)) :: (.int v33_118) :: (.ref pl) :: (.ref se) :: (.ref ke) :: (.ref wi) :: (.ref hs) :: (.ref mo) :: (.ref po) :: (.ref nu) :: (.ref pr) :: (.ref sq) :: (.ref xa) :: (.ref sa) :: (.ref n64) :: (.ref m64) :: (.ref ex) :: (.ref wh) :: (.ref sd) :: (.ref tk) :: (.int v52_119) :: (.int v53_120) :: (.int v54_121) :: (.ref hd) :: (.ref ak) :: (.ref ho) :: (.ref ot) :: []) := by rw [he_131, up_ne (ne_ty hT_h0 hT_pl (by simp))]; exact hF_122
  refine lv_iconst (v := 0) hx hb dX15_bodyPlain_8 (by decide) ?_
  refine lv_istore_n (lv' := [(2, .int 0), (0, .ref h0), (1, .int x1)]) hx hb dX15_bodyPlain_9 rfl hl (by decide) rfl (fun ls hl => ?_)
  refine lv_aload_n hx hb dX15_bodyPlain_10 rfl (lv_at hl 1 rfl) ?_
  refine pg_get (ci := 15) (v := .int (nI bd)) (C := RX15) (T := TX15) (N := 59) hx hb hts it_15 hown hK hP hL_h0 hF_133 rfl 31 (by decide) (hts _ kt_917) (fun _ h9 => h9) rfl dX15_bodyPlain_11 ?_
  refine lv_istore_n (lv' := [(3, .int (nI bd)), (2, .int 0), (0, .ref h0), (1, .int x1)]) hx hb dX15_bodyPlain_14 rfl hl (by decide) rfl (fun ls hl => ?_)
  refine W.widen (k := 0) (n := 0) (by omega) (by omega) ?_
  have hF_135 : F h0 = .inr (15, (.ref ta) :: (.int (nI zt)) :: (.int (nI zo_106)) :: (.int (nI ze_107)) :: (.ref ou) :: (.ref so) :: (.ref ad) :: (.ref na) :: (.ref va) :: (.ref lc) :: (.ref dm) :: (.int v11_108) :: (.int v12_109) :: (.ref tg) :: (.int v14_110) :: (.int v15_111) :: (.ref pe) :: (.int v17_112) :: (.int v18_113) :: (.int v19_114) :: (.int v20_115) :: (.int v21_116) :: (.int v22_117) :: (.ref ml) :: (.ref bg) :: (.ref co) :: (.ref sp) :: (.ref nb0) :: (.ref nb1) :: (.ref nb2) :: (.int (nI nf)) :: (.int (nI bd)) :: (.int (nI mm)) :: (.int v33_118) :: (.ref pl) :: (.ref se) :: (.ref ke) :: (.ref wi) :: (.ref hs) :: (.ref mo) :: (.ref po) :: (.ref nu) :: (.ref pr) :: (.ref sq) :: (.ref xa) :: (.ref sa) :: (.ref n64) :: (.ref m64) :: (.ref ex) :: (.ref wh) :: (.ref sd) :: (.ref tk) :: (.int v52_119) :: (.int v53_120) :: (.int v54_121) :: (.ref hd) :: (.ref ak) :: (.ref ho) :: (.ref ot) :: []) := (hR h0 (by rw [hT_h0]; simp)).symm.trans hF_133
  refine pl_loopm (σ := Nat × Nat × Nat) A (dC, dI) cs ty gm L [ρ + 10] F 15 9 (fun (j, w2, zz) => [(3, .int (nI j)), (2, .int (nI w2)), (0, .ref h0), (1, .int x1)]) (fun (j, w2, zz) => []) (fun (j, w2, zz) FF => (bd ≤ j ∧ j ≤ mm) ∧ zz ≤ 2 * (j - bd) ∧ w2 ≤ 2 * (j - bd) ∧ FF pl = .inr (14, [.ref rl, .int (nI zz)])) (fun (j, w2, zz) => mm - j) ?_ (bd, 0, 0) F_130 (⟨⟨by omega, by omega⟩, by omega, by omega, hF_132⟩) hO hR _ _ hP hD hS ls (lv_sub hl [0, 1, 2, 3] rfl)
  rintro ⟨j, w2, zz⟩ F_134 hv_136 hO hR ih_137 H locs hP hD hS ls hl
  have hl : lv_has ls 9 [(3, .int (nI j)), (2, .int (nI w2)), (0, .ref h0), (1, .int x1)] := hl
  have hv_136 : (bd ≤ j ∧ j ≤ mm) ∧ zz ≤ 2 * (j - bd) ∧ w2 ≤ 2 * (j - bd) ∧ F_134 pl = .inr (14, [.ref rl, .int (nI zz)]) := hv_136
  refine W.eq (g2 := F0 m 15 ls []) rfl ?_
  have hF_138 : F_134 h0 = .inr (15, (.ref ta) :: (.int (nI zt)) :: (.int (nI zo_106)) :: (.int (nI ze_107)) :: (.ref ou) :: (.ref so) :: (.ref ad) :: (.ref na) :: (.ref va) :: (.ref lc) :: (.ref dm) :: (.int v11_108) :: (.int v12_109) :: (.ref tg) :: (.int v14_110) :: (.int v15_111) :: (.ref pe) :: (.int v17_112) :: (.int v18_113) :: (.int v19_114) :: (.int v20_115) :: (.int v21_116) :: (.int v22_117) :: (.ref ml) :: (.ref bg) :: (.ref co) :: (.ref sp) :: (.ref nb0) :: (.ref nb1) :: (.ref nb2) :: (.int (nI nf)) :: (.int (nI bd)) :: (.int (nI mm)) :: (.int v33_118) :: (.ref pl) :: (.ref se) :: (.ref ke) :: (.ref wi) :: (.ref hs) :: (.ref mo) :: (.ref po) :: (.ref nu) :: (.ref pr) :: (.ref sq) :: (.ref xa) :: (.ref sa) :: (.ref n64) :: (.ref m64) :: (.ref ex) :: (.ref wh) :: (.ref sd) :: (.ref tk) :: (.int v52_119) :: (.int v53_120) :: (.int v54_121) :: (.ref hd) :: (.ref ak) :: (.ref ho) :: (.ref ot) :: []) := (hR h0 (by rw [hT_h0]; simp)).trans hF_135
  obtain ⟨ha1, ha2, ha3, ha4⟩ := hv_136
  refine lv_iload_n hx hb dX15_bodyPlain_15 rfl (lv_at hl 0 rfl) ?_
  refine lv_aload_n hx hb dX15_bodyPlain_16 rfl (lv_at hl 2 rfl) ?_
  refine pg_get (ci := 15) (v := .int (nI mm)) (C := RX15) (T := TX15) (N := 59) hx hb hts it_15 hown hK hP hL_h0 hF_138 rfl 32 (by decide) (hts _ kt_918) (fun _ h9 => h9) rfl dX15_bodyPlain_17 ?_
  refine lv_icmp_ge (tgt := 218) hx hb dX15_bodyPlain_20 (by decide) (fun c_139 => ?_) (fun c_139 => ?_)
  ·
    have hi_140 : mm ≤ j := leN (N := mm) c_139
    refine lv_aload_n hx hb dX15_bodyPlain_218 rfl (lv_at hl 2 rfl) ?_
    refine pg_get (ci := 15) (v := .ref pl) (C := RX15) (T := TX15) (N := 59) hx hb hts it_15 hown hK hP hL_h0 hF_138 rfl 34 (by decide) (hts _ kt_916) (fun _ h9 => h9) rfl dX15_bodyPlain_219 ?_
    refine lv_iload_n hx hb dX15_bodyPlain_222 rfl (lv_at hl 1 rfl) ?_
    refine pg_put (ci := 14) (v := .int (nI w2)) (ty := .int) (C := RX14) (T := TX14) (N := 2) hx hb hts it_14 tyX14 tyX14_ok nmX14 hown hK hP hD hS hL_pl ha4 rfl 1 (by decide) (hts _ kt_709) (fun _ h9 => h9) rfl (by decide +kernel) (rfl) (rfl) (Nat.le_of_ble_eq_true rfl) dX15_bodyPlain_223 (fun H locs hP hD hS => ?_)
    obtain ⟨F_141, he_142, hP, hD, hO, hR⟩ : ∃ G, G = va_up F_134 pl (.inr (14, [.ref rl, .int (nI w2)])) ∧ va_P (dC, dI) vwCl (va_pl L G) H ∧ va_D A (va_pl L G) ∧ OKm cs ty gm L G ∧ FR ty [ρ + 10] F G := ⟨_, rfl, hP, hD, hO.up (shm.txt hT_pl ⟨w2, rfl, (by first | omega | assumption | exact Or.inl rfl | exact Or.inr rfl)⟩), hR.up hT_pl (by simp)⟩
    have hF_143 : F_141 pl = .inr (14, [.ref rl, .int (nI w2)]) := by rw [he_142]; exact up_self
    have hF_144 : F_141 h0 = .inr (15, (.ref ta) :: (.int (nI zt)) :: (.int (nI zo_106)) :: (.int (nI ze_107)) :: (.ref ou) :: (.ref so) :: (.ref ad) :: (.ref na) :: (.ref va) :: (.ref lc) :: (.ref dm) :: (.int v11_108) :: (.int v12_109) :: (.ref tg) :: (.int v14_110) :: (.int v15_111) :: (.ref pe) :: (.int v17_112) :: (.int v18_113) :: (.int v19_114) :: (.int v20_115) :: (.int v21_116) :: (.int v22_117) :: (.ref ml) :: (.ref bg) :: (.ref co) :: (.ref sp) :: (.ref nb0) :: (.ref nb1) :: (.ref nb2) :: (.int (nI nf)) :: (.int (nI bd)) :: (.int (nI mm)) :: (.int v33_118) :: (.ref pl) :: (.ref se) :: (.ref ke) :: (.ref wi) :: (.ref hs) :: (.ref mo) :: (.ref po) :: (.ref nu) :: (.ref pr) :: (.ref sq) :: (.ref xa) :: (.ref sa) :: (.ref n64) :: (.ref m64) :: (.ref ex) :: (.ref wh) :: (.ref sd) :: (.ref tk) :: (.int v52_119) :: (.int v53_120) :: (.int v54_121) :: (.ref hd) :: (.ref ak) :: (.ref ho) :: (.ref ot) :: []) := by rw [he_142, up_ne (ne_ty hT_h0 hT_pl (by simp))]; exact hF_138
    refine lv_iload_n hx hb dX15_bodyPlain_226 rfl (lv_at hl 1 rfl) ?_
    refine lv_if_ne (tgt := 243) hx hb dX15_bodyPlain_227 (by decide) (fun c_145 => ?_) (fun c_145 => ?_)
    ·
      have hi_146 : w2 ≠ 0 := fun q => c_145 (by rw [q]; rfl)
      refine W.widen (k := 0) (n := 0) (by omega) (by omega) ?_
      exact W.vret hx hb hr (fun t ht hWm => ⟨⟨(), rfl, trivial, ⟨F_141, QTm.mk ht hP hD hO hR⟩⟩, hS.F ht⟩) hS.2.2 dX15_bodyPlain_243
    ·
      have hi_147 : w2 = 0 := (nI_eq (a := w2) (b := 0) (by omega) (by omega)).mp c_145
      refine lv_iload_n hx hb dX15_bodyPlain_230 rfl (lv_at hl 3 rfl) ?_
      refine lv_if_ne (tgt := 243) hx hb dX15_bodyPlain_231 (by decide) (fun c_148 => ?_) (fun c_148 => ?_)
      ·
        refine W.widen (k := 0) (n := 0) (by omega) (by omega) ?_
        exact W.vret hx hb hr (fun t ht hWm => ⟨⟨(), rfl, trivial, ⟨F_141, QTm.mk ht hP hD hO hR⟩⟩, hS.F ht⟩) hS.2.2 dX15_bodyPlain_243
      ·
        refine lv_aload_n hx hb dX15_bodyPlain_234 rfl (lv_at hl 2 rfl) ?_
        refine pg_get (ci := 15) (v := .ref pl) (C := RX15) (T := TX15) (N := 59) hx hb hts it_15 hown hK hP hL_h0 hF_144 rfl 34 (by decide) (hts _ kt_916) (fun _ h9 => h9) rfl dX15_bodyPlain_235 ?_
        refine lv_bipush (v := 10) hx hb dX15_bodyPlain_238 (by decide) ?_
        have hFc := pg_free hD hS hA
        refine va_callv (va_runV (As := [.int 10]) (rest := []) ⟨hx, hb, hml, hown, hts⟩ (s_X14_add l dC dI cs ty gm L H.size F_141 pl (ρ + 10) rl 6000 w2 10 hW hL_pl hT_pl hF_143 (by first | omega | assumption)) ⟨callB_of 1 hts (gi kt_711) rfl rfl rfl (hts _ kt_676) (hts _ kt_712) (by decide +kernel) ⟨Nat.le_of_ble_eq_true rfl, Nat.le_of_ble_eq_true rfl⟩, (hts _ kt_713), (hts _ kt_714)⟩ ⟨fun a U g mk q => ⟨q.1, PTm.calling q.2⟩, pg_recv hK hP hL_pl hF_143 (q := (RX14, TX14, 2)) rfl, fun U hU hWm => ⟨rfl, PTm.mk hU hWm hP hK hD hE hO⟩⟩ rfl rfl hl.1 rfl (lv_room (Nat.le_of_ble_eq_true rfl)) dX15_bodyPlain_240 ⟨by show _ + 0 ≤ 0; omega, by show _ + 0 ≤ 0; omega⟩) hS (fun q _ h => hFc q h) hFc (fun u t H1 locs ht hvm hw hB hz1 hk1 hS => ?_)
        obtain ⟨F_150, hB1, hq_151⟩ := hB
        obtain ⟨hP, hD, hO, hR⟩ := QTm.back hB1 ht hFc hR (fun q h => by simp only [List.mem_cons, List.not_mem_nil, or_false] at h ⊢; omega)
        have hF_152 : F_150 h0 = .inr (15, (.ref ta) :: (.int (nI zt)) :: (.int (nI zo_106)) :: (.int (nI ze_107)) :: (.ref ou) :: (.ref so) :: (.ref ad) :: (.ref na) :: (.ref va) :: (.ref lc) :: (.ref dm) :: (.int v11_108) :: (.int v12_109) :: (.ref tg) :: (.int v14_110) :: (.int v15_111) :: (.ref pe) :: (.int v17_112) :: (.int v18_113) :: (.int v19_114) :: (.int v20_115) :: (.int v21_116) :: (.int v22_117) :: (.ref ml) :: (.ref bg) :: (.ref co) :: (.ref sp) :: (.ref nb0) :: (.ref nb1) :: (.ref nb2) :: (.int (nI nf)) :: (.int (nI bd)) :: (.int (nI mm)) :: (.int v33_118) :: (.ref pl) :: (.ref se) :: (.ref ke) :: (.ref wi) :: (.ref hs) :: (.ref mo) :: (.ref po) :: (.ref nu) :: (.ref pr) :: (.ref sq) :: (.ref xa) :: (.ref sa) :: (.ref n64) :: (.ref m64) :: (.ref ex) :: (.ref wh) :: (.ref sd) :: (.ref tk) :: (.int v52_119) :: (.int v53_120) :: (.int v54_121) :: (.ref hd) :: (.ref ak) :: (.ref ho) :: (.ref ot) :: []) := (hB1.2.2.2 h0 (by rw [hT_h0]; simp)).trans hF_144
        generalize H1 = H at hP hS ⊢
        refine W.widen (k := 0) (n := 0) (by omega) (by omega) ?_
        exact W.vret hx hb hr (fun t ht hWm => ⟨⟨(), rfl, trivial, ⟨F_150, QTm.mk ht hP hD hO hR⟩⟩, hS.F ht⟩) hS.2.2 dX15_bodyPlain_243
  ·
    have hi_153 : j < mm := ltN (N := mm) c_139
    refine lv_aload_n hx hb dX15_bodyPlain_23 rfl (lv_at hl 2 rfl) ?_
    refine pg_get (ci := 15) (v := .ref ml) (C := RX15) (T := TX15) (N := 59) hx hb hts it_15 hown hK hP hL_h0 hF_138 rfl 23 (by decide) (hts _ kt_902) (fun _ h9 => h9) rfl dX15_bodyPlain_24 ?_
    refine lv_iload_n hx hb dX15_bodyPlain_27 rfl (lv_at hl 0 rfl) ?_
    refine lv_aload_n hx hb dX15_bodyPlain_28 rfl (lv_at hl 2 rfl) ?_
    refine pg_get (ci := 15) (v := .int (nI mm)) (C := RX15) (T := TX15) (N := 59) hx hb hts it_15 hown hK hP hL_h0 hF_138 rfl 32 (by decide) (hts _ kt_918) (fun _ h9 => h9) rfl dX15_bodyPlain_29 ?_
    obtain ⟨hq_154, hq_155⟩ := hW.octs hi_24 ht_25
    have hFc := pg_free hD hS hA
    refine va_calli (va_runS (As := [.ref ml, .int (nI j), .int (nI mm)]) (rest := []) ⟨hx, hb, hml, hown, hts⟩ (s_X15_lineEnd l dC dI cs ty gm L H.size F_134 ml (ρ + 8) 3000 j mm hW hi_24 ht_25 (by first | omega | assumption) (by first | omega | assumption)) ⟨callB_of 3 hts (gi kt_919) rfl rfl rfl (hts _ kt_669) (hts _ kt_920) (by decide +kernel) ⟨Nat.le_of_ble_eq_true rfl, Nat.le_of_ble_eq_true rfl⟩, (hts _ kt_921)⟩ ⟨fun a U g mk q => ⟨q.1, PTm.calling q.2⟩, fun U hU hWm => ⟨rfl, PTm.mk hU hWm hP hK hD hE hO⟩⟩ rfl rfl hl.1 rfl (lv_room (Nat.le_of_ble_eq_true rfl)) dX15_bodyPlain_32 ⟨by show _ + 0 ≤ 0; omega, by show _ + 0 ≤ 0; omega⟩) hS (fun q _ h => hFc q h) hFc (fun r_156 u t H1 locs ht hvm hw hB hz1 hk1 hS => ?_)
    obtain ⟨F_157, hB1⟩ := hB
    obtain rfl : F_134 = F_157 := (funext (fun a => hB1.2.2.2 a List.not_mem_nil)).symm
    obtain ⟨hP, hD, hO, hR⟩ := QTm.back hB1 ht hFc hR (fun q h => absurd h List.not_mem_nil)
    generalize H1 = H at hP hS ⊢
    have hw : (∃ k : Nat, j < k ∧ k ≤ mm ∧ r_156 = nI k) := hw
    have hw_158 := hw
    obtain ⟨kend, hke1, hke2, eke⟩ := hw_158
    subst eke
    refine lv_istore (lv' := [(4, .int (nI kend)), (3, .int (nI j)), (2, .int (nI w2)), (0, .ref h0), (1, .int x1)]) hx hb dX15_bodyPlain_35 hl (by decide) rfl (fun ls hl => ?_)
    have hF_161 : F h0 = .inr (15, (.ref ta) :: (.int (nI zt)) :: (.int (nI zo_106)) :: (.int (nI ze_107)) :: (.ref ou) :: (.ref so) :: (.ref ad) :: (.ref na) :: (.ref va) :: (.ref lc) :: (.ref dm) :: (.int v11_108) :: (.int v12_109) :: (.ref tg) :: (.int v14_110) :: (.int v15_111) :: (.ref pe) :: (.int v17_112) :: (.int v18_113) :: (.int v19_114) :: (.int v20_115) :: (.int v21_116) :: (.int v22_117) :: (.ref ml) :: (.ref bg) :: (.ref co) :: (.ref sp) :: (.ref nb0) :: (.ref nb1) :: (.ref nb2) :: (.int (nI nf)) :: (.int (nI bd)) :: (.int (nI mm)) :: (.int v33_118) :: (.ref pl) :: (.ref se) :: (.ref ke) :: (.ref wi) :: (.ref hs) :: (.ref mo) :: (.ref po) :: (.ref nu) :: (.ref pr) :: (.ref sq) :: (.ref xa) :: (.ref sa) :: (.ref n64) :: (.ref m64) :: (.ref ex) :: (.ref wh) :: (.ref sd) :: (.ref tk) :: (.int v52_119) :: (.int v53_120) :: (.int v54_121) :: (.ref hd) :: (.ref ak) :: (.ref ho) :: (.ref ot) :: []) := (hR h0 (by rw [hT_h0]; simp)).symm.trans hF_138
    refine W.widen (k := 0) (n := 0) (by omega) (by omega) ?_
    refine pl_cutm (σ := Int32) A (dC, dI) cs ty gm L [ρ + 10] F 60 9 (fun s5 => [(4, .int (nI kend)), (3, .int (nI j)), (2, .int (nI w2)), (0, .ref h0), (1, .int x1)]) (fun s5 => [.int s5]) (fun s5 FF => (∃ k : Nat, j ≤ k ∧ k ≤ kend ∧ s5 = nI k) ∧ FF pl = .inr (14, [.ref rl, .int (nI zz)])) ?_ (fun jn_159 => ?_)
    ·
      rintro s5 F_160 hv_162 hO hR H locs hP hD hS ls hl
      have hl : lv_has ls 9 [(4, .int (nI kend)), (3, .int (nI j)), (2, .int (nI w2)), (0, .ref h0), (1, .int x1)] := hl
      have hv_162 : (∃ k : Nat, j ≤ k ∧ k ≤ kend ∧ s5 = nI k) ∧ F_160 pl = .inr (14, [.ref rl, .int (nI zz)]) := hv_162
      refine W.eq (g2 := F0 m 60 ls [.int s5]) rfl ?_
      have hF_163 : F_160 h0 = .inr (15, (.ref ta) :: (.int (nI zt)) :: (.int (nI zo_106)) :: (.int (nI ze_107)) :: (.ref ou) :: (.ref so) :: (.ref ad) :: (.ref na) :: (.ref va) :: (.ref lc) :: (.ref dm) :: (.int v11_108) :: (.int v12_109) :: (.ref tg) :: (.int v14_110) :: (.int v15_111) :: (.ref pe) :: (.int v17_112) :: (.int v18_113) :: (.int v19_114) :: (.int v20_115) :: (.int v21_116) :: (.int v22_117) :: (.ref ml) :: (.ref bg) :: (.ref co) :: (.ref sp) :: (.ref nb0) :: (.ref nb1) :: (.ref nb2) :: (.int (nI nf)) :: (.int (nI bd)) :: (.int (nI mm)) :: (.int v33_118) :: (.ref pl) :: (.ref se) :: (.ref ke) :: (.ref wi) :: (.ref hs) :: (.ref mo) :: (.ref po) :: (.ref nu) :: (.ref pr) :: (.ref sq) :: (.ref xa) :: (.ref sa) :: (.ref n64) :: (.ref m64) :: (.ref ex) :: (.ref wh) :: (.ref sd) :: (.ref tk) :: (.int v52_119) :: (.int v53_120) :: (.int v54_121) :: (.ref hd) :: (.ref ak) :: (.ref ho) :: (.ref ot) :: []) := (hR h0 (by rw [hT_h0]; simp)).trans hF_161
      obtain ⟨⟨ks, hks1, hks2, eks⟩, hks3⟩ := hv_162
      subst eks
      refine W.eq (g2 := F0 m 60 ls [.int (nI ks)]) rfl ?_
      refine lv_istore (lv' := [(5, .int (nI ks)), (4, .int (nI kend)), (3, .int (nI j)), (2, .int (nI w2)), (0, .ref h0), (1, .int x1)]) hx hb dX15_bodyPlain_60 hl (by decide) rfl (fun ls hl => ?_)
      have hF_166 : F h0 = .inr (15, (.ref ta) :: (.int (nI zt)) :: (.int (nI zo_106)) :: (.int (nI ze_107)) :: (.ref ou) :: (.ref so) :: (.ref ad) :: (.ref na) :: (.ref va) :: (.ref lc) :: (.ref dm) :: (.int v11_108) :: (.int v12_109) :: (.ref tg) :: (.int v14_110) :: (.int v15_111) :: (.ref pe) :: (.int v17_112) :: (.int v18_113) :: (.int v19_114) :: (.int v20_115) :: (.int v21_116) :: (.int v22_117) :: (.ref ml) :: (.ref bg) :: (.ref co) :: (.ref sp) :: (.ref nb0) :: (.ref nb1) :: (.ref nb2) :: (.int (nI nf)) :: (.int (nI bd)) :: (.int (nI mm)) :: (.int v33_118) :: (.ref pl) :: (.ref se) :: (.ref ke) :: (.ref wi) :: (.ref hs) :: (.ref mo) :: (.ref po) :: (.ref nu) :: (.ref pr) :: (.ref sq) :: (.ref xa) :: (.ref sa) :: (.ref n64) :: (.ref m64) :: (.ref ex) :: (.ref wh) :: (.ref sd) :: (.ref tk) :: (.int v52_119) :: (.int v53_120) :: (.int v54_121) :: (.ref hd) :: (.ref ak) :: (.ref ho) :: (.ref ot) :: []) := (hR h0 (by rw [hT_h0]; simp)).symm.trans hF_163
      refine W.widen (k := 0) (n := 0) (by omega) (by omega) ?_
      refine pl_cutm (σ := Int32) A (dC, dI) cs ty gm L [ρ + 10] F 93 9 (fun s6 => [(5, .int s6), (4, .int (nI kend)), (3, .int (nI j)), (2, .int (nI w2)), (0, .ref h0), (1, .int x1)]) (fun s6 => []) (fun s6 FF => (∃ k : Nat, j ≤ k ∧ k ≤ kend ∧ s6 = nI k) ∧ FF pl = .inr (14, [.ref rl, .int (nI zz)])) ?_ (fun jn_164 => ?_)
      ·
        rintro s6 F_165 hv_167 hO hR H locs hP hD hS ls hl
        have hl : lv_has ls 9 [(5, .int s6), (4, .int (nI kend)), (3, .int (nI j)), (2, .int (nI w2)), (0, .ref h0), (1, .int x1)] := hl
        have hv_167 : (∃ k : Nat, j ≤ k ∧ k ≤ kend ∧ s6 = nI k) ∧ F_165 pl = .inr (14, [.ref rl, .int (nI zz)]) := hv_167
        refine W.eq (g2 := F0 m 93 ls []) rfl ?_
        have hF_168 : F_165 h0 = .inr (15, (.ref ta) :: (.int (nI zt)) :: (.int (nI zo_106)) :: (.int (nI ze_107)) :: (.ref ou) :: (.ref so) :: (.ref ad) :: (.ref na) :: (.ref va) :: (.ref lc) :: (.ref dm) :: (.int v11_108) :: (.int v12_109) :: (.ref tg) :: (.int v14_110) :: (.int v15_111) :: (.ref pe) :: (.int v17_112) :: (.int v18_113) :: (.int v19_114) :: (.int v20_115) :: (.int v21_116) :: (.int v22_117) :: (.ref ml) :: (.ref bg) :: (.ref co) :: (.ref sp) :: (.ref nb0) :: (.ref nb1) :: (.ref nb2) :: (.int (nI nf)) :: (.int (nI bd)) :: (.int (nI mm)) :: (.int v33_118) :: (.ref pl) :: (.ref se) :: (.ref ke) :: (.ref wi) :: (.ref hs) :: (.ref mo) :: (.ref po) :: (.ref nu) :: (.ref pr) :: (.ref sq) :: (.ref xa) :: (.ref sa) :: (.ref n64) :: (.ref m64) :: (.ref ex) :: (.ref wh) :: (.ref sd) :: (.ref tk) :: (.int v52_119) :: (.int v53_120) :: (.int v54_121) :: (.ref hd) :: (.ref ak) :: (.ref ho) :: (.ref ot) :: []) := (hR h0 (by rw [hT_h0]; simp)).trans hF_166
        obtain ⟨⟨kt, hkt1, hkt2, ekt⟩, hkt3⟩ := hv_167
        subst ekt
        have hF_171 : F h0 = .inr (15, (.ref ta) :: (.int (nI zt)) :: (.int (nI zo_106)) :: (.int (nI ze_107)) :: (.ref ou) :: (.ref so) :: (.ref ad) :: (.ref na) :: (.ref va) :: (.ref lc) :: (.ref dm) :: (.int v11_108) :: (.int v12_109) :: (.ref tg) :: (.int v14_110) :: (.int v15_111) :: (.ref pe) :: (.int v17_112) :: (.int v18_113) :: (.int v19_114) :: (.int v20_115) :: (.int v21_116) :: (.int v22_117) :: (.ref ml) :: (.ref bg) :: (.ref co) :: (.ref sp) :: (.ref nb0) :: (.ref nb1) :: (.ref nb2) :: (.int (nI nf)) :: (.int (nI bd)) :: (.int (nI mm)) :: (.int v33_118) :: (.ref pl) :: (.ref se) :: (.ref ke) :: (.ref wi) :: (.ref hs) :: (.ref mo) :: (.ref po) :: (.ref nu) :: (.ref pr) :: (.ref sq) :: (.ref xa) :: (.ref sa) :: (.ref n64) :: (.ref m64) :: (.ref ex) :: (.ref wh) :: (.ref sd) :: (.ref tk) :: (.int v52_119) :: (.int v53_120) :: (.int v54_121) :: (.ref hd) :: (.ref ak) :: (.ref ho) :: (.ref ot) :: []) := (hR h0 (by rw [hT_h0]; simp)).symm.trans hF_168
        refine W.widen (k := 0) (n := 0) (by omega) (by omega) ?_
        refine pl_cutm (σ := Int32) A (dC, dI) cs ty gm L [ρ + 10] F 104 9 (fun s7 => [(5, .int (nI kt)), (4, .int (nI kend)), (3, .int (nI j)), (2, .int (nI w2)), (0, .ref h0), (1, .int x1)]) (fun s7 => [.int s7]) (fun s7 FF => FF pl = .inr (14, [.ref rl, .int (nI zz)])) ?_ (fun jn_169 => ?_)
        ·
          rintro s7 F_170 hv_172 hO hR H locs hP hD hS ls hl
          have hl : lv_has ls 9 [(5, .int (nI kt)), (4, .int (nI kend)), (3, .int (nI j)), (2, .int (nI w2)), (0, .ref h0), (1, .int x1)] := hl
          have hv_172 : F_170 pl = .inr (14, [.ref rl, .int (nI zz)]) := hv_172
          refine W.eq (g2 := F0 m 104 ls [.int s7]) rfl ?_
          have hF_173 : F_170 h0 = .inr (15, (.ref ta) :: (.int (nI zt)) :: (.int (nI zo_106)) :: (.int (nI ze_107)) :: (.ref ou) :: (.ref so) :: (.ref ad) :: (.ref na) :: (.ref va) :: (.ref lc) :: (.ref dm) :: (.int v11_108) :: (.int v12_109) :: (.ref tg) :: (.int v14_110) :: (.int v15_111) :: (.ref pe) :: (.int v17_112) :: (.int v18_113) :: (.int v19_114) :: (.int v20_115) :: (.int v21_116) :: (.int v22_117) :: (.ref ml) :: (.ref bg) :: (.ref co) :: (.ref sp) :: (.ref nb0) :: (.ref nb1) :: (.ref nb2) :: (.int (nI nf)) :: (.int (nI bd)) :: (.int (nI mm)) :: (.int v33_118) :: (.ref pl) :: (.ref se) :: (.ref ke) :: (.ref wi) :: (.ref hs) :: (.ref mo) :: (.ref po) :: (.ref nu) :: (.ref pr) :: (.ref sq) :: (.ref xa) :: (.ref sa) :: (.ref n64) :: (.ref m64) :: (.ref ex) :: (.ref wh) :: (.ref sd) :: (.ref tk) :: (.int v52_119) :: (.int v53_120) :: (.int v54_121) :: (.ref hd) :: (.ref ak) :: (.ref ho) :: (.ref ot) :: []) := (hR h0 (by rw [hT_h0]; simp)).trans hF_171
          refine lv_istore (lv' := [(6, .int s7), (5, .int (nI kt)), (4, .int (nI kend)), (3, .int (nI j)), (2, .int (nI w2)), (0, .ref h0), (1, .int x1)]) hx hb dX15_bodyPlain_104 hl (by decide) rfl (fun ls hl => ?_)
          refine lv_iload_n hx hb dX15_bodyPlain_106 rfl (lv_at hl 3 rfl) ?_
          refine lv_istore (lv' := [(7, .int (nI j)), (6, .int s7), (5, .int (nI kt)), (4, .int (nI kend)), (3, .int (nI j)), (2, .int (nI w2)), (0, .ref h0), (1, .int x1)]) hx hb dX15_bodyPlain_107 hl (by decide) rfl (fun ls hl => ?_)
          refine W.widen (k := 0) (n := 0) (by omega) (by omega) ?_
          have hF_175 : F h0 = .inr (15, (.ref ta) :: (.int (nI zt)) :: (.int (nI zo_106)) :: (.int (nI ze_107)) :: (.ref ou) :: (.ref so) :: (.ref ad) :: (.ref na) :: (.ref va) :: (.ref lc) :: (.ref dm) :: (.int v11_108) :: (.int v12_109) :: (.ref tg) :: (.int v14_110) :: (.int v15_111) :: (.ref pe) :: (.int v17_112) :: (.int v18_113) :: (.int v19_114) :: (.int v20_115) :: (.int v21_116) :: (.int v22_117) :: (.ref ml) :: (.ref bg) :: (.ref co) :: (.ref sp) :: (.ref nb0) :: (.ref nb1) :: (.ref nb2) :: (.int (nI nf)) :: (.int (nI bd)) :: (.int (nI mm)) :: (.int v33_118) :: (.ref pl) :: (.ref se) :: (.ref ke) :: (.ref wi) :: (.ref hs) :: (.ref mo) :: (.ref po) :: (.ref nu) :: (.ref pr) :: (.ref sq) :: (.ref xa) :: (.ref sa) :: (.ref n64) :: (.ref m64) :: (.ref ex) :: (.ref wh) :: (.ref sd) :: (.ref tk) :: (.int v52_119) :: (.int v53_120) :: (.int v54_121) :: (.ref hd) :: (.ref ak) :: (.ref ho) :: (.ref ot) :: []) := (hR h0 (by rw [hT_h0]; simp)).symm.trans hF_173
          refine pl_loopm (σ := Nat × Nat) A (dC, dI) cs ty gm L [ρ + 10] F 109 9 (fun (i, zw) => [(7, .int (nI i)), (6, .int s7), (5, .int (nI kt)), (4, .int (nI kend)), (3, .int (nI j)), (2, .int (nI w2)), (0, .ref h0), (1, .int x1)]) (fun (i, zw) => []) (fun (i, zw) FF => (j ≤ i ∧ i ≤ kt) ∧ zw ≤ 2 * (j - bd) + (i - j) ∧ FF pl = .inr (14, [.ref rl, .int (nI zw)])) (fun (i, zw) => kt - i) ?_ (j, zz) F_170 (⟨⟨by omega, by omega⟩, by omega, hv_172⟩) hO hR _ _ hP hD hS ls (lv_sub hl [0, 1, 2, 3, 4, 5, 6, 7] rfl)
          rintro ⟨i, zw⟩ F_174 hv_176 hO hR ih_177 H locs hP hD hS ls hl
          have hl : lv_has ls 9 [(7, .int (nI i)), (6, .int s7), (5, .int (nI kt)), (4, .int (nI kend)), (3, .int (nI j)), (2, .int (nI w2)), (0, .ref h0), (1, .int x1)] := hl
          have hv_176 : (j ≤ i ∧ i ≤ kt) ∧ zw ≤ 2 * (j - bd) + (i - j) ∧ F_174 pl = .inr (14, [.ref rl, .int (nI zw)]) := hv_176
          refine W.eq (g2 := F0 m 109 ls []) rfl ?_
          have hF_178 : F_174 h0 = .inr (15, (.ref ta) :: (.int (nI zt)) :: (.int (nI zo_106)) :: (.int (nI ze_107)) :: (.ref ou) :: (.ref so) :: (.ref ad) :: (.ref na) :: (.ref va) :: (.ref lc) :: (.ref dm) :: (.int v11_108) :: (.int v12_109) :: (.ref tg) :: (.int v14_110) :: (.int v15_111) :: (.ref pe) :: (.int v17_112) :: (.int v18_113) :: (.int v19_114) :: (.int v20_115) :: (.int v21_116) :: (.int v22_117) :: (.ref ml) :: (.ref bg) :: (.ref co) :: (.ref sp) :: (.ref nb0) :: (.ref nb1) :: (.ref nb2) :: (.int (nI nf)) :: (.int (nI bd)) :: (.int (nI mm)) :: (.int v33_118) :: (.ref pl) :: (.ref se) :: (.ref ke) :: (.ref wi) :: (.ref hs) :: (.ref mo) :: (.ref po) :: (.ref nu) :: (.ref pr) :: (.ref sq) :: (.ref xa) :: (.ref sa) :: (.ref n64) :: (.ref m64) :: (.ref ex) :: (.ref wh) :: (.ref sd) :: (.ref tk) :: (.int v52_119) :: (.int v53_120) :: (.int v54_121) :: (.ref hd) :: (.ref ak) :: (.ref ho) :: (.ref ot) :: []) := (hR h0 (by rw [hT_h0]; simp)).trans hF_175
          obtain ⟨hc1, hc2, hc3⟩ := hv_176
          refine lv_iload hx hb dX15_bodyPlain_109 (lv_at hl 0 rfl) ?_
          refine lv_iload hx hb dX15_bodyPlain_111 (lv_at hl 2 rfl) ?_
          refine lv_icmp_ge (tgt := 190) hx hb dX15_bodyPlain_113 (by decide) (fun c_179 => ?_) (fun c_179 => ?_)
          ·
            have hi_180 : kt ≤ i := leN (N := kt) c_179
            refine lv_aload_n hx hb dX15_bodyPlain_190 rfl (lv_at hl 6 rfl) ?_
            refine pg_get (ci := 15) (v := .ref pl) (C := RX15) (T := TX15) (N := 59) hx hb hts it_15 hown hK hP hL_h0 hF_178 rfl 34 (by decide) (hts _ kt_916) (fun _ h9 => h9) rfl dX15_bodyPlain_191 ?_
            refine lv_bipush (v := 10) hx hb dX15_bodyPlain_194 (by decide) ?_
            have hFc := pg_free hD hS hA
            refine va_callv (va_runV (As := [.int 10]) (rest := []) ⟨hx, hb, hml, hown, hts⟩ (s_X14_add l dC dI cs ty gm L H.size F_174 pl (ρ + 10) rl 6000 zw 10 hW hL_pl hT_pl hc3 (by first | omega | assumption)) ⟨callB_of 1 hts (gi kt_711) rfl rfl rfl (hts _ kt_676) (hts _ kt_712) (by decide +kernel) ⟨Nat.le_of_ble_eq_true rfl, Nat.le_of_ble_eq_true rfl⟩, (hts _ kt_713), (hts _ kt_714)⟩ ⟨fun a U g mk q => ⟨q.1, PTm.calling q.2⟩, pg_recv hK hP hL_pl hc3 (q := (RX14, TX14, 2)) rfl, fun U hU hWm => ⟨rfl, PTm.mk hU hWm hP hK hD hE hO⟩⟩ rfl rfl hl.1 rfl (lv_room (Nat.le_of_ble_eq_true rfl)) dX15_bodyPlain_196 ⟨by show _ + 0 ≤ 0; omega, by show _ + 0 ≤ 0; omega⟩) hS (fun q _ h => hFc q h) hFc (fun u t H1 locs ht hvm hw hB hz1 hk1 hS => ?_)
            obtain ⟨F_182, hB1, hq_183⟩ := hB
            obtain ⟨hP, hD, hO, hR⟩ := QTm.back hB1 ht hFc hR (fun q h => by simp only [List.mem_cons, List.not_mem_nil, or_false] at h ⊢; omega)
            have hF_184 : F_182 h0 = .inr (15, (.ref ta) :: (.int (nI zt)) :: (.int (nI zo_106)) :: (.int (nI ze_107)) :: (.ref ou) :: (.ref so) :: (.ref ad) :: (.ref na) :: (.ref va) :: (.ref lc) :: (.ref dm) :: (.int v11_108) :: (.int v12_109) :: (.ref tg) :: (.int v14_110) :: (.int v15_111) :: (.ref pe) :: (.int v17_112) :: (.int v18_113) :: (.int v19_114) :: (.int v20_115) :: (.int v21_116) :: (.int v22_117) :: (.ref ml) :: (.ref bg) :: (.ref co) :: (.ref sp) :: (.ref nb0) :: (.ref nb1) :: (.ref nb2) :: (.int (nI nf)) :: (.int (nI bd)) :: (.int (nI mm)) :: (.int v33_118) :: (.ref pl) :: (.ref se) :: (.ref ke) :: (.ref wi) :: (.ref hs) :: (.ref mo) :: (.ref po) :: (.ref nu) :: (.ref pr) :: (.ref sq) :: (.ref xa) :: (.ref sa) :: (.ref n64) :: (.ref m64) :: (.ref ex) :: (.ref wh) :: (.ref sd) :: (.ref tk) :: (.int v52_119) :: (.int v53_120) :: (.int v54_121) :: (.ref hd) :: (.ref ak) :: (.ref ho) :: (.ref ot) :: []) := (hB1.2.2.2 h0 (by rw [hT_h0]; simp)).trans hF_178
            generalize H1 = H at hP hS ⊢
            refine lv_iload hx hb dX15_bodyPlain_199 (lv_at hl 1 rfl) ?_
            refine lv_if_eq (tgt := 212) hx hb dX15_bodyPlain_201 (by decide) (fun c_185 => ?_) (fun c_185 => ?_)
            ·
              refine lv_iload hx hb dX15_bodyPlain_212 (lv_at hl 3 rfl) ?_
              refine lv_istore_n (lv' := [(3, .int (nI kend)), (7, .int (nI i)), (6, .int s7), (5, .int (nI kt)), (4, .int (nI kend)), (2, .int (nI w2)), (0, .ref h0), (1, .int x1)]) hx hb dX15_bodyPlain_214 rfl hl (by decide) rfl (fun ls hl => ?_)
              refine lv_goto (tgt := 15) hx hb dX15_bodyPlain_215 (by decide) ?_
              refine W.widen (k := 0) (n := 0) (by omega) (by omega) ?_
              exact ih_137 (kend, w2, (zw + 1)) F_182 (⟨⟨by omega, by omega⟩, by omega, by omega, hq_183⟩) (by show mm - kend < mm - j; omega) hO hR _ _ hP hD hS ls (lv_sub hl [0, 5, 6, 7] rfl)
            ·
              refine lv_aload_n hx hb dX15_bodyPlain_204 rfl (lv_at hl 6 rfl) ?_
              refine pg_get (ci := 15) (v := .ref pl) (C := RX15) (T := TX15) (N := 59) hx hb hts it_15 hown hK hP hL_h0 hF_184 rfl 34 (by decide) (hts _ kt_916) (fun _ h9 => h9) rfl dX15_bodyPlain_205 ?_
              refine pg_get (ci := 14) (v := .int (nI (zw + 1))) (C := RX14) (T := TX14) (N := 2) hx hb hts it_14 hown hK hP hL_pl hq_183 rfl 1 (by decide) (hts _ kt_709) (fun _ h9 => h9) rfl dX15_bodyPlain_208 ?_
              refine lv_istore_n (lv' := [(2, .int (nI (zw + 1))), (7, .int (nI i)), (6, .int s7), (5, .int (nI kt)), (4, .int (nI kend)), (3, .int (nI j)), (0, .ref h0), (1, .int x1)]) hx hb dX15_bodyPlain_211 rfl hl (by decide) rfl (fun ls hl => ?_)
              refine lv_iload hx hb dX15_bodyPlain_212 (lv_at hl 4 rfl) ?_
              refine lv_istore_n (lv' := [(3, .int (nI kend)), (2, .int (nI (zw + 1))), (7, .int (nI i)), (6, .int s7), (5, .int (nI kt)), (4, .int (nI kend)), (0, .ref h0), (1, .int x1)]) hx hb dX15_bodyPlain_214 rfl hl (by decide) rfl (fun ls hl => ?_)
              refine lv_goto (tgt := 15) hx hb dX15_bodyPlain_215 (by decide) ?_
              refine W.widen (k := 0) (n := 0) (by omega) (by omega) ?_
              exact ih_137 (kend, (zw + 1), (zw + 1)) F_182 (⟨⟨by omega, by omega⟩, by omega, by omega, hq_183⟩) (by show mm - kend < mm - j; omega) hO hR _ _ hP hD hS ls (lv_sub hl [0, 1, 6, 7] rfl)
          ·
            have hi_186 : i < kt := ltN (N := kt) c_179
            refine lv_aload_n hx hb dX15_bodyPlain_116 rfl (lv_at hl 6 rfl) ?_
            refine pg_get (ci := 15) (v := .ref ml) (C := RX15) (T := TX15) (N := 59) hx hb hts it_15 hown hK hP hL_h0 hF_178 rfl 23 (by decide) (hts _ kt_902) (fun _ h9 => h9) rfl dX15_bodyPlain_117 ?_
            refine lv_iload hx hb dX15_bodyPlain_120 (lv_at hl 0 rfl) ?_
            obtain ⟨f_187, hF_188, hq_189⟩ := hO.octs hi_24 ht_25
            refine pg_bald hx hb hK hP hi_24 1 hF_188 rfl (vp_in_nI (by omega) (by omega)) dX15_bodyPlain_122 ?_
            refine lv_topi (fun x_190 ex_190 => ?_)
            obtain rfl : x_190 = f_187 i := ex_190.trans (congrArg f_187 (show ((nI i) : Int32).toNatClampNeg = i from nI_clamp (by omega)))
            have hFc := pg_free hD hS hA
            refine va_calli (va_runS (As := [.int (f_187 i)]) (rest := []) ⟨hx, hb, hml, hown, hts⟩ (s_X15_isWhite l dC dI cs ty gm L H.size F_174 (f_187 i) hW ) ⟨callB_of 1 hts (gi kt_715) rfl rfl rfl (hts _ kt_669) (hts _ kt_716) (by decide +kernel) ⟨Nat.le_of_ble_eq_true rfl, Nat.le_of_ble_eq_true rfl⟩, (hts _ kt_717)⟩ ⟨fun a U g mk q => ⟨q.1, PTm.calling q.2⟩, fun U hU hWm => ⟨rfl, PTm.mk hU hWm hP hK hD hE hO⟩⟩ rfl rfl hl.1 rfl (lv_room (Nat.le_of_ble_eq_true rfl)) dX15_bodyPlain_123 ⟨by show _ + 0 ≤ 0; omega, by show _ + 0 ≤ 0; omega⟩) hS (fun q _ h => hFc q h) hFc (fun r_191 u t H1 locs ht hvm hw hB hz1 hk1 hS => ?_)
            obtain ⟨F_192, hB1⟩ := hB
            obtain rfl : F_174 = F_192 := (funext (fun a => hB1.2.2.2 a List.not_mem_nil)).symm
            obtain ⟨hP, hD, hO, hR⟩ := QTm.back hB1 ht hFc hR (fun q h => absurd h List.not_mem_nil)
            generalize H1 = H at hP hS ⊢
            have hw : (r_191 = 0 ∨ r_191 = 1) := hw
            have hw_193 := hw
            refine lv_istore (lv' := [(8, .int r_191), (7, .int (nI i)), (6, .int s7), (5, .int (nI kt)), (4, .int (nI kend)), (3, .int (nI j)), (2, .int (nI w2)), (0, .ref h0), (1, .int x1)]) hx hb dX15_bodyPlain_126 hl (by decide) rfl (fun ls hl => ?_)
            refine lv_iload_n hx hb dX15_bodyPlain_128 rfl (lv_at hl 8 rfl) ?_
            refine lv_if_eq (tgt := 137) hx hb dX15_bodyPlain_129 (by decide) (fun c_194 => ?_) (fun c_194 => ?_)
            ·
              refine lv_aload_n hx hb dX15_bodyPlain_137 rfl (lv_at hl 7 rfl) ?_
              refine pg_get (ci := 15) (v := .ref pl) (C := RX15) (T := TX15) (N := 59) hx hb hts it_15 hown hK hP hL_h0 hF_178 rfl 34 (by decide) (hts _ kt_916) (fun _ h9 => h9) rfl dX15_bodyPlain_138 ?_
              refine lv_aload_n hx hb dX15_bodyPlain_141 rfl (lv_at hl 7 rfl) ?_
              refine pg_get (ci := 15) (v := .ref ml) (C := RX15) (T := TX15) (N := 59) hx hb hts it_15 hown hK hP hL_h0 hF_178 rfl 23 (by decide) (hts _ kt_902) (fun _ h9 => h9) rfl dX15_bodyPlain_142 ?_
              refine lv_iload hx hb dX15_bodyPlain_145 (lv_at hl 1 rfl) ?_
              refine pg_bald hx hb hK hP hi_24 1 hF_188 rfl (vp_in_nI (by omega) (by omega)) dX15_bodyPlain_147 ?_
              refine lv_topi (fun x_195 ex_195 => ?_)
              obtain rfl : x_195 = f_187 i := ex_195.trans (congrArg f_187 (show ((nI i) : Int32).toNatClampNeg = i from nI_clamp (by omega)))
              have hFc := pg_free hD hS hA
              refine va_callv (va_runV (As := [.int (f_187 i)]) (rest := []) ⟨hx, hb, hml, hown, hts⟩ (s_X14_add l dC dI cs ty gm L H.size F_174 pl (ρ + 10) rl 6000 zw (f_187 i) hW hL_pl hT_pl hc3 (by first | omega | assumption)) ⟨callB_of 1 hts (gi kt_711) rfl rfl rfl (hts _ kt_676) (hts _ kt_712) (by decide +kernel) ⟨Nat.le_of_ble_eq_true rfl, Nat.le_of_ble_eq_true rfl⟩, (hts _ kt_713), (hts _ kt_714)⟩ ⟨fun a U g mk q => ⟨q.1, PTm.calling q.2⟩, pg_recv hK hP hL_pl hc3 (q := (RX14, TX14, 2)) rfl, fun U hU hWm => ⟨rfl, PTm.mk hU hWm hP hK hD hE hO⟩⟩ rfl rfl hl.1 rfl (lv_room (Nat.le_of_ble_eq_true rfl)) dX15_bodyPlain_148 ⟨by show _ + 0 ≤ 0; omega, by show _ + 0 ≤ 0; omega⟩) hS (fun q _ h => hFc q h) hFc (fun u t H1 locs ht hvm hw hB hz1 hk1 hS => ?_)
              obtain ⟨F_197, hB1, hq_198⟩ := hB
              obtain ⟨hP, hD, hO, hR⟩ := QTm.back hB1 ht hFc hR (fun q h => by simp only [List.mem_cons, List.not_mem_nil, or_false] at h ⊢; omega)
              have hF_199 : F_197 h0 = .inr (15, (.ref ta) :: (.int (nI zt)) :: (.int (nI zo_106)) :: (.int (nI ze_107)) :: (.ref ou) :: (.ref so) :: (.ref ad) :: (.ref na) :: (.ref va) :: (.ref lc) :: (.ref dm) :: (.int v11_108) :: (.int v12_109) :: (.ref tg) :: (.int v14_110) :: (.int v15_111) :: (.ref pe) :: (.int v17_112) :: (.int v18_113) :: (.int v19_114) :: (.int v20_115) :: (.int v21_116) :: (.int v22_117) :: (.ref ml) :: (.ref bg) :: (.ref co) :: (.ref sp) :: (.ref nb0) :: (.ref nb1) :: (.ref nb2) :: (.int (nI nf)) :: (.int (nI bd)) :: (.int (nI mm)) :: (.int v33_118) :: (.ref pl) :: (.ref se) :: (.ref ke) :: (.ref wi) :: (.ref hs) :: (.ref mo) :: (.ref po) :: (.ref nu) :: (.ref pr) :: (.ref sq) :: (.ref xa) :: (.ref sa) :: (.ref n64) :: (.ref m64) :: (.ref ex) :: (.ref wh) :: (.ref sd) :: (.ref tk) :: (.int v52_119) :: (.int v53_120) :: (.int v54_121) :: (.ref hd) :: (.ref ak) :: (.ref ho) :: (.ref ot) :: []) := (hB1.2.2.2 h0 (by rw [hT_h0]; simp)).trans hF_178
              have hF_200 : F_197 ml = .inl (cs 17, 3000, .inl f_187) := (hB1.2.2.2 ml (by rw [ht_25]; simp)).trans hF_188
              generalize H1 = H at hP hS ⊢
              refine lv_goto (tgt := 184) hx hb dX15_bodyPlain_151 (by decide) ?_
              refine lv_iinc (v := (nI (i + 1))) (lv' := [(7, .int (nI (i + 1))), (8, .int r_191), (6, .int s7), (5, .int (nI kt)), (4, .int (nI kend)), (3, .int (nI j)), (2, .int (nI w2)), (0, .ref h0), (1, .int x1)]) hx hb dX15_bodyPlain_184 hl (k := 1) rfl (nI_1 _) (by decide) rfl (fun ls hl => ?_)
              refine lv_goto (tgt := 109) hx hb dX15_bodyPlain_187 (by decide) ?_
              refine W.widen (k := 0) (n := 0) (by omega) (by omega) ?_
              exact ih_177 ((i + 1), (zw + 1)) F_197 (⟨⟨by omega, by omega⟩, by omega, hq_198⟩) (by show kt - (i + 1) < kt - i; omega) hO hR _ _ hP hD hS ls (lv_sub hl [0, 2, 3, 4, 5, 6, 7, 8] rfl)
            ·
              refine lv_iload hx hb dX15_bodyPlain_132 (lv_at hl 0 rfl) ?_
              refine lv_if_ne (tgt := 154) hx hb dX15_bodyPlain_134 (by decide) (fun c_201 => ?_) (fun c_201 => ?_)
              ·
                refine lv_aload_n hx hb dX15_bodyPlain_154 rfl (lv_at hl 7 rfl) ?_
                refine pg_get (ci := 15) (v := .ref ml) (C := RX15) (T := TX15) (N := 59) hx hb hts it_15 hown hK hP hL_h0 hF_178 rfl 23 (by decide) (hts _ kt_902) (fun _ h9 => h9) rfl dX15_bodyPlain_155 ?_
                refine lv_iload hx hb dX15_bodyPlain_158 (lv_at hl 1 rfl) ?_
                refine lv_iconst (v := 1) hx hb dX15_bodyPlain_160 (by decide) ?_
                refine lv_isub hx hb dX15_bodyPlain_161 ?_
                refine lv_topi (fun x_202 ex_202 => ?_)
                obtain rfl : x_202 = (nI (i - 1)) := ex_202.trans (pk_sub (a := i) (b := 1) (by omega))
                refine pg_bald hx hb hK hP hi_24 1 hF_188 rfl (vp_in_nI (by omega) (by omega)) dX15_bodyPlain_162 ?_
                refine lv_topi (fun x_203 ex_203 => ?_)
                obtain rfl : x_203 = f_187 (i - 1) := ex_203.trans (congrArg f_187 (show ((nI (i - 1)) : Int32).toNatClampNeg = (i - 1) from nI_clamp (by omega)))
                have hFc := pg_free hD hS hA
                refine va_calli (va_runS (As := [.int (f_187 (i - 1))]) (rest := []) ⟨hx, hb, hml, hown, hts⟩ (s_X15_isWhite l dC dI cs ty gm L H.size F_174 (f_187 (i - 1)) hW ) ⟨callB_of 1 hts (gi kt_715) rfl rfl rfl (hts _ kt_669) (hts _ kt_716) (by decide +kernel) ⟨Nat.le_of_ble_eq_true rfl, Nat.le_of_ble_eq_true rfl⟩, (hts _ kt_717)⟩ ⟨fun a U g mk q => ⟨q.1, PTm.calling q.2⟩, fun U hU hWm => ⟨rfl, PTm.mk hU hWm hP hK hD hE hO⟩⟩ rfl rfl hl.1 rfl (lv_room (Nat.le_of_ble_eq_true rfl)) dX15_bodyPlain_163 ⟨by show _ + 0 ≤ 0; omega, by show _ + 0 ≤ 0; omega⟩) hS (fun q _ h => hFc q h) hFc (fun r_204 u t H1 locs ht hvm hw hB hz1 hk1 hS => ?_)
                obtain ⟨F_205, hB1⟩ := hB
                obtain rfl : F_174 = F_205 := (funext (fun a => hB1.2.2.2 a List.not_mem_nil)).symm
                obtain ⟨hP, hD, hO, hR⟩ := QTm.back hB1 ht hFc hR (fun q h => absurd h List.not_mem_nil)
                generalize H1 = H at hP hS ⊢
                have hw : (r_204 = 0 ∨ r_204 = 1) := hw
                have hw_206 := hw
                refine lv_if_eq (tgt := 175) hx hb dX15_bodyPlain_166 (by decide) (fun c_207 => ?_) (fun c_207 => ?_)
                ·
                  refine lv_aload_n hx hb dX15_bodyPlain_175 rfl (lv_at hl 7 rfl) ?_
                  refine pg_get (ci := 15) (v := .ref pl) (C := RX15) (T := TX15) (N := 59) hx hb hts it_15 hown hK hP hL_h0 hF_178 rfl 34 (by decide) (hts _ kt_916) (fun _ h9 => h9) rfl dX15_bodyPlain_176 ?_
                  refine lv_bipush (v := 32) hx hb dX15_bodyPlain_179 (by decide) ?_
                  have hFc := pg_free hD hS hA
                  refine va_callv (va_runV (As := [.int 32]) (rest := []) ⟨hx, hb, hml, hown, hts⟩ (s_X14_add l dC dI cs ty gm L H.size F_174 pl (ρ + 10) rl 6000 zw 32 hW hL_pl hT_pl hc3 (by first | omega | assumption)) ⟨callB_of 1 hts (gi kt_711) rfl rfl rfl (hts _ kt_676) (hts _ kt_712) (by decide +kernel) ⟨Nat.le_of_ble_eq_true rfl, Nat.le_of_ble_eq_true rfl⟩, (hts _ kt_713), (hts _ kt_714)⟩ ⟨fun a U g mk q => ⟨q.1, PTm.calling q.2⟩, pg_recv hK hP hL_pl hc3 (q := (RX14, TX14, 2)) rfl, fun U hU hWm => ⟨rfl, PTm.mk hU hWm hP hK hD hE hO⟩⟩ rfl rfl hl.1 rfl (lv_room (Nat.le_of_ble_eq_true rfl)) dX15_bodyPlain_181 ⟨by show _ + 0 ≤ 0; omega, by show _ + 0 ≤ 0; omega⟩) hS (fun q _ h => hFc q h) hFc (fun u t H1 locs ht hvm hw hB hz1 hk1 hS => ?_)
                  obtain ⟨F_209, hB1, hq_210⟩ := hB
                  obtain ⟨hP, hD, hO, hR⟩ := QTm.back hB1 ht hFc hR (fun q h => by simp only [List.mem_cons, List.not_mem_nil, or_false] at h ⊢; omega)
                  have hF_211 : F_209 h0 = .inr (15, (.ref ta) :: (.int (nI zt)) :: (.int (nI zo_106)) :: (.int (nI ze_107)) :: (.ref ou) :: (.ref so) :: (.ref ad) :: (.ref na) :: (.ref va) :: (.ref lc) :: (.ref dm) :: (.int v11_108) :: (.int v12_109) :: (.ref tg) :: (.int v14_110) :: (.int v15_111) :: (.ref pe) :: (.int v17_112) :: (.int v18_113) :: (.int v19_114) :: (.int v20_115) :: (.int v21_116) :: (.int v22_117) :: (.ref ml) :: (.ref bg) :: (.ref co) :: (.ref sp) :: (.ref nb0) :: (.ref nb1) :: (.ref nb2) :: (.int (nI nf)) :: (.int (nI bd)) :: (.int (nI mm)) :: (.int v33_118) :: (.ref pl) :: (.ref se) :: (.ref ke) :: (.ref wi) :: (.ref hs) :: (.ref mo) :: (.ref po) :: (.ref nu) :: (.ref pr) :: (.ref sq) :: (.ref xa) :: (.ref sa) :: (.ref n64) :: (.ref m64) :: (.ref ex) :: (.ref wh) :: (.ref sd) :: (.ref tk) :: (.int v52_119) :: (.int v53_120) :: (.int v54_121) :: (.ref hd) :: (.ref ak) :: (.ref ho) :: (.ref ot) :: []) := (hB1.2.2.2 h0 (by rw [hT_h0]; simp)).trans hF_178
                  have hF_212 : F_209 ml = .inl (cs 17, 3000, .inl f_187) := (hB1.2.2.2 ml (by rw [ht_25]; simp)).trans hF_188
                  generalize H1 = H at hP hS ⊢
                  refine lv_iinc (v := (nI (i + 1))) (lv' := [(7, .int (nI (i + 1))), (8, .int r_191), (6, .int s7), (5, .int (nI kt)), (4, .int (nI kend)), (3, .int (nI j)), (2, .int (nI w2)), (0, .ref h0), (1, .int x1)]) hx hb dX15_bodyPlain_184 hl (k := 1) rfl (nI_1 _) (by decide) rfl (fun ls hl => ?_)
                  refine lv_goto (tgt := 109) hx hb dX15_bodyPlain_187 (by decide) ?_
                  refine W.widen (k := 0) (n := 0) (by omega) (by omega) ?_
                  exact ih_177 ((i + 1), (zw + 1)) F_209 (⟨⟨by omega, by omega⟩, by omega, hq_210⟩) (by show kt - (i + 1) < kt - i; omega) hO hR _ _ hP hD hS ls (lv_sub hl [0, 2, 3, 4, 5, 6, 7, 8] rfl)
                ·
                  refine lv_iload hx hb dX15_bodyPlain_169 (lv_at hl 1 rfl) ?_
                  refine lv_iload_n hx hb dX15_bodyPlain_171 rfl (lv_at hl 5 rfl) ?_
                  refine lv_icmp_ne (tgt := 184) hx hb dX15_bodyPlain_172 (by decide) (fun c_213 => ?_) (fun c_213 => ?_)
                  ·
                    have hi_214 : i ≠ j := fun q => c_213 (by rw [q])
                    refine lv_iinc (v := (nI (i + 1))) (lv' := [(7, .int (nI (i + 1))), (8, .int r_191), (6, .int s7), (5, .int (nI kt)), (4, .int (nI kend)), (3, .int (nI j)), (2, .int (nI w2)), (0, .ref h0), (1, .int x1)]) hx hb dX15_bodyPlain_184 hl (k := 1) rfl (nI_1 _) (by decide) rfl (fun ls hl => ?_)
                    refine lv_goto (tgt := 109) hx hb dX15_bodyPlain_187 (by decide) ?_
                    refine W.widen (k := 0) (n := 0) (by omega) (by omega) ?_
                    exact ih_177 ((i + 1), zw) F_174 (⟨⟨by omega, by omega⟩, by omega, hc3⟩) (by show kt - (i + 1) < kt - i; omega) hO hR _ _ hP hD hS ls (lv_sub hl [0, 2, 3, 4, 5, 6, 7, 8] rfl)
                  ·
                    have hi_215 : i = j := (nI_eq (a := i) (b := j) (by omega) (by omega)).mp c_213
                    refine lv_aload_n hx hb dX15_bodyPlain_175 rfl (lv_at hl 7 rfl) ?_
                    refine pg_get (ci := 15) (v := .ref pl) (C := RX15) (T := TX15) (N := 59) hx hb hts it_15 hown hK hP hL_h0 hF_178 rfl 34 (by decide) (hts _ kt_916) (fun _ h9 => h9) rfl dX15_bodyPlain_176 ?_
                    refine lv_bipush (v := 32) hx hb dX15_bodyPlain_179 (by decide) ?_
                    have hFc := pg_free hD hS hA
                    refine va_callv (va_runV (As := [.int 32]) (rest := []) ⟨hx, hb, hml, hown, hts⟩ (s_X14_add l dC dI cs ty gm L H.size F_174 pl (ρ + 10) rl 6000 zw 32 hW hL_pl hT_pl hc3 (by first | omega | assumption)) ⟨callB_of 1 hts (gi kt_711) rfl rfl rfl (hts _ kt_676) (hts _ kt_712) (by decide +kernel) ⟨Nat.le_of_ble_eq_true rfl, Nat.le_of_ble_eq_true rfl⟩, (hts _ kt_713), (hts _ kt_714)⟩ ⟨fun a U g mk q => ⟨q.1, PTm.calling q.2⟩, pg_recv hK hP hL_pl hc3 (q := (RX14, TX14, 2)) rfl, fun U hU hWm => ⟨rfl, PTm.mk hU hWm hP hK hD hE hO⟩⟩ rfl rfl hl.1 rfl (lv_room (Nat.le_of_ble_eq_true rfl)) dX15_bodyPlain_181 ⟨by show _ + 0 ≤ 0; omega, by show _ + 0 ≤ 0; omega⟩) hS (fun q _ h => hFc q h) hFc (fun u t H1 locs ht hvm hw hB hz1 hk1 hS => ?_)
                    obtain ⟨F_217, hB1, hq_218⟩ := hB
                    obtain ⟨hP, hD, hO, hR⟩ := QTm.back hB1 ht hFc hR (fun q h => by simp only [List.mem_cons, List.not_mem_nil, or_false] at h ⊢; omega)
                    have hF_219 : F_217 h0 = .inr (15, (.ref ta) :: (.int (nI zt)) :: (.int (nI zo_106)) :: (.int (nI ze_107)) :: (.ref ou) :: (.ref so) :: (.ref ad) :: (.ref na) :: (.ref va) :: (.ref lc) :: (.ref dm) :: (.int v11_108) :: (.int v12_109) :: (.ref tg) :: (.int v14_110) :: (.int v15_111) :: (.ref pe) :: (.int v17_112) :: (.int v18_113) :: (.int v19_114) :: (.int v20_115) :: (.int v21_116) :: (.int v22_117) :: (.ref ml) :: (.ref bg) :: (.ref co) :: (.ref sp) :: (.ref nb0) :: (.ref nb1) :: (.ref nb2) :: (.int (nI nf)) :: (.int (nI bd)) :: (.int (nI mm)) :: (.int v33_118) :: (.ref pl) :: (.ref se) :: (.ref ke) :: (.ref wi) :: (.ref hs) :: (.ref mo) :: (.ref po) :: (.ref nu) :: (.ref pr) :: (.ref sq) :: (.ref xa) :: (.ref sa) :: (.ref n64) :: (.ref m64) :: (.ref ex) :: (.ref wh) :: (.ref sd) :: (.ref tk) :: (.int v52_119) :: (.int v53_120) :: (.int v54_121) :: (.ref hd) :: (.ref ak) :: (.ref ho) :: (.ref ot) :: []) := (hB1.2.2.2 h0 (by rw [hT_h0]; simp)).trans hF_178
                    have hF_220 : F_217 ml = .inl (cs 17, 3000, .inl f_187) := (hB1.2.2.2 ml (by rw [ht_25]; simp)).trans hF_188
                    generalize H1 = H at hP hS ⊢
                    refine lv_iinc (v := (nI (i + 1))) (lv' := [(7, .int (nI (i + 1))), (8, .int r_191), (6, .int s7), (5, .int (nI kt)), (4, .int (nI kend)), (3, .int (nI j)), (2, .int (nI w2)), (0, .ref h0), (1, .int x1)]) hx hb dX15_bodyPlain_184 hl (k := 1) rfl (nI_1 _) (by decide) rfl (fun ls hl => ?_)
                    refine lv_goto (tgt := 109) hx hb dX15_bodyPlain_187 (by decide) ?_
                    refine W.widen (k := 0) (n := 0) (by omega) (by omega) ?_
                    exact ih_177 ((i + 1), (zw + 1)) F_217 (⟨⟨by omega, by omega⟩, by omega, hq_218⟩) (by show kt - (i + 1) < kt - i; omega) hO hR _ _ hP hD hS ls (lv_sub hl [0, 2, 3, 4, 5, 6, 7, 8] rfl)
              ·
                refine lv_aload_n hx hb dX15_bodyPlain_137 rfl (lv_at hl 7 rfl) ?_
                refine pg_get (ci := 15) (v := .ref pl) (C := RX15) (T := TX15) (N := 59) hx hb hts it_15 hown hK hP hL_h0 hF_178 rfl 34 (by decide) (hts _ kt_916) (fun _ h9 => h9) rfl dX15_bodyPlain_138 ?_
                refine lv_aload_n hx hb dX15_bodyPlain_141 rfl (lv_at hl 7 rfl) ?_
                refine pg_get (ci := 15) (v := .ref ml) (C := RX15) (T := TX15) (N := 59) hx hb hts it_15 hown hK hP hL_h0 hF_178 rfl 23 (by decide) (hts _ kt_902) (fun _ h9 => h9) rfl dX15_bodyPlain_142 ?_
                refine lv_iload hx hb dX15_bodyPlain_145 (lv_at hl 1 rfl) ?_
                refine pg_bald hx hb hK hP hi_24 1 hF_188 rfl (vp_in_nI (by omega) (by omega)) dX15_bodyPlain_147 ?_
                refine lv_topi (fun x_221 ex_221 => ?_)
                obtain rfl : x_221 = f_187 i := ex_221.trans (congrArg f_187 (show ((nI i) : Int32).toNatClampNeg = i from nI_clamp (by omega)))
                have hFc := pg_free hD hS hA
                refine va_callv (va_runV (As := [.int (f_187 i)]) (rest := []) ⟨hx, hb, hml, hown, hts⟩ (s_X14_add l dC dI cs ty gm L H.size F_174 pl (ρ + 10) rl 6000 zw (f_187 i) hW hL_pl hT_pl hc3 (by first | omega | assumption)) ⟨callB_of 1 hts (gi kt_711) rfl rfl rfl (hts _ kt_676) (hts _ kt_712) (by decide +kernel) ⟨Nat.le_of_ble_eq_true rfl, Nat.le_of_ble_eq_true rfl⟩, (hts _ kt_713), (hts _ kt_714)⟩ ⟨fun a U g mk q => ⟨q.1, PTm.calling q.2⟩, pg_recv hK hP hL_pl hc3 (q := (RX14, TX14, 2)) rfl, fun U hU hWm => ⟨rfl, PTm.mk hU hWm hP hK hD hE hO⟩⟩ rfl rfl hl.1 rfl (lv_room (Nat.le_of_ble_eq_true rfl)) dX15_bodyPlain_148 ⟨by show _ + 0 ≤ 0; omega, by show _ + 0 ≤ 0; omega⟩) hS (fun q _ h => hFc q h) hFc (fun u t H1 locs ht hvm hw hB hz1 hk1 hS => ?_)
                obtain ⟨F_223, hB1, hq_224⟩ := hB
                obtain ⟨hP, hD, hO, hR⟩ := QTm.back hB1 ht hFc hR (fun q h => by simp only [List.mem_cons, List.not_mem_nil, or_false] at h ⊢; omega)
                have hF_225 : F_223 h0 = .inr (15, (.ref ta) :: (.int (nI zt)) :: (.int (nI zo_106)) :: (.int (nI ze_107)) :: (.ref ou) :: (.ref so) :: (.ref ad) :: (.ref na) :: (.ref va) :: (.ref lc) :: (.ref dm) :: (.int v11_108) :: (.int v12_109) :: (.ref tg) :: (.int v14_110) :: (.int v15_111) :: (.ref pe) :: (.int v17_112) :: (.int v18_113) :: (.int v19_114) :: (.int v20_115) :: (.int v21_116) :: (.int v22_117) :: (.ref ml) :: (.ref bg) :: (.ref co) :: (.ref sp) :: (.ref nb0) :: (.ref nb1) :: (.ref nb2) :: (.int (nI nf)) :: (.int (nI bd)) :: (.int (nI mm)) :: (.int v33_118) :: (.ref pl) :: (.ref se) :: (.ref ke) :: (.ref wi) :: (.ref hs) :: (.ref mo) :: (.ref po) :: (.ref nu) :: (.ref pr) :: (.ref sq) :: (.ref xa) :: (.ref sa) :: (.ref n64) :: (.ref m64) :: (.ref ex) :: (.ref wh) :: (.ref sd) :: (.ref tk) :: (.int v52_119) :: (.int v53_120) :: (.int v54_121) :: (.ref hd) :: (.ref ak) :: (.ref ho) :: (.ref ot) :: []) := (hB1.2.2.2 h0 (by rw [hT_h0]; simp)).trans hF_178
                have hF_226 : F_223 ml = .inl (cs 17, 3000, .inl f_187) := (hB1.2.2.2 ml (by rw [ht_25]; simp)).trans hF_188
                generalize H1 = H at hP hS ⊢
                refine lv_goto (tgt := 184) hx hb dX15_bodyPlain_151 (by decide) ?_
                refine lv_iinc (v := (nI (i + 1))) (lv' := [(7, .int (nI (i + 1))), (8, .int r_191), (6, .int s7), (5, .int (nI kt)), (4, .int (nI kend)), (3, .int (nI j)), (2, .int (nI w2)), (0, .ref h0), (1, .int x1)]) hx hb dX15_bodyPlain_184 hl (k := 1) rfl (nI_1 _) (by decide) rfl (fun ls hl => ?_)
                refine lv_goto (tgt := 109) hx hb dX15_bodyPlain_187 (by decide) ?_
                refine W.widen (k := 0) (n := 0) (by omega) (by omega) ?_
                exact ih_177 ((i + 1), (zw + 1)) F_223 (⟨⟨by omega, by omega⟩, by omega, hq_224⟩) (by show kt - (i + 1) < kt - i; omega) hO hR _ _ hP hD hS ls (lv_sub hl [0, 2, 3, 4, 5, 6, 7, 8] rfl)
        ·
          refine lv_iload hx hb dX15_bodyPlain_93 (lv_at hl 0 rfl) ?_
          refine lv_iload_n hx hb dX15_bodyPlain_95 rfl (lv_at hl 2 rfl) ?_
          refine lv_icmp_le (tgt := 103) hx hb dX15_bodyPlain_96 (by decide) (fun c_227 => ?_) (fun c_227 => ?_)
          ·
            have hi_228 : kt ≤ j := (nI_leI (a := kt) (b := j) (by omega) (by omega)).mp c_227
            refine lv_iconst (v := 0) hx hb dX15_bodyPlain_103 (by decide) ?_
            refine W.widen (k := 0) (n := 0) (by omega) (by omega) ?_
            exact jn_169 0 F_165 (hkt3) hO hR _ _ hP hD hS ls (lv_sub hl [0, 1, 2, 3, 4, 5] rfl)
          ·
            have hi_229 : j < kt := Nat.not_le.mp (fun q => c_227 ((nI_leI (a := kt) (b := j) (by omega) (by omega)).mpr q))
            refine lv_iconst (v := 1) hx hb dX15_bodyPlain_99 (by decide) ?_
            refine lv_goto (tgt := 104) hx hb dX15_bodyPlain_100 (by decide) ?_
            refine W.widen (k := 0) (n := 0) (by omega) (by omega) ?_
            exact jn_169 1 F_165 (hkt3) hO hR _ _ hP hD hS ls (lv_sub hl [0, 1, 2, 3, 4, 5] rfl)
      ·
        refine lv_iload_n hx hb dX15_bodyPlain_62 rfl (lv_at hl 5 rfl) ?_
        refine lv_if_eq (tgt := 93) hx hb dX15_bodyPlain_63 (by decide) (fun c_230 => ?_) (fun c_230 => ?_)
        ·
          refine W.widen (k := 0) (n := 0) (by omega) (by omega) ?_
          exact jn_164 (nI ks) F_160 (⟨⟨ks, by omega, by omega, rfl⟩, hks3⟩) hO hR _ _ hP hD hS ls (lv_sub hl [0, 1, 2, 3, 4, 5] rfl)
        ·
          refine W.widen (k := 0) (n := 0) (by omega) (by omega) ?_
          have hF_232 : F h0 = .inr (15, (.ref ta) :: (.int (nI zt)) :: (.int (nI zo_106)) :: (.int (nI ze_107)) :: (.ref ou) :: (.ref so) :: (.ref ad) :: (.ref na) :: (.ref va) :: (.ref lc) :: (.ref dm) :: (.int v11_108) :: (.int v12_109) :: (.ref tg) :: (.int v14_110) :: (.int v15_111) :: (.ref pe) :: (.int v17_112) :: (.int v18_113) :: (.int v19_114) :: (.int v20_115) :: (.int v21_116) :: (.int v22_117) :: (.ref ml) :: (.ref bg) :: (.ref co) :: (.ref sp) :: (.ref nb0) :: (.ref nb1) :: (.ref nb2) :: (.int (nI nf)) :: (.int (nI bd)) :: (.int (nI mm)) :: (.int v33_118) :: (.ref pl) :: (.ref se) :: (.ref ke) :: (.ref wi) :: (.ref hs) :: (.ref mo) :: (.ref po) :: (.ref nu) :: (.ref pr) :: (.ref sq) :: (.ref xa) :: (.ref sa) :: (.ref n64) :: (.ref m64) :: (.ref ex) :: (.ref wh) :: (.ref sd) :: (.ref tk) :: (.int v52_119) :: (.int v53_120) :: (.int v54_121) :: (.ref hd) :: (.ref ak) :: (.ref ho) :: (.ref ot) :: []) := (hR h0 (by rw [hT_h0]; simp)).symm.trans hF_163
          refine pl_loopm (σ := Nat) A (dC, dI) cs ty gm L [ρ + 10] F 66 9 (fun kx => [(5, .int (nI kx)), (4, .int (nI kend)), (3, .int (nI j)), (2, .int (nI w2)), (0, .ref h0), (1, .int x1)]) (fun kx => []) (fun kx FF => j ≤ kx ∧ kx ≤ kend ∧ FF pl = .inr (14, [.ref rl, .int (nI zz)])) (fun kx => kx) ?_ ks F_160 (⟨by omega, by omega, hks3⟩) hO hR _ _ hP hD hS ls (lv_sub hl [0, 1, 2, 3, 4, 5] rfl)
          rintro kx F_231 hv_233 hO hR ih_234 H locs hP hD hS ls hl
          have hl : lv_has ls 9 [(5, .int (nI kx)), (4, .int (nI kend)), (3, .int (nI j)), (2, .int (nI w2)), (0, .ref h0), (1, .int x1)] := hl
          have hv_233 : j ≤ kx ∧ kx ≤ kend ∧ F_231 pl = .inr (14, [.ref rl, .int (nI zz)]) := hv_233
          refine W.eq (g2 := F0 m 66 ls []) rfl ?_
          have hF_235 : F_231 h0 = .inr (15, (.ref ta) :: (.int (nI zt)) :: (.int (nI zo_106)) :: (.int (nI ze_107)) :: (.ref ou) :: (.ref so) :: (.ref ad) :: (.ref na) :: (.ref va) :: (.ref lc) :: (.ref dm) :: (.int v11_108) :: (.int v12_109) :: (.ref tg) :: (.int v14_110) :: (.int v15_111) :: (.ref pe) :: (.int v17_112) :: (.int v18_113) :: (.int v19_114) :: (.int v20_115) :: (.int v21_116) :: (.int v22_117) :: (.ref ml) :: (.ref bg) :: (.ref co) :: (.ref sp) :: (.ref nb0) :: (.ref nb1) :: (.ref nb2) :: (.int (nI nf)) :: (.int (nI bd)) :: (.int (nI mm)) :: (.int v33_118) :: (.ref pl) :: (.ref se) :: (.ref ke) :: (.ref wi) :: (.ref hs) :: (.ref mo) :: (.ref po) :: (.ref nu) :: (.ref pr) :: (.ref sq) :: (.ref xa) :: (.ref sa) :: (.ref n64) :: (.ref m64) :: (.ref ex) :: (.ref wh) :: (.ref sd) :: (.ref tk) :: (.int v52_119) :: (.int v53_120) :: (.int v54_121) :: (.ref hd) :: (.ref ak) :: (.ref ho) :: (.ref ot) :: []) := (hR h0 (by rw [hT_h0]; simp)).trans hF_232
          obtain ⟨hb1, hb2, hb3⟩ := hv_233
          refine lv_iload hx hb dX15_bodyPlain_66 (lv_at hl 0 rfl) ?_
          refine lv_iload_n hx hb dX15_bodyPlain_68 rfl (lv_at hl 2 rfl) ?_
          refine lv_icmp_le (tgt := 93) hx hb dX15_bodyPlain_69 (by decide) (fun c_236 => ?_) (fun c_236 => ?_)
          ·
            have hi_237 : kx ≤ j := (nI_leI (a := kx) (b := j) (by omega) (by omega)).mp c_236
            refine W.widen (k := 0) (n := 0) (by omega) (by omega) ?_
            exact jn_164 (nI kx) F_231 (⟨⟨kx, by omega, by omega, rfl⟩, hb3⟩) hO hR _ _ hP hD hS ls (lv_sub hl [0, 1, 2, 3, 4, 5] rfl)
          ·
            have hi_238 : j < kx := Nat.not_le.mp (fun q => c_236 ((nI_leI (a := kx) (b := j) (by omega) (by omega)).mpr q))
            refine lv_aload_n hx hb dX15_bodyPlain_72 rfl (lv_at hl 4 rfl) ?_
            refine pg_get (ci := 15) (v := .ref ml) (C := RX15) (T := TX15) (N := 59) hx hb hts it_15 hown hK hP hL_h0 hF_235 rfl 23 (by decide) (hts _ kt_902) (fun _ h9 => h9) rfl dX15_bodyPlain_73 ?_
            refine lv_iload hx hb dX15_bodyPlain_76 (lv_at hl 0 rfl) ?_
            refine lv_iconst (v := 1) hx hb dX15_bodyPlain_78 (by decide) ?_
            refine lv_isub hx hb dX15_bodyPlain_79 ?_
            refine lv_topi (fun x_239 ex_239 => ?_)
            obtain rfl : x_239 = (nI (kx - 1)) := ex_239.trans (pk_sub (a := kx) (b := 1) (by omega))
            obtain ⟨f_240, hF_241, hq_242⟩ := hO.octs hi_24 ht_25
            refine pg_bald hx hb hK hP hi_24 1 hF_241 rfl (vp_in_nI (by omega) (by omega)) dX15_bodyPlain_80 ?_
            refine lv_topi (fun x_243 ex_243 => ?_)
            obtain rfl : x_243 = f_240 (kx - 1) := ex_243.trans (congrArg f_240 (show ((nI (kx - 1)) : Int32).toNatClampNeg = (kx - 1) from nI_clamp (by omega)))
            have hFc := pg_free hD hS hA
            refine va_calli (va_runS (As := [.int (f_240 (kx - 1))]) (rest := []) ⟨hx, hb, hml, hown, hts⟩ (s_X15_isWhite l dC dI cs ty gm L H.size F_231 (f_240 (kx - 1)) hW ) ⟨callB_of 1 hts (gi kt_715) rfl rfl rfl (hts _ kt_669) (hts _ kt_716) (by decide +kernel) ⟨Nat.le_of_ble_eq_true rfl, Nat.le_of_ble_eq_true rfl⟩, (hts _ kt_717)⟩ ⟨fun a U g mk q => ⟨q.1, PTm.calling q.2⟩, fun U hU hWm => ⟨rfl, PTm.mk hU hWm hP hK hD hE hO⟩⟩ rfl rfl hl.1 rfl (lv_room (Nat.le_of_ble_eq_true rfl)) dX15_bodyPlain_81 ⟨by show _ + 0 ≤ 0; omega, by show _ + 0 ≤ 0; omega⟩) hS (fun q _ h => hFc q h) hFc (fun r_244 u t H1 locs ht hvm hw hB hz1 hk1 hS => ?_)
            obtain ⟨F_245, hB1⟩ := hB
            obtain rfl : F_231 = F_245 := (funext (fun a => hB1.2.2.2 a List.not_mem_nil)).symm
            obtain ⟨hP, hD, hO, hR⟩ := QTm.back hB1 ht hFc hR (fun q h => absurd h List.not_mem_nil)
            generalize H1 = H at hP hS ⊢
            have hw : (r_244 = 0 ∨ r_244 = 1) := hw
            have hw_246 := hw
            refine lv_if_eq (tgt := 93) hx hb dX15_bodyPlain_84 (by decide) (fun c_247 => ?_) (fun c_247 => ?_)
            ·
              refine W.widen (k := 0) (n := 0) (by omega) (by omega) ?_
              exact jn_164 (nI kx) F_231 (⟨⟨kx, by omega, by omega, rfl⟩, hb3⟩) hO hR _ _ hP hD hS ls (lv_sub hl [0, 1, 2, 3, 4, 5] rfl)
            ·
              refine lv_iinc (v := (nI (kx - 1))) (lv' := [(5, .int (nI (kx - 1))), (4, .int (nI kend)), (3, .int (nI j)), (2, .int (nI w2)), (0, .ref h0), (1, .int x1)]) hx hb dX15_bodyPlain_87 hl (k := 0) rfl (m1N (by omega)) (by decide) rfl (fun ls hl => ?_)
              refine lv_goto (tgt := 66) hx hb dX15_bodyPlain_90 (by decide) ?_
              refine W.widen (k := 0) (n := 0) (by omega) (by omega) ?_
              exact ih_234 (kx - 1) F_231 (⟨by omega, by omega, hb3⟩) (by show (kx - 1) < kx; omega) hO hR _ _ hP hD hS ls (lv_sub hl [0, 1, 2, 3, 4, 5] rfl)
    ·
      refine lv_aload_n hx hb dX15_bodyPlain_37 rfl (lv_at hl 3 rfl) ?_
      refine pg_get (ci := 15) (v := .ref ml) (C := RX15) (T := TX15) (N := 59) hx hb hts it_15 hown hK hP hL_h0 hF_138 rfl 23 (by decide) (hts _ kt_902) (fun _ h9 => h9) rfl dX15_bodyPlain_38 ?_
      refine lv_iload hx hb dX15_bodyPlain_41 (lv_at hl 0 rfl) ?_
      refine lv_iconst (v := 1) hx hb dX15_bodyPlain_43 (by decide) ?_
      refine lv_isub hx hb dX15_bodyPlain_44 ?_
      refine lv_topi (fun x_248 ex_248 => ?_)
      obtain rfl : x_248 = (nI (kend - 1)) := ex_248.trans (pk_sub (a := kend) (b := 1) (by omega))
      obtain ⟨f_249, hF_250, hq_251⟩ := hO.octs hi_24 ht_25
      refine pg_bald hx hb hK hP hi_24 1 hF_250 rfl (vp_in_nI (by omega) (by omega)) dX15_bodyPlain_45 ?_
      refine lv_topi (fun x_252 ex_252 => ?_)
      obtain rfl : x_252 = f_249 (kend - 1) := ex_252.trans (congrArg f_249 (show ((nI (kend - 1)) : Int32).toNatClampNeg = (kend - 1) from nI_clamp (by omega)))
      refine lv_bipush (v := 10) hx hb dX15_bodyPlain_46 (by decide) ?_
      refine lv_icmp_ne (tgt := 58) hx hb dX15_bodyPlain_48 (by decide) (fun c_253 => ?_) (fun c_253 => ?_)
      ·
        refine lv_iload hx hb dX15_bodyPlain_58 (lv_at hl 0 rfl) ?_
        refine W.widen (k := 0) (n := 0) (by omega) (by omega) ?_
        exact jn_159 (nI kend) F_134 (⟨⟨kend, by omega, by omega, rfl⟩, ha4⟩) hO hR _ _ hP hD hS ls (lv_sub hl [0, 1, 2, 3, 4] rfl)
      ·
        refine lv_iload hx hb dX15_bodyPlain_51 (lv_at hl 0 rfl) ?_
        refine lv_iconst (v := 1) hx hb dX15_bodyPlain_53 (by decide) ?_
        refine lv_isub hx hb dX15_bodyPlain_54 ?_
        refine lv_topi (fun x_254 ex_254 => ?_)
        obtain rfl : x_254 = (nI (kend - 1)) := ex_254.trans (pk_sub (a := kend) (b := 1) (by omega))
        refine lv_goto (tgt := 60) hx hb dX15_bodyPlain_55 (by decide) ?_
        refine W.widen (k := 0) (n := 0) (by omega) (by omega) ?_
        exact jn_159 (nI (kend - 1)) F_134 (⟨⟨(kend - 1), by omega, by omega, rfl⟩, ha4⟩) hO hR _ _ hP hD hS ls (lv_sub hl [0, 1, 2, 3, 4] rfl)
set_option maxHeartbeats 4000000 in
set_option maxRecDepth 100000 in
theorem s_X15_tell (l : Launch) (dC : Nat → ClassId) (dI : Nat → Nat → Nat) (cs : Nat → ClassId) (ty : TyM) (gm : Nat → Nat → Nat) (L : List Nat) (sz : Nat) (F : Nat → va_E) (h0 : Nat) (ρ : Nat) (ta : Nat) (ou : Nat) (so : Nat) (ad : Nat) (na : Nat) (va : Nat) (lc : Nat) (dm : Nat) (tg : Nat) (pe : Nat) (ml : Nat) (bg : Nat) (co : Nat) (sp : Nat) (nb0 : Nat) (nb1 : Nat) (nb2 : Nat) (pl : Nat) (se : Nat) (ke : Nat) (wi : Nat) (hs : Nat) (mo : Nat) (po : Nat) (nu : Nat) (pr : Nat) (sq : Nat) (xa : Nat) (sa : Nat) (n64 : Nat) (m64 : Nat) (ex : Nat) (wh : Nat) (sd : Nat) (tk : Nat) (hd : Nat) (ak : Nat) (ho : Nat) (ot : Nat) (sx : Nat) (s0 : Nat) (s1 : Nat) (s2 : Nat) (nf : Nat) (bd : Nat) (mm : Nat) (zt : Nat) (g1 : Nat) (σ : Nat) (r1 : Nat) (hW : WTm ty gm L) (hL_h0 : h0 ∈ L) (hT_h0 : ty h0 = (15, ρ, [ta, ou, so, ad, na, va, lc, dm, tg, pe, ml, bg, co, sp, nb0, nb1, nb2, pl, se, ke, wi, hs, mo, po, nu, pr, sq, xa, sa, n64, m64, ex, wh, sd, tk, hd, ak, ho, ot, sx, s0, s1, s2, nf, bd, mm, zt])) (hL_g1 : g1 ∈ L) (hT_g1 : ty g1 = (14, σ, [r1, 6000])) : Met l yX15_tell (.code yX15_tell cX15_tell 2 (some .int) :: tb) ({ frames := 1, cells := 0, slots := 0, locals := 48 }) (va_Pc [.ref h0, .ref g1] (PTm (dC, dI) cs ty gm L F sz)) (va_Qi (fun (r : Int32) (_ : Unit) => True) (fun _ T9 => ∃ F2 : Nat → va_E, QTm (dC, dI) cs ty gm L [ρ, ρ + 2] F F2 (va_A (va_pl L F) sz) T9) (va_A (va_pl L F) sz)) 0 0 (va_A (va_pl L F) sz) := by
  refine Met.ofW (cc := cX15_tell) (maxL := 2) (ret := (some .int)) (by decide) rfl ?_
  intro p e s m args below meth c s₁ B hml hv
  obtain ⟨rfl, hsz, hP, hK, hD0, hE, hO⟩ := hv
  have hx := B.exec
  have hb := B.bytes
  have hr := B.returns
  have hts : ∀ w ∈ tb, w.before _ s = true := fun w h => atoms_spec (ws := .code yX15_tell cX15_tell 2 (some .int) :: tb) B.pre w (List.mem_cons_of_mem _ h)
  have hown : s.vm.findClass RX15 = some m.cls := findClass_of_methodNamed B.named
  have hlocks := B.notSynchronized
  subst hsz
  have hD := hD0.self (sz := s.heap.size)
  generalize hAe : va_A (va_pl L F) s.heap.size = A at hD ⊢
  have hA : ∀ q : Nat, s.heap.size ≤ q → A q := fun q h => by rw [← hAe]; exact Or.inr h
  have hS : va_S A s.heap s.heap [] := va_S.rf
  have hR : FR ty [ρ, ρ + 2] F F := FR.refl
  have hl := lv_entry ([.ref h0, .ref g1]) (n := 2) (Nat.le_of_ble_eq_true rfl)
  rw [lg_entry_eq]
  generalize (lg_sl ([.ref h0, .ref g1]) ++ List.replicate (2 - (lg_sl ([.ref h0, .ref g1])).length) Slot.unset).toArray = ls at hl ⊢
  have hl : lv_has ls 2 [(0, .ref h0), (1, .ref g1)] := hl
  obtain ⟨hi_1, ht_2, hi_3, ht_4, hi_5, ht_6, hi_7, ht_8, hi_9, ht_10, hi_11, ht_12, hi_13, ⟨r_14, ht_15⟩, hi_16, ⟨r_17, ht_18⟩, hi_19, ht_20, hi_21, ⟨r_22, ht_23⟩, hi_24, ht_25, hi_26, ht_27, hi_28, ht_29, hi_30, ht_31, hi_32, ht_33, hi_34, ht_35, hi_36, ht_37, hi_38, ⟨r_39, ht_40⟩, hi_41, ht_42, hi_43, ⟨x_44, y0_45, y1_46, y2_47, ht_48⟩, hi_49, ⟨x_50, y0_51, y1_52, y2_53, ht_54⟩, hi_55, ⟨x_56, y_57, w_58, u_59, bl_60, ht_61⟩, hi_62, ht_63, hi_64, ht_65, hi_66, ht_67, hi_68, ht_69, hi_70, ht_71, hi_72, ht_73, hi_74, ht_75, hi_76, ht_77, hi_78, ht_79, hi_80, ht_81, hi_82, ⟨r_83, ht_84⟩, hi_85, ⟨r_86, ht_87⟩, hi_88, ht_89, hi_90, ht_91, hi_92, ⟨r_93, ht_94⟩, hi_95, ⟨r_96, ht_97⟩, hi_98, ⟨r_99, ht_100⟩, hq_101, hq_102, hq_103, hq_104, hq_105, hgO, hgA, hgB⟩ := hW.mod hL_h0 hT_h0
  obtain ⟨hi_106, ht_107, hq_108⟩ := hW.txt hL_g1 hT_g1
  refine lv_aload_n hx hb dX15_tell_0 rfl (lv_at hl 1 rfl) ?_
  obtain ⟨z_109, hF_110, hq_111⟩ := hO.txt hL_g1 hT_g1
  refine pg_get (ci := 14) (v := .ref r1) (C := RX14) (T := TX14) (N := 2) hx hb hts it_14 hown hK hP hL_g1 hF_110 rfl 0 (by decide) (hts _ kt_710) (fun _ h9 => h9) rfl dX15_tell_1 ?_
  refine lv_iconst (v := 0) hx hb dX15_tell_4 (by decide) ?_
  refine lv_aload_n hx hb dX15_tell_5 rfl (lv_at hl 0 rfl) ?_
  obtain ⟨zo_112, ze_113, v11_114, v12_115, v14_116, v15_117, v17_118, v18_119, v19_120, v20_121, v21_122, v22_123, v33_124, v52_125, v53_126, v54_127, hF_128, hq_129, hq_130, hq_131, hq_132⟩ := hO.mod hL_h0 hT_h0
  refine pg_get (ci := 15) (v := .ref ou) (C := RX15) (T := TX15) (N := 59) hx hb hts it_15 hown hK hP hL_h0 hF_128 rfl 4 (by decide) (hts _ kt_922) (fun _ h9 => h9) rfl dX15_tell_6 ?_
  refine lv_iconst (v := 0) hx hb dX15_tell_9 (by decide) ?_
  refine lv_aload_n hx hb dX15_tell_10 rfl (lv_at hl 1 rfl) ?_
  refine pg_get (ci := 14) (v := .int (nI z_109)) (C := RX14) (T := TX14) (N := 2) hx hb hts it_14 hown hK hP hL_g1 hF_110 rfl 1 (by decide) (hts _ kt_709) (fun _ h9 => h9) rfl dX15_tell_11 ?_
  obtain ⟨hq_133, hq_134⟩ := hW.octs hi_106 ht_107
  obtain ⟨f_135, hF_136, hq_137⟩ := hO.octs hi_106 ht_107
  obtain ⟨hq_138, hq_139⟩ := hW.octs hi_3 ht_4
  obtain ⟨f_140, hF_141, hq_142⟩ := hO.octs hi_3 ht_4
  refine pg_copyi hx hb (by rw [hml]; exact hl.1.symm) hown (hts _ kt_923) (hts _ kt_29) (hts _ kt_30) (hts _ kt_31) hK hP hD hS hi_106 hi_3 1 1 hF_136 hF_141 rfl rfl rfl (by decide) (by decide) (nI_pos (by omega)) (by rw [nI_clamp (by omega)]; show 0 + _ ≤ _; omega) (by rw [nI_clamp (by omega)]; show 0 + _ ≤ _; omega) (fun _ _ => hq_137 _) (Nat.le_of_ble_eq_true rfl) (by decide) dX15_tell_14 (fun H locs hP hD hS => ?_)
  obtain ⟨F_143, he_144, hP, hD, hO, hR⟩ : ∃ G, G = va_up F ou (.inl (cs 17, 6000, .inl (va_cpy f_135 f_140 (0 : Int32).toNatClampNeg (0 : Int32).toNatClampNeg ((nI z_109)).toNatClampNeg))) ∧ va_P (dC, dI) vwCl (va_pl L G) H ∧ va_D A (va_pl L G) ∧ OKm cs ty gm L G ∧ FR ty [ρ, ρ + 2] F G := ⟨_, rfl, hP, hD, hO.up (shm.octs ht_4 ⟨_, rfl, bfm_cpy hq_137 hq_142 _ _ _⟩), hR.up ht_4 (by simp)⟩
  have hF_145 : F_143 ou = .inl (cs 17, 6000, .inl (va_cpy f_135 f_140 (0 : Int32).toNatClampNeg (0 : Int32).toNatClampNeg ((nI z_109)).toNatClampNeg)) := by rw [he_144]; exact up_self
  have hF_146 : F_143 g1 = .inr (14, [.ref r1, .int (nI z_109)]) := by rw [he_144, up_ne (ne_ty hT_g1 ht_4 (by simp))]; exact hF_110
  have hF_147 : F_143 h0 = .inr (15, (.ref ta) :: (.int (nI zt)) :: (.int (nI zo_112)) :: (.int (nI ze_113)) :: (.ref ou) :: (.ref so) :: (.ref ad) :: (.ref na) :: (.ref va) :: (.ref lc) :: (.ref dm) :: (.int v11_114) :: (.int v12_115) :: (.ref tg) :: (.int v14_116) :: (.int v15_117) :: (.ref pe) :: (.int v17_118) :: (.int v18_119) :: (.int v19_120) :: (.int v20_121) :: (.int v21_122) :: (.int v22_123) :: (.ref ml) :: (.ref bg) :: (.ref co) :: (.ref sp) :: (.ref nb0) :: (.ref nb1) :: (.ref nb2) :: (.int (nI nf)) :: (.int (nI bd)) :: (.int (nI mm)) :: (.int v33_124) :: (.ref pl) :: (.ref se) :: (.ref ke) :: (.ref wi) :: (.ref hs) :: (.ref mo) :: (.ref po) :: (.ref nu) :: (.ref pr) :: (.ref sq) :: (.ref xa) :: (.ref sa) :: (.ref n64) :: (.ref m64) :: (.ref ex) :: (.ref wh) :: (.ref sd) :: (.ref tk) :: (.int v52_125) :: (.int v53_126) :: (.int v54_127) :: (.ref hd) :: (.ref ak) :: (.ref ho) :: (.ref ot) :: []) := by rw [he_144, up_ne (ne_ty hT_h0 ht_4 (by simp))]; exact hF_128
  obtain ⟨f_148, hF_145, hq_149⟩ : ∃ f : Nat → Int32, F_143 ou = .inl (cs 17, 6000, .inl f) ∧ BFm f := ⟨_, hF_145, bfm_cpy hq_137 hq_142 _ _ _⟩
  refine lv_aload_n hx hb dX15_tell_17 rfl (lv_at hl 0 rfl) ?_
  refine lv_aload_n hx hb dX15_tell_18 rfl (lv_at hl 1 rfl) ?_
  refine pg_get (ci := 14) (v := .int (nI z_109)) (C := RX14) (T := TX14) (N := 2) hx hb hts it_14 hown hK hP hL_g1 hF_146 rfl 1 (by decide) (hts _ kt_709) (fun _ h9 => h9) rfl dX15_tell_19 ?_
  refine pg_put (ci := 15) (v := .int (nI z_109)) (ty := .int) (C := RX15) (T := TX15) (N := 59) hx hb hts it_15 tyX15 tyX15_ok nmX15 hown hK hP hD hS hL_h0 hF_147 rfl 2 (by decide) (hts _ kt_924) (fun _ h9 => h9) rfl (by decide +kernel) (rfl) (rfl) (Nat.le_of_ble_eq_true rfl) dX15_tell_22 (fun H locs hP hD hS => ?_)
  obtain ⟨F_150, he_151, hP, hD, hO, hR⟩ : ∃ G, G = va_up F_143 h0 (.inr (15, (.ref ta) :: (.int (nI zt)) :: (.int (nI z_109)) :: (.int (nI ze_113)) :: (.ref ou) :: (.ref so) :: (.ref ad) :: (.ref na) :: (.ref va) :: (.ref lc) :: (.ref dm) :: (.int v11_114) :: (.int v12_115) :: (.ref tg) :: (.int v14_116) :: (.int v15_117) :: (.ref pe) :: (.int v17_118) :: (.int v18_119) :: (.int v19_120) :: (.int v20_121) :: (.int v21_122) :: (.int v22_123) :: (.ref ml) :: (.ref bg) :: (.ref co) :: (.ref sp) :: (.ref nb0) :: (.ref nb1) :: (.ref nb2) :: (.int (nI nf)) :: (.int (nI bd)) :: (.int (nI mm)) :: (.int v33_124) :: (.ref pl) :: (.ref se) :: (.ref ke) :: (.ref wi) :: (.ref hs) :: (.ref mo) :: (.ref po) :: (.ref nu) :: (.ref pr) :: (.ref sq) :: (.ref xa) :: (.ref sa) :: (.ref n64) :: (.ref m64) :: (.ref ex) :: (.ref wh) :: (.ref sd) :: (.ref tk) :: (.int v52_125) :: (.int v53_126) :: (.int v54_127) :: (.ref hd) :: (.ref ak) :: (.ref ho) :: (.ref ot) :: [])) ∧ va_P (dC, dI) vwCl (va_pl L G) H ∧ va_D A (va_pl L G) ∧ OKm cs ty gm L G ∧ FR ty [ρ, ρ + 2] F G := ⟨_, rfl, hP, hD, hO.up (shm.mod hT_h0 ⟨z_109, ze_113, v11_114, v12_115, v14_116, v15_117, v17_118, v18_119, v19_120, v20_121, v21_122, v22_123, v33_124, v52_125, v53_126, v54_127, rfl, (by first | omega | assumption | exact Or.inl rfl | exact Or.inr rfl), (by first | omega | assumption | exact Or.inl rfl | exact Or.inr rfl), (by first | omega | assumption | exact Or.inl rfl | exact Or.inr rfl), (by first | omega | assumption | exact Or.inl rfl | exact Or.inr rfl)⟩), hR.up hT_h0 (by simp)⟩
  have hF_152 : F_150 h0 = .inr (15, (.ref ta) :: (.int (nI zt)) :: (.int (nI z_109)) :: (.int (nI ze_113)) :: (.ref ou) :: (.ref so) :: (.ref ad) :: (.ref na) :: (.ref va) :: (.ref lc) :: (.ref dm) :: (.int v11_114) :: (.int v12_115) :: (.ref tg) :: (.int v14_116) :: (.int v15_117) :: (.ref pe) :: (.int v17_118) :: (.int v18_119) :: (.int v19_120) :: (.int v20_121) :: (.int v21_122) :: (.int v22_123) :: (.ref ml) :: (.ref bg) :: (.ref co) :: (.ref sp) :: (.ref nb0) :: (.ref nb1) :: (.ref nb2) :: (.int (nI nf)) :: (.int (nI bd)) :: (.int (nI mm)) :: (.int v33_124) :: (.ref pl) :: (.ref se) :: (.ref ke) :: (.ref wi) :: (.ref hs) :: (.ref mo) :: (.ref po) :: (.ref nu) :: (.ref pr) :: (.ref sq) :: (.ref xa) :: (.ref sa) :: (.ref n64) :: (.ref m64) :: (.ref ex) :: (.ref wh) :: (.ref sd) :: (.ref tk) :: (.int v52_125) :: (.int v53_126) :: (.int v54_127) :: (.ref hd) :: (.ref ak) :: (.ref ho) :: (.ref ot) :: []) := by rw [he_151]; exact up_self
  have hF_153 : F_150 ou = .inl (cs 17, 6000, .inl f_148) := by rw [he_151, up_ne (ne_ty ht_4 hT_h0 (by simp))]; exact hF_145
  have hF_154 : F_150 g1 = .inr (14, [.ref r1, .int (nI z_109)]) := by rw [he_151, up_ne (ne_ty hT_g1 hT_h0 (by simp))]; exact hF_146
  refine lv_aload_n hx hb dX15_tell_25 rfl (lv_at hl 1 rfl) ?_
  refine pg_get (ci := 14) (v := .int (nI z_109)) (C := RX14) (T := TX14) (N := 2) hx hb hts it_14 hown hK hP hL_g1 hF_154 rfl 1 (by decide) (hts _ kt_709) (fun _ h9 => h9) rfl dX15_tell_26 ?_
  refine W.widen (k := 0) (n := 0) (by omega) (by omega) ?_
  exact W.iret (v := (nI z_109)) hx hb hr (fun t ht hWm => ⟨⟨(nI z_109), (), rfl, trivial, ⟨F_150, QTm.mk ht hP hD hO hR⟩⟩, hS.F ht⟩) hS.2.2 dX15_tell_29
set_option maxHeartbeats 4000000 in
set_option maxRecDepth 100000 in
theorem s_X15_plainBody (l : Launch) (dC : Nat → ClassId) (dI : Nat → Nat → Nat) (cs : Nat → ClassId) (ty : TyM) (gm : Nat → Nat → Nat) (L : List Nat) (sz : Nat) (F : Nat → va_E) (h0 : Nat) (ρ : Nat) (ta : Nat) (ou : Nat) (so : Nat) (ad : Nat) (na : Nat) (va : Nat) (lc : Nat) (dm : Nat) (tg : Nat) (pe : Nat) (ml : Nat) (bg : Nat) (co : Nat) (sp : Nat) (nb0 : Nat) (nb1 : Nat) (nb2 : Nat) (pl : Nat) (se : Nat) (ke : Nat) (wi : Nat) (hs : Nat) (mo : Nat) (po : Nat) (nu : Nat) (pr : Nat) (sq : Nat) (xa : Nat) (sa : Nat) (n64 : Nat) (m64 : Nat) (ex : Nat) (wh : Nat) (sd : Nat) (tk : Nat) (hd : Nat) (ak : Nat) (ho : Nat) (ot : Nat) (sx : Nat) (s0 : Nat) (s1 : Nat) (s2 : Nat) (nf : Nat) (bd : Nat) (mm : Nat) (zt : Nat) (rl : Nat) (x1 : Int32) (hW : WTm ty gm L) (hL_h0 : h0 ∈ L) (hT_h0 : ty h0 = (15, ρ, [ta, ou, so, ad, na, va, lc, dm, tg, pe, ml, bg, co, sp, nb0, nb1, nb2, pl, se, ke, wi, hs, mo, po, nu, pr, sq, xa, sa, n64, m64, ex, wh, sd, tk, hd, ak, ho, ot, sx, s0, s1, s2, nf, bd, mm, zt])) (hL_pl : pl ∈ L) (hT_pl : ty pl = (14, ρ + 10, [rl, 6000])) : Met l yX15_plainBody (.code yX15_plainBody cX15_plainBody 2 (some .int) :: tb) ({ frames := 3, cells := 0, slots := 0, locals := 72 }) (va_Pc [.ref h0, .int x1] (PTm (dC, dI) cs ty gm L F sz)) (va_Qi (fun (r : Int32) (_ : Unit) => True) (fun _ T9 => ∃ F2 : Nat → va_E, QTm (dC, dI) cs ty gm L [ρ, ρ + 2, ρ + 10] F F2 (va_A (va_pl L F) sz) T9) (va_A (va_pl L F) sz)) 0 0 (va_A (va_pl L F) sz) := by
  refine Met.ofW (cc := cX15_plainBody) (maxL := 2) (ret := (some .int)) (by decide) rfl ?_
  intro p e s m args below meth c s₁ B hml hv
  obtain ⟨rfl, hsz, hP, hK, hD0, hE, hO⟩ := hv
  have hx := B.exec
  have hb := B.bytes
  have hr := B.returns
  have hts : ∀ w ∈ tb, w.before _ s = true := fun w h => atoms_spec (ws := .code yX15_plainBody cX15_plainBody 2 (some .int) :: tb) B.pre w (List.mem_cons_of_mem _ h)
  have hown : s.vm.findClass RX15 = some m.cls := findClass_of_methodNamed B.named
  have hlocks := B.notSynchronized
  subst hsz
  have hD := hD0.self (sz := s.heap.size)
  generalize hAe : va_A (va_pl L F) s.heap.size = A at hD ⊢
  have hA : ∀ q : Nat, s.heap.size ≤ q → A q := fun q h => by rw [← hAe]; exact Or.inr h
  have hS : va_S A s.heap s.heap [] := va_S.rf
  have hR : FR ty [ρ, ρ + 2, ρ + 10] F F := FR.refl
  have hl := lv_entry ([.ref h0, .int x1]) (n := 2) (Nat.le_of_ble_eq_true rfl)
  rw [lg_entry_eq]
  generalize (lg_sl ([.ref h0, .int x1]) ++ List.replicate (2 - (lg_sl ([.ref h0, .int x1])).length) Slot.unset).toArray = ls at hl ⊢
  have hl : lv_has ls 2 [(0, .ref h0), (1, .int x1)] := hl
  obtain ⟨hi_1, ht_2, hi_3, ht_4, hi_5, ht_6, hi_7, ht_8, hi_9, ht_10, hi_11, ht_12, hi_13, ⟨r_14, ht_15⟩, hi_16, ⟨r_17, ht_18⟩, hi_19, ht_20, hi_21, ⟨r_22, ht_23⟩, hi_24, ht_25, hi_26, ht_27, hi_28, ht_29, hi_30, ht_31, hi_32, ht_33, hi_34, ht_35, hi_36, ht_37, _, _, hi_38, ht_39, hi_40, ⟨x_41, y0_42, y1_43, y2_44, ht_45⟩, hi_46, ⟨x_47, y0_48, y1_49, y2_50, ht_51⟩, hi_52, ⟨x_53, y_54, w_55, u_56, bl_57, ht_58⟩, hi_59, ht_60, hi_61, ht_62, hi_63, ht_64, hi_65, ht_66, hi_67, ht_68, hi_69, ht_70, hi_71, ht_72, hi_73, ht_74, hi_75, ht_76, hi_77, ht_78, hi_79, ⟨r_80, ht_81⟩, hi_82, ⟨r_83, ht_84⟩, hi_85, ht_86, hi_87, ht_88, hi_89, ⟨r_90, ht_91⟩, hi_92, ⟨r_93, ht_94⟩, hi_95, ⟨r_96, ht_97⟩, hq_98, hq_99, hq_100, hq_101, hq_102, hgO, hgA, hgB⟩ := hW.mod hL_h0 hT_h0
  obtain ⟨hi_103, ht_104, hq_105⟩ := hW.txt hL_pl hT_pl
  refine lv_aload_n hx hb dX15_plainBody_0 rfl (lv_at hl 0 rfl) ?_
  obtain ⟨zo_106, ze_107, v11_108, v12_109, v14_110, v15_111, v17_112, v18_113, v19_114, v20_115, v21_116, v22_117, v33_118, v52_119, v53_120, v54_121, hF_122, hq_123, hq_124, hq_125, hq_126⟩ := hO.mod hL_h0 hT_h0
  refine pg_get (ci := 15) (v := .int v33_118) (C := RX15) (T := TX15) (N := 59) hx hb hts it_15 hown hK hP hL_h0 hF_122 rfl 33 (by decide) (hts _ kt_906) (fun _ h9 => h9) rfl dX15_plainBody_1 ?_
  refine lv_if_ne (tgt := 10) hx hb dX15_plainBody_4 (by decide) (fun c_127 => ?_) (fun c_127 => ?_)
  ·
    have hbd1 : 1 ≤ bd := by have h9 := hq_125.resolve_left c_127; omega
    refine lv_aload_n hx hb dX15_plainBody_10 rfl (lv_at hl 0 rfl) ?_
    refine lv_iload_n hx hb dX15_plainBody_11 rfl (lv_at hl 1 rfl) ?_
    have hFc := pg_free hD hS hA
    refine va_callv (va_runV (As := [.int x1]) (rest := []) ⟨hx, hb, hml, hown, hts⟩ (s_X15_bodyPlain l dC dI cs ty gm L s.heap.size F h0 ρ ta ou so ad na va lc dm tg pe ml bg co sp nb0 nb1 nb2 pl se ke wi hs mo po nu pr sq xa sa n64 m64 ex wh sd tk hd ak ho ot sx s0 s1 s2 nf bd mm zt rl x1 hW hL_h0 hT_h0 hL_pl hT_pl (by first | omega | assumption)) ⟨callB_of 1 hts (gi kt_925) rfl rfl rfl (hts _ kt_669) (hts _ kt_926) (by decide +kernel) ⟨Nat.le_of_ble_eq_true rfl, Nat.le_of_ble_eq_true rfl⟩, (hts _ kt_927), (hts _ kt_928)⟩ ⟨fun a U g mk q => ⟨q.1, PTm.calling q.2⟩, pg_recv hK hP hL_h0 hF_122 (q := (RX15, TX15, 59)) rfl, fun U hU hWm => ⟨rfl, PTm.mk hU hWm hP hK hD hE hO⟩⟩ rfl rfl hl.1 rfl (lv_room (Nat.le_of_ble_eq_true rfl)) dX15_plainBody_12 ⟨by show _ + 0 ≤ 0; omega, by show _ + 0 ≤ 0; omega⟩) hS (fun q _ h => hFc q h) hFc (fun u t H1 locs ht hvm hw hB hz1 hk1 hS => ?_)
    obtain ⟨F_129, hB1⟩ := hB
    obtain ⟨hP, hD, hO, hR⟩ := QTm.back hB1 ht hFc hR (fun q h => by simp only [List.mem_cons, List.not_mem_nil, or_false] at h ⊢; omega)
    have hF_130 : F_129 h0 = .inr (15, (.ref ta) :: (.int (nI zt)) :: (.int (nI zo_106)) :: (.int (nI ze_107)) :: (.ref ou) :: (.ref so) :: (.ref ad) :: (.ref na) :: (.ref va) :: (.ref lc) :: (.ref dm) :: (.int v11_108) :: (.int v12_109) :: (.ref tg) :: (.int v14_110) :: (.int v15_111) :: (.ref pe) :: (.int v17_112) :: (.int v18_113) :: (.int v19_114) :: (.int v20_115) :: (.int v21_116) :: (.int v22_117) :: (.ref ml) :: (.ref bg) :: (.ref co) :: (.ref sp) :: (.ref nb0) :: (.ref nb1) :: (.ref nb2) :: (.int (nI nf)) :: (.int (nI bd)) :: (.int (nI mm)) :: (.int v33_118) :: (.ref pl) :: (.ref se) :: (.ref ke) :: (.ref wi) :: (.ref hs) :: (.ref mo) :: (.ref po) :: (.ref nu) :: (.ref pr) :: (.ref sq) :: (.ref xa) :: (.ref sa) :: (.ref n64) :: (.ref m64) :: (.ref ex) :: (.ref wh) :: (.ref sd) :: (.ref tk) :: (.int v52_119) :: (.int v53_120) :: (.int v54_121) :: (.ref hd) :: (.ref ak) :: (.ref ho) :: (.ref ot) :: []) := (hB1.2.2.2 h0 (by rw [hT_h0]; simp)).trans hF_122
    generalize H1 = H at hP hS ⊢
    refine lv_aload_n hx hb dX15_plainBody_15 rfl (lv_at hl 0 rfl) ?_
    refine lv_aload_n hx hb dX15_plainBody_16 rfl (lv_at hl 0 rfl) ?_
    refine pg_get (ci := 15) (v := .ref pl) (C := RX15) (T := TX15) (N := 59) hx hb hts it_15 hown hK hP hL_h0 hF_130 rfl 34 (by decide) (hts _ kt_916) (fun _ h9 => h9) rfl dX15_plainBody_17 ?_
    have hFc := pg_free hD hS hA
    refine va_calli (va_runV (As := [.ref pl]) (rest := []) ⟨hx, hb, hml, hown, hts⟩ (s_X15_tell l dC dI cs ty gm L H.size F_129 h0 ρ ta ou so ad na va lc dm tg pe ml bg co sp nb0 nb1 nb2 pl se ke wi hs mo po nu pr sq xa sa n64 m64 ex wh sd tk hd ak ho ot sx s0 s1 s2 nf bd mm zt pl (ρ + 10) rl hW hL_h0 hT_h0 hL_pl hT_pl) ⟨callB_of 1 hts (gi kt_929) rfl rfl rfl (hts _ kt_669) (hts _ kt_930) (by decide +kernel) ⟨Nat.le_of_ble_eq_true rfl, Nat.le_of_ble_eq_true rfl⟩, (hts _ kt_931), (hts _ kt_932)⟩ ⟨fun a U g mk q => ⟨q.1, PTm.calling q.2⟩, pg_recv hK hP hL_h0 hF_130 (q := (RX15, TX15, 59)) rfl, fun U hU hWm => ⟨rfl, PTm.mk hU hWm hP hK hD hE hO⟩⟩ rfl rfl hl.1 rfl (lv_room (Nat.le_of_ble_eq_true rfl)) dX15_plainBody_20 ⟨by show _ + 0 ≤ 0; omega, by show _ + 0 ≤ 0; omega⟩) hS (fun q _ h => hFc q h) hFc (fun r_131 u t H1 locs ht hvm hw hB hz1 hk1 hS => ?_)
    obtain ⟨F_132, hB1⟩ := hB
    obtain ⟨hP, hD, hO, hR⟩ := QTm.back hB1 ht hFc hR (fun q h => by simp only [List.mem_cons, List.not_mem_nil, or_false] at h ⊢; omega)
    generalize H1 = H at hP hS ⊢
    have hw : True := hw
    have hw_133 := hw
    refine W.widen (k := 0) (n := 0) (by omega) (by omega) ?_
    exact W.iret (v := r_131) hx hb hr (fun t ht hWm => ⟨⟨r_131, (), rfl, trivial, ⟨F_132, QTm.mk ht hP hD hO hR⟩⟩, hS.F ht⟩) hS.2.2 dX15_plainBody_23
  ·
    refine lv_bipush (v := (-2)) hx hb dX15_plainBody_7 (by decide) ?_
    refine W.widen (k := 0) (n := 0) (by omega) (by omega) ?_
    exact W.iret (v := (-2)) hx hb hr (fun t ht hWm => ⟨⟨(-2), (), rfl, trivial, ⟨F, QTm.mk ht hP hD hO hR⟩⟩, hS.F ht⟩) hS.2.2 dX15_plainBody_9
set_option maxHeartbeats 4000000 in
set_option maxRecDepth 100000 in
theorem s_X15_plainField (l : Launch) (dC : Nat → ClassId) (dI : Nat → Nat → Nat) (cs : Nat → ClassId) (ty : TyM) (gm : Nat → Nat → Nat) (L : List Nat) (sz : Nat) (F : Nat → va_E) (h0 : Nat) (ρ : Nat) (ta : Nat) (ou : Nat) (so : Nat) (ad : Nat) (na : Nat) (va : Nat) (lc : Nat) (dm : Nat) (tg : Nat) (pe : Nat) (ml : Nat) (bg : Nat) (co : Nat) (sp : Nat) (nb0 : Nat) (nb1 : Nat) (nb2 : Nat) (pl : Nat) (se : Nat) (ke : Nat) (wi : Nat) (hs : Nat) (mo : Nat) (po : Nat) (nu : Nat) (pr : Nat) (sq : Nat) (xa : Nat) (sa : Nat) (n64 : Nat) (m64 : Nat) (ex : Nat) (wh : Nat) (sd : Nat) (tk : Nat) (hd : Nat) (ak : Nat) (ho : Nat) (ot : Nat) (sx : Nat) (s0 : Nat) (s1 : Nat) (s2 : Nat) (nf : Nat) (bd : Nat) (mm : Nat) (zt : Nat) (rl : Nat) (x1 : Int32) (x2 : Int32) (hW : WTm ty gm L) (hL_h0 : h0 ∈ L) (hT_h0 : ty h0 = (15, ρ, [ta, ou, so, ad, na, va, lc, dm, tg, pe, ml, bg, co, sp, nb0, nb1, nb2, pl, se, ke, wi, hs, mo, po, nu, pr, sq, xa, sa, n64, m64, ex, wh, sd, tk, hd, ak, ho, ot, sx, s0, s1, s2, nf, bd, mm, zt])) (hL_pl : pl ∈ L) (hT_pl : ty pl = (14, ρ + 10, [rl, 6000])) : Met l yX15_plainField (.code yX15_plainField cX15_plainField 3 (some .int) :: tb) ({ frames := 2, cells := 0, slots := 0, locals := 69 }) (va_Pc [.ref h0, .int x1, .int x2] (PTm (dC, dI) cs ty gm L F sz)) (va_Qi (fun (r : Int32) (_ : Unit) => True) (fun _ T9 => ∃ F2 : Nat → va_E, QTm (dC, dI) cs ty gm L [ρ, ρ + 2, ρ + 10] F F2 (va_A (va_pl L F) sz) T9) (va_A (va_pl L F) sz)) 0 0 (va_A (va_pl L F) sz) := by
  refine Met.ofW (cc := cX15_plainField) (maxL := 3) (ret := (some .int)) (by decide) rfl ?_
  intro p e s m args below meth c s₁ B hml hv
  obtain ⟨rfl, hsz, hP, hK, hD0, hE, hO⟩ := hv
  have hx := B.exec
  have hb := B.bytes
  have hr := B.returns
  have hts : ∀ w ∈ tb, w.before _ s = true := fun w h => atoms_spec (ws := .code yX15_plainField cX15_plainField 3 (some .int) :: tb) B.pre w (List.mem_cons_of_mem _ h)
  have hown : s.vm.findClass RX15 = some m.cls := findClass_of_methodNamed B.named
  have hlocks := B.notSynchronized
  subst hsz
  have hD := hD0.self (sz := s.heap.size)
  generalize hAe : va_A (va_pl L F) s.heap.size = A at hD ⊢
  have hA : ∀ q : Nat, s.heap.size ≤ q → A q := fun q h => by rw [← hAe]; exact Or.inr h
  have hS : va_S A s.heap s.heap [] := va_S.rf
  have hR : FR ty [ρ, ρ + 2, ρ + 10] F F := FR.refl
  have hl := lv_entry ([.ref h0, .int x1, .int x2]) (n := 3) (Nat.le_of_ble_eq_true rfl)
  rw [lg_entry_eq]
  generalize (lg_sl ([.ref h0, .int x1, .int x2]) ++ List.replicate (3 - (lg_sl ([.ref h0, .int x1, .int x2])).length) Slot.unset).toArray = ls at hl ⊢
  have hl : lv_has ls 3 [(0, .ref h0), (1, .int x1), (2, .int x2)] := hl
  obtain ⟨hi_1, ht_2, hi_3, ht_4, hi_5, ht_6, hi_7, ht_8, hi_9, ht_10, hi_11, ht_12, hi_13, ⟨r_14, ht_15⟩, hi_16, ⟨r_17, ht_18⟩, hi_19, ht_20, hi_21, ⟨r_22, ht_23⟩, hi_24, ht_25, hi_26, ht_27, hi_28, ht_29, hi_30, ht_31, hi_32, ht_33, hi_34, ht_35, hi_36, ht_37, _, _, hi_38, ht_39, hi_40, ⟨x_41, y0_42, y1_43, y2_44, ht_45⟩, hi_46, ⟨x_47, y0_48, y1_49, y2_50, ht_51⟩, hi_52, ⟨x_53, y_54, w_55, u_56, bl_57, ht_58⟩, hi_59, ht_60, hi_61, ht_62, hi_63, ht_64, hi_65, ht_66, hi_67, ht_68, hi_69, ht_70, hi_71, ht_72, hi_73, ht_74, hi_75, ht_76, hi_77, ht_78, hi_79, ⟨r_80, ht_81⟩, hi_82, ⟨r_83, ht_84⟩, hi_85, ht_86, hi_87, ht_88, hi_89, ⟨r_90, ht_91⟩, hi_92, ⟨r_93, ht_94⟩, hi_95, ⟨r_96, ht_97⟩, hq_98, hq_99, hq_100, hq_101, hq_102, hgO, hgA, hgB⟩ := hW.mod hL_h0 hT_h0
  obtain ⟨hi_103, ht_104, hq_105⟩ := hW.txt hL_pl hT_pl
  refine lv_aload_n hx hb dX15_plainField_0 rfl (lv_at hl 0 rfl) ?_
  obtain ⟨zo_106, ze_107, v11_108, v12_109, v14_110, v15_111, v17_112, v18_113, v19_114, v20_115, v21_116, v22_117, v33_118, v52_119, v53_120, v54_121, hF_122, hq_123, hq_124, hq_125, hq_126⟩ := hO.mod hL_h0 hT_h0
  refine pg_get (ci := 15) (v := .int v33_118) (C := RX15) (T := TX15) (N := 59) hx hb hts it_15 hown hK hP hL_h0 hF_122 rfl 33 (by decide) (hts _ kt_906) (fun _ h9 => h9) rfl dX15_plainField_1 ?_
  refine lv_if_eq (tgt := 23) hx hb dX15_plainField_4 (by decide) (fun c_127 => ?_) (fun c_127 => ?_)
  ·
    refine lv_bipush (v := (-2)) hx hb dX15_plainField_23 (by decide) ?_
    refine W.widen (k := 0) (n := 0) (by omega) (by omega) ?_
    exact W.iret (v := (-2)) hx hb hr (fun t ht hWm => ⟨⟨(-2), (), rfl, trivial, ⟨F, QTm.mk ht hP hD hO hR⟩⟩, hS.F ht⟩) hS.2.2 dX15_plainField_25
  ·
    refine lv_iload_n hx hb dX15_plainField_7 rfl (lv_at hl 1 rfl) ?_
    refine lv_i2l (v := x1.toInt64) hx hb dX15_plainField_8 rfl ?_
    refine lv_lconst (v := 0) hx hb dX15_plainField_9 (by decide) ?_
    refine lv_aload_n hx hb dX15_plainField_10 rfl (lv_at hl 0 rfl) ?_
    refine pg_get (ci := 15) (v := .int (nI nf)) (C := RX15) (T := TX15) (N := 59) hx hb hts it_15 hown hK hP hL_h0 hF_122 rfl 30 (by decide) (hts _ kt_907) (fun _ h9 => h9) rfl dX15_plainField_11 ?_
    refine lv_iconst (v := 1) hx hb dX15_plainField_14 (by decide) ?_
    refine lv_isub hx hb dX15_plainField_15 ?_
    refine lv_topi (fun x_128 ex_128 => ?_)
    obtain rfl : x_128 = (nI nf - 1) := ex_128.trans (rfl)
    refine lv_i2l (v := (nI nf - 1).toInt64) hx hb dX15_plainField_16 rfl ?_
    have hFc := pg_free hD hS hA
    refine va_calli (va_runS (As := [.long x1.toInt64, .long 0, .long ((nI nf - 1).toInt64)]) (rest := []) ⟨hx, hb, hml, hown, hts⟩ (s_X15_in l dC dI cs ty gm L s.heap.size F x1.toInt64 0 ((nI nf - 1).toInt64) hW ) ⟨callB_of 3 hts (gi kt_685) rfl rfl rfl (hts _ kt_669) (hts _ kt_705) (by decide +kernel) ⟨Nat.le_of_ble_eq_true rfl, Nat.le_of_ble_eq_true rfl⟩, (hts _ kt_686)⟩ ⟨fun a U g mk q => ⟨q.1, PTm.calling q.2⟩, fun U hU hWm => ⟨rfl, PTm.mk hU hWm hP hK hD hE hO⟩⟩ rfl rfl hl.1 rfl (lv_room (Nat.le_of_ble_eq_true rfl)) dX15_plainField_17 ⟨by show _ + 0 ≤ 0; omega, by show _ + 0 ≤ 0; omega⟩) hS (fun q _ h => hFc q h) hFc (fun r_129 u t H1 locs ht hvm hw hB hz1 hk1 hS => ?_)
    obtain ⟨F_130, hB1⟩ := hB
    obtain rfl : F = F_130 := (funext (fun a => hB1.2.2.2 a List.not_mem_nil)).symm
    obtain ⟨hP, hD, hO, hR⟩ := QTm.back hB1 ht hFc hR (fun q h => absurd h List.not_mem_nil)
    generalize H1 = H at hP hS ⊢
    have hw : r_129 = (if 0 ≤ x1.toInt64 ∧ x1.toInt64 ≤ (nI nf - 1).toInt64 then 1 else 0) := hw
    have hw_131 := hw
    refine lv_if_ne (tgt := 26) hx hb dX15_plainField_20 (by decide) (fun c_132 => ?_) (fun c_132 => ?_)
    ·
      have hin := in_int hw_131 c_132
      rw [Int32.toInt_toInt64, show (1 : Int32) = nI 1 from rfl, pk_sub_toInt (by omega) (by omega), show (0 : Int64).toInt = 0 from by decide] at hin
      obtain ⟨jf, hjf0, rfl⟩ := nI_of (x := x1) (fun h => by rw [Int32.lt_iff_toInt_lt, show (0 : Int32).toInt = 0 from by decide] at h; omega)
      rw [nI_toInt hjf0] at hin
      have hjf : jf < nf := by omega
      have hoj := hgO jf hjf
      refine lv_aload_n hx hb dX15_plainField_26 rfl (lv_at hl 0 rfl) ?_
      refine pg_get (ci := 15) (v := .ref pl) (C := RX15) (T := TX15) (N := 59) hx hb hts it_15 hown hK hP hL_h0 hF_122 rfl 34 (by decide) (hts _ kt_916) (fun _ h9 => h9) rfl dX15_plainField_27 ?_
      refine lv_iconst (v := 0) hx hb dX15_plainField_30 (by decide) ?_
      obtain ⟨z_133, hF_134, hq_135⟩ := hO.txt hL_pl hT_pl
      refine pg_put (ci := 14) (v := .int 0) (ty := .int) (C := RX14) (T := TX14) (N := 2) hx hb hts it_14 tyX14 tyX14_ok nmX14 hown hK hP hD hS hL_pl hF_134 rfl 1 (by decide) (hts _ kt_709) (fun _ h9 => h9) rfl (by decide +kernel) (rfl) (rfl) (Nat.le_of_ble_eq_true rfl) dX15_plainField_31 (fun H locs hP hD hS => ?_)
      obtain ⟨F_136, he_137, hP, hD, hO, hR⟩ : ∃ G, G = va_up F pl (.inr (14, [.ref rl, .int 0])) ∧ va_P (dC, dI) vwCl (va_pl L G) H ∧ va_D A (va_pl L G) ∧ OKm cs ty gm L G ∧ FR ty [ρ, ρ + 2, ρ + 10] F G := ⟨_, rfl, hP, hD, hO.up (shm.txt hT_pl ⟨0, rfl, (by first | omega | assumption | exact Or.inl rfl | exact Or.inr rfl)⟩), hR.up hT_pl (by simp)⟩
      have hF_138 : F_136 pl = .inr (14, [.ref rl, .int 0]) := by rw [he_137]; exact up_self
      have hF_139 : F_136 h0 = .inr (15, (.ref ta) :: (.int (nI zt)) :: (.int (nI zo_106)) :: (.int (nI ze_107)) :: (.ref ou) :: (.ref so) :: (.ref ad) :: (.ref na) :: (.ref va) :: (.ref lc) :: (.ref dm) :: (.int v11_108) :: (.int v12_109) :: (.ref tg) :: (.int v14_110) :: (.int v15_111) :: (.ref pe) :: (.int v17_112) :: (.int v18_113) :: (.int v19_114) :: (.int v20_115) :: (.int v21_116) :: (.int v22_117) :: (.ref ml) :: (.ref bg) :: (.ref co) :: (.ref sp) :: (.ref nb0) :: (.ref nb1) :: (.ref nb2) :: (.int (nI nf)) :: (.int (nI bd)) :: (.int (nI mm)) :: (.int v33_118) :: (.ref pl) :: (.ref se) :: (.ref ke) :: (.ref wi) :: (.ref hs) :: (.ref mo) :: (.ref po) :: (.ref nu) :: (.ref pr) :: (.ref sq) :: (.ref xa) :: (.ref sa) :: (.ref n64) :: (.ref m64) :: (.ref ex) :: (.ref wh) :: (.ref sd) :: (.ref tk) :: (.int v52_119) :: (.int v53_120) :: (.int v54_121) :: (.ref hd) :: (.ref ak) :: (.ref ho) :: (.ref ot) :: []) := by rw [he_137, up_ne (ne_ty hT_h0 hT_pl (by simp))]; exact hF_122
      refine lv_aload_n hx hb dX15_plainField_34 rfl (lv_at hl 0 rfl) ?_
      refine lv_iload_n hx hb dX15_plainField_35 rfl (lv_at hl 1 rfl) ?_
      refine lv_iload_n hx hb dX15_plainField_36 rfl (lv_at hl 2 rfl) ?_
      refine lv_iconst (v := 0) hx hb dX15_plainField_37 (by decide) ?_
      refine lv_iconst (v := 0) hx hb dX15_plainField_38 (by decide) ?_
      have hFc := pg_free hD hS hA
      refine va_callv (va_runV (As := [.int (nI jf), .int x2, .int 0, .int 0]) (rest := []) ⟨hx, hb, hml, hown, hts⟩ (s_X15_fieldPlain l dC dI cs ty gm L H.size F_136 h0 ρ ta ou so ad na va lc dm tg pe ml bg co sp nb0 nb1 nb2 pl se ke wi hs mo po nu pr sq xa sa n64 m64 ex wh sd tk hd ak ho ot sx s0 s1 s2 nf bd mm zt rl jf 0 x2 0 0 hW hL_h0 hT_h0 hL_pl hT_pl (by first | omega | assumption) hF_138 (by first | omega | assumption)) ⟨callB_of 4 hts (gi kt_933) rfl rfl rfl (hts _ kt_669) (hts _ kt_934) (by decide +kernel) ⟨Nat.le_of_ble_eq_true rfl, Nat.le_of_ble_eq_true rfl⟩, (hts _ kt_935), (hts _ kt_936)⟩ ⟨fun a U g mk q => ⟨q.1, PTm.calling q.2⟩, pg_recv hK hP hL_h0 hF_139 (q := (RX15, TX15, 59)) rfl, fun U hU hWm => ⟨rfl, PTm.mk hU hWm hP hK hD hE hO⟩⟩ rfl rfl hl.1 rfl (lv_room (Nat.le_of_ble_eq_true rfl)) dX15_plainField_39 ⟨by show _ + 0 ≤ 0; omega, by show _ + 0 ≤ 0; omega⟩) hS (fun q _ h => hFc q h) hFc (fun u t H1 locs ht hvm hw hB hz1 hk1 hS => ?_)
      obtain ⟨F_141, z2_142, hB1, hq_143, hq_144⟩ := hB
      obtain ⟨hP, hD, hO, hR⟩ := QTm.back hB1 ht hFc hR (fun q h => by simp only [List.mem_cons, List.not_mem_nil, or_false] at h ⊢; omega)
      have hF_145 : F_141 h0 = .inr (15, (.ref ta) :: (.int (nI zt)) :: (.int (nI zo_106)) :: (.int (nI ze_107)) :: (.ref ou) :: (.ref so) :: (.ref ad) :: (.ref na) :: (.ref va) :: (.ref lc) :: (.ref dm) :: (.int v11_108) :: (.int v12_109) :: (.ref tg) :: (.int v14_110) :: (.int v15_111) :: (.ref pe) :: (.int v17_112) :: (.int v18_113) :: (.int v19_114) :: (.int v20_115) :: (.int v21_116) :: (.int v22_117) :: (.ref ml) :: (.ref bg) :: (.ref co) :: (.ref sp) :: (.ref nb0) :: (.ref nb1) :: (.ref nb2) :: (.int (nI nf)) :: (.int (nI bd)) :: (.int (nI mm)) :: (.int v33_118) :: (.ref pl) :: (.ref se) :: (.ref ke) :: (.ref wi) :: (.ref hs) :: (.ref mo) :: (.ref po) :: (.ref nu) :: (.ref pr) :: (.ref sq) :: (.ref xa) :: (.ref sa) :: (.ref n64) :: (.ref m64) :: (.ref ex) :: (.ref wh) :: (.ref sd) :: (.ref tk) :: (.int v52_119) :: (.int v53_120) :: (.int v54_121) :: (.ref hd) :: (.ref ak) :: (.ref ho) :: (.ref ot) :: []) := (hB1.2.2.2 h0 (by rw [hT_h0]; simp)).trans hF_139
      generalize H1 = H at hP hS ⊢
      refine lv_aload_n hx hb dX15_plainField_42 rfl (lv_at hl 0 rfl) ?_
      refine lv_aload_n hx hb dX15_plainField_43 rfl (lv_at hl 0 rfl) ?_
      refine pg_get (ci := 15) (v := .ref pl) (C := RX15) (T := TX15) (N := 59) hx hb hts it_15 hown hK hP hL_h0 hF_145 rfl 34 (by decide) (hts _ kt_916) (fun _ h9 => h9) rfl dX15_plainField_44 ?_
      have hFc := pg_free hD hS hA
      refine va_calli (va_runV (As := [.ref pl]) (rest := []) ⟨hx, hb, hml, hown, hts⟩ (s_X15_tell l dC dI cs ty gm L H.size F_141 h0 ρ ta ou so ad na va lc dm tg pe ml bg co sp nb0 nb1 nb2 pl se ke wi hs mo po nu pr sq xa sa n64 m64 ex wh sd tk hd ak ho ot sx s0 s1 s2 nf bd mm zt pl (ρ + 10) rl hW hL_h0 hT_h0 hL_pl hT_pl) ⟨callB_of 1 hts (gi kt_929) rfl rfl rfl (hts _ kt_669) (hts _ kt_930) (by decide +kernel) ⟨Nat.le_of_ble_eq_true rfl, Nat.le_of_ble_eq_true rfl⟩, (hts _ kt_931), (hts _ kt_932)⟩ ⟨fun a U g mk q => ⟨q.1, PTm.calling q.2⟩, pg_recv hK hP hL_h0 hF_145 (q := (RX15, TX15, 59)) rfl, fun U hU hWm => ⟨rfl, PTm.mk hU hWm hP hK hD hE hO⟩⟩ rfl rfl hl.1 rfl (lv_room (Nat.le_of_ble_eq_true rfl)) dX15_plainField_47 ⟨by show _ + 0 ≤ 0; omega, by show _ + 0 ≤ 0; omega⟩) hS (fun q _ h => hFc q h) hFc (fun r_146 u t H1 locs ht hvm hw hB hz1 hk1 hS => ?_)
      obtain ⟨F_147, hB1⟩ := hB
      obtain ⟨hP, hD, hO, hR⟩ := QTm.back hB1 ht hFc hR (fun q h => by simp only [List.mem_cons, List.not_mem_nil, or_false] at h ⊢; omega)
      have hF_148 : F_147 pl = .inr (14, [.ref rl, .int (nI z2_142)]) := (hB1.2.2.2 pl (by rw [hT_pl]; simp)).trans hq_143
      generalize H1 = H at hP hS ⊢
      have hw : True := hw
      have hw_149 := hw
      refine W.widen (k := 0) (n := 0) (by omega) (by omega) ?_
      exact W.iret (v := r_146) hx hb hr (fun t ht hWm => ⟨⟨r_146, (), rfl, trivial, ⟨F_147, QTm.mk ht hP hD hO hR⟩⟩, hS.F ht⟩) hS.2.2 dX15_plainField_50
    ·
      refine lv_bipush (v := (-2)) hx hb dX15_plainField_23 (by decide) ?_
      refine W.widen (k := 0) (n := 0) (by omega) (by omega) ?_
      exact W.iret (v := (-2)) hx hb hr (fun t ht hWm => ⟨⟨(-2), (), rfl, trivial, ⟨F, QTm.mk ht hP hD hO hR⟩⟩, hS.F ht⟩) hS.2.2 dX15_plainField_25
