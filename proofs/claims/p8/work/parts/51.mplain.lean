theorem dX15_bodyPlain_0 : decode cX15_bodyPlain 0 = .ok (.aload_n 0, 1) := by decide +kernel
theorem dX15_bodyPlain_1 : decode cX15_bodyPlain 1 = .ok (.getfield 91, 3) := by decide +kernel
theorem dX15_bodyPlain_4 : decode cX15_bodyPlain 4 = .ok (.iconst 0, 1) := by decide +kernel
theorem dX15_bodyPlain_5 : decode cX15_bodyPlain 5 = .ok (.putfield 190, 3) := by decide +kernel
theorem dX15_bodyPlain_8 : decode cX15_bodyPlain 8 = .ok (.iconst 0, 1) := by decide +kernel
theorem dX15_bodyPlain_9 : decode cX15_bodyPlain 9 = .ok (.istore_n 2, 1) := by decide +kernel
theorem dX15_bodyPlain_10 : decode cX15_bodyPlain 10 = .ok (.aload_n 0, 1) := by decide +kernel
theorem dX15_bodyPlain_11 : decode cX15_bodyPlain 11 = .ok (.getfield 364, 3) := by decide +kernel
theorem dX15_bodyPlain_14 : decode cX15_bodyPlain 14 = .ok (.istore_n 3, 1) := by decide +kernel
theorem dX15_bodyPlain_15 : decode cX15_bodyPlain 15 = .ok (.iload_n 3, 1) := by decide +kernel
theorem dX15_bodyPlain_16 : decode cX15_bodyPlain 16 = .ok (.aload_n 0, 1) := by decide +kernel
theorem dX15_bodyPlain_17 : decode cX15_bodyPlain 17 = .ok (.getfield 367, 3) := by decide +kernel
theorem dX15_bodyPlain_20 : decode cX15_bodyPlain 20 = .ok (.if_icmp .ge 198, 3) := by decide +kernel
theorem dX15_bodyPlain_23 : decode cX15_bodyPlain 23 = .ok (.aload_n 0, 1) := by decide +kernel
theorem dX15_bodyPlain_24 : decode cX15_bodyPlain 24 = .ok (.getfield 70, 3) := by decide +kernel
theorem dX15_bodyPlain_27 : decode cX15_bodyPlain 27 = .ok (.iload_n 3, 1) := by decide +kernel
theorem dX15_bodyPlain_28 : decode cX15_bodyPlain 28 = .ok (.aload_n 0, 1) := by decide +kernel
theorem dX15_bodyPlain_29 : decode cX15_bodyPlain 29 = .ok (.getfield 367, 3) := by decide +kernel
theorem dX15_bodyPlain_32 : decode cX15_bodyPlain 32 = .ok (.invokestatic 344, 3) := by decide +kernel
theorem dX15_bodyPlain_35 : decode cX15_bodyPlain 35 = .ok (.istore 4, 2) := by decide +kernel
theorem dX15_bodyPlain_37 : decode cX15_bodyPlain 37 = .ok (.aload_n 0, 1) := by decide +kernel
theorem dX15_bodyPlain_38 : decode cX15_bodyPlain 38 = .ok (.getfield 70, 3) := by decide +kernel
theorem dX15_bodyPlain_41 : decode cX15_bodyPlain 41 = .ok (.iload 4, 2) := by decide +kernel
theorem dX15_bodyPlain_43 : decode cX15_bodyPlain 43 = .ok (.iconst 1, 1) := by decide +kernel
theorem dX15_bodyPlain_44 : decode cX15_bodyPlain 44 = .ok (.isub, 1) := by decide +kernel
theorem dX15_bodyPlain_45 : decode cX15_bodyPlain 45 = .ok (.baload, 1) := by decide +kernel
theorem dX15_bodyPlain_46 : decode cX15_bodyPlain 46 = .ok (.bipush 10, 2) := by decide +kernel
theorem dX15_bodyPlain_48 : decode cX15_bodyPlain 48 = .ok (.if_icmp .ne 10, 3) := by decide +kernel
theorem dX15_bodyPlain_51 : decode cX15_bodyPlain 51 = .ok (.iload 4, 2) := by decide +kernel
theorem dX15_bodyPlain_53 : decode cX15_bodyPlain 53 = .ok (.iconst 1, 1) := by decide +kernel
theorem dX15_bodyPlain_54 : decode cX15_bodyPlain 54 = .ok (.isub, 1) := by decide +kernel
theorem dX15_bodyPlain_55 : decode cX15_bodyPlain 55 = .ok (.goto 5, 3) := by decide +kernel
theorem dX15_bodyPlain_58 : decode cX15_bodyPlain 58 = .ok (.iload 4, 2) := by decide +kernel
theorem dX15_bodyPlain_60 : decode cX15_bodyPlain 60 = .ok (.istore 5, 2) := by decide +kernel
theorem dX15_bodyPlain_62 : decode cX15_bodyPlain 62 = .ok (.iload_n 1, 1) := by decide +kernel
theorem dX15_bodyPlain_63 : decode cX15_bodyPlain 63 = .ok (.ifCond .eq 30, 3) := by decide +kernel
theorem dX15_bodyPlain_66 : decode cX15_bodyPlain 66 = .ok (.iload 5, 2) := by decide +kernel
theorem dX15_bodyPlain_68 : decode cX15_bodyPlain 68 = .ok (.iload_n 3, 1) := by decide +kernel
theorem dX15_bodyPlain_69 : decode cX15_bodyPlain 69 = .ok (.if_icmp .le 24, 3) := by decide +kernel
theorem dX15_bodyPlain_72 : decode cX15_bodyPlain 72 = .ok (.aload_n 0, 1) := by decide +kernel
theorem dX15_bodyPlain_73 : decode cX15_bodyPlain 73 = .ok (.getfield 70, 3) := by decide +kernel
theorem dX15_bodyPlain_76 : decode cX15_bodyPlain 76 = .ok (.iload 5, 2) := by decide +kernel
theorem dX15_bodyPlain_78 : decode cX15_bodyPlain 78 = .ok (.iconst 1, 1) := by decide +kernel
theorem dX15_bodyPlain_79 : decode cX15_bodyPlain 79 = .ok (.isub, 1) := by decide +kernel
theorem dX15_bodyPlain_80 : decode cX15_bodyPlain 80 = .ok (.baload, 1) := by decide +kernel
theorem dX15_bodyPlain_81 : decode cX15_bodyPlain 81 = .ok (.invokestatic 347, 3) := by decide +kernel
theorem dX15_bodyPlain_84 : decode cX15_bodyPlain 84 = .ok (.ifCond .eq 9, 3) := by decide +kernel
theorem dX15_bodyPlain_87 : decode cX15_bodyPlain 87 = .ok (.iinc 5 (-1), 3) := by decide +kernel
theorem dX15_bodyPlain_90 : decode cX15_bodyPlain 90 = .ok (.goto (-24), 3) := by decide +kernel
theorem dX15_bodyPlain_93 : decode cX15_bodyPlain 93 = .ok (.iload 5, 2) := by decide +kernel
theorem dX15_bodyPlain_95 : decode cX15_bodyPlain 95 = .ok (.iload_n 3, 1) := by decide +kernel
theorem dX15_bodyPlain_96 : decode cX15_bodyPlain 96 = .ok (.if_icmp .le 7, 3) := by decide +kernel
theorem dX15_bodyPlain_99 : decode cX15_bodyPlain 99 = .ok (.iconst 1, 1) := by decide +kernel
theorem dX15_bodyPlain_100 : decode cX15_bodyPlain 100 = .ok (.goto 4, 3) := by decide +kernel
theorem dX15_bodyPlain_103 : decode cX15_bodyPlain 103 = .ok (.iconst 0, 1) := by decide +kernel
theorem dX15_bodyPlain_104 : decode cX15_bodyPlain 104 = .ok (.istore 6, 2) := by decide +kernel
theorem dX15_bodyPlain_106 : decode cX15_bodyPlain 106 = .ok (.iload_n 3, 1) := by decide +kernel
theorem dX15_bodyPlain_107 : decode cX15_bodyPlain 107 = .ok (.istore 7, 2) := by decide +kernel
theorem dX15_bodyPlain_109 : decode cX15_bodyPlain 109 = .ok (.iload 7, 2) := by decide +kernel
theorem dX15_bodyPlain_111 : decode cX15_bodyPlain 111 = .ok (.iload 5, 2) := by decide +kernel
theorem dX15_bodyPlain_113 : decode cX15_bodyPlain 113 = .ok (.if_icmp .ge 77, 3) := by decide +kernel
theorem dX15_bodyPlain_116 : decode cX15_bodyPlain 116 = .ok (.aload_n 0, 1) := by decide +kernel
theorem dX15_bodyPlain_117 : decode cX15_bodyPlain 117 = .ok (.getfield 70, 3) := by decide +kernel
theorem dX15_bodyPlain_120 : decode cX15_bodyPlain 120 = .ok (.iload 7, 2) := by decide +kernel
theorem dX15_bodyPlain_122 : decode cX15_bodyPlain 122 = .ok (.baload, 1) := by decide +kernel
theorem dX15_bodyPlain_123 : decode cX15_bodyPlain 123 = .ok (.invokestatic 347, 3) := by decide +kernel
theorem dX15_bodyPlain_126 : decode cX15_bodyPlain 126 = .ok (.istore 8, 2) := by decide +kernel
theorem dX15_bodyPlain_128 : decode cX15_bodyPlain 128 = .ok (.iload_n 1, 1) := by decide +kernel
theorem dX15_bodyPlain_129 : decode cX15_bodyPlain 129 = .ok (.ifCond .eq 8, 3) := by decide +kernel
theorem dX15_bodyPlain_132 : decode cX15_bodyPlain 132 = .ok (.iload 8, 2) := by decide +kernel
theorem dX15_bodyPlain_134 : decode cX15_bodyPlain 134 = .ok (.ifCond .ne 20, 3) := by decide +kernel
theorem dX15_bodyPlain_137 : decode cX15_bodyPlain 137 = .ok (.aload_n 0, 1) := by decide +kernel
theorem dX15_bodyPlain_138 : decode cX15_bodyPlain 138 = .ok (.getfield 91, 3) := by decide +kernel
theorem dX15_bodyPlain_141 : decode cX15_bodyPlain 141 = .ok (.aload_n 0, 1) := by decide +kernel
theorem dX15_bodyPlain_142 : decode cX15_bodyPlain 142 = .ok (.getfield 70, 3) := by decide +kernel
theorem dX15_bodyPlain_145 : decode cX15_bodyPlain 145 = .ok (.iload 7, 2) := by decide +kernel
theorem dX15_bodyPlain_147 : decode cX15_bodyPlain 147 = .ok (.baload, 1) := by decide +kernel
theorem dX15_bodyPlain_148 : decode cX15_bodyPlain 148 = .ok (.invokevirtual 292, 3) := by decide +kernel
theorem dX15_bodyPlain_151 : decode cX15_bodyPlain 151 = .ok (.goto 33, 3) := by decide +kernel
theorem dX15_bodyPlain_154 : decode cX15_bodyPlain 154 = .ok (.aload_n 0, 1) := by decide +kernel
theorem dX15_bodyPlain_155 : decode cX15_bodyPlain 155 = .ok (.getfield 70, 3) := by decide +kernel
theorem dX15_bodyPlain_158 : decode cX15_bodyPlain 158 = .ok (.iload 7, 2) := by decide +kernel
theorem dX15_bodyPlain_160 : decode cX15_bodyPlain 160 = .ok (.iconst 1, 1) := by decide +kernel
theorem dX15_bodyPlain_161 : decode cX15_bodyPlain 161 = .ok (.isub, 1) := by decide +kernel
theorem dX15_bodyPlain_162 : decode cX15_bodyPlain 162 = .ok (.baload, 1) := by decide +kernel
theorem dX15_bodyPlain_163 : decode cX15_bodyPlain 163 = .ok (.invokestatic 347, 3) := by decide +kernel
theorem dX15_bodyPlain_166 : decode cX15_bodyPlain 166 = .ok (.ifCond .eq 9, 3) := by decide +kernel
theorem dX15_bodyPlain_169 : decode cX15_bodyPlain 169 = .ok (.iload 7, 2) := by decide +kernel
theorem dX15_bodyPlain_171 : decode cX15_bodyPlain 171 = .ok (.iload_n 3, 1) := by decide +kernel
theorem dX15_bodyPlain_172 : decode cX15_bodyPlain 172 = .ok (.if_icmp .ne 12, 3) := by decide +kernel
theorem dX15_bodyPlain_175 : decode cX15_bodyPlain 175 = .ok (.aload_n 0, 1) := by decide +kernel
theorem dX15_bodyPlain_176 : decode cX15_bodyPlain 176 = .ok (.getfield 91, 3) := by decide +kernel
theorem dX15_bodyPlain_179 : decode cX15_bodyPlain 179 = .ok (.bipush 32, 2) := by decide +kernel
theorem dX15_bodyPlain_181 : decode cX15_bodyPlain 181 = .ok (.invokevirtual 292, 3) := by decide +kernel
theorem dX15_bodyPlain_184 : decode cX15_bodyPlain 184 = .ok (.iinc 7 1, 3) := by decide +kernel
theorem dX15_bodyPlain_187 : decode cX15_bodyPlain 187 = .ok (.goto (-78), 3) := by decide +kernel
theorem dX15_bodyPlain_190 : decode cX15_bodyPlain 190 = .ok (.aload_n 0, 1) := by decide +kernel
theorem dX15_bodyPlain_191 : decode cX15_bodyPlain 191 = .ok (.getfield 91, 3) := by decide +kernel
theorem dX15_bodyPlain_194 : decode cX15_bodyPlain 194 = .ok (.bipush 10, 2) := by decide +kernel
theorem dX15_bodyPlain_196 : decode cX15_bodyPlain 196 = .ok (.invokevirtual 292, 3) := by decide +kernel
theorem dX15_bodyPlain_199 : decode cX15_bodyPlain 199 = .ok (.iload 6, 2) := by decide +kernel
theorem dX15_bodyPlain_201 : decode cX15_bodyPlain 201 = .ok (.ifCond .eq 11, 3) := by decide +kernel
theorem dX15_bodyPlain_204 : decode cX15_bodyPlain 204 = .ok (.aload_n 0, 1) := by decide +kernel
theorem dX15_bodyPlain_205 : decode cX15_bodyPlain 205 = .ok (.getfield 91, 3) := by decide +kernel
theorem dX15_bodyPlain_208 : decode cX15_bodyPlain 208 = .ok (.getfield 190, 3) := by decide +kernel
theorem dX15_bodyPlain_211 : decode cX15_bodyPlain 211 = .ok (.istore_n 2, 1) := by decide +kernel
theorem dX15_bodyPlain_212 : decode cX15_bodyPlain 212 = .ok (.iload 4, 2) := by decide +kernel
theorem dX15_bodyPlain_214 : decode cX15_bodyPlain 214 = .ok (.istore_n 3, 1) := by decide +kernel
theorem dX15_bodyPlain_215 : decode cX15_bodyPlain 215 = .ok (.goto (-200), 3) := by decide +kernel
theorem dX15_bodyPlain_218 : decode cX15_bodyPlain 218 = .ok (.aload_n 0, 1) := by decide +kernel
theorem dX15_bodyPlain_219 : decode cX15_bodyPlain 219 = .ok (.getfield 91, 3) := by decide +kernel
theorem dX15_bodyPlain_222 : decode cX15_bodyPlain 222 = .ok (.iload_n 2, 1) := by decide +kernel
theorem dX15_bodyPlain_223 : decode cX15_bodyPlain 223 = .ok (.putfield 190, 3) := by decide +kernel
theorem dX15_bodyPlain_226 : decode cX15_bodyPlain 226 = .ok (.iload_n 2, 1) := by decide +kernel
theorem dX15_bodyPlain_227 : decode cX15_bodyPlain 227 = .ok (.ifCond .ne 16, 3) := by decide +kernel
theorem dX15_bodyPlain_230 : decode cX15_bodyPlain 230 = .ok (.iload_n 1, 1) := by decide +kernel
theorem dX15_bodyPlain_231 : decode cX15_bodyPlain 231 = .ok (.ifCond .ne 12, 3) := by decide +kernel
theorem dX15_bodyPlain_234 : decode cX15_bodyPlain 234 = .ok (.aload_n 0, 1) := by decide +kernel
theorem dX15_bodyPlain_235 : decode cX15_bodyPlain 235 = .ok (.getfield 91, 3) := by decide +kernel
theorem dX15_bodyPlain_238 : decode cX15_bodyPlain 238 = .ok (.bipush 10, 2) := by decide +kernel
theorem dX15_bodyPlain_240 : decode cX15_bodyPlain 240 = .ok (.invokevirtual 292, 3) := by decide +kernel
theorem dX15_bodyPlain_243 : decode cX15_bodyPlain 243 = .ok (.return_, 1) := by decide +kernel
theorem dX15_fieldPlain_0 : decode cX15_fieldPlain 0 = .ok (.aload_n 0, 1) := by decide +kernel
theorem dX15_fieldPlain_1 : decode cX15_fieldPlain 1 = .ok (.iload_n 1, 1) := by decide +kernel
theorem dX15_fieldPlain_2 : decode cX15_fieldPlain 2 = .ok (.invokevirtual 382, 3) := by decide +kernel
theorem dX15_fieldPlain_5 : decode cX15_fieldPlain 5 = .ok (.istore 5, 2) := by decide +kernel
theorem dX15_fieldPlain_7 : decode cX15_fieldPlain 7 = .ok (.iload_n 2, 1) := by decide +kernel
theorem dX15_fieldPlain_8 : decode cX15_fieldPlain 8 = .ok (.ifCond .ne 52, 3) := by decide +kernel
theorem dX15_fieldPlain_11 : decode cX15_fieldPlain 11 = .ok (.aload_n 0, 1) := by decide +kernel
theorem dX15_fieldPlain_12 : decode cX15_fieldPlain 12 = .ok (.getfield 73, 3) := by decide +kernel
theorem dX15_fieldPlain_15 : decode cX15_fieldPlain 15 = .ok (.iload_n 1, 1) := by decide +kernel
theorem dX15_fieldPlain_16 : decode cX15_fieldPlain 16 = .ok (.iaload, 1) := by decide +kernel
theorem dX15_fieldPlain_17 : decode cX15_fieldPlain 17 = .ok (.istore 6, 2) := by decide +kernel
theorem dX15_fieldPlain_19 : decode cX15_fieldPlain 19 = .ok (.iload 6, 2) := by decide +kernel
theorem dX15_fieldPlain_21 : decode cX15_fieldPlain 21 = .ok (.iload 5, 2) := by decide +kernel
theorem dX15_fieldPlain_23 : decode cX15_fieldPlain 23 = .ok (.if_icmp .ge 36, 3) := by decide +kernel
theorem dX15_fieldPlain_26 : decode cX15_fieldPlain 26 = .ok (.iload 6, 2) := by decide +kernel
theorem dX15_fieldPlain_28 : decode cX15_fieldPlain 28 = .ok (.iload_n 3, 1) := by decide +kernel
theorem dX15_fieldPlain_29 : decode cX15_fieldPlain 29 = .ok (.if_icmp .lt 10, 3) := by decide +kernel
theorem dX15_fieldPlain_32 : decode cX15_fieldPlain 32 = .ok (.iload 6, 2) := by decide +kernel
theorem dX15_fieldPlain_34 : decode cX15_fieldPlain 34 = .ok (.iload 4, 2) := by decide +kernel
theorem dX15_fieldPlain_36 : decode cX15_fieldPlain 36 = .ok (.if_icmp .lt 17, 3) := by decide +kernel
theorem dX15_fieldPlain_39 : decode cX15_fieldPlain 39 = .ok (.aload_n 0, 1) := by decide +kernel
theorem dX15_fieldPlain_40 : decode cX15_fieldPlain 40 = .ok (.getfield 91, 3) := by decide +kernel
theorem dX15_fieldPlain_43 : decode cX15_fieldPlain 43 = .ok (.aload_n 0, 1) := by decide +kernel
theorem dX15_fieldPlain_44 : decode cX15_fieldPlain 44 = .ok (.getfield 70, 3) := by decide +kernel
theorem dX15_fieldPlain_47 : decode cX15_fieldPlain 47 = .ok (.iload 6, 2) := by decide +kernel
theorem dX15_fieldPlain_49 : decode cX15_fieldPlain 49 = .ok (.baload, 1) := by decide +kernel
theorem dX15_fieldPlain_50 : decode cX15_fieldPlain 50 = .ok (.invokevirtual 292, 3) := by decide +kernel
theorem dX15_fieldPlain_53 : decode cX15_fieldPlain 53 = .ok (.iinc 6 1, 3) := by decide +kernel
theorem dX15_fieldPlain_56 : decode cX15_fieldPlain 56 = .ok (.goto (-37), 3) := by decide +kernel
theorem dX15_fieldPlain_59 : decode cX15_fieldPlain 59 = .ok (.return_, 1) := by decide +kernel
theorem dX15_fieldPlain_60 : decode cX15_fieldPlain 60 = .ok (.aload_n 0, 1) := by decide +kernel
theorem dX15_fieldPlain_61 : decode cX15_fieldPlain 61 = .ok (.getfield 73, 3) := by decide +kernel
theorem dX15_fieldPlain_64 : decode cX15_fieldPlain 64 = .ok (.iload_n 1, 1) := by decide +kernel
theorem dX15_fieldPlain_65 : decode cX15_fieldPlain 65 = .ok (.iaload, 1) := by decide +kernel
theorem dX15_fieldPlain_66 : decode cX15_fieldPlain 66 = .ok (.istore 6, 2) := by decide +kernel
theorem dX15_fieldPlain_68 : decode cX15_fieldPlain 68 = .ok (.iload 6, 2) := by decide +kernel
theorem dX15_fieldPlain_70 : decode cX15_fieldPlain 70 = .ok (.aload_n 0, 1) := by decide +kernel
theorem dX15_fieldPlain_71 : decode cX15_fieldPlain 71 = .ok (.getfield 76, 3) := by decide +kernel
theorem dX15_fieldPlain_74 : decode cX15_fieldPlain 74 = .ok (.iload_n 1, 1) := by decide +kernel
theorem dX15_fieldPlain_75 : decode cX15_fieldPlain 75 = .ok (.iaload, 1) := by decide +kernel
theorem dX15_fieldPlain_76 : decode cX15_fieldPlain 76 = .ok (.if_icmp .ge 26, 3) := by decide +kernel
theorem dX15_fieldPlain_79 : decode cX15_fieldPlain 79 = .ok (.aload_n 0, 1) := by decide +kernel
theorem dX15_fieldPlain_80 : decode cX15_fieldPlain 80 = .ok (.getfield 91, 3) := by decide +kernel
theorem dX15_fieldPlain_83 : decode cX15_fieldPlain 83 = .ok (.aload_n 0, 1) := by decide +kernel
theorem dX15_fieldPlain_84 : decode cX15_fieldPlain 84 = .ok (.getfield 70, 3) := by decide +kernel
theorem dX15_fieldPlain_87 : decode cX15_fieldPlain 87 = .ok (.iload 6, 2) := by decide +kernel
theorem dX15_fieldPlain_89 : decode cX15_fieldPlain 89 = .ok (.baload, 1) := by decide +kernel
theorem dX15_fieldPlain_90 : decode cX15_fieldPlain 90 = .ok (.invokestatic 21, 3) := by decide +kernel
theorem dX15_fieldPlain_93 : decode cX15_fieldPlain 93 = .ok (.invokevirtual 292, 3) := by decide +kernel
theorem dX15_fieldPlain_96 : decode cX15_fieldPlain 96 = .ok (.iinc 6 1, 3) := by decide +kernel
theorem dX15_fieldPlain_99 : decode cX15_fieldPlain 99 = .ok (.goto (-31), 3) := by decide +kernel
theorem dX15_fieldPlain_102 : decode cX15_fieldPlain 102 = .ok (.aload_n 0, 1) := by decide +kernel
theorem dX15_fieldPlain_103 : decode cX15_fieldPlain 103 = .ok (.getfield 91, 3) := by decide +kernel
theorem dX15_fieldPlain_106 : decode cX15_fieldPlain 106 = .ok (.bipush 58, 2) := by decide +kernel
theorem dX15_fieldPlain_108 : decode cX15_fieldPlain 108 = .ok (.invokevirtual 292, 3) := by decide +kernel
theorem dX15_fieldPlain_111 : decode cX15_fieldPlain 111 = .ok (.iconst 0, 1) := by decide +kernel
theorem dX15_fieldPlain_112 : decode cX15_fieldPlain 112 = .ok (.istore 6, 2) := by decide +kernel
theorem dX15_fieldPlain_114 : decode cX15_fieldPlain 114 = .ok (.iconst 0, 1) := by decide +kernel
theorem dX15_fieldPlain_115 : decode cX15_fieldPlain 115 = .ok (.istore 7, 2) := by decide +kernel
theorem dX15_fieldPlain_117 : decode cX15_fieldPlain 117 = .ok (.aload_n 0, 1) := by decide +kernel
theorem dX15_fieldPlain_118 : decode cX15_fieldPlain 118 = .ok (.getfield 76, 3) := by decide +kernel
theorem dX15_fieldPlain_121 : decode cX15_fieldPlain 121 = .ok (.iload_n 1, 1) := by decide +kernel
theorem dX15_fieldPlain_122 : decode cX15_fieldPlain 122 = .ok (.iaload, 1) := by decide +kernel
theorem dX15_fieldPlain_123 : decode cX15_fieldPlain 123 = .ok (.iconst 1, 1) := by decide +kernel
theorem dX15_fieldPlain_124 : decode cX15_fieldPlain 124 = .ok (.iadd, 1) := by decide +kernel
theorem dX15_fieldPlain_125 : decode cX15_fieldPlain 125 = .ok (.istore 8, 2) := by decide +kernel
theorem dX15_fieldPlain_127 : decode cX15_fieldPlain 127 = .ok (.iload 8, 2) := by decide +kernel
theorem dX15_fieldPlain_129 : decode cX15_fieldPlain 129 = .ok (.iload 5, 2) := by decide +kernel
theorem dX15_fieldPlain_131 : decode cX15_fieldPlain 131 = .ok (.if_icmp .ge 95, 3) := by decide +kernel
theorem dX15_fieldPlain_134 : decode cX15_fieldPlain 134 = .ok (.iload 8, 2) := by decide +kernel
theorem dX15_fieldPlain_136 : decode cX15_fieldPlain 136 = .ok (.iload_n 3, 1) := by decide +kernel
theorem dX15_fieldPlain_137 : decode cX15_fieldPlain 137 = .ok (.if_icmp .lt 10, 3) := by decide +kernel
theorem dX15_fieldPlain_140 : decode cX15_fieldPlain 140 = .ok (.iload 8, 2) := by decide +kernel
theorem dX15_fieldPlain_142 : decode cX15_fieldPlain 142 = .ok (.iload 4, 2) := by decide +kernel
theorem dX15_fieldPlain_144 : decode cX15_fieldPlain 144 = .ok (.if_icmp .lt 76, 3) := by decide +kernel
theorem dX15_fieldPlain_147 : decode cX15_fieldPlain 147 = .ok (.aload_n 0, 1) := by decide +kernel
theorem dX15_fieldPlain_148 : decode cX15_fieldPlain 148 = .ok (.getfield 70, 3) := by decide +kernel
theorem dX15_fieldPlain_151 : decode cX15_fieldPlain 151 = .ok (.iload 8, 2) := by decide +kernel
theorem dX15_fieldPlain_153 : decode cX15_fieldPlain 153 = .ok (.baload, 1) := by decide +kernel
theorem dX15_fieldPlain_154 : decode cX15_fieldPlain 154 = .ok (.bipush 10, 2) := by decide +kernel
theorem dX15_fieldPlain_156 : decode cX15_fieldPlain 156 = .ok (.if_icmp .ne 6, 3) := by decide +kernel
theorem dX15_fieldPlain_159 : decode cX15_fieldPlain 159 = .ok (.goto 61, 3) := by decide +kernel
theorem dX15_fieldPlain_162 : decode cX15_fieldPlain 162 = .ok (.aload_n 0, 1) := by decide +kernel
theorem dX15_fieldPlain_163 : decode cX15_fieldPlain 163 = .ok (.getfield 70, 3) := by decide +kernel
theorem dX15_fieldPlain_166 : decode cX15_fieldPlain 166 = .ok (.iload 8, 2) := by decide +kernel
theorem dX15_fieldPlain_168 : decode cX15_fieldPlain 168 = .ok (.baload, 1) := by decide +kernel
theorem dX15_fieldPlain_169 : decode cX15_fieldPlain 169 = .ok (.invokestatic 347, 3) := by decide +kernel
theorem dX15_fieldPlain_172 : decode cX15_fieldPlain 172 = .ok (.ifCond .eq 9, 3) := by decide +kernel
theorem dX15_fieldPlain_175 : decode cX15_fieldPlain 175 = .ok (.iconst 1, 1) := by decide +kernel
theorem dX15_fieldPlain_176 : decode cX15_fieldPlain 176 = .ok (.istore 7, 2) := by decide +kernel
theorem dX15_fieldPlain_178 : decode cX15_fieldPlain 178 = .ok (.goto 42, 3) := by decide +kernel
theorem dX15_fieldPlain_181 : decode cX15_fieldPlain 181 = .ok (.iload 7, 2) := by decide +kernel
theorem dX15_fieldPlain_183 : decode cX15_fieldPlain 183 = .ok (.ifCond .eq 17, 3) := by decide +kernel
theorem dX15_fieldPlain_186 : decode cX15_fieldPlain 186 = .ok (.iload 6, 2) := by decide +kernel
theorem dX15_fieldPlain_188 : decode cX15_fieldPlain 188 = .ok (.ifCond .eq 12, 3) := by decide +kernel
theorem dX15_fieldPlain_191 : decode cX15_fieldPlain 191 = .ok (.aload_n 0, 1) := by decide +kernel
theorem dX15_fieldPlain_192 : decode cX15_fieldPlain 192 = .ok (.getfield 91, 3) := by decide +kernel
theorem dX15_fieldPlain_195 : decode cX15_fieldPlain 195 = .ok (.bipush 32, 2) := by decide +kernel
theorem dX15_fieldPlain_197 : decode cX15_fieldPlain 197 = .ok (.invokevirtual 292, 3) := by decide +kernel
theorem dX15_fieldPlain_200 : decode cX15_fieldPlain 200 = .ok (.iconst 0, 1) := by decide +kernel
theorem dX15_fieldPlain_201 : decode cX15_fieldPlain 201 = .ok (.istore 7, 2) := by decide +kernel
theorem dX15_fieldPlain_203 : decode cX15_fieldPlain 203 = .ok (.iconst 1, 1) := by decide +kernel
theorem dX15_fieldPlain_204 : decode cX15_fieldPlain 204 = .ok (.istore 6, 2) := by decide +kernel
theorem dX15_fieldPlain_206 : decode cX15_fieldPlain 206 = .ok (.aload_n 0, 1) := by decide +kernel
theorem dX15_fieldPlain_207 : decode cX15_fieldPlain 207 = .ok (.getfield 91, 3) := by decide +kernel
theorem dX15_fieldPlain_210 : decode cX15_fieldPlain 210 = .ok (.aload_n 0, 1) := by decide +kernel
theorem dX15_fieldPlain_211 : decode cX15_fieldPlain 211 = .ok (.getfield 70, 3) := by decide +kernel
theorem dX15_fieldPlain_214 : decode cX15_fieldPlain 214 = .ok (.iload 8, 2) := by decide +kernel
theorem dX15_fieldPlain_216 : decode cX15_fieldPlain 216 = .ok (.baload, 1) := by decide +kernel
theorem dX15_fieldPlain_217 : decode cX15_fieldPlain 217 = .ok (.invokevirtual 292, 3) := by decide +kernel
theorem dX15_fieldPlain_220 : decode cX15_fieldPlain 220 = .ok (.iinc 8 1, 3) := by decide +kernel
theorem dX15_fieldPlain_223 : decode cX15_fieldPlain 223 = .ok (.goto (-96), 3) := by decide +kernel
theorem dX15_fieldPlain_226 : decode cX15_fieldPlain 226 = .ok (.return_, 1) := by decide +kernel
theorem dX15_isNamed_0 : decode cX15_isNamed 0 = .ok (.aload_n 0, 1) := by decide +kernel
theorem dX15_isNamed_1 : decode cX15_isNamed 1 = .ok (.getfield 70, 3) := by decide +kernel
theorem dX15_isNamed_4 : decode cX15_isNamed 4 = .ok (.aload_n 0, 1) := by decide +kernel
theorem dX15_isNamed_5 : decode cX15_isNamed 5 = .ok (.getfield 73, 3) := by decide +kernel
theorem dX15_isNamed_8 : decode cX15_isNamed 8 = .ok (.iload_n 1, 1) := by decide +kernel
theorem dX15_isNamed_9 : decode cX15_isNamed 9 = .ok (.iaload, 1) := by decide +kernel
theorem dX15_isNamed_10 : decode cX15_isNamed 10 = .ok (.aload_n 0, 1) := by decide +kernel
theorem dX15_isNamed_11 : decode cX15_isNamed 11 = .ok (.getfield 76, 3) := by decide +kernel
theorem dX15_isNamed_14 : decode cX15_isNamed 14 = .ok (.iload_n 1, 1) := by decide +kernel
theorem dX15_isNamed_15 : decode cX15_isNamed 15 = .ok (.iaload, 1) := by decide +kernel
theorem dX15_isNamed_16 : decode cX15_isNamed 16 = .ok (.aload_n 2, 1) := by decide +kernel
theorem dX15_isNamed_17 : decode cX15_isNamed 17 = .ok (.invokestatic 373, 3) := by decide +kernel
theorem dX15_isNamed_20 : decode cX15_isNamed 20 = .ok (.ireturn, 1) := by decide +kernel
theorem dX15_plainBody_0 : decode cX15_plainBody 0 = .ok (.aload_n 0, 1) := by decide +kernel
theorem dX15_plainBody_1 : decode cX15_plainBody 1 = .ok (.getfield 370, 3) := by decide +kernel
theorem dX15_plainBody_4 : decode cX15_plainBody 4 = .ok (.ifCond .ne 6, 3) := by decide +kernel
theorem dX15_plainBody_7 : decode cX15_plainBody 7 = .ok (.bipush (-2), 2) := by decide +kernel
theorem dX15_plainBody_9 : decode cX15_plainBody 9 = .ok (.ireturn, 1) := by decide +kernel
theorem dX15_plainBody_10 : decode cX15_plainBody 10 = .ok (.aload_n 0, 1) := by decide +kernel
theorem dX15_plainBody_11 : decode cX15_plainBody 11 = .ok (.iload_n 1, 1) := by decide +kernel
theorem dX15_plainBody_12 : decode cX15_plainBody 12 = .ok (.invokevirtual 388, 3) := by decide +kernel
theorem dX15_plainBody_15 : decode cX15_plainBody 15 = .ok (.aload_n 0, 1) := by decide +kernel
theorem dX15_plainBody_16 : decode cX15_plainBody 16 = .ok (.aload_n 0, 1) := by decide +kernel
theorem dX15_plainBody_17 : decode cX15_plainBody 17 = .ok (.getfield 91, 3) := by decide +kernel
theorem dX15_plainBody_20 : decode cX15_plainBody 20 = .ok (.invokevirtual 392, 3) := by decide +kernel
theorem dX15_plainBody_23 : decode cX15_plainBody 23 = .ok (.ireturn, 1) := by decide +kernel
theorem dX15_plainField_0 : decode cX15_plainField 0 = .ok (.aload_n 0, 1) := by decide +kernel
theorem dX15_plainField_1 : decode cX15_plainField 1 = .ok (.getfield 370, 3) := by decide +kernel
theorem dX15_plainField_4 : decode cX15_plainField 4 = .ok (.ifCond .eq 19, 3) := by decide +kernel
theorem dX15_plainField_7 : decode cX15_plainField 7 = .ok (.iload_n 1, 1) := by decide +kernel
theorem dX15_plainField_8 : decode cX15_plainField 8 = .ok (.i2l, 1) := by decide +kernel
theorem dX15_plainField_9 : decode cX15_plainField 9 = .ok (.lconst 0, 1) := by decide +kernel
theorem dX15_plainField_10 : decode cX15_plainField 10 = .ok (.aload_n 0, 1) := by decide +kernel
theorem dX15_plainField_11 : decode cX15_plainField 11 = .ok (.getfield 355, 3) := by decide +kernel
theorem dX15_plainField_14 : decode cX15_plainField 14 = .ok (.iconst 1, 1) := by decide +kernel
theorem dX15_plainField_15 : decode cX15_plainField 15 = .ok (.isub, 1) := by decide +kernel
theorem dX15_plainField_16 : decode cX15_plainField 16 = .ok (.i2l, 1) := by decide +kernel
theorem dX15_plainField_17 : decode cX15_plainField 17 = .ok (.invokestatic 170, 3) := by decide +kernel
theorem dX15_plainField_20 : decode cX15_plainField 20 = .ok (.ifCond .ne 6, 3) := by decide +kernel
theorem dX15_plainField_23 : decode cX15_plainField 23 = .ok (.bipush (-2), 2) := by decide +kernel
theorem dX15_plainField_25 : decode cX15_plainField 25 = .ok (.ireturn, 1) := by decide +kernel
theorem dX15_plainField_26 : decode cX15_plainField 26 = .ok (.aload_n 0, 1) := by decide +kernel
theorem dX15_plainField_27 : decode cX15_plainField 27 = .ok (.getfield 91, 3) := by decide +kernel
theorem dX15_plainField_30 : decode cX15_plainField 30 = .ok (.iconst 0, 1) := by decide +kernel
theorem dX15_plainField_31 : decode cX15_plainField 31 = .ok (.putfield 190, 3) := by decide +kernel
theorem dX15_plainField_34 : decode cX15_plainField 34 = .ok (.aload_n 0, 1) := by decide +kernel
theorem dX15_plainField_35 : decode cX15_plainField 35 = .ok (.iload_n 1, 1) := by decide +kernel
theorem dX15_plainField_36 : decode cX15_plainField 36 = .ok (.iload_n 2, 1) := by decide +kernel
theorem dX15_plainField_37 : decode cX15_plainField 37 = .ok (.iconst 0, 1) := by decide +kernel
theorem dX15_plainField_38 : decode cX15_plainField 38 = .ok (.iconst 0, 1) := by decide +kernel
theorem dX15_plainField_39 : decode cX15_plainField 39 = .ok (.invokevirtual 395, 3) := by decide +kernel
theorem dX15_plainField_42 : decode cX15_plainField 42 = .ok (.aload_n 0, 1) := by decide +kernel
theorem dX15_plainField_43 : decode cX15_plainField 43 = .ok (.aload_n 0, 1) := by decide +kernel
theorem dX15_plainField_44 : decode cX15_plainField 44 = .ok (.getfield 91, 3) := by decide +kernel
theorem dX15_plainField_47 : decode cX15_plainField 47 = .ok (.invokevirtual 392, 3) := by decide +kernel
theorem dX15_plainField_50 : decode cX15_plainField 50 = .ok (.ireturn, 1) := by decide +kernel
theorem dX15_sealAt_0 : decode cX15_sealAt 0 = .ok (.iload_n 1, 1) := by decide +kernel
theorem dX15_sealAt_1 : decode cX15_sealAt 1 = .ok (.istore_n 2, 1) := by decide +kernel
theorem dX15_sealAt_2 : decode cX15_sealAt 2 = .ok (.iconst 0, 1) := by decide +kernel
theorem dX15_sealAt_3 : decode cX15_sealAt 3 = .ok (.istore_n 3, 1) := by decide +kernel
theorem dX15_sealAt_4 : decode cX15_sealAt 4 = .ok (.aload_n 0, 1) := by decide +kernel
theorem dX15_sealAt_5 : decode cX15_sealAt 5 = .ok (.getfield 370, 3) := by decide +kernel
theorem dX15_sealAt_8 : decode cX15_sealAt 8 = .ok (.ifCond .eq 44, 3) := by decide +kernel
theorem dX15_sealAt_11 : decode cX15_sealAt 11 = .ok (.iload_n 1, 1) := by decide +kernel
theorem dX15_sealAt_12 : decode cX15_sealAt 12 = .ok (.ifCond .lt 40, 3) := by decide +kernel
theorem dX15_sealAt_15 : decode cX15_sealAt 15 = .ok (.iload_n 3, 1) := by decide +kernel
theorem dX15_sealAt_16 : decode cX15_sealAt 16 = .ok (.aload_n 0, 1) := by decide +kernel
theorem dX15_sealAt_17 : decode cX15_sealAt 17 = .ok (.getfield 355, 3) := by decide +kernel
theorem dX15_sealAt_20 : decode cX15_sealAt 20 = .ok (.if_icmp .ge 32, 3) := by decide +kernel
theorem dX15_sealAt_23 : decode cX15_sealAt 23 = .ok (.aload_n 0, 1) := by decide +kernel
theorem dX15_sealAt_24 : decode cX15_sealAt 24 = .ok (.iload_n 3, 1) := by decide +kernel
theorem dX15_sealAt_25 : decode cX15_sealAt 25 = .ok (.ldc_w 376, 3) := by decide +kernel
theorem dX15_sealAt_28 : decode cX15_sealAt 28 = .ok (.invokevirtual 378, 3) := by decide +kernel
theorem dX15_sealAt_31 : decode cX15_sealAt 31 = .ok (.ifCond .ne 6, 3) := by decide +kernel
theorem dX15_sealAt_34 : decode cX15_sealAt 34 = .ok (.goto 12, 3) := by decide +kernel
theorem dX15_sealAt_37 : decode cX15_sealAt 37 = .ok (.iload_n 2, 1) := by decide +kernel
theorem dX15_sealAt_38 : decode cX15_sealAt 38 = .ok (.ifCond .ne 5, 3) := by decide +kernel
theorem dX15_sealAt_41 : decode cX15_sealAt 41 = .ok (.iload_n 3, 1) := by decide +kernel
theorem dX15_sealAt_42 : decode cX15_sealAt 42 = .ok (.ireturn, 1) := by decide +kernel
theorem dX15_sealAt_43 : decode cX15_sealAt 43 = .ok (.iinc 2 (-1), 3) := by decide +kernel
theorem dX15_sealAt_46 : decode cX15_sealAt 46 = .ok (.iinc 3 1, 3) := by decide +kernel
theorem dX15_sealAt_49 : decode cX15_sealAt 49 = .ok (.goto (-45), 3) := by decide +kernel
theorem dX15_sealAt_52 : decode cX15_sealAt 52 = .ok (.iconst (-1), 1) := by decide +kernel
theorem dX15_sealAt_53 : decode cX15_sealAt 53 = .ok (.ireturn, 1) := by decide +kernel
theorem dX15_seals_0 : decode cX15_seals 0 = .ok (.iconst 0, 1) := by decide +kernel
theorem dX15_seals_1 : decode cX15_seals 1 = .ok (.istore_n 1, 1) := by decide +kernel
theorem dX15_seals_2 : decode cX15_seals 2 = .ok (.iconst 0, 1) := by decide +kernel
theorem dX15_seals_3 : decode cX15_seals 3 = .ok (.istore_n 2, 1) := by decide +kernel
theorem dX15_seals_4 : decode cX15_seals 4 = .ok (.aload_n 0, 1) := by decide +kernel
theorem dX15_seals_5 : decode cX15_seals 5 = .ok (.getfield 370, 3) := by decide +kernel
theorem dX15_seals_8 : decode cX15_seals 8 = .ok (.ifCond .eq 31, 3) := by decide +kernel
theorem dX15_seals_11 : decode cX15_seals 11 = .ok (.iload_n 2, 1) := by decide +kernel
theorem dX15_seals_12 : decode cX15_seals 12 = .ok (.aload_n 0, 1) := by decide +kernel
theorem dX15_seals_13 : decode cX15_seals 13 = .ok (.getfield 355, 3) := by decide +kernel
theorem dX15_seals_16 : decode cX15_seals 16 = .ok (.if_icmp .ge 23, 3) := by decide +kernel
theorem dX15_seals_19 : decode cX15_seals 19 = .ok (.aload_n 0, 1) := by decide +kernel
theorem dX15_seals_20 : decode cX15_seals 20 = .ok (.iload_n 2, 1) := by decide +kernel
theorem dX15_seals_21 : decode cX15_seals 21 = .ok (.ldc_w 376, 3) := by decide +kernel
theorem dX15_seals_24 : decode cX15_seals 24 = .ok (.invokevirtual 378, 3) := by decide +kernel
theorem dX15_seals_27 : decode cX15_seals 27 = .ok (.ifCond .eq 6, 3) := by decide +kernel
theorem dX15_seals_30 : decode cX15_seals 30 = .ok (.iinc 1 1, 3) := by decide +kernel
theorem dX15_seals_33 : decode cX15_seals 33 = .ok (.iinc 2 1, 3) := by decide +kernel
theorem dX15_seals_36 : decode cX15_seals 36 = .ok (.goto (-32), 3) := by decide +kernel
theorem dX15_seals_39 : decode cX15_seals 39 = .ok (.iload_n 1, 1) := by decide +kernel
theorem dX15_seals_40 : decode cX15_seals 40 = .ok (.ireturn, 1) := by decide +kernel
theorem dX15_tell_0 : decode cX15_tell 0 = .ok (.aload_n 1, 1) := by decide +kernel
theorem dX15_tell_1 : decode cX15_tell 1 = .ok (.getfield 295, 3) := by decide +kernel
theorem dX15_tell_4 : decode cX15_tell 4 = .ok (.iconst 0, 1) := by decide +kernel
theorem dX15_tell_5 : decode cX15_tell 5 = .ok (.aload_n 0, 1) := by decide +kernel
theorem dX15_tell_6 : decode cX15_tell 6 = .ok (.getfield 35, 3) := by decide +kernel
theorem dX15_tell_9 : decode cX15_tell 9 = .ok (.iconst 0, 1) := by decide +kernel
theorem dX15_tell_10 : decode cX15_tell 10 = .ok (.aload_n 1, 1) := by decide +kernel
theorem dX15_tell_11 : decode cX15_tell 11 = .ok (.getfield 190, 3) := by decide +kernel
theorem dX15_tell_14 : decode cX15_tell 14 = .ok (.invokestatic 358, 3) := by decide +kernel
theorem dX15_tell_17 : decode cX15_tell 17 = .ok (.aload_n 0, 1) := by decide +kernel
theorem dX15_tell_18 : decode cX15_tell 18 = .ok (.aload_n 1, 1) := by decide +kernel
theorem dX15_tell_19 : decode cX15_tell 19 = .ok (.getfield 190, 3) := by decide +kernel
theorem dX15_tell_22 : decode cX15_tell 22 = .ok (.putfield 385, 3) := by decide +kernel
theorem dX15_tell_25 : decode cX15_tell 25 = .ok (.aload_n 1, 1) := by decide +kernel
theorem dX15_tell_26 : decode cX15_tell 26 = .ok (.getfield 190, 3) := by decide +kernel
theorem dX15_tell_29 : decode cX15_tell 29 = .ok (.ireturn, 1) := by decide +kernel
theorem dX15_valueEnd_0 : decode cX15_valueEnd 0 = .ok (.aload_n 0, 1) := by decide +kernel
theorem dX15_valueEnd_1 : decode cX15_valueEnd 1 = .ok (.getfield 70, 3) := by decide +kernel
theorem dX15_valueEnd_4 : decode cX15_valueEnd 4 = .ok (.aload_n 0, 1) := by decide +kernel
theorem dX15_valueEnd_5 : decode cX15_valueEnd 5 = .ok (.getfield 79, 3) := by decide +kernel
theorem dX15_valueEnd_8 : decode cX15_valueEnd 8 = .ok (.iload_n 1, 1) := by decide +kernel
theorem dX15_valueEnd_9 : decode cX15_valueEnd 9 = .ok (.iaload, 1) := by decide +kernel
theorem dX15_valueEnd_10 : decode cX15_valueEnd 10 = .ok (.iconst 1, 1) := by decide +kernel
theorem dX15_valueEnd_11 : decode cX15_valueEnd 11 = .ok (.isub, 1) := by decide +kernel
theorem dX15_valueEnd_12 : decode cX15_valueEnd 12 = .ok (.baload, 1) := by decide +kernel
theorem dX15_valueEnd_13 : decode cX15_valueEnd 13 = .ok (.bipush 10, 2) := by decide +kernel
theorem dX15_valueEnd_15 : decode cX15_valueEnd 15 = .ok (.if_icmp .ne 14, 3) := by decide +kernel
theorem dX15_valueEnd_18 : decode cX15_valueEnd 18 = .ok (.aload_n 0, 1) := by decide +kernel
theorem dX15_valueEnd_19 : decode cX15_valueEnd 19 = .ok (.getfield 79, 3) := by decide +kernel
theorem dX15_valueEnd_22 : decode cX15_valueEnd 22 = .ok (.iload_n 1, 1) := by decide +kernel
theorem dX15_valueEnd_23 : decode cX15_valueEnd 23 = .ok (.iaload, 1) := by decide +kernel
theorem dX15_valueEnd_24 : decode cX15_valueEnd 24 = .ok (.iconst 1, 1) := by decide +kernel
theorem dX15_valueEnd_25 : decode cX15_valueEnd 25 = .ok (.isub, 1) := by decide +kernel
theorem dX15_valueEnd_26 : decode cX15_valueEnd 26 = .ok (.goto 9, 3) := by decide +kernel
theorem dX15_valueEnd_29 : decode cX15_valueEnd 29 = .ok (.aload_n 0, 1) := by decide +kernel
theorem dX15_valueEnd_30 : decode cX15_valueEnd 30 = .ok (.getfield 79, 3) := by decide +kernel
theorem dX15_valueEnd_33 : decode cX15_valueEnd 33 = .ok (.iload_n 1, 1) := by decide +kernel
theorem dX15_valueEnd_34 : decode cX15_valueEnd 34 = .ok (.iaload, 1) := by decide +kernel
theorem dX15_valueEnd_35 : decode cX15_valueEnd 35 = .ok (.ireturn, 1) := by decide +kernel
theorem kt_887 : Cond.fieldLink RX15 70 "PostGateModel" "mail" "[B" ∈ tb := tb_at (i := 1312) (by decide +kernel) (by decide +kernel)
theorem kt_888 : Cond.fieldLink RX15 73 "PostGateModel" "begin" "[I" ∈ tb := tb_at (i := 1313) (by decide +kernel) (by decide +kernel)
theorem kt_889 : Cond.fieldLink RX15 76 "PostGateModel" "colon" "[I" ∈ tb := tb_at (i := 1314) (by decide +kernel) (by decide +kernel)
theorem kt_890 : Cond.fieldLink RX15 79 "PostGateModel" "stop" "[I" ∈ tb := tb_at (i := 1315) (by decide +kernel) (by decide +kernel)
theorem kt_891 : Cond.fieldLink RX15 370 "PostGateModel" "mailed" "Z" ∈ tb := tb_at (i := 1322) (by decide +kernel) (by decide +kernel)
theorem kt_892 : Cond.fieldLink RX15 355 "PostGateModel" "fields" "I" ∈ tb := tb_at (i := 1319) (by decide +kernel) (by decide +kernel)
theorem kt_893 : Cond.code yX15_isNamed cX15_isNamed 3 (some .boolean) ∈ tb := tb_at (i := 1656) (by decide +kernel) (by decide +kernel)
theorem kt_894 : Cond.methodLink RX15 378 yX15_isNamed ∈ tb := tb_at (i := 1653) (by decide +kernel) (by decide +kernel)
theorem kt_895 : Cond.instanceMethod yX15_isNamed ∈ tb := tb_at (i := 1655) (by decide +kernel) (by decide +kernel)
theorem kt_896 : Cond.selects RX15 yX15_isNamed yX15_isNamed ∈ tb := tb_at (i := 56) (by decide +kernel) (by decide +kernel)
theorem kt_897 : Cond.code yX15_valueEnd cX15_valueEnd 2 (some .int) ∈ tb := tb_at (i := 1686) (by decide +kernel) (by decide +kernel)
theorem kt_898 : Cond.methodLink RX15 382 yX15_valueEnd ∈ tb := tb_at (i := 1683) (by decide +kernel) (by decide +kernel)
theorem kt_899 : Cond.instanceMethod yX15_valueEnd ∈ tb := tb_at (i := 1685) (by decide +kernel) (by decide +kernel)
theorem kt_900 : Cond.selects RX15 yX15_valueEnd yX15_valueEnd ∈ tb := tb_at (i := 60) (by decide +kernel) (by decide +kernel)
theorem kt_901 : Cond.fieldLink RX15 91 "PostGateModel" "plain" "LPostGateModel$Text;" ∈ tb := tb_at (i := 1323) (by decide +kernel) (by decide +kernel)
theorem kt_902 : Cond.fieldLink RX15 364 "PostGateModel" "body" "I" ∈ tb := tb_at (i := 1320) (by decide +kernel) (by decide +kernel)
theorem kt_903 : Cond.fieldLink RX15 367 "PostGateModel" "mailMany" "I" ∈ tb := tb_at (i := 1321) (by decide +kernel) (by decide +kernel)
theorem kt_904 : Cond.code yX15_lineEnd cX15_lineEnd 4 (some .int) ∈ tb := tb_at (i := 1638) (by decide +kernel) (by decide +kernel)
theorem kt_905 : Cond.methodLink RX15 344 yX15_lineEnd ∈ tb := tb_at (i := 1636) (by decide +kernel) (by decide +kernel)
theorem kt_906 : Cond.static yX15_lineEnd ∈ tb := tb_at (i := 1637) (by decide +kernel) (by decide +kernel)
theorem kt_907 : Cond.fieldLink RX15 35 "PostGateModel" "out" "[B" ∈ tb := tb_at (i := 1293) (by decide +kernel) (by decide +kernel)
theorem kt_908 : Cond.methodLink RX15 358 arraycopyName ∈ tb := tb_at (i := 1647) (by decide +kernel) (by decide +kernel)
theorem kt_909 : Cond.fieldLink RX15 385 "PostGateModel" "outMany" "I" ∈ tb := tb_at (i := 1291) (by decide +kernel) (by decide +kernel)
theorem kt_910 : Cond.code yX15_bodyPlain cX15_bodyPlain 9 none ∈ tb := tb_at (i := 1670) (by decide +kernel) (by decide +kernel)
theorem kt_911 : Cond.methodLink RX15 388 yX15_bodyPlain ∈ tb := tb_at (i := 1667) (by decide +kernel) (by decide +kernel)
theorem kt_912 : Cond.instanceMethod yX15_bodyPlain ∈ tb := tb_at (i := 1669) (by decide +kernel) (by decide +kernel)
theorem kt_913 : Cond.selects RX15 yX15_bodyPlain yX15_bodyPlain ∈ tb := tb_at (i := 57) (by decide +kernel) (by decide +kernel)
theorem kt_914 : Cond.code yX15_tell cX15_tell 2 (some .int) ∈ tb := tb_at (i := 1674) (by decide +kernel) (by decide +kernel)
theorem kt_915 : Cond.methodLink RX15 392 yX15_tell ∈ tb := tb_at (i := 1671) (by decide +kernel) (by decide +kernel)
theorem kt_916 : Cond.instanceMethod yX15_tell ∈ tb := tb_at (i := 1673) (by decide +kernel) (by decide +kernel)
theorem kt_917 : Cond.selects RX15 yX15_tell yX15_tell ∈ tb := tb_at (i := 58) (by decide +kernel) (by decide +kernel)
theorem kt_918 : Cond.code yX15_fieldPlain cX15_fieldPlain 9 none ∈ tb := tb_at (i := 1682) (by decide +kernel) (by decide +kernel)
theorem kt_919 : Cond.methodLink RX15 395 yX15_fieldPlain ∈ tb := tb_at (i := 1679) (by decide +kernel) (by decide +kernel)
theorem kt_920 : Cond.instanceMethod yX15_fieldPlain ∈ tb := tb_at (i := 1681) (by decide +kernel) (by decide +kernel)
theorem kt_921 : Cond.selects RX15 yX15_fieldPlain yX15_fieldPlain ∈ tb := tb_at (i := 59) (by decide +kernel) (by decide +kernel)
set_option maxHeartbeats 4000000 in
set_option maxRecDepth 100000 in
theorem s_X15_isNamed (l : Launch) (dC : Nat → ClassId) (dI : Nat → Nat → Nat) (cs : Nat → ClassId) (ty : TyM) (gm : Nat → Nat → Nat) (L : List Nat) (sz : Nat) (F : Nat → va_E) (h0 : Nat) (ρ : Nat) (ta : Nat) (ou : Nat) (so : Nat) (ad : Nat) (na : Nat) (va : Nat) (lc : Nat) (dm : Nat) (tg : Nat) (pe : Nat) (ml : Nat) (bg : Nat) (co : Nat) (sp : Nat) (nb0 : Nat) (nb1 : Nat) (nb2 : Nat) (pl : Nat) (se : Nat) (ke : Nat) (wi : Nat) (hs : Nat) (mo : Nat) (po : Nat) (nu : Nat) (pr : Nat) (sq : Nat) (xa : Nat) (sa : Nat) (n64 : Nat) (m64 : Nat) (ex : Nat) (wh : Nat) (sd : Nat) (tk : Nat) (hd : Nat) (ak : Nat) (ho : Nat) (ot : Nat) (sx : Nat) (s0 : Nat) (s1 : Nat) (s2 : Nat) (nf : Nat) (bd : Nat) (mm : Nat) (fm : Nat) (sn : Nat) (hg : Nat) (gc : Nat) (gv : Nat) (ze : Nat) (zt : Nat) (jf : Nat) (q : Nat) (v : Nat) (k0 : Nat) (C : Nat → Int32) (hW : WTm ty gm L) (hL_h0 : h0 ∈ L) (hT_h0 : ty h0 = (15, ρ, [ta, ou, so, ad, na, va, lc, dm, tg, pe, ml, bg, co, sp, nb0, nb1, nb2, pl, se, ke, wi, hs, mo, po, nu, pr, sq, xa, sa, n64, m64, ex, wh, sd, tk, hd, ak, ho, ot, sx, s0, s1, s2, nf, bd, mm, fm, sn, hg, gc, gv, ze, zt])) (hjf : jf < nf) : Met l yX15_isNamed (.code yX15_isNamed cX15_isNamed 3 (some .boolean) :: tb) ({ frames := 5, cells := 0, slots := 0, locals := 109 }) (va_Pc [.ref h0, .int (nI jf), .ref q] (PTEm (dC, dI) cs ty gm L F sz [(q, v, k0, C)])) (va_Qi (fun (r : Int32) (_ : Unit) => (r = 0 ∨ r = 1)) (fun _ T9 => ∃ F2 : Nat → va_E, QTm (dC, dI) cs ty gm L [] F F2 (va_A (va_pl L F) sz) T9) (va_A (va_pl L F) sz)) 0 0 (va_A (va_pl L F) sz) := by
  refine Met.ofW (cc := cX15_isNamed) (maxL := 3) (ret := (some .boolean)) (by decide) rfl ?_
  intro p e s m args below meth c s₁ B hml hv
  obtain ⟨rfl, ⟨hsz, hP, hK, hD0, hE, hO⟩, hG, hX⟩ := hv
  have hx := B.exec
  have hb := B.bytes
  have hr := B.returns
  have hts : ∀ w ∈ tb, w.before _ s = true := fun w h => atoms_spec (ws := .code yX15_isNamed cX15_isNamed 3 (some .boolean) :: tb) B.pre w (List.mem_cons_of_mem _ h)
  have hown : s.vm.findClass RX15 = some m.cls := findClass_of_methodNamed B.named
  have hlocks := B.notSynchronized
  subst hsz
  have hD := hD0.self (sz := s.heap.size)
  generalize hAe : va_A (va_pl L F) s.heap.size = A at hD hG hX ⊢
  have hX_q : SXc q v k0 C A s s.heap := hX (q, v, k0, C) (by simp)
  obtain ⟨xo_q, xc_q, xv_q, xt_q, xn_q⟩ := id hX_q
  have hA : ∀ q : Nat, s.heap.size ≤ q → A q := fun q h => by rw [← hAe]; exact Or.inr h
  have hS : va_S A s.heap s.heap [] := va_S.rf
  have hR : FR ty [] F F := FR.refl
  have hl := lv_entry ([.ref h0, .int (nI jf), .ref q]) (n := 3) (Nat.le_of_ble_eq_true rfl)
  rw [lg_entry_eq]
  generalize (lg_sl ([.ref h0, .int (nI jf), .ref q]) ++ List.replicate (3 - (lg_sl ([.ref h0, .int (nI jf), .ref q])).length) Slot.unset).toArray = ls at hl ⊢
  have hl : lv_has ls 3 [(0, .ref h0), (1, .int (nI jf)), (2, .ref q)] := hl
  obtain ⟨hq_23, hq_24, hq_25, hq_26, hq_27, hgO, hgA, hgB, hq_28⟩ := hW.sc hL_h0 hT_h0
  have hoj := hgO jf hjf
  refine lv_aload_n hx hb dX15_isNamed_0 rfl (lv_at hl 0 rfl) ?_
  obtain ⟨zo_29, v14_30, v15_31, v17_32, v18_33, v19_34, v20_35, v21_36, v22_37, v33_38, v52_39, v53_40, v54_41, hF_42, hq_43, hq_44, hq_45, hq_46, hq_47⟩ := hO.mod hL_h0 hT_h0
  refine pg_get (ci := 15) (v := .ref ml) (C := RX15) (T := TX15) (N := 59) hx hb hts it_15 hown hK hP hL_h0 hF_42 rfl 23 (by decide) (hts _ kt_887) (fun _ h9 => h9) rfl dX15_isNamed_1 ?_
  refine lv_aload_n hx hb dX15_isNamed_4 rfl (lv_at hl 0 rfl) ?_
  refine pg_get (ci := 15) (v := .ref bg) (C := RX15) (T := TX15) (N := 59) hx hb hts it_15 hown hK hP hL_h0 hF_42 rfl 24 (by decide) (hts _ kt_888) (fun _ h9 => h9) rfl dX15_isNamed_5 ?_
  refine lv_iload_n hx hb dX15_isNamed_8 rfl (lv_at hl 1 rfl) ?_
  obtain ⟨hi_48, ht_49⟩ := hW.f_bg hL_h0 hT_h0
  obtain ⟨f_50, hF_51, hq_52⟩ := hO.pos hi_48 ht_49
  refine pg_iald hx hb hK hP hi_48 0 hF_51 rfl (vp_in_nI (by omega) (by omega)) dX15_isNamed_9 ?_
  refine lv_topi (fun x_53 ex_53 => ?_)
  obtain rfl : x_53 = (nI (gm 0 jf)) := ex_53.trans (by rw [show ((nI jf) : Int32) = nI jf from rfl, nI_clamp (by omega)]; exact hq_52 jf (by omega))
  have hgbx_53 := hgB 0 jf
  refine lv_aload_n hx hb dX15_isNamed_10 rfl (lv_at hl 0 rfl) ?_
  refine pg_get (ci := 15) (v := .ref co) (C := RX15) (T := TX15) (N := 59) hx hb hts it_15 hown hK hP hL_h0 hF_42 rfl 25 (by decide) (hts _ kt_889) (fun _ h9 => h9) rfl dX15_isNamed_11 ?_
  refine lv_iload_n hx hb dX15_isNamed_14 rfl (lv_at hl 1 rfl) ?_
  obtain ⟨hi_54, ht_55⟩ := hW.f_co hL_h0 hT_h0
  obtain ⟨f_56, hF_57, hq_58⟩ := hO.pos hi_54 ht_55
  refine pg_iald hx hb hK hP hi_54 0 hF_57 rfl (vp_in_nI (by omega) (by omega)) dX15_isNamed_15 ?_
  refine lv_topi (fun x_59 ex_59 => ?_)
  obtain rfl : x_59 = (nI (gm 1 jf)) := ex_59.trans (by rw [show ((nI jf) : Int32) = nI jf from rfl, nI_clamp (by omega)]; exact hq_58 jf (by omega))
  have hgbx_59 := hgB 1 jf
  refine lv_aload_n hx hb dX15_isNamed_16 rfl (lv_at hl 2 rfl) ?_
  obtain ⟨hi_60, ht_61⟩ := hW.f_ml hL_h0 hT_h0
  obtain ⟨hq_62, hq_63⟩ := hW.octs hi_60 ht_61
  have hFc := pg_free hD hS hA
  refine va_calli (va_runS (As := [.ref ml, .int (nI (gm 0 jf)), .int (nI (gm 1 jf)), .ref q]) (rest := []) ⟨hx, hb, hml, hown, hts⟩ (s_X15_isAlike l dC dI cs ty gm L s.heap.size F ml (ρ + 8) 3000 q v k0 C (gm 0 jf) (gm 1 jf) hW hi_60 ht_61 (by first | omega | assumption | exact Or.inl rfl) (by first | omega | assumption | exact Or.inl rfl)) ⟨callB_of 4 hts (gi kt_851) rfl rfl rfl (hts _ kt_669) (hts _ kt_852) (by decide +kernel) ⟨Nat.le_of_ble_eq_true rfl, Nat.le_of_ble_eq_true rfl⟩, (hts _ kt_853)⟩ ⟨fun a U g mk q => ⟨q.1, PTEm.calling q.2⟩, fun U hU hWm => ⟨rfl, PTEm.mk hU hWm hP hK hD hE hO hG (fun x hx => by rw [List.mem_singleton] at hx; subst hx; exact hX_q) hS hFc⟩⟩ rfl rfl hl.1 rfl (lv_room (Nat.le_of_ble_eq_true rfl)) dX15_isNamed_17 ⟨by show _ + 0 ≤ 0; omega, by show _ + 0 ≤ 0; omega⟩) hS (fun q _ h => hFc q h) hFc (fun r_64 u t H1 locs ht hvm hw hB hz1 hk1 hS => ?_)
  obtain ⟨F_65, hB1⟩ := hB
  obtain rfl : F = F_65 := (funext (fun a => hB1.2.2.2 a List.not_mem_nil)).symm
  obtain ⟨hP, hD, hO, hR⟩ := QTm.back hB1 ht hFc hR (fun q h => absurd h List.not_mem_nil)
  generalize H1 = H at hP hS ⊢
  have hw : (r_64 = 0 ∨ r_64 = 1) := hw
  have hw_66 := hw
  refine W.widen (k := 0) (n := 0) (by omega) (by omega) ?_
  exact W.zret (v := r_64) (ty := .boolean) hx hb hr (bitN hw_66) (fun t ht hWm => ⟨⟨r_64, (), rfl, hw_66, ⟨F, QTm.mk ht hP hD hO hR⟩⟩, hS.F ht⟩) hS.2.2 dX15_isNamed_20
set_option maxHeartbeats 4000000 in
set_option maxRecDepth 100000 in
theorem s_X15_valueEnd (l : Launch) (dC : Nat → ClassId) (dI : Nat → Nat → Nat) (cs : Nat → ClassId) (ty : TyM) (gm : Nat → Nat → Nat) (L : List Nat) (sz : Nat) (F : Nat → va_E) (h0 : Nat) (ρ : Nat) (ta : Nat) (ou : Nat) (so : Nat) (ad : Nat) (na : Nat) (va : Nat) (lc : Nat) (dm : Nat) (tg : Nat) (pe : Nat) (ml : Nat) (bg : Nat) (co : Nat) (sp : Nat) (nb0 : Nat) (nb1 : Nat) (nb2 : Nat) (pl : Nat) (se : Nat) (ke : Nat) (wi : Nat) (hs : Nat) (mo : Nat) (po : Nat) (nu : Nat) (pr : Nat) (sq : Nat) (xa : Nat) (sa : Nat) (n64 : Nat) (m64 : Nat) (ex : Nat) (wh : Nat) (sd : Nat) (tk : Nat) (hd : Nat) (ak : Nat) (ho : Nat) (ot : Nat) (sx : Nat) (s0 : Nat) (s1 : Nat) (s2 : Nat) (nf : Nat) (bd : Nat) (mm : Nat) (fm : Nat) (sn : Nat) (hg : Nat) (gc : Nat) (gv : Nat) (ze : Nat) (zt : Nat) (jf : Nat) (hW : WTm ty gm L) (hL_h0 : h0 ∈ L) (hT_h0 : ty h0 = (15, ρ, [ta, ou, so, ad, na, va, lc, dm, tg, pe, ml, bg, co, sp, nb0, nb1, nb2, pl, se, ke, wi, hs, mo, po, nu, pr, sq, xa, sa, n64, m64, ex, wh, sd, tk, hd, ak, ho, ot, sx, s0, s1, s2, nf, bd, mm, fm, sn, hg, gc, gv, ze, zt])) (hjf : jf < nf) : Met l yX15_valueEnd (.code yX15_valueEnd cX15_valueEnd 2 (some .int) :: tb) ({ frames := 0, cells := 0, slots := 0, locals := 0 }) (va_Pc [.ref h0, .int (nI jf)] (PTm (dC, dI) cs ty gm L F sz)) (va_Qi (fun (r : Int32) (_ : Unit) => (∃ k : Nat, gm 1 jf ≤ k ∧ k ≤ gm 2 jf ∧ r = nI k)) (fun _ T9 => ∃ F2 : Nat → va_E, QTm (dC, dI) cs ty gm L [] F F2 (va_A (va_pl L F) sz) T9) (va_A (va_pl L F) sz)) 0 0 (va_A (va_pl L F) sz) := by
  refine Met.ofW (cc := cX15_valueEnd) (maxL := 2) (ret := (some .int)) (by decide) rfl ?_
  intro p e s m args below meth c s₁ B hml hv
  obtain ⟨rfl, hsz, hP, hK, hD0, hE, hO⟩ := hv
  have hx := B.exec
  have hb := B.bytes
  have hr := B.returns
  have hts : ∀ w ∈ tb, w.before _ s = true := fun w h => atoms_spec (ws := .code yX15_valueEnd cX15_valueEnd 2 (some .int) :: tb) B.pre w (List.mem_cons_of_mem _ h)
  have hown : s.vm.findClass RX15 = some m.cls := findClass_of_methodNamed B.named
  have hlocks := B.notSynchronized
  subst hsz
  have hD := hD0.self (sz := s.heap.size)
  generalize hAe : va_A (va_pl L F) s.heap.size = A at hD ⊢
  have hA : ∀ q : Nat, s.heap.size ≤ q → A q := fun q h => by rw [← hAe]; exact Or.inr h
  have hS : va_S A s.heap s.heap [] := va_S.rf
  have hR : FR ty [] F F := FR.refl
  have hl := lv_entry ([.ref h0, .int (nI jf)]) (n := 2) (Nat.le_of_ble_eq_true rfl)
  rw [lg_entry_eq]
  generalize (lg_sl ([.ref h0, .int (nI jf)]) ++ List.replicate (2 - (lg_sl ([.ref h0, .int (nI jf)])).length) Slot.unset).toArray = ls at hl ⊢
  have hl : lv_has ls 2 [(0, .ref h0), (1, .int (nI jf))] := hl
  obtain ⟨hq_23, hq_24, hq_25, hq_26, hq_27, hgO, hgA, hgB, hq_28⟩ := hW.sc hL_h0 hT_h0
  have hoj := hgO jf hjf
  refine lv_aload_n hx hb dX15_valueEnd_0 rfl (lv_at hl 0 rfl) ?_
  obtain ⟨zo_29, v14_30, v15_31, v17_32, v18_33, v19_34, v20_35, v21_36, v22_37, v33_38, v52_39, v53_40, v54_41, hF_42, hq_43, hq_44, hq_45, hq_46, hq_47⟩ := hO.mod hL_h0 hT_h0
  refine pg_get (ci := 15) (v := .ref ml) (C := RX15) (T := TX15) (N := 59) hx hb hts it_15 hown hK hP hL_h0 hF_42 rfl 23 (by decide) (hts _ kt_887) (fun _ h9 => h9) rfl dX15_valueEnd_1 ?_
  refine lv_aload_n hx hb dX15_valueEnd_4 rfl (lv_at hl 0 rfl) ?_
  refine pg_get (ci := 15) (v := .ref sp) (C := RX15) (T := TX15) (N := 59) hx hb hts it_15 hown hK hP hL_h0 hF_42 rfl 26 (by decide) (hts _ kt_890) (fun _ h9 => h9) rfl dX15_valueEnd_5 ?_
  refine lv_iload_n hx hb dX15_valueEnd_8 rfl (lv_at hl 1 rfl) ?_
  obtain ⟨hi_48, ht_49⟩ := hW.f_sp hL_h0 hT_h0
  obtain ⟨f_50, hF_51, hq_52⟩ := hO.pos hi_48 ht_49
  refine pg_iald hx hb hK hP hi_48 0 hF_51 rfl (vp_in_nI (by omega) (by omega)) dX15_valueEnd_9 ?_
  refine lv_topi (fun x_53 ex_53 => ?_)
  obtain rfl : x_53 = (nI (gm 2 jf)) := ex_53.trans (by rw [show ((nI jf) : Int32) = nI jf from rfl, nI_clamp (by omega)]; exact hq_52 jf (by omega))
  have hgbx_53 := hgB 2 jf
  refine lv_iconst (v := 1) hx hb dX15_valueEnd_10 (by decide) ?_
  refine lv_isub hx hb dX15_valueEnd_11 ?_
  refine lv_topi (fun x_54 ex_54 => ?_)
  obtain rfl : x_54 = (nI ((gm 2 jf) - 1)) := ex_54.trans (pk_sub (a := (gm 2 jf)) (b := 1) (by omega))
  obtain ⟨hi_55, ht_56⟩ := hW.f_ml hL_h0 hT_h0
  obtain ⟨hq_57, hq_58⟩ := hW.octs hi_55 ht_56
  obtain ⟨f_59, hF_60, hq_61⟩ := hO.octs hi_55 ht_56
  refine pg_bald hx hb hK hP hi_55 1 hF_60 rfl (vp_in_nI (by omega) (by omega)) dX15_valueEnd_12 ?_
  refine lv_topi (fun x_62 ex_62 => ?_)
  obtain rfl : x_62 = f_59 ((gm 2 jf) - 1) := ex_62.trans (congrArg f_59 (show ((nI ((gm 2 jf) - 1)) : Int32).toNatClampNeg = ((gm 2 jf) - 1) from nI_clamp (by omega)))
  refine lv_bipush (v := 10) hx hb dX15_valueEnd_13 (by decide) ?_
  refine lv_icmp_ne (tgt := 29) hx hb dX15_valueEnd_15 (by decide) (fun c_63 => ?_) (fun c_63 => ?_)
  ·
    refine lv_aload_n hx hb dX15_valueEnd_29 rfl (lv_at hl 0 rfl) ?_
    refine pg_get (ci := 15) (v := .ref sp) (C := RX15) (T := TX15) (N := 59) hx hb hts it_15 hown hK hP hL_h0 hF_42 rfl 26 (by decide) (hts _ kt_890) (fun _ h9 => h9) rfl dX15_valueEnd_30 ?_
    refine lv_iload_n hx hb dX15_valueEnd_33 rfl (lv_at hl 1 rfl) ?_
    refine pg_iald hx hb hK hP hi_48 0 hF_51 rfl (vp_in_nI (by omega) (by omega)) dX15_valueEnd_34 ?_
    refine lv_topi (fun x_64 ex_64 => ?_)
    obtain rfl : x_64 = (nI (gm 2 jf)) := ex_64.trans (by rw [show ((nI jf) : Int32) = nI jf from rfl, nI_clamp (by omega)]; exact hq_52 jf (by omega))
    have hgbx_64 := hgB 2 jf
    refine W.widen (k := 0) (n := 0) (by omega) (by omega) ?_
    exact W.iret (v := (nI (gm 2 jf))) hx hb hr (fun t ht hWm => ⟨⟨(nI (gm 2 jf)), (), rfl, ⟨(gm 2 jf), by omega, by omega, rfl⟩, ⟨F, QTm.mk ht hP hD hO hR⟩⟩, hS.F ht⟩) hS.2.2 dX15_valueEnd_35
  ·
    refine lv_aload_n hx hb dX15_valueEnd_18 rfl (lv_at hl 0 rfl) ?_
    refine pg_get (ci := 15) (v := .ref sp) (C := RX15) (T := TX15) (N := 59) hx hb hts it_15 hown hK hP hL_h0 hF_42 rfl 26 (by decide) (hts _ kt_890) (fun _ h9 => h9) rfl dX15_valueEnd_19 ?_
    refine lv_iload_n hx hb dX15_valueEnd_22 rfl (lv_at hl 1 rfl) ?_
    refine pg_iald hx hb hK hP hi_48 0 hF_51 rfl (vp_in_nI (by omega) (by omega)) dX15_valueEnd_23 ?_
    refine lv_topi (fun x_65 ex_65 => ?_)
    obtain rfl : x_65 = (nI (gm 2 jf)) := ex_65.trans (by rw [show ((nI jf) : Int32) = nI jf from rfl, nI_clamp (by omega)]; exact hq_52 jf (by omega))
    have hgbx_65 := hgB 2 jf
    refine lv_iconst (v := 1) hx hb dX15_valueEnd_24 (by decide) ?_
    refine lv_isub hx hb dX15_valueEnd_25 ?_
    refine lv_topi (fun x_66 ex_66 => ?_)
    obtain rfl : x_66 = (nI ((gm 2 jf) - 1)) := ex_66.trans (pk_sub (a := (gm 2 jf)) (b := 1) (by omega))
    refine lv_goto (tgt := 35) hx hb dX15_valueEnd_26 (by decide) ?_
    refine W.widen (k := 0) (n := 0) (by omega) (by omega) ?_
    exact W.iret (v := (nI ((gm 2 jf) - 1))) hx hb hr (fun t ht hWm => ⟨⟨(nI ((gm 2 jf) - 1)), (), rfl, ⟨((gm 2 jf) - 1), by omega, by omega, rfl⟩, ⟨F, QTm.mk ht hP hD hO hR⟩⟩, hS.F ht⟩) hS.2.2 dX15_valueEnd_35
set_option maxHeartbeats 4000000 in
set_option maxRecDepth 100000 in
theorem s_X15_seals (l : Launch) (dC : Nat → ClassId) (dI : Nat → Nat → Nat) (cs : Nat → ClassId) (ty : TyM) (gm : Nat → Nat → Nat) (L : List Nat) (sz : Nat) (F : Nat → va_E) (h0 : Nat) (ρ : Nat) (ta : Nat) (ou : Nat) (so : Nat) (ad : Nat) (na : Nat) (va : Nat) (lc : Nat) (dm : Nat) (tg : Nat) (pe : Nat) (ml : Nat) (bg : Nat) (co : Nat) (sp : Nat) (nb0 : Nat) (nb1 : Nat) (nb2 : Nat) (pl : Nat) (se : Nat) (ke : Nat) (wi : Nat) (hs : Nat) (mo : Nat) (po : Nat) (nu : Nat) (pr : Nat) (sq : Nat) (xa : Nat) (sa : Nat) (n64 : Nat) (m64 : Nat) (ex : Nat) (wh : Nat) (sd : Nat) (tk : Nat) (hd : Nat) (ak : Nat) (ho : Nat) (ot : Nat) (sx : Nat) (s0 : Nat) (s1 : Nat) (s2 : Nat) (nf : Nat) (bd : Nat) (mm : Nat) (fm : Nat) (sn : Nat) (hg : Nat) (gc : Nat) (gv : Nat) (ze : Nat) (zt : Nat) (hW : WTm ty gm L) (hL_h0 : h0 ∈ L) (hT_h0 : ty h0 = (15, ρ, [ta, ou, so, ad, na, va, lc, dm, tg, pe, ml, bg, co, sp, nb0, nb1, nb2, pl, se, ke, wi, hs, mo, po, nu, pr, sq, xa, sa, n64, m64, ex, wh, sd, tk, hd, ak, ho, ot, sx, s0, s1, s2, nf, bd, mm, fm, sn, hg, gc, gv, ze, zt])) : Met l yX15_seals (.code yX15_seals cX15_seals 3 (some .int) :: tb) ({ frames := 6, cells := 0, slots := 0, locals := 131 }) (va_Pc [.ref h0] (PTEm (dC, dI) cs ty gm L F sz [])) (va_Qi (fun (r : Int32) (_ : Unit) => True) (fun _ T9 => ∃ F2 : Nat → va_E, QTm (dC, dI) cs ty gm L [] F F2 (va_A (va_pl L F) sz) T9) (va_A (va_pl L F) sz)) 0 0 (va_A (va_pl L F) sz) := by
  refine Met.ofW (cc := cX15_seals) (maxL := 3) (ret := (some .int)) (by decide) rfl ?_
  intro p e s m args below meth c s₁ B hml hv
  obtain ⟨rfl, ⟨hsz, hP, hK, hD0, hE, hO⟩, hG, hX⟩ := hv
  have hx := B.exec
  have hb := B.bytes
  have hr := B.returns
  have hts : ∀ w ∈ tb, w.before _ s = true := fun w h => atoms_spec (ws := .code yX15_seals cX15_seals 3 (some .int) :: tb) B.pre w (List.mem_cons_of_mem _ h)
  have hown : s.vm.findClass RX15 = some m.cls := findClass_of_methodNamed B.named
  have hlocks := B.notSynchronized
  subst hsz
  have hD := hD0.self (sz := s.heap.size)
  generalize hAe : va_A (va_pl L F) s.heap.size = A at hD hG hX ⊢
  have hA : ∀ q : Nat, s.heap.size ≤ q → A q := fun q h => by rw [← hAe]; exact Or.inr h
  have hS : va_S A s.heap s.heap [] := va_S.rf
  have hR : FR ty [] F F := FR.refl
  have hl := lv_entry ([.ref h0]) (n := 3) (Nat.le_of_ble_eq_true rfl)
  rw [lg_entry_eq]
  generalize (lg_sl ([.ref h0]) ++ List.replicate (3 - (lg_sl ([.ref h0])).length) Slot.unset).toArray = ls at hl ⊢
  have hl : lv_has ls 3 [(0, .ref h0)] := hl
  obtain ⟨hq_23, hq_24, hq_25, hq_26, hq_27, hgO, hgA, hgB, hq_28⟩ := hW.sc hL_h0 hT_h0
  refine lv_iconst (v := 0) hx hb dX15_seals_0 (by decide) ?_
  refine lv_istore_n (lv' := [(1, .int 0), (0, .ref h0)]) hx hb dX15_seals_1 rfl hl (by decide) rfl (fun ls hl => ?_)
  refine lv_iconst (v := 0) hx hb dX15_seals_2 (by decide) ?_
  refine lv_istore_n (lv' := [(2, .int 0), (1, .int 0), (0, .ref h0)]) hx hb dX15_seals_3 rfl hl (by decide) rfl (fun ls hl => ?_)
  refine W.widen (k := 0) (n := 0) (by omega) (by omega) ?_
  refine pl_loopm (σ := Nat × Int32) A (dC, dI) cs ty gm L [] F 4 3 (fun (j, w1) => [(2, .int (nI j)), (1, .int w1), (0, .ref h0)]) (fun (j, w1) => []) (fun (j, w1) _ => j ≤ nf) (fun (j, w1) => nf - j) ?_ (0, 0) F (by omega) hO hR _ _ hP hD hS ls (lv_sub hl [0, 1, 2] rfl)
  rintro ⟨j, w1⟩ F_29 hv_30 hO hR ih_31 H locs hP hD hS ls hl
  have hl : lv_has ls 3 [(2, .int (nI j)), (1, .int w1), (0, .ref h0)] := hl
  have hv_30 : j ≤ nf := hv_30
  refine W.eq (g2 := F0 m 4 ls []) rfl ?_
  obtain rfl : F = F_29 := (funext (fun a => hR a List.not_mem_nil)).symm
  refine lv_aload_n hx hb dX15_seals_4 rfl (lv_at hl 2 rfl) ?_
  obtain ⟨zo_32, v14_33, v15_34, v17_35, v18_36, v19_37, v20_38, v21_39, v22_40, v33_41, v52_42, v53_43, v54_44, hF_45, hq_46, hq_47, hq_48, hq_49, hq_50⟩ := hO.mod hL_h0 hT_h0
  refine pg_get (ci := 15) (v := .int v33_41) (C := RX15) (T := TX15) (N := 59) hx hb hts it_15 hown hK hP hL_h0 hF_45 rfl 33 (by decide) (hts _ kt_891) (fun _ h9 => h9) rfl dX15_seals_5 ?_
  refine lv_if_eq (tgt := 39) hx hb dX15_seals_8 (by decide) (fun c_51 => ?_) (fun c_51 => ?_)
  ·
    refine lv_iload_n hx hb dX15_seals_39 rfl (lv_at hl 1 rfl) ?_
    refine W.widen (k := 0) (n := 0) (by omega) (by omega) ?_
    exact W.iret (v := w1) hx hb hr (fun t ht hWm => ⟨⟨w1, (), rfl, trivial, ⟨F, QTm.mk ht hP hD hO hR⟩⟩, hS.F ht⟩) hS.2.2 dX15_seals_40
  ·
    refine lv_iload_n hx hb dX15_seals_11 rfl (lv_at hl 0 rfl) ?_
    refine lv_aload_n hx hb dX15_seals_12 rfl (lv_at hl 2 rfl) ?_
    refine pg_get (ci := 15) (v := .int (nI nf)) (C := RX15) (T := TX15) (N := 59) hx hb hts it_15 hown hK hP hL_h0 hF_45 rfl 30 (by decide) (hts _ kt_892) (fun _ h9 => h9) rfl dX15_seals_13 ?_
    refine lv_icmp_ge (tgt := 39) hx hb dX15_seals_16 (by decide) (fun c_52 => ?_) (fun c_52 => ?_)
    ·
      have hi_53 : nf ≤ j := leN (N := nf) c_52
      refine lv_iload_n hx hb dX15_seals_39 rfl (lv_at hl 1 rfl) ?_
      refine W.widen (k := 0) (n := 0) (by omega) (by omega) ?_
      exact W.iret (v := w1) hx hb hr (fun t ht hWm => ⟨⟨w1, (), rfl, trivial, ⟨F, QTm.mk ht hP hD hO hR⟩⟩, hS.F ht⟩) hS.2.2 dX15_seals_40
    ·
      have hi_54 : j < nf := ltN (N := nf) c_52
      refine lv_aload_n hx hb dX15_seals_19 rfl (lv_at hl 2 rfl) ?_
      refine lv_iload_n hx hb dX15_seals_20 rfl (lv_at hl 0 rfl) ?_
      obtain ⟨q_55, v_56, hr_q_55, hX_q_55⟩ := hG.2.2 ("PostGateModel", 376, "dkim-signature", [100, 107, 105, 109, 45, 115, 105, 103, 110, 97, 116, 117, 114, 101]) (by decide +kernel)
      have hX_q_55 : SXc q_55 v_56 14 (cct [100, 107, 105, 109, 45, 115, 105, 103, 110, 97, 116, 117, 114, 101]) A s s.heap := hX_q_55
      obtain ⟨xo_q_55, xc_q_55, xv_q_55, xt_q_55, xn_q_55⟩ := id hX_q_55
      have hr_q_55 : vk_R "PostGateModel" 376 "dkim-signature" q_55 s := hr_q_55
      refine va_ldcwS hx hb hown hr_q_55 dX15_seals_21 ?_
      have hFc := pg_free hD hS hA
      refine va_calli (va_runV (As := [.int (nI j), .ref q_55]) (rest := []) ⟨hx, hb, hml, hown, hts⟩ (s_X15_isNamed l dC dI cs ty gm L H.size F h0 ρ ta ou so ad na va lc dm tg pe ml bg co sp nb0 nb1 nb2 pl se ke wi hs mo po nu pr sq xa sa n64 m64 ex wh sd tk hd ak ho ot sx s0 s1 s2 nf bd mm fm sn hg gc gv ze zt j q_55 v_56 14 (cct [100, 107, 105, 109, 45, 115, 105, 103, 110, 97, 116, 117, 114, 101]) hW hL_h0 hT_h0 (by first | omega | assumption | exact Or.inl rfl)) ⟨callB_of 2 hts (gi kt_893) rfl rfl rfl (hts _ kt_669) (hts _ kt_894) (by decide +kernel) ⟨Nat.le_of_ble_eq_true rfl, Nat.le_of_ble_eq_true rfl⟩, (hts _ kt_895), (hts _ kt_896)⟩ ⟨fun a U g mk q => ⟨q.1, PTEm.calling q.2⟩, pg_recv hK hP hL_h0 hF_45 (q := (RX15, TX15, 59)) rfl, fun U hU hWm => ⟨rfl, PTEm.mk hU hWm hP hK hD hE hO hG (fun x hx => by rw [List.mem_singleton] at hx; subst hx; exact hX_q_55) hS hFc⟩⟩ rfl rfl hl.1 rfl (lv_room (Nat.le_of_ble_eq_true rfl)) dX15_seals_24 ⟨by show _ + 0 ≤ 0; omega, by show _ + 0 ≤ 0; omega⟩) hS (fun q _ h => hFc q h) hFc (fun r_57 u t H1 locs ht hvm hw hB hz1 hk1 hS => ?_)
      obtain ⟨F_58, hB1⟩ := hB
      obtain rfl : F = F_58 := (funext (fun a => hB1.2.2.2 a List.not_mem_nil)).symm
      obtain ⟨hP, hD, hO, hR⟩ := QTm.back hB1 ht hFc hR (fun q h => absurd h List.not_mem_nil)
      generalize H1 = H at hP hS ⊢
      have hw : (r_57 = 0 ∨ r_57 = 1) := hw
      have hw_59 := hw
      refine lv_if_eq (tgt := 33) hx hb dX15_seals_27 (by decide) (fun c_60 => ?_) (fun c_60 => ?_)
      ·
        refine lv_iinc (v := (nI (j + 1))) (lv' := [(2, .int (nI (j + 1))), (1, .int w1), (0, .ref h0)]) hx hb dX15_seals_33 hl (k := 0) rfl (nI_1 _) (by decide) rfl (fun ls hl => ?_)
        refine lv_goto (tgt := 4) hx hb dX15_seals_36 (by decide) ?_
        refine W.widen (k := 0) (n := 0) (by omega) (by omega) ?_
        exact ih_31 ((j + 1), w1) F (by first | omega | exact ⟨by omega, by omega⟩ | trivial) (by show nf - (j + 1) < nf - j; omega) hO hR _ _ hP hD hS ls (lv_sub hl [0, 1, 2] rfl)
      ·
        obtain ⟨x_61, ex_61⟩ : ∃ y : Int32, y = w1 + Int32.ofInt 1 := ⟨_, rfl⟩
        refine lv_iinc (v := x_61) (lv' := [(1, .int x_61), (2, .int (nI j)), (0, .ref h0)]) hx hb dX15_seals_30 hl (k := 1) rfl (ex_61.symm) (by decide) rfl (fun ls hl => ?_)
        refine lv_iinc (v := (nI (j + 1))) (lv' := [(2, .int (nI (j + 1))), (1, .int x_61), (0, .ref h0)]) hx hb dX15_seals_33 hl (k := 1) rfl (nI_1 _) (by decide) rfl (fun ls hl => ?_)
        refine lv_goto (tgt := 4) hx hb dX15_seals_36 (by decide) ?_
        refine W.widen (k := 0) (n := 0) (by omega) (by omega) ?_
        exact ih_31 ((j + 1), x_61) F (by first | omega | exact ⟨by omega, by omega⟩ | trivial) (by show nf - (j + 1) < nf - j; omega) hO hR _ _ hP hD hS ls (lv_sub hl [0, 1, 2] rfl)
set_option maxHeartbeats 4000000 in
set_option maxRecDepth 100000 in
theorem s_X15_sealAt (l : Launch) (dC : Nat → ClassId) (dI : Nat → Nat → Nat) (cs : Nat → ClassId) (ty : TyM) (gm : Nat → Nat → Nat) (L : List Nat) (sz : Nat) (F : Nat → va_E) (h0 : Nat) (ρ : Nat) (ta : Nat) (ou : Nat) (so : Nat) (ad : Nat) (na : Nat) (va : Nat) (lc : Nat) (dm : Nat) (tg : Nat) (pe : Nat) (ml : Nat) (bg : Nat) (co : Nat) (sp : Nat) (nb0 : Nat) (nb1 : Nat) (nb2 : Nat) (pl : Nat) (se : Nat) (ke : Nat) (wi : Nat) (hs : Nat) (mo : Nat) (po : Nat) (nu : Nat) (pr : Nat) (sq : Nat) (xa : Nat) (sa : Nat) (n64 : Nat) (m64 : Nat) (ex : Nat) (wh : Nat) (sd : Nat) (tk : Nat) (hd : Nat) (ak : Nat) (ho : Nat) (ot : Nat) (sx : Nat) (s0 : Nat) (s1 : Nat) (s2 : Nat) (nf : Nat) (bd : Nat) (mm : Nat) (fm : Nat) (sn : Nat) (hg : Nat) (gc : Nat) (gv : Nat) (ze : Nat) (zt : Nat) (x1 : Int32) (hW : WTm ty gm L) (hL_h0 : h0 ∈ L) (hT_h0 : ty h0 = (15, ρ, [ta, ou, so, ad, na, va, lc, dm, tg, pe, ml, bg, co, sp, nb0, nb1, nb2, pl, se, ke, wi, hs, mo, po, nu, pr, sq, xa, sa, n64, m64, ex, wh, sd, tk, hd, ak, ho, ot, sx, s0, s1, s2, nf, bd, mm, fm, sn, hg, gc, gv, ze, zt])) : Met l yX15_sealAt (.code yX15_sealAt cX15_sealAt 4 (some .int) :: tb) ({ frames := 6, cells := 0, slots := 0, locals := 131 }) (va_Pc [.ref h0, .int x1] (PTEm (dC, dI) cs ty gm L F sz [])) (va_Qi (fun (r : Int32) (_ : Unit) => (r = (-1) ∨ ∃ j : Nat, j < nf ∧ r = nI j)) (fun _ T9 => ∃ F2 : Nat → va_E, QTm (dC, dI) cs ty gm L [] F F2 (va_A (va_pl L F) sz) T9) (va_A (va_pl L F) sz)) 0 0 (va_A (va_pl L F) sz) := by
  refine Met.ofW (cc := cX15_sealAt) (maxL := 4) (ret := (some .int)) (by decide) rfl ?_
  intro p e s m args below meth c s₁ B hml hv
  obtain ⟨rfl, ⟨hsz, hP, hK, hD0, hE, hO⟩, hG, hX⟩ := hv
  have hx := B.exec
  have hb := B.bytes
  have hr := B.returns
  have hts : ∀ w ∈ tb, w.before _ s = true := fun w h => atoms_spec (ws := .code yX15_sealAt cX15_sealAt 4 (some .int) :: tb) B.pre w (List.mem_cons_of_mem _ h)
  have hown : s.vm.findClass RX15 = some m.cls := findClass_of_methodNamed B.named
  have hlocks := B.notSynchronized
  subst hsz
  have hD := hD0.self (sz := s.heap.size)
  generalize hAe : va_A (va_pl L F) s.heap.size = A at hD hG hX ⊢
  have hA : ∀ q : Nat, s.heap.size ≤ q → A q := fun q h => by rw [← hAe]; exact Or.inr h
  have hS : va_S A s.heap s.heap [] := va_S.rf
  have hR : FR ty [] F F := FR.refl
  have hl := lv_entry ([.ref h0, .int x1]) (n := 4) (Nat.le_of_ble_eq_true rfl)
  rw [lg_entry_eq]
  generalize (lg_sl ([.ref h0, .int x1]) ++ List.replicate (4 - (lg_sl ([.ref h0, .int x1])).length) Slot.unset).toArray = ls at hl ⊢
  have hl : lv_has ls 4 [(0, .ref h0), (1, .int x1)] := hl
  obtain ⟨hq_23, hq_24, hq_25, hq_26, hq_27, hgO, hgA, hgB, hq_28⟩ := hW.sc hL_h0 hT_h0
  refine lv_iload_n hx hb dX15_sealAt_0 rfl (lv_at hl 1 rfl) ?_
  refine lv_istore_n (lv' := [(2, .int x1), (0, .ref h0), (1, .int x1)]) hx hb dX15_sealAt_1 rfl hl (by decide) rfl (fun ls hl => ?_)
  refine lv_iconst (v := 0) hx hb dX15_sealAt_2 (by decide) ?_
  refine lv_istore_n (lv' := [(3, .int 0), (2, .int x1), (0, .ref h0), (1, .int x1)]) hx hb dX15_sealAt_3 rfl hl (by decide) rfl (fun ls hl => ?_)
  refine W.widen (k := 0) (n := 0) (by omega) (by omega) ?_
  refine pl_loopm (σ := Nat × Int32) A (dC, dI) cs ty gm L [] F 4 4 (fun (j, w2) => [(3, .int (nI j)), (2, .int w2), (0, .ref h0), (1, .int x1)]) (fun (j, w2) => []) (fun (j, w2) _ => j ≤ nf) (fun (j, w2) => nf - j) ?_ (0, x1) F (by omega) hO hR _ _ hP hD hS ls (lv_sub hl [0, 1, 2, 3] rfl)
  rintro ⟨j, w2⟩ F_29 hv_30 hO hR ih_31 H locs hP hD hS ls hl
  have hl : lv_has ls 4 [(3, .int (nI j)), (2, .int w2), (0, .ref h0), (1, .int x1)] := hl
  have hv_30 : j ≤ nf := hv_30
  refine W.eq (g2 := F0 m 4 ls []) rfl ?_
  obtain rfl : F = F_29 := (funext (fun a => hR a List.not_mem_nil)).symm
  refine lv_aload_n hx hb dX15_sealAt_4 rfl (lv_at hl 2 rfl) ?_
  obtain ⟨zo_32, v14_33, v15_34, v17_35, v18_36, v19_37, v20_38, v21_39, v22_40, v33_41, v52_42, v53_43, v54_44, hF_45, hq_46, hq_47, hq_48, hq_49, hq_50⟩ := hO.mod hL_h0 hT_h0
  refine pg_get (ci := 15) (v := .int v33_41) (C := RX15) (T := TX15) (N := 59) hx hb hts it_15 hown hK hP hL_h0 hF_45 rfl 33 (by decide) (hts _ kt_891) (fun _ h9 => h9) rfl dX15_sealAt_5 ?_
  refine lv_if_eq (tgt := 52) hx hb dX15_sealAt_8 (by decide) (fun c_51 => ?_) (fun c_51 => ?_)
  ·
    refine lv_iconst (v := (-1)) hx hb dX15_sealAt_52 (by decide) ?_
    refine W.widen (k := 0) (n := 0) (by omega) (by omega) ?_
    exact W.iret (v := (-1)) hx hb hr (fun t ht hWm => ⟨⟨(-1), (), rfl, Or.inl rfl, ⟨F, QTm.mk ht hP hD hO hR⟩⟩, hS.F ht⟩) hS.2.2 dX15_sealAt_53
  ·
    refine lv_iload_n hx hb dX15_sealAt_11 rfl (lv_at hl 3 rfl) ?_
    refine lv_if_lt (tgt := 52) hx hb dX15_sealAt_12 (by decide) (fun c_52 => ?_) (fun c_52 => ?_)
    ·
      refine lv_iconst (v := (-1)) hx hb dX15_sealAt_52 (by decide) ?_
      refine W.widen (k := 0) (n := 0) (by omega) (by omega) ?_
      exact W.iret (v := (-1)) hx hb hr (fun t ht hWm => ⟨⟨(-1), (), rfl, Or.inl rfl, ⟨F, QTm.mk ht hP hD hO hR⟩⟩, hS.F ht⟩) hS.2.2 dX15_sealAt_53
    ·
      refine lv_iload_n hx hb dX15_sealAt_15 rfl (lv_at hl 0 rfl) ?_
      refine lv_aload_n hx hb dX15_sealAt_16 rfl (lv_at hl 2 rfl) ?_
      refine pg_get (ci := 15) (v := .int (nI nf)) (C := RX15) (T := TX15) (N := 59) hx hb hts it_15 hown hK hP hL_h0 hF_45 rfl 30 (by decide) (hts _ kt_892) (fun _ h9 => h9) rfl dX15_sealAt_17 ?_
      refine lv_icmp_ge (tgt := 52) hx hb dX15_sealAt_20 (by decide) (fun c_53 => ?_) (fun c_53 => ?_)
      ·
        have hi_54 : nf ≤ j := leN (N := nf) c_53
        refine lv_iconst (v := (-1)) hx hb dX15_sealAt_52 (by decide) ?_
        refine W.widen (k := 0) (n := 0) (by omega) (by omega) ?_
        exact W.iret (v := (-1)) hx hb hr (fun t ht hWm => ⟨⟨(-1), (), rfl, Or.inl rfl, ⟨F, QTm.mk ht hP hD hO hR⟩⟩, hS.F ht⟩) hS.2.2 dX15_sealAt_53
      ·
        have hi_55 : j < nf := ltN (N := nf) c_53
        refine lv_aload_n hx hb dX15_sealAt_23 rfl (lv_at hl 2 rfl) ?_
        refine lv_iload_n hx hb dX15_sealAt_24 rfl (lv_at hl 0 rfl) ?_
        obtain ⟨q_56, v_57, hr_q_56, hX_q_56⟩ := hG.2.2 ("PostGateModel", 376, "dkim-signature", [100, 107, 105, 109, 45, 115, 105, 103, 110, 97, 116, 117, 114, 101]) (by decide +kernel)
        have hX_q_56 : SXc q_56 v_57 14 (cct [100, 107, 105, 109, 45, 115, 105, 103, 110, 97, 116, 117, 114, 101]) A s s.heap := hX_q_56
        obtain ⟨xo_q_56, xc_q_56, xv_q_56, xt_q_56, xn_q_56⟩ := id hX_q_56
        have hr_q_56 : vk_R "PostGateModel" 376 "dkim-signature" q_56 s := hr_q_56
        refine va_ldcwS hx hb hown hr_q_56 dX15_sealAt_25 ?_
        have hFc := pg_free hD hS hA
        refine va_calli (va_runV (As := [.int (nI j), .ref q_56]) (rest := []) ⟨hx, hb, hml, hown, hts⟩ (s_X15_isNamed l dC dI cs ty gm L H.size F h0 ρ ta ou so ad na va lc dm tg pe ml bg co sp nb0 nb1 nb2 pl se ke wi hs mo po nu pr sq xa sa n64 m64 ex wh sd tk hd ak ho ot sx s0 s1 s2 nf bd mm fm sn hg gc gv ze zt j q_56 v_57 14 (cct [100, 107, 105, 109, 45, 115, 105, 103, 110, 97, 116, 117, 114, 101]) hW hL_h0 hT_h0 (by first | omega | assumption | exact Or.inl rfl)) ⟨callB_of 2 hts (gi kt_893) rfl rfl rfl (hts _ kt_669) (hts _ kt_894) (by decide +kernel) ⟨Nat.le_of_ble_eq_true rfl, Nat.le_of_ble_eq_true rfl⟩, (hts _ kt_895), (hts _ kt_896)⟩ ⟨fun a U g mk q => ⟨q.1, PTEm.calling q.2⟩, pg_recv hK hP hL_h0 hF_45 (q := (RX15, TX15, 59)) rfl, fun U hU hWm => ⟨rfl, PTEm.mk hU hWm hP hK hD hE hO hG (fun x hx => by rw [List.mem_singleton] at hx; subst hx; exact hX_q_56) hS hFc⟩⟩ rfl rfl hl.1 rfl (lv_room (Nat.le_of_ble_eq_true rfl)) dX15_sealAt_28 ⟨by show _ + 0 ≤ 0; omega, by show _ + 0 ≤ 0; omega⟩) hS (fun q _ h => hFc q h) hFc (fun r_58 u t H1 locs ht hvm hw hB hz1 hk1 hS => ?_)
        obtain ⟨F_59, hB1⟩ := hB
        obtain rfl : F = F_59 := (funext (fun a => hB1.2.2.2 a List.not_mem_nil)).symm
        obtain ⟨hP, hD, hO, hR⟩ := QTm.back hB1 ht hFc hR (fun q h => absurd h List.not_mem_nil)
        generalize H1 = H at hP hS ⊢
        have hw : (r_58 = 0 ∨ r_58 = 1) := hw
        have hw_60 := hw
        refine lv_if_ne (tgt := 37) hx hb dX15_sealAt_31 (by decide) (fun c_61 => ?_) (fun c_61 => ?_)
        ·
          refine lv_iload_n hx hb dX15_sealAt_37 rfl (lv_at hl 1 rfl) ?_
          refine lv_if_ne (tgt := 43) hx hb dX15_sealAt_38 (by decide) (fun c_62 => ?_) (fun c_62 => ?_)
          ·
            obtain ⟨x_63, ex_63⟩ : ∃ y : Int32, y = w2 + Int32.ofInt (-1) := ⟨_, rfl⟩
            refine lv_iinc (v := x_63) (lv' := [(2, .int x_63), (3, .int (nI j)), (0, .ref h0), (1, .int x1)]) hx hb dX15_sealAt_43 hl (k := 1) rfl (ex_63.symm) (by decide) rfl (fun ls hl => ?_)
            refine lv_iinc (v := (nI (j + 1))) (lv' := [(3, .int (nI (j + 1))), (2, .int x_63), (0, .ref h0), (1, .int x1)]) hx hb dX15_sealAt_46 hl (k := 1) rfl (nI_1 _) (by decide) rfl (fun ls hl => ?_)
            refine lv_goto (tgt := 4) hx hb dX15_sealAt_49 (by decide) ?_
            refine W.widen (k := 0) (n := 0) (by omega) (by omega) ?_
            exact ih_31 ((j + 1), x_63) F (by first | omega | exact ⟨by omega, by omega⟩ | trivial) (by show nf - (j + 1) < nf - j; omega) hO hR _ _ hP hD hS ls (lv_sub hl [0, 1, 2, 3] rfl)
          ·
            refine lv_iload_n hx hb dX15_sealAt_41 rfl (lv_at hl 0 rfl) ?_
            refine W.widen (k := 0) (n := 0) (by omega) (by omega) ?_
            exact W.iret (v := (nI j)) hx hb hr (fun t ht hWm => ⟨⟨(nI j), (), rfl, (Or.inr ⟨j, by omega, rfl⟩), ⟨F, QTm.mk ht hP hD hO hR⟩⟩, hS.F ht⟩) hS.2.2 dX15_sealAt_42
        ·
          refine lv_goto (tgt := 46) hx hb dX15_sealAt_34 (by decide) ?_
          refine lv_iinc (v := (nI (j + 1))) (lv' := [(3, .int (nI (j + 1))), (2, .int w2), (0, .ref h0), (1, .int x1)]) hx hb dX15_sealAt_46 hl (k := 0) rfl (nI_1 _) (by decide) rfl (fun ls hl => ?_)
          refine lv_goto (tgt := 4) hx hb dX15_sealAt_49 (by decide) ?_
          refine W.widen (k := 0) (n := 0) (by omega) (by omega) ?_
          exact ih_31 ((j + 1), w2) F (by first | omega | exact ⟨by omega, by omega⟩ | trivial) (by show nf - (j + 1) < nf - j; omega) hO hR _ _ hP hD hS ls (lv_sub hl [0, 1, 2, 3] rfl)
set_option maxHeartbeats 4000000 in
set_option maxRecDepth 100000 in
theorem s_X15_fieldPlain (l : Launch) (dC : Nat → ClassId) (dI : Nat → Nat → Nat) (cs : Nat → ClassId) (ty : TyM) (gm : Nat → Nat → Nat) (L : List Nat) (sz : Nat) (F : Nat → va_E) (h0 : Nat) (ρ : Nat) (ta : Nat) (ou : Nat) (so : Nat) (ad : Nat) (na : Nat) (va : Nat) (lc : Nat) (dm : Nat) (tg : Nat) (pe : Nat) (ml : Nat) (bg : Nat) (co : Nat) (sp : Nat) (nb0 : Nat) (nb1 : Nat) (nb2 : Nat) (pl : Nat) (se : Nat) (ke : Nat) (wi : Nat) (hs : Nat) (mo : Nat) (po : Nat) (nu : Nat) (pr : Nat) (sq : Nat) (xa : Nat) (sa : Nat) (n64 : Nat) (m64 : Nat) (ex : Nat) (wh : Nat) (sd : Nat) (tk : Nat) (hd : Nat) (ak : Nat) (ho : Nat) (ot : Nat) (sx : Nat) (s0 : Nat) (s1 : Nat) (s2 : Nat) (nf : Nat) (bd : Nat) (mm : Nat) (fm : Nat) (sn : Nat) (hg : Nat) (gc : Nat) (gv : Nat) (ze : Nat) (zt : Nat) (rl : Nat) (jf : Nat) (z : Nat) (x2 : Int32) (x3 : Int32) (x4 : Int32) (hW : WTm ty gm L) (hL_h0 : h0 ∈ L) (hT_h0 : ty h0 = (15, ρ, [ta, ou, so, ad, na, va, lc, dm, tg, pe, ml, bg, co, sp, nb0, nb1, nb2, pl, se, ke, wi, hs, mo, po, nu, pr, sq, xa, sa, n64, m64, ex, wh, sd, tk, hd, ak, ho, ot, sx, s0, s1, s2, nf, bd, mm, fm, sn, hg, gc, gv, ze, zt])) (hL_pl : pl ∈ L) (hT_pl : ty pl = (14, ρ + 10, [rl, 6000])) (hjf : jf < nf) (hFl : F pl = .inr (14, [.ref rl, .int (nI z)])) (hfit : z + (gm 2 jf - gm 0 jf) ≤ 6000) : Met l yX15_fieldPlain (.code yX15_fieldPlain cX15_fieldPlain 9 none :: tb) ({ frames := 1, cells := 0, slots := 0, locals := 21 }) (va_Pc [.ref h0, .int (nI jf), .int x2, .int x3, .int x4] (PTm (dC, dI) cs ty gm L F sz)) (va_Qv (fun _ : Unit => True) (fun _ T9 => ∃ F2 : Nat → va_E, ∃ z2 : Nat, QTm (dC, dI) cs ty gm L [ρ + 10] F F2 (va_A (va_pl L F) sz) T9 ∧ F2 pl = .inr (14, [.ref rl, .int (nI z2)]) ∧ z2 ≤ z + (gm 2 jf - gm 0 jf)) (va_A (va_pl L F) sz)) 0 0 (va_A (va_pl L F) sz) := by
  refine Met.ofW (cc := cX15_fieldPlain) (maxL := 9) (ret := none) (by decide) rfl ?_
  intro p e s m args below meth c s₁ B hml hv
  obtain ⟨rfl, hsz, hP, hK, hD0, hE, hO⟩ := hv
  have hx := B.exec
  have hb := B.bytes
  have hr := B.returns
  have hts : ∀ w ∈ tb, w.before _ s = true := fun w h => atoms_spec (ws := .code yX15_fieldPlain cX15_fieldPlain 9 none :: tb) B.pre w (List.mem_cons_of_mem _ h)
  have hown : s.vm.findClass RX15 = some m.cls := findClass_of_methodNamed B.named
  have hlocks := B.notSynchronized
  subst hsz
  have hD := hD0.self (sz := s.heap.size)
  generalize hAe : va_A (va_pl L F) s.heap.size = A at hD ⊢
  have hA : ∀ q : Nat, s.heap.size ≤ q → A q := fun q h => by rw [← hAe]; exact Or.inr h
  have hS : va_S A s.heap s.heap [] := va_S.rf
  have hR : FR ty [ρ + 10] F F := FR.refl
  have hl := lv_entry ([.ref h0, .int (nI jf), .int x2, .int x3, .int x4]) (n := 9) (Nat.le_of_ble_eq_true rfl)
  rw [lg_entry_eq]
  generalize (lg_sl ([.ref h0, .int (nI jf), .int x2, .int x3, .int x4]) ++ List.replicate (9 - (lg_sl ([.ref h0, .int (nI jf), .int x2, .int x3, .int x4])).length) Slot.unset).toArray = ls at hl ⊢
  have hl : lv_has ls 9 [(0, .ref h0), (1, .int (nI jf)), (2, .int x2), (3, .int x3), (4, .int x4)] := hl
  obtain ⟨hq_22, hq_23, hq_24, hq_25, hq_26, hgO, hgA, hgB, hq_27⟩ := hW.sc hL_h0 hT_h0
  have hoj := hgO jf hjf
  obtain ⟨hi_28, ht_29, hq_30⟩ := hW.txt hL_pl hT_pl
  refine lv_aload_n hx hb dX15_fieldPlain_0 rfl (lv_at hl 0 rfl) ?_
  refine lv_iload_n hx hb dX15_fieldPlain_1 rfl (lv_at hl 1 rfl) ?_
  have hFc := pg_free hD hS hA
  obtain ⟨zo_31, v14_32, v15_33, v17_34, v18_35, v19_36, v20_37, v21_38, v22_39, v33_40, v52_41, v53_42, v54_43, hF_44, hq_45, hq_46, hq_47, hq_48, hq_49⟩ := hO.mod hL_h0 hT_h0
  refine va_calli (va_runV (As := [.int (nI jf)]) (rest := []) ⟨hx, hb, hml, hown, hts⟩ (s_X15_valueEnd l dC dI cs ty gm L s.heap.size F h0 ρ ta ou so ad na va lc dm tg pe ml bg co sp nb0 nb1 nb2 pl se ke wi hs mo po nu pr sq xa sa n64 m64 ex wh sd tk hd ak ho ot sx s0 s1 s2 nf bd mm fm sn hg gc gv ze zt jf hW hL_h0 hT_h0 (by first | omega | assumption | exact Or.inl rfl)) ⟨callB_of 1 hts (gi kt_897) rfl rfl rfl (hts _ kt_669) (hts _ kt_898) (by decide +kernel) ⟨Nat.le_of_ble_eq_true rfl, Nat.le_of_ble_eq_true rfl⟩, (hts _ kt_899), (hts _ kt_900)⟩ ⟨fun a U g mk q => ⟨q.1, PTm.calling q.2⟩, pg_recv hK hP hL_h0 hF_44 (q := (RX15, TX15, 59)) rfl, fun U hU hWm => ⟨rfl, PTm.mk hU hWm hP hK hD hE hO⟩⟩ rfl rfl hl.1 rfl (lv_room (Nat.le_of_ble_eq_true rfl)) dX15_fieldPlain_2 ⟨by show _ + 0 ≤ 0; omega, by show _ + 0 ≤ 0; omega⟩) hS (fun q _ h => hFc q h) hFc (fun r_50 u t H1 locs ht hvm hw hB hz1 hk1 hS => ?_)
  obtain ⟨F_51, hB1⟩ := hB
  obtain rfl : F = F_51 := (funext (fun a => hB1.2.2.2 a List.not_mem_nil)).symm
  obtain ⟨hP, hD, hO, hR⟩ := QTm.back hB1 ht hFc hR (fun q h => absurd h List.not_mem_nil)
  generalize H1 = H at hP hS ⊢
  have hw : (∃ k : Nat, gm 1 jf ≤ k ∧ k ≤ gm 2 jf ∧ r_50 = nI k) := hw
  have hw_52 := hw
  obtain ⟨kend, hke1, hke2, eke⟩ := hw_52
  subst eke
  refine lv_istore (lv' := [(5, .int (nI kend)), (0, .ref h0), (1, .int (nI jf)), (2, .int x2), (3, .int x3), (4, .int x4)]) hx hb dX15_fieldPlain_5 hl (by decide) rfl (fun ls hl => ?_)
  refine lv_iload_n hx hb dX15_fieldPlain_7 rfl (lv_at hl 3 rfl) ?_
  refine lv_if_ne (tgt := 60) hx hb dX15_fieldPlain_8 (by decide) (fun c_53 => ?_) (fun c_53 => ?_)
  ·
    refine lv_aload_n hx hb dX15_fieldPlain_60 rfl (lv_at hl 1 rfl) ?_
    refine pg_get (ci := 15) (v := .ref bg) (C := RX15) (T := TX15) (N := 59) hx hb hts it_15 hown hK hP hL_h0 hF_44 rfl 24 (by decide) (hts _ kt_888) (fun _ h9 => h9) rfl dX15_fieldPlain_61 ?_
    refine lv_iload_n hx hb dX15_fieldPlain_64 rfl (lv_at hl 2 rfl) ?_
    obtain ⟨hi_54, ht_55⟩ := hW.f_bg hL_h0 hT_h0
    obtain ⟨f_56, hF_57, hq_58⟩ := hO.pos hi_54 ht_55
    refine pg_iald hx hb hK hP hi_54 0 hF_57 rfl (vp_in_nI (by omega) (by omega)) dX15_fieldPlain_65 ?_
    refine lv_topi (fun x_59 ex_59 => ?_)
    obtain rfl : x_59 = (nI (gm 0 jf)) := ex_59.trans (by rw [show ((nI jf) : Int32) = nI jf from rfl, nI_clamp (by omega)]; exact hq_58 jf (by omega))
    have hgbx_59 := hgB 0 jf
    refine lv_istore (lv' := [(6, .int (nI (gm 0 jf))), (5, .int (nI kend)), (0, .ref h0), (1, .int (nI jf)), (2, .int x2), (3, .int x3), (4, .int x4)]) hx hb dX15_fieldPlain_66 hl (by decide) rfl (fun ls hl => ?_)
    refine W.widen (k := 0) (n := 0) (by omega) (by omega) ?_
    have hF_61 : F h0 = .inr (15, (.ref ta) :: (.int (nI zt)) :: (.int (nI zo_31)) :: (.int (nI ze)) :: (.ref ou) :: (.ref so) :: (.ref ad) :: (.ref na) :: (.ref va) :: (.ref lc) :: (.ref dm) :: (.int (nI fm)) :: (.int (nI sn)) :: (.ref tg) :: (.int v14_32) :: (.int v15_33) :: (.ref pe) :: (.int v17_34) :: (.int v18_35) :: (.int v19_36) :: (.int v20_37) :: (.int v21_38) :: (.int v22_39) :: (.ref ml) :: (.ref bg) :: (.ref co) :: (.ref sp) :: (.ref nb0) :: (.ref nb1) :: (.ref nb2) :: (.int (nI nf)) :: (.int (nI bd)) :: (.int (nI mm)) :: (.int v33_40) :: (.ref pl) :: (.ref se) :: (.ref ke) :: (.ref wi) :: (.ref hs) :: (.ref mo) :: (.ref po) :: (.ref nu) :: (.ref pr) :: (.ref sq) :: (.ref xa) :: (.ref sa) :: (.ref n64) :: (.ref m64) :: (.ref ex) :: (.ref wh) :: (.ref sd) :: (.ref tk) :: (.int v52_41) :: (.int v53_42) :: (.int v54_43) :: (.ref hd) :: (.ref ak) :: (.ref ho) :: (.ref ot) :: []) := (hR h0 (by rw [hT_h0]; simp)).symm.trans hF_44
    have hF_62 : F bg = .inl (cs 16, 21, .inl f_56) := (hR bg (by rw [ht_55]; simp)).symm.trans hF_57
    refine pl_loopm (σ := Nat × Nat) A (dC, dI) cs ty gm L [ρ + 10] F 68 9 (fun (j, zz) => [(6, .int (nI j)), (5, .int (nI kend)), (0, .ref h0), (1, .int (nI jf)), (2, .int x2), (3, .int x3), (4, .int x4)]) (fun (j, zz) => []) (fun (j, zz) FF => (gm 0 jf ≤ j ∧ j ≤ gm 1 jf) ∧ zz ≤ z + (j - gm 0 jf) ∧ FF pl = .inr (14, [.ref rl, .int (nI zz)])) (fun (j, zz) => gm 1 jf - j) ?_ ((gm 0 jf), z) F (⟨⟨by omega, by omega⟩, by omega, hFl⟩) hO hR _ _ hP hD hS ls (lv_sub hl [0, 1, 2, 3, 4, 5, 6] rfl)
    rintro ⟨j, zz⟩ F_60 hv_63 hO hR ih_64 H locs hP hD hS ls hl
    have hl : lv_has ls 9 [(6, .int (nI j)), (5, .int (nI kend)), (0, .ref h0), (1, .int (nI jf)), (2, .int x2), (3, .int x3), (4, .int x4)] := hl
    have hv_63 : (gm 0 jf ≤ j ∧ j ≤ gm 1 jf) ∧ zz ≤ z + (j - gm 0 jf) ∧ F_60 pl = .inr (14, [.ref rl, .int (nI zz)]) := hv_63
    refine W.eq (g2 := F0 m 68 ls []) rfl ?_
    have hF_65 : F_60 h0 = .inr (15, (.ref ta) :: (.int (nI zt)) :: (.int (nI zo_31)) :: (.int (nI ze)) :: (.ref ou) :: (.ref so) :: (.ref ad) :: (.ref na) :: (.ref va) :: (.ref lc) :: (.ref dm) :: (.int (nI fm)) :: (.int (nI sn)) :: (.ref tg) :: (.int v14_32) :: (.int v15_33) :: (.ref pe) :: (.int v17_34) :: (.int v18_35) :: (.int v19_36) :: (.int v20_37) :: (.int v21_38) :: (.int v22_39) :: (.ref ml) :: (.ref bg) :: (.ref co) :: (.ref sp) :: (.ref nb0) :: (.ref nb1) :: (.ref nb2) :: (.int (nI nf)) :: (.int (nI bd)) :: (.int (nI mm)) :: (.int v33_40) :: (.ref pl) :: (.ref se) :: (.ref ke) :: (.ref wi) :: (.ref hs) :: (.ref mo) :: (.ref po) :: (.ref nu) :: (.ref pr) :: (.ref sq) :: (.ref xa) :: (.ref sa) :: (.ref n64) :: (.ref m64) :: (.ref ex) :: (.ref wh) :: (.ref sd) :: (.ref tk) :: (.int v52_41) :: (.int v53_42) :: (.int v54_43) :: (.ref hd) :: (.ref ak) :: (.ref ho) :: (.ref ot) :: []) := (hR h0 (by rw [hT_h0]; simp)).trans hF_61
    have hF_66 : F_60 bg = .inl (cs 16, 21, .inl f_56) := (hR bg (by rw [ht_55]; simp)).trans hF_62
    obtain ⟨hp2, hq2, hr2⟩ := hv_63
    refine lv_iload hx hb dX15_fieldPlain_68 (lv_at hl 0 rfl) ?_
    refine lv_aload_n hx hb dX15_fieldPlain_70 rfl (lv_at hl 2 rfl) ?_
    refine pg_get (ci := 15) (v := .ref co) (C := RX15) (T := TX15) (N := 59) hx hb hts it_15 hown hK hP hL_h0 hF_65 rfl 25 (by decide) (hts _ kt_889) (fun _ h9 => h9) rfl dX15_fieldPlain_71 ?_
    refine lv_iload_n hx hb dX15_fieldPlain_74 rfl (lv_at hl 3 rfl) ?_
    obtain ⟨hi_67, ht_68⟩ := hW.f_co hL_h0 hT_h0
    obtain ⟨f_69, hF_70, hq_71⟩ := hO.pos hi_67 ht_68
    refine pg_iald hx hb hK hP hi_67 0 hF_70 rfl (vp_in_nI (by omega) (by omega)) dX15_fieldPlain_75 ?_
    refine lv_topi (fun x_72 ex_72 => ?_)
    obtain rfl : x_72 = (nI (gm 1 jf)) := ex_72.trans (by rw [show ((nI jf) : Int32) = nI jf from rfl, nI_clamp (by omega)]; exact hq_71 jf (by omega))
    have hgbx_72 := hgB 1 jf
    refine lv_icmp_ge (tgt := 102) hx hb dX15_fieldPlain_76 (by decide) (fun c_73 => ?_) (fun c_73 => ?_)
    ·
      have hi_74 : (gm 1 jf) ≤ j := leN (N := (gm 1 jf)) c_73
      refine lv_aload_n hx hb dX15_fieldPlain_102 rfl (lv_at hl 2 rfl) ?_
      refine pg_get (ci := 15) (v := .ref pl) (C := RX15) (T := TX15) (N := 59) hx hb hts it_15 hown hK hP hL_h0 hF_65 rfl 34 (by decide) (hts _ kt_901) (fun _ h9 => h9) rfl dX15_fieldPlain_103 ?_
      refine lv_bipush (v := 58) hx hb dX15_fieldPlain_106 (by decide) ?_
      have hFc := pg_free hD hS hA
      refine va_callv (va_runV (As := [.int 58]) (rest := []) ⟨hx, hb, hml, hown, hts⟩ (s_X14_add l dC dI cs ty gm L H.size F_60 pl (ρ + 10) rl 6000 zz 58 hW hL_pl hT_pl hr2 (by first | omega | assumption | exact Or.inl rfl)) ⟨callB_of 1 hts (gi kt_711) rfl rfl rfl (hts _ kt_676) (hts _ kt_712) (by decide +kernel) ⟨Nat.le_of_ble_eq_true rfl, Nat.le_of_ble_eq_true rfl⟩, (hts _ kt_713), (hts _ kt_714)⟩ ⟨fun a U g mk q => ⟨q.1, PTm.calling q.2⟩, pg_recv hK hP hL_pl hr2 (q := (RX14, TX14, 2)) rfl, fun U hU hWm => ⟨rfl, PTm.mk hU hWm hP hK hD hE hO⟩⟩ rfl rfl hl.1 rfl (lv_room (Nat.le_of_ble_eq_true rfl)) dX15_fieldPlain_108 ⟨by show _ + 0 ≤ 0; omega, by show _ + 0 ≤ 0; omega⟩) hS (fun q _ h => hFc q h) hFc (fun u t H1 locs ht hvm hw hB hz1 hk1 hS => ?_)
      obtain ⟨F_76, hB1, hq_77⟩ := hB
      obtain ⟨hP, hD, hO, hR⟩ := QTm.back hB1 ht hFc hR (fun q h => by simp only [List.mem_cons, List.not_mem_nil, or_false] at h ⊢; omega)
      have hF_78 : F_76 h0 = .inr (15, (.ref ta) :: (.int (nI zt)) :: (.int (nI zo_31)) :: (.int (nI ze)) :: (.ref ou) :: (.ref so) :: (.ref ad) :: (.ref na) :: (.ref va) :: (.ref lc) :: (.ref dm) :: (.int (nI fm)) :: (.int (nI sn)) :: (.ref tg) :: (.int v14_32) :: (.int v15_33) :: (.ref pe) :: (.int v17_34) :: (.int v18_35) :: (.int v19_36) :: (.int v20_37) :: (.int v21_38) :: (.int v22_39) :: (.ref ml) :: (.ref bg) :: (.ref co) :: (.ref sp) :: (.ref nb0) :: (.ref nb1) :: (.ref nb2) :: (.int (nI nf)) :: (.int (nI bd)) :: (.int (nI mm)) :: (.int v33_40) :: (.ref pl) :: (.ref se) :: (.ref ke) :: (.ref wi) :: (.ref hs) :: (.ref mo) :: (.ref po) :: (.ref nu) :: (.ref pr) :: (.ref sq) :: (.ref xa) :: (.ref sa) :: (.ref n64) :: (.ref m64) :: (.ref ex) :: (.ref wh) :: (.ref sd) :: (.ref tk) :: (.int v52_41) :: (.int v53_42) :: (.int v54_43) :: (.ref hd) :: (.ref ak) :: (.ref ho) :: (.ref ot) :: []) := (hB1.2.2.2 h0 (by rw [hT_h0]; simp)).trans hF_65
      have hF_79 : F_76 bg = .inl (cs 16, 21, .inl f_56) := (hB1.2.2.2 bg (by rw [ht_55]; simp)).trans hF_66
      have hF_80 : F_76 co = .inl (cs 16, 21, .inl f_69) := (hB1.2.2.2 co (by rw [ht_68]; simp)).trans hF_70
      generalize H1 = H at hP hS ⊢
      refine lv_iconst (v := 0) hx hb dX15_fieldPlain_111 (by decide) ?_
      refine lv_istore (lv' := [(6, .int 0), (5, .int (nI kend)), (0, .ref h0), (1, .int (nI jf)), (2, .int x2), (3, .int x3), (4, .int x4)]) hx hb dX15_fieldPlain_112 hl (by decide) rfl (fun ls hl => ?_)
      refine lv_iconst (v := 0) hx hb dX15_fieldPlain_114 (by decide) ?_
      refine lv_istore (lv' := [(7, .int 0), (6, .int 0), (5, .int (nI kend)), (0, .ref h0), (1, .int (nI jf)), (2, .int x2), (3, .int x3), (4, .int x4)]) hx hb dX15_fieldPlain_115 hl (by decide) rfl (fun ls hl => ?_)
      refine lv_aload_n hx hb dX15_fieldPlain_117 rfl (lv_at hl 3 rfl) ?_
      refine pg_get (ci := 15) (v := .ref co) (C := RX15) (T := TX15) (N := 59) hx hb hts it_15 hown hK hP hL_h0 hF_78 rfl 25 (by decide) (hts _ kt_889) (fun _ h9 => h9) rfl dX15_fieldPlain_118 ?_
      refine lv_iload_n hx hb dX15_fieldPlain_121 rfl (lv_at hl 4 rfl) ?_
      refine pg_iald hx hb hK hP hi_67 0 hF_80 rfl (vp_in_nI (by omega) (by omega)) dX15_fieldPlain_122 ?_
      refine lv_topi (fun x_81 ex_81 => ?_)
      obtain rfl : x_81 = (nI (gm 1 jf)) := ex_81.trans (by rw [show ((nI jf) : Int32) = nI jf from rfl, nI_clamp (by omega)]; exact hq_71 jf (by omega))
      have hgbx_81 := hgB 1 jf
      refine lv_iconst (v := 1) hx hb dX15_fieldPlain_123 (by decide) ?_
      refine lv_iadd hx hb dX15_fieldPlain_124 ?_
      refine lv_topi (fun x_82 ex_82 => ?_)
      obtain rfl : x_82 = (nI ((gm 1 jf) + 1)) := ex_82.trans (nI_add (gm 1 jf) 1)
      refine lv_istore (lv' := [(8, .int (nI ((gm 1 jf) + 1))), (7, .int 0), (6, .int 0), (5, .int (nI kend)), (0, .ref h0), (1, .int (nI jf)), (2, .int x2), (3, .int x3), (4, .int x4)]) hx hb dX15_fieldPlain_125 hl (by decide) rfl (fun ls hl => ?_)
      refine W.widen (k := 0) (n := 0) (by omega) (by omega) ?_
      have hF_84 : F h0 = .inr (15, (.ref ta) :: (.int (nI zt)) :: (.int (nI zo_31)) :: (.int (nI ze)) :: (.ref ou) :: (.ref so) :: (.ref ad) :: (.ref na) :: (.ref va) :: (.ref lc) :: (.ref dm) :: (.int (nI fm)) :: (.int (nI sn)) :: (.ref tg) :: (.int v14_32) :: (.int v15_33) :: (.ref pe) :: (.int v17_34) :: (.int v18_35) :: (.int v19_36) :: (.int v20_37) :: (.int v21_38) :: (.int v22_39) :: (.ref ml) :: (.ref bg) :: (.ref co) :: (.ref sp) :: (.ref nb0) :: (.ref nb1) :: (.ref nb2) :: (.int (nI nf)) :: (.int (nI bd)) :: (.int (nI mm)) :: (.int v33_40) :: (.ref pl) :: (.ref se) :: (.ref ke) :: (.ref wi) :: (.ref hs) :: (.ref mo) :: (.ref po) :: (.ref nu) :: (.ref pr) :: (.ref sq) :: (.ref xa) :: (.ref sa) :: (.ref n64) :: (.ref m64) :: (.ref ex) :: (.ref wh) :: (.ref sd) :: (.ref tk) :: (.int v52_41) :: (.int v53_42) :: (.int v54_43) :: (.ref hd) :: (.ref ak) :: (.ref ho) :: (.ref ot) :: []) := (hR h0 (by rw [hT_h0]; simp)).symm.trans hF_78
      have hF_85 : F bg = .inl (cs 16, 21, .inl f_56) := (hR bg (by rw [ht_55]; simp)).symm.trans hF_79
      have hF_86 : F co = .inl (cs 16, 21, .inl f_69) := (hR co (by rw [ht_68]; simp)).symm.trans hF_80
      refine pl_loopm (σ := Nat × Int32 × Int32 × Nat) A (dC, dI) cs ty gm L [ρ + 10] F 127 9 (fun (i, w6, w7, zz) => [(8, .int (nI i)), (7, .int w7), (6, .int w6), (5, .int (nI kend)), (0, .ref h0), (1, .int (nI jf)), (2, .int x2), (3, .int x3), (4, .int x4)]) (fun (i, w6, w7, zz) => []) (fun (i, w6, w7, zz) FF => (gm 1 jf + 1 ≤ i ∧ i ≤ max kend (gm 1 jf + 1)) ∧ (w7 = 0 ∨ zz + 1 ≤ (z + (gm 1 jf - gm 0 jf) + 1 + (i - (gm 1 jf + 1)))) ∧ zz ≤ (z + (gm 1 jf - gm 0 jf) + 1 + (i - (gm 1 jf + 1))) ∧ FF pl = .inr (14, [.ref rl, .int (nI zz)])) (fun (i, w6, w7, zz) => kend - i) ?_ (((gm 1 jf) + 1), 0, 0, (zz + 1)) F_76 (⟨⟨by omega, by omega⟩, Or.inl rfl, by omega, hq_77⟩) hO hR _ _ hP hD hS ls (lv_sub hl [0, 1, 2, 3, 4, 5, 6, 7, 8] rfl)
      rintro ⟨i, w6, w7, zz⟩ F_83 hv_87 hO hR ih_88 H locs hP hD hS ls hl
      have hl : lv_has ls 9 [(8, .int (nI i)), (7, .int w7), (6, .int w6), (5, .int (nI kend)), (0, .ref h0), (1, .int (nI jf)), (2, .int x2), (3, .int x3), (4, .int x4)] := hl
      have hv_87 : (gm 1 jf + 1 ≤ i ∧ i ≤ max kend (gm 1 jf + 1)) ∧ (w7 = 0 ∨ zz + 1 ≤ (z + (gm 1 jf - gm 0 jf) + 1 + (i - (gm 1 jf + 1)))) ∧ zz ≤ (z + (gm 1 jf - gm 0 jf) + 1 + (i - (gm 1 jf + 1))) ∧ F_83 pl = .inr (14, [.ref rl, .int (nI zz)]) := hv_87
      refine W.eq (g2 := F0 m 127 ls []) rfl ?_
      have hF_89 : F_83 h0 = .inr (15, (.ref ta) :: (.int (nI zt)) :: (.int (nI zo_31)) :: (.int (nI ze)) :: (.ref ou) :: (.ref so) :: (.ref ad) :: (.ref na) :: (.ref va) :: (.ref lc) :: (.ref dm) :: (.int (nI fm)) :: (.int (nI sn)) :: (.ref tg) :: (.int v14_32) :: (.int v15_33) :: (.ref pe) :: (.int v17_34) :: (.int v18_35) :: (.int v19_36) :: (.int v20_37) :: (.int v21_38) :: (.int v22_39) :: (.ref ml) :: (.ref bg) :: (.ref co) :: (.ref sp) :: (.ref nb0) :: (.ref nb1) :: (.ref nb2) :: (.int (nI nf)) :: (.int (nI bd)) :: (.int (nI mm)) :: (.int v33_40) :: (.ref pl) :: (.ref se) :: (.ref ke) :: (.ref wi) :: (.ref hs) :: (.ref mo) :: (.ref po) :: (.ref nu) :: (.ref pr) :: (.ref sq) :: (.ref xa) :: (.ref sa) :: (.ref n64) :: (.ref m64) :: (.ref ex) :: (.ref wh) :: (.ref sd) :: (.ref tk) :: (.int v52_41) :: (.int v53_42) :: (.int v54_43) :: (.ref hd) :: (.ref ak) :: (.ref ho) :: (.ref ot) :: []) := (hR h0 (by rw [hT_h0]; simp)).trans hF_84
      have hF_90 : F_83 bg = .inl (cs 16, 21, .inl f_56) := (hR bg (by rw [ht_55]; simp)).trans hF_85
      have hF_91 : F_83 co = .inl (cs 16, 21, .inl f_69) := (hR co (by rw [ht_68]; simp)).trans hF_86
      obtain ⟨hp3, hq3, hr3, hs3⟩ := hv_87
      refine lv_iload hx hb dX15_fieldPlain_127 (lv_at hl 0 rfl) ?_
      refine lv_iload hx hb dX15_fieldPlain_129 (lv_at hl 3 rfl) ?_
      refine lv_icmp_ge (tgt := 226) hx hb dX15_fieldPlain_131 (by decide) (fun c_92 => ?_) (fun c_92 => ?_)
      ·
        have hi_93 : kend ≤ i := leN (N := kend) c_92
        refine W.widen (k := 0) (n := 0) (by omega) (by omega) ?_
        exact W.vret hx hb hr (fun t ht hWm => ⟨⟨(), rfl, trivial, ⟨F_83, zz, QTm.mk ht hP hD hO hR, hs3, by omega⟩⟩, hS.F ht⟩) hS.2.2 dX15_fieldPlain_226
      ·
        have hi_94 : i < kend := ltN (N := kend) c_92
        refine lv_iload hx hb dX15_fieldPlain_134 (lv_at hl 0 rfl) ?_
        refine lv_iload_n hx hb dX15_fieldPlain_136 rfl (lv_at hl 7 rfl) ?_
        refine lv_icmp_lt (tgt := 147) hx hb dX15_fieldPlain_137 (by decide) (fun c_95 => ?_) (fun c_95 => ?_)
        ·
          refine lv_aload_n hx hb dX15_fieldPlain_147 rfl (lv_at hl 4 rfl) ?_
          refine pg_get (ci := 15) (v := .ref ml) (C := RX15) (T := TX15) (N := 59) hx hb hts it_15 hown hK hP hL_h0 hF_89 rfl 23 (by decide) (hts _ kt_887) (fun _ h9 => h9) rfl dX15_fieldPlain_148 ?_
          refine lv_iload hx hb dX15_fieldPlain_151 (lv_at hl 0 rfl) ?_
          obtain ⟨hi_96, ht_97⟩ := hW.f_ml hL_h0 hT_h0
          obtain ⟨hq_98, hq_99⟩ := hW.octs hi_96 ht_97
          obtain ⟨f_100, hF_101, hq_102⟩ := hO.octs hi_96 ht_97
          refine pg_bald hx hb hK hP hi_96 1 hF_101 rfl (vp_in_nI (by omega) (by omega)) dX15_fieldPlain_153 ?_
          refine lv_topi (fun x_103 ex_103 => ?_)
          obtain rfl : x_103 = f_100 i := ex_103.trans (congrArg f_100 (show ((nI i) : Int32).toNatClampNeg = i from nI_clamp (by omega)))
          refine lv_bipush (v := 10) hx hb dX15_fieldPlain_154 (by decide) ?_
          refine lv_icmp_ne (tgt := 162) hx hb dX15_fieldPlain_156 (by decide) (fun c_104 => ?_) (fun c_104 => ?_)
          ·
            refine lv_aload_n hx hb dX15_fieldPlain_162 rfl (lv_at hl 4 rfl) ?_
            refine pg_get (ci := 15) (v := .ref ml) (C := RX15) (T := TX15) (N := 59) hx hb hts it_15 hown hK hP hL_h0 hF_89 rfl 23 (by decide) (hts _ kt_887) (fun _ h9 => h9) rfl dX15_fieldPlain_163 ?_
            refine lv_iload hx hb dX15_fieldPlain_166 (lv_at hl 0 rfl) ?_
            refine pg_bald hx hb hK hP hi_96 1 hF_101 rfl (vp_in_nI (by omega) (by omega)) dX15_fieldPlain_168 ?_
            refine lv_topi (fun x_105 ex_105 => ?_)
            obtain rfl : x_105 = f_100 i := ex_105.trans (congrArg f_100 (show ((nI i) : Int32).toNatClampNeg = i from nI_clamp (by omega)))
            have hFc := pg_free hD hS hA
            refine va_calli (va_runS (As := [.int (f_100 i)]) (rest := []) ⟨hx, hb, hml, hown, hts⟩ (s_X15_isWhite l dC dI cs ty gm L H.size F_83 (f_100 i) hW ) ⟨callB_of 1 hts (gi kt_715) rfl rfl rfl (hts _ kt_669) (hts _ kt_716) (by decide +kernel) ⟨Nat.le_of_ble_eq_true rfl, Nat.le_of_ble_eq_true rfl⟩, (hts _ kt_717)⟩ ⟨fun a U g mk q => ⟨q.1, PTm.calling q.2⟩, fun U hU hWm => ⟨rfl, PTm.mk hU hWm hP hK hD hE hO⟩⟩ rfl rfl hl.1 rfl (lv_room (Nat.le_of_ble_eq_true rfl)) dX15_fieldPlain_169 ⟨by show _ + 0 ≤ 0; omega, by show _ + 0 ≤ 0; omega⟩) hS (fun q _ h => hFc q h) hFc (fun r_106 u t H1 locs ht hvm hw hB hz1 hk1 hS => ?_)
            obtain ⟨F_107, hB1⟩ := hB
            obtain rfl : F_83 = F_107 := (funext (fun a => hB1.2.2.2 a List.not_mem_nil)).symm
            obtain ⟨hP, hD, hO, hR⟩ := QTm.back hB1 ht hFc hR (fun q h => absurd h List.not_mem_nil)
            generalize H1 = H at hP hS ⊢
            have hw : (r_106 = 0 ∨ r_106 = 1) := hw
            have hw_108 := hw
            refine lv_if_eq (tgt := 181) hx hb dX15_fieldPlain_172 (by decide) (fun c_109 => ?_) (fun c_109 => ?_)
            ·
              refine lv_iload hx hb dX15_fieldPlain_181 (lv_at hl 1 rfl) ?_
              refine lv_if_eq (tgt := 200) hx hb dX15_fieldPlain_183 (by decide) (fun c_110 => ?_) (fun c_110 => ?_)
              ·
                refine lv_iconst (v := 0) hx hb dX15_fieldPlain_200 (by decide) ?_
                refine lv_istore (lv' := [(7, .int 0), (8, .int (nI i)), (6, .int w6), (5, .int (nI kend)), (0, .ref h0), (1, .int (nI jf)), (2, .int x2), (3, .int x3), (4, .int x4)]) hx hb dX15_fieldPlain_201 hl (by decide) rfl (fun ls hl => ?_)
                refine lv_iconst (v := 1) hx hb dX15_fieldPlain_203 (by decide) ?_
                refine lv_istore (lv' := [(6, .int 1), (7, .int 0), (8, .int (nI i)), (5, .int (nI kend)), (0, .ref h0), (1, .int (nI jf)), (2, .int x2), (3, .int x3), (4, .int x4)]) hx hb dX15_fieldPlain_204 hl (by decide) rfl (fun ls hl => ?_)
                refine lv_aload_n hx hb dX15_fieldPlain_206 rfl (lv_at hl 4 rfl) ?_
                refine pg_get (ci := 15) (v := .ref pl) (C := RX15) (T := TX15) (N := 59) hx hb hts it_15 hown hK hP hL_h0 hF_89 rfl 34 (by decide) (hts _ kt_901) (fun _ h9 => h9) rfl dX15_fieldPlain_207 ?_
                refine lv_aload_n hx hb dX15_fieldPlain_210 rfl (lv_at hl 4 rfl) ?_
                refine pg_get (ci := 15) (v := .ref ml) (C := RX15) (T := TX15) (N := 59) hx hb hts it_15 hown hK hP hL_h0 hF_89 rfl 23 (by decide) (hts _ kt_887) (fun _ h9 => h9) rfl dX15_fieldPlain_211 ?_
                refine lv_iload hx hb dX15_fieldPlain_214 (lv_at hl 2 rfl) ?_
                refine pg_bald hx hb hK hP hi_96 1 hF_101 rfl (vp_in_nI (by omega) (by omega)) dX15_fieldPlain_216 ?_
                refine lv_topi (fun x_111 ex_111 => ?_)
                obtain rfl : x_111 = f_100 i := ex_111.trans (congrArg f_100 (show ((nI i) : Int32).toNatClampNeg = i from nI_clamp (by omega)))
                have hFc := pg_free hD hS hA
                refine va_callv (va_runV (As := [.int (f_100 i)]) (rest := []) ⟨hx, hb, hml, hown, hts⟩ (s_X14_add l dC dI cs ty gm L H.size F_83 pl (ρ + 10) rl 6000 zz (f_100 i) hW hL_pl hT_pl hs3 (by first | omega | assumption | exact Or.inl rfl)) ⟨callB_of 1 hts (gi kt_711) rfl rfl rfl (hts _ kt_676) (hts _ kt_712) (by decide +kernel) ⟨Nat.le_of_ble_eq_true rfl, Nat.le_of_ble_eq_true rfl⟩, (hts _ kt_713), (hts _ kt_714)⟩ ⟨fun a U g mk q => ⟨q.1, PTm.calling q.2⟩, pg_recv hK hP hL_pl hs3 (q := (RX14, TX14, 2)) rfl, fun U hU hWm => ⟨rfl, PTm.mk hU hWm hP hK hD hE hO⟩⟩ rfl rfl hl.1 rfl (lv_room (Nat.le_of_ble_eq_true rfl)) dX15_fieldPlain_217 ⟨by show _ + 0 ≤ 0; omega, by show _ + 0 ≤ 0; omega⟩) hS (fun q _ h => hFc q h) hFc (fun u t H1 locs ht hvm hw hB hz1 hk1 hS => ?_)
                obtain ⟨F_113, hB1, hq_114⟩ := hB
                obtain ⟨hP, hD, hO, hR⟩ := QTm.back hB1 ht hFc hR (fun q h => by simp only [List.mem_cons, List.not_mem_nil, or_false] at h ⊢; omega)
                have hF_115 : F_113 h0 = .inr (15, (.ref ta) :: (.int (nI zt)) :: (.int (nI zo_31)) :: (.int (nI ze)) :: (.ref ou) :: (.ref so) :: (.ref ad) :: (.ref na) :: (.ref va) :: (.ref lc) :: (.ref dm) :: (.int (nI fm)) :: (.int (nI sn)) :: (.ref tg) :: (.int v14_32) :: (.int v15_33) :: (.ref pe) :: (.int v17_34) :: (.int v18_35) :: (.int v19_36) :: (.int v20_37) :: (.int v21_38) :: (.int v22_39) :: (.ref ml) :: (.ref bg) :: (.ref co) :: (.ref sp) :: (.ref nb0) :: (.ref nb1) :: (.ref nb2) :: (.int (nI nf)) :: (.int (nI bd)) :: (.int (nI mm)) :: (.int v33_40) :: (.ref pl) :: (.ref se) :: (.ref ke) :: (.ref wi) :: (.ref hs) :: (.ref mo) :: (.ref po) :: (.ref nu) :: (.ref pr) :: (.ref sq) :: (.ref xa) :: (.ref sa) :: (.ref n64) :: (.ref m64) :: (.ref ex) :: (.ref wh) :: (.ref sd) :: (.ref tk) :: (.int v52_41) :: (.int v53_42) :: (.int v54_43) :: (.ref hd) :: (.ref ak) :: (.ref ho) :: (.ref ot) :: []) := (hB1.2.2.2 h0 (by rw [hT_h0]; simp)).trans hF_89
                have hF_116 : F_113 bg = .inl (cs 16, 21, .inl f_56) := (hB1.2.2.2 bg (by rw [ht_55]; simp)).trans hF_90
                have hF_117 : F_113 co = .inl (cs 16, 21, .inl f_69) := (hB1.2.2.2 co (by rw [ht_68]; simp)).trans hF_91
                have hF_118 : F_113 ml = .inl (cs 17, 3000, .inl f_100) := (hB1.2.2.2 ml (by rw [ht_97]; simp)).trans hF_101
                generalize H1 = H at hP hS ⊢
                refine lv_iinc (v := (nI (i + 1))) (lv' := [(8, .int (nI (i + 1))), (6, .int 1), (7, .int 0), (5, .int (nI kend)), (0, .ref h0), (1, .int (nI jf)), (2, .int x2), (3, .int x3), (4, .int x4)]) hx hb dX15_fieldPlain_220 hl (k := 2) rfl (nI_1 _) (by decide) rfl (fun ls hl => ?_)
                refine lv_goto (tgt := 127) hx hb dX15_fieldPlain_223 (by decide) ?_
                refine W.widen (k := 0) (n := 0) (by omega) (by omega) ?_
                exact ih_88 ((i + 1), 1, 0, (zz + 1)) F_113 (⟨⟨by omega, by omega⟩, Or.inl rfl, by omega, hq_114⟩) (by show kend - (i + 1) < kend - i; omega) hO hR _ _ hP hD hS ls (lv_sub hl [0, 2, 1, 3, 4, 5, 6, 7, 8] rfl)
              ·
                have hzz : zz + 1 ≤ (z + (gm 1 jf - gm 0 jf) + 1 + (i - (gm 1 jf + 1))) := hq3.resolve_left c_110
                refine lv_iload hx hb dX15_fieldPlain_186 (lv_at hl 2 rfl) ?_
                refine lv_if_eq (tgt := 200) hx hb dX15_fieldPlain_188 (by decide) (fun c_119 => ?_) (fun c_119 => ?_)
                ·
                  refine lv_iconst (v := 0) hx hb dX15_fieldPlain_200 (by decide) ?_
                  refine lv_istore (lv' := [(7, .int 0), (8, .int (nI i)), (6, .int w6), (5, .int (nI kend)), (0, .ref h0), (1, .int (nI jf)), (2, .int x2), (3, .int x3), (4, .int x4)]) hx hb dX15_fieldPlain_201 hl (by decide) rfl (fun ls hl => ?_)
                  refine lv_iconst (v := 1) hx hb dX15_fieldPlain_203 (by decide) ?_
                  refine lv_istore (lv' := [(6, .int 1), (7, .int 0), (8, .int (nI i)), (5, .int (nI kend)), (0, .ref h0), (1, .int (nI jf)), (2, .int x2), (3, .int x3), (4, .int x4)]) hx hb dX15_fieldPlain_204 hl (by decide) rfl (fun ls hl => ?_)
                  refine lv_aload_n hx hb dX15_fieldPlain_206 rfl (lv_at hl 4 rfl) ?_
                  refine pg_get (ci := 15) (v := .ref pl) (C := RX15) (T := TX15) (N := 59) hx hb hts it_15 hown hK hP hL_h0 hF_89 rfl 34 (by decide) (hts _ kt_901) (fun _ h9 => h9) rfl dX15_fieldPlain_207 ?_
                  refine lv_aload_n hx hb dX15_fieldPlain_210 rfl (lv_at hl 4 rfl) ?_
                  refine pg_get (ci := 15) (v := .ref ml) (C := RX15) (T := TX15) (N := 59) hx hb hts it_15 hown hK hP hL_h0 hF_89 rfl 23 (by decide) (hts _ kt_887) (fun _ h9 => h9) rfl dX15_fieldPlain_211 ?_
                  refine lv_iload hx hb dX15_fieldPlain_214 (lv_at hl 2 rfl) ?_
                  refine pg_bald hx hb hK hP hi_96 1 hF_101 rfl (vp_in_nI (by omega) (by omega)) dX15_fieldPlain_216 ?_
                  refine lv_topi (fun x_120 ex_120 => ?_)
                  obtain rfl : x_120 = f_100 i := ex_120.trans (congrArg f_100 (show ((nI i) : Int32).toNatClampNeg = i from nI_clamp (by omega)))
                  have hFc := pg_free hD hS hA
                  refine va_callv (va_runV (As := [.int (f_100 i)]) (rest := []) ⟨hx, hb, hml, hown, hts⟩ (s_X14_add l dC dI cs ty gm L H.size F_83 pl (ρ + 10) rl 6000 zz (f_100 i) hW hL_pl hT_pl hs3 (by first | omega | assumption | exact Or.inl rfl)) ⟨callB_of 1 hts (gi kt_711) rfl rfl rfl (hts _ kt_676) (hts _ kt_712) (by decide +kernel) ⟨Nat.le_of_ble_eq_true rfl, Nat.le_of_ble_eq_true rfl⟩, (hts _ kt_713), (hts _ kt_714)⟩ ⟨fun a U g mk q => ⟨q.1, PTm.calling q.2⟩, pg_recv hK hP hL_pl hs3 (q := (RX14, TX14, 2)) rfl, fun U hU hWm => ⟨rfl, PTm.mk hU hWm hP hK hD hE hO⟩⟩ rfl rfl hl.1 rfl (lv_room (Nat.le_of_ble_eq_true rfl)) dX15_fieldPlain_217 ⟨by show _ + 0 ≤ 0; omega, by show _ + 0 ≤ 0; omega⟩) hS (fun q _ h => hFc q h) hFc (fun u t H1 locs ht hvm hw hB hz1 hk1 hS => ?_)
                  obtain ⟨F_122, hB1, hq_123⟩ := hB
                  obtain ⟨hP, hD, hO, hR⟩ := QTm.back hB1 ht hFc hR (fun q h => by simp only [List.mem_cons, List.not_mem_nil, or_false] at h ⊢; omega)
                  have hF_124 : F_122 h0 = .inr (15, (.ref ta) :: (.int (nI zt)) :: (.int (nI zo_31)) :: (.int (nI ze)) :: (.ref ou) :: (.ref so) :: (.ref ad) :: (.ref na) :: (.ref va) :: (.ref lc) :: (.ref dm) :: (.int (nI fm)) :: (.int (nI sn)) :: (.ref tg) :: (.int v14_32) :: (.int v15_33) :: (.ref pe) :: (.int v17_34) :: (.int v18_35) :: (.int v19_36) :: (.int v20_37) :: (.int v21_38) :: (.int v22_39) :: (.ref ml) :: (.ref bg) :: (.ref co) :: (.ref sp) :: (.ref nb0) :: (.ref nb1) :: (.ref nb2) :: (.int (nI nf)) :: (.int (nI bd)) :: (.int (nI mm)) :: (.int v33_40) :: (.ref pl) :: (.ref se) :: (.ref ke) :: (.ref wi) :: (.ref hs) :: (.ref mo) :: (.ref po) :: (.ref nu) :: (.ref pr) :: (.ref sq) :: (.ref xa) :: (.ref sa) :: (.ref n64) :: (.ref m64) :: (.ref ex) :: (.ref wh) :: (.ref sd) :: (.ref tk) :: (.int v52_41) :: (.int v53_42) :: (.int v54_43) :: (.ref hd) :: (.ref ak) :: (.ref ho) :: (.ref ot) :: []) := (hB1.2.2.2 h0 (by rw [hT_h0]; simp)).trans hF_89
                  have hF_125 : F_122 bg = .inl (cs 16, 21, .inl f_56) := (hB1.2.2.2 bg (by rw [ht_55]; simp)).trans hF_90
                  have hF_126 : F_122 co = .inl (cs 16, 21, .inl f_69) := (hB1.2.2.2 co (by rw [ht_68]; simp)).trans hF_91
                  have hF_127 : F_122 ml = .inl (cs 17, 3000, .inl f_100) := (hB1.2.2.2 ml (by rw [ht_97]; simp)).trans hF_101
                  generalize H1 = H at hP hS ⊢
                  refine lv_iinc (v := (nI (i + 1))) (lv' := [(8, .int (nI (i + 1))), (6, .int 1), (7, .int 0), (5, .int (nI kend)), (0, .ref h0), (1, .int (nI jf)), (2, .int x2), (3, .int x3), (4, .int x4)]) hx hb dX15_fieldPlain_220 hl (k := 2) rfl (nI_1 _) (by decide) rfl (fun ls hl => ?_)
                  refine lv_goto (tgt := 127) hx hb dX15_fieldPlain_223 (by decide) ?_
                  refine W.widen (k := 0) (n := 0) (by omega) (by omega) ?_
                  exact ih_88 ((i + 1), 1, 0, (zz + 1)) F_122 (⟨⟨by omega, by omega⟩, Or.inl rfl, by omega, hq_123⟩) (by show kend - (i + 1) < kend - i; omega) hO hR _ _ hP hD hS ls (lv_sub hl [0, 2, 1, 3, 4, 5, 6, 7, 8] rfl)
                ·
                  refine lv_aload_n hx hb dX15_fieldPlain_191 rfl (lv_at hl 4 rfl) ?_
                  refine pg_get (ci := 15) (v := .ref pl) (C := RX15) (T := TX15) (N := 59) hx hb hts it_15 hown hK hP hL_h0 hF_89 rfl 34 (by decide) (hts _ kt_901) (fun _ h9 => h9) rfl dX15_fieldPlain_192 ?_
                  refine lv_bipush (v := 32) hx hb dX15_fieldPlain_195 (by decide) ?_
                  have hFc := pg_free hD hS hA
                  refine va_callv (va_runV (As := [.int 32]) (rest := []) ⟨hx, hb, hml, hown, hts⟩ (s_X14_add l dC dI cs ty gm L H.size F_83 pl (ρ + 10) rl 6000 zz 32 hW hL_pl hT_pl hs3 (by first | omega | assumption | exact Or.inl rfl)) ⟨callB_of 1 hts (gi kt_711) rfl rfl rfl (hts _ kt_676) (hts _ kt_712) (by decide +kernel) ⟨Nat.le_of_ble_eq_true rfl, Nat.le_of_ble_eq_true rfl⟩, (hts _ kt_713), (hts _ kt_714)⟩ ⟨fun a U g mk q => ⟨q.1, PTm.calling q.2⟩, pg_recv hK hP hL_pl hs3 (q := (RX14, TX14, 2)) rfl, fun U hU hWm => ⟨rfl, PTm.mk hU hWm hP hK hD hE hO⟩⟩ rfl rfl hl.1 rfl (lv_room (Nat.le_of_ble_eq_true rfl)) dX15_fieldPlain_197 ⟨by show _ + 0 ≤ 0; omega, by show _ + 0 ≤ 0; omega⟩) hS (fun q _ h => hFc q h) hFc (fun u t H1 locs ht hvm hw hB hz1 hk1 hS => ?_)
                  obtain ⟨F_129, hB1, hq_130⟩ := hB
                  obtain ⟨hP, hD, hO, hR⟩ := QTm.back hB1 ht hFc hR (fun q h => by simp only [List.mem_cons, List.not_mem_nil, or_false] at h ⊢; omega)
                  have hF_131 : F_129 h0 = .inr (15, (.ref ta) :: (.int (nI zt)) :: (.int (nI zo_31)) :: (.int (nI ze)) :: (.ref ou) :: (.ref so) :: (.ref ad) :: (.ref na) :: (.ref va) :: (.ref lc) :: (.ref dm) :: (.int (nI fm)) :: (.int (nI sn)) :: (.ref tg) :: (.int v14_32) :: (.int v15_33) :: (.ref pe) :: (.int v17_34) :: (.int v18_35) :: (.int v19_36) :: (.int v20_37) :: (.int v21_38) :: (.int v22_39) :: (.ref ml) :: (.ref bg) :: (.ref co) :: (.ref sp) :: (.ref nb0) :: (.ref nb1) :: (.ref nb2) :: (.int (nI nf)) :: (.int (nI bd)) :: (.int (nI mm)) :: (.int v33_40) :: (.ref pl) :: (.ref se) :: (.ref ke) :: (.ref wi) :: (.ref hs) :: (.ref mo) :: (.ref po) :: (.ref nu) :: (.ref pr) :: (.ref sq) :: (.ref xa) :: (.ref sa) :: (.ref n64) :: (.ref m64) :: (.ref ex) :: (.ref wh) :: (.ref sd) :: (.ref tk) :: (.int v52_41) :: (.int v53_42) :: (.int v54_43) :: (.ref hd) :: (.ref ak) :: (.ref ho) :: (.ref ot) :: []) := (hB1.2.2.2 h0 (by rw [hT_h0]; simp)).trans hF_89
                  have hF_132 : F_129 bg = .inl (cs 16, 21, .inl f_56) := (hB1.2.2.2 bg (by rw [ht_55]; simp)).trans hF_90
                  have hF_133 : F_129 co = .inl (cs 16, 21, .inl f_69) := (hB1.2.2.2 co (by rw [ht_68]; simp)).trans hF_91
                  have hF_134 : F_129 ml = .inl (cs 17, 3000, .inl f_100) := (hB1.2.2.2 ml (by rw [ht_97]; simp)).trans hF_101
                  generalize H1 = H at hP hS ⊢
                  refine lv_iconst (v := 0) hx hb dX15_fieldPlain_200 (by decide) ?_
                  refine lv_istore (lv' := [(7, .int 0), (8, .int (nI i)), (6, .int w6), (5, .int (nI kend)), (0, .ref h0), (1, .int (nI jf)), (2, .int x2), (3, .int x3), (4, .int x4)]) hx hb dX15_fieldPlain_201 hl (by decide) rfl (fun ls hl => ?_)
                  refine lv_iconst (v := 1) hx hb dX15_fieldPlain_203 (by decide) ?_
                  refine lv_istore (lv' := [(6, .int 1), (7, .int 0), (8, .int (nI i)), (5, .int (nI kend)), (0, .ref h0), (1, .int (nI jf)), (2, .int x2), (3, .int x3), (4, .int x4)]) hx hb dX15_fieldPlain_204 hl (by decide) rfl (fun ls hl => ?_)
                  refine lv_aload_n hx hb dX15_fieldPlain_206 rfl (lv_at hl 4 rfl) ?_
                  refine pg_get (ci := 15) (v := .ref pl) (C := RX15) (T := TX15) (N := 59) hx hb hts it_15 hown hK hP hL_h0 hF_131 rfl 34 (by decide) (hts _ kt_901) (fun _ h9 => h9) rfl dX15_fieldPlain_207 ?_
                  refine lv_aload_n hx hb dX15_fieldPlain_210 rfl (lv_at hl 4 rfl) ?_
                  refine pg_get (ci := 15) (v := .ref ml) (C := RX15) (T := TX15) (N := 59) hx hb hts it_15 hown hK hP hL_h0 hF_131 rfl 23 (by decide) (hts _ kt_887) (fun _ h9 => h9) rfl dX15_fieldPlain_211 ?_
                  refine lv_iload hx hb dX15_fieldPlain_214 (lv_at hl 2 rfl) ?_
                  refine pg_bald hx hb hK hP hi_96 1 hF_134 rfl (vp_in_nI (by omega) (by omega)) dX15_fieldPlain_216 ?_
                  refine lv_topi (fun x_135 ex_135 => ?_)
                  obtain rfl : x_135 = f_100 i := ex_135.trans (congrArg f_100 (show ((nI i) : Int32).toNatClampNeg = i from nI_clamp (by omega)))
                  have hFc := pg_free hD hS hA
                  refine va_callv (va_runV (As := [.int (f_100 i)]) (rest := []) ⟨hx, hb, hml, hown, hts⟩ (s_X14_add l dC dI cs ty gm L H.size F_129 pl (ρ + 10) rl 6000 (zz + 1) (f_100 i) hW hL_pl hT_pl hq_130 (by first | omega | assumption | exact Or.inl rfl)) ⟨callB_of 1 hts (gi kt_711) rfl rfl rfl (hts _ kt_676) (hts _ kt_712) (by decide +kernel) ⟨Nat.le_of_ble_eq_true rfl, Nat.le_of_ble_eq_true rfl⟩, (hts _ kt_713), (hts _ kt_714)⟩ ⟨fun a U g mk q => ⟨q.1, PTm.calling q.2⟩, pg_recv hK hP hL_pl hq_130 (q := (RX14, TX14, 2)) rfl, fun U hU hWm => ⟨rfl, PTm.mk hU hWm hP hK hD hE hO⟩⟩ rfl rfl hl.1 rfl (lv_room (Nat.le_of_ble_eq_true rfl)) dX15_fieldPlain_217 ⟨by show _ + 0 ≤ 0; omega, by show _ + 0 ≤ 0; omega⟩) hS (fun q _ h => hFc q h) hFc (fun u t H1 locs ht hvm hw hB hz1 hk1 hS => ?_)
                  obtain ⟨F_137, hB1, hq_138⟩ := hB
                  obtain ⟨hP, hD, hO, hR⟩ := QTm.back hB1 ht hFc hR (fun q h => by simp only [List.mem_cons, List.not_mem_nil, or_false] at h ⊢; omega)
                  have hF_139 : F_137 h0 = .inr (15, (.ref ta) :: (.int (nI zt)) :: (.int (nI zo_31)) :: (.int (nI ze)) :: (.ref ou) :: (.ref so) :: (.ref ad) :: (.ref na) :: (.ref va) :: (.ref lc) :: (.ref dm) :: (.int (nI fm)) :: (.int (nI sn)) :: (.ref tg) :: (.int v14_32) :: (.int v15_33) :: (.ref pe) :: (.int v17_34) :: (.int v18_35) :: (.int v19_36) :: (.int v20_37) :: (.int v21_38) :: (.int v22_39) :: (.ref ml) :: (.ref bg) :: (.ref co) :: (.ref sp) :: (.ref nb0) :: (.ref nb1) :: (.ref nb2) :: (.int (nI nf)) :: (.int (nI bd)) :: (.int (nI mm)) :: (.int v33_40) :: (.ref pl) :: (.ref se) :: (.ref ke) :: (.ref wi) :: (.ref hs) :: (.ref mo) :: (.ref po) :: (.ref nu) :: (.ref pr) :: (.ref sq) :: (.ref xa) :: (.ref sa) :: (.ref n64) :: (.ref m64) :: (.ref ex) :: (.ref wh) :: (.ref sd) :: (.ref tk) :: (.int v52_41) :: (.int v53_42) :: (.int v54_43) :: (.ref hd) :: (.ref ak) :: (.ref ho) :: (.ref ot) :: []) := (hB1.2.2.2 h0 (by rw [hT_h0]; simp)).trans hF_131
                  have hF_140 : F_137 bg = .inl (cs 16, 21, .inl f_56) := (hB1.2.2.2 bg (by rw [ht_55]; simp)).trans hF_132
                  have hF_141 : F_137 co = .inl (cs 16, 21, .inl f_69) := (hB1.2.2.2 co (by rw [ht_68]; simp)).trans hF_133
                  have hF_142 : F_137 ml = .inl (cs 17, 3000, .inl f_100) := (hB1.2.2.2 ml (by rw [ht_97]; simp)).trans hF_134
                  generalize H1 = H at hP hS ⊢
                  refine lv_iinc (v := (nI (i + 1))) (lv' := [(8, .int (nI (i + 1))), (6, .int 1), (7, .int 0), (5, .int (nI kend)), (0, .ref h0), (1, .int (nI jf)), (2, .int x2), (3, .int x3), (4, .int x4)]) hx hb dX15_fieldPlain_220 hl (k := 2) rfl (nI_1 _) (by decide) rfl (fun ls hl => ?_)
                  refine lv_goto (tgt := 127) hx hb dX15_fieldPlain_223 (by decide) ?_
                  refine W.widen (k := 0) (n := 0) (by omega) (by omega) ?_
                  exact ih_88 ((i + 1), 1, 0, (zz + 2)) F_137 (⟨⟨by omega, by omega⟩, Or.inl rfl, by omega, hq_138⟩) (by show kend - (i + 1) < kend - i; omega) hO hR _ _ hP hD hS ls (lv_sub hl [0, 2, 1, 3, 4, 5, 6, 7, 8] rfl)
            ·
              refine lv_iconst (v := 1) hx hb dX15_fieldPlain_175 (by decide) ?_
              refine lv_istore (lv' := [(7, .int 1), (8, .int (nI i)), (6, .int w6), (5, .int (nI kend)), (0, .ref h0), (1, .int (nI jf)), (2, .int x2), (3, .int x3), (4, .int x4)]) hx hb dX15_fieldPlain_176 hl (by decide) rfl (fun ls hl => ?_)
              refine lv_goto (tgt := 220) hx hb dX15_fieldPlain_178 (by decide) ?_
              refine lv_iinc (v := (nI (i + 1))) (lv' := [(8, .int (nI (i + 1))), (7, .int 1), (6, .int w6), (5, .int (nI kend)), (0, .ref h0), (1, .int (nI jf)), (2, .int x2), (3, .int x3), (4, .int x4)]) hx hb dX15_fieldPlain_220 hl (k := 1) rfl (nI_1 _) (by decide) rfl (fun ls hl => ?_)
              refine lv_goto (tgt := 127) hx hb dX15_fieldPlain_223 (by decide) ?_
              refine W.widen (k := 0) (n := 0) (by omega) (by omega) ?_
              exact ih_88 ((i + 1), w6, 1, zz) F_83 (⟨⟨by omega, by omega⟩, Or.inr (by omega), by omega, hs3⟩) (by show kend - (i + 1) < kend - i; omega) hO hR _ _ hP hD hS ls (lv_sub hl [0, 1, 2, 3, 4, 5, 6, 7, 8] rfl)
          ·
            refine lv_goto (tgt := 220) hx hb dX15_fieldPlain_159 (by decide) ?_
            refine lv_iinc (v := (nI (i + 1))) (lv' := [(8, .int (nI (i + 1))), (7, .int w7), (6, .int w6), (5, .int (nI kend)), (0, .ref h0), (1, .int (nI jf)), (2, .int x2), (3, .int x3), (4, .int x4)]) hx hb dX15_fieldPlain_220 hl (k := 0) rfl (nI_1 _) (by decide) rfl (fun ls hl => ?_)
            refine lv_goto (tgt := 127) hx hb dX15_fieldPlain_223 (by decide) ?_
            refine W.widen (k := 0) (n := 0) (by omega) (by omega) ?_
            exact ih_88 ((i + 1), w6, w7, zz) F_83 (⟨⟨by omega, by omega⟩, hq3.imp id (fun h => by omega), by omega, hs3⟩) (by show kend - (i + 1) < kend - i; omega) hO hR _ _ hP hD hS ls (lv_sub hl [0, 1, 2, 3, 4, 5, 6, 7, 8] rfl)
        ·
          refine lv_iload hx hb dX15_fieldPlain_140 (lv_at hl 0 rfl) ?_
          refine lv_iload hx hb dX15_fieldPlain_142 (lv_at hl 8 rfl) ?_
          refine lv_icmp_lt (tgt := 220) hx hb dX15_fieldPlain_144 (by decide) (fun c_143 => ?_) (fun c_143 => ?_)
          ·
            refine lv_iinc (v := (nI (i + 1))) (lv' := [(8, .int (nI (i + 1))), (7, .int w7), (6, .int w6), (5, .int (nI kend)), (0, .ref h0), (1, .int (nI jf)), (2, .int x2), (3, .int x3), (4, .int x4)]) hx hb dX15_fieldPlain_220 hl (k := 0) rfl (nI_1 _) (by decide) rfl (fun ls hl => ?_)
            refine lv_goto (tgt := 127) hx hb dX15_fieldPlain_223 (by decide) ?_
            refine W.widen (k := 0) (n := 0) (by omega) (by omega) ?_
            exact ih_88 ((i + 1), w6, w7, zz) F_83 (⟨⟨by omega, by omega⟩, hq3.imp id (fun h => by omega), by omega, hs3⟩) (by show kend - (i + 1) < kend - i; omega) hO hR _ _ hP hD hS ls (lv_sub hl [0, 1, 2, 3, 4, 5, 6, 7, 8] rfl)
          ·
            refine lv_aload_n hx hb dX15_fieldPlain_147 rfl (lv_at hl 4 rfl) ?_
            refine pg_get (ci := 15) (v := .ref ml) (C := RX15) (T := TX15) (N := 59) hx hb hts it_15 hown hK hP hL_h0 hF_89 rfl 23 (by decide) (hts _ kt_887) (fun _ h9 => h9) rfl dX15_fieldPlain_148 ?_
            refine lv_iload hx hb dX15_fieldPlain_151 (lv_at hl 0 rfl) ?_
            obtain ⟨hi_144, ht_145⟩ := hW.f_ml hL_h0 hT_h0
            obtain ⟨hq_146, hq_147⟩ := hW.octs hi_144 ht_145
            obtain ⟨f_148, hF_149, hq_150⟩ := hO.octs hi_144 ht_145
            refine pg_bald hx hb hK hP hi_144 1 hF_149 rfl (vp_in_nI (by omega) (by omega)) dX15_fieldPlain_153 ?_
            refine lv_topi (fun x_151 ex_151 => ?_)
            obtain rfl : x_151 = f_148 i := ex_151.trans (congrArg f_148 (show ((nI i) : Int32).toNatClampNeg = i from nI_clamp (by omega)))
            refine lv_bipush (v := 10) hx hb dX15_fieldPlain_154 (by decide) ?_
            refine lv_icmp_ne (tgt := 162) hx hb dX15_fieldPlain_156 (by decide) (fun c_152 => ?_) (fun c_152 => ?_)
            ·
              refine lv_aload_n hx hb dX15_fieldPlain_162 rfl (lv_at hl 4 rfl) ?_
              refine pg_get (ci := 15) (v := .ref ml) (C := RX15) (T := TX15) (N := 59) hx hb hts it_15 hown hK hP hL_h0 hF_89 rfl 23 (by decide) (hts _ kt_887) (fun _ h9 => h9) rfl dX15_fieldPlain_163 ?_
              refine lv_iload hx hb dX15_fieldPlain_166 (lv_at hl 0 rfl) ?_
              refine pg_bald hx hb hK hP hi_144 1 hF_149 rfl (vp_in_nI (by omega) (by omega)) dX15_fieldPlain_168 ?_
              refine lv_topi (fun x_153 ex_153 => ?_)
              obtain rfl : x_153 = f_148 i := ex_153.trans (congrArg f_148 (show ((nI i) : Int32).toNatClampNeg = i from nI_clamp (by omega)))
              have hFc := pg_free hD hS hA
              refine va_calli (va_runS (As := [.int (f_148 i)]) (rest := []) ⟨hx, hb, hml, hown, hts⟩ (s_X15_isWhite l dC dI cs ty gm L H.size F_83 (f_148 i) hW ) ⟨callB_of 1 hts (gi kt_715) rfl rfl rfl (hts _ kt_669) (hts _ kt_716) (by decide +kernel) ⟨Nat.le_of_ble_eq_true rfl, Nat.le_of_ble_eq_true rfl⟩, (hts _ kt_717)⟩ ⟨fun a U g mk q => ⟨q.1, PTm.calling q.2⟩, fun U hU hWm => ⟨rfl, PTm.mk hU hWm hP hK hD hE hO⟩⟩ rfl rfl hl.1 rfl (lv_room (Nat.le_of_ble_eq_true rfl)) dX15_fieldPlain_169 ⟨by show _ + 0 ≤ 0; omega, by show _ + 0 ≤ 0; omega⟩) hS (fun q _ h => hFc q h) hFc (fun r_154 u t H1 locs ht hvm hw hB hz1 hk1 hS => ?_)
              obtain ⟨F_155, hB1⟩ := hB
              obtain rfl : F_83 = F_155 := (funext (fun a => hB1.2.2.2 a List.not_mem_nil)).symm
              obtain ⟨hP, hD, hO, hR⟩ := QTm.back hB1 ht hFc hR (fun q h => absurd h List.not_mem_nil)
              generalize H1 = H at hP hS ⊢
              have hw : (r_154 = 0 ∨ r_154 = 1) := hw
              have hw_156 := hw
              refine lv_if_eq (tgt := 181) hx hb dX15_fieldPlain_172 (by decide) (fun c_157 => ?_) (fun c_157 => ?_)
              ·
                refine lv_iload hx hb dX15_fieldPlain_181 (lv_at hl 1 rfl) ?_
                refine lv_if_eq (tgt := 200) hx hb dX15_fieldPlain_183 (by decide) (fun c_158 => ?_) (fun c_158 => ?_)
                ·
                  refine lv_iconst (v := 0) hx hb dX15_fieldPlain_200 (by decide) ?_
                  refine lv_istore (lv' := [(7, .int 0), (8, .int (nI i)), (6, .int w6), (5, .int (nI kend)), (0, .ref h0), (1, .int (nI jf)), (2, .int x2), (3, .int x3), (4, .int x4)]) hx hb dX15_fieldPlain_201 hl (by decide) rfl (fun ls hl => ?_)
                  refine lv_iconst (v := 1) hx hb dX15_fieldPlain_203 (by decide) ?_
                  refine lv_istore (lv' := [(6, .int 1), (7, .int 0), (8, .int (nI i)), (5, .int (nI kend)), (0, .ref h0), (1, .int (nI jf)), (2, .int x2), (3, .int x3), (4, .int x4)]) hx hb dX15_fieldPlain_204 hl (by decide) rfl (fun ls hl => ?_)
                  refine lv_aload_n hx hb dX15_fieldPlain_206 rfl (lv_at hl 4 rfl) ?_
                  refine pg_get (ci := 15) (v := .ref pl) (C := RX15) (T := TX15) (N := 59) hx hb hts it_15 hown hK hP hL_h0 hF_89 rfl 34 (by decide) (hts _ kt_901) (fun _ h9 => h9) rfl dX15_fieldPlain_207 ?_
                  refine lv_aload_n hx hb dX15_fieldPlain_210 rfl (lv_at hl 4 rfl) ?_
                  refine pg_get (ci := 15) (v := .ref ml) (C := RX15) (T := TX15) (N := 59) hx hb hts it_15 hown hK hP hL_h0 hF_89 rfl 23 (by decide) (hts _ kt_887) (fun _ h9 => h9) rfl dX15_fieldPlain_211 ?_
                  refine lv_iload hx hb dX15_fieldPlain_214 (lv_at hl 2 rfl) ?_
                  refine pg_bald hx hb hK hP hi_144 1 hF_149 rfl (vp_in_nI (by omega) (by omega)) dX15_fieldPlain_216 ?_
                  refine lv_topi (fun x_159 ex_159 => ?_)
                  obtain rfl : x_159 = f_148 i := ex_159.trans (congrArg f_148 (show ((nI i) : Int32).toNatClampNeg = i from nI_clamp (by omega)))
                  have hFc := pg_free hD hS hA
                  refine va_callv (va_runV (As := [.int (f_148 i)]) (rest := []) ⟨hx, hb, hml, hown, hts⟩ (s_X14_add l dC dI cs ty gm L H.size F_83 pl (ρ + 10) rl 6000 zz (f_148 i) hW hL_pl hT_pl hs3 (by first | omega | assumption | exact Or.inl rfl)) ⟨callB_of 1 hts (gi kt_711) rfl rfl rfl (hts _ kt_676) (hts _ kt_712) (by decide +kernel) ⟨Nat.le_of_ble_eq_true rfl, Nat.le_of_ble_eq_true rfl⟩, (hts _ kt_713), (hts _ kt_714)⟩ ⟨fun a U g mk q => ⟨q.1, PTm.calling q.2⟩, pg_recv hK hP hL_pl hs3 (q := (RX14, TX14, 2)) rfl, fun U hU hWm => ⟨rfl, PTm.mk hU hWm hP hK hD hE hO⟩⟩ rfl rfl hl.1 rfl (lv_room (Nat.le_of_ble_eq_true rfl)) dX15_fieldPlain_217 ⟨by show _ + 0 ≤ 0; omega, by show _ + 0 ≤ 0; omega⟩) hS (fun q _ h => hFc q h) hFc (fun u t H1 locs ht hvm hw hB hz1 hk1 hS => ?_)
                  obtain ⟨F_161, hB1, hq_162⟩ := hB
                  obtain ⟨hP, hD, hO, hR⟩ := QTm.back hB1 ht hFc hR (fun q h => by simp only [List.mem_cons, List.not_mem_nil, or_false] at h ⊢; omega)
                  have hF_163 : F_161 h0 = .inr (15, (.ref ta) :: (.int (nI zt)) :: (.int (nI zo_31)) :: (.int (nI ze)) :: (.ref ou) :: (.ref so) :: (.ref ad) :: (.ref na) :: (.ref va) :: (.ref lc) :: (.ref dm) :: (.int (nI fm)) :: (.int (nI sn)) :: (.ref tg) :: (.int v14_32) :: (.int v15_33) :: (.ref pe) :: (.int v17_34) :: (.int v18_35) :: (.int v19_36) :: (.int v20_37) :: (.int v21_38) :: (.int v22_39) :: (.ref ml) :: (.ref bg) :: (.ref co) :: (.ref sp) :: (.ref nb0) :: (.ref nb1) :: (.ref nb2) :: (.int (nI nf)) :: (.int (nI bd)) :: (.int (nI mm)) :: (.int v33_40) :: (.ref pl) :: (.ref se) :: (.ref ke) :: (.ref wi) :: (.ref hs) :: (.ref mo) :: (.ref po) :: (.ref nu) :: (.ref pr) :: (.ref sq) :: (.ref xa) :: (.ref sa) :: (.ref n64) :: (.ref m64) :: (.ref ex) :: (.ref wh) :: (.ref sd) :: (.ref tk) :: (.int v52_41) :: (.int v53_42) :: (.int v54_43) :: (.ref hd) :: (.ref ak) :: (.ref ho) :: (.ref ot) :: []) := (hB1.2.2.2 h0 (by rw [hT_h0]; simp)).trans hF_89
                  have hF_164 : F_161 bg = .inl (cs 16, 21, .inl f_56) := (hB1.2.2.2 bg (by rw [ht_55]; simp)).trans hF_90
                  have hF_165 : F_161 co = .inl (cs 16, 21, .inl f_69) := (hB1.2.2.2 co (by rw [ht_68]; simp)).trans hF_91
                  have hF_166 : F_161 ml = .inl (cs 17, 3000, .inl f_148) := (hB1.2.2.2 ml (by rw [ht_145]; simp)).trans hF_149
                  generalize H1 = H at hP hS ⊢
                  refine lv_iinc (v := (nI (i + 1))) (lv' := [(8, .int (nI (i + 1))), (6, .int 1), (7, .int 0), (5, .int (nI kend)), (0, .ref h0), (1, .int (nI jf)), (2, .int x2), (3, .int x3), (4, .int x4)]) hx hb dX15_fieldPlain_220 hl (k := 2) rfl (nI_1 _) (by decide) rfl (fun ls hl => ?_)
                  refine lv_goto (tgt := 127) hx hb dX15_fieldPlain_223 (by decide) ?_
                  refine W.widen (k := 0) (n := 0) (by omega) (by omega) ?_
                  exact ih_88 ((i + 1), 1, 0, (zz + 1)) F_161 (⟨⟨by omega, by omega⟩, Or.inl rfl, by omega, hq_162⟩) (by show kend - (i + 1) < kend - i; omega) hO hR _ _ hP hD hS ls (lv_sub hl [0, 2, 1, 3, 4, 5, 6, 7, 8] rfl)
                ·
                  have hzz : zz + 1 ≤ (z + (gm 1 jf - gm 0 jf) + 1 + (i - (gm 1 jf + 1))) := hq3.resolve_left c_158
                  refine lv_iload hx hb dX15_fieldPlain_186 (lv_at hl 2 rfl) ?_
                  refine lv_if_eq (tgt := 200) hx hb dX15_fieldPlain_188 (by decide) (fun c_167 => ?_) (fun c_167 => ?_)
                  ·
                    refine lv_iconst (v := 0) hx hb dX15_fieldPlain_200 (by decide) ?_
                    refine lv_istore (lv' := [(7, .int 0), (8, .int (nI i)), (6, .int w6), (5, .int (nI kend)), (0, .ref h0), (1, .int (nI jf)), (2, .int x2), (3, .int x3), (4, .int x4)]) hx hb dX15_fieldPlain_201 hl (by decide) rfl (fun ls hl => ?_)
                    refine lv_iconst (v := 1) hx hb dX15_fieldPlain_203 (by decide) ?_
                    refine lv_istore (lv' := [(6, .int 1), (7, .int 0), (8, .int (nI i)), (5, .int (nI kend)), (0, .ref h0), (1, .int (nI jf)), (2, .int x2), (3, .int x3), (4, .int x4)]) hx hb dX15_fieldPlain_204 hl (by decide) rfl (fun ls hl => ?_)
                    refine lv_aload_n hx hb dX15_fieldPlain_206 rfl (lv_at hl 4 rfl) ?_
                    refine pg_get (ci := 15) (v := .ref pl) (C := RX15) (T := TX15) (N := 59) hx hb hts it_15 hown hK hP hL_h0 hF_89 rfl 34 (by decide) (hts _ kt_901) (fun _ h9 => h9) rfl dX15_fieldPlain_207 ?_
                    refine lv_aload_n hx hb dX15_fieldPlain_210 rfl (lv_at hl 4 rfl) ?_
                    refine pg_get (ci := 15) (v := .ref ml) (C := RX15) (T := TX15) (N := 59) hx hb hts it_15 hown hK hP hL_h0 hF_89 rfl 23 (by decide) (hts _ kt_887) (fun _ h9 => h9) rfl dX15_fieldPlain_211 ?_
                    refine lv_iload hx hb dX15_fieldPlain_214 (lv_at hl 2 rfl) ?_
                    refine pg_bald hx hb hK hP hi_144 1 hF_149 rfl (vp_in_nI (by omega) (by omega)) dX15_fieldPlain_216 ?_
                    refine lv_topi (fun x_168 ex_168 => ?_)
                    obtain rfl : x_168 = f_148 i := ex_168.trans (congrArg f_148 (show ((nI i) : Int32).toNatClampNeg = i from nI_clamp (by omega)))
                    have hFc := pg_free hD hS hA
                    refine va_callv (va_runV (As := [.int (f_148 i)]) (rest := []) ⟨hx, hb, hml, hown, hts⟩ (s_X14_add l dC dI cs ty gm L H.size F_83 pl (ρ + 10) rl 6000 zz (f_148 i) hW hL_pl hT_pl hs3 (by first | omega | assumption | exact Or.inl rfl)) ⟨callB_of 1 hts (gi kt_711) rfl rfl rfl (hts _ kt_676) (hts _ kt_712) (by decide +kernel) ⟨Nat.le_of_ble_eq_true rfl, Nat.le_of_ble_eq_true rfl⟩, (hts _ kt_713), (hts _ kt_714)⟩ ⟨fun a U g mk q => ⟨q.1, PTm.calling q.2⟩, pg_recv hK hP hL_pl hs3 (q := (RX14, TX14, 2)) rfl, fun U hU hWm => ⟨rfl, PTm.mk hU hWm hP hK hD hE hO⟩⟩ rfl rfl hl.1 rfl (lv_room (Nat.le_of_ble_eq_true rfl)) dX15_fieldPlain_217 ⟨by show _ + 0 ≤ 0; omega, by show _ + 0 ≤ 0; omega⟩) hS (fun q _ h => hFc q h) hFc (fun u t H1 locs ht hvm hw hB hz1 hk1 hS => ?_)
                    obtain ⟨F_170, hB1, hq_171⟩ := hB
                    obtain ⟨hP, hD, hO, hR⟩ := QTm.back hB1 ht hFc hR (fun q h => by simp only [List.mem_cons, List.not_mem_nil, or_false] at h ⊢; omega)
                    have hF_172 : F_170 h0 = .inr (15, (.ref ta) :: (.int (nI zt)) :: (.int (nI zo_31)) :: (.int (nI ze)) :: (.ref ou) :: (.ref so) :: (.ref ad) :: (.ref na) :: (.ref va) :: (.ref lc) :: (.ref dm) :: (.int (nI fm)) :: (.int (nI sn)) :: (.ref tg) :: (.int v14_32) :: (.int v15_33) :: (.ref pe) :: (.int v17_34) :: (.int v18_35) :: (.int v19_36) :: (.int v20_37) :: (.int v21_38) :: (.int v22_39) :: (.ref ml) :: (.ref bg) :: (.ref co) :: (.ref sp) :: (.ref nb0) :: (.ref nb1) :: (.ref nb2) :: (.int (nI nf)) :: (.int (nI bd)) :: (.int (nI mm)) :: (.int v33_40) :: (.ref pl) :: (.ref se) :: (.ref ke) :: (.ref wi) :: (.ref hs) :: (.ref mo) :: (.ref po) :: (.ref nu) :: (.ref pr) :: (.ref sq) :: (.ref xa) :: (.ref sa) :: (.ref n64) :: (.ref m64) :: (.ref ex) :: (.ref wh) :: (.ref sd) :: (.ref tk) :: (.int v52_41) :: (.int v53_42) :: (.int v54_43) :: (.ref hd) :: (.ref ak) :: (.ref ho) :: (.ref ot) :: []) := (hB1.2.2.2 h0 (by rw [hT_h0]; simp)).trans hF_89
                    have hF_173 : F_170 bg = .inl (cs 16, 21, .inl f_56) := (hB1.2.2.2 bg (by rw [ht_55]; simp)).trans hF_90
                    have hF_174 : F_170 co = .inl (cs 16, 21, .inl f_69) := (hB1.2.2.2 co (by rw [ht_68]; simp)).trans hF_91
                    have hF_175 : F_170 ml = .inl (cs 17, 3000, .inl f_148) := (hB1.2.2.2 ml (by rw [ht_145]; simp)).trans hF_149
                    generalize H1 = H at hP hS ⊢
                    refine lv_iinc (v := (nI (i + 1))) (lv' := [(8, .int (nI (i + 1))), (6, .int 1), (7, .int 0), (5, .int (nI kend)), (0, .ref h0), (1, .int (nI jf)), (2, .int x2), (3, .int x3), (4, .int x4)]) hx hb dX15_fieldPlain_220 hl (k := 2) rfl (nI_1 _) (by decide) rfl (fun ls hl => ?_)
                    refine lv_goto (tgt := 127) hx hb dX15_fieldPlain_223 (by decide) ?_
                    refine W.widen (k := 0) (n := 0) (by omega) (by omega) ?_
                    exact ih_88 ((i + 1), 1, 0, (zz + 1)) F_170 (⟨⟨by omega, by omega⟩, Or.inl rfl, by omega, hq_171⟩) (by show kend - (i + 1) < kend - i; omega) hO hR _ _ hP hD hS ls (lv_sub hl [0, 2, 1, 3, 4, 5, 6, 7, 8] rfl)
                  ·
                    refine lv_aload_n hx hb dX15_fieldPlain_191 rfl (lv_at hl 4 rfl) ?_
                    refine pg_get (ci := 15) (v := .ref pl) (C := RX15) (T := TX15) (N := 59) hx hb hts it_15 hown hK hP hL_h0 hF_89 rfl 34 (by decide) (hts _ kt_901) (fun _ h9 => h9) rfl dX15_fieldPlain_192 ?_
                    refine lv_bipush (v := 32) hx hb dX15_fieldPlain_195 (by decide) ?_
                    have hFc := pg_free hD hS hA
                    refine va_callv (va_runV (As := [.int 32]) (rest := []) ⟨hx, hb, hml, hown, hts⟩ (s_X14_add l dC dI cs ty gm L H.size F_83 pl (ρ + 10) rl 6000 zz 32 hW hL_pl hT_pl hs3 (by first | omega | assumption | exact Or.inl rfl)) ⟨callB_of 1 hts (gi kt_711) rfl rfl rfl (hts _ kt_676) (hts _ kt_712) (by decide +kernel) ⟨Nat.le_of_ble_eq_true rfl, Nat.le_of_ble_eq_true rfl⟩, (hts _ kt_713), (hts _ kt_714)⟩ ⟨fun a U g mk q => ⟨q.1, PTm.calling q.2⟩, pg_recv hK hP hL_pl hs3 (q := (RX14, TX14, 2)) rfl, fun U hU hWm => ⟨rfl, PTm.mk hU hWm hP hK hD hE hO⟩⟩ rfl rfl hl.1 rfl (lv_room (Nat.le_of_ble_eq_true rfl)) dX15_fieldPlain_197 ⟨by show _ + 0 ≤ 0; omega, by show _ + 0 ≤ 0; omega⟩) hS (fun q _ h => hFc q h) hFc (fun u t H1 locs ht hvm hw hB hz1 hk1 hS => ?_)
                    obtain ⟨F_177, hB1, hq_178⟩ := hB
                    obtain ⟨hP, hD, hO, hR⟩ := QTm.back hB1 ht hFc hR (fun q h => by simp only [List.mem_cons, List.not_mem_nil, or_false] at h ⊢; omega)
                    have hF_179 : F_177 h0 = .inr (15, (.ref ta) :: (.int (nI zt)) :: (.int (nI zo_31)) :: (.int (nI ze)) :: (.ref ou) :: (.ref so) :: (.ref ad) :: (.ref na) :: (.ref va) :: (.ref lc) :: (.ref dm) :: (.int (nI fm)) :: (.int (nI sn)) :: (.ref tg) :: (.int v14_32) :: (.int v15_33) :: (.ref pe) :: (.int v17_34) :: (.int v18_35) :: (.int v19_36) :: (.int v20_37) :: (.int v21_38) :: (.int v22_39) :: (.ref ml) :: (.ref bg) :: (.ref co) :: (.ref sp) :: (.ref nb0) :: (.ref nb1) :: (.ref nb2) :: (.int (nI nf)) :: (.int (nI bd)) :: (.int (nI mm)) :: (.int v33_40) :: (.ref pl) :: (.ref se) :: (.ref ke) :: (.ref wi) :: (.ref hs) :: (.ref mo) :: (.ref po) :: (.ref nu) :: (.ref pr) :: (.ref sq) :: (.ref xa) :: (.ref sa) :: (.ref n64) :: (.ref m64) :: (.ref ex) :: (.ref wh) :: (.ref sd) :: (.ref tk) :: (.int v52_41) :: (.int v53_42) :: (.int v54_43) :: (.ref hd) :: (.ref ak) :: (.ref ho) :: (.ref ot) :: []) := (hB1.2.2.2 h0 (by rw [hT_h0]; simp)).trans hF_89
                    have hF_180 : F_177 bg = .inl (cs 16, 21, .inl f_56) := (hB1.2.2.2 bg (by rw [ht_55]; simp)).trans hF_90
                    have hF_181 : F_177 co = .inl (cs 16, 21, .inl f_69) := (hB1.2.2.2 co (by rw [ht_68]; simp)).trans hF_91
                    have hF_182 : F_177 ml = .inl (cs 17, 3000, .inl f_148) := (hB1.2.2.2 ml (by rw [ht_145]; simp)).trans hF_149
                    generalize H1 = H at hP hS ⊢
                    refine lv_iconst (v := 0) hx hb dX15_fieldPlain_200 (by decide) ?_
                    refine lv_istore (lv' := [(7, .int 0), (8, .int (nI i)), (6, .int w6), (5, .int (nI kend)), (0, .ref h0), (1, .int (nI jf)), (2, .int x2), (3, .int x3), (4, .int x4)]) hx hb dX15_fieldPlain_201 hl (by decide) rfl (fun ls hl => ?_)
                    refine lv_iconst (v := 1) hx hb dX15_fieldPlain_203 (by decide) ?_
                    refine lv_istore (lv' := [(6, .int 1), (7, .int 0), (8, .int (nI i)), (5, .int (nI kend)), (0, .ref h0), (1, .int (nI jf)), (2, .int x2), (3, .int x3), (4, .int x4)]) hx hb dX15_fieldPlain_204 hl (by decide) rfl (fun ls hl => ?_)
                    refine lv_aload_n hx hb dX15_fieldPlain_206 rfl (lv_at hl 4 rfl) ?_
                    refine pg_get (ci := 15) (v := .ref pl) (C := RX15) (T := TX15) (N := 59) hx hb hts it_15 hown hK hP hL_h0 hF_179 rfl 34 (by decide) (hts _ kt_901) (fun _ h9 => h9) rfl dX15_fieldPlain_207 ?_
                    refine lv_aload_n hx hb dX15_fieldPlain_210 rfl (lv_at hl 4 rfl) ?_
                    refine pg_get (ci := 15) (v := .ref ml) (C := RX15) (T := TX15) (N := 59) hx hb hts it_15 hown hK hP hL_h0 hF_179 rfl 23 (by decide) (hts _ kt_887) (fun _ h9 => h9) rfl dX15_fieldPlain_211 ?_
                    refine lv_iload hx hb dX15_fieldPlain_214 (lv_at hl 2 rfl) ?_
                    refine pg_bald hx hb hK hP hi_144 1 hF_182 rfl (vp_in_nI (by omega) (by omega)) dX15_fieldPlain_216 ?_
                    refine lv_topi (fun x_183 ex_183 => ?_)
                    obtain rfl : x_183 = f_148 i := ex_183.trans (congrArg f_148 (show ((nI i) : Int32).toNatClampNeg = i from nI_clamp (by omega)))
                    have hFc := pg_free hD hS hA
                    refine va_callv (va_runV (As := [.int (f_148 i)]) (rest := []) ⟨hx, hb, hml, hown, hts⟩ (s_X14_add l dC dI cs ty gm L H.size F_177 pl (ρ + 10) rl 6000 (zz + 1) (f_148 i) hW hL_pl hT_pl hq_178 (by first | omega | assumption | exact Or.inl rfl)) ⟨callB_of 1 hts (gi kt_711) rfl rfl rfl (hts _ kt_676) (hts _ kt_712) (by decide +kernel) ⟨Nat.le_of_ble_eq_true rfl, Nat.le_of_ble_eq_true rfl⟩, (hts _ kt_713), (hts _ kt_714)⟩ ⟨fun a U g mk q => ⟨q.1, PTm.calling q.2⟩, pg_recv hK hP hL_pl hq_178 (q := (RX14, TX14, 2)) rfl, fun U hU hWm => ⟨rfl, PTm.mk hU hWm hP hK hD hE hO⟩⟩ rfl rfl hl.1 rfl (lv_room (Nat.le_of_ble_eq_true rfl)) dX15_fieldPlain_217 ⟨by show _ + 0 ≤ 0; omega, by show _ + 0 ≤ 0; omega⟩) hS (fun q _ h => hFc q h) hFc (fun u t H1 locs ht hvm hw hB hz1 hk1 hS => ?_)
                    obtain ⟨F_185, hB1, hq_186⟩ := hB
                    obtain ⟨hP, hD, hO, hR⟩ := QTm.back hB1 ht hFc hR (fun q h => by simp only [List.mem_cons, List.not_mem_nil, or_false] at h ⊢; omega)
                    have hF_187 : F_185 h0 = .inr (15, (.ref ta) :: (.int (nI zt)) :: (.int (nI zo_31)) :: (.int (nI ze)) :: (.ref ou) :: (.ref so) :: (.ref ad) :: (.ref na) :: (.ref va) :: (.ref lc) :: (.ref dm) :: (.int (nI fm)) :: (.int (nI sn)) :: (.ref tg) :: (.int v14_32) :: (.int v15_33) :: (.ref pe) :: (.int v17_34) :: (.int v18_35) :: (.int v19_36) :: (.int v20_37) :: (.int v21_38) :: (.int v22_39) :: (.ref ml) :: (.ref bg) :: (.ref co) :: (.ref sp) :: (.ref nb0) :: (.ref nb1) :: (.ref nb2) :: (.int (nI nf)) :: (.int (nI bd)) :: (.int (nI mm)) :: (.int v33_40) :: (.ref pl) :: (.ref se) :: (.ref ke) :: (.ref wi) :: (.ref hs) :: (.ref mo) :: (.ref po) :: (.ref nu) :: (.ref pr) :: (.ref sq) :: (.ref xa) :: (.ref sa) :: (.ref n64) :: (.ref m64) :: (.ref ex) :: (.ref wh) :: (.ref sd) :: (.ref tk) :: (.int v52_41) :: (.int v53_42) :: (.int v54_43) :: (.ref hd) :: (.ref ak) :: (.ref ho) :: (.ref ot) :: []) := (hB1.2.2.2 h0 (by rw [hT_h0]; simp)).trans hF_179
                    have hF_188 : F_185 bg = .inl (cs 16, 21, .inl f_56) := (hB1.2.2.2 bg (by rw [ht_55]; simp)).trans hF_180
                    have hF_189 : F_185 co = .inl (cs 16, 21, .inl f_69) := (hB1.2.2.2 co (by rw [ht_68]; simp)).trans hF_181
                    have hF_190 : F_185 ml = .inl (cs 17, 3000, .inl f_148) := (hB1.2.2.2 ml (by rw [ht_145]; simp)).trans hF_182
                    generalize H1 = H at hP hS ⊢
                    refine lv_iinc (v := (nI (i + 1))) (lv' := [(8, .int (nI (i + 1))), (6, .int 1), (7, .int 0), (5, .int (nI kend)), (0, .ref h0), (1, .int (nI jf)), (2, .int x2), (3, .int x3), (4, .int x4)]) hx hb dX15_fieldPlain_220 hl (k := 2) rfl (nI_1 _) (by decide) rfl (fun ls hl => ?_)
                    refine lv_goto (tgt := 127) hx hb dX15_fieldPlain_223 (by decide) ?_
                    refine W.widen (k := 0) (n := 0) (by omega) (by omega) ?_
                    exact ih_88 ((i + 1), 1, 0, (zz + 2)) F_185 (⟨⟨by omega, by omega⟩, Or.inl rfl, by omega, hq_186⟩) (by show kend - (i + 1) < kend - i; omega) hO hR _ _ hP hD hS ls (lv_sub hl [0, 2, 1, 3, 4, 5, 6, 7, 8] rfl)
              ·
                refine lv_iconst (v := 1) hx hb dX15_fieldPlain_175 (by decide) ?_
                refine lv_istore (lv' := [(7, .int 1), (8, .int (nI i)), (6, .int w6), (5, .int (nI kend)), (0, .ref h0), (1, .int (nI jf)), (2, .int x2), (3, .int x3), (4, .int x4)]) hx hb dX15_fieldPlain_176 hl (by decide) rfl (fun ls hl => ?_)
                refine lv_goto (tgt := 220) hx hb dX15_fieldPlain_178 (by decide) ?_
                refine lv_iinc (v := (nI (i + 1))) (lv' := [(8, .int (nI (i + 1))), (7, .int 1), (6, .int w6), (5, .int (nI kend)), (0, .ref h0), (1, .int (nI jf)), (2, .int x2), (3, .int x3), (4, .int x4)]) hx hb dX15_fieldPlain_220 hl (k := 1) rfl (nI_1 _) (by decide) rfl (fun ls hl => ?_)
                refine lv_goto (tgt := 127) hx hb dX15_fieldPlain_223 (by decide) ?_
                refine W.widen (k := 0) (n := 0) (by omega) (by omega) ?_
                exact ih_88 ((i + 1), w6, 1, zz) F_83 (⟨⟨by omega, by omega⟩, Or.inr (by omega), by omega, hs3⟩) (by show kend - (i + 1) < kend - i; omega) hO hR _ _ hP hD hS ls (lv_sub hl [0, 1, 2, 3, 4, 5, 6, 7, 8] rfl)
            ·
              refine lv_goto (tgt := 220) hx hb dX15_fieldPlain_159 (by decide) ?_
              refine lv_iinc (v := (nI (i + 1))) (lv' := [(8, .int (nI (i + 1))), (7, .int w7), (6, .int w6), (5, .int (nI kend)), (0, .ref h0), (1, .int (nI jf)), (2, .int x2), (3, .int x3), (4, .int x4)]) hx hb dX15_fieldPlain_220 hl (k := 0) rfl (nI_1 _) (by decide) rfl (fun ls hl => ?_)
              refine lv_goto (tgt := 127) hx hb dX15_fieldPlain_223 (by decide) ?_
              refine W.widen (k := 0) (n := 0) (by omega) (by omega) ?_
              exact ih_88 ((i + 1), w6, w7, zz) F_83 (⟨⟨by omega, by omega⟩, hq3.imp id (fun h => by omega), by omega, hs3⟩) (by show kend - (i + 1) < kend - i; omega) hO hR _ _ hP hD hS ls (lv_sub hl [0, 1, 2, 3, 4, 5, 6, 7, 8] rfl)
    ·
      have hi_191 : j < (gm 1 jf) := ltN (N := (gm 1 jf)) c_73
      refine lv_aload_n hx hb dX15_fieldPlain_79 rfl (lv_at hl 2 rfl) ?_
      refine pg_get (ci := 15) (v := .ref pl) (C := RX15) (T := TX15) (N := 59) hx hb hts it_15 hown hK hP hL_h0 hF_65 rfl 34 (by decide) (hts _ kt_901) (fun _ h9 => h9) rfl dX15_fieldPlain_80 ?_
      refine lv_aload_n hx hb dX15_fieldPlain_83 rfl (lv_at hl 2 rfl) ?_
      refine pg_get (ci := 15) (v := .ref ml) (C := RX15) (T := TX15) (N := 59) hx hb hts it_15 hown hK hP hL_h0 hF_65 rfl 23 (by decide) (hts _ kt_887) (fun _ h9 => h9) rfl dX15_fieldPlain_84 ?_
      refine lv_iload hx hb dX15_fieldPlain_87 (lv_at hl 0 rfl) ?_
      obtain ⟨hi_192, ht_193⟩ := hW.f_ml hL_h0 hT_h0
      obtain ⟨hq_194, hq_195⟩ := hW.octs hi_192 ht_193
      obtain ⟨f_196, hF_197, hq_198⟩ := hO.octs hi_192 ht_193
      refine pg_bald hx hb hK hP hi_192 1 hF_197 rfl (vp_in_nI (by omega) (by omega)) dX15_fieldPlain_89 ?_
      refine lv_topi (fun x_199 ex_199 => ?_)
      obtain rfl : x_199 = f_196 j := ex_199.trans (congrArg f_196 (show ((nI j) : Int32).toNatClampNeg = j from nI_clamp (by omega)))
      have hFc := pg_free hD hS hA
      refine va_calli (va_runS (As := [.int (f_196 j)]) (rest := [.ref pl]) ⟨hx, hb, hml, hown, hts⟩ (s_X15_small l dC dI cs ty gm L H.size F_60 (f_196 j) hW ) ⟨callB_of 1 hts (gi kt_697) rfl rfl rfl (hts _ kt_669) (hts _ kt_698) (by decide +kernel) ⟨Nat.le_of_ble_eq_true rfl, Nat.le_of_ble_eq_true rfl⟩, (hts _ kt_699)⟩ ⟨fun a U g mk q => ⟨q.1, PTm.calling q.2⟩, fun U hU hWm => ⟨rfl, PTm.mk hU hWm hP hK hD hE hO⟩⟩ rfl rfl hl.1 rfl (lv_room (Nat.le_of_ble_eq_true rfl)) dX15_fieldPlain_90 ⟨by show _ + 0 ≤ 0; omega, by show _ + 0 ≤ 0; omega⟩) hS (fun q _ h => hFc q h) hFc (fun r_200 u t H1 locs ht hvm hw hB hz1 hk1 hS => ?_)
      obtain ⟨F_201, hB1⟩ := hB
      obtain rfl : F_60 = F_201 := (funext (fun a => hB1.2.2.2 a List.not_mem_nil)).symm
      obtain ⟨hP, hD, hO, hR⟩ := QTm.back hB1 ht hFc hR (fun q h => absurd h List.not_mem_nil)
      generalize H1 = H at hP hS ⊢
      have hw : True := hw
      have hw_202 := hw
      have hFc := pg_free hD hS hA
      refine va_callv (va_runV (As := [.int r_200]) (rest := []) ⟨hx, hb, hml, hown, hts⟩ (s_X14_add l dC dI cs ty gm L H.size F_60 pl (ρ + 10) rl 6000 zz r_200 hW hL_pl hT_pl hr2 (by first | omega | assumption | exact Or.inl rfl)) ⟨callB_of 1 hts (gi kt_711) rfl rfl rfl (hts _ kt_676) (hts _ kt_712) (by decide +kernel) ⟨Nat.le_of_ble_eq_true rfl, Nat.le_of_ble_eq_true rfl⟩, (hts _ kt_713), (hts _ kt_714)⟩ ⟨fun a U g mk q => ⟨q.1, PTm.calling q.2⟩, pg_recv hK hP hL_pl hr2 (q := (RX14, TX14, 2)) rfl, fun U hU hWm => ⟨rfl, PTm.mk hU hWm hP hK hD hE hO⟩⟩ rfl rfl hl.1 rfl (lv_room (Nat.le_of_ble_eq_true rfl)) dX15_fieldPlain_93 ⟨by show _ + 0 ≤ 0; omega, by show _ + 0 ≤ 0; omega⟩) hS (fun q _ h => hFc q h) hFc (fun u t H1 locs ht hvm hw hB hz1 hk1 hS => ?_)
      obtain ⟨F_204, hB1, hq_205⟩ := hB
      obtain ⟨hP, hD, hO, hR⟩ := QTm.back hB1 ht hFc hR (fun q h => by simp only [List.mem_cons, List.not_mem_nil, or_false] at h ⊢; omega)
      have hF_206 : F_204 h0 = .inr (15, (.ref ta) :: (.int (nI zt)) :: (.int (nI zo_31)) :: (.int (nI ze)) :: (.ref ou) :: (.ref so) :: (.ref ad) :: (.ref na) :: (.ref va) :: (.ref lc) :: (.ref dm) :: (.int (nI fm)) :: (.int (nI sn)) :: (.ref tg) :: (.int v14_32) :: (.int v15_33) :: (.ref pe) :: (.int v17_34) :: (.int v18_35) :: (.int v19_36) :: (.int v20_37) :: (.int v21_38) :: (.int v22_39) :: (.ref ml) :: (.ref bg) :: (.ref co) :: (.ref sp) :: (.ref nb0) :: (.ref nb1) :: (.ref nb2) :: (.int (nI nf)) :: (.int (nI bd)) :: (.int (nI mm)) :: (.int v33_40) :: (.ref pl) :: (.ref se) :: (.ref ke) :: (.ref wi) :: (.ref hs) :: (.ref mo) :: (.ref po) :: (.ref nu) :: (.ref pr) :: (.ref sq) :: (.ref xa) :: (.ref sa) :: (.ref n64) :: (.ref m64) :: (.ref ex) :: (.ref wh) :: (.ref sd) :: (.ref tk) :: (.int v52_41) :: (.int v53_42) :: (.int v54_43) :: (.ref hd) :: (.ref ak) :: (.ref ho) :: (.ref ot) :: []) := (hB1.2.2.2 h0 (by rw [hT_h0]; simp)).trans hF_65
      have hF_207 : F_204 bg = .inl (cs 16, 21, .inl f_56) := (hB1.2.2.2 bg (by rw [ht_55]; simp)).trans hF_66
      have hF_208 : F_204 co = .inl (cs 16, 21, .inl f_69) := (hB1.2.2.2 co (by rw [ht_68]; simp)).trans hF_70
      have hF_209 : F_204 ml = .inl (cs 17, 3000, .inl f_196) := (hB1.2.2.2 ml (by rw [ht_193]; simp)).trans hF_197
      generalize H1 = H at hP hS ⊢
      refine lv_iinc (v := (nI (j + 1))) (lv' := [(6, .int (nI (j + 1))), (5, .int (nI kend)), (0, .ref h0), (1, .int (nI jf)), (2, .int x2), (3, .int x3), (4, .int x4)]) hx hb dX15_fieldPlain_96 hl (k := 0) rfl (nI_1 _) (by decide) rfl (fun ls hl => ?_)
      refine lv_goto (tgt := 68) hx hb dX15_fieldPlain_99 (by decide) ?_
      refine W.widen (k := 0) (n := 0) (by omega) (by omega) ?_
      exact ih_64 ((j + 1), (zz + 1)) F_204 (⟨⟨by omega, by omega⟩, by omega, hq_205⟩) (by show gm 1 jf - (j + 1) < gm 1 jf - j; omega) hO hR _ _ hP hD hS ls (lv_sub hl [0, 1, 2, 3, 4, 5, 6] rfl)
  ·
    refine lv_aload_n hx hb dX15_fieldPlain_11 rfl (lv_at hl 1 rfl) ?_
    refine pg_get (ci := 15) (v := .ref bg) (C := RX15) (T := TX15) (N := 59) hx hb hts it_15 hown hK hP hL_h0 hF_44 rfl 24 (by decide) (hts _ kt_888) (fun _ h9 => h9) rfl dX15_fieldPlain_12 ?_
    refine lv_iload_n hx hb dX15_fieldPlain_15 rfl (lv_at hl 2 rfl) ?_
    obtain ⟨hi_210, ht_211⟩ := hW.f_bg hL_h0 hT_h0
    obtain ⟨f_212, hF_213, hq_214⟩ := hO.pos hi_210 ht_211
    refine pg_iald hx hb hK hP hi_210 0 hF_213 rfl (vp_in_nI (by omega) (by omega)) dX15_fieldPlain_16 ?_
    refine lv_topi (fun x_215 ex_215 => ?_)
    obtain rfl : x_215 = (nI (gm 0 jf)) := ex_215.trans (by rw [show ((nI jf) : Int32) = nI jf from rfl, nI_clamp (by omega)]; exact hq_214 jf (by omega))
    have hgbx_215 := hgB 0 jf
    refine lv_istore (lv' := [(6, .int (nI (gm 0 jf))), (5, .int (nI kend)), (0, .ref h0), (1, .int (nI jf)), (2, .int x2), (3, .int x3), (4, .int x4)]) hx hb dX15_fieldPlain_17 hl (by decide) rfl (fun ls hl => ?_)
    refine W.widen (k := 0) (n := 0) (by omega) (by omega) ?_
    have hF_217 : F h0 = .inr (15, (.ref ta) :: (.int (nI zt)) :: (.int (nI zo_31)) :: (.int (nI ze)) :: (.ref ou) :: (.ref so) :: (.ref ad) :: (.ref na) :: (.ref va) :: (.ref lc) :: (.ref dm) :: (.int (nI fm)) :: (.int (nI sn)) :: (.ref tg) :: (.int v14_32) :: (.int v15_33) :: (.ref pe) :: (.int v17_34) :: (.int v18_35) :: (.int v19_36) :: (.int v20_37) :: (.int v21_38) :: (.int v22_39) :: (.ref ml) :: (.ref bg) :: (.ref co) :: (.ref sp) :: (.ref nb0) :: (.ref nb1) :: (.ref nb2) :: (.int (nI nf)) :: (.int (nI bd)) :: (.int (nI mm)) :: (.int v33_40) :: (.ref pl) :: (.ref se) :: (.ref ke) :: (.ref wi) :: (.ref hs) :: (.ref mo) :: (.ref po) :: (.ref nu) :: (.ref pr) :: (.ref sq) :: (.ref xa) :: (.ref sa) :: (.ref n64) :: (.ref m64) :: (.ref ex) :: (.ref wh) :: (.ref sd) :: (.ref tk) :: (.int v52_41) :: (.int v53_42) :: (.int v54_43) :: (.ref hd) :: (.ref ak) :: (.ref ho) :: (.ref ot) :: []) := (hR h0 (by rw [hT_h0]; simp)).symm.trans hF_44
    have hF_218 : F bg = .inl (cs 16, 21, .inl f_212) := (hR bg (by rw [ht_211]; simp)).symm.trans hF_213
    refine pl_loopm (σ := Nat × Nat) A (dC, dI) cs ty gm L [ρ + 10] F 19 9 (fun (j, zz) => [(6, .int (nI j)), (5, .int (nI kend)), (0, .ref h0), (1, .int (nI jf)), (2, .int x2), (3, .int x3), (4, .int x4)]) (fun (j, zz) => []) (fun (j, zz) FF => (gm 0 jf ≤ j ∧ j ≤ kend) ∧ zz ≤ z + (j - gm 0 jf) ∧ FF pl = .inr (14, [.ref rl, .int (nI zz)])) (fun (j, zz) => kend - j) ?_ ((gm 0 jf), z) F (⟨⟨by omega, by omega⟩, by omega, hFl⟩) hO hR _ _ hP hD hS ls (lv_sub hl [0, 1, 2, 3, 4, 5, 6] rfl)
    rintro ⟨j, zz⟩ F_216 hv_219 hO hR ih_220 H locs hP hD hS ls hl
    have hl : lv_has ls 9 [(6, .int (nI j)), (5, .int (nI kend)), (0, .ref h0), (1, .int (nI jf)), (2, .int x2), (3, .int x3), (4, .int x4)] := hl
    have hv_219 : (gm 0 jf ≤ j ∧ j ≤ kend) ∧ zz ≤ z + (j - gm 0 jf) ∧ F_216 pl = .inr (14, [.ref rl, .int (nI zz)]) := hv_219
    refine W.eq (g2 := F0 m 19 ls []) rfl ?_
    have hF_221 : F_216 h0 = .inr (15, (.ref ta) :: (.int (nI zt)) :: (.int (nI zo_31)) :: (.int (nI ze)) :: (.ref ou) :: (.ref so) :: (.ref ad) :: (.ref na) :: (.ref va) :: (.ref lc) :: (.ref dm) :: (.int (nI fm)) :: (.int (nI sn)) :: (.ref tg) :: (.int v14_32) :: (.int v15_33) :: (.ref pe) :: (.int v17_34) :: (.int v18_35) :: (.int v19_36) :: (.int v20_37) :: (.int v21_38) :: (.int v22_39) :: (.ref ml) :: (.ref bg) :: (.ref co) :: (.ref sp) :: (.ref nb0) :: (.ref nb1) :: (.ref nb2) :: (.int (nI nf)) :: (.int (nI bd)) :: (.int (nI mm)) :: (.int v33_40) :: (.ref pl) :: (.ref se) :: (.ref ke) :: (.ref wi) :: (.ref hs) :: (.ref mo) :: (.ref po) :: (.ref nu) :: (.ref pr) :: (.ref sq) :: (.ref xa) :: (.ref sa) :: (.ref n64) :: (.ref m64) :: (.ref ex) :: (.ref wh) :: (.ref sd) :: (.ref tk) :: (.int v52_41) :: (.int v53_42) :: (.int v54_43) :: (.ref hd) :: (.ref ak) :: (.ref ho) :: (.ref ot) :: []) := (hR h0 (by rw [hT_h0]; simp)).trans hF_217
    have hF_222 : F_216 bg = .inl (cs 16, 21, .inl f_212) := (hR bg (by rw [ht_211]; simp)).trans hF_218
    obtain ⟨hp1, hq1, hr1⟩ := hv_219
    refine lv_iload hx hb dX15_fieldPlain_19 (lv_at hl 0 rfl) ?_
    refine lv_iload hx hb dX15_fieldPlain_21 (lv_at hl 1 rfl) ?_
    refine lv_icmp_ge (tgt := 59) hx hb dX15_fieldPlain_23 (by decide) (fun c_223 => ?_) (fun c_223 => ?_)
    ·
      have hi_224 : kend ≤ j := leN (N := kend) c_223
      refine W.widen (k := 0) (n := 0) (by omega) (by omega) ?_
      exact W.vret hx hb hr (fun t ht hWm => ⟨⟨(), rfl, trivial, ⟨F_216, zz, QTm.mk ht hP hD hO hR, hr1, by omega⟩⟩, hS.F ht⟩) hS.2.2 dX15_fieldPlain_59
    ·
      have hi_225 : j < kend := ltN (N := kend) c_223
      have hF_228 : F h0 = .inr (15, (.ref ta) :: (.int (nI zt)) :: (.int (nI zo_31)) :: (.int (nI ze)) :: (.ref ou) :: (.ref so) :: (.ref ad) :: (.ref na) :: (.ref va) :: (.ref lc) :: (.ref dm) :: (.int (nI fm)) :: (.int (nI sn)) :: (.ref tg) :: (.int v14_32) :: (.int v15_33) :: (.ref pe) :: (.int v17_34) :: (.int v18_35) :: (.int v19_36) :: (.int v20_37) :: (.int v21_38) :: (.int v22_39) :: (.ref ml) :: (.ref bg) :: (.ref co) :: (.ref sp) :: (.ref nb0) :: (.ref nb1) :: (.ref nb2) :: (.int (nI nf)) :: (.int (nI bd)) :: (.int (nI mm)) :: (.int v33_40) :: (.ref pl) :: (.ref se) :: (.ref ke) :: (.ref wi) :: (.ref hs) :: (.ref mo) :: (.ref po) :: (.ref nu) :: (.ref pr) :: (.ref sq) :: (.ref xa) :: (.ref sa) :: (.ref n64) :: (.ref m64) :: (.ref ex) :: (.ref wh) :: (.ref sd) :: (.ref tk) :: (.int v52_41) :: (.int v53_42) :: (.int v54_43) :: (.ref hd) :: (.ref ak) :: (.ref ho) :: (.ref ot) :: []) := (hR h0 (by rw [hT_h0]; simp)).symm.trans hF_221
      have hF_229 : F bg = .inl (cs 16, 21, .inl f_212) := (hR bg (by rw [ht_211]; simp)).symm.trans hF_222
      refine W.widen (k := 0) (n := 0) (by omega) (by omega) ?_
      refine pl_cutm (σ := Nat) A (dC, dI) cs ty gm L [ρ + 10] F 53 9 (fun zy => [(6, .int (nI j)), (5, .int (nI kend)), (0, .ref h0), (1, .int (nI jf)), (2, .int x2), (3, .int x3), (4, .int x4)]) (fun zy => []) (fun zy FF => zy ≤ z + (j + 1 - gm 0 jf) ∧ FF pl = .inr (14, [.ref rl, .int (nI zy)])) ?_ (fun jn_226 => ?_)
      ·
        rintro zy F_227 hv_230 hO hR H locs hP hD hS ls hl
        have hl : lv_has ls 9 [(6, .int (nI j)), (5, .int (nI kend)), (0, .ref h0), (1, .int (nI jf)), (2, .int x2), (3, .int x3), (4, .int x4)] := hl
        have hv_230 : zy ≤ z + (j + 1 - gm 0 jf) ∧ F_227 pl = .inr (14, [.ref rl, .int (nI zy)]) := hv_230
        refine W.eq (g2 := F0 m 53 ls []) rfl ?_
        have hF_231 : F_227 h0 = .inr (15, (.ref ta) :: (.int (nI zt)) :: (.int (nI zo_31)) :: (.int (nI ze)) :: (.ref ou) :: (.ref so) :: (.ref ad) :: (.ref na) :: (.ref va) :: (.ref lc) :: (.ref dm) :: (.int (nI fm)) :: (.int (nI sn)) :: (.ref tg) :: (.int v14_32) :: (.int v15_33) :: (.ref pe) :: (.int v17_34) :: (.int v18_35) :: (.int v19_36) :: (.int v20_37) :: (.int v21_38) :: (.int v22_39) :: (.ref ml) :: (.ref bg) :: (.ref co) :: (.ref sp) :: (.ref nb0) :: (.ref nb1) :: (.ref nb2) :: (.int (nI nf)) :: (.int (nI bd)) :: (.int (nI mm)) :: (.int v33_40) :: (.ref pl) :: (.ref se) :: (.ref ke) :: (.ref wi) :: (.ref hs) :: (.ref mo) :: (.ref po) :: (.ref nu) :: (.ref pr) :: (.ref sq) :: (.ref xa) :: (.ref sa) :: (.ref n64) :: (.ref m64) :: (.ref ex) :: (.ref wh) :: (.ref sd) :: (.ref tk) :: (.int v52_41) :: (.int v53_42) :: (.int v54_43) :: (.ref hd) :: (.ref ak) :: (.ref ho) :: (.ref ot) :: []) := (hR h0 (by rw [hT_h0]; simp)).trans hF_228
        have hF_232 : F_227 bg = .inl (cs 16, 21, .inl f_212) := (hR bg (by rw [ht_211]; simp)).trans hF_229
        obtain ⟨hy1, hy2⟩ := hv_230
        refine lv_iinc (v := (nI (j + 1))) (lv' := [(6, .int (nI (j + 1))), (5, .int (nI kend)), (0, .ref h0), (1, .int (nI jf)), (2, .int x2), (3, .int x3), (4, .int x4)]) hx hb dX15_fieldPlain_53 hl (k := 0) rfl (nI_1 _) (by decide) rfl (fun ls hl => ?_)
        refine lv_goto (tgt := 19) hx hb dX15_fieldPlain_56 (by decide) ?_
        refine W.widen (k := 0) (n := 0) (by omega) (by omega) ?_
        exact ih_220 ((j + 1), zy) F_227 (⟨⟨by omega, by omega⟩, by omega, hy2⟩) (by show kend - (j + 1) < kend - j; omega) hO hR _ _ hP hD hS ls (lv_sub hl [0, 1, 2, 3, 4, 5, 6] rfl)
      ·
        refine lv_iload hx hb dX15_fieldPlain_26 (lv_at hl 0 rfl) ?_
        refine lv_iload_n hx hb dX15_fieldPlain_28 rfl (lv_at hl 5 rfl) ?_
        refine lv_icmp_lt (tgt := 39) hx hb dX15_fieldPlain_29 (by decide) (fun c_233 => ?_) (fun c_233 => ?_)
        ·
          refine lv_aload_n hx hb dX15_fieldPlain_39 rfl (lv_at hl 2 rfl) ?_
          refine pg_get (ci := 15) (v := .ref pl) (C := RX15) (T := TX15) (N := 59) hx hb hts it_15 hown hK hP hL_h0 hF_221 rfl 34 (by decide) (hts _ kt_901) (fun _ h9 => h9) rfl dX15_fieldPlain_40 ?_
          refine lv_aload_n hx hb dX15_fieldPlain_43 rfl (lv_at hl 2 rfl) ?_
          refine pg_get (ci := 15) (v := .ref ml) (C := RX15) (T := TX15) (N := 59) hx hb hts it_15 hown hK hP hL_h0 hF_221 rfl 23 (by decide) (hts _ kt_887) (fun _ h9 => h9) rfl dX15_fieldPlain_44 ?_
          refine lv_iload hx hb dX15_fieldPlain_47 (lv_at hl 0 rfl) ?_
          obtain ⟨hi_234, ht_235⟩ := hW.f_ml hL_h0 hT_h0
          obtain ⟨hq_236, hq_237⟩ := hW.octs hi_234 ht_235
          obtain ⟨f_238, hF_239, hq_240⟩ := hO.octs hi_234 ht_235
          refine pg_bald hx hb hK hP hi_234 1 hF_239 rfl (vp_in_nI (by omega) (by omega)) dX15_fieldPlain_49 ?_
          refine lv_topi (fun x_241 ex_241 => ?_)
          obtain rfl : x_241 = f_238 j := ex_241.trans (congrArg f_238 (show ((nI j) : Int32).toNatClampNeg = j from nI_clamp (by omega)))
          have hFc := pg_free hD hS hA
          refine va_callv (va_runV (As := [.int (f_238 j)]) (rest := []) ⟨hx, hb, hml, hown, hts⟩ (s_X14_add l dC dI cs ty gm L H.size F_216 pl (ρ + 10) rl 6000 zz (f_238 j) hW hL_pl hT_pl hr1 (by first | omega | assumption | exact Or.inl rfl)) ⟨callB_of 1 hts (gi kt_711) rfl rfl rfl (hts _ kt_676) (hts _ kt_712) (by decide +kernel) ⟨Nat.le_of_ble_eq_true rfl, Nat.le_of_ble_eq_true rfl⟩, (hts _ kt_713), (hts _ kt_714)⟩ ⟨fun a U g mk q => ⟨q.1, PTm.calling q.2⟩, pg_recv hK hP hL_pl hr1 (q := (RX14, TX14, 2)) rfl, fun U hU hWm => ⟨rfl, PTm.mk hU hWm hP hK hD hE hO⟩⟩ rfl rfl hl.1 rfl (lv_room (Nat.le_of_ble_eq_true rfl)) dX15_fieldPlain_50 ⟨by show _ + 0 ≤ 0; omega, by show _ + 0 ≤ 0; omega⟩) hS (fun q _ h => hFc q h) hFc (fun u t H1 locs ht hvm hw hB hz1 hk1 hS => ?_)
          obtain ⟨F_243, hB1, hq_244⟩ := hB
          obtain ⟨hP, hD, hO, hR⟩ := QTm.back hB1 ht hFc hR (fun q h => by simp only [List.mem_cons, List.not_mem_nil, or_false] at h ⊢; omega)
          have hF_245 : F_243 h0 = .inr (15, (.ref ta) :: (.int (nI zt)) :: (.int (nI zo_31)) :: (.int (nI ze)) :: (.ref ou) :: (.ref so) :: (.ref ad) :: (.ref na) :: (.ref va) :: (.ref lc) :: (.ref dm) :: (.int (nI fm)) :: (.int (nI sn)) :: (.ref tg) :: (.int v14_32) :: (.int v15_33) :: (.ref pe) :: (.int v17_34) :: (.int v18_35) :: (.int v19_36) :: (.int v20_37) :: (.int v21_38) :: (.int v22_39) :: (.ref ml) :: (.ref bg) :: (.ref co) :: (.ref sp) :: (.ref nb0) :: (.ref nb1) :: (.ref nb2) :: (.int (nI nf)) :: (.int (nI bd)) :: (.int (nI mm)) :: (.int v33_40) :: (.ref pl) :: (.ref se) :: (.ref ke) :: (.ref wi) :: (.ref hs) :: (.ref mo) :: (.ref po) :: (.ref nu) :: (.ref pr) :: (.ref sq) :: (.ref xa) :: (.ref sa) :: (.ref n64) :: (.ref m64) :: (.ref ex) :: (.ref wh) :: (.ref sd) :: (.ref tk) :: (.int v52_41) :: (.int v53_42) :: (.int v54_43) :: (.ref hd) :: (.ref ak) :: (.ref ho) :: (.ref ot) :: []) := (hB1.2.2.2 h0 (by rw [hT_h0]; simp)).trans hF_221
          have hF_246 : F_243 bg = .inl (cs 16, 21, .inl f_212) := (hB1.2.2.2 bg (by rw [ht_211]; simp)).trans hF_222
          have hF_247 : F_243 ml = .inl (cs 17, 3000, .inl f_238) := (hB1.2.2.2 ml (by rw [ht_235]; simp)).trans hF_239
          generalize H1 = H at hP hS ⊢
          refine W.widen (k := 0) (n := 0) (by omega) (by omega) ?_
          exact jn_226 (zz + 1) F_243 (⟨by omega, hq_244⟩) hO hR _ _ hP hD hS ls (lv_sub hl [0, 1, 2, 3, 4, 5, 6] rfl)
        ·
          refine lv_iload hx hb dX15_fieldPlain_32 (lv_at hl 0 rfl) ?_
          refine lv_iload hx hb dX15_fieldPlain_34 (lv_at hl 6 rfl) ?_
          refine lv_icmp_lt (tgt := 53) hx hb dX15_fieldPlain_36 (by decide) (fun c_248 => ?_) (fun c_248 => ?_)
          ·
            refine W.widen (k := 0) (n := 0) (by omega) (by omega) ?_
            exact jn_226 zz F_216 (⟨by omega, hr1⟩) hO hR _ _ hP hD hS ls (lv_sub hl [0, 1, 2, 3, 4, 5, 6] rfl)
          ·
            refine lv_aload_n hx hb dX15_fieldPlain_39 rfl (lv_at hl 2 rfl) ?_
            refine pg_get (ci := 15) (v := .ref pl) (C := RX15) (T := TX15) (N := 59) hx hb hts it_15 hown hK hP hL_h0 hF_221 rfl 34 (by decide) (hts _ kt_901) (fun _ h9 => h9) rfl dX15_fieldPlain_40 ?_
            refine lv_aload_n hx hb dX15_fieldPlain_43 rfl (lv_at hl 2 rfl) ?_
            refine pg_get (ci := 15) (v := .ref ml) (C := RX15) (T := TX15) (N := 59) hx hb hts it_15 hown hK hP hL_h0 hF_221 rfl 23 (by decide) (hts _ kt_887) (fun _ h9 => h9) rfl dX15_fieldPlain_44 ?_
            refine lv_iload hx hb dX15_fieldPlain_47 (lv_at hl 0 rfl) ?_
            obtain ⟨hi_249, ht_250⟩ := hW.f_ml hL_h0 hT_h0
            obtain ⟨hq_251, hq_252⟩ := hW.octs hi_249 ht_250
            obtain ⟨f_253, hF_254, hq_255⟩ := hO.octs hi_249 ht_250
            refine pg_bald hx hb hK hP hi_249 1 hF_254 rfl (vp_in_nI (by omega) (by omega)) dX15_fieldPlain_49 ?_
            refine lv_topi (fun x_256 ex_256 => ?_)
            obtain rfl : x_256 = f_253 j := ex_256.trans (congrArg f_253 (show ((nI j) : Int32).toNatClampNeg = j from nI_clamp (by omega)))
            have hFc := pg_free hD hS hA
            refine va_callv (va_runV (As := [.int (f_253 j)]) (rest := []) ⟨hx, hb, hml, hown, hts⟩ (s_X14_add l dC dI cs ty gm L H.size F_216 pl (ρ + 10) rl 6000 zz (f_253 j) hW hL_pl hT_pl hr1 (by first | omega | assumption | exact Or.inl rfl)) ⟨callB_of 1 hts (gi kt_711) rfl rfl rfl (hts _ kt_676) (hts _ kt_712) (by decide +kernel) ⟨Nat.le_of_ble_eq_true rfl, Nat.le_of_ble_eq_true rfl⟩, (hts _ kt_713), (hts _ kt_714)⟩ ⟨fun a U g mk q => ⟨q.1, PTm.calling q.2⟩, pg_recv hK hP hL_pl hr1 (q := (RX14, TX14, 2)) rfl, fun U hU hWm => ⟨rfl, PTm.mk hU hWm hP hK hD hE hO⟩⟩ rfl rfl hl.1 rfl (lv_room (Nat.le_of_ble_eq_true rfl)) dX15_fieldPlain_50 ⟨by show _ + 0 ≤ 0; omega, by show _ + 0 ≤ 0; omega⟩) hS (fun q _ h => hFc q h) hFc (fun u t H1 locs ht hvm hw hB hz1 hk1 hS => ?_)
            obtain ⟨F_258, hB1, hq_259⟩ := hB
            obtain ⟨hP, hD, hO, hR⟩ := QTm.back hB1 ht hFc hR (fun q h => by simp only [List.mem_cons, List.not_mem_nil, or_false] at h ⊢; omega)
            have hF_260 : F_258 h0 = .inr (15, (.ref ta) :: (.int (nI zt)) :: (.int (nI zo_31)) :: (.int (nI ze)) :: (.ref ou) :: (.ref so) :: (.ref ad) :: (.ref na) :: (.ref va) :: (.ref lc) :: (.ref dm) :: (.int (nI fm)) :: (.int (nI sn)) :: (.ref tg) :: (.int v14_32) :: (.int v15_33) :: (.ref pe) :: (.int v17_34) :: (.int v18_35) :: (.int v19_36) :: (.int v20_37) :: (.int v21_38) :: (.int v22_39) :: (.ref ml) :: (.ref bg) :: (.ref co) :: (.ref sp) :: (.ref nb0) :: (.ref nb1) :: (.ref nb2) :: (.int (nI nf)) :: (.int (nI bd)) :: (.int (nI mm)) :: (.int v33_40) :: (.ref pl) :: (.ref se) :: (.ref ke) :: (.ref wi) :: (.ref hs) :: (.ref mo) :: (.ref po) :: (.ref nu) :: (.ref pr) :: (.ref sq) :: (.ref xa) :: (.ref sa) :: (.ref n64) :: (.ref m64) :: (.ref ex) :: (.ref wh) :: (.ref sd) :: (.ref tk) :: (.int v52_41) :: (.int v53_42) :: (.int v54_43) :: (.ref hd) :: (.ref ak) :: (.ref ho) :: (.ref ot) :: []) := (hB1.2.2.2 h0 (by rw [hT_h0]; simp)).trans hF_221
            have hF_261 : F_258 bg = .inl (cs 16, 21, .inl f_212) := (hB1.2.2.2 bg (by rw [ht_211]; simp)).trans hF_222
            have hF_262 : F_258 ml = .inl (cs 17, 3000, .inl f_253) := (hB1.2.2.2 ml (by rw [ht_250]; simp)).trans hF_254
            generalize H1 = H at hP hS ⊢
            refine W.widen (k := 0) (n := 0) (by omega) (by omega) ?_
            exact jn_226 (zz + 1) F_258 (⟨by omega, hq_259⟩) hO hR _ _ hP hD hS ls (lv_sub hl [0, 1, 2, 3, 4, 5, 6] rfl)
set_option maxHeartbeats 4000000 in
set_option maxRecDepth 100000 in
theorem s_X15_bodyPlain (l : Launch) (dC : Nat → ClassId) (dI : Nat → Nat → Nat) (cs : Nat → ClassId) (ty : TyM) (gm : Nat → Nat → Nat) (L : List Nat) (sz : Nat) (F : Nat → va_E) (h0 : Nat) (ρ : Nat) (ta : Nat) (ou : Nat) (so : Nat) (ad : Nat) (na : Nat) (va : Nat) (lc : Nat) (dm : Nat) (tg : Nat) (pe : Nat) (ml : Nat) (bg : Nat) (co : Nat) (sp : Nat) (nb0 : Nat) (nb1 : Nat) (nb2 : Nat) (pl : Nat) (se : Nat) (ke : Nat) (wi : Nat) (hs : Nat) (mo : Nat) (po : Nat) (nu : Nat) (pr : Nat) (sq : Nat) (xa : Nat) (sa : Nat) (n64 : Nat) (m64 : Nat) (ex : Nat) (wh : Nat) (sd : Nat) (tk : Nat) (hd : Nat) (ak : Nat) (ho : Nat) (ot : Nat) (sx : Nat) (s0 : Nat) (s1 : Nat) (s2 : Nat) (nf : Nat) (bd : Nat) (mm : Nat) (fm : Nat) (sn : Nat) (hg : Nat) (gc : Nat) (gv : Nat) (ze : Nat) (zt : Nat) (rl : Nat) (x1 : Int32) (hW : WTm ty gm L) (hL_h0 : h0 ∈ L) (hT_h0 : ty h0 = (15, ρ, [ta, ou, so, ad, na, va, lc, dm, tg, pe, ml, bg, co, sp, nb0, nb1, nb2, pl, se, ke, wi, hs, mo, po, nu, pr, sq, xa, sa, n64, m64, ex, wh, sd, tk, hd, ak, ho, ot, sx, s0, s1, s2, nf, bd, mm, fm, sn, hg, gc, gv, ze, zt])) (hL_pl : pl ∈ L) (hT_pl : ty pl = (14, ρ + 10, [rl, 6000])) (hbd : 1 ≤ bd) : Met l yX15_bodyPlain (.code yX15_bodyPlain cX15_bodyPlain 9 none :: tb) ({ frames := 2, cells := 0, slots := 0, locals := 44 }) (va_Pc [.ref h0, .int x1] (PTm (dC, dI) cs ty gm L F sz)) (va_Qv (fun _ : Unit => True) (fun _ T9 => ∃ F2 : Nat → va_E, QTm (dC, dI) cs ty gm L [ρ + 10] F F2 (va_A (va_pl L F) sz) T9) (va_A (va_pl L F) sz)) 0 0 (va_A (va_pl L F) sz) := by
  refine Met.ofW (cc := cX15_bodyPlain) (maxL := 9) (ret := none) (by decide) rfl ?_
  intro p e s m args below meth c s₁ B hml hv
  obtain ⟨rfl, hsz, hP, hK, hD0, hE, hO⟩ := hv
  have hx := B.exec
  have hb := B.bytes
  have hr := B.returns
  have hts : ∀ w ∈ tb, w.before _ s = true := fun w h => atoms_spec (ws := .code yX15_bodyPlain cX15_bodyPlain 9 none :: tb) B.pre w (List.mem_cons_of_mem _ h)
  have hown : s.vm.findClass RX15 = some m.cls := findClass_of_methodNamed B.named
  have hlocks := B.notSynchronized
  subst hsz
  have hD := hD0.self (sz := s.heap.size)
  generalize hAe : va_A (va_pl L F) s.heap.size = A at hD ⊢
  have hA : ∀ q : Nat, s.heap.size ≤ q → A q := fun q h => by rw [← hAe]; exact Or.inr h
  have hS : va_S A s.heap s.heap [] := va_S.rf
  have hR : FR ty [ρ + 10] F F := FR.refl
  have hl := lv_entry ([.ref h0, .int x1]) (n := 9) (Nat.le_of_ble_eq_true rfl)
  rw [lg_entry_eq]
  generalize (lg_sl ([.ref h0, .int x1]) ++ List.replicate (9 - (lg_sl ([.ref h0, .int x1])).length) Slot.unset).toArray = ls at hl ⊢
  have hl : lv_has ls 9 [(0, .ref h0), (1, .int x1)] := hl
  obtain ⟨hq_22, hq_23, hq_24, hq_25, hq_26, hgO, hgA, hgB, hq_27⟩ := hW.sc hL_h0 hT_h0
  obtain ⟨hi_28, ht_29, hq_30⟩ := hW.txt hL_pl hT_pl
  refine lv_aload_n hx hb dX15_bodyPlain_0 rfl (lv_at hl 0 rfl) ?_
  obtain ⟨zo_31, v14_32, v15_33, v17_34, v18_35, v19_36, v20_37, v21_38, v22_39, v33_40, v52_41, v53_42, v54_43, hF_44, hq_45, hq_46, hq_47, hq_48, hq_49⟩ := hO.mod hL_h0 hT_h0
  refine pg_get (ci := 15) (v := .ref pl) (C := RX15) (T := TX15) (N := 59) hx hb hts it_15 hown hK hP hL_h0 hF_44 rfl 34 (by decide) (hts _ kt_901) (fun _ h9 => h9) rfl dX15_bodyPlain_1 ?_
  refine lv_iconst (v := 0) hx hb dX15_bodyPlain_4 (by decide) ?_
  obtain ⟨z_50, hF_51, hq_52⟩ := hO.txt hL_pl hT_pl
  refine pg_put (ci := 14) (v := .int 0) (ty := .int) (C := RX14) (T := TX14) (N := 2) hx hb hts it_14 tyX14 tyX14_ok nmX14 hown hK hP hD hS hL_pl hF_51 rfl 1 (by decide) (hts _ kt_709) (fun _ h9 => h9) rfl (by decide +kernel) (rfl) (rfl) (Nat.le_of_ble_eq_true rfl) dX15_bodyPlain_5 (fun H locs hP hD hS => ?_)
  obtain ⟨F_53, he_54, hP, hD, hO, hR⟩ : ∃ G, G = va_up F pl (.inr (14, [.ref rl, .int 0])) ∧ va_P (dC, dI) vwCl (va_pl L G) H ∧ va_D A (va_pl L G) ∧ OKm cs ty gm L G ∧ FR ty [ρ + 10] F G := ⟨_, rfl, hP, hD, hO.up (shm.txt hT_pl ⟨0, rfl, (by first | omega | assumption | exact Or.inl rfl | exact Or.inr rfl)⟩), hR.up hT_pl (by simp)⟩
  have hF_55 : F_53 pl = .inr (14, [.ref rl, .int 0]) := by rw [he_54]; exact up_self
  have hF_56 : F_53 h0 = .inr (15, (.ref ta) :: (.int (nI zt)) :: (.int (nI zo_31)) :: (.int (nI ze)) :: (.ref ou) :: (.ref so) :: (.ref ad) :: (.ref na) :: (.ref va) :: (.ref lc) :: (.ref dm) :: (.int (nI fm)) :: (.int (nI sn)) :: (.ref tg) :: (.int v14_32) :: (.int v15_33) :: (.ref pe) :: (.int v17_34) :: (.int v18_35) :: (.int v19_36) :: (.int v20_37) :: (.int v21_38) :: (.int v22_39) :: (.ref ml) :: (.ref bg) :: (.ref co) :: (.ref sp) :: (.ref nb0) :: (.ref nb1) :: (.ref nb2) :: (.int (nI nf)) :: (.int (nI bd)) :: (.int (nI mm)) :: (.int v33_40) :: (.ref pl) :: (.ref se) :: (.ref ke) :: (.ref wi) :: (.ref hs) :: (.ref mo) :: (.ref po) :: (.ref nu) :: (.ref pr) :: (.ref sq) :: (.ref xa) :: (.ref sa) :: (.ref n64) :: (.ref m64) :: (.ref ex) :: (.ref wh) :: (.ref sd) :: (.ref tk) :: (.int v52_41) :: (.int v53_42) :: (.int v54_43) :: (.ref hd) :: (.ref ak) :: (.ref ho) :: (.ref ot) :: []) := by rw [he_54, up_ne (ne_ty hT_h0 hT_pl (by simp))]; exact hF_44
  refine lv_iconst (v := 0) hx hb dX15_bodyPlain_8 (by decide) ?_
  refine lv_istore_n (lv' := [(2, .int 0), (0, .ref h0), (1, .int x1)]) hx hb dX15_bodyPlain_9 rfl hl (by decide) rfl (fun ls hl => ?_)
  refine lv_aload_n hx hb dX15_bodyPlain_10 rfl (lv_at hl 1 rfl) ?_
  refine pg_get (ci := 15) (v := .int (nI bd)) (C := RX15) (T := TX15) (N := 59) hx hb hts it_15 hown hK hP hL_h0 hF_56 rfl 31 (by decide) (hts _ kt_902) (fun _ h9 => h9) rfl dX15_bodyPlain_11 ?_
  refine lv_istore_n (lv' := [(3, .int (nI bd)), (2, .int 0), (0, .ref h0), (1, .int x1)]) hx hb dX15_bodyPlain_14 rfl hl (by decide) rfl (fun ls hl => ?_)
  refine W.widen (k := 0) (n := 0) (by omega) (by omega) ?_
  have hF_58 : F h0 = .inr (15, (.ref ta) :: (.int (nI zt)) :: (.int (nI zo_31)) :: (.int (nI ze)) :: (.ref ou) :: (.ref so) :: (.ref ad) :: (.ref na) :: (.ref va) :: (.ref lc) :: (.ref dm) :: (.int (nI fm)) :: (.int (nI sn)) :: (.ref tg) :: (.int v14_32) :: (.int v15_33) :: (.ref pe) :: (.int v17_34) :: (.int v18_35) :: (.int v19_36) :: (.int v20_37) :: (.int v21_38) :: (.int v22_39) :: (.ref ml) :: (.ref bg) :: (.ref co) :: (.ref sp) :: (.ref nb0) :: (.ref nb1) :: (.ref nb2) :: (.int (nI nf)) :: (.int (nI bd)) :: (.int (nI mm)) :: (.int v33_40) :: (.ref pl) :: (.ref se) :: (.ref ke) :: (.ref wi) :: (.ref hs) :: (.ref mo) :: (.ref po) :: (.ref nu) :: (.ref pr) :: (.ref sq) :: (.ref xa) :: (.ref sa) :: (.ref n64) :: (.ref m64) :: (.ref ex) :: (.ref wh) :: (.ref sd) :: (.ref tk) :: (.int v52_41) :: (.int v53_42) :: (.int v54_43) :: (.ref hd) :: (.ref ak) :: (.ref ho) :: (.ref ot) :: []) := (hR h0 (by rw [hT_h0]; simp)).symm.trans hF_56
  refine pl_loopm (σ := Nat × Nat × Nat) A (dC, dI) cs ty gm L [ρ + 10] F 15 9 (fun (j, w2, zz) => [(3, .int (nI j)), (2, .int (nI w2)), (0, .ref h0), (1, .int x1)]) (fun (j, w2, zz) => []) (fun (j, w2, zz) FF => (bd ≤ j ∧ j ≤ mm) ∧ zz ≤ 2 * (j - bd) ∧ w2 ≤ 2 * (j - bd) ∧ FF pl = .inr (14, [.ref rl, .int (nI zz)])) (fun (j, w2, zz) => mm - j) ?_ (bd, 0, 0) F_53 (⟨⟨by omega, by omega⟩, by omega, by omega, hF_55⟩) hO hR _ _ hP hD hS ls (lv_sub hl [0, 1, 2, 3] rfl)
  rintro ⟨j, w2, zz⟩ F_57 hv_59 hO hR ih_60 H locs hP hD hS ls hl
  have hl : lv_has ls 9 [(3, .int (nI j)), (2, .int (nI w2)), (0, .ref h0), (1, .int x1)] := hl
  have hv_59 : (bd ≤ j ∧ j ≤ mm) ∧ zz ≤ 2 * (j - bd) ∧ w2 ≤ 2 * (j - bd) ∧ F_57 pl = .inr (14, [.ref rl, .int (nI zz)]) := hv_59
  refine W.eq (g2 := F0 m 15 ls []) rfl ?_
  have hF_61 : F_57 h0 = .inr (15, (.ref ta) :: (.int (nI zt)) :: (.int (nI zo_31)) :: (.int (nI ze)) :: (.ref ou) :: (.ref so) :: (.ref ad) :: (.ref na) :: (.ref va) :: (.ref lc) :: (.ref dm) :: (.int (nI fm)) :: (.int (nI sn)) :: (.ref tg) :: (.int v14_32) :: (.int v15_33) :: (.ref pe) :: (.int v17_34) :: (.int v18_35) :: (.int v19_36) :: (.int v20_37) :: (.int v21_38) :: (.int v22_39) :: (.ref ml) :: (.ref bg) :: (.ref co) :: (.ref sp) :: (.ref nb0) :: (.ref nb1) :: (.ref nb2) :: (.int (nI nf)) :: (.int (nI bd)) :: (.int (nI mm)) :: (.int v33_40) :: (.ref pl) :: (.ref se) :: (.ref ke) :: (.ref wi) :: (.ref hs) :: (.ref mo) :: (.ref po) :: (.ref nu) :: (.ref pr) :: (.ref sq) :: (.ref xa) :: (.ref sa) :: (.ref n64) :: (.ref m64) :: (.ref ex) :: (.ref wh) :: (.ref sd) :: (.ref tk) :: (.int v52_41) :: (.int v53_42) :: (.int v54_43) :: (.ref hd) :: (.ref ak) :: (.ref ho) :: (.ref ot) :: []) := (hR h0 (by rw [hT_h0]; simp)).trans hF_58
  obtain ⟨ha1, ha2, ha3, ha4⟩ := hv_59
  refine lv_iload_n hx hb dX15_bodyPlain_15 rfl (lv_at hl 0 rfl) ?_
  refine lv_aload_n hx hb dX15_bodyPlain_16 rfl (lv_at hl 2 rfl) ?_
  refine pg_get (ci := 15) (v := .int (nI mm)) (C := RX15) (T := TX15) (N := 59) hx hb hts it_15 hown hK hP hL_h0 hF_61 rfl 32 (by decide) (hts _ kt_903) (fun _ h9 => h9) rfl dX15_bodyPlain_17 ?_
  refine lv_icmp_ge (tgt := 218) hx hb dX15_bodyPlain_20 (by decide) (fun c_62 => ?_) (fun c_62 => ?_)
  ·
    have hi_63 : mm ≤ j := leN (N := mm) c_62
    refine lv_aload_n hx hb dX15_bodyPlain_218 rfl (lv_at hl 2 rfl) ?_
    refine pg_get (ci := 15) (v := .ref pl) (C := RX15) (T := TX15) (N := 59) hx hb hts it_15 hown hK hP hL_h0 hF_61 rfl 34 (by decide) (hts _ kt_901) (fun _ h9 => h9) rfl dX15_bodyPlain_219 ?_
    refine lv_iload_n hx hb dX15_bodyPlain_222 rfl (lv_at hl 1 rfl) ?_
    refine pg_put (ci := 14) (v := .int (nI w2)) (ty := .int) (C := RX14) (T := TX14) (N := 2) hx hb hts it_14 tyX14 tyX14_ok nmX14 hown hK hP hD hS hL_pl ha4 rfl 1 (by decide) (hts _ kt_709) (fun _ h9 => h9) rfl (by decide +kernel) (rfl) (rfl) (Nat.le_of_ble_eq_true rfl) dX15_bodyPlain_223 (fun H locs hP hD hS => ?_)
    obtain ⟨F_64, he_65, hP, hD, hO, hR⟩ : ∃ G, G = va_up F_57 pl (.inr (14, [.ref rl, .int (nI w2)])) ∧ va_P (dC, dI) vwCl (va_pl L G) H ∧ va_D A (va_pl L G) ∧ OKm cs ty gm L G ∧ FR ty [ρ + 10] F G := ⟨_, rfl, hP, hD, hO.up (shm.txt hT_pl ⟨w2, rfl, (by first | omega | assumption | exact Or.inl rfl | exact Or.inr rfl)⟩), hR.up hT_pl (by simp)⟩
    have hF_66 : F_64 pl = .inr (14, [.ref rl, .int (nI w2)]) := by rw [he_65]; exact up_self
    have hF_67 : F_64 h0 = .inr (15, (.ref ta) :: (.int (nI zt)) :: (.int (nI zo_31)) :: (.int (nI ze)) :: (.ref ou) :: (.ref so) :: (.ref ad) :: (.ref na) :: (.ref va) :: (.ref lc) :: (.ref dm) :: (.int (nI fm)) :: (.int (nI sn)) :: (.ref tg) :: (.int v14_32) :: (.int v15_33) :: (.ref pe) :: (.int v17_34) :: (.int v18_35) :: (.int v19_36) :: (.int v20_37) :: (.int v21_38) :: (.int v22_39) :: (.ref ml) :: (.ref bg) :: (.ref co) :: (.ref sp) :: (.ref nb0) :: (.ref nb1) :: (.ref nb2) :: (.int (nI nf)) :: (.int (nI bd)) :: (.int (nI mm)) :: (.int v33_40) :: (.ref pl) :: (.ref se) :: (.ref ke) :: (.ref wi) :: (.ref hs) :: (.ref mo) :: (.ref po) :: (.ref nu) :: (.ref pr) :: (.ref sq) :: (.ref xa) :: (.ref sa) :: (.ref n64) :: (.ref m64) :: (.ref ex) :: (.ref wh) :: (.ref sd) :: (.ref tk) :: (.int v52_41) :: (.int v53_42) :: (.int v54_43) :: (.ref hd) :: (.ref ak) :: (.ref ho) :: (.ref ot) :: []) := by rw [he_65, up_ne (ne_ty hT_h0 hT_pl (by simp))]; exact hF_61
    refine lv_iload_n hx hb dX15_bodyPlain_226 rfl (lv_at hl 1 rfl) ?_
    refine lv_if_ne (tgt := 243) hx hb dX15_bodyPlain_227 (by decide) (fun c_68 => ?_) (fun c_68 => ?_)
    ·
      have hi_69 : w2 ≠ 0 := fun q => c_68 (by rw [q]; rfl)
      refine W.widen (k := 0) (n := 0) (by omega) (by omega) ?_
      exact W.vret hx hb hr (fun t ht hWm => ⟨⟨(), rfl, trivial, ⟨F_64, QTm.mk ht hP hD hO hR⟩⟩, hS.F ht⟩) hS.2.2 dX15_bodyPlain_243
    ·
      have hi_70 : w2 = 0 := (nI_eq (a := w2) (b := 0) (by omega) (by omega)).mp c_68
      refine lv_iload_n hx hb dX15_bodyPlain_230 rfl (lv_at hl 3 rfl) ?_
      refine lv_if_ne (tgt := 243) hx hb dX15_bodyPlain_231 (by decide) (fun c_71 => ?_) (fun c_71 => ?_)
      ·
        refine W.widen (k := 0) (n := 0) (by omega) (by omega) ?_
        exact W.vret hx hb hr (fun t ht hWm => ⟨⟨(), rfl, trivial, ⟨F_64, QTm.mk ht hP hD hO hR⟩⟩, hS.F ht⟩) hS.2.2 dX15_bodyPlain_243
      ·
        refine lv_aload_n hx hb dX15_bodyPlain_234 rfl (lv_at hl 2 rfl) ?_
        refine pg_get (ci := 15) (v := .ref pl) (C := RX15) (T := TX15) (N := 59) hx hb hts it_15 hown hK hP hL_h0 hF_67 rfl 34 (by decide) (hts _ kt_901) (fun _ h9 => h9) rfl dX15_bodyPlain_235 ?_
        refine lv_bipush (v := 10) hx hb dX15_bodyPlain_238 (by decide) ?_
        have hFc := pg_free hD hS hA
        refine va_callv (va_runV (As := [.int 10]) (rest := []) ⟨hx, hb, hml, hown, hts⟩ (s_X14_add l dC dI cs ty gm L H.size F_64 pl (ρ + 10) rl 6000 w2 10 hW hL_pl hT_pl hF_66 (by first | omega | assumption | exact Or.inl rfl)) ⟨callB_of 1 hts (gi kt_711) rfl rfl rfl (hts _ kt_676) (hts _ kt_712) (by decide +kernel) ⟨Nat.le_of_ble_eq_true rfl, Nat.le_of_ble_eq_true rfl⟩, (hts _ kt_713), (hts _ kt_714)⟩ ⟨fun a U g mk q => ⟨q.1, PTm.calling q.2⟩, pg_recv hK hP hL_pl hF_66 (q := (RX14, TX14, 2)) rfl, fun U hU hWm => ⟨rfl, PTm.mk hU hWm hP hK hD hE hO⟩⟩ rfl rfl hl.1 rfl (lv_room (Nat.le_of_ble_eq_true rfl)) dX15_bodyPlain_240 ⟨by show _ + 0 ≤ 0; omega, by show _ + 0 ≤ 0; omega⟩) hS (fun q _ h => hFc q h) hFc (fun u t H1 locs ht hvm hw hB hz1 hk1 hS => ?_)
        obtain ⟨F_73, hB1, hq_74⟩ := hB
        obtain ⟨hP, hD, hO, hR⟩ := QTm.back hB1 ht hFc hR (fun q h => by simp only [List.mem_cons, List.not_mem_nil, or_false] at h ⊢; omega)
        have hF_75 : F_73 h0 = .inr (15, (.ref ta) :: (.int (nI zt)) :: (.int (nI zo_31)) :: (.int (nI ze)) :: (.ref ou) :: (.ref so) :: (.ref ad) :: (.ref na) :: (.ref va) :: (.ref lc) :: (.ref dm) :: (.int (nI fm)) :: (.int (nI sn)) :: (.ref tg) :: (.int v14_32) :: (.int v15_33) :: (.ref pe) :: (.int v17_34) :: (.int v18_35) :: (.int v19_36) :: (.int v20_37) :: (.int v21_38) :: (.int v22_39) :: (.ref ml) :: (.ref bg) :: (.ref co) :: (.ref sp) :: (.ref nb0) :: (.ref nb1) :: (.ref nb2) :: (.int (nI nf)) :: (.int (nI bd)) :: (.int (nI mm)) :: (.int v33_40) :: (.ref pl) :: (.ref se) :: (.ref ke) :: (.ref wi) :: (.ref hs) :: (.ref mo) :: (.ref po) :: (.ref nu) :: (.ref pr) :: (.ref sq) :: (.ref xa) :: (.ref sa) :: (.ref n64) :: (.ref m64) :: (.ref ex) :: (.ref wh) :: (.ref sd) :: (.ref tk) :: (.int v52_41) :: (.int v53_42) :: (.int v54_43) :: (.ref hd) :: (.ref ak) :: (.ref ho) :: (.ref ot) :: []) := (hB1.2.2.2 h0 (by rw [hT_h0]; simp)).trans hF_67
        generalize H1 = H at hP hS ⊢
        refine W.widen (k := 0) (n := 0) (by omega) (by omega) ?_
        exact W.vret hx hb hr (fun t ht hWm => ⟨⟨(), rfl, trivial, ⟨F_73, QTm.mk ht hP hD hO hR⟩⟩, hS.F ht⟩) hS.2.2 dX15_bodyPlain_243
  ·
    have hi_76 : j < mm := ltN (N := mm) c_62
    refine lv_aload_n hx hb dX15_bodyPlain_23 rfl (lv_at hl 2 rfl) ?_
    refine pg_get (ci := 15) (v := .ref ml) (C := RX15) (T := TX15) (N := 59) hx hb hts it_15 hown hK hP hL_h0 hF_61 rfl 23 (by decide) (hts _ kt_887) (fun _ h9 => h9) rfl dX15_bodyPlain_24 ?_
    refine lv_iload_n hx hb dX15_bodyPlain_27 rfl (lv_at hl 0 rfl) ?_
    refine lv_aload_n hx hb dX15_bodyPlain_28 rfl (lv_at hl 2 rfl) ?_
    refine pg_get (ci := 15) (v := .int (nI mm)) (C := RX15) (T := TX15) (N := 59) hx hb hts it_15 hown hK hP hL_h0 hF_61 rfl 32 (by decide) (hts _ kt_903) (fun _ h9 => h9) rfl dX15_bodyPlain_29 ?_
    obtain ⟨hi_77, ht_78⟩ := hW.f_ml hL_h0 hT_h0
    obtain ⟨hq_79, hq_80⟩ := hW.octs hi_77 ht_78
    have hFc := pg_free hD hS hA
    refine va_calli (va_runS (As := [.ref ml, .int (nI j), .int (nI mm)]) (rest := []) ⟨hx, hb, hml, hown, hts⟩ (s_X15_lineEnd l dC dI cs ty gm L H.size F_57 ml (ρ + 8) 3000 j mm hW hi_77 ht_78 (by first | omega | assumption | exact Or.inl rfl) (by first | omega | assumption | exact Or.inl rfl)) ⟨callB_of 3 hts (gi kt_904) rfl rfl rfl (hts _ kt_669) (hts _ kt_905) (by decide +kernel) ⟨Nat.le_of_ble_eq_true rfl, Nat.le_of_ble_eq_true rfl⟩, (hts _ kt_906)⟩ ⟨fun a U g mk q => ⟨q.1, PTm.calling q.2⟩, fun U hU hWm => ⟨rfl, PTm.mk hU hWm hP hK hD hE hO⟩⟩ rfl rfl hl.1 rfl (lv_room (Nat.le_of_ble_eq_true rfl)) dX15_bodyPlain_32 ⟨by show _ + 0 ≤ 0; omega, by show _ + 0 ≤ 0; omega⟩) hS (fun q _ h => hFc q h) hFc (fun r_81 u t H1 locs ht hvm hw hB hz1 hk1 hS => ?_)
    obtain ⟨F_82, hB1⟩ := hB
    obtain rfl : F_57 = F_82 := (funext (fun a => hB1.2.2.2 a List.not_mem_nil)).symm
    obtain ⟨hP, hD, hO, hR⟩ := QTm.back hB1 ht hFc hR (fun q h => absurd h List.not_mem_nil)
    generalize H1 = H at hP hS ⊢
    have hw : (∃ k : Nat, j < k ∧ k ≤ mm ∧ r_81 = nI k) := hw
    have hw_83 := hw
    obtain ⟨kend, hke1, hke2, eke⟩ := hw_83
    subst eke
    refine lv_istore (lv' := [(4, .int (nI kend)), (3, .int (nI j)), (2, .int (nI w2)), (0, .ref h0), (1, .int x1)]) hx hb dX15_bodyPlain_35 hl (by decide) rfl (fun ls hl => ?_)
    have hF_86 : F h0 = .inr (15, (.ref ta) :: (.int (nI zt)) :: (.int (nI zo_31)) :: (.int (nI ze)) :: (.ref ou) :: (.ref so) :: (.ref ad) :: (.ref na) :: (.ref va) :: (.ref lc) :: (.ref dm) :: (.int (nI fm)) :: (.int (nI sn)) :: (.ref tg) :: (.int v14_32) :: (.int v15_33) :: (.ref pe) :: (.int v17_34) :: (.int v18_35) :: (.int v19_36) :: (.int v20_37) :: (.int v21_38) :: (.int v22_39) :: (.ref ml) :: (.ref bg) :: (.ref co) :: (.ref sp) :: (.ref nb0) :: (.ref nb1) :: (.ref nb2) :: (.int (nI nf)) :: (.int (nI bd)) :: (.int (nI mm)) :: (.int v33_40) :: (.ref pl) :: (.ref se) :: (.ref ke) :: (.ref wi) :: (.ref hs) :: (.ref mo) :: (.ref po) :: (.ref nu) :: (.ref pr) :: (.ref sq) :: (.ref xa) :: (.ref sa) :: (.ref n64) :: (.ref m64) :: (.ref ex) :: (.ref wh) :: (.ref sd) :: (.ref tk) :: (.int v52_41) :: (.int v53_42) :: (.int v54_43) :: (.ref hd) :: (.ref ak) :: (.ref ho) :: (.ref ot) :: []) := (hR h0 (by rw [hT_h0]; simp)).symm.trans hF_61
    refine W.widen (k := 0) (n := 0) (by omega) (by omega) ?_
    refine pl_cutm (σ := Int32) A (dC, dI) cs ty gm L [ρ + 10] F 60 9 (fun s5 => [(4, .int (nI kend)), (3, .int (nI j)), (2, .int (nI w2)), (0, .ref h0), (1, .int x1)]) (fun s5 => [.int s5]) (fun s5 FF => (∃ k : Nat, j ≤ k ∧ k ≤ kend ∧ s5 = nI k) ∧ FF pl = .inr (14, [.ref rl, .int (nI zz)])) ?_ (fun jn_84 => ?_)
    ·
      rintro s5 F_85 hv_87 hO hR H locs hP hD hS ls hl
      have hl : lv_has ls 9 [(4, .int (nI kend)), (3, .int (nI j)), (2, .int (nI w2)), (0, .ref h0), (1, .int x1)] := hl
      have hv_87 : (∃ k : Nat, j ≤ k ∧ k ≤ kend ∧ s5 = nI k) ∧ F_85 pl = .inr (14, [.ref rl, .int (nI zz)]) := hv_87
      refine W.eq (g2 := F0 m 60 ls [.int s5]) rfl ?_
      have hF_88 : F_85 h0 = .inr (15, (.ref ta) :: (.int (nI zt)) :: (.int (nI zo_31)) :: (.int (nI ze)) :: (.ref ou) :: (.ref so) :: (.ref ad) :: (.ref na) :: (.ref va) :: (.ref lc) :: (.ref dm) :: (.int (nI fm)) :: (.int (nI sn)) :: (.ref tg) :: (.int v14_32) :: (.int v15_33) :: (.ref pe) :: (.int v17_34) :: (.int v18_35) :: (.int v19_36) :: (.int v20_37) :: (.int v21_38) :: (.int v22_39) :: (.ref ml) :: (.ref bg) :: (.ref co) :: (.ref sp) :: (.ref nb0) :: (.ref nb1) :: (.ref nb2) :: (.int (nI nf)) :: (.int (nI bd)) :: (.int (nI mm)) :: (.int v33_40) :: (.ref pl) :: (.ref se) :: (.ref ke) :: (.ref wi) :: (.ref hs) :: (.ref mo) :: (.ref po) :: (.ref nu) :: (.ref pr) :: (.ref sq) :: (.ref xa) :: (.ref sa) :: (.ref n64) :: (.ref m64) :: (.ref ex) :: (.ref wh) :: (.ref sd) :: (.ref tk) :: (.int v52_41) :: (.int v53_42) :: (.int v54_43) :: (.ref hd) :: (.ref ak) :: (.ref ho) :: (.ref ot) :: []) := (hR h0 (by rw [hT_h0]; simp)).trans hF_86
      obtain ⟨⟨ks, hks1, hks2, eks⟩, hks3⟩ := hv_87
      subst eks
      refine W.eq (g2 := F0 m 60 ls [.int (nI ks)]) rfl ?_
      refine lv_istore (lv' := [(5, .int (nI ks)), (4, .int (nI kend)), (3, .int (nI j)), (2, .int (nI w2)), (0, .ref h0), (1, .int x1)]) hx hb dX15_bodyPlain_60 hl (by decide) rfl (fun ls hl => ?_)
      have hF_91 : F h0 = .inr (15, (.ref ta) :: (.int (nI zt)) :: (.int (nI zo_31)) :: (.int (nI ze)) :: (.ref ou) :: (.ref so) :: (.ref ad) :: (.ref na) :: (.ref va) :: (.ref lc) :: (.ref dm) :: (.int (nI fm)) :: (.int (nI sn)) :: (.ref tg) :: (.int v14_32) :: (.int v15_33) :: (.ref pe) :: (.int v17_34) :: (.int v18_35) :: (.int v19_36) :: (.int v20_37) :: (.int v21_38) :: (.int v22_39) :: (.ref ml) :: (.ref bg) :: (.ref co) :: (.ref sp) :: (.ref nb0) :: (.ref nb1) :: (.ref nb2) :: (.int (nI nf)) :: (.int (nI bd)) :: (.int (nI mm)) :: (.int v33_40) :: (.ref pl) :: (.ref se) :: (.ref ke) :: (.ref wi) :: (.ref hs) :: (.ref mo) :: (.ref po) :: (.ref nu) :: (.ref pr) :: (.ref sq) :: (.ref xa) :: (.ref sa) :: (.ref n64) :: (.ref m64) :: (.ref ex) :: (.ref wh) :: (.ref sd) :: (.ref tk) :: (.int v52_41) :: (.int v53_42) :: (.int v54_43) :: (.ref hd) :: (.ref ak) :: (.ref ho) :: (.ref ot) :: []) := (hR h0 (by rw [hT_h0]; simp)).symm.trans hF_88
      refine W.widen (k := 0) (n := 0) (by omega) (by omega) ?_
      refine pl_cutm (σ := Int32) A (dC, dI) cs ty gm L [ρ + 10] F 93 9 (fun s6 => [(5, .int s6), (4, .int (nI kend)), (3, .int (nI j)), (2, .int (nI w2)), (0, .ref h0), (1, .int x1)]) (fun s6 => []) (fun s6 FF => (∃ k : Nat, j ≤ k ∧ k ≤ kend ∧ s6 = nI k) ∧ FF pl = .inr (14, [.ref rl, .int (nI zz)])) ?_ (fun jn_89 => ?_)
      ·
        rintro s6 F_90 hv_92 hO hR H locs hP hD hS ls hl
        have hl : lv_has ls 9 [(5, .int s6), (4, .int (nI kend)), (3, .int (nI j)), (2, .int (nI w2)), (0, .ref h0), (1, .int x1)] := hl
        have hv_92 : (∃ k : Nat, j ≤ k ∧ k ≤ kend ∧ s6 = nI k) ∧ F_90 pl = .inr (14, [.ref rl, .int (nI zz)]) := hv_92
        refine W.eq (g2 := F0 m 93 ls []) rfl ?_
        have hF_93 : F_90 h0 = .inr (15, (.ref ta) :: (.int (nI zt)) :: (.int (nI zo_31)) :: (.int (nI ze)) :: (.ref ou) :: (.ref so) :: (.ref ad) :: (.ref na) :: (.ref va) :: (.ref lc) :: (.ref dm) :: (.int (nI fm)) :: (.int (nI sn)) :: (.ref tg) :: (.int v14_32) :: (.int v15_33) :: (.ref pe) :: (.int v17_34) :: (.int v18_35) :: (.int v19_36) :: (.int v20_37) :: (.int v21_38) :: (.int v22_39) :: (.ref ml) :: (.ref bg) :: (.ref co) :: (.ref sp) :: (.ref nb0) :: (.ref nb1) :: (.ref nb2) :: (.int (nI nf)) :: (.int (nI bd)) :: (.int (nI mm)) :: (.int v33_40) :: (.ref pl) :: (.ref se) :: (.ref ke) :: (.ref wi) :: (.ref hs) :: (.ref mo) :: (.ref po) :: (.ref nu) :: (.ref pr) :: (.ref sq) :: (.ref xa) :: (.ref sa) :: (.ref n64) :: (.ref m64) :: (.ref ex) :: (.ref wh) :: (.ref sd) :: (.ref tk) :: (.int v52_41) :: (.int v53_42) :: (.int v54_43) :: (.ref hd) :: (.ref ak) :: (.ref ho) :: (.ref ot) :: []) := (hR h0 (by rw [hT_h0]; simp)).trans hF_91
        obtain ⟨⟨kt, hkt1, hkt2, ekt⟩, hkt3⟩ := hv_92
        subst ekt
        have hF_96 : F h0 = .inr (15, (.ref ta) :: (.int (nI zt)) :: (.int (nI zo_31)) :: (.int (nI ze)) :: (.ref ou) :: (.ref so) :: (.ref ad) :: (.ref na) :: (.ref va) :: (.ref lc) :: (.ref dm) :: (.int (nI fm)) :: (.int (nI sn)) :: (.ref tg) :: (.int v14_32) :: (.int v15_33) :: (.ref pe) :: (.int v17_34) :: (.int v18_35) :: (.int v19_36) :: (.int v20_37) :: (.int v21_38) :: (.int v22_39) :: (.ref ml) :: (.ref bg) :: (.ref co) :: (.ref sp) :: (.ref nb0) :: (.ref nb1) :: (.ref nb2) :: (.int (nI nf)) :: (.int (nI bd)) :: (.int (nI mm)) :: (.int v33_40) :: (.ref pl) :: (.ref se) :: (.ref ke) :: (.ref wi) :: (.ref hs) :: (.ref mo) :: (.ref po) :: (.ref nu) :: (.ref pr) :: (.ref sq) :: (.ref xa) :: (.ref sa) :: (.ref n64) :: (.ref m64) :: (.ref ex) :: (.ref wh) :: (.ref sd) :: (.ref tk) :: (.int v52_41) :: (.int v53_42) :: (.int v54_43) :: (.ref hd) :: (.ref ak) :: (.ref ho) :: (.ref ot) :: []) := (hR h0 (by rw [hT_h0]; simp)).symm.trans hF_93
        refine W.widen (k := 0) (n := 0) (by omega) (by omega) ?_
        refine pl_cutm (σ := Int32) A (dC, dI) cs ty gm L [ρ + 10] F 104 9 (fun s7 => [(5, .int (nI kt)), (4, .int (nI kend)), (3, .int (nI j)), (2, .int (nI w2)), (0, .ref h0), (1, .int x1)]) (fun s7 => [.int s7]) (fun s7 FF => FF pl = .inr (14, [.ref rl, .int (nI zz)])) ?_ (fun jn_94 => ?_)
        ·
          rintro s7 F_95 hv_97 hO hR H locs hP hD hS ls hl
          have hl : lv_has ls 9 [(5, .int (nI kt)), (4, .int (nI kend)), (3, .int (nI j)), (2, .int (nI w2)), (0, .ref h0), (1, .int x1)] := hl
          have hv_97 : F_95 pl = .inr (14, [.ref rl, .int (nI zz)]) := hv_97
          refine W.eq (g2 := F0 m 104 ls [.int s7]) rfl ?_
          have hF_98 : F_95 h0 = .inr (15, (.ref ta) :: (.int (nI zt)) :: (.int (nI zo_31)) :: (.int (nI ze)) :: (.ref ou) :: (.ref so) :: (.ref ad) :: (.ref na) :: (.ref va) :: (.ref lc) :: (.ref dm) :: (.int (nI fm)) :: (.int (nI sn)) :: (.ref tg) :: (.int v14_32) :: (.int v15_33) :: (.ref pe) :: (.int v17_34) :: (.int v18_35) :: (.int v19_36) :: (.int v20_37) :: (.int v21_38) :: (.int v22_39) :: (.ref ml) :: (.ref bg) :: (.ref co) :: (.ref sp) :: (.ref nb0) :: (.ref nb1) :: (.ref nb2) :: (.int (nI nf)) :: (.int (nI bd)) :: (.int (nI mm)) :: (.int v33_40) :: (.ref pl) :: (.ref se) :: (.ref ke) :: (.ref wi) :: (.ref hs) :: (.ref mo) :: (.ref po) :: (.ref nu) :: (.ref pr) :: (.ref sq) :: (.ref xa) :: (.ref sa) :: (.ref n64) :: (.ref m64) :: (.ref ex) :: (.ref wh) :: (.ref sd) :: (.ref tk) :: (.int v52_41) :: (.int v53_42) :: (.int v54_43) :: (.ref hd) :: (.ref ak) :: (.ref ho) :: (.ref ot) :: []) := (hR h0 (by rw [hT_h0]; simp)).trans hF_96
          refine lv_istore (lv' := [(6, .int s7), (5, .int (nI kt)), (4, .int (nI kend)), (3, .int (nI j)), (2, .int (nI w2)), (0, .ref h0), (1, .int x1)]) hx hb dX15_bodyPlain_104 hl (by decide) rfl (fun ls hl => ?_)
          refine lv_iload_n hx hb dX15_bodyPlain_106 rfl (lv_at hl 3 rfl) ?_
          refine lv_istore (lv' := [(7, .int (nI j)), (6, .int s7), (5, .int (nI kt)), (4, .int (nI kend)), (3, .int (nI j)), (2, .int (nI w2)), (0, .ref h0), (1, .int x1)]) hx hb dX15_bodyPlain_107 hl (by decide) rfl (fun ls hl => ?_)
          refine W.widen (k := 0) (n := 0) (by omega) (by omega) ?_
          have hF_100 : F h0 = .inr (15, (.ref ta) :: (.int (nI zt)) :: (.int (nI zo_31)) :: (.int (nI ze)) :: (.ref ou) :: (.ref so) :: (.ref ad) :: (.ref na) :: (.ref va) :: (.ref lc) :: (.ref dm) :: (.int (nI fm)) :: (.int (nI sn)) :: (.ref tg) :: (.int v14_32) :: (.int v15_33) :: (.ref pe) :: (.int v17_34) :: (.int v18_35) :: (.int v19_36) :: (.int v20_37) :: (.int v21_38) :: (.int v22_39) :: (.ref ml) :: (.ref bg) :: (.ref co) :: (.ref sp) :: (.ref nb0) :: (.ref nb1) :: (.ref nb2) :: (.int (nI nf)) :: (.int (nI bd)) :: (.int (nI mm)) :: (.int v33_40) :: (.ref pl) :: (.ref se) :: (.ref ke) :: (.ref wi) :: (.ref hs) :: (.ref mo) :: (.ref po) :: (.ref nu) :: (.ref pr) :: (.ref sq) :: (.ref xa) :: (.ref sa) :: (.ref n64) :: (.ref m64) :: (.ref ex) :: (.ref wh) :: (.ref sd) :: (.ref tk) :: (.int v52_41) :: (.int v53_42) :: (.int v54_43) :: (.ref hd) :: (.ref ak) :: (.ref ho) :: (.ref ot) :: []) := (hR h0 (by rw [hT_h0]; simp)).symm.trans hF_98
          refine pl_loopm (σ := Nat × Nat) A (dC, dI) cs ty gm L [ρ + 10] F 109 9 (fun (i, zw) => [(7, .int (nI i)), (6, .int s7), (5, .int (nI kt)), (4, .int (nI kend)), (3, .int (nI j)), (2, .int (nI w2)), (0, .ref h0), (1, .int x1)]) (fun (i, zw) => []) (fun (i, zw) FF => (j ≤ i ∧ i ≤ kt) ∧ zw ≤ 2 * (j - bd) + (i - j) ∧ FF pl = .inr (14, [.ref rl, .int (nI zw)])) (fun (i, zw) => kt - i) ?_ (j, zz) F_95 (⟨⟨by omega, by omega⟩, by omega, hv_97⟩) hO hR _ _ hP hD hS ls (lv_sub hl [0, 1, 2, 3, 4, 5, 6, 7] rfl)
          rintro ⟨i, zw⟩ F_99 hv_101 hO hR ih_102 H locs hP hD hS ls hl
          have hl : lv_has ls 9 [(7, .int (nI i)), (6, .int s7), (5, .int (nI kt)), (4, .int (nI kend)), (3, .int (nI j)), (2, .int (nI w2)), (0, .ref h0), (1, .int x1)] := hl
          have hv_101 : (j ≤ i ∧ i ≤ kt) ∧ zw ≤ 2 * (j - bd) + (i - j) ∧ F_99 pl = .inr (14, [.ref rl, .int (nI zw)]) := hv_101
          refine W.eq (g2 := F0 m 109 ls []) rfl ?_
          have hF_103 : F_99 h0 = .inr (15, (.ref ta) :: (.int (nI zt)) :: (.int (nI zo_31)) :: (.int (nI ze)) :: (.ref ou) :: (.ref so) :: (.ref ad) :: (.ref na) :: (.ref va) :: (.ref lc) :: (.ref dm) :: (.int (nI fm)) :: (.int (nI sn)) :: (.ref tg) :: (.int v14_32) :: (.int v15_33) :: (.ref pe) :: (.int v17_34) :: (.int v18_35) :: (.int v19_36) :: (.int v20_37) :: (.int v21_38) :: (.int v22_39) :: (.ref ml) :: (.ref bg) :: (.ref co) :: (.ref sp) :: (.ref nb0) :: (.ref nb1) :: (.ref nb2) :: (.int (nI nf)) :: (.int (nI bd)) :: (.int (nI mm)) :: (.int v33_40) :: (.ref pl) :: (.ref se) :: (.ref ke) :: (.ref wi) :: (.ref hs) :: (.ref mo) :: (.ref po) :: (.ref nu) :: (.ref pr) :: (.ref sq) :: (.ref xa) :: (.ref sa) :: (.ref n64) :: (.ref m64) :: (.ref ex) :: (.ref wh) :: (.ref sd) :: (.ref tk) :: (.int v52_41) :: (.int v53_42) :: (.int v54_43) :: (.ref hd) :: (.ref ak) :: (.ref ho) :: (.ref ot) :: []) := (hR h0 (by rw [hT_h0]; simp)).trans hF_100
          obtain ⟨hc1, hc2, hc3⟩ := hv_101
          refine lv_iload hx hb dX15_bodyPlain_109 (lv_at hl 0 rfl) ?_
          refine lv_iload hx hb dX15_bodyPlain_111 (lv_at hl 2 rfl) ?_
          refine lv_icmp_ge (tgt := 190) hx hb dX15_bodyPlain_113 (by decide) (fun c_104 => ?_) (fun c_104 => ?_)
          ·
            have hi_105 : kt ≤ i := leN (N := kt) c_104
            refine lv_aload_n hx hb dX15_bodyPlain_190 rfl (lv_at hl 6 rfl) ?_
            refine pg_get (ci := 15) (v := .ref pl) (C := RX15) (T := TX15) (N := 59) hx hb hts it_15 hown hK hP hL_h0 hF_103 rfl 34 (by decide) (hts _ kt_901) (fun _ h9 => h9) rfl dX15_bodyPlain_191 ?_
            refine lv_bipush (v := 10) hx hb dX15_bodyPlain_194 (by decide) ?_
            have hFc := pg_free hD hS hA
            refine va_callv (va_runV (As := [.int 10]) (rest := []) ⟨hx, hb, hml, hown, hts⟩ (s_X14_add l dC dI cs ty gm L H.size F_99 pl (ρ + 10) rl 6000 zw 10 hW hL_pl hT_pl hc3 (by first | omega | assumption | exact Or.inl rfl)) ⟨callB_of 1 hts (gi kt_711) rfl rfl rfl (hts _ kt_676) (hts _ kt_712) (by decide +kernel) ⟨Nat.le_of_ble_eq_true rfl, Nat.le_of_ble_eq_true rfl⟩, (hts _ kt_713), (hts _ kt_714)⟩ ⟨fun a U g mk q => ⟨q.1, PTm.calling q.2⟩, pg_recv hK hP hL_pl hc3 (q := (RX14, TX14, 2)) rfl, fun U hU hWm => ⟨rfl, PTm.mk hU hWm hP hK hD hE hO⟩⟩ rfl rfl hl.1 rfl (lv_room (Nat.le_of_ble_eq_true rfl)) dX15_bodyPlain_196 ⟨by show _ + 0 ≤ 0; omega, by show _ + 0 ≤ 0; omega⟩) hS (fun q _ h => hFc q h) hFc (fun u t H1 locs ht hvm hw hB hz1 hk1 hS => ?_)
            obtain ⟨F_107, hB1, hq_108⟩ := hB
            obtain ⟨hP, hD, hO, hR⟩ := QTm.back hB1 ht hFc hR (fun q h => by simp only [List.mem_cons, List.not_mem_nil, or_false] at h ⊢; omega)
            have hF_109 : F_107 h0 = .inr (15, (.ref ta) :: (.int (nI zt)) :: (.int (nI zo_31)) :: (.int (nI ze)) :: (.ref ou) :: (.ref so) :: (.ref ad) :: (.ref na) :: (.ref va) :: (.ref lc) :: (.ref dm) :: (.int (nI fm)) :: (.int (nI sn)) :: (.ref tg) :: (.int v14_32) :: (.int v15_33) :: (.ref pe) :: (.int v17_34) :: (.int v18_35) :: (.int v19_36) :: (.int v20_37) :: (.int v21_38) :: (.int v22_39) :: (.ref ml) :: (.ref bg) :: (.ref co) :: (.ref sp) :: (.ref nb0) :: (.ref nb1) :: (.ref nb2) :: (.int (nI nf)) :: (.int (nI bd)) :: (.int (nI mm)) :: (.int v33_40) :: (.ref pl) :: (.ref se) :: (.ref ke) :: (.ref wi) :: (.ref hs) :: (.ref mo) :: (.ref po) :: (.ref nu) :: (.ref pr) :: (.ref sq) :: (.ref xa) :: (.ref sa) :: (.ref n64) :: (.ref m64) :: (.ref ex) :: (.ref wh) :: (.ref sd) :: (.ref tk) :: (.int v52_41) :: (.int v53_42) :: (.int v54_43) :: (.ref hd) :: (.ref ak) :: (.ref ho) :: (.ref ot) :: []) := (hB1.2.2.2 h0 (by rw [hT_h0]; simp)).trans hF_103
            generalize H1 = H at hP hS ⊢
            refine lv_iload hx hb dX15_bodyPlain_199 (lv_at hl 1 rfl) ?_
            refine lv_if_eq (tgt := 212) hx hb dX15_bodyPlain_201 (by decide) (fun c_110 => ?_) (fun c_110 => ?_)
            ·
              refine lv_iload hx hb dX15_bodyPlain_212 (lv_at hl 3 rfl) ?_
              refine lv_istore_n (lv' := [(3, .int (nI kend)), (7, .int (nI i)), (6, .int s7), (5, .int (nI kt)), (4, .int (nI kend)), (2, .int (nI w2)), (0, .ref h0), (1, .int x1)]) hx hb dX15_bodyPlain_214 rfl hl (by decide) rfl (fun ls hl => ?_)
              refine lv_goto (tgt := 15) hx hb dX15_bodyPlain_215 (by decide) ?_
              refine W.widen (k := 0) (n := 0) (by omega) (by omega) ?_
              exact ih_60 (kend, w2, (zw + 1)) F_107 (⟨⟨by omega, by omega⟩, by omega, by omega, hq_108⟩) (by show mm - kend < mm - j; omega) hO hR _ _ hP hD hS ls (lv_sub hl [0, 5, 6, 7] rfl)
            ·
              refine lv_aload_n hx hb dX15_bodyPlain_204 rfl (lv_at hl 6 rfl) ?_
              refine pg_get (ci := 15) (v := .ref pl) (C := RX15) (T := TX15) (N := 59) hx hb hts it_15 hown hK hP hL_h0 hF_109 rfl 34 (by decide) (hts _ kt_901) (fun _ h9 => h9) rfl dX15_bodyPlain_205 ?_
              refine pg_get (ci := 14) (v := .int (nI (zw + 1))) (C := RX14) (T := TX14) (N := 2) hx hb hts it_14 hown hK hP hL_pl hq_108 rfl 1 (by decide) (hts _ kt_709) (fun _ h9 => h9) rfl dX15_bodyPlain_208 ?_
              refine lv_istore_n (lv' := [(2, .int (nI (zw + 1))), (7, .int (nI i)), (6, .int s7), (5, .int (nI kt)), (4, .int (nI kend)), (3, .int (nI j)), (0, .ref h0), (1, .int x1)]) hx hb dX15_bodyPlain_211 rfl hl (by decide) rfl (fun ls hl => ?_)
              refine lv_iload hx hb dX15_bodyPlain_212 (lv_at hl 4 rfl) ?_
              refine lv_istore_n (lv' := [(3, .int (nI kend)), (2, .int (nI (zw + 1))), (7, .int (nI i)), (6, .int s7), (5, .int (nI kt)), (4, .int (nI kend)), (0, .ref h0), (1, .int x1)]) hx hb dX15_bodyPlain_214 rfl hl (by decide) rfl (fun ls hl => ?_)
              refine lv_goto (tgt := 15) hx hb dX15_bodyPlain_215 (by decide) ?_
              refine W.widen (k := 0) (n := 0) (by omega) (by omega) ?_
              exact ih_60 (kend, (zw + 1), (zw + 1)) F_107 (⟨⟨by omega, by omega⟩, by omega, by omega, hq_108⟩) (by show mm - kend < mm - j; omega) hO hR _ _ hP hD hS ls (lv_sub hl [0, 1, 6, 7] rfl)
          ·
            have hi_111 : i < kt := ltN (N := kt) c_104
            refine lv_aload_n hx hb dX15_bodyPlain_116 rfl (lv_at hl 6 rfl) ?_
            refine pg_get (ci := 15) (v := .ref ml) (C := RX15) (T := TX15) (N := 59) hx hb hts it_15 hown hK hP hL_h0 hF_103 rfl 23 (by decide) (hts _ kt_887) (fun _ h9 => h9) rfl dX15_bodyPlain_117 ?_
            refine lv_iload hx hb dX15_bodyPlain_120 (lv_at hl 0 rfl) ?_
            obtain ⟨f_112, hF_113, hq_114⟩ := hO.octs hi_77 ht_78
            refine pg_bald hx hb hK hP hi_77 1 hF_113 rfl (vp_in_nI (by omega) (by omega)) dX15_bodyPlain_122 ?_
            refine lv_topi (fun x_115 ex_115 => ?_)
            obtain rfl : x_115 = f_112 i := ex_115.trans (congrArg f_112 (show ((nI i) : Int32).toNatClampNeg = i from nI_clamp (by omega)))
            have hFc := pg_free hD hS hA
            refine va_calli (va_runS (As := [.int (f_112 i)]) (rest := []) ⟨hx, hb, hml, hown, hts⟩ (s_X15_isWhite l dC dI cs ty gm L H.size F_99 (f_112 i) hW ) ⟨callB_of 1 hts (gi kt_715) rfl rfl rfl (hts _ kt_669) (hts _ kt_716) (by decide +kernel) ⟨Nat.le_of_ble_eq_true rfl, Nat.le_of_ble_eq_true rfl⟩, (hts _ kt_717)⟩ ⟨fun a U g mk q => ⟨q.1, PTm.calling q.2⟩, fun U hU hWm => ⟨rfl, PTm.mk hU hWm hP hK hD hE hO⟩⟩ rfl rfl hl.1 rfl (lv_room (Nat.le_of_ble_eq_true rfl)) dX15_bodyPlain_123 ⟨by show _ + 0 ≤ 0; omega, by show _ + 0 ≤ 0; omega⟩) hS (fun q _ h => hFc q h) hFc (fun r_116 u t H1 locs ht hvm hw hB hz1 hk1 hS => ?_)
            obtain ⟨F_117, hB1⟩ := hB
            obtain rfl : F_99 = F_117 := (funext (fun a => hB1.2.2.2 a List.not_mem_nil)).symm
            obtain ⟨hP, hD, hO, hR⟩ := QTm.back hB1 ht hFc hR (fun q h => absurd h List.not_mem_nil)
            generalize H1 = H at hP hS ⊢
            have hw : (r_116 = 0 ∨ r_116 = 1) := hw
            have hw_118 := hw
            refine lv_istore (lv' := [(8, .int r_116), (7, .int (nI i)), (6, .int s7), (5, .int (nI kt)), (4, .int (nI kend)), (3, .int (nI j)), (2, .int (nI w2)), (0, .ref h0), (1, .int x1)]) hx hb dX15_bodyPlain_126 hl (by decide) rfl (fun ls hl => ?_)
            refine lv_iload_n hx hb dX15_bodyPlain_128 rfl (lv_at hl 8 rfl) ?_
            refine lv_if_eq (tgt := 137) hx hb dX15_bodyPlain_129 (by decide) (fun c_119 => ?_) (fun c_119 => ?_)
            ·
              refine lv_aload_n hx hb dX15_bodyPlain_137 rfl (lv_at hl 7 rfl) ?_
              refine pg_get (ci := 15) (v := .ref pl) (C := RX15) (T := TX15) (N := 59) hx hb hts it_15 hown hK hP hL_h0 hF_103 rfl 34 (by decide) (hts _ kt_901) (fun _ h9 => h9) rfl dX15_bodyPlain_138 ?_
              refine lv_aload_n hx hb dX15_bodyPlain_141 rfl (lv_at hl 7 rfl) ?_
              refine pg_get (ci := 15) (v := .ref ml) (C := RX15) (T := TX15) (N := 59) hx hb hts it_15 hown hK hP hL_h0 hF_103 rfl 23 (by decide) (hts _ kt_887) (fun _ h9 => h9) rfl dX15_bodyPlain_142 ?_
              refine lv_iload hx hb dX15_bodyPlain_145 (lv_at hl 1 rfl) ?_
              refine pg_bald hx hb hK hP hi_77 1 hF_113 rfl (vp_in_nI (by omega) (by omega)) dX15_bodyPlain_147 ?_
              refine lv_topi (fun x_120 ex_120 => ?_)
              obtain rfl : x_120 = f_112 i := ex_120.trans (congrArg f_112 (show ((nI i) : Int32).toNatClampNeg = i from nI_clamp (by omega)))
              have hFc := pg_free hD hS hA
              refine va_callv (va_runV (As := [.int (f_112 i)]) (rest := []) ⟨hx, hb, hml, hown, hts⟩ (s_X14_add l dC dI cs ty gm L H.size F_99 pl (ρ + 10) rl 6000 zw (f_112 i) hW hL_pl hT_pl hc3 (by first | omega | assumption | exact Or.inl rfl)) ⟨callB_of 1 hts (gi kt_711) rfl rfl rfl (hts _ kt_676) (hts _ kt_712) (by decide +kernel) ⟨Nat.le_of_ble_eq_true rfl, Nat.le_of_ble_eq_true rfl⟩, (hts _ kt_713), (hts _ kt_714)⟩ ⟨fun a U g mk q => ⟨q.1, PTm.calling q.2⟩, pg_recv hK hP hL_pl hc3 (q := (RX14, TX14, 2)) rfl, fun U hU hWm => ⟨rfl, PTm.mk hU hWm hP hK hD hE hO⟩⟩ rfl rfl hl.1 rfl (lv_room (Nat.le_of_ble_eq_true rfl)) dX15_bodyPlain_148 ⟨by show _ + 0 ≤ 0; omega, by show _ + 0 ≤ 0; omega⟩) hS (fun q _ h => hFc q h) hFc (fun u t H1 locs ht hvm hw hB hz1 hk1 hS => ?_)
              obtain ⟨F_122, hB1, hq_123⟩ := hB
              obtain ⟨hP, hD, hO, hR⟩ := QTm.back hB1 ht hFc hR (fun q h => by simp only [List.mem_cons, List.not_mem_nil, or_false] at h ⊢; omega)
              have hF_124 : F_122 h0 = .inr (15, (.ref ta) :: (.int (nI zt)) :: (.int (nI zo_31)) :: (.int (nI ze)) :: (.ref ou) :: (.ref so) :: (.ref ad) :: (.ref na) :: (.ref va) :: (.ref lc) :: (.ref dm) :: (.int (nI fm)) :: (.int (nI sn)) :: (.ref tg) :: (.int v14_32) :: (.int v15_33) :: (.ref pe) :: (.int v17_34) :: (.int v18_35) :: (.int v19_36) :: (.int v20_37) :: (.int v21_38) :: (.int v22_39) :: (.ref ml) :: (.ref bg) :: (.ref co) :: (.ref sp) :: (.ref nb0) :: (.ref nb1) :: (.ref nb2) :: (.int (nI nf)) :: (.int (nI bd)) :: (.int (nI mm)) :: (.int v33_40) :: (.ref pl) :: (.ref se) :: (.ref ke) :: (.ref wi) :: (.ref hs) :: (.ref mo) :: (.ref po) :: (.ref nu) :: (.ref pr) :: (.ref sq) :: (.ref xa) :: (.ref sa) :: (.ref n64) :: (.ref m64) :: (.ref ex) :: (.ref wh) :: (.ref sd) :: (.ref tk) :: (.int v52_41) :: (.int v53_42) :: (.int v54_43) :: (.ref hd) :: (.ref ak) :: (.ref ho) :: (.ref ot) :: []) := (hB1.2.2.2 h0 (by rw [hT_h0]; simp)).trans hF_103
              have hF_125 : F_122 ml = .inl (cs 17, 3000, .inl f_112) := (hB1.2.2.2 ml (by rw [ht_78]; simp)).trans hF_113
              generalize H1 = H at hP hS ⊢
              refine lv_goto (tgt := 184) hx hb dX15_bodyPlain_151 (by decide) ?_
              refine lv_iinc (v := (nI (i + 1))) (lv' := [(7, .int (nI (i + 1))), (8, .int r_116), (6, .int s7), (5, .int (nI kt)), (4, .int (nI kend)), (3, .int (nI j)), (2, .int (nI w2)), (0, .ref h0), (1, .int x1)]) hx hb dX15_bodyPlain_184 hl (k := 1) rfl (nI_1 _) (by decide) rfl (fun ls hl => ?_)
              refine lv_goto (tgt := 109) hx hb dX15_bodyPlain_187 (by decide) ?_
              refine W.widen (k := 0) (n := 0) (by omega) (by omega) ?_
              exact ih_102 ((i + 1), (zw + 1)) F_122 (⟨⟨by omega, by omega⟩, by omega, hq_123⟩) (by show kt - (i + 1) < kt - i; omega) hO hR _ _ hP hD hS ls (lv_sub hl [0, 2, 3, 4, 5, 6, 7, 8] rfl)
            ·
              refine lv_iload hx hb dX15_bodyPlain_132 (lv_at hl 0 rfl) ?_
              refine lv_if_ne (tgt := 154) hx hb dX15_bodyPlain_134 (by decide) (fun c_126 => ?_) (fun c_126 => ?_)
              ·
                refine lv_aload_n hx hb dX15_bodyPlain_154 rfl (lv_at hl 7 rfl) ?_
                refine pg_get (ci := 15) (v := .ref ml) (C := RX15) (T := TX15) (N := 59) hx hb hts it_15 hown hK hP hL_h0 hF_103 rfl 23 (by decide) (hts _ kt_887) (fun _ h9 => h9) rfl dX15_bodyPlain_155 ?_
                refine lv_iload hx hb dX15_bodyPlain_158 (lv_at hl 1 rfl) ?_
                refine lv_iconst (v := 1) hx hb dX15_bodyPlain_160 (by decide) ?_
                refine lv_isub hx hb dX15_bodyPlain_161 ?_
                refine lv_topi (fun x_127 ex_127 => ?_)
                obtain rfl : x_127 = (nI (i - 1)) := ex_127.trans (pk_sub (a := i) (b := 1) (by omega))
                refine pg_bald hx hb hK hP hi_77 1 hF_113 rfl (vp_in_nI (by omega) (by omega)) dX15_bodyPlain_162 ?_
                refine lv_topi (fun x_128 ex_128 => ?_)
                obtain rfl : x_128 = f_112 (i - 1) := ex_128.trans (congrArg f_112 (show ((nI (i - 1)) : Int32).toNatClampNeg = (i - 1) from nI_clamp (by omega)))
                have hFc := pg_free hD hS hA
                refine va_calli (va_runS (As := [.int (f_112 (i - 1))]) (rest := []) ⟨hx, hb, hml, hown, hts⟩ (s_X15_isWhite l dC dI cs ty gm L H.size F_99 (f_112 (i - 1)) hW ) ⟨callB_of 1 hts (gi kt_715) rfl rfl rfl (hts _ kt_669) (hts _ kt_716) (by decide +kernel) ⟨Nat.le_of_ble_eq_true rfl, Nat.le_of_ble_eq_true rfl⟩, (hts _ kt_717)⟩ ⟨fun a U g mk q => ⟨q.1, PTm.calling q.2⟩, fun U hU hWm => ⟨rfl, PTm.mk hU hWm hP hK hD hE hO⟩⟩ rfl rfl hl.1 rfl (lv_room (Nat.le_of_ble_eq_true rfl)) dX15_bodyPlain_163 ⟨by show _ + 0 ≤ 0; omega, by show _ + 0 ≤ 0; omega⟩) hS (fun q _ h => hFc q h) hFc (fun r_129 u t H1 locs ht hvm hw hB hz1 hk1 hS => ?_)
                obtain ⟨F_130, hB1⟩ := hB
                obtain rfl : F_99 = F_130 := (funext (fun a => hB1.2.2.2 a List.not_mem_nil)).symm
                obtain ⟨hP, hD, hO, hR⟩ := QTm.back hB1 ht hFc hR (fun q h => absurd h List.not_mem_nil)
                generalize H1 = H at hP hS ⊢
                have hw : (r_129 = 0 ∨ r_129 = 1) := hw
                have hw_131 := hw
                refine lv_if_eq (tgt := 175) hx hb dX15_bodyPlain_166 (by decide) (fun c_132 => ?_) (fun c_132 => ?_)
                ·
                  refine lv_aload_n hx hb dX15_bodyPlain_175 rfl (lv_at hl 7 rfl) ?_
                  refine pg_get (ci := 15) (v := .ref pl) (C := RX15) (T := TX15) (N := 59) hx hb hts it_15 hown hK hP hL_h0 hF_103 rfl 34 (by decide) (hts _ kt_901) (fun _ h9 => h9) rfl dX15_bodyPlain_176 ?_
                  refine lv_bipush (v := 32) hx hb dX15_bodyPlain_179 (by decide) ?_
                  have hFc := pg_free hD hS hA
                  refine va_callv (va_runV (As := [.int 32]) (rest := []) ⟨hx, hb, hml, hown, hts⟩ (s_X14_add l dC dI cs ty gm L H.size F_99 pl (ρ + 10) rl 6000 zw 32 hW hL_pl hT_pl hc3 (by first | omega | assumption | exact Or.inl rfl)) ⟨callB_of 1 hts (gi kt_711) rfl rfl rfl (hts _ kt_676) (hts _ kt_712) (by decide +kernel) ⟨Nat.le_of_ble_eq_true rfl, Nat.le_of_ble_eq_true rfl⟩, (hts _ kt_713), (hts _ kt_714)⟩ ⟨fun a U g mk q => ⟨q.1, PTm.calling q.2⟩, pg_recv hK hP hL_pl hc3 (q := (RX14, TX14, 2)) rfl, fun U hU hWm => ⟨rfl, PTm.mk hU hWm hP hK hD hE hO⟩⟩ rfl rfl hl.1 rfl (lv_room (Nat.le_of_ble_eq_true rfl)) dX15_bodyPlain_181 ⟨by show _ + 0 ≤ 0; omega, by show _ + 0 ≤ 0; omega⟩) hS (fun q _ h => hFc q h) hFc (fun u t H1 locs ht hvm hw hB hz1 hk1 hS => ?_)
                  obtain ⟨F_134, hB1, hq_135⟩ := hB
                  obtain ⟨hP, hD, hO, hR⟩ := QTm.back hB1 ht hFc hR (fun q h => by simp only [List.mem_cons, List.not_mem_nil, or_false] at h ⊢; omega)
                  have hF_136 : F_134 h0 = .inr (15, (.ref ta) :: (.int (nI zt)) :: (.int (nI zo_31)) :: (.int (nI ze)) :: (.ref ou) :: (.ref so) :: (.ref ad) :: (.ref na) :: (.ref va) :: (.ref lc) :: (.ref dm) :: (.int (nI fm)) :: (.int (nI sn)) :: (.ref tg) :: (.int v14_32) :: (.int v15_33) :: (.ref pe) :: (.int v17_34) :: (.int v18_35) :: (.int v19_36) :: (.int v20_37) :: (.int v21_38) :: (.int v22_39) :: (.ref ml) :: (.ref bg) :: (.ref co) :: (.ref sp) :: (.ref nb0) :: (.ref nb1) :: (.ref nb2) :: (.int (nI nf)) :: (.int (nI bd)) :: (.int (nI mm)) :: (.int v33_40) :: (.ref pl) :: (.ref se) :: (.ref ke) :: (.ref wi) :: (.ref hs) :: (.ref mo) :: (.ref po) :: (.ref nu) :: (.ref pr) :: (.ref sq) :: (.ref xa) :: (.ref sa) :: (.ref n64) :: (.ref m64) :: (.ref ex) :: (.ref wh) :: (.ref sd) :: (.ref tk) :: (.int v52_41) :: (.int v53_42) :: (.int v54_43) :: (.ref hd) :: (.ref ak) :: (.ref ho) :: (.ref ot) :: []) := (hB1.2.2.2 h0 (by rw [hT_h0]; simp)).trans hF_103
                  have hF_137 : F_134 ml = .inl (cs 17, 3000, .inl f_112) := (hB1.2.2.2 ml (by rw [ht_78]; simp)).trans hF_113
                  generalize H1 = H at hP hS ⊢
                  refine lv_iinc (v := (nI (i + 1))) (lv' := [(7, .int (nI (i + 1))), (8, .int r_116), (6, .int s7), (5, .int (nI kt)), (4, .int (nI kend)), (3, .int (nI j)), (2, .int (nI w2)), (0, .ref h0), (1, .int x1)]) hx hb dX15_bodyPlain_184 hl (k := 1) rfl (nI_1 _) (by decide) rfl (fun ls hl => ?_)
                  refine lv_goto (tgt := 109) hx hb dX15_bodyPlain_187 (by decide) ?_
                  refine W.widen (k := 0) (n := 0) (by omega) (by omega) ?_
                  exact ih_102 ((i + 1), (zw + 1)) F_134 (⟨⟨by omega, by omega⟩, by omega, hq_135⟩) (by show kt - (i + 1) < kt - i; omega) hO hR _ _ hP hD hS ls (lv_sub hl [0, 2, 3, 4, 5, 6, 7, 8] rfl)
                ·
                  refine lv_iload hx hb dX15_bodyPlain_169 (lv_at hl 1 rfl) ?_
                  refine lv_iload_n hx hb dX15_bodyPlain_171 rfl (lv_at hl 5 rfl) ?_
                  refine lv_icmp_ne (tgt := 184) hx hb dX15_bodyPlain_172 (by decide) (fun c_138 => ?_) (fun c_138 => ?_)
                  ·
                    have hi_139 : i ≠ j := fun q => c_138 (by rw [q])
                    refine lv_iinc (v := (nI (i + 1))) (lv' := [(7, .int (nI (i + 1))), (8, .int r_116), (6, .int s7), (5, .int (nI kt)), (4, .int (nI kend)), (3, .int (nI j)), (2, .int (nI w2)), (0, .ref h0), (1, .int x1)]) hx hb dX15_bodyPlain_184 hl (k := 1) rfl (nI_1 _) (by decide) rfl (fun ls hl => ?_)
                    refine lv_goto (tgt := 109) hx hb dX15_bodyPlain_187 (by decide) ?_
                    refine W.widen (k := 0) (n := 0) (by omega) (by omega) ?_
                    exact ih_102 ((i + 1), zw) F_99 (⟨⟨by omega, by omega⟩, by omega, hc3⟩) (by show kt - (i + 1) < kt - i; omega) hO hR _ _ hP hD hS ls (lv_sub hl [0, 2, 3, 4, 5, 6, 7, 8] rfl)
                  ·
                    have hi_140 : i = j := (nI_eq (a := i) (b := j) (by omega) (by omega)).mp c_138
                    refine lv_aload_n hx hb dX15_bodyPlain_175 rfl (lv_at hl 7 rfl) ?_
                    refine pg_get (ci := 15) (v := .ref pl) (C := RX15) (T := TX15) (N := 59) hx hb hts it_15 hown hK hP hL_h0 hF_103 rfl 34 (by decide) (hts _ kt_901) (fun _ h9 => h9) rfl dX15_bodyPlain_176 ?_
                    refine lv_bipush (v := 32) hx hb dX15_bodyPlain_179 (by decide) ?_
                    have hFc := pg_free hD hS hA
                    refine va_callv (va_runV (As := [.int 32]) (rest := []) ⟨hx, hb, hml, hown, hts⟩ (s_X14_add l dC dI cs ty gm L H.size F_99 pl (ρ + 10) rl 6000 zw 32 hW hL_pl hT_pl hc3 (by first | omega | assumption | exact Or.inl rfl)) ⟨callB_of 1 hts (gi kt_711) rfl rfl rfl (hts _ kt_676) (hts _ kt_712) (by decide +kernel) ⟨Nat.le_of_ble_eq_true rfl, Nat.le_of_ble_eq_true rfl⟩, (hts _ kt_713), (hts _ kt_714)⟩ ⟨fun a U g mk q => ⟨q.1, PTm.calling q.2⟩, pg_recv hK hP hL_pl hc3 (q := (RX14, TX14, 2)) rfl, fun U hU hWm => ⟨rfl, PTm.mk hU hWm hP hK hD hE hO⟩⟩ rfl rfl hl.1 rfl (lv_room (Nat.le_of_ble_eq_true rfl)) dX15_bodyPlain_181 ⟨by show _ + 0 ≤ 0; omega, by show _ + 0 ≤ 0; omega⟩) hS (fun q _ h => hFc q h) hFc (fun u t H1 locs ht hvm hw hB hz1 hk1 hS => ?_)
                    obtain ⟨F_142, hB1, hq_143⟩ := hB
                    obtain ⟨hP, hD, hO, hR⟩ := QTm.back hB1 ht hFc hR (fun q h => by simp only [List.mem_cons, List.not_mem_nil, or_false] at h ⊢; omega)
                    have hF_144 : F_142 h0 = .inr (15, (.ref ta) :: (.int (nI zt)) :: (.int (nI zo_31)) :: (.int (nI ze)) :: (.ref ou) :: (.ref so) :: (.ref ad) :: (.ref na) :: (.ref va) :: (.ref lc) :: (.ref dm) :: (.int (nI fm)) :: (.int (nI sn)) :: (.ref tg) :: (.int v14_32) :: (.int v15_33) :: (.ref pe) :: (.int v17_34) :: (.int v18_35) :: (.int v19_36) :: (.int v20_37) :: (.int v21_38) :: (.int v22_39) :: (.ref ml) :: (.ref bg) :: (.ref co) :: (.ref sp) :: (.ref nb0) :: (.ref nb1) :: (.ref nb2) :: (.int (nI nf)) :: (.int (nI bd)) :: (.int (nI mm)) :: (.int v33_40) :: (.ref pl) :: (.ref se) :: (.ref ke) :: (.ref wi) :: (.ref hs) :: (.ref mo) :: (.ref po) :: (.ref nu) :: (.ref pr) :: (.ref sq) :: (.ref xa) :: (.ref sa) :: (.ref n64) :: (.ref m64) :: (.ref ex) :: (.ref wh) :: (.ref sd) :: (.ref tk) :: (.int v52_41) :: (.int v53_42) :: (.int v54_43) :: (.ref hd) :: (.ref ak) :: (.ref ho) :: (.ref ot) :: []) := (hB1.2.2.2 h0 (by rw [hT_h0]; simp)).trans hF_103
                    have hF_145 : F_142 ml = .inl (cs 17, 3000, .inl f_112) := (hB1.2.2.2 ml (by rw [ht_78]; simp)).trans hF_113
                    generalize H1 = H at hP hS ⊢
                    refine lv_iinc (v := (nI (i + 1))) (lv' := [(7, .int (nI (i + 1))), (8, .int r_116), (6, .int s7), (5, .int (nI kt)), (4, .int (nI kend)), (3, .int (nI j)), (2, .int (nI w2)), (0, .ref h0), (1, .int x1)]) hx hb dX15_bodyPlain_184 hl (k := 1) rfl (nI_1 _) (by decide) rfl (fun ls hl => ?_)
                    refine lv_goto (tgt := 109) hx hb dX15_bodyPlain_187 (by decide) ?_
                    refine W.widen (k := 0) (n := 0) (by omega) (by omega) ?_
                    exact ih_102 ((i + 1), (zw + 1)) F_142 (⟨⟨by omega, by omega⟩, by omega, hq_143⟩) (by show kt - (i + 1) < kt - i; omega) hO hR _ _ hP hD hS ls (lv_sub hl [0, 2, 3, 4, 5, 6, 7, 8] rfl)
              ·
                refine lv_aload_n hx hb dX15_bodyPlain_137 rfl (lv_at hl 7 rfl) ?_
                refine pg_get (ci := 15) (v := .ref pl) (C := RX15) (T := TX15) (N := 59) hx hb hts it_15 hown hK hP hL_h0 hF_103 rfl 34 (by decide) (hts _ kt_901) (fun _ h9 => h9) rfl dX15_bodyPlain_138 ?_
                refine lv_aload_n hx hb dX15_bodyPlain_141 rfl (lv_at hl 7 rfl) ?_
                refine pg_get (ci := 15) (v := .ref ml) (C := RX15) (T := TX15) (N := 59) hx hb hts it_15 hown hK hP hL_h0 hF_103 rfl 23 (by decide) (hts _ kt_887) (fun _ h9 => h9) rfl dX15_bodyPlain_142 ?_
                refine lv_iload hx hb dX15_bodyPlain_145 (lv_at hl 1 rfl) ?_
                refine pg_bald hx hb hK hP hi_77 1 hF_113 rfl (vp_in_nI (by omega) (by omega)) dX15_bodyPlain_147 ?_
                refine lv_topi (fun x_146 ex_146 => ?_)
                obtain rfl : x_146 = f_112 i := ex_146.trans (congrArg f_112 (show ((nI i) : Int32).toNatClampNeg = i from nI_clamp (by omega)))
                have hFc := pg_free hD hS hA
                refine va_callv (va_runV (As := [.int (f_112 i)]) (rest := []) ⟨hx, hb, hml, hown, hts⟩ (s_X14_add l dC dI cs ty gm L H.size F_99 pl (ρ + 10) rl 6000 zw (f_112 i) hW hL_pl hT_pl hc3 (by first | omega | assumption | exact Or.inl rfl)) ⟨callB_of 1 hts (gi kt_711) rfl rfl rfl (hts _ kt_676) (hts _ kt_712) (by decide +kernel) ⟨Nat.le_of_ble_eq_true rfl, Nat.le_of_ble_eq_true rfl⟩, (hts _ kt_713), (hts _ kt_714)⟩ ⟨fun a U g mk q => ⟨q.1, PTm.calling q.2⟩, pg_recv hK hP hL_pl hc3 (q := (RX14, TX14, 2)) rfl, fun U hU hWm => ⟨rfl, PTm.mk hU hWm hP hK hD hE hO⟩⟩ rfl rfl hl.1 rfl (lv_room (Nat.le_of_ble_eq_true rfl)) dX15_bodyPlain_148 ⟨by show _ + 0 ≤ 0; omega, by show _ + 0 ≤ 0; omega⟩) hS (fun q _ h => hFc q h) hFc (fun u t H1 locs ht hvm hw hB hz1 hk1 hS => ?_)
                obtain ⟨F_148, hB1, hq_149⟩ := hB
                obtain ⟨hP, hD, hO, hR⟩ := QTm.back hB1 ht hFc hR (fun q h => by simp only [List.mem_cons, List.not_mem_nil, or_false] at h ⊢; omega)
                have hF_150 : F_148 h0 = .inr (15, (.ref ta) :: (.int (nI zt)) :: (.int (nI zo_31)) :: (.int (nI ze)) :: (.ref ou) :: (.ref so) :: (.ref ad) :: (.ref na) :: (.ref va) :: (.ref lc) :: (.ref dm) :: (.int (nI fm)) :: (.int (nI sn)) :: (.ref tg) :: (.int v14_32) :: (.int v15_33) :: (.ref pe) :: (.int v17_34) :: (.int v18_35) :: (.int v19_36) :: (.int v20_37) :: (.int v21_38) :: (.int v22_39) :: (.ref ml) :: (.ref bg) :: (.ref co) :: (.ref sp) :: (.ref nb0) :: (.ref nb1) :: (.ref nb2) :: (.int (nI nf)) :: (.int (nI bd)) :: (.int (nI mm)) :: (.int v33_40) :: (.ref pl) :: (.ref se) :: (.ref ke) :: (.ref wi) :: (.ref hs) :: (.ref mo) :: (.ref po) :: (.ref nu) :: (.ref pr) :: (.ref sq) :: (.ref xa) :: (.ref sa) :: (.ref n64) :: (.ref m64) :: (.ref ex) :: (.ref wh) :: (.ref sd) :: (.ref tk) :: (.int v52_41) :: (.int v53_42) :: (.int v54_43) :: (.ref hd) :: (.ref ak) :: (.ref ho) :: (.ref ot) :: []) := (hB1.2.2.2 h0 (by rw [hT_h0]; simp)).trans hF_103
                have hF_151 : F_148 ml = .inl (cs 17, 3000, .inl f_112) := (hB1.2.2.2 ml (by rw [ht_78]; simp)).trans hF_113
                generalize H1 = H at hP hS ⊢
                refine lv_goto (tgt := 184) hx hb dX15_bodyPlain_151 (by decide) ?_
                refine lv_iinc (v := (nI (i + 1))) (lv' := [(7, .int (nI (i + 1))), (8, .int r_116), (6, .int s7), (5, .int (nI kt)), (4, .int (nI kend)), (3, .int (nI j)), (2, .int (nI w2)), (0, .ref h0), (1, .int x1)]) hx hb dX15_bodyPlain_184 hl (k := 1) rfl (nI_1 _) (by decide) rfl (fun ls hl => ?_)
                refine lv_goto (tgt := 109) hx hb dX15_bodyPlain_187 (by decide) ?_
                refine W.widen (k := 0) (n := 0) (by omega) (by omega) ?_
                exact ih_102 ((i + 1), (zw + 1)) F_148 (⟨⟨by omega, by omega⟩, by omega, hq_149⟩) (by show kt - (i + 1) < kt - i; omega) hO hR _ _ hP hD hS ls (lv_sub hl [0, 2, 3, 4, 5, 6, 7, 8] rfl)
        ·
          refine lv_iload hx hb dX15_bodyPlain_93 (lv_at hl 0 rfl) ?_
          refine lv_iload_n hx hb dX15_bodyPlain_95 rfl (lv_at hl 2 rfl) ?_
          refine lv_icmp_le (tgt := 103) hx hb dX15_bodyPlain_96 (by decide) (fun c_152 => ?_) (fun c_152 => ?_)
          ·
            have hi_153 : kt ≤ j := (nI_leI (a := kt) (b := j) (by omega) (by omega)).mp c_152
            refine lv_iconst (v := 0) hx hb dX15_bodyPlain_103 (by decide) ?_
            refine W.widen (k := 0) (n := 0) (by omega) (by omega) ?_
            exact jn_94 0 F_90 (hkt3) hO hR _ _ hP hD hS ls (lv_sub hl [0, 1, 2, 3, 4, 5] rfl)
          ·
            have hi_154 : j < kt := Nat.not_le.mp (fun q => c_152 ((nI_leI (a := kt) (b := j) (by omega) (by omega)).mpr q))
            refine lv_iconst (v := 1) hx hb dX15_bodyPlain_99 (by decide) ?_
            refine lv_goto (tgt := 104) hx hb dX15_bodyPlain_100 (by decide) ?_
            refine W.widen (k := 0) (n := 0) (by omega) (by omega) ?_
            exact jn_94 1 F_90 (hkt3) hO hR _ _ hP hD hS ls (lv_sub hl [0, 1, 2, 3, 4, 5] rfl)
      ·
        refine lv_iload_n hx hb dX15_bodyPlain_62 rfl (lv_at hl 5 rfl) ?_
        refine lv_if_eq (tgt := 93) hx hb dX15_bodyPlain_63 (by decide) (fun c_155 => ?_) (fun c_155 => ?_)
        ·
          refine W.widen (k := 0) (n := 0) (by omega) (by omega) ?_
          exact jn_89 (nI ks) F_85 (⟨⟨ks, by omega, by omega, rfl⟩, hks3⟩) hO hR _ _ hP hD hS ls (lv_sub hl [0, 1, 2, 3, 4, 5] rfl)
        ·
          refine W.widen (k := 0) (n := 0) (by omega) (by omega) ?_
          have hF_157 : F h0 = .inr (15, (.ref ta) :: (.int (nI zt)) :: (.int (nI zo_31)) :: (.int (nI ze)) :: (.ref ou) :: (.ref so) :: (.ref ad) :: (.ref na) :: (.ref va) :: (.ref lc) :: (.ref dm) :: (.int (nI fm)) :: (.int (nI sn)) :: (.ref tg) :: (.int v14_32) :: (.int v15_33) :: (.ref pe) :: (.int v17_34) :: (.int v18_35) :: (.int v19_36) :: (.int v20_37) :: (.int v21_38) :: (.int v22_39) :: (.ref ml) :: (.ref bg) :: (.ref co) :: (.ref sp) :: (.ref nb0) :: (.ref nb1) :: (.ref nb2) :: (.int (nI nf)) :: (.int (nI bd)) :: (.int (nI mm)) :: (.int v33_40) :: (.ref pl) :: (.ref se) :: (.ref ke) :: (.ref wi) :: (.ref hs) :: (.ref mo) :: (.ref po) :: (.ref nu) :: (.ref pr) :: (.ref sq) :: (.ref xa) :: (.ref sa) :: (.ref n64) :: (.ref m64) :: (.ref ex) :: (.ref wh) :: (.ref sd) :: (.ref tk) :: (.int v52_41) :: (.int v53_42) :: (.int v54_43) :: (.ref hd) :: (.ref ak) :: (.ref ho) :: (.ref ot) :: []) := (hR h0 (by rw [hT_h0]; simp)).symm.trans hF_88
          refine pl_loopm (σ := Nat) A (dC, dI) cs ty gm L [ρ + 10] F 66 9 (fun kx => [(5, .int (nI kx)), (4, .int (nI kend)), (3, .int (nI j)), (2, .int (nI w2)), (0, .ref h0), (1, .int x1)]) (fun kx => []) (fun kx FF => j ≤ kx ∧ kx ≤ kend ∧ FF pl = .inr (14, [.ref rl, .int (nI zz)])) (fun kx => kx) ?_ ks F_85 (⟨by omega, by omega, hks3⟩) hO hR _ _ hP hD hS ls (lv_sub hl [0, 1, 2, 3, 4, 5] rfl)
          rintro kx F_156 hv_158 hO hR ih_159 H locs hP hD hS ls hl
          have hl : lv_has ls 9 [(5, .int (nI kx)), (4, .int (nI kend)), (3, .int (nI j)), (2, .int (nI w2)), (0, .ref h0), (1, .int x1)] := hl
          have hv_158 : j ≤ kx ∧ kx ≤ kend ∧ F_156 pl = .inr (14, [.ref rl, .int (nI zz)]) := hv_158
          refine W.eq (g2 := F0 m 66 ls []) rfl ?_
          have hF_160 : F_156 h0 = .inr (15, (.ref ta) :: (.int (nI zt)) :: (.int (nI zo_31)) :: (.int (nI ze)) :: (.ref ou) :: (.ref so) :: (.ref ad) :: (.ref na) :: (.ref va) :: (.ref lc) :: (.ref dm) :: (.int (nI fm)) :: (.int (nI sn)) :: (.ref tg) :: (.int v14_32) :: (.int v15_33) :: (.ref pe) :: (.int v17_34) :: (.int v18_35) :: (.int v19_36) :: (.int v20_37) :: (.int v21_38) :: (.int v22_39) :: (.ref ml) :: (.ref bg) :: (.ref co) :: (.ref sp) :: (.ref nb0) :: (.ref nb1) :: (.ref nb2) :: (.int (nI nf)) :: (.int (nI bd)) :: (.int (nI mm)) :: (.int v33_40) :: (.ref pl) :: (.ref se) :: (.ref ke) :: (.ref wi) :: (.ref hs) :: (.ref mo) :: (.ref po) :: (.ref nu) :: (.ref pr) :: (.ref sq) :: (.ref xa) :: (.ref sa) :: (.ref n64) :: (.ref m64) :: (.ref ex) :: (.ref wh) :: (.ref sd) :: (.ref tk) :: (.int v52_41) :: (.int v53_42) :: (.int v54_43) :: (.ref hd) :: (.ref ak) :: (.ref ho) :: (.ref ot) :: []) := (hR h0 (by rw [hT_h0]; simp)).trans hF_157
          obtain ⟨hb1, hb2, hb3⟩ := hv_158
          refine lv_iload hx hb dX15_bodyPlain_66 (lv_at hl 0 rfl) ?_
          refine lv_iload_n hx hb dX15_bodyPlain_68 rfl (lv_at hl 2 rfl) ?_
          refine lv_icmp_le (tgt := 93) hx hb dX15_bodyPlain_69 (by decide) (fun c_161 => ?_) (fun c_161 => ?_)
          ·
            have hi_162 : kx ≤ j := (nI_leI (a := kx) (b := j) (by omega) (by omega)).mp c_161
            refine W.widen (k := 0) (n := 0) (by omega) (by omega) ?_
            exact jn_89 (nI kx) F_156 (⟨⟨kx, by omega, by omega, rfl⟩, hb3⟩) hO hR _ _ hP hD hS ls (lv_sub hl [0, 1, 2, 3, 4, 5] rfl)
          ·
            have hi_163 : j < kx := Nat.not_le.mp (fun q => c_161 ((nI_leI (a := kx) (b := j) (by omega) (by omega)).mpr q))
            refine lv_aload_n hx hb dX15_bodyPlain_72 rfl (lv_at hl 4 rfl) ?_
            refine pg_get (ci := 15) (v := .ref ml) (C := RX15) (T := TX15) (N := 59) hx hb hts it_15 hown hK hP hL_h0 hF_160 rfl 23 (by decide) (hts _ kt_887) (fun _ h9 => h9) rfl dX15_bodyPlain_73 ?_
            refine lv_iload hx hb dX15_bodyPlain_76 (lv_at hl 0 rfl) ?_
            refine lv_iconst (v := 1) hx hb dX15_bodyPlain_78 (by decide) ?_
            refine lv_isub hx hb dX15_bodyPlain_79 ?_
            refine lv_topi (fun x_164 ex_164 => ?_)
            obtain rfl : x_164 = (nI (kx - 1)) := ex_164.trans (pk_sub (a := kx) (b := 1) (by omega))
            obtain ⟨f_165, hF_166, hq_167⟩ := hO.octs hi_77 ht_78
            refine pg_bald hx hb hK hP hi_77 1 hF_166 rfl (vp_in_nI (by omega) (by omega)) dX15_bodyPlain_80 ?_
            refine lv_topi (fun x_168 ex_168 => ?_)
            obtain rfl : x_168 = f_165 (kx - 1) := ex_168.trans (congrArg f_165 (show ((nI (kx - 1)) : Int32).toNatClampNeg = (kx - 1) from nI_clamp (by omega)))
            have hFc := pg_free hD hS hA
            refine va_calli (va_runS (As := [.int (f_165 (kx - 1))]) (rest := []) ⟨hx, hb, hml, hown, hts⟩ (s_X15_isWhite l dC dI cs ty gm L H.size F_156 (f_165 (kx - 1)) hW ) ⟨callB_of 1 hts (gi kt_715) rfl rfl rfl (hts _ kt_669) (hts _ kt_716) (by decide +kernel) ⟨Nat.le_of_ble_eq_true rfl, Nat.le_of_ble_eq_true rfl⟩, (hts _ kt_717)⟩ ⟨fun a U g mk q => ⟨q.1, PTm.calling q.2⟩, fun U hU hWm => ⟨rfl, PTm.mk hU hWm hP hK hD hE hO⟩⟩ rfl rfl hl.1 rfl (lv_room (Nat.le_of_ble_eq_true rfl)) dX15_bodyPlain_81 ⟨by show _ + 0 ≤ 0; omega, by show _ + 0 ≤ 0; omega⟩) hS (fun q _ h => hFc q h) hFc (fun r_169 u t H1 locs ht hvm hw hB hz1 hk1 hS => ?_)
            obtain ⟨F_170, hB1⟩ := hB
            obtain rfl : F_156 = F_170 := (funext (fun a => hB1.2.2.2 a List.not_mem_nil)).symm
            obtain ⟨hP, hD, hO, hR⟩ := QTm.back hB1 ht hFc hR (fun q h => absurd h List.not_mem_nil)
            generalize H1 = H at hP hS ⊢
            have hw : (r_169 = 0 ∨ r_169 = 1) := hw
            have hw_171 := hw
            refine lv_if_eq (tgt := 93) hx hb dX15_bodyPlain_84 (by decide) (fun c_172 => ?_) (fun c_172 => ?_)
            ·
              refine W.widen (k := 0) (n := 0) (by omega) (by omega) ?_
              exact jn_89 (nI kx) F_156 (⟨⟨kx, by omega, by omega, rfl⟩, hb3⟩) hO hR _ _ hP hD hS ls (lv_sub hl [0, 1, 2, 3, 4, 5] rfl)
            ·
              refine lv_iinc (v := (nI (kx - 1))) (lv' := [(5, .int (nI (kx - 1))), (4, .int (nI kend)), (3, .int (nI j)), (2, .int (nI w2)), (0, .ref h0), (1, .int x1)]) hx hb dX15_bodyPlain_87 hl (k := 0) rfl (m1N (by omega)) (by decide) rfl (fun ls hl => ?_)
              refine lv_goto (tgt := 66) hx hb dX15_bodyPlain_90 (by decide) ?_
              refine W.widen (k := 0) (n := 0) (by omega) (by omega) ?_
              exact ih_159 (kx - 1) F_156 (⟨by omega, by omega, hb3⟩) (by show (kx - 1) < kx; omega) hO hR _ _ hP hD hS ls (lv_sub hl [0, 1, 2, 3, 4, 5] rfl)
    ·
      refine lv_aload_n hx hb dX15_bodyPlain_37 rfl (lv_at hl 3 rfl) ?_
      refine pg_get (ci := 15) (v := .ref ml) (C := RX15) (T := TX15) (N := 59) hx hb hts it_15 hown hK hP hL_h0 hF_61 rfl 23 (by decide) (hts _ kt_887) (fun _ h9 => h9) rfl dX15_bodyPlain_38 ?_
      refine lv_iload hx hb dX15_bodyPlain_41 (lv_at hl 0 rfl) ?_
      refine lv_iconst (v := 1) hx hb dX15_bodyPlain_43 (by decide) ?_
      refine lv_isub hx hb dX15_bodyPlain_44 ?_
      refine lv_topi (fun x_173 ex_173 => ?_)
      obtain rfl : x_173 = (nI (kend - 1)) := ex_173.trans (pk_sub (a := kend) (b := 1) (by omega))
      obtain ⟨f_174, hF_175, hq_176⟩ := hO.octs hi_77 ht_78
      refine pg_bald hx hb hK hP hi_77 1 hF_175 rfl (vp_in_nI (by omega) (by omega)) dX15_bodyPlain_45 ?_
      refine lv_topi (fun x_177 ex_177 => ?_)
      obtain rfl : x_177 = f_174 (kend - 1) := ex_177.trans (congrArg f_174 (show ((nI (kend - 1)) : Int32).toNatClampNeg = (kend - 1) from nI_clamp (by omega)))
      refine lv_bipush (v := 10) hx hb dX15_bodyPlain_46 (by decide) ?_
      refine lv_icmp_ne (tgt := 58) hx hb dX15_bodyPlain_48 (by decide) (fun c_178 => ?_) (fun c_178 => ?_)
      ·
        refine lv_iload hx hb dX15_bodyPlain_58 (lv_at hl 0 rfl) ?_
        refine W.widen (k := 0) (n := 0) (by omega) (by omega) ?_
        exact jn_84 (nI kend) F_57 (⟨⟨kend, by omega, by omega, rfl⟩, ha4⟩) hO hR _ _ hP hD hS ls (lv_sub hl [0, 1, 2, 3, 4] rfl)
      ·
        refine lv_iload hx hb dX15_bodyPlain_51 (lv_at hl 0 rfl) ?_
        refine lv_iconst (v := 1) hx hb dX15_bodyPlain_53 (by decide) ?_
        refine lv_isub hx hb dX15_bodyPlain_54 ?_
        refine lv_topi (fun x_179 ex_179 => ?_)
        obtain rfl : x_179 = (nI (kend - 1)) := ex_179.trans (pk_sub (a := kend) (b := 1) (by omega))
        refine lv_goto (tgt := 60) hx hb dX15_bodyPlain_55 (by decide) ?_
        refine W.widen (k := 0) (n := 0) (by omega) (by omega) ?_
        exact jn_84 (nI (kend - 1)) F_57 (⟨⟨(kend - 1), by omega, by omega, rfl⟩, ha4⟩) hO hR _ _ hP hD hS ls (lv_sub hl [0, 1, 2, 3, 4] rfl)
set_option maxHeartbeats 4000000 in
set_option maxRecDepth 100000 in
theorem s_X15_tell (l : Launch) (dC : Nat → ClassId) (dI : Nat → Nat → Nat) (cs : Nat → ClassId) (ty : TyM) (gm : Nat → Nat → Nat) (L : List Nat) (sz : Nat) (F : Nat → va_E) (h0 : Nat) (ρ : Nat) (ta : Nat) (ou : Nat) (so : Nat) (ad : Nat) (na : Nat) (va : Nat) (lc : Nat) (dm : Nat) (tg : Nat) (pe : Nat) (ml : Nat) (bg : Nat) (co : Nat) (sp : Nat) (nb0 : Nat) (nb1 : Nat) (nb2 : Nat) (pl : Nat) (se : Nat) (ke : Nat) (wi : Nat) (hs : Nat) (mo : Nat) (po : Nat) (nu : Nat) (pr : Nat) (sq : Nat) (xa : Nat) (sa : Nat) (n64 : Nat) (m64 : Nat) (ex : Nat) (wh : Nat) (sd : Nat) (tk : Nat) (hd : Nat) (ak : Nat) (ho : Nat) (ot : Nat) (sx : Nat) (s0 : Nat) (s1 : Nat) (s2 : Nat) (nf : Nat) (bd : Nat) (mm : Nat) (fm : Nat) (sn : Nat) (hg : Nat) (gc : Nat) (gv : Nat) (ze : Nat) (zt : Nat) (g1 : Nat) (σ : Nat) (r1 : Nat) (hW : WTm ty gm L) (hL_h0 : h0 ∈ L) (hT_h0 : ty h0 = (15, ρ, [ta, ou, so, ad, na, va, lc, dm, tg, pe, ml, bg, co, sp, nb0, nb1, nb2, pl, se, ke, wi, hs, mo, po, nu, pr, sq, xa, sa, n64, m64, ex, wh, sd, tk, hd, ak, ho, ot, sx, s0, s1, s2, nf, bd, mm, fm, sn, hg, gc, gv, ze, zt])) (hL_g1 : g1 ∈ L) (hT_g1 : ty g1 = (14, σ, [r1, 6000])) : Met l yX15_tell (.code yX15_tell cX15_tell 2 (some .int) :: tb) ({ frames := 1, cells := 0, slots := 0, locals := 48 }) (va_Pc [.ref h0, .ref g1] (PTm (dC, dI) cs ty gm L F sz)) (va_Qi (fun (r : Int32) (_ : Unit) => True) (fun _ T9 => ∃ F2 : Nat → va_E, QTm (dC, dI) cs ty gm L [ρ, ρ + 2] F F2 (va_A (va_pl L F) sz) T9) (va_A (va_pl L F) sz)) 0 0 (va_A (va_pl L F) sz) := by
  refine Met.ofW (cc := cX15_tell) (maxL := 2) (ret := (some .int)) (by decide) rfl ?_
  intro p e s m args below meth c s₁ B hml hv
  obtain ⟨rfl, hsz, hP, hK, hD0, hE, hO⟩ := hv
  have hx := B.exec
  have hb := B.bytes
  have hr := B.returns
  have hts : ∀ w ∈ tb, w.before _ s = true := fun w h => atoms_spec (ws := .code yX15_tell cX15_tell 2 (some .int) :: tb) B.pre w (List.mem_cons_of_mem _ h)
  have hown : s.vm.findClass RX15 = some m.cls := findClass_of_methodNamed B.named
  have hlocks := B.notSynchronized
  subst hsz
  have hD := hD0.self (sz := s.heap.size)
  generalize hAe : va_A (va_pl L F) s.heap.size = A at hD ⊢
  have hA : ∀ q : Nat, s.heap.size ≤ q → A q := fun q h => by rw [← hAe]; exact Or.inr h
  have hS : va_S A s.heap s.heap [] := va_S.rf
  have hR : FR ty [ρ, ρ + 2] F F := FR.refl
  have hl := lv_entry ([.ref h0, .ref g1]) (n := 2) (Nat.le_of_ble_eq_true rfl)
  rw [lg_entry_eq]
  generalize (lg_sl ([.ref h0, .ref g1]) ++ List.replicate (2 - (lg_sl ([.ref h0, .ref g1])).length) Slot.unset).toArray = ls at hl ⊢
  have hl : lv_has ls 2 [(0, .ref h0), (1, .ref g1)] := hl
  obtain ⟨hq_23, hq_24, hq_25, hq_26, hq_27, hgO, hgA, hgB, hq_28⟩ := hW.sc hL_h0 hT_h0
  obtain ⟨hi_29, ht_30, hq_31⟩ := hW.txt hL_g1 hT_g1
  refine lv_aload_n hx hb dX15_tell_0 rfl (lv_at hl 1 rfl) ?_
  obtain ⟨z_32, hF_33, hq_34⟩ := hO.txt hL_g1 hT_g1
  refine pg_get (ci := 14) (v := .ref r1) (C := RX14) (T := TX14) (N := 2) hx hb hts it_14 hown hK hP hL_g1 hF_33 rfl 0 (by decide) (hts _ kt_710) (fun _ h9 => h9) rfl dX15_tell_1 ?_
  refine lv_iconst (v := 0) hx hb dX15_tell_4 (by decide) ?_
  refine lv_aload_n hx hb dX15_tell_5 rfl (lv_at hl 0 rfl) ?_
  obtain ⟨zo_35, v14_36, v15_37, v17_38, v18_39, v19_40, v20_41, v21_42, v22_43, v33_44, v52_45, v53_46, v54_47, hF_48, hq_49, hq_50, hq_51, hq_52, hq_53⟩ := hO.mod hL_h0 hT_h0
  refine pg_get (ci := 15) (v := .ref ou) (C := RX15) (T := TX15) (N := 59) hx hb hts it_15 hown hK hP hL_h0 hF_48 rfl 4 (by decide) (hts _ kt_907) (fun _ h9 => h9) rfl dX15_tell_6 ?_
  refine lv_iconst (v := 0) hx hb dX15_tell_9 (by decide) ?_
  refine lv_aload_n hx hb dX15_tell_10 rfl (lv_at hl 1 rfl) ?_
  refine pg_get (ci := 14) (v := .int (nI z_32)) (C := RX14) (T := TX14) (N := 2) hx hb hts it_14 hown hK hP hL_g1 hF_33 rfl 1 (by decide) (hts _ kt_709) (fun _ h9 => h9) rfl dX15_tell_11 ?_
  obtain ⟨hq_54, hq_55⟩ := hW.octs hi_29 ht_30
  obtain ⟨f_56, hF_57, hq_58⟩ := hO.octs hi_29 ht_30
  obtain ⟨hi_59, ht_60⟩ := hW.f_ou hL_h0 hT_h0
  obtain ⟨hq_61, hq_62⟩ := hW.octs hi_59 ht_60
  obtain ⟨f_63, hF_64, hq_65⟩ := hO.octs hi_59 ht_60
  refine pg_copyi hx hb (by rw [hml]; exact hl.1.symm) hown (hts _ kt_908) (hts _ kt_29) (hts _ kt_30) (hts _ kt_31) hK hP hD hS hi_29 hi_59 1 1 hF_57 hF_64 rfl rfl rfl (by decide) (by decide) (nI_pos (by omega)) (by rw [nI_clamp (by omega)]; show 0 + _ ≤ _; omega) (by rw [nI_clamp (by omega)]; show 0 + _ ≤ _; omega) (fun _ _ => hq_58 _) (Nat.le_of_ble_eq_true rfl) (by decide) dX15_tell_14 (fun H locs hP hD hS => ?_)
  obtain ⟨F_66, he_67, hP, hD, hO, hR⟩ : ∃ G, G = va_up F ou (.inl (cs 17, 6000, .inl (va_cpy f_56 f_63 (0 : Int32).toNatClampNeg (0 : Int32).toNatClampNeg ((nI z_32)).toNatClampNeg))) ∧ va_P (dC, dI) vwCl (va_pl L G) H ∧ va_D A (va_pl L G) ∧ OKm cs ty gm L G ∧ FR ty [ρ, ρ + 2] F G := ⟨_, rfl, hP, hD, hO.up (shm.octs ht_60 ⟨_, rfl, bfm_cpy hq_58 hq_65 _ _ _⟩), hR.up ht_60 (by simp)⟩
  have hF_68 : F_66 ou = .inl (cs 17, 6000, .inl (va_cpy f_56 f_63 (0 : Int32).toNatClampNeg (0 : Int32).toNatClampNeg ((nI z_32)).toNatClampNeg)) := by rw [he_67]; exact up_self
  have hF_69 : F_66 g1 = .inr (14, [.ref r1, .int (nI z_32)]) := by rw [he_67, up_ne (ne_ty hT_g1 ht_60 (by simp))]; exact hF_33
  have hF_70 : F_66 h0 = .inr (15, (.ref ta) :: (.int (nI zt)) :: (.int (nI zo_35)) :: (.int (nI ze)) :: (.ref ou) :: (.ref so) :: (.ref ad) :: (.ref na) :: (.ref va) :: (.ref lc) :: (.ref dm) :: (.int (nI fm)) :: (.int (nI sn)) :: (.ref tg) :: (.int v14_36) :: (.int v15_37) :: (.ref pe) :: (.int v17_38) :: (.int v18_39) :: (.int v19_40) :: (.int v20_41) :: (.int v21_42) :: (.int v22_43) :: (.ref ml) :: (.ref bg) :: (.ref co) :: (.ref sp) :: (.ref nb0) :: (.ref nb1) :: (.ref nb2) :: (.int (nI nf)) :: (.int (nI bd)) :: (.int (nI mm)) :: (.int v33_44) :: (.ref pl) :: (.ref se) :: (.ref ke) :: (.ref wi) :: (.ref hs) :: (.ref mo) :: (.ref po) :: (.ref nu) :: (.ref pr) :: (.ref sq) :: (.ref xa) :: (.ref sa) :: (.ref n64) :: (.ref m64) :: (.ref ex) :: (.ref wh) :: (.ref sd) :: (.ref tk) :: (.int v52_45) :: (.int v53_46) :: (.int v54_47) :: (.ref hd) :: (.ref ak) :: (.ref ho) :: (.ref ot) :: []) := by rw [he_67, up_ne (ne_ty hT_h0 ht_60 (by simp))]; exact hF_48
  obtain ⟨f_71, hF_68, hq_72⟩ : ∃ f : Nat → Int32, F_66 ou = .inl (cs 17, 6000, .inl f) ∧ BFm f := ⟨_, hF_68, bfm_cpy hq_58 hq_65 _ _ _⟩
  refine lv_aload_n hx hb dX15_tell_17 rfl (lv_at hl 0 rfl) ?_
  refine lv_aload_n hx hb dX15_tell_18 rfl (lv_at hl 1 rfl) ?_
  refine pg_get (ci := 14) (v := .int (nI z_32)) (C := RX14) (T := TX14) (N := 2) hx hb hts it_14 hown hK hP hL_g1 hF_69 rfl 1 (by decide) (hts _ kt_709) (fun _ h9 => h9) rfl dX15_tell_19 ?_
  refine pg_put (ci := 15) (v := .int (nI z_32)) (ty := .int) (C := RX15) (T := TX15) (N := 59) hx hb hts it_15 tyX15 tyX15_ok nmX15 hown hK hP hD hS hL_h0 hF_70 rfl 2 (by decide) (hts _ kt_909) (fun _ h9 => h9) rfl (by decide +kernel) (rfl) (rfl) (Nat.le_of_ble_eq_true rfl) dX15_tell_22 (fun H locs hP hD hS => ?_)
  obtain ⟨F_73, he_74, hP, hD, hO, hR⟩ : ∃ G, G = va_up F_66 h0 (.inr (15, (.ref ta) :: (.int (nI zt)) :: (.int (nI z_32)) :: (.int (nI ze)) :: (.ref ou) :: (.ref so) :: (.ref ad) :: (.ref na) :: (.ref va) :: (.ref lc) :: (.ref dm) :: (.int (nI fm)) :: (.int (nI sn)) :: (.ref tg) :: (.int v14_36) :: (.int v15_37) :: (.ref pe) :: (.int v17_38) :: (.int v18_39) :: (.int v19_40) :: (.int v20_41) :: (.int v21_42) :: (.int v22_43) :: (.ref ml) :: (.ref bg) :: (.ref co) :: (.ref sp) :: (.ref nb0) :: (.ref nb1) :: (.ref nb2) :: (.int (nI nf)) :: (.int (nI bd)) :: (.int (nI mm)) :: (.int v33_44) :: (.ref pl) :: (.ref se) :: (.ref ke) :: (.ref wi) :: (.ref hs) :: (.ref mo) :: (.ref po) :: (.ref nu) :: (.ref pr) :: (.ref sq) :: (.ref xa) :: (.ref sa) :: (.ref n64) :: (.ref m64) :: (.ref ex) :: (.ref wh) :: (.ref sd) :: (.ref tk) :: (.int v52_45) :: (.int v53_46) :: (.int v54_47) :: (.ref hd) :: (.ref ak) :: (.ref ho) :: (.ref ot) :: [])) ∧ va_P (dC, dI) vwCl (va_pl L G) H ∧ va_D A (va_pl L G) ∧ OKm cs ty gm L G ∧ FR ty [ρ, ρ + 2] F G := ⟨_, rfl, hP, hD, hO.up (shm.mod hT_h0 ⟨z_32, v14_36, v15_37, v17_38, v18_39, v19_40, v20_41, v21_42, v22_43, v33_44, v52_45, v53_46, v54_47, rfl, (by first | omega | assumption | exact Or.inl rfl | exact Or.inr rfl), (by first | omega | assumption | exact Or.inl rfl | exact Or.inr rfl), (by first | omega | assumption | exact Or.inl rfl | exact Or.inr rfl), (by first | omega | assumption | exact Or.inl rfl | exact Or.inr rfl), (by first | omega | assumption | exact Or.inl rfl | exact Or.inr rfl)⟩), hR.up hT_h0 (by simp)⟩
  have hF_75 : F_73 h0 = .inr (15, (.ref ta) :: (.int (nI zt)) :: (.int (nI z_32)) :: (.int (nI ze)) :: (.ref ou) :: (.ref so) :: (.ref ad) :: (.ref na) :: (.ref va) :: (.ref lc) :: (.ref dm) :: (.int (nI fm)) :: (.int (nI sn)) :: (.ref tg) :: (.int v14_36) :: (.int v15_37) :: (.ref pe) :: (.int v17_38) :: (.int v18_39) :: (.int v19_40) :: (.int v20_41) :: (.int v21_42) :: (.int v22_43) :: (.ref ml) :: (.ref bg) :: (.ref co) :: (.ref sp) :: (.ref nb0) :: (.ref nb1) :: (.ref nb2) :: (.int (nI nf)) :: (.int (nI bd)) :: (.int (nI mm)) :: (.int v33_44) :: (.ref pl) :: (.ref se) :: (.ref ke) :: (.ref wi) :: (.ref hs) :: (.ref mo) :: (.ref po) :: (.ref nu) :: (.ref pr) :: (.ref sq) :: (.ref xa) :: (.ref sa) :: (.ref n64) :: (.ref m64) :: (.ref ex) :: (.ref wh) :: (.ref sd) :: (.ref tk) :: (.int v52_45) :: (.int v53_46) :: (.int v54_47) :: (.ref hd) :: (.ref ak) :: (.ref ho) :: (.ref ot) :: []) := by rw [he_74]; exact up_self
  have hF_76 : F_73 ou = .inl (cs 17, 6000, .inl f_71) := by rw [he_74, up_ne (ne_ty ht_60 hT_h0 (by simp))]; exact hF_68
  have hF_77 : F_73 g1 = .inr (14, [.ref r1, .int (nI z_32)]) := by rw [he_74, up_ne (ne_ty hT_g1 hT_h0 (by simp))]; exact hF_69
  refine lv_aload_n hx hb dX15_tell_25 rfl (lv_at hl 1 rfl) ?_
  refine pg_get (ci := 14) (v := .int (nI z_32)) (C := RX14) (T := TX14) (N := 2) hx hb hts it_14 hown hK hP hL_g1 hF_77 rfl 1 (by decide) (hts _ kt_709) (fun _ h9 => h9) rfl dX15_tell_26 ?_
  refine W.widen (k := 0) (n := 0) (by omega) (by omega) ?_
  exact W.iret (v := (nI z_32)) hx hb hr (fun t ht hWm => ⟨⟨(nI z_32), (), rfl, trivial, ⟨F_73, QTm.mk ht hP hD hO hR⟩⟩, hS.F ht⟩) hS.2.2 dX15_tell_29
set_option maxHeartbeats 4000000 in
set_option maxRecDepth 100000 in
theorem s_X15_plainBody (l : Launch) (dC : Nat → ClassId) (dI : Nat → Nat → Nat) (cs : Nat → ClassId) (ty : TyM) (gm : Nat → Nat → Nat) (L : List Nat) (sz : Nat) (F : Nat → va_E) (h0 : Nat) (ρ : Nat) (ta : Nat) (ou : Nat) (so : Nat) (ad : Nat) (na : Nat) (va : Nat) (lc : Nat) (dm : Nat) (tg : Nat) (pe : Nat) (ml : Nat) (bg : Nat) (co : Nat) (sp : Nat) (nb0 : Nat) (nb1 : Nat) (nb2 : Nat) (pl : Nat) (se : Nat) (ke : Nat) (wi : Nat) (hs : Nat) (mo : Nat) (po : Nat) (nu : Nat) (pr : Nat) (sq : Nat) (xa : Nat) (sa : Nat) (n64 : Nat) (m64 : Nat) (ex : Nat) (wh : Nat) (sd : Nat) (tk : Nat) (hd : Nat) (ak : Nat) (ho : Nat) (ot : Nat) (sx : Nat) (s0 : Nat) (s1 : Nat) (s2 : Nat) (nf : Nat) (bd : Nat) (mm : Nat) (fm : Nat) (sn : Nat) (hg : Nat) (gc : Nat) (gv : Nat) (ze : Nat) (zt : Nat) (rl : Nat) (x1 : Int32) (hW : WTm ty gm L) (hL_h0 : h0 ∈ L) (hT_h0 : ty h0 = (15, ρ, [ta, ou, so, ad, na, va, lc, dm, tg, pe, ml, bg, co, sp, nb0, nb1, nb2, pl, se, ke, wi, hs, mo, po, nu, pr, sq, xa, sa, n64, m64, ex, wh, sd, tk, hd, ak, ho, ot, sx, s0, s1, s2, nf, bd, mm, fm, sn, hg, gc, gv, ze, zt])) (hL_pl : pl ∈ L) (hT_pl : ty pl = (14, ρ + 10, [rl, 6000])) : Met l yX15_plainBody (.code yX15_plainBody cX15_plainBody 2 (some .int) :: tb) ({ frames := 3, cells := 0, slots := 0, locals := 72 }) (va_Pc [.ref h0, .int x1] (PTm (dC, dI) cs ty gm L F sz)) (va_Qi (fun (r : Int32) (_ : Unit) => True) (fun _ T9 => ∃ F2 : Nat → va_E, QTm (dC, dI) cs ty gm L [ρ, ρ + 2, ρ + 10] F F2 (va_A (va_pl L F) sz) T9) (va_A (va_pl L F) sz)) 0 0 (va_A (va_pl L F) sz) := by
  refine Met.ofW (cc := cX15_plainBody) (maxL := 2) (ret := (some .int)) (by decide) rfl ?_
  intro p e s m args below meth c s₁ B hml hv
  obtain ⟨rfl, hsz, hP, hK, hD0, hE, hO⟩ := hv
  have hx := B.exec
  have hb := B.bytes
  have hr := B.returns
  have hts : ∀ w ∈ tb, w.before _ s = true := fun w h => atoms_spec (ws := .code yX15_plainBody cX15_plainBody 2 (some .int) :: tb) B.pre w (List.mem_cons_of_mem _ h)
  have hown : s.vm.findClass RX15 = some m.cls := findClass_of_methodNamed B.named
  have hlocks := B.notSynchronized
  subst hsz
  have hD := hD0.self (sz := s.heap.size)
  generalize hAe : va_A (va_pl L F) s.heap.size = A at hD ⊢
  have hA : ∀ q : Nat, s.heap.size ≤ q → A q := fun q h => by rw [← hAe]; exact Or.inr h
  have hS : va_S A s.heap s.heap [] := va_S.rf
  have hR : FR ty [ρ, ρ + 2, ρ + 10] F F := FR.refl
  have hl := lv_entry ([.ref h0, .int x1]) (n := 2) (Nat.le_of_ble_eq_true rfl)
  rw [lg_entry_eq]
  generalize (lg_sl ([.ref h0, .int x1]) ++ List.replicate (2 - (lg_sl ([.ref h0, .int x1])).length) Slot.unset).toArray = ls at hl ⊢
  have hl : lv_has ls 2 [(0, .ref h0), (1, .int x1)] := hl
  obtain ⟨hq_22, hq_23, hq_24, hq_25, hq_26, hgO, hgA, hgB, hq_27⟩ := hW.sc hL_h0 hT_h0
  obtain ⟨hi_28, ht_29, hq_30⟩ := hW.txt hL_pl hT_pl
  refine lv_aload_n hx hb dX15_plainBody_0 rfl (lv_at hl 0 rfl) ?_
  obtain ⟨zo_31, v14_32, v15_33, v17_34, v18_35, v19_36, v20_37, v21_38, v22_39, v33_40, v52_41, v53_42, v54_43, hF_44, hq_45, hq_46, hq_47, hq_48, hq_49⟩ := hO.mod hL_h0 hT_h0
  refine pg_get (ci := 15) (v := .int v33_40) (C := RX15) (T := TX15) (N := 59) hx hb hts it_15 hown hK hP hL_h0 hF_44 rfl 33 (by decide) (hts _ kt_891) (fun _ h9 => h9) rfl dX15_plainBody_1 ?_
  refine lv_if_ne (tgt := 10) hx hb dX15_plainBody_4 (by decide) (fun c_50 => ?_) (fun c_50 => ?_)
  ·
    have hbd1 : 1 ≤ bd := by have h9 := (hq_47.resolve_left (fun q => c_50 q.1)).2; omega
    refine lv_aload_n hx hb dX15_plainBody_10 rfl (lv_at hl 0 rfl) ?_
    refine lv_iload_n hx hb dX15_plainBody_11 rfl (lv_at hl 1 rfl) ?_
    have hFc := pg_free hD hS hA
    refine va_callv (va_runV (As := [.int x1]) (rest := []) ⟨hx, hb, hml, hown, hts⟩ (s_X15_bodyPlain l dC dI cs ty gm L s.heap.size F h0 ρ ta ou so ad na va lc dm tg pe ml bg co sp nb0 nb1 nb2 pl se ke wi hs mo po nu pr sq xa sa n64 m64 ex wh sd tk hd ak ho ot sx s0 s1 s2 nf bd mm fm sn hg gc gv ze zt rl x1 hW hL_h0 hT_h0 hL_pl hT_pl (by first | omega | assumption | exact Or.inl rfl)) ⟨callB_of 1 hts (gi kt_910) rfl rfl rfl (hts _ kt_669) (hts _ kt_911) (by decide +kernel) ⟨Nat.le_of_ble_eq_true rfl, Nat.le_of_ble_eq_true rfl⟩, (hts _ kt_912), (hts _ kt_913)⟩ ⟨fun a U g mk q => ⟨q.1, PTm.calling q.2⟩, pg_recv hK hP hL_h0 hF_44 (q := (RX15, TX15, 59)) rfl, fun U hU hWm => ⟨rfl, PTm.mk hU hWm hP hK hD hE hO⟩⟩ rfl rfl hl.1 rfl (lv_room (Nat.le_of_ble_eq_true rfl)) dX15_plainBody_12 ⟨by show _ + 0 ≤ 0; omega, by show _ + 0 ≤ 0; omega⟩) hS (fun q _ h => hFc q h) hFc (fun u t H1 locs ht hvm hw hB hz1 hk1 hS => ?_)
    obtain ⟨F_52, hB1⟩ := hB
    obtain ⟨hP, hD, hO, hR⟩ := QTm.back hB1 ht hFc hR (fun q h => by simp only [List.mem_cons, List.not_mem_nil, or_false] at h ⊢; omega)
    have hF_53 : F_52 h0 = .inr (15, (.ref ta) :: (.int (nI zt)) :: (.int (nI zo_31)) :: (.int (nI ze)) :: (.ref ou) :: (.ref so) :: (.ref ad) :: (.ref na) :: (.ref va) :: (.ref lc) :: (.ref dm) :: (.int (nI fm)) :: (.int (nI sn)) :: (.ref tg) :: (.int v14_32) :: (.int v15_33) :: (.ref pe) :: (.int v17_34) :: (.int v18_35) :: (.int v19_36) :: (.int v20_37) :: (.int v21_38) :: (.int v22_39) :: (.ref ml) :: (.ref bg) :: (.ref co) :: (.ref sp) :: (.ref nb0) :: (.ref nb1) :: (.ref nb2) :: (.int (nI nf)) :: (.int (nI bd)) :: (.int (nI mm)) :: (.int v33_40) :: (.ref pl) :: (.ref se) :: (.ref ke) :: (.ref wi) :: (.ref hs) :: (.ref mo) :: (.ref po) :: (.ref nu) :: (.ref pr) :: (.ref sq) :: (.ref xa) :: (.ref sa) :: (.ref n64) :: (.ref m64) :: (.ref ex) :: (.ref wh) :: (.ref sd) :: (.ref tk) :: (.int v52_41) :: (.int v53_42) :: (.int v54_43) :: (.ref hd) :: (.ref ak) :: (.ref ho) :: (.ref ot) :: []) := (hB1.2.2.2 h0 (by rw [hT_h0]; simp)).trans hF_44
    generalize H1 = H at hP hS ⊢
    refine lv_aload_n hx hb dX15_plainBody_15 rfl (lv_at hl 0 rfl) ?_
    refine lv_aload_n hx hb dX15_plainBody_16 rfl (lv_at hl 0 rfl) ?_
    refine pg_get (ci := 15) (v := .ref pl) (C := RX15) (T := TX15) (N := 59) hx hb hts it_15 hown hK hP hL_h0 hF_53 rfl 34 (by decide) (hts _ kt_901) (fun _ h9 => h9) rfl dX15_plainBody_17 ?_
    have hFc := pg_free hD hS hA
    refine va_calli (va_runV (As := [.ref pl]) (rest := []) ⟨hx, hb, hml, hown, hts⟩ (s_X15_tell l dC dI cs ty gm L H.size F_52 h0 ρ ta ou so ad na va lc dm tg pe ml bg co sp nb0 nb1 nb2 pl se ke wi hs mo po nu pr sq xa sa n64 m64 ex wh sd tk hd ak ho ot sx s0 s1 s2 nf bd mm fm sn hg gc gv ze zt pl (ρ + 10) rl hW hL_h0 hT_h0 hL_pl hT_pl) ⟨callB_of 1 hts (gi kt_914) rfl rfl rfl (hts _ kt_669) (hts _ kt_915) (by decide +kernel) ⟨Nat.le_of_ble_eq_true rfl, Nat.le_of_ble_eq_true rfl⟩, (hts _ kt_916), (hts _ kt_917)⟩ ⟨fun a U g mk q => ⟨q.1, PTm.calling q.2⟩, pg_recv hK hP hL_h0 hF_53 (q := (RX15, TX15, 59)) rfl, fun U hU hWm => ⟨rfl, PTm.mk hU hWm hP hK hD hE hO⟩⟩ rfl rfl hl.1 rfl (lv_room (Nat.le_of_ble_eq_true rfl)) dX15_plainBody_20 ⟨by show _ + 0 ≤ 0; omega, by show _ + 0 ≤ 0; omega⟩) hS (fun q _ h => hFc q h) hFc (fun r_54 u t H1 locs ht hvm hw hB hz1 hk1 hS => ?_)
    obtain ⟨F_55, hB1⟩ := hB
    obtain ⟨hP, hD, hO, hR⟩ := QTm.back hB1 ht hFc hR (fun q h => by simp only [List.mem_cons, List.not_mem_nil, or_false] at h ⊢; omega)
    generalize H1 = H at hP hS ⊢
    have hw : True := hw
    have hw_56 := hw
    refine W.widen (k := 0) (n := 0) (by omega) (by omega) ?_
    exact W.iret (v := r_54) hx hb hr (fun t ht hWm => ⟨⟨r_54, (), rfl, trivial, ⟨F_55, QTm.mk ht hP hD hO hR⟩⟩, hS.F ht⟩) hS.2.2 dX15_plainBody_23
  ·
    refine lv_bipush (v := (-2)) hx hb dX15_plainBody_7 (by decide) ?_
    refine W.widen (k := 0) (n := 0) (by omega) (by omega) ?_
    exact W.iret (v := (-2)) hx hb hr (fun t ht hWm => ⟨⟨(-2), (), rfl, trivial, ⟨F, QTm.mk ht hP hD hO hR⟩⟩, hS.F ht⟩) hS.2.2 dX15_plainBody_9
set_option maxHeartbeats 4000000 in
set_option maxRecDepth 100000 in
theorem s_X15_plainField (l : Launch) (dC : Nat → ClassId) (dI : Nat → Nat → Nat) (cs : Nat → ClassId) (ty : TyM) (gm : Nat → Nat → Nat) (L : List Nat) (sz : Nat) (F : Nat → va_E) (h0 : Nat) (ρ : Nat) (ta : Nat) (ou : Nat) (so : Nat) (ad : Nat) (na : Nat) (va : Nat) (lc : Nat) (dm : Nat) (tg : Nat) (pe : Nat) (ml : Nat) (bg : Nat) (co : Nat) (sp : Nat) (nb0 : Nat) (nb1 : Nat) (nb2 : Nat) (pl : Nat) (se : Nat) (ke : Nat) (wi : Nat) (hs : Nat) (mo : Nat) (po : Nat) (nu : Nat) (pr : Nat) (sq : Nat) (xa : Nat) (sa : Nat) (n64 : Nat) (m64 : Nat) (ex : Nat) (wh : Nat) (sd : Nat) (tk : Nat) (hd : Nat) (ak : Nat) (ho : Nat) (ot : Nat) (sx : Nat) (s0 : Nat) (s1 : Nat) (s2 : Nat) (nf : Nat) (bd : Nat) (mm : Nat) (fm : Nat) (sn : Nat) (hg : Nat) (gc : Nat) (gv : Nat) (ze : Nat) (zt : Nat) (rl : Nat) (x1 : Int32) (x2 : Int32) (hW : WTm ty gm L) (hL_h0 : h0 ∈ L) (hT_h0 : ty h0 = (15, ρ, [ta, ou, so, ad, na, va, lc, dm, tg, pe, ml, bg, co, sp, nb0, nb1, nb2, pl, se, ke, wi, hs, mo, po, nu, pr, sq, xa, sa, n64, m64, ex, wh, sd, tk, hd, ak, ho, ot, sx, s0, s1, s2, nf, bd, mm, fm, sn, hg, gc, gv, ze, zt])) (hL_pl : pl ∈ L) (hT_pl : ty pl = (14, ρ + 10, [rl, 6000])) : Met l yX15_plainField (.code yX15_plainField cX15_plainField 3 (some .int) :: tb) ({ frames := 2, cells := 0, slots := 0, locals := 69 }) (va_Pc [.ref h0, .int x1, .int x2] (PTm (dC, dI) cs ty gm L F sz)) (va_Qi (fun (r : Int32) (_ : Unit) => True) (fun _ T9 => ∃ F2 : Nat → va_E, QTm (dC, dI) cs ty gm L [ρ, ρ + 2, ρ + 10] F F2 (va_A (va_pl L F) sz) T9) (va_A (va_pl L F) sz)) 0 0 (va_A (va_pl L F) sz) := by
  refine Met.ofW (cc := cX15_plainField) (maxL := 3) (ret := (some .int)) (by decide) rfl ?_
  intro p e s m args below meth c s₁ B hml hv
  obtain ⟨rfl, hsz, hP, hK, hD0, hE, hO⟩ := hv
  have hx := B.exec
  have hb := B.bytes
  have hr := B.returns
  have hts : ∀ w ∈ tb, w.before _ s = true := fun w h => atoms_spec (ws := .code yX15_plainField cX15_plainField 3 (some .int) :: tb) B.pre w (List.mem_cons_of_mem _ h)
  have hown : s.vm.findClass RX15 = some m.cls := findClass_of_methodNamed B.named
  have hlocks := B.notSynchronized
  subst hsz
  have hD := hD0.self (sz := s.heap.size)
  generalize hAe : va_A (va_pl L F) s.heap.size = A at hD ⊢
  have hA : ∀ q : Nat, s.heap.size ≤ q → A q := fun q h => by rw [← hAe]; exact Or.inr h
  have hS : va_S A s.heap s.heap [] := va_S.rf
  have hR : FR ty [ρ, ρ + 2, ρ + 10] F F := FR.refl
  have hl := lv_entry ([.ref h0, .int x1, .int x2]) (n := 3) (Nat.le_of_ble_eq_true rfl)
  rw [lg_entry_eq]
  generalize (lg_sl ([.ref h0, .int x1, .int x2]) ++ List.replicate (3 - (lg_sl ([.ref h0, .int x1, .int x2])).length) Slot.unset).toArray = ls at hl ⊢
  have hl : lv_has ls 3 [(0, .ref h0), (1, .int x1), (2, .int x2)] := hl
  obtain ⟨hq_22, hq_23, hq_24, hq_25, hq_26, hgO, hgA, hgB, hq_27⟩ := hW.sc hL_h0 hT_h0
  obtain ⟨hi_28, ht_29, hq_30⟩ := hW.txt hL_pl hT_pl
  refine lv_aload_n hx hb dX15_plainField_0 rfl (lv_at hl 0 rfl) ?_
  obtain ⟨zo_31, v14_32, v15_33, v17_34, v18_35, v19_36, v20_37, v21_38, v22_39, v33_40, v52_41, v53_42, v54_43, hF_44, hq_45, hq_46, hq_47, hq_48, hq_49⟩ := hO.mod hL_h0 hT_h0
  refine pg_get (ci := 15) (v := .int v33_40) (C := RX15) (T := TX15) (N := 59) hx hb hts it_15 hown hK hP hL_h0 hF_44 rfl 33 (by decide) (hts _ kt_891) (fun _ h9 => h9) rfl dX15_plainField_1 ?_
  refine lv_if_eq (tgt := 23) hx hb dX15_plainField_4 (by decide) (fun c_50 => ?_) (fun c_50 => ?_)
  ·
    refine lv_bipush (v := (-2)) hx hb dX15_plainField_23 (by decide) ?_
    refine W.widen (k := 0) (n := 0) (by omega) (by omega) ?_
    exact W.iret (v := (-2)) hx hb hr (fun t ht hWm => ⟨⟨(-2), (), rfl, trivial, ⟨F, QTm.mk ht hP hD hO hR⟩⟩, hS.F ht⟩) hS.2.2 dX15_plainField_25
  ·
    refine lv_iload_n hx hb dX15_plainField_7 rfl (lv_at hl 1 rfl) ?_
    refine lv_i2l (v := x1.toInt64) hx hb dX15_plainField_8 rfl ?_
    refine lv_lconst (v := 0) hx hb dX15_plainField_9 (by decide) ?_
    refine lv_aload_n hx hb dX15_plainField_10 rfl (lv_at hl 0 rfl) ?_
    refine pg_get (ci := 15) (v := .int (nI nf)) (C := RX15) (T := TX15) (N := 59) hx hb hts it_15 hown hK hP hL_h0 hF_44 rfl 30 (by decide) (hts _ kt_892) (fun _ h9 => h9) rfl dX15_plainField_11 ?_
    refine lv_iconst (v := 1) hx hb dX15_plainField_14 (by decide) ?_
    refine lv_isub hx hb dX15_plainField_15 ?_
    refine lv_topi (fun x_51 ex_51 => ?_)
    obtain rfl : x_51 = (nI nf - 1) := ex_51.trans (rfl)
    refine lv_i2l (v := (nI nf - 1).toInt64) hx hb dX15_plainField_16 rfl ?_
    have hFc := pg_free hD hS hA
    refine va_calli (va_runS (As := [.long x1.toInt64, .long 0, .long ((nI nf - 1).toInt64)]) (rest := []) ⟨hx, hb, hml, hown, hts⟩ (s_X15_in l dC dI cs ty gm L s.heap.size F x1.toInt64 0 ((nI nf - 1).toInt64) hW ) ⟨callB_of 3 hts (gi kt_685) rfl rfl rfl (hts _ kt_669) (hts _ kt_705) (by decide +kernel) ⟨Nat.le_of_ble_eq_true rfl, Nat.le_of_ble_eq_true rfl⟩, (hts _ kt_686)⟩ ⟨fun a U g mk q => ⟨q.1, PTm.calling q.2⟩, fun U hU hWm => ⟨rfl, PTm.mk hU hWm hP hK hD hE hO⟩⟩ rfl rfl hl.1 rfl (lv_room (Nat.le_of_ble_eq_true rfl)) dX15_plainField_17 ⟨by show _ + 0 ≤ 0; omega, by show _ + 0 ≤ 0; omega⟩) hS (fun q _ h => hFc q h) hFc (fun r_52 u t H1 locs ht hvm hw hB hz1 hk1 hS => ?_)
    obtain ⟨F_53, hB1⟩ := hB
    obtain rfl : F = F_53 := (funext (fun a => hB1.2.2.2 a List.not_mem_nil)).symm
    obtain ⟨hP, hD, hO, hR⟩ := QTm.back hB1 ht hFc hR (fun q h => absurd h List.not_mem_nil)
    generalize H1 = H at hP hS ⊢
    have hw : r_52 = (if 0 ≤ x1.toInt64 ∧ x1.toInt64 ≤ (nI nf - 1).toInt64 then 1 else 0) := hw
    have hw_54 := hw
    refine lv_if_ne (tgt := 26) hx hb dX15_plainField_20 (by decide) (fun c_55 => ?_) (fun c_55 => ?_)
    ·
      have hin := in_int hw_54 c_55
      rw [Int32.toInt_toInt64, show (1 : Int32) = nI 1 from rfl, pk_sub_toInt (by omega) (by omega), show (0 : Int64).toInt = 0 from by decide] at hin
      obtain ⟨jf, hjf0, rfl⟩ := nI_of (x := x1) (fun h => by rw [Int32.lt_iff_toInt_lt, show (0 : Int32).toInt = 0 from by decide] at h; omega)
      rw [nI_toInt hjf0] at hin
      have hjf : jf < nf := by omega
      have hoj := hgO jf hjf
      refine lv_aload_n hx hb dX15_plainField_26 rfl (lv_at hl 0 rfl) ?_
      refine pg_get (ci := 15) (v := .ref pl) (C := RX15) (T := TX15) (N := 59) hx hb hts it_15 hown hK hP hL_h0 hF_44 rfl 34 (by decide) (hts _ kt_901) (fun _ h9 => h9) rfl dX15_plainField_27 ?_
      refine lv_iconst (v := 0) hx hb dX15_plainField_30 (by decide) ?_
      obtain ⟨z_56, hF_57, hq_58⟩ := hO.txt hL_pl hT_pl
      refine pg_put (ci := 14) (v := .int 0) (ty := .int) (C := RX14) (T := TX14) (N := 2) hx hb hts it_14 tyX14 tyX14_ok nmX14 hown hK hP hD hS hL_pl hF_57 rfl 1 (by decide) (hts _ kt_709) (fun _ h9 => h9) rfl (by decide +kernel) (rfl) (rfl) (Nat.le_of_ble_eq_true rfl) dX15_plainField_31 (fun H locs hP hD hS => ?_)
      obtain ⟨F_59, he_60, hP, hD, hO, hR⟩ : ∃ G, G = va_up F pl (.inr (14, [.ref rl, .int 0])) ∧ va_P (dC, dI) vwCl (va_pl L G) H ∧ va_D A (va_pl L G) ∧ OKm cs ty gm L G ∧ FR ty [ρ, ρ + 2, ρ + 10] F G := ⟨_, rfl, hP, hD, hO.up (shm.txt hT_pl ⟨0, rfl, (by first | omega | assumption | exact Or.inl rfl | exact Or.inr rfl)⟩), hR.up hT_pl (by simp)⟩
      have hF_61 : F_59 pl = .inr (14, [.ref rl, .int 0]) := by rw [he_60]; exact up_self
      have hF_62 : F_59 h0 = .inr (15, (.ref ta) :: (.int (nI zt)) :: (.int (nI zo_31)) :: (.int (nI ze)) :: (.ref ou) :: (.ref so) :: (.ref ad) :: (.ref na) :: (.ref va) :: (.ref lc) :: (.ref dm) :: (.int (nI fm)) :: (.int (nI sn)) :: (.ref tg) :: (.int v14_32) :: (.int v15_33) :: (.ref pe) :: (.int v17_34) :: (.int v18_35) :: (.int v19_36) :: (.int v20_37) :: (.int v21_38) :: (.int v22_39) :: (.ref ml) :: (.ref bg) :: (.ref co) :: (.ref sp) :: (.ref nb0) :: (.ref nb1) :: (.ref nb2) :: (.int (nI nf)) :: (.int (nI bd)) :: (.int (nI mm)) :: (.int v33_40) :: (.ref pl) :: (.ref se) :: (.ref ke) :: (.ref wi) :: (.ref hs) :: (.ref mo) :: (.ref po) :: (.ref nu) :: (.ref pr) :: (.ref sq) :: (.ref xa) :: (.ref sa) :: (.ref n64) :: (.ref m64) :: (.ref ex) :: (.ref wh) :: (.ref sd) :: (.ref tk) :: (.int v52_41) :: (.int v53_42) :: (.int v54_43) :: (.ref hd) :: (.ref ak) :: (.ref ho) :: (.ref ot) :: []) := by rw [he_60, up_ne (ne_ty hT_h0 hT_pl (by simp))]; exact hF_44
      refine lv_aload_n hx hb dX15_plainField_34 rfl (lv_at hl 0 rfl) ?_
      refine lv_iload_n hx hb dX15_plainField_35 rfl (lv_at hl 1 rfl) ?_
      refine lv_iload_n hx hb dX15_plainField_36 rfl (lv_at hl 2 rfl) ?_
      refine lv_iconst (v := 0) hx hb dX15_plainField_37 (by decide) ?_
      refine lv_iconst (v := 0) hx hb dX15_plainField_38 (by decide) ?_
      have hFc := pg_free hD hS hA
      refine va_callv (va_runV (As := [.int (nI jf), .int x2, .int 0, .int 0]) (rest := []) ⟨hx, hb, hml, hown, hts⟩ (s_X15_fieldPlain l dC dI cs ty gm L H.size F_59 h0 ρ ta ou so ad na va lc dm tg pe ml bg co sp nb0 nb1 nb2 pl se ke wi hs mo po nu pr sq xa sa n64 m64 ex wh sd tk hd ak ho ot sx s0 s1 s2 nf bd mm fm sn hg gc gv ze zt rl jf 0 x2 0 0 hW hL_h0 hT_h0 hL_pl hT_pl (by first | omega | assumption | exact Or.inl rfl) hF_61 (by first | omega | assumption | exact Or.inl rfl)) ⟨callB_of 4 hts (gi kt_918) rfl rfl rfl (hts _ kt_669) (hts _ kt_919) (by decide +kernel) ⟨Nat.le_of_ble_eq_true rfl, Nat.le_of_ble_eq_true rfl⟩, (hts _ kt_920), (hts _ kt_921)⟩ ⟨fun a U g mk q => ⟨q.1, PTm.calling q.2⟩, pg_recv hK hP hL_h0 hF_62 (q := (RX15, TX15, 59)) rfl, fun U hU hWm => ⟨rfl, PTm.mk hU hWm hP hK hD hE hO⟩⟩ rfl rfl hl.1 rfl (lv_room (Nat.le_of_ble_eq_true rfl)) dX15_plainField_39 ⟨by show _ + 0 ≤ 0; omega, by show _ + 0 ≤ 0; omega⟩) hS (fun q _ h => hFc q h) hFc (fun u t H1 locs ht hvm hw hB hz1 hk1 hS => ?_)
      obtain ⟨F_64, z2_65, hB1, hq_66, hq_67⟩ := hB
      obtain ⟨hP, hD, hO, hR⟩ := QTm.back hB1 ht hFc hR (fun q h => by simp only [List.mem_cons, List.not_mem_nil, or_false] at h ⊢; omega)
      have hF_68 : F_64 h0 = .inr (15, (.ref ta) :: (.int (nI zt)) :: (.int (nI zo_31)) :: (.int (nI ze)) :: (.ref ou) :: (.ref so) :: (.ref ad) :: (.ref na) :: (.ref va) :: (.ref lc) :: (.ref dm) :: (.int (nI fm)) :: (.int (nI sn)) :: (.ref tg) :: (.int v14_32) :: (.int v15_33) :: (.ref pe) :: (.int v17_34) :: (.int v18_35) :: (.int v19_36) :: (.int v20_37) :: (.int v21_38) :: (.int v22_39) :: (.ref ml) :: (.ref bg) :: (.ref co) :: (.ref sp) :: (.ref nb0) :: (.ref nb1) :: (.ref nb2) :: (.int (nI nf)) :: (.int (nI bd)) :: (.int (nI mm)) :: (.int v33_40) :: (.ref pl) :: (.ref se) :: (.ref ke) :: (.ref wi) :: (.ref hs) :: (.ref mo) :: (.ref po) :: (.ref nu) :: (.ref pr) :: (.ref sq) :: (.ref xa) :: (.ref sa) :: (.ref n64) :: (.ref m64) :: (.ref ex) :: (.ref wh) :: (.ref sd) :: (.ref tk) :: (.int v52_41) :: (.int v53_42) :: (.int v54_43) :: (.ref hd) :: (.ref ak) :: (.ref ho) :: (.ref ot) :: []) := (hB1.2.2.2 h0 (by rw [hT_h0]; simp)).trans hF_62
      generalize H1 = H at hP hS ⊢
      refine lv_aload_n hx hb dX15_plainField_42 rfl (lv_at hl 0 rfl) ?_
      refine lv_aload_n hx hb dX15_plainField_43 rfl (lv_at hl 0 rfl) ?_
      refine pg_get (ci := 15) (v := .ref pl) (C := RX15) (T := TX15) (N := 59) hx hb hts it_15 hown hK hP hL_h0 hF_68 rfl 34 (by decide) (hts _ kt_901) (fun _ h9 => h9) rfl dX15_plainField_44 ?_
      have hFc := pg_free hD hS hA
      refine va_calli (va_runV (As := [.ref pl]) (rest := []) ⟨hx, hb, hml, hown, hts⟩ (s_X15_tell l dC dI cs ty gm L H.size F_64 h0 ρ ta ou so ad na va lc dm tg pe ml bg co sp nb0 nb1 nb2 pl se ke wi hs mo po nu pr sq xa sa n64 m64 ex wh sd tk hd ak ho ot sx s0 s1 s2 nf bd mm fm sn hg gc gv ze zt pl (ρ + 10) rl hW hL_h0 hT_h0 hL_pl hT_pl) ⟨callB_of 1 hts (gi kt_914) rfl rfl rfl (hts _ kt_669) (hts _ kt_915) (by decide +kernel) ⟨Nat.le_of_ble_eq_true rfl, Nat.le_of_ble_eq_true rfl⟩, (hts _ kt_916), (hts _ kt_917)⟩ ⟨fun a U g mk q => ⟨q.1, PTm.calling q.2⟩, pg_recv hK hP hL_h0 hF_68 (q := (RX15, TX15, 59)) rfl, fun U hU hWm => ⟨rfl, PTm.mk hU hWm hP hK hD hE hO⟩⟩ rfl rfl hl.1 rfl (lv_room (Nat.le_of_ble_eq_true rfl)) dX15_plainField_47 ⟨by show _ + 0 ≤ 0; omega, by show _ + 0 ≤ 0; omega⟩) hS (fun q _ h => hFc q h) hFc (fun r_69 u t H1 locs ht hvm hw hB hz1 hk1 hS => ?_)
      obtain ⟨F_70, hB1⟩ := hB
      obtain ⟨hP, hD, hO, hR⟩ := QTm.back hB1 ht hFc hR (fun q h => by simp only [List.mem_cons, List.not_mem_nil, or_false] at h ⊢; omega)
      have hF_71 : F_70 pl = .inr (14, [.ref rl, .int (nI z2_65)]) := (hB1.2.2.2 pl (by rw [hT_pl]; simp)).trans hq_66
      generalize H1 = H at hP hS ⊢
      have hw : True := hw
      have hw_72 := hw
      refine W.widen (k := 0) (n := 0) (by omega) (by omega) ?_
      exact W.iret (v := r_69) hx hb hr (fun t ht hWm => ⟨⟨r_69, (), rfl, trivial, ⟨F_70, QTm.mk ht hP hD hO hR⟩⟩, hS.F ht⟩) hS.2.2 dX15_plainField_50
    ·
      refine lv_bipush (v := (-2)) hx hb dX15_plainField_23 (by decide) ?_
      refine W.widen (k := 0) (n := 0) (by omega) (by omega) ?_
      exact W.iret (v := (-2)) hx hb hr (fun t ht hWm => ⟨⟨(-2), (), rfl, trivial, ⟨F, QTm.mk ht hP hD hO hR⟩⟩, hS.F ht⟩) hS.2.2 dX15_plainField_25
