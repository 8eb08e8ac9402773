theorem dX15_expand_0 : decode cX15_expand 0 = .ok (.aload 5, 2) := by decide +kernel
theorem dX15_expand_2 : decode cX15_expand 2 = .ok (.iconst 0, 1) := by decide +kernel
theorem dX15_expand_3 : decode cX15_expand 3 = .ok (.putfield 190, 3) := by decide +kernel
theorem dX15_expand_6 : decode cX15_expand 6 = .ok (.iload_n 2, 1) := by decide +kernel
theorem dX15_expand_7 : decode cX15_expand 7 = .ok (.istore 6, 2) := by decide +kernel
theorem dX15_expand_9 : decode cX15_expand 9 = .ok (.iload 6, 2) := by decide +kernel
theorem dX15_expand_11 : decode cX15_expand 11 = .ok (.iload_n 3, 1) := by decide +kernel
theorem dX15_expand_12 : decode cX15_expand 12 = .ok (.if_icmp .ge 156, 3) := by decide +kernel
theorem dX15_expand_15 : decode cX15_expand 15 = .ok (.aload_n 1, 1) := by decide +kernel
theorem dX15_expand_16 : decode cX15_expand 16 = .ok (.iload 6, 2) := by decide +kernel
theorem dX15_expand_18 : decode cX15_expand 18 = .ok (.baload, 1) := by decide +kernel
theorem dX15_expand_19 : decode cX15_expand 19 = .ok (.bipush 37, 2) := by decide +kernel
theorem dX15_expand_21 : decode cX15_expand 21 = .ok (.if_icmp .eq 15, 3) := by decide +kernel
theorem dX15_expand_24 : decode cX15_expand 24 = .ok (.aload 5, 2) := by decide +kernel
theorem dX15_expand_26 : decode cX15_expand 26 = .ok (.aload_n 1, 1) := by decide +kernel
theorem dX15_expand_27 : decode cX15_expand 27 = .ok (.iload 6, 2) := by decide +kernel
theorem dX15_expand_29 : decode cX15_expand 29 = .ok (.baload, 1) := by decide +kernel
theorem dX15_expand_30 : decode cX15_expand 30 = .ok (.invokestatic 284, 3) := by decide +kernel
theorem dX15_expand_33 : decode cX15_expand 33 = .ok (.goto 129, 3) := by decide +kernel
theorem dX15_expand_36 : decode cX15_expand 36 = .ok (.aload_n 1, 1) := by decide +kernel
theorem dX15_expand_37 : decode cX15_expand 37 = .ok (.iload 6, 2) := by decide +kernel
theorem dX15_expand_39 : decode cX15_expand 39 = .ok (.iload_n 3, 1) := by decide +kernel
theorem dX15_expand_40 : decode cX15_expand 40 = .ok (.invokestatic 226, 3) := by decide +kernel
theorem dX15_expand_43 : decode cX15_expand 43 = .ok (.istore 7, 2) := by decide +kernel
theorem dX15_expand_45 : decode cX15_expand 45 = .ok (.aload_n 1, 1) := by decide +kernel
theorem dX15_expand_46 : decode cX15_expand 46 = .ok (.iload 6, 2) := by decide +kernel
theorem dX15_expand_48 : decode cX15_expand 48 = .ok (.iconst 1, 1) := by decide +kernel
theorem dX15_expand_49 : decode cX15_expand 49 = .ok (.iadd, 1) := by decide +kernel
theorem dX15_expand_50 : decode cX15_expand 50 = .ok (.baload, 1) := by decide +kernel
theorem dX15_expand_51 : decode cX15_expand 51 = .ok (.bipush 37, 2) := by decide +kernel
theorem dX15_expand_53 : decode cX15_expand 53 = .ok (.if_icmp .ne 13, 3) := by decide +kernel
theorem dX15_expand_56 : decode cX15_expand 56 = .ok (.aload 5, 2) := by decide +kernel
theorem dX15_expand_58 : decode cX15_expand 58 = .ok (.bipush 37, 2) := by decide +kernel
theorem dX15_expand_60 : decode cX15_expand 60 = .ok (.invokestatic 284, 3) := by decide +kernel
theorem dX15_expand_63 : decode cX15_expand 63 = .ok (.goto 65, 3) := by decide +kernel
theorem dX15_expand_66 : decode cX15_expand 66 = .ok (.aload_n 1, 1) := by decide +kernel
theorem dX15_expand_67 : decode cX15_expand 67 = .ok (.iload 6, 2) := by decide +kernel
theorem dX15_expand_69 : decode cX15_expand 69 = .ok (.iconst 1, 1) := by decide +kernel
theorem dX15_expand_70 : decode cX15_expand 70 = .ok (.iadd, 1) := by decide +kernel
theorem dX15_expand_71 : decode cX15_expand 71 = .ok (.baload, 1) := by decide +kernel
theorem dX15_expand_72 : decode cX15_expand 72 = .ok (.bipush 95, 2) := by decide +kernel
theorem dX15_expand_74 : decode cX15_expand 74 = .ok (.if_icmp .ne 13, 3) := by decide +kernel
theorem dX15_expand_77 : decode cX15_expand 77 = .ok (.aload 5, 2) := by decide +kernel
theorem dX15_expand_79 : decode cX15_expand 79 = .ok (.bipush 32, 2) := by decide +kernel
theorem dX15_expand_81 : decode cX15_expand 81 = .ok (.invokestatic 284, 3) := by decide +kernel
theorem dX15_expand_84 : decode cX15_expand 84 = .ok (.goto 44, 3) := by decide +kernel
theorem dX15_expand_87 : decode cX15_expand 87 = .ok (.aload_n 1, 1) := by decide +kernel
theorem dX15_expand_88 : decode cX15_expand 88 = .ok (.iload 6, 2) := by decide +kernel
theorem dX15_expand_90 : decode cX15_expand 90 = .ok (.iconst 1, 1) := by decide +kernel
theorem dX15_expand_91 : decode cX15_expand 91 = .ok (.iadd, 1) := by decide +kernel
theorem dX15_expand_92 : decode cX15_expand 92 = .ok (.baload, 1) := by decide +kernel
theorem dX15_expand_93 : decode cX15_expand 93 = .ok (.bipush 45, 2) := by decide +kernel
theorem dX15_expand_95 : decode cX15_expand 95 = .ok (.if_icmp .ne 13, 3) := by decide +kernel
theorem dX15_expand_98 : decode cX15_expand 98 = .ok (.aload 5, 2) := by decide +kernel
theorem dX15_expand_100 : decode cX15_expand 100 = .ok (.bipush 37, 2) := by decide +kernel
theorem dX15_expand_102 : decode cX15_expand 102 = .ok (.invokestatic 284, 3) := by decide +kernel
theorem dX15_expand_105 : decode cX15_expand 105 = .ok (.goto 23, 3) := by decide +kernel
theorem dX15_expand_108 : decode cX15_expand 108 = .ok (.aload_n 0, 1) := by decide +kernel
theorem dX15_expand_109 : decode cX15_expand 109 = .ok (.aload_n 1, 1) := by decide +kernel
theorem dX15_expand_110 : decode cX15_expand 110 = .ok (.iload 6, 2) := by decide +kernel
theorem dX15_expand_112 : decode cX15_expand 112 = .ok (.iconst 2, 1) := by decide +kernel
theorem dX15_expand_113 : decode cX15_expand 113 = .ok (.iadd, 1) := by decide +kernel
theorem dX15_expand_114 : decode cX15_expand 114 = .ok (.iload 6, 2) := by decide +kernel
theorem dX15_expand_116 : decode cX15_expand 116 = .ok (.iload 7, 2) := by decide +kernel
theorem dX15_expand_118 : decode cX15_expand 118 = .ok (.iadd, 1) := by decide +kernel
theorem dX15_expand_119 : decode cX15_expand 119 = .ok (.iconst 1, 1) := by decide +kernel
theorem dX15_expand_120 : decode cX15_expand 120 = .ok (.isub, 1) := by decide +kernel
theorem dX15_expand_121 : decode cX15_expand 121 = .ok (.aload 4, 2) := by decide +kernel
theorem dX15_expand_123 : decode cX15_expand 123 = .ok (.aload 5, 2) := by decide +kernel
theorem dX15_expand_125 : decode cX15_expand 125 = .ok (.invokevirtual 288, 3) := by decide +kernel
theorem dX15_expand_128 : decode cX15_expand 128 = .ok (.aload_n 1, 1) := by decide +kernel
theorem dX15_expand_129 : decode cX15_expand 129 = .ok (.iload 6, 2) := by decide +kernel
theorem dX15_expand_131 : decode cX15_expand 131 = .ok (.iconst 1, 1) := by decide +kernel
theorem dX15_expand_132 : decode cX15_expand 132 = .ok (.iadd, 1) := by decide +kernel
theorem dX15_expand_133 : decode cX15_expand 133 = .ok (.baload, 1) := by decide +kernel
theorem dX15_expand_134 : decode cX15_expand 134 = .ok (.bipush 45, 2) := by decide +kernel
theorem dX15_expand_136 : decode cX15_expand 136 = .ok (.if_icmp .ne 17, 3) := by decide +kernel
theorem dX15_expand_139 : decode cX15_expand 139 = .ok (.aload 5, 2) := by decide +kernel
theorem dX15_expand_141 : decode cX15_expand 141 = .ok (.bipush 50, 2) := by decide +kernel
theorem dX15_expand_143 : decode cX15_expand 143 = .ok (.invokestatic 284, 3) := by decide +kernel
theorem dX15_expand_146 : decode cX15_expand 146 = .ok (.aload 5, 2) := by decide +kernel
theorem dX15_expand_148 : decode cX15_expand 148 = .ok (.bipush 48, 2) := by decide +kernel
theorem dX15_expand_150 : decode cX15_expand 150 = .ok (.invokestatic 284, 3) := by decide +kernel
theorem dX15_expand_153 : decode cX15_expand 153 = .ok (.iload 6, 2) := by decide +kernel
theorem dX15_expand_155 : decode cX15_expand 155 = .ok (.iload 7, 2) := by decide +kernel
theorem dX15_expand_157 : decode cX15_expand 157 = .ok (.iconst 1, 1) := by decide +kernel
theorem dX15_expand_158 : decode cX15_expand 158 = .ok (.isub, 1) := by decide +kernel
theorem dX15_expand_159 : decode cX15_expand 159 = .ok (.iadd, 1) := by decide +kernel
theorem dX15_expand_160 : decode cX15_expand 160 = .ok (.istore 6, 2) := by decide +kernel
theorem dX15_expand_162 : decode cX15_expand 162 = .ok (.iinc 6 1, 3) := by decide +kernel
theorem dX15_expand_165 : decode cX15_expand 165 = .ok (.goto (-156), 3) := by decide +kernel
theorem dX15_expand_168 : decode cX15_expand 168 = .ok (.return_, 1) := by decide +kernel
theorem dX15_macroValue_0 : decode cX15_macroValue 0 = .ok (.aload_n 1, 1) := by decide +kernel
theorem dX15_macroValue_1 : decode cX15_macroValue 1 = .ok (.iload_n 2, 1) := by decide +kernel
theorem dX15_macroValue_2 : decode cX15_macroValue 2 = .ok (.baload, 1) := by decide +kernel
theorem dX15_macroValue_3 : decode cX15_macroValue 3 = .ok (.istore 6, 2) := by decide +kernel
theorem dX15_macroValue_5 : decode cX15_macroValue 5 = .ok (.iconst 0, 1) := by decide +kernel
theorem dX15_macroValue_6 : decode cX15_macroValue 6 = .ok (.istore 7, 2) := by decide +kernel
theorem dX15_macroValue_8 : decode cX15_macroValue 8 = .ok (.iconst 0, 1) := by decide +kernel
theorem dX15_macroValue_9 : decode cX15_macroValue 9 = .ok (.istore 8, 2) := by decide +kernel
theorem dX15_macroValue_11 : decode cX15_macroValue 11 = .ok (.aload_n 1, 1) := by decide +kernel
theorem dX15_macroValue_12 : decode cX15_macroValue 12 = .ok (.iload_n 3, 1) := by decide +kernel
theorem dX15_macroValue_13 : decode cX15_macroValue 13 = .ok (.iconst 1, 1) := by decide +kernel
theorem dX15_macroValue_14 : decode cX15_macroValue 14 = .ok (.isub, 1) := by decide +kernel
theorem dX15_macroValue_15 : decode cX15_macroValue 15 = .ok (.baload, 1) := by decide +kernel
theorem dX15_macroValue_16 : decode cX15_macroValue 16 = .ok (.bipush 114, 2) := by decide +kernel
theorem dX15_macroValue_18 : decode cX15_macroValue 18 = .ok (.if_icmp .ne 14, 3) := by decide +kernel
theorem dX15_macroValue_21 : decode cX15_macroValue 21 = .ok (.iload_n 3, 1) := by decide +kernel
theorem dX15_macroValue_22 : decode cX15_macroValue 22 = .ok (.iconst 1, 1) := by decide +kernel
theorem dX15_macroValue_23 : decode cX15_macroValue 23 = .ok (.isub, 1) := by decide +kernel
theorem dX15_macroValue_24 : decode cX15_macroValue 24 = .ok (.iload_n 2, 1) := by decide +kernel
theorem dX15_macroValue_25 : decode cX15_macroValue 25 = .ok (.if_icmp .le 7, 3) := by decide +kernel
theorem dX15_macroValue_28 : decode cX15_macroValue 28 = .ok (.iconst 1, 1) := by decide +kernel
theorem dX15_macroValue_29 : decode cX15_macroValue 29 = .ok (.goto 4, 3) := by decide +kernel
theorem dX15_macroValue_32 : decode cX15_macroValue 32 = .ok (.iconst 0, 1) := by decide +kernel
theorem dX15_macroValue_33 : decode cX15_macroValue 33 = .ok (.istore 9, 2) := by decide +kernel
theorem dX15_macroValue_35 : decode cX15_macroValue 35 = .ok (.iload_n 2, 1) := by decide +kernel
theorem dX15_macroValue_36 : decode cX15_macroValue 36 = .ok (.iconst 1, 1) := by decide +kernel
theorem dX15_macroValue_37 : decode cX15_macroValue 37 = .ok (.iadd, 1) := by decide +kernel
theorem dX15_macroValue_38 : decode cX15_macroValue 38 = .ok (.istore 10, 2) := by decide +kernel
theorem dX15_macroValue_40 : decode cX15_macroValue 40 = .ok (.iload 10, 2) := by decide +kernel
theorem dX15_macroValue_42 : decode cX15_macroValue 42 = .ok (.iload_n 3, 1) := by decide +kernel
theorem dX15_macroValue_43 : decode cX15_macroValue 43 = .ok (.if_icmp .ge 28, 3) := by decide +kernel
theorem dX15_macroValue_46 : decode cX15_macroValue 46 = .ok (.aload_n 1, 1) := by decide +kernel
theorem dX15_macroValue_47 : decode cX15_macroValue 47 = .ok (.iload 10, 2) := by decide +kernel
theorem dX15_macroValue_49 : decode cX15_macroValue 49 = .ok (.baload, 1) := by decide +kernel
theorem dX15_macroValue_50 : decode cX15_macroValue 50 = .ok (.invokestatic 202, 3) := by decide +kernel
theorem dX15_macroValue_53 : decode cX15_macroValue 53 = .ok (.ifCond .eq 12, 3) := by decide +kernel
theorem dX15_macroValue_56 : decode cX15_macroValue 56 = .ok (.aload_n 1, 1) := by decide +kernel
theorem dX15_macroValue_57 : decode cX15_macroValue 57 = .ok (.iload 10, 2) := by decide +kernel
theorem dX15_macroValue_59 : decode cX15_macroValue 59 = .ok (.baload, 1) := by decide +kernel
theorem dX15_macroValue_60 : decode cX15_macroValue 60 = .ok (.bipush 48, 2) := by decide +kernel
theorem dX15_macroValue_62 : decode cX15_macroValue 62 = .ok (.isub, 1) := by decide +kernel
theorem dX15_macroValue_63 : decode cX15_macroValue 63 = .ok (.istore 8, 2) := by decide +kernel
theorem dX15_macroValue_65 : decode cX15_macroValue 65 = .ok (.iinc 10 1, 3) := by decide +kernel
theorem dX15_macroValue_68 : decode cX15_macroValue 68 = .ok (.goto (-28), 3) := by decide +kernel
theorem dX15_macroValue_71 : decode cX15_macroValue 71 = .ok (.aload_n 0, 1) := by decide +kernel
theorem dX15_macroValue_72 : decode cX15_macroValue 72 = .ok (.getfield 67, 3) := by decide +kernel
theorem dX15_macroValue_75 : decode cX15_macroValue 75 = .ok (.iconst 0, 1) := by decide +kernel
theorem dX15_macroValue_76 : decode cX15_macroValue 76 = .ok (.putfield 190, 3) := by decide +kernel
theorem dX15_macroValue_79 : decode cX15_macroValue 79 = .ok (.iload 6, 2) := by decide +kernel
theorem dX15_macroValue_81 : decode cX15_macroValue 81 = .ok (.bipush 115, 2) := by decide +kernel
theorem dX15_macroValue_83 : decode cX15_macroValue 83 = .ok (.if_icmp .eq 10, 3) := by decide +kernel
theorem dX15_macroValue_86 : decode cX15_macroValue 86 = .ok (.iload 6, 2) := by decide +kernel
theorem dX15_macroValue_88 : decode cX15_macroValue 88 = .ok (.bipush 108, 2) := by decide +kernel
theorem dX15_macroValue_90 : decode cX15_macroValue 90 = .ok (.if_icmp .ne 25, 3) := by decide +kernel
theorem dX15_macroValue_93 : decode cX15_macroValue 93 = .ok (.aload_n 0, 1) := by decide +kernel
theorem dX15_macroValue_94 : decode cX15_macroValue 94 = .ok (.getfield 67, 3) := by decide +kernel
theorem dX15_macroValue_97 : decode cX15_macroValue 97 = .ok (.aload_n 0, 1) := by decide +kernel
theorem dX15_macroValue_98 : decode cX15_macroValue 98 = .ok (.getfield 57, 3) := by decide +kernel
theorem dX15_macroValue_101 : decode cX15_macroValue 101 = .ok (.getfield 295, 3) := by decide +kernel
theorem dX15_macroValue_104 : decode cX15_macroValue 104 = .ok (.iconst 0, 1) := by decide +kernel
theorem dX15_macroValue_105 : decode cX15_macroValue 105 = .ok (.aload_n 0, 1) := by decide +kernel
theorem dX15_macroValue_106 : decode cX15_macroValue 106 = .ok (.getfield 57, 3) := by decide +kernel
theorem dX15_macroValue_109 : decode cX15_macroValue 109 = .ok (.getfield 190, 3) := by decide +kernel
theorem dX15_macroValue_112 : decode cX15_macroValue 112 = .ok (.invokevirtual 298, 3) := by decide +kernel
theorem dX15_macroValue_115 : decode cX15_macroValue 115 = .ok (.iload 6, 2) := by decide +kernel
theorem dX15_macroValue_117 : decode cX15_macroValue 117 = .ok (.bipush 115, 2) := by decide +kernel
theorem dX15_macroValue_119 : decode cX15_macroValue 119 = .ok (.if_icmp .ne 12, 3) := by decide +kernel
theorem dX15_macroValue_122 : decode cX15_macroValue 122 = .ok (.aload_n 0, 1) := by decide +kernel
theorem dX15_macroValue_123 : decode cX15_macroValue 123 = .ok (.getfield 67, 3) := by decide +kernel
theorem dX15_macroValue_126 : decode cX15_macroValue 126 = .ok (.bipush 64, 2) := by decide +kernel
theorem dX15_macroValue_128 : decode cX15_macroValue 128 = .ok (.invokevirtual 292, 3) := by decide +kernel
theorem dX15_macroValue_131 : decode cX15_macroValue 131 = .ok (.iload 6, 2) := by decide +kernel
theorem dX15_macroValue_133 : decode cX15_macroValue 133 = .ok (.bipush 115, 2) := by decide +kernel
theorem dX15_macroValue_135 : decode cX15_macroValue 135 = .ok (.if_icmp .eq 10, 3) := by decide +kernel
theorem dX15_macroValue_138 : decode cX15_macroValue 138 = .ok (.iload 6, 2) := by decide +kernel
theorem dX15_macroValue_140 : decode cX15_macroValue 140 = .ok (.bipush 111, 2) := by decide +kernel
theorem dX15_macroValue_142 : decode cX15_macroValue 142 = .ok (.if_icmp .ne 25, 3) := by decide +kernel
theorem dX15_macroValue_145 : decode cX15_macroValue 145 = .ok (.aload_n 0, 1) := by decide +kernel
theorem dX15_macroValue_146 : decode cX15_macroValue 146 = .ok (.getfield 67, 3) := by decide +kernel
theorem dX15_macroValue_149 : decode cX15_macroValue 149 = .ok (.aload_n 0, 1) := by decide +kernel
theorem dX15_macroValue_150 : decode cX15_macroValue 150 = .ok (.getfield 61, 3) := by decide +kernel
theorem dX15_macroValue_153 : decode cX15_macroValue 153 = .ok (.getfield 295, 3) := by decide +kernel
theorem dX15_macroValue_156 : decode cX15_macroValue 156 = .ok (.iconst 0, 1) := by decide +kernel
theorem dX15_macroValue_157 : decode cX15_macroValue 157 = .ok (.aload_n 0, 1) := by decide +kernel
theorem dX15_macroValue_158 : decode cX15_macroValue 158 = .ok (.getfield 61, 3) := by decide +kernel
theorem dX15_macroValue_161 : decode cX15_macroValue 161 = .ok (.getfield 190, 3) := by decide +kernel
theorem dX15_macroValue_164 : decode cX15_macroValue 164 = .ok (.invokevirtual 298, 3) := by decide +kernel
theorem dX15_macroValue_167 : decode cX15_macroValue 167 = .ok (.iload 6, 2) := by decide +kernel
theorem dX15_macroValue_169 : decode cX15_macroValue 169 = .ok (.bipush 100, 2) := by decide +kernel
theorem dX15_macroValue_171 : decode cX15_macroValue 171 = .ok (.if_icmp .ne 21, 3) := by decide +kernel
theorem dX15_macroValue_174 : decode cX15_macroValue 174 = .ok (.aload_n 0, 1) := by decide +kernel
theorem dX15_macroValue_175 : decode cX15_macroValue 175 = .ok (.getfield 67, 3) := by decide +kernel
theorem dX15_macroValue_178 : decode cX15_macroValue 178 = .ok (.aload 4, 2) := by decide +kernel
theorem dX15_macroValue_180 : decode cX15_macroValue 180 = .ok (.getfield 295, 3) := by decide +kernel
theorem dX15_macroValue_183 : decode cX15_macroValue 183 = .ok (.iconst 0, 1) := by decide +kernel
theorem dX15_macroValue_184 : decode cX15_macroValue 184 = .ok (.aload 4, 2) := by decide +kernel
theorem dX15_macroValue_186 : decode cX15_macroValue 186 = .ok (.getfield 190, 3) := by decide +kernel
theorem dX15_macroValue_189 : decode cX15_macroValue 189 = .ok (.invokevirtual 298, 3) := by decide +kernel
theorem dX15_macroValue_192 : decode cX15_macroValue 192 = .ok (.bipush 24, 2) := by decide +kernel
theorem dX15_macroValue_194 : decode cX15_macroValue 194 = .ok (.istore 10, 2) := by decide +kernel
theorem dX15_macroValue_196 : decode cX15_macroValue 196 = .ok (.iload 6, 2) := by decide +kernel
theorem dX15_macroValue_198 : decode cX15_macroValue 198 = .ok (.bipush 105, 2) := by decide +kernel
theorem dX15_macroValue_200 : decode cX15_macroValue 200 = .ok (.if_icmp .ne 103, 3) := by decide +kernel
theorem dX15_macroValue_203 : decode cX15_macroValue 203 = .ok (.iload 10, 2) := by decide +kernel
theorem dX15_macroValue_205 : decode cX15_macroValue 205 = .ok (.ifCond .lt 98, 3) := by decide +kernel
theorem dX15_macroValue_208 : decode cX15_macroValue 208 = .ok (.aload_n 0, 1) := by decide +kernel
theorem dX15_macroValue_209 : decode cX15_macroValue 209 = .ok (.getfield 205, 3) := by decide +kernel
theorem dX15_macroValue_212 : decode cX15_macroValue 212 = .ok (.iload 10, 2) := by decide +kernel
theorem dX15_macroValue_214 : decode cX15_macroValue 214 = .ok (.ishr, 1) := by decide +kernel
theorem dX15_macroValue_215 : decode cX15_macroValue 215 = .ok (.sipush 255, 3) := by decide +kernel
theorem dX15_macroValue_218 : decode cX15_macroValue 218 = .ok (.iand, 1) := by decide +kernel
theorem dX15_macroValue_219 : decode cX15_macroValue 219 = .ok (.istore 11, 2) := by decide +kernel
theorem dX15_macroValue_221 : decode cX15_macroValue 221 = .ok (.iload 11, 2) := by decide +kernel
theorem dX15_macroValue_223 : decode cX15_macroValue 223 = .ok (.bipush 99, 2) := by decide +kernel
theorem dX15_macroValue_225 : decode cX15_macroValue 225 = .ok (.if_icmp .le 18, 3) := by decide +kernel
theorem dX15_macroValue_228 : decode cX15_macroValue 228 = .ok (.aload_n 0, 1) := by decide +kernel
theorem dX15_macroValue_229 : decode cX15_macroValue 229 = .ok (.getfield 67, 3) := by decide +kernel
theorem dX15_macroValue_232 : decode cX15_macroValue 232 = .ok (.bipush 48, 2) := by decide +kernel
theorem dX15_macroValue_234 : decode cX15_macroValue 234 = .ok (.iload 11, 2) := by decide +kernel
theorem dX15_macroValue_236 : decode cX15_macroValue 236 = .ok (.bipush 100, 2) := by decide +kernel
theorem dX15_macroValue_238 : decode cX15_macroValue 238 = .ok (.idiv, 1) := by decide +kernel
theorem dX15_macroValue_239 : decode cX15_macroValue 239 = .ok (.iadd, 1) := by decide +kernel
theorem dX15_macroValue_240 : decode cX15_macroValue 240 = .ok (.invokevirtual 292, 3) := by decide +kernel
theorem dX15_macroValue_243 : decode cX15_macroValue 243 = .ok (.iload 11, 2) := by decide +kernel
theorem dX15_macroValue_245 : decode cX15_macroValue 245 = .ok (.bipush 9, 2) := by decide +kernel
theorem dX15_macroValue_247 : decode cX15_macroValue 247 = .ok (.if_icmp .le 21, 3) := by decide +kernel
theorem dX15_macroValue_250 : decode cX15_macroValue 250 = .ok (.aload_n 0, 1) := by decide +kernel
theorem dX15_macroValue_251 : decode cX15_macroValue 251 = .ok (.getfield 67, 3) := by decide +kernel
theorem dX15_macroValue_254 : decode cX15_macroValue 254 = .ok (.bipush 48, 2) := by decide +kernel
theorem dX15_macroValue_256 : decode cX15_macroValue 256 = .ok (.iload 11, 2) := by decide +kernel
theorem dX15_macroValue_258 : decode cX15_macroValue 258 = .ok (.bipush 10, 2) := by decide +kernel
theorem dX15_macroValue_260 : decode cX15_macroValue 260 = .ok (.idiv, 1) := by decide +kernel
theorem dX15_macroValue_261 : decode cX15_macroValue 261 = .ok (.bipush 10, 2) := by decide +kernel
theorem dX15_macroValue_263 : decode cX15_macroValue 263 = .ok (.irem, 1) := by decide +kernel
theorem dX15_macroValue_264 : decode cX15_macroValue 264 = .ok (.iadd, 1) := by decide +kernel
theorem dX15_macroValue_265 : decode cX15_macroValue 265 = .ok (.invokevirtual 292, 3) := by decide +kernel
theorem dX15_macroValue_268 : decode cX15_macroValue 268 = .ok (.aload_n 0, 1) := by decide +kernel
theorem dX15_macroValue_269 : decode cX15_macroValue 269 = .ok (.getfield 67, 3) := by decide +kernel
theorem dX15_macroValue_272 : decode cX15_macroValue 272 = .ok (.bipush 48, 2) := by decide +kernel
theorem dX15_macroValue_274 : decode cX15_macroValue 274 = .ok (.iload 11, 2) := by decide +kernel
theorem dX15_macroValue_276 : decode cX15_macroValue 276 = .ok (.bipush 10, 2) := by decide +kernel
theorem dX15_macroValue_278 : decode cX15_macroValue 278 = .ok (.irem, 1) := by decide +kernel
theorem dX15_macroValue_279 : decode cX15_macroValue 279 = .ok (.iadd, 1) := by decide +kernel
theorem dX15_macroValue_280 : decode cX15_macroValue 280 = .ok (.invokevirtual 292, 3) := by decide +kernel
theorem dX15_macroValue_283 : decode cX15_macroValue 283 = .ok (.iload 10, 2) := by decide +kernel
theorem dX15_macroValue_285 : decode cX15_macroValue 285 = .ok (.ifCond .le 12, 3) := by decide +kernel
theorem dX15_macroValue_288 : decode cX15_macroValue 288 = .ok (.aload_n 0, 1) := by decide +kernel
theorem dX15_macroValue_289 : decode cX15_macroValue 289 = .ok (.getfield 67, 3) := by decide +kernel
theorem dX15_macroValue_292 : decode cX15_macroValue 292 = .ok (.bipush 46, 2) := by decide +kernel
theorem dX15_macroValue_294 : decode cX15_macroValue 294 = .ok (.invokevirtual 292, 3) := by decide +kernel
theorem dX15_macroValue_297 : decode cX15_macroValue 297 = .ok (.iinc 10 (-8), 3) := by decide +kernel
theorem dX15_macroValue_300 : decode cX15_macroValue 300 = .ok (.goto (-104), 3) := by decide +kernel
theorem dX15_macroValue_303 : decode cX15_macroValue 303 = .ok (.iconst 1, 1) := by decide +kernel
theorem dX15_macroValue_304 : decode cX15_macroValue 304 = .ok (.istore 7, 2) := by decide +kernel
theorem dX15_macroValue_306 : decode cX15_macroValue 306 = .ok (.iconst 0, 1) := by decide +kernel
theorem dX15_macroValue_307 : decode cX15_macroValue 307 = .ok (.istore 10, 2) := by decide +kernel
theorem dX15_macroValue_309 : decode cX15_macroValue 309 = .ok (.iload 10, 2) := by decide +kernel
theorem dX15_macroValue_311 : decode cX15_macroValue 311 = .ok (.aload_n 0, 1) := by decide +kernel
theorem dX15_macroValue_312 : decode cX15_macroValue 312 = .ok (.getfield 67, 3) := by decide +kernel
theorem dX15_macroValue_315 : decode cX15_macroValue 315 = .ok (.getfield 190, 3) := by decide +kernel
theorem dX15_macroValue_318 : decode cX15_macroValue 318 = .ok (.if_icmp .ge 27, 3) := by decide +kernel
theorem dX15_macroValue_321 : decode cX15_macroValue 321 = .ok (.aload_n 0, 1) := by decide +kernel
theorem dX15_macroValue_322 : decode cX15_macroValue 322 = .ok (.getfield 67, 3) := by decide +kernel
theorem dX15_macroValue_325 : decode cX15_macroValue 325 = .ok (.getfield 295, 3) := by decide +kernel
theorem dX15_macroValue_328 : decode cX15_macroValue 328 = .ok (.iload 10, 2) := by decide +kernel
theorem dX15_macroValue_330 : decode cX15_macroValue 330 = .ok (.baload, 1) := by decide +kernel
theorem dX15_macroValue_331 : decode cX15_macroValue 331 = .ok (.bipush 46, 2) := by decide +kernel
theorem dX15_macroValue_333 : decode cX15_macroValue 333 = .ok (.if_icmp .ne 6, 3) := by decide +kernel
theorem dX15_macroValue_336 : decode cX15_macroValue 336 = .ok (.iinc 7 1, 3) := by decide +kernel
theorem dX15_macroValue_339 : decode cX15_macroValue 339 = .ok (.iinc 10 1, 3) := by decide +kernel
theorem dX15_macroValue_342 : decode cX15_macroValue 342 = .ok (.goto (-33), 3) := by decide +kernel
theorem dX15_macroValue_345 : decode cX15_macroValue 345 = .ok (.iload 8, 2) := by decide +kernel
theorem dX15_macroValue_347 : decode cX15_macroValue 347 = .ok (.ifCond .eq 10, 3) := by decide +kernel
theorem dX15_macroValue_350 : decode cX15_macroValue 350 = .ok (.iload 8, 2) := by decide +kernel
theorem dX15_macroValue_352 : decode cX15_macroValue 352 = .ok (.iload 7, 2) := by decide +kernel
theorem dX15_macroValue_354 : decode cX15_macroValue 354 = .ok (.if_icmp .lt 7, 3) := by decide +kernel
theorem dX15_macroValue_357 : decode cX15_macroValue 357 = .ok (.iconst 0, 1) := by decide +kernel
theorem dX15_macroValue_358 : decode cX15_macroValue 358 = .ok (.goto 8, 3) := by decide +kernel
theorem dX15_macroValue_361 : decode cX15_macroValue 361 = .ok (.iload 7, 2) := by decide +kernel
theorem dX15_macroValue_363 : decode cX15_macroValue 363 = .ok (.iload 8, 2) := by decide +kernel
theorem dX15_macroValue_365 : decode cX15_macroValue 365 = .ok (.isub, 1) := by decide +kernel
theorem dX15_macroValue_366 : decode cX15_macroValue 366 = .ok (.istore 10, 2) := by decide +kernel
theorem dX15_macroValue_368 : decode cX15_macroValue 368 = .ok (.iload 10, 2) := by decide +kernel
theorem dX15_macroValue_370 : decode cX15_macroValue 370 = .ok (.istore 11, 2) := by decide +kernel
theorem dX15_macroValue_372 : decode cX15_macroValue 372 = .ok (.iload 11, 2) := by decide +kernel
theorem dX15_macroValue_374 : decode cX15_macroValue 374 = .ok (.iload 7, 2) := by decide +kernel
theorem dX15_macroValue_376 : decode cX15_macroValue 376 = .ok (.if_icmp .ge 46, 3) := by decide +kernel
theorem dX15_macroValue_379 : decode cX15_macroValue 379 = .ok (.iload 11, 2) := by decide +kernel
theorem dX15_macroValue_381 : decode cX15_macroValue 381 = .ok (.iload 10, 2) := by decide +kernel
theorem dX15_macroValue_383 : decode cX15_macroValue 383 = .ok (.if_icmp .le 10, 3) := by decide +kernel
theorem dX15_macroValue_386 : decode cX15_macroValue 386 = .ok (.aload 5, 2) := by decide +kernel
theorem dX15_macroValue_388 : decode cX15_macroValue 388 = .ok (.bipush 46, 2) := by decide +kernel
theorem dX15_macroValue_390 : decode cX15_macroValue 390 = .ok (.invokestatic 284, 3) := by decide +kernel
theorem dX15_macroValue_393 : decode cX15_macroValue 393 = .ok (.aload_n 0, 1) := by decide +kernel
theorem dX15_macroValue_394 : decode cX15_macroValue 394 = .ok (.iload 9, 2) := by decide +kernel
theorem dX15_macroValue_396 : decode cX15_macroValue 396 = .ok (.ifCond .eq 13, 3) := by decide +kernel
theorem dX15_macroValue_399 : decode cX15_macroValue 399 = .ok (.iload 7, 2) := by decide +kernel
theorem dX15_macroValue_401 : decode cX15_macroValue 401 = .ok (.iconst 1, 1) := by decide +kernel
theorem dX15_macroValue_402 : decode cX15_macroValue 402 = .ok (.isub, 1) := by decide +kernel
theorem dX15_macroValue_403 : decode cX15_macroValue 403 = .ok (.iload 11, 2) := by decide +kernel
theorem dX15_macroValue_405 : decode cX15_macroValue 405 = .ok (.isub, 1) := by decide +kernel
theorem dX15_macroValue_406 : decode cX15_macroValue 406 = .ok (.goto 5, 3) := by decide +kernel
theorem dX15_macroValue_409 : decode cX15_macroValue 409 = .ok (.iload 11, 2) := by decide +kernel
theorem dX15_macroValue_411 : decode cX15_macroValue 411 = .ok (.aload 5, 2) := by decide +kernel
theorem dX15_macroValue_413 : decode cX15_macroValue 413 = .ok (.invokevirtual 300, 3) := by decide +kernel
theorem dX15_macroValue_416 : decode cX15_macroValue 416 = .ok (.iinc 11 1, 3) := by decide +kernel
theorem dX15_macroValue_419 : decode cX15_macroValue 419 = .ok (.goto (-47), 3) := by decide +kernel
theorem dX15_macroValue_422 : decode cX15_macroValue 422 = .ok (.return_, 1) := by decide +kernel
theorem dX15_part_0 : decode cX15_part 0 = .ok (.iconst 0, 1) := by decide +kernel
theorem dX15_part_1 : decode cX15_part 1 = .ok (.istore_n 3, 1) := by decide +kernel
theorem dX15_part_2 : decode cX15_part 2 = .ok (.iconst 0, 1) := by decide +kernel
theorem dX15_part_3 : decode cX15_part 3 = .ok (.istore 4, 2) := by decide +kernel
theorem dX15_part_5 : decode cX15_part 5 = .ok (.iload 4, 2) := by decide +kernel
theorem dX15_part_7 : decode cX15_part 7 = .ok (.iload_n 1, 1) := by decide +kernel
theorem dX15_part_8 : decode cX15_part 8 = .ok (.if_icmp .ge 26, 3) := by decide +kernel
theorem dX15_part_11 : decode cX15_part 11 = .ok (.aload_n 0, 1) := by decide +kernel
theorem dX15_part_12 : decode cX15_part 12 = .ok (.getfield 67, 3) := by decide +kernel
theorem dX15_part_15 : decode cX15_part 15 = .ok (.getfield 295, 3) := by decide +kernel
theorem dX15_part_18 : decode cX15_part 18 = .ok (.iload_n 3, 1) := by decide +kernel
theorem dX15_part_19 : decode cX15_part 19 = .ok (.baload, 1) := by decide +kernel
theorem dX15_part_20 : decode cX15_part 20 = .ok (.bipush 46, 2) := by decide +kernel
theorem dX15_part_22 : decode cX15_part 22 = .ok (.if_icmp .ne 6, 3) := by decide +kernel
theorem dX15_part_25 : decode cX15_part 25 = .ok (.iinc 4 1, 3) := by decide +kernel
theorem dX15_part_28 : decode cX15_part 28 = .ok (.iinc 3 1, 3) := by decide +kernel
theorem dX15_part_31 : decode cX15_part 31 = .ok (.goto (-26), 3) := by decide +kernel
theorem dX15_part_34 : decode cX15_part 34 = .ok (.iload_n 3, 1) := by decide +kernel
theorem dX15_part_35 : decode cX15_part 35 = .ok (.aload_n 0, 1) := by decide +kernel
theorem dX15_part_36 : decode cX15_part 36 = .ok (.getfield 67, 3) := by decide +kernel
theorem dX15_part_39 : decode cX15_part 39 = .ok (.getfield 190, 3) := by decide +kernel
theorem dX15_part_42 : decode cX15_part 42 = .ok (.if_icmp .ge 36, 3) := by decide +kernel
theorem dX15_part_45 : decode cX15_part 45 = .ok (.aload_n 0, 1) := by decide +kernel
theorem dX15_part_46 : decode cX15_part 46 = .ok (.getfield 67, 3) := by decide +kernel
theorem dX15_part_49 : decode cX15_part 49 = .ok (.getfield 295, 3) := by decide +kernel
theorem dX15_part_52 : decode cX15_part 52 = .ok (.iload_n 3, 1) := by decide +kernel
theorem dX15_part_53 : decode cX15_part 53 = .ok (.baload, 1) := by decide +kernel
theorem dX15_part_54 : decode cX15_part 54 = .ok (.bipush 46, 2) := by decide +kernel
theorem dX15_part_56 : decode cX15_part 56 = .ok (.if_icmp .eq 22, 3) := by decide +kernel
theorem dX15_part_59 : decode cX15_part 59 = .ok (.aload_n 2, 1) := by decide +kernel
theorem dX15_part_60 : decode cX15_part 60 = .ok (.aload_n 0, 1) := by decide +kernel
theorem dX15_part_61 : decode cX15_part 61 = .ok (.getfield 67, 3) := by decide +kernel
theorem dX15_part_64 : decode cX15_part 64 = .ok (.getfield 295, 3) := by decide +kernel
theorem dX15_part_67 : decode cX15_part 67 = .ok (.iload_n 3, 1) := by decide +kernel
theorem dX15_part_68 : decode cX15_part 68 = .ok (.baload, 1) := by decide +kernel
theorem dX15_part_69 : decode cX15_part 69 = .ok (.invokestatic 284, 3) := by decide +kernel
theorem dX15_part_72 : decode cX15_part 72 = .ok (.iinc 3 1, 3) := by decide +kernel
theorem dX15_part_75 : decode cX15_part 75 = .ok (.goto (-41), 3) := by decide +kernel
theorem dX15_part_78 : decode cX15_part 78 = .ok (.return_, 1) := by decide +kernel
theorem kt_758 : Cond.fieldLink RX15 67 "PostGateModel" "piece" "LPostGateModel$Text;" ∈ tb := tb_at (i := 1305) (by decide +kernel) (by decide +kernel)
theorem kt_759 : Cond.code yX15_put cX15_put 2 none ∈ tb := tb_at (i := 1610) (by decide +kernel) (by decide +kernel)
theorem kt_760 : Cond.methodLink RX15 284 yX15_put ∈ tb := tb_at (i := 1608) (by decide +kernel) (by decide +kernel)
theorem kt_761 : Cond.static yX15_put ∈ tb := tb_at (i := 1609) (by decide +kernel) (by decide +kernel)
theorem kt_762 : Cond.code yX15_part cX15_part 5 none ∈ tb := tb_at (i := 1623) (by decide +kernel) (by decide +kernel)
theorem kt_763 : Cond.methodLink RX15 300 yX15_part ∈ tb := tb_at (i := 1620) (by decide +kernel) (by decide +kernel)
theorem kt_764 : Cond.instanceMethod yX15_part ∈ tb := tb_at (i := 1622) (by decide +kernel) (by decide +kernel)
theorem kt_765 : Cond.selects RX15 yX15_part yX15_part ∈ tb := tb_at (i := 54) (by decide +kernel) (by decide +kernel)
theorem kt_766 : Cond.methodLink RX15 298 yX14_add_ ∈ tb := tb_at (i := 1619) (by decide +kernel) (by decide +kernel)
theorem kt_767 : Cond.fieldLink RX15 61 "PostGateModel" "domain" "LPostGateModel$Text;" ∈ tb := tb_at (i := 1299) (by decide +kernel) (by decide +kernel)
theorem kt_768 : Cond.fieldLink RX15 57 "PostGateModel" "local" "LPostGateModel$Text;" ∈ tb := tb_at (i := 1298) (by decide +kernel) (by decide +kernel)
theorem kt_769 : Cond.code yX15_macroValue cX15_macroValue 12 none ∈ tb := tb_at (i := 1618) (by decide +kernel) (by decide +kernel)
theorem kt_770 : Cond.methodLink RX15 288 yX15_macroValue ∈ tb := tb_at (i := 1615) (by decide +kernel) (by decide +kernel)
theorem kt_771 : Cond.instanceMethod yX15_macroValue ∈ tb := tb_at (i := 1617) (by decide +kernel) (by decide +kernel)
theorem kt_772 : Cond.selects RX15 yX15_macroValue yX15_macroValue ∈ tb := tb_at (i := 53) (by decide +kernel) (by decide +kernel)
def sv (m : Nat) : Int32 := nI (8 * (4 - m)) - 8
theorem sv_n : ∀ m, m < 4 → sv m + Int32.ofInt (-8) = sv (m + 1) := by decide +kernel
theorem sv_p : ∀ m, m < 4 → ¬ sv m < 0 := by decide +kernel
theorem sv_4 : sv 4 < 0 := by decide +kernel
theorem sv_lt {m : Nat} (h : m ≤ 4) (c : ¬ sv m < 0) : m < 4 := by
  rcases Nat.lt_or_ge m 4 with q | q
  · exact q
  · rw [show m = 4 from by omega] at c
    exact absurd sv_4 c
set_option maxHeartbeats 4000000 in
set_option maxRecDepth 100000 in
theorem s_X15_part (l : Launch) (dC : Nat → ClassId) (dI : Nat → Nat → Nat) (cs : Nat → ClassId) (ty : TyM) (gm : Nat → Nat → Nat) (L : List Nat) (sz : Nat) (F : Nat → va_E) (h0 : Nat) (ρ : Nat) (ta : Nat) (ou : Nat) (so : Nat) (ad : Nat) (na : Nat) (va : Nat) (lc : Nat) (dm : Nat) (tg : Nat) (pe : Nat) (ml : Nat) (bg : Nat) (co : Nat) (sp : Nat) (nb0 : Nat) (nb1 : Nat) (nb2 : Nat) (pl : Nat) (se : Nat) (ke : Nat) (wi : Nat) (hs : Nat) (mo : Nat) (po : Nat) (nu : Nat) (pr : Nat) (sq : Nat) (xa : Nat) (sa : Nat) (n64 : Nat) (m64 : Nat) (ex : Nat) (wh : Nat) (sd : Nat) (tk : Nat) (hd : Nat) (ak : Nat) (ho : Nat) (ot : Nat) (sx : Nat) (s0 : Nat) (s1 : Nat) (s2 : Nat) (nf : Nat) (bd : Nat) (mm : Nat) (zo : Nat) (ze : Nat) (zt : Nat) (rp : Nat) (g2 : Nat) (r2 : Nat) (k : Nat) (z : Nat) (y : Nat) (fp : Nat → Int32) (hW : WTm ty gm L) (hL_h0 : h0 ∈ L) (hT_h0 : ty h0 = (15, ρ, [ta, ou, so, ad, na, va, lc, dm, tg, pe, ml, bg, co, sp, nb0, nb1, nb2, pl, se, ke, wi, hs, mo, po, nu, pr, sq, xa, sa, n64, m64, ex, wh, sd, tk, hd, ak, ho, ot, sx, s0, s1, s2, nf, bd, mm, zo, ze, zt])) (hL_pe : pe ∈ L) (hT_pe : ty pe = (14, ρ + 7, [rp, 100])) (hL_g2 : g2 ∈ L) (hT_g2 : ty g2 = (14, ρ + 6, [r2, 61])) (hFp : F pe = .inr (14, [.ref rp, .int (nI z)])) (hFr : F rp = .inl (cs 17, 100, .inl fp)) (hFi : F g2 = .inr (14, [.ref r2, .int (nI y)])) (hz : z ≤ 100) (hy : y ≤ 61) (hk : k ≤ dots fp z) : Met l yX15_part (.code yX15_part cX15_part 5 none :: tb) ({ frames := 2, cells := 0, slots := 0, locals := 42 }) (va_Pc [.ref h0, .int (nI k), .ref g2] (PTm (dC, dI) cs ty gm L F sz)) (va_Qv (fun _ : Unit => True) (fun _ T9 => ∃ F2 : Nat → va_E, ∃ y2 : Nat, QTm (dC, dI) cs ty gm L [ρ + 6] F F2 (va_A (va_pl L F) sz) T9 ∧ F2 g2 = .inr (14, [.ref r2, .int (nI y2)]) ∧ y2 ≤ 61) (va_A (va_pl L F) sz)) 0 0 (va_A (va_pl L F) sz) := by
  refine Met.ofW (cc := cX15_part) (maxL := 5) (ret := none) (by decide) rfl ?_
  intro p e s m args below meth c s₁ B hml hv
  obtain ⟨rfl, hsz, hP, hK, hD0, hE, hO⟩ := hv
  have hx := B.exec
  have hb := B.bytes
  have hr := B.returns
  have hts : ∀ w ∈ tb, w.before _ s = true := fun w h => atoms_spec (ws := .code yX15_part cX15_part 5 none :: tb) B.pre w (List.mem_cons_of_mem _ h)
  have hown : s.vm.findClass RX15 = some m.cls := findClass_of_methodNamed B.named
  have hlocks := B.notSynchronized
  subst hsz
  have hD := hD0.self (sz := s.heap.size)
  generalize hAe : va_A (va_pl L F) s.heap.size = A at hD ⊢
  have hA : ∀ q : Nat, s.heap.size ≤ q → A q := fun q h => by rw [← hAe]; exact Or.inr h
  have hS : va_S A s.heap s.heap [] := va_S.rf
  have hR : FR ty [ρ + 6] F F := FR.refl
  have hl := lv_entry ([.ref h0, .int (nI k), .ref g2]) (n := 5) (Nat.le_of_ble_eq_true rfl)
  rw [lg_entry_eq]
  generalize (lg_sl ([.ref h0, .int (nI k), .ref g2]) ++ List.replicate (5 - (lg_sl ([.ref h0, .int (nI k), .ref g2])).length) Slot.unset).toArray = ls at hl ⊢
  have hl : lv_has ls 5 [(0, .ref h0), (1, .int (nI k)), (2, .ref g2)] := hl
  obtain ⟨hq_22, hq_23, hq_24, hq_25, hq_26, hgO, hgA, hgB⟩ := hW.sc hL_h0 hT_h0
  obtain ⟨hi_27, ht_28, hq_29⟩ := hW.txt hL_pe hT_pe
  obtain ⟨hi_30, ht_31, hq_32⟩ := hW.txt hL_g2 hT_g2
  have hdb := dots_b fp z
  refine lv_iconst (v := 0) hx hb dX15_part_0 (by decide) ?_
  refine lv_istore_n (lv' := [(3, .int 0), (0, .ref h0), (1, .int (nI k)), (2, .ref g2)]) hx hb dX15_part_1 rfl hl (by decide) rfl (fun ls hl => ?_)
  refine lv_iconst (v := 0) hx hb dX15_part_2 (by decide) ?_
  refine lv_istore (lv' := [(4, .int 0), (3, .int 0), (0, .ref h0), (1, .int (nI k)), (2, .ref g2)]) hx hb dX15_part_3 hl (by decide) rfl (fun ls hl => ?_)
  refine W.widen (k := 0) (n := 0) (by omega) (by omega) ?_
  have hF_34 : F pe = .inr (14, [.ref rp, .int (nI z)]) := (hR pe (by rw [hT_pe]; simp)).symm.trans hFp
  have hF_35 : F rp = .inl (cs 17, 100, .inl fp) := (hR rp (by rw [ht_28]; simp)).symm.trans hFr
  refine pl_loopm (σ := Nat × Nat) A (dC, dI) cs ty gm L [ρ + 6] F 5 5 (fun (j, w) => [(4, .int (nI w)), (3, .int (nI j)), (0, .ref h0), (1, .int (nI k)), (2, .ref g2)]) (fun (j, w) => []) (fun (j, w) FF => w = dots fp j ∧ j ≤ z ∧ FF g2 = .inr (14, [.ref r2, .int (nI y)])) (fun (j, w) => z - j) ?_ (0, 0) F (⟨rfl, Nat.zero_le _, hFi⟩) hO hR _ _ hP hD hS ls (lv_sub hl [0, 1, 2, 3, 4] rfl)
  rintro ⟨j, w⟩ F_33 hv_36 hO hR ih_37 H locs hP hD hS ls hl
  have hl : lv_has ls 5 [(4, .int (nI w)), (3, .int (nI j)), (0, .ref h0), (1, .int (nI k)), (2, .ref g2)] := hl
  have hv_36 : w = dots fp j ∧ j ≤ z ∧ F_33 g2 = .inr (14, [.ref r2, .int (nI y)]) := hv_36
  refine W.eq (g2 := F0 m 5 ls []) rfl ?_
  have hF_38 : F_33 pe = .inr (14, [.ref rp, .int (nI z)]) := (hR pe (by rw [hT_pe]; simp)).trans hF_34
  have hF_39 : F_33 rp = .inl (cs 17, 100, .inl fp) := (hR rp (by rw [ht_28]; simp)).trans hF_35
  obtain ⟨hv1, hv2, hv3⟩ := hv_36
  refine lv_iload hx hb dX15_part_5 (lv_at hl 0 rfl) ?_
  refine lv_iload_n hx hb dX15_part_7 rfl (lv_at hl 3 rfl) ?_
  have hdj := dots_b fp j
  refine lv_icmp_ge (tgt := 34) hx hb dX15_part_8 (by decide) (fun c_40 => ?_) (fun c_40 => ?_)
  ·
    have hi_41 : k ≤ w := leN (N := k) c_40
    refine W.widen (k := 0) (n := 0) (by omega) (by omega) ?_
    have hF_43 : F pe = .inr (14, [.ref rp, .int (nI z)]) := (hR pe (by rw [hT_pe]; simp)).symm.trans hF_38
    have hF_44 : F rp = .inl (cs 17, 100, .inl fp) := (hR rp (by rw [ht_28]; simp)).symm.trans hF_39
    refine pl_loopm (σ := Nat × Nat) A (dC, dI) cs ty gm L [ρ + 6] F 34 5 (fun (i, yy) => [(3, .int (nI i)), (0, .ref h0), (1, .int (nI k)), (2, .ref g2)]) (fun (i, yy) => []) (fun (i, yy) FF => i ≤ z ∧ yy ≤ 61 ∧ FF g2 = .inr (14, [.ref r2, .int (nI yy)])) (fun (i, yy) => z - i) ?_ (j, y) F_33 (⟨by omega, by omega, hv3⟩) hO hR _ _ hP hD hS ls (lv_sub hl [1, 2, 3, 4] rfl)
    rintro ⟨i, yy⟩ F_42 hv_45 hO hR ih_46 H locs hP hD hS ls hl
    have hl : lv_has ls 5 [(3, .int (nI i)), (0, .ref h0), (1, .int (nI k)), (2, .ref g2)] := hl
    have hv_45 : i ≤ z ∧ yy ≤ 61 ∧ F_42 g2 = .inr (14, [.ref r2, .int (nI yy)]) := hv_45
    refine W.eq (g2 := F0 m 34 ls []) rfl ?_
    have hF_47 : F_42 pe = .inr (14, [.ref rp, .int (nI z)]) := (hR pe (by rw [hT_pe]; simp)).trans hF_43
    have hF_48 : F_42 rp = .inl (cs 17, 100, .inl fp) := (hR rp (by rw [ht_28]; simp)).trans hF_44
    obtain ⟨hu1, hu2, hu3⟩ := hv_45
    refine lv_iload_n hx hb dX15_part_34 rfl (lv_at hl 0 rfl) ?_
    refine lv_aload_n hx hb dX15_part_35 rfl (lv_at hl 1 rfl) ?_
    obtain ⟨v11_49, v12_50, v14_51, v15_52, v17_53, v18_54, v19_55, v20_56, v21_57, v22_58, v33_59, v52_60, v53_61, v54_62, hF_63, hq_64, hq_65, hq_66, hq_67⟩ := hO.mod hL_h0 hT_h0
    refine pg_get (ci := 15) (v := .ref pe) (C := RX15) (T := TX15) (N := 59) hx hb hts it_15 hown hK hP hL_h0 hF_63 rfl 16 (by decide) (hts _ kt_758) (fun _ h9 => h9) rfl dX15_part_36 ?_
    refine pg_get (ci := 14) (v := .int (nI z)) (C := RX14) (T := TX14) (N := 2) hx hb hts it_14 hown hK hP hL_pe hF_47 rfl 1 (by decide) (hts _ kt_699) (fun _ h9 => h9) rfl dX15_part_39 ?_
    refine lv_icmp_ge (tgt := 78) hx hb dX15_part_42 (by decide) (fun c_68 => ?_) (fun c_68 => ?_)
    ·
      have hi_69 : z ≤ i := leN (N := z) c_68
      refine W.widen (k := 0) (n := 0) (by omega) (by omega) ?_
      exact W.vret hx hb hr (fun t ht hWm => ⟨⟨(), rfl, trivial, ⟨F_42, yy, QTm.mk ht hP hD hO hR, hu3, by omega⟩⟩, hS.F ht⟩) hS.2.2 dX15_part_78
    ·
      have hi_70 : i < z := ltN (N := z) c_68
      refine lv_aload_n hx hb dX15_part_45 rfl (lv_at hl 1 rfl) ?_
      refine pg_get (ci := 15) (v := .ref pe) (C := RX15) (T := TX15) (N := 59) hx hb hts it_15 hown hK hP hL_h0 hF_63 rfl 16 (by decide) (hts _ kt_758) (fun _ h9 => h9) rfl dX15_part_46 ?_
      refine pg_get (ci := 14) (v := .ref rp) (C := RX14) (T := TX14) (N := 2) hx hb hts it_14 hown hK hP hL_pe hF_47 rfl 0 (by decide) (hts _ kt_700) (fun _ h9 => h9) rfl dX15_part_49 ?_
      refine lv_iload_n hx hb dX15_part_52 rfl (lv_at hl 0 rfl) ?_
      obtain ⟨hq_71, hq_72⟩ := hW.octs hi_27 ht_28
      refine pg_bald hx hb hK hP hi_27 1 hF_48 rfl (vp_in_nI (by omega) (by omega)) dX15_part_53 ?_
      refine lv_topi (fun x_73 ex_73 => ?_)
      obtain rfl : x_73 = fp i := ex_73.trans (congrArg fp (show ((nI i) : Int32).toNatClampNeg = i from nI_clamp (by omega)))
      refine lv_bipush (v := 46) hx hb dX15_part_54 (by decide) ?_
      refine lv_icmp_eq (tgt := 78) hx hb dX15_part_56 (by decide) (fun c_74 => ?_) (fun c_74 => ?_)
      ·
        refine W.widen (k := 0) (n := 0) (by omega) (by omega) ?_
        exact W.vret hx hb hr (fun t ht hWm => ⟨⟨(), rfl, trivial, ⟨F_42, yy, QTm.mk ht hP hD hO hR, hu3, by omega⟩⟩, hS.F ht⟩) hS.2.2 dX15_part_78
      ·
        refine lv_aload_n hx hb dX15_part_59 rfl (lv_at hl 3 rfl) ?_
        refine lv_aload_n hx hb dX15_part_60 rfl (lv_at hl 1 rfl) ?_
        refine pg_get (ci := 15) (v := .ref pe) (C := RX15) (T := TX15) (N := 59) hx hb hts it_15 hown hK hP hL_h0 hF_63 rfl 16 (by decide) (hts _ kt_758) (fun _ h9 => h9) rfl dX15_part_61 ?_
        refine pg_get (ci := 14) (v := .ref rp) (C := RX14) (T := TX14) (N := 2) hx hb hts it_14 hown hK hP hL_pe hF_47 rfl 0 (by decide) (hts _ kt_700) (fun _ h9 => h9) rfl dX15_part_64 ?_
        refine lv_iload_n hx hb dX15_part_67 rfl (lv_at hl 0 rfl) ?_
        refine pg_bald hx hb hK hP hi_27 1 hF_48 rfl (vp_in_nI (by omega) (by omega)) dX15_part_68 ?_
        refine lv_topi (fun x_75 ex_75 => ?_)
        obtain rfl : x_75 = fp i := ex_75.trans (congrArg fp (show ((nI i) : Int32).toNatClampNeg = i from nI_clamp (by omega)))
        have hFc := pg_free hD hS hA
        refine va_callv (va_runS (As := [.ref g2, .int (fp i)]) (rest := []) ⟨hx, hb, hml, hown, hts⟩ (s_X15_put l dC dI cs ty gm L H.size F_42 g2 (ρ + 6) r2 61 yy (fp i) hW hL_g2 hT_g2 hu3 (by first | omega | assumption) (by first | omega | assumption)) ⟨callB_of 2 hts (gi kt_759) rfl rfl rfl (hts _ kt_659) (hts _ kt_760) (by decide +kernel) ⟨Nat.le_of_ble_eq_true rfl, Nat.le_of_ble_eq_true rfl⟩, (hts _ kt_761)⟩ ⟨fun a U g mk q => ⟨q.1, PTm.calling q.2⟩, fun U hU hWm => ⟨rfl, PTm.mk hU hWm hP hK hD hE hO⟩⟩ rfl rfl hl.1 rfl (lv_room (Nat.le_of_ble_eq_true rfl)) dX15_part_69 ⟨by show _ + 0 ≤ 0; omega, by show _ + 0 ≤ 0; omega⟩) hS (fun q _ h => hFc q h) hFc (fun u t H1 locs ht hvm hw hB hz1 hk1 hS => ?_)
        obtain ⟨F_77, z2_78, hB1, hq_79, hq_80⟩ := hB
        obtain ⟨hP, hD, hO, hR⟩ := QTm.back hB1 ht hFc hR (fun q h => by simp only [List.mem_cons, List.not_mem_nil, or_false] at h ⊢; omega)
        have hF_81 : F_77 pe = .inr (14, [.ref rp, .int (nI z)]) := (hB1.2.2.2 pe (by rw [hT_pe]; simp)).trans hF_47
        have hF_82 : F_77 rp = .inl (cs 17, 100, .inl fp) := (hB1.2.2.2 rp (by rw [ht_28]; simp)).trans hF_48
        have hF_83 : F_77 h0 = .inr (15, (.ref ta) :: (.int (nI zt)) :: (.int (nI zo)) :: (.int (nI ze)) :: (.ref ou) :: (.ref so) :: (.ref ad) :: (.ref na) :: (.ref va) :: (.ref lc) :: (.ref dm) :: (.int v11_49) :: (.int v12_50) :: (.ref tg) :: (.int v14_51) :: (.int v15_52) :: (.ref pe) :: (.int v17_53) :: (.int v18_54) :: (.int v19_55) :: (.int v20_56) :: (.int v21_57) :: (.int v22_58) :: (.ref ml) :: (.ref bg) :: (.ref co) :: (.ref sp) :: (.ref nb0) :: (.ref nb1) :: (.ref nb2) :: (.int (nI nf)) :: (.int (nI bd)) :: (.int (nI mm)) :: (.int v33_59) :: (.ref pl) :: (.ref se) :: (.ref ke) :: (.ref wi) :: (.ref hs) :: (.ref mo) :: (.ref po) :: (.ref nu) :: (.ref pr) :: (.ref sq) :: (.ref xa) :: (.ref sa) :: (.ref n64) :: (.ref m64) :: (.ref ex) :: (.ref wh) :: (.ref sd) :: (.ref tk) :: (.int v52_60) :: (.int v53_61) :: (.int v54_62) :: (.ref hd) :: (.ref ak) :: (.ref ho) :: (.ref ot) :: []) := (hB1.2.2.2 h0 (by rw [hT_h0]; simp)).trans hF_63
        generalize H1 = H at hP hS ⊢
        refine lv_iinc (v := (nI (i + 1))) (lv' := [(3, .int (nI (i + 1))), (0, .ref h0), (1, .int (nI k)), (2, .ref g2)]) hx hb dX15_part_72 hl (k := 0) rfl (nI_1 _) (by decide) rfl (fun ls hl => ?_)
        refine lv_goto (tgt := 34) hx hb dX15_part_75 (by decide) ?_
        refine W.widen (k := 0) (n := 0) (by omega) (by omega) ?_
        exact ih_46 ((i + 1), z2_78) F_77 (⟨by omega, by omega, hq_79⟩) (by show z - (i + 1) < z - i; omega) hO hR _ _ hP hD hS ls (lv_sub hl [0, 1, 2, 3] rfl)
  ·
    have hi_84 : w < k := ltN (N := k) c_40
    have hjz : j < z := by
      rcases Nat.lt_or_ge j z with q | q
      · exact q
      · have h9 := dots_le (f := fp) q
        omega
    refine lv_aload_n hx hb dX15_part_11 rfl (lv_at hl 2 rfl) ?_
    obtain ⟨v11_85, v12_86, v14_87, v15_88, v17_89, v18_90, v19_91, v20_92, v21_93, v22_94, v33_95, v52_96, v53_97, v54_98, hF_99, hq_100, hq_101, hq_102, hq_103⟩ := hO.mod hL_h0 hT_h0
    refine pg_get (ci := 15) (v := .ref pe) (C := RX15) (T := TX15) (N := 59) hx hb hts it_15 hown hK hP hL_h0 hF_99 rfl 16 (by decide) (hts _ kt_758) (fun _ h9 => h9) rfl dX15_part_12 ?_
    refine pg_get (ci := 14) (v := .ref rp) (C := RX14) (T := TX14) (N := 2) hx hb hts it_14 hown hK hP hL_pe hF_38 rfl 0 (by decide) (hts _ kt_700) (fun _ h9 => h9) rfl dX15_part_15 ?_
    refine lv_iload_n hx hb dX15_part_18 rfl (lv_at hl 1 rfl) ?_
    obtain ⟨hq_104, hq_105⟩ := hW.octs hi_27 ht_28
    refine pg_bald hx hb hK hP hi_27 1 hF_39 rfl (vp_in_nI (by omega) (by omega)) dX15_part_19 ?_
    refine lv_topi (fun x_106 ex_106 => ?_)
    obtain rfl : x_106 = fp j := ex_106.trans (congrArg fp (show ((nI j) : Int32).toNatClampNeg = j from nI_clamp (by omega)))
    refine lv_bipush (v := 46) hx hb dX15_part_20 (by decide) ?_
    refine lv_icmp_ne (tgt := 28) hx hb dX15_part_22 (by decide) (fun c_107 => ?_) (fun c_107 => ?_)
    ·
      refine lv_iinc (v := (nI (j + 1))) (lv' := [(3, .int (nI (j + 1))), (4, .int (nI w)), (0, .ref h0), (1, .int (nI k)), (2, .ref g2)]) hx hb dX15_part_28 hl (k := 1) rfl (nI_1 _) (by decide) rfl (fun ls hl => ?_)
      refine lv_goto (tgt := 5) hx hb dX15_part_31 (by decide) ?_
      refine W.widen (k := 0) (n := 0) (by omega) (by omega) ?_
      exact ih_37 ((j + 1), w) F_33 (⟨by rw [dots_n c_107]; omega, by omega, hv3⟩) (by show z - (j + 1) < z - j; omega) hO hR _ _ hP hD hS ls (lv_sub hl [1, 0, 2, 3, 4] rfl)
    ·
      refine lv_iinc (v := (nI (w + 1))) (lv' := [(4, .int (nI (w + 1))), (3, .int (nI j)), (0, .ref h0), (1, .int (nI k)), (2, .ref g2)]) hx hb dX15_part_25 hl (k := 0) rfl (nI_1 _) (by decide) rfl (fun ls hl => ?_)
      refine lv_iinc (v := (nI (j + 1))) (lv' := [(3, .int (nI (j + 1))), (4, .int (nI (w + 1))), (0, .ref h0), (1, .int (nI k)), (2, .ref g2)]) hx hb dX15_part_28 hl (k := 1) rfl (nI_1 _) (by decide) rfl (fun ls hl => ?_)
      refine lv_goto (tgt := 5) hx hb dX15_part_31 (by decide) ?_
      refine W.widen (k := 0) (n := 0) (by omega) (by omega) ?_
      exact ih_37 ((j + 1), (w + 1)) F_33 (⟨by rw [dots_y c_107]; omega, by omega, hv3⟩) (by show z - (j + 1) < z - j; omega) hO hR _ _ hP hD hS ls (lv_sub hl [1, 0, 2, 3, 4] rfl)
set_option maxHeartbeats 4000000 in
set_option maxRecDepth 100000 in
theorem s_X15_macroValue (l : Launch) (dC : Nat → ClassId) (dI : Nat → Nat → Nat) (cs : Nat → ClassId) (ty : TyM) (gm : Nat → Nat → Nat) (L : List Nat) (sz : Nat) (F : Nat → va_E) (h0 : Nat) (ρ : Nat) (ta : Nat) (ou : Nat) (so : Nat) (ad : Nat) (na : Nat) (va : Nat) (lc : Nat) (dm : Nat) (tg : Nat) (pe : Nat) (ml : Nat) (bg : Nat) (co : Nat) (sp : Nat) (nb0 : Nat) (nb1 : Nat) (nb2 : Nat) (pl : Nat) (se : Nat) (ke : Nat) (wi : Nat) (hs : Nat) (mo : Nat) (po : Nat) (nu : Nat) (pr : Nat) (sq : Nat) (xa : Nat) (sa : Nat) (n64 : Nat) (m64 : Nat) (ex : Nat) (wh : Nat) (sd : Nat) (tk : Nat) (hd : Nat) (ak : Nat) (ho : Nat) (ot : Nat) (sx : Nat) (s0 : Nat) (s1 : Nat) (s2 : Nat) (nf : Nat) (bd : Nat) (mm : Nat) (zo : Nat) (ze : Nat) (zt : Nat) (rp : Nat) (g2 : Nat) (r2 : Nat) (g1 : Nat) (μ : Nat) (fv : Nat → Int32) (dd : Nat) (τ : Nat) (rd : Nat) (nd : Nat) (a : Nat) (tt : Nat) (y : Nat) (hW : WTm ty gm L) (hL_h0 : h0 ∈ L) (hT_h0 : ty h0 = (15, ρ, [ta, ou, so, ad, na, va, lc, dm, tg, pe, ml, bg, co, sp, nb0, nb1, nb2, pl, se, ke, wi, hs, mo, po, nu, pr, sq, xa, sa, n64, m64, ex, wh, sd, tk, hd, ak, ho, ot, sx, s0, s1, s2, nf, bd, mm, zo, ze, zt])) (hL_pe : pe ∈ L) (hT_pe : ty pe = (14, ρ + 7, [rp, 100])) (hL_g2 : g2 ∈ L) (hT_g2 : ty g2 = (14, ρ + 6, [r2, 61])) (hL_g1 : g1 ∈ L) (hT_g1 : ty g1 = (17, μ, [700])) (hL_dd : dd ∈ L) (hT_dd : ty dd = (14, τ, [rd, nd])) (hFg : F g1 = .inl (cs 17, 700, .inl fv)) (hmu : ρ + 100 ≤ μ) (hFi : F g2 = .inr (14, [.ref r2, .int (nI y)])) (hy : y ≤ 61) (ha : a < tt) (htn : tt ≤ 700) (hnd : nd ≤ 61) : Met l yX15_macroValue (.code yX15_macroValue cX15_macroValue 12 none :: tb) ({ frames := 3, cells := 0, slots := 0, locals := 71 }) (va_Pc [.ref h0, .ref g1, .int (nI a), .int (nI tt), .ref dd, .ref g2] (PTm (dC, dI) cs ty gm L F sz)) (va_Qv (fun _ : Unit => True) (fun _ T9 => ∃ F2 : Nat → va_E, ∃ y2 : Nat, QTm (dC, dI) cs ty gm L [ρ + 6, ρ + 7] F F2 (va_A (va_pl L F) sz) T9 ∧ F2 g2 = .inr (14, [.ref r2, .int (nI y2)]) ∧ y2 ≤ 61) (va_A (va_pl L F) sz)) 0 0 (va_A (va_pl L F) sz) := by
  refine Met.ofW (cc := cX15_macroValue) (maxL := 12) (ret := none) (by decide) rfl ?_
  intro p e s m args below meth c s₁ B hml hv
  obtain ⟨rfl, hsz, hP, hK, hD0, hE, hO⟩ := hv
  have hx := B.exec
  have hb := B.bytes
  have hr := B.returns
  have hts : ∀ w ∈ tb, w.before _ s = true := fun w h => atoms_spec (ws := .code yX15_macroValue cX15_macroValue 12 none :: tb) B.pre w (List.mem_cons_of_mem _ h)
  have hown : s.vm.findClass RX15 = some m.cls := findClass_of_methodNamed B.named
  have hlocks := B.notSynchronized
  subst hsz
  have hD := hD0.self (sz := s.heap.size)
  generalize hAe : va_A (va_pl L F) s.heap.size = A at hD ⊢
  have hA : ∀ q : Nat, s.heap.size ≤ q → A q := fun q h => by rw [← hAe]; exact Or.inr h
  have hS : va_S A s.heap s.heap [] := va_S.rf
  have hR : FR ty [ρ + 6, ρ + 7] F F := FR.refl
  have hl := lv_entry ([.ref h0, .ref g1, .int (nI a), .int (nI tt), .ref dd, .ref g2]) (n := 12) (Nat.le_of_ble_eq_true rfl)
  rw [lg_entry_eq]
  generalize (lg_sl ([.ref h0, .ref g1, .int (nI a), .int (nI tt), .ref dd, .ref g2]) ++ List.replicate (12 - (lg_sl ([.ref h0, .ref g1, .int (nI a), .int (nI tt), .ref dd, .ref g2])).length) Slot.unset).toArray = ls at hl ⊢
  have hl : lv_has ls 12 [(0, .ref h0), (1, .ref g1), (2, .int (nI a)), (3, .int (nI tt)), (4, .ref dd), (5, .ref g2)] := hl
  refine lv_aload_n hx hb dX15_macroValue_0 rfl (lv_at hl 1 rfl) ?_
  refine lv_iload_n hx hb dX15_macroValue_1 rfl (lv_at hl 2 rfl) ?_
  obtain ⟨hq_1, hq_2⟩ := hW.octs hL_g1 hT_g1
  refine pg_bald hx hb hK hP hL_g1 1 hFg rfl (vp_in_nI (by omega) (by omega)) dX15_macroValue_2 ?_
  refine lv_topi (fun x_3 ex_3 => ?_)
  obtain rfl : x_3 = fv a := ex_3.trans (congrArg fv (show ((nI a) : Int32).toNatClampNeg = a from nI_clamp (by omega)))
  refine lv_istore (lv' := [(6, .int (fv a)), (0, .ref h0), (1, .ref g1), (2, .int (nI a)), (3, .int (nI tt)), (4, .ref dd), (5, .ref g2)]) hx hb dX15_macroValue_3 hl (by decide) rfl (fun ls hl => ?_)
  refine lv_iconst (v := 0) hx hb dX15_macroValue_5 (by decide) ?_
  refine lv_istore (lv' := [(7, .int 0), (6, .int (fv a)), (0, .ref h0), (1, .ref g1), (2, .int (nI a)), (3, .int (nI tt)), (4, .ref dd), (5, .ref g2)]) hx hb dX15_macroValue_6 hl (by decide) rfl (fun ls hl => ?_)
  refine lv_iconst (v := 0) hx hb dX15_macroValue_8 (by decide) ?_
  refine lv_istore (lv' := [(8, .int 0), (7, .int 0), (6, .int (fv a)), (0, .ref h0), (1, .ref g1), (2, .int (nI a)), (3, .int (nI tt)), (4, .ref dd), (5, .ref g2)]) hx hb dX15_macroValue_9 hl (by decide) rfl (fun ls hl => ?_)
  have hF_6 : F g1 = .inl (cs 17, 700, .inl fv) := (hR g1 (by rw [hT_g1]; simp only [List.mem_cons, List.not_mem_nil, or_false]; omega)).symm.trans hFg
  refine W.widen (k := 0) (n := 0) (by omega) (by omega) ?_
  refine pl_cutm (σ := Int32) A (dC, dI) cs ty gm L [ρ + 6, ρ + 7] F 33 12 (fun s9 => [(8, .int 0), (7, .int 0), (6, .int (fv a)), (0, .ref h0), (1, .ref g1), (2, .int (nI a)), (3, .int (nI tt)), (4, .ref dd), (5, .ref g2)]) (fun s9 => [.int s9]) (fun s9 FF => FF g2 = .inr (14, [.ref r2, .int (nI y)])) ?_ (fun jn_4 => ?_)
  ·
    rintro s9 F_5 hv_7 hO hR H locs hP hD hS ls hl
    have hl : lv_has ls 12 [(8, .int 0), (7, .int 0), (6, .int (fv a)), (0, .ref h0), (1, .ref g1), (2, .int (nI a)), (3, .int (nI tt)), (4, .ref dd), (5, .ref g2)] := hl
    have hv_7 : F_5 g2 = .inr (14, [.ref r2, .int (nI y)]) := hv_7
    refine W.eq (g2 := F0 m 33 ls [.int s9]) rfl ?_
    have hF_8 : F_5 g1 = .inl (cs 17, 700, .inl fv) := (hR g1 (by rw [hT_g1]; simp only [List.mem_cons, List.not_mem_nil, or_false]; omega)).trans hF_6
    refine lv_istore (lv' := [(9, .int s9), (8, .int 0), (7, .int 0), (6, .int (fv a)), (0, .ref h0), (1, .ref g1), (2, .int (nI a)), (3, .int (nI tt)), (4, .ref dd), (5, .ref g2)]) hx hb dX15_macroValue_33 hl (by decide) rfl (fun ls hl => ?_)
    refine lv_iload_n hx hb dX15_macroValue_35 rfl (lv_at hl 6 rfl) ?_
    refine lv_iconst (v := 1) hx hb dX15_macroValue_36 (by decide) ?_
    refine lv_iadd hx hb dX15_macroValue_37 ?_
    refine lv_topi (fun x_9 ex_9 => ?_)
    obtain rfl : x_9 = (nI (a + 1)) := ex_9.trans (nI_add a 1)
    refine lv_istore (lv' := [(10, .int (nI (a + 1))), (9, .int s9), (8, .int 0), (7, .int 0), (6, .int (fv a)), (0, .ref h0), (1, .ref g1), (2, .int (nI a)), (3, .int (nI tt)), (4, .ref dd), (5, .ref g2)]) hx hb dX15_macroValue_38 hl (by decide) rfl (fun ls hl => ?_)
    refine W.widen (k := 0) (n := 0) (by omega) (by omega) ?_
    have hF_11 : F g1 = .inl (cs 17, 700, .inl fv) := (hR g1 (by rw [hT_g1]; simp only [List.mem_cons, List.not_mem_nil, or_false]; omega)).symm.trans hF_8
    refine pl_loopm (σ := Nat × Nat) A (dC, dI) cs ty gm L [ρ + 6, ρ + 7] F 40 12 (fun (j, nn) => [(10, .int (nI j)), (9, .int s9), (8, .int (nI nn)), (7, .int 0), (6, .int (fv a)), (0, .ref h0), (1, .ref g1), (2, .int (nI a)), (3, .int (nI tt)), (4, .ref dd), (5, .ref g2)]) (fun (j, nn) => []) (fun (j, nn) FF => j ≤ tt ∧ nn ≤ 9 ∧ FF g2 = .inr (14, [.ref r2, .int (nI y)])) (fun (j, nn) => tt - j) ?_ ((a + 1), 0) F_5 (⟨by omega, by omega, hv_7⟩) hO hR _ _ hP hD hS ls (lv_sub hl [0, 1, 2, 3, 4, 5, 6, 7, 8, 9, 10] rfl)
    rintro ⟨j, nn⟩ F_10 hv_12 hO hR ih_13 H locs hP hD hS ls hl
    have hl : lv_has ls 12 [(10, .int (nI j)), (9, .int s9), (8, .int (nI nn)), (7, .int 0), (6, .int (fv a)), (0, .ref h0), (1, .ref g1), (2, .int (nI a)), (3, .int (nI tt)), (4, .ref dd), (5, .ref g2)] := hl
    have hv_12 : j ≤ tt ∧ nn ≤ 9 ∧ F_10 g2 = .inr (14, [.ref r2, .int (nI y)]) := hv_12
    refine W.eq (g2 := F0 m 40 ls []) rfl ?_
    have hF_14 : F_10 g1 = .inl (cs 17, 700, .inl fv) := (hR g1 (by rw [hT_g1]; simp only [List.mem_cons, List.not_mem_nil, or_false]; omega)).trans hF_11
    obtain ⟨hn1, hn2, hn3⟩ := hv_12
    refine lv_iload hx hb dX15_macroValue_40 (lv_at hl 0 rfl) ?_
    refine lv_iload_n hx hb dX15_macroValue_42 rfl (lv_at hl 8 rfl) ?_
    refine lv_icmp_ge (tgt := 71) hx hb dX15_macroValue_43 (by decide) (fun c_15 => ?_) (fun c_15 => ?_)
    ·
      have hi_16 : tt ≤ j := leN (N := tt) c_15
      refine lv_aload_n hx hb dX15_macroValue_71 rfl (lv_at hl 5 rfl) ?_
      obtain ⟨hq_38, hq_39, hq_40, hq_41, hq_42, hgO, hgA, hgB⟩ := hW.sc hL_h0 hT_h0
      obtain ⟨v11_43, v12_44, v14_45, v15_46, v17_47, v18_48, v19_49, v20_50, v21_51, v22_52, v33_53, v52_54, v53_55, v54_56, hF_57, hq_58, hq_59, hq_60, hq_61⟩ := hO.mod hL_h0 hT_h0
      refine pg_get (ci := 15) (v := .ref pe) (C := RX15) (T := TX15) (N := 59) hx hb hts it_15 hown hK hP hL_h0 hF_57 rfl 16 (by decide) (hts _ kt_758) (fun _ h9 => h9) rfl dX15_macroValue_72 ?_
      refine lv_iconst (v := 0) hx hb dX15_macroValue_75 (by decide) ?_
      obtain ⟨hi_62, ht_63, hq_64⟩ := hW.txt hL_pe hT_pe
      obtain ⟨z_65, hF_66, hq_67⟩ := hO.txt hL_pe hT_pe
      refine pg_put (ci := 14) (v := .int 0) (ty := .int) (C := RX14) (T := TX14) (N := 2) hx hb hts it_14 tyX14 tyX14_ok nmX14 hown hK hP hD hS hL_pe hF_66 rfl 1 (by decide) (hts _ kt_699) (fun _ h9 => h9) rfl (by decide +kernel) (rfl) (rfl) (Nat.le_of_ble_eq_true rfl) dX15_macroValue_76 (fun H locs hP hD hS => ?_)
      obtain ⟨F_68, he_69, hP, hD, hO, hR⟩ : ∃ G, G = va_up F_10 pe (.inr (14, [.ref rp, .int 0])) ∧ va_P (dC, dI) vwCl (va_pl L G) H ∧ va_D A (va_pl L G) ∧ OKm cs ty gm L G ∧ FR ty [ρ + 6, ρ + 7] F G := ⟨_, rfl, hP, hD, hO.up (shm.txt hT_pe ⟨0, rfl, (by first | omega | assumption | exact Or.inl rfl | exact Or.inr rfl)⟩), hR.up hT_pe (by simp)⟩
      have hF_70 : F_68 pe = .inr (14, [.ref rp, .int 0]) := by rw [he_69]; exact up_self
      have hF_71 : F_68 g1 = .inl (cs 17, 700, .inl fv) := by rw [he_69, up_ne (ne_ty hT_g1 hT_pe (by simp))]; exact hF_14
      have hF_72 : F_68 g2 = .inr (14, [.ref r2, .int (nI y)]) := by rw [he_69, up_ne (ne_ty2 hT_g2 hT_pe (by simp))]; exact hn3
      have hF_73 : F_68 h0 = .inr (15, (.ref ta) :: (.int (nI zt)) :: (.int (nI zo)) :: (.int (nI ze)) :: (.ref ou) :: (.ref so) :: (.ref ad) :: (.ref na) :: (.ref va) :: (.ref lc) :: (.ref dm) :: (.int v11_43) :: (.int v12_44) :: (.ref tg) :: (.int v14_45) :: (.int v15_46) :: (.ref pe) :: (.int v17_47) :: (.int v18_48) :: (.int v19_49) :: (.int v20_50) :: (.int v21_51) :: (.int v22_52) :: (.ref ml) :: (.ref bg) :: (.ref co) :: (.ref sp) :: (.ref nb0) :: (.ref nb1) :: (.ref nb2) :: (.int (nI nf)) :: (.int (nI bd)) :: (.int (nI mm)) :: (.int v33_53) :: (.ref pl) :: (.ref se) :: (.ref ke) :: (.ref wi) :: (.ref hs) :: (.ref mo) :: (.ref po) :: (.ref nu) :: (.ref pr) :: (.ref sq) :: (.ref xa) :: (.ref sa) :: (.ref n64) :: (.ref m64) :: (.ref ex) :: (.ref wh) :: (.ref sd) :: (.ref tk) :: (.int v52_54) :: (.int v53_55) :: (.int v54_56) :: (.ref hd) :: (.ref ak) :: (.ref ho) :: (.ref ot) :: []) := by rw [he_69, up_ne (ne_ty hT_h0 hT_pe (by simp))]; exact hF_57
      have hF_76 : F g1 = .inl (cs 17, 700, .inl fv) := (hR g1 (by rw [hT_g1]; simp only [List.mem_cons, List.not_mem_nil, or_false]; omega)).symm.trans hF_71
      have hF_77 : F h0 = .inr (15, (.ref ta) :: (.int (nI zt)) :: (.int (nI zo)) :: (.int (nI ze)) :: (.ref ou) :: (.ref so) :: (.ref ad) :: (.ref na) :: (.ref va) :: (.ref lc) :: (.ref dm) :: (.int v11_43) :: (.int v12_44) :: (.ref tg) :: (.int v14_45) :: (.int v15_46) :: (.ref pe) :: (.int v17_47) :: (.int v18_48) :: (.int v19_49) :: (.int v20_50) :: (.int v21_51) :: (.int v22_52) :: (.ref ml) :: (.ref bg) :: (.ref co) :: (.ref sp) :: (.ref nb0) :: (.ref nb1) :: (.ref nb2) :: (.int (nI nf)) :: (.int (nI bd)) :: (.int (nI mm)) :: (.int v33_53) :: (.ref pl) :: (.ref se) :: (.ref ke) :: (.ref wi) :: (.ref hs) :: (.ref mo) :: (.ref po) :: (.ref nu) :: (.ref pr) :: (.ref sq) :: (.ref xa) :: (.ref sa) :: (.ref n64) :: (.ref m64) :: (.ref ex) :: (.ref wh) :: (.ref sd) :: (.ref tk) :: (.int v52_54) :: (.int v53_55) :: (.int v54_56) :: (.ref hd) :: (.ref ak) :: (.ref ho) :: (.ref ot) :: []) := (hR h0 (by rw [hT_h0]; simp)).symm.trans hF_73
      refine W.widen (k := 0) (n := 0) (by omega) (by omega) ?_
      refine pl_cutm (σ := Nat) A (dC, dI) cs ty gm L [ρ + 6, ρ + 7] F 115 12 (fun zz115 => [(9, .int s9), (8, .int (nI nn)), (7, .int 0), (6, .int (fv a)), (0, .ref h0), (1, .ref g1), (2, .int (nI a)), (3, .int (nI tt)), (4, .ref dd), (5, .ref g2)]) (fun zz115 => []) (fun zz115 FF => FF g2 = .inr (14, [.ref r2, .int (nI y)]) ∧ FF pe = .inr (14, [.ref rp, .int (nI zz115)]) ∧ zz115 ≤ 30 ∧ (zz115 = 0 ∨ (fv a) = 115 ∨ (fv a) = 108)) ?_ (fun jn_74 => ?_)
      ·
        rintro zz115 F_75 hv_78 hO hR H locs hP hD hS ls hl
        have hl : lv_has ls 12 [(9, .int s9), (8, .int (nI nn)), (7, .int 0), (6, .int (fv a)), (0, .ref h0), (1, .ref g1), (2, .int (nI a)), (3, .int (nI tt)), (4, .ref dd), (5, .ref g2)] := hl
        have hv_78 : F_75 g2 = .inr (14, [.ref r2, .int (nI y)]) ∧ F_75 pe = .inr (14, [.ref rp, .int (nI zz115)]) ∧ zz115 ≤ 30 ∧ (zz115 = 0 ∨ (fv a) = 115 ∨ (fv a) = 108) := hv_78
        refine W.eq (g2 := F0 m 115 ls []) rfl ?_
        have hF_79 : F_75 g1 = .inl (cs 17, 700, .inl fv) := (hR g1 (by rw [hT_g1]; simp only [List.mem_cons, List.not_mem_nil, or_false]; omega)).trans hF_76
        have hF_80 : F_75 h0 = .inr (15, (.ref ta) :: (.int (nI zt)) :: (.int (nI zo)) :: (.int (nI ze)) :: (.ref ou) :: (.ref so) :: (.ref ad) :: (.ref na) :: (.ref va) :: (.ref lc) :: (.ref dm) :: (.int v11_43) :: (.int v12_44) :: (.ref tg) :: (.int v14_45) :: (.int v15_46) :: (.ref pe) :: (.int v17_47) :: (.int v18_48) :: (.int v19_49) :: (.int v20_50) :: (.int v21_51) :: (.int v22_52) :: (.ref ml) :: (.ref bg) :: (.ref co) :: (.ref sp) :: (.ref nb0) :: (.ref nb1) :: (.ref nb2) :: (.int (nI nf)) :: (.int (nI bd)) :: (.int (nI mm)) :: (.int v33_53) :: (.ref pl) :: (.ref se) :: (.ref ke) :: (.ref wi) :: (.ref hs) :: (.ref mo) :: (.ref po) :: (.ref nu) :: (.ref pr) :: (.ref sq) :: (.ref xa) :: (.ref sa) :: (.ref n64) :: (.ref m64) :: (.ref ex) :: (.ref wh) :: (.ref sd) :: (.ref tk) :: (.int v52_54) :: (.int v53_55) :: (.int v54_56) :: (.ref hd) :: (.ref ak) :: (.ref ho) :: (.ref ot) :: []) := (hR h0 (by rw [hT_h0]; simp)).trans hF_77
        obtain ⟨hwaa, hwab, hwac, hwad⟩ := hv_78
        have hF_83 : F g1 = .inl (cs 17, 700, .inl fv) := (hR g1 (by rw [hT_g1]; simp only [List.mem_cons, List.not_mem_nil, or_false]; omega)).symm.trans hF_79
        have hF_84 : F h0 = .inr (15, (.ref ta) :: (.int (nI zt)) :: (.int (nI zo)) :: (.int (nI ze)) :: (.ref ou) :: (.ref so) :: (.ref ad) :: (.ref na) :: (.ref va) :: (.ref lc) :: (.ref dm) :: (.int v11_43) :: (.int v12_44) :: (.ref tg) :: (.int v14_45) :: (.int v15_46) :: (.ref pe) :: (.int v17_47) :: (.int v18_48) :: (.int v19_49) :: (.int v20_50) :: (.int v21_51) :: (.int v22_52) :: (.ref ml) :: (.ref bg) :: (.ref co) :: (.ref sp) :: (.ref nb0) :: (.ref nb1) :: (.ref nb2) :: (.int (nI nf)) :: (.int (nI bd)) :: (.int (nI mm)) :: (.int v33_53) :: (.ref pl) :: (.ref se) :: (.ref ke) :: (.ref wi) :: (.ref hs) :: (.ref mo) :: (.ref po) :: (.ref nu) :: (.ref pr) :: (.ref sq) :: (.ref xa) :: (.ref sa) :: (.ref n64) :: (.ref m64) :: (.ref ex) :: (.ref wh) :: (.ref sd) :: (.ref tk) :: (.int v52_54) :: (.int v53_55) :: (.int v54_56) :: (.ref hd) :: (.ref ak) :: (.ref ho) :: (.ref ot) :: []) := (hR h0 (by rw [hT_h0]; simp)).symm.trans hF_80
        refine W.widen (k := 0) (n := 0) (by omega) (by omega) ?_
        refine pl_cutm (σ := Nat) A (dC, dI) cs ty gm L [ρ + 6, ρ + 7] F 131 12 (fun zz131 => [(9, .int s9), (8, .int (nI nn)), (7, .int 0), (6, .int (fv a)), (0, .ref h0), (1, .ref g1), (2, .int (nI a)), (3, .int (nI tt)), (4, .ref dd), (5, .ref g2)]) (fun zz131 => []) (fun zz131 FF => FF g2 = .inr (14, [.ref r2, .int (nI y)]) ∧ FF pe = .inr (14, [.ref rp, .int (nI zz131)]) ∧ zz131 ≤ 31 ∧ (zz131 = 0 ∨ (fv a) = 115 ∨ (fv a) = 108)) ?_ (fun jn_81 => ?_)
        ·
          rintro zz131 F_82 hv_85 hO hR H locs hP hD hS ls hl
          have hl : lv_has ls 12 [(9, .int s9), (8, .int (nI nn)), (7, .int 0), (6, .int (fv a)), (0, .ref h0), (1, .ref g1), (2, .int (nI a)), (3, .int (nI tt)), (4, .ref dd), (5, .ref g2)] := hl
          have hv_85 : F_82 g2 = .inr (14, [.ref r2, .int (nI y)]) ∧ F_82 pe = .inr (14, [.ref rp, .int (nI zz131)]) ∧ zz131 ≤ 31 ∧ (zz131 = 0 ∨ (fv a) = 115 ∨ (fv a) = 108) := hv_85
          refine W.eq (g2 := F0 m 131 ls []) rfl ?_
          have hF_86 : F_82 g1 = .inl (cs 17, 700, .inl fv) := (hR g1 (by rw [hT_g1]; simp only [List.mem_cons, List.not_mem_nil, or_false]; omega)).trans hF_83
          have hF_87 : F_82 h0 = .inr (15, (.ref ta) :: (.int (nI zt)) :: (.int (nI zo)) :: (.int (nI ze)) :: (.ref ou) :: (.ref so) :: (.ref ad) :: (.ref na) :: (.ref va) :: (.ref lc) :: (.ref dm) :: (.int v11_43) :: (.int v12_44) :: (.ref tg) :: (.int v14_45) :: (.int v15_46) :: (.ref pe) :: (.int v17_47) :: (.int v18_48) :: (.int v19_49) :: (.int v20_50) :: (.int v21_51) :: (.int v22_52) :: (.ref ml) :: (.ref bg) :: (.ref co) :: (.ref sp) :: (.ref nb0) :: (.ref nb1) :: (.ref nb2) :: (.int (nI nf)) :: (.int (nI bd)) :: (.int (nI mm)) :: (.int v33_53) :: (.ref pl) :: (.ref se) :: (.ref ke) :: (.ref wi) :: (.ref hs) :: (.ref mo) :: (.ref po) :: (.ref nu) :: (.ref pr) :: (.ref sq) :: (.ref xa) :: (.ref sa) :: (.ref n64) :: (.ref m64) :: (.ref ex) :: (.ref wh) :: (.ref sd) :: (.ref tk) :: (.int v52_54) :: (.int v53_55) :: (.int v54_56) :: (.ref hd) :: (.ref ak) :: (.ref ho) :: (.ref ot) :: []) := (hR h0 (by rw [hT_h0]; simp)).trans hF_84
          obtain ⟨hwba, hwbb, hwbc, hwbd⟩ := hv_85
          have hF_90 : F g1 = .inl (cs 17, 700, .inl fv) := (hR g1 (by rw [hT_g1]; simp only [List.mem_cons, List.not_mem_nil, or_false]; omega)).symm.trans hF_86
          have hF_91 : F h0 = .inr (15, (.ref ta) :: (.int (nI zt)) :: (.int (nI zo)) :: (.int (nI ze)) :: (.ref ou) :: (.ref so) :: (.ref ad) :: (.ref na) :: (.ref va) :: (.ref lc) :: (.ref dm) :: (.int v11_43) :: (.int v12_44) :: (.ref tg) :: (.int v14_45) :: (.int v15_46) :: (.ref pe) :: (.int v17_47) :: (.int v18_48) :: (.int v19_49) :: (.int v20_50) :: (.int v21_51) :: (.int v22_52) :: (.ref ml) :: (.ref bg) :: (.ref co) :: (.ref sp) :: (.ref nb0) :: (.ref nb1) :: (.ref nb2) :: (.int (nI nf)) :: (.int (nI bd)) :: (.int (nI mm)) :: (.int v33_53) :: (.ref pl) :: (.ref se) :: (.ref ke) :: (.ref wi) :: (.ref hs) :: (.ref mo) :: (.ref po) :: (.ref nu) :: (.ref pr) :: (.ref sq) :: (.ref xa) :: (.ref sa) :: (.ref n64) :: (.ref m64) :: (.ref ex) :: (.ref wh) :: (.ref sd) :: (.ref tk) :: (.int v52_54) :: (.int v53_55) :: (.int v54_56) :: (.ref hd) :: (.ref ak) :: (.ref ho) :: (.ref ot) :: []) := (hR h0 (by rw [hT_h0]; simp)).symm.trans hF_87
          refine W.widen (k := 0) (n := 0) (by omega) (by omega) ?_
          refine pl_cutm (σ := Nat) A (dC, dI) cs ty gm L [ρ + 6, ρ + 7] F 167 12 (fun zz167 => [(9, .int s9), (8, .int (nI nn)), (7, .int 0), (6, .int (fv a)), (0, .ref h0), (1, .ref g1), (2, .int (nI a)), (3, .int (nI tt)), (4, .ref dd), (5, .ref g2)]) (fun zz167 => []) (fun zz167 FF => FF g2 = .inr (14, [.ref r2, .int (nI y)]) ∧ FF pe = .inr (14, [.ref rp, .int (nI zz167)]) ∧ zz167 ≤ 91 ∧ (zz167 = 0 ∨ (fv a) = 115 ∨ (fv a) = 108 ∨ (fv a) = 111)) ?_ (fun jn_88 => ?_)
          ·
            rintro zz167 F_89 hv_92 hO hR H locs hP hD hS ls hl
            have hl : lv_has ls 12 [(9, .int s9), (8, .int (nI nn)), (7, .int 0), (6, .int (fv a)), (0, .ref h0), (1, .ref g1), (2, .int (nI a)), (3, .int (nI tt)), (4, .ref dd), (5, .ref g2)] := hl
            have hv_92 : F_89 g2 = .inr (14, [.ref r2, .int (nI y)]) ∧ F_89 pe = .inr (14, [.ref rp, .int (nI zz167)]) ∧ zz167 ≤ 91 ∧ (zz167 = 0 ∨ (fv a) = 115 ∨ (fv a) = 108 ∨ (fv a) = 111) := hv_92
            refine W.eq (g2 := F0 m 167 ls []) rfl ?_
            have hF_93 : F_89 g1 = .inl (cs 17, 700, .inl fv) := (hR g1 (by rw [hT_g1]; simp only [List.mem_cons, List.not_mem_nil, or_false]; omega)).trans hF_90
            have hF_94 : F_89 h0 = .inr (15, (.ref ta) :: (.int (nI zt)) :: (.int (nI zo)) :: (.int (nI ze)) :: (.ref ou) :: (.ref so) :: (.ref ad) :: (.ref na) :: (.ref va) :: (.ref lc) :: (.ref dm) :: (.int v11_43) :: (.int v12_44) :: (.ref tg) :: (.int v14_45) :: (.int v15_46) :: (.ref pe) :: (.int v17_47) :: (.int v18_48) :: (.int v19_49) :: (.int v20_50) :: (.int v21_51) :: (.int v22_52) :: (.ref ml) :: (.ref bg) :: (.ref co) :: (.ref sp) :: (.ref nb0) :: (.ref nb1) :: (.ref nb2) :: (.int (nI nf)) :: (.int (nI bd)) :: (.int (nI mm)) :: (.int v33_53) :: (.ref pl) :: (.ref se) :: (.ref ke) :: (.ref wi) :: (.ref hs) :: (.ref mo) :: (.ref po) :: (.ref nu) :: (.ref pr) :: (.ref sq) :: (.ref xa) :: (.ref sa) :: (.ref n64) :: (.ref m64) :: (.ref ex) :: (.ref wh) :: (.ref sd) :: (.ref tk) :: (.int v52_54) :: (.int v53_55) :: (.int v54_56) :: (.ref hd) :: (.ref ak) :: (.ref ho) :: (.ref ot) :: []) := (hR h0 (by rw [hT_h0]; simp)).trans hF_91
            obtain ⟨hwca, hwcb, hwcc, hwcd⟩ := hv_92
            have hF_97 : F g1 = .inl (cs 17, 700, .inl fv) := (hR g1 (by rw [hT_g1]; simp only [List.mem_cons, List.not_mem_nil, or_false]; omega)).symm.trans hF_93
            have hF_98 : F h0 = .inr (15, (.ref ta) :: (.int (nI zt)) :: (.int (nI zo)) :: (.int (nI ze)) :: (.ref ou) :: (.ref so) :: (.ref ad) :: (.ref na) :: (.ref va) :: (.ref lc) :: (.ref dm) :: (.int v11_43) :: (.int v12_44) :: (.ref tg) :: (.int v14_45) :: (.int v15_46) :: (.ref pe) :: (.int v17_47) :: (.int v18_48) :: (.int v19_49) :: (.int v20_50) :: (.int v21_51) :: (.int v22_52) :: (.ref ml) :: (.ref bg) :: (.ref co) :: (.ref sp) :: (.ref nb0) :: (.ref nb1) :: (.ref nb2) :: (.int (nI nf)) :: (.int (nI bd)) :: (.int (nI mm)) :: (.int v33_53) :: (.ref pl) :: (.ref se) :: (.ref ke) :: (.ref wi) :: (.ref hs) :: (.ref mo) :: (.ref po) :: (.ref nu) :: (.ref pr) :: (.ref sq) :: (.ref xa) :: (.ref sa) :: (.ref n64) :: (.ref m64) :: (.ref ex) :: (.ref wh) :: (.ref sd) :: (.ref tk) :: (.int v52_54) :: (.int v53_55) :: (.int v54_56) :: (.ref hd) :: (.ref ak) :: (.ref ho) :: (.ref ot) :: []) := (hR h0 (by rw [hT_h0]; simp)).symm.trans hF_94
            refine W.widen (k := 0) (n := 0) (by omega) (by omega) ?_
            refine pl_cutm (σ := Nat) A (dC, dI) cs ty gm L [ρ + 6, ρ + 7] F 192 12 (fun zz192 => [(9, .int s9), (8, .int (nI nn)), (7, .int 0), (6, .int (fv a)), (0, .ref h0), (1, .ref g1), (2, .int (nI a)), (3, .int (nI tt)), (4, .ref dd), (5, .ref g2)]) (fun zz192 => []) (fun zz192 FF => FF g2 = .inr (14, [.ref r2, .int (nI y)]) ∧ FF pe = .inr (14, [.ref rp, .int (nI zz192)]) ∧ zz192 ≤ 91 ∧ (zz192 = 0 ∨ (fv a) = 115 ∨ (fv a) = 108 ∨ (fv a) = 111 ∨ (fv a) = 100)) ?_ (fun jn_95 => ?_)
            ·
              rintro zz192 F_96 hv_99 hO hR H locs hP hD hS ls hl
              have hl : lv_has ls 12 [(9, .int s9), (8, .int (nI nn)), (7, .int 0), (6, .int (fv a)), (0, .ref h0), (1, .ref g1), (2, .int (nI a)), (3, .int (nI tt)), (4, .ref dd), (5, .ref g2)] := hl
              have hv_99 : F_96 g2 = .inr (14, [.ref r2, .int (nI y)]) ∧ F_96 pe = .inr (14, [.ref rp, .int (nI zz192)]) ∧ zz192 ≤ 91 ∧ (zz192 = 0 ∨ (fv a) = 115 ∨ (fv a) = 108 ∨ (fv a) = 111 ∨ (fv a) = 100) := hv_99
              refine W.eq (g2 := F0 m 192 ls []) rfl ?_
              have hF_100 : F_96 g1 = .inl (cs 17, 700, .inl fv) := (hR g1 (by rw [hT_g1]; simp only [List.mem_cons, List.not_mem_nil, or_false]; omega)).trans hF_97
              have hF_101 : F_96 h0 = .inr (15, (.ref ta) :: (.int (nI zt)) :: (.int (nI zo)) :: (.int (nI ze)) :: (.ref ou) :: (.ref so) :: (.ref ad) :: (.ref na) :: (.ref va) :: (.ref lc) :: (.ref dm) :: (.int v11_43) :: (.int v12_44) :: (.ref tg) :: (.int v14_45) :: (.int v15_46) :: (.ref pe) :: (.int v17_47) :: (.int v18_48) :: (.int v19_49) :: (.int v20_50) :: (.int v21_51) :: (.int v22_52) :: (.ref ml) :: (.ref bg) :: (.ref co) :: (.ref sp) :: (.ref nb0) :: (.ref nb1) :: (.ref nb2) :: (.int (nI nf)) :: (.int (nI bd)) :: (.int (nI mm)) :: (.int v33_53) :: (.ref pl) :: (.ref se) :: (.ref ke) :: (.ref wi) :: (.ref hs) :: (.ref mo) :: (.ref po) :: (.ref nu) :: (.ref pr) :: (.ref sq) :: (.ref xa) :: (.ref sa) :: (.ref n64) :: (.ref m64) :: (.ref ex) :: (.ref wh) :: (.ref sd) :: (.ref tk) :: (.int v52_54) :: (.int v53_55) :: (.int v54_56) :: (.ref hd) :: (.ref ak) :: (.ref ho) :: (.ref ot) :: []) := (hR h0 (by rw [hT_h0]; simp)).trans hF_98
              obtain ⟨hwda, hwdb, hwdc, hwdd⟩ := hv_99
              have hF_104 : F g1 = .inl (cs 17, 700, .inl fv) := (hR g1 (by rw [hT_g1]; simp only [List.mem_cons, List.not_mem_nil, or_false]; omega)).symm.trans hF_100
              have hF_105 : F h0 = .inr (15, (.ref ta) :: (.int (nI zt)) :: (.int (nI zo)) :: (.int (nI ze)) :: (.ref ou) :: (.ref so) :: (.ref ad) :: (.ref na) :: (.ref va) :: (.ref lc) :: (.ref dm) :: (.int v11_43) :: (.int v12_44) :: (.ref tg) :: (.int v14_45) :: (.int v15_46) :: (.ref pe) :: (.int v17_47) :: (.int v18_48) :: (.int v19_49) :: (.int v20_50) :: (.int v21_51) :: (.int v22_52) :: (.ref ml) :: (.ref bg) :: (.ref co) :: (.ref sp) :: (.ref nb0) :: (.ref nb1) :: (.ref nb2) :: (.int (nI nf)) :: (.int (nI bd)) :: (.int (nI mm)) :: (.int v33_53) :: (.ref pl) :: (.ref se) :: (.ref ke) :: (.ref wi) :: (.ref hs) :: (.ref mo) :: (.ref po) :: (.ref nu) :: (.ref pr) :: (.ref sq) :: (.ref xa) :: (.ref sa) :: (.ref n64) :: (.ref m64) :: (.ref ex) :: (.ref wh) :: (.ref sd) :: (.ref tk) :: (.int v52_54) :: (.int v53_55) :: (.int v54_56) :: (.ref hd) :: (.ref ak) :: (.ref ho) :: (.ref ot) :: []) := (hR h0 (by rw [hT_h0]; simp)).symm.trans hF_101
              refine W.widen (k := 0) (n := 0) (by omega) (by omega) ?_
              refine pl_cutm (σ := Nat) A (dC, dI) cs ty gm L [ρ + 6, ρ + 7] F 303 12 (fun ze9 => [(9, .int s9), (8, .int (nI nn)), (7, .int 0), (6, .int (fv a)), (0, .ref h0), (1, .ref g1), (2, .int (nI a)), (3, .int (nI tt)), (4, .ref dd), (5, .ref g2)]) (fun ze9 => []) (fun ze9 FF => FF g2 = .inr (14, [.ref r2, .int (nI y)]) ∧ FF pe = .inr (14, [.ref rp, .int (nI ze9)]) ∧ ze9 ≤ 91) ?_ (fun jn_102 => ?_)
              ·
                rintro ze9 F_103 hv_106 hO hR H locs hP hD hS ls hl
                have hl : lv_has ls 12 [(9, .int s9), (8, .int (nI nn)), (7, .int 0), (6, .int (fv a)), (0, .ref h0), (1, .ref g1), (2, .int (nI a)), (3, .int (nI tt)), (4, .ref dd), (5, .ref g2)] := hl
                have hv_106 : F_103 g2 = .inr (14, [.ref r2, .int (nI y)]) ∧ F_103 pe = .inr (14, [.ref rp, .int (nI ze9)]) ∧ ze9 ≤ 91 := hv_106
                refine W.eq (g2 := F0 m 303 ls []) rfl ?_
                have hF_107 : F_103 g1 = .inl (cs 17, 700, .inl fv) := (hR g1 (by rw [hT_g1]; simp only [List.mem_cons, List.not_mem_nil, or_false]; omega)).trans hF_104
                have hF_108 : F_103 h0 = .inr (15, (.ref ta) :: (.int (nI zt)) :: (.int (nI zo)) :: (.int (nI ze)) :: (.ref ou) :: (.ref so) :: (.ref ad) :: (.ref na) :: (.ref va) :: (.ref lc) :: (.ref dm) :: (.int v11_43) :: (.int v12_44) :: (.ref tg) :: (.int v14_45) :: (.int v15_46) :: (.ref pe) :: (.int v17_47) :: (.int v18_48) :: (.int v19_49) :: (.int v20_50) :: (.int v21_51) :: (.int v22_52) :: (.ref ml) :: (.ref bg) :: (.ref co) :: (.ref sp) :: (.ref nb0) :: (.ref nb1) :: (.ref nb2) :: (.int (nI nf)) :: (.int (nI bd)) :: (.int (nI mm)) :: (.int v33_53) :: (.ref pl) :: (.ref se) :: (.ref ke) :: (.ref wi) :: (.ref hs) :: (.ref mo) :: (.ref po) :: (.ref nu) :: (.ref pr) :: (.ref sq) :: (.ref xa) :: (.ref sa) :: (.ref n64) :: (.ref m64) :: (.ref ex) :: (.ref wh) :: (.ref sd) :: (.ref tk) :: (.int v52_54) :: (.int v53_55) :: (.int v54_56) :: (.ref hd) :: (.ref ak) :: (.ref ho) :: (.ref ot) :: []) := (hR h0 (by rw [hT_h0]; simp)).trans hF_105
                obtain ⟨hy1, hy2, hy3⟩ := hv_106
                refine lv_iconst (v := 1) hx hb dX15_macroValue_303 (by decide) ?_
                refine lv_istore (lv' := [(7, .int 1), (9, .int s9), (8, .int (nI nn)), (6, .int (fv a)), (0, .ref h0), (1, .ref g1), (2, .int (nI a)), (3, .int (nI tt)), (4, .ref dd), (5, .ref g2)]) hx hb dX15_macroValue_304 hl (by decide) rfl (fun ls hl => ?_)
                refine lv_iconst (v := 0) hx hb dX15_macroValue_306 (by decide) ?_
                refine lv_istore (lv' := [(10, .int 0), (7, .int 1), (9, .int s9), (8, .int (nI nn)), (6, .int (fv a)), (0, .ref h0), (1, .ref g1), (2, .int (nI a)), (3, .int (nI tt)), (4, .ref dd), (5, .ref g2)]) hx hb dX15_macroValue_307 hl (by decide) rfl (fun ls hl => ?_)
                obtain ⟨hq_109, hq_110⟩ := hW.octs hi_62 ht_63
                obtain ⟨f_111, hF_112, hq_113⟩ := hO.octs hi_62 ht_63
                refine W.widen (k := 0) (n := 0) (by omega) (by omega) ?_
                have hF_115 : F g1 = .inl (cs 17, 700, .inl fv) := (hR g1 (by rw [hT_g1]; simp only [List.mem_cons, List.not_mem_nil, or_false]; omega)).symm.trans hF_107
                have hF_116 : F h0 = .inr (15, (.ref ta) :: (.int (nI zt)) :: (.int (nI zo)) :: (.int (nI ze)) :: (.ref ou) :: (.ref so) :: (.ref ad) :: (.ref na) :: (.ref va) :: (.ref lc) :: (.ref dm) :: (.int v11_43) :: (.int v12_44) :: (.ref tg) :: (.int v14_45) :: (.int v15_46) :: (.ref pe) :: (.int v17_47) :: (.int v18_48) :: (.int v19_49) :: (.int v20_50) :: (.int v21_51) :: (.int v22_52) :: (.ref ml) :: (.ref bg) :: (.ref co) :: (.ref sp) :: (.ref nb0) :: (.ref nb1) :: (.ref nb2) :: (.int (nI nf)) :: (.int (nI bd)) :: (.int (nI mm)) :: (.int v33_53) :: (.ref pl) :: (.ref se) :: (.ref ke) :: (.ref wi) :: (.ref hs) :: (.ref mo) :: (.ref po) :: (.ref nu) :: (.ref pr) :: (.ref sq) :: (.ref xa) :: (.ref sa) :: (.ref n64) :: (.ref m64) :: (.ref ex) :: (.ref wh) :: (.ref sd) :: (.ref tk) :: (.int v52_54) :: (.int v53_55) :: (.int v54_56) :: (.ref hd) :: (.ref ak) :: (.ref ho) :: (.ref ot) :: []) := (hR h0 (by rw [hT_h0]; simp)).symm.trans hF_108
                refine pl_loopm (σ := Nat × Nat) A (dC, dI) cs ty gm L [ρ + 6, ρ + 7] F 309 12 (fun (j, w7) => [(10, .int (nI j)), (7, .int (nI w7)), (9, .int s9), (8, .int (nI nn)), (6, .int (fv a)), (0, .ref h0), (1, .ref g1), (2, .int (nI a)), (3, .int (nI tt)), (4, .ref dd), (5, .ref g2)]) (fun (j, w7) => []) (fun (j, w7) FF => w7 = 1 + dots f_111 j ∧ j ≤ ze9 ∧ FF g2 = .inr (14, [.ref r2, .int (nI y)]) ∧ FF pe = .inr (14, [.ref rp, .int (nI ze9)]) ∧ FF rp = .inl (cs 17, 100, .inl f_111)) (fun (j, w7) => ze9 - j) ?_ (0, 1) F_103 (⟨rfl, Nat.zero_le _, hy1, hy2, hF_112⟩) hO hR _ _ hP hD hS ls (lv_sub hl [0, 1, 2, 3, 4, 5, 6, 7, 8, 9, 10] rfl)
                rintro ⟨j, w7⟩ F_114 hv_117 hO hR ih_118 H locs hP hD hS ls hl
                have hl : lv_has ls 12 [(10, .int (nI j)), (7, .int (nI w7)), (9, .int s9), (8, .int (nI nn)), (6, .int (fv a)), (0, .ref h0), (1, .ref g1), (2, .int (nI a)), (3, .int (nI tt)), (4, .ref dd), (5, .ref g2)] := hl
                have hv_117 : w7 = 1 + dots f_111 j ∧ j ≤ ze9 ∧ F_114 g2 = .inr (14, [.ref r2, .int (nI y)]) ∧ F_114 pe = .inr (14, [.ref rp, .int (nI ze9)]) ∧ F_114 rp = .inl (cs 17, 100, .inl f_111) := hv_117
                refine W.eq (g2 := F0 m 309 ls []) rfl ?_
                have hF_119 : F_114 g1 = .inl (cs 17, 700, .inl fv) := (hR g1 (by rw [hT_g1]; simp only [List.mem_cons, List.not_mem_nil, or_false]; omega)).trans hF_115
                have hF_120 : F_114 h0 = .inr (15, (.ref ta) :: (.int (nI zt)) :: (.int (nI zo)) :: (.int (nI ze)) :: (.ref ou) :: (.ref so) :: (.ref ad) :: (.ref na) :: (.ref va) :: (.ref lc) :: (.ref dm) :: (.int v11_43) :: (.int v12_44) :: (.ref tg) :: (.int v14_45) :: (.int v15_46) :: (.ref pe) :: (.int v17_47) :: (.int v18_48) :: (.int v19_49) :: (.int v20_50) :: (.int v21_51) :: (.int v22_52) :: (.ref ml) :: (.ref bg) :: (.ref co) :: (.ref sp) :: (.ref nb0) :: (.ref nb1) :: (.ref nb2) :: (.int (nI nf)) :: (.int (nI bd)) :: (.int (nI mm)) :: (.int v33_53) :: (.ref pl) :: (.ref se) :: (.ref ke) :: (.ref wi) :: (.ref hs) :: (.ref mo) :: (.ref po) :: (.ref nu) :: (.ref pr) :: (.ref sq) :: (.ref xa) :: (.ref sa) :: (.ref n64) :: (.ref m64) :: (.ref ex) :: (.ref wh) :: (.ref sd) :: (.ref tk) :: (.int v52_54) :: (.int v53_55) :: (.int v54_56) :: (.ref hd) :: (.ref ak) :: (.ref ho) :: (.ref ot) :: []) := (hR h0 (by rw [hT_h0]; simp)).trans hF_116
                obtain ⟨hc1, hc2, hc3, hc4, hc5⟩ := hv_117
                have hdb := dots_b f_111 j
                have hdb2 := dots_b f_111 ze9
                refine lv_iload hx hb dX15_macroValue_309 (lv_at hl 0 rfl) ?_
                refine lv_aload_n hx hb dX15_macroValue_311 rfl (lv_at hl 5 rfl) ?_
                refine pg_get (ci := 15) (v := .ref pe) (C := RX15) (T := TX15) (N := 59) hx hb hts it_15 hown hK hP hL_h0 hF_120 rfl 16 (by decide) (hts _ kt_758) (fun _ h9 => h9) rfl dX15_macroValue_312 ?_
                refine pg_get (ci := 14) (v := .int (nI ze9)) (C := RX14) (T := TX14) (N := 2) hx hb hts it_14 hown hK hP hL_pe hc4 rfl 1 (by decide) (hts _ kt_699) (fun _ h9 => h9) rfl dX15_macroValue_315 ?_
                refine lv_icmp_ge (tgt := 345) hx hb dX15_macroValue_318 (by decide) (fun c_121 => ?_) (fun c_121 => ?_)
                ·
                  have hi_122 : ze9 ≤ j := leN (N := ze9) c_121
                  have hw7 : w7 = 1 + dots f_111 ze9 := by rw [hc1, show j = ze9 from by omega]
                  have hF_125 : F g1 = .inl (cs 17, 700, .inl fv) := (hR g1 (by rw [hT_g1]; simp only [List.mem_cons, List.not_mem_nil, or_false]; omega)).symm.trans hF_119
                  have hF_126 : F h0 = .inr (15, (.ref ta) :: (.int (nI zt)) :: (.int (nI zo)) :: (.int (nI ze)) :: (.ref ou) :: (.ref so) :: (.ref ad) :: (.ref na) :: (.ref va) :: (.ref lc) :: (.ref dm) :: (.int v11_43) :: (.int v12_44) :: (.ref tg) :: (.int v14_45) :: (.int v15_46) :: (.ref pe) :: (.int v17_47) :: (.int v18_48) :: (.int v19_49) :: (.int v20_50) :: (.int v21_51) :: (.int v22_52) :: (.ref ml) :: (.ref bg) :: (.ref co) :: (.ref sp) :: (.ref nb0) :: (.ref nb1) :: (.ref nb2) :: (.int (nI nf)) :: (.int (nI bd)) :: (.int (nI mm)) :: (.int v33_53) :: (.ref pl) :: (.ref se) :: (.ref ke) :: (.ref wi) :: (.ref hs) :: (.ref mo) :: (.ref po) :: (.ref nu) :: (.ref pr) :: (.ref sq) :: (.ref xa) :: (.ref sa) :: (.ref n64) :: (.ref m64) :: (.ref ex) :: (.ref wh) :: (.ref sd) :: (.ref tk) :: (.int v52_54) :: (.int v53_55) :: (.int v54_56) :: (.ref hd) :: (.ref ak) :: (.ref ho) :: (.ref ot) :: []) := (hR h0 (by rw [hT_h0]; simp)).symm.trans hF_120
                  refine W.widen (k := 0) (n := 0) (by omega) (by omega) ?_
                  refine pl_cutm (σ := Int32) A (dC, dI) cs ty gm L [ρ + 6, ρ + 7] F 366 12 (fun s10 => [(7, .int (nI w7)), (9, .int s9), (8, .int (nI nn)), (6, .int (fv a)), (0, .ref h0), (1, .ref g1), (2, .int (nI a)), (3, .int (nI tt)), (4, .ref dd), (5, .ref g2)]) (fun s10 => [.int s10]) (fun s10 FF => (∃ k : Nat, k ≤ w7 ∧ s10 = nI k) ∧ FF g2 = .inr (14, [.ref r2, .int (nI y)]) ∧ FF pe = .inr (14, [.ref rp, .int (nI ze9)]) ∧ FF rp = .inl (cs 17, 100, .inl f_111)) ?_ (fun jn_123 => ?_)
                  ·
                    rintro s10 F_124 hv_127 hO hR H locs hP hD hS ls hl
                    have hl : lv_has ls 12 [(7, .int (nI w7)), (9, .int s9), (8, .int (nI nn)), (6, .int (fv a)), (0, .ref h0), (1, .ref g1), (2, .int (nI a)), (3, .int (nI tt)), (4, .ref dd), (5, .ref g2)] := hl
                    have hv_127 : (∃ k : Nat, k ≤ w7 ∧ s10 = nI k) ∧ F_124 g2 = .inr (14, [.ref r2, .int (nI y)]) ∧ F_124 pe = .inr (14, [.ref rp, .int (nI ze9)]) ∧ F_124 rp = .inl (cs 17, 100, .inl f_111) := hv_127
                    refine W.eq (g2 := F0 m 366 ls [.int s10]) rfl ?_
                    have hF_128 : F_124 g1 = .inl (cs 17, 700, .inl fv) := (hR g1 (by rw [hT_g1]; simp only [List.mem_cons, List.not_mem_nil, or_false]; omega)).trans hF_125
                    have hF_129 : F_124 h0 = .inr (15, (.ref ta) :: (.int (nI zt)) :: (.int (nI zo)) :: (.int (nI ze)) :: (.ref ou) :: (.ref so) :: (.ref ad) :: (.ref na) :: (.ref va) :: (.ref lc) :: (.ref dm) :: (.int v11_43) :: (.int v12_44) :: (.ref tg) :: (.int v14_45) :: (.int v15_46) :: (.ref pe) :: (.int v17_47) :: (.int v18_48) :: (.int v19_49) :: (.int v20_50) :: (.int v21_51) :: (.int v22_52) :: (.ref ml) :: (.ref bg) :: (.ref co) :: (.ref sp) :: (.ref nb0) :: (.ref nb1) :: (.ref nb2) :: (.int (nI nf)) :: (.int (nI bd)) :: (.int (nI mm)) :: (.int v33_53) :: (.ref pl) :: (.ref se) :: (.ref ke) :: (.ref wi) :: (.ref hs) :: (.ref mo) :: (.ref po) :: (.ref nu) :: (.ref pr) :: (.ref sq) :: (.ref xa) :: (.ref sa) :: (.ref n64) :: (.ref m64) :: (.ref ex) :: (.ref wh) :: (.ref sd) :: (.ref tk) :: (.int v52_54) :: (.int v53_55) :: (.int v54_56) :: (.ref hd) :: (.ref ak) :: (.ref ho) :: (.ref ot) :: []) := (hR h0 (by rw [hT_h0]; simp)).trans hF_126
                    obtain ⟨⟨kf, hkf, ekf⟩, hd1, hd2, hd3⟩ := hv_127
                    subst ekf
                    refine W.eq (g2 := F0 m 366 ls [.int (nI kf)]) rfl ?_
                    refine lv_istore (lv' := [(10, .int (nI kf)), (7, .int (nI w7)), (9, .int s9), (8, .int (nI nn)), (6, .int (fv a)), (0, .ref h0), (1, .ref g1), (2, .int (nI a)), (3, .int (nI tt)), (4, .ref dd), (5, .ref g2)]) hx hb dX15_macroValue_366 hl (by decide) rfl (fun ls hl => ?_)
                    refine lv_iload hx hb dX15_macroValue_368 (lv_at hl 0 rfl) ?_
                    refine lv_istore (lv' := [(11, .int (nI kf)), (10, .int (nI kf)), (7, .int (nI w7)), (9, .int s9), (8, .int (nI nn)), (6, .int (fv a)), (0, .ref h0), (1, .ref g1), (2, .int (nI a)), (3, .int (nI tt)), (4, .ref dd), (5, .ref g2)]) hx hb dX15_macroValue_370 hl (by decide) rfl (fun ls hl => ?_)
                    obtain ⟨hi_130, ht_131, hq_132⟩ := hW.txt hL_g2 hT_g2
                    refine W.widen (k := 0) (n := 0) (by omega) (by omega) ?_
                    have hF_134 : F g1 = .inl (cs 17, 700, .inl fv) := (hR g1 (by rw [hT_g1]; simp only [List.mem_cons, List.not_mem_nil, or_false]; omega)).symm.trans hF_128
                    have hF_135 : F h0 = .inr (15, (.ref ta) :: (.int (nI zt)) :: (.int (nI zo)) :: (.int (nI ze)) :: (.ref ou) :: (.ref so) :: (.ref ad) :: (.ref na) :: (.ref va) :: (.ref lc) :: (.ref dm) :: (.int v11_43) :: (.int v12_44) :: (.ref tg) :: (.int v14_45) :: (.int v15_46) :: (.ref pe) :: (.int v17_47) :: (.int v18_48) :: (.int v19_49) :: (.int v20_50) :: (.int v21_51) :: (.int v22_52) :: (.ref ml) :: (.ref bg) :: (.ref co) :: (.ref sp) :: (.ref nb0) :: (.ref nb1) :: (.ref nb2) :: (.int (nI nf)) :: (.int (nI bd)) :: (.int (nI mm)) :: (.int v33_53) :: (.ref pl) :: (.ref se) :: (.ref ke) :: (.ref wi) :: (.ref hs) :: (.ref mo) :: (.ref po) :: (.ref nu) :: (.ref pr) :: (.ref sq) :: (.ref xa) :: (.ref sa) :: (.ref n64) :: (.ref m64) :: (.ref ex) :: (.ref wh) :: (.ref sd) :: (.ref tk) :: (.int v52_54) :: (.int v53_55) :: (.int v54_56) :: (.ref hd) :: (.ref ak) :: (.ref ho) :: (.ref ot) :: []) := (hR h0 (by rw [hT_h0]; simp)).symm.trans hF_129
                    refine pl_loopm (σ := Nat × Nat) A (dC, dI) cs ty gm L [ρ + 6, ρ + 7] F 372 12 (fun (i, yy) => [(11, .int (nI i)), (10, .int (nI kf)), (7, .int (nI w7)), (9, .int s9), (8, .int (nI nn)), (6, .int (fv a)), (0, .ref h0), (1, .ref g1), (2, .int (nI a)), (3, .int (nI tt)), (4, .ref dd), (5, .ref g2)]) (fun (i, yy) => []) (fun (i, yy) FF => i ≤ w7 ∧ yy ≤ 61 ∧ FF g2 = .inr (14, [.ref r2, .int (nI yy)]) ∧ FF pe = .inr (14, [.ref rp, .int (nI ze9)]) ∧ FF rp = .inl (cs 17, 100, .inl f_111)) (fun (i, yy) => w7 - i) ?_ (kf, y) F_124 (⟨by omega, by omega, hd1, hd2, hd3⟩) hO hR _ _ hP hD hS ls (lv_sub hl [0, 1, 2, 3, 4, 5, 6, 7, 8, 9, 10, 11] rfl)
                    rintro ⟨i, yy⟩ F_133 hv_136 hO hR ih_137 H locs hP hD hS ls hl
                    have hl : lv_has ls 12 [(11, .int (nI i)), (10, .int (nI kf)), (7, .int (nI w7)), (9, .int s9), (8, .int (nI nn)), (6, .int (fv a)), (0, .ref h0), (1, .ref g1), (2, .int (nI a)), (3, .int (nI tt)), (4, .ref dd), (5, .ref g2)] := hl
                    have hv_136 : i ≤ w7 ∧ yy ≤ 61 ∧ F_133 g2 = .inr (14, [.ref r2, .int (nI yy)]) ∧ F_133 pe = .inr (14, [.ref rp, .int (nI ze9)]) ∧ F_133 rp = .inl (cs 17, 100, .inl f_111) := hv_136
                    refine W.eq (g2 := F0 m 372 ls []) rfl ?_
                    have hF_138 : F_133 g1 = .inl (cs 17, 700, .inl fv) := (hR g1 (by rw [hT_g1]; simp only [List.mem_cons, List.not_mem_nil, or_false]; omega)).trans hF_134
                    have hF_139 : F_133 h0 = .inr (15, (.ref ta) :: (.int (nI zt)) :: (.int (nI zo)) :: (.int (nI ze)) :: (.ref ou) :: (.ref so) :: (.ref ad) :: (.ref na) :: (.ref va) :: (.ref lc) :: (.ref dm) :: (.int v11_43) :: (.int v12_44) :: (.ref tg) :: (.int v14_45) :: (.int v15_46) :: (.ref pe) :: (.int v17_47) :: (.int v18_48) :: (.int v19_49) :: (.int v20_50) :: (.int v21_51) :: (.int v22_52) :: (.ref ml) :: (.ref bg) :: (.ref co) :: (.ref sp) :: (.ref nb0) :: (.ref nb1) :: (.ref nb2) :: (.int (nI nf)) :: (.int (nI bd)) :: (.int (nI mm)) :: (.int v33_53) :: (.ref pl) :: (.ref se) :: (.ref ke) :: (.ref wi) :: (.ref hs) :: (.ref mo) :: (.ref po) :: (.ref nu) :: (.ref pr) :: (.ref sq) :: (.ref xa) :: (.ref sa) :: (.ref n64) :: (.ref m64) :: (.ref ex) :: (.ref wh) :: (.ref sd) :: (.ref tk) :: (.int v52_54) :: (.int v53_55) :: (.int v54_56) :: (.ref hd) :: (.ref ak) :: (.ref ho) :: (.ref ot) :: []) := (hR h0 (by rw [hT_h0]; simp)).trans hF_135
                    obtain ⟨hf1, hf2, hf3, hf4, hf5⟩ := hv_136
                    refine lv_iload hx hb dX15_macroValue_372 (lv_at hl 0 rfl) ?_
                    refine lv_iload hx hb dX15_macroValue_374 (lv_at hl 2 rfl) ?_
                    refine lv_icmp_ge (tgt := 422) hx hb dX15_macroValue_376 (by decide) (fun c_140 => ?_) (fun c_140 => ?_)
                    ·
                      have hi_141 : w7 ≤ i := leN (N := w7) c_140
                      refine W.widen (k := 0) (n := 0) (by omega) (by omega) ?_
                      exact W.vret hx hb hr (fun t ht hWm => ⟨⟨(), rfl, trivial, ⟨F_133, yy, QTm.mk ht hP hD hO hR, hf3, by omega⟩⟩, hS.F ht⟩) hS.2.2 dX15_macroValue_422
                    ·
                      have hi_142 : i < w7 := ltN (N := w7) c_140
                      refine lv_iload hx hb dX15_macroValue_379 (lv_at hl 0 rfl) ?_
                      refine lv_iload hx hb dX15_macroValue_381 (lv_at hl 1 rfl) ?_
                      refine lv_icmp_le (tgt := 393) hx hb dX15_macroValue_383 (by decide) (fun c_143 => ?_) (fun c_143 => ?_)
                      ·
                        have hi_144 : i ≤ kf := (nI_leI (a := i) (b := kf) (by omega) (by omega)).mp c_143
                        refine lv_aload_n hx hb dX15_macroValue_393 rfl (lv_at hl 6 rfl) ?_
                        refine lv_iload hx hb dX15_macroValue_394 (lv_at hl 3 rfl) ?_
                        refine lv_if_eq (tgt := 409) hx hb dX15_macroValue_396 (by decide) (fun c_145 => ?_) (fun c_145 => ?_)
                        ·
                          refine lv_iload hx hb dX15_macroValue_409 (lv_at hl 0 rfl) ?_
                          refine lv_aload hx hb dX15_macroValue_411 (lv_at hl 11 rfl) ?_
                          obtain ⟨hi_146, ht_147, hq_148⟩ := hW.txt hL_g2 hT_g2
                          have hFc := pg_free hD hS hA
                          refine va_callv (va_runV (As := [.int (nI i), .ref g2]) (rest := []) ⟨hx, hb, hml, hown, hts⟩ (s_X15_part l dC dI cs ty gm L H.size F_133 h0 ρ ta ou so ad na va lc dm tg pe ml bg co sp nb0 nb1 nb2 pl se ke wi hs mo po nu pr sq xa sa n64 m64 ex wh sd tk hd ak ho ot sx s0 s1 s2 nf bd mm zo ze zt rp g2 r2 i ze9 yy f_111 hW hL_h0 hT_h0 hL_pe hT_pe hL_g2 hT_g2 hf4 hf5 hf3 (by first | omega | assumption) (by first | omega | assumption) (by first | omega | assumption)) ⟨callB_of 2 hts (gi kt_762) rfl rfl rfl (hts _ kt_659) (hts _ kt_763) (by decide +kernel) ⟨Nat.le_of_ble_eq_true rfl, Nat.le_of_ble_eq_true rfl⟩, (hts _ kt_764), (hts _ kt_765)⟩ ⟨fun a U g mk q => ⟨q.1, PTm.calling q.2⟩, pg_recv hK hP hL_h0 hF_139 (q := (RX15, TX15, 59)) rfl, fun U hU hWm => ⟨rfl, PTm.mk hU hWm hP hK hD hE hO⟩⟩ rfl rfl hl.1 rfl (lv_room (Nat.le_of_ble_eq_true rfl)) dX15_macroValue_413 ⟨by show _ + 0 ≤ 0; omega, by show _ + 0 ≤ 0; omega⟩) hS (fun q _ h => hFc q h) hFc (fun u t H1 locs ht hvm hw hB hz1 hk1 hS => ?_)
                          obtain ⟨F_150, y2_151, hB1, hq_152, hq_153⟩ := hB
                          obtain ⟨hP, hD, hO, hR⟩ := QTm.back hB1 ht hFc hR (fun q h => by simp only [List.mem_cons, List.not_mem_nil, or_false] at h ⊢; omega)
                          have hF_154 : F_150 g1 = .inl (cs 17, 700, .inl fv) := (hB1.2.2.2 g1 (by rw [hT_g1]; simp only [List.mem_cons, List.not_mem_nil, or_false]; omega)).trans hF_138
                          have hF_155 : F_150 h0 = .inr (15, (.ref ta) :: (.int (nI zt)) :: (.int (nI zo)) :: (.int (nI ze)) :: (.ref ou) :: (.ref so) :: (.ref ad) :: (.ref na) :: (.ref va) :: (.ref lc) :: (.ref dm) :: (.int v11_43) :: (.int v12_44) :: (.ref tg) :: (.int v14_45) :: (.int v15_46) :: (.ref pe) :: (.int v17_47) :: (.int v18_48) :: (.int v19_49) :: (.int v20_50) :: (.int v21_51) :: (.int v22_52) :: (.ref ml) :: (.ref bg) :: (.ref co) :: (.ref sp) :: (.ref nb0) :: (.ref nb1) :: (.ref nb2) :: (.int (nI nf)) :: (.int (nI bd)) :: (.int (nI mm)) :: (.int v33_53) :: (.ref pl) :: (.ref se) :: (.ref ke) :: (.ref wi) :: (.ref hs) :: (.ref mo) :: (.ref po) :: (.ref nu) :: (.ref pr) :: (.ref sq) :: (.ref xa) :: (.ref sa) :: (.ref n64) :: (.ref m64) :: (.ref ex) :: (.ref wh) :: (.ref sd) :: (.ref tk) :: (.int v52_54) :: (.int v53_55) :: (.int v54_56) :: (.ref hd) :: (.ref ak) :: (.ref ho) :: (.ref ot) :: []) := (hB1.2.2.2 h0 (by rw [hT_h0]; simp)).trans hF_139
                          have hF_156 : F_150 pe = .inr (14, [.ref rp, .int (nI ze9)]) := (hB1.2.2.2 pe (by rw [hT_pe]; simp)).trans hf4
                          have hF_157 : F_150 rp = .inl (cs 17, 100, .inl f_111) := (hB1.2.2.2 rp (by rw [ht_63]; simp)).trans hf5
                          generalize H1 = H at hP hS ⊢
                          refine lv_iinc (v := (nI (i + 1))) (lv' := [(11, .int (nI (i + 1))), (10, .int (nI kf)), (7, .int (nI w7)), (9, .int s9), (8, .int (nI nn)), (6, .int (fv a)), (0, .ref h0), (1, .ref g1), (2, .int (nI a)), (3, .int (nI tt)), (4, .ref dd), (5, .ref g2)]) hx hb dX15_macroValue_416 hl (k := 0) rfl (nI_1 _) (by decide) rfl (fun ls hl => ?_)
                          refine lv_goto (tgt := 372) hx hb dX15_macroValue_419 (by decide) ?_
                          refine W.widen (k := 0) (n := 0) (by omega) (by omega) ?_
                          exact ih_137 ((i + 1), y2_151) F_150 (⟨by omega, by omega, hq_152, hF_156, hF_157⟩) (by show w7 - (i + 1) < w7 - i; omega) hO hR _ _ hP hD hS ls (lv_sub hl [0, 1, 2, 3, 4, 5, 6, 7, 8, 9, 10, 11] rfl)
                        ·
                          refine lv_iload hx hb dX15_macroValue_399 (lv_at hl 2 rfl) ?_
                          refine lv_iconst (v := 1) hx hb dX15_macroValue_401 (by decide) ?_
                          refine lv_isub hx hb dX15_macroValue_402 ?_
                          refine lv_topi (fun x_158 ex_158 => ?_)
                          obtain rfl : x_158 = (nI (w7 - 1)) := ex_158.trans (pk_sub (a := w7) (b := 1) (by omega))
                          refine lv_iload hx hb dX15_macroValue_403 (lv_at hl 0 rfl) ?_
                          refine lv_isub hx hb dX15_macroValue_405 ?_
                          refine lv_topi (fun x_159 ex_159 => ?_)
                          obtain rfl : x_159 = (nI ((w7 - 1) - i)) := ex_159.trans (pk_sub (a := (w7 - 1)) (b := i) (by omega))
                          refine lv_goto (tgt := 411) hx hb dX15_macroValue_406 (by decide) ?_
                          refine lv_aload hx hb dX15_macroValue_411 (lv_at hl 11 rfl) ?_
                          obtain ⟨hi_160, ht_161, hq_162⟩ := hW.txt hL_g2 hT_g2
                          have hFc := pg_free hD hS hA
                          refine va_callv (va_runV (As := [.int (nI ((w7 - 1) - i)), .ref g2]) (rest := []) ⟨hx, hb, hml, hown, hts⟩ (s_X15_part l dC dI cs ty gm L H.size F_133 h0 ρ ta ou so ad na va lc dm tg pe ml bg co sp nb0 nb1 nb2 pl se ke wi hs mo po nu pr sq xa sa n64 m64 ex wh sd tk hd ak ho ot sx s0 s1 s2 nf bd mm zo ze zt rp g2 r2 ((w7 - 1) - i) ze9 yy f_111 hW hL_h0 hT_h0 hL_pe hT_pe hL_g2 hT_g2 hf4 hf5 hf3 (by first | omega | assumption) (by first | omega | assumption) (by first | omega | assumption)) ⟨callB_of 2 hts (gi kt_762) rfl rfl rfl (hts _ kt_659) (hts _ kt_763) (by decide +kernel) ⟨Nat.le_of_ble_eq_true rfl, Nat.le_of_ble_eq_true rfl⟩, (hts _ kt_764), (hts _ kt_765)⟩ ⟨fun a U g mk q => ⟨q.1, PTm.calling q.2⟩, pg_recv hK hP hL_h0 hF_139 (q := (RX15, TX15, 59)) rfl, fun U hU hWm => ⟨rfl, PTm.mk hU hWm hP hK hD hE hO⟩⟩ rfl rfl hl.1 rfl (lv_room (Nat.le_of_ble_eq_true rfl)) dX15_macroValue_413 ⟨by show _ + 0 ≤ 0; omega, by show _ + 0 ≤ 0; omega⟩) hS (fun q _ h => hFc q h) hFc (fun u t H1 locs ht hvm hw hB hz1 hk1 hS => ?_)
                          obtain ⟨F_164, y2_165, hB1, hq_166, hq_167⟩ := hB
                          obtain ⟨hP, hD, hO, hR⟩ := QTm.back hB1 ht hFc hR (fun q h => by simp only [List.mem_cons, List.not_mem_nil, or_false] at h ⊢; omega)
                          have hF_168 : F_164 g1 = .inl (cs 17, 700, .inl fv) := (hB1.2.2.2 g1 (by rw [hT_g1]; simp only [List.mem_cons, List.not_mem_nil, or_false]; omega)).trans hF_138
                          have hF_169 : F_164 h0 = .inr (15, (.ref ta) :: (.int (nI zt)) :: (.int (nI zo)) :: (.int (nI ze)) :: (.ref ou) :: (.ref so) :: (.ref ad) :: (.ref na) :: (.ref va) :: (.ref lc) :: (.ref dm) :: (.int v11_43) :: (.int v12_44) :: (.ref tg) :: (.int v14_45) :: (.int v15_46) :: (.ref pe) :: (.int v17_47) :: (.int v18_48) :: (.int v19_49) :: (.int v20_50) :: (.int v21_51) :: (.int v22_52) :: (.ref ml) :: (.ref bg) :: (.ref co) :: (.ref sp) :: (.ref nb0) :: (.ref nb1) :: (.ref nb2) :: (.int (nI nf)) :: (.int (nI bd)) :: (.int (nI mm)) :: (.int v33_53) :: (.ref pl) :: (.ref se) :: (.ref ke) :: (.ref wi) :: (.ref hs) :: (.ref mo) :: (.ref po) :: (.ref nu) :: (.ref pr) :: (.ref sq) :: (.ref xa) :: (.ref sa) :: (.ref n64) :: (.ref m64) :: (.ref ex) :: (.ref wh) :: (.ref sd) :: (.ref tk) :: (.int v52_54) :: (.int v53_55) :: (.int v54_56) :: (.ref hd) :: (.ref ak) :: (.ref ho) :: (.ref ot) :: []) := (hB1.2.2.2 h0 (by rw [hT_h0]; simp)).trans hF_139
                          have hF_170 : F_164 pe = .inr (14, [.ref rp, .int (nI ze9)]) := (hB1.2.2.2 pe (by rw [hT_pe]; simp)).trans hf4
                          have hF_171 : F_164 rp = .inl (cs 17, 100, .inl f_111) := (hB1.2.2.2 rp (by rw [ht_63]; simp)).trans hf5
                          generalize H1 = H at hP hS ⊢
                          refine lv_iinc (v := (nI (i + 1))) (lv' := [(11, .int (nI (i + 1))), (10, .int (nI kf)), (7, .int (nI w7)), (9, .int s9), (8, .int (nI nn)), (6, .int (fv a)), (0, .ref h0), (1, .ref g1), (2, .int (nI a)), (3, .int (nI tt)), (4, .ref dd), (5, .ref g2)]) hx hb dX15_macroValue_416 hl (k := 0) rfl (nI_1 _) (by decide) rfl (fun ls hl => ?_)
                          refine lv_goto (tgt := 372) hx hb dX15_macroValue_419 (by decide) ?_
                          refine W.widen (k := 0) (n := 0) (by omega) (by omega) ?_
                          exact ih_137 ((i + 1), y2_165) F_164 (⟨by omega, by omega, hq_166, hF_170, hF_171⟩) (by show w7 - (i + 1) < w7 - i; omega) hO hR _ _ hP hD hS ls (lv_sub hl [0, 1, 2, 3, 4, 5, 6, 7, 8, 9, 10, 11] rfl)
                      ·
                        have hi_172 : kf < i := Nat.not_le.mp (fun q => c_143 ((nI_leI (a := i) (b := kf) (by omega) (by omega)).mpr q))
                        refine lv_aload hx hb dX15_macroValue_386 (lv_at hl 11 rfl) ?_
                        refine lv_bipush (v := 46) hx hb dX15_macroValue_388 (by decide) ?_
                        obtain ⟨hi_173, ht_174, hq_175⟩ := hW.txt hL_g2 hT_g2
                        have hFc := pg_free hD hS hA
                        refine va_callv (va_runS (As := [.ref g2, .int 46]) (rest := []) ⟨hx, hb, hml, hown, hts⟩ (s_X15_put l dC dI cs ty gm L H.size F_133 g2 (ρ + 6) r2 61 yy 46 hW hL_g2 hT_g2 hf3 (by first | omega | assumption) (by first | omega | assumption)) ⟨callB_of 2 hts (gi kt_759) rfl rfl rfl (hts _ kt_659) (hts _ kt_760) (by decide +kernel) ⟨Nat.le_of_ble_eq_true rfl, Nat.le_of_ble_eq_true rfl⟩, (hts _ kt_761)⟩ ⟨fun a U g mk q => ⟨q.1, PTm.calling q.2⟩, fun U hU hWm => ⟨rfl, PTm.mk hU hWm hP hK hD hE hO⟩⟩ rfl rfl hl.1 rfl (lv_room (Nat.le_of_ble_eq_true rfl)) dX15_macroValue_390 ⟨by show _ + 0 ≤ 0; omega, by show _ + 0 ≤ 0; omega⟩) hS (fun q _ h => hFc q h) hFc (fun u t H1 locs ht hvm hw hB hz1 hk1 hS => ?_)
                        obtain ⟨F_177, z2_178, hB1, hq_179, hq_180⟩ := hB
                        obtain ⟨hP, hD, hO, hR⟩ := QTm.back hB1 ht hFc hR (fun q h => by simp only [List.mem_cons, List.not_mem_nil, or_false] at h ⊢; omega)
                        have hF_181 : F_177 g1 = .inl (cs 17, 700, .inl fv) := (hB1.2.2.2 g1 (by rw [hT_g1]; simp only [List.mem_cons, List.not_mem_nil, or_false]; omega)).trans hF_138
                        have hF_182 : F_177 h0 = .inr (15, (.ref ta) :: (.int (nI zt)) :: (.int (nI zo)) :: (.int (nI ze)) :: (.ref ou) :: (.ref so) :: (.ref ad) :: (.ref na) :: (.ref va) :: (.ref lc) :: (.ref dm) :: (.int v11_43) :: (.int v12_44) :: (.ref tg) :: (.int v14_45) :: (.int v15_46) :: (.ref pe) :: (.int v17_47) :: (.int v18_48) :: (.int v19_49) :: (.int v20_50) :: (.int v21_51) :: (.int v22_52) :: (.ref ml) :: (.ref bg) :: (.ref co) :: (.ref sp) :: (.ref nb0) :: (.ref nb1) :: (.ref nb2) :: (.int (nI nf)) :: (.int (nI bd)) :: (.int (nI mm)) :: (.int v33_53) :: (.ref pl) :: (.ref se) :: (.ref ke) :: (.ref wi) :: (.ref hs) :: (.ref mo) :: (.ref po) :: (.ref nu) :: (.ref pr) :: (.ref sq) :: (.ref xa) :: (.ref sa) :: (.ref n64) :: (.ref m64) :: (.ref ex) :: (.ref wh) :: (.ref sd) :: (.ref tk) :: (.int v52_54) :: (.int v53_55) :: (.int v54_56) :: (.ref hd) :: (.ref ak) :: (.ref ho) :: (.ref ot) :: []) := (hB1.2.2.2 h0 (by rw [hT_h0]; simp)).trans hF_139
                        have hF_183 : F_177 pe = .inr (14, [.ref rp, .int (nI ze9)]) := (hB1.2.2.2 pe (by rw [hT_pe]; simp)).trans hf4
                        have hF_184 : F_177 rp = .inl (cs 17, 100, .inl f_111) := (hB1.2.2.2 rp (by rw [ht_63]; simp)).trans hf5
                        generalize H1 = H at hP hS ⊢
                        refine lv_aload_n hx hb dX15_macroValue_393 rfl (lv_at hl 6 rfl) ?_
                        refine lv_iload hx hb dX15_macroValue_394 (lv_at hl 3 rfl) ?_
                        refine lv_if_eq (tgt := 409) hx hb dX15_macroValue_396 (by decide) (fun c_185 => ?_) (fun c_185 => ?_)
                        ·
                          refine lv_iload hx hb dX15_macroValue_409 (lv_at hl 0 rfl) ?_
                          refine lv_aload hx hb dX15_macroValue_411 (lv_at hl 11 rfl) ?_
                          have hFc := pg_free hD hS hA
                          refine va_callv (va_runV (As := [.int (nI i), .ref g2]) (rest := []) ⟨hx, hb, hml, hown, hts⟩ (s_X15_part l dC dI cs ty gm L H.size F_177 h0 ρ ta ou so ad na va lc dm tg pe ml bg co sp nb0 nb1 nb2 pl se ke wi hs mo po nu pr sq xa sa n64 m64 ex wh sd tk hd ak ho ot sx s0 s1 s2 nf bd mm zo ze zt rp g2 r2 i ze9 z2_178 f_111 hW hL_h0 hT_h0 hL_pe hT_pe hL_g2 hT_g2 hF_183 hF_184 hq_179 (by first | omega | assumption) (by first | omega | assumption) (by first | omega | assumption)) ⟨callB_of 2 hts (gi kt_762) rfl rfl rfl (hts _ kt_659) (hts _ kt_763) (by decide +kernel) ⟨Nat.le_of_ble_eq_true rfl, Nat.le_of_ble_eq_true rfl⟩, (hts _ kt_764), (hts _ kt_765)⟩ ⟨fun a U g mk q => ⟨q.1, PTm.calling q.2⟩, pg_recv hK hP hL_h0 hF_182 (q := (RX15, TX15, 59)) rfl, fun U hU hWm => ⟨rfl, PTm.mk hU hWm hP hK hD hE hO⟩⟩ rfl rfl hl.1 rfl (lv_room (Nat.le_of_ble_eq_true rfl)) dX15_macroValue_413 ⟨by show _ + 0 ≤ 0; omega, by show _ + 0 ≤ 0; omega⟩) hS (fun q _ h => hFc q h) hFc (fun u t H1 locs ht hvm hw hB hz1 hk1 hS => ?_)
                          obtain ⟨F_187, y2_188, hB1, hq_189, hq_190⟩ := hB
                          obtain ⟨hP, hD, hO, hR⟩ := QTm.back hB1 ht hFc hR (fun q h => by simp only [List.mem_cons, List.not_mem_nil, or_false] at h ⊢; omega)
                          have hF_191 : F_187 g1 = .inl (cs 17, 700, .inl fv) := (hB1.2.2.2 g1 (by rw [hT_g1]; simp only [List.mem_cons, List.not_mem_nil, or_false]; omega)).trans hF_181
                          have hF_192 : F_187 h0 = .inr (15, (.ref ta) :: (.int (nI zt)) :: (.int (nI zo)) :: (.int (nI ze)) :: (.ref ou) :: (.ref so) :: (.ref ad) :: (.ref na) :: (.ref va) :: (.ref lc) :: (.ref dm) :: (.int v11_43) :: (.int v12_44) :: (.ref tg) :: (.int v14_45) :: (.int v15_46) :: (.ref pe) :: (.int v17_47) :: (.int v18_48) :: (.int v19_49) :: (.int v20_50) :: (.int v21_51) :: (.int v22_52) :: (.ref ml) :: (.ref bg) :: (.ref co) :: (.ref sp) :: (.ref nb0) :: (.ref nb1) :: (.ref nb2) :: (.int (nI nf)) :: (.int (nI bd)) :: (.int (nI mm)) :: (.int v33_53) :: (.ref pl) :: (.ref se) :: (.ref ke) :: (.ref wi) :: (.ref hs) :: (.ref mo) :: (.ref po) :: (.ref nu) :: (.ref pr) :: (.ref sq) :: (.ref xa) :: (.ref sa) :: (.ref n64) :: (.ref m64) :: (.ref ex) :: (.ref wh) :: (.ref sd) :: (.ref tk) :: (.int v52_54) :: (.int v53_55) :: (.int v54_56) :: (.ref hd) :: (.ref ak) :: (.ref ho) :: (.ref ot) :: []) := (hB1.2.2.2 h0 (by rw [hT_h0]; simp)).trans hF_182
                          have hF_193 : F_187 pe = .inr (14, [.ref rp, .int (nI ze9)]) := (hB1.2.2.2 pe (by rw [hT_pe]; simp)).trans hF_183
                          have hF_194 : F_187 rp = .inl (cs 17, 100, .inl f_111) := (hB1.2.2.2 rp (by rw [ht_63]; simp)).trans hF_184
                          generalize H1 = H at hP hS ⊢
                          refine lv_iinc (v := (nI (i + 1))) (lv' := [(11, .int (nI (i + 1))), (10, .int (nI kf)), (7, .int (nI w7)), (9, .int s9), (8, .int (nI nn)), (6, .int (fv a)), (0, .ref h0), (1, .ref g1), (2, .int (nI a)), (3, .int (nI tt)), (4, .ref dd), (5, .ref g2)]) hx hb dX15_macroValue_416 hl (k := 0) rfl (nI_1 _) (by decide) rfl (fun ls hl => ?_)
                          refine lv_goto (tgt := 372) hx hb dX15_macroValue_419 (by decide) ?_
                          refine W.widen (k := 0) (n := 0) (by omega) (by omega) ?_
                          exact ih_137 ((i + 1), y2_188) F_187 (⟨by omega, by omega, hq_189, hF_193, hF_194⟩) (by show w7 - (i + 1) < w7 - i; omega) hO hR _ _ hP hD hS ls (lv_sub hl [0, 1, 2, 3, 4, 5, 6, 7, 8, 9, 10, 11] rfl)
                        ·
                          refine lv_iload hx hb dX15_macroValue_399 (lv_at hl 2 rfl) ?_
                          refine lv_iconst (v := 1) hx hb dX15_macroValue_401 (by decide) ?_
                          refine lv_isub hx hb dX15_macroValue_402 ?_
                          refine lv_topi (fun x_195 ex_195 => ?_)
                          obtain rfl : x_195 = (nI (w7 - 1)) := ex_195.trans (pk_sub (a := w7) (b := 1) (by omega))
                          refine lv_iload hx hb dX15_macroValue_403 (lv_at hl 0 rfl) ?_
                          refine lv_isub hx hb dX15_macroValue_405 ?_
                          refine lv_topi (fun x_196 ex_196 => ?_)
                          obtain rfl : x_196 = (nI ((w7 - 1) - i)) := ex_196.trans (pk_sub (a := (w7 - 1)) (b := i) (by omega))
                          refine lv_goto (tgt := 411) hx hb dX15_macroValue_406 (by decide) ?_
                          refine lv_aload hx hb dX15_macroValue_411 (lv_at hl 11 rfl) ?_
                          have hFc := pg_free hD hS hA
                          refine va_callv (va_runV (As := [.int (nI ((w7 - 1) - i)), .ref g2]) (rest := []) ⟨hx, hb, hml, hown, hts⟩ (s_X15_part l dC dI cs ty gm L H.size F_177 h0 ρ ta ou so ad na va lc dm tg pe ml bg co sp nb0 nb1 nb2 pl se ke wi hs mo po nu pr sq xa sa n64 m64 ex wh sd tk hd ak ho ot sx s0 s1 s2 nf bd mm zo ze zt rp g2 r2 ((w7 - 1) - i) ze9 z2_178 f_111 hW hL_h0 hT_h0 hL_pe hT_pe hL_g2 hT_g2 hF_183 hF_184 hq_179 (by first | omega | assumption) (by first | omega | assumption) (by first | omega | assumption)) ⟨callB_of 2 hts (gi kt_762) rfl rfl rfl (hts _ kt_659) (hts _ kt_763) (by decide +kernel) ⟨Nat.le_of_ble_eq_true rfl, Nat.le_of_ble_eq_true rfl⟩, (hts _ kt_764), (hts _ kt_765)⟩ ⟨fun a U g mk q => ⟨q.1, PTm.calling q.2⟩, pg_recv hK hP hL_h0 hF_182 (q := (RX15, TX15, 59)) rfl, fun U hU hWm => ⟨rfl, PTm.mk hU hWm hP hK hD hE hO⟩⟩ rfl rfl hl.1 rfl (lv_room (Nat.le_of_ble_eq_true rfl)) dX15_macroValue_413 ⟨by show _ + 0 ≤ 0; omega, by show _ + 0 ≤ 0; omega⟩) hS (fun q _ h => hFc q h) hFc (fun u t H1 locs ht hvm hw hB hz1 hk1 hS => ?_)
                          obtain ⟨F_198, y2_199, hB1, hq_200, hq_201⟩ := hB
                          obtain ⟨hP, hD, hO, hR⟩ := QTm.back hB1 ht hFc hR (fun q h => by simp only [List.mem_cons, List.not_mem_nil, or_false] at h ⊢; omega)
                          have hF_202 : F_198 g1 = .inl (cs 17, 700, .inl fv) := (hB1.2.2.2 g1 (by rw [hT_g1]; simp only [List.mem_cons, List.not_mem_nil, or_false]; omega)).trans hF_181
                          have hF_203 : F_198 h0 = .inr (15, (.ref ta) :: (.int (nI zt)) :: (.int (nI zo)) :: (.int (nI ze)) :: (.ref ou) :: (.ref so) :: (.ref ad) :: (.ref na) :: (.ref va) :: (.ref lc) :: (.ref dm) :: (.int v11_43) :: (.int v12_44) :: (.ref tg) :: (.int v14_45) :: (.int v15_46) :: (.ref pe) :: (.int v17_47) :: (.int v18_48) :: (.int v19_49) :: (.int v20_50) :: (.int v21_51) :: (.int v22_52) :: (.ref ml) :: (.ref bg) :: (.ref co) :: (.ref sp) :: (.ref nb0) :: (.ref nb1) :: (.ref nb2) :: (.int (nI nf)) :: (.int (nI bd)) :: (.int (nI mm)) :: (.int v33_53) :: (.ref pl) :: (.ref se) :: (.ref ke) :: (.ref wi) :: (.ref hs) :: (.ref mo) :: (.ref po) :: (.ref nu) :: (.ref pr) :: (.ref sq) :: (.ref xa) :: (.ref sa) :: (.ref n64) :: (.ref m64) :: (.ref ex) :: (.ref wh) :: (.ref sd) :: (.ref tk) :: (.int v52_54) :: (.int v53_55) :: (.int v54_56) :: (.ref hd) :: (.ref ak) :: (.ref ho) :: (.ref ot) :: []) := (hB1.2.2.2 h0 (by rw [hT_h0]; simp)).trans hF_182
                          have hF_204 : F_198 pe = .inr (14, [.ref rp, .int (nI ze9)]) := (hB1.2.2.2 pe (by rw [hT_pe]; simp)).trans hF_183
                          have hF_205 : F_198 rp = .inl (cs 17, 100, .inl f_111) := (hB1.2.2.2 rp (by rw [ht_63]; simp)).trans hF_184
                          generalize H1 = H at hP hS ⊢
                          refine lv_iinc (v := (nI (i + 1))) (lv' := [(11, .int (nI (i + 1))), (10, .int (nI kf)), (7, .int (nI w7)), (9, .int s9), (8, .int (nI nn)), (6, .int (fv a)), (0, .ref h0), (1, .ref g1), (2, .int (nI a)), (3, .int (nI tt)), (4, .ref dd), (5, .ref g2)]) hx hb dX15_macroValue_416 hl (k := 0) rfl (nI_1 _) (by decide) rfl (fun ls hl => ?_)
                          refine lv_goto (tgt := 372) hx hb dX15_macroValue_419 (by decide) ?_
                          refine W.widen (k := 0) (n := 0) (by omega) (by omega) ?_
                          exact ih_137 ((i + 1), y2_199) F_198 (⟨by omega, by omega, hq_200, hF_204, hF_205⟩) (by show w7 - (i + 1) < w7 - i; omega) hO hR _ _ hP hD hS ls (lv_sub hl [0, 1, 2, 3, 4, 5, 6, 7, 8, 9, 10, 11] rfl)
                  ·
                    refine lv_iload hx hb dX15_macroValue_345 (lv_at hl 3 rfl) ?_
                    refine lv_if_eq (tgt := 357) hx hb dX15_macroValue_347 (by decide) (fun c_206 => ?_) (fun c_206 => ?_)
                    ·
                      have hi_207 : nn = 0 := (nI_eq (a := nn) (b := 0) (by omega) (by omega)).mp c_206
                      refine lv_iconst (v := 0) hx hb dX15_macroValue_357 (by decide) ?_
                      refine lv_goto (tgt := 366) hx hb dX15_macroValue_358 (by decide) ?_
                      refine W.widen (k := 0) (n := 0) (by omega) (by omega) ?_
                      exact jn_123 0 F_114 (⟨⟨0, by omega, rfl⟩, hc3, hc4, hc5⟩) hO hR _ _ hP hD hS ls (lv_sub hl [1, 2, 3, 4, 5, 6, 7, 8, 9, 10] rfl)
                    ·
                      have hi_208 : nn ≠ 0 := fun q => c_206 (by rw [q]; rfl)
                      refine lv_iload hx hb dX15_macroValue_350 (lv_at hl 3 rfl) ?_
                      refine lv_iload hx hb dX15_macroValue_352 (lv_at hl 1 rfl) ?_
                      refine lv_icmp_lt (tgt := 361) hx hb dX15_macroValue_354 (by decide) (fun c_209 => ?_) (fun c_209 => ?_)
                      ·
                        have hi_210 : nn < w7 := ltN (N := w7) (Int32.not_le.mpr c_209)
                        refine lv_iload hx hb dX15_macroValue_361 (lv_at hl 1 rfl) ?_
                        refine lv_iload hx hb dX15_macroValue_363 (lv_at hl 3 rfl) ?_
                        refine lv_isub hx hb dX15_macroValue_365 ?_
                        refine lv_topi (fun x_211 ex_211 => ?_)
                        obtain rfl : x_211 = (nI (w7 - nn)) := ex_211.trans (pk_sub (a := w7) (b := nn) (by omega))
                        refine W.widen (k := 0) (n := 0) (by omega) (by omega) ?_
                        exact jn_123 (nI (w7 - nn)) F_114 (⟨⟨(w7 - nn), by omega, rfl⟩, hc3, hc4, hc5⟩) hO hR _ _ hP hD hS ls (lv_sub hl [1, 2, 3, 4, 5, 6, 7, 8, 9, 10] rfl)
                      ·
                        have hi_212 : w7 ≤ nn := leN (N := w7) (Int32.not_lt.mp c_209)
                        refine lv_iconst (v := 0) hx hb dX15_macroValue_357 (by decide) ?_
                        refine lv_goto (tgt := 366) hx hb dX15_macroValue_358 (by decide) ?_
                        refine W.widen (k := 0) (n := 0) (by omega) (by omega) ?_
                        exact jn_123 0 F_114 (⟨⟨0, by omega, rfl⟩, hc3, hc4, hc5⟩) hO hR _ _ hP hD hS ls (lv_sub hl [1, 2, 3, 4, 5, 6, 7, 8, 9, 10] rfl)
                ·
                  have hi_213 : j < ze9 := ltN (N := ze9) c_121
                  refine lv_aload_n hx hb dX15_macroValue_321 rfl (lv_at hl 5 rfl) ?_
                  refine pg_get (ci := 15) (v := .ref pe) (C := RX15) (T := TX15) (N := 59) hx hb hts it_15 hown hK hP hL_h0 hF_120 rfl 16 (by decide) (hts _ kt_758) (fun _ h9 => h9) rfl dX15_macroValue_322 ?_
                  refine pg_get (ci := 14) (v := .ref rp) (C := RX14) (T := TX14) (N := 2) hx hb hts it_14 hown hK hP hL_pe hc4 rfl 0 (by decide) (hts _ kt_700) (fun _ h9 => h9) rfl dX15_macroValue_325 ?_
                  refine lv_iload hx hb dX15_macroValue_328 (lv_at hl 0 rfl) ?_
                  refine pg_bald hx hb hK hP hi_62 1 hc5 rfl (vp_in_nI (by omega) (by omega)) dX15_macroValue_330 ?_
                  refine lv_topi (fun x_214 ex_214 => ?_)
                  obtain rfl : x_214 = f_111 j := ex_214.trans (congrArg f_111 (show ((nI j) : Int32).toNatClampNeg = j from nI_clamp (by omega)))
                  refine lv_bipush (v := 46) hx hb dX15_macroValue_331 (by decide) ?_
                  refine lv_icmp_ne (tgt := 339) hx hb dX15_macroValue_333 (by decide) (fun c_215 => ?_) (fun c_215 => ?_)
                  ·
                    refine lv_iinc (v := (nI (j + 1))) (lv' := [(10, .int (nI (j + 1))), (7, .int (nI w7)), (9, .int s9), (8, .int (nI nn)), (6, .int (fv a)), (0, .ref h0), (1, .ref g1), (2, .int (nI a)), (3, .int (nI tt)), (4, .ref dd), (5, .ref g2)]) hx hb dX15_macroValue_339 hl (k := 0) rfl (nI_1 _) (by decide) rfl (fun ls hl => ?_)
                    refine lv_goto (tgt := 309) hx hb dX15_macroValue_342 (by decide) ?_
                    refine W.widen (k := 0) (n := 0) (by omega) (by omega) ?_
                    exact ih_118 ((j + 1), w7) F_114 (⟨by rw [dots_n c_215]; omega, by omega, hc3, hc4, hc5⟩) (by show ze9 - (j + 1) < ze9 - j; omega) hO hR _ _ hP hD hS ls (lv_sub hl [0, 1, 2, 3, 4, 5, 6, 7, 8, 9, 10] rfl)
                  ·
                    refine lv_iinc (v := (nI (w7 + 1))) (lv' := [(7, .int (nI (w7 + 1))), (10, .int (nI j)), (9, .int s9), (8, .int (nI nn)), (6, .int (fv a)), (0, .ref h0), (1, .ref g1), (2, .int (nI a)), (3, .int (nI tt)), (4, .ref dd), (5, .ref g2)]) hx hb dX15_macroValue_336 hl (k := 1) rfl (nI_1 _) (by decide) rfl (fun ls hl => ?_)
                    refine lv_iinc (v := (nI (j + 1))) (lv' := [(10, .int (nI (j + 1))), (7, .int (nI (w7 + 1))), (9, .int s9), (8, .int (nI nn)), (6, .int (fv a)), (0, .ref h0), (1, .ref g1), (2, .int (nI a)), (3, .int (nI tt)), (4, .ref dd), (5, .ref g2)]) hx hb dX15_macroValue_339 hl (k := 1) rfl (nI_1 _) (by decide) rfl (fun ls hl => ?_)
                    refine lv_goto (tgt := 309) hx hb dX15_macroValue_342 (by decide) ?_
                    refine W.widen (k := 0) (n := 0) (by omega) (by omega) ?_
                    exact ih_118 ((j + 1), (w7 + 1)) F_114 (⟨by rw [dots_y c_215]; omega, by omega, hc3, hc4, hc5⟩) (by show ze9 - (j + 1) < ze9 - j; omega) hO hR _ _ hP hD hS ls (lv_sub hl [0, 1, 2, 3, 4, 5, 6, 7, 8, 9, 10] rfl)
              ·
                refine lv_bipush (v := 24) hx hb dX15_macroValue_192 (by decide) ?_
                refine W.eq (g2 := F0 m 194 ls [.int (sv 0)]) rfl ?_
                refine lv_istore (lv' := [(10, .int (sv 0)), (9, .int s9), (8, .int (nI nn)), (7, .int 0), (6, .int (fv a)), (0, .ref h0), (1, .ref g1), (2, .int (nI a)), (3, .int (nI tt)), (4, .ref dd), (5, .ref g2)]) hx hb dX15_macroValue_194 hl (by decide) rfl (fun ls hl => ?_)
                refine W.widen (k := 0) (n := 0) (by omega) (by omega) ?_
                have hF_217 : F g1 = .inl (cs 17, 700, .inl fv) := (hR g1 (by rw [hT_g1]; simp only [List.mem_cons, List.not_mem_nil, or_false]; omega)).symm.trans hF_100
                have hF_218 : F h0 = .inr (15, (.ref ta) :: (.int (nI zt)) :: (.int (nI zo)) :: (.int (nI ze)) :: (.ref ou) :: (.ref so) :: (.ref ad) :: (.ref na) :: (.ref va) :: (.ref lc) :: (.ref dm) :: (.int v11_43) :: (.int v12_44) :: (.ref tg) :: (.int v14_45) :: (.int v15_46) :: (.ref pe) :: (.int v17_47) :: (.int v18_48) :: (.int v19_49) :: (.int v20_50) :: (.int v21_51) :: (.int v22_52) :: (.ref ml) :: (.ref bg) :: (.ref co) :: (.ref sp) :: (.ref nb0) :: (.ref nb1) :: (.ref nb2) :: (.int (nI nf)) :: (.int (nI bd)) :: (.int (nI mm)) :: (.int v33_53) :: (.ref pl) :: (.ref se) :: (.ref ke) :: (.ref wi) :: (.ref hs) :: (.ref mo) :: (.ref po) :: (.ref nu) :: (.ref pr) :: (.ref sq) :: (.ref xa) :: (.ref sa) :: (.ref n64) :: (.ref m64) :: (.ref ex) :: (.ref wh) :: (.ref sd) :: (.ref tk) :: (.int v52_54) :: (.int v53_55) :: (.int v54_56) :: (.ref hd) :: (.ref ak) :: (.ref ho) :: (.ref ot) :: []) := (hR h0 (by rw [hT_h0]; simp)).symm.trans hF_101
                refine pl_loopm (σ := Nat × Nat) A (dC, dI) cs ty gm L [ρ + 6, ρ + 7] F 196 12 (fun (mq, zz) => [(10, .int (sv mq)), (9, .int s9), (8, .int (nI nn)), (7, .int 0), (6, .int (fv a)), (0, .ref h0), (1, .ref g1), (2, .int (nI a)), (3, .int (nI tt)), (4, .ref dd), (5, .ref g2)]) (fun (mq, zz) => []) (fun (mq, zz) FF => mq ≤ 4 ∧ FF g2 = .inr (14, [.ref r2, .int (nI y)]) ∧ FF pe = .inr (14, [.ref rp, .int (nI zz)]) ∧ (zz ≤ 4 * mq ∨ (zz ≤ 91 ∧ (fv a) ≠ 105))) (fun (mq, zz) => 4 - mq) ?_ (0, zz192) F_96 (⟨by omega, hwda, hwdb, by
                  rcases hwdd with h | h | h | h | h
                  · exact Or.inl (by omega)
                  · exact Or.inr ⟨by omega, by rw [h]; decide⟩
                  · exact Or.inr ⟨by omega, by rw [h]; decide⟩
                  · exact Or.inr ⟨by omega, by rw [h]; decide⟩
                  · exact Or.inr ⟨by omega, by rw [h]; decide⟩⟩) hO hR _ _ hP hD hS ls (lv_sub hl [0, 1, 2, 3, 4, 5, 6, 7, 8, 9, 10] rfl)
                rintro ⟨mq, zz⟩ F_216 hv_219 hO hR ih_220 H locs hP hD hS ls hl
                have hl : lv_has ls 12 [(10, .int (sv mq)), (9, .int s9), (8, .int (nI nn)), (7, .int 0), (6, .int (fv a)), (0, .ref h0), (1, .ref g1), (2, .int (nI a)), (3, .int (nI tt)), (4, .ref dd), (5, .ref g2)] := hl
                have hv_219 : mq ≤ 4 ∧ F_216 g2 = .inr (14, [.ref r2, .int (nI y)]) ∧ F_216 pe = .inr (14, [.ref rp, .int (nI zz)]) ∧ (zz ≤ 4 * mq ∨ (zz ≤ 91 ∧ (fv a) ≠ 105)) := hv_219
                refine W.eq (g2 := F0 m 196 ls []) rfl ?_
                have hF_221 : F_216 g1 = .inl (cs 17, 700, .inl fv) := (hR g1 (by rw [hT_g1]; simp only [List.mem_cons, List.not_mem_nil, or_false]; omega)).trans hF_217
                have hF_222 : F_216 h0 = .inr (15, (.ref ta) :: (.int (nI zt)) :: (.int (nI zo)) :: (.int (nI ze)) :: (.ref ou) :: (.ref so) :: (.ref ad) :: (.ref na) :: (.ref va) :: (.ref lc) :: (.ref dm) :: (.int v11_43) :: (.int v12_44) :: (.ref tg) :: (.int v14_45) :: (.int v15_46) :: (.ref pe) :: (.int v17_47) :: (.int v18_48) :: (.int v19_49) :: (.int v20_50) :: (.int v21_51) :: (.int v22_52) :: (.ref ml) :: (.ref bg) :: (.ref co) :: (.ref sp) :: (.ref nb0) :: (.ref nb1) :: (.ref nb2) :: (.int (nI nf)) :: (.int (nI bd)) :: (.int (nI mm)) :: (.int v33_53) :: (.ref pl) :: (.ref se) :: (.ref ke) :: (.ref wi) :: (.ref hs) :: (.ref mo) :: (.ref po) :: (.ref nu) :: (.ref pr) :: (.ref sq) :: (.ref xa) :: (.ref sa) :: (.ref n64) :: (.ref m64) :: (.ref ex) :: (.ref wh) :: (.ref sd) :: (.ref tk) :: (.int v52_54) :: (.int v53_55) :: (.int v54_56) :: (.ref hd) :: (.ref ak) :: (.ref ho) :: (.ref ot) :: []) := (hR h0 (by rw [hT_h0]; simp)).trans hF_218
                obtain ⟨hx1, hx2, hx3, hx4⟩ := hv_219
                refine lv_iload hx hb dX15_macroValue_196 (lv_at hl 4 rfl) ?_
                refine lv_bipush (v := 105) hx hb dX15_macroValue_198 (by decide) ?_
                refine lv_icmp_ne (tgt := 303) hx hb dX15_macroValue_200 (by decide) (fun c_223 => ?_) (fun c_223 => ?_)
                ·
                  refine W.widen (k := 0) (n := 0) (by omega) (by omega) ?_
                  exact jn_102 zz F_216 (⟨hx2, hx3, by rcases hx4 with h | h <;> omega⟩) hO hR _ _ hP hD hS ls (lv_sub hl [1, 2, 3, 4, 5, 6, 7, 8, 9, 10] rfl)
                ·
                  have hzm : zz ≤ 4 * mq := hx4.resolve_right (fun h => h.2 c_223)
                  refine lv_iload hx hb dX15_macroValue_203 (lv_at hl 0 rfl) ?_
                  refine lv_if_lt (tgt := 303) hx hb dX15_macroValue_205 (by decide) (fun c_224 => ?_) (fun c_224 => ?_)
                  ·
                    refine W.widen (k := 0) (n := 0) (by omega) (by omega) ?_
                    exact jn_102 zz F_216 (⟨hx2, hx3, by rcases hx4 with h | h <;> omega⟩) hO hR _ _ hP hD hS ls (lv_sub hl [1, 2, 3, 4, 5, 6, 7, 8, 9, 10] rfl)
                  ·
                    have hm4 := sv_lt hx1 c_224
                    refine lv_aload_n hx hb dX15_macroValue_208 rfl (lv_at hl 5 rfl) ?_
                    refine pg_get (ci := 15) (v := .int v11_43) (C := RX15) (T := TX15) (N := 59) hx hb hts it_15 hown hK hP hL_h0 hF_222 rfl 11 (by decide) (hts _ kt_719) (fun _ h9 => h9) rfl dX15_macroValue_209 ?_
                    refine lv_iload hx hb dX15_macroValue_212 (lv_at hl 0 rfl) ?_
                    refine lv_ishr hx hb dX15_macroValue_214 ?_
                    refine lv_topi (fun x_225 _ => ?_)
                    refine lv_sipush (v := 255) hx hb dX15_macroValue_215 (by decide) ?_
                    refine lv_iand hx hb dX15_macroValue_218 ?_
                    refine lv_topi (fun x_226 _ => ?_)
                    refine lv_istore (lv' := [(11, .int x_226), (10, .int (sv mq)), (9, .int s9), (8, .int (nI nn)), (7, .int 0), (6, .int (fv a)), (0, .ref h0), (1, .ref g1), (2, .int (nI a)), (3, .int (nI tt)), (4, .ref dd), (5, .ref g2)]) hx hb dX15_macroValue_219 hl (by decide) rfl (fun ls hl => ?_)
                    refine lv_iload hx hb dX15_macroValue_221 (lv_at hl 0 rfl) ?_
                    refine lv_bipush (v := 99) hx hb dX15_macroValue_223 (by decide) ?_
                    refine lv_icmp_le (tgt := 243) hx hb dX15_macroValue_225 (by decide) (fun c_227 => ?_) (fun c_227 => ?_)
                    ·
                      refine lv_iload hx hb dX15_macroValue_243 (lv_at hl 0 rfl) ?_
                      refine lv_bipush (v := 9) hx hb dX15_macroValue_245 (by decide) ?_
                      refine lv_icmp_le (tgt := 268) hx hb dX15_macroValue_247 (by decide) (fun c_228 => ?_) (fun c_228 => ?_)
                      ·
                        refine lv_aload_n hx hb dX15_macroValue_268 rfl (lv_at hl 6 rfl) ?_
                        refine pg_get (ci := 15) (v := .ref pe) (C := RX15) (T := TX15) (N := 59) hx hb hts it_15 hown hK hP hL_h0 hF_222 rfl 16 (by decide) (hts _ kt_758) (fun _ h9 => h9) rfl dX15_macroValue_269 ?_
                        refine lv_bipush (v := 48) hx hb dX15_macroValue_272 (by decide) ?_
                        refine lv_iload hx hb dX15_macroValue_274 (lv_at hl 0 rfl) ?_
                        refine lv_bipush (v := 10) hx hb dX15_macroValue_276 (by decide) ?_
                        refine lv_irem hx hb dX15_macroValue_278 (by decide) ?_
                        refine lv_topi (fun x_229 _ => ?_)
                        refine lv_iadd hx hb dX15_macroValue_279 ?_
                        refine lv_topi (fun x_230 _ => ?_)
                        have hFc := pg_free hD hS hA
                        refine va_callv (va_runV (As := [.int x_230]) (rest := []) ⟨hx, hb, hml, hown, hts⟩ (s_X14_add l dC dI cs ty gm L H.size F_216 pe (ρ + 7) rp 100 zz x_230 hW hL_pe hT_pe hx3 (by first | omega | assumption)) ⟨callB_of 1 hts (gi kt_701) rfl rfl rfl (hts _ kt_666) (hts _ kt_702) (by decide +kernel) ⟨Nat.le_of_ble_eq_true rfl, Nat.le_of_ble_eq_true rfl⟩, (hts _ kt_703), (hts _ kt_704)⟩ ⟨fun a U g mk q => ⟨q.1, PTm.calling q.2⟩, pg_recv hK hP hL_pe hx3 (q := (RX14, TX14, 2)) rfl, fun U hU hWm => ⟨rfl, PTm.mk hU hWm hP hK hD hE hO⟩⟩ rfl rfl hl.1 rfl (lv_room (Nat.le_of_ble_eq_true rfl)) dX15_macroValue_280 ⟨by show _ + 0 ≤ 0; omega, by show _ + 0 ≤ 0; omega⟩) hS (fun q _ h => hFc q h) hFc (fun u t H1 locs ht hvm hw hB hz1 hk1 hS => ?_)
                        obtain ⟨F_232, hB1, hq_233⟩ := hB
                        obtain ⟨hP, hD, hO, hR⟩ := QTm.back hB1 ht hFc hR (fun q h => by simp only [List.mem_cons, List.not_mem_nil, or_false] at h ⊢; omega)
                        have hF_234 : F_232 g1 = .inl (cs 17, 700, .inl fv) := (hB1.2.2.2 g1 (by rw [hT_g1]; simp only [List.mem_cons, List.not_mem_nil, or_false]; omega)).trans hF_221
                        have hF_235 : F_232 h0 = .inr (15, (.ref ta) :: (.int (nI zt)) :: (.int (nI zo)) :: (.int (nI ze)) :: (.ref ou) :: (.ref so) :: (.ref ad) :: (.ref na) :: (.ref va) :: (.ref lc) :: (.ref dm) :: (.int v11_43) :: (.int v12_44) :: (.ref tg) :: (.int v14_45) :: (.int v15_46) :: (.ref pe) :: (.int v17_47) :: (.int v18_48) :: (.int v19_49) :: (.int v20_50) :: (.int v21_51) :: (.int v22_52) :: (.ref ml) :: (.ref bg) :: (.ref co) :: (.ref sp) :: (.ref nb0) :: (.ref nb1) :: (.ref nb2) :: (.int (nI nf)) :: (.int (nI bd)) :: (.int (nI mm)) :: (.int v33_53) :: (.ref pl) :: (.ref se) :: (.ref ke) :: (.ref wi) :: (.ref hs) :: (.ref mo) :: (.ref po) :: (.ref nu) :: (.ref pr) :: (.ref sq) :: (.ref xa) :: (.ref sa) :: (.ref n64) :: (.ref m64) :: (.ref ex) :: (.ref wh) :: (.ref sd) :: (.ref tk) :: (.int v52_54) :: (.int v53_55) :: (.int v54_56) :: (.ref hd) :: (.ref ak) :: (.ref ho) :: (.ref ot) :: []) := (hB1.2.2.2 h0 (by rw [hT_h0]; simp)).trans hF_222
                        have hF_236 : F_232 g2 = .inr (14, [.ref r2, .int (nI y)]) := (hB1.2.2.2 g2 (by rw [hT_g2]; simp)).trans hx2
                        generalize H1 = H at hP hS ⊢
                        refine lv_iload hx hb dX15_macroValue_283 (lv_at hl 1 rfl) ?_
                        refine lv_if_le (tgt := 297) hx hb dX15_macroValue_285 (by decide) (fun c_237 => ?_) (fun c_237 => ?_)
                        ·
                          refine lv_iinc (v := (sv (mq + 1))) (lv' := [(10, .int (sv (mq + 1))), (11, .int x_226), (9, .int s9), (8, .int (nI nn)), (7, .int 0), (6, .int (fv a)), (0, .ref h0), (1, .ref g1), (2, .int (nI a)), (3, .int (nI tt)), (4, .ref dd), (5, .ref g2)]) hx hb dX15_macroValue_297 hl (k := 1) rfl (sv_n mq hm4) (by decide) rfl (fun ls hl => ?_)
                          refine lv_goto (tgt := 196) hx hb dX15_macroValue_300 (by decide) ?_
                          refine W.widen (k := 0) (n := 0) (by omega) (by omega) ?_
                          exact ih_220 ((mq + 1), (zz + 1)) F_232 (⟨by omega, hF_236, hq_233, Or.inl (by omega)⟩) (by show 4 - (mq + 1) < 4 - mq; omega) hO hR _ _ hP hD hS ls (lv_sub hl [0, 2, 3, 4, 5, 6, 7, 8, 9, 10, 11] rfl)
                        ·
                          refine lv_aload_n hx hb dX15_macroValue_288 rfl (lv_at hl 6 rfl) ?_
                          refine pg_get (ci := 15) (v := .ref pe) (C := RX15) (T := TX15) (N := 59) hx hb hts it_15 hown hK hP hL_h0 hF_235 rfl 16 (by decide) (hts _ kt_758) (fun _ h9 => h9) rfl dX15_macroValue_289 ?_
                          refine lv_bipush (v := 46) hx hb dX15_macroValue_292 (by decide) ?_
                          have hFc := pg_free hD hS hA
                          refine va_callv (va_runV (As := [.int 46]) (rest := []) ⟨hx, hb, hml, hown, hts⟩ (s_X14_add l dC dI cs ty gm L H.size F_232 pe (ρ + 7) rp 100 (zz + 1) 46 hW hL_pe hT_pe hq_233 (by first | omega | assumption)) ⟨callB_of 1 hts (gi kt_701) rfl rfl rfl (hts _ kt_666) (hts _ kt_702) (by decide +kernel) ⟨Nat.le_of_ble_eq_true rfl, Nat.le_of_ble_eq_true rfl⟩, (hts _ kt_703), (hts _ kt_704)⟩ ⟨fun a U g mk q => ⟨q.1, PTm.calling q.2⟩, pg_recv hK hP hL_pe hq_233 (q := (RX14, TX14, 2)) rfl, fun U hU hWm => ⟨rfl, PTm.mk hU hWm hP hK hD hE hO⟩⟩ rfl rfl hl.1 rfl (lv_room (Nat.le_of_ble_eq_true rfl)) dX15_macroValue_294 ⟨by show _ + 0 ≤ 0; omega, by show _ + 0 ≤ 0; omega⟩) hS (fun q _ h => hFc q h) hFc (fun u t H1 locs ht hvm hw hB hz1 hk1 hS => ?_)
                          obtain ⟨F_239, hB1, hq_240⟩ := hB
                          obtain ⟨hP, hD, hO, hR⟩ := QTm.back hB1 ht hFc hR (fun q h => by simp only [List.mem_cons, List.not_mem_nil, or_false] at h ⊢; omega)
                          have hF_241 : F_239 g1 = .inl (cs 17, 700, .inl fv) := (hB1.2.2.2 g1 (by rw [hT_g1]; simp only [List.mem_cons, List.not_mem_nil, or_false]; omega)).trans hF_234
                          have hF_242 : F_239 h0 = .inr (15, (.ref ta) :: (.int (nI zt)) :: (.int (nI zo)) :: (.int (nI ze)) :: (.ref ou) :: (.ref so) :: (.ref ad) :: (.ref na) :: (.ref va) :: (.ref lc) :: (.ref dm) :: (.int v11_43) :: (.int v12_44) :: (.ref tg) :: (.int v14_45) :: (.int v15_46) :: (.ref pe) :: (.int v17_47) :: (.int v18_48) :: (.int v19_49) :: (.int v20_50) :: (.int v21_51) :: (.int v22_52) :: (.ref ml) :: (.ref bg) :: (.ref co) :: (.ref sp) :: (.ref nb0) :: (.ref nb1) :: (.ref nb2) :: (.int (nI nf)) :: (.int (nI bd)) :: (.int (nI mm)) :: (.int v33_53) :: (.ref pl) :: (.ref se) :: (.ref ke) :: (.ref wi) :: (.ref hs) :: (.ref mo) :: (.ref po) :: (.ref nu) :: (.ref pr) :: (.ref sq) :: (.ref xa) :: (.ref sa) :: (.ref n64) :: (.ref m64) :: (.ref ex) :: (.ref wh) :: (.ref sd) :: (.ref tk) :: (.int v52_54) :: (.int v53_55) :: (.int v54_56) :: (.ref hd) :: (.ref ak) :: (.ref ho) :: (.ref ot) :: []) := (hB1.2.2.2 h0 (by rw [hT_h0]; simp)).trans hF_235
                          have hF_243 : F_239 g2 = .inr (14, [.ref r2, .int (nI y)]) := (hB1.2.2.2 g2 (by rw [hT_g2]; simp)).trans hF_236
                          generalize H1 = H at hP hS ⊢
                          refine lv_iinc (v := (sv (mq + 1))) (lv' := [(10, .int (sv (mq + 1))), (11, .int x_226), (9, .int s9), (8, .int (nI nn)), (7, .int 0), (6, .int (fv a)), (0, .ref h0), (1, .ref g1), (2, .int (nI a)), (3, .int (nI tt)), (4, .ref dd), (5, .ref g2)]) hx hb dX15_macroValue_297 hl (k := 1) rfl (sv_n mq hm4) (by decide) rfl (fun ls hl => ?_)
                          refine lv_goto (tgt := 196) hx hb dX15_macroValue_300 (by decide) ?_
                          refine W.widen (k := 0) (n := 0) (by omega) (by omega) ?_
                          exact ih_220 ((mq + 1), (zz + 2)) F_239 (⟨by omega, hF_243, hq_240, Or.inl (by omega)⟩) (by show 4 - (mq + 1) < 4 - mq; omega) hO hR _ _ hP hD hS ls (lv_sub hl [0, 2, 3, 4, 5, 6, 7, 8, 9, 10, 11] rfl)
                      ·
                        refine lv_aload_n hx hb dX15_macroValue_250 rfl (lv_at hl 6 rfl) ?_
                        refine pg_get (ci := 15) (v := .ref pe) (C := RX15) (T := TX15) (N := 59) hx hb hts it_15 hown hK hP hL_h0 hF_222 rfl 16 (by decide) (hts _ kt_758) (fun _ h9 => h9) rfl dX15_macroValue_251 ?_
                        refine lv_bipush (v := 48) hx hb dX15_macroValue_254 (by decide) ?_
                        refine lv_iload hx hb dX15_macroValue_256 (lv_at hl 0 rfl) ?_
                        refine lv_bipush (v := 10) hx hb dX15_macroValue_258 (by decide) ?_
                        refine lv_idiv hx hb dX15_macroValue_260 (by decide) ?_
                        refine lv_topi (fun x_244 _ => ?_)
                        refine lv_bipush (v := 10) hx hb dX15_macroValue_261 (by decide) ?_
                        refine lv_irem hx hb dX15_macroValue_263 (by decide) ?_
                        refine lv_topi (fun x_245 _ => ?_)
                        refine lv_iadd hx hb dX15_macroValue_264 ?_
                        refine lv_topi (fun x_246 _ => ?_)
                        have hFc := pg_free hD hS hA
                        refine va_callv (va_runV (As := [.int x_246]) (rest := []) ⟨hx, hb, hml, hown, hts⟩ (s_X14_add l dC dI cs ty gm L H.size F_216 pe (ρ + 7) rp 100 zz x_246 hW hL_pe hT_pe hx3 (by first | omega | assumption)) ⟨callB_of 1 hts (gi kt_701) rfl rfl rfl (hts _ kt_666) (hts _ kt_702) (by decide +kernel) ⟨Nat.le_of_ble_eq_true rfl, Nat.le_of_ble_eq_true rfl⟩, (hts _ kt_703), (hts _ kt_704)⟩ ⟨fun a U g mk q => ⟨q.1, PTm.calling q.2⟩, pg_recv hK hP hL_pe hx3 (q := (RX14, TX14, 2)) rfl, fun U hU hWm => ⟨rfl, PTm.mk hU hWm hP hK hD hE hO⟩⟩ rfl rfl hl.1 rfl (lv_room (Nat.le_of_ble_eq_true rfl)) dX15_macroValue_265 ⟨by show _ + 0 ≤ 0; omega, by show _ + 0 ≤ 0; omega⟩) hS (fun q _ h => hFc q h) hFc (fun u t H1 locs ht hvm hw hB hz1 hk1 hS => ?_)
                        obtain ⟨F_248, hB1, hq_249⟩ := hB
                        obtain ⟨hP, hD, hO, hR⟩ := QTm.back hB1 ht hFc hR (fun q h => by simp only [List.mem_cons, List.not_mem_nil, or_false] at h ⊢; omega)
                        have hF_250 : F_248 g1 = .inl (cs 17, 700, .inl fv) := (hB1.2.2.2 g1 (by rw [hT_g1]; simp only [List.mem_cons, List.not_mem_nil, or_false]; omega)).trans hF_221
                        have hF_251 : F_248 h0 = .inr (15, (.ref ta) :: (.int (nI zt)) :: (.int (nI zo)) :: (.int (nI ze)) :: (.ref ou) :: (.ref so) :: (.ref ad) :: (.ref na) :: (.ref va) :: (.ref lc) :: (.ref dm) :: (.int v11_43) :: (.int v12_44) :: (.ref tg) :: (.int v14_45) :: (.int v15_46) :: (.ref pe) :: (.int v17_47) :: (.int v18_48) :: (.int v19_49) :: (.int v20_50) :: (.int v21_51) :: (.int v22_52) :: (.ref ml) :: (.ref bg) :: (.ref co) :: (.ref sp) :: (.ref nb0) :: (.ref nb1) :: (.ref nb2) :: (.int (nI nf)) :: (.int (nI bd)) :: (.int (nI mm)) :: (.int v33_53) :: (.ref pl) :: (.ref se) :: (.ref ke) :: (.ref wi) :: (.ref hs) :: (.ref mo) :: (.ref po) :: (.ref nu) :: (.ref pr) :: (.ref sq) :: (.ref xa) :: (.ref sa) :: (.ref n64) :: (.ref m64) :: (.ref ex) :: (.ref wh) :: (.ref sd) :: (.ref tk) :: (.int v52_54) :: (.int v53_55) :: (.int v54_56) :: (.ref hd) :: (.ref ak) :: (.ref ho) :: (.ref ot) :: []) := (hB1.2.2.2 h0 (by rw [hT_h0]; simp)).trans hF_222
                        have hF_252 : F_248 g2 = .inr (14, [.ref r2, .int (nI y)]) := (hB1.2.2.2 g2 (by rw [hT_g2]; simp)).trans hx2
                        generalize H1 = H at hP hS ⊢
                        refine lv_aload_n hx hb dX15_macroValue_268 rfl (lv_at hl 6 rfl) ?_
                        refine pg_get (ci := 15) (v := .ref pe) (C := RX15) (T := TX15) (N := 59) hx hb hts it_15 hown hK hP hL_h0 hF_251 rfl 16 (by decide) (hts _ kt_758) (fun _ h9 => h9) rfl dX15_macroValue_269 ?_
                        refine lv_bipush (v := 48) hx hb dX15_macroValue_272 (by decide) ?_
                        refine lv_iload hx hb dX15_macroValue_274 (lv_at hl 0 rfl) ?_
                        refine lv_bipush (v := 10) hx hb dX15_macroValue_276 (by decide) ?_
                        refine lv_irem hx hb dX15_macroValue_278 (by decide) ?_
                        refine lv_topi (fun x_253 _ => ?_)
                        refine lv_iadd hx hb dX15_macroValue_279 ?_
                        refine lv_topi (fun x_254 _ => ?_)
                        have hFc := pg_free hD hS hA
                        refine va_callv (va_runV (As := [.int x_254]) (rest := []) ⟨hx, hb, hml, hown, hts⟩ (s_X14_add l dC dI cs ty gm L H.size F_248 pe (ρ + 7) rp 100 (zz + 1) x_254 hW hL_pe hT_pe hq_249 (by first | omega | assumption)) ⟨callB_of 1 hts (gi kt_701) rfl rfl rfl (hts _ kt_666) (hts _ kt_702) (by decide +kernel) ⟨Nat.le_of_ble_eq_true rfl, Nat.le_of_ble_eq_true rfl⟩, (hts _ kt_703), (hts _ kt_704)⟩ ⟨fun a U g mk q => ⟨q.1, PTm.calling q.2⟩, pg_recv hK hP hL_pe hq_249 (q := (RX14, TX14, 2)) rfl, fun U hU hWm => ⟨rfl, PTm.mk hU hWm hP hK hD hE hO⟩⟩ rfl rfl hl.1 rfl (lv_room (Nat.le_of_ble_eq_true rfl)) dX15_macroValue_280 ⟨by show _ + 0 ≤ 0; omega, by show _ + 0 ≤ 0; omega⟩) hS (fun q _ h => hFc q h) hFc (fun u t H1 locs ht hvm hw hB hz1 hk1 hS => ?_)
                        obtain ⟨F_256, hB1, hq_257⟩ := hB
                        obtain ⟨hP, hD, hO, hR⟩ := QTm.back hB1 ht hFc hR (fun q h => by simp only [List.mem_cons, List.not_mem_nil, or_false] at h ⊢; omega)
                        have hF_258 : F_256 g1 = .inl (cs 17, 700, .inl fv) := (hB1.2.2.2 g1 (by rw [hT_g1]; simp only [List.mem_cons, List.not_mem_nil, or_false]; omega)).trans hF_250
                        have hF_259 : F_256 h0 = .inr (15, (.ref ta) :: (.int (nI zt)) :: (.int (nI zo)) :: (.int (nI ze)) :: (.ref ou) :: (.ref so) :: (.ref ad) :: (.ref na) :: (.ref va) :: (.ref lc) :: (.ref dm) :: (.int v11_43) :: (.int v12_44) :: (.ref tg) :: (.int v14_45) :: (.int v15_46) :: (.ref pe) :: (.int v17_47) :: (.int v18_48) :: (.int v19_49) :: (.int v20_50) :: (.int v21_51) :: (.int v22_52) :: (.ref ml) :: (.ref bg) :: (.ref co) :: (.ref sp) :: (.ref nb0) :: (.ref nb1) :: (.ref nb2) :: (.int (nI nf)) :: (.int (nI bd)) :: (.int (nI mm)) :: (.int v33_53) :: (.ref pl) :: (.ref se) :: (.ref ke) :: (.ref wi) :: (.ref hs) :: (.ref mo) :: (.ref po) :: (.ref nu) :: (.ref pr) :: (.ref sq) :: (.ref xa) :: (.ref sa) :: (.ref n64) :: (.ref m64) :: (.ref ex) :: (.ref wh) :: (.ref sd) :: (.ref tk) :: (.int v52_54) :: (.int v53_55) :: (.int v54_56) :: (.ref hd) :: (.ref ak) :: (.ref ho) :: (.ref ot) :: []) := (hB1.2.2.2 h0 (by rw [hT_h0]; simp)).trans hF_251
                        have hF_260 : F_256 g2 = .inr (14, [.ref r2, .int (nI y)]) := (hB1.2.2.2 g2 (by rw [hT_g2]; simp)).trans hF_252
                        generalize H1 = H at hP hS ⊢
                        refine lv_iload hx hb dX15_macroValue_283 (lv_at hl 1 rfl) ?_
                        refine lv_if_le (tgt := 297) hx hb dX15_macroValue_285 (by decide) (fun c_261 => ?_) (fun c_261 => ?_)
                        ·
                          refine lv_iinc (v := (sv (mq + 1))) (lv' := [(10, .int (sv (mq + 1))), (11, .int x_226), (9, .int s9), (8, .int (nI nn)), (7, .int 0), (6, .int (fv a)), (0, .ref h0), (1, .ref g1), (2, .int (nI a)), (3, .int (nI tt)), (4, .ref dd), (5, .ref g2)]) hx hb dX15_macroValue_297 hl (k := 1) rfl (sv_n mq hm4) (by decide) rfl (fun ls hl => ?_)
                          refine lv_goto (tgt := 196) hx hb dX15_macroValue_300 (by decide) ?_
                          refine W.widen (k := 0) (n := 0) (by omega) (by omega) ?_
                          exact ih_220 ((mq + 1), (zz + 2)) F_256 (⟨by omega, hF_260, hq_257, Or.inl (by omega)⟩) (by show 4 - (mq + 1) < 4 - mq; omega) hO hR _ _ hP hD hS ls (lv_sub hl [0, 2, 3, 4, 5, 6, 7, 8, 9, 10, 11] rfl)
                        ·
                          refine lv_aload_n hx hb dX15_macroValue_288 rfl (lv_at hl 6 rfl) ?_
                          refine pg_get (ci := 15) (v := .ref pe) (C := RX15) (T := TX15) (N := 59) hx hb hts it_15 hown hK hP hL_h0 hF_259 rfl 16 (by decide) (hts _ kt_758) (fun _ h9 => h9) rfl dX15_macroValue_289 ?_
                          refine lv_bipush (v := 46) hx hb dX15_macroValue_292 (by decide) ?_
                          have hFc := pg_free hD hS hA
                          refine va_callv (va_runV (As := [.int 46]) (rest := []) ⟨hx, hb, hml, hown, hts⟩ (s_X14_add l dC dI cs ty gm L H.size F_256 pe (ρ + 7) rp 100 (zz + 2) 46 hW hL_pe hT_pe hq_257 (by first | omega | assumption)) ⟨callB_of 1 hts (gi kt_701) rfl rfl rfl (hts _ kt_666) (hts _ kt_702) (by decide +kernel) ⟨Nat.le_of_ble_eq_true rfl, Nat.le_of_ble_eq_true rfl⟩, (hts _ kt_703), (hts _ kt_704)⟩ ⟨fun a U g mk q => ⟨q.1, PTm.calling q.2⟩, pg_recv hK hP hL_pe hq_257 (q := (RX14, TX14, 2)) rfl, fun U hU hWm => ⟨rfl, PTm.mk hU hWm hP hK hD hE hO⟩⟩ rfl rfl hl.1 rfl (lv_room (Nat.le_of_ble_eq_true rfl)) dX15_macroValue_294 ⟨by show _ + 0 ≤ 0; omega, by show _ + 0 ≤ 0; omega⟩) hS (fun q _ h => hFc q h) hFc (fun u t H1 locs ht hvm hw hB hz1 hk1 hS => ?_)
                          obtain ⟨F_263, hB1, hq_264⟩ := hB
                          obtain ⟨hP, hD, hO, hR⟩ := QTm.back hB1 ht hFc hR (fun q h => by simp only [List.mem_cons, List.not_mem_nil, or_false] at h ⊢; omega)
                          have hF_265 : F_263 g1 = .inl (cs 17, 700, .inl fv) := (hB1.2.2.2 g1 (by rw [hT_g1]; simp only [List.mem_cons, List.not_mem_nil, or_false]; omega)).trans hF_258
                          have hF_266 : F_263 h0 = .inr (15, (.ref ta) :: (.int (nI zt)) :: (.int (nI zo)) :: (.int (nI ze)) :: (.ref ou) :: (.ref so) :: (.ref ad) :: (.ref na) :: (.ref va) :: (.ref lc) :: (.ref dm) :: (.int v11_43) :: (.int v12_44) :: (.ref tg) :: (.int v14_45) :: (.int v15_46) :: (.ref pe) :: (.int v17_47) :: (.int v18_48) :: (.int v19_49) :: (.int v20_50) :: (.int v21_51) :: (.int v22_52) :: (.ref ml) :: (.ref bg) :: (.ref co) :: (.ref sp) :: (.ref nb0) :: (.ref nb1) :: (.ref nb2) :: (.int (nI nf)) :: (.int (nI bd)) :: (.int (nI mm)) :: (.int v33_53) :: (.ref pl) :: (.ref se) :: (.ref ke) :: (.ref wi) :: (.ref hs) :: (.ref mo) :: (.ref po) :: (.ref nu) :: (.ref pr) :: (.ref sq) :: (.ref xa) :: (.ref sa) :: (.ref n64) :: (.ref m64) :: (.ref ex) :: (.ref wh) :: (.ref sd) :: (.ref tk) :: (.int v52_54) :: (.int v53_55) :: (.int v54_56) :: (.ref hd) :: (.ref ak) :: (.ref ho) :: (.ref ot) :: []) := (hB1.2.2.2 h0 (by rw [hT_h0]; simp)).trans hF_259
                          have hF_267 : F_263 g2 = .inr (14, [.ref r2, .int (nI y)]) := (hB1.2.2.2 g2 (by rw [hT_g2]; simp)).trans hF_260
                          generalize H1 = H at hP hS ⊢
                          refine lv_iinc (v := (sv (mq + 1))) (lv' := [(10, .int (sv (mq + 1))), (11, .int x_226), (9, .int s9), (8, .int (nI nn)), (7, .int 0), (6, .int (fv a)), (0, .ref h0), (1, .ref g1), (2, .int (nI a)), (3, .int (nI tt)), (4, .ref dd), (5, .ref g2)]) hx hb dX15_macroValue_297 hl (k := 1) rfl (sv_n mq hm4) (by decide) rfl (fun ls hl => ?_)
                          refine lv_goto (tgt := 196) hx hb dX15_macroValue_300 (by decide) ?_
                          refine W.widen (k := 0) (n := 0) (by omega) (by omega) ?_
                          exact ih_220 ((mq + 1), (zz + 3)) F_263 (⟨by omega, hF_267, hq_264, Or.inl (by omega)⟩) (by show 4 - (mq + 1) < 4 - mq; omega) hO hR _ _ hP hD hS ls (lv_sub hl [0, 2, 3, 4, 5, 6, 7, 8, 9, 10, 11] rfl)
                    ·
                      refine lv_aload_n hx hb dX15_macroValue_228 rfl (lv_at hl 6 rfl) ?_
                      refine pg_get (ci := 15) (v := .ref pe) (C := RX15) (T := TX15) (N := 59) hx hb hts it_15 hown hK hP hL_h0 hF_222 rfl 16 (by decide) (hts _ kt_758) (fun _ h9 => h9) rfl dX15_macroValue_229 ?_
                      refine lv_bipush (v := 48) hx hb dX15_macroValue_232 (by decide) ?_
                      refine lv_iload hx hb dX15_macroValue_234 (lv_at hl 0 rfl) ?_
                      refine lv_bipush (v := 100) hx hb dX15_macroValue_236 (by decide) ?_
                      refine lv_idiv hx hb dX15_macroValue_238 (by decide) ?_
                      refine lv_topi (fun x_268 _ => ?_)
                      refine lv_iadd hx hb dX15_macroValue_239 ?_
                      refine lv_topi (fun x_269 _ => ?_)
                      have hFc := pg_free hD hS hA
                      refine va_callv (va_runV (As := [.int x_269]) (rest := []) ⟨hx, hb, hml, hown, hts⟩ (s_X14_add l dC dI cs ty gm L H.size F_216 pe (ρ + 7) rp 100 zz x_269 hW hL_pe hT_pe hx3 (by first | omega | assumption)) ⟨callB_of 1 hts (gi kt_701) rfl rfl rfl (hts _ kt_666) (hts _ kt_702) (by decide +kernel) ⟨Nat.le_of_ble_eq_true rfl, Nat.le_of_ble_eq_true rfl⟩, (hts _ kt_703), (hts _ kt_704)⟩ ⟨fun a U g mk q => ⟨q.1, PTm.calling q.2⟩, pg_recv hK hP hL_pe hx3 (q := (RX14, TX14, 2)) rfl, fun U hU hWm => ⟨rfl, PTm.mk hU hWm hP hK hD hE hO⟩⟩ rfl rfl hl.1 rfl (lv_room (Nat.le_of_ble_eq_true rfl)) dX15_macroValue_240 ⟨by show _ + 0 ≤ 0; omega, by show _ + 0 ≤ 0; omega⟩) hS (fun q _ h => hFc q h) hFc (fun u t H1 locs ht hvm hw hB hz1 hk1 hS => ?_)
                      obtain ⟨F_271, hB1, hq_272⟩ := hB
                      obtain ⟨hP, hD, hO, hR⟩ := QTm.back hB1 ht hFc hR (fun q h => by simp only [List.mem_cons, List.not_mem_nil, or_false] at h ⊢; omega)
                      have hF_273 : F_271 g1 = .inl (cs 17, 700, .inl fv) := (hB1.2.2.2 g1 (by rw [hT_g1]; simp only [List.mem_cons, List.not_mem_nil, or_false]; omega)).trans hF_221
                      have hF_274 : F_271 h0 = .inr (15, (.ref ta) :: (.int (nI zt)) :: (.int (nI zo)) :: (.int (nI ze)) :: (.ref ou) :: (.ref so) :: (.ref ad) :: (.ref na) :: (.ref va) :: (.ref lc) :: (.ref dm) :: (.int v11_43) :: (.int v12_44) :: (.ref tg) :: (.int v14_45) :: (.int v15_46) :: (.ref pe) :: (.int v17_47) :: (.int v18_48) :: (.int v19_49) :: (.int v20_50) :: (.int v21_51) :: (.int v22_52) :: (.ref ml) :: (.ref bg) :: (.ref co) :: (.ref sp) :: (.ref nb0) :: (.ref nb1) :: (.ref nb2) :: (.int (nI nf)) :: (.int (nI bd)) :: (.int (nI mm)) :: (.int v33_53) :: (.ref pl) :: (.ref se) :: (.ref ke) :: (.ref wi) :: (.ref hs) :: (.ref mo) :: (.ref po) :: (.ref nu) :: (.ref pr) :: (.ref sq) :: (.ref xa) :: (.ref sa) :: (.ref n64) :: (.ref m64) :: (.ref ex) :: (.ref wh) :: (.ref sd) :: (.ref tk) :: (.int v52_54) :: (.int v53_55) :: (.int v54_56) :: (.ref hd) :: (.ref ak) :: (.ref ho) :: (.ref ot) :: []) := (hB1.2.2.2 h0 (by rw [hT_h0]; simp)).trans hF_222
                      have hF_275 : F_271 g2 = .inr (14, [.ref r2, .int (nI y)]) := (hB1.2.2.2 g2 (by rw [hT_g2]; simp)).trans hx2
                      generalize H1 = H at hP hS ⊢
                      refine lv_iload hx hb dX15_macroValue_243 (lv_at hl 0 rfl) ?_
                      refine lv_bipush (v := 9) hx hb dX15_macroValue_245 (by decide) ?_
                      refine lv_icmp_le (tgt := 268) hx hb dX15_macroValue_247 (by decide) (fun c_276 => ?_) (fun c_276 => ?_)
                      ·
                        refine lv_aload_n hx hb dX15_macroValue_268 rfl (lv_at hl 6 rfl) ?_
                        refine pg_get (ci := 15) (v := .ref pe) (C := RX15) (T := TX15) (N := 59) hx hb hts it_15 hown hK hP hL_h0 hF_274 rfl 16 (by decide) (hts _ kt_758) (fun _ h9 => h9) rfl dX15_macroValue_269 ?_
                        refine lv_bipush (v := 48) hx hb dX15_macroValue_272 (by decide) ?_
                        refine lv_iload hx hb dX15_macroValue_274 (lv_at hl 0 rfl) ?_
                        refine lv_bipush (v := 10) hx hb dX15_macroValue_276 (by decide) ?_
                        refine lv_irem hx hb dX15_macroValue_278 (by decide) ?_
                        refine lv_topi (fun x_277 _ => ?_)
                        refine lv_iadd hx hb dX15_macroValue_279 ?_
                        refine lv_topi (fun x_278 _ => ?_)
                        have hFc := pg_free hD hS hA
                        refine va_callv (va_runV (As := [.int x_278]) (rest := []) ⟨hx, hb, hml, hown, hts⟩ (s_X14_add l dC dI cs ty gm L H.size F_271 pe (ρ + 7) rp 100 (zz + 1) x_278 hW hL_pe hT_pe hq_272 (by first | omega | assumption)) ⟨callB_of 1 hts (gi kt_701) rfl rfl rfl (hts _ kt_666) (hts _ kt_702) (by decide +kernel) ⟨Nat.le_of_ble_eq_true rfl, Nat.le_of_ble_eq_true rfl⟩, (hts _ kt_703), (hts _ kt_704)⟩ ⟨fun a U g mk q => ⟨q.1, PTm.calling q.2⟩, pg_recv hK hP hL_pe hq_272 (q := (RX14, TX14, 2)) rfl, fun U hU hWm => ⟨rfl, PTm.mk hU hWm hP hK hD hE hO⟩⟩ rfl rfl hl.1 rfl (lv_room (Nat.le_of_ble_eq_true rfl)) dX15_macroValue_280 ⟨by show _ + 0 ≤ 0; omega, by show _ + 0 ≤ 0; omega⟩) hS (fun q _ h => hFc q h) hFc (fun u t H1 locs ht hvm hw hB hz1 hk1 hS => ?_)
                        obtain ⟨F_280, hB1, hq_281⟩ := hB
                        obtain ⟨hP, hD, hO, hR⟩ := QTm.back hB1 ht hFc hR (fun q h => by simp only [List.mem_cons, List.not_mem_nil, or_false] at h ⊢; omega)
                        have hF_282 : F_280 g1 = .inl (cs 17, 700, .inl fv) := (hB1.2.2.2 g1 (by rw [hT_g1]; simp only [List.mem_cons, List.not_mem_nil, or_false]; omega)).trans hF_273
                        have hF_283 : F_280 h0 = .inr (15, (.ref ta) :: (.int (nI zt)) :: (.int (nI zo)) :: (.int (nI ze)) :: (.ref ou) :: (.ref so) :: (.ref ad) :: (.ref na) :: (.ref va) :: (.ref lc) :: (.ref dm) :: (.int v11_43) :: (.int v12_44) :: (.ref tg) :: (.int v14_45) :: (.int v15_46) :: (.ref pe) :: (.int v17_47) :: (.int v18_48) :: (.int v19_49) :: (.int v20_50) :: (.int v21_51) :: (.int v22_52) :: (.ref ml) :: (.ref bg) :: (.ref co) :: (.ref sp) :: (.ref nb0) :: (.ref nb1) :: (.ref nb2) :: (.int (nI nf)) :: (.int (nI bd)) :: (.int (nI mm)) :: (.int v33_53) :: (.ref pl) :: (.ref se) :: (.ref ke) :: (.ref wi) :: (.ref hs) :: (.ref mo) :: (.ref po) :: (.ref nu) :: (.ref pr) :: (.ref sq) :: (.ref xa) :: (.ref sa) :: (.ref n64) :: (.ref m64) :: (.ref ex) :: (.ref wh) :: (.ref sd) :: (.ref tk) :: (.int v52_54) :: (.int v53_55) :: (.int v54_56) :: (.ref hd) :: (.ref ak) :: (.ref ho) :: (.ref ot) :: []) := (hB1.2.2.2 h0 (by rw [hT_h0]; simp)).trans hF_274
                        have hF_284 : F_280 g2 = .inr (14, [.ref r2, .int (nI y)]) := (hB1.2.2.2 g2 (by rw [hT_g2]; simp)).trans hF_275
                        generalize H1 = H at hP hS ⊢
                        refine lv_iload hx hb dX15_macroValue_283 (lv_at hl 1 rfl) ?_
                        refine lv_if_le (tgt := 297) hx hb dX15_macroValue_285 (by decide) (fun c_285 => ?_) (fun c_285 => ?_)
                        ·
                          refine lv_iinc (v := (sv (mq + 1))) (lv' := [(10, .int (sv (mq + 1))), (11, .int x_226), (9, .int s9), (8, .int (nI nn)), (7, .int 0), (6, .int (fv a)), (0, .ref h0), (1, .ref g1), (2, .int (nI a)), (3, .int (nI tt)), (4, .ref dd), (5, .ref g2)]) hx hb dX15_macroValue_297 hl (k := 1) rfl (sv_n mq hm4) (by decide) rfl (fun ls hl => ?_)
                          refine lv_goto (tgt := 196) hx hb dX15_macroValue_300 (by decide) ?_
                          refine W.widen (k := 0) (n := 0) (by omega) (by omega) ?_
                          exact ih_220 ((mq + 1), (zz + 2)) F_280 (⟨by omega, hF_284, hq_281, Or.inl (by omega)⟩) (by show 4 - (mq + 1) < 4 - mq; omega) hO hR _ _ hP hD hS ls (lv_sub hl [0, 2, 3, 4, 5, 6, 7, 8, 9, 10, 11] rfl)
                        ·
                          refine lv_aload_n hx hb dX15_macroValue_288 rfl (lv_at hl 6 rfl) ?_
                          refine pg_get (ci := 15) (v := .ref pe) (C := RX15) (T := TX15) (N := 59) hx hb hts it_15 hown hK hP hL_h0 hF_283 rfl 16 (by decide) (hts _ kt_758) (fun _ h9 => h9) rfl dX15_macroValue_289 ?_
                          refine lv_bipush (v := 46) hx hb dX15_macroValue_292 (by decide) ?_
                          have hFc := pg_free hD hS hA
                          refine va_callv (va_runV (As := [.int 46]) (rest := []) ⟨hx, hb, hml, hown, hts⟩ (s_X14_add l dC dI cs ty gm L H.size F_280 pe (ρ + 7) rp 100 (zz + 2) 46 hW hL_pe hT_pe hq_281 (by first | omega | assumption)) ⟨callB_of 1 hts (gi kt_701) rfl rfl rfl (hts _ kt_666) (hts _ kt_702) (by decide +kernel) ⟨Nat.le_of_ble_eq_true rfl, Nat.le_of_ble_eq_true rfl⟩, (hts _ kt_703), (hts _ kt_704)⟩ ⟨fun a U g mk q => ⟨q.1, PTm.calling q.2⟩, pg_recv hK hP hL_pe hq_281 (q := (RX14, TX14, 2)) rfl, fun U hU hWm => ⟨rfl, PTm.mk hU hWm hP hK hD hE hO⟩⟩ rfl rfl hl.1 rfl (lv_room (Nat.le_of_ble_eq_true rfl)) dX15_macroValue_294 ⟨by show _ + 0 ≤ 0; omega, by show _ + 0 ≤ 0; omega⟩) hS (fun q _ h => hFc q h) hFc (fun u t H1 locs ht hvm hw hB hz1 hk1 hS => ?_)
                          obtain ⟨F_287, hB1, hq_288⟩ := hB
                          obtain ⟨hP, hD, hO, hR⟩ := QTm.back hB1 ht hFc hR (fun q h => by simp only [List.mem_cons, List.not_mem_nil, or_false] at h ⊢; omega)
                          have hF_289 : F_287 g1 = .inl (cs 17, 700, .inl fv) := (hB1.2.2.2 g1 (by rw [hT_g1]; simp only [List.mem_cons, List.not_mem_nil, or_false]; omega)).trans hF_282
                          have hF_290 : F_287 h0 = .inr (15, (.ref ta) :: (.int (nI zt)) :: (.int (nI zo)) :: (.int (nI ze)) :: (.ref ou) :: (.ref so) :: (.ref ad) :: (.ref na) :: (.ref va) :: (.ref lc) :: (.ref dm) :: (.int v11_43) :: (.int v12_44) :: (.ref tg) :: (.int v14_45) :: (.int v15_46) :: (.ref pe) :: (.int v17_47) :: (.int v18_48) :: (.int v19_49) :: (.int v20_50) :: (.int v21_51) :: (.int v22_52) :: (.ref ml) :: (.ref bg) :: (.ref co) :: (.ref sp) :: (.ref nb0) :: (.ref nb1) :: (.ref nb2) :: (.int (nI nf)) :: (.int (nI bd)) :: (.int (nI mm)) :: (.int v33_53) :: (.ref pl) :: (.ref se) :: (.ref ke) :: (.ref wi) :: (.ref hs) :: (.ref mo) :: (.ref po) :: (.ref nu) :: (.ref pr) :: (.ref sq) :: (.ref xa) :: (.ref sa) :: (.ref n64) :: (.ref m64) :: (.ref ex) :: (.ref wh) :: (.ref sd) :: (.ref tk) :: (.int v52_54) :: (.int v53_55) :: (.int v54_56) :: (.ref hd) :: (.ref ak) :: (.ref ho) :: (.ref ot) :: []) := (hB1.2.2.2 h0 (by rw [hT_h0]; simp)).trans hF_283
                          have hF_291 : F_287 g2 = .inr (14, [.ref r2, .int (nI y)]) := (hB1.2.2.2 g2 (by rw [hT_g2]; simp)).trans hF_284
                          generalize H1 = H at hP hS ⊢
                          refine lv_iinc (v := (sv (mq + 1))) (lv' := [(10, .int (sv (mq + 1))), (11, .int x_226), (9, .int s9), (8, .int (nI nn)), (7, .int 0), (6, .int (fv a)), (0, .ref h0), (1, .ref g1), (2, .int (nI a)), (3, .int (nI tt)), (4, .ref dd), (5, .ref g2)]) hx hb dX15_macroValue_297 hl (k := 1) rfl (sv_n mq hm4) (by decide) rfl (fun ls hl => ?_)
                          refine lv_goto (tgt := 196) hx hb dX15_macroValue_300 (by decide) ?_
                          refine W.widen (k := 0) (n := 0) (by omega) (by omega) ?_
                          exact ih_220 ((mq + 1), (zz + 3)) F_287 (⟨by omega, hF_291, hq_288, Or.inl (by omega)⟩) (by show 4 - (mq + 1) < 4 - mq; omega) hO hR _ _ hP hD hS ls (lv_sub hl [0, 2, 3, 4, 5, 6, 7, 8, 9, 10, 11] rfl)
                      ·
                        refine lv_aload_n hx hb dX15_macroValue_250 rfl (lv_at hl 6 rfl) ?_
                        refine pg_get (ci := 15) (v := .ref pe) (C := RX15) (T := TX15) (N := 59) hx hb hts it_15 hown hK hP hL_h0 hF_274 rfl 16 (by decide) (hts _ kt_758) (fun _ h9 => h9) rfl dX15_macroValue_251 ?_
                        refine lv_bipush (v := 48) hx hb dX15_macroValue_254 (by decide) ?_
                        refine lv_iload hx hb dX15_macroValue_256 (lv_at hl 0 rfl) ?_
                        refine lv_bipush (v := 10) hx hb dX15_macroValue_258 (by decide) ?_
                        refine lv_idiv hx hb dX15_macroValue_260 (by decide) ?_
                        refine lv_topi (fun x_292 _ => ?_)
                        refine lv_bipush (v := 10) hx hb dX15_macroValue_261 (by decide) ?_
                        refine lv_irem hx hb dX15_macroValue_263 (by decide) ?_
                        refine lv_topi (fun x_293 _ => ?_)
                        refine lv_iadd hx hb dX15_macroValue_264 ?_
                        refine lv_topi (fun x_294 _ => ?_)
                        have hFc := pg_free hD hS hA
                        refine va_callv (va_runV (As := [.int x_294]) (rest := []) ⟨hx, hb, hml, hown, hts⟩ (s_X14_add l dC dI cs ty gm L H.size F_271 pe (ρ + 7) rp 100 (zz + 1) x_294 hW hL_pe hT_pe hq_272 (by first | omega | assumption)) ⟨callB_of 1 hts (gi kt_701) rfl rfl rfl (hts _ kt_666) (hts _ kt_702) (by decide +kernel) ⟨Nat.le_of_ble_eq_true rfl, Nat.le_of_ble_eq_true rfl⟩, (hts _ kt_703), (hts _ kt_704)⟩ ⟨fun a U g mk q => ⟨q.1, PTm.calling q.2⟩, pg_recv hK hP hL_pe hq_272 (q := (RX14, TX14, 2)) rfl, fun U hU hWm => ⟨rfl, PTm.mk hU hWm hP hK hD hE hO⟩⟩ rfl rfl hl.1 rfl (lv_room (Nat.le_of_ble_eq_true rfl)) dX15_macroValue_265 ⟨by show _ + 0 ≤ 0; omega, by show _ + 0 ≤ 0; omega⟩) hS (fun q _ h => hFc q h) hFc (fun u t H1 locs ht hvm hw hB hz1 hk1 hS => ?_)
                        obtain ⟨F_296, hB1, hq_297⟩ := hB
                        obtain ⟨hP, hD, hO, hR⟩ := QTm.back hB1 ht hFc hR (fun q h => by simp only [List.mem_cons, List.not_mem_nil, or_false] at h ⊢; omega)
                        have hF_298 : F_296 g1 = .inl (cs 17, 700, .inl fv) := (hB1.2.2.2 g1 (by rw [hT_g1]; simp only [List.mem_cons, List.not_mem_nil, or_false]; omega)).trans hF_273
                        have hF_299 : F_296 h0 = .inr (15, (.ref ta) :: (.int (nI zt)) :: (.int (nI zo)) :: (.int (nI ze)) :: (.ref ou) :: (.ref so) :: (.ref ad) :: (.ref na) :: (.ref va) :: (.ref lc) :: (.ref dm) :: (.int v11_43) :: (.int v12_44) :: (.ref tg) :: (.int v14_45) :: (.int v15_46) :: (.ref pe) :: (.int v17_47) :: (.int v18_48) :: (.int v19_49) :: (.int v20_50) :: (.int v21_51) :: (.int v22_52) :: (.ref ml) :: (.ref bg) :: (.ref co) :: (.ref sp) :: (.ref nb0) :: (.ref nb1) :: (.ref nb2) :: (.int (nI nf)) :: (.int (nI bd)) :: (.int (nI mm)) :: (.int v33_53) :: (.ref pl) :: (.ref se) :: (.ref ke) :: (.ref wi) :: (.ref hs) :: (.ref mo) :: (.ref po) :: (.ref nu) :: (.ref pr) :: (.ref sq) :: (.ref xa) :: (.ref sa) :: (.ref n64) :: (.ref m64) :: (.ref ex) :: (.ref wh) :: (.ref sd) :: (.ref tk) :: (.int v52_54) :: (.int v53_55) :: (.int v54_56) :: (.ref hd) :: (.ref ak) :: (.ref ho) :: (.ref ot) :: []) := (hB1.2.2.2 h0 (by rw [hT_h0]; simp)).trans hF_274
                        have hF_300 : F_296 g2 = .inr (14, [.ref r2, .int (nI y)]) := (hB1.2.2.2 g2 (by rw [hT_g2]; simp)).trans hF_275
                        generalize H1 = H at hP hS ⊢
                        refine lv_aload_n hx hb dX15_macroValue_268 rfl (lv_at hl 6 rfl) ?_
                        refine pg_get (ci := 15) (v := .ref pe) (C := RX15) (T := TX15) (N := 59) hx hb hts it_15 hown hK hP hL_h0 hF_299 rfl 16 (by decide) (hts _ kt_758) (fun _ h9 => h9) rfl dX15_macroValue_269 ?_
                        refine lv_bipush (v := 48) hx hb dX15_macroValue_272 (by decide) ?_
                        refine lv_iload hx hb dX15_macroValue_274 (lv_at hl 0 rfl) ?_
                        refine lv_bipush (v := 10) hx hb dX15_macroValue_276 (by decide) ?_
                        refine lv_irem hx hb dX15_macroValue_278 (by decide) ?_
                        refine lv_topi (fun x_301 _ => ?_)
                        refine lv_iadd hx hb dX15_macroValue_279 ?_
                        refine lv_topi (fun x_302 _ => ?_)
                        have hFc := pg_free hD hS hA
                        refine va_callv (va_runV (As := [.int x_302]) (rest := []) ⟨hx, hb, hml, hown, hts⟩ (s_X14_add l dC dI cs ty gm L H.size F_296 pe (ρ + 7) rp 100 (zz + 2) x_302 hW hL_pe hT_pe hq_297 (by first | omega | assumption)) ⟨callB_of 1 hts (gi kt_701) rfl rfl rfl (hts _ kt_666) (hts _ kt_702) (by decide +kernel) ⟨Nat.le_of_ble_eq_true rfl, Nat.le_of_ble_eq_true rfl⟩, (hts _ kt_703), (hts _ kt_704)⟩ ⟨fun a U g mk q => ⟨q.1, PTm.calling q.2⟩, pg_recv hK hP hL_pe hq_297 (q := (RX14, TX14, 2)) rfl, fun U hU hWm => ⟨rfl, PTm.mk hU hWm hP hK hD hE hO⟩⟩ rfl rfl hl.1 rfl (lv_room (Nat.le_of_ble_eq_true rfl)) dX15_macroValue_280 ⟨by show _ + 0 ≤ 0; omega, by show _ + 0 ≤ 0; omega⟩) hS (fun q _ h => hFc q h) hFc (fun u t H1 locs ht hvm hw hB hz1 hk1 hS => ?_)
                        obtain ⟨F_304, hB1, hq_305⟩ := hB
                        obtain ⟨hP, hD, hO, hR⟩ := QTm.back hB1 ht hFc hR (fun q h => by simp only [List.mem_cons, List.not_mem_nil, or_false] at h ⊢; omega)
                        have hF_306 : F_304 g1 = .inl (cs 17, 700, .inl fv) := (hB1.2.2.2 g1 (by rw [hT_g1]; simp only [List.mem_cons, List.not_mem_nil, or_false]; omega)).trans hF_298
                        have hF_307 : F_304 h0 = .inr (15, (.ref ta) :: (.int (nI zt)) :: (.int (nI zo)) :: (.int (nI ze)) :: (.ref ou) :: (.ref so) :: (.ref ad) :: (.ref na) :: (.ref va) :: (.ref lc) :: (.ref dm) :: (.int v11_43) :: (.int v12_44) :: (.ref tg) :: (.int v14_45) :: (.int v15_46) :: (.ref pe) :: (.int v17_47) :: (.int v18_48) :: (.int v19_49) :: (.int v20_50) :: (.int v21_51) :: (.int v22_52) :: (.ref ml) :: (.ref bg) :: (.ref co) :: (.ref sp) :: (.ref nb0) :: (.ref nb1) :: (.ref nb2) :: (.int (nI nf)) :: (.int (nI bd)) :: (.int (nI mm)) :: (.int v33_53) :: (.ref pl) :: (.ref se) :: (.ref ke) :: (.ref wi) :: (.ref hs) :: (.ref mo) :: (.ref po) :: (.ref nu) :: (.ref pr) :: (.ref sq) :: (.ref xa) :: (.ref sa) :: (.ref n64) :: (.ref m64) :: (.ref ex) :: (.ref wh) :: (.ref sd) :: (.ref tk) :: (.int v52_54) :: (.int v53_55) :: (.int v54_56) :: (.ref hd) :: (.ref ak) :: (.ref ho) :: (.ref ot) :: []) := (hB1.2.2.2 h0 (by rw [hT_h0]; simp)).trans hF_299
                        have hF_308 : F_304 g2 = .inr (14, [.ref r2, .int (nI y)]) := (hB1.2.2.2 g2 (by rw [hT_g2]; simp)).trans hF_300
                        generalize H1 = H at hP hS ⊢
                        refine lv_iload hx hb dX15_macroValue_283 (lv_at hl 1 rfl) ?_
                        refine lv_if_le (tgt := 297) hx hb dX15_macroValue_285 (by decide) (fun c_309 => ?_) (fun c_309 => ?_)
                        ·
                          refine lv_iinc (v := (sv (mq + 1))) (lv' := [(10, .int (sv (mq + 1))), (11, .int x_226), (9, .int s9), (8, .int (nI nn)), (7, .int 0), (6, .int (fv a)), (0, .ref h0), (1, .ref g1), (2, .int (nI a)), (3, .int (nI tt)), (4, .ref dd), (5, .ref g2)]) hx hb dX15_macroValue_297 hl (k := 1) rfl (sv_n mq hm4) (by decide) rfl (fun ls hl => ?_)
                          refine lv_goto (tgt := 196) hx hb dX15_macroValue_300 (by decide) ?_
                          refine W.widen (k := 0) (n := 0) (by omega) (by omega) ?_
                          exact ih_220 ((mq + 1), (zz + 3)) F_304 (⟨by omega, hF_308, hq_305, Or.inl (by omega)⟩) (by show 4 - (mq + 1) < 4 - mq; omega) hO hR _ _ hP hD hS ls (lv_sub hl [0, 2, 3, 4, 5, 6, 7, 8, 9, 10, 11] rfl)
                        ·
                          refine lv_aload_n hx hb dX15_macroValue_288 rfl (lv_at hl 6 rfl) ?_
                          refine pg_get (ci := 15) (v := .ref pe) (C := RX15) (T := TX15) (N := 59) hx hb hts it_15 hown hK hP hL_h0 hF_307 rfl 16 (by decide) (hts _ kt_758) (fun _ h9 => h9) rfl dX15_macroValue_289 ?_
                          refine lv_bipush (v := 46) hx hb dX15_macroValue_292 (by decide) ?_
                          have hFc := pg_free hD hS hA
                          refine va_callv (va_runV (As := [.int 46]) (rest := []) ⟨hx, hb, hml, hown, hts⟩ (s_X14_add l dC dI cs ty gm L H.size F_304 pe (ρ + 7) rp 100 (zz + 3) 46 hW hL_pe hT_pe hq_305 (by first | omega | assumption)) ⟨callB_of 1 hts (gi kt_701) rfl rfl rfl (hts _ kt_666) (hts _ kt_702) (by decide +kernel) ⟨Nat.le_of_ble_eq_true rfl, Nat.le_of_ble_eq_true rfl⟩, (hts _ kt_703), (hts _ kt_704)⟩ ⟨fun a U g mk q => ⟨q.1, PTm.calling q.2⟩, pg_recv hK hP hL_pe hq_305 (q := (RX14, TX14, 2)) rfl, fun U hU hWm => ⟨rfl, PTm.mk hU hWm hP hK hD hE hO⟩⟩ rfl rfl hl.1 rfl (lv_room (Nat.le_of_ble_eq_true rfl)) dX15_macroValue_294 ⟨by show _ + 0 ≤ 0; omega, by show _ + 0 ≤ 0; omega⟩) hS (fun q _ h => hFc q h) hFc (fun u t H1 locs ht hvm hw hB hz1 hk1 hS => ?_)
                          obtain ⟨F_311, hB1, hq_312⟩ := hB
                          obtain ⟨hP, hD, hO, hR⟩ := QTm.back hB1 ht hFc hR (fun q h => by simp only [List.mem_cons, List.not_mem_nil, or_false] at h ⊢; omega)
                          have hF_313 : F_311 g1 = .inl (cs 17, 700, .inl fv) := (hB1.2.2.2 g1 (by rw [hT_g1]; simp only [List.mem_cons, List.not_mem_nil, or_false]; omega)).trans hF_306
                          have hF_314 : F_311 h0 = .inr (15, (.ref ta) :: (.int (nI zt)) :: (.int (nI zo)) :: (.int (nI ze)) :: (.ref ou) :: (.ref so) :: (.ref ad) :: (.ref na) :: (.ref va) :: (.ref lc) :: (.ref dm) :: (.int v11_43) :: (.int v12_44) :: (.ref tg) :: (.int v14_45) :: (.int v15_46) :: (.ref pe) :: (.int v17_47) :: (.int v18_48) :: (.int v19_49) :: (.int v20_50) :: (.int v21_51) :: (.int v22_52) :: (.ref ml) :: (.ref bg) :: (.ref co) :: (.ref sp) :: (.ref nb0) :: (.ref nb1) :: (.ref nb2) :: (.int (nI nf)) :: (.int (nI bd)) :: (.int (nI mm)) :: (.int v33_53) :: (.ref pl) :: (.ref se) :: (.ref ke) :: (.ref wi) :: (.ref hs) :: (.ref mo) :: (.ref po) :: (.ref nu) :: (.ref pr) :: (.ref sq) :: (.ref xa) :: (.ref sa) :: (.ref n64) :: (.ref m64) :: (.ref ex) :: (.ref wh) :: (.ref sd) :: (.ref tk) :: (.int v52_54) :: (.int v53_55) :: (.int v54_56) :: (.ref hd) :: (.ref ak) :: (.ref ho) :: (.ref ot) :: []) := (hB1.2.2.2 h0 (by rw [hT_h0]; simp)).trans hF_307
                          have hF_315 : F_311 g2 = .inr (14, [.ref r2, .int (nI y)]) := (hB1.2.2.2 g2 (by rw [hT_g2]; simp)).trans hF_308
                          generalize H1 = H at hP hS ⊢
                          refine lv_iinc (v := (sv (mq + 1))) (lv' := [(10, .int (sv (mq + 1))), (11, .int x_226), (9, .int s9), (8, .int (nI nn)), (7, .int 0), (6, .int (fv a)), (0, .ref h0), (1, .ref g1), (2, .int (nI a)), (3, .int (nI tt)), (4, .ref dd), (5, .ref g2)]) hx hb dX15_macroValue_297 hl (k := 1) rfl (sv_n mq hm4) (by decide) rfl (fun ls hl => ?_)
                          refine lv_goto (tgt := 196) hx hb dX15_macroValue_300 (by decide) ?_
                          refine W.widen (k := 0) (n := 0) (by omega) (by omega) ?_
                          exact ih_220 ((mq + 1), (zz + 4)) F_311 (⟨by omega, hF_315, hq_312, Or.inl (by omega)⟩) (by show 4 - (mq + 1) < 4 - mq; omega) hO hR _ _ hP hD hS ls (lv_sub hl [0, 2, 3, 4, 5, 6, 7, 8, 9, 10, 11] rfl)
            ·
              refine lv_iload hx hb dX15_macroValue_167 (lv_at hl 3 rfl) ?_
              refine lv_bipush (v := 100) hx hb dX15_macroValue_169 (by decide) ?_
              refine lv_icmp_ne (tgt := 192) hx hb dX15_macroValue_171 (by decide) (fun c_316 => ?_) (fun c_316 => ?_)
              ·
                refine W.widen (k := 0) (n := 0) (by omega) (by omega) ?_
                obtain ⟨hi_317, ht_318, hq_319⟩ := hW.txt hL_g2 hT_g2
                exact jn_95 zz167 F_89 (⟨hwca, hwcb, by omega, hwcd.imp id (fun h => h.imp id (fun h => h.imp id Or.inl))⟩) hO hR _ _ hP hD hS ls (lv_sub hl [0, 1, 2, 3, 4, 5, 6, 7, 8, 9] rfl)
              ·
                have hz9 : zz167 = 0 := by
                  rcases hwcd with h | h | h | h
                  · exact h
                  · exact absurd (c_316.symm.trans h) (by decide)
                  · exact absurd (c_316.symm.trans h) (by decide)
                  · exact absurd (c_316.symm.trans h) (by decide)
                refine lv_aload_n hx hb dX15_macroValue_174 rfl (lv_at hl 4 rfl) ?_
                refine pg_get (ci := 15) (v := .ref pe) (C := RX15) (T := TX15) (N := 59) hx hb hts it_15 hown hK hP hL_h0 hF_94 rfl 16 (by decide) (hts _ kt_758) (fun _ h9 => h9) rfl dX15_macroValue_175 ?_
                refine lv_aload hx hb dX15_macroValue_178 (lv_at hl 8 rfl) ?_
                obtain ⟨hi_320, ht_321, hq_322⟩ := hW.txt hL_dd hT_dd
                obtain ⟨z_323, hF_324, hq_325⟩ := hO.txt hL_dd hT_dd
                refine pg_get (ci := 14) (v := .ref rd) (C := RX14) (T := TX14) (N := 2) hx hb hts it_14 hown hK hP hL_dd hF_324 rfl 0 (by decide) (hts _ kt_700) (fun _ h9 => h9) rfl dX15_macroValue_180 ?_
                refine lv_iconst (v := 0) hx hb dX15_macroValue_183 (by decide) ?_
                refine lv_aload hx hb dX15_macroValue_184 (lv_at hl 8 rfl) ?_
                refine pg_get (ci := 14) (v := .int (nI z_323)) (C := RX14) (T := TX14) (N := 2) hx hb hts it_14 hown hK hP hL_dd hF_324 rfl 1 (by decide) (hts _ kt_699) (fun _ h9 => h9) rfl dX15_macroValue_186 ?_
                refine W.eq (g2 := F0 m 189 ls [.int (nI z_323), .int (nI 0), .ref rd, .ref pe]) rfl ?_
                obtain ⟨hq_326, hq_327⟩ := hW.octs hi_320 ht_321
                have hFc := pg_free hD hS hA
                refine va_callv (va_runV (As := [.ref rd, .int (nI 0), .int (nI z_323)]) (rest := []) ⟨hx, hb, hml, hown, hts⟩ (s_X14_add_ l dC dI cs ty gm L H.size F_89 pe (ρ + 7) rp 100 rd τ nd zz167 0 z_323 hW hL_pe hT_pe hi_320 ht_321 hwcb (by first | omega | assumption) (by first | omega | assumption) (by first | omega | assumption)) ⟨callB_of 3 hts (gi kt_665) rfl rfl rfl (hts _ kt_666) (hts _ kt_766) (by decide +kernel) ⟨Nat.le_of_ble_eq_true rfl, Nat.le_of_ble_eq_true rfl⟩, (hts _ kt_668), (hts _ kt_669)⟩ ⟨fun a U g mk q => ⟨q.1, PTm.calling q.2⟩, pg_recv hK hP hL_pe hwcb (q := (RX14, TX14, 2)) rfl, fun U hU hWm => ⟨rfl, PTm.mk hU hWm hP hK hD hE hO⟩⟩ rfl rfl hl.1 rfl (lv_room (Nat.le_of_ble_eq_true rfl)) dX15_macroValue_189 ⟨by show _ + 0 ≤ 0; omega, by show _ + 0 ≤ 0; omega⟩) hS (fun q _ h => hFc q h) hFc (fun u t H1 locs ht hvm hw hB hz1 hk1 hS => ?_)
                obtain ⟨F_329, hB1, hq_330⟩ := hB
                obtain ⟨hP, hD, hO, hR⟩ := QTm.back hB1 ht hFc hR (fun q h => by simp only [List.mem_cons, List.not_mem_nil, or_false] at h ⊢; omega)
                have hF_331 : F_329 g1 = .inl (cs 17, 700, .inl fv) := (hB1.2.2.2 g1 (by rw [hT_g1]; simp only [List.mem_cons, List.not_mem_nil, or_false]; omega)).trans hF_93
                have hF_332 : F_329 h0 = .inr (15, (.ref ta) :: (.int (nI zt)) :: (.int (nI zo)) :: (.int (nI ze)) :: (.ref ou) :: (.ref so) :: (.ref ad) :: (.ref na) :: (.ref va) :: (.ref lc) :: (.ref dm) :: (.int v11_43) :: (.int v12_44) :: (.ref tg) :: (.int v14_45) :: (.int v15_46) :: (.ref pe) :: (.int v17_47) :: (.int v18_48) :: (.int v19_49) :: (.int v20_50) :: (.int v21_51) :: (.int v22_52) :: (.ref ml) :: (.ref bg) :: (.ref co) :: (.ref sp) :: (.ref nb0) :: (.ref nb1) :: (.ref nb2) :: (.int (nI nf)) :: (.int (nI bd)) :: (.int (nI mm)) :: (.int v33_53) :: (.ref pl) :: (.ref se) :: (.ref ke) :: (.ref wi) :: (.ref hs) :: (.ref mo) :: (.ref po) :: (.ref nu) :: (.ref pr) :: (.ref sq) :: (.ref xa) :: (.ref sa) :: (.ref n64) :: (.ref m64) :: (.ref ex) :: (.ref wh) :: (.ref sd) :: (.ref tk) :: (.int v52_54) :: (.int v53_55) :: (.int v54_56) :: (.ref hd) :: (.ref ak) :: (.ref ho) :: (.ref ot) :: []) := (hB1.2.2.2 h0 (by rw [hT_h0]; simp)).trans hF_94
                have hF_333 : F_329 g2 = .inr (14, [.ref r2, .int (nI y)]) := (hB1.2.2.2 g2 (by rw [hT_g2]; simp)).trans hwca
                generalize H1 = H at hP hS ⊢
                refine W.widen (k := 0) (n := 0) (by omega) (by omega) ?_
                obtain ⟨hi_334, ht_335, hq_336⟩ := hW.txt hL_g2 hT_g2
                exact jn_95 (zz167 + (z_323 - 0)) F_329 (⟨hF_333, hq_330, by omega, (Or.inr (Or.inr (Or.inr (Or.inr c_316))))⟩) hO hR _ _ hP hD hS ls (lv_sub hl [0, 1, 2, 3, 4, 5, 6, 7, 8, 9] rfl)
          ·
            refine lv_iload hx hb dX15_macroValue_131 (lv_at hl 3 rfl) ?_
            refine lv_bipush (v := 115) hx hb dX15_macroValue_133 (by decide) ?_
            refine lv_icmp_eq (tgt := 145) hx hb dX15_macroValue_135 (by decide) (fun c_337 => ?_) (fun c_337 => ?_)
            ·
              refine lv_aload_n hx hb dX15_macroValue_145 rfl (lv_at hl 4 rfl) ?_
              refine pg_get (ci := 15) (v := .ref pe) (C := RX15) (T := TX15) (N := 59) hx hb hts it_15 hown hK hP hL_h0 hF_87 rfl 16 (by decide) (hts _ kt_758) (fun _ h9 => h9) rfl dX15_macroValue_146 ?_
              refine lv_aload_n hx hb dX15_macroValue_149 rfl (lv_at hl 4 rfl) ?_
              refine pg_get (ci := 15) (v := .ref dm) (C := RX15) (T := TX15) (N := 59) hx hb hts it_15 hown hK hP hL_h0 hF_87 rfl 10 (by decide) (hts _ kt_767) (fun _ h9 => h9) rfl dX15_macroValue_150 ?_
              obtain ⟨hi_338, r_18, ht_339⟩ := hW.f_dm hL_h0 hT_h0
              obtain ⟨hi_340, ht_341, hq_342⟩ := hW.txt hi_338 ht_339
              obtain ⟨z_343, hF_344, hq_345⟩ := hO.txt hi_338 ht_339
              refine pg_get (ci := 14) (v := .ref r_18) (C := RX14) (T := TX14) (N := 2) hx hb hts it_14 hown hK hP hi_338 hF_344 rfl 0 (by decide) (hts _ kt_700) (fun _ h9 => h9) rfl dX15_macroValue_153 ?_
              refine lv_iconst (v := 0) hx hb dX15_macroValue_156 (by decide) ?_
              refine lv_aload_n hx hb dX15_macroValue_157 rfl (lv_at hl 4 rfl) ?_
              refine pg_get (ci := 15) (v := .ref dm) (C := RX15) (T := TX15) (N := 59) hx hb hts it_15 hown hK hP hL_h0 hF_87 rfl 10 (by decide) (hts _ kt_767) (fun _ h9 => h9) rfl dX15_macroValue_158 ?_
              refine pg_get (ci := 14) (v := .int (nI z_343)) (C := RX14) (T := TX14) (N := 2) hx hb hts it_14 hown hK hP hi_338 hF_344 rfl 1 (by decide) (hts _ kt_699) (fun _ h9 => h9) rfl dX15_macroValue_161 ?_
              refine W.eq (g2 := F0 m 164 ls [.int (nI z_343), .int (nI 0), .ref r_18, .ref pe]) rfl ?_
              obtain ⟨hq_346, hq_347⟩ := hW.octs hi_340 ht_341
              have hFc := pg_free hD hS hA
              refine va_callv (va_runV (As := [.ref r_18, .int (nI 0), .int (nI z_343)]) (rest := []) ⟨hx, hb, hml, hown, hts⟩ (s_X14_add_ l dC dI cs ty gm L H.size F_82 pe (ρ + 7) rp 100 r_18 (ρ + 5) 60 zz131 0 z_343 hW hL_pe hT_pe hi_340 ht_341 hwbb (by first | omega | assumption) (by first | omega | assumption) (by first | omega | assumption)) ⟨callB_of 3 hts (gi kt_665) rfl rfl rfl (hts _ kt_666) (hts _ kt_766) (by decide +kernel) ⟨Nat.le_of_ble_eq_true rfl, Nat.le_of_ble_eq_true rfl⟩, (hts _ kt_668), (hts _ kt_669)⟩ ⟨fun a U g mk q => ⟨q.1, PTm.calling q.2⟩, pg_recv hK hP hL_pe hwbb (q := (RX14, TX14, 2)) rfl, fun U hU hWm => ⟨rfl, PTm.mk hU hWm hP hK hD hE hO⟩⟩ rfl rfl hl.1 rfl (lv_room (Nat.le_of_ble_eq_true rfl)) dX15_macroValue_164 ⟨by show _ + 0 ≤ 0; omega, by show _ + 0 ≤ 0; omega⟩) hS (fun q _ h => hFc q h) hFc (fun u t H1 locs ht hvm hw hB hz1 hk1 hS => ?_)
              obtain ⟨F_349, hB1, hq_350⟩ := hB
              obtain ⟨hP, hD, hO, hR⟩ := QTm.back hB1 ht hFc hR (fun q h => by simp only [List.mem_cons, List.not_mem_nil, or_false] at h ⊢; omega)
              have hF_351 : F_349 g1 = .inl (cs 17, 700, .inl fv) := (hB1.2.2.2 g1 (by rw [hT_g1]; simp only [List.mem_cons, List.not_mem_nil, or_false]; omega)).trans hF_86
              have hF_352 : F_349 h0 = .inr (15, (.ref ta) :: (.int (nI zt)) :: (.int (nI zo)) :: (.int (nI ze)) :: (.ref ou) :: (.ref so) :: (.ref ad) :: (.ref na) :: (.ref va) :: (.ref lc) :: (.ref dm) :: (.int v11_43) :: (.int v12_44) :: (.ref tg) :: (.int v14_45) :: (.int v15_46) :: (.ref pe) :: (.int v17_47) :: (.int v18_48) :: (.int v19_49) :: (.int v20_50) :: (.int v21_51) :: (.int v22_52) :: (.ref ml) :: (.ref bg) :: (.ref co) :: (.ref sp) :: (.ref nb0) :: (.ref nb1) :: (.ref nb2) :: (.int (nI nf)) :: (.int (nI bd)) :: (.int (nI mm)) :: (.int v33_53) :: (.ref pl) :: (.ref se) :: (.ref ke) :: (.ref wi) :: (.ref hs) :: (.ref mo) :: (.ref po) :: (.ref nu) :: (.ref pr) :: (.ref sq) :: (.ref xa) :: (.ref sa) :: (.ref n64) :: (.ref m64) :: (.ref ex) :: (.ref wh) :: (.ref sd) :: (.ref tk) :: (.int v52_54) :: (.int v53_55) :: (.int v54_56) :: (.ref hd) :: (.ref ak) :: (.ref ho) :: (.ref ot) :: []) := (hB1.2.2.2 h0 (by rw [hT_h0]; simp)).trans hF_87
              have hF_353 : F_349 g2 = .inr (14, [.ref r2, .int (nI y)]) := (hB1.2.2.2 g2 (by rw [hT_g2]; simp)).trans hwba
              have hF_354 : F_349 dm = .inr (14, [.ref r_18, .int (nI z_343)]) := (hB1.2.2.2 dm (by rw [ht_339]; simp)).trans hF_344
              generalize H1 = H at hP hS ⊢
              refine W.widen (k := 0) (n := 0) (by omega) (by omega) ?_
              obtain ⟨hi_355, ht_356, hq_357⟩ := hW.txt hL_g2 hT_g2
              exact jn_88 (zz131 + (z_343 - 0)) F_349 (⟨hF_353, hq_350, by omega, (Or.inr (Or.inl c_337))⟩) hO hR _ _ hP hD hS ls (lv_sub hl [0, 1, 2, 3, 4, 5, 6, 7, 8, 9] rfl)
            ·
              refine lv_iload hx hb dX15_macroValue_138 (lv_at hl 3 rfl) ?_
              refine lv_bipush (v := 111) hx hb dX15_macroValue_140 (by decide) ?_
              refine lv_icmp_ne (tgt := 167) hx hb dX15_macroValue_142 (by decide) (fun c_358 => ?_) (fun c_358 => ?_)
              ·
                refine W.widen (k := 0) (n := 0) (by omega) (by omega) ?_
                obtain ⟨hi_359, ht_360, hq_361⟩ := hW.txt hL_g2 hT_g2
                exact jn_88 zz131 F_82 (⟨hwba, hwbb, by omega, hwbd.imp id (fun h => h.imp id Or.inl)⟩) hO hR _ _ hP hD hS ls (lv_sub hl [0, 1, 2, 3, 4, 5, 6, 7, 8, 9] rfl)
              ·
                have hz8 : zz131 = 0 := by
                  rcases hwbd with h | h | h
                  · exact h
                  · exact absurd (c_358.symm.trans h) (by decide)
                  · exact absurd (c_358.symm.trans h) (by decide)
                refine lv_aload_n hx hb dX15_macroValue_145 rfl (lv_at hl 4 rfl) ?_
                refine pg_get (ci := 15) (v := .ref pe) (C := RX15) (T := TX15) (N := 59) hx hb hts it_15 hown hK hP hL_h0 hF_87 rfl 16 (by decide) (hts _ kt_758) (fun _ h9 => h9) rfl dX15_macroValue_146 ?_
                refine lv_aload_n hx hb dX15_macroValue_149 rfl (lv_at hl 4 rfl) ?_
                refine pg_get (ci := 15) (v := .ref dm) (C := RX15) (T := TX15) (N := 59) hx hb hts it_15 hown hK hP hL_h0 hF_87 rfl 10 (by decide) (hts _ kt_767) (fun _ h9 => h9) rfl dX15_macroValue_150 ?_
                obtain ⟨hi_362, r_18, ht_363⟩ := hW.f_dm hL_h0 hT_h0
                obtain ⟨hi_364, ht_365, hq_366⟩ := hW.txt hi_362 ht_363
                obtain ⟨z_367, hF_368, hq_369⟩ := hO.txt hi_362 ht_363
                refine pg_get (ci := 14) (v := .ref r_18) (C := RX14) (T := TX14) (N := 2) hx hb hts it_14 hown hK hP hi_362 hF_368 rfl 0 (by decide) (hts _ kt_700) (fun _ h9 => h9) rfl dX15_macroValue_153 ?_
                refine lv_iconst (v := 0) hx hb dX15_macroValue_156 (by decide) ?_
                refine lv_aload_n hx hb dX15_macroValue_157 rfl (lv_at hl 4 rfl) ?_
                refine pg_get (ci := 15) (v := .ref dm) (C := RX15) (T := TX15) (N := 59) hx hb hts it_15 hown hK hP hL_h0 hF_87 rfl 10 (by decide) (hts _ kt_767) (fun _ h9 => h9) rfl dX15_macroValue_158 ?_
                refine pg_get (ci := 14) (v := .int (nI z_367)) (C := RX14) (T := TX14) (N := 2) hx hb hts it_14 hown hK hP hi_362 hF_368 rfl 1 (by decide) (hts _ kt_699) (fun _ h9 => h9) rfl dX15_macroValue_161 ?_
                refine W.eq (g2 := F0 m 164 ls [.int (nI z_367), .int (nI 0), .ref r_18, .ref pe]) rfl ?_
                obtain ⟨hq_370, hq_371⟩ := hW.octs hi_364 ht_365
                have hFc := pg_free hD hS hA
                refine va_callv (va_runV (As := [.ref r_18, .int (nI 0), .int (nI z_367)]) (rest := []) ⟨hx, hb, hml, hown, hts⟩ (s_X14_add_ l dC dI cs ty gm L H.size F_82 pe (ρ + 7) rp 100 r_18 (ρ + 5) 60 zz131 0 z_367 hW hL_pe hT_pe hi_364 ht_365 hwbb (by first | omega | assumption) (by first | omega | assumption) (by first | omega | assumption)) ⟨callB_of 3 hts (gi kt_665) rfl rfl rfl (hts _ kt_666) (hts _ kt_766) (by decide +kernel) ⟨Nat.le_of_ble_eq_true rfl, Nat.le_of_ble_eq_true rfl⟩, (hts _ kt_668), (hts _ kt_669)⟩ ⟨fun a U g mk q => ⟨q.1, PTm.calling q.2⟩, pg_recv hK hP hL_pe hwbb (q := (RX14, TX14, 2)) rfl, fun U hU hWm => ⟨rfl, PTm.mk hU hWm hP hK hD hE hO⟩⟩ rfl rfl hl.1 rfl (lv_room (Nat.le_of_ble_eq_true rfl)) dX15_macroValue_164 ⟨by show _ + 0 ≤ 0; omega, by show _ + 0 ≤ 0; omega⟩) hS (fun q _ h => hFc q h) hFc (fun u t H1 locs ht hvm hw hB hz1 hk1 hS => ?_)
                obtain ⟨F_373, hB1, hq_374⟩ := hB
                obtain ⟨hP, hD, hO, hR⟩ := QTm.back hB1 ht hFc hR (fun q h => by simp only [List.mem_cons, List.not_mem_nil, or_false] at h ⊢; omega)
                have hF_375 : F_373 g1 = .inl (cs 17, 700, .inl fv) := (hB1.2.2.2 g1 (by rw [hT_g1]; simp only [List.mem_cons, List.not_mem_nil, or_false]; omega)).trans hF_86
                have hF_376 : F_373 h0 = .inr (15, (.ref ta) :: (.int (nI zt)) :: (.int (nI zo)) :: (.int (nI ze)) :: (.ref ou) :: (.ref so) :: (.ref ad) :: (.ref na) :: (.ref va) :: (.ref lc) :: (.ref dm) :: (.int v11_43) :: (.int v12_44) :: (.ref tg) :: (.int v14_45) :: (.int v15_46) :: (.ref pe) :: (.int v17_47) :: (.int v18_48) :: (.int v19_49) :: (.int v20_50) :: (.int v21_51) :: (.int v22_52) :: (.ref ml) :: (.ref bg) :: (.ref co) :: (.ref sp) :: (.ref nb0) :: (.ref nb1) :: (.ref nb2) :: (.int (nI nf)) :: (.int (nI bd)) :: (.int (nI mm)) :: (.int v33_53) :: (.ref pl) :: (.ref se) :: (.ref ke) :: (.ref wi) :: (.ref hs) :: (.ref mo) :: (.ref po) :: (.ref nu) :: (.ref pr) :: (.ref sq) :: (.ref xa) :: (.ref sa) :: (.ref n64) :: (.ref m64) :: (.ref ex) :: (.ref wh) :: (.ref sd) :: (.ref tk) :: (.int v52_54) :: (.int v53_55) :: (.int v54_56) :: (.ref hd) :: (.ref ak) :: (.ref ho) :: (.ref ot) :: []) := (hB1.2.2.2 h0 (by rw [hT_h0]; simp)).trans hF_87
                have hF_377 : F_373 g2 = .inr (14, [.ref r2, .int (nI y)]) := (hB1.2.2.2 g2 (by rw [hT_g2]; simp)).trans hwba
                have hF_378 : F_373 dm = .inr (14, [.ref r_18, .int (nI z_367)]) := (hB1.2.2.2 dm (by rw [ht_363]; simp)).trans hF_368
                generalize H1 = H at hP hS ⊢
                refine W.widen (k := 0) (n := 0) (by omega) (by omega) ?_
                obtain ⟨hi_379, ht_380, hq_381⟩ := hW.txt hL_g2 hT_g2
                exact jn_88 (zz131 + (z_367 - 0)) F_373 (⟨hF_377, hq_374, by omega, (Or.inr (Or.inr (Or.inr c_358)))⟩) hO hR _ _ hP hD hS ls (lv_sub hl [0, 1, 2, 3, 4, 5, 6, 7, 8, 9] rfl)
        ·
          refine lv_iload hx hb dX15_macroValue_115 (lv_at hl 3 rfl) ?_
          refine lv_bipush (v := 115) hx hb dX15_macroValue_117 (by decide) ?_
          refine lv_icmp_ne (tgt := 131) hx hb dX15_macroValue_119 (by decide) (fun c_382 => ?_) (fun c_382 => ?_)
          ·
            refine W.widen (k := 0) (n := 0) (by omega) (by omega) ?_
            obtain ⟨hi_383, ht_384, hq_385⟩ := hW.txt hL_g2 hT_g2
            exact jn_81 zz115 F_75 (⟨hwaa, hwab, by omega, hwad⟩) hO hR _ _ hP hD hS ls (lv_sub hl [0, 1, 2, 3, 4, 5, 6, 7, 8, 9] rfl)
          ·
            refine lv_aload_n hx hb dX15_macroValue_122 rfl (lv_at hl 4 rfl) ?_
            refine pg_get (ci := 15) (v := .ref pe) (C := RX15) (T := TX15) (N := 59) hx hb hts it_15 hown hK hP hL_h0 hF_80 rfl 16 (by decide) (hts _ kt_758) (fun _ h9 => h9) rfl dX15_macroValue_123 ?_
            refine lv_bipush (v := 64) hx hb dX15_macroValue_126 (by decide) ?_
            have hFc := pg_free hD hS hA
            refine va_callv (va_runV (As := [.int 64]) (rest := []) ⟨hx, hb, hml, hown, hts⟩ (s_X14_add l dC dI cs ty gm L H.size F_75 pe (ρ + 7) rp 100 zz115 64 hW hL_pe hT_pe hwab (by first | omega | assumption)) ⟨callB_of 1 hts (gi kt_701) rfl rfl rfl (hts _ kt_666) (hts _ kt_702) (by decide +kernel) ⟨Nat.le_of_ble_eq_true rfl, Nat.le_of_ble_eq_true rfl⟩, (hts _ kt_703), (hts _ kt_704)⟩ ⟨fun a U g mk q => ⟨q.1, PTm.calling q.2⟩, pg_recv hK hP hL_pe hwab (q := (RX14, TX14, 2)) rfl, fun U hU hWm => ⟨rfl, PTm.mk hU hWm hP hK hD hE hO⟩⟩ rfl rfl hl.1 rfl (lv_room (Nat.le_of_ble_eq_true rfl)) dX15_macroValue_128 ⟨by show _ + 0 ≤ 0; omega, by show _ + 0 ≤ 0; omega⟩) hS (fun q _ h => hFc q h) hFc (fun u t H1 locs ht hvm hw hB hz1 hk1 hS => ?_)
            obtain ⟨F_387, hB1, hq_388⟩ := hB
            obtain ⟨hP, hD, hO, hR⟩ := QTm.back hB1 ht hFc hR (fun q h => by simp only [List.mem_cons, List.not_mem_nil, or_false] at h ⊢; omega)
            have hF_389 : F_387 g1 = .inl (cs 17, 700, .inl fv) := (hB1.2.2.2 g1 (by rw [hT_g1]; simp only [List.mem_cons, List.not_mem_nil, or_false]; omega)).trans hF_79
            have hF_390 : F_387 h0 = .inr (15, (.ref ta) :: (.int (nI zt)) :: (.int (nI zo)) :: (.int (nI ze)) :: (.ref ou) :: (.ref so) :: (.ref ad) :: (.ref na) :: (.ref va) :: (.ref lc) :: (.ref dm) :: (.int v11_43) :: (.int v12_44) :: (.ref tg) :: (.int v14_45) :: (.int v15_46) :: (.ref pe) :: (.int v17_47) :: (.int v18_48) :: (.int v19_49) :: (.int v20_50) :: (.int v21_51) :: (.int v22_52) :: (.ref ml) :: (.ref bg) :: (.ref co) :: (.ref sp) :: (.ref nb0) :: (.ref nb1) :: (.ref nb2) :: (.int (nI nf)) :: (.int (nI bd)) :: (.int (nI mm)) :: (.int v33_53) :: (.ref pl) :: (.ref se) :: (.ref ke) :: (.ref wi) :: (.ref hs) :: (.ref mo) :: (.ref po) :: (.ref nu) :: (.ref pr) :: (.ref sq) :: (.ref xa) :: (.ref sa) :: (.ref n64) :: (.ref m64) :: (.ref ex) :: (.ref wh) :: (.ref sd) :: (.ref tk) :: (.int v52_54) :: (.int v53_55) :: (.int v54_56) :: (.ref hd) :: (.ref ak) :: (.ref ho) :: (.ref ot) :: []) := (hB1.2.2.2 h0 (by rw [hT_h0]; simp)).trans hF_80
            have hF_391 : F_387 g2 = .inr (14, [.ref r2, .int (nI y)]) := (hB1.2.2.2 g2 (by rw [hT_g2]; simp)).trans hwaa
            generalize H1 = H at hP hS ⊢
            refine W.widen (k := 0) (n := 0) (by omega) (by omega) ?_
            obtain ⟨hi_392, ht_393, hq_394⟩ := hW.txt hL_g2 hT_g2
            exact jn_81 (zz115 + 1) F_387 (⟨hF_391, hq_388, by omega, (Or.inr (Or.inl c_382))⟩) hO hR _ _ hP hD hS ls (lv_sub hl [0, 1, 2, 3, 4, 5, 6, 7, 8, 9] rfl)
      ·
        refine lv_iload hx hb dX15_macroValue_79 (lv_at hl 4 rfl) ?_
        refine lv_bipush (v := 115) hx hb dX15_macroValue_81 (by decide) ?_
        refine lv_icmp_eq (tgt := 93) hx hb dX15_macroValue_83 (by decide) (fun c_395 => ?_) (fun c_395 => ?_)
        ·
          refine lv_aload_n hx hb dX15_macroValue_93 rfl (lv_at hl 5 rfl) ?_
          refine pg_get (ci := 15) (v := .ref pe) (C := RX15) (T := TX15) (N := 59) hx hb hts it_15 hown hK hP hL_h0 hF_73 rfl 16 (by decide) (hts _ kt_758) (fun _ h9 => h9) rfl dX15_macroValue_94 ?_
          refine lv_aload_n hx hb dX15_macroValue_97 rfl (lv_at hl 5 rfl) ?_
          refine pg_get (ci := 15) (v := .ref lc) (C := RX15) (T := TX15) (N := 59) hx hb hts it_15 hown hK hP hL_h0 hF_73 rfl 9 (by decide) (hts _ kt_768) (fun _ h9 => h9) rfl dX15_macroValue_98 ?_
          obtain ⟨hi_396, r_17, ht_397⟩ := hW.f_lc hL_h0 hT_h0
          obtain ⟨hi_398, ht_399, hq_400⟩ := hW.txt hi_396 ht_397
          obtain ⟨z_401, hF_402, hq_403⟩ := hO.txt hi_396 ht_397
          refine pg_get (ci := 14) (v := .ref r_17) (C := RX14) (T := TX14) (N := 2) hx hb hts it_14 hown hK hP hi_396 hF_402 rfl 0 (by decide) (hts _ kt_700) (fun _ h9 => h9) rfl dX15_macroValue_101 ?_
          refine lv_iconst (v := 0) hx hb dX15_macroValue_104 (by decide) ?_
          refine lv_aload_n hx hb dX15_macroValue_105 rfl (lv_at hl 5 rfl) ?_
          refine pg_get (ci := 15) (v := .ref lc) (C := RX15) (T := TX15) (N := 59) hx hb hts it_15 hown hK hP hL_h0 hF_73 rfl 9 (by decide) (hts _ kt_768) (fun _ h9 => h9) rfl dX15_macroValue_106 ?_
          refine pg_get (ci := 14) (v := .int (nI z_401)) (C := RX14) (T := TX14) (N := 2) hx hb hts it_14 hown hK hP hi_396 hF_402 rfl 1 (by decide) (hts _ kt_699) (fun _ h9 => h9) rfl dX15_macroValue_109 ?_
          refine W.eq (g2 := F0 m 112 ls [.int (nI z_401), .int (nI 0), .ref r_17, .ref pe]) rfl ?_
          obtain ⟨hq_404, hq_405⟩ := hW.octs hi_398 ht_399
          have hFc := pg_free hD hS hA
          refine va_callv (va_runV (As := [.ref r_17, .int (nI 0), .int (nI z_401)]) (rest := []) ⟨hx, hb, hml, hown, hts⟩ (s_X14_add_ l dC dI cs ty gm L H.size F_68 pe (ρ + 7) rp 100 r_17 (ρ + 5) 30 0 0 z_401 hW hL_pe hT_pe hi_398 ht_399 hF_70 (by first | omega | assumption) (by first | omega | assumption) (by first | omega | assumption)) ⟨callB_of 3 hts (gi kt_665) rfl rfl rfl (hts _ kt_666) (hts _ kt_766) (by decide +kernel) ⟨Nat.le_of_ble_eq_true rfl, Nat.le_of_ble_eq_true rfl⟩, (hts _ kt_668), (hts _ kt_669)⟩ ⟨fun a U g mk q => ⟨q.1, PTm.calling q.2⟩, pg_recv hK hP hL_pe hF_70 (q := (RX14, TX14, 2)) rfl, fun U hU hWm => ⟨rfl, PTm.mk hU hWm hP hK hD hE hO⟩⟩ rfl rfl hl.1 rfl (lv_room (Nat.le_of_ble_eq_true rfl)) dX15_macroValue_112 ⟨by show _ + 0 ≤ 0; omega, by show _ + 0 ≤ 0; omega⟩) hS (fun q _ h => hFc q h) hFc (fun u t H1 locs ht hvm hw hB hz1 hk1 hS => ?_)
          obtain ⟨F_407, hB1, hq_408⟩ := hB
          obtain ⟨hP, hD, hO, hR⟩ := QTm.back hB1 ht hFc hR (fun q h => by simp only [List.mem_cons, List.not_mem_nil, or_false] at h ⊢; omega)
          have hF_409 : F_407 g1 = .inl (cs 17, 700, .inl fv) := (hB1.2.2.2 g1 (by rw [hT_g1]; simp only [List.mem_cons, List.not_mem_nil, or_false]; omega)).trans hF_71
          have hF_410 : F_407 g2 = .inr (14, [.ref r2, .int (nI y)]) := (hB1.2.2.2 g2 (by rw [hT_g2]; simp)).trans hF_72
          have hF_411 : F_407 h0 = .inr (15, (.ref ta) :: (.int (nI zt)) :: (.int (nI zo)) :: (.int (nI ze)) :: (.ref ou) :: (.ref so) :: (.ref ad) :: (.ref na) :: (.ref va) :: (.ref lc) :: (.ref dm) :: (.int v11_43) :: (.int v12_44) :: (.ref tg) :: (.int v14_45) :: (.int v15_46) :: (.ref pe) :: (.int v17_47) :: (.int v18_48) :: (.int v19_49) :: (.int v20_50) :: (.int v21_51) :: (.int v22_52) :: (.ref ml) :: (.ref bg) :: (.ref co) :: (.ref sp) :: (.ref nb0) :: (.ref nb1) :: (.ref nb2) :: (.int (nI nf)) :: (.int (nI bd)) :: (.int (nI mm)) :: (.int v33_53) :: (.ref pl) :: (.ref se) :: (.ref ke) :: (.ref wi) :: (.ref hs) :: (.ref mo) :: (.ref po) :: (.ref nu) :: (.ref pr) :: (.ref sq) :: (.ref xa) :: (.ref sa) :: (.ref n64) :: (.ref m64) :: (.ref ex) :: (.ref wh) :: (.ref sd) :: (.ref tk) :: (.int v52_54) :: (.int v53_55) :: (.int v54_56) :: (.ref hd) :: (.ref ak) :: (.ref ho) :: (.ref ot) :: []) := (hB1.2.2.2 h0 (by rw [hT_h0]; simp)).trans hF_73
          have hF_412 : F_407 lc = .inr (14, [.ref r_17, .int (nI z_401)]) := (hB1.2.2.2 lc (by rw [ht_397]; simp)).trans hF_402
          generalize H1 = H at hP hS ⊢
          refine W.widen (k := 0) (n := 0) (by omega) (by omega) ?_
          obtain ⟨hi_413, ht_414, hq_415⟩ := hW.txt hL_g2 hT_g2
          exact jn_74 (0 + (z_401 - 0)) F_407 (⟨hF_410, hq_408, by omega, (Or.inr (Or.inl c_395))⟩) hO hR _ _ hP hD hS ls (lv_sub hl [1, 2, 3, 4, 5, 6, 7, 8, 9, 10] rfl)
        ·
          refine lv_iload hx hb dX15_macroValue_86 (lv_at hl 4 rfl) ?_
          refine lv_bipush (v := 108) hx hb dX15_macroValue_88 (by decide) ?_
          refine lv_icmp_ne (tgt := 115) hx hb dX15_macroValue_90 (by decide) (fun c_416 => ?_) (fun c_416 => ?_)
          ·
            refine W.widen (k := 0) (n := 0) (by omega) (by omega) ?_
            obtain ⟨hi_417, ht_418, hq_419⟩ := hW.txt hL_g2 hT_g2
            exact jn_74 0 F_68 (⟨hF_72, hF_70, by omega, (Or.inl rfl)⟩) hO hR _ _ hP hD hS ls (lv_sub hl [1, 2, 3, 4, 5, 6, 7, 8, 9, 10] rfl)
          ·
            refine lv_aload_n hx hb dX15_macroValue_93 rfl (lv_at hl 5 rfl) ?_
            refine pg_get (ci := 15) (v := .ref pe) (C := RX15) (T := TX15) (N := 59) hx hb hts it_15 hown hK hP hL_h0 hF_73 rfl 16 (by decide) (hts _ kt_758) (fun _ h9 => h9) rfl dX15_macroValue_94 ?_
            refine lv_aload_n hx hb dX15_macroValue_97 rfl (lv_at hl 5 rfl) ?_
            refine pg_get (ci := 15) (v := .ref lc) (C := RX15) (T := TX15) (N := 59) hx hb hts it_15 hown hK hP hL_h0 hF_73 rfl 9 (by decide) (hts _ kt_768) (fun _ h9 => h9) rfl dX15_macroValue_98 ?_
            obtain ⟨hi_420, r_17, ht_421⟩ := hW.f_lc hL_h0 hT_h0
            obtain ⟨hi_422, ht_423, hq_424⟩ := hW.txt hi_420 ht_421
            obtain ⟨z_425, hF_426, hq_427⟩ := hO.txt hi_420 ht_421
            refine pg_get (ci := 14) (v := .ref r_17) (C := RX14) (T := TX14) (N := 2) hx hb hts it_14 hown hK hP hi_420 hF_426 rfl 0 (by decide) (hts _ kt_700) (fun _ h9 => h9) rfl dX15_macroValue_101 ?_
            refine lv_iconst (v := 0) hx hb dX15_macroValue_104 (by decide) ?_
            refine lv_aload_n hx hb dX15_macroValue_105 rfl (lv_at hl 5 rfl) ?_
            refine pg_get (ci := 15) (v := .ref lc) (C := RX15) (T := TX15) (N := 59) hx hb hts it_15 hown hK hP hL_h0 hF_73 rfl 9 (by decide) (hts _ kt_768) (fun _ h9 => h9) rfl dX15_macroValue_106 ?_
            refine pg_get (ci := 14) (v := .int (nI z_425)) (C := RX14) (T := TX14) (N := 2) hx hb hts it_14 hown hK hP hi_420 hF_426 rfl 1 (by decide) (hts _ kt_699) (fun _ h9 => h9) rfl dX15_macroValue_109 ?_
            refine W.eq (g2 := F0 m 112 ls [.int (nI z_425), .int (nI 0), .ref r_17, .ref pe]) rfl ?_
            obtain ⟨hq_428, hq_429⟩ := hW.octs hi_422 ht_423
            have hFc := pg_free hD hS hA
            refine va_callv (va_runV (As := [.ref r_17, .int (nI 0), .int (nI z_425)]) (rest := []) ⟨hx, hb, hml, hown, hts⟩ (s_X14_add_ l dC dI cs ty gm L H.size F_68 pe (ρ + 7) rp 100 r_17 (ρ + 5) 30 0 0 z_425 hW hL_pe hT_pe hi_422 ht_423 hF_70 (by first | omega | assumption) (by first | omega | assumption) (by first | omega | assumption)) ⟨callB_of 3 hts (gi kt_665) rfl rfl rfl (hts _ kt_666) (hts _ kt_766) (by decide +kernel) ⟨Nat.le_of_ble_eq_true rfl, Nat.le_of_ble_eq_true rfl⟩, (hts _ kt_668), (hts _ kt_669)⟩ ⟨fun a U g mk q => ⟨q.1, PTm.calling q.2⟩, pg_recv hK hP hL_pe hF_70 (q := (RX14, TX14, 2)) rfl, fun U hU hWm => ⟨rfl, PTm.mk hU hWm hP hK hD hE hO⟩⟩ rfl rfl hl.1 rfl (lv_room (Nat.le_of_ble_eq_true rfl)) dX15_macroValue_112 ⟨by show _ + 0 ≤ 0; omega, by show _ + 0 ≤ 0; omega⟩) hS (fun q _ h => hFc q h) hFc (fun u t H1 locs ht hvm hw hB hz1 hk1 hS => ?_)
            obtain ⟨F_431, hB1, hq_432⟩ := hB
            obtain ⟨hP, hD, hO, hR⟩ := QTm.back hB1 ht hFc hR (fun q h => by simp only [List.mem_cons, List.not_mem_nil, or_false] at h ⊢; omega)
            have hF_433 : F_431 g1 = .inl (cs 17, 700, .inl fv) := (hB1.2.2.2 g1 (by rw [hT_g1]; simp only [List.mem_cons, List.not_mem_nil, or_false]; omega)).trans hF_71
            have hF_434 : F_431 g2 = .inr (14, [.ref r2, .int (nI y)]) := (hB1.2.2.2 g2 (by rw [hT_g2]; simp)).trans hF_72
            have hF_435 : F_431 h0 = .inr (15, (.ref ta) :: (.int (nI zt)) :: (.int (nI zo)) :: (.int (nI ze)) :: (.ref ou) :: (.ref so) :: (.ref ad) :: (.ref na) :: (.ref va) :: (.ref lc) :: (.ref dm) :: (.int v11_43) :: (.int v12_44) :: (.ref tg) :: (.int v14_45) :: (.int v15_46) :: (.ref pe) :: (.int v17_47) :: (.int v18_48) :: (.int v19_49) :: (.int v20_50) :: (.int v21_51) :: (.int v22_52) :: (.ref ml) :: (.ref bg) :: (.ref co) :: (.ref sp) :: (.ref nb0) :: (.ref nb1) :: (.ref nb2) :: (.int (nI nf)) :: (.int (nI bd)) :: (.int (nI mm)) :: (.int v33_53) :: (.ref pl) :: (.ref se) :: (.ref ke) :: (.ref wi) :: (.ref hs) :: (.ref mo) :: (.ref po) :: (.ref nu) :: (.ref pr) :: (.ref sq) :: (.ref xa) :: (.ref sa) :: (.ref n64) :: (.ref m64) :: (.ref ex) :: (.ref wh) :: (.ref sd) :: (.ref tk) :: (.int v52_54) :: (.int v53_55) :: (.int v54_56) :: (.ref hd) :: (.ref ak) :: (.ref ho) :: (.ref ot) :: []) := (hB1.2.2.2 h0 (by rw [hT_h0]; simp)).trans hF_73
            have hF_436 : F_431 lc = .inr (14, [.ref r_17, .int (nI z_425)]) := (hB1.2.2.2 lc (by rw [ht_421]; simp)).trans hF_426
            generalize H1 = H at hP hS ⊢
            refine W.widen (k := 0) (n := 0) (by omega) (by omega) ?_
            obtain ⟨hi_437, ht_438, hq_439⟩ := hW.txt hL_g2 hT_g2
            exact jn_74 (0 + (z_425 - 0)) F_431 (⟨hF_434, hq_432, by omega, (Or.inr (Or.inr c_416))⟩) hO hR _ _ hP hD hS ls (lv_sub hl [1, 2, 3, 4, 5, 6, 7, 8, 9, 10] rfl)
    ·
      have hi_440 : j < tt := ltN (N := tt) c_15
      refine lv_aload_n hx hb dX15_macroValue_46 rfl (lv_at hl 6 rfl) ?_
      refine lv_iload hx hb dX15_macroValue_47 (lv_at hl 0 rfl) ?_
      refine pg_bald hx hb hK hP hL_g1 1 hF_14 rfl (vp_in_nI (by omega) (by omega)) dX15_macroValue_49 ?_
      refine lv_topi (fun x_441 ex_441 => ?_)
      obtain rfl : x_441 = fv j := ex_441.trans (congrArg fv (show ((nI j) : Int32).toNatClampNeg = j from nI_clamp (by omega)))
      have hFc := pg_free hD hS hA
      refine va_calli (va_runS (As := [.int (fv j)]) (rest := []) ⟨hx, hb, hml, hown, hts⟩ (s_X15_isDigit_x l dC dI cs ty gm L H.size F_10 (fv j) hW ) ⟨callB_of 1 hts (gi kt_677) rfl rfl rfl (hts _ kt_659) (hts _ kt_697) (by decide +kernel) ⟨Nat.le_of_ble_eq_true rfl, Nat.le_of_ble_eq_true rfl⟩, (hts _ kt_678)⟩ ⟨fun a U g mk q => ⟨q.1, PTm.calling q.2⟩, fun U hU hWm => ⟨rfl, PTm.mk hU hWm hP hK hD hE hO⟩⟩ rfl rfl hl.1 rfl (lv_room (Nat.le_of_ble_eq_true rfl)) dX15_macroValue_50 ⟨by show _ + 0 ≤ 0; omega, by show _ + 0 ≤ 0; omega⟩) hS (fun q _ h => hFc q h) hFc (fun r_442 u t H1 locs ht hvm hw hB hz1 hk1 hS => ?_)
      obtain ⟨F_443, hB1⟩ := hB
      obtain rfl : F_10 = F_443 := (funext (fun a => hB1.2.2.2 a List.not_mem_nil)).symm
      obtain ⟨hP, hD, hO, hR⟩ := QTm.back hB1 ht hFc hR (fun q h => absurd h List.not_mem_nil)
      generalize H1 = H at hP hS ⊢
      have hw : (r_442 = 0 ∨ (r_442 = 1 ∧ ¬ (fv j) < 48 ∧ ¬ 57 < (fv j))) := hw
      have hw_444 := hw
      refine lv_if_eq (tgt := 65) hx hb dX15_macroValue_53 (by decide) (fun c_445 => ?_) (fun c_445 => ?_)
      ·
        refine lv_iinc (v := (nI (j + 1))) (lv' := [(10, .int (nI (j + 1))), (9, .int s9), (8, .int (nI nn)), (7, .int 0), (6, .int (fv a)), (0, .ref h0), (1, .ref g1), (2, .int (nI a)), (3, .int (nI tt)), (4, .ref dd), (5, .ref g2)]) hx hb dX15_macroValue_65 hl (k := 0) rfl (nI_1 _) (by decide) rfl (fun ls hl => ?_)
        refine lv_goto (tgt := 40) hx hb dX15_macroValue_68 (by decide) ?_
        refine W.widen (k := 0) (n := 0) (by omega) (by omega) ?_
        exact ih_13 ((j + 1), nn) F_10 (⟨by omega, by omega, hn3⟩) (by show tt - (j + 1) < tt - j; omega) hO hR _ _ hP hD hS ls (lv_sub hl [0, 1, 2, 3, 4, 5, 6, 7, 8, 9, 10] rfl)
      ·
        have hc53 := c_445
        refine lv_aload_n hx hb dX15_macroValue_56 rfl (lv_at hl 6 rfl) ?_
        refine lv_iload hx hb dX15_macroValue_57 (lv_at hl 0 rfl) ?_
        refine pg_bald hx hb hK hP hL_g1 1 hF_14 rfl (vp_in_nI (by omega) (by omega)) dX15_macroValue_59 ?_
        refine lv_topi (fun x_446 ex_446 => ?_)
        obtain rfl : x_446 = fv j := ex_446.trans (congrArg fv (show ((nI j) : Int32).toNatClampNeg = j from nI_clamp (by omega)))
        refine lv_bipush (v := 48) hx hb dX15_macroValue_60 (by decide) ?_
        refine lv_isub hx hb dX15_macroValue_62 ?_
        obtain ⟨m_447, hm_447, em_447⟩ := dig (bit1 hw_444 hc53).1 (bit1 hw_444 hc53).2
        refine lv_topi (fun x_448 ex_448 => ?_)
        obtain rfl : x_448 = (nI m_447) := ex_448.trans (em_447)
        refine lv_istore (lv' := [(8, .int (nI m_447)), (10, .int (nI j)), (9, .int s9), (7, .int 0), (6, .int (fv a)), (0, .ref h0), (1, .ref g1), (2, .int (nI a)), (3, .int (nI tt)), (4, .ref dd), (5, .ref g2)]) hx hb dX15_macroValue_63 hl (by decide) rfl (fun ls hl => ?_)
        refine lv_iinc (v := (nI (j + 1))) (lv' := [(10, .int (nI (j + 1))), (8, .int (nI m_447)), (9, .int s9), (7, .int 0), (6, .int (fv a)), (0, .ref h0), (1, .ref g1), (2, .int (nI a)), (3, .int (nI tt)), (4, .ref dd), (5, .ref g2)]) hx hb dX15_macroValue_65 hl (k := 1) rfl (nI_1 _) (by decide) rfl (fun ls hl => ?_)
        refine lv_goto (tgt := 40) hx hb dX15_macroValue_68 (by decide) ?_
        refine W.widen (k := 0) (n := 0) (by omega) (by omega) ?_
        exact ih_13 ((j + 1), m_447) F_10 (⟨by omega, by omega, hn3⟩) (by show tt - (j + 1) < tt - j; omega) hO hR _ _ hP hD hS ls (lv_sub hl [0, 2, 1, 3, 4, 5, 6, 7, 8, 9, 10] rfl)
  ·
    refine lv_aload_n hx hb dX15_macroValue_11 rfl (lv_at hl 4 rfl) ?_
    refine lv_iload_n hx hb dX15_macroValue_12 rfl (lv_at hl 6 rfl) ?_
    refine lv_iconst (v := 1) hx hb dX15_macroValue_13 (by decide) ?_
    refine lv_isub hx hb dX15_macroValue_14 ?_
    refine lv_topi (fun x_449 ex_449 => ?_)
    obtain rfl : x_449 = (nI (tt - 1)) := ex_449.trans (pk_sub (a := tt) (b := 1) (by omega))
    refine pg_bald hx hb hK hP hL_g1 1 hFg rfl (vp_in_nI (by omega) (by omega)) dX15_macroValue_15 ?_
    refine lv_topi (fun x_450 ex_450 => ?_)
    obtain rfl : x_450 = fv (tt - 1) := ex_450.trans (congrArg fv (show ((nI (tt - 1)) : Int32).toNatClampNeg = (tt - 1) from nI_clamp (by omega)))
    refine lv_bipush (v := 114) hx hb dX15_macroValue_16 (by decide) ?_
    refine lv_icmp_ne (tgt := 32) hx hb dX15_macroValue_18 (by decide) (fun c_451 => ?_) (fun c_451 => ?_)
    ·
      refine lv_iconst (v := 0) hx hb dX15_macroValue_32 (by decide) ?_
      refine W.widen (k := 0) (n := 0) (by omega) (by omega) ?_
      exact jn_4 0 F (hFi) hO hR _ _ hP hD hS ls (lv_sub hl [0, 1, 2, 3, 4, 5, 6, 7, 8] rfl)
    ·
      refine lv_iload_n hx hb dX15_macroValue_21 rfl (lv_at hl 6 rfl) ?_
      refine lv_iconst (v := 1) hx hb dX15_macroValue_22 (by decide) ?_
      refine lv_isub hx hb dX15_macroValue_23 ?_
      refine lv_topi (fun x_452 ex_452 => ?_)
      obtain rfl : x_452 = (nI (tt - 1)) := ex_452.trans (pk_sub (a := tt) (b := 1) (by omega))
      refine lv_iload_n hx hb dX15_macroValue_24 rfl (lv_at hl 5 rfl) ?_
      refine lv_icmp_le (tgt := 32) hx hb dX15_macroValue_25 (by decide) (fun c_453 => ?_) (fun c_453 => ?_)
      ·
        have hi_454 : (tt - 1) ≤ a := (nI_leI (a := (tt - 1)) (b := a) (by omega) (by omega)).mp c_453
        refine lv_iconst (v := 0) hx hb dX15_macroValue_32 (by decide) ?_
        refine W.widen (k := 0) (n := 0) (by omega) (by omega) ?_
        exact jn_4 0 F (hFi) hO hR _ _ hP hD hS ls (lv_sub hl [0, 1, 2, 3, 4, 5, 6, 7, 8] rfl)
      ·
        have hi_455 : a < (tt - 1) := Nat.not_le.mp (fun q => c_453 ((nI_leI (a := (tt - 1)) (b := a) (by omega) (by omega)).mpr q))
        refine lv_iconst (v := 1) hx hb dX15_macroValue_28 (by decide) ?_
        refine lv_goto (tgt := 33) hx hb dX15_macroValue_29 (by decide) ?_
        refine W.widen (k := 0) (n := 0) (by omega) (by omega) ?_
        exact jn_4 1 F (hFi) hO hR _ _ hP hD hS ls (lv_sub hl [0, 1, 2, 3, 4, 5, 6, 7, 8] rfl)
set_option maxHeartbeats 4000000 in
set_option maxRecDepth 100000 in
theorem s_X15_expand (l : Launch) (dC : Nat → ClassId) (dI : Nat → Nat → Nat) (cs : Nat → ClassId) (ty : TyM) (gm : Nat → Nat → Nat) (L : List Nat) (sz : Nat) (F : Nat → va_E) (h0 : Nat) (ρ : Nat) (ta : Nat) (ou : Nat) (so : Nat) (ad : Nat) (na : Nat) (va : Nat) (lc : Nat) (dm : Nat) (tg : Nat) (pe : Nat) (ml : Nat) (bg : Nat) (co : Nat) (sp : Nat) (nb0 : Nat) (nb1 : Nat) (nb2 : Nat) (pl : Nat) (se : Nat) (ke : Nat) (wi : Nat) (hs : Nat) (mo : Nat) (po : Nat) (nu : Nat) (pr : Nat) (sq : Nat) (xa : Nat) (sa : Nat) (n64 : Nat) (m64 : Nat) (ex : Nat) (wh : Nat) (sd : Nat) (tk : Nat) (hd : Nat) (ak : Nat) (ho : Nat) (ot : Nat) (sx : Nat) (s0 : Nat) (s1 : Nat) (s2 : Nat) (nf : Nat) (bd : Nat) (mm : Nat) (zo : Nat) (ze : Nat) (zt : Nat) (rp : Nat) (g2 : Nat) (r2 : Nat) (g1 : Nat) (μ : Nat) (fv : Nat → Int32) (dd : Nat) (τ : Nat) (rd : Nat) (nd : Nat) (a : Nat) (tt : Nat) (hW : WTm ty gm L) (hL_h0 : h0 ∈ L) (hT_h0 : ty h0 = (15, ρ, [ta, ou, so, ad, na, va, lc, dm, tg, pe, ml, bg, co, sp, nb0, nb1, nb2, pl, se, ke, wi, hs, mo, po, nu, pr, sq, xa, sa, n64, m64, ex, wh, sd, tk, hd, ak, ho, ot, sx, s0, s1, s2, nf, bd, mm, zo, ze, zt])) (hL_pe : pe ∈ L) (hT_pe : ty pe = (14, ρ + 7, [rp, 100])) (hL_g2 : g2 ∈ L) (hT_g2 : ty g2 = (14, ρ + 6, [r2, 61])) (hL_g1 : g1 ∈ L) (hT_g1 : ty g1 = (17, μ, [700])) (hL_dd : dd ∈ L) (hT_dd : ty dd = (14, τ, [rd, nd])) (hFg : F g1 = .inl (cs 17, 700, .inl fv)) (hmu : ρ + 100 ≤ μ) (hat : a ≤ tt) (htn : tt ≤ 700) (hnd : nd ≤ 61) (hisd : ISD fv tt a) : Met l yX15_expand (.code yX15_expand cX15_expand 8 none :: tb) ({ frames := 4, cells := 0, slots := 0, locals := 102 }) (va_Pc [.ref h0, .ref g1, .int (nI a), .int (nI tt), .ref dd, .ref g2] (PTm (dC, dI) cs ty gm L F sz)) (va_Qv (fun _ : Unit => True) (fun _ T9 => ∃ F2 : Nat → va_E, QTm (dC, dI) cs ty gm L [ρ + 6, ρ + 7] F F2 (va_A (va_pl L F) sz) T9) (va_A (va_pl L F) sz)) 0 0 (va_A (va_pl L F) sz) := by
  refine Met.ofW (cc := cX15_expand) (maxL := 8) (ret := none) (by decide) rfl ?_
  intro p e s m args below meth c s₁ B hml hv
  obtain ⟨rfl, hsz, hP, hK, hD0, hE, hO⟩ := hv
  have hx := B.exec
  have hb := B.bytes
  have hr := B.returns
  have hts : ∀ w ∈ tb, w.before _ s = true := fun w h => atoms_spec (ws := .code yX15_expand cX15_expand 8 none :: tb) B.pre w (List.mem_cons_of_mem _ h)
  have hown : s.vm.findClass RX15 = some m.cls := findClass_of_methodNamed B.named
  have hlocks := B.notSynchronized
  subst hsz
  have hD := hD0.self (sz := s.heap.size)
  generalize hAe : va_A (va_pl L F) s.heap.size = A at hD ⊢
  have hA : ∀ q : Nat, s.heap.size ≤ q → A q := fun q h => by rw [← hAe]; exact Or.inr h
  have hS : va_S A s.heap s.heap [] := va_S.rf
  have hR : FR ty [ρ + 6, ρ + 7] F F := FR.refl
  have hl := lv_entry ([.ref h0, .ref g1, .int (nI a), .int (nI tt), .ref dd, .ref g2]) (n := 8) (Nat.le_of_ble_eq_true rfl)
  rw [lg_entry_eq]
  generalize (lg_sl ([.ref h0, .ref g1, .int (nI a), .int (nI tt), .ref dd, .ref g2]) ++ List.replicate (8 - (lg_sl ([.ref h0, .ref g1, .int (nI a), .int (nI tt), .ref dd, .ref g2])).length) Slot.unset).toArray = ls at hl ⊢
  have hl : lv_has ls 8 [(0, .ref h0), (1, .ref g1), (2, .int (nI a)), (3, .int (nI tt)), (4, .ref dd), (5, .ref g2)] := hl
  refine lv_aload hx hb dX15_expand_0 (lv_at hl 5 rfl) ?_
  refine lv_iconst (v := 0) hx hb dX15_expand_2 (by decide) ?_
  obtain ⟨hi_1, ht_2, hq_3⟩ := hW.txt hL_g2 hT_g2
  obtain ⟨z_4, hF_5, hq_6⟩ := hO.txt hL_g2 hT_g2
  refine pg_put (ci := 14) (v := .int 0) (ty := .int) (C := RX14) (T := TX14) (N := 2) hx hb hts it_14 tyX14 tyX14_ok nmX14 hown hK hP hD hS hL_g2 hF_5 rfl 1 (by decide) (hts _ kt_699) (fun _ h9 => h9) rfl (by decide +kernel) (rfl) (rfl) (Nat.le_of_ble_eq_true rfl) dX15_expand_3 (fun H locs hP hD hS => ?_)
  obtain ⟨F_7, he_8, hP, hD, hO, hR⟩ : ∃ G, G = va_up F g2 (.inr (14, [.ref r2, .int 0])) ∧ va_P (dC, dI) vwCl (va_pl L G) H ∧ va_D A (va_pl L G) ∧ OKm cs ty gm L G ∧ FR ty [ρ + 6, ρ + 7] F G := ⟨_, rfl, hP, hD, hO.up (shm.txt hT_g2 ⟨0, rfl, (by first | omega | assumption | exact Or.inl rfl | exact Or.inr rfl)⟩), hR.up hT_g2 (by simp)⟩
  have hF_9 : F_7 g2 = .inr (14, [.ref r2, .int 0]) := by rw [he_8]; exact up_self
  have hF_10 : F_7 g1 = .inl (cs 17, 700, .inl fv) := by rw [he_8, up_ne (ne_ty hT_g1 hT_g2 (by simp))]; exact hFg
  refine lv_iload_n hx hb dX15_expand_6 rfl (lv_at hl 2 rfl) ?_
  refine lv_istore (lv' := [(6, .int (nI a)), (0, .ref h0), (1, .ref g1), (2, .int (nI a)), (3, .int (nI tt)), (4, .ref dd), (5, .ref g2)]) hx hb dX15_expand_7 hl (by decide) rfl (fun ls hl => ?_)
  refine W.widen (k := 0) (n := 0) (by omega) (by omega) ?_
  have hF_12 : F g1 = .inl (cs 17, 700, .inl fv) := (hR g1 (by rw [hT_g1]; simp only [List.mem_cons, List.not_mem_nil, or_false]; omega)).symm.trans hF_10
  refine pl_loopm (σ := Nat × Nat) A (dC, dI) cs ty gm L [ρ + 6, ρ + 7] F 9 8 (fun (j, yy) => [(6, .int (nI j)), (0, .ref h0), (1, .ref g1), (2, .int (nI a)), (3, .int (nI tt)), (4, .ref dd), (5, .ref g2)]) (fun (j, yy) => []) (fun (j, yy) FF => j ≤ tt ∧ ISD fv tt j ∧ yy ≤ 61 ∧ FF g2 = .inr (14, [.ref r2, .int (nI yy)])) (fun (j, yy) => tt - j) ?_ (a, 0) F_7 (⟨by omega, hisd, by omega, hF_9⟩) hO hR _ _ hP hD hS ls (lv_sub hl [0, 1, 2, 3, 4, 5, 6] rfl)
  rintro ⟨j, yy⟩ F_11 hv_13 hO hR ih_14 H locs hP hD hS ls hl
  have hl : lv_has ls 8 [(6, .int (nI j)), (0, .ref h0), (1, .ref g1), (2, .int (nI a)), (3, .int (nI tt)), (4, .ref dd), (5, .ref g2)] := hl
  have hv_13 : j ≤ tt ∧ ISD fv tt j ∧ yy ≤ 61 ∧ F_11 g2 = .inr (14, [.ref r2, .int (nI yy)]) := hv_13
  refine W.eq (g2 := F0 m 9 ls []) rfl ?_
  have hF_15 : F_11 g1 = .inl (cs 17, 700, .inl fv) := (hR g1 (by rw [hT_g1]; simp only [List.mem_cons, List.not_mem_nil, or_false]; omega)).trans hF_12
  obtain ⟨hv1, hv2, hv3, hv4⟩ := hv_13
  refine lv_iload hx hb dX15_expand_9 (lv_at hl 0 rfl) ?_
  refine lv_iload_n hx hb dX15_expand_11 rfl (lv_at hl 4 rfl) ?_
  refine lv_icmp_ge (tgt := 168) hx hb dX15_expand_12 (by decide) (fun c_16 => ?_) (fun c_16 => ?_)
  ·
    have hi_17 : tt ≤ j := leN (N := tt) c_16
    refine W.widen (k := 0) (n := 0) (by omega) (by omega) ?_
    exact W.vret hx hb hr (fun t ht hWm => ⟨⟨(), rfl, trivial, ⟨F_11, QTm.mk ht hP hD hO hR⟩⟩, hS.F ht⟩) hS.2.2 dX15_expand_168
  ·
    have hi_18 : j < tt := ltN (N := tt) c_16
    refine lv_aload_n hx hb dX15_expand_15 rfl (lv_at hl 2 rfl) ?_
    refine lv_iload hx hb dX15_expand_16 (lv_at hl 0 rfl) ?_
    obtain ⟨hq_19, hq_20⟩ := hW.octs hL_g1 hT_g1
    refine pg_bald hx hb hK hP hL_g1 1 hF_15 rfl (vp_in_nI (by omega) (by omega)) dX15_expand_18 ?_
    refine lv_topi (fun x_21 ex_21 => ?_)
    obtain rfl : x_21 = fv j := ex_21.trans (congrArg fv (show ((nI j) : Int32).toNatClampNeg = j from nI_clamp (by omega)))
    refine lv_bipush (v := 37) hx hb dX15_expand_19 (by decide) ?_
    refine lv_icmp_eq (tgt := 36) hx hb dX15_expand_21 (by decide) (fun c_22 => ?_) (fun c_22 => ?_)
    ·
      obtain ⟨hm1, hm2⟩ := hv2.step (by omega) c_22
      have hmb := mac_b hm1
      refine lv_aload_n hx hb dX15_expand_36 rfl (lv_at hl 2 rfl) ?_
      refine lv_iload hx hb dX15_expand_37 (lv_at hl 0 rfl) ?_
      refine lv_iload_n hx hb dX15_expand_39 rfl (lv_at hl 4 rfl) ?_
      have hFc := pg_free hD hS hA
      refine va_calli (va_runS (As := [.ref g1, .int (nI j), .int (nI tt)]) (rest := []) ⟨hx, hb, hml, hown, hts⟩ (s_X15_macro l dC dI cs ty gm L H.size F_11 g1 μ 700 j tt hW hL_g1 hT_g1 (by first | omega | assumption) (by first | omega | assumption)) ⟨callB_of 3 hts (gi kt_690) rfl rfl rfl (hts _ kt_659) (hts _ kt_691) (by decide +kernel) ⟨Nat.le_of_ble_eq_true rfl, Nat.le_of_ble_eq_true rfl⟩, (hts _ kt_692)⟩ ⟨fun a U g mk q => ⟨q.1, PTm.calling q.2⟩, fun U hU hWm => ⟨rfl, PTm.mk hU hWm hP hK hD hE hO⟩⟩ rfl rfl hl.1 rfl (lv_room (Nat.le_of_ble_eq_true rfl)) dX15_expand_40 ⟨by show _ + 0 ≤ 0; omega, by show _ + 0 ≤ 0; omega⟩) hS (fun q _ h => hFc q h) hFc (fun r_23 u t H1 locs ht hvm hw hB hz1 hk1 hS => ?_)
      obtain ⟨F_24, hB1⟩ := hB
      obtain rfl : F_11 = F_24 := (funext (fun a => hB1.2.2.2 a List.not_mem_nil)).symm
      obtain ⟨hP, hD, hO, hR⟩ := QTm.back hB1 ht hFc hR (fun q h => absurd h List.not_mem_nil)
      generalize H1 = H at hP hS ⊢
      have hw : r_23 = nI (mac (gA (F_11 g1)) j tt) := hw
      subst hw
      refine lv_topi (fun x9 ex9 => ?_)
      obtain rfl : x9 = nI (mac fv j tt) := ex9.trans (by rw [gA_fun hF_15])
      refine lv_istore (lv' := [(7, .int (nI (mac fv j tt))), (6, .int (nI j)), (0, .ref h0), (1, .ref g1), (2, .int (nI a)), (3, .int (nI tt)), (4, .ref dd), (5, .ref g2)]) hx hb dX15_expand_43 hl (by decide) rfl (fun ls hl => ?_)
      have hF_27 : F g1 = .inl (cs 17, 700, .inl fv) := (hR g1 (by rw [hT_g1]; simp only [List.mem_cons, List.not_mem_nil, or_false]; omega)).symm.trans hF_15
      refine W.widen (k := 0) (n := 0) (by omega) (by omega) ?_
      refine pl_cutm (σ := Nat) A (dC, dI) cs ty gm L [ρ + 6, ρ + 7] F 128 8 (fun y5 => [(7, .int (nI (mac fv j tt))), (6, .int (nI j)), (0, .ref h0), (1, .ref g1), (2, .int (nI a)), (3, .int (nI tt)), (4, .ref dd), (5, .ref g2)]) (fun y5 => []) (fun y5 FF => y5 ≤ 61 ∧ FF g2 = .inr (14, [.ref r2, .int (nI y5)])) ?_ (fun jn_25 => ?_)
      ·
        rintro y5 F_26 hv_28 hO hR H locs hP hD hS ls hl
        have hl : lv_has ls 8 [(7, .int (nI (mac fv j tt))), (6, .int (nI j)), (0, .ref h0), (1, .ref g1), (2, .int (nI a)), (3, .int (nI tt)), (4, .ref dd), (5, .ref g2)] := hl
        have hv_28 : y5 ≤ 61 ∧ F_26 g2 = .inr (14, [.ref r2, .int (nI y5)]) := hv_28
        refine W.eq (g2 := F0 m 128 ls []) rfl ?_
        have hF_29 : F_26 g1 = .inl (cs 17, 700, .inl fv) := (hR g1 (by rw [hT_g1]; simp only [List.mem_cons, List.not_mem_nil, or_false]; omega)).trans hF_27
        obtain ⟨hp1, hp2⟩ := hv_28
        have hF_32 : F g1 = .inl (cs 17, 700, .inl fv) := (hR g1 (by rw [hT_g1]; simp only [List.mem_cons, List.not_mem_nil, or_false]; omega)).symm.trans hF_29
        refine W.widen (k := 0) (n := 0) (by omega) (by omega) ?_
        refine pl_cutm (σ := Nat) A (dC, dI) cs ty gm L [ρ + 6, ρ + 7] F 153 8 (fun y6 => [(7, .int (nI (mac fv j tt))), (6, .int (nI j)), (0, .ref h0), (1, .ref g1), (2, .int (nI a)), (3, .int (nI tt)), (4, .ref dd), (5, .ref g2)]) (fun y6 => []) (fun y6 FF => y6 ≤ 61 ∧ FF g2 = .inr (14, [.ref r2, .int (nI y6)])) ?_ (fun jn_30 => ?_)
        ·
          rintro y6 F_31 hv_33 hO hR H locs hP hD hS ls hl
          have hl : lv_has ls 8 [(7, .int (nI (mac fv j tt))), (6, .int (nI j)), (0, .ref h0), (1, .ref g1), (2, .int (nI a)), (3, .int (nI tt)), (4, .ref dd), (5, .ref g2)] := hl
          have hv_33 : y6 ≤ 61 ∧ F_31 g2 = .inr (14, [.ref r2, .int (nI y6)]) := hv_33
          refine W.eq (g2 := F0 m 153 ls []) rfl ?_
          have hF_34 : F_31 g1 = .inl (cs 17, 700, .inl fv) := (hR g1 (by rw [hT_g1]; simp only [List.mem_cons, List.not_mem_nil, or_false]; omega)).trans hF_32
          obtain ⟨hp3, hp4⟩ := hv_33
          refine lv_iload hx hb dX15_expand_153 (lv_at hl 1 rfl) ?_
          refine lv_iload hx hb dX15_expand_155 (lv_at hl 0 rfl) ?_
          refine lv_iconst (v := 1) hx hb dX15_expand_157 (by decide) ?_
          refine lv_isub hx hb dX15_expand_158 ?_
          refine lv_topi (fun x_35 ex_35 => ?_)
          obtain rfl : x_35 = (nI ((mac fv j tt) - 1)) := ex_35.trans (pk_sub (a := (mac fv j tt)) (b := 1) (by omega))
          refine lv_iadd hx hb dX15_expand_159 ?_
          refine lv_topi (fun x_36 ex_36 => ?_)
          obtain rfl : x_36 = (nI (j + ((mac fv j tt) - 1))) := ex_36.trans (nI_add j ((mac fv j tt) - 1))
          refine lv_istore (lv' := [(6, .int (nI (j + ((mac fv j tt) - 1)))), (7, .int (nI (mac fv j tt))), (0, .ref h0), (1, .ref g1), (2, .int (nI a)), (3, .int (nI tt)), (4, .ref dd), (5, .ref g2)]) hx hb dX15_expand_160 hl (by decide) rfl (fun ls hl => ?_)
          refine lv_iinc (v := (nI ((j + ((mac fv j tt) - 1)) + 1))) (lv' := [(6, .int (nI ((j + ((mac fv j tt) - 1)) + 1))), (7, .int (nI (mac fv j tt))), (0, .ref h0), (1, .ref g1), (2, .int (nI a)), (3, .int (nI tt)), (4, .ref dd), (5, .ref g2)]) hx hb dX15_expand_162 hl (k := 0) rfl (nI_1 _) (by decide) rfl (fun ls hl => ?_)
          refine lv_goto (tgt := 9) hx hb dX15_expand_165 (by decide) ?_
          refine W.widen (k := 0) (n := 0) (by omega) (by omega) ?_
          exact ih_14 (((j + ((mac fv j tt) - 1)) + 1), y6) F_31 (⟨by omega, (by rw [show j + (mac fv j tt - 1) + 1 = j + mac fv j tt from by omega]; exact hm2), by omega, hp4⟩) (by show tt - ((j + ((mac fv j tt) - 1)) + 1) < tt - j; omega) hO hR _ _ hP hD hS ls (lv_sub hl [0, 2, 3, 4, 5, 6, 7] rfl)
        ·
          refine lv_aload_n hx hb dX15_expand_128 rfl (lv_at hl 3 rfl) ?_
          refine lv_iload hx hb dX15_expand_129 (lv_at hl 1 rfl) ?_
          refine lv_iconst (v := 1) hx hb dX15_expand_131 (by decide) ?_
          refine lv_iadd hx hb dX15_expand_132 ?_
          refine lv_topi (fun x_37 ex_37 => ?_)
          obtain rfl : x_37 = (nI (j + 1)) := ex_37.trans (nI_add j 1)
          refine pg_bald hx hb hK hP hL_g1 1 hF_29 rfl (vp_in_nI (by omega) (by omega)) dX15_expand_133 ?_
          refine lv_topi (fun x_38 ex_38 => ?_)
          obtain rfl : x_38 = fv (j + 1) := ex_38.trans (congrArg fv (show ((nI (j + 1)) : Int32).toNatClampNeg = (j + 1) from nI_clamp (by omega)))
          refine lv_bipush (v := 45) hx hb dX15_expand_134 (by decide) ?_
          refine lv_icmp_ne (tgt := 153) hx hb dX15_expand_136 (by decide) (fun c_39 => ?_) (fun c_39 => ?_)
          ·
            refine W.widen (k := 0) (n := 0) (by omega) (by omega) ?_
            exact jn_30 y5 F_26 (⟨by omega, hp2⟩) hO hR _ _ hP hD hS ls (lv_sub hl [0, 1, 2, 3, 4, 5, 6, 7] rfl)
          ·
            refine lv_aload hx hb dX15_expand_139 (lv_at hl 7 rfl) ?_
            refine lv_bipush (v := 50) hx hb dX15_expand_141 (by decide) ?_
            have hFc := pg_free hD hS hA
            refine va_callv (va_runS (As := [.ref g2, .int 50]) (rest := []) ⟨hx, hb, hml, hown, hts⟩ (s_X15_put l dC dI cs ty gm L H.size F_26 g2 (ρ + 6) r2 61 y5 50 hW hL_g2 hT_g2 hp2 (by first | omega | assumption) (by first | omega | assumption)) ⟨callB_of 2 hts (gi kt_759) rfl rfl rfl (hts _ kt_659) (hts _ kt_760) (by decide +kernel) ⟨Nat.le_of_ble_eq_true rfl, Nat.le_of_ble_eq_true rfl⟩, (hts _ kt_761)⟩ ⟨fun a U g mk q => ⟨q.1, PTm.calling q.2⟩, fun U hU hWm => ⟨rfl, PTm.mk hU hWm hP hK hD hE hO⟩⟩ rfl rfl hl.1 rfl (lv_room (Nat.le_of_ble_eq_true rfl)) dX15_expand_143 ⟨by show _ + 0 ≤ 0; omega, by show _ + 0 ≤ 0; omega⟩) hS (fun q _ h => hFc q h) hFc (fun u t H1 locs ht hvm hw hB hz1 hk1 hS => ?_)
            obtain ⟨F_41, z2_42, hB1, hq_43, hq_44⟩ := hB
            obtain ⟨hP, hD, hO, hR⟩ := QTm.back hB1 ht hFc hR (fun q h => by simp only [List.mem_cons, List.not_mem_nil, or_false] at h ⊢; omega)
            have hF_45 : F_41 g1 = .inl (cs 17, 700, .inl fv) := (hB1.2.2.2 g1 (by rw [hT_g1]; simp only [List.mem_cons, List.not_mem_nil, or_false]; omega)).trans hF_29
            generalize H1 = H at hP hS ⊢
            refine lv_aload hx hb dX15_expand_146 (lv_at hl 7 rfl) ?_
            refine lv_bipush (v := 48) hx hb dX15_expand_148 (by decide) ?_
            have hFc := pg_free hD hS hA
            refine va_callv (va_runS (As := [.ref g2, .int 48]) (rest := []) ⟨hx, hb, hml, hown, hts⟩ (s_X15_put l dC dI cs ty gm L H.size F_41 g2 (ρ + 6) r2 61 z2_42 48 hW hL_g2 hT_g2 hq_43 (by first | omega | assumption) (by first | omega | assumption)) ⟨callB_of 2 hts (gi kt_759) rfl rfl rfl (hts _ kt_659) (hts _ kt_760) (by decide +kernel) ⟨Nat.le_of_ble_eq_true rfl, Nat.le_of_ble_eq_true rfl⟩, (hts _ kt_761)⟩ ⟨fun a U g mk q => ⟨q.1, PTm.calling q.2⟩, fun U hU hWm => ⟨rfl, PTm.mk hU hWm hP hK hD hE hO⟩⟩ rfl rfl hl.1 rfl (lv_room (Nat.le_of_ble_eq_true rfl)) dX15_expand_150 ⟨by show _ + 0 ≤ 0; omega, by show _ + 0 ≤ 0; omega⟩) hS (fun q _ h => hFc q h) hFc (fun u t H1 locs ht hvm hw hB hz1 hk1 hS => ?_)
            obtain ⟨F_47, z2_48, hB1, hq_49, hq_50⟩ := hB
            obtain ⟨hP, hD, hO, hR⟩ := QTm.back hB1 ht hFc hR (fun q h => by simp only [List.mem_cons, List.not_mem_nil, or_false] at h ⊢; omega)
            have hF_51 : F_47 g1 = .inl (cs 17, 700, .inl fv) := (hB1.2.2.2 g1 (by rw [hT_g1]; simp only [List.mem_cons, List.not_mem_nil, or_false]; omega)).trans hF_45
            generalize H1 = H at hP hS ⊢
            refine W.widen (k := 0) (n := 0) (by omega) (by omega) ?_
            exact jn_30 z2_48 F_47 (⟨by omega, hq_49⟩) hO hR _ _ hP hD hS ls (lv_sub hl [0, 1, 2, 3, 4, 5, 6, 7] rfl)
      ·
        refine lv_aload_n hx hb dX15_expand_45 rfl (lv_at hl 3 rfl) ?_
        refine lv_iload hx hb dX15_expand_46 (lv_at hl 1 rfl) ?_
        refine lv_iconst (v := 1) hx hb dX15_expand_48 (by decide) ?_
        refine lv_iadd hx hb dX15_expand_49 ?_
        refine lv_topi (fun x_52 ex_52 => ?_)
        obtain rfl : x_52 = (nI (j + 1)) := ex_52.trans (nI_add j 1)
        refine pg_bald hx hb hK hP hL_g1 1 hF_15 rfl (vp_in_nI (by omega) (by omega)) dX15_expand_50 ?_
        refine lv_topi (fun x_53 ex_53 => ?_)
        obtain rfl : x_53 = fv (j + 1) := ex_53.trans (congrArg fv (show ((nI (j + 1)) : Int32).toNatClampNeg = (j + 1) from nI_clamp (by omega)))
        refine lv_bipush (v := 37) hx hb dX15_expand_51 (by decide) ?_
        refine lv_icmp_ne (tgt := 66) hx hb dX15_expand_53 (by decide) (fun c_54 => ?_) (fun c_54 => ?_)
        ·
          refine lv_aload_n hx hb dX15_expand_66 rfl (lv_at hl 3 rfl) ?_
          refine lv_iload hx hb dX15_expand_67 (lv_at hl 1 rfl) ?_
          refine lv_iconst (v := 1) hx hb dX15_expand_69 (by decide) ?_
          refine lv_iadd hx hb dX15_expand_70 ?_
          refine lv_topi (fun x_55 ex_55 => ?_)
          obtain rfl : x_55 = (nI (j + 1)) := ex_55.trans (nI_add j 1)
          refine pg_bald hx hb hK hP hL_g1 1 hF_15 rfl (vp_in_nI (by omega) (by omega)) dX15_expand_71 ?_
          refine lv_topi (fun x_56 ex_56 => ?_)
          obtain rfl : x_56 = fv (j + 1) := ex_56.trans (congrArg fv (show ((nI (j + 1)) : Int32).toNatClampNeg = (j + 1) from nI_clamp (by omega)))
          refine lv_bipush (v := 95) hx hb dX15_expand_72 (by decide) ?_
          refine lv_icmp_ne (tgt := 87) hx hb dX15_expand_74 (by decide) (fun c_57 => ?_) (fun c_57 => ?_)
          ·
            refine lv_aload_n hx hb dX15_expand_87 rfl (lv_at hl 3 rfl) ?_
            refine lv_iload hx hb dX15_expand_88 (lv_at hl 1 rfl) ?_
            refine lv_iconst (v := 1) hx hb dX15_expand_90 (by decide) ?_
            refine lv_iadd hx hb dX15_expand_91 ?_
            refine lv_topi (fun x_58 ex_58 => ?_)
            obtain rfl : x_58 = (nI (j + 1)) := ex_58.trans (nI_add j 1)
            refine pg_bald hx hb hK hP hL_g1 1 hF_15 rfl (vp_in_nI (by omega) (by omega)) dX15_expand_92 ?_
            refine lv_topi (fun x_59 ex_59 => ?_)
            obtain rfl : x_59 = fv (j + 1) := ex_59.trans (congrArg fv (show ((nI (j + 1)) : Int32).toNatClampNeg = (j + 1) from nI_clamp (by omega)))
            refine lv_bipush (v := 45) hx hb dX15_expand_93 (by decide) ?_
            refine lv_icmp_ne (tgt := 108) hx hb dX15_expand_95 (by decide) (fun c_60 => ?_) (fun c_60 => ?_)
            ·
              have hm4 : 4 ≤ mac fv j tt := hmb.2.2.2.resolve_left (fun h => h.elim c_54 (fun h => h.elim c_57 c_60))
              refine lv_aload_n hx hb dX15_expand_108 rfl (lv_at hl 2 rfl) ?_
              refine lv_aload_n hx hb dX15_expand_109 rfl (lv_at hl 3 rfl) ?_
              refine lv_iload hx hb dX15_expand_110 (lv_at hl 1 rfl) ?_
              refine lv_iconst (v := 2) hx hb dX15_expand_112 (by decide) ?_
              refine lv_iadd hx hb dX15_expand_113 ?_
              refine lv_topi (fun x_61 ex_61 => ?_)
              obtain rfl : x_61 = (nI (j + 2)) := ex_61.trans (nI_add j 2)
              refine lv_iload hx hb dX15_expand_114 (lv_at hl 1 rfl) ?_
              refine lv_iload hx hb dX15_expand_116 (lv_at hl 0 rfl) ?_
              refine lv_iadd hx hb dX15_expand_118 ?_
              refine lv_topi (fun x_62 ex_62 => ?_)
              obtain rfl : x_62 = (nI (j + (mac fv j tt))) := ex_62.trans (nI_add j (mac fv j tt))
              refine lv_iconst (v := 1) hx hb dX15_expand_119 (by decide) ?_
              refine lv_isub hx hb dX15_expand_120 ?_
              refine lv_topi (fun x_63 ex_63 => ?_)
              obtain rfl : x_63 = (nI ((j + (mac fv j tt)) - 1)) := ex_63.trans (pk_sub (a := (j + (mac fv j tt))) (b := 1) (by omega))
              refine lv_aload hx hb dX15_expand_121 (lv_at hl 6 rfl) ?_
              refine lv_aload hx hb dX15_expand_123 (lv_at hl 7 rfl) ?_
              obtain ⟨hq_85, hq_86, hq_87, hq_88, hq_89, hgO, hgA, hgB⟩ := hW.sc hL_h0 hT_h0
              obtain ⟨hi_90, ht_91, hq_92⟩ := hW.txt hL_pe hT_pe
              obtain ⟨hi_93, ht_94, hq_95⟩ := hW.txt hL_dd hT_dd
              have hFc := pg_free hD hS hA
              obtain ⟨v11_96, v12_97, v14_98, v15_99, v17_100, v18_101, v19_102, v20_103, v21_104, v22_105, v33_106, v52_107, v53_108, v54_109, hF_110, hq_111, hq_112, hq_113, hq_114⟩ := hO.mod hL_h0 hT_h0
              refine va_callv (va_runV (As := [.ref g1, .int (nI (j + 2)), .int (nI ((j + (mac fv j tt)) - 1)), .ref dd, .ref g2]) (rest := []) ⟨hx, hb, hml, hown, hts⟩ (s_X15_macroValue l dC dI cs ty gm L H.size F_11 h0 ρ ta ou so ad na va lc dm tg pe ml bg co sp nb0 nb1 nb2 pl se ke wi hs mo po nu pr sq xa sa n64 m64 ex wh sd tk hd ak ho ot sx s0 s1 s2 nf bd mm zo ze zt rp g2 r2 g1 μ fv dd τ rd nd (j + 2) ((j + (mac fv j tt)) - 1) yy hW hL_h0 hT_h0 hL_pe hT_pe hL_g2 hT_g2 hL_g1 hT_g1 hL_dd hT_dd hF_15 (by first | omega | assumption) hv4 (by first | omega | assumption) (by first | omega | assumption) (by first | omega | assumption) (by first | omega | assumption)) ⟨callB_of 5 hts (gi kt_769) rfl rfl rfl (hts _ kt_659) (hts _ kt_770) (by decide +kernel) ⟨Nat.le_of_ble_eq_true rfl, Nat.le_of_ble_eq_true rfl⟩, (hts _ kt_771), (hts _ kt_772)⟩ ⟨fun a U g mk q => ⟨q.1, PTm.calling q.2⟩, pg_recv hK hP hL_h0 hF_110 (q := (RX15, TX15, 59)) rfl, fun U hU hWm => ⟨rfl, PTm.mk hU hWm hP hK hD hE hO⟩⟩ rfl rfl hl.1 rfl (lv_room (Nat.le_of_ble_eq_true rfl)) dX15_expand_125 ⟨by show _ + 0 ≤ 0; omega, by show _ + 0 ≤ 0; omega⟩) hS (fun q _ h => hFc q h) hFc (fun u t H1 locs ht hvm hw hB hz1 hk1 hS => ?_)
              obtain ⟨F_116, y2_117, hB1, hq_118, hq_119⟩ := hB
              obtain ⟨hP, hD, hO, hR⟩ := QTm.back hB1 ht hFc hR (fun q h => by simp only [List.mem_cons, List.not_mem_nil, or_false] at h ⊢; omega)
              have hF_120 : F_116 g1 = .inl (cs 17, 700, .inl fv) := (hB1.2.2.2 g1 (by rw [hT_g1]; simp only [List.mem_cons, List.not_mem_nil, or_false]; omega)).trans hF_15
              have hF_121 : F_116 h0 = .inr (15, (.ref ta) :: (.int (nI zt)) :: (.int (nI zo)) :: (.int (nI ze)) :: (.ref ou) :: (.ref so) :: (.ref ad) :: (.ref na) :: (.ref va) :: (.ref lc) :: (.ref dm) :: (.int v11_96) :: (.int v12_97) :: (.ref tg) :: (.int v14_98) :: (.int v15_99) :: (.ref pe) :: (.int v17_100) :: (.int v18_101) :: (.int v19_102) :: (.int v20_103) :: (.int v21_104) :: (.int v22_105) :: (.ref ml) :: (.ref bg) :: (.ref co) :: (.ref sp) :: (.ref nb0) :: (.ref nb1) :: (.ref nb2) :: (.int (nI nf)) :: (.int (nI bd)) :: (.int (nI mm)) :: (.int v33_106) :: (.ref pl) :: (.ref se) :: (.ref ke) :: (.ref wi) :: (.ref hs) :: (.ref mo) :: (.ref po) :: (.ref nu) :: (.ref pr) :: (.ref sq) :: (.ref xa) :: (.ref sa) :: (.ref n64) :: (.ref m64) :: (.ref ex) :: (.ref wh) :: (.ref sd) :: (.ref tk) :: (.int v52_107) :: (.int v53_108) :: (.int v54_109) :: (.ref hd) :: (.ref ak) :: (.ref ho) :: (.ref ot) :: []) := (hB1.2.2.2 h0 (by rw [hT_h0]; simp)).trans hF_110
              generalize H1 = H at hP hS ⊢
              refine W.widen (k := 0) (n := 0) (by omega) (by omega) ?_
              exact jn_25 y2_117 F_116 (⟨by omega, hq_118⟩) hO hR _ _ hP hD hS ls (lv_sub hl [0, 1, 2, 3, 4, 5, 6, 7] rfl)
            ·
              refine lv_aload hx hb dX15_expand_98 (lv_at hl 7 rfl) ?_
              refine lv_bipush (v := 37) hx hb dX15_expand_100 (by decide) ?_
              have hFc := pg_free hD hS hA
              refine va_callv (va_runS (As := [.ref g2, .int 37]) (rest := []) ⟨hx, hb, hml, hown, hts⟩ (s_X15_put l dC dI cs ty gm L H.size F_11 g2 (ρ + 6) r2 61 yy 37 hW hL_g2 hT_g2 hv4 (by first | omega | assumption) (by first | omega | assumption)) ⟨callB_of 2 hts (gi kt_759) rfl rfl rfl (hts _ kt_659) (hts _ kt_760) (by decide +kernel) ⟨Nat.le_of_ble_eq_true rfl, Nat.le_of_ble_eq_true rfl⟩, (hts _ kt_761)⟩ ⟨fun a U g mk q => ⟨q.1, PTm.calling q.2⟩, fun U hU hWm => ⟨rfl, PTm.mk hU hWm hP hK hD hE hO⟩⟩ rfl rfl hl.1 rfl (lv_room (Nat.le_of_ble_eq_true rfl)) dX15_expand_102 ⟨by show _ + 0 ≤ 0; omega, by show _ + 0 ≤ 0; omega⟩) hS (fun q _ h => hFc q h) hFc (fun u t H1 locs ht hvm hw hB hz1 hk1 hS => ?_)
              obtain ⟨F_123, z2_124, hB1, hq_125, hq_126⟩ := hB
              obtain ⟨hP, hD, hO, hR⟩ := QTm.back hB1 ht hFc hR (fun q h => by simp only [List.mem_cons, List.not_mem_nil, or_false] at h ⊢; omega)
              have hF_127 : F_123 g1 = .inl (cs 17, 700, .inl fv) := (hB1.2.2.2 g1 (by rw [hT_g1]; simp only [List.mem_cons, List.not_mem_nil, or_false]; omega)).trans hF_15
              generalize H1 = H at hP hS ⊢
              refine lv_goto (tgt := 128) hx hb dX15_expand_105 (by decide) ?_
              refine W.widen (k := 0) (n := 0) (by omega) (by omega) ?_
              exact jn_25 z2_124 F_123 (⟨by omega, hq_125⟩) hO hR _ _ hP hD hS ls (lv_sub hl [0, 1, 2, 3, 4, 5, 6, 7] rfl)
          ·
            refine lv_aload hx hb dX15_expand_77 (lv_at hl 7 rfl) ?_
            refine lv_bipush (v := 32) hx hb dX15_expand_79 (by decide) ?_
            have hFc := pg_free hD hS hA
            refine va_callv (va_runS (As := [.ref g2, .int 32]) (rest := []) ⟨hx, hb, hml, hown, hts⟩ (s_X15_put l dC dI cs ty gm L H.size F_11 g2 (ρ + 6) r2 61 yy 32 hW hL_g2 hT_g2 hv4 (by first | omega | assumption) (by first | omega | assumption)) ⟨callB_of 2 hts (gi kt_759) rfl rfl rfl (hts _ kt_659) (hts _ kt_760) (by decide +kernel) ⟨Nat.le_of_ble_eq_true rfl, Nat.le_of_ble_eq_true rfl⟩, (hts _ kt_761)⟩ ⟨fun a U g mk q => ⟨q.1, PTm.calling q.2⟩, fun U hU hWm => ⟨rfl, PTm.mk hU hWm hP hK hD hE hO⟩⟩ rfl rfl hl.1 rfl (lv_room (Nat.le_of_ble_eq_true rfl)) dX15_expand_81 ⟨by show _ + 0 ≤ 0; omega, by show _ + 0 ≤ 0; omega⟩) hS (fun q _ h => hFc q h) hFc (fun u t H1 locs ht hvm hw hB hz1 hk1 hS => ?_)
            obtain ⟨F_129, z2_130, hB1, hq_131, hq_132⟩ := hB
            obtain ⟨hP, hD, hO, hR⟩ := QTm.back hB1 ht hFc hR (fun q h => by simp only [List.mem_cons, List.not_mem_nil, or_false] at h ⊢; omega)
            have hF_133 : F_129 g1 = .inl (cs 17, 700, .inl fv) := (hB1.2.2.2 g1 (by rw [hT_g1]; simp only [List.mem_cons, List.not_mem_nil, or_false]; omega)).trans hF_15
            generalize H1 = H at hP hS ⊢
            refine lv_goto (tgt := 128) hx hb dX15_expand_84 (by decide) ?_
            refine W.widen (k := 0) (n := 0) (by omega) (by omega) ?_
            exact jn_25 z2_130 F_129 (⟨by omega, hq_131⟩) hO hR _ _ hP hD hS ls (lv_sub hl [0, 1, 2, 3, 4, 5, 6, 7] rfl)
        ·
          refine lv_aload hx hb dX15_expand_56 (lv_at hl 7 rfl) ?_
          refine lv_bipush (v := 37) hx hb dX15_expand_58 (by decide) ?_
          have hFc := pg_free hD hS hA
          refine va_callv (va_runS (As := [.ref g2, .int 37]) (rest := []) ⟨hx, hb, hml, hown, hts⟩ (s_X15_put l dC dI cs ty gm L H.size F_11 g2 (ρ + 6) r2 61 yy 37 hW hL_g2 hT_g2 hv4 (by first | omega | assumption) (by first | omega | assumption)) ⟨callB_of 2 hts (gi kt_759) rfl rfl rfl (hts _ kt_659) (hts _ kt_760) (by decide +kernel) ⟨Nat.le_of_ble_eq_true rfl, Nat.le_of_ble_eq_true rfl⟩, (hts _ kt_761)⟩ ⟨fun a U g mk q => ⟨q.1, PTm.calling q.2⟩, fun U hU hWm => ⟨rfl, PTm.mk hU hWm hP hK hD hE hO⟩⟩ rfl rfl hl.1 rfl (lv_room (Nat.le_of_ble_eq_true rfl)) dX15_expand_60 ⟨by show _ + 0 ≤ 0; omega, by show _ + 0 ≤ 0; omega⟩) hS (fun q _ h => hFc q h) hFc (fun u t H1 locs ht hvm hw hB hz1 hk1 hS => ?_)
          obtain ⟨F_135, z2_136, hB1, hq_137, hq_138⟩ := hB
          obtain ⟨hP, hD, hO, hR⟩ := QTm.back hB1 ht hFc hR (fun q h => by simp only [List.mem_cons, List.not_mem_nil, or_false] at h ⊢; omega)
          have hF_139 : F_135 g1 = .inl (cs 17, 700, .inl fv) := (hB1.2.2.2 g1 (by rw [hT_g1]; simp only [List.mem_cons, List.not_mem_nil, or_false]; omega)).trans hF_15
          generalize H1 = H at hP hS ⊢
          refine lv_goto (tgt := 128) hx hb dX15_expand_63 (by decide) ?_
          refine W.widen (k := 0) (n := 0) (by omega) (by omega) ?_
          exact jn_25 z2_136 F_135 (⟨by omega, hq_137⟩) hO hR _ _ hP hD hS ls (lv_sub hl [0, 1, 2, 3, 4, 5, 6, 7] rfl)
    ·
      refine lv_aload hx hb dX15_expand_24 (lv_at hl 6 rfl) ?_
      refine lv_aload_n hx hb dX15_expand_26 rfl (lv_at hl 2 rfl) ?_
      refine lv_iload hx hb dX15_expand_27 (lv_at hl 0 rfl) ?_
      refine pg_bald hx hb hK hP hL_g1 1 hF_15 rfl (vp_in_nI (by omega) (by omega)) dX15_expand_29 ?_
      refine lv_topi (fun x_140 ex_140 => ?_)
      obtain rfl : x_140 = fv j := ex_140.trans (congrArg fv (show ((nI j) : Int32).toNatClampNeg = j from nI_clamp (by omega)))
      have hFc := pg_free hD hS hA
      refine va_callv (va_runS (As := [.ref g2, .int (fv j)]) (rest := []) ⟨hx, hb, hml, hown, hts⟩ (s_X15_put l dC dI cs ty gm L H.size F_11 g2 (ρ + 6) r2 61 yy (fv j) hW hL_g2 hT_g2 hv4 (by first | omega | assumption) (by first | omega | assumption)) ⟨callB_of 2 hts (gi kt_759) rfl rfl rfl (hts _ kt_659) (hts _ kt_760) (by decide +kernel) ⟨Nat.le_of_ble_eq_true rfl, Nat.le_of_ble_eq_true rfl⟩, (hts _ kt_761)⟩ ⟨fun a U g mk q => ⟨q.1, PTm.calling q.2⟩, fun U hU hWm => ⟨rfl, PTm.mk hU hWm hP hK hD hE hO⟩⟩ rfl rfl hl.1 rfl (lv_room (Nat.le_of_ble_eq_true rfl)) dX15_expand_30 ⟨by show _ + 0 ≤ 0; omega, by show _ + 0 ≤ 0; omega⟩) hS (fun q _ h => hFc q h) hFc (fun u t H1 locs ht hvm hw hB hz1 hk1 hS => ?_)
      obtain ⟨F_142, z2_143, hB1, hq_144, hq_145⟩ := hB
      obtain ⟨hP, hD, hO, hR⟩ := QTm.back hB1 ht hFc hR (fun q h => by simp only [List.mem_cons, List.not_mem_nil, or_false] at h ⊢; omega)
      have hF_146 : F_142 g1 = .inl (cs 17, 700, .inl fv) := (hB1.2.2.2 g1 (by rw [hT_g1]; simp only [List.mem_cons, List.not_mem_nil, or_false]; omega)).trans hF_15
      generalize H1 = H at hP hS ⊢
      refine lv_goto (tgt := 162) hx hb dX15_expand_33 (by decide) ?_
      refine lv_iinc (v := (nI (j + 1))) (lv' := [(6, .int (nI (j + 1))), (0, .ref h0), (1, .ref g1), (2, .int (nI a)), (3, .int (nI tt)), (4, .ref dd), (5, .ref g2)]) hx hb dX15_expand_162 hl (k := 0) rfl (nI_1 _) (by decide) rfl (fun ls hl => ?_)
      refine lv_goto (tgt := 9) hx hb dX15_expand_165 (by decide) ?_
      refine W.widen (k := 0) (n := 0) (by omega) (by omega) ?_
      exact ih_14 ((j + 1), z2_143) F_142 (⟨by omega, ISD.next hv2 (by omega) c_22, by omega, hq_144⟩) (by show tt - (j + 1) < tt - j; omega) hO hR _ _ hP hD hS ls (lv_sub hl [0, 1, 2, 3, 4, 5, 6] rfl)
