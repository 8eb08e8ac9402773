theorem dX15_expand_0 : decode cX15_expand 0 = .ok (.aload 5, 2) := by decide +kernel
theorem dX15_expand_2 : decode cX15_expand 2 = .ok (.iconst 0, 1) := by decide +kernel
theorem dX15_expand_3 : decode cX15_expand 3 = .ok (.putfield 190, 3) := by decide +kernel
theorem dX15_expand_6 : decode cX15_expand 6 = .ok (.iload_n 2, 1) := by decide +kernel
theorem dX15_expand_7 : decode cX15_expand 7 = .ok (.istore 6, 2) := by decide +kernel
theorem dX15_expand_9 : decode cX15_expand 9 = .ok (.iload 6, 2) := by decide +kernel
theorem dX15_expand_11 : decode cX15_expand 11 = .ok (.iload_n 3, 1) := by decide +kernel
theorem dX15_expand_12 : decode cX15_expand 12 = .ok (.if_icmp .ge 156, 3) := by decide +kernel
theorem dX15_expand_15 : decode cX15_expand 15 = .ok (.aload_n 1, 1) := by decide +kernel
theorem dX15_expand_16 : decode cX15_expand 16 = .ok (.iload 6, 2) := by decide +kernel
theorem dX15_expand_18 : decode cX15_expand 18 = .ok (.baload, 1) := by decide +kernel
theorem dX15_expand_19 : decode cX15_expand 19 = .ok (.bipush 37, 2) := by decide +kernel
theorem dX15_expand_21 : decode cX15_expand 21 = .ok (.if_icmp .eq 15, 3) := by decide +kernel
theorem dX15_expand_24 : decode cX15_expand 24 = .ok (.aload 5, 2) := by decide +kernel
theorem dX15_expand_26 : decode cX15_expand 26 = .ok (.aload_n 1, 1) := by decide +kernel
theorem dX15_expand_27 : decode cX15_expand 27 = .ok (.iload 6, 2) := by decide +kernel
theorem dX15_expand_29 : decode cX15_expand 29 = .ok (.baload, 1) := by decide +kernel
theorem dX15_expand_30 : decode cX15_expand 30 = .ok (.invokestatic 284, 3) := by decide +kernel
theorem dX15_expand_33 : decode cX15_expand 33 = .ok (.goto 129, 3) := by decide +kernel
theorem dX15_expand_36 : decode cX15_expand 36 = .ok (.aload_n 1, 1) := by decide +kernel
theorem dX15_expand_37 : decode cX15_expand 37 = .ok (.iload 6, 2) := by decide +kernel
theorem dX15_expand_39 : decode cX15_expand 39 = .ok (.iload_n 3, 1) := by decide +kernel
theorem dX15_expand_40 : decode cX15_expand 40 = .ok (.invokestatic 226, 3) := by decide +kernel
theorem dX15_expand_43 : decode cX15_expand 43 = .ok (.istore 7, 2) := by decide +kernel
theorem dX15_expand_45 : decode cX15_expand 45 = .ok (.aload_n 1, 1) := by decide +kernel
theorem dX15_expand_46 : decode cX15_expand 46 = .ok (.iload 6, 2) := by decide +kernel
theorem dX15_expand_48 : decode cX15_expand 48 = .ok (.iconst 1, 1) := by decide +kernel
theorem dX15_expand_49 : decode cX15_expand 49 = .ok (.iadd, 1) := by decide +kernel
theorem dX15_expand_50 : decode cX15_expand 50 = .ok (.baload, 1) := by decide +kernel
theorem dX15_expand_51 : decode cX15_expand 51 = .ok (.bipush 37, 2) := by decide +kernel
theorem dX15_expand_53 : decode cX15_expand 53 = .ok (.if_icmp .ne 13, 3) := by decide +kernel
theorem dX15_expand_56 : decode cX15_expand 56 = .ok (.aload 5, 2) := by decide +kernel
theorem dX15_expand_58 : decode cX15_expand 58 = .ok (.bipush 37, 2) := by decide +kernel
theorem dX15_expand_60 : decode cX15_expand 60 = .ok (.invokestatic 284, 3) := by decide +kernel
theorem dX15_expand_63 : decode cX15_expand 63 = .ok (.goto 65, 3) := by decide +kernel
theorem dX15_expand_66 : decode cX15_expand 66 = .ok (.aload_n 1, 1) := by decide +kernel
theorem dX15_expand_67 : decode cX15_expand 67 = .ok (.iload 6, 2) := by decide +kernel
theorem dX15_expand_69 : decode cX15_expand 69 = .ok (.iconst 1, 1) := by decide +kernel
theorem dX15_expand_70 : decode cX15_expand 70 = .ok (.iadd, 1) := by decide +kernel
theorem dX15_expand_71 : decode cX15_expand 71 = .ok (.baload, 1) := by decide +kernel
theorem dX15_expand_72 : decode cX15_expand 72 = .ok (.bipush 95, 2) := by decide +kernel
theorem dX15_expand_74 : decode cX15_expand 74 = .ok (.if_icmp .ne 13, 3) := by decide +kernel
theorem dX15_expand_77 : decode cX15_expand 77 = .ok (.aload 5, 2) := by decide +kernel
theorem dX15_expand_79 : decode cX15_expand 79 = .ok (.bipush 32, 2) := by decide +kernel
theorem dX15_expand_81 : decode cX15_expand 81 = .ok (.invokestatic 284, 3) := by decide +kernel
theorem dX15_expand_84 : decode cX15_expand 84 = .ok (.goto 44, 3) := by decide +kernel
theorem dX15_expand_87 : decode cX15_expand 87 = .ok (.aload_n 1, 1) := by decide +kernel
theorem dX15_expand_88 : decode cX15_expand 88 = .ok (.iload 6, 2) := by decide +kernel
theorem dX15_expand_90 : decode cX15_expand 90 = .ok (.iconst 1, 1) := by decide +kernel
theorem dX15_expand_91 : decode cX15_expand 91 = .ok (.iadd, 1) := by decide +kernel
theorem dX15_expand_92 : decode cX15_expand 92 = .ok (.baload, 1) := by decide +kernel
theorem dX15_expand_93 : decode cX15_expand 93 = .ok (.bipush 45, 2) := by decide +kernel
theorem dX15_expand_95 : decode cX15_expand 95 = .ok (.if_icmp .ne 13, 3) := by decide +kernel
theorem dX15_expand_98 : decode cX15_expand 98 = .ok (.aload 5, 2) := by decide +kernel
theorem dX15_expand_100 : decode cX15_expand 100 = .ok (.bipush 37, 2) := by decide +kernel
theorem dX15_expand_102 : decode cX15_expand 102 = .ok (.invokestatic 284, 3) := by decide +kernel
theorem dX15_expand_105 : decode cX15_expand 105 = .ok (.goto 23, 3) := by decide +kernel
theorem dX15_expand_108 : decode cX15_expand 108 = .ok (.aload_n 0, 1) := by decide +kernel
theorem dX15_expand_109 : decode cX15_expand 109 = .ok (.aload_n 1, 1) := by decide +kernel
theorem dX15_expand_110 : decode cX15_expand 110 = .ok (.iload 6, 2) := by decide +kernel
theorem dX15_expand_112 : decode cX15_expand 112 = .ok (.iconst 2, 1) := by decide +kernel
theorem dX15_expand_113 : decode cX15_expand 113 = .ok (.iadd, 1) := by decide +kernel
theorem dX15_expand_114 : decode cX15_expand 114 = .ok (.iload 6, 2) := by decide +kernel
theorem dX15_expand_116 : decode cX15_expand 116 = .ok (.iload 7, 2) := by decide +kernel
theorem dX15_expand_118 : decode cX15_expand 118 = .ok (.iadd, 1) := by decide +kernel
theorem dX15_expand_119 : decode cX15_expand 119 = .ok (.iconst 1, 1) := by decide +kernel
theorem dX15_expand_120 : decode cX15_expand 120 = .ok (.isub, 1) := by decide +kernel
theorem dX15_expand_121 : decode cX15_expand 121 = .ok (.aload 4, 2) := by decide +kernel
theorem dX15_expand_123 : decode cX15_expand 123 = .ok (.aload 5, 2) := by decide +kernel
theorem dX15_expand_125 : decode cX15_expand 125 = .ok (.invokevirtual 288, 3) := by decide +kernel
theorem dX15_expand_128 : decode cX15_expand 128 = .ok (.aload_n 1, 1) := by decide +kernel
theorem dX15_expand_129 : decode cX15_expand 129 = .ok (.iload 6, 2) := by decide +kernel
theorem dX15_expand_131 : decode cX15_expand 131 = .ok (.iconst 1, 1) := by decide +kernel
theorem dX15_expand_132 : decode cX15_expand 132 = .ok (.iadd, 1) := by decide +kernel
theorem dX15_expand_133 : decode cX15_expand 133 = .ok (.baload, 1) := by decide +kernel
theorem dX15_expand_134 : decode cX15_expand 134 = .ok (.bipush 45, 2) := by decide +kernel
theorem dX15_expand_136 : decode cX15_expand 136 = .ok (.if_icmp .ne 17, 3) := by decide +kernel
theorem dX15_expand_139 : decode cX15_expand 139 = .ok (.aload 5, 2) := by decide +kernel
theorem dX15_expand_141 : decode cX15_expand 141 = .ok (.bipush 50, 2) := by decide +kernel
theorem dX15_expand_143 : decode cX15_expand 143 = .ok (.invokestatic 284, 3) := by decide +kernel
theorem dX15_expand_146 : decode cX15_expand 146 = .ok (.aload 5, 2) := by decide +kernel
theorem dX15_expand_148 : decode cX15_expand 148 = .ok (.bipush 48, 2) := by decide +kernel
theorem dX15_expand_150 : decode cX15_expand 150 = .ok (.invokestatic 284, 3) := by decide +kernel
theorem dX15_expand_153 : decode cX15_expand 153 = .ok (.iload 6, 2) := by decide +kernel
theorem dX15_expand_155 : decode cX15_expand 155 = .ok (.iload 7, 2) := by decide +kernel
theorem dX15_expand_157 : decode cX15_expand 157 = .ok (.iconst 1, 1) := by decide +kernel
theorem dX15_expand_158 : decode cX15_expand 158 = .ok (.isub, 1) := by decide +kernel
theorem dX15_expand_159 : decode cX15_expand 159 = .ok (.iadd, 1) := by decide +kernel
theorem dX15_expand_160 : decode cX15_expand 160 = .ok (.istore 6, 2) := by decide +kernel
theorem dX15_expand_162 : decode cX15_expand 162 = .ok (.iinc 6 1, 3) := by decide +kernel
theorem dX15_expand_165 : decode cX15_expand 165 = .ok (.goto (-156), 3) := by decide +kernel
theorem dX15_expand_168 : decode cX15_expand 168 = .ok (.return_, 1) := by decide +kernel
theorem dX15_macroValue_0 : decode cX15_macroValue 0 = .ok (.aload_n 1, 1) := by decide +kernel
theorem dX15_macroValue_1 : decode cX15_macroValue 1 = .ok (.iload_n 2, 1) := by decide +kernel
theorem dX15_macroValue_2 : decode cX15_macroValue 2 = .ok (.baload, 1) := by decide +kernel
theorem dX15_macroValue_3 : decode cX15_macroValue 3 = .ok (.istore 6, 2) := by decide +kernel
theorem dX15_macroValue_5 : decode cX15_macroValue 5 = .ok (.iconst 0, 1) := by decide +kernel
theorem dX15_macroValue_6 : decode cX15_macroValue 6 = .ok (.istore 7, 2) := by decide +kernel
theorem dX15_macroValue_8 : decode cX15_macroValue 8 = .ok (.iconst 0, 1) := by decide +kernel
theorem dX15_macroValue_9 : decode cX15_macroValue 9 = .ok (.istore 8, 2) := by decide +kernel
theorem dX15_macroValue_11 : decode cX15_macroValue 11 = .ok (.aload_n 1, 1) := by decide +kernel
theorem dX15_macroValue_12 : decode cX15_macroValue 12 = .ok (.iload_n 3, 1) := by decide +kernel
theorem dX15_macroValue_13 : decode cX15_macroValue 13 = .ok (.iconst 1, 1) := by decide +kernel
theorem dX15_macroValue_14 : decode cX15_macroValue 14 = .ok (.isub, 1) := by decide +kernel
theorem dX15_macroValue_15 : decode cX15_macroValue 15 = .ok (.baload, 1) := by decide +kernel
theorem dX15_macroValue_16 : decode cX15_macroValue 16 = .ok (.bipush 114, 2) := by decide +kernel
theorem dX15_macroValue_18 : decode cX15_macroValue 18 = .ok (.if_icmp .ne 14, 3) := by decide +kernel
theorem dX15_macroValue_21 : decode cX15_macroValue 21 = .ok (.iload_n 3, 1) := by decide +kernel
theorem dX15_macroValue_22 : decode cX15_macroValue 22 = .ok (.iconst 1, 1) := by decide +kernel
theorem dX15_macroValue_23 : decode cX15_macroValue 23 = .ok (.isub, 1) := by decide +kernel
theorem dX15_macroValue_24 : decode cX15_macroValue 24 = .ok (.iload_n 2, 1) := by decide +kernel
theorem dX15_macroValue_25 : decode cX15_macroValue 25 = .ok (.if_icmp .le 7, 3) := by decide +kernel
theorem dX15_macroValue_28 : decode cX15_macroValue 28 = .ok (.iconst 1, 1) := by decide +kernel
theorem dX15_macroValue_29 : decode cX15_macroValue 29 = .ok (.goto 4, 3) := by decide +kernel
theorem dX15_macroValue_32 : decode cX15_macroValue 32 = .ok (.iconst 0, 1) := by decide +kernel
theorem dX15_macroValue_33 : decode cX15_macroValue 33 = .ok (.istore 9, 2) := by decide +kernel
theorem dX15_macroValue_35 : decode cX15_macroValue 35 = .ok (.iload_n 2, 1) := by decide +kernel
theorem dX15_macroValue_36 : decode cX15_macroValue 36 = .ok (.iconst 1, 1) := by decide +kernel
theorem dX15_macroValue_37 : decode cX15_macroValue 37 = .ok (.iadd, 1) := by decide +kernel
theorem dX15_macroValue_38 : decode cX15_macroValue 38 = .ok (.istore 10, 2) := by decide +kernel
theorem dX15_macroValue_40 : decode cX15_macroValue 40 = .ok (.iload 10, 2) := by decide +kernel
theorem dX15_macroValue_42 : decode cX15_macroValue 42 = .ok (.iload_n 3, 1) := by decide +kernel
theorem dX15_macroValue_43 : decode cX15_macroValue 43 = .ok (.if_icmp .ge 28, 3) := by decide +kernel
theorem dX15_macroValue_46 : decode cX15_macroValue 46 = .ok (.aload_n 1, 1) := by decide +kernel
theorem dX15_macroValue_47 : decode cX15_macroValue 47 = .ok (.iload 10, 2) := by decide +kernel
theorem dX15_macroValue_49 : decode cX15_macroValue 49 = .ok (.baload, 1) := by decide +kernel
theorem dX15_macroValue_50 : decode cX15_macroValue 50 = .ok (.invokestatic 202, 3) := by decide +kernel
theorem dX15_macroValue_53 : decode cX15_macroValue 53 = .ok (.ifCond .eq 12, 3) := by decide +kernel
theorem dX15_macroValue_56 : decode cX15_macroValue 56 = .ok (.aload_n 1, 1) := by decide +kernel
theorem dX15_macroValue_57 : decode cX15_macroValue 57 = .ok (.iload 10, 2) := by decide +kernel
theorem dX15_macroValue_59 : decode cX15_macroValue 59 = .ok (.baload, 1) := by decide +kernel
theorem dX15_macroValue_60 : decode cX15_macroValue 60 = .ok (.bipush 48, 2) := by decide +kernel
theorem dX15_macroValue_62 : decode cX15_macroValue 62 = .ok (.isub, 1) := by decide +kernel
theorem dX15_macroValue_63 : decode cX15_macroValue 63 = .ok (.istore 8, 2) := by decide +kernel
theorem dX15_macroValue_65 : decode cX15_macroValue 65 = .ok (.iinc 10 1, 3) := by decide +kernel
theorem dX15_macroValue_68 : decode cX15_macroValue 68 = .ok (.goto (-28), 3) := by decide +kernel
theorem dX15_macroValue_71 : decode cX15_macroValue 71 = .ok (.aload_n 0, 1) := by decide +kernel
theorem dX15_macroValue_72 : decode cX15_macroValue 72 = .ok (.getfield 67, 3) := by decide +kernel
theorem dX15_macroValue_75 : decode cX15_macroValue 75 = .ok (.iconst 0, 1) := by decide +kernel
theorem dX15_macroValue_76 : decode cX15_macroValue 76 = .ok (.putfield 190, 3) := by decide +kernel
theorem dX15_macroValue_79 : decode cX15_macroValue 79 = .ok (.iload 6, 2) := by decide +kernel
theorem dX15_macroValue_81 : decode cX15_macroValue 81 = .ok (.bipush 115, 2) := by decide +kernel
theorem dX15_macroValue_83 : decode cX15_macroValue 83 = .ok (.if_icmp .eq 10, 3) := by decide +kernel
theorem dX15_macroValue_86 : decode cX15_macroValue 86 = .ok (.iload 6, 2) := by decide +kernel
theorem dX15_macroValue_88 : decode cX15_macroValue 88 = .ok (.bipush 108, 2) := by decide +kernel
theorem dX15_macroValue_90 : decode cX15_macroValue 90 = .ok (.if_icmp .ne 25, 3) := by decide +kernel
theorem dX15_macroValue_93 : decode cX15_macroValue 93 = .ok (.aload_n 0, 1) := by decide +kernel
theorem dX15_macroValue_94 : decode cX15_macroValue 94 = .ok (.getfield 67, 3) := by decide +kernel
theorem dX15_macroValue_97 : decode cX15_macroValue 97 = .ok (.aload_n 0, 1) := by decide +kernel
theorem dX15_macroValue_98 : decode cX15_macroValue 98 = .ok (.getfield 57, 3) := by decide +kernel
theorem dX15_macroValue_101 : decode cX15_macroValue 101 = .ok (.getfield 295, 3) := by decide +kernel
theorem dX15_macroValue_104 : decode cX15_macroValue 104 = .ok (.iconst 0, 1) := by decide +kernel
theorem dX15_macroValue_105 : decode cX15_macroValue 105 = .ok (.aload_n 0, 1) := by decide +kernel
theorem dX15_macroValue_106 : decode cX15_macroValue 106 = .ok (.getfield 57, 3) := by decide +kernel
theorem dX15_macroValue_109 : decode cX15_macroValue 109 = .ok (.getfield 190, 3) := by decide +kernel
theorem dX15_macroValue_112 : decode cX15_macroValue 112 = .ok (.invokevirtual 298, 3) := by decide +kernel
theorem dX15_macroValue_115 : decode cX15_macroValue 115 = .ok (.iload 6, 2) := by decide +kernel
theorem dX15_macroValue_117 : decode cX15_macroValue 117 = .ok (.bipush 115, 2) := by decide +kernel
theorem dX15_macroValue_119 : decode cX15_macroValue 119 = .ok (.if_icmp .ne 12, 3) := by decide +kernel
theorem dX15_macroValue_122 : decode cX15_macroValue 122 = .ok (.aload_n 0, 1) := by decide +kernel
theorem dX15_macroValue_123 : decode cX15_macroValue 123 = .ok (.getfield 67, 3) := by decide +kernel
theorem dX15_macroValue_126 : decode cX15_macroValue 126 = .ok (.bipush 64, 2) := by decide +kernel
theorem dX15_macroValue_128 : decode cX15_macroValue 128 = .ok (.invokevirtual 292, 3) := by decide +kernel
theorem dX15_macroValue_131 : decode cX15_macroValue 131 = .ok (.iload 6, 2) := by decide +kernel
theorem dX15_macroValue_133 : decode cX15_macroValue 133 = .ok (.bipush 115, 2) := by decide +kernel
theorem dX15_macroValue_135 : decode cX15_macroValue 135 = .ok (.if_icmp .eq 10, 3) := by decide +kernel
theorem dX15_macroValue_138 : decode cX15_macroValue 138 = .ok (.iload 6, 2) := by decide +kernel
theorem dX15_macroValue_140 : decode cX15_macroValue 140 = .ok (.bipush 111, 2) := by decide +kernel
theorem dX15_macroValue_142 : decode cX15_macroValue 142 = .ok (.if_icmp .ne 25, 3) := by decide +kernel
theorem dX15_macroValue_145 : decode cX15_macroValue 145 = .ok (.aload_n 0, 1) := by decide +kernel
theorem dX15_macroValue_146 : decode cX15_macroValue 146 = .ok (.getfield 67, 3) := by decide +kernel
theorem dX15_macroValue_149 : decode cX15_macroValue 149 = .ok (.aload_n 0, 1) := by decide +kernel
theorem dX15_macroValue_150 : decode cX15_macroValue 150 = .ok (.getfield 61, 3) := by decide +kernel
theorem dX15_macroValue_153 : decode cX15_macroValue 153 = .ok (.getfield 295, 3) := by decide +kernel
theorem dX15_macroValue_156 : decode cX15_macroValue 156 = .ok (.iconst 0, 1) := by decide +kernel
theorem dX15_macroValue_157 : decode cX15_macroValue 157 = .ok (.aload_n 0, 1) := by decide +kernel
theorem dX15_macroValue_158 : decode cX15_macroValue 158 = .ok (.getfield 61, 3) := by decide +kernel
theorem dX15_macroValue_161 : decode cX15_macroValue 161 = .ok (.getfield 190, 3) := by decide +kernel
theorem dX15_macroValue_164 : decode cX15_macroValue 164 = .ok (.invokevirtual 298, 3) := by decide +kernel
theorem dX15_macroValue_167 : decode cX15_macroValue 167 = .ok (.iload 6, 2) := by decide +kernel
theorem dX15_macroValue_169 : decode cX15_macroValue 169 = .ok (.bipush 100, 2) := by decide +kernel
theorem dX15_macroValue_171 : decode cX15_macroValue 171 = .ok (.if_icmp .ne 21, 3) := by decide +kernel
theorem dX15_macroValue_174 : decode cX15_macroValue 174 = .ok (.aload_n 0, 1) := by decide +kernel
theorem dX15_macroValue_175 : decode cX15_macroValue 175 = .ok (.getfield 67, 3) := by decide +kernel
theorem dX15_macroValue_178 : decode cX15_macroValue 178 = .ok (.aload 4, 2) := by decide +kernel
theorem dX15_macroValue_180 : decode cX15_macroValue 180 = .ok (.getfield 295, 3) := by decide +kernel
theorem dX15_macroValue_183 : decode cX15_macroValue 183 = .ok (.iconst 0, 1) := by decide +kernel
theorem dX15_macroValue_184 : decode cX15_macroValue 184 = .ok (.aload 4, 2) := by decide +kernel
theorem dX15_macroValue_186 : decode cX15_macroValue 186 = .ok (.getfield 190, 3) := by decide +kernel
theorem dX15_macroValue_189 : decode cX15_macroValue 189 = .ok (.invokevirtual 298, 3) := by decide +kernel
theorem dX15_macroValue_192 : decode cX15_macroValue 192 = .ok (.bipush 24, 2) := by decide +kernel
theorem dX15_macroValue_194 : decode cX15_macroValue 194 = .ok (.istore 10, 2) := by decide +kernel
theorem dX15_macroValue_196 : decode cX15_macroValue 196 = .ok (.iload 6, 2) := by decide +kernel
theorem dX15_macroValue_198 : decode cX15_macroValue 198 = .ok (.bipush 105, 2) := by decide +kernel
theorem dX15_macroValue_200 : decode cX15_macroValue 200 = .ok (.if_icmp .ne 103, 3) := by decide +kernel
theorem dX15_macroValue_203 : decode cX15_macroValue 203 = .ok (.iload 10, 2) := by decide +kernel
theorem dX15_macroValue_205 : decode cX15_macroValue 205 = .ok (.ifCond .lt 98, 3) := by decide +kernel
theorem dX15_macroValue_208 : decode cX15_macroValue 208 = .ok (.aload_n 0, 1) := by decide +kernel
theorem dX15_macroValue_209 : decode cX15_macroValue 209 = .ok (.getfield 205, 3) := by decide +kernel
theorem dX15_macroValue_212 : decode cX15_macroValue 212 = .ok (.iload 10, 2) := by decide +kernel
theorem dX15_macroValue_214 : decode cX15_macroValue 214 = .ok (.ishr, 1) := by decide +kernel
theorem dX15_macroValue_215 : decode cX15_macroValue 215 = .ok (.sipush 255, 3) := by decide +kernel
theorem dX15_macroValue_218 : decode cX15_macroValue 218 = .ok (.iand, 1) := by decide +kernel
theorem dX15_macroValue_219 : decode cX15_macroValue 219 = .ok (.istore 11, 2) := by decide +kernel
theorem dX15_macroValue_221 : decode cX15_macroValue 221 = .ok (.iload 11, 2) := by decide +kernel
theorem dX15_macroValue_223 : decode cX15_macroValue 223 = .ok (.bipush 99, 2) := by decide +kernel
theorem dX15_macroValue_225 : decode cX15_macroValue 225 = .ok (.if_icmp .le 18, 3) := by decide +kernel
theorem dX15_macroValue_228 : decode cX15_macroValue 228 = .ok (.aload_n 0, 1) := by decide +kernel
theorem dX15_macroValue_229 : decode cX15_macroValue 229 = .ok (.getfield 67, 3) := by decide +kernel
theorem dX15_macroValue_232 : decode cX15_macroValue 232 = .ok (.bipush 48, 2) := by decide +kernel
theorem dX15_macroValue_234 : decode cX15_macroValue 234 = .ok (.iload 11, 2) := by decide +kernel
theorem dX15_macroValue_236 : decode cX15_macroValue 236 = .ok (.bipush 100, 2) := by decide +kernel
theorem dX15_macroValue_238 : decode cX15_macroValue 238 = .ok (.idiv, 1) := by decide +kernel
theorem dX15_macroValue_239 : decode cX15_macroValue 239 = .ok (.iadd, 1) := by decide +kernel
theorem dX15_macroValue_240 : decode cX15_macroValue 240 = .ok (.invokevirtual 292, 3) := by decide +kernel
theorem dX15_macroValue_243 : decode cX15_macroValue 243 = .ok (.iload 11, 2) := by decide +kernel
theorem dX15_macroValue_245 : decode cX15_macroValue 245 = .ok (.bipush 9, 2) := by decide +kernel
theorem dX15_macroValue_247 : decode cX15_macroValue 247 = .ok (.if_icmp .le 21, 3) := by decide +kernel
theorem dX15_macroValue_250 : decode cX15_macroValue 250 = .ok (.aload_n 0, 1) := by decide +kernel
theorem dX15_macroValue_251 : decode cX15_macroValue 251 = .ok (.getfield 67, 3) := by decide +kernel
theorem dX15_macroValue_254 : decode cX15_macroValue 254 = .ok (.bipush 48, 2) := by decide +kernel
theorem dX15_macroValue_256 : decode cX15_macroValue 256 = .ok (.iload 11, 2) := by decide +kernel
theorem dX15_macroValue_258 : decode cX15_macroValue 258 = .ok (.bipush 10, 2) := by decide +kernel
theorem dX15_macroValue_260 : decode cX15_macroValue 260 = .ok (.idiv, 1) := by decide +kernel
theorem dX15_macroValue_261 : decode cX15_macroValue 261 = .ok (.bipush 10, 2) := by decide +kernel
theorem dX15_macroValue_263 : decode cX15_macroValue 263 = .ok (.irem, 1) := by decide +kernel
theorem dX15_macroValue_264 : decode cX15_macroValue 264 = .ok (.iadd, 1) := by decide +kernel
theorem dX15_macroValue_265 : decode cX15_macroValue 265 = .ok (.invokevirtual 292, 3) := by decide +kernel
theorem dX15_macroValue_268 : decode cX15_macroValue 268 = .ok (.aload_n 0, 1) := by decide +kernel
theorem dX15_macroValue_269 : decode cX15_macroValue 269 = .ok (.getfield 67, 3) := by decide +kernel
theorem dX15_macroValue_272 : decode cX15_macroValue 272 = .ok (.bipush 48, 2) := by decide +kernel
theorem dX15_macroValue_274 : decode cX15_macroValue 274 = .ok (.iload 11, 2) := by decide +kernel
theorem dX15_macroValue_276 : decode cX15_macroValue 276 = .ok (.bipush 10, 2) := by decide +kernel
theorem dX15_macroValue_278 : decode cX15_macroValue 278 = .ok (.irem, 1) := by decide +kernel
theorem dX15_macroValue_279 : decode cX15_macroValue 279 = .ok (.iadd, 1) := by decide +kernel
theorem dX15_macroValue_280 : decode cX15_macroValue 280 = .ok (.invokevirtual 292, 3) := by decide +kernel
theorem dX15_macroValue_283 : decode cX15_macroValue 283 = .ok (.iload 10, 2) := by decide +kernel
theorem dX15_macroValue_285 : decode cX15_macroValue 285 = .ok (.ifCond .le 12, 3) := by decide +kernel
theorem dX15_macroValue_288 : decode cX15_macroValue 288 = .ok (.aload_n 0, 1) := by decide +kernel
theorem dX15_macroValue_289 : decode cX15_macroValue 289 = .ok (.getfield 67, 3) := by decide +kernel
theorem dX15_macroValue_292 : decode cX15_macroValue 292 = .ok (.bipush 46, 2) := by decide +kernel
theorem dX15_macroValue_294 : decode cX15_macroValue 294 = .ok (.invokevirtual 292, 3) := by decide +kernel
theorem dX15_macroValue_297 : decode cX15_macroValue 297 = .ok (.iinc 10 (-8), 3) := by decide +kernel
theorem dX15_macroValue_300 : decode cX15_macroValue 300 = .ok (.goto (-104), 3) := by decide +kernel
theorem dX15_macroValue_303 : decode cX15_macroValue 303 = .ok (.iconst 1, 1) := by decide +kernel
theorem dX15_macroValue_304 : decode cX15_macroValue 304 = .ok (.istore 7, 2) := by decide +kernel
theorem dX15_macroValue_306 : decode cX15_macroValue 306 = .ok (.iconst 0, 1) := by decide +kernel
theorem dX15_macroValue_307 : decode cX15_macroValue 307 = .ok (.istore 10, 2) := by decide +kernel
theorem dX15_macroValue_309 : decode cX15_macroValue 309 = .ok (.iload 10, 2) := by decide +kernel
theorem dX15_macroValue_311 : decode cX15_macroValue 311 = .ok (.aload_n 0, 1) := by decide +kernel
theorem dX15_macroValue_312 : decode cX15_macroValue 312 = .ok (.getfield 67, 3) := by decide +kernel
theorem dX15_macroValue_315 : decode cX15_macroValue 315 = .ok (.getfield 190, 3) := by decide +kernel
theorem dX15_macroValue_318 : decode cX15_macroValue 318 = .ok (.if_icmp .ge 27, 3) := by decide +kernel
theorem dX15_macroValue_321 : decode cX15_macroValue 321 = .ok (.aload_n 0, 1) := by decide +kernel
theorem dX15_macroValue_322 : decode cX15_macroValue 322 = .ok (.getfield 67, 3) := by decide +kernel
theorem dX15_macroValue_325 : decode cX15_macroValue 325 = .ok (.getfield 295, 3) := by decide +kernel
theorem dX15_macroValue_328 : decode cX15_macroValue 328 = .ok (.iload 10, 2) := by decide +kernel
theorem dX15_macroValue_330 : decode cX15_macroValue 330 = .ok (.baload, 1) := by decide +kernel
theorem dX15_macroValue_331 : decode cX15_macroValue 331 = .ok (.bipush 46, 2) := by decide +kernel
theorem dX15_macroValue_333 : decode cX15_macroValue 333 = .ok (.if_icmp .ne 6, 3) := by decide +kernel
theorem dX15_macroValue_336 : decode cX15_macroValue 336 = .ok (.iinc 7 1, 3) := by decide +kernel
theorem dX15_macroValue_339 : decode cX15_macroValue 339 = .ok (.iinc 10 1, 3) := by decide +kernel
theorem dX15_macroValue_342 : decode cX15_macroValue 342 = .ok (.goto (-33), 3) := by decide +kernel
theorem dX15_macroValue_345 : decode cX15_macroValue 345 = .ok (.iload 8, 2) := by decide +kernel
theorem dX15_macroValue_347 : decode cX15_macroValue 347 = .ok (.ifCond .eq 10, 3) := by decide +kernel
theorem dX15_macroValue_350 : decode cX15_macroValue 350 = .ok (.iload 8, 2) := by decide +kernel
theorem dX15_macroValue_352 : decode cX15_macroValue 352 = .ok (.iload 7, 2) := by decide +kernel
theorem dX15_macroValue_354 : decode cX15_macroValue 354 = .ok (.if_icmp .lt 7, 3) := by decide +kernel
theorem dX15_macroValue_357 : decode cX15_macroValue 357 = .ok (.iconst 0, 1) := by decide +kernel
theorem dX15_macroValue_358 : decode cX15_macroValue 358 = .ok (.goto 8, 3) := by decide +kernel
theorem dX15_macroValue_361 : decode cX15_macroValue 361 = .ok (.iload 7, 2) := by decide +kernel
theorem dX15_macroValue_363 : decode cX15_macroValue 363 = .ok (.iload 8, 2) := by decide +kernel
theorem dX15_macroValue_365 : decode cX15_macroValue 365 = .ok (.isub, 1) := by decide +kernel
theorem dX15_macroValue_366 : decode cX15_macroValue 366 = .ok (.istore 10, 2) := by decide +kernel
theorem dX15_macroValue_368 : decode cX15_macroValue 368 = .ok (.iload 10, 2) := by decide +kernel
theorem dX15_macroValue_370 : decode cX15_macroValue 370 = .ok (.istore 11, 2) := by decide +kernel
theorem dX15_macroValue_372 : decode cX15_macroValue 372 = .ok (.iload 11, 2) := by decide +kernel
theorem dX15_macroValue_374 : decode cX15_macroValue 374 = .ok (.iload 7, 2) := by decide +kernel
theorem dX15_macroValue_376 : decode cX15_macroValue 376 = .ok (.if_icmp .ge 46, 3) := by decide +kernel
theorem dX15_macroValue_379 : decode cX15_macroValue 379 = .ok (.iload 11, 2) := by decide +kernel
theorem dX15_macroValue_381 : decode cX15_macroValue 381 = .ok (.iload 10, 2) := by decide +kernel
theorem dX15_macroValue_383 : decode cX15_macroValue 383 = .ok (.if_icmp .le 10, 3) := by decide +kernel
theorem dX15_macroValue_386 : decode cX15_macroValue 386 = .ok (.aload 5, 2) := by decide +kernel
theorem dX15_macroValue_388 : decode cX15_macroValue 388 = .ok (.bipush 46, 2) := by decide +kernel
theorem dX15_macroValue_390 : decode cX15_macroValue 390 = .ok (.invokestatic 284, 3) := by decide +kernel
theorem dX15_macroValue_393 : decode cX15_macroValue 393 = .ok (.aload_n 0, 1) := by decide +kernel
theorem dX15_macroValue_394 : decode cX15_macroValue 394 = .ok (.iload 9, 2) := by decide +kernel
theorem dX15_macroValue_396 : decode cX15_macroValue 396 = .ok (.ifCond .eq 13, 3) := by decide +kernel
theorem dX15_macroValue_399 : decode cX15_macroValue 399 = .ok (.iload 7, 2) := by decide +kernel
theorem dX15_macroValue_401 : decode cX15_macroValue 401 = .ok (.iconst 1, 1) := by decide +kernel
theorem dX15_macroValue_402 : decode cX15_macroValue 402 = .ok (.isub, 1) := by decide +kernel
theorem dX15_macroValue_403 : decode cX15_macroValue 403 = .ok (.iload 11, 2) := by decide +kernel
theorem dX15_macroValue_405 : decode cX15_macroValue 405 = .ok (.isub, 1) := by decide +kernel
theorem dX15_macroValue_406 : decode cX15_macroValue 406 = .ok (.goto 5, 3) := by decide +kernel
theorem dX15_macroValue_409 : decode cX15_macroValue 409 = .ok (.iload 11, 2) := by decide +kernel
theorem dX15_macroValue_411 : decode cX15_macroValue 411 = .ok (.aload 5, 2) := by decide +kernel
theorem dX15_macroValue_413 : decode cX15_macroValue 413 = .ok (.invokevirtual 300, 3) := by decide +kernel
theorem dX15_macroValue_416 : decode cX15_macroValue 416 = .ok (.iinc 11 1, 3) := by decide +kernel
theorem dX15_macroValue_419 : decode cX15_macroValue 419 = .ok (.goto (-47), 3) := by decide +kernel
theorem dX15_macroValue_422 : decode cX15_macroValue 422 = .ok (.return_, 1) := by decide +kernel
theorem dX15_part_0 : decode cX15_part 0 = .ok (.iconst 0, 1) := by decide +kernel
theorem dX15_part_1 : decode cX15_part 1 = .ok (.istore_n 3, 1) := by decide +kernel
theorem dX15_part_2 : decode cX15_part 2 = .ok (.iconst 0, 1) := by decide +kernel
theorem dX15_part_3 : decode cX15_part 3 = .ok (.istore 4, 2) := by decide +kernel
theorem dX15_part_5 : decode cX15_part 5 = .ok (.iload 4, 2) := by decide +kernel
theorem dX15_part_7 : decode cX15_part 7 = .ok (.iload_n 1, 1) := by decide +kernel
theorem dX15_part_8 : decode cX15_part 8 = .ok (.if_icmp .ge 26, 3) := by decide +kernel
theorem dX15_part_11 : decode cX15_part 11 = .ok (.aload_n 0, 1) := by decide +kernel
theorem dX15_part_12 : decode cX15_part 12 = .ok (.getfield 67, 3) := by decide +kernel
theorem dX15_part_15 : decode cX15_part 15 = .ok (.getfield 295, 3) := by decide +kernel
theorem dX15_part_18 : decode cX15_part 18 = .ok (.iload_n 3, 1) := by decide +kernel
theorem dX15_part_19 : decode cX15_part 19 = .ok (.baload, 1) := by decide +kernel
theorem dX15_part_20 : decode cX15_part 20 = .ok (.bipush 46, 2) := by decide +kernel
theorem dX15_part_22 : decode cX15_part 22 = .ok (.if_icmp .ne 6, 3) := by decide +kernel
theorem dX15_part_25 : decode cX15_part 25 = .ok (.iinc 4 1, 3) := by decide +kernel
theorem dX15_part_28 : decode cX15_part 28 = .ok (.iinc 3 1, 3) := by decide +kernel
theorem dX15_part_31 : decode cX15_part 31 = .ok (.goto (-26), 3) := by decide +kernel
theorem dX15_part_34 : decode cX15_part 34 = .ok (.iload_n 3, 1) := by decide +kernel
theorem dX15_part_35 : decode cX15_part 35 = .ok (.aload_n 0, 1) := by decide +kernel
theorem dX15_part_36 : decode cX15_part 36 = .ok (.getfield 67, 3) := by decide +kernel
theorem dX15_part_39 : decode cX15_part 39 = .ok (.getfield 190, 3) := by decide +kernel
theorem dX15_part_42 : decode cX15_part 42 = .ok (.if_icmp .ge 36, 3) := by decide +kernel
theorem dX15_part_45 : decode cX15_part 45 = .ok (.aload_n 0, 1) := by decide +kernel
theorem dX15_part_46 : decode cX15_part 46 = .ok (.getfield 67, 3) := by decide +kernel
theorem dX15_part_49 : decode cX15_part 49 = .ok (.getfield 295, 3) := by decide +kernel
theorem dX15_part_52 : decode cX15_part 52 = .ok (.iload_n 3, 1) := by decide +kernel
theorem dX15_part_53 : decode cX15_part 53 = .ok (.baload, 1) := by decide +kernel
theorem dX15_part_54 : decode cX15_part 54 = .ok (.bipush 46, 2) := by decide +kernel
theorem dX15_part_56 : decode cX15_part 56 = .ok (.if_icmp .eq 22, 3) := by decide +kernel
theorem dX15_part_59 : decode cX15_part 59 = .ok (.aload_n 2, 1) := by decide +kernel
theorem dX15_part_60 : decode cX15_part 60 = .ok (.aload_n 0, 1) := by decide +kernel
theorem dX15_part_61 : decode cX15_part 61 = .ok (.getfield 67, 3) := by decide +kernel
theorem dX15_part_64 : decode cX15_part 64 = .ok (.getfield 295, 3) := by decide +kernel
theorem dX15_part_67 : decode cX15_part 67 = .ok (.iload_n 3, 1) := by decide +kernel
theorem dX15_part_68 : decode cX15_part 68 = .ok (.baload, 1) := by decide +kernel
theorem dX15_part_69 : decode cX15_part 69 = .ok (.invokestatic 284, 3) := by decide +kernel
theorem dX15_part_72 : decode cX15_part 72 = .ok (.iinc 3 1, 3) := by decide +kernel
theorem dX15_part_75 : decode cX15_part 75 = .ok (.goto (-41), 3) := by decide +kernel
theorem dX15_part_78 : decode cX15_part 78 = .ok (.return_, 1) := by decide +kernel
theorem kt_768 : Cond.fieldLink RX15 67 "PostGateModel" "piece" "LPostGateModel$Text;" ∈ tb := tb_at (i := 1305) (by decide +kernel) (by decide +kernel)
theorem kt_769 : Cond.code yX15_put cX15_put 2 none ∈ tb := tb_at (i := 1610) (by decide +kernel) (by decide +kernel)
theorem kt_770 : Cond.methodLink RX15 284 yX15_put ∈ tb := tb_at (i := 1608) (by decide +kernel) (by decide +kernel)
theorem kt_771 : Cond.static yX15_put ∈ tb := tb_at (i := 1609) (by decide +kernel) (by decide +kernel)
theorem kt_772 : Cond.code yX15_part cX15_part 5 none ∈ tb := tb_at (i := 1623) (by decide +kernel) (by decide +kernel)
theorem kt_773 : Cond.methodLink RX15 300 yX15_part ∈ tb := tb_at (i := 1620) (by decide +kernel) (by decide +kernel)
theorem kt_774 : Cond.instanceMethod yX15_part ∈ tb := tb_at (i := 1622) (by decide +kernel) (by decide +kernel)
theorem kt_775 : Cond.selects RX15 yX15_part yX15_part ∈ tb := tb_at (i := 54) (by decide +kernel) (by decide +kernel)
theorem kt_776 : Cond.methodLink RX15 298 yX14_add_ ∈ tb := tb_at (i := 1619) (by decide +kernel) (by decide +kernel)
theorem kt_777 : Cond.fieldLink RX15 61 "PostGateModel" "domain" "LPostGateModel$Text;" ∈ tb := tb_at (i := 1299) (by decide +kernel) (by decide +kernel)
theorem kt_778 : Cond.fieldLink RX15 57 "PostGateModel" "local" "LPostGateModel$Text;" ∈ tb := tb_at (i := 1298) (by decide +kernel) (by decide +kernel)
theorem kt_779 : Cond.code yX15_macroValue cX15_macroValue 12 none ∈ tb := tb_at (i := 1618) (by decide +kernel) (by decide +kernel)
theorem kt_780 : Cond.methodLink RX15 288 yX15_macroValue ∈ tb := tb_at (i := 1615) (by decide +kernel) (by decide +kernel)
theorem kt_781 : Cond.instanceMethod yX15_macroValue ∈ tb := tb_at (i := 1617) (by decide +kernel) (by decide +kernel)
theorem kt_782 : Cond.selects RX15 yX15_macroValue yX15_macroValue ∈ tb := tb_at (i := 53) (by decide +kernel) (by decide +kernel)
def sv (m : Nat) : Int32 := nI (8 * (4 - m)) - 8
theorem sv_n : ∀ m, m < 4 → sv m + Int32.ofInt (-8) = sv (m + 1) := by decide +kernel
theorem sv_p : ∀ m, m < 4 → ¬ sv m < 0 := by decide +kernel
theorem sv_4 : sv 4 < 0 := by decide +kernel
theorem sv_lt {m : Nat} (h : m ≤ 4) (c : ¬ sv m < 0) : m < 4 := by
  rcases Nat.lt_or_ge m 4 with q | q
  · exact q
  · rw [show m = 4 from by omega] at c
    exact absurd sv_4 c
set_option maxHeartbeats 4000000 in
set_option maxRecDepth 100000 in
theorem s_X15_part (l : Launch) (dC : Nat → ClassId) (dI : Nat → Nat → Nat) (cs : Nat → ClassId) (ty : TyM) (gm : Nat → Nat → Nat) (L : List Nat) (sz : Nat) (F : Nat → va_E) (h0 : Nat) (ρ : Nat) (ta : Nat) (ou : Nat) (so : Nat) (ad : Nat) (na : Nat) (va : Nat) (lc : Nat) (dm : Nat) (tg : Nat) (pe : Nat) (ml : Nat) (bg : Nat) (co : Nat) (sp : Nat) (nb0 : Nat) (nb1 : Nat) (nb2 : Nat) (pl : Nat) (se : Nat) (ke : Nat) (wi : Nat) (hs : Nat) (mo : Nat) (po : Nat) (nu : Nat) (pr : Nat) (sq : Nat) (xa : Nat) (sa : Nat) (n64 : Nat) (m64 : Nat) (ex : Nat) (wh : Nat) (sd : Nat) (tk : Nat) (hd : Nat) (ak : Nat) (ho : Nat) (ot : Nat) (sx : Nat) (s0 : Nat) (s1 : Nat) (s2 : Nat) (nf : Nat) (bd : Nat) (mm : Nat) (zt : Nat) (rp : Nat) (g2 : Nat) (r2 : Nat) (k : Nat) (z : Nat) (y : Nat) (fp : Nat → Int32) (hW : WTm ty gm L) (hL_h0 : h0 ∈ L) (hT_h0 : ty h0 = (15, ρ, [ta, ou, so, ad, na, va, lc, dm, tg, pe, ml, bg, co, sp, nb0, nb1, nb2, pl, se, ke, wi, hs, mo, po, nu, pr, sq, xa, sa, n64, m64, ex, wh, sd, tk, hd, ak, ho, ot, sx, s0, s1, s2, nf, bd, mm, zt])) (hL_pe : pe ∈ L) (hT_pe : ty pe = (14, ρ + 7, [rp, 100])) (hL_g2 : g2 ∈ L) (hT_g2 : ty g2 = (14, ρ + 6, [r2, 61])) (hFp : F pe = .inr (14, [.ref rp, .int (nI z)])) (hFr : F rp = .inl (cs 17, 100, .inl fp)) (hFi : F g2 = .inr (14, [.ref r2, .int (nI y)])) (hz : z ≤ 100) (hy : y ≤ 61) (hk : k ≤ dots fp z) : Met l yX15_part (.code yX15_part cX15_part 5 none :: tb) ({ frames := 2, cells := 0, slots := 0, locals := 42 }) (va_Pc [.ref h0, .int (nI k), .ref g2] (PTm (dC, dI) cs ty gm L F sz)) (va_Qv (fun _ : Unit => True) (fun _ T9 => ∃ F2 : Nat → va_E, ∃ y2 : Nat, QTm (dC, dI) cs ty gm L [ρ + 6] F F2 (va_A (va_pl L F) sz) T9 ∧ F2 g2 = .inr (14, [.ref r2, .int (nI y2)]) ∧ y2 ≤ 61) (va_A (va_pl L F) sz)) 0 0 (va_A (va_pl L F) sz) := by
  refine Met.ofW (cc := cX15_part) (maxL := 5) (ret := none) (by decide) rfl ?_
  intro p e s m args below meth c s₁ B hml hv
  obtain ⟨rfl, hsz, hP, hK, hD0, hE, hO⟩ := hv
  have hx := B.exec
  have hb := B.bytes
  have hr := B.returns
  have hts : ∀ w ∈ tb, w.before _ s = true := fun w h => atoms_spec (ws := .code yX15_part cX15_part 5 none :: tb) B.pre w (List.mem_cons_of_mem _ h)
  have hown : s.vm.findClass RX15 = some m.cls := findClass_of_methodNamed B.named
  have hlocks := B.notSynchronized
  subst hsz
  have hD := hD0.self (sz := s.heap.size)
  generalize hAe : va_A (va_pl L F) s.heap.size = A at hD ⊢
  have hA : ∀ q : Nat, s.heap.size ≤ q → A q := fun q h => by rw [← hAe]; exact Or.inr h
  have hS : va_S A s.heap s.heap [] := va_S.rf
  have hR : FR ty [ρ + 6] F F := FR.refl
  have hl := lv_entry ([.ref h0, .int (nI k), .ref g2]) (n := 5) (Nat.le_of_ble_eq_true rfl)
  rw [lg_entry_eq]
  generalize (lg_sl ([.ref h0, .int (nI k), .ref g2]) ++ List.replicate (5 - (lg_sl ([.ref h0, .int (nI k), .ref g2])).length) Slot.unset).toArray = ls at hl ⊢
  have hl : lv_has ls 5 [(0, .ref h0), (1, .int (nI k)), (2, .ref g2)] := hl
  obtain ⟨hi_1, ht_2, hi_3, ht_4, hi_5, ht_6, hi_7, ht_8, hi_9, ht_10, hi_11, ht_12, hi_13, ⟨r_14, ht_15⟩, hi_16, ⟨r_17, ht_18⟩, hi_19, ht_20, _, _, hi_21, ht_22, hi_23, ht_24, hi_25, ht_26, hi_27, ht_28, hi_29, ht_30, hi_31, ht_32, hi_33, ht_34, hi_35, ⟨r_36, ht_37⟩, hi_38, ht_39, hi_40, ⟨x_41, y0_42, y1_43, y2_44, ht_45⟩, hi_46, ⟨x_47, y0_48, y1_49, y2_50, ht_51⟩, hi_52, ⟨x_53, y_54, w_55, u_56, bl_57, ht_58⟩, hi_59, ht_60, hi_61, ht_62, hi_63, ht_64, hi_65, ht_66, hi_67, ht_68, hi_69, ht_70, hi_71, ht_72, hi_73, ht_74, hi_75, ht_76, hi_77, ht_78, hi_79, ⟨r_80, ht_81⟩, hi_82, ⟨r_83, ht_84⟩, hi_85, ht_86, hi_87, ht_88, hi_89, ⟨r_90, ht_91⟩, hi_92, ⟨r_93, ht_94⟩, hi_95, ⟨r_96, ht_97⟩, hq_98, hq_99, hq_100, hq_101, hq_102, hgO, hgA, hgB⟩ := hW.mod hL_h0 hT_h0
  obtain ⟨hi_103, ht_104, hq_105⟩ := hW.txt hL_pe hT_pe
  obtain ⟨hi_106, ht_107, hq_108⟩ := hW.txt hL_g2 hT_g2
  have hdb := dots_b fp z
  refine lv_iconst (v := 0) hx hb dX15_part_0 (by decide) ?_
  refine lv_istore_n (lv' := [(3, .int 0), (0, .ref h0), (1, .int (nI k)), (2, .ref g2)]) hx hb dX15_part_1 rfl hl (by decide) rfl (fun ls hl => ?_)
  refine lv_iconst (v := 0) hx hb dX15_part_2 (by decide) ?_
  refine lv_istore (lv' := [(4, .int 0), (3, .int 0), (0, .ref h0), (1, .int (nI k)), (2, .ref g2)]) hx hb dX15_part_3 hl (by decide) rfl (fun ls hl => ?_)
  refine W.widen (k := 0) (n := 0) (by omega) (by omega) ?_
  have hF_110 : F pe = .inr (14, [.ref rp, .int (nI z)]) := (hR pe (by rw [hT_pe]; simp)).symm.trans hFp
  have hF_111 : F rp = .inl (cs 17, 100, .inl fp) := (hR rp (by rw [ht_104]; simp)).symm.trans hFr
  refine pl_loopm (σ := Nat × Nat) A (dC, dI) cs ty gm L [ρ + 6] F 5 5 (fun (j, w) => [(4, .int (nI w)), (3, .int (nI j)), (0, .ref h0), (1, .int (nI k)), (2, .ref g2)]) (fun (j, w) => []) (fun (j, w) FF => w = dots fp j ∧ j ≤ z ∧ FF g2 = .inr (14, [.ref r2, .int (nI y)])) (fun (j, w) => z - j) ?_ (0, 0) F (⟨rfl, Nat.zero_le _, hFi⟩) hO hR _ _ hP hD hS ls (lv_sub hl [0, 1, 2, 3, 4] rfl)
  rintro ⟨j, w⟩ F_109 hv_112 hO hR ih_113 H locs hP hD hS ls hl
  have hl : lv_has ls 5 [(4, .int (nI w)), (3, .int (nI j)), (0, .ref h0), (1, .int (nI k)), (2, .ref g2)] := hl
  have hv_112 : w = dots fp j ∧ j ≤ z ∧ F_109 g2 = .inr (14, [.ref r2, .int (nI y)]) := hv_112
  refine W.eq (g2 := F0 m 5 ls []) rfl ?_
  have hF_114 : F_109 pe = .inr (14, [.ref rp, .int (nI z)]) := (hR pe (by rw [hT_pe]; simp)).trans hF_110
  have hF_115 : F_109 rp = .inl (cs 17, 100, .inl fp) := (hR rp (by rw [ht_104]; simp)).trans hF_111
  obtain ⟨hv1, hv2, hv3⟩ := hv_112
  refine lv_iload hx hb dX15_part_5 (lv_at hl 0 rfl) ?_
  refine lv_iload_n hx hb dX15_part_7 rfl (lv_at hl 3 rfl) ?_
  have hdj := dots_b fp j
  refine lv_icmp_ge (tgt := 34) hx hb dX15_part_8 (by decide) (fun c_116 => ?_) (fun c_116 => ?_)
  ·
    have hi_117 : k ≤ w := leN (N := k) c_116
    refine W.widen (k := 0) (n := 0) (by omega) (by omega) ?_
    have hF_119 : F pe = .inr (14, [.ref rp, .int (nI z)]) := (hR pe (by rw [hT_pe]; simp)).symm.trans hF_114
    have hF_120 : F rp = .inl (cs 17, 100, .inl fp) := (hR rp (by rw [ht_104]; simp)).symm.trans hF_115
    refine pl_loopm (σ := Nat × Nat) A (dC, dI) cs ty gm L [ρ + 6] F 34 5 (fun (i, yy) => [(3, .int (nI i)), (0, .ref h0), (1, .int (nI k)), (2, .ref g2)]) (fun (i, yy) => []) (fun (i, yy) FF => i ≤ z ∧ yy ≤ 61 ∧ FF g2 = .inr (14, [.ref r2, .int (nI yy)])) (fun (i, yy) => z - i) ?_ (j, y) F_109 (⟨by omega, by omega, hv3⟩) hO hR _ _ hP hD hS ls (lv_sub hl [1, 2, 3, 4] rfl)
    rintro ⟨i, yy⟩ F_118 hv_121 hO hR ih_122 H locs hP hD hS ls hl
    have hl : lv_has ls 5 [(3, .int (nI i)), (0, .ref h0), (1, .int (nI k)), (2, .ref g2)] := hl
    have hv_121 : i ≤ z ∧ yy ≤ 61 ∧ F_118 g2 = .inr (14, [.ref r2, .int (nI yy)]) := hv_121
    refine W.eq (g2 := F0 m 34 ls []) rfl ?_
    have hF_123 : F_118 pe = .inr (14, [.ref rp, .int (nI z)]) := (hR pe (by rw [hT_pe]; simp)).trans hF_119
    have hF_124 : F_118 rp = .inl (cs 17, 100, .inl fp) := (hR rp (by rw [ht_104]; simp)).trans hF_120
    obtain ⟨hu1, hu2, hu3⟩ := hv_121
    refine lv_iload_n hx hb dX15_part_34 rfl (lv_at hl 0 rfl) ?_
    refine lv_aload_n hx hb dX15_part_35 rfl (lv_at hl 1 rfl) ?_
    obtain ⟨zo_125, ze_126, v11_127, v12_128, v14_129, v15_130, v17_131, v18_132, v19_133, v20_134, v21_135, v22_136, v33_137, v52_138, v53_139, v54_140, hF_141, hq_142, hq_143, hq_144, hq_145⟩ := hO.mod hL_h0 hT_h0
    refine pg_get (ci := 15) (v := .ref pe) (C := RX15) (T := TX15) (N := 59) hx hb hts it_15 hown hK hP hL_h0 hF_141 rfl 16 (by decide) (hts _ kt_768) (fun _ h9 => h9) rfl dX15_part_36 ?_
    refine pg_get (ci := 14) (v := .int (nI z)) (C := RX14) (T := TX14) (N := 2) hx hb hts it_14 hown hK hP hL_pe hF_123 rfl 1 (by decide) (hts _ kt_709) (fun _ h9 => h9) rfl dX15_part_39 ?_
    refine lv_icmp_ge (tgt := 78) hx hb dX15_part_42 (by decide) (fun c_146 => ?_) (fun c_146 => ?_)
    ·
      have hi_147 : z ≤ i := leN (N := z) c_146
      refine W.widen (k := 0) (n := 0) (by omega) (by omega) ?_
      exact W.vret hx hb hr (fun t ht hWm => ⟨⟨(), rfl, trivial, ⟨F_118, yy, QTm.mk ht hP hD hO hR, hu3, by omega⟩⟩, hS.F ht⟩) hS.2.2 dX15_part_78
    ·
      have hi_148 : i < z := ltN (N := z) c_146
      refine lv_aload_n hx hb dX15_part_45 rfl (lv_at hl 1 rfl) ?_
      refine pg_get (ci := 15) (v := .ref pe) (C := RX15) (T := TX15) (N := 59) hx hb hts it_15 hown hK hP hL_h0 hF_141 rfl 16 (by decide) (hts _ kt_768) (fun _ h9 => h9) rfl dX15_part_46 ?_
      refine pg_get (ci := 14) (v := .ref rp) (C := RX14) (T := TX14) (N := 2) hx hb hts it_14 hown hK hP hL_pe hF_123 rfl 0 (by decide) (hts _ kt_710) (fun _ h9 => h9) rfl dX15_part_49 ?_
      refine lv_iload_n hx hb dX15_part_52 rfl (lv_at hl 0 rfl) ?_
      obtain ⟨hq_149, hq_150⟩ := hW.octs hi_103 ht_104
      refine pg_bald hx hb hK hP hi_103 1 hF_124 rfl (vp_in_nI (by omega) (by omega)) dX15_part_53 ?_
      refine lv_topi (fun x_151 ex_151 => ?_)
      obtain rfl : x_151 = fp i := ex_151.trans (congrArg fp (show ((nI i) : Int32).toNatClampNeg = i from nI_clamp (by omega)))
      refine lv_bipush (v := 46) hx hb dX15_part_54 (by decide) ?_
      refine lv_icmp_eq (tgt := 78) hx hb dX15_part_56 (by decide) (fun c_152 => ?_) (fun c_152 => ?_)
      ·
        refine W.widen (k := 0) (n := 0) (by omega) (by omega) ?_
        exact W.vret hx hb hr (fun t ht hWm => ⟨⟨(), rfl, trivial, ⟨F_118, yy, QTm.mk ht hP hD hO hR, hu3, by omega⟩⟩, hS.F ht⟩) hS.2.2 dX15_part_78
      ·
        refine lv_aload_n hx hb dX15_part_59 rfl (lv_at hl 3 rfl) ?_
        refine lv_aload_n hx hb dX15_part_60 rfl (lv_at hl 1 rfl) ?_
        refine pg_get (ci := 15) (v := .ref pe) (C := RX15) (T := TX15) (N := 59) hx hb hts it_15 hown hK hP hL_h0 hF_141 rfl 16 (by decide) (hts _ kt_768) (fun _ h9 => h9) rfl dX15_part_61 ?_
        refine pg_get (ci := 14) (v := .ref rp) (C := RX14) (T := TX14) (N := 2) hx hb hts it_14 hown hK hP hL_pe hF_123 rfl 0 (by decide) (hts _ kt_710) (fun _ h9 => h9) rfl dX15_part_64 ?_
        refine lv_iload_n hx hb dX15_part_67 rfl (lv_at hl 0 rfl) ?_
        refine pg_bald hx hb hK hP hi_103 1 hF_124 rfl (vp_in_nI (by omega) (by omega)) dX15_part_68 ?_
        refine lv_topi (fun x_153 ex_153 => ?_)
        obtain rfl : x_153 = fp i := ex_153.trans (congrArg fp (show ((nI i) : Int32).toNatClampNeg = i from nI_clamp (by omega)))
        have hFc := pg_free hD hS hA
        refine va_callv (va_runS (As := [.ref g2, .int (fp i)]) (rest := []) ⟨hx, hb, hml, hown, hts⟩ (s_X15_put l dC dI cs ty gm L H.size F_118 g2 (ρ + 6) r2 61 yy (fp i) hW hL_g2 hT_g2 hu3 (by first | omega | assumption) (by first | omega | assumption)) ⟨callB_of 2 hts (gi kt_769) rfl rfl rfl (hts _ kt_669) (hts _ kt_770) (by decide +kernel) ⟨Nat.le_of_ble_eq_true rfl, Nat.le_of_ble_eq_true rfl⟩, (hts _ kt_771)⟩ ⟨fun a U g mk q => ⟨q.1, PTm.calling q.2⟩, fun U hU hWm => ⟨rfl, PTm.mk hU hWm hP hK hD hE hO⟩⟩ rfl rfl hl.1 rfl (lv_room (Nat.le_of_ble_eq_true rfl)) dX15_part_69 ⟨by show _ + 0 ≤ 0; omega, by show _ + 0 ≤ 0; omega⟩) hS (fun q _ h => hFc q h) hFc (fun u t H1 locs ht hvm hw hB hz1 hk1 hS => ?_)
        obtain ⟨F_155, z2_156, hB1, hq_157, hq_158⟩ := hB
        obtain ⟨hP, hD, hO, hR⟩ := QTm.back hB1 ht hFc hR (fun q h => by simp only [List.mem_cons, List.not_mem_nil, or_false] at h ⊢; omega)
        have hF_159 : F_155 pe = .inr (14, [.ref rp, .int (nI z)]) := (hB1.2.2.2 pe (by rw [hT_pe]; simp)).trans hF_123
        have hF_160 : F_155 rp = .inl (cs 17, 100, .inl fp) := (hB1.2.2.2 rp (by rw [ht_104]; simp)).trans hF_124
        have hF_161 : F_155 h0 = .inr (15, (.ref ta) :: (.int (nI zt)) :: (.int (nI zo_125)) :: (.int (nI ze_126)) :: (.ref ou) :: (.ref so) :: (.ref ad) :: (.ref na) :: (.ref va) :: (.ref lc) :: (.ref dm) :: (.int v11_127) :: (.int v12_128) :: (.ref tg) :: (.int v14_129) :: (.int v15_130) :: (.ref pe) :: (.int v17_131) :: (.int v18_132) :: (.int v19_133) :: (.int v20_134) :: (.int v21_135) :: (.int v22_136) :: (.ref ml) :: (.ref bg) :: (.ref co) :: (.ref sp) :: (.ref nb0) :: (.ref nb1) :: (.ref nb2) :: (.int (nI nf)) :: (.int (nI bd)) :: (.int (nI mm)) :: (.int v33_137) :: (.ref pl) :: (.ref se) :: (.ref ke) :: (.ref wi) :: (.ref hs) :: (.ref mo) :: (.ref po) :: (.ref nu) :: (.ref pr) :: (.ref sq) :: (.ref xa) :: (.ref sa) :: (.ref n64) :: (.ref m64) :: (.ref ex) :: (.ref wh) :: (.ref sd) :: (.ref tk) :: (.int v52_138) :: (.int v53_139) :: (.int v54_140) :: (.ref hd) :: (.ref ak) :: (.ref ho) :: (.ref ot) :: []) := (hB1.2.2.2 h0 (by rw [hT_h0]; simp)).trans hF_141
        generalize H1 = H at hP hS ⊢
        refine lv_iinc (v := (nI (i + 1))) (lv' := [(3, .int (nI (i + 1))), (0, .ref h0), (1, .int (nI k)), (2, .ref g2)]) hx hb dX15_part_72 hl (k := 0) rfl (nI_1 _) (by decide) rfl (fun ls hl => ?_)
        refine lv_goto (tgt := 34) hx hb dX15_part_75 (by decide) ?_
        refine W.widen (k := 0) (n := 0) (by omega) (by omega) ?_
        exact ih_122 ((i + 1), z2_156) F_155 (⟨by omega, by omega, hq_157⟩) (by show z - (i + 1) < z - i; omega) hO hR _ _ hP hD hS ls (lv_sub hl [0, 1, 2, 3] rfl)
  ·
    have hi_162 : w < k := ltN (N := k) c_116
    have hjz : j < z := by
      rcases Nat.lt_or_ge j z with q | q
      · exact q
      · have h9 := dots_le (f := fp) q
        omega
    refine lv_aload_n hx hb dX15_part_11 rfl (lv_at hl 2 rfl) ?_
    obtain ⟨zo_163, ze_164, v11_165, v12_166, v14_167, v15_168, v17_169, v18_170, v19_171, v20_172, v21_173, v22_174, v33_175, v52_176, v53_177, v54_178, hF_179, hq_180, hq_181, hq_182, hq_183⟩ := hO.mod hL_h0 hT_h0
    refine pg_get (ci := 15) (v := .ref pe) (C := RX15) (T := TX15) (N := 59) hx hb hts it_15 hown hK hP hL_h0 hF_179 rfl 16 (by decide) (hts _ kt_768) (fun _ h9 => h9) rfl dX15_part_12 ?_
    refine pg_get (ci := 14) (v := .ref rp) (C := RX14) (T := TX14) (N := 2) hx hb hts it_14 hown hK hP hL_pe hF_114 rfl 0 (by decide) (hts _ kt_710) (fun _ h9 => h9) rfl dX15_part_15 ?_
    refine lv_iload_n hx hb dX15_part_18 rfl (lv_at hl 1 rfl) ?_
    obtain ⟨hq_184, hq_185⟩ := hW.octs hi_103 ht_104
    refine pg_bald hx hb hK hP hi_103 1 hF_115 rfl (vp_in_nI (by omega) (by omega)) dX15_part_19 ?_
    refine lv_topi (fun x_186 ex_186 => ?_)
    obtain rfl : x_186 = fp j := ex_186.trans (congrArg fp (show ((nI j) : Int32).toNatClampNeg = j from nI_clamp (by omega)))
    refine lv_bipush (v := 46) hx hb dX15_part_20 (by decide) ?_
    refine lv_icmp_ne (tgt := 28) hx hb dX15_part_22 (by decide) (fun c_187 => ?_) (fun c_187 => ?_)
    ·
      refine lv_iinc (v := (nI (j + 1))) (lv' := [(3, .int (nI (j + 1))), (4, .int (nI w)), (0, .ref h0), (1, .int (nI k)), (2, .ref g2)]) hx hb dX15_part_28 hl (k := 1) rfl (nI_1 _) (by decide) rfl (fun ls hl => ?_)
      refine lv_goto (tgt := 5) hx hb dX15_part_31 (by decide) ?_
      refine W.widen (k := 0) (n := 0) (by omega) (by omega) ?_
      exact ih_113 ((j + 1), w) F_109 (⟨by rw [dots_n c_187]; omega, by omega, hv3⟩) (by show z - (j + 1) < z - j; omega) hO hR _ _ hP hD hS ls (lv_sub hl [1, 0, 2, 3, 4] rfl)
    ·
      refine lv_iinc (v := (nI (w + 1))) (lv' := [(4, .int (nI (w + 1))), (3, .int (nI j)), (0, .ref h0), (1, .int (nI k)), (2, .ref g2)]) hx hb dX15_part_25 hl (k := 0) rfl (nI_1 _) (by decide) rfl (fun ls hl => ?_)
      refine lv_iinc (v := (nI (j + 1))) (lv' := [(3, .int (nI (j + 1))), (4, .int (nI (w + 1))), (0, .ref h0), (1, .int (nI k)), (2, .ref g2)]) hx hb dX15_part_28 hl (k := 1) rfl (nI_1 _) (by decide) rfl (fun ls hl => ?_)
      refine lv_goto (tgt := 5) hx hb dX15_part_31 (by decide) ?_
      refine W.widen (k := 0) (n := 0) (by omega) (by omega) ?_
      exact ih_113 ((j + 1), (w + 1)) F_109 (⟨by rw [dots_y c_187]; omega, by omega, hv3⟩) (by show z - (j + 1) < z - j; omega) hO hR _ _ hP hD hS ls (lv_sub hl [1, 0, 2, 3, 4] rfl)
set_option maxHeartbeats 4000000 in
set_option maxRecDepth 100000 in
theorem s_X15_macroValue (l : Launch) (dC : Nat → ClassId) (dI : Nat → Nat → Nat) (cs : Nat → ClassId) (ty : TyM) (gm : Nat → Nat → Nat) (L : List Nat) (sz : Nat) (F : Nat → va_E) (h0 : Nat) (ρ : Nat) (ta : Nat) (ou : Nat) (so : Nat) (ad : Nat) (na : Nat) (va : Nat) (lc : Nat) (dm : Nat) (tg : Nat) (pe : Nat) (ml : Nat) (bg : Nat) (co : Nat) (sp : Nat) (nb0 : Nat) (nb1 : Nat) (nb2 : Nat) (pl : Nat) (se : Nat) (ke : Nat) (wi : Nat) (hs : Nat) (mo : Nat) (po : Nat) (nu : Nat) (pr : Nat) (sq : Nat) (xa : Nat) (sa : Nat) (n64 : Nat) (m64 : Nat) (ex : Nat) (wh : Nat) (sd : Nat) (tk : Nat) (hd : Nat) (ak : Nat) (ho : Nat) (ot : Nat) (sx : Nat) (s0 : Nat) (s1 : Nat) (s2 : Nat) (nf : Nat) (bd : Nat) (mm : Nat) (zt : Nat) (rp : Nat) (g2 : Nat) (r2 : Nat) (g1 : Nat) (fv : Nat → Int32) (dd : Nat) (τ : Nat) (rd : Nat) (nd : Nat) (a : Nat) (tt : Nat) (y : Nat) (hW : WTm ty gm L) (hL_h0 : h0 ∈ L) (hT_h0 : ty h0 = (15, ρ, [ta, ou, so, ad, na, va, lc, dm, tg, pe, ml, bg, co, sp, nb0, nb1, nb2, pl, se, ke, wi, hs, mo, po, nu, pr, sq, xa, sa, n64, m64, ex, wh, sd, tk, hd, ak, ho, ot, sx, s0, s1, s2, nf, bd, mm, zt])) (hL_pe : pe ∈ L) (hT_pe : ty pe = (14, ρ + 7, [rp, 100])) (hL_g2 : g2 ∈ L) (hT_g2 : ty g2 = (14, ρ + 6, [r2, 61])) (hL_g1 : g1 ∈ L) (hT_g1 : ty g1 = (17, ρ + 31, [700])) (hL_dd : dd ∈ L) (hT_dd : ty dd = (14, τ, [rd, nd])) (hFg : F g1 = .inl (cs 17, 700, .inl fv)) (hFi : F g2 = .inr (14, [.ref r2, .int (nI y)])) (hy : y ≤ 61) (ha : a < tt) (htn : tt ≤ 700) (hnd : nd ≤ 61) : Met l yX15_macroValue (.code yX15_macroValue cX15_macroValue 12 none :: tb) ({ frames := 3, cells := 0, slots := 0, locals := 71 }) (va_Pc [.ref h0, .ref g1, .int (nI a), .int (nI tt), .ref dd, .ref g2] (PTm (dC, dI) cs ty gm L F sz)) (va_Qv (fun _ : Unit => True) (fun _ T9 => ∃ F2 : Nat → va_E, ∃ y2 : Nat, QTm (dC, dI) cs ty gm L [ρ + 6, ρ + 7] F F2 (va_A (va_pl L F) sz) T9 ∧ F2 g2 = .inr (14, [.ref r2, .int (nI y2)]) ∧ y2 ≤ 61) (va_A (va_pl L F) sz)) 0 0 (va_A (va_pl L F) sz) := by
  refine Met.ofW (cc := cX15_macroValue) (maxL := 12) (ret := none) (by decide) rfl ?_
  intro p e s m args below meth c s₁ B hml hv
  obtain ⟨rfl, hsz, hP, hK, hD0, hE, hO⟩ := hv
  have hx := B.exec
  have hb := B.bytes
  have hr := B.returns
  have hts : ∀ w ∈ tb, w.before _ s = true := fun w h => atoms_spec (ws := .code yX15_macroValue cX15_macroValue 12 none :: tb) B.pre w (List.mem_cons_of_mem _ h)
  have hown : s.vm.findClass RX15 = some m.cls := findClass_of_methodNamed B.named
  have hlocks := B.notSynchronized
  subst hsz
  have hD := hD0.self (sz := s.heap.size)
  generalize hAe : va_A (va_pl L F) s.heap.size = A at hD ⊢
  have hA : ∀ q : Nat, s.heap.size ≤ q → A q := fun q h => by rw [← hAe]; exact Or.inr h
  have hS : va_S A s.heap s.heap [] := va_S.rf
  have hR : FR ty [ρ + 6, ρ + 7] F F := FR.refl
  have hl := lv_entry ([.ref h0, .ref g1, .int (nI a), .int (nI tt), .ref dd, .ref g2]) (n := 12) (Nat.le_of_ble_eq_true rfl)
  rw [lg_entry_eq]
  generalize (lg_sl ([.ref h0, .ref g1, .int (nI a), .int (nI tt), .ref dd, .ref g2]) ++ List.replicate (12 - (lg_sl ([.ref h0, .ref g1, .int (nI a), .int (nI tt), .ref dd, .ref g2])).length) Slot.unset).toArray = ls at hl ⊢
  have hl : lv_has ls 12 [(0, .ref h0), (1, .ref g1), (2, .int (nI a)), (3, .int (nI tt)), (4, .ref dd), (5, .ref g2)] := hl
  refine lv_aload_n hx hb dX15_macroValue_0 rfl (lv_at hl 1 rfl) ?_
  refine lv_iload_n hx hb dX15_macroValue_1 rfl (lv_at hl 2 rfl) ?_
  obtain ⟨hq_1, hq_2⟩ := hW.octs hL_g1 hT_g1
  refine pg_bald hx hb hK hP hL_g1 1 hFg rfl (vp_in_nI (by omega) (by omega)) dX15_macroValue_2 ?_
  refine lv_topi (fun x_3 ex_3 => ?_)
  obtain rfl : x_3 = fv a := ex_3.trans (congrArg fv (show ((nI a) : Int32).toNatClampNeg = a from nI_clamp (by omega)))
  refine lv_istore (lv' := [(6, .int (fv a)), (0, .ref h0), (1, .ref g1), (2, .int (nI a)), (3, .int (nI tt)), (4, .ref dd), (5, .ref g2)]) hx hb dX15_macroValue_3 hl (by decide) rfl (fun ls hl => ?_)
  refine lv_iconst (v := 0) hx hb dX15_macroValue_5 (by decide) ?_
  refine lv_istore (lv' := [(7, .int 0), (6, .int (fv a)), (0, .ref h0), (1, .ref g1), (2, .int (nI a)), (3, .int (nI tt)), (4, .ref dd), (5, .ref g2)]) hx hb dX15_macroValue_6 hl (by decide) rfl (fun ls hl => ?_)
  refine lv_iconst (v := 0) hx hb dX15_macroValue_8 (by decide) ?_
  refine lv_istore (lv' := [(8, .int 0), (7, .int 0), (6, .int (fv a)), (0, .ref h0), (1, .ref g1), (2, .int (nI a)), (3, .int (nI tt)), (4, .ref dd), (5, .ref g2)]) hx hb dX15_macroValue_9 hl (by decide) rfl (fun ls hl => ?_)
  have hF_6 : F g1 = .inl (cs 17, 700, .inl fv) := (hR g1 (by rw [hT_g1]; simp)).symm.trans hFg
  refine W.widen (k := 0) (n := 0) (by omega) (by omega) ?_
  refine pl_cutm (σ := Int32) A (dC, dI) cs ty gm L [ρ + 6, ρ + 7] F 33 12 (fun s9 => [(8, .int 0), (7, .int 0), (6, .int (fv a)), (0, .ref h0), (1, .ref g1), (2, .int (nI a)), (3, .int (nI tt)), (4, .ref dd), (5, .ref g2)]) (fun s9 => [.int s9]) (fun s9 FF => FF g2 = .inr (14, [.ref r2, .int (nI y)])) ?_ (fun jn_4 => ?_)
  ·
    rintro s9 F_5 hv_7 hO hR H locs hP hD hS ls hl
    have hl : lv_has ls 12 [(8, .int 0), (7, .int 0), (6, .int (fv a)), (0, .ref h0), (1, .ref g1), (2, .int (nI a)), (3, .int (nI tt)), (4, .ref dd), (5, .ref g2)] := hl
    have hv_7 : F_5 g2 = .inr (14, [.ref r2, .int (nI y)]) := hv_7
    refine W.eq (g2 := F0 m 33 ls [.int s9]) rfl ?_
    have hF_8 : F_5 g1 = .inl (cs 17, 700, .inl fv) := (hR g1 (by rw [hT_g1]; simp)).trans hF_6
    refine lv_istore (lv' := [(9, .int s9), (8, .int 0), (7, .int 0), (6, .int (fv a)), (0, .ref h0), (1, .ref g1), (2, .int (nI a)), (3, .int (nI tt)), (4, .ref dd), (5, .ref g2)]) hx hb dX15_macroValue_33 hl (by decide) rfl (fun ls hl => ?_)
    refine lv_iload_n hx hb dX15_macroValue_35 rfl (lv_at hl 6 rfl) ?_
    refine lv_iconst (v := 1) hx hb dX15_macroValue_36 (by decide) ?_
    refine lv_iadd hx hb dX15_macroValue_37 ?_
    refine lv_topi (fun x_9 ex_9 => ?_)
    obtain rfl : x_9 = (nI (a + 1)) := ex_9.trans (nI_add a 1)
    refine lv_istore (lv' := [(10, .int (nI (a + 1))), (9, .int s9), (8, .int 0), (7, .int 0), (6, .int (fv a)), (0, .ref h0), (1, .ref g1), (2, .int (nI a)), (3, .int (nI tt)), (4, .ref dd), (5, .ref g2)]) hx hb dX15_macroValue_38 hl (by decide) rfl (fun ls hl => ?_)
    refine W.widen (k := 0) (n := 0) (by omega) (by omega) ?_
    have hF_11 : F g1 = .inl (cs 17, 700, .inl fv) := (hR g1 (by rw [hT_g1]; simp)).symm.trans hF_8
    refine pl_loopm (σ := Nat × Nat) A (dC, dI) cs ty gm L [ρ + 6, ρ + 7] F 40 12 (fun (j, nn) => [(10, .int (nI j)), (9, .int s9), (8, .int (nI nn)), (7, .int 0), (6, .int (fv a)), (0, .ref h0), (1, .ref g1), (2, .int (nI a)), (3, .int (nI tt)), (4, .ref dd), (5, .ref g2)]) (fun (j, nn) => []) (fun (j, nn) FF => j ≤ tt ∧ nn ≤ 9 ∧ FF g2 = .inr (14, [.ref r2, .int (nI y)])) (fun (j, nn) => tt - j) ?_ ((a + 1), 0) F_5 (⟨by omega, by omega, hv_7⟩) hO hR _ _ hP hD hS ls (lv_sub hl [0, 1, 2, 3, 4, 5, 6, 7, 8, 9, 10] rfl)
    rintro ⟨j, nn⟩ F_10 hv_12 hO hR ih_13 H locs hP hD hS ls hl
    have hl : lv_has ls 12 [(10, .int (nI j)), (9, .int s9), (8, .int (nI nn)), (7, .int 0), (6, .int (fv a)), (0, .ref h0), (1, .ref g1), (2, .int (nI a)), (3, .int (nI tt)), (4, .ref dd), (5, .ref g2)] := hl
    have hv_12 : j ≤ tt ∧ nn ≤ 9 ∧ F_10 g2 = .inr (14, [.ref r2, .int (nI y)]) := hv_12
    refine W.eq (g2 := F0 m 40 ls []) rfl ?_
    have hF_14 : F_10 g1 = .inl (cs 17, 700, .inl fv) := (hR g1 (by rw [hT_g1]; simp)).trans hF_11
    obtain ⟨hn1, hn2, hn3⟩ := hv_12
    refine lv_iload hx hb dX15_macroValue_40 (lv_at hl 0 rfl) ?_
    refine lv_iload_n hx hb dX15_macroValue_42 rfl (lv_at hl 8 rfl) ?_
    refine lv_icmp_ge (tgt := 71) hx hb dX15_macroValue_43 (by decide) (fun c_15 => ?_) (fun c_15 => ?_)
    ·
      have hi_16 : tt ≤ j := leN (N := tt) c_15
      refine lv_aload_n hx hb dX15_macroValue_71 rfl (lv_at hl 5 rfl) ?_
      obtain ⟨hi_17, ht_18, hi_19, ht_20, hi_21, ht_22, hi_23, ht_24, hi_25, ht_26, hi_27, ht_28, hi_29, ⟨r_30, ht_31⟩, hi_32, ⟨r_33, ht_34⟩, hi_35, ht_36, _, _, hi_37, ht_38, hi_39, ht_40, hi_41, ht_42, hi_43, ht_44, hi_45, ht_46, hi_47, ht_48, hi_49, ht_50, hi_51, ⟨r_52, ht_53⟩, hi_54, ht_55, hi_56, ⟨x_57, y0_58, y1_59, y2_60, ht_61⟩, hi_62, ⟨x_63, y0_64, y1_65, y2_66, ht_67⟩, hi_68, ⟨x_69, y_70, w_71, u_72, bl_73, ht_74⟩, hi_75, ht_76, hi_77, ht_78, hi_79, ht_80, hi_81, ht_82, hi_83, ht_84, hi_85, ht_86, hi_87, ht_88, hi_89, ht_90, hi_91, ht_92, hi_93, ht_94, hi_95, ⟨r_96, ht_97⟩, hi_98, ⟨r_99, ht_100⟩, hi_101, ht_102, hi_103, ht_104, hi_105, ⟨r_106, ht_107⟩, hi_108, ⟨r_109, ht_110⟩, hi_111, ⟨r_112, ht_113⟩, hq_114, hq_115, hq_116, hq_117, hq_118, hgO, hgA, hgB⟩ := hW.mod hL_h0 hT_h0
      obtain ⟨zo_119, ze_120, v11_121, v12_122, v14_123, v15_124, v17_125, v18_126, v19_127, v20_128, v21_129, v22_130, v33_131, v52_132, v53_133, v54_134, hF_135, hq_136, hq_137, hq_138, hq_139⟩ := hO.mod hL_h0 hT_h0
      refine pg_get (ci := 15) (v := .ref pe) (C := RX15) (T := TX15) (N := 59) hx hb hts it_15 hown hK hP hL_h0 hF_135 rfl 16 (by decide) (hts _ kt_768) (fun _ h9 => h9) rfl dX15_macroValue_72 ?_
      refine lv_iconst (v := 0) hx hb dX15_macroValue_75 (by decide) ?_
      obtain ⟨hi_140, ht_141, hq_142⟩ := hW.txt hL_pe hT_pe
      obtain ⟨z_143, hF_144, hq_145⟩ := hO.txt hL_pe hT_pe
      refine pg_put (ci := 14) (v := .int 0) (ty := .int) (C := RX14) (T := TX14) (N := 2) hx hb hts it_14 tyX14 tyX14_ok nmX14 hown hK hP hD hS hL_pe hF_144 rfl 1 (by decide) (hts _ kt_709) (fun _ h9 => h9) rfl (by decide +kernel) (rfl) (rfl) (Nat.le_of_ble_eq_true rfl) dX15_macroValue_76 (fun H locs hP hD hS => ?_)
      obtain ⟨F_146, he_147, hP, hD, hO, hR⟩ : ∃ G, G = va_up F_10 pe (.inr (14, [.ref rp, .int 0])) ∧ va_P (dC, dI) vwCl (va_pl L G) H ∧ va_D A (va_pl L G) ∧ OKm cs ty gm L G ∧ FR ty [ρ + 6, ρ + 7] F G := ⟨_, rfl, hP, hD, hO.up (shm.txt hT_pe ⟨0, rfl, (by first | omega | assumption | exact Or.inl rfl | exact Or.inr rfl)⟩), hR.up hT_pe (by simp)⟩
      have hF_148 : F_146 pe = .inr (14, [.ref rp, .int 0]) := by rw [he_147]; exact up_self
      have hF_149 : F_146 g1 = .inl (cs 17, 700, .inl fv) := by rw [he_147, up_ne (ne_ty hT_g1 hT_pe (by simp))]; exact hF_14
      have hF_150 : F_146 g2 = .inr (14, [.ref r2, .int (nI y)]) := by rw [he_147, up_ne (ne_ty2 hT_g2 hT_pe (by simp))]; exact hn3
      have hF_151 : F_146 h0 = .inr (15, (.ref ta) :: (.int (nI zt)) :: (.int (nI zo_119)) :: (.int (nI ze_120)) :: (.ref ou) :: (.ref so) :: (.ref ad) :: (.ref na) :: (.ref va) :: (.ref lc) :: (.ref dm) :: (.int v11_121) :: (.int v12_122) :: (.ref tg) :: (.int v14_123) :: (.int v15_124) :: (.ref pe) :: (.int v17_125) :: (.int v18_126) :: (.int v19_127) :: (.int v20_128) :: (.int v21_129) :: (.int v22_130) :: (.ref ml) :: (.ref bg) :: (.ref co) :: (.ref sp) :: (.ref nb0) :: (.ref nb1) :: (.ref nb2) :: (.int (nI nf)) :: (.int (nI bd)) :: (.int (nI mm)) :: (.int v33_131) :: (.ref pl) :: (.ref se) :: (.ref ke) :: (.ref wi) :: (.ref hs) :: (.ref mo) :: (.ref po) :: (.ref nu) :: (.ref pr) :: (.ref sq) :: (.ref xa) :: (.ref sa) :: (.ref n64) :: (.ref m64) :: (.ref ex) :: (.ref wh) :: (.ref sd) :: (.ref tk) :: (.int v52_132) :: (.int v53_133) :: (.int v54_134) :: (.ref hd) :: (.ref ak) :: (.ref ho) :: (.ref ot) :: []) := by rw [he_147, up_ne (ne_ty hT_h0 hT_pe (by simp))]; exact hF_135
      have hF_154 : F g1 = .inl (cs 17, 700, .inl fv) := (hR g1 (by rw [hT_g1]; simp)).symm.trans hF_149
      have hF_155 : F h0 = .inr (15, (.ref ta) :: (.int (nI zt)) :: (.int (nI zo_119)) :: (.int (nI ze_120)) :: (.ref ou) :: (.ref so) :: (.ref ad) :: (.ref na) :: (.ref va) :: (.ref lc) :: (.ref dm) :: (.int v11_121) :: (.int v12_122) :: (.ref tg) :: (.int v14_123) :: (.int v15_124) :: (.ref pe) :: (.int v17_125) :: (.int v18_126) :: (.int v19_127) :: (.int v20_128) :: (.int v21_129) :: (.int v22_130) :: (.ref ml) :: (.ref bg) :: (.ref co) :: (.ref sp) :: (.ref nb0) :: (.ref nb1) :: (.ref nb2) :: (.int (nI nf)) :: (.int (nI bd)) :: (.int (nI mm)) :: (.int v33_131) :: (.ref pl) :: (.ref se) :: (.ref ke) :: (.ref wi) :: (.ref hs) :: (.ref mo) :: (.ref po) :: (.ref nu) :: (.ref pr) :: (.ref sq) :: (.ref xa) :: (.ref sa) :: (.ref n64) :: (.ref m64) :: (.ref ex) :: (.ref wh) :: (.ref sd) :: (.ref tk) :: (.int v52_132) :: (.int v53_133) :: (.int v54_134) :: (.ref hd) :: (.ref ak) :: (.ref ho) :: (.ref ot) :: []) := (hR h0 (by rw [hT_h0]; simp)).symm.trans hF_151
      refine W.widen (k := 0) (n := 0) (by omega) (by omega) ?_
      refine pl_cutm (σ := Nat) A (dC, dI) cs ty gm L [ρ + 6, ρ + 7] F 115 12 (fun zz115 => [(9, .int s9), (8, .int (nI nn)), (7, .int 0), (6, .int (fv a)), (0, .ref h0), (1, .ref g1), (2, .int (nI a)), (3, .int (nI tt)), (4, .ref dd), (5, .ref g2)]) (fun zz115 => []) (fun zz115 FF => FF g2 = .inr (14, [.ref r2, .int (nI y)]) ∧ FF pe = .inr (14, [.ref rp, .int (nI zz115)]) ∧ zz115 ≤ 30 ∧ (zz115 = 0 ∨ (fv a) = 115 ∨ (fv a) = 108)) ?_ (fun jn_152 => ?_)
      ·
        rintro zz115 F_153 hv_156 hO hR H locs hP hD hS ls hl
        have hl : lv_has ls 12 [(9, .int s9), (8, .int (nI nn)), (7, .int 0), (6, .int (fv a)), (0, .ref h0), (1, .ref g1), (2, .int (nI a)), (3, .int (nI tt)), (4, .ref dd), (5, .ref g2)] := hl
        have hv_156 : F_153 g2 = .inr (14, [.ref r2, .int (nI y)]) ∧ F_153 pe = .inr (14, [.ref rp, .int (nI zz115)]) ∧ zz115 ≤ 30 ∧ (zz115 = 0 ∨ (fv a) = 115 ∨ (fv a) = 108) := hv_156
        refine W.eq (g2 := F0 m 115 ls []) rfl ?_
        have hF_157 : F_153 g1 = .inl (cs 17, 700, .inl fv) := (hR g1 (by rw [hT_g1]; simp)).trans hF_154
        have hF_158 : F_153 h0 = .inr (15, (.ref ta) :: (.int (nI zt)) :: (.int (nI zo_119)) :: (.int (nI ze_120)) :: (.ref ou) :: (.ref so) :: (.ref ad) :: (.ref na) :: (.ref va) :: (.ref lc) :: (.ref dm) :: (.int v11_121) :: (.int v12_122) :: (.ref tg) :: (.int v14_123) :: (.int v15_124) :: (.ref pe) :: (.int v17_125) :: (.int v18_126) :: (.int v19_127) :: (.int v20_128) :: (.int v21_129) :: (.int v22_130) :: (.ref ml) :: (.ref bg) :: (.ref co) :: (.ref sp) :: (.ref nb0) :: (.ref nb1) :: (.ref nb2) :: (.int (nI nf)) :: (.int (nI bd)) :: (.int (nI mm)) :: (.int v33_131) :: (.ref pl) :: (.ref se) :: (.ref ke) :: (.ref wi) :: (.ref hs) :: (.ref mo) :: (.ref po) :: (.ref nu) :: (.ref pr) :: (.ref sq) :: (.ref xa) :: (.ref sa) :: (.ref n64) :: (.ref m64) :: (.ref ex) :: (.ref wh) :: (.ref sd) :: (.ref tk) :: (.int v52_132) :: (.int v53_133) :: (.int v54_134) :: (.ref hd) :: (.ref ak) :: (.ref ho) :: (.ref ot) :: []) := (hR h0 (by rw [hT_h0]; simp)).trans hF_155
        obtain ⟨hwaa, hwab, hwac, hwad⟩ := hv_156
        have hF_161 : F g1 = .inl (cs 17, 700, .inl fv) := (hR g1 (by rw [hT_g1]; simp)).symm.trans hF_157
        have hF_162 : F h0 = .inr (15, (.ref ta) :: (.int (nI zt)) :: (.int (nI zo_119)) :: (.int (nI ze_120)) :: (.ref ou) :: (.ref so) :: (.ref ad) :: (.ref na) :: (.ref va) :: (.ref lc) :: (.ref dm) :: (.int v11_121) :: (.int v12_122) :: (.ref tg) :: (.int v14_123) :: (.int v15_124) :: (.ref pe) :: (.int v17_125) :: (.int v18_126) :: (.int v19_127) :: (.int v20_128) :: (.int v21_129) :: (.int v22_130) :: (.ref ml) :: (.ref bg) :: (.ref co) :: (.ref sp) :: (.ref nb0) :: (.ref nb1) :: (.ref nb2) :: (.int (nI nf)) :: (.int (nI bd)) :: (.int (nI mm)) :: (.int v33_131) :: (.ref pl) :: (.ref se) :: (.ref ke) :: (.ref wi) :: (.ref hs) :: (.ref mo) :: (.ref po) :: (.ref nu) :: (.ref pr) :: (.ref sq) :: (.ref xa) :: (.ref sa) :: (.ref n64) :: (.ref m64) :: (.ref ex) :: (.ref wh) :: (.ref sd) :: (.ref tk) :: (.int v52_132) :: (.int v53_133) :: (.int v54_134) :: (.ref hd) :: (.ref ak) :: (.ref ho) :: (.ref ot) :: []) := (hR h0 (by rw [hT_h0]; simp)).symm.trans hF_158
        refine W.widen (k := 0) (n := 0) (by omega) (by omega) ?_
        refine pl_cutm (σ := Nat) A (dC, dI) cs ty gm L [ρ + 6, ρ + 7] F 131 12 (fun zz131 => [(9, .int s9), (8, .int (nI nn)), (7, .int 0), (6, .int (fv a)), (0, .ref h0), (1, .ref g1), (2, .int (nI a)), (3, .int (nI tt)), (4, .ref dd), (5, .ref g2)]) (fun zz131 => []) (fun zz131 FF => FF g2 = .inr (14, [.ref r2, .int (nI y)]) ∧ FF pe = .inr (14, [.ref rp, .int (nI zz131)]) ∧ zz131 ≤ 31 ∧ (zz131 = 0 ∨ (fv a) = 115 ∨ (fv a) = 108)) ?_ (fun jn_159 => ?_)
        ·
          rintro zz131 F_160 hv_163 hO hR H locs hP hD hS ls hl
          have hl : lv_has ls 12 [(9, .int s9), (8, .int (nI nn)), (7, .int 0), (6, .int (fv a)), (0, .ref h0), (1, .ref g1), (2, .int (nI a)), (3, .int (nI tt)), (4, .ref dd), (5, .ref g2)] := hl
          have hv_163 : F_160 g2 = .inr (14, [.ref r2, .int (nI y)]) ∧ F_160 pe = .inr (14, [.ref rp, .int (nI zz131)]) ∧ zz131 ≤ 31 ∧ (zz131 = 0 ∨ (fv a) = 115 ∨ (fv a) = 108) := hv_163
          refine W.eq (g2 := F0 m 131 ls []) rfl ?_
          have hF_164 : F_160 g1 = .inl (cs 17, 700, .inl fv) := (hR g1 (by rw [hT_g1]; simp)).trans hF_161
          have hF_165 : F_160 h0 = .inr (15, (.ref ta) :: (.int (nI zt)) :: (.int (nI zo_119)) :: (.int (nI ze_120)) :: (.ref ou) :: (.ref so) :: (.ref ad) :: (.ref na) :: (.ref va) :: (.ref lc) :: (.ref dm) :: (.int v11_121) :: (.int v12_122) :: (.ref tg) :: (.int v14_123) :: (.int v15_124) :: (.ref pe) :: (.int v17_125) :: (.int v18_126) :: (.int v19_127) :: (.int v20_128) :: (.int v21_129) :: (.int v22_130) :: (.ref ml) :: (.ref bg) :: (.ref co) :: (.ref sp) :: (.ref nb0) :: (.ref nb1) :: (.ref nb2) :: (.int (nI nf)) :: (.int (nI bd)) :: (.int (nI mm)) :: (.int v33_131) :: (.ref pl) :: (.ref se) :: (.ref ke) :: (.ref wi) :: (.ref hs) :: (.ref mo) :: (.ref po) :: (.ref nu) :: (.ref pr) :: (.ref sq) :: (.ref xa) :: (.ref sa) :: (.ref n64) :: (.ref m64) :: (.ref ex) :: (.ref wh) :: (.ref sd) :: (.ref tk) :: (.int v52_132) :: (.int v53_133) :: (.int v54_134) :: (.ref hd) :: (.ref ak) :: (.ref ho) :: (.ref ot) :: []) := (hR h0 (by rw [hT_h0]; simp)).trans hF_162
          obtain ⟨hwba, hwbb, hwbc, hwbd⟩ := hv_163
          have hF_168 : F g1 = .inl (cs 17, 700, .inl fv) := (hR g1 (by rw [hT_g1]; simp)).symm.trans hF_164
          have hF_169 : F h0 = .inr (15, (.ref ta) :: (.int (nI zt)) :: (.int (nI zo_119)) :: (.int (nI ze_120)) :: (.ref ou) :: (.ref so) :: (.ref ad) :: (.ref na) :: (.ref va) :: (.ref lc) :: (.ref dm) :: (.int v11_121) :: (.int v12_122) :: (.ref tg) :: (.int v14_123) :: (.int v15_124) :: (.ref pe) :: (.int v17_125) :: (.int v18_126) :: (.int v19_127) :: (.int v20_128) :: (.int v21_129) :: (.int v22_130) :: (.ref ml) :: (.ref bg) :: (.ref co) :: (.ref sp) :: (.ref nb0) :: (.ref nb1) :: (.ref nb2) :: (.int (nI nf)) :: (.int (nI bd)) :: (.int (nI mm)) :: (.int v33_131) :: (.ref pl) :: (.ref se) :: (.ref ke) :: (.ref wi) :: (.ref hs) :: (.ref mo) :: (.ref po) :: (.ref nu) :: (.ref pr) :: (.ref sq) :: (.ref xa) :: (.ref sa) :: (.ref n64) :: (.ref m64) :: (.ref ex) :: (.ref wh) :: (.ref sd) :: (.ref tk) :: (.int v52_132) :: (.int v53_133) :: (.int v54_134) :: (.ref hd) :: (.ref ak) :: (.ref ho) :: (.ref ot) :: []) := (hR h0 (by rw [hT_h0]; simp)).symm.trans hF_165
          refine W.widen (k := 0) (n := 0) (by omega) (by omega) ?_
          refine pl_cutm (σ := Nat) A (dC, dI) cs ty gm L [ρ + 6, ρ + 7] F 167 12 (fun zz167 => [(9, .int s9), (8, .int (nI nn)), (7, .int 0), (6, .int (fv a)), (0, .ref h0), (1, .ref g1), (2, .int (nI a)), (3, .int (nI tt)), (4, .ref dd), (5, .ref g2)]) (fun zz167 => []) (fun zz167 FF => FF g2 = .inr (14, [.ref r2, .int (nI y)]) ∧ FF pe = .inr (14, [.ref rp, .int (nI zz167)]) ∧ zz167 ≤ 91 ∧ (zz167 = 0 ∨ (fv a) = 115 ∨ (fv a) = 108 ∨ (fv a) = 111)) ?_ (fun jn_166 => ?_)
          ·
            rintro zz167 F_167 hv_170 hO hR H locs hP hD hS ls hl
            have hl : lv_has ls 12 [(9, .int s9), (8, .int (nI nn)), (7, .int 0), (6, .int (fv a)), (0, .ref h0), (1, .ref g1), (2, .int (nI a)), (3, .int (nI tt)), (4, .ref dd), (5, .ref g2)] := hl
            have hv_170 : F_167 g2 = .inr (14, [.ref r2, .int (nI y)]) ∧ F_167 pe = .inr (14, [.ref rp, .int (nI zz167)]) ∧ zz167 ≤ 91 ∧ (zz167 = 0 ∨ (fv a) = 115 ∨ (fv a) = 108 ∨ (fv a) = 111) := hv_170
            refine W.eq (g2 := F0 m 167 ls []) rfl ?_
            have hF_171 : F_167 g1 = .inl (cs 17, 700, .inl fv) := (hR g1 (by rw [hT_g1]; simp)).trans hF_168
            have hF_172 : F_167 h0 = .inr (15, (.ref ta) :: (.int (nI zt)) :: (.int (nI zo_119)) :: (.int (nI ze_120)) :: (.ref ou) :: (.ref so) :: (.ref ad) :: (.ref na) :: (.ref va) :: (.ref lc) :: (.ref dm) :: (.int v11_121) :: (.int v12_122) :: (.ref tg) :: (.int v14_123) :: (.int v15_124) :: (.ref pe) :: (.int v17_125) :: (.int v18_126) :: (.int v19_127) :: (.int v20_128) :: (.int v21_129) :: (.int v22_130) :: (.ref ml) :: (.ref bg) :: (.ref co) :: (.ref sp) :: (.ref nb0) :: (.ref nb1) :: (.ref nb2) :: (.int (nI nf)) :: (.int (nI bd)) :: (.int (nI mm)) :: (.int v33_131) :: (.ref pl) :: (.ref se) :: (.ref ke) :: (.ref wi) :: (.ref hs) :: (.ref mo) :: (.ref po) :: (.ref nu) :: (.ref pr) :: (.ref sq) :: (.ref xa) :: (.ref sa) :: (.ref n64) :: (.ref m64) :: (.ref ex) :: (.ref wh) :: (.ref sd) :: (.ref tk) :: (.int v52_132) :: (.int v53_133) :: (.int v54_134) :: (.ref hd) :: (.ref ak) :: (.ref ho) :: (.ref ot) :: []) := (hR h0 (by rw [hT_h0]; simp)).trans hF_169
            obtain ⟨hwca, hwcb, hwcc, hwcd⟩ := hv_170
            have hF_175 : F g1 = .inl (cs 17, 700, .inl fv) := (hR g1 (by rw [hT_g1]; simp)).symm.trans hF_171
            have hF_176 : F h0 = .inr (15, (.ref ta) :: (.int (nI zt)) :: (.int (nI zo_119)) :: (.int (nI ze_120)) :: (.ref ou) :: (.ref so) :: (.ref ad) :: (.ref na) :: (.ref va) :: (.ref lc) :: (.ref dm) :: (.int v11_121) :: (.int v12_122) :: (.ref tg) :: (.int v14_123) :: (.int v15_124) :: (.ref pe) :: (.int v17_125) :: (.int v18_126) :: (.int v19_127) :: (.int v20_128) :: (.int v21_129) :: (.int v22_130) :: (.ref ml) :: (.ref bg) :: (.ref co) :: (.ref sp) :: (.ref nb0) :: (.ref nb1) :: (.ref nb2) :: (.int (nI nf)) :: (.int (nI bd)) :: (.int (nI mm)) :: (.int v33_131) :: (.ref pl) :: (.ref se) :: (.ref ke) :: (.ref wi) :: (.ref hs) :: (.ref mo) :: (.ref po) :: (.ref nu) :: (.ref pr) :: (.ref sq) :: (.ref xa) :: (.ref sa) :: (.ref n64) :: (.ref m64) :: (.ref ex) :: (.ref wh) :: (.ref sd) :: (.ref tk) :: (.int v52_132) :: (.int v53_133) :: (.int v54_134) :: (.ref hd) :: (.ref ak) :: (.ref ho) :: (.ref ot) :: []) := (hR h0 (by rw [hT_h0]; simp)).symm.trans hF_172
            refine W.widen (k := 0) (n := 0) (by omega) (by omega) ?_
            refine pl_cutm (σ := Nat) A (dC, dI) cs ty gm L [ρ + 6, ρ + 7] F 192 12 (fun zz192 => [(9, .int s9), (8, .int (nI nn)), (7, .int 0), (6, .int (fv a)), (0, .ref h0), (1, .ref g1), (2, .int (nI a)), (3, .int (nI tt)), (4, .ref dd), (5, .ref g2)]) (fun zz192 => []) (fun zz192 FF => FF g2 = .inr (14, [.ref r2, .int (nI y)]) ∧ FF pe = .inr (14, [.ref rp, .int (nI zz192)]) ∧ zz192 ≤ 91 ∧ (zz192 = 0 ∨ (fv a) = 115 ∨ (fv a) = 108 ∨ (fv a) = 111 ∨ (fv a) = 100)) ?_ (fun jn_173 => ?_)
            ·
              rintro zz192 F_174 hv_177 hO hR H locs hP hD hS ls hl
              have hl : lv_has ls 12 [(9, .int s9), (8, .int (nI nn)), (7, .int 0), (6, .int (fv a)), (0, .ref h0), (1, .ref g1), (2, .int (nI a)), (3, .int (nI tt)), (4, .ref dd), (5, .ref g2)] := hl
              have hv_177 : F_174 g2 = .inr (14, [.ref r2, .int (nI y)]) ∧ F_174 pe = .inr (14, [.ref rp, .int (nI zz192)]) ∧ zz192 ≤ 91 ∧ (zz192 = 0 ∨ (fv a) = 115 ∨ (fv a) = 108 ∨ (fv a) = 111 ∨ (fv a) = 100) := hv_177
              refine W.eq (g2 := F0 m 192 ls []) rfl ?_
              have hF_178 : F_174 g1 = .inl (cs 17, 700, .inl fv) := (hR g1 (by rw [hT_g1]; simp)).trans hF_175
              have hF_179 : F_174 h0 = .inr (15, (.ref ta) :: (.int (nI zt)) :: (.int (nI zo_119)) :: (.int (nI ze_120)) :: (.ref ou) :: (.ref so) :: (.ref ad) :: (.ref na) :: (.ref va) :: (.ref lc) :: (.ref dm) :: (.int v11_121) :: (.int v12_122) :: (.ref tg) :: (.int v14_123) :: (.int v15_124) :: (.ref pe) :: (.int v17_125) :: (.int v18_126) :: (.int v19_127) :: (.int v20_128) :: (.int v21_129) :: (.int v22_130) :: (.ref ml) :: (.ref bg) :: (.ref co) :: (.ref sp) :: (.ref nb0) :: (.ref nb1) :: (.ref nb2) :: (.int (nI nf)) :: (.int (nI bd)) :: (.int (nI mm)) :: (.int v33_131) :: (.ref pl) :: (.ref se) :: (.ref ke) :: (.ref wi) :: (.ref hs) :: (.ref mo) :: (.ref po) :: (.ref nu) :: (.ref pr) :: (.ref sq) :: (.ref xa) :: (.ref sa) :: (.ref n64) :: (.ref m64) :: (.ref ex) :: (.ref wh) :: (.ref sd) :: (.ref tk) :: (.int v52_132) :: (.int v53_133) :: (.int v54_134) :: (.ref hd) :: (.ref ak) :: (.ref ho) :: (.ref ot) :: []) := (hR h0 (by rw [hT_h0]; simp)).trans hF_176
              obtain ⟨hwda, hwdb, hwdc, hwdd⟩ := hv_177
              have hF_182 : F g1 = .inl (cs 17, 700, .inl fv) := (hR g1 (by rw [hT_g1]; simp)).symm.trans hF_178
              have hF_183 : F h0 = .inr (15, (.ref ta) :: (.int (nI zt)) :: (.int (nI zo_119)) :: (.int (nI ze_120)) :: (.ref ou) :: (.ref so) :: (.ref ad) :: (.ref na) :: (.ref va) :: (.ref lc) :: (.ref dm) :: (.int v11_121) :: (.int v12_122) :: (.ref tg) :: (.int v14_123) :: (.int v15_124) :: (.ref pe) :: (.int v17_125) :: (.int v18_126) :: (.int v19_127) :: (.int v20_128) :: (.int v21_129) :: (.int v22_130) :: (.ref ml) :: (.ref bg) :: (.ref co) :: (.ref sp) :: (.ref nb0) :: (.ref nb1) :: (.ref nb2) :: (.int (nI nf)) :: (.int (nI bd)) :: (.int (nI mm)) :: (.int v33_131) :: (.ref pl) :: (.ref se) :: (.ref ke) :: (.ref wi) :: (.ref hs) :: (.ref mo) :: (.ref po) :: (.ref nu) :: (.ref pr) :: (.ref sq) :: (.ref xa) :: (.ref sa) :: (.ref n64) :: (.ref m64) :: (.ref ex) :: (.ref wh) :: (.ref sd) :: (.ref tk) :: (.int v52_132) :: (.int v53_133) :: (.int v54_134) :: (.ref hd) :: (.ref ak) :: (.ref ho) :: (.ref ot) :: []) := (hR h0 (by rw [hT_h0]; simp)).symm.trans hF_179
              refine W.widen (k := 0) (n := 0) (by omega) (by omega) ?_
              refine pl_cutm (σ := Nat) A (dC, dI) cs ty gm L [ρ + 6, ρ + 7] F 303 12 (fun ze9 => [(9, .int s9), (8, .int (nI nn)), (7, .int 0), (6, .int (fv a)), (0, .ref h0), (1, .ref g1), (2, .int (nI a)), (3, .int (nI tt)), (4, .ref dd), (5, .ref g2)]) (fun ze9 => []) (fun ze9 FF => FF g2 = .inr (14, [.ref r2, .int (nI y)]) ∧ FF pe = .inr (14, [.ref rp, .int (nI ze9)]) ∧ ze9 ≤ 91) ?_ (fun jn_180 => ?_)
              ·
                rintro ze9 F_181 hv_184 hO hR H locs hP hD hS ls hl
                have hl : lv_has ls 12 [(9, .int s9), (8, .int (nI nn)), (7, .int 0), (6, .int (fv a)), (0, .ref h0), (1, .ref g1), (2, .int (nI a)), (3, .int (nI tt)), (4, .ref dd), (5, .ref g2)] := hl
                have hv_184 : F_181 g2 = .inr (14, [.ref r2, .int (nI y)]) ∧ F_181 pe = .inr (14, [.ref rp, .int (nI ze9)]) ∧ ze9 ≤ 91 := hv_184
                refine W.eq (g2 := F0 m 303 ls []) rfl ?_
                have hF_185 : F_181 g1 = .inl (cs 17, 700, .inl fv) := (hR g1 (by rw [hT_g1]; simp)).trans hF_182
                have hF_186 : F_181 h0 = .inr (15, (.ref ta) :: (.int (nI zt)) :: (.int (nI zo_119)) :: (.int (nI ze_120)) :: (.ref ou) :: (.ref so) :: (.ref ad) :: (.ref na) :: (.ref va) :: (.ref lc) :: (.ref dm) :: (.int v11_121) :: (.int v12_122) :: (.ref tg) :: (.int v14_123) :: (.int v15_124) :: (.ref pe) :: (.int v17_125) :: (.int v18_126) :: (.int v19_127) :: (.int v20_128) :: (.int v21_129) :: (.int v22_130) :: (.ref ml) :: (.ref bg) :: (.ref co) :: (.ref sp) :: (.ref nb0) :: (.ref nb1) :: (.ref nb2) :: (.int (nI nf)) :: (.int (nI bd)) :: (.int (nI mm)) :: (.int v33_131) :: (.ref pl) :: (.ref se) :: (.ref ke) :: (.ref wi) :: (.ref hs) :: (.ref mo) :: (.ref po) :: (.ref nu) :: (.ref pr) :: (.ref sq) :: (.ref xa) :: (.ref sa) :: (.ref n64) :: (.ref m64) :: (.ref ex) :: (.ref wh) :: (.ref sd) :: (.ref tk) :: (.int v52_132) :: (.int v53_133) :: (.int v54_134) :: (.ref hd) :: (.ref ak) :: (.ref ho) :: (.ref ot) :: []) := (hR h0 (by rw [hT_h0]; simp)).trans hF_183
                obtain ⟨hy1, hy2, hy3⟩ := hv_184
                refine lv_iconst (v := 1) hx hb dX15_macroValue_303 (by decide) ?_
                refine lv_istore (lv' := [(7, .int 1), (9, .int s9), (8, .int (nI nn)), (6, .int (fv a)), (0, .ref h0), (1, .ref g1), (2, .int (nI a)), (3, .int (nI tt)), (4, .ref dd), (5, .ref g2)]) hx hb dX15_macroValue_304 hl (by decide) rfl (fun ls hl => ?_)
                refine lv_iconst (v := 0) hx hb dX15_macroValue_306 (by decide) ?_
                refine lv_istore (lv' := [(10, .int 0), (7, .int 1), (9, .int s9), (8, .int (nI nn)), (6, .int (fv a)), (0, .ref h0), (1, .ref g1), (2, .int (nI a)), (3, .int (nI tt)), (4, .ref dd), (5, .ref g2)]) hx hb dX15_macroValue_307 hl (by decide) rfl (fun ls hl => ?_)
                obtain ⟨hq_187, hq_188⟩ := hW.octs hi_140 ht_141
                obtain ⟨f_189, hF_190, hq_191⟩ := hO.octs hi_140 ht_141
                refine W.widen (k := 0) (n := 0) (by omega) (by omega) ?_
                have hF_193 : F g1 = .inl (cs 17, 700, .inl fv) := (hR g1 (by rw [hT_g1]; simp)).symm.trans hF_185
                have hF_194 : F h0 = .inr (15, (.ref ta) :: (.int (nI zt)) :: (.int (nI zo_119)) :: (.int (nI ze_120)) :: (.ref ou) :: (.ref so) :: (.ref ad) :: (.ref na) :: (.ref va) :: (.ref lc) :: (.ref dm) :: (.int v11_121) :: (.int v12_122) :: (.ref tg) :: (.int v14_123) :: (.int v15_124) :: (.ref pe) :: (.int v17_125) :: (.int v18_126) :: (.int v19_127) :: (.int v20_128) :: (.int v21_129) :: (.int v22_130) :: (.ref ml) :: (.ref bg) :: (.ref co) :: (.ref sp) :: (.ref nb0) :: (.ref nb1) :: (.ref nb2) :: (.int (nI nf)) :: (.int (nI bd)) :: (.int (nI mm)) :: (.int v33_131) :: (.ref pl) :: (.ref se) :: (.ref ke) :: (.ref wi) :: (.ref hs) :: (.ref mo) :: (.ref po) :: (.ref nu) :: (.ref pr) :: (.ref sq) :: (.ref xa) :: (.ref sa) :: (.ref n64) :: (.ref m64) :: (.ref ex) :: (.ref wh) :: (.ref sd) :: (.ref tk) :: (.int v52_132) :: (.int v53_133) :: (.int v54_134) :: (.ref hd) :: (.ref ak) :: (.ref ho) :: (.ref ot) :: []) := (hR h0 (by rw [hT_h0]; simp)).symm.trans hF_186
                refine pl_loopm (σ := Nat × Nat) A (dC, dI) cs ty gm L [ρ + 6, ρ + 7] F 309 12 (fun (j, w7) => [(10, .int (nI j)), (7, .int (nI w7)), (9, .int s9), (8, .int (nI nn)), (6, .int (fv a)), (0, .ref h0), (1, .ref g1), (2, .int (nI a)), (3, .int (nI tt)), (4, .ref dd), (5, .ref g2)]) (fun (j, w7) => []) (fun (j, w7) FF => w7 = 1 + dots f_189 j ∧ j ≤ ze9 ∧ FF g2 = .inr (14, [.ref r2, .int (nI y)]) ∧ FF pe = .inr (14, [.ref rp, .int (nI ze9)]) ∧ FF rp = .inl (cs 17, 100, .inl f_189)) (fun (j, w7) => ze9 - j) ?_ (0, 1) F_181 (⟨rfl, Nat.zero_le _, hy1, hy2, hF_190⟩) hO hR _ _ hP hD hS ls (lv_sub hl [0, 1, 2, 3, 4, 5, 6, 7, 8, 9, 10] rfl)
                rintro ⟨j, w7⟩ F_192 hv_195 hO hR ih_196 H locs hP hD hS ls hl
                have hl : lv_has ls 12 [(10, .int (nI j)), (7, .int (nI w7)), (9, .int s9), (8, .int (nI nn)), (6, .int (fv a)), (0, .ref h0), (1, .ref g1), (2, .int (nI a)), (3, .int (nI tt)), (4, .ref dd), (5, .ref g2)] := hl
                have hv_195 : w7 = 1 + dots f_189 j ∧ j ≤ ze9 ∧ F_192 g2 = .inr (14, [.ref r2, .int (nI y)]) ∧ F_192 pe = .inr (14, [.ref rp, .int (nI ze9)]) ∧ F_192 rp = .inl (cs 17, 100, .inl f_189) := hv_195
                refine W.eq (g2 := F0 m 309 ls []) rfl ?_
                have hF_197 : F_192 g1 = .inl (cs 17, 700, .inl fv) := (hR g1 (by rw [hT_g1]; simp)).trans hF_193
                have hF_198 : F_192 h0 = .inr (15, (.ref ta) :: (.int (nI zt)) :: (.int (nI zo_119)) :: (.int (nI ze_120)) :: (.ref ou) :: (.ref so) :: (.ref ad) :: (.ref na) :: (.ref va) :: (.ref lc) :: (.ref dm) :: (.int v11_121) :: (.int v12_122) :: (.ref tg) :: (.int v14_123) :: (.int v15_124) :: (.ref pe) :: (.int v17_125) :: (.int v18_126) :: (.int v19_127) :: (.int v20_128) :: (.int v21_129) :: (.int v22_130) :: (.ref ml) :: (.ref bg) :: (.ref co) :: (.ref sp) :: (.ref nb0) :: (.ref nb1) :: (.ref nb2) :: (.int (nI nf)) :: (.int (nI bd)) :: (.int (nI mm)) :: (.int v33_131) :: (.ref pl) :: (.ref se) :: (.ref ke) :: (.ref wi) :: (.ref hs) :: (.ref mo) :: (.ref po) :: (.ref nu) :: (.ref pr) :: (.ref sq) :: (.ref xa) :: (.ref sa) :: (.ref n64) :: (.ref m64) :: (.ref ex) :: (.ref wh) :: (.ref sd) :: (.ref tk) :: (.int v52_132) :: (.int v53_133) :: (.int v54_134) :: (.ref hd) :: (.ref ak) :: (.ref ho) :: (.ref ot) :: []) := (hR h0 (by rw [hT_h0]; simp)).trans hF_194
                obtain ⟨hc1, hc2, hc3, hc4, hc5⟩ := hv_195
                have hdb := dots_b f_189 j
                have hdb2 := dots_b f_189 ze9
                refine lv_iload hx hb dX15_macroValue_309 (lv_at hl 0 rfl) ?_
                refine lv_aload_n hx hb dX15_macroValue_311 rfl (lv_at hl 5 rfl) ?_
                refine pg_get (ci := 15) (v := .ref pe) (C := RX15) (T := TX15) (N := 59) hx hb hts it_15 hown hK hP hL_h0 hF_198 rfl 16 (by decide) (hts _ kt_768) (fun _ h9 => h9) rfl dX15_macroValue_312 ?_
                refine pg_get (ci := 14) (v := .int (nI ze9)) (C := RX14) (T := TX14) (N := 2) hx hb hts it_14 hown hK hP hL_pe hc4 rfl 1 (by decide) (hts _ kt_709) (fun _ h9 => h9) rfl dX15_macroValue_315 ?_
                refine lv_icmp_ge (tgt := 345) hx hb dX15_macroValue_318 (by decide) (fun c_199 => ?_) (fun c_199 => ?_)
                ·
                  have hi_200 : ze9 ≤ j := leN (N := ze9) c_199
                  have hw7 : w7 = 1 + dots f_189 ze9 := by rw [hc1, show j = ze9 from by omega]
                  have hF_203 : F g1 = .inl (cs 17, 700, .inl fv) := (hR g1 (by rw [hT_g1]; simp)).symm.trans hF_197
                  have hF_204 : F h0 = .inr (15, (.ref ta) :: (.int (nI zt)) :: (.int (nI zo_119)) :: (.int (nI ze_120)) :: (.ref ou) :: (.ref so) :: (.ref ad) :: (.ref na) :: (.ref va) :: (.ref lc) :: (.ref dm) :: (.int v11_121) :: (.int v12_122) :: (.ref tg) :: (.int v14_123) :: (.int v15_124) :: (.ref pe) :: (.int v17_125) :: (.int v18_126) :: (.int v19_127) :: (.int v20_128) :: (.int v21_129) :: (.int v22_130) :: (.ref ml) :: (.ref bg) :: (.ref co) :: (.ref sp) :: (.ref nb0) :: (.ref nb1) :: (.ref nb2) :: (.int (nI nf)) :: (.int (nI bd)) :: (.int (nI mm)) :: (.int v33_131) :: (.ref pl) :: (.ref se) :: (.ref ke) :: (.ref wi) :: (.ref hs) :: (.ref mo) :: (.ref po) :: (.ref nu) :: (.ref pr) :: (.ref sq) :: (.ref xa) :: (.ref sa) :: (.ref n64) :: (.ref m64) :: (.ref ex) :: (.ref wh) :: (.ref sd) :: (.ref tk) :: (.int v52_132) :: (.int v53_133) :: (.int v54_134) :: (.ref hd) :: (.ref ak) :: (.ref ho) :: (.ref ot) :: []) := (hR h0 (by rw [hT_h0]; simp)).symm.trans hF_198
                  refine W.widen (k := 0) (n := 0) (by omega) (by omega) ?_
                  refine pl_cutm (σ := Int32) A (dC, dI) cs ty gm L [ρ + 6, ρ + 7] F 366 12 (fun s10 => [(7, .int (nI w7)), (9, .int s9), (8, .int (nI nn)), (6, .int (fv a)), (0, .ref h0), (1, .ref g1), (2, .int (nI a)), (3, .int (nI tt)), (4, .ref dd), (5, .ref g2)]) (fun s10 => [.int s10]) (fun s10 FF => (∃ k : Nat, k ≤ w7 ∧ s10 = nI k) ∧ FF g2 = .inr (14, [.ref r2, .int (nI y)]) ∧ FF pe = .inr (14, [.ref rp, .int (nI ze9)]) ∧ FF rp = .inl (cs 17, 100, .inl f_189)) ?_ (fun jn_201 => ?_)
                  ·
                    rintro s10 F_202 hv_205 hO hR H locs hP hD hS ls hl
                    have hl : lv_has ls 12 [(7, .int (nI w7)), (9, .int s9), (8, .int (nI nn)), (6, .int (fv a)), (0, .ref h0), (1, .ref g1), (2, .int (nI a)), (3, .int (nI tt)), (4, .ref dd), (5, .ref g2)] := hl
                    have hv_205 : (∃ k : Nat, k ≤ w7 ∧ s10 = nI k) ∧ F_202 g2 = .inr (14, [.ref r2, .int (nI y)]) ∧ F_202 pe = .inr (14, [.ref rp, .int (nI ze9)]) ∧ F_202 rp = .inl (cs 17, 100, .inl f_189) := hv_205
                    refine W.eq (g2 := F0 m 366 ls [.int s10]) rfl ?_
                    have hF_206 : F_202 g1 = .inl (cs 17, 700, .inl fv) := (hR g1 (by rw [hT_g1]; simp)).trans hF_203
                    have hF_207 : F_202 h0 = .inr (15, (.ref ta) :: (.int (nI zt)) :: (.int (nI zo_119)) :: (.int (nI ze_120)) :: (.ref ou) :: (.ref so) :: (.ref ad) :: (.ref na) :: (.ref va) :: (.ref lc) :: (.ref dm) :: (.int v11_121) :: (.int v12_122) :: (.ref tg) :: (.int v14_123) :: (.int v15_124) :: (.ref pe) :: (.int v17_125) :: (.int v18_126) :: (.int v19_127) :: (.int v20_128) :: (.int v21_129) :: (.int v22_130) :: (.ref ml) :: (.ref bg) :: (.ref co) :: (.ref sp) :: (.ref nb0) :: (.ref nb1) :: (.ref nb2) :: (.int (nI nf)) :: (.int (nI bd)) :: (.int (nI mm)) :: (.int v33_131) :: (.ref pl) :: (.ref se) :: (.ref ke) :: (.ref wi) :: (.ref hs) :: (.ref mo) :: (.ref po) :: (.ref nu) :: (.ref pr) :: (.ref sq) :: (.ref xa) :: (.ref sa) :: (.ref n64) :: (.ref m64) :: (.ref ex) :: (.ref wh) :: (.ref sd) :: (.ref tk) :: (.int v52_132) :: (.int v53_133) :: (.int v54_134) :: (.ref hd) :: (.ref ak) :: (.ref ho) :: (.ref ot) :: []) := (hR h0 (by rw [hT_h0]; simp)).trans hF_204
                    obtain ⟨⟨kf, hkf, ekf⟩, hd1, hd2, hd3⟩ := hv_205
                    subst ekf
                    refine W.eq (g2 := F0 m 366 ls [.int (nI kf)]) rfl ?_
                    refine lv_istore (lv' := [(10, .int (nI kf)), (7, .int (nI w7)), (9, .int s9), (8, .int (nI nn)), (6, .int (fv a)), (0, .ref h0), (1, .ref g1), (2, .int (nI a)), (3, .int (nI tt)), (4, .ref dd), (5, .ref g2)]) hx hb dX15_macroValue_366 hl (by decide) rfl (fun ls hl => ?_)
                    refine lv_iload hx hb dX15_macroValue_368 (lv_at hl 0 rfl) ?_
                    refine lv_istore (lv' := [(11, .int (nI kf)), (10, .int (nI kf)), (7, .int (nI w7)), (9, .int s9), (8, .int (nI nn)), (6, .int (fv a)), (0, .ref h0), (1, .ref g1), (2, .int (nI a)), (3, .int (nI tt)), (4, .ref dd), (5, .ref g2)]) hx hb dX15_macroValue_370 hl (by decide) rfl (fun ls hl => ?_)
                    obtain ⟨hi_208, ht_209, hq_210⟩ := hW.txt hL_g2 hT_g2
                    refine W.widen (k := 0) (n := 0) (by omega) (by omega) ?_
                    have hF_212 : F g1 = .inl (cs 17, 700, .inl fv) := (hR g1 (by rw [hT_g1]; simp)).symm.trans hF_206
                    have hF_213 : F h0 = .inr (15, (.ref ta) :: (.int (nI zt)) :: (.int (nI zo_119)) :: (.int (nI ze_120)) :: (.ref ou) :: (.ref so) :: (.ref ad) :: (.ref na) :: (.ref va) :: (.ref lc) :: (.ref dm) :: (.int v11_121) :: (.int v12_122) :: (.ref tg) :: (.int v14_123) :: (.int v15_124) :: (.ref pe) :: (.int v17_125) :: (.int v18_126) :: (.int v19_127) :: (.int v20_128) :: (.int v21_129) :: (.int v22_130) :: (.ref ml) :: (.ref bg) :: (.ref co) :: (.ref sp) :: (.ref nb0) :: (.ref nb1) :: (.ref nb2) :: (.int (nI nf)) :: (.int (nI bd)) :: (.int (nI mm)) :: (.int v33_131) :: (.ref pl) :: (.ref se) :: (.ref ke) :: (.ref wi) :: (.ref hs) :: (.ref mo) :: (.ref po) :: (.ref nu) :: (.ref pr) :: (.ref sq) :: (.ref xa) :: (.ref sa) :: (.ref n64) :: (.ref m64) :: (.ref ex) :: (.ref wh) :: (.ref sd) :: (.ref tk) :: (.int v52_132) :: (.int v53_133) :: (.int v54_134) :: (.ref hd) :: (.ref ak) :: (.ref ho) :: (.ref ot) :: []) := (hR h0 (by rw [hT_h0]; simp)).symm.trans hF_207
                    refine pl_loopm (σ := Nat × Nat) A (dC, dI) cs ty gm L [ρ + 6, ρ + 7] F 372 12 (fun (i, yy) => [(11, .int (nI i)), (10, .int (nI kf)), (7, .int (nI w7)), (9, .int s9), (8, .int (nI nn)), (6, .int (fv a)), (0, .ref h0), (1, .ref g1), (2, .int (nI a)), (3, .int (nI tt)), (4, .ref dd), (5, .ref g2)]) (fun (i, yy) => []) (fun (i, yy) FF => i ≤ w7 ∧ yy ≤ 61 ∧ FF g2 = .inr (14, [.ref r2, .int (nI yy)]) ∧ FF pe = .inr (14, [.ref rp, .int (nI ze9)]) ∧ FF rp = .inl (cs 17, 100, .inl f_189)) (fun (i, yy) => w7 - i) ?_ (kf, y) F_202 (⟨by omega, by omega, hd1, hd2, hd3⟩) hO hR _ _ hP hD hS ls (lv_sub hl [0, 1, 2, 3, 4, 5, 6, 7, 8, 9, 10, 11] rfl)
                    rintro ⟨i, yy⟩ F_211 hv_214 hO hR ih_215 H locs hP hD hS ls hl
                    have hl : lv_has ls 12 [(11, .int (nI i)), (10, .int (nI kf)), (7, .int (nI w7)), (9, .int s9), (8, .int (nI nn)), (6, .int (fv a)), (0, .ref h0), (1, .ref g1), (2, .int (nI a)), (3, .int (nI tt)), (4, .ref dd), (5, .ref g2)] := hl
                    have hv_214 : i ≤ w7 ∧ yy ≤ 61 ∧ F_211 g2 = .inr (14, [.ref r2, .int (nI yy)]) ∧ F_211 pe = .inr (14, [.ref rp, .int (nI ze9)]) ∧ F_211 rp = .inl (cs 17, 100, .inl f_189) := hv_214
                    refine W.eq (g2 := F0 m 372 ls []) rfl ?_
                    have hF_216 : F_211 g1 = .inl (cs 17, 700, .inl fv) := (hR g1 (by rw [hT_g1]; simp)).trans hF_212
                    have hF_217 : F_211 h0 = .inr (15, (.ref ta) :: (.int (nI zt)) :: (.int (nI zo_119)) :: (.int (nI ze_120)) :: (.ref ou) :: (.ref so) :: (.ref ad) :: (.ref na) :: (.ref va) :: (.ref lc) :: (.ref dm) :: (.int v11_121) :: (.int v12_122) :: (.ref tg) :: (.int v14_123) :: (.int v15_124) :: (.ref pe) :: (.int v17_125) :: (.int v18_126) :: (.int v19_127) :: (.int v20_128) :: (.int v21_129) :: (.int v22_130) :: (.ref ml) :: (.ref bg) :: (.ref co) :: (.ref sp) :: (.ref nb0) :: (.ref nb1) :: (.ref nb2) :: (.int (nI nf)) :: (.int (nI bd)) :: (.int (nI mm)) :: (.int v33_131) :: (.ref pl) :: (.ref se) :: (.ref ke) :: (.ref wi) :: (.ref hs) :: (.ref mo) :: (.ref po) :: (.ref nu) :: (.ref pr) :: (.ref sq) :: (.ref xa) :: (.ref sa) :: (.ref n64) :: (.ref m64) :: (.ref ex) :: (.ref wh) :: (.ref sd) :: (.ref tk) :: (.int v52_132) :: (.int v53_133) :: (.int v54_134) :: (.ref hd) :: (.ref ak) :: (.ref ho) :: (.ref ot) :: []) := (hR h0 (by rw [hT_h0]; simp)).trans hF_213
                    obtain ⟨hf1, hf2, hf3, hf4, hf5⟩ := hv_214
                    refine lv_iload hx hb dX15_macroValue_372 (lv_at hl 0 rfl) ?_
                    refine lv_iload hx hb dX15_macroValue_374 (lv_at hl 2 rfl) ?_
                    refine lv_icmp_ge (tgt := 422) hx hb dX15_macroValue_376 (by decide) (fun c_218 => ?_) (fun c_218 => ?_)
                    ·
                      have hi_219 : w7 ≤ i := leN (N := w7) c_218
                      refine W.widen (k := 0) (n := 0) (by omega) (by omega) ?_
                      exact W.vret hx hb hr (fun t ht hWm => ⟨⟨(), rfl, trivial, ⟨F_211, yy, QTm.mk ht hP hD hO hR, hf3, by omega⟩⟩, hS.F ht⟩) hS.2.2 dX15_macroValue_422
                    ·
                      have hi_220 : i < w7 := ltN (N := w7) c_218
                      refine lv_iload hx hb dX15_macroValue_379 (lv_at hl 0 rfl) ?_
                      refine lv_iload hx hb dX15_macroValue_381 (lv_at hl 1 rfl) ?_
                      refine lv_icmp_le (tgt := 393) hx hb dX15_macroValue_383 (by decide) (fun c_221 => ?_) (fun c_221 => ?_)
                      ·
                        have hi_222 : i ≤ kf := (nI_leI (a := i) (b := kf) (by omega) (by omega)).mp c_221
                        refine lv_aload_n hx hb dX15_macroValue_393 rfl (lv_at hl 6 rfl) ?_
                        refine lv_iload hx hb dX15_macroValue_394 (lv_at hl 3 rfl) ?_
                        refine lv_if_eq (tgt := 409) hx hb dX15_macroValue_396 (by decide) (fun c_223 => ?_) (fun c_223 => ?_)
                        ·
                          refine lv_iload hx hb dX15_macroValue_409 (lv_at hl 0 rfl) ?_
                          refine lv_aload hx hb dX15_macroValue_411 (lv_at hl 11 rfl) ?_
                          obtain ⟨hi_224, ht_225, hq_226⟩ := hW.txt hL_g2 hT_g2
                          have hFc := pg_free hD hS hA
                          refine va_callv (va_runV (As := [.int (nI i), .ref g2]) (rest := []) ⟨hx, hb, hml, hown, hts⟩ (s_X15_part l dC dI cs ty gm L H.size F_211 h0 ρ ta ou so ad na va lc dm tg pe ml bg co sp nb0 nb1 nb2 pl se ke wi hs mo po nu pr sq xa sa n64 m64 ex wh sd tk hd ak ho ot sx s0 s1 s2 nf bd mm zt rp g2 r2 i ze9 yy f_189 hW hL_h0 hT_h0 hL_pe hT_pe hL_g2 hT_g2 hf4 hf5 hf3 (by first | omega | assumption) (by first | omega | assumption) (by first | omega | assumption)) ⟨callB_of 2 hts (gi kt_772) rfl rfl rfl (hts _ kt_669) (hts _ kt_773) (by decide +kernel) ⟨Nat.le_of_ble_eq_true rfl, Nat.le_of_ble_eq_true rfl⟩, (hts _ kt_774), (hts _ kt_775)⟩ ⟨fun a U g mk q => ⟨q.1, PTm.calling q.2⟩, pg_recv hK hP hL_h0 hF_217 (q := (RX15, TX15, 59)) rfl, fun U hU hWm => ⟨rfl, PTm.mk hU hWm hP hK hD hE hO⟩⟩ rfl rfl hl.1 rfl (lv_room (Nat.le_of_ble_eq_true rfl)) dX15_macroValue_413 ⟨by show _ + 0 ≤ 0; omega, by show _ + 0 ≤ 0; omega⟩) hS (fun q _ h => hFc q h) hFc (fun u t H1 locs ht hvm hw hB hz1 hk1 hS => ?_)
                          obtain ⟨F_228, y2_229, hB1, hq_230, hq_231⟩ := hB
                          obtain ⟨hP, hD, hO, hR⟩ := QTm.back hB1 ht hFc hR (fun q h => by simp only [List.mem_cons, List.not_mem_nil, or_false] at h ⊢; omega)
                          have hF_232 : F_228 g1 = .inl (cs 17, 700, .inl fv) := (hB1.2.2.2 g1 (by rw [hT_g1]; simp)).trans hF_216
                          have hF_233 : F_228 h0 = .inr (15, (.ref ta) :: (.int (nI zt)) :: (.int (nI zo_119)) :: (.int (nI ze_120)) :: (.ref ou) :: (.ref so) :: (.ref ad) :: (.ref na) :: (.ref va) :: (.ref lc) :: (.ref dm) :: (.int v11_121) :: (.int v12_122) :: (.ref tg) :: (.int v14_123) :: (.int v15_124) :: (.ref pe) :: (.int v17_125) :: (.int v18_126) :: (.int v19_127) :: (.int v20_128) :: (.int v21_129) :: (.int v22_130) :: (.ref ml) :: (.ref bg) :: (.ref co) :: (.ref sp) :: (.ref nb0) :: (.ref nb1) :: (.ref nb2) :: (.int (nI nf)) :: (.int (nI bd)) :: (.int (nI mm)) :: (.int v33_131) :: (.ref pl) :: (.ref se) :: (.ref ke) :: (.ref wi) :: (.ref hs) :: (.ref mo) :: (.ref po) :: (.ref nu) :: (.ref pr) :: (.ref sq) :: (.ref xa) :: (.ref sa) :: (.ref n64) :: (.ref m64) :: (.ref ex) :: (.ref wh) :: (.ref sd) :: (.ref tk) :: (.int v52_132) :: (.int v53_133) :: (.int v54_134) :: (.ref hd) :: (.ref ak) :: (.ref ho) :: (.ref ot) :: []) := (hB1.2.2.2 h0 (by rw [hT_h0]; simp)).trans hF_217
                          have hF_234 : F_228 pe = .inr (14, [.ref rp, .int (nI ze9)]) := (hB1.2.2.2 pe (by rw [hT_pe]; simp)).trans hf4
                          have hF_235 : F_228 rp = .inl (cs 17, 100, .inl f_189) := (hB1.2.2.2 rp (by rw [ht_141]; simp)).trans hf5
                          generalize H1 = H at hP hS ⊢
                          refine lv_iinc (v := (nI (i + 1))) (lv' := [(11, .int (nI (i + 1))), (10, .int (nI kf)), (7, .int (nI w7)), (9, .int s9), (8, .int (nI nn)), (6, .int (fv a)), (0, .ref h0), (1, .ref g1), (2, .int (nI a)), (3, .int (nI tt)), (4, .ref dd), (5, .ref g2)]) hx hb dX15_macroValue_416 hl (k := 0) rfl (nI_1 _) (by decide) rfl (fun ls hl => ?_)
                          refine lv_goto (tgt := 372) hx hb dX15_macroValue_419 (by decide) ?_
                          refine W.widen (k := 0) (n := 0) (by omega) (by omega) ?_
                          exact ih_215 ((i + 1), y2_229) F_228 (⟨by omega, by omega, hq_230, hF_234, hF_235⟩) (by show w7 - (i + 1) < w7 - i; omega) hO hR _ _ hP hD hS ls (lv_sub hl [0, 1, 2, 3, 4, 5, 6, 7, 8, 9, 10, 11] rfl)
                        ·
                          refine lv_iload hx hb dX15_macroValue_399 (lv_at hl 2 rfl) ?_
                          refine lv_iconst (v := 1) hx hb dX15_macroValue_401 (by decide) ?_
                          refine lv_isub hx hb dX15_macroValue_402 ?_
                          refine lv_topi (fun x_236 ex_236 => ?_)
                          obtain rfl : x_236 = (nI (w7 - 1)) := ex_236.trans (pk_sub (a := w7) (b := 1) (by omega))
                          refine lv_iload hx hb dX15_macroValue_403 (lv_at hl 0 rfl) ?_
                          refine lv_isub hx hb dX15_macroValue_405 ?_
                          refine lv_topi (fun x_237 ex_237 => ?_)
                          obtain rfl : x_237 = (nI ((w7 - 1) - i)) := ex_237.trans (pk_sub (a := (w7 - 1)) (b := i) (by omega))
                          refine lv_goto (tgt := 411) hx hb dX15_macroValue_406 (by decide) ?_
                          refine lv_aload hx hb dX15_macroValue_411 (lv_at hl 11 rfl) ?_
                          obtain ⟨hi_238, ht_239, hq_240⟩ := hW.txt hL_g2 hT_g2
                          have hFc := pg_free hD hS hA
                          refine va_callv (va_runV (As := [.int (nI ((w7 - 1) - i)), .ref g2]) (rest := []) ⟨hx, hb, hml, hown, hts⟩ (s_X15_part l dC dI cs ty gm L H.size F_211 h0 ρ ta ou so ad na va lc dm tg pe ml bg co sp nb0 nb1 nb2 pl se ke wi hs mo po nu pr sq xa sa n64 m64 ex wh sd tk hd ak ho ot sx s0 s1 s2 nf bd mm zt rp g2 r2 ((w7 - 1) - i) ze9 yy f_189 hW hL_h0 hT_h0 hL_pe hT_pe hL_g2 hT_g2 hf4 hf5 hf3 (by first | omega | assumption) (by first | omega | assumption) (by first | omega | assumption)) ⟨callB_of 2 hts (gi kt_772) rfl rfl rfl (hts _ kt_669) (hts _ kt_773) (by decide +kernel) ⟨Nat.le_of_ble_eq_true rfl, Nat.le_of_ble_eq_true rfl⟩, (hts _ kt_774), (hts _ kt_775)⟩ ⟨fun a U g mk q => ⟨q.1, PTm.calling q.2⟩, pg_recv hK hP hL_h0 hF_217 (q := (RX15, TX15, 59)) rfl, fun U hU hWm => ⟨rfl, PTm.mk hU hWm hP hK hD hE hO⟩⟩ rfl rfl hl.1 rfl (lv_room (Nat.le_of_ble_eq_true rfl)) dX15_macroValue_413 ⟨by show _ + 0 ≤ 0; omega, by show _ + 0 ≤ 0; omega⟩) hS (fun q _ h => hFc q h) hFc (fun u t H1 locs ht hvm hw hB hz1 hk1 hS => ?_)
                          obtain ⟨F_242, y2_243, hB1, hq_244, hq_245⟩ := hB
                          obtain ⟨hP, hD, hO, hR⟩ := QTm.back hB1 ht hFc hR (fun q h => by simp only [List.mem_cons, List.not_mem_nil, or_false] at h ⊢; omega)
                          have hF_246 : F_242 g1 = .inl (cs 17, 700, .inl fv) := (hB1.2.2.2 g1 (by rw [hT_g1]; simp)).trans hF_216
                          have hF_247 : F_242 h0 = .inr (15, (.ref ta) :: (.int (nI zt)) :: (.int (nI zo_119)) :: (.int (nI ze_120)) :: (.ref ou) :: (.ref so) :: (.ref ad) :: (.ref na) :: (.ref va) :: (.ref lc) :: (.ref dm) :: (.int v11_121) :: (.int v12_122) :: (.ref tg) :: (.int v14_123) :: (.int v15_124) :: (.ref pe) :: (.int v17_125) :: (.int v18_126) :: (.int v19_127) :: (.int v20_128) :: (.int v21_129) :: (.int v22_130) :: (.ref ml) :: (.ref bg) :: (.ref co) :: (.ref sp) :: (.ref nb0) :: (.ref nb1) :: (.ref nb2) :: (.int (nI nf)) :: (.int (nI bd)) :: (.int (nI mm)) :: (.int v33_131) :: (.ref pl) :: (.ref se) :: (.ref ke) :: (.ref wi) :: (.ref hs) :: (.ref mo) :: (.ref po) :: (.ref nu) :: (.ref pr) :: (.ref sq) :: (.ref xa) :: (.ref sa) :: (.ref n64) :: (.ref m64) :: (.ref ex) :: (.ref wh) :: (.ref sd) :: (.ref tk) :: (.int v52_132) :: (.int v53_133) :: (.int v54_134) :: (.ref hd) :: (.ref ak) :: (.ref ho) :: (.ref ot) :: []) := (hB1.2.2.2 h0 (by rw [hT_h0]; simp)).trans hF_217
                          have hF_248 : F_242 pe = .inr (14, [.ref rp, .int (nI ze9)]) := (hB1.2.2.2 pe (by rw [hT_pe]; simp)).trans hf4
                          have hF_249 : F_242 rp = .inl (cs 17, 100, .inl f_189) := (hB1.2.2.2 rp (by rw [ht_141]; simp)).trans hf5
                          generalize H1 = H at hP hS ⊢
                          refine lv_iinc (v := (nI (i + 1))) (lv' := [(11, .int (nI (i + 1))), (10, .int (nI kf)), (7, .int (nI w7)), (9, .int s9), (8, .int (nI nn)), (6, .int (fv a)), (0, .ref h0), (1, .ref g1), (2, .int (nI a)), (3, .int (nI tt)), (4, .ref dd), (5, .ref g2)]) hx hb dX15_macroValue_416 hl (k := 0) rfl (nI_1 _) (by decide) rfl (fun ls hl => ?_)
                          refine lv_goto (tgt := 372) hx hb dX15_macroValue_419 (by decide) ?_
                          refine W.widen (k := 0) (n := 0) (by omega) (by omega) ?_
                          exact ih_215 ((i + 1), y2_243) F_242 (⟨by omega, by omega, hq_244, hF_248, hF_249⟩) (by show w7 - (i + 1) < w7 - i; omega) hO hR _ _ hP hD hS ls (lv_sub hl [0, 1, 2, 3, 4, 5, 6, 7, 8, 9, 10, 11] rfl)
                      ·
                        have hi_250 : kf < i := Nat.not_le.mp (fun q => c_221 ((nI_leI (a := i) (b := kf) (by omega) (by omega)).mpr q))
                        refine lv_aload hx hb dX15_macroValue_386 (lv_at hl 11 rfl) ?_
                        refine lv_bipush (v := 46) hx hb dX15_macroValue_388 (by decide) ?_
                        obtain ⟨hi_251, ht_252, hq_253⟩ := hW.txt hL_g2 hT_g2
                        have hFc := pg_free hD hS hA
                        refine va_callv (va_runS (As := [.ref g2, .int 46]) (rest := []) ⟨hx, hb, hml, hown, hts⟩ (s_X15_put l dC dI cs ty gm L H.size F_211 g2 (ρ + 6) r2 61 yy 46 hW hL_g2 hT_g2 hf3 (by first | omega | assumption) (by first | omega | assumption)) ⟨callB_of 2 hts (gi kt_769) rfl rfl rfl (hts _ kt_669) (hts _ kt_770) (by decide +kernel) ⟨Nat.le_of_ble_eq_true rfl, Nat.le_of_ble_eq_true rfl⟩, (hts _ kt_771)⟩ ⟨fun a U g mk q => ⟨q.1, PTm.calling q.2⟩, fun U hU hWm => ⟨rfl, PTm.mk hU hWm hP hK hD hE hO⟩⟩ rfl rfl hl.1 rfl (lv_room (Nat.le_of_ble_eq_true rfl)) dX15_macroValue_390 ⟨by show _ + 0 ≤ 0; omega, by show _ + 0 ≤ 0; omega⟩) hS (fun q _ h => hFc q h) hFc (fun u t H1 locs ht hvm hw hB hz1 hk1 hS => ?_)
                        obtain ⟨F_255, z2_256, hB1, hq_257, hq_258⟩ := hB
                        obtain ⟨hP, hD, hO, hR⟩ := QTm.back hB1 ht hFc hR (fun q h => by simp only [List.mem_cons, List.not_mem_nil, or_false] at h ⊢; omega)
                        have hF_259 : F_255 g1 = .inl (cs 17, 700, .inl fv) := (hB1.2.2.2 g1 (by rw [hT_g1]; simp)).trans hF_216
                        have hF_260 : F_255 h0 = .inr (15, (.ref ta) :: (.int (nI zt)) :: (.int (nI zo_119)) :: (.int (nI ze_120)) :: (.ref ou) :: (.ref so) :: (.ref ad) :: (.ref na) :: (.ref va) :: (.ref lc) :: (.ref dm) :: (.int v11_121) :: (.int v12_122) :: (.ref tg) :: (.int v14_123) :: (.int v15_124) :: (.ref pe) :: (.int v17_125) :: (.int v18_126) :: (.int v19_127) :: (.int v20_128) :: (.int v21_129) :: (.int v22_130) :: (.ref ml) :: (.ref bg) :: (.ref co) :: (.ref sp) :: (.ref nb0) :: (.ref nb1) :: (.ref nb2) :: (.int (nI nf)) :: (.int (nI bd)) :: (.int (nI mm)) :: (.int v33_131) :: (.ref pl) :: (.ref se) :: (.ref ke) :: (.ref wi) :: (.ref hs) :: (.ref mo) :: (.ref po) :: (.ref nu) :: (.ref pr) :: (.ref sq) :: (.ref xa) :: (.ref sa) :: (.ref n64) :: (.ref m64) :: (.ref ex) :: (.ref wh) :: (.ref sd) :: (.ref tk) :: (.int v52_132) :: (.int v53_133) :: (.int v54_134) :: (.ref hd) :: (.ref ak) :: (.ref ho) :: (.ref ot) :: []) := (hB1.2.2.2 h0 (by rw [hT_h0]; simp)).trans hF_217
                        have hF_261 : F_255 pe = .inr (14, [.ref rp, .int (nI ze9)]) := (hB1.2.2.2 pe (by rw [hT_pe]; simp)).trans hf4
                        have hF_262 : F_255 rp = .inl (cs 17, 100, .inl f_189) := (hB1.2.2.2 rp (by rw [ht_141]; simp)).trans hf5
                        generalize H1 = H at hP hS ⊢
                        refine lv_aload_n hx hb dX15_macroValue_393 rfl (lv_at hl 6 rfl) ?_
                        refine lv_iload hx hb dX15_macroValue_394 (lv_at hl 3 rfl) ?_
                        refine lv_if_eq (tgt := 409) hx hb dX15_macroValue_396 (by decide) (fun c_263 => ?_) (fun c_263 => ?_)
                        ·
                          refine lv_iload hx hb dX15_macroValue_409 (lv_at hl 0 rfl) ?_
                          refine lv_aload hx hb dX15_macroValue_411 (lv_at hl 11 rfl) ?_
                          have hFc := pg_free hD hS hA
                          refine va_callv (va_runV (As := [.int (nI i), .ref g2]) (rest := []) ⟨hx, hb, hml, hown, hts⟩ (s_X15_part l dC dI cs ty gm L H.size F_255 h0 ρ ta ou so ad na va lc dm tg pe ml bg co sp nb0 nb1 nb2 pl se ke wi hs mo po nu pr sq xa sa n64 m64 ex wh sd tk hd ak ho ot sx s0 s1 s2 nf bd mm zt rp g2 r2 i ze9 z2_256 f_189 hW hL_h0 hT_h0 hL_pe hT_pe hL_g2 hT_g2 hF_261 hF_262 hq_257 (by first | omega | assumption) (by first | omega | assumption) (by first | omega | assumption)) ⟨callB_of 2 hts (gi kt_772) rfl rfl rfl (hts _ kt_669) (hts _ kt_773) (by decide +kernel) ⟨Nat.le_of_ble_eq_true rfl, Nat.le_of_ble_eq_true rfl⟩, (hts _ kt_774), (hts _ kt_775)⟩ ⟨fun a U g mk q => ⟨q.1, PTm.calling q.2⟩, pg_recv hK hP hL_h0 hF_260 (q := (RX15, TX15, 59)) rfl, fun U hU hWm => ⟨rfl, PTm.mk hU hWm hP hK hD hE hO⟩⟩ rfl rfl hl.1 rfl (lv_room (Nat.le_of_ble_eq_true rfl)) dX15_macroValue_413 ⟨by show _ + 0 ≤ 0; omega, by show _ + 0 ≤ 0; omega⟩) hS (fun q _ h => hFc q h) hFc (fun u t H1 locs ht hvm hw hB hz1 hk1 hS => ?_)
                          obtain ⟨F_265, y2_266, hB1, hq_267, hq_268⟩ := hB
                          obtain ⟨hP, hD, hO, hR⟩ := QTm.back hB1 ht hFc hR (fun q h => by simp only [List.mem_cons, List.not_mem_nil, or_false] at h ⊢; omega)
                          have hF_269 : F_265 g1 = .inl (cs 17, 700, .inl fv) := (hB1.2.2.2 g1 (by rw [hT_g1]; simp)).trans hF_259
                          have hF_270 : F_265 h0 = .inr (15, (.ref ta) :: (.int (nI zt)) :: (.int (nI zo_119)) :: (.int (nI ze_120)) :: (.ref ou) :: (.ref so) :: (.ref ad) :: (.ref na) :: (.ref va) :: (.ref lc) :: (.ref dm) :: (.int v11_121) :: (.int v12_122) :: (.ref tg) :: (.int v14_123) :: (.int v15_124) :: (.ref pe) :: (.int v17_125) :: (.int v18_126) :: (.int v19_127) :: (.int v20_128) :: (.int v21_129) :: (.int v22_130) :: (.ref ml) :: (.ref bg) :: (.ref co) :: (.ref sp) :: (.ref nb0) :: (.ref nb1) :: (.ref nb2) :: (.int (nI nf)) :: (.int (nI bd)) :: (.int (nI mm)) :: (.int v33_131) :: (.ref pl) :: (.ref se) :: (.ref ke) :: (.ref wi) :: (.ref hs) :: (.ref mo) :: (.ref po) :: (.ref nu) :: (.ref pr) :: (.ref sq) :: (.ref xa) :: (.ref sa) :: (.ref n64) :: (.ref m64) :: (.ref ex) :: (.ref wh) :: (.ref sd) :: (.ref tk) :: (.int v52_132) :: (.int v53_133) :: (.int v54_134) :: (.ref hd) :: (.ref ak) :: (.ref ho) :: (.ref ot) :: []) := (hB1.2.2.2 h0 (by rw [hT_h0]; simp)).trans hF_260
                          have hF_271 : F_265 pe = .inr (14, [.ref rp, .int (nI ze9)]) := (hB1.2.2.2 pe (by rw [hT_pe]; simp)).trans hF_261
                          have hF_272 : F_265 rp = .inl (cs 17, 100, .inl f_189) := (hB1.2.2.2 rp (by rw [ht_141]; simp)).trans hF_262
                          generalize H1 = H at hP hS ⊢
                          refine lv_iinc (v := (nI (i + 1))) (lv' := [(11, .int (nI (i + 1))), (10, .int (nI kf)), (7, .int (nI w7)), (9, .int s9), (8, .int (nI nn)), (6, .int (fv a)), (0, .ref h0), (1, .ref g1), (2, .int (nI a)), (3, .int (nI tt)), (4, .ref dd), (5, .ref g2)]) hx hb dX15_macroValue_416 hl (k := 0) rfl (nI_1 _) (by decide) rfl (fun ls hl => ?_)
                          refine lv_goto (tgt := 372) hx hb dX15_macroValue_419 (by decide) ?_
                          refine W.widen (k := 0) (n := 0) (by omega) (by omega) ?_
                          exact ih_215 ((i + 1), y2_266) F_265 (⟨by omega, by omega, hq_267, hF_271, hF_272⟩) (by show w7 - (i + 1) < w7 - i; omega) hO hR _ _ hP hD hS ls (lv_sub hl [0, 1, 2, 3, 4, 5, 6, 7, 8, 9, 10, 11] rfl)
                        ·
                          refine lv_iload hx hb dX15_macroValue_399 (lv_at hl 2 rfl) ?_
                          refine lv_iconst (v := 1) hx hb dX15_macroValue_401 (by decide) ?_
                          refine lv_isub hx hb dX15_macroValue_402 ?_
                          refine lv_topi (fun x_273 ex_273 => ?_)
                          obtain rfl : x_273 = (nI (w7 - 1)) := ex_273.trans (pk_sub (a := w7) (b := 1) (by omega))
                          refine lv_iload hx hb dX15_macroValue_403 (lv_at hl 0 rfl) ?_
                          refine lv_isub hx hb dX15_macroValue_405 ?_
                          refine lv_topi (fun x_274 ex_274 => ?_)
                          obtain rfl : x_274 = (nI ((w7 - 1) - i)) := ex_274.trans (pk_sub (a := (w7 - 1)) (b := i) (by omega))
                          refine lv_goto (tgt := 411) hx hb dX15_macroValue_406 (by decide) ?_
                          refine lv_aload hx hb dX15_macroValue_411 (lv_at hl 11 rfl) ?_
                          have hFc := pg_free hD hS hA
                          refine va_callv (va_runV (As := [.int (nI ((w7 - 1) - i)), .ref g2]) (rest := []) ⟨hx, hb, hml, hown, hts⟩ (s_X15_part l dC dI cs ty gm L H.size F_255 h0 ρ ta ou so ad na va lc dm tg pe ml bg co sp nb0 nb1 nb2 pl se ke wi hs mo po nu pr sq xa sa n64 m64 ex wh sd tk hd ak ho ot sx s0 s1 s2 nf bd mm zt rp g2 r2 ((w7 - 1) - i) ze9 z2_256 f_189 hW hL_h0 hT_h0 hL_pe hT_pe hL_g2 hT_g2 hF_261 hF_262 hq_257 (by first | omega | assumption) (by first | omega | assumption) (by first | omega | assumption)) ⟨callB_of 2 hts (gi kt_772) rfl rfl rfl (hts _ kt_669) (hts _ kt_773) (by decide +kernel) ⟨Nat.le_of_ble_eq_true rfl, Nat.le_of_ble_eq_true rfl⟩, (hts _ kt_774), (hts _ kt_775)⟩ ⟨fun a U g mk q => ⟨q.1, PTm.calling q.2⟩, pg_recv hK hP hL_h0 hF_260 (q := (RX15, TX15, 59)) rfl, fun U hU hWm => ⟨rfl, PTm.mk hU hWm hP hK hD hE hO⟩⟩ rfl rfl hl.1 rfl (lv_room (Nat.le_of_ble_eq_true rfl)) dX15_macroValue_413 ⟨by show _ + 0 ≤ 0; omega, by show _ + 0 ≤ 0; omega⟩) hS (fun q _ h => hFc q h) hFc (fun u t H1 locs ht hvm hw hB hz1 hk1 hS => ?_)
                          obtain ⟨F_276, y2_277, hB1, hq_278, hq_279⟩ := hB
                          obtain ⟨hP, hD, hO, hR⟩ := QTm.back hB1 ht hFc hR (fun q h => by simp only [List.mem_cons, List.not_mem_nil, or_false] at h ⊢; omega)
                          have hF_280 : F_276 g1 = .inl (cs 17, 700, .inl fv) := (hB1.2.2.2 g1 (by rw [hT_g1]; simp)).trans hF_259
                          have hF_281 : F_276 h0 = .inr (15, (.ref ta) :: (.int (nI zt)) :: (.int (nI zo_119)) :: (.int (nI ze_120)) :: (.ref ou) :: (.ref so) :: (.ref ad) :: (.ref na) :: (.ref va) :: (.ref lc) :: (.ref dm) :: (.int v11_121) :: (.int v12_122) :: (.ref tg) :: (.int v14_123) :: (.int v15_124) :: (.ref pe) :: (.int v17_125) :: (.int v18_126) :: (.int v19_127) :: (.int v20_128) :: (.int v21_129) :: (.int v22_130) :: (.ref ml) :: (.ref bg) :: (.ref co) :: (.ref sp) :: (.ref nb0) :: (.ref nb1) :: (.ref nb2) :: (.int (nI nf)) :: (.int (nI bd)) :: (.int (nI mm)) :: (.int v33_131) :: (.ref pl) :: (.ref se) :: (.ref ke) :: (.ref wi) :: (.ref hs) :: (.ref mo) :: (.ref po) :: (.ref nu) :: (.ref pr) :: (.ref sq) :: (.ref xa) :: (.ref sa) :: (.ref n64) :: (.ref m64) :: (.ref ex) :: (.ref wh) :: (.ref sd) :: (.ref tk) :: (.int v52_132) :: (.int v53_133) :: (.int v54_134) :: (.ref hd) :: (.ref ak) :: (.ref ho) :: (.ref ot) :: []) := (hB1.2.2.2 h0 (by rw [hT_h0]; simp)).trans hF_260
                          have hF_282 : F_276 pe = .inr (14, [.ref rp, .int (nI ze9)]) := (hB1.2.2.2 pe (by rw [hT_pe]; simp)).trans hF_261
                          have hF_283 : F_276 rp = .inl (cs 17, 100, .inl f_189) := (hB1.2.2.2 rp (by rw [ht_141]; simp)).trans hF_262
                          generalize H1 = H at hP hS ⊢
                          refine lv_iinc (v := (nI (i + 1))) (lv' := [(11, .int (nI (i + 1))), (10, .int (nI kf)), (7, .int (nI w7)), (9, .int s9), (8, .int (nI nn)), (6, .int (fv a)), (0, .ref h0), (1, .ref g1), (2, .int (nI a)), (3, .int (nI tt)), (4, .ref dd), (5, .ref g2)]) hx hb dX15_macroValue_416 hl (k := 0) rfl (nI_1 _) (by decide) rfl (fun ls hl => ?_)
                          refine lv_goto (tgt := 372) hx hb dX15_macroValue_419 (by decide) ?_
                          refine W.widen (k := 0) (n := 0) (by omega) (by omega) ?_
                          exact ih_215 ((i + 1), y2_277) F_276 (⟨by omega, by omega, hq_278, hF_282, hF_283⟩) (by show w7 - (i + 1) < w7 - i; omega) hO hR _ _ hP hD hS ls (lv_sub hl [0, 1, 2, 3, 4, 5, 6, 7, 8, 9, 10, 11] rfl)
                  ·
                    refine lv_iload hx hb dX15_macroValue_345 (lv_at hl 3 rfl) ?_
                    refine lv_if_eq (tgt := 357) hx hb dX15_macroValue_347 (by decide) (fun c_284 => ?_) (fun c_284 => ?_)
                    ·
                      have hi_285 : nn = 0 := (nI_eq (a := nn) (b := 0) (by omega) (by omega)).mp c_284
                      refine lv_iconst (v := 0) hx hb dX15_macroValue_357 (by decide) ?_
                      refine lv_goto (tgt := 366) hx hb dX15_macroValue_358 (by decide) ?_
                      refine W.widen (k := 0) (n := 0) (by omega) (by omega) ?_
                      exact jn_201 0 F_192 (⟨⟨0, by omega, rfl⟩, hc3, hc4, hc5⟩) hO hR _ _ hP hD hS ls (lv_sub hl [1, 2, 3, 4, 5, 6, 7, 8, 9, 10] rfl)
                    ·
                      have hi_286 : nn ≠ 0 := fun q => c_284 (by rw [q]; rfl)
                      refine lv_iload hx hb dX15_macroValue_350 (lv_at hl 3 rfl) ?_
                      refine lv_iload hx hb dX15_macroValue_352 (lv_at hl 1 rfl) ?_
                      refine lv_icmp_lt (tgt := 361) hx hb dX15_macroValue_354 (by decide) (fun c_287 => ?_) (fun c_287 => ?_)
                      ·
                        have hi_288 : nn < w7 := ltN (N := w7) (Int32.not_le.mpr c_287)
                        refine lv_iload hx hb dX15_macroValue_361 (lv_at hl 1 rfl) ?_
                        refine lv_iload hx hb dX15_macroValue_363 (lv_at hl 3 rfl) ?_
                        refine lv_isub hx hb dX15_macroValue_365 ?_
                        refine lv_topi (fun x_289 ex_289 => ?_)
                        obtain rfl : x_289 = (nI (w7 - nn)) := ex_289.trans (pk_sub (a := w7) (b := nn) (by omega))
                        refine W.widen (k := 0) (n := 0) (by omega) (by omega) ?_
                        exact jn_201 (nI (w7 - nn)) F_192 (⟨⟨(w7 - nn), by omega, rfl⟩, hc3, hc4, hc5⟩) hO hR _ _ hP hD hS ls (lv_sub hl [1, 2, 3, 4, 5, 6, 7, 8, 9, 10] rfl)
                      ·
                        have hi_290 : w7 ≤ nn := leN (N := w7) (Int32.not_lt.mp c_287)
                        refine lv_iconst (v := 0) hx hb dX15_macroValue_357 (by decide) ?_
                        refine lv_goto (tgt := 366) hx hb dX15_macroValue_358 (by decide) ?_
                        refine W.widen (k := 0) (n := 0) (by omega) (by omega) ?_
                        exact jn_201 0 F_192 (⟨⟨0, by omega, rfl⟩, hc3, hc4, hc5⟩) hO hR _ _ hP hD hS ls (lv_sub hl [1, 2, 3, 4, 5, 6, 7, 8, 9, 10] rfl)
                ·
                  have hi_291 : j < ze9 := ltN (N := ze9) c_199
                  refine lv_aload_n hx hb dX15_macroValue_321 rfl (lv_at hl 5 rfl) ?_
                  refine pg_get (ci := 15) (v := .ref pe) (C := RX15) (T := TX15) (N := 59) hx hb hts it_15 hown hK hP hL_h0 hF_198 rfl 16 (by decide) (hts _ kt_768) (fun _ h9 => h9) rfl dX15_macroValue_322 ?_
                  refine pg_get (ci := 14) (v := .ref rp) (C := RX14) (T := TX14) (N := 2) hx hb hts it_14 hown hK hP hL_pe hc4 rfl 0 (by decide) (hts _ kt_710) (fun _ h9 => h9) rfl dX15_macroValue_325 ?_
                  refine lv_iload hx hb dX15_macroValue_328 (lv_at hl 0 rfl) ?_
                  refine pg_bald hx hb hK hP hi_140 1 hc5 rfl (vp_in_nI (by omega) (by omega)) dX15_macroValue_330 ?_
                  refine lv_topi (fun x_292 ex_292 => ?_)
                  obtain rfl : x_292 = f_189 j := ex_292.trans (congrArg f_189 (show ((nI j) : Int32).toNatClampNeg = j from nI_clamp (by omega)))
                  refine lv_bipush (v := 46) hx hb dX15_macroValue_331 (by decide) ?_
                  refine lv_icmp_ne (tgt := 339) hx hb dX15_macroValue_333 (by decide) (fun c_293 => ?_) (fun c_293 => ?_)
                  ·
                    refine lv_iinc (v := (nI (j + 1))) (lv' := [(10, .int (nI (j + 1))), (7, .int (nI w7)), (9, .int s9), (8, .int (nI nn)), (6, .int (fv a)), (0, .ref h0), (1, .ref g1), (2, .int (nI a)), (3, .int (nI tt)), (4, .ref dd), (5, .ref g2)]) hx hb dX15_macroValue_339 hl (k := 0) rfl (nI_1 _) (by decide) rfl (fun ls hl => ?_)
                    refine lv_goto (tgt := 309) hx hb dX15_macroValue_342 (by decide) ?_
                    refine W.widen (k := 0) (n := 0) (by omega) (by omega) ?_
                    exact ih_196 ((j + 1), w7) F_192 (⟨by rw [dots_n c_293]; omega, by omega, hc3, hc4, hc5⟩) (by show ze9 - (j + 1) < ze9 - j; omega) hO hR _ _ hP hD hS ls (lv_sub hl [0, 1, 2, 3, 4, 5, 6, 7, 8, 9, 10] rfl)
                  ·
                    refine lv_iinc (v := (nI (w7 + 1))) (lv' := [(7, .int (nI (w7 + 1))), (10, .int (nI j)), (9, .int s9), (8, .int (nI nn)), (6, .int (fv a)), (0, .ref h0), (1, .ref g1), (2, .int (nI a)), (3, .int (nI tt)), (4, .ref dd), (5, .ref g2)]) hx hb dX15_macroValue_336 hl (k := 1) rfl (nI_1 _) (by decide) rfl (fun ls hl => ?_)
                    refine lv_iinc (v := (nI (j + 1))) (lv' := [(10, .int (nI (j + 1))), (7, .int (nI (w7 + 1))), (9, .int s9), (8, .int (nI nn)), (6, .int (fv a)), (0, .ref h0), (1, .ref g1), (2, .int (nI a)), (3, .int (nI tt)), (4, .ref dd), (5, .ref g2)]) hx hb dX15_macroValue_339 hl (k := 1) rfl (nI_1 _) (by decide) rfl (fun ls hl => ?_)
                    refine lv_goto (tgt := 309) hx hb dX15_macroValue_342 (by decide) ?_
                    refine W.widen (k := 0) (n := 0) (by omega) (by omega) ?_
                    exact ih_196 ((j + 1), (w7 + 1)) F_192 (⟨by rw [dots_y c_293]; omega, by omega, hc3, hc4, hc5⟩) (by show ze9 - (j + 1) < ze9 - j; omega) hO hR _ _ hP hD hS ls (lv_sub hl [0, 1, 2, 3, 4, 5, 6, 7, 8, 9, 10] rfl)
              ·
                refine lv_bipush (v := 24) hx hb dX15_macroValue_192 (by decide) ?_
                refine W.eq (g2 := F0 m 194 ls [.int (sv 0)]) rfl ?_
                refine lv_istore (lv' := [(10, .int (sv 0)), (9, .int s9), (8, .int (nI nn)), (7, .int 0), (6, .int (fv a)), (0, .ref h0), (1, .ref g1), (2, .int (nI a)), (3, .int (nI tt)), (4, .ref dd), (5, .ref g2)]) hx hb dX15_macroValue_194 hl (by decide) rfl (fun ls hl => ?_)
                refine W.widen (k := 0) (n := 0) (by omega) (by omega) ?_
                have hF_295 : F g1 = .inl (cs 17, 700, .inl fv) := (hR g1 (by rw [hT_g1]; simp)).symm.trans hF_178
                have hF_296 : F h0 = .inr (15, (.ref ta) :: (.int (nI zt)) :: (.int (nI zo_119)) :: (.int (nI ze_120)) :: (.ref ou) :: (.ref so) :: (.ref ad) :: (.ref na) :: (.ref va) :: (.ref lc) :: (.ref dm) :: (.int v11_121) :: (.int v12_122) :: (.ref tg) :: (.int v14_123) :: (.int v15_124) :: (.ref pe) :: (.int v17_125) :: (.int v18_126) :: (.int v19_127) :: (.int v20_128) :: (.int v21_129) :: (.int v22_130) :: (.ref ml) :: (.ref bg) :: (.ref co) :: (.ref sp) :: (.ref nb0) :: (.ref nb1) :: (.ref nb2) :: (.int (nI nf)) :: (.int (nI bd)) :: (.int (nI mm)) :: (.int v33_131) :: (.ref pl) :: (.ref se) :: (.ref ke) :: (.ref wi) :: (.ref hs) :: (.ref mo) :: (.ref po) :: (.ref nu) :: (.ref pr) :: (.ref sq) :: (.ref xa) :: (.ref sa) :: (.ref n64) :: (.ref m64) :: (.ref ex) :: (.ref wh) :: (.ref sd) :: (.ref tk) :: (.int v52_132) :: (.int v53_133) :: (.int v54_134) :: (.ref hd) :: (.ref ak) :: (.ref ho) :: (.ref ot) :: []) := (hR h0 (by rw [hT_h0]; simp)).symm.trans hF_179
                refine pl_loopm (σ := Nat × Nat) A (dC, dI) cs ty gm L [ρ + 6, ρ + 7] F 196 12 (fun (mq, zz) => [(10, .int (sv mq)), (9, .int s9), (8, .int (nI nn)), (7, .int 0), (6, .int (fv a)), (0, .ref h0), (1, .ref g1), (2, .int (nI a)), (3, .int (nI tt)), (4, .ref dd), (5, .ref g2)]) (fun (mq, zz) => []) (fun (mq, zz) FF => mq ≤ 4 ∧ FF g2 = .inr (14, [.ref r2, .int (nI y)]) ∧ FF pe = .inr (14, [.ref rp, .int (nI zz)]) ∧ (zz ≤ 4 * mq ∨ (zz ≤ 91 ∧ (fv a) ≠ 105))) (fun (mq, zz) => 4 - mq) ?_ (0, zz192) F_174 (⟨by omega, hwda, hwdb, by
                  rcases hwdd with h | h | h | h | h
                  · exact Or.inl (by omega)
                  · exact Or.inr ⟨by omega, by rw [h]; decide⟩
                  · exact Or.inr ⟨by omega, by rw [h]; decide⟩
                  · exact Or.inr ⟨by omega, by rw [h]; decide⟩
                  · exact Or.inr ⟨by omega, by rw [h]; decide⟩⟩) hO hR _ _ hP hD hS ls (lv_sub hl [0, 1, 2, 3, 4, 5, 6, 7, 8, 9, 10] rfl)
                rintro ⟨mq, zz⟩ F_294 hv_297 hO hR ih_298 H locs hP hD hS ls hl
                have hl : lv_has ls 12 [(10, .int (sv mq)), (9, .int s9), (8, .int (nI nn)), (7, .int 0), (6, .int (fv a)), (0, .ref h0), (1, .ref g1), (2, .int (nI a)), (3, .int (nI tt)), (4, .ref dd), (5, .ref g2)] := hl
                have hv_297 : mq ≤ 4 ∧ F_294 g2 = .inr (14, [.ref r2, .int (nI y)]) ∧ F_294 pe = .inr (14, [.ref rp, .int (nI zz)]) ∧ (zz ≤ 4 * mq ∨ (zz ≤ 91 ∧ (fv a) ≠ 105)) := hv_297
                refine W.eq (g2 := F0 m 196 ls []) rfl ?_
                have hF_299 : F_294 g1 = .inl (cs 17, 700, .inl fv) := (hR g1 (by rw [hT_g1]; simp)).trans hF_295
                have hF_300 : F_294 h0 = .inr (15, (.ref ta) :: (.int (nI zt)) :: (.int (nI zo_119)) :: (.int (nI ze_120)) :: (.ref ou) :: (.ref so) :: (.ref ad) :: (.ref na) :: (.ref va) :: (.ref lc) :: (.ref dm) :: (.int v11_121) :: (.int v12_122) :: (.ref tg) :: (.int v14_123) :: (.int v15_124) :: (.ref pe) :: (.int v17_125) :: (.int v18_126) :: (.int v19_127) :: (.int v20_128) :: (.int v21_129) :: (.int v22_130) :: (.ref ml) :: (.ref bg) :: (.ref co) :: (.ref sp) :: (.ref nb0) :: (.ref nb1) :: (.ref nb2) :: (.int (nI nf)) :: (.int (nI bd)) :: (.int (nI mm)) :: (.int v33_131) :: (.ref pl) :: (.ref se) :: (.ref ke) :: (.ref wi) :: (.ref hs) :: (.ref mo) :: (.ref po) :: (.ref nu) :: (.ref pr) :: (.ref sq) :: (.ref xa) :: (.ref sa) :: (.ref n64) :: (.ref m64) :: (.ref ex) :: (.ref wh) :: (.ref sd) :: (.ref tk) :: (.int v52_132) :: (.int v53_133) :: (.int v54_134) :: (.ref hd) :: (.ref ak) :: (.ref ho) :: (.ref ot) :: []) := (hR h0 (by rw [hT_h0]; simp)).trans hF_296
                obtain ⟨hx1, hx2, hx3, hx4⟩ := hv_297
                refine lv_iload hx hb dX15_macroValue_196 (lv_at hl 4 rfl) ?_
                refine lv_bipush (v := 105) hx hb dX15_macroValue_198 (by decide) ?_
                refine lv_icmp_ne (tgt := 303) hx hb dX15_macroValue_200 (by decide) (fun c_301 => ?_) (fun c_301 => ?_)
                ·
                  refine W.widen (k := 0) (n := 0) (by omega) (by omega) ?_
                  exact jn_180 zz F_294 (⟨hx2, hx3, by rcases hx4 with h | h <;> omega⟩) hO hR _ _ hP hD hS ls (lv_sub hl [1, 2, 3, 4, 5, 6, 7, 8, 9, 10] rfl)
                ·
                  have hzm : zz ≤ 4 * mq := hx4.resolve_right (fun h => h.2 c_301)
                  refine lv_iload hx hb dX15_macroValue_203 (lv_at hl 0 rfl) ?_
                  refine lv_if_lt (tgt := 303) hx hb dX15_macroValue_205 (by decide) (fun c_302 => ?_) (fun c_302 => ?_)
                  ·
                    refine W.widen (k := 0) (n := 0) (by omega) (by omega) ?_
                    exact jn_180 zz F_294 (⟨hx2, hx3, by rcases hx4 with h | h <;> omega⟩) hO hR _ _ hP hD hS ls (lv_sub hl [1, 2, 3, 4, 5, 6, 7, 8, 9, 10] rfl)
                  ·
                    have hm4 := sv_lt hx1 c_302
                    refine lv_aload_n hx hb dX15_macroValue_208 rfl (lv_at hl 5 rfl) ?_
                    refine pg_get (ci := 15) (v := .int v11_121) (C := RX15) (T := TX15) (N := 59) hx hb hts it_15 hown hK hP hL_h0 hF_300 rfl 11 (by decide) (hts _ kt_729) (fun _ h9 => h9) rfl dX15_macroValue_209 ?_
                    refine lv_iload hx hb dX15_macroValue_212 (lv_at hl 0 rfl) ?_
                    refine lv_ishr hx hb dX15_macroValue_214 ?_
                    refine lv_topi (fun x_303 _ => ?_)
                    refine lv_sipush (v := 255) hx hb dX15_macroValue_215 (by decide) ?_
                    refine lv_iand hx hb dX15_macroValue_218 ?_
                    refine lv_topi (fun x_304 _ => ?_)
                    refine lv_istore (lv' := [(11, .int x_304), (10, .int (sv mq)), (9, .int s9), (8, .int (nI nn)), (7, .int 0), (6, .int (fv a)), (0, .ref h0), (1, .ref g1), (2, .int (nI a)), (3, .int (nI tt)), (4, .ref dd), (5, .ref g2)]) hx hb dX15_macroValue_219 hl (by decide) rfl (fun ls hl => ?_)
                    refine lv_iload hx hb dX15_macroValue_221 (lv_at hl 0 rfl) ?_
                    refine lv_bipush (v := 99) hx hb dX15_macroValue_223 (by decide) ?_
                    refine lv_icmp_le (tgt := 243) hx hb dX15_macroValue_225 (by decide) (fun c_305 => ?_) (fun c_305 => ?_)
                    ·
                      refine lv_iload hx hb dX15_macroValue_243 (lv_at hl 0 rfl) ?_
                      refine lv_bipush (v := 9) hx hb dX15_macroValue_245 (by decide) ?_
                      refine lv_icmp_le (tgt := 268) hx hb dX15_macroValue_247 (by decide) (fun c_306 => ?_) (fun c_306 => ?_)
                      ·
                        refine lv_aload_n hx hb dX15_macroValue_268 rfl (lv_at hl 6 rfl) ?_
                        refine pg_get (ci := 15) (v := .ref pe) (C := RX15) (T := TX15) (N := 59) hx hb hts it_15 hown hK hP hL_h0 hF_300 rfl 16 (by decide) (hts _ kt_768) (fun _ h9 => h9) rfl dX15_macroValue_269 ?_
                        refine lv_bipush (v := 48) hx hb dX15_macroValue_272 (by decide) ?_
                        refine lv_iload hx hb dX15_macroValue_274 (lv_at hl 0 rfl) ?_
                        refine lv_bipush (v := 10) hx hb dX15_macroValue_276 (by decide) ?_
                        refine lv_irem hx hb dX15_macroValue_278 (by decide) ?_
                        refine lv_topi (fun x_307 _ => ?_)
                        refine lv_iadd hx hb dX15_macroValue_279 ?_
                        refine lv_topi (fun x_308 _ => ?_)
                        have hFc := pg_free hD hS hA
                        refine va_callv (va_runV (As := [.int x_308]) (rest := []) ⟨hx, hb, hml, hown, hts⟩ (s_X14_add l dC dI cs ty gm L H.size F_294 pe (ρ + 7) rp 100 zz x_308 hW hL_pe hT_pe hx3 (by first | omega | assumption)) ⟨callB_of 1 hts (gi kt_711) rfl rfl rfl (hts _ kt_676) (hts _ kt_712) (by decide +kernel) ⟨Nat.le_of_ble_eq_true rfl, Nat.le_of_ble_eq_true rfl⟩, (hts _ kt_713), (hts _ kt_714)⟩ ⟨fun a U g mk q => ⟨q.1, PTm.calling q.2⟩, pg_recv hK hP hL_pe hx3 (q := (RX14, TX14, 2)) rfl, fun U hU hWm => ⟨rfl, PTm.mk hU hWm hP hK hD hE hO⟩⟩ rfl rfl hl.1 rfl (lv_room (Nat.le_of_ble_eq_true rfl)) dX15_macroValue_280 ⟨by show _ + 0 ≤ 0; omega, by show _ + 0 ≤ 0; omega⟩) hS (fun q _ h => hFc q h) hFc (fun u t H1 locs ht hvm hw hB hz1 hk1 hS => ?_)
                        obtain ⟨F_310, hB1, hq_311⟩ := hB
                        obtain ⟨hP, hD, hO, hR⟩ := QTm.back hB1 ht hFc hR (fun q h => by simp only [List.mem_cons, List.not_mem_nil, or_false] at h ⊢; omega)
                        have hF_312 : F_310 g1 = .inl (cs 17, 700, .inl fv) := (hB1.2.2.2 g1 (by rw [hT_g1]; simp)).trans hF_299
                        have hF_313 : F_310 h0 = .inr (15, (.ref ta) :: (.int (nI zt)) :: (.int (nI zo_119)) :: (.int (nI ze_120)) :: (.ref ou) :: (.ref so) :: (.ref ad) :: (.ref na) :: (.ref va) :: (.ref lc) :: (.ref dm) :: (.int v11_121) :: (.int v12_122) :: (.ref tg) :: (.int v14_123) :: (.int v15_124) :: (.ref pe) :: (.int v17_125) :: (.int v18_126) :: (.int v19_127) :: (.int v20_128) :: (.int v21_129) :: (.int v22_130) :: (.ref ml) :: (.ref bg) :: (.ref co) :: (.ref sp) :: (.ref nb0) :: (.ref nb1) :: (.ref nb2) :: (.int (nI nf)) :: (.int (nI bd)) :: (.int (nI mm)) :: (.int v33_131) :: (.ref pl) :: (.ref se) :: (.ref ke) :: (.ref wi) :: (.ref hs) :: (.ref mo) :: (.ref po) :: (.ref nu) :: (.ref pr) :: (.ref sq) :: (.ref xa) :: (.ref sa) :: (.ref n64) :: (.ref m64) :: (.ref ex) :: (.ref wh) :: (.ref sd) :: (.ref tk) :: (.int v52_132) :: (.int v53_133) :: (.int v54_134) :: (.ref hd) :: (.ref ak) :: (.ref ho) :: (.ref ot) :: []) := (hB1.2.2.2 h0 (by rw [hT_h0]; simp)).trans hF_300
                        have hF_314 : F_310 g2 = .inr (14, [.ref r2, .int (nI y)]) := (hB1.2.2.2 g2 (by rw [hT_g2]; simp)).trans hx2
                        generalize H1 = H at hP hS ⊢
                        refine lv_iload hx hb dX15_macroValue_283 (lv_at hl 1 rfl) ?_
                        refine lv_if_le (tgt := 297) hx hb dX15_macroValue_285 (by decide) (fun c_315 => ?_) (fun c_315 => ?_)
                        ·
                          refine lv_iinc (v := (sv (mq + 1))) (lv' := [(10, .int (sv (mq + 1))), (11, .int x_304), (9, .int s9), (8, .int (nI nn)), (7, .int 0), (6, .int (fv a)), (0, .ref h0), (1, .ref g1), (2, .int (nI a)), (3, .int (nI tt)), (4, .ref dd), (5, .ref g2)]) hx hb dX15_macroValue_297 hl (k := 1) rfl (sv_n mq hm4) (by decide) rfl (fun ls hl => ?_)
                          refine lv_goto (tgt := 196) hx hb dX15_macroValue_300 (by decide) ?_
                          refine W.widen (k := 0) (n := 0) (by omega) (by omega) ?_
                          exact ih_298 ((mq + 1), (zz + 1)) F_310 (⟨by omega, hF_314, hq_311, Or.inl (by omega)⟩) (by show 4 - (mq + 1) < 4 - mq; omega) hO hR _ _ hP hD hS ls (lv_sub hl [0, 2, 3, 4, 5, 6, 7, 8, 9, 10, 11] rfl)
                        ·
                          refine lv_aload_n hx hb dX15_macroValue_288 rfl (lv_at hl 6 rfl) ?_
                          refine pg_get (ci := 15) (v := .ref pe) (C := RX15) (T := TX15) (N := 59) hx hb hts it_15 hown hK hP hL_h0 hF_313 rfl 16 (by decide) (hts _ kt_768) (fun _ h9 => h9) rfl dX15_macroValue_289 ?_
                          refine lv_bipush (v := 46) hx hb dX15_macroValue_292 (by decide) ?_
                          have hFc := pg_free hD hS hA
                          refine va_callv (va_runV (As := [.int 46]) (rest := []) ⟨hx, hb, hml, hown, hts⟩ (s_X14_add l dC dI cs ty gm L H.size F_310 pe (ρ + 7) rp 100 (zz + 1) 46 hW hL_pe hT_pe hq_311 (by first | omega | assumption)) ⟨callB_of 1 hts (gi kt_711) rfl rfl rfl (hts _ kt_676) (hts _ kt_712) (by decide +kernel) ⟨Nat.le_of_ble_eq_true rfl, Nat.le_of_ble_eq_true rfl⟩, (hts _ kt_713), (hts _ kt_714)⟩ ⟨fun a U g mk q => ⟨q.1, PTm.calling q.2⟩, pg_recv hK hP hL_pe hq_311 (q := (RX14, TX14, 2)) rfl, fun U hU hWm => ⟨rfl, PTm.mk hU hWm hP hK hD hE hO⟩⟩ rfl rfl hl.1 rfl (lv_room (Nat.le_of_ble_eq_true rfl)) dX15_macroValue_294 ⟨by show _ + 0 ≤ 0; omega, by show _ + 0 ≤ 0; omega⟩) hS (fun q _ h => hFc q h) hFc (fun u t H1 locs ht hvm hw hB hz1 hk1 hS => ?_)
                          obtain ⟨F_317, hB1, hq_318⟩ := hB
                          obtain ⟨hP, hD, hO, hR⟩ := QTm.back hB1 ht hFc hR (fun q h => by simp only [List.mem_cons, List.not_mem_nil, or_false] at h ⊢; omega)
                          have hF_319 : F_317 g1 = .inl (cs 17, 700, .inl fv) := (hB1.2.2.2 g1 (by rw [hT_g1]; simp)).trans hF_312
                          have hF_320 : F_317 h0 = .inr (15, (.ref ta) :: (.int (nI zt)) :: (.int (nI zo_119)) :: (.int (nI ze_120)) :: (.ref ou) :: (.ref so) :: (.ref ad) :: (.ref na) :: (.ref va) :: (.ref lc) :: (.ref dm) :: (.int v11_121) :: (.int v12_122) :: (.ref tg) :: (.int v14_123) :: (.int v15_124) :: (.ref pe) :: (.int v17_125) :: (.int v18_126) :: (.int v19_127) :: (.int v20_128) :: (.int v21_129) :: (.int v22_130) :: (.ref ml) :: (.ref bg) :: (.ref co) :: (.ref sp) :: (.ref nb0) :: (.ref nb1) :: (.ref nb2) :: (.int (nI nf)) :: (.int (nI bd)) :: (.int (nI mm)) :: (.int v33_131) :: (.ref pl) :: (.ref se) :: (.ref ke) :: (.ref wi) :: (.ref hs) :: (.ref mo) :: (.ref po) :: (.ref nu) :: (.ref pr) :: (.ref sq) :: (.ref xa) :: (.ref sa) :: (.ref n64) :: (.ref m64) :: (.ref ex) :: (.ref wh) :: (.ref sd) :: (.ref tk) :: (.int v52_132) :: (.int v53_133) :: (.int v54_134) :: (.ref hd) :: (.ref ak) :: (.ref ho) :: (.ref ot) :: []) := (hB1.2.2.2 h0 (by rw [hT_h0]; simp)).trans hF_313
                          have hF_321 : F_317 g2 = .inr (14, [.ref r2, .int (nI y)]) := (hB1.2.2.2 g2 (by rw [hT_g2]; simp)).trans hF_314
                          generalize H1 = H at hP hS ⊢
                          refine lv_iinc (v := (sv (mq + 1))) (lv' := [(10, .int (sv (mq + 1))), (11, .int x_304), (9, .int s9), (8, .int (nI nn)), (7, .int 0), (6, .int (fv a)), (0, .ref h0), (1, .ref g1), (2, .int (nI a)), (3, .int (nI tt)), (4, .ref dd), (5, .ref g2)]) hx hb dX15_macroValue_297 hl (k := 1) rfl (sv_n mq hm4) (by decide) rfl (fun ls hl => ?_)
                          refine lv_goto (tgt := 196) hx hb dX15_macroValue_300 (by decide) ?_
                          refine W.widen (k := 0) (n := 0) (by omega) (by omega) ?_
                          exact ih_298 ((mq + 1), (zz + 2)) F_317 (⟨by omega, hF_321, hq_318, Or.inl (by omega)⟩) (by show 4 - (mq + 1) < 4 - mq; omega) hO hR _ _ hP hD hS ls (lv_sub hl [0, 2, 3, 4, 5, 6, 7, 8, 9, 10, 11] rfl)
                      ·
                        refine lv_aload_n hx hb dX15_macroValue_250 rfl (lv_at hl 6 rfl) ?_
                        refine pg_get (ci := 15) (v := .ref pe) (C := RX15) (T := TX15) (N := 59) hx hb hts it_15 hown hK hP hL_h0 hF_300 rfl 16 (by decide) (hts _ kt_768) (fun _ h9 => h9) rfl dX15_macroValue_251 ?_
                        refine lv_bipush (v := 48) hx hb dX15_macroValue_254 (by decide) ?_
                        refine lv_iload hx hb dX15_macroValue_256 (lv_at hl 0 rfl) ?_
                        refine lv_bipush (v := 10) hx hb dX15_macroValue_258 (by decide) ?_
                        refine lv_idiv hx hb dX15_macroValue_260 (by decide) ?_
                        refine lv_topi (fun x_322 _ => ?_)
                        refine lv_bipush (v := 10) hx hb dX15_macroValue_261 (by decide) ?_
                        refine lv_irem hx hb dX15_macroValue_263 (by decide) ?_
                        refine lv_topi (fun x_323 _ => ?_)
                        refine lv_iadd hx hb dX15_macroValue_264 ?_
                        refine lv_topi (fun x_324 _ => ?_)
                        have hFc := pg_free hD hS hA
                        refine va_callv (va_runV (As := [.int x_324]) (rest := []) ⟨hx, hb, hml, hown, hts⟩ (s_X14_add l dC dI cs ty gm L H.size F_294 pe (ρ + 7) rp 100 zz x_324 hW hL_pe hT_pe hx3 (by first | omega | assumption)) ⟨callB_of 1 hts (gi kt_711) rfl rfl rfl (hts _ kt_676) (hts _ kt_712) (by decide +kernel) ⟨Nat.le_of_ble_eq_true rfl, Nat.le_of_ble_eq_true rfl⟩, (hts _ kt_713), (hts _ kt_714)⟩ ⟨fun a U g mk q => ⟨q.1, PTm.calling q.2⟩, pg_recv hK hP hL_pe hx3 (q := (RX14, TX14, 2)) rfl, fun U hU hWm => ⟨rfl, PTm.mk hU hWm hP hK hD hE hO⟩⟩ rfl rfl hl.1 rfl (lv_room (Nat.le_of_ble_eq_true rfl)) dX15_macroValue_265 ⟨by show _ + 0 ≤ 0; omega, by show _ + 0 ≤ 0; omega⟩) hS (fun q _ h => hFc q h) hFc (fun u t H1 locs ht hvm hw hB hz1 hk1 hS => ?_)
                        obtain ⟨F_326, hB1, hq_327⟩ := hB
                        obtain ⟨hP, hD, hO, hR⟩ := QTm.back hB1 ht hFc hR (fun q h => by simp only [List.mem_cons, List.not_mem_nil, or_false] at h ⊢; omega)
                        have hF_328 : F_326 g1 = .inl (cs 17, 700, .inl fv) := (hB1.2.2.2 g1 (by rw [hT_g1]; simp)).trans hF_299
                        have hF_329 : F_326 h0 = .inr (15, (.ref ta) :: (.int (nI zt)) :: (.int (nI zo_119)) :: (.int (nI ze_120)) :: (.ref ou) :: (.ref so) :: (.ref ad) :: (.ref na) :: (.ref va) :: (.ref lc) :: (.ref dm) :: (.int v11_121) :: (.int v12_122) :: (.ref tg) :: (.int v14_123) :: (.int v15_124) :: (.ref pe) :: (.int v17_125) :: (.int v18_126) :: (.int v19_127) :: (.int v20_128) :: (.int v21_129) :: (.int v22_130) :: (.ref ml) :: (.ref bg) :: (.ref co) :: (.ref sp) :: (.ref nb0) :: (.ref nb1) :: (.ref nb2) :: (.int (nI nf)) :: (.int (nI bd)) :: (.int (nI mm)) :: (.int v33_131) :: (.ref pl) :: (.ref se) :: (.ref ke) :: (.ref wi) :: (.ref hs) :: (.ref mo) :: (.ref po) :: (.ref nu) :: (.ref pr) :: (.ref sq) :: (.ref xa) :: (.ref sa) :: (.ref n64) :: (.ref m64) :: (.ref ex) :: (.ref wh) :: (.ref sd) :: (.ref tk) :: (.int v52_132) :: (.int v53_133) :: (.int v54_134) :: (.ref hd) :: (.ref ak) :: (.ref ho) :: (.ref ot) :: []) := (hB1.2.2.2 h0 (by rw [hT_h0]; simp)).trans hF_300
                        have hF_330 : F_326 g2 = .inr (14, [.ref r2, .int (nI y)]) := (hB1.2.2.2 g2 (by rw [hT_g2]; simp)).trans hx2
                        generalize H1 = H at hP hS ⊢
                        refine lv_aload_n hx hb dX15_macroValue_268 rfl (lv_at hl 6 rfl) ?_
                        refine pg_get (ci := 15) (v := .ref pe) (C := RX15) (T := TX15) (N := 59) hx hb hts it_15 hown hK hP hL_h0 hF_329 rfl 16 (by decide) (hts _ kt_768) (fun _ h9 => h9) rfl dX15_macroValue_269 ?_
                        refine lv_bipush (v := 48) hx hb dX15_macroValue_272 (by decide) ?_
                        refine lv_iload hx hb dX15_macroValue_274 (lv_at hl 0 rfl) ?_
                        refine lv_bipush (v := 10) hx hb dX15_macroValue_276 (by decide) ?_
                        refine lv_irem hx hb dX15_macroValue_278 (by decide) ?_
                        refine lv_topi (fun x_331 _ => ?_)
                        refine lv_iadd hx hb dX15_macroValue_279 ?_
                        refine lv_topi (fun x_332 _ => ?_)
                        have hFc := pg_free hD hS hA
                        refine va_callv (va_runV (As := [.int x_332]) (rest := []) ⟨hx, hb, hml, hown, hts⟩ (s_X14_add l dC dI cs ty gm L H.size F_326 pe (ρ + 7) rp 100 (zz + 1) x_332 hW hL_pe hT_pe hq_327 (by first | omega | assumption)) ⟨callB_of 1 hts (gi kt_711) rfl rfl rfl (hts _ kt_676) (hts _ kt_712) (by decide +kernel) ⟨Nat.le_of_ble_eq_true rfl, Nat.le_of_ble_eq_true rfl⟩, (hts _ kt_713), (hts _ kt_714)⟩ ⟨fun a U g mk q => ⟨q.1, PTm.calling q.2⟩, pg_recv hK hP hL_pe hq_327 (q := (RX14, TX14, 2)) rfl, fun U hU hWm => ⟨rfl, PTm.mk hU hWm hP hK hD hE hO⟩⟩ rfl rfl hl.1 rfl (lv_room (Nat.le_of_ble_eq_true rfl)) dX15_macroValue_280 ⟨by show _ + 0 ≤ 0; omega, by show _ + 0 ≤ 0; omega⟩) hS (fun q _ h => hFc q h) hFc (fun u t H1 locs ht hvm hw hB hz1 hk1 hS => ?_)
                        obtain ⟨F_334, hB1, hq_335⟩ := hB
                        obtain ⟨hP, hD, hO, hR⟩ := QTm.back hB1 ht hFc hR (fun q h => by simp only [List.mem_cons, List.not_mem_nil, or_false] at h ⊢; omega)
                        have hF_336 : F_334 g1 = .inl (cs 17, 700, .inl fv) := (hB1.2.2.2 g1 (by rw [hT_g1]; simp)).trans hF_328
                        have hF_337 : F_334 h0 = .inr (15, (.ref ta) :: (.int (nI zt)) :: (.int (nI zo_119)) :: (.int (nI ze_120)) :: (.ref ou) :: (.ref so) :: (.ref ad) :: (.ref na) :: (.ref va) :: (.ref lc) :: (.ref dm) :: (.int v11_121) :: (.int v12_122) :: (.ref tg) :: (.int v14_123) :: (.int v15_124) :: (.ref pe) :: (.int v17_125) :: (.int v18_126) :: (.int v19_127) :: (.int v20_128) :: (.int v21_129) :: (.int v22_130) :: (.ref ml) :: (.ref bg) :: (.ref co) :: (.ref sp) :: (.ref nb0) :: (.ref nb1) :: (.ref nb2) :: (.int (nI nf)) :: (.int (nI bd)) :: (.int (nI mm)) :: (.int v33_131) :: (.ref pl) :: (.ref se) :: (.ref ke) :: (.ref wi) :: (.ref hs) :: (.ref mo) :: (.ref po) :: (.ref nu) :: (.ref pr) :: (.ref sq) :: (.ref xa) :: (.ref sa) :: (.ref n64) :: (.ref m64) :: (.ref ex) :: (.ref wh) :: (.ref sd) :: (.ref tk) :: (.int v52_132) :: (.int v53_133) :: (.int v54_134) :: (.ref hd) :: (.ref ak) :: (.ref ho) :: (.ref ot) :: []) := (hB1.2.2.2 h0 (by rw [hT_h0]; simp)).trans hF_329
                        have hF_338 : F_334 g2 = .inr (14, [.ref r2, .int (nI y)]) := (hB1.2.2.2 g2 (by rw [hT_g2]; simp)).trans hF_330
                        generalize H1 = H at hP hS ⊢
                        refine lv_iload hx hb dX15_macroValue_283 (lv_at hl 1 rfl) ?_
                        refine lv_if_le (tgt := 297) hx hb dX15_macroValue_285 (by decide) (fun c_339 => ?_) (fun c_339 => ?_)
                        ·
                          refine lv_iinc (v := (sv (mq + 1))) (lv' := [(10, .int (sv (mq + 1))), (11, .int x_304), (9, .int s9), (8, .int (nI nn)), (7, .int 0), (6, .int (fv a)), (0, .ref h0), (1, .ref g1), (2, .int (nI a)), (3, .int (nI tt)), (4, .ref dd), (5, .ref g2)]) hx hb dX15_macroValue_297 hl (k := 1) rfl (sv_n mq hm4) (by decide) rfl (fun ls hl => ?_)
                          refine lv_goto (tgt := 196) hx hb dX15_macroValue_300 (by decide) ?_
                          refine W.widen (k := 0) (n := 0) (by omega) (by omega) ?_
                          exact ih_298 ((mq + 1), (zz + 2)) F_334 (⟨by omega, hF_338, hq_335, Or.inl (by omega)⟩) (by show 4 - (mq + 1) < 4 - mq; omega) hO hR _ _ hP hD hS ls (lv_sub hl [0, 2, 3, 4, 5, 6, 7, 8, 9, 10, 11] rfl)
                        ·
                          refine lv_aload_n hx hb dX15_macroValue_288 rfl (lv_at hl 6 rfl) ?_
                          refine pg_get (ci := 15) (v := .ref pe) (C := RX15) (T := TX15) (N := 59) hx hb hts it_15 hown hK hP hL_h0 hF_337 rfl 16 (by decide) (hts _ kt_768) (fun _ h9 => h9) rfl dX15_macroValue_289 ?_
                          refine lv_bipush (v := 46) hx hb dX15_macroValue_292 (by decide) ?_
                          have hFc := pg_free hD hS hA
                          refine va_callv (va_runV (As := [.int 46]) (rest := []) ⟨hx, hb, hml, hown, hts⟩ (s_X14_add l dC dI cs ty gm L H.size F_334 pe (ρ + 7) rp 100 (zz + 2) 46 hW hL_pe hT_pe hq_335 (by first | omega | assumption)) ⟨callB_of 1 hts (gi kt_711) rfl rfl rfl (hts _ kt_676) (hts _ kt_712) (by decide +kernel) ⟨Nat.le_of_ble_eq_true rfl, Nat.le_of_ble_eq_true rfl⟩, (hts _ kt_713), (hts _ kt_714)⟩ ⟨fun a U g mk q => ⟨q.1, PTm.calling q.2⟩, pg_recv hK hP hL_pe hq_335 (q := (RX14, TX14, 2)) rfl, fun U hU hWm => ⟨rfl, PTm.mk hU hWm hP hK hD hE hO⟩⟩ rfl rfl hl.1 rfl (lv_room (Nat.le_of_ble_eq_true rfl)) dX15_macroValue_294 ⟨by show _ + 0 ≤ 0; omega, by show _ + 0 ≤ 0; omega⟩) hS (fun q _ h => hFc q h) hFc (fun u t H1 locs ht hvm hw hB hz1 hk1 hS => ?_)
                          obtain ⟨F_341, hB1, hq_342⟩ := hB
                          obtain ⟨hP, hD, hO, hR⟩ := QTm.back hB1 ht hFc hR (fun q h => by simp only [List.mem_cons, List.not_mem_nil, or_false] at h ⊢; omega)
                          have hF_343 : F_341 g1 = .inl (cs 17, 700, .inl fv) := (hB1.2.2.2 g1 (by rw [hT_g1]; simp)).trans hF_336
                          have hF_344 : F_341 h0 = .inr (15, (.ref ta) :: (.int (nI zt)) :: (.int (nI zo_119)) :: (.int (nI ze_120)) :: (.ref ou) :: (.ref so) :: (.ref ad) :: (.ref na) :: (.ref va) :: (.ref lc) :: (.ref dm) :: (.int v11_121) :: (.int v12_122) :: (.ref tg) :: (.int v14_123) :: (.int v15_124) :: (.ref pe) :: (.int v17_125) :: (.int v18_126) :: (.int v19_127) :: (.int v20_128) :: (.int v21_129) :: (.int v22_130) :: (.ref ml) :: (.ref bg) :: (.ref co) :: (.ref sp) :: (.ref nb0) :: (.ref nb1) :: (.ref nb2) :: (.int (nI nf)) :: (.int (nI bd)) :: (.int (nI mm)) :: (.int v33_131) :: (.ref pl) :: (.ref se) :: (.ref ke) :: (.ref wi) :: (.ref hs) :: (.ref mo) :: (.ref po) :: (.ref nu) :: (.ref pr) :: (.ref sq) :: (.ref xa) :: (.ref sa) :: (.ref n64) :: (.ref m64) :: (.ref ex) :: (.ref wh) :: (.ref sd) :: (.ref tk) :: (.int v52_132) :: (.int v53_133) :: (.int v54_134) :: (.ref hd) :: (.ref ak) :: (.ref ho) :: (.ref ot) :: []) := (hB1.2.2.2 h0 (by rw [hT_h0]; simp)).trans hF_337
                          have hF_345 : F_341 g2 = .inr (14, [.ref r2, .int (nI y)]) := (hB1.2.2.2 g2 (by rw [hT_g2]; simp)).trans hF_338
                          generalize H1 = H at hP hS ⊢
                          refine lv_iinc (v := (sv (mq + 1))) (lv' := [(10, .int (sv (mq + 1))), (11, .int x_304), (9, .int s9), (8, .int (nI nn)), (7, .int 0), (6, .int (fv a)), (0, .ref h0), (1, .ref g1), (2, .int (nI a)), (3, .int (nI tt)), (4, .ref dd), (5, .ref g2)]) hx hb dX15_macroValue_297 hl (k := 1) rfl (sv_n mq hm4) (by decide) rfl (fun ls hl => ?_)
                          refine lv_goto (tgt := 196) hx hb dX15_macroValue_300 (by decide) ?_
                          refine W.widen (k := 0) (n := 0) (by omega) (by omega) ?_
                          exact ih_298 ((mq + 1), (zz + 3)) F_341 (⟨by omega, hF_345, hq_342, Or.inl (by omega)⟩) (by show 4 - (mq + 1) < 4 - mq; omega) hO hR _ _ hP hD hS ls (lv_sub hl [0, 2, 3, 4, 5, 6, 7, 8, 9, 10, 11] rfl)
                    ·
                      refine lv_aload_n hx hb dX15_macroValue_228 rfl (lv_at hl 6 rfl) ?_
                      refine pg_get (ci := 15) (v := .ref pe) (C := RX15) (T := TX15) (N := 59) hx hb hts it_15 hown hK hP hL_h0 hF_300 rfl 16 (by decide) (hts _ kt_768) (fun _ h9 => h9) rfl dX15_macroValue_229 ?_
                      refine lv_bipush (v := 48) hx hb dX15_macroValue_232 (by decide) ?_
                      refine lv_iload hx hb dX15_macroValue_234 (lv_at hl 0 rfl) ?_
                      refine lv_bipush (v := 100) hx hb dX15_macroValue_236 (by decide) ?_
                      refine lv_idiv hx hb dX15_macroValue_238 (by decide) ?_
                      refine lv_topi (fun x_346 _ => ?_)
                      refine lv_iadd hx hb dX15_macroValue_239 ?_
                      refine lv_topi (fun x_347 _ => ?_)
                      have hFc := pg_free hD hS hA
                      refine va_callv (va_runV (As := [.int x_347]) (rest := []) ⟨hx, hb, hml, hown, hts⟩ (s_X14_add l dC dI cs ty gm L H.size F_294 pe (ρ + 7) rp 100 zz x_347 hW hL_pe hT_pe hx3 (by first | omega | assumption)) ⟨callB_of 1 hts (gi kt_711) rfl rfl rfl (hts _ kt_676) (hts _ kt_712) (by decide +kernel) ⟨Nat.le_of_ble_eq_true rfl, Nat.le_of_ble_eq_true rfl⟩, (hts _ kt_713), (hts _ kt_714)⟩ ⟨fun a U g mk q => ⟨q.1, PTm.calling q.2⟩, pg_recv hK hP hL_pe hx3 (q := (RX14, TX14, 2)) rfl, fun U hU hWm => ⟨rfl, PTm.mk hU hWm hP hK hD hE hO⟩⟩ rfl rfl hl.1 rfl (lv_room (Nat.le_of_ble_eq_true rfl)) dX15_macroValue_240 ⟨by show _ + 0 ≤ 0; omega, by show _ + 0 ≤ 0; omega⟩) hS (fun q _ h => hFc q h) hFc (fun u t H1 locs ht hvm hw hB hz1 hk1 hS => ?_)
                      obtain ⟨F_349, hB1, hq_350⟩ := hB
                      obtain ⟨hP, hD, hO, hR⟩ := QTm.back hB1 ht hFc hR (fun q h => by simp only [List.mem_cons, List.not_mem_nil, or_false] at h ⊢; omega)
                      have hF_351 : F_349 g1 = .inl (cs 17, 700, .inl fv) := (hB1.2.2.2 g1 (by rw [hT_g1]; simp)).trans hF_299
                      have hF_352 : F_349 h0 = .inr (15, (.ref ta) :: (.int (nI zt)) :: (.int (nI zo_119)) :: (.int (nI ze_120)) :: (.ref ou) :: (.ref so) :: (.ref ad) :: (.ref na) :: (.ref va) :: (.ref lc) :: (.ref dm) :: (.int v11_121) :: (.int v12_122) :: (.ref tg) :: (.int v14_123) :: (.int v15_124) :: (.ref pe) :: (.int v17_125) :: (.int v18_126) :: (.int v19_127) :: (.int v20_128) :: (.int v21_129) :: (.int v22_130) :: (.ref ml) :: (.ref bg) :: (.ref co) :: (.ref sp) :: (.ref nb0) :: (.ref nb1) :: (.ref nb2) :: (.int (nI nf)) :: (.int (nI bd)) :: (.int (nI mm)) :: (.int v33_131) :: (.ref pl) :: (.ref se) :: (.ref ke) :: (.ref wi) :: (.ref hs) :: (.ref mo) :: (.ref po) :: (.ref nu) :: (.ref pr) :: (.ref sq) :: (.ref xa) :: (.ref sa) :: (.ref n64) :: (.ref m64) :: (.ref ex) :: (.ref wh) :: (.ref sd) :: (.ref tk) :: (.int v52_132) :: (.int v53_133) :: (.int v54_134) :: (.ref hd) :: (.ref ak) :: (.ref ho) :: (.ref ot) :: []) := (hB1.2.2.2 h0 (by rw [hT_h0]; simp)).trans hF_300
                      have hF_353 : F_349 g2 = .inr (14, [.ref r2, .int (nI y)]) := (hB1.2.2.2 g2 (by rw [hT_g2]; simp)).trans hx2
                      generalize H1 = H at hP hS ⊢
                      refine lv_iload hx hb dX15_macroValue_243 (lv_at hl 0 rfl) ?_
                      refine lv_bipush (v := 9) hx hb dX15_macroValue_245 (by decide) ?_
                      refine lv_icmp_le (tgt := 268) hx hb dX15_macroValue_247 (by decide) (fun c_354 => ?_) (fun c_354 => ?_)
                      ·
                        refine lv_aload_n hx hb dX15_macroValue_268 rfl (lv_at hl 6 rfl) ?_
                        refine pg_get (ci := 15) (v := .ref pe) (C := RX15) (T := TX15) (N := 59) hx hb hts it_15 hown hK hP hL_h0 hF_352 rfl 16 (by decide) (hts _ kt_768) (fun _ h9 => h9) rfl dX15_macroValue_269 ?_
                        refine lv_bipush (v := 48) hx hb dX15_macroValue_272 (by decide) ?_
                        refine lv_iload hx hb dX15_macroValue_274 (lv_at hl 0 rfl) ?_
                        refine lv_bipush (v := 10) hx hb dX15_macroValue_276 (by decide) ?_
                        refine lv_irem hx hb dX15_macroValue_278 (by decide) ?_
                        refine lv_topi (fun x_355 _ => ?_)
                        refine lv_iadd hx hb dX15_macroValue_279 ?_
                        refine lv_topi (fun x_356 _ => ?_)
                        have hFc := pg_free hD hS hA
                        refine va_callv (va_runV (As := [.int x_356]) (rest := []) ⟨hx, hb, hml, hown, hts⟩ (s_X14_add l dC dI cs ty gm L H.size F_349 pe (ρ + 7) rp 100 (zz + 1) x_356 hW hL_pe hT_pe hq_350 (by first | omega | assumption)) ⟨callB_of 1 hts (gi kt_711) rfl rfl rfl (hts _ kt_676) (hts _ kt_712) (by decide +kernel) ⟨Nat.le_of_ble_eq_true rfl, Nat.le_of_ble_eq_true rfl⟩, (hts _ kt_713), (hts _ kt_714)⟩ ⟨fun a U g mk q => ⟨q.1, PTm.calling q.2⟩, pg_recv hK hP hL_pe hq_350 (q := (RX14, TX14, 2)) rfl, fun U hU hWm => ⟨rfl, PTm.mk hU hWm hP hK hD hE hO⟩⟩ rfl rfl hl.1 rfl (lv_room (Nat.le_of_ble_eq_true rfl)) dX15_macroValue_280 ⟨by show _ + 0 ≤ 0; omega, by show _ + 0 ≤ 0; omega⟩) hS (fun q _ h => hFc q h) hFc (fun u t H1 locs ht hvm hw hB hz1 hk1 hS => ?_)
                        obtain ⟨F_358, hB1, hq_359⟩ := hB
                        obtain ⟨hP, hD, hO, hR⟩ := QTm.back hB1 ht hFc hR (fun q h => by simp only [List.mem_cons, List.not_mem_nil, or_false] at h ⊢; omega)
                        have hF_360 : F_358 g1 = .inl (cs 17, 700, .inl fv) := (hB1.2.2.2 g1 (by rw [hT_g1]; simp)).trans hF_351
                        have hF_361 : F_358 h0 = .inr (15, (.ref ta) :: (.int (nI zt)) :: (.int (nI zo_119)) :: (.int (nI ze_120)) :: (.ref ou) :: (.ref so) :: (.ref ad) :: (.ref na) :: (.ref va) :: (.ref lc) :: (.ref dm) :: (.int v11_121) :: (.int v12_122) :: (.ref tg) :: (.int v14_123) :: (.int v15_124) :: (.ref pe) :: (.int v17_125) :: (.int v18_126) :: (.int v19_127) :: (.int v20_128) :: (.int v21_129) :: (.int v22_130) :: (.ref ml) :: (.ref bg) :: (.ref co) :: (.ref sp) :: (.ref nb0) :: (.ref nb1) :: (.ref nb2) :: (.int (nI nf)) :: (.int (nI bd)) :: (.int (nI mm)) :: (.int v33_131) :: (.ref pl) :: (.ref se) :: (.ref ke) :: (.ref wi) :: (.ref hs) :: (.ref mo) :: (.ref po) :: (.ref nu) :: (.ref pr) :: (.ref sq) :: (.ref xa) :: (.ref sa) :: (.ref n64) :: (.ref m64) :: (.ref ex) :: (.ref wh) :: (.ref sd) :: (.ref tk) :: (.int v52_132) :: (.int v53_133) :: (.int v54_134) :: (.ref hd) :: (.ref ak) :: (.ref ho) :: (.ref ot) :: []) := (hB1.2.2.2 h0 (by rw [hT_h0]; simp)).trans hF_352
                        have hF_362 : F_358 g2 = .inr (14, [.ref r2, .int (nI y)]) := (hB1.2.2.2 g2 (by rw [hT_g2]; simp)).trans hF_353
                        generalize H1 = H at hP hS ⊢
                        refine lv_iload hx hb dX15_macroValue_283 (lv_at hl 1 rfl) ?_
                        refine lv_if_le (tgt := 297) hx hb dX15_macroValue_285 (by decide) (fun c_363 => ?_) (fun c_363 => ?_)
                        ·
                          refine lv_iinc (v := (sv (mq + 1))) (lv' := [(10, .int (sv (mq + 1))), (11, .int x_304), (9, .int s9), (8, .int (nI nn)), (7, .int 0), (6, .int (fv a)), (0, .ref h0), (1, .ref g1), (2, .int (nI a)), (3, .int (nI tt)), (4, .ref dd), (5, .ref g2)]) hx hb dX15_macroValue_297 hl (k := 1) rfl (sv_n mq hm4) (by decide) rfl (fun ls hl => ?_)
                          refine lv_goto (tgt := 196) hx hb dX15_macroValue_300 (by decide) ?_
                          refine W.widen (k := 0) (n := 0) (by omega) (by omega) ?_
                          exact ih_298 ((mq + 1), (zz + 2)) F_358 (⟨by omega, hF_362, hq_359, Or.inl (by omega)⟩) (by show 4 - (mq + 1) < 4 - mq; omega) hO hR _ _ hP hD hS ls (lv_sub hl [0, 2, 3, 4, 5, 6, 7, 8, 9, 10, 11] rfl)
                        ·
                          refine lv_aload_n hx hb dX15_macroValue_288 rfl (lv_at hl 6 rfl) ?_
                          refine pg_get (ci := 15) (v := .ref pe) (C := RX15) (T := TX15) (N := 59) hx hb hts it_15 hown hK hP hL_h0 hF_361 rfl 16 (by decide) (hts _ kt_768) (fun _ h9 => h9) rfl dX15_macroValue_289 ?_
                          refine lv_bipush (v := 46) hx hb dX15_macroValue_292 (by decide) ?_
                          have hFc := pg_free hD hS hA
                          refine va_callv (va_runV (As := [.int 46]) (rest := []) ⟨hx, hb, hml, hown, hts⟩ (s_X14_add l dC dI cs ty gm L H.size F_358 pe (ρ + 7) rp 100 (zz + 2) 46 hW hL_pe hT_pe hq_359 (by first | omega | assumption)) ⟨callB_of 1 hts (gi kt_711) rfl rfl rfl (hts _ kt_676) (hts _ kt_712) (by decide +kernel) ⟨Nat.le_of_ble_eq_true rfl, Nat.le_of_ble_eq_true rfl⟩, (hts _ kt_713), (hts _ kt_714)⟩ ⟨fun a U g mk q => ⟨q.1, PTm.calling q.2⟩, pg_recv hK hP hL_pe hq_359 (q := (RX14, TX14, 2)) rfl, fun U hU hWm => ⟨rfl, PTm.mk hU hWm hP hK hD hE hO⟩⟩ rfl rfl hl.1 rfl (lv_room (Nat.le_of_ble_eq_true rfl)) dX15_macroValue_294 ⟨by show _ + 0 ≤ 0; omega, by show _ + 0 ≤ 0; omega⟩) hS (fun q _ h => hFc q h) hFc (fun u t H1 locs ht hvm hw hB hz1 hk1 hS => ?_)
                          obtain ⟨F_365, hB1, hq_366⟩ := hB
                          obtain ⟨hP, hD, hO, hR⟩ := QTm.back hB1 ht hFc hR (fun q h => by simp only [List.mem_cons, List.not_mem_nil, or_false] at h ⊢; omega)
                          have hF_367 : F_365 g1 = .inl (cs 17, 700, .inl fv) := (hB1.2.2.2 g1 (by rw [hT_g1]; simp)).trans hF_360
                          have hF_368 : F_365 h0 = .inr (15, (.ref ta) :: (.int (nI zt)) :: (.int (nI zo_119)) :: (.int (nI ze_120)) :: (.ref ou) :: (.ref so) :: (.ref ad) :: (.ref na) :: (.ref va) :: (.ref lc) :: (.ref dm) :: (.int v11_121) :: (.int v12_122) :: (.ref tg) :: (.int v14_123) :: (.int v15_124) :: (.ref pe) :: (.int v17_125) :: (.int v18_126) :: (.int v19_127) :: (.int v20_128) :: (.int v21_129) :: (.int v22_130) :: (.ref ml) :: (.ref bg) :: (.ref co) :: (.ref sp) :: (.ref nb0) :: (.ref nb1) :: (.ref nb2) :: (.int (nI nf)) :: (.int (nI bd)) :: (.int (nI mm)) :: (.int v33_131) :: (.ref pl) :: (.ref se) :: (.ref ke) :: (.ref wi) :: (.ref hs) :: (.ref mo) :: (.ref po) :: (.ref nu) :: (.ref pr) :: (.ref sq) :: (.ref xa) :: (.ref sa) :: (.ref n64) :: (.ref m64) :: (.ref ex) :: (.ref wh) :: (.ref sd) :: (.ref tk) :: (.int v52_132) :: (.int v53_133) :: (.int v54_134) :: (.ref hd) :: (.ref ak) :: (.ref ho) :: (.ref ot) :: []) := (hB1.2.2.2 h0 (by rw [hT_h0]; simp)).trans hF_361
                          have hF_369 : F_365 g2 = .inr (14, [.ref r2, .int (nI y)]) := (hB1.2.2.2 g2 (by rw [hT_g2]; simp)).trans hF_362
                          generalize H1 = H at hP hS ⊢
                          refine lv_iinc (v := (sv (mq + 1))) (lv' := [(10, .int (sv (mq + 1))), (11, .int x_304), (9, .int s9), (8, .int (nI nn)), (7, .int 0), (6, .int (fv a)), (0, .ref h0), (1, .ref g1), (2, .int (nI a)), (3, .int (nI tt)), (4, .ref dd), (5, .ref g2)]) hx hb dX15_macroValue_297 hl (k := 1) rfl (sv_n mq hm4) (by decide) rfl (fun ls hl => ?_)
                          refine lv_goto (tgt := 196) hx hb dX15_macroValue_300 (by decide) ?_
                          refine W.widen (k := 0) (n := 0) (by omega) (by omega) ?_
                          exact ih_298 ((mq + 1), (zz + 3)) F_365 (⟨by omega, hF_369, hq_366, Or.inl (by omega)⟩) (by show 4 - (mq + 1) < 4 - mq; omega) hO hR _ _ hP hD hS ls (lv_sub hl [0, 2, 3, 4, 5, 6, 7, 8, 9, 10, 11] rfl)
                      ·
                        refine lv_aload_n hx hb dX15_macroValue_250 rfl (lv_at hl 6 rfl) ?_
                        refine pg_get (ci := 15) (v := .ref pe) (C := RX15) (T := TX15) (N := 59) hx hb hts it_15 hown hK hP hL_h0 hF_352 rfl 16 (by decide) (hts _ kt_768) (fun _ h9 => h9) rfl dX15_macroValue_251 ?_
                        refine lv_bipush (v := 48) hx hb dX15_macroValue_254 (by decide) ?_
                        refine lv_iload hx hb dX15_macroValue_256 (lv_at hl 0 rfl) ?_
                        refine lv_bipush (v := 10) hx hb dX15_macroValue_258 (by decide) ?_
                        refine lv_idiv hx hb dX15_macroValue_260 (by decide) ?_
                        refine lv_topi (fun x_370 _ => ?_)
                        refine lv_bipush (v := 10) hx hb dX15_macroValue_261 (by decide) ?_
                        refine lv_irem hx hb dX15_macroValue_263 (by decide) ?_
                        refine lv_topi (fun x_371 _ => ?_)
                        refine lv_iadd hx hb dX15_macroValue_264 ?_
                        refine lv_topi (fun x_372 _ => ?_)
                        have hFc := pg_free hD hS hA
                        refine va_callv (va_runV (As := [.int x_372]) (rest := []) ⟨hx, hb, hml, hown, hts⟩ (s_X14_add l dC dI cs ty gm L H.size F_349 pe (ρ + 7) rp 100 (zz + 1) x_372 hW hL_pe hT_pe hq_350 (by first | omega | assumption)) ⟨callB_of 1 hts (gi kt_711) rfl rfl rfl (hts _ kt_676) (hts _ kt_712) (by decide +kernel) ⟨Nat.le_of_ble_eq_true rfl, Nat.le_of_ble_eq_true rfl⟩, (hts _ kt_713), (hts _ kt_714)⟩ ⟨fun a U g mk q => ⟨q.1, PTm.calling q.2⟩, pg_recv hK hP hL_pe hq_350 (q := (RX14, TX14, 2)) rfl, fun U hU hWm => ⟨rfl, PTm.mk hU hWm hP hK hD hE hO⟩⟩ rfl rfl hl.1 rfl (lv_room (Nat.le_of_ble_eq_true rfl)) dX15_macroValue_265 ⟨by show _ + 0 ≤ 0; omega, by show _ + 0 ≤ 0; omega⟩) hS (fun q _ h => hFc q h) hFc (fun u t H1 locs ht hvm hw hB hz1 hk1 hS => ?_)
                        obtain ⟨F_374, hB1, hq_375⟩ := hB
                        obtain ⟨hP, hD, hO, hR⟩ := QTm.back hB1 ht hFc hR (fun q h => by simp only [List.mem_cons, List.not_mem_nil, or_false] at h ⊢; omega)
                        have hF_376 : F_374 g1 = .inl (cs 17, 700, .inl fv) := (hB1.2.2.2 g1 (by rw [hT_g1]; simp)).trans hF_351
                        have hF_377 : F_374 h0 = .inr (15, (.ref ta) :: (.int (nI zt)) :: (.int (nI zo_119)) :: (.int (nI ze_120)) :: (.ref ou) :: (.ref so) :: (.ref ad) :: (.ref na) :: (.ref va) :: (.ref lc) :: (.ref dm) :: (.int v11_121) :: (.int v12_122) :: (.ref tg) :: (.int v14_123) :: (.int v15_124) :: (.ref pe) :: (.int v17_125) :: (.int v18_126) :: (.int v19_127) :: (.int v20_128) :: (.int v21_129) :: (.int v22_130) :: (.ref ml) :: (.ref bg) :: (.ref co) :: (.ref sp) :: (.ref nb0) :: (.ref nb1) :: (.ref nb2) :: (.int (nI nf)) :: (.int (nI bd)) :: (.int (nI mm)) :: (.int v33_131) :: (.ref pl) :: (.ref se) :: (.ref ke) :: (.ref wi) :: (.ref hs) :: (.ref mo) :: (.ref po) :: (.ref nu) :: (.ref pr) :: (.ref sq) :: (.ref xa) :: (.ref sa) :: (.ref n64) :: (.ref m64) :: (.ref ex) :: (.ref wh) :: (.ref sd) :: (.ref tk) :: (.int v52_132) :: (.int v53_133) :: (.int v54_134) :: (.ref hd) :: (.ref ak) :: (.ref ho) :: (.ref ot) :: []) := (hB1.2.2.2 h0 (by rw [hT_h0]; simp)).trans hF_352
                        have hF_378 : F_374 g2 = .inr (14, [.ref r2, .int (nI y)]) := (hB1.2.2.2 g2 (by rw [hT_g2]; simp)).trans hF_353
                        generalize H1 = H at hP hS ⊢
                        refine lv_aload_n hx hb dX15_macroValue_268 rfl (lv_at hl 6 rfl) ?_
                        refine pg_get (ci := 15) (v := .ref pe) (C := RX15) (T := TX15) (N := 59) hx hb hts it_15 hown hK hP hL_h0 hF_377 rfl 16 (by decide) (hts _ kt_768) (fun _ h9 => h9) rfl dX15_macroValue_269 ?_
                        refine lv_bipush (v := 48) hx hb dX15_macroValue_272 (by decide) ?_
                        refine lv_iload hx hb dX15_macroValue_274 (lv_at hl 0 rfl) ?_
                        refine lv_bipush (v := 10) hx hb dX15_macroValue_276 (by decide) ?_
                        refine lv_irem hx hb dX15_macroValue_278 (by decide) ?_
                        refine lv_topi (fun x_379 _ => ?_)
                        refine lv_iadd hx hb dX15_macroValue_279 ?_
                        refine lv_topi (fun x_380 _ => ?_)
                        have hFc := pg_free hD hS hA
                        refine va_callv (va_runV (As := [.int x_380]) (rest := []) ⟨hx, hb, hml, hown, hts⟩ (s_X14_add l dC dI cs ty gm L H.size F_374 pe (ρ + 7) rp 100 (zz + 2) x_380 hW hL_pe hT_pe hq_375 (by first | omega | assumption)) ⟨callB_of 1 hts (gi kt_711) rfl rfl rfl (hts _ kt_676) (hts _ kt_712) (by decide +kernel) ⟨Nat.le_of_ble_eq_true rfl, Nat.le_of_ble_eq_true rfl⟩, (hts _ kt_713), (hts _ kt_714)⟩ ⟨fun a U g mk q => ⟨q.1, PTm.calling q.2⟩, pg_recv hK hP hL_pe hq_375 (q := (RX14, TX14, 2)) rfl, fun U hU hWm => ⟨rfl, PTm.mk hU hWm hP hK hD hE hO⟩⟩ rfl rfl hl.1 rfl (lv_room (Nat.le_of_ble_eq_true rfl)) dX15_macroValue_280 ⟨by show _ + 0 ≤ 0; omega, by show _ + 0 ≤ 0; omega⟩) hS (fun q _ h => hFc q h) hFc (fun u t H1 locs ht hvm hw hB hz1 hk1 hS => ?_)
                        obtain ⟨F_382, hB1, hq_383⟩ := hB
                        obtain ⟨hP, hD, hO, hR⟩ := QTm.back hB1 ht hFc hR (fun q h => by simp only [List.mem_cons, List.not_mem_nil, or_false] at h ⊢; omega)
                        have hF_384 : F_382 g1 = .inl (cs 17, 700, .inl fv) := (hB1.2.2.2 g1 (by rw [hT_g1]; simp)).trans hF_376
                        have hF_385 : F_382 h0 = .inr (15, (.ref ta) :: (.int (nI zt)) :: (.int (nI zo_119)) :: (.int (nI ze_120)) :: (.ref ou) :: (.ref so) :: (.ref ad) :: (.ref na) :: (.ref va) :: (.ref lc) :: (.ref dm) :: (.int v11_121) :: (.int v12_122) :: (.ref tg) :: (.int v14_123) :: (.int v15_124) :: (.ref pe) :: (.int v17_125) :: (.int v18_126) :: (.int v19_127) :: (.int v20_128) :: (.int v21_129) :: (.int v22_130) :: (.ref ml) :: (.ref bg) :: (.ref co) :: (.ref sp) :: (.ref nb0) :: (.ref nb1) :: (.ref nb2) :: (.int (nI nf)) :: (.int (nI bd)) :: (.int (nI mm)) :: (.int v33_131) :: (.ref pl) :: (.ref se) :: (.ref ke) :: (.ref wi) :: (.ref hs) :: (.ref mo) :: (.ref po) :: (.ref nu) :: (.ref pr) :: (.ref sq) :: (.ref xa) :: (.ref sa) :: (.ref n64) :: (.ref m64) :: (.ref ex) :: (.ref wh) :: (.ref sd) :: (.ref tk) :: (.int v52_132) :: (.int v53_133) :: (.int v54_134) :: (.ref hd) :: (.ref ak) :: (.ref ho) :: (.ref ot) :: []) := (hB1.2.2.2 h0 (by rw [hT_h0]; simp)).trans hF_377
                        have hF_386 : F_382 g2 = .inr (14, [.ref r2, .int (nI y)]) := (hB1.2.2.2 g2 (by rw [hT_g2]; simp)).trans hF_378
                        generalize H1 = H at hP hS ⊢
                        refine lv_iload hx hb dX15_macroValue_283 (lv_at hl 1 rfl) ?_
                        refine lv_if_le (tgt := 297) hx hb dX15_macroValue_285 (by decide) (fun c_387 => ?_) (fun c_387 => ?_)
                        ·
                          refine lv_iinc (v := (sv (mq + 1))) (lv' := [(10, .int (sv (mq + 1))), (11, .int x_304), (9, .int s9), (8, .int (nI nn)), (7, .int 0), (6, .int (fv a)), (0, .ref h0), (1, .ref g1), (2, .int (nI a)), (3, .int (nI tt)), (4, .ref dd), (5, .ref g2)]) hx hb dX15_macroValue_297 hl (k := 1) rfl (sv_n mq hm4) (by decide) rfl (fun ls hl => ?_)
                          refine lv_goto (tgt := 196) hx hb dX15_macroValue_300 (by decide) ?_
                          refine W.widen (k := 0) (n := 0) (by omega) (by omega) ?_
                          exact ih_298 ((mq + 1), (zz + 3)) F_382 (⟨by omega, hF_386, hq_383, Or.inl (by omega)⟩) (by show 4 - (mq + 1) < 4 - mq; omega) hO hR _ _ hP hD hS ls (lv_sub hl [0, 2, 3, 4, 5, 6, 7, 8, 9, 10, 11] rfl)
                        ·
                          refine lv_aload_n hx hb dX15_macroValue_288 rfl (lv_at hl 6 rfl) ?_
                          refine pg_get (ci := 15) (v := .ref pe) (C := RX15) (T := TX15) (N := 59) hx hb hts it_15 hown hK hP hL_h0 hF_385 rfl 16 (by decide) (hts _ kt_768) (fun _ h9 => h9) rfl dX15_macroValue_289 ?_
                          refine lv_bipush (v := 46) hx hb dX15_macroValue_292 (by decide) ?_
                          have hFc := pg_free hD hS hA
                          refine va_callv (va_runV (As := [.int 46]) (rest := []) ⟨hx, hb, hml, hown, hts⟩ (s_X14_add l dC dI cs ty gm L H.size F_382 pe (ρ + 7) rp 100 (zz + 3) 46 hW hL_pe hT_pe hq_383 (by first | omega | assumption)) ⟨callB_of 1 hts (gi kt_711) rfl rfl rfl (hts _ kt_676) (hts _ kt_712) (by decide +kernel) ⟨Nat.le_of_ble_eq_true rfl, Nat.le_of_ble_eq_true rfl⟩, (hts _ kt_713), (hts _ kt_714)⟩ ⟨fun a U g mk q => ⟨q.1, PTm.calling q.2⟩, pg_recv hK hP hL_pe hq_383 (q := (RX14, TX14, 2)) rfl, fun U hU hWm => ⟨rfl, PTm.mk hU hWm hP hK hD hE hO⟩⟩ rfl rfl hl.1 rfl (lv_room (Nat.le_of_ble_eq_true rfl)) dX15_macroValue_294 ⟨by show _ + 0 ≤ 0; omega, by show _ + 0 ≤ 0; omega⟩) hS (fun q _ h => hFc q h) hFc (fun u t H1 locs ht hvm hw hB hz1 hk1 hS => ?_)
                          obtain ⟨F_389, hB1, hq_390⟩ := hB
                          obtain ⟨hP, hD, hO, hR⟩ := QTm.back hB1 ht hFc hR (fun q h => by simp only [List.mem_cons, List.not_mem_nil, or_false] at h ⊢; omega)
                          have hF_391 : F_389 g1 = .inl (cs 17, 700, .inl fv) := (hB1.2.2.2 g1 (by rw [hT_g1]; simp)).trans hF_384
                          have hF_392 : F_389 h0 = .inr (15, (.ref ta) :: (.int (nI zt)) :: (.int (nI zo_119)) :: (.int (nI ze_120)) :: (.ref ou) :: (.ref so) :: (.ref ad) :: (.ref na) :: (.ref va) :: (.ref lc) :: (.ref dm) :: (.int v11_121) :: (.int v12_122) :: (.ref tg) :: (.int v14_123) :: (.int v15_124) :: (.ref pe) :: (.int v17_125) :: (.int v18_126) :: (.int v19_127) :: (.int v20_128) :: (.int v21_129) :: (.int v22_130) :: (.ref ml) :: (.ref bg) :: (.ref co) :: (.ref sp) :: (.ref nb0) :: (.ref nb1) :: (.ref nb2) :: (.int (nI nf)) :: (.int (nI bd)) :: (.int (nI mm)) :: (.int v33_131) :: (.ref pl) :: (.ref se) :: (.ref ke) :: (.ref wi) :: (.ref hs) :: (.ref mo) :: (.ref po) :: (.ref nu) :: (.ref pr) :: (.ref sq) :: (.ref xa) :: (.ref sa) :: (.ref n64) :: (.ref m64) :: (.ref ex) :: (.ref wh) :: (.ref sd) :: (.ref tk) :: (.int v52_132) :: (.int v53_133) :: (.int v54_134) :: (.ref hd) :: (.ref ak) :: (.ref ho) :: (.ref ot) :: []) := (hB1.2.2.2 h0 (by rw [hT_h0]; simp)).trans hF_385
                          have hF_393 : F_389 g2 = .inr (14, [.ref r2, .int (nI y)]) := (hB1.2.2.2 g2 (by rw [hT_g2]; simp)).trans hF_386
                          generalize H1 = H at hP hS ⊢
                          refine lv_iinc (v := (sv (mq + 1))) (lv' := [(10, .int (sv (mq + 1))), (11, .int x_304), (9, .int s9), (8, .int (nI nn)), (7, .int 0), (6, .int (fv a)), (0, .ref h0), (1, .ref g1), (2, .int (nI a)), (3, .int (nI tt)), (4, .ref dd), (5, .ref g2)]) hx hb dX15_macroValue_297 hl (k := 1) rfl (sv_n mq hm4) (by decide) rfl (fun ls hl => ?_)
                          refine lv_goto (tgt := 196) hx hb dX15_macroValue_300 (by decide) ?_
                          refine W.widen (k := 0) (n := 0) (by omega) (by omega) ?_
                          exact ih_298 ((mq + 1), (zz + 4)) F_389 (⟨by omega, hF_393, hq_390, Or.inl (by omega)⟩) (by show 4 - (mq + 1) < 4 - mq; omega) hO hR _ _ hP hD hS ls (lv_sub hl [0, 2, 3, 4, 5, 6, 7, 8, 9, 10, 11] rfl)
            ·
              refine lv_iload hx hb dX15_macroValue_167 (lv_at hl 3 rfl) ?_
              refine lv_bipush (v := 100) hx hb dX15_macroValue_169 (by decide) ?_
              refine lv_icmp_ne (tgt := 192) hx hb dX15_macroValue_171 (by decide) (fun c_394 => ?_) (fun c_394 => ?_)
              ·
                refine W.widen (k := 0) (n := 0) (by omega) (by omega) ?_
                obtain ⟨hi_395, ht_396, hq_397⟩ := hW.txt hL_g2 hT_g2
                exact jn_173 zz167 F_167 (⟨hwca, hwcb, by omega, hwcd.imp id (fun h => h.imp id (fun h => h.imp id Or.inl))⟩) hO hR _ _ hP hD hS ls (lv_sub hl [0, 1, 2, 3, 4, 5, 6, 7, 8, 9] rfl)
              ·
                have hz9 : zz167 = 0 := by
                  rcases hwcd with h | h | h | h
                  · exact h
                  · exact absurd (c_394.symm.trans h) (by decide)
                  · exact absurd (c_394.symm.trans h) (by decide)
                  · exact absurd (c_394.symm.trans h) (by decide)
                refine lv_aload_n hx hb dX15_macroValue_174 rfl (lv_at hl 4 rfl) ?_
                refine pg_get (ci := 15) (v := .ref pe) (C := RX15) (T := TX15) (N := 59) hx hb hts it_15 hown hK hP hL_h0 hF_172 rfl 16 (by decide) (hts _ kt_768) (fun _ h9 => h9) rfl dX15_macroValue_175 ?_
                refine lv_aload hx hb dX15_macroValue_178 (lv_at hl 8 rfl) ?_
                obtain ⟨hi_398, ht_399, hq_400⟩ := hW.txt hL_dd hT_dd
                obtain ⟨z_401, hF_402, hq_403⟩ := hO.txt hL_dd hT_dd
                refine pg_get (ci := 14) (v := .ref rd) (C := RX14) (T := TX14) (N := 2) hx hb hts it_14 hown hK hP hL_dd hF_402 rfl 0 (by decide) (hts _ kt_710) (fun _ h9 => h9) rfl dX15_macroValue_180 ?_
                refine lv_iconst (v := 0) hx hb dX15_macroValue_183 (by decide) ?_
                refine lv_aload hx hb dX15_macroValue_184 (lv_at hl 8 rfl) ?_
                refine pg_get (ci := 14) (v := .int (nI z_401)) (C := RX14) (T := TX14) (N := 2) hx hb hts it_14 hown hK hP hL_dd hF_402 rfl 1 (by decide) (hts _ kt_709) (fun _ h9 => h9) rfl dX15_macroValue_186 ?_
                refine W.eq (g2 := F0 m 189 ls [.int (nI z_401), .int (nI 0), .ref rd, .ref pe]) rfl ?_
                obtain ⟨hq_404, hq_405⟩ := hW.octs hi_398 ht_399
                have hFc := pg_free hD hS hA
                refine va_callv (va_runV (As := [.ref rd, .int (nI 0), .int (nI z_401)]) (rest := []) ⟨hx, hb, hml, hown, hts⟩ (s_X14_add_ l dC dI cs ty gm L H.size F_167 pe (ρ + 7) rp 100 rd τ nd zz167 0 z_401 hW hL_pe hT_pe hi_398 ht_399 hwcb (by first | omega | assumption) (by first | omega | assumption) (by first | omega | assumption)) ⟨callB_of 3 hts (gi kt_675) rfl rfl rfl (hts _ kt_676) (hts _ kt_776) (by decide +kernel) ⟨Nat.le_of_ble_eq_true rfl, Nat.le_of_ble_eq_true rfl⟩, (hts _ kt_678), (hts _ kt_679)⟩ ⟨fun a U g mk q => ⟨q.1, PTm.calling q.2⟩, pg_recv hK hP hL_pe hwcb (q := (RX14, TX14, 2)) rfl, fun U hU hWm => ⟨rfl, PTm.mk hU hWm hP hK hD hE hO⟩⟩ rfl rfl hl.1 rfl (lv_room (Nat.le_of_ble_eq_true rfl)) dX15_macroValue_189 ⟨by show _ + 0 ≤ 0; omega, by show _ + 0 ≤ 0; omega⟩) hS (fun q _ h => hFc q h) hFc (fun u t H1 locs ht hvm hw hB hz1 hk1 hS => ?_)
                obtain ⟨F_407, hB1, hq_408⟩ := hB
                obtain ⟨hP, hD, hO, hR⟩ := QTm.back hB1 ht hFc hR (fun q h => by simp only [List.mem_cons, List.not_mem_nil, or_false] at h ⊢; omega)
                have hF_409 : F_407 g1 = .inl (cs 17, 700, .inl fv) := (hB1.2.2.2 g1 (by rw [hT_g1]; simp)).trans hF_171
                have hF_410 : F_407 h0 = .inr (15, (.ref ta) :: (.int (nI zt)) :: (.int (nI zo_119)) :: (.int (nI ze_120)) :: (.ref ou) :: (.ref so) :: (.ref ad) :: (.ref na) :: (.ref va) :: (.ref lc) :: (.ref dm) :: (.int v11_121) :: (.int v12_122) :: (.ref tg) :: (.int v14_123) :: (.int v15_124) :: (.ref pe) :: (.int v17_125) :: (.int v18_126) :: (.int v19_127) :: (.int v20_128) :: (.int v21_129) :: (.int v22_130) :: (.ref ml) :: (.ref bg) :: (.ref co) :: (.ref sp) :: (.ref nb0) :: (.ref nb1) :: (.ref nb2) :: (.int (nI nf)) :: (.int (nI bd)) :: (.int (nI mm)) :: (.int v33_131) :: (.ref pl) :: (.ref se) :: (.ref ke) :: (.ref wi) :: (.ref hs) :: (.ref mo) :: (.ref po) :: (.ref nu) :: (.ref pr) :: (.ref sq) :: (.ref xa) :: (.ref sa) :: (.ref n64) :: (.ref m64) :: (.ref ex) :: (.ref wh) :: (.ref sd) :: (.ref tk) :: (.int v52_132) :: (.int v53_133) :: (.int v54_134) :: (.ref hd) :: (.ref ak) :: (.ref ho) :: (.ref ot) :: []) := (hB1.2.2.2 h0 (by rw [hT_h0]; simp)).trans hF_172
                have hF_411 : F_407 g2 = .inr (14, [.ref r2, .int (nI y)]) := (hB1.2.2.2 g2 (by rw [hT_g2]; simp)).trans hwca
                generalize H1 = H at hP hS ⊢
                refine W.widen (k := 0) (n := 0) (by omega) (by omega) ?_
                obtain ⟨hi_412, ht_413, hq_414⟩ := hW.txt hL_g2 hT_g2
                exact jn_173 (zz167 + (z_401 - 0)) F_407 (⟨hF_411, hq_408, by omega, (Or.inr (Or.inr (Or.inr (Or.inr c_394))))⟩) hO hR _ _ hP hD hS ls (lv_sub hl [0, 1, 2, 3, 4, 5, 6, 7, 8, 9] rfl)
          ·
            refine lv_iload hx hb dX15_macroValue_131 (lv_at hl 3 rfl) ?_
            refine lv_bipush (v := 115) hx hb dX15_macroValue_133 (by decide) ?_
            refine lv_icmp_eq (tgt := 145) hx hb dX15_macroValue_135 (by decide) (fun c_415 => ?_) (fun c_415 => ?_)
            ·
              refine lv_aload_n hx hb dX15_macroValue_145 rfl (lv_at hl 4 rfl) ?_
              refine pg_get (ci := 15) (v := .ref pe) (C := RX15) (T := TX15) (N := 59) hx hb hts it_15 hown hK hP hL_h0 hF_165 rfl 16 (by decide) (hts _ kt_768) (fun _ h9 => h9) rfl dX15_macroValue_146 ?_
              refine lv_aload_n hx hb dX15_macroValue_149 rfl (lv_at hl 4 rfl) ?_
              refine pg_get (ci := 15) (v := .ref dm) (C := RX15) (T := TX15) (N := 59) hx hb hts it_15 hown hK hP hL_h0 hF_165 rfl 10 (by decide) (hts _ kt_777) (fun _ h9 => h9) rfl dX15_macroValue_150 ?_
              obtain ⟨hi_416, ht_417, hq_418⟩ := hW.txt hi_32 ht_34
              obtain ⟨z_419, hF_420, hq_421⟩ := hO.txt hi_32 ht_34
              refine pg_get (ci := 14) (v := .ref r_33) (C := RX14) (T := TX14) (N := 2) hx hb hts it_14 hown hK hP hi_32 hF_420 rfl 0 (by decide) (hts _ kt_710) (fun _ h9 => h9) rfl dX15_macroValue_153 ?_
              refine lv_iconst (v := 0) hx hb dX15_macroValue_156 (by decide) ?_
              refine lv_aload_n hx hb dX15_macroValue_157 rfl (lv_at hl 4 rfl) ?_
              refine pg_get (ci := 15) (v := .ref dm) (C := RX15) (T := TX15) (N := 59) hx hb hts it_15 hown hK hP hL_h0 hF_165 rfl 10 (by decide) (hts _ kt_777) (fun _ h9 => h9) rfl dX15_macroValue_158 ?_
              refine pg_get (ci := 14) (v := .int (nI z_419)) (C := RX14) (T := TX14) (N := 2) hx hb hts it_14 hown hK hP hi_32 hF_420 rfl 1 (by decide) (hts _ kt_709) (fun _ h9 => h9) rfl dX15_macroValue_161 ?_
              refine W.eq (g2 := F0 m 164 ls [.int (nI z_419), .int (nI 0), .ref r_33, .ref pe]) rfl ?_
              obtain ⟨hq_422, hq_423⟩ := hW.octs hi_416 ht_417
              have hFc := pg_free hD hS hA
              refine va_callv (va_runV (As := [.ref r_33, .int (nI 0), .int (nI z_419)]) (rest := []) ⟨hx, hb, hml, hown, hts⟩ (s_X14_add_ l dC dI cs ty gm L H.size F_160 pe (ρ + 7) rp 100 r_33 (ρ + 5) 60 zz131 0 z_419 hW hL_pe hT_pe hi_416 ht_417 hwbb (by first | omega | assumption) (by first | omega | assumption) (by first | omega | assumption)) ⟨callB_of 3 hts (gi kt_675) rfl rfl rfl (hts _ kt_676) (hts _ kt_776) (by decide +kernel) ⟨Nat.le_of_ble_eq_true rfl, Nat.le_of_ble_eq_true rfl⟩, (hts _ kt_678), (hts _ kt_679)⟩ ⟨fun a U g mk q => ⟨q.1, PTm.calling q.2⟩, pg_recv hK hP hL_pe hwbb (q := (RX14, TX14, 2)) rfl, fun U hU hWm => ⟨rfl, PTm.mk hU hWm hP hK hD hE hO⟩⟩ rfl rfl hl.1 rfl (lv_room (Nat.le_of_ble_eq_true rfl)) dX15_macroValue_164 ⟨by show _ + 0 ≤ 0; omega, by show _ + 0 ≤ 0; omega⟩) hS (fun q _ h => hFc q h) hFc (fun u t H1 locs ht hvm hw hB hz1 hk1 hS => ?_)
              obtain ⟨F_425, hB1, hq_426⟩ := hB
              obtain ⟨hP, hD, hO, hR⟩ := QTm.back hB1 ht hFc hR (fun q h => by simp only [List.mem_cons, List.not_mem_nil, or_false] at h ⊢; omega)
              have hF_427 : F_425 g1 = .inl (cs 17, 700, .inl fv) := (hB1.2.2.2 g1 (by rw [hT_g1]; simp)).trans hF_164
              have hF_428 : F_425 h0 = .inr (15, (.ref ta) :: (.int (nI zt)) :: (.int (nI zo_119)) :: (.int (nI ze_120)) :: (.ref ou) :: (.ref so) :: (.ref ad) :: (.ref na) :: (.ref va) :: (.ref lc) :: (.ref dm) :: (.int v11_121) :: (.int v12_122) :: (.ref tg) :: (.int v14_123) :: (.int v15_124) :: (.ref pe) :: (.int v17_125) :: (.int v18_126) :: (.int v19_127) :: (.int v20_128) :: (.int v21_129) :: (.int v22_130) :: (.ref ml) :: (.ref bg) :: (.ref co) :: (.ref sp) :: (.ref nb0) :: (.ref nb1) :: (.ref nb2) :: (.int (nI nf)) :: (.int (nI bd)) :: (.int (nI mm)) :: (.int v33_131) :: (.ref pl) :: (.ref se) :: (.ref ke) :: (.ref wi) :: (.ref hs) :: (.ref mo) :: (.ref po) :: (.ref nu) :: (.ref pr) :: (.ref sq) :: (.ref xa) :: (.ref sa) :: (.ref n64) :: (.ref m64) :: (.ref ex) :: (.ref wh) :: (.ref sd) :: (.ref tk) :: (.int v52_132) :: (.int v53_133) :: (.int v54_134) :: (.ref hd) :: (.ref ak) :: (.ref ho) :: (.ref ot) :: []) := (hB1.2.2.2 h0 (by rw [hT_h0]; simp)).trans hF_165
              have hF_429 : F_425 g2 = .inr (14, [.ref r2, .int (nI y)]) := (hB1.2.2.2 g2 (by rw [hT_g2]; simp)).trans hwba
              have hF_430 : F_425 dm = .inr (14, [.ref r_33, .int (nI z_419)]) := (hB1.2.2.2 dm (by rw [ht_34]; simp)).trans hF_420
              generalize H1 = H at hP hS ⊢
              refine W.widen (k := 0) (n := 0) (by omega) (by omega) ?_
              obtain ⟨hi_431, ht_432, hq_433⟩ := hW.txt hL_g2 hT_g2
              exact jn_166 (zz131 + (z_419 - 0)) F_425 (⟨hF_429, hq_426, by omega, (Or.inr (Or.inl c_415))⟩) hO hR _ _ hP hD hS ls (lv_sub hl [0, 1, 2, 3, 4, 5, 6, 7, 8, 9] rfl)
            ·
              refine lv_iload hx hb dX15_macroValue_138 (lv_at hl 3 rfl) ?_
              refine lv_bipush (v := 111) hx hb dX15_macroValue_140 (by decide) ?_
              refine lv_icmp_ne (tgt := 167) hx hb dX15_macroValue_142 (by decide) (fun c_434 => ?_) (fun c_434 => ?_)
              ·
                refine W.widen (k := 0) (n := 0) (by omega) (by omega) ?_
                obtain ⟨hi_435, ht_436, hq_437⟩ := hW.txt hL_g2 hT_g2
                exact jn_166 zz131 F_160 (⟨hwba, hwbb, by omega, hwbd.imp id (fun h => h.imp id Or.inl)⟩) hO hR _ _ hP hD hS ls (lv_sub hl [0, 1, 2, 3, 4, 5, 6, 7, 8, 9] rfl)
              ·
                have hz8 : zz131 = 0 := by
                  rcases hwbd with h | h | h
                  · exact h
                  · exact absurd (c_434.symm.trans h) (by decide)
                  · exact absurd (c_434.symm.trans h) (by decide)
                refine lv_aload_n hx hb dX15_macroValue_145 rfl (lv_at hl 4 rfl) ?_
                refine pg_get (ci := 15) (v := .ref pe) (C := RX15) (T := TX15) (N := 59) hx hb hts it_15 hown hK hP hL_h0 hF_165 rfl 16 (by decide) (hts _ kt_768) (fun _ h9 => h9) rfl dX15_macroValue_146 ?_
                refine lv_aload_n hx hb dX15_macroValue_149 rfl (lv_at hl 4 rfl) ?_
                refine pg_get (ci := 15) (v := .ref dm) (C := RX15) (T := TX15) (N := 59) hx hb hts it_15 hown hK hP hL_h0 hF_165 rfl 10 (by decide) (hts _ kt_777) (fun _ h9 => h9) rfl dX15_macroValue_150 ?_
                obtain ⟨hi_438, ht_439, hq_440⟩ := hW.txt hi_32 ht_34
                obtain ⟨z_441, hF_442, hq_443⟩ := hO.txt hi_32 ht_34
                refine pg_get (ci := 14) (v := .ref r_33) (C := RX14) (T := TX14) (N := 2) hx hb hts it_14 hown hK hP hi_32 hF_442 rfl 0 (by decide) (hts _ kt_710) (fun _ h9 => h9) rfl dX15_macroValue_153 ?_
                refine lv_iconst (v := 0) hx hb dX15_macroValue_156 (by decide) ?_
                refine lv_aload_n hx hb dX15_macroValue_157 rfl (lv_at hl 4 rfl) ?_
                refine pg_get (ci := 15) (v := .ref dm) (C := RX15) (T := TX15) (N := 59) hx hb hts it_15 hown hK hP hL_h0 hF_165 rfl 10 (by decide) (hts _ kt_777) (fun _ h9 => h9) rfl dX15_macroValue_158 ?_
                refine pg_get (ci := 14) (v := .int (nI z_441)) (C := RX14) (T := TX14) (N := 2) hx hb hts it_14 hown hK hP hi_32 hF_442 rfl 1 (by decide) (hts _ kt_709) (fun _ h9 => h9) rfl dX15_macroValue_161 ?_
                refine W.eq (g2 := F0 m 164 ls [.int (nI z_441), .int (nI 0), .ref r_33, .ref pe]) rfl ?_
                obtain ⟨hq_444, hq_445⟩ := hW.octs hi_438 ht_439
                have hFc := pg_free hD hS hA
                refine va_callv (va_runV (As := [.ref r_33, .int (nI 0), .int (nI z_441)]) (rest := []) ⟨hx, hb, hml, hown, hts⟩ (s_X14_add_ l dC dI cs ty gm L H.size F_160 pe (ρ + 7) rp 100 r_33 (ρ + 5) 60 zz131 0 z_441 hW hL_pe hT_pe hi_438 ht_439 hwbb (by first | omega | assumption) (by first | omega | assumption) (by first | omega | assumption)) ⟨callB_of 3 hts (gi kt_675) rfl rfl rfl (hts _ kt_676) (hts _ kt_776) (by decide +kernel) ⟨Nat.le_of_ble_eq_true rfl, Nat.le_of_ble_eq_true rfl⟩, (hts _ kt_678), (hts _ kt_679)⟩ ⟨fun a U g mk q => ⟨q.1, PTm.calling q.2⟩, pg_recv hK hP hL_pe hwbb (q := (RX14, TX14, 2)) rfl, fun U hU hWm => ⟨rfl, PTm.mk hU hWm hP hK hD hE hO⟩⟩ rfl rfl hl.1 rfl (lv_room (Nat.le_of_ble_eq_true rfl)) dX15_macroValue_164 ⟨by show _ + 0 ≤ 0; omega, by show _ + 0 ≤ 0; omega⟩) hS (fun q _ h => hFc q h) hFc (fun u t H1 locs ht hvm hw hB hz1 hk1 hS => ?_)
                obtain ⟨F_447, hB1, hq_448⟩ := hB
                obtain ⟨hP, hD, hO, hR⟩ := QTm.back hB1 ht hFc hR (fun q h => by simp only [List.mem_cons, List.not_mem_nil, or_false] at h ⊢; omega)
                have hF_449 : F_447 g1 = .inl (cs 17, 700, .inl fv) := (hB1.2.2.2 g1 (by rw [hT_g1]; simp)).trans hF_164
                have hF_450 : F_447 h0 = .inr (15, (.ref ta) :: (.int (nI zt)) :: (.int (nI zo_119)) :: (.int (nI ze_120)) :: (.ref ou) :: (.ref so) :: (.ref ad) :: (.ref na) :: (.ref va) :: (.ref lc) :: (.ref dm) :: (.int v11_121) :: (.int v12_122) :: (.ref tg) :: (.int v14_123) :: (.int v15_124) :: (.ref pe) :: (.int v17_125) :: (.int v18_126) :: (.int v19_127) :: (.int v20_128) :: (.int v21_129) :: (.int v22_130) :: (.ref ml) :: (.ref bg) :: (.ref co) :: (.ref sp) :: (.ref nb0) :: (.ref nb1) :: (.ref nb2) :: (.int (nI nf)) :: (.int (nI bd)) :: (.int (nI mm)) :: (.int v33_131) :: (.ref pl) :: (.ref se) :: (.ref ke) :: (.ref wi) :: (.ref hs) :: (.ref mo) :: (.ref po) :: (.ref nu) :: (.ref pr) :: (.ref sq) :: (.ref xa) :: (.ref sa) :: (.ref n64) :: (.ref m64) :: (.ref ex) :: (.ref wh) :: (.ref sd) :: (.ref tk) :: (.int v52_132) :: (.int v53_133) :: (.int v54_134) :: (.ref hd) :: (.ref ak) :: (.ref ho) :: (.ref ot) :: []) := (hB1.2.2.2 h0 (by rw [hT_h0]; simp)).trans hF_165
                have hF_451 : F_447 g2 = .inr (14, [.ref r2, .int (nI y)]) := (hB1.2.2.2 g2 (by rw [hT_g2]; simp)).trans hwba
                have hF_452 : F_447 dm = .inr (14, [.ref r_33, .int (nI z_441)]) := (hB1.2.2.2 dm (by rw [ht_34]; simp)).trans hF_442
                generalize H1 = H at hP hS ⊢
                refine W.widen (k := 0) (n := 0) (by omega) (by omega) ?_
                obtain ⟨hi_453, ht_454, hq_455⟩ := hW.txt hL_g2 hT_g2
                exact jn_166 (zz131 + (z_441 - 0)) F_447 (⟨hF_451, hq_448, by omega, (Or.inr (Or.inr (Or.inr c_434)))⟩) hO hR _ _ hP hD hS ls (lv_sub hl [0, 1, 2, 3, 4, 5, 6, 7, 8, 9] rfl)
        ·
          refine lv_iload hx hb dX15_macroValue_115 (lv_at hl 3 rfl) ?_
          refine lv_bipush (v := 115) hx hb dX15_macroValue_117 (by decide) ?_
          refine lv_icmp_ne (tgt := 131) hx hb dX15_macroValue_119 (by decide) (fun c_456 => ?_) (fun c_456 => ?_)
          ·
            refine W.widen (k := 0) (n := 0) (by omega) (by omega) ?_
            obtain ⟨hi_457, ht_458, hq_459⟩ := hW.txt hL_g2 hT_g2
            exact jn_159 zz115 F_153 (⟨hwaa, hwab, by omega, hwad⟩) hO hR _ _ hP hD hS ls (lv_sub hl [0, 1, 2, 3, 4, 5, 6, 7, 8, 9] rfl)
          ·
            refine lv_aload_n hx hb dX15_macroValue_122 rfl (lv_at hl 4 rfl) ?_
            refine pg_get (ci := 15) (v := .ref pe) (C := RX15) (T := TX15) (N := 59) hx hb hts it_15 hown hK hP hL_h0 hF_158 rfl 16 (by decide) (hts _ kt_768) (fun _ h9 => h9) rfl dX15_macroValue_123 ?_
            refine lv_bipush (v := 64) hx hb dX15_macroValue_126 (by decide) ?_
            have hFc := pg_free hD hS hA
            refine va_callv (va_runV (As := [.int 64]) (rest := []) ⟨hx, hb, hml, hown, hts⟩ (s_X14_add l dC dI cs ty gm L H.size F_153 pe (ρ + 7) rp 100 zz115 64 hW hL_pe hT_pe hwab (by first | omega | assumption)) ⟨callB_of 1 hts (gi kt_711) rfl rfl rfl (hts _ kt_676) (hts _ kt_712) (by decide +kernel) ⟨Nat.le_of_ble_eq_true rfl, Nat.le_of_ble_eq_true rfl⟩, (hts _ kt_713), (hts _ kt_714)⟩ ⟨fun a U g mk q => ⟨q.1, PTm.calling q.2⟩, pg_recv hK hP hL_pe hwab (q := (RX14, TX14, 2)) rfl, fun U hU hWm => ⟨rfl, PTm.mk hU hWm hP hK hD hE hO⟩⟩ rfl rfl hl.1 rfl (lv_room (Nat.le_of_ble_eq_true rfl)) dX15_macroValue_128 ⟨by show _ + 0 ≤ 0; omega, by show _ + 0 ≤ 0; omega⟩) hS (fun q _ h => hFc q h) hFc (fun u t H1 locs ht hvm hw hB hz1 hk1 hS => ?_)
            obtain ⟨F_461, hB1, hq_462⟩ := hB
            obtain ⟨hP, hD, hO, hR⟩ := QTm.back hB1 ht hFc hR (fun q h => by simp only [List.mem_cons, List.not_mem_nil, or_false] at h ⊢; omega)
            have hF_463 : F_461 g1 = .inl (cs 17, 700, .inl fv) := (hB1.2.2.2 g1 (by rw [hT_g1]; simp)).trans hF_157
            have hF_464 : F_461 h0 = .inr (15, (.ref ta) :: (.int (nI zt)) :: (.int (nI zo_119)) :: (.int (nI ze_120)) :: (.ref ou) :: (.ref so) :: (.ref ad) :: (.ref na) :: (.ref va) :: (.ref lc) :: (.ref dm) :: (.int v11_121) :: (.int v12_122) :: (.ref tg) :: (.int v14_123) :: (.int v15_124) :: (.ref pe) :: (.int v17_125) :: (.int v18_126) :: (.int v19_127) :: (.int v20_128) :: (.int v21_129) :: (.int v22_130) :: (.ref ml) :: (.ref bg) :: (.ref co) :: (.ref sp) :: (.ref nb0) :: (.ref nb1) :: (.ref nb2) :: (.int (nI nf)) :: (.int (nI bd)) :: (.int (nI mm)) :: (.int v33_131) :: (.ref pl) :: (.ref se) :: (.ref ke) :: (.ref wi) :: (.ref hs) :: (.ref mo) :: (.ref po) :: (.ref nu) :: (.ref pr) :: (.ref sq) :: (.ref xa) :: (.ref sa) :: (.ref n64) :: (.ref m64) :: (.ref ex) :: (.ref wh) :: (.ref sd) :: (.ref tk) :: (.int v52_132) :: (.int v53_133) :: (.int v54_134) :: (.ref hd) :: (.ref ak) :: (.ref ho) :: (.ref ot) :: []) := (hB1.2.2.2 h0 (by rw [hT_h0]; simp)).trans hF_158
            have hF_465 : F_461 g2 = .inr (14, [.ref r2, .int (nI y)]) := (hB1.2.2.2 g2 (by rw [hT_g2]; simp)).trans hwaa
            generalize H1 = H at hP hS ⊢
            refine W.widen (k := 0) (n := 0) (by omega) (by omega) ?_
            obtain ⟨hi_466, ht_467, hq_468⟩ := hW.txt hL_g2 hT_g2
            exact jn_159 (zz115 + 1) F_461 (⟨hF_465, hq_462, by omega, (Or.inr (Or.inl c_456))⟩) hO hR _ _ hP hD hS ls (lv_sub hl [0, 1, 2, 3, 4, 5, 6, 7, 8, 9] rfl)
      ·
        refine lv_iload hx hb dX15_macroValue_79 (lv_at hl 4 rfl) ?_
        refine lv_bipush (v := 115) hx hb dX15_macroValue_81 (by decide) ?_
        refine lv_icmp_eq (tgt := 93) hx hb dX15_macroValue_83 (by decide) (fun c_469 => ?_) (fun c_469 => ?_)
        ·
          refine lv_aload_n hx hb dX15_macroValue_93 rfl (lv_at hl 5 rfl) ?_
          refine pg_get (ci := 15) (v := .ref pe) (C := RX15) (T := TX15) (N := 59) hx hb hts it_15 hown hK hP hL_h0 hF_151 rfl 16 (by decide) (hts _ kt_768) (fun _ h9 => h9) rfl dX15_macroValue_94 ?_
          refine lv_aload_n hx hb dX15_macroValue_97 rfl (lv_at hl 5 rfl) ?_
          refine pg_get (ci := 15) (v := .ref lc) (C := RX15) (T := TX15) (N := 59) hx hb hts it_15 hown hK hP hL_h0 hF_151 rfl 9 (by decide) (hts _ kt_778) (fun _ h9 => h9) rfl dX15_macroValue_98 ?_
          obtain ⟨hi_470, ht_471, hq_472⟩ := hW.txt hi_29 ht_31
          obtain ⟨z_473, hF_474, hq_475⟩ := hO.txt hi_29 ht_31
          refine pg_get (ci := 14) (v := .ref r_30) (C := RX14) (T := TX14) (N := 2) hx hb hts it_14 hown hK hP hi_29 hF_474 rfl 0 (by decide) (hts _ kt_710) (fun _ h9 => h9) rfl dX15_macroValue_101 ?_
          refine lv_iconst (v := 0) hx hb dX15_macroValue_104 (by decide) ?_
          refine lv_aload_n hx hb dX15_macroValue_105 rfl (lv_at hl 5 rfl) ?_
          refine pg_get (ci := 15) (v := .ref lc) (C := RX15) (T := TX15) (N := 59) hx hb hts it_15 hown hK hP hL_h0 hF_151 rfl 9 (by decide) (hts _ kt_778) (fun _ h9 => h9) rfl dX15_macroValue_106 ?_
          refine pg_get (ci := 14) (v := .int (nI z_473)) (C := RX14) (T := TX14) (N := 2) hx hb hts it_14 hown hK hP hi_29 hF_474 rfl 1 (by decide) (hts _ kt_709) (fun _ h9 => h9) rfl dX15_macroValue_109 ?_
          refine W.eq (g2 := F0 m 112 ls [.int (nI z_473), .int (nI 0), .ref r_30, .ref pe]) rfl ?_
          obtain ⟨hq_476, hq_477⟩ := hW.octs hi_470 ht_471
          have hFc := pg_free hD hS hA
          refine va_callv (va_runV (As := [.ref r_30, .int (nI 0), .int (nI z_473)]) (rest := []) ⟨hx, hb, hml, hown, hts⟩ (s_X14_add_ l dC dI cs ty gm L H.size F_146 pe (ρ + 7) rp 100 r_30 (ρ + 5) 30 0 0 z_473 hW hL_pe hT_pe hi_470 ht_471 hF_148 (by first | omega | assumption) (by first | omega | assumption) (by first | omega | assumption)) ⟨callB_of 3 hts (gi kt_675) rfl rfl rfl (hts _ kt_676) (hts _ kt_776) (by decide +kernel) ⟨Nat.le_of_ble_eq_true rfl, Nat.le_of_ble_eq_true rfl⟩, (hts _ kt_678), (hts _ kt_679)⟩ ⟨fun a U g mk q => ⟨q.1, PTm.calling q.2⟩, pg_recv hK hP hL_pe hF_148 (q := (RX14, TX14, 2)) rfl, fun U hU hWm => ⟨rfl, PTm.mk hU hWm hP hK hD hE hO⟩⟩ rfl rfl hl.1 rfl (lv_room (Nat.le_of_ble_eq_true rfl)) dX15_macroValue_112 ⟨by show _ + 0 ≤ 0; omega, by show _ + 0 ≤ 0; omega⟩) hS (fun q _ h => hFc q h) hFc (fun u t H1 locs ht hvm hw hB hz1 hk1 hS => ?_)
          obtain ⟨F_479, hB1, hq_480⟩ := hB
          obtain ⟨hP, hD, hO, hR⟩ := QTm.back hB1 ht hFc hR (fun q h => by simp only [List.mem_cons, List.not_mem_nil, or_false] at h ⊢; omega)
          have hF_481 : F_479 g1 = .inl (cs 17, 700, .inl fv) := (hB1.2.2.2 g1 (by rw [hT_g1]; simp)).trans hF_149
          have hF_482 : F_479 g2 = .inr (14, [.ref r2, .int (nI y)]) := (hB1.2.2.2 g2 (by rw [hT_g2]; simp)).trans hF_150
          have hF_483 : F_479 h0 = .inr (15, (.ref ta) :: (.int (nI zt)) :: (.int (nI zo_119)) :: (.int (nI ze_120)) :: (.ref ou) :: (.ref so) :: (.ref ad) :: (.ref na) :: (.ref va) :: (.ref lc) :: (.ref dm) :: (.int v11_121) :: (.int v12_122) :: (.ref tg) :: (.int v14_123) :: (.int v15_124) :: (.ref pe) :: (.int v17_125) :: (.int v18_126) :: (.int v19_127) :: (.int v20_128) :: (.int v21_129) :: (.int v22_130) :: (.ref ml) :: (.ref bg) :: (.ref co) :: (.ref sp) :: (.ref nb0) :: (.ref nb1) :: (.ref nb2) :: (.int (nI nf)) :: (.int (nI bd)) :: (.int (nI mm)) :: (.int v33_131) :: (.ref pl) :: (.ref se) :: (.ref ke) :: (.ref wi) :: (.ref hs) :: (.ref mo) :: (.ref po) :: (.ref nu) :: (.ref pr) :: (.ref sq) :: (.ref xa) :: (.ref sa) :: (.ref n64) :: (.ref m64) :: (.ref ex) :: (.ref wh) :: (.ref sd) :: (.ref tk) :: (.int v52_132) :: (.int v53_133) :: (.int v54_134) :: (.ref hd) :: (.ref ak) :: (.ref ho) :: (.ref ot) :: []) := (hB1.2.2.2 h0 (by rw [hT_h0]; simp)).trans hF_151
          have hF_484 : F_479 lc = .inr (14, [.ref r_30, .int (nI z_473)]) := (hB1.2.2.2 lc (by rw [ht_31]; simp)).trans hF_474
          generalize H1 = H at hP hS ⊢
          refine W.widen (k := 0) (n := 0) (by omega) (by omega) ?_
          obtain ⟨hi_485, ht_486, hq_487⟩ := hW.txt hL_g2 hT_g2
          exact jn_152 (0 + (z_473 - 0)) F_479 (⟨hF_482, hq_480, by omega, (Or.inr (Or.inl c_469))⟩) hO hR _ _ hP hD hS ls (lv_sub hl [1, 2, 3, 4, 5, 6, 7, 8, 9, 10] rfl)
        ·
          refine lv_iload hx hb dX15_macroValue_86 (lv_at hl 4 rfl) ?_
          refine lv_bipush (v := 108) hx hb dX15_macroValue_88 (by decide) ?_
          refine lv_icmp_ne (tgt := 115) hx hb dX15_macroValue_90 (by decide) (fun c_488 => ?_) (fun c_488 => ?_)
          ·
            refine W.widen (k := 0) (n := 0) (by omega) (by omega) ?_
            obtain ⟨hi_489, ht_490, hq_491⟩ := hW.txt hL_g2 hT_g2
            exact jn_152 0 F_146 (⟨hF_150, hF_148, by omega, (Or.inl rfl)⟩) hO hR _ _ hP hD hS ls (lv_sub hl [1, 2, 3, 4, 5, 6, 7, 8, 9, 10] rfl)
          ·
            refine lv_aload_n hx hb dX15_macroValue_93 rfl (lv_at hl 5 rfl) ?_
            refine pg_get (ci := 15) (v := .ref pe) (C := RX15) (T := TX15) (N := 59) hx hb hts it_15 hown hK hP hL_h0 hF_151 rfl 16 (by decide) (hts _ kt_768) (fun _ h9 => h9) rfl dX15_macroValue_94 ?_
            refine lv_aload_n hx hb dX15_macroValue_97 rfl (lv_at hl 5 rfl) ?_
            refine pg_get (ci := 15) (v := .ref lc) (C := RX15) (T := TX15) (N := 59) hx hb hts it_15 hown hK hP hL_h0 hF_151 rfl 9 (by decide) (hts _ kt_778) (fun _ h9 => h9) rfl dX15_macroValue_98 ?_
            obtain ⟨hi_492, ht_493, hq_494⟩ := hW.txt hi_29 ht_31
            obtain ⟨z_495, hF_496, hq_497⟩ := hO.txt hi_29 ht_31
            refine pg_get (ci := 14) (v := .ref r_30) (C := RX14) (T := TX14) (N := 2) hx hb hts it_14 hown hK hP hi_29 hF_496 rfl 0 (by decide) (hts _ kt_710) (fun _ h9 => h9) rfl dX15_macroValue_101 ?_
            refine lv_iconst (v := 0) hx hb dX15_macroValue_104 (by decide) ?_
            refine lv_aload_n hx hb dX15_macroValue_105 rfl (lv_at hl 5 rfl) ?_
            refine pg_get (ci := 15) (v := .ref lc) (C := RX15) (T := TX15) (N := 59) hx hb hts it_15 hown hK hP hL_h0 hF_151 rfl 9 (by decide) (hts _ kt_778) (fun _ h9 => h9) rfl dX15_macroValue_106 ?_
            refine pg_get (ci := 14) (v := .int (nI z_495)) (C := RX14) (T := TX14) (N := 2) hx hb hts it_14 hown hK hP hi_29 hF_496 rfl 1 (by decide) (hts _ kt_709) (fun _ h9 => h9) rfl dX15_macroValue_109 ?_
            refine W.eq (g2 := F0 m 112 ls [.int (nI z_495), .int (nI 0), .ref r_30, .ref pe]) rfl ?_
            obtain ⟨hq_498, hq_499⟩ := hW.octs hi_492 ht_493
            have hFc := pg_free hD hS hA
            refine va_callv (va_runV (As := [.ref r_30, .int (nI 0), .int (nI z_495)]) (rest := []) ⟨hx, hb, hml, hown, hts⟩ (s_X14_add_ l dC dI cs ty gm L H.size F_146 pe (ρ + 7) rp 100 r_30 (ρ + 5) 30 0 0 z_495 hW hL_pe hT_pe hi_492 ht_493 hF_148 (by first | omega | assumption) (by first | omega | assumption) (by first | omega | assumption)) ⟨callB_of 3 hts (gi kt_675) rfl rfl rfl (hts _ kt_676) (hts _ kt_776) (by decide +kernel) ⟨Nat.le_of_ble_eq_true rfl, Nat.le_of_ble_eq_true rfl⟩, (hts _ kt_678), (hts _ kt_679)⟩ ⟨fun a U g mk q => ⟨q.1, PTm.calling q.2⟩, pg_recv hK hP hL_pe hF_148 (q := (RX14, TX14, 2)) rfl, fun U hU hWm => ⟨rfl, PTm.mk hU hWm hP hK hD hE hO⟩⟩ rfl rfl hl.1 rfl (lv_room (Nat.le_of_ble_eq_true rfl)) dX15_macroValue_112 ⟨by show _ + 0 ≤ 0; omega, by show _ + 0 ≤ 0; omega⟩) hS (fun q _ h => hFc q h) hFc (fun u t H1 locs ht hvm hw hB hz1 hk1 hS => ?_)
            obtain ⟨F_501, hB1, hq_502⟩ := hB
            obtain ⟨hP, hD, hO, hR⟩ := QTm.back hB1 ht hFc hR (fun q h => by simp only [List.mem_cons, List.not_mem_nil, or_false] at h ⊢; omega)
            have hF_503 : F_501 g1 = .inl (cs 17, 700, .inl fv) := (hB1.2.2.2 g1 (by rw [hT_g1]; simp)).trans hF_149
            have hF_504 : F_501 g2 = .inr (14, [.ref r2, .int (nI y)]) := (hB1.2.2.2 g2 (by rw [hT_g2]; simp)).trans hF_150
            have hF_505 : F_501 h0 = .inr (15, (.ref ta) :: (.int (nI zt)) :: (.int (nI zo_119)) :: (.int (nI ze_120)) :: (.ref ou) :: (.ref so) :: (.ref ad) :: (.ref na) :: (.ref va) :: (.ref lc) :: (.ref dm) :: (.int v11_121) :: (.int v12_122) :: (.ref tg) :: (.int v14_123) :: (.int v15_124) :: (.ref pe) :: (.int v17_125) :: (.int v18_126) :: (.int v19_127) :: (.int v20_128) :: (.int v21_129) :: (.int v22_130) :: (.ref ml) :: (.ref bg) :: (.ref co) :: (.ref sp) :: (.ref nb0) :: (.ref nb1) :: (.ref nb2) :: (.int (nI nf)) :: (.int (nI bd)) :: (.int (nI mm)) :: (.int v33_131) :: (.ref pl) :: (.ref se) :: (.ref ke) :: (.ref wi) :: (.ref hs) :: (.ref mo) :: (.ref po) :: (.ref nu) :: (.ref pr) :: (.ref sq) :: (.ref xa) :: (.ref sa) :: (.ref n64) :: (.ref m64) :: (.ref ex) :: (.ref wh) :: (.ref sd) :: (.ref tk) :: (.int v52_132) :: (.int v53_133) :: (.int v54_134) :: (.ref hd) :: (.ref ak) :: (.ref ho) :: (.ref ot) :: []) := (hB1.2.2.2 h0 (by rw [hT_h0]; simp)).trans hF_151
            have hF_506 : F_501 lc = .inr (14, [.ref r_30, .int (nI z_495)]) := (hB1.2.2.2 lc (by rw [ht_31]; simp)).trans hF_496
            generalize H1 = H at hP hS ⊢
            refine W.widen (k := 0) (n := 0) (by omega) (by omega) ?_
            obtain ⟨hi_507, ht_508, hq_509⟩ := hW.txt hL_g2 hT_g2
            exact jn_152 (0 + (z_495 - 0)) F_501 (⟨hF_504, hq_502, by omega, (Or.inr (Or.inr c_488))⟩) hO hR _ _ hP hD hS ls (lv_sub hl [1, 2, 3, 4, 5, 6, 7, 8, 9, 10] rfl)
    ·
      have hi_510 : j < tt := ltN (N := tt) c_15
      refine lv_aload_n hx hb dX15_macroValue_46 rfl (lv_at hl 6 rfl) ?_
      refine lv_iload hx hb dX15_macroValue_47 (lv_at hl 0 rfl) ?_
      refine pg_bald hx hb hK hP hL_g1 1 hF_14 rfl (vp_in_nI (by omega) (by omega)) dX15_macroValue_49 ?_
      refine lv_topi (fun x_511 ex_511 => ?_)
      obtain rfl : x_511 = fv j := ex_511.trans (congrArg fv (show ((nI j) : Int32).toNatClampNeg = j from nI_clamp (by omega)))
      have hFc := pg_free hD hS hA
      refine va_calli (va_runS (As := [.int (fv j)]) (rest := []) ⟨hx, hb, hml, hown, hts⟩ (s_X15_isDigit_x l dC dI cs ty gm L H.size F_10 (fv j) hW ) ⟨callB_of 1 hts (gi kt_687) rfl rfl rfl (hts _ kt_669) (hts _ kt_707) (by decide +kernel) ⟨Nat.le_of_ble_eq_true rfl, Nat.le_of_ble_eq_true rfl⟩, (hts _ kt_688)⟩ ⟨fun a U g mk q => ⟨q.1, PTm.calling q.2⟩, fun U hU hWm => ⟨rfl, PTm.mk hU hWm hP hK hD hE hO⟩⟩ rfl rfl hl.1 rfl (lv_room (Nat.le_of_ble_eq_true rfl)) dX15_macroValue_50 ⟨by show _ + 0 ≤ 0; omega, by show _ + 0 ≤ 0; omega⟩) hS (fun q _ h => hFc q h) hFc (fun r_512 u t H1 locs ht hvm hw hB hz1 hk1 hS => ?_)
      obtain ⟨F_513, hB1⟩ := hB
      obtain rfl : F_10 = F_513 := (funext (fun a => hB1.2.2.2 a List.not_mem_nil)).symm
      obtain ⟨hP, hD, hO, hR⟩ := QTm.back hB1 ht hFc hR (fun q h => absurd h List.not_mem_nil)
      generalize H1 = H at hP hS ⊢
      have hw : (r_512 = 0 ∨ (r_512 = 1 ∧ ¬ (fv j) < 48 ∧ ¬ 57 < (fv j))) := hw
      have hw_514 := hw
      refine lv_if_eq (tgt := 65) hx hb dX15_macroValue_53 (by decide) (fun c_515 => ?_) (fun c_515 => ?_)
      ·
        refine lv_iinc (v := (nI (j + 1))) (lv' := [(10, .int (nI (j + 1))), (9, .int s9), (8, .int (nI nn)), (7, .int 0), (6, .int (fv a)), (0, .ref h0), (1, .ref g1), (2, .int (nI a)), (3, .int (nI tt)), (4, .ref dd), (5, .ref g2)]) hx hb dX15_macroValue_65 hl (k := 0) rfl (nI_1 _) (by decide) rfl (fun ls hl => ?_)
        refine lv_goto (tgt := 40) hx hb dX15_macroValue_68 (by decide) ?_
        refine W.widen (k := 0) (n := 0) (by omega) (by omega) ?_
        exact ih_13 ((j + 1), nn) F_10 (⟨by omega, by omega, hn3⟩) (by show tt - (j + 1) < tt - j; omega) hO hR _ _ hP hD hS ls (lv_sub hl [0, 1, 2, 3, 4, 5, 6, 7, 8, 9, 10] rfl)
      ·
        have hc53 := c_515
        refine lv_aload_n hx hb dX15_macroValue_56 rfl (lv_at hl 6 rfl) ?_
        refine lv_iload hx hb dX15_macroValue_57 (lv_at hl 0 rfl) ?_
        refine pg_bald hx hb hK hP hL_g1 1 hF_14 rfl (vp_in_nI (by omega) (by omega)) dX15_macroValue_59 ?_
        refine lv_topi (fun x_516 ex_516 => ?_)
        obtain rfl : x_516 = fv j := ex_516.trans (congrArg fv (show ((nI j) : Int32).toNatClampNeg = j from nI_clamp (by omega)))
        refine lv_bipush (v := 48) hx hb dX15_macroValue_60 (by decide) ?_
        refine lv_isub hx hb dX15_macroValue_62 ?_
        obtain ⟨m_517, hm_517, em_517⟩ := dig (bit1 hw_514 hc53).1 (bit1 hw_514 hc53).2
        refine lv_topi (fun x_518 ex_518 => ?_)
        obtain rfl : x_518 = (nI m_517) := ex_518.trans (em_517)
        refine lv_istore (lv' := [(8, .int (nI m_517)), (10, .int (nI j)), (9, .int s9), (7, .int 0), (6, .int (fv a)), (0, .ref h0), (1, .ref g1), (2, .int (nI a)), (3, .int (nI tt)), (4, .ref dd), (5, .ref g2)]) hx hb dX15_macroValue_63 hl (by decide) rfl (fun ls hl => ?_)
        refine lv_iinc (v := (nI (j + 1))) (lv' := [(10, .int (nI (j + 1))), (8, .int (nI m_517)), (9, .int s9), (7, .int 0), (6, .int (fv a)), (0, .ref h0), (1, .ref g1), (2, .int (nI a)), (3, .int (nI tt)), (4, .ref dd), (5, .ref g2)]) hx hb dX15_macroValue_65 hl (k := 1) rfl (nI_1 _) (by decide) rfl (fun ls hl => ?_)
        refine lv_goto (tgt := 40) hx hb dX15_macroValue_68 (by decide) ?_
        refine W.widen (k := 0) (n := 0) (by omega) (by omega) ?_
        exact ih_13 ((j + 1), m_517) F_10 (⟨by omega, by omega, hn3⟩) (by show tt - (j + 1) < tt - j; omega) hO hR _ _ hP hD hS ls (lv_sub hl [0, 2, 1, 3, 4, 5, 6, 7, 8, 9, 10] rfl)
  ·
    refine lv_aload_n hx hb dX15_macroValue_11 rfl (lv_at hl 4 rfl) ?_
    refine lv_iload_n hx hb dX15_macroValue_12 rfl (lv_at hl 6 rfl) ?_
    refine lv_iconst (v := 1) hx hb dX15_macroValue_13 (by decide) ?_
    refine lv_isub hx hb dX15_macroValue_14 ?_
    refine lv_topi (fun x_519 ex_519 => ?_)
    obtain rfl : x_519 = (nI (tt - 1)) := ex_519.trans (pk_sub (a := tt) (b := 1) (by omega))
    refine pg_bald hx hb hK hP hL_g1 1 hFg rfl (vp_in_nI (by omega) (by omega)) dX15_macroValue_15 ?_
    refine lv_topi (fun x_520 ex_520 => ?_)
    obtain rfl : x_520 = fv (tt - 1) := ex_520.trans (congrArg fv (show ((nI (tt - 1)) : Int32).toNatClampNeg = (tt - 1) from nI_clamp (by omega)))
    refine lv_bipush (v := 114) hx hb dX15_macroValue_16 (by decide) ?_
    refine lv_icmp_ne (tgt := 32) hx hb dX15_macroValue_18 (by decide) (fun c_521 => ?_) (fun c_521 => ?_)
    ·
      refine lv_iconst (v := 0) hx hb dX15_macroValue_32 (by decide) ?_
      refine W.widen (k := 0) (n := 0) (by omega) (by omega) ?_
      exact jn_4 0 F (hFi) hO hR _ _ hP hD hS ls (lv_sub hl [0, 1, 2, 3, 4, 5, 6, 7, 8] rfl)
    ·
      refine lv_iload_n hx hb dX15_macroValue_21 rfl (lv_at hl 6 rfl) ?_
      refine lv_iconst (v := 1) hx hb dX15_macroValue_22 (by decide) ?_
      refine lv_isub hx hb dX15_macroValue_23 ?_
      refine lv_topi (fun x_522 ex_522 => ?_)
      obtain rfl : x_522 = (nI (tt - 1)) := ex_522.trans (pk_sub (a := tt) (b := 1) (by omega))
      refine lv_iload_n hx hb dX15_macroValue_24 rfl (lv_at hl 5 rfl) ?_
      refine lv_icmp_le (tgt := 32) hx hb dX15_macroValue_25 (by decide) (fun c_523 => ?_) (fun c_523 => ?_)
      ·
        have hi_524 : (tt - 1) ≤ a := (nI_leI (a := (tt - 1)) (b := a) (by omega) (by omega)).mp c_523
        refine lv_iconst (v := 0) hx hb dX15_macroValue_32 (by decide) ?_
        refine W.widen (k := 0) (n := 0) (by omega) (by omega) ?_
        exact jn_4 0 F (hFi) hO hR _ _ hP hD hS ls (lv_sub hl [0, 1, 2, 3, 4, 5, 6, 7, 8] rfl)
      ·
        have hi_525 : a < (tt - 1) := Nat.not_le.mp (fun q => c_523 ((nI_leI (a := (tt - 1)) (b := a) (by omega) (by omega)).mpr q))
        refine lv_iconst (v := 1) hx hb dX15_macroValue_28 (by decide) ?_
        refine lv_goto (tgt := 33) hx hb dX15_macroValue_29 (by decide) ?_
        refine W.widen (k := 0) (n := 0) (by omega) (by omega) ?_
        exact jn_4 1 F (hFi) hO hR _ _ hP hD hS ls (lv_sub hl [0, 1, 2, 3, 4, 5, 6, 7, 8] rfl)
set_option maxHeartbeats 4000000 in
set_option maxRecDepth 100000 in
theorem s_X15_expand (l : Launch) (dC : Nat → ClassId) (dI : Nat → Nat → Nat) (cs : Nat → ClassId) (ty : TyM) (gm : Nat → Nat → Nat) (L : List Nat) (sz : Nat) (F : Nat → va_E) (h0 : Nat) (ρ : Nat) (ta : Nat) (ou : Nat) (so : Nat) (ad : Nat) (na : Nat) (va : Nat) (lc : Nat) (dm : Nat) (tg : Nat) (pe : Nat) (ml : Nat) (bg : Nat) (co : Nat) (sp : Nat) (nb0 : Nat) (nb1 : Nat) (nb2 : Nat) (pl : Nat) (se : Nat) (ke : Nat) (wi : Nat) (hs : Nat) (mo : Nat) (po : Nat) (nu : Nat) (pr : Nat) (sq : Nat) (xa : Nat) (sa : Nat) (n64 : Nat) (m64 : Nat) (ex : Nat) (wh : Nat) (sd : Nat) (tk : Nat) (hd : Nat) (ak : Nat) (ho : Nat) (ot : Nat) (sx : Nat) (s0 : Nat) (s1 : Nat) (s2 : Nat) (nf : Nat) (bd : Nat) (mm : Nat) (zt : Nat) (rp : Nat) (g2 : Nat) (r2 : Nat) (g1 : Nat) (fv : Nat → Int32) (dd : Nat) (τ : Nat) (rd : Nat) (nd : Nat) (a : Nat) (tt : Nat) (hW : WTm ty gm L) (hL_h0 : h0 ∈ L) (hT_h0 : ty h0 = (15, ρ, [ta, ou, so, ad, na, va, lc, dm, tg, pe, ml, bg, co, sp, nb0, nb1, nb2, pl, se, ke, wi, hs, mo, po, nu, pr, sq, xa, sa, n64, m64, ex, wh, sd, tk, hd, ak, ho, ot, sx, s0, s1, s2, nf, bd, mm, zt])) (hL_pe : pe ∈ L) (hT_pe : ty pe = (14, ρ + 7, [rp, 100])) (hL_g2 : g2 ∈ L) (hT_g2 : ty g2 = (14, ρ + 6, [r2, 61])) (hL_g1 : g1 ∈ L) (hT_g1 : ty g1 = (17, ρ + 31, [700])) (hL_dd : dd ∈ L) (hT_dd : ty dd = (14, τ, [rd, nd])) (hFg : F g1 = .inl (cs 17, 700, .inl fv)) (hat : a ≤ tt) (htn : tt ≤ 700) (hnd : nd ≤ 61) (hisd : ISD fv tt a) : Met l yX15_expand (.code yX15_expand cX15_expand 8 none :: tb) ({ frames := 4, cells := 0, slots := 0, locals := 102 }) (va_Pc [.ref h0, .ref g1, .int (nI a), .int (nI tt), .ref dd, .ref g2] (PTm (dC, dI) cs ty gm L F sz)) (va_Qv (fun _ : Unit => True) (fun _ T9 => ∃ F2 : Nat → va_E, QTm (dC, dI) cs ty gm L [ρ + 6, ρ + 7] F F2 (va_A (va_pl L F) sz) T9) (va_A (va_pl L F) sz)) 0 0 (va_A (va_pl L F) sz) := by
  refine Met.ofW (cc := cX15_expand) (maxL := 8) (ret := none) (by decide) rfl ?_
  intro p e s m args below meth c s₁ B hml hv
  obtain ⟨rfl, hsz, hP, hK, hD0, hE, hO⟩ := hv
  have hx := B.exec
  have hb := B.bytes
  have hr := B.returns
  have hts : ∀ w ∈ tb, w.before _ s = true := fun w h => atoms_spec (ws := .code yX15_expand cX15_expand 8 none :: tb) B.pre w (List.mem_cons_of_mem _ h)
  have hown : s.vm.findClass RX15 = some m.cls := findClass_of_methodNamed B.named
  have hlocks := B.notSynchronized
  subst hsz
  have hD := hD0.self (sz := s.heap.size)
  generalize hAe : va_A (va_pl L F) s.heap.size = A at hD ⊢
  have hA : ∀ q : Nat, s.heap.size ≤ q → A q := fun q h => by rw [← hAe]; exact Or.inr h
  have hS : va_S A s.heap s.heap [] := va_S.rf
  have hR : FR ty [ρ + 6, ρ + 7] F F := FR.refl
  have hl := lv_entry ([.ref h0, .ref g1, .int (nI a), .int (nI tt), .ref dd, .ref g2]) (n := 8) (Nat.le_of_ble_eq_true rfl)
  rw [lg_entry_eq]
  generalize (lg_sl ([.ref h0, .ref g1, .int (nI a), .int (nI tt), .ref dd, .ref g2]) ++ List.replicate (8 - (lg_sl ([.ref h0, .ref g1, .int (nI a), .int (nI tt), .ref dd, .ref g2])).length) Slot.unset).toArray = ls at hl ⊢
  have hl : lv_has ls 8 [(0, .ref h0), (1, .ref g1), (2, .int (nI a)), (3, .int (nI tt)), (4, .ref dd), (5, .ref g2)] := hl
  refine lv_aload hx hb dX15_expand_0 (lv_at hl 5 rfl) ?_
  refine lv_iconst (v := 0) hx hb dX15_expand_2 (by decide) ?_
  obtain ⟨hi_1, ht_2, hq_3⟩ := hW.txt hL_g2 hT_g2
  obtain ⟨z_4, hF_5, hq_6⟩ := hO.txt hL_g2 hT_g2
  refine pg_put (ci := 14) (v := .int 0) (ty := .int) (C := RX14) (T := TX14) (N := 2) hx hb hts it_14 tyX14 tyX14_ok nmX14 hown hK hP hD hS hL_g2 hF_5 rfl 1 (by decide) (hts _ kt_709) (fun _ h9 => h9) rfl (by decide +kernel) (rfl) (rfl) (Nat.le_of_ble_eq_true rfl) dX15_expand_3 (fun H locs hP hD hS => ?_)
  obtain ⟨F_7, he_8, hP, hD, hO, hR⟩ : ∃ G, G = va_up F g2 (.inr (14, [.ref r2, .int 0])) ∧ va_P (dC, dI) vwCl (va_pl L G) H ∧ va_D A (va_pl L G) ∧ OKm cs ty gm L G ∧ FR ty [ρ + 6, ρ + 7] F G := ⟨_, rfl, hP, hD, hO.up (shm.txt hT_g2 ⟨0, rfl, (by first | omega | assumption | exact Or.inl rfl | exact Or.inr rfl)⟩), hR.up hT_g2 (by simp)⟩
  have hF_9 : F_7 g2 = .inr (14, [.ref r2, .int 0]) := by rw [he_8]; exact up_self
  have hF_10 : F_7 g1 = .inl (cs 17, 700, .inl fv) := by rw [he_8, up_ne (ne_ty hT_g1 hT_g2 (by simp))]; exact hFg
  refine lv_iload_n hx hb dX15_expand_6 rfl (lv_at hl 2 rfl) ?_
  refine lv_istore (lv' := [(6, .int (nI a)), (0, .ref h0), (1, .ref g1), (2, .int (nI a)), (3, .int (nI tt)), (4, .ref dd), (5, .ref g2)]) hx hb dX15_expand_7 hl (by decide) rfl (fun ls hl => ?_)
  refine W.widen (k := 0) (n := 0) (by omega) (by omega) ?_
  have hF_12 : F g1 = .inl (cs 17, 700, .inl fv) := (hR g1 (by rw [hT_g1]; simp)).symm.trans hF_10
  refine pl_loopm (σ := Nat × Nat) A (dC, dI) cs ty gm L [ρ + 6, ρ + 7] F 9 8 (fun (j, yy) => [(6, .int (nI j)), (0, .ref h0), (1, .ref g1), (2, .int (nI a)), (3, .int (nI tt)), (4, .ref dd), (5, .ref g2)]) (fun (j, yy) => []) (fun (j, yy) FF => j ≤ tt ∧ ISD fv tt j ∧ yy ≤ 61 ∧ FF g2 = .inr (14, [.ref r2, .int (nI yy)])) (fun (j, yy) => tt - j) ?_ (a, 0) F_7 (⟨by omega, hisd, by omega, hF_9⟩) hO hR _ _ hP hD hS ls (lv_sub hl [0, 1, 2, 3, 4, 5, 6] rfl)
  rintro ⟨j, yy⟩ F_11 hv_13 hO hR ih_14 H locs hP hD hS ls hl
  have hl : lv_has ls 8 [(6, .int (nI j)), (0, .ref h0), (1, .ref g1), (2, .int (nI a)), (3, .int (nI tt)), (4, .ref dd), (5, .ref g2)] := hl
  have hv_13 : j ≤ tt ∧ ISD fv tt j ∧ yy ≤ 61 ∧ F_11 g2 = .inr (14, [.ref r2, .int (nI yy)]) := hv_13
  refine W.eq (g2 := F0 m 9 ls []) rfl ?_
  have hF_15 : F_11 g1 = .inl (cs 17, 700, .inl fv) := (hR g1 (by rw [hT_g1]; simp)).trans hF_12
  obtain ⟨hv1, hv2, hv3, hv4⟩ := hv_13
  refine lv_iload hx hb dX15_expand_9 (lv_at hl 0 rfl) ?_
  refine lv_iload_n hx hb dX15_expand_11 rfl (lv_at hl 4 rfl) ?_
  refine lv_icmp_ge (tgt := 168) hx hb dX15_expand_12 (by decide) (fun c_16 => ?_) (fun c_16 => ?_)
  ·
    have hi_17 : tt ≤ j := leN (N := tt) c_16
    refine W.widen (k := 0) (n := 0) (by omega) (by omega) ?_
    exact W.vret hx hb hr (fun t ht hWm => ⟨⟨(), rfl, trivial, ⟨F_11, QTm.mk ht hP hD hO hR⟩⟩, hS.F ht⟩) hS.2.2 dX15_expand_168
  ·
    have hi_18 : j < tt := ltN (N := tt) c_16
    refine lv_aload_n hx hb dX15_expand_15 rfl (lv_at hl 2 rfl) ?_
    refine lv_iload hx hb dX15_expand_16 (lv_at hl 0 rfl) ?_
    obtain ⟨hq_19, hq_20⟩ := hW.octs hL_g1 hT_g1
    refine pg_bald hx hb hK hP hL_g1 1 hF_15 rfl (vp_in_nI (by omega) (by omega)) dX15_expand_18 ?_
    refine lv_topi (fun x_21 ex_21 => ?_)
    obtain rfl : x_21 = fv j := ex_21.trans (congrArg fv (show ((nI j) : Int32).toNatClampNeg = j from nI_clamp (by omega)))
    refine lv_bipush (v := 37) hx hb dX15_expand_19 (by decide) ?_
    refine lv_icmp_eq (tgt := 36) hx hb dX15_expand_21 (by decide) (fun c_22 => ?_) (fun c_22 => ?_)
    ·
      obtain ⟨hm1, hm2⟩ := hv2.step (by omega) c_22
      have hmb := mac_b hm1
      refine lv_aload_n hx hb dX15_expand_36 rfl (lv_at hl 2 rfl) ?_
      refine lv_iload hx hb dX15_expand_37 (lv_at hl 0 rfl) ?_
      refine lv_iload_n hx hb dX15_expand_39 rfl (lv_at hl 4 rfl) ?_
      have hFc := pg_free hD hS hA
      refine va_calli (va_runS (As := [.ref g1, .int (nI j), .int (nI tt)]) (rest := []) ⟨hx, hb, hml, hown, hts⟩ (s_X15_macro l dC dI cs ty gm L H.size F_11 g1 (ρ + 31) 700 j tt hW hL_g1 hT_g1 (by first | omega | assumption) (by first | omega | assumption)) ⟨callB_of 3 hts (gi kt_700) rfl rfl rfl (hts _ kt_669) (hts _ kt_701) (by decide +kernel) ⟨Nat.le_of_ble_eq_true rfl, Nat.le_of_ble_eq_true rfl⟩, (hts _ kt_702)⟩ ⟨fun a U g mk q => ⟨q.1, PTm.calling q.2⟩, fun U hU hWm => ⟨rfl, PTm.mk hU hWm hP hK hD hE hO⟩⟩ rfl rfl hl.1 rfl (lv_room (Nat.le_of_ble_eq_true rfl)) dX15_expand_40 ⟨by show _ + 0 ≤ 0; omega, by show _ + 0 ≤ 0; omega⟩) hS (fun q _ h => hFc q h) hFc (fun r_23 u t H1 locs ht hvm hw hB hz1 hk1 hS => ?_)
      obtain ⟨F_24, hB1⟩ := hB
      obtain rfl : F_11 = F_24 := (funext (fun a => hB1.2.2.2 a List.not_mem_nil)).symm
      obtain ⟨hP, hD, hO, hR⟩ := QTm.back hB1 ht hFc hR (fun q h => absurd h List.not_mem_nil)
      generalize H1 = H at hP hS ⊢
      have hw : r_23 = nI (mac (gA (F_11 g1)) j tt) := hw
      subst hw
      refine lv_topi (fun x9 ex9 => ?_)
      obtain rfl : x9 = nI (mac fv j tt) := ex9.trans (by rw [gA_fun hF_15])
      refine lv_istore (lv' := [(7, .int (nI (mac fv j tt))), (6, .int (nI j)), (0, .ref h0), (1, .ref g1), (2, .int (nI a)), (3, .int (nI tt)), (4, .ref dd), (5, .ref g2)]) hx hb dX15_expand_43 hl (by decide) rfl (fun ls hl => ?_)
      have hF_27 : F g1 = .inl (cs 17, 700, .inl fv) := (hR g1 (by rw [hT_g1]; simp)).symm.trans hF_15
      refine W.widen (k := 0) (n := 0) (by omega) (by omega) ?_
      refine pl_cutm (σ := Nat) A (dC, dI) cs ty gm L [ρ + 6, ρ + 7] F 128 8 (fun y5 => [(7, .int (nI (mac fv j tt))), (6, .int (nI j)), (0, .ref h0), (1, .ref g1), (2, .int (nI a)), (3, .int (nI tt)), (4, .ref dd), (5, .ref g2)]) (fun y5 => []) (fun y5 FF => y5 ≤ 61 ∧ FF g2 = .inr (14, [.ref r2, .int (nI y5)])) ?_ (fun jn_25 => ?_)
      ·
        rintro y5 F_26 hv_28 hO hR H locs hP hD hS ls hl
        have hl : lv_has ls 8 [(7, .int (nI (mac fv j tt))), (6, .int (nI j)), (0, .ref h0), (1, .ref g1), (2, .int (nI a)), (3, .int (nI tt)), (4, .ref dd), (5, .ref g2)] := hl
        have hv_28 : y5 ≤ 61 ∧ F_26 g2 = .inr (14, [.ref r2, .int (nI y5)]) := hv_28
        refine W.eq (g2 := F0 m 128 ls []) rfl ?_
        have hF_29 : F_26 g1 = .inl (cs 17, 700, .inl fv) := (hR g1 (by rw [hT_g1]; simp)).trans hF_27
        obtain ⟨hp1, hp2⟩ := hv_28
        have hF_32 : F g1 = .inl (cs 17, 700, .inl fv) := (hR g1 (by rw [hT_g1]; simp)).symm.trans hF_29
        refine W.widen (k := 0) (n := 0) (by omega) (by omega) ?_
        refine pl_cutm (σ := Nat) A (dC, dI) cs ty gm L [ρ + 6, ρ + 7] F 153 8 (fun y6 => [(7, .int (nI (mac fv j tt))), (6, .int (nI j)), (0, .ref h0), (1, .ref g1), (2, .int (nI a)), (3, .int (nI tt)), (4, .ref dd), (5, .ref g2)]) (fun y6 => []) (fun y6 FF => y6 ≤ 61 ∧ FF g2 = .inr (14, [.ref r2, .int (nI y6)])) ?_ (fun jn_30 => ?_)
        ·
          rintro y6 F_31 hv_33 hO hR H locs hP hD hS ls hl
          have hl : lv_has ls 8 [(7, .int (nI (mac fv j tt))), (6, .int (nI j)), (0, .ref h0), (1, .ref g1), (2, .int (nI a)), (3, .int (nI tt)), (4, .ref dd), (5, .ref g2)] := hl
          have hv_33 : y6 ≤ 61 ∧ F_31 g2 = .inr (14, [.ref r2, .int (nI y6)]) := hv_33
          refine W.eq (g2 := F0 m 153 ls []) rfl ?_
          have hF_34 : F_31 g1 = .inl (cs 17, 700, .inl fv) := (hR g1 (by rw [hT_g1]; simp)).trans hF_32
          obtain ⟨hp3, hp4⟩ := hv_33
          refine lv_iload hx hb dX15_expand_153 (lv_at hl 1 rfl) ?_
          refine lv_iload hx hb dX15_expand_155 (lv_at hl 0 rfl) ?_
          refine lv_iconst (v := 1) hx hb dX15_expand_157 (by decide) ?_
          refine lv_isub hx hb dX15_expand_158 ?_
          refine lv_topi (fun x_35 ex_35 => ?_)
          obtain rfl : x_35 = (nI ((mac fv j tt) - 1)) := ex_35.trans (pk_sub (a := (mac fv j tt)) (b := 1) (by omega))
          refine lv_iadd hx hb dX15_expand_159 ?_
          refine lv_topi (fun x_36 ex_36 => ?_)
          obtain rfl : x_36 = (nI (j + ((mac fv j tt) - 1))) := ex_36.trans (nI_add j ((mac fv j tt) - 1))
          refine lv_istore (lv' := [(6, .int (nI (j + ((mac fv j tt) - 1)))), (7, .int (nI (mac fv j tt))), (0, .ref h0), (1, .ref g1), (2, .int (nI a)), (3, .int (nI tt)), (4, .ref dd), (5, .ref g2)]) hx hb dX15_expand_160 hl (by decide) rfl (fun ls hl => ?_)
          refine lv_iinc (v := (nI ((j + ((mac fv j tt) - 1)) + 1))) (lv' := [(6, .int (nI ((j + ((mac fv j tt) - 1)) + 1))), (7, .int (nI (mac fv j tt))), (0, .ref h0), (1, .ref g1), (2, .int (nI a)), (3, .int (nI tt)), (4, .ref dd), (5, .ref g2)]) hx hb dX15_expand_162 hl (k := 0) rfl (nI_1 _) (by decide) rfl (fun ls hl => ?_)
          refine lv_goto (tgt := 9) hx hb dX15_expand_165 (by decide) ?_
          refine W.widen (k := 0) (n := 0) (by omega) (by omega) ?_
          exact ih_14 (((j + ((mac fv j tt) - 1)) + 1), y6) F_31 (⟨by omega, (by rw [show j + (mac fv j tt - 1) + 1 = j + mac fv j tt from by omega]; exact hm2), by omega, hp4⟩) (by show tt - ((j + ((mac fv j tt) - 1)) + 1) < tt - j; omega) hO hR _ _ hP hD hS ls (lv_sub hl [0, 2, 3, 4, 5, 6, 7] rfl)
        ·
          refine lv_aload_n hx hb dX15_expand_128 rfl (lv_at hl 3 rfl) ?_
          refine lv_iload hx hb dX15_expand_129 (lv_at hl 1 rfl) ?_
          refine lv_iconst (v := 1) hx hb dX15_expand_131 (by decide) ?_
          refine lv_iadd hx hb dX15_expand_132 ?_
          refine lv_topi (fun x_37 ex_37 => ?_)
          obtain rfl : x_37 = (nI (j + 1)) := ex_37.trans (nI_add j 1)
          refine pg_bald hx hb hK hP hL_g1 1 hF_29 rfl (vp_in_nI (by omega) (by omega)) dX15_expand_133 ?_
          refine lv_topi (fun x_38 ex_38 => ?_)
          obtain rfl : x_38 = fv (j + 1) := ex_38.trans (congrArg fv (show ((nI (j + 1)) : Int32).toNatClampNeg = (j + 1) from nI_clamp (by omega)))
          refine lv_bipush (v := 45) hx hb dX15_expand_134 (by decide) ?_
          refine lv_icmp_ne (tgt := 153) hx hb dX15_expand_136 (by decide) (fun c_39 => ?_) (fun c_39 => ?_)
          ·
            refine W.widen (k := 0) (n := 0) (by omega) (by omega) ?_
            exact jn_30 y5 F_26 (⟨by omega, hp2⟩) hO hR _ _ hP hD hS ls (lv_sub hl [0, 1, 2, 3, 4, 5, 6, 7] rfl)
          ·
            refine lv_aload hx hb dX15_expand_139 (lv_at hl 7 rfl) ?_
            refine lv_bipush (v := 50) hx hb dX15_expand_141 (by decide) ?_
            have hFc := pg_free hD hS hA
            refine va_callv (va_runS (As := [.ref g2, .int 50]) (rest := []) ⟨hx, hb, hml, hown, hts⟩ (s_X15_put l dC dI cs ty gm L H.size F_26 g2 (ρ + 6) r2 61 y5 50 hW hL_g2 hT_g2 hp2 (by first | omega | assumption) (by first | omega | assumption)) ⟨callB_of 2 hts (gi kt_769) rfl rfl rfl (hts _ kt_669) (hts _ kt_770) (by decide +kernel) ⟨Nat.le_of_ble_eq_true rfl, Nat.le_of_ble_eq_true rfl⟩, (hts _ kt_771)⟩ ⟨fun a U g mk q => ⟨q.1, PTm.calling q.2⟩, fun U hU hWm => ⟨rfl, PTm.mk hU hWm hP hK hD hE hO⟩⟩ rfl rfl hl.1 rfl (lv_room (Nat.le_of_ble_eq_true rfl)) dX15_expand_143 ⟨by show _ + 0 ≤ 0; omega, by show _ + 0 ≤ 0; omega⟩) hS (fun q _ h => hFc q h) hFc (fun u t H1 locs ht hvm hw hB hz1 hk1 hS => ?_)
            obtain ⟨F_41, z2_42, hB1, hq_43, hq_44⟩ := hB
            obtain ⟨hP, hD, hO, hR⟩ := QTm.back hB1 ht hFc hR (fun q h => by simp only [List.mem_cons, List.not_mem_nil, or_false] at h ⊢; omega)
            have hF_45 : F_41 g1 = .inl (cs 17, 700, .inl fv) := (hB1.2.2.2 g1 (by rw [hT_g1]; simp)).trans hF_29
            generalize H1 = H at hP hS ⊢
            refine lv_aload hx hb dX15_expand_146 (lv_at hl 7 rfl) ?_
            refine lv_bipush (v := 48) hx hb dX15_expand_148 (by decide) ?_
            have hFc := pg_free hD hS hA
            refine va_callv (va_runS (As := [.ref g2, .int 48]) (rest := []) ⟨hx, hb, hml, hown, hts⟩ (s_X15_put l dC dI cs ty gm L H.size F_41 g2 (ρ + 6) r2 61 z2_42 48 hW hL_g2 hT_g2 hq_43 (by first | omega | assumption) (by first | omega | assumption)) ⟨callB_of 2 hts (gi kt_769) rfl rfl rfl (hts _ kt_669) (hts _ kt_770) (by decide +kernel) ⟨Nat.le_of_ble_eq_true rfl, Nat.le_of_ble_eq_true rfl⟩, (hts _ kt_771)⟩ ⟨fun a U g mk q => ⟨q.1, PTm.calling q.2⟩, fun U hU hWm => ⟨rfl, PTm.mk hU hWm hP hK hD hE hO⟩⟩ rfl rfl hl.1 rfl (lv_room (Nat.le_of_ble_eq_true rfl)) dX15_expand_150 ⟨by show _ + 0 ≤ 0; omega, by show _ + 0 ≤ 0; omega⟩) hS (fun q _ h => hFc q h) hFc (fun u t H1 locs ht hvm hw hB hz1 hk1 hS => ?_)
            obtain ⟨F_47, z2_48, hB1, hq_49, hq_50⟩ := hB
            obtain ⟨hP, hD, hO, hR⟩ := QTm.back hB1 ht hFc hR (fun q h => by simp only [List.mem_cons, List.not_mem_nil, or_false] at h ⊢; omega)
            have hF_51 : F_47 g1 = .inl (cs 17, 700, .inl fv) := (hB1.2.2.2 g1 (by rw [hT_g1]; simp)).trans hF_45
            generalize H1 = H at hP hS ⊢
            refine W.widen (k := 0) (n := 0) (by omega) (by omega) ?_
            exact jn_30 z2_48 F_47 (⟨by omega, hq_49⟩) hO hR _ _ hP hD hS ls (lv_sub hl [0, 1, 2, 3, 4, 5, 6, 7] rfl)
      ·
        refine lv_aload_n hx hb dX15_expand_45 rfl (lv_at hl 3 rfl) ?_
        refine lv_iload hx hb dX15_expand_46 (lv_at hl 1 rfl) ?_
        refine lv_iconst (v := 1) hx hb dX15_expand_48 (by decide) ?_
        refine lv_iadd hx hb dX15_expand_49 ?_
        refine lv_topi (fun x_52 ex_52 => ?_)
        obtain rfl : x_52 = (nI (j + 1)) := ex_52.trans (nI_add j 1)
        refine pg_bald hx hb hK hP hL_g1 1 hF_15 rfl (vp_in_nI (by omega) (by omega)) dX15_expand_50 ?_
        refine lv_topi (fun x_53 ex_53 => ?_)
        obtain rfl : x_53 = fv (j + 1) := ex_53.trans (congrArg fv (show ((nI (j + 1)) : Int32).toNatClampNeg = (j + 1) from nI_clamp (by omega)))
        refine lv_bipush (v := 37) hx hb dX15_expand_51 (by decide) ?_
        refine lv_icmp_ne (tgt := 66) hx hb dX15_expand_53 (by decide) (fun c_54 => ?_) (fun c_54 => ?_)
        ·
          refine lv_aload_n hx hb dX15_expand_66 rfl (lv_at hl 3 rfl) ?_
          refine lv_iload hx hb dX15_expand_67 (lv_at hl 1 rfl) ?_
          refine lv_iconst (v := 1) hx hb dX15_expand_69 (by decide) ?_
          refine lv_iadd hx hb dX15_expand_70 ?_
          refine lv_topi (fun x_55 ex_55 => ?_)
          obtain rfl : x_55 = (nI (j + 1)) := ex_55.trans (nI_add j 1)
          refine pg_bald hx hb hK hP hL_g1 1 hF_15 rfl (vp_in_nI (by omega) (by omega)) dX15_expand_71 ?_
          refine lv_topi (fun x_56 ex_56 => ?_)
          obtain rfl : x_56 = fv (j + 1) := ex_56.trans (congrArg fv (show ((nI (j + 1)) : Int32).toNatClampNeg = (j + 1) from nI_clamp (by omega)))
          refine lv_bipush (v := 95) hx hb dX15_expand_72 (by decide) ?_
          refine lv_icmp_ne (tgt := 87) hx hb dX15_expand_74 (by decide) (fun c_57 => ?_) (fun c_57 => ?_)
          ·
            refine lv_aload_n hx hb dX15_expand_87 rfl (lv_at hl 3 rfl) ?_
            refine lv_iload hx hb dX15_expand_88 (lv_at hl 1 rfl) ?_
            refine lv_iconst (v := 1) hx hb dX15_expand_90 (by decide) ?_
            refine lv_iadd hx hb dX15_expand_91 ?_
            refine lv_topi (fun x_58 ex_58 => ?_)
            obtain rfl : x_58 = (nI (j + 1)) := ex_58.trans (nI_add j 1)
            refine pg_bald hx hb hK hP hL_g1 1 hF_15 rfl (vp_in_nI (by omega) (by omega)) dX15_expand_92 ?_
            refine lv_topi (fun x_59 ex_59 => ?_)
            obtain rfl : x_59 = fv (j + 1) := ex_59.trans (congrArg fv (show ((nI (j + 1)) : Int32).toNatClampNeg = (j + 1) from nI_clamp (by omega)))
            refine lv_bipush (v := 45) hx hb dX15_expand_93 (by decide) ?_
            refine lv_icmp_ne (tgt := 108) hx hb dX15_expand_95 (by decide) (fun c_60 => ?_) (fun c_60 => ?_)
            ·
              have hm4 : 4 ≤ mac fv j tt := hmb.2.2.2.resolve_left (fun h => h.elim c_54 (fun h => h.elim c_57 c_60))
              refine lv_aload_n hx hb dX15_expand_108 rfl (lv_at hl 2 rfl) ?_
              refine lv_aload_n hx hb dX15_expand_109 rfl (lv_at hl 3 rfl) ?_
              refine lv_iload hx hb dX15_expand_110 (lv_at hl 1 rfl) ?_
              refine lv_iconst (v := 2) hx hb dX15_expand_112 (by decide) ?_
              refine lv_iadd hx hb dX15_expand_113 ?_
              refine lv_topi (fun x_61 ex_61 => ?_)
              obtain rfl : x_61 = (nI (j + 2)) := ex_61.trans (nI_add j 2)
              refine lv_iload hx hb dX15_expand_114 (lv_at hl 1 rfl) ?_
              refine lv_iload hx hb dX15_expand_116 (lv_at hl 0 rfl) ?_
              refine lv_iadd hx hb dX15_expand_118 ?_
              refine lv_topi (fun x_62 ex_62 => ?_)
              obtain rfl : x_62 = (nI (j + (mac fv j tt))) := ex_62.trans (nI_add j (mac fv j tt))
              refine lv_iconst (v := 1) hx hb dX15_expand_119 (by decide) ?_
              refine lv_isub hx hb dX15_expand_120 ?_
              refine lv_topi (fun x_63 ex_63 => ?_)
              obtain rfl : x_63 = (nI ((j + (mac fv j tt)) - 1)) := ex_63.trans (pk_sub (a := (j + (mac fv j tt))) (b := 1) (by omega))
              refine lv_aload hx hb dX15_expand_121 (lv_at hl 6 rfl) ?_
              refine lv_aload hx hb dX15_expand_123 (lv_at hl 7 rfl) ?_
              obtain ⟨hi_64, ht_65, hi_66, ht_67, hi_68, ht_69, hi_70, ht_71, hi_72, ht_73, hi_74, ht_75, hi_76, ⟨r_77, ht_78⟩, hi_79, ⟨r_80, ht_81⟩, hi_82, ht_83, _, _, hi_84, ht_85, hi_86, ht_87, hi_88, ht_89, hi_90, ht_91, hi_92, ht_93, hi_94, ht_95, hi_96, ht_97, hi_98, ⟨r_99, ht_100⟩, hi_101, ht_102, hi_103, ⟨x_104, y0_105, y1_106, y2_107, ht_108⟩, hi_109, ⟨x_110, y0_111, y1_112, y2_113, ht_114⟩, hi_115, ⟨x_116, y_117, w_118, u_119, bl_120, ht_121⟩, hi_122, ht_123, hi_124, ht_125, hi_126, ht_127, hi_128, ht_129, hi_130, ht_131, hi_132, ht_133, hi_134, ht_135, hi_136, ht_137, hi_138, ht_139, hi_140, ht_141, hi_142, ⟨r_143, ht_144⟩, hi_145, ⟨r_146, ht_147⟩, hi_148, ht_149, hi_150, ht_151, hi_152, ⟨r_153, ht_154⟩, hi_155, ⟨r_156, ht_157⟩, hi_158, ⟨r_159, ht_160⟩, hq_161, hq_162, hq_163, hq_164, hq_165, hgO, hgA, hgB⟩ := hW.mod hL_h0 hT_h0
              obtain ⟨hi_166, ht_167, hq_168⟩ := hW.txt hL_pe hT_pe
              obtain ⟨hi_169, ht_170, hq_171⟩ := hW.txt hL_dd hT_dd
              have hFc := pg_free hD hS hA
              obtain ⟨zo_172, ze_173, v11_174, v12_175, v14_176, v15_177, v17_178, v18_179, v19_180, v20_181, v21_182, v22_183, v33_184, v52_185, v53_186, v54_187, hF_188, hq_189, hq_190, hq_191, hq_192⟩ := hO.mod hL_h0 hT_h0
              refine va_callv (va_runV (As := [.ref g1, .int (nI (j + 2)), .int (nI ((j + (mac fv j tt)) - 1)), .ref dd, .ref g2]) (rest := []) ⟨hx, hb, hml, hown, hts⟩ (s_X15_macroValue l dC dI cs ty gm L H.size F_11 h0 ρ ta ou so ad na va lc dm tg pe ml bg co sp nb0 nb1 nb2 pl se ke wi hs mo po nu pr sq xa sa n64 m64 ex wh sd tk hd ak ho ot sx s0 s1 s2 nf bd mm zt rp g2 r2 g1 fv dd τ rd nd (j + 2) ((j + (mac fv j tt)) - 1) yy hW hL_h0 hT_h0 hL_pe hT_pe hL_g2 hT_g2 hL_g1 hT_g1 hL_dd hT_dd hF_15 hv4 (by first | omega | assumption) (by first | omega | assumption) (by first | omega | assumption) (by first | omega | assumption)) ⟨callB_of 5 hts (gi kt_779) rfl rfl rfl (hts _ kt_669) (hts _ kt_780) (by decide +kernel) ⟨Nat.le_of_ble_eq_true rfl, Nat.le_of_ble_eq_true rfl⟩, (hts _ kt_781), (hts _ kt_782)⟩ ⟨fun a U g mk q => ⟨q.1, PTm.calling q.2⟩, pg_recv hK hP hL_h0 hF_188 (q := (RX15, TX15, 59)) rfl, fun U hU hWm => ⟨rfl, PTm.mk hU hWm hP hK hD hE hO⟩⟩ rfl rfl hl.1 rfl (lv_room (Nat.le_of_ble_eq_true rfl)) dX15_expand_125 ⟨by show _ + 0 ≤ 0; omega, by show _ + 0 ≤ 0; omega⟩) hS (fun q _ h => hFc q h) hFc (fun u t H1 locs ht hvm hw hB hz1 hk1 hS => ?_)
              obtain ⟨F_194, y2_195, hB1, hq_196, hq_197⟩ := hB
              obtain ⟨hP, hD, hO, hR⟩ := QTm.back hB1 ht hFc hR (fun q h => by simp only [List.mem_cons, List.not_mem_nil, or_false] at h ⊢; omega)
              have hF_198 : F_194 g1 = .inl (cs 17, 700, .inl fv) := (hB1.2.2.2 g1 (by rw [hT_g1]; simp)).trans hF_15
              have hF_199 : F_194 h0 = .inr (15, (.ref ta) :: (.int (nI zt)) :: (.int (nI zo_172)) :: (.int (nI ze_173)) :: (.ref ou) :: (.ref so) :: (.ref ad) :: (.ref na) :: (.ref va) :: (.ref lc) :: (.ref dm) :: (.int v11_174) :: (.int v12_175) :: (.ref tg) :: (.int v14_176) :: (.int v15_177) :: (.ref pe) :: (.int v17_178) :: (.int v18_179) :: (.int v19_180) :: (.int v20_181) :: (.int v21_182) :: (.int v22_183) :: (.ref ml) :: (.ref bg) :: (.ref co) :: (.ref sp) :: (.ref nb0) :: (.ref nb1) :: (.ref nb2) :: (.int (nI nf)) :: (.int (nI bd)) :: (.int (nI mm)) :: (.int v33_184) :: (.ref pl) :: (.ref se) :: (.ref ke) :: (.ref wi) :: (.ref hs) :: (.ref mo) :: (.ref po) :: (.ref nu) :: (.ref pr) :: (.ref sq) :: (.ref xa) :: (.ref sa) :: (.ref n64) :: (.ref m64) :: (.ref ex) :: (.ref wh) :: (.ref sd) :: (.ref tk) :: (.int v52_185) :: (.int v53_186) :: (.int v54_187) :: (.ref hd) :: (.ref ak) :: (.ref ho) :: (.ref ot) :: []) := (hB1.2.2.2 h0 (by rw [hT_h0]; simp)).trans hF_188
              generalize H1 = H at hP hS ⊢
              refine W.widen (k := 0) (n := 0) (by omega) (by omega) ?_
              exact jn_25 y2_195 F_194 (⟨by omega, hq_196⟩) hO hR _ _ hP hD hS ls (lv_sub hl [0, 1, 2, 3, 4, 5, 6, 7] rfl)
            ·
              refine lv_aload hx hb dX15_expand_98 (lv_at hl 7 rfl) ?_
              refine lv_bipush (v := 37) hx hb dX15_expand_100 (by decide) ?_
              have hFc := pg_free hD hS hA
              refine va_callv (va_runS (As := [.ref g2, .int 37]) (rest := []) ⟨hx, hb, hml, hown, hts⟩ (s_X15_put l dC dI cs ty gm L H.size F_11 g2 (ρ + 6) r2 61 yy 37 hW hL_g2 hT_g2 hv4 (by first | omega | assumption) (by first | omega | assumption)) ⟨callB_of 2 hts (gi kt_769) rfl rfl rfl (hts _ kt_669) (hts _ kt_770) (by decide +kernel) ⟨Nat.le_of_ble_eq_true rfl, Nat.le_of_ble_eq_true rfl⟩, (hts _ kt_771)⟩ ⟨fun a U g mk q => ⟨q.1, PTm.calling q.2⟩, fun U hU hWm => ⟨rfl, PTm.mk hU hWm hP hK hD hE hO⟩⟩ rfl rfl hl.1 rfl (lv_room (Nat.le_of_ble_eq_true rfl)) dX15_expand_102 ⟨by show _ + 0 ≤ 0; omega, by show _ + 0 ≤ 0; omega⟩) hS (fun q _ h => hFc q h) hFc (fun u t H1 locs ht hvm hw hB hz1 hk1 hS => ?_)
              obtain ⟨F_201, z2_202, hB1, hq_203, hq_204⟩ := hB
              obtain ⟨hP, hD, hO, hR⟩ := QTm.back hB1 ht hFc hR (fun q h => by simp only [List.mem_cons, List.not_mem_nil, or_false] at h ⊢; omega)
              have hF_205 : F_201 g1 = .inl (cs 17, 700, .inl fv) := (hB1.2.2.2 g1 (by rw [hT_g1]; simp)).trans hF_15
              generalize H1 = H at hP hS ⊢
              refine lv_goto (tgt := 128) hx hb dX15_expand_105 (by decide) ?_
              refine W.widen (k := 0) (n := 0) (by omega) (by omega) ?_
              exact jn_25 z2_202 F_201 (⟨by omega, hq_203⟩) hO hR _ _ hP hD hS ls (lv_sub hl [0, 1, 2, 3, 4, 5, 6, 7] rfl)
          ·
            refine lv_aload hx hb dX15_expand_77 (lv_at hl 7 rfl) ?_
            refine lv_bipush (v := 32) hx hb dX15_expand_79 (by decide) ?_
            have hFc := pg_free hD hS hA
            refine va_callv (va_runS (As := [.ref g2, .int 32]) (rest := []) ⟨hx, hb, hml, hown, hts⟩ (s_X15_put l dC dI cs ty gm L H.size F_11 g2 (ρ + 6) r2 61 yy 32 hW hL_g2 hT_g2 hv4 (by first | omega | assumption) (by first | omega | assumption)) ⟨callB_of 2 hts (gi kt_769) rfl rfl rfl (hts _ kt_669) (hts _ kt_770) (by decide +kernel) ⟨Nat.le_of_ble_eq_true rfl, Nat.le_of_ble_eq_true rfl⟩, (hts _ kt_771)⟩ ⟨fun a U g mk q => ⟨q.1, PTm.calling q.2⟩, fun U hU hWm => ⟨rfl, PTm.mk hU hWm hP hK hD hE hO⟩⟩ rfl rfl hl.1 rfl (lv_room (Nat.le_of_ble_eq_true rfl)) dX15_expand_81 ⟨by show _ + 0 ≤ 0; omega, by show _ + 0 ≤ 0; omega⟩) hS (fun q _ h => hFc q h) hFc (fun u t H1 locs ht hvm hw hB hz1 hk1 hS => ?_)
            obtain ⟨F_207, z2_208, hB1, hq_209, hq_210⟩ := hB
            obtain ⟨hP, hD, hO, hR⟩ := QTm.back hB1 ht hFc hR (fun q h => by simp only [List.mem_cons, List.not_mem_nil, or_false] at h ⊢; omega)
            have hF_211 : F_207 g1 = .inl (cs 17, 700, .inl fv) := (hB1.2.2.2 g1 (by rw [hT_g1]; simp)).trans hF_15
            generalize H1 = H at hP hS ⊢
            refine lv_goto (tgt := 128) hx hb dX15_expand_84 (by decide) ?_
            refine W.widen (k := 0) (n := 0) (by omega) (by omega) ?_
            exact jn_25 z2_208 F_207 (⟨by omega, hq_209⟩) hO hR _ _ hP hD hS ls (lv_sub hl [0, 1, 2, 3, 4, 5, 6, 7] rfl)
        ·
          refine lv_aload hx hb dX15_expand_56 (lv_at hl 7 rfl) ?_
          refine lv_bipush (v := 37) hx hb dX15_expand_58 (by decide) ?_
          have hFc := pg_free hD hS hA
          refine va_callv (va_runS (As := [.ref g2, .int 37]) (rest := []) ⟨hx, hb, hml, hown, hts⟩ (s_X15_put l dC dI cs ty gm L H.size F_11 g2 (ρ + 6) r2 61 yy 37 hW hL_g2 hT_g2 hv4 (by first | omega | assumption) (by first | omega | assumption)) ⟨callB_of 2 hts (gi kt_769) rfl rfl rfl (hts _ kt_669) (hts _ kt_770) (by decide +kernel) ⟨Nat.le_of_ble_eq_true rfl, Nat.le_of_ble_eq_true rfl⟩, (hts _ kt_771)⟩ ⟨fun a U g mk q => ⟨q.1, PTm.calling q.2⟩, fun U hU hWm => ⟨rfl, PTm.mk hU hWm hP hK hD hE hO⟩⟩ rfl rfl hl.1 rfl (lv_room (Nat.le_of_ble_eq_true rfl)) dX15_expand_60 ⟨by show _ + 0 ≤ 0; omega, by show _ + 0 ≤ 0; omega⟩) hS (fun q _ h => hFc q h) hFc (fun u t H1 locs ht hvm hw hB hz1 hk1 hS => ?_)
          obtain ⟨F_213, z2_214, hB1, hq_215, hq_216⟩ := hB
          obtain ⟨hP, hD, hO, hR⟩ := QTm.back hB1 ht hFc hR (fun q h => by simp only [List.mem_cons, List.not_mem_nil, or_false] at h ⊢; omega)
          have hF_217 : F_213 g1 = .inl (cs 17, 700, .inl fv) := (hB1.2.2.2 g1 (by rw [hT_g1]; simp)).trans hF_15
          generalize H1 = H at hP hS ⊢
          refine lv_goto (tgt := 128) hx hb dX15_expand_63 (by decide) ?_
          refine W.widen (k := 0) (n := 0) (by omega) (by omega) ?_
          exact jn_25 z2_214 F_213 (⟨by omega, hq_215⟩) hO hR _ _ hP hD hS ls (lv_sub hl [0, 1, 2, 3, 4, 5, 6, 7] rfl)
    ·
      refine lv_aload hx hb dX15_expand_24 (lv_at hl 6 rfl) ?_
      refine lv_aload_n hx hb dX15_expand_26 rfl (lv_at hl 2 rfl) ?_
      refine lv_iload hx hb dX15_expand_27 (lv_at hl 0 rfl) ?_
      refine pg_bald hx hb hK hP hL_g1 1 hF_15 rfl (vp_in_nI (by omega) (by omega)) dX15_expand_29 ?_
      refine lv_topi (fun x_218 ex_218 => ?_)
      obtain rfl : x_218 = fv j := ex_218.trans (congrArg fv (show ((nI j) : Int32).toNatClampNeg = j from nI_clamp (by omega)))
      have hFc := pg_free hD hS hA
      refine va_callv (va_runS (As := [.ref g2, .int (fv j)]) (rest := []) ⟨hx, hb, hml, hown, hts⟩ (s_X15_put l dC dI cs ty gm L H.size F_11 g2 (ρ + 6) r2 61 yy (fv j) hW hL_g2 hT_g2 hv4 (by first | omega | assumption) (by first | omega | assumption)) ⟨callB_of 2 hts (gi kt_769) rfl rfl rfl (hts _ kt_669) (hts _ kt_770) (by decide +kernel) ⟨Nat.le_of_ble_eq_true rfl, Nat.le_of_ble_eq_true rfl⟩, (hts _ kt_771)⟩ ⟨fun a U g mk q => ⟨q.1, PTm.calling q.2⟩, fun U hU hWm => ⟨rfl, PTm.mk hU hWm hP hK hD hE hO⟩⟩ rfl rfl hl.1 rfl (lv_room (Nat.le_of_ble_eq_true rfl)) dX15_expand_30 ⟨by show _ + 0 ≤ 0; omega, by show _ + 0 ≤ 0; omega⟩) hS (fun q _ h => hFc q h) hFc (fun u t H1 locs ht hvm hw hB hz1 hk1 hS => ?_)
      obtain ⟨F_220, z2_221, hB1, hq_222, hq_223⟩ := hB
      obtain ⟨hP, hD, hO, hR⟩ := QTm.back hB1 ht hFc hR (fun q h => by simp only [List.mem_cons, List.not_mem_nil, or_false] at h ⊢; omega)
      have hF_224 : F_220 g1 = .inl (cs 17, 700, .inl fv) := (hB1.2.2.2 g1 (by rw [hT_g1]; simp)).trans hF_15
      generalize H1 = H at hP hS ⊢
      refine lv_goto (tgt := 162) hx hb dX15_expand_33 (by decide) ?_
      refine lv_iinc (v := (nI (j + 1))) (lv' := [(6, .int (nI (j + 1))), (0, .ref h0), (1, .ref g1), (2, .int (nI a)), (3, .int (nI tt)), (4, .ref dd), (5, .ref g2)]) hx hb dX15_expand_162 hl (k := 0) rfl (nI_1 _) (by decide) rfl (fun ls hl => ?_)
      refine lv_goto (tgt := 9) hx hb dX15_expand_165 (by decide) ?_
      refine W.widen (k := 0) (n := 0) (by omega) (by omega) ?_
      exact ih_14 ((j + 1), z2_221) F_220 (⟨by omega, ISD.next hv2 (by omega) c_22, by omega, hq_222⟩) (by show tt - (j + 1) < tt - j; omega) hO hR _ _ hP hD hS ls (lv_sub hl [0, 1, 2, 3, 4, 5, 6] rfl)
