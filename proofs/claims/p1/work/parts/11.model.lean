theorem dJ6_rotateRight_7cf53_0 : decode cJ6_rotateRight_7cf53 0 = .ok (.iload_n 0, 1) := by decide +kernel
theorem dJ6_rotateRight_7cf53_1 : decode cJ6_rotateRight_7cf53 1 = .ok (.iload_n 1, 1) := by decide +kernel
theorem dJ6_rotateRight_7cf53_2 : decode cJ6_rotateRight_7cf53 2 = .ok (.iushr, 1) := by decide +kernel
theorem dJ6_rotateRight_7cf53_3 : decode cJ6_rotateRight_7cf53 3 = .ok (.iload_n 0, 1) := by decide +kernel
theorem dJ6_rotateRight_7cf53_4 : decode cJ6_rotateRight_7cf53 4 = .ok (.iload_n 1, 1) := by decide +kernel
theorem dJ6_rotateRight_7cf53_5 : decode cJ6_rotateRight_7cf53 5 = .ok (.ineg, 1) := by decide +kernel
theorem dJ6_rotateRight_7cf53_6 : decode cJ6_rotateRight_7cf53 6 = .ok (.ishl, 1) := by decide +kernel
theorem dJ6_rotateRight_7cf53_7 : decode cJ6_rotateRight_7cf53 7 = .ok (.ior, 1) := by decide +kernel
theorem dJ6_rotateRight_7cf53_8 : decode cJ6_rotateRight_7cf53 8 = .ok (.ireturn, 1) := by decide +kernel
theorem dJ9_multiplyHigh_f86c9_0 : decode cJ9_multiplyHigh_f86c9 0 = .ok (.lload_n 0, 1) := by decide +kernel
theorem dJ9_multiplyHigh_f86c9_1 : decode cJ9_multiplyHigh_f86c9 1 = .ok (.bipush 32, 2) := by decide +kernel
theorem dJ9_multiplyHigh_f86c9_3 : decode cJ9_multiplyHigh_f86c9 3 = .ok (.lshr, 1) := by decide +kernel
theorem dJ9_multiplyHigh_f86c9_4 : decode cJ9_multiplyHigh_f86c9 4 = .ok (.lstore 4, 2) := by decide +kernel
theorem dJ9_multiplyHigh_f86c9_6 : decode cJ9_multiplyHigh_f86c9 6 = .ok (.lload_n 0, 1) := by decide +kernel
theorem dJ9_multiplyHigh_f86c9_7 : decode cJ9_multiplyHigh_f86c9 7 = .ok (.ldc2_w 138, 3) := by decide +kernel
theorem dJ9_multiplyHigh_f86c9_10 : decode cJ9_multiplyHigh_f86c9 10 = .ok (.land, 1) := by decide +kernel
theorem dJ9_multiplyHigh_f86c9_11 : decode cJ9_multiplyHigh_f86c9 11 = .ok (.lstore 6, 2) := by decide +kernel
theorem dJ9_multiplyHigh_f86c9_13 : decode cJ9_multiplyHigh_f86c9 13 = .ok (.lload_n 2, 1) := by decide +kernel
theorem dJ9_multiplyHigh_f86c9_14 : decode cJ9_multiplyHigh_f86c9 14 = .ok (.bipush 32, 2) := by decide +kernel
theorem dJ9_multiplyHigh_f86c9_16 : decode cJ9_multiplyHigh_f86c9 16 = .ok (.lshr, 1) := by decide +kernel
theorem dJ9_multiplyHigh_f86c9_17 : decode cJ9_multiplyHigh_f86c9 17 = .ok (.lstore 8, 2) := by decide +kernel
theorem dJ9_multiplyHigh_f86c9_19 : decode cJ9_multiplyHigh_f86c9 19 = .ok (.lload_n 2, 1) := by decide +kernel
theorem dJ9_multiplyHigh_f86c9_20 : decode cJ9_multiplyHigh_f86c9 20 = .ok (.ldc2_w 138, 3) := by decide +kernel
theorem dJ9_multiplyHigh_f86c9_23 : decode cJ9_multiplyHigh_f86c9 23 = .ok (.land, 1) := by decide +kernel
theorem dJ9_multiplyHigh_f86c9_24 : decode cJ9_multiplyHigh_f86c9 24 = .ok (.lstore 10, 2) := by decide +kernel
theorem dJ9_multiplyHigh_f86c9_26 : decode cJ9_multiplyHigh_f86c9 26 = .ok (.lload 6, 2) := by decide +kernel
theorem dJ9_multiplyHigh_f86c9_28 : decode cJ9_multiplyHigh_f86c9 28 = .ok (.lload 10, 2) := by decide +kernel
theorem dJ9_multiplyHigh_f86c9_30 : decode cJ9_multiplyHigh_f86c9 30 = .ok (.lmul, 1) := by decide +kernel
theorem dJ9_multiplyHigh_f86c9_31 : decode cJ9_multiplyHigh_f86c9 31 = .ok (.lstore 12, 2) := by decide +kernel
theorem dJ9_multiplyHigh_f86c9_33 : decode cJ9_multiplyHigh_f86c9 33 = .ok (.lload 4, 2) := by decide +kernel
theorem dJ9_multiplyHigh_f86c9_35 : decode cJ9_multiplyHigh_f86c9 35 = .ok (.lload 10, 2) := by decide +kernel
theorem dJ9_multiplyHigh_f86c9_37 : decode cJ9_multiplyHigh_f86c9 37 = .ok (.lmul, 1) := by decide +kernel
theorem dJ9_multiplyHigh_f86c9_38 : decode cJ9_multiplyHigh_f86c9 38 = .ok (.lload 12, 2) := by decide +kernel
theorem dJ9_multiplyHigh_f86c9_40 : decode cJ9_multiplyHigh_f86c9 40 = .ok (.bipush 32, 2) := by decide +kernel
theorem dJ9_multiplyHigh_f86c9_42 : decode cJ9_multiplyHigh_f86c9 42 = .ok (.lushr, 1) := by decide +kernel
theorem dJ9_multiplyHigh_f86c9_43 : decode cJ9_multiplyHigh_f86c9 43 = .ok (.ladd, 1) := by decide +kernel
theorem dJ9_multiplyHigh_f86c9_44 : decode cJ9_multiplyHigh_f86c9 44 = .ok (.lstore 14, 2) := by decide +kernel
theorem dJ9_multiplyHigh_f86c9_46 : decode cJ9_multiplyHigh_f86c9 46 = .ok (.lload 14, 2) := by decide +kernel
theorem dJ9_multiplyHigh_f86c9_48 : decode cJ9_multiplyHigh_f86c9 48 = .ok (.ldc2_w 138, 3) := by decide +kernel
theorem dJ9_multiplyHigh_f86c9_51 : decode cJ9_multiplyHigh_f86c9 51 = .ok (.land, 1) := by decide +kernel
theorem dJ9_multiplyHigh_f86c9_52 : decode cJ9_multiplyHigh_f86c9 52 = .ok (.lstore 16, 2) := by decide +kernel
theorem dJ9_multiplyHigh_f86c9_54 : decode cJ9_multiplyHigh_f86c9 54 = .ok (.lload 14, 2) := by decide +kernel
theorem dJ9_multiplyHigh_f86c9_56 : decode cJ9_multiplyHigh_f86c9 56 = .ok (.bipush 32, 2) := by decide +kernel
theorem dJ9_multiplyHigh_f86c9_58 : decode cJ9_multiplyHigh_f86c9 58 = .ok (.lshr, 1) := by decide +kernel
theorem dJ9_multiplyHigh_f86c9_59 : decode cJ9_multiplyHigh_f86c9 59 = .ok (.lstore 18, 2) := by decide +kernel
theorem dJ9_multiplyHigh_f86c9_61 : decode cJ9_multiplyHigh_f86c9 61 = .ok (.lload 16, 2) := by decide +kernel
theorem dJ9_multiplyHigh_f86c9_63 : decode cJ9_multiplyHigh_f86c9 63 = .ok (.lload 6, 2) := by decide +kernel
theorem dJ9_multiplyHigh_f86c9_65 : decode cJ9_multiplyHigh_f86c9 65 = .ok (.lload 8, 2) := by decide +kernel
theorem dJ9_multiplyHigh_f86c9_67 : decode cJ9_multiplyHigh_f86c9 67 = .ok (.lmul, 1) := by decide +kernel
theorem dJ9_multiplyHigh_f86c9_68 : decode cJ9_multiplyHigh_f86c9 68 = .ok (.ladd, 1) := by decide +kernel
theorem dJ9_multiplyHigh_f86c9_69 : decode cJ9_multiplyHigh_f86c9 69 = .ok (.lstore 16, 2) := by decide +kernel
theorem dJ9_multiplyHigh_f86c9_71 : decode cJ9_multiplyHigh_f86c9 71 = .ok (.lload 4, 2) := by decide +kernel
theorem dJ9_multiplyHigh_f86c9_73 : decode cJ9_multiplyHigh_f86c9 73 = .ok (.lload 8, 2) := by decide +kernel
theorem dJ9_multiplyHigh_f86c9_75 : decode cJ9_multiplyHigh_f86c9 75 = .ok (.lmul, 1) := by decide +kernel
theorem dJ9_multiplyHigh_f86c9_76 : decode cJ9_multiplyHigh_f86c9 76 = .ok (.lload 18, 2) := by decide +kernel
theorem dJ9_multiplyHigh_f86c9_78 : decode cJ9_multiplyHigh_f86c9 78 = .ok (.ladd, 1) := by decide +kernel
theorem dJ9_multiplyHigh_f86c9_79 : decode cJ9_multiplyHigh_f86c9 79 = .ok (.lload 16, 2) := by decide +kernel
theorem dJ9_multiplyHigh_f86c9_81 : decode cJ9_multiplyHigh_f86c9 81 = .ok (.bipush 32, 2) := by decide +kernel
theorem dJ9_multiplyHigh_f86c9_83 : decode cJ9_multiplyHigh_f86c9 83 = .ok (.lshr, 1) := by decide +kernel
theorem dJ9_multiplyHigh_f86c9_84 : decode cJ9_multiplyHigh_f86c9 84 = .ok (.ladd, 1) := by decide +kernel
theorem dJ9_multiplyHigh_f86c9_85 : decode cJ9_multiplyHigh_f86c9 85 = .ok (.lreturn, 1) := by decide +kernel
theorem dX12_isAtMost_0 : decode cX12_isAtMost 0 = .ok (.lload_n 0, 1) := by decide +kernel
theorem dX12_isAtMost_1 : decode cX12_isAtMost 1 = .ok (.lload_n 0, 1) := by decide +kernel
theorem dX12_isAtMost_2 : decode cX12_isAtMost 2 = .ok (.invokestatic 40, 3) := by decide +kernel
theorem dX12_isAtMost_5 : decode cX12_isAtMost 5 = .ok (.lstore 4, 2) := by decide +kernel
theorem dX12_isAtMost_7 : decode cX12_isAtMost 7 = .ok (.lload_n 0, 1) := by decide +kernel
theorem dX12_isAtMost_8 : decode cX12_isAtMost 8 = .ok (.lload_n 0, 1) := by decide +kernel
theorem dX12_isAtMost_9 : decode cX12_isAtMost 9 = .ok (.lmul, 1) := by decide +kernel
theorem dX12_isAtMost_10 : decode cX12_isAtMost 10 = .ok (.lstore 6, 2) := by decide +kernel
theorem dX12_isAtMost_12 : decode cX12_isAtMost 12 = .ok (.iload_n 2, 1) := by decide +kernel
theorem dX12_isAtMost_13 : decode cX12_isAtMost 13 = .ok (.iconst 2, 1) := by decide +kernel
theorem dX12_isAtMost_14 : decode cX12_isAtMost 14 = .ok (.if_icmp .ne 32, 3) := by decide +kernel
theorem dX12_isAtMost_17 : decode cX12_isAtMost 17 = .ok (.lload 4, 2) := by decide +kernel
theorem dX12_isAtMost_19 : decode cX12_isAtMost 19 = .ok (.iload_n 3, 1) := by decide +kernel
theorem dX12_isAtMost_20 : decode cX12_isAtMost 20 = .ok (.i2l, 1) := by decide +kernel
theorem dX12_isAtMost_21 : decode cX12_isAtMost 21 = .ok (.lcmp, 1) := by decide +kernel
theorem dX12_isAtMost_22 : decode cX12_isAtMost 22 = .ok (.ifCond .lt 18, 3) := by decide +kernel
theorem dX12_isAtMost_25 : decode cX12_isAtMost 25 = .ok (.lload 4, 2) := by decide +kernel
theorem dX12_isAtMost_27 : decode cX12_isAtMost 27 = .ok (.iload_n 3, 1) := by decide +kernel
theorem dX12_isAtMost_28 : decode cX12_isAtMost 28 = .ok (.i2l, 1) := by decide +kernel
theorem dX12_isAtMost_29 : decode cX12_isAtMost 29 = .ok (.lcmp, 1) := by decide +kernel
theorem dX12_isAtMost_30 : decode cX12_isAtMost 30 = .ok (.ifCond .ne 14, 3) := by decide +kernel
theorem dX12_isAtMost_33 : decode cX12_isAtMost 33 = .ok (.lload 6, 2) := by decide +kernel
theorem dX12_isAtMost_35 : decode cX12_isAtMost 35 = .ok (.lconst 0, 1) := by decide +kernel
theorem dX12_isAtMost_36 : decode cX12_isAtMost 36 = .ok (.lcmp, 1) := by decide +kernel
theorem dX12_isAtMost_37 : decode cX12_isAtMost 37 = .ok (.ifCond .ne 7, 3) := by decide +kernel
theorem dX12_isAtMost_40 : decode cX12_isAtMost 40 = .ok (.iconst 1, 1) := by decide +kernel
theorem dX12_isAtMost_41 : decode cX12_isAtMost 41 = .ok (.goto 4, 3) := by decide +kernel
theorem dX12_isAtMost_44 : decode cX12_isAtMost 44 = .ok (.iconst 0, 1) := by decide +kernel
theorem dX12_isAtMost_45 : decode cX12_isAtMost 45 = .ok (.ireturn, 1) := by decide +kernel
theorem dX12_isAtMost_46 : decode cX12_isAtMost 46 = .ok (.lload 6, 2) := by decide +kernel
theorem dX12_isAtMost_48 : decode cX12_isAtMost 48 = .ok (.ldc2_w 46, 3) := by decide +kernel
theorem dX12_isAtMost_51 : decode cX12_isAtMost 51 = .ok (.land, 1) := by decide +kernel
theorem dX12_isAtMost_52 : decode cX12_isAtMost 52 = .ok (.lstore 8, 2) := by decide +kernel
theorem dX12_isAtMost_54 : decode cX12_isAtMost 54 = .ok (.lload 6, 2) := by decide +kernel
theorem dX12_isAtMost_56 : decode cX12_isAtMost 56 = .ok (.bipush 32, 2) := by decide +kernel
theorem dX12_isAtMost_58 : decode cX12_isAtMost 58 = .ok (.lushr, 1) := by decide +kernel
theorem dX12_isAtMost_59 : decode cX12_isAtMost 59 = .ok (.lstore 10, 2) := by decide +kernel
theorem dX12_isAtMost_61 : decode cX12_isAtMost 61 = .ok (.lload 4, 2) := by decide +kernel
theorem dX12_isAtMost_63 : decode cX12_isAtMost 63 = .ok (.lstore 12, 2) := by decide +kernel
theorem dX12_isAtMost_65 : decode cX12_isAtMost 65 = .ok (.lload 8, 2) := by decide +kernel
theorem dX12_isAtMost_67 : decode cX12_isAtMost 67 = .ok (.lload_n 0, 1) := by decide +kernel
theorem dX12_isAtMost_68 : decode cX12_isAtMost 68 = .ok (.ldc2_w 46, 3) := by decide +kernel
theorem dX12_isAtMost_71 : decode cX12_isAtMost 71 = .ok (.land, 1) := by decide +kernel
theorem dX12_isAtMost_72 : decode cX12_isAtMost 72 = .ok (.lmul, 1) := by decide +kernel
theorem dX12_isAtMost_73 : decode cX12_isAtMost 73 = .ok (.lstore 14, 2) := by decide +kernel
theorem dX12_isAtMost_75 : decode cX12_isAtMost 75 = .ok (.lload 14, 2) := by decide +kernel
theorem dX12_isAtMost_77 : decode cX12_isAtMost 77 = .ok (.bipush 32, 2) := by decide +kernel
theorem dX12_isAtMost_79 : decode cX12_isAtMost 79 = .ok (.lushr, 1) := by decide +kernel
theorem dX12_isAtMost_80 : decode cX12_isAtMost 80 = .ok (.lstore 16, 2) := by decide +kernel
theorem dX12_isAtMost_82 : decode cX12_isAtMost 82 = .ok (.lload 10, 2) := by decide +kernel
theorem dX12_isAtMost_84 : decode cX12_isAtMost 84 = .ok (.lload_n 0, 1) := by decide +kernel
theorem dX12_isAtMost_85 : decode cX12_isAtMost 85 = .ok (.ldc2_w 46, 3) := by decide +kernel
theorem dX12_isAtMost_88 : decode cX12_isAtMost 88 = .ok (.land, 1) := by decide +kernel
theorem dX12_isAtMost_89 : decode cX12_isAtMost 89 = .ok (.lmul, 1) := by decide +kernel
theorem dX12_isAtMost_90 : decode cX12_isAtMost 90 = .ok (.lload 16, 2) := by decide +kernel
theorem dX12_isAtMost_92 : decode cX12_isAtMost 92 = .ok (.ladd, 1) := by decide +kernel
theorem dX12_isAtMost_93 : decode cX12_isAtMost 93 = .ok (.lstore 18, 2) := by decide +kernel
theorem dX12_isAtMost_95 : decode cX12_isAtMost 95 = .ok (.lload 8, 2) := by decide +kernel
theorem dX12_isAtMost_97 : decode cX12_isAtMost 97 = .ok (.lload_n 0, 1) := by decide +kernel
theorem dX12_isAtMost_98 : decode cX12_isAtMost 98 = .ok (.bipush 32, 2) := by decide +kernel
theorem dX12_isAtMost_100 : decode cX12_isAtMost 100 = .ok (.lushr, 1) := by decide +kernel
theorem dX12_isAtMost_101 : decode cX12_isAtMost 101 = .ok (.lmul, 1) := by decide +kernel
theorem dX12_isAtMost_102 : decode cX12_isAtMost 102 = .ok (.lload 18, 2) := by decide +kernel
theorem dX12_isAtMost_104 : decode cX12_isAtMost 104 = .ok (.ldc2_w 46, 3) := by decide +kernel
theorem dX12_isAtMost_107 : decode cX12_isAtMost 107 = .ok (.land, 1) := by decide +kernel
theorem dX12_isAtMost_108 : decode cX12_isAtMost 108 = .ok (.ladd, 1) := by decide +kernel
theorem dX12_isAtMost_109 : decode cX12_isAtMost 109 = .ok (.lstore 20, 2) := by decide +kernel
theorem dX12_isAtMost_111 : decode cX12_isAtMost 111 = .ok (.lload 20, 2) := by decide +kernel
theorem dX12_isAtMost_113 : decode cX12_isAtMost 113 = .ok (.ldc2_w 46, 3) := by decide +kernel
theorem dX12_isAtMost_116 : decode cX12_isAtMost 116 = .ok (.land, 1) := by decide +kernel
theorem dX12_isAtMost_117 : decode cX12_isAtMost 117 = .ok (.lstore 22, 2) := by decide +kernel
theorem dX12_isAtMost_119 : decode cX12_isAtMost 119 = .ok (.lload 14, 2) := by decide +kernel
theorem dX12_isAtMost_121 : decode cX12_isAtMost 121 = .ok (.ldc2_w 46, 3) := by decide +kernel
theorem dX12_isAtMost_124 : decode cX12_isAtMost 124 = .ok (.land, 1) := by decide +kernel
theorem dX12_isAtMost_125 : decode cX12_isAtMost 125 = .ok (.lstore 24, 2) := by decide +kernel
theorem dX12_isAtMost_127 : decode cX12_isAtMost 127 = .ok (.lload 18, 2) := by decide +kernel
theorem dX12_isAtMost_129 : decode cX12_isAtMost 129 = .ok (.bipush 32, 2) := by decide +kernel
theorem dX12_isAtMost_131 : decode cX12_isAtMost 131 = .ok (.lushr, 1) := by decide +kernel
theorem dX12_isAtMost_132 : decode cX12_isAtMost 132 = .ok (.lload 20, 2) := by decide +kernel
theorem dX12_isAtMost_134 : decode cX12_isAtMost 134 = .ok (.bipush 32, 2) := by decide +kernel
theorem dX12_isAtMost_136 : decode cX12_isAtMost 136 = .ok (.lushr, 1) := by decide +kernel
theorem dX12_isAtMost_137 : decode cX12_isAtMost 137 = .ok (.ladd, 1) := by decide +kernel
theorem dX12_isAtMost_138 : decode cX12_isAtMost 138 = .ok (.lload 10, 2) := by decide +kernel
theorem dX12_isAtMost_140 : decode cX12_isAtMost 140 = .ok (.lload_n 0, 1) := by decide +kernel
theorem dX12_isAtMost_141 : decode cX12_isAtMost 141 = .ok (.bipush 32, 2) := by decide +kernel
theorem dX12_isAtMost_143 : decode cX12_isAtMost 143 = .ok (.lushr, 1) := by decide +kernel
theorem dX12_isAtMost_144 : decode cX12_isAtMost 144 = .ok (.lmul, 1) := by decide +kernel
theorem dX12_isAtMost_145 : decode cX12_isAtMost 145 = .ok (.ladd, 1) := by decide +kernel
theorem dX12_isAtMost_146 : decode cX12_isAtMost 146 = .ok (.lload 12, 2) := by decide +kernel
theorem dX12_isAtMost_148 : decode cX12_isAtMost 148 = .ok (.lload_n 0, 1) := by decide +kernel
theorem dX12_isAtMost_149 : decode cX12_isAtMost 149 = .ok (.ldc2_w 46, 3) := by decide +kernel
theorem dX12_isAtMost_152 : decode cX12_isAtMost 152 = .ok (.land, 1) := by decide +kernel
theorem dX12_isAtMost_153 : decode cX12_isAtMost 153 = .ok (.lmul, 1) := by decide +kernel
theorem dX12_isAtMost_154 : decode cX12_isAtMost 154 = .ok (.ladd, 1) := by decide +kernel
theorem dX12_isAtMost_155 : decode cX12_isAtMost 155 = .ok (.lload 12, 2) := by decide +kernel
theorem dX12_isAtMost_157 : decode cX12_isAtMost 157 = .ok (.lload_n 0, 1) := by decide +kernel
theorem dX12_isAtMost_158 : decode cX12_isAtMost 158 = .ok (.bipush 32, 2) := by decide +kernel
theorem dX12_isAtMost_160 : decode cX12_isAtMost 160 = .ok (.lushr, 1) := by decide +kernel
theorem dX12_isAtMost_161 : decode cX12_isAtMost 161 = .ok (.lmul, 1) := by decide +kernel
theorem dX12_isAtMost_162 : decode cX12_isAtMost 162 = .ok (.bipush 32, 2) := by decide +kernel
theorem dX12_isAtMost_164 : decode cX12_isAtMost 164 = .ok (.lshl, 1) := by decide +kernel
theorem dX12_isAtMost_165 : decode cX12_isAtMost 165 = .ok (.ladd, 1) := by decide +kernel
theorem dX12_isAtMost_166 : decode cX12_isAtMost 166 = .ok (.lstore 26, 2) := by decide +kernel
theorem dX12_isAtMost_168 : decode cX12_isAtMost 168 = .ok (.lload 26, 2) := by decide +kernel
theorem dX12_isAtMost_170 : decode cX12_isAtMost 170 = .ok (.iload_n 3, 1) := by decide +kernel
theorem dX12_isAtMost_171 : decode cX12_isAtMost 171 = .ok (.i2l, 1) := by decide +kernel
theorem dX12_isAtMost_172 : decode cX12_isAtMost 172 = .ok (.bipush 32, 2) := by decide +kernel
theorem dX12_isAtMost_174 : decode cX12_isAtMost 174 = .ok (.lshl, 1) := by decide +kernel
theorem dX12_isAtMost_175 : decode cX12_isAtMost 175 = .ok (.lcmp, 1) := by decide +kernel
theorem dX12_isAtMost_176 : decode cX12_isAtMost 176 = .ok (.ifCond .lt 28, 3) := by decide +kernel
theorem dX12_isAtMost_179 : decode cX12_isAtMost 179 = .ok (.lload 26, 2) := by decide +kernel
theorem dX12_isAtMost_181 : decode cX12_isAtMost 181 = .ok (.iload_n 3, 1) := by decide +kernel
theorem dX12_isAtMost_182 : decode cX12_isAtMost 182 = .ok (.i2l, 1) := by decide +kernel
theorem dX12_isAtMost_183 : decode cX12_isAtMost 183 = .ok (.bipush 32, 2) := by decide +kernel
theorem dX12_isAtMost_185 : decode cX12_isAtMost 185 = .ok (.lshl, 1) := by decide +kernel
theorem dX12_isAtMost_186 : decode cX12_isAtMost 186 = .ok (.lcmp, 1) := by decide +kernel
theorem dX12_isAtMost_187 : decode cX12_isAtMost 187 = .ok (.ifCond .ne 21, 3) := by decide +kernel
theorem dX12_isAtMost_190 : decode cX12_isAtMost 190 = .ok (.lload 22, 2) := by decide +kernel
theorem dX12_isAtMost_192 : decode cX12_isAtMost 192 = .ok (.lconst 0, 1) := by decide +kernel
theorem dX12_isAtMost_193 : decode cX12_isAtMost 193 = .ok (.lcmp, 1) := by decide +kernel
theorem dX12_isAtMost_194 : decode cX12_isAtMost 194 = .ok (.ifCond .ne 14, 3) := by decide +kernel
theorem dX12_isAtMost_197 : decode cX12_isAtMost 197 = .ok (.lload 24, 2) := by decide +kernel
theorem dX12_isAtMost_199 : decode cX12_isAtMost 199 = .ok (.lconst 0, 1) := by decide +kernel
theorem dX12_isAtMost_200 : decode cX12_isAtMost 200 = .ok (.lcmp, 1) := by decide +kernel
theorem dX12_isAtMost_201 : decode cX12_isAtMost 201 = .ok (.ifCond .ne 7, 3) := by decide +kernel
theorem dX12_isAtMost_204 : decode cX12_isAtMost 204 = .ok (.iconst 1, 1) := by decide +kernel
theorem dX12_isAtMost_205 : decode cX12_isAtMost 205 = .ok (.goto 4, 3) := by decide +kernel
theorem dX12_isAtMost_208 : decode cX12_isAtMost 208 = .ok (.iconst 0, 1) := by decide +kernel
theorem dX12_isAtMost_209 : decode cX12_isAtMost 209 = .ok (.ireturn, 1) := by decide +kernel
theorem dX12_isPrime_0 : decode cX12_isPrime 0 = .ok (.iconst 2, 1) := by decide +kernel
theorem dX12_isPrime_1 : decode cX12_isPrime 1 = .ok (.istore_n 1, 1) := by decide +kernel
theorem dX12_isPrime_2 : decode cX12_isPrime 2 = .ok (.iload_n 1, 1) := by decide +kernel
theorem dX12_isPrime_3 : decode cX12_isPrime 3 = .ok (.iload_n 1, 1) := by decide +kernel
theorem dX12_isPrime_4 : decode cX12_isPrime 4 = .ok (.imul, 1) := by decide +kernel
theorem dX12_isPrime_5 : decode cX12_isPrime 5 = .ok (.iload_n 0, 1) := by decide +kernel
theorem dX12_isPrime_6 : decode cX12_isPrime 6 = .ok (.if_icmp .gt 17, 3) := by decide +kernel
theorem dX12_isPrime_9 : decode cX12_isPrime 9 = .ok (.iload_n 0, 1) := by decide +kernel
theorem dX12_isPrime_10 : decode cX12_isPrime 10 = .ok (.iload_n 1, 1) := by decide +kernel
theorem dX12_isPrime_11 : decode cX12_isPrime 11 = .ok (.irem, 1) := by decide +kernel
theorem dX12_isPrime_12 : decode cX12_isPrime 12 = .ok (.ifCond .ne 5, 3) := by decide +kernel
theorem dX12_isPrime_15 : decode cX12_isPrime 15 = .ok (.iconst 0, 1) := by decide +kernel
theorem dX12_isPrime_16 : decode cX12_isPrime 16 = .ok (.ireturn, 1) := by decide +kernel
theorem dX12_isPrime_17 : decode cX12_isPrime 17 = .ok (.iinc 1 1, 3) := by decide +kernel
theorem dX12_isPrime_20 : decode cX12_isPrime 20 = .ok (.goto (-18), 3) := by decide +kernel
theorem dX12_isPrime_23 : decode cX12_isPrime 23 = .ok (.iconst 1, 1) := by decide +kernel
theorem dX12_isPrime_24 : decode cX12_isPrime 24 = .ok (.ireturn, 1) := by decide +kernel
theorem dX12_rootOf_0 : decode cX12_rootOf 0 = .ok (.lconst 0, 1) := by decide +kernel
theorem dX12_rootOf_1 : decode cX12_rootOf 1 = .ok (.lstore_n 2, 1) := by decide +kernel
theorem dX12_rootOf_2 : decode cX12_rootOf 2 = .ok (.ldc2_w 34, 3) := by decide +kernel
theorem dX12_rootOf_5 : decode cX12_rootOf 5 = .ok (.lstore 4, 2) := by decide +kernel
theorem dX12_rootOf_7 : decode cX12_rootOf 7 = .ok (.lload 4, 2) := by decide +kernel
theorem dX12_rootOf_9 : decode cX12_rootOf 9 = .ok (.lconst 0, 1) := by decide +kernel
theorem dX12_rootOf_10 : decode cX12_rootOf 10 = .ok (.lcmp, 1) := by decide +kernel
theorem dX12_rootOf_11 : decode cX12_rootOf 11 = .ok (.ifCond .le 29, 3) := by decide +kernel
theorem dX12_rootOf_14 : decode cX12_rootOf 14 = .ok (.lload_n 2, 1) := by decide +kernel
theorem dX12_rootOf_15 : decode cX12_rootOf 15 = .ok (.lload 4, 2) := by decide +kernel
theorem dX12_rootOf_17 : decode cX12_rootOf 17 = .ok (.ladd, 1) := by decide +kernel
theorem dX12_rootOf_18 : decode cX12_rootOf 18 = .ok (.iload_n 1, 1) := by decide +kernel
theorem dX12_rootOf_19 : decode cX12_rootOf 19 = .ok (.iload_n 0, 1) := by decide +kernel
theorem dX12_rootOf_20 : decode cX12_rootOf 20 = .ok (.invokestatic 36, 3) := by decide +kernel
theorem dX12_rootOf_23 : decode cX12_rootOf 23 = .ok (.ifCond .eq 8, 3) := by decide +kernel
theorem dX12_rootOf_26 : decode cX12_rootOf 26 = .ok (.lload_n 2, 1) := by decide +kernel
theorem dX12_rootOf_27 : decode cX12_rootOf 27 = .ok (.lload 4, 2) := by decide +kernel
theorem dX12_rootOf_29 : decode cX12_rootOf 29 = .ok (.ladd, 1) := by decide +kernel
theorem dX12_rootOf_30 : decode cX12_rootOf 30 = .ok (.lstore_n 2, 1) := by decide +kernel
theorem dX12_rootOf_31 : decode cX12_rootOf 31 = .ok (.lload 4, 2) := by decide +kernel
theorem dX12_rootOf_33 : decode cX12_rootOf 33 = .ok (.iconst 1, 1) := by decide +kernel
theorem dX12_rootOf_34 : decode cX12_rootOf 34 = .ok (.lshr, 1) := by decide +kernel
theorem dX12_rootOf_35 : decode cX12_rootOf 35 = .ok (.lstore 4, 2) := by decide +kernel
theorem dX12_rootOf_37 : decode cX12_rootOf 37 = .ok (.goto (-30), 3) := by decide +kernel
theorem dX12_rootOf_40 : decode cX12_rootOf 40 = .ok (.lload_n 2, 1) := by decide +kernel
theorem dX12_rootOf_41 : decode cX12_rootOf 41 = .ok (.l2i, 1) := by decide +kernel
theorem dX12_rootOf_42 : decode cX12_rootOf 42 = .ok (.ireturn, 1) := by decide +kernel
theorem dX13_init_0 : decode cX13_init 0 = .ok (.aload_n 0, 1) := by decide +kernel
theorem dX13_init_1 : decode cX13_init 1 = .ok (.invokespecial 3, 3) := by decide +kernel
theorem dX13_init_4 : decode cX13_init 4 = .ok (.aload_n 0, 1) := by decide +kernel
theorem dX13_init_5 : decode cX13_init 5 = .ok (.bipush 40, 2) := by decide +kernel
theorem dX13_init_7 : decode cX13_init 7 = .ok (.newarray .int, 2) := by decide +kernel
theorem dX13_init_9 : decode cX13_init 9 = .ok (.putfield 9, 3) := by decide +kernel
theorem dX13_init_12 : decode cX13_init 12 = .ok (.aload_n 0, 1) := by decide +kernel
theorem dX13_init_13 : decode cX13_init 13 = .ok (.bipush 40, 2) := by decide +kernel
theorem dX13_init_15 : decode cX13_init 15 = .ok (.newarray .int, 2) := by decide +kernel
theorem dX13_init_17 : decode cX13_init 17 = .ok (.putfield 15, 3) := by decide +kernel
theorem dX13_init_20 : decode cX13_init 20 = .ok (.aload_n 0, 1) := by decide +kernel
theorem dX13_init_21 : decode cX13_init 21 = .ok (.bipush 40, 2) := by decide +kernel
theorem dX13_init_23 : decode cX13_init 23 = .ok (.newarray .int, 2) := by decide +kernel
theorem dX13_init_25 : decode cX13_init 25 = .ok (.putfield 18, 3) := by decide +kernel
theorem dX13_init_28 : decode cX13_init 28 = .ok (.aload_n 0, 1) := by decide +kernel
theorem dX13_init_29 : decode cX13_init 29 = .ok (.new 21, 3) := by decide +kernel
theorem dX13_init_32 : decode cX13_init 32 = .ok (.dup, 1) := by decide +kernel
theorem dX13_init_33 : decode cX13_init 33 = .ok (.iload_n 1, 1) := by decide +kernel
theorem dX13_init_34 : decode cX13_init 34 = .ok (.invokespecial 23, 3) := by decide +kernel
theorem dX13_init_37 : decode cX13_init 37 = .ok (.putfield 26, 3) := by decide +kernel
theorem dX13_init_40 : decode cX13_init 40 = .ok (.return_, 1) := by decide +kernel
theorem dX14_init_0 : decode cX14_init 0 = .ok (.aload_n 0, 1) := by decide +kernel
theorem dX14_init_1 : decode cX14_init 1 = .ok (.invokespecial 3, 3) := by decide +kernel
theorem dX14_init_4 : decode cX14_init 4 = .ok (.aload_n 0, 1) := by decide +kernel
theorem dX14_init_5 : decode cX14_init 5 = .ok (.iload_n 1, 1) := by decide +kernel
theorem dX14_init_6 : decode cX14_init 6 = .ok (.newarray .byte, 2) := by decide +kernel
theorem dX14_init_8 : decode cX14_init 8 = .ok (.putfield 9, 3) := by decide +kernel
theorem dX14_init_11 : decode cX14_init 11 = .ok (.return_, 1) := by decide +kernel
theorem kt_263 : Cond.methodLink RX14 3 objectInit ∈ tb := tb_at (i := 1207) (by decide +kernel) (by decide +kernel)
theorem kt_264 : Cond.arrayClass .byte ∈ tb := tb_at (i := 786) (by decide +kernel) (by decide +kernel)
theorem kt_265 : Cond.fieldLink RX14 9 "PostGateModel$Text" "b" "[B" ∈ tb := tb_at (i := 1208) (by decide +kernel) (by decide +kernel)
theorem kt_266 : Cond.methodLink RX13 3 objectInit ∈ tb := tb_at (i := 1224) (by decide +kernel) (by decide +kernel)
theorem kt_267 : Cond.fieldLink RX13 9 "PostGateModel$Tags" "from" "[I" ∈ tb := tb_at (i := 1229) (by decide +kernel) (by decide +kernel)
theorem kt_268 : Cond.fieldLink RX13 15 "PostGateModel$Tags" "equals" "[I" ∈ tb := tb_at (i := 1230) (by decide +kernel) (by decide +kernel)
theorem kt_269 : Cond.fieldLink RX13 18 "PostGateModel$Tags" "to" "[I" ∈ tb := tb_at (i := 1232) (by decide +kernel) (by decide +kernel)
theorem kt_270 : Cond.classLink RX13 21 RX14 ∈ tb := tb_at (i := 1225) (by decide +kernel) (by decide +kernel)
theorem kt_271 : Cond.instantiable RX14 2 ∈ tb := tb_at (i := 1203) (by decide +kernel) (by decide +kernel)
theorem kt_272 : Cond.initialized RX14 ∈ tb := tb_at (i := 94) (by decide +kernel) (by decide +kernel)
theorem kt_273 : Cond.code yX14_init cX14_init 2 none ∈ tb := tb_at (i := 1206) (by decide +kernel) (by decide +kernel)
theorem kt_274 : Cond.methodLink RX13 23 yX14_init ∈ tb := tb_at (i := 1226) (by decide +kernel) (by decide +kernel)
theorem kt_275 : Cond.instanceMethod yX14_init ∈ tb := tb_at (i := 1205) (by decide +kernel) (by decide +kernel)
theorem kt_276 : Cond.fieldLink RX13 26 "PostGateModel$Tags" "text" "LPostGateModel$Text;" ∈ tb := tb_at (i := 1227) (by decide +kernel) (by decide +kernel)
theorem kt_277 : Cond.constantLong RJ9 138 4294967295 ∈ tb := tb_at (i := 1265) (by decide +kernel) (by decide +kernel)
theorem kt_278 : Cond.code yJ9_multiplyHigh_f86c9 cJ9_multiplyHigh_f86c9 20 (some .long) ∈ tb := tb_at (i := 1264) (by decide +kernel) (by decide +kernel)
theorem kt_279 : Cond.initialized RJ9 ∈ tb := tb_at (i := 97) (by decide +kernel) (by decide +kernel)
theorem kt_280 : Cond.methodLink RX12 40 yJ9_multiplyHigh_f86c9 ∈ tb := tb_at (i := 1262) (by decide +kernel) (by decide +kernel)
theorem kt_281 : Cond.static yJ9_multiplyHigh_f86c9 ∈ tb := tb_at (i := 1263) (by decide +kernel) (by decide +kernel)
theorem kt_282 : Cond.constantLong RX12 46 4294967295 ∈ tb := tb_at (i := 1266) (by decide +kernel) (by decide +kernel)
theorem kt_283 : Cond.constantLong RX12 34 68719476736 ∈ tb := tb_at (i := 1258) (by decide +kernel) (by decide +kernel)
theorem kt_284 : Cond.code yX12_isAtMost cX12_isAtMost 28 (some .boolean) ∈ tb := tb_at (i := 1261) (by decide +kernel) (by decide +kernel)
theorem kt_285 : Cond.initialized RX12 ∈ tb := tb_at (i := 96) (by decide +kernel) (by decide +kernel)
theorem kt_286 : Cond.methodLink RX12 36 yX12_isAtMost ∈ tb := tb_at (i := 1259) (by decide +kernel) (by decide +kernel)
theorem kt_287 : Cond.static yX12_isAtMost ∈ tb := tb_at (i := 1260) (by decide +kernel) (by decide +kernel)
set_option maxHeartbeats 4000000 in
set_option maxRecDepth 100000 in
theorem c_X14_init (l : Launch) (dC : Nat → ClassId) (dI : Nat → Nat → Nat) (sz : Nat) (h0 : Nat) (n : Nat) (hn : n < 10000) : Met l yX14_init (.code yX14_init cX14_init 2 none :: tb) ({ frames := 1, cells := 1, slots := n, locals := 12 }) (va_Pc [.ref h0, .int (nI n)] (PW (dC, dI) sz [(h0, .inr (14, [.null, .int 0]))] [])) (va_Qv (fun _ : Unit => True) (fun _ T9 => ∃ (q : Nat), QW (dC, dI) (va_A [(h0, .inr (14, [.null, .int 0]))] sz) [(h0, .inr (14, [.ref q, .int 0]))] [] T9) (va_A [(h0, .inr (14, [.null, .int 0]))] sz)) 1 n (va_A [(h0, .inr (14, [.null, .int 0]))] sz) := by
  refine Met.ofW (cc := cX14_init) (maxL := 2) (ret := none) (by decide) rfl ?_
  intro p e s m args below meth c s₁ B hml hv
  obtain ⟨rfl, hsz, hP, hK, hD0, hE⟩ := hv
  have hx := B.exec
  have hb := B.bytes
  have hr := B.returns
  have hts : ∀ w ∈ tb, w.before _ s = true := fun w h => atoms_spec (ws := .code yX14_init cX14_init 2 none :: tb) B.pre w (List.mem_cons_of_mem _ h)
  have hown : s.vm.findClass RX14 = some m.cls := findClass_of_methodNamed B.named
  have hlocks := B.notSynchronized
  have hin : meth.name = "<init>" := (name_of_methodNamed B.named B.method).1
  subst hsz
  have hD := hD0.self (sz := s.heap.size)
  generalize hAe : va_A [(h0, .inr (14, [.null, .int 0]))] s.heap.size = A at hD ⊢
  have hA : ∀ q : Nat, s.heap.size ≤ q → A q := fun q h => by rw [← hAe]; exact Or.inr h
  have hS : va_S A s.heap s.heap [] := va_S.rf
  have hP : va_P (dC, dI) vwCl [(h0, .inr (14, [.null, .int 0]))] s.heap := hP
  have hl := lv_entry ([.ref h0, .int (nI n)]) (n := 2) (Nat.le_of_ble_eq_true rfl)
  rw [lg_entry_eq]
  generalize (lg_sl ([.ref h0, .int (nI n)]) ++ List.replicate (2 - (lg_sl ([.ref h0, .int (nI n)])).length) Slot.unset).toArray = ls at hl ⊢
  have hl : lv_has ls 2 [(0, .ref h0), (1, .int (nI n))] := hl
  refine lv_aload_n hx hb dX14_init_0 rfl (lv_at hl 0 rfl) ?_
  refine W.objInit hx hb hown (hts _ kt_263) (hts _ kt_1) (hts _ kt_2) rfl (by rw [hml]; exact hl.1) rfl dX14_init_1 (Nat.le_of_ble_eq_true rfl) (Nat.le_of_ble_eq_true rfl) ?_
  refine W.eq (g2 := F0 m 4 ls []) rfl ?_
  refine lv_aload_n hx hb dX14_init_4 rfl (lv_at hl 0 rfl) ?_
  refine lv_iload_n hx hb dX14_init_5 rfl (lv_at hl 1 rfl) ?_
  refine va_newa (atype := .byte) (ty := .byte) (a0 := (n, .inl (fun _ => 0))) (N' := n) hx hb (hts _ kt_264) rfl hK hP hD hS hA (fun _ => rfl) (nI_pos (by omega)) (nI_clamp (by omega)) (by show _ * 1 ≤ _; omega) (by show _ + 1 ≤ 1; omega) (by show _ + n ≤ n; omega) dX14_init_6 (fun q_1 cA_2 H hK hP hD hS => ?_)
  have hK : va_K (dC, dI) vwCl [(cA_2, .byte)] s := hK
  have hP : va_P (dC, dI) vwCl [(h0, .inr (14, [.null, .int 0])), (q_1, .inl (cA_2, n, .inl (fun _ => 0)))] H := hP
  have hD : va_D A [(h0, .inr (14, [.null, .int 0])), (q_1, .inl (cA_2, n, .inl (fun _ => 0)))] := hD
  refine va_putF (D := (dC, dI)) (ci := 14) (v := .ref q_1) (ty := .array .byte) (C := RX14) (T := TX14) (N := 2) hx hb hts it_14 tyX14 tyX14_ok nmX14 hown hK hP hD hS 0 rfl rfl 0 (by decide) (hts _ kt_265) (fun _ h9 => h9) rfl hin rfl (by decide +kernel) rfl rfl (Nat.le_of_ble_eq_true rfl) dX14_init_8 (fun H locs hP hD hS => ?_)
  have hP : va_P (dC, dI) vwCl [(h0, .inr (14, [.ref q_1, .int 0])), (q_1, .inl (cA_2, n, .inl (fun _ => 0)))] H := hP
  have hD : va_D A [(h0, .inr (14, [.ref q_1, .int 0])), (q_1, .inl (cA_2, n, .inl (fun _ => 0)))] := hD
  have hP9 := hP.sub (ws' := [(h0, .inr (14, [.ref q_1, .int 0]))]) [0] rfl
  have hD9 := hD.sub (ws' := [(h0, .inr (14, [.ref q_1, .int 0]))]) [0] (by decide) rfl
  have hK9 := hK.sub (tys' := []) [] rfl
  refine W.widen (k := 1) (n := n) (by omega) (by omega) ?_
  exact W.vret hx hb hr (fun t ht hW => ⟨⟨(), rfl, trivial, ⟨q_1, QW.mk ht hW hP9 hK9 hD9⟩⟩, hS.F ht⟩) hS.2.2 dX14_init_11
set_option maxHeartbeats 4000000 in
set_option maxRecDepth 100000 in
theorem c_X13_init (l : Launch) (dC : Nat → ClassId) (dI : Nat → Nat → Nat) (sz : Nat) (h0 : Nat) (n : Nat) (hn : n < 10000) : Met l yX13_init (.code yX13_init cX13_init 2 none :: tb) ({ frames := 2, cells := 5, slots := n + 122, locals := 33 }) (va_Pc [.ref h0, .int (nI n)] (PW (dC, dI) sz [(h0, .inr (13, [.null, .null, .null, .null, .int 0]))] [])) (va_Qv (fun _ : Unit => True) (fun _ T9 => QW (dC, dI) (va_A [(h0, .inr (13, [.null, .null, .null, .null, .int 0]))] sz) [] [] T9) (va_A [(h0, .inr (13, [.null, .null, .null, .null, .int 0]))] sz)) 5 (n + 122) (va_A [(h0, .inr (13, [.null, .null, .null, .null, .int 0]))] sz) := by
  refine Met.ofW (cc := cX13_init) (maxL := 2) (ret := none) (by decide) rfl ?_
  intro p e s m args below meth c s₁ B hml hv
  obtain ⟨rfl, hsz, hP, hK, hD0, hE⟩ := hv
  have hx := B.exec
  have hb := B.bytes
  have hr := B.returns
  have hts : ∀ w ∈ tb, w.before _ s = true := fun w h => atoms_spec (ws := .code yX13_init cX13_init 2 none :: tb) B.pre w (List.mem_cons_of_mem _ h)
  have hown : s.vm.findClass RX13 = some m.cls := findClass_of_methodNamed B.named
  have hlocks := B.notSynchronized
  have hin : meth.name = "<init>" := (name_of_methodNamed B.named B.method).1
  subst hsz
  have hD := hD0.self (sz := s.heap.size)
  generalize hAe : va_A [(h0, .inr (13, [.null, .null, .null, .null, .int 0]))] s.heap.size = A at hD ⊢
  have hA : ∀ q : Nat, s.heap.size ≤ q → A q := fun q h => by rw [← hAe]; exact Or.inr h
  have hS : va_S A s.heap s.heap [] := va_S.rf
  have hP : va_P (dC, dI) vwCl [(h0, .inr (13, [.null, .null, .null, .null, .int 0]))] s.heap := hP
  have hl := lv_entry ([.ref h0, .int (nI n)]) (n := 2) (Nat.le_of_ble_eq_true rfl)
  rw [lg_entry_eq]
  generalize (lg_sl ([.ref h0, .int (nI n)]) ++ List.replicate (2 - (lg_sl ([.ref h0, .int (nI n)])).length) Slot.unset).toArray = ls at hl ⊢
  have hl : lv_has ls 2 [(0, .ref h0), (1, .int (nI n))] := hl
  refine lv_aload_n hx hb dX13_init_0 rfl (lv_at hl 0 rfl) ?_
  refine W.objInit hx hb hown (hts _ kt_266) (hts _ kt_1) (hts _ kt_2) rfl (by rw [hml]; exact hl.1) rfl dX13_init_1 (Nat.le_of_ble_eq_true rfl) (Nat.le_of_ble_eq_true rfl) ?_
  refine W.eq (g2 := F0 m 4 ls []) rfl ?_
  refine lv_aload_n hx hb dX13_init_4 rfl (lv_at hl 0 rfl) ?_
  refine lv_bipush (v := 40) hx hb dX13_init_5 (by decide) ?_
  refine va_newa (atype := .int) (ty := .int) (a0 := (40, .inl (fun _ => 0))) (N' := 40) hx hb (hts _ kt_5) rfl hK hP hD hS hA (fun _ => rfl) (by decide) (by decide) (by show _ * 4 ≤ _; omega) (by show _ + 1 ≤ 5; omega) (by show _ + 40 ≤ n + 122; omega) dX13_init_7 (fun q_1 cA_2 H hK hP hD hS => ?_)
  have hK : va_K (dC, dI) vwCl [(cA_2, .int)] s := hK
  have hP : va_P (dC, dI) vwCl [(h0, .inr (13, [.null, .null, .null, .null, .int 0])), (q_1, .inl (cA_2, 40, .inl (fun _ => 0)))] H := hP
  have hD : va_D A [(h0, .inr (13, [.null, .null, .null, .null, .int 0])), (q_1, .inl (cA_2, 40, .inl (fun _ => 0)))] := hD
  refine va_putF (D := (dC, dI)) (ci := 13) (v := .ref q_1) (ty := .array .int) (C := RX13) (T := TX13) (N := 5) hx hb hts it_13 tyX13 tyX13_ok nmX13 hown hK hP hD hS 0 rfl rfl 1 (by decide) (hts _ kt_267) (fun _ h9 => h9) rfl hin rfl (by decide +kernel) rfl rfl (Nat.le_of_ble_eq_true rfl) dX13_init_9 (fun H locs hP hD hS => ?_)
  have hP : va_P (dC, dI) vwCl [(h0, .inr (13, [.null, .ref q_1, .null, .null, .int 0])), (q_1, .inl (cA_2, 40, .inl (fun _ => 0)))] H := hP
  have hD : va_D A [(h0, .inr (13, [.null, .ref q_1, .null, .null, .int 0])), (q_1, .inl (cA_2, 40, .inl (fun _ => 0)))] := hD
  refine lv_aload_n hx hb dX13_init_12 rfl (lv_at hl 0 rfl) ?_
  refine lv_bipush (v := 40) hx hb dX13_init_13 (by decide) ?_
  refine va_newa (atype := .int) (ty := .int) (a0 := (40, .inl (fun _ => 0))) (N' := 40) hx hb (hts _ kt_5) rfl hK hP hD hS hA (fun _ => rfl) (by decide) (by decide) (by show _ * 4 ≤ _; omega) (by show _ + 1 ≤ 5; omega) (by show _ + 40 ≤ n + 122; omega) dX13_init_15 (fun q_3 cA_4 H hK hP hD hS => ?_)
  have hK : va_K (dC, dI) vwCl [(cA_2, .int), (cA_4, .int)] s := hK
  have hP : va_P (dC, dI) vwCl [(h0, .inr (13, [.null, .ref q_1, .null, .null, .int 0])), (q_1, .inl (cA_2, 40, .inl (fun _ => 0))), (q_3, .inl (cA_4, 40, .inl (fun _ => 0)))] H := hP
  have hD : va_D A [(h0, .inr (13, [.null, .ref q_1, .null, .null, .int 0])), (q_1, .inl (cA_2, 40, .inl (fun _ => 0))), (q_3, .inl (cA_4, 40, .inl (fun _ => 0)))] := hD
  refine va_putF (D := (dC, dI)) (ci := 13) (v := .ref q_3) (ty := .array .int) (C := RX13) (T := TX13) (N := 5) hx hb hts it_13 tyX13 tyX13_ok nmX13 hown hK hP hD hS 0 rfl rfl 2 (by decide) (hts _ kt_268) (fun _ h9 => h9) rfl hin rfl (by decide +kernel) rfl rfl (Nat.le_of_ble_eq_true rfl) dX13_init_17 (fun H locs hP hD hS => ?_)
  have hP : va_P (dC, dI) vwCl [(h0, .inr (13, [.null, .ref q_1, .ref q_3, .null, .int 0])), (q_1, .inl (cA_2, 40, .inl (fun _ => 0))), (q_3, .inl (cA_4, 40, .inl (fun _ => 0)))] H := hP
  have hD : va_D A [(h0, .inr (13, [.null, .ref q_1, .ref q_3, .null, .int 0])), (q_1, .inl (cA_2, 40, .inl (fun _ => 0))), (q_3, .inl (cA_4, 40, .inl (fun _ => 0)))] := hD
  refine lv_aload_n hx hb dX13_init_20 rfl (lv_at hl 0 rfl) ?_
  refine lv_bipush (v := 40) hx hb dX13_init_21 (by decide) ?_
  refine va_newa (atype := .int) (ty := .int) (a0 := (40, .inl (fun _ => 0))) (N' := 40) hx hb (hts _ kt_5) rfl hK hP hD hS hA (fun _ => rfl) (by decide) (by decide) (by show _ * 4 ≤ _; omega) (by show _ + 1 ≤ 5; omega) (by show _ + 40 ≤ n + 122; omega) dX13_init_23 (fun q_5 cA_6 H hK hP hD hS => ?_)
  have hK : va_K (dC, dI) vwCl [(cA_2, .int), (cA_4, .int), (cA_6, .int)] s := hK
  have hP : va_P (dC, dI) vwCl [(h0, .inr (13, [.null, .ref q_1, .ref q_3, .null, .int 0])), (q_1, .inl (cA_2, 40, .inl (fun _ => 0))), (q_3, .inl (cA_4, 40, .inl (fun _ => 0))), (q_5, .inl (cA_6, 40, .inl (fun _ => 0)))] H := hP
  have hD : va_D A [(h0, .inr (13, [.null, .ref q_1, .ref q_3, .null, .int 0])), (q_1, .inl (cA_2, 40, .inl (fun _ => 0))), (q_3, .inl (cA_4, 40, .inl (fun _ => 0))), (q_5, .inl (cA_6, 40, .inl (fun _ => 0)))] := hD
  refine va_putF (D := (dC, dI)) (ci := 13) (v := .ref q_5) (ty := .array .int) (C := RX13) (T := TX13) (N := 5) hx hb hts it_13 tyX13 tyX13_ok nmX13 hown hK hP hD hS 0 rfl rfl 3 (by decide) (hts _ kt_269) (fun _ h9 => h9) rfl hin rfl (by decide +kernel) rfl rfl (Nat.le_of_ble_eq_true rfl) dX13_init_25 (fun H locs hP hD hS => ?_)
  have hP : va_P (dC, dI) vwCl [(h0, .inr (13, [.null, .ref q_1, .ref q_3, .ref q_5, .int 0])), (q_1, .inl (cA_2, 40, .inl (fun _ => 0))), (q_3, .inl (cA_4, 40, .inl (fun _ => 0))), (q_5, .inl (cA_6, 40, .inl (fun _ => 0)))] H := hP
  have hD : va_D A [(h0, .inr (13, [.null, .ref q_1, .ref q_3, .ref q_5, .int 0])), (q_1, .inl (cA_2, 40, .inl (fun _ => 0))), (q_3, .inl (cA_4, 40, .inl (fun _ => 0))), (q_5, .inl (cA_6, 40, .inl (fun _ => 0)))] := hD
  refine lv_aload_n hx hb dX13_init_28 rfl (lv_at hl 0 rfl) ?_
  refine va_new (ci := 14) (fs := [.null, .int 0]) (C := RX14) (T := TX14) (N := 2) hx hb hts it_14 tyX14 tyX14_ok hown (hts _ kt_270) (hts _ kt_271) (hts _ kt_272) hK hP hD hS hA rfl df_14 (by show _ + 1 ≤ 5; omega) (by show _ + 2 ≤ n + 122; omega) dX13_init_29 (fun q_7 H hP hD hS => ?_)
  have hP : va_P (dC, dI) vwCl [(h0, .inr (13, [.null, .ref q_1, .ref q_3, .ref q_5, .int 0])), (q_1, .inl (cA_2, 40, .inl (fun _ => 0))), (q_3, .inl (cA_4, 40, .inl (fun _ => 0))), (q_5, .inl (cA_6, 40, .inl (fun _ => 0))), (q_7, .inr (14, [.null, .int 0]))] H := hP
  have hD : va_D A [(h0, .inr (13, [.null, .ref q_1, .ref q_3, .ref q_5, .int 0])), (q_1, .inl (cA_2, 40, .inl (fun _ => 0))), (q_3, .inl (cA_4, 40, .inl (fun _ => 0))), (q_5, .inl (cA_6, 40, .inl (fun _ => 0))), (q_7, .inr (14, [.null, .int 0]))] := hD
  refine lv_dup hx hb dX13_init_32 rfl ?_
  refine lv_iload_n hx hb dX13_init_33 rfl (lv_at hl 1 rfl) ?_
  have hPc := hP.sub (ws' := [(q_7, .inr (14, [.null, .int 0]))]) [4] rfl
  have hDc := hD.sub (ws' := [(q_7, .inr (14, [.null, .int 0]))]) [4] (by decide) rfl
  have hKc := hK.sub (tys' := []) [] rfl
  have hFc := va_free (wc := [(q_7, .inr (14, [.null, .int 0]))]) hD hS hA [4] rfl
  refine va_callv (va_runI (As := [.int (nI n)]) (rest := [.ref q_7, .ref h0]) ⟨hx, hb, hml, hown, hts⟩ (c_X14_init l dC dI H.size q_7 n (by omega)) ⟨callB_of 1 hts (gi kt_273) rfl rfl rfl (hts _ kt_272) (hts _ kt_274) (by decide +kernel) ⟨Nat.le_of_ble_eq_true rfl, Nat.le_of_ble_eq_true rfl⟩, rfl, (hts _ kt_275)⟩ ⟨fun a U g mk q => ⟨q.1, PW.calling q.2⟩, fun U hU hW => ⟨rfl, PW.mk hU hW hPc hKc hDc hE⟩⟩ rfl rfl hl.1 rfl (lv_room (Nat.le_of_ble_eq_true rfl)) dX13_init_34 ⟨by show _ + 1 ≤ 5; omega, by show _ + n ≤ n + 122; omega⟩) hS (fun q _ h => hFc q h) hFc (fun u t H1 locs ht hvm hw hB hz1 hk1 hS => ?_)
  obtain ⟨q_9, hB1⟩ := hB
  obtain ⟨hP, hD, hK⟩ := QW.join (wr := [(h0, .inr (13, [.null, .ref q_1, .ref q_3, .ref q_5, .int 0])), (q_1, .inl (cA_2, 40, .inl (fun _ => 0))), (q_3, .inl (cA_4, 40, .inl (fun _ => 0))), (q_5, .inl (cA_6, 40, .inl (fun _ => 0)))]) hP hD hK [4] [0, 1, 2, 3] rfl rfl (by decide) (by decide) hk1 hFc ht hvm hB1
  generalize H1 = H at hP hS ⊢
  have hK : va_K (dC, dI) vwCl [(cA_2, .int), (cA_4, .int), (cA_6, .int)] s := hK.sub [0, 1, 2] rfl
  have hP : va_P (dC, dI) vwCl [(h0, .inr (13, [.null, .ref q_1, .ref q_3, .ref q_5, .int 0])), (q_1, .inl (cA_2, 40, .inl (fun _ => 0))), (q_3, .inl (cA_4, 40, .inl (fun _ => 0))), (q_5, .inl (cA_6, 40, .inl (fun _ => 0))), (q_7, .inr (14, [.ref q_9, .int 0]))] H := hP
  have hD : va_D A [(h0, .inr (13, [.null, .ref q_1, .ref q_3, .ref q_5, .int 0])), (q_1, .inl (cA_2, 40, .inl (fun _ => 0))), (q_3, .inl (cA_4, 40, .inl (fun _ => 0))), (q_5, .inl (cA_6, 40, .inl (fun _ => 0))), (q_7, .inr (14, [.ref q_9, .int 0]))] := hD
  refine va_putF (D := (dC, dI)) (ci := 13) (v := .ref q_7) (ty := .object "PostGateModel$Text") (C := RX13) (T := TX13) (N := 5) hx hb hts it_13 tyX13 tyX13_ok nmX13 hown hK hP hD hS 0 rfl rfl 0 (by decide) (hts _ kt_276) (fun _ h9 => h9) rfl hin rfl (by decide +kernel) rfl rfl (Nat.le_of_ble_eq_true rfl) dX13_init_37 (fun H locs hP hD hS => ?_)
  have hP : va_P (dC, dI) vwCl [(h0, .inr (13, [.ref q_7, .ref q_1, .ref q_3, .ref q_5, .int 0])), (q_1, .inl (cA_2, 40, .inl (fun _ => 0))), (q_3, .inl (cA_4, 40, .inl (fun _ => 0))), (q_5, .inl (cA_6, 40, .inl (fun _ => 0))), (q_7, .inr (14, [.ref q_9, .int 0]))] H := hP
  have hD : va_D A [(h0, .inr (13, [.ref q_7, .ref q_1, .ref q_3, .ref q_5, .int 0])), (q_1, .inl (cA_2, 40, .inl (fun _ => 0))), (q_3, .inl (cA_4, 40, .inl (fun _ => 0))), (q_5, .inl (cA_6, 40, .inl (fun _ => 0))), (q_7, .inr (14, [.ref q_9, .int 0]))] := hD
  have hP9 := hP.sub (ws' := []) [] rfl
  have hD9 := hD.sub (ws' := []) [] (by decide) rfl
  have hK9 := hK.sub (tys' := []) [] rfl
  refine W.widen (k := 5) (n := n + 122) (by omega) (by omega) ?_
  exact W.vret hx hb hr (fun t ht hW => ⟨⟨(), rfl, trivial, QW.mk ht hW hP9 hK9 hD9⟩, hS.F ht⟩) hS.2.2 dX13_init_40
/-- the entry of a method of a class of which some methods are run by the machine itself, but not this one -/
theorem mt_ofWF {l : Launch} {y : MethodName} {ws ws' : List Cond} {rm : Room} {Pc : Array Value → State → Prop} {Qc : Array Value → State → Outcome → State → Prop} {mc ms : Nat} {free : Addr → Prop} {cc : ByteArray} {maxL : Nat} {ret : Option FieldType}
    (hy : plainFor y = true) (hw : ws = Cond.code y cc maxL ret :: ws')
    (body : ∀ p e s m args below meth c s₁, BodyLoose p l y (headSpec ws rm) cc maxL ret e s m args below meth c s₁ → c.maxLocals = maxL → Pc args s →
      W p l e (headSpec ws rm).room s m args below meth c s.heap [] 0 0 (MQ below Qc args s mc ms free) (entryFrame m args maxL)) : Met l y ws rm Pc Qc mc ms free := by
  refine MetFree.of_bodySF (code := cc) (maxLocals := maxL) (ret := ret) hy ?_ ?_
  · intro args s m h hn
    obtain ⟨meth, c, h1, h2, h3, h4, h5, h6, -, -⟩ := Cond.code_spec hn (atoms_spec (ws := ws) h _ (by rw [hw]; exact List.mem_cons_self))
    exact ⟨meth, c, h1, h2, h3, h4, h5, h6⟩
  · intro p e s m args below meth c s₁ B hml hP _
    have hh0 : s₁.heap = s.heap := by rw [B.state]; rfl
    obtain ⟨t, a1, o, b1, b2, b3⟩ := body p e s m args below meth c s₁ B hml hP s₁ hh0 (Stand.of_body B)
    exact ⟨t, o, a1, b1, b2, ⟨b3.1, b3.2⟩⟩
set_option maxHeartbeats 4000000 in
set_option maxRecDepth 100000 in
theorem c_J9_multiplyHigh_f86c9 (l : Launch) (dC : Nat → ClassId) (dI : Nat → Nat → Nat) (sz : Nat) (x1 : Int64) (x2 : Int64) : Met l yJ9_multiplyHigh_f86c9 (.code yJ9_multiplyHigh_f86c9 cJ9_multiplyHigh_f86c9 20 (some .long) :: tb) ({ frames := 0, cells := 0, slots := 0, locals := 0 }) (va_Pc [.long x1, .long x2] (PW (dC, dI) sz [] [])) (va_Ql (fun (r : Int64) (_ : Unit) => True) (fun _ T9 => QW (dC, dI) (va_A [] sz) [] [] T9) (va_A [] sz)) 0 0 (va_A [] sz) := by
  refine mt_ofWF (cc := cJ9_multiplyHigh_f86c9) (maxL := 20) (ret := (some .long)) (by decide +kernel) rfl ?_
  intro p e s m args below meth c s₁ B hml hv
  obtain ⟨rfl, hsz, hP, hK, hD0, hE⟩ := hv
  have hx := B.exec
  have hb := B.bytes
  have hr := B.returns
  have hts : ∀ w ∈ tb, w.before _ s = true := fun w h => atoms_spec (ws := .code yJ9_multiplyHigh_f86c9 cJ9_multiplyHigh_f86c9 20 (some .long) :: tb) B.pre w (List.mem_cons_of_mem _ h)
  have hown : s.vm.findClass RJ9 = some m.cls := findClass_of_methodNamed B.named
  have hlocks := B.notSynchronized
  subst hsz
  have hD := hD0.self (sz := s.heap.size)
  generalize hAe : va_A [] s.heap.size = A at hD ⊢
  have hA : ∀ q : Nat, s.heap.size ≤ q → A q := fun q h => by rw [← hAe]; exact Or.inr h
  have hS : va_S A s.heap s.heap [] := va_S.rf
  have hP : va_P (dC, dI) vwCl [] s.heap := hP
  have hl := lv_entry ([.long x1, .long x2]) (n := 20) (Nat.le_of_ble_eq_true rfl)
  rw [lg_entry_eq]
  generalize (lg_sl ([.long x1, .long x2]) ++ List.replicate (20 - (lg_sl ([.long x1, .long x2])).length) Slot.unset).toArray = ls at hl ⊢
  have hl : lv_has ls 20 [(0, .long x1), (2, .long x2)] := hl
  refine lv_lload_n hx hb dJ9_multiplyHigh_f86c9_0 rfl (lv_at hl 0 rfl) ?_
  refine lv_bipush (v := 32) hx hb dJ9_multiplyHigh_f86c9_1 (by decide) ?_
  refine lv_lshr hx hb dJ9_multiplyHigh_f86c9_3 rfl ?_
  refine lv_topl (fun x_2 _ => ?_)
  refine lv_lstore (lv' := [(4, .long x_2), (0, .long x1), (2, .long x2)]) hx hb dJ9_multiplyHigh_f86c9_4 hl (by decide) rfl (fun ls hl => ?_)
  refine lv_lload_n hx hb dJ9_multiplyHigh_f86c9_6 rfl (lv_at hl 1 rfl) ?_
  refine lv_ldc2 (v := 4294967295) hx hb hown (hts _ kt_277) dJ9_multiplyHigh_f86c9_7 ?_
  refine lv_land hx hb dJ9_multiplyHigh_f86c9_10 ?_
  refine lv_topl (fun x_3 _ => ?_)
  refine lv_lstore (lv' := [(6, .long x_3), (4, .long x_2), (0, .long x1), (2, .long x2)]) hx hb dJ9_multiplyHigh_f86c9_11 hl (by decide) rfl (fun ls hl => ?_)
  refine lv_lload_n hx hb dJ9_multiplyHigh_f86c9_13 rfl (lv_at hl 3 rfl) ?_
  refine lv_bipush (v := 32) hx hb dJ9_multiplyHigh_f86c9_14 (by decide) ?_
  refine lv_lshr hx hb dJ9_multiplyHigh_f86c9_16 rfl ?_
  refine lv_topl (fun x_5 _ => ?_)
  refine lv_lstore (lv' := [(8, .long x_5), (6, .long x_3), (4, .long x_2), (0, .long x1), (2, .long x2)]) hx hb dJ9_multiplyHigh_f86c9_17 hl (by decide) rfl (fun ls hl => ?_)
  refine lv_lload_n hx hb dJ9_multiplyHigh_f86c9_19 rfl (lv_at hl 4 rfl) ?_
  refine lv_ldc2 (v := 4294967295) hx hb hown (hts _ kt_277) dJ9_multiplyHigh_f86c9_20 ?_
  refine lv_land hx hb dJ9_multiplyHigh_f86c9_23 ?_
  refine lv_topl (fun x_6 _ => ?_)
  refine lv_lstore (lv' := [(10, .long x_6), (8, .long x_5), (6, .long x_3), (4, .long x_2), (0, .long x1), (2, .long x2)]) hx hb dJ9_multiplyHigh_f86c9_24 hl (by decide) rfl (fun ls hl => ?_)
  refine lv_lload hx hb dJ9_multiplyHigh_f86c9_26 (lv_at hl 2 rfl) ?_
  refine lv_lload hx hb dJ9_multiplyHigh_f86c9_28 (lv_at hl 0 rfl) ?_
  refine lv_lmul hx hb dJ9_multiplyHigh_f86c9_30 ?_
  refine lv_topl (fun x_7 _ => ?_)
  refine lv_lstore (lv' := [(12, .long x_7), (10, .long x_6), (8, .long x_5), (6, .long x_3), (4, .long x_2), (0, .long x1), (2, .long x2)]) hx hb dJ9_multiplyHigh_f86c9_31 hl (by decide) rfl (fun ls hl => ?_)
  refine lv_lload hx hb dJ9_multiplyHigh_f86c9_33 (lv_at hl 4 rfl) ?_
  refine lv_lload hx hb dJ9_multiplyHigh_f86c9_35 (lv_at hl 1 rfl) ?_
  refine lv_lmul hx hb dJ9_multiplyHigh_f86c9_37 ?_
  refine lv_topl (fun x_8 _ => ?_)
  refine lv_lload hx hb dJ9_multiplyHigh_f86c9_38 (lv_at hl 0 rfl) ?_
  refine lv_bipush (v := 32) hx hb dJ9_multiplyHigh_f86c9_40 (by decide) ?_
  refine lv_lushr hx hb dJ9_multiplyHigh_f86c9_42 rfl ?_
  refine lv_topl (fun x_10 _ => ?_)
  refine lv_ladd hx hb dJ9_multiplyHigh_f86c9_43 ?_
  refine lv_topl (fun x_11 _ => ?_)
  refine lv_lstore (lv' := [(14, .long x_11), (12, .long x_7), (10, .long x_6), (8, .long x_5), (6, .long x_3), (4, .long x_2), (0, .long x1), (2, .long x2)]) hx hb dJ9_multiplyHigh_f86c9_44 hl (by decide) rfl (fun ls hl => ?_)
  refine lv_lload hx hb dJ9_multiplyHigh_f86c9_46 (lv_at hl 0 rfl) ?_
  refine lv_ldc2 (v := 4294967295) hx hb hown (hts _ kt_277) dJ9_multiplyHigh_f86c9_48 ?_
  refine lv_land hx hb dJ9_multiplyHigh_f86c9_51 ?_
  refine lv_topl (fun x_12 _ => ?_)
  refine lv_lstore (lv' := [(16, .long x_12), (14, .long x_11), (12, .long x_7), (10, .long x_6), (8, .long x_5), (6, .long x_3), (4, .long x_2), (0, .long x1), (2, .long x2)]) hx hb dJ9_multiplyHigh_f86c9_52 hl (by decide) rfl (fun ls hl => ?_)
  refine lv_lload hx hb dJ9_multiplyHigh_f86c9_54 (lv_at hl 1 rfl) ?_
  refine lv_bipush (v := 32) hx hb dJ9_multiplyHigh_f86c9_56 (by decide) ?_
  refine lv_lshr hx hb dJ9_multiplyHigh_f86c9_58 rfl ?_
  refine lv_topl (fun x_14 _ => ?_)
  refine lv_lstore (lv' := [(18, .long x_14), (16, .long x_12), (14, .long x_11), (12, .long x_7), (10, .long x_6), (8, .long x_5), (6, .long x_3), (4, .long x_2), (0, .long x1), (2, .long x2)]) hx hb dJ9_multiplyHigh_f86c9_59 hl (by decide) rfl (fun ls hl => ?_)
  refine lv_lload hx hb dJ9_multiplyHigh_f86c9_61 (lv_at hl 1 rfl) ?_
  refine lv_lload hx hb dJ9_multiplyHigh_f86c9_63 (lv_at hl 6 rfl) ?_
  refine lv_lload hx hb dJ9_multiplyHigh_f86c9_65 (lv_at hl 5 rfl) ?_
  refine lv_lmul hx hb dJ9_multiplyHigh_f86c9_67 ?_
  refine lv_topl (fun x_15 _ => ?_)
  refine lv_ladd hx hb dJ9_multiplyHigh_f86c9_68 ?_
  refine lv_topl (fun x_16 _ => ?_)
  refine lv_lstore (lv' := [(16, .long x_16), (18, .long x_14), (14, .long x_11), (12, .long x_7), (10, .long x_6), (8, .long x_5), (6, .long x_3), (4, .long x_2), (0, .long x1), (2, .long x2)]) hx hb dJ9_multiplyHigh_f86c9_69 hl (by decide) rfl (fun ls hl => ?_)
  refine lv_lload hx hb dJ9_multiplyHigh_f86c9_71 (lv_at hl 7 rfl) ?_
  refine lv_lload hx hb dJ9_multiplyHigh_f86c9_73 (lv_at hl 5 rfl) ?_
  refine lv_lmul hx hb dJ9_multiplyHigh_f86c9_75 ?_
  refine lv_topl (fun x_17 _ => ?_)
  refine lv_lload hx hb dJ9_multiplyHigh_f86c9_76 (lv_at hl 1 rfl) ?_
  refine lv_ladd hx hb dJ9_multiplyHigh_f86c9_78 ?_
  refine lv_topl (fun x_18 _ => ?_)
  refine lv_lload hx hb dJ9_multiplyHigh_f86c9_79 (lv_at hl 0 rfl) ?_
  refine lv_bipush (v := 32) hx hb dJ9_multiplyHigh_f86c9_81 (by decide) ?_
  refine lv_lshr hx hb dJ9_multiplyHigh_f86c9_83 rfl ?_
  refine lv_topl (fun x_20 _ => ?_)
  refine lv_ladd hx hb dJ9_multiplyHigh_f86c9_84 ?_
  refine lv_topl (fun x_21 _ => ?_)
  have hP9 := hP.sub (ws' := []) [] rfl
  have hD9 := hD.sub (ws' := []) [] (by decide) rfl
  have hK9 := hK.sub (tys' := []) [] rfl
  refine W.widen (k := 0) (n := 0) (by omega) (by omega) ?_
  exact W.lret (v := x_21) hx hb hr (fun t ht hW => ⟨⟨x_21, (), rfl, trivial, QW.mk ht hW hP9 hK9 hD9⟩, hS.F ht⟩) hS.2.2 dJ9_multiplyHigh_f86c9_85
set_option maxHeartbeats 4000000 in
set_option maxRecDepth 100000 in
theorem c_J6_rotateRight_7cf53 (l : Launch) (dC : Nat → ClassId) (dI : Nat → Nat → Nat) (sz : Nat) (x1 : Int32) (x2 : Int32) : Met l yJ6_rotateRight_7cf53 (.code yJ6_rotateRight_7cf53 cJ6_rotateRight_7cf53 2 (some .int) :: tb) ({ frames := 0, cells := 0, slots := 0, locals := 0 }) (va_Pc [.int x1, .int x2] (PW (dC, dI) sz [] [])) (va_Qi (fun (r : Int32) (_ : Unit) => True) (fun _ T9 => QW (dC, dI) (va_A [] sz) [] [] T9) (va_A [] sz)) 0 0 (va_A [] sz) := by
  refine Met.ofW (cc := cJ6_rotateRight_7cf53) (maxL := 2) (ret := (some .int)) (by decide) rfl ?_
  intro p e s m args below meth c s₁ B hml hv
  obtain ⟨rfl, hsz, hP, hK, hD0, hE⟩ := hv
  have hx := B.exec
  have hb := B.bytes
  have hr := B.returns
  have hts : ∀ w ∈ tb, w.before _ s = true := fun w h => atoms_spec (ws := .code yJ6_rotateRight_7cf53 cJ6_rotateRight_7cf53 2 (some .int) :: tb) B.pre w (List.mem_cons_of_mem _ h)
  have hown : s.vm.findClass RJ6 = some m.cls := findClass_of_methodNamed B.named
  have hlocks := B.notSynchronized
  subst hsz
  have hD := hD0.self (sz := s.heap.size)
  generalize hAe : va_A [] s.heap.size = A at hD ⊢
  have hA : ∀ q : Nat, s.heap.size ≤ q → A q := fun q h => by rw [← hAe]; exact Or.inr h
  have hS : va_S A s.heap s.heap [] := va_S.rf
  have hP : va_P (dC, dI) vwCl [] s.heap := hP
  have hl := lv_entry ([.int x1, .int x2]) (n := 2) (Nat.le_of_ble_eq_true rfl)
  rw [lg_entry_eq]
  generalize (lg_sl ([.int x1, .int x2]) ++ List.replicate (2 - (lg_sl ([.int x1, .int x2])).length) Slot.unset).toArray = ls at hl ⊢
  have hl : lv_has ls 2 [(0, .int x1), (1, .int x2)] := hl
  refine lv_iload_n hx hb dJ6_rotateRight_7cf53_0 rfl (lv_at hl 0 rfl) ?_
  refine lv_iload_n hx hb dJ6_rotateRight_7cf53_1 rfl (lv_at hl 1 rfl) ?_
  refine lv_iushr hx hb dJ6_rotateRight_7cf53_2 rfl ?_
  refine lv_topi (fun x_2 _ => ?_)
  refine lv_iload_n hx hb dJ6_rotateRight_7cf53_3 rfl (lv_at hl 0 rfl) ?_
  refine lv_iload_n hx hb dJ6_rotateRight_7cf53_4 rfl (lv_at hl 1 rfl) ?_
  refine lv_ineg hx hb dJ6_rotateRight_7cf53_5 ?_
  refine lv_topi (fun x_3 _ => ?_)
  refine lv_ishl hx hb dJ6_rotateRight_7cf53_6 ?_
  refine lv_topi (fun x_4 _ => ?_)
  refine lv_ior hx hb dJ6_rotateRight_7cf53_7 ?_
  refine lv_topi (fun x_5 _ => ?_)
  have hP9 := hP.sub (ws' := []) [] rfl
  have hD9 := hD.sub (ws' := []) [] (by decide) rfl
  have hK9 := hK.sub (tys' := []) [] rfl
  refine W.widen (k := 0) (n := 0) (by omega) (by omega) ?_
  exact W.iret (v := x_5) hx hb hr (fun t ht hW => ⟨⟨x_5, (), rfl, trivial, QW.mk ht hW hP9 hK9 hD9⟩, hS.F ht⟩) hS.2.2 dJ6_rotateRight_7cf53_8
set_option maxHeartbeats 4000000 in
set_option maxRecDepth 100000 in
theorem c_X12_isAtMost (l : Launch) (dC : Nat → ClassId) (dI : Nat → Nat → Nat) (sz : Nat) (x1 : Int64) (x2 : Int32) (x3 : Int32) : Met l yX12_isAtMost (.code yX12_isAtMost cX12_isAtMost 28 (some .boolean) :: tb) ({ frames := 1, cells := 0, slots := 0, locals := 39 }) (va_Pc [.long x1, .int x2, .int x3] (PW (dC, dI) sz [] [])) (va_Qi (fun (r : Int32) (_ : Unit) => True) (fun _ T9 => QW (dC, dI) (va_A [] sz) [] [] T9) (va_A [] sz)) 0 0 (va_A [] sz) := by
  refine Met.ofW (cc := cX12_isAtMost) (maxL := 28) (ret := (some .boolean)) (by decide) rfl ?_
  intro p e s m args below meth c s₁ B hml hv
  obtain ⟨rfl, hsz, hP, hK, hD0, hE⟩ := hv
  have hx := B.exec
  have hb := B.bytes
  have hr := B.returns
  have hts : ∀ w ∈ tb, w.before _ s = true := fun w h => atoms_spec (ws := .code yX12_isAtMost cX12_isAtMost 28 (some .boolean) :: tb) B.pre w (List.mem_cons_of_mem _ h)
  have hown : s.vm.findClass RX12 = some m.cls := findClass_of_methodNamed B.named
  have hlocks := B.notSynchronized
  subst hsz
  have hD := hD0.self (sz := s.heap.size)
  generalize hAe : va_A [] s.heap.size = A at hD ⊢
  have hA : ∀ q : Nat, s.heap.size ≤ q → A q := fun q h => by rw [← hAe]; exact Or.inr h
  have hS : va_S A s.heap s.heap [] := va_S.rf
  have hP : va_P (dC, dI) vwCl [] s.heap := hP
  have hl := lv_entry ([.long x1, .int x2, .int x3]) (n := 28) (Nat.le_of_ble_eq_true rfl)
  rw [lg_entry_eq]
  generalize (lg_sl ([.long x1, .int x2, .int x3]) ++ List.replicate (28 - (lg_sl ([.long x1, .int x2, .int x3])).length) Slot.unset).toArray = ls at hl ⊢
  have hl : lv_has ls 28 [(0, .long x1), (2, .int x2), (3, .int x3)] := hl
  refine lv_lload_n hx hb dX12_isAtMost_0 rfl (lv_at hl 0 rfl) ?_
  refine lv_lload_n hx hb dX12_isAtMost_1 rfl (lv_at hl 0 rfl) ?_
  have hPc := hP.sub (ws' := []) [] rfl
  have hDc := hD.sub (ws' := []) [] (by decide) rfl
  have hKc := hK.sub (tys' := []) [] rfl
  have hFc := va_free (wc := []) hD hS hA [] rfl
  refine va_calll (va_runS (As := [.long x1, .long x1]) (rest := []) ⟨hx, hb, hml, hown, hts⟩ (c_J9_multiplyHigh_f86c9 l dC dI s.heap.size x1 x1 ) ⟨callB_of 2 hts (gi kt_278) rfl rfl rfl (hts _ kt_279) (hts _ kt_280) (by decide +kernel) ⟨Nat.le_of_ble_eq_true rfl, Nat.le_of_ble_eq_true rfl⟩, (hts _ kt_281)⟩ ⟨fun a U g mk q => ⟨q.1, PW.calling q.2⟩, fun U hU hW => ⟨rfl, PW.mk hU hW hPc hKc hDc hE⟩⟩ rfl rfl hl.1 rfl (lv_room (Nat.le_of_ble_eq_true rfl)) dX12_isAtMost_2 ⟨by show _ + 0 ≤ 0; omega, by show _ + 0 ≤ 0; omega⟩) hS (fun q _ h => hFc q h) hFc (fun r_1 u t H1 locs ht hvm hw hB hz1 hk1 hS => ?_)
  have hB1 := hB
  obtain ⟨hP, hD, hK⟩ := QW.join (wr := []) hP hD hK [] [] rfl rfl (by decide) (by decide) hk1 hFc ht hvm hB1
  generalize H1 = H at hP hS ⊢
  have hK : va_K (dC, dI) vwCl [] s := hK.sub [] rfl
  have hP : va_P (dC, dI) vwCl [] H := hP
  have hD : va_D A [] := hD
  have hw : True := hw
  have hw_2 := hw
  refine lv_lstore (lv' := [(4, .long r_1), (0, .long x1), (2, .int x2), (3, .int x3)]) hx hb dX12_isAtMost_5 hl (by decide) rfl (fun ls hl => ?_)
  refine lv_lload_n hx hb dX12_isAtMost_7 rfl (lv_at hl 1 rfl) ?_
  refine lv_lload_n hx hb dX12_isAtMost_8 rfl (lv_at hl 1 rfl) ?_
  refine lv_lmul hx hb dX12_isAtMost_9 ?_
  refine lv_topl (fun x_3 _ => ?_)
  refine lv_lstore (lv' := [(6, .long x_3), (4, .long r_1), (0, .long x1), (2, .int x2), (3, .int x3)]) hx hb dX12_isAtMost_10 hl (by decide) rfl (fun ls hl => ?_)
  refine lv_iload_n hx hb dX12_isAtMost_12 rfl (lv_at hl 3 rfl) ?_
  refine lv_iconst (v := 2) hx hb dX12_isAtMost_13 (by decide) ?_
  refine lv_icmp_ne (tgt := 46) hx hb dX12_isAtMost_14 (by decide) (fun c_4 => ?_) (fun c_4 => ?_)
  ·
    refine lv_lload hx hb dX12_isAtMost_46 (lv_at hl 0 rfl) ?_
    refine lv_ldc2 (v := 4294967295) hx hb hown (hts _ kt_282) dX12_isAtMost_48 ?_
    refine lv_land hx hb dX12_isAtMost_51 ?_
    refine lv_topl (fun x_5 _ => ?_)
    refine lv_lstore (lv' := [(8, .long x_5), (6, .long x_3), (4, .long r_1), (0, .long x1), (2, .int x2), (3, .int x3)]) hx hb dX12_isAtMost_52 hl (by decide) rfl (fun ls hl => ?_)
    refine lv_lload hx hb dX12_isAtMost_54 (lv_at hl 1 rfl) ?_
    refine lv_bipush (v := 32) hx hb dX12_isAtMost_56 (by decide) ?_
    refine lv_lushr hx hb dX12_isAtMost_58 rfl ?_
    refine lv_topl (fun x_7 _ => ?_)
    refine lv_lstore (lv' := [(10, .long x_7), (8, .long x_5), (6, .long x_3), (4, .long r_1), (0, .long x1), (2, .int x2), (3, .int x3)]) hx hb dX12_isAtMost_59 hl (by decide) rfl (fun ls hl => ?_)
    refine lv_lload hx hb dX12_isAtMost_61 (lv_at hl 3 rfl) ?_
    refine lv_lstore (lv' := [(12, .long r_1), (10, .long x_7), (8, .long x_5), (6, .long x_3), (4, .long r_1), (0, .long x1), (2, .int x2), (3, .int x3)]) hx hb dX12_isAtMost_63 hl (by decide) rfl (fun ls hl => ?_)
    refine lv_lload hx hb dX12_isAtMost_65 (lv_at hl 2 rfl) ?_
    refine lv_lload_n hx hb dX12_isAtMost_67 rfl (lv_at hl 5 rfl) ?_
    refine lv_ldc2 (v := 4294967295) hx hb hown (hts _ kt_282) dX12_isAtMost_68 ?_
    refine lv_land hx hb dX12_isAtMost_71 ?_
    refine lv_topl (fun x_8 _ => ?_)
    refine lv_lmul hx hb dX12_isAtMost_72 ?_
    refine lv_topl (fun x_9 _ => ?_)
    refine lv_lstore (lv' := [(14, .long x_9), (12, .long r_1), (10, .long x_7), (8, .long x_5), (6, .long x_3), (4, .long r_1), (0, .long x1), (2, .int x2), (3, .int x3)]) hx hb dX12_isAtMost_73 hl (by decide) rfl (fun ls hl => ?_)
    refine lv_lload hx hb dX12_isAtMost_75 (lv_at hl 0 rfl) ?_
    refine lv_bipush (v := 32) hx hb dX12_isAtMost_77 (by decide) ?_
    refine lv_lushr hx hb dX12_isAtMost_79 rfl ?_
    refine lv_topl (fun x_11 _ => ?_)
    refine lv_lstore (lv' := [(16, .long x_11), (14, .long x_9), (12, .long r_1), (10, .long x_7), (8, .long x_5), (6, .long x_3), (4, .long r_1), (0, .long x1), (2, .int x2), (3, .int x3)]) hx hb dX12_isAtMost_80 hl (by decide) rfl (fun ls hl => ?_)
    refine lv_lload hx hb dX12_isAtMost_82 (lv_at hl 3 rfl) ?_
    refine lv_lload_n hx hb dX12_isAtMost_84 rfl (lv_at hl 7 rfl) ?_
    refine lv_ldc2 (v := 4294967295) hx hb hown (hts _ kt_282) dX12_isAtMost_85 ?_
    refine lv_land hx hb dX12_isAtMost_88 ?_
    refine lv_topl (fun x_12 _ => ?_)
    refine lv_lmul hx hb dX12_isAtMost_89 ?_
    refine lv_topl (fun x_13 _ => ?_)
    refine lv_lload hx hb dX12_isAtMost_90 (lv_at hl 0 rfl) ?_
    refine lv_ladd hx hb dX12_isAtMost_92 ?_
    refine lv_topl (fun x_14 _ => ?_)
    refine lv_lstore (lv' := [(18, .long x_14), (16, .long x_11), (14, .long x_9), (12, .long r_1), (10, .long x_7), (8, .long x_5), (6, .long x_3), (4, .long r_1), (0, .long x1), (2, .int x2), (3, .int x3)]) hx hb dX12_isAtMost_93 hl (by decide) rfl (fun ls hl => ?_)
    refine lv_lload hx hb dX12_isAtMost_95 (lv_at hl 5 rfl) ?_
    refine lv_lload_n hx hb dX12_isAtMost_97 rfl (lv_at hl 8 rfl) ?_
    refine lv_bipush (v := 32) hx hb dX12_isAtMost_98 (by decide) ?_
    refine lv_lushr hx hb dX12_isAtMost_100 rfl ?_
    refine lv_topl (fun x_16 _ => ?_)
    refine lv_lmul hx hb dX12_isAtMost_101 ?_
    refine lv_topl (fun x_17 _ => ?_)
    refine lv_lload hx hb dX12_isAtMost_102 (lv_at hl 0 rfl) ?_
    refine lv_ldc2 (v := 4294967295) hx hb hown (hts _ kt_282) dX12_isAtMost_104 ?_
    refine lv_land hx hb dX12_isAtMost_107 ?_
    refine lv_topl (fun x_18 _ => ?_)
    refine lv_ladd hx hb dX12_isAtMost_108 ?_
    refine lv_topl (fun x_19 _ => ?_)
    refine lv_lstore (lv' := [(20, .long x_19), (18, .long x_14), (16, .long x_11), (14, .long x_9), (12, .long r_1), (10, .long x_7), (8, .long x_5), (6, .long x_3), (4, .long r_1), (0, .long x1), (2, .int x2), (3, .int x3)]) hx hb dX12_isAtMost_109 hl (by decide) rfl (fun ls hl => ?_)
    refine lv_lload hx hb dX12_isAtMost_111 (lv_at hl 0 rfl) ?_
    refine lv_ldc2 (v := 4294967295) hx hb hown (hts _ kt_282) dX12_isAtMost_113 ?_
    refine lv_land hx hb dX12_isAtMost_116 ?_
    refine lv_topl (fun x_20 _ => ?_)
    refine lv_lstore (lv' := [(22, .long x_20), (20, .long x_19), (18, .long x_14), (16, .long x_11), (14, .long x_9), (12, .long r_1), (10, .long x_7), (8, .long x_5), (6, .long x_3), (4, .long r_1), (0, .long x1), (2, .int x2), (3, .int x3)]) hx hb dX12_isAtMost_117 hl (by decide) rfl (fun ls hl => ?_)
    refine lv_lload hx hb dX12_isAtMost_119 (lv_at hl 4 rfl) ?_
    refine lv_ldc2 (v := 4294967295) hx hb hown (hts _ kt_282) dX12_isAtMost_121 ?_
    refine lv_land hx hb dX12_isAtMost_124 ?_
    refine lv_topl (fun x_21 _ => ?_)
    refine lv_lstore (lv' := [(24, .long x_21), (22, .long x_20), (20, .long x_19), (18, .long x_14), (16, .long x_11), (14, .long x_9), (12, .long r_1), (10, .long x_7), (8, .long x_5), (6, .long x_3), (4, .long r_1), (0, .long x1), (2, .int x2), (3, .int x3)]) hx hb dX12_isAtMost_125 hl (by decide) rfl (fun ls hl => ?_)
    refine lv_lload hx hb dX12_isAtMost_127 (lv_at hl 3 rfl) ?_
    refine lv_bipush (v := 32) hx hb dX12_isAtMost_129 (by decide) ?_
    refine lv_lushr hx hb dX12_isAtMost_131 rfl ?_
    refine lv_topl (fun x_23 _ => ?_)
    refine lv_lload hx hb dX12_isAtMost_132 (lv_at hl 2 rfl) ?_
    refine lv_bipush (v := 32) hx hb dX12_isAtMost_134 (by decide) ?_
    refine lv_lushr hx hb dX12_isAtMost_136 rfl ?_
    refine lv_topl (fun x_25 _ => ?_)
    refine lv_ladd hx hb dX12_isAtMost_137 ?_
    refine lv_topl (fun x_26 _ => ?_)
    refine lv_lload hx hb dX12_isAtMost_138 (lv_at hl 7 rfl) ?_
    refine lv_lload_n hx hb dX12_isAtMost_140 rfl (lv_at hl 11 rfl) ?_
    refine lv_bipush (v := 32) hx hb dX12_isAtMost_141 (by decide) ?_
    refine lv_lushr hx hb dX12_isAtMost_143 rfl ?_
    refine lv_topl (fun x_28 _ => ?_)
    refine lv_lmul hx hb dX12_isAtMost_144 ?_
    refine lv_topl (fun x_29 _ => ?_)
    refine lv_ladd hx hb dX12_isAtMost_145 ?_
    refine lv_topl (fun x_30 _ => ?_)
    refine lv_lload hx hb dX12_isAtMost_146 (lv_at hl 6 rfl) ?_
    refine lv_lload_n hx hb dX12_isAtMost_148 rfl (lv_at hl 11 rfl) ?_
    refine lv_ldc2 (v := 4294967295) hx hb hown (hts _ kt_282) dX12_isAtMost_149 ?_
    refine lv_land hx hb dX12_isAtMost_152 ?_
    refine lv_topl (fun x_31 _ => ?_)
    refine lv_lmul hx hb dX12_isAtMost_153 ?_
    refine lv_topl (fun x_32 _ => ?_)
    refine lv_ladd hx hb dX12_isAtMost_154 ?_
    refine lv_topl (fun x_33 _ => ?_)
    refine lv_lload hx hb dX12_isAtMost_155 (lv_at hl 6 rfl) ?_
    refine lv_lload_n hx hb dX12_isAtMost_157 rfl (lv_at hl 11 rfl) ?_
    refine lv_bipush (v := 32) hx hb dX12_isAtMost_158 (by decide) ?_
    refine lv_lushr hx hb dX12_isAtMost_160 rfl ?_
    refine lv_topl (fun x_35 _ => ?_)
    refine lv_lmul hx hb dX12_isAtMost_161 ?_
    refine lv_topl (fun x_36 _ => ?_)
    refine lv_bipush (v := 32) hx hb dX12_isAtMost_162 (by decide) ?_
    refine lv_lshl hx hb dX12_isAtMost_164 rfl ?_
    refine lv_topl (fun x_38 _ => ?_)
    refine lv_ladd hx hb dX12_isAtMost_165 ?_
    refine lv_topl (fun x_39 _ => ?_)
    refine lv_lstore (lv' := [(26, .long x_39), (24, .long x_21), (22, .long x_20), (20, .long x_19), (18, .long x_14), (16, .long x_11), (14, .long x_9), (12, .long r_1), (10, .long x_7), (8, .long x_5), (6, .long x_3), (4, .long r_1), (0, .long x1), (2, .int x2), (3, .int x3)]) hx hb dX12_isAtMost_166 hl (by decide) rfl (fun ls hl => ?_)
    refine lv_lload hx hb dX12_isAtMost_168 (lv_at hl 0 rfl) ?_
    refine lv_iload_n hx hb dX12_isAtMost_170 rfl (lv_at hl 14 rfl) ?_
    refine lv_i2l hx hb dX12_isAtMost_171 rfl ?_
    refine lv_topl (fun x_40 _ => ?_)
    refine lv_bipush (v := 32) hx hb dX12_isAtMost_172 (by decide) ?_
    refine lv_lshl hx hb dX12_isAtMost_174 rfl ?_
    refine lv_topl (fun x_42 _ => ?_)
    refine W.lcmp hx hb dX12_isAtMost_175 ?_
    refine lv_topi (fun x_43 ex_43 => ?_)
    refine lv_if_lt (tgt := 204) hx hb dX12_isAtMost_176 (by decide) (fun c_44 => ?_) (fun c_44 => ?_)
    ·
      refine lv_iconst (v := 1) hx hb dX12_isAtMost_204 (by decide) ?_
      refine lv_goto (tgt := 209) hx hb dX12_isAtMost_205 (by decide) ?_
      have hP9 := hP.sub (ws' := []) [] rfl
      have hD9 := hD.sub (ws' := []) [] (by decide) rfl
      have hK9 := hK.sub (tys' := []) [] rfl
      refine W.widen (k := 0) (n := 0) (by omega) (by omega) ?_
      exact W.zret (v := 1) (ty := .boolean) hx hb hr (by decide) (fun t ht hW => ⟨⟨1, (), rfl, trivial, QW.mk ht hW hP9 hK9 hD9⟩, hS.F ht⟩) hS.2.2 dX12_isAtMost_209
    ·
      refine lv_lload hx hb dX12_isAtMost_179 (lv_at hl 0 rfl) ?_
      refine lv_iload_n hx hb dX12_isAtMost_181 rfl (lv_at hl 14 rfl) ?_
      refine lv_i2l hx hb dX12_isAtMost_182 rfl ?_
      refine lv_topl (fun x_45 _ => ?_)
      refine lv_bipush (v := 32) hx hb dX12_isAtMost_183 (by decide) ?_
      refine lv_lshl hx hb dX12_isAtMost_185 rfl ?_
      refine lv_topl (fun x_47 _ => ?_)
      refine W.lcmp hx hb dX12_isAtMost_186 ?_
      refine lv_topi (fun x_48 ex_48 => ?_)
      refine lv_if_ne (tgt := 208) hx hb dX12_isAtMost_187 (by decide) (fun c_49 => ?_) (fun c_49 => ?_)
      ·
        refine lv_iconst (v := 0) hx hb dX12_isAtMost_208 (by decide) ?_
        have hP9 := hP.sub (ws' := []) [] rfl
        have hD9 := hD.sub (ws' := []) [] (by decide) rfl
        have hK9 := hK.sub (tys' := []) [] rfl
        refine W.widen (k := 0) (n := 0) (by omega) (by omega) ?_
        exact W.zret (v := 0) (ty := .boolean) hx hb hr (by decide) (fun t ht hW => ⟨⟨0, (), rfl, trivial, QW.mk ht hW hP9 hK9 hD9⟩, hS.F ht⟩) hS.2.2 dX12_isAtMost_209
      ·
        refine lv_lload hx hb dX12_isAtMost_190 (lv_at hl 2 rfl) ?_
        refine lv_lconst (v := 0) hx hb dX12_isAtMost_192 (by decide) ?_
        refine W.lcmp hx hb dX12_isAtMost_193 ?_
        refine lv_topi (fun x_50 ex_50 => ?_)
        refine lv_if_ne (tgt := 208) hx hb dX12_isAtMost_194 (by decide) (fun c_51 => ?_) (fun c_51 => ?_)
        ·
          refine lv_iconst (v := 0) hx hb dX12_isAtMost_208 (by decide) ?_
          have hP9 := hP.sub (ws' := []) [] rfl
          have hD9 := hD.sub (ws' := []) [] (by decide) rfl
          have hK9 := hK.sub (tys' := []) [] rfl
          refine W.widen (k := 0) (n := 0) (by omega) (by omega) ?_
          exact W.zret (v := 0) (ty := .boolean) hx hb hr (by decide) (fun t ht hW => ⟨⟨0, (), rfl, trivial, QW.mk ht hW hP9 hK9 hD9⟩, hS.F ht⟩) hS.2.2 dX12_isAtMost_209
        ·
          refine lv_lload hx hb dX12_isAtMost_197 (lv_at hl 1 rfl) ?_
          refine lv_lconst (v := 0) hx hb dX12_isAtMost_199 (by decide) ?_
          refine W.lcmp hx hb dX12_isAtMost_200 ?_
          refine lv_topi (fun x_52 ex_52 => ?_)
          refine lv_if_ne (tgt := 208) hx hb dX12_isAtMost_201 (by decide) (fun c_53 => ?_) (fun c_53 => ?_)
          ·
            refine lv_iconst (v := 0) hx hb dX12_isAtMost_208 (by decide) ?_
            have hP9 := hP.sub (ws' := []) [] rfl
            have hD9 := hD.sub (ws' := []) [] (by decide) rfl
            have hK9 := hK.sub (tys' := []) [] rfl
            refine W.widen (k := 0) (n := 0) (by omega) (by omega) ?_
            exact W.zret (v := 0) (ty := .boolean) hx hb hr (by decide) (fun t ht hW => ⟨⟨0, (), rfl, trivial, QW.mk ht hW hP9 hK9 hD9⟩, hS.F ht⟩) hS.2.2 dX12_isAtMost_209
          ·
            refine lv_iconst (v := 1) hx hb dX12_isAtMost_204 (by decide) ?_
            refine lv_goto (tgt := 209) hx hb dX12_isAtMost_205 (by decide) ?_
            have hP9 := hP.sub (ws' := []) [] rfl
            have hD9 := hD.sub (ws' := []) [] (by decide) rfl
            have hK9 := hK.sub (tys' := []) [] rfl
            refine W.widen (k := 0) (n := 0) (by omega) (by omega) ?_
            exact W.zret (v := 1) (ty := .boolean) hx hb hr (by decide) (fun t ht hW => ⟨⟨1, (), rfl, trivial, QW.mk ht hW hP9 hK9 hD9⟩, hS.F ht⟩) hS.2.2 dX12_isAtMost_209
  ·
    refine lv_lload hx hb dX12_isAtMost_17 (lv_at hl 1 rfl) ?_
    refine lv_iload_n hx hb dX12_isAtMost_19 rfl (lv_at hl 4 rfl) ?_
    refine lv_i2l hx hb dX12_isAtMost_20 rfl ?_
    refine lv_topl (fun x_54 _ => ?_)
    refine W.lcmp hx hb dX12_isAtMost_21 ?_
    refine lv_topi (fun x_55 ex_55 => ?_)
    refine lv_if_lt (tgt := 40) hx hb dX12_isAtMost_22 (by decide) (fun c_56 => ?_) (fun c_56 => ?_)
    ·
      refine lv_iconst (v := 1) hx hb dX12_isAtMost_40 (by decide) ?_
      refine lv_goto (tgt := 45) hx hb dX12_isAtMost_41 (by decide) ?_
      have hP9 := hP.sub (ws' := []) [] rfl
      have hD9 := hD.sub (ws' := []) [] (by decide) rfl
      have hK9 := hK.sub (tys' := []) [] rfl
      refine W.widen (k := 0) (n := 0) (by omega) (by omega) ?_
      exact W.zret (v := 1) (ty := .boolean) hx hb hr (by decide) (fun t ht hW => ⟨⟨1, (), rfl, trivial, QW.mk ht hW hP9 hK9 hD9⟩, hS.F ht⟩) hS.2.2 dX12_isAtMost_45
    ·
      refine lv_lload hx hb dX12_isAtMost_25 (lv_at hl 1 rfl) ?_
      refine lv_iload_n hx hb dX12_isAtMost_27 rfl (lv_at hl 4 rfl) ?_
      refine lv_i2l hx hb dX12_isAtMost_28 rfl ?_
      refine lv_topl (fun x_57 _ => ?_)
      refine W.lcmp hx hb dX12_isAtMost_29 ?_
      refine lv_topi (fun x_58 ex_58 => ?_)
      refine lv_if_ne (tgt := 44) hx hb dX12_isAtMost_30 (by decide) (fun c_59 => ?_) (fun c_59 => ?_)
      ·
        refine lv_iconst (v := 0) hx hb dX12_isAtMost_44 (by decide) ?_
        have hP9 := hP.sub (ws' := []) [] rfl
        have hD9 := hD.sub (ws' := []) [] (by decide) rfl
        have hK9 := hK.sub (tys' := []) [] rfl
        refine W.widen (k := 0) (n := 0) (by omega) (by omega) ?_
        exact W.zret (v := 0) (ty := .boolean) hx hb hr (by decide) (fun t ht hW => ⟨⟨0, (), rfl, trivial, QW.mk ht hW hP9 hK9 hD9⟩, hS.F ht⟩) hS.2.2 dX12_isAtMost_45
      ·
        refine lv_lload hx hb dX12_isAtMost_33 (lv_at hl 0 rfl) ?_
        refine lv_lconst (v := 0) hx hb dX12_isAtMost_35 (by decide) ?_
        refine W.lcmp hx hb dX12_isAtMost_36 ?_
        refine lv_topi (fun x_60 ex_60 => ?_)
        refine lv_if_ne (tgt := 44) hx hb dX12_isAtMost_37 (by decide) (fun c_61 => ?_) (fun c_61 => ?_)
        ·
          refine lv_iconst (v := 0) hx hb dX12_isAtMost_44 (by decide) ?_
          have hP9 := hP.sub (ws' := []) [] rfl
          have hD9 := hD.sub (ws' := []) [] (by decide) rfl
          have hK9 := hK.sub (tys' := []) [] rfl
          refine W.widen (k := 0) (n := 0) (by omega) (by omega) ?_
          exact W.zret (v := 0) (ty := .boolean) hx hb hr (by decide) (fun t ht hW => ⟨⟨0, (), rfl, trivial, QW.mk ht hW hP9 hK9 hD9⟩, hS.F ht⟩) hS.2.2 dX12_isAtMost_45
        ·
          refine lv_iconst (v := 1) hx hb dX12_isAtMost_40 (by decide) ?_
          refine lv_goto (tgt := 45) hx hb dX12_isAtMost_41 (by decide) ?_
          have hP9 := hP.sub (ws' := []) [] rfl
          have hD9 := hD.sub (ws' := []) [] (by decide) rfl
          have hK9 := hK.sub (tys' := []) [] rfl
          refine W.widen (k := 0) (n := 0) (by omega) (by omega) ?_
          exact W.zret (v := 1) (ty := .boolean) hx hb hr (by decide) (fun t ht hW => ⟨⟨1, (), rfl, trivial, QW.mk ht hW hP9 hK9 hD9⟩, hS.F ht⟩) hS.2.2 dX12_isAtMost_45
def bt (j : Nat) : Int64 := lN (2 ^ j / 2)
theorem bt_s : ∀ j, j < 38 → 0 < j → bt j >>> ((1 : Int32).toInt64 &&& 63) = bt (j - 1) := by decide +kernel
theorem bt_p {j : Nat} {x : Int32} (ex : x = lg_cmp (bt j) 0) (c : ¬ x ≤ 0) : 0 < j := by
  rcases Nat.eq_zero_or_pos j with h | h
  · subst h
    exact absurd (by rw [ex]; decide) c
  · exact h
set_option maxHeartbeats 4000000 in
set_option maxRecDepth 100000 in
theorem c_X12_rootOf (l : Launch) (dC : Nat → ClassId) (dI : Nat → Nat → Nat) (sz : Nat) (x1 : Int32) (x2 : Int32) : Met l yX12_rootOf (.code yX12_rootOf cX12_rootOf 6 (some .int) :: tb) ({ frames := 2, cells := 0, slots := 0, locals := 86 }) (va_Pc [.int x1, .int x2] (PW (dC, dI) sz [] [])) (va_Qi (fun (r : Int32) (_ : Unit) => True) (fun _ T9 => QW (dC, dI) (va_A [] sz) [] [] T9) (va_A [] sz)) 0 0 (va_A [] sz) := by
  refine Met.ofW (cc := cX12_rootOf) (maxL := 6) (ret := (some .int)) (by decide) rfl ?_
  intro p e s m args below meth c s₁ B hml hv
  obtain ⟨rfl, hsz, hP, hK, hD0, hE⟩ := hv
  have hx := B.exec
  have hb := B.bytes
  have hr := B.returns
  have hts : ∀ w ∈ tb, w.before _ s = true := fun w h => atoms_spec (ws := .code yX12_rootOf cX12_rootOf 6 (some .int) :: tb) B.pre w (List.mem_cons_of_mem _ h)
  have hown : s.vm.findClass RX12 = some m.cls := findClass_of_methodNamed B.named
  have hlocks := B.notSynchronized
  subst hsz
  have hD := hD0.self (sz := s.heap.size)
  generalize hAe : va_A [] s.heap.size = A at hD ⊢
  have hA : ∀ q : Nat, s.heap.size ≤ q → A q := fun q h => by rw [← hAe]; exact Or.inr h
  have hS : va_S A s.heap s.heap [] := va_S.rf
  have hP : va_P (dC, dI) vwCl [] s.heap := hP
  have hl := lv_entry ([.int x1, .int x2]) (n := 6) (Nat.le_of_ble_eq_true rfl)
  rw [lg_entry_eq]
  generalize (lg_sl ([.int x1, .int x2]) ++ List.replicate (6 - (lg_sl ([.int x1, .int x2])).length) Slot.unset).toArray = ls at hl ⊢
  have hl : lv_has ls 6 [(0, .int x1), (1, .int x2)] := hl
  refine lv_lconst (v := 0) hx hb dX12_rootOf_0 (by decide) ?_
  refine lv_lstore_n (lv' := [(2, .long 0), (0, .int x1), (1, .int x2)]) hx hb dX12_rootOf_1 rfl hl (by decide) rfl (fun ls hl => ?_)
  refine lv_ldc2 (v := 68719476736) hx hb hown (hts _ kt_283) dX12_rootOf_2 ?_
  refine W.eq (g2 := F0 m 5 ls [.long (bt 37)]) rfl ?_
  refine lv_lstore (lv' := [(4, .long (bt 37)), (2, .long 0), (0, .int x1), (1, .int x2)]) hx hb dX12_rootOf_5 hl (by decide) rfl (fun ls hl => ?_)
  refine W.widen (k := 0) (n := 0) (by omega) (by omega) ?_
  refine wl_loop (σ := Nat × Int64) A (dC, dI) 7 6 (fun (j1, rv) => []) (fun (j1, rv) => [(4, .long (bt j1)), (2, .long rv), (0, .int x1), (1, .int x2)]) (fun (j1, rv) => []) (fun (j1, rv) => 0) (fun (j1, rv) => 0) (fun (j1, rv) => j1 ≤ 37) (fun (j1, rv) => j1) ?_ (37, 0) (by first | omega | exact ⟨by omega, by omega⟩) _ _ (hP.sub [] rfl) (hD.sub [] (by decide) rfl) hS ls (lv_sub hl [0, 1, 2, 3] rfl)
  rintro ⟨j1, rv⟩ hv_1 ih_2 H locs hP hD hS ls hl
  have hP : va_P (dC, dI) vwCl [] H := hP
  have hD : va_D A [] := hD
  have hl : lv_has ls 6 [(4, .long (bt j1)), (2, .long rv), (0, .int x1), (1, .int x2)] := hl
  have hv_1 : j1 ≤ 37 := hv_1
  refine W.widen (k := 0) (n := 0) (Nat.le_refl _) (Nat.le_refl _) ?_
  refine W.eq (g2 := F0 m 7 ls []) rfl ?_
  refine lv_lload hx hb dX12_rootOf_7 (lv_at hl 0 rfl) ?_
  refine lv_lconst (v := 0) hx hb dX12_rootOf_9 (by decide) ?_
  refine W.lcmp hx hb dX12_rootOf_10 ?_
  refine lv_topi (fun x_3 ex_3 => ?_)
  refine lv_if_le (tgt := 40) hx hb dX12_rootOf_11 (by decide) (fun c_4 => ?_) (fun c_4 => ?_)
  ·
    refine lv_lload_n hx hb dX12_rootOf_40 rfl (lv_at hl 1 rfl) ?_
    refine lv_l2i hx hb dX12_rootOf_41 rfl ?_
    refine lv_topi (fun x_5 _ => ?_)
    have hP9 := hP.sub (ws' := []) [] rfl
    have hD9 := hD.sub (ws' := []) [] (by decide) rfl
    have hK9 := hK.sub (tys' := []) [] rfl
    refine W.widen (k := 0) (n := 0) (by omega) (by omega) ?_
    exact W.iret (v := x_5) hx hb hr (fun t ht hW => ⟨⟨x_5, (), rfl, trivial, QW.mk ht hW hP9 hK9 hD9⟩, hS.F ht⟩) hS.2.2 dX12_rootOf_42
  ·
    have hj : 0 < j1 := bt_p ex_3 c_4
    refine lv_lload_n hx hb dX12_rootOf_14 rfl (lv_at hl 1 rfl) ?_
    refine lv_lload hx hb dX12_rootOf_15 (lv_at hl 0 rfl) ?_
    refine lv_ladd hx hb dX12_rootOf_17 ?_
    refine lv_topl (fun x_6 _ => ?_)
    refine lv_iload_n hx hb dX12_rootOf_18 rfl (lv_at hl 3 rfl) ?_
    refine lv_iload_n hx hb dX12_rootOf_19 rfl (lv_at hl 2 rfl) ?_
    have hPc := hP.sub (ws' := []) [] rfl
    have hDc := hD.sub (ws' := []) [] (by decide) rfl
    have hKc := hK.sub (tys' := []) [] rfl
    have hFc := va_free (wc := []) hD hS hA [] rfl
    refine va_calli (va_runS (As := [.long x_6, .int x2, .int x1]) (rest := []) ⟨hx, hb, hml, hown, hts⟩ (c_X12_isAtMost l dC dI H.size x_6 x2 x1 ) ⟨callB_of 3 hts (gi kt_284) rfl rfl rfl (hts _ kt_285) (hts _ kt_286) (by decide +kernel) ⟨Nat.le_of_ble_eq_true rfl, Nat.le_of_ble_eq_true rfl⟩, (hts _ kt_287)⟩ ⟨fun a U g mk q => ⟨q.1, PW.calling q.2⟩, fun U hU hW => ⟨rfl, PW.mk hU hW hPc hKc hDc hE⟩⟩ rfl rfl hl.1 rfl (lv_room (Nat.le_of_ble_eq_true rfl)) dX12_rootOf_20 ⟨by show _ + 0 ≤ 0; omega, by show _ + 0 ≤ 0; omega⟩) hS (fun q _ h => hFc q h) hFc (fun r_7 u t H1 locs ht hvm hw hB hz1 hk1 hS => ?_)
    have hB1 := hB
    obtain ⟨hP, hD, hK⟩ := QW.join (wr := []) hP hD hK [] [] rfl rfl (by decide) (by decide) hk1 hFc ht hvm hB1
    generalize H1 = H at hP hS ⊢
    have hK : va_K (dC, dI) vwCl [] s := hK.sub [] rfl
    have hP : va_P (dC, dI) vwCl [] H := hP
    have hD : va_D A [] := hD
    have hw : True := hw
    have hw_8 := hw
    refine lv_if_eq (tgt := 31) hx hb dX12_rootOf_23 (by decide) (fun c_9 => ?_) (fun c_9 => ?_)
    ·
      refine lv_lload hx hb dX12_rootOf_31 (lv_at hl 0 rfl) ?_
      refine lv_iconst (v := 1) hx hb dX12_rootOf_33 (by decide) ?_
      refine lv_lshr hx hb dX12_rootOf_34 rfl ?_
      refine lv_topl (fun x_11 ex_11 => ?_)
      obtain rfl : x_11 = (bt (j1 - 1)) := ex_11.trans (bt_s j1 (by omega) hj)
      refine lv_lstore (lv' := [(4, .long (bt (j1 - 1))), (2, .long rv), (0, .int x1), (1, .int x2)]) hx hb dX12_rootOf_35 hl (by decide) rfl (fun ls hl => ?_)
      refine lv_goto (tgt := 7) hx hb dX12_rootOf_37 (by decide) ?_
      refine W.widen (k := 0) (n := 0) (by omega) (by omega) ?_
      exact ih_2 ((j1 - 1), rv) (by first | omega | exact ⟨by omega, by omega⟩) (by show (j1 - 1) < j1; omega) _ _ (hP.sub [] rfl) (hD.sub [] (by decide) rfl) hS ls (lv_sub hl [0, 1, 2, 3] rfl)
    ·
      refine lv_lload_n hx hb dX12_rootOf_26 rfl (lv_at hl 1 rfl) ?_
      refine lv_lload hx hb dX12_rootOf_27 (lv_at hl 0 rfl) ?_
      refine lv_ladd hx hb dX12_rootOf_29 ?_
      refine lv_topl (fun x_12 _ => ?_)
      refine lv_lstore_n (lv' := [(2, .long x_12), (4, .long (bt j1)), (0, .int x1), (1, .int x2)]) hx hb dX12_rootOf_30 rfl hl (by decide) rfl (fun ls hl => ?_)
      refine lv_lload hx hb dX12_rootOf_31 (lv_at hl 1 rfl) ?_
      refine lv_iconst (v := 1) hx hb dX12_rootOf_33 (by decide) ?_
      refine lv_lshr hx hb dX12_rootOf_34 rfl ?_
      refine lv_topl (fun x_14 ex_14 => ?_)
      obtain rfl : x_14 = (bt (j1 - 1)) := ex_14.trans (bt_s j1 (by omega) hj)
      refine lv_lstore (lv' := [(4, .long (bt (j1 - 1))), (2, .long x_12), (0, .int x1), (1, .int x2)]) hx hb dX12_rootOf_35 hl (by decide) rfl (fun ls hl => ?_)
      refine lv_goto (tgt := 7) hx hb dX12_rootOf_37 (by decide) ?_
      refine W.widen (k := 0) (n := 0) (by omega) (by omega) ?_
      exact ih_2 ((j1 - 1), x_12) (by first | omega | exact ⟨by omega, by omega⟩) (by show (j1 - 1) < j1; omega) _ _ (hP.sub [] rfl) (hD.sub [] (by decide) rfl) hS ls (lv_sub hl [0, 1, 2, 3] rfl)
def pf : Nat → Nat → Nat → Nat
  | 0, _, _ => 1
  | k + 1, d, p => if p < d * d then 1 else if p % d = 0 then 0 else pf k (d + 1) p
def cnt : Nat → Nat
  | 0 => 0
  | p + 1 => cnt p + (if 2 ≤ p then pf 30 2 p else 0)
theorem pf01 : ∀ k d p, pf k d p = 0 ∨ pf k d p = 1 := by
  intro k
  induction k with
  | zero => intro d p; exact Or.inr rfl
  | succ k ih =>
    intro d p
    unfold pf
    split
    · exact Or.inr rfl
    · split
      · exact Or.inl rfl
      · exact ih _ _
theorem sq20 {d p : Nat} (h : d * d ≤ p) (hp : p ≤ 400) : d ≤ 20 := Nat.le_of_not_lt (fun q => by have := Nat.mul_le_mul q q; omega)
theorem pfa {d p : Nat} (hv : 2 ≤ d ∧ d ≤ 30 ∧ pf (32 - d) d p = pf 30 2 p) : ∃ k, 32 - d = k + 1 ∧ pf 30 2 p = (if p < d * d then 1 else if p % d = 0 then 0 else pf k (d + 1) p) := by
  obtain ⟨h1, h2, h3⟩ := hv
  refine ⟨31 - d, by omega, ?_⟩
  rw [← h3, show 32 - d = (31 - d) + 1 by omega]
  rfl
theorem pr0 {d p : Nat} (hv : 2 ≤ d ∧ d ≤ 30 ∧ pf (32 - d) d p = pf 30 2 p) (h1 : d * d ≤ p) (hp : p ≤ 400) (h2 : nI (p % d) = 0) : (0 : Int32) = nI (pf 30 2 p) := by
  obtain ⟨k, -, e⟩ := pfa hv
  have h3 : p % d = 0 := (nI_eq (Nat.lt_of_le_of_lt (Nat.mod_le _ _) (by omega)) (by omega)).mp (h2.trans nI_0.symm)
  rw [e, if_neg (Nat.not_lt.mpr h1), if_pos h3]
  rfl
theorem pr1 {d p : Nat} (hv : 2 ≤ d ∧ d ≤ 30 ∧ pf (32 - d) d p = pf 30 2 p) (h1 : p < d * d) : (1 : Int32) = nI (pf 30 2 p) := by
  obtain ⟨k, -, e⟩ := pfa hv
  rw [e, if_pos h1]
  rfl
theorem prs {d p : Nat} (hv : 2 ≤ d ∧ d ≤ 30 ∧ pf (32 - d) d p = pf 30 2 p) (h1 : d * d ≤ p) (hp : p ≤ 400) (h2 : ¬ nI (p % d) = 0) : 2 ≤ d + 1 ∧ d + 1 ≤ 30 ∧ pf (32 - (d + 1)) (d + 1) p = pf 30 2 p := by
  obtain ⟨k, hk, e⟩ := pfa hv
  have h3 : ¬ p % d = 0 := fun h => h2 (by rw [h]; rfl)
  have := sq20 h1 hp
  refine ⟨by omega, by omega, ?_⟩
  rw [e, if_neg (Nat.not_lt.mpr h1), if_neg h3, show 32 - (d + 1) = k by omega]
theorem cnt_e : cnt 312 = 64 := by decide +kernel
theorem cn0 {p n : Nat} {r : Int32} (h : 2 ≤ p ∧ p ≤ 312 ∧ n = cnt p) (hn : n < 64) (hr : r = nI (pf 30 2 p)) (c : r = 0) : 2 ≤ p + 1 ∧ p + 1 ≤ 312 ∧ n = cnt (p + 1) := by
  obtain ⟨h1, h2, h3⟩ := h
  have hp : p ≠ 312 := fun q => by subst q; rw [cnt_e] at h3; omega
  refine ⟨by omega, by omega, ?_⟩
  rw [cnt, if_pos h1]
  rcases pf01 30 2 p with q | q
  · omega
  · rw [hr, q] at c
    exact absurd c (by decide)
theorem cn1 {p n : Nat} {r : Int32} (h : 2 ≤ p ∧ p ≤ 312 ∧ n = cnt p) (hn : n < 64) (hr : r = nI (pf 30 2 p)) (c : ¬ r = 0) : 2 ≤ p + 1 ∧ p + 1 ≤ 312 ∧ n + 1 = cnt (p + 1) := by
  obtain ⟨h1, h2, h3⟩ := h
  have hp : p ≠ 312 := fun q => by subst q; rw [cnt_e] at h3; omega
  refine ⟨by omega, by omega, ?_⟩
  rw [cnt, if_pos h1]
  rcases pf01 30 2 p with q | q
  · rw [hr, q] at c
    exact absurd rfl c
  · omega
set_option maxHeartbeats 4000000 in
set_option maxRecDepth 100000 in
theorem c_X12_isPrime (l : Launch) (dC : Nat → ClassId) (dI : Nat → Nat → Nat) (sz : Nat) (p1 : Nat) (hp1 : 2 ≤ p1) (hp2 : p1 ≤ 400) : Met l yX12_isPrime (.code yX12_isPrime cX12_isPrime 2 (some .boolean) :: tb) ({ frames := 0, cells := 0, slots := 0, locals := 0 }) (va_Pc [.int (nI p1)] (PW (dC, dI) sz [] [])) (va_Qi (fun (r : Int32) (_ : Unit) => r = nI (pf 30 2 p1)) (fun _ T9 => QW (dC, dI) (va_A [] sz) [] [] T9) (va_A [] sz)) 0 0 (va_A [] sz) := by
  refine Met.ofW (cc := cX12_isPrime) (maxL := 2) (ret := (some .boolean)) (by decide) rfl ?_
  intro p e s m args below meth c s₁ B hml hv
  obtain ⟨rfl, hsz, hP, hK, hD0, hE⟩ := hv
  have hx := B.exec
  have hb := B.bytes
  have hr := B.returns
  have hts : ∀ w ∈ tb, w.before _ s = true := fun w h => atoms_spec (ws := .code yX12_isPrime cX12_isPrime 2 (some .boolean) :: tb) B.pre w (List.mem_cons_of_mem _ h)
  have hown : s.vm.findClass RX12 = some m.cls := findClass_of_methodNamed B.named
  have hlocks := B.notSynchronized
  subst hsz
  have hD := hD0.self (sz := s.heap.size)
  generalize hAe : va_A [] s.heap.size = A at hD ⊢
  have hA : ∀ q : Nat, s.heap.size ≤ q → A q := fun q h => by rw [← hAe]; exact Or.inr h
  have hS : va_S A s.heap s.heap [] := va_S.rf
  have hP : va_P (dC, dI) vwCl [] s.heap := hP
  have hl := lv_entry ([.int (nI p1)]) (n := 2) (Nat.le_of_ble_eq_true rfl)
  rw [lg_entry_eq]
  generalize (lg_sl ([.int (nI p1)]) ++ List.replicate (2 - (lg_sl ([.int (nI p1)])).length) Slot.unset).toArray = ls at hl ⊢
  have hl : lv_has ls 2 [(0, .int (nI p1))] := hl
  refine lv_iconst (v := 2) hx hb dX12_isPrime_0 (by decide) ?_
  refine lv_istore_n (lv' := [(1, .int 2), (0, .int (nI p1))]) hx hb dX12_isPrime_1 rfl hl (by decide) rfl (fun ls hl => ?_)
  refine W.widen (k := 0) (n := 0) (by omega) (by omega) ?_
  refine wl_loop (σ := Nat) A (dC, dI) 2 2 (fun d1 => []) (fun d1 => [(1, .int (nI d1)), (0, .int (nI p1))]) (fun d1 => []) (fun d1 => 0) (fun d1 => 0) (fun d1 => 2 ≤ d1 ∧ d1 ≤ 30 ∧ pf (32 - d1) d1 p1 = pf 30 2 p1) (fun d1 => 30 - d1) ?_ 2 (⟨by omega, by omega, rfl⟩) _ _ (hP.sub [] rfl) (hD.sub [] (by decide) rfl) hS ls (lv_sub hl [0, 1] rfl)
  rintro d1 hv_1 ih_2 H locs hP hD hS ls hl
  have hP : va_P (dC, dI) vwCl [] H := hP
  have hD : va_D A [] := hD
  have hl : lv_has ls 2 [(1, .int (nI d1)), (0, .int (nI p1))] := hl
  have hv_1 : 2 ≤ d1 ∧ d1 ≤ 30 ∧ pf (32 - d1) d1 p1 = pf 30 2 p1 := hv_1
  refine W.widen (k := 0) (n := 0) (Nat.le_refl _) (Nat.le_refl _) ?_
  refine W.eq (g2 := F0 m 2 ls []) rfl ?_
  obtain ⟨hv1, hv2, -⟩ := id hv_1
  have hdd : d1 * d1 ≤ 30 * 30 := Nat.mul_le_mul hv2 hv2
  have hmm : p1 % d1 ≤ p1 := Nat.mod_le _ _
  refine lv_iload_n hx hb dX12_isPrime_2 rfl (lv_at hl 0 rfl) ?_
  refine lv_iload_n hx hb dX12_isPrime_3 rfl (lv_at hl 0 rfl) ?_
  refine lv_imul hx hb dX12_isPrime_4 ?_
  refine lv_topi (fun x_3 ex_3 => ?_)
  obtain rfl : x_3 = (nI (d1 * d1)) := ex_3.trans (pk_mul d1 d1)
  refine lv_iload_n hx hb dX12_isPrime_5 rfl (lv_at hl 1 rfl) ?_
  refine lv_icmp_gt (tgt := 23) hx hb dX12_isPrime_6 (by decide) (fun c_4 => ?_) (fun c_4 => ?_)
  ·
    have hi_5 : p1 < (d1 * d1) := (nI_ltI (by omega) (by omega)).mp c_4
    refine lv_iconst (v := 1) hx hb dX12_isPrime_23 (by decide) ?_
    have hP9 := hP.sub (ws' := []) [] rfl
    have hD9 := hD.sub (ws' := []) [] (by decide) rfl
    have hK9 := hK.sub (tys' := []) [] rfl
    refine W.widen (k := 0) (n := 0) (by omega) (by omega) ?_
    exact W.zret (v := 1) (ty := .boolean) hx hb hr (by decide) (fun t ht hW => ⟨⟨1, (), rfl, (pr1 hv_1 (by omega)), QW.mk ht hW hP9 hK9 hD9⟩, hS.F ht⟩) hS.2.2 dX12_isPrime_24
  ·
    have hi_6 : (d1 * d1) ≤ p1 := Nat.not_lt.mp (fun q => c_4 ((nI_ltI (by omega) (by omega)).mpr q))
    refine lv_iload_n hx hb dX12_isPrime_9 rfl (lv_at hl 1 rfl) ?_
    refine lv_iload_n hx hb dX12_isPrime_10 rfl (lv_at hl 0 rfl) ?_
    refine lv_irem hx hb dX12_isPrime_11 (nI_ne0 (by omega) (by omega)) ?_
    refine lv_topi (fun x_7 ex_7 => ?_)
    obtain rfl : x_7 = (nI (p1 % d1)) := ex_7.trans (pk_rem (by omega) (by omega) (by omega))
    refine lv_if_ne (tgt := 17) hx hb dX12_isPrime_12 (by decide) (fun c_8 => ?_) (fun c_8 => ?_)
    ·
      refine lv_iinc (v := (nI (d1 + 1))) (lv' := [(1, .int (nI (d1 + 1))), (0, .int (nI p1))]) hx hb dX12_isPrime_17 hl (k := 0) rfl (nI_1 _) (by decide) rfl (fun ls hl => ?_)
      refine lv_goto (tgt := 2) hx hb dX12_isPrime_20 (by decide) ?_
      refine W.widen (k := 0) (n := 0) (by omega) (by omega) ?_
      exact ih_2 (d1 + 1) (prs hv_1 (by omega) hp2 c_8) (by show 30 - (d1 + 1) < 30 - d1; have := sq20 (d := d1) (p := p1) (by omega) hp2; omega) _ _ (hP.sub [] rfl) (hD.sub [] (by decide) rfl) hS ls (lv_sub hl [0, 1] rfl)
    ·
      refine lv_iconst (v := 0) hx hb dX12_isPrime_15 (by decide) ?_
      have hP9 := hP.sub (ws' := []) [] rfl
      have hD9 := hD.sub (ws' := []) [] (by decide) rfl
      have hK9 := hK.sub (tys' := []) [] rfl
      refine W.widen (k := 0) (n := 0) (by omega) (by omega) ?_
      exact W.zret (v := 0) (ty := .boolean) hx hb hr (by decide) (fun t ht hW => ⟨⟨0, (), rfl, (pr0 hv_1 (by omega) hp2 c_8), QW.mk ht hW hP9 hK9 hD9⟩, hS.F ht⟩) hS.2.2 dX12_isPrime_16
