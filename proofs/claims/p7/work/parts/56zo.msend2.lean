theorem kt_1138 : Cond.fieldLink RX15 104 "PostGateModel" "wish" "LPostGateModel$Tags;" ∈ tb := tb_at (i := 1326) (by decide +kernel) (by decide +kernel)
theorem dX15_sender_0 : decode cX15_sender 0 = .ok (.aload_n 0, 1) := by decide +kernel
theorem dX15_sender_1 : decode cX15_sender 1 = .ok (.invokevirtual 174, 3) := by decide +kernel
theorem dX15_sender_4 : decode cX15_sender 4 = .ok (.istore_n 2, 1) := by decide +kernel
theorem dX15_sender_5 : decode cX15_sender 5 = .ok (.iconst 0, 1) := by decide +kernel
theorem dX15_sender_6 : decode cX15_sender 6 = .ok (.istore_n 3, 1) := by decide +kernel
theorem dX15_sender_7 : decode cX15_sender 7 = .ok (.iload_n 3, 1) := by decide +kernel
theorem dX15_sender_8 : decode cX15_sender 8 = .ok (.iload_n 2, 1) := by decide +kernel
theorem dX15_sender_9 : decode cX15_sender 9 = .ok (.if_icmp .ge 20, 3) := by decide +kernel
theorem dX15_sender_12 : decode cX15_sender 12 = .ok (.aload_n 0, 1) := by decide +kernel
theorem dX15_sender_13 : decode cX15_sender 13 = .ok (.getfield 31, 3) := by decide +kernel
theorem dX15_sender_16 : decode cX15_sender 16 = .ok (.iload_n 3, 1) := by decide +kernel
theorem dX15_sender_17 : decode cX15_sender 17 = .ok (.baload, 1) := by decide +kernel
theorem dX15_sender_18 : decode cX15_sender 18 = .ok (.bipush 64, 2) := by decide +kernel
theorem dX15_sender_20 : decode cX15_sender 20 = .ok (.if_icmp .eq 9, 3) := by decide +kernel
theorem dX15_sender_23 : decode cX15_sender 23 = .ok (.iinc 3 1, 3) := by decide +kernel
theorem dX15_sender_26 : decode cX15_sender 26 = .ok (.goto (-19), 3) := by decide +kernel
theorem dX15_sender_29 : decode cX15_sender 29 = .ok (.iload_n 3, 1) := by decide +kernel
theorem dX15_sender_30 : decode cX15_sender 30 = .ok (.iload_n 2, 1) := by decide +kernel
theorem dX15_sender_31 : decode cX15_sender 31 = .ok (.if_icmp .eq 29, 3) := by decide +kernel
theorem dX15_sender_34 : decode cX15_sender 34 = .ok (.iload_n 3, 1) := by decide +kernel
theorem dX15_sender_35 : decode cX15_sender 35 = .ok (.i2l, 1) := by decide +kernel
theorem dX15_sender_36 : decode cX15_sender 36 = .ok (.lconst 1, 1) := by decide +kernel
theorem dX15_sender_37 : decode cX15_sender 37 = .ok (.ldc2_w 200, 3) := by decide +kernel
theorem dX15_sender_40 : decode cX15_sender 40 = .ok (.invokestatic 170, 3) := by decide +kernel
theorem dX15_sender_43 : decode cX15_sender 43 = .ok (.ifCond .eq 17, 3) := by decide +kernel
theorem dX15_sender_46 : decode cX15_sender 46 = .ok (.aload_n 0, 1) := by decide +kernel
theorem dX15_sender_47 : decode cX15_sender 47 = .ok (.getfield 31, 3) := by decide +kernel
theorem dX15_sender_50 : decode cX15_sender 50 = .ok (.iload_n 3, 1) := by decide +kernel
theorem dX15_sender_51 : decode cX15_sender 51 = .ok (.iconst 1, 1) := by decide +kernel
theorem dX15_sender_52 : decode cX15_sender 52 = .ok (.iadd, 1) := by decide +kernel
theorem dX15_sender_53 : decode cX15_sender 53 = .ok (.iload_n 2, 1) := by decide +kernel
theorem dX15_sender_54 : decode cX15_sender 54 = .ok (.invokestatic 182, 3) := by decide +kernel
theorem dX15_sender_57 : decode cX15_sender 57 = .ok (.ifCond .ne 5, 3) := by decide +kernel
theorem dX15_sender_60 : decode cX15_sender 60 = .ok (.iconst (-1), 1) := by decide +kernel
theorem dX15_sender_61 : decode cX15_sender 61 = .ok (.ireturn, 1) := by decide +kernel
theorem dX15_sender_62 : decode cX15_sender 62 = .ok (.iconst 0, 1) := by decide +kernel
theorem dX15_sender_63 : decode cX15_sender 63 = .ok (.istore 4, 2) := by decide +kernel
theorem dX15_sender_65 : decode cX15_sender 65 = .ok (.iload 4, 2) := by decide +kernel
theorem dX15_sender_67 : decode cX15_sender 67 = .ok (.iload_n 3, 1) := by decide +kernel
theorem dX15_sender_68 : decode cX15_sender 68 = .ok (.if_icmp .ge 64, 3) := by decide +kernel
theorem dX15_sender_71 : decode cX15_sender 71 = .ok (.aload_n 0, 1) := by decide +kernel
theorem dX15_sender_72 : decode cX15_sender 72 = .ok (.getfield 31, 3) := by decide +kernel
theorem dX15_sender_75 : decode cX15_sender 75 = .ok (.iload 4, 2) := by decide +kernel
theorem dX15_sender_77 : decode cX15_sender 77 = .ok (.baload, 1) := by decide +kernel
theorem dX15_sender_78 : decode cX15_sender 78 = .ok (.istore 5, 2) := by decide +kernel
theorem dX15_sender_80 : decode cX15_sender 80 = .ok (.iload 5, 2) := by decide +kernel
theorem dX15_sender_82 : decode cX15_sender 82 = .ok (.invokestatic 3, 3) := by decide +kernel
theorem dX15_sender_85 : decode cX15_sender 85 = .ok (.ifCond .ne 41, 3) := by decide +kernel
theorem dX15_sender_88 : decode cX15_sender 88 = .ok (.iload 5, 2) := by decide +kernel
theorem dX15_sender_90 : decode cX15_sender 90 = .ok (.invokestatic 202, 3) := by decide +kernel
theorem dX15_sender_93 : decode cX15_sender 93 = .ok (.ifCond .ne 33, 3) := by decide +kernel
theorem dX15_sender_96 : decode cX15_sender 96 = .ok (.iload 5, 2) := by decide +kernel
theorem dX15_sender_98 : decode cX15_sender 98 = .ok (.bipush 46, 2) := by decide +kernel
theorem dX15_sender_100 : decode cX15_sender 100 = .ok (.if_icmp .eq 26, 3) := by decide +kernel
theorem dX15_sender_103 : decode cX15_sender 103 = .ok (.iload 5, 2) := by decide +kernel
theorem dX15_sender_105 : decode cX15_sender 105 = .ok (.bipush 45, 2) := by decide +kernel
theorem dX15_sender_107 : decode cX15_sender 107 = .ok (.if_icmp .eq 19, 3) := by decide +kernel
theorem dX15_sender_110 : decode cX15_sender 110 = .ok (.iload 5, 2) := by decide +kernel
theorem dX15_sender_112 : decode cX15_sender 112 = .ok (.bipush 95, 2) := by decide +kernel
theorem dX15_sender_114 : decode cX15_sender 114 = .ok (.if_icmp .eq 12, 3) := by decide +kernel
theorem dX15_sender_117 : decode cX15_sender 117 = .ok (.iload 5, 2) := by decide +kernel
theorem dX15_sender_119 : decode cX15_sender 119 = .ok (.bipush 43, 2) := by decide +kernel
theorem dX15_sender_121 : decode cX15_sender 121 = .ok (.if_icmp .eq 5, 3) := by decide +kernel
theorem dX15_sender_124 : decode cX15_sender 124 = .ok (.iconst (-1), 1) := by decide +kernel
theorem dX15_sender_125 : decode cX15_sender 125 = .ok (.ireturn, 1) := by decide +kernel
theorem dX15_sender_126 : decode cX15_sender 126 = .ok (.iinc 4 1, 3) := by decide +kernel
theorem dX15_sender_129 : decode cX15_sender 129 = .ok (.goto (-64), 3) := by decide +kernel
theorem dX15_sender_132 : decode cX15_sender 132 = .ok (.aload_n 0, 1) := by decide +kernel
theorem dX15_sender_133 : decode cX15_sender 133 = .ok (.getfield 57, 3) := by decide +kernel
theorem dX15_sender_136 : decode cX15_sender 136 = .ok (.aload_n 0, 1) := by decide +kernel
theorem dX15_sender_137 : decode cX15_sender 137 = .ok (.getfield 31, 3) := by decide +kernel
theorem dX15_sender_140 : decode cX15_sender 140 = .ok (.iconst 0, 1) := by decide +kernel
theorem dX15_sender_141 : decode cX15_sender 141 = .ok (.iload_n 3, 1) := by decide +kernel
theorem dX15_sender_142 : decode cX15_sender 142 = .ok (.invokevirtual 186, 3) := by decide +kernel
theorem dX15_sender_145 : decode cX15_sender 145 = .ok (.aload_n 0, 1) := by decide +kernel
theorem dX15_sender_146 : decode cX15_sender 146 = .ok (.getfield 61, 3) := by decide +kernel
theorem dX15_sender_149 : decode cX15_sender 149 = .ok (.aload_n 0, 1) := by decide +kernel
theorem dX15_sender_150 : decode cX15_sender 150 = .ok (.getfield 31, 3) := by decide +kernel
theorem dX15_sender_153 : decode cX15_sender 153 = .ok (.iload_n 3, 1) := by decide +kernel
theorem dX15_sender_154 : decode cX15_sender 154 = .ok (.iconst 1, 1) := by decide +kernel
theorem dX15_sender_155 : decode cX15_sender 155 = .ok (.iadd, 1) := by decide +kernel
theorem dX15_sender_156 : decode cX15_sender 156 = .ok (.iload_n 2, 1) := by decide +kernel
theorem dX15_sender_157 : decode cX15_sender 157 = .ok (.invokevirtual 186, 3) := by decide +kernel
theorem dX15_sender_160 : decode cX15_sender 160 = .ok (.aload_n 0, 1) := by decide +kernel
theorem dX15_sender_161 : decode cX15_sender 161 = .ok (.iload_n 1, 1) := by decide +kernel
theorem dX15_sender_162 : decode cX15_sender 162 = .ok (.putfield 205, 3) := by decide +kernel
theorem dX15_sender_165 : decode cX15_sender 165 = .ok (.aload_n 0, 1) := by decide +kernel
theorem dX15_sender_166 : decode cX15_sender 166 = .ok (.iconst 1, 1) := by decide +kernel
theorem dX15_sender_167 : decode cX15_sender 167 = .ok (.putfield 208, 3) := by decide +kernel
theorem dX15_sender_170 : decode cX15_sender 170 = .ok (.iconst 0, 1) := by decide +kernel
theorem dX15_sender_171 : decode cX15_sender 171 = .ok (.ireturn, 1) := by decide +kernel
theorem dX15_wish_0 : decode cX15_wish 0 = .ok (.aload_n 0, 1) := by decide +kernel
theorem dX15_wish_1 : decode cX15_wish 1 = .ok (.getfield 208, 3) := by decide +kernel
theorem dX15_wish_4 : decode cX15_wish 4 = .ok (.ifCond .eq 7, 3) := by decide +kernel
theorem dX15_wish_7 : decode cX15_wish 7 = .ok (.iload_n 1, 1) := by decide +kernel
theorem dX15_wish_8 : decode cX15_wish 8 = .ok (.ifCond .ge 5, 3) := by decide +kernel
theorem dX15_wish_11 : decode cX15_wish 11 = .ok (.iconst (-1), 1) := by decide +kernel
theorem dX15_wish_12 : decode cX15_wish 12 = .ok (.ireturn, 1) := by decide +kernel
theorem dX15_wish_13 : decode cX15_wish 13 = .ok (.aload_n 0, 1) := by decide +kernel
theorem dX15_wish_14 : decode cX15_wish 14 = .ok (.getfield 370, 3) := by decide +kernel
theorem dX15_wish_17 : decode cX15_wish 17 = .ok (.ifCond .ne 6, 3) := by decide +kernel
theorem dX15_wish_20 : decode cX15_wish 20 = .ok (.bipush (-2), 2) := by decide +kernel
theorem dX15_wish_22 : decode cX15_wish 22 = .ok (.ireturn, 1) := by decide +kernel
theorem dX15_wish_23 : decode cX15_wish 23 = .ok (.aload_n 0, 1) := by decide +kernel
theorem dX15_wish_24 : decode cX15_wish 24 = .ok (.invokevirtual 581, 3) := by decide +kernel
theorem dX15_wish_27 : decode cX15_wish 27 = .ok (.ifCond .ne 5, 3) := by decide +kernel
theorem dX15_wish_30 : decode cX15_wish 30 = .ok (.iconst 1, 1) := by decide +kernel
theorem dX15_wish_31 : decode cX15_wish 31 = .ok (.ireturn, 1) := by decide +kernel
theorem dX15_wish_32 : decode cX15_wish 32 = .ok (.iconst 1, 1) := by decide +kernel
theorem dX15_wish_33 : decode cX15_wish 33 = .ok (.istore_n 2, 1) := by decide +kernel
theorem dX15_wish_34 : decode cX15_wish 34 = .ok (.aload_n 0, 1) := by decide +kernel
theorem dX15_wish_35 : decode cX15_wish 35 = .ok (.aload_n 0, 1) := by decide +kernel
theorem dX15_wish_36 : decode cX15_wish 36 = .ok (.getfield 157, 3) := by decide +kernel
theorem dX15_wish_39 : decode cX15_wish 39 = .ok (.invokevirtual 584, 3) := by decide +kernel
theorem dX15_wish_42 : decode cX15_wish 42 = .ok (.istore_n 3, 1) := by decide +kernel
theorem dX15_wish_43 : decode cX15_wish 43 = .ok (.iload_n 3, 1) := by decide +kernel
theorem dX15_wish_44 : decode cX15_wish 44 = .ok (.iconst (-1), 1) := by decide +kernel
theorem dX15_wish_45 : decode cX15_wish 45 = .ok (.if_icmp .ne 26, 3) := by decide +kernel
theorem dX15_wish_48 : decode cX15_wish 48 = .ok (.iconst 0, 1) := by decide +kernel
theorem dX15_wish_49 : decode cX15_wish 49 = .ok (.istore_n 2, 1) := by decide +kernel
theorem dX15_wish_50 : decode cX15_wish 50 = .ok (.aload_n 0, 1) := by decide +kernel
theorem dX15_wish_51 : decode cX15_wish 51 = .ok (.aload_n 0, 1) := by decide +kernel
theorem dX15_wish_52 : decode cX15_wish 52 = .ok (.getfield 157, 3) := by decide +kernel
theorem dX15_wish_55 : decode cX15_wish 55 = .ok (.aload_n 0, 1) := by decide +kernel
theorem dX15_wish_56 : decode cX15_wish 56 = .ok (.getfield 160, 3) := by decide +kernel
theorem dX15_wish_59 : decode cX15_wish 59 = .ok (.invokevirtual 565, 3) := by decide +kernel
theorem dX15_wish_62 : decode cX15_wish 62 = .ok (.aload_n 0, 1) := by decide +kernel
theorem dX15_wish_63 : decode cX15_wish 63 = .ok (.aload_n 0, 1) := by decide +kernel
theorem dX15_wish_64 : decode cX15_wish 64 = .ok (.getfield 160, 3) := by decide +kernel
theorem dX15_wish_67 : decode cX15_wish 67 = .ok (.invokevirtual 584, 3) := by decide +kernel
theorem dX15_wish_70 : decode cX15_wish 70 = .ok (.istore_n 3, 1) := by decide +kernel
theorem dX15_wish_71 : decode cX15_wish 71 = .ok (.iload_n 3, 1) := by decide +kernel
theorem dX15_wish_72 : decode cX15_wish 72 = .ok (.ifCond .ge 15, 3) := by decide +kernel
theorem dX15_wish_75 : decode cX15_wish 75 = .ok (.iload_n 3, 1) := by decide +kernel
theorem dX15_wish_76 : decode cX15_wish 76 = .ok (.bipush (-2), 2) := by decide +kernel
theorem dX15_wish_78 : decode cX15_wish 78 = .ok (.if_icmp .ne 7, 3) := by decide +kernel
theorem dX15_wish_81 : decode cX15_wish 81 = .ok (.iconst 5, 1) := by decide +kernel
theorem dX15_wish_82 : decode cX15_wish 82 = .ok (.goto 4, 3) := by decide +kernel
theorem dX15_wish_85 : decode cX15_wish 85 = .ok (.iconst 0, 1) := by decide +kernel
theorem dX15_wish_86 : decode cX15_wish 86 = .ok (.ireturn, 1) := by decide +kernel
theorem dX15_wish_87 : decode cX15_wish 87 = .ok (.aload_n 0, 1) := by decide +kernel
theorem dX15_wish_88 : decode cX15_wish 88 = .ok (.getfield 51, 3) := by decide +kernel
theorem dX15_wish_91 : decode cX15_wish 91 = .ok (.iload_n 3, 1) := by decide +kernel
theorem dX15_wish_92 : decode cX15_wish 92 = .ok (.aaload, 1) := by decide +kernel
theorem dX15_wish_93 : decode cX15_wish 93 = .ok (.getfield 295, 3) := by decide +kernel
theorem dX15_wish_96 : decode cX15_wish 96 = .ok (.iconst 0, 1) := by decide +kernel
theorem dX15_wish_97 : decode cX15_wish 97 = .ok (.aload_n 0, 1) := by decide +kernel
theorem dX15_wish_98 : decode cX15_wish 98 = .ok (.getfield 51, 3) := by decide +kernel
theorem dX15_wish_101 : decode cX15_wish 101 = .ok (.iload_n 3, 1) := by decide +kernel
theorem dX15_wish_102 : decode cX15_wish 102 = .ok (.aaload, 1) := by decide +kernel
theorem dX15_wish_103 : decode cX15_wish 103 = .ok (.getfield 190, 3) := by decide +kernel
theorem dX15_wish_106 : decode cX15_wish 106 = .ok (.aload_n 0, 1) := by decide +kernel
theorem dX15_wish_107 : decode cX15_wish 107 = .ok (.getfield 104, 3) := by decide +kernel
theorem dX15_wish_110 : decode cX15_wish 110 = .ok (.getfield 409, 3) := by decide +kernel
theorem dX15_wish_113 : decode cX15_wish 113 = .ok (.invokestatic 507, 3) := by decide +kernel
theorem dX15_wish_116 : decode cX15_wish 116 = .ok (.aload_n 0, 1) := by decide +kernel
theorem dX15_wish_117 : decode cX15_wish 117 = .ok (.getfield 104, 3) := by decide +kernel
theorem dX15_wish_120 : decode cX15_wish 120 = .ok (.bipush 8, 2) := by decide +kernel
theorem dX15_wish_122 : decode cX15_wish 122 = .ok (.invokevirtual 441, 3) := by decide +kernel
theorem dX15_wish_125 : decode cX15_wish 125 = .ok (.ifCond .ne 6, 3) := by decide +kernel
theorem dX15_wish_128 : decode cX15_wish 128 = .ok (.bipush 6, 2) := by decide +kernel
theorem dX15_wish_130 : decode cX15_wish 130 = .ok (.ireturn, 1) := by decide +kernel
theorem dX15_wish_131 : decode cX15_wish 131 = .ok (.aload_n 0, 1) := by decide +kernel
theorem dX15_wish_132 : decode cX15_wish 132 = .ok (.getfield 104, 3) := by decide +kernel
theorem dX15_wish_135 : decode cX15_wish 135 = .ok (.ldc_w 533, 3) := by decide +kernel
theorem dX15_wish_138 : decode cX15_wish 138 = .ok (.invokestatic 587, 3) := by decide +kernel
theorem dX15_wish_141 : decode cX15_wish 141 = .ok (.istore 4, 2) := by decide +kernel
theorem dX15_wish_143 : decode cX15_wish 143 = .ok (.iload 4, 2) := by decide +kernel
theorem dX15_wish_145 : decode cX15_wish 145 = .ok (.bipush 6, 2) := by decide +kernel
theorem dX15_wish_147 : decode cX15_wish 147 = .ok (.if_icmp .ne 6, 3) := by decide +kernel
theorem dX15_wish_150 : decode cX15_wish 150 = .ok (.bipush 6, 2) := by decide +kernel
theorem dX15_wish_152 : decode cX15_wish 152 = .ok (.ireturn, 1) := by decide +kernel
theorem dX15_wish_153 : decode cX15_wish 153 = .ok (.iload_n 2, 1) := by decide +kernel
theorem dX15_wish_154 : decode cX15_wish 154 = .ok (.ifCond .ne 38, 3) := by decide +kernel
theorem dX15_wish_157 : decode cX15_wish 157 = .ok (.aload_n 0, 1) := by decide +kernel
theorem dX15_wish_158 : decode cX15_wish 158 = .ok (.getfield 104, 3) := by decide +kernel
theorem dX15_wish_161 : decode cX15_wish 161 = .ok (.ldc_w 590, 3) := by decide +kernel
theorem dX15_wish_164 : decode cX15_wish 164 = .ok (.invokevirtual 399, 3) := by decide +kernel
theorem dX15_wish_167 : decode cX15_wish 167 = .ok (.ifCond .lt 25, 3) := by decide +kernel
theorem dX15_wish_170 : decode cX15_wish 170 = .ok (.aload_n 0, 1) := by decide +kernel
theorem dX15_wish_171 : decode cX15_wish 171 = .ok (.getfield 104, 3) := by decide +kernel
theorem dX15_wish_174 : decode cX15_wish 174 = .ok (.ldc_w 590, 3) := by decide +kernel
theorem dX15_wish_177 : decode cX15_wish 177 = .ok (.invokestatic 587, 3) := by decide +kernel
theorem dX15_wish_180 : decode cX15_wish 180 = .ok (.istore 4, 2) := by decide +kernel
theorem dX15_wish_182 : decode cX15_wish 182 = .ok (.iload 4, 2) := by decide +kernel
theorem dX15_wish_184 : decode cX15_wish 184 = .ok (.bipush 6, 2) := by decide +kernel
theorem dX15_wish_186 : decode cX15_wish 186 = .ok (.if_icmp .ne 6, 3) := by decide +kernel
theorem dX15_wish_189 : decode cX15_wish 189 = .ok (.bipush 6, 2) := by decide +kernel
theorem dX15_wish_191 : decode cX15_wish 191 = .ok (.ireturn, 1) := by decide +kernel
theorem dX15_wish_192 : decode cX15_wish 192 = .ok (.aload_n 0, 1) := by decide +kernel
theorem dX15_wish_193 : decode cX15_wish 193 = .ok (.invokevirtual 592, 3) := by decide +kernel
theorem dX15_wish_196 : decode cX15_wish 196 = .ok (.iconst 2, 1) := by decide +kernel
theorem dX15_wish_197 : decode cX15_wish 197 = .ok (.if_icmp .ne 33, 3) := by decide +kernel
theorem dX15_wish_200 : decode cX15_wish 200 = .ok (.aload_n 0, 1) := by decide +kernel
theorem dX15_wish_201 : decode cX15_wish 201 = .ok (.aload_n 0, 1) := by decide +kernel
theorem dX15_wish_202 : decode cX15_wish 202 = .ok (.getfield 61, 3) := by decide +kernel
theorem dX15_wish_205 : decode cX15_wish 205 = .ok (.aload_n 0, 1) := by decide +kernel
theorem dX15_wish_206 : decode cX15_wish 206 = .ok (.getfield 157, 3) := by decide +kernel
theorem dX15_wish_209 : decode cX15_wish 209 = .ok (.aload_n 0, 1) := by decide +kernel
theorem dX15_wish_210 : decode cX15_wish 210 = .ok (.getfield 104, 3) := by decide +kernel
theorem dX15_wish_213 : decode cX15_wish 213 = .ok (.ldc_w 595, 3) := by decide +kernel
theorem dX15_wish_216 : decode cX15_wish 216 = .ok (.ldc_w 460, 3) := by decide +kernel
theorem dX15_wish_219 : decode cX15_wish 219 = .ok (.invokevirtual 448, 3) := by decide +kernel
theorem dX15_wish_222 : decode cX15_wish 222 = .ok (.invokevirtual 597, 3) := by decide +kernel
theorem dX15_wish_225 : decode cX15_wish 225 = .ok (.ifCond .eq 5, 3) := by decide +kernel
theorem dX15_wish_228 : decode cX15_wish 228 = .ok (.iconst 2, 1) := by decide +kernel
theorem dX15_wish_229 : decode cX15_wish 229 = .ok (.ireturn, 1) := by decide +kernel
theorem dX15_wish_230 : decode cX15_wish 230 = .ok (.iconst 0, 1) := by decide +kernel
theorem dX15_wish_231 : decode cX15_wish 231 = .ok (.istore 5, 2) := by decide +kernel
theorem dX15_wish_233 : decode cX15_wish 233 = .ok (.iload 5, 2) := by decide +kernel
theorem dX15_wish_235 : decode cX15_wish 235 = .ok (.aload_n 0, 1) := by decide +kernel
theorem dX15_wish_236 : decode cX15_wish 236 = .ok (.getfield 355, 3) := by decide +kernel
theorem dX15_wish_239 : decode cX15_wish 239 = .ok (.if_icmp .ge 65, 3) := by decide +kernel
theorem dX15_wish_242 : decode cX15_wish 242 = .ok (.aload_n 0, 1) := by decide +kernel
theorem dX15_wish_243 : decode cX15_wish 243 = .ok (.iload 5, 2) := by decide +kernel
theorem dX15_wish_245 : decode cX15_wish 245 = .ok (.ldc_w 376, 3) := by decide +kernel
theorem dX15_wish_248 : decode cX15_wish 248 = .ok (.invokevirtual 378, 3) := by decide +kernel
theorem dX15_wish_251 : decode cX15_wish 251 = .ok (.ifCond .eq 47, 3) := by decide +kernel
theorem dX15_wish_254 : decode cX15_wish 254 = .ok (.aload_n 0, 1) := by decide +kernel
theorem dX15_wish_255 : decode cX15_wish 255 = .ok (.iload 5, 2) := by decide +kernel
theorem dX15_wish_257 : decode cX15_wish 257 = .ok (.iload_n 1, 1) := by decide +kernel
theorem dX15_wish_258 : decode cX15_wish 258 = .ok (.invokevirtual 504, 3) := by decide +kernel
theorem dX15_wish_261 : decode cX15_wish 261 = .ok (.iconst 2, 1) := by decide +kernel
theorem dX15_wish_262 : decode cX15_wish 262 = .ok (.if_icmp .eq 6, 3) := by decide +kernel
theorem dX15_wish_265 : decode cX15_wish 265 = .ok (.goto 33, 3) := by decide +kernel
theorem dX15_wish_268 : decode cX15_wish 268 = .ok (.aload_n 0, 1) := by decide +kernel
theorem dX15_wish_269 : decode cX15_wish 269 = .ok (.aload_n 0, 1) := by decide +kernel
theorem dX15_wish_270 : decode cX15_wish 270 = .ok (.getfield 147, 3) := by decide +kernel
theorem dX15_wish_273 : decode cX15_wish 273 = .ok (.aload_n 0, 1) := by decide +kernel
theorem dX15_wish_274 : decode cX15_wish 274 = .ok (.getfield 157, 3) := by decide +kernel
theorem dX15_wish_277 : decode cX15_wish 277 = .ok (.aload_n 0, 1) := by decide +kernel
theorem dX15_wish_278 : decode cX15_wish 278 = .ok (.getfield 104, 3) := by decide +kernel
theorem dX15_wish_281 : decode cX15_wish 281 = .ok (.ldc_w 601, 3) := by decide +kernel
theorem dX15_wish_284 : decode cX15_wish 284 = .ok (.ldc_w 460, 3) := by decide +kernel
theorem dX15_wish_287 : decode cX15_wish 287 = .ok (.invokevirtual 448, 3) := by decide +kernel
theorem dX15_wish_290 : decode cX15_wish 290 = .ok (.invokevirtual 597, 3) := by decide +kernel
theorem dX15_wish_293 : decode cX15_wish 293 = .ok (.ifCond .eq 5, 3) := by decide +kernel
theorem dX15_wish_296 : decode cX15_wish 296 = .ok (.iconst 2, 1) := by decide +kernel
theorem dX15_wish_297 : decode cX15_wish 297 = .ok (.ireturn, 1) := by decide +kernel
theorem dX15_wish_298 : decode cX15_wish 298 = .ok (.iinc 5 1, 3) := by decide +kernel
theorem dX15_wish_301 : decode cX15_wish 301 = .ok (.goto (-68), 3) := by decide +kernel
theorem dX15_wish_304 : decode cX15_wish 304 = .ok (.iload 4, 2) := by decide +kernel
theorem dX15_wish_306 : decode cX15_wish 306 = .ok (.ireturn, 1) := by decide +kernel
theorem kt_1187 : Cond.constantLong RX15 200 30 ∈ tb := tb_at (i := 1515) (by decide +kernel) (by decide +kernel)
theorem kt_1188 : Cond.code yX15_isSeen cX15_isSeen 4 (some .boolean) ∈ tb := tb_at (i := 1868) (by decide +kernel) (by decide +kernel)
theorem kt_1189 : Cond.methodLink RX15 581 yX15_isSeen ∈ tb := tb_at (i := 1865) (by decide +kernel) (by decide +kernel)
theorem kt_1190 : Cond.instanceMethod yX15_isSeen ∈ tb := tb_at (i := 1867) (by decide +kernel) (by decide +kernel)
theorem kt_1191 : Cond.selects RX15 yX15_isSeen yX15_isSeen ∈ tb := tb_at (i := 77) (by decide +kernel) (by decide +kernel)
theorem kt_1192 : Cond.code yX15_wantedOf cX15_wantedOf 5 (some .int) ∈ tb := tb_at (i := 1877) (by decide +kernel) (by decide +kernel)
theorem kt_1193 : Cond.methodLink RX15 584 yX15_wantedOf ∈ tb := tb_at (i := 1874) (by decide +kernel) (by decide +kernel)
theorem kt_1194 : Cond.instanceMethod yX15_wantedOf ∈ tb := tb_at (i := 1876) (by decide +kernel) (by decide +kernel)
theorem kt_1195 : Cond.selects RX15 yX15_wantedOf yX15_wantedOf ∈ tb := tb_at (i := 78) (by decide +kernel) (by decide +kernel)
theorem kt_1196 : Cond.code yX15_wanted cX15_wanted 2 (some .int) ∈ tb := tb_at (i := 1882) (by decide +kernel) (by decide +kernel)
theorem kt_1197 : Cond.methodLink RX15 587 yX15_wanted ∈ tb := tb_at (i := 1880) (by decide +kernel) (by decide +kernel)
theorem kt_1198 : Cond.static yX15_wanted ∈ tb := tb_at (i := 1881) (by decide +kernel) (by decide +kernel)
theorem kt_1199 : Cond.code yX15_permission cX15_permission 1 (some .int) ∈ tb := tb_at (i := 1521) (by decide +kernel) (by decide +kernel)
theorem kt_1200 : Cond.methodLink RX15 592 yX15_permission ∈ tb := tb_at (i := 1887) (by decide +kernel) (by decide +kernel)
theorem kt_1201 : Cond.instanceMethod yX15_permission ∈ tb := tb_at (i := 1519) (by decide +kernel) (by decide +kernel)
theorem kt_1202 : Cond.selects RX15 yX15_permission yX15_permission ∈ tb := tb_at (i := 1520) (by decide +kernel) (by decide +kernel)
theorem kt_1203 : Cond.code yX15_isAligned cX15_isAligned 4 (some .boolean) ∈ tb := tb_at (i := 1892) (by decide +kernel) (by decide +kernel)
theorem kt_1204 : Cond.methodLink RX15 597 yX15_isAligned ∈ tb := tb_at (i := 1889) (by decide +kernel) (by decide +kernel)
theorem kt_1205 : Cond.instanceMethod yX15_isAligned ∈ tb := tb_at (i := 1891) (by decide +kernel) (by decide +kernel)
theorem kt_1206 : Cond.selects RX15 yX15_isAligned yX15_isAligned ∈ tb := tb_at (i := 79) (by decide +kernel) (by decide +kernel)
def xN (x : Int32) : Nat := x.toBitVec.toNat
theorem xN_e (x : Int32) : nI (xN x) = x := Int32.toBitVec_inj.mp (by
  show (nI x.toBitVec.toNat).toBitVec = x.toBitVec
  unfold nI
  simp)
def fmq (gs : Option Nat) (fm : Nat) (x : Int32) : Nat := match gs with
  | none => fm
  | some _ => xN x
def snq (gs : Option Nat) (sn : Nat) : Nat := match gs with
  | none => sn
  | some _ => 1
set_option maxHeartbeats 4000000 in
set_option maxRecDepth 100000 in
theorem s_X15_sender_x (l : Launch) (dC : Nat → ClassId) (dI : Nat → Nat → Nat) (cs : Nat → ClassId) (ty : TyM) (gm : Nat → Nat → Nat) (L : List Nat) (sz : Nat) (F : Nat → va_E) (h0 : Nat) (ρ : Nat) (ta : Nat) (ou : Nat) (so : Nat) (ad : Nat) (na : Nat) (va : Nat) (lc : Nat) (dm : Nat) (tg : Nat) (pe : Nat) (ml : Nat) (bg : Nat) (co : Nat) (sp : Nat) (nb0 : Nat) (nb1 : Nat) (nb2 : Nat) (pl : Nat) (se : Nat) (ke : Nat) (wi : Nat) (hs : Nat) (mo : Nat) (po : Nat) (nu : Nat) (pr : Nat) (sq : Nat) (xa : Nat) (sa : Nat) (n64 : Nat) (m64 : Nat) (ex : Nat) (wh : Nat) (sd : Nat) (tk : Nat) (hd : Nat) (ak : Nat) (ho : Nat) (ot : Nat) (sx : Nat) (s0 : Nat) (s1 : Nat) (s2 : Nat) (nf : Nat) (bd : Nat) (mm : Nat) (fm : Nat) (sn : Nat) (ze : Nat) (zt : Nat) (x1 : Int32) (gt : Nat → Int32) (hW : WTm ty gm L) (hL_h0 : h0 ∈ L) (hT_h0 : ty h0 = (15, ρ, [ta, ou, so, ad, na, va, lc, dm, tg, pe, ml, bg, co, sp, nb0, nb1, nb2, pl, se, ke, wi, hs, mo, po, nu, pr, sq, xa, sa, n64, m64, ex, wh, sd, tk, hd, ak, ho, ot, sx, s0, s1, s2, nf, bd, mm, fm, sn, ze, zt])) (hFta : F ta = .inl (cs 17, 3000, .inl gt)) : Met l yX15_sender (.code yX15_sender cX15_sender 6 (some .int) :: tb) ({ frames := 3, cells := 0, slots := 0, locals := 94 }) (va_Pc [.ref h0, .int x1] (PTm (dC, dI) cs ty gm L F sz)) (va_Qi (fun (r : Int32) (gs : Option Nat) => ((r = 0 ∧ ∃ k, FST gt 64 zt k ∧ LCL gt k ∧ NM gt (k + 1) zt = true ∧ gs = some k) ∨ (r = (-1) ∧ ¬ SND gt zt ∧ gs = none))) (fun (gs : Option Nat) T9 => ∃ F2 : Nat → va_E, ∃ ty2 : TyM, ty2 = rtf ty h0 (15, ρ, [ta, ou, so, ad, na, va, lc, dm, tg, pe, ml, bg, co, sp, nb0, nb1, nb2, pl, se, ke, wi, hs, mo, po, nu, pr, sq, xa, sa, n64, m64, ex, wh, sd, tk, hd, ak, ho, ot, sx, s0, s1, s2, nf, bd, mm, (fmq gs fm x1), (snq gs sn), ze, 0]) ∧ QTm (dC, dI) cs ty2 gm L [ρ, ρ + 5, ρ + 32] F F2 (va_A (va_pl L F) sz) T9 ∧ WTm ty2 gm L ∧ ((gs = none ∧ FR ty [ρ] F F2) ∨ (∃ k, gs = some k ∧ TXM cs F2 lc 30 (tpL gt 0 k) ∧ TXM cs F2 dm 60 (tpL gt (k + 1) (zt - (k + 1)))))) (va_A (va_pl L F) sz)) 0 0 (va_A (va_pl L F) sz) := by
  refine Met.ofW (cc := cX15_sender) (maxL := 6) (ret := (some .int)) (by decide) rfl ?_
  intro p e s m args below meth c s₁ B hml hv
  obtain ⟨rfl, hsz, hP, hK, hD0, hE, hO⟩ := hv
  have hx := B.exec
  have hb := B.bytes
  have hr := B.returns
  have hts : ∀ w ∈ tb, w.before _ s = true := fun w h => atoms_spec (ws := .code yX15_sender cX15_sender 6 (some .int) :: tb) B.pre w (List.mem_cons_of_mem _ h)
  have hown : s.vm.findClass RX15 = some m.cls := findClass_of_methodNamed B.named
  have hlocks := B.notSynchronized
  subst hsz
  have hD := hD0.self (sz := s.heap.size)
  generalize hAe : va_A (va_pl L F) s.heap.size = A at hD ⊢
  have hA : ∀ q : Nat, s.heap.size ≤ q → A q := fun q h => by rw [← hAe]; exact Or.inr h
  have hS : va_S A s.heap s.heap [] := va_S.rf
  have hR : FR ty [ρ, ρ + 5, ρ + 32] F F := FR.refl
  have hl := lv_entry ([.ref h0, .int x1]) (n := 6) (Nat.le_of_ble_eq_true rfl)
  rw [lg_entry_eq]
  generalize (lg_sl ([.ref h0, .int x1]) ++ List.replicate (6 - (lg_sl ([.ref h0, .int x1])).length) Slot.unset).toArray = ls at hl ⊢
  have hl : lv_has ls 6 [(0, .ref h0), (1, .int x1)] := hl
  obtain ⟨ty0, hty0⟩ : ∃ t9 : TyM, t9 = ty := ⟨_, rfl⟩
  have hT00 := hT_h0
  obtain ⟨hq_23, hq_24, hq_25, hq_26, hq_27, hgO, hgA, hgB, hq_28⟩ := hW.sc hL_h0 hT_h0
  refine lv_aload_n hx hb dX15_sender_0 rfl (lv_at hl 0 rfl) ?_
  obtain ⟨zo_29, v14_30, v15_31, v17_32, v18_33, v19_34, v20_35, v21_36, v22_37, v33_38, v52_39, v53_40, v54_41, hF_42, hq_43, hq_44, hq_45, hq_46⟩ := hO.mod hL_h0 hT_h0
  have hFc := pg_free hD hS hA
  refine va_calli (va_runV (As := []) (rest := []) ⟨hx, hb, hml, hown, hts⟩ (s_X15_used l dC dI cs ty gm L s.heap.size F h0 ρ ta ou so ad na va lc dm tg pe ml bg co sp nb0 nb1 nb2 pl se ke wi hs mo po nu pr sq xa sa n64 m64 ex wh sd tk hd ak ho ot sx s0 s1 s2 nf bd mm fm sn ze zt zo_29 v14_30 v15_31 v17_32 v18_33 v19_34 v20_35 v21_36 v22_37 v33_38 v52_39 v53_40 v54_41 hW hL_h0 hT_h0 hF_42 (by first | omega | assumption) (by first | omega | assumption) (by first | omega | assumption) (by first | omega | assumption)) ⟨callB_of 0 hts (gi kt_1005) rfl rfl rfl (hts _ kt_669) (hts _ kt_1006) (by decide +kernel) ⟨Nat.le_of_ble_eq_true rfl, Nat.le_of_ble_eq_true rfl⟩, (hts _ kt_1007), (hts _ kt_1008)⟩ ⟨fun a U g mk q => ⟨q.1, PTm.calling q.2⟩, pg_recv hK hP hL_h0 hF_42 (q := (RX15, TX15, 59)) rfl, fun U hU hWm => ⟨rfl, PTm.mk hU hWm hP hK hD hE hO⟩⟩ rfl rfl hl.1 rfl (lv_room (Nat.le_of_ble_eq_true rfl)) dX15_sender_1 ⟨by show _ + 0 ≤ 0; omega, by show _ + 0 ≤ 0; omega⟩) hS (fun q _ h => hFc q h) hFc (fun r_47 u t H1 locs ht hvm hw hB hz1 hk1 hS => ?_)
  obtain ⟨F_48, ty9, hty9, hB1, hW9, hq_49⟩ := hB
  subst hty9
  have hR9 := FR.retype (im2 := [ta, ou, so, ad, na, va, lc, dm, tg, pe, ml, bg, co, sp, nb0, nb1, nb2, pl, se, ke, wi, hs, mo, po, nu, pr, sq, xa, sa, n64, m64, ex, wh, sd, tk, hd, ak, ho, ot, sx, s0, s1, s2, nf, bd, mm, fm, sn, ze, 0]) hT_h0 hR
  obtain ⟨hP, hD, hO, hR⟩ := QTm.back hB1 ht hFc hR9 (fun q h => by simp only [List.mem_cons, List.not_mem_nil, or_false] at h ⊢; omega)
  obtain ⟨ty, hty, hT_h0, hW, hO, hR⟩ : ∃ t9 : TyM, t9 = rtf ty h0 (15, ρ, [ta, ou, so, ad, na, va, lc, dm, tg, pe, ml, bg, co, sp, nb0, nb1, nb2, pl, se, ke, wi, hs, mo, po, nu, pr, sq, xa, sa, n64, m64, ex, wh, sd, tk, hd, ak, ho, ot, sx, s0, s1, s2, nf, bd, mm, fm, sn, ze, 0]) ∧ t9 h0 = (15, ρ, [ta, ou, so, ad, na, va, lc, dm, tg, pe, ml, bg, co, sp, nb0, nb1, nb2, pl, se, ke, wi, hs, mo, po, nu, pr, sq, xa, sa, n64, m64, ex, wh, sd, tk, hd, ak, ho, ot, sx, s0, s1, s2, nf, bd, mm, fm, sn, ze, 0]) ∧ WTm t9 gm L ∧ OKm cs t9 gm L F_48 ∧ FR t9 [ρ, ρ + 5, ρ + 32] F F_48 := ⟨_, rfl, rtf_self, hW9, hO, hR⟩
  generalize H1 = H at hP hS ⊢
  have hw : r_47 = nI zt := hw
  subst hw
  obtain ⟨hq_72, hq_73, hq_74, hq_75, hq_76, hgO, hgA, hgB, hq_77⟩ := hW.sc hL_h0 hT_h0
  obtain ⟨hi_79, ht_80⟩ := hW.f_ta hL_h0 hT_h0
  have hF_78 : F_48 ta = .inl (cs 17, 3000, .inl gt) := (hB1.2.2.2 ta (by rw [← hty, ht_80]; simp)).trans hFta
  have hRu : FR ty0 [ρ] F F_48 := by rw [hty0]; exact FR.unre hT00 rfl hB1.2.2.2
  refine lv_istore_n (lv' := [(2, .int (nI zt)), (0, .ref h0), (1, .int x1)]) hx hb dX15_sender_4 rfl hl (by decide) rfl (fun ls hl => ?_)
  refine lv_iconst (v := 0) hx hb dX15_sender_5 (by decide) ?_
  refine lv_istore_n (lv' := [(3, .int 0), (2, .int (nI zt)), (0, .ref h0), (1, .int x1)]) hx hb dX15_sender_6 rfl hl (by decide) rfl (fun ls hl => ?_)
  refine W.widen (k := 0) (n := 0) (by omega) (by omega) ?_
  have hF_82 : F ta = .inl (cs 17, 3000, .inl gt) := (hR ta (by rw [ht_80]; simp)).symm.trans hF_78
  refine pl_loopm (σ := Nat) A (dC, dI) cs ty gm L [ρ, ρ + 5, ρ + 32] F 7 6 (fun j => [(3, .int (nI j)), (2, .int (nI zt)), (0, .ref h0), (1, .int x1)]) (fun j => []) (fun j FF => (j ≤ zt ∧ ∀ i, i < j → ¬ gt i = 64) ∧ FR ty0 [ρ] F FF) (fun j => zt - j) ?_ 0 F_48 (⟨⟨by omega, fun i hi => absurd hi (Nat.not_lt_zero _)⟩, hRu⟩) hO hR _ _ hP hD hS ls (lv_sub hl [0, 1, 2, 3] rfl)
  rintro j F_81 hv_83 hO hR ih_84 H locs hP hD hS ls hl
  have hl : lv_has ls 6 [(3, .int (nI j)), (2, .int (nI zt)), (0, .ref h0), (1, .int x1)] := hl
  have hv_83 : (j ≤ zt ∧ ∀ i, i < j → ¬ gt i = 64) ∧ FR ty0 [ρ] F F_81 := hv_83
  refine W.eq (g2 := F0 m 7 ls []) rfl ?_
  have hF_85 : F_81 ta = .inl (cs 17, 3000, .inl gt) := (hR ta (by rw [ht_80]; simp)).trans hF_82
  obtain ⟨⟨hv1, hv2⟩, hRu⟩ := id hv_83
  refine lv_iload_n hx hb dX15_sender_7 rfl (lv_at hl 0 rfl) ?_
  refine lv_iload_n hx hb dX15_sender_8 rfl (lv_at hl 1 rfl) ?_
  refine lv_icmp_ge (tgt := 29) hx hb dX15_sender_9 (by decide) (fun c_86 => ?_) (fun c_86 => ?_)
  ·
    have hi_87 : zt ≤ j := leN (N := zt) c_86
    have hfs : FST gt 64 zt j := ⟨by omega, hv2, Or.inl (by omega)⟩
    refine lv_iload_n hx hb dX15_sender_29 rfl (lv_at hl 0 rfl) ?_
    refine lv_iload_n hx hb dX15_sender_30 rfl (lv_at hl 1 rfl) ?_
    refine lv_icmp_eq (tgt := 60) hx hb dX15_sender_31 (by decide) (fun c_88 => ?_) (fun c_88 => ?_)
    ·
      have hi_89 : j = zt := (nI_eq (a := j) (b := zt) (by omega) (by omega)).mp c_88
      refine lv_iconst (v := (-1)) hx hb dX15_sender_60 (by decide) ?_
      refine W.widen (k := 0) (n := 0) (by omega) (by omega) ?_
      exact W.iret (v := (-1)) hx hb hr (fun t ht hWm => ⟨⟨(-1), none, rfl, (Or.inr ⟨rfl, snd_n hfs (fun q => nm_no (by omega) q.2), rfl⟩), ⟨F_81, ty, hty, QTm.mk ht hP hD hO hR, hW, (Or.inl ⟨rfl, (by rw [← hty0]; exact hRu)⟩)⟩⟩, hS.F ht⟩) hS.2.2 dX15_sender_61
    ·
      have hi_90 : j ≠ zt := fun q => c_88 (by rw [q])
      refine lv_iload_n hx hb dX15_sender_34 rfl (lv_at hl 0 rfl) ?_
      refine lv_i2l (v := (nI j).toInt64) hx hb dX15_sender_35 rfl ?_
      refine lv_lconst (v := 1) hx hb dX15_sender_36 (by decide) ?_
      refine lv_ldc2 (v := 30) hx hb hown (hts _ kt_1187) dX15_sender_37 ?_
      have hFc := pg_free hD hS hA
      refine va_calli (va_runS (As := [.long ((nI j).toInt64), .long 1, .long 30]) (rest := []) ⟨hx, hb, hml, hown, hts⟩ (s_X15_in l dC dI cs ty gm L H.size F_81 ((nI j).toInt64) 1 30 hW ) ⟨callB_of 3 hts (gi kt_685) rfl rfl rfl (hts _ kt_669) (hts _ kt_705) (by decide +kernel) ⟨Nat.le_of_ble_eq_true rfl, Nat.le_of_ble_eq_true rfl⟩, (hts _ kt_686)⟩ ⟨fun a U g mk q => ⟨q.1, PTm.calling q.2⟩, fun U hU hWm => ⟨rfl, PTm.mk hU hWm hP hK hD hE hO⟩⟩ rfl rfl hl.1 rfl (lv_room (Nat.le_of_ble_eq_true rfl)) dX15_sender_40 ⟨by show _ + 0 ≤ 0; omega, by show _ + 0 ≤ 0; omega⟩) hS (fun q _ h => hFc q h) hFc (fun r_91 u t H1 locs ht hvm hw hB hz1 hk1 hS => ?_)
      obtain ⟨F_92, hB1⟩ := hB
      obtain rfl : F_81 = F_92 := (funext (fun a => hB1.2.2.2 a List.not_mem_nil)).symm
      obtain ⟨hP, hD, hO, hR⟩ := QTm.back hB1 ht hFc hR (fun q h => absurd h List.not_mem_nil)
      generalize H1 = H at hP hS ⊢
      have hw : r_91 = (if 1 ≤ (nI j).toInt64 ∧ (nI j).toInt64 ≤ 30 then 1 else 0) := hw
      have hw_93 := hw
      refine lv_if_eq (tgt := 60) hx hb dX15_sender_43 (by decide) (fun c_94 => ?_) (fun c_94 => ?_)
      ·
        have hin := in_nat0 (lo := 1) (hi := 30) hw_93 c_94 (by decide) (by decide) (by omega)
        refine lv_iconst (v := (-1)) hx hb dX15_sender_60 (by decide) ?_
        refine W.widen (k := 0) (n := 0) (by omega) (by omega) ?_
        exact W.iret (v := (-1)) hx hb hr (fun t ht hWm => ⟨⟨(-1), none, rfl, (Or.inr ⟨rfl, snd_n hfs (fun q => hin ⟨q.1.1, q.1.2.1⟩), rfl⟩), ⟨F_81, ty, hty, QTm.mk ht hP hD hO hR, hW, (Or.inl ⟨rfl, (by rw [← hty0]; exact hRu)⟩)⟩⟩, hS.F ht⟩) hS.2.2 dX15_sender_61
      ·
        have hin := in_nat (lo := 1) (hi := 30) hw_93 c_94 (by decide) (by decide) (by omega)
        refine lv_aload_n hx hb dX15_sender_46 rfl (lv_at hl 2 rfl) ?_
        obtain ⟨zo_95, v14_96, v15_97, v17_98, v18_99, v19_100, v20_101, v21_102, v22_103, v33_104, v52_105, v53_106, v54_107, hF_108, hq_109, hq_110, hq_111, hq_112⟩ := hO.mod hL_h0 hT_h0
        refine pg_get (ci := 15) (v := .ref ta) (C := RX15) (T := TX15) (N := 59) hx hb hts it_15 hown hK hP hL_h0 hF_108 rfl 0 (by decide) (hts _ kt_1009) (fun _ h9 => h9) rfl dX15_sender_47 ?_
        refine lv_iload_n hx hb dX15_sender_50 rfl (lv_at hl 0 rfl) ?_
        refine lv_iconst (v := 1) hx hb dX15_sender_51 (by decide) ?_
        refine lv_iadd hx hb dX15_sender_52 ?_
        refine lv_topi (fun x_113 ex_113 => ?_)
        obtain rfl : x_113 = (nI (j + 1)) := ex_113.trans (nI_add j 1)
        refine lv_iload_n hx hb dX15_sender_53 rfl (lv_at hl 1 rfl) ?_
        obtain ⟨hq_114, hq_115⟩ := hW.octs hi_79 ht_80
        have hFc := pg_free hD hS hA
        refine va_calli (va_runS (As := [.ref ta, .int (nI (j + 1)), .int (nI zt)]) (rest := []) ⟨hx, hb, hml, hown, hts⟩ (s_X14_isName_e l dC dI cs ty gm L H.size F_81 ta (ρ + 1) 3000 (j + 1) zt gt hW hi_79 ht_80 hF_85 (by first | omega | assumption) (by first | omega | assumption)) ⟨callB_of 3 hts (gi kt_689) rfl rfl rfl (hts _ kt_676) (hts _ kt_848) (by decide +kernel) ⟨Nat.le_of_ble_eq_true rfl, Nat.le_of_ble_eq_true rfl⟩, (hts _ kt_691)⟩ ⟨fun a U g mk q => ⟨q.1, PTm.calling q.2⟩, fun U hU hWm => ⟨rfl, PTm.mk hU hWm hP hK hD hE hO⟩⟩ rfl rfl hl.1 rfl (lv_room (Nat.le_of_ble_eq_true rfl)) dX15_sender_54 ⟨by show _ + 0 ≤ 0; omega, by show _ + 0 ≤ 0; omega⟩) hS (fun q _ h => hFc q h) hFc (fun r_116 u t H1 locs ht hvm hw hB hz1 hk1 hS => ?_)
        obtain ⟨F_117, hB1⟩ := hB
        obtain rfl : F_81 = F_117 := (funext (fun a => hB1.2.2.2 a List.not_mem_nil)).symm
        obtain ⟨hP, hD, hO, hR⟩ := QTm.back hB1 ht hFc hR (fun q h => absurd h List.not_mem_nil)
        generalize H1 = H at hP hS ⊢
        have hw : r_116 = (if NM gt (j + 1) zt = true then 1 else 0) := hw
        have hw_118 := hw
        refine lv_if_ne (tgt := 62) hx hb dX15_sender_57 (by decide) (fun c_119 => ?_) (fun c_119 => ?_)
        ·
          have hnm := ifb1 hw_118 c_119
          have hn60 := nm_60 hnm
          refine lv_iconst (v := 0) hx hb dX15_sender_62 (by decide) ?_
          refine lv_istore (lv' := [(4, .int 0), (3, .int (nI j)), (2, .int (nI zt)), (0, .ref h0), (1, .int x1)]) hx hb dX15_sender_63 hl (by decide) rfl (fun ls hl => ?_)
          refine W.widen (k := 0) (n := 0) (by omega) (by omega) ?_
          have hF_121 : F ta = .inl (cs 17, 3000, .inl gt) := (hR ta (by rw [ht_80]; simp)).symm.trans hF_85
          refine pl_loopm (σ := Nat) A (dC, dI) cs ty gm L [ρ, ρ + 5, ρ + 32] F 65 6 (fun i => [(4, .int (nI i)), (3, .int (nI j)), (2, .int (nI zt)), (0, .ref h0), (1, .int x1)]) (fun i => []) (fun i FF => (i ≤ j ∧ ∀ q, q < i → LOC (gt q) = true) ∧ FR ty0 [ρ] F FF) (fun i => j - i) ?_ 0 F_81 (⟨⟨by omega, fun q hq => absurd hq (Nat.not_lt_zero _)⟩, hRu⟩) hO hR _ _ hP hD hS ls (lv_sub hl [0, 1, 2, 3, 4] rfl)
          rintro i F_120 hv_122 hO hR ih_123 H locs hP hD hS ls hl
          have hl : lv_has ls 6 [(4, .int (nI i)), (3, .int (nI j)), (2, .int (nI zt)), (0, .ref h0), (1, .int x1)] := hl
          have hv_122 : (i ≤ j ∧ ∀ q, q < i → LOC (gt q) = true) ∧ FR ty0 [ρ] F F_120 := hv_122
          refine W.eq (g2 := F0 m 65 ls []) rfl ?_
          have hF_124 : F_120 ta = .inl (cs 17, 3000, .inl gt) := (hR ta (by rw [ht_80]; simp)).trans hF_121
          obtain ⟨⟨hw1, hw2⟩, hRu⟩ := id hv_122
          refine lv_iload hx hb dX15_sender_65 (lv_at hl 0 rfl) ?_
          refine lv_iload_n hx hb dX15_sender_67 rfl (lv_at hl 1 rfl) ?_
          refine lv_icmp_ge (tgt := 132) hx hb dX15_sender_68 (by decide) (fun c_125 => ?_) (fun c_125 => ?_)
          ·
            have hi_126 : j ≤ i := leN (N := j) c_125
            have htyA := hty
            have hlcl : LCL gt j := ⟨hin.1, hin.2, fun q hq => hw2 q (by omega)⟩
            have hcd := snd_cd hfs hlcl hnm
            have hnl := NM_len hnm
            refine lv_aload_n hx hb dX15_sender_132 rfl (lv_at hl 3 rfl) ?_
            obtain ⟨zo_127, v14_128, v15_129, v17_130, v18_131, v19_132, v20_133, v21_134, v22_135, v33_136, v52_137, v53_138, v54_139, hF_140, hq_141, hq_142, hq_143, hq_144⟩ := hO.mod hL_h0 hT_h0
            refine pg_get (ci := 15) (v := .ref lc) (C := RX15) (T := TX15) (N := 59) hx hb hts it_15 hown hK hP hL_h0 hF_140 rfl 9 (by decide) (hts _ kt_1129) (fun _ h9 => h9) rfl dX15_sender_133 ?_
            refine lv_aload_n hx hb dX15_sender_136 rfl (lv_at hl 3 rfl) ?_
            refine pg_get (ci := 15) (v := .ref ta) (C := RX15) (T := TX15) (N := 59) hx hb hts it_15 hown hK hP hL_h0 hF_140 rfl 0 (by decide) (hts _ kt_1009) (fun _ h9 => h9) rfl dX15_sender_137 ?_
            refine lv_iconst (v := 0) hx hb dX15_sender_140 (by decide) ?_
            refine lv_iload_n hx hb dX15_sender_141 rfl (lv_at hl 1 rfl) ?_
            refine W.eq (g2 := F0 m 142 ls [.int (nI j), .int (nI 0), .ref ta, .ref lc]) rfl ?_
            obtain ⟨hi_145, r_50, ht_146⟩ := hW.f_lc hL_h0 hT_h0
            obtain ⟨hi_147, ht_148, hq_149⟩ := hW.txt hi_145 ht_146
            have hFc := pg_free hD hS hA
            obtain ⟨z_150, hF_151, hq_152⟩ := hO.txt hi_145 ht_146
            refine va_callv (va_runV (As := [.ref ta, .int (nI 0), .int (nI j)]) (rest := []) ⟨hx, hb, hml, hown, hts⟩ (s_X14_set_e l dC dI cs ty gm L H.size F_120 lc (ρ + 5) r_50 30 ta (ρ + 1) 3000 0 j gt hW hi_145 ht_146 hi_79 ht_80 hF_124 (Nat.zero_le _) (by omega) (by omega)) ⟨callB_of 3 hts (gi kt_951) rfl rfl rfl (hts _ kt_676) (hts _ kt_952) (by decide +kernel) ⟨Nat.le_of_ble_eq_true rfl, Nat.le_of_ble_eq_true rfl⟩, (hts _ kt_953), (hts _ kt_954)⟩ ⟨fun a U g mk q => ⟨q.1, PTm.calling q.2⟩, pg_recv hK hP hi_145 hF_151 (q := (RX14, TX14, 2)) rfl, fun U hU hWm => ⟨rfl, PTm.mk hU hWm hP hK hD hE hO⟩⟩ rfl rfl hl.1 rfl (lv_room (Nat.le_of_ble_eq_true rfl)) dX15_sender_142 ⟨by show _ + 0 ≤ 0; omega, by show _ + 0 ≤ 0; omega⟩) hS (fun q _ h => hFc q h) hFc (fun u t H1 locs ht hvm hw hB hz1 hk1 hS => ?_)
            obtain ⟨F_154, fc_155, hB1, hq_156, hq_157, hq_158⟩ := hB
            obtain ⟨hP, hD, hO, hR⟩ := QTm.back hB1 ht hFc hR (fun q h => by simp only [List.mem_cons, List.not_mem_nil, or_false] at h ⊢; omega)
            have hF_159 : F_154 ta = .inl (cs 17, 3000, .inl gt) := (hB1.2.2.2 ta (by rw [ht_80]; simp)).trans hF_124
            have hF_160 : F_154 h0 = .inr (15, (.ref ta) :: (.int (nI 0)) :: (.int (nI zo_127)) :: (.int (nI ze)) :: (.ref ou) :: (.ref so) :: (.ref ad) :: (.ref na) :: (.ref va) :: (.ref lc) :: (.ref dm) :: (.int (nI fm)) :: (.int (nI sn)) :: (.ref tg) :: (.int v14_128) :: (.int v15_129) :: (.ref pe) :: (.int v17_130) :: (.int v18_131) :: (.int v19_132) :: (.int v20_133) :: (.int v21_134) :: (.int v22_135) :: (.ref ml) :: (.ref bg) :: (.ref co) :: (.ref sp) :: (.ref nb0) :: (.ref nb1) :: (.ref nb2) :: (.int (nI nf)) :: (.int (nI bd)) :: (.int (nI mm)) :: (.int v33_136) :: (.ref pl) :: (.ref se) :: (.ref ke) :: (.ref wi) :: (.ref hs) :: (.ref mo) :: (.ref po) :: (.ref nu) :: (.ref pr) :: (.ref sq) :: (.ref xa) :: (.ref sa) :: (.ref n64) :: (.ref m64) :: (.ref ex) :: (.ref wh) :: (.ref sd) :: (.ref tk) :: (.int v52_137) :: (.int v53_138) :: (.int v54_139) :: (.ref hd) :: (.ref ak) :: (.ref ho) :: (.ref ot) :: []) := (hB1.2.2.2 h0 (by rw [hT_h0]; simp)).trans hF_140
            generalize H1 = H at hP hS ⊢
            refine lv_aload_n hx hb dX15_sender_145 rfl (lv_at hl 3 rfl) ?_
            refine pg_get (ci := 15) (v := .ref dm) (C := RX15) (T := TX15) (N := 59) hx hb hts it_15 hown hK hP hL_h0 hF_160 rfl 10 (by decide) (hts _ kt_1130) (fun _ h9 => h9) rfl dX15_sender_146 ?_
            refine lv_aload_n hx hb dX15_sender_149 rfl (lv_at hl 3 rfl) ?_
            refine pg_get (ci := 15) (v := .ref ta) (C := RX15) (T := TX15) (N := 59) hx hb hts it_15 hown hK hP hL_h0 hF_160 rfl 0 (by decide) (hts _ kt_1009) (fun _ h9 => h9) rfl dX15_sender_150 ?_
            refine lv_iload_n hx hb dX15_sender_153 rfl (lv_at hl 1 rfl) ?_
            refine lv_iconst (v := 1) hx hb dX15_sender_154 (by decide) ?_
            refine lv_iadd hx hb dX15_sender_155 ?_
            refine lv_topi (fun x_161 ex_161 => ?_)
            obtain rfl : x_161 = (nI (j + 1)) := ex_161.trans (nI_add j 1)
            refine lv_iload_n hx hb dX15_sender_156 rfl (lv_at hl 2 rfl) ?_
            obtain ⟨hi_162, r_51, ht_163⟩ := hW.f_dm hL_h0 hT_h0
            obtain ⟨hi_164, ht_165, hq_166⟩ := hW.txt hi_162 ht_163
            have hFc := pg_free hD hS hA
            obtain ⟨z_167, hF_168, hq_169⟩ := hO.txt hi_162 ht_163
            refine va_callv (va_runV (As := [.ref ta, .int (nI (j + 1)), .int (nI zt)]) (rest := []) ⟨hx, hb, hml, hown, hts⟩ (s_X14_set_e l dC dI cs ty gm L H.size F_154 dm (ρ + 32) r_51 60 ta (ρ + 1) 3000 (j + 1) zt gt hW hi_162 ht_163 hi_79 ht_80 hF_159 (by omega) (by omega) (by omega)) ⟨callB_of 3 hts (gi kt_951) rfl rfl rfl (hts _ kt_676) (hts _ kt_952) (by decide +kernel) ⟨Nat.le_of_ble_eq_true rfl, Nat.le_of_ble_eq_true rfl⟩, (hts _ kt_953), (hts _ kt_954)⟩ ⟨fun a U g mk q => ⟨q.1, PTm.calling q.2⟩, pg_recv hK hP hi_162 hF_168 (q := (RX14, TX14, 2)) rfl, fun U hU hWm => ⟨rfl, PTm.mk hU hWm hP hK hD hE hO⟩⟩ rfl rfl hl.1 rfl (lv_room (Nat.le_of_ble_eq_true rfl)) dX15_sender_157 ⟨by show _ + 0 ≤ 0; omega, by show _ + 0 ≤ 0; omega⟩) hS (fun q _ h => hFc q h) hFc (fun u t H1 locs ht hvm hw hB hz1 hk1 hS => ?_)
            obtain ⟨F_171, fc_172, hB1, hq_173, hq_174, hq_175⟩ := hB
            obtain ⟨hP, hD, hO, hR⟩ := QTm.back hB1 ht hFc hR (fun q h => by simp only [List.mem_cons, List.not_mem_nil, or_false] at h ⊢; omega)
            have hF_176 : F_171 ta = .inl (cs 17, 3000, .inl gt) := (hB1.2.2.2 ta (by rw [ht_80]; simp)).trans hF_159
            have hF_177 : F_171 h0 = .inr (15, (.ref ta) :: (.int (nI 0)) :: (.int (nI zo_127)) :: (.int (nI ze)) :: (.ref ou) :: (.ref so) :: (.ref ad) :: (.ref na) :: (.ref va) :: (.ref lc) :: (.ref dm) :: (.int (nI fm)) :: (.int (nI sn)) :: (.ref tg) :: (.int v14_128) :: (.int v15_129) :: (.ref pe) :: (.int v17_130) :: (.int v18_131) :: (.int v19_132) :: (.int v20_133) :: (.int v21_134) :: (.int v22_135) :: (.ref ml) :: (.ref bg) :: (.ref co) :: (.ref sp) :: (.ref nb0) :: (.ref nb1) :: (.ref nb2) :: (.int (nI nf)) :: (.int (nI bd)) :: (.int (nI mm)) :: (.int v33_136) :: (.ref pl) :: (.ref se) :: (.ref ke) :: (.ref wi) :: (.ref hs) :: (.ref mo) :: (.ref po) :: (.ref nu) :: (.ref pr) :: (.ref sq) :: (.ref xa) :: (.ref sa) :: (.ref n64) :: (.ref m64) :: (.ref ex) :: (.ref wh) :: (.ref sd) :: (.ref tk) :: (.int v52_137) :: (.int v53_138) :: (.int v54_139) :: (.ref hd) :: (.ref ak) :: (.ref ho) :: (.ref ot) :: []) := (hB1.2.2.2 h0 (by rw [hT_h0]; simp)).trans hF_160
            have hF_178 : F_171 lc = .inr (14, [.ref r_50, .int (nI (j - 0))]) := (hB1.2.2.2 lc (by rw [ht_146]; simp)).trans hq_156
            have hF_179 : F_171 r_50 = .inl (cs 17, 30, .inl fc_155) := (hB1.2.2.2 r_50 (by rw [ht_148]; simp)).trans hq_157
            generalize H1 = H at hP hS ⊢
            refine lv_aload_n hx hb dX15_sender_160 rfl (lv_at hl 3 rfl) ?_
            refine lv_iload_n hx hb dX15_sender_161 rfl (lv_at hl 4 rfl) ?_
            refine lv_topi (fun x9 ex9 => ?_)
            obtain rfl : x9 = nI (xN x1) := ex9.trans (xN_e x1).symm
            refine pg_put (ci := 15) (v := .int (nI (xN x1))) (ty := .int) (C := RX15) (T := TX15) (N := 59) hx hb hts it_15 tyX15 tyX15_ok nmX15 hown hK hP hD hS hL_h0 hF_177 rfl 11 (by decide) (hts _ kt_729) (fun _ h9 => h9) rfl (by decide +kernel) (rfl) (rfl) (Nat.le_of_ble_eq_true rfl) dX15_sender_162 (fun H locs hP hD hS => ?_)
            obtain ⟨F_180, he_181, hP, hD, hR⟩ : ∃ G, G = va_up F_171 h0 (.inr (15, (.ref ta) :: (.int (nI 0)) :: (.int (nI zo_127)) :: (.int (nI ze)) :: (.ref ou) :: (.ref so) :: (.ref ad) :: (.ref na) :: (.ref va) :: (.ref lc) :: (.ref dm) :: (.int (nI (xN x1))) :: (.int (nI sn)) :: (.ref tg) :: (.int v14_128) :: (.int v15_129) :: (.ref pe) :: (.int v17_130) :: (.int v18_131) :: (.int v19_132) :: (.int v20_133) :: (.int v21_134) :: (.int v22_135) :: (.ref ml) :: (.ref bg) :: (.ref co) :: (.ref sp) :: (.ref nb0) :: (.ref nb1) :: (.ref nb2) :: (.int (nI nf)) :: (.int (nI bd)) :: (.int (nI mm)) :: (.int v33_136) :: (.ref pl) :: (.ref se) :: (.ref ke) :: (.ref wi) :: (.ref hs) :: (.ref mo) :: (.ref po) :: (.ref nu) :: (.ref pr) :: (.ref sq) :: (.ref xa) :: (.ref sa) :: (.ref n64) :: (.ref m64) :: (.ref ex) :: (.ref wh) :: (.ref sd) :: (.ref tk) :: (.int v52_137) :: (.int v53_138) :: (.int v54_139) :: (.ref hd) :: (.ref ak) :: (.ref ho) :: (.ref ot) :: [])) ∧ va_P (dC, dI) vwCl (va_pl L G) H ∧ va_D A (va_pl L G) ∧ FR ty [ρ, ρ + 5, ρ + 32] F G := ⟨_, rfl, hP, hD, hR.up hT_h0 (by simp)⟩
            have hF_182 : F_180 ta = .inl (cs 17, 3000, .inl gt) := by rw [he_181, up_ne (ne_ty ht_80 hT_h0 (by simp))]; exact hF_176
            have hF_183 : F_180 lc = .inr (14, [.ref r_50, .int (nI (j - 0))]) := by rw [he_181, up_ne (ne_ty ht_146 hT_h0 (by simp))]; exact hF_178
            have hF_184 : F_180 r_50 = .inl (cs 17, 30, .inl fc_155) := by rw [he_181, up_ne (ne_ty ht_148 hT_h0 (by simp))]; exact hF_179
            have hF_185 : F_180 dm = .inr (14, [.ref r_51, .int (nI (zt - (j + 1)))]) := by rw [he_181, up_ne (ne_ty ht_163 hT_h0 (by simp))]; exact hq_173
            have hF_186 : F_180 r_51 = .inl (cs 17, 60, .inl fc_172) := by rw [he_181, up_ne (ne_ty ht_165 hT_h0 (by simp))]; exact hq_174
            have hTo := hT_h0
            obtain ⟨ty, hty, hT_h0, hW, hO, hR⟩ : ∃ t9 : TyM, t9 = rtf ty h0 (15, ρ, [ta, ou, so, ad, na, va, lc, dm, tg, pe, ml, bg, co, sp, nb0, nb1, nb2, pl, se, ke, wi, hs, mo, po, nu, pr, sq, xa, sa, n64, m64, ex, wh, sd, tk, hd, ak, ho, ot, sx, s0, s1, s2, nf, bd, mm, (xN x1), sn, ze, 0]) ∧ t9 h0 = (15, ρ, [ta, ou, so, ad, na, va, lc, dm, tg, pe, ml, bg, co, sp, nb0, nb1, nb2, pl, se, ke, wi, hs, mo, po, nu, pr, sq, xa, sa, n64, m64, ex, wh, sd, tk, hd, ak, ho, ot, sx, s0, s1, s2, nf, bd, mm, (xN x1), sn, ze, 0]) ∧ WTm t9 gm L ∧ OKm cs t9 gm L F_180 ∧ FR t9 [ρ, ρ + 5, ρ + 32] F F_180 := ⟨_, rfl, rtf_self, hW.fm hL_h0 hT_h0, (by rw [he_181]; exact OKm.retype hO hT_h0 (shm.mod rtf_self ⟨zo_127, v14_128, v15_129, v17_130, v18_131, v19_132, v20_133, v21_134, v22_135, v33_136, v52_137, v53_138, v54_139, rfl, (by first | omega | assumption | exact Or.inl rfl | exact Or.inr rfl), (by first | omega | assumption | exact Or.inl rfl | exact Or.inr rfl), (by first | omega | assumption | exact Or.inl rfl | exact Or.inr rfl), (by first | omega | assumption | exact Or.inl rfl | exact Or.inr rfl)⟩)), FR.retype hT_h0 hR⟩
            have hF_187 : F_180 h0 = .inr (15, (.ref ta) :: (.int (nI 0)) :: (.int (nI zo_127)) :: (.int (nI ze)) :: (.ref ou) :: (.ref so) :: (.ref ad) :: (.ref na) :: (.ref va) :: (.ref lc) :: (.ref dm) :: (.int (nI (xN x1))) :: (.int (nI sn)) :: (.ref tg) :: (.int v14_128) :: (.int v15_129) :: (.ref pe) :: (.int v17_130) :: (.int v18_131) :: (.int v19_132) :: (.int v20_133) :: (.int v21_134) :: (.int v22_135) :: (.ref ml) :: (.ref bg) :: (.ref co) :: (.ref sp) :: (.ref nb0) :: (.ref nb1) :: (.ref nb2) :: (.int (nI nf)) :: (.int (nI bd)) :: (.int (nI mm)) :: (.int v33_136) :: (.ref pl) :: (.ref se) :: (.ref ke) :: (.ref wi) :: (.ref hs) :: (.ref mo) :: (.ref po) :: (.ref nu) :: (.ref pr) :: (.ref sq) :: (.ref xa) :: (.ref sa) :: (.ref n64) :: (.ref m64) :: (.ref ex) :: (.ref wh) :: (.ref sd) :: (.ref tk) :: (.int v52_137) :: (.int v53_138) :: (.int v54_139) :: (.ref hd) :: (.ref ak) :: (.ref ho) :: (.ref ot) :: []) := by rw [he_181]; exact up_self
            obtain ⟨hq_210, hq_211, hq_212, hq_213, hq_214, hgO, hgA, hgB, hq_215⟩ := hW.sc hL_h0 hT_h0
            have hT2_lc : ty lc = (14, ρ + 5, [r_50, 30]) := by rw [hty]; exact rtf_tr hTo (by decide) ht_146
            have hT2_r_50 : ty r_50 = (17, ρ + 5, [30]) := by rw [hty]; exact rtf_tr hTo (by decide) ht_148
            have hT2_dm : ty dm = (14, ρ + 32, [r_51, 60]) := by rw [hty]; exact rtf_tr hTo (by decide) ht_163
            have hT2_r_51 : ty r_51 = (17, ρ + 32, [60]) := by rw [hty]; exact rtf_tr hTo (by decide) ht_165
            have htyB := hty
            refine lv_aload_n hx hb dX15_sender_165 rfl (lv_at hl 3 rfl) ?_
            refine lv_iconst (v := 1) hx hb dX15_sender_166 (by decide) ?_
            refine pg_put (ci := 15) (v := .int 1) (ty := .boolean) (C := RX15) (T := TX15) (N := 59) hx hb hts it_15 tyX15 tyX15_ok nmX15 hown hK hP hD hS hL_h0 hF_187 rfl 12 (by decide) (hts _ kt_1186) (fun _ h9 => h9) rfl (by decide +kernel) (rfl) (rfl) (Nat.le_of_ble_eq_true rfl) dX15_sender_167 (fun H locs hP hD hS => ?_)
            obtain ⟨F_216, he_217, hP, hD, hR⟩ : ∃ G, G = va_up F_180 h0 (.inr (15, (.ref ta) :: (.int (nI 0)) :: (.int (nI zo_127)) :: (.int (nI ze)) :: (.ref ou) :: (.ref so) :: (.ref ad) :: (.ref na) :: (.ref va) :: (.ref lc) :: (.ref dm) :: (.int (nI (xN x1))) :: (.int 1) :: (.ref tg) :: (.int v14_128) :: (.int v15_129) :: (.ref pe) :: (.int v17_130) :: (.int v18_131) :: (.int v19_132) :: (.int v20_133) :: (.int v21_134) :: (.int v22_135) :: (.ref ml) :: (.ref bg) :: (.ref co) :: (.ref sp) :: (.ref nb0) :: (.ref nb1) :: (.ref nb2) :: (.int (nI nf)) :: (.int (nI bd)) :: (.int (nI mm)) :: (.int v33_136) :: (.ref pl) :: (.ref se) :: (.ref ke) :: (.ref wi) :: (.ref hs) :: (.ref mo) :: (.ref po) :: (.ref nu) :: (.ref pr) :: (.ref sq) :: (.ref xa) :: (.ref sa) :: (.ref n64) :: (.ref m64) :: (.ref ex) :: (.ref wh) :: (.ref sd) :: (.ref tk) :: (.int v52_137) :: (.int v53_138) :: (.int v54_139) :: (.ref hd) :: (.ref ak) :: (.ref ho) :: (.ref ot) :: [])) ∧ va_P (dC, dI) vwCl (va_pl L G) H ∧ va_D A (va_pl L G) ∧ FR ty [ρ, ρ + 5, ρ + 32] F G := ⟨_, rfl, hP, hD, hR.up hT_h0 (by simp)⟩
            obtain ⟨hi_219, ht_220⟩ := hW.f_ta hL_h0 hT_h0
            have hF_218 : F_216 ta = .inl (cs 17, 3000, .inl gt) := by rw [he_217, up_ne (ne_ty ht_220 hT_h0 (by simp))]; exact hF_182
            have hF_221 : F_216 lc = .inr (14, [.ref r_50, .int (nI (j - 0))]) := by rw [he_217, up_ne (ne_ty hT2_lc hT_h0 (by simp))]; exact hF_183
            have hF_222 : F_216 r_50 = .inl (cs 17, 30, .inl fc_155) := by rw [he_217, up_ne (ne_ty hT2_r_50 hT_h0 (by simp))]; exact hF_184
            have hF_223 : F_216 dm = .inr (14, [.ref r_51, .int (nI (zt - (j + 1)))]) := by rw [he_217, up_ne (ne_ty hT2_dm hT_h0 (by simp))]; exact hF_185
            have hF_224 : F_216 r_51 = .inl (cs 17, 60, .inl fc_172) := by rw [he_217, up_ne (ne_ty hT2_r_51 hT_h0 (by simp))]; exact hF_186
            have hTo := hT_h0
            obtain ⟨ty, hty, hT_h0, hW, hO, hR⟩ : ∃ t9 : TyM, t9 = rtf ty h0 (15, ρ, [ta, ou, so, ad, na, va, lc, dm, tg, pe, ml, bg, co, sp, nb0, nb1, nb2, pl, se, ke, wi, hs, mo, po, nu, pr, sq, xa, sa, n64, m64, ex, wh, sd, tk, hd, ak, ho, ot, sx, s0, s1, s2, nf, bd, mm, (xN x1), 1, ze, 0]) ∧ t9 h0 = (15, ρ, [ta, ou, so, ad, na, va, lc, dm, tg, pe, ml, bg, co, sp, nb0, nb1, nb2, pl, se, ke, wi, hs, mo, po, nu, pr, sq, xa, sa, n64, m64, ex, wh, sd, tk, hd, ak, ho, ot, sx, s0, s1, s2, nf, bd, mm, (xN x1), 1, ze, 0]) ∧ WTm t9 gm L ∧ OKm cs t9 gm L F_216 ∧ FR t9 [ρ, ρ + 5, ρ + 32] F F_216 := ⟨_, rfl, rtf_self, hW.sn hL_h0 hT_h0 (by omega), (by rw [he_217]; exact OKm.retype hO hT_h0 (shm.mod rtf_self ⟨zo_127, v14_128, v15_129, v17_130, v18_131, v19_132, v20_133, v21_134, v22_135, v33_136, v52_137, v53_138, v54_139, rfl, (by first | omega | assumption | exact Or.inl rfl | exact Or.inr rfl), (by first | omega | assumption | exact Or.inl rfl | exact Or.inr rfl), (by first | omega | assumption | exact Or.inl rfl | exact Or.inr rfl), (by first | omega | assumption | exact Or.inl rfl | exact Or.inr rfl)⟩)), FR.retype hT_h0 hR⟩
            have hF_225 : F_216 h0 = .inr (15, (.ref ta) :: (.int (nI 0)) :: (.int (nI zo_127)) :: (.int (nI ze)) :: (.ref ou) :: (.ref so) :: (.ref ad) :: (.ref na) :: (.ref va) :: (.ref lc) :: (.ref dm) :: (.int (nI (xN x1))) :: (.int 1) :: (.ref tg) :: (.int v14_128) :: (.int v15_129) :: (.ref pe) :: (.int v17_130) :: (.int v18_131) :: (.int v19_132) :: (.int v20_133) :: (.int v21_134) :: (.int v22_135) :: (.ref ml) :: (.ref bg) :: (.ref co) :: (.ref sp) :: (.ref nb0) :: (.ref nb1) :: (.ref nb2) :: (.int (nI nf)) :: (.int (nI bd)) :: (.int (nI mm)) :: (.int v33_136) :: (.ref pl) :: (.ref se) :: (.ref ke) :: (.ref wi) :: (.ref hs) :: (.ref mo) :: (.ref po) :: (.ref nu) :: (.ref pr) :: (.ref sq) :: (.ref xa) :: (.ref sa) :: (.ref n64) :: (.ref m64) :: (.ref ex) :: (.ref wh) :: (.ref sd) :: (.ref tk) :: (.int v52_137) :: (.int v53_138) :: (.int v54_139) :: (.ref hd) :: (.ref ak) :: (.ref ho) :: (.ref ot) :: []) := by rw [he_217]; exact up_self
            obtain ⟨hq_248, hq_249, hq_250, hq_251, hq_252, hgO, hgA, hgB, hq_253⟩ := hW.sc hL_h0 hT_h0
            have hT2_lc : ty lc = (14, ρ + 5, [r_50, 30]) := by rw [hty]; exact rtf_tr hTo (by decide) hT2_lc
            have hT2_r_50 : ty r_50 = (17, ρ + 5, [30]) := by rw [hty]; exact rtf_tr hTo (by decide) hT2_r_50
            have hT2_dm : ty dm = (14, ρ + 32, [r_51, 60]) := by rw [hty]; exact rtf_tr hTo (by decide) hT2_dm
            have hT2_r_51 : ty r_51 = (17, ρ + 32, [60]) := by rw [hty]; exact rtf_tr hTo (by decide) hT2_r_51
            refine lv_iconst (v := 0) hx hb dX15_sender_170 (by decide) ?_
            refine W.widen (k := 0) (n := 0) (by omega) (by omega) ?_
            exact W.iret (v := 0) hx hb hr (fun t ht hWm => ⟨⟨0, (some j), rfl, (Or.inl ⟨rfl, j, hfs, hlcl, hnm, rfl⟩), ⟨F_216, ty, (by rw [hty, htyB, htyA, rtf_rtf2, rtf_rtf2]; rfl), QTm.mk ht hP hD hO hR, hW, (Or.inr ⟨j, rfl, ⟨r_50, _, _, hF_221, hF_222, tp_src (a := 0) (k := j) (fun q hq => by rw [Nat.zero_add]; exact hcd q (by omega)) hq_158, by omega⟩, ⟨r_51, _, _, hF_223, hF_224, tp_src (a := j + 1) (k := zt - (j + 1)) (fun q hq => hcd _ (by omega)) hq_175, by omega⟩⟩)⟩⟩, hS.F ht⟩) hS.2.2 dX15_sender_171
          ·
            have hi_254 : i < j := ltN (N := j) c_125
            have hij : i < j := by omega
            refine lv_aload_n hx hb dX15_sender_71 rfl (lv_at hl 3 rfl) ?_
            obtain ⟨zo_255, v14_256, v15_257, v17_258, v18_259, v19_260, v20_261, v21_262, v22_263, v33_264, v52_265, v53_266, v54_267, hF_268, hq_269, hq_270, hq_271, hq_272⟩ := hO.mod hL_h0 hT_h0
            refine pg_get (ci := 15) (v := .ref ta) (C := RX15) (T := TX15) (N := 59) hx hb hts it_15 hown hK hP hL_h0 hF_268 rfl 0 (by decide) (hts _ kt_1009) (fun _ h9 => h9) rfl dX15_sender_72 ?_
            refine lv_iload hx hb dX15_sender_75 (lv_at hl 0 rfl) ?_
            refine pg_bald hx hb hK hP hi_79 1 hF_124 rfl (vp_in_nI (by omega) (by omega)) dX15_sender_77 ?_
            refine lv_topi (fun x_273 ex_273 => ?_)
            obtain rfl : x_273 = gt i := ex_273.trans (congrArg gt (show ((nI i) : Int32).toNatClampNeg = i from nI_clamp (by omega)))
            refine lv_istore (lv' := [(5, .int (gt i)), (4, .int (nI i)), (3, .int (nI j)), (2, .int (nI zt)), (0, .ref h0), (1, .int x1)]) hx hb dX15_sender_78 hl (by decide) rfl (fun ls hl => ?_)
            have hF_276 : F ta = .inl (cs 17, 3000, .inl gt) := (hR ta (by rw [ht_80]; simp)).symm.trans hF_124
            refine W.widen (k := 0) (n := 0) (by omega) (by omega) ?_
            refine pl_cutm (σ := Unit) A (dC, dI) cs ty gm L [ρ, ρ + 5, ρ + 32] F 126 6 (fun u0 => [(4, .int (nI i)), (3, .int (nI j)), (2, .int (nI zt)), (0, .ref h0), (1, .int x1)]) (fun u0 => []) (fun u0 FF => (LOC (gt i) = true) ∧ FR ty0 [ρ] F FF) ?_ (fun jn_274 => ?_)
            ·
              rintro u0 F_275 hv_277 hO hR H locs hP hD hS ls hl
              have hl : lv_has ls 6 [(4, .int (nI i)), (3, .int (nI j)), (2, .int (nI zt)), (0, .ref h0), (1, .int x1)] := hl
              have hv_277 : (LOC (gt i) = true) ∧ FR ty0 [ρ] F F_275 := hv_277
              refine W.eq (g2 := F0 m 126 ls []) rfl ?_
              have hF_278 : F_275 ta = .inl (cs 17, 3000, .inl gt) := (hR ta (by rw [ht_80]; simp)).trans hF_276
              obtain ⟨hok, hRu⟩ := hv_277
              refine lv_iinc (v := (nI (i + 1))) (lv' := [(4, .int (nI (i + 1))), (3, .int (nI j)), (2, .int (nI zt)), (0, .ref h0), (1, .int x1)]) hx hb dX15_sender_126 hl (k := 0) rfl (nI_1 _) (by decide) rfl (fun ls hl => ?_)
              refine lv_goto (tgt := 65) hx hb dX15_sender_129 (by decide) ?_
              refine W.widen (k := 0) (n := 0) (by omega) (by omega) ?_
              exact ih_123 (i + 1) F_275 (⟨⟨by omega, fun q hq => by rcases Nat.lt_or_ge q i with w | w; exact hw2 q w; rw [show q = i by omega]; exact hok⟩, hRu⟩) (by show j - (i + 1) < j - i; omega) hO hR _ _ hP hD hS ls (lv_sub hl [0, 1, 2, 3, 4] rfl)
            ·
              refine lv_iload hx hb dX15_sender_80 (lv_at hl 0 rfl) ?_
              have hFc := pg_free hD hS hA
              refine va_calli (va_runS (As := [.int (gt i)]) (rest := []) ⟨hx, hb, hml, hown, hts⟩ (s_X15_isSmall_e l dC dI cs ty gm L H.size F_120 (gt i) hW ) ⟨callB_of 1 hts (gi kt_668) rfl rfl rfl (hts _ kt_669) (hts _ kt_670) (by decide +kernel) ⟨Nat.le_of_ble_eq_true rfl, Nat.le_of_ble_eq_true rfl⟩, (hts _ kt_671)⟩ ⟨fun a U g mk q => ⟨q.1, PTm.calling q.2⟩, fun U hU hWm => ⟨rfl, PTm.mk hU hWm hP hK hD hE hO⟩⟩ rfl rfl hl.1 rfl (lv_room (Nat.le_of_ble_eq_true rfl)) dX15_sender_82 ⟨by show _ + 0 ≤ 0; omega, by show _ + 0 ≤ 0; omega⟩) hS (fun q _ h => hFc q h) hFc (fun r_279 u t H1 locs ht hvm hw hB hz1 hk1 hS => ?_)
              obtain ⟨F_280, hB1⟩ := hB
              obtain rfl : F_120 = F_280 := (funext (fun a => hB1.2.2.2 a List.not_mem_nil)).symm
              obtain ⟨hP, hD, hO, hR⟩ := QTm.back hB1 ht hFc hR (fun q h => absurd h List.not_mem_nil)
              generalize H1 = H at hP hS ⊢
              have hw : r_279 = (if 97 ≤ (gt i) ∧ (gt i) ≤ 122 then 1 else 0) := hw
              have hw_281 := hw
              refine lv_if_ne (tgt := 126) hx hb dX15_sender_85 (by decide) (fun c_282 => ?_) (fun c_282 => ?_)
              ·
                refine W.widen (k := 0) (n := 0) (by omega) (by omega) ?_
                exact jn_274 () F_120 (⟨loc_s (ifb1 hw_281 c_282), hRu⟩) hO hR _ _ hP hD hS ls (lv_sub hl [1, 2, 3, 4, 5] rfl)
              ·
                refine lv_iload hx hb dX15_sender_88 (lv_at hl 0 rfl) ?_
                have hFc := pg_free hD hS hA
                refine va_calli (va_runS (As := [.int (gt i)]) (rest := []) ⟨hx, hb, hml, hown, hts⟩ (s_X15_isDigit_e l dC dI cs ty gm L H.size F_120 (gt i) hW ) ⟨callB_of 1 hts (gi kt_687) rfl rfl rfl (hts _ kt_669) (hts _ kt_707) (by decide +kernel) ⟨Nat.le_of_ble_eq_true rfl, Nat.le_of_ble_eq_true rfl⟩, (hts _ kt_688)⟩ ⟨fun a U g mk q => ⟨q.1, PTm.calling q.2⟩, fun U hU hWm => ⟨rfl, PTm.mk hU hWm hP hK hD hE hO⟩⟩ rfl rfl hl.1 rfl (lv_room (Nat.le_of_ble_eq_true rfl)) dX15_sender_90 ⟨by show _ + 0 ≤ 0; omega, by show _ + 0 ≤ 0; omega⟩) hS (fun q _ h => hFc q h) hFc (fun r_283 u t H1 locs ht hvm hw hB hz1 hk1 hS => ?_)
                obtain ⟨F_284, hB1⟩ := hB
                obtain rfl : F_120 = F_284 := (funext (fun a => hB1.2.2.2 a List.not_mem_nil)).symm
                obtain ⟨hP, hD, hO, hR⟩ := QTm.back hB1 ht hFc hR (fun q h => absurd h List.not_mem_nil)
                generalize H1 = H at hP hS ⊢
                have hw : r_283 = (if 48 ≤ (gt i) ∧ (gt i) ≤ 57 then 1 else 0) := hw
                have hw_285 := hw
                refine lv_if_ne (tgt := 126) hx hb dX15_sender_93 (by decide) (fun c_286 => ?_) (fun c_286 => ?_)
                ·
                  refine W.widen (k := 0) (n := 0) (by omega) (by omega) ?_
                  exact jn_274 () F_120 (⟨loc_d (ifb1 hw_285 c_286), hRu⟩) hO hR _ _ hP hD hS ls (lv_sub hl [1, 2, 3, 4, 5] rfl)
                ·
                  refine lv_iload hx hb dX15_sender_96 (lv_at hl 0 rfl) ?_
                  refine lv_bipush (v := 46) hx hb dX15_sender_98 (by decide) ?_
                  refine lv_icmp_eq (tgt := 126) hx hb dX15_sender_100 (by decide) (fun c_287 => ?_) (fun c_287 => ?_)
                  ·
                    refine W.widen (k := 0) (n := 0) (by omega) (by omega) ?_
                    exact jn_274 () F_120 (⟨loc_m (Or.inl c_287), hRu⟩) hO hR _ _ hP hD hS ls (lv_sub hl [1, 2, 3, 4, 5] rfl)
                  ·
                    refine lv_iload hx hb dX15_sender_103 (lv_at hl 0 rfl) ?_
                    refine lv_bipush (v := 45) hx hb dX15_sender_105 (by decide) ?_
                    refine lv_icmp_eq (tgt := 126) hx hb dX15_sender_107 (by decide) (fun c_288 => ?_) (fun c_288 => ?_)
                    ·
                      refine W.widen (k := 0) (n := 0) (by omega) (by omega) ?_
                      exact jn_274 () F_120 (⟨loc_m (Or.inr (Or.inl c_288)), hRu⟩) hO hR _ _ hP hD hS ls (lv_sub hl [1, 2, 3, 4, 5] rfl)
                    ·
                      refine lv_iload hx hb dX15_sender_110 (lv_at hl 0 rfl) ?_
                      refine lv_bipush (v := 95) hx hb dX15_sender_112 (by decide) ?_
                      refine lv_icmp_eq (tgt := 126) hx hb dX15_sender_114 (by decide) (fun c_289 => ?_) (fun c_289 => ?_)
                      ·
                        refine W.widen (k := 0) (n := 0) (by omega) (by omega) ?_
                        exact jn_274 () F_120 (⟨loc_m (Or.inr (Or.inr (Or.inl c_289))), hRu⟩) hO hR _ _ hP hD hS ls (lv_sub hl [1, 2, 3, 4, 5] rfl)
                      ·
                        refine lv_iload hx hb dX15_sender_117 (lv_at hl 0 rfl) ?_
                        refine lv_bipush (v := 43) hx hb dX15_sender_119 (by decide) ?_
                        refine lv_icmp_eq (tgt := 126) hx hb dX15_sender_121 (by decide) (fun c_290 => ?_) (fun c_290 => ?_)
                        ·
                          refine W.widen (k := 0) (n := 0) (by omega) (by omega) ?_
                          exact jn_274 () F_120 (⟨loc_m (Or.inr (Or.inr (Or.inr c_290))), hRu⟩) hO hR _ _ hP hD hS ls (lv_sub hl [1, 2, 3, 4, 5] rfl)
                        ·
                          refine lv_iconst (v := (-1)) hx hb dX15_sender_124 (by decide) ?_
                          refine W.widen (k := 0) (n := 0) (by omega) (by omega) ?_
                          exact W.iret (v := (-1)) hx hb hr (fun t ht hWm => ⟨⟨(-1), none, rfl, (Or.inr ⟨rfl, snd_n hfs (fun q => lcl_n hij (loc_n (fun w => w.elim c_287 (fun w => w.elim c_288 (fun w => w.elim c_289 c_290))) (ifb0 hw_281 c_282) (ifb0 hw_285 c_286)) q.1), rfl⟩), ⟨F_120, ty, hty, QTm.mk ht hP hD hO hR, hW, (Or.inl ⟨rfl, (by rw [← hty0]; exact hRu)⟩)⟩⟩, hS.F ht⟩) hS.2.2 dX15_sender_125
        ·
          refine lv_iconst (v := (-1)) hx hb dX15_sender_60 (by decide) ?_
          refine W.widen (k := 0) (n := 0) (by omega) (by omega) ?_
          exact W.iret (v := (-1)) hx hb hr (fun t ht hWm => ⟨⟨(-1), none, rfl, (Or.inr ⟨rfl, snd_n hfs (fun q => ifb0 hw_118 c_119 q.2), rfl⟩), ⟨F_81, ty, hty, QTm.mk ht hP hD hO hR, hW, (Or.inl ⟨rfl, (by rw [← hty0]; exact hRu)⟩)⟩⟩, hS.F ht⟩) hS.2.2 dX15_sender_61
  ·
    have hi_291 : j < zt := ltN (N := zt) c_86
    refine lv_aload_n hx hb dX15_sender_12 rfl (lv_at hl 2 rfl) ?_
    obtain ⟨zo_292, v14_293, v15_294, v17_295, v18_296, v19_297, v20_298, v21_299, v22_300, v33_301, v52_302, v53_303, v54_304, hF_305, hq_306, hq_307, hq_308, hq_309⟩ := hO.mod hL_h0 hT_h0
    refine pg_get (ci := 15) (v := .ref ta) (C := RX15) (T := TX15) (N := 59) hx hb hts it_15 hown hK hP hL_h0 hF_305 rfl 0 (by decide) (hts _ kt_1009) (fun _ h9 => h9) rfl dX15_sender_13 ?_
    refine lv_iload_n hx hb dX15_sender_16 rfl (lv_at hl 0 rfl) ?_
    obtain ⟨hq_310, hq_311⟩ := hW.octs hi_79 ht_80
    refine pg_bald hx hb hK hP hi_79 1 hF_85 rfl (vp_in_nI (by omega) (by omega)) dX15_sender_17 ?_
    refine lv_topi (fun x_312 ex_312 => ?_)
    obtain rfl : x_312 = gt j := ex_312.trans (congrArg gt (show ((nI j) : Int32).toNatClampNeg = j from nI_clamp (by omega)))
    refine lv_bipush (v := 64) hx hb dX15_sender_18 (by decide) ?_
    refine lv_icmp_eq (tgt := 29) hx hb dX15_sender_20 (by decide) (fun c_313 => ?_) (fun c_313 => ?_)
    ·
      have hfs : FST gt 64 zt j := ⟨by omega, hv2, Or.inr c_313⟩
      refine lv_iload_n hx hb dX15_sender_29 rfl (lv_at hl 0 rfl) ?_
      refine lv_iload_n hx hb dX15_sender_30 rfl (lv_at hl 1 rfl) ?_
      refine lv_icmp_eq (tgt := 60) hx hb dX15_sender_31 (by decide) (fun c_314 => ?_) (fun c_314 => ?_)
      ·
        have hi_315 : j = zt := (nI_eq (a := j) (b := zt) (by omega) (by omega)).mp c_314
        refine lv_iconst (v := (-1)) hx hb dX15_sender_60 (by decide) ?_
        refine W.widen (k := 0) (n := 0) (by omega) (by omega) ?_
        exact W.iret (v := (-1)) hx hb hr (fun t ht hWm => ⟨⟨(-1), none, rfl, (Or.inr ⟨rfl, snd_n hfs (fun q => nm_no (by omega) q.2), rfl⟩), ⟨F_81, ty, hty, QTm.mk ht hP hD hO hR, hW, (Or.inl ⟨rfl, (by rw [← hty0]; exact hRu)⟩)⟩⟩, hS.F ht⟩) hS.2.2 dX15_sender_61
      ·
        have hi_316 : j ≠ zt := fun q => c_314 (by rw [q])
        refine lv_iload_n hx hb dX15_sender_34 rfl (lv_at hl 0 rfl) ?_
        refine lv_i2l (v := (nI j).toInt64) hx hb dX15_sender_35 rfl ?_
        refine lv_lconst (v := 1) hx hb dX15_sender_36 (by decide) ?_
        refine lv_ldc2 (v := 30) hx hb hown (hts _ kt_1187) dX15_sender_37 ?_
        have hFc := pg_free hD hS hA
        refine va_calli (va_runS (As := [.long ((nI j).toInt64), .long 1, .long 30]) (rest := []) ⟨hx, hb, hml, hown, hts⟩ (s_X15_in l dC dI cs ty gm L H.size F_81 ((nI j).toInt64) 1 30 hW ) ⟨callB_of 3 hts (gi kt_685) rfl rfl rfl (hts _ kt_669) (hts _ kt_705) (by decide +kernel) ⟨Nat.le_of_ble_eq_true rfl, Nat.le_of_ble_eq_true rfl⟩, (hts _ kt_686)⟩ ⟨fun a U g mk q => ⟨q.1, PTm.calling q.2⟩, fun U hU hWm => ⟨rfl, PTm.mk hU hWm hP hK hD hE hO⟩⟩ rfl rfl hl.1 rfl (lv_room (Nat.le_of_ble_eq_true rfl)) dX15_sender_40 ⟨by show _ + 0 ≤ 0; omega, by show _ + 0 ≤ 0; omega⟩) hS (fun q _ h => hFc q h) hFc (fun r_317 u t H1 locs ht hvm hw hB hz1 hk1 hS => ?_)
        obtain ⟨F_318, hB1⟩ := hB
        obtain rfl : F_81 = F_318 := (funext (fun a => hB1.2.2.2 a List.not_mem_nil)).symm
        obtain ⟨hP, hD, hO, hR⟩ := QTm.back hB1 ht hFc hR (fun q h => absurd h List.not_mem_nil)
        generalize H1 = H at hP hS ⊢
        have hw : r_317 = (if 1 ≤ (nI j).toInt64 ∧ (nI j).toInt64 ≤ 30 then 1 else 0) := hw
        have hw_319 := hw
        refine lv_if_eq (tgt := 60) hx hb dX15_sender_43 (by decide) (fun c_320 => ?_) (fun c_320 => ?_)
        ·
          have hin := in_nat0 (lo := 1) (hi := 30) hw_319 c_320 (by decide) (by decide) (by omega)
          refine lv_iconst (v := (-1)) hx hb dX15_sender_60 (by decide) ?_
          refine W.widen (k := 0) (n := 0) (by omega) (by omega) ?_
          exact W.iret (v := (-1)) hx hb hr (fun t ht hWm => ⟨⟨(-1), none, rfl, (Or.inr ⟨rfl, snd_n hfs (fun q => hin ⟨q.1.1, q.1.2.1⟩), rfl⟩), ⟨F_81, ty, hty, QTm.mk ht hP hD hO hR, hW, (Or.inl ⟨rfl, (by rw [← hty0]; exact hRu)⟩)⟩⟩, hS.F ht⟩) hS.2.2 dX15_sender_61
        ·
          have hin := in_nat (lo := 1) (hi := 30) hw_319 c_320 (by decide) (by decide) (by omega)
          refine lv_aload_n hx hb dX15_sender_46 rfl (lv_at hl 2 rfl) ?_
          refine pg_get (ci := 15) (v := .ref ta) (C := RX15) (T := TX15) (N := 59) hx hb hts it_15 hown hK hP hL_h0 hF_305 rfl 0 (by decide) (hts _ kt_1009) (fun _ h9 => h9) rfl dX15_sender_47 ?_
          refine lv_iload_n hx hb dX15_sender_50 rfl (lv_at hl 0 rfl) ?_
          refine lv_iconst (v := 1) hx hb dX15_sender_51 (by decide) ?_
          refine lv_iadd hx hb dX15_sender_52 ?_
          refine lv_topi (fun x_321 ex_321 => ?_)
          obtain rfl : x_321 = (nI (j + 1)) := ex_321.trans (nI_add j 1)
          refine lv_iload_n hx hb dX15_sender_53 rfl (lv_at hl 1 rfl) ?_
          have hFc := pg_free hD hS hA
          refine va_calli (va_runS (As := [.ref ta, .int (nI (j + 1)), .int (nI zt)]) (rest := []) ⟨hx, hb, hml, hown, hts⟩ (s_X14_isName_e l dC dI cs ty gm L H.size F_81 ta (ρ + 1) 3000 (j + 1) zt gt hW hi_79 ht_80 hF_85 (by first | omega | assumption) (by first | omega | assumption)) ⟨callB_of 3 hts (gi kt_689) rfl rfl rfl (hts _ kt_676) (hts _ kt_848) (by decide +kernel) ⟨Nat.le_of_ble_eq_true rfl, Nat.le_of_ble_eq_true rfl⟩, (hts _ kt_691)⟩ ⟨fun a U g mk q => ⟨q.1, PTm.calling q.2⟩, fun U hU hWm => ⟨rfl, PTm.mk hU hWm hP hK hD hE hO⟩⟩ rfl rfl hl.1 rfl (lv_room (Nat.le_of_ble_eq_true rfl)) dX15_sender_54 ⟨by show _ + 0 ≤ 0; omega, by show _ + 0 ≤ 0; omega⟩) hS (fun q _ h => hFc q h) hFc (fun r_322 u t H1 locs ht hvm hw hB hz1 hk1 hS => ?_)
          obtain ⟨F_323, hB1⟩ := hB
          obtain rfl : F_81 = F_323 := (funext (fun a => hB1.2.2.2 a List.not_mem_nil)).symm
          obtain ⟨hP, hD, hO, hR⟩ := QTm.back hB1 ht hFc hR (fun q h => absurd h List.not_mem_nil)
          generalize H1 = H at hP hS ⊢
          have hw : r_322 = (if NM gt (j + 1) zt = true then 1 else 0) := hw
          have hw_324 := hw
          refine lv_if_ne (tgt := 62) hx hb dX15_sender_57 (by decide) (fun c_325 => ?_) (fun c_325 => ?_)
          ·
            have hnm := ifb1 hw_324 c_325
            have hn60 := nm_60 hnm
            refine lv_iconst (v := 0) hx hb dX15_sender_62 (by decide) ?_
            refine lv_istore (lv' := [(4, .int 0), (3, .int (nI j)), (2, .int (nI zt)), (0, .ref h0), (1, .int x1)]) hx hb dX15_sender_63 hl (by decide) rfl (fun ls hl => ?_)
            refine W.widen (k := 0) (n := 0) (by omega) (by omega) ?_
            have hF_327 : F ta = .inl (cs 17, 3000, .inl gt) := (hR ta (by rw [ht_80]; simp)).symm.trans hF_85
            refine pl_loopm (σ := Nat) A (dC, dI) cs ty gm L [ρ, ρ + 5, ρ + 32] F 65 6 (fun i => [(4, .int (nI i)), (3, .int (nI j)), (2, .int (nI zt)), (0, .ref h0), (1, .int x1)]) (fun i => []) (fun i FF => (i ≤ j ∧ ∀ q, q < i → LOC (gt q) = true) ∧ FR ty0 [ρ] F FF) (fun i => j - i) ?_ 0 F_81 (⟨⟨by omega, fun q hq => absurd hq (Nat.not_lt_zero _)⟩, hRu⟩) hO hR _ _ hP hD hS ls (lv_sub hl [0, 1, 2, 3, 4] rfl)
            rintro i F_326 hv_328 hO hR ih_329 H locs hP hD hS ls hl
            have hl : lv_has ls 6 [(4, .int (nI i)), (3, .int (nI j)), (2, .int (nI zt)), (0, .ref h0), (1, .int x1)] := hl
            have hv_328 : (i ≤ j ∧ ∀ q, q < i → LOC (gt q) = true) ∧ FR ty0 [ρ] F F_326 := hv_328
            refine W.eq (g2 := F0 m 65 ls []) rfl ?_
            have hF_330 : F_326 ta = .inl (cs 17, 3000, .inl gt) := (hR ta (by rw [ht_80]; simp)).trans hF_327
            obtain ⟨⟨hw1, hw2⟩, hRu⟩ := id hv_328
            refine lv_iload hx hb dX15_sender_65 (lv_at hl 0 rfl) ?_
            refine lv_iload_n hx hb dX15_sender_67 rfl (lv_at hl 1 rfl) ?_
            refine lv_icmp_ge (tgt := 132) hx hb dX15_sender_68 (by decide) (fun c_331 => ?_) (fun c_331 => ?_)
            ·
              have hi_332 : j ≤ i := leN (N := j) c_331
              have htyA := hty
              have hlcl : LCL gt j := ⟨hin.1, hin.2, fun q hq => hw2 q (by omega)⟩
              have hcd := snd_cd hfs hlcl hnm
              have hnl := NM_len hnm
              refine lv_aload_n hx hb dX15_sender_132 rfl (lv_at hl 3 rfl) ?_
              obtain ⟨zo_333, v14_334, v15_335, v17_336, v18_337, v19_338, v20_339, v21_340, v22_341, v33_342, v52_343, v53_344, v54_345, hF_346, hq_347, hq_348, hq_349, hq_350⟩ := hO.mod hL_h0 hT_h0
              refine pg_get (ci := 15) (v := .ref lc) (C := RX15) (T := TX15) (N := 59) hx hb hts it_15 hown hK hP hL_h0 hF_346 rfl 9 (by decide) (hts _ kt_1129) (fun _ h9 => h9) rfl dX15_sender_133 ?_
              refine lv_aload_n hx hb dX15_sender_136 rfl (lv_at hl 3 rfl) ?_
              refine pg_get (ci := 15) (v := .ref ta) (C := RX15) (T := TX15) (N := 59) hx hb hts it_15 hown hK hP hL_h0 hF_346 rfl 0 (by decide) (hts _ kt_1009) (fun _ h9 => h9) rfl dX15_sender_137 ?_
              refine lv_iconst (v := 0) hx hb dX15_sender_140 (by decide) ?_
              refine lv_iload_n hx hb dX15_sender_141 rfl (lv_at hl 1 rfl) ?_
              refine W.eq (g2 := F0 m 142 ls [.int (nI j), .int (nI 0), .ref ta, .ref lc]) rfl ?_
              obtain ⟨hi_351, r_50, ht_352⟩ := hW.f_lc hL_h0 hT_h0
              obtain ⟨hi_353, ht_354, hq_355⟩ := hW.txt hi_351 ht_352
              have hFc := pg_free hD hS hA
              obtain ⟨z_356, hF_357, hq_358⟩ := hO.txt hi_351 ht_352
              refine va_callv (va_runV (As := [.ref ta, .int (nI 0), .int (nI j)]) (rest := []) ⟨hx, hb, hml, hown, hts⟩ (s_X14_set_e l dC dI cs ty gm L H.size F_326 lc (ρ + 5) r_50 30 ta (ρ + 1) 3000 0 j gt hW hi_351 ht_352 hi_79 ht_80 hF_330 (Nat.zero_le _) (by omega) (by omega)) ⟨callB_of 3 hts (gi kt_951) rfl rfl rfl (hts _ kt_676) (hts _ kt_952) (by decide +kernel) ⟨Nat.le_of_ble_eq_true rfl, Nat.le_of_ble_eq_true rfl⟩, (hts _ kt_953), (hts _ kt_954)⟩ ⟨fun a U g mk q => ⟨q.1, PTm.calling q.2⟩, pg_recv hK hP hi_351 hF_357 (q := (RX14, TX14, 2)) rfl, fun U hU hWm => ⟨rfl, PTm.mk hU hWm hP hK hD hE hO⟩⟩ rfl rfl hl.1 rfl (lv_room (Nat.le_of_ble_eq_true rfl)) dX15_sender_142 ⟨by show _ + 0 ≤ 0; omega, by show _ + 0 ≤ 0; omega⟩) hS (fun q _ h => hFc q h) hFc (fun u t H1 locs ht hvm hw hB hz1 hk1 hS => ?_)
              obtain ⟨F_360, fc_361, hB1, hq_362, hq_363, hq_364⟩ := hB
              obtain ⟨hP, hD, hO, hR⟩ := QTm.back hB1 ht hFc hR (fun q h => by simp only [List.mem_cons, List.not_mem_nil, or_false] at h ⊢; omega)
              have hF_365 : F_360 ta = .inl (cs 17, 3000, .inl gt) := (hB1.2.2.2 ta (by rw [ht_80]; simp)).trans hF_330
              have hF_366 : F_360 h0 = .inr (15, (.ref ta) :: (.int (nI 0)) :: (.int (nI zo_333)) :: (.int (nI ze)) :: (.ref ou) :: (.ref so) :: (.ref ad) :: (.ref na) :: (.ref va) :: (.ref lc) :: (.ref dm) :: (.int (nI fm)) :: (.int (nI sn)) :: (.ref tg) :: (.int v14_334) :: (.int v15_335) :: (.ref pe) :: (.int v17_336) :: (.int v18_337) :: (.int v19_338) :: (.int v20_339) :: (.int v21_340) :: (.int v22_341) :: (.ref ml) :: (.ref bg) :: (.ref co) :: (.ref sp) :: (.ref nb0) :: (.ref nb1) :: (.ref nb2) :: (.int (nI nf)) :: (.int (nI bd)) :: (.int (nI mm)) :: (.int v33_342) :: (.ref pl) :: (.ref se) :: (.ref ke) :: (.ref wi) :: (.ref hs) :: (.ref mo) :: (.ref po) :: (.ref nu) :: (.ref pr) :: (.ref sq) :: (.ref xa) :: (.ref sa) :: (.ref n64) :: (.ref m64) :: (.ref ex) :: (.ref wh) :: (.ref sd) :: (.ref tk) :: (.int v52_343) :: (.int v53_344) :: (.int v54_345) :: (.ref hd) :: (.ref ak) :: (.ref ho) :: (.ref ot) :: []) := (hB1.2.2.2 h0 (by rw [hT_h0]; simp)).trans hF_346
              generalize H1 = H at hP hS ⊢
              refine lv_aload_n hx hb dX15_sender_145 rfl (lv_at hl 3 rfl) ?_
              refine pg_get (ci := 15) (v := .ref dm) (C := RX15) (T := TX15) (N := 59) hx hb hts it_15 hown hK hP hL_h0 hF_366 rfl 10 (by decide) (hts _ kt_1130) (fun _ h9 => h9) rfl dX15_sender_146 ?_
              refine lv_aload_n hx hb dX15_sender_149 rfl (lv_at hl 3 rfl) ?_
              refine pg_get (ci := 15) (v := .ref ta) (C := RX15) (T := TX15) (N := 59) hx hb hts it_15 hown hK hP hL_h0 hF_366 rfl 0 (by decide) (hts _ kt_1009) (fun _ h9 => h9) rfl dX15_sender_150 ?_
              refine lv_iload_n hx hb dX15_sender_153 rfl (lv_at hl 1 rfl) ?_
              refine lv_iconst (v := 1) hx hb dX15_sender_154 (by decide) ?_
              refine lv_iadd hx hb dX15_sender_155 ?_
              refine lv_topi (fun x_367 ex_367 => ?_)
              obtain rfl : x_367 = (nI (j + 1)) := ex_367.trans (nI_add j 1)
              refine lv_iload_n hx hb dX15_sender_156 rfl (lv_at hl 2 rfl) ?_
              obtain ⟨hi_368, r_51, ht_369⟩ := hW.f_dm hL_h0 hT_h0
              obtain ⟨hi_370, ht_371, hq_372⟩ := hW.txt hi_368 ht_369
              have hFc := pg_free hD hS hA
              obtain ⟨z_373, hF_374, hq_375⟩ := hO.txt hi_368 ht_369
              refine va_callv (va_runV (As := [.ref ta, .int (nI (j + 1)), .int (nI zt)]) (rest := []) ⟨hx, hb, hml, hown, hts⟩ (s_X14_set_e l dC dI cs ty gm L H.size F_360 dm (ρ + 32) r_51 60 ta (ρ + 1) 3000 (j + 1) zt gt hW hi_368 ht_369 hi_79 ht_80 hF_365 (by omega) (by omega) (by omega)) ⟨callB_of 3 hts (gi kt_951) rfl rfl rfl (hts _ kt_676) (hts _ kt_952) (by decide +kernel) ⟨Nat.le_of_ble_eq_true rfl, Nat.le_of_ble_eq_true rfl⟩, (hts _ kt_953), (hts _ kt_954)⟩ ⟨fun a U g mk q => ⟨q.1, PTm.calling q.2⟩, pg_recv hK hP hi_368 hF_374 (q := (RX14, TX14, 2)) rfl, fun U hU hWm => ⟨rfl, PTm.mk hU hWm hP hK hD hE hO⟩⟩ rfl rfl hl.1 rfl (lv_room (Nat.le_of_ble_eq_true rfl)) dX15_sender_157 ⟨by show _ + 0 ≤ 0; omega, by show _ + 0 ≤ 0; omega⟩) hS (fun q _ h => hFc q h) hFc (fun u t H1 locs ht hvm hw hB hz1 hk1 hS => ?_)
              obtain ⟨F_377, fc_378, hB1, hq_379, hq_380, hq_381⟩ := hB
              obtain ⟨hP, hD, hO, hR⟩ := QTm.back hB1 ht hFc hR (fun q h => by simp only [List.mem_cons, List.not_mem_nil, or_false] at h ⊢; omega)
              have hF_382 : F_377 ta = .inl (cs 17, 3000, .inl gt) := (hB1.2.2.2 ta (by rw [ht_80]; simp)).trans hF_365
              have hF_383 : F_377 h0 = .inr (15, (.ref ta) :: (.int (nI 0)) :: (.int (nI zo_333)) :: (.int (nI ze)) :: (.ref ou) :: (.ref so) :: (.ref ad) :: (.ref na) :: (.ref va) :: (.ref lc) :: (.ref dm) :: (.int (nI fm)) :: (.int (nI sn)) :: (.ref tg) :: (.int v14_334) :: (.int v15_335) :: (.ref pe) :: (.int v17_336) :: (.int v18_337) :: (.int v19_338) :: (.int v20_339) :: (.int v21_340) :: (.int v22_341) :: (.ref ml) :: (.ref bg) :: (.ref co) :: (.ref sp) :: (.ref nb0) :: (.ref nb1) :: (.ref nb2) :: (.int (nI nf)) :: (.int (nI bd)) :: (.int (nI mm)) :: (.int v33_342) :: (.ref pl) :: (.ref se) :: (.ref ke) :: (.ref wi) :: (.ref hs) :: (.ref mo) :: (.ref po) :: (.ref nu) :: (.ref pr) :: (.ref sq) :: (.ref xa) :: (.ref sa) :: (.ref n64) :: (.ref m64) :: (.ref ex) :: (.ref wh) :: (.ref sd) :: (.ref tk) :: (.int v52_343) :: (.int v53_344) :: (.int v54_345) :: (.ref hd) :: (.ref ak) :: (.ref ho) :: (.ref ot) :: []) := (hB1.2.2.2 h0 (by rw [hT_h0]; simp)).trans hF_366
              have hF_384 : F_377 lc = .inr (14, [.ref r_50, .int (nI (j - 0))]) := (hB1.2.2.2 lc (by rw [ht_352]; simp)).trans hq_362
              have hF_385 : F_377 r_50 = .inl (cs 17, 30, .inl fc_361) := (hB1.2.2.2 r_50 (by rw [ht_354]; simp)).trans hq_363
              generalize H1 = H at hP hS ⊢
              refine lv_aload_n hx hb dX15_sender_160 rfl (lv_at hl 3 rfl) ?_
              refine lv_iload_n hx hb dX15_sender_161 rfl (lv_at hl 4 rfl) ?_
              refine lv_topi (fun x9 ex9 => ?_)
              obtain rfl : x9 = nI (xN x1) := ex9.trans (xN_e x1).symm
              refine pg_put (ci := 15) (v := .int (nI (xN x1))) (ty := .int) (C := RX15) (T := TX15) (N := 59) hx hb hts it_15 tyX15 tyX15_ok nmX15 hown hK hP hD hS hL_h0 hF_383 rfl 11 (by decide) (hts _ kt_729) (fun _ h9 => h9) rfl (by decide +kernel) (rfl) (rfl) (Nat.le_of_ble_eq_true rfl) dX15_sender_162 (fun H locs hP hD hS => ?_)
              obtain ⟨F_386, he_387, hP, hD, hR⟩ : ∃ G, G = va_up F_377 h0 (.inr (15, (.ref ta) :: (.int (nI 0)) :: (.int (nI zo_333)) :: (.int (nI ze)) :: (.ref ou) :: (.ref so) :: (.ref ad) :: (.ref na) :: (.ref va) :: (.ref lc) :: (.ref dm) :: (.int (nI (xN x1))) :: (.int (nI sn)) :: (.ref tg) :: (.int v14_334) :: (.int v15_335) :: (.ref pe) :: (.int v17_336) :: (.int v18_337) :: (.int v19_338) :: (.int v20_339) :: (.int v21_340) :: (.int v22_341) :: (.ref ml) :: (.ref bg) :: (.ref co) :: (.ref sp) :: (.ref nb0) :: (.ref nb1) :: (.ref nb2) :: (.int (nI nf)) :: (.int (nI bd)) :: (.int (nI mm)) :: (.int v33_342) :: (.ref pl) :: (.ref se) :: (.ref ke) :: (.ref wi) :: (.ref hs) :: (.ref mo) :: (.ref po) :: (.ref nu) :: (.ref pr) :: (.ref sq) :: (.ref xa) :: (.ref sa) :: (.ref n64) :: (.ref m64) :: (.ref ex) :: (.ref wh) :: (.ref sd) :: (.ref tk) :: (.int v52_343) :: (.int v53_344) :: (.int v54_345) :: (.ref hd) :: (.ref ak) :: (.ref ho) :: (.ref ot) :: [])) ∧ va_P (dC, dI) vwCl (va_pl L G) H ∧ va_D A (va_pl L G) ∧ FR ty [ρ, ρ + 5, ρ + 32] F G := ⟨_, rfl, hP, hD, hR.up hT_h0 (by simp)⟩
              have hF_388 : F_386 ta = .inl (cs 17, 3000, .inl gt) := by rw [he_387, up_ne (ne_ty ht_80 hT_h0 (by simp))]; exact hF_382
              have hF_389 : F_386 lc = .inr (14, [.ref r_50, .int (nI (j - 0))]) := by rw [he_387, up_ne (ne_ty ht_352 hT_h0 (by simp))]; exact hF_384
              have hF_390 : F_386 r_50 = .inl (cs 17, 30, .inl fc_361) := by rw [he_387, up_ne (ne_ty ht_354 hT_h0 (by simp))]; exact hF_385
              have hF_391 : F_386 dm = .inr (14, [.ref r_51, .int (nI (zt - (j + 1)))]) := by rw [he_387, up_ne (ne_ty ht_369 hT_h0 (by simp))]; exact hq_379
              have hF_392 : F_386 r_51 = .inl (cs 17, 60, .inl fc_378) := by rw [he_387, up_ne (ne_ty ht_371 hT_h0 (by simp))]; exact hq_380
              have hTo := hT_h0
              obtain ⟨ty, hty, hT_h0, hW, hO, hR⟩ : ∃ t9 : TyM, t9 = rtf ty h0 (15, ρ, [ta, ou, so, ad, na, va, lc, dm, tg, pe, ml, bg, co, sp, nb0, nb1, nb2, pl, se, ke, wi, hs, mo, po, nu, pr, sq, xa, sa, n64, m64, ex, wh, sd, tk, hd, ak, ho, ot, sx, s0, s1, s2, nf, bd, mm, (xN x1), sn, ze, 0]) ∧ t9 h0 = (15, ρ, [ta, ou, so, ad, na, va, lc, dm, tg, pe, ml, bg, co, sp, nb0, nb1, nb2, pl, se, ke, wi, hs, mo, po, nu, pr, sq, xa, sa, n64, m64, ex, wh, sd, tk, hd, ak, ho, ot, sx, s0, s1, s2, nf, bd, mm, (xN x1), sn, ze, 0]) ∧ WTm t9 gm L ∧ OKm cs t9 gm L F_386 ∧ FR t9 [ρ, ρ + 5, ρ + 32] F F_386 := ⟨_, rfl, rtf_self, hW.fm hL_h0 hT_h0, (by rw [he_387]; exact OKm.retype hO hT_h0 (shm.mod rtf_self ⟨zo_333, v14_334, v15_335, v17_336, v18_337, v19_338, v20_339, v21_340, v22_341, v33_342, v52_343, v53_344, v54_345, rfl, (by first | omega | assumption | exact Or.inl rfl | exact Or.inr rfl), (by first | omega | assumption | exact Or.inl rfl | exact Or.inr rfl), (by first | omega | assumption | exact Or.inl rfl | exact Or.inr rfl), (by first | omega | assumption | exact Or.inl rfl | exact Or.inr rfl)⟩)), FR.retype hT_h0 hR⟩
              have hF_393 : F_386 h0 = .inr (15, (.ref ta) :: (.int (nI 0)) :: (.int (nI zo_333)) :: (.int (nI ze)) :: (.ref ou) :: (.ref so) :: (.ref ad) :: (.ref na) :: (.ref va) :: (.ref lc) :: (.ref dm) :: (.int (nI (xN x1))) :: (.int (nI sn)) :: (.ref tg) :: (.int v14_334) :: (.int v15_335) :: (.ref pe) :: (.int v17_336) :: (.int v18_337) :: (.int v19_338) :: (.int v20_339) :: (.int v21_340) :: (.int v22_341) :: (.ref ml) :: (.ref bg) :: (.ref co) :: (.ref sp) :: (.ref nb0) :: (.ref nb1) :: (.ref nb2) :: (.int (nI nf)) :: (.int (nI bd)) :: (.int (nI mm)) :: (.int v33_342) :: (.ref pl) :: (.ref se) :: (.ref ke) :: (.ref wi) :: (.ref hs) :: (.ref mo) :: (.ref po) :: (.ref nu) :: (.ref pr) :: (.ref sq) :: (.ref xa) :: (.ref sa) :: (.ref n64) :: (.ref m64) :: (.ref ex) :: (.ref wh) :: (.ref sd) :: (.ref tk) :: (.int v52_343) :: (.int v53_344) :: (.int v54_345) :: (.ref hd) :: (.ref ak) :: (.ref ho) :: (.ref ot) :: []) := by rw [he_387]; exact up_self
              obtain ⟨hq_416, hq_417, hq_418, hq_419, hq_420, hgO, hgA, hgB, hq_421⟩ := hW.sc hL_h0 hT_h0
              have hT2_lc : ty lc = (14, ρ + 5, [r_50, 30]) := by rw [hty]; exact rtf_tr hTo (by decide) ht_352
              have hT2_r_50 : ty r_50 = (17, ρ + 5, [30]) := by rw [hty]; exact rtf_tr hTo (by decide) ht_354
              have hT2_dm : ty dm = (14, ρ + 32, [r_51, 60]) := by rw [hty]; exact rtf_tr hTo (by decide) ht_369
              have hT2_r_51 : ty r_51 = (17, ρ + 32, [60]) := by rw [hty]; exact rtf_tr hTo (by decide) ht_371
              have htyB := hty
              refine lv_aload_n hx hb dX15_sender_165 rfl (lv_at hl 3 rfl) ?_
              refine lv_iconst (v := 1) hx hb dX15_sender_166 (by decide) ?_
              refine pg_put (ci := 15) (v := .int 1) (ty := .boolean) (C := RX15) (T := TX15) (N := 59) hx hb hts it_15 tyX15 tyX15_ok nmX15 hown hK hP hD hS hL_h0 hF_393 rfl 12 (by decide) (hts _ kt_1186) (fun _ h9 => h9) rfl (by decide +kernel) (rfl) (rfl) (Nat.le_of_ble_eq_true rfl) dX15_sender_167 (fun H locs hP hD hS => ?_)
              obtain ⟨F_422, he_423, hP, hD, hR⟩ : ∃ G, G = va_up F_386 h0 (.inr (15, (.ref ta) :: (.int (nI 0)) :: (.int (nI zo_333)) :: (.int (nI ze)) :: (.ref ou) :: (.ref so) :: (.ref ad) :: (.ref na) :: (.ref va) :: (.ref lc) :: (.ref dm) :: (.int (nI (xN x1))) :: (.int 1) :: (.ref tg) :: (.int v14_334) :: (.int v15_335) :: (.ref pe) :: (.int v17_336) :: (.int v18_337) :: (.int v19_338) :: (.int v20_339) :: (.int v21_340) :: (.int v22_341) :: (.ref ml) :: (.ref bg) :: (.ref co) :: (.ref sp) :: (.ref nb0) :: (.ref nb1) :: (.ref nb2) :: (.int (nI nf)) :: (.int (nI bd)) :: (.int (nI mm)) :: (.int v33_342) :: (.ref pl) :: (.ref se) :: (.ref ke) :: (.ref wi) :: (.ref hs) :: (.ref mo) :: (.ref po) :: (.ref nu) :: (.ref pr) :: (.ref sq) :: (.ref xa) :: (.ref sa) :: (.ref n64) :: (.ref m64) :: (.ref ex) :: (.ref wh) :: (.ref sd) :: (.ref tk) :: (.int v52_343) :: (.int v53_344) :: (.int v54_345) :: (.ref hd) :: (.ref ak) :: (.ref ho) :: (.ref ot) :: [])) ∧ va_P (dC, dI) vwCl (va_pl L G) H ∧ va_D A (va_pl L G) ∧ FR ty [ρ, ρ + 5, ρ + 32] F G := ⟨_, rfl, hP, hD, hR.up hT_h0 (by simp)⟩
              obtain ⟨hi_425, ht_426⟩ := hW.f_ta hL_h0 hT_h0
              have hF_424 : F_422 ta = .inl (cs 17, 3000, .inl gt) := by rw [he_423, up_ne (ne_ty ht_426 hT_h0 (by simp))]; exact hF_388
              have hF_427 : F_422 lc = .inr (14, [.ref r_50, .int (nI (j - 0))]) := by rw [he_423, up_ne (ne_ty hT2_lc hT_h0 (by simp))]; exact hF_389
              have hF_428 : F_422 r_50 = .inl (cs 17, 30, .inl fc_361) := by rw [he_423, up_ne (ne_ty hT2_r_50 hT_h0 (by simp))]; exact hF_390
              have hF_429 : F_422 dm = .inr (14, [.ref r_51, .int (nI (zt - (j + 1)))]) := by rw [he_423, up_ne (ne_ty hT2_dm hT_h0 (by simp))]; exact hF_391
              have hF_430 : F_422 r_51 = .inl (cs 17, 60, .inl fc_378) := by rw [he_423, up_ne (ne_ty hT2_r_51 hT_h0 (by simp))]; exact hF_392
              have hTo := hT_h0
              obtain ⟨ty, hty, hT_h0, hW, hO, hR⟩ : ∃ t9 : TyM, t9 = rtf ty h0 (15, ρ, [ta, ou, so, ad, na, va, lc, dm, tg, pe, ml, bg, co, sp, nb0, nb1, nb2, pl, se, ke, wi, hs, mo, po, nu, pr, sq, xa, sa, n64, m64, ex, wh, sd, tk, hd, ak, ho, ot, sx, s0, s1, s2, nf, bd, mm, (xN x1), 1, ze, 0]) ∧ t9 h0 = (15, ρ, [ta, ou, so, ad, na, va, lc, dm, tg, pe, ml, bg, co, sp, nb0, nb1, nb2, pl, se, ke, wi, hs, mo, po, nu, pr, sq, xa, sa, n64, m64, ex, wh, sd, tk, hd, ak, ho, ot, sx, s0, s1, s2, nf, bd, mm, (xN x1), 1, ze, 0]) ∧ WTm t9 gm L ∧ OKm cs t9 gm L F_422 ∧ FR t9 [ρ, ρ + 5, ρ + 32] F F_422 := ⟨_, rfl, rtf_self, hW.sn hL_h0 hT_h0 (by omega), (by rw [he_423]; exact OKm.retype hO hT_h0 (shm.mod rtf_self ⟨zo_333, v14_334, v15_335, v17_336, v18_337, v19_338, v20_339, v21_340, v22_341, v33_342, v52_343, v53_344, v54_345, rfl, (by first | omega | assumption | exact Or.inl rfl | exact Or.inr rfl), (by first | omega | assumption | exact Or.inl rfl | exact Or.inr rfl), (by first | omega | assumption | exact Or.inl rfl | exact Or.inr rfl), (by first | omega | assumption | exact Or.inl rfl | exact Or.inr rfl)⟩)), FR.retype hT_h0 hR⟩
              have hF_431 : F_422 h0 = .inr (15, (.ref ta) :: (.int (nI 0)) :: (.int (nI zo_333)) :: (.int (nI ze)) :: (.ref ou) :: (.ref so) :: (.ref ad) :: (.ref na) :: (.ref va) :: (.ref lc) :: (.ref dm) :: (.int (nI (xN x1))) :: (.int 1) :: (.ref tg) :: (.int v14_334) :: (.int v15_335) :: (.ref pe) :: (.int v17_336) :: (.int v18_337) :: (.int v19_338) :: (.int v20_339) :: (.int v21_340) :: (.int v22_341) :: (.ref ml) :: (.ref bg) :: (.ref co) :: (.ref sp) :: (.ref nb0) :: (.ref nb1) :: (.ref nb2) :: (.int (nI nf)) :: (.int (nI bd)) :: (.int (nI mm)) :: (.int v33_342) :: (.ref pl) :: (.ref se) :: (.ref ke) :: (.ref wi) :: (.ref hs) :: (.ref mo) :: (.ref po) :: (.ref nu) :: (.ref pr) :: (.ref sq) :: (.ref xa) :: (.ref sa) :: (.ref n64) :: (.ref m64) :: (.ref ex) :: (.ref wh) :: (.ref sd) :: (.ref tk) :: (.int v52_343) :: (.int v53_344) :: (.int v54_345) :: (.ref hd) :: (.ref ak) :: (.ref ho) :: (.ref ot) :: []) := by rw [he_423]; exact up_self
              obtain ⟨hq_454, hq_455, hq_456, hq_457, hq_458, hgO, hgA, hgB, hq_459⟩ := hW.sc hL_h0 hT_h0
              have hT2_lc : ty lc = (14, ρ + 5, [r_50, 30]) := by rw [hty]; exact rtf_tr hTo (by decide) hT2_lc
              have hT2_r_50 : ty r_50 = (17, ρ + 5, [30]) := by rw [hty]; exact rtf_tr hTo (by decide) hT2_r_50
              have hT2_dm : ty dm = (14, ρ + 32, [r_51, 60]) := by rw [hty]; exact rtf_tr hTo (by decide) hT2_dm
              have hT2_r_51 : ty r_51 = (17, ρ + 32, [60]) := by rw [hty]; exact rtf_tr hTo (by decide) hT2_r_51
              refine lv_iconst (v := 0) hx hb dX15_sender_170 (by decide) ?_
              refine W.widen (k := 0) (n := 0) (by omega) (by omega) ?_
              exact W.iret (v := 0) hx hb hr (fun t ht hWm => ⟨⟨0, (some j), rfl, (Or.inl ⟨rfl, j, hfs, hlcl, hnm, rfl⟩), ⟨F_422, ty, (by rw [hty, htyB, htyA, rtf_rtf2, rtf_rtf2]; rfl), QTm.mk ht hP hD hO hR, hW, (Or.inr ⟨j, rfl, ⟨r_50, _, _, hF_427, hF_428, tp_src (a := 0) (k := j) (fun q hq => by rw [Nat.zero_add]; exact hcd q (by omega)) hq_364, by omega⟩, ⟨r_51, _, _, hF_429, hF_430, tp_src (a := j + 1) (k := zt - (j + 1)) (fun q hq => hcd _ (by omega)) hq_381, by omega⟩⟩)⟩⟩, hS.F ht⟩) hS.2.2 dX15_sender_171
            ·
              have hi_460 : i < j := ltN (N := j) c_331
              have hij : i < j := by omega
              refine lv_aload_n hx hb dX15_sender_71 rfl (lv_at hl 3 rfl) ?_
              obtain ⟨zo_461, v14_462, v15_463, v17_464, v18_465, v19_466, v20_467, v21_468, v22_469, v33_470, v52_471, v53_472, v54_473, hF_474, hq_475, hq_476, hq_477, hq_478⟩ := hO.mod hL_h0 hT_h0
              refine pg_get (ci := 15) (v := .ref ta) (C := RX15) (T := TX15) (N := 59) hx hb hts it_15 hown hK hP hL_h0 hF_474 rfl 0 (by decide) (hts _ kt_1009) (fun _ h9 => h9) rfl dX15_sender_72 ?_
              refine lv_iload hx hb dX15_sender_75 (lv_at hl 0 rfl) ?_
              refine pg_bald hx hb hK hP hi_79 1 hF_330 rfl (vp_in_nI (by omega) (by omega)) dX15_sender_77 ?_
              refine lv_topi (fun x_479 ex_479 => ?_)
              obtain rfl : x_479 = gt i := ex_479.trans (congrArg gt (show ((nI i) : Int32).toNatClampNeg = i from nI_clamp (by omega)))
              refine lv_istore (lv' := [(5, .int (gt i)), (4, .int (nI i)), (3, .int (nI j)), (2, .int (nI zt)), (0, .ref h0), (1, .int x1)]) hx hb dX15_sender_78 hl (by decide) rfl (fun ls hl => ?_)
              have hF_482 : F ta = .inl (cs 17, 3000, .inl gt) := (hR ta (by rw [ht_80]; simp)).symm.trans hF_330
              refine W.widen (k := 0) (n := 0) (by omega) (by omega) ?_
              refine pl_cutm (σ := Unit) A (dC, dI) cs ty gm L [ρ, ρ + 5, ρ + 32] F 126 6 (fun u0 => [(4, .int (nI i)), (3, .int (nI j)), (2, .int (nI zt)), (0, .ref h0), (1, .int x1)]) (fun u0 => []) (fun u0 FF => (LOC (gt i) = true) ∧ FR ty0 [ρ] F FF) ?_ (fun jn_480 => ?_)
              ·
                rintro u0 F_481 hv_483 hO hR H locs hP hD hS ls hl
                have hl : lv_has ls 6 [(4, .int (nI i)), (3, .int (nI j)), (2, .int (nI zt)), (0, .ref h0), (1, .int x1)] := hl
                have hv_483 : (LOC (gt i) = true) ∧ FR ty0 [ρ] F F_481 := hv_483
                refine W.eq (g2 := F0 m 126 ls []) rfl ?_
                have hF_484 : F_481 ta = .inl (cs 17, 3000, .inl gt) := (hR ta (by rw [ht_80]; simp)).trans hF_482
                obtain ⟨hok, hRu⟩ := hv_483
                refine lv_iinc (v := (nI (i + 1))) (lv' := [(4, .int (nI (i + 1))), (3, .int (nI j)), (2, .int (nI zt)), (0, .ref h0), (1, .int x1)]) hx hb dX15_sender_126 hl (k := 0) rfl (nI_1 _) (by decide) rfl (fun ls hl => ?_)
                refine lv_goto (tgt := 65) hx hb dX15_sender_129 (by decide) ?_
                refine W.widen (k := 0) (n := 0) (by omega) (by omega) ?_
                exact ih_329 (i + 1) F_481 (⟨⟨by omega, fun q hq => by rcases Nat.lt_or_ge q i with w | w; exact hw2 q w; rw [show q = i by omega]; exact hok⟩, hRu⟩) (by show j - (i + 1) < j - i; omega) hO hR _ _ hP hD hS ls (lv_sub hl [0, 1, 2, 3, 4] rfl)
              ·
                refine lv_iload hx hb dX15_sender_80 (lv_at hl 0 rfl) ?_
                have hFc := pg_free hD hS hA
                refine va_calli (va_runS (As := [.int (gt i)]) (rest := []) ⟨hx, hb, hml, hown, hts⟩ (s_X15_isSmall_e l dC dI cs ty gm L H.size F_326 (gt i) hW ) ⟨callB_of 1 hts (gi kt_668) rfl rfl rfl (hts _ kt_669) (hts _ kt_670) (by decide +kernel) ⟨Nat.le_of_ble_eq_true rfl, Nat.le_of_ble_eq_true rfl⟩, (hts _ kt_671)⟩ ⟨fun a U g mk q => ⟨q.1, PTm.calling q.2⟩, fun U hU hWm => ⟨rfl, PTm.mk hU hWm hP hK hD hE hO⟩⟩ rfl rfl hl.1 rfl (lv_room (Nat.le_of_ble_eq_true rfl)) dX15_sender_82 ⟨by show _ + 0 ≤ 0; omega, by show _ + 0 ≤ 0; omega⟩) hS (fun q _ h => hFc q h) hFc (fun r_485 u t H1 locs ht hvm hw hB hz1 hk1 hS => ?_)
                obtain ⟨F_486, hB1⟩ := hB
                obtain rfl : F_326 = F_486 := (funext (fun a => hB1.2.2.2 a List.not_mem_nil)).symm
                obtain ⟨hP, hD, hO, hR⟩ := QTm.back hB1 ht hFc hR (fun q h => absurd h List.not_mem_nil)
                generalize H1 = H at hP hS ⊢
                have hw : r_485 = (if 97 ≤ (gt i) ∧ (gt i) ≤ 122 then 1 else 0) := hw
                have hw_487 := hw
                refine lv_if_ne (tgt := 126) hx hb dX15_sender_85 (by decide) (fun c_488 => ?_) (fun c_488 => ?_)
                ·
                  refine W.widen (k := 0) (n := 0) (by omega) (by omega) ?_
                  exact jn_480 () F_326 (⟨loc_s (ifb1 hw_487 c_488), hRu⟩) hO hR _ _ hP hD hS ls (lv_sub hl [1, 2, 3, 4, 5] rfl)
                ·
                  refine lv_iload hx hb dX15_sender_88 (lv_at hl 0 rfl) ?_
                  have hFc := pg_free hD hS hA
                  refine va_calli (va_runS (As := [.int (gt i)]) (rest := []) ⟨hx, hb, hml, hown, hts⟩ (s_X15_isDigit_e l dC dI cs ty gm L H.size F_326 (gt i) hW ) ⟨callB_of 1 hts (gi kt_687) rfl rfl rfl (hts _ kt_669) (hts _ kt_707) (by decide +kernel) ⟨Nat.le_of_ble_eq_true rfl, Nat.le_of_ble_eq_true rfl⟩, (hts _ kt_688)⟩ ⟨fun a U g mk q => ⟨q.1, PTm.calling q.2⟩, fun U hU hWm => ⟨rfl, PTm.mk hU hWm hP hK hD hE hO⟩⟩ rfl rfl hl.1 rfl (lv_room (Nat.le_of_ble_eq_true rfl)) dX15_sender_90 ⟨by show _ + 0 ≤ 0; omega, by show _ + 0 ≤ 0; omega⟩) hS (fun q _ h => hFc q h) hFc (fun r_489 u t H1 locs ht hvm hw hB hz1 hk1 hS => ?_)
                  obtain ⟨F_490, hB1⟩ := hB
                  obtain rfl : F_326 = F_490 := (funext (fun a => hB1.2.2.2 a List.not_mem_nil)).symm
                  obtain ⟨hP, hD, hO, hR⟩ := QTm.back hB1 ht hFc hR (fun q h => absurd h List.not_mem_nil)
                  generalize H1 = H at hP hS ⊢
                  have hw : r_489 = (if 48 ≤ (gt i) ∧ (gt i) ≤ 57 then 1 else 0) := hw
                  have hw_491 := hw
                  refine lv_if_ne (tgt := 126) hx hb dX15_sender_93 (by decide) (fun c_492 => ?_) (fun c_492 => ?_)
                  ·
                    refine W.widen (k := 0) (n := 0) (by omega) (by omega) ?_
                    exact jn_480 () F_326 (⟨loc_d (ifb1 hw_491 c_492), hRu⟩) hO hR _ _ hP hD hS ls (lv_sub hl [1, 2, 3, 4, 5] rfl)
                  ·
                    refine lv_iload hx hb dX15_sender_96 (lv_at hl 0 rfl) ?_
                    refine lv_bipush (v := 46) hx hb dX15_sender_98 (by decide) ?_
                    refine lv_icmp_eq (tgt := 126) hx hb dX15_sender_100 (by decide) (fun c_493 => ?_) (fun c_493 => ?_)
                    ·
                      refine W.widen (k := 0) (n := 0) (by omega) (by omega) ?_
                      exact jn_480 () F_326 (⟨loc_m (Or.inl c_493), hRu⟩) hO hR _ _ hP hD hS ls (lv_sub hl [1, 2, 3, 4, 5] rfl)
                    ·
                      refine lv_iload hx hb dX15_sender_103 (lv_at hl 0 rfl) ?_
                      refine lv_bipush (v := 45) hx hb dX15_sender_105 (by decide) ?_
                      refine lv_icmp_eq (tgt := 126) hx hb dX15_sender_107 (by decide) (fun c_494 => ?_) (fun c_494 => ?_)
                      ·
                        refine W.widen (k := 0) (n := 0) (by omega) (by omega) ?_
                        exact jn_480 () F_326 (⟨loc_m (Or.inr (Or.inl c_494)), hRu⟩) hO hR _ _ hP hD hS ls (lv_sub hl [1, 2, 3, 4, 5] rfl)
                      ·
                        refine lv_iload hx hb dX15_sender_110 (lv_at hl 0 rfl) ?_
                        refine lv_bipush (v := 95) hx hb dX15_sender_112 (by decide) ?_
                        refine lv_icmp_eq (tgt := 126) hx hb dX15_sender_114 (by decide) (fun c_495 => ?_) (fun c_495 => ?_)
                        ·
                          refine W.widen (k := 0) (n := 0) (by omega) (by omega) ?_
                          exact jn_480 () F_326 (⟨loc_m (Or.inr (Or.inr (Or.inl c_495))), hRu⟩) hO hR _ _ hP hD hS ls (lv_sub hl [1, 2, 3, 4, 5] rfl)
                        ·
                          refine lv_iload hx hb dX15_sender_117 (lv_at hl 0 rfl) ?_
                          refine lv_bipush (v := 43) hx hb dX15_sender_119 (by decide) ?_
                          refine lv_icmp_eq (tgt := 126) hx hb dX15_sender_121 (by decide) (fun c_496 => ?_) (fun c_496 => ?_)
                          ·
                            refine W.widen (k := 0) (n := 0) (by omega) (by omega) ?_
                            exact jn_480 () F_326 (⟨loc_m (Or.inr (Or.inr (Or.inr c_496))), hRu⟩) hO hR _ _ hP hD hS ls (lv_sub hl [1, 2, 3, 4, 5] rfl)
                          ·
                            refine lv_iconst (v := (-1)) hx hb dX15_sender_124 (by decide) ?_
                            refine W.widen (k := 0) (n := 0) (by omega) (by omega) ?_
                            exact W.iret (v := (-1)) hx hb hr (fun t ht hWm => ⟨⟨(-1), none, rfl, (Or.inr ⟨rfl, snd_n hfs (fun q => lcl_n hij (loc_n (fun w => w.elim c_493 (fun w => w.elim c_494 (fun w => w.elim c_495 c_496))) (ifb0 hw_487 c_488) (ifb0 hw_491 c_492)) q.1), rfl⟩), ⟨F_326, ty, hty, QTm.mk ht hP hD hO hR, hW, (Or.inl ⟨rfl, (by rw [← hty0]; exact hRu)⟩)⟩⟩, hS.F ht⟩) hS.2.2 dX15_sender_125
          ·
            refine lv_iconst (v := (-1)) hx hb dX15_sender_60 (by decide) ?_
            refine W.widen (k := 0) (n := 0) (by omega) (by omega) ?_
            exact W.iret (v := (-1)) hx hb hr (fun t ht hWm => ⟨⟨(-1), none, rfl, (Or.inr ⟨rfl, snd_n hfs (fun q => ifb0 hw_324 c_325 q.2), rfl⟩), ⟨F_81, ty, hty, QTm.mk ht hP hD hO hR, hW, (Or.inl ⟨rfl, (by rw [← hty0]; exact hRu)⟩)⟩⟩, hS.F ht⟩) hS.2.2 dX15_sender_61
    ·
      refine lv_iinc (v := (nI (j + 1))) (lv' := [(3, .int (nI (j + 1))), (2, .int (nI zt)), (0, .ref h0), (1, .int x1)]) hx hb dX15_sender_23 hl (k := 0) rfl (nI_1 _) (by decide) rfl (fun ls hl => ?_)
      refine lv_goto (tgt := 7) hx hb dX15_sender_26 (by decide) ?_
      refine W.widen (k := 0) (n := 0) (by omega) (by omega) ?_
      exact ih_84 (j + 1) F_81 (⟨⟨by omega, fun i hi => by rcases Nat.lt_or_ge i j with q | q; exact hv2 i q; rw [show i = j by omega]; exact c_313⟩, hRu⟩) (by show zt - (j + 1) < zt - j; omega) hO hR _ _ hP hD hS ls (lv_sub hl [0, 1, 2, 3] rfl)
set_option maxHeartbeats 4000000 in
set_option maxRecDepth 100000 in
theorem s_X15_wish_s (l : Launch) (dC : Nat → ClassId) (dI : Nat → Nat → Nat) (cs : Nat → ClassId) (ty : TyM) (gm : Nat → Nat → Nat) (L : List Nat) (sz : Nat) (F : Nat → va_E) (h0 : Nat) (ρ : Nat) (ta : Nat) (ou : Nat) (so : Nat) (ad : Nat) (na : Nat) (va : Nat) (lc : Nat) (dm : Nat) (tg : Nat) (pe : Nat) (ml : Nat) (bg : Nat) (co : Nat) (sp : Nat) (nb0 : Nat) (nb1 : Nat) (nb2 : Nat) (pl : Nat) (se : Nat) (ke : Nat) (wi : Nat) (hs : Nat) (mo : Nat) (po : Nat) (nu : Nat) (pr : Nat) (sq : Nat) (xa : Nat) (sa : Nat) (n64 : Nat) (m64 : Nat) (ex : Nat) (wh : Nat) (sd : Nat) (tk : Nat) (hd : Nat) (ak : Nat) (ho : Nat) (ot : Nat) (sx : Nat) (s0 : Nat) (s1 : Nat) (s2 : Nat) (nf : Nat) (bd : Nat) (mm : Nat) (fm : Nat) (sn : Nat) (ze : Nat) (zt : Nat) (sb : Nat) (rl : Nat) (rp : Nat) (rak : Nat) (x1 : Int32) (D : Nat → ETY) (LC : List Nat) (DN : List Nat) (hW : WTm ty gm L) (hL_h0 : h0 ∈ L) (hT_h0 : ty h0 = (15, ρ, [ta, ou, so, ad, na, va, lc, dm, tg, pe, ml, bg, co, sp, nb0, nb1, nb2, pl, se, ke, wi, hs, mo, po, nu, pr, sq, xa, sa, n64, m64, ex, wh, sd, tk, hd, ak, ho, ot, sx, s0, s1, s2, nf, bd, mm, fm, sn, ze, zt])) (hL_sx : sx ∈ L) (hT_sx : ty sx = (14, ρ + 12, [sb, 3000])) (hL_pl : pl ∈ L) (hT_pl : ty pl = (14, ρ + 10, [rl, 6000])) (hL_pe : pe ∈ L) (hT_pe : ty pe = (14, ρ + 7, [rp, 100])) (hL_ak : ak ∈ L) (hT_ak : ty ak = (14, ρ + 28, [rak, 6000])) (hDM : DIRM cs F so ad na va ze D) (hVN : ∀ k, k < ze → (D k).1 = 2 → SRC (vlL (D k)) (D k).2.2.2.2.1 (D k).2.2.2.2.2 ∧ (D k).2.2.2.2.1 ≤ 60) (hSN : (sn = 0 ∨ (TXM cs F lc 30 LC ∧ TXM cs F dm 60 DN))) : Met l yX15_wish (.code yX15_wish cX15_wish 6 (some .int) :: tb) ({ frames := 79, cells := 0, slots := 0, locals := 1787 }) (va_Pc [.ref h0, .int x1] (PTEm (dC, dI) cs ty gm L F sz [])) (va_Qi (fun (r : Int32) (_ : Unit) => True) (fun _ T9 => ∃ F2 : Nat → va_E, QTm (dC, dI) cs ty gm L (tgS ρ 0 ++ [ρ + 10, ρ + 11, ρ + 12, ρ + 13, ρ + 14, ρ + 15, ρ + 16, ρ + 17, ρ + 18, ρ + 19, ρ + 20, ρ + 21, ρ + 22, ρ + 23, ρ + 24, ρ + 25, ρ + 26, ρ + 28, ρ + 29, ρ + 30]) F F2 (va_A (va_pl L F) sz) T9) (va_A (va_pl L F) sz)) 0 0 (va_A (va_pl L F) sz) := by
  refine Met.ofW (cc := cX15_wish) (maxL := 6) (ret := (some .int)) (by decide) rfl ?_
  intro p e s m args below meth c s₁ B hml hv
  obtain ⟨rfl, ⟨hsz, hP, hK, hD0, hE, hO⟩, hG, hX⟩ := hv
  have hx := B.exec
  have hb := B.bytes
  have hr := B.returns
  have hts : ∀ w ∈ tb, w.before _ s = true := fun w h => atoms_spec (ws := .code yX15_wish cX15_wish 6 (some .int) :: tb) B.pre w (List.mem_cons_of_mem _ h)
  have hown : s.vm.findClass RX15 = some m.cls := findClass_of_methodNamed B.named
  have hlocks := B.notSynchronized
  subst hsz
  have hD := hD0.self (sz := s.heap.size)
  generalize hAe : va_A (va_pl L F) s.heap.size = A at hD hG hX ⊢
  have hA : ∀ q : Nat, s.heap.size ≤ q → A q := fun q h => by rw [← hAe]; exact Or.inr h
  have hS : va_S A s.heap s.heap [] := va_S.rf
  have hR : FR ty (tgS ρ 0 ++ [ρ + 10, ρ + 11, ρ + 12, ρ + 13, ρ + 14, ρ + 15, ρ + 16, ρ + 17, ρ + 18, ρ + 19, ρ + 20, ρ + 21, ρ + 22, ρ + 23, ρ + 24, ρ + 25, ρ + 26, ρ + 28, ρ + 29, ρ + 30]) F F := FR.refl
  have hl := lv_entry ([.ref h0, .int x1]) (n := 6) (Nat.le_of_ble_eq_true rfl)
  rw [lg_entry_eq]
  generalize (lg_sl ([.ref h0, .int x1]) ++ List.replicate (6 - (lg_sl ([.ref h0, .int x1])).length) Slot.unset).toArray = ls at hl ⊢
  have hl : lv_has ls 6 [(0, .ref h0), (1, .int x1)] := hl
  obtain ⟨hq_20, hq_21, hq_22, hq_23, hq_24, hgO, hgA, hgB, hq_25⟩ := hW.sc hL_h0 hT_h0
  obtain ⟨hi_26, ht_27⟩ := hW.f_se hL_h0 hT_h0
  obtain ⟨_, hi_28, hi_29, hi_30, _, ht_31, ht_32, ht_33, hq_34, hq_35⟩ := hW.tags hi_26 ht_27
  obtain ⟨hi_36, ht_37, hq_38⟩ := hW.txt hL_sx hT_sx
  obtain ⟨hi_39, ht_40, hq_41⟩ := hW.txt hL_pl hT_pl
  obtain ⟨hi_42, ht_43, hq_44⟩ := hW.txt hL_pe hT_pe
  obtain ⟨hi_45, ht_46, hq_47⟩ := hW.txt hL_ak hT_ak
  obtain ⟨hi_48, r_18, ht_49⟩ := hW.f_ho hL_h0 hT_h0
  obtain ⟨hi_50, ht_51, hq_52⟩ := hW.txt hi_48 ht_49
  obtain ⟨hi_53, x_7, y0_8, y1_9, y2_10, ht_54⟩ := hW.f_wi hL_h0 hT_h0
  obtain ⟨hi_55, hi_56, hi_57, hi_58, ⟨r_59, ht_60⟩, ht_61, ht_62, ht_63, hq_64, hq_65⟩ := hW.tags hi_53 ht_54
  have ht_60 : ty x_7 = (14, ρ + 16, [r_59, 700]) := ht_60
  obtain ⟨hi_66, r_2, ht_67⟩ := hW.f_dm hL_h0 hT_h0
  obtain ⟨hi_68, ht_69, hq_70⟩ := hW.txt hi_66 ht_67
  obtain ⟨hi_71, r_17, ht_72⟩ := hW.f_sd hL_h0 hT_h0
  obtain ⟨hi_73, ht_74, hq_75⟩ := hW.txt hi_71 ht_72
  have hO0 := hO
  obtain ⟨hLs0, hTs0⟩ := hW.f_so hL_h0 hT_h0
  obtain ⟨hLd0, hTd0⟩ := hW.f_ad hL_h0 hT_h0
  obtain ⟨hLn0, hTn0⟩ := hW.f_na hL_h0 hT_h0
  obtain ⟨hLv0, hTv0⟩ := hW.f_va hL_h0 hT_h0
  refine lv_aload_n hx hb dX15_wish_0 rfl (lv_at hl 0 rfl) ?_
  obtain ⟨zo_76, v14_77, v15_78, v17_79, v18_80, v19_81, v20_82, v21_83, v22_84, v33_85, v52_86, v53_87, v54_88, hF_89, hq_90, hq_91, hq_92, hq_93⟩ := hO.mod hL_h0 hT_h0
  refine pg_get (ci := 15) (v := .int (nI sn)) (C := RX15) (T := TX15) (N := 59) hx hb hts it_15 hown hK hP hL_h0 hF_89 rfl 12 (by decide) (hts _ kt_1186) (fun _ h9 => h9) rfl dX15_wish_1 ?_
  refine lv_if_eq (tgt := 11) hx hb dX15_wish_4 (by decide) (fun c_94 => ?_) (fun c_94 => ?_)
  ·
    have hi_95 : sn = 0 := (nI_eq (a := sn) (b := 0) (by omega) (by omega)).mp c_94
    refine lv_iconst (v := (-1)) hx hb dX15_wish_11 (by decide) ?_
    refine W.widen (k := 0) (n := 0) (by omega) (by omega) ?_
    exact W.iret (v := (-1)) hx hb hr (fun t ht hWm => ⟨⟨(-1), (), rfl, trivial, ⟨F, QTm.mk ht hP hD hO hR⟩⟩, hS.F ht⟩) hS.2.2 dX15_wish_12
  ·
    have hi_96 : sn ≠ 0 := fun q => c_94 (by rw [q]; rfl)
    refine lv_iload_n hx hb dX15_wish_7 rfl (lv_at hl 1 rfl) ?_
    refine lv_if_ge (tgt := 13) hx hb dX15_wish_8 (by decide) (fun c_97 => ?_) (fun c_97 => ?_)
    ·
      refine lv_aload_n hx hb dX15_wish_13 rfl (lv_at hl 0 rfl) ?_
      refine pg_get (ci := 15) (v := .int v33_85) (C := RX15) (T := TX15) (N := 59) hx hb hts it_15 hown hK hP hL_h0 hF_89 rfl 33 (by decide) (hts _ kt_891) (fun _ h9 => h9) rfl dX15_wish_14 ?_
      refine lv_if_ne (tgt := 23) hx hb dX15_wish_17 (by decide) (fun c_98 => ?_) (fun c_98 => ?_)
      ·
        refine lv_aload_n hx hb dX15_wish_23 rfl (lv_at hl 0 rfl) ?_
        have hFc := pg_free hD hS hA
        refine va_calli (va_runV (As := []) (rest := []) ⟨hx, hb, hml, hown, hts⟩ (s_X15_isSeen l dC dI cs ty gm L s.heap.size F h0 ρ ta ou so ad na va lc dm tg pe ml bg co sp nb0 nb1 nb2 pl se ke wi hs mo po nu pr sq xa sa n64 m64 ex wh sd tk hd ak ho ot sx s0 s1 s2 nf bd mm fm sn ze zt rak hW hL_h0 hT_h0 hL_ak hT_ak) ⟨callB_of 0 hts (gi kt_1188) rfl rfl rfl (hts _ kt_669) (hts _ kt_1189) (by decide +kernel) ⟨Nat.le_of_ble_eq_true rfl, Nat.le_of_ble_eq_true rfl⟩, (hts _ kt_1190), (hts _ kt_1191)⟩ ⟨fun a U g mk q => ⟨q.1, PTEm.calling q.2⟩, pg_recv hK hP hL_h0 hF_89 (q := (RX15, TX15, 59)) rfl, fun U hU hWm => ⟨rfl, PTEm.mk hU hWm hP hK hD hE hO hG (fun x hx => absurd hx List.not_mem_nil) hS hFc⟩⟩ rfl rfl hl.1 rfl (lv_room (Nat.le_of_ble_eq_true rfl)) dX15_wish_24 ⟨by show _ + 0 ≤ 0; omega, by show _ + 0 ≤ 0; omega⟩) hS (fun q _ h => hFc q h) hFc (fun r_100 wr_99 t H1 locs ht hvm hw hB hz1 hk1 hS => ?_)
        obtain ⟨F_101, za_102, hB1, hq_103, hq_104⟩ := hB
        obtain ⟨hP, hD, hO, hR⟩ := QTm.back hB1 ht hFc hR (fun q h => by simp only [mem_tgS, List.mem_append, List.mem_cons, List.not_mem_nil, or_false] at h ⊢; omega)
        have hF_105 : F_101 h0 = .inr (15, (.ref ta) :: (.int (nI zt)) :: (.int (nI zo_76)) :: (.int (nI ze)) :: (.ref ou) :: (.ref so) :: (.ref ad) :: (.ref na) :: (.ref va) :: (.ref lc) :: (.ref dm) :: (.int (nI fm)) :: (.int (nI sn)) :: (.ref tg) :: (.int v14_77) :: (.int v15_78) :: (.ref pe) :: (.int v17_79) :: (.int v18_80) :: (.int v19_81) :: (.int v20_82) :: (.int v21_83) :: (.int v22_84) :: (.ref ml) :: (.ref bg) :: (.ref co) :: (.ref sp) :: (.ref nb0) :: (.ref nb1) :: (.ref nb2) :: (.int (nI nf)) :: (.int (nI bd)) :: (.int (nI mm)) :: (.int v33_85) :: (.ref pl) :: (.ref se) :: (.ref ke) :: (.ref wi) :: (.ref hs) :: (.ref mo) :: (.ref po) :: (.ref nu) :: (.ref pr) :: (.ref sq) :: (.ref xa) :: (.ref sa) :: (.ref n64) :: (.ref m64) :: (.ref ex) :: (.ref wh) :: (.ref sd) :: (.ref tk) :: (.int v52_86) :: (.int v53_87) :: (.int v54_88) :: (.ref hd) :: (.ref ak) :: (.ref ho) :: (.ref ot) :: []) := (hB1.2.2.2 h0 (by rw [hT_h0]; simp)).trans hF_89
        generalize H1 = H at hP hS ⊢
        have hw : (r_100 = wr_99 ∧ (r_100 = 0 ∨ r_100 = 1)) := hw
        have hw_106 := hw
        refine lv_if_ne (tgt := 32) hx hb dX15_wish_27 (by decide) (fun c_107 => ?_) (fun c_107 => ?_)
        ·
          have hza := hq_104 (by have h9 := hw_106; rw [← h9.1]; exact h9.2.resolve_left c_107)
          refine lv_iconst (v := 1) hx hb dX15_wish_32 (by decide) ?_
          refine lv_istore_n (lv' := [(2, .int 1), (0, .ref h0), (1, .int x1)]) hx hb dX15_wish_33 rfl hl (by decide) rfl (fun ls hl => ?_)
          refine lv_aload_n hx hb dX15_wish_34 rfl (lv_at hl 1 rfl) ?_
          refine lv_aload_n hx hb dX15_wish_35 rfl (lv_at hl 1 rfl) ?_
          refine pg_get (ci := 15) (v := .ref ak) (C := RX15) (T := TX15) (N := 59) hx hb hts it_15 hown hK hP hL_h0 hF_105 rfl 56 (by decide) (hts _ kt_999) (fun _ h9 => h9) rfl dX15_wish_36 ?_
          have hFc := pg_free hD hS hA
          refine va_calli (va_runV (As := [.ref ak]) (rest := []) ⟨hx, hb, hml, hown, hts⟩ (s_X15_wantedOf l dC dI cs ty gm L H.size F_101 h0 ρ ta ou so ad na va lc dm tg pe ml bg co sp nb0 nb1 nb2 pl se ke wi hs mo po nu pr sq xa sa n64 m64 ex wh sd tk hd ak ho ot sx s0 s1 s2 nf bd mm fm sn ze zt ak (ρ + 28) rak 6000 za_102 hW hL_h0 hT_h0 hL_ak hT_ak hq_103 (by first | omega | assumption) (by first | omega | assumption) (by first | omega | assumption)) ⟨callB_of 1 hts (gi kt_1192) rfl rfl rfl (hts _ kt_669) (hts _ kt_1193) (by decide +kernel) ⟨Nat.le_of_ble_eq_true rfl, Nat.le_of_ble_eq_true rfl⟩, (hts _ kt_1194), (hts _ kt_1195)⟩ ⟨fun a U g mk q => ⟨q.1, PTEm.calling q.2⟩, pg_recv hK hP hL_h0 hF_105 (q := (RX15, TX15, 59)) rfl, fun U hU hWm => ⟨rfl, PTEm.mk hU hWm hP hK hD hE hO hG (fun x hx => absurd hx List.not_mem_nil) hS hFc⟩⟩ rfl rfl hl.1 rfl (lv_room (Nat.le_of_ble_eq_true rfl)) dX15_wish_39 ⟨by show _ + 0 ≤ 0; omega, by show _ + 0 ≤ 0; omega⟩) hS (fun q _ h => hFc q h) hFc (fun r_108 u t H1 locs ht hvm hw hB hz1 hk1 hS => ?_)
          obtain ⟨F_109, hB1⟩ := hB
          obtain ⟨hP, hD, hO, hR⟩ := QTm.back hB1 ht hFc hR (fun q h => by simp only [mem_tgS, List.mem_append, List.mem_cons, List.not_mem_nil, or_false] at h ⊢; omega)
          have hF_110 : F_109 h0 = .inr (15, (.ref ta) :: (.int (nI zt)) :: (.int (nI zo_76)) :: (.int (nI ze)) :: (.ref ou) :: (.ref so) :: (.ref ad) :: (.ref na) :: (.ref va) :: (.ref lc) :: (.ref dm) :: (.int (nI fm)) :: (.int (nI sn)) :: (.ref tg) :: (.int v14_77) :: (.int v15_78) :: (.ref pe) :: (.int v17_79) :: (.int v18_80) :: (.int v19_81) :: (.int v20_82) :: (.int v21_83) :: (.int v22_84) :: (.ref ml) :: (.ref bg) :: (.ref co) :: (.ref sp) :: (.ref nb0) :: (.ref nb1) :: (.ref nb2) :: (.int (nI nf)) :: (.int (nI bd)) :: (.int (nI mm)) :: (.int v33_85) :: (.ref pl) :: (.ref se) :: (.ref ke) :: (.ref wi) :: (.ref hs) :: (.ref mo) :: (.ref po) :: (.ref nu) :: (.ref pr) :: (.ref sq) :: (.ref xa) :: (.ref sa) :: (.ref n64) :: (.ref m64) :: (.ref ex) :: (.ref wh) :: (.ref sd) :: (.ref tk) :: (.int v52_86) :: (.int v53_87) :: (.int v54_88) :: (.ref hd) :: (.ref ak) :: (.ref ho) :: (.ref ot) :: []) := (hB1.2.2.2 h0 (by rw [hT_h0]; simp)).trans hF_105
          have hF_111 : F_109 ak = .inr (14, [.ref rak, .int (nI za_102)]) := (hB1.2.2.2 ak (by rw [hT_ak]; simp)).trans hq_103
          generalize H1 = H at hP hS ⊢
          have hw : (r_108 = (-1) ∨ r_108 = (-2) ∨ ∃ j : Nat, j < 40 ∧ r_108 = nI j) := hw
          have hw_112 := hw
          refine lv_istore_n (lv' := [(3, .int r_108), (2, .int 1), (0, .ref h0), (1, .int x1)]) hx hb dX15_wish_42 rfl hl (by decide) rfl (fun ls hl => ?_)
          refine W.widen (k := 0) (n := 0) (by omega) (by omega) ?_
          refine pl_cutm (σ := Int32 × Int32) A (dC, dI) cs ty gm L (tgS ρ 0 ++ [ρ + 10, ρ + 11, ρ + 12, ρ + 13, ρ + 14, ρ + 15, ρ + 16, ρ + 17, ρ + 18, ρ + 19, ρ + 20, ρ + 21, ρ + 22, ρ + 23, ρ + 24, ρ + 25, ρ + 26, ρ + 28, ρ + 29, ρ + 30]) F 71 6 (fun (s3, sw2) => [(3, .int s3), (2, .int sw2), (0, .ref h0), (1, .int x1)]) (fun (s3, sw2) => []) (fun (s3, sw2) FF => (s3 = (-1) ∨ s3 = (-2) ∨ ∃ j : Nat, j < 40 ∧ s3 = nI j) ∧ FF ak = .inr (14, [.ref rak, .int (nI za_102)])) ?_ (fun jn_113 => ?_)
          ·
            rintro ⟨s3, sw2⟩ F_114 hv_115 hO hR H locs hP hD hS ls hl
            have hl : lv_has ls 6 [(3, .int s3), (2, .int sw2), (0, .ref h0), (1, .int x1)] := hl
            have hv_115 : (s3 = (-1) ∨ s3 = (-2) ∨ ∃ j : Nat, j < 40 ∧ s3 = nI j) ∧ F_114 ak = .inr (14, [.ref rak, .int (nI za_102)]) := hv_115
            refine W.eq (g2 := F0 m 71 ls []) rfl ?_
            obtain ⟨hs3, hak3⟩ := hv_115
            refine lv_iload_n hx hb dX15_wish_71 rfl (lv_at hl 0 rfl) ?_
            refine lv_if_ge (tgt := 87) hx hb dX15_wish_72 (by decide) (fun c_116 => ?_) (fun c_116 => ?_)
            ·
              obtain ⟨kv, hkv, ekv⟩ := rec0 hs3 c_116
              subst ekv
              refine lv_aload_n hx hb dX15_wish_87 rfl (lv_at hl 2 rfl) ?_
              obtain ⟨zo_117, v14_118, v15_119, v17_120, v18_121, v19_122, v20_123, v21_124, v22_125, v33_126, v52_127, v53_128, v54_129, hF_130, hq_131, hq_132, hq_133, hq_134⟩ := hO.mod hL_h0 hT_h0
              refine pg_get (ci := 15) (v := .ref va) (C := RX15) (T := TX15) (N := 59) hx hb hts it_15 hown hK hP hL_h0 hF_130 rfl 8 (by decide) (hts _ kt_732) (fun _ h9 => h9) rfl dX15_wish_88 ?_
              refine lv_iload_n hx hb dX15_wish_91 rfl (lv_at hl 0 rfl) ?_
              obtain ⟨hi_135, ht_136⟩ := hW.f_va hL_h0 hT_h0
              obtain ⟨f_137, hF_138, hq_139⟩ := hO.rtxj hi_135 ht_136
              obtain ⟨b_140, r_141, hbf_142, hi_143, ht_144⟩ := hq_139 kv (by omega)
              refine pg_aald (r := b_140) hx hb hK hP hi_135 7 hF_138 rfl (vp_in_nI (by omega) (by omega)) (show f_137 ((nI kv) : Int32).toNatClampNeg = _ from by rw [show ((nI kv) : Int32) = nI kv from rfl, nI_clamp (by omega)]; exact hbf_142) dX15_wish_92 ?_
              obtain ⟨hi_145, ht_146, hq_147⟩ := hW.txt hi_143 ht_144
              obtain ⟨z_148, hF_149, hq_150⟩ := hO.txt hi_143 ht_144
              refine pg_get (ci := 14) (v := .ref r_141) (C := RX14) (T := TX14) (N := 2) hx hb hts it_14 hown hK hP hi_143 hF_149 rfl 0 (by decide) (hts _ kt_710) (fun _ h9 => h9) rfl dX15_wish_93 ?_
              refine lv_iconst (v := 0) hx hb dX15_wish_96 (by decide) ?_
              refine lv_aload_n hx hb dX15_wish_97 rfl (lv_at hl 2 rfl) ?_
              refine pg_get (ci := 15) (v := .ref va) (C := RX15) (T := TX15) (N := 59) hx hb hts it_15 hown hK hP hL_h0 hF_130 rfl 8 (by decide) (hts _ kt_732) (fun _ h9 => h9) rfl dX15_wish_98 ?_
              refine lv_iload_n hx hb dX15_wish_101 rfl (lv_at hl 0 rfl) ?_
              obtain ⟨b_151, r_152, hbf_153, hi_154, ht_155⟩ := hq_139 kv (by omega)
              refine pg_aald (r := b_151) hx hb hK hP hi_135 7 hF_138 rfl (vp_in_nI (by omega) (by omega)) (show f_137 ((nI kv) : Int32).toNatClampNeg = _ from by rw [show ((nI kv) : Int32) = nI kv from rfl, nI_clamp (by omega)]; exact hbf_153) dX15_wish_102 ?_
              obtain ⟨hi_156, ht_157, hq_158⟩ := hW.txt hi_154 ht_155
              obtain ⟨z_159, hF_160, hq_161⟩ := hO.txt hi_154 ht_155
              refine pg_get (ci := 14) (v := .int (nI z_159)) (C := RX14) (T := TX14) (N := 2) hx hb hts it_14 hown hK hP hi_154 hF_160 rfl 1 (by decide) (hts _ kt_709) (fun _ h9 => h9) rfl dX15_wish_103 ?_
              refine lv_aload_n hx hb dX15_wish_106 rfl (lv_at hl 2 rfl) ?_
              refine pg_get (ci := 15) (v := .ref wi) (C := RX15) (T := TX15) (N := 59) hx hb hts it_15 hown hK hP hL_h0 hF_130 rfl 37 (by decide) (hts _ kt_1138) (fun _ h9 => h9) rfl dX15_wish_107 ?_
              obtain ⟨z_162, hF_163, hq_164⟩ := hO.tags hi_53 ht_54
              refine pg_get (ci := 13) (v := .ref x_7) (C := RX13) (T := TX13) (N := 5) hx hb hts it_13 hown hK hP hi_53 hF_163 rfl 0 (by decide) (hts _ kt_842) (fun _ h9 => h9) rfl dX15_wish_110 ?_
              refine W.eq (g2 := F0 m 113 ls [.ref x_7, .int (nI z_159), .int (nI 0), .ref r_141]) rfl ?_
              obtain ⟨hq_165, hq_166⟩ := hW.octs hi_145 ht_146
              obtain ⟨hi_167, ht_168, hq_169⟩ := hW.txt hi_55 ht_60
              have hFc := pg_free hD hS hA
              refine va_callv (va_runS (As := [.ref r_141, .int (nI 0), .int (nI z_159), .ref x_7]) (rest := []) ⟨hx, hb, hml, hown, hts⟩ (s_X15_withoutWhite l dC dI cs ty gm L H.size F_114 r_141 (ρ + 50 + kv + 100) 700 x_7 (ρ + 16) r_59 700 0 z_159 hW hi_145 ht_146 hi_55 ht_60 (by first | omega | assumption) (by first | omega | assumption) (by first | omega | assumption)) ⟨callB_of 4 hts (gi kt_940) rfl rfl rfl (hts _ kt_669) (hts _ kt_941) (by decide +kernel) ⟨Nat.le_of_ble_eq_true rfl, Nat.le_of_ble_eq_true rfl⟩, (hts _ kt_942)⟩ ⟨fun a U g mk q => ⟨q.1, PTm.calling q.2⟩, fun U hU hWm => ⟨rfl, PTm.mk hU hWm hP hK hD hE hO⟩⟩ rfl rfl hl.1 rfl (lv_room (Nat.le_of_ble_eq_true rfl)) dX15_wish_113 ⟨by show _ + 0 ≤ 0; omega, by show _ + 0 ≤ 0; omega⟩) hS (fun q _ h => hFc q h) hFc (fun u t H1 locs ht hvm hw hB hz1 hk1 hS => ?_)
              obtain ⟨F_171, z2_172, hB1, hq_173, hq_174⟩ := hB
              obtain ⟨hP, hD, hO, hR⟩ := QTm.back hB1 ht hFc hR (fun q h => by simp only [mem_tgS, List.mem_append, List.mem_cons, List.not_mem_nil, or_false] at h ⊢; omega)
              have hF_175 : F_171 ak = .inr (14, [.ref rak, .int (nI za_102)]) := (hB1.2.2.2 ak (by rw [hT_ak]; simp)).trans hak3
              have hF_176 : F_171 h0 = .inr (15, (.ref ta) :: (.int (nI zt)) :: (.int (nI zo_117)) :: (.int (nI ze)) :: (.ref ou) :: (.ref so) :: (.ref ad) :: (.ref na) :: (.ref va) :: (.ref lc) :: (.ref dm) :: (.int (nI fm)) :: (.int (nI sn)) :: (.ref tg) :: (.int v14_118) :: (.int v15_119) :: (.ref pe) :: (.int v17_120) :: (.int v18_121) :: (.int v19_122) :: (.int v20_123) :: (.int v21_124) :: (.int v22_125) :: (.ref ml) :: (.ref bg) :: (.ref co) :: (.ref sp) :: (.ref nb0) :: (.ref nb1) :: (.ref nb2) :: (.int (nI nf)) :: (.int (nI bd)) :: (.int (nI mm)) :: (.int v33_126) :: (.ref pl) :: (.ref se) :: (.ref ke) :: (.ref wi) :: (.ref hs) :: (.ref mo) :: (.ref po) :: (.ref nu) :: (.ref pr) :: (.ref sq) :: (.ref xa) :: (.ref sa) :: (.ref n64) :: (.ref m64) :: (.ref ex) :: (.ref wh) :: (.ref sd) :: (.ref tk) :: (.int v52_127) :: (.int v53_128) :: (.int v54_129) :: (.ref hd) :: (.ref ak) :: (.ref ho) :: (.ref ot) :: []) := (hB1.2.2.2 h0 (by rw [hT_h0]; simp)).trans hF_130
              have hF_177 : F_171 va = .inl (cs 23, 40, .inr (.inr (.inr (.inr f_137)))) := (hB1.2.2.2 va (by rw [ht_136]; simp)).trans hF_138
              have hF_178 : F_171 b_140 = .inr (14, [.ref r_141, .int (nI z_148)]) := (hB1.2.2.2 b_140 (by rw [ht_144]; simp only [mem_tgS, List.mem_append, List.mem_cons, List.not_mem_nil, or_false]; omega)).trans hF_149
              have hF_179 : F_171 b_151 = .inr (14, [.ref r_152, .int (nI z_159)]) := (hB1.2.2.2 b_151 (by rw [ht_155]; simp only [mem_tgS, List.mem_append, List.mem_cons, List.not_mem_nil, or_false]; omega)).trans hF_160
              have hF_180 : F_171 wi = .inr (13, [.ref x_7, .ref y0_8, .ref y1_9, .ref y2_10, .int (nI z_162)]) := (hB1.2.2.2 wi (by rw [ht_54]; simp)).trans hF_163
              generalize H1 = H at hP hS ⊢
              refine lv_aload_n hx hb dX15_wish_116 rfl (lv_at hl 2 rfl) ?_
              refine pg_get (ci := 15) (v := .ref wi) (C := RX15) (T := TX15) (N := 59) hx hb hts it_15 hown hK hP hL_h0 hF_176 rfl 37 (by decide) (hts _ kt_1138) (fun _ h9 => h9) rfl dX15_wish_117 ?_
              refine lv_bipush (v := 8) hx hb dX15_wish_120 (by decide) ?_
              have hFc := pg_free hD hS hA
              refine va_calli (va_runV (As := [.int 8]) (rest := []) ⟨hx, hb, hml, hown, hts⟩ (s_X13_read l dC dI cs ty gm L H.size F_171 wi (ρ + 15) x_7 700 700 y0_8 y1_9 y2_10 r_59 z2_172 8 hW hi_53 ht_54 hi_55 ht_60 hq_173 (by first | omega | assumption)) ⟨callB_of 1 hts (gi kt_859) rfl rfl rfl (hts _ kt_829) (hts _ kt_860) (by decide +kernel) ⟨Nat.le_of_ble_eq_true rfl, Nat.le_of_ble_eq_true rfl⟩, (hts _ kt_861), (hts _ kt_862)⟩ ⟨fun a U g mk q => ⟨q.1, PTm.calling q.2⟩, pg_recv hK hP hi_53 hF_180 (q := (RX13, TX13, 5)) rfl, fun U hU hWm => ⟨rfl, PTm.mk hU hWm hP hK hD hE hO⟩⟩ rfl rfl hl.1 rfl (lv_room (Nat.le_of_ble_eq_true rfl)) dX15_wish_122 ⟨by show _ + 0 ≤ 0; omega, by show _ + 0 ≤ 0; omega⟩) hS (fun q _ h => hFc q h) hFc (fun r_181 u t H1 locs ht hvm hw hB hz1 hk1 hS => ?_)
              obtain ⟨F_182, z2_183, hB1, hq_184, hq_185⟩ := hB
              obtain ⟨hP, hD, hO, hR⟩ := QTm.back hB1 ht hFc hR (fun q h => by simp only [mem_tgS, List.mem_append, List.mem_cons, List.not_mem_nil, or_false] at h ⊢; omega)
              have hF_186 : F_182 ak = .inr (14, [.ref rak, .int (nI za_102)]) := (hB1.2.2.2 ak (by rw [hT_ak]; simp)).trans hF_175
              have hF_187 : F_182 h0 = .inr (15, (.ref ta) :: (.int (nI zt)) :: (.int (nI zo_117)) :: (.int (nI ze)) :: (.ref ou) :: (.ref so) :: (.ref ad) :: (.ref na) :: (.ref va) :: (.ref lc) :: (.ref dm) :: (.int (nI fm)) :: (.int (nI sn)) :: (.ref tg) :: (.int v14_118) :: (.int v15_119) :: (.ref pe) :: (.int v17_120) :: (.int v18_121) :: (.int v19_122) :: (.int v20_123) :: (.int v21_124) :: (.int v22_125) :: (.ref ml) :: (.ref bg) :: (.ref co) :: (.ref sp) :: (.ref nb0) :: (.ref nb1) :: (.ref nb2) :: (.int (nI nf)) :: (.int (nI bd)) :: (.int (nI mm)) :: (.int v33_126) :: (.ref pl) :: (.ref se) :: (.ref ke) :: (.ref wi) :: (.ref hs) :: (.ref mo) :: (.ref po) :: (.ref nu) :: (.ref pr) :: (.ref sq) :: (.ref xa) :: (.ref sa) :: (.ref n64) :: (.ref m64) :: (.ref ex) :: (.ref wh) :: (.ref sd) :: (.ref tk) :: (.int v52_127) :: (.int v53_128) :: (.int v54_129) :: (.ref hd) :: (.ref ak) :: (.ref ho) :: (.ref ot) :: []) := (hB1.2.2.2 h0 (by rw [hT_h0]; simp)).trans hF_176
              have hF_188 : F_182 va = .inl (cs 23, 40, .inr (.inr (.inr (.inr f_137)))) := (hB1.2.2.2 va (by rw [ht_136]; simp)).trans hF_177
              have hF_189 : F_182 b_140 = .inr (14, [.ref r_141, .int (nI z_148)]) := (hB1.2.2.2 b_140 (by rw [ht_144]; simp only [mem_tgS, List.mem_append, List.mem_cons, List.not_mem_nil, or_false]; omega)).trans hF_178
              have hF_190 : F_182 b_151 = .inr (14, [.ref r_152, .int (nI z_159)]) := (hB1.2.2.2 b_151 (by rw [ht_155]; simp only [mem_tgS, List.mem_append, List.mem_cons, List.not_mem_nil, or_false]; omega)).trans hF_179
              have hF_191 : F_182 x_7 = .inr (14, [.ref r_59, .int (nI z2_172)]) := (hB1.2.2.2 x_7 (by rw [ht_60]; simp)).trans hq_173
              generalize H1 = H at hP hS ⊢
              have hw : (r_181 = 0 ∨ r_181 = 1) := hw
              have hw_192 := hw
              refine lv_if_ne (tgt := 131) hx hb dX15_wish_125 (by decide) (fun c_193 => ?_) (fun c_193 => ?_)
              ·
                refine lv_aload_n hx hb dX15_wish_131 rfl (lv_at hl 2 rfl) ?_
                refine pg_get (ci := 15) (v := .ref wi) (C := RX15) (T := TX15) (N := 59) hx hb hts it_15 hown hK hP hL_h0 hF_187 rfl 37 (by decide) (hts _ kt_1138) (fun _ h9 => h9) rfl dX15_wish_132 ?_
                obtain ⟨q_194, v_195, hr_q_194, hX_q_194⟩ := hG.2.2 ("PostGateModel", 533, "p", [112]) (by decide +kernel)
                have hX_q_194 : SXc q_194 v_195 1 (cct [112]) A s s.heap := hX_q_194
                obtain ⟨xo_q_194, xc_q_194, xv_q_194, xt_q_194, xn_q_194⟩ := id hX_q_194
                have hr_q_194 : vk_R "PostGateModel" 533 "p" q_194 s := hr_q_194
                refine va_ldcwS hx hb hown hr_q_194 dX15_wish_135 ?_
                have hFc := pg_free hD hS hA
                refine va_calli (va_runS (As := [.ref wi, .ref q_194]) (rest := []) ⟨hx, hb, hml, hown, hts⟩ (s_X15_wanted l dC dI cs ty gm L H.size F_182 wi (ρ + 15) x_7 700 700 y0_8 y1_9 y2_10 r_59 z2_183 q_194 v_195 1 (cct [112]) hW hi_53 ht_54 hi_55 ht_60 hq_184 (by first | omega | assumption)) ⟨callB_of 2 hts (gi kt_1196) rfl rfl rfl (hts _ kt_669) (hts _ kt_1197) (by decide +kernel) ⟨Nat.le_of_ble_eq_true rfl, Nat.le_of_ble_eq_true rfl⟩, (hts _ kt_1198)⟩ ⟨fun a U g mk q => ⟨q.1, PTEm.calling q.2⟩, fun U hU hWm => ⟨rfl, PTEm.mk hU hWm hP hK hD hE hO hG (fun x hx => by rw [List.mem_singleton] at hx; subst hx; exact hX_q_194) hS hFc⟩⟩ rfl rfl hl.1 rfl (lv_room (Nat.le_of_ble_eq_true rfl)) dX15_wish_138 ⟨by show _ + 0 ≤ 0; omega, by show _ + 0 ≤ 0; omega⟩) hS (fun q _ h => hFc q h) hFc (fun r_196 u t H1 locs ht hvm hw hB hz1 hk1 hS => ?_)
                obtain ⟨F_197, hB1⟩ := hB
                obtain rfl : F_182 = F_197 := (funext (fun a => hB1.2.2.2 a List.not_mem_nil)).symm
                obtain ⟨hP, hD, hO, hR⟩ := QTm.back hB1 ht hFc hR (fun q h => absurd h List.not_mem_nil)
                generalize H1 = H at hP hS ⊢
                have hw : True := hw
                have hw_198 := hw
                refine lv_istore (lv' := [(4, .int r_196), (3, .int (nI kv)), (2, .int sw2), (0, .ref h0), (1, .int x1)]) hx hb dX15_wish_141 hl (by decide) rfl (fun ls hl => ?_)
                refine lv_iload hx hb dX15_wish_143 (lv_at hl 0 rfl) ?_
                refine lv_bipush (v := 6) hx hb dX15_wish_145 (by decide) ?_
                refine lv_icmp_ne (tgt := 153) hx hb dX15_wish_147 (by decide) (fun c_199 => ?_) (fun c_199 => ?_)
                ·
                  have hF_202 : F va = .inl (cs 23, 40, .inr (.inr (.inr (.inr f_137)))) := (hR va (by rw [ht_136]; simp only [mem_tgS, List.mem_append, List.mem_cons, List.not_mem_nil, or_false]; omega)).symm.trans hF_188
                  have hF_203 : F b_140 = .inr (14, [.ref r_141, .int (nI z_148)]) := (hR b_140 (by rw [ht_144]; simp only [mem_tgS, List.mem_append, List.mem_cons, List.not_mem_nil, or_false]; omega)).symm.trans hF_189
                  have hF_204 : F b_151 = .inr (14, [.ref r_152, .int (nI z_159)]) := (hR b_151 (by rw [ht_155]; simp only [mem_tgS, List.mem_append, List.mem_cons, List.not_mem_nil, or_false]; omega)).symm.trans hF_190
                  refine W.widen (k := 0) (n := 0) (by omega) (by omega) ?_
                  refine pl_cutm (σ := Int32) A (dC, dI) cs ty gm L (tgS ρ 0 ++ [ρ + 10, ρ + 11, ρ + 12, ρ + 13, ρ + 14, ρ + 15, ρ + 16, ρ + 17, ρ + 18, ρ + 19, ρ + 20, ρ + 21, ρ + 22, ρ + 23, ρ + 24, ρ + 25, ρ + 26, ρ + 28, ρ + 29, ρ + 30]) F 192 6 (fun s4 => [(4, .int s4), (0, .ref h0), (1, .int x1)]) (fun s4 => []) (fun s4 _ => True) ?_ (fun jn_200 => ?_)
                  ·
                    rintro s4 F_201 hv_205 hO hR H locs hP hD hS ls hl
                    have hl : lv_has ls 6 [(4, .int s4), (0, .ref h0), (1, .int x1)] := hl
                    have hv_205 : True := hv_205
                    refine W.eq (g2 := F0 m 192 ls []) rfl ?_
                    have hF_206 : F_201 va = .inl (cs 23, 40, .inr (.inr (.inr (.inr f_137)))) := (hR va (by rw [ht_136]; simp only [mem_tgS, List.mem_append, List.mem_cons, List.not_mem_nil, or_false]; omega)).trans hF_202
                    have hF_207 : F_201 b_140 = .inr (14, [.ref r_141, .int (nI z_148)]) := (hR b_140 (by rw [ht_144]; simp only [mem_tgS, List.mem_append, List.mem_cons, List.not_mem_nil, or_false]; omega)).trans hF_203
                    have hF_208 : F_201 b_151 = .inr (14, [.ref r_152, .int (nI z_159)]) := (hR b_151 (by rw [ht_155]; simp only [mem_tgS, List.mem_append, List.mem_cons, List.not_mem_nil, or_false]; omega)).trans hF_204
                    refine lv_aload_n hx hb dX15_wish_192 rfl (lv_at hl 1 rfl) ?_
                    have hQso := hR so (by rw [hTs0]; simp only [mem_tgS, List.mem_append, List.mem_cons, List.not_mem_nil, or_false]; omega)
                    have hQad := hR ad (by rw [hTd0]; simp only [mem_tgS, List.mem_append, List.mem_cons, List.not_mem_nil, or_false]; omega)
                    have hQna := hR na (by rw [hTn0]; simp only [mem_tgS, List.mem_append, List.mem_cons, List.not_mem_nil, or_false]; omega)
                    have hQva := hR va (by rw [hTv0]; simp only [mem_tgS, List.mem_append, List.mem_cons, List.not_mem_nil, or_false]; omega)
                    have hDM5 := DIRM.fr hDM hO0 hW hLn0 hTn0 hLv0 hTv0 (by omega) hR hQso hQad hQna hQva (fun k hk => ⟨by simp only [mem_tgS, List.mem_append, List.mem_cons, List.not_mem_nil, or_false]; omega, by simp only [mem_tgS, List.mem_append, List.mem_cons, List.not_mem_nil, or_false]; omega⟩)
                    obtain ⟨hi_209, r_1, ht_210⟩ := hW.f_lc hL_h0 hT_h0
                    have hSN5 : sn = 0 ∨ (TXM cs F_201 lc 30 LC ∧ TXM cs F_201 dm 60 DN) := hSN.imp id (fun q => ⟨q.1.fr hO0 hW hi_209 ht_210 hR (by simp only [mem_tgS, List.mem_append, List.mem_cons, List.not_mem_nil, or_false]; omega), q.2.fr hO0 hW hi_66 ht_67 hR (by simp only [mem_tgS, List.mem_append, List.mem_cons, List.not_mem_nil, or_false]; omega)⟩)
                    have hFc := pg_free hD hS hA
                    obtain ⟨zo_211, v14_212, v15_213, v17_214, v18_215, v19_216, v20_217, v21_218, v22_219, v33_220, v52_221, v53_222, v54_223, hF_224, hq_225, hq_226, hq_227, hq_228⟩ := hO.mod hL_h0 hT_h0
                    refine va_calli (va_runV (As := []) (rest := []) ⟨hx, hb, hml, hown, hts⟩ (s_X15_permission_x l dC dI cs ty gm L H.size F_201 h0 ρ ta ou so ad na va lc dm tg pe ml bg co sp nb0 nb1 nb2 pl se ke wi hs mo po nu pr sq xa sa n64 m64 ex wh sd tk hd ak ho ot sx s0 s1 s2 nf bd mm fm sn ze zt rp D LC DN hW hL_h0 hT_h0 hL_pe hT_pe (hDM5) (hVN) (hSN5)) ⟨callB_of 0 hts (gi kt_1199) rfl rfl rfl (hts _ kt_669) (hts _ kt_1200) (by decide +kernel) ⟨Nat.le_of_ble_eq_true rfl, Nat.le_of_ble_eq_true rfl⟩, (hts _ kt_1201), (hts _ kt_1202)⟩ ⟨fun a U g mk q => ⟨q.1, PTEm.calling q.2⟩, pg_recv hK hP hL_h0 hF_224 (q := (RX15, TX15, 59)) rfl, fun U hU hWm => ⟨rfl, PTEm.mk hU hWm hP hK hD hE hO hG (fun x hx => absurd hx List.not_mem_nil) hS hFc⟩⟩ rfl rfl hl.1 rfl (lv_room (Nat.le_of_ble_eq_true rfl)) dX15_wish_193 ⟨by show _ + 0 ≤ 0; omega, by show _ + 0 ≤ 0; omega⟩) hS (fun q _ h => hFc q h) hFc (fun r_229 u t H1 locs ht hvm hw hB hz1 hk1 hS => ?_)
                    obtain ⟨F_230, hB1⟩ := hB
                    obtain ⟨hP, hD, hO, hR⟩ := QTm.back hB1 ht hFc hR (fun q h => by simp only [mem_tgS, List.mem_append, List.mem_cons, List.not_mem_nil, or_false] at h ⊢; omega)
                    have hF_231 : F_230 va = .inl (cs 23, 40, .inr (.inr (.inr (.inr f_137)))) := (hB1.2.2.2 va (by rw [ht_136]; simp only [mem_tgS, List.mem_append, List.mem_cons, List.not_mem_nil, or_false]; omega)).trans hF_206
                    have hF_232 : F_230 b_140 = .inr (14, [.ref r_141, .int (nI z_148)]) := (hB1.2.2.2 b_140 (by rw [ht_144]; simp only [mem_tgS, List.mem_append, List.mem_cons, List.not_mem_nil, or_false]; omega)).trans hF_207
                    have hF_233 : F_230 b_151 = .inr (14, [.ref r_152, .int (nI z_159)]) := (hB1.2.2.2 b_151 (by rw [ht_155]; simp only [mem_tgS, List.mem_append, List.mem_cons, List.not_mem_nil, or_false]; omega)).trans hF_208
                    generalize H1 = H at hP hS ⊢
                    have hw : r_229 = (if sn = 0 then (-1) else nI (CHW D ze (sdM LC DN (nI fm)) (nI fm) 11 DN 0 0).1) := hw
                    have hw_234 := hw
                    refine lv_iconst (v := 2) hx hb dX15_wish_196 (by decide) ?_
                    refine lv_icmp_ne (tgt := 230) hx hb dX15_wish_197 (by decide) (fun c_235 => ?_) (fun c_235 => ?_)
                    ·
                      refine lv_iconst (v := 0) hx hb dX15_wish_230 (by decide) ?_
                      refine lv_istore (lv' := [(5, .int 0), (4, .int s4), (0, .ref h0), (1, .int x1)]) hx hb dX15_wish_231 hl (by decide) rfl (fun ls hl => ?_)
                      refine W.widen (k := 0) (n := 0) (by omega) (by omega) ?_
                      have hF_237 : F va = .inl (cs 23, 40, .inr (.inr (.inr (.inr f_137)))) := (hR va (by rw [ht_136]; simp only [mem_tgS, List.mem_append, List.mem_cons, List.not_mem_nil, or_false]; omega)).symm.trans hF_231
                      have hF_238 : F b_140 = .inr (14, [.ref r_141, .int (nI z_148)]) := (hR b_140 (by rw [ht_144]; simp only [mem_tgS, List.mem_append, List.mem_cons, List.not_mem_nil, or_false]; omega)).symm.trans hF_232
                      have hF_239 : F b_151 = .inr (14, [.ref r_152, .int (nI z_159)]) := (hR b_151 (by rw [ht_155]; simp only [mem_tgS, List.mem_append, List.mem_cons, List.not_mem_nil, or_false]; omega)).symm.trans hF_233
                      refine pl_loopm (σ := Nat) A (dC, dI) cs ty gm L (tgS ρ 0 ++ [ρ + 10, ρ + 11, ρ + 12, ρ + 13, ρ + 14, ρ + 15, ρ + 16, ρ + 17, ρ + 18, ρ + 19, ρ + 20, ρ + 21, ρ + 22, ρ + 23, ρ + 24, ρ + 25, ρ + 26, ρ + 28, ρ + 29, ρ + 30]) F 233 6 (fun j => [(5, .int (nI j)), (4, .int s4), (0, .ref h0), (1, .int x1)]) (fun j => []) (fun j _ => j ≤ nf) (fun j => nf - j) ?_ 0 F_230 (by omega) hO hR _ _ hP hD hS ls (lv_sub hl [0, 1, 2, 3] rfl)
                      rintro j F_236 hv_240 hO hR ih_241 H locs hP hD hS ls hl
                      have hl : lv_has ls 6 [(5, .int (nI j)), (4, .int s4), (0, .ref h0), (1, .int x1)] := hl
                      have hv_240 : j ≤ nf := hv_240
                      refine W.eq (g2 := F0 m 233 ls []) rfl ?_
                      have hF_242 : F_236 va = .inl (cs 23, 40, .inr (.inr (.inr (.inr f_137)))) := (hR va (by rw [ht_136]; simp only [mem_tgS, List.mem_append, List.mem_cons, List.not_mem_nil, or_false]; omega)).trans hF_237
                      have hF_243 : F_236 b_140 = .inr (14, [.ref r_141, .int (nI z_148)]) := (hR b_140 (by rw [ht_144]; simp only [mem_tgS, List.mem_append, List.mem_cons, List.not_mem_nil, or_false]; omega)).trans hF_238
                      have hF_244 : F_236 b_151 = .inr (14, [.ref r_152, .int (nI z_159)]) := (hR b_151 (by rw [ht_155]; simp only [mem_tgS, List.mem_append, List.mem_cons, List.not_mem_nil, or_false]; omega)).trans hF_239
                      refine lv_iload hx hb dX15_wish_233 (lv_at hl 0 rfl) ?_
                      refine lv_aload_n hx hb dX15_wish_235 rfl (lv_at hl 2 rfl) ?_
                      obtain ⟨zo_245, v14_246, v15_247, v17_248, v18_249, v19_250, v20_251, v21_252, v22_253, v33_254, v52_255, v53_256, v54_257, hF_258, hq_259, hq_260, hq_261, hq_262⟩ := hO.mod hL_h0 hT_h0
                      refine pg_get (ci := 15) (v := .int (nI nf)) (C := RX15) (T := TX15) (N := 59) hx hb hts it_15 hown hK hP hL_h0 hF_258 rfl 30 (by decide) (hts _ kt_892) (fun _ h9 => h9) rfl dX15_wish_236 ?_
                      refine lv_icmp_ge (tgt := 304) hx hb dX15_wish_239 (by decide) (fun c_263 => ?_) (fun c_263 => ?_)
                      ·
                        have hi_264 : nf ≤ j := leN (N := nf) c_263
                        refine lv_iload hx hb dX15_wish_304 (lv_at hl 1 rfl) ?_
                        refine W.widen (k := 0) (n := 0) (by omega) (by omega) ?_
                        exact W.iret (v := s4) hx hb hr (fun t ht hWm => ⟨⟨s4, (), rfl, trivial, ⟨F_236, QTm.mk ht hP hD hO hR⟩⟩, hS.F ht⟩) hS.2.2 dX15_wish_306
                      ·
                        have hi_265 : j < nf := ltN (N := nf) c_263
                        refine lv_aload_n hx hb dX15_wish_242 rfl (lv_at hl 2 rfl) ?_
                        refine lv_iload hx hb dX15_wish_243 (lv_at hl 0 rfl) ?_
                        obtain ⟨q_266, v_267, hr_q_266, hX_q_266⟩ := hG.2.2 ("PostGateModel", 376, "dkim-signature", [100, 107, 105, 109, 45, 115, 105, 103, 110, 97, 116, 117, 114, 101]) (by decide +kernel)
                        have hX_q_266 : SXc q_266 v_267 14 (cct [100, 107, 105, 109, 45, 115, 105, 103, 110, 97, 116, 117, 114, 101]) A s s.heap := hX_q_266
                        obtain ⟨xo_q_266, xc_q_266, xv_q_266, xt_q_266, xn_q_266⟩ := id hX_q_266
                        have hr_q_266 : vk_R "PostGateModel" 376 "dkim-signature" q_266 s := hr_q_266
                        refine va_ldcwS hx hb hown hr_q_266 dX15_wish_245 ?_
                        have hFc := pg_free hD hS hA
                        refine va_calli (va_runV (As := [.int (nI j), .ref q_266]) (rest := []) ⟨hx, hb, hml, hown, hts⟩ (s_X15_isNamed l dC dI cs ty gm L H.size F_236 h0 ρ ta ou so ad na va lc dm tg pe ml bg co sp nb0 nb1 nb2 pl se ke wi hs mo po nu pr sq xa sa n64 m64 ex wh sd tk hd ak ho ot sx s0 s1 s2 nf bd mm fm sn ze zt j q_266 v_267 14 (cct [100, 107, 105, 109, 45, 115, 105, 103, 110, 97, 116, 117, 114, 101]) hW hL_h0 hT_h0 (by first | omega | assumption)) ⟨callB_of 2 hts (gi kt_893) rfl rfl rfl (hts _ kt_669) (hts _ kt_894) (by decide +kernel) ⟨Nat.le_of_ble_eq_true rfl, Nat.le_of_ble_eq_true rfl⟩, (hts _ kt_895), (hts _ kt_896)⟩ ⟨fun a U g mk q => ⟨q.1, PTEm.calling q.2⟩, pg_recv hK hP hL_h0 hF_258 (q := (RX15, TX15, 59)) rfl, fun U hU hWm => ⟨rfl, PTEm.mk hU hWm hP hK hD hE hO hG (fun x hx => by rw [List.mem_singleton] at hx; subst hx; exact hX_q_266) hS hFc⟩⟩ rfl rfl hl.1 rfl (lv_room (Nat.le_of_ble_eq_true rfl)) dX15_wish_248 ⟨by show _ + 0 ≤ 0; omega, by show _ + 0 ≤ 0; omega⟩) hS (fun q _ h => hFc q h) hFc (fun r_268 u t H1 locs ht hvm hw hB hz1 hk1 hS => ?_)
                        obtain ⟨F_269, hB1⟩ := hB
                        obtain rfl : F_236 = F_269 := (funext (fun a => hB1.2.2.2 a List.not_mem_nil)).symm
                        obtain ⟨hP, hD, hO, hR⟩ := QTm.back hB1 ht hFc hR (fun q h => absurd h List.not_mem_nil)
                        generalize H1 = H at hP hS ⊢
                        have hw : (r_268 = 0 ∨ r_268 = 1) := hw
                        have hw_270 := hw
                        refine lv_if_eq (tgt := 298) hx hb dX15_wish_251 (by decide) (fun c_271 => ?_) (fun c_271 => ?_)
                        ·
                          refine lv_iinc (v := (nI (j + 1))) (lv' := [(5, .int (nI (j + 1))), (4, .int s4), (0, .ref h0), (1, .int x1)]) hx hb dX15_wish_298 hl (k := 0) rfl (nI_1 _) (by decide) rfl (fun ls hl => ?_)
                          refine lv_goto (tgt := 233) hx hb dX15_wish_301 (by decide) ?_
                          refine W.widen (k := 0) (n := 0) (by omega) (by omega) ?_
                          exact ih_241 (j + 1) F_236 (by first | omega | exact ⟨by omega, by omega⟩ | trivial) (by show nf - (j + 1) < nf - j; omega) hO hR _ _ hP hD hS ls (lv_sub hl [0, 1, 2, 3] rfl)
                        ·
                          refine lv_aload_n hx hb dX15_wish_254 rfl (lv_at hl 2 rfl) ?_
                          refine lv_iload hx hb dX15_wish_255 (lv_at hl 0 rfl) ?_
                          refine lv_iload_n hx hb dX15_wish_257 rfl (lv_at hl 3 rfl) ?_
                          have hFc := pg_free hD hS hA
                          refine va_calli (va_runV (As := [.int (nI j), .int x1]) (rest := []) ⟨hx, hb, hml, hown, hts⟩ (s_X15_sealOf l dC dI cs ty gm L H.size F_236 h0 ρ ta ou so ad na va lc dm tg pe ml bg co sp nb0 nb1 nb2 pl se ke wi hs mo po nu pr sq xa sa n64 m64 ex wh sd tk hd ak ho ot sx s0 s1 s2 nf bd mm fm sn ze zt sb rl j x1 hW hL_h0 hT_h0 hL_sx hT_sx hL_pl hT_pl (by first | omega | assumption)) ⟨callB_of 2 hts (gi kt_995) rfl rfl rfl (hts _ kt_669) (hts _ kt_996) (by decide +kernel) ⟨Nat.le_of_ble_eq_true rfl, Nat.le_of_ble_eq_true rfl⟩, (hts _ kt_997), (hts _ kt_998)⟩ ⟨fun a U g mk q => ⟨q.1, PTEm.calling q.2⟩, pg_recv hK hP hL_h0 hF_258 (q := (RX15, TX15, 59)) rfl, fun U hU hWm => ⟨rfl, PTEm.mk hU hWm hP hK hD hE hO hG (fun x hx => absurd hx List.not_mem_nil) hS hFc⟩⟩ rfl rfl hl.1 rfl (lv_room (Nat.le_of_ble_eq_true rfl)) dX15_wish_258 ⟨by show _ + 0 ≤ 0; omega, by show _ + 0 ≤ 0; omega⟩) hS (fun q _ h => hFc q h) hFc (fun r_272 u t H1 locs ht hvm hw hB hz1 hk1 hS => ?_)
                          obtain ⟨F_273, hB1⟩ := hB
                          obtain ⟨hP, hD, hO, hR⟩ := QTm.back hB1 ht hFc hR (fun q h => by simp only [mem_tgS, List.mem_append, List.mem_cons, List.not_mem_nil, or_false] at h ⊢; omega)
                          have hF_274 : F_273 va = .inl (cs 23, 40, .inr (.inr (.inr (.inr f_137)))) := (hB1.2.2.2 va (by rw [ht_136]; simp)).trans hF_242
                          have hF_275 : F_273 b_140 = .inr (14, [.ref r_141, .int (nI z_148)]) := (hB1.2.2.2 b_140 (by rw [ht_144]; simp only [mem_tgS, List.mem_append, List.mem_cons, List.not_mem_nil, or_false]; omega)).trans hF_243
                          have hF_276 : F_273 b_151 = .inr (14, [.ref r_152, .int (nI z_159)]) := (hB1.2.2.2 b_151 (by rw [ht_155]; simp only [mem_tgS, List.mem_append, List.mem_cons, List.not_mem_nil, or_false]; omega)).trans hF_244
                          generalize H1 = H at hP hS ⊢
                          have hw : True := hw
                          have hw_277 := hw
                          refine lv_iconst (v := 2) hx hb dX15_wish_261 (by decide) ?_
                          refine lv_icmp_eq (tgt := 268) hx hb dX15_wish_262 (by decide) (fun c_278 => ?_) (fun c_278 => ?_)
                          ·
                            refine lv_aload_n hx hb dX15_wish_268 rfl (lv_at hl 2 rfl) ?_
                            refine lv_aload_n hx hb dX15_wish_269 rfl (lv_at hl 2 rfl) ?_
                            obtain ⟨zo_279, v14_280, v15_281, v17_282, v18_283, v19_284, v20_285, v21_286, v22_287, v33_288, v52_289, v53_290, v54_291, hF_292, hq_293, hq_294, hq_295, hq_296⟩ := hO.mod hL_h0 hT_h0
                            refine pg_get (ci := 15) (v := .ref sd) (C := RX15) (T := TX15) (N := 59) hx hb hts it_15 hown hK hP hL_h0 hF_292 rfl 50 (by decide) (hts _ kt_971) (fun _ h9 => h9) rfl dX15_wish_270 ?_
                            refine lv_aload_n hx hb dX15_wish_273 rfl (lv_at hl 2 rfl) ?_
                            refine pg_get (ci := 15) (v := .ref ak) (C := RX15) (T := TX15) (N := 59) hx hb hts it_15 hown hK hP hL_h0 hF_292 rfl 56 (by decide) (hts _ kt_999) (fun _ h9 => h9) rfl dX15_wish_274 ?_
                            refine lv_aload_n hx hb dX15_wish_277 rfl (lv_at hl 2 rfl) ?_
                            refine pg_get (ci := 15) (v := .ref wi) (C := RX15) (T := TX15) (N := 59) hx hb hts it_15 hown hK hP hL_h0 hF_292 rfl 37 (by decide) (hts _ kt_1138) (fun _ h9 => h9) rfl dX15_wish_278 ?_
                            obtain ⟨q_297, v_298, hr_q_297, hX_q_297⟩ := hG.2.2 ("PostGateModel", 601, "adkim", [97, 100, 107, 105, 109]) (by decide +kernel)
                            have hX_q_297 : SXc q_297 v_298 5 (cct [97, 100, 107, 105, 109]) A s s.heap := hX_q_297
                            obtain ⟨xo_q_297, xc_q_297, xv_q_297, xt_q_297, xn_q_297⟩ := id hX_q_297
                            have hr_q_297 : vk_R "PostGateModel" 601 "adkim" q_297 s := hr_q_297
                            refine va_ldcwS hx hb hown hr_q_297 dX15_wish_281 ?_
                            obtain ⟨q_299, v_300, hr_q_299, hX_q_299⟩ := hG.2.2 ("PostGateModel", 460, "s", [115]) (by decide +kernel)
                            have hX_q_299 : SXc q_299 v_300 1 (cct [115]) A s s.heap := hX_q_299
                            obtain ⟨xo_q_299, xc_q_299, xv_q_299, xt_q_299, xn_q_299⟩ := id hX_q_299
                            have hr_q_299 : vk_R "PostGateModel" 460 "s" q_299 s := hr_q_299
                            refine va_ldcwS hx hb hown hr_q_299 dX15_wish_284 ?_
                            obtain ⟨z_301, hF_302, hq_303⟩ := hO.tags hi_53 ht_54
                            have hFc := pg_free hD hS hA
                            refine va_calli (va_runV (As := [.ref q_297, .ref q_299]) (rest := [.ref ak, .ref sd, .ref h0]) ⟨hx, hb, hml, hown, hts⟩ (s_X13_has l dC dI cs ty gm L H.size F_273 wi (ρ + 15) x_7 700 700 y0_8 y1_9 y2_10 r_59 z_301 q_297 v_298 5 (cct [97, 100, 107, 105, 109]) q_299 v_300 1 (cct [115]) hW hi_53 ht_54 hi_55 ht_60 hF_302 (by first | omega | assumption)) ⟨callB_of 2 hts (gi kt_863) rfl rfl rfl (hts _ kt_829) (hts _ kt_864) (by decide +kernel) ⟨Nat.le_of_ble_eq_true rfl, Nat.le_of_ble_eq_true rfl⟩, (hts _ kt_865), (hts _ kt_866)⟩ ⟨fun a U g mk q => ⟨q.1, PTEm.calling q.2⟩, pg_recv hK hP hi_53 hF_302 (q := (RX13, TX13, 5)) rfl, fun U hU hWm => ⟨rfl, PTEm.mk hU hWm hP hK hD hE hO hG (fun x hx => by simp only [mem_tgS, List.mem_append, List.mem_cons, List.not_mem_nil, or_false] at hx; rcases hx with hx | hx <;> subst hx <;> first | exact hX_q_297 | exact hX_q_299) hS hFc⟩⟩ rfl rfl hl.1 rfl (lv_room (Nat.le_of_ble_eq_true rfl)) dX15_wish_287 ⟨by show _ + 0 ≤ 0; omega, by show _ + 0 ≤ 0; omega⟩) hS (fun q _ h => hFc q h) hFc (fun r_304 u t H1 locs ht hvm hw hB hz1 hk1 hS => ?_)
                            obtain ⟨F_305, hB1⟩ := hB
                            obtain rfl : F_273 = F_305 := (funext (fun a => hB1.2.2.2 a List.not_mem_nil)).symm
                            obtain ⟨hP, hD, hO, hR⟩ := QTm.back hB1 ht hFc hR (fun q h => absurd h List.not_mem_nil)
                            generalize H1 = H at hP hS ⊢
                            have hw : (r_304 = 0 ∨ r_304 = 1) := hw
                            have hw_306 := hw
                            have hFc := pg_free hD hS hA
                            refine va_calli (va_runV (As := [.ref sd, .ref ak, .int r_304]) (rest := []) ⟨hx, hb, hml, hown, hts⟩ (s_X15_isAligned l dC dI cs ty gm L H.size F_273 h0 ρ ta ou so ad na va lc dm tg pe ml bg co sp nb0 nb1 nb2 pl se ke wi hs mo po nu pr sq xa sa n64 m64 ex wh sd tk hd ak ho ot sx s0 s1 s2 nf bd mm fm sn ze zt sd (ρ + 25) r_17 3000 ak (ρ + 28) rak 6000 r_304 hW hL_h0 hT_h0 hi_71 ht_72 hL_ak hT_ak (by first | omega | assumption) (by first | omega | assumption)) ⟨callB_of 3 hts (gi kt_1203) rfl rfl rfl (hts _ kt_669) (hts _ kt_1204) (by decide +kernel) ⟨Nat.le_of_ble_eq_true rfl, Nat.le_of_ble_eq_true rfl⟩, (hts _ kt_1205), (hts _ kt_1206)⟩ ⟨fun a U g mk q => ⟨q.1, PTm.calling q.2⟩, pg_recv hK hP hL_h0 hF_292 (q := (RX15, TX15, 59)) rfl, fun U hU hWm => ⟨rfl, PTm.mk hU hWm hP hK hD hE hO⟩⟩ rfl rfl hl.1 rfl (lv_room (Nat.le_of_ble_eq_true rfl)) dX15_wish_290 ⟨by show _ + 0 ≤ 0; omega, by show _ + 0 ≤ 0; omega⟩) hS (fun q _ h => hFc q h) hFc (fun r_307 u t H1 locs ht hvm hw hB hz1 hk1 hS => ?_)
                            obtain ⟨F_308, hB1⟩ := hB
                            obtain ⟨hP, hD, hO, hR⟩ := QTm.back hB1 ht hFc hR (fun q h => by simp only [mem_tgS, List.mem_append, List.mem_cons, List.not_mem_nil, or_false] at h ⊢; omega)
                            have hF_309 : F_308 va = .inl (cs 23, 40, .inr (.inr (.inr (.inr f_137)))) := (hB1.2.2.2 va (by rw [ht_136]; simp)).trans hF_274
                            have hF_310 : F_308 b_140 = .inr (14, [.ref r_141, .int (nI z_148)]) := (hB1.2.2.2 b_140 (by rw [ht_144]; simp only [mem_tgS, List.mem_append, List.mem_cons, List.not_mem_nil, or_false]; omega)).trans hF_275
                            have hF_311 : F_308 b_151 = .inr (14, [.ref r_152, .int (nI z_159)]) := (hB1.2.2.2 b_151 (by rw [ht_155]; simp only [mem_tgS, List.mem_append, List.mem_cons, List.not_mem_nil, or_false]; omega)).trans hF_276
                            have hF_312 : F_308 h0 = .inr (15, (.ref ta) :: (.int (nI zt)) :: (.int (nI zo_279)) :: (.int (nI ze)) :: (.ref ou) :: (.ref so) :: (.ref ad) :: (.ref na) :: (.ref va) :: (.ref lc) :: (.ref dm) :: (.int (nI fm)) :: (.int (nI sn)) :: (.ref tg) :: (.int v14_280) :: (.int v15_281) :: (.ref pe) :: (.int v17_282) :: (.int v18_283) :: (.int v19_284) :: (.int v20_285) :: (.int v21_286) :: (.int v22_287) :: (.ref ml) :: (.ref bg) :: (.ref co) :: (.ref sp) :: (.ref nb0) :: (.ref nb1) :: (.ref nb2) :: (.int (nI nf)) :: (.int (nI bd)) :: (.int (nI mm)) :: (.int v33_288) :: (.ref pl) :: (.ref se) :: (.ref ke) :: (.ref wi) :: (.ref hs) :: (.ref mo) :: (.ref po) :: (.ref nu) :: (.ref pr) :: (.ref sq) :: (.ref xa) :: (.ref sa) :: (.ref n64) :: (.ref m64) :: (.ref ex) :: (.ref wh) :: (.ref sd) :: (.ref tk) :: (.int v52_289) :: (.int v53_290) :: (.int v54_291) :: (.ref hd) :: (.ref ak) :: (.ref ho) :: (.ref ot) :: []) := (hB1.2.2.2 h0 (by rw [hT_h0]; simp)).trans hF_292
                            have hF_313 : F_308 wi = .inr (13, [.ref x_7, .ref y0_8, .ref y1_9, .ref y2_10, .int (nI z_301)]) := (hB1.2.2.2 wi (by rw [ht_54]; simp)).trans hF_302
                            generalize H1 = H at hP hS ⊢
                            have hw : (r_307 = 0 ∨ r_307 = 1) := hw
                            have hw_314 := hw
                            refine lv_if_eq (tgt := 298) hx hb dX15_wish_293 (by decide) (fun c_315 => ?_) (fun c_315 => ?_)
                            ·
                              refine lv_iinc (v := (nI (j + 1))) (lv' := [(5, .int (nI (j + 1))), (4, .int s4), (0, .ref h0), (1, .int x1)]) hx hb dX15_wish_298 hl (k := 0) rfl (nI_1 _) (by decide) rfl (fun ls hl => ?_)
                              refine lv_goto (tgt := 233) hx hb dX15_wish_301 (by decide) ?_
                              refine W.widen (k := 0) (n := 0) (by omega) (by omega) ?_
                              exact ih_241 (j + 1) F_308 (by first | omega | exact ⟨by omega, by omega⟩ | trivial) (by show nf - (j + 1) < nf - j; omega) hO hR _ _ hP hD hS ls (lv_sub hl [0, 1, 2, 3] rfl)
                            ·
                              refine lv_iconst (v := 2) hx hb dX15_wish_296 (by decide) ?_
                              refine W.widen (k := 0) (n := 0) (by omega) (by omega) ?_
                              exact W.iret (v := 2) hx hb hr (fun t ht hWm => ⟨⟨2, (), rfl, trivial, ⟨F_308, QTm.mk ht hP hD hO hR⟩⟩, hS.F ht⟩) hS.2.2 dX15_wish_297
                          ·
                            refine lv_goto (tgt := 298) hx hb dX15_wish_265 (by decide) ?_
                            refine lv_iinc (v := (nI (j + 1))) (lv' := [(5, .int (nI (j + 1))), (4, .int s4), (0, .ref h0), (1, .int x1)]) hx hb dX15_wish_298 hl (k := 0) rfl (nI_1 _) (by decide) rfl (fun ls hl => ?_)
                            refine lv_goto (tgt := 233) hx hb dX15_wish_301 (by decide) ?_
                            refine W.widen (k := 0) (n := 0) (by omega) (by omega) ?_
                            exact ih_241 (j + 1) F_273 (by first | omega | exact ⟨by omega, by omega⟩ | trivial) (by show nf - (j + 1) < nf - j; omega) hO hR _ _ hP hD hS ls (lv_sub hl [0, 1, 2, 3] rfl)
                    ·
                      refine lv_aload_n hx hb dX15_wish_200 rfl (lv_at hl 1 rfl) ?_
                      refine lv_aload_n hx hb dX15_wish_201 rfl (lv_at hl 1 rfl) ?_
                      obtain ⟨zo_316, v14_317, v15_318, v17_319, v18_320, v19_321, v20_322, v21_323, v22_324, v33_325, v52_326, v53_327, v54_328, hF_329, hq_330, hq_331, hq_332, hq_333⟩ := hO.mod hL_h0 hT_h0
                      refine pg_get (ci := 15) (v := .ref dm) (C := RX15) (T := TX15) (N := 59) hx hb hts it_15 hown hK hP hL_h0 hF_329 rfl 10 (by decide) (hts _ kt_1130) (fun _ h9 => h9) rfl dX15_wish_202 ?_
                      refine lv_aload_n hx hb dX15_wish_205 rfl (lv_at hl 1 rfl) ?_
                      refine pg_get (ci := 15) (v := .ref ak) (C := RX15) (T := TX15) (N := 59) hx hb hts it_15 hown hK hP hL_h0 hF_329 rfl 56 (by decide) (hts _ kt_999) (fun _ h9 => h9) rfl dX15_wish_206 ?_
                      refine lv_aload_n hx hb dX15_wish_209 rfl (lv_at hl 1 rfl) ?_
                      refine pg_get (ci := 15) (v := .ref wi) (C := RX15) (T := TX15) (N := 59) hx hb hts it_15 hown hK hP hL_h0 hF_329 rfl 37 (by decide) (hts _ kt_1138) (fun _ h9 => h9) rfl dX15_wish_210 ?_
                      obtain ⟨q_334, v_335, hr_q_334, hX_q_334⟩ := hG.2.2 ("PostGateModel", 595, "aspf", [97, 115, 112, 102]) (by decide +kernel)
                      have hX_q_334 : SXc q_334 v_335 4 (cct [97, 115, 112, 102]) A s s.heap := hX_q_334
                      obtain ⟨xo_q_334, xc_q_334, xv_q_334, xt_q_334, xn_q_334⟩ := id hX_q_334
                      have hr_q_334 : vk_R "PostGateModel" 595 "aspf" q_334 s := hr_q_334
                      refine va_ldcwS hx hb hown hr_q_334 dX15_wish_213 ?_
                      obtain ⟨q_336, v_337, hr_q_336, hX_q_336⟩ := hG.2.2 ("PostGateModel", 460, "s", [115]) (by decide +kernel)
                      have hX_q_336 : SXc q_336 v_337 1 (cct [115]) A s s.heap := hX_q_336
                      obtain ⟨xo_q_336, xc_q_336, xv_q_336, xt_q_336, xn_q_336⟩ := id hX_q_336
                      have hr_q_336 : vk_R "PostGateModel" 460 "s" q_336 s := hr_q_336
                      refine va_ldcwS hx hb hown hr_q_336 dX15_wish_216 ?_
                      obtain ⟨z_338, hF_339, hq_340⟩ := hO.tags hi_53 ht_54
                      have hFc := pg_free hD hS hA
                      refine va_calli (va_runV (As := [.ref q_334, .ref q_336]) (rest := [.ref ak, .ref dm, .ref h0]) ⟨hx, hb, hml, hown, hts⟩ (s_X13_has l dC dI cs ty gm L H.size F_230 wi (ρ + 15) x_7 700 700 y0_8 y1_9 y2_10 r_59 z_338 q_334 v_335 4 (cct [97, 115, 112, 102]) q_336 v_337 1 (cct [115]) hW hi_53 ht_54 hi_55 ht_60 hF_339 (by first | omega | assumption)) ⟨callB_of 2 hts (gi kt_863) rfl rfl rfl (hts _ kt_829) (hts _ kt_864) (by decide +kernel) ⟨Nat.le_of_ble_eq_true rfl, Nat.le_of_ble_eq_true rfl⟩, (hts _ kt_865), (hts _ kt_866)⟩ ⟨fun a U g mk q => ⟨q.1, PTEm.calling q.2⟩, pg_recv hK hP hi_53 hF_339 (q := (RX13, TX13, 5)) rfl, fun U hU hWm => ⟨rfl, PTEm.mk hU hWm hP hK hD hE hO hG (fun x hx => by simp only [mem_tgS, List.mem_append, List.mem_cons, List.not_mem_nil, or_false] at hx; rcases hx with hx | hx <;> subst hx <;> first | exact hX_q_334 | exact hX_q_336) hS hFc⟩⟩ rfl rfl hl.1 rfl (lv_room (Nat.le_of_ble_eq_true rfl)) dX15_wish_219 ⟨by show _ + 0 ≤ 0; omega, by show _ + 0 ≤ 0; omega⟩) hS (fun q _ h => hFc q h) hFc (fun r_341 u t H1 locs ht hvm hw hB hz1 hk1 hS => ?_)
                      obtain ⟨F_342, hB1⟩ := hB
                      obtain rfl : F_230 = F_342 := (funext (fun a => hB1.2.2.2 a List.not_mem_nil)).symm
                      obtain ⟨hP, hD, hO, hR⟩ := QTm.back hB1 ht hFc hR (fun q h => absurd h List.not_mem_nil)
                      generalize H1 = H at hP hS ⊢
                      have hw : (r_341 = 0 ∨ r_341 = 1) := hw
                      have hw_343 := hw
                      have hFc := pg_free hD hS hA
                      refine va_calli (va_runV (As := [.ref dm, .ref ak, .int r_341]) (rest := []) ⟨hx, hb, hml, hown, hts⟩ (s_X15_isAligned l dC dI cs ty gm L H.size F_230 h0 ρ ta ou so ad na va lc dm tg pe ml bg co sp nb0 nb1 nb2 pl se ke wi hs mo po nu pr sq xa sa n64 m64 ex wh sd tk hd ak ho ot sx s0 s1 s2 nf bd mm fm sn ze zt dm (ρ + 32) r_2 60 ak (ρ + 28) rak 6000 r_341 hW hL_h0 hT_h0 hi_66 ht_67 hL_ak hT_ak (by first | omega | assumption) (by first | omega | assumption)) ⟨callB_of 3 hts (gi kt_1203) rfl rfl rfl (hts _ kt_669) (hts _ kt_1204) (by decide +kernel) ⟨Nat.le_of_ble_eq_true rfl, Nat.le_of_ble_eq_true rfl⟩, (hts _ kt_1205), (hts _ kt_1206)⟩ ⟨fun a U g mk q => ⟨q.1, PTm.calling q.2⟩, pg_recv hK hP hL_h0 hF_329 (q := (RX15, TX15, 59)) rfl, fun U hU hWm => ⟨rfl, PTm.mk hU hWm hP hK hD hE hO⟩⟩ rfl rfl hl.1 rfl (lv_room (Nat.le_of_ble_eq_true rfl)) dX15_wish_222 ⟨by show _ + 0 ≤ 0; omega, by show _ + 0 ≤ 0; omega⟩) hS (fun q _ h => hFc q h) hFc (fun r_344 u t H1 locs ht hvm hw hB hz1 hk1 hS => ?_)
                      obtain ⟨F_345, hB1⟩ := hB
                      obtain ⟨hP, hD, hO, hR⟩ := QTm.back hB1 ht hFc hR (fun q h => by simp only [mem_tgS, List.mem_append, List.mem_cons, List.not_mem_nil, or_false] at h ⊢; omega)
                      have hF_346 : F_345 va = .inl (cs 23, 40, .inr (.inr (.inr (.inr f_137)))) := (hB1.2.2.2 va (by rw [ht_136]; simp)).trans hF_231
                      have hF_347 : F_345 b_140 = .inr (14, [.ref r_141, .int (nI z_148)]) := (hB1.2.2.2 b_140 (by rw [ht_144]; simp only [mem_tgS, List.mem_append, List.mem_cons, List.not_mem_nil, or_false]; omega)).trans hF_232
                      have hF_348 : F_345 b_151 = .inr (14, [.ref r_152, .int (nI z_159)]) := (hB1.2.2.2 b_151 (by rw [ht_155]; simp only [mem_tgS, List.mem_append, List.mem_cons, List.not_mem_nil, or_false]; omega)).trans hF_233
                      have hF_349 : F_345 h0 = .inr (15, (.ref ta) :: (.int (nI zt)) :: (.int (nI zo_316)) :: (.int (nI ze)) :: (.ref ou) :: (.ref so) :: (.ref ad) :: (.ref na) :: (.ref va) :: (.ref lc) :: (.ref dm) :: (.int (nI fm)) :: (.int (nI sn)) :: (.ref tg) :: (.int v14_317) :: (.int v15_318) :: (.ref pe) :: (.int v17_319) :: (.int v18_320) :: (.int v19_321) :: (.int v20_322) :: (.int v21_323) :: (.int v22_324) :: (.ref ml) :: (.ref bg) :: (.ref co) :: (.ref sp) :: (.ref nb0) :: (.ref nb1) :: (.ref nb2) :: (.int (nI nf)) :: (.int (nI bd)) :: (.int (nI mm)) :: (.int v33_325) :: (.ref pl) :: (.ref se) :: (.ref ke) :: (.ref wi) :: (.ref hs) :: (.ref mo) :: (.ref po) :: (.ref nu) :: (.ref pr) :: (.ref sq) :: (.ref xa) :: (.ref sa) :: (.ref n64) :: (.ref m64) :: (.ref ex) :: (.ref wh) :: (.ref sd) :: (.ref tk) :: (.int v52_326) :: (.int v53_327) :: (.int v54_328) :: (.ref hd) :: (.ref ak) :: (.ref ho) :: (.ref ot) :: []) := (hB1.2.2.2 h0 (by rw [hT_h0]; simp)).trans hF_329
                      have hF_350 : F_345 wi = .inr (13, [.ref x_7, .ref y0_8, .ref y1_9, .ref y2_10, .int (nI z_338)]) := (hB1.2.2.2 wi (by rw [ht_54]; simp)).trans hF_339
                      generalize H1 = H at hP hS ⊢
                      have hw : (r_344 = 0 ∨ r_344 = 1) := hw
                      have hw_351 := hw
                      refine lv_if_eq (tgt := 230) hx hb dX15_wish_225 (by decide) (fun c_352 => ?_) (fun c_352 => ?_)
                      ·
                        refine lv_iconst (v := 0) hx hb dX15_wish_230 (by decide) ?_
                        refine lv_istore (lv' := [(5, .int 0), (4, .int s4), (0, .ref h0), (1, .int x1)]) hx hb dX15_wish_231 hl (by decide) rfl (fun ls hl => ?_)
                        refine W.widen (k := 0) (n := 0) (by omega) (by omega) ?_
                        have hF_354 : F va = .inl (cs 23, 40, .inr (.inr (.inr (.inr f_137)))) := (hR va (by rw [ht_136]; simp only [mem_tgS, List.mem_append, List.mem_cons, List.not_mem_nil, or_false]; omega)).symm.trans hF_346
                        have hF_355 : F b_140 = .inr (14, [.ref r_141, .int (nI z_148)]) := (hR b_140 (by rw [ht_144]; simp only [mem_tgS, List.mem_append, List.mem_cons, List.not_mem_nil, or_false]; omega)).symm.trans hF_347
                        have hF_356 : F b_151 = .inr (14, [.ref r_152, .int (nI z_159)]) := (hR b_151 (by rw [ht_155]; simp only [mem_tgS, List.mem_append, List.mem_cons, List.not_mem_nil, or_false]; omega)).symm.trans hF_348
                        refine pl_loopm (σ := Nat) A (dC, dI) cs ty gm L (tgS ρ 0 ++ [ρ + 10, ρ + 11, ρ + 12, ρ + 13, ρ + 14, ρ + 15, ρ + 16, ρ + 17, ρ + 18, ρ + 19, ρ + 20, ρ + 21, ρ + 22, ρ + 23, ρ + 24, ρ + 25, ρ + 26, ρ + 28, ρ + 29, ρ + 30]) F 233 6 (fun j => [(5, .int (nI j)), (4, .int s4), (0, .ref h0), (1, .int x1)]) (fun j => []) (fun j _ => j ≤ nf) (fun j => nf - j) ?_ 0 F_345 (by omega) hO hR _ _ hP hD hS ls (lv_sub hl [0, 1, 2, 3] rfl)
                        rintro j F_353 hv_357 hO hR ih_358 H locs hP hD hS ls hl
                        have hl : lv_has ls 6 [(5, .int (nI j)), (4, .int s4), (0, .ref h0), (1, .int x1)] := hl
                        have hv_357 : j ≤ nf := hv_357
                        refine W.eq (g2 := F0 m 233 ls []) rfl ?_
                        have hF_359 : F_353 va = .inl (cs 23, 40, .inr (.inr (.inr (.inr f_137)))) := (hR va (by rw [ht_136]; simp only [mem_tgS, List.mem_append, List.mem_cons, List.not_mem_nil, or_false]; omega)).trans hF_354
                        have hF_360 : F_353 b_140 = .inr (14, [.ref r_141, .int (nI z_148)]) := (hR b_140 (by rw [ht_144]; simp only [mem_tgS, List.mem_append, List.mem_cons, List.not_mem_nil, or_false]; omega)).trans hF_355
                        have hF_361 : F_353 b_151 = .inr (14, [.ref r_152, .int (nI z_159)]) := (hR b_151 (by rw [ht_155]; simp only [mem_tgS, List.mem_append, List.mem_cons, List.not_mem_nil, or_false]; omega)).trans hF_356
                        refine lv_iload hx hb dX15_wish_233 (lv_at hl 0 rfl) ?_
                        refine lv_aload_n hx hb dX15_wish_235 rfl (lv_at hl 2 rfl) ?_
                        obtain ⟨zo_362, v14_363, v15_364, v17_365, v18_366, v19_367, v20_368, v21_369, v22_370, v33_371, v52_372, v53_373, v54_374, hF_375, hq_376, hq_377, hq_378, hq_379⟩ := hO.mod hL_h0 hT_h0
                        refine pg_get (ci := 15) (v := .int (nI nf)) (C := RX15) (T := TX15) (N := 59) hx hb hts it_15 hown hK hP hL_h0 hF_375 rfl 30 (by decide) (hts _ kt_892) (fun _ h9 => h9) rfl dX15_wish_236 ?_
                        refine lv_icmp_ge (tgt := 304) hx hb dX15_wish_239 (by decide) (fun c_380 => ?_) (fun c_380 => ?_)
                        ·
                          have hi_381 : nf ≤ j := leN (N := nf) c_380
                          refine lv_iload hx hb dX15_wish_304 (lv_at hl 1 rfl) ?_
                          refine W.widen (k := 0) (n := 0) (by omega) (by omega) ?_
                          exact W.iret (v := s4) hx hb hr (fun t ht hWm => ⟨⟨s4, (), rfl, trivial, ⟨F_353, QTm.mk ht hP hD hO hR⟩⟩, hS.F ht⟩) hS.2.2 dX15_wish_306
                        ·
                          have hi_382 : j < nf := ltN (N := nf) c_380
                          refine lv_aload_n hx hb dX15_wish_242 rfl (lv_at hl 2 rfl) ?_
                          refine lv_iload hx hb dX15_wish_243 (lv_at hl 0 rfl) ?_
                          obtain ⟨q_383, v_384, hr_q_383, hX_q_383⟩ := hG.2.2 ("PostGateModel", 376, "dkim-signature", [100, 107, 105, 109, 45, 115, 105, 103, 110, 97, 116, 117, 114, 101]) (by decide +kernel)
                          have hX_q_383 : SXc q_383 v_384 14 (cct [100, 107, 105, 109, 45, 115, 105, 103, 110, 97, 116, 117, 114, 101]) A s s.heap := hX_q_383
                          obtain ⟨xo_q_383, xc_q_383, xv_q_383, xt_q_383, xn_q_383⟩ := id hX_q_383
                          have hr_q_383 : vk_R "PostGateModel" 376 "dkim-signature" q_383 s := hr_q_383
                          refine va_ldcwS hx hb hown hr_q_383 dX15_wish_245 ?_
                          have hFc := pg_free hD hS hA
                          refine va_calli (va_runV (As := [.int (nI j), .ref q_383]) (rest := []) ⟨hx, hb, hml, hown, hts⟩ (s_X15_isNamed l dC dI cs ty gm L H.size F_353 h0 ρ ta ou so ad na va lc dm tg pe ml bg co sp nb0 nb1 nb2 pl se ke wi hs mo po nu pr sq xa sa n64 m64 ex wh sd tk hd ak ho ot sx s0 s1 s2 nf bd mm fm sn ze zt j q_383 v_384 14 (cct [100, 107, 105, 109, 45, 115, 105, 103, 110, 97, 116, 117, 114, 101]) hW hL_h0 hT_h0 (by first | omega | assumption)) ⟨callB_of 2 hts (gi kt_893) rfl rfl rfl (hts _ kt_669) (hts _ kt_894) (by decide +kernel) ⟨Nat.le_of_ble_eq_true rfl, Nat.le_of_ble_eq_true rfl⟩, (hts _ kt_895), (hts _ kt_896)⟩ ⟨fun a U g mk q => ⟨q.1, PTEm.calling q.2⟩, pg_recv hK hP hL_h0 hF_375 (q := (RX15, TX15, 59)) rfl, fun U hU hWm => ⟨rfl, PTEm.mk hU hWm hP hK hD hE hO hG (fun x hx => by rw [List.mem_singleton] at hx; subst hx; exact hX_q_383) hS hFc⟩⟩ rfl rfl hl.1 rfl (lv_room (Nat.le_of_ble_eq_true rfl)) dX15_wish_248 ⟨by show _ + 0 ≤ 0; omega, by show _ + 0 ≤ 0; omega⟩) hS (fun q _ h => hFc q h) hFc (fun r_385 u t H1 locs ht hvm hw hB hz1 hk1 hS => ?_)
                          obtain ⟨F_386, hB1⟩ := hB
                          obtain rfl : F_353 = F_386 := (funext (fun a => hB1.2.2.2 a List.not_mem_nil)).symm
                          obtain ⟨hP, hD, hO, hR⟩ := QTm.back hB1 ht hFc hR (fun q h => absurd h List.not_mem_nil)
                          generalize H1 = H at hP hS ⊢
                          have hw : (r_385 = 0 ∨ r_385 = 1) := hw
                          have hw_387 := hw
                          refine lv_if_eq (tgt := 298) hx hb dX15_wish_251 (by decide) (fun c_388 => ?_) (fun c_388 => ?_)
                          ·
                            refine lv_iinc (v := (nI (j + 1))) (lv' := [(5, .int (nI (j + 1))), (4, .int s4), (0, .ref h0), (1, .int x1)]) hx hb dX15_wish_298 hl (k := 0) rfl (nI_1 _) (by decide) rfl (fun ls hl => ?_)
                            refine lv_goto (tgt := 233) hx hb dX15_wish_301 (by decide) ?_
                            refine W.widen (k := 0) (n := 0) (by omega) (by omega) ?_
                            exact ih_358 (j + 1) F_353 (by first | omega | exact ⟨by omega, by omega⟩ | trivial) (by show nf - (j + 1) < nf - j; omega) hO hR _ _ hP hD hS ls (lv_sub hl [0, 1, 2, 3] rfl)
                          ·
                            refine lv_aload_n hx hb dX15_wish_254 rfl (lv_at hl 2 rfl) ?_
                            refine lv_iload hx hb dX15_wish_255 (lv_at hl 0 rfl) ?_
                            refine lv_iload_n hx hb dX15_wish_257 rfl (lv_at hl 3 rfl) ?_
                            have hFc := pg_free hD hS hA
                            refine va_calli (va_runV (As := [.int (nI j), .int x1]) (rest := []) ⟨hx, hb, hml, hown, hts⟩ (s_X15_sealOf l dC dI cs ty gm L H.size F_353 h0 ρ ta ou so ad na va lc dm tg pe ml bg co sp nb0 nb1 nb2 pl se ke wi hs mo po nu pr sq xa sa n64 m64 ex wh sd tk hd ak ho ot sx s0 s1 s2 nf bd mm fm sn ze zt sb rl j x1 hW hL_h0 hT_h0 hL_sx hT_sx hL_pl hT_pl (by first | omega | assumption)) ⟨callB_of 2 hts (gi kt_995) rfl rfl rfl (hts _ kt_669) (hts _ kt_996) (by decide +kernel) ⟨Nat.le_of_ble_eq_true rfl, Nat.le_of_ble_eq_true rfl⟩, (hts _ kt_997), (hts _ kt_998)⟩ ⟨fun a U g mk q => ⟨q.1, PTEm.calling q.2⟩, pg_recv hK hP hL_h0 hF_375 (q := (RX15, TX15, 59)) rfl, fun U hU hWm => ⟨rfl, PTEm.mk hU hWm hP hK hD hE hO hG (fun x hx => absurd hx List.not_mem_nil) hS hFc⟩⟩ rfl rfl hl.1 rfl (lv_room (Nat.le_of_ble_eq_true rfl)) dX15_wish_258 ⟨by show _ + 0 ≤ 0; omega, by show _ + 0 ≤ 0; omega⟩) hS (fun q _ h => hFc q h) hFc (fun r_389 u t H1 locs ht hvm hw hB hz1 hk1 hS => ?_)
                            obtain ⟨F_390, hB1⟩ := hB
                            obtain ⟨hP, hD, hO, hR⟩ := QTm.back hB1 ht hFc hR (fun q h => by simp only [mem_tgS, List.mem_append, List.mem_cons, List.not_mem_nil, or_false] at h ⊢; omega)
                            have hF_391 : F_390 va = .inl (cs 23, 40, .inr (.inr (.inr (.inr f_137)))) := (hB1.2.2.2 va (by rw [ht_136]; simp)).trans hF_359
                            have hF_392 : F_390 b_140 = .inr (14, [.ref r_141, .int (nI z_148)]) := (hB1.2.2.2 b_140 (by rw [ht_144]; simp only [mem_tgS, List.mem_append, List.mem_cons, List.not_mem_nil, or_false]; omega)).trans hF_360
                            have hF_393 : F_390 b_151 = .inr (14, [.ref r_152, .int (nI z_159)]) := (hB1.2.2.2 b_151 (by rw [ht_155]; simp only [mem_tgS, List.mem_append, List.mem_cons, List.not_mem_nil, or_false]; omega)).trans hF_361
                            generalize H1 = H at hP hS ⊢
                            have hw : True := hw
                            have hw_394 := hw
                            refine lv_iconst (v := 2) hx hb dX15_wish_261 (by decide) ?_
                            refine lv_icmp_eq (tgt := 268) hx hb dX15_wish_262 (by decide) (fun c_395 => ?_) (fun c_395 => ?_)
                            ·
                              refine lv_aload_n hx hb dX15_wish_268 rfl (lv_at hl 2 rfl) ?_
                              refine lv_aload_n hx hb dX15_wish_269 rfl (lv_at hl 2 rfl) ?_
                              obtain ⟨zo_396, v14_397, v15_398, v17_399, v18_400, v19_401, v20_402, v21_403, v22_404, v33_405, v52_406, v53_407, v54_408, hF_409, hq_410, hq_411, hq_412, hq_413⟩ := hO.mod hL_h0 hT_h0
                              refine pg_get (ci := 15) (v := .ref sd) (C := RX15) (T := TX15) (N := 59) hx hb hts it_15 hown hK hP hL_h0 hF_409 rfl 50 (by decide) (hts _ kt_971) (fun _ h9 => h9) rfl dX15_wish_270 ?_
                              refine lv_aload_n hx hb dX15_wish_273 rfl (lv_at hl 2 rfl) ?_
                              refine pg_get (ci := 15) (v := .ref ak) (C := RX15) (T := TX15) (N := 59) hx hb hts it_15 hown hK hP hL_h0 hF_409 rfl 56 (by decide) (hts _ kt_999) (fun _ h9 => h9) rfl dX15_wish_274 ?_
                              refine lv_aload_n hx hb dX15_wish_277 rfl (lv_at hl 2 rfl) ?_
                              refine pg_get (ci := 15) (v := .ref wi) (C := RX15) (T := TX15) (N := 59) hx hb hts it_15 hown hK hP hL_h0 hF_409 rfl 37 (by decide) (hts _ kt_1138) (fun _ h9 => h9) rfl dX15_wish_278 ?_
                              obtain ⟨q_414, v_415, hr_q_414, hX_q_414⟩ := hG.2.2 ("PostGateModel", 601, "adkim", [97, 100, 107, 105, 109]) (by decide +kernel)
                              have hX_q_414 : SXc q_414 v_415 5 (cct [97, 100, 107, 105, 109]) A s s.heap := hX_q_414
                              obtain ⟨xo_q_414, xc_q_414, xv_q_414, xt_q_414, xn_q_414⟩ := id hX_q_414
                              have hr_q_414 : vk_R "PostGateModel" 601 "adkim" q_414 s := hr_q_414
                              refine va_ldcwS hx hb hown hr_q_414 dX15_wish_281 ?_
                              refine va_ldcwS hx hb hown hr_q_336 dX15_wish_284 ?_
                              obtain ⟨z_416, hF_417, hq_418⟩ := hO.tags hi_53 ht_54
                              have hFc := pg_free hD hS hA
                              refine va_calli (va_runV (As := [.ref q_414, .ref q_336]) (rest := [.ref ak, .ref sd, .ref h0]) ⟨hx, hb, hml, hown, hts⟩ (s_X13_has l dC dI cs ty gm L H.size F_390 wi (ρ + 15) x_7 700 700 y0_8 y1_9 y2_10 r_59 z_416 q_414 v_415 5 (cct [97, 100, 107, 105, 109]) q_336 v_337 1 (cct [115]) hW hi_53 ht_54 hi_55 ht_60 hF_417 (by first | omega | assumption)) ⟨callB_of 2 hts (gi kt_863) rfl rfl rfl (hts _ kt_829) (hts _ kt_864) (by decide +kernel) ⟨Nat.le_of_ble_eq_true rfl, Nat.le_of_ble_eq_true rfl⟩, (hts _ kt_865), (hts _ kt_866)⟩ ⟨fun a U g mk q => ⟨q.1, PTEm.calling q.2⟩, pg_recv hK hP hi_53 hF_417 (q := (RX13, TX13, 5)) rfl, fun U hU hWm => ⟨rfl, PTEm.mk hU hWm hP hK hD hE hO hG (fun x hx => by simp only [mem_tgS, List.mem_append, List.mem_cons, List.not_mem_nil, or_false] at hx; rcases hx with hx | hx <;> subst hx <;> first | exact hX_q_414 | exact hX_q_336) hS hFc⟩⟩ rfl rfl hl.1 rfl (lv_room (Nat.le_of_ble_eq_true rfl)) dX15_wish_287 ⟨by show _ + 0 ≤ 0; omega, by show _ + 0 ≤ 0; omega⟩) hS (fun q _ h => hFc q h) hFc (fun r_419 u t H1 locs ht hvm hw hB hz1 hk1 hS => ?_)
                              obtain ⟨F_420, hB1⟩ := hB
                              obtain rfl : F_390 = F_420 := (funext (fun a => hB1.2.2.2 a List.not_mem_nil)).symm
                              obtain ⟨hP, hD, hO, hR⟩ := QTm.back hB1 ht hFc hR (fun q h => absurd h List.not_mem_nil)
                              generalize H1 = H at hP hS ⊢
                              have hw : (r_419 = 0 ∨ r_419 = 1) := hw
                              have hw_421 := hw
                              have hFc := pg_free hD hS hA
                              refine va_calli (va_runV (As := [.ref sd, .ref ak, .int r_419]) (rest := []) ⟨hx, hb, hml, hown, hts⟩ (s_X15_isAligned l dC dI cs ty gm L H.size F_390 h0 ρ ta ou so ad na va lc dm tg pe ml bg co sp nb0 nb1 nb2 pl se ke wi hs mo po nu pr sq xa sa n64 m64 ex wh sd tk hd ak ho ot sx s0 s1 s2 nf bd mm fm sn ze zt sd (ρ + 25) r_17 3000 ak (ρ + 28) rak 6000 r_419 hW hL_h0 hT_h0 hi_71 ht_72 hL_ak hT_ak (by first | omega | assumption) (by first | omega | assumption)) ⟨callB_of 3 hts (gi kt_1203) rfl rfl rfl (hts _ kt_669) (hts _ kt_1204) (by decide +kernel) ⟨Nat.le_of_ble_eq_true rfl, Nat.le_of_ble_eq_true rfl⟩, (hts _ kt_1205), (hts _ kt_1206)⟩ ⟨fun a U g mk q => ⟨q.1, PTm.calling q.2⟩, pg_recv hK hP hL_h0 hF_409 (q := (RX15, TX15, 59)) rfl, fun U hU hWm => ⟨rfl, PTm.mk hU hWm hP hK hD hE hO⟩⟩ rfl rfl hl.1 rfl (lv_room (Nat.le_of_ble_eq_true rfl)) dX15_wish_290 ⟨by show _ + 0 ≤ 0; omega, by show _ + 0 ≤ 0; omega⟩) hS (fun q _ h => hFc q h) hFc (fun r_422 u t H1 locs ht hvm hw hB hz1 hk1 hS => ?_)
                              obtain ⟨F_423, hB1⟩ := hB
                              obtain ⟨hP, hD, hO, hR⟩ := QTm.back hB1 ht hFc hR (fun q h => by simp only [mem_tgS, List.mem_append, List.mem_cons, List.not_mem_nil, or_false] at h ⊢; omega)
                              have hF_424 : F_423 va = .inl (cs 23, 40, .inr (.inr (.inr (.inr f_137)))) := (hB1.2.2.2 va (by rw [ht_136]; simp)).trans hF_391
                              have hF_425 : F_423 b_140 = .inr (14, [.ref r_141, .int (nI z_148)]) := (hB1.2.2.2 b_140 (by rw [ht_144]; simp only [mem_tgS, List.mem_append, List.mem_cons, List.not_mem_nil, or_false]; omega)).trans hF_392
                              have hF_426 : F_423 b_151 = .inr (14, [.ref r_152, .int (nI z_159)]) := (hB1.2.2.2 b_151 (by rw [ht_155]; simp only [mem_tgS, List.mem_append, List.mem_cons, List.not_mem_nil, or_false]; omega)).trans hF_393
                              have hF_427 : F_423 h0 = .inr (15, (.ref ta) :: (.int (nI zt)) :: (.int (nI zo_396)) :: (.int (nI ze)) :: (.ref ou) :: (.ref so) :: (.ref ad) :: (.ref na) :: (.ref va) :: (.ref lc) :: (.ref dm) :: (.int (nI fm)) :: (.int (nI sn)) :: (.ref tg) :: (.int v14_397) :: (.int v15_398) :: (.ref pe) :: (.int v17_399) :: (.int v18_400) :: (.int v19_401) :: (.int v20_402) :: (.int v21_403) :: (.int v22_404) :: (.ref ml) :: (.ref bg) :: (.ref co) :: (.ref sp) :: (.ref nb0) :: (.ref nb1) :: (.ref nb2) :: (.int (nI nf)) :: (.int (nI bd)) :: (.int (nI mm)) :: (.int v33_405) :: (.ref pl) :: (.ref se) :: (.ref ke) :: (.ref wi) :: (.ref hs) :: (.ref mo) :: (.ref po) :: (.ref nu) :: (.ref pr) :: (.ref sq) :: (.ref xa) :: (.ref sa) :: (.ref n64) :: (.ref m64) :: (.ref ex) :: (.ref wh) :: (.ref sd) :: (.ref tk) :: (.int v52_406) :: (.int v53_407) :: (.int v54_408) :: (.ref hd) :: (.ref ak) :: (.ref ho) :: (.ref ot) :: []) := (hB1.2.2.2 h0 (by rw [hT_h0]; simp)).trans hF_409
                              have hF_428 : F_423 wi = .inr (13, [.ref x_7, .ref y0_8, .ref y1_9, .ref y2_10, .int (nI z_416)]) := (hB1.2.2.2 wi (by rw [ht_54]; simp)).trans hF_417
                              generalize H1 = H at hP hS ⊢
                              have hw : (r_422 = 0 ∨ r_422 = 1) := hw
                              have hw_429 := hw
                              refine lv_if_eq (tgt := 298) hx hb dX15_wish_293 (by decide) (fun c_430 => ?_) (fun c_430 => ?_)
                              ·
                                refine lv_iinc (v := (nI (j + 1))) (lv' := [(5, .int (nI (j + 1))), (4, .int s4), (0, .ref h0), (1, .int x1)]) hx hb dX15_wish_298 hl (k := 0) rfl (nI_1 _) (by decide) rfl (fun ls hl => ?_)
                                refine lv_goto (tgt := 233) hx hb dX15_wish_301 (by decide) ?_
                                refine W.widen (k := 0) (n := 0) (by omega) (by omega) ?_
                                exact ih_358 (j + 1) F_423 (by first | omega | exact ⟨by omega, by omega⟩ | trivial) (by show nf - (j + 1) < nf - j; omega) hO hR _ _ hP hD hS ls (lv_sub hl [0, 1, 2, 3] rfl)
                              ·
                                refine lv_iconst (v := 2) hx hb dX15_wish_296 (by decide) ?_
                                refine W.widen (k := 0) (n := 0) (by omega) (by omega) ?_
                                exact W.iret (v := 2) hx hb hr (fun t ht hWm => ⟨⟨2, (), rfl, trivial, ⟨F_423, QTm.mk ht hP hD hO hR⟩⟩, hS.F ht⟩) hS.2.2 dX15_wish_297
                            ·
                              refine lv_goto (tgt := 298) hx hb dX15_wish_265 (by decide) ?_
                              refine lv_iinc (v := (nI (j + 1))) (lv' := [(5, .int (nI (j + 1))), (4, .int s4), (0, .ref h0), (1, .int x1)]) hx hb dX15_wish_298 hl (k := 0) rfl (nI_1 _) (by decide) rfl (fun ls hl => ?_)
                              refine lv_goto (tgt := 233) hx hb dX15_wish_301 (by decide) ?_
                              refine W.widen (k := 0) (n := 0) (by omega) (by omega) ?_
                              exact ih_358 (j + 1) F_390 (by first | omega | exact ⟨by omega, by omega⟩ | trivial) (by show nf - (j + 1) < nf - j; omega) hO hR _ _ hP hD hS ls (lv_sub hl [0, 1, 2, 3] rfl)
                      ·
                        refine lv_iconst (v := 2) hx hb dX15_wish_228 (by decide) ?_
                        refine W.widen (k := 0) (n := 0) (by omega) (by omega) ?_
                        exact W.iret (v := 2) hx hb hr (fun t ht hWm => ⟨⟨2, (), rfl, trivial, ⟨F_345, QTm.mk ht hP hD hO hR⟩⟩, hS.F ht⟩) hS.2.2 dX15_wish_229
                  ·
                    refine lv_iload_n hx hb dX15_wish_153 rfl (lv_at hl 2 rfl) ?_
                    refine lv_if_ne (tgt := 192) hx hb dX15_wish_154 (by decide) (fun c_431 => ?_) (fun c_431 => ?_)
                    ·
                      refine W.widen (k := 0) (n := 0) (by omega) (by omega) ?_
                      exact jn_200 r_196 F_182 (trivial) hO hR _ _ hP hD hS ls (lv_sub hl [0, 3, 4] rfl)
                    ·
                      refine lv_aload_n hx hb dX15_wish_157 rfl (lv_at hl 3 rfl) ?_
                      refine pg_get (ci := 15) (v := .ref wi) (C := RX15) (T := TX15) (N := 59) hx hb hts it_15 hown hK hP hL_h0 hF_187 rfl 37 (by decide) (hts _ kt_1138) (fun _ h9 => h9) rfl dX15_wish_158 ?_
                      obtain ⟨q_432, v_433, hr_q_432, hX_q_432⟩ := hG.2.2 ("PostGateModel", 590, "sp", [115, 112]) (by decide +kernel)
                      have hX_q_432 : SXc q_432 v_433 2 (cct [115, 112]) A s s.heap := hX_q_432
                      obtain ⟨xo_q_432, xc_q_432, xv_q_432, xt_q_432, xn_q_432⟩ := id hX_q_432
                      have hr_q_432 : vk_R "PostGateModel" 590 "sp" q_432 s := hr_q_432
                      refine va_ldcwS hx hb hown hr_q_432 dX15_wish_161 ?_
                      have hFc := pg_free hD hS hA
                      refine va_calli (va_runV (As := [.ref q_432]) (rest := []) ⟨hx, hb, hml, hown, hts⟩ (s_X13_find l dC dI cs ty gm L H.size F_182 wi (ρ + 15) x_7 700 700 y0_8 y1_9 y2_10 r_59 z2_183 q_432 v_433 2 (cct [115, 112]) hW hi_53 ht_54 hi_55 ht_60 hq_184 (by first | omega | assumption)) ⟨callB_of 1 hts (gi kt_828) rfl rfl rfl (hts _ kt_829) (hts _ kt_839) (by decide +kernel) ⟨Nat.le_of_ble_eq_true rfl, Nat.le_of_ble_eq_true rfl⟩, (hts _ kt_831), (hts _ kt_832)⟩ ⟨fun a U g mk q => ⟨q.1, PTEm.calling q.2⟩, pg_recv hK hP hi_53 hq_184 (q := (RX13, TX13, 5)) rfl, fun U hU hWm => ⟨rfl, PTEm.mk hU hWm hP hK hD hE hO hG (fun x hx => by rw [List.mem_singleton] at hx; subst hx; exact hX_q_432) hS hFc⟩⟩ rfl rfl hl.1 rfl (lv_room (Nat.le_of_ble_eq_true rfl)) dX15_wish_164 ⟨by show _ + 0 ≤ 0; omega, by show _ + 0 ≤ 0; omega⟩) hS (fun q _ h => hFc q h) hFc (fun r_434 u t H1 locs ht hvm hw hB hz1 hk1 hS => ?_)
                      obtain ⟨F_435, hB1⟩ := hB
                      obtain rfl : F_182 = F_435 := (funext (fun a => hB1.2.2.2 a List.not_mem_nil)).symm
                      obtain ⟨hP, hD, hO, hR⟩ := QTm.back hB1 ht hFc hR (fun q h => absurd h List.not_mem_nil)
                      generalize H1 = H at hP hS ⊢
                      have hw : FND (gA (F_182 r_59)) (gA (F_182 y0_8)) (gA (F_182 y1_9)) z2_183 (cct [115, 112]) 2 r_434 := hw
                      have hw_436 := hw
                      refine lv_if_lt (tgt := 192) hx hb dX15_wish_167 (by decide) (fun c_437 => ?_) (fun c_437 => ?_)
                      ·
                        refine W.widen (k := 0) (n := 0) (by omega) (by omega) ?_
                        exact jn_200 r_196 F_182 (trivial) hO hR _ _ hP hD hS ls (lv_sub hl [0, 3, 4] rfl)
                      ·
                        refine lv_aload_n hx hb dX15_wish_170 rfl (lv_at hl 3 rfl) ?_
                        refine pg_get (ci := 15) (v := .ref wi) (C := RX15) (T := TX15) (N := 59) hx hb hts it_15 hown hK hP hL_h0 hF_187 rfl 37 (by decide) (hts _ kt_1138) (fun _ h9 => h9) rfl dX15_wish_171 ?_
                        refine va_ldcwS hx hb hown hr_q_432 dX15_wish_174 ?_
                        have hFc := pg_free hD hS hA
                        refine va_calli (va_runS (As := [.ref wi, .ref q_432]) (rest := []) ⟨hx, hb, hml, hown, hts⟩ (s_X15_wanted l dC dI cs ty gm L H.size F_182 wi (ρ + 15) x_7 700 700 y0_8 y1_9 y2_10 r_59 z2_183 q_432 v_433 2 (cct [115, 112]) hW hi_53 ht_54 hi_55 ht_60 hq_184 (by first | omega | assumption)) ⟨callB_of 2 hts (gi kt_1196) rfl rfl rfl (hts _ kt_669) (hts _ kt_1197) (by decide +kernel) ⟨Nat.le_of_ble_eq_true rfl, Nat.le_of_ble_eq_true rfl⟩, (hts _ kt_1198)⟩ ⟨fun a U g mk q => ⟨q.1, PTEm.calling q.2⟩, fun U hU hWm => ⟨rfl, PTEm.mk hU hWm hP hK hD hE hO hG (fun x hx => by rw [List.mem_singleton] at hx; subst hx; exact hX_q_432) hS hFc⟩⟩ rfl rfl hl.1 rfl (lv_room (Nat.le_of_ble_eq_true rfl)) dX15_wish_177 ⟨by show _ + 0 ≤ 0; omega, by show _ + 0 ≤ 0; omega⟩) hS (fun q _ h => hFc q h) hFc (fun r_438 u t H1 locs ht hvm hw hB hz1 hk1 hS => ?_)
                        obtain ⟨F_439, hB1⟩ := hB
                        obtain rfl : F_182 = F_439 := (funext (fun a => hB1.2.2.2 a List.not_mem_nil)).symm
                        obtain ⟨hP, hD, hO, hR⟩ := QTm.back hB1 ht hFc hR (fun q h => absurd h List.not_mem_nil)
                        generalize H1 = H at hP hS ⊢
                        have hw : True := hw
                        have hw_440 := hw
                        refine lv_istore (lv' := [(4, .int r_438), (3, .int (nI kv)), (2, .int sw2), (0, .ref h0), (1, .int x1)]) hx hb dX15_wish_180 hl (by decide) rfl (fun ls hl => ?_)
                        refine lv_iload hx hb dX15_wish_182 (lv_at hl 0 rfl) ?_
                        refine lv_bipush (v := 6) hx hb dX15_wish_184 (by decide) ?_
                        refine lv_icmp_ne (tgt := 192) hx hb dX15_wish_186 (by decide) (fun c_441 => ?_) (fun c_441 => ?_)
                        ·
                          refine W.widen (k := 0) (n := 0) (by omega) (by omega) ?_
                          exact jn_200 r_438 F_182 (trivial) hO hR _ _ hP hD hS ls (lv_sub hl [0, 3, 4] rfl)
                        ·
                          refine lv_bipush (v := 6) hx hb dX15_wish_189 (by decide) ?_
                          refine W.widen (k := 0) (n := 0) (by omega) (by omega) ?_
                          exact W.iret (v := 6) hx hb hr (fun t ht hWm => ⟨⟨6, (), rfl, trivial, ⟨F_182, QTm.mk ht hP hD hO hR⟩⟩, hS.F ht⟩) hS.2.2 dX15_wish_191
                ·
                  refine lv_bipush (v := 6) hx hb dX15_wish_150 (by decide) ?_
                  refine W.widen (k := 0) (n := 0) (by omega) (by omega) ?_
                  exact W.iret (v := 6) hx hb hr (fun t ht hWm => ⟨⟨6, (), rfl, trivial, ⟨F_182, QTm.mk ht hP hD hO hR⟩⟩, hS.F ht⟩) hS.2.2 dX15_wish_152
              ·
                refine lv_bipush (v := 6) hx hb dX15_wish_128 (by decide) ?_
                refine W.widen (k := 0) (n := 0) (by omega) (by omega) ?_
                exact W.iret (v := 6) hx hb hr (fun t ht hWm => ⟨⟨6, (), rfl, trivial, ⟨F_182, QTm.mk ht hP hD hO hR⟩⟩, hS.F ht⟩) hS.2.2 dX15_wish_130
            ·
              refine lv_iload_n hx hb dX15_wish_75 rfl (lv_at hl 0 rfl) ?_
              refine lv_bipush (v := (-2)) hx hb dX15_wish_76 (by decide) ?_
              refine lv_icmp_ne (tgt := 85) hx hb dX15_wish_78 (by decide) (fun c_442 => ?_) (fun c_442 => ?_)
              ·
                refine lv_iconst (v := 0) hx hb dX15_wish_85 (by decide) ?_
                refine W.widen (k := 0) (n := 0) (by omega) (by omega) ?_
                exact W.iret (v := 0) hx hb hr (fun t ht hWm => ⟨⟨0, (), rfl, trivial, ⟨F_114, QTm.mk ht hP hD hO hR⟩⟩, hS.F ht⟩) hS.2.2 dX15_wish_86
              ·
                refine lv_iconst (v := 5) hx hb dX15_wish_81 (by decide) ?_
                refine lv_goto (tgt := 86) hx hb dX15_wish_82 (by decide) ?_
                refine W.widen (k := 0) (n := 0) (by omega) (by omega) ?_
                exact W.iret (v := 5) hx hb hr (fun t ht hWm => ⟨⟨5, (), rfl, trivial, ⟨F_114, QTm.mk ht hP hD hO hR⟩⟩, hS.F ht⟩) hS.2.2 dX15_wish_86
          ·
            refine lv_iload_n hx hb dX15_wish_43 rfl (lv_at hl 0 rfl) ?_
            refine lv_iconst (v := (-1)) hx hb dX15_wish_44 (by decide) ?_
            refine lv_icmp_ne (tgt := 71) hx hb dX15_wish_45 (by decide) (fun c_443 => ?_) (fun c_443 => ?_)
            ·
              refine W.widen (k := 0) (n := 0) (by omega) (by omega) ?_
              exact jn_113 (r_108, 1) F_109 (⟨hw_112, hF_111⟩) hO hR _ _ hP hD hS ls (lv_sub hl [0, 1, 2, 3] rfl)
            ·
              refine lv_iconst (v := 0) hx hb dX15_wish_48 (by decide) ?_
              refine lv_istore_n (lv' := [(2, .int 0), (3, .int r_108), (0, .ref h0), (1, .int x1)]) hx hb dX15_wish_49 rfl hl (by decide) rfl (fun ls hl => ?_)
              refine lv_aload_n hx hb dX15_wish_50 rfl (lv_at hl 2 rfl) ?_
              refine lv_aload_n hx hb dX15_wish_51 rfl (lv_at hl 2 rfl) ?_
              refine pg_get (ci := 15) (v := .ref ak) (C := RX15) (T := TX15) (N := 59) hx hb hts it_15 hown hK hP hL_h0 hF_110 rfl 56 (by decide) (hts _ kt_999) (fun _ h9 => h9) rfl dX15_wish_52 ?_
              refine lv_aload_n hx hb dX15_wish_55 rfl (lv_at hl 2 rfl) ?_
              refine pg_get (ci := 15) (v := .ref ho) (C := RX15) (T := TX15) (N := 59) hx hb hts it_15 hown hK hP hL_h0 hF_110 rfl 57 (by decide) (hts _ kt_960) (fun _ h9 => h9) rfl dX15_wish_56 ?_
              have hFc := pg_free hD hS hA
              refine va_callv (va_runV (As := [.ref ak, .ref ho]) (rest := []) ⟨hx, hb, hml, hown, hts⟩ (s_X15_houseOf l dC dI cs ty gm L H.size F_109 h0 ρ ta ou so ad na va lc dm tg pe ml bg co sp nb0 nb1 nb2 pl se ke wi hs mo po nu pr sq xa sa n64 m64 ex wh sd tk hd ak ho ot sx s0 s1 s2 nf bd mm fm sn ze zt ak (ρ + 28) rak 6000 ho (ρ + 29) r_18 6000 za_102 hW hL_h0 hT_h0 hL_ak hT_ak hi_48 ht_49 hF_111 (by first | omega | assumption) (by first | omega | assumption)) ⟨callB_of 2 hts (gi kt_961) rfl rfl rfl (hts _ kt_669) (hts _ kt_962) (by decide +kernel) ⟨Nat.le_of_ble_eq_true rfl, Nat.le_of_ble_eq_true rfl⟩, (hts _ kt_963), (hts _ kt_964)⟩ ⟨fun a U g mk q => ⟨q.1, PTm.calling q.2⟩, pg_recv hK hP hL_h0 hF_110 (q := (RX15, TX15, 59)) rfl, fun U hU hWm => ⟨rfl, PTm.mk hU hWm hP hK hD hE hO⟩⟩ rfl rfl hl.1 rfl (lv_room (Nat.le_of_ble_eq_true rfl)) dX15_wish_59 ⟨by show _ + 0 ≤ 0; omega, by show _ + 0 ≤ 0; omega⟩) hS (fun q _ h => hFc q h) hFc (fun u t H1 locs ht hvm hw hB hz1 hk1 hS => ?_)
              obtain ⟨F_445, y2_446, hB1, hq_447, hq_448⟩ := hB
              obtain ⟨hP, hD, hO, hR⟩ := QTm.back hB1 ht hFc hR (fun q h => by simp only [mem_tgS, List.mem_append, List.mem_cons, List.not_mem_nil, or_false] at h ⊢; omega)
              have hF_449 : F_445 h0 = .inr (15, (.ref ta) :: (.int (nI zt)) :: (.int (nI zo_76)) :: (.int (nI ze)) :: (.ref ou) :: (.ref so) :: (.ref ad) :: (.ref na) :: (.ref va) :: (.ref lc) :: (.ref dm) :: (.int (nI fm)) :: (.int (nI sn)) :: (.ref tg) :: (.int v14_77) :: (.int v15_78) :: (.ref pe) :: (.int v17_79) :: (.int v18_80) :: (.int v19_81) :: (.int v20_82) :: (.int v21_83) :: (.int v22_84) :: (.ref ml) :: (.ref bg) :: (.ref co) :: (.ref sp) :: (.ref nb0) :: (.ref nb1) :: (.ref nb2) :: (.int (nI nf)) :: (.int (nI bd)) :: (.int (nI mm)) :: (.int v33_85) :: (.ref pl) :: (.ref se) :: (.ref ke) :: (.ref wi) :: (.ref hs) :: (.ref mo) :: (.ref po) :: (.ref nu) :: (.ref pr) :: (.ref sq) :: (.ref xa) :: (.ref sa) :: (.ref n64) :: (.ref m64) :: (.ref ex) :: (.ref wh) :: (.ref sd) :: (.ref tk) :: (.int v52_86) :: (.int v53_87) :: (.int v54_88) :: (.ref hd) :: (.ref ak) :: (.ref ho) :: (.ref ot) :: []) := (hB1.2.2.2 h0 (by rw [hT_h0]; simp)).trans hF_110
              have hF_450 : F_445 ak = .inr (14, [.ref rak, .int (nI za_102)]) := (hB1.2.2.2 ak (by rw [hT_ak]; simp)).trans hF_111
              generalize H1 = H at hP hS ⊢
              refine lv_aload_n hx hb dX15_wish_62 rfl (lv_at hl 2 rfl) ?_
              refine lv_aload_n hx hb dX15_wish_63 rfl (lv_at hl 2 rfl) ?_
              refine pg_get (ci := 15) (v := .ref ho) (C := RX15) (T := TX15) (N := 59) hx hb hts it_15 hown hK hP hL_h0 hF_449 rfl 57 (by decide) (hts _ kt_960) (fun _ h9 => h9) rfl dX15_wish_64 ?_
              have hFc := pg_free hD hS hA
              refine va_calli (va_runV (As := [.ref ho]) (rest := []) ⟨hx, hb, hml, hown, hts⟩ (s_X15_wantedOf l dC dI cs ty gm L H.size F_445 h0 ρ ta ou so ad na va lc dm tg pe ml bg co sp nb0 nb1 nb2 pl se ke wi hs mo po nu pr sq xa sa n64 m64 ex wh sd tk hd ak ho ot sx s0 s1 s2 nf bd mm fm sn ze zt ho (ρ + 29) r_18 6000 y2_446 hW hL_h0 hT_h0 hi_48 ht_49 hq_447 (by first | omega | assumption) (by first | omega | assumption) (by first | omega | assumption)) ⟨callB_of 1 hts (gi kt_1192) rfl rfl rfl (hts _ kt_669) (hts _ kt_1193) (by decide +kernel) ⟨Nat.le_of_ble_eq_true rfl, Nat.le_of_ble_eq_true rfl⟩, (hts _ kt_1194), (hts _ kt_1195)⟩ ⟨fun a U g mk q => ⟨q.1, PTEm.calling q.2⟩, pg_recv hK hP hL_h0 hF_449 (q := (RX15, TX15, 59)) rfl, fun U hU hWm => ⟨rfl, PTEm.mk hU hWm hP hK hD hE hO hG (fun x hx => absurd hx List.not_mem_nil) hS hFc⟩⟩ rfl rfl hl.1 rfl (lv_room (Nat.le_of_ble_eq_true rfl)) dX15_wish_67 ⟨by show _ + 0 ≤ 0; omega, by show _ + 0 ≤ 0; omega⟩) hS (fun q _ h => hFc q h) hFc (fun r_451 u t H1 locs ht hvm hw hB hz1 hk1 hS => ?_)
              obtain ⟨F_452, hB1⟩ := hB
              obtain ⟨hP, hD, hO, hR⟩ := QTm.back hB1 ht hFc hR (fun q h => by simp only [mem_tgS, List.mem_append, List.mem_cons, List.not_mem_nil, or_false] at h ⊢; omega)
              have hF_453 : F_452 h0 = .inr (15, (.ref ta) :: (.int (nI zt)) :: (.int (nI zo_76)) :: (.int (nI ze)) :: (.ref ou) :: (.ref so) :: (.ref ad) :: (.ref na) :: (.ref va) :: (.ref lc) :: (.ref dm) :: (.int (nI fm)) :: (.int (nI sn)) :: (.ref tg) :: (.int v14_77) :: (.int v15_78) :: (.ref pe) :: (.int v17_79) :: (.int v18_80) :: (.int v19_81) :: (.int v20_82) :: (.int v21_83) :: (.int v22_84) :: (.ref ml) :: (.ref bg) :: (.ref co) :: (.ref sp) :: (.ref nb0) :: (.ref nb1) :: (.ref nb2) :: (.int (nI nf)) :: (.int (nI bd)) :: (.int (nI mm)) :: (.int v33_85) :: (.ref pl) :: (.ref se) :: (.ref ke) :: (.ref wi) :: (.ref hs) :: (.ref mo) :: (.ref po) :: (.ref nu) :: (.ref pr) :: (.ref sq) :: (.ref xa) :: (.ref sa) :: (.ref n64) :: (.ref m64) :: (.ref ex) :: (.ref wh) :: (.ref sd) :: (.ref tk) :: (.int v52_86) :: (.int v53_87) :: (.int v54_88) :: (.ref hd) :: (.ref ak) :: (.ref ho) :: (.ref ot) :: []) := (hB1.2.2.2 h0 (by rw [hT_h0]; simp)).trans hF_449
              have hF_454 : F_452 ak = .inr (14, [.ref rak, .int (nI za_102)]) := (hB1.2.2.2 ak (by rw [hT_ak]; simp)).trans hF_450
              have hF_455 : F_452 ho = .inr (14, [.ref r_18, .int (nI y2_446)]) := (hB1.2.2.2 ho (by rw [ht_49]; simp)).trans hq_447
              generalize H1 = H at hP hS ⊢
              have hw : (r_451 = (-1) ∨ r_451 = (-2) ∨ ∃ j : Nat, j < 40 ∧ r_451 = nI j) := hw
              have hw_456 := hw
              refine lv_istore_n (lv' := [(3, .int r_451), (2, .int 0), (0, .ref h0), (1, .int x1)]) hx hb dX15_wish_70 rfl hl (by decide) rfl (fun ls hl => ?_)
              refine W.widen (k := 0) (n := 0) (by omega) (by omega) ?_
              exact jn_113 (r_451, 0) F_452 (⟨hw_456, hF_454⟩) hO hR _ _ hP hD hS ls (lv_sub hl [0, 1, 2, 3] rfl)
        ·
          refine lv_iconst (v := 1) hx hb dX15_wish_30 (by decide) ?_
          refine W.widen (k := 0) (n := 0) (by omega) (by omega) ?_
          exact W.iret (v := 1) hx hb hr (fun t ht hWm => ⟨⟨1, (), rfl, trivial, ⟨F_101, QTm.mk ht hP hD hO hR⟩⟩, hS.F ht⟩) hS.2.2 dX15_wish_31
      ·
        refine lv_bipush (v := (-2)) hx hb dX15_wish_20 (by decide) ?_
        refine W.widen (k := 0) (n := 0) (by omega) (by omega) ?_
        exact W.iret (v := (-2)) hx hb hr (fun t ht hWm => ⟨⟨(-2), (), rfl, trivial, ⟨F, QTm.mk ht hP hD hO hR⟩⟩, hS.F ht⟩) hS.2.2 dX15_wish_22
    ·
      refine lv_iconst (v := (-1)) hx hb dX15_wish_11 (by decide) ?_
      refine W.widen (k := 0) (n := 0) (by omega) (by omega) ?_
      exact W.iret (v := (-1)) hx hb hr (fun t ht hWm => ⟨⟨(-1), (), rfl, trivial, ⟨F, QTm.mk ht hP hD hO hR⟩⟩, hS.F ht⟩) hS.2.2 dX15_wish_12
