theorem dX15_digest__0 : decode cX15_digest_ 0 = .ok (.aload_n 0, 1) := by decide +kernel
theorem dX15_digest__1 : decode cX15_digest_ 1 = .ok (.invokevirtual 174, 3) := by decide +kernel
theorem dX15_digest__4 : decode cX15_digest_ 4 = .ok (.istore_n 1, 1) := by decide +kernel
theorem dX15_digest__5 : decode cX15_digest_ 5 = .ok (.aload_n 0, 1) := by decide +kernel
theorem dX15_digest__6 : decode cX15_digest_ 6 = .ok (.aload_n 0, 1) := by decide +kernel
theorem dX15_digest__7 : decode cX15_digest_ 7 = .ok (.getfield 31, 3) := by decide +kernel
theorem dX15_digest__10 : decode cX15_digest_ 10 = .ok (.iload_n 1, 1) := by decide +kernel
theorem dX15_digest__11 : decode cX15_digest_ 11 = .ok (.aload_n 0, 1) := by decide +kernel
theorem dX15_digest__12 : decode cX15_digest_ 12 = .ok (.getfield 129, 3) := by decide +kernel
theorem dX15_digest__15 : decode cX15_digest_ 15 = .ok (.invokevirtual 519, 3) := by decide +kernel
theorem dX15_digest__18 : decode cX15_digest_ 18 = .ok (.aload_n 0, 1) := by decide +kernel
theorem dX15_digest__19 : decode cX15_digest_ 19 = .ok (.getfield 129, 3) := by decide +kernel
theorem dX15_digest__22 : decode cX15_digest_ 22 = .ok (.iconst 0, 1) := by decide +kernel
theorem dX15_digest__23 : decode cX15_digest_ 23 = .ok (.aload_n 0, 1) := by decide +kernel
theorem dX15_digest__24 : decode cX15_digest_ 24 = .ok (.getfield 35, 3) := by decide +kernel
theorem dX15_digest__27 : decode cX15_digest_ 27 = .ok (.iconst 0, 1) := by decide +kernel
theorem dX15_digest__28 : decode cX15_digest_ 28 = .ok (.bipush 32, 2) := by decide +kernel
theorem dX15_digest__30 : decode cX15_digest_ 30 = .ok (.invokestatic 358, 3) := by decide +kernel
theorem dX15_digest__33 : decode cX15_digest_ 33 = .ok (.aload_n 0, 1) := by decide +kernel
theorem dX15_digest__34 : decode cX15_digest_ 34 = .ok (.bipush 32, 2) := by decide +kernel
theorem dX15_digest__36 : decode cX15_digest_ 36 = .ok (.putfield 385, 3) := by decide +kernel
theorem dX15_digest__39 : decode cX15_digest_ 39 = .ok (.bipush 32, 2) := by decide +kernel
theorem dX15_digest__41 : decode cX15_digest_ 41 = .ok (.ireturn, 1) := by decide +kernel
theorem dX15_end_0 : decode cX15_end 0 = .ok (.iload_n 1, 1) := by decide +kernel
theorem dX15_end_1 : decode cX15_end 1 = .ok (.i2l, 1) := by decide +kernel
theorem dX15_end_2 : decode cX15_end 2 = .ok (.lconst 0, 1) := by decide +kernel
theorem dX15_end_3 : decode cX15_end 3 = .ok (.aload_n 0, 1) := by decide +kernel
theorem dX15_end_4 : decode cX15_end 4 = .ok (.getfield 166, 3) := by decide +kernel
theorem dX15_end_7 : decode cX15_end 7 = .ok (.i2l, 1) := by decide +kernel
theorem dX15_end_8 : decode cX15_end 8 = .ok (.invokestatic 170, 3) := by decide +kernel
theorem dX15_end_11 : decode cX15_end 11 = .ok (.ifCond .ne 5, 3) := by decide +kernel
theorem dX15_end_14 : decode cX15_end 14 = .ok (.iconst (-1), 1) := by decide +kernel
theorem dX15_end_15 : decode cX15_end 15 = .ok (.ireturn, 1) := by decide +kernel
theorem dX15_end_16 : decode cX15_end 16 = .ok (.aload_n 0, 1) := by decide +kernel
theorem dX15_end_17 : decode cX15_end 17 = .ok (.iload_n 1, 1) := by decide +kernel
theorem dX15_end_18 : decode cX15_end 18 = .ok (.putfield 166, 3) := by decide +kernel
theorem dX15_end_21 : decode cX15_end 21 = .ok (.iload_n 1, 1) := by decide +kernel
theorem dX15_end_22 : decode cX15_end 22 = .ok (.ireturn, 1) := by decide +kernel
theorem dX15_entry_0 : decode cX15_entry 0 = .ok (.aload_n 0, 1) := by decide +kernel
theorem dX15_entry_1 : decode cX15_entry 1 = .ok (.invokevirtual 174, 3) := by decide +kernel
theorem dX15_entry_4 : decode cX15_entry 4 = .ok (.istore_n 3, 1) := by decide +kernel
theorem dX15_entry_5 : decode cX15_entry 5 = .ok (.iconst 0, 1) := by decide +kernel
theorem dX15_entry_6 : decode cX15_entry 6 = .ok (.istore 4, 2) := by decide +kernel
theorem dX15_entry_8 : decode cX15_entry 8 = .ok (.aload_n 0, 1) := by decide +kernel
theorem dX15_entry_9 : decode cX15_entry 9 = .ok (.getfield 177, 3) := by decide +kernel
theorem dX15_entry_12 : decode cX15_entry 12 = .ok (.bipush 40, 2) := by decide +kernel
theorem dX15_entry_14 : decode cX15_entry 14 = .ok (.if_icmp .ne 6, 3) := by decide +kernel
theorem dX15_entry_17 : decode cX15_entry 17 = .ok (.bipush (-3), 2) := by decide +kernel
theorem dX15_entry_19 : decode cX15_entry 19 = .ok (.ireturn, 1) := by decide +kernel
theorem dX15_entry_20 : decode cX15_entry 20 = .ok (.iload_n 1, 1) := by decide +kernel
theorem dX15_entry_21 : decode cX15_entry 21 = .ok (.i2l, 1) := by decide +kernel
theorem dX15_entry_22 : decode cX15_entry 22 = .ok (.lconst 0, 1) := by decide +kernel
theorem dX15_entry_23 : decode cX15_entry 23 = .ok (.ldc2_w 180, 3) := by decide +kernel
theorem dX15_entry_26 : decode cX15_entry 26 = .ok (.invokestatic 170, 3) := by decide +kernel
theorem dX15_entry_29 : decode cX15_entry 29 = .ok (.ifCond .ne 5, 3) := by decide +kernel
theorem dX15_entry_32 : decode cX15_entry 32 = .ok (.iconst (-1), 1) := by decide +kernel
theorem dX15_entry_33 : decode cX15_entry 33 = .ok (.ireturn, 1) := by decide +kernel
theorem dX15_entry_34 : decode cX15_entry 34 = .ok (.iload_n 1, 1) := by decide +kernel
theorem dX15_entry_35 : decode cX15_entry 35 = .ok (.ifCond .eq 8, 3) := by decide +kernel
theorem dX15_entry_38 : decode cX15_entry 38 = .ok (.iload_n 1, 1) := by decide +kernel
theorem dX15_entry_39 : decode cX15_entry 39 = .ok (.iconst 2, 1) := by decide +kernel
theorem dX15_entry_40 : decode cX15_entry 40 = .ok (.if_icmp .ne 7, 3) := by decide +kernel
theorem dX15_entry_43 : decode cX15_entry 43 = .ok (.iconst 1, 1) := by decide +kernel
theorem dX15_entry_44 : decode cX15_entry 44 = .ok (.goto 4, 3) := by decide +kernel
theorem dX15_entry_47 : decode cX15_entry 47 = .ok (.iconst 0, 1) := by decide +kernel
theorem dX15_entry_48 : decode cX15_entry 48 = .ok (.istore 5, 2) := by decide +kernel
theorem dX15_entry_50 : decode cX15_entry 50 = .ok (.iload 5, 2) := by decide +kernel
theorem dX15_entry_52 : decode cX15_entry 52 = .ok (.ifCond .eq 27, 3) := by decide +kernel
theorem dX15_entry_55 : decode cX15_entry 55 = .ok (.iload 4, 2) := by decide +kernel
theorem dX15_entry_57 : decode cX15_entry 57 = .ok (.iload_n 3, 1) := by decide +kernel
theorem dX15_entry_58 : decode cX15_entry 58 = .ok (.if_icmp .ge 21, 3) := by decide +kernel
theorem dX15_entry_61 : decode cX15_entry 61 = .ok (.aload_n 0, 1) := by decide +kernel
theorem dX15_entry_62 : decode cX15_entry 62 = .ok (.getfield 31, 3) := by decide +kernel
theorem dX15_entry_65 : decode cX15_entry 65 = .ok (.iload 4, 2) := by decide +kernel
theorem dX15_entry_67 : decode cX15_entry 67 = .ok (.baload, 1) := by decide +kernel
theorem dX15_entry_68 : decode cX15_entry 68 = .ok (.bipush 32, 2) := by decide +kernel
theorem dX15_entry_70 : decode cX15_entry 70 = .ok (.if_icmp .eq 9, 3) := by decide +kernel
theorem dX15_entry_73 : decode cX15_entry 73 = .ok (.iinc 4 1, 3) := by decide +kernel
theorem dX15_entry_76 : decode cX15_entry 76 = .ok (.goto (-26), 3) := by decide +kernel
theorem dX15_entry_79 : decode cX15_entry 79 = .ok (.iload 5, 2) := by decide +kernel
theorem dX15_entry_81 : decode cX15_entry 81 = .ok (.ifCond .eq 8, 3) := by decide +kernel
theorem dX15_entry_84 : decode cX15_entry 84 = .ok (.iload 4, 2) := by decide +kernel
theorem dX15_entry_86 : decode cX15_entry 86 = .ok (.goto 4, 3) := by decide +kernel
theorem dX15_entry_89 : decode cX15_entry 89 = .ok (.iload_n 3, 1) := by decide +kernel
theorem dX15_entry_90 : decode cX15_entry 90 = .ok (.istore 6, 2) := by decide +kernel
theorem dX15_entry_92 : decode cX15_entry 92 = .ok (.iload 5, 2) := by decide +kernel
theorem dX15_entry_94 : decode cX15_entry 94 = .ok (.ifCond .eq 9, 3) := by decide +kernel
theorem dX15_entry_97 : decode cX15_entry 97 = .ok (.iload 4, 2) := by decide +kernel
theorem dX15_entry_99 : decode cX15_entry 99 = .ok (.iload_n 3, 1) := by decide +kernel
theorem dX15_entry_100 : decode cX15_entry 100 = .ok (.if_icmp .eq 16, 3) := by decide +kernel
theorem dX15_entry_103 : decode cX15_entry 103 = .ok (.aload_n 0, 1) := by decide +kernel
theorem dX15_entry_104 : decode cX15_entry 104 = .ok (.getfield 31, 3) := by decide +kernel
theorem dX15_entry_107 : decode cX15_entry 107 = .ok (.iconst 0, 1) := by decide +kernel
theorem dX15_entry_108 : decode cX15_entry 108 = .ok (.iload 6, 2) := by decide +kernel
theorem dX15_entry_110 : decode cX15_entry 110 = .ok (.invokestatic 182, 3) := by decide +kernel
theorem dX15_entry_113 : decode cX15_entry 113 = .ok (.ifCond .ne 5, 3) := by decide +kernel
theorem dX15_entry_116 : decode cX15_entry 116 = .ok (.iconst (-1), 1) := by decide +kernel
theorem dX15_entry_117 : decode cX15_entry 117 = .ok (.ireturn, 1) := by decide +kernel
theorem dX15_entry_118 : decode cX15_entry 118 = .ok (.iload_n 1, 1) := by decide +kernel
theorem dX15_entry_119 : decode cX15_entry 119 = .ok (.iconst 2, 1) := by decide +kernel
theorem dX15_entry_120 : decode cX15_entry 120 = .ok (.if_icmp .ne 18, 3) := by decide +kernel
theorem dX15_entry_123 : decode cX15_entry 123 = .ok (.aload_n 0, 1) := by decide +kernel
theorem dX15_entry_124 : decode cX15_entry 124 = .ok (.getfield 31, 3) := by decide +kernel
theorem dX15_entry_127 : decode cX15_entry 127 = .ok (.iload 4, 2) := by decide +kernel
theorem dX15_entry_129 : decode cX15_entry 129 = .ok (.iconst 1, 1) := by decide +kernel
theorem dX15_entry_130 : decode cX15_entry 130 = .ok (.iadd, 1) := by decide +kernel
theorem dX15_entry_131 : decode cX15_entry 131 = .ok (.iload_n 3, 1) := by decide +kernel
theorem dX15_entry_132 : decode cX15_entry 132 = .ok (.invokestatic 182, 3) := by decide +kernel
theorem dX15_entry_135 : decode cX15_entry 135 = .ok (.ifCond .eq 19, 3) := by decide +kernel
theorem dX15_entry_138 : decode cX15_entry 138 = .ok (.iload_n 1, 1) := by decide +kernel
theorem dX15_entry_139 : decode cX15_entry 139 = .ok (.ifCond .ne 17, 3) := by decide +kernel
theorem dX15_entry_142 : decode cX15_entry 142 = .ok (.iload_n 3, 1) := by decide +kernel
theorem dX15_entry_143 : decode cX15_entry 143 = .ok (.iload 4, 2) := by decide +kernel
theorem dX15_entry_145 : decode cX15_entry 145 = .ok (.isub, 1) := by decide +kernel
theorem dX15_entry_146 : decode cX15_entry 146 = .ok (.iconst 1, 1) := by decide +kernel
theorem dX15_entry_147 : decode cX15_entry 147 = .ok (.isub, 1) := by decide +kernel
theorem dX15_entry_148 : decode cX15_entry 148 = .ok (.sipush 700, 3) := by decide +kernel
theorem dX15_entry_151 : decode cX15_entry 151 = .ok (.if_icmp .le 5, 3) := by decide +kernel
theorem dX15_entry_154 : decode cX15_entry 154 = .ok (.iconst (-1), 1) := by decide +kernel
theorem dX15_entry_155 : decode cX15_entry 155 = .ok (.ireturn, 1) := by decide +kernel
theorem dX15_entry_156 : decode cX15_entry 156 = .ok (.aload_n 0, 1) := by decide +kernel
theorem dX15_entry_157 : decode cX15_entry 157 = .ok (.getfield 38, 3) := by decide +kernel
theorem dX15_entry_160 : decode cX15_entry 160 = .ok (.aload_n 0, 1) := by decide +kernel
theorem dX15_entry_161 : decode cX15_entry 161 = .ok (.getfield 177, 3) := by decide +kernel
theorem dX15_entry_164 : decode cX15_entry 164 = .ok (.iload_n 1, 1) := by decide +kernel
theorem dX15_entry_165 : decode cX15_entry 165 = .ok (.iastore, 1) := by decide +kernel
theorem dX15_entry_166 : decode cX15_entry 166 = .ok (.aload_n 0, 1) := by decide +kernel
theorem dX15_entry_167 : decode cX15_entry 167 = .ok (.getfield 42, 3) := by decide +kernel
theorem dX15_entry_170 : decode cX15_entry 170 = .ok (.aload_n 0, 1) := by decide +kernel
theorem dX15_entry_171 : decode cX15_entry 171 = .ok (.getfield 177, 3) := by decide +kernel
theorem dX15_entry_174 : decode cX15_entry 174 = .ok (.iload_n 2, 1) := by decide +kernel
theorem dX15_entry_175 : decode cX15_entry 175 = .ok (.iastore, 1) := by decide +kernel
theorem dX15_entry_176 : decode cX15_entry 176 = .ok (.aload_n 0, 1) := by decide +kernel
theorem dX15_entry_177 : decode cX15_entry 177 = .ok (.getfield 47, 3) := by decide +kernel
theorem dX15_entry_180 : decode cX15_entry 180 = .ok (.aload_n 0, 1) := by decide +kernel
theorem dX15_entry_181 : decode cX15_entry 181 = .ok (.getfield 177, 3) := by decide +kernel
theorem dX15_entry_184 : decode cX15_entry 184 = .ok (.aaload, 1) := by decide +kernel
theorem dX15_entry_185 : decode cX15_entry 185 = .ok (.aload_n 0, 1) := by decide +kernel
theorem dX15_entry_186 : decode cX15_entry 186 = .ok (.getfield 31, 3) := by decide +kernel
theorem dX15_entry_189 : decode cX15_entry 189 = .ok (.iconst 0, 1) := by decide +kernel
theorem dX15_entry_190 : decode cX15_entry 190 = .ok (.iload 6, 2) := by decide +kernel
theorem dX15_entry_192 : decode cX15_entry 192 = .ok (.invokevirtual 186, 3) := by decide +kernel
theorem dX15_entry_195 : decode cX15_entry 195 = .ok (.aload_n 0, 1) := by decide +kernel
theorem dX15_entry_196 : decode cX15_entry 196 = .ok (.getfield 51, 3) := by decide +kernel
theorem dX15_entry_199 : decode cX15_entry 199 = .ok (.aload_n 0, 1) := by decide +kernel
theorem dX15_entry_200 : decode cX15_entry 200 = .ok (.getfield 177, 3) := by decide +kernel
theorem dX15_entry_203 : decode cX15_entry 203 = .ok (.aaload, 1) := by decide +kernel
theorem dX15_entry_204 : decode cX15_entry 204 = .ok (.iconst 0, 1) := by decide +kernel
theorem dX15_entry_205 : decode cX15_entry 205 = .ok (.putfield 190, 3) := by decide +kernel
theorem dX15_entry_208 : decode cX15_entry 208 = .ok (.iload 5, 2) := by decide +kernel
theorem dX15_entry_210 : decode cX15_entry 210 = .ok (.ifCond .eq 24, 3) := by decide +kernel
theorem dX15_entry_213 : decode cX15_entry 213 = .ok (.aload_n 0, 1) := by decide +kernel
theorem dX15_entry_214 : decode cX15_entry 214 = .ok (.getfield 51, 3) := by decide +kernel
theorem dX15_entry_217 : decode cX15_entry 217 = .ok (.aload_n 0, 1) := by decide +kernel
theorem dX15_entry_218 : decode cX15_entry 218 = .ok (.getfield 177, 3) := by decide +kernel
theorem dX15_entry_221 : decode cX15_entry 221 = .ok (.aaload, 1) := by decide +kernel
theorem dX15_entry_222 : decode cX15_entry 222 = .ok (.aload_n 0, 1) := by decide +kernel
theorem dX15_entry_223 : decode cX15_entry 223 = .ok (.getfield 31, 3) := by decide +kernel
theorem dX15_entry_226 : decode cX15_entry 226 = .ok (.iload 4, 2) := by decide +kernel
theorem dX15_entry_228 : decode cX15_entry 228 = .ok (.iconst 1, 1) := by decide +kernel
theorem dX15_entry_229 : decode cX15_entry 229 = .ok (.iadd, 1) := by decide +kernel
theorem dX15_entry_230 : decode cX15_entry 230 = .ok (.iload_n 3, 1) := by decide +kernel
theorem dX15_entry_231 : decode cX15_entry 231 = .ok (.invokevirtual 186, 3) := by decide +kernel
theorem dX15_entry_234 : decode cX15_entry 234 = .ok (.aload_n 0, 1) := by decide +kernel
theorem dX15_entry_235 : decode cX15_entry 235 = .ok (.dup, 1) := by decide +kernel
theorem dX15_entry_236 : decode cX15_entry 236 = .ok (.getfield 177, 3) := by decide +kernel
theorem dX15_entry_239 : decode cX15_entry 239 = .ok (.iconst 1, 1) := by decide +kernel
theorem dX15_entry_240 : decode cX15_entry 240 = .ok (.iadd, 1) := by decide +kernel
theorem dX15_entry_241 : decode cX15_entry 241 = .ok (.putfield 177, 3) := by decide +kernel
theorem dX15_entry_244 : decode cX15_entry 244 = .ok (.aload_n 0, 1) := by decide +kernel
theorem dX15_entry_245 : decode cX15_entry 245 = .ok (.getfield 177, 3) := by decide +kernel
theorem dX15_entry_248 : decode cX15_entry 248 = .ok (.ireturn, 1) := by decide +kernel
theorem dX15_forget_0 : decode cX15_forget 0 = .ok (.aload_n 0, 1) := by decide +kernel
theorem dX15_forget_1 : decode cX15_forget 1 = .ok (.getfield 177, 3) := by decide +kernel
theorem dX15_forget_4 : decode cX15_forget 4 = .ok (.istore_n 1, 1) := by decide +kernel
theorem dX15_forget_5 : decode cX15_forget 5 = .ok (.aload_n 0, 1) := by decide +kernel
theorem dX15_forget_6 : decode cX15_forget 6 = .ok (.iconst 0, 1) := by decide +kernel
theorem dX15_forget_7 : decode cX15_forget 7 = .ok (.putfield 177, 3) := by decide +kernel
theorem dX15_forget_10 : decode cX15_forget 10 = .ok (.iload_n 1, 1) := by decide +kernel
theorem dX15_forget_11 : decode cX15_forget 11 = .ok (.ireturn, 1) := by decide +kernel
theorem dX15_house_0 : decode cX15_house 0 = .ok (.aload_n 0, 1) := by decide +kernel
theorem dX15_house_1 : decode cX15_house 1 = .ok (.invokevirtual 174, 3) := by decide +kernel
theorem dX15_house_4 : decode cX15_house 4 = .ok (.istore_n 1, 1) := by decide +kernel
theorem dX15_house_5 : decode cX15_house 5 = .ok (.aload_n 0, 1) := by decide +kernel
theorem dX15_house_6 : decode cX15_house 6 = .ok (.getfield 31, 3) := by decide +kernel
theorem dX15_house_9 : decode cX15_house 9 = .ok (.iconst 0, 1) := by decide +kernel
theorem dX15_house_10 : decode cX15_house 10 = .ok (.iload_n 1, 1) := by decide +kernel
theorem dX15_house_11 : decode cX15_house 11 = .ok (.invokestatic 182, 3) := by decide +kernel
theorem dX15_house_14 : decode cX15_house 14 = .ok (.ifCond .ne 5, 3) := by decide +kernel
theorem dX15_house_17 : decode cX15_house 17 = .ok (.iconst (-1), 1) := by decide +kernel
theorem dX15_house_18 : decode cX15_house 18 = .ok (.ireturn, 1) := by decide +kernel
theorem dX15_house_19 : decode cX15_house 19 = .ok (.aload_n 0, 1) := by decide +kernel
theorem dX15_house_20 : decode cX15_house 20 = .ok (.getfield 157, 3) := by decide +kernel
theorem dX15_house_23 : decode cX15_house 23 = .ok (.aload_n 0, 1) := by decide +kernel
theorem dX15_house_24 : decode cX15_house 24 = .ok (.getfield 31, 3) := by decide +kernel
theorem dX15_house_27 : decode cX15_house 27 = .ok (.iconst 0, 1) := by decide +kernel
theorem dX15_house_28 : decode cX15_house 28 = .ok (.iload_n 1, 1) := by decide +kernel
theorem dX15_house_29 : decode cX15_house 29 = .ok (.invokevirtual 186, 3) := by decide +kernel
theorem dX15_house_32 : decode cX15_house 32 = .ok (.aload_n 0, 1) := by decide +kernel
theorem dX15_house_33 : decode cX15_house 33 = .ok (.aload_n 0, 1) := by decide +kernel
theorem dX15_house_34 : decode cX15_house 34 = .ok (.getfield 157, 3) := by decide +kernel
theorem dX15_house_37 : decode cX15_house 37 = .ok (.aload_n 0, 1) := by decide +kernel
theorem dX15_house_38 : decode cX15_house 38 = .ok (.getfield 160, 3) := by decide +kernel
theorem dX15_house_41 : decode cX15_house 41 = .ok (.invokevirtual 565, 3) := by decide +kernel
theorem dX15_house_44 : decode cX15_house 44 = .ok (.aload_n 0, 1) := by decide +kernel
theorem dX15_house_45 : decode cX15_house 45 = .ok (.aload_n 0, 1) := by decide +kernel
theorem dX15_house_46 : decode cX15_house 46 = .ok (.getfield 160, 3) := by decide +kernel
theorem dX15_house_49 : decode cX15_house 49 = .ok (.invokevirtual 392, 3) := by decide +kernel
theorem dX15_house_52 : decode cX15_house 52 = .ok (.ireturn, 1) := by decide +kernel
theorem dX15_octet_0 : decode cX15_octet 0 = .ok (.iload_n 1, 1) := by decide +kernel
theorem dX15_octet_1 : decode cX15_octet 1 = .ok (.i2l, 1) := by decide +kernel
theorem dX15_octet_2 : decode cX15_octet 2 = .ok (.ldc2_w 603, 3) := by decide +kernel
theorem dX15_octet_5 : decode cX15_octet 5 = .ok (.aload_n 0, 1) := by decide +kernel
theorem dX15_octet_6 : decode cX15_octet 6 = .ok (.getfield 385, 3) := by decide +kernel
theorem dX15_octet_9 : decode cX15_octet 9 = .ok (.iconst 1, 1) := by decide +kernel
theorem dX15_octet_10 : decode cX15_octet 10 = .ok (.isub, 1) := by decide +kernel
theorem dX15_octet_11 : decode cX15_octet 11 = .ok (.i2l, 1) := by decide +kernel
theorem dX15_octet_12 : decode cX15_octet 12 = .ok (.invokestatic 170, 3) := by decide +kernel
theorem dX15_octet_15 : decode cX15_octet 15 = .ok (.ifCond .ne 6, 3) := by decide +kernel
theorem dX15_octet_18 : decode cX15_octet 18 = .ok (.bipush (-2), 2) := by decide +kernel
theorem dX15_octet_20 : decode cX15_octet 20 = .ok (.ireturn, 1) := by decide +kernel
theorem dX15_octet_21 : decode cX15_octet 21 = .ok (.iload_n 1, 1) := by decide +kernel
theorem dX15_octet_22 : decode cX15_octet 22 = .ok (.ifCond .ge 10, 3) := by decide +kernel
theorem dX15_octet_25 : decode cX15_octet 25 = .ok (.aload_n 0, 1) := by decide +kernel
theorem dX15_octet_26 : decode cX15_octet 26 = .ok (.getfield 385, 3) := by decide +kernel
theorem dX15_octet_29 : decode cX15_octet 29 = .ok (.goto 13, 3) := by decide +kernel
theorem dX15_octet_32 : decode cX15_octet 32 = .ok (.aload_n 0, 1) := by decide +kernel
theorem dX15_octet_33 : decode cX15_octet 33 = .ok (.getfield 35, 3) := by decide +kernel
theorem dX15_octet_36 : decode cX15_octet 36 = .ok (.iload_n 1, 1) := by decide +kernel
theorem dX15_octet_37 : decode cX15_octet 37 = .ok (.baload, 1) := by decide +kernel
theorem dX15_octet_38 : decode cX15_octet 38 = .ok (.sipush 255, 3) := by decide +kernel
theorem dX15_octet_41 : decode cX15_octet 41 = .ok (.iand, 1) := by decide +kernel
theorem dX15_octet_42 : decode cX15_octet 42 = .ok (.ireturn, 1) := by decide +kernel
theorem dX15_sender_0 : decode cX15_sender 0 = .ok (.aload_n 0, 1) := by decide +kernel
theorem dX15_sender_1 : decode cX15_sender 1 = .ok (.invokevirtual 174, 3) := by decide +kernel
theorem dX15_sender_4 : decode cX15_sender 4 = .ok (.istore_n 2, 1) := by decide +kernel
theorem dX15_sender_5 : decode cX15_sender 5 = .ok (.iconst 0, 1) := by decide +kernel
theorem dX15_sender_6 : decode cX15_sender 6 = .ok (.istore_n 3, 1) := by decide +kernel
theorem dX15_sender_7 : decode cX15_sender 7 = .ok (.iload_n 3, 1) := by decide +kernel
theorem dX15_sender_8 : decode cX15_sender 8 = .ok (.iload_n 2, 1) := by decide +kernel
theorem dX15_sender_9 : decode cX15_sender 9 = .ok (.if_icmp .ge 20, 3) := by decide +kernel
theorem dX15_sender_12 : decode cX15_sender 12 = .ok (.aload_n 0, 1) := by decide +kernel
theorem dX15_sender_13 : decode cX15_sender 13 = .ok (.getfield 31, 3) := by decide +kernel
theorem dX15_sender_16 : decode cX15_sender 16 = .ok (.iload_n 3, 1) := by decide +kernel
theorem dX15_sender_17 : decode cX15_sender 17 = .ok (.baload, 1) := by decide +kernel
theorem dX15_sender_18 : decode cX15_sender 18 = .ok (.bipush 64, 2) := by decide +kernel
theorem dX15_sender_20 : decode cX15_sender 20 = .ok (.if_icmp .eq 9, 3) := by decide +kernel
theorem dX15_sender_23 : decode cX15_sender 23 = .ok (.iinc 3 1, 3) := by decide +kernel
theorem dX15_sender_26 : decode cX15_sender 26 = .ok (.goto (-19), 3) := by decide +kernel
theorem dX15_sender_29 : decode cX15_sender 29 = .ok (.iload_n 3, 1) := by decide +kernel
theorem dX15_sender_30 : decode cX15_sender 30 = .ok (.iload_n 2, 1) := by decide +kernel
theorem dX15_sender_31 : decode cX15_sender 31 = .ok (.if_icmp .eq 29, 3) := by decide +kernel
theorem dX15_sender_34 : decode cX15_sender 34 = .ok (.iload_n 3, 1) := by decide +kernel
theorem dX15_sender_35 : decode cX15_sender 35 = .ok (.i2l, 1) := by decide +kernel
theorem dX15_sender_36 : decode cX15_sender 36 = .ok (.lconst 1, 1) := by decide +kernel
theorem dX15_sender_37 : decode cX15_sender 37 = .ok (.ldc2_w 200, 3) := by decide +kernel
theorem dX15_sender_40 : decode cX15_sender 40 = .ok (.invokestatic 170, 3) := by decide +kernel
theorem dX15_sender_43 : decode cX15_sender 43 = .ok (.ifCond .eq 17, 3) := by decide +kernel
theorem dX15_sender_46 : decode cX15_sender 46 = .ok (.aload_n 0, 1) := by decide +kernel
theorem dX15_sender_47 : decode cX15_sender 47 = .ok (.getfield 31, 3) := by decide +kernel
theorem dX15_sender_50 : decode cX15_sender 50 = .ok (.iload_n 3, 1) := by decide +kernel
theorem dX15_sender_51 : decode cX15_sender 51 = .ok (.iconst 1, 1) := by decide +kernel
theorem dX15_sender_52 : decode cX15_sender 52 = .ok (.iadd, 1) := by decide +kernel
theorem dX15_sender_53 : decode cX15_sender 53 = .ok (.iload_n 2, 1) := by decide +kernel
theorem dX15_sender_54 : decode cX15_sender 54 = .ok (.invokestatic 182, 3) := by decide +kernel
theorem dX15_sender_57 : decode cX15_sender 57 = .ok (.ifCond .ne 5, 3) := by decide +kernel
theorem dX15_sender_60 : decode cX15_sender 60 = .ok (.iconst (-1), 1) := by decide +kernel
theorem dX15_sender_61 : decode cX15_sender 61 = .ok (.ireturn, 1) := by decide +kernel
theorem dX15_sender_62 : decode cX15_sender 62 = .ok (.iconst 0, 1) := by decide +kernel
theorem dX15_sender_63 : decode cX15_sender 63 = .ok (.istore 4, 2) := by decide +kernel
theorem dX15_sender_65 : decode cX15_sender 65 = .ok (.iload 4, 2) := by decide +kernel
theorem dX15_sender_67 : decode cX15_sender 67 = .ok (.iload_n 3, 1) := by decide +kernel
theorem dX15_sender_68 : decode cX15_sender 68 = .ok (.if_icmp .ge 64, 3) := by decide +kernel
theorem dX15_sender_71 : decode cX15_sender 71 = .ok (.aload_n 0, 1) := by decide +kernel
theorem dX15_sender_72 : decode cX15_sender 72 = .ok (.getfield 31, 3) := by decide +kernel
theorem dX15_sender_75 : decode cX15_sender 75 = .ok (.iload 4, 2) := by decide +kernel
theorem dX15_sender_77 : decode cX15_sender 77 = .ok (.baload, 1) := by decide +kernel
theorem dX15_sender_78 : decode cX15_sender 78 = .ok (.istore 5, 2) := by decide +kernel
theorem dX15_sender_80 : decode cX15_sender 80 = .ok (.iload 5, 2) := by decide +kernel
theorem dX15_sender_82 : decode cX15_sender 82 = .ok (.invokestatic 3, 3) := by decide +kernel
theorem dX15_sender_85 : decode cX15_sender 85 = .ok (.ifCond .ne 41, 3) := by decide +kernel
theorem dX15_sender_88 : decode cX15_sender 88 = .ok (.iload 5, 2) := by decide +kernel
theorem dX15_sender_90 : decode cX15_sender 90 = .ok (.invokestatic 202, 3) := by decide +kernel
theorem dX15_sender_93 : decode cX15_sender 93 = .ok (.ifCond .ne 33, 3) := by decide +kernel
theorem dX15_sender_96 : decode cX15_sender 96 = .ok (.iload 5, 2) := by decide +kernel
theorem dX15_sender_98 : decode cX15_sender 98 = .ok (.bipush 46, 2) := by decide +kernel
theorem dX15_sender_100 : decode cX15_sender 100 = .ok (.if_icmp .eq 26, 3) := by decide +kernel
theorem dX15_sender_103 : decode cX15_sender 103 = .ok (.iload 5, 2) := by decide +kernel
theorem dX15_sender_105 : decode cX15_sender 105 = .ok (.bipush 45, 2) := by decide +kernel
theorem dX15_sender_107 : decode cX15_sender 107 = .ok (.if_icmp .eq 19, 3) := by decide +kernel
theorem dX15_sender_110 : decode cX15_sender 110 = .ok (.iload 5, 2) := by decide +kernel
theorem dX15_sender_112 : decode cX15_sender 112 = .ok (.bipush 95, 2) := by decide +kernel
theorem dX15_sender_114 : decode cX15_sender 114 = .ok (.if_icmp .eq 12, 3) := by decide +kernel
theorem dX15_sender_117 : decode cX15_sender 117 = .ok (.iload 5, 2) := by decide +kernel
theorem dX15_sender_119 : decode cX15_sender 119 = .ok (.bipush 43, 2) := by decide +kernel
theorem dX15_sender_121 : decode cX15_sender 121 = .ok (.if_icmp .eq 5, 3) := by decide +kernel
theorem dX15_sender_124 : decode cX15_sender 124 = .ok (.iconst (-1), 1) := by decide +kernel
theorem dX15_sender_125 : decode cX15_sender 125 = .ok (.ireturn, 1) := by decide +kernel
theorem dX15_sender_126 : decode cX15_sender 126 = .ok (.iinc 4 1, 3) := by decide +kernel
theorem dX15_sender_129 : decode cX15_sender 129 = .ok (.goto (-64), 3) := by decide +kernel
theorem dX15_sender_132 : decode cX15_sender 132 = .ok (.aload_n 0, 1) := by decide +kernel
theorem dX15_sender_133 : decode cX15_sender 133 = .ok (.getfield 57, 3) := by decide +kernel
theorem dX15_sender_136 : decode cX15_sender 136 = .ok (.aload_n 0, 1) := by decide +kernel
theorem dX15_sender_137 : decode cX15_sender 137 = .ok (.getfield 31, 3) := by decide +kernel
theorem dX15_sender_140 : decode cX15_sender 140 = .ok (.iconst 0, 1) := by decide +kernel
theorem dX15_sender_141 : decode cX15_sender 141 = .ok (.iload_n 3, 1) := by decide +kernel
theorem dX15_sender_142 : decode cX15_sender 142 = .ok (.invokevirtual 186, 3) := by decide +kernel
theorem dX15_sender_145 : decode cX15_sender 145 = .ok (.aload_n 0, 1) := by decide +kernel
theorem dX15_sender_146 : decode cX15_sender 146 = .ok (.getfield 61, 3) := by decide +kernel
theorem dX15_sender_149 : decode cX15_sender 149 = .ok (.aload_n 0, 1) := by decide +kernel
theorem dX15_sender_150 : decode cX15_sender 150 = .ok (.getfield 31, 3) := by decide +kernel
theorem dX15_sender_153 : decode cX15_sender 153 = .ok (.iload_n 3, 1) := by decide +kernel
theorem dX15_sender_154 : decode cX15_sender 154 = .ok (.iconst 1, 1) := by decide +kernel
theorem dX15_sender_155 : decode cX15_sender 155 = .ok (.iadd, 1) := by decide +kernel
theorem dX15_sender_156 : decode cX15_sender 156 = .ok (.iload_n 2, 1) := by decide +kernel
theorem dX15_sender_157 : decode cX15_sender 157 = .ok (.invokevirtual 186, 3) := by decide +kernel
theorem dX15_sender_160 : decode cX15_sender 160 = .ok (.aload_n 0, 1) := by decide +kernel
theorem dX15_sender_161 : decode cX15_sender 161 = .ok (.iload_n 1, 1) := by decide +kernel
theorem dX15_sender_162 : decode cX15_sender 162 = .ok (.putfield 205, 3) := by decide +kernel
theorem dX15_sender_165 : decode cX15_sender 165 = .ok (.aload_n 0, 1) := by decide +kernel
theorem dX15_sender_166 : decode cX15_sender 166 = .ok (.iconst 1, 1) := by decide +kernel
theorem dX15_sender_167 : decode cX15_sender 167 = .ok (.putfield 208, 3) := by decide +kernel
theorem dX15_sender_170 : decode cX15_sender 170 = .ok (.iconst 0, 1) := by decide +kernel
theorem dX15_sender_171 : decode cX15_sender 171 = .ok (.ireturn, 1) := by decide +kernel
theorem dX15_used_0 : decode cX15_used 0 = .ok (.aload_n 0, 1) := by decide +kernel
theorem dX15_used_1 : decode cX15_used 1 = .ok (.getfield 166, 3) := by decide +kernel
theorem dX15_used_4 : decode cX15_used 4 = .ok (.istore_n 1, 1) := by decide +kernel
theorem dX15_used_5 : decode cX15_used 5 = .ok (.aload_n 0, 1) := by decide +kernel
theorem dX15_used_6 : decode cX15_used 6 = .ok (.iconst 0, 1) := by decide +kernel
theorem dX15_used_7 : decode cX15_used 7 = .ok (.putfield 166, 3) := by decide +kernel
theorem dX15_used_10 : decode cX15_used 10 = .ok (.iload_n 1, 1) := by decide +kernel
theorem dX15_used_11 : decode cX15_used 11 = .ok (.ireturn, 1) := by decide +kernel
theorem kt_1070 : Cond.fieldLink RX15 166 "PostGateModel" "tapeMany" "I" ∈ tb := tb_at (i := 1290) (by decide +kernel) (by decide +kernel)
theorem kt_1071 : Cond.code yX15_used cX15_used 2 (some .int) ∈ tb := tb_at (i := 1485) (by decide +kernel) (by decide +kernel)
theorem kt_1072 : Cond.methodLink RX15 174 yX15_used ∈ tb := tb_at (i := 1482) (by decide +kernel) (by decide +kernel)
theorem kt_1073 : Cond.instanceMethod yX15_used ∈ tb := tb_at (i := 1484) (by decide +kernel) (by decide +kernel)
theorem kt_1074 : Cond.selects RX15 yX15_used yX15_used ∈ tb := tb_at (i := 42) (by decide +kernel) (by decide +kernel)
theorem kt_1075 : Cond.fieldLink RX15 31 "PostGateModel" "tape" "[B" ∈ tb := tb_at (i := 1289) (by decide +kernel) (by decide +kernel)
theorem kt_1076 : Cond.constantLong RX15 603 (-1) ∈ tb := tb_at (i := 1898) (by decide +kernel) (by decide +kernel)
theorem kt_1077 : Cond.constantLong RX15 200 30 ∈ tb := tb_at (i := 1515) (by decide +kernel) (by decide +kernel)
theorem kt_1078 : Cond.constantLong RX15 180 4 ∈ tb := tb_at (i := 1486) (by decide +kernel) (by decide +kernel)
theorem rtf_id {ty : TyM} {h : Nat} {e : TyE} (hT : ty h = e) : rtf ty h e = ty := by
  funext a
  by_cases c : a = h
  · subst c
    rw [rtf_self, hT]
  · exact rtf_ne c
theorem in_0z {x : Int32} {zt : Nat} {r : Int32} (hr : r = (if (0 : Int64) ≤ x.toInt64 ∧ x.toInt64 ≤ (nI zt).toInt64 then 1 else 0)) (hz : zt ≤ 10000) : (r = 0 ∧ ¬ (¬ x < 0 ∧ ¬ nI zt < x)) ∨ (r = 1 ∧ (¬ x < 0 ∧ ¬ nI zt < x)) := by
  have e1 : ((0 : Int64) ≤ x.toInt64 ∧ x.toInt64 ≤ (nI zt).toInt64) ↔ (¬ x < 0 ∧ ¬ nI zt < x) := by
    rw [show (0 : Int64) = (0 : Int32).toInt64 from by decide, l64, l64, Int32.not_lt, Int32.not_lt]
  by_cases c : (¬ x < 0 ∧ ¬ nI zt < x)
  · rw [if_pos (e1.mpr c)] at hr
    exact Or.inr ⟨hr, c⟩
  · rw [if_neg (fun h => c (e1.mp h))] at hr
    exact Or.inl ⟨hr, c⟩
set_option maxHeartbeats 4000000 in
set_option maxRecDepth 100000 in
theorem s_X15_used (l : Launch) (dC : Nat → ClassId) (dI : Nat → Nat → Nat) (cs : Nat → ClassId) (ty : TyM) (gm : Nat → Nat → Nat) (L : List Nat) (sz : Nat) (F : Nat → va_E) (h0 : Nat) (ρ : Nat) (ta : Nat) (ou : Nat) (so : Nat) (ad : Nat) (na : Nat) (va : Nat) (lc : Nat) (dm : Nat) (tg : Nat) (pe : Nat) (ml : Nat) (bg : Nat) (co : Nat) (sp : Nat) (nb0 : Nat) (nb1 : Nat) (nb2 : Nat) (pl : Nat) (se : Nat) (ke : Nat) (wi : Nat) (hs : Nat) (mo : Nat) (po : Nat) (nu : Nat) (pr : Nat) (sq : Nat) (xa : Nat) (sa : Nat) (n64 : Nat) (m64 : Nat) (ex : Nat) (wh : Nat) (sd : Nat) (tk : Nat) (hd : Nat) (ak : Nat) (ho : Nat) (ot : Nat) (sx : Nat) (s0 : Nat) (s1 : Nat) (s2 : Nat) (nf : Nat) (bd : Nat) (mm : Nat) (ze : Nat) (zt : Nat) (zo : Nat) (v11 : Int32) (v12 : Int32) (v14 : Int32) (v15 : Int32) (v17 : Int32) (v18 : Int32) (v19 : Int32) (v20 : Int32) (v21 : Int32) (v22 : Int32) (v33 : Int32) (v52 : Int32) (v53 : Int32) (v54 : Int32) (hW : WTm ty gm L) (hL_h0 : h0 ∈ L) (hT_h0 : ty h0 = (15, ρ, [ta, ou, so, ad, na, va, lc, dm, tg, pe, ml, bg, co, sp, nb0, nb1, nb2, pl, se, ke, wi, hs, mo, po, nu, pr, sq, xa, sa, n64, m64, ex, wh, sd, tk, hd, ak, ho, ot, sx, s0, s1, s2, nf, bd, mm, ze, zt])) (hF0 : F h0 = .inr (15, (.ref ta) :: (.int (nI zt)) :: (.int (nI zo)) :: (.int (nI ze)) :: (.ref ou) :: (.ref so) :: (.ref ad) :: (.ref na) :: (.ref va) :: (.ref lc) :: (.ref dm) :: (.int v11) :: (.int v12) :: (.ref tg) :: (.int v14) :: (.int v15) :: (.ref pe) :: (.int v17) :: (.int v18) :: (.int v19) :: (.int v20) :: (.int v21) :: (.int v22) :: (.ref ml) :: (.ref bg) :: (.ref co) :: (.ref sp) :: (.ref nb0) :: (.ref nb1) :: (.ref nb2) :: (.int (nI nf)) :: (.int (nI bd)) :: (.int (nI mm)) :: (.int v33) :: (.ref pl) :: (.ref se) :: (.ref ke) :: (.ref wi) :: (.ref hs) :: (.ref mo) :: (.ref po) :: (.ref nu) :: (.ref pr) :: (.ref sq) :: (.ref xa) :: (.ref sa) :: (.ref n64) :: (.ref m64) :: (.ref ex) :: (.ref wh) :: (.ref sd) :: (.ref tk) :: (.int v52) :: (.int v53) :: (.int v54) :: (.ref hd) :: (.ref ak) :: (.ref ho) :: (.ref ot) :: [])) (hzo : zo ≤ 6000) (hze : ze ≤ 40) (h33 : (v33 = 0 ∨ 1 ≤ nf)) (h54 : (v54 = 0 ∨ v54 = 1)) : Met l yX15_used (.code yX15_used cX15_used 2 (some .int) :: tb) ({ frames := 0, cells := 0, slots := 0, locals := 0 }) (va_Pc [.ref h0] (PTm (dC, dI) cs ty gm L F sz)) (va_Qi (fun (r : Int32) (_ : Unit) => r = nI zt) (fun _ T9 => ∃ F2 : Nat → va_E, ∃ ty2 : TyM, ty2 = rtf ty h0 (15, ρ, [ta, ou, so, ad, na, va, lc, dm, tg, pe, ml, bg, co, sp, nb0, nb1, nb2, pl, se, ke, wi, hs, mo, po, nu, pr, sq, xa, sa, n64, m64, ex, wh, sd, tk, hd, ak, ho, ot, sx, s0, s1, s2, nf, bd, mm, ze, 0]) ∧ QTm (dC, dI) cs ty2 gm L [ρ] F F2 (va_A (va_pl L F) sz) T9 ∧ WTm ty2 gm L ∧ F2 h0 = .inr (15, (.ref ta) :: (.int 0) :: (.int (nI zo)) :: (.int (nI ze)) :: (.ref ou) :: (.ref so) :: (.ref ad) :: (.ref na) :: (.ref va) :: (.ref lc) :: (.ref dm) :: (.int v11) :: (.int v12) :: (.ref tg) :: (.int v14) :: (.int v15) :: (.ref pe) :: (.int v17) :: (.int v18) :: (.int v19) :: (.int v20) :: (.int v21) :: (.int v22) :: (.ref ml) :: (.ref bg) :: (.ref co) :: (.ref sp) :: (.ref nb0) :: (.ref nb1) :: (.ref nb2) :: (.int (nI nf)) :: (.int (nI bd)) :: (.int (nI mm)) :: (.int v33) :: (.ref pl) :: (.ref se) :: (.ref ke) :: (.ref wi) :: (.ref hs) :: (.ref mo) :: (.ref po) :: (.ref nu) :: (.ref pr) :: (.ref sq) :: (.ref xa) :: (.ref sa) :: (.ref n64) :: (.ref m64) :: (.ref ex) :: (.ref wh) :: (.ref sd) :: (.ref tk) :: (.int v52) :: (.int v53) :: (.int v54) :: (.ref hd) :: (.ref ak) :: (.ref ho) :: (.ref ot) :: [])) (va_A (va_pl L F) sz)) 0 0 (va_A (va_pl L F) sz) := by
  refine Met.ofW (cc := cX15_used) (maxL := 2) (ret := (some .int)) (by decide) rfl ?_
  intro p e s m args below meth c s₁ B hml hv
  obtain ⟨rfl, hsz, hP, hK, hD0, hE, hO⟩ := hv
  have hx := B.exec
  have hb := B.bytes
  have hr := B.returns
  have hts : ∀ w ∈ tb, w.before _ s = true := fun w h => atoms_spec (ws := .code yX15_used cX15_used 2 (some .int) :: tb) B.pre w (List.mem_cons_of_mem _ h)
  have hown : s.vm.findClass RX15 = some m.cls := findClass_of_methodNamed B.named
  have hlocks := B.notSynchronized
  subst hsz
  have hD := hD0.self (sz := s.heap.size)
  generalize hAe : va_A (va_pl L F) s.heap.size = A at hD ⊢
  have hA : ∀ q : Nat, s.heap.size ≤ q → A q := fun q h => by rw [← hAe]; exact Or.inr h
  have hS : va_S A s.heap s.heap [] := va_S.rf
  have hR : FR ty [ρ] F F := FR.refl
  have hl := lv_entry ([.ref h0]) (n := 2) (Nat.le_of_ble_eq_true rfl)
  rw [lg_entry_eq]
  generalize (lg_sl ([.ref h0]) ++ List.replicate (2 - (lg_sl ([.ref h0])).length) Slot.unset).toArray = ls at hl ⊢
  have hl : lv_has ls 2 [(0, .ref h0)] := hl
  obtain ⟨hq_23, hq_24, hq_25, hq_26, hq_27, hgO, hgA, hgB⟩ := hW.sc hL_h0 hT_h0
  refine lv_aload_n hx hb dX15_used_0 rfl (lv_at hl 0 rfl) ?_
  refine pg_get (ci := 15) (v := .int (nI zt)) (C := RX15) (T := TX15) (N := 59) hx hb hts it_15 hown hK hP hL_h0 hF0 rfl 1 (by decide) (hts _ kt_1070) (fun _ h9 => h9) rfl dX15_used_1 ?_
  refine lv_istore_n (lv' := [(1, .int (nI zt)), (0, .ref h0)]) hx hb dX15_used_4 rfl hl (by decide) rfl (fun ls hl => ?_)
  refine lv_aload_n hx hb dX15_used_5 rfl (lv_at hl 1 rfl) ?_
  refine lv_iconst (v := 0) hx hb dX15_used_6 (by decide) ?_
  refine pg_put (ci := 15) (v := .int 0) (ty := .int) (C := RX15) (T := TX15) (N := 59) hx hb hts it_15 tyX15 tyX15_ok nmX15 hown hK hP hD hS hL_h0 hF0 rfl 1 (by decide) (hts _ kt_1070) (fun _ h9 => h9) rfl (by decide +kernel) (rfl) (rfl) (Nat.le_of_ble_eq_true rfl) dX15_used_7 (fun H locs hP hD hS => ?_)
  obtain ⟨F_28, he_29, hP, hD, hR⟩ : ∃ G, G = va_up F h0 (.inr (15, (.ref ta) :: (.int 0) :: (.int (nI zo)) :: (.int (nI ze)) :: (.ref ou) :: (.ref so) :: (.ref ad) :: (.ref na) :: (.ref va) :: (.ref lc) :: (.ref dm) :: (.int v11) :: (.int v12) :: (.ref tg) :: (.int v14) :: (.int v15) :: (.ref pe) :: (.int v17) :: (.int v18) :: (.int v19) :: (.int v20) :: (.int v21) :: (.int v22) :: (.ref ml) :: (.ref bg) :: (.ref co) :: (.ref sp) :: (.ref nb0) :: (.ref nb1) :: (.ref nb2) :: (.int (nI nf)) :: (.int (nI bd)) :: (.int (nI mm)) :: (.int v33) :: (.ref pl) :: (.ref se) :: (.ref ke) :: (.ref wi) :: (.ref hs) :: (.ref mo) :: (.ref po) :: (.ref nu) :: (.ref pr) :: (.ref sq) :: (.ref xa) :: (.ref sa) :: (.ref n64) :: (.ref m64) :: (.ref ex) :: (.ref wh) :: (.ref sd) :: (.ref tk) :: (.int v52) :: (.int v53) :: (.int v54) :: (.ref hd) :: (.ref ak) :: (.ref ho) :: (.ref ot) :: [])) ∧ va_P (dC, dI) vwCl (va_pl L G) H ∧ va_D A (va_pl L G) ∧ FR ty [ρ] F G := ⟨_, rfl, hP, hD, hR.up hT_h0 (by simp)⟩
  obtain ⟨ty, hty, hT_h0, hW, hO, hR⟩ : ∃ t9 : TyM, t9 = rtf ty h0 (15, ρ, [ta, ou, so, ad, na, va, lc, dm, tg, pe, ml, bg, co, sp, nb0, nb1, nb2, pl, se, ke, wi, hs, mo, po, nu, pr, sq, xa, sa, n64, m64, ex, wh, sd, tk, hd, ak, ho, ot, sx, s0, s1, s2, nf, bd, mm, ze, 0]) ∧ t9 h0 = (15, ρ, [ta, ou, so, ad, na, va, lc, dm, tg, pe, ml, bg, co, sp, nb0, nb1, nb2, pl, se, ke, wi, hs, mo, po, nu, pr, sq, xa, sa, n64, m64, ex, wh, sd, tk, hd, ak, ho, ot, sx, s0, s1, s2, nf, bd, mm, ze, 0]) ∧ WTm t9 gm L ∧ OKm cs t9 gm L F_28 ∧ FR t9 [ρ] F F_28 := ⟨_, rfl, rtf_self, hW.zt hL_h0 hT_h0 (by omega), (by rw [he_29]; exact OKm.retype hO hT_h0 (shm.mod rtf_self ⟨zo, v11, v12, v14, v15, v17, v18, v19, v20, v21, v22, v33, v52, v53, v54, rfl, (by first | omega | assumption | exact Or.inl rfl | exact Or.inr rfl), (by first | omega | assumption | exact Or.inl rfl | exact Or.inr rfl), (by first | omega | assumption | exact Or.inl rfl | exact Or.inr rfl), (by first | omega | assumption | exact Or.inl rfl | exact Or.inr rfl), (by first | omega | assumption | exact Or.inl rfl | exact Or.inr rfl)⟩)), FR.retype hT_h0 hR⟩
  have hF_30 : F_28 h0 = .inr (15, (.ref ta) :: (.int 0) :: (.int (nI zo)) :: (.int (nI ze)) :: (.ref ou) :: (.ref so) :: (.ref ad) :: (.ref na) :: (.ref va) :: (.ref lc) :: (.ref dm) :: (.int v11) :: (.int v12) :: (.ref tg) :: (.int v14) :: (.int v15) :: (.ref pe) :: (.int v17) :: (.int v18) :: (.int v19) :: (.int v20) :: (.int v21) :: (.int v22) :: (.ref ml) :: (.ref bg) :: (.ref co) :: (.ref sp) :: (.ref nb0) :: (.ref nb1) :: (.ref nb2) :: (.int (nI nf)) :: (.int (nI bd)) :: (.int (nI mm)) :: (.int v33) :: (.ref pl) :: (.ref se) :: (.ref ke) :: (.ref wi) :: (.ref hs) :: (.ref mo) :: (.ref po) :: (.ref nu) :: (.ref pr) :: (.ref sq) :: (.ref xa) :: (.ref sa) :: (.ref n64) :: (.ref m64) :: (.ref ex) :: (.ref wh) :: (.ref sd) :: (.ref tk) :: (.int v52) :: (.int v53) :: (.int v54) :: (.ref hd) :: (.ref ak) :: (.ref ho) :: (.ref ot) :: []) := by rw [he_29]; exact up_self
  obtain ⟨hq_53, hq_54, hq_55, hq_56, hq_57, hgO, hgA, hgB⟩ := hW.sc hL_h0 hT_h0
  refine lv_iload_n hx hb dX15_used_10 rfl (lv_at hl 0 rfl) ?_
  refine W.widen (k := 0) (n := 0) (by omega) (by omega) ?_
  exact W.iret (v := (nI zt)) hx hb hr (fun t ht hWm => ⟨⟨(nI zt), (), rfl, rfl, ⟨F_28, ty, hty, QTm.mk ht hP hD hO hR, hW, hF_30⟩⟩, hS.F ht⟩) hS.2.2 dX15_used_11
set_option maxHeartbeats 4000000 in
set_option maxRecDepth 100000 in
theorem s_X15_end (l : Launch) (dC : Nat → ClassId) (dI : Nat → Nat → Nat) (cs : Nat → ClassId) (ty : TyM) (gm : Nat → Nat → Nat) (L : List Nat) (sz : Nat) (F : Nat → va_E) (h0 : Nat) (ρ : Nat) (ta : Nat) (ou : Nat) (so : Nat) (ad : Nat) (na : Nat) (va : Nat) (lc : Nat) (dm : Nat) (tg : Nat) (pe : Nat) (ml : Nat) (bg : Nat) (co : Nat) (sp : Nat) (nb0 : Nat) (nb1 : Nat) (nb2 : Nat) (pl : Nat) (se : Nat) (ke : Nat) (wi : Nat) (hs : Nat) (mo : Nat) (po : Nat) (nu : Nat) (pr : Nat) (sq : Nat) (xa : Nat) (sa : Nat) (n64 : Nat) (m64 : Nat) (ex : Nat) (wh : Nat) (sd : Nat) (tk : Nat) (hd : Nat) (ak : Nat) (ho : Nat) (ot : Nat) (sx : Nat) (s0 : Nat) (s1 : Nat) (s2 : Nat) (nf : Nat) (bd : Nat) (mm : Nat) (ze : Nat) (zt : Nat) (x1 : Int32) (hW : WTm ty gm L) (hL_h0 : h0 ∈ L) (hT_h0 : ty h0 = (15, ρ, [ta, ou, so, ad, na, va, lc, dm, tg, pe, ml, bg, co, sp, nb0, nb1, nb2, pl, se, ke, wi, hs, mo, po, nu, pr, sq, xa, sa, n64, m64, ex, wh, sd, tk, hd, ak, ho, ot, sx, s0, s1, s2, nf, bd, mm, ze, zt])) : Met l yX15_end (.code yX15_end cX15_end 2 (some .int) :: tb) ({ frames := 1, cells := 0, slots := 0, locals := 25 }) (va_Pc [.ref h0, .int x1] (PTm (dC, dI) cs ty gm L F sz)) (va_Qi (fun (r : Int32) (_ : Unit) => r = (if ¬ x1 < 0 ∧ ¬ nI zt < x1 then x1 else (-1))) (fun _ T9 => ∃ F2 : Nat → va_E, ∃ ty2 : TyM, ty2 = rtf ty h0 (15, ρ, [ta, ou, so, ad, na, va, lc, dm, tg, pe, ml, bg, co, sp, nb0, nb1, nb2, pl, se, ke, wi, hs, mo, po, nu, pr, sq, xa, sa, n64, m64, ex, wh, sd, tk, hd, ak, ho, ot, sx, s0, s1, s2, nf, bd, mm, ze, (if ¬ x1 < 0 ∧ ¬ nI zt < x1 then x1.toNatClampNeg else zt)]) ∧ QTm (dC, dI) cs ty2 gm L [ρ] F F2 (va_A (va_pl L F) sz) T9 ∧ WTm ty2 gm L) (va_A (va_pl L F) sz)) 0 0 (va_A (va_pl L F) sz) := by
  refine Met.ofW (cc := cX15_end) (maxL := 2) (ret := (some .int)) (by decide) rfl ?_
  intro p e s m args below meth c s₁ B hml hv
  obtain ⟨rfl, hsz, hP, hK, hD0, hE, hO⟩ := hv
  have hx := B.exec
  have hb := B.bytes
  have hr := B.returns
  have hts : ∀ w ∈ tb, w.before _ s = true := fun w h => atoms_spec (ws := .code yX15_end cX15_end 2 (some .int) :: tb) B.pre w (List.mem_cons_of_mem _ h)
  have hown : s.vm.findClass RX15 = some m.cls := findClass_of_methodNamed B.named
  have hlocks := B.notSynchronized
  subst hsz
  have hD := hD0.self (sz := s.heap.size)
  generalize hAe : va_A (va_pl L F) s.heap.size = A at hD ⊢
  have hA : ∀ q : Nat, s.heap.size ≤ q → A q := fun q h => by rw [← hAe]; exact Or.inr h
  have hS : va_S A s.heap s.heap [] := va_S.rf
  have hR : FR ty [ρ] F F := FR.refl
  have hl := lv_entry ([.ref h0, .int x1]) (n := 2) (Nat.le_of_ble_eq_true rfl)
  rw [lg_entry_eq]
  generalize (lg_sl ([.ref h0, .int x1]) ++ List.replicate (2 - (lg_sl ([.ref h0, .int x1])).length) Slot.unset).toArray = ls at hl ⊢
  have hl : lv_has ls 2 [(0, .ref h0), (1, .int x1)] := hl
  obtain ⟨hq_23, hq_24, hq_25, hq_26, hq_27, hgO, hgA, hgB⟩ := hW.sc hL_h0 hT_h0
  refine lv_iload_n hx hb dX15_end_0 rfl (lv_at hl 1 rfl) ?_
  refine lv_i2l (v := x1.toInt64) hx hb dX15_end_1 rfl ?_
  refine lv_lconst (v := 0) hx hb dX15_end_2 (by decide) ?_
  refine lv_aload_n hx hb dX15_end_3 rfl (lv_at hl 0 rfl) ?_
  obtain ⟨zo_28, v11_29, v12_30, v14_31, v15_32, v17_33, v18_34, v19_35, v20_36, v21_37, v22_38, v33_39, v52_40, v53_41, v54_42, hF_43, hq_44, hq_45, hq_46, hq_47, hq_48⟩ := hO.mod hL_h0 hT_h0
  refine pg_get (ci := 15) (v := .int (nI zt)) (C := RX15) (T := TX15) (N := 59) hx hb hts it_15 hown hK hP hL_h0 hF_43 rfl 1 (by decide) (hts _ kt_1070) (fun _ h9 => h9) rfl dX15_end_4 ?_
  refine lv_i2l (v := (nI zt).toInt64) hx hb dX15_end_7 rfl ?_
  have hFc := pg_free hD hS hA
  refine va_calli (va_runS (As := [.long x1.toInt64, .long 0, .long ((nI zt).toInt64)]) (rest := []) ⟨hx, hb, hml, hown, hts⟩ (s_X15_in l dC dI cs ty gm L s.heap.size F x1.toInt64 0 ((nI zt).toInt64) hW ) ⟨callB_of 3 hts (gi kt_685) rfl rfl rfl (hts _ kt_669) (hts _ kt_705) (by decide +kernel) ⟨Nat.le_of_ble_eq_true rfl, Nat.le_of_ble_eq_true rfl⟩, (hts _ kt_686)⟩ ⟨fun a U g mk q => ⟨q.1, PTm.calling q.2⟩, fun U hU hWm => ⟨rfl, PTm.mk hU hWm hP hK hD hE hO⟩⟩ rfl rfl hl.1 rfl (lv_room (Nat.le_of_ble_eq_true rfl)) dX15_end_8 ⟨by show _ + 0 ≤ 0; omega, by show _ + 0 ≤ 0; omega⟩) hS (fun q _ h => hFc q h) hFc (fun r_49 u t H1 locs ht hvm hw hB hz1 hk1 hS => ?_)
  obtain ⟨F_50, hB1⟩ := hB
  obtain rfl : F = F_50 := (funext (fun a => hB1.2.2.2 a List.not_mem_nil)).symm
  obtain ⟨hP, hD, hO, hR⟩ := QTm.back hB1 ht hFc hR (fun q h => absurd h List.not_mem_nil)
  generalize H1 = H at hP hS ⊢
  have hw : r_49 = (if 0 ≤ x1.toInt64 ∧ x1.toInt64 ≤ (nI zt).toInt64 then 1 else 0) := hw
  have hw_51 := hw
  refine lv_if_ne (tgt := 16) hx hb dX15_end_11 (by decide) (fun c_52 => ?_) (fun c_52 => ?_)
  ·
    have hcE : ¬ x1 < 0 ∧ ¬ nI zt < x1 := (in_0z hw_51 (by omega)).elim (fun h => absurd h.1 c_52) And.right
    obtain ⟨k, hk, rfl⟩ := nI_of hcE.1
    have hkz : k ≤ zt := Nat.not_lt.mp (fun h => hcE.2 ((nI_ltI (by omega) hk).mpr h))
    refine lv_aload_n hx hb dX15_end_16 rfl (lv_at hl 0 rfl) ?_
    refine lv_iload_n hx hb dX15_end_17 rfl (lv_at hl 1 rfl) ?_
    refine pg_put (ci := 15) (v := .int (nI k)) (ty := .int) (C := RX15) (T := TX15) (N := 59) hx hb hts it_15 tyX15 tyX15_ok nmX15 hown hK hP hD hS hL_h0 hF_43 rfl 1 (by decide) (hts _ kt_1070) (fun _ h9 => h9) rfl (by decide +kernel) (rfl) (rfl) (Nat.le_of_ble_eq_true rfl) dX15_end_18 (fun H locs hP hD hS => ?_)
    obtain ⟨F_53, he_54, hP, hD, hR⟩ : ∃ G, G = va_up F h0 (.inr (15, (.ref ta) :: (.int (nI k)) :: (.int (nI zo_28)) :: (.int (nI ze)) :: (.ref ou) :: (.ref so) :: (.ref ad) :: (.ref na) :: (.ref va) :: (.ref lc) :: (.ref dm) :: (.int v11_29) :: (.int v12_30) :: (.ref tg) :: (.int v14_31) :: (.int v15_32) :: (.ref pe) :: (.int v17_33) :: (.int v18_34) :: (.int v19_35) :: (.int v20_36) :: (.int v21_37) :: (.int v22_38) :: (.ref ml) :: (.ref bg) :: (.ref co) :: (.ref sp) :: (.ref nb0) :: (.ref nb1) :: (.ref nb2) :: (.int (nI nf)) :: (.int (nI bd)) :: (.int (nI mm)) :: (.int v33_39) :: (.ref pl) :: (.ref se) :: (.ref ke) :: (.ref wi) :: (.ref hs) :: (.ref mo) :: (.ref po) :: (.ref nu) :: (.ref pr) :: (.ref sq) :: (.ref xa) :: (.ref sa) :: (.ref n64) :: (.ref m64) :: (.ref ex) :: (.ref wh) :: (.ref sd) :: (.ref tk) :: (.int v52_40) :: (.int v53_41) :: (.int v54_42) :: (.ref hd) :: (.ref ak) :: (.ref ho) :: (.ref ot) :: [])) ∧ va_P (dC, dI) vwCl (va_pl L G) H ∧ va_D A (va_pl L G) ∧ FR ty [ρ] F G := ⟨_, rfl, hP, hD, hR.up hT_h0 (by simp)⟩
    obtain ⟨ty, hty, hT_h0, hW, hO, hR⟩ : ∃ t9 : TyM, t9 = rtf ty h0 (15, ρ, [ta, ou, so, ad, na, va, lc, dm, tg, pe, ml, bg, co, sp, nb0, nb1, nb2, pl, se, ke, wi, hs, mo, po, nu, pr, sq, xa, sa, n64, m64, ex, wh, sd, tk, hd, ak, ho, ot, sx, s0, s1, s2, nf, bd, mm, ze, k]) ∧ t9 h0 = (15, ρ, [ta, ou, so, ad, na, va, lc, dm, tg, pe, ml, bg, co, sp, nb0, nb1, nb2, pl, se, ke, wi, hs, mo, po, nu, pr, sq, xa, sa, n64, m64, ex, wh, sd, tk, hd, ak, ho, ot, sx, s0, s1, s2, nf, bd, mm, ze, k]) ∧ WTm t9 gm L ∧ OKm cs t9 gm L F_53 ∧ FR t9 [ρ] F F_53 := ⟨_, rfl, rtf_self, hW.zt hL_h0 hT_h0 (by omega), (by rw [he_54]; exact OKm.retype hO hT_h0 (shm.mod rtf_self ⟨zo_28, v11_29, v12_30, v14_31, v15_32, v17_33, v18_34, v19_35, v20_36, v21_37, v22_38, v33_39, v52_40, v53_41, v54_42, rfl, (by first | omega | assumption | exact Or.inl rfl | exact Or.inr rfl), (by first | omega | assumption | exact Or.inl rfl | exact Or.inr rfl), (by first | omega | assumption | exact Or.inl rfl | exact Or.inr rfl), (by first | omega | assumption | exact Or.inl rfl | exact Or.inr rfl), (by first | omega | assumption | exact Or.inl rfl | exact Or.inr rfl)⟩)), FR.retype hT_h0 hR⟩
    have hF_55 : F_53 h0 = .inr (15, (.ref ta) :: (.int (nI k)) :: (.int (nI zo_28)) :: (.int (nI ze)) :: (.ref ou) :: (.ref so) :: (.ref ad) :: (.ref na) :: (.ref va) :: (.ref lc) :: (.ref dm) :: (.int v11_29) :: (.int v12_30) :: (.ref tg) :: (.int v14_31) :: (.int v15_32) :: (.ref pe) :: (.int v17_33) :: (.int v18_34) :: (.int v19_35) :: (.int v20_36) :: (.int v21_37) :: (.int v22_38) :: (.ref ml) :: (.ref bg) :: (.ref co) :: (.ref sp) :: (.ref nb0) :: (.ref nb1) :: (.ref nb2) :: (.int (nI nf)) :: (.int (nI bd)) :: (.int (nI mm)) :: (.int v33_39) :: (.ref pl) :: (.ref se) :: (.ref ke) :: (.ref wi) :: (.ref hs) :: (.ref mo) :: (.ref po) :: (.ref nu) :: (.ref pr) :: (.ref sq) :: (.ref xa) :: (.ref sa) :: (.ref n64) :: (.ref m64) :: (.ref ex) :: (.ref wh) :: (.ref sd) :: (.ref tk) :: (.int v52_40) :: (.int v53_41) :: (.int v54_42) :: (.ref hd) :: (.ref ak) :: (.ref ho) :: (.ref ot) :: []) := by rw [he_54]; exact up_self
    obtain ⟨hq_78, hq_79, hq_80, hq_81, hq_82, hgO, hgA, hgB⟩ := hW.sc hL_h0 hT_h0
    refine lv_iload_n hx hb dX15_end_21 rfl (lv_at hl 1 rfl) ?_
    refine W.widen (k := 0) (n := 0) (by omega) (by omega) ?_
    exact W.iret (v := (nI k)) hx hb hr (fun t ht hWm => ⟨⟨(nI k), (), rfl, (by rw [if_pos hcE]), ⟨F_53, ty, (by rw [if_pos hcE, nI_clamp hk]; exact hty), QTm.mk ht hP hD hO hR, hW⟩⟩, hS.F ht⟩) hS.2.2 dX15_end_22
  ·
    have hcN : ¬ (¬ x1 < 0 ∧ ¬ nI zt < x1) := (in_0z hw_51 (by omega)).elim And.right (fun h => absurd (h.1.symm.trans c_52) (by decide))
    refine lv_iconst (v := (-1)) hx hb dX15_end_14 (by decide) ?_
    refine W.widen (k := 0) (n := 0) (by omega) (by omega) ?_
    exact W.iret (v := (-1)) hx hb hr (fun t ht hWm => ⟨⟨(-1), (), rfl, (by rw [if_neg hcN]), ⟨F, ty, (by rw [if_neg hcN]; exact (rtf_id hT_h0).symm), QTm.mk ht hP hD hO hR, hW⟩⟩, hS.F ht⟩) hS.2.2 dX15_end_15
set_option maxHeartbeats 4000000 in
set_option maxRecDepth 100000 in
theorem s_X15_forget (l : Launch) (dC : Nat → ClassId) (dI : Nat → Nat → Nat) (cs : Nat → ClassId) (ty : TyM) (gm : Nat → Nat → Nat) (L : List Nat) (sz : Nat) (F : Nat → va_E) (h0 : Nat) (ρ : Nat) (ta : Nat) (ou : Nat) (so : Nat) (ad : Nat) (na : Nat) (va : Nat) (lc : Nat) (dm : Nat) (tg : Nat) (pe : Nat) (ml : Nat) (bg : Nat) (co : Nat) (sp : Nat) (nb0 : Nat) (nb1 : Nat) (nb2 : Nat) (pl : Nat) (se : Nat) (ke : Nat) (wi : Nat) (hs : Nat) (mo : Nat) (po : Nat) (nu : Nat) (pr : Nat) (sq : Nat) (xa : Nat) (sa : Nat) (n64 : Nat) (m64 : Nat) (ex : Nat) (wh : Nat) (sd : Nat) (tk : Nat) (hd : Nat) (ak : Nat) (ho : Nat) (ot : Nat) (sx : Nat) (s0 : Nat) (s1 : Nat) (s2 : Nat) (nf : Nat) (bd : Nat) (mm : Nat) (ze : Nat) (zt : Nat) (hW : WTm ty gm L) (hL_h0 : h0 ∈ L) (hT_h0 : ty h0 = (15, ρ, [ta, ou, so, ad, na, va, lc, dm, tg, pe, ml, bg, co, sp, nb0, nb1, nb2, pl, se, ke, wi, hs, mo, po, nu, pr, sq, xa, sa, n64, m64, ex, wh, sd, tk, hd, ak, ho, ot, sx, s0, s1, s2, nf, bd, mm, ze, zt])) : Met l yX15_forget (.code yX15_forget cX15_forget 2 (some .int) :: tb) ({ frames := 0, cells := 0, slots := 0, locals := 0 }) (va_Pc [.ref h0] (PTm (dC, dI) cs ty gm L F sz)) (va_Qi (fun (r : Int32) (_ : Unit) => r = nI ze) (fun _ T9 => ∃ F2 : Nat → va_E, ∃ ty2 : TyM, ty2 = rtf ty h0 (15, ρ, [ta, ou, so, ad, na, va, lc, dm, tg, pe, ml, bg, co, sp, nb0, nb1, nb2, pl, se, ke, wi, hs, mo, po, nu, pr, sq, xa, sa, n64, m64, ex, wh, sd, tk, hd, ak, ho, ot, sx, s0, s1, s2, nf, bd, mm, 0, zt]) ∧ QTm (dC, dI) cs ty2 gm L [ρ] F F2 (va_A (va_pl L F) sz) T9 ∧ WTm ty2 gm L) (va_A (va_pl L F) sz)) 0 0 (va_A (va_pl L F) sz) := by
  refine Met.ofW (cc := cX15_forget) (maxL := 2) (ret := (some .int)) (by decide) rfl ?_
  intro p e s m args below meth c s₁ B hml hv
  obtain ⟨rfl, hsz, hP, hK, hD0, hE, hO⟩ := hv
  have hx := B.exec
  have hb := B.bytes
  have hr := B.returns
  have hts : ∀ w ∈ tb, w.before _ s = true := fun w h => atoms_spec (ws := .code yX15_forget cX15_forget 2 (some .int) :: tb) B.pre w (List.mem_cons_of_mem _ h)
  have hown : s.vm.findClass RX15 = some m.cls := findClass_of_methodNamed B.named
  have hlocks := B.notSynchronized
  subst hsz
  have hD := hD0.self (sz := s.heap.size)
  generalize hAe : va_A (va_pl L F) s.heap.size = A at hD ⊢
  have hA : ∀ q : Nat, s.heap.size ≤ q → A q := fun q h => by rw [← hAe]; exact Or.inr h
  have hS : va_S A s.heap s.heap [] := va_S.rf
  have hR : FR ty [ρ] F F := FR.refl
  have hl := lv_entry ([.ref h0]) (n := 2) (Nat.le_of_ble_eq_true rfl)
  rw [lg_entry_eq]
  generalize (lg_sl ([.ref h0]) ++ List.replicate (2 - (lg_sl ([.ref h0])).length) Slot.unset).toArray = ls at hl ⊢
  have hl : lv_has ls 2 [(0, .ref h0)] := hl
  obtain ⟨hq_23, hq_24, hq_25, hq_26, hq_27, hgO, hgA, hgB⟩ := hW.sc hL_h0 hT_h0
  refine lv_aload_n hx hb dX15_forget_0 rfl (lv_at hl 0 rfl) ?_
  obtain ⟨zo_28, v11_29, v12_30, v14_31, v15_32, v17_33, v18_34, v19_35, v20_36, v21_37, v22_38, v33_39, v52_40, v53_41, v54_42, hF_43, hq_44, hq_45, hq_46, hq_47, hq_48⟩ := hO.mod hL_h0 hT_h0
  refine pg_get (ci := 15) (v := .int (nI ze)) (C := RX15) (T := TX15) (N := 59) hx hb hts it_15 hown hK hP hL_h0 hF_43 rfl 3 (by decide) (hts _ kt_724) (fun _ h9 => h9) rfl dX15_forget_1 ?_
  refine lv_istore_n (lv' := [(1, .int (nI ze)), (0, .ref h0)]) hx hb dX15_forget_4 rfl hl (by decide) rfl (fun ls hl => ?_)
  refine lv_aload_n hx hb dX15_forget_5 rfl (lv_at hl 1 rfl) ?_
  refine lv_iconst (v := 0) hx hb dX15_forget_6 (by decide) ?_
  refine pg_put (ci := 15) (v := .int 0) (ty := .int) (C := RX15) (T := TX15) (N := 59) hx hb hts it_15 tyX15 tyX15_ok nmX15 hown hK hP hD hS hL_h0 hF_43 rfl 3 (by decide) (hts _ kt_724) (fun _ h9 => h9) rfl (by decide +kernel) (rfl) (rfl) (Nat.le_of_ble_eq_true rfl) dX15_forget_7 (fun H locs hP hD hS => ?_)
  obtain ⟨F_49, he_50, hP, hD, hR⟩ : ∃ G, G = va_up F h0 (.inr (15, (.ref ta) :: (.int (nI zt)) :: (.int (nI zo_28)) :: (.int 0) :: (.ref ou) :: (.ref so) :: (.ref ad) :: (.ref na) :: (.ref va) :: (.ref lc) :: (.ref dm) :: (.int v11_29) :: (.int v12_30) :: (.ref tg) :: (.int v14_31) :: (.int v15_32) :: (.ref pe) :: (.int v17_33) :: (.int v18_34) :: (.int v19_35) :: (.int v20_36) :: (.int v21_37) :: (.int v22_38) :: (.ref ml) :: (.ref bg) :: (.ref co) :: (.ref sp) :: (.ref nb0) :: (.ref nb1) :: (.ref nb2) :: (.int (nI nf)) :: (.int (nI bd)) :: (.int (nI mm)) :: (.int v33_39) :: (.ref pl) :: (.ref se) :: (.ref ke) :: (.ref wi) :: (.ref hs) :: (.ref mo) :: (.ref po) :: (.ref nu) :: (.ref pr) :: (.ref sq) :: (.ref xa) :: (.ref sa) :: (.ref n64) :: (.ref m64) :: (.ref ex) :: (.ref wh) :: (.ref sd) :: (.ref tk) :: (.int v52_40) :: (.int v53_41) :: (.int v54_42) :: (.ref hd) :: (.ref ak) :: (.ref ho) :: (.ref ot) :: [])) ∧ va_P (dC, dI) vwCl (va_pl L G) H ∧ va_D A (va_pl L G) ∧ FR ty [ρ] F G := ⟨_, rfl, hP, hD, hR.up hT_h0 (by simp)⟩
  obtain ⟨ty, hty, hT_h0, hW, hO, hR⟩ : ∃ t9 : TyM, t9 = rtf ty h0 (15, ρ, [ta, ou, so, ad, na, va, lc, dm, tg, pe, ml, bg, co, sp, nb0, nb1, nb2, pl, se, ke, wi, hs, mo, po, nu, pr, sq, xa, sa, n64, m64, ex, wh, sd, tk, hd, ak, ho, ot, sx, s0, s1, s2, nf, bd, mm, 0, zt]) ∧ t9 h0 = (15, ρ, [ta, ou, so, ad, na, va, lc, dm, tg, pe, ml, bg, co, sp, nb0, nb1, nb2, pl, se, ke, wi, hs, mo, po, nu, pr, sq, xa, sa, n64, m64, ex, wh, sd, tk, hd, ak, ho, ot, sx, s0, s1, s2, nf, bd, mm, 0, zt]) ∧ WTm t9 gm L ∧ OKm cs t9 gm L F_49 ∧ FR t9 [ρ] F F_49 := ⟨_, rfl, rtf_self, hW.ze hL_h0 hT_h0, (by rw [he_50]; exact OKm.retype hO hT_h0 (shm.mod rtf_self ⟨zo_28, v11_29, v12_30, v14_31, v15_32, v17_33, v18_34, v19_35, v20_36, v21_37, v22_38, v33_39, v52_40, v53_41, v54_42, rfl, (by first | omega | assumption | exact Or.inl rfl | exact Or.inr rfl), (by first | omega | assumption | exact Or.inl rfl | exact Or.inr rfl), (by first | omega | assumption | exact Or.inl rfl | exact Or.inr rfl), (by first | omega | assumption | exact Or.inl rfl | exact Or.inr rfl), (by first | omega | assumption | exact Or.inl rfl | exact Or.inr rfl)⟩)), FR.retype hT_h0 hR⟩
  have hF_51 : F_49 h0 = .inr (15, (.ref ta) :: (.int (nI zt)) :: (.int (nI zo_28)) :: (.int 0) :: (.ref ou) :: (.ref so) :: (.ref ad) :: (.ref na) :: (.ref va) :: (.ref lc) :: (.ref dm) :: (.int v11_29) :: (.int v12_30) :: (.ref tg) :: (.int v14_31) :: (.int v15_32) :: (.ref pe) :: (.int v17_33) :: (.int v18_34) :: (.int v19_35) :: (.int v20_36) :: (.int v21_37) :: (.int v22_38) :: (.ref ml) :: (.ref bg) :: (.ref co) :: (.ref sp) :: (.ref nb0) :: (.ref nb1) :: (.ref nb2) :: (.int (nI nf)) :: (.int (nI bd)) :: (.int (nI mm)) :: (.int v33_39) :: (.ref pl) :: (.ref se) :: (.ref ke) :: (.ref wi) :: (.ref hs) :: (.ref mo) :: (.ref po) :: (.ref nu) :: (.ref pr) :: (.ref sq) :: (.ref xa) :: (.ref sa) :: (.ref n64) :: (.ref m64) :: (.ref ex) :: (.ref wh) :: (.ref sd) :: (.ref tk) :: (.int v52_40) :: (.int v53_41) :: (.int v54_42) :: (.ref hd) :: (.ref ak) :: (.ref ho) :: (.ref ot) :: []) := by rw [he_50]; exact up_self
  obtain ⟨hq_74, hq_75, hq_76, hq_77, hq_78, hgO, hgA, hgB⟩ := hW.sc hL_h0 hT_h0
  refine lv_iload_n hx hb dX15_forget_10 rfl (lv_at hl 0 rfl) ?_
  refine W.widen (k := 0) (n := 0) (by omega) (by omega) ?_
  exact W.iret (v := (nI ze)) hx hb hr (fun t ht hWm => ⟨⟨(nI ze), (), rfl, rfl, ⟨F_49, ty, hty, QTm.mk ht hP hD hO hR, hW⟩⟩, hS.F ht⟩) hS.2.2 dX15_forget_11
set_option maxHeartbeats 4000000 in
set_option maxRecDepth 100000 in
theorem s_X15_digest_ (l : Launch) (dC : Nat → ClassId) (dI : Nat → Nat → Nat) (cs : Nat → ClassId) (ty : TyM) (gm : Nat → Nat → Nat) (L : List Nat) (sz : Nat) (F : Nat → va_E) (h0 : Nat) (ρ : Nat) (ta : Nat) (ou : Nat) (so : Nat) (ad : Nat) (na : Nat) (va : Nat) (lc : Nat) (dm : Nat) (tg : Nat) (pe : Nat) (ml : Nat) (bg : Nat) (co : Nat) (sp : Nat) (nb0 : Nat) (nb1 : Nat) (nb2 : Nat) (pl : Nat) (se : Nat) (ke : Nat) (wi : Nat) (hs : Nat) (mo : Nat) (po : Nat) (nu : Nat) (pr : Nat) (sq : Nat) (xa : Nat) (sa : Nat) (n64 : Nat) (m64 : Nat) (ex : Nat) (wh : Nat) (sd : Nat) (tk : Nat) (hd : Nat) (ak : Nat) (ho : Nat) (ot : Nat) (sx : Nat) (s0 : Nat) (s1 : Nat) (s2 : Nat) (nf : Nat) (bd : Nat) (mm : Nat) (ze : Nat) (zt : Nat) (hW : WTm ty gm L) (hL_h0 : h0 ∈ L) (hT_h0 : ty h0 = (15, ρ, [ta, ou, so, ad, na, va, lc, dm, tg, pe, ml, bg, co, sp, nb0, nb1, nb2, pl, se, ke, wi, hs, mo, po, nu, pr, sq, xa, sa, n64, m64, ex, wh, sd, tk, hd, ak, ho, ot, sx, s0, s1, s2, nf, bd, mm, ze, zt])) : Met l yX15_digest_ (.code yX15_digest_ cX15_digest_ 2 (some .int) :: tb) ({ frames := 6, cells := 0, slots := 0, locals := 143 }) (va_Pc [.ref h0] (PTm (dC, dI) cs ty gm L F sz)) (va_Qi (fun (r : Int32) (_ : Unit) => r = 32) (fun _ T9 => ∃ F2 : Nat → va_E, ∃ ty2 : TyM, ty2 = rtf ty h0 (15, ρ, [ta, ou, so, ad, na, va, lc, dm, tg, pe, ml, bg, co, sp, nb0, nb1, nb2, pl, se, ke, wi, hs, mo, po, nu, pr, sq, xa, sa, n64, m64, ex, wh, sd, tk, hd, ak, ho, ot, sx, s0, s1, s2, nf, bd, mm, ze, 0]) ∧ QTm (dC, dI) cs ty2 gm L [ρ, ρ + 2, ρ + 17, ρ + 19] F F2 (va_A (va_pl L F) sz) T9 ∧ WTm ty2 gm L) (va_A (va_pl L F) sz)) 0 0 (va_A (va_pl L F) sz) := by
  refine Met.ofW (cc := cX15_digest_) (maxL := 2) (ret := (some .int)) (by decide) rfl ?_
  intro p e s m args below meth c s₁ B hml hv
  obtain ⟨rfl, hsz, hP, hK, hD0, hE, hO⟩ := hv
  have hx := B.exec
  have hb := B.bytes
  have hr := B.returns
  have hts : ∀ w ∈ tb, w.before _ s = true := fun w h => atoms_spec (ws := .code yX15_digest_ cX15_digest_ 2 (some .int) :: tb) B.pre w (List.mem_cons_of_mem _ h)
  have hown : s.vm.findClass RX15 = some m.cls := findClass_of_methodNamed B.named
  have hlocks := B.notSynchronized
  subst hsz
  have hD := hD0.self (sz := s.heap.size)
  generalize hAe : va_A (va_pl L F) s.heap.size = A at hD ⊢
  have hA : ∀ q : Nat, s.heap.size ≤ q → A q := fun q h => by rw [← hAe]; exact Or.inr h
  have hS : va_S A s.heap s.heap [] := va_S.rf
  have hR : FR ty [ρ, ρ + 2, ρ + 17, ρ + 19] F F := FR.refl
  have hl := lv_entry ([.ref h0]) (n := 2) (Nat.le_of_ble_eq_true rfl)
  rw [lg_entry_eq]
  generalize (lg_sl ([.ref h0]) ++ List.replicate (2 - (lg_sl ([.ref h0])).length) Slot.unset).toArray = ls at hl ⊢
  have hl : lv_has ls 2 [(0, .ref h0)] := hl
  obtain ⟨hq_23, hq_24, hq_25, hq_26, hq_27, hgO, hgA, hgB⟩ := hW.sc hL_h0 hT_h0
  refine lv_aload_n hx hb dX15_digest__0 rfl (lv_at hl 0 rfl) ?_
  obtain ⟨zo_28, v11_29, v12_30, v14_31, v15_32, v17_33, v18_34, v19_35, v20_36, v21_37, v22_38, v33_39, v52_40, v53_41, v54_42, hF_43, hq_44, hq_45, hq_46, hq_47, hq_48⟩ := hO.mod hL_h0 hT_h0
  have hFc := pg_free hD hS hA
  refine va_calli (va_runV (As := []) (rest := []) ⟨hx, hb, hml, hown, hts⟩ (s_X15_used l dC dI cs ty gm L s.heap.size F h0 ρ ta ou so ad na va lc dm tg pe ml bg co sp nb0 nb1 nb2 pl se ke wi hs mo po nu pr sq xa sa n64 m64 ex wh sd tk hd ak ho ot sx s0 s1 s2 nf bd mm ze zt zo_28 v11_29 v12_30 v14_31 v15_32 v17_33 v18_34 v19_35 v20_36 v21_37 v22_38 v33_39 v52_40 v53_41 v54_42 hW hL_h0 hT_h0 hF_43 (by first | omega | assumption) (by first | omega | assumption) (by first | omega | assumption) (by first | omega | assumption)) ⟨callB_of 0 hts (gi kt_1071) rfl rfl rfl (hts _ kt_669) (hts _ kt_1072) (by decide +kernel) ⟨Nat.le_of_ble_eq_true rfl, Nat.le_of_ble_eq_true rfl⟩, (hts _ kt_1073), (hts _ kt_1074)⟩ ⟨fun a U g mk q => ⟨q.1, PTm.calling q.2⟩, pg_recv hK hP hL_h0 hF_43 (q := (RX15, TX15, 59)) rfl, fun U hU hWm => ⟨rfl, PTm.mk hU hWm hP hK hD hE hO⟩⟩ rfl rfl hl.1 rfl (lv_room (Nat.le_of_ble_eq_true rfl)) dX15_digest__1 ⟨by show _ + 0 ≤ 0; omega, by show _ + 0 ≤ 0; omega⟩) hS (fun q _ h => hFc q h) hFc (fun r_49 u t H1 locs ht hvm hw hB hz1 hk1 hS => ?_)
  obtain ⟨F_50, ty9, hty9, hB1, hW9, hq_51⟩ := hB
  subst hty9
  have hR9 := FR.retype (im2 := [ta, ou, so, ad, na, va, lc, dm, tg, pe, ml, bg, co, sp, nb0, nb1, nb2, pl, se, ke, wi, hs, mo, po, nu, pr, sq, xa, sa, n64, m64, ex, wh, sd, tk, hd, ak, ho, ot, sx, s0, s1, s2, nf, bd, mm, ze, 0]) hT_h0 hR
  obtain ⟨hP, hD, hO, hR⟩ := QTm.back hB1 ht hFc hR9 (fun q h => by simp only [List.mem_cons, List.not_mem_nil, or_false] at h ⊢; omega)
  obtain ⟨ty, hty, hT_h0, hW, hO, hR⟩ : ∃ t9 : TyM, t9 = rtf ty h0 (15, ρ, [ta, ou, so, ad, na, va, lc, dm, tg, pe, ml, bg, co, sp, nb0, nb1, nb2, pl, se, ke, wi, hs, mo, po, nu, pr, sq, xa, sa, n64, m64, ex, wh, sd, tk, hd, ak, ho, ot, sx, s0, s1, s2, nf, bd, mm, ze, 0]) ∧ t9 h0 = (15, ρ, [ta, ou, so, ad, na, va, lc, dm, tg, pe, ml, bg, co, sp, nb0, nb1, nb2, pl, se, ke, wi, hs, mo, po, nu, pr, sq, xa, sa, n64, m64, ex, wh, sd, tk, hd, ak, ho, ot, sx, s0, s1, s2, nf, bd, mm, ze, 0]) ∧ WTm t9 gm L ∧ OKm cs t9 gm L F_50 ∧ FR t9 [ρ, ρ + 2, ρ + 17, ρ + 19] F F_50 := ⟨_, rfl, rtf_self, hW9, hO, hR⟩
  generalize H1 = H at hP hS ⊢
  have hw : r_49 = nI zt := hw
  subst hw
  obtain ⟨hq_74, hq_75, hq_76, hq_77, hq_78, hgO, hgA, hgB⟩ := hW.sc hL_h0 hT_h0
  refine lv_istore_n (lv' := [(1, .int (nI zt)), (0, .ref h0)]) hx hb dX15_digest__4 rfl hl (by decide) rfl (fun ls hl => ?_)
  refine lv_aload_n hx hb dX15_digest__5 rfl (lv_at hl 1 rfl) ?_
  refine lv_aload_n hx hb dX15_digest__6 rfl (lv_at hl 1 rfl) ?_
  refine pg_get (ci := 15) (v := .ref ta) (C := RX15) (T := TX15) (N := 59) hx hb hts it_15 hown hK hP hL_h0 hq_51 rfl 0 (by decide) (hts _ kt_1075) (fun _ h9 => h9) rfl dX15_digest__7 ?_
  refine lv_iload_n hx hb dX15_digest__10 rfl (lv_at hl 0 rfl) ?_
  refine lv_aload_n hx hb dX15_digest__11 rfl (lv_at hl 1 rfl) ?_
  refine pg_get (ci := 15) (v := .ref xa) (C := RX15) (T := TX15) (N := 59) hx hb hts it_15 hown hK hP hL_h0 hq_51 rfl 44 (by decide) (hts _ kt_950) (fun _ h9 => h9) rfl dX15_digest__12 ?_
  obtain ⟨hi_79, ht_80⟩ := hW.f_ta hL_h0 hT_h0
  obtain ⟨hq_81, hq_82⟩ := hW.octs hi_79 ht_80
  obtain ⟨hi_83, ht_84⟩ := hW.f_xa hL_h0 hT_h0
  obtain ⟨hq_85, hq_86⟩ := hW.octs hi_83 ht_84
  have hFc := pg_free hD hS hA
  refine va_callv (va_runV (As := [.ref ta, .int (nI zt), .ref xa]) (rest := []) ⟨hx, hb, hml, hown, hts⟩ (s_X15_digest l dC dI cs ty gm L H.size F_50 h0 ρ ta ou so ad na va lc dm tg pe ml bg co sp nb0 nb1 nb2 pl se ke wi hs mo po nu pr sq xa sa n64 m64 ex wh sd tk hd ak ho ot sx s0 s1 s2 nf bd mm ze 0 ta (ρ + 1) 3000 xa (ρ + 19) 32 zt hW hL_h0 hT_h0 hi_79 ht_80 hi_83 ht_84 (by first | omega | assumption) (by first | omega | assumption)) ⟨callB_of 3 hts (gi kt_1022) rfl rfl rfl (hts _ kt_669) (hts _ kt_1023) (by decide +kernel) ⟨Nat.le_of_ble_eq_true rfl, Nat.le_of_ble_eq_true rfl⟩, (hts _ kt_1024), (hts _ kt_1025)⟩ ⟨fun a U g mk q => ⟨q.1, PTm.calling q.2⟩, pg_recv hK hP hL_h0 hq_51 (q := (RX15, TX15, 59)) rfl, fun U hU hWm => ⟨rfl, PTm.mk hU hWm hP hK hD hE hO⟩⟩ rfl rfl hl.1 rfl (lv_room (Nat.le_of_ble_eq_true rfl)) dX15_digest__15 ⟨by show _ + 0 ≤ 0; omega, by show _ + 0 ≤ 0; omega⟩) hS (fun q _ h => hFc q h) hFc (fun u t H1 locs ht hvm hw hB hz1 hk1 hS => ?_)
  obtain ⟨F_88, hB1⟩ := hB
  obtain ⟨hP, hD, hO, hR⟩ := QTm.back hB1 ht hFc hR (fun q h => by simp only [List.mem_cons, List.not_mem_nil, or_false] at h ⊢; omega)
  have hF_89 : F_88 h0 = .inr (15, (.ref ta) :: (.int 0) :: (.int (nI zo_28)) :: (.int (nI ze)) :: (.ref ou) :: (.ref so) :: (.ref ad) :: (.ref na) :: (.ref va) :: (.ref lc) :: (.ref dm) :: (.int v11_29) :: (.int v12_30) :: (.ref tg) :: (.int v14_31) :: (.int v15_32) :: (.ref pe) :: (.int v17_33) :: (.int v18_34) :: (.int v19_35) :: (.int v20_36) :: (.int v21_37) :: (.int v22_38) :: (.ref ml) :: (.ref bg) :: (.ref co) :: (.ref sp) :: (.ref nb0) :: (.ref nb1) :: (.ref nb2) :: (.int (nI nf)) :: (.int (nI bd)) :: (.int (nI mm)) :: (.int v33_39) :: (.ref pl) :: (.ref se) :: (.ref ke) :: (.ref wi) :: (.ref hs) :: (.ref mo) :: (.ref po) :: (.ref nu) :: (.ref pr) :: (.ref sq) :: (.ref xa) :: (.ref sa) :: (.ref n64) :: (.ref m64) :: (.ref ex) :: (.ref wh) :: (.ref sd) :: (.ref tk) :: (.int v52_40) :: (.int v53_41) :: (.int v54_42) :: (.ref hd) :: (.ref ak) :: (.ref ho) :: (.ref ot) :: []) := (hB1.2.2.2 h0 (by rw [hT_h0]; simp)).trans hq_51
  generalize H1 = H at hP hS ⊢
  refine lv_aload_n hx hb dX15_digest__18 rfl (lv_at hl 1 rfl) ?_
  refine pg_get (ci := 15) (v := .ref xa) (C := RX15) (T := TX15) (N := 59) hx hb hts it_15 hown hK hP hL_h0 hF_89 rfl 44 (by decide) (hts _ kt_950) (fun _ h9 => h9) rfl dX15_digest__19 ?_
  refine lv_iconst (v := 0) hx hb dX15_digest__22 (by decide) ?_
  refine lv_aload_n hx hb dX15_digest__23 rfl (lv_at hl 1 rfl) ?_
  refine pg_get (ci := 15) (v := .ref ou) (C := RX15) (T := TX15) (N := 59) hx hb hts it_15 hown hK hP hL_h0 hF_89 rfl 4 (by decide) (hts _ kt_922) (fun _ h9 => h9) rfl dX15_digest__24 ?_
  refine lv_iconst (v := 0) hx hb dX15_digest__27 (by decide) ?_
  refine lv_bipush (v := 32) hx hb dX15_digest__28 (by decide) ?_
  obtain ⟨f_90, hF_91, hq_92⟩ := hO.octs hi_83 ht_84
  obtain ⟨hi_93, ht_94⟩ := hW.f_ou hL_h0 hT_h0
  obtain ⟨hq_95, hq_96⟩ := hW.octs hi_93 ht_94
  obtain ⟨f_97, hF_98, hq_99⟩ := hO.octs hi_93 ht_94
  refine pg_copyi hx hb (by rw [hml]; exact hl.1.symm) hown (hts _ kt_923) (hts _ kt_29) (hts _ kt_30) (hts _ kt_31) hK hP hD hS hi_83 hi_93 1 1 hF_91 hF_98 rfl rfl rfl (by decide) (by decide) (by decide) (by decide) (by decide) (fun _ _ => hq_92 _) (Nat.le_of_ble_eq_true rfl) (by decide) dX15_digest__30 (fun H locs hP hD hS => ?_)
  obtain ⟨F_100, he_101, hP, hD, hO, hR⟩ : ∃ G, G = va_up F_88 ou (.inl (cs 17, 6000, .inl (va_cpy f_90 f_97 (0 : Int32).toNatClampNeg (0 : Int32).toNatClampNeg (32 : Int32).toNatClampNeg))) ∧ va_P (dC, dI) vwCl (va_pl L G) H ∧ va_D A (va_pl L G) ∧ OKm cs ty gm L G ∧ FR ty [ρ, ρ + 2, ρ + 17, ρ + 19] F G := ⟨_, rfl, hP, hD, hO.up (shm.octs ht_94 ⟨_, rfl, bfm_cpy hq_92 hq_99 _ _ _⟩), hR.up ht_94 (by simp)⟩
  have hF_102 : F_100 ou = .inl (cs 17, 6000, .inl (va_cpy f_90 f_97 (0 : Int32).toNatClampNeg (0 : Int32).toNatClampNeg (32 : Int32).toNatClampNeg)) := by rw [he_101]; exact up_self
  have hF_103 : F_100 h0 = .inr (15, (.ref ta) :: (.int 0) :: (.int (nI zo_28)) :: (.int (nI ze)) :: (.ref ou) :: (.ref so) :: (.ref ad) :: (.ref na) :: (.ref va) :: (.ref lc) :: (.ref dm) :: (.int v11_29) :: (.int v12_30) :: (.ref tg) :: (.int v14_31) :: (.int v15_32) :: (.ref pe) :: (.int v17_33) :: (.int v18_34) :: (.int v19_35) :: (.int v20_36) :: (.int v21_37) :: (.int v22_38) :: (.ref ml) :: (.ref bg) :: (.ref co) :: (.ref sp) :: (.ref nb0) :: (.ref nb1) :: (.ref nb2) :: (.int (nI nf)) :: (.int (nI bd)) :: (.int (nI mm)) :: (.int v33_39) :: (.ref pl) :: (.ref se) :: (.ref ke) :: (.ref wi) :: (.ref hs) :: (.ref mo) :: (.ref po) :: (.ref nu) :: (.ref pr) :: (.ref sq) :: (.ref xa) :: (.ref sa) :: (.ref n64) :: (.ref m64) :: (.ref ex) :: (.ref wh) :: (.ref sd) :: (.ref tk) :: (.int v52_40) :: (.int v53_41) :: (.int v54_42) :: (.ref hd) :: (.ref ak) :: (.ref ho) :: (.ref ot) :: []) := by rw [he_101, up_ne (ne_ty hT_h0 ht_94 (by simp))]; exact hF_89
  have hF_104 : F_100 xa = .inl (cs 17, 32, .inl f_90) := by rw [he_101, up_ne (ne_ty2 ht_84 ht_94 (by simp))]; exact hF_91
  obtain ⟨f_105, hF_102, hq_106⟩ : ∃ f : Nat → Int32, F_100 ou = .inl (cs 17, 6000, .inl f) ∧ BFm f := ⟨_, hF_102, bfm_cpy hq_92 hq_99 _ _ _⟩
  refine lv_aload_n hx hb dX15_digest__33 rfl (lv_at hl 1 rfl) ?_
  refine lv_bipush (v := 32) hx hb dX15_digest__34 (by decide) ?_
  refine pg_put (ci := 15) (v := .int 32) (ty := .int) (C := RX15) (T := TX15) (N := 59) hx hb hts it_15 tyX15 tyX15_ok nmX15 hown hK hP hD hS hL_h0 hF_103 rfl 2 (by decide) (hts _ kt_924) (fun _ h9 => h9) rfl (by decide +kernel) (rfl) (rfl) (Nat.le_of_ble_eq_true rfl) dX15_digest__36 (fun H locs hP hD hS => ?_)
  obtain ⟨F_107, he_108, hP, hD, hO, hR⟩ : ∃ G, G = va_up F_100 h0 (.inr (15, (.ref ta) :: (.int 0) :: (.int 32) :: (.int (nI ze)) :: (.ref ou) :: (.ref so) :: (.ref ad) :: (.ref na) :: (.ref va) :: (.ref lc) :: (.ref dm) :: (.int v11_29) :: (.int v12_30) :: (.ref tg) :: (.int v14_31) :: (.int v15_32) :: (.ref pe) :: (.int v17_33) :: (.int v18_34) :: (.int v19_35) :: (.int v20_36) :: (.int v21_37) :: (.int v22_38) :: (.ref ml) :: (.ref bg) :: (.ref co) :: (.ref sp) :: (.ref nb0) :: (.ref nb1) :: (.ref nb2) :: (.int (nI nf)) :: (.int (nI bd)) :: (.int (nI mm)) :: (.int v33_39) :: (.ref pl) :: (.ref se) :: (.ref ke) :: (.ref wi) :: (.ref hs) :: (.ref mo) :: (.ref po) :: (.ref nu) :: (.ref pr) :: (.ref sq) :: (.ref xa) :: (.ref sa) :: (.ref n64) :: (.ref m64) :: (.ref ex) :: (.ref wh) :: (.ref sd) :: (.ref tk) :: (.int v52_40) :: (.int v53_41) :: (.int v54_42) :: (.ref hd) :: (.ref ak) :: (.ref ho) :: (.ref ot) :: [])) ∧ va_P (dC, dI) vwCl (va_pl L G) H ∧ va_D A (va_pl L G) ∧ OKm cs ty gm L G ∧ FR ty [ρ, ρ + 2, ρ + 17, ρ + 19] F G := ⟨_, rfl, hP, hD, hO.up (shm.mod hT_h0 ⟨32, v11_29, v12_30, v14_31, v15_32, v17_33, v18_34, v19_35, v20_36, v21_37, v22_38, v33_39, v52_40, v53_41, v54_42, rfl, (by first | omega | assumption | exact Or.inl rfl | exact Or.inr rfl), (by first | omega | assumption | exact Or.inl rfl | exact Or.inr rfl), (by first | omega | assumption | exact Or.inl rfl | exact Or.inr rfl), (by first | omega | assumption | exact Or.inl rfl | exact Or.inr rfl), (by first | omega | assumption | exact Or.inl rfl | exact Or.inr rfl)⟩), hR.up hT_h0 (by simp)⟩
  have hF_109 : F_107 h0 = .inr (15, (.ref ta) :: (.int 0) :: (.int 32) :: (.int (nI ze)) :: (.ref ou) :: (.ref so) :: (.ref ad) :: (.ref na) :: (.ref va) :: (.ref lc) :: (.ref dm) :: (.int v11_29) :: (.int v12_30) :: (.ref tg) :: (.int v14_31) :: (.int v15_32) :: (.ref pe) :: (.int v17_33) :: (.int v18_34) :: (.int v19_35) :: (.int v20_36) :: (.int v21_37) :: (.int v22_38) :: (.ref ml) :: (.ref bg) :: (.ref co) :: (.ref sp) :: (.ref nb0) :: (.ref nb1) :: (.ref nb2) :: (.int (nI nf)) :: (.int (nI bd)) :: (.int (nI mm)) :: (.int v33_39) :: (.ref pl) :: (.ref se) :: (.ref ke) :: (.ref wi) :: (.ref hs) :: (.ref mo) :: (.ref po) :: (.ref nu) :: (.ref pr) :: (.ref sq) :: (.ref xa) :: (.ref sa) :: (.ref n64) :: (.ref m64) :: (.ref ex) :: (.ref wh) :: (.ref sd) :: (.ref tk) :: (.int v52_40) :: (.int v53_41) :: (.int v54_42) :: (.ref hd) :: (.ref ak) :: (.ref ho) :: (.ref ot) :: []) := by rw [he_108]; exact up_self
  have hF_110 : F_107 ou = .inl (cs 17, 6000, .inl f_105) := by rw [he_108, up_ne (ne_ty ht_94 hT_h0 (by simp))]; exact hF_102
  have hF_111 : F_107 xa = .inl (cs 17, 32, .inl f_90) := by rw [he_108, up_ne (ne_ty ht_84 hT_h0 (by simp))]; exact hF_104
  refine lv_bipush (v := 32) hx hb dX15_digest__39 (by decide) ?_
  refine W.widen (k := 0) (n := 0) (by omega) (by omega) ?_
  exact W.iret (v := 32) hx hb hr (fun t ht hWm => ⟨⟨32, (), rfl, rfl, ⟨F_107, ty, hty, QTm.mk ht hP hD hO hR, hW⟩⟩, hS.F ht⟩) hS.2.2 dX15_digest__41
set_option maxHeartbeats 4000000 in
set_option maxRecDepth 100000 in
theorem s_X15_octet (l : Launch) (dC : Nat → ClassId) (dI : Nat → Nat → Nat) (cs : Nat → ClassId) (ty : TyM) (gm : Nat → Nat → Nat) (L : List Nat) (sz : Nat) (F : Nat → va_E) (h0 : Nat) (ρ : Nat) (ta : Nat) (ou : Nat) (so : Nat) (ad : Nat) (na : Nat) (va : Nat) (lc : Nat) (dm : Nat) (tg : Nat) (pe : Nat) (ml : Nat) (bg : Nat) (co : Nat) (sp : Nat) (nb0 : Nat) (nb1 : Nat) (nb2 : Nat) (pl : Nat) (se : Nat) (ke : Nat) (wi : Nat) (hs : Nat) (mo : Nat) (po : Nat) (nu : Nat) (pr : Nat) (sq : Nat) (xa : Nat) (sa : Nat) (n64 : Nat) (m64 : Nat) (ex : Nat) (wh : Nat) (sd : Nat) (tk : Nat) (hd : Nat) (ak : Nat) (ho : Nat) (ot : Nat) (sx : Nat) (s0 : Nat) (s1 : Nat) (s2 : Nat) (nf : Nat) (bd : Nat) (mm : Nat) (ze : Nat) (zt : Nat) (x1 : Int32) (hW : WTm ty gm L) (hL_h0 : h0 ∈ L) (hT_h0 : ty h0 = (15, ρ, [ta, ou, so, ad, na, va, lc, dm, tg, pe, ml, bg, co, sp, nb0, nb1, nb2, pl, se, ke, wi, hs, mo, po, nu, pr, sq, xa, sa, n64, m64, ex, wh, sd, tk, hd, ak, ho, ot, sx, s0, s1, s2, nf, bd, mm, ze, zt])) : Met l yX15_octet (.code yX15_octet cX15_octet 2 (some .int) :: tb) ({ frames := 1, cells := 0, slots := 0, locals := 25 }) (va_Pc [.ref h0, .int x1] (PTm (dC, dI) cs ty gm L F sz)) (va_Qi (fun (r : Int32) (_ : Unit) => True) (fun _ T9 => ∃ F2 : Nat → va_E, QTm (dC, dI) cs ty gm L [] F F2 (va_A (va_pl L F) sz) T9) (va_A (va_pl L F) sz)) 0 0 (va_A (va_pl L F) sz) := by
  refine Met.ofW (cc := cX15_octet) (maxL := 2) (ret := (some .int)) (by decide) rfl ?_
  intro p e s m args below meth c s₁ B hml hv
  obtain ⟨rfl, hsz, hP, hK, hD0, hE, hO⟩ := hv
  have hx := B.exec
  have hb := B.bytes
  have hr := B.returns
  have hts : ∀ w ∈ tb, w.before _ s = true := fun w h => atoms_spec (ws := .code yX15_octet cX15_octet 2 (some .int) :: tb) B.pre w (List.mem_cons_of_mem _ h)
  have hown : s.vm.findClass RX15 = some m.cls := findClass_of_methodNamed B.named
  have hlocks := B.notSynchronized
  subst hsz
  have hD := hD0.self (sz := s.heap.size)
  generalize hAe : va_A (va_pl L F) s.heap.size = A at hD ⊢
  have hA : ∀ q : Nat, s.heap.size ≤ q → A q := fun q h => by rw [← hAe]; exact Or.inr h
  have hS : va_S A s.heap s.heap [] := va_S.rf
  have hR : FR ty [] F F := FR.refl
  have hl := lv_entry ([.ref h0, .int x1]) (n := 2) (Nat.le_of_ble_eq_true rfl)
  rw [lg_entry_eq]
  generalize (lg_sl ([.ref h0, .int x1]) ++ List.replicate (2 - (lg_sl ([.ref h0, .int x1])).length) Slot.unset).toArray = ls at hl ⊢
  have hl : lv_has ls 2 [(0, .ref h0), (1, .int x1)] := hl
  obtain ⟨hq_23, hq_24, hq_25, hq_26, hq_27, hgO, hgA, hgB⟩ := hW.sc hL_h0 hT_h0
  refine lv_iload_n hx hb dX15_octet_0 rfl (lv_at hl 1 rfl) ?_
  refine lv_i2l (v := x1.toInt64) hx hb dX15_octet_1 rfl ?_
  refine lv_ldc2 (v := (-1)) hx hb hown (hts _ kt_1076) dX15_octet_2 ?_
  refine lv_aload_n hx hb dX15_octet_5 rfl (lv_at hl 0 rfl) ?_
  obtain ⟨zo_28, v11_29, v12_30, v14_31, v15_32, v17_33, v18_34, v19_35, v20_36, v21_37, v22_38, v33_39, v52_40, v53_41, v54_42, hF_43, hq_44, hq_45, hq_46, hq_47, hq_48⟩ := hO.mod hL_h0 hT_h0
  refine pg_get (ci := 15) (v := .int (nI zo_28)) (C := RX15) (T := TX15) (N := 59) hx hb hts it_15 hown hK hP hL_h0 hF_43 rfl 2 (by decide) (hts _ kt_924) (fun _ h9 => h9) rfl dX15_octet_6 ?_
  refine lv_iconst (v := 1) hx hb dX15_octet_9 (by decide) ?_
  refine lv_isub hx hb dX15_octet_10 ?_
  refine lv_topi (fun x_49 ex_49 => ?_)
  obtain rfl : x_49 = ((nI zo_28) - 1) := ex_49.trans (rfl)
  refine lv_i2l (v := ((nI zo_28) - 1).toInt64) hx hb dX15_octet_11 rfl ?_
  have hFc := pg_free hD hS hA
  refine va_calli (va_runS (As := [.long x1.toInt64, .long (-1), .long (((nI zo_28) - 1).toInt64)]) (rest := []) ⟨hx, hb, hml, hown, hts⟩ (s_X15_in l dC dI cs ty gm L s.heap.size F x1.toInt64 (-1) (((nI zo_28) - 1).toInt64) hW ) ⟨callB_of 3 hts (gi kt_685) rfl rfl rfl (hts _ kt_669) (hts _ kt_705) (by decide +kernel) ⟨Nat.le_of_ble_eq_true rfl, Nat.le_of_ble_eq_true rfl⟩, (hts _ kt_686)⟩ ⟨fun a U g mk q => ⟨q.1, PTm.calling q.2⟩, fun U hU hWm => ⟨rfl, PTm.mk hU hWm hP hK hD hE hO⟩⟩ rfl rfl hl.1 rfl (lv_room (Nat.le_of_ble_eq_true rfl)) dX15_octet_12 ⟨by show _ + 0 ≤ 0; omega, by show _ + 0 ≤ 0; omega⟩) hS (fun q _ h => hFc q h) hFc (fun r_50 u t H1 locs ht hvm hw hB hz1 hk1 hS => ?_)
  obtain ⟨F_51, hB1⟩ := hB
  obtain rfl : F = F_51 := (funext (fun a => hB1.2.2.2 a List.not_mem_nil)).symm
  obtain ⟨hP, hD, hO, hR⟩ := QTm.back hB1 ht hFc hR (fun q h => absurd h List.not_mem_nil)
  generalize H1 = H at hP hS ⊢
  have hw : r_50 = (if (-1) ≤ x1.toInt64 ∧ x1.toInt64 ≤ ((nI zo_28) - 1).toInt64 then 1 else 0) := hw
  have hw_52 := hw
  refine lv_if_ne (tgt := 21) hx hb dX15_octet_15 (by decide) (fun c_53 => ?_) (fun c_53 => ?_)
  ·
    refine lv_iload_n hx hb dX15_octet_21 rfl (lv_at hl 1 rfl) ?_
    refine lv_if_ge (tgt := 32) hx hb dX15_octet_22 (by decide) (fun c_54 => ?_) (fun c_54 => ?_)
    ·
      have hin := in_int hw_52 c_53
      rw [Int32.toInt_toInt64, show (1 : Int32) = nI 1 from rfl, pk_sub_toInt (by omega) (by omega)] at hin
      obtain ⟨k, hk, rfl⟩ := nI_of (Int32.not_lt.mpr c_54)
      rw [nI_toInt hk] at hin
      refine lv_aload_n hx hb dX15_octet_32 rfl (lv_at hl 0 rfl) ?_
      refine pg_get (ci := 15) (v := .ref ou) (C := RX15) (T := TX15) (N := 59) hx hb hts it_15 hown hK hP hL_h0 hF_43 rfl 4 (by decide) (hts _ kt_922) (fun _ h9 => h9) rfl dX15_octet_33 ?_
      refine lv_iload_n hx hb dX15_octet_36 rfl (lv_at hl 1 rfl) ?_
      obtain ⟨hi_55, ht_56⟩ := hW.f_ou hL_h0 hT_h0
      obtain ⟨hq_57, hq_58⟩ := hW.octs hi_55 ht_56
      obtain ⟨f_59, hF_60, hq_61⟩ := hO.octs hi_55 ht_56
      refine pg_bald hx hb hK hP hi_55 1 hF_60 rfl (vp_in_nI (by omega) (by omega)) dX15_octet_37 ?_
      refine lv_topi (fun x_62 ex_62 => ?_)
      obtain rfl : x_62 = f_59 k := ex_62.trans (congrArg f_59 (show ((nI k) : Int32).toNatClampNeg = k from nI_clamp (by omega)))
      refine lv_sipush (v := 255) hx hb dX15_octet_38 (by decide) ?_
      refine lv_iand hx hb dX15_octet_41 ?_
      refine lv_topi (fun x_63 _ => ?_)
      refine W.widen (k := 0) (n := 0) (by omega) (by omega) ?_
      exact W.iret (v := x_63) hx hb hr (fun t ht hWm => ⟨⟨x_63, (), rfl, trivial, ⟨F, QTm.mk ht hP hD hO hR⟩⟩, hS.F ht⟩) hS.2.2 dX15_octet_42
    ·
      refine lv_aload_n hx hb dX15_octet_25 rfl (lv_at hl 0 rfl) ?_
      refine pg_get (ci := 15) (v := .int (nI zo_28)) (C := RX15) (T := TX15) (N := 59) hx hb hts it_15 hown hK hP hL_h0 hF_43 rfl 2 (by decide) (hts _ kt_924) (fun _ h9 => h9) rfl dX15_octet_26 ?_
      refine lv_goto (tgt := 42) hx hb dX15_octet_29 (by decide) ?_
      refine W.widen (k := 0) (n := 0) (by omega) (by omega) ?_
      exact W.iret (v := (nI zo_28)) hx hb hr (fun t ht hWm => ⟨⟨(nI zo_28), (), rfl, trivial, ⟨F, QTm.mk ht hP hD hO hR⟩⟩, hS.F ht⟩) hS.2.2 dX15_octet_42
  ·
    refine lv_bipush (v := (-2)) hx hb dX15_octet_18 (by decide) ?_
    refine W.widen (k := 0) (n := 0) (by omega) (by omega) ?_
    exact W.iret (v := (-2)) hx hb hr (fun t ht hWm => ⟨⟨(-2), (), rfl, trivial, ⟨F, QTm.mk ht hP hD hO hR⟩⟩, hS.F ht⟩) hS.2.2 dX15_octet_20
set_option maxHeartbeats 4000000 in
set_option maxRecDepth 100000 in
theorem s_X15_sender (l : Launch) (dC : Nat → ClassId) (dI : Nat → Nat → Nat) (cs : Nat → ClassId) (ty : TyM) (gm : Nat → Nat → Nat) (L : List Nat) (sz : Nat) (F : Nat → va_E) (h0 : Nat) (ρ : Nat) (ta : Nat) (ou : Nat) (so : Nat) (ad : Nat) (na : Nat) (va : Nat) (lc : Nat) (dm : Nat) (tg : Nat) (pe : Nat) (ml : Nat) (bg : Nat) (co : Nat) (sp : Nat) (nb0 : Nat) (nb1 : Nat) (nb2 : Nat) (pl : Nat) (se : Nat) (ke : Nat) (wi : Nat) (hs : Nat) (mo : Nat) (po : Nat) (nu : Nat) (pr : Nat) (sq : Nat) (xa : Nat) (sa : Nat) (n64 : Nat) (m64 : Nat) (ex : Nat) (wh : Nat) (sd : Nat) (tk : Nat) (hd : Nat) (ak : Nat) (ho : Nat) (ot : Nat) (sx : Nat) (s0 : Nat) (s1 : Nat) (s2 : Nat) (nf : Nat) (bd : Nat) (mm : Nat) (ze : Nat) (zt : Nat) (x1 : Int32) (hW : WTm ty gm L) (hL_h0 : h0 ∈ L) (hT_h0 : ty h0 = (15, ρ, [ta, ou, so, ad, na, va, lc, dm, tg, pe, ml, bg, co, sp, nb0, nb1, nb2, pl, se, ke, wi, hs, mo, po, nu, pr, sq, xa, sa, n64, m64, ex, wh, sd, tk, hd, ak, ho, ot, sx, s0, s1, s2, nf, bd, mm, ze, zt])) : Met l yX15_sender (.code yX15_sender cX15_sender 6 (some .int) :: tb) ({ frames := 3, cells := 0, slots := 0, locals := 94 }) (va_Pc [.ref h0, .int x1] (PTm (dC, dI) cs ty gm L F sz)) (va_Qi (fun (r : Int32) (_ : Unit) => True) (fun _ T9 => ∃ F2 : Nat → va_E, ∃ ty2 : TyM, ty2 = rtf ty h0 (15, ρ, [ta, ou, so, ad, na, va, lc, dm, tg, pe, ml, bg, co, sp, nb0, nb1, nb2, pl, se, ke, wi, hs, mo, po, nu, pr, sq, xa, sa, n64, m64, ex, wh, sd, tk, hd, ak, ho, ot, sx, s0, s1, s2, nf, bd, mm, ze, 0]) ∧ QTm (dC, dI) cs ty2 gm L [ρ, ρ + 5] F F2 (va_A (va_pl L F) sz) T9 ∧ WTm ty2 gm L) (va_A (va_pl L F) sz)) 0 0 (va_A (va_pl L F) sz) := by
  refine Met.ofW (cc := cX15_sender) (maxL := 6) (ret := (some .int)) (by decide) rfl ?_
  intro p e s m args below meth c s₁ B hml hv
  obtain ⟨rfl, hsz, hP, hK, hD0, hE, hO⟩ := hv
  have hx := B.exec
  have hb := B.bytes
  have hr := B.returns
  have hts : ∀ w ∈ tb, w.before _ s = true := fun w h => atoms_spec (ws := .code yX15_sender cX15_sender 6 (some .int) :: tb) B.pre w (List.mem_cons_of_mem _ h)
  have hown : s.vm.findClass RX15 = some m.cls := findClass_of_methodNamed B.named
  have hlocks := B.notSynchronized
  subst hsz
  have hD := hD0.self (sz := s.heap.size)
  generalize hAe : va_A (va_pl L F) s.heap.size = A at hD ⊢
  have hA : ∀ q : Nat, s.heap.size ≤ q → A q := fun q h => by rw [← hAe]; exact Or.inr h
  have hS : va_S A s.heap s.heap [] := va_S.rf
  have hR : FR ty [ρ, ρ + 5] F F := FR.refl
  have hl := lv_entry ([.ref h0, .int x1]) (n := 6) (Nat.le_of_ble_eq_true rfl)
  rw [lg_entry_eq]
  generalize (lg_sl ([.ref h0, .int x1]) ++ List.replicate (6 - (lg_sl ([.ref h0, .int x1])).length) Slot.unset).toArray = ls at hl ⊢
  have hl : lv_has ls 6 [(0, .ref h0), (1, .int x1)] := hl
  obtain ⟨hq_23, hq_24, hq_25, hq_26, hq_27, hgO, hgA, hgB⟩ := hW.sc hL_h0 hT_h0
  refine lv_aload_n hx hb dX15_sender_0 rfl (lv_at hl 0 rfl) ?_
  obtain ⟨zo_28, v11_29, v12_30, v14_31, v15_32, v17_33, v18_34, v19_35, v20_36, v21_37, v22_38, v33_39, v52_40, v53_41, v54_42, hF_43, hq_44, hq_45, hq_46, hq_47, hq_48⟩ := hO.mod hL_h0 hT_h0
  have hFc := pg_free hD hS hA
  refine va_calli (va_runV (As := []) (rest := []) ⟨hx, hb, hml, hown, hts⟩ (s_X15_used l dC dI cs ty gm L s.heap.size F h0 ρ ta ou so ad na va lc dm tg pe ml bg co sp nb0 nb1 nb2 pl se ke wi hs mo po nu pr sq xa sa n64 m64 ex wh sd tk hd ak ho ot sx s0 s1 s2 nf bd mm ze zt zo_28 v11_29 v12_30 v14_31 v15_32 v17_33 v18_34 v19_35 v20_36 v21_37 v22_38 v33_39 v52_40 v53_41 v54_42 hW hL_h0 hT_h0 hF_43 (by first | omega | assumption) (by first | omega | assumption) (by first | omega | assumption) (by first | omega | assumption)) ⟨callB_of 0 hts (gi kt_1071) rfl rfl rfl (hts _ kt_669) (hts _ kt_1072) (by decide +kernel) ⟨Nat.le_of_ble_eq_true rfl, Nat.le_of_ble_eq_true rfl⟩, (hts _ kt_1073), (hts _ kt_1074)⟩ ⟨fun a U g mk q => ⟨q.1, PTm.calling q.2⟩, pg_recv hK hP hL_h0 hF_43 (q := (RX15, TX15, 59)) rfl, fun U hU hWm => ⟨rfl, PTm.mk hU hWm hP hK hD hE hO⟩⟩ rfl rfl hl.1 rfl (lv_room (Nat.le_of_ble_eq_true rfl)) dX15_sender_1 ⟨by show _ + 0 ≤ 0; omega, by show _ + 0 ≤ 0; omega⟩) hS (fun q _ h => hFc q h) hFc (fun r_49 u t H1 locs ht hvm hw hB hz1 hk1 hS => ?_)
  obtain ⟨F_50, ty9, hty9, hB1, hW9, hq_51⟩ := hB
  subst hty9
  have hR9 := FR.retype (im2 := [ta, ou, so, ad, na, va, lc, dm, tg, pe, ml, bg, co, sp, nb0, nb1, nb2, pl, se, ke, wi, hs, mo, po, nu, pr, sq, xa, sa, n64, m64, ex, wh, sd, tk, hd, ak, ho, ot, sx, s0, s1, s2, nf, bd, mm, ze, 0]) hT_h0 hR
  obtain ⟨hP, hD, hO, hR⟩ := QTm.back hB1 ht hFc hR9 (fun q h => by simp only [List.mem_cons, List.not_mem_nil, or_false] at h ⊢; omega)
  obtain ⟨ty, hty, hT_h0, hW, hO, hR⟩ : ∃ t9 : TyM, t9 = rtf ty h0 (15, ρ, [ta, ou, so, ad, na, va, lc, dm, tg, pe, ml, bg, co, sp, nb0, nb1, nb2, pl, se, ke, wi, hs, mo, po, nu, pr, sq, xa, sa, n64, m64, ex, wh, sd, tk, hd, ak, ho, ot, sx, s0, s1, s2, nf, bd, mm, ze, 0]) ∧ t9 h0 = (15, ρ, [ta, ou, so, ad, na, va, lc, dm, tg, pe, ml, bg, co, sp, nb0, nb1, nb2, pl, se, ke, wi, hs, mo, po, nu, pr, sq, xa, sa, n64, m64, ex, wh, sd, tk, hd, ak, ho, ot, sx, s0, s1, s2, nf, bd, mm, ze, 0]) ∧ WTm t9 gm L ∧ OKm cs t9 gm L F_50 ∧ FR t9 [ρ, ρ + 5] F F_50 := ⟨_, rfl, rtf_self, hW9, hO, hR⟩
  generalize H1 = H at hP hS ⊢
  have hw : r_49 = nI zt := hw
  subst hw
  obtain ⟨hq_74, hq_75, hq_76, hq_77, hq_78, hgO, hgA, hgB⟩ := hW.sc hL_h0 hT_h0
  refine lv_istore_n (lv' := [(2, .int (nI zt)), (0, .ref h0), (1, .int x1)]) hx hb dX15_sender_4 rfl hl (by decide) rfl (fun ls hl => ?_)
  refine lv_iconst (v := 0) hx hb dX15_sender_5 (by decide) ?_
  refine lv_istore_n (lv' := [(3, .int 0), (2, .int (nI zt)), (0, .ref h0), (1, .int x1)]) hx hb dX15_sender_6 rfl hl (by decide) rfl (fun ls hl => ?_)
  refine W.widen (k := 0) (n := 0) (by omega) (by omega) ?_
  refine pl_loopm (σ := Nat) A (dC, dI) cs ty gm L [ρ, ρ + 5] F 7 6 (fun j => [(3, .int (nI j)), (2, .int (nI zt)), (0, .ref h0), (1, .int x1)]) (fun j => []) (fun j _ => j ≤ zt) (fun j => zt - j) ?_ 0 F_50 (by omega) hO hR _ _ hP hD hS ls (lv_sub hl [0, 1, 2, 3] rfl)
  rintro j F_79 hv_80 hO hR ih_81 H locs hP hD hS ls hl
  have hl : lv_has ls 6 [(3, .int (nI j)), (2, .int (nI zt)), (0, .ref h0), (1, .int x1)] := hl
  have hv_80 : j ≤ zt := hv_80
  refine W.eq (g2 := F0 m 7 ls []) rfl ?_
  refine lv_iload_n hx hb dX15_sender_7 rfl (lv_at hl 0 rfl) ?_
  refine lv_iload_n hx hb dX15_sender_8 rfl (lv_at hl 1 rfl) ?_
  refine lv_icmp_ge (tgt := 29) hx hb dX15_sender_9 (by decide) (fun c_82 => ?_) (fun c_82 => ?_)
  ·
    have hi_83 : zt ≤ j := leN (N := zt) c_82
    refine lv_iload_n hx hb dX15_sender_29 rfl (lv_at hl 0 rfl) ?_
    refine lv_iload_n hx hb dX15_sender_30 rfl (lv_at hl 1 rfl) ?_
    refine lv_icmp_eq (tgt := 60) hx hb dX15_sender_31 (by decide) (fun c_84 => ?_) (fun c_84 => ?_)
    ·
      have hi_85 : j = zt := (nI_eq (a := j) (b := zt) (by omega) (by omega)).mp c_84
      refine lv_iconst (v := (-1)) hx hb dX15_sender_60 (by decide) ?_
      refine W.widen (k := 0) (n := 0) (by omega) (by omega) ?_
      exact W.iret (v := (-1)) hx hb hr (fun t ht hWm => ⟨⟨(-1), (), rfl, trivial, ⟨F_79, ty, hty, QTm.mk ht hP hD hO hR, hW⟩⟩, hS.F ht⟩) hS.2.2 dX15_sender_61
    ·
      have hi_86 : j ≠ zt := fun q => c_84 (by rw [q])
      refine lv_iload_n hx hb dX15_sender_34 rfl (lv_at hl 0 rfl) ?_
      refine lv_i2l (v := (nI j).toInt64) hx hb dX15_sender_35 rfl ?_
      refine lv_lconst (v := 1) hx hb dX15_sender_36 (by decide) ?_
      refine lv_ldc2 (v := 30) hx hb hown (hts _ kt_1077) dX15_sender_37 ?_
      have hFc := pg_free hD hS hA
      refine va_calli (va_runS (As := [.long ((nI j).toInt64), .long 1, .long 30]) (rest := []) ⟨hx, hb, hml, hown, hts⟩ (s_X15_in l dC dI cs ty gm L H.size F_79 ((nI j).toInt64) 1 30 hW ) ⟨callB_of 3 hts (gi kt_685) rfl rfl rfl (hts _ kt_669) (hts _ kt_705) (by decide +kernel) ⟨Nat.le_of_ble_eq_true rfl, Nat.le_of_ble_eq_true rfl⟩, (hts _ kt_686)⟩ ⟨fun a U g mk q => ⟨q.1, PTm.calling q.2⟩, fun U hU hWm => ⟨rfl, PTm.mk hU hWm hP hK hD hE hO⟩⟩ rfl rfl hl.1 rfl (lv_room (Nat.le_of_ble_eq_true rfl)) dX15_sender_40 ⟨by show _ + 0 ≤ 0; omega, by show _ + 0 ≤ 0; omega⟩) hS (fun q _ h => hFc q h) hFc (fun r_87 u t H1 locs ht hvm hw hB hz1 hk1 hS => ?_)
      obtain ⟨F_88, hB1⟩ := hB
      obtain rfl : F_79 = F_88 := (funext (fun a => hB1.2.2.2 a List.not_mem_nil)).symm
      obtain ⟨hP, hD, hO, hR⟩ := QTm.back hB1 ht hFc hR (fun q h => absurd h List.not_mem_nil)
      generalize H1 = H at hP hS ⊢
      have hw : r_87 = (if 1 ≤ (nI j).toInt64 ∧ (nI j).toInt64 ≤ 30 then 1 else 0) := hw
      have hw_89 := hw
      refine lv_if_eq (tgt := 60) hx hb dX15_sender_43 (by decide) (fun c_90 => ?_) (fun c_90 => ?_)
      ·
        refine lv_iconst (v := (-1)) hx hb dX15_sender_60 (by decide) ?_
        refine W.widen (k := 0) (n := 0) (by omega) (by omega) ?_
        exact W.iret (v := (-1)) hx hb hr (fun t ht hWm => ⟨⟨(-1), (), rfl, trivial, ⟨F_79, ty, hty, QTm.mk ht hP hD hO hR, hW⟩⟩, hS.F ht⟩) hS.2.2 dX15_sender_61
      ·
        have hin := in_nat (lo := 1) (hi := 30) hw_89 c_90 (by decide) (by decide) (by omega)
        refine lv_aload_n hx hb dX15_sender_46 rfl (lv_at hl 2 rfl) ?_
        obtain ⟨zo_91, v11_92, v12_93, v14_94, v15_95, v17_96, v18_97, v19_98, v20_99, v21_100, v22_101, v33_102, v52_103, v53_104, v54_105, hF_106, hq_107, hq_108, hq_109, hq_110, hq_111⟩ := hO.mod hL_h0 hT_h0
        refine pg_get (ci := 15) (v := .ref ta) (C := RX15) (T := TX15) (N := 59) hx hb hts it_15 hown hK hP hL_h0 hF_106 rfl 0 (by decide) (hts _ kt_1075) (fun _ h9 => h9) rfl dX15_sender_47 ?_
        refine lv_iload_n hx hb dX15_sender_50 rfl (lv_at hl 0 rfl) ?_
        refine lv_iconst (v := 1) hx hb dX15_sender_51 (by decide) ?_
        refine lv_iadd hx hb dX15_sender_52 ?_
        refine lv_topi (fun x_112 ex_112 => ?_)
        obtain rfl : x_112 = (nI (j + 1)) := ex_112.trans (nI_add j 1)
        refine lv_iload_n hx hb dX15_sender_53 rfl (lv_at hl 1 rfl) ?_
        obtain ⟨hi_113, ht_114⟩ := hW.f_ta hL_h0 hT_h0
        obtain ⟨hq_115, hq_116⟩ := hW.octs hi_113 ht_114
        have hFc := pg_free hD hS hA
        refine va_calli (va_runS (As := [.ref ta, .int (nI (j + 1)), .int (nI zt)]) (rest := []) ⟨hx, hb, hml, hown, hts⟩ (s_X14_isName_ l dC dI cs ty gm L H.size F_79 ta (ρ + 1) 3000 (j + 1) zt hW hi_113 ht_114 (by first | omega | assumption) (by first | omega | assumption)) ⟨callB_of 3 hts (gi kt_689) rfl rfl rfl (hts _ kt_676) (hts _ kt_863) (by decide +kernel) ⟨Nat.le_of_ble_eq_true rfl, Nat.le_of_ble_eq_true rfl⟩, (hts _ kt_691)⟩ ⟨fun a U g mk q => ⟨q.1, PTm.calling q.2⟩, fun U hU hWm => ⟨rfl, PTm.mk hU hWm hP hK hD hE hO⟩⟩ rfl rfl hl.1 rfl (lv_room (Nat.le_of_ble_eq_true rfl)) dX15_sender_54 ⟨by show _ + 0 ≤ 0; omega, by show _ + 0 ≤ 0; omega⟩) hS (fun q _ h => hFc q h) hFc (fun r_117 u t H1 locs ht hvm hw hB hz1 hk1 hS => ?_)
        obtain ⟨F_118, hB1⟩ := hB
        obtain rfl : F_79 = F_118 := (funext (fun a => hB1.2.2.2 a List.not_mem_nil)).symm
        obtain ⟨hP, hD, hO, hR⟩ := QTm.back hB1 ht hFc hR (fun q h => absurd h List.not_mem_nil)
        generalize H1 = H at hP hS ⊢
        have hw : (r_117 = 0 ∨ (r_117 = 1 ∧ (j + 1) < zt ∧ zt ≤ j + 61)) := hw
        have hw_119 := hw
        refine lv_if_ne (tgt := 62) hx hb dX15_sender_57 (by decide) (fun c_120 => ?_) (fun c_120 => ?_)
        ·
          have hnm := bit1 hw_119 c_120
          refine lv_iconst (v := 0) hx hb dX15_sender_62 (by decide) ?_
          refine lv_istore (lv' := [(4, .int 0), (3, .int (nI j)), (2, .int (nI zt)), (0, .ref h0), (1, .int x1)]) hx hb dX15_sender_63 hl (by decide) rfl (fun ls hl => ?_)
          refine W.widen (k := 0) (n := 0) (by omega) (by omega) ?_
          refine pl_loopm (σ := Nat) A (dC, dI) cs ty gm L [ρ, ρ + 5] F 65 6 (fun i => [(4, .int (nI i)), (3, .int (nI j)), (2, .int (nI zt)), (0, .ref h0), (1, .int x1)]) (fun i => []) (fun i _ => i ≤ j) (fun i => j - i) ?_ 0 F_79 (by omega) hO hR _ _ hP hD hS ls (lv_sub hl [0, 1, 2, 3, 4] rfl)
          rintro i F_121 hv_122 hO hR ih_123 H locs hP hD hS ls hl
          have hl : lv_has ls 6 [(4, .int (nI i)), (3, .int (nI j)), (2, .int (nI zt)), (0, .ref h0), (1, .int x1)] := hl
          have hv_122 : i ≤ j := hv_122
          refine W.eq (g2 := F0 m 65 ls []) rfl ?_
          refine lv_iload hx hb dX15_sender_65 (lv_at hl 0 rfl) ?_
          refine lv_iload_n hx hb dX15_sender_67 rfl (lv_at hl 1 rfl) ?_
          refine lv_icmp_ge (tgt := 132) hx hb dX15_sender_68 (by decide) (fun c_124 => ?_) (fun c_124 => ?_)
          ·
            have hi_125 : j ≤ i := leN (N := j) c_124
            refine lv_aload_n hx hb dX15_sender_132 rfl (lv_at hl 3 rfl) ?_
            obtain ⟨zo_126, v11_127, v12_128, v14_129, v15_130, v17_131, v18_132, v19_133, v20_134, v21_135, v22_136, v33_137, v52_138, v53_139, v54_140, hF_141, hq_142, hq_143, hq_144, hq_145, hq_146⟩ := hO.mod hL_h0 hT_h0
            refine pg_get (ci := 15) (v := .ref lc) (C := RX15) (T := TX15) (N := 59) hx hb hts it_15 hown hK hP hL_h0 hF_141 rfl 9 (by decide) (hts _ kt_778) (fun _ h9 => h9) rfl dX15_sender_133 ?_
            refine lv_aload_n hx hb dX15_sender_136 rfl (lv_at hl 3 rfl) ?_
            refine pg_get (ci := 15) (v := .ref ta) (C := RX15) (T := TX15) (N := 59) hx hb hts it_15 hown hK hP hL_h0 hF_141 rfl 0 (by decide) (hts _ kt_1075) (fun _ h9 => h9) rfl dX15_sender_137 ?_
            refine lv_iconst (v := 0) hx hb dX15_sender_140 (by decide) ?_
            refine lv_iload_n hx hb dX15_sender_141 rfl (lv_at hl 1 rfl) ?_
            refine W.eq (g2 := F0 m 142 ls [.int (nI j), .int (nI 0), .ref ta, .ref lc]) rfl ?_
            obtain ⟨hi_147, r_52, ht_148⟩ := hW.f_lc hL_h0 hT_h0
            obtain ⟨hi_149, ht_150, hq_151⟩ := hW.txt hi_147 ht_148
            have hFc := pg_free hD hS hA
            obtain ⟨z_152, hF_153, hq_154⟩ := hO.txt hi_147 ht_148
            refine va_callv (va_runV (As := [.ref ta, .int (nI 0), .int (nI j)]) (rest := []) ⟨hx, hb, hml, hown, hts⟩ (s_X14_set l dC dI cs ty gm L H.size F_121 lc (ρ + 5) r_52 30 ta (ρ + 1) 3000 0 j hW hi_147 ht_148 hi_113 ht_114 (by first | omega | assumption) (by first | omega | assumption) (by first | omega | assumption)) ⟨callB_of 3 hts (gi kt_979) rfl rfl rfl (hts _ kt_676) (hts _ kt_980) (by decide +kernel) ⟨Nat.le_of_ble_eq_true rfl, Nat.le_of_ble_eq_true rfl⟩, (hts _ kt_981), (hts _ kt_982)⟩ ⟨fun a U g mk q => ⟨q.1, PTm.calling q.2⟩, pg_recv hK hP hi_147 hF_153 (q := (RX14, TX14, 2)) rfl, fun U hU hWm => ⟨rfl, PTm.mk hU hWm hP hK hD hE hO⟩⟩ rfl rfl hl.1 rfl (lv_room (Nat.le_of_ble_eq_true rfl)) dX15_sender_142 ⟨by show _ + 0 ≤ 0; omega, by show _ + 0 ≤ 0; omega⟩) hS (fun q _ h => hFc q h) hFc (fun u t H1 locs ht hvm hw hB hz1 hk1 hS => ?_)
            obtain ⟨F_156, hB1, hq_157⟩ := hB
            obtain ⟨hP, hD, hO, hR⟩ := QTm.back hB1 ht hFc hR (fun q h => by simp only [List.mem_cons, List.not_mem_nil, or_false] at h ⊢; omega)
            have hF_158 : F_156 h0 = .inr (15, (.ref ta) :: (.int (nI 0)) :: (.int (nI zo_126)) :: (.int (nI ze)) :: (.ref ou) :: (.ref so) :: (.ref ad) :: (.ref na) :: (.ref va) :: (.ref lc) :: (.ref dm) :: (.int v11_127) :: (.int v12_128) :: (.ref tg) :: (.int v14_129) :: (.int v15_130) :: (.ref pe) :: (.int v17_131) :: (.int v18_132) :: (.int v19_133) :: (.int v20_134) :: (.int v21_135) :: (.int v22_136) :: (.ref ml) :: (.ref bg) :: (.ref co) :: (.ref sp) :: (.ref nb0) :: (.ref nb1) :: (.ref nb2) :: (.int (nI nf)) :: (.int (nI bd)) :: (.int (nI mm)) :: (.int v33_137) :: (.ref pl) :: (.ref se) :: (.ref ke) :: (.ref wi) :: (.ref hs) :: (.ref mo) :: (.ref po) :: (.ref nu) :: (.ref pr) :: (.ref sq) :: (.ref xa) :: (.ref sa) :: (.ref n64) :: (.ref m64) :: (.ref ex) :: (.ref wh) :: (.ref sd) :: (.ref tk) :: (.int v52_138) :: (.int v53_139) :: (.int v54_140) :: (.ref hd) :: (.ref ak) :: (.ref ho) :: (.ref ot) :: []) := (hB1.2.2.2 h0 (by rw [hT_h0]; simp)).trans hF_141
            generalize H1 = H at hP hS ⊢
            refine lv_aload_n hx hb dX15_sender_145 rfl (lv_at hl 3 rfl) ?_
            refine pg_get (ci := 15) (v := .ref dm) (C := RX15) (T := TX15) (N := 59) hx hb hts it_15 hown hK hP hL_h0 hF_158 rfl 10 (by decide) (hts _ kt_777) (fun _ h9 => h9) rfl dX15_sender_146 ?_
            refine lv_aload_n hx hb dX15_sender_149 rfl (lv_at hl 3 rfl) ?_
            refine pg_get (ci := 15) (v := .ref ta) (C := RX15) (T := TX15) (N := 59) hx hb hts it_15 hown hK hP hL_h0 hF_158 rfl 0 (by decide) (hts _ kt_1075) (fun _ h9 => h9) rfl dX15_sender_150 ?_
            refine lv_iload_n hx hb dX15_sender_153 rfl (lv_at hl 1 rfl) ?_
            refine lv_iconst (v := 1) hx hb dX15_sender_154 (by decide) ?_
            refine lv_iadd hx hb dX15_sender_155 ?_
            refine lv_topi (fun x_159 ex_159 => ?_)
            obtain rfl : x_159 = (nI (j + 1)) := ex_159.trans (nI_add j 1)
            refine lv_iload_n hx hb dX15_sender_156 rfl (lv_at hl 2 rfl) ?_
            obtain ⟨hi_160, r_53, ht_161⟩ := hW.f_dm hL_h0 hT_h0
            obtain ⟨hi_162, ht_163, hq_164⟩ := hW.txt hi_160 ht_161
            have hFc := pg_free hD hS hA
            obtain ⟨z_165, hF_166, hq_167⟩ := hO.txt hi_160 ht_161
            refine va_callv (va_runV (As := [.ref ta, .int (nI (j + 1)), .int (nI zt)]) (rest := []) ⟨hx, hb, hml, hown, hts⟩ (s_X14_set l dC dI cs ty gm L H.size F_156 dm (ρ + 5) r_53 60 ta (ρ + 1) 3000 (j + 1) zt hW hi_160 ht_161 hi_113 ht_114 (by first | omega | assumption) (by first | omega | assumption) (by first | omega | assumption)) ⟨callB_of 3 hts (gi kt_979) rfl rfl rfl (hts _ kt_676) (hts _ kt_980) (by decide +kernel) ⟨Nat.le_of_ble_eq_true rfl, Nat.le_of_ble_eq_true rfl⟩, (hts _ kt_981), (hts _ kt_982)⟩ ⟨fun a U g mk q => ⟨q.1, PTm.calling q.2⟩, pg_recv hK hP hi_160 hF_166 (q := (RX14, TX14, 2)) rfl, fun U hU hWm => ⟨rfl, PTm.mk hU hWm hP hK hD hE hO⟩⟩ rfl rfl hl.1 rfl (lv_room (Nat.le_of_ble_eq_true rfl)) dX15_sender_157 ⟨by show _ + 0 ≤ 0; omega, by show _ + 0 ≤ 0; omega⟩) hS (fun q _ h => hFc q h) hFc (fun u t H1 locs ht hvm hw hB hz1 hk1 hS => ?_)
            obtain ⟨F_169, hB1, hq_170⟩ := hB
            obtain ⟨hP, hD, hO, hR⟩ := QTm.back hB1 ht hFc hR (fun q h => by simp only [List.mem_cons, List.not_mem_nil, or_false] at h ⊢; omega)
            have hF_171 : F_169 h0 = .inr (15, (.ref ta) :: (.int (nI 0)) :: (.int (nI zo_126)) :: (.int (nI ze)) :: (.ref ou) :: (.ref so) :: (.ref ad) :: (.ref na) :: (.ref va) :: (.ref lc) :: (.ref dm) :: (.int v11_127) :: (.int v12_128) :: (.ref tg) :: (.int v14_129) :: (.int v15_130) :: (.ref pe) :: (.int v17_131) :: (.int v18_132) :: (.int v19_133) :: (.int v20_134) :: (.int v21_135) :: (.int v22_136) :: (.ref ml) :: (.ref bg) :: (.ref co) :: (.ref sp) :: (.ref nb0) :: (.ref nb1) :: (.ref nb2) :: (.int (nI nf)) :: (.int (nI bd)) :: (.int (nI mm)) :: (.int v33_137) :: (.ref pl) :: (.ref se) :: (.ref ke) :: (.ref wi) :: (.ref hs) :: (.ref mo) :: (.ref po) :: (.ref nu) :: (.ref pr) :: (.ref sq) :: (.ref xa) :: (.ref sa) :: (.ref n64) :: (.ref m64) :: (.ref ex) :: (.ref wh) :: (.ref sd) :: (.ref tk) :: (.int v52_138) :: (.int v53_139) :: (.int v54_140) :: (.ref hd) :: (.ref ak) :: (.ref ho) :: (.ref ot) :: []) := (hB1.2.2.2 h0 (by rw [hT_h0]; simp)).trans hF_158
            generalize H1 = H at hP hS ⊢
            refine lv_aload_n hx hb dX15_sender_160 rfl (lv_at hl 3 rfl) ?_
            refine lv_iload_n hx hb dX15_sender_161 rfl (lv_at hl 4 rfl) ?_
            refine pg_put (ci := 15) (v := .int x1) (ty := .int) (C := RX15) (T := TX15) (N := 59) hx hb hts it_15 tyX15 tyX15_ok nmX15 hown hK hP hD hS hL_h0 hF_171 rfl 11 (by decide) (hts _ kt_729) (fun _ h9 => h9) rfl (by decide +kernel) (rfl) (rfl) (Nat.le_of_ble_eq_true rfl) dX15_sender_162 (fun H locs hP hD hS => ?_)
            obtain ⟨F_172, he_173, hP, hD, hO, hR⟩ : ∃ G, G = va_up F_169 h0 (.inr (15, (.ref ta) :: (.int (nI 0)) :: (.int (nI zo_126)) :: (.int (nI ze)) :: (.ref ou) :: (.ref so) :: (.ref ad) :: (.ref na) :: (.ref va) :: (.ref lc) :: (.ref dm) :: (.int x1) :: (.int v12_128) :: (.ref tg) :: (.int v14_129) :: (.int v15_130) :: (.ref pe) :: (.int v17_131) :: (.int v18_132) :: (.int v19_133) :: (.int v20_134) :: (.int v21_135) :: (.int v22_136) :: (.ref ml) :: (.ref bg) :: (.ref co) :: (.ref sp) :: (.ref nb0) :: (.ref nb1) :: (.ref nb2) :: (.int (nI nf)) :: (.int (nI bd)) :: (.int (nI mm)) :: (.int v33_137) :: (.ref pl) :: (.ref se) :: (.ref ke) :: (.ref wi) :: (.ref hs) :: (.ref mo) :: (.ref po) :: (.ref nu) :: (.ref pr) :: (.ref sq) :: (.ref xa) :: (.ref sa) :: (.ref n64) :: (.ref m64) :: (.ref ex) :: (.ref wh) :: (.ref sd) :: (.ref tk) :: (.int v52_138) :: (.int v53_139) :: (.int v54_140) :: (.ref hd) :: (.ref ak) :: (.ref ho) :: (.ref ot) :: [])) ∧ va_P (dC, dI) vwCl (va_pl L G) H ∧ va_D A (va_pl L G) ∧ OKm cs ty gm L G ∧ FR ty [ρ, ρ + 5] F G := ⟨_, rfl, hP, hD, hO.up (shm.mod hT_h0 ⟨zo_126, x1, v12_128, v14_129, v15_130, v17_131, v18_132, v19_133, v20_134, v21_135, v22_136, v33_137, v52_138, v53_139, v54_140, rfl, (by first | omega | assumption | exact Or.inl rfl | exact Or.inr rfl), (by first | omega | assumption | exact Or.inl rfl | exact Or.inr rfl), (by first | omega | assumption | exact Or.inl rfl | exact Or.inr rfl), (by first | omega | assumption | exact Or.inl rfl | exact Or.inr rfl), (by first | omega | assumption | exact Or.inl rfl | exact Or.inr rfl)⟩), hR.up hT_h0 (by simp)⟩
            have hF_174 : F_172 h0 = .inr (15, (.ref ta) :: (.int (nI 0)) :: (.int (nI zo_126)) :: (.int (nI ze)) :: (.ref ou) :: (.ref so) :: (.ref ad) :: (.ref na) :: (.ref va) :: (.ref lc) :: (.ref dm) :: (.int x1) :: (.int v12_128) :: (.ref tg) :: (.int v14_129) :: (.int v15_130) :: (.ref pe) :: (.int v17_131) :: (.int v18_132) :: (.int v19_133) :: (.int v20_134) :: (.int v21_135) :: (.int v22_136) :: (.ref ml) :: (.ref bg) :: (.ref co) :: (.ref sp) :: (.ref nb0) :: (.ref nb1) :: (.ref nb2) :: (.int (nI nf)) :: (.int (nI bd)) :: (.int (nI mm)) :: (.int v33_137) :: (.ref pl) :: (.ref se) :: (.ref ke) :: (.ref wi) :: (.ref hs) :: (.ref mo) :: (.ref po) :: (.ref nu) :: (.ref pr) :: (.ref sq) :: (.ref xa) :: (.ref sa) :: (.ref n64) :: (.ref m64) :: (.ref ex) :: (.ref wh) :: (.ref sd) :: (.ref tk) :: (.int v52_138) :: (.int v53_139) :: (.int v54_140) :: (.ref hd) :: (.ref ak) :: (.ref ho) :: (.ref ot) :: []) := by rw [he_173]; exact up_self
            have hF_175 : F_172 dm = .inr (14, [.ref r_53, .int (nI (zt - (j + 1)))]) := by rw [he_173, up_ne (ne_ty ht_161 hT_h0 (by simp))]; exact hq_170
            refine lv_aload_n hx hb dX15_sender_165 rfl (lv_at hl 3 rfl) ?_
            refine lv_iconst (v := 1) hx hb dX15_sender_166 (by decide) ?_
            refine pg_put (ci := 15) (v := .int 1) (ty := .boolean) (C := RX15) (T := TX15) (N := 59) hx hb hts it_15 tyX15 tyX15_ok nmX15 hown hK hP hD hS hL_h0 hF_174 rfl 12 (by decide) (hts _ kt_1001) (fun _ h9 => h9) rfl (by decide +kernel) (rfl) (rfl) (Nat.le_of_ble_eq_true rfl) dX15_sender_167 (fun H locs hP hD hS => ?_)
            obtain ⟨F_176, he_177, hP, hD, hO, hR⟩ : ∃ G, G = va_up F_172 h0 (.inr (15, (.ref ta) :: (.int (nI 0)) :: (.int (nI zo_126)) :: (.int (nI ze)) :: (.ref ou) :: (.ref so) :: (.ref ad) :: (.ref na) :: (.ref va) :: (.ref lc) :: (.ref dm) :: (.int x1) :: (.int 1) :: (.ref tg) :: (.int v14_129) :: (.int v15_130) :: (.ref pe) :: (.int v17_131) :: (.int v18_132) :: (.int v19_133) :: (.int v20_134) :: (.int v21_135) :: (.int v22_136) :: (.ref ml) :: (.ref bg) :: (.ref co) :: (.ref sp) :: (.ref nb0) :: (.ref nb1) :: (.ref nb2) :: (.int (nI nf)) :: (.int (nI bd)) :: (.int (nI mm)) :: (.int v33_137) :: (.ref pl) :: (.ref se) :: (.ref ke) :: (.ref wi) :: (.ref hs) :: (.ref mo) :: (.ref po) :: (.ref nu) :: (.ref pr) :: (.ref sq) :: (.ref xa) :: (.ref sa) :: (.ref n64) :: (.ref m64) :: (.ref ex) :: (.ref wh) :: (.ref sd) :: (.ref tk) :: (.int v52_138) :: (.int v53_139) :: (.int v54_140) :: (.ref hd) :: (.ref ak) :: (.ref ho) :: (.ref ot) :: [])) ∧ va_P (dC, dI) vwCl (va_pl L G) H ∧ va_D A (va_pl L G) ∧ OKm cs ty gm L G ∧ FR ty [ρ, ρ + 5] F G := ⟨_, rfl, hP, hD, hO.up (shm.mod hT_h0 ⟨zo_126, x1, 1, v14_129, v15_130, v17_131, v18_132, v19_133, v20_134, v21_135, v22_136, v33_137, v52_138, v53_139, v54_140, rfl, (by first | omega | assumption | exact Or.inl rfl | exact Or.inr rfl), (by first | omega | assumption | exact Or.inl rfl | exact Or.inr rfl), (by first | omega | assumption | exact Or.inl rfl | exact Or.inr rfl), (by first | omega | assumption | exact Or.inl rfl | exact Or.inr rfl), (by first | omega | assumption | exact Or.inl rfl | exact Or.inr rfl)⟩), hR.up hT_h0 (by simp)⟩
            have hF_178 : F_176 h0 = .inr (15, (.ref ta) :: (.int (nI 0)) :: (.int (nI zo_126)) :: (.int (nI ze)) :: (.ref ou) :: (.ref so) :: (.ref ad) :: (.ref na) :: (.ref va) :: (.ref lc) :: (.ref dm) :: (.int x1) :: (.int 1) :: (.ref tg) :: (.int v14_129) :: (.int v15_130) :: (.ref pe) :: (.int v17_131) :: (.int v18_132) :: (.int v19_133) :: (.int v20_134) :: (.int v21_135) :: (.int v22_136) :: (.ref ml) :: (.ref bg) :: (.ref co) :: (.ref sp) :: (.ref nb0) :: (.ref nb1) :: (.ref nb2) :: (.int (nI nf)) :: (.int (nI bd)) :: (.int (nI mm)) :: (.int v33_137) :: (.ref pl) :: (.ref se) :: (.ref ke) :: (.ref wi) :: (.ref hs) :: (.ref mo) :: (.ref po) :: (.ref nu) :: (.ref pr) :: (.ref sq) :: (.ref xa) :: (.ref sa) :: (.ref n64) :: (.ref m64) :: (.ref ex) :: (.ref wh) :: (.ref sd) :: (.ref tk) :: (.int v52_138) :: (.int v53_139) :: (.int v54_140) :: (.ref hd) :: (.ref ak) :: (.ref ho) :: (.ref ot) :: []) := by rw [he_177]; exact up_self
            have hF_179 : F_176 dm = .inr (14, [.ref r_53, .int (nI (zt - (j + 1)))]) := by rw [he_177, up_ne (ne_ty ht_161 hT_h0 (by simp))]; exact hF_175
            refine lv_iconst (v := 0) hx hb dX15_sender_170 (by decide) ?_
            refine W.widen (k := 0) (n := 0) (by omega) (by omega) ?_
            exact W.iret (v := 0) hx hb hr (fun t ht hWm => ⟨⟨0, (), rfl, trivial, ⟨F_176, ty, hty, QTm.mk ht hP hD hO hR, hW⟩⟩, hS.F ht⟩) hS.2.2 dX15_sender_171
          ·
            have hi_180 : i < j := ltN (N := j) c_124
            refine lv_aload_n hx hb dX15_sender_71 rfl (lv_at hl 3 rfl) ?_
            obtain ⟨zo_181, v11_182, v12_183, v14_184, v15_185, v17_186, v18_187, v19_188, v20_189, v21_190, v22_191, v33_192, v52_193, v53_194, v54_195, hF_196, hq_197, hq_198, hq_199, hq_200, hq_201⟩ := hO.mod hL_h0 hT_h0
            refine pg_get (ci := 15) (v := .ref ta) (C := RX15) (T := TX15) (N := 59) hx hb hts it_15 hown hK hP hL_h0 hF_196 rfl 0 (by decide) (hts _ kt_1075) (fun _ h9 => h9) rfl dX15_sender_72 ?_
            refine lv_iload hx hb dX15_sender_75 (lv_at hl 0 rfl) ?_
            obtain ⟨f_202, hF_203, hq_204⟩ := hO.octs hi_113 ht_114
            refine pg_bald hx hb hK hP hi_113 1 hF_203 rfl (vp_in_nI (by omega) (by omega)) dX15_sender_77 ?_
            refine lv_topi (fun x_205 ex_205 => ?_)
            obtain rfl : x_205 = f_202 i := ex_205.trans (congrArg f_202 (show ((nI i) : Int32).toNatClampNeg = i from nI_clamp (by omega)))
            refine lv_istore (lv' := [(5, .int (f_202 i)), (4, .int (nI i)), (3, .int (nI j)), (2, .int (nI zt)), (0, .ref h0), (1, .int x1)]) hx hb dX15_sender_78 hl (by decide) rfl (fun ls hl => ?_)
            have hF_208 : F ta = .inl (cs 17, 3000, .inl f_202) := (hR ta (by rw [ht_114]; simp)).symm.trans hF_203
            refine W.widen (k := 0) (n := 0) (by omega) (by omega) ?_
            refine pl_cutm (σ := Unit) A (dC, dI) cs ty gm L [ρ, ρ + 5] F 126 6 (fun u0 => [(4, .int (nI i)), (3, .int (nI j)), (2, .int (nI zt)), (0, .ref h0), (1, .int x1)]) (fun u0 => []) (fun u0 _ => True) ?_ (fun jn_206 => ?_)
            ·
              rintro u0 F_207 hv_209 hO hR H locs hP hD hS ls hl
              have hl : lv_has ls 6 [(4, .int (nI i)), (3, .int (nI j)), (2, .int (nI zt)), (0, .ref h0), (1, .int x1)] := hl
              have hv_209 : True := hv_209
              refine W.eq (g2 := F0 m 126 ls []) rfl ?_
              have hF_210 : F_207 ta = .inl (cs 17, 3000, .inl f_202) := (hR ta (by rw [ht_114]; simp)).trans hF_208
              refine lv_iinc (v := (nI (i + 1))) (lv' := [(4, .int (nI (i + 1))), (3, .int (nI j)), (2, .int (nI zt)), (0, .ref h0), (1, .int x1)]) hx hb dX15_sender_126 hl (k := 0) rfl (nI_1 _) (by decide) rfl (fun ls hl => ?_)
              refine lv_goto (tgt := 65) hx hb dX15_sender_129 (by decide) ?_
              refine W.widen (k := 0) (n := 0) (by omega) (by omega) ?_
              exact ih_123 (i + 1) F_207 (by first | omega | exact ⟨by omega, by omega⟩ | trivial) (by show j - (i + 1) < j - i; omega) hO hR _ _ hP hD hS ls (lv_sub hl [0, 1, 2, 3, 4] rfl)
            ·
              refine lv_iload hx hb dX15_sender_80 (lv_at hl 0 rfl) ?_
              have hFc := pg_free hD hS hA
              refine va_calli (va_runS (As := [.int (f_202 i)]) (rest := []) ⟨hx, hb, hml, hown, hts⟩ (s_X15_isSmall l dC dI cs ty gm L H.size F_121 (f_202 i) hW ) ⟨callB_of 1 hts (gi kt_668) rfl rfl rfl (hts _ kt_669) (hts _ kt_670) (by decide +kernel) ⟨Nat.le_of_ble_eq_true rfl, Nat.le_of_ble_eq_true rfl⟩, (hts _ kt_671)⟩ ⟨fun a U g mk q => ⟨q.1, PTm.calling q.2⟩, fun U hU hWm => ⟨rfl, PTm.mk hU hWm hP hK hD hE hO⟩⟩ rfl rfl hl.1 rfl (lv_room (Nat.le_of_ble_eq_true rfl)) dX15_sender_82 ⟨by show _ + 0 ≤ 0; omega, by show _ + 0 ≤ 0; omega⟩) hS (fun q _ h => hFc q h) hFc (fun r_211 u t H1 locs ht hvm hw hB hz1 hk1 hS => ?_)
              obtain ⟨F_212, hB1⟩ := hB
              obtain rfl : F_121 = F_212 := (funext (fun a => hB1.2.2.2 a List.not_mem_nil)).symm
              obtain ⟨hP, hD, hO, hR⟩ := QTm.back hB1 ht hFc hR (fun q h => absurd h List.not_mem_nil)
              generalize H1 = H at hP hS ⊢
              have hw : (r_211 = 0 ∨ r_211 = 1) := hw
              have hw_213 := hw
              refine lv_if_ne (tgt := 126) hx hb dX15_sender_85 (by decide) (fun c_214 => ?_) (fun c_214 => ?_)
              ·
                refine W.widen (k := 0) (n := 0) (by omega) (by omega) ?_
                exact jn_206 () F_121 (trivial) hO hR _ _ hP hD hS ls (lv_sub hl [1, 2, 3, 4, 5] rfl)
              ·
                refine lv_iload hx hb dX15_sender_88 (lv_at hl 0 rfl) ?_
                have hFc := pg_free hD hS hA
                refine va_calli (va_runS (As := [.int (f_202 i)]) (rest := []) ⟨hx, hb, hml, hown, hts⟩ (s_X15_isDigit l dC dI cs ty gm L H.size F_121 (f_202 i) hW ) ⟨callB_of 1 hts (gi kt_687) rfl rfl rfl (hts _ kt_669) (hts _ kt_707) (by decide +kernel) ⟨Nat.le_of_ble_eq_true rfl, Nat.le_of_ble_eq_true rfl⟩, (hts _ kt_688)⟩ ⟨fun a U g mk q => ⟨q.1, PTm.calling q.2⟩, fun U hU hWm => ⟨rfl, PTm.mk hU hWm hP hK hD hE hO⟩⟩ rfl rfl hl.1 rfl (lv_room (Nat.le_of_ble_eq_true rfl)) dX15_sender_90 ⟨by show _ + 0 ≤ 0; omega, by show _ + 0 ≤ 0; omega⟩) hS (fun q _ h => hFc q h) hFc (fun r_215 u t H1 locs ht hvm hw hB hz1 hk1 hS => ?_)
                obtain ⟨F_216, hB1⟩ := hB
                obtain rfl : F_121 = F_216 := (funext (fun a => hB1.2.2.2 a List.not_mem_nil)).symm
                obtain ⟨hP, hD, hO, hR⟩ := QTm.back hB1 ht hFc hR (fun q h => absurd h List.not_mem_nil)
                generalize H1 = H at hP hS ⊢
                have hw : (r_215 = 0 ∨ r_215 = 1) := hw
                have hw_217 := hw
                refine lv_if_ne (tgt := 126) hx hb dX15_sender_93 (by decide) (fun c_218 => ?_) (fun c_218 => ?_)
                ·
                  refine W.widen (k := 0) (n := 0) (by omega) (by omega) ?_
                  exact jn_206 () F_121 (trivial) hO hR _ _ hP hD hS ls (lv_sub hl [1, 2, 3, 4, 5] rfl)
                ·
                  refine lv_iload hx hb dX15_sender_96 (lv_at hl 0 rfl) ?_
                  refine lv_bipush (v := 46) hx hb dX15_sender_98 (by decide) ?_
                  refine lv_icmp_eq (tgt := 126) hx hb dX15_sender_100 (by decide) (fun c_219 => ?_) (fun c_219 => ?_)
                  ·
                    refine W.widen (k := 0) (n := 0) (by omega) (by omega) ?_
                    exact jn_206 () F_121 (trivial) hO hR _ _ hP hD hS ls (lv_sub hl [1, 2, 3, 4, 5] rfl)
                  ·
                    refine lv_iload hx hb dX15_sender_103 (lv_at hl 0 rfl) ?_
                    refine lv_bipush (v := 45) hx hb dX15_sender_105 (by decide) ?_
                    refine lv_icmp_eq (tgt := 126) hx hb dX15_sender_107 (by decide) (fun c_220 => ?_) (fun c_220 => ?_)
                    ·
                      refine W.widen (k := 0) (n := 0) (by omega) (by omega) ?_
                      exact jn_206 () F_121 (trivial) hO hR _ _ hP hD hS ls (lv_sub hl [1, 2, 3, 4, 5] rfl)
                    ·
                      refine lv_iload hx hb dX15_sender_110 (lv_at hl 0 rfl) ?_
                      refine lv_bipush (v := 95) hx hb dX15_sender_112 (by decide) ?_
                      refine lv_icmp_eq (tgt := 126) hx hb dX15_sender_114 (by decide) (fun c_221 => ?_) (fun c_221 => ?_)
                      ·
                        refine W.widen (k := 0) (n := 0) (by omega) (by omega) ?_
                        exact jn_206 () F_121 (trivial) hO hR _ _ hP hD hS ls (lv_sub hl [1, 2, 3, 4, 5] rfl)
                      ·
                        refine lv_iload hx hb dX15_sender_117 (lv_at hl 0 rfl) ?_
                        refine lv_bipush (v := 43) hx hb dX15_sender_119 (by decide) ?_
                        refine lv_icmp_eq (tgt := 126) hx hb dX15_sender_121 (by decide) (fun c_222 => ?_) (fun c_222 => ?_)
                        ·
                          refine W.widen (k := 0) (n := 0) (by omega) (by omega) ?_
                          exact jn_206 () F_121 (trivial) hO hR _ _ hP hD hS ls (lv_sub hl [1, 2, 3, 4, 5] rfl)
                        ·
                          refine lv_iconst (v := (-1)) hx hb dX15_sender_124 (by decide) ?_
                          refine W.widen (k := 0) (n := 0) (by omega) (by omega) ?_
                          exact W.iret (v := (-1)) hx hb hr (fun t ht hWm => ⟨⟨(-1), (), rfl, trivial, ⟨F_121, ty, hty, QTm.mk ht hP hD hO hR, hW⟩⟩, hS.F ht⟩) hS.2.2 dX15_sender_125
        ·
          refine lv_iconst (v := (-1)) hx hb dX15_sender_60 (by decide) ?_
          refine W.widen (k := 0) (n := 0) (by omega) (by omega) ?_
          exact W.iret (v := (-1)) hx hb hr (fun t ht hWm => ⟨⟨(-1), (), rfl, trivial, ⟨F_79, ty, hty, QTm.mk ht hP hD hO hR, hW⟩⟩, hS.F ht⟩) hS.2.2 dX15_sender_61
  ·
    have hi_223 : j < zt := ltN (N := zt) c_82
    refine lv_aload_n hx hb dX15_sender_12 rfl (lv_at hl 2 rfl) ?_
    obtain ⟨zo_224, v11_225, v12_226, v14_227, v15_228, v17_229, v18_230, v19_231, v20_232, v21_233, v22_234, v33_235, v52_236, v53_237, v54_238, hF_239, hq_240, hq_241, hq_242, hq_243, hq_244⟩ := hO.mod hL_h0 hT_h0
    refine pg_get (ci := 15) (v := .ref ta) (C := RX15) (T := TX15) (N := 59) hx hb hts it_15 hown hK hP hL_h0 hF_239 rfl 0 (by decide) (hts _ kt_1075) (fun _ h9 => h9) rfl dX15_sender_13 ?_
    refine lv_iload_n hx hb dX15_sender_16 rfl (lv_at hl 0 rfl) ?_
    obtain ⟨hi_245, ht_246⟩ := hW.f_ta hL_h0 hT_h0
    obtain ⟨hq_247, hq_248⟩ := hW.octs hi_245 ht_246
    obtain ⟨f_249, hF_250, hq_251⟩ := hO.octs hi_245 ht_246
    refine pg_bald hx hb hK hP hi_245 1 hF_250 rfl (vp_in_nI (by omega) (by omega)) dX15_sender_17 ?_
    refine lv_topi (fun x_252 ex_252 => ?_)
    obtain rfl : x_252 = f_249 j := ex_252.trans (congrArg f_249 (show ((nI j) : Int32).toNatClampNeg = j from nI_clamp (by omega)))
    refine lv_bipush (v := 64) hx hb dX15_sender_18 (by decide) ?_
    refine lv_icmp_eq (tgt := 29) hx hb dX15_sender_20 (by decide) (fun c_253 => ?_) (fun c_253 => ?_)
    ·
      refine lv_iload_n hx hb dX15_sender_29 rfl (lv_at hl 0 rfl) ?_
      refine lv_iload_n hx hb dX15_sender_30 rfl (lv_at hl 1 rfl) ?_
      refine lv_icmp_eq (tgt := 60) hx hb dX15_sender_31 (by decide) (fun c_254 => ?_) (fun c_254 => ?_)
      ·
        have hi_255 : j = zt := (nI_eq (a := j) (b := zt) (by omega) (by omega)).mp c_254
        refine lv_iconst (v := (-1)) hx hb dX15_sender_60 (by decide) ?_
        refine W.widen (k := 0) (n := 0) (by omega) (by omega) ?_
        exact W.iret (v := (-1)) hx hb hr (fun t ht hWm => ⟨⟨(-1), (), rfl, trivial, ⟨F_79, ty, hty, QTm.mk ht hP hD hO hR, hW⟩⟩, hS.F ht⟩) hS.2.2 dX15_sender_61
      ·
        have hi_256 : j ≠ zt := fun q => c_254 (by rw [q])
        refine lv_iload_n hx hb dX15_sender_34 rfl (lv_at hl 0 rfl) ?_
        refine lv_i2l (v := (nI j).toInt64) hx hb dX15_sender_35 rfl ?_
        refine lv_lconst (v := 1) hx hb dX15_sender_36 (by decide) ?_
        refine lv_ldc2 (v := 30) hx hb hown (hts _ kt_1077) dX15_sender_37 ?_
        have hFc := pg_free hD hS hA
        refine va_calli (va_runS (As := [.long ((nI j).toInt64), .long 1, .long 30]) (rest := []) ⟨hx, hb, hml, hown, hts⟩ (s_X15_in l dC dI cs ty gm L H.size F_79 ((nI j).toInt64) 1 30 hW ) ⟨callB_of 3 hts (gi kt_685) rfl rfl rfl (hts _ kt_669) (hts _ kt_705) (by decide +kernel) ⟨Nat.le_of_ble_eq_true rfl, Nat.le_of_ble_eq_true rfl⟩, (hts _ kt_686)⟩ ⟨fun a U g mk q => ⟨q.1, PTm.calling q.2⟩, fun U hU hWm => ⟨rfl, PTm.mk hU hWm hP hK hD hE hO⟩⟩ rfl rfl hl.1 rfl (lv_room (Nat.le_of_ble_eq_true rfl)) dX15_sender_40 ⟨by show _ + 0 ≤ 0; omega, by show _ + 0 ≤ 0; omega⟩) hS (fun q _ h => hFc q h) hFc (fun r_257 u t H1 locs ht hvm hw hB hz1 hk1 hS => ?_)
        obtain ⟨F_258, hB1⟩ := hB
        obtain rfl : F_79 = F_258 := (funext (fun a => hB1.2.2.2 a List.not_mem_nil)).symm
        obtain ⟨hP, hD, hO, hR⟩ := QTm.back hB1 ht hFc hR (fun q h => absurd h List.not_mem_nil)
        generalize H1 = H at hP hS ⊢
        have hw : r_257 = (if 1 ≤ (nI j).toInt64 ∧ (nI j).toInt64 ≤ 30 then 1 else 0) := hw
        have hw_259 := hw
        refine lv_if_eq (tgt := 60) hx hb dX15_sender_43 (by decide) (fun c_260 => ?_) (fun c_260 => ?_)
        ·
          refine lv_iconst (v := (-1)) hx hb dX15_sender_60 (by decide) ?_
          refine W.widen (k := 0) (n := 0) (by omega) (by omega) ?_
          exact W.iret (v := (-1)) hx hb hr (fun t ht hWm => ⟨⟨(-1), (), rfl, trivial, ⟨F_79, ty, hty, QTm.mk ht hP hD hO hR, hW⟩⟩, hS.F ht⟩) hS.2.2 dX15_sender_61
        ·
          have hin := in_nat (lo := 1) (hi := 30) hw_259 c_260 (by decide) (by decide) (by omega)
          refine lv_aload_n hx hb dX15_sender_46 rfl (lv_at hl 2 rfl) ?_
          refine pg_get (ci := 15) (v := .ref ta) (C := RX15) (T := TX15) (N := 59) hx hb hts it_15 hown hK hP hL_h0 hF_239 rfl 0 (by decide) (hts _ kt_1075) (fun _ h9 => h9) rfl dX15_sender_47 ?_
          refine lv_iload_n hx hb dX15_sender_50 rfl (lv_at hl 0 rfl) ?_
          refine lv_iconst (v := 1) hx hb dX15_sender_51 (by decide) ?_
          refine lv_iadd hx hb dX15_sender_52 ?_
          refine lv_topi (fun x_261 ex_261 => ?_)
          obtain rfl : x_261 = (nI (j + 1)) := ex_261.trans (nI_add j 1)
          refine lv_iload_n hx hb dX15_sender_53 rfl (lv_at hl 1 rfl) ?_
          have hFc := pg_free hD hS hA
          refine va_calli (va_runS (As := [.ref ta, .int (nI (j + 1)), .int (nI zt)]) (rest := []) ⟨hx, hb, hml, hown, hts⟩ (s_X14_isName_ l dC dI cs ty gm L H.size F_79 ta (ρ + 1) 3000 (j + 1) zt hW hi_245 ht_246 (by first | omega | assumption) (by first | omega | assumption)) ⟨callB_of 3 hts (gi kt_689) rfl rfl rfl (hts _ kt_676) (hts _ kt_863) (by decide +kernel) ⟨Nat.le_of_ble_eq_true rfl, Nat.le_of_ble_eq_true rfl⟩, (hts _ kt_691)⟩ ⟨fun a U g mk q => ⟨q.1, PTm.calling q.2⟩, fun U hU hWm => ⟨rfl, PTm.mk hU hWm hP hK hD hE hO⟩⟩ rfl rfl hl.1 rfl (lv_room (Nat.le_of_ble_eq_true rfl)) dX15_sender_54 ⟨by show _ + 0 ≤ 0; omega, by show _ + 0 ≤ 0; omega⟩) hS (fun q _ h => hFc q h) hFc (fun r_262 u t H1 locs ht hvm hw hB hz1 hk1 hS => ?_)
          obtain ⟨F_263, hB1⟩ := hB
          obtain rfl : F_79 = F_263 := (funext (fun a => hB1.2.2.2 a List.not_mem_nil)).symm
          obtain ⟨hP, hD, hO, hR⟩ := QTm.back hB1 ht hFc hR (fun q h => absurd h List.not_mem_nil)
          generalize H1 = H at hP hS ⊢
          have hw : (r_262 = 0 ∨ (r_262 = 1 ∧ (j + 1) < zt ∧ zt ≤ j + 61)) := hw
          have hw_264 := hw
          refine lv_if_ne (tgt := 62) hx hb dX15_sender_57 (by decide) (fun c_265 => ?_) (fun c_265 => ?_)
          ·
            have hnm := bit1 hw_264 c_265
            refine lv_iconst (v := 0) hx hb dX15_sender_62 (by decide) ?_
            refine lv_istore (lv' := [(4, .int 0), (3, .int (nI j)), (2, .int (nI zt)), (0, .ref h0), (1, .int x1)]) hx hb dX15_sender_63 hl (by decide) rfl (fun ls hl => ?_)
            refine W.widen (k := 0) (n := 0) (by omega) (by omega) ?_
            have hF_267 : F ta = .inl (cs 17, 3000, .inl f_249) := (hR ta (by rw [ht_246]; simp)).symm.trans hF_250
            refine pl_loopm (σ := Nat) A (dC, dI) cs ty gm L [ρ, ρ + 5] F 65 6 (fun i => [(4, .int (nI i)), (3, .int (nI j)), (2, .int (nI zt)), (0, .ref h0), (1, .int x1)]) (fun i => []) (fun i _ => i ≤ j) (fun i => j - i) ?_ 0 F_79 (by omega) hO hR _ _ hP hD hS ls (lv_sub hl [0, 1, 2, 3, 4] rfl)
            rintro i F_266 hv_268 hO hR ih_269 H locs hP hD hS ls hl
            have hl : lv_has ls 6 [(4, .int (nI i)), (3, .int (nI j)), (2, .int (nI zt)), (0, .ref h0), (1, .int x1)] := hl
            have hv_268 : i ≤ j := hv_268
            refine W.eq (g2 := F0 m 65 ls []) rfl ?_
            have hF_270 : F_266 ta = .inl (cs 17, 3000, .inl f_249) := (hR ta (by rw [ht_246]; simp)).trans hF_267
            refine lv_iload hx hb dX15_sender_65 (lv_at hl 0 rfl) ?_
            refine lv_iload_n hx hb dX15_sender_67 rfl (lv_at hl 1 rfl) ?_
            refine lv_icmp_ge (tgt := 132) hx hb dX15_sender_68 (by decide) (fun c_271 => ?_) (fun c_271 => ?_)
            ·
              have hi_272 : j ≤ i := leN (N := j) c_271
              refine lv_aload_n hx hb dX15_sender_132 rfl (lv_at hl 3 rfl) ?_
              obtain ⟨zo_273, v11_274, v12_275, v14_276, v15_277, v17_278, v18_279, v19_280, v20_281, v21_282, v22_283, v33_284, v52_285, v53_286, v54_287, hF_288, hq_289, hq_290, hq_291, hq_292, hq_293⟩ := hO.mod hL_h0 hT_h0
              refine pg_get (ci := 15) (v := .ref lc) (C := RX15) (T := TX15) (N := 59) hx hb hts it_15 hown hK hP hL_h0 hF_288 rfl 9 (by decide) (hts _ kt_778) (fun _ h9 => h9) rfl dX15_sender_133 ?_
              refine lv_aload_n hx hb dX15_sender_136 rfl (lv_at hl 3 rfl) ?_
              refine pg_get (ci := 15) (v := .ref ta) (C := RX15) (T := TX15) (N := 59) hx hb hts it_15 hown hK hP hL_h0 hF_288 rfl 0 (by decide) (hts _ kt_1075) (fun _ h9 => h9) rfl dX15_sender_137 ?_
              refine lv_iconst (v := 0) hx hb dX15_sender_140 (by decide) ?_
              refine lv_iload_n hx hb dX15_sender_141 rfl (lv_at hl 1 rfl) ?_
              refine W.eq (g2 := F0 m 142 ls [.int (nI j), .int (nI 0), .ref ta, .ref lc]) rfl ?_
              obtain ⟨hi_294, r_52, ht_295⟩ := hW.f_lc hL_h0 hT_h0
              obtain ⟨hi_296, ht_297, hq_298⟩ := hW.txt hi_294 ht_295
              have hFc := pg_free hD hS hA
              obtain ⟨z_299, hF_300, hq_301⟩ := hO.txt hi_294 ht_295
              refine va_callv (va_runV (As := [.ref ta, .int (nI 0), .int (nI j)]) (rest := []) ⟨hx, hb, hml, hown, hts⟩ (s_X14_set l dC dI cs ty gm L H.size F_266 lc (ρ + 5) r_52 30 ta (ρ + 1) 3000 0 j hW hi_294 ht_295 hi_245 ht_246 (by first | omega | assumption) (by first | omega | assumption) (by first | omega | assumption)) ⟨callB_of 3 hts (gi kt_979) rfl rfl rfl (hts _ kt_676) (hts _ kt_980) (by decide +kernel) ⟨Nat.le_of_ble_eq_true rfl, Nat.le_of_ble_eq_true rfl⟩, (hts _ kt_981), (hts _ kt_982)⟩ ⟨fun a U g mk q => ⟨q.1, PTm.calling q.2⟩, pg_recv hK hP hi_294 hF_300 (q := (RX14, TX14, 2)) rfl, fun U hU hWm => ⟨rfl, PTm.mk hU hWm hP hK hD hE hO⟩⟩ rfl rfl hl.1 rfl (lv_room (Nat.le_of_ble_eq_true rfl)) dX15_sender_142 ⟨by show _ + 0 ≤ 0; omega, by show _ + 0 ≤ 0; omega⟩) hS (fun q _ h => hFc q h) hFc (fun u t H1 locs ht hvm hw hB hz1 hk1 hS => ?_)
              obtain ⟨F_303, hB1, hq_304⟩ := hB
              obtain ⟨hP, hD, hO, hR⟩ := QTm.back hB1 ht hFc hR (fun q h => by simp only [List.mem_cons, List.not_mem_nil, or_false] at h ⊢; omega)
              have hF_305 : F_303 ta = .inl (cs 17, 3000, .inl f_249) := (hB1.2.2.2 ta (by rw [ht_246]; simp)).trans hF_270
              have hF_306 : F_303 h0 = .inr (15, (.ref ta) :: (.int (nI 0)) :: (.int (nI zo_273)) :: (.int (nI ze)) :: (.ref ou) :: (.ref so) :: (.ref ad) :: (.ref na) :: (.ref va) :: (.ref lc) :: (.ref dm) :: (.int v11_274) :: (.int v12_275) :: (.ref tg) :: (.int v14_276) :: (.int v15_277) :: (.ref pe) :: (.int v17_278) :: (.int v18_279) :: (.int v19_280) :: (.int v20_281) :: (.int v21_282) :: (.int v22_283) :: (.ref ml) :: (.ref bg) :: (.ref co) :: (.ref sp) :: (.ref nb0) :: (.ref nb1) :: (.ref nb2) :: (.int (nI nf)) :: (.int (nI bd)) :: (.int (nI mm)) :: (.int v33_284) :: (.ref pl) :: (.ref se) :: (.ref ke) :: (.ref wi) :: (.ref hs) :: (.ref mo) :: (.ref po) :: (.ref nu) :: (.ref pr) :: (.ref sq) :: (.ref xa) :: (.ref sa) :: (.ref n64) :: (.ref m64) :: (.ref ex) :: (.ref wh) :: (.ref sd) :: (.ref tk) :: (.int v52_285) :: (.int v53_286) :: (.int v54_287) :: (.ref hd) :: (.ref ak) :: (.ref ho) :: (.ref ot) :: []) := (hB1.2.2.2 h0 (by rw [hT_h0]; simp)).trans hF_288
              generalize H1 = H at hP hS ⊢
              refine lv_aload_n hx hb dX15_sender_145 rfl (lv_at hl 3 rfl) ?_
              refine pg_get (ci := 15) (v := .ref dm) (C := RX15) (T := TX15) (N := 59) hx hb hts it_15 hown hK hP hL_h0 hF_306 rfl 10 (by decide) (hts _ kt_777) (fun _ h9 => h9) rfl dX15_sender_146 ?_
              refine lv_aload_n hx hb dX15_sender_149 rfl (lv_at hl 3 rfl) ?_
              refine pg_get (ci := 15) (v := .ref ta) (C := RX15) (T := TX15) (N := 59) hx hb hts it_15 hown hK hP hL_h0 hF_306 rfl 0 (by decide) (hts _ kt_1075) (fun _ h9 => h9) rfl dX15_sender_150 ?_
              refine lv_iload_n hx hb dX15_sender_153 rfl (lv_at hl 1 rfl) ?_
              refine lv_iconst (v := 1) hx hb dX15_sender_154 (by decide) ?_
              refine lv_iadd hx hb dX15_sender_155 ?_
              refine lv_topi (fun x_307 ex_307 => ?_)
              obtain rfl : x_307 = (nI (j + 1)) := ex_307.trans (nI_add j 1)
              refine lv_iload_n hx hb dX15_sender_156 rfl (lv_at hl 2 rfl) ?_
              obtain ⟨hi_308, r_53, ht_309⟩ := hW.f_dm hL_h0 hT_h0
              obtain ⟨hi_310, ht_311, hq_312⟩ := hW.txt hi_308 ht_309
              have hFc := pg_free hD hS hA
              obtain ⟨z_313, hF_314, hq_315⟩ := hO.txt hi_308 ht_309
              refine va_callv (va_runV (As := [.ref ta, .int (nI (j + 1)), .int (nI zt)]) (rest := []) ⟨hx, hb, hml, hown, hts⟩ (s_X14_set l dC dI cs ty gm L H.size F_303 dm (ρ + 5) r_53 60 ta (ρ + 1) 3000 (j + 1) zt hW hi_308 ht_309 hi_245 ht_246 (by first | omega | assumption) (by first | omega | assumption) (by first | omega | assumption)) ⟨callB_of 3 hts (gi kt_979) rfl rfl rfl (hts _ kt_676) (hts _ kt_980) (by decide +kernel) ⟨Nat.le_of_ble_eq_true rfl, Nat.le_of_ble_eq_true rfl⟩, (hts _ kt_981), (hts _ kt_982)⟩ ⟨fun a U g mk q => ⟨q.1, PTm.calling q.2⟩, pg_recv hK hP hi_308 hF_314 (q := (RX14, TX14, 2)) rfl, fun U hU hWm => ⟨rfl, PTm.mk hU hWm hP hK hD hE hO⟩⟩ rfl rfl hl.1 rfl (lv_room (Nat.le_of_ble_eq_true rfl)) dX15_sender_157 ⟨by show _ + 0 ≤ 0; omega, by show _ + 0 ≤ 0; omega⟩) hS (fun q _ h => hFc q h) hFc (fun u t H1 locs ht hvm hw hB hz1 hk1 hS => ?_)
              obtain ⟨F_317, hB1, hq_318⟩ := hB
              obtain ⟨hP, hD, hO, hR⟩ := QTm.back hB1 ht hFc hR (fun q h => by simp only [List.mem_cons, List.not_mem_nil, or_false] at h ⊢; omega)
              have hF_319 : F_317 ta = .inl (cs 17, 3000, .inl f_249) := (hB1.2.2.2 ta (by rw [ht_246]; simp)).trans hF_305
              have hF_320 : F_317 h0 = .inr (15, (.ref ta) :: (.int (nI 0)) :: (.int (nI zo_273)) :: (.int (nI ze)) :: (.ref ou) :: (.ref so) :: (.ref ad) :: (.ref na) :: (.ref va) :: (.ref lc) :: (.ref dm) :: (.int v11_274) :: (.int v12_275) :: (.ref tg) :: (.int v14_276) :: (.int v15_277) :: (.ref pe) :: (.int v17_278) :: (.int v18_279) :: (.int v19_280) :: (.int v20_281) :: (.int v21_282) :: (.int v22_283) :: (.ref ml) :: (.ref bg) :: (.ref co) :: (.ref sp) :: (.ref nb0) :: (.ref nb1) :: (.ref nb2) :: (.int (nI nf)) :: (.int (nI bd)) :: (.int (nI mm)) :: (.int v33_284) :: (.ref pl) :: (.ref se) :: (.ref ke) :: (.ref wi) :: (.ref hs) :: (.ref mo) :: (.ref po) :: (.ref nu) :: (.ref pr) :: (.ref sq) :: (.ref xa) :: (.ref sa) :: (.ref n64) :: (.ref m64) :: (.ref ex) :: (.ref wh) :: (.ref sd) :: (.ref tk) :: (.int v52_285) :: (.int v53_286) :: (.int v54_287) :: (.ref hd) :: (.ref ak) :: (.ref ho) :: (.ref ot) :: []) := (hB1.2.2.2 h0 (by rw [hT_h0]; simp)).trans hF_306
              generalize H1 = H at hP hS ⊢
              refine lv_aload_n hx hb dX15_sender_160 rfl (lv_at hl 3 rfl) ?_
              refine lv_iload_n hx hb dX15_sender_161 rfl (lv_at hl 4 rfl) ?_
              refine pg_put (ci := 15) (v := .int x1) (ty := .int) (C := RX15) (T := TX15) (N := 59) hx hb hts it_15 tyX15 tyX15_ok nmX15 hown hK hP hD hS hL_h0 hF_320 rfl 11 (by decide) (hts _ kt_729) (fun _ h9 => h9) rfl (by decide +kernel) (rfl) (rfl) (Nat.le_of_ble_eq_true rfl) dX15_sender_162 (fun H locs hP hD hS => ?_)
              obtain ⟨F_321, he_322, hP, hD, hO, hR⟩ : ∃ G, G = va_up F_317 h0 (.inr (15, (.ref ta) :: (.int (nI 0)) :: (.int (nI zo_273)) :: (.int (nI ze)) :: (.ref ou) :: (.ref so) :: (.ref ad) :: (.ref na) :: (.ref va) :: (.ref lc) :: (.ref dm) :: (.int x1) :: (.int v12_275) :: (.ref tg) :: (.int v14_276) :: (.int v15_277) :: (.ref pe) :: (.int v17_278) :: (.int v18_279) :: (.int v19_280) :: (.int v20_281) :: (.int v21_282) :: (.int v22_283) :: (.ref ml) :: (.ref bg) :: (.ref co) :: (.ref sp) :: (.ref nb0) :: (.ref nb1) :: (.ref nb2) :: (.int (nI nf)) :: (.int (nI bd)) :: (.int (nI mm)) :: (.int v33_284) :: (.ref pl) :: (.ref se) :: (.ref ke) :: (.ref wi) :: (.ref hs) :: (.ref mo) :: (.ref po) :: (.ref nu) :: (.ref pr) :: (.ref sq) :: (.ref xa) :: (.ref sa) :: (.ref n64) :: (.ref m64) :: (.ref ex) :: (.ref wh) :: (.ref sd) :: (.ref tk) :: (.int v52_285) :: (.int v53_286) :: (.int v54_287) :: (.ref hd) :: (.ref ak) :: (.ref ho) :: (.ref ot) :: [])) ∧ va_P (dC, dI) vwCl (va_pl L G) H ∧ va_D A (va_pl L G) ∧ OKm cs ty gm L G ∧ FR ty [ρ, ρ + 5] F G := ⟨_, rfl, hP, hD, hO.up (shm.mod hT_h0 ⟨zo_273, x1, v12_275, v14_276, v15_277, v17_278, v18_279, v19_280, v20_281, v21_282, v22_283, v33_284, v52_285, v53_286, v54_287, rfl, (by first | omega | assumption | exact Or.inl rfl | exact Or.inr rfl), (by first | omega | assumption | exact Or.inl rfl | exact Or.inr rfl), (by first | omega | assumption | exact Or.inl rfl | exact Or.inr rfl), (by first | omega | assumption | exact Or.inl rfl | exact Or.inr rfl), (by first | omega | assumption | exact Or.inl rfl | exact Or.inr rfl)⟩), hR.up hT_h0 (by simp)⟩
              have hF_323 : F_321 h0 = .inr (15, (.ref ta) :: (.int (nI 0)) :: (.int (nI zo_273)) :: (.int (nI ze)) :: (.ref ou) :: (.ref so) :: (.ref ad) :: (.ref na) :: (.ref va) :: (.ref lc) :: (.ref dm) :: (.int x1) :: (.int v12_275) :: (.ref tg) :: (.int v14_276) :: (.int v15_277) :: (.ref pe) :: (.int v17_278) :: (.int v18_279) :: (.int v19_280) :: (.int v20_281) :: (.int v21_282) :: (.int v22_283) :: (.ref ml) :: (.ref bg) :: (.ref co) :: (.ref sp) :: (.ref nb0) :: (.ref nb1) :: (.ref nb2) :: (.int (nI nf)) :: (.int (nI bd)) :: (.int (nI mm)) :: (.int v33_284) :: (.ref pl) :: (.ref se) :: (.ref ke) :: (.ref wi) :: (.ref hs) :: (.ref mo) :: (.ref po) :: (.ref nu) :: (.ref pr) :: (.ref sq) :: (.ref xa) :: (.ref sa) :: (.ref n64) :: (.ref m64) :: (.ref ex) :: (.ref wh) :: (.ref sd) :: (.ref tk) :: (.int v52_285) :: (.int v53_286) :: (.int v54_287) :: (.ref hd) :: (.ref ak) :: (.ref ho) :: (.ref ot) :: []) := by rw [he_322]; exact up_self
              have hF_324 : F_321 ta = .inl (cs 17, 3000, .inl f_249) := by rw [he_322, up_ne (ne_ty ht_246 hT_h0 (by simp))]; exact hF_319
              have hF_325 : F_321 dm = .inr (14, [.ref r_53, .int (nI (zt - (j + 1)))]) := by rw [he_322, up_ne (ne_ty ht_309 hT_h0 (by simp))]; exact hq_318
              refine lv_aload_n hx hb dX15_sender_165 rfl (lv_at hl 3 rfl) ?_
              refine lv_iconst (v := 1) hx hb dX15_sender_166 (by decide) ?_
              refine pg_put (ci := 15) (v := .int 1) (ty := .boolean) (C := RX15) (T := TX15) (N := 59) hx hb hts it_15 tyX15 tyX15_ok nmX15 hown hK hP hD hS hL_h0 hF_323 rfl 12 (by decide) (hts _ kt_1001) (fun _ h9 => h9) rfl (by decide +kernel) (rfl) (rfl) (Nat.le_of_ble_eq_true rfl) dX15_sender_167 (fun H locs hP hD hS => ?_)
              obtain ⟨F_326, he_327, hP, hD, hO, hR⟩ : ∃ G, G = va_up F_321 h0 (.inr (15, (.ref ta) :: (.int (nI 0)) :: (.int (nI zo_273)) :: (.int (nI ze)) :: (.ref ou) :: (.ref so) :: (.ref ad) :: (.ref na) :: (.ref va) :: (.ref lc) :: (.ref dm) :: (.int x1) :: (.int 1) :: (.ref tg) :: (.int v14_276) :: (.int v15_277) :: (.ref pe) :: (.int v17_278) :: (.int v18_279) :: (.int v19_280) :: (.int v20_281) :: (.int v21_282) :: (.int v22_283) :: (.ref ml) :: (.ref bg) :: (.ref co) :: (.ref sp) :: (.ref nb0) :: (.ref nb1) :: (.ref nb2) :: (.int (nI nf)) :: (.int (nI bd)) :: (.int (nI mm)) :: (.int v33_284) :: (.ref pl) :: (.ref se) :: (.ref ke) :: (.ref wi) :: (.ref hs) :: (.ref mo) :: (.ref po) :: (.ref nu) :: (.ref pr) :: (.ref sq) :: (.ref xa) :: (.ref sa) :: (.ref n64) :: (.ref m64) :: (.ref ex) :: (.ref wh) :: (.ref sd) :: (.ref tk) :: (.int v52_285) :: (.int v53_286) :: (.int v54_287) :: (.ref hd) :: (.ref ak) :: (.ref ho) :: (.ref ot) :: [])) ∧ va_P (dC, dI) vwCl (va_pl L G) H ∧ va_D A (va_pl L G) ∧ OKm cs ty gm L G ∧ FR ty [ρ, ρ + 5] F G := ⟨_, rfl, hP, hD, hO.up (shm.mod hT_h0 ⟨zo_273, x1, 1, v14_276, v15_277, v17_278, v18_279, v19_280, v20_281, v21_282, v22_283, v33_284, v52_285, v53_286, v54_287, rfl, (by first | omega | assumption | exact Or.inl rfl | exact Or.inr rfl), (by first | omega | assumption | exact Or.inl rfl | exact Or.inr rfl), (by first | omega | assumption | exact Or.inl rfl | exact Or.inr rfl), (by first | omega | assumption | exact Or.inl rfl | exact Or.inr rfl), (by first | omega | assumption | exact Or.inl rfl | exact Or.inr rfl)⟩), hR.up hT_h0 (by simp)⟩
              have hF_328 : F_326 h0 = .inr (15, (.ref ta) :: (.int (nI 0)) :: (.int (nI zo_273)) :: (.int (nI ze)) :: (.ref ou) :: (.ref so) :: (.ref ad) :: (.ref na) :: (.ref va) :: (.ref lc) :: (.ref dm) :: (.int x1) :: (.int 1) :: (.ref tg) :: (.int v14_276) :: (.int v15_277) :: (.ref pe) :: (.int v17_278) :: (.int v18_279) :: (.int v19_280) :: (.int v20_281) :: (.int v21_282) :: (.int v22_283) :: (.ref ml) :: (.ref bg) :: (.ref co) :: (.ref sp) :: (.ref nb0) :: (.ref nb1) :: (.ref nb2) :: (.int (nI nf)) :: (.int (nI bd)) :: (.int (nI mm)) :: (.int v33_284) :: (.ref pl) :: (.ref se) :: (.ref ke) :: (.ref wi) :: (.ref hs) :: (.ref mo) :: (.ref po) :: (.ref nu) :: (.ref pr) :: (.ref sq) :: (.ref xa) :: (.ref sa) :: (.ref n64) :: (.ref m64) :: (.ref ex) :: (.ref wh) :: (.ref sd) :: (.ref tk) :: (.int v52_285) :: (.int v53_286) :: (.int v54_287) :: (.ref hd) :: (.ref ak) :: (.ref ho) :: (.ref ot) :: []) := by rw [he_327]; exact up_self
              have hF_329 : F_326 ta = .inl (cs 17, 3000, .inl f_249) := by rw [he_327, up_ne (ne_ty ht_246 hT_h0 (by simp))]; exact hF_324
              have hF_330 : F_326 dm = .inr (14, [.ref r_53, .int (nI (zt - (j + 1)))]) := by rw [he_327, up_ne (ne_ty ht_309 hT_h0 (by simp))]; exact hF_325
              refine lv_iconst (v := 0) hx hb dX15_sender_170 (by decide) ?_
              refine W.widen (k := 0) (n := 0) (by omega) (by omega) ?_
              exact W.iret (v := 0) hx hb hr (fun t ht hWm => ⟨⟨0, (), rfl, trivial, ⟨F_326, ty, hty, QTm.mk ht hP hD hO hR, hW⟩⟩, hS.F ht⟩) hS.2.2 dX15_sender_171
            ·
              have hi_331 : i < j := ltN (N := j) c_271
              refine lv_aload_n hx hb dX15_sender_71 rfl (lv_at hl 3 rfl) ?_
              obtain ⟨zo_332, v11_333, v12_334, v14_335, v15_336, v17_337, v18_338, v19_339, v20_340, v21_341, v22_342, v33_343, v52_344, v53_345, v54_346, hF_347, hq_348, hq_349, hq_350, hq_351, hq_352⟩ := hO.mod hL_h0 hT_h0
              refine pg_get (ci := 15) (v := .ref ta) (C := RX15) (T := TX15) (N := 59) hx hb hts it_15 hown hK hP hL_h0 hF_347 rfl 0 (by decide) (hts _ kt_1075) (fun _ h9 => h9) rfl dX15_sender_72 ?_
              refine lv_iload hx hb dX15_sender_75 (lv_at hl 0 rfl) ?_
              refine pg_bald hx hb hK hP hi_245 1 hF_270 rfl (vp_in_nI (by omega) (by omega)) dX15_sender_77 ?_
              refine lv_topi (fun x_353 ex_353 => ?_)
              obtain rfl : x_353 = f_249 i := ex_353.trans (congrArg f_249 (show ((nI i) : Int32).toNatClampNeg = i from nI_clamp (by omega)))
              refine lv_istore (lv' := [(5, .int (f_249 i)), (4, .int (nI i)), (3, .int (nI j)), (2, .int (nI zt)), (0, .ref h0), (1, .int x1)]) hx hb dX15_sender_78 hl (by decide) rfl (fun ls hl => ?_)
              have hF_356 : F ta = .inl (cs 17, 3000, .inl f_249) := (hR ta (by rw [ht_246]; simp)).symm.trans hF_270
              refine W.widen (k := 0) (n := 0) (by omega) (by omega) ?_
              refine pl_cutm (σ := Unit) A (dC, dI) cs ty gm L [ρ, ρ + 5] F 126 6 (fun u0 => [(4, .int (nI i)), (3, .int (nI j)), (2, .int (nI zt)), (0, .ref h0), (1, .int x1)]) (fun u0 => []) (fun u0 _ => True) ?_ (fun jn_354 => ?_)
              ·
                rintro u0 F_355 hv_357 hO hR H locs hP hD hS ls hl
                have hl : lv_has ls 6 [(4, .int (nI i)), (3, .int (nI j)), (2, .int (nI zt)), (0, .ref h0), (1, .int x1)] := hl
                have hv_357 : True := hv_357
                refine W.eq (g2 := F0 m 126 ls []) rfl ?_
                have hF_358 : F_355 ta = .inl (cs 17, 3000, .inl f_249) := (hR ta (by rw [ht_246]; simp)).trans hF_356
                refine lv_iinc (v := (nI (i + 1))) (lv' := [(4, .int (nI (i + 1))), (3, .int (nI j)), (2, .int (nI zt)), (0, .ref h0), (1, .int x1)]) hx hb dX15_sender_126 hl (k := 0) rfl (nI_1 _) (by decide) rfl (fun ls hl => ?_)
                refine lv_goto (tgt := 65) hx hb dX15_sender_129 (by decide) ?_
                refine W.widen (k := 0) (n := 0) (by omega) (by omega) ?_
                exact ih_269 (i + 1) F_355 (by first | omega | exact ⟨by omega, by omega⟩ | trivial) (by show j - (i + 1) < j - i; omega) hO hR _ _ hP hD hS ls (lv_sub hl [0, 1, 2, 3, 4] rfl)
              ·
                refine lv_iload hx hb dX15_sender_80 (lv_at hl 0 rfl) ?_
                have hFc := pg_free hD hS hA
                refine va_calli (va_runS (As := [.int (f_249 i)]) (rest := []) ⟨hx, hb, hml, hown, hts⟩ (s_X15_isSmall l dC dI cs ty gm L H.size F_266 (f_249 i) hW ) ⟨callB_of 1 hts (gi kt_668) rfl rfl rfl (hts _ kt_669) (hts _ kt_670) (by decide +kernel) ⟨Nat.le_of_ble_eq_true rfl, Nat.le_of_ble_eq_true rfl⟩, (hts _ kt_671)⟩ ⟨fun a U g mk q => ⟨q.1, PTm.calling q.2⟩, fun U hU hWm => ⟨rfl, PTm.mk hU hWm hP hK hD hE hO⟩⟩ rfl rfl hl.1 rfl (lv_room (Nat.le_of_ble_eq_true rfl)) dX15_sender_82 ⟨by show _ + 0 ≤ 0; omega, by show _ + 0 ≤ 0; omega⟩) hS (fun q _ h => hFc q h) hFc (fun r_359 u t H1 locs ht hvm hw hB hz1 hk1 hS => ?_)
                obtain ⟨F_360, hB1⟩ := hB
                obtain rfl : F_266 = F_360 := (funext (fun a => hB1.2.2.2 a List.not_mem_nil)).symm
                obtain ⟨hP, hD, hO, hR⟩ := QTm.back hB1 ht hFc hR (fun q h => absurd h List.not_mem_nil)
                generalize H1 = H at hP hS ⊢
                have hw : (r_359 = 0 ∨ r_359 = 1) := hw
                have hw_361 := hw
                refine lv_if_ne (tgt := 126) hx hb dX15_sender_85 (by decide) (fun c_362 => ?_) (fun c_362 => ?_)
                ·
                  refine W.widen (k := 0) (n := 0) (by omega) (by omega) ?_
                  exact jn_354 () F_266 (trivial) hO hR _ _ hP hD hS ls (lv_sub hl [1, 2, 3, 4, 5] rfl)
                ·
                  refine lv_iload hx hb dX15_sender_88 (lv_at hl 0 rfl) ?_
                  have hFc := pg_free hD hS hA
                  refine va_calli (va_runS (As := [.int (f_249 i)]) (rest := []) ⟨hx, hb, hml, hown, hts⟩ (s_X15_isDigit l dC dI cs ty gm L H.size F_266 (f_249 i) hW ) ⟨callB_of 1 hts (gi kt_687) rfl rfl rfl (hts _ kt_669) (hts _ kt_707) (by decide +kernel) ⟨Nat.le_of_ble_eq_true rfl, Nat.le_of_ble_eq_true rfl⟩, (hts _ kt_688)⟩ ⟨fun a U g mk q => ⟨q.1, PTm.calling q.2⟩, fun U hU hWm => ⟨rfl, PTm.mk hU hWm hP hK hD hE hO⟩⟩ rfl rfl hl.1 rfl (lv_room (Nat.le_of_ble_eq_true rfl)) dX15_sender_90 ⟨by show _ + 0 ≤ 0; omega, by show _ + 0 ≤ 0; omega⟩) hS (fun q _ h => hFc q h) hFc (fun r_363 u t H1 locs ht hvm hw hB hz1 hk1 hS => ?_)
                  obtain ⟨F_364, hB1⟩ := hB
                  obtain rfl : F_266 = F_364 := (funext (fun a => hB1.2.2.2 a List.not_mem_nil)).symm
                  obtain ⟨hP, hD, hO, hR⟩ := QTm.back hB1 ht hFc hR (fun q h => absurd h List.not_mem_nil)
                  generalize H1 = H at hP hS ⊢
                  have hw : (r_363 = 0 ∨ r_363 = 1) := hw
                  have hw_365 := hw
                  refine lv_if_ne (tgt := 126) hx hb dX15_sender_93 (by decide) (fun c_366 => ?_) (fun c_366 => ?_)
                  ·
                    refine W.widen (k := 0) (n := 0) (by omega) (by omega) ?_
                    exact jn_354 () F_266 (trivial) hO hR _ _ hP hD hS ls (lv_sub hl [1, 2, 3, 4, 5] rfl)
                  ·
                    refine lv_iload hx hb dX15_sender_96 (lv_at hl 0 rfl) ?_
                    refine lv_bipush (v := 46) hx hb dX15_sender_98 (by decide) ?_
                    refine lv_icmp_eq (tgt := 126) hx hb dX15_sender_100 (by decide) (fun c_367 => ?_) (fun c_367 => ?_)
                    ·
                      refine W.widen (k := 0) (n := 0) (by omega) (by omega) ?_
                      exact jn_354 () F_266 (trivial) hO hR _ _ hP hD hS ls (lv_sub hl [1, 2, 3, 4, 5] rfl)
                    ·
                      refine lv_iload hx hb dX15_sender_103 (lv_at hl 0 rfl) ?_
                      refine lv_bipush (v := 45) hx hb dX15_sender_105 (by decide) ?_
                      refine lv_icmp_eq (tgt := 126) hx hb dX15_sender_107 (by decide) (fun c_368 => ?_) (fun c_368 => ?_)
                      ·
                        refine W.widen (k := 0) (n := 0) (by omega) (by omega) ?_
                        exact jn_354 () F_266 (trivial) hO hR _ _ hP hD hS ls (lv_sub hl [1, 2, 3, 4, 5] rfl)
                      ·
                        refine lv_iload hx hb dX15_sender_110 (lv_at hl 0 rfl) ?_
                        refine lv_bipush (v := 95) hx hb dX15_sender_112 (by decide) ?_
                        refine lv_icmp_eq (tgt := 126) hx hb dX15_sender_114 (by decide) (fun c_369 => ?_) (fun c_369 => ?_)
                        ·
                          refine W.widen (k := 0) (n := 0) (by omega) (by omega) ?_
                          exact jn_354 () F_266 (trivial) hO hR _ _ hP hD hS ls (lv_sub hl [1, 2, 3, 4, 5] rfl)
                        ·
                          refine lv_iload hx hb dX15_sender_117 (lv_at hl 0 rfl) ?_
                          refine lv_bipush (v := 43) hx hb dX15_sender_119 (by decide) ?_
                          refine lv_icmp_eq (tgt := 126) hx hb dX15_sender_121 (by decide) (fun c_370 => ?_) (fun c_370 => ?_)
                          ·
                            refine W.widen (k := 0) (n := 0) (by omega) (by omega) ?_
                            exact jn_354 () F_266 (trivial) hO hR _ _ hP hD hS ls (lv_sub hl [1, 2, 3, 4, 5] rfl)
                          ·
                            refine lv_iconst (v := (-1)) hx hb dX15_sender_124 (by decide) ?_
                            refine W.widen (k := 0) (n := 0) (by omega) (by omega) ?_
                            exact W.iret (v := (-1)) hx hb hr (fun t ht hWm => ⟨⟨(-1), (), rfl, trivial, ⟨F_266, ty, hty, QTm.mk ht hP hD hO hR, hW⟩⟩, hS.F ht⟩) hS.2.2 dX15_sender_125
          ·
            refine lv_iconst (v := (-1)) hx hb dX15_sender_60 (by decide) ?_
            refine W.widen (k := 0) (n := 0) (by omega) (by omega) ?_
            exact W.iret (v := (-1)) hx hb hr (fun t ht hWm => ⟨⟨(-1), (), rfl, trivial, ⟨F_79, ty, hty, QTm.mk ht hP hD hO hR, hW⟩⟩, hS.F ht⟩) hS.2.2 dX15_sender_61
    ·
      refine lv_iinc (v := (nI (j + 1))) (lv' := [(3, .int (nI (j + 1))), (2, .int (nI zt)), (0, .ref h0), (1, .int x1)]) hx hb dX15_sender_23 hl (k := 0) rfl (nI_1 _) (by decide) rfl (fun ls hl => ?_)
      refine lv_goto (tgt := 7) hx hb dX15_sender_26 (by decide) ?_
      refine W.widen (k := 0) (n := 0) (by omega) (by omega) ?_
      exact ih_81 (j + 1) F_79 (by first | omega | exact ⟨by omega, by omega⟩ | trivial) (by show zt - (j + 1) < zt - j; omega) hO hR _ _ hP hD hS ls (lv_sub hl [0, 1, 2, 3] rfl)
set_option maxHeartbeats 4000000 in
set_option maxRecDepth 100000 in
theorem s_X15_house (l : Launch) (dC : Nat → ClassId) (dI : Nat → Nat → Nat) (cs : Nat → ClassId) (ty : TyM) (gm : Nat → Nat → Nat) (L : List Nat) (sz : Nat) (F : Nat → va_E) (h0 : Nat) (ρ : Nat) (ta : Nat) (ou : Nat) (so : Nat) (ad : Nat) (na : Nat) (va : Nat) (lc : Nat) (dm : Nat) (tg : Nat) (pe : Nat) (ml : Nat) (bg : Nat) (co : Nat) (sp : Nat) (nb0 : Nat) (nb1 : Nat) (nb2 : Nat) (pl : Nat) (se : Nat) (ke : Nat) (wi : Nat) (hs : Nat) (mo : Nat) (po : Nat) (nu : Nat) (pr : Nat) (sq : Nat) (xa : Nat) (sa : Nat) (n64 : Nat) (m64 : Nat) (ex : Nat) (wh : Nat) (sd : Nat) (tk : Nat) (hd : Nat) (ak : Nat) (ho : Nat) (ot : Nat) (sx : Nat) (s0 : Nat) (s1 : Nat) (s2 : Nat) (nf : Nat) (bd : Nat) (mm : Nat) (ze : Nat) (zt : Nat) (hW : WTm ty gm L) (hL_h0 : h0 ∈ L) (hT_h0 : ty h0 = (15, ρ, [ta, ou, so, ad, na, va, lc, dm, tg, pe, ml, bg, co, sp, nb0, nb1, nb2, pl, se, ke, wi, hs, mo, po, nu, pr, sq, xa, sa, n64, m64, ex, wh, sd, tk, hd, ak, ho, ot, sx, s0, s1, s2, nf, bd, mm, ze, zt])) : Met l yX15_house (.code yX15_house cX15_house 2 (some .int) :: tb) ({ frames := 4, cells := 0, slots := 0, locals := 119 }) (va_Pc [.ref h0] (PTm (dC, dI) cs ty gm L F sz)) (va_Qi (fun (r : Int32) (_ : Unit) => True) (fun _ T9 => ∃ F2 : Nat → va_E, ∃ ty2 : TyM, ty2 = rtf ty h0 (15, ρ, [ta, ou, so, ad, na, va, lc, dm, tg, pe, ml, bg, co, sp, nb0, nb1, nb2, pl, se, ke, wi, hs, mo, po, nu, pr, sq, xa, sa, n64, m64, ex, wh, sd, tk, hd, ak, ho, ot, sx, s0, s1, s2, nf, bd, mm, ze, 0]) ∧ QTm (dC, dI) cs ty2 gm L [ρ, ρ + 2, ρ + 28, ρ + 29] F F2 (va_A (va_pl L F) sz) T9 ∧ WTm ty2 gm L) (va_A (va_pl L F) sz)) 0 0 (va_A (va_pl L F) sz) := by
  refine Met.ofW (cc := cX15_house) (maxL := 2) (ret := (some .int)) (by decide) rfl ?_
  intro p e s m args below meth c s₁ B hml hv
  obtain ⟨rfl, hsz, hP, hK, hD0, hE, hO⟩ := hv
  have hx := B.exec
  have hb := B.bytes
  have hr := B.returns
  have hts : ∀ w ∈ tb, w.before _ s = true := fun w h => atoms_spec (ws := .code yX15_house cX15_house 2 (some .int) :: tb) B.pre w (List.mem_cons_of_mem _ h)
  have hown : s.vm.findClass RX15 = some m.cls := findClass_of_methodNamed B.named
  have hlocks := B.notSynchronized
  subst hsz
  have hD := hD0.self (sz := s.heap.size)
  generalize hAe : va_A (va_pl L F) s.heap.size = A at hD ⊢
  have hA : ∀ q : Nat, s.heap.size ≤ q → A q := fun q h => by rw [← hAe]; exact Or.inr h
  have hS : va_S A s.heap s.heap [] := va_S.rf
  have hR : FR ty [ρ, ρ + 2, ρ + 28, ρ + 29] F F := FR.refl
  have hl := lv_entry ([.ref h0]) (n := 2) (Nat.le_of_ble_eq_true rfl)
  rw [lg_entry_eq]
  generalize (lg_sl ([.ref h0]) ++ List.replicate (2 - (lg_sl ([.ref h0])).length) Slot.unset).toArray = ls at hl ⊢
  have hl : lv_has ls 2 [(0, .ref h0)] := hl
  obtain ⟨hq_23, hq_24, hq_25, hq_26, hq_27, hgO, hgA, hgB⟩ := hW.sc hL_h0 hT_h0
  refine lv_aload_n hx hb dX15_house_0 rfl (lv_at hl 0 rfl) ?_
  obtain ⟨zo_28, v11_29, v12_30, v14_31, v15_32, v17_33, v18_34, v19_35, v20_36, v21_37, v22_38, v33_39, v52_40, v53_41, v54_42, hF_43, hq_44, hq_45, hq_46, hq_47, hq_48⟩ := hO.mod hL_h0 hT_h0
  have hFc := pg_free hD hS hA
  refine va_calli (va_runV (As := []) (rest := []) ⟨hx, hb, hml, hown, hts⟩ (s_X15_used l dC dI cs ty gm L s.heap.size F h0 ρ ta ou so ad na va lc dm tg pe ml bg co sp nb0 nb1 nb2 pl se ke wi hs mo po nu pr sq xa sa n64 m64 ex wh sd tk hd ak ho ot sx s0 s1 s2 nf bd mm ze zt zo_28 v11_29 v12_30 v14_31 v15_32 v17_33 v18_34 v19_35 v20_36 v21_37 v22_38 v33_39 v52_40 v53_41 v54_42 hW hL_h0 hT_h0 hF_43 (by first | omega | assumption) (by first | omega | assumption) (by first | omega | assumption) (by first | omega | assumption)) ⟨callB_of 0 hts (gi kt_1071) rfl rfl rfl (hts _ kt_669) (hts _ kt_1072) (by decide +kernel) ⟨Nat.le_of_ble_eq_true rfl, Nat.le_of_ble_eq_true rfl⟩, (hts _ kt_1073), (hts _ kt_1074)⟩ ⟨fun a U g mk q => ⟨q.1, PTm.calling q.2⟩, pg_recv hK hP hL_h0 hF_43 (q := (RX15, TX15, 59)) rfl, fun U hU hWm => ⟨rfl, PTm.mk hU hWm hP hK hD hE hO⟩⟩ rfl rfl hl.1 rfl (lv_room (Nat.le_of_ble_eq_true rfl)) dX15_house_1 ⟨by show _ + 0 ≤ 0; omega, by show _ + 0 ≤ 0; omega⟩) hS (fun q _ h => hFc q h) hFc (fun r_49 u t H1 locs ht hvm hw hB hz1 hk1 hS => ?_)
  obtain ⟨F_50, ty9, hty9, hB1, hW9, hq_51⟩ := hB
  subst hty9
  have hR9 := FR.retype (im2 := [ta, ou, so, ad, na, va, lc, dm, tg, pe, ml, bg, co, sp, nb0, nb1, nb2, pl, se, ke, wi, hs, mo, po, nu, pr, sq, xa, sa, n64, m64, ex, wh, sd, tk, hd, ak, ho, ot, sx, s0, s1, s2, nf, bd, mm, ze, 0]) hT_h0 hR
  obtain ⟨hP, hD, hO, hR⟩ := QTm.back hB1 ht hFc hR9 (fun q h => by simp only [List.mem_cons, List.not_mem_nil, or_false] at h ⊢; omega)
  obtain ⟨ty, hty, hT_h0, hW, hO, hR⟩ : ∃ t9 : TyM, t9 = rtf ty h0 (15, ρ, [ta, ou, so, ad, na, va, lc, dm, tg, pe, ml, bg, co, sp, nb0, nb1, nb2, pl, se, ke, wi, hs, mo, po, nu, pr, sq, xa, sa, n64, m64, ex, wh, sd, tk, hd, ak, ho, ot, sx, s0, s1, s2, nf, bd, mm, ze, 0]) ∧ t9 h0 = (15, ρ, [ta, ou, so, ad, na, va, lc, dm, tg, pe, ml, bg, co, sp, nb0, nb1, nb2, pl, se, ke, wi, hs, mo, po, nu, pr, sq, xa, sa, n64, m64, ex, wh, sd, tk, hd, ak, ho, ot, sx, s0, s1, s2, nf, bd, mm, ze, 0]) ∧ WTm t9 gm L ∧ OKm cs t9 gm L F_50 ∧ FR t9 [ρ, ρ + 2, ρ + 28, ρ + 29] F F_50 := ⟨_, rfl, rtf_self, hW9, hO, hR⟩
  generalize H1 = H at hP hS ⊢
  have hw : r_49 = nI zt := hw
  subst hw
  obtain ⟨hq_74, hq_75, hq_76, hq_77, hq_78, hgO, hgA, hgB⟩ := hW.sc hL_h0 hT_h0
  refine lv_istore_n (lv' := [(1, .int (nI zt)), (0, .ref h0)]) hx hb dX15_house_4 rfl hl (by decide) rfl (fun ls hl => ?_)
  refine lv_aload_n hx hb dX15_house_5 rfl (lv_at hl 1 rfl) ?_
  refine pg_get (ci := 15) (v := .ref ta) (C := RX15) (T := TX15) (N := 59) hx hb hts it_15 hown hK hP hL_h0 hq_51 rfl 0 (by decide) (hts _ kt_1075) (fun _ h9 => h9) rfl dX15_house_6 ?_
  refine lv_iconst (v := 0) hx hb dX15_house_9 (by decide) ?_
  refine lv_iload_n hx hb dX15_house_10 rfl (lv_at hl 0 rfl) ?_
  refine W.eq (g2 := F0 m 11 ls [.int (nI zt), .int (nI 0), .ref ta]) rfl ?_
  obtain ⟨hi_79, ht_80⟩ := hW.f_ta hL_h0 hT_h0
  obtain ⟨hq_81, hq_82⟩ := hW.octs hi_79 ht_80
  have hFc := pg_free hD hS hA
  refine va_calli (va_runS (As := [.ref ta, .int (nI 0), .int (nI zt)]) (rest := []) ⟨hx, hb, hml, hown, hts⟩ (s_X14_isName_ l dC dI cs ty gm L H.size F_50 ta (ρ + 1) 3000 0 zt hW hi_79 ht_80 (by first | omega | assumption) (by first | omega | assumption)) ⟨callB_of 3 hts (gi kt_689) rfl rfl rfl (hts _ kt_676) (hts _ kt_863) (by decide +kernel) ⟨Nat.le_of_ble_eq_true rfl, Nat.le_of_ble_eq_true rfl⟩, (hts _ kt_691)⟩ ⟨fun a U g mk q => ⟨q.1, PTm.calling q.2⟩, fun U hU hWm => ⟨rfl, PTm.mk hU hWm hP hK hD hE hO⟩⟩ rfl rfl hl.1 rfl (lv_room (Nat.le_of_ble_eq_true rfl)) dX15_house_11 ⟨by show _ + 0 ≤ 0; omega, by show _ + 0 ≤ 0; omega⟩) hS (fun q _ h => hFc q h) hFc (fun r_83 u t H1 locs ht hvm hw hB hz1 hk1 hS => ?_)
  obtain ⟨F_84, hB1⟩ := hB
  obtain rfl : F_50 = F_84 := (funext (fun a => hB1.2.2.2 a List.not_mem_nil)).symm
  obtain ⟨hP, hD, hO, hR⟩ := QTm.back hB1 ht hFc hR (fun q h => absurd h List.not_mem_nil)
  generalize H1 = H at hP hS ⊢
  have hw : (r_83 = 0 ∨ (r_83 = 1 ∧ 0 < zt ∧ zt ≤ 0 + 60)) := hw
  have hw_85 := hw
  refine lv_if_ne (tgt := 19) hx hb dX15_house_14 (by decide) (fun c_86 => ?_) (fun c_86 => ?_)
  ·
    have hnm := bit1 hw_85 c_86
    refine lv_aload_n hx hb dX15_house_19 rfl (lv_at hl 1 rfl) ?_
    refine pg_get (ci := 15) (v := .ref ak) (C := RX15) (T := TX15) (N := 59) hx hb hts it_15 hown hK hP hL_h0 hq_51 rfl 56 (by decide) (hts _ kt_1045) (fun _ h9 => h9) rfl dX15_house_20 ?_
    refine lv_aload_n hx hb dX15_house_23 rfl (lv_at hl 1 rfl) ?_
    refine pg_get (ci := 15) (v := .ref ta) (C := RX15) (T := TX15) (N := 59) hx hb hts it_15 hown hK hP hL_h0 hq_51 rfl 0 (by decide) (hts _ kt_1075) (fun _ h9 => h9) rfl dX15_house_24 ?_
    refine lv_iconst (v := 0) hx hb dX15_house_27 (by decide) ?_
    refine lv_iload_n hx hb dX15_house_28 rfl (lv_at hl 0 rfl) ?_
    refine W.eq (g2 := F0 m 29 ls [.int (nI zt), .int (nI 0), .ref ta, .ref ak]) rfl ?_
    obtain ⟨hi_87, r_71, ht_88⟩ := hW.f_ak hL_h0 hT_h0
    obtain ⟨hi_89, ht_90, hq_91⟩ := hW.txt hi_87 ht_88
    have hFc := pg_free hD hS hA
    obtain ⟨z_92, hF_93, hq_94⟩ := hO.txt hi_87 ht_88
    refine va_callv (va_runV (As := [.ref ta, .int (nI 0), .int (nI zt)]) (rest := []) ⟨hx, hb, hml, hown, hts⟩ (s_X14_set l dC dI cs ty gm L H.size F_50 ak (ρ + 28) r_71 6000 ta (ρ + 1) 3000 0 zt hW hi_87 ht_88 hi_79 ht_80 (by first | omega | assumption) (by first | omega | assumption) (by first | omega | assumption)) ⟨callB_of 3 hts (gi kt_979) rfl rfl rfl (hts _ kt_676) (hts _ kt_980) (by decide +kernel) ⟨Nat.le_of_ble_eq_true rfl, Nat.le_of_ble_eq_true rfl⟩, (hts _ kt_981), (hts _ kt_982)⟩ ⟨fun a U g mk q => ⟨q.1, PTm.calling q.2⟩, pg_recv hK hP hi_87 hF_93 (q := (RX14, TX14, 2)) rfl, fun U hU hWm => ⟨rfl, PTm.mk hU hWm hP hK hD hE hO⟩⟩ rfl rfl hl.1 rfl (lv_room (Nat.le_of_ble_eq_true rfl)) dX15_house_29 ⟨by show _ + 0 ≤ 0; omega, by show _ + 0 ≤ 0; omega⟩) hS (fun q _ h => hFc q h) hFc (fun u t H1 locs ht hvm hw hB hz1 hk1 hS => ?_)
    obtain ⟨F_96, hB1, hq_97⟩ := hB
    obtain ⟨hP, hD, hO, hR⟩ := QTm.back hB1 ht hFc hR (fun q h => by simp only [List.mem_cons, List.not_mem_nil, or_false] at h ⊢; omega)
    have hF_98 : F_96 h0 = .inr (15, (.ref ta) :: (.int 0) :: (.int (nI zo_28)) :: (.int (nI ze)) :: (.ref ou) :: (.ref so) :: (.ref ad) :: (.ref na) :: (.ref va) :: (.ref lc) :: (.ref dm) :: (.int v11_29) :: (.int v12_30) :: (.ref tg) :: (.int v14_31) :: (.int v15_32) :: (.ref pe) :: (.int v17_33) :: (.int v18_34) :: (.int v19_35) :: (.int v20_36) :: (.int v21_37) :: (.int v22_38) :: (.ref ml) :: (.ref bg) :: (.ref co) :: (.ref sp) :: (.ref nb0) :: (.ref nb1) :: (.ref nb2) :: (.int (nI nf)) :: (.int (nI bd)) :: (.int (nI mm)) :: (.int v33_39) :: (.ref pl) :: (.ref se) :: (.ref ke) :: (.ref wi) :: (.ref hs) :: (.ref mo) :: (.ref po) :: (.ref nu) :: (.ref pr) :: (.ref sq) :: (.ref xa) :: (.ref sa) :: (.ref n64) :: (.ref m64) :: (.ref ex) :: (.ref wh) :: (.ref sd) :: (.ref tk) :: (.int v52_40) :: (.int v53_41) :: (.int v54_42) :: (.ref hd) :: (.ref ak) :: (.ref ho) :: (.ref ot) :: []) := (hB1.2.2.2 h0 (by rw [hT_h0]; simp)).trans hq_51
    generalize H1 = H at hP hS ⊢
    refine lv_aload_n hx hb dX15_house_32 rfl (lv_at hl 1 rfl) ?_
    refine lv_aload_n hx hb dX15_house_33 rfl (lv_at hl 1 rfl) ?_
    refine pg_get (ci := 15) (v := .ref ak) (C := RX15) (T := TX15) (N := 59) hx hb hts it_15 hown hK hP hL_h0 hF_98 rfl 56 (by decide) (hts _ kt_1045) (fun _ h9 => h9) rfl dX15_house_34 ?_
    refine lv_aload_n hx hb dX15_house_37 rfl (lv_at hl 1 rfl) ?_
    refine pg_get (ci := 15) (v := .ref ho) (C := RX15) (T := TX15) (N := 59) hx hb hts it_15 hown hK hP hL_h0 hF_98 rfl 57 (by decide) (hts _ kt_1007) (fun _ h9 => h9) rfl dX15_house_38 ?_
    obtain ⟨hi_99, r_72, ht_100⟩ := hW.f_ho hL_h0 hT_h0
    obtain ⟨hi_101, ht_102, hq_103⟩ := hW.txt hi_99 ht_100
    have hFc := pg_free hD hS hA
    refine va_callv (va_runV (As := [.ref ak, .ref ho]) (rest := []) ⟨hx, hb, hml, hown, hts⟩ (s_X15_houseOf l dC dI cs ty gm L H.size F_96 h0 ρ ta ou so ad na va lc dm tg pe ml bg co sp nb0 nb1 nb2 pl se ke wi hs mo po nu pr sq xa sa n64 m64 ex wh sd tk hd ak ho ot sx s0 s1 s2 nf bd mm ze 0 ak (ρ + 28) r_71 6000 ho (ρ + 29) r_72 6000 (zt - 0) hW hL_h0 hT_h0 hi_87 ht_88 hi_99 ht_100 hq_97 (by first | omega | assumption) (by first | omega | assumption)) ⟨callB_of 2 hts (gi kt_1008) rfl rfl rfl (hts _ kt_669) (hts _ kt_1009) (by decide +kernel) ⟨Nat.le_of_ble_eq_true rfl, Nat.le_of_ble_eq_true rfl⟩, (hts _ kt_1010), (hts _ kt_1011)⟩ ⟨fun a U g mk q => ⟨q.1, PTm.calling q.2⟩, pg_recv hK hP hL_h0 hF_98 (q := (RX15, TX15, 59)) rfl, fun U hU hWm => ⟨rfl, PTm.mk hU hWm hP hK hD hE hO⟩⟩ rfl rfl hl.1 rfl (lv_room (Nat.le_of_ble_eq_true rfl)) dX15_house_41 ⟨by show _ + 0 ≤ 0; omega, by show _ + 0 ≤ 0; omega⟩) hS (fun q _ h => hFc q h) hFc (fun u t H1 locs ht hvm hw hB hz1 hk1 hS => ?_)
    obtain ⟨F_105, y2_106, hB1, hq_107, hq_108⟩ := hB
    obtain ⟨hP, hD, hO, hR⟩ := QTm.back hB1 ht hFc hR (fun q h => by simp only [List.mem_cons, List.not_mem_nil, or_false] at h ⊢; omega)
    have hF_109 : F_105 h0 = .inr (15, (.ref ta) :: (.int 0) :: (.int (nI zo_28)) :: (.int (nI ze)) :: (.ref ou) :: (.ref so) :: (.ref ad) :: (.ref na) :: (.ref va) :: (.ref lc) :: (.ref dm) :: (.int v11_29) :: (.int v12_30) :: (.ref tg) :: (.int v14_31) :: (.int v15_32) :: (.ref pe) :: (.int v17_33) :: (.int v18_34) :: (.int v19_35) :: (.int v20_36) :: (.int v21_37) :: (.int v22_38) :: (.ref ml) :: (.ref bg) :: (.ref co) :: (.ref sp) :: (.ref nb0) :: (.ref nb1) :: (.ref nb2) :: (.int (nI nf)) :: (.int (nI bd)) :: (.int (nI mm)) :: (.int v33_39) :: (.ref pl) :: (.ref se) :: (.ref ke) :: (.ref wi) :: (.ref hs) :: (.ref mo) :: (.ref po) :: (.ref nu) :: (.ref pr) :: (.ref sq) :: (.ref xa) :: (.ref sa) :: (.ref n64) :: (.ref m64) :: (.ref ex) :: (.ref wh) :: (.ref sd) :: (.ref tk) :: (.int v52_40) :: (.int v53_41) :: (.int v54_42) :: (.ref hd) :: (.ref ak) :: (.ref ho) :: (.ref ot) :: []) := (hB1.2.2.2 h0 (by rw [hT_h0]; simp)).trans hF_98
    have hF_110 : F_105 ak = .inr (14, [.ref r_71, .int (nI (zt - 0))]) := (hB1.2.2.2 ak (by rw [ht_88]; simp)).trans hq_97
    generalize H1 = H at hP hS ⊢
    refine lv_aload_n hx hb dX15_house_44 rfl (lv_at hl 1 rfl) ?_
    refine lv_aload_n hx hb dX15_house_45 rfl (lv_at hl 1 rfl) ?_
    refine pg_get (ci := 15) (v := .ref ho) (C := RX15) (T := TX15) (N := 59) hx hb hts it_15 hown hK hP hL_h0 hF_109 rfl 57 (by decide) (hts _ kt_1007) (fun _ h9 => h9) rfl dX15_house_46 ?_
    have hFc := pg_free hD hS hA
    refine va_calli (va_runV (As := [.ref ho]) (rest := []) ⟨hx, hb, hml, hown, hts⟩ (s_X15_tell l dC dI cs ty gm L H.size F_105 h0 ρ ta ou so ad na va lc dm tg pe ml bg co sp nb0 nb1 nb2 pl se ke wi hs mo po nu pr sq xa sa n64 m64 ex wh sd tk hd ak ho ot sx s0 s1 s2 nf bd mm ze 0 ho (ρ + 29) r_72 hW hL_h0 hT_h0 hi_99 ht_100) ⟨callB_of 1 hts (gi kt_929) rfl rfl rfl (hts _ kt_669) (hts _ kt_930) (by decide +kernel) ⟨Nat.le_of_ble_eq_true rfl, Nat.le_of_ble_eq_true rfl⟩, (hts _ kt_931), (hts _ kt_932)⟩ ⟨fun a U g mk q => ⟨q.1, PTm.calling q.2⟩, pg_recv hK hP hL_h0 hF_109 (q := (RX15, TX15, 59)) rfl, fun U hU hWm => ⟨rfl, PTm.mk hU hWm hP hK hD hE hO⟩⟩ rfl rfl hl.1 rfl (lv_room (Nat.le_of_ble_eq_true rfl)) dX15_house_49 ⟨by show _ + 0 ≤ 0; omega, by show _ + 0 ≤ 0; omega⟩) hS (fun q _ h => hFc q h) hFc (fun r_111 u t H1 locs ht hvm hw hB hz1 hk1 hS => ?_)
    obtain ⟨F_112, hB1⟩ := hB
    obtain ⟨hP, hD, hO, hR⟩ := QTm.back hB1 ht hFc hR (fun q h => by simp only [List.mem_cons, List.not_mem_nil, or_false] at h ⊢; omega)
    have hF_113 : F_112 ak = .inr (14, [.ref r_71, .int (nI (zt - 0))]) := (hB1.2.2.2 ak (by rw [ht_88]; simp)).trans hF_110
    have hF_114 : F_112 ho = .inr (14, [.ref r_72, .int (nI y2_106)]) := (hB1.2.2.2 ho (by rw [ht_100]; simp)).trans hq_107
    generalize H1 = H at hP hS ⊢
    have hw : True := hw
    have hw_115 := hw
    refine W.widen (k := 0) (n := 0) (by omega) (by omega) ?_
    exact W.iret (v := r_111) hx hb hr (fun t ht hWm => ⟨⟨r_111, (), rfl, trivial, ⟨F_112, ty, hty, QTm.mk ht hP hD hO hR, hW⟩⟩, hS.F ht⟩) hS.2.2 dX15_house_52
  ·
    refine lv_iconst (v := (-1)) hx hb dX15_house_17 (by decide) ?_
    refine W.widen (k := 0) (n := 0) (by omega) (by omega) ?_
    exact W.iret (v := (-1)) hx hb hr (fun t ht hWm => ⟨⟨(-1), (), rfl, trivial, ⟨F_50, ty, hty, QTm.mk ht hP hD hO hR, hW⟩⟩, hS.F ht⟩) hS.2.2 dX15_house_18
set_option maxHeartbeats 4000000 in
set_option maxRecDepth 100000 in
theorem s_X15_entry (l : Launch) (dC : Nat → ClassId) (dI : Nat → Nat → Nat) (cs : Nat → ClassId) (ty : TyM) (gm : Nat → Nat → Nat) (L : List Nat) (sz : Nat) (F : Nat → va_E) (h0 : Nat) (ρ : Nat) (ta : Nat) (ou : Nat) (so : Nat) (ad : Nat) (na : Nat) (va : Nat) (lc : Nat) (dm : Nat) (tg : Nat) (pe : Nat) (ml : Nat) (bg : Nat) (co : Nat) (sp : Nat) (nb0 : Nat) (nb1 : Nat) (nb2 : Nat) (pl : Nat) (se : Nat) (ke : Nat) (wi : Nat) (hs : Nat) (mo : Nat) (po : Nat) (nu : Nat) (pr : Nat) (sq : Nat) (xa : Nat) (sa : Nat) (n64 : Nat) (m64 : Nat) (ex : Nat) (wh : Nat) (sd : Nat) (tk : Nat) (hd : Nat) (ak : Nat) (ho : Nat) (ot : Nat) (sx : Nat) (s0 : Nat) (s1 : Nat) (s2 : Nat) (nf : Nat) (bd : Nat) (mm : Nat) (ze : Nat) (zt : Nat) (x1 : Int32) (x2 : Int32) (gt : Nat → Int32) (hW : WTm ty gm L) (hL_h0 : h0 ∈ L) (hT_h0 : ty h0 = (15, ρ, [ta, ou, so, ad, na, va, lc, dm, tg, pe, ml, bg, co, sp, nb0, nb1, nb2, pl, se, ke, wi, hs, mo, po, nu, pr, sq, xa, sa, n64, m64, ex, wh, sd, tk, hd, ak, ho, ot, sx, s0, s1, s2, nf, bd, mm, ze, zt])) (hFta : F ta = .inl (cs 17, 3000, .inl gt)) : Met l yX15_entry (.code yX15_entry cX15_entry 7 (some .int) :: tb) ({ frames := 3, cells := 0, slots := 0, locals := 94 }) (va_Pc [.ref h0, .int x1, .int x2] (PTm (dC, dI) cs ty gm L F sz)) (va_Qi (fun (r : Int32) (c2 : Nat) => ENT ze c2 x1 gt zt r) (fun (c2 : Nat) T9 => ∃ F2 : Nat → va_E, ∃ ty2 : TyM, ty2 = rtf ty h0 (15, ρ, [ta, ou, so, ad, na, va, lc, dm, tg, pe, ml, bg, co, sp, nb0, nb1, nb2, pl, se, ke, wi, hs, mo, po, nu, pr, sq, xa, sa, n64, m64, ex, wh, sd, tk, hd, ak, ho, ot, sx, s0, s1, s2, nf, bd, mm, c2, 0]) ∧ QTm (dC, dI) cs ty2 gm L [ρ, ρ + 3, ρ + 4, ρ + 31] F F2 (va_A (va_pl L F) sz) T9 ∧ WTm ty2 gm L) (va_A (va_pl L F) sz)) 0 0 (va_A (va_pl L F) sz) := by
  refine Met.ofW (cc := cX15_entry) (maxL := 7) (ret := (some .int)) (by decide) rfl ?_
  intro p e s m args below meth c s₁ B hml hv
  obtain ⟨rfl, hsz, hP, hK, hD0, hE, hO⟩ := hv
  have hx := B.exec
  have hb := B.bytes
  have hr := B.returns
  have hts : ∀ w ∈ tb, w.before _ s = true := fun w h => atoms_spec (ws := .code yX15_entry cX15_entry 7 (some .int) :: tb) B.pre w (List.mem_cons_of_mem _ h)
  have hown : s.vm.findClass RX15 = some m.cls := findClass_of_methodNamed B.named
  have hlocks := B.notSynchronized
  subst hsz
  have hD := hD0.self (sz := s.heap.size)
  generalize hAe : va_A (va_pl L F) s.heap.size = A at hD ⊢
  have hA : ∀ q : Nat, s.heap.size ≤ q → A q := fun q h => by rw [← hAe]; exact Or.inr h
  have hS : va_S A s.heap s.heap [] := va_S.rf
  have hR : FR ty [ρ, ρ + 3, ρ + 4, ρ + 31] F F := FR.refl
  have hl := lv_entry ([.ref h0, .int x1, .int x2]) (n := 7) (Nat.le_of_ble_eq_true rfl)
  rw [lg_entry_eq]
  generalize (lg_sl ([.ref h0, .int x1, .int x2]) ++ List.replicate (7 - (lg_sl ([.ref h0, .int x1, .int x2])).length) Slot.unset).toArray = ls at hl ⊢
  have hl : lv_has ls 7 [(0, .ref h0), (1, .int x1), (2, .int x2)] := hl
  obtain ⟨hq_23, hq_24, hq_25, hq_26, hq_27, hgO, hgA, hgB⟩ := hW.sc hL_h0 hT_h0
  refine lv_aload_n hx hb dX15_entry_0 rfl (lv_at hl 0 rfl) ?_
  obtain ⟨zo_28, v11_29, v12_30, v14_31, v15_32, v17_33, v18_34, v19_35, v20_36, v21_37, v22_38, v33_39, v52_40, v53_41, v54_42, hF_43, hq_44, hq_45, hq_46, hq_47, hq_48⟩ := hO.mod hL_h0 hT_h0
  have hFc := pg_free hD hS hA
  refine va_calli (va_runV (As := []) (rest := []) ⟨hx, hb, hml, hown, hts⟩ (s_X15_used l dC dI cs ty gm L s.heap.size F h0 ρ ta ou so ad na va lc dm tg pe ml bg co sp nb0 nb1 nb2 pl se ke wi hs mo po nu pr sq xa sa n64 m64 ex wh sd tk hd ak ho ot sx s0 s1 s2 nf bd mm ze zt zo_28 v11_29 v12_30 v14_31 v15_32 v17_33 v18_34 v19_35 v20_36 v21_37 v22_38 v33_39 v52_40 v53_41 v54_42 hW hL_h0 hT_h0 hF_43 (by first | omega | assumption) (by first | omega | assumption) (by first | omega | assumption) (by first | omega | assumption)) ⟨callB_of 0 hts (gi kt_1071) rfl rfl rfl (hts _ kt_669) (hts _ kt_1072) (by decide +kernel) ⟨Nat.le_of_ble_eq_true rfl, Nat.le_of_ble_eq_true rfl⟩, (hts _ kt_1073), (hts _ kt_1074)⟩ ⟨fun a U g mk q => ⟨q.1, PTm.calling q.2⟩, pg_recv hK hP hL_h0 hF_43 (q := (RX15, TX15, 59)) rfl, fun U hU hWm => ⟨rfl, PTm.mk hU hWm hP hK hD hE hO⟩⟩ rfl rfl hl.1 rfl (lv_room (Nat.le_of_ble_eq_true rfl)) dX15_entry_1 ⟨by show _ + 0 ≤ 0; omega, by show _ + 0 ≤ 0; omega⟩) hS (fun q _ h => hFc q h) hFc (fun r_49 u t H1 locs ht hvm hw hB hz1 hk1 hS => ?_)
  obtain ⟨F_50, ty9, hty9, hB1, hW9, hq_51⟩ := hB
  subst hty9
  have hR9 := FR.retype (im2 := [ta, ou, so, ad, na, va, lc, dm, tg, pe, ml, bg, co, sp, nb0, nb1, nb2, pl, se, ke, wi, hs, mo, po, nu, pr, sq, xa, sa, n64, m64, ex, wh, sd, tk, hd, ak, ho, ot, sx, s0, s1, s2, nf, bd, mm, ze, 0]) hT_h0 hR
  obtain ⟨hP, hD, hO, hR⟩ := QTm.back hB1 ht hFc hR9 (fun q h => by simp only [List.mem_cons, List.not_mem_nil, or_false] at h ⊢; omega)
  obtain ⟨ty, hty, hT_h0, hW, hO, hR⟩ : ∃ t9 : TyM, t9 = rtf ty h0 (15, ρ, [ta, ou, so, ad, na, va, lc, dm, tg, pe, ml, bg, co, sp, nb0, nb1, nb2, pl, se, ke, wi, hs, mo, po, nu, pr, sq, xa, sa, n64, m64, ex, wh, sd, tk, hd, ak, ho, ot, sx, s0, s1, s2, nf, bd, mm, ze, 0]) ∧ t9 h0 = (15, ρ, [ta, ou, so, ad, na, va, lc, dm, tg, pe, ml, bg, co, sp, nb0, nb1, nb2, pl, se, ke, wi, hs, mo, po, nu, pr, sq, xa, sa, n64, m64, ex, wh, sd, tk, hd, ak, ho, ot, sx, s0, s1, s2, nf, bd, mm, ze, 0]) ∧ WTm t9 gm L ∧ OKm cs t9 gm L F_50 ∧ FR t9 [ρ, ρ + 3, ρ + 4, ρ + 31] F F_50 := ⟨_, rfl, rtf_self, hW9, hO, hR⟩
  generalize H1 = H at hP hS ⊢
  have hw : r_49 = nI zt := hw
  subst hw
  obtain ⟨hq_74, hq_75, hq_76, hq_77, hq_78, hgO, hgA, hgB⟩ := hW.sc hL_h0 hT_h0
  obtain ⟨hi_80, ht_81⟩ := hW.f_ta hL_h0 hT_h0
  have hF_79 : F_50 ta = .inl (cs 17, 3000, .inl gt) := (hB1.2.2.2 ta (by rw [← hty, ht_81]; simp)).trans hFta
  refine lv_istore_n (lv' := [(3, .int (nI zt)), (0, .ref h0), (1, .int x1), (2, .int x2)]) hx hb dX15_entry_4 rfl hl (by decide) rfl (fun ls hl => ?_)
  refine lv_iconst (v := 0) hx hb dX15_entry_5 (by decide) ?_
  refine lv_istore (lv' := [(4, .int 0), (3, .int (nI zt)), (0, .ref h0), (1, .int x1), (2, .int x2)]) hx hb dX15_entry_6 hl (by decide) rfl (fun ls hl => ?_)
  refine lv_aload_n hx hb dX15_entry_8 rfl (lv_at hl 2 rfl) ?_
  refine pg_get (ci := 15) (v := .int (nI ze)) (C := RX15) (T := TX15) (N := 59) hx hb hts it_15 hown hK hP hL_h0 hq_51 rfl 3 (by decide) (hts _ kt_724) (fun _ h9 => h9) rfl dX15_entry_9 ?_
  refine lv_bipush (v := 40) hx hb dX15_entry_12 (by decide) ?_
  refine lv_icmp_ne (tgt := 20) hx hb dX15_entry_14 (by decide) (fun c_82 => ?_) (fun c_82 => ?_)
  ·
    have hi_83 : ze ≠ 40 := fun q => c_82 (by rw [q]; rfl)
    have hc40 : ze ≠ 40 := by omega
    refine lv_iload_n hx hb dX15_entry_20 rfl (lv_at hl 3 rfl) ?_
    refine lv_i2l (v := x1.toInt64) hx hb dX15_entry_21 rfl ?_
    refine lv_lconst (v := 0) hx hb dX15_entry_22 (by decide) ?_
    refine lv_ldc2 (v := 4) hx hb hown (hts _ kt_1078) dX15_entry_23 ?_
    have hFc := pg_free hD hS hA
    refine va_calli (va_runS (As := [.long x1.toInt64, .long 0, .long 4]) (rest := []) ⟨hx, hb, hml, hown, hts⟩ (s_X15_in l dC dI cs ty gm L H.size F_50 x1.toInt64 0 4 hW ) ⟨callB_of 3 hts (gi kt_685) rfl rfl rfl (hts _ kt_669) (hts _ kt_705) (by decide +kernel) ⟨Nat.le_of_ble_eq_true rfl, Nat.le_of_ble_eq_true rfl⟩, (hts _ kt_686)⟩ ⟨fun a U g mk q => ⟨q.1, PTm.calling q.2⟩, fun U hU hWm => ⟨rfl, PTm.mk hU hWm hP hK hD hE hO⟩⟩ rfl rfl hl.1 rfl (lv_room (Nat.le_of_ble_eq_true rfl)) dX15_entry_26 ⟨by show _ + 0 ≤ 0; omega, by show _ + 0 ≤ 0; omega⟩) hS (fun q _ h => hFc q h) hFc (fun r_84 u t H1 locs ht hvm hw hB hz1 hk1 hS => ?_)
    obtain ⟨F_85, hB1⟩ := hB
    obtain rfl : F_50 = F_85 := (funext (fun a => hB1.2.2.2 a List.not_mem_nil)).symm
    obtain ⟨hP, hD, hO, hR⟩ := QTm.back hB1 ht hFc hR (fun q h => absurd h List.not_mem_nil)
    generalize H1 = H at hP hS ⊢
    have hw : r_84 = (if 0 ≤ x1.toInt64 ∧ x1.toInt64 ≤ 4 then 1 else 0) := hw
    have hw_86 := hw
    refine lv_if_ne (tgt := 34) hx hb dX15_entry_29 (by decide) (fun c_87 => ?_) (fun c_87 => ?_)
    ·
      obtain ⟨hx0, hx4⟩ := ((in_04 hw_86).resolve_left (fun q => c_87 q.1)).2
      have hF_90 : F ta = .inl (cs 17, 3000, .inl gt) := (hR ta (by rw [ht_81]; simp)).symm.trans hF_79
      refine W.widen (k := 0) (n := 0) (by omega) (by omega) ?_
      refine pl_cutm (σ := Int32) A (dC, dI) cs ty gm L [ρ, ρ + 3, ρ + 4, ρ + 31] F 48 7 (fun s5 => [(4, .int 0), (3, .int (nI zt)), (0, .ref h0), (1, .int x1), (2, .int x2)]) (fun s5 => [.int s5]) (fun s5 FF => (s5 = 0 ∨ s5 = 1) ∧ (s5 = 1 → (x1 = 0 ∨ x1 = 2)) ∧ (s5 = 0 → ¬ (x1 = 0 ∨ x1 = 2)) ∧ FF h0 = .inr (15, (.ref ta) :: (.int 0) :: (.int (nI zo_28)) :: (.int (nI ze)) :: (.ref ou) :: (.ref so) :: (.ref ad) :: (.ref na) :: (.ref va) :: (.ref lc) :: (.ref dm) :: (.int v11_29) :: (.int v12_30) :: (.ref tg) :: (.int v14_31) :: (.int v15_32) :: (.ref pe) :: (.int v17_33) :: (.int v18_34) :: (.int v19_35) :: (.int v20_36) :: (.int v21_37) :: (.int v22_38) :: (.ref ml) :: (.ref bg) :: (.ref co) :: (.ref sp) :: (.ref nb0) :: (.ref nb1) :: (.ref nb2) :: (.int (nI nf)) :: (.int (nI bd)) :: (.int (nI mm)) :: (.int v33_39) :: (.ref pl) :: (.ref se) :: (.ref ke) :: (.ref wi) :: (.ref hs) :: (.ref mo) :: (.ref po) :: (.ref nu) :: (.ref pr) :: (.ref sq) :: (.ref xa) :: (.ref sa) :: (.ref n64) :: (.ref m64) :: (.ref ex) :: (.ref wh) :: (.ref sd) :: (.ref tk) :: (.int v52_40) :: (.int v53_41) :: (.int v54_42) :: (.ref hd) :: (.ref ak) :: (.ref ho) :: (.ref ot) :: [])) ?_ (fun jn_88 => ?_)
      ·
        rintro s5 F_89 hv_91 hO hR H locs hP hD hS ls hl
        have hl : lv_has ls 7 [(4, .int 0), (3, .int (nI zt)), (0, .ref h0), (1, .int x1), (2, .int x2)] := hl
        have hv_91 : (s5 = 0 ∨ s5 = 1) ∧ (s5 = 1 → (x1 = 0 ∨ x1 = 2)) ∧ (s5 = 0 → ¬ (x1 = 0 ∨ x1 = 2)) ∧ F_89 h0 = .inr (15, (.ref ta) :: (.int 0) :: (.int (nI zo_28)) :: (.int (nI ze)) :: (.ref ou) :: (.ref so) :: (.ref ad) :: (.ref na) :: (.ref va) :: (.ref lc) :: (.ref dm) :: (.int v11_29) :: (.int v12_30) :: (.ref tg) :: (.int v14_31) :: (.int v15_32) :: (.ref pe) :: (.int v17_33) :: (.int v18_34) :: (.int v19_35) :: (.int v20_36) :: (.int v21_37) :: (.int v22_38) :: (.ref ml) :: (.ref bg) :: (.ref co) :: (.ref sp) :: (.ref nb0) :: (.ref nb1) :: (.ref nb2) :: (.int (nI nf)) :: (.int (nI bd)) :: (.int (nI mm)) :: (.int v33_39) :: (.ref pl) :: (.ref se) :: (.ref ke) :: (.ref wi) :: (.ref hs) :: (.ref mo) :: (.ref po) :: (.ref nu) :: (.ref pr) :: (.ref sq) :: (.ref xa) :: (.ref sa) :: (.ref n64) :: (.ref m64) :: (.ref ex) :: (.ref wh) :: (.ref sd) :: (.ref tk) :: (.int v52_40) :: (.int v53_41) :: (.int v54_42) :: (.ref hd) :: (.ref ak) :: (.ref ho) :: (.ref ot) :: []) := hv_91
        refine W.eq (g2 := F0 m 48 ls [.int s5]) rfl ?_
        have hF_92 : F_89 ta = .inl (cs 17, 3000, .inl gt) := (hR ta (by rw [ht_81]; simp)).trans hF_90
        obtain ⟨hs5, hs5x, hs5n, hs5h⟩ := hv_91
        refine lv_istore (lv' := [(5, .int s5), (4, .int 0), (3, .int (nI zt)), (0, .ref h0), (1, .int x1), (2, .int x2)]) hx hb dX15_entry_48 hl (by decide) rfl (fun ls hl => ?_)
        refine W.widen (k := 0) (n := 0) (by omega) (by omega) ?_
        have hF_94 : F ta = .inl (cs 17, 3000, .inl gt) := (hR ta (by rw [ht_81]; simp)).symm.trans hF_92
        refine pl_loopm (σ := Nat) A (dC, dI) cs ty gm L [ρ, ρ + 3, ρ + 4, ρ + 31] F 50 7 (fun j => [(5, .int s5), (4, .int (nI j)), (3, .int (nI zt)), (0, .ref h0), (1, .int x1), (2, .int x2)]) (fun j => []) (fun j FF => j ≤ zt ∧ (∀ i, i < j → ¬ gt i = 32) ∧ FF h0 = .inr (15, (.ref ta) :: (.int 0) :: (.int (nI zo_28)) :: (.int (nI ze)) :: (.ref ou) :: (.ref so) :: (.ref ad) :: (.ref na) :: (.ref va) :: (.ref lc) :: (.ref dm) :: (.int v11_29) :: (.int v12_30) :: (.ref tg) :: (.int v14_31) :: (.int v15_32) :: (.ref pe) :: (.int v17_33) :: (.int v18_34) :: (.int v19_35) :: (.int v20_36) :: (.int v21_37) :: (.int v22_38) :: (.ref ml) :: (.ref bg) :: (.ref co) :: (.ref sp) :: (.ref nb0) :: (.ref nb1) :: (.ref nb2) :: (.int (nI nf)) :: (.int (nI bd)) :: (.int (nI mm)) :: (.int v33_39) :: (.ref pl) :: (.ref se) :: (.ref ke) :: (.ref wi) :: (.ref hs) :: (.ref mo) :: (.ref po) :: (.ref nu) :: (.ref pr) :: (.ref sq) :: (.ref xa) :: (.ref sa) :: (.ref n64) :: (.ref m64) :: (.ref ex) :: (.ref wh) :: (.ref sd) :: (.ref tk) :: (.int v52_40) :: (.int v53_41) :: (.int v54_42) :: (.ref hd) :: (.ref ak) :: (.ref ho) :: (.ref ot) :: [])) (fun j => zt - j) ?_ 0 F_89 (⟨by omega, fun i hi => absurd hi (Nat.not_lt_zero _), hs5h⟩) hO hR _ _ hP hD hS ls (lv_sub hl [0, 1, 2, 3, 4, 5] rfl)
        rintro j F_93 hv_95 hO hR ih_96 H locs hP hD hS ls hl
        have hl : lv_has ls 7 [(5, .int s5), (4, .int (nI j)), (3, .int (nI zt)), (0, .ref h0), (1, .int x1), (2, .int x2)] := hl
        have hv_95 : j ≤ zt ∧ (∀ i, i < j → ¬ gt i = 32) ∧ F_93 h0 = .inr (15, (.ref ta) :: (.int 0) :: (.int (nI zo_28)) :: (.int (nI ze)) :: (.ref ou) :: (.ref so) :: (.ref ad) :: (.ref na) :: (.ref va) :: (.ref lc) :: (.ref dm) :: (.int v11_29) :: (.int v12_30) :: (.ref tg) :: (.int v14_31) :: (.int v15_32) :: (.ref pe) :: (.int v17_33) :: (.int v18_34) :: (.int v19_35) :: (.int v20_36) :: (.int v21_37) :: (.int v22_38) :: (.ref ml) :: (.ref bg) :: (.ref co) :: (.ref sp) :: (.ref nb0) :: (.ref nb1) :: (.ref nb2) :: (.int (nI nf)) :: (.int (nI bd)) :: (.int (nI mm)) :: (.int v33_39) :: (.ref pl) :: (.ref se) :: (.ref ke) :: (.ref wi) :: (.ref hs) :: (.ref mo) :: (.ref po) :: (.ref nu) :: (.ref pr) :: (.ref sq) :: (.ref xa) :: (.ref sa) :: (.ref n64) :: (.ref m64) :: (.ref ex) :: (.ref wh) :: (.ref sd) :: (.ref tk) :: (.int v52_40) :: (.int v53_41) :: (.int v54_42) :: (.ref hd) :: (.ref ak) :: (.ref ho) :: (.ref ot) :: []) := hv_95
        refine W.eq (g2 := F0 m 50 ls []) rfl ?_
        have hF_97 : F_93 ta = .inl (cs 17, 3000, .inl gt) := (hR ta (by rw [ht_81]; simp)).trans hF_94
        obtain ⟨ha1, ha3, ha2⟩ := hv_95
        refine lv_iload hx hb dX15_entry_50 (lv_at hl 0 rfl) ?_
        refine lv_if_eq (tgt := 79) hx hb dX15_entry_52 (by decide) (fun c_98 => ?_) (fun c_98 => ?_)
        ·
          have hfst : s5 = 1 → FST gt 32 zt j := fun h => absurd (h.symm.trans c_98) (by decide)
          have hF_101 : F ta = .inl (cs 17, 3000, .inl gt) := (hR ta (by rw [ht_81]; simp)).symm.trans hF_97
          refine W.widen (k := 0) (n := 0) (by omega) (by omega) ?_
          refine pl_cutm (σ := Int32) A (dC, dI) cs ty gm L [ρ, ρ + 3, ρ + 4, ρ + 31] F 90 7 (fun s6 => [(5, .int s5), (4, .int (nI j)), (3, .int (nI zt)), (0, .ref h0), (1, .int x1), (2, .int x2)]) (fun s6 => [.int s6]) (fun s6 FF => (∃ k : Nat, k ≤ zt ∧ s6 = nI k ∧ (s5 = 1 → k = j) ∧ (s5 = 0 → k = zt)) ∧ FF h0 = .inr (15, (.ref ta) :: (.int 0) :: (.int (nI zo_28)) :: (.int (nI ze)) :: (.ref ou) :: (.ref so) :: (.ref ad) :: (.ref na) :: (.ref va) :: (.ref lc) :: (.ref dm) :: (.int v11_29) :: (.int v12_30) :: (.ref tg) :: (.int v14_31) :: (.int v15_32) :: (.ref pe) :: (.int v17_33) :: (.int v18_34) :: (.int v19_35) :: (.int v20_36) :: (.int v21_37) :: (.int v22_38) :: (.ref ml) :: (.ref bg) :: (.ref co) :: (.ref sp) :: (.ref nb0) :: (.ref nb1) :: (.ref nb2) :: (.int (nI nf)) :: (.int (nI bd)) :: (.int (nI mm)) :: (.int v33_39) :: (.ref pl) :: (.ref se) :: (.ref ke) :: (.ref wi) :: (.ref hs) :: (.ref mo) :: (.ref po) :: (.ref nu) :: (.ref pr) :: (.ref sq) :: (.ref xa) :: (.ref sa) :: (.ref n64) :: (.ref m64) :: (.ref ex) :: (.ref wh) :: (.ref sd) :: (.ref tk) :: (.int v52_40) :: (.int v53_41) :: (.int v54_42) :: (.ref hd) :: (.ref ak) :: (.ref ho) :: (.ref ot) :: [])) ?_ (fun jn_99 => ?_)
          ·
            rintro s6 F_100 hv_102 hO hR H locs hP hD hS ls hl
            have hl : lv_has ls 7 [(5, .int s5), (4, .int (nI j)), (3, .int (nI zt)), (0, .ref h0), (1, .int x1), (2, .int x2)] := hl
            have hv_102 : (∃ k : Nat, k ≤ zt ∧ s6 = nI k ∧ (s5 = 1 → k = j) ∧ (s5 = 0 → k = zt)) ∧ F_100 h0 = .inr (15, (.ref ta) :: (.int 0) :: (.int (nI zo_28)) :: (.int (nI ze)) :: (.ref ou) :: (.ref so) :: (.ref ad) :: (.ref na) :: (.ref va) :: (.ref lc) :: (.ref dm) :: (.int v11_29) :: (.int v12_30) :: (.ref tg) :: (.int v14_31) :: (.int v15_32) :: (.ref pe) :: (.int v17_33) :: (.int v18_34) :: (.int v19_35) :: (.int v20_36) :: (.int v21_37) :: (.int v22_38) :: (.ref ml) :: (.ref bg) :: (.ref co) :: (.ref sp) :: (.ref nb0) :: (.ref nb1) :: (.ref nb2) :: (.int (nI nf)) :: (.int (nI bd)) :: (.int (nI mm)) :: (.int v33_39) :: (.ref pl) :: (.ref se) :: (.ref ke) :: (.ref wi) :: (.ref hs) :: (.ref mo) :: (.ref po) :: (.ref nu) :: (.ref pr) :: (.ref sq) :: (.ref xa) :: (.ref sa) :: (.ref n64) :: (.ref m64) :: (.ref ex) :: (.ref wh) :: (.ref sd) :: (.ref tk) :: (.int v52_40) :: (.int v53_41) :: (.int v54_42) :: (.ref hd) :: (.ref ak) :: (.ref ho) :: (.ref ot) :: []) := hv_102
            refine W.eq (g2 := F0 m 90 ls [.int s6]) rfl ?_
            have hF_103 : F_100 ta = .inl (cs 17, 3000, .inl gt) := (hR ta (by rw [ht_81]; simp)).trans hF_101
            obtain ⟨⟨kend, hke, eke, hk1e, hk0e⟩, hb2⟩ := hv_102
            subst eke
            refine W.eq (g2 := F0 m 90 ls [.int (nI kend)]) rfl ?_
            refine lv_istore (lv' := [(6, .int (nI kend)), (5, .int s5), (4, .int (nI j)), (3, .int (nI zt)), (0, .ref h0), (1, .int x1), (2, .int x2)]) hx hb dX15_entry_90 hl (by decide) rfl (fun ls hl => ?_)
            have hF_106 : F ta = .inl (cs 17, 3000, .inl gt) := (hR ta (by rw [ht_81]; simp)).symm.trans hF_103
            refine W.widen (k := 0) (n := 0) (by omega) (by omega) ?_
            refine pl_cutm (σ := Unit) A (dC, dI) cs ty gm L [ρ, ρ + 3, ρ + 4, ρ + 31] F 118 7 (fun u0 => [(6, .int (nI kend)), (5, .int s5), (4, .int (nI j)), (3, .int (nI zt)), (0, .ref h0), (1, .int x1), (2, .int x2)]) (fun u0 => []) (fun u0 FF => NM gt 0 kend = true ∧ kend ≤ 60 ∧ (s5 = 1 → j < zt) ∧ FF h0 = .inr (15, (.ref ta) :: (.int 0) :: (.int (nI zo_28)) :: (.int (nI ze)) :: (.ref ou) :: (.ref so) :: (.ref ad) :: (.ref na) :: (.ref va) :: (.ref lc) :: (.ref dm) :: (.int v11_29) :: (.int v12_30) :: (.ref tg) :: (.int v14_31) :: (.int v15_32) :: (.ref pe) :: (.int v17_33) :: (.int v18_34) :: (.int v19_35) :: (.int v20_36) :: (.int v21_37) :: (.int v22_38) :: (.ref ml) :: (.ref bg) :: (.ref co) :: (.ref sp) :: (.ref nb0) :: (.ref nb1) :: (.ref nb2) :: (.int (nI nf)) :: (.int (nI bd)) :: (.int (nI mm)) :: (.int v33_39) :: (.ref pl) :: (.ref se) :: (.ref ke) :: (.ref wi) :: (.ref hs) :: (.ref mo) :: (.ref po) :: (.ref nu) :: (.ref pr) :: (.ref sq) :: (.ref xa) :: (.ref sa) :: (.ref n64) :: (.ref m64) :: (.ref ex) :: (.ref wh) :: (.ref sd) :: (.ref tk) :: (.int v52_40) :: (.int v53_41) :: (.int v54_42) :: (.ref hd) :: (.ref ak) :: (.ref ho) :: (.ref ot) :: [])) ?_ (fun jn_104 => ?_)
            ·
              rintro u0 F_105 hv_107 hO hR H locs hP hD hS ls hl
              have hl : lv_has ls 7 [(6, .int (nI kend)), (5, .int s5), (4, .int (nI j)), (3, .int (nI zt)), (0, .ref h0), (1, .int x1), (2, .int x2)] := hl
              have hv_107 : NM gt 0 kend = true ∧ kend ≤ 60 ∧ (s5 = 1 → j < zt) ∧ F_105 h0 = .inr (15, (.ref ta) :: (.int 0) :: (.int (nI zo_28)) :: (.int (nI ze)) :: (.ref ou) :: (.ref so) :: (.ref ad) :: (.ref na) :: (.ref va) :: (.ref lc) :: (.ref dm) :: (.int v11_29) :: (.int v12_30) :: (.ref tg) :: (.int v14_31) :: (.int v15_32) :: (.ref pe) :: (.int v17_33) :: (.int v18_34) :: (.int v19_35) :: (.int v20_36) :: (.int v21_37) :: (.int v22_38) :: (.ref ml) :: (.ref bg) :: (.ref co) :: (.ref sp) :: (.ref nb0) :: (.ref nb1) :: (.ref nb2) :: (.int (nI nf)) :: (.int (nI bd)) :: (.int (nI mm)) :: (.int v33_39) :: (.ref pl) :: (.ref se) :: (.ref ke) :: (.ref wi) :: (.ref hs) :: (.ref mo) :: (.ref po) :: (.ref nu) :: (.ref pr) :: (.ref sq) :: (.ref xa) :: (.ref sa) :: (.ref n64) :: (.ref m64) :: (.ref ex) :: (.ref wh) :: (.ref sd) :: (.ref tk) :: (.int v52_40) :: (.int v53_41) :: (.int v54_42) :: (.ref hd) :: (.ref ak) :: (.ref ho) :: (.ref ot) :: []) := hv_107
              refine W.eq (g2 := F0 m 118 ls []) rfl ?_
              have hF_108 : F_105 ta = .inl (cs 17, 3000, .inl gt) := (hR ta (by rw [ht_81]; simp)).trans hF_106
              obtain ⟨hn1, hn6, hn2, hn3⟩ := hv_107
              have hF_111 : F ta = .inl (cs 17, 3000, .inl gt) := (hR ta (by rw [ht_81]; simp)).symm.trans hF_108
              refine W.widen (k := 0) (n := 0) (by omega) (by omega) ?_
              refine pl_cutm (σ := Unit) A (dC, dI) cs ty gm L [ρ, ρ + 3, ρ + 4, ρ + 31] F 156 7 (fun u0 => [(6, .int (nI kend)), (5, .int s5), (4, .int (nI j)), (3, .int (nI zt)), (0, .ref h0), (1, .int x1), (2, .int x2)]) (fun u0 => []) (fun u0 FF => (s5 = 1 → ISV x1 gt zt j ∧ zt - j - 1 ≤ 700) ∧ FF h0 = .inr (15, (.ref ta) :: (.int 0) :: (.int (nI zo_28)) :: (.int (nI ze)) :: (.ref ou) :: (.ref so) :: (.ref ad) :: (.ref na) :: (.ref va) :: (.ref lc) :: (.ref dm) :: (.int v11_29) :: (.int v12_30) :: (.ref tg) :: (.int v14_31) :: (.int v15_32) :: (.ref pe) :: (.int v17_33) :: (.int v18_34) :: (.int v19_35) :: (.int v20_36) :: (.int v21_37) :: (.int v22_38) :: (.ref ml) :: (.ref bg) :: (.ref co) :: (.ref sp) :: (.ref nb0) :: (.ref nb1) :: (.ref nb2) :: (.int (nI nf)) :: (.int (nI bd)) :: (.int (nI mm)) :: (.int v33_39) :: (.ref pl) :: (.ref se) :: (.ref ke) :: (.ref wi) :: (.ref hs) :: (.ref mo) :: (.ref po) :: (.ref nu) :: (.ref pr) :: (.ref sq) :: (.ref xa) :: (.ref sa) :: (.ref n64) :: (.ref m64) :: (.ref ex) :: (.ref wh) :: (.ref sd) :: (.ref tk) :: (.int v52_40) :: (.int v53_41) :: (.int v54_42) :: (.ref hd) :: (.ref ak) :: (.ref ho) :: (.ref ot) :: [])) ?_ (fun jn_109 => ?_)
              ·
                rintro u0 F_110 hv_112 hO hR H locs hP hD hS ls hl
                have hl : lv_has ls 7 [(6, .int (nI kend)), (5, .int s5), (4, .int (nI j)), (3, .int (nI zt)), (0, .ref h0), (1, .int x1), (2, .int x2)] := hl
                have hv_112 : (s5 = 1 → ISV x1 gt zt j ∧ zt - j - 1 ≤ 700) ∧ F_110 h0 = .inr (15, (.ref ta) :: (.int 0) :: (.int (nI zo_28)) :: (.int (nI ze)) :: (.ref ou) :: (.ref so) :: (.ref ad) :: (.ref na) :: (.ref va) :: (.ref lc) :: (.ref dm) :: (.int v11_29) :: (.int v12_30) :: (.ref tg) :: (.int v14_31) :: (.int v15_32) :: (.ref pe) :: (.int v17_33) :: (.int v18_34) :: (.int v19_35) :: (.int v20_36) :: (.int v21_37) :: (.int v22_38) :: (.ref ml) :: (.ref bg) :: (.ref co) :: (.ref sp) :: (.ref nb0) :: (.ref nb1) :: (.ref nb2) :: (.int (nI nf)) :: (.int (nI bd)) :: (.int (nI mm)) :: (.int v33_39) :: (.ref pl) :: (.ref se) :: (.ref ke) :: (.ref wi) :: (.ref hs) :: (.ref mo) :: (.ref po) :: (.ref nu) :: (.ref pr) :: (.ref sq) :: (.ref xa) :: (.ref sa) :: (.ref n64) :: (.ref m64) :: (.ref ex) :: (.ref wh) :: (.ref sd) :: (.ref tk) :: (.int v52_40) :: (.int v53_41) :: (.int v54_42) :: (.ref hd) :: (.ref ak) :: (.ref ho) :: (.ref ot) :: []) := hv_112
                refine W.eq (g2 := F0 m 156 ls []) rfl ?_
                have hF_113 : F_110 ta = .inl (cs 17, 3000, .inl gt) := (hR ta (by rw [ht_81]; simp)).trans hF_111
                obtain ⟨ho1, ho2⟩ := hv_112
                refine lv_aload_n hx hb dX15_entry_156 rfl (lv_at hl 4 rfl) ?_
                refine pg_get (ci := 15) (v := .ref so) (C := RX15) (T := TX15) (N := 59) hx hb hts it_15 hown hK hP hL_h0 ho2 rfl 5 (by decide) (hts _ kt_718) (fun _ h9 => h9) rfl dX15_entry_157 ?_
                refine lv_aload_n hx hb dX15_entry_160 rfl (lv_at hl 4 rfl) ?_
                refine pg_get (ci := 15) (v := .int (nI ze)) (C := RX15) (T := TX15) (N := 59) hx hb hts it_15 hown hK hP hL_h0 ho2 rfl 3 (by decide) (hts _ kt_724) (fun _ h9 => h9) rfl dX15_entry_161 ?_
                refine lv_iload_n hx hb dX15_entry_164 rfl (lv_at hl 5 rfl) ?_
                obtain ⟨hi_114, ht_115⟩ := hW.f_so hL_h0 hT_h0
                obtain ⟨hq_116, hq_117⟩ := hW.ints hi_114 ht_115
                obtain ⟨f_118, hF_119⟩ := hO.ints hi_114 ht_115
                refine pg_iast hx hb hK hP hD hS hi_114 0 hF_119 rfl (vp_in_nI (by omega) (by omega)) dX15_entry_165 (fun H locs hP hD hS => ?_)
                obtain ⟨F_120, he_121, hP, hD, hO, hR⟩ : ∃ G, G = va_up F_110 so (.inl (cs 16, 40, .inl (upd f_118 ((nI ze)).toNatClampNeg (x1)))) ∧ va_P (dC, dI) vwCl (va_pl L G) H ∧ va_D A (va_pl L G) ∧ OKm cs ty gm L G ∧ FR ty [ρ, ρ + 3, ρ + 4, ρ + 31] F G := ⟨_, rfl, hP, hD, hO.up (shm.ints ht_115 ⟨_, rfl⟩), hR.up ht_115 (by simp)⟩
                have hF_122 : F_120 so = .inl (cs 16, 40, .inl (upd f_118 ((nI ze)).toNatClampNeg (x1))) := by rw [he_121]; exact up_self
                have hF_123 : F_120 ta = .inl (cs 17, 3000, .inl gt) := by rw [he_121, up_ne (ne_ty ht_81 ht_115 (by simp))]; exact hF_113
                have hF_124 : F_120 h0 = .inr (15, (.ref ta) :: (.int 0) :: (.int (nI zo_28)) :: (.int (nI ze)) :: (.ref ou) :: (.ref so) :: (.ref ad) :: (.ref na) :: (.ref va) :: (.ref lc) :: (.ref dm) :: (.int v11_29) :: (.int v12_30) :: (.ref tg) :: (.int v14_31) :: (.int v15_32) :: (.ref pe) :: (.int v17_33) :: (.int v18_34) :: (.int v19_35) :: (.int v20_36) :: (.int v21_37) :: (.int v22_38) :: (.ref ml) :: (.ref bg) :: (.ref co) :: (.ref sp) :: (.ref nb0) :: (.ref nb1) :: (.ref nb2) :: (.int (nI nf)) :: (.int (nI bd)) :: (.int (nI mm)) :: (.int v33_39) :: (.ref pl) :: (.ref se) :: (.ref ke) :: (.ref wi) :: (.ref hs) :: (.ref mo) :: (.ref po) :: (.ref nu) :: (.ref pr) :: (.ref sq) :: (.ref xa) :: (.ref sa) :: (.ref n64) :: (.ref m64) :: (.ref ex) :: (.ref wh) :: (.ref sd) :: (.ref tk) :: (.int v52_40) :: (.int v53_41) :: (.int v54_42) :: (.ref hd) :: (.ref ak) :: (.ref ho) :: (.ref ot) :: []) := by rw [he_121, up_ne (ne_ty hT_h0 ht_115 (by simp))]; exact ho2
                obtain ⟨f_125, hF_122⟩ : ∃ f : Nat → Int32, F_120 so = .inl (cs 16, 40, .inl f) := ⟨_, hF_122⟩
                refine lv_aload_n hx hb dX15_entry_166 rfl (lv_at hl 4 rfl) ?_
                refine pg_get (ci := 15) (v := .ref ad) (C := RX15) (T := TX15) (N := 59) hx hb hts it_15 hown hK hP hL_h0 hF_124 rfl 6 (by decide) (hts _ kt_740) (fun _ h9 => h9) rfl dX15_entry_167 ?_
                refine lv_aload_n hx hb dX15_entry_170 rfl (lv_at hl 4 rfl) ?_
                refine pg_get (ci := 15) (v := .int (nI ze)) (C := RX15) (T := TX15) (N := 59) hx hb hts it_15 hown hK hP hL_h0 hF_124 rfl 3 (by decide) (hts _ kt_724) (fun _ h9 => h9) rfl dX15_entry_171 ?_
                refine lv_iload_n hx hb dX15_entry_174 rfl (lv_at hl 6 rfl) ?_
                obtain ⟨hi_126, ht_127⟩ := hW.f_ad hL_h0 hT_h0
                obtain ⟨hq_128, hq_129⟩ := hW.ints hi_126 ht_127
                obtain ⟨f_130, hF_131⟩ := hO.ints hi_126 ht_127
                refine pg_iast hx hb hK hP hD hS hi_126 0 hF_131 rfl (vp_in_nI (by omega) (by omega)) dX15_entry_175 (fun H locs hP hD hS => ?_)
                obtain ⟨F_132, he_133, hP, hD, hO, hR⟩ : ∃ G, G = va_up F_120 ad (.inl (cs 16, 40, .inl (upd f_130 ((nI ze)).toNatClampNeg (x2)))) ∧ va_P (dC, dI) vwCl (va_pl L G) H ∧ va_D A (va_pl L G) ∧ OKm cs ty gm L G ∧ FR ty [ρ, ρ + 3, ρ + 4, ρ + 31] F G := ⟨_, rfl, hP, hD, hO.up (shm.ints ht_127 ⟨_, rfl⟩), hR.up ht_127 (by simp)⟩
                have hF_134 : F_132 ad = .inl (cs 16, 40, .inl (upd f_130 ((nI ze)).toNatClampNeg (x2))) := by rw [he_133]; exact up_self
                have hF_135 : F_132 ta = .inl (cs 17, 3000, .inl gt) := by rw [he_133, up_ne (ne_ty ht_81 ht_127 (by simp))]; exact hF_123
                have hF_136 : F_132 h0 = .inr (15, (.ref ta) :: (.int 0) :: (.int (nI zo_28)) :: (.int (nI ze)) :: (.ref ou) :: (.ref so) :: (.ref ad) :: (.ref na) :: (.ref va) :: (.ref lc) :: (.ref dm) :: (.int v11_29) :: (.int v12_30) :: (.ref tg) :: (.int v14_31) :: (.int v15_32) :: (.ref pe) :: (.int v17_33) :: (.int v18_34) :: (.int v19_35) :: (.int v20_36) :: (.int v21_37) :: (.int v22_38) :: (.ref ml) :: (.ref bg) :: (.ref co) :: (.ref sp) :: (.ref nb0) :: (.ref nb1) :: (.ref nb2) :: (.int (nI nf)) :: (.int (nI bd)) :: (.int (nI mm)) :: (.int v33_39) :: (.ref pl) :: (.ref se) :: (.ref ke) :: (.ref wi) :: (.ref hs) :: (.ref mo) :: (.ref po) :: (.ref nu) :: (.ref pr) :: (.ref sq) :: (.ref xa) :: (.ref sa) :: (.ref n64) :: (.ref m64) :: (.ref ex) :: (.ref wh) :: (.ref sd) :: (.ref tk) :: (.int v52_40) :: (.int v53_41) :: (.int v54_42) :: (.ref hd) :: (.ref ak) :: (.ref ho) :: (.ref ot) :: []) := by rw [he_133, up_ne (ne_ty hT_h0 ht_127 (by simp))]; exact hF_124
                obtain ⟨f_137, hF_134⟩ : ∃ f : Nat → Int32, F_132 ad = .inl (cs 16, 40, .inl f) := ⟨_, hF_134⟩
                refine lv_aload_n hx hb dX15_entry_176 rfl (lv_at hl 4 rfl) ?_
                refine pg_get (ci := 15) (v := .ref na) (C := RX15) (T := TX15) (N := 59) hx hb hts it_15 hown hK hP hL_h0 hF_136 rfl 7 (by decide) (hts _ kt_719) (fun _ h9 => h9) rfl dX15_entry_177 ?_
                refine lv_aload_n hx hb dX15_entry_180 rfl (lv_at hl 4 rfl) ?_
                refine pg_get (ci := 15) (v := .int (nI ze)) (C := RX15) (T := TX15) (N := 59) hx hb hts it_15 hown hK hP hL_h0 hF_136 rfl 3 (by decide) (hts _ kt_724) (fun _ h9 => h9) rfl dX15_entry_181 ?_
                obtain ⟨hi_138, ht_139⟩ := hW.f_na hL_h0 hT_h0
                obtain ⟨f_140, hF_141, hq_142⟩ := hO.rtxt hi_138 ht_139
                obtain ⟨b_143, r_144, hbf_145, hi_146, ht_147⟩ := hq_142 ze (by omega)
                refine pg_aald (r := b_143) hx hb hK hP hi_138 7 hF_141 rfl (vp_in_nI (by omega) (by omega)) (show f_140 ((nI ze) : Int32).toNatClampNeg = _ from by rw [show ((nI ze) : Int32) = nI ze from rfl, nI_clamp (by omega)]; exact hbf_145) dX15_entry_184 ?_
                refine lv_aload_n hx hb dX15_entry_185 rfl (lv_at hl 4 rfl) ?_
                refine pg_get (ci := 15) (v := .ref ta) (C := RX15) (T := TX15) (N := 59) hx hb hts it_15 hown hK hP hL_h0 hF_136 rfl 0 (by decide) (hts _ kt_1075) (fun _ h9 => h9) rfl dX15_entry_186 ?_
                refine lv_iconst (v := 0) hx hb dX15_entry_189 (by decide) ?_
                refine lv_iload hx hb dX15_entry_190 (lv_at hl 0 rfl) ?_
                refine W.eq (g2 := F0 m 192 ls [.int (nI kend), .int (nI 0), .ref ta, .ref b_143]) rfl ?_
                obtain ⟨hi_148, ht_149, hq_150⟩ := hW.txt hi_146 ht_147
                obtain ⟨hq_151, hq_152⟩ := hW.octs hi_80 ht_81
                have hFc := pg_free hD hS hA
                obtain ⟨z_153, hF_154, hq_155⟩ := hO.txt hi_146 ht_147
                refine va_callv (va_runV (As := [.ref ta, .int (nI 0), .int (nI kend)]) (rest := []) ⟨hx, hb, hml, hown, hts⟩ (s_X14_set l dC dI cs ty gm L H.size F_132 b_143 (ρ + 4) r_144 60 ta (ρ + 1) 3000 0 kend hW hi_146 ht_147 hi_80 ht_81 (by first | omega | assumption) (by first | omega | assumption) (by first | omega | assumption)) ⟨callB_of 3 hts (gi kt_979) rfl rfl rfl (hts _ kt_676) (hts _ kt_980) (by decide +kernel) ⟨Nat.le_of_ble_eq_true rfl, Nat.le_of_ble_eq_true rfl⟩, (hts _ kt_981), (hts _ kt_982)⟩ ⟨fun a U g mk q => ⟨q.1, PTm.calling q.2⟩, pg_recv hK hP hi_146 hF_154 (q := (RX14, TX14, 2)) rfl, fun U hU hWm => ⟨rfl, PTm.mk hU hWm hP hK hD hE hO⟩⟩ rfl rfl hl.1 rfl (lv_room (Nat.le_of_ble_eq_true rfl)) dX15_entry_192 ⟨by show _ + 0 ≤ 0; omega, by show _ + 0 ≤ 0; omega⟩) hS (fun q _ h => hFc q h) hFc (fun u t H1 locs ht hvm hw hB hz1 hk1 hS => ?_)
                obtain ⟨F_157, hB1, hq_158⟩ := hB
                obtain ⟨hP, hD, hO, hR⟩ := QTm.back hB1 ht hFc hR (fun q h => by simp only [List.mem_cons, List.not_mem_nil, or_false] at h ⊢; omega)
                have hF_159 : F_157 ad = .inl (cs 16, 40, .inl f_137) := (hB1.2.2.2 ad (by rw [ht_127]; simp)).trans hF_134
                have hF_160 : F_157 ta = .inl (cs 17, 3000, .inl gt) := (hB1.2.2.2 ta (by rw [ht_81]; simp)).trans hF_135
                have hF_161 : F_157 h0 = .inr (15, (.ref ta) :: (.int 0) :: (.int (nI zo_28)) :: (.int (nI ze)) :: (.ref ou) :: (.ref so) :: (.ref ad) :: (.ref na) :: (.ref va) :: (.ref lc) :: (.ref dm) :: (.int v11_29) :: (.int v12_30) :: (.ref tg) :: (.int v14_31) :: (.int v15_32) :: (.ref pe) :: (.int v17_33) :: (.int v18_34) :: (.int v19_35) :: (.int v20_36) :: (.int v21_37) :: (.int v22_38) :: (.ref ml) :: (.ref bg) :: (.ref co) :: (.ref sp) :: (.ref nb0) :: (.ref nb1) :: (.ref nb2) :: (.int (nI nf)) :: (.int (nI bd)) :: (.int (nI mm)) :: (.int v33_39) :: (.ref pl) :: (.ref se) :: (.ref ke) :: (.ref wi) :: (.ref hs) :: (.ref mo) :: (.ref po) :: (.ref nu) :: (.ref pr) :: (.ref sq) :: (.ref xa) :: (.ref sa) :: (.ref n64) :: (.ref m64) :: (.ref ex) :: (.ref wh) :: (.ref sd) :: (.ref tk) :: (.int v52_40) :: (.int v53_41) :: (.int v54_42) :: (.ref hd) :: (.ref ak) :: (.ref ho) :: (.ref ot) :: []) := (hB1.2.2.2 h0 (by rw [hT_h0]; simp)).trans hF_136
                generalize H1 = H at hP hS ⊢
                refine lv_aload_n hx hb dX15_entry_195 rfl (lv_at hl 4 rfl) ?_
                refine pg_get (ci := 15) (v := .ref va) (C := RX15) (T := TX15) (N := 59) hx hb hts it_15 hown hK hP hL_h0 hF_161 rfl 8 (by decide) (hts _ kt_732) (fun _ h9 => h9) rfl dX15_entry_196 ?_
                refine lv_aload_n hx hb dX15_entry_199 rfl (lv_at hl 4 rfl) ?_
                refine pg_get (ci := 15) (v := .int (nI ze)) (C := RX15) (T := TX15) (N := 59) hx hb hts it_15 hown hK hP hL_h0 hF_161 rfl 3 (by decide) (hts _ kt_724) (fun _ h9 => h9) rfl dX15_entry_200 ?_
                obtain ⟨hi_162, ht_163⟩ := hW.f_va hL_h0 hT_h0
                obtain ⟨f_164, hF_165, hq_166⟩ := hO.rtxt hi_162 ht_163
                obtain ⟨b_167, r_168, hbf_169, hi_170, ht_171⟩ := hq_166 ze (by omega)
                refine pg_aald (r := b_167) hx hb hK hP hi_162 7 hF_165 rfl (vp_in_nI (by omega) (by omega)) (show f_164 ((nI ze) : Int32).toNatClampNeg = _ from by rw [show ((nI ze) : Int32) = nI ze from rfl, nI_clamp (by omega)]; exact hbf_169) dX15_entry_203 ?_
                refine lv_iconst (v := 0) hx hb dX15_entry_204 (by decide) ?_
                obtain ⟨hi_172, ht_173, hq_174⟩ := hW.txt hi_170 ht_171
                obtain ⟨z_175, hF_176, hq_177⟩ := hO.txt hi_170 ht_171
                refine pg_put (ci := 14) (v := .int 0) (ty := .int) (C := RX14) (T := TX14) (N := 2) hx hb hts it_14 tyX14 tyX14_ok nmX14 hown hK hP hD hS hi_170 hF_176 rfl 1 (by decide) (hts _ kt_709) (fun _ h9 => h9) rfl (by decide +kernel) (rfl) (rfl) (Nat.le_of_ble_eq_true rfl) dX15_entry_205 (fun H locs hP hD hS => ?_)
                obtain ⟨F_178, he_179, hP, hD, hO, hR⟩ : ∃ G, G = va_up F_157 b_167 (.inr (14, [.ref r_168, .int 0])) ∧ va_P (dC, dI) vwCl (va_pl L G) H ∧ va_D A (va_pl L G) ∧ OKm cs ty gm L G ∧ FR ty [ρ, ρ + 3, ρ + 4, ρ + 31] F G := ⟨_, rfl, hP, hD, hO.up (shm.txt ht_171 ⟨0, rfl, (by first | omega | assumption | exact Or.inl rfl | exact Or.inr rfl)⟩), hR.up ht_171 (by simp)⟩
                have hF_180 : F_178 b_167 = .inr (14, [.ref r_168, .int 0]) := by rw [he_179]; exact up_self
                have hF_181 : F_178 ad = .inl (cs 16, 40, .inl f_137) := by rw [he_179, up_ne (ne_ty ht_127 ht_171 (by simp))]; exact hF_159
                have hF_182 : F_178 ta = .inl (cs 17, 3000, .inl gt) := by rw [he_179, up_ne (ne_ty ht_81 ht_171 (by simp))]; exact hF_160
                have hF_183 : F_178 h0 = .inr (15, (.ref ta) :: (.int 0) :: (.int (nI zo_28)) :: (.int (nI ze)) :: (.ref ou) :: (.ref so) :: (.ref ad) :: (.ref na) :: (.ref va) :: (.ref lc) :: (.ref dm) :: (.int v11_29) :: (.int v12_30) :: (.ref tg) :: (.int v14_31) :: (.int v15_32) :: (.ref pe) :: (.int v17_33) :: (.int v18_34) :: (.int v19_35) :: (.int v20_36) :: (.int v21_37) :: (.int v22_38) :: (.ref ml) :: (.ref bg) :: (.ref co) :: (.ref sp) :: (.ref nb0) :: (.ref nb1) :: (.ref nb2) :: (.int (nI nf)) :: (.int (nI bd)) :: (.int (nI mm)) :: (.int v33_39) :: (.ref pl) :: (.ref se) :: (.ref ke) :: (.ref wi) :: (.ref hs) :: (.ref mo) :: (.ref po) :: (.ref nu) :: (.ref pr) :: (.ref sq) :: (.ref xa) :: (.ref sa) :: (.ref n64) :: (.ref m64) :: (.ref ex) :: (.ref wh) :: (.ref sd) :: (.ref tk) :: (.int v52_40) :: (.int v53_41) :: (.int v54_42) :: (.ref hd) :: (.ref ak) :: (.ref ho) :: (.ref ot) :: []) := by rw [he_179, up_ne (ne_ty hT_h0 ht_171 (by simp))]; exact hF_161
                have hF_184 : F_178 b_143 = .inr (14, [.ref r_144, .int (nI (kend - 0))]) := by rw [he_179, up_ne (ne_ty2 ht_147 ht_171 (by simp))]; exact hq_158
                have hF_185 : F_178 va = .inl (cs 23, 40, .inr (.inr (.inr (.inr f_164)))) := by rw [he_179, up_ne (ne_ty ht_163 ht_171 (by simp))]; exact hF_165
                refine lv_iload hx hb dX15_entry_208 (lv_at hl 1 rfl) ?_
                refine lv_if_eq (tgt := 234) hx hb dX15_entry_210 (by decide) (fun c_186 => ?_) (fun c_186 => ?_)
                ·
                  refine lv_aload_n hx hb dX15_entry_234 rfl (lv_at hl 4 rfl) ?_
                  refine lv_dup hx hb dX15_entry_235 rfl ?_
                  refine pg_get (ci := 15) (v := .int (nI ze)) (C := RX15) (T := TX15) (N := 59) hx hb hts it_15 hown hK hP hL_h0 hF_183 rfl 3 (by decide) (hts _ kt_724) (fun _ h9 => h9) rfl dX15_entry_236 ?_
                  refine lv_iconst (v := 1) hx hb dX15_entry_239 (by decide) ?_
                  refine lv_iadd hx hb dX15_entry_240 ?_
                  refine lv_topi (fun x_187 ex_187 => ?_)
                  obtain rfl : x_187 = (nI (ze + 1)) := ex_187.trans (nI_add ze 1)
                  have htyU := hty
                  refine pg_put (ci := 15) (v := .int (nI (ze + 1))) (ty := .int) (C := RX15) (T := TX15) (N := 59) hx hb hts it_15 tyX15 tyX15_ok nmX15 hown hK hP hD hS hL_h0 hF_183 rfl 3 (by decide) (hts _ kt_724) (fun _ h9 => h9) rfl (by decide +kernel) (rfl) (rfl) (Nat.le_of_ble_eq_true rfl) dX15_entry_241 (fun H locs hP hD hS => ?_)
                  obtain ⟨F_188, he_189, hP, hD, hR⟩ : ∃ G, G = va_up F_178 h0 (.inr (15, (.ref ta) :: (.int 0) :: (.int (nI zo_28)) :: (.int (nI (ze + 1))) :: (.ref ou) :: (.ref so) :: (.ref ad) :: (.ref na) :: (.ref va) :: (.ref lc) :: (.ref dm) :: (.int v11_29) :: (.int v12_30) :: (.ref tg) :: (.int v14_31) :: (.int v15_32) :: (.ref pe) :: (.int v17_33) :: (.int v18_34) :: (.int v19_35) :: (.int v20_36) :: (.int v21_37) :: (.int v22_38) :: (.ref ml) :: (.ref bg) :: (.ref co) :: (.ref sp) :: (.ref nb0) :: (.ref nb1) :: (.ref nb2) :: (.int (nI nf)) :: (.int (nI bd)) :: (.int (nI mm)) :: (.int v33_39) :: (.ref pl) :: (.ref se) :: (.ref ke) :: (.ref wi) :: (.ref hs) :: (.ref mo) :: (.ref po) :: (.ref nu) :: (.ref pr) :: (.ref sq) :: (.ref xa) :: (.ref sa) :: (.ref n64) :: (.ref m64) :: (.ref ex) :: (.ref wh) :: (.ref sd) :: (.ref tk) :: (.int v52_40) :: (.int v53_41) :: (.int v54_42) :: (.ref hd) :: (.ref ak) :: (.ref ho) :: (.ref ot) :: [])) ∧ va_P (dC, dI) vwCl (va_pl L G) H ∧ va_D A (va_pl L G) ∧ FR ty [ρ, ρ + 3, ρ + 4, ρ + 31] F G := ⟨_, rfl, hP, hD, hR.up hT_h0 (by simp)⟩
                  have hF_190 : F_188 ta = .inl (cs 17, 3000, .inl gt) := by rw [he_189, up_ne (ne_ty ht_81 hT_h0 (by simp))]; exact hF_182
                  obtain ⟨ty, hty, hT_h0, hW, hO, hR⟩ : ∃ t9 : TyM, t9 = rtf ty h0 (15, ρ, [ta, ou, so, ad, na, va, lc, dm, tg, pe, ml, bg, co, sp, nb0, nb1, nb2, pl, se, ke, wi, hs, mo, po, nu, pr, sq, xa, sa, n64, m64, ex, wh, sd, tk, hd, ak, ho, ot, sx, s0, s1, s2, nf, bd, mm, (ze + 1), 0]) ∧ t9 h0 = (15, ρ, [ta, ou, so, ad, na, va, lc, dm, tg, pe, ml, bg, co, sp, nb0, nb1, nb2, pl, se, ke, wi, hs, mo, po, nu, pr, sq, xa, sa, n64, m64, ex, wh, sd, tk, hd, ak, ho, ot, sx, s0, s1, s2, nf, bd, mm, (ze + 1), 0]) ∧ WTm t9 gm L ∧ OKm cs t9 gm L F_188 ∧ FR t9 [ρ, ρ + 3, ρ + 4, ρ + 31] F F_188 := ⟨_, rfl, rtf_self, hW.ze hL_h0 hT_h0, (by rw [he_189]; exact OKm.retype hO hT_h0 (shm.mod rtf_self ⟨zo_28, v11_29, v12_30, v14_31, v15_32, v17_33, v18_34, v19_35, v20_36, v21_37, v22_38, v33_39, v52_40, v53_41, v54_42, rfl, (by first | omega | assumption | exact Or.inl rfl | exact Or.inr rfl), (by first | omega | assumption | exact Or.inl rfl | exact Or.inr rfl), (by first | omega | assumption | exact Or.inl rfl | exact Or.inr rfl), (by first | omega | assumption | exact Or.inl rfl | exact Or.inr rfl), (by first | omega | assumption | exact Or.inl rfl | exact Or.inr rfl)⟩)), FR.retype hT_h0 hR⟩
                  have hF_191 : F_188 h0 = .inr (15, (.ref ta) :: (.int 0) :: (.int (nI zo_28)) :: (.int (nI (ze + 1))) :: (.ref ou) :: (.ref so) :: (.ref ad) :: (.ref na) :: (.ref va) :: (.ref lc) :: (.ref dm) :: (.int v11_29) :: (.int v12_30) :: (.ref tg) :: (.int v14_31) :: (.int v15_32) :: (.ref pe) :: (.int v17_33) :: (.int v18_34) :: (.int v19_35) :: (.int v20_36) :: (.int v21_37) :: (.int v22_38) :: (.ref ml) :: (.ref bg) :: (.ref co) :: (.ref sp) :: (.ref nb0) :: (.ref nb1) :: (.ref nb2) :: (.int (nI nf)) :: (.int (nI bd)) :: (.int (nI mm)) :: (.int v33_39) :: (.ref pl) :: (.ref se) :: (.ref ke) :: (.ref wi) :: (.ref hs) :: (.ref mo) :: (.ref po) :: (.ref nu) :: (.ref pr) :: (.ref sq) :: (.ref xa) :: (.ref sa) :: (.ref n64) :: (.ref m64) :: (.ref ex) :: (.ref wh) :: (.ref sd) :: (.ref tk) :: (.int v52_40) :: (.int v53_41) :: (.int v54_42) :: (.ref hd) :: (.ref ak) :: (.ref ho) :: (.ref ot) :: []) := by rw [he_189]; exact up_self
                  obtain ⟨hq_214, hq_215, hq_216, hq_217, hq_218, hgO, hgA, hgB⟩ := hW.sc hL_h0 hT_h0
                  refine lv_aload_n hx hb dX15_entry_244 rfl (lv_at hl 4 rfl) ?_
                  refine pg_get (ci := 15) (v := .int (nI (ze + 1))) (C := RX15) (T := TX15) (N := 59) hx hb hts it_15 hown hK hP hL_h0 hF_191 rfl 3 (by decide) (hts _ kt_724) (fun _ h9 => h9) rfl dX15_entry_245 ?_
                  refine W.widen (k := 0) (n := 0) (by omega) (by omega) ?_
                  exact W.iret (v := (nI (ze + 1))) hx hb hr (fun t ht hWm => ⟨⟨(nI (ze + 1)), (ze + 1), rfl, (Or.inr (Or.inr ⟨hc40, hs5.elim (fun h => val_y1 hx0 hx4 (hs5n h) (by rw [← hk0e h]; exact hn1)) (fun h => val_y2 hx0 hx4 (hs5x h) (hfst h) (by rw [← hk1e h]; exact hn1) (ho1 h).1), rfl, rfl⟩)), ⟨F_188, ty, (by rw [hty, htyU, rtf_rtf2]), QTm.mk ht hP hD hO hR, hW⟩⟩, hS.F ht⟩) hS.2.2 dX15_entry_248
                ·
                  have h51 := hs5.resolve_left c_186
                  refine lv_aload_n hx hb dX15_entry_213 rfl (lv_at hl 4 rfl) ?_
                  refine pg_get (ci := 15) (v := .ref va) (C := RX15) (T := TX15) (N := 59) hx hb hts it_15 hown hK hP hL_h0 hF_183 rfl 8 (by decide) (hts _ kt_732) (fun _ h9 => h9) rfl dX15_entry_214 ?_
                  refine lv_aload_n hx hb dX15_entry_217 rfl (lv_at hl 4 rfl) ?_
                  refine pg_get (ci := 15) (v := .int (nI ze)) (C := RX15) (T := TX15) (N := 59) hx hb hts it_15 hown hK hP hL_h0 hF_183 rfl 3 (by decide) (hts _ kt_724) (fun _ h9 => h9) rfl dX15_entry_218 ?_
                  obtain ⟨b_219, r_220, hbf_221, hi_222, ht_223⟩ := hq_166 ze (by omega)
                  refine pg_aald (r := b_219) hx hb hK hP hi_162 7 hF_185 rfl (vp_in_nI (by omega) (by omega)) (show f_164 ((nI ze) : Int32).toNatClampNeg = _ from by rw [show ((nI ze) : Int32) = nI ze from rfl, nI_clamp (by omega)]; exact hbf_221) dX15_entry_221 ?_
                  refine lv_aload_n hx hb dX15_entry_222 rfl (lv_at hl 4 rfl) ?_
                  refine pg_get (ci := 15) (v := .ref ta) (C := RX15) (T := TX15) (N := 59) hx hb hts it_15 hown hK hP hL_h0 hF_183 rfl 0 (by decide) (hts _ kt_1075) (fun _ h9 => h9) rfl dX15_entry_223 ?_
                  refine lv_iload hx hb dX15_entry_226 (lv_at hl 2 rfl) ?_
                  refine lv_iconst (v := 1) hx hb dX15_entry_228 (by decide) ?_
                  refine lv_iadd hx hb dX15_entry_229 ?_
                  refine lv_topi (fun x_224 ex_224 => ?_)
                  obtain rfl : x_224 = (nI (j + 1)) := ex_224.trans (nI_add j 1)
                  refine lv_iload_n hx hb dX15_entry_230 rfl (lv_at hl 3 rfl) ?_
                  obtain ⟨hi_225, ht_226, hq_227⟩ := hW.txt hi_222 ht_223
                  have hFc := pg_free hD hS hA
                  obtain ⟨z_228, hF_229, hq_230⟩ := hO.txt hi_222 ht_223
                  refine va_callv (va_runV (As := [.ref ta, .int (nI (j + 1)), .int (nI zt)]) (rest := []) ⟨hx, hb, hml, hown, hts⟩ (s_X14_set l dC dI cs ty gm L H.size F_178 b_219 (ρ + 31) r_220 700 ta (ρ + 1) 3000 (j + 1) zt hW hi_222 ht_223 hi_80 ht_81 (by have h9 := hn2 h51; omega) (by omega) (by have h9 := (ho1 h51).2; omega)) ⟨callB_of 3 hts (gi kt_979) rfl rfl rfl (hts _ kt_676) (hts _ kt_980) (by decide +kernel) ⟨Nat.le_of_ble_eq_true rfl, Nat.le_of_ble_eq_true rfl⟩, (hts _ kt_981), (hts _ kt_982)⟩ ⟨fun a U g mk q => ⟨q.1, PTm.calling q.2⟩, pg_recv hK hP hi_222 hF_229 (q := (RX14, TX14, 2)) rfl, fun U hU hWm => ⟨rfl, PTm.mk hU hWm hP hK hD hE hO⟩⟩ rfl rfl hl.1 rfl (lv_room (Nat.le_of_ble_eq_true rfl)) dX15_entry_231 ⟨by show _ + 0 ≤ 0; omega, by show _ + 0 ≤ 0; omega⟩) hS (fun q _ h => hFc q h) hFc (fun u t H1 locs ht hvm hw hB hz1 hk1 hS => ?_)
                  obtain ⟨F_232, hB1, hq_233⟩ := hB
                  obtain ⟨hP, hD, hO, hR⟩ := QTm.back hB1 ht hFc hR (fun q h => by simp only [List.mem_cons, List.not_mem_nil, or_false] at h ⊢; omega)
                  have hF_234 : F_232 ad = .inl (cs 16, 40, .inl f_137) := (hB1.2.2.2 ad (by rw [ht_127]; simp)).trans hF_181
                  have hF_235 : F_232 ta = .inl (cs 17, 3000, .inl gt) := (hB1.2.2.2 ta (by rw [ht_81]; simp)).trans hF_182
                  have hF_236 : F_232 h0 = .inr (15, (.ref ta) :: (.int 0) :: (.int (nI zo_28)) :: (.int (nI ze)) :: (.ref ou) :: (.ref so) :: (.ref ad) :: (.ref na) :: (.ref va) :: (.ref lc) :: (.ref dm) :: (.int v11_29) :: (.int v12_30) :: (.ref tg) :: (.int v14_31) :: (.int v15_32) :: (.ref pe) :: (.int v17_33) :: (.int v18_34) :: (.int v19_35) :: (.int v20_36) :: (.int v21_37) :: (.int v22_38) :: (.ref ml) :: (.ref bg) :: (.ref co) :: (.ref sp) :: (.ref nb0) :: (.ref nb1) :: (.ref nb2) :: (.int (nI nf)) :: (.int (nI bd)) :: (.int (nI mm)) :: (.int v33_39) :: (.ref pl) :: (.ref se) :: (.ref ke) :: (.ref wi) :: (.ref hs) :: (.ref mo) :: (.ref po) :: (.ref nu) :: (.ref pr) :: (.ref sq) :: (.ref xa) :: (.ref sa) :: (.ref n64) :: (.ref m64) :: (.ref ex) :: (.ref wh) :: (.ref sd) :: (.ref tk) :: (.int v52_40) :: (.int v53_41) :: (.int v54_42) :: (.ref hd) :: (.ref ak) :: (.ref ho) :: (.ref ot) :: []) := (hB1.2.2.2 h0 (by rw [hT_h0]; simp)).trans hF_183
                  have hF_237 : F_232 b_143 = .inr (14, [.ref r_144, .int (nI (kend - 0))]) := (hB1.2.2.2 b_143 (by rw [ht_147]; simp)).trans hF_184
                  generalize H1 = H at hP hS ⊢
                  refine lv_aload_n hx hb dX15_entry_234 rfl (lv_at hl 4 rfl) ?_
                  refine lv_dup hx hb dX15_entry_235 rfl ?_
                  refine pg_get (ci := 15) (v := .int (nI ze)) (C := RX15) (T := TX15) (N := 59) hx hb hts it_15 hown hK hP hL_h0 hF_236 rfl 3 (by decide) (hts _ kt_724) (fun _ h9 => h9) rfl dX15_entry_236 ?_
                  refine lv_iconst (v := 1) hx hb dX15_entry_239 (by decide) ?_
                  refine lv_iadd hx hb dX15_entry_240 ?_
                  refine lv_topi (fun x_238 ex_238 => ?_)
                  obtain rfl : x_238 = (nI (ze + 1)) := ex_238.trans (nI_add ze 1)
                  have htyU := hty
                  refine pg_put (ci := 15) (v := .int (nI (ze + 1))) (ty := .int) (C := RX15) (T := TX15) (N := 59) hx hb hts it_15 tyX15 tyX15_ok nmX15 hown hK hP hD hS hL_h0 hF_236 rfl 3 (by decide) (hts _ kt_724) (fun _ h9 => h9) rfl (by decide +kernel) (rfl) (rfl) (Nat.le_of_ble_eq_true rfl) dX15_entry_241 (fun H locs hP hD hS => ?_)
                  obtain ⟨F_239, he_240, hP, hD, hR⟩ : ∃ G, G = va_up F_232 h0 (.inr (15, (.ref ta) :: (.int 0) :: (.int (nI zo_28)) :: (.int (nI (ze + 1))) :: (.ref ou) :: (.ref so) :: (.ref ad) :: (.ref na) :: (.ref va) :: (.ref lc) :: (.ref dm) :: (.int v11_29) :: (.int v12_30) :: (.ref tg) :: (.int v14_31) :: (.int v15_32) :: (.ref pe) :: (.int v17_33) :: (.int v18_34) :: (.int v19_35) :: (.int v20_36) :: (.int v21_37) :: (.int v22_38) :: (.ref ml) :: (.ref bg) :: (.ref co) :: (.ref sp) :: (.ref nb0) :: (.ref nb1) :: (.ref nb2) :: (.int (nI nf)) :: (.int (nI bd)) :: (.int (nI mm)) :: (.int v33_39) :: (.ref pl) :: (.ref se) :: (.ref ke) :: (.ref wi) :: (.ref hs) :: (.ref mo) :: (.ref po) :: (.ref nu) :: (.ref pr) :: (.ref sq) :: (.ref xa) :: (.ref sa) :: (.ref n64) :: (.ref m64) :: (.ref ex) :: (.ref wh) :: (.ref sd) :: (.ref tk) :: (.int v52_40) :: (.int v53_41) :: (.int v54_42) :: (.ref hd) :: (.ref ak) :: (.ref ho) :: (.ref ot) :: [])) ∧ va_P (dC, dI) vwCl (va_pl L G) H ∧ va_D A (va_pl L G) ∧ FR ty [ρ, ρ + 3, ρ + 4, ρ + 31] F G := ⟨_, rfl, hP, hD, hR.up hT_h0 (by simp)⟩
                  have hF_241 : F_239 ta = .inl (cs 17, 3000, .inl gt) := by rw [he_240, up_ne (ne_ty ht_81 hT_h0 (by simp))]; exact hF_235
                  obtain ⟨ty, hty, hT_h0, hW, hO, hR⟩ : ∃ t9 : TyM, t9 = rtf ty h0 (15, ρ, [ta, ou, so, ad, na, va, lc, dm, tg, pe, ml, bg, co, sp, nb0, nb1, nb2, pl, se, ke, wi, hs, mo, po, nu, pr, sq, xa, sa, n64, m64, ex, wh, sd, tk, hd, ak, ho, ot, sx, s0, s1, s2, nf, bd, mm, (ze + 1), 0]) ∧ t9 h0 = (15, ρ, [ta, ou, so, ad, na, va, lc, dm, tg, pe, ml, bg, co, sp, nb0, nb1, nb2, pl, se, ke, wi, hs, mo, po, nu, pr, sq, xa, sa, n64, m64, ex, wh, sd, tk, hd, ak, ho, ot, sx, s0, s1, s2, nf, bd, mm, (ze + 1), 0]) ∧ WTm t9 gm L ∧ OKm cs t9 gm L F_239 ∧ FR t9 [ρ, ρ + 3, ρ + 4, ρ + 31] F F_239 := ⟨_, rfl, rtf_self, hW.ze hL_h0 hT_h0, (by rw [he_240]; exact OKm.retype hO hT_h0 (shm.mod rtf_self ⟨zo_28, v11_29, v12_30, v14_31, v15_32, v17_33, v18_34, v19_35, v20_36, v21_37, v22_38, v33_39, v52_40, v53_41, v54_42, rfl, (by first | omega | assumption | exact Or.inl rfl | exact Or.inr rfl), (by first | omega | assumption | exact Or.inl rfl | exact Or.inr rfl), (by first | omega | assumption | exact Or.inl rfl | exact Or.inr rfl), (by first | omega | assumption | exact Or.inl rfl | exact Or.inr rfl), (by first | omega | assumption | exact Or.inl rfl | exact Or.inr rfl)⟩)), FR.retype hT_h0 hR⟩
                  have hF_242 : F_239 h0 = .inr (15, (.ref ta) :: (.int 0) :: (.int (nI zo_28)) :: (.int (nI (ze + 1))) :: (.ref ou) :: (.ref so) :: (.ref ad) :: (.ref na) :: (.ref va) :: (.ref lc) :: (.ref dm) :: (.int v11_29) :: (.int v12_30) :: (.ref tg) :: (.int v14_31) :: (.int v15_32) :: (.ref pe) :: (.int v17_33) :: (.int v18_34) :: (.int v19_35) :: (.int v20_36) :: (.int v21_37) :: (.int v22_38) :: (.ref ml) :: (.ref bg) :: (.ref co) :: (.ref sp) :: (.ref nb0) :: (.ref nb1) :: (.ref nb2) :: (.int (nI nf)) :: (.int (nI bd)) :: (.int (nI mm)) :: (.int v33_39) :: (.ref pl) :: (.ref se) :: (.ref ke) :: (.ref wi) :: (.ref hs) :: (.ref mo) :: (.ref po) :: (.ref nu) :: (.ref pr) :: (.ref sq) :: (.ref xa) :: (.ref sa) :: (.ref n64) :: (.ref m64) :: (.ref ex) :: (.ref wh) :: (.ref sd) :: (.ref tk) :: (.int v52_40) :: (.int v53_41) :: (.int v54_42) :: (.ref hd) :: (.ref ak) :: (.ref ho) :: (.ref ot) :: []) := by rw [he_240]; exact up_self
                  obtain ⟨hq_265, hq_266, hq_267, hq_268, hq_269, hgO, hgA, hgB⟩ := hW.sc hL_h0 hT_h0
                  refine lv_aload_n hx hb dX15_entry_244 rfl (lv_at hl 4 rfl) ?_
                  refine pg_get (ci := 15) (v := .int (nI (ze + 1))) (C := RX15) (T := TX15) (N := 59) hx hb hts it_15 hown hK hP hL_h0 hF_242 rfl 3 (by decide) (hts _ kt_724) (fun _ h9 => h9) rfl dX15_entry_245 ?_
                  refine W.widen (k := 0) (n := 0) (by omega) (by omega) ?_
                  exact W.iret (v := (nI (ze + 1))) hx hb hr (fun t ht hWm => ⟨⟨(nI (ze + 1)), (ze + 1), rfl, (Or.inr (Or.inr ⟨hc40, hs5.elim (fun h => val_y1 hx0 hx4 (hs5n h) (by rw [← hk0e h]; exact hn1)) (fun h => val_y2 hx0 hx4 (hs5x h) (hfst h) (by rw [← hk1e h]; exact hn1) (ho1 h).1), rfl, rfl⟩)), ⟨F_239, ty, (by rw [hty, htyU, rtf_rtf2]), QTm.mk ht hP hD hO hR, hW⟩⟩, hS.F ht⟩) hS.2.2 dX15_entry_248
              ·
                refine lv_iload_n hx hb dX15_entry_118 rfl (lv_at hl 5 rfl) ?_
                refine lv_iconst (v := 2) hx hb dX15_entry_119 (by decide) ?_
                refine lv_icmp_ne (tgt := 138) hx hb dX15_entry_120 (by decide) (fun c_270 => ?_) (fun c_270 => ?_)
                ·
                  refine lv_iload_n hx hb dX15_entry_138 rfl (lv_at hl 5 rfl) ?_
                  refine lv_if_ne (tgt := 156) hx hb dX15_entry_139 (by decide) (fun c_271 => ?_) (fun c_271 => ?_)
                  ·
                    refine W.widen (k := 0) (n := 0) (by omega) (by omega) ?_
                    exact jn_109 () F_105 (⟨fun h => absurd (hs5x h) (fun q => q.elim c_271 c_270), hn3⟩) hO hR _ _ hP hD hS ls (lv_sub hl [0, 1, 2, 3, 4, 5, 6] rfl)
                  ·
                    have h51 : s5 = 1 := hs5.resolve_left (fun q => hs5n q (Or.inl c_271))
                    have hkz := hn2 h51
                    refine lv_iload_n hx hb dX15_entry_142 rfl (lv_at hl 3 rfl) ?_
                    refine lv_iload hx hb dX15_entry_143 (lv_at hl 2 rfl) ?_
                    refine lv_isub hx hb dX15_entry_145 ?_
                    refine lv_topi (fun x_272 ex_272 => ?_)
                    obtain rfl : x_272 = (nI (zt - j)) := ex_272.trans (pk_sub (a := zt) (b := j) (by omega))
                    refine lv_iconst (v := 1) hx hb dX15_entry_146 (by decide) ?_
                    refine lv_isub hx hb dX15_entry_147 ?_
                    refine lv_topi (fun x_273 ex_273 => ?_)
                    obtain rfl : x_273 = (nI ((zt - j) - 1)) := ex_273.trans (pk_sub (a := (zt - j)) (b := 1) (by omega))
                    refine lv_sipush (v := 700) hx hb dX15_entry_148 (by decide) ?_
                    refine lv_icmp_le (tgt := 156) hx hb dX15_entry_151 (by decide) (fun c_274 => ?_) (fun c_274 => ?_)
                    ·
                      have hi_275 : ((zt - j) - 1) ≤ 700 := (nI_leI (a := ((zt - j) - 1)) (b := 700) (by omega) (by omega)).mp c_274
                      refine W.widen (k := 0) (n := 0) (by omega) (by omega) ?_
                      exact jn_109 () F_105 (⟨fun _ => ⟨⟨by omega, fun q => absurd (q.symm.trans c_271) (by decide), fun _ => by omega⟩, by omega⟩, hn3⟩) hO hR _ _ hP hD hS ls (lv_sub hl [0, 1, 2, 3, 4, 5, 6] rfl)
                    ·
                      have hi_276 : 700 < ((zt - j) - 1) := Nat.not_le.mp (fun q => c_274 ((nI_leI (a := ((zt - j) - 1)) (b := 700) (by omega) (by omega)).mpr q))
                      refine lv_iconst (v := (-1)) hx hb dX15_entry_154 (by decide) ?_
                      refine W.widen (k := 0) (n := 0) (by omega) (by omega) ?_
                      exact W.iret (v := (-1)) hx hb hr (fun t ht hWm => ⟨⟨(-1), ze, rfl, (Or.inr (Or.inl ⟨hc40, val_nv (Or.inl c_271) (hfst h51) (fun q => absurd (q.2.2 (fun w => absurd (w.symm.trans c_271) (by decide))) (by omega)), rfl, rfl⟩)), ⟨F_105, ty, hty, QTm.mk ht hP hD hO hR, hW⟩⟩, hS.F ht⟩) hS.2.2 dX15_entry_155
                ·
                  have h51 : s5 = 1 := hs5.resolve_left (fun q => hs5n q (Or.inr c_270))
                  have hkz := hn2 h51
                  refine lv_aload_n hx hb dX15_entry_123 rfl (lv_at hl 4 rfl) ?_
                  refine pg_get (ci := 15) (v := .ref ta) (C := RX15) (T := TX15) (N := 59) hx hb hts it_15 hown hK hP hL_h0 hn3 rfl 0 (by decide) (hts _ kt_1075) (fun _ h9 => h9) rfl dX15_entry_124 ?_
                  refine lv_iload hx hb dX15_entry_127 (lv_at hl 2 rfl) ?_
                  refine lv_iconst (v := 1) hx hb dX15_entry_129 (by decide) ?_
                  refine lv_iadd hx hb dX15_entry_130 ?_
                  refine lv_topi (fun x_277 ex_277 => ?_)
                  obtain rfl : x_277 = (nI (j + 1)) := ex_277.trans (nI_add j 1)
                  refine lv_iload_n hx hb dX15_entry_131 rfl (lv_at hl 3 rfl) ?_
                  obtain ⟨hq_278, hq_279⟩ := hW.octs hi_80 ht_81
                  have hFc := pg_free hD hS hA
                  refine va_calli (va_runS (As := [.ref ta, .int (nI (j + 1)), .int (nI zt)]) (rest := []) ⟨hx, hb, hml, hown, hts⟩ (s_X14_isName_e l dC dI cs ty gm L H.size F_105 ta (ρ + 1) 3000 (j + 1) zt gt hW hi_80 ht_81 hF_108 (by first | omega | assumption) (by first | omega | assumption)) ⟨callB_of 3 hts (gi kt_689) rfl rfl rfl (hts _ kt_676) (hts _ kt_863) (by decide +kernel) ⟨Nat.le_of_ble_eq_true rfl, Nat.le_of_ble_eq_true rfl⟩, (hts _ kt_691)⟩ ⟨fun a U g mk q => ⟨q.1, PTm.calling q.2⟩, fun U hU hWm => ⟨rfl, PTm.mk hU hWm hP hK hD hE hO⟩⟩ rfl rfl hl.1 rfl (lv_room (Nat.le_of_ble_eq_true rfl)) dX15_entry_132 ⟨by show _ + 0 ≤ 0; omega, by show _ + 0 ≤ 0; omega⟩) hS (fun q _ h => hFc q h) hFc (fun r_280 u t H1 locs ht hvm hw hB hz1 hk1 hS => ?_)
                  obtain ⟨F_281, hB1⟩ := hB
                  obtain rfl : F_105 = F_281 := (funext (fun a => hB1.2.2.2 a List.not_mem_nil)).symm
                  obtain ⟨hP, hD, hO, hR⟩ := QTm.back hB1 ht hFc hR (fun q h => absurd h List.not_mem_nil)
                  generalize H1 = H at hP hS ⊢
                  have hw : r_280 = (if NM gt (j + 1) zt = true then 1 else 0) := hw
                  have hw_282 := hw
                  refine lv_if_eq (tgt := 154) hx hb dX15_entry_135 (by decide) (fun c_283 => ?_) (fun c_283 => ?_)
                  ·
                    refine lv_iconst (v := (-1)) hx hb dX15_entry_154 (by decide) ?_
                    refine W.widen (k := 0) (n := 0) (by omega) (by omega) ?_
                    exact W.iret (v := (-1)) hx hb hr (fun t ht hWm => ⟨⟨(-1), ze, rfl, (Or.inr (Or.inl ⟨hc40, val_nv (Or.inr c_270) (hfst h51) (fun q => ifb0 hw_282 c_283 (q.2.1 c_270)), rfl, rfl⟩)), ⟨F_105, ty, hty, QTm.mk ht hP hD hO hR, hW⟩⟩, hS.F ht⟩) hS.2.2 dX15_entry_155
                  ·
                    refine lv_iload_n hx hb dX15_entry_138 rfl (lv_at hl 5 rfl) ?_
                    refine lv_if_ne (tgt := 156) hx hb dX15_entry_139 (by decide) (fun c_284 => ?_) (fun c_284 => ?_)
                    ·
                      refine W.widen (k := 0) (n := 0) (by omega) (by omega) ?_
                      exact jn_109 () F_105 (⟨fun _ => ⟨⟨by omega, fun _ => ifb1 hw_282 c_283, fun q => absurd c_270 q⟩, by have h9 := nm_60 (ifb1 hw_282 c_283); omega⟩, hn3⟩) hO hR _ _ hP hD hS ls (lv_sub hl [0, 1, 2, 3, 4, 5, 6] rfl)
                    ·
                      have h51 : s5 = 1 := hs5.resolve_left (fun q => hs5n q (Or.inl c_284))
                      have hkz := hn2 h51
                      refine lv_iload_n hx hb dX15_entry_142 rfl (lv_at hl 3 rfl) ?_
                      refine lv_iload hx hb dX15_entry_143 (lv_at hl 2 rfl) ?_
                      refine lv_isub hx hb dX15_entry_145 ?_
                      refine lv_topi (fun x_285 ex_285 => ?_)
                      obtain rfl : x_285 = (nI (zt - j)) := ex_285.trans (pk_sub (a := zt) (b := j) (by omega))
                      refine lv_iconst (v := 1) hx hb dX15_entry_146 (by decide) ?_
                      refine lv_isub hx hb dX15_entry_147 ?_
                      refine lv_topi (fun x_286 ex_286 => ?_)
                      obtain rfl : x_286 = (nI ((zt - j) - 1)) := ex_286.trans (pk_sub (a := (zt - j)) (b := 1) (by omega))
                      refine lv_sipush (v := 700) hx hb dX15_entry_148 (by decide) ?_
                      refine lv_icmp_le (tgt := 156) hx hb dX15_entry_151 (by decide) (fun c_287 => ?_) (fun c_287 => ?_)
                      ·
                        have hi_288 : ((zt - j) - 1) ≤ 700 := (nI_leI (a := ((zt - j) - 1)) (b := 700) (by omega) (by omega)).mp c_287
                        refine W.widen (k := 0) (n := 0) (by omega) (by omega) ?_
                        exact jn_109 () F_105 (⟨fun _ => ⟨⟨by omega, fun q => absurd (q.symm.trans c_284) (by decide), fun _ => by omega⟩, by omega⟩, hn3⟩) hO hR _ _ hP hD hS ls (lv_sub hl [0, 1, 2, 3, 4, 5, 6] rfl)
                      ·
                        have hi_289 : 700 < ((zt - j) - 1) := Nat.not_le.mp (fun q => c_287 ((nI_leI (a := ((zt - j) - 1)) (b := 700) (by omega) (by omega)).mpr q))
                        refine lv_iconst (v := (-1)) hx hb dX15_entry_154 (by decide) ?_
                        refine W.widen (k := 0) (n := 0) (by omega) (by omega) ?_
                        exact W.iret (v := (-1)) hx hb hr (fun t ht hWm => ⟨⟨(-1), ze, rfl, (Or.inr (Or.inl ⟨hc40, val_nv (Or.inl c_284) (hfst h51) (fun q => absurd (q.2.2 (fun w => absurd (w.symm.trans c_284) (by decide))) (by omega)), rfl, rfl⟩)), ⟨F_105, ty, hty, QTm.mk ht hP hD hO hR, hW⟩⟩, hS.F ht⟩) hS.2.2 dX15_entry_155
            ·
              refine lv_iload hx hb dX15_entry_92 (lv_at hl 1 rfl) ?_
              refine lv_if_eq (tgt := 103) hx hb dX15_entry_94 (by decide) (fun c_290 => ?_) (fun c_290 => ?_)
              ·
                refine lv_aload_n hx hb dX15_entry_103 rfl (lv_at hl 4 rfl) ?_
                refine pg_get (ci := 15) (v := .ref ta) (C := RX15) (T := TX15) (N := 59) hx hb hts it_15 hown hK hP hL_h0 hb2 rfl 0 (by decide) (hts _ kt_1075) (fun _ h9 => h9) rfl dX15_entry_104 ?_
                refine lv_iconst (v := 0) hx hb dX15_entry_107 (by decide) ?_
                refine lv_iload hx hb dX15_entry_108 (lv_at hl 0 rfl) ?_
                refine W.eq (g2 := F0 m 110 ls [.int (nI kend), .int (nI 0), .ref ta]) rfl ?_
                obtain ⟨hq_291, hq_292⟩ := hW.octs hi_80 ht_81
                have hFc := pg_free hD hS hA
                refine va_calli (va_runS (As := [.ref ta, .int (nI 0), .int (nI kend)]) (rest := []) ⟨hx, hb, hml, hown, hts⟩ (s_X14_isName_e l dC dI cs ty gm L H.size F_100 ta (ρ + 1) 3000 0 kend gt hW hi_80 ht_81 hF_103 (by first | omega | assumption) (by first | omega | assumption)) ⟨callB_of 3 hts (gi kt_689) rfl rfl rfl (hts _ kt_676) (hts _ kt_863) (by decide +kernel) ⟨Nat.le_of_ble_eq_true rfl, Nat.le_of_ble_eq_true rfl⟩, (hts _ kt_691)⟩ ⟨fun a U g mk q => ⟨q.1, PTm.calling q.2⟩, fun U hU hWm => ⟨rfl, PTm.mk hU hWm hP hK hD hE hO⟩⟩ rfl rfl hl.1 rfl (lv_room (Nat.le_of_ble_eq_true rfl)) dX15_entry_110 ⟨by show _ + 0 ≤ 0; omega, by show _ + 0 ≤ 0; omega⟩) hS (fun q _ h => hFc q h) hFc (fun r_293 u t H1 locs ht hvm hw hB hz1 hk1 hS => ?_)
                obtain ⟨F_294, hB1⟩ := hB
                obtain rfl : F_100 = F_294 := (funext (fun a => hB1.2.2.2 a List.not_mem_nil)).symm
                obtain ⟨hP, hD, hO, hR⟩ := QTm.back hB1 ht hFc hR (fun q h => absurd h List.not_mem_nil)
                generalize H1 = H at hP hS ⊢
                have hw : r_293 = (if NM gt 0 kend = true then 1 else 0) := hw
                have hw_295 := hw
                refine lv_if_ne (tgt := 118) hx hb dX15_entry_113 (by decide) (fun c_296 => ?_) (fun c_296 => ?_)
                ·
                  refine W.widen (k := 0) (n := 0) (by omega) (by omega) ?_
                  exact jn_104 () F_100 (⟨ifb1 hw_295 c_296, nm_60 (ifb1 hw_295 c_296), fun h => absurd (h.symm.trans c_290) (by decide), hb2⟩) hO hR _ _ hP hD hS ls (lv_sub hl [0, 1, 2, 3, 4, 5, 6] rfl)
                ·
                  refine lv_iconst (v := (-1)) hx hb dX15_entry_116 (by decide) ?_
                  refine W.widen (k := 0) (n := 0) (by omega) (by omega) ?_
                  exact W.iret (v := (-1)) hx hb hr (fun t ht hWm => ⟨⟨(-1), ze, rfl, (Or.inr (Or.inl ⟨hc40, val_nz (hs5n c_290) (by rw [← hk0e c_290]; exact (ifb0 hw_295 c_296)), rfl, rfl⟩)), ⟨F_100, ty, hty, QTm.mk ht hP hD hO hR, hW⟩⟩, hS.F ht⟩) hS.2.2 dX15_entry_117
              ·
                refine lv_iload hx hb dX15_entry_97 (lv_at hl 2 rfl) ?_
                refine lv_iload_n hx hb dX15_entry_99 rfl (lv_at hl 3 rfl) ?_
                refine lv_icmp_eq (tgt := 116) hx hb dX15_entry_100 (by decide) (fun c_297 => ?_) (fun c_297 => ?_)
                ·
                  have hi_298 : j = zt := (nI_eq (a := j) (b := zt) (by omega) (by omega)).mp c_297
                  refine lv_iconst (v := (-1)) hx hb dX15_entry_116 (by decide) ?_
                  refine W.widen (k := 0) (n := 0) (by omega) (by omega) ?_
                  exact W.iret (v := (-1)) hx hb hr (fun t ht hWm => ⟨⟨(-1), ze, rfl, (Or.inr (Or.inl ⟨hc40, val_nv (hs5x (hs5.resolve_left c_290)) (hfst (hs5.resolve_left c_290)) (fun q => q.1 (by omega)), rfl, rfl⟩)), ⟨F_100, ty, hty, QTm.mk ht hP hD hO hR, hW⟩⟩, hS.F ht⟩) hS.2.2 dX15_entry_117
                ·
                  have hi_299 : j ≠ zt := fun q => c_297 (by rw [q])
                  refine lv_aload_n hx hb dX15_entry_103 rfl (lv_at hl 4 rfl) ?_
                  refine pg_get (ci := 15) (v := .ref ta) (C := RX15) (T := TX15) (N := 59) hx hb hts it_15 hown hK hP hL_h0 hb2 rfl 0 (by decide) (hts _ kt_1075) (fun _ h9 => h9) rfl dX15_entry_104 ?_
                  refine lv_iconst (v := 0) hx hb dX15_entry_107 (by decide) ?_
                  refine lv_iload hx hb dX15_entry_108 (lv_at hl 0 rfl) ?_
                  refine W.eq (g2 := F0 m 110 ls [.int (nI kend), .int (nI 0), .ref ta]) rfl ?_
                  obtain ⟨hq_300, hq_301⟩ := hW.octs hi_80 ht_81
                  have hFc := pg_free hD hS hA
                  refine va_calli (va_runS (As := [.ref ta, .int (nI 0), .int (nI kend)]) (rest := []) ⟨hx, hb, hml, hown, hts⟩ (s_X14_isName_e l dC dI cs ty gm L H.size F_100 ta (ρ + 1) 3000 0 kend gt hW hi_80 ht_81 hF_103 (by first | omega | assumption) (by first | omega | assumption)) ⟨callB_of 3 hts (gi kt_689) rfl rfl rfl (hts _ kt_676) (hts _ kt_863) (by decide +kernel) ⟨Nat.le_of_ble_eq_true rfl, Nat.le_of_ble_eq_true rfl⟩, (hts _ kt_691)⟩ ⟨fun a U g mk q => ⟨q.1, PTm.calling q.2⟩, fun U hU hWm => ⟨rfl, PTm.mk hU hWm hP hK hD hE hO⟩⟩ rfl rfl hl.1 rfl (lv_room (Nat.le_of_ble_eq_true rfl)) dX15_entry_110 ⟨by show _ + 0 ≤ 0; omega, by show _ + 0 ≤ 0; omega⟩) hS (fun q _ h => hFc q h) hFc (fun r_302 u t H1 locs ht hvm hw hB hz1 hk1 hS => ?_)
                  obtain ⟨F_303, hB1⟩ := hB
                  obtain rfl : F_100 = F_303 := (funext (fun a => hB1.2.2.2 a List.not_mem_nil)).symm
                  obtain ⟨hP, hD, hO, hR⟩ := QTm.back hB1 ht hFc hR (fun q h => absurd h List.not_mem_nil)
                  generalize H1 = H at hP hS ⊢
                  have hw : r_302 = (if NM gt 0 kend = true then 1 else 0) := hw
                  have hw_304 := hw
                  refine lv_if_ne (tgt := 118) hx hb dX15_entry_113 (by decide) (fun c_305 => ?_) (fun c_305 => ?_)
                  ·
                    refine W.widen (k := 0) (n := 0) (by omega) (by omega) ?_
                    exact jn_104 () F_100 (⟨ifb1 hw_304 c_305, nm_60 (ifb1 hw_304 c_305), fun _ => by omega, hb2⟩) hO hR _ _ hP hD hS ls (lv_sub hl [0, 1, 2, 3, 4, 5, 6] rfl)
                  ·
                    refine lv_iconst (v := (-1)) hx hb dX15_entry_116 (by decide) ?_
                    refine W.widen (k := 0) (n := 0) (by omega) (by omega) ?_
                    exact W.iret (v := (-1)) hx hb hr (fun t ht hWm => ⟨⟨(-1), ze, rfl, (Or.inr (Or.inl ⟨hc40, val_nn (hs5x (hs5.resolve_left c_290)) (hfst (hs5.resolve_left c_290)) (by rw [← hk1e (hs5.resolve_left c_290)]; exact (ifb0 hw_304 c_305)), rfl, rfl⟩)), ⟨F_100, ty, hty, QTm.mk ht hP hD hO hR, hW⟩⟩, hS.F ht⟩) hS.2.2 dX15_entry_117
          ·
            refine lv_iload hx hb dX15_entry_79 (lv_at hl 0 rfl) ?_
            refine lv_if_eq (tgt := 89) hx hb dX15_entry_81 (by decide) (fun c_306 => ?_) (fun c_306 => ?_)
            ·
              refine lv_iload_n hx hb dX15_entry_89 rfl (lv_at hl 2 rfl) ?_
              refine W.widen (k := 0) (n := 0) (by omega) (by omega) ?_
              exact jn_99 (nI zt) F_93 (⟨⟨zt, Nat.le_refl _, rfl, fun h => absurd (h.symm.trans c_306) (by decide), fun _ => rfl⟩, ha2⟩) hO hR _ _ hP hD hS ls (lv_sub hl [0, 1, 2, 3, 4, 5] rfl)
            ·
              refine lv_iload hx hb dX15_entry_84 (lv_at hl 1 rfl) ?_
              refine lv_goto (tgt := 90) hx hb dX15_entry_86 (by decide) ?_
              refine W.widen (k := 0) (n := 0) (by omega) (by omega) ?_
              exact jn_99 (nI j) F_93 (⟨⟨j, by omega, rfl, fun _ => rfl, fun h => absurd h c_306⟩, ha2⟩) hO hR _ _ hP hD hS ls (lv_sub hl [0, 1, 2, 3, 4, 5] rfl)
        ·
          refine lv_iload hx hb dX15_entry_55 (lv_at hl 1 rfl) ?_
          refine lv_iload_n hx hb dX15_entry_57 rfl (lv_at hl 2 rfl) ?_
          refine lv_icmp_ge (tgt := 79) hx hb dX15_entry_58 (by decide) (fun c_307 => ?_) (fun c_307 => ?_)
          ·
            have hi_308 : zt ≤ j := leN (N := zt) c_307
            have hfst : s5 = 1 → FST gt 32 zt j := fun _ => ⟨by omega, ha3, Or.inl (by omega)⟩
            have hF_311 : F ta = .inl (cs 17, 3000, .inl gt) := (hR ta (by rw [ht_81]; simp)).symm.trans hF_97
            refine W.widen (k := 0) (n := 0) (by omega) (by omega) ?_
            refine pl_cutm (σ := Int32) A (dC, dI) cs ty gm L [ρ, ρ + 3, ρ + 4, ρ + 31] F 90 7 (fun s6 => [(5, .int s5), (4, .int (nI j)), (3, .int (nI zt)), (0, .ref h0), (1, .int x1), (2, .int x2)]) (fun s6 => [.int s6]) (fun s6 FF => (∃ k : Nat, k ≤ zt ∧ s6 = nI k ∧ (s5 = 1 → k = j) ∧ (s5 = 0 → k = zt)) ∧ FF h0 = .inr (15, (.ref ta) :: (.int 0) :: (.int (nI zo_28)) :: (.int (nI ze)) :: (.ref ou) :: (.ref so) :: (.ref ad) :: (.ref na) :: (.ref va) :: (.ref lc) :: (.ref dm) :: (.int v11_29) :: (.int v12_30) :: (.ref tg) :: (.int v14_31) :: (.int v15_32) :: (.ref pe) :: (.int v17_33) :: (.int v18_34) :: (.int v19_35) :: (.int v20_36) :: (.int v21_37) :: (.int v22_38) :: (.ref ml) :: (.ref bg) :: (.ref co) :: (.ref sp) :: (.ref nb0) :: (.ref nb1) :: (.ref nb2) :: (.int (nI nf)) :: (.int (nI bd)) :: (.int (nI mm)) :: (.int v33_39) :: (.ref pl) :: (.ref se) :: (.ref ke) :: (.ref wi) :: (.ref hs) :: (.ref mo) :: (.ref po) :: (.ref nu) :: (.ref pr) :: (.ref sq) :: (.ref xa) :: (.ref sa) :: (.ref n64) :: (.ref m64) :: (.ref ex) :: (.ref wh) :: (.ref sd) :: (.ref tk) :: (.int v52_40) :: (.int v53_41) :: (.int v54_42) :: (.ref hd) :: (.ref ak) :: (.ref ho) :: (.ref ot) :: [])) ?_ (fun jn_309 => ?_)
            ·
              rintro s6 F_310 hv_312 hO hR H locs hP hD hS ls hl
              have hl : lv_has ls 7 [(5, .int s5), (4, .int (nI j)), (3, .int (nI zt)), (0, .ref h0), (1, .int x1), (2, .int x2)] := hl
              have hv_312 : (∃ k : Nat, k ≤ zt ∧ s6 = nI k ∧ (s5 = 1 → k = j) ∧ (s5 = 0 → k = zt)) ∧ F_310 h0 = .inr (15, (.ref ta) :: (.int 0) :: (.int (nI zo_28)) :: (.int (nI ze)) :: (.ref ou) :: (.ref so) :: (.ref ad) :: (.ref na) :: (.ref va) :: (.ref lc) :: (.ref dm) :: (.int v11_29) :: (.int v12_30) :: (.ref tg) :: (.int v14_31) :: (.int v15_32) :: (.ref pe) :: (.int v17_33) :: (.int v18_34) :: (.int v19_35) :: (.int v20_36) :: (.int v21_37) :: (.int v22_38) :: (.ref ml) :: (.ref bg) :: (.ref co) :: (.ref sp) :: (.ref nb0) :: (.ref nb1) :: (.ref nb2) :: (.int (nI nf)) :: (.int (nI bd)) :: (.int (nI mm)) :: (.int v33_39) :: (.ref pl) :: (.ref se) :: (.ref ke) :: (.ref wi) :: (.ref hs) :: (.ref mo) :: (.ref po) :: (.ref nu) :: (.ref pr) :: (.ref sq) :: (.ref xa) :: (.ref sa) :: (.ref n64) :: (.ref m64) :: (.ref ex) :: (.ref wh) :: (.ref sd) :: (.ref tk) :: (.int v52_40) :: (.int v53_41) :: (.int v54_42) :: (.ref hd) :: (.ref ak) :: (.ref ho) :: (.ref ot) :: []) := hv_312
              refine W.eq (g2 := F0 m 90 ls [.int s6]) rfl ?_
              have hF_313 : F_310 ta = .inl (cs 17, 3000, .inl gt) := (hR ta (by rw [ht_81]; simp)).trans hF_311
              obtain ⟨⟨kend, hke, eke, hk1e, hk0e⟩, hb2⟩ := hv_312
              subst eke
              refine W.eq (g2 := F0 m 90 ls [.int (nI kend)]) rfl ?_
              refine lv_istore (lv' := [(6, .int (nI kend)), (5, .int s5), (4, .int (nI j)), (3, .int (nI zt)), (0, .ref h0), (1, .int x1), (2, .int x2)]) hx hb dX15_entry_90 hl (by decide) rfl (fun ls hl => ?_)
              have hF_316 : F ta = .inl (cs 17, 3000, .inl gt) := (hR ta (by rw [ht_81]; simp)).symm.trans hF_313
              refine W.widen (k := 0) (n := 0) (by omega) (by omega) ?_
              refine pl_cutm (σ := Unit) A (dC, dI) cs ty gm L [ρ, ρ + 3, ρ + 4, ρ + 31] F 118 7 (fun u0 => [(6, .int (nI kend)), (5, .int s5), (4, .int (nI j)), (3, .int (nI zt)), (0, .ref h0), (1, .int x1), (2, .int x2)]) (fun u0 => []) (fun u0 FF => NM gt 0 kend = true ∧ kend ≤ 60 ∧ (s5 = 1 → j < zt) ∧ FF h0 = .inr (15, (.ref ta) :: (.int 0) :: (.int (nI zo_28)) :: (.int (nI ze)) :: (.ref ou) :: (.ref so) :: (.ref ad) :: (.ref na) :: (.ref va) :: (.ref lc) :: (.ref dm) :: (.int v11_29) :: (.int v12_30) :: (.ref tg) :: (.int v14_31) :: (.int v15_32) :: (.ref pe) :: (.int v17_33) :: (.int v18_34) :: (.int v19_35) :: (.int v20_36) :: (.int v21_37) :: (.int v22_38) :: (.ref ml) :: (.ref bg) :: (.ref co) :: (.ref sp) :: (.ref nb0) :: (.ref nb1) :: (.ref nb2) :: (.int (nI nf)) :: (.int (nI bd)) :: (.int (nI mm)) :: (.int v33_39) :: (.ref pl) :: (.ref se) :: (.ref ke) :: (.ref wi) :: (.ref hs) :: (.ref mo) :: (.ref po) :: (.ref nu) :: (.ref pr) :: (.ref sq) :: (.ref xa) :: (.ref sa) :: (.ref n64) :: (.ref m64) :: (.ref ex) :: (.ref wh) :: (.ref sd) :: (.ref tk) :: (.int v52_40) :: (.int v53_41) :: (.int v54_42) :: (.ref hd) :: (.ref ak) :: (.ref ho) :: (.ref ot) :: [])) ?_ (fun jn_314 => ?_)
              ·
                rintro u0 F_315 hv_317 hO hR H locs hP hD hS ls hl
                have hl : lv_has ls 7 [(6, .int (nI kend)), (5, .int s5), (4, .int (nI j)), (3, .int (nI zt)), (0, .ref h0), (1, .int x1), (2, .int x2)] := hl
                have hv_317 : NM gt 0 kend = true ∧ kend ≤ 60 ∧ (s5 = 1 → j < zt) ∧ F_315 h0 = .inr (15, (.ref ta) :: (.int 0) :: (.int (nI zo_28)) :: (.int (nI ze)) :: (.ref ou) :: (.ref so) :: (.ref ad) :: (.ref na) :: (.ref va) :: (.ref lc) :: (.ref dm) :: (.int v11_29) :: (.int v12_30) :: (.ref tg) :: (.int v14_31) :: (.int v15_32) :: (.ref pe) :: (.int v17_33) :: (.int v18_34) :: (.int v19_35) :: (.int v20_36) :: (.int v21_37) :: (.int v22_38) :: (.ref ml) :: (.ref bg) :: (.ref co) :: (.ref sp) :: (.ref nb0) :: (.ref nb1) :: (.ref nb2) :: (.int (nI nf)) :: (.int (nI bd)) :: (.int (nI mm)) :: (.int v33_39) :: (.ref pl) :: (.ref se) :: (.ref ke) :: (.ref wi) :: (.ref hs) :: (.ref mo) :: (.ref po) :: (.ref nu) :: (.ref pr) :: (.ref sq) :: (.ref xa) :: (.ref sa) :: (.ref n64) :: (.ref m64) :: (.ref ex) :: (.ref wh) :: (.ref sd) :: (.ref tk) :: (.int v52_40) :: (.int v53_41) :: (.int v54_42) :: (.ref hd) :: (.ref ak) :: (.ref ho) :: (.ref ot) :: []) := hv_317
                refine W.eq (g2 := F0 m 118 ls []) rfl ?_
                have hF_318 : F_315 ta = .inl (cs 17, 3000, .inl gt) := (hR ta (by rw [ht_81]; simp)).trans hF_316
                obtain ⟨hn1, hn6, hn2, hn3⟩ := hv_317
                have hF_321 : F ta = .inl (cs 17, 3000, .inl gt) := (hR ta (by rw [ht_81]; simp)).symm.trans hF_318
                refine W.widen (k := 0) (n := 0) (by omega) (by omega) ?_
                refine pl_cutm (σ := Unit) A (dC, dI) cs ty gm L [ρ, ρ + 3, ρ + 4, ρ + 31] F 156 7 (fun u0 => [(6, .int (nI kend)), (5, .int s5), (4, .int (nI j)), (3, .int (nI zt)), (0, .ref h0), (1, .int x1), (2, .int x2)]) (fun u0 => []) (fun u0 FF => (s5 = 1 → ISV x1 gt zt j ∧ zt - j - 1 ≤ 700) ∧ FF h0 = .inr (15, (.ref ta) :: (.int 0) :: (.int (nI zo_28)) :: (.int (nI ze)) :: (.ref ou) :: (.ref so) :: (.ref ad) :: (.ref na) :: (.ref va) :: (.ref lc) :: (.ref dm) :: (.int v11_29) :: (.int v12_30) :: (.ref tg) :: (.int v14_31) :: (.int v15_32) :: (.ref pe) :: (.int v17_33) :: (.int v18_34) :: (.int v19_35) :: (.int v20_36) :: (.int v21_37) :: (.int v22_38) :: (.ref ml) :: (.ref bg) :: (.ref co) :: (.ref sp) :: (.ref nb0) :: (.ref nb1) :: (.ref nb2) :: (.int (nI nf)) :: (.int (nI bd)) :: (.int (nI mm)) :: (.int v33_39) :: (.ref pl) :: (.ref se) :: (.ref ke) :: (.ref wi) :: (.ref hs) :: (.ref mo) :: (.ref po) :: (.ref nu) :: (.ref pr) :: (.ref sq) :: (.ref xa) :: (.ref sa) :: (.ref n64) :: (.ref m64) :: (.ref ex) :: (.ref wh) :: (.ref sd) :: (.ref tk) :: (.int v52_40) :: (.int v53_41) :: (.int v54_42) :: (.ref hd) :: (.ref ak) :: (.ref ho) :: (.ref ot) :: [])) ?_ (fun jn_319 => ?_)
                ·
                  rintro u0 F_320 hv_322 hO hR H locs hP hD hS ls hl
                  have hl : lv_has ls 7 [(6, .int (nI kend)), (5, .int s5), (4, .int (nI j)), (3, .int (nI zt)), (0, .ref h0), (1, .int x1), (2, .int x2)] := hl
                  have hv_322 : (s5 = 1 → ISV x1 gt zt j ∧ zt - j - 1 ≤ 700) ∧ F_320 h0 = .inr (15, (.ref ta) :: (.int 0) :: (.int (nI zo_28)) :: (.int (nI ze)) :: (.ref ou) :: (.ref so) :: (.ref ad) :: (.ref na) :: (.ref va) :: (.ref lc) :: (.ref dm) :: (.int v11_29) :: (.int v12_30) :: (.ref tg) :: (.int v14_31) :: (.int v15_32) :: (.ref pe) :: (.int v17_33) :: (.int v18_34) :: (.int v19_35) :: (.int v20_36) :: (.int v21_37) :: (.int v22_38) :: (.ref ml) :: (.ref bg) :: (.ref co) :: (.ref sp) :: (.ref nb0) :: (.ref nb1) :: (.ref nb2) :: (.int (nI nf)) :: (.int (nI bd)) :: (.int (nI mm)) :: (.int v33_39) :: (.ref pl) :: (.ref se) :: (.ref ke) :: (.ref wi) :: (.ref hs) :: (.ref mo) :: (.ref po) :: (.ref nu) :: (.ref pr) :: (.ref sq) :: (.ref xa) :: (.ref sa) :: (.ref n64) :: (.ref m64) :: (.ref ex) :: (.ref wh) :: (.ref sd) :: (.ref tk) :: (.int v52_40) :: (.int v53_41) :: (.int v54_42) :: (.ref hd) :: (.ref ak) :: (.ref ho) :: (.ref ot) :: []) := hv_322
                  refine W.eq (g2 := F0 m 156 ls []) rfl ?_
                  have hF_323 : F_320 ta = .inl (cs 17, 3000, .inl gt) := (hR ta (by rw [ht_81]; simp)).trans hF_321
                  obtain ⟨ho1, ho2⟩ := hv_322
                  refine lv_aload_n hx hb dX15_entry_156 rfl (lv_at hl 4 rfl) ?_
                  refine pg_get (ci := 15) (v := .ref so) (C := RX15) (T := TX15) (N := 59) hx hb hts it_15 hown hK hP hL_h0 ho2 rfl 5 (by decide) (hts _ kt_718) (fun _ h9 => h9) rfl dX15_entry_157 ?_
                  refine lv_aload_n hx hb dX15_entry_160 rfl (lv_at hl 4 rfl) ?_
                  refine pg_get (ci := 15) (v := .int (nI ze)) (C := RX15) (T := TX15) (N := 59) hx hb hts it_15 hown hK hP hL_h0 ho2 rfl 3 (by decide) (hts _ kt_724) (fun _ h9 => h9) rfl dX15_entry_161 ?_
                  refine lv_iload_n hx hb dX15_entry_164 rfl (lv_at hl 5 rfl) ?_
                  obtain ⟨hi_324, ht_325⟩ := hW.f_so hL_h0 hT_h0
                  obtain ⟨hq_326, hq_327⟩ := hW.ints hi_324 ht_325
                  obtain ⟨f_328, hF_329⟩ := hO.ints hi_324 ht_325
                  refine pg_iast hx hb hK hP hD hS hi_324 0 hF_329 rfl (vp_in_nI (by omega) (by omega)) dX15_entry_165 (fun H locs hP hD hS => ?_)
                  obtain ⟨F_330, he_331, hP, hD, hO, hR⟩ : ∃ G, G = va_up F_320 so (.inl (cs 16, 40, .inl (upd f_328 ((nI ze)).toNatClampNeg (x1)))) ∧ va_P (dC, dI) vwCl (va_pl L G) H ∧ va_D A (va_pl L G) ∧ OKm cs ty gm L G ∧ FR ty [ρ, ρ + 3, ρ + 4, ρ + 31] F G := ⟨_, rfl, hP, hD, hO.up (shm.ints ht_325 ⟨_, rfl⟩), hR.up ht_325 (by simp)⟩
                  have hF_332 : F_330 so = .inl (cs 16, 40, .inl (upd f_328 ((nI ze)).toNatClampNeg (x1))) := by rw [he_331]; exact up_self
                  have hF_333 : F_330 ta = .inl (cs 17, 3000, .inl gt) := by rw [he_331, up_ne (ne_ty ht_81 ht_325 (by simp))]; exact hF_323
                  have hF_334 : F_330 h0 = .inr (15, (.ref ta) :: (.int 0) :: (.int (nI zo_28)) :: (.int (nI ze)) :: (.ref ou) :: (.ref so) :: (.ref ad) :: (.ref na) :: (.ref va) :: (.ref lc) :: (.ref dm) :: (.int v11_29) :: (.int v12_30) :: (.ref tg) :: (.int v14_31) :: (.int v15_32) :: (.ref pe) :: (.int v17_33) :: (.int v18_34) :: (.int v19_35) :: (.int v20_36) :: (.int v21_37) :: (.int v22_38) :: (.ref ml) :: (.ref bg) :: (.ref co) :: (.ref sp) :: (.ref nb0) :: (.ref nb1) :: (.ref nb2) :: (.int (nI nf)) :: (.int (nI bd)) :: (.int (nI mm)) :: (.int v33_39) :: (.ref pl) :: (.ref se) :: (.ref ke) :: (.ref wi) :: (.ref hs) :: (.ref mo) :: (.ref po) :: (.ref nu) :: (.ref pr) :: (.ref sq) :: (.ref xa) :: (.ref sa) :: (.ref n64) :: (.ref m64) :: (.ref ex) :: (.ref wh) :: (.ref sd) :: (.ref tk) :: (.int v52_40) :: (.int v53_41) :: (.int v54_42) :: (.ref hd) :: (.ref ak) :: (.ref ho) :: (.ref ot) :: []) := by rw [he_331, up_ne (ne_ty hT_h0 ht_325 (by simp))]; exact ho2
                  obtain ⟨f_335, hF_332⟩ : ∃ f : Nat → Int32, F_330 so = .inl (cs 16, 40, .inl f) := ⟨_, hF_332⟩
                  refine lv_aload_n hx hb dX15_entry_166 rfl (lv_at hl 4 rfl) ?_
                  refine pg_get (ci := 15) (v := .ref ad) (C := RX15) (T := TX15) (N := 59) hx hb hts it_15 hown hK hP hL_h0 hF_334 rfl 6 (by decide) (hts _ kt_740) (fun _ h9 => h9) rfl dX15_entry_167 ?_
                  refine lv_aload_n hx hb dX15_entry_170 rfl (lv_at hl 4 rfl) ?_
                  refine pg_get (ci := 15) (v := .int (nI ze)) (C := RX15) (T := TX15) (N := 59) hx hb hts it_15 hown hK hP hL_h0 hF_334 rfl 3 (by decide) (hts _ kt_724) (fun _ h9 => h9) rfl dX15_entry_171 ?_
                  refine lv_iload_n hx hb dX15_entry_174 rfl (lv_at hl 6 rfl) ?_
                  obtain ⟨hi_336, ht_337⟩ := hW.f_ad hL_h0 hT_h0
                  obtain ⟨hq_338, hq_339⟩ := hW.ints hi_336 ht_337
                  obtain ⟨f_340, hF_341⟩ := hO.ints hi_336 ht_337
                  refine pg_iast hx hb hK hP hD hS hi_336 0 hF_341 rfl (vp_in_nI (by omega) (by omega)) dX15_entry_175 (fun H locs hP hD hS => ?_)
                  obtain ⟨F_342, he_343, hP, hD, hO, hR⟩ : ∃ G, G = va_up F_330 ad (.inl (cs 16, 40, .inl (upd f_340 ((nI ze)).toNatClampNeg (x2)))) ∧ va_P (dC, dI) vwCl (va_pl L G) H ∧ va_D A (va_pl L G) ∧ OKm cs ty gm L G ∧ FR ty [ρ, ρ + 3, ρ + 4, ρ + 31] F G := ⟨_, rfl, hP, hD, hO.up (shm.ints ht_337 ⟨_, rfl⟩), hR.up ht_337 (by simp)⟩
                  have hF_344 : F_342 ad = .inl (cs 16, 40, .inl (upd f_340 ((nI ze)).toNatClampNeg (x2))) := by rw [he_343]; exact up_self
                  have hF_345 : F_342 ta = .inl (cs 17, 3000, .inl gt) := by rw [he_343, up_ne (ne_ty ht_81 ht_337 (by simp))]; exact hF_333
                  have hF_346 : F_342 h0 = .inr (15, (.ref ta) :: (.int 0) :: (.int (nI zo_28)) :: (.int (nI ze)) :: (.ref ou) :: (.ref so) :: (.ref ad) :: (.ref na) :: (.ref va) :: (.ref lc) :: (.ref dm) :: (.int v11_29) :: (.int v12_30) :: (.ref tg) :: (.int v14_31) :: (.int v15_32) :: (.ref pe) :: (.int v17_33) :: (.int v18_34) :: (.int v19_35) :: (.int v20_36) :: (.int v21_37) :: (.int v22_38) :: (.ref ml) :: (.ref bg) :: (.ref co) :: (.ref sp) :: (.ref nb0) :: (.ref nb1) :: (.ref nb2) :: (.int (nI nf)) :: (.int (nI bd)) :: (.int (nI mm)) :: (.int v33_39) :: (.ref pl) :: (.ref se) :: (.ref ke) :: (.ref wi) :: (.ref hs) :: (.ref mo) :: (.ref po) :: (.ref nu) :: (.ref pr) :: (.ref sq) :: (.ref xa) :: (.ref sa) :: (.ref n64) :: (.ref m64) :: (.ref ex) :: (.ref wh) :: (.ref sd) :: (.ref tk) :: (.int v52_40) :: (.int v53_41) :: (.int v54_42) :: (.ref hd) :: (.ref ak) :: (.ref ho) :: (.ref ot) :: []) := by rw [he_343, up_ne (ne_ty hT_h0 ht_337 (by simp))]; exact hF_334
                  obtain ⟨f_347, hF_344⟩ : ∃ f : Nat → Int32, F_342 ad = .inl (cs 16, 40, .inl f) := ⟨_, hF_344⟩
                  refine lv_aload_n hx hb dX15_entry_176 rfl (lv_at hl 4 rfl) ?_
                  refine pg_get (ci := 15) (v := .ref na) (C := RX15) (T := TX15) (N := 59) hx hb hts it_15 hown hK hP hL_h0 hF_346 rfl 7 (by decide) (hts _ kt_719) (fun _ h9 => h9) rfl dX15_entry_177 ?_
                  refine lv_aload_n hx hb dX15_entry_180 rfl (lv_at hl 4 rfl) ?_
                  refine pg_get (ci := 15) (v := .int (nI ze)) (C := RX15) (T := TX15) (N := 59) hx hb hts it_15 hown hK hP hL_h0 hF_346 rfl 3 (by decide) (hts _ kt_724) (fun _ h9 => h9) rfl dX15_entry_181 ?_
                  obtain ⟨hi_348, ht_349⟩ := hW.f_na hL_h0 hT_h0
                  obtain ⟨f_350, hF_351, hq_352⟩ := hO.rtxt hi_348 ht_349
                  obtain ⟨b_353, r_354, hbf_355, hi_356, ht_357⟩ := hq_352 ze (by omega)
                  refine pg_aald (r := b_353) hx hb hK hP hi_348 7 hF_351 rfl (vp_in_nI (by omega) (by omega)) (show f_350 ((nI ze) : Int32).toNatClampNeg = _ from by rw [show ((nI ze) : Int32) = nI ze from rfl, nI_clamp (by omega)]; exact hbf_355) dX15_entry_184 ?_
                  refine lv_aload_n hx hb dX15_entry_185 rfl (lv_at hl 4 rfl) ?_
                  refine pg_get (ci := 15) (v := .ref ta) (C := RX15) (T := TX15) (N := 59) hx hb hts it_15 hown hK hP hL_h0 hF_346 rfl 0 (by decide) (hts _ kt_1075) (fun _ h9 => h9) rfl dX15_entry_186 ?_
                  refine lv_iconst (v := 0) hx hb dX15_entry_189 (by decide) ?_
                  refine lv_iload hx hb dX15_entry_190 (lv_at hl 0 rfl) ?_
                  refine W.eq (g2 := F0 m 192 ls [.int (nI kend), .int (nI 0), .ref ta, .ref b_353]) rfl ?_
                  obtain ⟨hi_358, ht_359, hq_360⟩ := hW.txt hi_356 ht_357
                  obtain ⟨hq_361, hq_362⟩ := hW.octs hi_80 ht_81
                  have hFc := pg_free hD hS hA
                  obtain ⟨z_363, hF_364, hq_365⟩ := hO.txt hi_356 ht_357
                  refine va_callv (va_runV (As := [.ref ta, .int (nI 0), .int (nI kend)]) (rest := []) ⟨hx, hb, hml, hown, hts⟩ (s_X14_set l dC dI cs ty gm L H.size F_342 b_353 (ρ + 4) r_354 60 ta (ρ + 1) 3000 0 kend hW hi_356 ht_357 hi_80 ht_81 (by first | omega | assumption) (by first | omega | assumption) (by first | omega | assumption)) ⟨callB_of 3 hts (gi kt_979) rfl rfl rfl (hts _ kt_676) (hts _ kt_980) (by decide +kernel) ⟨Nat.le_of_ble_eq_true rfl, Nat.le_of_ble_eq_true rfl⟩, (hts _ kt_981), (hts _ kt_982)⟩ ⟨fun a U g mk q => ⟨q.1, PTm.calling q.2⟩, pg_recv hK hP hi_356 hF_364 (q := (RX14, TX14, 2)) rfl, fun U hU hWm => ⟨rfl, PTm.mk hU hWm hP hK hD hE hO⟩⟩ rfl rfl hl.1 rfl (lv_room (Nat.le_of_ble_eq_true rfl)) dX15_entry_192 ⟨by show _ + 0 ≤ 0; omega, by show _ + 0 ≤ 0; omega⟩) hS (fun q _ h => hFc q h) hFc (fun u t H1 locs ht hvm hw hB hz1 hk1 hS => ?_)
                  obtain ⟨F_367, hB1, hq_368⟩ := hB
                  obtain ⟨hP, hD, hO, hR⟩ := QTm.back hB1 ht hFc hR (fun q h => by simp only [List.mem_cons, List.not_mem_nil, or_false] at h ⊢; omega)
                  have hF_369 : F_367 ad = .inl (cs 16, 40, .inl f_347) := (hB1.2.2.2 ad (by rw [ht_337]; simp)).trans hF_344
                  have hF_370 : F_367 ta = .inl (cs 17, 3000, .inl gt) := (hB1.2.2.2 ta (by rw [ht_81]; simp)).trans hF_345
                  have hF_371 : F_367 h0 = .inr (15, (.ref ta) :: (.int 0) :: (.int (nI zo_28)) :: (.int (nI ze)) :: (.ref ou) :: (.ref so) :: (.ref ad) :: (.ref na) :: (.ref va) :: (.ref lc) :: (.ref dm) :: (.int v11_29) :: (.int v12_30) :: (.ref tg) :: (.int v14_31) :: (.int v15_32) :: (.ref pe) :: (.int v17_33) :: (.int v18_34) :: (.int v19_35) :: (.int v20_36) :: (.int v21_37) :: (.int v22_38) :: (.ref ml) :: (.ref bg) :: (.ref co) :: (.ref sp) :: (.ref nb0) :: (.ref nb1) :: (.ref nb2) :: (.int (nI nf)) :: (.int (nI bd)) :: (.int (nI mm)) :: (.int v33_39) :: (.ref pl) :: (.ref se) :: (.ref ke) :: (.ref wi) :: (.ref hs) :: (.ref mo) :: (.ref po) :: (.ref nu) :: (.ref pr) :: (.ref sq) :: (.ref xa) :: (.ref sa) :: (.ref n64) :: (.ref m64) :: (.ref ex) :: (.ref wh) :: (.ref sd) :: (.ref tk) :: (.int v52_40) :: (.int v53_41) :: (.int v54_42) :: (.ref hd) :: (.ref ak) :: (.ref ho) :: (.ref ot) :: []) := (hB1.2.2.2 h0 (by rw [hT_h0]; simp)).trans hF_346
                  generalize H1 = H at hP hS ⊢
                  refine lv_aload_n hx hb dX15_entry_195 rfl (lv_at hl 4 rfl) ?_
                  refine pg_get (ci := 15) (v := .ref va) (C := RX15) (T := TX15) (N := 59) hx hb hts it_15 hown hK hP hL_h0 hF_371 rfl 8 (by decide) (hts _ kt_732) (fun _ h9 => h9) rfl dX15_entry_196 ?_
                  refine lv_aload_n hx hb dX15_entry_199 rfl (lv_at hl 4 rfl) ?_
                  refine pg_get (ci := 15) (v := .int (nI ze)) (C := RX15) (T := TX15) (N := 59) hx hb hts it_15 hown hK hP hL_h0 hF_371 rfl 3 (by decide) (hts _ kt_724) (fun _ h9 => h9) rfl dX15_entry_200 ?_
                  obtain ⟨hi_372, ht_373⟩ := hW.f_va hL_h0 hT_h0
                  obtain ⟨f_374, hF_375, hq_376⟩ := hO.rtxt hi_372 ht_373
                  obtain ⟨b_377, r_378, hbf_379, hi_380, ht_381⟩ := hq_376 ze (by omega)
                  refine pg_aald (r := b_377) hx hb hK hP hi_372 7 hF_375 rfl (vp_in_nI (by omega) (by omega)) (show f_374 ((nI ze) : Int32).toNatClampNeg = _ from by rw [show ((nI ze) : Int32) = nI ze from rfl, nI_clamp (by omega)]; exact hbf_379) dX15_entry_203 ?_
                  refine lv_iconst (v := 0) hx hb dX15_entry_204 (by decide) ?_
                  obtain ⟨hi_382, ht_383, hq_384⟩ := hW.txt hi_380 ht_381
                  obtain ⟨z_385, hF_386, hq_387⟩ := hO.txt hi_380 ht_381
                  refine pg_put (ci := 14) (v := .int 0) (ty := .int) (C := RX14) (T := TX14) (N := 2) hx hb hts it_14 tyX14 tyX14_ok nmX14 hown hK hP hD hS hi_380 hF_386 rfl 1 (by decide) (hts _ kt_709) (fun _ h9 => h9) rfl (by decide +kernel) (rfl) (rfl) (Nat.le_of_ble_eq_true rfl) dX15_entry_205 (fun H locs hP hD hS => ?_)
                  obtain ⟨F_388, he_389, hP, hD, hO, hR⟩ : ∃ G, G = va_up F_367 b_377 (.inr (14, [.ref r_378, .int 0])) ∧ va_P (dC, dI) vwCl (va_pl L G) H ∧ va_D A (va_pl L G) ∧ OKm cs ty gm L G ∧ FR ty [ρ, ρ + 3, ρ + 4, ρ + 31] F G := ⟨_, rfl, hP, hD, hO.up (shm.txt ht_381 ⟨0, rfl, (by first | omega | assumption | exact Or.inl rfl | exact Or.inr rfl)⟩), hR.up ht_381 (by simp)⟩
                  have hF_390 : F_388 b_377 = .inr (14, [.ref r_378, .int 0]) := by rw [he_389]; exact up_self
                  have hF_391 : F_388 ad = .inl (cs 16, 40, .inl f_347) := by rw [he_389, up_ne (ne_ty ht_337 ht_381 (by simp))]; exact hF_369
                  have hF_392 : F_388 ta = .inl (cs 17, 3000, .inl gt) := by rw [he_389, up_ne (ne_ty ht_81 ht_381 (by simp))]; exact hF_370
                  have hF_393 : F_388 h0 = .inr (15, (.ref ta) :: (.int 0) :: (.int (nI zo_28)) :: (.int (nI ze)) :: (.ref ou) :: (.ref so) :: (.ref ad) :: (.ref na) :: (.ref va) :: (.ref lc) :: (.ref dm) :: (.int v11_29) :: (.int v12_30) :: (.ref tg) :: (.int v14_31) :: (.int v15_32) :: (.ref pe) :: (.int v17_33) :: (.int v18_34) :: (.int v19_35) :: (.int v20_36) :: (.int v21_37) :: (.int v22_38) :: (.ref ml) :: (.ref bg) :: (.ref co) :: (.ref sp) :: (.ref nb0) :: (.ref nb1) :: (.ref nb2) :: (.int (nI nf)) :: (.int (nI bd)) :: (.int (nI mm)) :: (.int v33_39) :: (.ref pl) :: (.ref se) :: (.ref ke) :: (.ref wi) :: (.ref hs) :: (.ref mo) :: (.ref po) :: (.ref nu) :: (.ref pr) :: (.ref sq) :: (.ref xa) :: (.ref sa) :: (.ref n64) :: (.ref m64) :: (.ref ex) :: (.ref wh) :: (.ref sd) :: (.ref tk) :: (.int v52_40) :: (.int v53_41) :: (.int v54_42) :: (.ref hd) :: (.ref ak) :: (.ref ho) :: (.ref ot) :: []) := by rw [he_389, up_ne (ne_ty hT_h0 ht_381 (by simp))]; exact hF_371
                  have hF_394 : F_388 b_353 = .inr (14, [.ref r_354, .int (nI (kend - 0))]) := by rw [he_389, up_ne (ne_ty2 ht_357 ht_381 (by simp))]; exact hq_368
                  have hF_395 : F_388 va = .inl (cs 23, 40, .inr (.inr (.inr (.inr f_374)))) := by rw [he_389, up_ne (ne_ty ht_373 ht_381 (by simp))]; exact hF_375
                  refine lv_iload hx hb dX15_entry_208 (lv_at hl 1 rfl) ?_
                  refine lv_if_eq (tgt := 234) hx hb dX15_entry_210 (by decide) (fun c_396 => ?_) (fun c_396 => ?_)
                  ·
                    refine lv_aload_n hx hb dX15_entry_234 rfl (lv_at hl 4 rfl) ?_
                    refine lv_dup hx hb dX15_entry_235 rfl ?_
                    refine pg_get (ci := 15) (v := .int (nI ze)) (C := RX15) (T := TX15) (N := 59) hx hb hts it_15 hown hK hP hL_h0 hF_393 rfl 3 (by decide) (hts _ kt_724) (fun _ h9 => h9) rfl dX15_entry_236 ?_
                    refine lv_iconst (v := 1) hx hb dX15_entry_239 (by decide) ?_
                    refine lv_iadd hx hb dX15_entry_240 ?_
                    refine lv_topi (fun x_397 ex_397 => ?_)
                    obtain rfl : x_397 = (nI (ze + 1)) := ex_397.trans (nI_add ze 1)
                    have htyU := hty
                    refine pg_put (ci := 15) (v := .int (nI (ze + 1))) (ty := .int) (C := RX15) (T := TX15) (N := 59) hx hb hts it_15 tyX15 tyX15_ok nmX15 hown hK hP hD hS hL_h0 hF_393 rfl 3 (by decide) (hts _ kt_724) (fun _ h9 => h9) rfl (by decide +kernel) (rfl) (rfl) (Nat.le_of_ble_eq_true rfl) dX15_entry_241 (fun H locs hP hD hS => ?_)
                    obtain ⟨F_398, he_399, hP, hD, hR⟩ : ∃ G, G = va_up F_388 h0 (.inr (15, (.ref ta) :: (.int 0) :: (.int (nI zo_28)) :: (.int (nI (ze + 1))) :: (.ref ou) :: (.ref so) :: (.ref ad) :: (.ref na) :: (.ref va) :: (.ref lc) :: (.ref dm) :: (.int v11_29) :: (.int v12_30) :: (.ref tg) :: (.int v14_31) :: (.int v15_32) :: (.ref pe) :: (.int v17_33) :: (.int v18_34) :: (.int v19_35) :: (.int v20_36) :: (.int v21_37) :: (.int v22_38) :: (.ref ml) :: (.ref bg) :: (.ref co) :: (.ref sp) :: (.ref nb0) :: (.ref nb1) :: (.ref nb2) :: (.int (nI nf)) :: (.int (nI bd)) :: (.int (nI mm)) :: (.int v33_39) :: (.ref pl) :: (.ref se) :: (.ref ke) :: (.ref wi) :: (.ref hs) :: (.ref mo) :: (.ref po) :: (.ref nu) :: (.ref pr) :: (.ref sq) :: (.ref xa) :: (.ref sa) :: (.ref n64) :: (.ref m64) :: (.ref ex) :: (.ref wh) :: (.ref sd) :: (.ref tk) :: (.int v52_40) :: (.int v53_41) :: (.int v54_42) :: (.ref hd) :: (.ref ak) :: (.ref ho) :: (.ref ot) :: [])) ∧ va_P (dC, dI) vwCl (va_pl L G) H ∧ va_D A (va_pl L G) ∧ FR ty [ρ, ρ + 3, ρ + 4, ρ + 31] F G := ⟨_, rfl, hP, hD, hR.up hT_h0 (by simp)⟩
                    have hF_400 : F_398 ta = .inl (cs 17, 3000, .inl gt) := by rw [he_399, up_ne (ne_ty ht_81 hT_h0 (by simp))]; exact hF_392
                    obtain ⟨ty, hty, hT_h0, hW, hO, hR⟩ : ∃ t9 : TyM, t9 = rtf ty h0 (15, ρ, [ta, ou, so, ad, na, va, lc, dm, tg, pe, ml, bg, co, sp, nb0, nb1, nb2, pl, se, ke, wi, hs, mo, po, nu, pr, sq, xa, sa, n64, m64, ex, wh, sd, tk, hd, ak, ho, ot, sx, s0, s1, s2, nf, bd, mm, (ze + 1), 0]) ∧ t9 h0 = (15, ρ, [ta, ou, so, ad, na, va, lc, dm, tg, pe, ml, bg, co, sp, nb0, nb1, nb2, pl, se, ke, wi, hs, mo, po, nu, pr, sq, xa, sa, n64, m64, ex, wh, sd, tk, hd, ak, ho, ot, sx, s0, s1, s2, nf, bd, mm, (ze + 1), 0]) ∧ WTm t9 gm L ∧ OKm cs t9 gm L F_398 ∧ FR t9 [ρ, ρ + 3, ρ + 4, ρ + 31] F F_398 := ⟨_, rfl, rtf_self, hW.ze hL_h0 hT_h0, (by rw [he_399]; exact OKm.retype hO hT_h0 (shm.mod rtf_self ⟨zo_28, v11_29, v12_30, v14_31, v15_32, v17_33, v18_34, v19_35, v20_36, v21_37, v22_38, v33_39, v52_40, v53_41, v54_42, rfl, (by first | omega | assumption | exact Or.inl rfl | exact Or.inr rfl), (by first | omega | assumption | exact Or.inl rfl | exact Or.inr rfl), (by first | omega | assumption | exact Or.inl rfl | exact Or.inr rfl), (by first | omega | assumption | exact Or.inl rfl | exact Or.inr rfl), (by first | omega | assumption | exact Or.inl rfl | exact Or.inr rfl)⟩)), FR.retype hT_h0 hR⟩
                    have hF_401 : F_398 h0 = .inr (15, (.ref ta) :: (.int 0) :: (.int (nI zo_28)) :: (.int (nI (ze + 1))) :: (.ref ou) :: (.ref so) :: (.ref ad) :: (.ref na) :: (.ref va) :: (.ref lc) :: (.ref dm) :: (.int v11_29) :: (.int v12_30) :: (.ref tg) :: (.int v14_31) :: (.int v15_32) :: (.ref pe) :: (.int v17_33) :: (.int v18_34) :: (.int v19_35) :: (.int v20_36) :: (.int v21_37) :: (.int v22_38) :: (.ref ml) :: (.ref bg) :: (.ref co) :: (.ref sp) :: (.ref nb0) :: (.ref nb1) :: (.ref nb2) :: (.int (nI nf)) :: (.int (nI bd)) :: (.int (nI mm)) :: (.int v33_39) :: (.ref pl) :: (.ref se) :: (.ref ke) :: (.ref wi) :: (.ref hs) :: (.ref mo) :: (.ref po) :: (.ref nu) :: (.ref pr) :: (.ref sq) :: (.ref xa) :: (.ref sa) :: (.ref n64) :: (.ref m64) :: (.ref ex) :: (.ref wh) :: (.ref sd) :: (.ref tk) :: (.int v52_40) :: (.int v53_41) :: (.int v54_42) :: (.ref hd) :: (.ref ak) :: (.ref ho) :: (.ref ot) :: []) := by rw [he_399]; exact up_self
                    obtain ⟨hq_424, hq_425, hq_426, hq_427, hq_428, hgO, hgA, hgB⟩ := hW.sc hL_h0 hT_h0
                    refine lv_aload_n hx hb dX15_entry_244 rfl (lv_at hl 4 rfl) ?_
                    refine pg_get (ci := 15) (v := .int (nI (ze + 1))) (C := RX15) (T := TX15) (N := 59) hx hb hts it_15 hown hK hP hL_h0 hF_401 rfl 3 (by decide) (hts _ kt_724) (fun _ h9 => h9) rfl dX15_entry_245 ?_
                    refine W.widen (k := 0) (n := 0) (by omega) (by omega) ?_
                    exact W.iret (v := (nI (ze + 1))) hx hb hr (fun t ht hWm => ⟨⟨(nI (ze + 1)), (ze + 1), rfl, (Or.inr (Or.inr ⟨hc40, hs5.elim (fun h => val_y1 hx0 hx4 (hs5n h) (by rw [← hk0e h]; exact hn1)) (fun h => val_y2 hx0 hx4 (hs5x h) (hfst h) (by rw [← hk1e h]; exact hn1) (ho1 h).1), rfl, rfl⟩)), ⟨F_398, ty, (by rw [hty, htyU, rtf_rtf2]), QTm.mk ht hP hD hO hR, hW⟩⟩, hS.F ht⟩) hS.2.2 dX15_entry_248
                  ·
                    have h51 := hs5.resolve_left c_396
                    refine lv_aload_n hx hb dX15_entry_213 rfl (lv_at hl 4 rfl) ?_
                    refine pg_get (ci := 15) (v := .ref va) (C := RX15) (T := TX15) (N := 59) hx hb hts it_15 hown hK hP hL_h0 hF_393 rfl 8 (by decide) (hts _ kt_732) (fun _ h9 => h9) rfl dX15_entry_214 ?_
                    refine lv_aload_n hx hb dX15_entry_217 rfl (lv_at hl 4 rfl) ?_
                    refine pg_get (ci := 15) (v := .int (nI ze)) (C := RX15) (T := TX15) (N := 59) hx hb hts it_15 hown hK hP hL_h0 hF_393 rfl 3 (by decide) (hts _ kt_724) (fun _ h9 => h9) rfl dX15_entry_218 ?_
                    obtain ⟨b_429, r_430, hbf_431, hi_432, ht_433⟩ := hq_376 ze (by omega)
                    refine pg_aald (r := b_429) hx hb hK hP hi_372 7 hF_395 rfl (vp_in_nI (by omega) (by omega)) (show f_374 ((nI ze) : Int32).toNatClampNeg = _ from by rw [show ((nI ze) : Int32) = nI ze from rfl, nI_clamp (by omega)]; exact hbf_431) dX15_entry_221 ?_
                    refine lv_aload_n hx hb dX15_entry_222 rfl (lv_at hl 4 rfl) ?_
                    refine pg_get (ci := 15) (v := .ref ta) (C := RX15) (T := TX15) (N := 59) hx hb hts it_15 hown hK hP hL_h0 hF_393 rfl 0 (by decide) (hts _ kt_1075) (fun _ h9 => h9) rfl dX15_entry_223 ?_
                    refine lv_iload hx hb dX15_entry_226 (lv_at hl 2 rfl) ?_
                    refine lv_iconst (v := 1) hx hb dX15_entry_228 (by decide) ?_
                    refine lv_iadd hx hb dX15_entry_229 ?_
                    refine lv_topi (fun x_434 ex_434 => ?_)
                    obtain rfl : x_434 = (nI (j + 1)) := ex_434.trans (nI_add j 1)
                    refine lv_iload_n hx hb dX15_entry_230 rfl (lv_at hl 3 rfl) ?_
                    obtain ⟨hi_435, ht_436, hq_437⟩ := hW.txt hi_432 ht_433
                    have hFc := pg_free hD hS hA
                    obtain ⟨z_438, hF_439, hq_440⟩ := hO.txt hi_432 ht_433
                    refine va_callv (va_runV (As := [.ref ta, .int (nI (j + 1)), .int (nI zt)]) (rest := []) ⟨hx, hb, hml, hown, hts⟩ (s_X14_set l dC dI cs ty gm L H.size F_388 b_429 (ρ + 31) r_430 700 ta (ρ + 1) 3000 (j + 1) zt hW hi_432 ht_433 hi_80 ht_81 (by have h9 := hn2 h51; omega) (by omega) (by have h9 := (ho1 h51).2; omega)) ⟨callB_of 3 hts (gi kt_979) rfl rfl rfl (hts _ kt_676) (hts _ kt_980) (by decide +kernel) ⟨Nat.le_of_ble_eq_true rfl, Nat.le_of_ble_eq_true rfl⟩, (hts _ kt_981), (hts _ kt_982)⟩ ⟨fun a U g mk q => ⟨q.1, PTm.calling q.2⟩, pg_recv hK hP hi_432 hF_439 (q := (RX14, TX14, 2)) rfl, fun U hU hWm => ⟨rfl, PTm.mk hU hWm hP hK hD hE hO⟩⟩ rfl rfl hl.1 rfl (lv_room (Nat.le_of_ble_eq_true rfl)) dX15_entry_231 ⟨by show _ + 0 ≤ 0; omega, by show _ + 0 ≤ 0; omega⟩) hS (fun q _ h => hFc q h) hFc (fun u t H1 locs ht hvm hw hB hz1 hk1 hS => ?_)
                    obtain ⟨F_442, hB1, hq_443⟩ := hB
                    obtain ⟨hP, hD, hO, hR⟩ := QTm.back hB1 ht hFc hR (fun q h => by simp only [List.mem_cons, List.not_mem_nil, or_false] at h ⊢; omega)
                    have hF_444 : F_442 ad = .inl (cs 16, 40, .inl f_347) := (hB1.2.2.2 ad (by rw [ht_337]; simp)).trans hF_391
                    have hF_445 : F_442 ta = .inl (cs 17, 3000, .inl gt) := (hB1.2.2.2 ta (by rw [ht_81]; simp)).trans hF_392
                    have hF_446 : F_442 h0 = .inr (15, (.ref ta) :: (.int 0) :: (.int (nI zo_28)) :: (.int (nI ze)) :: (.ref ou) :: (.ref so) :: (.ref ad) :: (.ref na) :: (.ref va) :: (.ref lc) :: (.ref dm) :: (.int v11_29) :: (.int v12_30) :: (.ref tg) :: (.int v14_31) :: (.int v15_32) :: (.ref pe) :: (.int v17_33) :: (.int v18_34) :: (.int v19_35) :: (.int v20_36) :: (.int v21_37) :: (.int v22_38) :: (.ref ml) :: (.ref bg) :: (.ref co) :: (.ref sp) :: (.ref nb0) :: (.ref nb1) :: (.ref nb2) :: (.int (nI nf)) :: (.int (nI bd)) :: (.int (nI mm)) :: (.int v33_39) :: (.ref pl) :: (.ref se) :: (.ref ke) :: (.ref wi) :: (.ref hs) :: (.ref mo) :: (.ref po) :: (.ref nu) :: (.ref pr) :: (.ref sq) :: (.ref xa) :: (.ref sa) :: (.ref n64) :: (.ref m64) :: (.ref ex) :: (.ref wh) :: (.ref sd) :: (.ref tk) :: (.int v52_40) :: (.int v53_41) :: (.int v54_42) :: (.ref hd) :: (.ref ak) :: (.ref ho) :: (.ref ot) :: []) := (hB1.2.2.2 h0 (by rw [hT_h0]; simp)).trans hF_393
                    have hF_447 : F_442 b_353 = .inr (14, [.ref r_354, .int (nI (kend - 0))]) := (hB1.2.2.2 b_353 (by rw [ht_357]; simp)).trans hF_394
                    generalize H1 = H at hP hS ⊢
                    refine lv_aload_n hx hb dX15_entry_234 rfl (lv_at hl 4 rfl) ?_
                    refine lv_dup hx hb dX15_entry_235 rfl ?_
                    refine pg_get (ci := 15) (v := .int (nI ze)) (C := RX15) (T := TX15) (N := 59) hx hb hts it_15 hown hK hP hL_h0 hF_446 rfl 3 (by decide) (hts _ kt_724) (fun _ h9 => h9) rfl dX15_entry_236 ?_
                    refine lv_iconst (v := 1) hx hb dX15_entry_239 (by decide) ?_
                    refine lv_iadd hx hb dX15_entry_240 ?_
                    refine lv_topi (fun x_448 ex_448 => ?_)
                    obtain rfl : x_448 = (nI (ze + 1)) := ex_448.trans (nI_add ze 1)
                    have htyU := hty
                    refine pg_put (ci := 15) (v := .int (nI (ze + 1))) (ty := .int) (C := RX15) (T := TX15) (N := 59) hx hb hts it_15 tyX15 tyX15_ok nmX15 hown hK hP hD hS hL_h0 hF_446 rfl 3 (by decide) (hts _ kt_724) (fun _ h9 => h9) rfl (by decide +kernel) (rfl) (rfl) (Nat.le_of_ble_eq_true rfl) dX15_entry_241 (fun H locs hP hD hS => ?_)
                    obtain ⟨F_449, he_450, hP, hD, hR⟩ : ∃ G, G = va_up F_442 h0 (.inr (15, (.ref ta) :: (.int 0) :: (.int (nI zo_28)) :: (.int (nI (ze + 1))) :: (.ref ou) :: (.ref so) :: (.ref ad) :: (.ref na) :: (.ref va) :: (.ref lc) :: (.ref dm) :: (.int v11_29) :: (.int v12_30) :: (.ref tg) :: (.int v14_31) :: (.int v15_32) :: (.ref pe) :: (.int v17_33) :: (.int v18_34) :: (.int v19_35) :: (.int v20_36) :: (.int v21_37) :: (.int v22_38) :: (.ref ml) :: (.ref bg) :: (.ref co) :: (.ref sp) :: (.ref nb0) :: (.ref nb1) :: (.ref nb2) :: (.int (nI nf)) :: (.int (nI bd)) :: (.int (nI mm)) :: (.int v33_39) :: (.ref pl) :: (.ref se) :: (.ref ke) :: (.ref wi) :: (.ref hs) :: (.ref mo) :: (.ref po) :: (.ref nu) :: (.ref pr) :: (.ref sq) :: (.ref xa) :: (.ref sa) :: (.ref n64) :: (.ref m64) :: (.ref ex) :: (.ref wh) :: (.ref sd) :: (.ref tk) :: (.int v52_40) :: (.int v53_41) :: (.int v54_42) :: (.ref hd) :: (.ref ak) :: (.ref ho) :: (.ref ot) :: [])) ∧ va_P (dC, dI) vwCl (va_pl L G) H ∧ va_D A (va_pl L G) ∧ FR ty [ρ, ρ + 3, ρ + 4, ρ + 31] F G := ⟨_, rfl, hP, hD, hR.up hT_h0 (by simp)⟩
                    have hF_451 : F_449 ta = .inl (cs 17, 3000, .inl gt) := by rw [he_450, up_ne (ne_ty ht_81 hT_h0 (by simp))]; exact hF_445
                    obtain ⟨ty, hty, hT_h0, hW, hO, hR⟩ : ∃ t9 : TyM, t9 = rtf ty h0 (15, ρ, [ta, ou, so, ad, na, va, lc, dm, tg, pe, ml, bg, co, sp, nb0, nb1, nb2, pl, se, ke, wi, hs, mo, po, nu, pr, sq, xa, sa, n64, m64, ex, wh, sd, tk, hd, ak, ho, ot, sx, s0, s1, s2, nf, bd, mm, (ze + 1), 0]) ∧ t9 h0 = (15, ρ, [ta, ou, so, ad, na, va, lc, dm, tg, pe, ml, bg, co, sp, nb0, nb1, nb2, pl, se, ke, wi, hs, mo, po, nu, pr, sq, xa, sa, n64, m64, ex, wh, sd, tk, hd, ak, ho, ot, sx, s0, s1, s2, nf, bd, mm, (ze + 1), 0]) ∧ WTm t9 gm L ∧ OKm cs t9 gm L F_449 ∧ FR t9 [ρ, ρ + 3, ρ + 4, ρ + 31] F F_449 := ⟨_, rfl, rtf_self, hW.ze hL_h0 hT_h0, (by rw [he_450]; exact OKm.retype hO hT_h0 (shm.mod rtf_self ⟨zo_28, v11_29, v12_30, v14_31, v15_32, v17_33, v18_34, v19_35, v20_36, v21_37, v22_38, v33_39, v52_40, v53_41, v54_42, rfl, (by first | omega | assumption | exact Or.inl rfl | exact Or.inr rfl), (by first | omega | assumption | exact Or.inl rfl | exact Or.inr rfl), (by first | omega | assumption | exact Or.inl rfl | exact Or.inr rfl), (by first | omega | assumption | exact Or.inl rfl | exact Or.inr rfl), (by first | omega | assumption | exact Or.inl rfl | exact Or.inr rfl)⟩)), FR.retype hT_h0 hR⟩
                    have hF_452 : F_449 h0 = .inr (15, (.ref ta) :: (.int 0) :: (.int (nI zo_28)) :: (.int (nI (ze + 1))) :: (.ref ou) :: (.ref so) :: (.ref ad) :: (.ref na) :: (.ref va) :: (.ref lc) :: (.ref dm) :: (.int v11_29) :: (.int v12_30) :: (.ref tg) :: (.int v14_31) :: (.int v15_32) :: (.ref pe) :: (.int v17_33) :: (.int v18_34) :: (.int v19_35) :: (.int v20_36) :: (.int v21_37) :: (.int v22_38) :: (.ref ml) :: (.ref bg) :: (.ref co) :: (.ref sp) :: (.ref nb0) :: (.ref nb1) :: (.ref nb2) :: (.int (nI nf)) :: (.int (nI bd)) :: (.int (nI mm)) :: (.int v33_39) :: (.ref pl) :: (.ref se) :: (.ref ke) :: (.ref wi) :: (.ref hs) :: (.ref mo) :: (.ref po) :: (.ref nu) :: (.ref pr) :: (.ref sq) :: (.ref xa) :: (.ref sa) :: (.ref n64) :: (.ref m64) :: (.ref ex) :: (.ref wh) :: (.ref sd) :: (.ref tk) :: (.int v52_40) :: (.int v53_41) :: (.int v54_42) :: (.ref hd) :: (.ref ak) :: (.ref ho) :: (.ref ot) :: []) := by rw [he_450]; exact up_self
                    obtain ⟨hq_475, hq_476, hq_477, hq_478, hq_479, hgO, hgA, hgB⟩ := hW.sc hL_h0 hT_h0
                    refine lv_aload_n hx hb dX15_entry_244 rfl (lv_at hl 4 rfl) ?_
                    refine pg_get (ci := 15) (v := .int (nI (ze + 1))) (C := RX15) (T := TX15) (N := 59) hx hb hts it_15 hown hK hP hL_h0 hF_452 rfl 3 (by decide) (hts _ kt_724) (fun _ h9 => h9) rfl dX15_entry_245 ?_
                    refine W.widen (k := 0) (n := 0) (by omega) (by omega) ?_
                    exact W.iret (v := (nI (ze + 1))) hx hb hr (fun t ht hWm => ⟨⟨(nI (ze + 1)), (ze + 1), rfl, (Or.inr (Or.inr ⟨hc40, hs5.elim (fun h => val_y1 hx0 hx4 (hs5n h) (by rw [← hk0e h]; exact hn1)) (fun h => val_y2 hx0 hx4 (hs5x h) (hfst h) (by rw [← hk1e h]; exact hn1) (ho1 h).1), rfl, rfl⟩)), ⟨F_449, ty, (by rw [hty, htyU, rtf_rtf2]), QTm.mk ht hP hD hO hR, hW⟩⟩, hS.F ht⟩) hS.2.2 dX15_entry_248
                ·
                  refine lv_iload_n hx hb dX15_entry_118 rfl (lv_at hl 5 rfl) ?_
                  refine lv_iconst (v := 2) hx hb dX15_entry_119 (by decide) ?_
                  refine lv_icmp_ne (tgt := 138) hx hb dX15_entry_120 (by decide) (fun c_480 => ?_) (fun c_480 => ?_)
                  ·
                    refine lv_iload_n hx hb dX15_entry_138 rfl (lv_at hl 5 rfl) ?_
                    refine lv_if_ne (tgt := 156) hx hb dX15_entry_139 (by decide) (fun c_481 => ?_) (fun c_481 => ?_)
                    ·
                      refine W.widen (k := 0) (n := 0) (by omega) (by omega) ?_
                      exact jn_319 () F_315 (⟨fun h => absurd (hs5x h) (fun q => q.elim c_481 c_480), hn3⟩) hO hR _ _ hP hD hS ls (lv_sub hl [0, 1, 2, 3, 4, 5, 6] rfl)
                    ·
                      have h51 : s5 = 1 := hs5.resolve_left (fun q => hs5n q (Or.inl c_481))
                      have hkz := hn2 h51
                      refine lv_iload_n hx hb dX15_entry_142 rfl (lv_at hl 3 rfl) ?_
                      refine lv_iload hx hb dX15_entry_143 (lv_at hl 2 rfl) ?_
                      refine lv_isub hx hb dX15_entry_145 ?_
                      refine lv_topi (fun x_482 ex_482 => ?_)
                      obtain rfl : x_482 = (nI (zt - j)) := ex_482.trans (pk_sub (a := zt) (b := j) (by omega))
                      refine lv_iconst (v := 1) hx hb dX15_entry_146 (by decide) ?_
                      refine lv_isub hx hb dX15_entry_147 ?_
                      refine lv_topi (fun x_483 ex_483 => ?_)
                      obtain rfl : x_483 = (nI ((zt - j) - 1)) := ex_483.trans (pk_sub (a := (zt - j)) (b := 1) (by omega))
                      refine lv_sipush (v := 700) hx hb dX15_entry_148 (by decide) ?_
                      refine lv_icmp_le (tgt := 156) hx hb dX15_entry_151 (by decide) (fun c_484 => ?_) (fun c_484 => ?_)
                      ·
                        have hi_485 : ((zt - j) - 1) ≤ 700 := (nI_leI (a := ((zt - j) - 1)) (b := 700) (by omega) (by omega)).mp c_484
                        refine W.widen (k := 0) (n := 0) (by omega) (by omega) ?_
                        exact jn_319 () F_315 (⟨fun _ => ⟨⟨by omega, fun q => absurd (q.symm.trans c_481) (by decide), fun _ => by omega⟩, by omega⟩, hn3⟩) hO hR _ _ hP hD hS ls (lv_sub hl [0, 1, 2, 3, 4, 5, 6] rfl)
                      ·
                        have hi_486 : 700 < ((zt - j) - 1) := Nat.not_le.mp (fun q => c_484 ((nI_leI (a := ((zt - j) - 1)) (b := 700) (by omega) (by omega)).mpr q))
                        refine lv_iconst (v := (-1)) hx hb dX15_entry_154 (by decide) ?_
                        refine W.widen (k := 0) (n := 0) (by omega) (by omega) ?_
                        exact W.iret (v := (-1)) hx hb hr (fun t ht hWm => ⟨⟨(-1), ze, rfl, (Or.inr (Or.inl ⟨hc40, val_nv (Or.inl c_481) (hfst h51) (fun q => absurd (q.2.2 (fun w => absurd (w.symm.trans c_481) (by decide))) (by omega)), rfl, rfl⟩)), ⟨F_315, ty, hty, QTm.mk ht hP hD hO hR, hW⟩⟩, hS.F ht⟩) hS.2.2 dX15_entry_155
                  ·
                    have h51 : s5 = 1 := hs5.resolve_left (fun q => hs5n q (Or.inr c_480))
                    have hkz := hn2 h51
                    refine lv_aload_n hx hb dX15_entry_123 rfl (lv_at hl 4 rfl) ?_
                    refine pg_get (ci := 15) (v := .ref ta) (C := RX15) (T := TX15) (N := 59) hx hb hts it_15 hown hK hP hL_h0 hn3 rfl 0 (by decide) (hts _ kt_1075) (fun _ h9 => h9) rfl dX15_entry_124 ?_
                    refine lv_iload hx hb dX15_entry_127 (lv_at hl 2 rfl) ?_
                    refine lv_iconst (v := 1) hx hb dX15_entry_129 (by decide) ?_
                    refine lv_iadd hx hb dX15_entry_130 ?_
                    refine lv_topi (fun x_487 ex_487 => ?_)
                    obtain rfl : x_487 = (nI (j + 1)) := ex_487.trans (nI_add j 1)
                    refine lv_iload_n hx hb dX15_entry_131 rfl (lv_at hl 3 rfl) ?_
                    obtain ⟨hq_488, hq_489⟩ := hW.octs hi_80 ht_81
                    have hFc := pg_free hD hS hA
                    refine va_calli (va_runS (As := [.ref ta, .int (nI (j + 1)), .int (nI zt)]) (rest := []) ⟨hx, hb, hml, hown, hts⟩ (s_X14_isName_e l dC dI cs ty gm L H.size F_315 ta (ρ + 1) 3000 (j + 1) zt gt hW hi_80 ht_81 hF_318 (by first | omega | assumption) (by first | omega | assumption)) ⟨callB_of 3 hts (gi kt_689) rfl rfl rfl (hts _ kt_676) (hts _ kt_863) (by decide +kernel) ⟨Nat.le_of_ble_eq_true rfl, Nat.le_of_ble_eq_true rfl⟩, (hts _ kt_691)⟩ ⟨fun a U g mk q => ⟨q.1, PTm.calling q.2⟩, fun U hU hWm => ⟨rfl, PTm.mk hU hWm hP hK hD hE hO⟩⟩ rfl rfl hl.1 rfl (lv_room (Nat.le_of_ble_eq_true rfl)) dX15_entry_132 ⟨by show _ + 0 ≤ 0; omega, by show _ + 0 ≤ 0; omega⟩) hS (fun q _ h => hFc q h) hFc (fun r_490 u t H1 locs ht hvm hw hB hz1 hk1 hS => ?_)
                    obtain ⟨F_491, hB1⟩ := hB
                    obtain rfl : F_315 = F_491 := (funext (fun a => hB1.2.2.2 a List.not_mem_nil)).symm
                    obtain ⟨hP, hD, hO, hR⟩ := QTm.back hB1 ht hFc hR (fun q h => absurd h List.not_mem_nil)
                    generalize H1 = H at hP hS ⊢
                    have hw : r_490 = (if NM gt (j + 1) zt = true then 1 else 0) := hw
                    have hw_492 := hw
                    refine lv_if_eq (tgt := 154) hx hb dX15_entry_135 (by decide) (fun c_493 => ?_) (fun c_493 => ?_)
                    ·
                      refine lv_iconst (v := (-1)) hx hb dX15_entry_154 (by decide) ?_
                      refine W.widen (k := 0) (n := 0) (by omega) (by omega) ?_
                      exact W.iret (v := (-1)) hx hb hr (fun t ht hWm => ⟨⟨(-1), ze, rfl, (Or.inr (Or.inl ⟨hc40, val_nv (Or.inr c_480) (hfst h51) (fun q => ifb0 hw_492 c_493 (q.2.1 c_480)), rfl, rfl⟩)), ⟨F_315, ty, hty, QTm.mk ht hP hD hO hR, hW⟩⟩, hS.F ht⟩) hS.2.2 dX15_entry_155
                    ·
                      refine lv_iload_n hx hb dX15_entry_138 rfl (lv_at hl 5 rfl) ?_
                      refine lv_if_ne (tgt := 156) hx hb dX15_entry_139 (by decide) (fun c_494 => ?_) (fun c_494 => ?_)
                      ·
                        refine W.widen (k := 0) (n := 0) (by omega) (by omega) ?_
                        exact jn_319 () F_315 (⟨fun _ => ⟨⟨by omega, fun _ => ifb1 hw_492 c_493, fun q => absurd c_480 q⟩, by have h9 := nm_60 (ifb1 hw_492 c_493); omega⟩, hn3⟩) hO hR _ _ hP hD hS ls (lv_sub hl [0, 1, 2, 3, 4, 5, 6] rfl)
                      ·
                        have h51 : s5 = 1 := hs5.resolve_left (fun q => hs5n q (Or.inl c_494))
                        have hkz := hn2 h51
                        refine lv_iload_n hx hb dX15_entry_142 rfl (lv_at hl 3 rfl) ?_
                        refine lv_iload hx hb dX15_entry_143 (lv_at hl 2 rfl) ?_
                        refine lv_isub hx hb dX15_entry_145 ?_
                        refine lv_topi (fun x_495 ex_495 => ?_)
                        obtain rfl : x_495 = (nI (zt - j)) := ex_495.trans (pk_sub (a := zt) (b := j) (by omega))
                        refine lv_iconst (v := 1) hx hb dX15_entry_146 (by decide) ?_
                        refine lv_isub hx hb dX15_entry_147 ?_
                        refine lv_topi (fun x_496 ex_496 => ?_)
                        obtain rfl : x_496 = (nI ((zt - j) - 1)) := ex_496.trans (pk_sub (a := (zt - j)) (b := 1) (by omega))
                        refine lv_sipush (v := 700) hx hb dX15_entry_148 (by decide) ?_
                        refine lv_icmp_le (tgt := 156) hx hb dX15_entry_151 (by decide) (fun c_497 => ?_) (fun c_497 => ?_)
                        ·
                          have hi_498 : ((zt - j) - 1) ≤ 700 := (nI_leI (a := ((zt - j) - 1)) (b := 700) (by omega) (by omega)).mp c_497
                          refine W.widen (k := 0) (n := 0) (by omega) (by omega) ?_
                          exact jn_319 () F_315 (⟨fun _ => ⟨⟨by omega, fun q => absurd (q.symm.trans c_494) (by decide), fun _ => by omega⟩, by omega⟩, hn3⟩) hO hR _ _ hP hD hS ls (lv_sub hl [0, 1, 2, 3, 4, 5, 6] rfl)
                        ·
                          have hi_499 : 700 < ((zt - j) - 1) := Nat.not_le.mp (fun q => c_497 ((nI_leI (a := ((zt - j) - 1)) (b := 700) (by omega) (by omega)).mpr q))
                          refine lv_iconst (v := (-1)) hx hb dX15_entry_154 (by decide) ?_
                          refine W.widen (k := 0) (n := 0) (by omega) (by omega) ?_
                          exact W.iret (v := (-1)) hx hb hr (fun t ht hWm => ⟨⟨(-1), ze, rfl, (Or.inr (Or.inl ⟨hc40, val_nv (Or.inl c_494) (hfst h51) (fun q => absurd (q.2.2 (fun w => absurd (w.symm.trans c_494) (by decide))) (by omega)), rfl, rfl⟩)), ⟨F_315, ty, hty, QTm.mk ht hP hD hO hR, hW⟩⟩, hS.F ht⟩) hS.2.2 dX15_entry_155
              ·
                refine lv_iload hx hb dX15_entry_92 (lv_at hl 1 rfl) ?_
                refine lv_if_eq (tgt := 103) hx hb dX15_entry_94 (by decide) (fun c_500 => ?_) (fun c_500 => ?_)
                ·
                  refine lv_aload_n hx hb dX15_entry_103 rfl (lv_at hl 4 rfl) ?_
                  refine pg_get (ci := 15) (v := .ref ta) (C := RX15) (T := TX15) (N := 59) hx hb hts it_15 hown hK hP hL_h0 hb2 rfl 0 (by decide) (hts _ kt_1075) (fun _ h9 => h9) rfl dX15_entry_104 ?_
                  refine lv_iconst (v := 0) hx hb dX15_entry_107 (by decide) ?_
                  refine lv_iload hx hb dX15_entry_108 (lv_at hl 0 rfl) ?_
                  refine W.eq (g2 := F0 m 110 ls [.int (nI kend), .int (nI 0), .ref ta]) rfl ?_
                  obtain ⟨hq_501, hq_502⟩ := hW.octs hi_80 ht_81
                  have hFc := pg_free hD hS hA
                  refine va_calli (va_runS (As := [.ref ta, .int (nI 0), .int (nI kend)]) (rest := []) ⟨hx, hb, hml, hown, hts⟩ (s_X14_isName_e l dC dI cs ty gm L H.size F_310 ta (ρ + 1) 3000 0 kend gt hW hi_80 ht_81 hF_313 (by first | omega | assumption) (by first | omega | assumption)) ⟨callB_of 3 hts (gi kt_689) rfl rfl rfl (hts _ kt_676) (hts _ kt_863) (by decide +kernel) ⟨Nat.le_of_ble_eq_true rfl, Nat.le_of_ble_eq_true rfl⟩, (hts _ kt_691)⟩ ⟨fun a U g mk q => ⟨q.1, PTm.calling q.2⟩, fun U hU hWm => ⟨rfl, PTm.mk hU hWm hP hK hD hE hO⟩⟩ rfl rfl hl.1 rfl (lv_room (Nat.le_of_ble_eq_true rfl)) dX15_entry_110 ⟨by show _ + 0 ≤ 0; omega, by show _ + 0 ≤ 0; omega⟩) hS (fun q _ h => hFc q h) hFc (fun r_503 u t H1 locs ht hvm hw hB hz1 hk1 hS => ?_)
                  obtain ⟨F_504, hB1⟩ := hB
                  obtain rfl : F_310 = F_504 := (funext (fun a => hB1.2.2.2 a List.not_mem_nil)).symm
                  obtain ⟨hP, hD, hO, hR⟩ := QTm.back hB1 ht hFc hR (fun q h => absurd h List.not_mem_nil)
                  generalize H1 = H at hP hS ⊢
                  have hw : r_503 = (if NM gt 0 kend = true then 1 else 0) := hw
                  have hw_505 := hw
                  refine lv_if_ne (tgt := 118) hx hb dX15_entry_113 (by decide) (fun c_506 => ?_) (fun c_506 => ?_)
                  ·
                    refine W.widen (k := 0) (n := 0) (by omega) (by omega) ?_
                    exact jn_314 () F_310 (⟨ifb1 hw_505 c_506, nm_60 (ifb1 hw_505 c_506), fun h => absurd (h.symm.trans c_500) (by decide), hb2⟩) hO hR _ _ hP hD hS ls (lv_sub hl [0, 1, 2, 3, 4, 5, 6] rfl)
                  ·
                    refine lv_iconst (v := (-1)) hx hb dX15_entry_116 (by decide) ?_
                    refine W.widen (k := 0) (n := 0) (by omega) (by omega) ?_
                    exact W.iret (v := (-1)) hx hb hr (fun t ht hWm => ⟨⟨(-1), ze, rfl, (Or.inr (Or.inl ⟨hc40, val_nz (hs5n c_500) (by rw [← hk0e c_500]; exact (ifb0 hw_505 c_506)), rfl, rfl⟩)), ⟨F_310, ty, hty, QTm.mk ht hP hD hO hR, hW⟩⟩, hS.F ht⟩) hS.2.2 dX15_entry_117
                ·
                  refine lv_iload hx hb dX15_entry_97 (lv_at hl 2 rfl) ?_
                  refine lv_iload_n hx hb dX15_entry_99 rfl (lv_at hl 3 rfl) ?_
                  refine lv_icmp_eq (tgt := 116) hx hb dX15_entry_100 (by decide) (fun c_507 => ?_) (fun c_507 => ?_)
                  ·
                    have hi_508 : j = zt := (nI_eq (a := j) (b := zt) (by omega) (by omega)).mp c_507
                    refine lv_iconst (v := (-1)) hx hb dX15_entry_116 (by decide) ?_
                    refine W.widen (k := 0) (n := 0) (by omega) (by omega) ?_
                    exact W.iret (v := (-1)) hx hb hr (fun t ht hWm => ⟨⟨(-1), ze, rfl, (Or.inr (Or.inl ⟨hc40, val_nv (hs5x (hs5.resolve_left c_500)) (hfst (hs5.resolve_left c_500)) (fun q => q.1 (by omega)), rfl, rfl⟩)), ⟨F_310, ty, hty, QTm.mk ht hP hD hO hR, hW⟩⟩, hS.F ht⟩) hS.2.2 dX15_entry_117
                  ·
                    have hi_509 : j ≠ zt := fun q => c_507 (by rw [q])
                    refine lv_aload_n hx hb dX15_entry_103 rfl (lv_at hl 4 rfl) ?_
                    refine pg_get (ci := 15) (v := .ref ta) (C := RX15) (T := TX15) (N := 59) hx hb hts it_15 hown hK hP hL_h0 hb2 rfl 0 (by decide) (hts _ kt_1075) (fun _ h9 => h9) rfl dX15_entry_104 ?_
                    refine lv_iconst (v := 0) hx hb dX15_entry_107 (by decide) ?_
                    refine lv_iload hx hb dX15_entry_108 (lv_at hl 0 rfl) ?_
                    refine W.eq (g2 := F0 m 110 ls [.int (nI kend), .int (nI 0), .ref ta]) rfl ?_
                    obtain ⟨hq_510, hq_511⟩ := hW.octs hi_80 ht_81
                    have hFc := pg_free hD hS hA
                    refine va_calli (va_runS (As := [.ref ta, .int (nI 0), .int (nI kend)]) (rest := []) ⟨hx, hb, hml, hown, hts⟩ (s_X14_isName_e l dC dI cs ty gm L H.size F_310 ta (ρ + 1) 3000 0 kend gt hW hi_80 ht_81 hF_313 (by first | omega | assumption) (by first | omega | assumption)) ⟨callB_of 3 hts (gi kt_689) rfl rfl rfl (hts _ kt_676) (hts _ kt_863) (by decide +kernel) ⟨Nat.le_of_ble_eq_true rfl, Nat.le_of_ble_eq_true rfl⟩, (hts _ kt_691)⟩ ⟨fun a U g mk q => ⟨q.1, PTm.calling q.2⟩, fun U hU hWm => ⟨rfl, PTm.mk hU hWm hP hK hD hE hO⟩⟩ rfl rfl hl.1 rfl (lv_room (Nat.le_of_ble_eq_true rfl)) dX15_entry_110 ⟨by show _ + 0 ≤ 0; omega, by show _ + 0 ≤ 0; omega⟩) hS (fun q _ h => hFc q h) hFc (fun r_512 u t H1 locs ht hvm hw hB hz1 hk1 hS => ?_)
                    obtain ⟨F_513, hB1⟩ := hB
                    obtain rfl : F_310 = F_513 := (funext (fun a => hB1.2.2.2 a List.not_mem_nil)).symm
                    obtain ⟨hP, hD, hO, hR⟩ := QTm.back hB1 ht hFc hR (fun q h => absurd h List.not_mem_nil)
                    generalize H1 = H at hP hS ⊢
                    have hw : r_512 = (if NM gt 0 kend = true then 1 else 0) := hw
                    have hw_514 := hw
                    refine lv_if_ne (tgt := 118) hx hb dX15_entry_113 (by decide) (fun c_515 => ?_) (fun c_515 => ?_)
                    ·
                      refine W.widen (k := 0) (n := 0) (by omega) (by omega) ?_
                      exact jn_314 () F_310 (⟨ifb1 hw_514 c_515, nm_60 (ifb1 hw_514 c_515), fun _ => by omega, hb2⟩) hO hR _ _ hP hD hS ls (lv_sub hl [0, 1, 2, 3, 4, 5, 6] rfl)
                    ·
                      refine lv_iconst (v := (-1)) hx hb dX15_entry_116 (by decide) ?_
                      refine W.widen (k := 0) (n := 0) (by omega) (by omega) ?_
                      exact W.iret (v := (-1)) hx hb hr (fun t ht hWm => ⟨⟨(-1), ze, rfl, (Or.inr (Or.inl ⟨hc40, val_nn (hs5x (hs5.resolve_left c_500)) (hfst (hs5.resolve_left c_500)) (by rw [← hk1e (hs5.resolve_left c_500)]; exact (ifb0 hw_514 c_515)), rfl, rfl⟩)), ⟨F_310, ty, hty, QTm.mk ht hP hD hO hR, hW⟩⟩, hS.F ht⟩) hS.2.2 dX15_entry_117
            ·
              refine lv_iload hx hb dX15_entry_79 (lv_at hl 0 rfl) ?_
              refine lv_if_eq (tgt := 89) hx hb dX15_entry_81 (by decide) (fun c_516 => ?_) (fun c_516 => ?_)
              ·
                refine lv_iload_n hx hb dX15_entry_89 rfl (lv_at hl 2 rfl) ?_
                refine W.widen (k := 0) (n := 0) (by omega) (by omega) ?_
                exact jn_309 (nI zt) F_93 (⟨⟨zt, Nat.le_refl _, rfl, fun h => absurd (h.symm.trans c_516) (by decide), fun _ => rfl⟩, ha2⟩) hO hR _ _ hP hD hS ls (lv_sub hl [0, 1, 2, 3, 4, 5] rfl)
              ·
                refine lv_iload hx hb dX15_entry_84 (lv_at hl 1 rfl) ?_
                refine lv_goto (tgt := 90) hx hb dX15_entry_86 (by decide) ?_
                refine W.widen (k := 0) (n := 0) (by omega) (by omega) ?_
                exact jn_309 (nI j) F_93 (⟨⟨j, by omega, rfl, fun _ => rfl, fun h => absurd h c_516⟩, ha2⟩) hO hR _ _ hP hD hS ls (lv_sub hl [0, 1, 2, 3, 4, 5] rfl)
          ·
            have hi_517 : j < zt := ltN (N := zt) c_307
            refine lv_aload_n hx hb dX15_entry_61 rfl (lv_at hl 3 rfl) ?_
            refine pg_get (ci := 15) (v := .ref ta) (C := RX15) (T := TX15) (N := 59) hx hb hts it_15 hown hK hP hL_h0 ha2 rfl 0 (by decide) (hts _ kt_1075) (fun _ h9 => h9) rfl dX15_entry_62 ?_
            refine lv_iload hx hb dX15_entry_65 (lv_at hl 1 rfl) ?_
            obtain ⟨hq_518, hq_519⟩ := hW.octs hi_80 ht_81
            refine pg_bald hx hb hK hP hi_80 1 hF_97 rfl (vp_in_nI (by omega) (by omega)) dX15_entry_67 ?_
            refine lv_topi (fun x_520 ex_520 => ?_)
            obtain rfl : x_520 = gt j := ex_520.trans (congrArg gt (show ((nI j) : Int32).toNatClampNeg = j from nI_clamp (by omega)))
            refine lv_bipush (v := 32) hx hb dX15_entry_68 (by decide) ?_
            refine lv_icmp_eq (tgt := 79) hx hb dX15_entry_70 (by decide) (fun c_521 => ?_) (fun c_521 => ?_)
            ·
              have hfst : s5 = 1 → FST gt 32 zt j := fun _ => ⟨by omega, ha3, Or.inr c_521⟩
              have hF_524 : F ta = .inl (cs 17, 3000, .inl gt) := (hR ta (by rw [ht_81]; simp)).symm.trans hF_97
              refine W.widen (k := 0) (n := 0) (by omega) (by omega) ?_
              refine pl_cutm (σ := Int32) A (dC, dI) cs ty gm L [ρ, ρ + 3, ρ + 4, ρ + 31] F 90 7 (fun s6 => [(5, .int s5), (4, .int (nI j)), (3, .int (nI zt)), (0, .ref h0), (1, .int x1), (2, .int x2)]) (fun s6 => [.int s6]) (fun s6 FF => (∃ k : Nat, k ≤ zt ∧ s6 = nI k ∧ (s5 = 1 → k = j) ∧ (s5 = 0 → k = zt)) ∧ FF h0 = .inr (15, (.ref ta) :: (.int 0) :: (.int (nI zo_28)) :: (.int (nI ze)) :: (.ref ou) :: (.ref so) :: (.ref ad) :: (.ref na) :: (.ref va) :: (.ref lc) :: (.ref dm) :: (.int v11_29) :: (.int v12_30) :: (.ref tg) :: (.int v14_31) :: (.int v15_32) :: (.ref pe) :: (.int v17_33) :: (.int v18_34) :: (.int v19_35) :: (.int v20_36) :: (.int v21_37) :: (.int v22_38) :: (.ref ml) :: (.ref bg) :: (.ref co) :: (.ref sp) :: (.ref nb0) :: (.ref nb1) :: (.ref nb2) :: (.int (nI nf)) :: (.int (nI bd)) :: (.int (nI mm)) :: (.int v33_39) :: (.ref pl) :: (.ref se) :: (.ref ke) :: (.ref wi) :: (.ref hs) :: (.ref mo) :: (.ref po) :: (.ref nu) :: (.ref pr) :: (.ref sq) :: (.ref xa) :: (.ref sa) :: (.ref n64) :: (.ref m64) :: (.ref ex) :: (.ref wh) :: (.ref sd) :: (.ref tk) :: (.int v52_40) :: (.int v53_41) :: (.int v54_42) :: (.ref hd) :: (.ref ak) :: (.ref ho) :: (.ref ot) :: [])) ?_ (fun jn_522 => ?_)
              ·
                rintro s6 F_523 hv_525 hO hR H locs hP hD hS ls hl
                have hl : lv_has ls 7 [(5, .int s5), (4, .int (nI j)), (3, .int (nI zt)), (0, .ref h0), (1, .int x1), (2, .int x2)] := hl
                have hv_525 : (∃ k : Nat, k ≤ zt ∧ s6 = nI k ∧ (s5 = 1 → k = j) ∧ (s5 = 0 → k = zt)) ∧ F_523 h0 = .inr (15, (.ref ta) :: (.int 0) :: (.int (nI zo_28)) :: (.int (nI ze)) :: (.ref ou) :: (.ref so) :: (.ref ad) :: (.ref na) :: (.ref va) :: (.ref lc) :: (.ref dm) :: (.int v11_29) :: (.int v12_30) :: (.ref tg) :: (.int v14_31) :: (.int v15_32) :: (.ref pe) :: (.int v17_33) :: (.int v18_34) :: (.int v19_35) :: (.int v20_36) :: (.int v21_37) :: (.int v22_38) :: (.ref ml) :: (.ref bg) :: (.ref co) :: (.ref sp) :: (.ref nb0) :: (.ref nb1) :: (.ref nb2) :: (.int (nI nf)) :: (.int (nI bd)) :: (.int (nI mm)) :: (.int v33_39) :: (.ref pl) :: (.ref se) :: (.ref ke) :: (.ref wi) :: (.ref hs) :: (.ref mo) :: (.ref po) :: (.ref nu) :: (.ref pr) :: (.ref sq) :: (.ref xa) :: (.ref sa) :: (.ref n64) :: (.ref m64) :: (.ref ex) :: (.ref wh) :: (.ref sd) :: (.ref tk) :: (.int v52_40) :: (.int v53_41) :: (.int v54_42) :: (.ref hd) :: (.ref ak) :: (.ref ho) :: (.ref ot) :: []) := hv_525
                refine W.eq (g2 := F0 m 90 ls [.int s6]) rfl ?_
                have hF_526 : F_523 ta = .inl (cs 17, 3000, .inl gt) := (hR ta (by rw [ht_81]; simp)).trans hF_524
                obtain ⟨⟨kend, hke, eke, hk1e, hk0e⟩, hb2⟩ := hv_525
                subst eke
                refine W.eq (g2 := F0 m 90 ls [.int (nI kend)]) rfl ?_
                refine lv_istore (lv' := [(6, .int (nI kend)), (5, .int s5), (4, .int (nI j)), (3, .int (nI zt)), (0, .ref h0), (1, .int x1), (2, .int x2)]) hx hb dX15_entry_90 hl (by decide) rfl (fun ls hl => ?_)
                have hF_529 : F ta = .inl (cs 17, 3000, .inl gt) := (hR ta (by rw [ht_81]; simp)).symm.trans hF_526
                refine W.widen (k := 0) (n := 0) (by omega) (by omega) ?_
                refine pl_cutm (σ := Unit) A (dC, dI) cs ty gm L [ρ, ρ + 3, ρ + 4, ρ + 31] F 118 7 (fun u0 => [(6, .int (nI kend)), (5, .int s5), (4, .int (nI j)), (3, .int (nI zt)), (0, .ref h0), (1, .int x1), (2, .int x2)]) (fun u0 => []) (fun u0 FF => NM gt 0 kend = true ∧ kend ≤ 60 ∧ (s5 = 1 → j < zt) ∧ FF h0 = .inr (15, (.ref ta) :: (.int 0) :: (.int (nI zo_28)) :: (.int (nI ze)) :: (.ref ou) :: (.ref so) :: (.ref ad) :: (.ref na) :: (.ref va) :: (.ref lc) :: (.ref dm) :: (.int v11_29) :: (.int v12_30) :: (.ref tg) :: (.int v14_31) :: (.int v15_32) :: (.ref pe) :: (.int v17_33) :: (.int v18_34) :: (.int v19_35) :: (.int v20_36) :: (.int v21_37) :: (.int v22_38) :: (.ref ml) :: (.ref bg) :: (.ref co) :: (.ref sp) :: (.ref nb0) :: (.ref nb1) :: (.ref nb2) :: (.int (nI nf)) :: (.int (nI bd)) :: (.int (nI mm)) :: (.int v33_39) :: (.ref pl) :: (.ref se) :: (.ref ke) :: (.ref wi) :: (.ref hs) :: (.ref mo) :: (.ref po) :: (.ref nu) :: (.ref pr) :: (.ref sq) :: (.ref xa) :: (.ref sa) :: (.ref n64) :: (.ref m64) :: (.ref ex) :: (.ref wh) :: (.ref sd) :: (.ref tk) :: (.int v52_40) :: (.int v53_41) :: (.int v54_42) :: (.ref hd) :: (.ref ak) :: (.ref ho) :: (.ref ot) :: [])) ?_ (fun jn_527 => ?_)
                ·
                  rintro u0 F_528 hv_530 hO hR H locs hP hD hS ls hl
                  have hl : lv_has ls 7 [(6, .int (nI kend)), (5, .int s5), (4, .int (nI j)), (3, .int (nI zt)), (0, .ref h0), (1, .int x1), (2, .int x2)] := hl
                  have hv_530 : NM gt 0 kend = true ∧ kend ≤ 60 ∧ (s5 = 1 → j < zt) ∧ F_528 h0 = .inr (15, (.ref ta) :: (.int 0) :: (.int (nI zo_28)) :: (.int (nI ze)) :: (.ref ou) :: (.ref so) :: (.ref ad) :: (.ref na) :: (.ref va) :: (.ref lc) :: (.ref dm) :: (.int v11_29) :: (.int v12_30) :: (.ref tg) :: (.int v14_31) :: (.int v15_32) :: (.ref pe) :: (.int v17_33) :: (.int v18_34) :: (.int v19_35) :: (.int v20_36) :: (.int v21_37) :: (.int v22_38) :: (.ref ml) :: (.ref bg) :: (.ref co) :: (.ref sp) :: (.ref nb0) :: (.ref nb1) :: (.ref nb2) :: (.int (nI nf)) :: (.int (nI bd)) :: (.int (nI mm)) :: (.int v33_39) :: (.ref pl) :: (.ref se) :: (.ref ke) :: (.ref wi) :: (.ref hs) :: (.ref mo) :: (.ref po) :: (.ref nu) :: (.ref pr) :: (.ref sq) :: (.ref xa) :: (.ref sa) :: (.ref n64) :: (.ref m64) :: (.ref ex) :: (.ref wh) :: (.ref sd) :: (.ref tk) :: (.int v52_40) :: (.int v53_41) :: (.int v54_42) :: (.ref hd) :: (.ref ak) :: (.ref ho) :: (.ref ot) :: []) := hv_530
                  refine W.eq (g2 := F0 m 118 ls []) rfl ?_
                  have hF_531 : F_528 ta = .inl (cs 17, 3000, .inl gt) := (hR ta (by rw [ht_81]; simp)).trans hF_529
                  obtain ⟨hn1, hn6, hn2, hn3⟩ := hv_530
                  have hF_534 : F ta = .inl (cs 17, 3000, .inl gt) := (hR ta (by rw [ht_81]; simp)).symm.trans hF_531
                  refine W.widen (k := 0) (n := 0) (by omega) (by omega) ?_
                  refine pl_cutm (σ := Unit) A (dC, dI) cs ty gm L [ρ, ρ + 3, ρ + 4, ρ + 31] F 156 7 (fun u0 => [(6, .int (nI kend)), (5, .int s5), (4, .int (nI j)), (3, .int (nI zt)), (0, .ref h0), (1, .int x1), (2, .int x2)]) (fun u0 => []) (fun u0 FF => (s5 = 1 → ISV x1 gt zt j ∧ zt - j - 1 ≤ 700) ∧ FF h0 = .inr (15, (.ref ta) :: (.int 0) :: (.int (nI zo_28)) :: (.int (nI ze)) :: (.ref ou) :: (.ref so) :: (.ref ad) :: (.ref na) :: (.ref va) :: (.ref lc) :: (.ref dm) :: (.int v11_29) :: (.int v12_30) :: (.ref tg) :: (.int v14_31) :: (.int v15_32) :: (.ref pe) :: (.int v17_33) :: (.int v18_34) :: (.int v19_35) :: (.int v20_36) :: (.int v21_37) :: (.int v22_38) :: (.ref ml) :: (.ref bg) :: (.ref co) :: (.ref sp) :: (.ref nb0) :: (.ref nb1) :: (.ref nb2) :: (.int (nI nf)) :: (.int (nI bd)) :: (.int (nI mm)) :: (.int v33_39) :: (.ref pl) :: (.ref se) :: (.ref ke) :: (.ref wi) :: (.ref hs) :: (.ref mo) :: (.ref po) :: (.ref nu) :: (.ref pr) :: (.ref sq) :: (.ref xa) :: (.ref sa) :: (.ref n64) :: (.ref m64) :: (.ref ex) :: (.ref wh) :: (.ref sd) :: (.ref tk) :: (.int v52_40) :: (.int v53_41) :: (.int v54_42) :: (.ref hd) :: (.ref ak) :: (.ref ho) :: (.ref ot) :: [])) ?_ (fun jn_532 => ?_)
                  ·
                    rintro u0 F_533 hv_535 hO hR H locs hP hD hS ls hl
                    have hl : lv_has ls 7 [(6, .int (nI kend)), (5, .int s5), (4, .int (nI j)), (3, .int (nI zt)), (0, .ref h0), (1, .int x1), (2, .int x2)] := hl
                    have hv_535 : (s5 = 1 → ISV x1 gt zt j ∧ zt - j - 1 ≤ 700) ∧ F_533 h0 = .inr (15, (.ref ta) :: (.int 0) :: (.int (nI zo_28)) :: (.int (nI ze)) :: (.ref ou) :: (.ref so) :: (.ref ad) :: (.ref na) :: (.ref va) :: (.ref lc) :: (.ref dm) :: (.int v11_29) :: (.int v12_30) :: (.ref tg) :: (.int v14_31) :: (.int v15_32) :: (.ref pe) :: (.int v17_33) :: (.int v18_34) :: (.int v19_35) :: (.int v20_36) :: (.int v21_37) :: (.int v22_38) :: (.ref ml) :: (.ref bg) :: (.ref co) :: (.ref sp) :: (.ref nb0) :: (.ref nb1) :: (.ref nb2) :: (.int (nI nf)) :: (.int (nI bd)) :: (.int (nI mm)) :: (.int v33_39) :: (.ref pl) :: (.ref se) :: (.ref ke) :: (.ref wi) :: (.ref hs) :: (.ref mo) :: (.ref po) :: (.ref nu) :: (.ref pr) :: (.ref sq) :: (.ref xa) :: (.ref sa) :: (.ref n64) :: (.ref m64) :: (.ref ex) :: (.ref wh) :: (.ref sd) :: (.ref tk) :: (.int v52_40) :: (.int v53_41) :: (.int v54_42) :: (.ref hd) :: (.ref ak) :: (.ref ho) :: (.ref ot) :: []) := hv_535
                    refine W.eq (g2 := F0 m 156 ls []) rfl ?_
                    have hF_536 : F_533 ta = .inl (cs 17, 3000, .inl gt) := (hR ta (by rw [ht_81]; simp)).trans hF_534
                    obtain ⟨ho1, ho2⟩ := hv_535
                    refine lv_aload_n hx hb dX15_entry_156 rfl (lv_at hl 4 rfl) ?_
                    refine pg_get (ci := 15) (v := .ref so) (C := RX15) (T := TX15) (N := 59) hx hb hts it_15 hown hK hP hL_h0 ho2 rfl 5 (by decide) (hts _ kt_718) (fun _ h9 => h9) rfl dX15_entry_157 ?_
                    refine lv_aload_n hx hb dX15_entry_160 rfl (lv_at hl 4 rfl) ?_
                    refine pg_get (ci := 15) (v := .int (nI ze)) (C := RX15) (T := TX15) (N := 59) hx hb hts it_15 hown hK hP hL_h0 ho2 rfl 3 (by decide) (hts _ kt_724) (fun _ h9 => h9) rfl dX15_entry_161 ?_
                    refine lv_iload_n hx hb dX15_entry_164 rfl (lv_at hl 5 rfl) ?_
                    obtain ⟨hi_537, ht_538⟩ := hW.f_so hL_h0 hT_h0
                    obtain ⟨hq_539, hq_540⟩ := hW.ints hi_537 ht_538
                    obtain ⟨f_541, hF_542⟩ := hO.ints hi_537 ht_538
                    refine pg_iast hx hb hK hP hD hS hi_537 0 hF_542 rfl (vp_in_nI (by omega) (by omega)) dX15_entry_165 (fun H locs hP hD hS => ?_)
                    obtain ⟨F_543, he_544, hP, hD, hO, hR⟩ : ∃ G, G = va_up F_533 so (.inl (cs 16, 40, .inl (upd f_541 ((nI ze)).toNatClampNeg (x1)))) ∧ va_P (dC, dI) vwCl (va_pl L G) H ∧ va_D A (va_pl L G) ∧ OKm cs ty gm L G ∧ FR ty [ρ, ρ + 3, ρ + 4, ρ + 31] F G := ⟨_, rfl, hP, hD, hO.up (shm.ints ht_538 ⟨_, rfl⟩), hR.up ht_538 (by simp)⟩
                    have hF_545 : F_543 so = .inl (cs 16, 40, .inl (upd f_541 ((nI ze)).toNatClampNeg (x1))) := by rw [he_544]; exact up_self
                    have hF_546 : F_543 ta = .inl (cs 17, 3000, .inl gt) := by rw [he_544, up_ne (ne_ty ht_81 ht_538 (by simp))]; exact hF_536
                    have hF_547 : F_543 h0 = .inr (15, (.ref ta) :: (.int 0) :: (.int (nI zo_28)) :: (.int (nI ze)) :: (.ref ou) :: (.ref so) :: (.ref ad) :: (.ref na) :: (.ref va) :: (.ref lc) :: (.ref dm) :: (.int v11_29) :: (.int v12_30) :: (.ref tg) :: (.int v14_31) :: (.int v15_32) :: (.ref pe) :: (.int v17_33) :: (.int v18_34) :: (.int v19_35) :: (.int v20_36) :: (.int v21_37) :: (.int v22_38) :: (.ref ml) :: (.ref bg) :: (.ref co) :: (.ref sp) :: (.ref nb0) :: (.ref nb1) :: (.ref nb2) :: (.int (nI nf)) :: (.int (nI bd)) :: (.int (nI mm)) :: (.int v33_39) :: (.ref pl) :: (.ref se) :: (.ref ke) :: (.ref wi) :: (.ref hs) :: (.ref mo) :: (.ref po) :: (.ref nu) :: (.ref pr) :: (.ref sq) :: (.ref xa) :: (.ref sa) :: (.ref n64) :: (.ref m64) :: (.ref ex) :: (.ref wh) :: (.ref sd) :: (.ref tk) :: (.int v52_40) :: (.int v53_41) :: (.int v54_42) :: (.ref hd) :: (.ref ak) :: (.ref ho) :: (.ref ot) :: []) := by rw [he_544, up_ne (ne_ty hT_h0 ht_538 (by simp))]; exact ho2
                    obtain ⟨f_548, hF_545⟩ : ∃ f : Nat → Int32, F_543 so = .inl (cs 16, 40, .inl f) := ⟨_, hF_545⟩
                    refine lv_aload_n hx hb dX15_entry_166 rfl (lv_at hl 4 rfl) ?_
                    refine pg_get (ci := 15) (v := .ref ad) (C := RX15) (T := TX15) (N := 59) hx hb hts it_15 hown hK hP hL_h0 hF_547 rfl 6 (by decide) (hts _ kt_740) (fun _ h9 => h9) rfl dX15_entry_167 ?_
                    refine lv_aload_n hx hb dX15_entry_170 rfl (lv_at hl 4 rfl) ?_
                    refine pg_get (ci := 15) (v := .int (nI ze)) (C := RX15) (T := TX15) (N := 59) hx hb hts it_15 hown hK hP hL_h0 hF_547 rfl 3 (by decide) (hts _ kt_724) (fun _ h9 => h9) rfl dX15_entry_171 ?_
                    refine lv_iload_n hx hb dX15_entry_174 rfl (lv_at hl 6 rfl) ?_
                    obtain ⟨hi_549, ht_550⟩ := hW.f_ad hL_h0 hT_h0
                    obtain ⟨hq_551, hq_552⟩ := hW.ints hi_549 ht_550
                    obtain ⟨f_553, hF_554⟩ := hO.ints hi_549 ht_550
                    refine pg_iast hx hb hK hP hD hS hi_549 0 hF_554 rfl (vp_in_nI (by omega) (by omega)) dX15_entry_175 (fun H locs hP hD hS => ?_)
                    obtain ⟨F_555, he_556, hP, hD, hO, hR⟩ : ∃ G, G = va_up F_543 ad (.inl (cs 16, 40, .inl (upd f_553 ((nI ze)).toNatClampNeg (x2)))) ∧ va_P (dC, dI) vwCl (va_pl L G) H ∧ va_D A (va_pl L G) ∧ OKm cs ty gm L G ∧ FR ty [ρ, ρ + 3, ρ + 4, ρ + 31] F G := ⟨_, rfl, hP, hD, hO.up (shm.ints ht_550 ⟨_, rfl⟩), hR.up ht_550 (by simp)⟩
                    have hF_557 : F_555 ad = .inl (cs 16, 40, .inl (upd f_553 ((nI ze)).toNatClampNeg (x2))) := by rw [he_556]; exact up_self
                    have hF_558 : F_555 ta = .inl (cs 17, 3000, .inl gt) := by rw [he_556, up_ne (ne_ty ht_81 ht_550 (by simp))]; exact hF_546
                    have hF_559 : F_555 h0 = .inr (15, (.ref ta) :: (.int 0) :: (.int (nI zo_28)) :: (.int (nI ze)) :: (.ref ou) :: (.ref so) :: (.ref ad) :: (.ref na) :: (.ref va) :: (.ref lc) :: (.ref dm) :: (.int v11_29) :: (.int v12_30) :: (.ref tg) :: (.int v14_31) :: (.int v15_32) :: (.ref pe) :: (.int v17_33) :: (.int v18_34) :: (.int v19_35) :: (.int v20_36) :: (.int v21_37) :: (.int v22_38) :: (.ref ml) :: (.ref bg) :: (.ref co) :: (.ref sp) :: (.ref nb0) :: (.ref nb1) :: (.ref nb2) :: (.int (nI nf)) :: (.int (nI bd)) :: (.int (nI mm)) :: (.int v33_39) :: (.ref pl) :: (.ref se) :: (.ref ke) :: (.ref wi) :: (.ref hs) :: (.ref mo) :: (.ref po) :: (.ref nu) :: (.ref pr) :: (.ref sq) :: (.ref xa) :: (.ref sa) :: (.ref n64) :: (.ref m64) :: (.ref ex) :: (.ref wh) :: (.ref sd) :: (.ref tk) :: (.int v52_40) :: (.int v53_41) :: (.int v54_42) :: (.ref hd) :: (.ref ak) :: (.ref ho) :: (.ref ot) :: []) := by rw [he_556, up_ne (ne_ty hT_h0 ht_550 (by simp))]; exact hF_547
                    obtain ⟨f_560, hF_557⟩ : ∃ f : Nat → Int32, F_555 ad = .inl (cs 16, 40, .inl f) := ⟨_, hF_557⟩
                    refine lv_aload_n hx hb dX15_entry_176 rfl (lv_at hl 4 rfl) ?_
                    refine pg_get (ci := 15) (v := .ref na) (C := RX15) (T := TX15) (N := 59) hx hb hts it_15 hown hK hP hL_h0 hF_559 rfl 7 (by decide) (hts _ kt_719) (fun _ h9 => h9) rfl dX15_entry_177 ?_
                    refine lv_aload_n hx hb dX15_entry_180 rfl (lv_at hl 4 rfl) ?_
                    refine pg_get (ci := 15) (v := .int (nI ze)) (C := RX15) (T := TX15) (N := 59) hx hb hts it_15 hown hK hP hL_h0 hF_559 rfl 3 (by decide) (hts _ kt_724) (fun _ h9 => h9) rfl dX15_entry_181 ?_
                    obtain ⟨hi_561, ht_562⟩ := hW.f_na hL_h0 hT_h0
                    obtain ⟨f_563, hF_564, hq_565⟩ := hO.rtxt hi_561 ht_562
                    obtain ⟨b_566, r_567, hbf_568, hi_569, ht_570⟩ := hq_565 ze (by omega)
                    refine pg_aald (r := b_566) hx hb hK hP hi_561 7 hF_564 rfl (vp_in_nI (by omega) (by omega)) (show f_563 ((nI ze) : Int32).toNatClampNeg = _ from by rw [show ((nI ze) : Int32) = nI ze from rfl, nI_clamp (by omega)]; exact hbf_568) dX15_entry_184 ?_
                    refine lv_aload_n hx hb dX15_entry_185 rfl (lv_at hl 4 rfl) ?_
                    refine pg_get (ci := 15) (v := .ref ta) (C := RX15) (T := TX15) (N := 59) hx hb hts it_15 hown hK hP hL_h0 hF_559 rfl 0 (by decide) (hts _ kt_1075) (fun _ h9 => h9) rfl dX15_entry_186 ?_
                    refine lv_iconst (v := 0) hx hb dX15_entry_189 (by decide) ?_
                    refine lv_iload hx hb dX15_entry_190 (lv_at hl 0 rfl) ?_
                    refine W.eq (g2 := F0 m 192 ls [.int (nI kend), .int (nI 0), .ref ta, .ref b_566]) rfl ?_
                    obtain ⟨hi_571, ht_572, hq_573⟩ := hW.txt hi_569 ht_570
                    have hFc := pg_free hD hS hA
                    obtain ⟨z_574, hF_575, hq_576⟩ := hO.txt hi_569 ht_570
                    refine va_callv (va_runV (As := [.ref ta, .int (nI 0), .int (nI kend)]) (rest := []) ⟨hx, hb, hml, hown, hts⟩ (s_X14_set l dC dI cs ty gm L H.size F_555 b_566 (ρ + 4) r_567 60 ta (ρ + 1) 3000 0 kend hW hi_569 ht_570 hi_80 ht_81 (by first | omega | assumption) (by first | omega | assumption) (by first | omega | assumption)) ⟨callB_of 3 hts (gi kt_979) rfl rfl rfl (hts _ kt_676) (hts _ kt_980) (by decide +kernel) ⟨Nat.le_of_ble_eq_true rfl, Nat.le_of_ble_eq_true rfl⟩, (hts _ kt_981), (hts _ kt_982)⟩ ⟨fun a U g mk q => ⟨q.1, PTm.calling q.2⟩, pg_recv hK hP hi_569 hF_575 (q := (RX14, TX14, 2)) rfl, fun U hU hWm => ⟨rfl, PTm.mk hU hWm hP hK hD hE hO⟩⟩ rfl rfl hl.1 rfl (lv_room (Nat.le_of_ble_eq_true rfl)) dX15_entry_192 ⟨by show _ + 0 ≤ 0; omega, by show _ + 0 ≤ 0; omega⟩) hS (fun q _ h => hFc q h) hFc (fun u t H1 locs ht hvm hw hB hz1 hk1 hS => ?_)
                    obtain ⟨F_578, hB1, hq_579⟩ := hB
                    obtain ⟨hP, hD, hO, hR⟩ := QTm.back hB1 ht hFc hR (fun q h => by simp only [List.mem_cons, List.not_mem_nil, or_false] at h ⊢; omega)
                    have hF_580 : F_578 ad = .inl (cs 16, 40, .inl f_560) := (hB1.2.2.2 ad (by rw [ht_550]; simp)).trans hF_557
                    have hF_581 : F_578 ta = .inl (cs 17, 3000, .inl gt) := (hB1.2.2.2 ta (by rw [ht_81]; simp)).trans hF_558
                    have hF_582 : F_578 h0 = .inr (15, (.ref ta) :: (.int 0) :: (.int (nI zo_28)) :: (.int (nI ze)) :: (.ref ou) :: (.ref so) :: (.ref ad) :: (.ref na) :: (.ref va) :: (.ref lc) :: (.ref dm) :: (.int v11_29) :: (.int v12_30) :: (.ref tg) :: (.int v14_31) :: (.int v15_32) :: (.ref pe) :: (.int v17_33) :: (.int v18_34) :: (.int v19_35) :: (.int v20_36) :: (.int v21_37) :: (.int v22_38) :: (.ref ml) :: (.ref bg) :: (.ref co) :: (.ref sp) :: (.ref nb0) :: (.ref nb1) :: (.ref nb2) :: (.int (nI nf)) :: (.int (nI bd)) :: (.int (nI mm)) :: (.int v33_39) :: (.ref pl) :: (.ref se) :: (.ref ke) :: (.ref wi) :: (.ref hs) :: (.ref mo) :: (.ref po) :: (.ref nu) :: (.ref pr) :: (.ref sq) :: (.ref xa) :: (.ref sa) :: (.ref n64) :: (.ref m64) :: (.ref ex) :: (.ref wh) :: (.ref sd) :: (.ref tk) :: (.int v52_40) :: (.int v53_41) :: (.int v54_42) :: (.ref hd) :: (.ref ak) :: (.ref ho) :: (.ref ot) :: []) := (hB1.2.2.2 h0 (by rw [hT_h0]; simp)).trans hF_559
                    generalize H1 = H at hP hS ⊢
                    refine lv_aload_n hx hb dX15_entry_195 rfl (lv_at hl 4 rfl) ?_
                    refine pg_get (ci := 15) (v := .ref va) (C := RX15) (T := TX15) (N := 59) hx hb hts it_15 hown hK hP hL_h0 hF_582 rfl 8 (by decide) (hts _ kt_732) (fun _ h9 => h9) rfl dX15_entry_196 ?_
                    refine lv_aload_n hx hb dX15_entry_199 rfl (lv_at hl 4 rfl) ?_
                    refine pg_get (ci := 15) (v := .int (nI ze)) (C := RX15) (T := TX15) (N := 59) hx hb hts it_15 hown hK hP hL_h0 hF_582 rfl 3 (by decide) (hts _ kt_724) (fun _ h9 => h9) rfl dX15_entry_200 ?_
                    obtain ⟨hi_583, ht_584⟩ := hW.f_va hL_h0 hT_h0
                    obtain ⟨f_585, hF_586, hq_587⟩ := hO.rtxt hi_583 ht_584
                    obtain ⟨b_588, r_589, hbf_590, hi_591, ht_592⟩ := hq_587 ze (by omega)
                    refine pg_aald (r := b_588) hx hb hK hP hi_583 7 hF_586 rfl (vp_in_nI (by omega) (by omega)) (show f_585 ((nI ze) : Int32).toNatClampNeg = _ from by rw [show ((nI ze) : Int32) = nI ze from rfl, nI_clamp (by omega)]; exact hbf_590) dX15_entry_203 ?_
                    refine lv_iconst (v := 0) hx hb dX15_entry_204 (by decide) ?_
                    obtain ⟨hi_593, ht_594, hq_595⟩ := hW.txt hi_591 ht_592
                    obtain ⟨z_596, hF_597, hq_598⟩ := hO.txt hi_591 ht_592
                    refine pg_put (ci := 14) (v := .int 0) (ty := .int) (C := RX14) (T := TX14) (N := 2) hx hb hts it_14 tyX14 tyX14_ok nmX14 hown hK hP hD hS hi_591 hF_597 rfl 1 (by decide) (hts _ kt_709) (fun _ h9 => h9) rfl (by decide +kernel) (rfl) (rfl) (Nat.le_of_ble_eq_true rfl) dX15_entry_205 (fun H locs hP hD hS => ?_)
                    obtain ⟨F_599, he_600, hP, hD, hO, hR⟩ : ∃ G, G = va_up F_578 b_588 (.inr (14, [.ref r_589, .int 0])) ∧ va_P (dC, dI) vwCl (va_pl L G) H ∧ va_D A (va_pl L G) ∧ OKm cs ty gm L G ∧ FR ty [ρ, ρ + 3, ρ + 4, ρ + 31] F G := ⟨_, rfl, hP, hD, hO.up (shm.txt ht_592 ⟨0, rfl, (by first | omega | assumption | exact Or.inl rfl | exact Or.inr rfl)⟩), hR.up ht_592 (by simp)⟩
                    have hF_601 : F_599 b_588 = .inr (14, [.ref r_589, .int 0]) := by rw [he_600]; exact up_self
                    have hF_602 : F_599 ad = .inl (cs 16, 40, .inl f_560) := by rw [he_600, up_ne (ne_ty ht_550 ht_592 (by simp))]; exact hF_580
                    have hF_603 : F_599 ta = .inl (cs 17, 3000, .inl gt) := by rw [he_600, up_ne (ne_ty ht_81 ht_592 (by simp))]; exact hF_581
                    have hF_604 : F_599 h0 = .inr (15, (.ref ta) :: (.int 0) :: (.int (nI zo_28)) :: (.int (nI ze)) :: (.ref ou) :: (.ref so) :: (.ref ad) :: (.ref na) :: (.ref va) :: (.ref lc) :: (.ref dm) :: (.int v11_29) :: (.int v12_30) :: (.ref tg) :: (.int v14_31) :: (.int v15_32) :: (.ref pe) :: (.int v17_33) :: (.int v18_34) :: (.int v19_35) :: (.int v20_36) :: (.int v21_37) :: (.int v22_38) :: (.ref ml) :: (.ref bg) :: (.ref co) :: (.ref sp) :: (.ref nb0) :: (.ref nb1) :: (.ref nb2) :: (.int (nI nf)) :: (.int (nI bd)) :: (.int (nI mm)) :: (.int v33_39) :: (.ref pl) :: (.ref se) :: (.ref ke) :: (.ref wi) :: (.ref hs) :: (.ref mo) :: (.ref po) :: (.ref nu) :: (.ref pr) :: (.ref sq) :: (.ref xa) :: (.ref sa) :: (.ref n64) :: (.ref m64) :: (.ref ex) :: (.ref wh) :: (.ref sd) :: (.ref tk) :: (.int v52_40) :: (.int v53_41) :: (.int v54_42) :: (.ref hd) :: (.ref ak) :: (.ref ho) :: (.ref ot) :: []) := by rw [he_600, up_ne (ne_ty hT_h0 ht_592 (by simp))]; exact hF_582
                    have hF_605 : F_599 b_566 = .inr (14, [.ref r_567, .int (nI (kend - 0))]) := by rw [he_600, up_ne (ne_ty2 ht_570 ht_592 (by simp))]; exact hq_579
                    have hF_606 : F_599 va = .inl (cs 23, 40, .inr (.inr (.inr (.inr f_585)))) := by rw [he_600, up_ne (ne_ty ht_584 ht_592 (by simp))]; exact hF_586
                    refine lv_iload hx hb dX15_entry_208 (lv_at hl 1 rfl) ?_
                    refine lv_if_eq (tgt := 234) hx hb dX15_entry_210 (by decide) (fun c_607 => ?_) (fun c_607 => ?_)
                    ·
                      refine lv_aload_n hx hb dX15_entry_234 rfl (lv_at hl 4 rfl) ?_
                      refine lv_dup hx hb dX15_entry_235 rfl ?_
                      refine pg_get (ci := 15) (v := .int (nI ze)) (C := RX15) (T := TX15) (N := 59) hx hb hts it_15 hown hK hP hL_h0 hF_604 rfl 3 (by decide) (hts _ kt_724) (fun _ h9 => h9) rfl dX15_entry_236 ?_
                      refine lv_iconst (v := 1) hx hb dX15_entry_239 (by decide) ?_
                      refine lv_iadd hx hb dX15_entry_240 ?_
                      refine lv_topi (fun x_608 ex_608 => ?_)
                      obtain rfl : x_608 = (nI (ze + 1)) := ex_608.trans (nI_add ze 1)
                      have htyU := hty
                      refine pg_put (ci := 15) (v := .int (nI (ze + 1))) (ty := .int) (C := RX15) (T := TX15) (N := 59) hx hb hts it_15 tyX15 tyX15_ok nmX15 hown hK hP hD hS hL_h0 hF_604 rfl 3 (by decide) (hts _ kt_724) (fun _ h9 => h9) rfl (by decide +kernel) (rfl) (rfl) (Nat.le_of_ble_eq_true rfl) dX15_entry_241 (fun H locs hP hD hS => ?_)
                      obtain ⟨F_609, he_610, hP, hD, hR⟩ : ∃ G, G = va_up F_599 h0 (.inr (15, (.ref ta) :: (.int 0) :: (.int (nI zo_28)) :: (.int (nI (ze + 1))) :: (.ref ou) :: (.ref so) :: (.ref ad) :: (.ref na) :: (.ref va) :: (.ref lc) :: (.ref dm) :: (.int v11_29) :: (.int v12_30) :: (.ref tg) :: (.int v14_31) :: (.int v15_32) :: (.ref pe) :: (.int v17_33) :: (.int v18_34) :: (.int v19_35) :: (.int v20_36) :: (.int v21_37) :: (.int v22_38) :: (.ref ml) :: (.ref bg) :: (.ref co) :: (.ref sp) :: (.ref nb0) :: (.ref nb1) :: (.ref nb2) :: (.int (nI nf)) :: (.int (nI bd)) :: (.int (nI mm)) :: (.int v33_39) :: (.ref pl) :: (.ref se) :: (.ref ke) :: (.ref wi) :: (.ref hs) :: (.ref mo) :: (.ref po) :: (.ref nu) :: (.ref pr) :: (.ref sq) :: (.ref xa) :: (.ref sa) :: (.ref n64) :: (.ref m64) :: (.ref ex) :: (.ref wh) :: (.ref sd) :: (.ref tk) :: (.int v52_40) :: (.int v53_41) :: (.int v54_42) :: (.ref hd) :: (.ref ak) :: (.ref ho) :: (.ref ot) :: [])) ∧ va_P (dC, dI) vwCl (va_pl L G) H ∧ va_D A (va_pl L G) ∧ FR ty [ρ, ρ + 3, ρ + 4, ρ + 31] F G := ⟨_, rfl, hP, hD, hR.up hT_h0 (by simp)⟩
                      have hF_611 : F_609 ta = .inl (cs 17, 3000, .inl gt) := by rw [he_610, up_ne (ne_ty ht_81 hT_h0 (by simp))]; exact hF_603
                      obtain ⟨ty, hty, hT_h0, hW, hO, hR⟩ : ∃ t9 : TyM, t9 = rtf ty h0 (15, ρ, [ta, ou, so, ad, na, va, lc, dm, tg, pe, ml, bg, co, sp, nb0, nb1, nb2, pl, se, ke, wi, hs, mo, po, nu, pr, sq, xa, sa, n64, m64, ex, wh, sd, tk, hd, ak, ho, ot, sx, s0, s1, s2, nf, bd, mm, (ze + 1), 0]) ∧ t9 h0 = (15, ρ, [ta, ou, so, ad, na, va, lc, dm, tg, pe, ml, bg, co, sp, nb0, nb1, nb2, pl, se, ke, wi, hs, mo, po, nu, pr, sq, xa, sa, n64, m64, ex, wh, sd, tk, hd, ak, ho, ot, sx, s0, s1, s2, nf, bd, mm, (ze + 1), 0]) ∧ WTm t9 gm L ∧ OKm cs t9 gm L F_609 ∧ FR t9 [ρ, ρ + 3, ρ + 4, ρ + 31] F F_609 := ⟨_, rfl, rtf_self, hW.ze hL_h0 hT_h0, (by rw [he_610]; exact OKm.retype hO hT_h0 (shm.mod rtf_self ⟨zo_28, v11_29, v12_30, v14_31, v15_32, v17_33, v18_34, v19_35, v20_36, v21_37, v22_38, v33_39, v52_40, v53_41, v54_42, rfl, (by first | omega | assumption | exact Or.inl rfl | exact Or.inr rfl), (by first | omega | assumption | exact Or.inl rfl | exact Or.inr rfl), (by first | omega | assumption | exact Or.inl rfl | exact Or.inr rfl), (by first | omega | assumption | exact Or.inl rfl | exact Or.inr rfl), (by first | omega | assumption | exact Or.inl rfl | exact Or.inr rfl)⟩)), FR.retype hT_h0 hR⟩
                      have hF_612 : F_609 h0 = .inr (15, (.ref ta) :: (.int 0) :: (.int (nI zo_28)) :: (.int (nI (ze + 1))) :: (.ref ou) :: (.ref so) :: (.ref ad) :: (.ref na) :: (.ref va) :: (.ref lc) :: (.ref dm) :: (.int v11_29) :: (.int v12_30) :: (.ref tg) :: (.int v14_31) :: (.int v15_32) :: (.ref pe) :: (.int v17_33) :: (.int v18_34) :: (.int v19_35) :: (.int v20_36) :: (.int v21_37) :: (.int v22_38) :: (.ref ml) :: (.ref bg) :: (.ref co) :: (.ref sp) :: (.ref nb0) :: (.ref nb1) :: (.ref nb2) :: (.int (nI nf)) :: (.int (nI bd)) :: (.int (nI mm)) :: (.int v33_39) :: (.ref pl) :: (.ref se) :: (.ref ke) :: (.ref wi) :: (.ref hs) :: (.ref mo) :: (.ref po) :: (.ref nu) :: (.ref pr) :: (.ref sq) :: (.ref xa) :: (.ref sa) :: (.ref n64) :: (.ref m64) :: (.ref ex) :: (.ref wh) :: (.ref sd) :: (.ref tk) :: (.int v52_40) :: (.int v53_41) :: (.int v54_42) :: (.ref hd) :: (.ref ak) :: (.ref ho) :: (.ref ot) :: []) := by rw [he_610]; exact up_self
                      obtain ⟨hq_635, hq_636, hq_637, hq_638, hq_639, hgO, hgA, hgB⟩ := hW.sc hL_h0 hT_h0
                      refine lv_aload_n hx hb dX15_entry_244 rfl (lv_at hl 4 rfl) ?_
                      refine pg_get (ci := 15) (v := .int (nI (ze + 1))) (C := RX15) (T := TX15) (N := 59) hx hb hts it_15 hown hK hP hL_h0 hF_612 rfl 3 (by decide) (hts _ kt_724) (fun _ h9 => h9) rfl dX15_entry_245 ?_
                      refine W.widen (k := 0) (n := 0) (by omega) (by omega) ?_
                      exact W.iret (v := (nI (ze + 1))) hx hb hr (fun t ht hWm => ⟨⟨(nI (ze + 1)), (ze + 1), rfl, (Or.inr (Or.inr ⟨hc40, hs5.elim (fun h => val_y1 hx0 hx4 (hs5n h) (by rw [← hk0e h]; exact hn1)) (fun h => val_y2 hx0 hx4 (hs5x h) (hfst h) (by rw [← hk1e h]; exact hn1) (ho1 h).1), rfl, rfl⟩)), ⟨F_609, ty, (by rw [hty, htyU, rtf_rtf2]), QTm.mk ht hP hD hO hR, hW⟩⟩, hS.F ht⟩) hS.2.2 dX15_entry_248
                    ·
                      have h51 := hs5.resolve_left c_607
                      refine lv_aload_n hx hb dX15_entry_213 rfl (lv_at hl 4 rfl) ?_
                      refine pg_get (ci := 15) (v := .ref va) (C := RX15) (T := TX15) (N := 59) hx hb hts it_15 hown hK hP hL_h0 hF_604 rfl 8 (by decide) (hts _ kt_732) (fun _ h9 => h9) rfl dX15_entry_214 ?_
                      refine lv_aload_n hx hb dX15_entry_217 rfl (lv_at hl 4 rfl) ?_
                      refine pg_get (ci := 15) (v := .int (nI ze)) (C := RX15) (T := TX15) (N := 59) hx hb hts it_15 hown hK hP hL_h0 hF_604 rfl 3 (by decide) (hts _ kt_724) (fun _ h9 => h9) rfl dX15_entry_218 ?_
                      obtain ⟨b_640, r_641, hbf_642, hi_643, ht_644⟩ := hq_587 ze (by omega)
                      refine pg_aald (r := b_640) hx hb hK hP hi_583 7 hF_606 rfl (vp_in_nI (by omega) (by omega)) (show f_585 ((nI ze) : Int32).toNatClampNeg = _ from by rw [show ((nI ze) : Int32) = nI ze from rfl, nI_clamp (by omega)]; exact hbf_642) dX15_entry_221 ?_
                      refine lv_aload_n hx hb dX15_entry_222 rfl (lv_at hl 4 rfl) ?_
                      refine pg_get (ci := 15) (v := .ref ta) (C := RX15) (T := TX15) (N := 59) hx hb hts it_15 hown hK hP hL_h0 hF_604 rfl 0 (by decide) (hts _ kt_1075) (fun _ h9 => h9) rfl dX15_entry_223 ?_
                      refine lv_iload hx hb dX15_entry_226 (lv_at hl 2 rfl) ?_
                      refine lv_iconst (v := 1) hx hb dX15_entry_228 (by decide) ?_
                      refine lv_iadd hx hb dX15_entry_229 ?_
                      refine lv_topi (fun x_645 ex_645 => ?_)
                      obtain rfl : x_645 = (nI (j + 1)) := ex_645.trans (nI_add j 1)
                      refine lv_iload_n hx hb dX15_entry_230 rfl (lv_at hl 3 rfl) ?_
                      obtain ⟨hi_646, ht_647, hq_648⟩ := hW.txt hi_643 ht_644
                      have hFc := pg_free hD hS hA
                      obtain ⟨z_649, hF_650, hq_651⟩ := hO.txt hi_643 ht_644
                      refine va_callv (va_runV (As := [.ref ta, .int (nI (j + 1)), .int (nI zt)]) (rest := []) ⟨hx, hb, hml, hown, hts⟩ (s_X14_set l dC dI cs ty gm L H.size F_599 b_640 (ρ + 31) r_641 700 ta (ρ + 1) 3000 (j + 1) zt hW hi_643 ht_644 hi_80 ht_81 (by have h9 := hn2 h51; omega) (by omega) (by have h9 := (ho1 h51).2; omega)) ⟨callB_of 3 hts (gi kt_979) rfl rfl rfl (hts _ kt_676) (hts _ kt_980) (by decide +kernel) ⟨Nat.le_of_ble_eq_true rfl, Nat.le_of_ble_eq_true rfl⟩, (hts _ kt_981), (hts _ kt_982)⟩ ⟨fun a U g mk q => ⟨q.1, PTm.calling q.2⟩, pg_recv hK hP hi_643 hF_650 (q := (RX14, TX14, 2)) rfl, fun U hU hWm => ⟨rfl, PTm.mk hU hWm hP hK hD hE hO⟩⟩ rfl rfl hl.1 rfl (lv_room (Nat.le_of_ble_eq_true rfl)) dX15_entry_231 ⟨by show _ + 0 ≤ 0; omega, by show _ + 0 ≤ 0; omega⟩) hS (fun q _ h => hFc q h) hFc (fun u t H1 locs ht hvm hw hB hz1 hk1 hS => ?_)
                      obtain ⟨F_653, hB1, hq_654⟩ := hB
                      obtain ⟨hP, hD, hO, hR⟩ := QTm.back hB1 ht hFc hR (fun q h => by simp only [List.mem_cons, List.not_mem_nil, or_false] at h ⊢; omega)
                      have hF_655 : F_653 ad = .inl (cs 16, 40, .inl f_560) := (hB1.2.2.2 ad (by rw [ht_550]; simp)).trans hF_602
                      have hF_656 : F_653 ta = .inl (cs 17, 3000, .inl gt) := (hB1.2.2.2 ta (by rw [ht_81]; simp)).trans hF_603
                      have hF_657 : F_653 h0 = .inr (15, (.ref ta) :: (.int 0) :: (.int (nI zo_28)) :: (.int (nI ze)) :: (.ref ou) :: (.ref so) :: (.ref ad) :: (.ref na) :: (.ref va) :: (.ref lc) :: (.ref dm) :: (.int v11_29) :: (.int v12_30) :: (.ref tg) :: (.int v14_31) :: (.int v15_32) :: (.ref pe) :: (.int v17_33) :: (.int v18_34) :: (.int v19_35) :: (.int v20_36) :: (.int v21_37) :: (.int v22_38) :: (.ref ml) :: (.ref bg) :: (.ref co) :: (.ref sp) :: (.ref nb0) :: (.ref nb1) :: (.ref nb2) :: (.int (nI nf)) :: (.int (nI bd)) :: (.int (nI mm)) :: (.int v33_39) :: (.ref pl) :: (.ref se) :: (.ref ke) :: (.ref wi) :: (.ref hs) :: (.ref mo) :: (.ref po) :: (.ref nu) :: (.ref pr) :: (.ref sq) :: (.ref xa) :: (.ref sa) :: (.ref n64) :: (.ref m64) :: (.ref ex) :: (.ref wh) :: (.ref sd) :: (.ref tk) :: (.int v52_40) :: (.int v53_41) :: (.int v54_42) :: (.ref hd) :: (.ref ak) :: (.ref ho) :: (.ref ot) :: []) := (hB1.2.2.2 h0 (by rw [hT_h0]; simp)).trans hF_604
                      have hF_658 : F_653 b_566 = .inr (14, [.ref r_567, .int (nI (kend - 0))]) := (hB1.2.2.2 b_566 (by rw [ht_570]; simp)).trans hF_605
                      generalize H1 = H at hP hS ⊢
                      refine lv_aload_n hx hb dX15_entry_234 rfl (lv_at hl 4 rfl) ?_
                      refine lv_dup hx hb dX15_entry_235 rfl ?_
                      refine pg_get (ci := 15) (v := .int (nI ze)) (C := RX15) (T := TX15) (N := 59) hx hb hts it_15 hown hK hP hL_h0 hF_657 rfl 3 (by decide) (hts _ kt_724) (fun _ h9 => h9) rfl dX15_entry_236 ?_
                      refine lv_iconst (v := 1) hx hb dX15_entry_239 (by decide) ?_
                      refine lv_iadd hx hb dX15_entry_240 ?_
                      refine lv_topi (fun x_659 ex_659 => ?_)
                      obtain rfl : x_659 = (nI (ze + 1)) := ex_659.trans (nI_add ze 1)
                      have htyU := hty
                      refine pg_put (ci := 15) (v := .int (nI (ze + 1))) (ty := .int) (C := RX15) (T := TX15) (N := 59) hx hb hts it_15 tyX15 tyX15_ok nmX15 hown hK hP hD hS hL_h0 hF_657 rfl 3 (by decide) (hts _ kt_724) (fun _ h9 => h9) rfl (by decide +kernel) (rfl) (rfl) (Nat.le_of_ble_eq_true rfl) dX15_entry_241 (fun H locs hP hD hS => ?_)
                      obtain ⟨F_660, he_661, hP, hD, hR⟩ : ∃ G, G = va_up F_653 h0 (.inr (15, (.ref ta) :: (.int 0) :: (.int (nI zo_28)) :: (.int (nI (ze + 1))) :: (.ref ou) :: (.ref so) :: (.ref ad) :: (.ref na) :: (.ref va) :: (.ref lc) :: (.ref dm) :: (.int v11_29) :: (.int v12_30) :: (.ref tg) :: (.int v14_31) :: (.int v15_32) :: (.ref pe) :: (.int v17_33) :: (.int v18_34) :: (.int v19_35) :: (.int v20_36) :: (.int v21_37) :: (.int v22_38) :: (.ref ml) :: (.ref bg) :: (.ref co) :: (.ref sp) :: (.ref nb0) :: (.ref nb1) :: (.ref nb2) :: (.int (nI nf)) :: (.int (nI bd)) :: (.int (nI mm)) :: (.int v33_39) :: (.ref pl) :: (.ref se) :: (.ref ke) :: (.ref wi) :: (.ref hs) :: (.ref mo) :: (.ref po) :: (.ref nu) :: (.ref pr) :: (.ref sq) :: (.ref xa) :: (.ref sa) :: (.ref n64) :: (.ref m64) :: (.ref ex) :: (.ref wh) :: (.ref sd) :: (.ref tk) :: (.int v52_40) :: (.int v53_41) :: (.int v54_42) :: (.ref hd) :: (.ref ak) :: (.ref ho) :: (.ref ot) :: [])) ∧ va_P (dC, dI) vwCl (va_pl L G) H ∧ va_D A (va_pl L G) ∧ FR ty [ρ, ρ + 3, ρ + 4, ρ + 31] F G := ⟨_, rfl, hP, hD, hR.up hT_h0 (by simp)⟩
                      have hF_662 : F_660 ta = .inl (cs 17, 3000, .inl gt) := by rw [he_661, up_ne (ne_ty ht_81 hT_h0 (by simp))]; exact hF_656
                      obtain ⟨ty, hty, hT_h0, hW, hO, hR⟩ : ∃ t9 : TyM, t9 = rtf ty h0 (15, ρ, [ta, ou, so, ad, na, va, lc, dm, tg, pe, ml, bg, co, sp, nb0, nb1, nb2, pl, se, ke, wi, hs, mo, po, nu, pr, sq, xa, sa, n64, m64, ex, wh, sd, tk, hd, ak, ho, ot, sx, s0, s1, s2, nf, bd, mm, (ze + 1), 0]) ∧ t9 h0 = (15, ρ, [ta, ou, so, ad, na, va, lc, dm, tg, pe, ml, bg, co, sp, nb0, nb1, nb2, pl, se, ke, wi, hs, mo, po, nu, pr, sq, xa, sa, n64, m64, ex, wh, sd, tk, hd, ak, ho, ot, sx, s0, s1, s2, nf, bd, mm, (ze + 1), 0]) ∧ WTm t9 gm L ∧ OKm cs t9 gm L F_660 ∧ FR t9 [ρ, ρ + 3, ρ + 4, ρ + 31] F F_660 := ⟨_, rfl, rtf_self, hW.ze hL_h0 hT_h0, (by rw [he_661]; exact OKm.retype hO hT_h0 (shm.mod rtf_self ⟨zo_28, v11_29, v12_30, v14_31, v15_32, v17_33, v18_34, v19_35, v20_36, v21_37, v22_38, v33_39, v52_40, v53_41, v54_42, rfl, (by first | omega | assumption | exact Or.inl rfl | exact Or.inr rfl), (by first | omega | assumption | exact Or.inl rfl | exact Or.inr rfl), (by first | omega | assumption | exact Or.inl rfl | exact Or.inr rfl), (by first | omega | assumption | exact Or.inl rfl | exact Or.inr rfl), (by first | omega | assumption | exact Or.inl rfl | exact Or.inr rfl)⟩)), FR.retype hT_h0 hR⟩
                      have hF_663 : F_660 h0 = .inr (15, (.ref ta) :: (.int 0) :: (.int (nI zo_28)) :: (.int (nI (ze + 1))) :: (.ref ou) :: (.ref so) :: (.ref ad) :: (.ref na) :: (.ref va) :: (.ref lc) :: (.ref dm) :: (.int v11_29) :: (.int v12_30) :: (.ref tg) :: (.int v14_31) :: (.int v15_32) :: (.ref pe) :: (.int v17_33) :: (.int v18_34) :: (.int v19_35) :: (.int v20_36) :: (.int v21_37) :: (.int v22_38) :: (.ref ml) :: (.ref bg) :: (.ref co) :: (.ref sp) :: (.ref nb0) :: (.ref nb1) :: (.ref nb2) :: (.int (nI nf)) :: (.int (nI bd)) :: (.int (nI mm)) :: (.int v33_39) :: (.ref pl) :: (.ref se) :: (.ref ke) :: (.ref wi) :: (.ref hs) :: (.ref mo) :: (.ref po) :: (.ref nu) :: (.ref pr) :: (.ref sq) :: (.ref xa) :: (.ref sa) :: (.ref n64) :: (.ref m64) :: (.ref ex) :: (.ref wh) :: (.ref sd) :: (.ref tk) :: (.int v52_40) :: (.int v53_41) :: (.int v54_42) :: (.ref hd) :: (.ref ak) :: (.ref ho) :: (.ref ot) :: []) := by rw [he_661]; exact up_self
                      obtain ⟨hq_686, hq_687, hq_688, hq_689, hq_690, hgO, hgA, hgB⟩ := hW.sc hL_h0 hT_h0
                      refine lv_aload_n hx hb dX15_entry_244 rfl (lv_at hl 4 rfl) ?_
                      refine pg_get (ci := 15) (v := .int (nI (ze + 1))) (C := RX15) (T := TX15) (N := 59) hx hb hts it_15 hown hK hP hL_h0 hF_663 rfl 3 (by decide) (hts _ kt_724) (fun _ h9 => h9) rfl dX15_entry_245 ?_
                      refine W.widen (k := 0) (n := 0) (by omega) (by omega) ?_
                      exact W.iret (v := (nI (ze + 1))) hx hb hr (fun t ht hWm => ⟨⟨(nI (ze + 1)), (ze + 1), rfl, (Or.inr (Or.inr ⟨hc40, hs5.elim (fun h => val_y1 hx0 hx4 (hs5n h) (by rw [← hk0e h]; exact hn1)) (fun h => val_y2 hx0 hx4 (hs5x h) (hfst h) (by rw [← hk1e h]; exact hn1) (ho1 h).1), rfl, rfl⟩)), ⟨F_660, ty, (by rw [hty, htyU, rtf_rtf2]), QTm.mk ht hP hD hO hR, hW⟩⟩, hS.F ht⟩) hS.2.2 dX15_entry_248
                  ·
                    refine lv_iload_n hx hb dX15_entry_118 rfl (lv_at hl 5 rfl) ?_
                    refine lv_iconst (v := 2) hx hb dX15_entry_119 (by decide) ?_
                    refine lv_icmp_ne (tgt := 138) hx hb dX15_entry_120 (by decide) (fun c_691 => ?_) (fun c_691 => ?_)
                    ·
                      refine lv_iload_n hx hb dX15_entry_138 rfl (lv_at hl 5 rfl) ?_
                      refine lv_if_ne (tgt := 156) hx hb dX15_entry_139 (by decide) (fun c_692 => ?_) (fun c_692 => ?_)
                      ·
                        refine W.widen (k := 0) (n := 0) (by omega) (by omega) ?_
                        exact jn_532 () F_528 (⟨fun h => absurd (hs5x h) (fun q => q.elim c_692 c_691), hn3⟩) hO hR _ _ hP hD hS ls (lv_sub hl [0, 1, 2, 3, 4, 5, 6] rfl)
                      ·
                        have h51 : s5 = 1 := hs5.resolve_left (fun q => hs5n q (Or.inl c_692))
                        have hkz := hn2 h51
                        refine lv_iload_n hx hb dX15_entry_142 rfl (lv_at hl 3 rfl) ?_
                        refine lv_iload hx hb dX15_entry_143 (lv_at hl 2 rfl) ?_
                        refine lv_isub hx hb dX15_entry_145 ?_
                        refine lv_topi (fun x_693 ex_693 => ?_)
                        obtain rfl : x_693 = (nI (zt - j)) := ex_693.trans (pk_sub (a := zt) (b := j) (by omega))
                        refine lv_iconst (v := 1) hx hb dX15_entry_146 (by decide) ?_
                        refine lv_isub hx hb dX15_entry_147 ?_
                        refine lv_topi (fun x_694 ex_694 => ?_)
                        obtain rfl : x_694 = (nI ((zt - j) - 1)) := ex_694.trans (pk_sub (a := (zt - j)) (b := 1) (by omega))
                        refine lv_sipush (v := 700) hx hb dX15_entry_148 (by decide) ?_
                        refine lv_icmp_le (tgt := 156) hx hb dX15_entry_151 (by decide) (fun c_695 => ?_) (fun c_695 => ?_)
                        ·
                          have hi_696 : ((zt - j) - 1) ≤ 700 := (nI_leI (a := ((zt - j) - 1)) (b := 700) (by omega) (by omega)).mp c_695
                          refine W.widen (k := 0) (n := 0) (by omega) (by omega) ?_
                          exact jn_532 () F_528 (⟨fun _ => ⟨⟨by omega, fun q => absurd (q.symm.trans c_692) (by decide), fun _ => by omega⟩, by omega⟩, hn3⟩) hO hR _ _ hP hD hS ls (lv_sub hl [0, 1, 2, 3, 4, 5, 6] rfl)
                        ·
                          have hi_697 : 700 < ((zt - j) - 1) := Nat.not_le.mp (fun q => c_695 ((nI_leI (a := ((zt - j) - 1)) (b := 700) (by omega) (by omega)).mpr q))
                          refine lv_iconst (v := (-1)) hx hb dX15_entry_154 (by decide) ?_
                          refine W.widen (k := 0) (n := 0) (by omega) (by omega) ?_
                          exact W.iret (v := (-1)) hx hb hr (fun t ht hWm => ⟨⟨(-1), ze, rfl, (Or.inr (Or.inl ⟨hc40, val_nv (Or.inl c_692) (hfst h51) (fun q => absurd (q.2.2 (fun w => absurd (w.symm.trans c_692) (by decide))) (by omega)), rfl, rfl⟩)), ⟨F_528, ty, hty, QTm.mk ht hP hD hO hR, hW⟩⟩, hS.F ht⟩) hS.2.2 dX15_entry_155
                    ·
                      have h51 : s5 = 1 := hs5.resolve_left (fun q => hs5n q (Or.inr c_691))
                      have hkz := hn2 h51
                      refine lv_aload_n hx hb dX15_entry_123 rfl (lv_at hl 4 rfl) ?_
                      refine pg_get (ci := 15) (v := .ref ta) (C := RX15) (T := TX15) (N := 59) hx hb hts it_15 hown hK hP hL_h0 hn3 rfl 0 (by decide) (hts _ kt_1075) (fun _ h9 => h9) rfl dX15_entry_124 ?_
                      refine lv_iload hx hb dX15_entry_127 (lv_at hl 2 rfl) ?_
                      refine lv_iconst (v := 1) hx hb dX15_entry_129 (by decide) ?_
                      refine lv_iadd hx hb dX15_entry_130 ?_
                      refine lv_topi (fun x_698 ex_698 => ?_)
                      obtain rfl : x_698 = (nI (j + 1)) := ex_698.trans (nI_add j 1)
                      refine lv_iload_n hx hb dX15_entry_131 rfl (lv_at hl 3 rfl) ?_
                      have hFc := pg_free hD hS hA
                      refine va_calli (va_runS (As := [.ref ta, .int (nI (j + 1)), .int (nI zt)]) (rest := []) ⟨hx, hb, hml, hown, hts⟩ (s_X14_isName_e l dC dI cs ty gm L H.size F_528 ta (ρ + 1) 3000 (j + 1) zt gt hW hi_80 ht_81 hF_531 (by first | omega | assumption) (by first | omega | assumption)) ⟨callB_of 3 hts (gi kt_689) rfl rfl rfl (hts _ kt_676) (hts _ kt_863) (by decide +kernel) ⟨Nat.le_of_ble_eq_true rfl, Nat.le_of_ble_eq_true rfl⟩, (hts _ kt_691)⟩ ⟨fun a U g mk q => ⟨q.1, PTm.calling q.2⟩, fun U hU hWm => ⟨rfl, PTm.mk hU hWm hP hK hD hE hO⟩⟩ rfl rfl hl.1 rfl (lv_room (Nat.le_of_ble_eq_true rfl)) dX15_entry_132 ⟨by show _ + 0 ≤ 0; omega, by show _ + 0 ≤ 0; omega⟩) hS (fun q _ h => hFc q h) hFc (fun r_699 u t H1 locs ht hvm hw hB hz1 hk1 hS => ?_)
                      obtain ⟨F_700, hB1⟩ := hB
                      obtain rfl : F_528 = F_700 := (funext (fun a => hB1.2.2.2 a List.not_mem_nil)).symm
                      obtain ⟨hP, hD, hO, hR⟩ := QTm.back hB1 ht hFc hR (fun q h => absurd h List.not_mem_nil)
                      generalize H1 = H at hP hS ⊢
                      have hw : r_699 = (if NM gt (j + 1) zt = true then 1 else 0) := hw
                      have hw_701 := hw
                      refine lv_if_eq (tgt := 154) hx hb dX15_entry_135 (by decide) (fun c_702 => ?_) (fun c_702 => ?_)
                      ·
                        refine lv_iconst (v := (-1)) hx hb dX15_entry_154 (by decide) ?_
                        refine W.widen (k := 0) (n := 0) (by omega) (by omega) ?_
                        exact W.iret (v := (-1)) hx hb hr (fun t ht hWm => ⟨⟨(-1), ze, rfl, (Or.inr (Or.inl ⟨hc40, val_nv (Or.inr c_691) (hfst h51) (fun q => ifb0 hw_701 c_702 (q.2.1 c_691)), rfl, rfl⟩)), ⟨F_528, ty, hty, QTm.mk ht hP hD hO hR, hW⟩⟩, hS.F ht⟩) hS.2.2 dX15_entry_155
                      ·
                        refine lv_iload_n hx hb dX15_entry_138 rfl (lv_at hl 5 rfl) ?_
                        refine lv_if_ne (tgt := 156) hx hb dX15_entry_139 (by decide) (fun c_703 => ?_) (fun c_703 => ?_)
                        ·
                          refine W.widen (k := 0) (n := 0) (by omega) (by omega) ?_
                          exact jn_532 () F_528 (⟨fun _ => ⟨⟨by omega, fun _ => ifb1 hw_701 c_702, fun q => absurd c_691 q⟩, by have h9 := nm_60 (ifb1 hw_701 c_702); omega⟩, hn3⟩) hO hR _ _ hP hD hS ls (lv_sub hl [0, 1, 2, 3, 4, 5, 6] rfl)
                        ·
                          have h51 : s5 = 1 := hs5.resolve_left (fun q => hs5n q (Or.inl c_703))
                          have hkz := hn2 h51
                          refine lv_iload_n hx hb dX15_entry_142 rfl (lv_at hl 3 rfl) ?_
                          refine lv_iload hx hb dX15_entry_143 (lv_at hl 2 rfl) ?_
                          refine lv_isub hx hb dX15_entry_145 ?_
                          refine lv_topi (fun x_704 ex_704 => ?_)
                          obtain rfl : x_704 = (nI (zt - j)) := ex_704.trans (pk_sub (a := zt) (b := j) (by omega))
                          refine lv_iconst (v := 1) hx hb dX15_entry_146 (by decide) ?_
                          refine lv_isub hx hb dX15_entry_147 ?_
                          refine lv_topi (fun x_705 ex_705 => ?_)
                          obtain rfl : x_705 = (nI ((zt - j) - 1)) := ex_705.trans (pk_sub (a := (zt - j)) (b := 1) (by omega))
                          refine lv_sipush (v := 700) hx hb dX15_entry_148 (by decide) ?_
                          refine lv_icmp_le (tgt := 156) hx hb dX15_entry_151 (by decide) (fun c_706 => ?_) (fun c_706 => ?_)
                          ·
                            have hi_707 : ((zt - j) - 1) ≤ 700 := (nI_leI (a := ((zt - j) - 1)) (b := 700) (by omega) (by omega)).mp c_706
                            refine W.widen (k := 0) (n := 0) (by omega) (by omega) ?_
                            exact jn_532 () F_528 (⟨fun _ => ⟨⟨by omega, fun q => absurd (q.symm.trans c_703) (by decide), fun _ => by omega⟩, by omega⟩, hn3⟩) hO hR _ _ hP hD hS ls (lv_sub hl [0, 1, 2, 3, 4, 5, 6] rfl)
                          ·
                            have hi_708 : 700 < ((zt - j) - 1) := Nat.not_le.mp (fun q => c_706 ((nI_leI (a := ((zt - j) - 1)) (b := 700) (by omega) (by omega)).mpr q))
                            refine lv_iconst (v := (-1)) hx hb dX15_entry_154 (by decide) ?_
                            refine W.widen (k := 0) (n := 0) (by omega) (by omega) ?_
                            exact W.iret (v := (-1)) hx hb hr (fun t ht hWm => ⟨⟨(-1), ze, rfl, (Or.inr (Or.inl ⟨hc40, val_nv (Or.inl c_703) (hfst h51) (fun q => absurd (q.2.2 (fun w => absurd (w.symm.trans c_703) (by decide))) (by omega)), rfl, rfl⟩)), ⟨F_528, ty, hty, QTm.mk ht hP hD hO hR, hW⟩⟩, hS.F ht⟩) hS.2.2 dX15_entry_155
                ·
                  refine lv_iload hx hb dX15_entry_92 (lv_at hl 1 rfl) ?_
                  refine lv_if_eq (tgt := 103) hx hb dX15_entry_94 (by decide) (fun c_709 => ?_) (fun c_709 => ?_)
                  ·
                    refine lv_aload_n hx hb dX15_entry_103 rfl (lv_at hl 4 rfl) ?_
                    refine pg_get (ci := 15) (v := .ref ta) (C := RX15) (T := TX15) (N := 59) hx hb hts it_15 hown hK hP hL_h0 hb2 rfl 0 (by decide) (hts _ kt_1075) (fun _ h9 => h9) rfl dX15_entry_104 ?_
                    refine lv_iconst (v := 0) hx hb dX15_entry_107 (by decide) ?_
                    refine lv_iload hx hb dX15_entry_108 (lv_at hl 0 rfl) ?_
                    refine W.eq (g2 := F0 m 110 ls [.int (nI kend), .int (nI 0), .ref ta]) rfl ?_
                    have hFc := pg_free hD hS hA
                    refine va_calli (va_runS (As := [.ref ta, .int (nI 0), .int (nI kend)]) (rest := []) ⟨hx, hb, hml, hown, hts⟩ (s_X14_isName_e l dC dI cs ty gm L H.size F_523 ta (ρ + 1) 3000 0 kend gt hW hi_80 ht_81 hF_526 (by first | omega | assumption) (by first | omega | assumption)) ⟨callB_of 3 hts (gi kt_689) rfl rfl rfl (hts _ kt_676) (hts _ kt_863) (by decide +kernel) ⟨Nat.le_of_ble_eq_true rfl, Nat.le_of_ble_eq_true rfl⟩, (hts _ kt_691)⟩ ⟨fun a U g mk q => ⟨q.1, PTm.calling q.2⟩, fun U hU hWm => ⟨rfl, PTm.mk hU hWm hP hK hD hE hO⟩⟩ rfl rfl hl.1 rfl (lv_room (Nat.le_of_ble_eq_true rfl)) dX15_entry_110 ⟨by show _ + 0 ≤ 0; omega, by show _ + 0 ≤ 0; omega⟩) hS (fun q _ h => hFc q h) hFc (fun r_710 u t H1 locs ht hvm hw hB hz1 hk1 hS => ?_)
                    obtain ⟨F_711, hB1⟩ := hB
                    obtain rfl : F_523 = F_711 := (funext (fun a => hB1.2.2.2 a List.not_mem_nil)).symm
                    obtain ⟨hP, hD, hO, hR⟩ := QTm.back hB1 ht hFc hR (fun q h => absurd h List.not_mem_nil)
                    generalize H1 = H at hP hS ⊢
                    have hw : r_710 = (if NM gt 0 kend = true then 1 else 0) := hw
                    have hw_712 := hw
                    refine lv_if_ne (tgt := 118) hx hb dX15_entry_113 (by decide) (fun c_713 => ?_) (fun c_713 => ?_)
                    ·
                      refine W.widen (k := 0) (n := 0) (by omega) (by omega) ?_
                      exact jn_527 () F_523 (⟨ifb1 hw_712 c_713, nm_60 (ifb1 hw_712 c_713), fun h => absurd (h.symm.trans c_709) (by decide), hb2⟩) hO hR _ _ hP hD hS ls (lv_sub hl [0, 1, 2, 3, 4, 5, 6] rfl)
                    ·
                      refine lv_iconst (v := (-1)) hx hb dX15_entry_116 (by decide) ?_
                      refine W.widen (k := 0) (n := 0) (by omega) (by omega) ?_
                      exact W.iret (v := (-1)) hx hb hr (fun t ht hWm => ⟨⟨(-1), ze, rfl, (Or.inr (Or.inl ⟨hc40, val_nz (hs5n c_709) (by rw [← hk0e c_709]; exact (ifb0 hw_712 c_713)), rfl, rfl⟩)), ⟨F_523, ty, hty, QTm.mk ht hP hD hO hR, hW⟩⟩, hS.F ht⟩) hS.2.2 dX15_entry_117
                  ·
                    refine lv_iload hx hb dX15_entry_97 (lv_at hl 2 rfl) ?_
                    refine lv_iload_n hx hb dX15_entry_99 rfl (lv_at hl 3 rfl) ?_
                    refine lv_icmp_eq (tgt := 116) hx hb dX15_entry_100 (by decide) (fun c_714 => ?_) (fun c_714 => ?_)
                    ·
                      have hi_715 : j = zt := (nI_eq (a := j) (b := zt) (by omega) (by omega)).mp c_714
                      refine lv_iconst (v := (-1)) hx hb dX15_entry_116 (by decide) ?_
                      refine W.widen (k := 0) (n := 0) (by omega) (by omega) ?_
                      exact W.iret (v := (-1)) hx hb hr (fun t ht hWm => ⟨⟨(-1), ze, rfl, (Or.inr (Or.inl ⟨hc40, val_nv (hs5x (hs5.resolve_left c_709)) (hfst (hs5.resolve_left c_709)) (fun q => q.1 (by omega)), rfl, rfl⟩)), ⟨F_523, ty, hty, QTm.mk ht hP hD hO hR, hW⟩⟩, hS.F ht⟩) hS.2.2 dX15_entry_117
                    ·
                      have hi_716 : j ≠ zt := fun q => c_714 (by rw [q])
                      refine lv_aload_n hx hb dX15_entry_103 rfl (lv_at hl 4 rfl) ?_
                      refine pg_get (ci := 15) (v := .ref ta) (C := RX15) (T := TX15) (N := 59) hx hb hts it_15 hown hK hP hL_h0 hb2 rfl 0 (by decide) (hts _ kt_1075) (fun _ h9 => h9) rfl dX15_entry_104 ?_
                      refine lv_iconst (v := 0) hx hb dX15_entry_107 (by decide) ?_
                      refine lv_iload hx hb dX15_entry_108 (lv_at hl 0 rfl) ?_
                      refine W.eq (g2 := F0 m 110 ls [.int (nI kend), .int (nI 0), .ref ta]) rfl ?_
                      have hFc := pg_free hD hS hA
                      refine va_calli (va_runS (As := [.ref ta, .int (nI 0), .int (nI kend)]) (rest := []) ⟨hx, hb, hml, hown, hts⟩ (s_X14_isName_e l dC dI cs ty gm L H.size F_523 ta (ρ + 1) 3000 0 kend gt hW hi_80 ht_81 hF_526 (by first | omega | assumption) (by first | omega | assumption)) ⟨callB_of 3 hts (gi kt_689) rfl rfl rfl (hts _ kt_676) (hts _ kt_863) (by decide +kernel) ⟨Nat.le_of_ble_eq_true rfl, Nat.le_of_ble_eq_true rfl⟩, (hts _ kt_691)⟩ ⟨fun a U g mk q => ⟨q.1, PTm.calling q.2⟩, fun U hU hWm => ⟨rfl, PTm.mk hU hWm hP hK hD hE hO⟩⟩ rfl rfl hl.1 rfl (lv_room (Nat.le_of_ble_eq_true rfl)) dX15_entry_110 ⟨by show _ + 0 ≤ 0; omega, by show _ + 0 ≤ 0; omega⟩) hS (fun q _ h => hFc q h) hFc (fun r_717 u t H1 locs ht hvm hw hB hz1 hk1 hS => ?_)
                      obtain ⟨F_718, hB1⟩ := hB
                      obtain rfl : F_523 = F_718 := (funext (fun a => hB1.2.2.2 a List.not_mem_nil)).symm
                      obtain ⟨hP, hD, hO, hR⟩ := QTm.back hB1 ht hFc hR (fun q h => absurd h List.not_mem_nil)
                      generalize H1 = H at hP hS ⊢
                      have hw : r_717 = (if NM gt 0 kend = true then 1 else 0) := hw
                      have hw_719 := hw
                      refine lv_if_ne (tgt := 118) hx hb dX15_entry_113 (by decide) (fun c_720 => ?_) (fun c_720 => ?_)
                      ·
                        refine W.widen (k := 0) (n := 0) (by omega) (by omega) ?_
                        exact jn_527 () F_523 (⟨ifb1 hw_719 c_720, nm_60 (ifb1 hw_719 c_720), fun _ => by omega, hb2⟩) hO hR _ _ hP hD hS ls (lv_sub hl [0, 1, 2, 3, 4, 5, 6] rfl)
                      ·
                        refine lv_iconst (v := (-1)) hx hb dX15_entry_116 (by decide) ?_
                        refine W.widen (k := 0) (n := 0) (by omega) (by omega) ?_
                        exact W.iret (v := (-1)) hx hb hr (fun t ht hWm => ⟨⟨(-1), ze, rfl, (Or.inr (Or.inl ⟨hc40, val_nn (hs5x (hs5.resolve_left c_709)) (hfst (hs5.resolve_left c_709)) (by rw [← hk1e (hs5.resolve_left c_709)]; exact (ifb0 hw_719 c_720)), rfl, rfl⟩)), ⟨F_523, ty, hty, QTm.mk ht hP hD hO hR, hW⟩⟩, hS.F ht⟩) hS.2.2 dX15_entry_117
              ·
                refine lv_iload hx hb dX15_entry_79 (lv_at hl 0 rfl) ?_
                refine lv_if_eq (tgt := 89) hx hb dX15_entry_81 (by decide) (fun c_721 => ?_) (fun c_721 => ?_)
                ·
                  refine lv_iload_n hx hb dX15_entry_89 rfl (lv_at hl 2 rfl) ?_
                  refine W.widen (k := 0) (n := 0) (by omega) (by omega) ?_
                  exact jn_522 (nI zt) F_93 (⟨⟨zt, Nat.le_refl _, rfl, fun h => absurd (h.symm.trans c_721) (by decide), fun _ => rfl⟩, ha2⟩) hO hR _ _ hP hD hS ls (lv_sub hl [0, 1, 2, 3, 4, 5] rfl)
                ·
                  refine lv_iload hx hb dX15_entry_84 (lv_at hl 1 rfl) ?_
                  refine lv_goto (tgt := 90) hx hb dX15_entry_86 (by decide) ?_
                  refine W.widen (k := 0) (n := 0) (by omega) (by omega) ?_
                  exact jn_522 (nI j) F_93 (⟨⟨j, by omega, rfl, fun _ => rfl, fun h => absurd h c_721⟩, ha2⟩) hO hR _ _ hP hD hS ls (lv_sub hl [0, 1, 2, 3, 4, 5] rfl)
            ·
              refine lv_iinc (v := (nI (j + 1))) (lv' := [(4, .int (nI (j + 1))), (5, .int s5), (3, .int (nI zt)), (0, .ref h0), (1, .int x1), (2, .int x2)]) hx hb dX15_entry_73 hl (k := 1) rfl (nI_1 _) (by decide) rfl (fun ls hl => ?_)
              refine lv_goto (tgt := 50) hx hb dX15_entry_76 (by decide) ?_
              refine W.widen (k := 0) (n := 0) (by omega) (by omega) ?_
              exact ih_96 (j + 1) F_93 (⟨by omega, fun i hi => by rcases Nat.lt_or_ge i j with q | q; exact ha3 i q; rw [show i = j by omega]; exact c_521, ha2⟩) (by show zt - (j + 1) < zt - j; omega) hO hR _ _ hP hD hS ls (lv_sub hl [1, 0, 2, 3, 4, 5] rfl)
      ·
        refine lv_iload_n hx hb dX15_entry_34 rfl (lv_at hl 3 rfl) ?_
        refine lv_if_eq (tgt := 43) hx hb dX15_entry_35 (by decide) (fun c_722 => ?_) (fun c_722 => ?_)
        ·
          refine lv_iconst (v := 1) hx hb dX15_entry_43 (by decide) ?_
          refine lv_goto (tgt := 48) hx hb dX15_entry_44 (by decide) ?_
          refine W.widen (k := 0) (n := 0) (by omega) (by omega) ?_
          exact jn_88 1 F_50 (⟨Or.inr rfl, fun _ => Or.inl c_722, fun h => absurd h (by decide), hq_51⟩) hO hR _ _ hP hD hS ls (lv_sub hl [0, 1, 2, 3, 4] rfl)
        ·
          refine lv_iload_n hx hb dX15_entry_38 rfl (lv_at hl 3 rfl) ?_
          refine lv_iconst (v := 2) hx hb dX15_entry_39 (by decide) ?_
          refine lv_icmp_ne (tgt := 47) hx hb dX15_entry_40 (by decide) (fun c_723 => ?_) (fun c_723 => ?_)
          ·
            refine lv_iconst (v := 0) hx hb dX15_entry_47 (by decide) ?_
            refine W.widen (k := 0) (n := 0) (by omega) (by omega) ?_
            exact jn_88 0 F_50 (⟨Or.inl rfl, fun h => absurd h (by decide), fun _ q => q.elim c_722 c_723, hq_51⟩) hO hR _ _ hP hD hS ls (lv_sub hl [0, 1, 2, 3, 4] rfl)
          ·
            refine lv_iconst (v := 1) hx hb dX15_entry_43 (by decide) ?_
            refine lv_goto (tgt := 48) hx hb dX15_entry_44 (by decide) ?_
            refine W.widen (k := 0) (n := 0) (by omega) (by omega) ?_
            exact jn_88 1 F_50 (⟨Or.inr rfl, fun _ => Or.inr c_723, fun h => absurd h (by decide), hq_51⟩) hO hR _ _ hP hD hS ls (lv_sub hl [0, 1, 2, 3, 4] rfl)
    ·
      have hxo := ((in_04 hw_86).resolve_right (fun q => absurd (q.1.symm.trans c_87) (by decide))).2
      refine lv_iconst (v := (-1)) hx hb dX15_entry_32 (by decide) ?_
      refine W.widen (k := 0) (n := 0) (by omega) (by omega) ?_
      exact W.iret (v := (-1)) hx hb hr (fun t ht hWm => ⟨⟨(-1), ze, rfl, (Or.inr (Or.inl ⟨hc40, hxo.elim val_n1 val_n2, rfl, rfl⟩)), ⟨F_50, ty, hty, QTm.mk ht hP hD hO hR, hW⟩⟩, hS.F ht⟩) hS.2.2 dX15_entry_33
  ·
    have hi_724 : ze = 40 := (nI_eq (a := ze) (b := 40) (by omega) (by omega)).mp c_82
    have hc40 : ze = 40 := by omega
    refine lv_bipush (v := (-3)) hx hb dX15_entry_17 (by decide) ?_
    refine W.widen (k := 0) (n := 0) (by omega) (by omega) ?_
    exact W.iret (v := (-3)) hx hb hr (fun t ht hWm => ⟨⟨(-3), ze, rfl, (Or.inl ⟨hc40, rfl, rfl⟩), ⟨F_50, ty, hty, QTm.mk ht hP hD hO hR, hW⟩⟩, hS.F ht⟩) hS.2.2 dX15_entry_19
