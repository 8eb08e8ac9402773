theorem dX15_digest__0 : decode cX15_digest_ 0 = .ok (.aload_n 0, 1) := by decide +kernel
theorem dX15_digest__1 : decode cX15_digest_ 1 = .ok (.invokevirtual 174, 3) := by decide +kernel
theorem dX15_digest__4 : decode cX15_digest_ 4 = .ok (.istore_n 1, 1) := by decide +kernel
theorem dX15_digest__5 : decode cX15_digest_ 5 = .ok (.aload_n 0, 1) := by decide +kernel
theorem dX15_digest__6 : decode cX15_digest_ 6 = .ok (.aload_n 0, 1) := by decide +kernel
theorem dX15_digest__7 : decode cX15_digest_ 7 = .ok (.getfield 31, 3) := by decide +kernel
theorem dX15_digest__10 : decode cX15_digest_ 10 = .ok (.iload_n 1, 1) := by decide +kernel
theorem dX15_digest__11 : decode cX15_digest_ 11 = .ok (.aload_n 0, 1) := by decide +kernel
theorem dX15_digest__12 : decode cX15_digest_ 12 = .ok (.getfield 129, 3) := by decide +kernel
theorem dX15_digest__15 : decode cX15_digest_ 15 = .ok (.invokevirtual 519, 3) := by decide +kernel
theorem dX15_digest__18 : decode cX15_digest_ 18 = .ok (.aload_n 0, 1) := by decide +kernel
theorem dX15_digest__19 : decode cX15_digest_ 19 = .ok (.getfield 129, 3) := by decide +kernel
theorem dX15_digest__22 : decode cX15_digest_ 22 = .ok (.iconst 0, 1) := by decide +kernel
theorem dX15_digest__23 : decode cX15_digest_ 23 = .ok (.aload_n 0, 1) := by decide +kernel
theorem dX15_digest__24 : decode cX15_digest_ 24 = .ok (.getfield 35, 3) := by decide +kernel
theorem dX15_digest__27 : decode cX15_digest_ 27 = .ok (.iconst 0, 1) := by decide +kernel
theorem dX15_digest__28 : decode cX15_digest_ 28 = .ok (.bipush 32, 2) := by decide +kernel
theorem dX15_digest__30 : decode cX15_digest_ 30 = .ok (.invokestatic 358, 3) := by decide +kernel
theorem dX15_digest__33 : decode cX15_digest_ 33 = .ok (.aload_n 0, 1) := by decide +kernel
theorem dX15_digest__34 : decode cX15_digest_ 34 = .ok (.bipush 32, 2) := by decide +kernel
theorem dX15_digest__36 : decode cX15_digest_ 36 = .ok (.putfield 385, 3) := by decide +kernel
theorem dX15_digest__39 : decode cX15_digest_ 39 = .ok (.bipush 32, 2) := by decide +kernel
theorem dX15_digest__41 : decode cX15_digest_ 41 = .ok (.ireturn, 1) := by decide +kernel
theorem dX15_end_0 : decode cX15_end 0 = .ok (.iload_n 1, 1) := by decide +kernel
theorem dX15_end_1 : decode cX15_end 1 = .ok (.i2l, 1) := by decide +kernel
theorem dX15_end_2 : decode cX15_end 2 = .ok (.lconst 0, 1) := by decide +kernel
theorem dX15_end_3 : decode cX15_end 3 = .ok (.aload_n 0, 1) := by decide +kernel
theorem dX15_end_4 : decode cX15_end 4 = .ok (.getfield 166, 3) := by decide +kernel
theorem dX15_end_7 : decode cX15_end 7 = .ok (.i2l, 1) := by decide +kernel
theorem dX15_end_8 : decode cX15_end 8 = .ok (.invokestatic 170, 3) := by decide +kernel
theorem dX15_end_11 : decode cX15_end 11 = .ok (.ifCond .ne 5, 3) := by decide +kernel
theorem dX15_end_14 : decode cX15_end 14 = .ok (.iconst (-1), 1) := by decide +kernel
theorem dX15_end_15 : decode cX15_end 15 = .ok (.ireturn, 1) := by decide +kernel
theorem dX15_end_16 : decode cX15_end 16 = .ok (.aload_n 0, 1) := by decide +kernel
theorem dX15_end_17 : decode cX15_end 17 = .ok (.iload_n 1, 1) := by decide +kernel
theorem dX15_end_18 : decode cX15_end 18 = .ok (.putfield 166, 3) := by decide +kernel
theorem dX15_end_21 : decode cX15_end 21 = .ok (.iload_n 1, 1) := by decide +kernel
theorem dX15_end_22 : decode cX15_end 22 = .ok (.ireturn, 1) := by decide +kernel
theorem dX15_entry_0 : decode cX15_entry 0 = .ok (.aload_n 0, 1) := by decide +kernel
theorem dX15_entry_1 : decode cX15_entry 1 = .ok (.invokevirtual 174, 3) := by decide +kernel
theorem dX15_entry_4 : decode cX15_entry 4 = .ok (.istore_n 3, 1) := by decide +kernel
theorem dX15_entry_5 : decode cX15_entry 5 = .ok (.iconst 0, 1) := by decide +kernel
theorem dX15_entry_6 : decode cX15_entry 6 = .ok (.istore 4, 2) := by decide +kernel
theorem dX15_entry_8 : decode cX15_entry 8 = .ok (.aload_n 0, 1) := by decide +kernel
theorem dX15_entry_9 : decode cX15_entry 9 = .ok (.getfield 177, 3) := by decide +kernel
theorem dX15_entry_12 : decode cX15_entry 12 = .ok (.bipush 40, 2) := by decide +kernel
theorem dX15_entry_14 : decode cX15_entry 14 = .ok (.if_icmp .ne 6, 3) := by decide +kernel
theorem dX15_entry_17 : decode cX15_entry 17 = .ok (.bipush (-3), 2) := by decide +kernel
theorem dX15_entry_19 : decode cX15_entry 19 = .ok (.ireturn, 1) := by decide +kernel
theorem dX15_entry_20 : decode cX15_entry 20 = .ok (.iload_n 1, 1) := by decide +kernel
theorem dX15_entry_21 : decode cX15_entry 21 = .ok (.i2l, 1) := by decide +kernel
theorem dX15_entry_22 : decode cX15_entry 22 = .ok (.lconst 0, 1) := by decide +kernel
theorem dX15_entry_23 : decode cX15_entry 23 = .ok (.ldc2_w 180, 3) := by decide +kernel
theorem dX15_entry_26 : decode cX15_entry 26 = .ok (.invokestatic 170, 3) := by decide +kernel
theorem dX15_entry_29 : decode cX15_entry 29 = .ok (.ifCond .ne 5, 3) := by decide +kernel
theorem dX15_entry_32 : decode cX15_entry 32 = .ok (.iconst (-1), 1) := by decide +kernel
theorem dX15_entry_33 : decode cX15_entry 33 = .ok (.ireturn, 1) := by decide +kernel
theorem dX15_entry_34 : decode cX15_entry 34 = .ok (.iload_n 1, 1) := by decide +kernel
theorem dX15_entry_35 : decode cX15_entry 35 = .ok (.ifCond .eq 8, 3) := by decide +kernel
theorem dX15_entry_38 : decode cX15_entry 38 = .ok (.iload_n 1, 1) := by decide +kernel
theorem dX15_entry_39 : decode cX15_entry 39 = .ok (.iconst 2, 1) := by decide +kernel
theorem dX15_entry_40 : decode cX15_entry 40 = .ok (.if_icmp .ne 7, 3) := by decide +kernel
theorem dX15_entry_43 : decode cX15_entry 43 = .ok (.iconst 1, 1) := by decide +kernel
theorem dX15_entry_44 : decode cX15_entry 44 = .ok (.goto 4, 3) := by decide +kernel
theorem dX15_entry_47 : decode cX15_entry 47 = .ok (.iconst 0, 1) := by decide +kernel
theorem dX15_entry_48 : decode cX15_entry 48 = .ok (.istore 5, 2) := by decide +kernel
theorem dX15_entry_50 : decode cX15_entry 50 = .ok (.iload 5, 2) := by decide +kernel
theorem dX15_entry_52 : decode cX15_entry 52 = .ok (.ifCond .eq 27, 3) := by decide +kernel
theorem dX15_entry_55 : decode cX15_entry 55 = .ok (.iload 4, 2) := by decide +kernel
theorem dX15_entry_57 : decode cX15_entry 57 = .ok (.iload_n 3, 1) := by decide +kernel
theorem dX15_entry_58 : decode cX15_entry 58 = .ok (.if_icmp .ge 21, 3) := by decide +kernel
theorem dX15_entry_61 : decode cX15_entry 61 = .ok (.aload_n 0, 1) := by decide +kernel
theorem dX15_entry_62 : decode cX15_entry 62 = .ok (.getfield 31, 3) := by decide +kernel
theorem dX15_entry_65 : decode cX15_entry 65 = .ok (.iload 4, 2) := by decide +kernel
theorem dX15_entry_67 : decode cX15_entry 67 = .ok (.baload, 1) := by decide +kernel
theorem dX15_entry_68 : decode cX15_entry 68 = .ok (.bipush 32, 2) := by decide +kernel
theorem dX15_entry_70 : decode cX15_entry 70 = .ok (.if_icmp .eq 9, 3) := by decide +kernel
theorem dX15_entry_73 : decode cX15_entry 73 = .ok (.iinc 4 1, 3) := by decide +kernel
theorem dX15_entry_76 : decode cX15_entry 76 = .ok (.goto (-26), 3) := by decide +kernel
theorem dX15_entry_79 : decode cX15_entry 79 = .ok (.iload 5, 2) := by decide +kernel
theorem dX15_entry_81 : decode cX15_entry 81 = .ok (.ifCond .eq 8, 3) := by decide +kernel
theorem dX15_entry_84 : decode cX15_entry 84 = .ok (.iload 4, 2) := by decide +kernel
theorem dX15_entry_86 : decode cX15_entry 86 = .ok (.goto 4, 3) := by decide +kernel
theorem dX15_entry_89 : decode cX15_entry 89 = .ok (.iload_n 3, 1) := by decide +kernel
theorem dX15_entry_90 : decode cX15_entry 90 = .ok (.istore 6, 2) := by decide +kernel
theorem dX15_entry_92 : decode cX15_entry 92 = .ok (.iload 5, 2) := by decide +kernel
theorem dX15_entry_94 : decode cX15_entry 94 = .ok (.ifCond .eq 9, 3) := by decide +kernel
theorem dX15_entry_97 : decode cX15_entry 97 = .ok (.iload 4, 2) := by decide +kernel
theorem dX15_entry_99 : decode cX15_entry 99 = .ok (.iload_n 3, 1) := by decide +kernel
theorem dX15_entry_100 : decode cX15_entry 100 = .ok (.if_icmp .eq 16, 3) := by decide +kernel
theorem dX15_entry_103 : decode cX15_entry 103 = .ok (.aload_n 0, 1) := by decide +kernel
theorem dX15_entry_104 : decode cX15_entry 104 = .ok (.getfield 31, 3) := by decide +kernel
theorem dX15_entry_107 : decode cX15_entry 107 = .ok (.iconst 0, 1) := by decide +kernel
theorem dX15_entry_108 : decode cX15_entry 108 = .ok (.iload 6, 2) := by decide +kernel
theorem dX15_entry_110 : decode cX15_entry 110 = .ok (.invokestatic 182, 3) := by decide +kernel
theorem dX15_entry_113 : decode cX15_entry 113 = .ok (.ifCond .ne 5, 3) := by decide +kernel
theorem dX15_entry_116 : decode cX15_entry 116 = .ok (.iconst (-1), 1) := by decide +kernel
theorem dX15_entry_117 : decode cX15_entry 117 = .ok (.ireturn, 1) := by decide +kernel
theorem dX15_entry_118 : decode cX15_entry 118 = .ok (.iload_n 1, 1) := by decide +kernel
theorem dX15_entry_119 : decode cX15_entry 119 = .ok (.iconst 2, 1) := by decide +kernel
theorem dX15_entry_120 : decode cX15_entry 120 = .ok (.if_icmp .ne 18, 3) := by decide +kernel
theorem dX15_entry_123 : decode cX15_entry 123 = .ok (.aload_n 0, 1) := by decide +kernel
theorem dX15_entry_124 : decode cX15_entry 124 = .ok (.getfield 31, 3) := by decide +kernel
theorem dX15_entry_127 : decode cX15_entry 127 = .ok (.iload 4, 2) := by decide +kernel
theorem dX15_entry_129 : decode cX15_entry 129 = .ok (.iconst 1, 1) := by decide +kernel
theorem dX15_entry_130 : decode cX15_entry 130 = .ok (.iadd, 1) := by decide +kernel
theorem dX15_entry_131 : decode cX15_entry 131 = .ok (.iload_n 3, 1) := by decide +kernel
theorem dX15_entry_132 : decode cX15_entry 132 = .ok (.invokestatic 182, 3) := by decide +kernel
theorem dX15_entry_135 : decode cX15_entry 135 = .ok (.ifCond .eq 19, 3) := by decide +kernel
theorem dX15_entry_138 : decode cX15_entry 138 = .ok (.iload_n 1, 1) := by decide +kernel
theorem dX15_entry_139 : decode cX15_entry 139 = .ok (.ifCond .ne 17, 3) := by decide +kernel
theorem dX15_entry_142 : decode cX15_entry 142 = .ok (.iload_n 3, 1) := by decide +kernel
theorem dX15_entry_143 : decode cX15_entry 143 = .ok (.iload 4, 2) := by decide +kernel
theorem dX15_entry_145 : decode cX15_entry 145 = .ok (.isub, 1) := by decide +kernel
theorem dX15_entry_146 : decode cX15_entry 146 = .ok (.iconst 1, 1) := by decide +kernel
theorem dX15_entry_147 : decode cX15_entry 147 = .ok (.isub, 1) := by decide +kernel
theorem dX15_entry_148 : decode cX15_entry 148 = .ok (.sipush 700, 3) := by decide +kernel
theorem dX15_entry_151 : decode cX15_entry 151 = .ok (.if_icmp .le 5, 3) := by decide +kernel
theorem dX15_entry_154 : decode cX15_entry 154 = .ok (.iconst (-1), 1) := by decide +kernel
theorem dX15_entry_155 : decode cX15_entry 155 = .ok (.ireturn, 1) := by decide +kernel
theorem dX15_entry_156 : decode cX15_entry 156 = .ok (.aload_n 0, 1) := by decide +kernel
theorem dX15_entry_157 : decode cX15_entry 157 = .ok (.getfield 38, 3) := by decide +kernel
theorem dX15_entry_160 : decode cX15_entry 160 = .ok (.aload_n 0, 1) := by decide +kernel
theorem dX15_entry_161 : decode cX15_entry 161 = .ok (.getfield 177, 3) := by decide +kernel
theorem dX15_entry_164 : decode cX15_entry 164 = .ok (.iload_n 1, 1) := by decide +kernel
theorem dX15_entry_165 : decode cX15_entry 165 = .ok (.iastore, 1) := by decide +kernel
theorem dX15_entry_166 : decode cX15_entry 166 = .ok (.aload_n 0, 1) := by decide +kernel
theorem dX15_entry_167 : decode cX15_entry 167 = .ok (.getfield 42, 3) := by decide +kernel
theorem dX15_entry_170 : decode cX15_entry 170 = .ok (.aload_n 0, 1) := by decide +kernel
theorem dX15_entry_171 : decode cX15_entry 171 = .ok (.getfield 177, 3) := by decide +kernel
theorem dX15_entry_174 : decode cX15_entry 174 = .ok (.iload_n 2, 1) := by decide +kernel
theorem dX15_entry_175 : decode cX15_entry 175 = .ok (.iastore, 1) := by decide +kernel
theorem dX15_entry_176 : decode cX15_entry 176 = .ok (.aload_n 0, 1) := by decide +kernel
theorem dX15_entry_177 : decode cX15_entry 177 = .ok (.getfield 47, 3) := by decide +kernel
theorem dX15_entry_180 : decode cX15_entry 180 = .ok (.aload_n 0, 1) := by decide +kernel
theorem dX15_entry_181 : decode cX15_entry 181 = .ok (.getfield 177, 3) := by decide +kernel
theorem dX15_entry_184 : decode cX15_entry 184 = .ok (.aaload, 1) := by decide +kernel
theorem dX15_entry_185 : decode cX15_entry 185 = .ok (.aload_n 0, 1) := by decide +kernel
theorem dX15_entry_186 : decode cX15_entry 186 = .ok (.getfield 31, 3) := by decide +kernel
theorem dX15_entry_189 : decode cX15_entry 189 = .ok (.iconst 0, 1) := by decide +kernel
theorem dX15_entry_190 : decode cX15_entry 190 = .ok (.iload 6, 2) := by decide +kernel
theorem dX15_entry_192 : decode cX15_entry 192 = .ok (.invokevirtual 186, 3) := by decide +kernel
theorem dX15_entry_195 : decode cX15_entry 195 = .ok (.aload_n 0, 1) := by decide +kernel
theorem dX15_entry_196 : decode cX15_entry 196 = .ok (.getfield 51, 3) := by decide +kernel
theorem dX15_entry_199 : decode cX15_entry 199 = .ok (.aload_n 0, 1) := by decide +kernel
theorem dX15_entry_200 : decode cX15_entry 200 = .ok (.getfield 177, 3) := by decide +kernel
theorem dX15_entry_203 : decode cX15_entry 203 = .ok (.aaload, 1) := by decide +kernel
theorem dX15_entry_204 : decode cX15_entry 204 = .ok (.iconst 0, 1) := by decide +kernel
theorem dX15_entry_205 : decode cX15_entry 205 = .ok (.putfield 190, 3) := by decide +kernel
theorem dX15_entry_208 : decode cX15_entry 208 = .ok (.iload 5, 2) := by decide +kernel
theorem dX15_entry_210 : decode cX15_entry 210 = .ok (.ifCond .eq 24, 3) := by decide +kernel
theorem dX15_entry_213 : decode cX15_entry 213 = .ok (.aload_n 0, 1) := by decide +kernel
theorem dX15_entry_214 : decode cX15_entry 214 = .ok (.getfield 51, 3) := by decide +kernel
theorem dX15_entry_217 : decode cX15_entry 217 = .ok (.aload_n 0, 1) := by decide +kernel
theorem dX15_entry_218 : decode cX15_entry 218 = .ok (.getfield 177, 3) := by decide +kernel
theorem dX15_entry_221 : decode cX15_entry 221 = .ok (.aaload, 1) := by decide +kernel
theorem dX15_entry_222 : decode cX15_entry 222 = .ok (.aload_n 0, 1) := by decide +kernel
theorem dX15_entry_223 : decode cX15_entry 223 = .ok (.getfield 31, 3) := by decide +kernel
theorem dX15_entry_226 : decode cX15_entry 226 = .ok (.iload 4, 2) := by decide +kernel
theorem dX15_entry_228 : decode cX15_entry 228 = .ok (.iconst 1, 1) := by decide +kernel
theorem dX15_entry_229 : decode cX15_entry 229 = .ok (.iadd, 1) := by decide +kernel
theorem dX15_entry_230 : decode cX15_entry 230 = .ok (.iload_n 3, 1) := by decide +kernel
theorem dX15_entry_231 : decode cX15_entry 231 = .ok (.invokevirtual 186, 3) := by decide +kernel
theorem dX15_entry_234 : decode cX15_entry 234 = .ok (.aload_n 0, 1) := by decide +kernel
theorem dX15_entry_235 : decode cX15_entry 235 = .ok (.dup, 1) := by decide +kernel
theorem dX15_entry_236 : decode cX15_entry 236 = .ok (.getfield 177, 3) := by decide +kernel
theorem dX15_entry_239 : decode cX15_entry 239 = .ok (.iconst 1, 1) := by decide +kernel
theorem dX15_entry_240 : decode cX15_entry 240 = .ok (.iadd, 1) := by decide +kernel
theorem dX15_entry_241 : decode cX15_entry 241 = .ok (.putfield 177, 3) := by decide +kernel
theorem dX15_entry_244 : decode cX15_entry 244 = .ok (.aload_n 0, 1) := by decide +kernel
theorem dX15_entry_245 : decode cX15_entry 245 = .ok (.getfield 177, 3) := by decide +kernel
theorem dX15_entry_248 : decode cX15_entry 248 = .ok (.ireturn, 1) := by decide +kernel
theorem dX15_forget_0 : decode cX15_forget 0 = .ok (.aload_n 0, 1) := by decide +kernel
theorem dX15_forget_1 : decode cX15_forget 1 = .ok (.getfield 177, 3) := by decide +kernel
theorem dX15_forget_4 : decode cX15_forget 4 = .ok (.istore_n 1, 1) := by decide +kernel
theorem dX15_forget_5 : decode cX15_forget 5 = .ok (.aload_n 0, 1) := by decide +kernel
theorem dX15_forget_6 : decode cX15_forget 6 = .ok (.iconst 0, 1) := by decide +kernel
theorem dX15_forget_7 : decode cX15_forget 7 = .ok (.putfield 177, 3) := by decide +kernel
theorem dX15_forget_10 : decode cX15_forget 10 = .ok (.iload_n 1, 1) := by decide +kernel
theorem dX15_forget_11 : decode cX15_forget 11 = .ok (.ireturn, 1) := by decide +kernel
theorem dX15_house_0 : decode cX15_house 0 = .ok (.aload_n 0, 1) := by decide +kernel
theorem dX15_house_1 : decode cX15_house 1 = .ok (.invokevirtual 174, 3) := by decide +kernel
theorem dX15_house_4 : decode cX15_house 4 = .ok (.istore_n 1, 1) := by decide +kernel
theorem dX15_house_5 : decode cX15_house 5 = .ok (.aload_n 0, 1) := by decide +kernel
theorem dX15_house_6 : decode cX15_house 6 = .ok (.getfield 31, 3) := by decide +kernel
theorem dX15_house_9 : decode cX15_house 9 = .ok (.iconst 0, 1) := by decide +kernel
theorem dX15_house_10 : decode cX15_house 10 = .ok (.iload_n 1, 1) := by decide +kernel
theorem dX15_house_11 : decode cX15_house 11 = .ok (.invokestatic 182, 3) := by decide +kernel
theorem dX15_house_14 : decode cX15_house 14 = .ok (.ifCond .ne 5, 3) := by decide +kernel
theorem dX15_house_17 : decode cX15_house 17 = .ok (.iconst (-1), 1) := by decide +kernel
theorem dX15_house_18 : decode cX15_house 18 = .ok (.ireturn, 1) := by decide +kernel
theorem dX15_house_19 : decode cX15_house 19 = .ok (.aload_n 0, 1) := by decide +kernel
theorem dX15_house_20 : decode cX15_house 20 = .ok (.getfield 157, 3) := by decide +kernel
theorem dX15_house_23 : decode cX15_house 23 = .ok (.aload_n 0, 1) := by decide +kernel
theorem dX15_house_24 : decode cX15_house 24 = .ok (.getfield 31, 3) := by decide +kernel
theorem dX15_house_27 : decode cX15_house 27 = .ok (.iconst 0, 1) := by decide +kernel
theorem dX15_house_28 : decode cX15_house 28 = .ok (.iload_n 1, 1) := by decide +kernel
theorem dX15_house_29 : decode cX15_house 29 = .ok (.invokevirtual 186, 3) := by decide +kernel
theorem dX15_house_32 : decode cX15_house 32 = .ok (.aload_n 0, 1) := by decide +kernel
theorem dX15_house_33 : decode cX15_house 33 = .ok (.aload_n 0, 1) := by decide +kernel
theorem dX15_house_34 : decode cX15_house 34 = .ok (.getfield 157, 3) := by decide +kernel
theorem dX15_house_37 : decode cX15_house 37 = .ok (.aload_n 0, 1) := by decide +kernel
theorem dX15_house_38 : decode cX15_house 38 = .ok (.getfield 160, 3) := by decide +kernel
theorem dX15_house_41 : decode cX15_house 41 = .ok (.invokevirtual 565, 3) := by decide +kernel
theorem dX15_house_44 : decode cX15_house 44 = .ok (.aload_n 0, 1) := by decide +kernel
theorem dX15_house_45 : decode cX15_house 45 = .ok (.aload_n 0, 1) := by decide +kernel
theorem dX15_house_46 : decode cX15_house 46 = .ok (.getfield 160, 3) := by decide +kernel
theorem dX15_house_49 : decode cX15_house 49 = .ok (.invokevirtual 392, 3) := by decide +kernel
theorem dX15_house_52 : decode cX15_house 52 = .ok (.ireturn, 1) := by decide +kernel
theorem dX15_octet_0 : decode cX15_octet 0 = .ok (.iload_n 1, 1) := by decide +kernel
theorem dX15_octet_1 : decode cX15_octet 1 = .ok (.i2l, 1) := by decide +kernel
theorem dX15_octet_2 : decode cX15_octet 2 = .ok (.ldc2_w 603, 3) := by decide +kernel
theorem dX15_octet_5 : decode cX15_octet 5 = .ok (.aload_n 0, 1) := by decide +kernel
theorem dX15_octet_6 : decode cX15_octet 6 = .ok (.getfield 385, 3) := by decide +kernel
theorem dX15_octet_9 : decode cX15_octet 9 = .ok (.iconst 1, 1) := by decide +kernel
theorem dX15_octet_10 : decode cX15_octet 10 = .ok (.isub, 1) := by decide +kernel
theorem dX15_octet_11 : decode cX15_octet 11 = .ok (.i2l, 1) := by decide +kernel
theorem dX15_octet_12 : decode cX15_octet 12 = .ok (.invokestatic 170, 3) := by decide +kernel
theorem dX15_octet_15 : decode cX15_octet 15 = .ok (.ifCond .ne 6, 3) := by decide +kernel
theorem dX15_octet_18 : decode cX15_octet 18 = .ok (.bipush (-2), 2) := by decide +kernel
theorem dX15_octet_20 : decode cX15_octet 20 = .ok (.ireturn, 1) := by decide +kernel
theorem dX15_octet_21 : decode cX15_octet 21 = .ok (.iload_n 1, 1) := by decide +kernel
theorem dX15_octet_22 : decode cX15_octet 22 = .ok (.ifCond .ge 10, 3) := by decide +kernel
theorem dX15_octet_25 : decode cX15_octet 25 = .ok (.aload_n 0, 1) := by decide +kernel
theorem dX15_octet_26 : decode cX15_octet 26 = .ok (.getfield 385, 3) := by decide +kernel
theorem dX15_octet_29 : decode cX15_octet 29 = .ok (.goto 13, 3) := by decide +kernel
theorem dX15_octet_32 : decode cX15_octet 32 = .ok (.aload_n 0, 1) := by decide +kernel
theorem dX15_octet_33 : decode cX15_octet 33 = .ok (.getfield 35, 3) := by decide +kernel
theorem dX15_octet_36 : decode cX15_octet 36 = .ok (.iload_n 1, 1) := by decide +kernel
theorem dX15_octet_37 : decode cX15_octet 37 = .ok (.baload, 1) := by decide +kernel
theorem dX15_octet_38 : decode cX15_octet 38 = .ok (.sipush 255, 3) := by decide +kernel
theorem dX15_octet_41 : decode cX15_octet 41 = .ok (.iand, 1) := by decide +kernel
theorem dX15_octet_42 : decode cX15_octet 42 = .ok (.ireturn, 1) := by decide +kernel
theorem dX15_sender_0 : decode cX15_sender 0 = .ok (.aload_n 0, 1) := by decide +kernel
theorem dX15_sender_1 : decode cX15_sender 1 = .ok (.invokevirtual 174, 3) := by decide +kernel
theorem dX15_sender_4 : decode cX15_sender 4 = .ok (.istore_n 2, 1) := by decide +kernel
theorem dX15_sender_5 : decode cX15_sender 5 = .ok (.iconst 0, 1) := by decide +kernel
theorem dX15_sender_6 : decode cX15_sender 6 = .ok (.istore_n 3, 1) := by decide +kernel
theorem dX15_sender_7 : decode cX15_sender 7 = .ok (.iload_n 3, 1) := by decide +kernel
theorem dX15_sender_8 : decode cX15_sender 8 = .ok (.iload_n 2, 1) := by decide +kernel
theorem dX15_sender_9 : decode cX15_sender 9 = .ok (.if_icmp .ge 20, 3) := by decide +kernel
theorem dX15_sender_12 : decode cX15_sender 12 = .ok (.aload_n 0, 1) := by decide +kernel
theorem dX15_sender_13 : decode cX15_sender 13 = .ok (.getfield 31, 3) := by decide +kernel
theorem dX15_sender_16 : decode cX15_sender 16 = .ok (.iload_n 3, 1) := by decide +kernel
theorem dX15_sender_17 : decode cX15_sender 17 = .ok (.baload, 1) := by decide +kernel
theorem dX15_sender_18 : decode cX15_sender 18 = .ok (.bipush 64, 2) := by decide +kernel
theorem dX15_sender_20 : decode cX15_sender 20 = .ok (.if_icmp .eq 9, 3) := by decide +kernel
theorem dX15_sender_23 : decode cX15_sender 23 = .ok (.iinc 3 1, 3) := by decide +kernel
theorem dX15_sender_26 : decode cX15_sender 26 = .ok (.goto (-19), 3) := by decide +kernel
theorem dX15_sender_29 : decode cX15_sender 29 = .ok (.iload_n 3, 1) := by decide +kernel
theorem dX15_sender_30 : decode cX15_sender 30 = .ok (.iload_n 2, 1) := by decide +kernel
theorem dX15_sender_31 : decode cX15_sender 31 = .ok (.if_icmp .eq 29, 3) := by decide +kernel
theorem dX15_sender_34 : decode cX15_sender 34 = .ok (.iload_n 3, 1) := by decide +kernel
theorem dX15_sender_35 : decode cX15_sender 35 = .ok (.i2l, 1) := by decide +kernel
theorem dX15_sender_36 : decode cX15_sender 36 = .ok (.lconst 1, 1) := by decide +kernel
theorem dX15_sender_37 : decode cX15_sender 37 = .ok (.ldc2_w 200, 3) := by decide +kernel
theorem dX15_sender_40 : decode cX15_sender 40 = .ok (.invokestatic 170, 3) := by decide +kernel
theorem dX15_sender_43 : decode cX15_sender 43 = .ok (.ifCond .eq 17, 3) := by decide +kernel
theorem dX15_sender_46 : decode cX15_sender 46 = .ok (.aload_n 0, 1) := by decide +kernel
theorem dX15_sender_47 : decode cX15_sender 47 = .ok (.getfield 31, 3) := by decide +kernel
theorem dX15_sender_50 : decode cX15_sender 50 = .ok (.iload_n 3, 1) := by decide +kernel
theorem dX15_sender_51 : decode cX15_sender 51 = .ok (.iconst 1, 1) := by decide +kernel
theorem dX15_sender_52 : decode cX15_sender 52 = .ok (.iadd, 1) := by decide +kernel
theorem dX15_sender_53 : decode cX15_sender 53 = .ok (.iload_n 2, 1) := by decide +kernel
theorem dX15_sender_54 : decode cX15_sender 54 = .ok (.invokestatic 182, 3) := by decide +kernel
theorem dX15_sender_57 : decode cX15_sender 57 = .ok (.ifCond .ne 5, 3) := by decide +kernel
theorem dX15_sender_60 : decode cX15_sender 60 = .ok (.iconst (-1), 1) := by decide +kernel
theorem dX15_sender_61 : decode cX15_sender 61 = .ok (.ireturn, 1) := by decide +kernel
theorem dX15_sender_62 : decode cX15_sender 62 = .ok (.iconst 0, 1) := by decide +kernel
theorem dX15_sender_63 : decode cX15_sender 63 = .ok (.istore 4, 2) := by decide +kernel
theorem dX15_sender_65 : decode cX15_sender 65 = .ok (.iload 4, 2) := by decide +kernel
theorem dX15_sender_67 : decode cX15_sender 67 = .ok (.iload_n 3, 1) := by decide +kernel
theorem dX15_sender_68 : decode cX15_sender 68 = .ok (.if_icmp .ge 64, 3) := by decide +kernel
theorem dX15_sender_71 : decode cX15_sender 71 = .ok (.aload_n 0, 1) := by decide +kernel
theorem dX15_sender_72 : decode cX15_sender 72 = .ok (.getfield 31, 3) := by decide +kernel
theorem dX15_sender_75 : decode cX15_sender 75 = .ok (.iload 4, 2) := by decide +kernel
theorem dX15_sender_77 : decode cX15_sender 77 = .ok (.baload, 1) := by decide +kernel
theorem dX15_sender_78 : decode cX15_sender 78 = .ok (.istore 5, 2) := by decide +kernel
theorem dX15_sender_80 : decode cX15_sender 80 = .ok (.iload 5, 2) := by decide +kernel
theorem dX15_sender_82 : decode cX15_sender 82 = .ok (.invokestatic 3, 3) := by decide +kernel
theorem dX15_sender_85 : decode cX15_sender 85 = .ok (.ifCond .ne 41, 3) := by decide +kernel
theorem dX15_sender_88 : decode cX15_sender 88 = .ok (.iload 5, 2) := by decide +kernel
theorem dX15_sender_90 : decode cX15_sender 90 = .ok (.invokestatic 202, 3) := by decide +kernel
theorem dX15_sender_93 : decode cX15_sender 93 = .ok (.ifCond .ne 33, 3) := by decide +kernel
theorem dX15_sender_96 : decode cX15_sender 96 = .ok (.iload 5, 2) := by decide +kernel
theorem dX15_sender_98 : decode cX15_sender 98 = .ok (.bipush 46, 2) := by decide +kernel
theorem dX15_sender_100 : decode cX15_sender 100 = .ok (.if_icmp .eq 26, 3) := by decide +kernel
theorem dX15_sender_103 : decode cX15_sender 103 = .ok (.iload 5, 2) := by decide +kernel
theorem dX15_sender_105 : decode cX15_sender 105 = .ok (.bipush 45, 2) := by decide +kernel
theorem dX15_sender_107 : decode cX15_sender 107 = .ok (.if_icmp .eq 19, 3) := by decide +kernel
theorem dX15_sender_110 : decode cX15_sender 110 = .ok (.iload 5, 2) := by decide +kernel
theorem dX15_sender_112 : decode cX15_sender 112 = .ok (.bipush 95, 2) := by decide +kernel
theorem dX15_sender_114 : decode cX15_sender 114 = .ok (.if_icmp .eq 12, 3) := by decide +kernel
theorem dX15_sender_117 : decode cX15_sender 117 = .ok (.iload 5, 2) := by decide +kernel
theorem dX15_sender_119 : decode cX15_sender 119 = .ok (.bipush 43, 2) := by decide +kernel
theorem dX15_sender_121 : decode cX15_sender 121 = .ok (.if_icmp .eq 5, 3) := by decide +kernel
theorem dX15_sender_124 : decode cX15_sender 124 = .ok (.iconst (-1), 1) := by decide +kernel
theorem dX15_sender_125 : decode cX15_sender 125 = .ok (.ireturn, 1) := by decide +kernel
theorem dX15_sender_126 : decode cX15_sender 126 = .ok (.iinc 4 1, 3) := by decide +kernel
theorem dX15_sender_129 : decode cX15_sender 129 = .ok (.goto (-64), 3) := by decide +kernel
theorem dX15_sender_132 : decode cX15_sender 132 = .ok (.aload_n 0, 1) := by decide +kernel
theorem dX15_sender_133 : decode cX15_sender 133 = .ok (.getfield 57, 3) := by decide +kernel
theorem dX15_sender_136 : decode cX15_sender 136 = .ok (.aload_n 0, 1) := by decide +kernel
theorem dX15_sender_137 : decode cX15_sender 137 = .ok (.getfield 31, 3) := by decide +kernel
theorem dX15_sender_140 : decode cX15_sender 140 = .ok (.iconst 0, 1) := by decide +kernel
theorem dX15_sender_141 : decode cX15_sender 141 = .ok (.iload_n 3, 1) := by decide +kernel
theorem dX15_sender_142 : decode cX15_sender 142 = .ok (.invokevirtual 186, 3) := by decide +kernel
theorem dX15_sender_145 : decode cX15_sender 145 = .ok (.aload_n 0, 1) := by decide +kernel
theorem dX15_sender_146 : decode cX15_sender 146 = .ok (.getfield 61, 3) := by decide +kernel
theorem dX15_sender_149 : decode cX15_sender 149 = .ok (.aload_n 0, 1) := by decide +kernel
theorem dX15_sender_150 : decode cX15_sender 150 = .ok (.getfield 31, 3) := by decide +kernel
theorem dX15_sender_153 : decode cX15_sender 153 = .ok (.iload_n 3, 1) := by decide +kernel
theorem dX15_sender_154 : decode cX15_sender 154 = .ok (.iconst 1, 1) := by decide +kernel
theorem dX15_sender_155 : decode cX15_sender 155 = .ok (.iadd, 1) := by decide +kernel
theorem dX15_sender_156 : decode cX15_sender 156 = .ok (.iload_n 2, 1) := by decide +kernel
theorem dX15_sender_157 : decode cX15_sender 157 = .ok (.invokevirtual 186, 3) := by decide +kernel
theorem dX15_sender_160 : decode cX15_sender 160 = .ok (.aload_n 0, 1) := by decide +kernel
theorem dX15_sender_161 : decode cX15_sender 161 = .ok (.iload_n 1, 1) := by decide +kernel
theorem dX15_sender_162 : decode cX15_sender 162 = .ok (.putfield 205, 3) := by decide +kernel
theorem dX15_sender_165 : decode cX15_sender 165 = .ok (.aload_n 0, 1) := by decide +kernel
theorem dX15_sender_166 : decode cX15_sender 166 = .ok (.iconst 1, 1) := by decide +kernel
theorem dX15_sender_167 : decode cX15_sender 167 = .ok (.putfield 208, 3) := by decide +kernel
theorem dX15_sender_170 : decode cX15_sender 170 = .ok (.iconst 0, 1) := by decide +kernel
theorem dX15_sender_171 : decode cX15_sender 171 = .ok (.ireturn, 1) := by decide +kernel
theorem dX15_used_0 : decode cX15_used 0 = .ok (.aload_n 0, 1) := by decide +kernel
theorem dX15_used_1 : decode cX15_used 1 = .ok (.getfield 166, 3) := by decide +kernel
theorem dX15_used_4 : decode cX15_used 4 = .ok (.istore_n 1, 1) := by decide +kernel
theorem dX15_used_5 : decode cX15_used 5 = .ok (.aload_n 0, 1) := by decide +kernel
theorem dX15_used_6 : decode cX15_used 6 = .ok (.iconst 0, 1) := by decide +kernel
theorem dX15_used_7 : decode cX15_used 7 = .ok (.putfield 166, 3) := by decide +kernel
theorem dX15_used_10 : decode cX15_used 10 = .ok (.iload_n 1, 1) := by decide +kernel
theorem dX15_used_11 : decode cX15_used 11 = .ok (.ireturn, 1) := by decide +kernel
theorem kt_1070 : Cond.fieldLink RX15 166 "PostGateModel" "tapeMany" "I" ∈ tb := tb_at (i := 1290) (by decide +kernel) (by decide +kernel)
theorem kt_1071 : Cond.code yX15_used cX15_used 2 (some .int) ∈ tb := tb_at (i := 1485) (by decide +kernel) (by decide +kernel)
theorem kt_1072 : Cond.methodLink RX15 174 yX15_used ∈ tb := tb_at (i := 1482) (by decide +kernel) (by decide +kernel)
theorem kt_1073 : Cond.instanceMethod yX15_used ∈ tb := tb_at (i := 1484) (by decide +kernel) (by decide +kernel)
theorem kt_1074 : Cond.selects RX15 yX15_used yX15_used ∈ tb := tb_at (i := 42) (by decide +kernel) (by decide +kernel)
theorem kt_1075 : Cond.fieldLink RX15 31 "PostGateModel" "tape" "[B" ∈ tb := tb_at (i := 1289) (by decide +kernel) (by decide +kernel)
theorem kt_1076 : Cond.constantLong RX15 603 (-1) ∈ tb := tb_at (i := 1898) (by decide +kernel) (by decide +kernel)
theorem kt_1077 : Cond.constantLong RX15 200 30 ∈ tb := tb_at (i := 1515) (by decide +kernel) (by decide +kernel)
theorem kt_1078 : Cond.constantLong RX15 180 4 ∈ tb := tb_at (i := 1486) (by decide +kernel) (by decide +kernel)
theorem rtf_id {ty : TyM} {h : Nat} {e : TyE} (hT : ty h = e) : rtf ty h e = ty := by
  funext a
  by_cases c : a = h
  · subst c
    rw [rtf_self, hT]
  · exact rtf_ne c
theorem in_0z {x : Int32} {zt : Nat} {r : Int32} (hr : r = (if (0 : Int64) ≤ x.toInt64 ∧ x.toInt64 ≤ (nI zt).toInt64 then 1 else 0)) (hz : zt ≤ 10000) : (r = 0 ∧ ¬ (¬ x < 0 ∧ ¬ nI zt < x)) ∨ (r = 1 ∧ (¬ x < 0 ∧ ¬ nI zt < x)) := by
  have e1 : ((0 : Int64) ≤ x.toInt64 ∧ x.toInt64 ≤ (nI zt).toInt64) ↔ (¬ x < 0 ∧ ¬ nI zt < x) := by
    rw [show (0 : Int64) = (0 : Int32).toInt64 from by decide, l64, l64, Int32.not_lt, Int32.not_lt]
  by_cases c : (¬ x < 0 ∧ ¬ nI zt < x)
  · rw [if_pos (e1.mpr c)] at hr
    exact Or.inr ⟨hr, c⟩
  · rw [if_neg (fun h => c (e1.mp h))] at hr
    exact Or.inl ⟨hr, c⟩
set_option maxHeartbeats 4000000 in
set_option maxRecDepth 100000 in
theorem s_X15_used (l : Launch) (dC : Nat → ClassId) (dI : Nat → Nat → Nat) (cs : Nat → ClassId) (ty : TyM) (gm : Nat → Nat → Nat) (L : List Nat) (sz : Nat) (F : Nat → va_E) (h0 : Nat) (ρ : Nat) (ta : Nat) (ou : Nat) (so : Nat) (ad : Nat) (na : Nat) (va : Nat) (lc : Nat) (dm : Nat) (tg : Nat) (pe : Nat) (ml : Nat) (bg : Nat) (co : Nat) (sp : Nat) (nb0 : Nat) (nb1 : Nat) (nb2 : Nat) (pl : Nat) (se : Nat) (ke : Nat) (wi : Nat) (hs : Nat) (mo : Nat) (po : Nat) (nu : Nat) (pr : Nat) (sq : Nat) (xa : Nat) (sa : Nat) (n64 : Nat) (m64 : Nat) (ex : Nat) (wh : Nat) (sd : Nat) (tk : Nat) (hd : Nat) (ak : Nat) (ho : Nat) (ot : Nat) (sx : Nat) (s0 : Nat) (s1 : Nat) (s2 : Nat) (nf : Nat) (bd : Nat) (mm : Nat) (zt : Nat) (zo : Nat) (ze : Nat) (v11 : Int32) (v12 : Int32) (v14 : Int32) (v15 : Int32) (v17 : Int32) (v18 : Int32) (v19 : Int32) (v20 : Int32) (v21 : Int32) (v22 : Int32) (v33 : Int32) (v52 : Int32) (v53 : Int32) (v54 : Int32) (hW : WTm ty gm L) (hL_h0 : h0 ∈ L) (hT_h0 : ty h0 = (15, ρ, [ta, ou, so, ad, na, va, lc, dm, tg, pe, ml, bg, co, sp, nb0, nb1, nb2, pl, se, ke, wi, hs, mo, po, nu, pr, sq, xa, sa, n64, m64, ex, wh, sd, tk, hd, ak, ho, ot, sx, s0, s1, s2, nf, bd, mm, zt])) (hF0 : F h0 = .inr (15, (.ref ta) :: (.int (nI zt)) :: (.int (nI zo)) :: (.int (nI ze)) :: (.ref ou) :: (.ref so) :: (.ref ad) :: (.ref na) :: (.ref va) :: (.ref lc) :: (.ref dm) :: (.int v11) :: (.int v12) :: (.ref tg) :: (.int v14) :: (.int v15) :: (.ref pe) :: (.int v17) :: (.int v18) :: (.int v19) :: (.int v20) :: (.int v21) :: (.int v22) :: (.ref ml) :: (.ref bg) :: (.ref co) :: (.ref sp) :: (.ref nb0) :: (.ref nb1) :: (.ref nb2) :: (.int (nI nf)) :: (.int (nI bd)) :: (.int (nI mm)) :: (.int v33) :: (.ref pl) :: (.ref se) :: (.ref ke) :: (.ref wi) :: (.ref hs) :: (.ref mo) :: (.ref po) :: (.ref nu) :: (.ref pr) :: (.ref sq) :: (.ref xa) :: (.ref sa) :: (.ref n64) :: (.ref m64) :: (.ref ex) :: (.ref wh) :: (.ref sd) :: (.ref tk) :: (.int v52) :: (.int v53) :: (.int v54) :: (.ref hd) :: (.ref ak) :: (.ref ho) :: (.ref ot) :: [])) (hzo : zo ≤ 6000) (hze : ze ≤ 40) (h33 : (v33 = 0 ∨ 1 ≤ nf)) (h54 : (v54 = 0 ∨ v54 = 1)) : Met l yX15_used (.code yX15_used cX15_used 2 (some .int) :: tb) ({ frames := 0, cells := 0, slots := 0, locals := 0 }) (va_Pc [.ref h0] (PTm (dC, dI) cs ty gm L F sz)) (va_Qi (fun (r : Int32) (_ : Unit) => r = nI zt) (fun _ T9 => ∃ F2 : Nat → va_E, ∃ ty2 : TyM, ty2 = rtf ty h0 (15, ρ, [ta, ou, so, ad, na, va, lc, dm, tg, pe, ml, bg, co, sp, nb0, nb1, nb2, pl, se, ke, wi, hs, mo, po, nu, pr, sq, xa, sa, n64, m64, ex, wh, sd, tk, hd, ak, ho, ot, sx, s0, s1, s2, nf, bd, mm, 0]) ∧ QTm (dC, dI) cs ty2 gm L [ρ] F F2 (va_A (va_pl L F) sz) T9 ∧ WTm ty2 gm L ∧ F2 h0 = .inr (15, (.ref ta) :: (.int 0) :: (.int (nI zo)) :: (.int (nI ze)) :: (.ref ou) :: (.ref so) :: (.ref ad) :: (.ref na) :: (.ref va) :: (.ref lc) :: (.ref dm) :: (.int v11) :: (.int v12) :: (.ref tg) :: (.int v14) :: (.int v15) :: (.ref pe) :: (.int v17) :: (.int v18) :: (.int v19) :: (.int v20) :: (.int v21) :: (.int v22) :: (.ref ml) :: (.ref bg) :: (.ref co) :: (.ref sp) :: (.ref nb0) :: (.ref nb1) :: (.ref nb2) :: (.int (nI nf)) :: (.int (nI bd)) :: (.int (nI mm)) :: (.int v33) :: (.ref pl) :: (.ref se) :: (.ref ke) :: (.ref wi) :: (.ref hs) :: (.ref mo) :: (.ref po) :: (.ref nu) :: (.ref pr) :: (.ref sq) :: (.ref xa) :: (.ref sa) :: (.ref n64) :: (.ref m64) :: (.ref ex) :: (.ref wh) :: (.ref sd) :: (.ref tk) :: (.int v52) :: (.int v53) :: (.int v54) :: (.ref hd) :: (.ref ak) :: (.ref ho) :: (.ref ot) :: [])) (va_A (va_pl L F) sz)) 0 0 (va_A (va_pl L F) sz) := by
  refine Met.ofW (cc := cX15_used) (maxL := 2) (ret := (some .int)) (by decide) rfl ?_
  intro p e s m args below meth c s₁ B hml hv
  obtain ⟨rfl, hsz, hP, hK, hD0, hE, hO⟩ := hv
  have hx := B.exec
  have hb := B.bytes
  have hr := B.returns
  have hts : ∀ w ∈ tb, w.before _ s = true := fun w h => atoms_spec (ws := .code yX15_used cX15_used 2 (some .int) :: tb) B.pre w (List.mem_cons_of_mem _ h)
  have hown : s.vm.findClass RX15 = some m.cls := findClass_of_methodNamed B.named
  have hlocks := B.notSynchronized
  subst hsz
  have hD := hD0.self (sz := s.heap.size)
  generalize hAe : va_A (va_pl L F) s.heap.size = A at hD ⊢
  have hA : ∀ q : Nat, s.heap.size ≤ q → A q := fun q h => by rw [← hAe]; exact Or.inr h
  have hS : va_S A s.heap s.heap [] := va_S.rf
  have hR : FR ty [ρ] F F := FR.refl
  have hl := lv_entry ([.ref h0]) (n := 2) (Nat.le_of_ble_eq_true rfl)
  rw [lg_entry_eq]
  generalize (lg_sl ([.ref h0]) ++ List.replicate (2 - (lg_sl ([.ref h0])).length) Slot.unset).toArray = ls at hl ⊢
  have hl : lv_has ls 2 [(0, .ref h0)] := hl
  obtain ⟨hi_1, ht_2, hi_3, ht_4, hi_5, ht_6, hi_7, ht_8, hi_9, ht_10, hi_11, ht_12, hi_13, ⟨r_14, ht_15⟩, hi_16, ⟨r_17, ht_18⟩, hi_19, ht_20, hi_21, ⟨r_22, ht_23⟩, hi_24, ht_25, hi_26, ht_27, hi_28, ht_29, hi_30, ht_31, hi_32, ht_33, hi_34, ht_35, hi_36, ht_37, hi_38, ⟨r_39, ht_40⟩, hi_41, ht_42, hi_43, ⟨x_44, y0_45, y1_46, y2_47, ht_48⟩, hi_49, ⟨x_50, y0_51, y1_52, y2_53, ht_54⟩, hi_55, ⟨x_56, y_57, w_58, u_59, bl_60, ht_61⟩, hi_62, ht_63, hi_64, ht_65, hi_66, ht_67, hi_68, ht_69, hi_70, ht_71, hi_72, ht_73, hi_74, ht_75, hi_76, ht_77, hi_78, ht_79, hi_80, ht_81, hi_82, ⟨r_83, ht_84⟩, hi_85, ⟨r_86, ht_87⟩, hi_88, ht_89, hi_90, ht_91, hi_92, ⟨r_93, ht_94⟩, hi_95, ⟨r_96, ht_97⟩, hi_98, ⟨r_99, ht_100⟩, hq_101, hq_102, hq_103, hq_104, hq_105, hgO, hgA, hgB⟩ := hW.mod hL_h0 hT_h0
  refine lv_aload_n hx hb dX15_used_0 rfl (lv_at hl 0 rfl) ?_
  refine pg_get (ci := 15) (v := .int (nI zt)) (C := RX15) (T := TX15) (N := 59) hx hb hts it_15 hown hK hP hL_h0 hF0 rfl 1 (by decide) (hts _ kt_1070) (fun _ h9 => h9) rfl dX15_used_1 ?_
  refine lv_istore_n (lv' := [(1, .int (nI zt)), (0, .ref h0)]) hx hb dX15_used_4 rfl hl (by decide) rfl (fun ls hl => ?_)
  refine lv_aload_n hx hb dX15_used_5 rfl (lv_at hl 1 rfl) ?_
  refine lv_iconst (v := 0) hx hb dX15_used_6 (by decide) ?_
  refine pg_put (ci := 15) (v := .int 0) (ty := .int) (C := RX15) (T := TX15) (N := 59) hx hb hts it_15 tyX15 tyX15_ok nmX15 hown hK hP hD hS hL_h0 hF0 rfl 1 (by decide) (hts _ kt_1070) (fun _ h9 => h9) rfl (by decide +kernel) (rfl) (rfl) (Nat.le_of_ble_eq_true rfl) dX15_used_7 (fun H locs hP hD hS => ?_)
  obtain ⟨F_106, he_107, hP, hD, hR⟩ : ∃ G, G = va_up F h0 (.inr (15, (.ref ta) :: (.int 0) :: (.int (nI zo)) :: (.int (nI ze)) :: (.ref ou) :: (.ref so) :: (.ref ad) :: (.ref na) :: (.ref va) :: (.ref lc) :: (.ref dm) :: (.int v11) :: (.int v12) :: (.ref tg) :: (.int v14) :: (.int v15) :: (.ref pe) :: (.int v17) :: (.int v18) :: (.int v19) :: (.int v20) :: (.int v21) :: (.int v22) :: (.ref ml) :: (.ref bg) :: (.ref co) :: (.ref sp) :: (.ref nb0) :: (.ref nb1) :: (.ref nb2) :: (.int (nI nf)) :: (.int (nI bd)) :: (.int (nI mm)) :: (.int v33) :: (.ref pl) :: (.ref se) :: (.ref ke) :: (.ref wi) :: (.ref hs) :: (.ref mo) :: (.ref po) :: (.ref nu) :: (.ref pr) :: (.ref sq) :: (.ref xa) :: (.ref sa) :: (.ref n64) :: (.ref m64) :: (.ref ex) :: (.ref wh) :: (.ref sd) :: (.ref tk) :: (.int v52) :: (.int v53) :: (.int v54) :: (.ref hd) :: (.ref ak) :: (.ref ho) :: (.ref ot) :: [])) ∧ va_P (dC, dI) vwCl (va_pl L G) H ∧ va_D A (va_pl L G) ∧ FR ty [ρ] F G := ⟨_, rfl, hP, hD, hR.up hT_h0 (by simp)⟩
  obtain ⟨ty, hty, hT_h0, hW, hO, hR⟩ : ∃ t9 : TyM, t9 = rtf ty h0 (15, ρ, [ta, ou, so, ad, na, va, lc, dm, tg, pe, ml, bg, co, sp, nb0, nb1, nb2, pl, se, ke, wi, hs, mo, po, nu, pr, sq, xa, sa, n64, m64, ex, wh, sd, tk, hd, ak, ho, ot, sx, s0, s1, s2, nf, bd, mm, 0]) ∧ t9 h0 = (15, ρ, [ta, ou, so, ad, na, va, lc, dm, tg, pe, ml, bg, co, sp, nb0, nb1, nb2, pl, se, ke, wi, hs, mo, po, nu, pr, sq, xa, sa, n64, m64, ex, wh, sd, tk, hd, ak, ho, ot, sx, s0, s1, s2, nf, bd, mm, 0]) ∧ WTm t9 gm L ∧ OKm cs t9 gm L F_106 ∧ FR t9 [ρ] F F_106 := ⟨_, rfl, rtf_self, hW.zt hL_h0 hT_h0 (by omega), (by rw [he_107]; exact OKm.retype hO hT_h0 (shm.mod rtf_self ⟨zo, ze, v11, v12, v14, v15, v17, v18, v19, v20, v21, v22, v33, v52, v53, v54, rfl, (by first | omega | assumption | exact Or.inl rfl | exact Or.inr rfl), (by first | omega | assumption | exact Or.inl rfl | exact Or.inr rfl), (by first | omega | assumption | exact Or.inl rfl | exact Or.inr rfl), (by first | omega | assumption | exact Or.inl rfl | exact Or.inr rfl)⟩)), FR.retype hT_h0 hR⟩
  have hF_108 : F_106 h0 = .inr (15, (.ref ta) :: (.int 0) :: (.int (nI zo)) :: (.int (nI ze)) :: (.ref ou) :: (.ref so) :: (.ref ad) :: (.ref na) :: (.ref va) :: (.ref lc) :: (.ref dm) :: (.int v11) :: (.int v12) :: (.ref tg) :: (.int v14) :: (.int v15) :: (.ref pe) :: (.int v17) :: (.int v18) :: (.int v19) :: (.int v20) :: (.int v21) :: (.int v22) :: (.ref ml) :: (.ref bg) :: (.ref co) :: (.ref sp) :: (.ref nb0) :: (.ref nb1) :: (.ref nb2) :: (.int (nI nf)) :: (.int (nI bd)) :: (.int (nI mm)) :: (.int v33) :: (.ref pl) :: (.ref se) :: (.ref ke) :: (.ref wi) :: (.ref hs) :: (.ref mo) :: (.ref po) :: (.ref nu) :: (.ref pr) :: (.ref sq) :: (.ref xa) :: (.ref sa) :: (.ref n64) :: (.ref m64) :: (.ref ex) :: (.ref wh) :: (.ref sd) :: (.ref tk) :: (.int v52) :: (.int v53) :: (.int v54) :: (.ref hd) :: (.ref ak) :: (.ref ho) :: (.ref ot) :: []) := by rw [he_107]; exact up_self
  obtain ⟨hi_109, ht_110, hi_111, ht_112, hi_113, ht_114, hi_115, ht_116, hi_117, ht_118, hi_119, ht_120, hi_121, ⟨r_122, ht_123⟩, hi_124, ⟨r_125, ht_126⟩, hi_127, ht_128, hi_129, ⟨r_130, ht_131⟩, hi_132, ht_133, hi_134, ht_135, hi_136, ht_137, hi_138, ht_139, hi_140, ht_141, hi_142, ht_143, hi_144, ht_145, hi_146, ⟨r_147, ht_148⟩, hi_149, ht_150, hi_151, ⟨x_152, y0_153, y1_154, y2_155, ht_156⟩, hi_157, ⟨x_158, y0_159, y1_160, y2_161, ht_162⟩, hi_163, ⟨x_164, y_165, w_166, u_167, bl_168, ht_169⟩, hi_170, ht_171, hi_172, ht_173, hi_174, ht_175, hi_176, ht_177, hi_178, ht_179, hi_180, ht_181, hi_182, ht_183, hi_184, ht_185, hi_186, ht_187, hi_188, ht_189, hi_190, ⟨r_191, ht_192⟩, hi_193, ⟨r_194, ht_195⟩, hi_196, ht_197, hi_198, ht_199, hi_200, ⟨r_201, ht_202⟩, hi_203, ⟨r_204, ht_205⟩, hi_206, ⟨r_207, ht_208⟩, hq_209, hq_210, hq_211, hq_212, hq_213, hgO, hgA, hgB⟩ := hW.mod hL_h0 hT_h0
  refine lv_iload_n hx hb dX15_used_10 rfl (lv_at hl 0 rfl) ?_
  refine W.widen (k := 0) (n := 0) (by omega) (by omega) ?_
  exact W.iret (v := (nI zt)) hx hb hr (fun t ht hWm => ⟨⟨(nI zt), (), rfl, rfl, ⟨F_106, ty, hty, QTm.mk ht hP hD hO hR, hW, hF_108⟩⟩, hS.F ht⟩) hS.2.2 dX15_used_11
set_option maxHeartbeats 4000000 in
set_option maxRecDepth 100000 in
theorem s_X15_end (l : Launch) (dC : Nat → ClassId) (dI : Nat → Nat → Nat) (cs : Nat → ClassId) (ty : TyM) (gm : Nat → Nat → Nat) (L : List Nat) (sz : Nat) (F : Nat → va_E) (h0 : Nat) (ρ : Nat) (ta : Nat) (ou : Nat) (so : Nat) (ad : Nat) (na : Nat) (va : Nat) (lc : Nat) (dm : Nat) (tg : Nat) (pe : Nat) (ml : Nat) (bg : Nat) (co : Nat) (sp : Nat) (nb0 : Nat) (nb1 : Nat) (nb2 : Nat) (pl : Nat) (se : Nat) (ke : Nat) (wi : Nat) (hs : Nat) (mo : Nat) (po : Nat) (nu : Nat) (pr : Nat) (sq : Nat) (xa : Nat) (sa : Nat) (n64 : Nat) (m64 : Nat) (ex : Nat) (wh : Nat) (sd : Nat) (tk : Nat) (hd : Nat) (ak : Nat) (ho : Nat) (ot : Nat) (sx : Nat) (s0 : Nat) (s1 : Nat) (s2 : Nat) (nf : Nat) (bd : Nat) (mm : Nat) (zt : Nat) (x1 : Int32) (hW : WTm ty gm L) (hL_h0 : h0 ∈ L) (hT_h0 : ty h0 = (15, ρ, [ta, ou, so, ad, na, va, lc, dm, tg, pe, ml, bg, co, sp, nb0, nb1, nb2, pl, se, ke, wi, hs, mo, po, nu, pr, sq, xa, sa, n64, m64, ex, wh, sd, tk, hd, ak, ho, ot, sx, s0, s1, s2, nf, bd, mm, zt])) : Met l yX15_end (.code yX15_end cX15_end 2 (some .int) :: tb) ({ frames := 1, cells := 0, slots := 0, locals := 25 }) (va_Pc [.ref h0, .int x1] (PTm (dC, dI) cs ty gm L F sz)) (va_Qi (fun (r : Int32) (_ : Unit) => r = (if ¬ x1 < 0 ∧ ¬ nI zt < x1 then x1 else (-1))) (fun _ T9 => ∃ F2 : Nat → va_E, ∃ ty2 : TyM, ty2 = rtf ty h0 (15, ρ, [ta, ou, so, ad, na, va, lc, dm, tg, pe, ml, bg, co, sp, nb0, nb1, nb2, pl, se, ke, wi, hs, mo, po, nu, pr, sq, xa, sa, n64, m64, ex, wh, sd, tk, hd, ak, ho, ot, sx, s0, s1, s2, nf, bd, mm, (if ¬ x1 < 0 ∧ ¬ nI zt < x1 then x1.toNatClampNeg else zt)]) ∧ QTm (dC, dI) cs ty2 gm L [ρ] F F2 (va_A (va_pl L F) sz) T9 ∧ WTm ty2 gm L) (va_A (va_pl L F) sz)) 0 0 (va_A (va_pl L F) sz) := by
  refine Met.ofW (cc := cX15_end) (maxL := 2) (ret := (some .int)) (by decide) rfl ?_
  intro p e s m args below meth c s₁ B hml hv
  obtain ⟨rfl, hsz, hP, hK, hD0, hE, hO⟩ := hv
  have hx := B.exec
  have hb := B.bytes
  have hr := B.returns
  have hts : ∀ w ∈ tb, w.before _ s = true := fun w h => atoms_spec (ws := .code yX15_end cX15_end 2 (some .int) :: tb) B.pre w (List.mem_cons_of_mem _ h)
  have hown : s.vm.findClass RX15 = some m.cls := findClass_of_methodNamed B.named
  have hlocks := B.notSynchronized
  subst hsz
  have hD := hD0.self (sz := s.heap.size)
  generalize hAe : va_A (va_pl L F) s.heap.size = A at hD ⊢
  have hA : ∀ q : Nat, s.heap.size ≤ q → A q := fun q h => by rw [← hAe]; exact Or.inr h
  have hS : va_S A s.heap s.heap [] := va_S.rf
  have hR : FR ty [ρ] F F := FR.refl
  have hl := lv_entry ([.ref h0, .int x1]) (n := 2) (Nat.le_of_ble_eq_true rfl)
  rw [lg_entry_eq]
  generalize (lg_sl ([.ref h0, .int x1]) ++ List.replicate (2 - (lg_sl ([.ref h0, .int x1])).length) Slot.unset).toArray = ls at hl ⊢
  have hl : lv_has ls 2 [(0, .ref h0), (1, .int x1)] := hl
  obtain ⟨hi_1, ht_2, hi_3, ht_4, hi_5, ht_6, hi_7, ht_8, hi_9, ht_10, hi_11, ht_12, hi_13, ⟨r_14, ht_15⟩, hi_16, ⟨r_17, ht_18⟩, hi_19, ht_20, hi_21, ⟨r_22, ht_23⟩, hi_24, ht_25, hi_26, ht_27, hi_28, ht_29, hi_30, ht_31, hi_32, ht_33, hi_34, ht_35, hi_36, ht_37, hi_38, ⟨r_39, ht_40⟩, hi_41, ht_42, hi_43, ⟨x_44, y0_45, y1_46, y2_47, ht_48⟩, hi_49, ⟨x_50, y0_51, y1_52, y2_53, ht_54⟩, hi_55, ⟨x_56, y_57, w_58, u_59, bl_60, ht_61⟩, hi_62, ht_63, hi_64, ht_65, hi_66, ht_67, hi_68, ht_69, hi_70, ht_71, hi_72, ht_73, hi_74, ht_75, hi_76, ht_77, hi_78, ht_79, hi_80, ht_81, hi_82, ⟨r_83, ht_84⟩, hi_85, ⟨r_86, ht_87⟩, hi_88, ht_89, hi_90, ht_91, hi_92, ⟨r_93, ht_94⟩, hi_95, ⟨r_96, ht_97⟩, hi_98, ⟨r_99, ht_100⟩, hq_101, hq_102, hq_103, hq_104, hq_105, hgO, hgA, hgB⟩ := hW.mod hL_h0 hT_h0
  refine lv_iload_n hx hb dX15_end_0 rfl (lv_at hl 1 rfl) ?_
  refine lv_i2l (v := x1.toInt64) hx hb dX15_end_1 rfl ?_
  refine lv_lconst (v := 0) hx hb dX15_end_2 (by decide) ?_
  refine lv_aload_n hx hb dX15_end_3 rfl (lv_at hl 0 rfl) ?_
  obtain ⟨zo_106, ze_107, v11_108, v12_109, v14_110, v15_111, v17_112, v18_113, v19_114, v20_115, v21_116, v22_117, v33_118, v52_119, v53_120, v54_121, hF_122, hq_123, hq_124, hq_125, hq_126⟩ := hO.mod hL_h0 hT_h0
  refine pg_get (ci := 15) (v := .int (nI zt)) (C := RX15) (T := TX15) (N := 59) hx hb hts it_15 hown hK hP hL_h0 hF_122 rfl 1 (by decide) (hts _ kt_1070) (fun _ h9 => h9) rfl dX15_end_4 ?_
  refine lv_i2l (v := (nI zt).toInt64) hx hb dX15_end_7 rfl ?_
  have hFc := pg_free hD hS hA
  refine va_calli (va_runS (As := [.long x1.toInt64, .long 0, .long ((nI zt).toInt64)]) (rest := []) ⟨hx, hb, hml, hown, hts⟩ (s_X15_in l dC dI cs ty gm L s.heap.size F x1.toInt64 0 ((nI zt).toInt64) hW ) ⟨callB_of 3 hts (gi kt_685) rfl rfl rfl (hts _ kt_669) (hts _ kt_705) (by decide +kernel) ⟨Nat.le_of_ble_eq_true rfl, Nat.le_of_ble_eq_true rfl⟩, (hts _ kt_686)⟩ ⟨fun a U g mk q => ⟨q.1, PTm.calling q.2⟩, fun U hU hWm => ⟨rfl, PTm.mk hU hWm hP hK hD hE hO⟩⟩ rfl rfl hl.1 rfl (lv_room (Nat.le_of_ble_eq_true rfl)) dX15_end_8 ⟨by show _ + 0 ≤ 0; omega, by show _ + 0 ≤ 0; omega⟩) hS (fun q _ h => hFc q h) hFc (fun r_127 u t H1 locs ht hvm hw hB hz1 hk1 hS => ?_)
  obtain ⟨F_128, hB1⟩ := hB
  obtain rfl : F = F_128 := (funext (fun a => hB1.2.2.2 a List.not_mem_nil)).symm
  obtain ⟨hP, hD, hO, hR⟩ := QTm.back hB1 ht hFc hR (fun q h => absurd h List.not_mem_nil)
  generalize H1 = H at hP hS ⊢
  have hw : r_127 = (if 0 ≤ x1.toInt64 ∧ x1.toInt64 ≤ (nI zt).toInt64 then 1 else 0) := hw
  have hw_129 := hw
  refine lv_if_ne (tgt := 16) hx hb dX15_end_11 (by decide) (fun c_130 => ?_) (fun c_130 => ?_)
  ·
    have hcE : ¬ x1 < 0 ∧ ¬ nI zt < x1 := (in_0z hw_129 (by omega)).elim (fun h => absurd h.1 c_130) And.right
    obtain ⟨k, hk, rfl⟩ := nI_of hcE.1
    have hkz : k ≤ zt := Nat.not_lt.mp (fun h => hcE.2 ((nI_ltI (by omega) hk).mpr h))
    refine lv_aload_n hx hb dX15_end_16 rfl (lv_at hl 0 rfl) ?_
    refine lv_iload_n hx hb dX15_end_17 rfl (lv_at hl 1 rfl) ?_
    refine pg_put (ci := 15) (v := .int (nI k)) (ty := .int) (C := RX15) (T := TX15) (N := 59) hx hb hts it_15 tyX15 tyX15_ok nmX15 hown hK hP hD hS hL_h0 hF_122 rfl 1 (by decide) (hts _ kt_1070) (fun _ h9 => h9) rfl (by decide +kernel) (rfl) (rfl) (Nat.le_of_ble_eq_true rfl) dX15_end_18 (fun H locs hP hD hS => ?_)
    obtain ⟨F_131, he_132, hP, hD, hR⟩ : ∃ G, G = va_up F h0 (.inr (15, (.ref ta) :: (.int (nI k)) :: (.int (nI zo_106)) :: (.int (nI ze_107)) :: (.ref ou) :: (.ref so) :: (.ref ad) :: (.ref na) :: (.ref va) :: (.ref lc) :: (.ref dm) :: (.int v11_108) :: (.int v12_109) :: (.ref tg) :: (.int v14_110) :: (.int v15_111) :: (.ref pe) :: (.int v17_112) :: (.int v18_113) :: (.int v19_114) :: (.int v20_115) :: (.int v21_116) :: (.int v22_117) :: (.ref ml) :: (.ref bg) :: (.ref co) :: (.ref sp) :: (.ref nb0) :: (.ref nb1) :: (.ref nb2) :: (.int (nI nf)) :: (.int (nI bd)) :: (.int (nI mm)) :: (.int v33_118) :: (.ref pl) :: (.ref se) :: (.ref ke) :: (.ref wi) :: (.ref hs) :: (.ref mo) :: (.ref po) :: (.ref nu) :: (.ref pr) :: (.ref sq) :: (.ref xa) :: (.ref sa) :: (.ref n64) :: (.ref m64) :: (.ref ex) :: (.ref wh) :: (.ref sd) :: (.ref tk) :: (.int v52_119) :: (.int v53_120) :: (.int v54_121) :: (.ref hd) :: (.ref ak) :: (.ref ho) :: (.ref ot) :: [])) ∧ va_P (dC, dI) vwCl (va_pl L G) H ∧ va_D A (va_pl L G) ∧ FR ty [ρ] F G := ⟨_, rfl, hP, hD, hR.up hT_h0 (by simp)⟩
    obtain ⟨ty, hty, hT_h0, hW, hO, hR⟩ : ∃ t9 : TyM, t9 = rtf ty h0 (15, ρ, [ta, ou, so, ad, na, va, lc, dm, tg, pe, ml, bg, co, sp, nb0, nb1, nb2, pl, se, ke, wi, hs, mo, po, nu, pr, sq, xa, sa, n64, m64, ex, wh, sd, tk, hd, ak, ho, ot, sx, s0, s1, s2, nf, bd, mm, k]) ∧ t9 h0 = (15, ρ, [ta, ou, so, ad, na, va, lc, dm, tg, pe, ml, bg, co, sp, nb0, nb1, nb2, pl, se, ke, wi, hs, mo, po, nu, pr, sq, xa, sa, n64, m64, ex, wh, sd, tk, hd, ak, ho, ot, sx, s0, s1, s2, nf, bd, mm, k]) ∧ WTm t9 gm L ∧ OKm cs t9 gm L F_131 ∧ FR t9 [ρ] F F_131 := ⟨_, rfl, rtf_self, hW.zt hL_h0 hT_h0 (by omega), (by rw [he_132]; exact OKm.retype hO hT_h0 (shm.mod rtf_self ⟨zo_106, ze_107, v11_108, v12_109, v14_110, v15_111, v17_112, v18_113, v19_114, v20_115, v21_116, v22_117, v33_118, v52_119, v53_120, v54_121, rfl, (by first | omega | assumption | exact Or.inl rfl | exact Or.inr rfl), (by first | omega | assumption | exact Or.inl rfl | exact Or.inr rfl), (by first | omega | assumption | exact Or.inl rfl | exact Or.inr rfl), (by first | omega | assumption | exact Or.inl rfl | exact Or.inr rfl)⟩)), FR.retype hT_h0 hR⟩
    have hF_133 : F_131 h0 = .inr (15, (.ref ta) :: (.int (nI k)) :: (.int (nI zo_106)) :: (.int (nI ze_107)) :: (.ref ou) :: (.ref so) :: (.ref ad) :: (.ref na) :: (.ref va) :: (.ref lc) :: (.ref dm) :: (.int v11_108) :: (.int v12_109) :: (.ref tg) :: (.int v14_110) :: (.int v15_111) :: (.ref pe) :: (.int v17_112) :: (.int v18_113) :: (.int v19_114) :: (.int v20_115) :: (.int v21_116) :: (.int v22_117) :: (.ref ml) :: (.ref bg) :: (.ref co) :: (.ref sp) :: (.ref nb0) :: (.ref nb1) :: (.ref nb2) :: (.int (nI nf)) :: (.int (nI bd)) :: (.int (nI mm)) :: (.int v33_118) :: (.ref pl) :: (.ref se) :: (.ref ke) :: (.ref wi) :: (.ref hs) :: (.ref mo) :: (.ref po) :: (.ref nu) :: (.ref pr) :: (.ref sq) :: (.ref xa) :: (.ref sa) :: (.ref n64) :: (.ref m64) :: (.ref ex) :: (.ref wh) :: (.ref sd) :: (.ref tk) :: (.int v52_119) :: (.int v53_120) :: (.int v54_121) :: (.ref hd) :: (.ref ak) :: (.ref ho) :: (.ref ot) :: []) := by rw [he_132]; exact up_self
    obtain ⟨hi_134, ht_135, hi_136, ht_137, hi_138, ht_139, hi_140, ht_141, hi_142, ht_143, hi_144, ht_145, hi_146, ⟨r_147, ht_148⟩, hi_149, ⟨r_150, ht_151⟩, hi_152, ht_153, hi_154, ⟨r_155, ht_156⟩, hi_157, ht_158, hi_159, ht_160, hi_161, ht_162, hi_163, ht_164, hi_165, ht_166, hi_167, ht_168, hi_169, ht_170, hi_171, ⟨r_172, ht_173⟩, hi_174, ht_175, hi_176, ⟨x_177, y0_178, y1_179, y2_180, ht_181⟩, hi_182, ⟨x_183, y0_184, y1_185, y2_186, ht_187⟩, hi_188, ⟨x_189, y_190, w_191, u_192, bl_193, ht_194⟩, hi_195, ht_196, hi_197, ht_198, hi_199, ht_200, hi_201, ht_202, hi_203, ht_204, hi_205, ht_206, hi_207, ht_208, hi_209, ht_210, hi_211, ht_212, hi_213, ht_214, hi_215, ⟨r_216, ht_217⟩, hi_218, ⟨r_219, ht_220⟩, hi_221, ht_222, hi_223, ht_224, hi_225, ⟨r_226, ht_227⟩, hi_228, ⟨r_229, ht_230⟩, hi_231, ⟨r_232, ht_233⟩, hq_234, hq_235, hq_236, hq_237, hq_238, hgO, hgA, hgB⟩ := hW.mod hL_h0 hT_h0
    refine lv_iload_n hx hb dX15_end_21 rfl (lv_at hl 1 rfl) ?_
    refine W.widen (k := 0) (n := 0) (by omega) (by omega) ?_
    exact W.iret (v := (nI k)) hx hb hr (fun t ht hWm => ⟨⟨(nI k), (), rfl, (by rw [if_pos hcE]), ⟨F_131, ty, (by rw [if_pos hcE, nI_clamp hk]; exact hty), QTm.mk ht hP hD hO hR, hW⟩⟩, hS.F ht⟩) hS.2.2 dX15_end_22
  ·
    have hcN : ¬ (¬ x1 < 0 ∧ ¬ nI zt < x1) := (in_0z hw_129 (by omega)).elim And.right (fun h => absurd (h.1.symm.trans c_130) (by decide))
    refine lv_iconst (v := (-1)) hx hb dX15_end_14 (by decide) ?_
    refine W.widen (k := 0) (n := 0) (by omega) (by omega) ?_
    exact W.iret (v := (-1)) hx hb hr (fun t ht hWm => ⟨⟨(-1), (), rfl, (by rw [if_neg hcN]), ⟨F, ty, (by rw [if_neg hcN]; exact (rtf_id hT_h0).symm), QTm.mk ht hP hD hO hR, hW⟩⟩, hS.F ht⟩) hS.2.2 dX15_end_15
set_option maxHeartbeats 4000000 in
set_option maxRecDepth 100000 in
theorem s_X15_forget (l : Launch) (dC : Nat → ClassId) (dI : Nat → Nat → Nat) (cs : Nat → ClassId) (ty : TyM) (gm : Nat → Nat → Nat) (L : List Nat) (sz : Nat) (F : Nat → va_E) (h0 : Nat) (ρ : Nat) (ta : Nat) (ou : Nat) (so : Nat) (ad : Nat) (na : Nat) (va : Nat) (lc : Nat) (dm : Nat) (tg : Nat) (pe : Nat) (ml : Nat) (bg : Nat) (co : Nat) (sp : Nat) (nb0 : Nat) (nb1 : Nat) (nb2 : Nat) (pl : Nat) (se : Nat) (ke : Nat) (wi : Nat) (hs : Nat) (mo : Nat) (po : Nat) (nu : Nat) (pr : Nat) (sq : Nat) (xa : Nat) (sa : Nat) (n64 : Nat) (m64 : Nat) (ex : Nat) (wh : Nat) (sd : Nat) (tk : Nat) (hd : Nat) (ak : Nat) (ho : Nat) (ot : Nat) (sx : Nat) (s0 : Nat) (s1 : Nat) (s2 : Nat) (nf : Nat) (bd : Nat) (mm : Nat) (zt : Nat) (hW : WTm ty gm L) (hL_h0 : h0 ∈ L) (hT_h0 : ty h0 = (15, ρ, [ta, ou, so, ad, na, va, lc, dm, tg, pe, ml, bg, co, sp, nb0, nb1, nb2, pl, se, ke, wi, hs, mo, po, nu, pr, sq, xa, sa, n64, m64, ex, wh, sd, tk, hd, ak, ho, ot, sx, s0, s1, s2, nf, bd, mm, zt])) : Met l yX15_forget (.code yX15_forget cX15_forget 2 (some .int) :: tb) ({ frames := 0, cells := 0, slots := 0, locals := 0 }) (va_Pc [.ref h0] (PTm (dC, dI) cs ty gm L F sz)) (va_Qi (fun (r : Int32) (_ : Unit) => True) (fun _ T9 => ∃ F2 : Nat → va_E, QTm (dC, dI) cs ty gm L [ρ] F F2 (va_A (va_pl L F) sz) T9) (va_A (va_pl L F) sz)) 0 0 (va_A (va_pl L F) sz) := by
  refine Met.ofW (cc := cX15_forget) (maxL := 2) (ret := (some .int)) (by decide) rfl ?_
  intro p e s m args below meth c s₁ B hml hv
  obtain ⟨rfl, hsz, hP, hK, hD0, hE, hO⟩ := hv
  have hx := B.exec
  have hb := B.bytes
  have hr := B.returns
  have hts : ∀ w ∈ tb, w.before _ s = true := fun w h => atoms_spec (ws := .code yX15_forget cX15_forget 2 (some .int) :: tb) B.pre w (List.mem_cons_of_mem _ h)
  have hown : s.vm.findClass RX15 = some m.cls := findClass_of_methodNamed B.named
  have hlocks := B.notSynchronized
  subst hsz
  have hD := hD0.self (sz := s.heap.size)
  generalize hAe : va_A (va_pl L F) s.heap.size = A at hD ⊢
  have hA : ∀ q : Nat, s.heap.size ≤ q → A q := fun q h => by rw [← hAe]; exact Or.inr h
  have hS : va_S A s.heap s.heap [] := va_S.rf
  have hR : FR ty [ρ] F F := FR.refl
  have hl := lv_entry ([.ref h0]) (n := 2) (Nat.le_of_ble_eq_true rfl)
  rw [lg_entry_eq]
  generalize (lg_sl ([.ref h0]) ++ List.replicate (2 - (lg_sl ([.ref h0])).length) Slot.unset).toArray = ls at hl ⊢
  have hl : lv_has ls 2 [(0, .ref h0)] := hl
  refine lv_aload_n hx hb dX15_forget_0 rfl (lv_at hl 0 rfl) ?_
  obtain ⟨hi_1, ht_2, hi_3, ht_4, hi_5, ht_6, hi_7, ht_8, hi_9, ht_10, hi_11, ht_12, hi_13, ⟨r_14, ht_15⟩, hi_16, ⟨r_17, ht_18⟩, hi_19, ht_20, hi_21, ⟨r_22, ht_23⟩, hi_24, ht_25, hi_26, ht_27, hi_28, ht_29, hi_30, ht_31, hi_32, ht_33, hi_34, ht_35, hi_36, ht_37, hi_38, ⟨r_39, ht_40⟩, hi_41, ht_42, hi_43, ⟨x_44, y0_45, y1_46, y2_47, ht_48⟩, hi_49, ⟨x_50, y0_51, y1_52, y2_53, ht_54⟩, hi_55, ⟨x_56, y_57, w_58, u_59, bl_60, ht_61⟩, hi_62, ht_63, hi_64, ht_65, hi_66, ht_67, hi_68, ht_69, hi_70, ht_71, hi_72, ht_73, hi_74, ht_75, hi_76, ht_77, hi_78, ht_79, hi_80, ht_81, hi_82, ⟨r_83, ht_84⟩, hi_85, ⟨r_86, ht_87⟩, hi_88, ht_89, hi_90, ht_91, hi_92, ⟨r_93, ht_94⟩, hi_95, ⟨r_96, ht_97⟩, hi_98, ⟨r_99, ht_100⟩, hq_101, hq_102, hq_103, hq_104, hq_105, hgO, hgA, hgB⟩ := hW.mod hL_h0 hT_h0
  obtain ⟨zo_106, ze_107, v11_108, v12_109, v14_110, v15_111, v17_112, v18_113, v19_114, v20_115, v21_116, v22_117, v33_118, v52_119, v53_120, v54_121, hF_122, hq_123, hq_124, hq_125, hq_126⟩ := hO.mod hL_h0 hT_h0
  refine pg_get (ci := 15) (v := .int (nI ze_107)) (C := RX15) (T := TX15) (N := 59) hx hb hts it_15 hown hK hP hL_h0 hF_122 rfl 3 (by decide) (hts _ kt_724) (fun _ h9 => h9) rfl dX15_forget_1 ?_
  refine lv_istore_n (lv' := [(1, .int (nI ze_107)), (0, .ref h0)]) hx hb dX15_forget_4 rfl hl (by decide) rfl (fun ls hl => ?_)
  refine lv_aload_n hx hb dX15_forget_5 rfl (lv_at hl 1 rfl) ?_
  refine lv_iconst (v := 0) hx hb dX15_forget_6 (by decide) ?_
  refine pg_put (ci := 15) (v := .int 0) (ty := .int) (C := RX15) (T := TX15) (N := 59) hx hb hts it_15 tyX15 tyX15_ok nmX15 hown hK hP hD hS hL_h0 hF_122 rfl 3 (by decide) (hts _ kt_724) (fun _ h9 => h9) rfl (by decide +kernel) (rfl) (rfl) (Nat.le_of_ble_eq_true rfl) dX15_forget_7 (fun H locs hP hD hS => ?_)
  obtain ⟨F_127, he_128, hP, hD, hO, hR⟩ : ∃ G, G = va_up F h0 (.inr (15, (.ref ta) :: (.int (nI zt)) :: (.int (nI zo_106)) :: (.int 0) :: (.ref ou) :: (.ref so) :: (.ref ad) :: (.ref na) :: (.ref va) :: (.ref lc) :: (.ref dm) :: (.int v11_108) :: (.int v12_109) :: (.ref tg) :: (.int v14_110) :: (.int v15_111) :: (.ref pe) :: (.int v17_112) :: (.int v18_113) :: (.int v19_114) :: (.int v20_115) :: (.int v21_116) :: (.int v22_117) :: (.ref ml) :: (.ref bg) :: (.ref co) :: (.ref sp) :: (.ref nb0) :: (.ref nb1) :: (.ref nb2) :: (.int (nI nf)) :: (.int (nI bd)) :: (.int (nI mm)) :: (.int v33_118) :: (.ref pl) :: (.ref se) :: (.ref ke) :: (.ref wi) :: (.ref hs) :: (.ref mo) :: (.ref po) :: (.ref nu) :: (.ref pr) :: (.ref sq) :: (.ref xa) :: (.ref sa) :: (.ref n64) :: (.ref m64) :: (.ref ex) :: (.ref wh) :: (.ref sd) :: (.ref tk) :: (.int v52_119) :: (.int v53_120) :: (.int v54_121) :: (.ref hd) :: (.ref ak) :: (.ref ho) :: (.ref ot) :: [])) ∧ va_P (dC, dI) vwCl (va_pl L G) H ∧ va_D A (va_pl L G) ∧ OKm cs ty gm L G ∧ FR ty [ρ] F G := ⟨_, rfl, hP, hD, hO.up (shm.mod hT_h0 ⟨zo_106, 0, v11_108, v12_109, v14_110, v15_111, v17_112, v18_113, v19_114, v20_115, v21_116, v22_117, v33_118, v52_119, v53_120, v54_121, rfl, (by first | omega | assumption | exact Or.inl rfl | exact Or.inr rfl), (by first | omega | assumption | exact Or.inl rfl | exact Or.inr rfl), (by first | omega | assumption | exact Or.inl rfl | exact Or.inr rfl), (by first | omega | assumption | exact Or.inl rfl | exact Or.inr rfl)⟩), hR.up hT_h0 (by simp)⟩
  have hF_129 : F_127 h0 = .inr (15, (.ref ta) :: (.int (nI zt)) :: (.int (nI zo_106)) :: (.int 0) :: (.ref ou) :: (.ref so) :: (.ref ad) :: (.ref na) :: (.ref va) :: (.ref lc) :: (.ref dm) :: (.int v11_108) :: (.int v12_109) :: (.ref tg) :: (.int v14_110) :: (.int v15_111) :: (.ref pe) :: (.int v17_112) :: (.int v18_113) :: (.int v19_114) :: (.int v20_115) :: (.int v21_116) :: (.int v22_117) :: (.ref ml) :: (.ref bg) :: (.ref co) :: (.ref sp) :: (.ref nb0) :: (.ref nb1) :: (.ref nb2) :: (.int (nI nf)) :: (.int (nI bd)) :: (.int (nI mm)) :: (.int v33_118) :: (.ref pl) :: (.ref se) :: (.ref ke) :: (.ref wi) :: (.ref hs) :: (.ref mo) :: (.ref po) :: (.ref nu) :: (.ref pr) :: (.ref sq) :: (.ref xa) :: (.ref sa) :: (.ref n64) :: (.ref m64) :: (.ref ex) :: (.ref wh) :: (.ref sd) :: (.ref tk) :: (.int v52_119) :: (.int v53_120) :: (.int v54_121) :: (.ref hd) :: (.ref ak) :: (.ref ho) :: (.ref ot) :: []) := by rw [he_128]; exact up_self
  refine lv_iload_n hx hb dX15_forget_10 rfl (lv_at hl 0 rfl) ?_
  refine W.widen (k := 0) (n := 0) (by omega) (by omega) ?_
  exact W.iret (v := (nI ze_107)) hx hb hr (fun t ht hWm => ⟨⟨(nI ze_107), (), rfl, trivial, ⟨F_127, QTm.mk ht hP hD hO hR⟩⟩, hS.F ht⟩) hS.2.2 dX15_forget_11
set_option maxHeartbeats 4000000 in
set_option maxRecDepth 100000 in
theorem s_X15_digest_ (l : Launch) (dC : Nat → ClassId) (dI : Nat → Nat → Nat) (cs : Nat → ClassId) (ty : TyM) (gm : Nat → Nat → Nat) (L : List Nat) (sz : Nat) (F : Nat → va_E) (h0 : Nat) (ρ : Nat) (ta : Nat) (ou : Nat) (so : Nat) (ad : Nat) (na : Nat) (va : Nat) (lc : Nat) (dm : Nat) (tg : Nat) (pe : Nat) (ml : Nat) (bg : Nat) (co : Nat) (sp : Nat) (nb0 : Nat) (nb1 : Nat) (nb2 : Nat) (pl : Nat) (se : Nat) (ke : Nat) (wi : Nat) (hs : Nat) (mo : Nat) (po : Nat) (nu : Nat) (pr : Nat) (sq : Nat) (xa : Nat) (sa : Nat) (n64 : Nat) (m64 : Nat) (ex : Nat) (wh : Nat) (sd : Nat) (tk : Nat) (hd : Nat) (ak : Nat) (ho : Nat) (ot : Nat) (sx : Nat) (s0 : Nat) (s1 : Nat) (s2 : Nat) (nf : Nat) (bd : Nat) (mm : Nat) (zt : Nat) (hW : WTm ty gm L) (hL_h0 : h0 ∈ L) (hT_h0 : ty h0 = (15, ρ, [ta, ou, so, ad, na, va, lc, dm, tg, pe, ml, bg, co, sp, nb0, nb1, nb2, pl, se, ke, wi, hs, mo, po, nu, pr, sq, xa, sa, n64, m64, ex, wh, sd, tk, hd, ak, ho, ot, sx, s0, s1, s2, nf, bd, mm, zt])) : Met l yX15_digest_ (.code yX15_digest_ cX15_digest_ 2 (some .int) :: tb) ({ frames := 6, cells := 0, slots := 0, locals := 143 }) (va_Pc [.ref h0] (PTm (dC, dI) cs ty gm L F sz)) (va_Qi (fun (r : Int32) (_ : Unit) => r = 32) (fun _ T9 => ∃ F2 : Nat → va_E, ∃ ty2 : TyM, ty2 = rtf ty h0 (15, ρ, [ta, ou, so, ad, na, va, lc, dm, tg, pe, ml, bg, co, sp, nb0, nb1, nb2, pl, se, ke, wi, hs, mo, po, nu, pr, sq, xa, sa, n64, m64, ex, wh, sd, tk, hd, ak, ho, ot, sx, s0, s1, s2, nf, bd, mm, 0]) ∧ QTm (dC, dI) cs ty2 gm L [ρ, ρ + 2, ρ + 17, ρ + 19] F F2 (va_A (va_pl L F) sz) T9 ∧ WTm ty2 gm L) (va_A (va_pl L F) sz)) 0 0 (va_A (va_pl L F) sz) := by
  refine Met.ofW (cc := cX15_digest_) (maxL := 2) (ret := (some .int)) (by decide) rfl ?_
  intro p e s m args below meth c s₁ B hml hv
  obtain ⟨rfl, hsz, hP, hK, hD0, hE, hO⟩ := hv
  have hx := B.exec
  have hb := B.bytes
  have hr := B.returns
  have hts : ∀ w ∈ tb, w.before _ s = true := fun w h => atoms_spec (ws := .code yX15_digest_ cX15_digest_ 2 (some .int) :: tb) B.pre w (List.mem_cons_of_mem _ h)
  have hown : s.vm.findClass RX15 = some m.cls := findClass_of_methodNamed B.named
  have hlocks := B.notSynchronized
  subst hsz
  have hD := hD0.self (sz := s.heap.size)
  generalize hAe : va_A (va_pl L F) s.heap.size = A at hD ⊢
  have hA : ∀ q : Nat, s.heap.size ≤ q → A q := fun q h => by rw [← hAe]; exact Or.inr h
  have hS : va_S A s.heap s.heap [] := va_S.rf
  have hR : FR ty [ρ, ρ + 2, ρ + 17, ρ + 19] F F := FR.refl
  have hl := lv_entry ([.ref h0]) (n := 2) (Nat.le_of_ble_eq_true rfl)
  rw [lg_entry_eq]
  generalize (lg_sl ([.ref h0]) ++ List.replicate (2 - (lg_sl ([.ref h0])).length) Slot.unset).toArray = ls at hl ⊢
  have hl : lv_has ls 2 [(0, .ref h0)] := hl
  obtain ⟨hi_1, ht_2, hi_3, ht_4, hi_5, ht_6, hi_7, ht_8, hi_9, ht_10, hi_11, ht_12, hi_13, ⟨r_14, ht_15⟩, hi_16, ⟨r_17, ht_18⟩, hi_19, ht_20, hi_21, ⟨r_22, ht_23⟩, hi_24, ht_25, hi_26, ht_27, hi_28, ht_29, hi_30, ht_31, hi_32, ht_33, hi_34, ht_35, hi_36, ht_37, hi_38, ⟨r_39, ht_40⟩, hi_41, ht_42, hi_43, ⟨x_44, y0_45, y1_46, y2_47, ht_48⟩, hi_49, ⟨x_50, y0_51, y1_52, y2_53, ht_54⟩, hi_55, ⟨x_56, y_57, w_58, u_59, bl_60, ht_61⟩, hi_62, ht_63, hi_64, ht_65, hi_66, ht_67, hi_68, ht_69, hi_70, ht_71, hi_72, ht_73, hi_74, ht_75, hi_76, ht_77, hi_78, ht_79, hi_80, ht_81, hi_82, ⟨r_83, ht_84⟩, hi_85, ⟨r_86, ht_87⟩, hi_88, ht_89, hi_90, ht_91, hi_92, ⟨r_93, ht_94⟩, hi_95, ⟨r_96, ht_97⟩, hi_98, ⟨r_99, ht_100⟩, hq_101, hq_102, hq_103, hq_104, hq_105, hgO, hgA, hgB⟩ := hW.mod hL_h0 hT_h0
  refine lv_aload_n hx hb dX15_digest__0 rfl (lv_at hl 0 rfl) ?_
  obtain ⟨zo_106, ze_107, v11_108, v12_109, v14_110, v15_111, v17_112, v18_113, v19_114, v20_115, v21_116, v22_117, v33_118, v52_119, v53_120, v54_121, hF_122, hq_123, hq_124, hq_125, hq_126⟩ := hO.mod hL_h0 hT_h0
  have hFc := pg_free hD hS hA
  refine va_calli (va_runV (As := []) (rest := []) ⟨hx, hb, hml, hown, hts⟩ (s_X15_used l dC dI cs ty gm L s.heap.size F h0 ρ ta ou so ad na va lc dm tg pe ml bg co sp nb0 nb1 nb2 pl se ke wi hs mo po nu pr sq xa sa n64 m64 ex wh sd tk hd ak ho ot sx s0 s1 s2 nf bd mm zt zo_106 ze_107 v11_108 v12_109 v14_110 v15_111 v17_112 v18_113 v19_114 v20_115 v21_116 v22_117 v33_118 v52_119 v53_120 v54_121 hW hL_h0 hT_h0 hF_122 (by first | omega | assumption) (by first | omega | assumption) (by first | omega | assumption) (by first | omega | assumption)) ⟨callB_of 0 hts (gi kt_1071) rfl rfl rfl (hts _ kt_669) (hts _ kt_1072) (by decide +kernel) ⟨Nat.le_of_ble_eq_true rfl, Nat.le_of_ble_eq_true rfl⟩, (hts _ kt_1073), (hts _ kt_1074)⟩ ⟨fun a U g mk q => ⟨q.1, PTm.calling q.2⟩, pg_recv hK hP hL_h0 hF_122 (q := (RX15, TX15, 59)) rfl, fun U hU hWm => ⟨rfl, PTm.mk hU hWm hP hK hD hE hO⟩⟩ rfl rfl hl.1 rfl (lv_room (Nat.le_of_ble_eq_true rfl)) dX15_digest__1 ⟨by show _ + 0 ≤ 0; omega, by show _ + 0 ≤ 0; omega⟩) hS (fun q _ h => hFc q h) hFc (fun r_127 u t H1 locs ht hvm hw hB hz1 hk1 hS => ?_)
  obtain ⟨F_128, ty9, hty9, hB1, hW9, hq_129⟩ := hB
  subst hty9
  have hR9 := FR.retype (im2 := [ta, ou, so, ad, na, va, lc, dm, tg, pe, ml, bg, co, sp, nb0, nb1, nb2, pl, se, ke, wi, hs, mo, po, nu, pr, sq, xa, sa, n64, m64, ex, wh, sd, tk, hd, ak, ho, ot, sx, s0, s1, s2, nf, bd, mm, 0]) hT_h0 hR
  obtain ⟨hP, hD, hO, hR⟩ := QTm.back hB1 ht hFc hR9 (fun q h => by simp only [List.mem_cons, List.not_mem_nil, or_false] at h ⊢; omega)
  obtain ⟨ty, hty, hT_h0, hW, hO, hR⟩ : ∃ t9 : TyM, t9 = rtf ty h0 (15, ρ, [ta, ou, so, ad, na, va, lc, dm, tg, pe, ml, bg, co, sp, nb0, nb1, nb2, pl, se, ke, wi, hs, mo, po, nu, pr, sq, xa, sa, n64, m64, ex, wh, sd, tk, hd, ak, ho, ot, sx, s0, s1, s2, nf, bd, mm, 0]) ∧ t9 h0 = (15, ρ, [ta, ou, so, ad, na, va, lc, dm, tg, pe, ml, bg, co, sp, nb0, nb1, nb2, pl, se, ke, wi, hs, mo, po, nu, pr, sq, xa, sa, n64, m64, ex, wh, sd, tk, hd, ak, ho, ot, sx, s0, s1, s2, nf, bd, mm, 0]) ∧ WTm t9 gm L ∧ OKm cs t9 gm L F_128 ∧ FR t9 [ρ, ρ + 2, ρ + 17, ρ + 19] F F_128 := ⟨_, rfl, rtf_self, hW9, hO, hR⟩
  generalize H1 = H at hP hS ⊢
  have hw : r_127 = nI zt := hw
  subst hw
  obtain ⟨hi_130, ht_131, hi_132, ht_133, hi_134, ht_135, hi_136, ht_137, hi_138, ht_139, hi_140, ht_141, hi_142, ⟨r_143, ht_144⟩, hi_145, ⟨r_146, ht_147⟩, hi_148, ht_149, hi_150, ⟨r_151, ht_152⟩, hi_153, ht_154, hi_155, ht_156, hi_157, ht_158, hi_159, ht_160, hi_161, ht_162, hi_163, ht_164, hi_165, ht_166, hi_167, ⟨r_168, ht_169⟩, hi_170, ht_171, hi_172, ⟨x_173, y0_174, y1_175, y2_176, ht_177⟩, hi_178, ⟨x_179, y0_180, y1_181, y2_182, ht_183⟩, hi_184, ⟨x_185, y_186, w_187, u_188, bl_189, ht_190⟩, hi_191, ht_192, hi_193, ht_194, hi_195, ht_196, hi_197, ht_198, hi_199, ht_200, hi_201, ht_202, hi_203, ht_204, hi_205, ht_206, hi_207, ht_208, hi_209, ht_210, hi_211, ⟨r_212, ht_213⟩, hi_214, ⟨r_215, ht_216⟩, hi_217, ht_218, hi_219, ht_220, hi_221, ⟨r_222, ht_223⟩, hi_224, ⟨r_225, ht_226⟩, hi_227, ⟨r_228, ht_229⟩, hq_230, hq_231, hq_232, hq_233, hq_234, hgO, hgA, hgB⟩ := hW.mod hL_h0 hT_h0
  refine lv_istore_n (lv' := [(1, .int (nI zt)), (0, .ref h0)]) hx hb dX15_digest__4 rfl hl (by decide) rfl (fun ls hl => ?_)
  refine lv_aload_n hx hb dX15_digest__5 rfl (lv_at hl 1 rfl) ?_
  refine lv_aload_n hx hb dX15_digest__6 rfl (lv_at hl 1 rfl) ?_
  refine pg_get (ci := 15) (v := .ref ta) (C := RX15) (T := TX15) (N := 59) hx hb hts it_15 hown hK hP hL_h0 hq_129 rfl 0 (by decide) (hts _ kt_1075) (fun _ h9 => h9) rfl dX15_digest__7 ?_
  refine lv_iload_n hx hb dX15_digest__10 rfl (lv_at hl 0 rfl) ?_
  refine lv_aload_n hx hb dX15_digest__11 rfl (lv_at hl 1 rfl) ?_
  refine pg_get (ci := 15) (v := .ref xa) (C := RX15) (T := TX15) (N := 59) hx hb hts it_15 hown hK hP hL_h0 hq_129 rfl 44 (by decide) (hts _ kt_950) (fun _ h9 => h9) rfl dX15_digest__12 ?_
  obtain ⟨hq_235, hq_236⟩ := hW.octs hi_130 ht_131
  obtain ⟨hq_237, hq_238⟩ := hW.octs hi_201 ht_202
  have hFc := pg_free hD hS hA
  refine va_callv (va_runV (As := [.ref ta, .int (nI zt), .ref xa]) (rest := []) ⟨hx, hb, hml, hown, hts⟩ (s_X15_digest l dC dI cs ty gm L H.size F_128 h0 ρ ta ou so ad na va lc dm tg pe ml bg co sp nb0 nb1 nb2 pl se ke wi hs mo po nu pr sq xa sa n64 m64 ex wh sd tk hd ak ho ot sx s0 s1 s2 nf bd mm 0 ta (ρ + 1) 3000 xa (ρ + 19) 32 zt hW hL_h0 hT_h0 hi_130 ht_131 hi_201 ht_202 (by first | omega | assumption) (by first | omega | assumption)) ⟨callB_of 3 hts (gi kt_1022) rfl rfl rfl (hts _ kt_669) (hts _ kt_1023) (by decide +kernel) ⟨Nat.le_of_ble_eq_true rfl, Nat.le_of_ble_eq_true rfl⟩, (hts _ kt_1024), (hts _ kt_1025)⟩ ⟨fun a U g mk q => ⟨q.1, PTm.calling q.2⟩, pg_recv hK hP hL_h0 hq_129 (q := (RX15, TX15, 59)) rfl, fun U hU hWm => ⟨rfl, PTm.mk hU hWm hP hK hD hE hO⟩⟩ rfl rfl hl.1 rfl (lv_room (Nat.le_of_ble_eq_true rfl)) dX15_digest__15 ⟨by show _ + 0 ≤ 0; omega, by show _ + 0 ≤ 0; omega⟩) hS (fun q _ h => hFc q h) hFc (fun u t H1 locs ht hvm hw hB hz1 hk1 hS => ?_)
  obtain ⟨F_240, hB1⟩ := hB
  obtain ⟨hP, hD, hO, hR⟩ := QTm.back hB1 ht hFc hR (fun q h => by simp only [List.mem_cons, List.not_mem_nil, or_false] at h ⊢; omega)
  have hF_241 : F_240 h0 = .inr (15, (.ref ta) :: (.int 0) :: (.int (nI zo_106)) :: (.int (nI ze_107)) :: (.ref ou) :: (.ref so) :: (.ref ad) :: (.ref na) :: (.ref va) :: (.ref lc) :: (.ref dm) :: (.int v11_108) :: (.int v12_109) :: (.ref tg) :: (.int v14_110) :: (.int v15_111) :: (.ref pe) :: (.int v17_112) :: (.int v18_113) :: (.int v19_114) :: (.int v20_115) :: (.int v21_116) :: (.int v22_117) :: (.ref ml) :: (.ref bg) :: (.ref co) :: (.ref sp) :: (.ref nb0) :: (.ref nb1) :: (.ref nb2) :: (.int (nI nf)) :: (.int (nI bd)) :: (.int (nI mm)) :: (.int v33_118) :: (.ref pl) :: (.ref se) :: (.ref ke) :: (.ref wi) :: (.ref hs) :: (.ref mo) :: (.ref po) :: (.ref nu) :: (.ref pr) :: (.ref sq) :: (.ref xa) :: (.ref sa) :: (.ref n64) :: (.ref m64) :: (.ref ex) :: (.ref wh) :: (.ref sd) :: (.ref tk) :: (.int v52_119) :: (.int v53_120) :: (.int v54_121) :: (.ref hd) :: (.ref ak) :: (.ref ho) :: (.ref ot) :: []) := (hB1.2.2.2 h0 (by rw [hT_h0]; simp)).trans hq_129
  generalize H1 = H at hP hS ⊢
  refine lv_aload_n hx hb dX15_digest__18 rfl (lv_at hl 1 rfl) ?_
  refine pg_get (ci := 15) (v := .ref xa) (C := RX15) (T := TX15) (N := 59) hx hb hts it_15 hown hK hP hL_h0 hF_241 rfl 44 (by decide) (hts _ kt_950) (fun _ h9 => h9) rfl dX15_digest__19 ?_
  refine lv_iconst (v := 0) hx hb dX15_digest__22 (by decide) ?_
  refine lv_aload_n hx hb dX15_digest__23 rfl (lv_at hl 1 rfl) ?_
  refine pg_get (ci := 15) (v := .ref ou) (C := RX15) (T := TX15) (N := 59) hx hb hts it_15 hown hK hP hL_h0 hF_241 rfl 4 (by decide) (hts _ kt_922) (fun _ h9 => h9) rfl dX15_digest__24 ?_
  refine lv_iconst (v := 0) hx hb dX15_digest__27 (by decide) ?_
  refine lv_bipush (v := 32) hx hb dX15_digest__28 (by decide) ?_
  obtain ⟨f_242, hF_243, hq_244⟩ := hO.octs hi_201 ht_202
  obtain ⟨hq_245, hq_246⟩ := hW.octs hi_132 ht_133
  obtain ⟨f_247, hF_248, hq_249⟩ := hO.octs hi_132 ht_133
  refine pg_copyi hx hb (by rw [hml]; exact hl.1.symm) hown (hts _ kt_923) (hts _ kt_29) (hts _ kt_30) (hts _ kt_31) hK hP hD hS hi_201 hi_132 1 1 hF_243 hF_248 rfl rfl rfl (by decide) (by decide) (by decide) (by decide) (by decide) (fun _ _ => hq_244 _) (Nat.le_of_ble_eq_true rfl) (by decide) dX15_digest__30 (fun H locs hP hD hS => ?_)
  obtain ⟨F_250, he_251, hP, hD, hO, hR⟩ : ∃ G, G = va_up F_240 ou (.inl (cs 17, 6000, .inl (va_cpy f_242 f_247 (0 : Int32).toNatClampNeg (0 : Int32).toNatClampNeg (32 : Int32).toNatClampNeg))) ∧ va_P (dC, dI) vwCl (va_pl L G) H ∧ va_D A (va_pl L G) ∧ OKm cs ty gm L G ∧ FR ty [ρ, ρ + 2, ρ + 17, ρ + 19] F G := ⟨_, rfl, hP, hD, hO.up (shm.octs ht_133 ⟨_, rfl, bfm_cpy hq_244 hq_249 _ _ _⟩), hR.up ht_133 (by simp)⟩
  have hF_252 : F_250 ou = .inl (cs 17, 6000, .inl (va_cpy f_242 f_247 (0 : Int32).toNatClampNeg (0 : Int32).toNatClampNeg (32 : Int32).toNatClampNeg)) := by rw [he_251]; exact up_self
  have hF_253 : F_250 h0 = .inr (15, (.ref ta) :: (.int 0) :: (.int (nI zo_106)) :: (.int (nI ze_107)) :: (.ref ou) :: (.ref so) :: (.ref ad) :: (.ref na) :: (.ref va) :: (.ref lc) :: (.ref dm) :: (.int v11_108) :: (.int v12_109) :: (.ref tg) :: (.int v14_110) :: (.int v15_111) :: (.ref pe) :: (.int v17_112) :: (.int v18_113) :: (.int v19_114) :: (.int v20_115) :: (.int v21_116) :: (.int v22_117) :: (.ref ml) :: (.ref bg) :: (.ref co) :: (.ref sp) :: (.ref nb0) :: (.ref nb1) :: (.ref nb2) :: (.int (nI nf)) :: (.int (nI bd)) :: (.int (nI mm)) :: (.int v33_118) :: (.ref pl) :: (.ref se) :: (.ref ke) :: (.ref wi) :: (.ref hs) :: (.ref mo) :: (.ref po) :: (.ref nu) :: (.ref pr) :: (.ref sq) :: (.ref xa) :: (.ref sa) :: (.ref n64) :: (.ref m64) :: (.ref ex) :: (.ref wh) :: (.ref sd) :: (.ref tk) :: (.int v52_119) :: (.int v53_120) :: (.int v54_121) :: (.ref hd) :: (.ref ak) :: (.ref ho) :: (.ref ot) :: []) := by rw [he_251, up_ne (ne_ty hT_h0 ht_133 (by simp))]; exact hF_241
  have hF_254 : F_250 xa = .inl (cs 17, 32, .inl f_242) := by rw [he_251, up_ne (ne_ty2 ht_202 ht_133 (by simp))]; exact hF_243
  obtain ⟨f_255, hF_252, hq_256⟩ : ∃ f : Nat → Int32, F_250 ou = .inl (cs 17, 6000, .inl f) ∧ BFm f := ⟨_, hF_252, bfm_cpy hq_244 hq_249 _ _ _⟩
  refine lv_aload_n hx hb dX15_digest__33 rfl (lv_at hl 1 rfl) ?_
  refine lv_bipush (v := 32) hx hb dX15_digest__34 (by decide) ?_
  refine pg_put (ci := 15) (v := .int 32) (ty := .int) (C := RX15) (T := TX15) (N := 59) hx hb hts it_15 tyX15 tyX15_ok nmX15 hown hK hP hD hS hL_h0 hF_253 rfl 2 (by decide) (hts _ kt_924) (fun _ h9 => h9) rfl (by decide +kernel) (rfl) (rfl) (Nat.le_of_ble_eq_true rfl) dX15_digest__36 (fun H locs hP hD hS => ?_)
  obtain ⟨F_257, he_258, hP, hD, hO, hR⟩ : ∃ G, G = va_up F_250 h0 (.inr (15, (.ref ta) :: (.int 0) :: (.int 32) :: (.int (nI ze_107)) :: (.ref ou) :: (.ref so) :: (.ref ad) :: (.ref na) :: (.ref va) :: (.ref lc) :: (.ref dm) :: (.int v11_108) :: (.int v12_109) :: (.ref tg) :: (.int v14_110) :: (.int v15_111) :: (.ref pe) :: (.int v17_112) :: (.int v18_113) :: (.int v19_114) :: (.int v20_115) :: (.int v21_116) :: (.int v22_117) :: (.ref ml) :: (.ref bg) :: (.ref co) :: (.ref sp) :: (.ref nb0) :: (.ref nb1) :: (.ref nb2) :: (.int (nI nf)) :: (.int (nI bd)) :: (.int (nI mm)) :: (.int v33_118) :: (.ref pl) :: (.ref se) :: (.ref ke) :: (.ref wi) :: (.ref hs) :: (.ref mo) :: (.ref po) :: (.ref nu) :: (.ref pr) :: (.ref sq) :: (.ref xa) :: (.ref sa) :: (.ref n64) :: (.ref m64) :: (.ref ex) :: (.ref wh) :: (.ref sd) :: (.ref tk) :: (.int v52_119) :: (.int v53_120) :: (.int v54_121) :: (.ref hd) :: (.ref ak) :: (.ref ho) :: (.ref ot) :: [])) ∧ va_P (dC, dI) vwCl (va_pl L G) H ∧ va_D A (va_pl L G) ∧ OKm cs ty gm L G ∧ FR ty [ρ, ρ + 2, ρ + 17, ρ + 19] F G := ⟨_, rfl, hP, hD, hO.up (shm.mod hT_h0 ⟨32, ze_107, v11_108, v12_109, v14_110, v15_111, v17_112, v18_113, v19_114, v20_115, v21_116, v22_117, v33_118, v52_119, v53_120, v54_121, rfl, (by first | omega | assumption | exact Or.inl rfl | exact Or.inr rfl), (by first | omega | assumption | exact Or.inl rfl | exact Or.inr rfl), (by first | omega | assumption | exact Or.inl rfl | exact Or.inr rfl), (by first | omega | assumption | exact Or.inl rfl | exact Or.inr rfl)⟩), hR.up hT_h0 (by simp)⟩
  have hF_259 : F_257 h0 = .inr (15, (.ref ta) :: (.int 0) :: (.int 32) :: (.int (nI ze_107)) :: (.ref ou) :: (.ref so) :: (.ref ad) :: (.ref na) :: (.ref va) :: (.ref lc) :: (.ref dm) :: (.int v11_108) :: (.int v12_109) :: (.ref tg) :: (.int v14_110) :: (.int v15_111) :: (.ref pe) :: (.int v17_112) :: (.int v18_113) :: (.int v19_114) :: (.int v20_115) :: (.int v21_116) :: (.int v22_117) :: (.ref ml) :: (.ref bg) :: (.ref co) :: (.ref sp) :: (.ref nb0) :: (.ref nb1) :: (.ref nb2) :: (.int (nI nf)) :: (.int (nI bd)) :: (.int (nI mm)) :: (.int v33_118) :: (.ref pl) :: (.ref se) :: (.ref ke) :: (.ref wi) :: (.ref hs) :: (.ref mo) :: (.ref po) :: (.ref nu) :: (.ref pr) :: (.ref sq) :: (.ref xa) :: (.ref sa) :: (.ref n64) :: (.ref m64) :: (.ref ex) :: (.ref wh) :: (.ref sd) :: (.ref tk) :: (.int v52_119) :: (.int v53_120) :: (.int v54_121) :: (.ref hd) :: (.ref ak) :: (.ref ho) :: (.ref ot) :: []) := by rw [he_258]; exact up_self
  have hF_260 : F_257 ou = .inl (cs 17, 6000, .inl f_255) := by rw [he_258, up_ne (ne_ty ht_133 hT_h0 (by simp))]; exact hF_252
  have hF_261 : F_257 xa = .inl (cs 17, 32, .inl f_242) := by rw [he_258, up_ne (ne_ty ht_202 hT_h0 (by simp))]; exact hF_254
  refine lv_bipush (v := 32) hx hb dX15_digest__39 (by decide) ?_
  refine W.widen (k := 0) (n := 0) (by omega) (by omega) ?_
  exact W.iret (v := 32) hx hb hr (fun t ht hWm => ⟨⟨32, (), rfl, rfl, ⟨F_257, ty, hty, QTm.mk ht hP hD hO hR, hW⟩⟩, hS.F ht⟩) hS.2.2 dX15_digest__41
set_option maxHeartbeats 4000000 in
set_option maxRecDepth 100000 in
theorem s_X15_octet (l : Launch) (dC : Nat → ClassId) (dI : Nat → Nat → Nat) (cs : Nat → ClassId) (ty : TyM) (gm : Nat → Nat → Nat) (L : List Nat) (sz : Nat) (F : Nat → va_E) (h0 : Nat) (ρ : Nat) (ta : Nat) (ou : Nat) (so : Nat) (ad : Nat) (na : Nat) (va : Nat) (lc : Nat) (dm : Nat) (tg : Nat) (pe : Nat) (ml : Nat) (bg : Nat) (co : Nat) (sp : Nat) (nb0 : Nat) (nb1 : Nat) (nb2 : Nat) (pl : Nat) (se : Nat) (ke : Nat) (wi : Nat) (hs : Nat) (mo : Nat) (po : Nat) (nu : Nat) (pr : Nat) (sq : Nat) (xa : Nat) (sa : Nat) (n64 : Nat) (m64 : Nat) (ex : Nat) (wh : Nat) (sd : Nat) (tk : Nat) (hd : Nat) (ak : Nat) (ho : Nat) (ot : Nat) (sx : Nat) (s0 : Nat) (s1 : Nat) (s2 : Nat) (nf : Nat) (bd : Nat) (mm : Nat) (zt : Nat) (x1 : Int32) (hW : WTm ty gm L) (hL_h0 : h0 ∈ L) (hT_h0 : ty h0 = (15, ρ, [ta, ou, so, ad, na, va, lc, dm, tg, pe, ml, bg, co, sp, nb0, nb1, nb2, pl, se, ke, wi, hs, mo, po, nu, pr, sq, xa, sa, n64, m64, ex, wh, sd, tk, hd, ak, ho, ot, sx, s0, s1, s2, nf, bd, mm, zt])) : Met l yX15_octet (.code yX15_octet cX15_octet 2 (some .int) :: tb) ({ frames := 1, cells := 0, slots := 0, locals := 25 }) (va_Pc [.ref h0, .int x1] (PTm (dC, dI) cs ty gm L F sz)) (va_Qi (fun (r : Int32) (_ : Unit) => True) (fun _ T9 => ∃ F2 : Nat → va_E, QTm (dC, dI) cs ty gm L [] F F2 (va_A (va_pl L F) sz) T9) (va_A (va_pl L F) sz)) 0 0 (va_A (va_pl L F) sz) := by
  refine Met.ofW (cc := cX15_octet) (maxL := 2) (ret := (some .int)) (by decide) rfl ?_
  intro p e s m args below meth c s₁ B hml hv
  obtain ⟨rfl, hsz, hP, hK, hD0, hE, hO⟩ := hv
  have hx := B.exec
  have hb := B.bytes
  have hr := B.returns
  have hts : ∀ w ∈ tb, w.before _ s = true := fun w h => atoms_spec (ws := .code yX15_octet cX15_octet 2 (some .int) :: tb) B.pre w (List.mem_cons_of_mem _ h)
  have hown : s.vm.findClass RX15 = some m.cls := findClass_of_methodNamed B.named
  have hlocks := B.notSynchronized
  subst hsz
  have hD := hD0.self (sz := s.heap.size)
  generalize hAe : va_A (va_pl L F) s.heap.size = A at hD ⊢
  have hA : ∀ q : Nat, s.heap.size ≤ q → A q := fun q h => by rw [← hAe]; exact Or.inr h
  have hS : va_S A s.heap s.heap [] := va_S.rf
  have hR : FR ty [] F F := FR.refl
  have hl := lv_entry ([.ref h0, .int x1]) (n := 2) (Nat.le_of_ble_eq_true rfl)
  rw [lg_entry_eq]
  generalize (lg_sl ([.ref h0, .int x1]) ++ List.replicate (2 - (lg_sl ([.ref h0, .int x1])).length) Slot.unset).toArray = ls at hl ⊢
  have hl : lv_has ls 2 [(0, .ref h0), (1, .int x1)] := hl
  obtain ⟨hi_1, ht_2, hi_3, ht_4, hi_5, ht_6, hi_7, ht_8, hi_9, ht_10, hi_11, ht_12, hi_13, ⟨r_14, ht_15⟩, hi_16, ⟨r_17, ht_18⟩, hi_19, ht_20, hi_21, ⟨r_22, ht_23⟩, hi_24, ht_25, hi_26, ht_27, hi_28, ht_29, hi_30, ht_31, hi_32, ht_33, hi_34, ht_35, hi_36, ht_37, hi_38, ⟨r_39, ht_40⟩, hi_41, ht_42, hi_43, ⟨x_44, y0_45, y1_46, y2_47, ht_48⟩, hi_49, ⟨x_50, y0_51, y1_52, y2_53, ht_54⟩, hi_55, ⟨x_56, y_57, w_58, u_59, bl_60, ht_61⟩, hi_62, ht_63, hi_64, ht_65, hi_66, ht_67, hi_68, ht_69, hi_70, ht_71, hi_72, ht_73, hi_74, ht_75, hi_76, ht_77, hi_78, ht_79, hi_80, ht_81, hi_82, ⟨r_83, ht_84⟩, hi_85, ⟨r_86, ht_87⟩, hi_88, ht_89, hi_90, ht_91, hi_92, ⟨r_93, ht_94⟩, hi_95, ⟨r_96, ht_97⟩, hi_98, ⟨r_99, ht_100⟩, hq_101, hq_102, hq_103, hq_104, hq_105, hgO, hgA, hgB⟩ := hW.mod hL_h0 hT_h0
  refine lv_iload_n hx hb dX15_octet_0 rfl (lv_at hl 1 rfl) ?_
  refine lv_i2l (v := x1.toInt64) hx hb dX15_octet_1 rfl ?_
  refine lv_ldc2 (v := (-1)) hx hb hown (hts _ kt_1076) dX15_octet_2 ?_
  refine lv_aload_n hx hb dX15_octet_5 rfl (lv_at hl 0 rfl) ?_
  obtain ⟨zo_106, ze_107, v11_108, v12_109, v14_110, v15_111, v17_112, v18_113, v19_114, v20_115, v21_116, v22_117, v33_118, v52_119, v53_120, v54_121, hF_122, hq_123, hq_124, hq_125, hq_126⟩ := hO.mod hL_h0 hT_h0
  refine pg_get (ci := 15) (v := .int (nI zo_106)) (C := RX15) (T := TX15) (N := 59) hx hb hts it_15 hown hK hP hL_h0 hF_122 rfl 2 (by decide) (hts _ kt_924) (fun _ h9 => h9) rfl dX15_octet_6 ?_
  refine lv_iconst (v := 1) hx hb dX15_octet_9 (by decide) ?_
  refine lv_isub hx hb dX15_octet_10 ?_
  refine lv_topi (fun x_127 ex_127 => ?_)
  obtain rfl : x_127 = ((nI zo_106) - 1) := ex_127.trans (rfl)
  refine lv_i2l (v := ((nI zo_106) - 1).toInt64) hx hb dX15_octet_11 rfl ?_
  have hFc := pg_free hD hS hA
  refine va_calli (va_runS (As := [.long x1.toInt64, .long (-1), .long (((nI zo_106) - 1).toInt64)]) (rest := []) ⟨hx, hb, hml, hown, hts⟩ (s_X15_in l dC dI cs ty gm L s.heap.size F x1.toInt64 (-1) (((nI zo_106) - 1).toInt64) hW ) ⟨callB_of 3 hts (gi kt_685) rfl rfl rfl (hts _ kt_669) (hts _ kt_705) (by decide +kernel) ⟨Nat.le_of_ble_eq_true rfl, Nat.le_of_ble_eq_true rfl⟩, (hts _ kt_686)⟩ ⟨fun a U g mk q => ⟨q.1, PTm.calling q.2⟩, fun U hU hWm => ⟨rfl, PTm.mk hU hWm hP hK hD hE hO⟩⟩ rfl rfl hl.1 rfl (lv_room (Nat.le_of_ble_eq_true rfl)) dX15_octet_12 ⟨by show _ + 0 ≤ 0; omega, by show _ + 0 ≤ 0; omega⟩) hS (fun q _ h => hFc q h) hFc (fun r_128 u t H1 locs ht hvm hw hB hz1 hk1 hS => ?_)
  obtain ⟨F_129, hB1⟩ := hB
  obtain rfl : F = F_129 := (funext (fun a => hB1.2.2.2 a List.not_mem_nil)).symm
  obtain ⟨hP, hD, hO, hR⟩ := QTm.back hB1 ht hFc hR (fun q h => absurd h List.not_mem_nil)
  generalize H1 = H at hP hS ⊢
  have hw : r_128 = (if (-1) ≤ x1.toInt64 ∧ x1.toInt64 ≤ ((nI zo_106) - 1).toInt64 then 1 else 0) := hw
  have hw_130 := hw
  refine lv_if_ne (tgt := 21) hx hb dX15_octet_15 (by decide) (fun c_131 => ?_) (fun c_131 => ?_)
  ·
    refine lv_iload_n hx hb dX15_octet_21 rfl (lv_at hl 1 rfl) ?_
    refine lv_if_ge (tgt := 32) hx hb dX15_octet_22 (by decide) (fun c_132 => ?_) (fun c_132 => ?_)
    ·
      have hin := in_int hw_130 c_131
      rw [Int32.toInt_toInt64, show (1 : Int32) = nI 1 from rfl, pk_sub_toInt (by omega) (by omega)] at hin
      obtain ⟨k, hk, rfl⟩ := nI_of (Int32.not_lt.mpr c_132)
      rw [nI_toInt hk] at hin
      refine lv_aload_n hx hb dX15_octet_32 rfl (lv_at hl 0 rfl) ?_
      refine pg_get (ci := 15) (v := .ref ou) (C := RX15) (T := TX15) (N := 59) hx hb hts it_15 hown hK hP hL_h0 hF_122 rfl 4 (by decide) (hts _ kt_922) (fun _ h9 => h9) rfl dX15_octet_33 ?_
      refine lv_iload_n hx hb dX15_octet_36 rfl (lv_at hl 1 rfl) ?_
      obtain ⟨hq_133, hq_134⟩ := hW.octs hi_3 ht_4
      obtain ⟨f_135, hF_136, hq_137⟩ := hO.octs hi_3 ht_4
      refine pg_bald hx hb hK hP hi_3 1 hF_136 rfl (vp_in_nI (by omega) (by omega)) dX15_octet_37 ?_
      refine lv_topi (fun x_138 ex_138 => ?_)
      obtain rfl : x_138 = f_135 k := ex_138.trans (congrArg f_135 (show ((nI k) : Int32).toNatClampNeg = k from nI_clamp (by omega)))
      refine lv_sipush (v := 255) hx hb dX15_octet_38 (by decide) ?_
      refine lv_iand hx hb dX15_octet_41 ?_
      refine lv_topi (fun x_139 _ => ?_)
      refine W.widen (k := 0) (n := 0) (by omega) (by omega) ?_
      exact W.iret (v := x_139) hx hb hr (fun t ht hWm => ⟨⟨x_139, (), rfl, trivial, ⟨F, QTm.mk ht hP hD hO hR⟩⟩, hS.F ht⟩) hS.2.2 dX15_octet_42
    ·
      refine lv_aload_n hx hb dX15_octet_25 rfl (lv_at hl 0 rfl) ?_
      refine pg_get (ci := 15) (v := .int (nI zo_106)) (C := RX15) (T := TX15) (N := 59) hx hb hts it_15 hown hK hP hL_h0 hF_122 rfl 2 (by decide) (hts _ kt_924) (fun _ h9 => h9) rfl dX15_octet_26 ?_
      refine lv_goto (tgt := 42) hx hb dX15_octet_29 (by decide) ?_
      refine W.widen (k := 0) (n := 0) (by omega) (by omega) ?_
      exact W.iret (v := (nI zo_106)) hx hb hr (fun t ht hWm => ⟨⟨(nI zo_106), (), rfl, trivial, ⟨F, QTm.mk ht hP hD hO hR⟩⟩, hS.F ht⟩) hS.2.2 dX15_octet_42
  ·
    refine lv_bipush (v := (-2)) hx hb dX15_octet_18 (by decide) ?_
    refine W.widen (k := 0) (n := 0) (by omega) (by omega) ?_
    exact W.iret (v := (-2)) hx hb hr (fun t ht hWm => ⟨⟨(-2), (), rfl, trivial, ⟨F, QTm.mk ht hP hD hO hR⟩⟩, hS.F ht⟩) hS.2.2 dX15_octet_20
set_option maxHeartbeats 4000000 in
set_option maxRecDepth 100000 in
theorem s_X15_sender (l : Launch) (dC : Nat → ClassId) (dI : Nat → Nat → Nat) (cs : Nat → ClassId) (ty : TyM) (gm : Nat → Nat → Nat) (L : List Nat) (sz : Nat) (F : Nat → va_E) (h0 : Nat) (ρ : Nat) (ta : Nat) (ou : Nat) (so : Nat) (ad : Nat) (na : Nat) (va : Nat) (lc : Nat) (dm : Nat) (tg : Nat) (pe : Nat) (ml : Nat) (bg : Nat) (co : Nat) (sp : Nat) (nb0 : Nat) (nb1 : Nat) (nb2 : Nat) (pl : Nat) (se : Nat) (ke : Nat) (wi : Nat) (hs : Nat) (mo : Nat) (po : Nat) (nu : Nat) (pr : Nat) (sq : Nat) (xa : Nat) (sa : Nat) (n64 : Nat) (m64 : Nat) (ex : Nat) (wh : Nat) (sd : Nat) (tk : Nat) (hd : Nat) (ak : Nat) (ho : Nat) (ot : Nat) (sx : Nat) (s0 : Nat) (s1 : Nat) (s2 : Nat) (nf : Nat) (bd : Nat) (mm : Nat) (zt : Nat) (x1 : Int32) (hW : WTm ty gm L) (hL_h0 : h0 ∈ L) (hT_h0 : ty h0 = (15, ρ, [ta, ou, so, ad, na, va, lc, dm, tg, pe, ml, bg, co, sp, nb0, nb1, nb2, pl, se, ke, wi, hs, mo, po, nu, pr, sq, xa, sa, n64, m64, ex, wh, sd, tk, hd, ak, ho, ot, sx, s0, s1, s2, nf, bd, mm, zt])) : Met l yX15_sender (.code yX15_sender cX15_sender 6 (some .int) :: tb) ({ frames := 3, cells := 0, slots := 0, locals := 94 }) (va_Pc [.ref h0, .int x1] (PTm (dC, dI) cs ty gm L F sz)) (va_Qi (fun (r : Int32) (_ : Unit) => True) (fun _ T9 => ∃ F2 : Nat → va_E, ∃ ty2 : TyM, ty2 = rtf ty h0 (15, ρ, [ta, ou, so, ad, na, va, lc, dm, tg, pe, ml, bg, co, sp, nb0, nb1, nb2, pl, se, ke, wi, hs, mo, po, nu, pr, sq, xa, sa, n64, m64, ex, wh, sd, tk, hd, ak, ho, ot, sx, s0, s1, s2, nf, bd, mm, 0]) ∧ QTm (dC, dI) cs ty2 gm L [ρ, ρ + 5] F F2 (va_A (va_pl L F) sz) T9 ∧ WTm ty2 gm L) (va_A (va_pl L F) sz)) 0 0 (va_A (va_pl L F) sz) := by
  refine Met.ofW (cc := cX15_sender) (maxL := 6) (ret := (some .int)) (by decide) rfl ?_
  intro p e s m args below meth c s₁ B hml hv
  obtain ⟨rfl, hsz, hP, hK, hD0, hE, hO⟩ := hv
  have hx := B.exec
  have hb := B.bytes
  have hr := B.returns
  have hts : ∀ w ∈ tb, w.before _ s = true := fun w h => atoms_spec (ws := .code yX15_sender cX15_sender 6 (some .int) :: tb) B.pre w (List.mem_cons_of_mem _ h)
  have hown : s.vm.findClass RX15 = some m.cls := findClass_of_methodNamed B.named
  have hlocks := B.notSynchronized
  subst hsz
  have hD := hD0.self (sz := s.heap.size)
  generalize hAe : va_A (va_pl L F) s.heap.size = A at hD ⊢
  have hA : ∀ q : Nat, s.heap.size ≤ q → A q := fun q h => by rw [← hAe]; exact Or.inr h
  have hS : va_S A s.heap s.heap [] := va_S.rf
  have hR : FR ty [ρ, ρ + 5] F F := FR.refl
  have hl := lv_entry ([.ref h0, .int x1]) (n := 6) (Nat.le_of_ble_eq_true rfl)
  rw [lg_entry_eq]
  generalize (lg_sl ([.ref h0, .int x1]) ++ List.replicate (6 - (lg_sl ([.ref h0, .int x1])).length) Slot.unset).toArray = ls at hl ⊢
  have hl : lv_has ls 6 [(0, .ref h0), (1, .int x1)] := hl
  obtain ⟨hi_1, ht_2, hi_3, ht_4, hi_5, ht_6, hi_7, ht_8, hi_9, ht_10, hi_11, ht_12, hi_13, ⟨r_14, ht_15⟩, hi_16, ⟨r_17, ht_18⟩, hi_19, ht_20, hi_21, ⟨r_22, ht_23⟩, hi_24, ht_25, hi_26, ht_27, hi_28, ht_29, hi_30, ht_31, hi_32, ht_33, hi_34, ht_35, hi_36, ht_37, hi_38, ⟨r_39, ht_40⟩, hi_41, ht_42, hi_43, ⟨x_44, y0_45, y1_46, y2_47, ht_48⟩, hi_49, ⟨x_50, y0_51, y1_52, y2_53, ht_54⟩, hi_55, ⟨x_56, y_57, w_58, u_59, bl_60, ht_61⟩, hi_62, ht_63, hi_64, ht_65, hi_66, ht_67, hi_68, ht_69, hi_70, ht_71, hi_72, ht_73, hi_74, ht_75, hi_76, ht_77, hi_78, ht_79, hi_80, ht_81, hi_82, ⟨r_83, ht_84⟩, hi_85, ⟨r_86, ht_87⟩, hi_88, ht_89, hi_90, ht_91, hi_92, ⟨r_93, ht_94⟩, hi_95, ⟨r_96, ht_97⟩, hi_98, ⟨r_99, ht_100⟩, hq_101, hq_102, hq_103, hq_104, hq_105, hgO, hgA, hgB⟩ := hW.mod hL_h0 hT_h0
  refine lv_aload_n hx hb dX15_sender_0 rfl (lv_at hl 0 rfl) ?_
  obtain ⟨zo_106, ze_107, v11_108, v12_109, v14_110, v15_111, v17_112, v18_113, v19_114, v20_115, v21_116, v22_117, v33_118, v52_119, v53_120, v54_121, hF_122, hq_123, hq_124, hq_125, hq_126⟩ := hO.mod hL_h0 hT_h0
  have hFc := pg_free hD hS hA
  refine va_calli (va_runV (As := []) (rest := []) ⟨hx, hb, hml, hown, hts⟩ (s_X15_used l dC dI cs ty gm L s.heap.size F h0 ρ ta ou so ad na va lc dm tg pe ml bg co sp nb0 nb1 nb2 pl se ke wi hs mo po nu pr sq xa sa n64 m64 ex wh sd tk hd ak ho ot sx s0 s1 s2 nf bd mm zt zo_106 ze_107 v11_108 v12_109 v14_110 v15_111 v17_112 v18_113 v19_114 v20_115 v21_116 v22_117 v33_118 v52_119 v53_120 v54_121 hW hL_h0 hT_h0 hF_122 (by first | omega | assumption) (by first | omega | assumption) (by first | omega | assumption) (by first | omega | assumption)) ⟨callB_of 0 hts (gi kt_1071) rfl rfl rfl (hts _ kt_669) (hts _ kt_1072) (by decide +kernel) ⟨Nat.le_of_ble_eq_true rfl, Nat.le_of_ble_eq_true rfl⟩, (hts _ kt_1073), (hts _ kt_1074)⟩ ⟨fun a U g mk q => ⟨q.1, PTm.calling q.2⟩, pg_recv hK hP hL_h0 hF_122 (q := (RX15, TX15, 59)) rfl, fun U hU hWm => ⟨rfl, PTm.mk hU hWm hP hK hD hE hO⟩⟩ rfl rfl hl.1 rfl (lv_room (Nat.le_of_ble_eq_true rfl)) dX15_sender_1 ⟨by show _ + 0 ≤ 0; omega, by show _ + 0 ≤ 0; omega⟩) hS (fun q _ h => hFc q h) hFc (fun r_127 u t H1 locs ht hvm hw hB hz1 hk1 hS => ?_)
  obtain ⟨F_128, ty9, hty9, hB1, hW9, hq_129⟩ := hB
  subst hty9
  have hR9 := FR.retype (im2 := [ta, ou, so, ad, na, va, lc, dm, tg, pe, ml, bg, co, sp, nb0, nb1, nb2, pl, se, ke, wi, hs, mo, po, nu, pr, sq, xa, sa, n64, m64, ex, wh, sd, tk, hd, ak, ho, ot, sx, s0, s1, s2, nf, bd, mm, 0]) hT_h0 hR
  obtain ⟨hP, hD, hO, hR⟩ := QTm.back hB1 ht hFc hR9 (fun q h => by simp only [List.mem_cons, List.not_mem_nil, or_false] at h ⊢; omega)
  obtain ⟨ty, hty, hT_h0, hW, hO, hR⟩ : ∃ t9 : TyM, t9 = rtf ty h0 (15, ρ, [ta, ou, so, ad, na, va, lc, dm, tg, pe, ml, bg, co, sp, nb0, nb1, nb2, pl, se, ke, wi, hs, mo, po, nu, pr, sq, xa, sa, n64, m64, ex, wh, sd, tk, hd, ak, ho, ot, sx, s0, s1, s2, nf, bd, mm, 0]) ∧ t9 h0 = (15, ρ, [ta, ou, so, ad, na, va, lc, dm, tg, pe, ml, bg, co, sp, nb0, nb1, nb2, pl, se, ke, wi, hs, mo, po, nu, pr, sq, xa, sa, n64, m64, ex, wh, sd, tk, hd, ak, ho, ot, sx, s0, s1, s2, nf, bd, mm, 0]) ∧ WTm t9 gm L ∧ OKm cs t9 gm L F_128 ∧ FR t9 [ρ, ρ + 5] F F_128 := ⟨_, rfl, rtf_self, hW9, hO, hR⟩
  generalize H1 = H at hP hS ⊢
  have hw : r_127 = nI zt := hw
  subst hw
  obtain ⟨hi_130, ht_131, hi_132, ht_133, hi_134, ht_135, hi_136, ht_137, hi_138, ht_139, hi_140, ht_141, hi_142, ⟨r_143, ht_144⟩, hi_145, ⟨r_146, ht_147⟩, hi_148, ht_149, hi_150, ⟨r_151, ht_152⟩, hi_153, ht_154, hi_155, ht_156, hi_157, ht_158, hi_159, ht_160, hi_161, ht_162, hi_163, ht_164, hi_165, ht_166, hi_167, ⟨r_168, ht_169⟩, hi_170, ht_171, hi_172, ⟨x_173, y0_174, y1_175, y2_176, ht_177⟩, hi_178, ⟨x_179, y0_180, y1_181, y2_182, ht_183⟩, hi_184, ⟨x_185, y_186, w_187, u_188, bl_189, ht_190⟩, hi_191, ht_192, hi_193, ht_194, hi_195, ht_196, hi_197, ht_198, hi_199, ht_200, hi_201, ht_202, hi_203, ht_204, hi_205, ht_206, hi_207, ht_208, hi_209, ht_210, hi_211, ⟨r_212, ht_213⟩, hi_214, ⟨r_215, ht_216⟩, hi_217, ht_218, hi_219, ht_220, hi_221, ⟨r_222, ht_223⟩, hi_224, ⟨r_225, ht_226⟩, hi_227, ⟨r_228, ht_229⟩, hq_230, hq_231, hq_232, hq_233, hq_234, hgO, hgA, hgB⟩ := hW.mod hL_h0 hT_h0
  refine lv_istore_n (lv' := [(2, .int (nI zt)), (0, .ref h0), (1, .int x1)]) hx hb dX15_sender_4 rfl hl (by decide) rfl (fun ls hl => ?_)
  refine lv_iconst (v := 0) hx hb dX15_sender_5 (by decide) ?_
  refine lv_istore_n (lv' := [(3, .int 0), (2, .int (nI zt)), (0, .ref h0), (1, .int x1)]) hx hb dX15_sender_6 rfl hl (by decide) rfl (fun ls hl => ?_)
  refine W.widen (k := 0) (n := 0) (by omega) (by omega) ?_
  refine pl_loopm (σ := Nat) A (dC, dI) cs ty gm L [ρ, ρ + 5] F 7 6 (fun j => [(3, .int (nI j)), (2, .int (nI zt)), (0, .ref h0), (1, .int x1)]) (fun j => []) (fun j _ => j ≤ zt) (fun j => zt - j) ?_ 0 F_128 (by omega) hO hR _ _ hP hD hS ls (lv_sub hl [0, 1, 2, 3] rfl)
  rintro j F_235 hv_236 hO hR ih_237 H locs hP hD hS ls hl
  have hl : lv_has ls 6 [(3, .int (nI j)), (2, .int (nI zt)), (0, .ref h0), (1, .int x1)] := hl
  have hv_236 : j ≤ zt := hv_236
  refine W.eq (g2 := F0 m 7 ls []) rfl ?_
  refine lv_iload_n hx hb dX15_sender_7 rfl (lv_at hl 0 rfl) ?_
  refine lv_iload_n hx hb dX15_sender_8 rfl (lv_at hl 1 rfl) ?_
  refine lv_icmp_ge (tgt := 29) hx hb dX15_sender_9 (by decide) (fun c_238 => ?_) (fun c_238 => ?_)
  ·
    have hi_239 : zt ≤ j := leN (N := zt) c_238
    refine lv_iload_n hx hb dX15_sender_29 rfl (lv_at hl 0 rfl) ?_
    refine lv_iload_n hx hb dX15_sender_30 rfl (lv_at hl 1 rfl) ?_
    refine lv_icmp_eq (tgt := 60) hx hb dX15_sender_31 (by decide) (fun c_240 => ?_) (fun c_240 => ?_)
    ·
      have hi_241 : j = zt := (nI_eq (a := j) (b := zt) (by omega) (by omega)).mp c_240
      refine lv_iconst (v := (-1)) hx hb dX15_sender_60 (by decide) ?_
      refine W.widen (k := 0) (n := 0) (by omega) (by omega) ?_
      exact W.iret (v := (-1)) hx hb hr (fun t ht hWm => ⟨⟨(-1), (), rfl, trivial, ⟨F_235, ty, hty, QTm.mk ht hP hD hO hR, hW⟩⟩, hS.F ht⟩) hS.2.2 dX15_sender_61
    ·
      have hi_242 : j ≠ zt := fun q => c_240 (by rw [q])
      refine lv_iload_n hx hb dX15_sender_34 rfl (lv_at hl 0 rfl) ?_
      refine lv_i2l (v := (nI j).toInt64) hx hb dX15_sender_35 rfl ?_
      refine lv_lconst (v := 1) hx hb dX15_sender_36 (by decide) ?_
      refine lv_ldc2 (v := 30) hx hb hown (hts _ kt_1077) dX15_sender_37 ?_
      have hFc := pg_free hD hS hA
      refine va_calli (va_runS (As := [.long ((nI j).toInt64), .long 1, .long 30]) (rest := []) ⟨hx, hb, hml, hown, hts⟩ (s_X15_in l dC dI cs ty gm L H.size F_235 ((nI j).toInt64) 1 30 hW ) ⟨callB_of 3 hts (gi kt_685) rfl rfl rfl (hts _ kt_669) (hts _ kt_705) (by decide +kernel) ⟨Nat.le_of_ble_eq_true rfl, Nat.le_of_ble_eq_true rfl⟩, (hts _ kt_686)⟩ ⟨fun a U g mk q => ⟨q.1, PTm.calling q.2⟩, fun U hU hWm => ⟨rfl, PTm.mk hU hWm hP hK hD hE hO⟩⟩ rfl rfl hl.1 rfl (lv_room (Nat.le_of_ble_eq_true rfl)) dX15_sender_40 ⟨by show _ + 0 ≤ 0; omega, by show _ + 0 ≤ 0; omega⟩) hS (fun q _ h => hFc q h) hFc (fun r_243 u t H1 locs ht hvm hw hB hz1 hk1 hS => ?_)
      obtain ⟨F_244, hB1⟩ := hB
      obtain rfl : F_235 = F_244 := (funext (fun a => hB1.2.2.2 a List.not_mem_nil)).symm
      obtain ⟨hP, hD, hO, hR⟩ := QTm.back hB1 ht hFc hR (fun q h => absurd h List.not_mem_nil)
      generalize H1 = H at hP hS ⊢
      have hw : r_243 = (if 1 ≤ (nI j).toInt64 ∧ (nI j).toInt64 ≤ 30 then 1 else 0) := hw
      have hw_245 := hw
      refine lv_if_eq (tgt := 60) hx hb dX15_sender_43 (by decide) (fun c_246 => ?_) (fun c_246 => ?_)
      ·
        refine lv_iconst (v := (-1)) hx hb dX15_sender_60 (by decide) ?_
        refine W.widen (k := 0) (n := 0) (by omega) (by omega) ?_
        exact W.iret (v := (-1)) hx hb hr (fun t ht hWm => ⟨⟨(-1), (), rfl, trivial, ⟨F_235, ty, hty, QTm.mk ht hP hD hO hR, hW⟩⟩, hS.F ht⟩) hS.2.2 dX15_sender_61
      ·
        have hin := in_nat (lo := 1) (hi := 30) hw_245 c_246 (by decide) (by decide) (by omega)
        refine lv_aload_n hx hb dX15_sender_46 rfl (lv_at hl 2 rfl) ?_
        obtain ⟨zo_247, ze_248, v11_249, v12_250, v14_251, v15_252, v17_253, v18_254, v19_255, v20_256, v21_257, v22_258, v33_259, v52_260, v53_261, v54_262, hF_263, hq_264, hq_265, hq_266, hq_267⟩ := hO.mod hL_h0 hT_h0
        refine pg_get (ci := 15) (v := .ref ta) (C := RX15) (T := TX15) (N := 59) hx hb hts it_15 hown hK hP hL_h0 hF_263 rfl 0 (by decide) (hts _ kt_1075) (fun _ h9 => h9) rfl dX15_sender_47 ?_
        refine lv_iload_n hx hb dX15_sender_50 rfl (lv_at hl 0 rfl) ?_
        refine lv_iconst (v := 1) hx hb dX15_sender_51 (by decide) ?_
        refine lv_iadd hx hb dX15_sender_52 ?_
        refine lv_topi (fun x_268 ex_268 => ?_)
        obtain rfl : x_268 = (nI (j + 1)) := ex_268.trans (nI_add j 1)
        refine lv_iload_n hx hb dX15_sender_53 rfl (lv_at hl 1 rfl) ?_
        obtain ⟨hq_269, hq_270⟩ := hW.octs hi_130 ht_131
        have hFc := pg_free hD hS hA
        refine va_calli (va_runS (As := [.ref ta, .int (nI (j + 1)), .int (nI zt)]) (rest := []) ⟨hx, hb, hml, hown, hts⟩ (s_X14_isName_ l dC dI cs ty gm L H.size F_235 ta (ρ + 1) 3000 (j + 1) zt hW hi_130 ht_131 (by first | omega | assumption) (by first | omega | assumption)) ⟨callB_of 3 hts (gi kt_689) rfl rfl rfl (hts _ kt_676) (hts _ kt_863) (by decide +kernel) ⟨Nat.le_of_ble_eq_true rfl, Nat.le_of_ble_eq_true rfl⟩, (hts _ kt_691)⟩ ⟨fun a U g mk q => ⟨q.1, PTm.calling q.2⟩, fun U hU hWm => ⟨rfl, PTm.mk hU hWm hP hK hD hE hO⟩⟩ rfl rfl hl.1 rfl (lv_room (Nat.le_of_ble_eq_true rfl)) dX15_sender_54 ⟨by show _ + 0 ≤ 0; omega, by show _ + 0 ≤ 0; omega⟩) hS (fun q _ h => hFc q h) hFc (fun r_271 u t H1 locs ht hvm hw hB hz1 hk1 hS => ?_)
        obtain ⟨F_272, hB1⟩ := hB
        obtain rfl : F_235 = F_272 := (funext (fun a => hB1.2.2.2 a List.not_mem_nil)).symm
        obtain ⟨hP, hD, hO, hR⟩ := QTm.back hB1 ht hFc hR (fun q h => absurd h List.not_mem_nil)
        generalize H1 = H at hP hS ⊢
        have hw : (r_271 = 0 ∨ (r_271 = 1 ∧ (j + 1) < zt ∧ zt ≤ j + 61)) := hw
        have hw_273 := hw
        refine lv_if_ne (tgt := 62) hx hb dX15_sender_57 (by decide) (fun c_274 => ?_) (fun c_274 => ?_)
        ·
          have hnm := bit1 hw_273 c_274
          refine lv_iconst (v := 0) hx hb dX15_sender_62 (by decide) ?_
          refine lv_istore (lv' := [(4, .int 0), (3, .int (nI j)), (2, .int (nI zt)), (0, .ref h0), (1, .int x1)]) hx hb dX15_sender_63 hl (by decide) rfl (fun ls hl => ?_)
          refine W.widen (k := 0) (n := 0) (by omega) (by omega) ?_
          refine pl_loopm (σ := Nat) A (dC, dI) cs ty gm L [ρ, ρ + 5] F 65 6 (fun i => [(4, .int (nI i)), (3, .int (nI j)), (2, .int (nI zt)), (0, .ref h0), (1, .int x1)]) (fun i => []) (fun i _ => i ≤ j) (fun i => j - i) ?_ 0 F_235 (by omega) hO hR _ _ hP hD hS ls (lv_sub hl [0, 1, 2, 3, 4] rfl)
          rintro i F_275 hv_276 hO hR ih_277 H locs hP hD hS ls hl
          have hl : lv_has ls 6 [(4, .int (nI i)), (3, .int (nI j)), (2, .int (nI zt)), (0, .ref h0), (1, .int x1)] := hl
          have hv_276 : i ≤ j := hv_276
          refine W.eq (g2 := F0 m 65 ls []) rfl ?_
          refine lv_iload hx hb dX15_sender_65 (lv_at hl 0 rfl) ?_
          refine lv_iload_n hx hb dX15_sender_67 rfl (lv_at hl 1 rfl) ?_
          refine lv_icmp_ge (tgt := 132) hx hb dX15_sender_68 (by decide) (fun c_278 => ?_) (fun c_278 => ?_)
          ·
            have hi_279 : j ≤ i := leN (N := j) c_278
            refine lv_aload_n hx hb dX15_sender_132 rfl (lv_at hl 3 rfl) ?_
            obtain ⟨zo_280, ze_281, v11_282, v12_283, v14_284, v15_285, v17_286, v18_287, v19_288, v20_289, v21_290, v22_291, v33_292, v52_293, v53_294, v54_295, hF_296, hq_297, hq_298, hq_299, hq_300⟩ := hO.mod hL_h0 hT_h0
            refine pg_get (ci := 15) (v := .ref lc) (C := RX15) (T := TX15) (N := 59) hx hb hts it_15 hown hK hP hL_h0 hF_296 rfl 9 (by decide) (hts _ kt_778) (fun _ h9 => h9) rfl dX15_sender_133 ?_
            refine lv_aload_n hx hb dX15_sender_136 rfl (lv_at hl 3 rfl) ?_
            refine pg_get (ci := 15) (v := .ref ta) (C := RX15) (T := TX15) (N := 59) hx hb hts it_15 hown hK hP hL_h0 hF_296 rfl 0 (by decide) (hts _ kt_1075) (fun _ h9 => h9) rfl dX15_sender_137 ?_
            refine lv_iconst (v := 0) hx hb dX15_sender_140 (by decide) ?_
            refine lv_iload_n hx hb dX15_sender_141 rfl (lv_at hl 1 rfl) ?_
            refine W.eq (g2 := F0 m 142 ls [.int (nI j), .int (nI 0), .ref ta, .ref lc]) rfl ?_
            obtain ⟨hi_301, ht_302, hq_303⟩ := hW.txt hi_142 ht_144
            have hFc := pg_free hD hS hA
            obtain ⟨z_304, hF_305, hq_306⟩ := hO.txt hi_142 ht_144
            refine va_callv (va_runV (As := [.ref ta, .int (nI 0), .int (nI j)]) (rest := []) ⟨hx, hb, hml, hown, hts⟩ (s_X14_set l dC dI cs ty gm L H.size F_275 lc (ρ + 5) r_143 30 ta (ρ + 1) 3000 0 j hW hi_142 ht_144 hi_130 ht_131 (by first | omega | assumption) (by first | omega | assumption) (by first | omega | assumption)) ⟨callB_of 3 hts (gi kt_979) rfl rfl rfl (hts _ kt_676) (hts _ kt_980) (by decide +kernel) ⟨Nat.le_of_ble_eq_true rfl, Nat.le_of_ble_eq_true rfl⟩, (hts _ kt_981), (hts _ kt_982)⟩ ⟨fun a U g mk q => ⟨q.1, PTm.calling q.2⟩, pg_recv hK hP hi_142 hF_305 (q := (RX14, TX14, 2)) rfl, fun U hU hWm => ⟨rfl, PTm.mk hU hWm hP hK hD hE hO⟩⟩ rfl rfl hl.1 rfl (lv_room (Nat.le_of_ble_eq_true rfl)) dX15_sender_142 ⟨by show _ + 0 ≤ 0; omega, by show _ + 0 ≤ 0; omega⟩) hS (fun q _ h => hFc q h) hFc (fun u t H1 locs ht hvm hw hB hz1 hk1 hS => ?_)
            obtain ⟨F_308, hB1, hq_309⟩ := hB
            obtain ⟨hP, hD, hO, hR⟩ := QTm.back hB1 ht hFc hR (fun q h => by simp only [List.mem_cons, List.not_mem_nil, or_false] at h ⊢; omega)
            have hF_310 : F_308 h0 = .inr (15, (.ref ta) :: (.int (nI 0)) :: (.int (nI zo_280)) :: (.int (nI ze_281)) :: (.ref ou) :: (.ref so) :: (.ref ad) :: (.ref na) :: (.ref va) :: (.ref lc) :: (.ref dm) :: (.int v11_282) :: (.int v12_283) :: (.ref tg) :: (.int v14_284) :: (.int v15_285) :: (.ref pe) :: (.int v17_286) :: (.int v18_287) :: (.int v19_288) :: (.int v20_289) :: (.int v21_290) :: (.int v22_291) :: (.ref ml) :: (.ref bg) :: (.ref co) :: (.ref sp) :: (.ref nb0) :: (.ref nb1) :: (.ref nb2) :: (.int (nI nf)) :: (.int (nI bd)) :: (.int (nI mm)) :: (.int v33_292) :: (.ref pl) :: (.ref se) :: (.ref ke) :: (.ref wi) :: (.ref hs) :: (.ref mo) :: (.ref po) :: (.ref nu) :: (.ref pr) :: (.ref sq) :: (.ref xa) :: (.ref sa) :: (.ref n64) :: (.ref m64) :: (.ref ex) :: (.ref wh) :: (.ref sd) :: (.ref tk) :: (.int v52_293) :: (.int v53_294) :: (.int v54_295) :: (.ref hd) :: (.ref ak) :: (.ref ho) :: (.ref ot) :: []) := (hB1.2.2.2 h0 (by rw [hT_h0]; simp)).trans hF_296
            generalize H1 = H at hP hS ⊢
            refine lv_aload_n hx hb dX15_sender_145 rfl (lv_at hl 3 rfl) ?_
            refine pg_get (ci := 15) (v := .ref dm) (C := RX15) (T := TX15) (N := 59) hx hb hts it_15 hown hK hP hL_h0 hF_310 rfl 10 (by decide) (hts _ kt_777) (fun _ h9 => h9) rfl dX15_sender_146 ?_
            refine lv_aload_n hx hb dX15_sender_149 rfl (lv_at hl 3 rfl) ?_
            refine pg_get (ci := 15) (v := .ref ta) (C := RX15) (T := TX15) (N := 59) hx hb hts it_15 hown hK hP hL_h0 hF_310 rfl 0 (by decide) (hts _ kt_1075) (fun _ h9 => h9) rfl dX15_sender_150 ?_
            refine lv_iload_n hx hb dX15_sender_153 rfl (lv_at hl 1 rfl) ?_
            refine lv_iconst (v := 1) hx hb dX15_sender_154 (by decide) ?_
            refine lv_iadd hx hb dX15_sender_155 ?_
            refine lv_topi (fun x_311 ex_311 => ?_)
            obtain rfl : x_311 = (nI (j + 1)) := ex_311.trans (nI_add j 1)
            refine lv_iload_n hx hb dX15_sender_156 rfl (lv_at hl 2 rfl) ?_
            obtain ⟨hi_312, ht_313, hq_314⟩ := hW.txt hi_145 ht_147
            have hFc := pg_free hD hS hA
            obtain ⟨z_315, hF_316, hq_317⟩ := hO.txt hi_145 ht_147
            refine va_callv (va_runV (As := [.ref ta, .int (nI (j + 1)), .int (nI zt)]) (rest := []) ⟨hx, hb, hml, hown, hts⟩ (s_X14_set l dC dI cs ty gm L H.size F_308 dm (ρ + 5) r_146 60 ta (ρ + 1) 3000 (j + 1) zt hW hi_145 ht_147 hi_130 ht_131 (by first | omega | assumption) (by first | omega | assumption) (by first | omega | assumption)) ⟨callB_of 3 hts (gi kt_979) rfl rfl rfl (hts _ kt_676) (hts _ kt_980) (by decide +kernel) ⟨Nat.le_of_ble_eq_true rfl, Nat.le_of_ble_eq_true rfl⟩, (hts _ kt_981), (hts _ kt_982)⟩ ⟨fun a U g mk q => ⟨q.1, PTm.calling q.2⟩, pg_recv hK hP hi_145 hF_316 (q := (RX14, TX14, 2)) rfl, fun U hU hWm => ⟨rfl, PTm.mk hU hWm hP hK hD hE hO⟩⟩ rfl rfl hl.1 rfl (lv_room (Nat.le_of_ble_eq_true rfl)) dX15_sender_157 ⟨by show _ + 0 ≤ 0; omega, by show _ + 0 ≤ 0; omega⟩) hS (fun q _ h => hFc q h) hFc (fun u t H1 locs ht hvm hw hB hz1 hk1 hS => ?_)
            obtain ⟨F_319, hB1, hq_320⟩ := hB
            obtain ⟨hP, hD, hO, hR⟩ := QTm.back hB1 ht hFc hR (fun q h => by simp only [List.mem_cons, List.not_mem_nil, or_false] at h ⊢; omega)
            have hF_321 : F_319 h0 = .inr (15, (.ref ta) :: (.int (nI 0)) :: (.int (nI zo_280)) :: (.int (nI ze_281)) :: (.ref ou) :: (.ref so) :: (.ref ad) :: (.ref na) :: (.ref va) :: (.ref lc) :: (.ref dm) :: (.int v11_282) :: (.int v12_283) :: (.ref tg) :: (.int v14_284) :: (.int v15_285) :: (.ref pe) :: (.int v17_286) :: (.int v18_287) :: (.int v19_288) :: (.int v20_289) :: (.int v21_290) :: (.int v22_291) :: (.ref ml) :: (.ref bg) :: (.ref co) :: (.ref sp) :: (.ref nb0) :: (.ref nb1) :: (.ref nb2) :: (.int (nI nf)) :: (.int (nI bd)) :: (.int (nI mm)) :: (.int v33_292) :: (.ref pl) :: (.ref se) :: (.ref ke) :: (.ref wi) :: (.ref hs) :: (.ref mo) :: (.ref po) :: (.ref nu) :: (.ref pr) :: (.ref sq) :: (.ref xa) :: (.ref sa) :: (.ref n64) :: (.ref m64) :: (.ref ex) :: (.ref wh) :: (.ref sd) :: (.ref tk) :: (.int v52_293) :: (.int v53_294) :: (.int v54_295) :: (.ref hd) :: (.ref ak) :: (.ref ho) :: (.ref ot) :: []) := (hB1.2.2.2 h0 (by rw [hT_h0]; simp)).trans hF_310
            generalize H1 = H at hP hS ⊢
            refine lv_aload_n hx hb dX15_sender_160 rfl (lv_at hl 3 rfl) ?_
            refine lv_iload_n hx hb dX15_sender_161 rfl (lv_at hl 4 rfl) ?_
            refine pg_put (ci := 15) (v := .int x1) (ty := .int) (C := RX15) (T := TX15) (N := 59) hx hb hts it_15 tyX15 tyX15_ok nmX15 hown hK hP hD hS hL_h0 hF_321 rfl 11 (by decide) (hts _ kt_729) (fun _ h9 => h9) rfl (by decide +kernel) (rfl) (rfl) (Nat.le_of_ble_eq_true rfl) dX15_sender_162 (fun H locs hP hD hS => ?_)
            obtain ⟨F_322, he_323, hP, hD, hO, hR⟩ : ∃ G, G = va_up F_319 h0 (.inr (15, (.ref ta) :: (.int (nI 0)) :: (.int (nI zo_280)) :: (.int (nI ze_281)) :: (.ref ou) :: (.ref so) :: (.ref ad) :: (.ref na) :: (.ref va) :: (.ref lc) :: (.ref dm) :: (.int x1) :: (.int v12_283) :: (.ref tg) :: (.int v14_284) :: (.int v15_285) :: (.ref pe) :: (.int v17_286) :: (.int v18_287) :: (.int v19_288) :: (.int v20_289) :: (.int v21_290) :: (.int v22_291) :: (.ref ml) :: (.ref bg) :: (.ref co) :: (.ref sp) :: (.ref nb0) :: (.ref nb1) :: (.ref nb2) :: (.int (nI nf)) :: (.int (nI bd)) :: (.int (nI mm)) :: (.int v33_292) :: (.ref pl) :: (.ref se) :: (.ref ke) :: (.ref wi) :: (.ref hs) :: (.ref mo) :: (.ref po) :: (.ref nu) :: (.ref pr) :: (.ref sq) :: (.ref xa) :: (.ref sa) :: (.ref n64) :: (.ref m64) :: (.ref ex) :: (.ref wh) :: (.ref sd) :: (.ref tk) :: (.int v52_293) :: (.int v53_294) :: (.int v54_295) :: (.ref hd) :: (.ref ak) :: (.ref ho) :: (.ref ot) :: [])) ∧ va_P (dC, dI) vwCl (va_pl L G) H ∧ va_D A (va_pl L G) ∧ OKm cs ty gm L G ∧ FR ty [ρ, ρ + 5] F G := ⟨_, rfl, hP, hD, hO.up (shm.mod hT_h0 ⟨zo_280, ze_281, x1, v12_283, v14_284, v15_285, v17_286, v18_287, v19_288, v20_289, v21_290, v22_291, v33_292, v52_293, v53_294, v54_295, rfl, (by first | omega | assumption | exact Or.inl rfl | exact Or.inr rfl), (by first | omega | assumption | exact Or.inl rfl | exact Or.inr rfl), (by first | omega | assumption | exact Or.inl rfl | exact Or.inr rfl), (by first | omega | assumption | exact Or.inl rfl | exact Or.inr rfl)⟩), hR.up hT_h0 (by simp)⟩
            have hF_324 : F_322 h0 = .inr (15, (.ref ta) :: (.int (nI 0)) :: (.int (nI zo_280)) :: (.int (nI ze_281)) :: (.ref ou) :: (.ref so) :: (.ref ad) :: (.ref na) :: (.ref va) :: (.ref lc) :: (.ref dm) :: (.int x1) :: (.int v12_283) :: (.ref tg) :: (.int v14_284) :: (.int v15_285) :: (.ref pe) :: (.int v17_286) :: (.int v18_287) :: (.int v19_288) :: (.int v20_289) :: (.int v21_290) :: (.int v22_291) :: (.ref ml) :: (.ref bg) :: (.ref co) :: (.ref sp) :: (.ref nb0) :: (.ref nb1) :: (.ref nb2) :: (.int (nI nf)) :: (.int (nI bd)) :: (.int (nI mm)) :: (.int v33_292) :: (.ref pl) :: (.ref se) :: (.ref ke) :: (.ref wi) :: (.ref hs) :: (.ref mo) :: (.ref po) :: (.ref nu) :: (.ref pr) :: (.ref sq) :: (.ref xa) :: (.ref sa) :: (.ref n64) :: (.ref m64) :: (.ref ex) :: (.ref wh) :: (.ref sd) :: (.ref tk) :: (.int v52_293) :: (.int v53_294) :: (.int v54_295) :: (.ref hd) :: (.ref ak) :: (.ref ho) :: (.ref ot) :: []) := by rw [he_323]; exact up_self
            have hF_325 : F_322 dm = .inr (14, [.ref r_146, .int (nI (zt - (j + 1)))]) := by rw [he_323, up_ne (ne_ty ht_147 hT_h0 (by simp))]; exact hq_320
            refine lv_aload_n hx hb dX15_sender_165 rfl (lv_at hl 3 rfl) ?_
            refine lv_iconst (v := 1) hx hb dX15_sender_166 (by decide) ?_
            refine pg_put (ci := 15) (v := .int 1) (ty := .boolean) (C := RX15) (T := TX15) (N := 59) hx hb hts it_15 tyX15 tyX15_ok nmX15 hown hK hP hD hS hL_h0 hF_324 rfl 12 (by decide) (hts _ kt_1001) (fun _ h9 => h9) rfl (by decide +kernel) (rfl) (rfl) (Nat.le_of_ble_eq_true rfl) dX15_sender_167 (fun H locs hP hD hS => ?_)
            obtain ⟨F_326, he_327, hP, hD, hO, hR⟩ : ∃ G, G = va_up F_322 h0 (.inr (15, (.ref ta) :: (.int (nI 0)) :: (.int (nI zo_280)) :: (.int (nI ze_281)) :: (.ref ou) :: (.ref so) :: (.ref ad) :: (.ref na) :: (.ref va) :: (.ref lc) :: (.ref dm) :: (.int x1) :: (.int 1) :: (.ref tg) :: (.int v14_284) :: (.int v15_285) :: (.ref pe) :: (.int v17_286) :: (.int v18_287) :: (.int v19_288) :: (.int v20_289) :: (.int v21_290) :: (.int v22_291) :: (.ref ml) :: (.ref bg) :: (.ref co) :: (.ref sp) :: (.ref nb0) :: (.ref nb1) :: (.ref nb2) :: (.int (nI nf)) :: (.int (nI bd)) :: (.int (nI mm)) :: (.int v33_292) :: (.ref pl) :: (.ref se) :: (.ref ke) :: (.ref wi) :: (.ref hs) :: (.ref mo) :: (.ref po) :: (.ref nu) :: (.ref pr) :: (.ref sq) :: (.ref xa) :: (.ref sa) :: (.ref n64) :: (.ref m64) :: (.ref ex) :: (.ref wh) :: (.ref sd) :: (.ref tk) :: (.int v52_293) :: (.int v53_294) :: (.int v54_295) :: (.ref hd) :: (.ref ak) :: (.ref ho) :: (.ref ot) :: [])) ∧ va_P (dC, dI) vwCl (va_pl L G) H ∧ va_D A (va_pl L G) ∧ OKm cs ty gm L G ∧ FR ty [ρ, ρ + 5] F G := ⟨_, rfl, hP, hD, hO.up (shm.mod hT_h0 ⟨zo_280, ze_281, x1, 1, v14_284, v15_285, v17_286, v18_287, v19_288, v20_289, v21_290, v22_291, v33_292, v52_293, v53_294, v54_295, rfl, (by first | omega | assumption | exact Or.inl rfl | exact Or.inr rfl), (by first | omega | assumption | exact Or.inl rfl | exact Or.inr rfl), (by first | omega | assumption | exact Or.inl rfl | exact Or.inr rfl), (by first | omega | assumption | exact Or.inl rfl | exact Or.inr rfl)⟩), hR.up hT_h0 (by simp)⟩
            have hF_328 : F_326 h0 = .inr (15, (.ref ta) :: (.int (nI 0)) :: (.int (nI zo_280)) :: (.int (nI ze_281)) :: (.ref ou) :: (.ref so) :: (.ref ad) :: (.ref na) :: (.ref va) :: (.ref lc) :: (.ref dm) :: (.int x1) :: (.int 1) :: (.ref tg) :: (.int v14_284) :: (.int v15_285) :: (.ref pe) :: (.int v17_286) :: (.int v18_287) :: (.int v19_288) :: (.int v20_289) :: (.int v21_290) :: (.int v22_291) :: (.ref ml) :: (.ref bg) :: (.ref co) :: (.ref sp) :: (.ref nb0) :: (.ref nb1) :: (.ref nb2) :: (.int (nI nf)) :: (.int (nI bd)) :: (.int (nI mm)) :: (.int v33_292) :: (.ref pl) :: (.ref se) :: (.ref ke) :: (.ref wi) :: (.ref hs) :: (.ref mo) :: (.ref po) :: (.ref nu) :: (.ref pr) :: (.ref sq) :: (.ref xa) :: (.ref sa) :: (.ref n64) :: (.ref m64) :: (.ref ex) :: (.ref wh) :: (.ref sd) :: (.ref tk) :: (.int v52_293) :: (.int v53_294) :: (.int v54_295) :: (.ref hd) :: (.ref ak) :: (.ref ho) :: (.ref ot) :: []) := by rw [he_327]; exact up_self
            have hF_329 : F_326 dm = .inr (14, [.ref r_146, .int (nI (zt - (j + 1)))]) := by rw [he_327, up_ne (ne_ty ht_147 hT_h0 (by simp))]; exact hF_325
            refine lv_iconst (v := 0) hx hb dX15_sender_170 (by decide) ?_
            refine W.widen (k := 0) (n := 0) (by omega) (by omega) ?_
            exact W.iret (v := 0) hx hb hr (fun t ht hWm => ⟨⟨0, (), rfl, trivial, ⟨F_326, ty, hty, QTm.mk ht hP hD hO hR, hW⟩⟩, hS.F ht⟩) hS.2.2 dX15_sender_171
          ·
            have hi_330 : i < j := ltN (N := j) c_278
            refine lv_aload_n hx hb dX15_sender_71 rfl (lv_at hl 3 rfl) ?_
            obtain ⟨zo_331, ze_332, v11_333, v12_334, v14_335, v15_336, v17_337, v18_338, v19_339, v20_340, v21_341, v22_342, v33_343, v52_344, v53_345, v54_346, hF_347, hq_348, hq_349, hq_350, hq_351⟩ := hO.mod hL_h0 hT_h0
            refine pg_get (ci := 15) (v := .ref ta) (C := RX15) (T := TX15) (N := 59) hx hb hts it_15 hown hK hP hL_h0 hF_347 rfl 0 (by decide) (hts _ kt_1075) (fun _ h9 => h9) rfl dX15_sender_72 ?_
            refine lv_iload hx hb dX15_sender_75 (lv_at hl 0 rfl) ?_
            obtain ⟨f_352, hF_353, hq_354⟩ := hO.octs hi_130 ht_131
            refine pg_bald hx hb hK hP hi_130 1 hF_353 rfl (vp_in_nI (by omega) (by omega)) dX15_sender_77 ?_
            refine lv_topi (fun x_355 ex_355 => ?_)
            obtain rfl : x_355 = f_352 i := ex_355.trans (congrArg f_352 (show ((nI i) : Int32).toNatClampNeg = i from nI_clamp (by omega)))
            refine lv_istore (lv' := [(5, .int (f_352 i)), (4, .int (nI i)), (3, .int (nI j)), (2, .int (nI zt)), (0, .ref h0), (1, .int x1)]) hx hb dX15_sender_78 hl (by decide) rfl (fun ls hl => ?_)
            have hF_358 : F ta = .inl (cs 17, 3000, .inl f_352) := (hR ta (by rw [ht_131]; simp)).symm.trans hF_353
            refine W.widen (k := 0) (n := 0) (by omega) (by omega) ?_
            refine pl_cutm (σ := Unit) A (dC, dI) cs ty gm L [ρ, ρ + 5] F 126 6 (fun u0 => [(4, .int (nI i)), (3, .int (nI j)), (2, .int (nI zt)), (0, .ref h0), (1, .int x1)]) (fun u0 => []) (fun u0 _ => True) ?_ (fun jn_356 => ?_)
            ·
              rintro u0 F_357 hv_359 hO hR H locs hP hD hS ls hl
              have hl : lv_has ls 6 [(4, .int (nI i)), (3, .int (nI j)), (2, .int (nI zt)), (0, .ref h0), (1, .int x1)] := hl
              have hv_359 : True := hv_359
              refine W.eq (g2 := F0 m 126 ls []) rfl ?_
              have hF_360 : F_357 ta = .inl (cs 17, 3000, .inl f_352) := (hR ta (by rw [ht_131]; simp)).trans hF_358
              refine lv_iinc (v := (nI (i + 1))) (lv' := [(4, .int (nI (i + 1))), (3, .int (nI j)), (2, .int (nI zt)), (0, .ref h0), (1, .int x1)]) hx hb dX15_sender_126 hl (k := 0) rfl (nI_1 _) (by decide) rfl (fun ls hl => ?_)
              refine lv_goto (tgt := 65) hx hb dX15_sender_129 (by decide) ?_
              refine W.widen (k := 0) (n := 0) (by omega) (by omega) ?_
              exact ih_277 (i + 1) F_357 (by first | omega | exact ⟨by omega, by omega⟩ | trivial) (by show j - (i + 1) < j - i; omega) hO hR _ _ hP hD hS ls (lv_sub hl [0, 1, 2, 3, 4] rfl)
            ·
              refine lv_iload hx hb dX15_sender_80 (lv_at hl 0 rfl) ?_
              have hFc := pg_free hD hS hA
              refine va_calli (va_runS (As := [.int (f_352 i)]) (rest := []) ⟨hx, hb, hml, hown, hts⟩ (s_X15_isSmall l dC dI cs ty gm L H.size F_275 (f_352 i) hW ) ⟨callB_of 1 hts (gi kt_668) rfl rfl rfl (hts _ kt_669) (hts _ kt_670) (by decide +kernel) ⟨Nat.le_of_ble_eq_true rfl, Nat.le_of_ble_eq_true rfl⟩, (hts _ kt_671)⟩ ⟨fun a U g mk q => ⟨q.1, PTm.calling q.2⟩, fun U hU hWm => ⟨rfl, PTm.mk hU hWm hP hK hD hE hO⟩⟩ rfl rfl hl.1 rfl (lv_room (Nat.le_of_ble_eq_true rfl)) dX15_sender_82 ⟨by show _ + 0 ≤ 0; omega, by show _ + 0 ≤ 0; omega⟩) hS (fun q _ h => hFc q h) hFc (fun r_361 u t H1 locs ht hvm hw hB hz1 hk1 hS => ?_)
              obtain ⟨F_362, hB1⟩ := hB
              obtain rfl : F_275 = F_362 := (funext (fun a => hB1.2.2.2 a List.not_mem_nil)).symm
              obtain ⟨hP, hD, hO, hR⟩ := QTm.back hB1 ht hFc hR (fun q h => absurd h List.not_mem_nil)
              generalize H1 = H at hP hS ⊢
              have hw : (r_361 = 0 ∨ r_361 = 1) := hw
              have hw_363 := hw
              refine lv_if_ne (tgt := 126) hx hb dX15_sender_85 (by decide) (fun c_364 => ?_) (fun c_364 => ?_)
              ·
                refine W.widen (k := 0) (n := 0) (by omega) (by omega) ?_
                exact jn_356 () F_275 (trivial) hO hR _ _ hP hD hS ls (lv_sub hl [1, 2, 3, 4, 5] rfl)
              ·
                refine lv_iload hx hb dX15_sender_88 (lv_at hl 0 rfl) ?_
                have hFc := pg_free hD hS hA
                refine va_calli (va_runS (As := [.int (f_352 i)]) (rest := []) ⟨hx, hb, hml, hown, hts⟩ (s_X15_isDigit l dC dI cs ty gm L H.size F_275 (f_352 i) hW ) ⟨callB_of 1 hts (gi kt_687) rfl rfl rfl (hts _ kt_669) (hts _ kt_707) (by decide +kernel) ⟨Nat.le_of_ble_eq_true rfl, Nat.le_of_ble_eq_true rfl⟩, (hts _ kt_688)⟩ ⟨fun a U g mk q => ⟨q.1, PTm.calling q.2⟩, fun U hU hWm => ⟨rfl, PTm.mk hU hWm hP hK hD hE hO⟩⟩ rfl rfl hl.1 rfl (lv_room (Nat.le_of_ble_eq_true rfl)) dX15_sender_90 ⟨by show _ + 0 ≤ 0; omega, by show _ + 0 ≤ 0; omega⟩) hS (fun q _ h => hFc q h) hFc (fun r_365 u t H1 locs ht hvm hw hB hz1 hk1 hS => ?_)
                obtain ⟨F_366, hB1⟩ := hB
                obtain rfl : F_275 = F_366 := (funext (fun a => hB1.2.2.2 a List.not_mem_nil)).symm
                obtain ⟨hP, hD, hO, hR⟩ := QTm.back hB1 ht hFc hR (fun q h => absurd h List.not_mem_nil)
                generalize H1 = H at hP hS ⊢
                have hw : (r_365 = 0 ∨ r_365 = 1) := hw
                have hw_367 := hw
                refine lv_if_ne (tgt := 126) hx hb dX15_sender_93 (by decide) (fun c_368 => ?_) (fun c_368 => ?_)
                ·
                  refine W.widen (k := 0) (n := 0) (by omega) (by omega) ?_
                  exact jn_356 () F_275 (trivial) hO hR _ _ hP hD hS ls (lv_sub hl [1, 2, 3, 4, 5] rfl)
                ·
                  refine lv_iload hx hb dX15_sender_96 (lv_at hl 0 rfl) ?_
                  refine lv_bipush (v := 46) hx hb dX15_sender_98 (by decide) ?_
                  refine lv_icmp_eq (tgt := 126) hx hb dX15_sender_100 (by decide) (fun c_369 => ?_) (fun c_369 => ?_)
                  ·
                    refine W.widen (k := 0) (n := 0) (by omega) (by omega) ?_
                    exact jn_356 () F_275 (trivial) hO hR _ _ hP hD hS ls (lv_sub hl [1, 2, 3, 4, 5] rfl)
                  ·
                    refine lv_iload hx hb dX15_sender_103 (lv_at hl 0 rfl) ?_
                    refine lv_bipush (v := 45) hx hb dX15_sender_105 (by decide) ?_
                    refine lv_icmp_eq (tgt := 126) hx hb dX15_sender_107 (by decide) (fun c_370 => ?_) (fun c_370 => ?_)
                    ·
                      refine W.widen (k := 0) (n := 0) (by omega) (by omega) ?_
                      exact jn_356 () F_275 (trivial) hO hR _ _ hP hD hS ls (lv_sub hl [1, 2, 3, 4, 5] rfl)
                    ·
                      refine lv_iload hx hb dX15_sender_110 (lv_at hl 0 rfl) ?_
                      refine lv_bipush (v := 95) hx hb dX15_sender_112 (by decide) ?_
                      refine lv_icmp_eq (tgt := 126) hx hb dX15_sender_114 (by decide) (fun c_371 => ?_) (fun c_371 => ?_)
                      ·
                        refine W.widen (k := 0) (n := 0) (by omega) (by omega) ?_
                        exact jn_356 () F_275 (trivial) hO hR _ _ hP hD hS ls (lv_sub hl [1, 2, 3, 4, 5] rfl)
                      ·
                        refine lv_iload hx hb dX15_sender_117 (lv_at hl 0 rfl) ?_
                        refine lv_bipush (v := 43) hx hb dX15_sender_119 (by decide) ?_
                        refine lv_icmp_eq (tgt := 126) hx hb dX15_sender_121 (by decide) (fun c_372 => ?_) (fun c_372 => ?_)
                        ·
                          refine W.widen (k := 0) (n := 0) (by omega) (by omega) ?_
                          exact jn_356 () F_275 (trivial) hO hR _ _ hP hD hS ls (lv_sub hl [1, 2, 3, 4, 5] rfl)
                        ·
                          refine lv_iconst (v := (-1)) hx hb dX15_sender_124 (by decide) ?_
                          refine W.widen (k := 0) (n := 0) (by omega) (by omega) ?_
                          exact W.iret (v := (-1)) hx hb hr (fun t ht hWm => ⟨⟨(-1), (), rfl, trivial, ⟨F_275, ty, hty, QTm.mk ht hP hD hO hR, hW⟩⟩, hS.F ht⟩) hS.2.2 dX15_sender_125
        ·
          refine lv_iconst (v := (-1)) hx hb dX15_sender_60 (by decide) ?_
          refine W.widen (k := 0) (n := 0) (by omega) (by omega) ?_
          exact W.iret (v := (-1)) hx hb hr (fun t ht hWm => ⟨⟨(-1), (), rfl, trivial, ⟨F_235, ty, hty, QTm.mk ht hP hD hO hR, hW⟩⟩, hS.F ht⟩) hS.2.2 dX15_sender_61
  ·
    have hi_373 : j < zt := ltN (N := zt) c_238
    refine lv_aload_n hx hb dX15_sender_12 rfl (lv_at hl 2 rfl) ?_
    obtain ⟨zo_374, ze_375, v11_376, v12_377, v14_378, v15_379, v17_380, v18_381, v19_382, v20_383, v21_384, v22_385, v33_386, v52_387, v53_388, v54_389, hF_390, hq_391, hq_392, hq_393, hq_394⟩ := hO.mod hL_h0 hT_h0
    refine pg_get (ci := 15) (v := .ref ta) (C := RX15) (T := TX15) (N := 59) hx hb hts it_15 hown hK hP hL_h0 hF_390 rfl 0 (by decide) (hts _ kt_1075) (fun _ h9 => h9) rfl dX15_sender_13 ?_
    refine lv_iload_n hx hb dX15_sender_16 rfl (lv_at hl 0 rfl) ?_
    obtain ⟨hq_395, hq_396⟩ := hW.octs hi_130 ht_131
    obtain ⟨f_397, hF_398, hq_399⟩ := hO.octs hi_130 ht_131
    refine pg_bald hx hb hK hP hi_130 1 hF_398 rfl (vp_in_nI (by omega) (by omega)) dX15_sender_17 ?_
    refine lv_topi (fun x_400 ex_400 => ?_)
    obtain rfl : x_400 = f_397 j := ex_400.trans (congrArg f_397 (show ((nI j) : Int32).toNatClampNeg = j from nI_clamp (by omega)))
    refine lv_bipush (v := 64) hx hb dX15_sender_18 (by decide) ?_
    refine lv_icmp_eq (tgt := 29) hx hb dX15_sender_20 (by decide) (fun c_401 => ?_) (fun c_401 => ?_)
    ·
      refine lv_iload_n hx hb dX15_sender_29 rfl (lv_at hl 0 rfl) ?_
      refine lv_iload_n hx hb dX15_sender_30 rfl (lv_at hl 1 rfl) ?_
      refine lv_icmp_eq (tgt := 60) hx hb dX15_sender_31 (by decide) (fun c_402 => ?_) (fun c_402 => ?_)
      ·
        have hi_403 : j = zt := (nI_eq (a := j) (b := zt) (by omega) (by omega)).mp c_402
        refine lv_iconst (v := (-1)) hx hb dX15_sender_60 (by decide) ?_
        refine W.widen (k := 0) (n := 0) (by omega) (by omega) ?_
        exact W.iret (v := (-1)) hx hb hr (fun t ht hWm => ⟨⟨(-1), (), rfl, trivial, ⟨F_235, ty, hty, QTm.mk ht hP hD hO hR, hW⟩⟩, hS.F ht⟩) hS.2.2 dX15_sender_61
      ·
        have hi_404 : j ≠ zt := fun q => c_402 (by rw [q])
        refine lv_iload_n hx hb dX15_sender_34 rfl (lv_at hl 0 rfl) ?_
        refine lv_i2l (v := (nI j).toInt64) hx hb dX15_sender_35 rfl ?_
        refine lv_lconst (v := 1) hx hb dX15_sender_36 (by decide) ?_
        refine lv_ldc2 (v := 30) hx hb hown (hts _ kt_1077) dX15_sender_37 ?_
        have hFc := pg_free hD hS hA
        refine va_calli (va_runS (As := [.long ((nI j).toInt64), .long 1, .long 30]) (rest := []) ⟨hx, hb, hml, hown, hts⟩ (s_X15_in l dC dI cs ty gm L H.size F_235 ((nI j).toInt64) 1 30 hW ) ⟨callB_of 3 hts (gi kt_685) rfl rfl rfl (hts _ kt_669) (hts _ kt_705) (by decide +kernel) ⟨Nat.le_of_ble_eq_true rfl, Nat.le_of_ble_eq_true rfl⟩, (hts _ kt_686)⟩ ⟨fun a U g mk q => ⟨q.1, PTm.calling q.2⟩, fun U hU hWm => ⟨rfl, PTm.mk hU hWm hP hK hD hE hO⟩⟩ rfl rfl hl.1 rfl (lv_room (Nat.le_of_ble_eq_true rfl)) dX15_sender_40 ⟨by show _ + 0 ≤ 0; omega, by show _ + 0 ≤ 0; omega⟩) hS (fun q _ h => hFc q h) hFc (fun r_405 u t H1 locs ht hvm hw hB hz1 hk1 hS => ?_)
        obtain ⟨F_406, hB1⟩ := hB
        obtain rfl : F_235 = F_406 := (funext (fun a => hB1.2.2.2 a List.not_mem_nil)).symm
        obtain ⟨hP, hD, hO, hR⟩ := QTm.back hB1 ht hFc hR (fun q h => absurd h List.not_mem_nil)
        generalize H1 = H at hP hS ⊢
        have hw : r_405 = (if 1 ≤ (nI j).toInt64 ∧ (nI j).toInt64 ≤ 30 then 1 else 0) := hw
        have hw_407 := hw
        refine lv_if_eq (tgt := 60) hx hb dX15_sender_43 (by decide) (fun c_408 => ?_) (fun c_408 => ?_)
        ·
          refine lv_iconst (v := (-1)) hx hb dX15_sender_60 (by decide) ?_
          refine W.widen (k := 0) (n := 0) (by omega) (by omega) ?_
          exact W.iret (v := (-1)) hx hb hr (fun t ht hWm => ⟨⟨(-1), (), rfl, trivial, ⟨F_235, ty, hty, QTm.mk ht hP hD hO hR, hW⟩⟩, hS.F ht⟩) hS.2.2 dX15_sender_61
        ·
          have hin := in_nat (lo := 1) (hi := 30) hw_407 c_408 (by decide) (by decide) (by omega)
          refine lv_aload_n hx hb dX15_sender_46 rfl (lv_at hl 2 rfl) ?_
          refine pg_get (ci := 15) (v := .ref ta) (C := RX15) (T := TX15) (N := 59) hx hb hts it_15 hown hK hP hL_h0 hF_390 rfl 0 (by decide) (hts _ kt_1075) (fun _ h9 => h9) rfl dX15_sender_47 ?_
          refine lv_iload_n hx hb dX15_sender_50 rfl (lv_at hl 0 rfl) ?_
          refine lv_iconst (v := 1) hx hb dX15_sender_51 (by decide) ?_
          refine lv_iadd hx hb dX15_sender_52 ?_
          refine lv_topi (fun x_409 ex_409 => ?_)
          obtain rfl : x_409 = (nI (j + 1)) := ex_409.trans (nI_add j 1)
          refine lv_iload_n hx hb dX15_sender_53 rfl (lv_at hl 1 rfl) ?_
          have hFc := pg_free hD hS hA
          refine va_calli (va_runS (As := [.ref ta, .int (nI (j + 1)), .int (nI zt)]) (rest := []) ⟨hx, hb, hml, hown, hts⟩ (s_X14_isName_ l dC dI cs ty gm L H.size F_235 ta (ρ + 1) 3000 (j + 1) zt hW hi_130 ht_131 (by first | omega | assumption) (by first | omega | assumption)) ⟨callB_of 3 hts (gi kt_689) rfl rfl rfl (hts _ kt_676) (hts _ kt_863) (by decide +kernel) ⟨Nat.le_of_ble_eq_true rfl, Nat.le_of_ble_eq_true rfl⟩, (hts _ kt_691)⟩ ⟨fun a U g mk q => ⟨q.1, PTm.calling q.2⟩, fun U hU hWm => ⟨rfl, PTm.mk hU hWm hP hK hD hE hO⟩⟩ rfl rfl hl.1 rfl (lv_room (Nat.le_of_ble_eq_true rfl)) dX15_sender_54 ⟨by show _ + 0 ≤ 0; omega, by show _ + 0 ≤ 0; omega⟩) hS (fun q _ h => hFc q h) hFc (fun r_410 u t H1 locs ht hvm hw hB hz1 hk1 hS => ?_)
          obtain ⟨F_411, hB1⟩ := hB
          obtain rfl : F_235 = F_411 := (funext (fun a => hB1.2.2.2 a List.not_mem_nil)).symm
          obtain ⟨hP, hD, hO, hR⟩ := QTm.back hB1 ht hFc hR (fun q h => absurd h List.not_mem_nil)
          generalize H1 = H at hP hS ⊢
          have hw : (r_410 = 0 ∨ (r_410 = 1 ∧ (j + 1) < zt ∧ zt ≤ j + 61)) := hw
          have hw_412 := hw
          refine lv_if_ne (tgt := 62) hx hb dX15_sender_57 (by decide) (fun c_413 => ?_) (fun c_413 => ?_)
          ·
            have hnm := bit1 hw_412 c_413
            refine lv_iconst (v := 0) hx hb dX15_sender_62 (by decide) ?_
            refine lv_istore (lv' := [(4, .int 0), (3, .int (nI j)), (2, .int (nI zt)), (0, .ref h0), (1, .int x1)]) hx hb dX15_sender_63 hl (by decide) rfl (fun ls hl => ?_)
            refine W.widen (k := 0) (n := 0) (by omega) (by omega) ?_
            have hF_415 : F ta = .inl (cs 17, 3000, .inl f_397) := (hR ta (by rw [ht_131]; simp)).symm.trans hF_398
            refine pl_loopm (σ := Nat) A (dC, dI) cs ty gm L [ρ, ρ + 5] F 65 6 (fun i => [(4, .int (nI i)), (3, .int (nI j)), (2, .int (nI zt)), (0, .ref h0), (1, .int x1)]) (fun i => []) (fun i _ => i ≤ j) (fun i => j - i) ?_ 0 F_235 (by omega) hO hR _ _ hP hD hS ls (lv_sub hl [0, 1, 2, 3, 4] rfl)
            rintro i F_414 hv_416 hO hR ih_417 H locs hP hD hS ls hl
            have hl : lv_has ls 6 [(4, .int (nI i)), (3, .int (nI j)), (2, .int (nI zt)), (0, .ref h0), (1, .int x1)] := hl
            have hv_416 : i ≤ j := hv_416
            refine W.eq (g2 := F0 m 65 ls []) rfl ?_
            have hF_418 : F_414 ta = .inl (cs 17, 3000, .inl f_397) := (hR ta (by rw [ht_131]; simp)).trans hF_415
            refine lv_iload hx hb dX15_sender_65 (lv_at hl 0 rfl) ?_
            refine lv_iload_n hx hb dX15_sender_67 rfl (lv_at hl 1 rfl) ?_
            refine lv_icmp_ge (tgt := 132) hx hb dX15_sender_68 (by decide) (fun c_419 => ?_) (fun c_419 => ?_)
            ·
              have hi_420 : j ≤ i := leN (N := j) c_419
              refine lv_aload_n hx hb dX15_sender_132 rfl (lv_at hl 3 rfl) ?_
              obtain ⟨zo_421, ze_422, v11_423, v12_424, v14_425, v15_426, v17_427, v18_428, v19_429, v20_430, v21_431, v22_432, v33_433, v52_434, v53_435, v54_436, hF_437, hq_438, hq_439, hq_440, hq_441⟩ := hO.mod hL_h0 hT_h0
              refine pg_get (ci := 15) (v := .ref lc) (C := RX15) (T := TX15) (N := 59) hx hb hts it_15 hown hK hP hL_h0 hF_437 rfl 9 (by decide) (hts _ kt_778) (fun _ h9 => h9) rfl dX15_sender_133 ?_
              refine lv_aload_n hx hb dX15_sender_136 rfl (lv_at hl 3 rfl) ?_
              refine pg_get (ci := 15) (v := .ref ta) (C := RX15) (T := TX15) (N := 59) hx hb hts it_15 hown hK hP hL_h0 hF_437 rfl 0 (by decide) (hts _ kt_1075) (fun _ h9 => h9) rfl dX15_sender_137 ?_
              refine lv_iconst (v := 0) hx hb dX15_sender_140 (by decide) ?_
              refine lv_iload_n hx hb dX15_sender_141 rfl (lv_at hl 1 rfl) ?_
              refine W.eq (g2 := F0 m 142 ls [.int (nI j), .int (nI 0), .ref ta, .ref lc]) rfl ?_
              obtain ⟨hi_442, ht_443, hq_444⟩ := hW.txt hi_142 ht_144
              have hFc := pg_free hD hS hA
              obtain ⟨z_445, hF_446, hq_447⟩ := hO.txt hi_142 ht_144
              refine va_callv (va_runV (As := [.ref ta, .int (nI 0), .int (nI j)]) (rest := []) ⟨hx, hb, hml, hown, hts⟩ (s_X14_set l dC dI cs ty gm L H.size F_414 lc (ρ + 5) r_143 30 ta (ρ + 1) 3000 0 j hW hi_142 ht_144 hi_130 ht_131 (by first | omega | assumption) (by first | omega | assumption) (by first | omega | assumption)) ⟨callB_of 3 hts (gi kt_979) rfl rfl rfl (hts _ kt_676) (hts _ kt_980) (by decide +kernel) ⟨Nat.le_of_ble_eq_true rfl, Nat.le_of_ble_eq_true rfl⟩, (hts _ kt_981), (hts _ kt_982)⟩ ⟨fun a U g mk q => ⟨q.1, PTm.calling q.2⟩, pg_recv hK hP hi_142 hF_446 (q := (RX14, TX14, 2)) rfl, fun U hU hWm => ⟨rfl, PTm.mk hU hWm hP hK hD hE hO⟩⟩ rfl rfl hl.1 rfl (lv_room (Nat.le_of_ble_eq_true rfl)) dX15_sender_142 ⟨by show _ + 0 ≤ 0; omega, by show _ + 0 ≤ 0; omega⟩) hS (fun q _ h => hFc q h) hFc (fun u t H1 locs ht hvm hw hB hz1 hk1 hS => ?_)
              obtain ⟨F_449, hB1, hq_450⟩ := hB
              obtain ⟨hP, hD, hO, hR⟩ := QTm.back hB1 ht hFc hR (fun q h => by simp only [List.mem_cons, List.not_mem_nil, or_false] at h ⊢; omega)
              have hF_451 : F_449 ta = .inl (cs 17, 3000, .inl f_397) := (hB1.2.2.2 ta (by rw [ht_131]; simp)).trans hF_418
              have hF_452 : F_449 h0 = .inr (15, (.ref ta) :: (.int (nI 0)) :: (.int (nI zo_421)) :: (.int (nI ze_422)) :: (.ref ou) :: (.ref so) :: (.ref ad) :: (.ref na) :: (.ref va) :: (.ref lc) :: (.ref dm) :: (.int v11_423) :: (.int v12_424) :: (.ref tg) :: (.int v14_425) :: (.int v15_426) :: (.ref pe) :: (.int v17_427) :: (.int v18_428) :: (.int v19_429) :: (.int v20_430) :: (.int v21_431) :: (.int v22_432) :: (.ref ml) :: (.ref bg) :: (.ref co) :: (.ref sp) :: (.ref nb0) :: (.ref nb1) :: (.ref nb2) :: (.int (nI nf)) :: (.int (nI bd)) :: (.int (nI mm)) :: (.int v33_433) :: (.ref pl) :: (.ref se) :: (.ref ke) :: (.ref wi) :: (.ref hs) :: (.ref mo) :: (.ref po) :: (.ref nu) :: (.ref pr) :: (.ref sq) :: (.ref xa) :: (.ref sa) :: (.ref n64) :: (.ref m64) :: (.ref ex) :: (.ref wh) :: (.ref sd) :: (.ref tk) :: (.int v52_434) :: (.int v53_435) :: (.int v54_436) :: (.ref hd) :: (.ref ak) :: (.ref ho) :: (.ref ot) :: []) := (hB1.2.2.2 h0 (by rw [hT_h0]; simp)).trans hF_437
              generalize H1 = H at hP hS ⊢
              refine lv_aload_n hx hb dX15_sender_145 rfl (lv_at hl 3 rfl) ?_
              refine pg_get (ci := 15) (v := .ref dm) (C := RX15) (T := TX15) (N := 59) hx hb hts it_15 hown hK hP hL_h0 hF_452 rfl 10 (by decide) (hts _ kt_777) (fun _ h9 => h9) rfl dX15_sender_146 ?_
              refine lv_aload_n hx hb dX15_sender_149 rfl (lv_at hl 3 rfl) ?_
              refine pg_get (ci := 15) (v := .ref ta) (C := RX15) (T := TX15) (N := 59) hx hb hts it_15 hown hK hP hL_h0 hF_452 rfl 0 (by decide) (hts _ kt_1075) (fun _ h9 => h9) rfl dX15_sender_150 ?_
              refine lv_iload_n hx hb dX15_sender_153 rfl (lv_at hl 1 rfl) ?_
              refine lv_iconst (v := 1) hx hb dX15_sender_154 (by decide) ?_
              refine lv_iadd hx hb dX15_sender_155 ?_
              refine lv_topi (fun x_453 ex_453 => ?_)
              obtain rfl : x_453 = (nI (j + 1)) := ex_453.trans (nI_add j 1)
              refine lv_iload_n hx hb dX15_sender_156 rfl (lv_at hl 2 rfl) ?_
              obtain ⟨hi_454, ht_455, hq_456⟩ := hW.txt hi_145 ht_147
              have hFc := pg_free hD hS hA
              obtain ⟨z_457, hF_458, hq_459⟩ := hO.txt hi_145 ht_147
              refine va_callv (va_runV (As := [.ref ta, .int (nI (j + 1)), .int (nI zt)]) (rest := []) ⟨hx, hb, hml, hown, hts⟩ (s_X14_set l dC dI cs ty gm L H.size F_449 dm (ρ + 5) r_146 60 ta (ρ + 1) 3000 (j + 1) zt hW hi_145 ht_147 hi_130 ht_131 (by first | omega | assumption) (by first | omega | assumption) (by first | omega | assumption)) ⟨callB_of 3 hts (gi kt_979) rfl rfl rfl (hts _ kt_676) (hts _ kt_980) (by decide +kernel) ⟨Nat.le_of_ble_eq_true rfl, Nat.le_of_ble_eq_true rfl⟩, (hts _ kt_981), (hts _ kt_982)⟩ ⟨fun a U g mk q => ⟨q.1, PTm.calling q.2⟩, pg_recv hK hP hi_145 hF_458 (q := (RX14, TX14, 2)) rfl, fun U hU hWm => ⟨rfl, PTm.mk hU hWm hP hK hD hE hO⟩⟩ rfl rfl hl.1 rfl (lv_room (Nat.le_of_ble_eq_true rfl)) dX15_sender_157 ⟨by show _ + 0 ≤ 0; omega, by show _ + 0 ≤ 0; omega⟩) hS (fun q _ h => hFc q h) hFc (fun u t H1 locs ht hvm hw hB hz1 hk1 hS => ?_)
              obtain ⟨F_461, hB1, hq_462⟩ := hB
              obtain ⟨hP, hD, hO, hR⟩ := QTm.back hB1 ht hFc hR (fun q h => by simp only [List.mem_cons, List.not_mem_nil, or_false] at h ⊢; omega)
              have hF_463 : F_461 ta = .inl (cs 17, 3000, .inl f_397) := (hB1.2.2.2 ta (by rw [ht_131]; simp)).trans hF_451
              have hF_464 : F_461 h0 = .inr (15, (.ref ta) :: (.int (nI 0)) :: (.int (nI zo_421)) :: (.int (nI ze_422)) :: (.ref ou) :: (.ref so) :: (.ref ad) :: (.ref na) :: (.ref va) :: (.ref lc) :: (.ref dm) :: (.int v11_423) :: (.int v12_424) :: (.ref tg) :: (.int v14_425) :: (.int v15_426) :: (.ref pe) :: (.int v17_427) :: (.int v18_428) :: (.int v19_429) :: (.int v20_430) :: (.int v21_431) :: (.int v22_432) :: (.ref ml) :: (.ref bg) :: (.ref co) :: (.ref sp) :: (.ref nb0) :: (.ref nb1) :: (.ref nb2) :: (.int (nI nf)) :: (.int (nI bd)) :: (.int (nI mm)) :: (.int v33_433) :: (.ref pl) :: (.ref se) :: (.ref ke) :: (.ref wi) :: (.ref hs) :: (.ref mo) :: (.ref po) :: (.ref nu) :: (.ref pr) :: (.ref sq) :: (.ref xa) :: (.ref sa) :: (.ref n64) :: (.ref m64) :: (.ref ex) :: (.ref wh) :: (.ref sd) :: (.ref tk) :: (.int v52_434) :: (.int v53_435) :: (.int v54_436) :: (.ref hd) :: (.ref ak) :: (.ref ho) :: (.ref ot) :: []) := (hB1.2.2.2 h0 (by rw [hT_h0]; simp)).trans hF_452
              generalize H1 = H at hP hS ⊢
              refine lv_aload_n hx hb dX15_sender_160 rfl (lv_at hl 3 rfl) ?_
              refine lv_iload_n hx hb dX15_sender_161 rfl (lv_at hl 4 rfl) ?_
              refine pg_put (ci := 15) (v := .int x1) (ty := .int) (C := RX15) (T := TX15) (N := 59) hx hb hts it_15 tyX15 tyX15_ok nmX15 hown hK hP hD hS hL_h0 hF_464 rfl 11 (by decide) (hts _ kt_729) (fun _ h9 => h9) rfl (by decide +kernel) (rfl) (rfl) (Nat.le_of_ble_eq_true rfl) dX15_sender_162 (fun H locs hP hD hS => ?_)
              obtain ⟨F_465, he_466, hP, hD, hO, hR⟩ : ∃ G, G = va_up F_461 h0 (.inr (15, (.ref ta) :: (.int (nI 0)) :: (.int (nI zo_421)) :: (.int (nI ze_422)) :: (.ref ou) :: (.ref so) :: (.ref ad) :: (.ref na) :: (.ref va) :: (.ref lc) :: (.ref dm) :: (.int x1) :: (.int v12_424) :: (.ref tg) :: (.int v14_425) :: (.int v15_426) :: (.ref pe) :: (.int v17_427) :: (.int v18_428) :: (.int v19_429) :: (.int v20_430) :: (.int v21_431) :: (.int v22_432) :: (.ref ml) :: (.ref bg) :: (.ref co) :: (.ref sp) :: (.ref nb0) :: (.ref nb1) :: (.ref nb2) :: (.int (nI nf)) :: (.int (nI bd)) :: (.int (nI mm)) :: (.int v33_433) :: (.ref pl) :: (.ref se) :: (.ref ke) :: (.ref wi) :: (.ref hs) :: (.ref mo) :: (.ref po) :: (.ref nu) :: (.ref pr) :: (.ref sq) :: (.ref xa) :: (.ref sa) :: (.ref n64) :: (.ref m64) :: (.ref ex) :: (.ref wh) :: (.ref sd) :: (.ref tk) :: (.int v52_434) :: (.int v53_435) :: (.int v54_436) :: (.ref hd) :: (.ref ak) :: (.ref ho) :: (.ref ot) :: [])) ∧ va_P (dC, dI) vwCl (va_pl L G) H ∧ va_D A (va_pl L G) ∧ OKm cs ty gm L G ∧ FR ty [ρ, ρ + 5] F G := ⟨_, rfl, hP, hD, hO.up (shm.mod hT_h0 ⟨zo_421, ze_422, x1, v12_424, v14_425, v15_426, v17_427, v18_428, v19_429, v20_430, v21_431, v22_432, v33_433, v52_434, v53_435, v54_436, rfl, (by first | omega | assumption | exact Or.inl rfl | exact Or.inr rfl), (by first | omega | assumption | exact Or.inl rfl | exact Or.inr rfl), (by first | omega | assumption | exact Or.inl rfl | exact Or.inr rfl), (by first | omega | assumption | exact Or.inl rfl | exact Or.inr rfl)⟩), hR.up hT_h0 (by simp)⟩
              have hF_467 : F_465 h0 = .inr (15, (.ref ta) :: (.int (nI 0)) :: (.int (nI zo_421)) :: (.int (nI ze_422)) :: (.ref ou) :: (.ref so) :: (.ref ad) :: (.ref na) :: (.ref va) :: (.ref lc) :: (.ref dm) :: (.int x1) :: (.int v12_424) :: (.ref tg) :: (.int v14_425) :: (.int v15_426) :: (.ref pe) :: (.int v17_427) :: (.int v18_428) :: (.int v19_429) :: (.int v20_430) :: (.int v21_431) :: (.int v22_432) :: (.ref ml) :: (.ref bg) :: (.ref co) :: (.ref sp) :: (.ref nb0) :: (.ref nb1) :: (.ref nb2) :: (.int (nI nf)) :: (.int (nI bd)) :: (.int (nI mm)) :: (.int v33_433) :: (.ref pl) :: (.ref se) :: (.ref ke) :: (.ref wi) :: (.ref hs) :: (.ref mo) :: (.ref po) :: (.ref nu) :: (.ref pr) :: (.ref sq) :: (.ref xa) :: (.ref sa) :: (.ref n64) :: (.ref m64) :: (.ref ex) :: (.ref wh) :: (.ref sd) :: (.ref tk) :: (.int v52_434) :: (.int v53_435) :: (.int v54_436) :: (.ref hd) :: (.ref ak) :: (.ref ho) :: (.ref ot) :: []) := by rw [he_466]; exact up_self
              have hF_468 : F_465 ta = .inl (cs 17, 3000, .inl f_397) := by rw [he_466, up_ne (ne_ty ht_131 hT_h0 (by simp))]; exact hF_463
              have hF_469 : F_465 dm = .inr (14, [.ref r_146, .int (nI (zt - (j + 1)))]) := by rw [he_466, up_ne (ne_ty ht_147 hT_h0 (by simp))]; exact hq_462
              refine lv_aload_n hx hb dX15_sender_165 rfl (lv_at hl 3 rfl) ?_
              refine lv_iconst (v := 1) hx hb dX15_sender_166 (by decide) ?_
              refine pg_put (ci := 15) (v := .int 1) (ty := .boolean) (C := RX15) (T := TX15) (N := 59) hx hb hts it_15 tyX15 tyX15_ok nmX15 hown hK hP hD hS hL_h0 hF_467 rfl 12 (by decide) (hts _ kt_1001) (fun _ h9 => h9) rfl (by decide +kernel) (rfl) (rfl) (Nat.le_of_ble_eq_true rfl) dX15_sender_167 (fun H locs hP hD hS => ?_)
              obtain ⟨F_470, he_471, hP, hD, hO, hR⟩ : ∃ G, G = va_up F_465 h0 (.inr (15, (.ref ta) :: (.int (nI 0)) :: (.int (nI zo_421)) :: (.int (nI ze_422)) :: (.ref ou) :: (.ref so) :: (.ref ad) :: (.ref na) :: (.ref va) :: (.ref lc) :: (.ref dm) :: (.int x1) :: (.int 1) :: (.ref tg) :: (.int v14_425) :: (.int v15_426) :: (.ref pe) :: (.int v17_427) :: (.int v18_428) :: (.int v19_429) :: (.int v20_430) :: (.int v21_431) :: (.int v22_432) :: (.ref ml) :: (.ref bg) :: (.ref co) :: (.ref sp) :: (.ref nb0) :: (.ref nb1) :: (.ref nb2) :: (.int (nI nf)) :: (.int (nI bd)) :: (.int (nI mm)) :: (.int v33_433) :: (.ref pl) :: (.ref se) :: (.ref ke) :: (.ref wi) :: (.ref hs) :: (.ref mo) :: (.ref po) :: (.ref nu) :: (.ref pr) :: (.ref sq) :: (.ref xa) :: (.ref sa) :: (.ref n64) :: (.ref m64) :: (.ref ex) :: (.ref wh) :: (.ref sd) :: (.ref tk) :: (.int v52_434) :: (.int v53_435) :: (.int v54_436) :: (.ref hd) :: (.ref ak) :: (.ref ho) :: (.ref ot) :: [])) ∧ va_P (dC, dI) vwCl (va_pl L G) H ∧ va_D A (va_pl L G) ∧ OKm cs ty gm L G ∧ FR ty [ρ, ρ + 5] F G := ⟨_, rfl, hP, hD, hO.up (shm.mod hT_h0 ⟨zo_421, ze_422, x1, 1, v14_425, v15_426, v17_427, v18_428, v19_429, v20_430, v21_431, v22_432, v33_433, v52_434, v53_435, v54_436, rfl, (by first | omega | assumption | exact Or.inl rfl | exact Or.inr rfl), (by first | omega | assumption | exact Or.inl rfl | exact Or.inr rfl), (by first | omega | assumption | exact Or.inl rfl | exact Or.inr rfl), (by first | omega | assumption | exact Or.inl rfl | exact Or.inr rfl)⟩), hR.up hT_h0 (by simp)⟩
              have hF_472 : F_470 h0 = .inr (15, (.ref ta) :: (.int (nI 0)) :: (.int (nI zo_421)) :: (.int (nI ze_422)) :: (.ref ou) :: (.ref so) :: (.ref ad) :: (.ref na) :: (.ref va) :: (.ref lc) :: (.ref dm) :: (.int x1) :: (.int 1) :: (.ref tg) :: (.int v14_425) :: (.int v15_426) :: (.ref pe) :: (.int v17_427) :: (.int v18_428) :: (.int v19_429) :: (.int v20_430) :: (.int v21_431) :: (.int v22_432) :: (.ref ml) :: (.ref bg) :: (.ref co) :: (.ref sp) :: (.ref nb0) :: (.ref nb1) :: (.ref nb2) :: (.int (nI nf)) :: (.int (nI bd)) :: (.int (nI mm)) :: (.int v33_433) :: (.ref pl) :: (.ref se) :: (.ref ke) :: (.ref wi) :: (.ref hs) :: (.ref mo) :: (.ref po) :: (.ref nu) :: (.ref pr) :: (.ref sq) :: (.ref xa) :: (.ref sa) :: (.ref n64) :: (.ref m64) :: (.ref ex) :: (.ref wh) :: (.ref sd) :: (.ref tk) :: (.int v52_434) :: (.int v53_435) :: (.int v54_436) :: (.ref hd) :: (.ref ak) :: (.ref ho) :: (.ref ot) :: []) := by rw [he_471]; exact up_self
              have hF_473 : F_470 ta = .inl (cs 17, 3000, .inl f_397) := by rw [he_471, up_ne (ne_ty ht_131 hT_h0 (by simp))]; exact hF_468
              have hF_474 : F_470 dm = .inr (14, [.ref r_146, .int (nI (zt - (j + 1)))]) := by rw [he_471, up_ne (ne_ty ht_147 hT_h0 (by simp))]; exact hF_469
              refine lv_iconst (v := 0) hx hb dX15_sender_170 (by decide) ?_
              refine W.widen (k := 0) (n := 0) (by omega) (by omega) ?_
              exact W.iret (v := 0) hx hb hr (fun t ht hWm => ⟨⟨0, (), rfl, trivial, ⟨F_470, ty, hty, QTm.mk ht hP hD hO hR, hW⟩⟩, hS.F ht⟩) hS.2.2 dX15_sender_171
            ·
              have hi_475 : i < j := ltN (N := j) c_419
              refine lv_aload_n hx hb dX15_sender_71 rfl (lv_at hl 3 rfl) ?_
              obtain ⟨zo_476, ze_477, v11_478, v12_479, v14_480, v15_481, v17_482, v18_483, v19_484, v20_485, v21_486, v22_487, v33_488, v52_489, v53_490, v54_491, hF_492, hq_493, hq_494, hq_495, hq_496⟩ := hO.mod hL_h0 hT_h0
              refine pg_get (ci := 15) (v := .ref ta) (C := RX15) (T := TX15) (N := 59) hx hb hts it_15 hown hK hP hL_h0 hF_492 rfl 0 (by decide) (hts _ kt_1075) (fun _ h9 => h9) rfl dX15_sender_72 ?_
              refine lv_iload hx hb dX15_sender_75 (lv_at hl 0 rfl) ?_
              refine pg_bald hx hb hK hP hi_130 1 hF_418 rfl (vp_in_nI (by omega) (by omega)) dX15_sender_77 ?_
              refine lv_topi (fun x_497 ex_497 => ?_)
              obtain rfl : x_497 = f_397 i := ex_497.trans (congrArg f_397 (show ((nI i) : Int32).toNatClampNeg = i from nI_clamp (by omega)))
              refine lv_istore (lv' := [(5, .int (f_397 i)), (4, .int (nI i)), (3, .int (nI j)), (2, .int (nI zt)), (0, .ref h0), (1, .int x1)]) hx hb dX15_sender_78 hl (by decide) rfl (fun ls hl => ?_)
              have hF_500 : F ta = .inl (cs 17, 3000, .inl f_397) := (hR ta (by rw [ht_131]; simp)).symm.trans hF_418
              refine W.widen (k := 0) (n := 0) (by omega) (by omega) ?_
              refine pl_cutm (σ := Unit) A (dC, dI) cs ty gm L [ρ, ρ + 5] F 126 6 (fun u0 => [(4, .int (nI i)), (3, .int (nI j)), (2, .int (nI zt)), (0, .ref h0), (1, .int x1)]) (fun u0 => []) (fun u0 _ => True) ?_ (fun jn_498 => ?_)
              ·
                rintro u0 F_499 hv_501 hO hR H locs hP hD hS ls hl
                have hl : lv_has ls 6 [(4, .int (nI i)), (3, .int (nI j)), (2, .int (nI zt)), (0, .ref h0), (1, .int x1)] := hl
                have hv_501 : True := hv_501
                refine W.eq (g2 := F0 m 126 ls []) rfl ?_
                have hF_502 : F_499 ta = .inl (cs 17, 3000, .inl f_397) := (hR ta (by rw [ht_131]; simp)).trans hF_500
                refine lv_iinc (v := (nI (i + 1))) (lv' := [(4, .int (nI (i + 1))), (3, .int (nI j)), (2, .int (nI zt)), (0, .ref h0), (1, .int x1)]) hx hb dX15_sender_126 hl (k := 0) rfl (nI_1 _) (by decide) rfl (fun ls hl => ?_)
                refine lv_goto (tgt := 65) hx hb dX15_sender_129 (by decide) ?_
                refine W.widen (k := 0) (n := 0) (by omega) (by omega) ?_
                exact ih_417 (i + 1) F_499 (by first | omega | exact ⟨by omega, by omega⟩ | trivial) (by show j - (i + 1) < j - i; omega) hO hR _ _ hP hD hS ls (lv_sub hl [0, 1, 2, 3, 4] rfl)
              ·
                refine lv_iload hx hb dX15_sender_80 (lv_at hl 0 rfl) ?_
                have hFc := pg_free hD hS hA
                refine va_calli (va_runS (As := [.int (f_397 i)]) (rest := []) ⟨hx, hb, hml, hown, hts⟩ (s_X15_isSmall l dC dI cs ty gm L H.size F_414 (f_397 i) hW ) ⟨callB_of 1 hts (gi kt_668) rfl rfl rfl (hts _ kt_669) (hts _ kt_670) (by decide +kernel) ⟨Nat.le_of_ble_eq_true rfl, Nat.le_of_ble_eq_true rfl⟩, (hts _ kt_671)⟩ ⟨fun a U g mk q => ⟨q.1, PTm.calling q.2⟩, fun U hU hWm => ⟨rfl, PTm.mk hU hWm hP hK hD hE hO⟩⟩ rfl rfl hl.1 rfl (lv_room (Nat.le_of_ble_eq_true rfl)) dX15_sender_82 ⟨by show _ + 0 ≤ 0; omega, by show _ + 0 ≤ 0; omega⟩) hS (fun q _ h => hFc q h) hFc (fun r_503 u t H1 locs ht hvm hw hB hz1 hk1 hS => ?_)
                obtain ⟨F_504, hB1⟩ := hB
                obtain rfl : F_414 = F_504 := (funext (fun a => hB1.2.2.2 a List.not_mem_nil)).symm
                obtain ⟨hP, hD, hO, hR⟩ := QTm.back hB1 ht hFc hR (fun q h => absurd h List.not_mem_nil)
                generalize H1 = H at hP hS ⊢
                have hw : (r_503 = 0 ∨ r_503 = 1) := hw
                have hw_505 := hw
                refine lv_if_ne (tgt := 126) hx hb dX15_sender_85 (by decide) (fun c_506 => ?_) (fun c_506 => ?_)
                ·
                  refine W.widen (k := 0) (n := 0) (by omega) (by omega) ?_
                  exact jn_498 () F_414 (trivial) hO hR _ _ hP hD hS ls (lv_sub hl [1, 2, 3, 4, 5] rfl)
                ·
                  refine lv_iload hx hb dX15_sender_88 (lv_at hl 0 rfl) ?_
                  have hFc := pg_free hD hS hA
                  refine va_calli (va_runS (As := [.int (f_397 i)]) (rest := []) ⟨hx, hb, hml, hown, hts⟩ (s_X15_isDigit l dC dI cs ty gm L H.size F_414 (f_397 i) hW ) ⟨callB_of 1 hts (gi kt_687) rfl rfl rfl (hts _ kt_669) (hts _ kt_707) (by decide +kernel) ⟨Nat.le_of_ble_eq_true rfl, Nat.le_of_ble_eq_true rfl⟩, (hts _ kt_688)⟩ ⟨fun a U g mk q => ⟨q.1, PTm.calling q.2⟩, fun U hU hWm => ⟨rfl, PTm.mk hU hWm hP hK hD hE hO⟩⟩ rfl rfl hl.1 rfl (lv_room (Nat.le_of_ble_eq_true rfl)) dX15_sender_90 ⟨by show _ + 0 ≤ 0; omega, by show _ + 0 ≤ 0; omega⟩) hS (fun q _ h => hFc q h) hFc (fun r_507 u t H1 locs ht hvm hw hB hz1 hk1 hS => ?_)
                  obtain ⟨F_508, hB1⟩ := hB
                  obtain rfl : F_414 = F_508 := (funext (fun a => hB1.2.2.2 a List.not_mem_nil)).symm
                  obtain ⟨hP, hD, hO, hR⟩ := QTm.back hB1 ht hFc hR (fun q h => absurd h List.not_mem_nil)
                  generalize H1 = H at hP hS ⊢
                  have hw : (r_507 = 0 ∨ r_507 = 1) := hw
                  have hw_509 := hw
                  refine lv_if_ne (tgt := 126) hx hb dX15_sender_93 (by decide) (fun c_510 => ?_) (fun c_510 => ?_)
                  ·
                    refine W.widen (k := 0) (n := 0) (by omega) (by omega) ?_
                    exact jn_498 () F_414 (trivial) hO hR _ _ hP hD hS ls (lv_sub hl [1, 2, 3, 4, 5] rfl)
                  ·
                    refine lv_iload hx hb dX15_sender_96 (lv_at hl 0 rfl) ?_
                    refine lv_bipush (v := 46) hx hb dX15_sender_98 (by decide) ?_
                    refine lv_icmp_eq (tgt := 126) hx hb dX15_sender_100 (by decide) (fun c_511 => ?_) (fun c_511 => ?_)
                    ·
                      refine W.widen (k := 0) (n := 0) (by omega) (by omega) ?_
                      exact jn_498 () F_414 (trivial) hO hR _ _ hP hD hS ls (lv_sub hl [1, 2, 3, 4, 5] rfl)
                    ·
                      refine lv_iload hx hb dX15_sender_103 (lv_at hl 0 rfl) ?_
                      refine lv_bipush (v := 45) hx hb dX15_sender_105 (by decide) ?_
                      refine lv_icmp_eq (tgt := 126) hx hb dX15_sender_107 (by decide) (fun c_512 => ?_) (fun c_512 => ?_)
                      ·
                        refine W.widen (k := 0) (n := 0) (by omega) (by omega) ?_
                        exact jn_498 () F_414 (trivial) hO hR _ _ hP hD hS ls (lv_sub hl [1, 2, 3, 4, 5] rfl)
                      ·
                        refine lv_iload hx hb dX15_sender_110 (lv_at hl 0 rfl) ?_
                        refine lv_bipush (v := 95) hx hb dX15_sender_112 (by decide) ?_
                        refine lv_icmp_eq (tgt := 126) hx hb dX15_sender_114 (by decide) (fun c_513 => ?_) (fun c_513 => ?_)
                        ·
                          refine W.widen (k := 0) (n := 0) (by omega) (by omega) ?_
                          exact jn_498 () F_414 (trivial) hO hR _ _ hP hD hS ls (lv_sub hl [1, 2, 3, 4, 5] rfl)
                        ·
                          refine lv_iload hx hb dX15_sender_117 (lv_at hl 0 rfl) ?_
                          refine lv_bipush (v := 43) hx hb dX15_sender_119 (by decide) ?_
                          refine lv_icmp_eq (tgt := 126) hx hb dX15_sender_121 (by decide) (fun c_514 => ?_) (fun c_514 => ?_)
                          ·
                            refine W.widen (k := 0) (n := 0) (by omega) (by omega) ?_
                            exact jn_498 () F_414 (trivial) hO hR _ _ hP hD hS ls (lv_sub hl [1, 2, 3, 4, 5] rfl)
                          ·
                            refine lv_iconst (v := (-1)) hx hb dX15_sender_124 (by decide) ?_
                            refine W.widen (k := 0) (n := 0) (by omega) (by omega) ?_
                            exact W.iret (v := (-1)) hx hb hr (fun t ht hWm => ⟨⟨(-1), (), rfl, trivial, ⟨F_414, ty, hty, QTm.mk ht hP hD hO hR, hW⟩⟩, hS.F ht⟩) hS.2.2 dX15_sender_125
          ·
            refine lv_iconst (v := (-1)) hx hb dX15_sender_60 (by decide) ?_
            refine W.widen (k := 0) (n := 0) (by omega) (by omega) ?_
            exact W.iret (v := (-1)) hx hb hr (fun t ht hWm => ⟨⟨(-1), (), rfl, trivial, ⟨F_235, ty, hty, QTm.mk ht hP hD hO hR, hW⟩⟩, hS.F ht⟩) hS.2.2 dX15_sender_61
    ·
      refine lv_iinc (v := (nI (j + 1))) (lv' := [(3, .int (nI (j + 1))), (2, .int (nI zt)), (0, .ref h0), (1, .int x1)]) hx hb dX15_sender_23 hl (k := 0) rfl (nI_1 _) (by decide) rfl (fun ls hl => ?_)
      refine lv_goto (tgt := 7) hx hb dX15_sender_26 (by decide) ?_
      refine W.widen (k := 0) (n := 0) (by omega) (by omega) ?_
      exact ih_237 (j + 1) F_235 (by first | omega | exact ⟨by omega, by omega⟩ | trivial) (by show zt - (j + 1) < zt - j; omega) hO hR _ _ hP hD hS ls (lv_sub hl [0, 1, 2, 3] rfl)
set_option maxHeartbeats 4000000 in
set_option maxRecDepth 100000 in
theorem s_X15_house (l : Launch) (dC : Nat → ClassId) (dI : Nat → Nat → Nat) (cs : Nat → ClassId) (ty : TyM) (gm : Nat → Nat → Nat) (L : List Nat) (sz : Nat) (F : Nat → va_E) (h0 : Nat) (ρ : Nat) (ta : Nat) (ou : Nat) (so : Nat) (ad : Nat) (na : Nat) (va : Nat) (lc : Nat) (dm : Nat) (tg : Nat) (pe : Nat) (ml : Nat) (bg : Nat) (co : Nat) (sp : Nat) (nb0 : Nat) (nb1 : Nat) (nb2 : Nat) (pl : Nat) (se : Nat) (ke : Nat) (wi : Nat) (hs : Nat) (mo : Nat) (po : Nat) (nu : Nat) (pr : Nat) (sq : Nat) (xa : Nat) (sa : Nat) (n64 : Nat) (m64 : Nat) (ex : Nat) (wh : Nat) (sd : Nat) (tk : Nat) (hd : Nat) (ak : Nat) (ho : Nat) (ot : Nat) (sx : Nat) (s0 : Nat) (s1 : Nat) (s2 : Nat) (nf : Nat) (bd : Nat) (mm : Nat) (zt : Nat) (hW : WTm ty gm L) (hL_h0 : h0 ∈ L) (hT_h0 : ty h0 = (15, ρ, [ta, ou, so, ad, na, va, lc, dm, tg, pe, ml, bg, co, sp, nb0, nb1, nb2, pl, se, ke, wi, hs, mo, po, nu, pr, sq, xa, sa, n64, m64, ex, wh, sd, tk, hd, ak, ho, ot, sx, s0, s1, s2, nf, bd, mm, zt])) : Met l yX15_house (.code yX15_house cX15_house 2 (some .int) :: tb) ({ frames := 4, cells := 0, slots := 0, locals := 119 }) (va_Pc [.ref h0] (PTm (dC, dI) cs ty gm L F sz)) (va_Qi (fun (r : Int32) (_ : Unit) => True) (fun _ T9 => ∃ F2 : Nat → va_E, ∃ ty2 : TyM, ty2 = rtf ty h0 (15, ρ, [ta, ou, so, ad, na, va, lc, dm, tg, pe, ml, bg, co, sp, nb0, nb1, nb2, pl, se, ke, wi, hs, mo, po, nu, pr, sq, xa, sa, n64, m64, ex, wh, sd, tk, hd, ak, ho, ot, sx, s0, s1, s2, nf, bd, mm, 0]) ∧ QTm (dC, dI) cs ty2 gm L [ρ, ρ + 2, ρ + 28, ρ + 29] F F2 (va_A (va_pl L F) sz) T9 ∧ WTm ty2 gm L) (va_A (va_pl L F) sz)) 0 0 (va_A (va_pl L F) sz) := by
  refine Met.ofW (cc := cX15_house) (maxL := 2) (ret := (some .int)) (by decide) rfl ?_
  intro p e s m args below meth c s₁ B hml hv
  obtain ⟨rfl, hsz, hP, hK, hD0, hE, hO⟩ := hv
  have hx := B.exec
  have hb := B.bytes
  have hr := B.returns
  have hts : ∀ w ∈ tb, w.before _ s = true := fun w h => atoms_spec (ws := .code yX15_house cX15_house 2 (some .int) :: tb) B.pre w (List.mem_cons_of_mem _ h)
  have hown : s.vm.findClass RX15 = some m.cls := findClass_of_methodNamed B.named
  have hlocks := B.notSynchronized
  subst hsz
  have hD := hD0.self (sz := s.heap.size)
  generalize hAe : va_A (va_pl L F) s.heap.size = A at hD ⊢
  have hA : ∀ q : Nat, s.heap.size ≤ q → A q := fun q h => by rw [← hAe]; exact Or.inr h
  have hS : va_S A s.heap s.heap [] := va_S.rf
  have hR : FR ty [ρ, ρ + 2, ρ + 28, ρ + 29] F F := FR.refl
  have hl := lv_entry ([.ref h0]) (n := 2) (Nat.le_of_ble_eq_true rfl)
  rw [lg_entry_eq]
  generalize (lg_sl ([.ref h0]) ++ List.replicate (2 - (lg_sl ([.ref h0])).length) Slot.unset).toArray = ls at hl ⊢
  have hl : lv_has ls 2 [(0, .ref h0)] := hl
  obtain ⟨hi_1, ht_2, hi_3, ht_4, hi_5, ht_6, hi_7, ht_8, hi_9, ht_10, hi_11, ht_12, hi_13, ⟨r_14, ht_15⟩, hi_16, ⟨r_17, ht_18⟩, hi_19, ht_20, hi_21, ⟨r_22, ht_23⟩, hi_24, ht_25, hi_26, ht_27, hi_28, ht_29, hi_30, ht_31, hi_32, ht_33, hi_34, ht_35, hi_36, ht_37, hi_38, ⟨r_39, ht_40⟩, hi_41, ht_42, hi_43, ⟨x_44, y0_45, y1_46, y2_47, ht_48⟩, hi_49, ⟨x_50, y0_51, y1_52, y2_53, ht_54⟩, hi_55, ⟨x_56, y_57, w_58, u_59, bl_60, ht_61⟩, hi_62, ht_63, hi_64, ht_65, hi_66, ht_67, hi_68, ht_69, hi_70, ht_71, hi_72, ht_73, hi_74, ht_75, hi_76, ht_77, hi_78, ht_79, hi_80, ht_81, hi_82, ⟨r_83, ht_84⟩, hi_85, ⟨r_86, ht_87⟩, hi_88, ht_89, hi_90, ht_91, hi_92, ⟨r_93, ht_94⟩, hi_95, ⟨r_96, ht_97⟩, hi_98, ⟨r_99, ht_100⟩, hq_101, hq_102, hq_103, hq_104, hq_105, hgO, hgA, hgB⟩ := hW.mod hL_h0 hT_h0
  refine lv_aload_n hx hb dX15_house_0 rfl (lv_at hl 0 rfl) ?_
  obtain ⟨zo_106, ze_107, v11_108, v12_109, v14_110, v15_111, v17_112, v18_113, v19_114, v20_115, v21_116, v22_117, v33_118, v52_119, v53_120, v54_121, hF_122, hq_123, hq_124, hq_125, hq_126⟩ := hO.mod hL_h0 hT_h0
  have hFc := pg_free hD hS hA
  refine va_calli (va_runV (As := []) (rest := []) ⟨hx, hb, hml, hown, hts⟩ (s_X15_used l dC dI cs ty gm L s.heap.size F h0 ρ ta ou so ad na va lc dm tg pe ml bg co sp nb0 nb1 nb2 pl se ke wi hs mo po nu pr sq xa sa n64 m64 ex wh sd tk hd ak ho ot sx s0 s1 s2 nf bd mm zt zo_106 ze_107 v11_108 v12_109 v14_110 v15_111 v17_112 v18_113 v19_114 v20_115 v21_116 v22_117 v33_118 v52_119 v53_120 v54_121 hW hL_h0 hT_h0 hF_122 (by first | omega | assumption) (by first | omega | assumption) (by first | omega | assumption) (by first | omega | assumption)) ⟨callB_of 0 hts (gi kt_1071) rfl rfl rfl (hts _ kt_669) (hts _ kt_1072) (by decide +kernel) ⟨Nat.le_of_ble_eq_true rfl, Nat.le_of_ble_eq_true rfl⟩, (hts _ kt_1073), (hts _ kt_1074)⟩ ⟨fun a U g mk q => ⟨q.1, PTm.calling q.2⟩, pg_recv hK hP hL_h0 hF_122 (q := (RX15, TX15, 59)) rfl, fun U hU hWm => ⟨rfl, PTm.mk hU hWm hP hK hD hE hO⟩⟩ rfl rfl hl.1 rfl (lv_room (Nat.le_of_ble_eq_true rfl)) dX15_house_1 ⟨by show _ + 0 ≤ 0; omega, by show _ + 0 ≤ 0; omega⟩) hS (fun q _ h => hFc q h) hFc (fun r_127 u t H1 locs ht hvm hw hB hz1 hk1 hS => ?_)
  obtain ⟨F_128, ty9, hty9, hB1, hW9, hq_129⟩ := hB
  subst hty9
  have hR9 := FR.retype (im2 := [ta, ou, so, ad, na, va, lc, dm, tg, pe, ml, bg, co, sp, nb0, nb1, nb2, pl, se, ke, wi, hs, mo, po, nu, pr, sq, xa, sa, n64, m64, ex, wh, sd, tk, hd, ak, ho, ot, sx, s0, s1, s2, nf, bd, mm, 0]) hT_h0 hR
  obtain ⟨hP, hD, hO, hR⟩ := QTm.back hB1 ht hFc hR9 (fun q h => by simp only [List.mem_cons, List.not_mem_nil, or_false] at h ⊢; omega)
  obtain ⟨ty, hty, hT_h0, hW, hO, hR⟩ : ∃ t9 : TyM, t9 = rtf ty h0 (15, ρ, [ta, ou, so, ad, na, va, lc, dm, tg, pe, ml, bg, co, sp, nb0, nb1, nb2, pl, se, ke, wi, hs, mo, po, nu, pr, sq, xa, sa, n64, m64, ex, wh, sd, tk, hd, ak, ho, ot, sx, s0, s1, s2, nf, bd, mm, 0]) ∧ t9 h0 = (15, ρ, [ta, ou, so, ad, na, va, lc, dm, tg, pe, ml, bg, co, sp, nb0, nb1, nb2, pl, se, ke, wi, hs, mo, po, nu, pr, sq, xa, sa, n64, m64, ex, wh, sd, tk, hd, ak, ho, ot, sx, s0, s1, s2, nf, bd, mm, 0]) ∧ WTm t9 gm L ∧ OKm cs t9 gm L F_128 ∧ FR t9 [ρ, ρ + 2, ρ + 28, ρ + 29] F F_128 := ⟨_, rfl, rtf_self, hW9, hO, hR⟩
  generalize H1 = H at hP hS ⊢
  have hw : r_127 = nI zt := hw
  subst hw
  obtain ⟨hi_130, ht_131, hi_132, ht_133, hi_134, ht_135, hi_136, ht_137, hi_138, ht_139, hi_140, ht_141, hi_142, ⟨r_143, ht_144⟩, hi_145, ⟨r_146, ht_147⟩, hi_148, ht_149, hi_150, ⟨r_151, ht_152⟩, hi_153, ht_154, hi_155, ht_156, hi_157, ht_158, hi_159, ht_160, hi_161, ht_162, hi_163, ht_164, hi_165, ht_166, hi_167, ⟨r_168, ht_169⟩, hi_170, ht_171, hi_172, ⟨x_173, y0_174, y1_175, y2_176, ht_177⟩, hi_178, ⟨x_179, y0_180, y1_181, y2_182, ht_183⟩, hi_184, ⟨x_185, y_186, w_187, u_188, bl_189, ht_190⟩, hi_191, ht_192, hi_193, ht_194, hi_195, ht_196, hi_197, ht_198, hi_199, ht_200, hi_201, ht_202, hi_203, ht_204, hi_205, ht_206, hi_207, ht_208, hi_209, ht_210, hi_211, ⟨r_212, ht_213⟩, hi_214, ⟨r_215, ht_216⟩, hi_217, ht_218, hi_219, ht_220, hi_221, ⟨r_222, ht_223⟩, hi_224, ⟨r_225, ht_226⟩, hi_227, ⟨r_228, ht_229⟩, hq_230, hq_231, hq_232, hq_233, hq_234, hgO, hgA, hgB⟩ := hW.mod hL_h0 hT_h0
  refine lv_istore_n (lv' := [(1, .int (nI zt)), (0, .ref h0)]) hx hb dX15_house_4 rfl hl (by decide) rfl (fun ls hl => ?_)
  refine lv_aload_n hx hb dX15_house_5 rfl (lv_at hl 1 rfl) ?_
  refine pg_get (ci := 15) (v := .ref ta) (C := RX15) (T := TX15) (N := 59) hx hb hts it_15 hown hK hP hL_h0 hq_129 rfl 0 (by decide) (hts _ kt_1075) (fun _ h9 => h9) rfl dX15_house_6 ?_
  refine lv_iconst (v := 0) hx hb dX15_house_9 (by decide) ?_
  refine lv_iload_n hx hb dX15_house_10 rfl (lv_at hl 0 rfl) ?_
  refine W.eq (g2 := F0 m 11 ls [.int (nI zt), .int (nI 0), .ref ta]) rfl ?_
  obtain ⟨hq_235, hq_236⟩ := hW.octs hi_130 ht_131
  have hFc := pg_free hD hS hA
  refine va_calli (va_runS (As := [.ref ta, .int (nI 0), .int (nI zt)]) (rest := []) ⟨hx, hb, hml, hown, hts⟩ (s_X14_isName_ l dC dI cs ty gm L H.size F_128 ta (ρ + 1) 3000 0 zt hW hi_130 ht_131 (by first | omega | assumption) (by first | omega | assumption)) ⟨callB_of 3 hts (gi kt_689) rfl rfl rfl (hts _ kt_676) (hts _ kt_863) (by decide +kernel) ⟨Nat.le_of_ble_eq_true rfl, Nat.le_of_ble_eq_true rfl⟩, (hts _ kt_691)⟩ ⟨fun a U g mk q => ⟨q.1, PTm.calling q.2⟩, fun U hU hWm => ⟨rfl, PTm.mk hU hWm hP hK hD hE hO⟩⟩ rfl rfl hl.1 rfl (lv_room (Nat.le_of_ble_eq_true rfl)) dX15_house_11 ⟨by show _ + 0 ≤ 0; omega, by show _ + 0 ≤ 0; omega⟩) hS (fun q _ h => hFc q h) hFc (fun r_237 u t H1 locs ht hvm hw hB hz1 hk1 hS => ?_)
  obtain ⟨F_238, hB1⟩ := hB
  obtain rfl : F_128 = F_238 := (funext (fun a => hB1.2.2.2 a List.not_mem_nil)).symm
  obtain ⟨hP, hD, hO, hR⟩ := QTm.back hB1 ht hFc hR (fun q h => absurd h List.not_mem_nil)
  generalize H1 = H at hP hS ⊢
  have hw : (r_237 = 0 ∨ (r_237 = 1 ∧ 0 < zt ∧ zt ≤ 0 + 60)) := hw
  have hw_239 := hw
  refine lv_if_ne (tgt := 19) hx hb dX15_house_14 (by decide) (fun c_240 => ?_) (fun c_240 => ?_)
  ·
    have hnm := bit1 hw_239 c_240
    refine lv_aload_n hx hb dX15_house_19 rfl (lv_at hl 1 rfl) ?_
    refine pg_get (ci := 15) (v := .ref ak) (C := RX15) (T := TX15) (N := 59) hx hb hts it_15 hown hK hP hL_h0 hq_129 rfl 56 (by decide) (hts _ kt_1045) (fun _ h9 => h9) rfl dX15_house_20 ?_
    refine lv_aload_n hx hb dX15_house_23 rfl (lv_at hl 1 rfl) ?_
    refine pg_get (ci := 15) (v := .ref ta) (C := RX15) (T := TX15) (N := 59) hx hb hts it_15 hown hK hP hL_h0 hq_129 rfl 0 (by decide) (hts _ kt_1075) (fun _ h9 => h9) rfl dX15_house_24 ?_
    refine lv_iconst (v := 0) hx hb dX15_house_27 (by decide) ?_
    refine lv_iload_n hx hb dX15_house_28 rfl (lv_at hl 0 rfl) ?_
    refine W.eq (g2 := F0 m 29 ls [.int (nI zt), .int (nI 0), .ref ta, .ref ak]) rfl ?_
    obtain ⟨hi_241, ht_242, hq_243⟩ := hW.txt hi_221 ht_223
    have hFc := pg_free hD hS hA
    obtain ⟨z_244, hF_245, hq_246⟩ := hO.txt hi_221 ht_223
    refine va_callv (va_runV (As := [.ref ta, .int (nI 0), .int (nI zt)]) (rest := []) ⟨hx, hb, hml, hown, hts⟩ (s_X14_set l dC dI cs ty gm L H.size F_128 ak (ρ + 28) r_222 6000 ta (ρ + 1) 3000 0 zt hW hi_221 ht_223 hi_130 ht_131 (by first | omega | assumption) (by first | omega | assumption) (by first | omega | assumption)) ⟨callB_of 3 hts (gi kt_979) rfl rfl rfl (hts _ kt_676) (hts _ kt_980) (by decide +kernel) ⟨Nat.le_of_ble_eq_true rfl, Nat.le_of_ble_eq_true rfl⟩, (hts _ kt_981), (hts _ kt_982)⟩ ⟨fun a U g mk q => ⟨q.1, PTm.calling q.2⟩, pg_recv hK hP hi_221 hF_245 (q := (RX14, TX14, 2)) rfl, fun U hU hWm => ⟨rfl, PTm.mk hU hWm hP hK hD hE hO⟩⟩ rfl rfl hl.1 rfl (lv_room (Nat.le_of_ble_eq_true rfl)) dX15_house_29 ⟨by show _ + 0 ≤ 0; omega, by show _ + 0 ≤ 0; omega⟩) hS (fun q _ h => hFc q h) hFc (fun u t H1 locs ht hvm hw hB hz1 hk1 hS => ?_)
    obtain ⟨F_248, hB1, hq_249⟩ := hB
    obtain ⟨hP, hD, hO, hR⟩ := QTm.back hB1 ht hFc hR (fun q h => by simp only [List.mem_cons, List.not_mem_nil, or_false] at h ⊢; omega)
    have hF_250 : F_248 h0 = .inr (15, (.ref ta) :: (.int 0) :: (.int (nI zo_106)) :: (.int (nI ze_107)) :: (.ref ou) :: (.ref so) :: (.ref ad) :: (.ref na) :: (.ref va) :: (.ref lc) :: (.ref dm) :: (.int v11_108) :: (.int v12_109) :: (.ref tg) :: (.int v14_110) :: (.int v15_111) :: (.ref pe) :: (.int v17_112) :: (.int v18_113) :: (.int v19_114) :: (.int v20_115) :: (.int v21_116) :: (.int v22_117) :: (.ref ml) :: (.ref bg) :: (.ref co) :: (.ref sp) :: (.ref nb0) :: (.ref nb1) :: (.ref nb2) :: (.int (nI nf)) :: (.int (nI bd)) :: (.int (nI mm)) :: (.int v33_118) :: (.ref pl) :: (.ref se) :: (.ref ke) :: (.ref wi) :: (.ref hs) :: (.ref mo) :: (.ref po) :: (.ref nu) :: (.ref pr) :: (.ref sq) :: (.ref xa) :: (.ref sa) :: (.ref n64) :: (.ref m64) :: (.ref ex) :: (.ref wh) :: (.ref sd) :: (.ref tk) :: (.int v52_119) :: (.int v53_120) :: (.int v54_121) :: (.ref hd) :: (.ref ak) :: (.ref ho) :: (.ref ot) :: []) := (hB1.2.2.2 h0 (by rw [hT_h0]; simp)).trans hq_129
    generalize H1 = H at hP hS ⊢
    refine lv_aload_n hx hb dX15_house_32 rfl (lv_at hl 1 rfl) ?_
    refine lv_aload_n hx hb dX15_house_33 rfl (lv_at hl 1 rfl) ?_
    refine pg_get (ci := 15) (v := .ref ak) (C := RX15) (T := TX15) (N := 59) hx hb hts it_15 hown hK hP hL_h0 hF_250 rfl 56 (by decide) (hts _ kt_1045) (fun _ h9 => h9) rfl dX15_house_34 ?_
    refine lv_aload_n hx hb dX15_house_37 rfl (lv_at hl 1 rfl) ?_
    refine pg_get (ci := 15) (v := .ref ho) (C := RX15) (T := TX15) (N := 59) hx hb hts it_15 hown hK hP hL_h0 hF_250 rfl 57 (by decide) (hts _ kt_1007) (fun _ h9 => h9) rfl dX15_house_38 ?_
    obtain ⟨hi_251, ht_252, hq_253⟩ := hW.txt hi_224 ht_226
    have hFc := pg_free hD hS hA
    refine va_callv (va_runV (As := [.ref ak, .ref ho]) (rest := []) ⟨hx, hb, hml, hown, hts⟩ (s_X15_houseOf l dC dI cs ty gm L H.size F_248 h0 ρ ta ou so ad na va lc dm tg pe ml bg co sp nb0 nb1 nb2 pl se ke wi hs mo po nu pr sq xa sa n64 m64 ex wh sd tk hd ak ho ot sx s0 s1 s2 nf bd mm 0 ak (ρ + 28) r_222 6000 ho (ρ + 29) r_225 6000 (zt - 0) hW hL_h0 hT_h0 hi_221 ht_223 hi_224 ht_226 hq_249 (by first | omega | assumption) (by first | omega | assumption)) ⟨callB_of 2 hts (gi kt_1008) rfl rfl rfl (hts _ kt_669) (hts _ kt_1009) (by decide +kernel) ⟨Nat.le_of_ble_eq_true rfl, Nat.le_of_ble_eq_true rfl⟩, (hts _ kt_1010), (hts _ kt_1011)⟩ ⟨fun a U g mk q => ⟨q.1, PTm.calling q.2⟩, pg_recv hK hP hL_h0 hF_250 (q := (RX15, TX15, 59)) rfl, fun U hU hWm => ⟨rfl, PTm.mk hU hWm hP hK hD hE hO⟩⟩ rfl rfl hl.1 rfl (lv_room (Nat.le_of_ble_eq_true rfl)) dX15_house_41 ⟨by show _ + 0 ≤ 0; omega, by show _ + 0 ≤ 0; omega⟩) hS (fun q _ h => hFc q h) hFc (fun u t H1 locs ht hvm hw hB hz1 hk1 hS => ?_)
    obtain ⟨F_255, y2_256, hB1, hq_257, hq_258⟩ := hB
    obtain ⟨hP, hD, hO, hR⟩ := QTm.back hB1 ht hFc hR (fun q h => by simp only [List.mem_cons, List.not_mem_nil, or_false] at h ⊢; omega)
    have hF_259 : F_255 h0 = .inr (15, (.ref ta) :: (.int 0) :: (.int (nI zo_106)) :: (.int (nI ze_107)) :: (.ref ou) :: (.ref so) :: (.ref ad) :: (.ref na) :: (.ref va) :: (.ref lc) :: (.ref dm) :: (.int v11_108) :: (.int v12_109) :: (.ref tg) :: (.int v14_110) :: (.int v15_111) :: (.ref pe) :: (.int v17_112) :: (.int v18_113) :: (.int v19_114) :: (.int v20_115) :: (.int v21_116) :: (.int v22_117) :: (.ref ml) :: (.ref bg) :: (.ref co) :: (.ref sp) :: (.ref nb0) :: (.ref nb1) :: (.ref nb2) :: (.int (nI nf)) :: (.int (nI bd)) :: (.int (nI mm)) :: (.int v33_118) :: (.ref pl) :: (.ref se) :: (.ref ke) :: (.ref wi) :: (.ref hs) :: (.ref mo) :: (.ref po) :: (.ref nu) :: (.ref pr) :: (.ref sq) :: (.ref xa) :: (.ref sa) :: (.ref n64) :: (.ref m64) :: (.ref ex) :: (.ref wh) :: (.ref sd) :: (.ref tk) :: (.int v52_119) :: (.int v53_120) :: (.int v54_121) :: (.ref hd) :: (.ref ak) :: (.ref ho) :: (.ref ot) :: []) := (hB1.2.2.2 h0 (by rw [hT_h0]; simp)).trans hF_250
    have hF_260 : F_255 ak = .inr (14, [.ref r_222, .int (nI (zt - 0))]) := (hB1.2.2.2 ak (by rw [ht_223]; simp)).trans hq_249
    generalize H1 = H at hP hS ⊢
    refine lv_aload_n hx hb dX15_house_44 rfl (lv_at hl 1 rfl) ?_
    refine lv_aload_n hx hb dX15_house_45 rfl (lv_at hl 1 rfl) ?_
    refine pg_get (ci := 15) (v := .ref ho) (C := RX15) (T := TX15) (N := 59) hx hb hts it_15 hown hK hP hL_h0 hF_259 rfl 57 (by decide) (hts _ kt_1007) (fun _ h9 => h9) rfl dX15_house_46 ?_
    have hFc := pg_free hD hS hA
    refine va_calli (va_runV (As := [.ref ho]) (rest := []) ⟨hx, hb, hml, hown, hts⟩ (s_X15_tell l dC dI cs ty gm L H.size F_255 h0 ρ ta ou so ad na va lc dm tg pe ml bg co sp nb0 nb1 nb2 pl se ke wi hs mo po nu pr sq xa sa n64 m64 ex wh sd tk hd ak ho ot sx s0 s1 s2 nf bd mm 0 ho (ρ + 29) r_225 hW hL_h0 hT_h0 hi_224 ht_226) ⟨callB_of 1 hts (gi kt_929) rfl rfl rfl (hts _ kt_669) (hts _ kt_930) (by decide +kernel) ⟨Nat.le_of_ble_eq_true rfl, Nat.le_of_ble_eq_true rfl⟩, (hts _ kt_931), (hts _ kt_932)⟩ ⟨fun a U g mk q => ⟨q.1, PTm.calling q.2⟩, pg_recv hK hP hL_h0 hF_259 (q := (RX15, TX15, 59)) rfl, fun U hU hWm => ⟨rfl, PTm.mk hU hWm hP hK hD hE hO⟩⟩ rfl rfl hl.1 rfl (lv_room (Nat.le_of_ble_eq_true rfl)) dX15_house_49 ⟨by show _ + 0 ≤ 0; omega, by show _ + 0 ≤ 0; omega⟩) hS (fun q _ h => hFc q h) hFc (fun r_261 u t H1 locs ht hvm hw hB hz1 hk1 hS => ?_)
    obtain ⟨F_262, hB1⟩ := hB
    obtain ⟨hP, hD, hO, hR⟩ := QTm.back hB1 ht hFc hR (fun q h => by simp only [List.mem_cons, List.not_mem_nil, or_false] at h ⊢; omega)
    have hF_263 : F_262 ak = .inr (14, [.ref r_222, .int (nI (zt - 0))]) := (hB1.2.2.2 ak (by rw [ht_223]; simp)).trans hF_260
    have hF_264 : F_262 ho = .inr (14, [.ref r_225, .int (nI y2_256)]) := (hB1.2.2.2 ho (by rw [ht_226]; simp)).trans hq_257
    generalize H1 = H at hP hS ⊢
    have hw : True := hw
    have hw_265 := hw
    refine W.widen (k := 0) (n := 0) (by omega) (by omega) ?_
    exact W.iret (v := r_261) hx hb hr (fun t ht hWm => ⟨⟨r_261, (), rfl, trivial, ⟨F_262, ty, hty, QTm.mk ht hP hD hO hR, hW⟩⟩, hS.F ht⟩) hS.2.2 dX15_house_52
  ·
    refine lv_iconst (v := (-1)) hx hb dX15_house_17 (by decide) ?_
    refine W.widen (k := 0) (n := 0) (by omega) (by omega) ?_
    exact W.iret (v := (-1)) hx hb hr (fun t ht hWm => ⟨⟨(-1), (), rfl, trivial, ⟨F_128, ty, hty, QTm.mk ht hP hD hO hR, hW⟩⟩, hS.F ht⟩) hS.2.2 dX15_house_18
set_option maxHeartbeats 4000000 in
set_option maxRecDepth 100000 in
theorem s_X15_entry (l : Launch) (dC : Nat → ClassId) (dI : Nat → Nat → Nat) (cs : Nat → ClassId) (ty : TyM) (gm : Nat → Nat → Nat) (L : List Nat) (sz : Nat) (F : Nat → va_E) (h0 : Nat) (ρ : Nat) (ta : Nat) (ou : Nat) (so : Nat) (ad : Nat) (na : Nat) (va : Nat) (lc : Nat) (dm : Nat) (tg : Nat) (pe : Nat) (ml : Nat) (bg : Nat) (co : Nat) (sp : Nat) (nb0 : Nat) (nb1 : Nat) (nb2 : Nat) (pl : Nat) (se : Nat) (ke : Nat) (wi : Nat) (hs : Nat) (mo : Nat) (po : Nat) (nu : Nat) (pr : Nat) (sq : Nat) (xa : Nat) (sa : Nat) (n64 : Nat) (m64 : Nat) (ex : Nat) (wh : Nat) (sd : Nat) (tk : Nat) (hd : Nat) (ak : Nat) (ho : Nat) (ot : Nat) (sx : Nat) (s0 : Nat) (s1 : Nat) (s2 : Nat) (nf : Nat) (bd : Nat) (mm : Nat) (zt : Nat) (x1 : Int32) (x2 : Int32) (hW : WTm ty gm L) (hL_h0 : h0 ∈ L) (hT_h0 : ty h0 = (15, ρ, [ta, ou, so, ad, na, va, lc, dm, tg, pe, ml, bg, co, sp, nb0, nb1, nb2, pl, se, ke, wi, hs, mo, po, nu, pr, sq, xa, sa, n64, m64, ex, wh, sd, tk, hd, ak, ho, ot, sx, s0, s1, s2, nf, bd, mm, zt])) : Met l yX15_entry (.code yX15_entry cX15_entry 7 (some .int) :: tb) ({ frames := 3, cells := 0, slots := 0, locals := 94 }) (va_Pc [.ref h0, .int x1, .int x2] (PTm (dC, dI) cs ty gm L F sz)) (va_Qi (fun (r : Int32) (_ : Unit) => True) (fun _ T9 => ∃ F2 : Nat → va_E, ∃ ty2 : TyM, ty2 = rtf ty h0 (15, ρ, [ta, ou, so, ad, na, va, lc, dm, tg, pe, ml, bg, co, sp, nb0, nb1, nb2, pl, se, ke, wi, hs, mo, po, nu, pr, sq, xa, sa, n64, m64, ex, wh, sd, tk, hd, ak, ho, ot, sx, s0, s1, s2, nf, bd, mm, 0]) ∧ QTm (dC, dI) cs ty2 gm L [ρ, ρ + 3, ρ + 4, ρ + 31] F F2 (va_A (va_pl L F) sz) T9 ∧ WTm ty2 gm L) (va_A (va_pl L F) sz)) 0 0 (va_A (va_pl L F) sz) := by
  refine Met.ofW (cc := cX15_entry) (maxL := 7) (ret := (some .int)) (by decide) rfl ?_
  intro p e s m args below meth c s₁ B hml hv
  obtain ⟨rfl, hsz, hP, hK, hD0, hE, hO⟩ := hv
  have hx := B.exec
  have hb := B.bytes
  have hr := B.returns
  have hts : ∀ w ∈ tb, w.before _ s = true := fun w h => atoms_spec (ws := .code yX15_entry cX15_entry 7 (some .int) :: tb) B.pre w (List.mem_cons_of_mem _ h)
  have hown : s.vm.findClass RX15 = some m.cls := findClass_of_methodNamed B.named
  have hlocks := B.notSynchronized
  subst hsz
  have hD := hD0.self (sz := s.heap.size)
  generalize hAe : va_A (va_pl L F) s.heap.size = A at hD ⊢
  have hA : ∀ q : Nat, s.heap.size ≤ q → A q := fun q h => by rw [← hAe]; exact Or.inr h
  have hS : va_S A s.heap s.heap [] := va_S.rf
  have hR : FR ty [ρ, ρ + 3, ρ + 4, ρ + 31] F F := FR.refl
  have hl := lv_entry ([.ref h0, .int x1, .int x2]) (n := 7) (Nat.le_of_ble_eq_true rfl)
  rw [lg_entry_eq]
  generalize (lg_sl ([.ref h0, .int x1, .int x2]) ++ List.replicate (7 - (lg_sl ([.ref h0, .int x1, .int x2])).length) Slot.unset).toArray = ls at hl ⊢
  have hl : lv_has ls 7 [(0, .ref h0), (1, .int x1), (2, .int x2)] := hl
  obtain ⟨hi_1, ht_2, hi_3, ht_4, hi_5, ht_6, hi_7, ht_8, hi_9, ht_10, hi_11, ht_12, hi_13, ⟨r_14, ht_15⟩, hi_16, ⟨r_17, ht_18⟩, hi_19, ht_20, hi_21, ⟨r_22, ht_23⟩, hi_24, ht_25, hi_26, ht_27, hi_28, ht_29, hi_30, ht_31, hi_32, ht_33, hi_34, ht_35, hi_36, ht_37, hi_38, ⟨r_39, ht_40⟩, hi_41, ht_42, hi_43, ⟨x_44, y0_45, y1_46, y2_47, ht_48⟩, hi_49, ⟨x_50, y0_51, y1_52, y2_53, ht_54⟩, hi_55, ⟨x_56, y_57, w_58, u_59, bl_60, ht_61⟩, hi_62, ht_63, hi_64, ht_65, hi_66, ht_67, hi_68, ht_69, hi_70, ht_71, hi_72, ht_73, hi_74, ht_75, hi_76, ht_77, hi_78, ht_79, hi_80, ht_81, hi_82, ⟨r_83, ht_84⟩, hi_85, ⟨r_86, ht_87⟩, hi_88, ht_89, hi_90, ht_91, hi_92, ⟨r_93, ht_94⟩, hi_95, ⟨r_96, ht_97⟩, hi_98, ⟨r_99, ht_100⟩, hq_101, hq_102, hq_103, hq_104, hq_105, hgO, hgA, hgB⟩ := hW.mod hL_h0 hT_h0
  refine lv_aload_n hx hb dX15_entry_0 rfl (lv_at hl 0 rfl) ?_
  obtain ⟨zo_106, ze_107, v11_108, v12_109, v14_110, v15_111, v17_112, v18_113, v19_114, v20_115, v21_116, v22_117, v33_118, v52_119, v53_120, v54_121, hF_122, hq_123, hq_124, hq_125, hq_126⟩ := hO.mod hL_h0 hT_h0
  have hFc := pg_free hD hS hA
  refine va_calli (va_runV (As := []) (rest := []) ⟨hx, hb, hml, hown, hts⟩ (s_X15_used l dC dI cs ty gm L s.heap.size F h0 ρ ta ou so ad na va lc dm tg pe ml bg co sp nb0 nb1 nb2 pl se ke wi hs mo po nu pr sq xa sa n64 m64 ex wh sd tk hd ak ho ot sx s0 s1 s2 nf bd mm zt zo_106 ze_107 v11_108 v12_109 v14_110 v15_111 v17_112 v18_113 v19_114 v20_115 v21_116 v22_117 v33_118 v52_119 v53_120 v54_121 hW hL_h0 hT_h0 hF_122 (by first | omega | assumption) (by first | omega | assumption) (by first | omega | assumption) (by first | omega | assumption)) ⟨callB_of 0 hts (gi kt_1071) rfl rfl rfl (hts _ kt_669) (hts _ kt_1072) (by decide +kernel) ⟨Nat.le_of_ble_eq_true rfl, Nat.le_of_ble_eq_true rfl⟩, (hts _ kt_1073), (hts _ kt_1074)⟩ ⟨fun a U g mk q => ⟨q.1, PTm.calling q.2⟩, pg_recv hK hP hL_h0 hF_122 (q := (RX15, TX15, 59)) rfl, fun U hU hWm => ⟨rfl, PTm.mk hU hWm hP hK hD hE hO⟩⟩ rfl rfl hl.1 rfl (lv_room (Nat.le_of_ble_eq_true rfl)) dX15_entry_1 ⟨by show _ + 0 ≤ 0; omega, by show _ + 0 ≤ 0; omega⟩) hS (fun q _ h => hFc q h) hFc (fun r_127 u t H1 locs ht hvm hw hB hz1 hk1 hS => ?_)
  obtain ⟨F_128, ty9, hty9, hB1, hW9, hq_129⟩ := hB
  subst hty9
  have hR9 := FR.retype (im2 := [ta, ou, so, ad, na, va, lc, dm, tg, pe, ml, bg, co, sp, nb0, nb1, nb2, pl, se, ke, wi, hs, mo, po, nu, pr, sq, xa, sa, n64, m64, ex, wh, sd, tk, hd, ak, ho, ot, sx, s0, s1, s2, nf, bd, mm, 0]) hT_h0 hR
  obtain ⟨hP, hD, hO, hR⟩ := QTm.back hB1 ht hFc hR9 (fun q h => by simp only [List.mem_cons, List.not_mem_nil, or_false] at h ⊢; omega)
  obtain ⟨ty, hty, hT_h0, hW, hO, hR⟩ : ∃ t9 : TyM, t9 = rtf ty h0 (15, ρ, [ta, ou, so, ad, na, va, lc, dm, tg, pe, ml, bg, co, sp, nb0, nb1, nb2, pl, se, ke, wi, hs, mo, po, nu, pr, sq, xa, sa, n64, m64, ex, wh, sd, tk, hd, ak, ho, ot, sx, s0, s1, s2, nf, bd, mm, 0]) ∧ t9 h0 = (15, ρ, [ta, ou, so, ad, na, va, lc, dm, tg, pe, ml, bg, co, sp, nb0, nb1, nb2, pl, se, ke, wi, hs, mo, po, nu, pr, sq, xa, sa, n64, m64, ex, wh, sd, tk, hd, ak, ho, ot, sx, s0, s1, s2, nf, bd, mm, 0]) ∧ WTm t9 gm L ∧ OKm cs t9 gm L F_128 ∧ FR t9 [ρ, ρ + 3, ρ + 4, ρ + 31] F F_128 := ⟨_, rfl, rtf_self, hW9, hO, hR⟩
  generalize H1 = H at hP hS ⊢
  have hw : r_127 = nI zt := hw
  subst hw
  obtain ⟨hi_130, ht_131, hi_132, ht_133, hi_134, ht_135, hi_136, ht_137, hi_138, ht_139, hi_140, ht_141, hi_142, ⟨r_143, ht_144⟩, hi_145, ⟨r_146, ht_147⟩, hi_148, ht_149, hi_150, ⟨r_151, ht_152⟩, hi_153, ht_154, hi_155, ht_156, hi_157, ht_158, hi_159, ht_160, hi_161, ht_162, hi_163, ht_164, hi_165, ht_166, hi_167, ⟨r_168, ht_169⟩, hi_170, ht_171, hi_172, ⟨x_173, y0_174, y1_175, y2_176, ht_177⟩, hi_178, ⟨x_179, y0_180, y1_181, y2_182, ht_183⟩, hi_184, ⟨x_185, y_186, w_187, u_188, bl_189, ht_190⟩, hi_191, ht_192, hi_193, ht_194, hi_195, ht_196, hi_197, ht_198, hi_199, ht_200, hi_201, ht_202, hi_203, ht_204, hi_205, ht_206, hi_207, ht_208, hi_209, ht_210, hi_211, ⟨r_212, ht_213⟩, hi_214, ⟨r_215, ht_216⟩, hi_217, ht_218, hi_219, ht_220, hi_221, ⟨r_222, ht_223⟩, hi_224, ⟨r_225, ht_226⟩, hi_227, ⟨r_228, ht_229⟩, hq_230, hq_231, hq_232, hq_233, hq_234, hgO, hgA, hgB⟩ := hW.mod hL_h0 hT_h0
  refine lv_istore_n (lv' := [(3, .int (nI zt)), (0, .ref h0), (1, .int x1), (2, .int x2)]) hx hb dX15_entry_4 rfl hl (by decide) rfl (fun ls hl => ?_)
  refine lv_iconst (v := 0) hx hb dX15_entry_5 (by decide) ?_
  refine lv_istore (lv' := [(4, .int 0), (3, .int (nI zt)), (0, .ref h0), (1, .int x1), (2, .int x2)]) hx hb dX15_entry_6 hl (by decide) rfl (fun ls hl => ?_)
  refine lv_aload_n hx hb dX15_entry_8 rfl (lv_at hl 2 rfl) ?_
  refine pg_get (ci := 15) (v := .int (nI ze_107)) (C := RX15) (T := TX15) (N := 59) hx hb hts it_15 hown hK hP hL_h0 hq_129 rfl 3 (by decide) (hts _ kt_724) (fun _ h9 => h9) rfl dX15_entry_9 ?_
  refine lv_bipush (v := 40) hx hb dX15_entry_12 (by decide) ?_
  refine lv_icmp_ne (tgt := 20) hx hb dX15_entry_14 (by decide) (fun c_235 => ?_) (fun c_235 => ?_)
  ·
    have hi_236 : ze_107 ≠ 40 := fun q => c_235 (by rw [q]; rfl)
    refine lv_iload_n hx hb dX15_entry_20 rfl (lv_at hl 3 rfl) ?_
    refine lv_i2l (v := x1.toInt64) hx hb dX15_entry_21 rfl ?_
    refine lv_lconst (v := 0) hx hb dX15_entry_22 (by decide) ?_
    refine lv_ldc2 (v := 4) hx hb hown (hts _ kt_1078) dX15_entry_23 ?_
    have hFc := pg_free hD hS hA
    refine va_calli (va_runS (As := [.long x1.toInt64, .long 0, .long 4]) (rest := []) ⟨hx, hb, hml, hown, hts⟩ (s_X15_in l dC dI cs ty gm L H.size F_128 x1.toInt64 0 4 hW ) ⟨callB_of 3 hts (gi kt_685) rfl rfl rfl (hts _ kt_669) (hts _ kt_705) (by decide +kernel) ⟨Nat.le_of_ble_eq_true rfl, Nat.le_of_ble_eq_true rfl⟩, (hts _ kt_686)⟩ ⟨fun a U g mk q => ⟨q.1, PTm.calling q.2⟩, fun U hU hWm => ⟨rfl, PTm.mk hU hWm hP hK hD hE hO⟩⟩ rfl rfl hl.1 rfl (lv_room (Nat.le_of_ble_eq_true rfl)) dX15_entry_26 ⟨by show _ + 0 ≤ 0; omega, by show _ + 0 ≤ 0; omega⟩) hS (fun q _ h => hFc q h) hFc (fun r_237 u t H1 locs ht hvm hw hB hz1 hk1 hS => ?_)
    obtain ⟨F_238, hB1⟩ := hB
    obtain rfl : F_128 = F_238 := (funext (fun a => hB1.2.2.2 a List.not_mem_nil)).symm
    obtain ⟨hP, hD, hO, hR⟩ := QTm.back hB1 ht hFc hR (fun q h => absurd h List.not_mem_nil)
    generalize H1 = H at hP hS ⊢
    have hw : r_237 = (if 0 ≤ x1.toInt64 ∧ x1.toInt64 ≤ 4 then 1 else 0) := hw
    have hw_239 := hw
    refine lv_if_ne (tgt := 34) hx hb dX15_entry_29 (by decide) (fun c_240 => ?_) (fun c_240 => ?_)
    ·
      refine W.widen (k := 0) (n := 0) (by omega) (by omega) ?_
      refine pl_cutm (σ := Int32) A (dC, dI) cs ty gm L [ρ, ρ + 3, ρ + 4, ρ + 31] F 48 7 (fun s5 => [(4, .int 0), (3, .int (nI zt)), (0, .ref h0), (1, .int x1), (2, .int x2)]) (fun s5 => [.int s5]) (fun s5 FF => (s5 = 0 ∨ s5 = 1) ∧ (s5 = 1 → (x1 = 0 ∨ x1 = 2)) ∧ (x1 = 0 → s5 = 1) ∧ FF h0 = .inr (15, (.ref ta) :: (.int 0) :: (.int (nI zo_106)) :: (.int (nI ze_107)) :: (.ref ou) :: (.ref so) :: (.ref ad) :: (.ref na) :: (.ref va) :: (.ref lc) :: (.ref dm) :: (.int v11_108) :: (.int v12_109) :: (.ref tg) :: (.int v14_110) :: (.int v15_111) :: (.ref pe) :: (.int v17_112) :: (.int v18_113) :: (.int v19_114) :: (.int v20_115) :: (.int v21_116) :: (.int v22_117) :: (.ref ml) :: (.ref bg) :: (.ref co) :: (.ref sp) :: (.ref nb0) :: (.ref nb1) :: (.ref nb2) :: (.int (nI nf)) :: (.int (nI bd)) :: (.int (nI mm)) :: (.int v33_118) :: (.ref pl) :: (.ref se) :: (.ref ke) :: (.ref wi) :: (.ref hs) :: (.ref mo) :: (.ref po) :: (.ref nu) :: (.ref pr) :: (.ref sq) :: (.ref xa) :: (.ref sa) :: (.ref n64) :: (.ref m64) :: (.ref ex) :: (.ref wh) :: (.ref sd) :: (.ref tk) :: (.int v52_119) :: (.int v53_120) :: (.int v54_121) :: (.ref hd) :: (.ref ak) :: (.ref ho) :: (.ref ot) :: [])) ?_ (fun jn_241 => ?_)
      ·
        rintro s5 F_242 hv_243 hO hR H locs hP hD hS ls hl
        have hl : lv_has ls 7 [(4, .int 0), (3, .int (nI zt)), (0, .ref h0), (1, .int x1), (2, .int x2)] := hl
        have hv_243 : (s5 = 0 ∨ s5 = 1) ∧ (s5 = 1 → (x1 = 0 ∨ x1 = 2)) ∧ (x1 = 0 → s5 = 1) ∧ F_242 h0 = .inr (15, (.ref ta) :: (.int 0) :: (.int (nI zo_106)) :: (.int (nI ze_107)) :: (.ref ou) :: (.ref so) :: (.ref ad) :: (.ref na) :: (.ref va) :: (.ref lc) :: (.ref dm) :: (.int v11_108) :: (.int v12_109) :: (.ref tg) :: (.int v14_110) :: (.int v15_111) :: (.ref pe) :: (.int v17_112) :: (.int v18_113) :: (.int v19_114) :: (.int v20_115) :: (.int v21_116) :: (.int v22_117) :: (.ref ml) :: (.ref bg) :: (.ref co) :: (.ref sp) :: (.ref nb0) :: (.ref nb1) :: (.ref nb2) :: (.int (nI nf)) :: (.int (nI bd)) :: (.int (nI mm)) :: (.int v33_118) :: (.ref pl) :: (.ref se) :: (.ref ke) :: (.ref wi) :: (.ref hs) :: (.ref mo) :: (.ref po) :: (.ref nu) :: (.ref pr) :: (.ref sq) :: (.ref xa) :: (.ref sa) :: (.ref n64) :: (.ref m64) :: (.ref ex) :: (.ref wh) :: (.ref sd) :: (.ref tk) :: (.int v52_119) :: (.int v53_120) :: (.int v54_121) :: (.ref hd) :: (.ref ak) :: (.ref ho) :: (.ref ot) :: []) := hv_243
        refine W.eq (g2 := F0 m 48 ls [.int s5]) rfl ?_
        obtain ⟨hs5, hs5x, hs5z, hs5h⟩ := hv_243
        refine lv_istore (lv' := [(5, .int s5), (4, .int 0), (3, .int (nI zt)), (0, .ref h0), (1, .int x1), (2, .int x2)]) hx hb dX15_entry_48 hl (by decide) rfl (fun ls hl => ?_)
        refine W.widen (k := 0) (n := 0) (by omega) (by omega) ?_
        refine pl_loopm (σ := Nat) A (dC, dI) cs ty gm L [ρ, ρ + 3, ρ + 4, ρ + 31] F 50 7 (fun j => [(5, .int s5), (4, .int (nI j)), (3, .int (nI zt)), (0, .ref h0), (1, .int x1), (2, .int x2)]) (fun j => []) (fun j FF => j ≤ zt ∧ FF h0 = .inr (15, (.ref ta) :: (.int 0) :: (.int (nI zo_106)) :: (.int (nI ze_107)) :: (.ref ou) :: (.ref so) :: (.ref ad) :: (.ref na) :: (.ref va) :: (.ref lc) :: (.ref dm) :: (.int v11_108) :: (.int v12_109) :: (.ref tg) :: (.int v14_110) :: (.int v15_111) :: (.ref pe) :: (.int v17_112) :: (.int v18_113) :: (.int v19_114) :: (.int v20_115) :: (.int v21_116) :: (.int v22_117) :: (.ref ml) :: (.ref bg) :: (.ref co) :: (.ref sp) :: (.ref nb0) :: (.ref nb1) :: (.ref nb2) :: (.int (nI nf)) :: (.int (nI bd)) :: (.int (nI mm)) :: (.int v33_118) :: (.ref pl) :: (.ref se) :: (.ref ke) :: (.ref wi) :: (.ref hs) :: (.ref mo) :: (.ref po) :: (.ref nu) :: (.ref pr) :: (.ref sq) :: (.ref xa) :: (.ref sa) :: (.ref n64) :: (.ref m64) :: (.ref ex) :: (.ref wh) :: (.ref sd) :: (.ref tk) :: (.int v52_119) :: (.int v53_120) :: (.int v54_121) :: (.ref hd) :: (.ref ak) :: (.ref ho) :: (.ref ot) :: [])) (fun j => zt - j) ?_ 0 F_242 (⟨by omega, hs5h⟩) hO hR _ _ hP hD hS ls (lv_sub hl [0, 1, 2, 3, 4, 5] rfl)
        rintro j F_244 hv_245 hO hR ih_246 H locs hP hD hS ls hl
        have hl : lv_has ls 7 [(5, .int s5), (4, .int (nI j)), (3, .int (nI zt)), (0, .ref h0), (1, .int x1), (2, .int x2)] := hl
        have hv_245 : j ≤ zt ∧ F_244 h0 = .inr (15, (.ref ta) :: (.int 0) :: (.int (nI zo_106)) :: (.int (nI ze_107)) :: (.ref ou) :: (.ref so) :: (.ref ad) :: (.ref na) :: (.ref va) :: (.ref lc) :: (.ref dm) :: (.int v11_108) :: (.int v12_109) :: (.ref tg) :: (.int v14_110) :: (.int v15_111) :: (.ref pe) :: (.int v17_112) :: (.int v18_113) :: (.int v19_114) :: (.int v20_115) :: (.int v21_116) :: (.int v22_117) :: (.ref ml) :: (.ref bg) :: (.ref co) :: (.ref sp) :: (.ref nb0) :: (.ref nb1) :: (.ref nb2) :: (.int (nI nf)) :: (.int (nI bd)) :: (.int (nI mm)) :: (.int v33_118) :: (.ref pl) :: (.ref se) :: (.ref ke) :: (.ref wi) :: (.ref hs) :: (.ref mo) :: (.ref po) :: (.ref nu) :: (.ref pr) :: (.ref sq) :: (.ref xa) :: (.ref sa) :: (.ref n64) :: (.ref m64) :: (.ref ex) :: (.ref wh) :: (.ref sd) :: (.ref tk) :: (.int v52_119) :: (.int v53_120) :: (.int v54_121) :: (.ref hd) :: (.ref ak) :: (.ref ho) :: (.ref ot) :: []) := hv_245
        refine W.eq (g2 := F0 m 50 ls []) rfl ?_
        obtain ⟨ha1, ha2⟩ := hv_245
        refine lv_iload hx hb dX15_entry_50 (lv_at hl 0 rfl) ?_
        refine lv_if_eq (tgt := 79) hx hb dX15_entry_52 (by decide) (fun c_247 => ?_) (fun c_247 => ?_)
        ·
          refine W.widen (k := 0) (n := 0) (by omega) (by omega) ?_
          refine pl_cutm (σ := Int32 × Int32) A (dC, dI) cs ty gm L [ρ, ρ + 3, ρ + 4, ρ + 31] F 90 7 (fun (s6, k4) => [(5, .int s5), (4, .int k4), (3, .int (nI zt)), (0, .ref h0), (1, .int x1), (2, .int x2)]) (fun (s6, k4) => [.int s6]) (fun (s6, k4) FF => (∃ k : Nat, k ≤ zt ∧ s6 = nI k) ∧ (∃ k : Nat, k ≤ zt ∧ k4 = nI k) ∧ FF h0 = .inr (15, (.ref ta) :: (.int 0) :: (.int (nI zo_106)) :: (.int (nI ze_107)) :: (.ref ou) :: (.ref so) :: (.ref ad) :: (.ref na) :: (.ref va) :: (.ref lc) :: (.ref dm) :: (.int v11_108) :: (.int v12_109) :: (.ref tg) :: (.int v14_110) :: (.int v15_111) :: (.ref pe) :: (.int v17_112) :: (.int v18_113) :: (.int v19_114) :: (.int v20_115) :: (.int v21_116) :: (.int v22_117) :: (.ref ml) :: (.ref bg) :: (.ref co) :: (.ref sp) :: (.ref nb0) :: (.ref nb1) :: (.ref nb2) :: (.int (nI nf)) :: (.int (nI bd)) :: (.int (nI mm)) :: (.int v33_118) :: (.ref pl) :: (.ref se) :: (.ref ke) :: (.ref wi) :: (.ref hs) :: (.ref mo) :: (.ref po) :: (.ref nu) :: (.ref pr) :: (.ref sq) :: (.ref xa) :: (.ref sa) :: (.ref n64) :: (.ref m64) :: (.ref ex) :: (.ref wh) :: (.ref sd) :: (.ref tk) :: (.int v52_119) :: (.int v53_120) :: (.int v54_121) :: (.ref hd) :: (.ref ak) :: (.ref ho) :: (.ref ot) :: [])) ?_ (fun jn_248 => ?_)
          ·
            rintro ⟨s6, k4⟩ F_249 hv_250 hO hR H locs hP hD hS ls hl
            have hl : lv_has ls 7 [(5, .int s5), (4, .int k4), (3, .int (nI zt)), (0, .ref h0), (1, .int x1), (2, .int x2)] := hl
            have hv_250 : (∃ k : Nat, k ≤ zt ∧ s6 = nI k) ∧ (∃ k : Nat, k ≤ zt ∧ k4 = nI k) ∧ F_249 h0 = .inr (15, (.ref ta) :: (.int 0) :: (.int (nI zo_106)) :: (.int (nI ze_107)) :: (.ref ou) :: (.ref so) :: (.ref ad) :: (.ref na) :: (.ref va) :: (.ref lc) :: (.ref dm) :: (.int v11_108) :: (.int v12_109) :: (.ref tg) :: (.int v14_110) :: (.int v15_111) :: (.ref pe) :: (.int v17_112) :: (.int v18_113) :: (.int v19_114) :: (.int v20_115) :: (.int v21_116) :: (.int v22_117) :: (.ref ml) :: (.ref bg) :: (.ref co) :: (.ref sp) :: (.ref nb0) :: (.ref nb1) :: (.ref nb2) :: (.int (nI nf)) :: (.int (nI bd)) :: (.int (nI mm)) :: (.int v33_118) :: (.ref pl) :: (.ref se) :: (.ref ke) :: (.ref wi) :: (.ref hs) :: (.ref mo) :: (.ref po) :: (.ref nu) :: (.ref pr) :: (.ref sq) :: (.ref xa) :: (.ref sa) :: (.ref n64) :: (.ref m64) :: (.ref ex) :: (.ref wh) :: (.ref sd) :: (.ref tk) :: (.int v52_119) :: (.int v53_120) :: (.int v54_121) :: (.ref hd) :: (.ref ak) :: (.ref ho) :: (.ref ot) :: []) := hv_250
            refine W.eq (g2 := F0 m 90 ls [.int s6]) rfl ?_
            obtain ⟨⟨kend, hke, eke⟩, ⟨kb, hkb, ekb⟩, hb2⟩ := hv_250
            subst eke
            subst ekb
            refine W.eq (g2 := F0 m 90 ls [.int (nI kend)]) rfl ?_
            refine lv_istore (lv' := [(6, .int (nI kend)), (5, .int s5), (4, .int (nI kb)), (3, .int (nI zt)), (0, .ref h0), (1, .int x1), (2, .int x2)]) hx hb dX15_entry_90 hl (by decide) rfl (fun ls hl => ?_)
            refine W.widen (k := 0) (n := 0) (by omega) (by omega) ?_
            refine pl_cutm (σ := Unit) A (dC, dI) cs ty gm L [ρ, ρ + 3, ρ + 4, ρ + 31] F 118 7 (fun u0 => [(6, .int (nI kend)), (5, .int s5), (4, .int (nI kb)), (3, .int (nI zt)), (0, .ref h0), (1, .int x1), (2, .int x2)]) (fun u0 => []) (fun u0 FF => (kend ≤ 60) ∧ (s5 = 1 → kb < zt) ∧ FF h0 = .inr (15, (.ref ta) :: (.int 0) :: (.int (nI zo_106)) :: (.int (nI ze_107)) :: (.ref ou) :: (.ref so) :: (.ref ad) :: (.ref na) :: (.ref va) :: (.ref lc) :: (.ref dm) :: (.int v11_108) :: (.int v12_109) :: (.ref tg) :: (.int v14_110) :: (.int v15_111) :: (.ref pe) :: (.int v17_112) :: (.int v18_113) :: (.int v19_114) :: (.int v20_115) :: (.int v21_116) :: (.int v22_117) :: (.ref ml) :: (.ref bg) :: (.ref co) :: (.ref sp) :: (.ref nb0) :: (.ref nb1) :: (.ref nb2) :: (.int (nI nf)) :: (.int (nI bd)) :: (.int (nI mm)) :: (.int v33_118) :: (.ref pl) :: (.ref se) :: (.ref ke) :: (.ref wi) :: (.ref hs) :: (.ref mo) :: (.ref po) :: (.ref nu) :: (.ref pr) :: (.ref sq) :: (.ref xa) :: (.ref sa) :: (.ref n64) :: (.ref m64) :: (.ref ex) :: (.ref wh) :: (.ref sd) :: (.ref tk) :: (.int v52_119) :: (.int v53_120) :: (.int v54_121) :: (.ref hd) :: (.ref ak) :: (.ref ho) :: (.ref ot) :: [])) ?_ (fun jn_251 => ?_)
            ·
              rintro u0 F_252 hv_253 hO hR H locs hP hD hS ls hl
              have hl : lv_has ls 7 [(6, .int (nI kend)), (5, .int s5), (4, .int (nI kb)), (3, .int (nI zt)), (0, .ref h0), (1, .int x1), (2, .int x2)] := hl
              have hv_253 : (kend ≤ 60) ∧ (s5 = 1 → kb < zt) ∧ F_252 h0 = .inr (15, (.ref ta) :: (.int 0) :: (.int (nI zo_106)) :: (.int (nI ze_107)) :: (.ref ou) :: (.ref so) :: (.ref ad) :: (.ref na) :: (.ref va) :: (.ref lc) :: (.ref dm) :: (.int v11_108) :: (.int v12_109) :: (.ref tg) :: (.int v14_110) :: (.int v15_111) :: (.ref pe) :: (.int v17_112) :: (.int v18_113) :: (.int v19_114) :: (.int v20_115) :: (.int v21_116) :: (.int v22_117) :: (.ref ml) :: (.ref bg) :: (.ref co) :: (.ref sp) :: (.ref nb0) :: (.ref nb1) :: (.ref nb2) :: (.int (nI nf)) :: (.int (nI bd)) :: (.int (nI mm)) :: (.int v33_118) :: (.ref pl) :: (.ref se) :: (.ref ke) :: (.ref wi) :: (.ref hs) :: (.ref mo) :: (.ref po) :: (.ref nu) :: (.ref pr) :: (.ref sq) :: (.ref xa) :: (.ref sa) :: (.ref n64) :: (.ref m64) :: (.ref ex) :: (.ref wh) :: (.ref sd) :: (.ref tk) :: (.int v52_119) :: (.int v53_120) :: (.int v54_121) :: (.ref hd) :: (.ref ak) :: (.ref ho) :: (.ref ot) :: []) := hv_253
              refine W.eq (g2 := F0 m 118 ls []) rfl ?_
              obtain ⟨hn1, hn2, hn3⟩ := hv_253
              refine W.widen (k := 0) (n := 0) (by omega) (by omega) ?_
              refine pl_cutm (σ := Unit) A (dC, dI) cs ty gm L [ρ, ρ + 3, ρ + 4, ρ + 31] F 156 7 (fun u0 => [(6, .int (nI kend)), (5, .int s5), (4, .int (nI kb)), (3, .int (nI zt)), (0, .ref h0), (1, .int x1), (2, .int x2)]) (fun u0 => []) (fun u0 FF => (s5 = 1 → zt - kb - 1 ≤ 700) ∧ FF h0 = .inr (15, (.ref ta) :: (.int 0) :: (.int (nI zo_106)) :: (.int (nI ze_107)) :: (.ref ou) :: (.ref so) :: (.ref ad) :: (.ref na) :: (.ref va) :: (.ref lc) :: (.ref dm) :: (.int v11_108) :: (.int v12_109) :: (.ref tg) :: (.int v14_110) :: (.int v15_111) :: (.ref pe) :: (.int v17_112) :: (.int v18_113) :: (.int v19_114) :: (.int v20_115) :: (.int v21_116) :: (.int v22_117) :: (.ref ml) :: (.ref bg) :: (.ref co) :: (.ref sp) :: (.ref nb0) :: (.ref nb1) :: (.ref nb2) :: (.int (nI nf)) :: (.int (nI bd)) :: (.int (nI mm)) :: (.int v33_118) :: (.ref pl) :: (.ref se) :: (.ref ke) :: (.ref wi) :: (.ref hs) :: (.ref mo) :: (.ref po) :: (.ref nu) :: (.ref pr) :: (.ref sq) :: (.ref xa) :: (.ref sa) :: (.ref n64) :: (.ref m64) :: (.ref ex) :: (.ref wh) :: (.ref sd) :: (.ref tk) :: (.int v52_119) :: (.int v53_120) :: (.int v54_121) :: (.ref hd) :: (.ref ak) :: (.ref ho) :: (.ref ot) :: [])) ?_ (fun jn_254 => ?_)
              ·
                rintro u0 F_255 hv_256 hO hR H locs hP hD hS ls hl
                have hl : lv_has ls 7 [(6, .int (nI kend)), (5, .int s5), (4, .int (nI kb)), (3, .int (nI zt)), (0, .ref h0), (1, .int x1), (2, .int x2)] := hl
                have hv_256 : (s5 = 1 → zt - kb - 1 ≤ 700) ∧ F_255 h0 = .inr (15, (.ref ta) :: (.int 0) :: (.int (nI zo_106)) :: (.int (nI ze_107)) :: (.ref ou) :: (.ref so) :: (.ref ad) :: (.ref na) :: (.ref va) :: (.ref lc) :: (.ref dm) :: (.int v11_108) :: (.int v12_109) :: (.ref tg) :: (.int v14_110) :: (.int v15_111) :: (.ref pe) :: (.int v17_112) :: (.int v18_113) :: (.int v19_114) :: (.int v20_115) :: (.int v21_116) :: (.int v22_117) :: (.ref ml) :: (.ref bg) :: (.ref co) :: (.ref sp) :: (.ref nb0) :: (.ref nb1) :: (.ref nb2) :: (.int (nI nf)) :: (.int (nI bd)) :: (.int (nI mm)) :: (.int v33_118) :: (.ref pl) :: (.ref se) :: (.ref ke) :: (.ref wi) :: (.ref hs) :: (.ref mo) :: (.ref po) :: (.ref nu) :: (.ref pr) :: (.ref sq) :: (.ref xa) :: (.ref sa) :: (.ref n64) :: (.ref m64) :: (.ref ex) :: (.ref wh) :: (.ref sd) :: (.ref tk) :: (.int v52_119) :: (.int v53_120) :: (.int v54_121) :: (.ref hd) :: (.ref ak) :: (.ref ho) :: (.ref ot) :: []) := hv_256
                refine W.eq (g2 := F0 m 156 ls []) rfl ?_
                obtain ⟨ho1, ho2⟩ := hv_256
                refine lv_aload_n hx hb dX15_entry_156 rfl (lv_at hl 4 rfl) ?_
                refine pg_get (ci := 15) (v := .ref so) (C := RX15) (T := TX15) (N := 59) hx hb hts it_15 hown hK hP hL_h0 ho2 rfl 5 (by decide) (hts _ kt_718) (fun _ h9 => h9) rfl dX15_entry_157 ?_
                refine lv_aload_n hx hb dX15_entry_160 rfl (lv_at hl 4 rfl) ?_
                refine pg_get (ci := 15) (v := .int (nI ze_107)) (C := RX15) (T := TX15) (N := 59) hx hb hts it_15 hown hK hP hL_h0 ho2 rfl 3 (by decide) (hts _ kt_724) (fun _ h9 => h9) rfl dX15_entry_161 ?_
                refine lv_iload_n hx hb dX15_entry_164 rfl (lv_at hl 5 rfl) ?_
                obtain ⟨hq_257, hq_258⟩ := hW.ints hi_134 ht_135
                obtain ⟨f_259, hF_260⟩ := hO.ints hi_134 ht_135
                refine pg_iast hx hb hK hP hD hS hi_134 0 hF_260 rfl (vp_in_nI (by omega) (by omega)) dX15_entry_165 (fun H locs hP hD hS => ?_)
                obtain ⟨F_261, he_262, hP, hD, hO, hR⟩ : ∃ G, G = va_up F_255 so (.inl (cs 16, 40, .inl (upd f_259 ((nI ze_107)).toNatClampNeg (x1)))) ∧ va_P (dC, dI) vwCl (va_pl L G) H ∧ va_D A (va_pl L G) ∧ OKm cs ty gm L G ∧ FR ty [ρ, ρ + 3, ρ + 4, ρ + 31] F G := ⟨_, rfl, hP, hD, hO.up (shm.ints ht_135 ⟨_, rfl⟩), hR.up ht_135 (by simp)⟩
                have hF_263 : F_261 so = .inl (cs 16, 40, .inl (upd f_259 ((nI ze_107)).toNatClampNeg (x1))) := by rw [he_262]; exact up_self
                have hF_264 : F_261 h0 = .inr (15, (.ref ta) :: (.int 0) :: (.int (nI zo_106)) :: (.int (nI ze_107)) :: (.ref ou) :: (.ref so) :: (.ref ad) :: (.ref na) :: (.ref va) :: (.ref lc) :: (.ref dm) :: (.int v11_108) :: (.int v12_109) :: (.ref tg) :: (.int v14_110) :: (.int v15_111) :: (.ref pe) :: (.int v17_112) :: (.int v18_113) :: (.int v19_114) :: (.int v20_115) :: (.int v21_116) :: (.int v22_117) :: (.ref ml) :: (.ref bg) :: (.ref co) :: (.ref sp) :: (.ref nb0) :: (.ref nb1) :: (.ref nb2) :: (.int (nI nf)) :: (.int (nI bd)) :: (.int (nI mm)) :: (.int v33_118) :: (.ref pl) :: (.ref se) :: (.ref ke) :: (.ref wi) :: (.ref hs) :: (.ref mo) :: (.ref po) :: (.ref nu) :: (.ref pr) :: (.ref sq) :: (.ref xa) :: (.ref sa) :: (.ref n64) :: (.ref m64) :: (.ref ex) :: (.ref wh) :: (.ref sd) :: (.ref tk) :: (.int v52_119) :: (.int v53_120) :: (.int v54_121) :: (.ref hd) :: (.ref ak) :: (.ref ho) :: (.ref ot) :: []) := by rw [he_262, up_ne (ne_ty hT_h0 ht_135 (by simp))]; exact ho2
                obtain ⟨f_265, hF_263⟩ : ∃ f : Nat → Int32, F_261 so = .inl (cs 16, 40, .inl f) := ⟨_, hF_263⟩
                refine lv_aload_n hx hb dX15_entry_166 rfl (lv_at hl 4 rfl) ?_
                refine pg_get (ci := 15) (v := .ref ad) (C := RX15) (T := TX15) (N := 59) hx hb hts it_15 hown hK hP hL_h0 hF_264 rfl 6 (by decide) (hts _ kt_740) (fun _ h9 => h9) rfl dX15_entry_167 ?_
                refine lv_aload_n hx hb dX15_entry_170 rfl (lv_at hl 4 rfl) ?_
                refine pg_get (ci := 15) (v := .int (nI ze_107)) (C := RX15) (T := TX15) (N := 59) hx hb hts it_15 hown hK hP hL_h0 hF_264 rfl 3 (by decide) (hts _ kt_724) (fun _ h9 => h9) rfl dX15_entry_171 ?_
                refine lv_iload_n hx hb dX15_entry_174 rfl (lv_at hl 6 rfl) ?_
                obtain ⟨hq_266, hq_267⟩ := hW.ints hi_136 ht_137
                obtain ⟨f_268, hF_269⟩ := hO.ints hi_136 ht_137
                refine pg_iast hx hb hK hP hD hS hi_136 0 hF_269 rfl (vp_in_nI (by omega) (by omega)) dX15_entry_175 (fun H locs hP hD hS => ?_)
                obtain ⟨F_270, he_271, hP, hD, hO, hR⟩ : ∃ G, G = va_up F_261 ad (.inl (cs 16, 40, .inl (upd f_268 ((nI ze_107)).toNatClampNeg (x2)))) ∧ va_P (dC, dI) vwCl (va_pl L G) H ∧ va_D A (va_pl L G) ∧ OKm cs ty gm L G ∧ FR ty [ρ, ρ + 3, ρ + 4, ρ + 31] F G := ⟨_, rfl, hP, hD, hO.up (shm.ints ht_137 ⟨_, rfl⟩), hR.up ht_137 (by simp)⟩
                have hF_272 : F_270 ad = .inl (cs 16, 40, .inl (upd f_268 ((nI ze_107)).toNatClampNeg (x2))) := by rw [he_271]; exact up_self
                have hF_273 : F_270 h0 = .inr (15, (.ref ta) :: (.int 0) :: (.int (nI zo_106)) :: (.int (nI ze_107)) :: (.ref ou) :: (.ref so) :: (.ref ad) :: (.ref na) :: (.ref va) :: (.ref lc) :: (.ref dm) :: (.int v11_108) :: (.int v12_109) :: (.ref tg) :: (.int v14_110) :: (.int v15_111) :: (.ref pe) :: (.int v17_112) :: (.int v18_113) :: (.int v19_114) :: (.int v20_115) :: (.int v21_116) :: (.int v22_117) :: (.ref ml) :: (.ref bg) :: (.ref co) :: (.ref sp) :: (.ref nb0) :: (.ref nb1) :: (.ref nb2) :: (.int (nI nf)) :: (.int (nI bd)) :: (.int (nI mm)) :: (.int v33_118) :: (.ref pl) :: (.ref se) :: (.ref ke) :: (.ref wi) :: (.ref hs) :: (.ref mo) :: (.ref po) :: (.ref nu) :: (.ref pr) :: (.ref sq) :: (.ref xa) :: (.ref sa) :: (.ref n64) :: (.ref m64) :: (.ref ex) :: (.ref wh) :: (.ref sd) :: (.ref tk) :: (.int v52_119) :: (.int v53_120) :: (.int v54_121) :: (.ref hd) :: (.ref ak) :: (.ref ho) :: (.ref ot) :: []) := by rw [he_271, up_ne (ne_ty hT_h0 ht_137 (by simp))]; exact hF_264
                obtain ⟨f_274, hF_272⟩ : ∃ f : Nat → Int32, F_270 ad = .inl (cs 16, 40, .inl f) := ⟨_, hF_272⟩
                refine lv_aload_n hx hb dX15_entry_176 rfl (lv_at hl 4 rfl) ?_
                refine pg_get (ci := 15) (v := .ref na) (C := RX15) (T := TX15) (N := 59) hx hb hts it_15 hown hK hP hL_h0 hF_273 rfl 7 (by decide) (hts _ kt_719) (fun _ h9 => h9) rfl dX15_entry_177 ?_
                refine lv_aload_n hx hb dX15_entry_180 rfl (lv_at hl 4 rfl) ?_
                refine pg_get (ci := 15) (v := .int (nI ze_107)) (C := RX15) (T := TX15) (N := 59) hx hb hts it_15 hown hK hP hL_h0 hF_273 rfl 3 (by decide) (hts _ kt_724) (fun _ h9 => h9) rfl dX15_entry_181 ?_
                obtain ⟨f_275, hF_276, hq_277⟩ := hO.rtxt hi_138 ht_139
                obtain ⟨b_278, r_279, hbf_280, hi_281, ht_282⟩ := hq_277 ze_107 (by omega)
                refine pg_aald (r := b_278) hx hb hK hP hi_138 7 hF_276 rfl (vp_in_nI (by omega) (by omega)) (show f_275 ((nI ze_107) : Int32).toNatClampNeg = _ from by rw [show ((nI ze_107) : Int32) = nI ze_107 from rfl, nI_clamp (by omega)]; exact hbf_280) dX15_entry_184 ?_
                refine lv_aload_n hx hb dX15_entry_185 rfl (lv_at hl 4 rfl) ?_
                refine pg_get (ci := 15) (v := .ref ta) (C := RX15) (T := TX15) (N := 59) hx hb hts it_15 hown hK hP hL_h0 hF_273 rfl 0 (by decide) (hts _ kt_1075) (fun _ h9 => h9) rfl dX15_entry_186 ?_
                refine lv_iconst (v := 0) hx hb dX15_entry_189 (by decide) ?_
                refine lv_iload hx hb dX15_entry_190 (lv_at hl 0 rfl) ?_
                refine W.eq (g2 := F0 m 192 ls [.int (nI kend), .int (nI 0), .ref ta, .ref b_278]) rfl ?_
                obtain ⟨hi_283, ht_284, hq_285⟩ := hW.txt hi_281 ht_282
                obtain ⟨hq_286, hq_287⟩ := hW.octs hi_130 ht_131
                have hFc := pg_free hD hS hA
                obtain ⟨z_288, hF_289, hq_290⟩ := hO.txt hi_281 ht_282
                refine va_callv (va_runV (As := [.ref ta, .int (nI 0), .int (nI kend)]) (rest := []) ⟨hx, hb, hml, hown, hts⟩ (s_X14_set l dC dI cs ty gm L H.size F_270 b_278 (ρ + 4) r_279 60 ta (ρ + 1) 3000 0 kend hW hi_281 ht_282 hi_130 ht_131 (by first | omega | assumption) (by first | omega | assumption) (by first | omega | assumption)) ⟨callB_of 3 hts (gi kt_979) rfl rfl rfl (hts _ kt_676) (hts _ kt_980) (by decide +kernel) ⟨Nat.le_of_ble_eq_true rfl, Nat.le_of_ble_eq_true rfl⟩, (hts _ kt_981), (hts _ kt_982)⟩ ⟨fun a U g mk q => ⟨q.1, PTm.calling q.2⟩, pg_recv hK hP hi_281 hF_289 (q := (RX14, TX14, 2)) rfl, fun U hU hWm => ⟨rfl, PTm.mk hU hWm hP hK hD hE hO⟩⟩ rfl rfl hl.1 rfl (lv_room (Nat.le_of_ble_eq_true rfl)) dX15_entry_192 ⟨by show _ + 0 ≤ 0; omega, by show _ + 0 ≤ 0; omega⟩) hS (fun q _ h => hFc q h) hFc (fun u t H1 locs ht hvm hw hB hz1 hk1 hS => ?_)
                obtain ⟨F_292, hB1, hq_293⟩ := hB
                obtain ⟨hP, hD, hO, hR⟩ := QTm.back hB1 ht hFc hR (fun q h => by simp only [List.mem_cons, List.not_mem_nil, or_false] at h ⊢; omega)
                have hF_294 : F_292 ad = .inl (cs 16, 40, .inl f_274) := (hB1.2.2.2 ad (by rw [ht_137]; simp)).trans hF_272
                have hF_295 : F_292 h0 = .inr (15, (.ref ta) :: (.int 0) :: (.int (nI zo_106)) :: (.int (nI ze_107)) :: (.ref ou) :: (.ref so) :: (.ref ad) :: (.ref na) :: (.ref va) :: (.ref lc) :: (.ref dm) :: (.int v11_108) :: (.int v12_109) :: (.ref tg) :: (.int v14_110) :: (.int v15_111) :: (.ref pe) :: (.int v17_112) :: (.int v18_113) :: (.int v19_114) :: (.int v20_115) :: (.int v21_116) :: (.int v22_117) :: (.ref ml) :: (.ref bg) :: (.ref co) :: (.ref sp) :: (.ref nb0) :: (.ref nb1) :: (.ref nb2) :: (.int (nI nf)) :: (.int (nI bd)) :: (.int (nI mm)) :: (.int v33_118) :: (.ref pl) :: (.ref se) :: (.ref ke) :: (.ref wi) :: (.ref hs) :: (.ref mo) :: (.ref po) :: (.ref nu) :: (.ref pr) :: (.ref sq) :: (.ref xa) :: (.ref sa) :: (.ref n64) :: (.ref m64) :: (.ref ex) :: (.ref wh) :: (.ref sd) :: (.ref tk) :: (.int v52_119) :: (.int v53_120) :: (.int v54_121) :: (.ref hd) :: (.ref ak) :: (.ref ho) :: (.ref ot) :: []) := (hB1.2.2.2 h0 (by rw [hT_h0]; simp)).trans hF_273
                generalize H1 = H at hP hS ⊢
                refine lv_aload_n hx hb dX15_entry_195 rfl (lv_at hl 4 rfl) ?_
                refine pg_get (ci := 15) (v := .ref va) (C := RX15) (T := TX15) (N := 59) hx hb hts it_15 hown hK hP hL_h0 hF_295 rfl 8 (by decide) (hts _ kt_732) (fun _ h9 => h9) rfl dX15_entry_196 ?_
                refine lv_aload_n hx hb dX15_entry_199 rfl (lv_at hl 4 rfl) ?_
                refine pg_get (ci := 15) (v := .int (nI ze_107)) (C := RX15) (T := TX15) (N := 59) hx hb hts it_15 hown hK hP hL_h0 hF_295 rfl 3 (by decide) (hts _ kt_724) (fun _ h9 => h9) rfl dX15_entry_200 ?_
                obtain ⟨f_296, hF_297, hq_298⟩ := hO.rtxt hi_140 ht_141
                obtain ⟨b_299, r_300, hbf_301, hi_302, ht_303⟩ := hq_298 ze_107 (by omega)
                refine pg_aald (r := b_299) hx hb hK hP hi_140 7 hF_297 rfl (vp_in_nI (by omega) (by omega)) (show f_296 ((nI ze_107) : Int32).toNatClampNeg = _ from by rw [show ((nI ze_107) : Int32) = nI ze_107 from rfl, nI_clamp (by omega)]; exact hbf_301) dX15_entry_203 ?_
                refine lv_iconst (v := 0) hx hb dX15_entry_204 (by decide) ?_
                obtain ⟨hi_304, ht_305, hq_306⟩ := hW.txt hi_302 ht_303
                obtain ⟨z_307, hF_308, hq_309⟩ := hO.txt hi_302 ht_303
                refine pg_put (ci := 14) (v := .int 0) (ty := .int) (C := RX14) (T := TX14) (N := 2) hx hb hts it_14 tyX14 tyX14_ok nmX14 hown hK hP hD hS hi_302 hF_308 rfl 1 (by decide) (hts _ kt_709) (fun _ h9 => h9) rfl (by decide +kernel) (rfl) (rfl) (Nat.le_of_ble_eq_true rfl) dX15_entry_205 (fun H locs hP hD hS => ?_)
                obtain ⟨F_310, he_311, hP, hD, hO, hR⟩ : ∃ G, G = va_up F_292 b_299 (.inr (14, [.ref r_300, .int 0])) ∧ va_P (dC, dI) vwCl (va_pl L G) H ∧ va_D A (va_pl L G) ∧ OKm cs ty gm L G ∧ FR ty [ρ, ρ + 3, ρ + 4, ρ + 31] F G := ⟨_, rfl, hP, hD, hO.up (shm.txt ht_303 ⟨0, rfl, (by first | omega | assumption | exact Or.inl rfl | exact Or.inr rfl)⟩), hR.up ht_303 (by simp)⟩
                have hF_312 : F_310 b_299 = .inr (14, [.ref r_300, .int 0]) := by rw [he_311]; exact up_self
                have hF_313 : F_310 ad = .inl (cs 16, 40, .inl f_274) := by rw [he_311, up_ne (ne_ty ht_137 ht_303 (by simp))]; exact hF_294
                have hF_314 : F_310 h0 = .inr (15, (.ref ta) :: (.int 0) :: (.int (nI zo_106)) :: (.int (nI ze_107)) :: (.ref ou) :: (.ref so) :: (.ref ad) :: (.ref na) :: (.ref va) :: (.ref lc) :: (.ref dm) :: (.int v11_108) :: (.int v12_109) :: (.ref tg) :: (.int v14_110) :: (.int v15_111) :: (.ref pe) :: (.int v17_112) :: (.int v18_113) :: (.int v19_114) :: (.int v20_115) :: (.int v21_116) :: (.int v22_117) :: (.ref ml) :: (.ref bg) :: (.ref co) :: (.ref sp) :: (.ref nb0) :: (.ref nb1) :: (.ref nb2) :: (.int (nI nf)) :: (.int (nI bd)) :: (.int (nI mm)) :: (.int v33_118) :: (.ref pl) :: (.ref se) :: (.ref ke) :: (.ref wi) :: (.ref hs) :: (.ref mo) :: (.ref po) :: (.ref nu) :: (.ref pr) :: (.ref sq) :: (.ref xa) :: (.ref sa) :: (.ref n64) :: (.ref m64) :: (.ref ex) :: (.ref wh) :: (.ref sd) :: (.ref tk) :: (.int v52_119) :: (.int v53_120) :: (.int v54_121) :: (.ref hd) :: (.ref ak) :: (.ref ho) :: (.ref ot) :: []) := by rw [he_311, up_ne (ne_ty hT_h0 ht_303 (by simp))]; exact hF_295
                have hF_315 : F_310 b_278 = .inr (14, [.ref r_279, .int (nI (kend - 0))]) := by rw [he_311, up_ne (ne_ty2 ht_282 ht_303 (by simp))]; exact hq_293
                have hF_316 : F_310 va = .inl (cs 23, 40, .inr (.inr (.inr (.inr f_296)))) := by rw [he_311, up_ne (ne_ty ht_141 ht_303 (by simp))]; exact hF_297
                refine lv_iload hx hb dX15_entry_208 (lv_at hl 1 rfl) ?_
                refine lv_if_eq (tgt := 234) hx hb dX15_entry_210 (by decide) (fun c_317 => ?_) (fun c_317 => ?_)
                ·
                  refine lv_aload_n hx hb dX15_entry_234 rfl (lv_at hl 4 rfl) ?_
                  refine lv_dup hx hb dX15_entry_235 rfl ?_
                  refine pg_get (ci := 15) (v := .int (nI ze_107)) (C := RX15) (T := TX15) (N := 59) hx hb hts it_15 hown hK hP hL_h0 hF_314 rfl 3 (by decide) (hts _ kt_724) (fun _ h9 => h9) rfl dX15_entry_236 ?_
                  refine lv_iconst (v := 1) hx hb dX15_entry_239 (by decide) ?_
                  refine lv_iadd hx hb dX15_entry_240 ?_
                  refine lv_topi (fun x_318 ex_318 => ?_)
                  obtain rfl : x_318 = (nI (ze_107 + 1)) := ex_318.trans (nI_add ze_107 1)
                  refine pg_put (ci := 15) (v := .int (nI (ze_107 + 1))) (ty := .int) (C := RX15) (T := TX15) (N := 59) hx hb hts it_15 tyX15 tyX15_ok nmX15 hown hK hP hD hS hL_h0 hF_314 rfl 3 (by decide) (hts _ kt_724) (fun _ h9 => h9) rfl (by decide +kernel) (rfl) (rfl) (Nat.le_of_ble_eq_true rfl) dX15_entry_241 (fun H locs hP hD hS => ?_)
                  obtain ⟨F_319, he_320, hP, hD, hO, hR⟩ : ∃ G, G = va_up F_310 h0 (.inr (15, (.ref ta) :: (.int 0) :: (.int (nI zo_106)) :: (.int (nI (ze_107 + 1))) :: (.ref ou) :: (.ref so) :: (.ref ad) :: (.ref na) :: (.ref va) :: (.ref lc) :: (.ref dm) :: (.int v11_108) :: (.int v12_109) :: (.ref tg) :: (.int v14_110) :: (.int v15_111) :: (.ref pe) :: (.int v17_112) :: (.int v18_113) :: (.int v19_114) :: (.int v20_115) :: (.int v21_116) :: (.int v22_117) :: (.ref ml) :: (.ref bg) :: (.ref co) :: (.ref sp) :: (.ref nb0) :: (.ref nb1) :: (.ref nb2) :: (.int (nI nf)) :: (.int (nI bd)) :: (.int (nI mm)) :: (.int v33_118) :: (.ref pl) :: (.ref se) :: (.ref ke) :: (.ref wi) :: (.ref hs) :: (.ref mo) :: (.ref po) :: (.ref nu) :: (.ref pr) :: (.ref sq) :: (.ref xa) :: (.ref sa) :: (.ref n64) :: (.ref m64) :: (.ref ex) :: (.ref wh) :: (.ref sd) :: (.ref tk) :: (.int v52_119) :: (.int v53_120) :: (.int v54_121) :: (.ref hd) :: (.ref ak) :: (.ref ho) :: (.ref ot) :: [])) ∧ va_P (dC, dI) vwCl (va_pl L G) H ∧ va_D A (va_pl L G) ∧ OKm cs ty gm L G ∧ FR ty [ρ, ρ + 3, ρ + 4, ρ + 31] F G := ⟨_, rfl, hP, hD, hO.up (shm.mod hT_h0 ⟨zo_106, (ze_107 + 1), v11_108, v12_109, v14_110, v15_111, v17_112, v18_113, v19_114, v20_115, v21_116, v22_117, v33_118, v52_119, v53_120, v54_121, rfl, (by first | omega | assumption | exact Or.inl rfl | exact Or.inr rfl), (by first | omega | assumption | exact Or.inl rfl | exact Or.inr rfl), (by first | omega | assumption | exact Or.inl rfl | exact Or.inr rfl), (by first | omega | assumption | exact Or.inl rfl | exact Or.inr rfl)⟩), hR.up hT_h0 (by simp)⟩
                  have hF_321 : F_319 h0 = .inr (15, (.ref ta) :: (.int 0) :: (.int (nI zo_106)) :: (.int (nI (ze_107 + 1))) :: (.ref ou) :: (.ref so) :: (.ref ad) :: (.ref na) :: (.ref va) :: (.ref lc) :: (.ref dm) :: (.int v11_108) :: (.int v12_109) :: (.ref tg) :: (.int v14_110) :: (.int v15_111) :: (.ref pe) :: (.int v17_112) :: (.int v18_113) :: (.int v19_114) :: (.int v20_115) :: (.int v21_116) :: (.int v22_117) :: (.ref ml) :: (.ref bg) :: (.ref co) :: (.ref sp) :: (.ref nb0) :: (.ref nb1) :: (.ref nb2) :: (.int (nI nf)) :: (.int (nI bd)) :: (.int (nI mm)) :: (.int v33_118) :: (.ref pl) :: (.ref se) :: (.ref ke) :: (.ref wi) :: (.ref hs) :: (.ref mo) :: (.ref po) :: (.ref nu) :: (.ref pr) :: (.ref sq) :: (.ref xa) :: (.ref sa) :: (.ref n64) :: (.ref m64) :: (.ref ex) :: (.ref wh) :: (.ref sd) :: (.ref tk) :: (.int v52_119) :: (.int v53_120) :: (.int v54_121) :: (.ref hd) :: (.ref ak) :: (.ref ho) :: (.ref ot) :: []) := by rw [he_320]; exact up_self
                  have hF_322 : F_319 b_299 = .inr (14, [.ref r_300, .int 0]) := by rw [he_320, up_ne (ne_ty ht_303 hT_h0 (by simp))]; exact hF_312
                  have hF_323 : F_319 ad = .inl (cs 16, 40, .inl f_274) := by rw [he_320, up_ne (ne_ty ht_137 hT_h0 (by simp))]; exact hF_313
                  have hF_324 : F_319 b_278 = .inr (14, [.ref r_279, .int (nI (kend - 0))]) := by rw [he_320, up_ne (ne_ty ht_282 hT_h0 (by simp))]; exact hF_315
                  have hF_325 : F_319 va = .inl (cs 23, 40, .inr (.inr (.inr (.inr f_296)))) := by rw [he_320, up_ne (ne_ty ht_141 hT_h0 (by simp))]; exact hF_316
                  refine lv_aload_n hx hb dX15_entry_244 rfl (lv_at hl 4 rfl) ?_
                  refine pg_get (ci := 15) (v := .int (nI (ze_107 + 1))) (C := RX15) (T := TX15) (N := 59) hx hb hts it_15 hown hK hP hL_h0 hF_321 rfl 3 (by decide) (hts _ kt_724) (fun _ h9 => h9) rfl dX15_entry_245 ?_
                  refine W.widen (k := 0) (n := 0) (by omega) (by omega) ?_
                  exact W.iret (v := (nI (ze_107 + 1))) hx hb hr (fun t ht hWm => ⟨⟨(nI (ze_107 + 1)), (), rfl, trivial, ⟨F_319, ty, hty, QTm.mk ht hP hD hO hR, hW⟩⟩, hS.F ht⟩) hS.2.2 dX15_entry_248
                ·
                  have h51 := hs5.resolve_left c_317
                  refine lv_aload_n hx hb dX15_entry_213 rfl (lv_at hl 4 rfl) ?_
                  refine pg_get (ci := 15) (v := .ref va) (C := RX15) (T := TX15) (N := 59) hx hb hts it_15 hown hK hP hL_h0 hF_314 rfl 8 (by decide) (hts _ kt_732) (fun _ h9 => h9) rfl dX15_entry_214 ?_
                  refine lv_aload_n hx hb dX15_entry_217 rfl (lv_at hl 4 rfl) ?_
                  refine pg_get (ci := 15) (v := .int (nI ze_107)) (C := RX15) (T := TX15) (N := 59) hx hb hts it_15 hown hK hP hL_h0 hF_314 rfl 3 (by decide) (hts _ kt_724) (fun _ h9 => h9) rfl dX15_entry_218 ?_
                  obtain ⟨b_326, r_327, hbf_328, hi_329, ht_330⟩ := hq_298 ze_107 (by omega)
                  refine pg_aald (r := b_326) hx hb hK hP hi_140 7 hF_316 rfl (vp_in_nI (by omega) (by omega)) (show f_296 ((nI ze_107) : Int32).toNatClampNeg = _ from by rw [show ((nI ze_107) : Int32) = nI ze_107 from rfl, nI_clamp (by omega)]; exact hbf_328) dX15_entry_221 ?_
                  refine lv_aload_n hx hb dX15_entry_222 rfl (lv_at hl 4 rfl) ?_
                  refine pg_get (ci := 15) (v := .ref ta) (C := RX15) (T := TX15) (N := 59) hx hb hts it_15 hown hK hP hL_h0 hF_314 rfl 0 (by decide) (hts _ kt_1075) (fun _ h9 => h9) rfl dX15_entry_223 ?_
                  refine lv_iload hx hb dX15_entry_226 (lv_at hl 2 rfl) ?_
                  refine lv_iconst (v := 1) hx hb dX15_entry_228 (by decide) ?_
                  refine lv_iadd hx hb dX15_entry_229 ?_
                  refine lv_topi (fun x_331 ex_331 => ?_)
                  obtain rfl : x_331 = (nI (kb + 1)) := ex_331.trans (nI_add kb 1)
                  refine lv_iload_n hx hb dX15_entry_230 rfl (lv_at hl 3 rfl) ?_
                  obtain ⟨hi_332, ht_333, hq_334⟩ := hW.txt hi_329 ht_330
                  have hFc := pg_free hD hS hA
                  obtain ⟨z_335, hF_336, hq_337⟩ := hO.txt hi_329 ht_330
                  refine va_callv (va_runV (As := [.ref ta, .int (nI (kb + 1)), .int (nI zt)]) (rest := []) ⟨hx, hb, hml, hown, hts⟩ (s_X14_set l dC dI cs ty gm L H.size F_310 b_326 (ρ + 31) r_327 700 ta (ρ + 1) 3000 (kb + 1) zt hW hi_329 ht_330 hi_130 ht_131 (by have h9 := hn2 h51; omega) (by omega) (by have h9 := ho1 h51; omega)) ⟨callB_of 3 hts (gi kt_979) rfl rfl rfl (hts _ kt_676) (hts _ kt_980) (by decide +kernel) ⟨Nat.le_of_ble_eq_true rfl, Nat.le_of_ble_eq_true rfl⟩, (hts _ kt_981), (hts _ kt_982)⟩ ⟨fun a U g mk q => ⟨q.1, PTm.calling q.2⟩, pg_recv hK hP hi_329 hF_336 (q := (RX14, TX14, 2)) rfl, fun U hU hWm => ⟨rfl, PTm.mk hU hWm hP hK hD hE hO⟩⟩ rfl rfl hl.1 rfl (lv_room (Nat.le_of_ble_eq_true rfl)) dX15_entry_231 ⟨by show _ + 0 ≤ 0; omega, by show _ + 0 ≤ 0; omega⟩) hS (fun q _ h => hFc q h) hFc (fun u t H1 locs ht hvm hw hB hz1 hk1 hS => ?_)
                  obtain ⟨F_339, hB1, hq_340⟩ := hB
                  obtain ⟨hP, hD, hO, hR⟩ := QTm.back hB1 ht hFc hR (fun q h => by simp only [List.mem_cons, List.not_mem_nil, or_false] at h ⊢; omega)
                  have hF_341 : F_339 ad = .inl (cs 16, 40, .inl f_274) := (hB1.2.2.2 ad (by rw [ht_137]; simp)).trans hF_313
                  have hF_342 : F_339 h0 = .inr (15, (.ref ta) :: (.int 0) :: (.int (nI zo_106)) :: (.int (nI ze_107)) :: (.ref ou) :: (.ref so) :: (.ref ad) :: (.ref na) :: (.ref va) :: (.ref lc) :: (.ref dm) :: (.int v11_108) :: (.int v12_109) :: (.ref tg) :: (.int v14_110) :: (.int v15_111) :: (.ref pe) :: (.int v17_112) :: (.int v18_113) :: (.int v19_114) :: (.int v20_115) :: (.int v21_116) :: (.int v22_117) :: (.ref ml) :: (.ref bg) :: (.ref co) :: (.ref sp) :: (.ref nb0) :: (.ref nb1) :: (.ref nb2) :: (.int (nI nf)) :: (.int (nI bd)) :: (.int (nI mm)) :: (.int v33_118) :: (.ref pl) :: (.ref se) :: (.ref ke) :: (.ref wi) :: (.ref hs) :: (.ref mo) :: (.ref po) :: (.ref nu) :: (.ref pr) :: (.ref sq) :: (.ref xa) :: (.ref sa) :: (.ref n64) :: (.ref m64) :: (.ref ex) :: (.ref wh) :: (.ref sd) :: (.ref tk) :: (.int v52_119) :: (.int v53_120) :: (.int v54_121) :: (.ref hd) :: (.ref ak) :: (.ref ho) :: (.ref ot) :: []) := (hB1.2.2.2 h0 (by rw [hT_h0]; simp)).trans hF_314
                  have hF_343 : F_339 b_278 = .inr (14, [.ref r_279, .int (nI (kend - 0))]) := (hB1.2.2.2 b_278 (by rw [ht_282]; simp)).trans hF_315
                  generalize H1 = H at hP hS ⊢
                  refine lv_aload_n hx hb dX15_entry_234 rfl (lv_at hl 4 rfl) ?_
                  refine lv_dup hx hb dX15_entry_235 rfl ?_
                  refine pg_get (ci := 15) (v := .int (nI ze_107)) (C := RX15) (T := TX15) (N := 59) hx hb hts it_15 hown hK hP hL_h0 hF_342 rfl 3 (by decide) (hts _ kt_724) (fun _ h9 => h9) rfl dX15_entry_236 ?_
                  refine lv_iconst (v := 1) hx hb dX15_entry_239 (by decide) ?_
                  refine lv_iadd hx hb dX15_entry_240 ?_
                  refine lv_topi (fun x_344 ex_344 => ?_)
                  obtain rfl : x_344 = (nI (ze_107 + 1)) := ex_344.trans (nI_add ze_107 1)
                  refine pg_put (ci := 15) (v := .int (nI (ze_107 + 1))) (ty := .int) (C := RX15) (T := TX15) (N := 59) hx hb hts it_15 tyX15 tyX15_ok nmX15 hown hK hP hD hS hL_h0 hF_342 rfl 3 (by decide) (hts _ kt_724) (fun _ h9 => h9) rfl (by decide +kernel) (rfl) (rfl) (Nat.le_of_ble_eq_true rfl) dX15_entry_241 (fun H locs hP hD hS => ?_)
                  obtain ⟨F_345, he_346, hP, hD, hO, hR⟩ : ∃ G, G = va_up F_339 h0 (.inr (15, (.ref ta) :: (.int 0) :: (.int (nI zo_106)) :: (.int (nI (ze_107 + 1))) :: (.ref ou) :: (.ref so) :: (.ref ad) :: (.ref na) :: (.ref va) :: (.ref lc) :: (.ref dm) :: (.int v11_108) :: (.int v12_109) :: (.ref tg) :: (.int v14_110) :: (.int v15_111) :: (.ref pe) :: (.int v17_112) :: (.int v18_113) :: (.int v19_114) :: (.int v20_115) :: (.int v21_116) :: (.int v22_117) :: (.ref ml) :: (.ref bg) :: (.ref co) :: (.ref sp) :: (.ref nb0) :: (.ref nb1) :: (.ref nb2) :: (.int (nI nf)) :: (.int (nI bd)) :: (.int (nI mm)) :: (.int v33_118) :: (.ref pl) :: (.ref se) :: (.ref ke) :: (.ref wi) :: (.ref hs) :: (.ref mo) :: (.ref po) :: (.ref nu) :: (.ref pr) :: (.ref sq) :: (.ref xa) :: (.ref sa) :: (.ref n64) :: (.ref m64) :: (.ref ex) :: (.ref wh) :: (.ref sd) :: (.ref tk) :: (.int v52_119) :: (.int v53_120) :: (.int v54_121) :: (.ref hd) :: (.ref ak) :: (.ref ho) :: (.ref ot) :: [])) ∧ va_P (dC, dI) vwCl (va_pl L G) H ∧ va_D A (va_pl L G) ∧ OKm cs ty gm L G ∧ FR ty [ρ, ρ + 3, ρ + 4, ρ + 31] F G := ⟨_, rfl, hP, hD, hO.up (shm.mod hT_h0 ⟨zo_106, (ze_107 + 1), v11_108, v12_109, v14_110, v15_111, v17_112, v18_113, v19_114, v20_115, v21_116, v22_117, v33_118, v52_119, v53_120, v54_121, rfl, (by first | omega | assumption | exact Or.inl rfl | exact Or.inr rfl), (by first | omega | assumption | exact Or.inl rfl | exact Or.inr rfl), (by first | omega | assumption | exact Or.inl rfl | exact Or.inr rfl), (by first | omega | assumption | exact Or.inl rfl | exact Or.inr rfl)⟩), hR.up hT_h0 (by simp)⟩
                  have hF_347 : F_345 h0 = .inr (15, (.ref ta) :: (.int 0) :: (.int (nI zo_106)) :: (.int (nI (ze_107 + 1))) :: (.ref ou) :: (.ref so) :: (.ref ad) :: (.ref na) :: (.ref va) :: (.ref lc) :: (.ref dm) :: (.int v11_108) :: (.int v12_109) :: (.ref tg) :: (.int v14_110) :: (.int v15_111) :: (.ref pe) :: (.int v17_112) :: (.int v18_113) :: (.int v19_114) :: (.int v20_115) :: (.int v21_116) :: (.int v22_117) :: (.ref ml) :: (.ref bg) :: (.ref co) :: (.ref sp) :: (.ref nb0) :: (.ref nb1) :: (.ref nb2) :: (.int (nI nf)) :: (.int (nI bd)) :: (.int (nI mm)) :: (.int v33_118) :: (.ref pl) :: (.ref se) :: (.ref ke) :: (.ref wi) :: (.ref hs) :: (.ref mo) :: (.ref po) :: (.ref nu) :: (.ref pr) :: (.ref sq) :: (.ref xa) :: (.ref sa) :: (.ref n64) :: (.ref m64) :: (.ref ex) :: (.ref wh) :: (.ref sd) :: (.ref tk) :: (.int v52_119) :: (.int v53_120) :: (.int v54_121) :: (.ref hd) :: (.ref ak) :: (.ref ho) :: (.ref ot) :: []) := by rw [he_346]; exact up_self
                  have hF_348 : F_345 ad = .inl (cs 16, 40, .inl f_274) := by rw [he_346, up_ne (ne_ty ht_137 hT_h0 (by simp))]; exact hF_341
                  have hF_349 : F_345 b_278 = .inr (14, [.ref r_279, .int (nI (kend - 0))]) := by rw [he_346, up_ne (ne_ty ht_282 hT_h0 (by simp))]; exact hF_343
                  have hF_350 : F_345 b_326 = .inr (14, [.ref r_327, .int (nI (zt - (kb + 1)))]) := by rw [he_346, up_ne (ne_ty ht_330 hT_h0 (by simp))]; exact hq_340
                  refine lv_aload_n hx hb dX15_entry_244 rfl (lv_at hl 4 rfl) ?_
                  refine pg_get (ci := 15) (v := .int (nI (ze_107 + 1))) (C := RX15) (T := TX15) (N := 59) hx hb hts it_15 hown hK hP hL_h0 hF_347 rfl 3 (by decide) (hts _ kt_724) (fun _ h9 => h9) rfl dX15_entry_245 ?_
                  refine W.widen (k := 0) (n := 0) (by omega) (by omega) ?_
                  exact W.iret (v := (nI (ze_107 + 1))) hx hb hr (fun t ht hWm => ⟨⟨(nI (ze_107 + 1)), (), rfl, trivial, ⟨F_345, ty, hty, QTm.mk ht hP hD hO hR, hW⟩⟩, hS.F ht⟩) hS.2.2 dX15_entry_248
              ·
                refine lv_iload_n hx hb dX15_entry_118 rfl (lv_at hl 5 rfl) ?_
                refine lv_iconst (v := 2) hx hb dX15_entry_119 (by decide) ?_
                refine lv_icmp_ne (tgt := 138) hx hb dX15_entry_120 (by decide) (fun c_351 => ?_) (fun c_351 => ?_)
                ·
                  refine lv_iload_n hx hb dX15_entry_138 rfl (lv_at hl 5 rfl) ?_
                  refine lv_if_ne (tgt := 156) hx hb dX15_entry_139 (by decide) (fun c_352 => ?_) (fun c_352 => ?_)
                  ·
                    refine W.widen (k := 0) (n := 0) (by omega) (by omega) ?_
                    exact jn_254 () F_252 (⟨fun h => absurd (hs5x h) (fun q => q.elim c_352 c_351), hn3⟩) hO hR _ _ hP hD hS ls (lv_sub hl [0, 1, 2, 3, 4, 5, 6] rfl)
                  ·
                    have hkz := hn2 (hs5z c_352)
                    refine lv_iload_n hx hb dX15_entry_142 rfl (lv_at hl 3 rfl) ?_
                    refine lv_iload hx hb dX15_entry_143 (lv_at hl 2 rfl) ?_
                    refine lv_isub hx hb dX15_entry_145 ?_
                    refine lv_topi (fun x_353 ex_353 => ?_)
                    obtain rfl : x_353 = (nI (zt - kb)) := ex_353.trans (pk_sub (a := zt) (b := kb) (by omega))
                    refine lv_iconst (v := 1) hx hb dX15_entry_146 (by decide) ?_
                    refine lv_isub hx hb dX15_entry_147 ?_
                    refine lv_topi (fun x_354 ex_354 => ?_)
                    obtain rfl : x_354 = (nI ((zt - kb) - 1)) := ex_354.trans (pk_sub (a := (zt - kb)) (b := 1) (by omega))
                    refine lv_sipush (v := 700) hx hb dX15_entry_148 (by decide) ?_
                    refine lv_icmp_le (tgt := 156) hx hb dX15_entry_151 (by decide) (fun c_355 => ?_) (fun c_355 => ?_)
                    ·
                      have hi_356 : ((zt - kb) - 1) ≤ 700 := (nI_leI (a := ((zt - kb) - 1)) (b := 700) (by omega) (by omega)).mp c_355
                      refine W.widen (k := 0) (n := 0) (by omega) (by omega) ?_
                      exact jn_254 () F_252 (⟨fun _ => by omega, hn3⟩) hO hR _ _ hP hD hS ls (lv_sub hl [0, 1, 2, 3, 4, 5, 6] rfl)
                    ·
                      have hi_357 : 700 < ((zt - kb) - 1) := Nat.not_le.mp (fun q => c_355 ((nI_leI (a := ((zt - kb) - 1)) (b := 700) (by omega) (by omega)).mpr q))
                      refine lv_iconst (v := (-1)) hx hb dX15_entry_154 (by decide) ?_
                      refine W.widen (k := 0) (n := 0) (by omega) (by omega) ?_
                      exact W.iret (v := (-1)) hx hb hr (fun t ht hWm => ⟨⟨(-1), (), rfl, trivial, ⟨F_252, ty, hty, QTm.mk ht hP hD hO hR, hW⟩⟩, hS.F ht⟩) hS.2.2 dX15_entry_155
                ·
                  refine lv_aload_n hx hb dX15_entry_123 rfl (lv_at hl 4 rfl) ?_
                  refine pg_get (ci := 15) (v := .ref ta) (C := RX15) (T := TX15) (N := 59) hx hb hts it_15 hown hK hP hL_h0 hn3 rfl 0 (by decide) (hts _ kt_1075) (fun _ h9 => h9) rfl dX15_entry_124 ?_
                  refine lv_iload hx hb dX15_entry_127 (lv_at hl 2 rfl) ?_
                  refine lv_iconst (v := 1) hx hb dX15_entry_129 (by decide) ?_
                  refine lv_iadd hx hb dX15_entry_130 ?_
                  refine lv_topi (fun x_358 ex_358 => ?_)
                  obtain rfl : x_358 = (nI (kb + 1)) := ex_358.trans (nI_add kb 1)
                  refine lv_iload_n hx hb dX15_entry_131 rfl (lv_at hl 3 rfl) ?_
                  obtain ⟨hq_359, hq_360⟩ := hW.octs hi_130 ht_131
                  have hFc := pg_free hD hS hA
                  refine va_calli (va_runS (As := [.ref ta, .int (nI (kb + 1)), .int (nI zt)]) (rest := []) ⟨hx, hb, hml, hown, hts⟩ (s_X14_isName_ l dC dI cs ty gm L H.size F_252 ta (ρ + 1) 3000 (kb + 1) zt hW hi_130 ht_131 (by first | omega | assumption) (by first | omega | assumption)) ⟨callB_of 3 hts (gi kt_689) rfl rfl rfl (hts _ kt_676) (hts _ kt_863) (by decide +kernel) ⟨Nat.le_of_ble_eq_true rfl, Nat.le_of_ble_eq_true rfl⟩, (hts _ kt_691)⟩ ⟨fun a U g mk q => ⟨q.1, PTm.calling q.2⟩, fun U hU hWm => ⟨rfl, PTm.mk hU hWm hP hK hD hE hO⟩⟩ rfl rfl hl.1 rfl (lv_room (Nat.le_of_ble_eq_true rfl)) dX15_entry_132 ⟨by show _ + 0 ≤ 0; omega, by show _ + 0 ≤ 0; omega⟩) hS (fun q _ h => hFc q h) hFc (fun r_361 u t H1 locs ht hvm hw hB hz1 hk1 hS => ?_)
                  obtain ⟨F_362, hB1⟩ := hB
                  obtain rfl : F_252 = F_362 := (funext (fun a => hB1.2.2.2 a List.not_mem_nil)).symm
                  obtain ⟨hP, hD, hO, hR⟩ := QTm.back hB1 ht hFc hR (fun q h => absurd h List.not_mem_nil)
                  generalize H1 = H at hP hS ⊢
                  have hw : (r_361 = 0 ∨ (r_361 = 1 ∧ (kb + 1) < zt ∧ zt ≤ kb + 61)) := hw
                  have hw_363 := hw
                  refine lv_if_eq (tgt := 154) hx hb dX15_entry_135 (by decide) (fun c_364 => ?_) (fun c_364 => ?_)
                  ·
                    refine lv_iconst (v := (-1)) hx hb dX15_entry_154 (by decide) ?_
                    refine W.widen (k := 0) (n := 0) (by omega) (by omega) ?_
                    exact W.iret (v := (-1)) hx hb hr (fun t ht hWm => ⟨⟨(-1), (), rfl, trivial, ⟨F_252, ty, hty, QTm.mk ht hP hD hO hR, hW⟩⟩, hS.F ht⟩) hS.2.2 dX15_entry_155
                  ·
                    refine lv_iload_n hx hb dX15_entry_138 rfl (lv_at hl 5 rfl) ?_
                    refine lv_if_ne (tgt := 156) hx hb dX15_entry_139 (by decide) (fun c_365 => ?_) (fun c_365 => ?_)
                    ·
                      refine W.widen (k := 0) (n := 0) (by omega) (by omega) ?_
                      exact jn_254 () F_252 (⟨fun _ => by have h9 := bit1 hw_363 c_364; omega, hn3⟩) hO hR _ _ hP hD hS ls (lv_sub hl [0, 1, 2, 3, 4, 5, 6] rfl)
                    ·
                      have hkz := hn2 (hs5z c_365)
                      refine lv_iload_n hx hb dX15_entry_142 rfl (lv_at hl 3 rfl) ?_
                      refine lv_iload hx hb dX15_entry_143 (lv_at hl 2 rfl) ?_
                      refine lv_isub hx hb dX15_entry_145 ?_
                      refine lv_topi (fun x_366 ex_366 => ?_)
                      obtain rfl : x_366 = (nI (zt - kb)) := ex_366.trans (pk_sub (a := zt) (b := kb) (by omega))
                      refine lv_iconst (v := 1) hx hb dX15_entry_146 (by decide) ?_
                      refine lv_isub hx hb dX15_entry_147 ?_
                      refine lv_topi (fun x_367 ex_367 => ?_)
                      obtain rfl : x_367 = (nI ((zt - kb) - 1)) := ex_367.trans (pk_sub (a := (zt - kb)) (b := 1) (by omega))
                      refine lv_sipush (v := 700) hx hb dX15_entry_148 (by decide) ?_
                      refine lv_icmp_le (tgt := 156) hx hb dX15_entry_151 (by decide) (fun c_368 => ?_) (fun c_368 => ?_)
                      ·
                        have hi_369 : ((zt - kb) - 1) ≤ 700 := (nI_leI (a := ((zt - kb) - 1)) (b := 700) (by omega) (by omega)).mp c_368
                        refine W.widen (k := 0) (n := 0) (by omega) (by omega) ?_
                        exact jn_254 () F_252 (⟨fun _ => by omega, hn3⟩) hO hR _ _ hP hD hS ls (lv_sub hl [0, 1, 2, 3, 4, 5, 6] rfl)
                      ·
                        have hi_370 : 700 < ((zt - kb) - 1) := Nat.not_le.mp (fun q => c_368 ((nI_leI (a := ((zt - kb) - 1)) (b := 700) (by omega) (by omega)).mpr q))
                        refine lv_iconst (v := (-1)) hx hb dX15_entry_154 (by decide) ?_
                        refine W.widen (k := 0) (n := 0) (by omega) (by omega) ?_
                        exact W.iret (v := (-1)) hx hb hr (fun t ht hWm => ⟨⟨(-1), (), rfl, trivial, ⟨F_252, ty, hty, QTm.mk ht hP hD hO hR, hW⟩⟩, hS.F ht⟩) hS.2.2 dX15_entry_155
            ·
              refine lv_iload hx hb dX15_entry_92 (lv_at hl 1 rfl) ?_
              refine lv_if_eq (tgt := 103) hx hb dX15_entry_94 (by decide) (fun c_371 => ?_) (fun c_371 => ?_)
              ·
                refine lv_aload_n hx hb dX15_entry_103 rfl (lv_at hl 4 rfl) ?_
                refine pg_get (ci := 15) (v := .ref ta) (C := RX15) (T := TX15) (N := 59) hx hb hts it_15 hown hK hP hL_h0 hb2 rfl 0 (by decide) (hts _ kt_1075) (fun _ h9 => h9) rfl dX15_entry_104 ?_
                refine lv_iconst (v := 0) hx hb dX15_entry_107 (by decide) ?_
                refine lv_iload hx hb dX15_entry_108 (lv_at hl 0 rfl) ?_
                refine W.eq (g2 := F0 m 110 ls [.int (nI kend), .int (nI 0), .ref ta]) rfl ?_
                obtain ⟨hq_372, hq_373⟩ := hW.octs hi_130 ht_131
                have hFc := pg_free hD hS hA
                refine va_calli (va_runS (As := [.ref ta, .int (nI 0), .int (nI kend)]) (rest := []) ⟨hx, hb, hml, hown, hts⟩ (s_X14_isName_ l dC dI cs ty gm L H.size F_249 ta (ρ + 1) 3000 0 kend hW hi_130 ht_131 (by first | omega | assumption) (by first | omega | assumption)) ⟨callB_of 3 hts (gi kt_689) rfl rfl rfl (hts _ kt_676) (hts _ kt_863) (by decide +kernel) ⟨Nat.le_of_ble_eq_true rfl, Nat.le_of_ble_eq_true rfl⟩, (hts _ kt_691)⟩ ⟨fun a U g mk q => ⟨q.1, PTm.calling q.2⟩, fun U hU hWm => ⟨rfl, PTm.mk hU hWm hP hK hD hE hO⟩⟩ rfl rfl hl.1 rfl (lv_room (Nat.le_of_ble_eq_true rfl)) dX15_entry_110 ⟨by show _ + 0 ≤ 0; omega, by show _ + 0 ≤ 0; omega⟩) hS (fun q _ h => hFc q h) hFc (fun r_374 u t H1 locs ht hvm hw hB hz1 hk1 hS => ?_)
                obtain ⟨F_375, hB1⟩ := hB
                obtain rfl : F_249 = F_375 := (funext (fun a => hB1.2.2.2 a List.not_mem_nil)).symm
                obtain ⟨hP, hD, hO, hR⟩ := QTm.back hB1 ht hFc hR (fun q h => absurd h List.not_mem_nil)
                generalize H1 = H at hP hS ⊢
                have hw : (r_374 = 0 ∨ (r_374 = 1 ∧ 0 < kend ∧ kend ≤ 0 + 60)) := hw
                have hw_376 := hw
                refine lv_if_ne (tgt := 118) hx hb dX15_entry_113 (by decide) (fun c_377 => ?_) (fun c_377 => ?_)
                ·
                  refine W.widen (k := 0) (n := 0) (by omega) (by omega) ?_
                  exact jn_251 () F_249 (⟨by have h9 := bit1 hw_376 c_377; omega, fun h => absurd h (by rw [c_371]; decide), hb2⟩) hO hR _ _ hP hD hS ls (lv_sub hl [0, 1, 2, 3, 4, 5, 6] rfl)
                ·
                  refine lv_iconst (v := (-1)) hx hb dX15_entry_116 (by decide) ?_
                  refine W.widen (k := 0) (n := 0) (by omega) (by omega) ?_
                  exact W.iret (v := (-1)) hx hb hr (fun t ht hWm => ⟨⟨(-1), (), rfl, trivial, ⟨F_249, ty, hty, QTm.mk ht hP hD hO hR, hW⟩⟩, hS.F ht⟩) hS.2.2 dX15_entry_117
              ·
                refine lv_iload hx hb dX15_entry_97 (lv_at hl 2 rfl) ?_
                refine lv_iload_n hx hb dX15_entry_99 rfl (lv_at hl 3 rfl) ?_
                refine lv_icmp_eq (tgt := 116) hx hb dX15_entry_100 (by decide) (fun c_378 => ?_) (fun c_378 => ?_)
                ·
                  have hi_379 : kb = zt := (nI_eq (a := kb) (b := zt) (by omega) (by omega)).mp c_378
                  refine lv_iconst (v := (-1)) hx hb dX15_entry_116 (by decide) ?_
                  refine W.widen (k := 0) (n := 0) (by omega) (by omega) ?_
                  exact W.iret (v := (-1)) hx hb hr (fun t ht hWm => ⟨⟨(-1), (), rfl, trivial, ⟨F_249, ty, hty, QTm.mk ht hP hD hO hR, hW⟩⟩, hS.F ht⟩) hS.2.2 dX15_entry_117
                ·
                  have hi_380 : kb ≠ zt := fun q => c_378 (by rw [q])
                  refine lv_aload_n hx hb dX15_entry_103 rfl (lv_at hl 4 rfl) ?_
                  refine pg_get (ci := 15) (v := .ref ta) (C := RX15) (T := TX15) (N := 59) hx hb hts it_15 hown hK hP hL_h0 hb2 rfl 0 (by decide) (hts _ kt_1075) (fun _ h9 => h9) rfl dX15_entry_104 ?_
                  refine lv_iconst (v := 0) hx hb dX15_entry_107 (by decide) ?_
                  refine lv_iload hx hb dX15_entry_108 (lv_at hl 0 rfl) ?_
                  refine W.eq (g2 := F0 m 110 ls [.int (nI kend), .int (nI 0), .ref ta]) rfl ?_
                  obtain ⟨hq_381, hq_382⟩ := hW.octs hi_130 ht_131
                  have hFc := pg_free hD hS hA
                  refine va_calli (va_runS (As := [.ref ta, .int (nI 0), .int (nI kend)]) (rest := []) ⟨hx, hb, hml, hown, hts⟩ (s_X14_isName_ l dC dI cs ty gm L H.size F_249 ta (ρ + 1) 3000 0 kend hW hi_130 ht_131 (by first | omega | assumption) (by first | omega | assumption)) ⟨callB_of 3 hts (gi kt_689) rfl rfl rfl (hts _ kt_676) (hts _ kt_863) (by decide +kernel) ⟨Nat.le_of_ble_eq_true rfl, Nat.le_of_ble_eq_true rfl⟩, (hts _ kt_691)⟩ ⟨fun a U g mk q => ⟨q.1, PTm.calling q.2⟩, fun U hU hWm => ⟨rfl, PTm.mk hU hWm hP hK hD hE hO⟩⟩ rfl rfl hl.1 rfl (lv_room (Nat.le_of_ble_eq_true rfl)) dX15_entry_110 ⟨by show _ + 0 ≤ 0; omega, by show _ + 0 ≤ 0; omega⟩) hS (fun q _ h => hFc q h) hFc (fun r_383 u t H1 locs ht hvm hw hB hz1 hk1 hS => ?_)
                  obtain ⟨F_384, hB1⟩ := hB
                  obtain rfl : F_249 = F_384 := (funext (fun a => hB1.2.2.2 a List.not_mem_nil)).symm
                  obtain ⟨hP, hD, hO, hR⟩ := QTm.back hB1 ht hFc hR (fun q h => absurd h List.not_mem_nil)
                  generalize H1 = H at hP hS ⊢
                  have hw : (r_383 = 0 ∨ (r_383 = 1 ∧ 0 < kend ∧ kend ≤ 0 + 60)) := hw
                  have hw_385 := hw
                  refine lv_if_ne (tgt := 118) hx hb dX15_entry_113 (by decide) (fun c_386 => ?_) (fun c_386 => ?_)
                  ·
                    refine W.widen (k := 0) (n := 0) (by omega) (by omega) ?_
                    exact jn_251 () F_249 (⟨by have h9 := bit1 hw_385 c_386; omega, fun _ => by omega, hb2⟩) hO hR _ _ hP hD hS ls (lv_sub hl [0, 1, 2, 3, 4, 5, 6] rfl)
                  ·
                    refine lv_iconst (v := (-1)) hx hb dX15_entry_116 (by decide) ?_
                    refine W.widen (k := 0) (n := 0) (by omega) (by omega) ?_
                    exact W.iret (v := (-1)) hx hb hr (fun t ht hWm => ⟨⟨(-1), (), rfl, trivial, ⟨F_249, ty, hty, QTm.mk ht hP hD hO hR, hW⟩⟩, hS.F ht⟩) hS.2.2 dX15_entry_117
          ·
            refine lv_iload hx hb dX15_entry_79 (lv_at hl 0 rfl) ?_
            refine lv_if_eq (tgt := 89) hx hb dX15_entry_81 (by decide) (fun c_387 => ?_) (fun c_387 => ?_)
            ·
              refine lv_iload_n hx hb dX15_entry_89 rfl (lv_at hl 2 rfl) ?_
              refine W.widen (k := 0) (n := 0) (by omega) (by omega) ?_
              exact jn_248 ((nI zt), (nI j)) F_244 (⟨⟨zt, by omega, rfl⟩, ⟨j, by omega, rfl⟩, ha2⟩) hO hR _ _ hP hD hS ls (lv_sub hl [0, 1, 2, 3, 4, 5] rfl)
            ·
              refine lv_iload hx hb dX15_entry_84 (lv_at hl 1 rfl) ?_
              refine lv_goto (tgt := 90) hx hb dX15_entry_86 (by decide) ?_
              refine W.widen (k := 0) (n := 0) (by omega) (by omega) ?_
              exact jn_248 ((nI j), (nI j)) F_244 (⟨⟨j, by omega, rfl⟩, ⟨j, by omega, rfl⟩, ha2⟩) hO hR _ _ hP hD hS ls (lv_sub hl [0, 1, 2, 3, 4, 5] rfl)
        ·
          refine lv_iload hx hb dX15_entry_55 (lv_at hl 1 rfl) ?_
          refine lv_iload_n hx hb dX15_entry_57 rfl (lv_at hl 2 rfl) ?_
          refine lv_icmp_ge (tgt := 79) hx hb dX15_entry_58 (by decide) (fun c_388 => ?_) (fun c_388 => ?_)
          ·
            have hi_389 : zt ≤ j := leN (N := zt) c_388
            refine W.widen (k := 0) (n := 0) (by omega) (by omega) ?_
            refine pl_cutm (σ := Int32 × Int32) A (dC, dI) cs ty gm L [ρ, ρ + 3, ρ + 4, ρ + 31] F 90 7 (fun (s6, k4) => [(5, .int s5), (4, .int k4), (3, .int (nI zt)), (0, .ref h0), (1, .int x1), (2, .int x2)]) (fun (s6, k4) => [.int s6]) (fun (s6, k4) FF => (∃ k : Nat, k ≤ zt ∧ s6 = nI k) ∧ (∃ k : Nat, k ≤ zt ∧ k4 = nI k) ∧ FF h0 = .inr (15, (.ref ta) :: (.int 0) :: (.int (nI zo_106)) :: (.int (nI ze_107)) :: (.ref ou) :: (.ref so) :: (.ref ad) :: (.ref na) :: (.ref va) :: (.ref lc) :: (.ref dm) :: (.int v11_108) :: (.int v12_109) :: (.ref tg) :: (.int v14_110) :: (.int v15_111) :: (.ref pe) :: (.int v17_112) :: (.int v18_113) :: (.int v19_114) :: (.int v20_115) :: (.int v21_116) :: (.int v22_117) :: (.ref ml) :: (.ref bg) :: (.ref co) :: (.ref sp) :: (.ref nb0) :: (.ref nb1) :: (.ref nb2) :: (.int (nI nf)) :: (.int (nI bd)) :: (.int (nI mm)) :: (.int v33_118) :: (.ref pl) :: (.ref se) :: (.ref ke) :: (.ref wi) :: (.ref hs) :: (.ref mo) :: (.ref po) :: (.ref nu) :: (.ref pr) :: (.ref sq) :: (.ref xa) :: (.ref sa) :: (.ref n64) :: (.ref m64) :: (.ref ex) :: (.ref wh) :: (.ref sd) :: (.ref tk) :: (.int v52_119) :: (.int v53_120) :: (.int v54_121) :: (.ref hd) :: (.ref ak) :: (.ref ho) :: (.ref ot) :: [])) ?_ (fun jn_390 => ?_)
            ·
              rintro ⟨s6, k4⟩ F_391 hv_392 hO hR H locs hP hD hS ls hl
              have hl : lv_has ls 7 [(5, .int s5), (4, .int k4), (3, .int (nI zt)), (0, .ref h0), (1, .int x1), (2, .int x2)] := hl
              have hv_392 : (∃ k : Nat, k ≤ zt ∧ s6 = nI k) ∧ (∃ k : Nat, k ≤ zt ∧ k4 = nI k) ∧ F_391 h0 = .inr (15, (.ref ta) :: (.int 0) :: (.int (nI zo_106)) :: (.int (nI ze_107)) :: (.ref ou) :: (.ref so) :: (.ref ad) :: (.ref na) :: (.ref va) :: (.ref lc) :: (.ref dm) :: (.int v11_108) :: (.int v12_109) :: (.ref tg) :: (.int v14_110) :: (.int v15_111) :: (.ref pe) :: (.int v17_112) :: (.int v18_113) :: (.int v19_114) :: (.int v20_115) :: (.int v21_116) :: (.int v22_117) :: (.ref ml) :: (.ref bg) :: (.ref co) :: (.ref sp) :: (.ref nb0) :: (.ref nb1) :: (.ref nb2) :: (.int (nI nf)) :: (.int (nI bd)) :: (.int (nI mm)) :: (.int v33_118) :: (.ref pl) :: (.ref se) :: (.ref ke) :: (.ref wi) :: (.ref hs) :: (.ref mo) :: (.ref po) :: (.ref nu) :: (.ref pr) :: (.ref sq) :: (.ref xa) :: (.ref sa) :: (.ref n64) :: (.ref m64) :: (.ref ex) :: (.ref wh) :: (.ref sd) :: (.ref tk) :: (.int v52_119) :: (.int v53_120) :: (.int v54_121) :: (.ref hd) :: (.ref ak) :: (.ref ho) :: (.ref ot) :: []) := hv_392
              refine W.eq (g2 := F0 m 90 ls [.int s6]) rfl ?_
              obtain ⟨⟨kend, hke, eke⟩, ⟨kb, hkb, ekb⟩, hb2⟩ := hv_392
              subst eke
              subst ekb
              refine W.eq (g2 := F0 m 90 ls [.int (nI kend)]) rfl ?_
              refine lv_istore (lv' := [(6, .int (nI kend)), (5, .int s5), (4, .int (nI kb)), (3, .int (nI zt)), (0, .ref h0), (1, .int x1), (2, .int x2)]) hx hb dX15_entry_90 hl (by decide) rfl (fun ls hl => ?_)
              refine W.widen (k := 0) (n := 0) (by omega) (by omega) ?_
              refine pl_cutm (σ := Unit) A (dC, dI) cs ty gm L [ρ, ρ + 3, ρ + 4, ρ + 31] F 118 7 (fun u0 => [(6, .int (nI kend)), (5, .int s5), (4, .int (nI kb)), (3, .int (nI zt)), (0, .ref h0), (1, .int x1), (2, .int x2)]) (fun u0 => []) (fun u0 FF => (kend ≤ 60) ∧ (s5 = 1 → kb < zt) ∧ FF h0 = .inr (15, (.ref ta) :: (.int 0) :: (.int (nI zo_106)) :: (.int (nI ze_107)) :: (.ref ou) :: (.ref so) :: (.ref ad) :: (.ref na) :: (.ref va) :: (.ref lc) :: (.ref dm) :: (.int v11_108) :: (.int v12_109) :: (.ref tg) :: (.int v14_110) :: (.int v15_111) :: (.ref pe) :: (.int v17_112) :: (.int v18_113) :: (.int v19_114) :: (.int v20_115) :: (.int v21_116) :: (.int v22_117) :: (.ref ml) :: (.ref bg) :: (.ref co) :: (.ref sp) :: (.ref nb0) :: (.ref nb1) :: (.ref nb2) :: (.int (nI nf)) :: (.int (nI bd)) :: (.int (nI mm)) :: (.int v33_118) :: (.ref pl) :: (.ref se) :: (.ref ke) :: (.ref wi) :: (.ref hs) :: (.ref mo) :: (.ref po) :: (.ref nu) :: (.ref pr) :: (.ref sq) :: (.ref xa) :: (.ref sa) :: (.ref n64) :: (.ref m64) :: (.ref ex) :: (.ref wh) :: (.ref sd) :: (.ref tk) :: (.int v52_119) :: (.int v53_120) :: (.int v54_121) :: (.ref hd) :: (.ref ak) :: (.ref ho) :: (.ref ot) :: [])) ?_ (fun jn_393 => ?_)
              ·
                rintro u0 F_394 hv_395 hO hR H locs hP hD hS ls hl
                have hl : lv_has ls 7 [(6, .int (nI kend)), (5, .int s5), (4, .int (nI kb)), (3, .int (nI zt)), (0, .ref h0), (1, .int x1), (2, .int x2)] := hl
                have hv_395 : (kend ≤ 60) ∧ (s5 = 1 → kb < zt) ∧ F_394 h0 = .inr (15, (.ref ta) :: (.int 0) :: (.int (nI zo_106)) :: (.int (nI ze_107)) :: (.ref ou) :: (.ref so) :: (.ref ad) :: (.ref na) :: (.ref va) :: (.ref lc) :: (.ref dm) :: (.int v11_108) :: (.int v12_109) :: (.ref tg) :: (.int v14_110) :: (.int v15_111) :: (.ref pe) :: (.int v17_112) :: (.int v18_113) :: (.int v19_114) :: (.int v20_115) :: (.int v21_116) :: (.int v22_117) :: (.ref ml) :: (.ref bg) :: (.ref co) :: (.ref sp) :: (.ref nb0) :: (.ref nb1) :: (.ref nb2) :: (.int (nI nf)) :: (.int (nI bd)) :: (.int (nI mm)) :: (.int v33_118) :: (.ref pl) :: (.ref se) :: (.ref ke) :: (.ref wi) :: (.ref hs) :: (.ref mo) :: (.ref po) :: (.ref nu) :: (.ref pr) :: (.ref sq) :: (.ref xa) :: (.ref sa) :: (.ref n64) :: (.ref m64) :: (.ref ex) :: (.ref wh) :: (.ref sd) :: (.ref tk) :: (.int v52_119) :: (.int v53_120) :: (.int v54_121) :: (.ref hd) :: (.ref ak) :: (.ref ho) :: (.ref ot) :: []) := hv_395
                refine W.eq (g2 := F0 m 118 ls []) rfl ?_
                obtain ⟨hn1, hn2, hn3⟩ := hv_395
                refine W.widen (k := 0) (n := 0) (by omega) (by omega) ?_
                refine pl_cutm (σ := Unit) A (dC, dI) cs ty gm L [ρ, ρ + 3, ρ + 4, ρ + 31] F 156 7 (fun u0 => [(6, .int (nI kend)), (5, .int s5), (4, .int (nI kb)), (3, .int (nI zt)), (0, .ref h0), (1, .int x1), (2, .int x2)]) (fun u0 => []) (fun u0 FF => (s5 = 1 → zt - kb - 1 ≤ 700) ∧ FF h0 = .inr (15, (.ref ta) :: (.int 0) :: (.int (nI zo_106)) :: (.int (nI ze_107)) :: (.ref ou) :: (.ref so) :: (.ref ad) :: (.ref na) :: (.ref va) :: (.ref lc) :: (.ref dm) :: (.int v11_108) :: (.int v12_109) :: (.ref tg) :: (.int v14_110) :: (.int v15_111) :: (.ref pe) :: (.int v17_112) :: (.int v18_113) :: (.int v19_114) :: (.int v20_115) :: (.int v21_116) :: (.int v22_117) :: (.ref ml) :: (.ref bg) :: (.ref co) :: (.ref sp) :: (.ref nb0) :: (.ref nb1) :: (.ref nb2) :: (.int (nI nf)) :: (.int (nI bd)) :: (.int (nI mm)) :: (.int v33_118) :: (.ref pl) :: (.ref se) :: (.ref ke) :: (.ref wi) :: (.ref hs) :: (.ref mo) :: (.ref po) :: (.ref nu) :: (.ref pr) :: (.ref sq) :: (.ref xa) :: (.ref sa) :: (.ref n64) :: (.ref m64) :: (.ref ex) :: (.ref wh) :: (.ref sd) :: (.ref tk) :: (.int v52_119) :: (.int v53_120) :: (.int v54_121) :: (.ref hd) :: (.ref ak) :: (.ref ho) :: (.ref ot) :: [])) ?_ (fun jn_396 => ?_)
                ·
                  rintro u0 F_397 hv_398 hO hR H locs hP hD hS ls hl
                  have hl : lv_has ls 7 [(6, .int (nI kend)), (5, .int s5), (4, .int (nI kb)), (3, .int (nI zt)), (0, .ref h0), (1, .int x1), (2, .int x2)] := hl
                  have hv_398 : (s5 = 1 → zt - kb - 1 ≤ 700) ∧ F_397 h0 = .inr (15, (.ref ta) :: (.int 0) :: (.int (nI zo_106)) :: (.int (nI ze_107)) :: (.ref ou) :: (.ref so) :: (.ref ad) :: (.ref na) :: (.ref va) :: (.ref lc) :: (.ref dm) :: (.int v11_108) :: (.int v12_109) :: (.ref tg) :: (.int v14_110) :: (.int v15_111) :: (.ref pe) :: (.int v17_112) :: (.int v18_113) :: (.int v19_114) :: (.int v20_115) :: (.int v21_116) :: (.int v22_117) :: (.ref ml) :: (.ref bg) :: (.ref co) :: (.ref sp) :: (.ref nb0) :: (.ref nb1) :: (.ref nb2) :: (.int (nI nf)) :: (.int (nI bd)) :: (.int (nI mm)) :: (.int v33_118) :: (.ref pl) :: (.ref se) :: (.ref ke) :: (.ref wi) :: (.ref hs) :: (.ref mo) :: (.ref po) :: (.ref nu) :: (.ref pr) :: (.ref sq) :: (.ref xa) :: (.ref sa) :: (.ref n64) :: (.ref m64) :: (.ref ex) :: (.ref wh) :: (.ref sd) :: (.ref tk) :: (.int v52_119) :: (.int v53_120) :: (.int v54_121) :: (.ref hd) :: (.ref ak) :: (.ref ho) :: (.ref ot) :: []) := hv_398
                  refine W.eq (g2 := F0 m 156 ls []) rfl ?_
                  obtain ⟨ho1, ho2⟩ := hv_398
                  refine lv_aload_n hx hb dX15_entry_156 rfl (lv_at hl 4 rfl) ?_
                  refine pg_get (ci := 15) (v := .ref so) (C := RX15) (T := TX15) (N := 59) hx hb hts it_15 hown hK hP hL_h0 ho2 rfl 5 (by decide) (hts _ kt_718) (fun _ h9 => h9) rfl dX15_entry_157 ?_
                  refine lv_aload_n hx hb dX15_entry_160 rfl (lv_at hl 4 rfl) ?_
                  refine pg_get (ci := 15) (v := .int (nI ze_107)) (C := RX15) (T := TX15) (N := 59) hx hb hts it_15 hown hK hP hL_h0 ho2 rfl 3 (by decide) (hts _ kt_724) (fun _ h9 => h9) rfl dX15_entry_161 ?_
                  refine lv_iload_n hx hb dX15_entry_164 rfl (lv_at hl 5 rfl) ?_
                  obtain ⟨hq_399, hq_400⟩ := hW.ints hi_134 ht_135
                  obtain ⟨f_401, hF_402⟩ := hO.ints hi_134 ht_135
                  refine pg_iast hx hb hK hP hD hS hi_134 0 hF_402 rfl (vp_in_nI (by omega) (by omega)) dX15_entry_165 (fun H locs hP hD hS => ?_)
                  obtain ⟨F_403, he_404, hP, hD, hO, hR⟩ : ∃ G, G = va_up F_397 so (.inl (cs 16, 40, .inl (upd f_401 ((nI ze_107)).toNatClampNeg (x1)))) ∧ va_P (dC, dI) vwCl (va_pl L G) H ∧ va_D A (va_pl L G) ∧ OKm cs ty gm L G ∧ FR ty [ρ, ρ + 3, ρ + 4, ρ + 31] F G := ⟨_, rfl, hP, hD, hO.up (shm.ints ht_135 ⟨_, rfl⟩), hR.up ht_135 (by simp)⟩
                  have hF_405 : F_403 so = .inl (cs 16, 40, .inl (upd f_401 ((nI ze_107)).toNatClampNeg (x1))) := by rw [he_404]; exact up_self
                  have hF_406 : F_403 h0 = .inr (15, (.ref ta) :: (.int 0) :: (.int (nI zo_106)) :: (.int (nI ze_107)) :: (.ref ou) :: (.ref so) :: (.ref ad) :: (.ref na) :: (.ref va) :: (.ref lc) :: (.ref dm) :: (.int v11_108) :: (.int v12_109) :: (.ref tg) :: (.int v14_110) :: (.int v15_111) :: (.ref pe) :: (.int v17_112) :: (.int v18_113) :: (.int v19_114) :: (.int v20_115) :: (.int v21_116) :: (.int v22_117) :: (.ref ml) :: (.ref bg) :: (.ref co) :: (.ref sp) :: (.ref nb0) :: (.ref nb1) :: (.ref nb2) :: (.int (nI nf)) :: (.int (nI bd)) :: (.int (nI mm)) :: (.int v33_118) :: (.ref pl) :: (.ref se) :: (.ref ke) :: (.ref wi) :: (.ref hs) :: (.ref mo) :: (.ref po) :: (.ref nu) :: (.ref pr) :: (.ref sq) :: (.ref xa) :: (.ref sa) :: (.ref n64) :: (.ref m64) :: (.ref ex) :: (.ref wh) :: (.ref sd) :: (.ref tk) :: (.int v52_119) :: (.int v53_120) :: (.int v54_121) :: (.ref hd) :: (.ref ak) :: (.ref ho) :: (.ref ot) :: []) := by rw [he_404, up_ne (ne_ty hT_h0 ht_135 (by simp))]; exact ho2
                  obtain ⟨f_407, hF_405⟩ : ∃ f : Nat → Int32, F_403 so = .inl (cs 16, 40, .inl f) := ⟨_, hF_405⟩
                  refine lv_aload_n hx hb dX15_entry_166 rfl (lv_at hl 4 rfl) ?_
                  refine pg_get (ci := 15) (v := .ref ad) (C := RX15) (T := TX15) (N := 59) hx hb hts it_15 hown hK hP hL_h0 hF_406 rfl 6 (by decide) (hts _ kt_740) (fun _ h9 => h9) rfl dX15_entry_167 ?_
                  refine lv_aload_n hx hb dX15_entry_170 rfl (lv_at hl 4 rfl) ?_
                  refine pg_get (ci := 15) (v := .int (nI ze_107)) (C := RX15) (T := TX15) (N := 59) hx hb hts it_15 hown hK hP hL_h0 hF_406 rfl 3 (by decide) (hts _ kt_724) (fun _ h9 => h9) rfl dX15_entry_171 ?_
                  refine lv_iload_n hx hb dX15_entry_174 rfl (lv_at hl 6 rfl) ?_
                  obtain ⟨hq_408, hq_409⟩ := hW.ints hi_136 ht_137
                  obtain ⟨f_410, hF_411⟩ := hO.ints hi_136 ht_137
                  refine pg_iast hx hb hK hP hD hS hi_136 0 hF_411 rfl (vp_in_nI (by omega) (by omega)) dX15_entry_175 (fun H locs hP hD hS => ?_)
                  obtain ⟨F_412, he_413, hP, hD, hO, hR⟩ : ∃ G, G = va_up F_403 ad (.inl (cs 16, 40, .inl (upd f_410 ((nI ze_107)).toNatClampNeg (x2)))) ∧ va_P (dC, dI) vwCl (va_pl L G) H ∧ va_D A (va_pl L G) ∧ OKm cs ty gm L G ∧ FR ty [ρ, ρ + 3, ρ + 4, ρ + 31] F G := ⟨_, rfl, hP, hD, hO.up (shm.ints ht_137 ⟨_, rfl⟩), hR.up ht_137 (by simp)⟩
                  have hF_414 : F_412 ad = .inl (cs 16, 40, .inl (upd f_410 ((nI ze_107)).toNatClampNeg (x2))) := by rw [he_413]; exact up_self
                  have hF_415 : F_412 h0 = .inr (15, (.ref ta) :: (.int 0) :: (.int (nI zo_106)) :: (.int (nI ze_107)) :: (.ref ou) :: (.ref so) :: (.ref ad) :: (.ref na) :: (.ref va) :: (.ref lc) :: (.ref dm) :: (.int v11_108) :: (.int v12_109) :: (.ref tg) :: (.int v14_110) :: (.int v15_111) :: (.ref pe) :: (.int v17_112) :: (.int v18_113) :: (.int v19_114) :: (.int v20_115) :: (.int v21_116) :: (.int v22_117) :: (.ref ml) :: (.ref bg) :: (.ref co) :: (.ref sp) :: (.ref nb0) :: (.ref nb1) :: (.ref nb2) :: (.int (nI nf)) :: (.int (nI bd)) :: (.int (nI mm)) :: (.int v33_118) :: (.ref pl) :: (.ref se) :: (.ref ke) :: (.ref wi) :: (.ref hs) :: (.ref mo) :: (.ref po) :: (.ref nu) :: (.ref pr) :: (.ref sq) :: (.ref xa) :: (.ref sa) :: (.ref n64) :: (.ref m64) :: (.ref ex) :: (.ref wh) :: (.ref sd) :: (.ref tk) :: (.int v52_119) :: (.int v53_120) :: (.int v54_121) :: (.ref hd) :: (.ref ak) :: (.ref ho) :: (.ref ot) :: []) := by rw [he_413, up_ne (ne_ty hT_h0 ht_137 (by simp))]; exact hF_406
                  obtain ⟨f_416, hF_414⟩ : ∃ f : Nat → Int32, F_412 ad = .inl (cs 16, 40, .inl f) := ⟨_, hF_414⟩
                  refine lv_aload_n hx hb dX15_entry_176 rfl (lv_at hl 4 rfl) ?_
                  refine pg_get (ci := 15) (v := .ref na) (C := RX15) (T := TX15) (N := 59) hx hb hts it_15 hown hK hP hL_h0 hF_415 rfl 7 (by decide) (hts _ kt_719) (fun _ h9 => h9) rfl dX15_entry_177 ?_
                  refine lv_aload_n hx hb dX15_entry_180 rfl (lv_at hl 4 rfl) ?_
                  refine pg_get (ci := 15) (v := .int (nI ze_107)) (C := RX15) (T := TX15) (N := 59) hx hb hts it_15 hown hK hP hL_h0 hF_415 rfl 3 (by decide) (hts _ kt_724) (fun _ h9 => h9) rfl dX15_entry_181 ?_
                  obtain ⟨f_417, hF_418, hq_419⟩ := hO.rtxt hi_138 ht_139
                  obtain ⟨b_420, r_421, hbf_422, hi_423, ht_424⟩ := hq_419 ze_107 (by omega)
                  refine pg_aald (r := b_420) hx hb hK hP hi_138 7 hF_418 rfl (vp_in_nI (by omega) (by omega)) (show f_417 ((nI ze_107) : Int32).toNatClampNeg = _ from by rw [show ((nI ze_107) : Int32) = nI ze_107 from rfl, nI_clamp (by omega)]; exact hbf_422) dX15_entry_184 ?_
                  refine lv_aload_n hx hb dX15_entry_185 rfl (lv_at hl 4 rfl) ?_
                  refine pg_get (ci := 15) (v := .ref ta) (C := RX15) (T := TX15) (N := 59) hx hb hts it_15 hown hK hP hL_h0 hF_415 rfl 0 (by decide) (hts _ kt_1075) (fun _ h9 => h9) rfl dX15_entry_186 ?_
                  refine lv_iconst (v := 0) hx hb dX15_entry_189 (by decide) ?_
                  refine lv_iload hx hb dX15_entry_190 (lv_at hl 0 rfl) ?_
                  refine W.eq (g2 := F0 m 192 ls [.int (nI kend), .int (nI 0), .ref ta, .ref b_420]) rfl ?_
                  obtain ⟨hi_425, ht_426, hq_427⟩ := hW.txt hi_423 ht_424
                  obtain ⟨hq_428, hq_429⟩ := hW.octs hi_130 ht_131
                  have hFc := pg_free hD hS hA
                  obtain ⟨z_430, hF_431, hq_432⟩ := hO.txt hi_423 ht_424
                  refine va_callv (va_runV (As := [.ref ta, .int (nI 0), .int (nI kend)]) (rest := []) ⟨hx, hb, hml, hown, hts⟩ (s_X14_set l dC dI cs ty gm L H.size F_412 b_420 (ρ + 4) r_421 60 ta (ρ + 1) 3000 0 kend hW hi_423 ht_424 hi_130 ht_131 (by first | omega | assumption) (by first | omega | assumption) (by first | omega | assumption)) ⟨callB_of 3 hts (gi kt_979) rfl rfl rfl (hts _ kt_676) (hts _ kt_980) (by decide +kernel) ⟨Nat.le_of_ble_eq_true rfl, Nat.le_of_ble_eq_true rfl⟩, (hts _ kt_981), (hts _ kt_982)⟩ ⟨fun a U g mk q => ⟨q.1, PTm.calling q.2⟩, pg_recv hK hP hi_423 hF_431 (q := (RX14, TX14, 2)) rfl, fun U hU hWm => ⟨rfl, PTm.mk hU hWm hP hK hD hE hO⟩⟩ rfl rfl hl.1 rfl (lv_room (Nat.le_of_ble_eq_true rfl)) dX15_entry_192 ⟨by show _ + 0 ≤ 0; omega, by show _ + 0 ≤ 0; omega⟩) hS (fun q _ h => hFc q h) hFc (fun u t H1 locs ht hvm hw hB hz1 hk1 hS => ?_)
                  obtain ⟨F_434, hB1, hq_435⟩ := hB
                  obtain ⟨hP, hD, hO, hR⟩ := QTm.back hB1 ht hFc hR (fun q h => by simp only [List.mem_cons, List.not_mem_nil, or_false] at h ⊢; omega)
                  have hF_436 : F_434 ad = .inl (cs 16, 40, .inl f_416) := (hB1.2.2.2 ad (by rw [ht_137]; simp)).trans hF_414
                  have hF_437 : F_434 h0 = .inr (15, (.ref ta) :: (.int 0) :: (.int (nI zo_106)) :: (.int (nI ze_107)) :: (.ref ou) :: (.ref so) :: (.ref ad) :: (.ref na) :: (.ref va) :: (.ref lc) :: (.ref dm) :: (.int v11_108) :: (.int v12_109) :: (.ref tg) :: (.int v14_110) :: (.int v15_111) :: (.ref pe) :: (.int v17_112) :: (.int v18_113) :: (.int v19_114) :: (.int v20_115) :: (.int v21_116) :: (.int v22_117) :: (.ref ml) :: (.ref bg) :: (.ref co) :: (.ref sp) :: (.ref nb0) :: (.ref nb1) :: (.ref nb2) :: (.int (nI nf)) :: (.int (nI bd)) :: (.int (nI mm)) :: (.int v33_118) :: (.ref pl) :: (.ref se) :: (.ref ke) :: (.ref wi) :: (.ref hs) :: (.ref mo) :: (.ref po) :: (.ref nu) :: (.ref pr) :: (.ref sq) :: (.ref xa) :: (.ref sa) :: (.ref n64) :: (.ref m64) :: (.ref ex) :: (.ref wh) :: (.ref sd) :: (.ref tk) :: (.int v52_119) :: (.int v53_120) :: (.int v54_121) :: (.ref hd) :: (.ref ak) :: (.ref ho) :: (.ref ot) :: []) := (hB1.2.2.2 h0 (by rw [hT_h0]; simp)).trans hF_415
                  generalize H1 = H at hP hS ⊢
                  refine lv_aload_n hx hb dX15_entry_195 rfl (lv_at hl 4 rfl) ?_
                  refine pg_get (ci := 15) (v := .ref va) (C := RX15) (T := TX15) (N := 59) hx hb hts it_15 hown hK hP hL_h0 hF_437 rfl 8 (by decide) (hts _ kt_732) (fun _ h9 => h9) rfl dX15_entry_196 ?_
                  refine lv_aload_n hx hb dX15_entry_199 rfl (lv_at hl 4 rfl) ?_
                  refine pg_get (ci := 15) (v := .int (nI ze_107)) (C := RX15) (T := TX15) (N := 59) hx hb hts it_15 hown hK hP hL_h0 hF_437 rfl 3 (by decide) (hts _ kt_724) (fun _ h9 => h9) rfl dX15_entry_200 ?_
                  obtain ⟨f_438, hF_439, hq_440⟩ := hO.rtxt hi_140 ht_141
                  obtain ⟨b_441, r_442, hbf_443, hi_444, ht_445⟩ := hq_440 ze_107 (by omega)
                  refine pg_aald (r := b_441) hx hb hK hP hi_140 7 hF_439 rfl (vp_in_nI (by omega) (by omega)) (show f_438 ((nI ze_107) : Int32).toNatClampNeg = _ from by rw [show ((nI ze_107) : Int32) = nI ze_107 from rfl, nI_clamp (by omega)]; exact hbf_443) dX15_entry_203 ?_
                  refine lv_iconst (v := 0) hx hb dX15_entry_204 (by decide) ?_
                  obtain ⟨hi_446, ht_447, hq_448⟩ := hW.txt hi_444 ht_445
                  obtain ⟨z_449, hF_450, hq_451⟩ := hO.txt hi_444 ht_445
                  refine pg_put (ci := 14) (v := .int 0) (ty := .int) (C := RX14) (T := TX14) (N := 2) hx hb hts it_14 tyX14 tyX14_ok nmX14 hown hK hP hD hS hi_444 hF_450 rfl 1 (by decide) (hts _ kt_709) (fun _ h9 => h9) rfl (by decide +kernel) (rfl) (rfl) (Nat.le_of_ble_eq_true rfl) dX15_entry_205 (fun H locs hP hD hS => ?_)
                  obtain ⟨F_452, he_453, hP, hD, hO, hR⟩ : ∃ G, G = va_up F_434 b_441 (.inr (14, [.ref r_442, .int 0])) ∧ va_P (dC, dI) vwCl (va_pl L G) H ∧ va_D A (va_pl L G) ∧ OKm cs ty gm L G ∧ FR ty [ρ, ρ + 3, ρ + 4, ρ + 31] F G := ⟨_, rfl, hP, hD, hO.up (shm.txt ht_445 ⟨0, rfl, (by first | omega | assumption | exact Or.inl rfl | exact Or.inr rfl)⟩), hR.up ht_445 (by simp)⟩
                  have hF_454 : F_452 b_441 = .inr (14, [.ref r_442, .int 0]) := by rw [he_453]; exact up_self
                  have hF_455 : F_452 ad = .inl (cs 16, 40, .inl f_416) := by rw [he_453, up_ne (ne_ty ht_137 ht_445 (by simp))]; exact hF_436
                  have hF_456 : F_452 h0 = .inr (15, (.ref ta) :: (.int 0) :: (.int (nI zo_106)) :: (.int (nI ze_107)) :: (.ref ou) :: (.ref so) :: (.ref ad) :: (.ref na) :: (.ref va) :: (.ref lc) :: (.ref dm) :: (.int v11_108) :: (.int v12_109) :: (.ref tg) :: (.int v14_110) :: (.int v15_111) :: (.ref pe) :: (.int v17_112) :: (.int v18_113) :: (.int v19_114) :: (.int v20_115) :: (.int v21_116) :: (.int v22_117) :: (.ref ml) :: (.ref bg) :: (.ref co) :: (.ref sp) :: (.ref nb0) :: (.ref nb1) :: (.ref nb2) :: (.int (nI nf)) :: (.int (nI bd)) :: (.int (nI mm)) :: (.int v33_118) :: (.ref pl) :: (.ref se) :: (.ref ke) :: (.ref wi) :: (.ref hs) :: (.ref mo) :: (.ref po) :: (.ref nu) :: (.ref pr) :: (.ref sq) :: (.ref xa) :: (.ref sa) :: (.ref n64) :: (.ref m64) :: (.ref ex) :: (.ref wh) :: (.ref sd) :: (.ref tk) :: (.int v52_119) :: (.int v53_120) :: (.int v54_121) :: (.ref hd) :: (.ref ak) :: (.ref ho) :: (.ref ot) :: []) := by rw [he_453, up_ne (ne_ty hT_h0 ht_445 (by simp))]; exact hF_437
                  have hF_457 : F_452 b_420 = .inr (14, [.ref r_421, .int (nI (kend - 0))]) := by rw [he_453, up_ne (ne_ty2 ht_424 ht_445 (by simp))]; exact hq_435
                  have hF_458 : F_452 va = .inl (cs 23, 40, .inr (.inr (.inr (.inr f_438)))) := by rw [he_453, up_ne (ne_ty ht_141 ht_445 (by simp))]; exact hF_439
                  refine lv_iload hx hb dX15_entry_208 (lv_at hl 1 rfl) ?_
                  refine lv_if_eq (tgt := 234) hx hb dX15_entry_210 (by decide) (fun c_459 => ?_) (fun c_459 => ?_)
                  ·
                    refine lv_aload_n hx hb dX15_entry_234 rfl (lv_at hl 4 rfl) ?_
                    refine lv_dup hx hb dX15_entry_235 rfl ?_
                    refine pg_get (ci := 15) (v := .int (nI ze_107)) (C := RX15) (T := TX15) (N := 59) hx hb hts it_15 hown hK hP hL_h0 hF_456 rfl 3 (by decide) (hts _ kt_724) (fun _ h9 => h9) rfl dX15_entry_236 ?_
                    refine lv_iconst (v := 1) hx hb dX15_entry_239 (by decide) ?_
                    refine lv_iadd hx hb dX15_entry_240 ?_
                    refine lv_topi (fun x_460 ex_460 => ?_)
                    obtain rfl : x_460 = (nI (ze_107 + 1)) := ex_460.trans (nI_add ze_107 1)
                    refine pg_put (ci := 15) (v := .int (nI (ze_107 + 1))) (ty := .int) (C := RX15) (T := TX15) (N := 59) hx hb hts it_15 tyX15 tyX15_ok nmX15 hown hK hP hD hS hL_h0 hF_456 rfl 3 (by decide) (hts _ kt_724) (fun _ h9 => h9) rfl (by decide +kernel) (rfl) (rfl) (Nat.le_of_ble_eq_true rfl) dX15_entry_241 (fun H locs hP hD hS => ?_)
                    obtain ⟨F_461, he_462, hP, hD, hO, hR⟩ : ∃ G, G = va_up F_452 h0 (.inr (15, (.ref ta) :: (.int 0) :: (.int (nI zo_106)) :: (.int (nI (ze_107 + 1))) :: (.ref ou) :: (.ref so) :: (.ref ad) :: (.ref na) :: (.ref va) :: (.ref lc) :: (.ref dm) :: (.int v11_108) :: (.int v12_109) :: (.ref tg) :: (.int v14_110) :: (.int v15_111) :: (.ref pe) :: (.int v17_112) :: (.int v18_113) :: (.int v19_114) :: (.int v20_115) :: (.int v21_116) :: (.int v22_117) :: (.ref ml) :: (.ref bg) :: (.ref co) :: (.ref sp) :: (.ref nb0) :: (.ref nb1) :: (.ref nb2) :: (.int (nI nf)) :: (.int (nI bd)) :: (.int (nI mm)) :: (.int v33_118) :: (.ref pl) :: (.ref se) :: (.ref ke) :: (.ref wi) :: (.ref hs) :: (.ref mo) :: (.ref po) :: (.ref nu) :: (.ref pr) :: (.ref sq) :: (.ref xa) :: (.ref sa) :: (.ref n64) :: (.ref m64) :: (.ref ex) :: (.ref wh) :: (.ref sd) :: (.ref tk) :: (.int v52_119) :: (.int v53_120) :: (.int v54_121) :: (.ref hd) :: (.ref ak) :: (.ref ho) :: (.ref ot) :: [])) ∧ va_P (dC, dI) vwCl (va_pl L G) H ∧ va_D A (va_pl L G) ∧ OKm cs ty gm L G ∧ FR ty [ρ, ρ + 3, ρ + 4, ρ + 31] F G := ⟨_, rfl, hP, hD, hO.up (shm.mod hT_h0 ⟨zo_106, (ze_107 + 1), v11_108, v12_109, v14_110, v15_111, v17_112, v18_113, v19_114, v20_115, v21_116, v22_117, v33_118, v52_119, v53_120, v54_121, rfl, (by first | omega | assumption | exact Or.inl rfl | exact Or.inr rfl), (by first | omega | assumption | exact Or.inl rfl | exact Or.inr rfl), (by first | omega | assumption | exact Or.inl rfl | exact Or.inr rfl), (by first | omega | assumption | exact Or.inl rfl | exact Or.inr rfl)⟩), hR.up hT_h0 (by simp)⟩
                    have hF_463 : F_461 h0 = .inr (15, (.ref ta) :: (.int 0) :: (.int (nI zo_106)) :: (.int (nI (ze_107 + 1))) :: (.ref ou) :: (.ref so) :: (.ref ad) :: (.ref na) :: (.ref va) :: (.ref lc) :: (.ref dm) :: (.int v11_108) :: (.int v12_109) :: (.ref tg) :: (.int v14_110) :: (.int v15_111) :: (.ref pe) :: (.int v17_112) :: (.int v18_113) :: (.int v19_114) :: (.int v20_115) :: (.int v21_116) :: (.int v22_117) :: (.ref ml) :: (.ref bg) :: (.ref co) :: (.ref sp) :: (.ref nb0) :: (.ref nb1) :: (.ref nb2) :: (.int (nI nf)) :: (.int (nI bd)) :: (.int (nI mm)) :: (.int v33_118) :: (.ref pl) :: (.ref se) :: (.ref ke) :: (.ref wi) :: (.ref hs) :: (.ref mo) :: (.ref po) :: (.ref nu) :: (.ref pr) :: (.ref sq) :: (.ref xa) :: (.ref sa) :: (.ref n64) :: (.ref m64) :: (.ref ex) :: (.ref wh) :: (.ref sd) :: (.ref tk) :: (.int v52_119) :: (.int v53_120) :: (.int v54_121) :: (.ref hd) :: (.ref ak) :: (.ref ho) :: (.ref ot) :: []) := by rw [he_462]; exact up_self
                    have hF_464 : F_461 b_441 = .inr (14, [.ref r_442, .int 0]) := by rw [he_462, up_ne (ne_ty ht_445 hT_h0 (by simp))]; exact hF_454
                    have hF_465 : F_461 ad = .inl (cs 16, 40, .inl f_416) := by rw [he_462, up_ne (ne_ty ht_137 hT_h0 (by simp))]; exact hF_455
                    have hF_466 : F_461 b_420 = .inr (14, [.ref r_421, .int (nI (kend - 0))]) := by rw [he_462, up_ne (ne_ty ht_424 hT_h0 (by simp))]; exact hF_457
                    have hF_467 : F_461 va = .inl (cs 23, 40, .inr (.inr (.inr (.inr f_438)))) := by rw [he_462, up_ne (ne_ty ht_141 hT_h0 (by simp))]; exact hF_458
                    refine lv_aload_n hx hb dX15_entry_244 rfl (lv_at hl 4 rfl) ?_
                    refine pg_get (ci := 15) (v := .int (nI (ze_107 + 1))) (C := RX15) (T := TX15) (N := 59) hx hb hts it_15 hown hK hP hL_h0 hF_463 rfl 3 (by decide) (hts _ kt_724) (fun _ h9 => h9) rfl dX15_entry_245 ?_
                    refine W.widen (k := 0) (n := 0) (by omega) (by omega) ?_
                    exact W.iret (v := (nI (ze_107 + 1))) hx hb hr (fun t ht hWm => ⟨⟨(nI (ze_107 + 1)), (), rfl, trivial, ⟨F_461, ty, hty, QTm.mk ht hP hD hO hR, hW⟩⟩, hS.F ht⟩) hS.2.2 dX15_entry_248
                  ·
                    have h51 := hs5.resolve_left c_459
                    refine lv_aload_n hx hb dX15_entry_213 rfl (lv_at hl 4 rfl) ?_
                    refine pg_get (ci := 15) (v := .ref va) (C := RX15) (T := TX15) (N := 59) hx hb hts it_15 hown hK hP hL_h0 hF_456 rfl 8 (by decide) (hts _ kt_732) (fun _ h9 => h9) rfl dX15_entry_214 ?_
                    refine lv_aload_n hx hb dX15_entry_217 rfl (lv_at hl 4 rfl) ?_
                    refine pg_get (ci := 15) (v := .int (nI ze_107)) (C := RX15) (T := TX15) (N := 59) hx hb hts it_15 hown hK hP hL_h0 hF_456 rfl 3 (by decide) (hts _ kt_724) (fun _ h9 => h9) rfl dX15_entry_218 ?_
                    obtain ⟨b_468, r_469, hbf_470, hi_471, ht_472⟩ := hq_440 ze_107 (by omega)
                    refine pg_aald (r := b_468) hx hb hK hP hi_140 7 hF_458 rfl (vp_in_nI (by omega) (by omega)) (show f_438 ((nI ze_107) : Int32).toNatClampNeg = _ from by rw [show ((nI ze_107) : Int32) = nI ze_107 from rfl, nI_clamp (by omega)]; exact hbf_470) dX15_entry_221 ?_
                    refine lv_aload_n hx hb dX15_entry_222 rfl (lv_at hl 4 rfl) ?_
                    refine pg_get (ci := 15) (v := .ref ta) (C := RX15) (T := TX15) (N := 59) hx hb hts it_15 hown hK hP hL_h0 hF_456 rfl 0 (by decide) (hts _ kt_1075) (fun _ h9 => h9) rfl dX15_entry_223 ?_
                    refine lv_iload hx hb dX15_entry_226 (lv_at hl 2 rfl) ?_
                    refine lv_iconst (v := 1) hx hb dX15_entry_228 (by decide) ?_
                    refine lv_iadd hx hb dX15_entry_229 ?_
                    refine lv_topi (fun x_473 ex_473 => ?_)
                    obtain rfl : x_473 = (nI (kb + 1)) := ex_473.trans (nI_add kb 1)
                    refine lv_iload_n hx hb dX15_entry_230 rfl (lv_at hl 3 rfl) ?_
                    obtain ⟨hi_474, ht_475, hq_476⟩ := hW.txt hi_471 ht_472
                    have hFc := pg_free hD hS hA
                    obtain ⟨z_477, hF_478, hq_479⟩ := hO.txt hi_471 ht_472
                    refine va_callv (va_runV (As := [.ref ta, .int (nI (kb + 1)), .int (nI zt)]) (rest := []) ⟨hx, hb, hml, hown, hts⟩ (s_X14_set l dC dI cs ty gm L H.size F_452 b_468 (ρ + 31) r_469 700 ta (ρ + 1) 3000 (kb + 1) zt hW hi_471 ht_472 hi_130 ht_131 (by have h9 := hn2 h51; omega) (by omega) (by have h9 := ho1 h51; omega)) ⟨callB_of 3 hts (gi kt_979) rfl rfl rfl (hts _ kt_676) (hts _ kt_980) (by decide +kernel) ⟨Nat.le_of_ble_eq_true rfl, Nat.le_of_ble_eq_true rfl⟩, (hts _ kt_981), (hts _ kt_982)⟩ ⟨fun a U g mk q => ⟨q.1, PTm.calling q.2⟩, pg_recv hK hP hi_471 hF_478 (q := (RX14, TX14, 2)) rfl, fun U hU hWm => ⟨rfl, PTm.mk hU hWm hP hK hD hE hO⟩⟩ rfl rfl hl.1 rfl (lv_room (Nat.le_of_ble_eq_true rfl)) dX15_entry_231 ⟨by show _ + 0 ≤ 0; omega, by show _ + 0 ≤ 0; omega⟩) hS (fun q _ h => hFc q h) hFc (fun u t H1 locs ht hvm hw hB hz1 hk1 hS => ?_)
                    obtain ⟨F_481, hB1, hq_482⟩ := hB
                    obtain ⟨hP, hD, hO, hR⟩ := QTm.back hB1 ht hFc hR (fun q h => by simp only [List.mem_cons, List.not_mem_nil, or_false] at h ⊢; omega)
                    have hF_483 : F_481 ad = .inl (cs 16, 40, .inl f_416) := (hB1.2.2.2 ad (by rw [ht_137]; simp)).trans hF_455
                    have hF_484 : F_481 h0 = .inr (15, (.ref ta) :: (.int 0) :: (.int (nI zo_106)) :: (.int (nI ze_107)) :: (.ref ou) :: (.ref so) :: (.ref ad) :: (.ref na) :: (.ref va) :: (.ref lc) :: (.ref dm) :: (.int v11_108) :: (.int v12_109) :: (.ref tg) :: (.int v14_110) :: (.int v15_111) :: (.ref pe) :: (.int v17_112) :: (.int v18_113) :: (.int v19_114) :: (.int v20_115) :: (.int v21_116) :: (.int v22_117) :: (.ref ml) :: (.ref bg) :: (.ref co) :: (.ref sp) :: (.ref nb0) :: (.ref nb1) :: (.ref nb2) :: (.int (nI nf)) :: (.int (nI bd)) :: (.int (nI mm)) :: (.int v33_118) :: (.ref pl) :: (.ref se) :: (.ref ke) :: (.ref wi) :: (.ref hs) :: (.ref mo) :: (.ref po) :: (.ref nu) :: (.ref pr) :: (.ref sq) :: (.ref xa) :: (.ref sa) :: (.ref n64) :: (.ref m64) :: (.ref ex) :: (.ref wh) :: (.ref sd) :: (.ref tk) :: (.int v52_119) :: (.int v53_120) :: (.int v54_121) :: (.ref hd) :: (.ref ak) :: (.ref ho) :: (.ref ot) :: []) := (hB1.2.2.2 h0 (by rw [hT_h0]; simp)).trans hF_456
                    have hF_485 : F_481 b_420 = .inr (14, [.ref r_421, .int (nI (kend - 0))]) := (hB1.2.2.2 b_420 (by rw [ht_424]; simp)).trans hF_457
                    generalize H1 = H at hP hS ⊢
                    refine lv_aload_n hx hb dX15_entry_234 rfl (lv_at hl 4 rfl) ?_
                    refine lv_dup hx hb dX15_entry_235 rfl ?_
                    refine pg_get (ci := 15) (v := .int (nI ze_107)) (C := RX15) (T := TX15) (N := 59) hx hb hts it_15 hown hK hP hL_h0 hF_484 rfl 3 (by decide) (hts _ kt_724) (fun _ h9 => h9) rfl dX15_entry_236 ?_
                    refine lv_iconst (v := 1) hx hb dX15_entry_239 (by decide) ?_
                    refine lv_iadd hx hb dX15_entry_240 ?_
                    refine lv_topi (fun x_486 ex_486 => ?_)
                    obtain rfl : x_486 = (nI (ze_107 + 1)) := ex_486.trans (nI_add ze_107 1)
                    refine pg_put (ci := 15) (v := .int (nI (ze_107 + 1))) (ty := .int) (C := RX15) (T := TX15) (N := 59) hx hb hts it_15 tyX15 tyX15_ok nmX15 hown hK hP hD hS hL_h0 hF_484 rfl 3 (by decide) (hts _ kt_724) (fun _ h9 => h9) rfl (by decide +kernel) (rfl) (rfl) (Nat.le_of_ble_eq_true rfl) dX15_entry_241 (fun H locs hP hD hS => ?_)
                    obtain ⟨F_487, he_488, hP, hD, hO, hR⟩ : ∃ G, G = va_up F_481 h0 (.inr (15, (.ref ta) :: (.int 0) :: (.int (nI zo_106)) :: (.int (nI (ze_107 + 1))) :: (.ref ou) :: (.ref so) :: (.ref ad) :: (.ref na) :: (.ref va) :: (.ref lc) :: (.ref dm) :: (.int v11_108) :: (.int v12_109) :: (.ref tg) :: (.int v14_110) :: (.int v15_111) :: (.ref pe) :: (.int v17_112) :: (.int v18_113) :: (.int v19_114) :: (.int v20_115) :: (.int v21_116) :: (.int v22_117) :: (.ref ml) :: (.ref bg) :: (.ref co) :: (.ref sp) :: (.ref nb0) :: (.ref nb1) :: (.ref nb2) :: (.int (nI nf)) :: (.int (nI bd)) :: (.int (nI mm)) :: (.int v33_118) :: (.ref pl) :: (.ref se) :: (.ref ke) :: (.ref wi) :: (.ref hs) :: (.ref mo) :: (.ref po) :: (.ref nu) :: (.ref pr) :: (.ref sq) :: (.ref xa) :: (.ref sa) :: (.ref n64) :: (.ref m64) :: (.ref ex) :: (.ref wh) :: (.ref sd) :: (.ref tk) :: (.int v52_119) :: (.int v53_120) :: (.int v54_121) :: (.ref hd) :: (.ref ak) :: (.ref ho) :: (.ref ot) :: [])) ∧ va_P (dC, dI) vwCl (va_pl L G) H ∧ va_D A (va_pl L G) ∧ OKm cs ty gm L G ∧ FR ty [ρ, ρ + 3, ρ + 4, ρ + 31] F G := ⟨_, rfl, hP, hD, hO.up (shm.mod hT_h0 ⟨zo_106, (ze_107 + 1), v11_108, v12_109, v14_110, v15_111, v17_112, v18_113, v19_114, v20_115, v21_116, v22_117, v33_118, v52_119, v53_120, v54_121, rfl, (by first | omega | assumption | exact Or.inl rfl | exact Or.inr rfl), (by first | omega | assumption | exact Or.inl rfl | exact Or.inr rfl), (by first | omega | assumption | exact Or.inl rfl | exact Or.inr rfl), (by first | omega | assumption | exact Or.inl rfl | exact Or.inr rfl)⟩), hR.up hT_h0 (by simp)⟩
                    have hF_489 : F_487 h0 = .inr (15, (.ref ta) :: (.int 0) :: (.int (nI zo_106)) :: (.int (nI (ze_107 + 1))) :: (.ref ou) :: (.ref so) :: (.ref ad) :: (.ref na) :: (.ref va) :: (.ref lc) :: (.ref dm) :: (.int v11_108) :: (.int v12_109) :: (.ref tg) :: (.int v14_110) :: (.int v15_111) :: (.ref pe) :: (.int v17_112) :: (.int v18_113) :: (.int v19_114) :: (.int v20_115) :: (.int v21_116) :: (.int v22_117) :: (.ref ml) :: (.ref bg) :: (.ref co) :: (.ref sp) :: (.ref nb0) :: (.ref nb1) :: (.ref nb2) :: (.int (nI nf)) :: (.int (nI bd)) :: (.int (nI mm)) :: (.int v33_118) :: (.ref pl) :: (.ref se) :: (.ref ke) :: (.ref wi) :: (.ref hs) :: (.ref mo) :: (.ref po) :: (.ref nu) :: (.ref pr) :: (.ref sq) :: (.ref xa) :: (.ref sa) :: (.ref n64) :: (.ref m64) :: (.ref ex) :: (.ref wh) :: (.ref sd) :: (.ref tk) :: (.int v52_119) :: (.int v53_120) :: (.int v54_121) :: (.ref hd) :: (.ref ak) :: (.ref ho) :: (.ref ot) :: []) := by rw [he_488]; exact up_self
                    have hF_490 : F_487 ad = .inl (cs 16, 40, .inl f_416) := by rw [he_488, up_ne (ne_ty ht_137 hT_h0 (by simp))]; exact hF_483
                    have hF_491 : F_487 b_420 = .inr (14, [.ref r_421, .int (nI (kend - 0))]) := by rw [he_488, up_ne (ne_ty ht_424 hT_h0 (by simp))]; exact hF_485
                    have hF_492 : F_487 b_468 = .inr (14, [.ref r_469, .int (nI (zt - (kb + 1)))]) := by rw [he_488, up_ne (ne_ty ht_472 hT_h0 (by simp))]; exact hq_482
                    refine lv_aload_n hx hb dX15_entry_244 rfl (lv_at hl 4 rfl) ?_
                    refine pg_get (ci := 15) (v := .int (nI (ze_107 + 1))) (C := RX15) (T := TX15) (N := 59) hx hb hts it_15 hown hK hP hL_h0 hF_489 rfl 3 (by decide) (hts _ kt_724) (fun _ h9 => h9) rfl dX15_entry_245 ?_
                    refine W.widen (k := 0) (n := 0) (by omega) (by omega) ?_
                    exact W.iret (v := (nI (ze_107 + 1))) hx hb hr (fun t ht hWm => ⟨⟨(nI (ze_107 + 1)), (), rfl, trivial, ⟨F_487, ty, hty, QTm.mk ht hP hD hO hR, hW⟩⟩, hS.F ht⟩) hS.2.2 dX15_entry_248
                ·
                  refine lv_iload_n hx hb dX15_entry_118 rfl (lv_at hl 5 rfl) ?_
                  refine lv_iconst (v := 2) hx hb dX15_entry_119 (by decide) ?_
                  refine lv_icmp_ne (tgt := 138) hx hb dX15_entry_120 (by decide) (fun c_493 => ?_) (fun c_493 => ?_)
                  ·
                    refine lv_iload_n hx hb dX15_entry_138 rfl (lv_at hl 5 rfl) ?_
                    refine lv_if_ne (tgt := 156) hx hb dX15_entry_139 (by decide) (fun c_494 => ?_) (fun c_494 => ?_)
                    ·
                      refine W.widen (k := 0) (n := 0) (by omega) (by omega) ?_
                      exact jn_396 () F_394 (⟨fun h => absurd (hs5x h) (fun q => q.elim c_494 c_493), hn3⟩) hO hR _ _ hP hD hS ls (lv_sub hl [0, 1, 2, 3, 4, 5, 6] rfl)
                    ·
                      have hkz := hn2 (hs5z c_494)
                      refine lv_iload_n hx hb dX15_entry_142 rfl (lv_at hl 3 rfl) ?_
                      refine lv_iload hx hb dX15_entry_143 (lv_at hl 2 rfl) ?_
                      refine lv_isub hx hb dX15_entry_145 ?_
                      refine lv_topi (fun x_495 ex_495 => ?_)
                      obtain rfl : x_495 = (nI (zt - kb)) := ex_495.trans (pk_sub (a := zt) (b := kb) (by omega))
                      refine lv_iconst (v := 1) hx hb dX15_entry_146 (by decide) ?_
                      refine lv_isub hx hb dX15_entry_147 ?_
                      refine lv_topi (fun x_496 ex_496 => ?_)
                      obtain rfl : x_496 = (nI ((zt - kb) - 1)) := ex_496.trans (pk_sub (a := (zt - kb)) (b := 1) (by omega))
                      refine lv_sipush (v := 700) hx hb dX15_entry_148 (by decide) ?_
                      refine lv_icmp_le (tgt := 156) hx hb dX15_entry_151 (by decide) (fun c_497 => ?_) (fun c_497 => ?_)
                      ·
                        have hi_498 : ((zt - kb) - 1) ≤ 700 := (nI_leI (a := ((zt - kb) - 1)) (b := 700) (by omega) (by omega)).mp c_497
                        refine W.widen (k := 0) (n := 0) (by omega) (by omega) ?_
                        exact jn_396 () F_394 (⟨fun _ => by omega, hn3⟩) hO hR _ _ hP hD hS ls (lv_sub hl [0, 1, 2, 3, 4, 5, 6] rfl)
                      ·
                        have hi_499 : 700 < ((zt - kb) - 1) := Nat.not_le.mp (fun q => c_497 ((nI_leI (a := ((zt - kb) - 1)) (b := 700) (by omega) (by omega)).mpr q))
                        refine lv_iconst (v := (-1)) hx hb dX15_entry_154 (by decide) ?_
                        refine W.widen (k := 0) (n := 0) (by omega) (by omega) ?_
                        exact W.iret (v := (-1)) hx hb hr (fun t ht hWm => ⟨⟨(-1), (), rfl, trivial, ⟨F_394, ty, hty, QTm.mk ht hP hD hO hR, hW⟩⟩, hS.F ht⟩) hS.2.2 dX15_entry_155
                  ·
                    refine lv_aload_n hx hb dX15_entry_123 rfl (lv_at hl 4 rfl) ?_
                    refine pg_get (ci := 15) (v := .ref ta) (C := RX15) (T := TX15) (N := 59) hx hb hts it_15 hown hK hP hL_h0 hn3 rfl 0 (by decide) (hts _ kt_1075) (fun _ h9 => h9) rfl dX15_entry_124 ?_
                    refine lv_iload hx hb dX15_entry_127 (lv_at hl 2 rfl) ?_
                    refine lv_iconst (v := 1) hx hb dX15_entry_129 (by decide) ?_
                    refine lv_iadd hx hb dX15_entry_130 ?_
                    refine lv_topi (fun x_500 ex_500 => ?_)
                    obtain rfl : x_500 = (nI (kb + 1)) := ex_500.trans (nI_add kb 1)
                    refine lv_iload_n hx hb dX15_entry_131 rfl (lv_at hl 3 rfl) ?_
                    obtain ⟨hq_501, hq_502⟩ := hW.octs hi_130 ht_131
                    have hFc := pg_free hD hS hA
                    refine va_calli (va_runS (As := [.ref ta, .int (nI (kb + 1)), .int (nI zt)]) (rest := []) ⟨hx, hb, hml, hown, hts⟩ (s_X14_isName_ l dC dI cs ty gm L H.size F_394 ta (ρ + 1) 3000 (kb + 1) zt hW hi_130 ht_131 (by first | omega | assumption) (by first | omega | assumption)) ⟨callB_of 3 hts (gi kt_689) rfl rfl rfl (hts _ kt_676) (hts _ kt_863) (by decide +kernel) ⟨Nat.le_of_ble_eq_true rfl, Nat.le_of_ble_eq_true rfl⟩, (hts _ kt_691)⟩ ⟨fun a U g mk q => ⟨q.1, PTm.calling q.2⟩, fun U hU hWm => ⟨rfl, PTm.mk hU hWm hP hK hD hE hO⟩⟩ rfl rfl hl.1 rfl (lv_room (Nat.le_of_ble_eq_true rfl)) dX15_entry_132 ⟨by show _ + 0 ≤ 0; omega, by show _ + 0 ≤ 0; omega⟩) hS (fun q _ h => hFc q h) hFc (fun r_503 u t H1 locs ht hvm hw hB hz1 hk1 hS => ?_)
                    obtain ⟨F_504, hB1⟩ := hB
                    obtain rfl : F_394 = F_504 := (funext (fun a => hB1.2.2.2 a List.not_mem_nil)).symm
                    obtain ⟨hP, hD, hO, hR⟩ := QTm.back hB1 ht hFc hR (fun q h => absurd h List.not_mem_nil)
                    generalize H1 = H at hP hS ⊢
                    have hw : (r_503 = 0 ∨ (r_503 = 1 ∧ (kb + 1) < zt ∧ zt ≤ kb + 61)) := hw
                    have hw_505 := hw
                    refine lv_if_eq (tgt := 154) hx hb dX15_entry_135 (by decide) (fun c_506 => ?_) (fun c_506 => ?_)
                    ·
                      refine lv_iconst (v := (-1)) hx hb dX15_entry_154 (by decide) ?_
                      refine W.widen (k := 0) (n := 0) (by omega) (by omega) ?_
                      exact W.iret (v := (-1)) hx hb hr (fun t ht hWm => ⟨⟨(-1), (), rfl, trivial, ⟨F_394, ty, hty, QTm.mk ht hP hD hO hR, hW⟩⟩, hS.F ht⟩) hS.2.2 dX15_entry_155
                    ·
                      refine lv_iload_n hx hb dX15_entry_138 rfl (lv_at hl 5 rfl) ?_
                      refine lv_if_ne (tgt := 156) hx hb dX15_entry_139 (by decide) (fun c_507 => ?_) (fun c_507 => ?_)
                      ·
                        refine W.widen (k := 0) (n := 0) (by omega) (by omega) ?_
                        exact jn_396 () F_394 (⟨fun _ => by have h9 := bit1 hw_505 c_506; omega, hn3⟩) hO hR _ _ hP hD hS ls (lv_sub hl [0, 1, 2, 3, 4, 5, 6] rfl)
                      ·
                        have hkz := hn2 (hs5z c_507)
                        refine lv_iload_n hx hb dX15_entry_142 rfl (lv_at hl 3 rfl) ?_
                        refine lv_iload hx hb dX15_entry_143 (lv_at hl 2 rfl) ?_
                        refine lv_isub hx hb dX15_entry_145 ?_
                        refine lv_topi (fun x_508 ex_508 => ?_)
                        obtain rfl : x_508 = (nI (zt - kb)) := ex_508.trans (pk_sub (a := zt) (b := kb) (by omega))
                        refine lv_iconst (v := 1) hx hb dX15_entry_146 (by decide) ?_
                        refine lv_isub hx hb dX15_entry_147 ?_
                        refine lv_topi (fun x_509 ex_509 => ?_)
                        obtain rfl : x_509 = (nI ((zt - kb) - 1)) := ex_509.trans (pk_sub (a := (zt - kb)) (b := 1) (by omega))
                        refine lv_sipush (v := 700) hx hb dX15_entry_148 (by decide) ?_
                        refine lv_icmp_le (tgt := 156) hx hb dX15_entry_151 (by decide) (fun c_510 => ?_) (fun c_510 => ?_)
                        ·
                          have hi_511 : ((zt - kb) - 1) ≤ 700 := (nI_leI (a := ((zt - kb) - 1)) (b := 700) (by omega) (by omega)).mp c_510
                          refine W.widen (k := 0) (n := 0) (by omega) (by omega) ?_
                          exact jn_396 () F_394 (⟨fun _ => by omega, hn3⟩) hO hR _ _ hP hD hS ls (lv_sub hl [0, 1, 2, 3, 4, 5, 6] rfl)
                        ·
                          have hi_512 : 700 < ((zt - kb) - 1) := Nat.not_le.mp (fun q => c_510 ((nI_leI (a := ((zt - kb) - 1)) (b := 700) (by omega) (by omega)).mpr q))
                          refine lv_iconst (v := (-1)) hx hb dX15_entry_154 (by decide) ?_
                          refine W.widen (k := 0) (n := 0) (by omega) (by omega) ?_
                          exact W.iret (v := (-1)) hx hb hr (fun t ht hWm => ⟨⟨(-1), (), rfl, trivial, ⟨F_394, ty, hty, QTm.mk ht hP hD hO hR, hW⟩⟩, hS.F ht⟩) hS.2.2 dX15_entry_155
              ·
                refine lv_iload hx hb dX15_entry_92 (lv_at hl 1 rfl) ?_
                refine lv_if_eq (tgt := 103) hx hb dX15_entry_94 (by decide) (fun c_513 => ?_) (fun c_513 => ?_)
                ·
                  refine lv_aload_n hx hb dX15_entry_103 rfl (lv_at hl 4 rfl) ?_
                  refine pg_get (ci := 15) (v := .ref ta) (C := RX15) (T := TX15) (N := 59) hx hb hts it_15 hown hK hP hL_h0 hb2 rfl 0 (by decide) (hts _ kt_1075) (fun _ h9 => h9) rfl dX15_entry_104 ?_
                  refine lv_iconst (v := 0) hx hb dX15_entry_107 (by decide) ?_
                  refine lv_iload hx hb dX15_entry_108 (lv_at hl 0 rfl) ?_
                  refine W.eq (g2 := F0 m 110 ls [.int (nI kend), .int (nI 0), .ref ta]) rfl ?_
                  obtain ⟨hq_514, hq_515⟩ := hW.octs hi_130 ht_131
                  have hFc := pg_free hD hS hA
                  refine va_calli (va_runS (As := [.ref ta, .int (nI 0), .int (nI kend)]) (rest := []) ⟨hx, hb, hml, hown, hts⟩ (s_X14_isName_ l dC dI cs ty gm L H.size F_391 ta (ρ + 1) 3000 0 kend hW hi_130 ht_131 (by first | omega | assumption) (by first | omega | assumption)) ⟨callB_of 3 hts (gi kt_689) rfl rfl rfl (hts _ kt_676) (hts _ kt_863) (by decide +kernel) ⟨Nat.le_of_ble_eq_true rfl, Nat.le_of_ble_eq_true rfl⟩, (hts _ kt_691)⟩ ⟨fun a U g mk q => ⟨q.1, PTm.calling q.2⟩, fun U hU hWm => ⟨rfl, PTm.mk hU hWm hP hK hD hE hO⟩⟩ rfl rfl hl.1 rfl (lv_room (Nat.le_of_ble_eq_true rfl)) dX15_entry_110 ⟨by show _ + 0 ≤ 0; omega, by show _ + 0 ≤ 0; omega⟩) hS (fun q _ h => hFc q h) hFc (fun r_516 u t H1 locs ht hvm hw hB hz1 hk1 hS => ?_)
                  obtain ⟨F_517, hB1⟩ := hB
                  obtain rfl : F_391 = F_517 := (funext (fun a => hB1.2.2.2 a List.not_mem_nil)).symm
                  obtain ⟨hP, hD, hO, hR⟩ := QTm.back hB1 ht hFc hR (fun q h => absurd h List.not_mem_nil)
                  generalize H1 = H at hP hS ⊢
                  have hw : (r_516 = 0 ∨ (r_516 = 1 ∧ 0 < kend ∧ kend ≤ 0 + 60)) := hw
                  have hw_518 := hw
                  refine lv_if_ne (tgt := 118) hx hb dX15_entry_113 (by decide) (fun c_519 => ?_) (fun c_519 => ?_)
                  ·
                    refine W.widen (k := 0) (n := 0) (by omega) (by omega) ?_
                    exact jn_393 () F_391 (⟨by have h9 := bit1 hw_518 c_519; omega, fun h => absurd h (by rw [c_513]; decide), hb2⟩) hO hR _ _ hP hD hS ls (lv_sub hl [0, 1, 2, 3, 4, 5, 6] rfl)
                  ·
                    refine lv_iconst (v := (-1)) hx hb dX15_entry_116 (by decide) ?_
                    refine W.widen (k := 0) (n := 0) (by omega) (by omega) ?_
                    exact W.iret (v := (-1)) hx hb hr (fun t ht hWm => ⟨⟨(-1), (), rfl, trivial, ⟨F_391, ty, hty, QTm.mk ht hP hD hO hR, hW⟩⟩, hS.F ht⟩) hS.2.2 dX15_entry_117
                ·
                  refine lv_iload hx hb dX15_entry_97 (lv_at hl 2 rfl) ?_
                  refine lv_iload_n hx hb dX15_entry_99 rfl (lv_at hl 3 rfl) ?_
                  refine lv_icmp_eq (tgt := 116) hx hb dX15_entry_100 (by decide) (fun c_520 => ?_) (fun c_520 => ?_)
                  ·
                    have hi_521 : kb = zt := (nI_eq (a := kb) (b := zt) (by omega) (by omega)).mp c_520
                    refine lv_iconst (v := (-1)) hx hb dX15_entry_116 (by decide) ?_
                    refine W.widen (k := 0) (n := 0) (by omega) (by omega) ?_
                    exact W.iret (v := (-1)) hx hb hr (fun t ht hWm => ⟨⟨(-1), (), rfl, trivial, ⟨F_391, ty, hty, QTm.mk ht hP hD hO hR, hW⟩⟩, hS.F ht⟩) hS.2.2 dX15_entry_117
                  ·
                    have hi_522 : kb ≠ zt := fun q => c_520 (by rw [q])
                    refine lv_aload_n hx hb dX15_entry_103 rfl (lv_at hl 4 rfl) ?_
                    refine pg_get (ci := 15) (v := .ref ta) (C := RX15) (T := TX15) (N := 59) hx hb hts it_15 hown hK hP hL_h0 hb2 rfl 0 (by decide) (hts _ kt_1075) (fun _ h9 => h9) rfl dX15_entry_104 ?_
                    refine lv_iconst (v := 0) hx hb dX15_entry_107 (by decide) ?_
                    refine lv_iload hx hb dX15_entry_108 (lv_at hl 0 rfl) ?_
                    refine W.eq (g2 := F0 m 110 ls [.int (nI kend), .int (nI 0), .ref ta]) rfl ?_
                    obtain ⟨hq_523, hq_524⟩ := hW.octs hi_130 ht_131
                    have hFc := pg_free hD hS hA
                    refine va_calli (va_runS (As := [.ref ta, .int (nI 0), .int (nI kend)]) (rest := []) ⟨hx, hb, hml, hown, hts⟩ (s_X14_isName_ l dC dI cs ty gm L H.size F_391 ta (ρ + 1) 3000 0 kend hW hi_130 ht_131 (by first | omega | assumption) (by first | omega | assumption)) ⟨callB_of 3 hts (gi kt_689) rfl rfl rfl (hts _ kt_676) (hts _ kt_863) (by decide +kernel) ⟨Nat.le_of_ble_eq_true rfl, Nat.le_of_ble_eq_true rfl⟩, (hts _ kt_691)⟩ ⟨fun a U g mk q => ⟨q.1, PTm.calling q.2⟩, fun U hU hWm => ⟨rfl, PTm.mk hU hWm hP hK hD hE hO⟩⟩ rfl rfl hl.1 rfl (lv_room (Nat.le_of_ble_eq_true rfl)) dX15_entry_110 ⟨by show _ + 0 ≤ 0; omega, by show _ + 0 ≤ 0; omega⟩) hS (fun q _ h => hFc q h) hFc (fun r_525 u t H1 locs ht hvm hw hB hz1 hk1 hS => ?_)
                    obtain ⟨F_526, hB1⟩ := hB
                    obtain rfl : F_391 = F_526 := (funext (fun a => hB1.2.2.2 a List.not_mem_nil)).symm
                    obtain ⟨hP, hD, hO, hR⟩ := QTm.back hB1 ht hFc hR (fun q h => absurd h List.not_mem_nil)
                    generalize H1 = H at hP hS ⊢
                    have hw : (r_525 = 0 ∨ (r_525 = 1 ∧ 0 < kend ∧ kend ≤ 0 + 60)) := hw
                    have hw_527 := hw
                    refine lv_if_ne (tgt := 118) hx hb dX15_entry_113 (by decide) (fun c_528 => ?_) (fun c_528 => ?_)
                    ·
                      refine W.widen (k := 0) (n := 0) (by omega) (by omega) ?_
                      exact jn_393 () F_391 (⟨by have h9 := bit1 hw_527 c_528; omega, fun _ => by omega, hb2⟩) hO hR _ _ hP hD hS ls (lv_sub hl [0, 1, 2, 3, 4, 5, 6] rfl)
                    ·
                      refine lv_iconst (v := (-1)) hx hb dX15_entry_116 (by decide) ?_
                      refine W.widen (k := 0) (n := 0) (by omega) (by omega) ?_
                      exact W.iret (v := (-1)) hx hb hr (fun t ht hWm => ⟨⟨(-1), (), rfl, trivial, ⟨F_391, ty, hty, QTm.mk ht hP hD hO hR, hW⟩⟩, hS.F ht⟩) hS.2.2 dX15_entry_117
            ·
              refine lv_iload hx hb dX15_entry_79 (lv_at hl 0 rfl) ?_
              refine lv_if_eq (tgt := 89) hx hb dX15_entry_81 (by decide) (fun c_529 => ?_) (fun c_529 => ?_)
              ·
                refine lv_iload_n hx hb dX15_entry_89 rfl (lv_at hl 2 rfl) ?_
                refine W.widen (k := 0) (n := 0) (by omega) (by omega) ?_
                exact jn_390 ((nI zt), (nI j)) F_244 (⟨⟨zt, by omega, rfl⟩, ⟨j, by omega, rfl⟩, ha2⟩) hO hR _ _ hP hD hS ls (lv_sub hl [0, 1, 2, 3, 4, 5] rfl)
              ·
                refine lv_iload hx hb dX15_entry_84 (lv_at hl 1 rfl) ?_
                refine lv_goto (tgt := 90) hx hb dX15_entry_86 (by decide) ?_
                refine W.widen (k := 0) (n := 0) (by omega) (by omega) ?_
                exact jn_390 ((nI j), (nI j)) F_244 (⟨⟨j, by omega, rfl⟩, ⟨j, by omega, rfl⟩, ha2⟩) hO hR _ _ hP hD hS ls (lv_sub hl [0, 1, 2, 3, 4, 5] rfl)
          ·
            have hi_530 : j < zt := ltN (N := zt) c_388
            refine lv_aload_n hx hb dX15_entry_61 rfl (lv_at hl 3 rfl) ?_
            refine pg_get (ci := 15) (v := .ref ta) (C := RX15) (T := TX15) (N := 59) hx hb hts it_15 hown hK hP hL_h0 ha2 rfl 0 (by decide) (hts _ kt_1075) (fun _ h9 => h9) rfl dX15_entry_62 ?_
            refine lv_iload hx hb dX15_entry_65 (lv_at hl 1 rfl) ?_
            obtain ⟨hq_531, hq_532⟩ := hW.octs hi_130 ht_131
            obtain ⟨f_533, hF_534, hq_535⟩ := hO.octs hi_130 ht_131
            refine pg_bald hx hb hK hP hi_130 1 hF_534 rfl (vp_in_nI (by omega) (by omega)) dX15_entry_67 ?_
            refine lv_topi (fun x_536 ex_536 => ?_)
            obtain rfl : x_536 = f_533 j := ex_536.trans (congrArg f_533 (show ((nI j) : Int32).toNatClampNeg = j from nI_clamp (by omega)))
            refine lv_bipush (v := 32) hx hb dX15_entry_68 (by decide) ?_
            refine lv_icmp_eq (tgt := 79) hx hb dX15_entry_70 (by decide) (fun c_537 => ?_) (fun c_537 => ?_)
            ·
              have hF_540 : F ta = .inl (cs 17, 3000, .inl f_533) := (hR ta (by rw [ht_131]; simp)).symm.trans hF_534
              refine W.widen (k := 0) (n := 0) (by omega) (by omega) ?_
              refine pl_cutm (σ := Int32 × Int32) A (dC, dI) cs ty gm L [ρ, ρ + 3, ρ + 4, ρ + 31] F 90 7 (fun (s6, k4) => [(5, .int s5), (4, .int k4), (3, .int (nI zt)), (0, .ref h0), (1, .int x1), (2, .int x2)]) (fun (s6, k4) => [.int s6]) (fun (s6, k4) FF => (∃ k : Nat, k ≤ zt ∧ s6 = nI k) ∧ (∃ k : Nat, k ≤ zt ∧ k4 = nI k) ∧ FF h0 = .inr (15, (.ref ta) :: (.int 0) :: (.int (nI zo_106)) :: (.int (nI ze_107)) :: (.ref ou) :: (.ref so) :: (.ref ad) :: (.ref na) :: (.ref va) :: (.ref lc) :: (.ref dm) :: (.int v11_108) :: (.int v12_109) :: (.ref tg) :: (.int v14_110) :: (.int v15_111) :: (.ref pe) :: (.int v17_112) :: (.int v18_113) :: (.int v19_114) :: (.int v20_115) :: (.int v21_116) :: (.int v22_117) :: (.ref ml) :: (.ref bg) :: (.ref co) :: (.ref sp) :: (.ref nb0) :: (.ref nb1) :: (.ref nb2) :: (.int (nI nf)) :: (.int (nI bd)) :: (.int (nI mm)) :: (.int v33_118) :: (.ref pl) :: (.ref se) :: (.ref ke) :: (.ref wi) :: (.ref hs) :: (.ref mo) :: (.ref po) :: (.ref nu) :: (.ref pr) :: (.ref sq) :: (.ref xa) :: (.ref sa) :: (.ref n64) :: (.ref m64) :: (.ref ex) :: (.ref wh) :: (.ref sd) :: (.ref tk) :: (.int v52_119) :: (.int v53_120) :: (.int v54_121) :: (.ref hd) :: (.ref ak) :: (.ref ho) :: (.ref ot) :: [])) ?_ (fun jn_538 => ?_)
              ·
                rintro ⟨s6, k4⟩ F_539 hv_541 hO hR H locs hP hD hS ls hl
                have hl : lv_has ls 7 [(5, .int s5), (4, .int k4), (3, .int (nI zt)), (0, .ref h0), (1, .int x1), (2, .int x2)] := hl
                have hv_541 : (∃ k : Nat, k ≤ zt ∧ s6 = nI k) ∧ (∃ k : Nat, k ≤ zt ∧ k4 = nI k) ∧ F_539 h0 = .inr (15, (.ref ta) :: (.int 0) :: (.int (nI zo_106)) :: (.int (nI ze_107)) :: (.ref ou) :: (.ref so) :: (.ref ad) :: (.ref na) :: (.ref va) :: (.ref lc) :: (.ref dm) :: (.int v11_108) :: (.int v12_109) :: (.ref tg) :: (.int v14_110) :: (.int v15_111) :: (.ref pe) :: (.int v17_112) :: (.int v18_113) :: (.int v19_114) :: (.int v20_115) :: (.int v21_116) :: (.int v22_117) :: (.ref ml) :: (.ref bg) :: (.ref co) :: (.ref sp) :: (.ref nb0) :: (.ref nb1) :: (.ref nb2) :: (.int (nI nf)) :: (.int (nI bd)) :: (.int (nI mm)) :: (.int v33_118) :: (.ref pl) :: (.ref se) :: (.ref ke) :: (.ref wi) :: (.ref hs) :: (.ref mo) :: (.ref po) :: (.ref nu) :: (.ref pr) :: (.ref sq) :: (.ref xa) :: (.ref sa) :: (.ref n64) :: (.ref m64) :: (.ref ex) :: (.ref wh) :: (.ref sd) :: (.ref tk) :: (.int v52_119) :: (.int v53_120) :: (.int v54_121) :: (.ref hd) :: (.ref ak) :: (.ref ho) :: (.ref ot) :: []) := hv_541
                refine W.eq (g2 := F0 m 90 ls [.int s6]) rfl ?_
                have hF_542 : F_539 ta = .inl (cs 17, 3000, .inl f_533) := (hR ta (by rw [ht_131]; simp)).trans hF_540
                obtain ⟨⟨kend, hke, eke⟩, ⟨kb, hkb, ekb⟩, hb2⟩ := hv_541
                subst eke
                subst ekb
                refine W.eq (g2 := F0 m 90 ls [.int (nI kend)]) rfl ?_
                refine lv_istore (lv' := [(6, .int (nI kend)), (5, .int s5), (4, .int (nI kb)), (3, .int (nI zt)), (0, .ref h0), (1, .int x1), (2, .int x2)]) hx hb dX15_entry_90 hl (by decide) rfl (fun ls hl => ?_)
                have hF_545 : F ta = .inl (cs 17, 3000, .inl f_533) := (hR ta (by rw [ht_131]; simp)).symm.trans hF_542
                refine W.widen (k := 0) (n := 0) (by omega) (by omega) ?_
                refine pl_cutm (σ := Unit) A (dC, dI) cs ty gm L [ρ, ρ + 3, ρ + 4, ρ + 31] F 118 7 (fun u0 => [(6, .int (nI kend)), (5, .int s5), (4, .int (nI kb)), (3, .int (nI zt)), (0, .ref h0), (1, .int x1), (2, .int x2)]) (fun u0 => []) (fun u0 FF => (kend ≤ 60) ∧ (s5 = 1 → kb < zt) ∧ FF h0 = .inr (15, (.ref ta) :: (.int 0) :: (.int (nI zo_106)) :: (.int (nI ze_107)) :: (.ref ou) :: (.ref so) :: (.ref ad) :: (.ref na) :: (.ref va) :: (.ref lc) :: (.ref dm) :: (.int v11_108) :: (.int v12_109) :: (.ref tg) :: (.int v14_110) :: (.int v15_111) :: (.ref pe) :: (.int v17_112) :: (.int v18_113) :: (.int v19_114) :: (.int v20_115) :: (.int v21_116) :: (.int v22_117) :: (.ref ml) :: (.ref bg) :: (.ref co) :: (.ref sp) :: (.ref nb0) :: (.ref nb1) :: (.ref nb2) :: (.int (nI nf)) :: (.int (nI bd)) :: (.int (nI mm)) :: (.int v33_118) :: (.ref pl) :: (.ref se) :: (.ref ke) :: (.ref wi) :: (.ref hs) :: (.ref mo) :: (.ref po) :: (.ref nu) :: (.ref pr) :: (.ref sq) :: (.ref xa) :: (.ref sa) :: (.ref n64) :: (.ref m64) :: (.ref ex) :: (.ref wh) :: (.ref sd) :: (.ref tk) :: (.int v52_119) :: (.int v53_120) :: (.int v54_121) :: (.ref hd) :: (.ref ak) :: (.ref ho) :: (.ref ot) :: [])) ?_ (fun jn_543 => ?_)
                ·
                  rintro u0 F_544 hv_546 hO hR H locs hP hD hS ls hl
                  have hl : lv_has ls 7 [(6, .int (nI kend)), (5, .int s5), (4, .int (nI kb)), (3, .int (nI zt)), (0, .ref h0), (1, .int x1), (2, .int x2)] := hl
                  have hv_546 : (kend ≤ 60) ∧ (s5 = 1 → kb < zt) ∧ F_544 h0 = .inr (15, (.ref ta) :: (.int 0) :: (.int (nI zo_106)) :: (.int (nI ze_107)) :: (.ref ou) :: (.ref so) :: (.ref ad) :: (.ref na) :: (.ref va) :: (.ref lc) :: (.ref dm) :: (.int v11_108) :: (.int v12_109) :: (.ref tg) :: (.int v14_110) :: (.int v15_111) :: (.ref pe) :: (.int v17_112) :: (.int v18_113) :: (.int v19_114) :: (.int v20_115) :: (.int v21_116) :: (.int v22_117) :: (.ref ml) :: (.ref bg) :: (.ref co) :: (.ref sp) :: (.ref nb0) :: (.ref nb1) :: (.ref nb2) :: (.int (nI nf)) :: (.int (nI bd)) :: (.int (nI mm)) :: (.int v33_118) :: (.ref pl) :: (.ref se) :: (.ref ke) :: (.ref wi) :: (.ref hs) :: (.ref mo) :: (.ref po) :: (.ref nu) :: (.ref pr) :: (.ref sq) :: (.ref xa) :: (.ref sa) :: (.ref n64) :: (.ref m64) :: (.ref ex) :: (.ref wh) :: (.ref sd) :: (.ref tk) :: (.int v52_119) :: (.int v53_120) :: (.int v54_121) :: (.ref hd) :: (.ref ak) :: (.ref ho) :: (.ref ot) :: []) := hv_546
                  refine W.eq (g2 := F0 m 118 ls []) rfl ?_
                  have hF_547 : F_544 ta = .inl (cs 17, 3000, .inl f_533) := (hR ta (by rw [ht_131]; simp)).trans hF_545
                  obtain ⟨hn1, hn2, hn3⟩ := hv_546
                  have hF_550 : F ta = .inl (cs 17, 3000, .inl f_533) := (hR ta (by rw [ht_131]; simp)).symm.trans hF_547
                  refine W.widen (k := 0) (n := 0) (by omega) (by omega) ?_
                  refine pl_cutm (σ := Unit) A (dC, dI) cs ty gm L [ρ, ρ + 3, ρ + 4, ρ + 31] F 156 7 (fun u0 => [(6, .int (nI kend)), (5, .int s5), (4, .int (nI kb)), (3, .int (nI zt)), (0, .ref h0), (1, .int x1), (2, .int x2)]) (fun u0 => []) (fun u0 FF => (s5 = 1 → zt - kb - 1 ≤ 700) ∧ FF h0 = .inr (15, (.ref ta) :: (.int 0) :: (.int (nI zo_106)) :: (.int (nI ze_107)) :: (.ref ou) :: (.ref so) :: (.ref ad) :: (.ref na) :: (.ref va) :: (.ref lc) :: (.ref dm) :: (.int v11_108) :: (.int v12_109) :: (.ref tg) :: (.int v14_110) :: (.int v15_111) :: (.ref pe) :: (.int v17_112) :: (.int v18_113) :: (.int v19_114) :: (.int v20_115) :: (.int v21_116) :: (.int v22_117) :: (.ref ml) :: (.ref bg) :: (.ref co) :: (.ref sp) :: (.ref nb0) :: (.ref nb1) :: (.ref nb2) :: (.int (nI nf)) :: (.int (nI bd)) :: (.int (nI mm)) :: (.int v33_118) :: (.ref pl) :: (.ref se) :: (.ref ke) :: (.ref wi) :: (.ref hs) :: (.ref mo) :: (.ref po) :: (.ref nu) :: (.ref pr) :: (.ref sq) :: (.ref xa) :: (.ref sa) :: (.ref n64) :: (.ref m64) :: (.ref ex) :: (.ref wh) :: (.ref sd) :: (.ref tk) :: (.int v52_119) :: (.int v53_120) :: (.int v54_121) :: (.ref hd) :: (.ref ak) :: (.ref ho) :: (.ref ot) :: [])) ?_ (fun jn_548 => ?_)
                  ·
                    rintro u0 F_549 hv_551 hO hR H locs hP hD hS ls hl
                    have hl : lv_has ls 7 [(6, .int (nI kend)), (5, .int s5), (4, .int (nI kb)), (3, .int (nI zt)), (0, .ref h0), (1, .int x1), (2, .int x2)] := hl
                    have hv_551 : (s5 = 1 → zt - kb - 1 ≤ 700) ∧ F_549 h0 = .inr (15, (.ref ta) :: (.int 0) :: (.int (nI zo_106)) :: (.int (nI ze_107)) :: (.ref ou) :: (.ref so) :: (.ref ad) :: (.ref na) :: (.ref va) :: (.ref lc) :: (.ref dm) :: (.int v11_108) :: (.int v12_109) :: (.ref tg) :: (.int v14_110) :: (.int v15_111) :: (.ref pe) :: (.int v17_112) :: (.int v18_113) :: (.int v19_114) :: (.int v20_115) :: (.int v21_116) :: (.int v22_117) :: (.ref ml) :: (.ref bg) :: (.ref co) :: (.ref sp) :: (.ref nb0) :: (.ref nb1) :: (.ref nb2) :: (.int (nI nf)) :: (.int (nI bd)) :: (.int (nI mm)) :: (.int v33_118) :: (.ref pl) :: (.ref se) :: (.ref ke) :: (.ref wi) :: (.ref hs) :: (.ref mo) :: (.ref po) :: (.ref nu) :: (.ref pr) :: (.ref sq) :: (.ref xa) :: (.ref sa) :: (.ref n64) :: (.ref m64) :: (.ref ex) :: (.ref wh) :: (.ref sd) :: (.ref tk) :: (.int v52_119) :: (.int v53_120) :: (.int v54_121) :: (.ref hd) :: (.ref ak) :: (.ref ho) :: (.ref ot) :: []) := hv_551
                    refine W.eq (g2 := F0 m 156 ls []) rfl ?_
                    have hF_552 : F_549 ta = .inl (cs 17, 3000, .inl f_533) := (hR ta (by rw [ht_131]; simp)).trans hF_550
                    obtain ⟨ho1, ho2⟩ := hv_551
                    refine lv_aload_n hx hb dX15_entry_156 rfl (lv_at hl 4 rfl) ?_
                    refine pg_get (ci := 15) (v := .ref so) (C := RX15) (T := TX15) (N := 59) hx hb hts it_15 hown hK hP hL_h0 ho2 rfl 5 (by decide) (hts _ kt_718) (fun _ h9 => h9) rfl dX15_entry_157 ?_
                    refine lv_aload_n hx hb dX15_entry_160 rfl (lv_at hl 4 rfl) ?_
                    refine pg_get (ci := 15) (v := .int (nI ze_107)) (C := RX15) (T := TX15) (N := 59) hx hb hts it_15 hown hK hP hL_h0 ho2 rfl 3 (by decide) (hts _ kt_724) (fun _ h9 => h9) rfl dX15_entry_161 ?_
                    refine lv_iload_n hx hb dX15_entry_164 rfl (lv_at hl 5 rfl) ?_
                    obtain ⟨hq_553, hq_554⟩ := hW.ints hi_134 ht_135
                    obtain ⟨f_555, hF_556⟩ := hO.ints hi_134 ht_135
                    refine pg_iast hx hb hK hP hD hS hi_134 0 hF_556 rfl (vp_in_nI (by omega) (by omega)) dX15_entry_165 (fun H locs hP hD hS => ?_)
                    obtain ⟨F_557, he_558, hP, hD, hO, hR⟩ : ∃ G, G = va_up F_549 so (.inl (cs 16, 40, .inl (upd f_555 ((nI ze_107)).toNatClampNeg (x1)))) ∧ va_P (dC, dI) vwCl (va_pl L G) H ∧ va_D A (va_pl L G) ∧ OKm cs ty gm L G ∧ FR ty [ρ, ρ + 3, ρ + 4, ρ + 31] F G := ⟨_, rfl, hP, hD, hO.up (shm.ints ht_135 ⟨_, rfl⟩), hR.up ht_135 (by simp)⟩
                    have hF_559 : F_557 so = .inl (cs 16, 40, .inl (upd f_555 ((nI ze_107)).toNatClampNeg (x1))) := by rw [he_558]; exact up_self
                    have hF_560 : F_557 ta = .inl (cs 17, 3000, .inl f_533) := by rw [he_558, up_ne (ne_ty ht_131 ht_135 (by simp))]; exact hF_552
                    have hF_561 : F_557 h0 = .inr (15, (.ref ta) :: (.int 0) :: (.int (nI zo_106)) :: (.int (nI ze_107)) :: (.ref ou) :: (.ref so) :: (.ref ad) :: (.ref na) :: (.ref va) :: (.ref lc) :: (.ref dm) :: (.int v11_108) :: (.int v12_109) :: (.ref tg) :: (.int v14_110) :: (.int v15_111) :: (.ref pe) :: (.int v17_112) :: (.int v18_113) :: (.int v19_114) :: (.int v20_115) :: (.int v21_116) :: (.int v22_117) :: (.ref ml) :: (.ref bg) :: (.ref co) :: (.ref sp) :: (.ref nb0) :: (.ref nb1) :: (.ref nb2) :: (.int (nI nf)) :: (.int (nI bd)) :: (.int (nI mm)) :: (.int v33_118) :: (.ref pl) :: (.ref se) :: (.ref ke) :: (.ref wi) :: (.ref hs) :: (.ref mo) :: (.ref po) :: (.ref nu) :: (.ref pr) :: (.ref sq) :: (.ref xa) :: (.ref sa) :: (.ref n64) :: (.ref m64) :: (.ref ex) :: (.ref wh) :: (.ref sd) :: (.ref tk) :: (.int v52_119) :: (.int v53_120) :: (.int v54_121) :: (.ref hd) :: (.ref ak) :: (.ref ho) :: (.ref ot) :: []) := by rw [he_558, up_ne (ne_ty hT_h0 ht_135 (by simp))]; exact ho2
                    obtain ⟨f_562, hF_559⟩ : ∃ f : Nat → Int32, F_557 so = .inl (cs 16, 40, .inl f) := ⟨_, hF_559⟩
                    refine lv_aload_n hx hb dX15_entry_166 rfl (lv_at hl 4 rfl) ?_
                    refine pg_get (ci := 15) (v := .ref ad) (C := RX15) (T := TX15) (N := 59) hx hb hts it_15 hown hK hP hL_h0 hF_561 rfl 6 (by decide) (hts _ kt_740) (fun _ h9 => h9) rfl dX15_entry_167 ?_
                    refine lv_aload_n hx hb dX15_entry_170 rfl (lv_at hl 4 rfl) ?_
                    refine pg_get (ci := 15) (v := .int (nI ze_107)) (C := RX15) (T := TX15) (N := 59) hx hb hts it_15 hown hK hP hL_h0 hF_561 rfl 3 (by decide) (hts _ kt_724) (fun _ h9 => h9) rfl dX15_entry_171 ?_
                    refine lv_iload_n hx hb dX15_entry_174 rfl (lv_at hl 6 rfl) ?_
                    obtain ⟨hq_563, hq_564⟩ := hW.ints hi_136 ht_137
                    obtain ⟨f_565, hF_566⟩ := hO.ints hi_136 ht_137
                    refine pg_iast hx hb hK hP hD hS hi_136 0 hF_566 rfl (vp_in_nI (by omega) (by omega)) dX15_entry_175 (fun H locs hP hD hS => ?_)
                    obtain ⟨F_567, he_568, hP, hD, hO, hR⟩ : ∃ G, G = va_up F_557 ad (.inl (cs 16, 40, .inl (upd f_565 ((nI ze_107)).toNatClampNeg (x2)))) ∧ va_P (dC, dI) vwCl (va_pl L G) H ∧ va_D A (va_pl L G) ∧ OKm cs ty gm L G ∧ FR ty [ρ, ρ + 3, ρ + 4, ρ + 31] F G := ⟨_, rfl, hP, hD, hO.up (shm.ints ht_137 ⟨_, rfl⟩), hR.up ht_137 (by simp)⟩
                    have hF_569 : F_567 ad = .inl (cs 16, 40, .inl (upd f_565 ((nI ze_107)).toNatClampNeg (x2))) := by rw [he_568]; exact up_self
                    have hF_570 : F_567 ta = .inl (cs 17, 3000, .inl f_533) := by rw [he_568, up_ne (ne_ty ht_131 ht_137 (by simp))]; exact hF_560
                    have hF_571 : F_567 h0 = .inr (15, (.ref ta) :: (.int 0) :: (.int (nI zo_106)) :: (.int (nI ze_107)) :: (.ref ou) :: (.ref so) :: (.ref ad) :: (.ref na) :: (.ref va) :: (.ref lc) :: (.ref dm) :: (.int v11_108) :: (.int v12_109) :: (.ref tg) :: (.int v14_110) :: (.int v15_111) :: (.ref pe) :: (.int v17_112) :: (.int v18_113) :: (.int v19_114) :: (.int v20_115) :: (.int v21_116) :: (.int v22_117) :: (.ref ml) :: (.ref bg) :: (.ref co) :: (.ref sp) :: (.ref nb0) :: (.ref nb1) :: (.ref nb2) :: (.int (nI nf)) :: (.int (nI bd)) :: (.int (nI mm)) :: (.int v33_118) :: (.ref pl) :: (.ref se) :: (.ref ke) :: (.ref wi) :: (.ref hs) :: (.ref mo) :: (.ref po) :: (.ref nu) :: (.ref pr) :: (.ref sq) :: (.ref xa) :: (.ref sa) :: (.ref n64) :: (.ref m64) :: (.ref ex) :: (.ref wh) :: (.ref sd) :: (.ref tk) :: (.int v52_119) :: (.int v53_120) :: (.int v54_121) :: (.ref hd) :: (.ref ak) :: (.ref ho) :: (.ref ot) :: []) := by rw [he_568, up_ne (ne_ty hT_h0 ht_137 (by simp))]; exact hF_561
                    obtain ⟨f_572, hF_569⟩ : ∃ f : Nat → Int32, F_567 ad = .inl (cs 16, 40, .inl f) := ⟨_, hF_569⟩
                    refine lv_aload_n hx hb dX15_entry_176 rfl (lv_at hl 4 rfl) ?_
                    refine pg_get (ci := 15) (v := .ref na) (C := RX15) (T := TX15) (N := 59) hx hb hts it_15 hown hK hP hL_h0 hF_571 rfl 7 (by decide) (hts _ kt_719) (fun _ h9 => h9) rfl dX15_entry_177 ?_
                    refine lv_aload_n hx hb dX15_entry_180 rfl (lv_at hl 4 rfl) ?_
                    refine pg_get (ci := 15) (v := .int (nI ze_107)) (C := RX15) (T := TX15) (N := 59) hx hb hts it_15 hown hK hP hL_h0 hF_571 rfl 3 (by decide) (hts _ kt_724) (fun _ h9 => h9) rfl dX15_entry_181 ?_
                    obtain ⟨f_573, hF_574, hq_575⟩ := hO.rtxt hi_138 ht_139
                    obtain ⟨b_576, r_577, hbf_578, hi_579, ht_580⟩ := hq_575 ze_107 (by omega)
                    refine pg_aald (r := b_576) hx hb hK hP hi_138 7 hF_574 rfl (vp_in_nI (by omega) (by omega)) (show f_573 ((nI ze_107) : Int32).toNatClampNeg = _ from by rw [show ((nI ze_107) : Int32) = nI ze_107 from rfl, nI_clamp (by omega)]; exact hbf_578) dX15_entry_184 ?_
                    refine lv_aload_n hx hb dX15_entry_185 rfl (lv_at hl 4 rfl) ?_
                    refine pg_get (ci := 15) (v := .ref ta) (C := RX15) (T := TX15) (N := 59) hx hb hts it_15 hown hK hP hL_h0 hF_571 rfl 0 (by decide) (hts _ kt_1075) (fun _ h9 => h9) rfl dX15_entry_186 ?_
                    refine lv_iconst (v := 0) hx hb dX15_entry_189 (by decide) ?_
                    refine lv_iload hx hb dX15_entry_190 (lv_at hl 0 rfl) ?_
                    refine W.eq (g2 := F0 m 192 ls [.int (nI kend), .int (nI 0), .ref ta, .ref b_576]) rfl ?_
                    obtain ⟨hi_581, ht_582, hq_583⟩ := hW.txt hi_579 ht_580
                    have hFc := pg_free hD hS hA
                    obtain ⟨z_584, hF_585, hq_586⟩ := hO.txt hi_579 ht_580
                    refine va_callv (va_runV (As := [.ref ta, .int (nI 0), .int (nI kend)]) (rest := []) ⟨hx, hb, hml, hown, hts⟩ (s_X14_set l dC dI cs ty gm L H.size F_567 b_576 (ρ + 4) r_577 60 ta (ρ + 1) 3000 0 kend hW hi_579 ht_580 hi_130 ht_131 (by first | omega | assumption) (by first | omega | assumption) (by first | omega | assumption)) ⟨callB_of 3 hts (gi kt_979) rfl rfl rfl (hts _ kt_676) (hts _ kt_980) (by decide +kernel) ⟨Nat.le_of_ble_eq_true rfl, Nat.le_of_ble_eq_true rfl⟩, (hts _ kt_981), (hts _ kt_982)⟩ ⟨fun a U g mk q => ⟨q.1, PTm.calling q.2⟩, pg_recv hK hP hi_579 hF_585 (q := (RX14, TX14, 2)) rfl, fun U hU hWm => ⟨rfl, PTm.mk hU hWm hP hK hD hE hO⟩⟩ rfl rfl hl.1 rfl (lv_room (Nat.le_of_ble_eq_true rfl)) dX15_entry_192 ⟨by show _ + 0 ≤ 0; omega, by show _ + 0 ≤ 0; omega⟩) hS (fun q _ h => hFc q h) hFc (fun u t H1 locs ht hvm hw hB hz1 hk1 hS => ?_)
                    obtain ⟨F_588, hB1, hq_589⟩ := hB
                    obtain ⟨hP, hD, hO, hR⟩ := QTm.back hB1 ht hFc hR (fun q h => by simp only [List.mem_cons, List.not_mem_nil, or_false] at h ⊢; omega)
                    have hF_590 : F_588 ad = .inl (cs 16, 40, .inl f_572) := (hB1.2.2.2 ad (by rw [ht_137]; simp)).trans hF_569
                    have hF_591 : F_588 ta = .inl (cs 17, 3000, .inl f_533) := (hB1.2.2.2 ta (by rw [ht_131]; simp)).trans hF_570
                    have hF_592 : F_588 h0 = .inr (15, (.ref ta) :: (.int 0) :: (.int (nI zo_106)) :: (.int (nI ze_107)) :: (.ref ou) :: (.ref so) :: (.ref ad) :: (.ref na) :: (.ref va) :: (.ref lc) :: (.ref dm) :: (.int v11_108) :: (.int v12_109) :: (.ref tg) :: (.int v14_110) :: (.int v15_111) :: (.ref pe) :: (.int v17_112) :: (.int v18_113) :: (.int v19_114) :: (.int v20_115) :: (.int v21_116) :: (.int v22_117) :: (.ref ml) :: (.ref bg) :: (.ref co) :: (.ref sp) :: (.ref nb0) :: (.ref nb1) :: (.ref nb2) :: (.int (nI nf)) :: (.int (nI bd)) :: (.int (nI mm)) :: (.int v33_118) :: (.ref pl) :: (.ref se) :: (.ref ke) :: (.ref wi) :: (.ref hs) :: (.ref mo) :: (.ref po) :: (.ref nu) :: (.ref pr) :: (.ref sq) :: (.ref xa) :: (.ref sa) :: (.ref n64) :: (.ref m64) :: (.ref ex) :: (.ref wh) :: (.ref sd) :: (.ref tk) :: (.int v52_119) :: (.int v53_120) :: (.int v54_121) :: (.ref hd) :: (.ref ak) :: (.ref ho) :: (.ref ot) :: []) := (hB1.2.2.2 h0 (by rw [hT_h0]; simp)).trans hF_571
                    generalize H1 = H at hP hS ⊢
                    refine lv_aload_n hx hb dX15_entry_195 rfl (lv_at hl 4 rfl) ?_
                    refine pg_get (ci := 15) (v := .ref va) (C := RX15) (T := TX15) (N := 59) hx hb hts it_15 hown hK hP hL_h0 hF_592 rfl 8 (by decide) (hts _ kt_732) (fun _ h9 => h9) rfl dX15_entry_196 ?_
                    refine lv_aload_n hx hb dX15_entry_199 rfl (lv_at hl 4 rfl) ?_
                    refine pg_get (ci := 15) (v := .int (nI ze_107)) (C := RX15) (T := TX15) (N := 59) hx hb hts it_15 hown hK hP hL_h0 hF_592 rfl 3 (by decide) (hts _ kt_724) (fun _ h9 => h9) rfl dX15_entry_200 ?_
                    obtain ⟨f_593, hF_594, hq_595⟩ := hO.rtxt hi_140 ht_141
                    obtain ⟨b_596, r_597, hbf_598, hi_599, ht_600⟩ := hq_595 ze_107 (by omega)
                    refine pg_aald (r := b_596) hx hb hK hP hi_140 7 hF_594 rfl (vp_in_nI (by omega) (by omega)) (show f_593 ((nI ze_107) : Int32).toNatClampNeg = _ from by rw [show ((nI ze_107) : Int32) = nI ze_107 from rfl, nI_clamp (by omega)]; exact hbf_598) dX15_entry_203 ?_
                    refine lv_iconst (v := 0) hx hb dX15_entry_204 (by decide) ?_
                    obtain ⟨hi_601, ht_602, hq_603⟩ := hW.txt hi_599 ht_600
                    obtain ⟨z_604, hF_605, hq_606⟩ := hO.txt hi_599 ht_600
                    refine pg_put (ci := 14) (v := .int 0) (ty := .int) (C := RX14) (T := TX14) (N := 2) hx hb hts it_14 tyX14 tyX14_ok nmX14 hown hK hP hD hS hi_599 hF_605 rfl 1 (by decide) (hts _ kt_709) (fun _ h9 => h9) rfl (by decide +kernel) (rfl) (rfl) (Nat.le_of_ble_eq_true rfl) dX15_entry_205 (fun H locs hP hD hS => ?_)
                    obtain ⟨F_607, he_608, hP, hD, hO, hR⟩ : ∃ G, G = va_up F_588 b_596 (.inr (14, [.ref r_597, .int 0])) ∧ va_P (dC, dI) vwCl (va_pl L G) H ∧ va_D A (va_pl L G) ∧ OKm cs ty gm L G ∧ FR ty [ρ, ρ + 3, ρ + 4, ρ + 31] F G := ⟨_, rfl, hP, hD, hO.up (shm.txt ht_600 ⟨0, rfl, (by first | omega | assumption | exact Or.inl rfl | exact Or.inr rfl)⟩), hR.up ht_600 (by simp)⟩
                    have hF_609 : F_607 b_596 = .inr (14, [.ref r_597, .int 0]) := by rw [he_608]; exact up_self
                    have hF_610 : F_607 ad = .inl (cs 16, 40, .inl f_572) := by rw [he_608, up_ne (ne_ty ht_137 ht_600 (by simp))]; exact hF_590
                    have hF_611 : F_607 ta = .inl (cs 17, 3000, .inl f_533) := by rw [he_608, up_ne (ne_ty ht_131 ht_600 (by simp))]; exact hF_591
                    have hF_612 : F_607 h0 = .inr (15, (.ref ta) :: (.int 0) :: (.int (nI zo_106)) :: (.int (nI ze_107)) :: (.ref ou) :: (.ref so) :: (.ref ad) :: (.ref na) :: (.ref va) :: (.ref lc) :: (.ref dm) :: (.int v11_108) :: (.int v12_109) :: (.ref tg) :: (.int v14_110) :: (.int v15_111) :: (.ref pe) :: (.int v17_112) :: (.int v18_113) :: (.int v19_114) :: (.int v20_115) :: (.int v21_116) :: (.int v22_117) :: (.ref ml) :: (.ref bg) :: (.ref co) :: (.ref sp) :: (.ref nb0) :: (.ref nb1) :: (.ref nb2) :: (.int (nI nf)) :: (.int (nI bd)) :: (.int (nI mm)) :: (.int v33_118) :: (.ref pl) :: (.ref se) :: (.ref ke) :: (.ref wi) :: (.ref hs) :: (.ref mo) :: (.ref po) :: (.ref nu) :: (.ref pr) :: (.ref sq) :: (.ref xa) :: (.ref sa) :: (.ref n64) :: (.ref m64) :: (.ref ex) :: (.ref wh) :: (.ref sd) :: (.ref tk) :: (.int v52_119) :: (.int v53_120) :: (.int v54_121) :: (.ref hd) :: (.ref ak) :: (.ref ho) :: (.ref ot) :: []) := by rw [he_608, up_ne (ne_ty hT_h0 ht_600 (by simp))]; exact hF_592
                    have hF_613 : F_607 b_576 = .inr (14, [.ref r_577, .int (nI (kend - 0))]) := by rw [he_608, up_ne (ne_ty2 ht_580 ht_600 (by simp))]; exact hq_589
                    have hF_614 : F_607 va = .inl (cs 23, 40, .inr (.inr (.inr (.inr f_593)))) := by rw [he_608, up_ne (ne_ty ht_141 ht_600 (by simp))]; exact hF_594
                    refine lv_iload hx hb dX15_entry_208 (lv_at hl 1 rfl) ?_
                    refine lv_if_eq (tgt := 234) hx hb dX15_entry_210 (by decide) (fun c_615 => ?_) (fun c_615 => ?_)
                    ·
                      refine lv_aload_n hx hb dX15_entry_234 rfl (lv_at hl 4 rfl) ?_
                      refine lv_dup hx hb dX15_entry_235 rfl ?_
                      refine pg_get (ci := 15) (v := .int (nI ze_107)) (C := RX15) (T := TX15) (N := 59) hx hb hts it_15 hown hK hP hL_h0 hF_612 rfl 3 (by decide) (hts _ kt_724) (fun _ h9 => h9) rfl dX15_entry_236 ?_
                      refine lv_iconst (v := 1) hx hb dX15_entry_239 (by decide) ?_
                      refine lv_iadd hx hb dX15_entry_240 ?_
                      refine lv_topi (fun x_616 ex_616 => ?_)
                      obtain rfl : x_616 = (nI (ze_107 + 1)) := ex_616.trans (nI_add ze_107 1)
                      refine pg_put (ci := 15) (v := .int (nI (ze_107 + 1))) (ty := .int) (C := RX15) (T := TX15) (N := 59) hx hb hts it_15 tyX15 tyX15_ok nmX15 hown hK hP hD hS hL_h0 hF_612 rfl 3 (by decide) (hts _ kt_724) (fun _ h9 => h9) rfl (by decide +kernel) (rfl) (rfl) (Nat.le_of_ble_eq_true rfl) dX15_entry_241 (fun H locs hP hD hS => ?_)
                      obtain ⟨F_617, he_618, hP, hD, hO, hR⟩ : ∃ G, G = va_up F_607 h0 (.inr (15, (.ref ta) :: (.int 0) :: (.int (nI zo_106)) :: (.int (nI (ze_107 + 1))) :: (.ref ou) :: (.ref so) :: (.ref ad) :: (.ref na) :: (.ref va) :: (.ref lc) :: (.ref dm) :: (.int v11_108) :: (.int v12_109) :: (.ref tg) :: (.int v14_110) :: (.int v15_111) :: (.ref pe) :: (.int v17_112) :: (.int v18_113) :: (.int v19_114) :: (.int v20_115) :: (.int v21_116) :: (.int v22_117) :: (.ref ml) :: (.ref bg) :: (.ref co) :: (.ref sp) :: (.ref nb0) :: (.ref nb1) :: (.ref nb2) :: (.int (nI nf)) :: (.int (nI bd)) :: (.int (nI mm)) :: (.int v33_118) :: (.ref pl) :: (.ref se) :: (.ref ke) :: (.ref wi) :: (.ref hs) :: (.ref mo) :: (.ref po) :: (.ref nu) :: (.ref pr) :: (.ref sq) :: (.ref xa) :: (.ref sa) :: (.ref n64) :: (.ref m64) :: (.ref ex) :: (.ref wh) :: (.ref sd) :: (.ref tk) :: (.int v52_119) :: (.int v53_120) :: (.int v54_121) :: (.ref hd) :: (.ref ak) :: (.ref ho) :: (.ref ot) :: [])) ∧ va_P (dC, dI) vwCl (va_pl L G) H ∧ va_D A (va_pl L G) ∧ OKm cs ty gm L G ∧ FR ty [ρ, ρ + 3, ρ + 4, ρ + 31] F G := ⟨_, rfl, hP, hD, hO.up (shm.mod hT_h0 ⟨zo_106, (ze_107 + 1), v11_108, v12_109, v14_110, v15_111, v17_112, v18_113, v19_114, v20_115, v21_116, v22_117, v33_118, v52_119, v53_120, v54_121, rfl, (by first | omega | assumption | exact Or.inl rfl | exact Or.inr rfl), (by first | omega | assumption | exact Or.inl rfl | exact Or.inr rfl), (by first | omega | assumption | exact Or.inl rfl | exact Or.inr rfl), (by first | omega | assumption | exact Or.inl rfl | exact Or.inr rfl)⟩), hR.up hT_h0 (by simp)⟩
                      have hF_619 : F_617 h0 = .inr (15, (.ref ta) :: (.int 0) :: (.int (nI zo_106)) :: (.int (nI (ze_107 + 1))) :: (.ref ou) :: (.ref so) :: (.ref ad) :: (.ref na) :: (.ref va) :: (.ref lc) :: (.ref dm) :: (.int v11_108) :: (.int v12_109) :: (.ref tg) :: (.int v14_110) :: (.int v15_111) :: (.ref pe) :: (.int v17_112) :: (.int v18_113) :: (.int v19_114) :: (.int v20_115) :: (.int v21_116) :: (.int v22_117) :: (.ref ml) :: (.ref bg) :: (.ref co) :: (.ref sp) :: (.ref nb0) :: (.ref nb1) :: (.ref nb2) :: (.int (nI nf)) :: (.int (nI bd)) :: (.int (nI mm)) :: (.int v33_118) :: (.ref pl) :: (.ref se) :: (.ref ke) :: (.ref wi) :: (.ref hs) :: (.ref mo) :: (.ref po) :: (.ref nu) :: (.ref pr) :: (.ref sq) :: (.ref xa) :: (.ref sa) :: (.ref n64) :: (.ref m64) :: (.ref ex) :: (.ref wh) :: (.ref sd) :: (.ref tk) :: (.int v52_119) :: (.int v53_120) :: (.int v54_121) :: (.ref hd) :: (.ref ak) :: (.ref ho) :: (.ref ot) :: []) := by rw [he_618]; exact up_self
                      have hF_620 : F_617 b_596 = .inr (14, [.ref r_597, .int 0]) := by rw [he_618, up_ne (ne_ty ht_600 hT_h0 (by simp))]; exact hF_609
                      have hF_621 : F_617 ad = .inl (cs 16, 40, .inl f_572) := by rw [he_618, up_ne (ne_ty ht_137 hT_h0 (by simp))]; exact hF_610
                      have hF_622 : F_617 ta = .inl (cs 17, 3000, .inl f_533) := by rw [he_618, up_ne (ne_ty ht_131 hT_h0 (by simp))]; exact hF_611
                      have hF_623 : F_617 b_576 = .inr (14, [.ref r_577, .int (nI (kend - 0))]) := by rw [he_618, up_ne (ne_ty ht_580 hT_h0 (by simp))]; exact hF_613
                      have hF_624 : F_617 va = .inl (cs 23, 40, .inr (.inr (.inr (.inr f_593)))) := by rw [he_618, up_ne (ne_ty ht_141 hT_h0 (by simp))]; exact hF_614
                      refine lv_aload_n hx hb dX15_entry_244 rfl (lv_at hl 4 rfl) ?_
                      refine pg_get (ci := 15) (v := .int (nI (ze_107 + 1))) (C := RX15) (T := TX15) (N := 59) hx hb hts it_15 hown hK hP hL_h0 hF_619 rfl 3 (by decide) (hts _ kt_724) (fun _ h9 => h9) rfl dX15_entry_245 ?_
                      refine W.widen (k := 0) (n := 0) (by omega) (by omega) ?_
                      exact W.iret (v := (nI (ze_107 + 1))) hx hb hr (fun t ht hWm => ⟨⟨(nI (ze_107 + 1)), (), rfl, trivial, ⟨F_617, ty, hty, QTm.mk ht hP hD hO hR, hW⟩⟩, hS.F ht⟩) hS.2.2 dX15_entry_248
                    ·
                      have h51 := hs5.resolve_left c_615
                      refine lv_aload_n hx hb dX15_entry_213 rfl (lv_at hl 4 rfl) ?_
                      refine pg_get (ci := 15) (v := .ref va) (C := RX15) (T := TX15) (N := 59) hx hb hts it_15 hown hK hP hL_h0 hF_612 rfl 8 (by decide) (hts _ kt_732) (fun _ h9 => h9) rfl dX15_entry_214 ?_
                      refine lv_aload_n hx hb dX15_entry_217 rfl (lv_at hl 4 rfl) ?_
                      refine pg_get (ci := 15) (v := .int (nI ze_107)) (C := RX15) (T := TX15) (N := 59) hx hb hts it_15 hown hK hP hL_h0 hF_612 rfl 3 (by decide) (hts _ kt_724) (fun _ h9 => h9) rfl dX15_entry_218 ?_
                      obtain ⟨b_625, r_626, hbf_627, hi_628, ht_629⟩ := hq_595 ze_107 (by omega)
                      refine pg_aald (r := b_625) hx hb hK hP hi_140 7 hF_614 rfl (vp_in_nI (by omega) (by omega)) (show f_593 ((nI ze_107) : Int32).toNatClampNeg = _ from by rw [show ((nI ze_107) : Int32) = nI ze_107 from rfl, nI_clamp (by omega)]; exact hbf_627) dX15_entry_221 ?_
                      refine lv_aload_n hx hb dX15_entry_222 rfl (lv_at hl 4 rfl) ?_
                      refine pg_get (ci := 15) (v := .ref ta) (C := RX15) (T := TX15) (N := 59) hx hb hts it_15 hown hK hP hL_h0 hF_612 rfl 0 (by decide) (hts _ kt_1075) (fun _ h9 => h9) rfl dX15_entry_223 ?_
                      refine lv_iload hx hb dX15_entry_226 (lv_at hl 2 rfl) ?_
                      refine lv_iconst (v := 1) hx hb dX15_entry_228 (by decide) ?_
                      refine lv_iadd hx hb dX15_entry_229 ?_
                      refine lv_topi (fun x_630 ex_630 => ?_)
                      obtain rfl : x_630 = (nI (kb + 1)) := ex_630.trans (nI_add kb 1)
                      refine lv_iload_n hx hb dX15_entry_230 rfl (lv_at hl 3 rfl) ?_
                      obtain ⟨hi_631, ht_632, hq_633⟩ := hW.txt hi_628 ht_629
                      have hFc := pg_free hD hS hA
                      obtain ⟨z_634, hF_635, hq_636⟩ := hO.txt hi_628 ht_629
                      refine va_callv (va_runV (As := [.ref ta, .int (nI (kb + 1)), .int (nI zt)]) (rest := []) ⟨hx, hb, hml, hown, hts⟩ (s_X14_set l dC dI cs ty gm L H.size F_607 b_625 (ρ + 31) r_626 700 ta (ρ + 1) 3000 (kb + 1) zt hW hi_628 ht_629 hi_130 ht_131 (by have h9 := hn2 h51; omega) (by omega) (by have h9 := ho1 h51; omega)) ⟨callB_of 3 hts (gi kt_979) rfl rfl rfl (hts _ kt_676) (hts _ kt_980) (by decide +kernel) ⟨Nat.le_of_ble_eq_true rfl, Nat.le_of_ble_eq_true rfl⟩, (hts _ kt_981), (hts _ kt_982)⟩ ⟨fun a U g mk q => ⟨q.1, PTm.calling q.2⟩, pg_recv hK hP hi_628 hF_635 (q := (RX14, TX14, 2)) rfl, fun U hU hWm => ⟨rfl, PTm.mk hU hWm hP hK hD hE hO⟩⟩ rfl rfl hl.1 rfl (lv_room (Nat.le_of_ble_eq_true rfl)) dX15_entry_231 ⟨by show _ + 0 ≤ 0; omega, by show _ + 0 ≤ 0; omega⟩) hS (fun q _ h => hFc q h) hFc (fun u t H1 locs ht hvm hw hB hz1 hk1 hS => ?_)
                      obtain ⟨F_638, hB1, hq_639⟩ := hB
                      obtain ⟨hP, hD, hO, hR⟩ := QTm.back hB1 ht hFc hR (fun q h => by simp only [List.mem_cons, List.not_mem_nil, or_false] at h ⊢; omega)
                      have hF_640 : F_638 ad = .inl (cs 16, 40, .inl f_572) := (hB1.2.2.2 ad (by rw [ht_137]; simp)).trans hF_610
                      have hF_641 : F_638 ta = .inl (cs 17, 3000, .inl f_533) := (hB1.2.2.2 ta (by rw [ht_131]; simp)).trans hF_611
                      have hF_642 : F_638 h0 = .inr (15, (.ref ta) :: (.int 0) :: (.int (nI zo_106)) :: (.int (nI ze_107)) :: (.ref ou) :: (.ref so) :: (.ref ad) :: (.ref na) :: (.ref va) :: (.ref lc) :: (.ref dm) :: (.int v11_108) :: (.int v12_109) :: (.ref tg) :: (.int v14_110) :: (.int v15_111) :: (.ref pe) :: (.int v17_112) :: (.int v18_113) :: (.int v19_114) :: (.int v20_115) :: (.int v21_116) :: (.int v22_117) :: (.ref ml) :: (.ref bg) :: (.ref co) :: (.ref sp) :: (.ref nb0) :: (.ref nb1) :: (.ref nb2) :: (.int (nI nf)) :: (.int (nI bd)) :: (.int (nI mm)) :: (.int v33_118) :: (.ref pl) :: (.ref se) :: (.ref ke) :: (.ref wi) :: (.ref hs) :: (.ref mo) :: (.ref po) :: (.ref nu) :: (.ref pr) :: (.ref sq) :: (.ref xa) :: (.ref sa) :: (.ref n64) :: (.ref m64) :: (.ref ex) :: (.ref wh) :: (.ref sd) :: (.ref tk) :: (.int v52_119) :: (.int v53_120) :: (.int v54_121) :: (.ref hd) :: (.ref ak) :: (.ref ho) :: (.ref ot) :: []) := (hB1.2.2.2 h0 (by rw [hT_h0]; simp)).trans hF_612
                      have hF_643 : F_638 b_576 = .inr (14, [.ref r_577, .int (nI (kend - 0))]) := (hB1.2.2.2 b_576 (by rw [ht_580]; simp)).trans hF_613
                      generalize H1 = H at hP hS ⊢
                      refine lv_aload_n hx hb dX15_entry_234 rfl (lv_at hl 4 rfl) ?_
                      refine lv_dup hx hb dX15_entry_235 rfl ?_
                      refine pg_get (ci := 15) (v := .int (nI ze_107)) (C := RX15) (T := TX15) (N := 59) hx hb hts it_15 hown hK hP hL_h0 hF_642 rfl 3 (by decide) (hts _ kt_724) (fun _ h9 => h9) rfl dX15_entry_236 ?_
                      refine lv_iconst (v := 1) hx hb dX15_entry_239 (by decide) ?_
                      refine lv_iadd hx hb dX15_entry_240 ?_
                      refine lv_topi (fun x_644 ex_644 => ?_)
                      obtain rfl : x_644 = (nI (ze_107 + 1)) := ex_644.trans (nI_add ze_107 1)
                      refine pg_put (ci := 15) (v := .int (nI (ze_107 + 1))) (ty := .int) (C := RX15) (T := TX15) (N := 59) hx hb hts it_15 tyX15 tyX15_ok nmX15 hown hK hP hD hS hL_h0 hF_642 rfl 3 (by decide) (hts _ kt_724) (fun _ h9 => h9) rfl (by decide +kernel) (rfl) (rfl) (Nat.le_of_ble_eq_true rfl) dX15_entry_241 (fun H locs hP hD hS => ?_)
                      obtain ⟨F_645, he_646, hP, hD, hO, hR⟩ : ∃ G, G = va_up F_638 h0 (.inr (15, (.ref ta) :: (.int 0) :: (.int (nI zo_106)) :: (.int (nI (ze_107 + 1))) :: (.ref ou) :: (.ref so) :: (.ref ad) :: (.ref na) :: (.ref va) :: (.ref lc) :: (.ref dm) :: (.int v11_108) :: (.int v12_109) :: (.ref tg) :: (.int v14_110) :: (.int v15_111) :: (.ref pe) :: (.int v17_112) :: (.int v18_113) :: (.int v19_114) :: (.int v20_115) :: (.int v21_116) :: (.int v22_117) :: (.ref ml) :: (.ref bg) :: (.ref co) :: (.ref sp) :: (.ref nb0) :: (.ref nb1) :: (.ref nb2) :: (.int (nI nf)) :: (.int (nI bd)) :: (.int (nI mm)) :: (.int v33_118) :: (.ref pl) :: (.ref se) :: (.ref ke) :: (.ref wi) :: (.ref hs) :: (.ref mo) :: (.ref po) :: (.ref nu) :: (.ref pr) :: (.ref sq) :: (.ref xa) :: (.ref sa) :: (.ref n64) :: (.ref m64) :: (.ref ex) :: (.ref wh) :: (.ref sd) :: (.ref tk) :: (.int v52_119) :: (.int v53_120) :: (.int v54_121) :: (.ref hd) :: (.ref ak) :: (.ref ho) :: (.ref ot) :: [])) ∧ va_P (dC, dI) vwCl (va_pl L G) H ∧ va_D A (va_pl L G) ∧ OKm cs ty gm L G ∧ FR ty [ρ, ρ + 3, ρ + 4, ρ + 31] F G := ⟨_, rfl, hP, hD, hO.up (shm.mod hT_h0 ⟨zo_106, (ze_107 + 1), v11_108, v12_109, v14_110, v15_111, v17_112, v18_113, v19_114, v20_115, v21_116, v22_117, v33_118, v52_119, v53_120, v54_121, rfl, (by first | omega | assumption | exact Or.inl rfl | exact Or.inr rfl), (by first | omega | assumption | exact Or.inl rfl | exact Or.inr rfl), (by first | omega | assumption | exact Or.inl rfl | exact Or.inr rfl), (by first | omega | assumption | exact Or.inl rfl | exact Or.inr rfl)⟩), hR.up hT_h0 (by simp)⟩
                      have hF_647 : F_645 h0 = .inr (15, (.ref ta) :: (.int 0) :: (.int (nI zo_106)) :: (.int (nI (ze_107 + 1))) :: (.ref ou) :: (.ref so) :: (.ref ad) :: (.ref na) :: (.ref va) :: (.ref lc) :: (.ref dm) :: (.int v11_108) :: (.int v12_109) :: (.ref tg) :: (.int v14_110) :: (.int v15_111) :: (.ref pe) :: (.int v17_112) :: (.int v18_113) :: (.int v19_114) :: (.int v20_115) :: (.int v21_116) :: (.int v22_117) :: (.ref ml) :: (.ref bg) :: (.ref co) :: (.ref sp) :: (.ref nb0) :: (.ref nb1) :: (.ref nb2) :: (.int (nI nf)) :: (.int (nI bd)) :: (.int (nI mm)) :: (.int v33_118) :: (.ref pl) :: (.ref se) :: (.ref ke) :: (.ref wi) :: (.ref hs) :: (.ref mo) :: (.ref po) :: (.ref nu) :: (.ref pr) :: (.ref sq) :: (.ref xa) :: (.ref sa) :: (.ref n64) :: (.ref m64) :: (.ref ex) :: (.ref wh) :: (.ref sd) :: (.ref tk) :: (.int v52_119) :: (.int v53_120) :: (.int v54_121) :: (.ref hd) :: (.ref ak) :: (.ref ho) :: (.ref ot) :: []) := by rw [he_646]; exact up_self
                      have hF_648 : F_645 ad = .inl (cs 16, 40, .inl f_572) := by rw [he_646, up_ne (ne_ty ht_137 hT_h0 (by simp))]; exact hF_640
                      have hF_649 : F_645 ta = .inl (cs 17, 3000, .inl f_533) := by rw [he_646, up_ne (ne_ty ht_131 hT_h0 (by simp))]; exact hF_641
                      have hF_650 : F_645 b_576 = .inr (14, [.ref r_577, .int (nI (kend - 0))]) := by rw [he_646, up_ne (ne_ty ht_580 hT_h0 (by simp))]; exact hF_643
                      have hF_651 : F_645 b_625 = .inr (14, [.ref r_626, .int (nI (zt - (kb + 1)))]) := by rw [he_646, up_ne (ne_ty ht_629 hT_h0 (by simp))]; exact hq_639
                      refine lv_aload_n hx hb dX15_entry_244 rfl (lv_at hl 4 rfl) ?_
                      refine pg_get (ci := 15) (v := .int (nI (ze_107 + 1))) (C := RX15) (T := TX15) (N := 59) hx hb hts it_15 hown hK hP hL_h0 hF_647 rfl 3 (by decide) (hts _ kt_724) (fun _ h9 => h9) rfl dX15_entry_245 ?_
                      refine W.widen (k := 0) (n := 0) (by omega) (by omega) ?_
                      exact W.iret (v := (nI (ze_107 + 1))) hx hb hr (fun t ht hWm => ⟨⟨(nI (ze_107 + 1)), (), rfl, trivial, ⟨F_645, ty, hty, QTm.mk ht hP hD hO hR, hW⟩⟩, hS.F ht⟩) hS.2.2 dX15_entry_248
                  ·
                    refine lv_iload_n hx hb dX15_entry_118 rfl (lv_at hl 5 rfl) ?_
                    refine lv_iconst (v := 2) hx hb dX15_entry_119 (by decide) ?_
                    refine lv_icmp_ne (tgt := 138) hx hb dX15_entry_120 (by decide) (fun c_652 => ?_) (fun c_652 => ?_)
                    ·
                      refine lv_iload_n hx hb dX15_entry_138 rfl (lv_at hl 5 rfl) ?_
                      refine lv_if_ne (tgt := 156) hx hb dX15_entry_139 (by decide) (fun c_653 => ?_) (fun c_653 => ?_)
                      ·
                        refine W.widen (k := 0) (n := 0) (by omega) (by omega) ?_
                        exact jn_548 () F_544 (⟨fun h => absurd (hs5x h) (fun q => q.elim c_653 c_652), hn3⟩) hO hR _ _ hP hD hS ls (lv_sub hl [0, 1, 2, 3, 4, 5, 6] rfl)
                      ·
                        have hkz := hn2 (hs5z c_653)
                        refine lv_iload_n hx hb dX15_entry_142 rfl (lv_at hl 3 rfl) ?_
                        refine lv_iload hx hb dX15_entry_143 (lv_at hl 2 rfl) ?_
                        refine lv_isub hx hb dX15_entry_145 ?_
                        refine lv_topi (fun x_654 ex_654 => ?_)
                        obtain rfl : x_654 = (nI (zt - kb)) := ex_654.trans (pk_sub (a := zt) (b := kb) (by omega))
                        refine lv_iconst (v := 1) hx hb dX15_entry_146 (by decide) ?_
                        refine lv_isub hx hb dX15_entry_147 ?_
                        refine lv_topi (fun x_655 ex_655 => ?_)
                        obtain rfl : x_655 = (nI ((zt - kb) - 1)) := ex_655.trans (pk_sub (a := (zt - kb)) (b := 1) (by omega))
                        refine lv_sipush (v := 700) hx hb dX15_entry_148 (by decide) ?_
                        refine lv_icmp_le (tgt := 156) hx hb dX15_entry_151 (by decide) (fun c_656 => ?_) (fun c_656 => ?_)
                        ·
                          have hi_657 : ((zt - kb) - 1) ≤ 700 := (nI_leI (a := ((zt - kb) - 1)) (b := 700) (by omega) (by omega)).mp c_656
                          refine W.widen (k := 0) (n := 0) (by omega) (by omega) ?_
                          exact jn_548 () F_544 (⟨fun _ => by omega, hn3⟩) hO hR _ _ hP hD hS ls (lv_sub hl [0, 1, 2, 3, 4, 5, 6] rfl)
                        ·
                          have hi_658 : 700 < ((zt - kb) - 1) := Nat.not_le.mp (fun q => c_656 ((nI_leI (a := ((zt - kb) - 1)) (b := 700) (by omega) (by omega)).mpr q))
                          refine lv_iconst (v := (-1)) hx hb dX15_entry_154 (by decide) ?_
                          refine W.widen (k := 0) (n := 0) (by omega) (by omega) ?_
                          exact W.iret (v := (-1)) hx hb hr (fun t ht hWm => ⟨⟨(-1), (), rfl, trivial, ⟨F_544, ty, hty, QTm.mk ht hP hD hO hR, hW⟩⟩, hS.F ht⟩) hS.2.2 dX15_entry_155
                    ·
                      refine lv_aload_n hx hb dX15_entry_123 rfl (lv_at hl 4 rfl) ?_
                      refine pg_get (ci := 15) (v := .ref ta) (C := RX15) (T := TX15) (N := 59) hx hb hts it_15 hown hK hP hL_h0 hn3 rfl 0 (by decide) (hts _ kt_1075) (fun _ h9 => h9) rfl dX15_entry_124 ?_
                      refine lv_iload hx hb dX15_entry_127 (lv_at hl 2 rfl) ?_
                      refine lv_iconst (v := 1) hx hb dX15_entry_129 (by decide) ?_
                      refine lv_iadd hx hb dX15_entry_130 ?_
                      refine lv_topi (fun x_659 ex_659 => ?_)
                      obtain rfl : x_659 = (nI (kb + 1)) := ex_659.trans (nI_add kb 1)
                      refine lv_iload_n hx hb dX15_entry_131 rfl (lv_at hl 3 rfl) ?_
                      have hFc := pg_free hD hS hA
                      refine va_calli (va_runS (As := [.ref ta, .int (nI (kb + 1)), .int (nI zt)]) (rest := []) ⟨hx, hb, hml, hown, hts⟩ (s_X14_isName_ l dC dI cs ty gm L H.size F_544 ta (ρ + 1) 3000 (kb + 1) zt hW hi_130 ht_131 (by first | omega | assumption) (by first | omega | assumption)) ⟨callB_of 3 hts (gi kt_689) rfl rfl rfl (hts _ kt_676) (hts _ kt_863) (by decide +kernel) ⟨Nat.le_of_ble_eq_true rfl, Nat.le_of_ble_eq_true rfl⟩, (hts _ kt_691)⟩ ⟨fun a U g mk q => ⟨q.1, PTm.calling q.2⟩, fun U hU hWm => ⟨rfl, PTm.mk hU hWm hP hK hD hE hO⟩⟩ rfl rfl hl.1 rfl (lv_room (Nat.le_of_ble_eq_true rfl)) dX15_entry_132 ⟨by show _ + 0 ≤ 0; omega, by show _ + 0 ≤ 0; omega⟩) hS (fun q _ h => hFc q h) hFc (fun r_660 u t H1 locs ht hvm hw hB hz1 hk1 hS => ?_)
                      obtain ⟨F_661, hB1⟩ := hB
                      obtain rfl : F_544 = F_661 := (funext (fun a => hB1.2.2.2 a List.not_mem_nil)).symm
                      obtain ⟨hP, hD, hO, hR⟩ := QTm.back hB1 ht hFc hR (fun q h => absurd h List.not_mem_nil)
                      generalize H1 = H at hP hS ⊢
                      have hw : (r_660 = 0 ∨ (r_660 = 1 ∧ (kb + 1) < zt ∧ zt ≤ kb + 61)) := hw
                      have hw_662 := hw
                      refine lv_if_eq (tgt := 154) hx hb dX15_entry_135 (by decide) (fun c_663 => ?_) (fun c_663 => ?_)
                      ·
                        refine lv_iconst (v := (-1)) hx hb dX15_entry_154 (by decide) ?_
                        refine W.widen (k := 0) (n := 0) (by omega) (by omega) ?_
                        exact W.iret (v := (-1)) hx hb hr (fun t ht hWm => ⟨⟨(-1), (), rfl, trivial, ⟨F_544, ty, hty, QTm.mk ht hP hD hO hR, hW⟩⟩, hS.F ht⟩) hS.2.2 dX15_entry_155
                      ·
                        refine lv_iload_n hx hb dX15_entry_138 rfl (lv_at hl 5 rfl) ?_
                        refine lv_if_ne (tgt := 156) hx hb dX15_entry_139 (by decide) (fun c_664 => ?_) (fun c_664 => ?_)
                        ·
                          refine W.widen (k := 0) (n := 0) (by omega) (by omega) ?_
                          exact jn_548 () F_544 (⟨fun _ => by have h9 := bit1 hw_662 c_663; omega, hn3⟩) hO hR _ _ hP hD hS ls (lv_sub hl [0, 1, 2, 3, 4, 5, 6] rfl)
                        ·
                          have hkz := hn2 (hs5z c_664)
                          refine lv_iload_n hx hb dX15_entry_142 rfl (lv_at hl 3 rfl) ?_
                          refine lv_iload hx hb dX15_entry_143 (lv_at hl 2 rfl) ?_
                          refine lv_isub hx hb dX15_entry_145 ?_
                          refine lv_topi (fun x_665 ex_665 => ?_)
                          obtain rfl : x_665 = (nI (zt - kb)) := ex_665.trans (pk_sub (a := zt) (b := kb) (by omega))
                          refine lv_iconst (v := 1) hx hb dX15_entry_146 (by decide) ?_
                          refine lv_isub hx hb dX15_entry_147 ?_
                          refine lv_topi (fun x_666 ex_666 => ?_)
                          obtain rfl : x_666 = (nI ((zt - kb) - 1)) := ex_666.trans (pk_sub (a := (zt - kb)) (b := 1) (by omega))
                          refine lv_sipush (v := 700) hx hb dX15_entry_148 (by decide) ?_
                          refine lv_icmp_le (tgt := 156) hx hb dX15_entry_151 (by decide) (fun c_667 => ?_) (fun c_667 => ?_)
                          ·
                            have hi_668 : ((zt - kb) - 1) ≤ 700 := (nI_leI (a := ((zt - kb) - 1)) (b := 700) (by omega) (by omega)).mp c_667
                            refine W.widen (k := 0) (n := 0) (by omega) (by omega) ?_
                            exact jn_548 () F_544 (⟨fun _ => by omega, hn3⟩) hO hR _ _ hP hD hS ls (lv_sub hl [0, 1, 2, 3, 4, 5, 6] rfl)
                          ·
                            have hi_669 : 700 < ((zt - kb) - 1) := Nat.not_le.mp (fun q => c_667 ((nI_leI (a := ((zt - kb) - 1)) (b := 700) (by omega) (by omega)).mpr q))
                            refine lv_iconst (v := (-1)) hx hb dX15_entry_154 (by decide) ?_
                            refine W.widen (k := 0) (n := 0) (by omega) (by omega) ?_
                            exact W.iret (v := (-1)) hx hb hr (fun t ht hWm => ⟨⟨(-1), (), rfl, trivial, ⟨F_544, ty, hty, QTm.mk ht hP hD hO hR, hW⟩⟩, hS.F ht⟩) hS.2.2 dX15_entry_155
                ·
                  refine lv_iload hx hb dX15_entry_92 (lv_at hl 1 rfl) ?_
                  refine lv_if_eq (tgt := 103) hx hb dX15_entry_94 (by decide) (fun c_670 => ?_) (fun c_670 => ?_)
                  ·
                    refine lv_aload_n hx hb dX15_entry_103 rfl (lv_at hl 4 rfl) ?_
                    refine pg_get (ci := 15) (v := .ref ta) (C := RX15) (T := TX15) (N := 59) hx hb hts it_15 hown hK hP hL_h0 hb2 rfl 0 (by decide) (hts _ kt_1075) (fun _ h9 => h9) rfl dX15_entry_104 ?_
                    refine lv_iconst (v := 0) hx hb dX15_entry_107 (by decide) ?_
                    refine lv_iload hx hb dX15_entry_108 (lv_at hl 0 rfl) ?_
                    refine W.eq (g2 := F0 m 110 ls [.int (nI kend), .int (nI 0), .ref ta]) rfl ?_
                    have hFc := pg_free hD hS hA
                    refine va_calli (va_runS (As := [.ref ta, .int (nI 0), .int (nI kend)]) (rest := []) ⟨hx, hb, hml, hown, hts⟩ (s_X14_isName_ l dC dI cs ty gm L H.size F_539 ta (ρ + 1) 3000 0 kend hW hi_130 ht_131 (by first | omega | assumption) (by first | omega | assumption)) ⟨callB_of 3 hts (gi kt_689) rfl rfl rfl (hts _ kt_676) (hts _ kt_863) (by decide +kernel) ⟨Nat.le_of_ble_eq_true rfl, Nat.le_of_ble_eq_true rfl⟩, (hts _ kt_691)⟩ ⟨fun a U g mk q => ⟨q.1, PTm.calling q.2⟩, fun U hU hWm => ⟨rfl, PTm.mk hU hWm hP hK hD hE hO⟩⟩ rfl rfl hl.1 rfl (lv_room (Nat.le_of_ble_eq_true rfl)) dX15_entry_110 ⟨by show _ + 0 ≤ 0; omega, by show _ + 0 ≤ 0; omega⟩) hS (fun q _ h => hFc q h) hFc (fun r_671 u t H1 locs ht hvm hw hB hz1 hk1 hS => ?_)
                    obtain ⟨F_672, hB1⟩ := hB
                    obtain rfl : F_539 = F_672 := (funext (fun a => hB1.2.2.2 a List.not_mem_nil)).symm
                    obtain ⟨hP, hD, hO, hR⟩ := QTm.back hB1 ht hFc hR (fun q h => absurd h List.not_mem_nil)
                    generalize H1 = H at hP hS ⊢
                    have hw : (r_671 = 0 ∨ (r_671 = 1 ∧ 0 < kend ∧ kend ≤ 0 + 60)) := hw
                    have hw_673 := hw
                    refine lv_if_ne (tgt := 118) hx hb dX15_entry_113 (by decide) (fun c_674 => ?_) (fun c_674 => ?_)
                    ·
                      refine W.widen (k := 0) (n := 0) (by omega) (by omega) ?_
                      exact jn_543 () F_539 (⟨by have h9 := bit1 hw_673 c_674; omega, fun h => absurd h (by rw [c_670]; decide), hb2⟩) hO hR _ _ hP hD hS ls (lv_sub hl [0, 1, 2, 3, 4, 5, 6] rfl)
                    ·
                      refine lv_iconst (v := (-1)) hx hb dX15_entry_116 (by decide) ?_
                      refine W.widen (k := 0) (n := 0) (by omega) (by omega) ?_
                      exact W.iret (v := (-1)) hx hb hr (fun t ht hWm => ⟨⟨(-1), (), rfl, trivial, ⟨F_539, ty, hty, QTm.mk ht hP hD hO hR, hW⟩⟩, hS.F ht⟩) hS.2.2 dX15_entry_117
                  ·
                    refine lv_iload hx hb dX15_entry_97 (lv_at hl 2 rfl) ?_
                    refine lv_iload_n hx hb dX15_entry_99 rfl (lv_at hl 3 rfl) ?_
                    refine lv_icmp_eq (tgt := 116) hx hb dX15_entry_100 (by decide) (fun c_675 => ?_) (fun c_675 => ?_)
                    ·
                      have hi_676 : kb = zt := (nI_eq (a := kb) (b := zt) (by omega) (by omega)).mp c_675
                      refine lv_iconst (v := (-1)) hx hb dX15_entry_116 (by decide) ?_
                      refine W.widen (k := 0) (n := 0) (by omega) (by omega) ?_
                      exact W.iret (v := (-1)) hx hb hr (fun t ht hWm => ⟨⟨(-1), (), rfl, trivial, ⟨F_539, ty, hty, QTm.mk ht hP hD hO hR, hW⟩⟩, hS.F ht⟩) hS.2.2 dX15_entry_117
                    ·
                      have hi_677 : kb ≠ zt := fun q => c_675 (by rw [q])
                      refine lv_aload_n hx hb dX15_entry_103 rfl (lv_at hl 4 rfl) ?_
                      refine pg_get (ci := 15) (v := .ref ta) (C := RX15) (T := TX15) (N := 59) hx hb hts it_15 hown hK hP hL_h0 hb2 rfl 0 (by decide) (hts _ kt_1075) (fun _ h9 => h9) rfl dX15_entry_104 ?_
                      refine lv_iconst (v := 0) hx hb dX15_entry_107 (by decide) ?_
                      refine lv_iload hx hb dX15_entry_108 (lv_at hl 0 rfl) ?_
                      refine W.eq (g2 := F0 m 110 ls [.int (nI kend), .int (nI 0), .ref ta]) rfl ?_
                      have hFc := pg_free hD hS hA
                      refine va_calli (va_runS (As := [.ref ta, .int (nI 0), .int (nI kend)]) (rest := []) ⟨hx, hb, hml, hown, hts⟩ (s_X14_isName_ l dC dI cs ty gm L H.size F_539 ta (ρ + 1) 3000 0 kend hW hi_130 ht_131 (by first | omega | assumption) (by first | omega | assumption)) ⟨callB_of 3 hts (gi kt_689) rfl rfl rfl (hts _ kt_676) (hts _ kt_863) (by decide +kernel) ⟨Nat.le_of_ble_eq_true rfl, Nat.le_of_ble_eq_true rfl⟩, (hts _ kt_691)⟩ ⟨fun a U g mk q => ⟨q.1, PTm.calling q.2⟩, fun U hU hWm => ⟨rfl, PTm.mk hU hWm hP hK hD hE hO⟩⟩ rfl rfl hl.1 rfl (lv_room (Nat.le_of_ble_eq_true rfl)) dX15_entry_110 ⟨by show _ + 0 ≤ 0; omega, by show _ + 0 ≤ 0; omega⟩) hS (fun q _ h => hFc q h) hFc (fun r_678 u t H1 locs ht hvm hw hB hz1 hk1 hS => ?_)
                      obtain ⟨F_679, hB1⟩ := hB
                      obtain rfl : F_539 = F_679 := (funext (fun a => hB1.2.2.2 a List.not_mem_nil)).symm
                      obtain ⟨hP, hD, hO, hR⟩ := QTm.back hB1 ht hFc hR (fun q h => absurd h List.not_mem_nil)
                      generalize H1 = H at hP hS ⊢
                      have hw : (r_678 = 0 ∨ (r_678 = 1 ∧ 0 < kend ∧ kend ≤ 0 + 60)) := hw
                      have hw_680 := hw
                      refine lv_if_ne (tgt := 118) hx hb dX15_entry_113 (by decide) (fun c_681 => ?_) (fun c_681 => ?_)
                      ·
                        refine W.widen (k := 0) (n := 0) (by omega) (by omega) ?_
                        exact jn_543 () F_539 (⟨by have h9 := bit1 hw_680 c_681; omega, fun _ => by omega, hb2⟩) hO hR _ _ hP hD hS ls (lv_sub hl [0, 1, 2, 3, 4, 5, 6] rfl)
                      ·
                        refine lv_iconst (v := (-1)) hx hb dX15_entry_116 (by decide) ?_
                        refine W.widen (k := 0) (n := 0) (by omega) (by omega) ?_
                        exact W.iret (v := (-1)) hx hb hr (fun t ht hWm => ⟨⟨(-1), (), rfl, trivial, ⟨F_539, ty, hty, QTm.mk ht hP hD hO hR, hW⟩⟩, hS.F ht⟩) hS.2.2 dX15_entry_117
              ·
                refine lv_iload hx hb dX15_entry_79 (lv_at hl 0 rfl) ?_
                refine lv_if_eq (tgt := 89) hx hb dX15_entry_81 (by decide) (fun c_682 => ?_) (fun c_682 => ?_)
                ·
                  refine lv_iload_n hx hb dX15_entry_89 rfl (lv_at hl 2 rfl) ?_
                  refine W.widen (k := 0) (n := 0) (by omega) (by omega) ?_
                  exact jn_538 ((nI zt), (nI j)) F_244 (⟨⟨zt, by omega, rfl⟩, ⟨j, by omega, rfl⟩, ha2⟩) hO hR _ _ hP hD hS ls (lv_sub hl [0, 1, 2, 3, 4, 5] rfl)
                ·
                  refine lv_iload hx hb dX15_entry_84 (lv_at hl 1 rfl) ?_
                  refine lv_goto (tgt := 90) hx hb dX15_entry_86 (by decide) ?_
                  refine W.widen (k := 0) (n := 0) (by omega) (by omega) ?_
                  exact jn_538 ((nI j), (nI j)) F_244 (⟨⟨j, by omega, rfl⟩, ⟨j, by omega, rfl⟩, ha2⟩) hO hR _ _ hP hD hS ls (lv_sub hl [0, 1, 2, 3, 4, 5] rfl)
            ·
              refine lv_iinc (v := (nI (j + 1))) (lv' := [(4, .int (nI (j + 1))), (5, .int s5), (3, .int (nI zt)), (0, .ref h0), (1, .int x1), (2, .int x2)]) hx hb dX15_entry_73 hl (k := 1) rfl (nI_1 _) (by decide) rfl (fun ls hl => ?_)
              refine lv_goto (tgt := 50) hx hb dX15_entry_76 (by decide) ?_
              refine W.widen (k := 0) (n := 0) (by omega) (by omega) ?_
              exact ih_246 (j + 1) F_244 (⟨by omega, ha2⟩) (by show zt - (j + 1) < zt - j; omega) hO hR _ _ hP hD hS ls (lv_sub hl [1, 0, 2, 3, 4, 5] rfl)
      ·
        refine lv_iload_n hx hb dX15_entry_34 rfl (lv_at hl 3 rfl) ?_
        refine lv_if_eq (tgt := 43) hx hb dX15_entry_35 (by decide) (fun c_683 => ?_) (fun c_683 => ?_)
        ·
          refine lv_iconst (v := 1) hx hb dX15_entry_43 (by decide) ?_
          refine lv_goto (tgt := 48) hx hb dX15_entry_44 (by decide) ?_
          refine W.widen (k := 0) (n := 0) (by omega) (by omega) ?_
          exact jn_241 1 F_128 (⟨Or.inr rfl, fun _ => Or.inl c_683, fun _ => rfl, hq_129⟩) hO hR _ _ hP hD hS ls (lv_sub hl [0, 1, 2, 3, 4] rfl)
        ·
          refine lv_iload_n hx hb dX15_entry_38 rfl (lv_at hl 3 rfl) ?_
          refine lv_iconst (v := 2) hx hb dX15_entry_39 (by decide) ?_
          refine lv_icmp_ne (tgt := 47) hx hb dX15_entry_40 (by decide) (fun c_684 => ?_) (fun c_684 => ?_)
          ·
            refine lv_iconst (v := 0) hx hb dX15_entry_47 (by decide) ?_
            refine W.widen (k := 0) (n := 0) (by omega) (by omega) ?_
            exact jn_241 0 F_128 (⟨Or.inl rfl, fun h => absurd h (by decide), fun h => absurd h c_683, hq_129⟩) hO hR _ _ hP hD hS ls (lv_sub hl [0, 1, 2, 3, 4] rfl)
          ·
            refine lv_iconst (v := 1) hx hb dX15_entry_43 (by decide) ?_
            refine lv_goto (tgt := 48) hx hb dX15_entry_44 (by decide) ?_
            refine W.widen (k := 0) (n := 0) (by omega) (by omega) ?_
            exact jn_241 1 F_128 (⟨Or.inr rfl, fun _ => Or.inr c_684, fun _ => rfl, hq_129⟩) hO hR _ _ hP hD hS ls (lv_sub hl [0, 1, 2, 3, 4] rfl)
    ·
      refine lv_iconst (v := (-1)) hx hb dX15_entry_32 (by decide) ?_
      refine W.widen (k := 0) (n := 0) (by omega) (by omega) ?_
      exact W.iret (v := (-1)) hx hb hr (fun t ht hWm => ⟨⟨(-1), (), rfl, trivial, ⟨F_128, ty, hty, QTm.mk ht hP hD hO hR, hW⟩⟩, hS.F ht⟩) hS.2.2 dX15_entry_33
  ·
    have hi_685 : ze_107 = 40 := (nI_eq (a := ze_107) (b := 40) (by omega) (by omega)).mp c_235
    refine lv_bipush (v := (-3)) hx hb dX15_entry_17 (by decide) ?_
    refine W.widen (k := 0) (n := 0) (by omega) (by omega) ?_
    exact W.iret (v := (-3)) hx hb hr (fun t ht hWm => ⟨⟨(-3), (), rfl, trivial, ⟨F_128, ty, hty, QTm.mk ht hP hD hO hR, hW⟩⟩, hS.F ht⟩) hS.2.2 dX15_entry_19
