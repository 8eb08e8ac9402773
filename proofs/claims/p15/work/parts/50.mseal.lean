theorem dX15_base_0 : decode cX15_base 0 = .ok (.aload_n 0, 1) := by decide +kernel
theorem dX15_base_1 : decode cX15_base 1 = .ok (.aload_n 1, 1) := by decide +kernel
theorem dX15_base_2 : decode cX15_base 2 = .ok (.invokevirtual 399, 3) := by decide +kernel
theorem dX15_base_5 : decode cX15_base 5 = .ok (.istore 4, 2) := by decide +kernel
theorem dX15_base_7 : decode cX15_base 7 = .ok (.iload 4, 2) := by decide +kernel
theorem dX15_base_9 : decode cX15_base 9 = .ok (.ifCond .ge 5, 3) := by decide +kernel
theorem dX15_base_12 : decode cX15_base 12 = .ok (.iconst 0, 1) := by decide +kernel
theorem dX15_base_13 : decode cX15_base 13 = .ok (.ireturn, 1) := by decide +kernel
theorem dX15_base_14 : decode cX15_base 14 = .ok (.aload_n 0, 1) := by decide +kernel
theorem dX15_base_15 : decode cX15_base 15 = .ok (.getfield 403, 3) := by decide +kernel
theorem dX15_base_18 : decode cX15_base 18 = .ok (.iload 4, 2) := by decide +kernel
theorem dX15_base_20 : decode cX15_base 20 = .ok (.iaload, 1) := by decide +kernel
theorem dX15_base_21 : decode cX15_base 21 = .ok (.iconst 1, 1) := by decide +kernel
theorem dX15_base_22 : decode cX15_base 22 = .ok (.iadd, 1) := by decide +kernel
theorem dX15_base_23 : decode cX15_base 23 = .ok (.istore 5, 2) := by decide +kernel
theorem dX15_base_25 : decode cX15_base 25 = .ok (.bipush 8, 2) := by decide +kernel
theorem dX15_base_27 : decode cX15_base 27 = .ok (.iload_n 2, 1) := by decide +kernel
theorem dX15_base_28 : decode cX15_base 28 = .ok (.imul, 1) := by decide +kernel
theorem dX15_base_29 : decode cX15_base 29 = .ok (.iconst 5, 1) := by decide +kernel
theorem dX15_base_30 : decode cX15_base 30 = .ok (.iadd, 1) := by decide +kernel
theorem dX15_base_31 : decode cX15_base 31 = .ok (.bipush 6, 2) := by decide +kernel
theorem dX15_base_33 : decode cX15_base 33 = .ok (.idiv, 1) := by decide +kernel
theorem dX15_base_34 : decode cX15_base 34 = .ok (.istore 6, 2) := by decide +kernel
theorem dX15_base_36 : decode cX15_base 36 = .ok (.iload 6, 2) := by decide +kernel
theorem dX15_base_38 : decode cX15_base 38 = .ok (.iconst 3, 1) := by decide +kernel
theorem dX15_base_39 : decode cX15_base 39 = .ok (.iadd, 1) := by decide +kernel
theorem dX15_base_40 : decode cX15_base 40 = .ok (.iconst 4, 1) := by decide +kernel
theorem dX15_base_41 : decode cX15_base 41 = .ok (.idiv, 1) := by decide +kernel
theorem dX15_base_42 : decode cX15_base 42 = .ok (.iconst 4, 1) := by decide +kernel
theorem dX15_base_43 : decode cX15_base 43 = .ok (.imul, 1) := by decide +kernel
theorem dX15_base_44 : decode cX15_base 44 = .ok (.istore 7, 2) := by decide +kernel
theorem dX15_base_46 : decode cX15_base 46 = .ok (.aload_n 0, 1) := by decide +kernel
theorem dX15_base_47 : decode cX15_base 47 = .ok (.getfield 406, 3) := by decide +kernel
theorem dX15_base_50 : decode cX15_base 50 = .ok (.iload 4, 2) := by decide +kernel
theorem dX15_base_52 : decode cX15_base 52 = .ok (.iaload, 1) := by decide +kernel
theorem dX15_base_53 : decode cX15_base 53 = .ok (.iload 5, 2) := by decide +kernel
theorem dX15_base_55 : decode cX15_base 55 = .ok (.isub, 1) := by decide +kernel
theorem dX15_base_56 : decode cX15_base 56 = .ok (.iload 7, 2) := by decide +kernel
theorem dX15_base_58 : decode cX15_base 58 = .ok (.if_icmp .eq 5, 3) := by decide +kernel
theorem dX15_base_61 : decode cX15_base 61 = .ok (.iconst 0, 1) := by decide +kernel
theorem dX15_base_62 : decode cX15_base 62 = .ok (.ireturn, 1) := by decide +kernel
theorem dX15_base_63 : decode cX15_base 63 = .ok (.lconst 0, 1) := by decide +kernel
theorem dX15_base_64 : decode cX15_base 64 = .ok (.lstore 8, 2) := by decide +kernel
theorem dX15_base_66 : decode cX15_base 66 = .ok (.iconst 0, 1) := by decide +kernel
theorem dX15_base_67 : decode cX15_base 67 = .ok (.istore 10, 2) := by decide +kernel
theorem dX15_base_69 : decode cX15_base 69 = .ok (.iconst 0, 1) := by decide +kernel
theorem dX15_base_70 : decode cX15_base 70 = .ok (.istore 11, 2) := by decide +kernel
theorem dX15_base_72 : decode cX15_base 72 = .ok (.iconst 0, 1) := by decide +kernel
theorem dX15_base_73 : decode cX15_base 73 = .ok (.istore 12, 2) := by decide +kernel
theorem dX15_base_75 : decode cX15_base 75 = .ok (.iload 12, 2) := by decide +kernel
theorem dX15_base_77 : decode cX15_base 77 = .ok (.iload 6, 2) := by decide +kernel
theorem dX15_base_79 : decode cX15_base 79 = .ok (.if_icmp .ge 87, 3) := by decide +kernel
theorem dX15_base_82 : decode cX15_base 82 = .ok (.aload_n 0, 1) := by decide +kernel
theorem dX15_base_83 : decode cX15_base 83 = .ok (.getfield 409, 3) := by decide +kernel
theorem dX15_base_86 : decode cX15_base 86 = .ok (.getfield 295, 3) := by decide +kernel
theorem dX15_base_89 : decode cX15_base 89 = .ok (.iload 5, 2) := by decide +kernel
theorem dX15_base_91 : decode cX15_base 91 = .ok (.iload 12, 2) := by decide +kernel
theorem dX15_base_93 : decode cX15_base 93 = .ok (.iadd, 1) := by decide +kernel
theorem dX15_base_94 : decode cX15_base 94 = .ok (.baload, 1) := by decide +kernel
theorem dX15_base_95 : decode cX15_base 95 = .ok (.invokestatic 412, 3) := by decide +kernel
theorem dX15_base_98 : decode cX15_base 98 = .ok (.istore 13, 2) := by decide +kernel
theorem dX15_base_100 : decode cX15_base 100 = .ok (.iload 13, 2) := by decide +kernel
theorem dX15_base_102 : decode cX15_base 102 = .ok (.ifCond .ge 5, 3) := by decide +kernel
theorem dX15_base_105 : decode cX15_base 105 = .ok (.iconst 0, 1) := by decide +kernel
theorem dX15_base_106 : decode cX15_base 106 = .ok (.ireturn, 1) := by decide +kernel
theorem dX15_base_107 : decode cX15_base 107 = .ok (.lload 8, 2) := by decide +kernel
theorem dX15_base_109 : decode cX15_base 109 = .ok (.bipush 6, 2) := by decide +kernel
theorem dX15_base_111 : decode cX15_base 111 = .ok (.lshl, 1) := by decide +kernel
theorem dX15_base_112 : decode cX15_base 112 = .ok (.iload 13, 2) := by decide +kernel
theorem dX15_base_114 : decode cX15_base 114 = .ok (.i2l, 1) := by decide +kernel
theorem dX15_base_115 : decode cX15_base 115 = .ok (.lor, 1) := by decide +kernel
theorem dX15_base_116 : decode cX15_base 116 = .ok (.lstore 8, 2) := by decide +kernel
theorem dX15_base_118 : decode cX15_base 118 = .ok (.iinc 10 6, 3) := by decide +kernel
theorem dX15_base_121 : decode cX15_base 121 = .ok (.iload 10, 2) := by decide +kernel
theorem dX15_base_123 : decode cX15_base 123 = .ok (.bipush 8, 2) := by decide +kernel
theorem dX15_base_125 : decode cX15_base 125 = .ok (.if_icmp .ge 6, 3) := by decide +kernel
theorem dX15_base_128 : decode cX15_base 128 = .ok (.goto 32, 3) := by decide +kernel
theorem dX15_base_131 : decode cX15_base 131 = .ok (.iinc 10 (-8), 3) := by decide +kernel
theorem dX15_base_134 : decode cX15_base 134 = .ok (.aload_n 3, 1) := by decide +kernel
theorem dX15_base_135 : decode cX15_base 135 = .ok (.iload 11, 2) := by decide +kernel
theorem dX15_base_137 : decode cX15_base 137 = .ok (.lload 8, 2) := by decide +kernel
theorem dX15_base_139 : decode cX15_base 139 = .ok (.iload 10, 2) := by decide +kernel
theorem dX15_base_141 : decode cX15_base 141 = .ok (.lshr, 1) := by decide +kernel
theorem dX15_base_142 : decode cX15_base 142 = .ok (.l2i, 1) := by decide +kernel
theorem dX15_base_143 : decode cX15_base 143 = .ok (.i2b, 1) := by decide +kernel
theorem dX15_base_144 : decode cX15_base 144 = .ok (.bastore, 1) := by decide +kernel
theorem dX15_base_145 : decode cX15_base 145 = .ok (.iinc 11 1, 3) := by decide +kernel
theorem dX15_base_148 : decode cX15_base 148 = .ok (.lload 8, 2) := by decide +kernel
theorem dX15_base_150 : decode cX15_base 150 = .ok (.iconst 1, 1) := by decide +kernel
theorem dX15_base_151 : decode cX15_base 151 = .ok (.iload 10, 2) := by decide +kernel
theorem dX15_base_153 : decode cX15_base 153 = .ok (.ishl, 1) := by decide +kernel
theorem dX15_base_154 : decode cX15_base 154 = .ok (.iconst 1, 1) := by decide +kernel
theorem dX15_base_155 : decode cX15_base 155 = .ok (.isub, 1) := by decide +kernel
theorem dX15_base_156 : decode cX15_base 156 = .ok (.i2l, 1) := by decide +kernel
theorem dX15_base_157 : decode cX15_base 157 = .ok (.land, 1) := by decide +kernel
theorem dX15_base_158 : decode cX15_base 158 = .ok (.lstore 8, 2) := by decide +kernel
theorem dX15_base_160 : decode cX15_base 160 = .ok (.iinc 12 1, 3) := by decide +kernel
theorem dX15_base_163 : decode cX15_base 163 = .ok (.goto (-88), 3) := by decide +kernel
theorem dX15_base_166 : decode cX15_base 166 = .ok (.iload 6, 2) := by decide +kernel
theorem dX15_base_168 : decode cX15_base 168 = .ok (.istore 12, 2) := by decide +kernel
theorem dX15_base_170 : decode cX15_base 170 = .ok (.iload 12, 2) := by decide +kernel
theorem dX15_base_172 : decode cX15_base 172 = .ok (.iload 7, 2) := by decide +kernel
theorem dX15_base_174 : decode cX15_base 174 = .ok (.if_icmp .ge 29, 3) := by decide +kernel
theorem dX15_base_177 : decode cX15_base 177 = .ok (.aload_n 0, 1) := by decide +kernel
theorem dX15_base_178 : decode cX15_base 178 = .ok (.getfield 409, 3) := by decide +kernel
theorem dX15_base_181 : decode cX15_base 181 = .ok (.getfield 295, 3) := by decide +kernel
theorem dX15_base_184 : decode cX15_base 184 = .ok (.iload 5, 2) := by decide +kernel
theorem dX15_base_186 : decode cX15_base 186 = .ok (.iload 12, 2) := by decide +kernel
theorem dX15_base_188 : decode cX15_base 188 = .ok (.iadd, 1) := by decide +kernel
theorem dX15_base_189 : decode cX15_base 189 = .ok (.baload, 1) := by decide +kernel
theorem dX15_base_190 : decode cX15_base 190 = .ok (.bipush 61, 2) := by decide +kernel
theorem dX15_base_192 : decode cX15_base 192 = .ok (.if_icmp .eq 5, 3) := by decide +kernel
theorem dX15_base_195 : decode cX15_base 195 = .ok (.iconst 0, 1) := by decide +kernel
theorem dX15_base_196 : decode cX15_base 196 = .ok (.ireturn, 1) := by decide +kernel
theorem dX15_base_197 : decode cX15_base 197 = .ok (.iinc 12 1, 3) := by decide +kernel
theorem dX15_base_200 : decode cX15_base 200 = .ok (.goto (-30), 3) := by decide +kernel
theorem dX15_base_203 : decode cX15_base 203 = .ok (.lload 8, 2) := by decide +kernel
theorem dX15_base_205 : decode cX15_base 205 = .ok (.lconst 0, 1) := by decide +kernel
theorem dX15_base_206 : decode cX15_base 206 = .ok (.lcmp, 1) := by decide +kernel
theorem dX15_base_207 : decode cX15_base 207 = .ok (.ifCond .ne 7, 3) := by decide +kernel
theorem dX15_base_210 : decode cX15_base 210 = .ok (.iconst 1, 1) := by decide +kernel
theorem dX15_base_211 : decode cX15_base 211 = .ok (.goto 4, 3) := by decide +kernel
theorem dX15_base_214 : decode cX15_base 214 = .ok (.iconst 0, 1) := by decide +kernel
theorem dX15_base_215 : decode cX15_base 215 = .ok (.ireturn, 1) := by decide +kernel
theorem dX15_isAll_0 : decode cX15_isAll 0 = .ok (.iconst 1, 1) := by decide +kernel
theorem dX15_isAll_1 : decode cX15_isAll 1 = .ok (.istore_n 2, 1) := by decide +kernel
theorem dX15_isAll_2 : decode cX15_isAll 2 = .ok (.iconst 0, 1) := by decide +kernel
theorem dX15_isAll_3 : decode cX15_isAll 3 = .ok (.istore_n 3, 1) := by decide +kernel
theorem dX15_isAll_4 : decode cX15_isAll 4 = .ok (.iload_n 3, 1) := by decide +kernel
theorem dX15_isAll_5 : decode cX15_isAll 5 = .ok (.bipush 32, 2) := by decide +kernel
theorem dX15_isAll_7 : decode cX15_isAll 7 = .ok (.if_icmp .ge 26, 3) := by decide +kernel
theorem dX15_isAll_10 : decode cX15_isAll 10 = .ok (.iload_n 2, 1) := by decide +kernel
theorem dX15_isAll_11 : decode cX15_isAll 11 = .ok (.aload_n 0, 1) := by decide +kernel
theorem dX15_isAll_12 : decode cX15_isAll 12 = .ok (.iload_n 3, 1) := by decide +kernel
theorem dX15_isAll_13 : decode cX15_isAll 13 = .ok (.baload, 1) := by decide +kernel
theorem dX15_isAll_14 : decode cX15_isAll 14 = .ok (.aload_n 1, 1) := by decide +kernel
theorem dX15_isAll_15 : decode cX15_isAll 15 = .ok (.iload_n 3, 1) := by decide +kernel
theorem dX15_isAll_16 : decode cX15_isAll 16 = .ok (.baload, 1) := by decide +kernel
theorem dX15_isAll_17 : decode cX15_isAll 17 = .ok (.if_icmp .ne 7, 3) := by decide +kernel
theorem dX15_isAll_20 : decode cX15_isAll 20 = .ok (.iconst 1, 1) := by decide +kernel
theorem dX15_isAll_21 : decode cX15_isAll 21 = .ok (.goto 4, 3) := by decide +kernel
theorem dX15_isAll_24 : decode cX15_isAll 24 = .ok (.iconst 0, 1) := by decide +kernel
theorem dX15_isAll_25 : decode cX15_isAll 25 = .ok (.iand, 1) := by decide +kernel
theorem dX15_isAll_26 : decode cX15_isAll 26 = .ok (.istore_n 2, 1) := by decide +kernel
theorem dX15_isAll_27 : decode cX15_isAll 27 = .ok (.iinc 3 1, 3) := by decide +kernel
theorem dX15_isAll_30 : decode cX15_isAll 30 = .ok (.goto (-26), 3) := by decide +kernel
theorem dX15_isAll_33 : decode cX15_isAll 33 = .ok (.iload_n 2, 1) := by decide +kernel
theorem dX15_isAll_34 : decode cX15_isAll 34 = .ok (.ireturn, 1) := by decide +kernel
theorem dX15_isNames_0 : decode cX15_isNames 0 = .ok (.aload_n 0, 1) := by decide +kernel
theorem dX15_isNames_1 : decode cX15_isNames 1 = .ok (.getfield 97, 3) := by decide +kernel
theorem dX15_isNames_4 : decode cX15_isNames 4 = .ok (.ldc_w 486, 3) := by decide +kernel
theorem dX15_isNames_7 : decode cX15_isNames 7 = .ok (.invokevirtual 399, 3) := by decide +kernel
theorem dX15_isNames_10 : decode cX15_isNames 10 = .ok (.istore_n 1, 1) := by decide +kernel
theorem dX15_isNames_11 : decode cX15_isNames 11 = .ok (.aload_n 0, 1) := by decide +kernel
theorem dX15_isNames_12 : decode cX15_isNames 12 = .ok (.iconst 0, 1) := by decide +kernel
theorem dX15_isNames_13 : decode cX15_isNames 13 = .ok (.putfield 483, 3) := by decide +kernel
theorem dX15_isNames_16 : decode cX15_isNames 16 = .ok (.iload_n 1, 1) := by decide +kernel
theorem dX15_isNames_17 : decode cX15_isNames 17 = .ok (.ifCond .ge 5, 3) := by decide +kernel
theorem dX15_isNames_20 : decode cX15_isNames 20 = .ok (.iconst 0, 1) := by decide +kernel
theorem dX15_isNames_21 : decode cX15_isNames 21 = .ok (.ireturn, 1) := by decide +kernel
theorem dX15_isNames_22 : decode cX15_isNames 22 = .ok (.aload_n 0, 1) := by decide +kernel
theorem dX15_isNames_23 : decode cX15_isNames 23 = .ok (.getfield 97, 3) := by decide +kernel
theorem dX15_isNames_26 : decode cX15_isNames 26 = .ok (.getfield 409, 3) := by decide +kernel
theorem dX15_isNames_29 : decode cX15_isNames 29 = .ok (.getfield 295, 3) := by decide +kernel
theorem dX15_isNames_32 : decode cX15_isNames 32 = .ok (.astore_n 2, 1) := by decide +kernel
theorem dX15_isNames_33 : decode cX15_isNames 33 = .ok (.aload_n 0, 1) := by decide +kernel
theorem dX15_isNames_34 : decode cX15_isNames 34 = .ok (.getfield 97, 3) := by decide +kernel
theorem dX15_isNames_37 : decode cX15_isNames 37 = .ok (.getfield 403, 3) := by decide +kernel
theorem dX15_isNames_40 : decode cX15_isNames 40 = .ok (.iload_n 1, 1) := by decide +kernel
theorem dX15_isNames_41 : decode cX15_isNames 41 = .ok (.iaload, 1) := by decide +kernel
theorem dX15_isNames_42 : decode cX15_isNames 42 = .ok (.iconst 1, 1) := by decide +kernel
theorem dX15_isNames_43 : decode cX15_isNames 43 = .ok (.iadd, 1) := by decide +kernel
theorem dX15_isNames_44 : decode cX15_isNames 44 = .ok (.istore_n 3, 1) := by decide +kernel
theorem dX15_isNames_45 : decode cX15_isNames 45 = .ok (.iload_n 3, 1) := by decide +kernel
theorem dX15_isNames_46 : decode cX15_isNames 46 = .ok (.aload_n 0, 1) := by decide +kernel
theorem dX15_isNames_47 : decode cX15_isNames 47 = .ok (.getfield 97, 3) := by decide +kernel
theorem dX15_isNames_50 : decode cX15_isNames 50 = .ok (.getfield 406, 3) := by decide +kernel
theorem dX15_isNames_53 : decode cX15_isNames 53 = .ok (.iload_n 1, 1) := by decide +kernel
theorem dX15_isNames_54 : decode cX15_isNames 54 = .ok (.iaload, 1) := by decide +kernel
theorem dX15_isNames_55 : decode cX15_isNames 55 = .ok (.if_icmp .gt 110, 3) := by decide +kernel
theorem dX15_isNames_58 : decode cX15_isNames 58 = .ok (.iload_n 3, 1) := by decide +kernel
theorem dX15_isNames_59 : decode cX15_isNames 59 = .ok (.istore 4, 2) := by decide +kernel
theorem dX15_isNames_61 : decode cX15_isNames 61 = .ok (.iload 4, 2) := by decide +kernel
theorem dX15_isNames_63 : decode cX15_isNames 63 = .ok (.aload_n 0, 1) := by decide +kernel
theorem dX15_isNames_64 : decode cX15_isNames 64 = .ok (.getfield 97, 3) := by decide +kernel
theorem dX15_isNames_67 : decode cX15_isNames 67 = .ok (.getfield 406, 3) := by decide +kernel
theorem dX15_isNames_70 : decode cX15_isNames 70 = .ok (.iload_n 1, 1) := by decide +kernel
theorem dX15_isNames_71 : decode cX15_isNames 71 = .ok (.iaload, 1) := by decide +kernel
theorem dX15_isNames_72 : decode cX15_isNames 72 = .ok (.if_icmp .ge 49, 3) := by decide +kernel
theorem dX15_isNames_75 : decode cX15_isNames 75 = .ok (.aload_n 2, 1) := by decide +kernel
theorem dX15_isNames_76 : decode cX15_isNames 76 = .ok (.iload 4, 2) := by decide +kernel
theorem dX15_isNames_78 : decode cX15_isNames 78 = .ok (.baload, 1) := by decide +kernel
theorem dX15_isNames_79 : decode cX15_isNames 79 = .ok (.bipush 58, 2) := by decide +kernel
theorem dX15_isNames_81 : decode cX15_isNames 81 = .ok (.if_icmp .eq 40, 3) := by decide +kernel
theorem dX15_isNames_84 : decode cX15_isNames 84 = .ok (.aload_n 2, 1) := by decide +kernel
theorem dX15_isNames_85 : decode cX15_isNames 85 = .ok (.iload 4, 2) := by decide +kernel
theorem dX15_isNames_87 : decode cX15_isNames 87 = .ok (.baload, 1) := by decide +kernel
theorem dX15_isNames_88 : decode cX15_isNames 88 = .ok (.invokestatic 350, 3) := by decide +kernel
theorem dX15_isNames_91 : decode cX15_isNames 91 = .ok (.ifCond .ne 24, 3) := by decide +kernel
theorem dX15_isNames_94 : decode cX15_isNames 94 = .ok (.aload_n 2, 1) := by decide +kernel
theorem dX15_isNames_95 : decode cX15_isNames 95 = .ok (.iload 4, 2) := by decide +kernel
theorem dX15_isNames_97 : decode cX15_isNames 97 = .ok (.baload, 1) := by decide +kernel
theorem dX15_isNames_98 : decode cX15_isNames 98 = .ok (.invokestatic 202, 3) := by decide +kernel
theorem dX15_isNames_101 : decode cX15_isNames 101 = .ok (.ifCond .ne 14, 3) := by decide +kernel
theorem dX15_isNames_104 : decode cX15_isNames 104 = .ok (.aload_n 2, 1) := by decide +kernel
theorem dX15_isNames_105 : decode cX15_isNames 105 = .ok (.iload 4, 2) := by decide +kernel
theorem dX15_isNames_107 : decode cX15_isNames 107 = .ok (.baload, 1) := by decide +kernel
theorem dX15_isNames_108 : decode cX15_isNames 108 = .ok (.bipush 45, 2) := by decide +kernel
theorem dX15_isNames_110 : decode cX15_isNames 110 = .ok (.if_icmp .eq 5, 3) := by decide +kernel
theorem dX15_isNames_113 : decode cX15_isNames 113 = .ok (.iconst 0, 1) := by decide +kernel
theorem dX15_isNames_114 : decode cX15_isNames 114 = .ok (.ireturn, 1) := by decide +kernel
theorem dX15_isNames_115 : decode cX15_isNames 115 = .ok (.iinc 4 1, 3) := by decide +kernel
theorem dX15_isNames_118 : decode cX15_isNames 118 = .ok (.goto (-57), 3) := by decide +kernel
theorem dX15_isNames_121 : decode cX15_isNames 121 = .ok (.iload 4, 2) := by decide +kernel
theorem dX15_isNames_123 : decode cX15_isNames 123 = .ok (.iload_n 3, 1) := by decide +kernel
theorem dX15_isNames_124 : decode cX15_isNames 124 = .ok (.isub, 1) := by decide +kernel
theorem dX15_isNames_125 : decode cX15_isNames 125 = .ok (.i2l, 1) := by decide +kernel
theorem dX15_isNames_126 : decode cX15_isNames 126 = .ok (.lconst 1, 1) := by decide +kernel
theorem dX15_isNames_127 : decode cX15_isNames 127 = .ok (.ldc2_w 353, 3) := by decide +kernel
theorem dX15_isNames_130 : decode cX15_isNames 130 = .ok (.invokestatic 170, 3) := by decide +kernel
theorem dX15_isNames_133 : decode cX15_isNames 133 = .ok (.ifCond .ne 5, 3) := by decide +kernel
theorem dX15_isNames_136 : decode cX15_isNames 136 = .ok (.iconst 0, 1) := by decide +kernel
theorem dX15_isNames_137 : decode cX15_isNames 137 = .ok (.ireturn, 1) := by decide +kernel
theorem dX15_isNames_138 : decode cX15_isNames 138 = .ok (.aload_n 0, 1) := by decide +kernel
theorem dX15_isNames_139 : decode cX15_isNames 139 = .ok (.dup, 1) := by decide +kernel
theorem dX15_isNames_140 : decode cX15_isNames 140 = .ok (.getfield 483, 3) := by decide +kernel
theorem dX15_isNames_143 : decode cX15_isNames 143 = .ok (.aload_n 2, 1) := by decide +kernel
theorem dX15_isNames_144 : decode cX15_isNames 144 = .ok (.iload_n 3, 1) := by decide +kernel
theorem dX15_isNames_145 : decode cX15_isNames 145 = .ok (.iload 4, 2) := by decide +kernel
theorem dX15_isNames_147 : decode cX15_isNames 147 = .ok (.ldc_w 488, 3) := by decide +kernel
theorem dX15_isNames_150 : decode cX15_isNames 150 = .ok (.invokestatic 373, 3) := by decide +kernel
theorem dX15_isNames_153 : decode cX15_isNames 153 = .ok (.ior, 1) := by decide +kernel
theorem dX15_isNames_154 : decode cX15_isNames 154 = .ok (.putfield 483, 3) := by decide +kernel
theorem dX15_isNames_157 : decode cX15_isNames 157 = .ok (.iload 4, 2) := by decide +kernel
theorem dX15_isNames_159 : decode cX15_isNames 159 = .ok (.iconst 1, 1) := by decide +kernel
theorem dX15_isNames_160 : decode cX15_isNames 160 = .ok (.iadd, 1) := by decide +kernel
theorem dX15_isNames_161 : decode cX15_isNames 161 = .ok (.istore_n 3, 1) := by decide +kernel
theorem dX15_isNames_162 : decode cX15_isNames 162 = .ok (.goto (-117), 3) := by decide +kernel
theorem dX15_isNames_165 : decode cX15_isNames 165 = .ok (.iconst 1, 1) := by decide +kernel
theorem dX15_isNames_166 : decode cX15_isNames 166 = .ok (.ireturn, 1) := by decide +kernel
theorem dX15_isTagName_0 : decode cX15_isTagName 0 = .ok (.aload_n 0, 1) := by decide +kernel
theorem dX15_isTagName_1 : decode cX15_isTagName 1 = .ok (.getfield 97, 3) := by decide +kernel
theorem dX15_isTagName_4 : decode cX15_isTagName 4 = .ok (.aload_n 1, 1) := by decide +kernel
theorem dX15_isTagName_5 : decode cX15_isTagName 5 = .ok (.invokevirtual 399, 3) := by decide +kernel
theorem dX15_isTagName_8 : decode cX15_isTagName 8 = .ok (.istore_n 2, 1) := by decide +kernel
theorem dX15_isTagName_9 : decode cX15_isTagName 9 = .ok (.iload_n 2, 1) := by decide +kernel
theorem dX15_isTagName_10 : decode cX15_isTagName 10 = .ok (.ifCond .lt 43, 3) := by decide +kernel
theorem dX15_isTagName_13 : decode cX15_isTagName 13 = .ok (.aload_n 0, 1) := by decide +kernel
theorem dX15_isTagName_14 : decode cX15_isTagName 14 = .ok (.getfield 97, 3) := by decide +kernel
theorem dX15_isTagName_17 : decode cX15_isTagName 17 = .ok (.getfield 409, 3) := by decide +kernel
theorem dX15_isTagName_20 : decode cX15_isTagName 20 = .ok (.getfield 295, 3) := by decide +kernel
theorem dX15_isTagName_23 : decode cX15_isTagName 23 = .ok (.aload_n 0, 1) := by decide +kernel
theorem dX15_isTagName_24 : decode cX15_isTagName 24 = .ok (.getfield 97, 3) := by decide +kernel
theorem dX15_isTagName_27 : decode cX15_isTagName 27 = .ok (.getfield 403, 3) := by decide +kernel
theorem dX15_isTagName_30 : decode cX15_isTagName 30 = .ok (.iload_n 2, 1) := by decide +kernel
theorem dX15_isTagName_31 : decode cX15_isTagName 31 = .ok (.iaload, 1) := by decide +kernel
theorem dX15_isTagName_32 : decode cX15_isTagName 32 = .ok (.iconst 1, 1) := by decide +kernel
theorem dX15_isTagName_33 : decode cX15_isTagName 33 = .ok (.iadd, 1) := by decide +kernel
theorem dX15_isTagName_34 : decode cX15_isTagName 34 = .ok (.aload_n 0, 1) := by decide +kernel
theorem dX15_isTagName_35 : decode cX15_isTagName 35 = .ok (.getfield 97, 3) := by decide +kernel
theorem dX15_isTagName_38 : decode cX15_isTagName 38 = .ok (.getfield 406, 3) := by decide +kernel
theorem dX15_isTagName_41 : decode cX15_isTagName 41 = .ok (.iload_n 2, 1) := by decide +kernel
theorem dX15_isTagName_42 : decode cX15_isTagName 42 = .ok (.iaload, 1) := by decide +kernel
theorem dX15_isTagName_43 : decode cX15_isTagName 43 = .ok (.invokestatic 182, 3) := by decide +kernel
theorem dX15_isTagName_46 : decode cX15_isTagName 46 = .ok (.ifCond .eq 7, 3) := by decide +kernel
theorem dX15_isTagName_49 : decode cX15_isTagName 49 = .ok (.iconst 1, 1) := by decide +kernel
theorem dX15_isTagName_50 : decode cX15_isTagName 50 = .ok (.goto 4, 3) := by decide +kernel
theorem dX15_isTagName_53 : decode cX15_isTagName 53 = .ok (.iconst 0, 1) := by decide +kernel
theorem dX15_isTagName_54 : decode cX15_isTagName 54 = .ok (.ireturn, 1) := by decide +kernel
theorem dX15_isWay_0 : decode cX15_isWay 0 = .ok (.aload_n 0, 1) := by decide +kernel
theorem dX15_isWay_1 : decode cX15_isWay 1 = .ok (.getfield 97, 3) := by decide +kernel
theorem dX15_isWay_4 : decode cX15_isWay 4 = .ok (.ldc_w 489, 3) := by decide +kernel
theorem dX15_isWay_7 : decode cX15_isWay 7 = .ok (.invokevirtual 399, 3) := by decide +kernel
theorem dX15_isWay_10 : decode cX15_isWay 10 = .ok (.istore_n 1, 1) := by decide +kernel
theorem dX15_isWay_11 : decode cX15_isWay 11 = .ok (.aload_n 0, 1) := by decide +kernel
theorem dX15_isWay_12 : decode cX15_isWay 12 = .ok (.iconst 0, 1) := by decide +kernel
theorem dX15_isWay_13 : decode cX15_isWay 13 = .ok (.putfield 491, 3) := by decide +kernel
theorem dX15_isWay_16 : decode cX15_isWay 16 = .ok (.aload_n 0, 1) := by decide +kernel
theorem dX15_isWay_17 : decode cX15_isWay 17 = .ok (.iconst 0, 1) := by decide +kernel
theorem dX15_isWay_18 : decode cX15_isWay 18 = .ok (.putfield 494, 3) := by decide +kernel
theorem dX15_isWay_21 : decode cX15_isWay 21 = .ok (.iload_n 1, 1) := by decide +kernel
theorem dX15_isWay_22 : decode cX15_isWay 22 = .ok (.ifCond .ge 5, 3) := by decide +kernel
theorem dX15_isWay_25 : decode cX15_isWay 25 = .ok (.iconst 1, 1) := by decide +kernel
theorem dX15_isWay_26 : decode cX15_isWay 26 = .ok (.ireturn, 1) := by decide +kernel
theorem dX15_isWay_27 : decode cX15_isWay 27 = .ok (.aload_n 0, 1) := by decide +kernel
theorem dX15_isWay_28 : decode cX15_isWay 28 = .ok (.getfield 97, 3) := by decide +kernel
theorem dX15_isWay_31 : decode cX15_isWay 31 = .ok (.getfield 409, 3) := by decide +kernel
theorem dX15_isWay_34 : decode cX15_isWay 34 = .ok (.getfield 295, 3) := by decide +kernel
theorem dX15_isWay_37 : decode cX15_isWay 37 = .ok (.astore_n 2, 1) := by decide +kernel
theorem dX15_isWay_38 : decode cX15_isWay 38 = .ok (.aload_n 0, 1) := by decide +kernel
theorem dX15_isWay_39 : decode cX15_isWay 39 = .ok (.getfield 97, 3) := by decide +kernel
theorem dX15_isWay_42 : decode cX15_isWay 42 = .ok (.getfield 403, 3) := by decide +kernel
theorem dX15_isWay_45 : decode cX15_isWay 45 = .ok (.iload_n 1, 1) := by decide +kernel
theorem dX15_isWay_46 : decode cX15_isWay 46 = .ok (.iaload, 1) := by decide +kernel
theorem dX15_isWay_47 : decode cX15_isWay 47 = .ok (.iconst 1, 1) := by decide +kernel
theorem dX15_isWay_48 : decode cX15_isWay 48 = .ok (.iadd, 1) := by decide +kernel
theorem dX15_isWay_49 : decode cX15_isWay 49 = .ok (.istore_n 3, 1) := by decide +kernel
theorem dX15_isWay_50 : decode cX15_isWay 50 = .ok (.aload_n 2, 1) := by decide +kernel
theorem dX15_isWay_51 : decode cX15_isWay 51 = .ok (.iload_n 3, 1) := by decide +kernel
theorem dX15_isWay_52 : decode cX15_isWay 52 = .ok (.aload_n 0, 1) := by decide +kernel
theorem dX15_isWay_53 : decode cX15_isWay 53 = .ok (.getfield 97, 3) := by decide +kernel
theorem dX15_isWay_56 : decode cX15_isWay 56 = .ok (.getfield 406, 3) := by decide +kernel
theorem dX15_isWay_59 : decode cX15_isWay 59 = .ok (.iload_n 1, 1) := by decide +kernel
theorem dX15_isWay_60 : decode cX15_isWay 60 = .ok (.iaload, 1) := by decide +kernel
theorem dX15_isWay_61 : decode cX15_isWay 61 = .ok (.invokestatic 265, 3) := by decide +kernel
theorem dX15_isWay_64 : decode cX15_isWay 64 = .ok (.istore 4, 2) := by decide +kernel
theorem dX15_isWay_66 : decode cX15_isWay 66 = .ok (.aload_n 0, 1) := by decide +kernel
theorem dX15_isWay_67 : decode cX15_isWay 67 = .ok (.aload_n 2, 1) := by decide +kernel
theorem dX15_isWay_68 : decode cX15_isWay 68 = .ok (.iload_n 3, 1) := by decide +kernel
theorem dX15_isWay_69 : decode cX15_isWay 69 = .ok (.iload 4, 2) := by decide +kernel
theorem dX15_isWay_71 : decode cX15_isWay 71 = .ok (.ldc_w 497, 3) := by decide +kernel
theorem dX15_isWay_74 : decode cX15_isWay 74 = .ok (.invokestatic 17, 3) := by decide +kernel
theorem dX15_isWay_77 : decode cX15_isWay 77 = .ok (.putfield 491, 3) := by decide +kernel
theorem dX15_isWay_80 : decode cX15_isWay 80 = .ok (.aload_n 0, 1) := by decide +kernel
theorem dX15_isWay_81 : decode cX15_isWay 81 = .ok (.getfield 491, 3) := by decide +kernel
theorem dX15_isWay_84 : decode cX15_isWay 84 = .ok (.ifCond .ne 18, 3) := by decide +kernel
theorem dX15_isWay_87 : decode cX15_isWay 87 = .ok (.aload_n 2, 1) := by decide +kernel
theorem dX15_isWay_88 : decode cX15_isWay 88 = .ok (.iload_n 3, 1) := by decide +kernel
theorem dX15_isWay_89 : decode cX15_isWay 89 = .ok (.iload 4, 2) := by decide +kernel
theorem dX15_isWay_91 : decode cX15_isWay 91 = .ok (.ldc_w 499, 3) := by decide +kernel
theorem dX15_isWay_94 : decode cX15_isWay 94 = .ok (.invokestatic 17, 3) := by decide +kernel
theorem dX15_isWay_97 : decode cX15_isWay 97 = .ok (.ifCond .ne 5, 3) := by decide +kernel
theorem dX15_isWay_100 : decode cX15_isWay 100 = .ok (.iconst 0, 1) := by decide +kernel
theorem dX15_isWay_101 : decode cX15_isWay 101 = .ok (.ireturn, 1) := by decide +kernel
theorem dX15_isWay_102 : decode cX15_isWay 102 = .ok (.iload 4, 2) := by decide +kernel
theorem dX15_isWay_104 : decode cX15_isWay 104 = .ok (.aload_n 0, 1) := by decide +kernel
theorem dX15_isWay_105 : decode cX15_isWay 105 = .ok (.getfield 97, 3) := by decide +kernel
theorem dX15_isWay_108 : decode cX15_isWay 108 = .ok (.getfield 406, 3) := by decide +kernel
theorem dX15_isWay_111 : decode cX15_isWay 111 = .ok (.iload_n 1, 1) := by decide +kernel
theorem dX15_isWay_112 : decode cX15_isWay 112 = .ok (.iaload, 1) := by decide +kernel
theorem dX15_isWay_113 : decode cX15_isWay 113 = .ok (.if_icmp .ne 5, 3) := by decide +kernel
theorem dX15_isWay_116 : decode cX15_isWay 116 = .ok (.iconst 1, 1) := by decide +kernel
theorem dX15_isWay_117 : decode cX15_isWay 117 = .ok (.ireturn, 1) := by decide +kernel
theorem dX15_isWay_118 : decode cX15_isWay 118 = .ok (.aload_n 0, 1) := by decide +kernel
theorem dX15_isWay_119 : decode cX15_isWay 119 = .ok (.aload_n 2, 1) := by decide +kernel
theorem dX15_isWay_120 : decode cX15_isWay 120 = .ok (.iload 4, 2) := by decide +kernel
theorem dX15_isWay_122 : decode cX15_isWay 122 = .ok (.iconst 1, 1) := by decide +kernel
theorem dX15_isWay_123 : decode cX15_isWay 123 = .ok (.iadd, 1) := by decide +kernel
theorem dX15_isWay_124 : decode cX15_isWay 124 = .ok (.aload_n 0, 1) := by decide +kernel
theorem dX15_isWay_125 : decode cX15_isWay 125 = .ok (.getfield 97, 3) := by decide +kernel
theorem dX15_isWay_128 : decode cX15_isWay 128 = .ok (.getfield 406, 3) := by decide +kernel
theorem dX15_isWay_131 : decode cX15_isWay 131 = .ok (.iload_n 1, 1) := by decide +kernel
theorem dX15_isWay_132 : decode cX15_isWay 132 = .ok (.iaload, 1) := by decide +kernel
theorem dX15_isWay_133 : decode cX15_isWay 133 = .ok (.ldc_w 497, 3) := by decide +kernel
theorem dX15_isWay_136 : decode cX15_isWay 136 = .ok (.invokestatic 17, 3) := by decide +kernel
theorem dX15_isWay_139 : decode cX15_isWay 139 = .ok (.putfield 494, 3) := by decide +kernel
theorem dX15_isWay_142 : decode cX15_isWay 142 = .ok (.aload_n 0, 1) := by decide +kernel
theorem dX15_isWay_143 : decode cX15_isWay 143 = .ok (.getfield 494, 3) := by decide +kernel
theorem dX15_isWay_146 : decode cX15_isWay 146 = .ok (.ifCond .ne 26, 3) := by decide +kernel
theorem dX15_isWay_149 : decode cX15_isWay 149 = .ok (.aload_n 2, 1) := by decide +kernel
theorem dX15_isWay_150 : decode cX15_isWay 150 = .ok (.iload 4, 2) := by decide +kernel
theorem dX15_isWay_152 : decode cX15_isWay 152 = .ok (.iconst 1, 1) := by decide +kernel
theorem dX15_isWay_153 : decode cX15_isWay 153 = .ok (.iadd, 1) := by decide +kernel
theorem dX15_isWay_154 : decode cX15_isWay 154 = .ok (.aload_n 0, 1) := by decide +kernel
theorem dX15_isWay_155 : decode cX15_isWay 155 = .ok (.getfield 97, 3) := by decide +kernel
theorem dX15_isWay_158 : decode cX15_isWay 158 = .ok (.getfield 406, 3) := by decide +kernel
theorem dX15_isWay_161 : decode cX15_isWay 161 = .ok (.iload_n 1, 1) := by decide +kernel
theorem dX15_isWay_162 : decode cX15_isWay 162 = .ok (.iaload, 1) := by decide +kernel
theorem dX15_isWay_163 : decode cX15_isWay 163 = .ok (.ldc_w 499, 3) := by decide +kernel
theorem dX15_isWay_166 : decode cX15_isWay 166 = .ok (.invokestatic 17, 3) := by decide +kernel
theorem dX15_isWay_169 : decode cX15_isWay 169 = .ok (.ifCond .eq 7, 3) := by decide +kernel
theorem dX15_isWay_172 : decode cX15_isWay 172 = .ok (.iconst 1, 1) := by decide +kernel
theorem dX15_isWay_173 : decode cX15_isWay 173 = .ok (.goto 4, 3) := by decide +kernel
theorem dX15_isWay_176 : decode cX15_isWay 176 = .ok (.iconst 0, 1) := by decide +kernel
theorem dX15_isWay_177 : decode cX15_isWay 177 = .ok (.ireturn, 1) := by decide +kernel
theorem dX15_isWell_0 : decode cX15_isWell 0 = .ok (.aload_n 0, 1) := by decide +kernel
theorem dX15_isWell_1 : decode cX15_isWell 1 = .ok (.getfield 97, 3) := by decide +kernel
theorem dX15_isWell_4 : decode cX15_isWell 4 = .ok (.bipush 8, 2) := by decide +kernel
theorem dX15_isWell_6 : decode cX15_isWell 6 = .ok (.invokevirtual 441, 3) := by decide +kernel
theorem dX15_isWell_9 : decode cX15_isWell 9 = .ok (.ifCond .eq 55, 3) := by decide +kernel
theorem dX15_isWell_12 : decode cX15_isWell 12 = .ok (.aload_n 0, 1) := by decide +kernel
theorem dX15_isWell_13 : decode cX15_isWell 13 = .ok (.getfield 97, 3) := by decide +kernel
theorem dX15_isWell_16 : decode cX15_isWell 16 = .ok (.ldc_w 444, 3) := by decide +kernel
theorem dX15_isWell_19 : decode cX15_isWell 19 = .ok (.ldc_w 446, 3) := by decide +kernel
theorem dX15_isWell_22 : decode cX15_isWell 22 = .ok (.invokevirtual 448, 3) := by decide +kernel
theorem dX15_isWell_25 : decode cX15_isWell 25 = .ok (.ifCond .eq 39, 3) := by decide +kernel
theorem dX15_isWell_28 : decode cX15_isWell 28 = .ok (.aload_n 0, 1) := by decide +kernel
theorem dX15_isWell_29 : decode cX15_isWell 29 = .ok (.getfield 97, 3) := by decide +kernel
theorem dX15_isWell_32 : decode cX15_isWell 32 = .ok (.ldc_w 274, 3) := by decide +kernel
theorem dX15_isWell_35 : decode cX15_isWell 35 = .ok (.ldc_w 452, 3) := by decide +kernel
theorem dX15_isWell_38 : decode cX15_isWell 38 = .ok (.invokevirtual 448, 3) := by decide +kernel
theorem dX15_isWell_41 : decode cX15_isWell 41 = .ok (.ifCond .eq 23, 3) := by decide +kernel
theorem dX15_isWell_44 : decode cX15_isWell 44 = .ok (.aload_n 0, 1) := by decide +kernel
theorem dX15_isWell_45 : decode cX15_isWell 45 = .ok (.ldc_w 454, 3) := by decide +kernel
theorem dX15_isWell_48 : decode cX15_isWell 48 = .ok (.invokevirtual 456, 3) := by decide +kernel
theorem dX15_isWell_51 : decode cX15_isWell 51 = .ok (.ifCond .eq 13, 3) := by decide +kernel
theorem dX15_isWell_54 : decode cX15_isWell 54 = .ok (.aload_n 0, 1) := by decide +kernel
theorem dX15_isWell_55 : decode cX15_isWell 55 = .ok (.ldc_w 460, 3) := by decide +kernel
theorem dX15_isWell_58 : decode cX15_isWell 58 = .ok (.invokevirtual 456, 3) := by decide +kernel
theorem dX15_isWell_61 : decode cX15_isWell 61 = .ok (.ifCond .ne 5, 3) := by decide +kernel
theorem dX15_isWell_64 : decode cX15_isWell 64 = .ok (.iconst 0, 1) := by decide +kernel
theorem dX15_isWell_65 : decode cX15_isWell 65 = .ok (.ireturn, 1) := by decide +kernel
theorem dX15_isWell_66 : decode cX15_isWell 66 = .ok (.aload_n 0, 1) := by decide +kernel
theorem dX15_isWell_67 : decode cX15_isWell 67 = .ok (.getfield 97, 3) := by decide +kernel
theorem dX15_isWell_70 : decode cX15_isWell 70 = .ok (.ldc_w 462, 3) := by decide +kernel
theorem dX15_isWell_73 : decode cX15_isWell 73 = .ok (.bipush 32, 2) := by decide +kernel
theorem dX15_isWell_75 : decode cX15_isWell 75 = .ok (.aload_n 0, 1) := by decide +kernel
theorem dX15_isWell_76 : decode cX15_isWell 76 = .ok (.getfield 132, 3) := by decide +kernel
theorem dX15_isWell_79 : decode cX15_isWell 79 = .ok (.invokestatic 464, 3) := by decide +kernel
theorem dX15_isWell_82 : decode cX15_isWell 82 = .ok (.ifCond .eq 29, 3) := by decide +kernel
theorem dX15_isWell_85 : decode cX15_isWell 85 = .ok (.aload_n 0, 1) := by decide +kernel
theorem dX15_isWell_86 : decode cX15_isWell 86 = .ok (.getfield 97, 3) := by decide +kernel
theorem dX15_isWell_89 : decode cX15_isWell 89 = .ok (.ldc_w 468, 3) := by decide +kernel
theorem dX15_isWell_92 : decode cX15_isWell 92 = .ok (.bipush 64, 2) := by decide +kernel
theorem dX15_isWell_94 : decode cX15_isWell 94 = .ok (.aload_n 0, 1) := by decide +kernel
theorem dX15_isWell_95 : decode cX15_isWell 95 = .ok (.getfield 135, 3) := by decide +kernel
theorem dX15_isWell_98 : decode cX15_isWell 98 = .ok (.invokestatic 464, 3) := by decide +kernel
theorem dX15_isWell_101 : decode cX15_isWell 101 = .ok (.ifCond .eq 10, 3) := by decide +kernel
theorem dX15_isWell_104 : decode cX15_isWell 104 = .ok (.aload_n 0, 1) := by decide +kernel
theorem dX15_isWell_105 : decode cX15_isWell 105 = .ok (.invokevirtual 469, 3) := by decide +kernel
theorem dX15_isWell_108 : decode cX15_isWell 108 = .ok (.ifCond .ne 5, 3) := by decide +kernel
theorem dX15_isWell_111 : decode cX15_isWell 111 = .ok (.iconst 0, 1) := by decide +kernel
theorem dX15_isWell_112 : decode cX15_isWell 112 = .ok (.ireturn, 1) := by decide +kernel
theorem dX15_isWell_113 : decode cX15_isWell 113 = .ok (.aload_n 0, 1) := by decide +kernel
theorem dX15_isWell_114 : decode cX15_isWell 114 = .ok (.invokevirtual 473, 3) := by decide +kernel
theorem dX15_isWell_117 : decode cX15_isWell 117 = .ok (.ifCond .eq 44, 3) := by decide +kernel
theorem dX15_isWell_120 : decode cX15_isWell 120 = .ok (.aload_n 0, 1) := by decide +kernel
theorem dX15_isWell_121 : decode cX15_isWell 121 = .ok (.getfield 97, 3) := by decide +kernel
theorem dX15_isWell_124 : decode cX15_isWell 124 = .ok (.ldc_w 476, 3) := by decide +kernel
theorem dX15_isWell_127 : decode cX15_isWell 127 = .ok (.invokestatic 478, 3) := by decide +kernel
theorem dX15_isWell_130 : decode cX15_isWell 130 = .ok (.bipush (-2), 2) := by decide +kernel
theorem dX15_isWell_132 : decode cX15_isWell 132 = .ok (.if_icmp .eq 29, 3) := by decide +kernel
theorem dX15_isWell_135 : decode cX15_isWell 135 = .ok (.aload_n 0, 1) := by decide +kernel
theorem dX15_isWell_136 : decode cX15_isWell 136 = .ok (.getfield 97, 3) := by decide +kernel
theorem dX15_isWell_139 : decode cX15_isWell 139 = .ok (.ldc_w 481, 3) := by decide +kernel
theorem dX15_isWell_142 : decode cX15_isWell 142 = .ok (.invokestatic 478, 3) := by decide +kernel
theorem dX15_isWell_145 : decode cX15_isWell 145 = .ok (.bipush (-2), 2) := by decide +kernel
theorem dX15_isWell_147 : decode cX15_isWell 147 = .ok (.if_icmp .eq 14, 3) := by decide +kernel
theorem dX15_isWell_150 : decode cX15_isWell 150 = .ok (.aload_n 0, 1) := by decide +kernel
theorem dX15_isWell_151 : decode cX15_isWell 151 = .ok (.getfield 483, 3) := by decide +kernel
theorem dX15_isWell_154 : decode cX15_isWell 154 = .ok (.ifCond .eq 7, 3) := by decide +kernel
theorem dX15_isWell_157 : decode cX15_isWell 157 = .ok (.iconst 1, 1) := by decide +kernel
theorem dX15_isWell_158 : decode cX15_isWell 158 = .ok (.goto 4, 3) := by decide +kernel
theorem dX15_isWell_161 : decode cX15_isWell 161 = .ok (.iconst 0, 1) := by decide +kernel
theorem dX15_isWell_162 : decode cX15_isWell 162 = .ok (.ireturn, 1) := by decide +kernel
theorem dX15_number_0 : decode cX15_number 0 = .ok (.aload_n 0, 1) := by decide +kernel
theorem dX15_number_1 : decode cX15_number 1 = .ok (.aload_n 1, 1) := by decide +kernel
theorem dX15_number_2 : decode cX15_number 2 = .ok (.invokevirtual 399, 3) := by decide +kernel
theorem dX15_number_5 : decode cX15_number 5 = .ok (.istore_n 2, 1) := by decide +kernel
theorem dX15_number_6 : decode cX15_number 6 = .ok (.iconst 0, 1) := by decide +kernel
theorem dX15_number_7 : decode cX15_number 7 = .ok (.istore_n 3, 1) := by decide +kernel
theorem dX15_number_8 : decode cX15_number 8 = .ok (.iload_n 2, 1) := by decide +kernel
theorem dX15_number_9 : decode cX15_number 9 = .ok (.ifCond .ge 5, 3) := by decide +kernel
theorem dX15_number_12 : decode cX15_number 12 = .ok (.iconst (-1), 1) := by decide +kernel
theorem dX15_number_13 : decode cX15_number 13 = .ok (.ireturn, 1) := by decide +kernel
theorem dX15_number_14 : decode cX15_number 14 = .ok (.aload_n 0, 1) := by decide +kernel
theorem dX15_number_15 : decode cX15_number 15 = .ok (.getfield 406, 3) := by decide +kernel
theorem dX15_number_18 : decode cX15_number 18 = .ok (.iload_n 2, 1) := by decide +kernel
theorem dX15_number_19 : decode cX15_number 19 = .ok (.iaload, 1) := by decide +kernel
theorem dX15_number_20 : decode cX15_number 20 = .ok (.aload_n 0, 1) := by decide +kernel
theorem dX15_number_21 : decode cX15_number 21 = .ok (.getfield 403, 3) := by decide +kernel
theorem dX15_number_24 : decode cX15_number 24 = .ok (.iload_n 2, 1) := by decide +kernel
theorem dX15_number_25 : decode cX15_number 25 = .ok (.iaload, 1) := by decide +kernel
theorem dX15_number_26 : decode cX15_number 26 = .ok (.isub, 1) := by decide +kernel
theorem dX15_number_27 : decode cX15_number 27 = .ok (.iconst 1, 1) := by decide +kernel
theorem dX15_number_28 : decode cX15_number 28 = .ok (.isub, 1) := by decide +kernel
theorem dX15_number_29 : decode cX15_number 29 = .ok (.i2l, 1) := by decide +kernel
theorem dX15_number_30 : decode cX15_number 30 = .ok (.lconst 1, 1) := by decide +kernel
theorem dX15_number_31 : decode cX15_number 31 = .ok (.ldc2_w 415, 3) := by decide +kernel
theorem dX15_number_34 : decode cX15_number 34 = .ok (.invokestatic 170, 3) := by decide +kernel
theorem dX15_number_37 : decode cX15_number 37 = .ok (.ifCond .ne 6, 3) := by decide +kernel
theorem dX15_number_40 : decode cX15_number 40 = .ok (.bipush (-2), 2) := by decide +kernel
theorem dX15_number_42 : decode cX15_number 42 = .ok (.ireturn, 1) := by decide +kernel
theorem dX15_number_43 : decode cX15_number 43 = .ok (.aload_n 0, 1) := by decide +kernel
theorem dX15_number_44 : decode cX15_number 44 = .ok (.getfield 403, 3) := by decide +kernel
theorem dX15_number_47 : decode cX15_number 47 = .ok (.iload_n 2, 1) := by decide +kernel
theorem dX15_number_48 : decode cX15_number 48 = .ok (.iaload, 1) := by decide +kernel
theorem dX15_number_49 : decode cX15_number 49 = .ok (.iconst 1, 1) := by decide +kernel
theorem dX15_number_50 : decode cX15_number 50 = .ok (.iadd, 1) := by decide +kernel
theorem dX15_number_51 : decode cX15_number 51 = .ok (.istore 4, 2) := by decide +kernel
theorem dX15_number_53 : decode cX15_number 53 = .ok (.iload 4, 2) := by decide +kernel
theorem dX15_number_55 : decode cX15_number 55 = .ok (.aload_n 0, 1) := by decide +kernel
theorem dX15_number_56 : decode cX15_number 56 = .ok (.getfield 406, 3) := by decide +kernel
theorem dX15_number_59 : decode cX15_number 59 = .ok (.iload_n 2, 1) := by decide +kernel
theorem dX15_number_60 : decode cX15_number 60 = .ok (.iaload, 1) := by decide +kernel
theorem dX15_number_61 : decode cX15_number 61 = .ok (.if_icmp .ge 47, 3) := by decide +kernel
theorem dX15_number_64 : decode cX15_number 64 = .ok (.aload_n 0, 1) := by decide +kernel
theorem dX15_number_65 : decode cX15_number 65 = .ok (.getfield 409, 3) := by decide +kernel
theorem dX15_number_68 : decode cX15_number 68 = .ok (.getfield 295, 3) := by decide +kernel
theorem dX15_number_71 : decode cX15_number 71 = .ok (.iload 4, 2) := by decide +kernel
theorem dX15_number_73 : decode cX15_number 73 = .ok (.baload, 1) := by decide +kernel
theorem dX15_number_74 : decode cX15_number 74 = .ok (.invokestatic 202, 3) := by decide +kernel
theorem dX15_number_77 : decode cX15_number 77 = .ok (.ifCond .ne 6, 3) := by decide +kernel
theorem dX15_number_80 : decode cX15_number 80 = .ok (.bipush (-2), 2) := by decide +kernel
theorem dX15_number_82 : decode cX15_number 82 = .ok (.ireturn, 1) := by decide +kernel
theorem dX15_number_83 : decode cX15_number 83 = .ok (.bipush 10, 2) := by decide +kernel
theorem dX15_number_85 : decode cX15_number 85 = .ok (.iload_n 3, 1) := by decide +kernel
theorem dX15_number_86 : decode cX15_number 86 = .ok (.imul, 1) := by decide +kernel
theorem dX15_number_87 : decode cX15_number 87 = .ok (.aload_n 0, 1) := by decide +kernel
theorem dX15_number_88 : decode cX15_number 88 = .ok (.getfield 409, 3) := by decide +kernel
theorem dX15_number_91 : decode cX15_number 91 = .ok (.getfield 295, 3) := by decide +kernel
theorem dX15_number_94 : decode cX15_number 94 = .ok (.iload 4, 2) := by decide +kernel
theorem dX15_number_96 : decode cX15_number 96 = .ok (.baload, 1) := by decide +kernel
theorem dX15_number_97 : decode cX15_number 97 = .ok (.iadd, 1) := by decide +kernel
theorem dX15_number_98 : decode cX15_number 98 = .ok (.bipush 48, 2) := by decide +kernel
theorem dX15_number_100 : decode cX15_number 100 = .ok (.isub, 1) := by decide +kernel
theorem dX15_number_101 : decode cX15_number 101 = .ok (.istore_n 3, 1) := by decide +kernel
theorem dX15_number_102 : decode cX15_number 102 = .ok (.iinc 4 1, 3) := by decide +kernel
theorem dX15_number_105 : decode cX15_number 105 = .ok (.goto (-52), 3) := by decide +kernel
theorem dX15_number_108 : decode cX15_number 108 = .ok (.iload_n 3, 1) := by decide +kernel
theorem dX15_number_109 : decode cX15_number 109 = .ok (.ireturn, 1) := by decide +kernel
theorem kt_839 : Cond.methodLink RX15 399 yX13_find ∈ tb := tb_at (i := 1733) (by decide +kernel) (by decide +kernel)
theorem kt_840 : Cond.fieldLink RX15 403 "PostGateModel$Tags" "equals" "[I" ∈ tb := tb_at (i := 1231) (by decide +kernel) (by decide +kernel)
theorem kt_841 : Cond.fieldLink RX15 406 "PostGateModel$Tags" "to" "[I" ∈ tb := tb_at (i := 1233) (by decide +kernel) (by decide +kernel)
theorem kt_842 : Cond.fieldLink RX15 409 "PostGateModel$Tags" "text" "LPostGateModel$Text;" ∈ tb := tb_at (i := 1228) (by decide +kernel) (by decide +kernel)
theorem kt_843 : Cond.code yX15_digitOf cX15_digitOf 1 (some .int) ∈ tb := tb_at (i := 1741) (by decide +kernel) (by decide +kernel)
theorem kt_844 : Cond.methodLink RX15 412 yX15_digitOf ∈ tb := tb_at (i := 1739) (by decide +kernel) (by decide +kernel)
theorem kt_845 : Cond.static yX15_digitOf ∈ tb := tb_at (i := 1740) (by decide +kernel) (by decide +kernel)
theorem kt_846 : Cond.constantLong RX15 415 9 ∈ tb := tb_at (i := 1760) (by decide +kernel) (by decide +kernel)
theorem kt_847 : Cond.fieldLink RX15 97 "PostGateModel" "seal" "LPostGateModel$Tags;" ∈ tb := tb_at (i := 1324) (by decide +kernel) (by decide +kernel)
theorem kt_848 : Cond.methodLink RX15 182 yX14_isName_ ∈ tb := tb_at (i := 1487) (by decide +kernel) (by decide +kernel)
theorem kt_849 : Cond.fieldLink RX15 483 "PostGateModel" "ofFrom" "Z" ∈ tb := tb_at (i := 1343) (by decide +kernel) (by decide +kernel)
theorem kt_850 : Cond.constantLong RX15 353 20 ∈ tb := tb_at (i := 1646) (by decide +kernel) (by decide +kernel)
theorem kt_851 : Cond.code yX15_isAlike cX15_isAlike 5 (some .boolean) ∈ tb := tb_at (i := 1659) (by decide +kernel) (by decide +kernel)
theorem kt_852 : Cond.methodLink RX15 373 yX15_isAlike ∈ tb := tb_at (i := 1657) (by decide +kernel) (by decide +kernel)
theorem kt_853 : Cond.static yX15_isAlike ∈ tb := tb_at (i := 1658) (by decide +kernel) (by decide +kernel)
theorem kt_854 : Cond.code yX15_isLetter cX15_isLetter 1 (some .boolean) ∈ tb := tb_at (i := 1645) (by decide +kernel) (by decide +kernel)
theorem kt_855 : Cond.methodLink RX15 350 yX15_isLetter ∈ tb := tb_at (i := 1643) (by decide +kernel) (by decide +kernel)
theorem kt_856 : Cond.static yX15_isLetter ∈ tb := tb_at (i := 1644) (by decide +kernel) (by decide +kernel)
theorem kt_857 : Cond.fieldLink RX15 491 "PostGateModel" "relaxedFields" "Z" ∈ tb := tb_at (i := 1341) (by decide +kernel) (by decide +kernel)
theorem kt_858 : Cond.fieldLink RX15 494 "PostGateModel" "relaxedBody" "Z" ∈ tb := tb_at (i := 1342) (by decide +kernel) (by decide +kernel)
theorem kt_859 : Cond.code yX13_read cX13_read 6 (some .boolean) ∈ tb := tb_at (i := 1709) (by decide +kernel) (by decide +kernel)
theorem kt_860 : Cond.methodLink RX15 441 yX13_read ∈ tb := tb_at (i := 1706) (by decide +kernel) (by decide +kernel)
theorem kt_861 : Cond.instanceMethod yX13_read ∈ tb := tb_at (i := 1707) (by decide +kernel) (by decide +kernel)
theorem kt_862 : Cond.selects RX13 yX13_read yX13_read ∈ tb := tb_at (i := 1708) (by decide +kernel) (by decide +kernel)
theorem kt_863 : Cond.code yX13_has cX13_has 4 (some .boolean) ∈ tb := tb_at (i := 1721) (by decide +kernel) (by decide +kernel)
theorem kt_864 : Cond.methodLink RX15 448 yX13_has ∈ tb := tb_at (i := 1718) (by decide +kernel) (by decide +kernel)
theorem kt_865 : Cond.instanceMethod yX13_has ∈ tb := tb_at (i := 1719) (by decide +kernel) (by decide +kernel)
theorem kt_866 : Cond.selects RX13 yX13_has yX13_has ∈ tb := tb_at (i := 1720) (by decide +kernel) (by decide +kernel)
theorem kt_867 : Cond.code yX15_isTagName cX15_isTagName 3 (some .boolean) ∈ tb := tb_at (i := 1732) (by decide +kernel) (by decide +kernel)
theorem kt_868 : Cond.methodLink RX15 456 yX15_isTagName ∈ tb := tb_at (i := 1729) (by decide +kernel) (by decide +kernel)
theorem kt_869 : Cond.instanceMethod yX15_isTagName ∈ tb := tb_at (i := 1731) (by decide +kernel) (by decide +kernel)
theorem kt_870 : Cond.selects RX15 yX15_isTagName yX15_isTagName ∈ tb := tb_at (i := 65) (by decide +kernel) (by decide +kernel)
theorem kt_871 : Cond.fieldLink RX15 132 "PostGateModel" "said" "[B" ∈ tb := tb_at (i := 1334) (by decide +kernel) (by decide +kernel)
theorem kt_872 : Cond.code yX15_base cX15_base 14 (some .boolean) ∈ tb := tb_at (i := 1738) (by decide +kernel) (by decide +kernel)
theorem kt_873 : Cond.methodLink RX15 464 yX15_base ∈ tb := tb_at (i := 1736) (by decide +kernel) (by decide +kernel)
theorem kt_874 : Cond.static yX15_base ∈ tb := tb_at (i := 1737) (by decide +kernel) (by decide +kernel)
theorem kt_875 : Cond.fieldLink RX15 135 "PostGateModel" "number64" "[B" ∈ tb := tb_at (i := 1335) (by decide +kernel) (by decide +kernel)
theorem kt_876 : Cond.code yX15_isNames cX15_isNames 5 (some .boolean) ∈ tb := tb_at (i := 1746) (by decide +kernel) (by decide +kernel)
theorem kt_877 : Cond.methodLink RX15 469 yX15_isNames ∈ tb := tb_at (i := 1743) (by decide +kernel) (by decide +kernel)
theorem kt_878 : Cond.instanceMethod yX15_isNames ∈ tb := tb_at (i := 1745) (by decide +kernel) (by decide +kernel)
theorem kt_879 : Cond.selects RX15 yX15_isNames yX15_isNames ∈ tb := tb_at (i := 66) (by decide +kernel) (by decide +kernel)
theorem kt_880 : Cond.code yX15_isWay cX15_isWay 5 (some .boolean) ∈ tb := tb_at (i := 1752) (by decide +kernel) (by decide +kernel)
theorem kt_881 : Cond.methodLink RX15 473 yX15_isWay ∈ tb := tb_at (i := 1749) (by decide +kernel) (by decide +kernel)
theorem kt_882 : Cond.instanceMethod yX15_isWay ∈ tb := tb_at (i := 1751) (by decide +kernel) (by decide +kernel)
theorem kt_883 : Cond.selects RX15 yX15_isWay yX15_isWay ∈ tb := tb_at (i := 67) (by decide +kernel) (by decide +kernel)
theorem kt_884 : Cond.code yX15_number cX15_number 5 (some .int) ∈ tb := tb_at (i := 1759) (by decide +kernel) (by decide +kernel)
theorem kt_885 : Cond.methodLink RX15 478 yX15_number ∈ tb := tb_at (i := 1757) (by decide +kernel) (by decide +kernel)
theorem kt_886 : Cond.static yX15_number ∈ tb := tb_at (i := 1758) (by decide +kernel) (by decide +kernel)
theorem m8N {j : Nat} (h : 8 ≤ j) : nI j + Int32.ofInt (-8) = nI (j - 8) := by
  obtain ⟨k, rfl⟩ : ∃ k, j = k + 8 := ⟨j - 8, by omega⟩
  rw [show k + 8 - 8 = k from by omega, ← nI_add]
  rw [show nI 8 = 8 from rfl, show (Int32.ofInt (-8) : Int32) = -8 from rfl]
  grind
theorem orbit {x y : Int32} (h1 : x = 0 ∨ x = 1) (h2 : y = 0 ∨ y = 1) : x ||| y = 0 ∨ x ||| y = 1 := by
  rcases h1 with h1 | h1 <;> rcases h2 with h2 | h2 <;> subst h1 <;> subst h2 <;> decide
def WLP (fb f0 f1 f2 : Nat → Int32) (z : Nat) : Prop := ∃ kd ks kh, kd < z ∧ ks < z ∧ kh < z ∧ FND fb f0 f1 z (cct [100]) 1 (nI kd) ∧ TGN f1 f2 kd ∧ FND fb f0 f1 z (cct [115]) 1 (nI ks) ∧ TGN f1 f2 ks ∧ FND fb f0 f1 z (cct [104]) 1 (nI kh)
set_option maxHeartbeats 4000000 in
set_option maxRecDepth 100000 in
theorem s_X15_base_32 (l : Launch) (dC : Nat → ClassId) (dI : Nat → Nat → Nat) (cs : Nat → ClassId) (ty : TyM) (gm : Nat → Nat → Nat) (L : List Nat) (sz : Nat) (F : Nat → va_E) (g0 : Nat) (σ : Nat) (tx : Nat) (n : Nat) (Bn : Nat) (y0 : Nat) (y1 : Nat) (y2 : Nat) (tbx : Nat) (z : Nat) (gq : Nat) (τ : Nat) (q : Nat) (v : Nat) (k0 : Nat) (C : Nat → Int32) (hW : WTm ty gm L) (hL_g0 : g0 ∈ L) (hT_g0 : ty g0 = (13, σ, [tx, n, Bn, y0, y1, y2])) (hL_tx : tx ∈ L) (hT_tx : ty tx = (14, σ + 1, [tbx, n])) (hL_gq : gq ∈ L) (hT_gq : ty gq = (17, τ, [32])) (hF0 : F g0 = .inr (13, [.ref tx, .ref y0, .ref y1, .ref y2, .int (nI z)])) (hz40 : z ≤ 40) : Met l yX15_base (.code yX15_base cX15_base 14 (some .boolean) :: tb) ({ frames := 6, cells := 0, slots := 0, locals := 131 }) (va_Pc [.ref g0, .ref q, .int 32, .ref gq] (PTEm (dC, dI) cs ty gm L F sz [(q, v, k0, C)])) (va_Qi (fun (r : Int32) (_ : Unit) => (r = 0 ∨ r = 1)) (fun _ T9 => ∃ F2 : Nat → va_E, QTm (dC, dI) cs ty gm L [τ] F F2 (va_A (va_pl L F) sz) T9) (va_A (va_pl L F) sz)) 0 0 (va_A (va_pl L F) sz) := by
  refine Met.ofW (cc := cX15_base) (maxL := 14) (ret := (some .boolean)) (by decide) rfl ?_
  intro p e s m args below meth c s₁ B hml hv
  obtain ⟨rfl, ⟨hsz, hP, hK, hD0, hE, hO⟩, hG, hX⟩ := hv
  have hx := B.exec
  have hb := B.bytes
  have hr := B.returns
  have hts : ∀ w ∈ tb, w.before _ s = true := fun w h => atoms_spec (ws := .code yX15_base cX15_base 14 (some .boolean) :: tb) B.pre w (List.mem_cons_of_mem _ h)
  have hown : s.vm.findClass RX15 = some m.cls := findClass_of_methodNamed B.named
  have hlocks := B.notSynchronized
  subst hsz
  have hD := hD0.self (sz := s.heap.size)
  generalize hAe : va_A (va_pl L F) s.heap.size = A at hD hG hX ⊢
  have hX_q : SXc q v k0 C A s s.heap := hX (q, v, k0, C) (by simp)
  obtain ⟨xo_q, xc_q, xv_q, xt_q, xn_q⟩ := id hX_q
  have hA : ∀ q : Nat, s.heap.size ≤ q → A q := fun q h => by rw [← hAe]; exact Or.inr h
  have hS : va_S A s.heap s.heap [] := va_S.rf
  have hR : FR ty [τ] F F := FR.refl
  have hl := lv_entry ([.ref g0, .ref q, .int 32, .ref gq]) (n := 14) (Nat.le_of_ble_eq_true rfl)
  rw [lg_entry_eq]
  generalize (lg_sl ([.ref g0, .ref q, .int 32, .ref gq]) ++ List.replicate (14 - (lg_sl ([.ref g0, .ref q, .int 32, .ref gq])).length) Slot.unset).toArray = ls at hl ⊢
  have hl : lv_has ls 14 [(0, .ref g0), (1, .ref q), (2, .int 32), (3, .ref gq)] := hl
  obtain ⟨_, hi_1, hi_2, hi_3, _, ht_4, ht_5, ht_6, hq_7, hq_8⟩ := hW.tags hL_g0 hT_g0
  obtain ⟨hi_9, ht_10, hq_11⟩ := hW.txt hL_tx hT_tx
  obtain ⟨hq_12, hq_13⟩ := hW.octs hL_gq hT_gq
  refine lv_aload_n hx hb dX15_base_0 rfl (lv_at hl 0 rfl) ?_
  refine lv_aload_n hx hb dX15_base_1 rfl (lv_at hl 1 rfl) ?_
  have hFc := pg_free hD hS hA
  refine va_calli (va_runV (As := [.ref q]) (rest := []) ⟨hx, hb, hml, hown, hts⟩ (s_X13_find l dC dI cs ty gm L s.heap.size F g0 σ tx n Bn y0 y1 y2 tbx z q v k0 C hW hL_g0 hT_g0 hL_tx hT_tx hF0 (by first | omega | assumption | exact Or.inl rfl)) ⟨callB_of 1 hts (gi kt_828) rfl rfl rfl (hts _ kt_829) (hts _ kt_839) (by decide +kernel) ⟨Nat.le_of_ble_eq_true rfl, Nat.le_of_ble_eq_true rfl⟩, (hts _ kt_831), (hts _ kt_832)⟩ ⟨fun a U g mk q => ⟨q.1, PTEm.calling q.2⟩, pg_recv hK hP hL_g0 hF0 (q := (RX13, TX13, 5)) rfl, fun U hU hWm => ⟨rfl, PTEm.mk hU hWm hP hK hD hE hO hG (fun x hx => by rw [List.mem_singleton] at hx; subst hx; exact hX_q) hS hFc⟩⟩ rfl rfl hl.1 rfl (lv_room (Nat.le_of_ble_eq_true rfl)) dX15_base_2 ⟨by show _ + 0 ≤ 0; omega, by show _ + 0 ≤ 0; omega⟩) hS (fun q _ h => hFc q h) hFc (fun r_14 u t H1 locs ht hvm hw hB hz1 hk1 hS => ?_)
  obtain ⟨F_15, hB1⟩ := hB
  obtain rfl : F = F_15 := (funext (fun a => hB1.2.2.2 a List.not_mem_nil)).symm
  obtain ⟨hP, hD, hO, hR⟩ := QTm.back hB1 ht hFc hR (fun q h => absurd h List.not_mem_nil)
  generalize H1 = H at hP hS ⊢
  have hw : FND (gA (F tbx)) (gA (F y0)) (gA (F y1)) z C k0 r_14 := hw
  have hw_16 := hw
  refine lv_istore (lv' := [(4, .int r_14), (0, .ref g0), (1, .ref q), (2, .int 32), (3, .ref gq)]) hx hb dX15_base_5 hl (by decide) rfl (fun ls hl => ?_)
  refine lv_iload hx hb dX15_base_7 (lv_at hl 0 rfl) ?_
  refine lv_if_ge (tgt := 14) hx hb dX15_base_9 (by decide) (fun c_17 => ?_) (fun c_17 => ?_)
  ·
    obtain ⟨kf_18, hkf_18, ekf_18⟩ := FND.pos hw_16 (Int32.not_lt.mpr c_17)
    subst ekf_18
    refine lv_aload_n hx hb dX15_base_14 rfl (lv_at hl 1 rfl) ?_
    refine pg_get (ci := 13) (v := .ref y1) (C := RX13) (T := TX13) (N := 5) hx hb hts it_13 hown hK hP hL_g0 hF0 rfl 2 (by decide) (hts _ kt_840) (fun _ h9 => h9) rfl dX15_base_15 ?_
    refine lv_iload hx hb dX15_base_18 (lv_at hl 0 rfl) ?_
    obtain ⟨f_19, hF_20, hq_21⟩ := hO.idb hi_2 ht_5
    refine pg_iald hx hb hK hP hi_2 0 hF_20 rfl (vp_in_nI (by omega) (by omega)) dX15_base_20 ?_
    obtain ⟨k_22, hk_23, ek_24⟩ := hq_21 ((nI kf_18) : Int32).toNatClampNeg
    refine lv_topi (fun x_25 ex_25 => ?_)
    obtain rfl : x_25 = nI k_22 := ex_25.trans ek_24
    refine lv_iconst (v := 1) hx hb dX15_base_21 (by decide) ?_
    refine lv_iadd hx hb dX15_base_22 ?_
    refine lv_topi (fun x_26 ex_26 => ?_)
    obtain rfl : x_26 = (nI (k_22 + 1)) := ex_26.trans (nI_add k_22 1)
    refine lv_istore (lv' := [(5, .int (nI (k_22 + 1))), (4, .int (nI kf_18)), (0, .ref g0), (1, .ref q), (2, .int 32), (3, .ref gq)]) hx hb dX15_base_23 hl (by decide) rfl (fun ls hl => ?_)
    refine lv_bipush (v := 8) hx hb dX15_base_25 (by decide) ?_
    refine lv_iload_n hx hb dX15_base_27 rfl (lv_at hl 4 rfl) ?_
    refine lv_imul hx hb dX15_base_28 ?_
    refine lv_topi (fun x_27 ex_27 => ?_)
    obtain rfl : x_27 = 256 := ex_27.trans (by decide)
    refine lv_iconst (v := 5) hx hb dX15_base_29 (by decide) ?_
    refine lv_iadd hx hb dX15_base_30 ?_
    refine lv_topi (fun x_28 ex_28 => ?_)
    obtain rfl : x_28 = 261 := ex_28.trans (by decide)
    refine lv_bipush (v := 6) hx hb dX15_base_31 (by decide) ?_
    refine lv_idiv hx hb dX15_base_33 (by decide) ?_
    refine lv_topi (fun x_29 ex_29 => ?_)
    obtain rfl : x_29 = 43 := ex_29.trans (by decide)
    refine lv_istore (lv' := [(6, .int 43), (5, .int (nI (k_22 + 1))), (4, .int (nI kf_18)), (0, .ref g0), (1, .ref q), (2, .int 32), (3, .ref gq)]) hx hb dX15_base_34 hl (by decide) rfl (fun ls hl => ?_)
    refine lv_iload hx hb dX15_base_36 (lv_at hl 0 rfl) ?_
    refine lv_iconst (v := 3) hx hb dX15_base_38 (by decide) ?_
    refine lv_iadd hx hb dX15_base_39 ?_
    refine lv_topi (fun x_30 ex_30 => ?_)
    obtain rfl : x_30 = 46 := ex_30.trans (by decide)
    refine lv_iconst (v := 4) hx hb dX15_base_40 (by decide) ?_
    refine lv_idiv hx hb dX15_base_41 (by decide) ?_
    refine lv_topi (fun x_31 ex_31 => ?_)
    obtain rfl : x_31 = 11 := ex_31.trans (by decide)
    refine lv_iconst (v := 4) hx hb dX15_base_42 (by decide) ?_
    refine lv_imul hx hb dX15_base_43 ?_
    refine lv_topi (fun x_32 ex_32 => ?_)
    obtain rfl : x_32 = 44 := ex_32.trans (by decide)
    refine lv_istore (lv' := [(7, .int 44), (6, .int 43), (5, .int (nI (k_22 + 1))), (4, .int (nI kf_18)), (0, .ref g0), (1, .ref q), (2, .int 32), (3, .ref gq)]) hx hb dX15_base_44 hl (by decide) rfl (fun ls hl => ?_)
    refine lv_aload_n hx hb dX15_base_46 rfl (lv_at hl 4 rfl) ?_
    refine pg_get (ci := 13) (v := .ref y2) (C := RX13) (T := TX13) (N := 5) hx hb hts it_13 hown hK hP hL_g0 hF0 rfl 3 (by decide) (hts _ kt_841) (fun _ h9 => h9) rfl dX15_base_47 ?_
    refine lv_iload hx hb dX15_base_50 (lv_at hl 3 rfl) ?_
    obtain ⟨f_33, hF_34, hq_35⟩ := hO.idb hi_3 ht_6
    refine pg_iald hx hb hK hP hi_3 0 hF_34 rfl (vp_in_nI (by omega) (by omega)) dX15_base_52 ?_
    obtain ⟨k_36, hk_37, ek_38⟩ := hq_35 ((nI kf_18) : Int32).toNatClampNeg
    refine lv_topi (fun x_39 ex_39 => ?_)
    obtain rfl : x_39 = nI k_36 := ex_39.trans ek_38
    refine lv_iload hx hb dX15_base_53 (lv_at hl 2 rfl) ?_
    refine lv_isub hx hb dX15_base_55 ?_
    refine lv_topi (fun x_40 ex_40 => ?_)
    obtain rfl : x_40 = ((nI k_36) - (nI (k_22 + 1))) := ex_40.trans (rfl)
    refine lv_iload hx hb dX15_base_56 (lv_at hl 0 rfl) ?_
    refine lv_icmp_eq (tgt := 63) hx hb dX15_base_58 (by decide) (fun c_41 => ?_) (fun c_41 => ?_)
    ·
      have hto := sub_eqN (z := 44) c_41 (by omega) (by omega) (by omega)
      refine lv_lconst (v := 0) hx hb dX15_base_63 (by decide) ?_
      refine lv_lstore (lv' := [(8, .long 0), (7, .int 44), (6, .int 43), (5, .int (nI (k_22 + 1))), (4, .int (nI kf_18)), (0, .ref g0), (1, .ref q), (2, .int 32), (3, .ref gq)]) hx hb dX15_base_64 hl (by decide) rfl (fun ls hl => ?_)
      refine lv_iconst (v := 0) hx hb dX15_base_66 (by decide) ?_
      refine lv_istore (lv' := [(10, .int 0), (8, .long 0), (7, .int 44), (6, .int 43), (5, .int (nI (k_22 + 1))), (4, .int (nI kf_18)), (0, .ref g0), (1, .ref q), (2, .int 32), (3, .ref gq)]) hx hb dX15_base_67 hl (by decide) rfl (fun ls hl => ?_)
      refine lv_iconst (v := 0) hx hb dX15_base_69 (by decide) ?_
      refine lv_istore (lv' := [(11, .int 0), (10, .int 0), (8, .long 0), (7, .int 44), (6, .int 43), (5, .int (nI (k_22 + 1))), (4, .int (nI kf_18)), (0, .ref g0), (1, .ref q), (2, .int 32), (3, .ref gq)]) hx hb dX15_base_70 hl (by decide) rfl (fun ls hl => ?_)
      refine lv_iconst (v := 0) hx hb dX15_base_72 (by decide) ?_
      refine lv_istore (lv' := [(12, .int 0), (11, .int 0), (10, .int 0), (8, .long 0), (7, .int 44), (6, .int 43), (5, .int (nI (k_22 + 1))), (4, .int (nI kf_18)), (0, .ref g0), (1, .ref q), (2, .int 32), (3, .ref gq)]) hx hb dX15_base_73 hl (by decide) rfl (fun ls hl => ?_)
      refine W.widen (k := 0) (n := 0) (by omega) (by omega) ?_
      refine pl_loopm (σ := Nat × Nat × Nat × Int64) A (dC, dI) cs ty gm L [τ] F 75 14 (fun (i, hv, md, w8) => [(12, .int (nI i)), (11, .int (nI md)), (10, .int (nI hv)), (8, .long w8), (7, .int 44), (6, .int 43), (5, .int (nI (k_22 + 1))), (4, .int (nI kf_18)), (0, .ref g0), (1, .ref q), (2, .int 32), (3, .ref gq)]) (fun (i, hv, md, w8) => []) (fun (i, hv, md, w8) _ => hv + 8 * md = 6 * i ∧ hv < 8 ∧ i ≤ 43) (fun (i, hv, md, w8) => 43 - i) ?_ (0, 0, 0, 0) F (⟨by omega, by omega, by omega⟩) hO hR _ _ hP hD hS ls (lv_sub hl [0, 1, 2, 3, 4, 5, 6, 7, 8, 9, 10, 11] rfl)
      rintro ⟨i, hv, md, w8⟩ F_42 hv_43 hO hR ih_44 H locs hP hD hS ls hl
      have hl : lv_has ls 14 [(12, .int (nI i)), (11, .int (nI md)), (10, .int (nI hv)), (8, .long w8), (7, .int 44), (6, .int 43), (5, .int (nI (k_22 + 1))), (4, .int (nI kf_18)), (0, .ref g0), (1, .ref q), (2, .int 32), (3, .ref gq)] := hl
      have hv_43 : hv + 8 * md = 6 * i ∧ hv < 8 ∧ i ≤ 43 := hv_43
      refine W.eq (g2 := F0 m 75 ls []) rfl ?_
      obtain ⟨hi1, hi2, hi3⟩ := hv_43
      refine lv_iload hx hb dX15_base_75 (lv_at hl 0 rfl) ?_
      refine lv_iload hx hb dX15_base_77 (lv_at hl 5 rfl) ?_
      refine lv_icmp_ge (tgt := 166) hx hb dX15_base_79 (by decide) (fun c_45 => ?_) (fun c_45 => ?_)
      ·
        have hi_46 : 43 ≤ i := leN (N := 43) c_45
        refine lv_iload hx hb dX15_base_166 (lv_at hl 5 rfl) ?_
        refine lv_istore (lv' := [(12, .int 43), (11, .int (nI md)), (10, .int (nI hv)), (8, .long w8), (7, .int 44), (6, .int 43), (5, .int (nI (k_22 + 1))), (4, .int (nI kf_18)), (0, .ref g0), (1, .ref q), (2, .int 32), (3, .ref gq)]) hx hb dX15_base_168 hl (by decide) rfl (fun ls hl => ?_)
        refine W.widen (k := 0) (n := 0) (by omega) (by omega) ?_
        refine pl_loopm (σ := Nat) A (dC, dI) cs ty gm L [τ] F 170 14 (fun i2 => [(12, .int (nI i2)), (8, .long w8), (7, .int 44), (6, .int 43), (5, .int (nI (k_22 + 1))), (4, .int (nI kf_18)), (0, .ref g0), (1, .ref q), (2, .int 32), (3, .ref gq)]) (fun i2 => []) (fun i2 _ => i2 ≤ 44) (fun i2 => 44 - i2) ?_ 43 F_42 (by omega) hO hR _ _ hP hD hS ls (lv_sub hl [0, 3, 4, 5, 6, 7, 8, 9, 10, 11] rfl)
        rintro i2 F_47 hv_48 hO hR ih_49 H locs hP hD hS ls hl
        have hl : lv_has ls 14 [(12, .int (nI i2)), (8, .long w8), (7, .int 44), (6, .int 43), (5, .int (nI (k_22 + 1))), (4, .int (nI kf_18)), (0, .ref g0), (1, .ref q), (2, .int 32), (3, .ref gq)] := hl
        have hv_48 : i2 ≤ 44 := hv_48
        refine W.eq (g2 := F0 m 170 ls []) rfl ?_
        refine lv_iload hx hb dX15_base_170 (lv_at hl 0 rfl) ?_
        refine lv_iload hx hb dX15_base_172 (lv_at hl 2 rfl) ?_
        refine lv_icmp_ge (tgt := 203) hx hb dX15_base_174 (by decide) (fun c_50 => ?_) (fun c_50 => ?_)
        ·
          have hi_51 : 44 ≤ i2 := leN (N := 44) c_50
          refine lv_lload hx hb dX15_base_203 (lv_at hl 1 rfl) ?_
          refine lv_lconst (v := 0) hx hb dX15_base_205 (by decide) ?_
          refine W.lcmp hx hb dX15_base_206 ?_
          refine lv_topi (fun x_52 ex_52 => ?_)
          refine lv_if_ne (tgt := 214) hx hb dX15_base_207 (by decide) (fun c_53 => ?_) (fun c_53 => ?_)
          ·
            refine lv_iconst (v := 0) hx hb dX15_base_214 (by decide) ?_
            refine W.widen (k := 0) (n := 0) (by omega) (by omega) ?_
            exact W.zret (v := 0) (ty := .boolean) hx hb hr (by decide) (fun t ht hWm => ⟨⟨0, (), rfl, (by first | exact Or.inl rfl | exact Or.inr rfl), ⟨F_47, QTm.mk ht hP hD hO hR⟩⟩, hS.F ht⟩) hS.2.2 dX15_base_215
          ·
            refine lv_iconst (v := 1) hx hb dX15_base_210 (by decide) ?_
            refine lv_goto (tgt := 215) hx hb dX15_base_211 (by decide) ?_
            refine W.widen (k := 0) (n := 0) (by omega) (by omega) ?_
            exact W.zret (v := 1) (ty := .boolean) hx hb hr (by decide) (fun t ht hWm => ⟨⟨1, (), rfl, (by first | exact Or.inl rfl | exact Or.inr rfl), ⟨F_47, QTm.mk ht hP hD hO hR⟩⟩, hS.F ht⟩) hS.2.2 dX15_base_215
        ·
          have hi_54 : i2 < 44 := ltN (N := 44) c_50
          refine lv_aload_n hx hb dX15_base_177 rfl (lv_at hl 6 rfl) ?_
          obtain ⟨z_55, hF_56, hq_57⟩ := hO.tags hL_g0 hT_g0
          refine pg_get (ci := 13) (v := .ref tx) (C := RX13) (T := TX13) (N := 5) hx hb hts it_13 hown hK hP hL_g0 hF_56 rfl 0 (by decide) (hts _ kt_842) (fun _ h9 => h9) rfl dX15_base_178 ?_
          obtain ⟨z_58, hF_59, hq_60⟩ := hO.txt hL_tx hT_tx
          refine pg_get (ci := 14) (v := .ref tbx) (C := RX14) (T := TX14) (N := 2) hx hb hts it_14 hown hK hP hL_tx hF_59 rfl 0 (by decide) (hts _ kt_710) (fun _ h9 => h9) rfl dX15_base_181 ?_
          refine lv_iload hx hb dX15_base_184 (lv_at hl 4 rfl) ?_
          refine lv_iload hx hb dX15_base_186 (lv_at hl 0 rfl) ?_
          refine lv_iadd hx hb dX15_base_188 ?_
          refine lv_topi (fun x_61 ex_61 => ?_)
          obtain rfl : x_61 = (nI ((k_22 + 1) + i2)) := ex_61.trans (nI_add (k_22 + 1) i2)
          obtain ⟨hq_62, hq_63⟩ := hW.octs hi_9 ht_10
          obtain ⟨f_64, hF_65, hq_66⟩ := hO.octs hi_9 ht_10
          refine pg_bald hx hb hK hP hi_9 1 hF_65 rfl (vp_in_nI (by omega) (by omega)) dX15_base_189 ?_
          refine lv_topi (fun x_67 ex_67 => ?_)
          obtain rfl : x_67 = f_64 ((k_22 + 1) + i2) := ex_67.trans (congrArg f_64 (show ((nI ((k_22 + 1) + i2)) : Int32).toNatClampNeg = ((k_22 + 1) + i2) from nI_clamp (by omega)))
          refine lv_bipush (v := 61) hx hb dX15_base_190 (by decide) ?_
          refine lv_icmp_eq (tgt := 197) hx hb dX15_base_192 (by decide) (fun c_68 => ?_) (fun c_68 => ?_)
          ·
            refine lv_iinc (v := (nI (i2 + 1))) (lv' := [(12, .int (nI (i2 + 1))), (8, .long w8), (7, .int 44), (6, .int 43), (5, .int (nI (k_22 + 1))), (4, .int (nI kf_18)), (0, .ref g0), (1, .ref q), (2, .int 32), (3, .ref gq)]) hx hb dX15_base_197 hl (k := 0) rfl (nI_1 _) (by decide) rfl (fun ls hl => ?_)
            refine lv_goto (tgt := 170) hx hb dX15_base_200 (by decide) ?_
            refine W.widen (k := 0) (n := 0) (by omega) (by omega) ?_
            exact ih_49 (i2 + 1) F_47 (by first | omega | exact ⟨by omega, by omega⟩ | trivial) (by show 44 - (i2 + 1) < 44 - i2; omega) hO hR _ _ hP hD hS ls (lv_sub hl [0, 1, 2, 3, 4, 5, 6, 7, 8, 9] rfl)
          ·
            refine lv_iconst (v := 0) hx hb dX15_base_195 (by decide) ?_
            refine W.widen (k := 0) (n := 0) (by omega) (by omega) ?_
            exact W.zret (v := 0) (ty := .boolean) hx hb hr (by decide) (fun t ht hWm => ⟨⟨0, (), rfl, (by first | exact Or.inl rfl | exact Or.inr rfl), ⟨F_47, QTm.mk ht hP hD hO hR⟩⟩, hS.F ht⟩) hS.2.2 dX15_base_196
      ·
        have hi_69 : i < 43 := ltN (N := 43) c_45
        refine lv_aload_n hx hb dX15_base_82 rfl (lv_at hl 8 rfl) ?_
        obtain ⟨z_70, hF_71, hq_72⟩ := hO.tags hL_g0 hT_g0
        refine pg_get (ci := 13) (v := .ref tx) (C := RX13) (T := TX13) (N := 5) hx hb hts it_13 hown hK hP hL_g0 hF_71 rfl 0 (by decide) (hts _ kt_842) (fun _ h9 => h9) rfl dX15_base_83 ?_
        obtain ⟨z_73, hF_74, hq_75⟩ := hO.txt hL_tx hT_tx
        refine pg_get (ci := 14) (v := .ref tbx) (C := RX14) (T := TX14) (N := 2) hx hb hts it_14 hown hK hP hL_tx hF_74 rfl 0 (by decide) (hts _ kt_710) (fun _ h9 => h9) rfl dX15_base_86 ?_
        refine lv_iload hx hb dX15_base_89 (lv_at hl 6 rfl) ?_
        refine lv_iload hx hb dX15_base_91 (lv_at hl 0 rfl) ?_
        refine lv_iadd hx hb dX15_base_93 ?_
        refine lv_topi (fun x_76 ex_76 => ?_)
        obtain rfl : x_76 = (nI ((k_22 + 1) + i)) := ex_76.trans (nI_add (k_22 + 1) i)
        obtain ⟨hq_77, hq_78⟩ := hW.octs hi_9 ht_10
        obtain ⟨f_79, hF_80, hq_81⟩ := hO.octs hi_9 ht_10
        refine pg_bald hx hb hK hP hi_9 1 hF_80 rfl (vp_in_nI (by omega) (by omega)) dX15_base_94 ?_
        refine lv_topi (fun x_82 ex_82 => ?_)
        obtain rfl : x_82 = f_79 ((k_22 + 1) + i) := ex_82.trans (congrArg f_79 (show ((nI ((k_22 + 1) + i)) : Int32).toNatClampNeg = ((k_22 + 1) + i) from nI_clamp (by omega)))
        have hFc := pg_free hD hS hA
        refine va_calli (va_runS (As := [.int (f_79 ((k_22 + 1) + i))]) (rest := []) ⟨hx, hb, hml, hown, hts⟩ (s_X15_digitOf l dC dI cs ty gm L H.size F_42 (f_79 ((k_22 + 1) + i)) hW ) ⟨callB_of 1 hts (gi kt_843) rfl rfl rfl (hts _ kt_669) (hts _ kt_844) (by decide +kernel) ⟨Nat.le_of_ble_eq_true rfl, Nat.le_of_ble_eq_true rfl⟩, (hts _ kt_845)⟩ ⟨fun a U g mk q => ⟨q.1, PTm.calling q.2⟩, fun U hU hWm => ⟨rfl, PTm.mk hU hWm hP hK hD hE hO⟩⟩ rfl rfl hl.1 rfl (lv_room (Nat.le_of_ble_eq_true rfl)) dX15_base_95 ⟨by show _ + 0 ≤ 0; omega, by show _ + 0 ≤ 0; omega⟩) hS (fun q _ h => hFc q h) hFc (fun r_83 u t H1 locs ht hvm hw hB hz1 hk1 hS => ?_)
        obtain ⟨F_84, hB1⟩ := hB
        obtain rfl : F_42 = F_84 := (funext (fun a => hB1.2.2.2 a List.not_mem_nil)).symm
        obtain ⟨hP, hD, hO, hR⟩ := QTm.back hB1 ht hFc hR (fun q h => absurd h List.not_mem_nil)
        generalize H1 = H at hP hS ⊢
        have hw : True := hw
        have hw_85 := hw
        refine lv_istore (lv' := [(13, .int r_83), (12, .int (nI i)), (11, .int (nI md)), (10, .int (nI hv)), (8, .long w8), (7, .int 44), (6, .int 43), (5, .int (nI (k_22 + 1))), (4, .int (nI kf_18)), (0, .ref g0), (1, .ref q), (2, .int 32), (3, .ref gq)]) hx hb dX15_base_98 hl (by decide) rfl (fun ls hl => ?_)
        refine lv_iload hx hb dX15_base_100 (lv_at hl 0 rfl) ?_
        refine lv_if_ge (tgt := 107) hx hb dX15_base_102 (by decide) (fun c_86 => ?_) (fun c_86 => ?_)
        ·
          refine lv_lload hx hb dX15_base_107 (lv_at hl 4 rfl) ?_
          refine lv_bipush (v := 6) hx hb dX15_base_109 (by decide) ?_
          refine lv_lshl hx hb dX15_base_111 rfl ?_
          refine lv_topl (fun x_88 _ => ?_)
          refine lv_iload hx hb dX15_base_112 (lv_at hl 0 rfl) ?_
          refine lv_i2l (v := r_83.toInt64) hx hb dX15_base_114 rfl ?_
          refine lv_lor hx hb dX15_base_115 ?_
          refine lv_topl (fun x_89 _ => ?_)
          refine lv_lstore (lv' := [(8, .long x_89), (13, .int r_83), (12, .int (nI i)), (11, .int (nI md)), (10, .int (nI hv)), (7, .int 44), (6, .int 43), (5, .int (nI (k_22 + 1))), (4, .int (nI kf_18)), (0, .ref g0), (1, .ref q), (2, .int 32), (3, .ref gq)]) hx hb dX15_base_116 hl (by decide) rfl (fun ls hl => ?_)
          refine lv_iinc (v := (nI (hv + 6))) (lv' := [(10, .int (nI (hv + 6))), (8, .long x_89), (13, .int r_83), (12, .int (nI i)), (11, .int (nI md)), (7, .int 44), (6, .int 43), (5, .int (nI (k_22 + 1))), (4, .int (nI kf_18)), (0, .ref g0), (1, .ref q), (2, .int 32), (3, .ref gq)]) hx hb dX15_base_118 hl (k := 4) rfl (nI_add hv 6) (by decide) rfl (fun ls hl => ?_)
          refine lv_iload hx hb dX15_base_121 (lv_at hl 0 rfl) ?_
          refine lv_bipush (v := 8) hx hb dX15_base_123 (by decide) ?_
          refine lv_icmp_ge (tgt := 131) hx hb dX15_base_125 (by decide) (fun c_90 => ?_) (fun c_90 => ?_)
          ·
            have hi_91 : 8 ≤ (hv + 6) := leN (N := 8) c_90
            refine lv_iinc (v := (nI (hv + 6 - 8))) (lv' := [(10, .int (nI (hv + 6 - 8))), (8, .long x_89), (13, .int r_83), (12, .int (nI i)), (11, .int (nI md)), (7, .int 44), (6, .int 43), (5, .int (nI (k_22 + 1))), (4, .int (nI kf_18)), (0, .ref g0), (1, .ref q), (2, .int 32), (3, .ref gq)]) hx hb dX15_base_131 hl (k := 0) rfl (m8N (by omega)) (by decide) rfl (fun ls hl => ?_)
            refine lv_aload_n hx hb dX15_base_134 rfl (lv_at hl 12 rfl) ?_
            refine lv_iload hx hb dX15_base_135 (lv_at hl 4 rfl) ?_
            refine lv_lload hx hb dX15_base_137 (lv_at hl 1 rfl) ?_
            refine lv_iload hx hb dX15_base_139 (lv_at hl 0 rfl) ?_
            refine lv_lshr hx hb dX15_base_141 rfl ?_
            refine lv_topl (fun x_93 _ => ?_)
            refine lv_l2i hx hb dX15_base_142 rfl ?_
            refine lv_topi (fun x_94 _ => ?_)
            refine lv_i2b hx hb dX15_base_143 rfl ?_
            refine lv_topi (fun x_95 _ => ?_)
            obtain ⟨f_96, hF_97, hq_98⟩ := hO.octs hL_gq hT_gq
            refine pg_bast hx hb hK hP hD hS hL_gq 1 hF_97 rfl (vp_in_nI (by omega) (by omega)) dX15_base_144 (fun H locs hP hD hS => ?_)
            obtain ⟨F_99, he_100, hP, hD, hO, hR⟩ : ∃ G, G = va_up F_42 gq (.inl (cs 17, 32, .inl (upd f_96 ((nI md)).toNatClampNeg (vp_nar .byte (x_95))))) ∧ va_P (dC, dI) vwCl (va_pl L G) H ∧ va_D A (va_pl L G) ∧ OKm cs ty gm L G ∧ FR ty [τ] F G := ⟨_, rfl, hP, hD, hO.up (shm.octs hT_gq ⟨_, rfl, bfm_upd hq_98 _ _⟩), hR.up hT_gq (by simp)⟩
            have hF_101 : F_99 gq = .inl (cs 17, 32, .inl (upd f_96 ((nI md)).toNatClampNeg (vp_nar .byte (x_95)))) := by rw [he_100]; exact up_self
            have hF_102 : F_99 g0 = .inr (13, [.ref tx, .ref y0, .ref y1, .ref y2, .int (nI z_70)]) := by rw [he_100, up_ne (ne_ty hT_g0 hT_gq (by simp))]; exact hF_71
            have hF_103 : F_99 tx = .inr (14, [.ref tbx, .int (nI z_73)]) := by rw [he_100, up_ne (ne_ty hT_tx hT_gq (by simp))]; exact hF_74
            obtain ⟨f_104, hF_101, hq_105⟩ : ∃ f : Nat → Int32, F_99 gq = .inl (cs 17, 32, .inl f) ∧ BFm f := ⟨_, hF_101, bfm_upd hq_98 _ _⟩
            refine lv_iinc (v := (nI (md + 1))) (lv' := [(11, .int (nI (md + 1))), (10, .int (nI (hv + 6 - 8))), (8, .long x_89), (13, .int r_83), (12, .int (nI i)), (7, .int 44), (6, .int 43), (5, .int (nI (k_22 + 1))), (4, .int (nI kf_18)), (0, .ref g0), (1, .ref q), (2, .int 32), (3, .ref gq)]) hx hb dX15_base_145 hl (k := 4) rfl (nI_1 _) (by decide) rfl (fun ls hl => ?_)
            refine lv_lload hx hb dX15_base_148 (lv_at hl 2 rfl) ?_
            refine lv_iconst (v := 1) hx hb dX15_base_150 (by decide) ?_
            refine lv_iload hx hb dX15_base_151 (lv_at hl 1 rfl) ?_
            refine lv_ishl hx hb dX15_base_153 ?_
            refine lv_topi (fun x_106 _ => ?_)
            refine lv_iconst (v := 1) hx hb dX15_base_154 (by decide) ?_
            refine lv_isub hx hb dX15_base_155 ?_
            refine lv_topi (fun x_107 ex_107 => ?_)
            refine lv_i2l (v := x_107.toInt64) hx hb dX15_base_156 rfl ?_
            refine lv_land hx hb dX15_base_157 ?_
            refine lv_topl (fun x_108 _ => ?_)
            refine lv_lstore (lv' := [(8, .long x_108), (11, .int (nI (md + 1))), (10, .int (nI (hv + 6 - 8))), (13, .int r_83), (12, .int (nI i)), (7, .int 44), (6, .int 43), (5, .int (nI (k_22 + 1))), (4, .int (nI kf_18)), (0, .ref g0), (1, .ref q), (2, .int 32), (3, .ref gq)]) hx hb dX15_base_158 hl (by decide) rfl (fun ls hl => ?_)
            refine lv_iinc (v := (nI (i + 1))) (lv' := [(12, .int (nI (i + 1))), (8, .long x_108), (11, .int (nI (md + 1))), (10, .int (nI (hv + 6 - 8))), (13, .int r_83), (7, .int 44), (6, .int 43), (5, .int (nI (k_22 + 1))), (4, .int (nI kf_18)), (0, .ref g0), (1, .ref q), (2, .int 32), (3, .ref gq)]) hx hb dX15_base_160 hl (k := 4) rfl (nI_1 _) (by decide) rfl (fun ls hl => ?_)
            refine lv_goto (tgt := 75) hx hb dX15_base_163 (by decide) ?_
            refine W.widen (k := 0) (n := 0) (by omega) (by omega) ?_
            exact ih_44 ((i + 1), (hv + 6 - 8), (md + 1), x_108) F_99 (⟨by omega, by omega, by omega⟩) (by show 43 - (i + 1) < 43 - i; omega) hO hR _ _ hP hD hS ls (lv_sub hl [0, 2, 3, 1, 5, 6, 7, 8, 9, 10, 11, 12] rfl)
          ·
            have hi_109 : (hv + 6) < 8 := ltN (N := 8) c_90
            refine lv_goto (tgt := 160) hx hb dX15_base_128 (by decide) ?_
            refine lv_iinc (v := (nI (i + 1))) (lv' := [(12, .int (nI (i + 1))), (10, .int (nI (hv + 6))), (8, .long x_89), (13, .int r_83), (11, .int (nI md)), (7, .int 44), (6, .int 43), (5, .int (nI (k_22 + 1))), (4, .int (nI kf_18)), (0, .ref g0), (1, .ref q), (2, .int 32), (3, .ref gq)]) hx hb dX15_base_160 hl (k := 3) rfl (nI_1 _) (by decide) rfl (fun ls hl => ?_)
            refine lv_goto (tgt := 75) hx hb dX15_base_163 (by decide) ?_
            refine W.widen (k := 0) (n := 0) (by omega) (by omega) ?_
            exact ih_44 ((i + 1), (hv + 6), md, x_89) F_42 (⟨by omega, by omega, by omega⟩) (by show 43 - (i + 1) < 43 - i; omega) hO hR _ _ hP hD hS ls (lv_sub hl [0, 4, 1, 2, 5, 6, 7, 8, 9, 10, 11, 12] rfl)
        ·
          refine lv_iconst (v := 0) hx hb dX15_base_105 (by decide) ?_
          refine W.widen (k := 0) (n := 0) (by omega) (by omega) ?_
          exact W.zret (v := 0) (ty := .boolean) hx hb hr (by decide) (fun t ht hWm => ⟨⟨0, (), rfl, (by first | exact Or.inl rfl | exact Or.inr rfl), ⟨F_42, QTm.mk ht hP hD hO hR⟩⟩, hS.F ht⟩) hS.2.2 dX15_base_106
    ·
      refine lv_iconst (v := 0) hx hb dX15_base_61 (by decide) ?_
      refine W.widen (k := 0) (n := 0) (by omega) (by omega) ?_
      exact W.zret (v := 0) (ty := .boolean) hx hb hr (by decide) (fun t ht hWm => ⟨⟨0, (), rfl, (by first | exact Or.inl rfl | exact Or.inr rfl), ⟨F, QTm.mk ht hP hD hO hR⟩⟩, hS.F ht⟩) hS.2.2 dX15_base_62
  ·
    refine lv_iconst (v := 0) hx hb dX15_base_12 (by decide) ?_
    refine W.widen (k := 0) (n := 0) (by omega) (by omega) ?_
    exact W.zret (v := 0) (ty := .boolean) hx hb hr (by decide) (fun t ht hWm => ⟨⟨0, (), rfl, (by first | exact Or.inl rfl | exact Or.inr rfl), ⟨F, QTm.mk ht hP hD hO hR⟩⟩, hS.F ht⟩) hS.2.2 dX15_base_13
set_option maxHeartbeats 4000000 in
set_option maxRecDepth 100000 in
theorem s_X15_base_64 (l : Launch) (dC : Nat → ClassId) (dI : Nat → Nat → Nat) (cs : Nat → ClassId) (ty : TyM) (gm : Nat → Nat → Nat) (L : List Nat) (sz : Nat) (F : Nat → va_E) (g0 : Nat) (σ : Nat) (tx : Nat) (n : Nat) (Bn : Nat) (y0 : Nat) (y1 : Nat) (y2 : Nat) (tbx : Nat) (z : Nat) (gq : Nat) (τ : Nat) (q : Nat) (v : Nat) (k0 : Nat) (C : Nat → Int32) (hW : WTm ty gm L) (hL_g0 : g0 ∈ L) (hT_g0 : ty g0 = (13, σ, [tx, n, Bn, y0, y1, y2])) (hL_tx : tx ∈ L) (hT_tx : ty tx = (14, σ + 1, [tbx, n])) (hL_gq : gq ∈ L) (hT_gq : ty gq = (17, τ, [64])) (hF0 : F g0 = .inr (13, [.ref tx, .ref y0, .ref y1, .ref y2, .int (nI z)])) (hz40 : z ≤ 40) : Met l yX15_base (.code yX15_base cX15_base 14 (some .boolean) :: tb) ({ frames := 6, cells := 0, slots := 0, locals := 131 }) (va_Pc [.ref g0, .ref q, .int 64, .ref gq] (PTEm (dC, dI) cs ty gm L F sz [(q, v, k0, C)])) (va_Qi (fun (r : Int32) (_ : Unit) => (r = 0 ∨ r = 1)) (fun _ T9 => ∃ F2 : Nat → va_E, QTm (dC, dI) cs ty gm L [τ] F F2 (va_A (va_pl L F) sz) T9) (va_A (va_pl L F) sz)) 0 0 (va_A (va_pl L F) sz) := by
  refine Met.ofW (cc := cX15_base) (maxL := 14) (ret := (some .boolean)) (by decide) rfl ?_
  intro p e s m args below meth c s₁ B hml hv
  obtain ⟨rfl, ⟨hsz, hP, hK, hD0, hE, hO⟩, hG, hX⟩ := hv
  have hx := B.exec
  have hb := B.bytes
  have hr := B.returns
  have hts : ∀ w ∈ tb, w.before _ s = true := fun w h => atoms_spec (ws := .code yX15_base cX15_base 14 (some .boolean) :: tb) B.pre w (List.mem_cons_of_mem _ h)
  have hown : s.vm.findClass RX15 = some m.cls := findClass_of_methodNamed B.named
  have hlocks := B.notSynchronized
  subst hsz
  have hD := hD0.self (sz := s.heap.size)
  generalize hAe : va_A (va_pl L F) s.heap.size = A at hD hG hX ⊢
  have hX_q : SXc q v k0 C A s s.heap := hX (q, v, k0, C) (by simp)
  obtain ⟨xo_q, xc_q, xv_q, xt_q, xn_q⟩ := id hX_q
  have hA : ∀ q : Nat, s.heap.size ≤ q → A q := fun q h => by rw [← hAe]; exact Or.inr h
  have hS : va_S A s.heap s.heap [] := va_S.rf
  have hR : FR ty [τ] F F := FR.refl
  have hl := lv_entry ([.ref g0, .ref q, .int 64, .ref gq]) (n := 14) (Nat.le_of_ble_eq_true rfl)
  rw [lg_entry_eq]
  generalize (lg_sl ([.ref g0, .ref q, .int 64, .ref gq]) ++ List.replicate (14 - (lg_sl ([.ref g0, .ref q, .int 64, .ref gq])).length) Slot.unset).toArray = ls at hl ⊢
  have hl : lv_has ls 14 [(0, .ref g0), (1, .ref q), (2, .int 64), (3, .ref gq)] := hl
  obtain ⟨_, hi_1, hi_2, hi_3, _, ht_4, ht_5, ht_6, hq_7, hq_8⟩ := hW.tags hL_g0 hT_g0
  obtain ⟨hi_9, ht_10, hq_11⟩ := hW.txt hL_tx hT_tx
  obtain ⟨hq_12, hq_13⟩ := hW.octs hL_gq hT_gq
  refine lv_aload_n hx hb dX15_base_0 rfl (lv_at hl 0 rfl) ?_
  refine lv_aload_n hx hb dX15_base_1 rfl (lv_at hl 1 rfl) ?_
  have hFc := pg_free hD hS hA
  refine va_calli (va_runV (As := [.ref q]) (rest := []) ⟨hx, hb, hml, hown, hts⟩ (s_X13_find l dC dI cs ty gm L s.heap.size F g0 σ tx n Bn y0 y1 y2 tbx z q v k0 C hW hL_g0 hT_g0 hL_tx hT_tx hF0 (by first | omega | assumption | exact Or.inl rfl)) ⟨callB_of 1 hts (gi kt_828) rfl rfl rfl (hts _ kt_829) (hts _ kt_839) (by decide +kernel) ⟨Nat.le_of_ble_eq_true rfl, Nat.le_of_ble_eq_true rfl⟩, (hts _ kt_831), (hts _ kt_832)⟩ ⟨fun a U g mk q => ⟨q.1, PTEm.calling q.2⟩, pg_recv hK hP hL_g0 hF0 (q := (RX13, TX13, 5)) rfl, fun U hU hWm => ⟨rfl, PTEm.mk hU hWm hP hK hD hE hO hG (fun x hx => by rw [List.mem_singleton] at hx; subst hx; exact hX_q) hS hFc⟩⟩ rfl rfl hl.1 rfl (lv_room (Nat.le_of_ble_eq_true rfl)) dX15_base_2 ⟨by show _ + 0 ≤ 0; omega, by show _ + 0 ≤ 0; omega⟩) hS (fun q _ h => hFc q h) hFc (fun r_14 u t H1 locs ht hvm hw hB hz1 hk1 hS => ?_)
  obtain ⟨F_15, hB1⟩ := hB
  obtain rfl : F = F_15 := (funext (fun a => hB1.2.2.2 a List.not_mem_nil)).symm
  obtain ⟨hP, hD, hO, hR⟩ := QTm.back hB1 ht hFc hR (fun q h => absurd h List.not_mem_nil)
  generalize H1 = H at hP hS ⊢
  have hw : FND (gA (F tbx)) (gA (F y0)) (gA (F y1)) z C k0 r_14 := hw
  have hw_16 := hw
  refine lv_istore (lv' := [(4, .int r_14), (0, .ref g0), (1, .ref q), (2, .int 64), (3, .ref gq)]) hx hb dX15_base_5 hl (by decide) rfl (fun ls hl => ?_)
  refine lv_iload hx hb dX15_base_7 (lv_at hl 0 rfl) ?_
  refine lv_if_ge (tgt := 14) hx hb dX15_base_9 (by decide) (fun c_17 => ?_) (fun c_17 => ?_)
  ·
    obtain ⟨kf_18, hkf_18, ekf_18⟩ := FND.pos hw_16 (Int32.not_lt.mpr c_17)
    subst ekf_18
    refine lv_aload_n hx hb dX15_base_14 rfl (lv_at hl 1 rfl) ?_
    refine pg_get (ci := 13) (v := .ref y1) (C := RX13) (T := TX13) (N := 5) hx hb hts it_13 hown hK hP hL_g0 hF0 rfl 2 (by decide) (hts _ kt_840) (fun _ h9 => h9) rfl dX15_base_15 ?_
    refine lv_iload hx hb dX15_base_18 (lv_at hl 0 rfl) ?_
    obtain ⟨f_19, hF_20, hq_21⟩ := hO.idb hi_2 ht_5
    refine pg_iald hx hb hK hP hi_2 0 hF_20 rfl (vp_in_nI (by omega) (by omega)) dX15_base_20 ?_
    obtain ⟨k_22, hk_23, ek_24⟩ := hq_21 ((nI kf_18) : Int32).toNatClampNeg
    refine lv_topi (fun x_25 ex_25 => ?_)
    obtain rfl : x_25 = nI k_22 := ex_25.trans ek_24
    refine lv_iconst (v := 1) hx hb dX15_base_21 (by decide) ?_
    refine lv_iadd hx hb dX15_base_22 ?_
    refine lv_topi (fun x_26 ex_26 => ?_)
    obtain rfl : x_26 = (nI (k_22 + 1)) := ex_26.trans (nI_add k_22 1)
    refine lv_istore (lv' := [(5, .int (nI (k_22 + 1))), (4, .int (nI kf_18)), (0, .ref g0), (1, .ref q), (2, .int 64), (3, .ref gq)]) hx hb dX15_base_23 hl (by decide) rfl (fun ls hl => ?_)
    refine lv_bipush (v := 8) hx hb dX15_base_25 (by decide) ?_
    refine lv_iload_n hx hb dX15_base_27 rfl (lv_at hl 4 rfl) ?_
    refine lv_imul hx hb dX15_base_28 ?_
    refine lv_topi (fun x_27 ex_27 => ?_)
    obtain rfl : x_27 = 512 := ex_27.trans (by decide)
    refine lv_iconst (v := 5) hx hb dX15_base_29 (by decide) ?_
    refine lv_iadd hx hb dX15_base_30 ?_
    refine lv_topi (fun x_28 ex_28 => ?_)
    obtain rfl : x_28 = 517 := ex_28.trans (by decide)
    refine lv_bipush (v := 6) hx hb dX15_base_31 (by decide) ?_
    refine lv_idiv hx hb dX15_base_33 (by decide) ?_
    refine lv_topi (fun x_29 ex_29 => ?_)
    obtain rfl : x_29 = 86 := ex_29.trans (by decide)
    refine lv_istore (lv' := [(6, .int 86), (5, .int (nI (k_22 + 1))), (4, .int (nI kf_18)), (0, .ref g0), (1, .ref q), (2, .int 64), (3, .ref gq)]) hx hb dX15_base_34 hl (by decide) rfl (fun ls hl => ?_)
    refine lv_iload hx hb dX15_base_36 (lv_at hl 0 rfl) ?_
    refine lv_iconst (v := 3) hx hb dX15_base_38 (by decide) ?_
    refine lv_iadd hx hb dX15_base_39 ?_
    refine lv_topi (fun x_30 ex_30 => ?_)
    obtain rfl : x_30 = 89 := ex_30.trans (by decide)
    refine lv_iconst (v := 4) hx hb dX15_base_40 (by decide) ?_
    refine lv_idiv hx hb dX15_base_41 (by decide) ?_
    refine lv_topi (fun x_31 ex_31 => ?_)
    obtain rfl : x_31 = 22 := ex_31.trans (by decide)
    refine lv_iconst (v := 4) hx hb dX15_base_42 (by decide) ?_
    refine lv_imul hx hb dX15_base_43 ?_
    refine lv_topi (fun x_32 ex_32 => ?_)
    obtain rfl : x_32 = 88 := ex_32.trans (by decide)
    refine lv_istore (lv' := [(7, .int 88), (6, .int 86), (5, .int (nI (k_22 + 1))), (4, .int (nI kf_18)), (0, .ref g0), (1, .ref q), (2, .int 64), (3, .ref gq)]) hx hb dX15_base_44 hl (by decide) rfl (fun ls hl => ?_)
    refine lv_aload_n hx hb dX15_base_46 rfl (lv_at hl 4 rfl) ?_
    refine pg_get (ci := 13) (v := .ref y2) (C := RX13) (T := TX13) (N := 5) hx hb hts it_13 hown hK hP hL_g0 hF0 rfl 3 (by decide) (hts _ kt_841) (fun _ h9 => h9) rfl dX15_base_47 ?_
    refine lv_iload hx hb dX15_base_50 (lv_at hl 3 rfl) ?_
    obtain ⟨f_33, hF_34, hq_35⟩ := hO.idb hi_3 ht_6
    refine pg_iald hx hb hK hP hi_3 0 hF_34 rfl (vp_in_nI (by omega) (by omega)) dX15_base_52 ?_
    obtain ⟨k_36, hk_37, ek_38⟩ := hq_35 ((nI kf_18) : Int32).toNatClampNeg
    refine lv_topi (fun x_39 ex_39 => ?_)
    obtain rfl : x_39 = nI k_36 := ex_39.trans ek_38
    refine lv_iload hx hb dX15_base_53 (lv_at hl 2 rfl) ?_
    refine lv_isub hx hb dX15_base_55 ?_
    refine lv_topi (fun x_40 ex_40 => ?_)
    obtain rfl : x_40 = ((nI k_36) - (nI (k_22 + 1))) := ex_40.trans (rfl)
    refine lv_iload hx hb dX15_base_56 (lv_at hl 0 rfl) ?_
    refine lv_icmp_eq (tgt := 63) hx hb dX15_base_58 (by decide) (fun c_41 => ?_) (fun c_41 => ?_)
    ·
      have hto := sub_eqN (z := 88) c_41 (by omega) (by omega) (by omega)
      refine lv_lconst (v := 0) hx hb dX15_base_63 (by decide) ?_
      refine lv_lstore (lv' := [(8, .long 0), (7, .int 88), (6, .int 86), (5, .int (nI (k_22 + 1))), (4, .int (nI kf_18)), (0, .ref g0), (1, .ref q), (2, .int 64), (3, .ref gq)]) hx hb dX15_base_64 hl (by decide) rfl (fun ls hl => ?_)
      refine lv_iconst (v := 0) hx hb dX15_base_66 (by decide) ?_
      refine lv_istore (lv' := [(10, .int 0), (8, .long 0), (7, .int 88), (6, .int 86), (5, .int (nI (k_22 + 1))), (4, .int (nI kf_18)), (0, .ref g0), (1, .ref q), (2, .int 64), (3, .ref gq)]) hx hb dX15_base_67 hl (by decide) rfl (fun ls hl => ?_)
      refine lv_iconst (v := 0) hx hb dX15_base_69 (by decide) ?_
      refine lv_istore (lv' := [(11, .int 0), (10, .int 0), (8, .long 0), (7, .int 88), (6, .int 86), (5, .int (nI (k_22 + 1))), (4, .int (nI kf_18)), (0, .ref g0), (1, .ref q), (2, .int 64), (3, .ref gq)]) hx hb dX15_base_70 hl (by decide) rfl (fun ls hl => ?_)
      refine lv_iconst (v := 0) hx hb dX15_base_72 (by decide) ?_
      refine lv_istore (lv' := [(12, .int 0), (11, .int 0), (10, .int 0), (8, .long 0), (7, .int 88), (6, .int 86), (5, .int (nI (k_22 + 1))), (4, .int (nI kf_18)), (0, .ref g0), (1, .ref q), (2, .int 64), (3, .ref gq)]) hx hb dX15_base_73 hl (by decide) rfl (fun ls hl => ?_)
      refine W.widen (k := 0) (n := 0) (by omega) (by omega) ?_
      refine pl_loopm (σ := Nat × Nat × Nat × Int64) A (dC, dI) cs ty gm L [τ] F 75 14 (fun (i, hv, md, w8) => [(12, .int (nI i)), (11, .int (nI md)), (10, .int (nI hv)), (8, .long w8), (7, .int 88), (6, .int 86), (5, .int (nI (k_22 + 1))), (4, .int (nI kf_18)), (0, .ref g0), (1, .ref q), (2, .int 64), (3, .ref gq)]) (fun (i, hv, md, w8) => []) (fun (i, hv, md, w8) _ => hv + 8 * md = 6 * i ∧ hv < 8 ∧ i ≤ 86) (fun (i, hv, md, w8) => 86 - i) ?_ (0, 0, 0, 0) F (⟨by omega, by omega, by omega⟩) hO hR _ _ hP hD hS ls (lv_sub hl [0, 1, 2, 3, 4, 5, 6, 7, 8, 9, 10, 11] rfl)
      rintro ⟨i, hv, md, w8⟩ F_42 hv_43 hO hR ih_44 H locs hP hD hS ls hl
      have hl : lv_has ls 14 [(12, .int (nI i)), (11, .int (nI md)), (10, .int (nI hv)), (8, .long w8), (7, .int 88), (6, .int 86), (5, .int (nI (k_22 + 1))), (4, .int (nI kf_18)), (0, .ref g0), (1, .ref q), (2, .int 64), (3, .ref gq)] := hl
      have hv_43 : hv + 8 * md = 6 * i ∧ hv < 8 ∧ i ≤ 86 := hv_43
      refine W.eq (g2 := F0 m 75 ls []) rfl ?_
      obtain ⟨hi1, hi2, hi3⟩ := hv_43
      refine lv_iload hx hb dX15_base_75 (lv_at hl 0 rfl) ?_
      refine lv_iload hx hb dX15_base_77 (lv_at hl 5 rfl) ?_
      refine lv_icmp_ge (tgt := 166) hx hb dX15_base_79 (by decide) (fun c_45 => ?_) (fun c_45 => ?_)
      ·
        have hi_46 : 86 ≤ i := leN (N := 86) c_45
        refine lv_iload hx hb dX15_base_166 (lv_at hl 5 rfl) ?_
        refine lv_istore (lv' := [(12, .int 86), (11, .int (nI md)), (10, .int (nI hv)), (8, .long w8), (7, .int 88), (6, .int 86), (5, .int (nI (k_22 + 1))), (4, .int (nI kf_18)), (0, .ref g0), (1, .ref q), (2, .int 64), (3, .ref gq)]) hx hb dX15_base_168 hl (by decide) rfl (fun ls hl => ?_)
        refine W.widen (k := 0) (n := 0) (by omega) (by omega) ?_
        refine pl_loopm (σ := Nat) A (dC, dI) cs ty gm L [τ] F 170 14 (fun i2 => [(12, .int (nI i2)), (8, .long w8), (7, .int 88), (6, .int 86), (5, .int (nI (k_22 + 1))), (4, .int (nI kf_18)), (0, .ref g0), (1, .ref q), (2, .int 64), (3, .ref gq)]) (fun i2 => []) (fun i2 _ => i2 ≤ 88) (fun i2 => 88 - i2) ?_ 86 F_42 (by omega) hO hR _ _ hP hD hS ls (lv_sub hl [0, 3, 4, 5, 6, 7, 8, 9, 10, 11] rfl)
        rintro i2 F_47 hv_48 hO hR ih_49 H locs hP hD hS ls hl
        have hl : lv_has ls 14 [(12, .int (nI i2)), (8, .long w8), (7, .int 88), (6, .int 86), (5, .int (nI (k_22 + 1))), (4, .int (nI kf_18)), (0, .ref g0), (1, .ref q), (2, .int 64), (3, .ref gq)] := hl
        have hv_48 : i2 ≤ 88 := hv_48
        refine W.eq (g2 := F0 m 170 ls []) rfl ?_
        refine lv_iload hx hb dX15_base_170 (lv_at hl 0 rfl) ?_
        refine lv_iload hx hb dX15_base_172 (lv_at hl 2 rfl) ?_
        refine lv_icmp_ge (tgt := 203) hx hb dX15_base_174 (by decide) (fun c_50 => ?_) (fun c_50 => ?_)
        ·
          have hi_51 : 88 ≤ i2 := leN (N := 88) c_50
          refine lv_lload hx hb dX15_base_203 (lv_at hl 1 rfl) ?_
          refine lv_lconst (v := 0) hx hb dX15_base_205 (by decide) ?_
          refine W.lcmp hx hb dX15_base_206 ?_
          refine lv_topi (fun x_52 ex_52 => ?_)
          refine lv_if_ne (tgt := 214) hx hb dX15_base_207 (by decide) (fun c_53 => ?_) (fun c_53 => ?_)
          ·
            refine lv_iconst (v := 0) hx hb dX15_base_214 (by decide) ?_
            refine W.widen (k := 0) (n := 0) (by omega) (by omega) ?_
            exact W.zret (v := 0) (ty := .boolean) hx hb hr (by decide) (fun t ht hWm => ⟨⟨0, (), rfl, (by first | exact Or.inl rfl | exact Or.inr rfl), ⟨F_47, QTm.mk ht hP hD hO hR⟩⟩, hS.F ht⟩) hS.2.2 dX15_base_215
          ·
            refine lv_iconst (v := 1) hx hb dX15_base_210 (by decide) ?_
            refine lv_goto (tgt := 215) hx hb dX15_base_211 (by decide) ?_
            refine W.widen (k := 0) (n := 0) (by omega) (by omega) ?_
            exact W.zret (v := 1) (ty := .boolean) hx hb hr (by decide) (fun t ht hWm => ⟨⟨1, (), rfl, (by first | exact Or.inl rfl | exact Or.inr rfl), ⟨F_47, QTm.mk ht hP hD hO hR⟩⟩, hS.F ht⟩) hS.2.2 dX15_base_215
        ·
          have hi_54 : i2 < 88 := ltN (N := 88) c_50
          refine lv_aload_n hx hb dX15_base_177 rfl (lv_at hl 6 rfl) ?_
          obtain ⟨z_55, hF_56, hq_57⟩ := hO.tags hL_g0 hT_g0
          refine pg_get (ci := 13) (v := .ref tx) (C := RX13) (T := TX13) (N := 5) hx hb hts it_13 hown hK hP hL_g0 hF_56 rfl 0 (by decide) (hts _ kt_842) (fun _ h9 => h9) rfl dX15_base_178 ?_
          obtain ⟨z_58, hF_59, hq_60⟩ := hO.txt hL_tx hT_tx
          refine pg_get (ci := 14) (v := .ref tbx) (C := RX14) (T := TX14) (N := 2) hx hb hts it_14 hown hK hP hL_tx hF_59 rfl 0 (by decide) (hts _ kt_710) (fun _ h9 => h9) rfl dX15_base_181 ?_
          refine lv_iload hx hb dX15_base_184 (lv_at hl 4 rfl) ?_
          refine lv_iload hx hb dX15_base_186 (lv_at hl 0 rfl) ?_
          refine lv_iadd hx hb dX15_base_188 ?_
          refine lv_topi (fun x_61 ex_61 => ?_)
          obtain rfl : x_61 = (nI ((k_22 + 1) + i2)) := ex_61.trans (nI_add (k_22 + 1) i2)
          obtain ⟨hq_62, hq_63⟩ := hW.octs hi_9 ht_10
          obtain ⟨f_64, hF_65, hq_66⟩ := hO.octs hi_9 ht_10
          refine pg_bald hx hb hK hP hi_9 1 hF_65 rfl (vp_in_nI (by omega) (by omega)) dX15_base_189 ?_
          refine lv_topi (fun x_67 ex_67 => ?_)
          obtain rfl : x_67 = f_64 ((k_22 + 1) + i2) := ex_67.trans (congrArg f_64 (show ((nI ((k_22 + 1) + i2)) : Int32).toNatClampNeg = ((k_22 + 1) + i2) from nI_clamp (by omega)))
          refine lv_bipush (v := 61) hx hb dX15_base_190 (by decide) ?_
          refine lv_icmp_eq (tgt := 197) hx hb dX15_base_192 (by decide) (fun c_68 => ?_) (fun c_68 => ?_)
          ·
            refine lv_iinc (v := (nI (i2 + 1))) (lv' := [(12, .int (nI (i2 + 1))), (8, .long w8), (7, .int 88), (6, .int 86), (5, .int (nI (k_22 + 1))), (4, .int (nI kf_18)), (0, .ref g0), (1, .ref q), (2, .int 64), (3, .ref gq)]) hx hb dX15_base_197 hl (k := 0) rfl (nI_1 _) (by decide) rfl (fun ls hl => ?_)
            refine lv_goto (tgt := 170) hx hb dX15_base_200 (by decide) ?_
            refine W.widen (k := 0) (n := 0) (by omega) (by omega) ?_
            exact ih_49 (i2 + 1) F_47 (by first | omega | exact ⟨by omega, by omega⟩ | trivial) (by show 88 - (i2 + 1) < 88 - i2; omega) hO hR _ _ hP hD hS ls (lv_sub hl [0, 1, 2, 3, 4, 5, 6, 7, 8, 9] rfl)
          ·
            refine lv_iconst (v := 0) hx hb dX15_base_195 (by decide) ?_
            refine W.widen (k := 0) (n := 0) (by omega) (by omega) ?_
            exact W.zret (v := 0) (ty := .boolean) hx hb hr (by decide) (fun t ht hWm => ⟨⟨0, (), rfl, (by first | exact Or.inl rfl | exact Or.inr rfl), ⟨F_47, QTm.mk ht hP hD hO hR⟩⟩, hS.F ht⟩) hS.2.2 dX15_base_196
      ·
        have hi_69 : i < 86 := ltN (N := 86) c_45
        refine lv_aload_n hx hb dX15_base_82 rfl (lv_at hl 8 rfl) ?_
        obtain ⟨z_70, hF_71, hq_72⟩ := hO.tags hL_g0 hT_g0
        refine pg_get (ci := 13) (v := .ref tx) (C := RX13) (T := TX13) (N := 5) hx hb hts it_13 hown hK hP hL_g0 hF_71 rfl 0 (by decide) (hts _ kt_842) (fun _ h9 => h9) rfl dX15_base_83 ?_
        obtain ⟨z_73, hF_74, hq_75⟩ := hO.txt hL_tx hT_tx
        refine pg_get (ci := 14) (v := .ref tbx) (C := RX14) (T := TX14) (N := 2) hx hb hts it_14 hown hK hP hL_tx hF_74 rfl 0 (by decide) (hts _ kt_710) (fun _ h9 => h9) rfl dX15_base_86 ?_
        refine lv_iload hx hb dX15_base_89 (lv_at hl 6 rfl) ?_
        refine lv_iload hx hb dX15_base_91 (lv_at hl 0 rfl) ?_
        refine lv_iadd hx hb dX15_base_93 ?_
        refine lv_topi (fun x_76 ex_76 => ?_)
        obtain rfl : x_76 = (nI ((k_22 + 1) + i)) := ex_76.trans (nI_add (k_22 + 1) i)
        obtain ⟨hq_77, hq_78⟩ := hW.octs hi_9 ht_10
        obtain ⟨f_79, hF_80, hq_81⟩ := hO.octs hi_9 ht_10
        refine pg_bald hx hb hK hP hi_9 1 hF_80 rfl (vp_in_nI (by omega) (by omega)) dX15_base_94 ?_
        refine lv_topi (fun x_82 ex_82 => ?_)
        obtain rfl : x_82 = f_79 ((k_22 + 1) + i) := ex_82.trans (congrArg f_79 (show ((nI ((k_22 + 1) + i)) : Int32).toNatClampNeg = ((k_22 + 1) + i) from nI_clamp (by omega)))
        have hFc := pg_free hD hS hA
        refine va_calli (va_runS (As := [.int (f_79 ((k_22 + 1) + i))]) (rest := []) ⟨hx, hb, hml, hown, hts⟩ (s_X15_digitOf l dC dI cs ty gm L H.size F_42 (f_79 ((k_22 + 1) + i)) hW ) ⟨callB_of 1 hts (gi kt_843) rfl rfl rfl (hts _ kt_669) (hts _ kt_844) (by decide +kernel) ⟨Nat.le_of_ble_eq_true rfl, Nat.le_of_ble_eq_true rfl⟩, (hts _ kt_845)⟩ ⟨fun a U g mk q => ⟨q.1, PTm.calling q.2⟩, fun U hU hWm => ⟨rfl, PTm.mk hU hWm hP hK hD hE hO⟩⟩ rfl rfl hl.1 rfl (lv_room (Nat.le_of_ble_eq_true rfl)) dX15_base_95 ⟨by show _ + 0 ≤ 0; omega, by show _ + 0 ≤ 0; omega⟩) hS (fun q _ h => hFc q h) hFc (fun r_83 u t H1 locs ht hvm hw hB hz1 hk1 hS => ?_)
        obtain ⟨F_84, hB1⟩ := hB
        obtain rfl : F_42 = F_84 := (funext (fun a => hB1.2.2.2 a List.not_mem_nil)).symm
        obtain ⟨hP, hD, hO, hR⟩ := QTm.back hB1 ht hFc hR (fun q h => absurd h List.not_mem_nil)
        generalize H1 = H at hP hS ⊢
        have hw : True := hw
        have hw_85 := hw
        refine lv_istore (lv' := [(13, .int r_83), (12, .int (nI i)), (11, .int (nI md)), (10, .int (nI hv)), (8, .long w8), (7, .int 88), (6, .int 86), (5, .int (nI (k_22 + 1))), (4, .int (nI kf_18)), (0, .ref g0), (1, .ref q), (2, .int 64), (3, .ref gq)]) hx hb dX15_base_98 hl (by decide) rfl (fun ls hl => ?_)
        refine lv_iload hx hb dX15_base_100 (lv_at hl 0 rfl) ?_
        refine lv_if_ge (tgt := 107) hx hb dX15_base_102 (by decide) (fun c_86 => ?_) (fun c_86 => ?_)
        ·
          refine lv_lload hx hb dX15_base_107 (lv_at hl 4 rfl) ?_
          refine lv_bipush (v := 6) hx hb dX15_base_109 (by decide) ?_
          refine lv_lshl hx hb dX15_base_111 rfl ?_
          refine lv_topl (fun x_88 _ => ?_)
          refine lv_iload hx hb dX15_base_112 (lv_at hl 0 rfl) ?_
          refine lv_i2l (v := r_83.toInt64) hx hb dX15_base_114 rfl ?_
          refine lv_lor hx hb dX15_base_115 ?_
          refine lv_topl (fun x_89 _ => ?_)
          refine lv_lstore (lv' := [(8, .long x_89), (13, .int r_83), (12, .int (nI i)), (11, .int (nI md)), (10, .int (nI hv)), (7, .int 88), (6, .int 86), (5, .int (nI (k_22 + 1))), (4, .int (nI kf_18)), (0, .ref g0), (1, .ref q), (2, .int 64), (3, .ref gq)]) hx hb dX15_base_116 hl (by decide) rfl (fun ls hl => ?_)
          refine lv_iinc (v := (nI (hv + 6))) (lv' := [(10, .int (nI (hv + 6))), (8, .long x_89), (13, .int r_83), (12, .int (nI i)), (11, .int (nI md)), (7, .int 88), (6, .int 86), (5, .int (nI (k_22 + 1))), (4, .int (nI kf_18)), (0, .ref g0), (1, .ref q), (2, .int 64), (3, .ref gq)]) hx hb dX15_base_118 hl (k := 4) rfl (nI_add hv 6) (by decide) rfl (fun ls hl => ?_)
          refine lv_iload hx hb dX15_base_121 (lv_at hl 0 rfl) ?_
          refine lv_bipush (v := 8) hx hb dX15_base_123 (by decide) ?_
          refine lv_icmp_ge (tgt := 131) hx hb dX15_base_125 (by decide) (fun c_90 => ?_) (fun c_90 => ?_)
          ·
            have hi_91 : 8 ≤ (hv + 6) := leN (N := 8) c_90
            refine lv_iinc (v := (nI (hv + 6 - 8))) (lv' := [(10, .int (nI (hv + 6 - 8))), (8, .long x_89), (13, .int r_83), (12, .int (nI i)), (11, .int (nI md)), (7, .int 88), (6, .int 86), (5, .int (nI (k_22 + 1))), (4, .int (nI kf_18)), (0, .ref g0), (1, .ref q), (2, .int 64), (3, .ref gq)]) hx hb dX15_base_131 hl (k := 0) rfl (m8N (by omega)) (by decide) rfl (fun ls hl => ?_)
            refine lv_aload_n hx hb dX15_base_134 rfl (lv_at hl 12 rfl) ?_
            refine lv_iload hx hb dX15_base_135 (lv_at hl 4 rfl) ?_
            refine lv_lload hx hb dX15_base_137 (lv_at hl 1 rfl) ?_
            refine lv_iload hx hb dX15_base_139 (lv_at hl 0 rfl) ?_
            refine lv_lshr hx hb dX15_base_141 rfl ?_
            refine lv_topl (fun x_93 _ => ?_)
            refine lv_l2i hx hb dX15_base_142 rfl ?_
            refine lv_topi (fun x_94 _ => ?_)
            refine lv_i2b hx hb dX15_base_143 rfl ?_
            refine lv_topi (fun x_95 _ => ?_)
            obtain ⟨f_96, hF_97, hq_98⟩ := hO.octs hL_gq hT_gq
            refine pg_bast hx hb hK hP hD hS hL_gq 1 hF_97 rfl (vp_in_nI (by omega) (by omega)) dX15_base_144 (fun H locs hP hD hS => ?_)
            obtain ⟨F_99, he_100, hP, hD, hO, hR⟩ : ∃ G, G = va_up F_42 gq (.inl (cs 17, 64, .inl (upd f_96 ((nI md)).toNatClampNeg (vp_nar .byte (x_95))))) ∧ va_P (dC, dI) vwCl (va_pl L G) H ∧ va_D A (va_pl L G) ∧ OKm cs ty gm L G ∧ FR ty [τ] F G := ⟨_, rfl, hP, hD, hO.up (shm.octs hT_gq ⟨_, rfl, bfm_upd hq_98 _ _⟩), hR.up hT_gq (by simp)⟩
            have hF_101 : F_99 gq = .inl (cs 17, 64, .inl (upd f_96 ((nI md)).toNatClampNeg (vp_nar .byte (x_95)))) := by rw [he_100]; exact up_self
            have hF_102 : F_99 g0 = .inr (13, [.ref tx, .ref y0, .ref y1, .ref y2, .int (nI z_70)]) := by rw [he_100, up_ne (ne_ty hT_g0 hT_gq (by simp))]; exact hF_71
            have hF_103 : F_99 tx = .inr (14, [.ref tbx, .int (nI z_73)]) := by rw [he_100, up_ne (ne_ty hT_tx hT_gq (by simp))]; exact hF_74
            obtain ⟨f_104, hF_101, hq_105⟩ : ∃ f : Nat → Int32, F_99 gq = .inl (cs 17, 64, .inl f) ∧ BFm f := ⟨_, hF_101, bfm_upd hq_98 _ _⟩
            refine lv_iinc (v := (nI (md + 1))) (lv' := [(11, .int (nI (md + 1))), (10, .int (nI (hv + 6 - 8))), (8, .long x_89), (13, .int r_83), (12, .int (nI i)), (7, .int 88), (6, .int 86), (5, .int (nI (k_22 + 1))), (4, .int (nI kf_18)), (0, .ref g0), (1, .ref q), (2, .int 64), (3, .ref gq)]) hx hb dX15_base_145 hl (k := 4) rfl (nI_1 _) (by decide) rfl (fun ls hl => ?_)
            refine lv_lload hx hb dX15_base_148 (lv_at hl 2 rfl) ?_
            refine lv_iconst (v := 1) hx hb dX15_base_150 (by decide) ?_
            refine lv_iload hx hb dX15_base_151 (lv_at hl 1 rfl) ?_
            refine lv_ishl hx hb dX15_base_153 ?_
            refine lv_topi (fun x_106 _ => ?_)
            refine lv_iconst (v := 1) hx hb dX15_base_154 (by decide) ?_
            refine lv_isub hx hb dX15_base_155 ?_
            refine lv_topi (fun x_107 ex_107 => ?_)
            refine lv_i2l (v := x_107.toInt64) hx hb dX15_base_156 rfl ?_
            refine lv_land hx hb dX15_base_157 ?_
            refine lv_topl (fun x_108 _ => ?_)
            refine lv_lstore (lv' := [(8, .long x_108), (11, .int (nI (md + 1))), (10, .int (nI (hv + 6 - 8))), (13, .int r_83), (12, .int (nI i)), (7, .int 88), (6, .int 86), (5, .int (nI (k_22 + 1))), (4, .int (nI kf_18)), (0, .ref g0), (1, .ref q), (2, .int 64), (3, .ref gq)]) hx hb dX15_base_158 hl (by decide) rfl (fun ls hl => ?_)
            refine lv_iinc (v := (nI (i + 1))) (lv' := [(12, .int (nI (i + 1))), (8, .long x_108), (11, .int (nI (md + 1))), (10, .int (nI (hv + 6 - 8))), (13, .int r_83), (7, .int 88), (6, .int 86), (5, .int (nI (k_22 + 1))), (4, .int (nI kf_18)), (0, .ref g0), (1, .ref q), (2, .int 64), (3, .ref gq)]) hx hb dX15_base_160 hl (k := 4) rfl (nI_1 _) (by decide) rfl (fun ls hl => ?_)
            refine lv_goto (tgt := 75) hx hb dX15_base_163 (by decide) ?_
            refine W.widen (k := 0) (n := 0) (by omega) (by omega) ?_
            exact ih_44 ((i + 1), (hv + 6 - 8), (md + 1), x_108) F_99 (⟨by omega, by omega, by omega⟩) (by show 86 - (i + 1) < 86 - i; omega) hO hR _ _ hP hD hS ls (lv_sub hl [0, 2, 3, 1, 5, 6, 7, 8, 9, 10, 11, 12] rfl)
          ·
            have hi_109 : (hv + 6) < 8 := ltN (N := 8) c_90
            refine lv_goto (tgt := 160) hx hb dX15_base_128 (by decide) ?_
            refine lv_iinc (v := (nI (i + 1))) (lv' := [(12, .int (nI (i + 1))), (10, .int (nI (hv + 6))), (8, .long x_89), (13, .int r_83), (11, .int (nI md)), (7, .int 88), (6, .int 86), (5, .int (nI (k_22 + 1))), (4, .int (nI kf_18)), (0, .ref g0), (1, .ref q), (2, .int 64), (3, .ref gq)]) hx hb dX15_base_160 hl (k := 3) rfl (nI_1 _) (by decide) rfl (fun ls hl => ?_)
            refine lv_goto (tgt := 75) hx hb dX15_base_163 (by decide) ?_
            refine W.widen (k := 0) (n := 0) (by omega) (by omega) ?_
            exact ih_44 ((i + 1), (hv + 6), md, x_89) F_42 (⟨by omega, by omega, by omega⟩) (by show 86 - (i + 1) < 86 - i; omega) hO hR _ _ hP hD hS ls (lv_sub hl [0, 4, 1, 2, 5, 6, 7, 8, 9, 10, 11, 12] rfl)
        ·
          refine lv_iconst (v := 0) hx hb dX15_base_105 (by decide) ?_
          refine W.widen (k := 0) (n := 0) (by omega) (by omega) ?_
          exact W.zret (v := 0) (ty := .boolean) hx hb hr (by decide) (fun t ht hWm => ⟨⟨0, (), rfl, (by first | exact Or.inl rfl | exact Or.inr rfl), ⟨F_42, QTm.mk ht hP hD hO hR⟩⟩, hS.F ht⟩) hS.2.2 dX15_base_106
    ·
      refine lv_iconst (v := 0) hx hb dX15_base_61 (by decide) ?_
      refine W.widen (k := 0) (n := 0) (by omega) (by omega) ?_
      exact W.zret (v := 0) (ty := .boolean) hx hb hr (by decide) (fun t ht hWm => ⟨⟨0, (), rfl, (by first | exact Or.inl rfl | exact Or.inr rfl), ⟨F, QTm.mk ht hP hD hO hR⟩⟩, hS.F ht⟩) hS.2.2 dX15_base_62
  ·
    refine lv_iconst (v := 0) hx hb dX15_base_12 (by decide) ?_
    refine W.widen (k := 0) (n := 0) (by omega) (by omega) ?_
    exact W.zret (v := 0) (ty := .boolean) hx hb hr (by decide) (fun t ht hWm => ⟨⟨0, (), rfl, (by first | exact Or.inl rfl | exact Or.inr rfl), ⟨F, QTm.mk ht hP hD hO hR⟩⟩, hS.F ht⟩) hS.2.2 dX15_base_13
set_option maxHeartbeats 4000000 in
set_option maxRecDepth 100000 in
theorem s_X15_number (l : Launch) (dC : Nat → ClassId) (dI : Nat → Nat → Nat) (cs : Nat → ClassId) (ty : TyM) (gm : Nat → Nat → Nat) (L : List Nat) (sz : Nat) (F : Nat → va_E) (g0 : Nat) (σ : Nat) (tx : Nat) (n : Nat) (Bn : Nat) (y0 : Nat) (y1 : Nat) (y2 : Nat) (tbx : Nat) (z : Nat) (q : Nat) (v : Nat) (k0 : Nat) (C : Nat → Int32) (hW : WTm ty gm L) (hL_g0 : g0 ∈ L) (hT_g0 : ty g0 = (13, σ, [tx, n, Bn, y0, y1, y2])) (hL_tx : tx ∈ L) (hT_tx : ty tx = (14, σ + 1, [tbx, n])) (hF0 : F g0 = .inr (13, [.ref tx, .ref y0, .ref y1, .ref y2, .int (nI z)])) (hz40 : z ≤ 40) : Met l yX15_number (.code yX15_number cX15_number 5 (some .int) :: tb) ({ frames := 6, cells := 0, slots := 0, locals := 131 }) (va_Pc [.ref g0, .ref q] (PTEm (dC, dI) cs ty gm L F sz [(q, v, k0, C)])) (va_Qi (fun (r : Int32) (_ : Unit) => True) (fun _ T9 => ∃ F2 : Nat → va_E, QTm (dC, dI) cs ty gm L [] F F2 (va_A (va_pl L F) sz) T9) (va_A (va_pl L F) sz)) 0 0 (va_A (va_pl L F) sz) := by
  refine Met.ofW (cc := cX15_number) (maxL := 5) (ret := (some .int)) (by decide) rfl ?_
  intro p e s m args below meth c s₁ B hml hv
  obtain ⟨rfl, ⟨hsz, hP, hK, hD0, hE, hO⟩, hG, hX⟩ := hv
  have hx := B.exec
  have hb := B.bytes
  have hr := B.returns
  have hts : ∀ w ∈ tb, w.before _ s = true := fun w h => atoms_spec (ws := .code yX15_number cX15_number 5 (some .int) :: tb) B.pre w (List.mem_cons_of_mem _ h)
  have hown : s.vm.findClass RX15 = some m.cls := findClass_of_methodNamed B.named
  have hlocks := B.notSynchronized
  subst hsz
  have hD := hD0.self (sz := s.heap.size)
  generalize hAe : va_A (va_pl L F) s.heap.size = A at hD hG hX ⊢
  have hX_q : SXc q v k0 C A s s.heap := hX (q, v, k0, C) (by simp)
  obtain ⟨xo_q, xc_q, xv_q, xt_q, xn_q⟩ := id hX_q
  have hA : ∀ q : Nat, s.heap.size ≤ q → A q := fun q h => by rw [← hAe]; exact Or.inr h
  have hS : va_S A s.heap s.heap [] := va_S.rf
  have hR : FR ty [] F F := FR.refl
  have hl := lv_entry ([.ref g0, .ref q]) (n := 5) (Nat.le_of_ble_eq_true rfl)
  rw [lg_entry_eq]
  generalize (lg_sl ([.ref g0, .ref q]) ++ List.replicate (5 - (lg_sl ([.ref g0, .ref q])).length) Slot.unset).toArray = ls at hl ⊢
  have hl : lv_has ls 5 [(0, .ref g0), (1, .ref q)] := hl
  obtain ⟨_, hi_1, hi_2, hi_3, _, ht_4, ht_5, ht_6, hq_7, hq_8⟩ := hW.tags hL_g0 hT_g0
  obtain ⟨hi_9, ht_10, hq_11⟩ := hW.txt hL_tx hT_tx
  refine lv_aload_n hx hb dX15_number_0 rfl (lv_at hl 0 rfl) ?_
  refine lv_aload_n hx hb dX15_number_1 rfl (lv_at hl 1 rfl) ?_
  have hFc := pg_free hD hS hA
  refine va_calli (va_runV (As := [.ref q]) (rest := []) ⟨hx, hb, hml, hown, hts⟩ (s_X13_find l dC dI cs ty gm L s.heap.size F g0 σ tx n Bn y0 y1 y2 tbx z q v k0 C hW hL_g0 hT_g0 hL_tx hT_tx hF0 (by first | omega | assumption | exact Or.inl rfl)) ⟨callB_of 1 hts (gi kt_828) rfl rfl rfl (hts _ kt_829) (hts _ kt_839) (by decide +kernel) ⟨Nat.le_of_ble_eq_true rfl, Nat.le_of_ble_eq_true rfl⟩, (hts _ kt_831), (hts _ kt_832)⟩ ⟨fun a U g mk q => ⟨q.1, PTEm.calling q.2⟩, pg_recv hK hP hL_g0 hF0 (q := (RX13, TX13, 5)) rfl, fun U hU hWm => ⟨rfl, PTEm.mk hU hWm hP hK hD hE hO hG (fun x hx => by rw [List.mem_singleton] at hx; subst hx; exact hX_q) hS hFc⟩⟩ rfl rfl hl.1 rfl (lv_room (Nat.le_of_ble_eq_true rfl)) dX15_number_2 ⟨by show _ + 0 ≤ 0; omega, by show _ + 0 ≤ 0; omega⟩) hS (fun q _ h => hFc q h) hFc (fun r_12 u t H1 locs ht hvm hw hB hz1 hk1 hS => ?_)
  obtain ⟨F_13, hB1⟩ := hB
  obtain rfl : F = F_13 := (funext (fun a => hB1.2.2.2 a List.not_mem_nil)).symm
  obtain ⟨hP, hD, hO, hR⟩ := QTm.back hB1 ht hFc hR (fun q h => absurd h List.not_mem_nil)
  generalize H1 = H at hP hS ⊢
  have hw : FND (gA (F tbx)) (gA (F y0)) (gA (F y1)) z C k0 r_12 := hw
  have hw_14 := hw
  refine lv_istore_n (lv' := [(2, .int r_12), (0, .ref g0), (1, .ref q)]) hx hb dX15_number_5 rfl hl (by decide) rfl (fun ls hl => ?_)
  refine lv_iconst (v := 0) hx hb dX15_number_6 (by decide) ?_
  refine lv_istore_n (lv' := [(3, .int 0), (2, .int r_12), (0, .ref g0), (1, .ref q)]) hx hb dX15_number_7 rfl hl (by decide) rfl (fun ls hl => ?_)
  refine lv_iload_n hx hb dX15_number_8 rfl (lv_at hl 1 rfl) ?_
  refine lv_if_ge (tgt := 14) hx hb dX15_number_9 (by decide) (fun c_15 => ?_) (fun c_15 => ?_)
  ·
    obtain ⟨kf_16, hkf_16, ekf_16⟩ := FND.pos hw_14 (Int32.not_lt.mpr c_15)
    subst ekf_16
    refine lv_aload_n hx hb dX15_number_14 rfl (lv_at hl 2 rfl) ?_
    refine pg_get (ci := 13) (v := .ref y2) (C := RX13) (T := TX13) (N := 5) hx hb hts it_13 hown hK hP hL_g0 hF0 rfl 3 (by decide) (hts _ kt_841) (fun _ h9 => h9) rfl dX15_number_15 ?_
    refine lv_iload_n hx hb dX15_number_18 rfl (lv_at hl 1 rfl) ?_
    obtain ⟨f_17, hF_18, hq_19⟩ := hO.idb hi_3 ht_6
    refine pg_iald hx hb hK hP hi_3 0 hF_18 rfl (vp_in_nI (by omega) (by omega)) dX15_number_19 ?_
    obtain ⟨k_20, hk_21, ek_22⟩ := hq_19 ((nI kf_16) : Int32).toNatClampNeg
    refine lv_topi (fun x_23 ex_23 => ?_)
    obtain rfl : x_23 = nI k_20 := ex_23.trans ek_22
    refine lv_aload_n hx hb dX15_number_20 rfl (lv_at hl 2 rfl) ?_
    refine pg_get (ci := 13) (v := .ref y1) (C := RX13) (T := TX13) (N := 5) hx hb hts it_13 hown hK hP hL_g0 hF0 rfl 2 (by decide) (hts _ kt_840) (fun _ h9 => h9) rfl dX15_number_21 ?_
    refine lv_iload_n hx hb dX15_number_24 rfl (lv_at hl 1 rfl) ?_
    obtain ⟨f_24, hF_25, hq_26⟩ := hO.idb hi_2 ht_5
    refine pg_iald hx hb hK hP hi_2 0 hF_25 rfl (vp_in_nI (by omega) (by omega)) dX15_number_25 ?_
    obtain ⟨k_27, hk_28, ek_29⟩ := hq_26 ((nI kf_16) : Int32).toNatClampNeg
    refine lv_topi (fun x_30 ex_30 => ?_)
    obtain rfl : x_30 = nI k_27 := ex_30.trans ek_29
    refine lv_isub hx hb dX15_number_26 ?_
    refine lv_topi (fun x_31 ex_31 => ?_)
    obtain rfl : x_31 = ((nI k_20) - (nI k_27)) := ex_31.trans (rfl)
    refine lv_iconst (v := 1) hx hb dX15_number_27 (by decide) ?_
    refine lv_isub hx hb dX15_number_28 ?_
    refine lv_topi (fun x_32 ex_32 => ?_)
    obtain rfl : x_32 = (((nI k_20) - (nI k_27)) - 1) := ex_32.trans (rfl)
    refine lv_i2l (v := (((nI k_20) - (nI k_27)) - 1).toInt64) hx hb dX15_number_29 rfl ?_
    refine lv_lconst (v := 1) hx hb dX15_number_30 (by decide) ?_
    refine lv_ldc2 (v := 9) hx hb hown (hts _ kt_846) dX15_number_31 ?_
    have hFc := pg_free hD hS hA
    refine va_calli (va_runS (As := [.long ((((nI k_20) - (nI k_27)) - 1).toInt64), .long 1, .long 9]) (rest := []) ⟨hx, hb, hml, hown, hts⟩ (s_X15_in l dC dI cs ty gm L H.size F ((((nI k_20) - (nI k_27)) - 1).toInt64) 1 9 hW ) ⟨callB_of 3 hts (gi kt_685) rfl rfl rfl (hts _ kt_669) (hts _ kt_705) (by decide +kernel) ⟨Nat.le_of_ble_eq_true rfl, Nat.le_of_ble_eq_true rfl⟩, (hts _ kt_686)⟩ ⟨fun a U g mk q => ⟨q.1, PTm.calling q.2⟩, fun U hU hWm => ⟨rfl, PTm.mk hU hWm hP hK hD hE hO⟩⟩ rfl rfl hl.1 rfl (lv_room (Nat.le_of_ble_eq_true rfl)) dX15_number_34 ⟨by show _ + 0 ≤ 0; omega, by show _ + 0 ≤ 0; omega⟩) hS (fun q _ h => hFc q h) hFc (fun r_33 u t H1 locs ht hvm hw hB hz1 hk1 hS => ?_)
    obtain ⟨F_34, hB1⟩ := hB
    obtain rfl : F = F_34 := (funext (fun a => hB1.2.2.2 a List.not_mem_nil)).symm
    obtain ⟨hP, hD, hO, hR⟩ := QTm.back hB1 ht hFc hR (fun q h => absurd h List.not_mem_nil)
    generalize H1 = H at hP hS ⊢
    have hw : r_33 = (if 1 ≤ (((nI k_20) - (nI k_27)) - 1).toInt64 ∧ (((nI k_20) - (nI k_27)) - 1).toInt64 ≤ 9 then 1 else 0) := hw
    have hw_35 := hw
    refine lv_if_ne (tgt := 43) hx hb dX15_number_37 (by decide) (fun c_36 => ?_) (fun c_36 => ?_)
    ·
      refine lv_aload_n hx hb dX15_number_43 rfl (lv_at hl 2 rfl) ?_
      refine pg_get (ci := 13) (v := .ref y1) (C := RX13) (T := TX13) (N := 5) hx hb hts it_13 hown hK hP hL_g0 hF0 rfl 2 (by decide) (hts _ kt_840) (fun _ h9 => h9) rfl dX15_number_44 ?_
      refine lv_iload_n hx hb dX15_number_47 rfl (lv_at hl 1 rfl) ?_
      refine pg_iald hx hb hK hP hi_2 0 hF_25 rfl (vp_in_nI (by omega) (by omega)) dX15_number_48 ?_
      refine lv_topi (fun x_37 ex_37 => ?_)
      obtain rfl : x_37 = nI k_27 := ex_37.trans ek_29
      refine lv_iconst (v := 1) hx hb dX15_number_49 (by decide) ?_
      refine lv_iadd hx hb dX15_number_50 ?_
      refine lv_topi (fun x_38 ex_38 => ?_)
      obtain rfl : x_38 = (nI (k_27 + 1)) := ex_38.trans (nI_add k_27 1)
      refine lv_istore (lv' := [(4, .int (nI (k_27 + 1))), (3, .int 0), (2, .int (nI kf_16)), (0, .ref g0), (1, .ref q)]) hx hb dX15_number_51 hl (by decide) rfl (fun ls hl => ?_)
      refine W.widen (k := 0) (n := 0) (by omega) (by omega) ?_
      refine pl_loopm (σ := Nat × Int32) A (dC, dI) cs ty gm L [] F 53 5 (fun (j, w3) => [(4, .int (nI j)), (3, .int w3), (2, .int (nI kf_16)), (0, .ref g0), (1, .ref q)]) (fun (j, w3) => []) (fun (j, w3) _ => j ≤ 10001) (fun (j, w3) => 10001 - j) ?_ ((k_27 + 1), 0) F (by omega) hO hR _ _ hP hD hS ls (lv_sub hl [0, 1, 2, 3, 4] rfl)
      rintro ⟨j, w3⟩ F_39 hv_40 hO hR ih_41 H locs hP hD hS ls hl
      have hl : lv_has ls 5 [(4, .int (nI j)), (3, .int w3), (2, .int (nI kf_16)), (0, .ref g0), (1, .ref q)] := hl
      have hv_40 : j ≤ 10001 := hv_40
      refine W.eq (g2 := F0 m 53 ls []) rfl ?_
      obtain rfl : F = F_39 := (funext (fun a => hR a List.not_mem_nil)).symm
      refine lv_iload hx hb dX15_number_53 (lv_at hl 0 rfl) ?_
      refine lv_aload_n hx hb dX15_number_55 rfl (lv_at hl 3 rfl) ?_
      refine pg_get (ci := 13) (v := .ref y2) (C := RX13) (T := TX13) (N := 5) hx hb hts it_13 hown hK hP hL_g0 hF0 rfl 3 (by decide) (hts _ kt_841) (fun _ h9 => h9) rfl dX15_number_56 ?_
      refine lv_iload_n hx hb dX15_number_59 rfl (lv_at hl 2 rfl) ?_
      refine pg_iald hx hb hK hP hi_3 0 hF_18 rfl (vp_in_nI (by omega) (by omega)) dX15_number_60 ?_
      refine lv_topi (fun x_42 ex_42 => ?_)
      obtain rfl : x_42 = nI k_20 := ex_42.trans ek_22
      refine lv_icmp_ge (tgt := 108) hx hb dX15_number_61 (by decide) (fun c_43 => ?_) (fun c_43 => ?_)
      ·
        have hi_44 : k_20 ≤ j := leN (N := k_20) c_43
        refine lv_iload_n hx hb dX15_number_108 rfl (lv_at hl 1 rfl) ?_
        refine W.widen (k := 0) (n := 0) (by omega) (by omega) ?_
        exact W.iret (v := w3) hx hb hr (fun t ht hWm => ⟨⟨w3, (), rfl, trivial, ⟨F, QTm.mk ht hP hD hO hR⟩⟩, hS.F ht⟩) hS.2.2 dX15_number_109
      ·
        have hi_45 : j < k_20 := ltN (N := k_20) c_43
        refine lv_aload_n hx hb dX15_number_64 rfl (lv_at hl 3 rfl) ?_
        refine pg_get (ci := 13) (v := .ref tx) (C := RX13) (T := TX13) (N := 5) hx hb hts it_13 hown hK hP hL_g0 hF0 rfl 0 (by decide) (hts _ kt_842) (fun _ h9 => h9) rfl dX15_number_65 ?_
        obtain ⟨z_46, hF_47, hq_48⟩ := hO.txt hL_tx hT_tx
        refine pg_get (ci := 14) (v := .ref tbx) (C := RX14) (T := TX14) (N := 2) hx hb hts it_14 hown hK hP hL_tx hF_47 rfl 0 (by decide) (hts _ kt_710) (fun _ h9 => h9) rfl dX15_number_68 ?_
        refine lv_iload hx hb dX15_number_71 (lv_at hl 0 rfl) ?_
        obtain ⟨hq_49, hq_50⟩ := hW.octs hi_9 ht_10
        obtain ⟨f_51, hF_52, hq_53⟩ := hO.octs hi_9 ht_10
        refine pg_bald hx hb hK hP hi_9 1 hF_52 rfl (vp_in_nI (by omega) (by omega)) dX15_number_73 ?_
        refine lv_topi (fun x_54 ex_54 => ?_)
        obtain rfl : x_54 = f_51 j := ex_54.trans (congrArg f_51 (show ((nI j) : Int32).toNatClampNeg = j from nI_clamp (by omega)))
        have hFc := pg_free hD hS hA
        refine va_calli (va_runS (As := [.int (f_51 j)]) (rest := []) ⟨hx, hb, hml, hown, hts⟩ (s_X15_isDigit l dC dI cs ty gm L H.size F (f_51 j) hW ) ⟨callB_of 1 hts (gi kt_687) rfl rfl rfl (hts _ kt_669) (hts _ kt_707) (by decide +kernel) ⟨Nat.le_of_ble_eq_true rfl, Nat.le_of_ble_eq_true rfl⟩, (hts _ kt_688)⟩ ⟨fun a U g mk q => ⟨q.1, PTm.calling q.2⟩, fun U hU hWm => ⟨rfl, PTm.mk hU hWm hP hK hD hE hO⟩⟩ rfl rfl hl.1 rfl (lv_room (Nat.le_of_ble_eq_true rfl)) dX15_number_74 ⟨by show _ + 0 ≤ 0; omega, by show _ + 0 ≤ 0; omega⟩) hS (fun q _ h => hFc q h) hFc (fun r_55 u t H1 locs ht hvm hw hB hz1 hk1 hS => ?_)
        obtain ⟨F_56, hB1⟩ := hB
        obtain rfl : F = F_56 := (funext (fun a => hB1.2.2.2 a List.not_mem_nil)).symm
        obtain ⟨hP, hD, hO, hR⟩ := QTm.back hB1 ht hFc hR (fun q h => absurd h List.not_mem_nil)
        generalize H1 = H at hP hS ⊢
        have hw : (r_55 = 0 ∨ r_55 = 1) := hw
        have hw_57 := hw
        refine lv_if_ne (tgt := 83) hx hb dX15_number_77 (by decide) (fun c_58 => ?_) (fun c_58 => ?_)
        ·
          refine lv_bipush (v := 10) hx hb dX15_number_83 (by decide) ?_
          refine lv_iload_n hx hb dX15_number_85 rfl (lv_at hl 1 rfl) ?_
          refine lv_imul hx hb dX15_number_86 ?_
          refine lv_topi (fun x_59 ex_59 => ?_)
          refine lv_aload_n hx hb dX15_number_87 rfl (lv_at hl 3 rfl) ?_
          refine pg_get (ci := 13) (v := .ref tx) (C := RX13) (T := TX13) (N := 5) hx hb hts it_13 hown hK hP hL_g0 hF0 rfl 0 (by decide) (hts _ kt_842) (fun _ h9 => h9) rfl dX15_number_88 ?_
          refine pg_get (ci := 14) (v := .ref tbx) (C := RX14) (T := TX14) (N := 2) hx hb hts it_14 hown hK hP hL_tx hF_47 rfl 0 (by decide) (hts _ kt_710) (fun _ h9 => h9) rfl dX15_number_91 ?_
          refine lv_iload hx hb dX15_number_94 (lv_at hl 0 rfl) ?_
          refine pg_bald hx hb hK hP hi_9 1 hF_52 rfl (vp_in_nI (by omega) (by omega)) dX15_number_96 ?_
          refine lv_topi (fun x_60 ex_60 => ?_)
          obtain rfl : x_60 = f_51 j := ex_60.trans (congrArg f_51 (show ((nI j) : Int32).toNatClampNeg = j from nI_clamp (by omega)))
          refine lv_iadd hx hb dX15_number_97 ?_
          refine lv_topi (fun x_61 ex_61 => ?_)
          refine lv_bipush (v := 48) hx hb dX15_number_98 (by decide) ?_
          refine lv_isub hx hb dX15_number_100 ?_
          refine lv_topi (fun x_62 ex_62 => ?_)
          refine lv_istore_n (lv' := [(3, .int x_62), (4, .int (nI j)), (2, .int (nI kf_16)), (0, .ref g0), (1, .ref q)]) hx hb dX15_number_101 rfl hl (by decide) rfl (fun ls hl => ?_)
          refine lv_iinc (v := (nI (j + 1))) (lv' := [(4, .int (nI (j + 1))), (3, .int x_62), (2, .int (nI kf_16)), (0, .ref g0), (1, .ref q)]) hx hb dX15_number_102 hl (k := 1) rfl (nI_1 _) (by decide) rfl (fun ls hl => ?_)
          refine lv_goto (tgt := 53) hx hb dX15_number_105 (by decide) ?_
          refine W.widen (k := 0) (n := 0) (by omega) (by omega) ?_
          exact ih_41 ((j + 1), x_62) F (by first | omega | exact ⟨by omega, by omega⟩ | trivial) (by show 10001 - (j + 1) < 10001 - j; omega) hO hR _ _ hP hD hS ls (lv_sub hl [0, 1, 2, 3, 4] rfl)
        ·
          refine lv_bipush (v := (-2)) hx hb dX15_number_80 (by decide) ?_
          refine W.widen (k := 0) (n := 0) (by omega) (by omega) ?_
          exact W.iret (v := (-2)) hx hb hr (fun t ht hWm => ⟨⟨(-2), (), rfl, trivial, ⟨F, QTm.mk ht hP hD hO hR⟩⟩, hS.F ht⟩) hS.2.2 dX15_number_82
    ·
      refine lv_bipush (v := (-2)) hx hb dX15_number_40 (by decide) ?_
      refine W.widen (k := 0) (n := 0) (by omega) (by omega) ?_
      exact W.iret (v := (-2)) hx hb hr (fun t ht hWm => ⟨⟨(-2), (), rfl, trivial, ⟨F, QTm.mk ht hP hD hO hR⟩⟩, hS.F ht⟩) hS.2.2 dX15_number_42
  ·
    refine lv_iconst (v := (-1)) hx hb dX15_number_12 (by decide) ?_
    refine W.widen (k := 0) (n := 0) (by omega) (by omega) ?_
    exact W.iret (v := (-1)) hx hb hr (fun t ht hWm => ⟨⟨(-1), (), rfl, trivial, ⟨F, QTm.mk ht hP hD hO hR⟩⟩, hS.F ht⟩) hS.2.2 dX15_number_13
theorem andbit {x y : Int32} (h1 : x = 0 ∨ x = 1) (h2 : y = 0 ∨ y = 1) : x &&& y = 0 ∨ x &&& y = 1 := by
  rcases h1 with h1 | h1 <;> rcases h2 with h2 | h2 <;> subst h1 <;> subst h2 <;> decide
set_option maxHeartbeats 4000000 in
set_option maxRecDepth 100000 in
theorem s_X15_isAll (l : Launch) (dC : Nat → ClassId) (dI : Nat → Nat → Nat) (cs : Nat → ClassId) (ty : TyM) (gm : Nat → Nat → Nat) (L : List Nat) (sz : Nat) (F : Nat → va_E) (g1 : Nat) (σ : Nat) (g2 : Nat) (τ : Nat) (hW : WTm ty gm L) (hL_g1 : g1 ∈ L) (hT_g1 : ty g1 = (17, σ, [32])) (hL_g2 : g2 ∈ L) (hT_g2 : ty g2 = (17, τ, [32])) : Met l yX15_isAll (.code yX15_isAll cX15_isAll 4 (some .boolean) :: tb) ({ frames := 0, cells := 0, slots := 0, locals := 0 }) (va_Pc [.ref g1, .ref g2] (PTm (dC, dI) cs ty gm L F sz)) (va_Qi (fun (r : Int32) (_ : Unit) => (r = 0 ∨ r = 1)) (fun _ T9 => ∃ F2 : Nat → va_E, QTm (dC, dI) cs ty gm L [] F F2 (va_A (va_pl L F) sz) T9) (va_A (va_pl L F) sz)) 0 0 (va_A (va_pl L F) sz) := by
  refine Met.ofW (cc := cX15_isAll) (maxL := 4) (ret := (some .boolean)) (by decide) rfl ?_
  intro p e s m args below meth c s₁ B hml hv
  obtain ⟨rfl, hsz, hP, hK, hD0, hE, hO⟩ := hv
  have hx := B.exec
  have hb := B.bytes
  have hr := B.returns
  have hts : ∀ w ∈ tb, w.before _ s = true := fun w h => atoms_spec (ws := .code yX15_isAll cX15_isAll 4 (some .boolean) :: tb) B.pre w (List.mem_cons_of_mem _ h)
  have hown : s.vm.findClass RX15 = some m.cls := findClass_of_methodNamed B.named
  have hlocks := B.notSynchronized
  subst hsz
  have hD := hD0.self (sz := s.heap.size)
  generalize hAe : va_A (va_pl L F) s.heap.size = A at hD ⊢
  have hA : ∀ q : Nat, s.heap.size ≤ q → A q := fun q h => by rw [← hAe]; exact Or.inr h
  have hS : va_S A s.heap s.heap [] := va_S.rf
  have hR : FR ty [] F F := FR.refl
  have hl := lv_entry ([.ref g1, .ref g2]) (n := 4) (Nat.le_of_ble_eq_true rfl)
  rw [lg_entry_eq]
  generalize (lg_sl ([.ref g1, .ref g2]) ++ List.replicate (4 - (lg_sl ([.ref g1, .ref g2])).length) Slot.unset).toArray = ls at hl ⊢
  have hl : lv_has ls 4 [(0, .ref g1), (1, .ref g2)] := hl
  refine lv_iconst (v := 1) hx hb dX15_isAll_0 (by decide) ?_
  refine lv_istore_n (lv' := [(2, .int 1), (0, .ref g1), (1, .ref g2)]) hx hb dX15_isAll_1 rfl hl (by decide) rfl (fun ls hl => ?_)
  refine lv_iconst (v := 0) hx hb dX15_isAll_2 (by decide) ?_
  refine lv_istore_n (lv' := [(3, .int 0), (2, .int 1), (0, .ref g1), (1, .ref g2)]) hx hb dX15_isAll_3 rfl hl (by decide) rfl (fun ls hl => ?_)
  refine W.widen (k := 0) (n := 0) (by omega) (by omega) ?_
  refine pl_loopm (σ := Nat × Int32) A (dC, dI) cs ty gm L [] F 4 4 (fun (j, w2) => [(3, .int (nI j)), (2, .int w2), (0, .ref g1), (1, .ref g2)]) (fun (j, w2) => []) (fun (j, w2) _ => j ≤ 32 ∧ (w2 = 0 ∨ w2 = 1)) (fun (j, w2) => 32 - j) ?_ (0, 1) F (⟨by omega, Or.inr rfl⟩) hO hR _ _ hP hD hS ls (lv_sub hl [0, 1, 2, 3] rfl)
  rintro ⟨j, w2⟩ F_1 hv_2 hO hR ih_3 H locs hP hD hS ls hl
  have hl : lv_has ls 4 [(3, .int (nI j)), (2, .int w2), (0, .ref g1), (1, .ref g2)] := hl
  have hv_2 : j ≤ 32 ∧ (w2 = 0 ∨ w2 = 1) := hv_2
  refine W.eq (g2 := F0 m 4 ls []) rfl ?_
  obtain rfl : F = F_1 := (funext (fun a => hR a List.not_mem_nil)).symm
  obtain ⟨hv1, hv2⟩ := hv_2
  refine lv_iload_n hx hb dX15_isAll_4 rfl (lv_at hl 0 rfl) ?_
  refine lv_bipush (v := 32) hx hb dX15_isAll_5 (by decide) ?_
  refine lv_icmp_ge (tgt := 33) hx hb dX15_isAll_7 (by decide) (fun c_4 => ?_) (fun c_4 => ?_)
  ·
    have hi_5 : 32 ≤ j := leN (N := 32) c_4
    refine lv_iload_n hx hb dX15_isAll_33 rfl (lv_at hl 1 rfl) ?_
    refine W.widen (k := 0) (n := 0) (by omega) (by omega) ?_
    exact W.zret (v := w2) (ty := .boolean) hx hb hr (bitN hv2) (fun t ht hWm => ⟨⟨w2, (), rfl, hv2, ⟨F, QTm.mk ht hP hD hO hR⟩⟩, hS.F ht⟩) hS.2.2 dX15_isAll_34
  ·
    have hi_6 : j < 32 := ltN (N := 32) c_4
    refine lv_iload_n hx hb dX15_isAll_10 rfl (lv_at hl 1 rfl) ?_
    refine lv_aload_n hx hb dX15_isAll_11 rfl (lv_at hl 2 rfl) ?_
    refine lv_iload_n hx hb dX15_isAll_12 rfl (lv_at hl 0 rfl) ?_
    obtain ⟨hq_7, hq_8⟩ := hW.octs hL_g1 hT_g1
    obtain ⟨f_9, hF_10, hq_11⟩ := hO.octs hL_g1 hT_g1
    refine pg_bald hx hb hK hP hL_g1 1 hF_10 rfl (vp_in_nI (by omega) (by omega)) dX15_isAll_13 ?_
    refine lv_topi (fun x_12 ex_12 => ?_)
    obtain rfl : x_12 = f_9 j := ex_12.trans (congrArg f_9 (show ((nI j) : Int32).toNatClampNeg = j from nI_clamp (by omega)))
    refine lv_aload_n hx hb dX15_isAll_14 rfl (lv_at hl 3 rfl) ?_
    refine lv_iload_n hx hb dX15_isAll_15 rfl (lv_at hl 0 rfl) ?_
    obtain ⟨hq_13, hq_14⟩ := hW.octs hL_g2 hT_g2
    obtain ⟨f_15, hF_16, hq_17⟩ := hO.octs hL_g2 hT_g2
    refine pg_bald hx hb hK hP hL_g2 1 hF_16 rfl (vp_in_nI (by omega) (by omega)) dX15_isAll_16 ?_
    refine lv_topi (fun x_18 ex_18 => ?_)
    obtain rfl : x_18 = f_15 j := ex_18.trans (congrArg f_15 (show ((nI j) : Int32).toNatClampNeg = j from nI_clamp (by omega)))
    refine lv_icmp_ne (tgt := 24) hx hb dX15_isAll_17 (by decide) (fun c_19 => ?_) (fun c_19 => ?_)
    ·
      refine lv_iconst (v := 0) hx hb dX15_isAll_24 (by decide) ?_
      refine lv_iand hx hb dX15_isAll_25 ?_
      refine lv_topi (fun x_20 ex_20 => ?_)
      obtain rfl : x_20 = (w2 &&& 0) := ex_20.trans (rfl)
      refine lv_istore_n (lv' := [(2, .int (w2 &&& 0)), (3, .int (nI j)), (0, .ref g1), (1, .ref g2)]) hx hb dX15_isAll_26 rfl hl (by decide) rfl (fun ls hl => ?_)
      refine lv_iinc (v := (nI (j + 1))) (lv' := [(3, .int (nI (j + 1))), (2, .int (w2 &&& 0)), (0, .ref g1), (1, .ref g2)]) hx hb dX15_isAll_27 hl (k := 1) rfl (nI_1 _) (by decide) rfl (fun ls hl => ?_)
      refine lv_goto (tgt := 4) hx hb dX15_isAll_30 (by decide) ?_
      refine W.widen (k := 0) (n := 0) (by omega) (by omega) ?_
      exact ih_3 ((j + 1), (w2 &&& 0)) F (⟨by omega, andbit hv2 (by first | exact Or.inl rfl | exact Or.inr rfl)⟩) (by show 32 - (j + 1) < 32 - j; omega) hO hR _ _ hP hD hS ls (lv_sub hl [0, 1, 2, 3] rfl)
    ·
      refine lv_iconst (v := 1) hx hb dX15_isAll_20 (by decide) ?_
      refine lv_goto (tgt := 25) hx hb dX15_isAll_21 (by decide) ?_
      refine lv_iand hx hb dX15_isAll_25 ?_
      refine lv_topi (fun x_21 ex_21 => ?_)
      obtain rfl : x_21 = (w2 &&& 1) := ex_21.trans (rfl)
      refine lv_istore_n (lv' := [(2, .int (w2 &&& 1)), (3, .int (nI j)), (0, .ref g1), (1, .ref g2)]) hx hb dX15_isAll_26 rfl hl (by decide) rfl (fun ls hl => ?_)
      refine lv_iinc (v := (nI (j + 1))) (lv' := [(3, .int (nI (j + 1))), (2, .int (w2 &&& 1)), (0, .ref g1), (1, .ref g2)]) hx hb dX15_isAll_27 hl (k := 1) rfl (nI_1 _) (by decide) rfl (fun ls hl => ?_)
      refine lv_goto (tgt := 4) hx hb dX15_isAll_30 (by decide) ?_
      refine W.widen (k := 0) (n := 0) (by omega) (by omega) ?_
      exact ih_3 ((j + 1), (w2 &&& 1)) F (⟨by omega, andbit hv2 (by first | exact Or.inl rfl | exact Or.inr rfl)⟩) (by show 32 - (j + 1) < 32 - j; omega) hO hR _ _ hP hD hS ls (lv_sub hl [0, 1, 2, 3] rfl)
set_option maxHeartbeats 4000000 in
set_option maxRecDepth 100000 in
theorem s_X15_isTagName (l : Launch) (dC : Nat → ClassId) (dI : Nat → Nat → Nat) (cs : Nat → ClassId) (ty : TyM) (gm : Nat → Nat → Nat) (L : List Nat) (sz : Nat) (F : Nat → va_E) (h0 : Nat) (ρ : Nat) (ta : Nat) (ou : Nat) (so : Nat) (ad : Nat) (na : Nat) (va : Nat) (lc : Nat) (dm : Nat) (tg : Nat) (pe : Nat) (ml : Nat) (bg : Nat) (co : Nat) (sp : Nat) (nb0 : Nat) (nb1 : Nat) (nb2 : Nat) (pl : Nat) (se : Nat) (ke : Nat) (wi : Nat) (hs : Nat) (mo : Nat) (po : Nat) (nu : Nat) (pr : Nat) (sq : Nat) (xa : Nat) (sa : Nat) (n64 : Nat) (m64 : Nat) (ex : Nat) (wh : Nat) (sd : Nat) (tk : Nat) (hd : Nat) (ak : Nat) (ho : Nat) (ot : Nat) (sx : Nat) (s0 : Nat) (s1 : Nat) (s2 : Nat) (nf : Nat) (bd : Nat) (mm : Nat) (zo : Nat) (fm : Nat) (sn : Nat) (hg : Nat) (gc : Nat) (gv : Nat) (ze : Nat) (zt : Nat) (sb : Nat) (zs : Nat) (q : Nat) (v : Nat) (k0 : Nat) (C : Nat → Int32) (hW : WTm ty gm L) (hL_h0 : h0 ∈ L) (hT_h0 : ty h0 = (15, ρ, [ta, ou, so, ad, na, va, lc, dm, tg, pe, ml, bg, co, sp, nb0, nb1, nb2, pl, se, ke, wi, hs, mo, po, nu, pr, sq, xa, sa, n64, m64, ex, wh, sd, tk, hd, ak, ho, ot, sx, s0, s1, s2, nf, bd, mm, zo, fm, sn, hg, gc, gv, ze, zt])) (hL_sx : sx ∈ L) (hT_sx : ty sx = (14, ρ + 12, [sb, 3000])) (hFs : F se = .inr (13, [.ref sx, .ref s0, .ref s1, .ref s2, .int (nI zs)])) (hzs : zs ≤ 40) : Met l yX15_isTagName (.code yX15_isTagName cX15_isTagName 3 (some .boolean) :: tb) ({ frames := 6, cells := 0, slots := 0, locals := 131 }) (va_Pc [.ref h0, .ref q] (PTEm (dC, dI) cs ty gm L F sz [(q, v, k0, C)])) (va_Qi (fun (r : Int32) (_ : Unit) => (r = 0 ∨ (r = 1 ∧ ∃ k, k < zs ∧ FND (gA (F sb)) (gA (F s0)) (gA (F s1)) zs C k0 (nI k) ∧ TGN (gA (F s1)) (gA (F s2)) k))) (fun _ T9 => ∃ F2 : Nat → va_E, QTm (dC, dI) cs ty gm L [] F F2 (va_A (va_pl L F) sz) T9) (va_A (va_pl L F) sz)) 0 0 (va_A (va_pl L F) sz) := by
  refine Met.ofW (cc := cX15_isTagName) (maxL := 3) (ret := (some .boolean)) (by decide) rfl ?_
  intro p e s m args below meth c s₁ B hml hv
  obtain ⟨rfl, ⟨hsz, hP, hK, hD0, hE, hO⟩, hG, hX⟩ := hv
  have hx := B.exec
  have hb := B.bytes
  have hr := B.returns
  have hts : ∀ w ∈ tb, w.before _ s = true := fun w h => atoms_spec (ws := .code yX15_isTagName cX15_isTagName 3 (some .boolean) :: tb) B.pre w (List.mem_cons_of_mem _ h)
  have hown : s.vm.findClass RX15 = some m.cls := findClass_of_methodNamed B.named
  have hlocks := B.notSynchronized
  subst hsz
  have hD := hD0.self (sz := s.heap.size)
  generalize hAe : va_A (va_pl L F) s.heap.size = A at hD hG hX ⊢
  have hX_q : SXc q v k0 C A s s.heap := hX (q, v, k0, C) (by simp)
  obtain ⟨xo_q, xc_q, xv_q, xt_q, xn_q⟩ := id hX_q
  have hA : ∀ q : Nat, s.heap.size ≤ q → A q := fun q h => by rw [← hAe]; exact Or.inr h
  have hS : va_S A s.heap s.heap [] := va_S.rf
  have hR : FR ty [] F F := FR.refl
  have hl := lv_entry ([.ref h0, .ref q]) (n := 3) (Nat.le_of_ble_eq_true rfl)
  rw [lg_entry_eq]
  generalize (lg_sl ([.ref h0, .ref q]) ++ List.replicate (3 - (lg_sl ([.ref h0, .ref q])).length) Slot.unset).toArray = ls at hl ⊢
  have hl : lv_has ls 3 [(0, .ref h0), (1, .ref q)] := hl
  obtain ⟨hq_23, hq_24, hq_25, hq_26, hq_27, hgO, hgA, hgB, hq_28⟩ := hW.sc hL_h0 hT_h0
  obtain ⟨hi_29, ht_30⟩ := hW.f_se hL_h0 hT_h0
  obtain ⟨_, hi_31, hi_32, hi_33, _, ht_34, ht_35, ht_36, hq_37, hq_38⟩ := hW.tags hi_29 ht_30
  have ht_35 : ty s1 = (25, ρ + 81, [40, 1280]) := ht_35
  have ht_36 : ty s2 = (25, ρ + 82, [40, 1280]) := ht_36
  obtain ⟨hi_39, ht_40, hq_41⟩ := hW.txt hL_sx hT_sx
  refine lv_aload_n hx hb dX15_isTagName_0 rfl (lv_at hl 0 rfl) ?_
  obtain ⟨v14_42, v15_43, v17_44, v18_45, v19_46, v20_47, v21_48, v22_49, v33_50, v52_51, v53_52, v54_53, hF_54, hq_55, hq_56, hq_57, hq_58, hq_59⟩ := hO.mod hL_h0 hT_h0
  refine pg_get (ci := 15) (v := .ref se) (C := RX15) (T := TX15) (N := 59) hx hb hts it_15 hown hK hP hL_h0 hF_54 rfl 35 (by decide) (hts _ kt_847) (fun _ h9 => h9) rfl dX15_isTagName_1 ?_
  refine lv_aload_n hx hb dX15_isTagName_4 rfl (lv_at hl 1 rfl) ?_
  have hFc := pg_free hD hS hA
  refine va_calli (va_runV (As := [.ref q]) (rest := []) ⟨hx, hb, hml, hown, hts⟩ (s_X13_find l dC dI cs ty gm L s.heap.size F se (ρ + 11) sx 3000 1280 s0 s1 s2 sb zs q v k0 C hW hi_29 ht_30 hL_sx hT_sx hFs (by first | omega | assumption | exact Or.inl rfl)) ⟨callB_of 1 hts (gi kt_828) rfl rfl rfl (hts _ kt_829) (hts _ kt_839) (by decide +kernel) ⟨Nat.le_of_ble_eq_true rfl, Nat.le_of_ble_eq_true rfl⟩, (hts _ kt_831), (hts _ kt_832)⟩ ⟨fun a U g mk q => ⟨q.1, PTEm.calling q.2⟩, pg_recv hK hP hi_29 hFs (q := (RX13, TX13, 5)) rfl, fun U hU hWm => ⟨rfl, PTEm.mk hU hWm hP hK hD hE hO hG (fun x hx => by rw [List.mem_singleton] at hx; subst hx; exact hX_q) hS hFc⟩⟩ rfl rfl hl.1 rfl (lv_room (Nat.le_of_ble_eq_true rfl)) dX15_isTagName_5 ⟨by show _ + 0 ≤ 0; omega, by show _ + 0 ≤ 0; omega⟩) hS (fun q _ h => hFc q h) hFc (fun r_60 u t H1 locs ht hvm hw hB hz1 hk1 hS => ?_)
  obtain ⟨F_61, hB1⟩ := hB
  obtain rfl : F = F_61 := (funext (fun a => hB1.2.2.2 a List.not_mem_nil)).symm
  obtain ⟨hP, hD, hO, hR⟩ := QTm.back hB1 ht hFc hR (fun q h => absurd h List.not_mem_nil)
  generalize H1 = H at hP hS ⊢
  have hw : FND (gA (F sb)) (gA (F s0)) (gA (F s1)) zs C k0 r_60 := hw
  have hw_62 := hw
  refine lv_istore_n (lv' := [(2, .int r_60), (0, .ref h0), (1, .ref q)]) hx hb dX15_isTagName_8 rfl hl (by decide) rfl (fun ls hl => ?_)
  refine lv_iload_n hx hb dX15_isTagName_9 rfl (lv_at hl 0 rfl) ?_
  refine lv_if_lt (tgt := 53) hx hb dX15_isTagName_10 (by decide) (fun c_63 => ?_) (fun c_63 => ?_)
  ·
    refine lv_iconst (v := 0) hx hb dX15_isTagName_53 (by decide) ?_
    refine W.widen (k := 0) (n := 0) (by omega) (by omega) ?_
    exact W.zret (v := 0) (ty := .boolean) hx hb hr (by decide) (fun t ht hWm => ⟨⟨0, (), rfl, Or.inl rfl, ⟨F, QTm.mk ht hP hD hO hR⟩⟩, hS.F ht⟩) hS.2.2 dX15_isTagName_54
  ·
    obtain ⟨kf_64, hkf_64, ekf_64⟩ := FND.pos hw_62 c_63
    subst ekf_64
    refine lv_aload_n hx hb dX15_isTagName_13 rfl (lv_at hl 1 rfl) ?_
    refine pg_get (ci := 15) (v := .ref se) (C := RX15) (T := TX15) (N := 59) hx hb hts it_15 hown hK hP hL_h0 hF_54 rfl 35 (by decide) (hts _ kt_847) (fun _ h9 => h9) rfl dX15_isTagName_14 ?_
    refine pg_get (ci := 13) (v := .ref sx) (C := RX13) (T := TX13) (N := 5) hx hb hts it_13 hown hK hP hi_29 hFs rfl 0 (by decide) (hts _ kt_842) (fun _ h9 => h9) rfl dX15_isTagName_17 ?_
    obtain ⟨z_65, hF_66, hq_67⟩ := hO.txt hL_sx hT_sx
    refine pg_get (ci := 14) (v := .ref sb) (C := RX14) (T := TX14) (N := 2) hx hb hts it_14 hown hK hP hL_sx hF_66 rfl 0 (by decide) (hts _ kt_710) (fun _ h9 => h9) rfl dX15_isTagName_20 ?_
    refine lv_aload_n hx hb dX15_isTagName_23 rfl (lv_at hl 1 rfl) ?_
    refine pg_get (ci := 15) (v := .ref se) (C := RX15) (T := TX15) (N := 59) hx hb hts it_15 hown hK hP hL_h0 hF_54 rfl 35 (by decide) (hts _ kt_847) (fun _ h9 => h9) rfl dX15_isTagName_24 ?_
    refine pg_get (ci := 13) (v := .ref s1) (C := RX13) (T := TX13) (N := 5) hx hb hts it_13 hown hK hP hi_29 hFs rfl 2 (by decide) (hts _ kt_840) (fun _ h9 => h9) rfl dX15_isTagName_27 ?_
    refine lv_iload_n hx hb dX15_isTagName_30 rfl (lv_at hl 0 rfl) ?_
    obtain ⟨f_68, hF_69, hq_70⟩ := hO.idb hi_32 ht_35
    refine pg_iald hx hb hK hP hi_32 0 hF_69 rfl (vp_in_nI (by omega) (by omega)) dX15_isTagName_31 ?_
    obtain ⟨k_71, hk_72, ek_73⟩ := hq_70 ((nI kf_64) : Int32).toNatClampNeg
    refine lv_topi (fun x_74 ex_74 => ?_)
    obtain rfl : x_74 = nI k_71 := ex_74.trans ek_73
    refine lv_iconst (v := 1) hx hb dX15_isTagName_32 (by decide) ?_
    refine lv_iadd hx hb dX15_isTagName_33 ?_
    refine lv_topi (fun x_75 ex_75 => ?_)
    obtain rfl : x_75 = (nI (k_71 + 1)) := ex_75.trans (nI_add k_71 1)
    refine lv_aload_n hx hb dX15_isTagName_34 rfl (lv_at hl 1 rfl) ?_
    refine pg_get (ci := 15) (v := .ref se) (C := RX15) (T := TX15) (N := 59) hx hb hts it_15 hown hK hP hL_h0 hF_54 rfl 35 (by decide) (hts _ kt_847) (fun _ h9 => h9) rfl dX15_isTagName_35 ?_
    refine pg_get (ci := 13) (v := .ref s2) (C := RX13) (T := TX13) (N := 5) hx hb hts it_13 hown hK hP hi_29 hFs rfl 3 (by decide) (hts _ kt_841) (fun _ h9 => h9) rfl dX15_isTagName_38 ?_
    refine lv_iload_n hx hb dX15_isTagName_41 rfl (lv_at hl 0 rfl) ?_
    obtain ⟨f_76, hF_77, hq_78⟩ := hO.idb hi_33 ht_36
    refine pg_iald hx hb hK hP hi_33 0 hF_77 rfl (vp_in_nI (by omega) (by omega)) dX15_isTagName_42 ?_
    obtain ⟨k_79, hk_80, ek_81⟩ := hq_78 ((nI kf_64) : Int32).toNatClampNeg
    refine lv_topi (fun x_82 ex_82 => ?_)
    obtain rfl : x_82 = nI k_79 := ex_82.trans ek_81
    have hg1 := gA_of hF_69 ek_73 (by omega)
    have hg2 := gA_of hF_77 ek_81 (by omega)
    obtain ⟨hq_83, hq_84⟩ := hW.octs hi_39 ht_40
    have hFc := pg_free hD hS hA
    refine va_calli (va_runS (As := [.ref sb, .int (nI (k_71 + 1)), .int (nI k_79)]) (rest := []) ⟨hx, hb, hml, hown, hts⟩ (s_X14_isName_ l dC dI cs ty gm L H.size F sb (ρ + 12) 3000 (k_71 + 1) k_79 hW hi_39 ht_40 (by first | omega | assumption | exact Or.inl rfl) (by first | omega | assumption | exact Or.inl rfl)) ⟨callB_of 3 hts (gi kt_689) rfl rfl rfl (hts _ kt_676) (hts _ kt_848) (by decide +kernel) ⟨Nat.le_of_ble_eq_true rfl, Nat.le_of_ble_eq_true rfl⟩, (hts _ kt_691)⟩ ⟨fun a U g mk q => ⟨q.1, PTm.calling q.2⟩, fun U hU hWm => ⟨rfl, PTm.mk hU hWm hP hK hD hE hO⟩⟩ rfl rfl hl.1 rfl (lv_room (Nat.le_of_ble_eq_true rfl)) dX15_isTagName_43 ⟨by show _ + 0 ≤ 0; omega, by show _ + 0 ≤ 0; omega⟩) hS (fun q _ h => hFc q h) hFc (fun r_85 u t H1 locs ht hvm hw hB hz1 hk1 hS => ?_)
    obtain ⟨F_86, hB1⟩ := hB
    obtain rfl : F = F_86 := (funext (fun a => hB1.2.2.2 a List.not_mem_nil)).symm
    obtain ⟨hP, hD, hO, hR⟩ := QTm.back hB1 ht hFc hR (fun q h => absurd h List.not_mem_nil)
    generalize H1 = H at hP hS ⊢
    have hw : (r_85 = 0 ∨ (r_85 = 1 ∧ (k_71 + 1) < k_79 ∧ k_79 ≤ k_71 + 61)) := hw
    have hw_87 := hw
    refine lv_if_eq (tgt := 53) hx hb dX15_isTagName_46 (by decide) (fun c_88 => ?_) (fun c_88 => ?_)
    ·
      refine lv_iconst (v := 0) hx hb dX15_isTagName_53 (by decide) ?_
      refine W.widen (k := 0) (n := 0) (by omega) (by omega) ?_
      exact W.zret (v := 0) (ty := .boolean) hx hb hr (by decide) (fun t ht hWm => ⟨⟨0, (), rfl, Or.inl rfl, ⟨F, QTm.mk ht hP hD hO hR⟩⟩, hS.F ht⟩) hS.2.2 dX15_isTagName_54
    ·
      refine lv_iconst (v := 1) hx hb dX15_isTagName_49 (by decide) ?_
      refine lv_goto (tgt := 54) hx hb dX15_isTagName_50 (by decide) ?_
      refine W.widen (k := 0) (n := 0) (by omega) (by omega) ?_
      exact W.zret (v := 1) (ty := .boolean) hx hb hr (by decide) (fun t ht hWm => ⟨⟨1, (), rfl, (Or.inr ⟨rfl, kf_64, hkf_64, hw_62, (TGN.eq hg1 hg2 (by omega) (by omega)).mpr (by have h9 := bit1 hw_87 c_88; omega)⟩), ⟨F, QTm.mk ht hP hD hO hR⟩⟩, hS.F ht⟩) hS.2.2 dX15_isTagName_54
set_option maxHeartbeats 4000000 in
set_option maxRecDepth 100000 in
theorem s_X15_isNames (l : Launch) (dC : Nat → ClassId) (dI : Nat → Nat → Nat) (cs : Nat → ClassId) (ty : TyM) (gm : Nat → Nat → Nat) (L : List Nat) (sz : Nat) (F : Nat → va_E) (h0 : Nat) (ρ : Nat) (ta : Nat) (ou : Nat) (so : Nat) (ad : Nat) (na : Nat) (va : Nat) (lc : Nat) (dm : Nat) (tg : Nat) (pe : Nat) (ml : Nat) (bg : Nat) (co : Nat) (sp : Nat) (nb0 : Nat) (nb1 : Nat) (nb2 : Nat) (pl : Nat) (se : Nat) (ke : Nat) (wi : Nat) (hs : Nat) (mo : Nat) (po : Nat) (nu : Nat) (pr : Nat) (sq : Nat) (xa : Nat) (sa : Nat) (n64 : Nat) (m64 : Nat) (ex : Nat) (wh : Nat) (sd : Nat) (tk : Nat) (hd : Nat) (ak : Nat) (ho : Nat) (ot : Nat) (sx : Nat) (s0 : Nat) (s1 : Nat) (s2 : Nat) (nf : Nat) (bd : Nat) (mm : Nat) (zo : Nat) (fm : Nat) (sn : Nat) (hg : Nat) (gc : Nat) (gv : Nat) (ze : Nat) (zt : Nat) (sb : Nat) (zs : Nat) (hW : WTm ty gm L) (hL_h0 : h0 ∈ L) (hT_h0 : ty h0 = (15, ρ, [ta, ou, so, ad, na, va, lc, dm, tg, pe, ml, bg, co, sp, nb0, nb1, nb2, pl, se, ke, wi, hs, mo, po, nu, pr, sq, xa, sa, n64, m64, ex, wh, sd, tk, hd, ak, ho, ot, sx, s0, s1, s2, nf, bd, mm, zo, fm, sn, hg, gc, gv, ze, zt])) (hL_sx : sx ∈ L) (hT_sx : ty sx = (14, ρ + 12, [sb, 3000])) (hFs : F se = .inr (13, [.ref sx, .ref s0, .ref s1, .ref s2, .int (nI zs)])) (hzs : zs ≤ 40) : Met l yX15_isNames (.code yX15_isNames cX15_isNames 5 (some .boolean) :: tb) ({ frames := 6, cells := 0, slots := 0, locals := 131 }) (va_Pc [.ref h0] (PTEm (dC, dI) cs ty gm L F sz [])) (va_Qi (fun (r : Int32) (_ : Unit) => (r = 0 ∨ (r = 1 ∧ ∃ k, k < zs ∧ FND (gA (F sb)) (gA (F s0)) (gA (F s1)) zs (cct [104]) 1 (nI k)))) (fun _ T9 => ∃ F2 : Nat → va_E, QTm (dC, dI) cs ty gm L [ρ] F F2 (va_A (va_pl L F) sz) T9) (va_A (va_pl L F) sz)) 0 0 (va_A (va_pl L F) sz) := by
  refine Met.ofW (cc := cX15_isNames) (maxL := 5) (ret := (some .boolean)) (by decide) rfl ?_
  intro p e s m args below meth c s₁ B hml hv
  obtain ⟨rfl, ⟨hsz, hP, hK, hD0, hE, hO⟩, hG, hX⟩ := hv
  have hx := B.exec
  have hb := B.bytes
  have hr := B.returns
  have hts : ∀ w ∈ tb, w.before _ s = true := fun w h => atoms_spec (ws := .code yX15_isNames cX15_isNames 5 (some .boolean) :: tb) B.pre w (List.mem_cons_of_mem _ h)
  have hown : s.vm.findClass RX15 = some m.cls := findClass_of_methodNamed B.named
  have hlocks := B.notSynchronized
  subst hsz
  have hD := hD0.self (sz := s.heap.size)
  generalize hAe : va_A (va_pl L F) s.heap.size = A at hD hG hX ⊢
  have hA : ∀ q : Nat, s.heap.size ≤ q → A q := fun q h => by rw [← hAe]; exact Or.inr h
  have hS : va_S A s.heap s.heap [] := va_S.rf
  have hR : FR ty [ρ] F F := FR.refl
  have hl := lv_entry ([.ref h0]) (n := 5) (Nat.le_of_ble_eq_true rfl)
  rw [lg_entry_eq]
  generalize (lg_sl ([.ref h0]) ++ List.replicate (5 - (lg_sl ([.ref h0])).length) Slot.unset).toArray = ls at hl ⊢
  have hl : lv_has ls 5 [(0, .ref h0)] := hl
  obtain ⟨hq_23, hq_24, hq_25, hq_26, hq_27, hgO, hgA, hgB, hq_28⟩ := hW.sc hL_h0 hT_h0
  obtain ⟨hi_29, ht_30⟩ := hW.f_se hL_h0 hT_h0
  obtain ⟨_, hi_31, hi_32, hi_33, _, ht_34, ht_35, ht_36, hq_37, hq_38⟩ := hW.tags hi_29 ht_30
  have ht_35 : ty s1 = (25, ρ + 81, [40, 1280]) := ht_35
  have ht_36 : ty s2 = (25, ρ + 82, [40, 1280]) := ht_36
  obtain ⟨hi_39, ht_40, hq_41⟩ := hW.txt hL_sx hT_sx
  obtain ⟨f_42, hF_43, hq_44⟩ := hO.idb hi_32 ht_35
  obtain ⟨f_45, hF_46, hq_47⟩ := hO.idb hi_33 ht_36
  obtain ⟨f_48, hF_49, hq_50⟩ := hO.idb hi_31 ht_34
  obtain ⟨hq_51, hq_52⟩ := hW.octs hi_39 ht_40
  obtain ⟨f_53, hF_54, hq_55⟩ := hO.octs hi_39 ht_40
  refine lv_aload_n hx hb dX15_isNames_0 rfl (lv_at hl 0 rfl) ?_
  obtain ⟨v14_56, v15_57, v17_58, v18_59, v19_60, v20_61, v21_62, v22_63, v33_64, v52_65, v53_66, v54_67, hF_68, hq_69, hq_70, hq_71, hq_72, hq_73⟩ := hO.mod hL_h0 hT_h0
  refine pg_get (ci := 15) (v := .ref se) (C := RX15) (T := TX15) (N := 59) hx hb hts it_15 hown hK hP hL_h0 hF_68 rfl 35 (by decide) (hts _ kt_847) (fun _ h9 => h9) rfl dX15_isNames_1 ?_
  obtain ⟨q_74, v_75, hr_q_74, hX_q_74⟩ := hG.2.2 ("PostGateModel", 486, "h", [104]) (by decide +kernel)
  have hX_q_74 : SXc q_74 v_75 1 (cct [104]) A s s.heap := hX_q_74
  obtain ⟨xo_q_74, xc_q_74, xv_q_74, xt_q_74, xn_q_74⟩ := id hX_q_74
  have hr_q_74 : vk_R "PostGateModel" 486 "h" q_74 s := hr_q_74
  refine va_ldcwS hx hb hown hr_q_74 dX15_isNames_4 ?_
  have hFc := pg_free hD hS hA
  refine va_calli (va_runV (As := [.ref q_74]) (rest := []) ⟨hx, hb, hml, hown, hts⟩ (s_X13_find l dC dI cs ty gm L s.heap.size F se (ρ + 11) sx 3000 1280 s0 s1 s2 sb zs q_74 v_75 1 (cct [104]) hW hi_29 ht_30 hL_sx hT_sx hFs (by first | omega | assumption | exact Or.inl rfl)) ⟨callB_of 1 hts (gi kt_828) rfl rfl rfl (hts _ kt_829) (hts _ kt_839) (by decide +kernel) ⟨Nat.le_of_ble_eq_true rfl, Nat.le_of_ble_eq_true rfl⟩, (hts _ kt_831), (hts _ kt_832)⟩ ⟨fun a U g mk q => ⟨q.1, PTEm.calling q.2⟩, pg_recv hK hP hi_29 hFs (q := (RX13, TX13, 5)) rfl, fun U hU hWm => ⟨rfl, PTEm.mk hU hWm hP hK hD hE hO hG (fun x hx => by rw [List.mem_singleton] at hx; subst hx; exact hX_q_74) hS hFc⟩⟩ rfl rfl hl.1 rfl (lv_room (Nat.le_of_ble_eq_true rfl)) dX15_isNames_7 ⟨by show _ + 0 ≤ 0; omega, by show _ + 0 ≤ 0; omega⟩) hS (fun q _ h => hFc q h) hFc (fun r_76 u t H1 locs ht hvm hw hB hz1 hk1 hS => ?_)
  obtain ⟨F_77, hB1⟩ := hB
  obtain rfl : F = F_77 := (funext (fun a => hB1.2.2.2 a List.not_mem_nil)).symm
  obtain ⟨hP, hD, hO, hR⟩ := QTm.back hB1 ht hFc hR (fun q h => absurd h List.not_mem_nil)
  generalize H1 = H at hP hS ⊢
  have hw : FND (gA (F sb)) (gA (F s0)) (gA (F s1)) zs (cct [104]) 1 r_76 := hw
  have hw_78 := hw
  refine lv_istore_n (lv' := [(1, .int r_76), (0, .ref h0)]) hx hb dX15_isNames_10 rfl hl (by decide) rfl (fun ls hl => ?_)
  refine lv_aload_n hx hb dX15_isNames_11 rfl (lv_at hl 1 rfl) ?_
  refine lv_iconst (v := 0) hx hb dX15_isNames_12 (by decide) ?_
  refine pg_put (ci := 15) (v := .int 0) (ty := .boolean) (C := RX15) (T := TX15) (N := 59) hx hb hts it_15 tyX15 tyX15_ok nmX15 hown hK hP hD hS hL_h0 hF_68 rfl 54 (by decide) (hts _ kt_849) (fun _ h9 => h9) rfl (by decide +kernel) (rfl) (rfl) (Nat.le_of_ble_eq_true rfl) dX15_isNames_13 (fun H locs hP hD hS => ?_)
  obtain ⟨F_79, he_80, hP, hD, hO, hR⟩ : ∃ G, G = va_up F h0 (.inr (15, (.ref ta) :: (.int (nI zt)) :: (.int (nI zo)) :: (.int (nI ze)) :: (.ref ou) :: (.ref so) :: (.ref ad) :: (.ref na) :: (.ref va) :: (.ref lc) :: (.ref dm) :: (.int (nI fm)) :: (.int (nI sn)) :: (.ref tg) :: (.int v14_56) :: (.int v15_57) :: (.ref pe) :: (.int v17_58) :: (.int v18_59) :: (.int v19_60) :: (.int v20_61) :: (.int v21_62) :: (.int v22_63) :: (.ref ml) :: (.ref bg) :: (.ref co) :: (.ref sp) :: (.ref nb0) :: (.ref nb1) :: (.ref nb2) :: (.int (nI nf)) :: (.int (nI bd)) :: (.int (nI mm)) :: (.int v33_64) :: (.ref pl) :: (.ref se) :: (.ref ke) :: (.ref wi) :: (.ref hs) :: (.ref mo) :: (.ref po) :: (.ref nu) :: (.ref pr) :: (.ref sq) :: (.ref xa) :: (.ref sa) :: (.ref n64) :: (.ref m64) :: (.ref ex) :: (.ref wh) :: (.ref sd) :: (.ref tk) :: (.int v52_65) :: (.int v53_66) :: (.int 0) :: (.ref hd) :: (.ref ak) :: (.ref ho) :: (.ref ot) :: [])) ∧ va_P (dC, dI) vwCl (va_pl L G) H ∧ va_D A (va_pl L G) ∧ OKm cs ty gm L G ∧ FR ty [ρ] F G := ⟨_, rfl, hP, hD, hO.up (shm.mod hT_h0 ⟨v14_56, v15_57, v17_58, v18_59, v19_60, v20_61, v21_62, v22_63, v33_64, v52_65, v53_66, 0, rfl, (by first | omega | assumption | exact Or.inl rfl | exact Or.inr rfl), (by first | omega | assumption | exact Or.inl rfl | exact Or.inr rfl), (by first | omega | assumption | exact Or.inl rfl | exact Or.inr rfl), (by first | omega | assumption | exact Or.inl rfl | exact Or.inr rfl), (by first | omega | assumption | exact Or.inl rfl | exact Or.inr rfl)⟩), hR.up hT_h0 (by simp)⟩
  have hF_81 : F_79 h0 = .inr (15, (.ref ta) :: (.int (nI zt)) :: (.int (nI zo)) :: (.int (nI ze)) :: (.ref ou) :: (.ref so) :: (.ref ad) :: (.ref na) :: (.ref va) :: (.ref lc) :: (.ref dm) :: (.int (nI fm)) :: (.int (nI sn)) :: (.ref tg) :: (.int v14_56) :: (.int v15_57) :: (.ref pe) :: (.int v17_58) :: (.int v18_59) :: (.int v19_60) :: (.int v20_61) :: (.int v21_62) :: (.int v22_63) :: (.ref ml) :: (.ref bg) :: (.ref co) :: (.ref sp) :: (.ref nb0) :: (.ref nb1) :: (.ref nb2) :: (.int (nI nf)) :: (.int (nI bd)) :: (.int (nI mm)) :: (.int v33_64) :: (.ref pl) :: (.ref se) :: (.ref ke) :: (.ref wi) :: (.ref hs) :: (.ref mo) :: (.ref po) :: (.ref nu) :: (.ref pr) :: (.ref sq) :: (.ref xa) :: (.ref sa) :: (.ref n64) :: (.ref m64) :: (.ref ex) :: (.ref wh) :: (.ref sd) :: (.ref tk) :: (.int v52_65) :: (.int v53_66) :: (.int 0) :: (.ref hd) :: (.ref ak) :: (.ref ho) :: (.ref ot) :: []) := by rw [he_80]; exact up_self
  have hF_82 : F_79 se = .inr (13, [.ref sx, .ref s0, .ref s1, .ref s2, .int (nI zs)]) := by rw [he_80, up_ne (ne_ty ht_30 hT_h0 (by simp))]; exact hFs
  have hF_83 : F_79 s1 = .inl (cs 16, 40, .inl f_42) := by rw [he_80, up_ne (ne_ty ht_35 hT_h0 (by simp))]; exact hF_43
  have hF_84 : F_79 s2 = .inl (cs 16, 40, .inl f_45) := by rw [he_80, up_ne (ne_ty ht_36 hT_h0 (by simp))]; exact hF_46
  have hF_85 : F_79 s0 = .inl (cs 16, 40, .inl f_48) := by rw [he_80, up_ne (ne_ty ht_34 hT_h0 (by simp))]; exact hF_49
  have hF_86 : F_79 sb = .inl (cs 17, 3000, .inl f_53) := by rw [he_80, up_ne (ne_ty ht_40 hT_h0 (by simp))]; exact hF_54
  refine lv_iload_n hx hb dX15_isNames_16 rfl (lv_at hl 0 rfl) ?_
  refine lv_if_ge (tgt := 22) hx hb dX15_isNames_17 (by decide) (fun c_87 => ?_) (fun c_87 => ?_)
  ·
    obtain ⟨kf_88, hkf_88, ekf_88⟩ := FND.pos hw_78 (Int32.not_lt.mpr c_87)
    subst ekf_88
    refine lv_aload_n hx hb dX15_isNames_22 rfl (lv_at hl 1 rfl) ?_
    refine pg_get (ci := 15) (v := .ref se) (C := RX15) (T := TX15) (N := 59) hx hb hts it_15 hown hK hP hL_h0 hF_81 rfl 35 (by decide) (hts _ kt_847) (fun _ h9 => h9) rfl dX15_isNames_23 ?_
    refine pg_get (ci := 13) (v := .ref sx) (C := RX13) (T := TX13) (N := 5) hx hb hts it_13 hown hK hP hi_29 hF_82 rfl 0 (by decide) (hts _ kt_842) (fun _ h9 => h9) rfl dX15_isNames_26 ?_
    obtain ⟨z_89, hF_90, hq_91⟩ := hO.txt hL_sx hT_sx
    refine pg_get (ci := 14) (v := .ref sb) (C := RX14) (T := TX14) (N := 2) hx hb hts it_14 hown hK hP hL_sx hF_90 rfl 0 (by decide) (hts _ kt_710) (fun _ h9 => h9) rfl dX15_isNames_29 ?_
    refine lv_astore_n (lv' := [(2, .ref sb), (1, .int (nI kf_88)), (0, .ref h0)]) hx hb dX15_isNames_32 rfl hl (by decide) rfl (fun ls hl => ?_)
    refine lv_aload_n hx hb dX15_isNames_33 rfl (lv_at hl 2 rfl) ?_
    refine pg_get (ci := 15) (v := .ref se) (C := RX15) (T := TX15) (N := 59) hx hb hts it_15 hown hK hP hL_h0 hF_81 rfl 35 (by decide) (hts _ kt_847) (fun _ h9 => h9) rfl dX15_isNames_34 ?_
    refine pg_get (ci := 13) (v := .ref s1) (C := RX13) (T := TX13) (N := 5) hx hb hts it_13 hown hK hP hi_29 hF_82 rfl 2 (by decide) (hts _ kt_840) (fun _ h9 => h9) rfl dX15_isNames_37 ?_
    refine lv_iload_n hx hb dX15_isNames_40 rfl (lv_at hl 1 rfl) ?_
    refine pg_iald hx hb hK hP hi_32 0 hF_83 rfl (vp_in_nI (by omega) (by omega)) dX15_isNames_41 ?_
    obtain ⟨k_92, hk_93, ek_94⟩ := hq_44 ((nI kf_88) : Int32).toNatClampNeg
    refine lv_topi (fun x_95 ex_95 => ?_)
    obtain rfl : x_95 = nI k_92 := ex_95.trans ek_94
    refine lv_iconst (v := 1) hx hb dX15_isNames_42 (by decide) ?_
    refine lv_iadd hx hb dX15_isNames_43 ?_
    refine lv_topi (fun x_96 ex_96 => ?_)
    obtain rfl : x_96 = (nI (k_92 + 1)) := ex_96.trans (nI_add k_92 1)
    refine lv_istore_n (lv' := [(3, .int (nI (k_92 + 1))), (2, .ref sb), (1, .int (nI kf_88)), (0, .ref h0)]) hx hb dX15_isNames_44 rfl hl (by decide) rfl (fun ls hl => ?_)
    refine W.widen (k := 0) (n := 0) (by omega) (by omega) ?_
    have hF_98 : F se = .inr (13, [.ref sx, .ref s0, .ref s1, .ref s2, .int (nI zs)]) := (hR se (by rw [ht_30]; simp)).symm.trans hF_82
    have hF_99 : F s1 = .inl (cs 16, 40, .inl f_42) := (hR s1 (by rw [ht_35]; simp)).symm.trans hF_83
    have hF_100 : F s2 = .inl (cs 16, 40, .inl f_45) := (hR s2 (by rw [ht_36]; simp)).symm.trans hF_84
    have hF_101 : F s0 = .inl (cs 16, 40, .inl f_48) := (hR s0 (by rw [ht_34]; simp)).symm.trans hF_85
    have hF_102 : F sb = .inl (cs 17, 3000, .inl f_53) := (hR sb (by rw [ht_40]; simp)).symm.trans hF_86
    have hF_103 : F sx = .inr (14, [.ref sb, .int (nI z_89)]) := (hR sx (by rw [hT_sx]; simp)).symm.trans hF_90
    refine pl_loopm (σ := Nat) A (dC, dI) cs ty gm L [ρ] F 45 5 (fun j => [(3, .int (nI j)), (2, .ref sb), (1, .int (nI kf_88)), (0, .ref h0)]) (fun j => []) (fun j _ => j ≤ 1282) (fun j => 1282 - j) ?_ (k_92 + 1) F_79 (by omega) hO hR _ _ hP hD hS ls (lv_sub hl [0, 1, 2, 3] rfl)
    rintro j F_97 hv_104 hO hR ih_105 H locs hP hD hS ls hl
    have hl : lv_has ls 5 [(3, .int (nI j)), (2, .ref sb), (1, .int (nI kf_88)), (0, .ref h0)] := hl
    have hv_104 : j ≤ 1282 := hv_104
    refine W.eq (g2 := F0 m 45 ls []) rfl ?_
    have hF_106 : F_97 se = .inr (13, [.ref sx, .ref s0, .ref s1, .ref s2, .int (nI zs)]) := (hR se (by rw [ht_30]; simp)).trans hF_98
    have hF_107 : F_97 s1 = .inl (cs 16, 40, .inl f_42) := (hR s1 (by rw [ht_35]; simp)).trans hF_99
    have hF_108 : F_97 s2 = .inl (cs 16, 40, .inl f_45) := (hR s2 (by rw [ht_36]; simp)).trans hF_100
    have hF_109 : F_97 s0 = .inl (cs 16, 40, .inl f_48) := (hR s0 (by rw [ht_34]; simp)).trans hF_101
    have hF_110 : F_97 sb = .inl (cs 17, 3000, .inl f_53) := (hR sb (by rw [ht_40]; simp)).trans hF_102
    have hF_111 : F_97 sx = .inr (14, [.ref sb, .int (nI z_89)]) := (hR sx (by rw [hT_sx]; simp)).trans hF_103
    refine lv_iload_n hx hb dX15_isNames_45 rfl (lv_at hl 0 rfl) ?_
    refine lv_aload_n hx hb dX15_isNames_46 rfl (lv_at hl 3 rfl) ?_
    obtain ⟨v14_112, v15_113, v17_114, v18_115, v19_116, v20_117, v21_118, v22_119, v33_120, v52_121, v53_122, v54_123, hF_124, hq_125, hq_126, hq_127, hq_128, hq_129⟩ := hO.mod hL_h0 hT_h0
    refine pg_get (ci := 15) (v := .ref se) (C := RX15) (T := TX15) (N := 59) hx hb hts it_15 hown hK hP hL_h0 hF_124 rfl 35 (by decide) (hts _ kt_847) (fun _ h9 => h9) rfl dX15_isNames_47 ?_
    refine pg_get (ci := 13) (v := .ref s2) (C := RX13) (T := TX13) (N := 5) hx hb hts it_13 hown hK hP hi_29 hF_106 rfl 3 (by decide) (hts _ kt_841) (fun _ h9 => h9) rfl dX15_isNames_50 ?_
    refine lv_iload_n hx hb dX15_isNames_53 rfl (lv_at hl 2 rfl) ?_
    refine pg_iald hx hb hK hP hi_33 0 hF_108 rfl (vp_in_nI (by omega) (by omega)) dX15_isNames_54 ?_
    obtain ⟨k_130, hk_131, ek_132⟩ := hq_47 ((nI kf_88) : Int32).toNatClampNeg
    refine lv_topi (fun x_133 ex_133 => ?_)
    obtain rfl : x_133 = nI k_130 := ex_133.trans ek_132
    refine lv_icmp_gt (tgt := 165) hx hb dX15_isNames_55 (by decide) (fun c_134 => ?_) (fun c_134 => ?_)
    ·
      have hi_135 : k_130 < j := (nI_ltI (a := k_130) (b := j) (by omega) (by omega)).mp c_134
      refine lv_iconst (v := 1) hx hb dX15_isNames_165 (by decide) ?_
      refine W.widen (k := 0) (n := 0) (by omega) (by omega) ?_
      exact W.zret (v := 1) (ty := .boolean) hx hb hr (by decide) (fun t ht hWm => ⟨⟨1, (), rfl, (Or.inr ⟨rfl, kf_88, hkf_88, hw_78⟩), ⟨F_97, QTm.mk ht hP hD hO hR⟩⟩, hS.F ht⟩) hS.2.2 dX15_isNames_166
    ·
      have hi_136 : j ≤ k_130 := Nat.not_lt.mp (fun q => c_134 ((nI_ltI (a := k_130) (b := j) (by omega) (by omega)).mpr q))
      refine lv_iload_n hx hb dX15_isNames_58 rfl (lv_at hl 0 rfl) ?_
      refine lv_istore (lv' := [(4, .int (nI j)), (3, .int (nI j)), (2, .ref sb), (1, .int (nI kf_88)), (0, .ref h0)]) hx hb dX15_isNames_59 hl (by decide) rfl (fun ls hl => ?_)
      refine W.widen (k := 0) (n := 0) (by omega) (by omega) ?_
      have hF_138 : F se = .inr (13, [.ref sx, .ref s0, .ref s1, .ref s2, .int (nI zs)]) := (hR se (by rw [ht_30]; simp)).symm.trans hF_106
      have hF_139 : F s1 = .inl (cs 16, 40, .inl f_42) := (hR s1 (by rw [ht_35]; simp)).symm.trans hF_107
      have hF_140 : F s2 = .inl (cs 16, 40, .inl f_45) := (hR s2 (by rw [ht_36]; simp)).symm.trans hF_108
      have hF_141 : F s0 = .inl (cs 16, 40, .inl f_48) := (hR s0 (by rw [ht_34]; simp)).symm.trans hF_109
      have hF_142 : F sb = .inl (cs 17, 3000, .inl f_53) := (hR sb (by rw [ht_40]; simp)).symm.trans hF_110
      have hF_143 : F sx = .inr (14, [.ref sb, .int (nI z_89)]) := (hR sx (by rw [hT_sx]; simp)).symm.trans hF_111
      refine pl_loopm (σ := Nat) A (dC, dI) cs ty gm L [ρ] F 61 5 (fun i => [(4, .int (nI i)), (3, .int (nI j)), (2, .ref sb), (1, .int (nI kf_88)), (0, .ref h0)]) (fun i => []) (fun i _ => j ≤ i ∧ i ≤ 1281) (fun i => 1281 - i) ?_ j F_97 (⟨by omega, by omega⟩) hO hR _ _ hP hD hS ls (lv_sub hl [0, 1, 2, 3, 4] rfl)
      rintro i F_137 hv_144 hO hR ih_145 H locs hP hD hS ls hl
      have hl : lv_has ls 5 [(4, .int (nI i)), (3, .int (nI j)), (2, .ref sb), (1, .int (nI kf_88)), (0, .ref h0)] := hl
      have hv_144 : j ≤ i ∧ i ≤ 1281 := hv_144
      refine W.eq (g2 := F0 m 61 ls []) rfl ?_
      have hF_146 : F_137 se = .inr (13, [.ref sx, .ref s0, .ref s1, .ref s2, .int (nI zs)]) := (hR se (by rw [ht_30]; simp)).trans hF_138
      have hF_147 : F_137 s1 = .inl (cs 16, 40, .inl f_42) := (hR s1 (by rw [ht_35]; simp)).trans hF_139
      have hF_148 : F_137 s2 = .inl (cs 16, 40, .inl f_45) := (hR s2 (by rw [ht_36]; simp)).trans hF_140
      have hF_149 : F_137 s0 = .inl (cs 16, 40, .inl f_48) := (hR s0 (by rw [ht_34]; simp)).trans hF_141
      have hF_150 : F_137 sb = .inl (cs 17, 3000, .inl f_53) := (hR sb (by rw [ht_40]; simp)).trans hF_142
      have hF_151 : F_137 sx = .inr (14, [.ref sb, .int (nI z_89)]) := (hR sx (by rw [hT_sx]; simp)).trans hF_143
      obtain ⟨hj1, hj2⟩ := hv_144
      refine lv_iload hx hb dX15_isNames_61 (lv_at hl 0 rfl) ?_
      refine lv_aload_n hx hb dX15_isNames_63 rfl (lv_at hl 4 rfl) ?_
      obtain ⟨v14_152, v15_153, v17_154, v18_155, v19_156, v20_157, v21_158, v22_159, v33_160, v52_161, v53_162, v54_163, hF_164, hq_165, hq_166, hq_167, hq_168, hq_169⟩ := hO.mod hL_h0 hT_h0
      refine pg_get (ci := 15) (v := .ref se) (C := RX15) (T := TX15) (N := 59) hx hb hts it_15 hown hK hP hL_h0 hF_164 rfl 35 (by decide) (hts _ kt_847) (fun _ h9 => h9) rfl dX15_isNames_64 ?_
      refine pg_get (ci := 13) (v := .ref s2) (C := RX13) (T := TX13) (N := 5) hx hb hts it_13 hown hK hP hi_29 hF_146 rfl 3 (by decide) (hts _ kt_841) (fun _ h9 => h9) rfl dX15_isNames_67 ?_
      refine lv_iload_n hx hb dX15_isNames_70 rfl (lv_at hl 3 rfl) ?_
      refine pg_iald hx hb hK hP hi_33 0 hF_148 rfl (vp_in_nI (by omega) (by omega)) dX15_isNames_71 ?_
      refine lv_topi (fun x_170 ex_170 => ?_)
      obtain rfl : x_170 = nI k_130 := ex_170.trans ek_132
      refine lv_icmp_ge (tgt := 121) hx hb dX15_isNames_72 (by decide) (fun c_171 => ?_) (fun c_171 => ?_)
      ·
        have hi_172 : k_130 ≤ i := leN (N := k_130) c_171
        refine lv_iload hx hb dX15_isNames_121 (lv_at hl 0 rfl) ?_
        refine lv_iload_n hx hb dX15_isNames_123 rfl (lv_at hl 1 rfl) ?_
        refine lv_isub hx hb dX15_isNames_124 ?_
        refine lv_topi (fun x_173 ex_173 => ?_)
        obtain rfl : x_173 = ((nI i) - (nI j)) := ex_173.trans (rfl)
        refine lv_i2l (v := ((nI i) - (nI j)).toInt64) hx hb dX15_isNames_125 rfl ?_
        refine lv_lconst (v := 1) hx hb dX15_isNames_126 (by decide) ?_
        refine lv_ldc2 (v := 20) hx hb hown (hts _ kt_850) dX15_isNames_127 ?_
        have hFc := pg_free hD hS hA
        refine va_calli (va_runS (As := [.long (((nI i) - (nI j)).toInt64), .long 1, .long 20]) (rest := []) ⟨hx, hb, hml, hown, hts⟩ (s_X15_in l dC dI cs ty gm L H.size F_137 (((nI i) - (nI j)).toInt64) 1 20 hW ) ⟨callB_of 3 hts (gi kt_685) rfl rfl rfl (hts _ kt_669) (hts _ kt_705) (by decide +kernel) ⟨Nat.le_of_ble_eq_true rfl, Nat.le_of_ble_eq_true rfl⟩, (hts _ kt_686)⟩ ⟨fun a U g mk q => ⟨q.1, PTm.calling q.2⟩, fun U hU hWm => ⟨rfl, PTm.mk hU hWm hP hK hD hE hO⟩⟩ rfl rfl hl.1 rfl (lv_room (Nat.le_of_ble_eq_true rfl)) dX15_isNames_130 ⟨by show _ + 0 ≤ 0; omega, by show _ + 0 ≤ 0; omega⟩) hS (fun q _ h => hFc q h) hFc (fun r_174 u t H1 locs ht hvm hw hB hz1 hk1 hS => ?_)
        obtain ⟨F_175, hB1⟩ := hB
        obtain rfl : F_137 = F_175 := (funext (fun a => hB1.2.2.2 a List.not_mem_nil)).symm
        obtain ⟨hP, hD, hO, hR⟩ := QTm.back hB1 ht hFc hR (fun q h => absurd h List.not_mem_nil)
        generalize H1 = H at hP hS ⊢
        have hw : r_174 = (if 1 ≤ ((nI i) - (nI j)).toInt64 ∧ ((nI i) - (nI j)).toInt64 ≤ 20 then 1 else 0) := hw
        have hw_176 := hw
        refine lv_if_ne (tgt := 138) hx hb dX15_isNames_133 (by decide) (fun c_177 => ?_) (fun c_177 => ?_)
        ·
          refine lv_aload_n hx hb dX15_isNames_138 rfl (lv_at hl 4 rfl) ?_
          refine lv_dup hx hb dX15_isNames_139 rfl ?_
          refine pg_get (ci := 15) (v := .int v54_163) (C := RX15) (T := TX15) (N := 59) hx hb hts it_15 hown hK hP hL_h0 hF_164 rfl 54 (by decide) (hts _ kt_849) (fun _ h9 => h9) rfl dX15_isNames_140 ?_
          refine lv_aload_n hx hb dX15_isNames_143 rfl (lv_at hl 2 rfl) ?_
          refine lv_iload_n hx hb dX15_isNames_144 rfl (lv_at hl 1 rfl) ?_
          refine lv_iload hx hb dX15_isNames_145 (lv_at hl 0 rfl) ?_
          obtain ⟨q_178, v_179, hr_q_178, hX_q_178⟩ := hG.2.2 ("PostGateModel", 488, "from", [102, 114, 111, 109]) (by decide +kernel)
          have hX_q_178 : SXc q_178 v_179 4 (cct [102, 114, 111, 109]) A s s.heap := hX_q_178
          obtain ⟨xo_q_178, xc_q_178, xv_q_178, xt_q_178, xn_q_178⟩ := id hX_q_178
          have hr_q_178 : vk_R "PostGateModel" 488 "from" q_178 s := hr_q_178
          refine va_ldcwS hx hb hown hr_q_178 dX15_isNames_147 ?_
          have hFc := pg_free hD hS hA
          refine va_calli (va_runS (As := [.ref sb, .int (nI j), .int (nI i), .ref q_178]) (rest := [.int v54_163, .ref h0]) ⟨hx, hb, hml, hown, hts⟩ (s_X15_isAlike l dC dI cs ty gm L H.size F_137 sb (ρ + 12) 3000 q_178 v_179 4 (cct [102, 114, 111, 109]) j i hW hi_39 ht_40 (by first | omega | assumption | exact Or.inl rfl) (by first | omega | assumption | exact Or.inl rfl)) ⟨callB_of 4 hts (gi kt_851) rfl rfl rfl (hts _ kt_669) (hts _ kt_852) (by decide +kernel) ⟨Nat.le_of_ble_eq_true rfl, Nat.le_of_ble_eq_true rfl⟩, (hts _ kt_853)⟩ ⟨fun a U g mk q => ⟨q.1, PTEm.calling q.2⟩, fun U hU hWm => ⟨rfl, PTEm.mk hU hWm hP hK hD hE hO hG (fun x hx => by rw [List.mem_singleton] at hx; subst hx; exact hX_q_178) hS hFc⟩⟩ rfl rfl hl.1 rfl (lv_room (Nat.le_of_ble_eq_true rfl)) dX15_isNames_150 ⟨by show _ + 0 ≤ 0; omega, by show _ + 0 ≤ 0; omega⟩) hS (fun q _ h => hFc q h) hFc (fun r_180 u t H1 locs ht hvm hw hB hz1 hk1 hS => ?_)
          obtain ⟨F_181, hB1⟩ := hB
          obtain rfl : F_137 = F_181 := (funext (fun a => hB1.2.2.2 a List.not_mem_nil)).symm
          obtain ⟨hP, hD, hO, hR⟩ := QTm.back hB1 ht hFc hR (fun q h => absurd h List.not_mem_nil)
          generalize H1 = H at hP hS ⊢
          have hw : (r_180 = 0 ∨ r_180 = 1) := hw
          have hw_182 := hw
          refine lv_ior hx hb dX15_isNames_153 ?_
          have hob := orbit hq_168 hw_182
          refine lv_topi (fun x_183 ex_183 => ?_)
          obtain rfl : x_183 = (v54_163 ||| r_180) := ex_183.trans (rfl)
          refine pg_put (ci := 15) (v := .int (v54_163 ||| r_180)) (ty := .boolean) (C := RX15) (T := TX15) (N := 59) hx hb hts it_15 tyX15 tyX15_ok nmX15 hown hK hP hD hS hL_h0 hF_164 rfl 54 (by decide) (hts _ kt_849) (fun _ h9 => h9) rfl (by decide +kernel) (bitN hob) (bitF hob) (Nat.le_of_ble_eq_true rfl) dX15_isNames_154 (fun H locs hP hD hS => ?_)
          obtain ⟨F_184, he_185, hP, hD, hO, hR⟩ : ∃ G, G = va_up F_137 h0 (.inr (15, (.ref ta) :: (.int (nI zt)) :: (.int (nI zo)) :: (.int (nI ze)) :: (.ref ou) :: (.ref so) :: (.ref ad) :: (.ref na) :: (.ref va) :: (.ref lc) :: (.ref dm) :: (.int (nI fm)) :: (.int (nI sn)) :: (.ref tg) :: (.int v14_152) :: (.int v15_153) :: (.ref pe) :: (.int v17_154) :: (.int v18_155) :: (.int v19_156) :: (.int v20_157) :: (.int v21_158) :: (.int v22_159) :: (.ref ml) :: (.ref bg) :: (.ref co) :: (.ref sp) :: (.ref nb0) :: (.ref nb1) :: (.ref nb2) :: (.int (nI nf)) :: (.int (nI bd)) :: (.int (nI mm)) :: (.int v33_160) :: (.ref pl) :: (.ref se) :: (.ref ke) :: (.ref wi) :: (.ref hs) :: (.ref mo) :: (.ref po) :: (.ref nu) :: (.ref pr) :: (.ref sq) :: (.ref xa) :: (.ref sa) :: (.ref n64) :: (.ref m64) :: (.ref ex) :: (.ref wh) :: (.ref sd) :: (.ref tk) :: (.int v52_161) :: (.int v53_162) :: (.int (v54_163 ||| r_180)) :: (.ref hd) :: (.ref ak) :: (.ref ho) :: (.ref ot) :: [])) ∧ va_P (dC, dI) vwCl (va_pl L G) H ∧ va_D A (va_pl L G) ∧ OKm cs ty gm L G ∧ FR ty [ρ] F G := ⟨_, rfl, hP, hD, hO.up (shm.mod hT_h0 ⟨v14_152, v15_153, v17_154, v18_155, v19_156, v20_157, v21_158, v22_159, v33_160, v52_161, v53_162, (v54_163 ||| r_180), rfl, (by first | omega | assumption | exact Or.inl rfl | exact Or.inr rfl), (by first | omega | assumption | exact Or.inl rfl | exact Or.inr rfl), (by first | omega | assumption | exact Or.inl rfl | exact Or.inr rfl), (by first | omega | assumption | exact Or.inl rfl | exact Or.inr rfl), (by first | omega | assumption | exact Or.inl rfl | exact Or.inr rfl)⟩), hR.up hT_h0 (by simp)⟩
          have hF_186 : F_184 h0 = .inr (15, (.ref ta) :: (.int (nI zt)) :: (.int (nI zo)) :: (.int (nI ze)) :: (.ref ou) :: (.ref so) :: (.ref ad) :: (.ref na) :: (.ref va) :: (.ref lc) :: (.ref dm) :: (.int (nI fm)) :: (.int (nI sn)) :: (.ref tg) :: (.int v14_152) :: (.int v15_153) :: (.ref pe) :: (.int v17_154) :: (.int v18_155) :: (.int v19_156) :: (.int v20_157) :: (.int v21_158) :: (.int v22_159) :: (.ref ml) :: (.ref bg) :: (.ref co) :: (.ref sp) :: (.ref nb0) :: (.ref nb1) :: (.ref nb2) :: (.int (nI nf)) :: (.int (nI bd)) :: (.int (nI mm)) :: (.int v33_160) :: (.ref pl) :: (.ref se) :: (.ref ke) :: (.ref wi) :: (.ref hs) :: (.ref mo) :: (.ref po) :: (.ref nu) :: (.ref pr) :: (.ref sq) :: (.ref xa) :: (.ref sa) :: (.ref n64) :: (.ref m64) :: (.ref ex) :: (.ref wh) :: (.ref sd) :: (.ref tk) :: (.int v52_161) :: (.int v53_162) :: (.int (v54_163 ||| r_180)) :: (.ref hd) :: (.ref ak) :: (.ref ho) :: (.ref ot) :: []) := by rw [he_185]; exact up_self
          have hF_187 : F_184 se = .inr (13, [.ref sx, .ref s0, .ref s1, .ref s2, .int (nI zs)]) := by rw [he_185, up_ne (ne_ty ht_30 hT_h0 (by simp))]; exact hF_146
          have hF_188 : F_184 s1 = .inl (cs 16, 40, .inl f_42) := by rw [he_185, up_ne (ne_ty ht_35 hT_h0 (by simp))]; exact hF_147
          have hF_189 : F_184 s2 = .inl (cs 16, 40, .inl f_45) := by rw [he_185, up_ne (ne_ty ht_36 hT_h0 (by simp))]; exact hF_148
          have hF_190 : F_184 s0 = .inl (cs 16, 40, .inl f_48) := by rw [he_185, up_ne (ne_ty ht_34 hT_h0 (by simp))]; exact hF_149
          have hF_191 : F_184 sb = .inl (cs 17, 3000, .inl f_53) := by rw [he_185, up_ne (ne_ty ht_40 hT_h0 (by simp))]; exact hF_150
          have hF_192 : F_184 sx = .inr (14, [.ref sb, .int (nI z_89)]) := by rw [he_185, up_ne (ne_ty hT_sx hT_h0 (by simp))]; exact hF_151
          refine lv_iload hx hb dX15_isNames_157 (lv_at hl 0 rfl) ?_
          refine lv_iconst (v := 1) hx hb dX15_isNames_159 (by decide) ?_
          refine lv_iadd hx hb dX15_isNames_160 ?_
          refine lv_topi (fun x_193 ex_193 => ?_)
          obtain rfl : x_193 = (nI (i + 1)) := ex_193.trans (nI_add i 1)
          refine lv_istore_n (lv' := [(3, .int (nI (i + 1))), (4, .int (nI i)), (2, .ref sb), (1, .int (nI kf_88)), (0, .ref h0)]) hx hb dX15_isNames_161 rfl hl (by decide) rfl (fun ls hl => ?_)
          refine lv_goto (tgt := 45) hx hb dX15_isNames_162 (by decide) ?_
          refine W.widen (k := 0) (n := 0) (by omega) (by omega) ?_
          exact ih_105 (i + 1) F_184 (by first | omega | exact ⟨by omega, by omega⟩ | trivial) (by show 1282 - (i + 1) < 1282 - j; omega) hO hR _ _ hP hD hS ls (lv_sub hl [0, 2, 3, 4] rfl)
        ·
          refine lv_iconst (v := 0) hx hb dX15_isNames_136 (by decide) ?_
          refine W.widen (k := 0) (n := 0) (by omega) (by omega) ?_
          exact W.zret (v := 0) (ty := .boolean) hx hb hr (by decide) (fun t ht hWm => ⟨⟨0, (), rfl, Or.inl rfl, ⟨F_137, QTm.mk ht hP hD hO hR⟩⟩, hS.F ht⟩) hS.2.2 dX15_isNames_137
      ·
        have hi_194 : i < k_130 := ltN (N := k_130) c_171
        refine lv_aload_n hx hb dX15_isNames_75 rfl (lv_at hl 2 rfl) ?_
        refine lv_iload hx hb dX15_isNames_76 (lv_at hl 0 rfl) ?_
        refine pg_bald hx hb hK hP hi_39 1 hF_150 rfl (vp_in_nI (by omega) (by omega)) dX15_isNames_78 ?_
        refine lv_topi (fun x_195 ex_195 => ?_)
        obtain rfl : x_195 = f_53 i := ex_195.trans (congrArg f_53 (show ((nI i) : Int32).toNatClampNeg = i from nI_clamp (by omega)))
        refine lv_bipush (v := 58) hx hb dX15_isNames_79 (by decide) ?_
        refine lv_icmp_eq (tgt := 121) hx hb dX15_isNames_81 (by decide) (fun c_196 => ?_) (fun c_196 => ?_)
        ·
          refine lv_iload hx hb dX15_isNames_121 (lv_at hl 0 rfl) ?_
          refine lv_iload_n hx hb dX15_isNames_123 rfl (lv_at hl 1 rfl) ?_
          refine lv_isub hx hb dX15_isNames_124 ?_
          refine lv_topi (fun x_197 ex_197 => ?_)
          obtain rfl : x_197 = ((nI i) - (nI j)) := ex_197.trans (rfl)
          refine lv_i2l (v := ((nI i) - (nI j)).toInt64) hx hb dX15_isNames_125 rfl ?_
          refine lv_lconst (v := 1) hx hb dX15_isNames_126 (by decide) ?_
          refine lv_ldc2 (v := 20) hx hb hown (hts _ kt_850) dX15_isNames_127 ?_
          have hFc := pg_free hD hS hA
          refine va_calli (va_runS (As := [.long (((nI i) - (nI j)).toInt64), .long 1, .long 20]) (rest := []) ⟨hx, hb, hml, hown, hts⟩ (s_X15_in l dC dI cs ty gm L H.size F_137 (((nI i) - (nI j)).toInt64) 1 20 hW ) ⟨callB_of 3 hts (gi kt_685) rfl rfl rfl (hts _ kt_669) (hts _ kt_705) (by decide +kernel) ⟨Nat.le_of_ble_eq_true rfl, Nat.le_of_ble_eq_true rfl⟩, (hts _ kt_686)⟩ ⟨fun a U g mk q => ⟨q.1, PTm.calling q.2⟩, fun U hU hWm => ⟨rfl, PTm.mk hU hWm hP hK hD hE hO⟩⟩ rfl rfl hl.1 rfl (lv_room (Nat.le_of_ble_eq_true rfl)) dX15_isNames_130 ⟨by show _ + 0 ≤ 0; omega, by show _ + 0 ≤ 0; omega⟩) hS (fun q _ h => hFc q h) hFc (fun r_198 u t H1 locs ht hvm hw hB hz1 hk1 hS => ?_)
          obtain ⟨F_199, hB1⟩ := hB
          obtain rfl : F_137 = F_199 := (funext (fun a => hB1.2.2.2 a List.not_mem_nil)).symm
          obtain ⟨hP, hD, hO, hR⟩ := QTm.back hB1 ht hFc hR (fun q h => absurd h List.not_mem_nil)
          generalize H1 = H at hP hS ⊢
          have hw : r_198 = (if 1 ≤ ((nI i) - (nI j)).toInt64 ∧ ((nI i) - (nI j)).toInt64 ≤ 20 then 1 else 0) := hw
          have hw_200 := hw
          refine lv_if_ne (tgt := 138) hx hb dX15_isNames_133 (by decide) (fun c_201 => ?_) (fun c_201 => ?_)
          ·
            refine lv_aload_n hx hb dX15_isNames_138 rfl (lv_at hl 4 rfl) ?_
            refine lv_dup hx hb dX15_isNames_139 rfl ?_
            refine pg_get (ci := 15) (v := .int v54_163) (C := RX15) (T := TX15) (N := 59) hx hb hts it_15 hown hK hP hL_h0 hF_164 rfl 54 (by decide) (hts _ kt_849) (fun _ h9 => h9) rfl dX15_isNames_140 ?_
            refine lv_aload_n hx hb dX15_isNames_143 rfl (lv_at hl 2 rfl) ?_
            refine lv_iload_n hx hb dX15_isNames_144 rfl (lv_at hl 1 rfl) ?_
            refine lv_iload hx hb dX15_isNames_145 (lv_at hl 0 rfl) ?_
            obtain ⟨q_202, v_203, hr_q_202, hX_q_202⟩ := hG.2.2 ("PostGateModel", 488, "from", [102, 114, 111, 109]) (by decide +kernel)
            have hX_q_202 : SXc q_202 v_203 4 (cct [102, 114, 111, 109]) A s s.heap := hX_q_202
            obtain ⟨xo_q_202, xc_q_202, xv_q_202, xt_q_202, xn_q_202⟩ := id hX_q_202
            have hr_q_202 : vk_R "PostGateModel" 488 "from" q_202 s := hr_q_202
            refine va_ldcwS hx hb hown hr_q_202 dX15_isNames_147 ?_
            have hFc := pg_free hD hS hA
            refine va_calli (va_runS (As := [.ref sb, .int (nI j), .int (nI i), .ref q_202]) (rest := [.int v54_163, .ref h0]) ⟨hx, hb, hml, hown, hts⟩ (s_X15_isAlike l dC dI cs ty gm L H.size F_137 sb (ρ + 12) 3000 q_202 v_203 4 (cct [102, 114, 111, 109]) j i hW hi_39 ht_40 (by first | omega | assumption | exact Or.inl rfl) (by first | omega | assumption | exact Or.inl rfl)) ⟨callB_of 4 hts (gi kt_851) rfl rfl rfl (hts _ kt_669) (hts _ kt_852) (by decide +kernel) ⟨Nat.le_of_ble_eq_true rfl, Nat.le_of_ble_eq_true rfl⟩, (hts _ kt_853)⟩ ⟨fun a U g mk q => ⟨q.1, PTEm.calling q.2⟩, fun U hU hWm => ⟨rfl, PTEm.mk hU hWm hP hK hD hE hO hG (fun x hx => by rw [List.mem_singleton] at hx; subst hx; exact hX_q_202) hS hFc⟩⟩ rfl rfl hl.1 rfl (lv_room (Nat.le_of_ble_eq_true rfl)) dX15_isNames_150 ⟨by show _ + 0 ≤ 0; omega, by show _ + 0 ≤ 0; omega⟩) hS (fun q _ h => hFc q h) hFc (fun r_204 u t H1 locs ht hvm hw hB hz1 hk1 hS => ?_)
            obtain ⟨F_205, hB1⟩ := hB
            obtain rfl : F_137 = F_205 := (funext (fun a => hB1.2.2.2 a List.not_mem_nil)).symm
            obtain ⟨hP, hD, hO, hR⟩ := QTm.back hB1 ht hFc hR (fun q h => absurd h List.not_mem_nil)
            generalize H1 = H at hP hS ⊢
            have hw : (r_204 = 0 ∨ r_204 = 1) := hw
            have hw_206 := hw
            refine lv_ior hx hb dX15_isNames_153 ?_
            have hob := orbit hq_168 hw_206
            refine lv_topi (fun x_207 ex_207 => ?_)
            obtain rfl : x_207 = (v54_163 ||| r_204) := ex_207.trans (rfl)
            refine pg_put (ci := 15) (v := .int (v54_163 ||| r_204)) (ty := .boolean) (C := RX15) (T := TX15) (N := 59) hx hb hts it_15 tyX15 tyX15_ok nmX15 hown hK hP hD hS hL_h0 hF_164 rfl 54 (by decide) (hts _ kt_849) (fun _ h9 => h9) rfl (by decide +kernel) (bitN hob) (bitF hob) (Nat.le_of_ble_eq_true rfl) dX15_isNames_154 (fun H locs hP hD hS => ?_)
            obtain ⟨F_208, he_209, hP, hD, hO, hR⟩ : ∃ G, G = va_up F_137 h0 (.inr (15, (.ref ta) :: (.int (nI zt)) :: (.int (nI zo)) :: (.int (nI ze)) :: (.ref ou) :: (.ref so) :: (.ref ad) :: (.ref na) :: (.ref va) :: (.ref lc) :: (.ref dm) :: (.int (nI fm)) :: (.int (nI sn)) :: (.ref tg) :: (.int v14_152) :: (.int v15_153) :: (.ref pe) :: (.int v17_154) :: (.int v18_155) :: (.int v19_156) :: (.int v20_157) :: (.int v21_158) :: (.int v22_159) :: (.ref ml) :: (.ref bg) :: (.ref co) :: (.ref sp) :: (.ref nb0) :: (.ref nb1) :: (.ref nb2) :: (.int (nI nf)) :: (.int (nI bd)) :: (.int (nI mm)) :: (.int v33_160) :: (.ref pl) :: (.ref se) :: (.ref ke) :: (.ref wi) :: (.ref hs) :: (.ref mo) :: (.ref po) :: (.ref nu) :: (.ref pr) :: (.ref sq) :: (.ref xa) :: (.ref sa) :: (.ref n64) :: (.ref m64) :: (.ref ex) :: (.ref wh) :: (.ref sd) :: (.ref tk) :: (.int v52_161) :: (.int v53_162) :: (.int (v54_163 ||| r_204)) :: (.ref hd) :: (.ref ak) :: (.ref ho) :: (.ref ot) :: [])) ∧ va_P (dC, dI) vwCl (va_pl L G) H ∧ va_D A (va_pl L G) ∧ OKm cs ty gm L G ∧ FR ty [ρ] F G := ⟨_, rfl, hP, hD, hO.up (shm.mod hT_h0 ⟨v14_152, v15_153, v17_154, v18_155, v19_156, v20_157, v21_158, v22_159, v33_160, v52_161, v53_162, (v54_163 ||| r_204), rfl, (by first | omega | assumption | exact Or.inl rfl | exact Or.inr rfl), (by first | omega | assumption | exact Or.inl rfl | exact Or.inr rfl), (by first | omega | assumption | exact Or.inl rfl | exact Or.inr rfl), (by first | omega | assumption | exact Or.inl rfl | exact Or.inr rfl), (by first | omega | assumption | exact Or.inl rfl | exact Or.inr rfl)⟩), hR.up hT_h0 (by simp)⟩
            have hF_210 : F_208 h0 = .inr (15, (.ref ta) :: (.int (nI zt)) :: (.int (nI zo)) :: (.int (nI ze)) :: (.ref ou) :: (.ref so) :: (.ref ad) :: (.ref na) :: (.ref va) :: (.ref lc) :: (.ref dm) :: (.int (nI fm)) :: (.int (nI sn)) :: (.ref tg) :: (.int v14_152) :: (.int v15_153) :: (.ref pe) :: (.int v17_154) :: (.int v18_155) :: (.int v19_156) :: (.int v20_157) :: (.int v21_158) :: (.int v22_159) :: (.ref ml) :: (.ref bg) :: (.ref co) :: (.ref sp) :: (.ref nb0) :: (.ref nb1) :: (.ref nb2) :: (.int (nI nf)) :: (.int (nI bd)) :: (.int (nI mm)) :: (.int v33_160) :: (.ref pl) :: (.ref se) :: (.ref ke) :: (.ref wi) :: (.ref hs) :: (.ref mo) :: (.ref po) :: (.ref nu) :: (.ref pr) :: (.ref sq) :: (.ref xa) :: (.ref sa) :: (.ref n64) :: (.ref m64) :: (.ref ex) :: (.ref wh) :: (.ref sd) :: (.ref tk) :: (.int v52_161) :: (.int v53_162) :: (.int (v54_163 ||| r_204)) :: (.ref hd) :: (.ref ak) :: (.ref ho) :: (.ref ot) :: []) := by rw [he_209]; exact up_self
            have hF_211 : F_208 se = .inr (13, [.ref sx, .ref s0, .ref s1, .ref s2, .int (nI zs)]) := by rw [he_209, up_ne (ne_ty ht_30 hT_h0 (by simp))]; exact hF_146
            have hF_212 : F_208 s1 = .inl (cs 16, 40, .inl f_42) := by rw [he_209, up_ne (ne_ty ht_35 hT_h0 (by simp))]; exact hF_147
            have hF_213 : F_208 s2 = .inl (cs 16, 40, .inl f_45) := by rw [he_209, up_ne (ne_ty ht_36 hT_h0 (by simp))]; exact hF_148
            have hF_214 : F_208 s0 = .inl (cs 16, 40, .inl f_48) := by rw [he_209, up_ne (ne_ty ht_34 hT_h0 (by simp))]; exact hF_149
            have hF_215 : F_208 sb = .inl (cs 17, 3000, .inl f_53) := by rw [he_209, up_ne (ne_ty ht_40 hT_h0 (by simp))]; exact hF_150
            have hF_216 : F_208 sx = .inr (14, [.ref sb, .int (nI z_89)]) := by rw [he_209, up_ne (ne_ty hT_sx hT_h0 (by simp))]; exact hF_151
            refine lv_iload hx hb dX15_isNames_157 (lv_at hl 0 rfl) ?_
            refine lv_iconst (v := 1) hx hb dX15_isNames_159 (by decide) ?_
            refine lv_iadd hx hb dX15_isNames_160 ?_
            refine lv_topi (fun x_217 ex_217 => ?_)
            obtain rfl : x_217 = (nI (i + 1)) := ex_217.trans (nI_add i 1)
            refine lv_istore_n (lv' := [(3, .int (nI (i + 1))), (4, .int (nI i)), (2, .ref sb), (1, .int (nI kf_88)), (0, .ref h0)]) hx hb dX15_isNames_161 rfl hl (by decide) rfl (fun ls hl => ?_)
            refine lv_goto (tgt := 45) hx hb dX15_isNames_162 (by decide) ?_
            refine W.widen (k := 0) (n := 0) (by omega) (by omega) ?_
            exact ih_105 (i + 1) F_208 (by first | omega | exact ⟨by omega, by omega⟩ | trivial) (by show 1282 - (i + 1) < 1282 - j; omega) hO hR _ _ hP hD hS ls (lv_sub hl [0, 2, 3, 4] rfl)
          ·
            refine lv_iconst (v := 0) hx hb dX15_isNames_136 (by decide) ?_
            refine W.widen (k := 0) (n := 0) (by omega) (by omega) ?_
            exact W.zret (v := 0) (ty := .boolean) hx hb hr (by decide) (fun t ht hWm => ⟨⟨0, (), rfl, Or.inl rfl, ⟨F_137, QTm.mk ht hP hD hO hR⟩⟩, hS.F ht⟩) hS.2.2 dX15_isNames_137
        ·
          have hF_220 : F se = .inr (13, [.ref sx, .ref s0, .ref s1, .ref s2, .int (nI zs)]) := (hR se (by rw [ht_30]; simp)).symm.trans hF_146
          have hF_221 : F s1 = .inl (cs 16, 40, .inl f_42) := (hR s1 (by rw [ht_35]; simp)).symm.trans hF_147
          have hF_222 : F s2 = .inl (cs 16, 40, .inl f_45) := (hR s2 (by rw [ht_36]; simp)).symm.trans hF_148
          have hF_223 : F s0 = .inl (cs 16, 40, .inl f_48) := (hR s0 (by rw [ht_34]; simp)).symm.trans hF_149
          have hF_224 : F sb = .inl (cs 17, 3000, .inl f_53) := (hR sb (by rw [ht_40]; simp)).symm.trans hF_150
          have hF_225 : F sx = .inr (14, [.ref sb, .int (nI z_89)]) := (hR sx (by rw [hT_sx]; simp)).symm.trans hF_151
          refine W.widen (k := 0) (n := 0) (by omega) (by omega) ?_
          refine pl_cutm (σ := Unit) A (dC, dI) cs ty gm L [ρ] F 115 5 (fun u0 => [(4, .int (nI i)), (3, .int (nI j)), (2, .ref sb), (1, .int (nI kf_88)), (0, .ref h0)]) (fun u0 => []) (fun u0 _ => True) ?_ (fun jn_218 => ?_)
          ·
            rintro u0 F_219 hv_226 hO hR H locs hP hD hS ls hl
            have hl : lv_has ls 5 [(4, .int (nI i)), (3, .int (nI j)), (2, .ref sb), (1, .int (nI kf_88)), (0, .ref h0)] := hl
            have hv_226 : True := hv_226
            refine W.eq (g2 := F0 m 115 ls []) rfl ?_
            have hF_227 : F_219 se = .inr (13, [.ref sx, .ref s0, .ref s1, .ref s2, .int (nI zs)]) := (hR se (by rw [ht_30]; simp)).trans hF_220
            have hF_228 : F_219 s1 = .inl (cs 16, 40, .inl f_42) := (hR s1 (by rw [ht_35]; simp)).trans hF_221
            have hF_229 : F_219 s2 = .inl (cs 16, 40, .inl f_45) := (hR s2 (by rw [ht_36]; simp)).trans hF_222
            have hF_230 : F_219 s0 = .inl (cs 16, 40, .inl f_48) := (hR s0 (by rw [ht_34]; simp)).trans hF_223
            have hF_231 : F_219 sb = .inl (cs 17, 3000, .inl f_53) := (hR sb (by rw [ht_40]; simp)).trans hF_224
            have hF_232 : F_219 sx = .inr (14, [.ref sb, .int (nI z_89)]) := (hR sx (by rw [hT_sx]; simp)).trans hF_225
            refine lv_iinc (v := (nI (i + 1))) (lv' := [(4, .int (nI (i + 1))), (3, .int (nI j)), (2, .ref sb), (1, .int (nI kf_88)), (0, .ref h0)]) hx hb dX15_isNames_115 hl (k := 0) rfl (nI_1 _) (by decide) rfl (fun ls hl => ?_)
            refine lv_goto (tgt := 61) hx hb dX15_isNames_118 (by decide) ?_
            refine W.widen (k := 0) (n := 0) (by omega) (by omega) ?_
            exact ih_145 (i + 1) F_219 (⟨by omega, by omega⟩) (by show 1281 - (i + 1) < 1281 - i; omega) hO hR _ _ hP hD hS ls (lv_sub hl [0, 1, 2, 3, 4] rfl)
          ·
            refine lv_aload_n hx hb dX15_isNames_84 rfl (lv_at hl 2 rfl) ?_
            refine lv_iload hx hb dX15_isNames_85 (lv_at hl 0 rfl) ?_
            refine pg_bald hx hb hK hP hi_39 1 hF_150 rfl (vp_in_nI (by omega) (by omega)) dX15_isNames_87 ?_
            refine lv_topi (fun x_233 ex_233 => ?_)
            obtain rfl : x_233 = f_53 i := ex_233.trans (congrArg f_53 (show ((nI i) : Int32).toNatClampNeg = i from nI_clamp (by omega)))
            have hFc := pg_free hD hS hA
            refine va_calli (va_runS (As := [.int (f_53 i)]) (rest := []) ⟨hx, hb, hml, hown, hts⟩ (s_X15_isLetter l dC dI cs ty gm L H.size F_137 (f_53 i) hW ) ⟨callB_of 1 hts (gi kt_854) rfl rfl rfl (hts _ kt_669) (hts _ kt_855) (by decide +kernel) ⟨Nat.le_of_ble_eq_true rfl, Nat.le_of_ble_eq_true rfl⟩, (hts _ kt_856)⟩ ⟨fun a U g mk q => ⟨q.1, PTm.calling q.2⟩, fun U hU hWm => ⟨rfl, PTm.mk hU hWm hP hK hD hE hO⟩⟩ rfl rfl hl.1 rfl (lv_room (Nat.le_of_ble_eq_true rfl)) dX15_isNames_88 ⟨by show _ + 0 ≤ 0; omega, by show _ + 0 ≤ 0; omega⟩) hS (fun q _ h => hFc q h) hFc (fun r_234 u t H1 locs ht hvm hw hB hz1 hk1 hS => ?_)
            obtain ⟨F_235, hB1⟩ := hB
            obtain rfl : F_137 = F_235 := (funext (fun a => hB1.2.2.2 a List.not_mem_nil)).symm
            obtain ⟨hP, hD, hO, hR⟩ := QTm.back hB1 ht hFc hR (fun q h => absurd h List.not_mem_nil)
            generalize H1 = H at hP hS ⊢
            have hw : (r_234 = 0 ∨ r_234 = 1) := hw
            have hw_236 := hw
            refine lv_if_ne (tgt := 115) hx hb dX15_isNames_91 (by decide) (fun c_237 => ?_) (fun c_237 => ?_)
            ·
              refine W.widen (k := 0) (n := 0) (by omega) (by omega) ?_
              exact jn_218 () F_137 (trivial) hO hR _ _ hP hD hS ls (lv_sub hl [0, 1, 2, 3, 4] rfl)
            ·
              refine lv_aload_n hx hb dX15_isNames_94 rfl (lv_at hl 2 rfl) ?_
              refine lv_iload hx hb dX15_isNames_95 (lv_at hl 0 rfl) ?_
              refine pg_bald hx hb hK hP hi_39 1 hF_150 rfl (vp_in_nI (by omega) (by omega)) dX15_isNames_97 ?_
              refine lv_topi (fun x_238 ex_238 => ?_)
              obtain rfl : x_238 = f_53 i := ex_238.trans (congrArg f_53 (show ((nI i) : Int32).toNatClampNeg = i from nI_clamp (by omega)))
              have hFc := pg_free hD hS hA
              refine va_calli (va_runS (As := [.int (f_53 i)]) (rest := []) ⟨hx, hb, hml, hown, hts⟩ (s_X15_isDigit l dC dI cs ty gm L H.size F_137 (f_53 i) hW ) ⟨callB_of 1 hts (gi kt_687) rfl rfl rfl (hts _ kt_669) (hts _ kt_707) (by decide +kernel) ⟨Nat.le_of_ble_eq_true rfl, Nat.le_of_ble_eq_true rfl⟩, (hts _ kt_688)⟩ ⟨fun a U g mk q => ⟨q.1, PTm.calling q.2⟩, fun U hU hWm => ⟨rfl, PTm.mk hU hWm hP hK hD hE hO⟩⟩ rfl rfl hl.1 rfl (lv_room (Nat.le_of_ble_eq_true rfl)) dX15_isNames_98 ⟨by show _ + 0 ≤ 0; omega, by show _ + 0 ≤ 0; omega⟩) hS (fun q _ h => hFc q h) hFc (fun r_239 u t H1 locs ht hvm hw hB hz1 hk1 hS => ?_)
              obtain ⟨F_240, hB1⟩ := hB
              obtain rfl : F_137 = F_240 := (funext (fun a => hB1.2.2.2 a List.not_mem_nil)).symm
              obtain ⟨hP, hD, hO, hR⟩ := QTm.back hB1 ht hFc hR (fun q h => absurd h List.not_mem_nil)
              generalize H1 = H at hP hS ⊢
              have hw : (r_239 = 0 ∨ r_239 = 1) := hw
              have hw_241 := hw
              refine lv_if_ne (tgt := 115) hx hb dX15_isNames_101 (by decide) (fun c_242 => ?_) (fun c_242 => ?_)
              ·
                refine W.widen (k := 0) (n := 0) (by omega) (by omega) ?_
                exact jn_218 () F_137 (trivial) hO hR _ _ hP hD hS ls (lv_sub hl [0, 1, 2, 3, 4] rfl)
              ·
                refine lv_aload_n hx hb dX15_isNames_104 rfl (lv_at hl 2 rfl) ?_
                refine lv_iload hx hb dX15_isNames_105 (lv_at hl 0 rfl) ?_
                refine pg_bald hx hb hK hP hi_39 1 hF_150 rfl (vp_in_nI (by omega) (by omega)) dX15_isNames_107 ?_
                refine lv_topi (fun x_243 ex_243 => ?_)
                obtain rfl : x_243 = f_53 i := ex_243.trans (congrArg f_53 (show ((nI i) : Int32).toNatClampNeg = i from nI_clamp (by omega)))
                refine lv_bipush (v := 45) hx hb dX15_isNames_108 (by decide) ?_
                refine lv_icmp_eq (tgt := 115) hx hb dX15_isNames_110 (by decide) (fun c_244 => ?_) (fun c_244 => ?_)
                ·
                  refine W.widen (k := 0) (n := 0) (by omega) (by omega) ?_
                  exact jn_218 () F_137 (trivial) hO hR _ _ hP hD hS ls (lv_sub hl [0, 1, 2, 3, 4] rfl)
                ·
                  refine lv_iconst (v := 0) hx hb dX15_isNames_113 (by decide) ?_
                  refine W.widen (k := 0) (n := 0) (by omega) (by omega) ?_
                  exact W.zret (v := 0) (ty := .boolean) hx hb hr (by decide) (fun t ht hWm => ⟨⟨0, (), rfl, Or.inl rfl, ⟨F_137, QTm.mk ht hP hD hO hR⟩⟩, hS.F ht⟩) hS.2.2 dX15_isNames_114
  ·
    refine lv_iconst (v := 0) hx hb dX15_isNames_20 (by decide) ?_
    refine W.widen (k := 0) (n := 0) (by omega) (by omega) ?_
    exact W.zret (v := 0) (ty := .boolean) hx hb hr (by decide) (fun t ht hWm => ⟨⟨0, (), rfl, Or.inl rfl, ⟨F_79, QTm.mk ht hP hD hO hR⟩⟩, hS.F ht⟩) hS.2.2 dX15_isNames_21
set_option maxHeartbeats 4000000 in
set_option maxRecDepth 100000 in
theorem s_X15_isWay (l : Launch) (dC : Nat → ClassId) (dI : Nat → Nat → Nat) (cs : Nat → ClassId) (ty : TyM) (gm : Nat → Nat → Nat) (L : List Nat) (sz : Nat) (F : Nat → va_E) (h0 : Nat) (ρ : Nat) (ta : Nat) (ou : Nat) (so : Nat) (ad : Nat) (na : Nat) (va : Nat) (lc : Nat) (dm : Nat) (tg : Nat) (pe : Nat) (ml : Nat) (bg : Nat) (co : Nat) (sp : Nat) (nb0 : Nat) (nb1 : Nat) (nb2 : Nat) (pl : Nat) (se : Nat) (ke : Nat) (wi : Nat) (hs : Nat) (mo : Nat) (po : Nat) (nu : Nat) (pr : Nat) (sq : Nat) (xa : Nat) (sa : Nat) (n64 : Nat) (m64 : Nat) (ex : Nat) (wh : Nat) (sd : Nat) (tk : Nat) (hd : Nat) (ak : Nat) (ho : Nat) (ot : Nat) (sx : Nat) (s0 : Nat) (s1 : Nat) (s2 : Nat) (nf : Nat) (bd : Nat) (mm : Nat) (zo : Nat) (fm : Nat) (sn : Nat) (hg : Nat) (gc : Nat) (gv : Nat) (ze : Nat) (zt : Nat) (sb : Nat) (zs : Nat) (hW : WTm ty gm L) (hL_h0 : h0 ∈ L) (hT_h0 : ty h0 = (15, ρ, [ta, ou, so, ad, na, va, lc, dm, tg, pe, ml, bg, co, sp, nb0, nb1, nb2, pl, se, ke, wi, hs, mo, po, nu, pr, sq, xa, sa, n64, m64, ex, wh, sd, tk, hd, ak, ho, ot, sx, s0, s1, s2, nf, bd, mm, zo, fm, sn, hg, gc, gv, ze, zt])) (hL_sx : sx ∈ L) (hT_sx : ty sx = (14, ρ + 12, [sb, 3000])) (hFs : F se = .inr (13, [.ref sx, .ref s0, .ref s1, .ref s2, .int (nI zs)])) (hzs : zs ≤ 40) : Met l yX15_isWay (.code yX15_isWay cX15_isWay 5 (some .boolean) :: tb) ({ frames := 6, cells := 0, slots := 0, locals := 131 }) (va_Pc [.ref h0] (PTEm (dC, dI) cs ty gm L F sz [])) (va_Qi (fun (r : Int32) (_ : Unit) => (r = 0 ∨ r = 1)) (fun _ T9 => ∃ F2 : Nat → va_E, QTm (dC, dI) cs ty gm L [ρ] F F2 (va_A (va_pl L F) sz) T9) (va_A (va_pl L F) sz)) 0 0 (va_A (va_pl L F) sz) := by
  refine Met.ofW (cc := cX15_isWay) (maxL := 5) (ret := (some .boolean)) (by decide) rfl ?_
  intro p e s m args below meth c s₁ B hml hv
  obtain ⟨rfl, ⟨hsz, hP, hK, hD0, hE, hO⟩, hG, hX⟩ := hv
  have hx := B.exec
  have hb := B.bytes
  have hr := B.returns
  have hts : ∀ w ∈ tb, w.before _ s = true := fun w h => atoms_spec (ws := .code yX15_isWay cX15_isWay 5 (some .boolean) :: tb) B.pre w (List.mem_cons_of_mem _ h)
  have hown : s.vm.findClass RX15 = some m.cls := findClass_of_methodNamed B.named
  have hlocks := B.notSynchronized
  subst hsz
  have hD := hD0.self (sz := s.heap.size)
  generalize hAe : va_A (va_pl L F) s.heap.size = A at hD hG hX ⊢
  have hA : ∀ q : Nat, s.heap.size ≤ q → A q := fun q h => by rw [← hAe]; exact Or.inr h
  have hS : va_S A s.heap s.heap [] := va_S.rf
  have hR : FR ty [ρ] F F := FR.refl
  have hl := lv_entry ([.ref h0]) (n := 5) (Nat.le_of_ble_eq_true rfl)
  rw [lg_entry_eq]
  generalize (lg_sl ([.ref h0]) ++ List.replicate (5 - (lg_sl ([.ref h0])).length) Slot.unset).toArray = ls at hl ⊢
  have hl : lv_has ls 5 [(0, .ref h0)] := hl
  obtain ⟨hq_23, hq_24, hq_25, hq_26, hq_27, hgO, hgA, hgB, hq_28⟩ := hW.sc hL_h0 hT_h0
  obtain ⟨hi_29, ht_30⟩ := hW.f_se hL_h0 hT_h0
  obtain ⟨_, hi_31, hi_32, hi_33, _, ht_34, ht_35, ht_36, hq_37, hq_38⟩ := hW.tags hi_29 ht_30
  have ht_35 : ty s1 = (25, ρ + 81, [40, 1280]) := ht_35
  have ht_36 : ty s2 = (25, ρ + 82, [40, 1280]) := ht_36
  obtain ⟨hi_39, ht_40, hq_41⟩ := hW.txt hL_sx hT_sx
  obtain ⟨f_42, hF_43, hq_44⟩ := hO.idb hi_32 ht_35
  obtain ⟨f_45, hF_46, hq_47⟩ := hO.idb hi_33 ht_36
  obtain ⟨f_48, hF_49, hq_50⟩ := hO.idb hi_31 ht_34
  obtain ⟨hq_51, hq_52⟩ := hW.octs hi_39 ht_40
  obtain ⟨f_53, hF_54, hq_55⟩ := hO.octs hi_39 ht_40
  refine lv_aload_n hx hb dX15_isWay_0 rfl (lv_at hl 0 rfl) ?_
  obtain ⟨v14_56, v15_57, v17_58, v18_59, v19_60, v20_61, v21_62, v22_63, v33_64, v52_65, v53_66, v54_67, hF_68, hq_69, hq_70, hq_71, hq_72, hq_73⟩ := hO.mod hL_h0 hT_h0
  refine pg_get (ci := 15) (v := .ref se) (C := RX15) (T := TX15) (N := 59) hx hb hts it_15 hown hK hP hL_h0 hF_68 rfl 35 (by decide) (hts _ kt_847) (fun _ h9 => h9) rfl dX15_isWay_1 ?_
  obtain ⟨q_74, v_75, hr_q_74, hX_q_74⟩ := hG.2.2 ("PostGateModel", 489, "c", [99]) (by decide +kernel)
  have hX_q_74 : SXc q_74 v_75 1 (cct [99]) A s s.heap := hX_q_74
  obtain ⟨xo_q_74, xc_q_74, xv_q_74, xt_q_74, xn_q_74⟩ := id hX_q_74
  have hr_q_74 : vk_R "PostGateModel" 489 "c" q_74 s := hr_q_74
  refine va_ldcwS hx hb hown hr_q_74 dX15_isWay_4 ?_
  have hFc := pg_free hD hS hA
  refine va_calli (va_runV (As := [.ref q_74]) (rest := []) ⟨hx, hb, hml, hown, hts⟩ (s_X13_find l dC dI cs ty gm L s.heap.size F se (ρ + 11) sx 3000 1280 s0 s1 s2 sb zs q_74 v_75 1 (cct [99]) hW hi_29 ht_30 hL_sx hT_sx hFs (by first | omega | assumption | exact Or.inl rfl)) ⟨callB_of 1 hts (gi kt_828) rfl rfl rfl (hts _ kt_829) (hts _ kt_839) (by decide +kernel) ⟨Nat.le_of_ble_eq_true rfl, Nat.le_of_ble_eq_true rfl⟩, (hts _ kt_831), (hts _ kt_832)⟩ ⟨fun a U g mk q => ⟨q.1, PTEm.calling q.2⟩, pg_recv hK hP hi_29 hFs (q := (RX13, TX13, 5)) rfl, fun U hU hWm => ⟨rfl, PTEm.mk hU hWm hP hK hD hE hO hG (fun x hx => by rw [List.mem_singleton] at hx; subst hx; exact hX_q_74) hS hFc⟩⟩ rfl rfl hl.1 rfl (lv_room (Nat.le_of_ble_eq_true rfl)) dX15_isWay_7 ⟨by show _ + 0 ≤ 0; omega, by show _ + 0 ≤ 0; omega⟩) hS (fun q _ h => hFc q h) hFc (fun r_76 u t H1 locs ht hvm hw hB hz1 hk1 hS => ?_)
  obtain ⟨F_77, hB1⟩ := hB
  obtain rfl : F = F_77 := (funext (fun a => hB1.2.2.2 a List.not_mem_nil)).symm
  obtain ⟨hP, hD, hO, hR⟩ := QTm.back hB1 ht hFc hR (fun q h => absurd h List.not_mem_nil)
  generalize H1 = H at hP hS ⊢
  have hw : FND (gA (F sb)) (gA (F s0)) (gA (F s1)) zs (cct [99]) 1 r_76 := hw
  have hw_78 := hw
  refine lv_istore_n (lv' := [(1, .int r_76), (0, .ref h0)]) hx hb dX15_isWay_10 rfl hl (by decide) rfl (fun ls hl => ?_)
  refine lv_aload_n hx hb dX15_isWay_11 rfl (lv_at hl 1 rfl) ?_
  refine lv_iconst (v := 0) hx hb dX15_isWay_12 (by decide) ?_
  refine pg_put (ci := 15) (v := .int 0) (ty := .boolean) (C := RX15) (T := TX15) (N := 59) hx hb hts it_15 tyX15 tyX15_ok nmX15 hown hK hP hD hS hL_h0 hF_68 rfl 52 (by decide) (hts _ kt_857) (fun _ h9 => h9) rfl (by decide +kernel) (rfl) (rfl) (Nat.le_of_ble_eq_true rfl) dX15_isWay_13 (fun H locs hP hD hS => ?_)
  obtain ⟨F_79, he_80, hP, hD, hO, hR⟩ : ∃ G, G = va_up F h0 (.inr (15, (.ref ta) :: (.int (nI zt)) :: (.int (nI zo)) :: (.int (nI ze)) :: (.ref ou) :: (.ref so) :: (.ref ad) :: (.ref na) :: (.ref va) :: (.ref lc) :: (.ref dm) :: (.int (nI fm)) :: (.int (nI sn)) :: (.ref tg) :: (.int v14_56) :: (.int v15_57) :: (.ref pe) :: (.int v17_58) :: (.int v18_59) :: (.int v19_60) :: (.int v20_61) :: (.int v21_62) :: (.int v22_63) :: (.ref ml) :: (.ref bg) :: (.ref co) :: (.ref sp) :: (.ref nb0) :: (.ref nb1) :: (.ref nb2) :: (.int (nI nf)) :: (.int (nI bd)) :: (.int (nI mm)) :: (.int v33_64) :: (.ref pl) :: (.ref se) :: (.ref ke) :: (.ref wi) :: (.ref hs) :: (.ref mo) :: (.ref po) :: (.ref nu) :: (.ref pr) :: (.ref sq) :: (.ref xa) :: (.ref sa) :: (.ref n64) :: (.ref m64) :: (.ref ex) :: (.ref wh) :: (.ref sd) :: (.ref tk) :: (.int 0) :: (.int v53_66) :: (.int v54_67) :: (.ref hd) :: (.ref ak) :: (.ref ho) :: (.ref ot) :: [])) ∧ va_P (dC, dI) vwCl (va_pl L G) H ∧ va_D A (va_pl L G) ∧ OKm cs ty gm L G ∧ FR ty [ρ] F G := ⟨_, rfl, hP, hD, hO.up (shm.mod hT_h0 ⟨v14_56, v15_57, v17_58, v18_59, v19_60, v20_61, v21_62, v22_63, v33_64, 0, v53_66, v54_67, rfl, (by first | omega | assumption | exact Or.inl rfl | exact Or.inr rfl), (by first | omega | assumption | exact Or.inl rfl | exact Or.inr rfl), (by first | omega | assumption | exact Or.inl rfl | exact Or.inr rfl), (by first | omega | assumption | exact Or.inl rfl | exact Or.inr rfl), (by first | omega | assumption | exact Or.inl rfl | exact Or.inr rfl)⟩), hR.up hT_h0 (by simp)⟩
  have hF_81 : F_79 h0 = .inr (15, (.ref ta) :: (.int (nI zt)) :: (.int (nI zo)) :: (.int (nI ze)) :: (.ref ou) :: (.ref so) :: (.ref ad) :: (.ref na) :: (.ref va) :: (.ref lc) :: (.ref dm) :: (.int (nI fm)) :: (.int (nI sn)) :: (.ref tg) :: (.int v14_56) :: (.int v15_57) :: (.ref pe) :: (.int v17_58) :: (.int v18_59) :: (.int v19_60) :: (.int v20_61) :: (.int v21_62) :: (.int v22_63) :: (.ref ml) :: (.ref bg) :: (.ref co) :: (.ref sp) :: (.ref nb0) :: (.ref nb1) :: (.ref nb2) :: (.int (nI nf)) :: (.int (nI bd)) :: (.int (nI mm)) :: (.int v33_64) :: (.ref pl) :: (.ref se) :: (.ref ke) :: (.ref wi) :: (.ref hs) :: (.ref mo) :: (.ref po) :: (.ref nu) :: (.ref pr) :: (.ref sq) :: (.ref xa) :: (.ref sa) :: (.ref n64) :: (.ref m64) :: (.ref ex) :: (.ref wh) :: (.ref sd) :: (.ref tk) :: (.int 0) :: (.int v53_66) :: (.int v54_67) :: (.ref hd) :: (.ref ak) :: (.ref ho) :: (.ref ot) :: []) := by rw [he_80]; exact up_self
  have hF_82 : F_79 se = .inr (13, [.ref sx, .ref s0, .ref s1, .ref s2, .int (nI zs)]) := by rw [he_80, up_ne (ne_ty ht_30 hT_h0 (by simp))]; exact hFs
  have hF_83 : F_79 s1 = .inl (cs 16, 40, .inl f_42) := by rw [he_80, up_ne (ne_ty ht_35 hT_h0 (by simp))]; exact hF_43
  have hF_84 : F_79 s2 = .inl (cs 16, 40, .inl f_45) := by rw [he_80, up_ne (ne_ty ht_36 hT_h0 (by simp))]; exact hF_46
  have hF_85 : F_79 s0 = .inl (cs 16, 40, .inl f_48) := by rw [he_80, up_ne (ne_ty ht_34 hT_h0 (by simp))]; exact hF_49
  have hF_86 : F_79 sb = .inl (cs 17, 3000, .inl f_53) := by rw [he_80, up_ne (ne_ty ht_40 hT_h0 (by simp))]; exact hF_54
  refine lv_aload_n hx hb dX15_isWay_16 rfl (lv_at hl 1 rfl) ?_
  refine lv_iconst (v := 0) hx hb dX15_isWay_17 (by decide) ?_
  refine pg_put (ci := 15) (v := .int 0) (ty := .boolean) (C := RX15) (T := TX15) (N := 59) hx hb hts it_15 tyX15 tyX15_ok nmX15 hown hK hP hD hS hL_h0 hF_81 rfl 53 (by decide) (hts _ kt_858) (fun _ h9 => h9) rfl (by decide +kernel) (rfl) (rfl) (Nat.le_of_ble_eq_true rfl) dX15_isWay_18 (fun H locs hP hD hS => ?_)
  obtain ⟨F_87, he_88, hP, hD, hO, hR⟩ : ∃ G, G = va_up F_79 h0 (.inr (15, (.ref ta) :: (.int (nI zt)) :: (.int (nI zo)) :: (.int (nI ze)) :: (.ref ou) :: (.ref so) :: (.ref ad) :: (.ref na) :: (.ref va) :: (.ref lc) :: (.ref dm) :: (.int (nI fm)) :: (.int (nI sn)) :: (.ref tg) :: (.int v14_56) :: (.int v15_57) :: (.ref pe) :: (.int v17_58) :: (.int v18_59) :: (.int v19_60) :: (.int v20_61) :: (.int v21_62) :: (.int v22_63) :: (.ref ml) :: (.ref bg) :: (.ref co) :: (.ref sp) :: (.ref nb0) :: (.ref nb1) :: (.ref nb2) :: (.int (nI nf)) :: (.int (nI bd)) :: (.int (nI mm)) :: (.int v33_64) :: (.ref pl) :: (.ref se) :: (.ref ke) :: (.ref wi) :: (.ref hs) :: (.ref mo) :: (.ref po) :: (.ref nu) :: (.ref pr) :: (.ref sq) :: (.ref xa) :: (.ref sa) :: (.ref n64) :: (.ref m64) :: (.ref ex) :: (.ref wh) :: (.ref sd) :: (.ref tk) :: (.int 0) :: (.int 0) :: (.int v54_67) :: (.ref hd) :: (.ref ak) :: (.ref ho) :: (.ref ot) :: [])) ∧ va_P (dC, dI) vwCl (va_pl L G) H ∧ va_D A (va_pl L G) ∧ OKm cs ty gm L G ∧ FR ty [ρ] F G := ⟨_, rfl, hP, hD, hO.up (shm.mod hT_h0 ⟨v14_56, v15_57, v17_58, v18_59, v19_60, v20_61, v21_62, v22_63, v33_64, 0, 0, v54_67, rfl, (by first | omega | assumption | exact Or.inl rfl | exact Or.inr rfl), (by first | omega | assumption | exact Or.inl rfl | exact Or.inr rfl), (by first | omega | assumption | exact Or.inl rfl | exact Or.inr rfl), (by first | omega | assumption | exact Or.inl rfl | exact Or.inr rfl), (by first | omega | assumption | exact Or.inl rfl | exact Or.inr rfl)⟩), hR.up hT_h0 (by simp)⟩
  have hF_89 : F_87 h0 = .inr (15, (.ref ta) :: (.int (nI zt)) :: (.int (nI zo)) :: (.int (nI ze)) :: (.ref ou) :: (.ref so) :: (.ref ad) :: (.ref na) :: (.ref va) :: (.ref lc) :: (.ref dm) :: (.int (nI fm)) :: (.int (nI sn)) :: (.ref tg) :: (.int v14_56) :: (.int v15_57) :: (.ref pe) :: (.int v17_58) :: (.int v18_59) :: (.int v19_60) :: (.int v20_61) :: (.int v21_62) :: (.int v22_63) :: (.ref ml) :: (.ref bg) :: (.ref co) :: (.ref sp) :: (.ref nb0) :: (.ref nb1) :: (.ref nb2) :: (.int (nI nf)) :: (.int (nI bd)) :: (.int (nI mm)) :: (.int v33_64) :: (.ref pl) :: (.ref se) :: (.ref ke) :: (.ref wi) :: (.ref hs) :: (.ref mo) :: (.ref po) :: (.ref nu) :: (.ref pr) :: (.ref sq) :: (.ref xa) :: (.ref sa) :: (.ref n64) :: (.ref m64) :: (.ref ex) :: (.ref wh) :: (.ref sd) :: (.ref tk) :: (.int 0) :: (.int 0) :: (.int v54_67) :: (.ref hd) :: (.ref ak) :: (.ref ho) :: (.ref ot) :: []) := by rw [he_88]; exact up_self
  have hF_90 : F_87 se = .inr (13, [.ref sx, .ref s0, .ref s1, .ref s2, .int (nI zs)]) := by rw [he_88, up_ne (ne_ty ht_30 hT_h0 (by simp))]; exact hF_82
  have hF_91 : F_87 s1 = .inl (cs 16, 40, .inl f_42) := by rw [he_88, up_ne (ne_ty ht_35 hT_h0 (by simp))]; exact hF_83
  have hF_92 : F_87 s2 = .inl (cs 16, 40, .inl f_45) := by rw [he_88, up_ne (ne_ty ht_36 hT_h0 (by simp))]; exact hF_84
  have hF_93 : F_87 s0 = .inl (cs 16, 40, .inl f_48) := by rw [he_88, up_ne (ne_ty ht_34 hT_h0 (by simp))]; exact hF_85
  have hF_94 : F_87 sb = .inl (cs 17, 3000, .inl f_53) := by rw [he_88, up_ne (ne_ty ht_40 hT_h0 (by simp))]; exact hF_86
  refine lv_iload_n hx hb dX15_isWay_21 rfl (lv_at hl 0 rfl) ?_
  refine lv_if_ge (tgt := 27) hx hb dX15_isWay_22 (by decide) (fun c_95 => ?_) (fun c_95 => ?_)
  ·
    obtain ⟨kf_96, hkf_96, ekf_96⟩ := FND.pos hw_78 (Int32.not_lt.mpr c_95)
    subst ekf_96
    refine lv_aload_n hx hb dX15_isWay_27 rfl (lv_at hl 1 rfl) ?_
    refine pg_get (ci := 15) (v := .ref se) (C := RX15) (T := TX15) (N := 59) hx hb hts it_15 hown hK hP hL_h0 hF_89 rfl 35 (by decide) (hts _ kt_847) (fun _ h9 => h9) rfl dX15_isWay_28 ?_
    refine pg_get (ci := 13) (v := .ref sx) (C := RX13) (T := TX13) (N := 5) hx hb hts it_13 hown hK hP hi_29 hF_90 rfl 0 (by decide) (hts _ kt_842) (fun _ h9 => h9) rfl dX15_isWay_31 ?_
    obtain ⟨z_97, hF_98, hq_99⟩ := hO.txt hL_sx hT_sx
    refine pg_get (ci := 14) (v := .ref sb) (C := RX14) (T := TX14) (N := 2) hx hb hts it_14 hown hK hP hL_sx hF_98 rfl 0 (by decide) (hts _ kt_710) (fun _ h9 => h9) rfl dX15_isWay_34 ?_
    refine lv_astore_n (lv' := [(2, .ref sb), (1, .int (nI kf_96)), (0, .ref h0)]) hx hb dX15_isWay_37 rfl hl (by decide) rfl (fun ls hl => ?_)
    refine lv_aload_n hx hb dX15_isWay_38 rfl (lv_at hl 2 rfl) ?_
    refine pg_get (ci := 15) (v := .ref se) (C := RX15) (T := TX15) (N := 59) hx hb hts it_15 hown hK hP hL_h0 hF_89 rfl 35 (by decide) (hts _ kt_847) (fun _ h9 => h9) rfl dX15_isWay_39 ?_
    refine pg_get (ci := 13) (v := .ref s1) (C := RX13) (T := TX13) (N := 5) hx hb hts it_13 hown hK hP hi_29 hF_90 rfl 2 (by decide) (hts _ kt_840) (fun _ h9 => h9) rfl dX15_isWay_42 ?_
    refine lv_iload_n hx hb dX15_isWay_45 rfl (lv_at hl 1 rfl) ?_
    refine pg_iald hx hb hK hP hi_32 0 hF_91 rfl (vp_in_nI (by omega) (by omega)) dX15_isWay_46 ?_
    obtain ⟨k_100, hk_101, ek_102⟩ := hq_44 ((nI kf_96) : Int32).toNatClampNeg
    refine lv_topi (fun x_103 ex_103 => ?_)
    obtain rfl : x_103 = nI k_100 := ex_103.trans ek_102
    refine lv_iconst (v := 1) hx hb dX15_isWay_47 (by decide) ?_
    refine lv_iadd hx hb dX15_isWay_48 ?_
    refine lv_topi (fun x_104 ex_104 => ?_)
    obtain rfl : x_104 = (nI (k_100 + 1)) := ex_104.trans (nI_add k_100 1)
    refine lv_istore_n (lv' := [(3, .int (nI (k_100 + 1))), (2, .ref sb), (1, .int (nI kf_96)), (0, .ref h0)]) hx hb dX15_isWay_49 rfl hl (by decide) rfl (fun ls hl => ?_)
    refine lv_aload_n hx hb dX15_isWay_50 rfl (lv_at hl 1 rfl) ?_
    refine lv_iload_n hx hb dX15_isWay_51 rfl (lv_at hl 0 rfl) ?_
    refine lv_aload_n hx hb dX15_isWay_52 rfl (lv_at hl 3 rfl) ?_
    refine pg_get (ci := 15) (v := .ref se) (C := RX15) (T := TX15) (N := 59) hx hb hts it_15 hown hK hP hL_h0 hF_89 rfl 35 (by decide) (hts _ kt_847) (fun _ h9 => h9) rfl dX15_isWay_53 ?_
    refine pg_get (ci := 13) (v := .ref s2) (C := RX13) (T := TX13) (N := 5) hx hb hts it_13 hown hK hP hi_29 hF_90 rfl 3 (by decide) (hts _ kt_841) (fun _ h9 => h9) rfl dX15_isWay_56 ?_
    refine lv_iload_n hx hb dX15_isWay_59 rfl (lv_at hl 2 rfl) ?_
    refine pg_iald hx hb hK hP hi_33 0 hF_92 rfl (vp_in_nI (by omega) (by omega)) dX15_isWay_60 ?_
    obtain ⟨k_105, hk_106, ek_107⟩ := hq_47 ((nI kf_96) : Int32).toNatClampNeg
    refine lv_topi (fun x_108 ex_108 => ?_)
    obtain rfl : x_108 = nI k_105 := ex_108.trans ek_107
    have hFc := pg_free hD hS hA
    refine va_calli (va_runS (As := [.ref sb, .int (nI (k_100 + 1)), .int (nI k_105)]) (rest := []) ⟨hx, hb, hml, hown, hts⟩ (s_X15_slashOf l dC dI cs ty gm L H.size F_87 sb (ρ + 12) 3000 (k_100 + 1) k_105 hW hi_39 ht_40 (by first | omega | assumption | exact Or.inl rfl) (by first | omega | assumption | exact Or.inl rfl)) ⟨callB_of 3 hts (gi kt_746) rfl rfl rfl (hts _ kt_669) (hts _ kt_747) (by decide +kernel) ⟨Nat.le_of_ble_eq_true rfl, Nat.le_of_ble_eq_true rfl⟩, (hts _ kt_748)⟩ ⟨fun a U g mk q => ⟨q.1, PTm.calling q.2⟩, fun U hU hWm => ⟨rfl, PTm.mk hU hWm hP hK hD hE hO⟩⟩ rfl rfl hl.1 rfl (lv_room (Nat.le_of_ble_eq_true rfl)) dX15_isWay_61 ⟨by show _ + 0 ≤ 0; omega, by show _ + 0 ≤ 0; omega⟩) hS (fun q _ h => hFc q h) hFc (fun r_109 u t H1 locs ht hvm hw hB hz1 hk1 hS => ?_)
    obtain ⟨F_110, hB1⟩ := hB
    obtain rfl : F_87 = F_110 := (funext (fun a => hB1.2.2.2 a List.not_mem_nil)).symm
    obtain ⟨hP, hD, hO, hR⟩ := QTm.back hB1 ht hFc hR (fun q h => absurd h List.not_mem_nil)
    generalize H1 = H at hP hS ⊢
    have hw : (∃ k : Nat, (k_100 + 1) ≤ k ∧ k ≤ max (k_100 + 1) k_105 ∧ r_109 = nI k) := hw
    have hw_111 := hw
    obtain ⟨k_112, hk_112a, hk_112b, ek_112⟩ := hw_111
    subst ek_112
    refine lv_istore (lv' := [(4, .int (nI k_112)), (3, .int (nI (k_100 + 1))), (2, .ref sb), (1, .int (nI kf_96)), (0, .ref h0)]) hx hb dX15_isWay_64 hl (by decide) rfl (fun ls hl => ?_)
    refine lv_aload_n hx hb dX15_isWay_66 rfl (lv_at hl 4 rfl) ?_
    refine lv_aload_n hx hb dX15_isWay_67 rfl (lv_at hl 2 rfl) ?_
    refine lv_iload_n hx hb dX15_isWay_68 rfl (lv_at hl 1 rfl) ?_
    refine lv_iload hx hb dX15_isWay_69 (lv_at hl 0 rfl) ?_
    obtain ⟨q_113, v_114, hr_q_113, hX_q_113⟩ := hG.2.2 ("PostGateModel", 497, "relaxed", [114, 101, 108, 97, 120, 101, 100]) (by decide +kernel)
    have hX_q_113 : SXc q_113 v_114 7 (cct [114, 101, 108, 97, 120, 101, 100]) A s s.heap := hX_q_113
    obtain ⟨xo_q_113, xc_q_113, xv_q_113, xt_q_113, xn_q_113⟩ := id hX_q_113
    have hr_q_113 : vk_R "PostGateModel" 497 "relaxed" q_113 s := hr_q_113
    refine va_ldcwS hx hb hown hr_q_113 dX15_isWay_71 ?_
    have hFc := pg_free hD hS hA
    refine va_calli (va_runS (As := [.ref sb, .int (nI (k_100 + 1)), .int (nI k_112), .ref q_113]) (rest := [.ref h0]) ⟨hx, hb, hml, hown, hts⟩ (s_X15_is l dC dI cs ty gm L H.size F_87 sb (ρ + 12) 3000 q_113 v_114 7 (cct [114, 101, 108, 97, 120, 101, 100]) (k_100 + 1) k_112 hW hi_39 ht_40 (by first | omega | assumption | exact Or.inl rfl) (by first | omega | assumption | exact Or.inl rfl)) ⟨callB_of 4 hts (gi kt_694) rfl rfl rfl (hts _ kt_669) (hts _ kt_695) (by decide +kernel) ⟨Nat.le_of_ble_eq_true rfl, Nat.le_of_ble_eq_true rfl⟩, (hts _ kt_696)⟩ ⟨fun a U g mk q => ⟨q.1, PTEm.calling q.2⟩, fun U hU hWm => ⟨rfl, PTEm.mk hU hWm hP hK hD hE hO hG (fun x hx => by rw [List.mem_singleton] at hx; subst hx; exact hX_q_113) hS hFc⟩⟩ rfl rfl hl.1 rfl (lv_room (Nat.le_of_ble_eq_true rfl)) dX15_isWay_74 ⟨by show _ + 0 ≤ 0; omega, by show _ + 0 ≤ 0; omega⟩) hS (fun q _ h => hFc q h) hFc (fun r_115 u t H1 locs ht hvm hw hB hz1 hk1 hS => ?_)
    obtain ⟨F_116, hB1⟩ := hB
    obtain rfl : F_87 = F_116 := (funext (fun a => hB1.2.2.2 a List.not_mem_nil)).symm
    obtain ⟨hP, hD, hO, hR⟩ := QTm.back hB1 ht hFc hR (fun q h => absurd h List.not_mem_nil)
    generalize H1 = H at hP hS ⊢
    have hw : ((r_115 = 1 ∧ isP (gA (F_87 sb)) (k_100 + 1) k_112 (cct [114, 101, 108, 97, 120, 101, 100]) 7) ∨ (r_115 = 0 ∧ ¬ isP (gA (F_87 sb)) (k_100 + 1) k_112 (cct [114, 101, 108, 97, 120, 101, 100]) 7)) := hw
    have hw_117 := hw
    refine pg_put (ci := 15) (v := .int r_115) (ty := .boolean) (C := RX15) (T := TX15) (N := 59) hx hb hts it_15 tyX15 tyX15_ok nmX15 hown hK hP hD hS hL_h0 hF_89 rfl 52 (by decide) (hts _ kt_857) (fun _ h9 => h9) rfl (by decide +kernel) (bitN (bit2 hw_117)) (bitF (bit2 hw_117)) (Nat.le_of_ble_eq_true rfl) dX15_isWay_77 (fun H locs hP hD hS => ?_)
    obtain ⟨F_118, he_119, hP, hD, hO, hR⟩ : ∃ G, G = va_up F_87 h0 (.inr (15, (.ref ta) :: (.int (nI zt)) :: (.int (nI zo)) :: (.int (nI ze)) :: (.ref ou) :: (.ref so) :: (.ref ad) :: (.ref na) :: (.ref va) :: (.ref lc) :: (.ref dm) :: (.int (nI fm)) :: (.int (nI sn)) :: (.ref tg) :: (.int v14_56) :: (.int v15_57) :: (.ref pe) :: (.int v17_58) :: (.int v18_59) :: (.int v19_60) :: (.int v20_61) :: (.int v21_62) :: (.int v22_63) :: (.ref ml) :: (.ref bg) :: (.ref co) :: (.ref sp) :: (.ref nb0) :: (.ref nb1) :: (.ref nb2) :: (.int (nI nf)) :: (.int (nI bd)) :: (.int (nI mm)) :: (.int v33_64) :: (.ref pl) :: (.ref se) :: (.ref ke) :: (.ref wi) :: (.ref hs) :: (.ref mo) :: (.ref po) :: (.ref nu) :: (.ref pr) :: (.ref sq) :: (.ref xa) :: (.ref sa) :: (.ref n64) :: (.ref m64) :: (.ref ex) :: (.ref wh) :: (.ref sd) :: (.ref tk) :: (.int r_115) :: (.int 0) :: (.int v54_67) :: (.ref hd) :: (.ref ak) :: (.ref ho) :: (.ref ot) :: [])) ∧ va_P (dC, dI) vwCl (va_pl L G) H ∧ va_D A (va_pl L G) ∧ OKm cs ty gm L G ∧ FR ty [ρ] F G := ⟨_, rfl, hP, hD, hO.up (shm.mod hT_h0 ⟨v14_56, v15_57, v17_58, v18_59, v19_60, v20_61, v21_62, v22_63, v33_64, r_115, 0, v54_67, rfl, (by first | omega | assumption | exact Or.inl rfl | exact Or.inr rfl), (by first | omega | assumption | exact Or.inl rfl | exact Or.inr rfl), (by first | omega | assumption | exact Or.inl rfl | exact Or.inr rfl), (by first | omega | assumption | exact Or.inl rfl | exact Or.inr rfl), (by first | omega | assumption | exact Or.inl rfl | exact Or.inr rfl)⟩), hR.up hT_h0 (by simp)⟩
    have hF_120 : F_118 h0 = .inr (15, (.ref ta) :: (.int (nI zt)) :: (.int (nI zo)) :: (.int (nI ze)) :: (.ref ou) :: (.ref so) :: (.ref ad) :: (.ref na) :: (.ref va) :: (.ref lc) :: (.ref dm) :: (.int (nI fm)) :: (.int (nI sn)) :: (.ref tg) :: (.int v14_56) :: (.int v15_57) :: (.ref pe) :: (.int v17_58) :: (.int v18_59) :: (.int v19_60) :: (.int v20_61) :: (.int v21_62) :: (.int v22_63) :: (.ref ml) :: (.ref bg) :: (.ref co) :: (.ref sp) :: (.ref nb0) :: (.ref nb1) :: (.ref nb2) :: (.int (nI nf)) :: (.int (nI bd)) :: (.int (nI mm)) :: (.int v33_64) :: (.ref pl) :: (.ref se) :: (.ref ke) :: (.ref wi) :: (.ref hs) :: (.ref mo) :: (.ref po) :: (.ref nu) :: (.ref pr) :: (.ref sq) :: (.ref xa) :: (.ref sa) :: (.ref n64) :: (.ref m64) :: (.ref ex) :: (.ref wh) :: (.ref sd) :: (.ref tk) :: (.int r_115) :: (.int 0) :: (.int v54_67) :: (.ref hd) :: (.ref ak) :: (.ref ho) :: (.ref ot) :: []) := by rw [he_119]; exact up_self
    have hF_121 : F_118 se = .inr (13, [.ref sx, .ref s0, .ref s1, .ref s2, .int (nI zs)]) := by rw [he_119, up_ne (ne_ty ht_30 hT_h0 (by simp))]; exact hF_90
    have hF_122 : F_118 s1 = .inl (cs 16, 40, .inl f_42) := by rw [he_119, up_ne (ne_ty ht_35 hT_h0 (by simp))]; exact hF_91
    have hF_123 : F_118 s2 = .inl (cs 16, 40, .inl f_45) := by rw [he_119, up_ne (ne_ty ht_36 hT_h0 (by simp))]; exact hF_92
    have hF_124 : F_118 s0 = .inl (cs 16, 40, .inl f_48) := by rw [he_119, up_ne (ne_ty ht_34 hT_h0 (by simp))]; exact hF_93
    have hF_125 : F_118 sb = .inl (cs 17, 3000, .inl f_53) := by rw [he_119, up_ne (ne_ty ht_40 hT_h0 (by simp))]; exact hF_94
    have hF_126 : F_118 sx = .inr (14, [.ref sb, .int (nI z_97)]) := by rw [he_119, up_ne (ne_ty hT_sx hT_h0 (by simp))]; exact hF_98
    have hF_129 : F se = .inr (13, [.ref sx, .ref s0, .ref s1, .ref s2, .int (nI zs)]) := (hR se (by rw [ht_30]; simp)).symm.trans hF_121
    have hF_130 : F s1 = .inl (cs 16, 40, .inl f_42) := (hR s1 (by rw [ht_35]; simp)).symm.trans hF_122
    have hF_131 : F s2 = .inl (cs 16, 40, .inl f_45) := (hR s2 (by rw [ht_36]; simp)).symm.trans hF_123
    have hF_132 : F s0 = .inl (cs 16, 40, .inl f_48) := (hR s0 (by rw [ht_34]; simp)).symm.trans hF_124
    have hF_133 : F sb = .inl (cs 17, 3000, .inl f_53) := (hR sb (by rw [ht_40]; simp)).symm.trans hF_125
    have hF_134 : F sx = .inr (14, [.ref sb, .int (nI z_97)]) := (hR sx (by rw [hT_sx]; simp)).symm.trans hF_126
    refine W.widen (k := 0) (n := 0) (by omega) (by omega) ?_
    refine pl_cutm (σ := Unit) A (dC, dI) cs ty gm L [ρ] F 102 5 (fun u0 => [(4, .int (nI k_112)), (3, .int (nI (k_100 + 1))), (2, .ref sb), (1, .int (nI kf_96)), (0, .ref h0)]) (fun u0 => []) (fun u0 _ => True) ?_ (fun jn_127 => ?_)
    ·
      rintro u0 F_128 hv_135 hO hR H locs hP hD hS ls hl
      have hl : lv_has ls 5 [(4, .int (nI k_112)), (3, .int (nI (k_100 + 1))), (2, .ref sb), (1, .int (nI kf_96)), (0, .ref h0)] := hl
      have hv_135 : True := hv_135
      refine W.eq (g2 := F0 m 102 ls []) rfl ?_
      have hF_136 : F_128 se = .inr (13, [.ref sx, .ref s0, .ref s1, .ref s2, .int (nI zs)]) := (hR se (by rw [ht_30]; simp)).trans hF_129
      have hF_137 : F_128 s1 = .inl (cs 16, 40, .inl f_42) := (hR s1 (by rw [ht_35]; simp)).trans hF_130
      have hF_138 : F_128 s2 = .inl (cs 16, 40, .inl f_45) := (hR s2 (by rw [ht_36]; simp)).trans hF_131
      have hF_139 : F_128 s0 = .inl (cs 16, 40, .inl f_48) := (hR s0 (by rw [ht_34]; simp)).trans hF_132
      have hF_140 : F_128 sb = .inl (cs 17, 3000, .inl f_53) := (hR sb (by rw [ht_40]; simp)).trans hF_133
      have hF_141 : F_128 sx = .inr (14, [.ref sb, .int (nI z_97)]) := (hR sx (by rw [hT_sx]; simp)).trans hF_134
      refine lv_iload hx hb dX15_isWay_102 (lv_at hl 0 rfl) ?_
      refine lv_aload_n hx hb dX15_isWay_104 rfl (lv_at hl 4 rfl) ?_
      obtain ⟨v14_142, v15_143, v17_144, v18_145, v19_146, v20_147, v21_148, v22_149, v33_150, v52_151, v53_152, v54_153, hF_154, hq_155, hq_156, hq_157, hq_158, hq_159⟩ := hO.mod hL_h0 hT_h0
      refine pg_get (ci := 15) (v := .ref se) (C := RX15) (T := TX15) (N := 59) hx hb hts it_15 hown hK hP hL_h0 hF_154 rfl 35 (by decide) (hts _ kt_847) (fun _ h9 => h9) rfl dX15_isWay_105 ?_
      refine pg_get (ci := 13) (v := .ref s2) (C := RX13) (T := TX13) (N := 5) hx hb hts it_13 hown hK hP hi_29 hF_136 rfl 3 (by decide) (hts _ kt_841) (fun _ h9 => h9) rfl dX15_isWay_108 ?_
      refine lv_iload_n hx hb dX15_isWay_111 rfl (lv_at hl 3 rfl) ?_
      refine pg_iald hx hb hK hP hi_33 0 hF_138 rfl (vp_in_nI (by omega) (by omega)) dX15_isWay_112 ?_
      refine lv_topi (fun x_160 ex_160 => ?_)
      obtain rfl : x_160 = nI k_105 := ex_160.trans ek_107
      refine lv_icmp_ne (tgt := 118) hx hb dX15_isWay_113 (by decide) (fun c_161 => ?_) (fun c_161 => ?_)
      ·
        have hi_162 : k_112 ≠ k_105 := fun q => c_161 (by rw [q])
        refine lv_aload_n hx hb dX15_isWay_118 rfl (lv_at hl 4 rfl) ?_
        refine lv_aload_n hx hb dX15_isWay_119 rfl (lv_at hl 2 rfl) ?_
        refine lv_iload hx hb dX15_isWay_120 (lv_at hl 0 rfl) ?_
        refine lv_iconst (v := 1) hx hb dX15_isWay_122 (by decide) ?_
        refine lv_iadd hx hb dX15_isWay_123 ?_
        refine lv_topi (fun x_163 ex_163 => ?_)
        obtain rfl : x_163 = (nI (k_112 + 1)) := ex_163.trans (nI_add k_112 1)
        refine lv_aload_n hx hb dX15_isWay_124 rfl (lv_at hl 4 rfl) ?_
        refine pg_get (ci := 15) (v := .ref se) (C := RX15) (T := TX15) (N := 59) hx hb hts it_15 hown hK hP hL_h0 hF_154 rfl 35 (by decide) (hts _ kt_847) (fun _ h9 => h9) rfl dX15_isWay_125 ?_
        refine pg_get (ci := 13) (v := .ref s2) (C := RX13) (T := TX13) (N := 5) hx hb hts it_13 hown hK hP hi_29 hF_136 rfl 3 (by decide) (hts _ kt_841) (fun _ h9 => h9) rfl dX15_isWay_128 ?_
        refine lv_iload_n hx hb dX15_isWay_131 rfl (lv_at hl 3 rfl) ?_
        refine pg_iald hx hb hK hP hi_33 0 hF_138 rfl (vp_in_nI (by omega) (by omega)) dX15_isWay_132 ?_
        refine lv_topi (fun x_164 ex_164 => ?_)
        obtain rfl : x_164 = nI k_105 := ex_164.trans ek_107
        refine va_ldcwS hx hb hown hr_q_113 dX15_isWay_133 ?_
        have hFc := pg_free hD hS hA
        refine va_calli (va_runS (As := [.ref sb, .int (nI (k_112 + 1)), .int (nI k_105), .ref q_113]) (rest := [.ref h0]) ⟨hx, hb, hml, hown, hts⟩ (s_X15_is l dC dI cs ty gm L H.size F_128 sb (ρ + 12) 3000 q_113 v_114 7 (cct [114, 101, 108, 97, 120, 101, 100]) (k_112 + 1) k_105 hW hi_39 ht_40 (by first | omega | assumption | exact Or.inl rfl) (by first | omega | assumption | exact Or.inl rfl)) ⟨callB_of 4 hts (gi kt_694) rfl rfl rfl (hts _ kt_669) (hts _ kt_695) (by decide +kernel) ⟨Nat.le_of_ble_eq_true rfl, Nat.le_of_ble_eq_true rfl⟩, (hts _ kt_696)⟩ ⟨fun a U g mk q => ⟨q.1, PTEm.calling q.2⟩, fun U hU hWm => ⟨rfl, PTEm.mk hU hWm hP hK hD hE hO hG (fun x hx => by rw [List.mem_singleton] at hx; subst hx; exact hX_q_113) hS hFc⟩⟩ rfl rfl hl.1 rfl (lv_room (Nat.le_of_ble_eq_true rfl)) dX15_isWay_136 ⟨by show _ + 0 ≤ 0; omega, by show _ + 0 ≤ 0; omega⟩) hS (fun q _ h => hFc q h) hFc (fun r_165 u t H1 locs ht hvm hw hB hz1 hk1 hS => ?_)
        obtain ⟨F_166, hB1⟩ := hB
        obtain rfl : F_128 = F_166 := (funext (fun a => hB1.2.2.2 a List.not_mem_nil)).symm
        obtain ⟨hP, hD, hO, hR⟩ := QTm.back hB1 ht hFc hR (fun q h => absurd h List.not_mem_nil)
        generalize H1 = H at hP hS ⊢
        have hw : ((r_165 = 1 ∧ isP (gA (F_128 sb)) (k_112 + 1) k_105 (cct [114, 101, 108, 97, 120, 101, 100]) 7) ∨ (r_165 = 0 ∧ ¬ isP (gA (F_128 sb)) (k_112 + 1) k_105 (cct [114, 101, 108, 97, 120, 101, 100]) 7)) := hw
        have hw_167 := hw
        refine pg_put (ci := 15) (v := .int r_165) (ty := .boolean) (C := RX15) (T := TX15) (N := 59) hx hb hts it_15 tyX15 tyX15_ok nmX15 hown hK hP hD hS hL_h0 hF_154 rfl 53 (by decide) (hts _ kt_858) (fun _ h9 => h9) rfl (by decide +kernel) (bitN (bit2 hw_167)) (bitF (bit2 hw_167)) (Nat.le_of_ble_eq_true rfl) dX15_isWay_139 (fun H locs hP hD hS => ?_)
        obtain ⟨F_168, he_169, hP, hD, hO, hR⟩ : ∃ G, G = va_up F_128 h0 (.inr (15, (.ref ta) :: (.int (nI zt)) :: (.int (nI zo)) :: (.int (nI ze)) :: (.ref ou) :: (.ref so) :: (.ref ad) :: (.ref na) :: (.ref va) :: (.ref lc) :: (.ref dm) :: (.int (nI fm)) :: (.int (nI sn)) :: (.ref tg) :: (.int v14_142) :: (.int v15_143) :: (.ref pe) :: (.int v17_144) :: (.int v18_145) :: (.int v19_146) :: (.int v20_147) :: (.int v21_148) :: (.int v22_149) :: (.ref ml) :: (.ref bg) :: (.ref co) :: (.ref sp) :: (.ref nb0) :: (.ref nb1) :: (.ref nb2) :: (.int (nI nf)) :: (.int (nI bd)) :: (.int (nI mm)) :: (.int v33_150) :: (.ref pl) :: (.ref se) :: (.ref ke) :: (.ref wi) :: (.ref hs) :: (.ref mo) :: (.ref po) :: (.ref nu) :: (.ref pr) :: (.ref sq) :: (.ref xa) :: (.ref sa) :: (.ref n64) :: (.ref m64) :: (.ref ex) :: (.ref wh) :: (.ref sd) :: (.ref tk) :: (.int v52_151) :: (.int r_165) :: (.int v54_153) :: (.ref hd) :: (.ref ak) :: (.ref ho) :: (.ref ot) :: [])) ∧ va_P (dC, dI) vwCl (va_pl L G) H ∧ va_D A (va_pl L G) ∧ OKm cs ty gm L G ∧ FR ty [ρ] F G := ⟨_, rfl, hP, hD, hO.up (shm.mod hT_h0 ⟨v14_142, v15_143, v17_144, v18_145, v19_146, v20_147, v21_148, v22_149, v33_150, v52_151, r_165, v54_153, rfl, (by first | omega | assumption | exact Or.inl rfl | exact Or.inr rfl), (by first | omega | assumption | exact Or.inl rfl | exact Or.inr rfl), (by first | omega | assumption | exact Or.inl rfl | exact Or.inr rfl), (by first | omega | assumption | exact Or.inl rfl | exact Or.inr rfl), (by first | omega | assumption | exact Or.inl rfl | exact Or.inr rfl)⟩), hR.up hT_h0 (by simp)⟩
        have hF_170 : F_168 h0 = .inr (15, (.ref ta) :: (.int (nI zt)) :: (.int (nI zo)) :: (.int (nI ze)) :: (.ref ou) :: (.ref so) :: (.ref ad) :: (.ref na) :: (.ref va) :: (.ref lc) :: (.ref dm) :: (.int (nI fm)) :: (.int (nI sn)) :: (.ref tg) :: (.int v14_142) :: (.int v15_143) :: (.ref pe) :: (.int v17_144) :: (.int v18_145) :: (.int v19_146) :: (.int v20_147) :: (.int v21_148) :: (.int v22_149) :: (.ref ml) :: (.ref bg) :: (.ref co) :: (.ref sp) :: (.ref nb0) :: (.ref nb1) :: (.ref nb2) :: (.int (nI nf)) :: (.int (nI bd)) :: (.int (nI mm)) :: (.int v33_150) :: (.ref pl) :: (.ref se) :: (.ref ke) :: (.ref wi) :: (.ref hs) :: (.ref mo) :: (.ref po) :: (.ref nu) :: (.ref pr) :: (.ref sq) :: (.ref xa) :: (.ref sa) :: (.ref n64) :: (.ref m64) :: (.ref ex) :: (.ref wh) :: (.ref sd) :: (.ref tk) :: (.int v52_151) :: (.int r_165) :: (.int v54_153) :: (.ref hd) :: (.ref ak) :: (.ref ho) :: (.ref ot) :: []) := by rw [he_169]; exact up_self
        have hF_171 : F_168 se = .inr (13, [.ref sx, .ref s0, .ref s1, .ref s2, .int (nI zs)]) := by rw [he_169, up_ne (ne_ty ht_30 hT_h0 (by simp))]; exact hF_136
        have hF_172 : F_168 s1 = .inl (cs 16, 40, .inl f_42) := by rw [he_169, up_ne (ne_ty ht_35 hT_h0 (by simp))]; exact hF_137
        have hF_173 : F_168 s2 = .inl (cs 16, 40, .inl f_45) := by rw [he_169, up_ne (ne_ty ht_36 hT_h0 (by simp))]; exact hF_138
        have hF_174 : F_168 s0 = .inl (cs 16, 40, .inl f_48) := by rw [he_169, up_ne (ne_ty ht_34 hT_h0 (by simp))]; exact hF_139
        have hF_175 : F_168 sb = .inl (cs 17, 3000, .inl f_53) := by rw [he_169, up_ne (ne_ty ht_40 hT_h0 (by simp))]; exact hF_140
        have hF_176 : F_168 sx = .inr (14, [.ref sb, .int (nI z_97)]) := by rw [he_169, up_ne (ne_ty hT_sx hT_h0 (by simp))]; exact hF_141
        refine lv_aload_n hx hb dX15_isWay_142 rfl (lv_at hl 4 rfl) ?_
        refine pg_get (ci := 15) (v := .int r_165) (C := RX15) (T := TX15) (N := 59) hx hb hts it_15 hown hK hP hL_h0 hF_170 rfl 53 (by decide) (hts _ kt_858) (fun _ h9 => h9) rfl dX15_isWay_143 ?_
        refine lv_if_ne (tgt := 172) hx hb dX15_isWay_146 (by decide) (fun c_177 => ?_) (fun c_177 => ?_)
        ·
          refine lv_iconst (v := 1) hx hb dX15_isWay_172 (by decide) ?_
          refine lv_goto (tgt := 177) hx hb dX15_isWay_173 (by decide) ?_
          refine W.widen (k := 0) (n := 0) (by omega) (by omega) ?_
          exact W.zret (v := 1) (ty := .boolean) hx hb hr (by decide) (fun t ht hWm => ⟨⟨1, (), rfl, (by first | exact Or.inl rfl | exact Or.inr rfl), ⟨F_168, QTm.mk ht hP hD hO hR⟩⟩, hS.F ht⟩) hS.2.2 dX15_isWay_177
        ·
          refine lv_aload_n hx hb dX15_isWay_149 rfl (lv_at hl 2 rfl) ?_
          refine lv_iload hx hb dX15_isWay_150 (lv_at hl 0 rfl) ?_
          refine lv_iconst (v := 1) hx hb dX15_isWay_152 (by decide) ?_
          refine lv_iadd hx hb dX15_isWay_153 ?_
          refine lv_topi (fun x_178 ex_178 => ?_)
          obtain rfl : x_178 = (nI (k_112 + 1)) := ex_178.trans (nI_add k_112 1)
          refine lv_aload_n hx hb dX15_isWay_154 rfl (lv_at hl 4 rfl) ?_
          refine pg_get (ci := 15) (v := .ref se) (C := RX15) (T := TX15) (N := 59) hx hb hts it_15 hown hK hP hL_h0 hF_170 rfl 35 (by decide) (hts _ kt_847) (fun _ h9 => h9) rfl dX15_isWay_155 ?_
          refine pg_get (ci := 13) (v := .ref s2) (C := RX13) (T := TX13) (N := 5) hx hb hts it_13 hown hK hP hi_29 hF_171 rfl 3 (by decide) (hts _ kt_841) (fun _ h9 => h9) rfl dX15_isWay_158 ?_
          refine lv_iload_n hx hb dX15_isWay_161 rfl (lv_at hl 3 rfl) ?_
          refine pg_iald hx hb hK hP hi_33 0 hF_173 rfl (vp_in_nI (by omega) (by omega)) dX15_isWay_162 ?_
          refine lv_topi (fun x_179 ex_179 => ?_)
          obtain rfl : x_179 = nI k_105 := ex_179.trans ek_107
          obtain ⟨q_180, v_181, hr_q_180, hX_q_180⟩ := hG.2.2 ("PostGateModel", 499, "simple", [115, 105, 109, 112, 108, 101]) (by decide +kernel)
          have hX_q_180 : SXc q_180 v_181 6 (cct [115, 105, 109, 112, 108, 101]) A s s.heap := hX_q_180
          obtain ⟨xo_q_180, xc_q_180, xv_q_180, xt_q_180, xn_q_180⟩ := id hX_q_180
          have hr_q_180 : vk_R "PostGateModel" 499 "simple" q_180 s := hr_q_180
          refine va_ldcwS hx hb hown hr_q_180 dX15_isWay_163 ?_
          have hFc := pg_free hD hS hA
          refine va_calli (va_runS (As := [.ref sb, .int (nI (k_112 + 1)), .int (nI k_105), .ref q_180]) (rest := []) ⟨hx, hb, hml, hown, hts⟩ (s_X15_is l dC dI cs ty gm L H.size F_168 sb (ρ + 12) 3000 q_180 v_181 6 (cct [115, 105, 109, 112, 108, 101]) (k_112 + 1) k_105 hW hi_39 ht_40 (by first | omega | assumption | exact Or.inl rfl) (by first | omega | assumption | exact Or.inl rfl)) ⟨callB_of 4 hts (gi kt_694) rfl rfl rfl (hts _ kt_669) (hts _ kt_695) (by decide +kernel) ⟨Nat.le_of_ble_eq_true rfl, Nat.le_of_ble_eq_true rfl⟩, (hts _ kt_696)⟩ ⟨fun a U g mk q => ⟨q.1, PTEm.calling q.2⟩, fun U hU hWm => ⟨rfl, PTEm.mk hU hWm hP hK hD hE hO hG (fun x hx => by rw [List.mem_singleton] at hx; subst hx; exact hX_q_180) hS hFc⟩⟩ rfl rfl hl.1 rfl (lv_room (Nat.le_of_ble_eq_true rfl)) dX15_isWay_166 ⟨by show _ + 0 ≤ 0; omega, by show _ + 0 ≤ 0; omega⟩) hS (fun q _ h => hFc q h) hFc (fun r_182 u t H1 locs ht hvm hw hB hz1 hk1 hS => ?_)
          obtain ⟨F_183, hB1⟩ := hB
          obtain rfl : F_168 = F_183 := (funext (fun a => hB1.2.2.2 a List.not_mem_nil)).symm
          obtain ⟨hP, hD, hO, hR⟩ := QTm.back hB1 ht hFc hR (fun q h => absurd h List.not_mem_nil)
          generalize H1 = H at hP hS ⊢
          have hw : ((r_182 = 1 ∧ isP (gA (F_168 sb)) (k_112 + 1) k_105 (cct [115, 105, 109, 112, 108, 101]) 6) ∨ (r_182 = 0 ∧ ¬ isP (gA (F_168 sb)) (k_112 + 1) k_105 (cct [115, 105, 109, 112, 108, 101]) 6)) := hw
          have hw_184 := hw
          refine lv_if_eq (tgt := 176) hx hb dX15_isWay_169 (by decide) (fun c_185 => ?_) (fun c_185 => ?_)
          ·
            refine lv_iconst (v := 0) hx hb dX15_isWay_176 (by decide) ?_
            refine W.widen (k := 0) (n := 0) (by omega) (by omega) ?_
            exact W.zret (v := 0) (ty := .boolean) hx hb hr (by decide) (fun t ht hWm => ⟨⟨0, (), rfl, (by first | exact Or.inl rfl | exact Or.inr rfl), ⟨F_168, QTm.mk ht hP hD hO hR⟩⟩, hS.F ht⟩) hS.2.2 dX15_isWay_177
          ·
            refine lv_iconst (v := 1) hx hb dX15_isWay_172 (by decide) ?_
            refine lv_goto (tgt := 177) hx hb dX15_isWay_173 (by decide) ?_
            refine W.widen (k := 0) (n := 0) (by omega) (by omega) ?_
            exact W.zret (v := 1) (ty := .boolean) hx hb hr (by decide) (fun t ht hWm => ⟨⟨1, (), rfl, (by first | exact Or.inl rfl | exact Or.inr rfl), ⟨F_168, QTm.mk ht hP hD hO hR⟩⟩, hS.F ht⟩) hS.2.2 dX15_isWay_177
      ·
        have hi_186 : k_112 = k_105 := (nI_eq (a := k_112) (b := k_105) (by omega) (by omega)).mp c_161
        refine lv_iconst (v := 1) hx hb dX15_isWay_116 (by decide) ?_
        refine W.widen (k := 0) (n := 0) (by omega) (by omega) ?_
        exact W.zret (v := 1) (ty := .boolean) hx hb hr (by decide) (fun t ht hWm => ⟨⟨1, (), rfl, (by first | exact Or.inl rfl | exact Or.inr rfl), ⟨F_128, QTm.mk ht hP hD hO hR⟩⟩, hS.F ht⟩) hS.2.2 dX15_isWay_117
    ·
      refine lv_aload_n hx hb dX15_isWay_80 rfl (lv_at hl 4 rfl) ?_
      refine pg_get (ci := 15) (v := .int r_115) (C := RX15) (T := TX15) (N := 59) hx hb hts it_15 hown hK hP hL_h0 hF_120 rfl 52 (by decide) (hts _ kt_857) (fun _ h9 => h9) rfl dX15_isWay_81 ?_
      refine lv_if_ne (tgt := 102) hx hb dX15_isWay_84 (by decide) (fun c_187 => ?_) (fun c_187 => ?_)
      ·
        refine W.widen (k := 0) (n := 0) (by omega) (by omega) ?_
        exact jn_127 () F_118 (trivial) hO hR _ _ hP hD hS ls (lv_sub hl [0, 1, 2, 3, 4] rfl)
      ·
        refine lv_aload_n hx hb dX15_isWay_87 rfl (lv_at hl 2 rfl) ?_
        refine lv_iload_n hx hb dX15_isWay_88 rfl (lv_at hl 1 rfl) ?_
        refine lv_iload hx hb dX15_isWay_89 (lv_at hl 0 rfl) ?_
        obtain ⟨q_188, v_189, hr_q_188, hX_q_188⟩ := hG.2.2 ("PostGateModel", 499, "simple", [115, 105, 109, 112, 108, 101]) (by decide +kernel)
        have hX_q_188 : SXc q_188 v_189 6 (cct [115, 105, 109, 112, 108, 101]) A s s.heap := hX_q_188
        obtain ⟨xo_q_188, xc_q_188, xv_q_188, xt_q_188, xn_q_188⟩ := id hX_q_188
        have hr_q_188 : vk_R "PostGateModel" 499 "simple" q_188 s := hr_q_188
        refine va_ldcwS hx hb hown hr_q_188 dX15_isWay_91 ?_
        have hFc := pg_free hD hS hA
        refine va_calli (va_runS (As := [.ref sb, .int (nI (k_100 + 1)), .int (nI k_112), .ref q_188]) (rest := []) ⟨hx, hb, hml, hown, hts⟩ (s_X15_is l dC dI cs ty gm L H.size F_118 sb (ρ + 12) 3000 q_188 v_189 6 (cct [115, 105, 109, 112, 108, 101]) (k_100 + 1) k_112 hW hi_39 ht_40 (by first | omega | assumption | exact Or.inl rfl) (by first | omega | assumption | exact Or.inl rfl)) ⟨callB_of 4 hts (gi kt_694) rfl rfl rfl (hts _ kt_669) (hts _ kt_695) (by decide +kernel) ⟨Nat.le_of_ble_eq_true rfl, Nat.le_of_ble_eq_true rfl⟩, (hts _ kt_696)⟩ ⟨fun a U g mk q => ⟨q.1, PTEm.calling q.2⟩, fun U hU hWm => ⟨rfl, PTEm.mk hU hWm hP hK hD hE hO hG (fun x hx => by rw [List.mem_singleton] at hx; subst hx; exact hX_q_188) hS hFc⟩⟩ rfl rfl hl.1 rfl (lv_room (Nat.le_of_ble_eq_true rfl)) dX15_isWay_94 ⟨by show _ + 0 ≤ 0; omega, by show _ + 0 ≤ 0; omega⟩) hS (fun q _ h => hFc q h) hFc (fun r_190 u t H1 locs ht hvm hw hB hz1 hk1 hS => ?_)
        obtain ⟨F_191, hB1⟩ := hB
        obtain rfl : F_118 = F_191 := (funext (fun a => hB1.2.2.2 a List.not_mem_nil)).symm
        obtain ⟨hP, hD, hO, hR⟩ := QTm.back hB1 ht hFc hR (fun q h => absurd h List.not_mem_nil)
        generalize H1 = H at hP hS ⊢
        have hw : ((r_190 = 1 ∧ isP (gA (F_118 sb)) (k_100 + 1) k_112 (cct [115, 105, 109, 112, 108, 101]) 6) ∨ (r_190 = 0 ∧ ¬ isP (gA (F_118 sb)) (k_100 + 1) k_112 (cct [115, 105, 109, 112, 108, 101]) 6)) := hw
        have hw_192 := hw
        refine lv_if_ne (tgt := 102) hx hb dX15_isWay_97 (by decide) (fun c_193 => ?_) (fun c_193 => ?_)
        ·
          refine W.widen (k := 0) (n := 0) (by omega) (by omega) ?_
          exact jn_127 () F_118 (trivial) hO hR _ _ hP hD hS ls (lv_sub hl [0, 1, 2, 3, 4] rfl)
        ·
          refine lv_iconst (v := 0) hx hb dX15_isWay_100 (by decide) ?_
          refine W.widen (k := 0) (n := 0) (by omega) (by omega) ?_
          exact W.zret (v := 0) (ty := .boolean) hx hb hr (by decide) (fun t ht hWm => ⟨⟨0, (), rfl, (by first | exact Or.inl rfl | exact Or.inr rfl), ⟨F_118, QTm.mk ht hP hD hO hR⟩⟩, hS.F ht⟩) hS.2.2 dX15_isWay_101
  ·
    refine lv_iconst (v := 1) hx hb dX15_isWay_25 (by decide) ?_
    refine W.widen (k := 0) (n := 0) (by omega) (by omega) ?_
    exact W.zret (v := 1) (ty := .boolean) hx hb hr (by decide) (fun t ht hWm => ⟨⟨1, (), rfl, (by first | exact Or.inl rfl | exact Or.inr rfl), ⟨F_87, QTm.mk ht hP hD hO hR⟩⟩, hS.F ht⟩) hS.2.2 dX15_isWay_26
set_option maxHeartbeats 4000000 in
set_option maxRecDepth 100000 in
theorem s_X15_isWell (l : Launch) (dC : Nat → ClassId) (dI : Nat → Nat → Nat) (cs : Nat → ClassId) (ty : TyM) (gm : Nat → Nat → Nat) (L : List Nat) (sz : Nat) (F : Nat → va_E) (h0 : Nat) (ρ : Nat) (ta : Nat) (ou : Nat) (so : Nat) (ad : Nat) (na : Nat) (va : Nat) (lc : Nat) (dm : Nat) (tg : Nat) (pe : Nat) (ml : Nat) (bg : Nat) (co : Nat) (sp : Nat) (nb0 : Nat) (nb1 : Nat) (nb2 : Nat) (pl : Nat) (se : Nat) (ke : Nat) (wi : Nat) (hs : Nat) (mo : Nat) (po : Nat) (nu : Nat) (pr : Nat) (sq : Nat) (xa : Nat) (sa : Nat) (n64 : Nat) (m64 : Nat) (ex : Nat) (wh : Nat) (sd : Nat) (tk : Nat) (hd : Nat) (ak : Nat) (ho : Nat) (ot : Nat) (sx : Nat) (s0 : Nat) (s1 : Nat) (s2 : Nat) (nf : Nat) (bd : Nat) (mm : Nat) (zo : Nat) (fm : Nat) (sn : Nat) (hg : Nat) (gc : Nat) (gv : Nat) (ze : Nat) (zt : Nat) (sb : Nat) (zx : Nat) (hW : WTm ty gm L) (hL_h0 : h0 ∈ L) (hT_h0 : ty h0 = (15, ρ, [ta, ou, so, ad, na, va, lc, dm, tg, pe, ml, bg, co, sp, nb0, nb1, nb2, pl, se, ke, wi, hs, mo, po, nu, pr, sq, xa, sa, n64, m64, ex, wh, sd, tk, hd, ak, ho, ot, sx, s0, s1, s2, nf, bd, mm, zo, fm, sn, hg, gc, gv, ze, zt])) (hL_sx : sx ∈ L) (hT_sx : ty sx = (14, ρ + 12, [sb, 3000])) (hFx : F sx = .inr (14, [.ref sb, .int (nI zx)])) (hzx : zx ≤ 1280) : Met l yX15_isWell (.code yX15_isWell cX15_isWell 1 (some .boolean) :: tb) ({ frames := 7, cells := 0, slots := 0, locals := 164 }) (va_Pc [.ref h0] (PTEm (dC, dI) cs ty gm L F sz [])) (va_Qi (fun (r : Int32) (wk : Nat) => (r = 0 ∨ (r = 1 ∧ wk = 1))) (fun (wk : Nat) T9 => ∃ F2 : Nat → va_E, ∃ eb : Nat → Int32, ∃ e0 : Nat → Int32, ∃ e1 : Nat → Int32, ∃ e2 : Nat → Int32, ∃ zs : Nat, QTm (dC, dI) cs ty gm L [ρ, ρ + 11, ρ + 20, ρ + 21, ρ + 81, ρ + 82] F F2 (va_A (va_pl L F) sz) T9 ∧ F2 sb = .inl (cs 17, 3000, .inl eb) ∧ F2 s0 = .inl (cs 16, 40, .inl e0) ∧ F2 s1 = .inl (cs 16, 40, .inl e1) ∧ F2 s2 = .inl (cs 16, 40, .inl e2) ∧ F2 se = .inr (13, [.ref sx, .ref s0, .ref s1, .ref s2, .int (nI zs)]) ∧ zs ≤ 40 ∧ (wk = 1 → WLP eb e0 e1 e2 zs)) (va_A (va_pl L F) sz)) 0 0 (va_A (va_pl L F) sz) := by
  refine Met.ofW (cc := cX15_isWell) (maxL := 1) (ret := (some .boolean)) (by decide) rfl ?_
  intro p e s m args below meth c s₁ B hml hv
  obtain ⟨rfl, ⟨hsz, hP, hK, hD0, hE, hO⟩, hG, hX⟩ := hv
  have hx := B.exec
  have hb := B.bytes
  have hr := B.returns
  have hts : ∀ w ∈ tb, w.before _ s = true := fun w h => atoms_spec (ws := .code yX15_isWell cX15_isWell 1 (some .boolean) :: tb) B.pre w (List.mem_cons_of_mem _ h)
  have hown : s.vm.findClass RX15 = some m.cls := findClass_of_methodNamed B.named
  have hlocks := B.notSynchronized
  subst hsz
  have hD := hD0.self (sz := s.heap.size)
  generalize hAe : va_A (va_pl L F) s.heap.size = A at hD hG hX ⊢
  have hA : ∀ q : Nat, s.heap.size ≤ q → A q := fun q h => by rw [← hAe]; exact Or.inr h
  have hS : va_S A s.heap s.heap [] := va_S.rf
  have hR : FR ty [ρ, ρ + 11, ρ + 20, ρ + 21, ρ + 81, ρ + 82] F F := FR.refl
  have hl := lv_entry ([.ref h0]) (n := 1) (Nat.le_of_ble_eq_true rfl)
  rw [lg_entry_eq]
  generalize (lg_sl ([.ref h0]) ++ List.replicate (1 - (lg_sl ([.ref h0])).length) Slot.unset).toArray = ls at hl ⊢
  have hl : lv_has ls 1 [(0, .ref h0)] := hl
  obtain ⟨hq_23, hq_24, hq_25, hq_26, hq_27, hgO, hgA, hgB, hq_28⟩ := hW.sc hL_h0 hT_h0
  obtain ⟨hi_29, ht_30⟩ := hW.f_se hL_h0 hT_h0
  obtain ⟨_, hi_31, hi_32, hi_33, _, ht_34, ht_35, ht_36, hq_37, hq_38⟩ := hW.tags hi_29 ht_30
  have ht_35 : ty s1 = (25, ρ + 81, [40, 1280]) := ht_35
  have ht_36 : ty s2 = (25, ρ + 82, [40, 1280]) := ht_36
  obtain ⟨hi_39, ht_40, hq_41⟩ := hW.txt hL_sx hT_sx
  refine lv_aload_n hx hb dX15_isWell_0 rfl (lv_at hl 0 rfl) ?_
  obtain ⟨v14_42, v15_43, v17_44, v18_45, v19_46, v20_47, v21_48, v22_49, v33_50, v52_51, v53_52, v54_53, hF_54, hq_55, hq_56, hq_57, hq_58, hq_59⟩ := hO.mod hL_h0 hT_h0
  refine pg_get (ci := 15) (v := .ref se) (C := RX15) (T := TX15) (N := 59) hx hb hts it_15 hown hK hP hL_h0 hF_54 rfl 35 (by decide) (hts _ kt_847) (fun _ h9 => h9) rfl dX15_isWell_1 ?_
  refine lv_bipush (v := 8) hx hb dX15_isWell_4 (by decide) ?_
  have hFc := pg_free hD hS hA
  obtain ⟨z_60, hF_61, hq_62⟩ := hO.tags hi_29 ht_30
  refine va_calli (va_runV (As := [.int 8]) (rest := []) ⟨hx, hb, hml, hown, hts⟩ (s_X13_read l dC dI cs ty gm L s.heap.size F se (ρ + 11) sx 3000 1280 s0 s1 s2 sb zx 8 hW hi_29 ht_30 hL_sx hT_sx hFx (by first | omega | assumption | exact Or.inl rfl)) ⟨callB_of 1 hts (gi kt_859) rfl rfl rfl (hts _ kt_829) (hts _ kt_860) (by decide +kernel) ⟨Nat.le_of_ble_eq_true rfl, Nat.le_of_ble_eq_true rfl⟩, (hts _ kt_861), (hts _ kt_862)⟩ ⟨fun a U g mk q => ⟨q.1, PTm.calling q.2⟩, pg_recv hK hP hi_29 hF_61 (q := (RX13, TX13, 5)) rfl, fun U hU hWm => ⟨rfl, PTm.mk hU hWm hP hK hD hE hO⟩⟩ rfl rfl hl.1 rfl (lv_room (Nat.le_of_ble_eq_true rfl)) dX15_isWell_6 ⟨by show _ + 0 ≤ 0; omega, by show _ + 0 ≤ 0; omega⟩) hS (fun q _ h => hFc q h) hFc (fun r_63 u t H1 locs ht hvm hw hB hz1 hk1 hS => ?_)
  obtain ⟨F_64, z2_65, hB1, hq_66, hq_67⟩ := hB
  obtain ⟨hP, hD, hO, hR⟩ := QTm.back hB1 ht hFc hR (fun q h => by simp only [List.mem_cons, List.not_mem_nil, or_false] at h ⊢; omega)
  have hF_68 : F_64 sx = .inr (14, [.ref sb, .int (nI zx)]) := (hB1.2.2.2 sx (by rw [hT_sx]; simp <;> omega)).trans hFx
  have hF_69 : F_64 h0 = .inr (15, (.ref ta) :: (.int (nI zt)) :: (.int (nI zo)) :: (.int (nI ze)) :: (.ref ou) :: (.ref so) :: (.ref ad) :: (.ref na) :: (.ref va) :: (.ref lc) :: (.ref dm) :: (.int (nI fm)) :: (.int (nI sn)) :: (.ref tg) :: (.int v14_42) :: (.int v15_43) :: (.ref pe) :: (.int v17_44) :: (.int v18_45) :: (.int v19_46) :: (.int v20_47) :: (.int v21_48) :: (.int v22_49) :: (.ref ml) :: (.ref bg) :: (.ref co) :: (.ref sp) :: (.ref nb0) :: (.ref nb1) :: (.ref nb2) :: (.int (nI nf)) :: (.int (nI bd)) :: (.int (nI mm)) :: (.int v33_50) :: (.ref pl) :: (.ref se) :: (.ref ke) :: (.ref wi) :: (.ref hs) :: (.ref mo) :: (.ref po) :: (.ref nu) :: (.ref pr) :: (.ref sq) :: (.ref xa) :: (.ref sa) :: (.ref n64) :: (.ref m64) :: (.ref ex) :: (.ref wh) :: (.ref sd) :: (.ref tk) :: (.int v52_51) :: (.int v53_52) :: (.int v54_53) :: (.ref hd) :: (.ref ak) :: (.ref ho) :: (.ref ot) :: []) := (hB1.2.2.2 h0 (by rw [hT_h0]; simp <;> omega)).trans hF_54
  generalize H1 = H at hP hS ⊢
  have hw : (r_63 = 0 ∨ r_63 = 1) := hw
  have hw_70 := hw
  obtain ⟨hq_71, hq_72⟩ := hW.octs hi_39 ht_40
  obtain ⟨f_73, hF_74, hq_75⟩ := hO.octs hi_39 ht_40
  obtain ⟨f_76, hF_77, hq_78⟩ := hO.idb hi_31 ht_34
  obtain ⟨f_79, hF_80, hq_81⟩ := hO.idb hi_32 ht_35
  obtain ⟨f_82, hF_83, hq_84⟩ := hO.idb hi_33 ht_36
  refine lv_if_eq (tgt := 64) hx hb dX15_isWell_9 (by decide) (fun c_85 => ?_) (fun c_85 => ?_)
  ·
    refine lv_iconst (v := 0) hx hb dX15_isWell_64 (by decide) ?_
    refine W.widen (k := 0) (n := 0) (by omega) (by omega) ?_
    exact W.zret (v := 0) (ty := .boolean) hx hb hr (by decide) (fun t ht hWm => ⟨⟨0, 0, rfl, (Or.inl rfl), ⟨F_64, f_73, f_76, f_79, f_82, z2_65, QTm.mk ht hP hD hO hR, hF_74, hF_77, hF_80, hF_83, hq_66, by omega, (fun h => absurd h (by decide))⟩⟩, hS.F ht⟩) hS.2.2 dX15_isWell_65
  ·
    refine lv_aload_n hx hb dX15_isWell_12 rfl (lv_at hl 0 rfl) ?_
    refine pg_get (ci := 15) (v := .ref se) (C := RX15) (T := TX15) (N := 59) hx hb hts it_15 hown hK hP hL_h0 hF_69 rfl 35 (by decide) (hts _ kt_847) (fun _ h9 => h9) rfl dX15_isWell_13 ?_
    obtain ⟨q_86, v_87, hr_q_86, hX_q_86⟩ := hG.2.2 ("PostGateModel", 444, "v", [118]) (by decide +kernel)
    have hX_q_86 : SXc q_86 v_87 1 (cct [118]) A s s.heap := hX_q_86
    obtain ⟨xo_q_86, xc_q_86, xv_q_86, xt_q_86, xn_q_86⟩ := id hX_q_86
    have hr_q_86 : vk_R "PostGateModel" 444 "v" q_86 s := hr_q_86
    refine va_ldcwS hx hb hown hr_q_86 dX15_isWell_16 ?_
    obtain ⟨q_88, v_89, hr_q_88, hX_q_88⟩ := hG.2.2 ("PostGateModel", 446, "1", [49]) (by decide +kernel)
    have hX_q_88 : SXc q_88 v_89 1 (cct [49]) A s s.heap := hX_q_88
    obtain ⟨xo_q_88, xc_q_88, xv_q_88, xt_q_88, xn_q_88⟩ := id hX_q_88
    have hr_q_88 : vk_R "PostGateModel" 446 "1" q_88 s := hr_q_88
    refine va_ldcwS hx hb hown hr_q_88 dX15_isWell_19 ?_
    have hFc := pg_free hD hS hA
    refine va_calli (va_runV (As := [.ref q_86, .ref q_88]) (rest := []) ⟨hx, hb, hml, hown, hts⟩ (s_X13_has l dC dI cs ty gm L H.size F_64 se (ρ + 11) sx 3000 1280 s0 s1 s2 sb z2_65 q_86 v_87 1 (cct [118]) q_88 v_89 1 (cct [49]) hW hi_29 ht_30 hL_sx hT_sx hq_66 (by first | omega | assumption | exact Or.inl rfl)) ⟨callB_of 2 hts (gi kt_863) rfl rfl rfl (hts _ kt_829) (hts _ kt_864) (by decide +kernel) ⟨Nat.le_of_ble_eq_true rfl, Nat.le_of_ble_eq_true rfl⟩, (hts _ kt_865), (hts _ kt_866)⟩ ⟨fun a U g mk q => ⟨q.1, PTEm.calling q.2⟩, pg_recv hK hP hi_29 hq_66 (q := (RX13, TX13, 5)) rfl, fun U hU hWm => ⟨rfl, PTEm.mk hU hWm hP hK hD hE hO hG (fun x hx => by simp only [List.mem_cons, List.not_mem_nil, or_false] at hx; rcases hx with hx | hx <;> subst hx <;> first | exact hX_q_86 | exact hX_q_88) hS hFc⟩⟩ rfl rfl hl.1 rfl (lv_room (Nat.le_of_ble_eq_true rfl)) dX15_isWell_22 ⟨by show _ + 0 ≤ 0; omega, by show _ + 0 ≤ 0; omega⟩) hS (fun q _ h => hFc q h) hFc (fun r_90 u t H1 locs ht hvm hw hB hz1 hk1 hS => ?_)
    obtain ⟨F_91, hB1⟩ := hB
    obtain rfl : F_64 = F_91 := (funext (fun a => hB1.2.2.2 a List.not_mem_nil)).symm
    obtain ⟨hP, hD, hO, hR⟩ := QTm.back hB1 ht hFc hR (fun q h => absurd h List.not_mem_nil)
    generalize H1 = H at hP hS ⊢
    have hw : (r_90 = 0 ∨ r_90 = 1) := hw
    have hw_92 := hw
    refine lv_if_eq (tgt := 64) hx hb dX15_isWell_25 (by decide) (fun c_93 => ?_) (fun c_93 => ?_)
    ·
      refine lv_iconst (v := 0) hx hb dX15_isWell_64 (by decide) ?_
      refine W.widen (k := 0) (n := 0) (by omega) (by omega) ?_
      exact W.zret (v := 0) (ty := .boolean) hx hb hr (by decide) (fun t ht hWm => ⟨⟨0, 0, rfl, (Or.inl rfl), ⟨F_64, f_73, f_76, f_79, f_82, z2_65, QTm.mk ht hP hD hO hR, hF_74, hF_77, hF_80, hF_83, hq_66, by omega, (fun h => absurd h (by decide))⟩⟩, hS.F ht⟩) hS.2.2 dX15_isWell_65
    ·
      refine lv_aload_n hx hb dX15_isWell_28 rfl (lv_at hl 0 rfl) ?_
      refine pg_get (ci := 15) (v := .ref se) (C := RX15) (T := TX15) (N := 59) hx hb hts it_15 hown hK hP hL_h0 hF_69 rfl 35 (by decide) (hts _ kt_847) (fun _ h9 => h9) rfl dX15_isWell_29 ?_
      obtain ⟨q_94, v_95, hr_q_94, hX_q_94⟩ := hG.2.2 ("PostGateModel", 274, "a", [97]) (by decide +kernel)
      have hX_q_94 : SXc q_94 v_95 1 (cct [97]) A s s.heap := hX_q_94
      obtain ⟨xo_q_94, xc_q_94, xv_q_94, xt_q_94, xn_q_94⟩ := id hX_q_94
      have hr_q_94 : vk_R "PostGateModel" 274 "a" q_94 s := hr_q_94
      refine va_ldcwS hx hb hown hr_q_94 dX15_isWell_32 ?_
      obtain ⟨q_96, v_97, hr_q_96, hX_q_96⟩ := hG.2.2 ("PostGateModel", 452, "rsa-sha256", [114, 115, 97, 45, 115, 104, 97, 50, 53, 54]) (by decide +kernel)
      have hX_q_96 : SXc q_96 v_97 10 (cct [114, 115, 97, 45, 115, 104, 97, 50, 53, 54]) A s s.heap := hX_q_96
      obtain ⟨xo_q_96, xc_q_96, xv_q_96, xt_q_96, xn_q_96⟩ := id hX_q_96
      have hr_q_96 : vk_R "PostGateModel" 452 "rsa-sha256" q_96 s := hr_q_96
      refine va_ldcwS hx hb hown hr_q_96 dX15_isWell_35 ?_
      have hFc := pg_free hD hS hA
      refine va_calli (va_runV (As := [.ref q_94, .ref q_96]) (rest := []) ⟨hx, hb, hml, hown, hts⟩ (s_X13_has l dC dI cs ty gm L H.size F_64 se (ρ + 11) sx 3000 1280 s0 s1 s2 sb z2_65 q_94 v_95 1 (cct [97]) q_96 v_97 10 (cct [114, 115, 97, 45, 115, 104, 97, 50, 53, 54]) hW hi_29 ht_30 hL_sx hT_sx hq_66 (by first | omega | assumption | exact Or.inl rfl)) ⟨callB_of 2 hts (gi kt_863) rfl rfl rfl (hts _ kt_829) (hts _ kt_864) (by decide +kernel) ⟨Nat.le_of_ble_eq_true rfl, Nat.le_of_ble_eq_true rfl⟩, (hts _ kt_865), (hts _ kt_866)⟩ ⟨fun a U g mk q => ⟨q.1, PTEm.calling q.2⟩, pg_recv hK hP hi_29 hq_66 (q := (RX13, TX13, 5)) rfl, fun U hU hWm => ⟨rfl, PTEm.mk hU hWm hP hK hD hE hO hG (fun x hx => by simp only [List.mem_cons, List.not_mem_nil, or_false] at hx; rcases hx with hx | hx <;> subst hx <;> first | exact hX_q_94 | exact hX_q_96) hS hFc⟩⟩ rfl rfl hl.1 rfl (lv_room (Nat.le_of_ble_eq_true rfl)) dX15_isWell_38 ⟨by show _ + 0 ≤ 0; omega, by show _ + 0 ≤ 0; omega⟩) hS (fun q _ h => hFc q h) hFc (fun r_98 u t H1 locs ht hvm hw hB hz1 hk1 hS => ?_)
      obtain ⟨F_99, hB1⟩ := hB
      obtain rfl : F_64 = F_99 := (funext (fun a => hB1.2.2.2 a List.not_mem_nil)).symm
      obtain ⟨hP, hD, hO, hR⟩ := QTm.back hB1 ht hFc hR (fun q h => absurd h List.not_mem_nil)
      generalize H1 = H at hP hS ⊢
      have hw : (r_98 = 0 ∨ r_98 = 1) := hw
      have hw_100 := hw
      refine lv_if_eq (tgt := 64) hx hb dX15_isWell_41 (by decide) (fun c_101 => ?_) (fun c_101 => ?_)
      ·
        refine lv_iconst (v := 0) hx hb dX15_isWell_64 (by decide) ?_
        refine W.widen (k := 0) (n := 0) (by omega) (by omega) ?_
        exact W.zret (v := 0) (ty := .boolean) hx hb hr (by decide) (fun t ht hWm => ⟨⟨0, 0, rfl, (Or.inl rfl), ⟨F_64, f_73, f_76, f_79, f_82, z2_65, QTm.mk ht hP hD hO hR, hF_74, hF_77, hF_80, hF_83, hq_66, by omega, (fun h => absurd h (by decide))⟩⟩, hS.F ht⟩) hS.2.2 dX15_isWell_65
      ·
        refine lv_aload_n hx hb dX15_isWell_44 rfl (lv_at hl 0 rfl) ?_
        obtain ⟨q_102, v_103, hr_q_102, hX_q_102⟩ := hG.2.2 ("PostGateModel", 454, "d", [100]) (by decide +kernel)
        have hX_q_102 : SXc q_102 v_103 1 (cct [100]) A s s.heap := hX_q_102
        obtain ⟨xo_q_102, xc_q_102, xv_q_102, xt_q_102, xn_q_102⟩ := id hX_q_102
        have hr_q_102 : vk_R "PostGateModel" 454 "d" q_102 s := hr_q_102
        refine va_ldcwS hx hb hown hr_q_102 dX15_isWell_45 ?_
        have hFc := pg_free hD hS hA
        refine va_calli (va_runV (As := [.ref q_102]) (rest := []) ⟨hx, hb, hml, hown, hts⟩ (s_X15_isTagName l dC dI cs ty gm L H.size F_64 h0 ρ ta ou so ad na va lc dm tg pe ml bg co sp nb0 nb1 nb2 pl se ke wi hs mo po nu pr sq xa sa n64 m64 ex wh sd tk hd ak ho ot sx s0 s1 s2 nf bd mm zo fm sn hg gc gv ze zt sb z2_65 q_102 v_103 1 (cct [100]) hW hL_h0 hT_h0 hL_sx hT_sx hq_66 (by first | omega | assumption | exact Or.inl rfl)) ⟨callB_of 1 hts (gi kt_867) rfl rfl rfl (hts _ kt_669) (hts _ kt_868) (by decide +kernel) ⟨Nat.le_of_ble_eq_true rfl, Nat.le_of_ble_eq_true rfl⟩, (hts _ kt_869), (hts _ kt_870)⟩ ⟨fun a U g mk q => ⟨q.1, PTEm.calling q.2⟩, pg_recv hK hP hL_h0 hF_69 (q := (RX15, TX15, 59)) rfl, fun U hU hWm => ⟨rfl, PTEm.mk hU hWm hP hK hD hE hO hG (fun x hx => by rw [List.mem_singleton] at hx; subst hx; exact hX_q_102) hS hFc⟩⟩ rfl rfl hl.1 rfl (lv_room (Nat.le_of_ble_eq_true rfl)) dX15_isWell_48 ⟨by show _ + 0 ≤ 0; omega, by show _ + 0 ≤ 0; omega⟩) hS (fun q _ h => hFc q h) hFc (fun r_104 u t H1 locs ht hvm hw hB hz1 hk1 hS => ?_)
        obtain ⟨F_105, hB1⟩ := hB
        obtain rfl : F_64 = F_105 := (funext (fun a => hB1.2.2.2 a List.not_mem_nil)).symm
        obtain ⟨hP, hD, hO, hR⟩ := QTm.back hB1 ht hFc hR (fun q h => absurd h List.not_mem_nil)
        generalize H1 = H at hP hS ⊢
        have hw : (r_104 = 0 ∨ (r_104 = 1 ∧ ∃ k, k < z2_65 ∧ FND (gA (F_64 sb)) (gA (F_64 s0)) (gA (F_64 s1)) z2_65 (cct [100]) 1 (nI k) ∧ TGN (gA (F_64 s1)) (gA (F_64 s2)) k)) := hw
        have hw_106 := hw
        refine lv_if_eq (tgt := 64) hx hb dX15_isWell_51 (by decide) (fun c_107 => ?_) (fun c_107 => ?_)
        ·
          refine lv_iconst (v := 0) hx hb dX15_isWell_64 (by decide) ?_
          refine W.widen (k := 0) (n := 0) (by omega) (by omega) ?_
          exact W.zret (v := 0) (ty := .boolean) hx hb hr (by decide) (fun t ht hWm => ⟨⟨0, 0, rfl, (Or.inl rfl), ⟨F_64, f_73, f_76, f_79, f_82, z2_65, QTm.mk ht hP hD hO hR, hF_74, hF_77, hF_80, hF_83, hq_66, by omega, (fun h => absurd h (by decide))⟩⟩, hS.F ht⟩) hS.2.2 dX15_isWell_65
        ·
          have hw_108 := bit1 hw_106 c_107
          rw [gA_fun hF_74, gA_fun hF_77, gA_fun hF_80, gA_fun hF_83] at hw_108
          refine lv_aload_n hx hb dX15_isWell_54 rfl (lv_at hl 0 rfl) ?_
          obtain ⟨q_109, v_110, hr_q_109, hX_q_109⟩ := hG.2.2 ("PostGateModel", 460, "s", [115]) (by decide +kernel)
          have hX_q_109 : SXc q_109 v_110 1 (cct [115]) A s s.heap := hX_q_109
          obtain ⟨xo_q_109, xc_q_109, xv_q_109, xt_q_109, xn_q_109⟩ := id hX_q_109
          have hr_q_109 : vk_R "PostGateModel" 460 "s" q_109 s := hr_q_109
          refine va_ldcwS hx hb hown hr_q_109 dX15_isWell_55 ?_
          have hFc := pg_free hD hS hA
          refine va_calli (va_runV (As := [.ref q_109]) (rest := []) ⟨hx, hb, hml, hown, hts⟩ (s_X15_isTagName l dC dI cs ty gm L H.size F_64 h0 ρ ta ou so ad na va lc dm tg pe ml bg co sp nb0 nb1 nb2 pl se ke wi hs mo po nu pr sq xa sa n64 m64 ex wh sd tk hd ak ho ot sx s0 s1 s2 nf bd mm zo fm sn hg gc gv ze zt sb z2_65 q_109 v_110 1 (cct [115]) hW hL_h0 hT_h0 hL_sx hT_sx hq_66 (by first | omega | assumption | exact Or.inl rfl)) ⟨callB_of 1 hts (gi kt_867) rfl rfl rfl (hts _ kt_669) (hts _ kt_868) (by decide +kernel) ⟨Nat.le_of_ble_eq_true rfl, Nat.le_of_ble_eq_true rfl⟩, (hts _ kt_869), (hts _ kt_870)⟩ ⟨fun a U g mk q => ⟨q.1, PTEm.calling q.2⟩, pg_recv hK hP hL_h0 hF_69 (q := (RX15, TX15, 59)) rfl, fun U hU hWm => ⟨rfl, PTEm.mk hU hWm hP hK hD hE hO hG (fun x hx => by rw [List.mem_singleton] at hx; subst hx; exact hX_q_109) hS hFc⟩⟩ rfl rfl hl.1 rfl (lv_room (Nat.le_of_ble_eq_true rfl)) dX15_isWell_58 ⟨by show _ + 0 ≤ 0; omega, by show _ + 0 ≤ 0; omega⟩) hS (fun q _ h => hFc q h) hFc (fun r_111 u t H1 locs ht hvm hw hB hz1 hk1 hS => ?_)
          obtain ⟨F_112, hB1⟩ := hB
          obtain rfl : F_64 = F_112 := (funext (fun a => hB1.2.2.2 a List.not_mem_nil)).symm
          obtain ⟨hP, hD, hO, hR⟩ := QTm.back hB1 ht hFc hR (fun q h => absurd h List.not_mem_nil)
          generalize H1 = H at hP hS ⊢
          have hw : (r_111 = 0 ∨ (r_111 = 1 ∧ ∃ k, k < z2_65 ∧ FND (gA (F_64 sb)) (gA (F_64 s0)) (gA (F_64 s1)) z2_65 (cct [115]) 1 (nI k) ∧ TGN (gA (F_64 s1)) (gA (F_64 s2)) k)) := hw
          have hw_113 := hw
          refine lv_if_ne (tgt := 66) hx hb dX15_isWell_61 (by decide) (fun c_114 => ?_) (fun c_114 => ?_)
          ·
            have hw_115 := bit1 hw_113 c_114
            rw [gA_fun hF_74, gA_fun hF_77, gA_fun hF_80, gA_fun hF_83] at hw_115
            refine lv_aload_n hx hb dX15_isWell_66 rfl (lv_at hl 0 rfl) ?_
            refine pg_get (ci := 15) (v := .ref se) (C := RX15) (T := TX15) (N := 59) hx hb hts it_15 hown hK hP hL_h0 hF_69 rfl 35 (by decide) (hts _ kt_847) (fun _ h9 => h9) rfl dX15_isWell_67 ?_
            obtain ⟨q_116, v_117, hr_q_116, hX_q_116⟩ := hG.2.2 ("PostGateModel", 462, "bh", [98, 104]) (by decide +kernel)
            have hX_q_116 : SXc q_116 v_117 2 (cct [98, 104]) A s s.heap := hX_q_116
            obtain ⟨xo_q_116, xc_q_116, xv_q_116, xt_q_116, xn_q_116⟩ := id hX_q_116
            have hr_q_116 : vk_R "PostGateModel" 462 "bh" q_116 s := hr_q_116
            refine va_ldcwS hx hb hown hr_q_116 dX15_isWell_70 ?_
            refine lv_bipush (v := 32) hx hb dX15_isWell_73 (by decide) ?_
            refine lv_aload_n hx hb dX15_isWell_75 rfl (lv_at hl 0 rfl) ?_
            refine pg_get (ci := 15) (v := .ref sa) (C := RX15) (T := TX15) (N := 59) hx hb hts it_15 hown hK hP hL_h0 hF_69 rfl 45 (by decide) (hts _ kt_871) (fun _ h9 => h9) rfl dX15_isWell_76 ?_
            obtain ⟨hi_118, ht_119⟩ := hW.f_sa hL_h0 hT_h0
            obtain ⟨hq_120, hq_121⟩ := hW.octs hi_118 ht_119
            have hFc := pg_free hD hS hA
            refine va_calli (va_runS (As := [.ref se, .ref q_116, .int 32, .ref sa]) (rest := []) ⟨hx, hb, hml, hown, hts⟩ (s_X15_base_32 l dC dI cs ty gm L H.size F_64 se (ρ + 11) sx 3000 1280 s0 s1 s2 sb z2_65 sa (ρ + 20) q_116 v_117 2 (cct [98, 104]) hW hi_29 ht_30 hL_sx hT_sx hi_118 ht_119 hq_66 (by first | omega | assumption | exact Or.inl rfl)) ⟨callB_of 4 hts (gi kt_872) rfl rfl rfl (hts _ kt_669) (hts _ kt_873) (by decide +kernel) ⟨Nat.le_of_ble_eq_true rfl, Nat.le_of_ble_eq_true rfl⟩, (hts _ kt_874)⟩ ⟨fun a U g mk q => ⟨q.1, PTEm.calling q.2⟩, fun U hU hWm => ⟨rfl, PTEm.mk hU hWm hP hK hD hE hO hG (fun x hx => by rw [List.mem_singleton] at hx; subst hx; exact hX_q_116) hS hFc⟩⟩ rfl rfl hl.1 rfl (lv_room (Nat.le_of_ble_eq_true rfl)) dX15_isWell_79 ⟨by show _ + 0 ≤ 0; omega, by show _ + 0 ≤ 0; omega⟩) hS (fun q _ h => hFc q h) hFc (fun r_122 u t H1 locs ht hvm hw hB hz1 hk1 hS => ?_)
            obtain ⟨F_123, hB1⟩ := hB
            obtain ⟨hP, hD, hO, hR⟩ := QTm.back hB1 ht hFc hR (fun q h => by simp only [List.mem_cons, List.not_mem_nil, or_false] at h ⊢; omega)
            have hF_124 : F_123 sx = .inr (14, [.ref sb, .int (nI zx)]) := (hB1.2.2.2 sx (by rw [hT_sx]; simp)).trans hF_68
            have hF_125 : F_123 h0 = .inr (15, (.ref ta) :: (.int (nI zt)) :: (.int (nI zo)) :: (.int (nI ze)) :: (.ref ou) :: (.ref so) :: (.ref ad) :: (.ref na) :: (.ref va) :: (.ref lc) :: (.ref dm) :: (.int (nI fm)) :: (.int (nI sn)) :: (.ref tg) :: (.int v14_42) :: (.int v15_43) :: (.ref pe) :: (.int v17_44) :: (.int v18_45) :: (.int v19_46) :: (.int v20_47) :: (.int v21_48) :: (.int v22_49) :: (.ref ml) :: (.ref bg) :: (.ref co) :: (.ref sp) :: (.ref nb0) :: (.ref nb1) :: (.ref nb2) :: (.int (nI nf)) :: (.int (nI bd)) :: (.int (nI mm)) :: (.int v33_50) :: (.ref pl) :: (.ref se) :: (.ref ke) :: (.ref wi) :: (.ref hs) :: (.ref mo) :: (.ref po) :: (.ref nu) :: (.ref pr) :: (.ref sq) :: (.ref xa) :: (.ref sa) :: (.ref n64) :: (.ref m64) :: (.ref ex) :: (.ref wh) :: (.ref sd) :: (.ref tk) :: (.int v52_51) :: (.int v53_52) :: (.int v54_53) :: (.ref hd) :: (.ref ak) :: (.ref ho) :: (.ref ot) :: []) := (hB1.2.2.2 h0 (by rw [hT_h0]; simp)).trans hF_69
            have hF_126 : F_123 se = .inr (13, [.ref sx, .ref s0, .ref s1, .ref s2, .int (nI z2_65)]) := (hB1.2.2.2 se (by rw [ht_30]; simp)).trans hq_66
            have hF_127 : F_123 sb = .inl (cs 17, 3000, .inl f_73) := (hB1.2.2.2 sb (by rw [ht_40]; simp)).trans hF_74
            have hF_128 : F_123 s0 = .inl (cs 16, 40, .inl f_76) := (hB1.2.2.2 s0 (by rw [ht_34]; simp)).trans hF_77
            have hF_129 : F_123 s1 = .inl (cs 16, 40, .inl f_79) := (hB1.2.2.2 s1 (by rw [ht_35]; simp)).trans hF_80
            have hF_130 : F_123 s2 = .inl (cs 16, 40, .inl f_82) := (hB1.2.2.2 s2 (by rw [ht_36]; simp)).trans hF_83
            generalize H1 = H at hP hS ⊢
            have hw : (r_122 = 0 ∨ r_122 = 1) := hw
            have hw_131 := hw
            refine lv_if_eq (tgt := 111) hx hb dX15_isWell_82 (by decide) (fun c_132 => ?_) (fun c_132 => ?_)
            ·
              refine lv_iconst (v := 0) hx hb dX15_isWell_111 (by decide) ?_
              refine W.widen (k := 0) (n := 0) (by omega) (by omega) ?_
              exact W.zret (v := 0) (ty := .boolean) hx hb hr (by decide) (fun t ht hWm => ⟨⟨0, 0, rfl, (Or.inl rfl), ⟨F_123, f_73, f_76, f_79, f_82, z2_65, QTm.mk ht hP hD hO hR, hF_127, hF_128, hF_129, hF_130, hF_126, by omega, (fun h => absurd h (by decide))⟩⟩, hS.F ht⟩) hS.2.2 dX15_isWell_112
            ·
              refine lv_aload_n hx hb dX15_isWell_85 rfl (lv_at hl 0 rfl) ?_
              refine pg_get (ci := 15) (v := .ref se) (C := RX15) (T := TX15) (N := 59) hx hb hts it_15 hown hK hP hL_h0 hF_125 rfl 35 (by decide) (hts _ kt_847) (fun _ h9 => h9) rfl dX15_isWell_86 ?_
              obtain ⟨q_133, v_134, hr_q_133, hX_q_133⟩ := hG.2.2 ("PostGateModel", 468, "b", [98]) (by decide +kernel)
              have hX_q_133 : SXc q_133 v_134 1 (cct [98]) A s s.heap := hX_q_133
              obtain ⟨xo_q_133, xc_q_133, xv_q_133, xt_q_133, xn_q_133⟩ := id hX_q_133
              have hr_q_133 : vk_R "PostGateModel" 468 "b" q_133 s := hr_q_133
              refine va_ldcwS hx hb hown hr_q_133 dX15_isWell_89 ?_
              refine lv_bipush (v := 64) hx hb dX15_isWell_92 (by decide) ?_
              refine lv_aload_n hx hb dX15_isWell_94 rfl (lv_at hl 0 rfl) ?_
              refine pg_get (ci := 15) (v := .ref n64) (C := RX15) (T := TX15) (N := 59) hx hb hts it_15 hown hK hP hL_h0 hF_125 rfl 46 (by decide) (hts _ kt_875) (fun _ h9 => h9) rfl dX15_isWell_95 ?_
              obtain ⟨hi_135, ht_136⟩ := hW.f_n64 hL_h0 hT_h0
              obtain ⟨hq_137, hq_138⟩ := hW.octs hi_135 ht_136
              have hFc := pg_free hD hS hA
              refine va_calli (va_runS (As := [.ref se, .ref q_133, .int 64, .ref n64]) (rest := []) ⟨hx, hb, hml, hown, hts⟩ (s_X15_base_64 l dC dI cs ty gm L H.size F_123 se (ρ + 11) sx 3000 1280 s0 s1 s2 sb z2_65 n64 (ρ + 21) q_133 v_134 1 (cct [98]) hW hi_29 ht_30 hL_sx hT_sx hi_135 ht_136 hF_126 (by first | omega | assumption | exact Or.inl rfl)) ⟨callB_of 4 hts (gi kt_872) rfl rfl rfl (hts _ kt_669) (hts _ kt_873) (by decide +kernel) ⟨Nat.le_of_ble_eq_true rfl, Nat.le_of_ble_eq_true rfl⟩, (hts _ kt_874)⟩ ⟨fun a U g mk q => ⟨q.1, PTEm.calling q.2⟩, fun U hU hWm => ⟨rfl, PTEm.mk hU hWm hP hK hD hE hO hG (fun x hx => by rw [List.mem_singleton] at hx; subst hx; exact hX_q_133) hS hFc⟩⟩ rfl rfl hl.1 rfl (lv_room (Nat.le_of_ble_eq_true rfl)) dX15_isWell_98 ⟨by show _ + 0 ≤ 0; omega, by show _ + 0 ≤ 0; omega⟩) hS (fun q _ h => hFc q h) hFc (fun r_139 u t H1 locs ht hvm hw hB hz1 hk1 hS => ?_)
              obtain ⟨F_140, hB1⟩ := hB
              obtain ⟨hP, hD, hO, hR⟩ := QTm.back hB1 ht hFc hR (fun q h => by simp only [List.mem_cons, List.not_mem_nil, or_false] at h ⊢; omega)
              have hF_141 : F_140 sx = .inr (14, [.ref sb, .int (nI zx)]) := (hB1.2.2.2 sx (by rw [hT_sx]; simp)).trans hF_124
              have hF_142 : F_140 h0 = .inr (15, (.ref ta) :: (.int (nI zt)) :: (.int (nI zo)) :: (.int (nI ze)) :: (.ref ou) :: (.ref so) :: (.ref ad) :: (.ref na) :: (.ref va) :: (.ref lc) :: (.ref dm) :: (.int (nI fm)) :: (.int (nI sn)) :: (.ref tg) :: (.int v14_42) :: (.int v15_43) :: (.ref pe) :: (.int v17_44) :: (.int v18_45) :: (.int v19_46) :: (.int v20_47) :: (.int v21_48) :: (.int v22_49) :: (.ref ml) :: (.ref bg) :: (.ref co) :: (.ref sp) :: (.ref nb0) :: (.ref nb1) :: (.ref nb2) :: (.int (nI nf)) :: (.int (nI bd)) :: (.int (nI mm)) :: (.int v33_50) :: (.ref pl) :: (.ref se) :: (.ref ke) :: (.ref wi) :: (.ref hs) :: (.ref mo) :: (.ref po) :: (.ref nu) :: (.ref pr) :: (.ref sq) :: (.ref xa) :: (.ref sa) :: (.ref n64) :: (.ref m64) :: (.ref ex) :: (.ref wh) :: (.ref sd) :: (.ref tk) :: (.int v52_51) :: (.int v53_52) :: (.int v54_53) :: (.ref hd) :: (.ref ak) :: (.ref ho) :: (.ref ot) :: []) := (hB1.2.2.2 h0 (by rw [hT_h0]; simp)).trans hF_125
              have hF_143 : F_140 se = .inr (13, [.ref sx, .ref s0, .ref s1, .ref s2, .int (nI z2_65)]) := (hB1.2.2.2 se (by rw [ht_30]; simp)).trans hF_126
              have hF_144 : F_140 sb = .inl (cs 17, 3000, .inl f_73) := (hB1.2.2.2 sb (by rw [ht_40]; simp)).trans hF_127
              have hF_145 : F_140 s0 = .inl (cs 16, 40, .inl f_76) := (hB1.2.2.2 s0 (by rw [ht_34]; simp)).trans hF_128
              have hF_146 : F_140 s1 = .inl (cs 16, 40, .inl f_79) := (hB1.2.2.2 s1 (by rw [ht_35]; simp)).trans hF_129
              have hF_147 : F_140 s2 = .inl (cs 16, 40, .inl f_82) := (hB1.2.2.2 s2 (by rw [ht_36]; simp)).trans hF_130
              generalize H1 = H at hP hS ⊢
              have hw : (r_139 = 0 ∨ r_139 = 1) := hw
              have hw_148 := hw
              refine lv_if_eq (tgt := 111) hx hb dX15_isWell_101 (by decide) (fun c_149 => ?_) (fun c_149 => ?_)
              ·
                refine lv_iconst (v := 0) hx hb dX15_isWell_111 (by decide) ?_
                refine W.widen (k := 0) (n := 0) (by omega) (by omega) ?_
                exact W.zret (v := 0) (ty := .boolean) hx hb hr (by decide) (fun t ht hWm => ⟨⟨0, 0, rfl, (Or.inl rfl), ⟨F_140, f_73, f_76, f_79, f_82, z2_65, QTm.mk ht hP hD hO hR, hF_144, hF_145, hF_146, hF_147, hF_143, by omega, (fun h => absurd h (by decide))⟩⟩, hS.F ht⟩) hS.2.2 dX15_isWell_112
              ·
                refine lv_aload_n hx hb dX15_isWell_104 rfl (lv_at hl 0 rfl) ?_
                have hFc := pg_free hD hS hA
                refine va_calli (va_runV (As := []) (rest := []) ⟨hx, hb, hml, hown, hts⟩ (s_X15_isNames l dC dI cs ty gm L H.size F_140 h0 ρ ta ou so ad na va lc dm tg pe ml bg co sp nb0 nb1 nb2 pl se ke wi hs mo po nu pr sq xa sa n64 m64 ex wh sd tk hd ak ho ot sx s0 s1 s2 nf bd mm zo fm sn hg gc gv ze zt sb z2_65 hW hL_h0 hT_h0 hL_sx hT_sx hF_143 (by first | omega | assumption | exact Or.inl rfl)) ⟨callB_of 0 hts (gi kt_876) rfl rfl rfl (hts _ kt_669) (hts _ kt_877) (by decide +kernel) ⟨Nat.le_of_ble_eq_true rfl, Nat.le_of_ble_eq_true rfl⟩, (hts _ kt_878), (hts _ kt_879)⟩ ⟨fun a U g mk q => ⟨q.1, PTEm.calling q.2⟩, pg_recv hK hP hL_h0 hF_142 (q := (RX15, TX15, 59)) rfl, fun U hU hWm => ⟨rfl, PTEm.mk hU hWm hP hK hD hE hO hG (fun x hx => absurd hx List.not_mem_nil) hS hFc⟩⟩ rfl rfl hl.1 rfl (lv_room (Nat.le_of_ble_eq_true rfl)) dX15_isWell_105 ⟨by show _ + 0 ≤ 0; omega, by show _ + 0 ≤ 0; omega⟩) hS (fun q _ h => hFc q h) hFc (fun r_150 u t H1 locs ht hvm hw hB hz1 hk1 hS => ?_)
                obtain ⟨F_151, hB1⟩ := hB
                obtain ⟨hP, hD, hO, hR⟩ := QTm.back hB1 ht hFc hR (fun q h => by simp only [List.mem_cons, List.not_mem_nil, or_false] at h ⊢; omega)
                have hF_152 : F_151 sx = .inr (14, [.ref sb, .int (nI zx)]) := (hB1.2.2.2 sx (by rw [hT_sx]; simp)).trans hF_141
                have hF_153 : F_151 se = .inr (13, [.ref sx, .ref s0, .ref s1, .ref s2, .int (nI z2_65)]) := (hB1.2.2.2 se (by rw [ht_30]; simp)).trans hF_143
                have hF_154 : F_151 sb = .inl (cs 17, 3000, .inl f_73) := (hB1.2.2.2 sb (by rw [ht_40]; simp)).trans hF_144
                have hF_155 : F_151 s0 = .inl (cs 16, 40, .inl f_76) := (hB1.2.2.2 s0 (by rw [ht_34]; simp)).trans hF_145
                have hF_156 : F_151 s1 = .inl (cs 16, 40, .inl f_79) := (hB1.2.2.2 s1 (by rw [ht_35]; simp)).trans hF_146
                have hF_157 : F_151 s2 = .inl (cs 16, 40, .inl f_82) := (hB1.2.2.2 s2 (by rw [ht_36]; simp)).trans hF_147
                generalize H1 = H at hP hS ⊢
                have hw : (r_150 = 0 ∨ (r_150 = 1 ∧ ∃ k, k < z2_65 ∧ FND (gA (F_140 sb)) (gA (F_140 s0)) (gA (F_140 s1)) z2_65 (cct [104]) 1 (nI k))) := hw
                have hw_158 := hw
                refine lv_if_ne (tgt := 113) hx hb dX15_isWell_108 (by decide) (fun c_159 => ?_) (fun c_159 => ?_)
                ·
                  have hw_160 := bit1 hw_158 c_159
                  rw [gA_fun hF_144, gA_fun hF_145, gA_fun hF_146] at hw_160
                  refine lv_aload_n hx hb dX15_isWell_113 rfl (lv_at hl 0 rfl) ?_
                  have hFc := pg_free hD hS hA
                  obtain ⟨v14_161, v15_162, v17_163, v18_164, v19_165, v20_166, v21_167, v22_168, v33_169, v52_170, v53_171, v54_172, hF_173, hq_174, hq_175, hq_176, hq_177, hq_178⟩ := hO.mod hL_h0 hT_h0
                  refine va_calli (va_runV (As := []) (rest := []) ⟨hx, hb, hml, hown, hts⟩ (s_X15_isWay l dC dI cs ty gm L H.size F_151 h0 ρ ta ou so ad na va lc dm tg pe ml bg co sp nb0 nb1 nb2 pl se ke wi hs mo po nu pr sq xa sa n64 m64 ex wh sd tk hd ak ho ot sx s0 s1 s2 nf bd mm zo fm sn hg gc gv ze zt sb z2_65 hW hL_h0 hT_h0 hL_sx hT_sx hF_153 (by first | omega | assumption | exact Or.inl rfl)) ⟨callB_of 0 hts (gi kt_880) rfl rfl rfl (hts _ kt_669) (hts _ kt_881) (by decide +kernel) ⟨Nat.le_of_ble_eq_true rfl, Nat.le_of_ble_eq_true rfl⟩, (hts _ kt_882), (hts _ kt_883)⟩ ⟨fun a U g mk q => ⟨q.1, PTEm.calling q.2⟩, pg_recv hK hP hL_h0 hF_173 (q := (RX15, TX15, 59)) rfl, fun U hU hWm => ⟨rfl, PTEm.mk hU hWm hP hK hD hE hO hG (fun x hx => absurd hx List.not_mem_nil) hS hFc⟩⟩ rfl rfl hl.1 rfl (lv_room (Nat.le_of_ble_eq_true rfl)) dX15_isWell_114 ⟨by show _ + 0 ≤ 0; omega, by show _ + 0 ≤ 0; omega⟩) hS (fun q _ h => hFc q h) hFc (fun r_179 u t H1 locs ht hvm hw hB hz1 hk1 hS => ?_)
                  obtain ⟨F_180, hB1⟩ := hB
                  obtain ⟨hP, hD, hO, hR⟩ := QTm.back hB1 ht hFc hR (fun q h => by simp only [List.mem_cons, List.not_mem_nil, or_false] at h ⊢; omega)
                  have hF_181 : F_180 sx = .inr (14, [.ref sb, .int (nI zx)]) := (hB1.2.2.2 sx (by rw [hT_sx]; simp)).trans hF_152
                  have hF_182 : F_180 se = .inr (13, [.ref sx, .ref s0, .ref s1, .ref s2, .int (nI z2_65)]) := (hB1.2.2.2 se (by rw [ht_30]; simp)).trans hF_153
                  have hF_183 : F_180 sb = .inl (cs 17, 3000, .inl f_73) := (hB1.2.2.2 sb (by rw [ht_40]; simp)).trans hF_154
                  have hF_184 : F_180 s0 = .inl (cs 16, 40, .inl f_76) := (hB1.2.2.2 s0 (by rw [ht_34]; simp)).trans hF_155
                  have hF_185 : F_180 s1 = .inl (cs 16, 40, .inl f_79) := (hB1.2.2.2 s1 (by rw [ht_35]; simp)).trans hF_156
                  have hF_186 : F_180 s2 = .inl (cs 16, 40, .inl f_82) := (hB1.2.2.2 s2 (by rw [ht_36]; simp)).trans hF_157
                  generalize H1 = H at hP hS ⊢
                  have hw : (r_179 = 0 ∨ r_179 = 1) := hw
                  have hw_187 := hw
                  refine lv_if_eq (tgt := 161) hx hb dX15_isWell_117 (by decide) (fun c_188 => ?_) (fun c_188 => ?_)
                  ·
                    refine lv_iconst (v := 0) hx hb dX15_isWell_161 (by decide) ?_
                    refine W.widen (k := 0) (n := 0) (by omega) (by omega) ?_
                    exact W.zret (v := 0) (ty := .boolean) hx hb hr (by decide) (fun t ht hWm => ⟨⟨0, 0, rfl, (Or.inl rfl), ⟨F_180, f_73, f_76, f_79, f_82, z2_65, QTm.mk ht hP hD hO hR, hF_183, hF_184, hF_185, hF_186, hF_182, by omega, (fun h => absurd h (by decide))⟩⟩, hS.F ht⟩) hS.2.2 dX15_isWell_162
                  ·
                    refine lv_aload_n hx hb dX15_isWell_120 rfl (lv_at hl 0 rfl) ?_
                    obtain ⟨v14_189, v15_190, v17_191, v18_192, v19_193, v20_194, v21_195, v22_196, v33_197, v52_198, v53_199, v54_200, hF_201, hq_202, hq_203, hq_204, hq_205, hq_206⟩ := hO.mod hL_h0 hT_h0
                    refine pg_get (ci := 15) (v := .ref se) (C := RX15) (T := TX15) (N := 59) hx hb hts it_15 hown hK hP hL_h0 hF_201 rfl 35 (by decide) (hts _ kt_847) (fun _ h9 => h9) rfl dX15_isWell_121 ?_
                    obtain ⟨q_207, v_208, hr_q_207, hX_q_207⟩ := hG.2.2 ("PostGateModel", 476, "l", [108]) (by decide +kernel)
                    have hX_q_207 : SXc q_207 v_208 1 (cct [108]) A s s.heap := hX_q_207
                    obtain ⟨xo_q_207, xc_q_207, xv_q_207, xt_q_207, xn_q_207⟩ := id hX_q_207
                    have hr_q_207 : vk_R "PostGateModel" 476 "l" q_207 s := hr_q_207
                    refine va_ldcwS hx hb hown hr_q_207 dX15_isWell_124 ?_
                    have hFc := pg_free hD hS hA
                    refine va_calli (va_runS (As := [.ref se, .ref q_207]) (rest := []) ⟨hx, hb, hml, hown, hts⟩ (s_X15_number l dC dI cs ty gm L H.size F_180 se (ρ + 11) sx 3000 1280 s0 s1 s2 sb z2_65 q_207 v_208 1 (cct [108]) hW hi_29 ht_30 hL_sx hT_sx hF_182 (by first | omega | assumption | exact Or.inl rfl)) ⟨callB_of 2 hts (gi kt_884) rfl rfl rfl (hts _ kt_669) (hts _ kt_885) (by decide +kernel) ⟨Nat.le_of_ble_eq_true rfl, Nat.le_of_ble_eq_true rfl⟩, (hts _ kt_886)⟩ ⟨fun a U g mk q => ⟨q.1, PTEm.calling q.2⟩, fun U hU hWm => ⟨rfl, PTEm.mk hU hWm hP hK hD hE hO hG (fun x hx => by rw [List.mem_singleton] at hx; subst hx; exact hX_q_207) hS hFc⟩⟩ rfl rfl hl.1 rfl (lv_room (Nat.le_of_ble_eq_true rfl)) dX15_isWell_127 ⟨by show _ + 0 ≤ 0; omega, by show _ + 0 ≤ 0; omega⟩) hS (fun q _ h => hFc q h) hFc (fun r_209 u t H1 locs ht hvm hw hB hz1 hk1 hS => ?_)
                    obtain ⟨F_210, hB1⟩ := hB
                    obtain rfl : F_180 = F_210 := (funext (fun a => hB1.2.2.2 a List.not_mem_nil)).symm
                    obtain ⟨hP, hD, hO, hR⟩ := QTm.back hB1 ht hFc hR (fun q h => absurd h List.not_mem_nil)
                    generalize H1 = H at hP hS ⊢
                    have hw : True := hw
                    have hw_211 := hw
                    refine lv_bipush (v := (-2)) hx hb dX15_isWell_130 (by decide) ?_
                    refine lv_icmp_eq (tgt := 161) hx hb dX15_isWell_132 (by decide) (fun c_212 => ?_) (fun c_212 => ?_)
                    ·
                      refine lv_iconst (v := 0) hx hb dX15_isWell_161 (by decide) ?_
                      refine W.widen (k := 0) (n := 0) (by omega) (by omega) ?_
                      exact W.zret (v := 0) (ty := .boolean) hx hb hr (by decide) (fun t ht hWm => ⟨⟨0, 0, rfl, (Or.inl rfl), ⟨F_180, f_73, f_76, f_79, f_82, z2_65, QTm.mk ht hP hD hO hR, hF_183, hF_184, hF_185, hF_186, hF_182, by omega, (fun h => absurd h (by decide))⟩⟩, hS.F ht⟩) hS.2.2 dX15_isWell_162
                    ·
                      refine lv_aload_n hx hb dX15_isWell_135 rfl (lv_at hl 0 rfl) ?_
                      refine pg_get (ci := 15) (v := .ref se) (C := RX15) (T := TX15) (N := 59) hx hb hts it_15 hown hK hP hL_h0 hF_201 rfl 35 (by decide) (hts _ kt_847) (fun _ h9 => h9) rfl dX15_isWell_136 ?_
                      obtain ⟨q_213, v_214, hr_q_213, hX_q_213⟩ := hG.2.2 ("PostGateModel", 481, "x", [120]) (by decide +kernel)
                      have hX_q_213 : SXc q_213 v_214 1 (cct [120]) A s s.heap := hX_q_213
                      obtain ⟨xo_q_213, xc_q_213, xv_q_213, xt_q_213, xn_q_213⟩ := id hX_q_213
                      have hr_q_213 : vk_R "PostGateModel" 481 "x" q_213 s := hr_q_213
                      refine va_ldcwS hx hb hown hr_q_213 dX15_isWell_139 ?_
                      have hFc := pg_free hD hS hA
                      refine va_calli (va_runS (As := [.ref se, .ref q_213]) (rest := []) ⟨hx, hb, hml, hown, hts⟩ (s_X15_number l dC dI cs ty gm L H.size F_180 se (ρ + 11) sx 3000 1280 s0 s1 s2 sb z2_65 q_213 v_214 1 (cct [120]) hW hi_29 ht_30 hL_sx hT_sx hF_182 (by first | omega | assumption | exact Or.inl rfl)) ⟨callB_of 2 hts (gi kt_884) rfl rfl rfl (hts _ kt_669) (hts _ kt_885) (by decide +kernel) ⟨Nat.le_of_ble_eq_true rfl, Nat.le_of_ble_eq_true rfl⟩, (hts _ kt_886)⟩ ⟨fun a U g mk q => ⟨q.1, PTEm.calling q.2⟩, fun U hU hWm => ⟨rfl, PTEm.mk hU hWm hP hK hD hE hO hG (fun x hx => by rw [List.mem_singleton] at hx; subst hx; exact hX_q_213) hS hFc⟩⟩ rfl rfl hl.1 rfl (lv_room (Nat.le_of_ble_eq_true rfl)) dX15_isWell_142 ⟨by show _ + 0 ≤ 0; omega, by show _ + 0 ≤ 0; omega⟩) hS (fun q _ h => hFc q h) hFc (fun r_215 u t H1 locs ht hvm hw hB hz1 hk1 hS => ?_)
                      obtain ⟨F_216, hB1⟩ := hB
                      obtain rfl : F_180 = F_216 := (funext (fun a => hB1.2.2.2 a List.not_mem_nil)).symm
                      obtain ⟨hP, hD, hO, hR⟩ := QTm.back hB1 ht hFc hR (fun q h => absurd h List.not_mem_nil)
                      generalize H1 = H at hP hS ⊢
                      have hw : True := hw
                      have hw_217 := hw
                      refine lv_bipush (v := (-2)) hx hb dX15_isWell_145 (by decide) ?_
                      refine lv_icmp_eq (tgt := 161) hx hb dX15_isWell_147 (by decide) (fun c_218 => ?_) (fun c_218 => ?_)
                      ·
                        refine lv_iconst (v := 0) hx hb dX15_isWell_161 (by decide) ?_
                        refine W.widen (k := 0) (n := 0) (by omega) (by omega) ?_
                        exact W.zret (v := 0) (ty := .boolean) hx hb hr (by decide) (fun t ht hWm => ⟨⟨0, 0, rfl, (Or.inl rfl), ⟨F_180, f_73, f_76, f_79, f_82, z2_65, QTm.mk ht hP hD hO hR, hF_183, hF_184, hF_185, hF_186, hF_182, by omega, (fun h => absurd h (by decide))⟩⟩, hS.F ht⟩) hS.2.2 dX15_isWell_162
                      ·
                        refine lv_aload_n hx hb dX15_isWell_150 rfl (lv_at hl 0 rfl) ?_
                        refine pg_get (ci := 15) (v := .int v54_200) (C := RX15) (T := TX15) (N := 59) hx hb hts it_15 hown hK hP hL_h0 hF_201 rfl 54 (by decide) (hts _ kt_849) (fun _ h9 => h9) rfl dX15_isWell_151 ?_
                        refine lv_if_eq (tgt := 161) hx hb dX15_isWell_154 (by decide) (fun c_219 => ?_) (fun c_219 => ?_)
                        ·
                          refine lv_iconst (v := 0) hx hb dX15_isWell_161 (by decide) ?_
                          refine W.widen (k := 0) (n := 0) (by omega) (by omega) ?_
                          exact W.zret (v := 0) (ty := .boolean) hx hb hr (by decide) (fun t ht hWm => ⟨⟨0, 0, rfl, (Or.inl rfl), ⟨F_180, f_73, f_76, f_79, f_82, z2_65, QTm.mk ht hP hD hO hR, hF_183, hF_184, hF_185, hF_186, hF_182, by omega, (fun h => absurd h (by decide))⟩⟩, hS.F ht⟩) hS.2.2 dX15_isWell_162
                        ·
                          refine lv_iconst (v := 1) hx hb dX15_isWell_157 (by decide) ?_
                          refine lv_goto (tgt := 162) hx hb dX15_isWell_158 (by decide) ?_
                          refine W.widen (k := 0) (n := 0) (by omega) (by omega) ?_
                          exact W.zret (v := 1) (ty := .boolean) hx hb hr (by decide) (fun t ht hWm => ⟨⟨1, 1, rfl, (Or.inr ⟨rfl, rfl⟩), ⟨F_180, f_73, f_76, f_79, f_82, z2_65, QTm.mk ht hP hD hO hR, hF_183, hF_184, hF_185, hF_186, hF_182, by omega, (fun _ => (by obtain ⟨kd, d1, d2, d3⟩ := hw_108; obtain ⟨ks, t1, t2, t3⟩ := hw_115; obtain ⟨kh, u1, u2⟩ := hw_160; exact ⟨kd, ks, kh, d1, t1, u1, d2, d3, t2, t3, u2⟩))⟩⟩, hS.F ht⟩) hS.2.2 dX15_isWell_162
                ·
                  refine lv_iconst (v := 0) hx hb dX15_isWell_111 (by decide) ?_
                  refine W.widen (k := 0) (n := 0) (by omega) (by omega) ?_
                  exact W.zret (v := 0) (ty := .boolean) hx hb hr (by decide) (fun t ht hWm => ⟨⟨0, 0, rfl, (Or.inl rfl), ⟨F_151, f_73, f_76, f_79, f_82, z2_65, QTm.mk ht hP hD hO hR, hF_154, hF_155, hF_156, hF_157, hF_153, by omega, (fun h => absurd h (by decide))⟩⟩, hS.F ht⟩) hS.2.2 dX15_isWell_112
          ·
            refine lv_iconst (v := 0) hx hb dX15_isWell_64 (by decide) ?_
            refine W.widen (k := 0) (n := 0) (by omega) (by omega) ?_
            exact W.zret (v := 0) (ty := .boolean) hx hb hr (by decide) (fun t ht hWm => ⟨⟨0, 0, rfl, (Or.inl rfl), ⟨F_64, f_73, f_76, f_79, f_82, z2_65, QTm.mk ht hP hD hO hR, hF_74, hF_77, hF_80, hF_83, hq_66, by omega, (fun h => absurd h (by decide))⟩⟩, hS.F ht⟩) hS.2.2 dX15_isWell_65
