theorem dX13_find_0 : decode cX13_find 0 = .ok (.iconst 0, 1) := by decide +kernel
theorem dX13_find_1 : decode cX13_find 1 = .ok (.istore_n 2, 1) := by decide +kernel
theorem dX13_find_2 : decode cX13_find 2 = .ok (.iload_n 2, 1) := by decide +kernel
theorem dX13_find_3 : decode cX13_find 3 = .ok (.aload_n 0, 1) := by decide +kernel
theorem dX13_find_4 : decode cX13_find 4 = .ok (.getfield 30, 3) := by decide +kernel
theorem dX13_find_7 : decode cX13_find 7 = .ok (.if_icmp .ge 37, 3) := by decide +kernel
theorem dX13_find_10 : decode cX13_find 10 = .ok (.aload_n 0, 1) := by decide +kernel
theorem dX13_find_11 : decode cX13_find 11 = .ok (.getfield 26, 3) := by decide +kernel
theorem dX13_find_14 : decode cX13_find 14 = .ok (.getfield 37, 3) := by decide +kernel
theorem dX13_find_17 : decode cX13_find 17 = .ok (.aload_n 0, 1) := by decide +kernel
theorem dX13_find_18 : decode cX13_find 18 = .ok (.getfield 9, 3) := by decide +kernel
theorem dX13_find_21 : decode cX13_find 21 = .ok (.iload_n 2, 1) := by decide +kernel
theorem dX13_find_22 : decode cX13_find 22 = .ok (.iaload, 1) := by decide +kernel
theorem dX13_find_23 : decode cX13_find 23 = .ok (.aload_n 0, 1) := by decide +kernel
theorem dX13_find_24 : decode cX13_find 24 = .ok (.getfield 15, 3) := by decide +kernel
theorem dX13_find_27 : decode cX13_find 27 = .ok (.iload_n 2, 1) := by decide +kernel
theorem dX13_find_28 : decode cX13_find 28 = .ok (.iaload, 1) := by decide +kernel
theorem dX13_find_29 : decode cX13_find 29 = .ok (.aload_n 1, 1) := by decide +kernel
theorem dX13_find_30 : decode cX13_find 30 = .ok (.invokestatic 53, 3) := by decide +kernel
theorem dX13_find_33 : decode cX13_find 33 = .ok (.ifCond .eq 5, 3) := by decide +kernel
theorem dX13_find_36 : decode cX13_find 36 = .ok (.iload_n 2, 1) := by decide +kernel
theorem dX13_find_37 : decode cX13_find 37 = .ok (.ireturn, 1) := by decide +kernel
theorem dX13_find_38 : decode cX13_find 38 = .ok (.iinc 2 1, 3) := by decide +kernel
theorem dX13_find_41 : decode cX13_find 41 = .ok (.goto (-39), 3) := by decide +kernel
theorem dX13_find_44 : decode cX13_find 44 = .ok (.iconst (-1), 1) := by decide +kernel
theorem dX13_find_45 : decode cX13_find 45 = .ok (.ireturn, 1) := by decide +kernel
theorem dX13_has_0 : decode cX13_has 0 = .ok (.aload_n 0, 1) := by decide +kernel
theorem dX13_has_1 : decode cX13_has 1 = .ok (.aload_n 1, 1) := by decide +kernel
theorem dX13_has_2 : decode cX13_has 2 = .ok (.invokevirtual 57, 3) := by decide +kernel
theorem dX13_has_5 : decode cX13_has 5 = .ok (.istore_n 3, 1) := by decide +kernel
theorem dX13_has_6 : decode cX13_has 6 = .ok (.iload_n 3, 1) := by decide +kernel
theorem dX13_has_7 : decode cX13_has 7 = .ok (.ifCond .lt 35, 3) := by decide +kernel
theorem dX13_has_10 : decode cX13_has 10 = .ok (.aload_n 0, 1) := by decide +kernel
theorem dX13_has_11 : decode cX13_has 11 = .ok (.getfield 26, 3) := by decide +kernel
theorem dX13_has_14 : decode cX13_has 14 = .ok (.getfield 37, 3) := by decide +kernel
theorem dX13_has_17 : decode cX13_has 17 = .ok (.aload_n 0, 1) := by decide +kernel
theorem dX13_has_18 : decode cX13_has 18 = .ok (.getfield 15, 3) := by decide +kernel
theorem dX13_has_21 : decode cX13_has 21 = .ok (.iload_n 3, 1) := by decide +kernel
theorem dX13_has_22 : decode cX13_has 22 = .ok (.iaload, 1) := by decide +kernel
theorem dX13_has_23 : decode cX13_has 23 = .ok (.iconst 1, 1) := by decide +kernel
theorem dX13_has_24 : decode cX13_has 24 = .ok (.iadd, 1) := by decide +kernel
theorem dX13_has_25 : decode cX13_has 25 = .ok (.aload_n 0, 1) := by decide +kernel
theorem dX13_has_26 : decode cX13_has 26 = .ok (.getfield 18, 3) := by decide +kernel
theorem dX13_has_29 : decode cX13_has 29 = .ok (.iload_n 3, 1) := by decide +kernel
theorem dX13_has_30 : decode cX13_has 30 = .ok (.iaload, 1) := by decide +kernel
theorem dX13_has_31 : decode cX13_has 31 = .ok (.aload_n 2, 1) := by decide +kernel
theorem dX13_has_32 : decode cX13_has 32 = .ok (.invokestatic 53, 3) := by decide +kernel
theorem dX13_has_35 : decode cX13_has 35 = .ok (.ifCond .eq 7, 3) := by decide +kernel
theorem dX13_has_38 : decode cX13_has 38 = .ok (.iconst 1, 1) := by decide +kernel
theorem dX13_has_39 : decode cX13_has 39 = .ok (.goto 4, 3) := by decide +kernel
theorem dX13_has_42 : decode cX13_has 42 = .ok (.iconst 0, 1) := by decide +kernel
theorem dX13_has_43 : decode cX13_has 43 = .ok (.ireturn, 1) := by decide +kernel
theorem dX13_isSame_0 : decode cX13_isSame 0 = .ok (.iconst 0, 1) := by decide +kernel
theorem dX13_isSame_1 : decode cX13_isSame 1 = .ok (.istore 4, 2) := by decide +kernel
theorem dX13_isSame_3 : decode cX13_isSame 3 = .ok (.iload 4, 2) := by decide +kernel
theorem dX13_isSame_5 : decode cX13_isSame 5 = .ok (.iload_n 3, 1) := by decide +kernel
theorem dX13_isSame_6 : decode cX13_isSame 6 = .ok (.if_icmp .ge 38, 3) := by decide +kernel
theorem dX13_isSame_9 : decode cX13_isSame 9 = .ok (.aload_n 0, 1) := by decide +kernel
theorem dX13_isSame_10 : decode cX13_isSame 10 = .ok (.getfield 26, 3) := by decide +kernel
theorem dX13_isSame_13 : decode cX13_isSame 13 = .ok (.getfield 37, 3) := by decide +kernel
theorem dX13_isSame_16 : decode cX13_isSame 16 = .ok (.iload_n 1, 1) := by decide +kernel
theorem dX13_isSame_17 : decode cX13_isSame 17 = .ok (.iload 4, 2) := by decide +kernel
theorem dX13_isSame_19 : decode cX13_isSame 19 = .ok (.iadd, 1) := by decide +kernel
theorem dX13_isSame_20 : decode cX13_isSame 20 = .ok (.baload, 1) := by decide +kernel
theorem dX13_isSame_21 : decode cX13_isSame 21 = .ok (.aload_n 0, 1) := by decide +kernel
theorem dX13_isSame_22 : decode cX13_isSame 22 = .ok (.getfield 26, 3) := by decide +kernel
theorem dX13_isSame_25 : decode cX13_isSame 25 = .ok (.getfield 37, 3) := by decide +kernel
theorem dX13_isSame_28 : decode cX13_isSame 28 = .ok (.iload_n 2, 1) := by decide +kernel
theorem dX13_isSame_29 : decode cX13_isSame 29 = .ok (.iload 4, 2) := by decide +kernel
theorem dX13_isSame_31 : decode cX13_isSame 31 = .ok (.iadd, 1) := by decide +kernel
theorem dX13_isSame_32 : decode cX13_isSame 32 = .ok (.baload, 1) := by decide +kernel
theorem dX13_isSame_33 : decode cX13_isSame 33 = .ok (.if_icmp .eq 5, 3) := by decide +kernel
theorem dX13_isSame_36 : decode cX13_isSame 36 = .ok (.iconst 0, 1) := by decide +kernel
theorem dX13_isSame_37 : decode cX13_isSame 37 = .ok (.ireturn, 1) := by decide +kernel
theorem dX13_isSame_38 : decode cX13_isSame 38 = .ok (.iinc 4 1, 3) := by decide +kernel
theorem dX13_isSame_41 : decode cX13_isSame 41 = .ok (.goto (-38), 3) := by decide +kernel
theorem dX13_isSame_44 : decode cX13_isSame 44 = .ok (.iconst 1, 1) := by decide +kernel
theorem dX13_isSame_45 : decode cX13_isSame 45 = .ok (.ireturn, 1) := by decide +kernel
theorem dX13_read_0 : decode cX13_read 0 = .ok (.aload_n 0, 1) := by decide +kernel
theorem dX13_read_1 : decode cX13_read 1 = .ok (.iconst 0, 1) := by decide +kernel
theorem dX13_read_2 : decode cX13_read 2 = .ok (.putfield 30, 3) := by decide +kernel
theorem dX13_read_5 : decode cX13_read 5 = .ok (.iconst 0, 1) := by decide +kernel
theorem dX13_read_6 : decode cX13_read 6 = .ok (.istore_n 2, 1) := by decide +kernel
theorem dX13_read_7 : decode cX13_read 7 = .ok (.iload_n 2, 1) := by decide +kernel
theorem dX13_read_8 : decode cX13_read 8 = .ok (.aload_n 0, 1) := by decide +kernel
theorem dX13_read_9 : decode cX13_read 9 = .ok (.getfield 26, 3) := by decide +kernel
theorem dX13_read_12 : decode cX13_read 12 = .ok (.getfield 34, 3) := by decide +kernel
theorem dX13_read_15 : decode cX13_read 15 = .ok (.if_icmp .ge 222, 3) := by decide +kernel
theorem dX13_read_18 : decode cX13_read 18 = .ok (.iload_n 2, 1) := by decide +kernel
theorem dX13_read_19 : decode cX13_read 19 = .ok (.istore_n 3, 1) := by decide +kernel
theorem dX13_read_20 : decode cX13_read 20 = .ok (.iload_n 2, 1) := by decide +kernel
theorem dX13_read_21 : decode cX13_read 21 = .ok (.istore 4, 2) := by decide +kernel
theorem dX13_read_23 : decode cX13_read 23 = .ok (.iload_n 3, 1) := by decide +kernel
theorem dX13_read_24 : decode cX13_read 24 = .ok (.aload_n 0, 1) := by decide +kernel
theorem dX13_read_25 : decode cX13_read 25 = .ok (.getfield 26, 3) := by decide +kernel
theorem dX13_read_28 : decode cX13_read 28 = .ok (.getfield 34, 3) := by decide +kernel
theorem dX13_read_31 : decode cX13_read 31 = .ok (.if_icmp .ge 23, 3) := by decide +kernel
theorem dX13_read_34 : decode cX13_read 34 = .ok (.aload_n 0, 1) := by decide +kernel
theorem dX13_read_35 : decode cX13_read 35 = .ok (.getfield 26, 3) := by decide +kernel
theorem dX13_read_38 : decode cX13_read 38 = .ok (.getfield 37, 3) := by decide +kernel
theorem dX13_read_41 : decode cX13_read 41 = .ok (.iload_n 3, 1) := by decide +kernel
theorem dX13_read_42 : decode cX13_read 42 = .ok (.baload, 1) := by decide +kernel
theorem dX13_read_43 : decode cX13_read 43 = .ok (.bipush 59, 2) := by decide +kernel
theorem dX13_read_45 : decode cX13_read 45 = .ok (.if_icmp .eq 9, 3) := by decide +kernel
theorem dX13_read_48 : decode cX13_read 48 = .ok (.iinc 3 1, 3) := by decide +kernel
theorem dX13_read_51 : decode cX13_read 51 = .ok (.goto (-28), 3) := by decide +kernel
theorem dX13_read_54 : decode cX13_read 54 = .ok (.iload 4, 2) := by decide +kernel
theorem dX13_read_56 : decode cX13_read 56 = .ok (.iload_n 3, 1) := by decide +kernel
theorem dX13_read_57 : decode cX13_read 57 = .ok (.if_icmp .ge 25, 3) := by decide +kernel
theorem dX13_read_60 : decode cX13_read 60 = .ok (.aload_n 0, 1) := by decide +kernel
theorem dX13_read_61 : decode cX13_read 61 = .ok (.getfield 26, 3) := by decide +kernel
theorem dX13_read_64 : decode cX13_read 64 = .ok (.getfield 37, 3) := by decide +kernel
theorem dX13_read_67 : decode cX13_read 67 = .ok (.iload 4, 2) := by decide +kernel
theorem dX13_read_69 : decode cX13_read 69 = .ok (.baload, 1) := by decide +kernel
theorem dX13_read_70 : decode cX13_read 70 = .ok (.invokestatic 41, 3) := by decide +kernel
theorem dX13_read_73 : decode cX13_read 73 = .ok (.ifCond .eq 9, 3) := by decide +kernel
theorem dX13_read_76 : decode cX13_read 76 = .ok (.iinc 4 1, 3) := by decide +kernel
theorem dX13_read_79 : decode cX13_read 79 = .ok (.goto (-25), 3) := by decide +kernel
theorem dX13_read_82 : decode cX13_read 82 = .ok (.iload 4, 2) := by decide +kernel
theorem dX13_read_84 : decode cX13_read 84 = .ok (.iload_n 2, 1) := by decide +kernel
theorem dX13_read_85 : decode cX13_read 85 = .ok (.isub, 1) := by decide +kernel
theorem dX13_read_86 : decode cX13_read 86 = .ok (.i2l, 1) := by decide +kernel
theorem dX13_read_87 : decode cX13_read 87 = .ok (.lconst 1, 1) := by decide +kernel
theorem dX13_read_88 : decode cX13_read 88 = .ok (.iload_n 1, 1) := by decide +kernel
theorem dX13_read_89 : decode cX13_read 89 = .ok (.i2l, 1) := by decide +kernel
theorem dX13_read_90 : decode cX13_read 90 = .ok (.invokestatic 45, 3) := by decide +kernel
theorem dX13_read_93 : decode cX13_read 93 = .ok (.ifCond .eq 33, 3) := by decide +kernel
theorem dX13_read_96 : decode cX13_read 96 = .ok (.iload 4, 2) := by decide +kernel
theorem dX13_read_98 : decode cX13_read 98 = .ok (.iload_n 3, 1) := by decide +kernel
theorem dX13_read_99 : decode cX13_read 99 = .ok (.if_icmp .eq 27, 3) := by decide +kernel
theorem dX13_read_102 : decode cX13_read 102 = .ok (.aload_n 0, 1) := by decide +kernel
theorem dX13_read_103 : decode cX13_read 103 = .ok (.getfield 26, 3) := by decide +kernel
theorem dX13_read_106 : decode cX13_read 106 = .ok (.getfield 37, 3) := by decide +kernel
theorem dX13_read_109 : decode cX13_read 109 = .ok (.iload 4, 2) := by decide +kernel
theorem dX13_read_111 : decode cX13_read 111 = .ok (.baload, 1) := by decide +kernel
theorem dX13_read_112 : decode cX13_read 112 = .ok (.bipush 61, 2) := by decide +kernel
theorem dX13_read_114 : decode cX13_read 114 = .ok (.if_icmp .ne 12, 3) := by decide +kernel
theorem dX13_read_117 : decode cX13_read 117 = .ok (.aload_n 0, 1) := by decide +kernel
theorem dX13_read_118 : decode cX13_read 118 = .ok (.getfield 30, 3) := by decide +kernel
theorem dX13_read_121 : decode cX13_read 121 = .ok (.bipush 40, 2) := by decide +kernel
theorem dX13_read_123 : decode cX13_read 123 = .ok (.if_icmp .ne 5, 3) := by decide +kernel
theorem dX13_read_126 : decode cX13_read 126 = .ok (.iconst 0, 1) := by decide +kernel
theorem dX13_read_127 : decode cX13_read 127 = .ok (.ireturn, 1) := by decide +kernel
theorem dX13_read_128 : decode cX13_read 128 = .ok (.iconst 0, 1) := by decide +kernel
theorem dX13_read_129 : decode cX13_read 129 = .ok (.istore 5, 2) := by decide +kernel
theorem dX13_read_131 : decode cX13_read 131 = .ok (.iload 5, 2) := by decide +kernel
theorem dX13_read_133 : decode cX13_read 133 = .ok (.aload_n 0, 1) := by decide +kernel
theorem dX13_read_134 : decode cX13_read 134 = .ok (.getfield 30, 3) := by decide +kernel
theorem dX13_read_137 : decode cX13_read 137 = .ok (.if_icmp .ge 52, 3) := by decide +kernel
theorem dX13_read_140 : decode cX13_read 140 = .ok (.aload_n 0, 1) := by decide +kernel
theorem dX13_read_141 : decode cX13_read 141 = .ok (.getfield 15, 3) := by decide +kernel
theorem dX13_read_144 : decode cX13_read 144 = .ok (.iload 5, 2) := by decide +kernel
theorem dX13_read_146 : decode cX13_read 146 = .ok (.iaload, 1) := by decide +kernel
theorem dX13_read_147 : decode cX13_read 147 = .ok (.aload_n 0, 1) := by decide +kernel
theorem dX13_read_148 : decode cX13_read 148 = .ok (.getfield 9, 3) := by decide +kernel
theorem dX13_read_151 : decode cX13_read 151 = .ok (.iload 5, 2) := by decide +kernel
theorem dX13_read_153 : decode cX13_read 153 = .ok (.iaload, 1) := by decide +kernel
theorem dX13_read_154 : decode cX13_read 154 = .ok (.isub, 1) := by decide +kernel
theorem dX13_read_155 : decode cX13_read 155 = .ok (.iload 4, 2) := by decide +kernel
theorem dX13_read_157 : decode cX13_read 157 = .ok (.iload_n 2, 1) := by decide +kernel
theorem dX13_read_158 : decode cX13_read 158 = .ok (.isub, 1) := by decide +kernel
theorem dX13_read_159 : decode cX13_read 159 = .ok (.if_icmp .ne 24, 3) := by decide +kernel
theorem dX13_read_162 : decode cX13_read 162 = .ok (.aload_n 0, 1) := by decide +kernel
theorem dX13_read_163 : decode cX13_read 163 = .ok (.aload_n 0, 1) := by decide +kernel
theorem dX13_read_164 : decode cX13_read 164 = .ok (.getfield 9, 3) := by decide +kernel
theorem dX13_read_167 : decode cX13_read 167 = .ok (.iload 5, 2) := by decide +kernel
theorem dX13_read_169 : decode cX13_read 169 = .ok (.iaload, 1) := by decide +kernel
theorem dX13_read_170 : decode cX13_read 170 = .ok (.iload_n 2, 1) := by decide +kernel
theorem dX13_read_171 : decode cX13_read 171 = .ok (.iload 4, 2) := by decide +kernel
theorem dX13_read_173 : decode cX13_read 173 = .ok (.iload_n 2, 1) := by decide +kernel
theorem dX13_read_174 : decode cX13_read 174 = .ok (.isub, 1) := by decide +kernel
theorem dX13_read_175 : decode cX13_read 175 = .ok (.invokevirtual 49, 3) := by decide +kernel
theorem dX13_read_178 : decode cX13_read 178 = .ok (.ifCond .eq 5, 3) := by decide +kernel
theorem dX13_read_181 : decode cX13_read 181 = .ok (.iconst 0, 1) := by decide +kernel
theorem dX13_read_182 : decode cX13_read 182 = .ok (.ireturn, 1) := by decide +kernel
theorem dX13_read_183 : decode cX13_read 183 = .ok (.iinc 5 1, 3) := by decide +kernel
theorem dX13_read_186 : decode cX13_read 186 = .ok (.goto (-55), 3) := by decide +kernel
theorem dX13_read_189 : decode cX13_read 189 = .ok (.aload_n 0, 1) := by decide +kernel
theorem dX13_read_190 : decode cX13_read 190 = .ok (.getfield 9, 3) := by decide +kernel
theorem dX13_read_193 : decode cX13_read 193 = .ok (.aload_n 0, 1) := by decide +kernel
theorem dX13_read_194 : decode cX13_read 194 = .ok (.getfield 30, 3) := by decide +kernel
theorem dX13_read_197 : decode cX13_read 197 = .ok (.iload_n 2, 1) := by decide +kernel
theorem dX13_read_198 : decode cX13_read 198 = .ok (.iastore, 1) := by decide +kernel
theorem dX13_read_199 : decode cX13_read 199 = .ok (.aload_n 0, 1) := by decide +kernel
theorem dX13_read_200 : decode cX13_read 200 = .ok (.getfield 15, 3) := by decide +kernel
theorem dX13_read_203 : decode cX13_read 203 = .ok (.aload_n 0, 1) := by decide +kernel
theorem dX13_read_204 : decode cX13_read 204 = .ok (.getfield 30, 3) := by decide +kernel
theorem dX13_read_207 : decode cX13_read 207 = .ok (.iload 4, 2) := by decide +kernel
theorem dX13_read_209 : decode cX13_read 209 = .ok (.iastore, 1) := by decide +kernel
theorem dX13_read_210 : decode cX13_read 210 = .ok (.aload_n 0, 1) := by decide +kernel
theorem dX13_read_211 : decode cX13_read 211 = .ok (.getfield 18, 3) := by decide +kernel
theorem dX13_read_214 : decode cX13_read 214 = .ok (.aload_n 0, 1) := by decide +kernel
theorem dX13_read_215 : decode cX13_read 215 = .ok (.getfield 30, 3) := by decide +kernel
theorem dX13_read_218 : decode cX13_read 218 = .ok (.iload_n 3, 1) := by decide +kernel
theorem dX13_read_219 : decode cX13_read 219 = .ok (.iastore, 1) := by decide +kernel
theorem dX13_read_220 : decode cX13_read 220 = .ok (.aload_n 0, 1) := by decide +kernel
theorem dX13_read_221 : decode cX13_read 221 = .ok (.dup, 1) := by decide +kernel
theorem dX13_read_222 : decode cX13_read 222 = .ok (.getfield 30, 3) := by decide +kernel
theorem dX13_read_225 : decode cX13_read 225 = .ok (.iconst 1, 1) := by decide +kernel
theorem dX13_read_226 : decode cX13_read 226 = .ok (.iadd, 1) := by decide +kernel
theorem dX13_read_227 : decode cX13_read 227 = .ok (.putfield 30, 3) := by decide +kernel
theorem dX13_read_230 : decode cX13_read 230 = .ok (.iload_n 3, 1) := by decide +kernel
theorem dX13_read_231 : decode cX13_read 231 = .ok (.iconst 1, 1) := by decide +kernel
theorem dX13_read_232 : decode cX13_read 232 = .ok (.iadd, 1) := by decide +kernel
theorem dX13_read_233 : decode cX13_read 233 = .ok (.istore_n 2, 1) := by decide +kernel
theorem dX13_read_234 : decode cX13_read 234 = .ok (.goto (-227), 3) := by decide +kernel
theorem dX13_read_237 : decode cX13_read 237 = .ok (.iconst 1, 1) := by decide +kernel
theorem dX13_read_238 : decode cX13_read 238 = .ok (.ireturn, 1) := by decide +kernel
theorem kt_823 : Cond.fieldLink RX13 30 "PostGateModel$Tags" "many" "I" ∈ tb := tb_at (i := 1234) (by decide +kernel) (by decide +kernel)
theorem kt_824 : Cond.fieldLink RX13 26 "PostGateModel$Tags" "text" "LPostGateModel$Text;" ∈ tb := tb_at (i := 1227) (by decide +kernel) (by decide +kernel)
theorem kt_825 : Cond.fieldLink RX13 37 "PostGateModel$Text" "b" "[B" ∈ tb := tb_at (i := 1209) (by decide +kernel) (by decide +kernel)
theorem kt_826 : Cond.fieldLink RX13 9 "PostGateModel$Tags" "from" "[I" ∈ tb := tb_at (i := 1229) (by decide +kernel) (by decide +kernel)
theorem kt_827 : Cond.fieldLink RX13 15 "PostGateModel$Tags" "equals" "[I" ∈ tb := tb_at (i := 1230) (by decide +kernel) (by decide +kernel)
theorem kt_828 : Cond.code yX13_find cX13_find 3 (some .int) ∈ tb := tb_at (i := 1725) (by decide +kernel) (by decide +kernel)
theorem kt_829 : Cond.initialized RX13 ∈ tb := tb_at (i := 95) (by decide +kernel) (by decide +kernel)
theorem kt_830 : Cond.methodLink RX13 57 yX13_find ∈ tb := tb_at (i := 1722) (by decide +kernel) (by decide +kernel)
theorem kt_831 : Cond.instanceMethod yX13_find ∈ tb := tb_at (i := 1723) (by decide +kernel) (by decide +kernel)
theorem kt_832 : Cond.selects RX13 yX13_find yX13_find ∈ tb := tb_at (i := 1724) (by decide +kernel) (by decide +kernel)
theorem kt_833 : Cond.fieldLink RX13 18 "PostGateModel$Tags" "to" "[I" ∈ tb := tb_at (i := 1232) (by decide +kernel) (by decide +kernel)
theorem kt_834 : Cond.fieldLink RX13 34 "PostGateModel$Text" "n" "I" ∈ tb := tb_at (i := 1212) (by decide +kernel) (by decide +kernel)
theorem kt_835 : Cond.code yX13_isSame cX13_isSame 5 (some .boolean) ∈ tb := tb_at (i := 1715) (by decide +kernel) (by decide +kernel)
theorem kt_836 : Cond.methodLink RX13 49 yX13_isSame ∈ tb := tb_at (i := 1712) (by decide +kernel) (by decide +kernel)
theorem kt_837 : Cond.instanceMethod yX13_isSame ∈ tb := tb_at (i := 1714) (by decide +kernel) (by decide +kernel)
theorem kt_838 : Cond.selects RX13 yX13_isSame yX13_isSame ∈ tb := tb_at (i := 64) (by decide +kernel) (by decide +kernel)
theorem kn_41 : Cond.methodLinkNest RX13 53 yX15_is "PostGateModel" ∈ nw := nw_at (i := 1646) (by decide +kernel) rfl
theorem kn_42 : Cond.methodLinkNest RX13 45 yX15_in "PostGateModel" ∈ nw := nw_at (i := 1631) (by decide +kernel) rfl
theorem kn_43 : Cond.methodLinkNest RX13 41 yX15_isSmall "PostGateModel" ∈ nw := nw_at (i := 1630) (by decide +kernel) rfl
def tagP (fb f0 f1 C : Nat → Int32) (n k : Nat) : Prop := isP fb (f0 k).toNatClampNeg (f1 k).toNatClampNeg C n
theorem tagP_eq {fb f0 f1 C : Nat → Int32} {n k a b : Nat} (h0 : f0 k = nI a) (h1 : f1 k = nI b) (ha : a < 2 ^ 31) (hb : b < 2 ^ 31) : tagP fb f0 f1 C n k ↔ isP fb a b C n := by
  unfold tagP
  rw [h0, h1, nI_clamp ha, nI_clamp hb]
def FND (fb f0 f1 : Nat → Int32) (z : Nat) (C : Nat → Int32) (n : Nat) (r : Int32) : Prop := (r = (-1) ∧ ∀ k, k < z → ¬ tagP fb f0 f1 C n k) ∨ ∃ k, k < z ∧ r = nI k ∧ tagP fb f0 f1 C n k ∧ ∀ i, i < k → ¬ tagP fb f0 f1 C n i
theorem FND.uniq {fb f0 f1 C : Nat → Int32} {z n : Nat} {r1 r2 : Int32} (h1 : FND fb f0 f1 z C n r1) (h2 : FND fb f0 f1 z C n r2) : r1 = r2 := by
  rcases h1 with ⟨e1, q1⟩ | ⟨k1, a1, e1, p1, q1⟩ <;> rcases h2 with ⟨e2, q2⟩ | ⟨k2, a2, e2, p2, q2⟩
  · rw [e1, e2]
  · exact absurd p2 (q1 k2 a2)
  · exact absurd p1 (q2 k1 a1)
  · rcases Nat.lt_trichotomy k1 k2 with w | w | w
    · exact absurd p1 (q2 k1 w)
    · rw [e1, e2, w]
    · exact absurd p2 (q1 k2 w)
theorem FND.pos {fb f0 f1 C : Nat → Int32} {z n : Nat} {r : Int32} (h : FND fb f0 f1 z C n r) (c : ¬ r < 0) : ∃ k, k < z ∧ r = nI k := by
  rcases h with ⟨e1, -⟩ | ⟨k1, a1, e1, -, -⟩
  · rw [e1] at c; exact absurd (by decide) c
  · exact ⟨k1, a1, e1⟩
def TGN (f1 f2 : Nat → Int32) (k : Nat) : Prop := (f1 k).toNatClampNeg + 1 < (f2 k).toNatClampNeg ∧ (f2 k).toNatClampNeg ≤ (f1 k).toNatClampNeg + 61
theorem TGN.eq {f1 f2 : Nat → Int32} {k a b : Nat} (h1 : f1 k = nI a) (h2 : f2 k = nI b) (ha : a < 2 ^ 31) (hb : b < 2 ^ 31) : TGN f1 f2 k ↔ (a + 1 < b ∧ b ≤ a + 61) := by
  unfold TGN
  rw [h1, h2, nI_clamp ha, nI_clamp hb]
theorem ekc {f : Nat → Int32} {j k : Nat} (h : f (nI j).toNatClampNeg = nI k) (hj : j < 2 ^ 31) : f j = nI k := by
  rw [nI_clamp hj] at h
  exact h
set_option maxHeartbeats 4000000 in
set_option maxRecDepth 100000 in
theorem s_X13_find (l : Launch) (dC : Nat → ClassId) (dI : Nat → Nat → Nat) (cs : Nat → ClassId) (ty : TyM) (gm : Nat → Nat → Nat) (L : List Nat) (sz : Nat) (F : Nat → va_E) (h0 : Nat) (ρ : Nat) (tx : Nat) (n : Nat) (Bn : Nat) (y0 : Nat) (y1 : Nat) (y2 : Nat) (tbx : Nat) (z : Nat) (q : Nat) (v : Nat) (k0 : Nat) (C : Nat → Int32) (hW : WTm ty gm L) (hL_h0 : h0 ∈ L) (hT_h0 : ty h0 = (13, ρ, [tx, n, Bn, y0, y1, y2])) (hL_tx : tx ∈ L) (hT_tx : ty tx = (14, ρ + 1, [tbx, n])) (hF0 : F h0 = .inr (13, [.ref tx, .ref y0, .ref y1, .ref y2, .int (nI z)])) (hz40 : z ≤ 40) : Met l yX13_find (.code yX13_find cX13_find 3 (some .int) :: tb) ({ frames := 5, cells := 0, slots := 0, locals := 109 }) (va_Pc [.ref h0, .ref q] (PTEm (dC, dI) cs ty gm L F sz [(q, v, k0, C)])) (va_Qi (fun (r : Int32) (_ : Unit) => FND (gA (F tbx)) (gA (F y0)) (gA (F y1)) z C k0 r) (fun _ T9 => ∃ F2 : Nat → va_E, QTm (dC, dI) cs ty gm L [] F F2 (va_A (va_pl L F) sz) T9) (va_A (va_pl L F) sz)) 0 0 (va_A (va_pl L F) sz) := by
  refine Met.ofW (cc := cX13_find) (maxL := 3) (ret := (some .int)) (by decide) rfl ?_
  intro p e s m args below meth c s₁ B hml hv
  obtain ⟨rfl, ⟨hsz, hP, hK, hD0, hE, hO⟩, hG, hX⟩ := hv
  have hx := B.exec
  have hb := B.bytes
  have hr := B.returns
  have hts : ∀ w ∈ tb, w.before _ s = true := fun w h => atoms_spec (ws := .code yX13_find cX13_find 3 (some .int) :: tb) B.pre w (List.mem_cons_of_mem _ h)
  have hown : s.vm.findClass RX13 = some m.cls := findClass_of_methodNamed B.named
  have hlocks := B.notSynchronized
  subst hsz
  have hD := hD0.self (sz := s.heap.size)
  generalize hAe : va_A (va_pl L F) s.heap.size = A at hD hG hX ⊢
  have hX_q : SXc q v k0 C A s s.heap := hX (q, v, k0, C) (by simp)
  obtain ⟨xo_q, xc_q, xv_q, xt_q, xn_q⟩ := id hX_q
  have hA : ∀ q : Nat, s.heap.size ≤ q → A q := fun q h => by rw [← hAe]; exact Or.inr h
  have hS : va_S A s.heap s.heap [] := va_S.rf
  have hR : FR ty [] F F := FR.refl
  have hl := lv_entry ([.ref h0, .ref q]) (n := 3) (Nat.le_of_ble_eq_true rfl)
  rw [lg_entry_eq]
  generalize (lg_sl ([.ref h0, .ref q]) ++ List.replicate (3 - (lg_sl ([.ref h0, .ref q])).length) Slot.unset).toArray = ls at hl ⊢
  have hl : lv_has ls 3 [(0, .ref h0), (1, .ref q)] := hl
  refine lv_iconst (v := 0) hx hb dX13_find_0 (by decide) ?_
  refine lv_istore_n (lv' := [(2, .int 0), (0, .ref h0), (1, .ref q)]) hx hb dX13_find_1 rfl hl (by decide) rfl (fun ls hl => ?_)
  refine W.widen (k := 0) (n := 0) (by omega) (by omega) ?_
  refine pl_loopm (σ := Nat) A (dC, dI) cs ty gm L [] F 2 3 (fun j => [(2, .int (nI j)), (0, .ref h0), (1, .ref q)]) (fun j => []) (fun j _ => j ≤ 40 ∧ ∀ i, i < j → ¬ tagP (gA (F tbx)) (gA (F y0)) (gA (F y1)) C k0 i) (fun j => 40 - j) ?_ 0 F (⟨by omega, fun i hi => absurd hi (Nat.not_lt_zero _)⟩) hO hR _ _ hP hD hS ls (lv_sub hl [0, 1, 2] rfl)
  rintro j F_1 hv_2 hO hR ih_3 H locs hP hD hS ls hl
  have hl : lv_has ls 3 [(2, .int (nI j)), (0, .ref h0), (1, .ref q)] := hl
  have hv_2 : j ≤ 40 ∧ ∀ i, i < j → ¬ tagP (gA (F tbx)) (gA (F y0)) (gA (F y1)) C k0 i := hv_2
  refine W.eq (g2 := F0 m 2 ls []) rfl ?_
  obtain rfl : F = F_1 := (funext (fun a => hR a List.not_mem_nil)).symm
  obtain ⟨hv1, hv2⟩ := hv_2
  refine lv_iload_n hx hb dX13_find_2 rfl (lv_at hl 0 rfl) ?_
  refine lv_aload_n hx hb dX13_find_3 rfl (lv_at hl 1 rfl) ?_
  obtain ⟨_, hi_4, hi_5, hi_6, _, ht_7, ht_8, ht_9, hq_10, hq_11⟩ := hW.tags hL_h0 hT_h0
  refine pg_get (ci := 13) (v := .int (nI z)) (C := RX13) (T := TX13) (N := 5) hx hb hts it_13 hown hK hP hL_h0 hF0 rfl 4 (by decide) (hts _ kt_823) (fun _ h9 => h9) rfl dX13_find_4 ?_
  refine lv_icmp_ge (tgt := 44) hx hb dX13_find_7 (by decide) (fun c_12 => ?_) (fun c_12 => ?_)
  ·
    have hi_13 : z ≤ j := leN (N := z) c_12
    refine lv_iconst (v := (-1)) hx hb dX13_find_44 (by decide) ?_
    refine W.widen (k := 0) (n := 0) (by omega) (by omega) ?_
    exact W.iret (v := (-1)) hx hb hr (fun t ht hWm => ⟨⟨(-1), (), rfl, (Or.inl ⟨rfl, fun k hk => hv2 k (by omega)⟩), ⟨F, QTm.mk ht hP hD hO hR⟩⟩, hS.F ht⟩) hS.2.2 dX13_find_45
  ·
    have hi_14 : j < z := ltN (N := z) c_12
    refine lv_aload_n hx hb dX13_find_10 rfl (lv_at hl 1 rfl) ?_
    refine pg_get (ci := 13) (v := .ref tx) (C := RX13) (T := TX13) (N := 5) hx hb hts it_13 hown hK hP hL_h0 hF0 rfl 0 (by decide) (hts _ kt_824) (fun _ h9 => h9) rfl dX13_find_11 ?_
    obtain ⟨hi_15, ht_16, hq_17⟩ := hW.txt hL_tx hT_tx
    obtain ⟨z_18, hF_19, hq_20⟩ := hO.txt hL_tx hT_tx
    refine pg_get (ci := 14) (v := .ref tbx) (C := RX14) (T := TX14) (N := 2) hx hb hts it_14 hown hK hP hL_tx hF_19 rfl 0 (by decide) (hts _ kt_825) (fun _ h9 => h9) rfl dX13_find_14 ?_
    refine lv_aload_n hx hb dX13_find_17 rfl (lv_at hl 1 rfl) ?_
    refine pg_get (ci := 13) (v := .ref y0) (C := RX13) (T := TX13) (N := 5) hx hb hts it_13 hown hK hP hL_h0 hF0 rfl 1 (by decide) (hts _ kt_826) (fun _ h9 => h9) rfl dX13_find_18 ?_
    refine lv_iload_n hx hb dX13_find_21 rfl (lv_at hl 0 rfl) ?_
    obtain ⟨f_21, hF_22, hq_23⟩ := hO.idb hi_4 ht_7
    refine pg_iald hx hb hK hP hi_4 0 hF_22 rfl (vp_in_nI (by omega) (by omega)) dX13_find_22 ?_
    obtain ⟨k_24, hk_25, ek_26⟩ := hq_23 ((nI j) : Int32).toNatClampNeg
    refine lv_topi (fun x_27 ex_27 => ?_)
    obtain rfl : x_27 = nI k_24 := ex_27.trans ek_26
    refine lv_aload_n hx hb dX13_find_23 rfl (lv_at hl 1 rfl) ?_
    refine pg_get (ci := 13) (v := .ref y1) (C := RX13) (T := TX13) (N := 5) hx hb hts it_13 hown hK hP hL_h0 hF0 rfl 2 (by decide) (hts _ kt_827) (fun _ h9 => h9) rfl dX13_find_24 ?_
    refine lv_iload_n hx hb dX13_find_27 rfl (lv_at hl 0 rfl) ?_
    obtain ⟨f_28, hF_29, hq_30⟩ := hO.idb hi_5 ht_8
    refine pg_iald hx hb hK hP hi_5 0 hF_29 rfl (vp_in_nI (by omega) (by omega)) dX13_find_28 ?_
    obtain ⟨k_31, hk_32, ek_33⟩ := hq_30 ((nI j) : Int32).toNatClampNeg
    refine lv_topi (fun x_34 ex_34 => ?_)
    obtain rfl : x_34 = nI k_31 := ex_34.trans ek_33
    refine lv_aload_n hx hb dX13_find_29 rfl (lv_at hl 2 rfl) ?_
    have hg0 := gA_of hF_22 ek_26 (by omega)
    have hg1 := gA_of hF_29 ek_33 (by omega)
    obtain ⟨hq_35, hq_36⟩ := hW.octs hi_15 ht_16
    have hFc := pg_free hD hS hA
    refine va_calli (va_runSN (As := [.ref tbx, .int (nI k_24), .int (nI k_31), .ref q]) (rest := []) ⟨hx, hb, hml, hown, hts⟩ (s_X15_is l dC dI cs ty gm L H.size F tbx (ρ + 1) n q v k0 C k_24 k_31 hW hi_15 ht_16 (by first | omega | assumption | exact Or.inl rfl) (by first | omega | assumption | exact Or.inl rfl)) ⟨va_cnB 4 hts (gi kt_694) rfl rfl rfl (hE.nestw kn_41) (hts _ kt_669) (by decide +kernel) ⟨Nat.le_of_ble_eq_true rfl, Nat.le_of_ble_eq_true rfl⟩, (hts _ kt_696), trivial⟩ ⟨fun a U g mk q => ⟨q.1, PTEm.calling q.2⟩, fun U hU hWm => ⟨rfl, PTEm.mk hU hWm hP hK hD hE hO hG (fun x hx => by rw [List.mem_singleton] at hx; subst hx; exact hX_q) hS hFc⟩⟩ rfl rfl hl.1 rfl (lv_room (Nat.le_of_ble_eq_true rfl)) dX13_find_30 ⟨by show _ + 0 ≤ 0; omega, by show _ + 0 ≤ 0; omega⟩) hS (fun q _ h => hFc q h) hFc (fun r_37 u t H1 locs ht hvm hw hB hz1 hk1 hS => ?_)
    obtain ⟨F_38, hB1⟩ := hB
    obtain rfl : F = F_38 := (funext (fun a => hB1.2.2.2 a List.not_mem_nil)).symm
    obtain ⟨hP, hD, hO, hR⟩ := QTm.back hB1 ht hFc hR (fun q h => absurd h List.not_mem_nil)
    generalize H1 = H at hP hS ⊢
    have hw : ((r_37 = 1 ∧ isP (gA (F tbx)) k_24 k_31 C k0) ∨ (r_37 = 0 ∧ ¬ isP (gA (F tbx)) k_24 k_31 C k0)) := hw
    have hw_39 := hw
    refine lv_if_eq (tgt := 38) hx hb dX13_find_33 (by decide) (fun c_40 => ?_) (fun c_40 => ?_)
    ·
      refine lv_iinc (v := (nI (j + 1))) (lv' := [(2, .int (nI (j + 1))), (0, .ref h0), (1, .ref q)]) hx hb dX13_find_38 hl (k := 0) rfl (nI_1 _) (by decide) rfl (fun ls hl => ?_)
      refine lv_goto (tgt := 2) hx hb dX13_find_41 (by decide) ?_
      refine W.widen (k := 0) (n := 0) (by omega) (by omega) ?_
      exact ih_3 (j + 1) F (⟨by omega, all_step hv2 (fun h => nm0 hw_39 c_40 ((tagP_eq hg0 hg1 (by omega) (by omega)).mp h))⟩) (by show 40 - (j + 1) < 40 - j; omega) hO hR _ _ hP hD hS ls (lv_sub hl [0, 1, 2] rfl)
    ·
      refine lv_iload_n hx hb dX13_find_36 rfl (lv_at hl 0 rfl) ?_
      refine W.widen (k := 0) (n := 0) (by omega) (by omega) ?_
      exact W.iret (v := (nI j)) hx hb hr (fun t ht hWm => ⟨⟨(nI j), (), rfl, (Or.inr ⟨j, by omega, rfl, (tagP_eq hg0 hg1 (by omega) (by omega)).mpr (nm1 hw_39 c_40), hv2⟩), ⟨F, QTm.mk ht hP hD hO hR⟩⟩, hS.F ht⟩) hS.2.2 dX13_find_37
set_option maxHeartbeats 4000000 in
set_option maxRecDepth 100000 in
theorem s_X13_has (l : Launch) (dC : Nat → ClassId) (dI : Nat → Nat → Nat) (cs : Nat → ClassId) (ty : TyM) (gm : Nat → Nat → Nat) (L : List Nat) (sz : Nat) (F : Nat → va_E) (h0 : Nat) (ρ : Nat) (tx : Nat) (n : Nat) (Bn : Nat) (y0 : Nat) (y1 : Nat) (y2 : Nat) (tbx : Nat) (z : Nat) (q : Nat) (v : Nat) (k0 : Nat) (C : Nat → Int32) (q2 : Nat) (v2 : Nat) (k2 : Nat) (C2 : Nat → Int32) (hW : WTm ty gm L) (hL_h0 : h0 ∈ L) (hT_h0 : ty h0 = (13, ρ, [tx, n, Bn, y0, y1, y2])) (hL_tx : tx ∈ L) (hT_tx : ty tx = (14, ρ + 1, [tbx, n])) (hF0 : F h0 = .inr (13, [.ref tx, .ref y0, .ref y1, .ref y2, .int (nI z)])) (hz40 : z ≤ 40) : Met l yX13_has (.code yX13_has cX13_has 4 (some .boolean) :: tb) ({ frames := 6, cells := 0, slots := 0, locals := 131 }) (va_Pc [.ref h0, .ref q, .ref q2] (PTEm (dC, dI) cs ty gm L F sz [(q, v, k0, C), (q2, v2, k2, C2)])) (va_Qi (fun (r : Int32) (_ : Unit) => (r = 0 ∨ r = 1)) (fun _ T9 => ∃ F2 : Nat → va_E, QTm (dC, dI) cs ty gm L [] F F2 (va_A (va_pl L F) sz) T9) (va_A (va_pl L F) sz)) 0 0 (va_A (va_pl L F) sz) := by
  refine Met.ofW (cc := cX13_has) (maxL := 4) (ret := (some .boolean)) (by decide) rfl ?_
  intro p e s m args below meth c s₁ B hml hv
  obtain ⟨rfl, ⟨hsz, hP, hK, hD0, hE, hO⟩, hG, hX⟩ := hv
  have hx := B.exec
  have hb := B.bytes
  have hr := B.returns
  have hts : ∀ w ∈ tb, w.before _ s = true := fun w h => atoms_spec (ws := .code yX13_has cX13_has 4 (some .boolean) :: tb) B.pre w (List.mem_cons_of_mem _ h)
  have hown : s.vm.findClass RX13 = some m.cls := findClass_of_methodNamed B.named
  have hlocks := B.notSynchronized
  subst hsz
  have hD := hD0.self (sz := s.heap.size)
  generalize hAe : va_A (va_pl L F) s.heap.size = A at hD hG hX ⊢
  have hX_q : SXc q v k0 C A s s.heap := hX (q, v, k0, C) (by simp)
  obtain ⟨xo_q, xc_q, xv_q, xt_q, xn_q⟩ := id hX_q
  have hX_q2 : SXc q2 v2 k2 C2 A s s.heap := hX (q2, v2, k2, C2) (by simp)
  obtain ⟨xo_q2, xc_q2, xv_q2, xt_q2, xn_q2⟩ := id hX_q2
  have hA : ∀ q : Nat, s.heap.size ≤ q → A q := fun q h => by rw [← hAe]; exact Or.inr h
  have hS : va_S A s.heap s.heap [] := va_S.rf
  have hR : FR ty [] F F := FR.refl
  have hl := lv_entry ([.ref h0, .ref q, .ref q2]) (n := 4) (Nat.le_of_ble_eq_true rfl)
  rw [lg_entry_eq]
  generalize (lg_sl ([.ref h0, .ref q, .ref q2]) ++ List.replicate (4 - (lg_sl ([.ref h0, .ref q, .ref q2])).length) Slot.unset).toArray = ls at hl ⊢
  have hl : lv_has ls 4 [(0, .ref h0), (1, .ref q), (2, .ref q2)] := hl
  refine lv_aload_n hx hb dX13_has_0 rfl (lv_at hl 0 rfl) ?_
  refine lv_aload_n hx hb dX13_has_1 rfl (lv_at hl 1 rfl) ?_
  obtain ⟨_, hi_1, hi_2, hi_3, _, ht_4, ht_5, ht_6, hq_7, hq_8⟩ := hW.tags hL_h0 hT_h0
  obtain ⟨hi_9, ht_10, hq_11⟩ := hW.txt hL_tx hT_tx
  have hFc := pg_free hD hS hA
  refine va_calli (va_runV (As := [.ref q]) (rest := []) ⟨hx, hb, hml, hown, hts⟩ (s_X13_find l dC dI cs ty gm L s.heap.size F h0 ρ tx n Bn y0 y1 y2 tbx z q v k0 C hW hL_h0 hT_h0 hL_tx hT_tx hF0 (by first | omega | assumption | exact Or.inl rfl)) ⟨callB_of 1 hts (gi kt_828) rfl rfl rfl (hts _ kt_829) (hts _ kt_830) (by decide +kernel) ⟨Nat.le_of_ble_eq_true rfl, Nat.le_of_ble_eq_true rfl⟩, (hts _ kt_831), (hts _ kt_832)⟩ ⟨fun a U g mk q => ⟨q.1, PTEm.calling q.2⟩, pg_recv hK hP hL_h0 hF0 (q := (RX13, TX13, 5)) rfl, fun U hU hWm => ⟨rfl, PTEm.mk hU hWm hP hK hD hE hO hG (fun x hx => by rw [List.mem_singleton] at hx; subst hx; exact hX_q) hS hFc⟩⟩ rfl rfl hl.1 rfl (lv_room (Nat.le_of_ble_eq_true rfl)) dX13_has_2 ⟨by show _ + 0 ≤ 0; omega, by show _ + 0 ≤ 0; omega⟩) hS (fun q _ h => hFc q h) hFc (fun r_12 u t H1 locs ht hvm hw hB hz1 hk1 hS => ?_)
  obtain ⟨F_13, hB1⟩ := hB
  obtain rfl : F = F_13 := (funext (fun a => hB1.2.2.2 a List.not_mem_nil)).symm
  obtain ⟨hP, hD, hO, hR⟩ := QTm.back hB1 ht hFc hR (fun q h => absurd h List.not_mem_nil)
  generalize H1 = H at hP hS ⊢
  have hw : FND (gA (F tbx)) (gA (F y0)) (gA (F y1)) z C k0 r_12 := hw
  have hw_14 := hw
  refine lv_istore_n (lv' := [(3, .int r_12), (0, .ref h0), (1, .ref q), (2, .ref q2)]) hx hb dX13_has_5 rfl hl (by decide) rfl (fun ls hl => ?_)
  refine lv_iload_n hx hb dX13_has_6 rfl (lv_at hl 0 rfl) ?_
  refine lv_if_lt (tgt := 42) hx hb dX13_has_7 (by decide) (fun c_15 => ?_) (fun c_15 => ?_)
  ·
    refine lv_iconst (v := 0) hx hb dX13_has_42 (by decide) ?_
    refine W.widen (k := 0) (n := 0) (by omega) (by omega) ?_
    exact W.zret (v := 0) (ty := .boolean) hx hb hr (by decide) (fun t ht hWm => ⟨⟨0, (), rfl, (by first | exact Or.inl rfl | exact Or.inr rfl), ⟨F, QTm.mk ht hP hD hO hR⟩⟩, hS.F ht⟩) hS.2.2 dX13_has_43
  ·
    obtain ⟨kf_16, hkf_16, ekf_16⟩ := FND.pos hw_14 c_15
    subst ekf_16
    refine lv_aload_n hx hb dX13_has_10 rfl (lv_at hl 1 rfl) ?_
    refine pg_get (ci := 13) (v := .ref tx) (C := RX13) (T := TX13) (N := 5) hx hb hts it_13 hown hK hP hL_h0 hF0 rfl 0 (by decide) (hts _ kt_824) (fun _ h9 => h9) rfl dX13_has_11 ?_
    obtain ⟨z_17, hF_18, hq_19⟩ := hO.txt hL_tx hT_tx
    refine pg_get (ci := 14) (v := .ref tbx) (C := RX14) (T := TX14) (N := 2) hx hb hts it_14 hown hK hP hL_tx hF_18 rfl 0 (by decide) (hts _ kt_825) (fun _ h9 => h9) rfl dX13_has_14 ?_
    refine lv_aload_n hx hb dX13_has_17 rfl (lv_at hl 1 rfl) ?_
    refine pg_get (ci := 13) (v := .ref y1) (C := RX13) (T := TX13) (N := 5) hx hb hts it_13 hown hK hP hL_h0 hF0 rfl 2 (by decide) (hts _ kt_827) (fun _ h9 => h9) rfl dX13_has_18 ?_
    refine lv_iload_n hx hb dX13_has_21 rfl (lv_at hl 0 rfl) ?_
    obtain ⟨f_20, hF_21, hq_22⟩ := hO.idb hi_2 ht_5
    refine pg_iald hx hb hK hP hi_2 0 hF_21 rfl (vp_in_nI (by omega) (by omega)) dX13_has_22 ?_
    obtain ⟨k_23, hk_24, ek_25⟩ := hq_22 ((nI kf_16) : Int32).toNatClampNeg
    refine lv_topi (fun x_26 ex_26 => ?_)
    obtain rfl : x_26 = nI k_23 := ex_26.trans ek_25
    refine lv_iconst (v := 1) hx hb dX13_has_23 (by decide) ?_
    refine lv_iadd hx hb dX13_has_24 ?_
    refine lv_topi (fun x_27 ex_27 => ?_)
    obtain rfl : x_27 = (nI (k_23 + 1)) := ex_27.trans (nI_add k_23 1)
    refine lv_aload_n hx hb dX13_has_25 rfl (lv_at hl 1 rfl) ?_
    refine pg_get (ci := 13) (v := .ref y2) (C := RX13) (T := TX13) (N := 5) hx hb hts it_13 hown hK hP hL_h0 hF0 rfl 3 (by decide) (hts _ kt_833) (fun _ h9 => h9) rfl dX13_has_26 ?_
    refine lv_iload_n hx hb dX13_has_29 rfl (lv_at hl 0 rfl) ?_
    obtain ⟨f_28, hF_29, hq_30⟩ := hO.idb hi_3 ht_6
    refine pg_iald hx hb hK hP hi_3 0 hF_29 rfl (vp_in_nI (by omega) (by omega)) dX13_has_30 ?_
    obtain ⟨k_31, hk_32, ek_33⟩ := hq_30 ((nI kf_16) : Int32).toNatClampNeg
    refine lv_topi (fun x_34 ex_34 => ?_)
    obtain rfl : x_34 = nI k_31 := ex_34.trans ek_33
    refine lv_aload_n hx hb dX13_has_31 rfl (lv_at hl 3 rfl) ?_
    obtain ⟨hq_35, hq_36⟩ := hW.octs hi_9 ht_10
    have hFc := pg_free hD hS hA
    refine va_calli (va_runSN (As := [.ref tbx, .int (nI (k_23 + 1)), .int (nI k_31), .ref q2]) (rest := []) ⟨hx, hb, hml, hown, hts⟩ (s_X15_is l dC dI cs ty gm L H.size F tbx (ρ + 1) n q2 v2 k2 C2 (k_23 + 1) k_31 hW hi_9 ht_10 (by first | omega | assumption | exact Or.inl rfl) (by first | omega | assumption | exact Or.inl rfl)) ⟨va_cnB 4 hts (gi kt_694) rfl rfl rfl (hE.nestw kn_41) (hts _ kt_669) (by decide +kernel) ⟨Nat.le_of_ble_eq_true rfl, Nat.le_of_ble_eq_true rfl⟩, (hts _ kt_696), trivial⟩ ⟨fun a U g mk q => ⟨q.1, PTEm.calling q.2⟩, fun U hU hWm => ⟨rfl, PTEm.mk hU hWm hP hK hD hE hO hG (fun x hx => by rw [List.mem_singleton] at hx; subst hx; exact hX_q2) hS hFc⟩⟩ rfl rfl hl.1 rfl (lv_room (Nat.le_of_ble_eq_true rfl)) dX13_has_32 ⟨by show _ + 0 ≤ 0; omega, by show _ + 0 ≤ 0; omega⟩) hS (fun q _ h => hFc q h) hFc (fun r_37 u t H1 locs ht hvm hw hB hz1 hk1 hS => ?_)
    obtain ⟨F_38, hB1⟩ := hB
    obtain rfl : F = F_38 := (funext (fun a => hB1.2.2.2 a List.not_mem_nil)).symm
    obtain ⟨hP, hD, hO, hR⟩ := QTm.back hB1 ht hFc hR (fun q h => absurd h List.not_mem_nil)
    generalize H1 = H at hP hS ⊢
    have hw : ((r_37 = 1 ∧ isP (gA (F tbx)) (k_23 + 1) k_31 C2 k2) ∨ (r_37 = 0 ∧ ¬ isP (gA (F tbx)) (k_23 + 1) k_31 C2 k2)) := hw
    have hw_39 := hw
    refine lv_if_eq (tgt := 42) hx hb dX13_has_35 (by decide) (fun c_40 => ?_) (fun c_40 => ?_)
    ·
      refine lv_iconst (v := 0) hx hb dX13_has_42 (by decide) ?_
      refine W.widen (k := 0) (n := 0) (by omega) (by omega) ?_
      exact W.zret (v := 0) (ty := .boolean) hx hb hr (by decide) (fun t ht hWm => ⟨⟨0, (), rfl, (by first | exact Or.inl rfl | exact Or.inr rfl), ⟨F, QTm.mk ht hP hD hO hR⟩⟩, hS.F ht⟩) hS.2.2 dX13_has_43
    ·
      refine lv_iconst (v := 1) hx hb dX13_has_38 (by decide) ?_
      refine lv_goto (tgt := 43) hx hb dX13_has_39 (by decide) ?_
      refine W.widen (k := 0) (n := 0) (by omega) (by omega) ?_
      exact W.zret (v := 1) (ty := .boolean) hx hb hr (by decide) (fun t ht hWm => ⟨⟨1, (), rfl, (by first | exact Or.inl rfl | exact Or.inr rfl), ⟨F, QTm.mk ht hP hD hO hR⟩⟩, hS.F ht⟩) hS.2.2 dX13_has_43
set_option maxHeartbeats 4000000 in
set_option maxRecDepth 100000 in
theorem s_X13_isSame (l : Launch) (dC : Nat → ClassId) (dI : Nat → Nat → Nat) (cs : Nat → ClassId) (ty : TyM) (gm : Nat → Nat → Nat) (L : List Nat) (sz : Nat) (F : Nat → va_E) (h0 : Nat) (ρ : Nat) (tx : Nat) (n : Nat) (Bn : Nat) (y0 : Nat) (y1 : Nat) (y2 : Nat) (tbx : Nat) (a : Nat) (b : Nat) (k : Nat) (hW : WTm ty gm L) (hL_h0 : h0 ∈ L) (hT_h0 : ty h0 = (13, ρ, [tx, n, Bn, y0, y1, y2])) (hL_tx : tx ∈ L) (hT_tx : ty tx = (14, ρ + 1, [tbx, n])) (ha : a + k ≤ n) (hb0 : b + k ≤ n) : Met l yX13_isSame (.code yX13_isSame cX13_isSame 5 (some .boolean) :: tb) ({ frames := 0, cells := 0, slots := 0, locals := 0 }) (va_Pc [.ref h0, .int (nI a), .int (nI b), .int (nI k)] (PTm (dC, dI) cs ty gm L F sz)) (va_Qi (fun (r : Int32) (_ : Unit) => (r = 0 ∨ r = 1)) (fun _ T9 => ∃ F2 : Nat → va_E, QTm (dC, dI) cs ty gm L [] F F2 (va_A (va_pl L F) sz) T9) (va_A (va_pl L F) sz)) 0 0 (va_A (va_pl L F) sz) := by
  refine Met.ofW (cc := cX13_isSame) (maxL := 5) (ret := (some .boolean)) (by decide) rfl ?_
  intro p e s m args below meth c s₁ B hml hv
  obtain ⟨rfl, hsz, hP, hK, hD0, hE, hO⟩ := hv
  have hx := B.exec
  have hb := B.bytes
  have hr := B.returns
  have hts : ∀ w ∈ tb, w.before _ s = true := fun w h => atoms_spec (ws := .code yX13_isSame cX13_isSame 5 (some .boolean) :: tb) B.pre w (List.mem_cons_of_mem _ h)
  have hown : s.vm.findClass RX13 = some m.cls := findClass_of_methodNamed B.named
  have hlocks := B.notSynchronized
  subst hsz
  have hD := hD0.self (sz := s.heap.size)
  generalize hAe : va_A (va_pl L F) s.heap.size = A at hD ⊢
  have hA : ∀ q : Nat, s.heap.size ≤ q → A q := fun q h => by rw [← hAe]; exact Or.inr h
  have hS : va_S A s.heap s.heap [] := va_S.rf
  have hR : FR ty [] F F := FR.refl
  have hl := lv_entry ([.ref h0, .int (nI a), .int (nI b), .int (nI k)]) (n := 5) (Nat.le_of_ble_eq_true rfl)
  rw [lg_entry_eq]
  generalize (lg_sl ([.ref h0, .int (nI a), .int (nI b), .int (nI k)]) ++ List.replicate (5 - (lg_sl ([.ref h0, .int (nI a), .int (nI b), .int (nI k)])).length) Slot.unset).toArray = ls at hl ⊢
  have hl : lv_has ls 5 [(0, .ref h0), (1, .int (nI a)), (2, .int (nI b)), (3, .int (nI k))] := hl
  obtain ⟨_, hi_1, hi_2, hi_3, _, ht_4, ht_5, ht_6, hq_7, hq_8⟩ := hW.tags hL_h0 hT_h0
  obtain ⟨hi_9, ht_10, hq_11⟩ := hW.txt hL_tx hT_tx
  refine lv_iconst (v := 0) hx hb dX13_isSame_0 (by decide) ?_
  refine lv_istore (lv' := [(4, .int 0), (0, .ref h0), (1, .int (nI a)), (2, .int (nI b)), (3, .int (nI k))]) hx hb dX13_isSame_1 hl (by decide) rfl (fun ls hl => ?_)
  refine W.widen (k := 0) (n := 0) (by omega) (by omega) ?_
  refine pl_loopm (σ := Nat) A (dC, dI) cs ty gm L [] F 3 5 (fun j => [(4, .int (nI j)), (0, .ref h0), (1, .int (nI a)), (2, .int (nI b)), (3, .int (nI k))]) (fun j => []) (fun j _ => j ≤ k) (fun j => k - j) ?_ 0 F (by omega) hO hR _ _ hP hD hS ls (lv_sub hl [0, 1, 2, 3, 4] rfl)
  rintro j F_12 hv_13 hO hR ih_14 H locs hP hD hS ls hl
  have hl : lv_has ls 5 [(4, .int (nI j)), (0, .ref h0), (1, .int (nI a)), (2, .int (nI b)), (3, .int (nI k))] := hl
  have hv_13 : j ≤ k := hv_13
  refine W.eq (g2 := F0 m 3 ls []) rfl ?_
  obtain rfl : F = F_12 := (funext (fun a => hR a List.not_mem_nil)).symm
  refine lv_iload hx hb dX13_isSame_3 (lv_at hl 0 rfl) ?_
  refine lv_iload_n hx hb dX13_isSame_5 rfl (lv_at hl 4 rfl) ?_
  refine lv_icmp_ge (tgt := 44) hx hb dX13_isSame_6 (by decide) (fun c_15 => ?_) (fun c_15 => ?_)
  ·
    have hi_16 : k ≤ j := leN (N := k) c_15
    refine lv_iconst (v := 1) hx hb dX13_isSame_44 (by decide) ?_
    refine W.widen (k := 0) (n := 0) (by omega) (by omega) ?_
    exact W.zret (v := 1) (ty := .boolean) hx hb hr (by decide) (fun t ht hWm => ⟨⟨1, (), rfl, (by first | exact Or.inl rfl | exact Or.inr rfl), ⟨F, QTm.mk ht hP hD hO hR⟩⟩, hS.F ht⟩) hS.2.2 dX13_isSame_45
  ·
    have hi_17 : j < k := ltN (N := k) c_15
    refine lv_aload_n hx hb dX13_isSame_9 rfl (lv_at hl 1 rfl) ?_
    obtain ⟨z_18, hF_19, hq_20⟩ := hO.tags hL_h0 hT_h0
    refine pg_get (ci := 13) (v := .ref tx) (C := RX13) (T := TX13) (N := 5) hx hb hts it_13 hown hK hP hL_h0 hF_19 rfl 0 (by decide) (hts _ kt_824) (fun _ h9 => h9) rfl dX13_isSame_10 ?_
    obtain ⟨z_21, hF_22, hq_23⟩ := hO.txt hL_tx hT_tx
    refine pg_get (ci := 14) (v := .ref tbx) (C := RX14) (T := TX14) (N := 2) hx hb hts it_14 hown hK hP hL_tx hF_22 rfl 0 (by decide) (hts _ kt_825) (fun _ h9 => h9) rfl dX13_isSame_13 ?_
    refine lv_iload_n hx hb dX13_isSame_16 rfl (lv_at hl 2 rfl) ?_
    refine lv_iload hx hb dX13_isSame_17 (lv_at hl 0 rfl) ?_
    refine lv_iadd hx hb dX13_isSame_19 ?_
    refine lv_topi (fun x_24 ex_24 => ?_)
    obtain rfl : x_24 = (nI (a + j)) := ex_24.trans (nI_add a j)
    obtain ⟨hq_25, hq_26⟩ := hW.octs hi_9 ht_10
    obtain ⟨f_27, hF_28, hq_29⟩ := hO.octs hi_9 ht_10
    refine pg_bald hx hb hK hP hi_9 1 hF_28 rfl (vp_in_nI (by omega) (by omega)) dX13_isSame_20 ?_
    refine lv_topi (fun x_30 ex_30 => ?_)
    obtain rfl : x_30 = f_27 (a + j) := ex_30.trans (congrArg f_27 (show ((nI (a + j)) : Int32).toNatClampNeg = (a + j) from nI_clamp (by omega)))
    refine lv_aload_n hx hb dX13_isSame_21 rfl (lv_at hl 1 rfl) ?_
    refine pg_get (ci := 13) (v := .ref tx) (C := RX13) (T := TX13) (N := 5) hx hb hts it_13 hown hK hP hL_h0 hF_19 rfl 0 (by decide) (hts _ kt_824) (fun _ h9 => h9) rfl dX13_isSame_22 ?_
    refine pg_get (ci := 14) (v := .ref tbx) (C := RX14) (T := TX14) (N := 2) hx hb hts it_14 hown hK hP hL_tx hF_22 rfl 0 (by decide) (hts _ kt_825) (fun _ h9 => h9) rfl dX13_isSame_25 ?_
    refine lv_iload_n hx hb dX13_isSame_28 rfl (lv_at hl 3 rfl) ?_
    refine lv_iload hx hb dX13_isSame_29 (lv_at hl 0 rfl) ?_
    refine lv_iadd hx hb dX13_isSame_31 ?_
    refine lv_topi (fun x_31 ex_31 => ?_)
    obtain rfl : x_31 = (nI (b + j)) := ex_31.trans (nI_add b j)
    refine pg_bald hx hb hK hP hi_9 1 hF_28 rfl (vp_in_nI (by omega) (by omega)) dX13_isSame_32 ?_
    refine lv_topi (fun x_32 ex_32 => ?_)
    obtain rfl : x_32 = f_27 (b + j) := ex_32.trans (congrArg f_27 (show ((nI (b + j)) : Int32).toNatClampNeg = (b + j) from nI_clamp (by omega)))
    refine lv_icmp_eq (tgt := 38) hx hb dX13_isSame_33 (by decide) (fun c_33 => ?_) (fun c_33 => ?_)
    ·
      refine lv_iinc (v := (nI (j + 1))) (lv' := [(4, .int (nI (j + 1))), (0, .ref h0), (1, .int (nI a)), (2, .int (nI b)), (3, .int (nI k))]) hx hb dX13_isSame_38 hl (k := 0) rfl (nI_1 _) (by decide) rfl (fun ls hl => ?_)
      refine lv_goto (tgt := 3) hx hb dX13_isSame_41 (by decide) ?_
      refine W.widen (k := 0) (n := 0) (by omega) (by omega) ?_
      exact ih_14 (j + 1) F (by first | omega | exact ⟨by omega, by omega⟩ | trivial) (by show k - (j + 1) < k - j; omega) hO hR _ _ hP hD hS ls (lv_sub hl [0, 1, 2, 3, 4] rfl)
    ·
      refine lv_iconst (v := 0) hx hb dX13_isSame_36 (by decide) ?_
      refine W.widen (k := 0) (n := 0) (by omega) (by omega) ?_
      exact W.zret (v := 0) (ty := .boolean) hx hb hr (by decide) (fun t ht hWm => ⟨⟨0, (), rfl, (by first | exact Or.inl rfl | exact Or.inr rfl), ⟨F, QTm.mk ht hP hD hO hR⟩⟩, hS.F ht⟩) hS.2.2 dX13_isSame_37
set_option maxHeartbeats 4000000 in
set_option maxRecDepth 100000 in
theorem s_X13_read (l : Launch) (dC : Nat → ClassId) (dI : Nat → Nat → Nat) (cs : Nat → ClassId) (ty : TyM) (gm : Nat → Nat → Nat) (L : List Nat) (sz : Nat) (F : Nat → va_E) (h0 : Nat) (ρ : Nat) (tx : Nat) (n : Nat) (Bn : Nat) (y0 : Nat) (y1 : Nat) (y2 : Nat) (tbx : Nat) (zx : Nat) (x1 : Int32) (hW : WTm ty gm L) (hL_h0 : h0 ∈ L) (hT_h0 : ty h0 = (13, ρ, [tx, n, Bn, y0, y1, y2])) (hL_tx : tx ∈ L) (hT_tx : ty tx = (14, ρ + 1, [tbx, n])) (hFx : F tx = .inr (14, [.ref tbx, .int (nI zx)])) (hzB : zx ≤ Bn) : Met l yX13_read (.code yX13_read cX13_read 6 (some .boolean) :: tb) ({ frames := 1, cells := 0, slots := 0, locals := 25 }) (va_Pc [.ref h0, .int x1] (PTm (dC, dI) cs ty gm L F sz)) (va_Qi (fun (r : Int32) (_ : Unit) => (r = 0 ∨ r = 1)) (fun _ T9 => ∃ F2 : Nat → va_E, ∃ z2 : Nat, QTm (dC, dI) cs ty gm L [ρ, ρ + 70, ρ + 71] F F2 (va_A (va_pl L F) sz) T9 ∧ F2 h0 = .inr (13, [.ref tx, .ref y0, .ref y1, .ref y2, .int (nI z2)]) ∧ z2 ≤ 40) (va_A (va_pl L F) sz)) 0 0 (va_A (va_pl L F) sz) := by
  refine Met.ofW (cc := cX13_read) (maxL := 6) (ret := (some .boolean)) (by decide) rfl ?_
  intro p e s m args below meth c s₁ B hml hv
  obtain ⟨rfl, hsz, hP, hK, hD0, hE, hO⟩ := hv
  have hx := B.exec
  have hb := B.bytes
  have hr := B.returns
  have hts : ∀ w ∈ tb, w.before _ s = true := fun w h => atoms_spec (ws := .code yX13_read cX13_read 6 (some .boolean) :: tb) B.pre w (List.mem_cons_of_mem _ h)
  have hown : s.vm.findClass RX13 = some m.cls := findClass_of_methodNamed B.named
  have hlocks := B.notSynchronized
  subst hsz
  have hD := hD0.self (sz := s.heap.size)
  generalize hAe : va_A (va_pl L F) s.heap.size = A at hD ⊢
  have hA : ∀ q : Nat, s.heap.size ≤ q → A q := fun q h => by rw [← hAe]; exact Or.inr h
  have hS : va_S A s.heap s.heap [] := va_S.rf
  have hR : FR ty [ρ, ρ + 70, ρ + 71] F F := FR.refl
  have hl := lv_entry ([.ref h0, .int x1]) (n := 6) (Nat.le_of_ble_eq_true rfl)
  rw [lg_entry_eq]
  generalize (lg_sl ([.ref h0, .int x1]) ++ List.replicate (6 - (lg_sl ([.ref h0, .int x1])).length) Slot.unset).toArray = ls at hl ⊢
  have hl : lv_has ls 6 [(0, .ref h0), (1, .int x1)] := hl
  obtain ⟨_, hi_1, hi_2, hi_3, _, ht_4, ht_5, ht_6, hq_7, hq_8⟩ := hW.tags hL_h0 hT_h0
  obtain ⟨hi_9, ht_10, hq_11⟩ := hW.txt hL_tx hT_tx
  refine lv_aload_n hx hb dX13_read_0 rfl (lv_at hl 0 rfl) ?_
  refine lv_iconst (v := 0) hx hb dX13_read_1 (by decide) ?_
  obtain ⟨z_12, hF_13, hq_14⟩ := hO.tags hL_h0 hT_h0
  refine pg_put (ci := 13) (v := .int 0) (ty := .int) (C := RX13) (T := TX13) (N := 5) hx hb hts it_13 tyX13 tyX13_ok nmX13 hown hK hP hD hS hL_h0 hF_13 rfl 4 (by decide) (hts _ kt_823) (fun _ h9 => h9) rfl (by decide +kernel) (rfl) (rfl) (Nat.le_of_ble_eq_true rfl) dX13_read_2 (fun H locs hP hD hS => ?_)
  obtain ⟨F_15, he_16, hP, hD, hO, hR⟩ : ∃ G, G = va_up F h0 (.inr (13, [.ref tx, .ref y0, .ref y1, .ref y2, .int 0])) ∧ va_P (dC, dI) vwCl (va_pl L G) H ∧ va_D A (va_pl L G) ∧ OKm cs ty gm L G ∧ FR ty [ρ, ρ + 70, ρ + 71] F G := ⟨_, rfl, hP, hD, hO.up (shm.tags hT_h0 ⟨0, rfl, (by first | omega | assumption | exact Or.inl rfl | exact Or.inr rfl)⟩), hR.up hT_h0 (by simp)⟩
  have hF_17 : F_15 h0 = .inr (13, [.ref tx, .ref y0, .ref y1, .ref y2, .int 0]) := by rw [he_16]; exact up_self
  have hF_18 : F_15 tx = .inr (14, [.ref tbx, .int (nI zx)]) := by rw [he_16, up_ne (ne_ty hT_tx hT_h0 (by simp))]; exact hFx
  refine lv_iconst (v := 0) hx hb dX13_read_5 (by decide) ?_
  refine lv_istore_n (lv' := [(2, .int 0), (0, .ref h0), (1, .int x1)]) hx hb dX13_read_6 rfl hl (by decide) rfl (fun ls hl => ?_)
  refine W.widen (k := 0) (n := 0) (by omega) (by omega) ?_
  have hF_20 : F tx = .inr (14, [.ref tbx, .int (nI zx)]) := (hR tx (by rw [hT_tx]; simp)).symm.trans hF_18
  refine pl_loopm (σ := Nat × Nat) A (dC, dI) cs ty gm L [ρ, ρ + 70, ρ + 71] F 7 6 (fun (j, zz) => [(2, .int (nI j)), (0, .ref h0), (1, .int x1)]) (fun (j, zz) => []) (fun (j, zz) FF => j ≤ zx + 1 ∧ zz ≤ 40 ∧ FF h0 = .inr (13, [.ref tx, .ref y0, .ref y1, .ref y2, .int (nI zz)])) (fun (j, zz) => zx + 1 - j) ?_ (0, 0) F_15 (⟨by omega, by omega, hF_17⟩) hO hR _ _ hP hD hS ls (lv_sub hl [0, 1, 2] rfl)
  rintro ⟨j, zz⟩ F_19 hv_21 hO hR ih_22 H locs hP hD hS ls hl
  have hl : lv_has ls 6 [(2, .int (nI j)), (0, .ref h0), (1, .int x1)] := hl
  have hv_21 : j ≤ zx + 1 ∧ zz ≤ 40 ∧ F_19 h0 = .inr (13, [.ref tx, .ref y0, .ref y1, .ref y2, .int (nI zz)]) := hv_21
  refine W.eq (g2 := F0 m 7 ls []) rfl ?_
  have hF_23 : F_19 tx = .inr (14, [.ref tbx, .int (nI zx)]) := (hR tx (by rw [hT_tx]; simp)).trans hF_20
  obtain ⟨ha1, ha2, ha3⟩ := hv_21
  refine lv_iload_n hx hb dX13_read_7 rfl (lv_at hl 0 rfl) ?_
  refine lv_aload_n hx hb dX13_read_8 rfl (lv_at hl 1 rfl) ?_
  refine pg_get (ci := 13) (v := .ref tx) (C := RX13) (T := TX13) (N := 5) hx hb hts it_13 hown hK hP hL_h0 ha3 rfl 0 (by decide) (hts _ kt_824) (fun _ h9 => h9) rfl dX13_read_9 ?_
  refine pg_get (ci := 14) (v := .int (nI zx)) (C := RX14) (T := TX14) (N := 2) hx hb hts it_14 hown hK hP hL_tx hF_23 rfl 1 (by decide) (hts _ kt_834) (fun _ h9 => h9) rfl dX13_read_12 ?_
  refine lv_icmp_ge (tgt := 237) hx hb dX13_read_15 (by decide) (fun c_24 => ?_) (fun c_24 => ?_)
  ·
    have hi_25 : zx ≤ j := leN (N := zx) c_24
    refine lv_iconst (v := 1) hx hb dX13_read_237 (by decide) ?_
    refine W.widen (k := 0) (n := 0) (by omega) (by omega) ?_
    exact W.zret (v := 1) (ty := .boolean) hx hb hr (by decide) (fun t ht hWm => ⟨⟨1, (), rfl, (by first | exact Or.inl rfl | exact Or.inr rfl), ⟨F_19, zz, QTm.mk ht hP hD hO hR, ha3, by omega⟩⟩, hS.F ht⟩) hS.2.2 dX13_read_238
  ·
    have hi_26 : j < zx := ltN (N := zx) c_24
    refine lv_iload_n hx hb dX13_read_18 rfl (lv_at hl 0 rfl) ?_
    refine lv_istore_n (lv' := [(3, .int (nI j)), (2, .int (nI j)), (0, .ref h0), (1, .int x1)]) hx hb dX13_read_19 rfl hl (by decide) rfl (fun ls hl => ?_)
    refine lv_iload_n hx hb dX13_read_20 rfl (lv_at hl 1 rfl) ?_
    refine lv_istore (lv' := [(4, .int (nI j)), (3, .int (nI j)), (2, .int (nI j)), (0, .ref h0), (1, .int x1)]) hx hb dX13_read_21 hl (by decide) rfl (fun ls hl => ?_)
    refine W.widen (k := 0) (n := 0) (by omega) (by omega) ?_
    have hF_28 : F tx = .inr (14, [.ref tbx, .int (nI zx)]) := (hR tx (by rw [hT_tx]; simp)).symm.trans hF_23
    refine pl_loopm (σ := Nat) A (dC, dI) cs ty gm L [ρ, ρ + 70, ρ + 71] F 23 6 (fun i => [(4, .int (nI j)), (3, .int (nI i)), (2, .int (nI j)), (0, .ref h0), (1, .int x1)]) (fun i => []) (fun i FF => j ≤ i ∧ i ≤ zx ∧ FF h0 = .inr (13, [.ref tx, .ref y0, .ref y1, .ref y2, .int (nI zz)])) (fun i => zx - i) ?_ j F_19 (⟨by omega, by omega, ha3⟩) hO hR _ _ hP hD hS ls (lv_sub hl [0, 1, 2, 3, 4] rfl)
    rintro i F_27 hv_29 hO hR ih_30 H locs hP hD hS ls hl
    have hl : lv_has ls 6 [(4, .int (nI j)), (3, .int (nI i)), (2, .int (nI j)), (0, .ref h0), (1, .int x1)] := hl
    have hv_29 : j ≤ i ∧ i ≤ zx ∧ F_27 h0 = .inr (13, [.ref tx, .ref y0, .ref y1, .ref y2, .int (nI zz)]) := hv_29
    refine W.eq (g2 := F0 m 23 ls []) rfl ?_
    have hF_31 : F_27 tx = .inr (14, [.ref tbx, .int (nI zx)]) := (hR tx (by rw [hT_tx]; simp)).trans hF_28
    obtain ⟨hb1, hb2, hb3⟩ := hv_29
    refine lv_iload_n hx hb dX13_read_23 rfl (lv_at hl 1 rfl) ?_
    refine lv_aload_n hx hb dX13_read_24 rfl (lv_at hl 3 rfl) ?_
    refine pg_get (ci := 13) (v := .ref tx) (C := RX13) (T := TX13) (N := 5) hx hb hts it_13 hown hK hP hL_h0 hb3 rfl 0 (by decide) (hts _ kt_824) (fun _ h9 => h9) rfl dX13_read_25 ?_
    refine pg_get (ci := 14) (v := .int (nI zx)) (C := RX14) (T := TX14) (N := 2) hx hb hts it_14 hown hK hP hL_tx hF_31 rfl 1 (by decide) (hts _ kt_834) (fun _ h9 => h9) rfl dX13_read_28 ?_
    refine lv_icmp_ge (tgt := 54) hx hb dX13_read_31 (by decide) (fun c_32 => ?_) (fun c_32 => ?_)
    ·
      have hi_33 : zx ≤ i := leN (N := zx) c_32
      refine W.widen (k := 0) (n := 0) (by omega) (by omega) ?_
      have hF_35 : F tx = .inr (14, [.ref tbx, .int (nI zx)]) := (hR tx (by rw [hT_tx]; simp)).symm.trans hF_31
      refine pl_loopm (σ := Nat) A (dC, dI) cs ty gm L [ρ, ρ + 70, ρ + 71] F 54 6 (fun ee => [(4, .int (nI ee)), (3, .int (nI i)), (2, .int (nI j)), (0, .ref h0), (1, .int x1)]) (fun ee => []) (fun ee FF => j ≤ ee ∧ ee ≤ i ∧ FF h0 = .inr (13, [.ref tx, .ref y0, .ref y1, .ref y2, .int (nI zz)])) (fun ee => i - ee) ?_ j F_27 (⟨by omega, by omega, hb3⟩) hO hR _ _ hP hD hS ls (lv_sub hl [0, 1, 2, 3, 4] rfl)
      rintro ee F_34 hv_36 hO hR ih_37 H locs hP hD hS ls hl
      have hl : lv_has ls 6 [(4, .int (nI ee)), (3, .int (nI i)), (2, .int (nI j)), (0, .ref h0), (1, .int x1)] := hl
      have hv_36 : j ≤ ee ∧ ee ≤ i ∧ F_34 h0 = .inr (13, [.ref tx, .ref y0, .ref y1, .ref y2, .int (nI zz)]) := hv_36
      refine W.eq (g2 := F0 m 54 ls []) rfl ?_
      have hF_38 : F_34 tx = .inr (14, [.ref tbx, .int (nI zx)]) := (hR tx (by rw [hT_tx]; simp)).trans hF_35
      obtain ⟨hc1, hc2, hc3⟩ := hv_36
      refine lv_iload hx hb dX13_read_54 (lv_at hl 0 rfl) ?_
      refine lv_iload_n hx hb dX13_read_56 rfl (lv_at hl 1 rfl) ?_
      refine lv_icmp_ge (tgt := 82) hx hb dX13_read_57 (by decide) (fun c_39 => ?_) (fun c_39 => ?_)
      ·
        have hi_40 : i ≤ ee := leN (N := i) c_39
        refine lv_iload hx hb dX13_read_82 (lv_at hl 0 rfl) ?_
        refine lv_iload_n hx hb dX13_read_84 rfl (lv_at hl 2 rfl) ?_
        refine lv_isub hx hb dX13_read_85 ?_
        refine lv_topi (fun x_41 ex_41 => ?_)
        obtain rfl : x_41 = (nI (ee - j)) := ex_41.trans (pk_sub (a := ee) (b := j) (by omega))
        refine lv_i2l (v := (nI (ee - j)).toInt64) hx hb dX13_read_86 rfl ?_
        refine lv_lconst (v := 1) hx hb dX13_read_87 (by decide) ?_
        refine lv_iload_n hx hb dX13_read_88 rfl (lv_at hl 4 rfl) ?_
        refine lv_i2l (v := x1.toInt64) hx hb dX13_read_89 rfl ?_
        have hFc := pg_free hD hS hA
        refine va_calli (va_runSN (As := [.long ((nI (ee - j)).toInt64), .long 1, .long x1.toInt64]) (rest := []) ⟨hx, hb, hml, hown, hts⟩ (s_X15_in l dC dI cs ty gm L H.size F_34 ((nI (ee - j)).toInt64) 1 x1.toInt64 hW ) ⟨va_cnB 3 hts (gi kt_685) rfl rfl rfl (hE.nestw kn_42) (hts _ kt_669) (by decide +kernel) ⟨Nat.le_of_ble_eq_true rfl, Nat.le_of_ble_eq_true rfl⟩, (hts _ kt_686), trivial⟩ ⟨fun a U g mk q => ⟨q.1, PTm.calling q.2⟩, fun U hU hWm => ⟨rfl, PTm.mk hU hWm hP hK hD hE hO⟩⟩ rfl rfl hl.1 rfl (lv_room (Nat.le_of_ble_eq_true rfl)) dX13_read_90 ⟨by show _ + 0 ≤ 0; omega, by show _ + 0 ≤ 0; omega⟩) hS (fun q _ h => hFc q h) hFc (fun r_42 u t H1 locs ht hvm hw hB hz1 hk1 hS => ?_)
        obtain ⟨F_43, hB1⟩ := hB
        obtain rfl : F_34 = F_43 := (funext (fun a => hB1.2.2.2 a List.not_mem_nil)).symm
        obtain ⟨hP, hD, hO, hR⟩ := QTm.back hB1 ht hFc hR (fun q h => absurd h List.not_mem_nil)
        generalize H1 = H at hP hS ⊢
        have hw : r_42 = (if 1 ≤ (nI (ee - j)).toInt64 ∧ (nI (ee - j)).toInt64 ≤ x1.toInt64 then 1 else 0) := hw
        have hw_44 := hw
        refine lv_if_eq (tgt := 126) hx hb dX13_read_93 (by decide) (fun c_45 => ?_) (fun c_45 => ?_)
        ·
          refine lv_iconst (v := 0) hx hb dX13_read_126 (by decide) ?_
          refine W.widen (k := 0) (n := 0) (by omega) (by omega) ?_
          exact W.zret (v := 0) (ty := .boolean) hx hb hr (by decide) (fun t ht hWm => ⟨⟨0, (), rfl, (by first | exact Or.inl rfl | exact Or.inr rfl), ⟨F_34, zz, QTm.mk ht hP hD hO hR, hc3, by omega⟩⟩, hS.F ht⟩) hS.2.2 dX13_read_127
        ·
          refine lv_iload hx hb dX13_read_96 (lv_at hl 0 rfl) ?_
          refine lv_iload_n hx hb dX13_read_98 rfl (lv_at hl 1 rfl) ?_
          refine lv_icmp_eq (tgt := 126) hx hb dX13_read_99 (by decide) (fun c_46 => ?_) (fun c_46 => ?_)
          ·
            have hi_47 : ee = i := (nI_eq (a := ee) (b := i) (by omega) (by omega)).mp c_46
            refine lv_iconst (v := 0) hx hb dX13_read_126 (by decide) ?_
            refine W.widen (k := 0) (n := 0) (by omega) (by omega) ?_
            exact W.zret (v := 0) (ty := .boolean) hx hb hr (by decide) (fun t ht hWm => ⟨⟨0, (), rfl, (by first | exact Or.inl rfl | exact Or.inr rfl), ⟨F_34, zz, QTm.mk ht hP hD hO hR, hc3, by omega⟩⟩, hS.F ht⟩) hS.2.2 dX13_read_127
          ·
            have hi_48 : ee ≠ i := fun q => c_46 (by rw [q])
            refine lv_aload_n hx hb dX13_read_102 rfl (lv_at hl 3 rfl) ?_
            refine pg_get (ci := 13) (v := .ref tx) (C := RX13) (T := TX13) (N := 5) hx hb hts it_13 hown hK hP hL_h0 hc3 rfl 0 (by decide) (hts _ kt_824) (fun _ h9 => h9) rfl dX13_read_103 ?_
            refine pg_get (ci := 14) (v := .ref tbx) (C := RX14) (T := TX14) (N := 2) hx hb hts it_14 hown hK hP hL_tx hF_38 rfl 0 (by decide) (hts _ kt_825) (fun _ h9 => h9) rfl dX13_read_106 ?_
            refine lv_iload hx hb dX13_read_109 (lv_at hl 0 rfl) ?_
            obtain ⟨hq_49, hq_50⟩ := hW.octs hi_9 ht_10
            obtain ⟨f_51, hF_52, hq_53⟩ := hO.octs hi_9 ht_10
            refine pg_bald hx hb hK hP hi_9 1 hF_52 rfl (vp_in_nI (by omega) (by omega)) dX13_read_111 ?_
            refine lv_topi (fun x_54 ex_54 => ?_)
            obtain rfl : x_54 = f_51 ee := ex_54.trans (congrArg f_51 (show ((nI ee) : Int32).toNatClampNeg = ee from nI_clamp (by omega)))
            refine lv_bipush (v := 61) hx hb dX13_read_112 (by decide) ?_
            refine lv_icmp_ne (tgt := 126) hx hb dX13_read_114 (by decide) (fun c_55 => ?_) (fun c_55 => ?_)
            ·
              refine lv_iconst (v := 0) hx hb dX13_read_126 (by decide) ?_
              refine W.widen (k := 0) (n := 0) (by omega) (by omega) ?_
              exact W.zret (v := 0) (ty := .boolean) hx hb hr (by decide) (fun t ht hWm => ⟨⟨0, (), rfl, (by first | exact Or.inl rfl | exact Or.inr rfl), ⟨F_34, zz, QTm.mk ht hP hD hO hR, hc3, by omega⟩⟩, hS.F ht⟩) hS.2.2 dX13_read_127
            ·
              refine lv_aload_n hx hb dX13_read_117 rfl (lv_at hl 3 rfl) ?_
              refine pg_get (ci := 13) (v := .int (nI zz)) (C := RX13) (T := TX13) (N := 5) hx hb hts it_13 hown hK hP hL_h0 hc3 rfl 4 (by decide) (hts _ kt_823) (fun _ h9 => h9) rfl dX13_read_118 ?_
              refine lv_bipush (v := 40) hx hb dX13_read_121 (by decide) ?_
              refine lv_icmp_ne (tgt := 128) hx hb dX13_read_123 (by decide) (fun c_56 => ?_) (fun c_56 => ?_)
              ·
                have hi_57 : zz ≠ 40 := fun q => c_56 (by rw [q]; rfl)
                refine lv_iconst (v := 0) hx hb dX13_read_128 (by decide) ?_
                refine lv_istore (lv' := [(5, .int 0), (4, .int (nI ee)), (3, .int (nI i)), (2, .int (nI j)), (0, .ref h0), (1, .int x1)]) hx hb dX13_read_129 hl (by decide) rfl (fun ls hl => ?_)
                refine W.widen (k := 0) (n := 0) (by omega) (by omega) ?_
                have hF_59 : F tx = .inr (14, [.ref tbx, .int (nI zx)]) := (hR tx (by rw [hT_tx]; simp)).symm.trans hF_38
                have hF_60 : F tbx = .inl (cs 17, n, .inl f_51) := (hR tbx (by rw [ht_10]; simp)).symm.trans hF_52
                refine pl_loopm (σ := Nat) A (dC, dI) cs ty gm L [ρ, ρ + 70, ρ + 71] F 131 6 (fun kk => [(5, .int (nI kk)), (4, .int (nI ee)), (3, .int (nI i)), (2, .int (nI j)), (0, .ref h0), (1, .int x1)]) (fun kk => []) (fun kk FF => kk ≤ 40 ∧ FF h0 = .inr (13, [.ref tx, .ref y0, .ref y1, .ref y2, .int (nI zz)])) (fun kk => 40 - kk) ?_ 0 F_34 (⟨by omega, hc3⟩) hO hR _ _ hP hD hS ls (lv_sub hl [0, 1, 2, 3, 4, 5] rfl)
                rintro kk F_58 hv_61 hO hR ih_62 H locs hP hD hS ls hl
                have hl : lv_has ls 6 [(5, .int (nI kk)), (4, .int (nI ee)), (3, .int (nI i)), (2, .int (nI j)), (0, .ref h0), (1, .int x1)] := hl
                have hv_61 : kk ≤ 40 ∧ F_58 h0 = .inr (13, [.ref tx, .ref y0, .ref y1, .ref y2, .int (nI zz)]) := hv_61
                refine W.eq (g2 := F0 m 131 ls []) rfl ?_
                have hF_63 : F_58 tx = .inr (14, [.ref tbx, .int (nI zx)]) := (hR tx (by rw [hT_tx]; simp)).trans hF_59
                have hF_64 : F_58 tbx = .inl (cs 17, n, .inl f_51) := (hR tbx (by rw [ht_10]; simp)).trans hF_60
                obtain ⟨hd1, hd2⟩ := hv_61
                refine lv_iload hx hb dX13_read_131 (lv_at hl 0 rfl) ?_
                refine lv_aload_n hx hb dX13_read_133 rfl (lv_at hl 4 rfl) ?_
                refine pg_get (ci := 13) (v := .int (nI zz)) (C := RX13) (T := TX13) (N := 5) hx hb hts it_13 hown hK hP hL_h0 hd2 rfl 4 (by decide) (hts _ kt_823) (fun _ h9 => h9) rfl dX13_read_134 ?_
                refine lv_icmp_ge (tgt := 189) hx hb dX13_read_137 (by decide) (fun c_65 => ?_) (fun c_65 => ?_)
                ·
                  have hi_66 : zz ≤ kk := leN (N := zz) c_65
                  refine lv_aload_n hx hb dX13_read_189 rfl (lv_at hl 4 rfl) ?_
                  refine pg_get (ci := 13) (v := .ref y0) (C := RX13) (T := TX13) (N := 5) hx hb hts it_13 hown hK hP hL_h0 hd2 rfl 1 (by decide) (hts _ kt_826) (fun _ h9 => h9) rfl dX13_read_190 ?_
                  refine lv_aload_n hx hb dX13_read_193 rfl (lv_at hl 4 rfl) ?_
                  refine pg_get (ci := 13) (v := .int (nI zz)) (C := RX13) (T := TX13) (N := 5) hx hb hts it_13 hown hK hP hL_h0 hd2 rfl 4 (by decide) (hts _ kt_823) (fun _ h9 => h9) rfl dX13_read_194 ?_
                  refine lv_iload_n hx hb dX13_read_197 rfl (lv_at hl 3 rfl) ?_
                  obtain ⟨f_67, hF_68, hq_69⟩ := hO.idb hi_1 ht_4
                  refine pg_iast hx hb hK hP hD hS hi_1 0 hF_68 rfl (vp_in_nI (by omega) (by omega)) dX13_read_198 (fun H locs hP hD hS => ?_)
                  obtain ⟨F_70, he_71, hP, hD, hO, hR⟩ : ∃ G, G = va_up F_58 y0 (.inl (cs 16, 40, .inl (upd f_67 ((nI zz)).toNatClampNeg ((nI j))))) ∧ va_P (dC, dI) vwCl (va_pl L G) H ∧ va_D A (va_pl L G) ∧ OKm cs ty gm L G ∧ FR ty [ρ, ρ + 70, ρ + 71] F G := ⟨_, rfl, hP, hD, hO.up (shm.idb ht_4 ⟨_, rfl, ixb_upd hq_69 _ _ (by omega)⟩), hR.up ht_4 (by simp)⟩
                  have hF_72 : F_70 y0 = .inl (cs 16, 40, .inl (upd f_67 ((nI zz)).toNatClampNeg ((nI j)))) := by rw [he_71]; exact up_self
                  have hF_73 : F_70 tx = .inr (14, [.ref tbx, .int (nI zx)]) := by rw [he_71, up_ne (ne_ty hT_tx ht_4 (by simp))]; exact hF_63
                  have hF_74 : F_70 tbx = .inl (cs 17, n, .inl f_51) := by rw [he_71, up_ne (ne_ty ht_10 ht_4 (by simp))]; exact hF_64
                  have hF_75 : F_70 h0 = .inr (13, [.ref tx, .ref y0, .ref y1, .ref y2, .int (nI zz)]) := by rw [he_71, up_ne (ne_ty hT_h0 ht_4 (by simp))]; exact hd2
                  obtain ⟨f_76, hF_72, hq_77⟩ : ∃ f : Nat → Int32, F_70 y0 = .inl (cs 16, 40, .inl f) ∧ IXB Bn f := ⟨_, hF_72, ixb_upd hq_69 _ _ (by omega)⟩
                  refine lv_aload_n hx hb dX13_read_199 rfl (lv_at hl 4 rfl) ?_
                  refine pg_get (ci := 13) (v := .ref y1) (C := RX13) (T := TX13) (N := 5) hx hb hts it_13 hown hK hP hL_h0 hF_75 rfl 2 (by decide) (hts _ kt_827) (fun _ h9 => h9) rfl dX13_read_200 ?_
                  refine lv_aload_n hx hb dX13_read_203 rfl (lv_at hl 4 rfl) ?_
                  refine pg_get (ci := 13) (v := .int (nI zz)) (C := RX13) (T := TX13) (N := 5) hx hb hts it_13 hown hK hP hL_h0 hF_75 rfl 4 (by decide) (hts _ kt_823) (fun _ h9 => h9) rfl dX13_read_204 ?_
                  refine lv_iload hx hb dX13_read_207 (lv_at hl 1 rfl) ?_
                  obtain ⟨f_78, hF_79, hq_80⟩ := hO.idb hi_2 ht_5
                  refine pg_iast hx hb hK hP hD hS hi_2 0 hF_79 rfl (vp_in_nI (by omega) (by omega)) dX13_read_209 (fun H locs hP hD hS => ?_)
                  obtain ⟨F_81, he_82, hP, hD, hO, hR⟩ : ∃ G, G = va_up F_70 y1 (.inl (cs 16, 40, .inl (upd f_78 ((nI zz)).toNatClampNeg ((nI ee))))) ∧ va_P (dC, dI) vwCl (va_pl L G) H ∧ va_D A (va_pl L G) ∧ OKm cs ty gm L G ∧ FR ty [ρ, ρ + 70, ρ + 71] F G := ⟨_, rfl, hP, hD, hO.up (shm.idb ht_5 ⟨_, rfl, ixb_upd hq_80 _ _ (by omega)⟩), hR.up ht_5 (by simp)⟩
                  have hF_83 : F_81 y1 = .inl (cs 16, 40, .inl (upd f_78 ((nI zz)).toNatClampNeg ((nI ee)))) := by rw [he_82]; exact up_self
                  have hF_84 : F_81 y0 = .inl (cs 16, 40, .inl f_76) := by rw [he_82, up_ne (ne_ty2 ht_4 ht_5 (by simp))]; exact hF_72
                  have hF_85 : F_81 tx = .inr (14, [.ref tbx, .int (nI zx)]) := by rw [he_82, up_ne (ne_ty hT_tx ht_5 (by simp))]; exact hF_73
                  have hF_86 : F_81 tbx = .inl (cs 17, n, .inl f_51) := by rw [he_82, up_ne (ne_ty ht_10 ht_5 (by simp))]; exact hF_74
                  have hF_87 : F_81 h0 = .inr (13, [.ref tx, .ref y0, .ref y1, .ref y2, .int (nI zz)]) := by rw [he_82, up_ne (ne_ty hT_h0 ht_5 (by simp))]; exact hF_75
                  obtain ⟨f_88, hF_83, hq_89⟩ : ∃ f : Nat → Int32, F_81 y1 = .inl (cs 16, 40, .inl f) ∧ IXB Bn f := ⟨_, hF_83, ixb_upd hq_80 _ _ (by omega)⟩
                  refine lv_aload_n hx hb dX13_read_210 rfl (lv_at hl 4 rfl) ?_
                  refine pg_get (ci := 13) (v := .ref y2) (C := RX13) (T := TX13) (N := 5) hx hb hts it_13 hown hK hP hL_h0 hF_87 rfl 3 (by decide) (hts _ kt_833) (fun _ h9 => h9) rfl dX13_read_211 ?_
                  refine lv_aload_n hx hb dX13_read_214 rfl (lv_at hl 4 rfl) ?_
                  refine pg_get (ci := 13) (v := .int (nI zz)) (C := RX13) (T := TX13) (N := 5) hx hb hts it_13 hown hK hP hL_h0 hF_87 rfl 4 (by decide) (hts _ kt_823) (fun _ h9 => h9) rfl dX13_read_215 ?_
                  refine lv_iload_n hx hb dX13_read_218 rfl (lv_at hl 2 rfl) ?_
                  obtain ⟨f_90, hF_91, hq_92⟩ := hO.idb hi_3 ht_6
                  refine pg_iast hx hb hK hP hD hS hi_3 0 hF_91 rfl (vp_in_nI (by omega) (by omega)) dX13_read_219 (fun H locs hP hD hS => ?_)
                  obtain ⟨F_93, he_94, hP, hD, hO, hR⟩ : ∃ G, G = va_up F_81 y2 (.inl (cs 16, 40, .inl (upd f_90 ((nI zz)).toNatClampNeg ((nI i))))) ∧ va_P (dC, dI) vwCl (va_pl L G) H ∧ va_D A (va_pl L G) ∧ OKm cs ty gm L G ∧ FR ty [ρ, ρ + 70, ρ + 71] F G := ⟨_, rfl, hP, hD, hO.up (shm.idb ht_6 ⟨_, rfl, ixb_upd hq_92 _ _ (by omega)⟩), hR.up ht_6 (by simp)⟩
                  have hF_95 : F_93 y2 = .inl (cs 16, 40, .inl (upd f_90 ((nI zz)).toNatClampNeg ((nI i)))) := by rw [he_94]; exact up_self
                  have hF_96 : F_93 y1 = .inl (cs 16, 40, .inl f_88) := by rw [he_94, up_ne (ne_ty2 ht_5 ht_6 (by simp))]; exact hF_83
                  have hF_97 : F_93 y0 = .inl (cs 16, 40, .inl f_76) := by rw [he_94, up_ne (ne_ty2 ht_4 ht_6 (by simp))]; exact hF_84
                  have hF_98 : F_93 tx = .inr (14, [.ref tbx, .int (nI zx)]) := by rw [he_94, up_ne (ne_ty hT_tx ht_6 (by simp))]; exact hF_85
                  have hF_99 : F_93 tbx = .inl (cs 17, n, .inl f_51) := by rw [he_94, up_ne (ne_ty ht_10 ht_6 (by simp))]; exact hF_86
                  have hF_100 : F_93 h0 = .inr (13, [.ref tx, .ref y0, .ref y1, .ref y2, .int (nI zz)]) := by rw [he_94, up_ne (ne_ty hT_h0 ht_6 (by simp))]; exact hF_87
                  obtain ⟨f_101, hF_95, hq_102⟩ : ∃ f : Nat → Int32, F_93 y2 = .inl (cs 16, 40, .inl f) ∧ IXB Bn f := ⟨_, hF_95, ixb_upd hq_92 _ _ (by omega)⟩
                  refine lv_aload_n hx hb dX13_read_220 rfl (lv_at hl 4 rfl) ?_
                  refine lv_dup hx hb dX13_read_221 rfl ?_
                  refine pg_get (ci := 13) (v := .int (nI zz)) (C := RX13) (T := TX13) (N := 5) hx hb hts it_13 hown hK hP hL_h0 hF_100 rfl 4 (by decide) (hts _ kt_823) (fun _ h9 => h9) rfl dX13_read_222 ?_
                  refine lv_iconst (v := 1) hx hb dX13_read_225 (by decide) ?_
                  refine lv_iadd hx hb dX13_read_226 ?_
                  refine lv_topi (fun x_103 ex_103 => ?_)
                  obtain rfl : x_103 = (nI (zz + 1)) := ex_103.trans (nI_add zz 1)
                  refine pg_put (ci := 13) (v := .int (nI (zz + 1))) (ty := .int) (C := RX13) (T := TX13) (N := 5) hx hb hts it_13 tyX13 tyX13_ok nmX13 hown hK hP hD hS hL_h0 hF_100 rfl 4 (by decide) (hts _ kt_823) (fun _ h9 => h9) rfl (by decide +kernel) (rfl) (rfl) (Nat.le_of_ble_eq_true rfl) dX13_read_227 (fun H locs hP hD hS => ?_)
                  obtain ⟨F_104, he_105, hP, hD, hO, hR⟩ : ∃ G, G = va_up F_93 h0 (.inr (13, [.ref tx, .ref y0, .ref y1, .ref y2, .int (nI (zz + 1))])) ∧ va_P (dC, dI) vwCl (va_pl L G) H ∧ va_D A (va_pl L G) ∧ OKm cs ty gm L G ∧ FR ty [ρ, ρ + 70, ρ + 71] F G := ⟨_, rfl, hP, hD, hO.up (shm.tags hT_h0 ⟨(zz + 1), rfl, (by first | omega | assumption | exact Or.inl rfl | exact Or.inr rfl)⟩), hR.up hT_h0 (by simp)⟩
                  have hF_106 : F_104 h0 = .inr (13, [.ref tx, .ref y0, .ref y1, .ref y2, .int (nI (zz + 1))]) := by rw [he_105]; exact up_self
                  have hF_107 : F_104 y2 = .inl (cs 16, 40, .inl f_101) := by rw [he_105, up_ne (ne_ty ht_6 hT_h0 (by simp))]; exact hF_95
                  have hF_108 : F_104 y1 = .inl (cs 16, 40, .inl f_88) := by rw [he_105, up_ne (ne_ty ht_5 hT_h0 (by simp))]; exact hF_96
                  have hF_109 : F_104 y0 = .inl (cs 16, 40, .inl f_76) := by rw [he_105, up_ne (ne_ty ht_4 hT_h0 (by simp))]; exact hF_97
                  have hF_110 : F_104 tx = .inr (14, [.ref tbx, .int (nI zx)]) := by rw [he_105, up_ne (ne_ty hT_tx hT_h0 (by simp))]; exact hF_98
                  have hF_111 : F_104 tbx = .inl (cs 17, n, .inl f_51) := by rw [he_105, up_ne (ne_ty ht_10 hT_h0 (by simp))]; exact hF_99
                  refine lv_iload_n hx hb dX13_read_230 rfl (lv_at hl 2 rfl) ?_
                  refine lv_iconst (v := 1) hx hb dX13_read_231 (by decide) ?_
                  refine lv_iadd hx hb dX13_read_232 ?_
                  refine lv_topi (fun x_112 ex_112 => ?_)
                  obtain rfl : x_112 = (nI (i + 1)) := ex_112.trans (nI_add i 1)
                  refine lv_istore_n (lv' := [(2, .int (nI (i + 1))), (5, .int (nI kk)), (4, .int (nI ee)), (3, .int (nI i)), (0, .ref h0), (1, .int x1)]) hx hb dX13_read_233 rfl hl (by decide) rfl (fun ls hl => ?_)
                  refine lv_goto (tgt := 7) hx hb dX13_read_234 (by decide) ?_
                  refine W.widen (k := 0) (n := 0) (by omega) (by omega) ?_
                  exact ih_22 ((i + 1), (zz + 1)) F_104 (⟨by omega, by omega, hF_106⟩) (by show zx + 1 - (i + 1) < zx + 1 - j; omega) hO hR _ _ hP hD hS ls (lv_sub hl [0, 4, 5] rfl)
                ·
                  have hi_113 : kk < zz := ltN (N := zz) c_65
                  refine lv_aload_n hx hb dX13_read_140 rfl (lv_at hl 4 rfl) ?_
                  refine pg_get (ci := 13) (v := .ref y1) (C := RX13) (T := TX13) (N := 5) hx hb hts it_13 hown hK hP hL_h0 hd2 rfl 2 (by decide) (hts _ kt_827) (fun _ h9 => h9) rfl dX13_read_141 ?_
                  refine lv_iload hx hb dX13_read_144 (lv_at hl 0 rfl) ?_
                  obtain ⟨f_114, hF_115, hq_116⟩ := hO.idb hi_2 ht_5
                  refine pg_iald hx hb hK hP hi_2 0 hF_115 rfl (vp_in_nI (by omega) (by omega)) dX13_read_146 ?_
                  obtain ⟨k_117, hk_118, ek_119⟩ := hq_116 ((nI kk) : Int32).toNatClampNeg
                  refine lv_topi (fun x_120 ex_120 => ?_)
                  obtain rfl : x_120 = nI k_117 := ex_120.trans ek_119
                  refine lv_aload_n hx hb dX13_read_147 rfl (lv_at hl 4 rfl) ?_
                  refine pg_get (ci := 13) (v := .ref y0) (C := RX13) (T := TX13) (N := 5) hx hb hts it_13 hown hK hP hL_h0 hd2 rfl 1 (by decide) (hts _ kt_826) (fun _ h9 => h9) rfl dX13_read_148 ?_
                  refine lv_iload hx hb dX13_read_151 (lv_at hl 0 rfl) ?_
                  obtain ⟨f_121, hF_122, hq_123⟩ := hO.idb hi_1 ht_4
                  refine pg_iald hx hb hK hP hi_1 0 hF_122 rfl (vp_in_nI (by omega) (by omega)) dX13_read_153 ?_
                  obtain ⟨k_124, hk_125, ek_126⟩ := hq_123 ((nI kk) : Int32).toNatClampNeg
                  refine lv_topi (fun x_127 ex_127 => ?_)
                  obtain rfl : x_127 = nI k_124 := ex_127.trans ek_126
                  refine lv_isub hx hb dX13_read_154 ?_
                  refine lv_topi (fun x_128 ex_128 => ?_)
                  obtain rfl : x_128 = ((nI k_117) - (nI k_124)) := ex_128.trans (rfl)
                  refine lv_iload hx hb dX13_read_155 (lv_at hl 1 rfl) ?_
                  refine lv_iload_n hx hb dX13_read_157 rfl (lv_at hl 3 rfl) ?_
                  refine lv_isub hx hb dX13_read_158 ?_
                  refine lv_topi (fun x_129 ex_129 => ?_)
                  obtain rfl : x_129 = (nI (ee - j)) := ex_129.trans (pk_sub (a := ee) (b := j) (by omega))
                  refine lv_icmp_ne (tgt := 183) hx hb dX13_read_159 (by decide) (fun c_130 => ?_) (fun c_130 => ?_)
                  ·
                    refine lv_iinc (v := (nI (kk + 1))) (lv' := [(5, .int (nI (kk + 1))), (4, .int (nI ee)), (3, .int (nI i)), (2, .int (nI j)), (0, .ref h0), (1, .int x1)]) hx hb dX13_read_183 hl (k := 0) rfl (nI_1 _) (by decide) rfl (fun ls hl => ?_)
                    refine lv_goto (tgt := 131) hx hb dX13_read_186 (by decide) ?_
                    refine W.widen (k := 0) (n := 0) (by omega) (by omega) ?_
                    exact ih_62 (kk + 1) F_58 (⟨by omega, hd2⟩) (by show 40 - (kk + 1) < 40 - kk; omega) hO hR _ _ hP hD hS ls (lv_sub hl [0, 1, 2, 3, 4, 5] rfl)
                  ·
                    have hsm := sub_eqN c_130 (by omega) (by omega) (by omega)
                    refine lv_aload_n hx hb dX13_read_162 rfl (lv_at hl 4 rfl) ?_
                    refine lv_aload_n hx hb dX13_read_163 rfl (lv_at hl 4 rfl) ?_
                    refine pg_get (ci := 13) (v := .ref y0) (C := RX13) (T := TX13) (N := 5) hx hb hts it_13 hown hK hP hL_h0 hd2 rfl 1 (by decide) (hts _ kt_826) (fun _ h9 => h9) rfl dX13_read_164 ?_
                    refine lv_iload hx hb dX13_read_167 (lv_at hl 0 rfl) ?_
                    refine pg_iald hx hb hK hP hi_1 0 hF_122 rfl (vp_in_nI (by omega) (by omega)) dX13_read_169 ?_
                    refine lv_topi (fun x_131 ex_131 => ?_)
                    obtain rfl : x_131 = nI k_124 := ex_131.trans ek_126
                    refine lv_iload_n hx hb dX13_read_170 rfl (lv_at hl 3 rfl) ?_
                    refine lv_iload hx hb dX13_read_171 (lv_at hl 1 rfl) ?_
                    refine lv_iload_n hx hb dX13_read_173 rfl (lv_at hl 3 rfl) ?_
                    refine lv_isub hx hb dX13_read_174 ?_
                    refine lv_topi (fun x_132 ex_132 => ?_)
                    obtain rfl : x_132 = (nI (ee - j)) := ex_132.trans (pk_sub (a := ee) (b := j) (by omega))
                    have hFc := pg_free hD hS hA
                    refine va_calli (va_runV (As := [.int (nI k_124), .int (nI j), .int (nI (ee - j))]) (rest := []) ⟨hx, hb, hml, hown, hts⟩ (s_X13_isSame l dC dI cs ty gm L H.size F_58 h0 ρ tx n Bn y0 y1 y2 tbx k_124 j (ee - j) hW hL_h0 hT_h0 hL_tx hT_tx (by first | omega | assumption | exact Or.inl rfl) (by first | omega | assumption | exact Or.inl rfl)) ⟨callB_of 3 hts (gi kt_835) rfl rfl rfl (hts _ kt_829) (hts _ kt_836) (by decide +kernel) ⟨Nat.le_of_ble_eq_true rfl, Nat.le_of_ble_eq_true rfl⟩, (hts _ kt_837), (hts _ kt_838)⟩ ⟨fun a U g mk q => ⟨q.1, PTm.calling q.2⟩, pg_recv hK hP hL_h0 hd2 (q := (RX13, TX13, 5)) rfl, fun U hU hWm => ⟨rfl, PTm.mk hU hWm hP hK hD hE hO⟩⟩ rfl rfl hl.1 rfl (lv_room (Nat.le_of_ble_eq_true rfl)) dX13_read_175 ⟨by show _ + 0 ≤ 0; omega, by show _ + 0 ≤ 0; omega⟩) hS (fun q _ h => hFc q h) hFc (fun r_133 u t H1 locs ht hvm hw hB hz1 hk1 hS => ?_)
                    obtain ⟨F_134, hB1⟩ := hB
                    obtain rfl : F_58 = F_134 := (funext (fun a => hB1.2.2.2 a List.not_mem_nil)).symm
                    obtain ⟨hP, hD, hO, hR⟩ := QTm.back hB1 ht hFc hR (fun q h => absurd h List.not_mem_nil)
                    generalize H1 = H at hP hS ⊢
                    have hw : (r_133 = 0 ∨ r_133 = 1) := hw
                    have hw_135 := hw
                    refine lv_if_eq (tgt := 183) hx hb dX13_read_178 (by decide) (fun c_136 => ?_) (fun c_136 => ?_)
                    ·
                      refine lv_iinc (v := (nI (kk + 1))) (lv' := [(5, .int (nI (kk + 1))), (4, .int (nI ee)), (3, .int (nI i)), (2, .int (nI j)), (0, .ref h0), (1, .int x1)]) hx hb dX13_read_183 hl (k := 0) rfl (nI_1 _) (by decide) rfl (fun ls hl => ?_)
                      refine lv_goto (tgt := 131) hx hb dX13_read_186 (by decide) ?_
                      refine W.widen (k := 0) (n := 0) (by omega) (by omega) ?_
                      exact ih_62 (kk + 1) F_58 (⟨by omega, hd2⟩) (by show 40 - (kk + 1) < 40 - kk; omega) hO hR _ _ hP hD hS ls (lv_sub hl [0, 1, 2, 3, 4, 5] rfl)
                    ·
                      refine lv_iconst (v := 0) hx hb dX13_read_181 (by decide) ?_
                      refine W.widen (k := 0) (n := 0) (by omega) (by omega) ?_
                      exact W.zret (v := 0) (ty := .boolean) hx hb hr (by decide) (fun t ht hWm => ⟨⟨0, (), rfl, (by first | exact Or.inl rfl | exact Or.inr rfl), ⟨F_58, zz, QTm.mk ht hP hD hO hR, hd2, by omega⟩⟩, hS.F ht⟩) hS.2.2 dX13_read_182
              ·
                have hi_137 : zz = 40 := (nI_eq (a := zz) (b := 40) (by omega) (by omega)).mp c_56
                refine lv_iconst (v := 0) hx hb dX13_read_126 (by decide) ?_
                refine W.widen (k := 0) (n := 0) (by omega) (by omega) ?_
                exact W.zret (v := 0) (ty := .boolean) hx hb hr (by decide) (fun t ht hWm => ⟨⟨0, (), rfl, (by first | exact Or.inl rfl | exact Or.inr rfl), ⟨F_34, zz, QTm.mk ht hP hD hO hR, hc3, by omega⟩⟩, hS.F ht⟩) hS.2.2 dX13_read_127
      ·
        have hi_138 : ee < i := ltN (N := i) c_39
        refine lv_aload_n hx hb dX13_read_60 rfl (lv_at hl 3 rfl) ?_
        refine pg_get (ci := 13) (v := .ref tx) (C := RX13) (T := TX13) (N := 5) hx hb hts it_13 hown hK hP hL_h0 hc3 rfl 0 (by decide) (hts _ kt_824) (fun _ h9 => h9) rfl dX13_read_61 ?_
        refine pg_get (ci := 14) (v := .ref tbx) (C := RX14) (T := TX14) (N := 2) hx hb hts it_14 hown hK hP hL_tx hF_38 rfl 0 (by decide) (hts _ kt_825) (fun _ h9 => h9) rfl dX13_read_64 ?_
        refine lv_iload hx hb dX13_read_67 (lv_at hl 0 rfl) ?_
        obtain ⟨hq_139, hq_140⟩ := hW.octs hi_9 ht_10
        obtain ⟨f_141, hF_142, hq_143⟩ := hO.octs hi_9 ht_10
        refine pg_bald hx hb hK hP hi_9 1 hF_142 rfl (vp_in_nI (by omega) (by omega)) dX13_read_69 ?_
        refine lv_topi (fun x_144 ex_144 => ?_)
        obtain rfl : x_144 = f_141 ee := ex_144.trans (congrArg f_141 (show ((nI ee) : Int32).toNatClampNeg = ee from nI_clamp (by omega)))
        have hFc := pg_free hD hS hA
        refine va_calli (va_runSN (As := [.int (f_141 ee)]) (rest := []) ⟨hx, hb, hml, hown, hts⟩ (s_X15_isSmall l dC dI cs ty gm L H.size F_34 (f_141 ee) hW ) ⟨va_cnB 1 hts (gi kt_668) rfl rfl rfl (hE.nestw kn_43) (hts _ kt_669) (by decide +kernel) ⟨Nat.le_of_ble_eq_true rfl, Nat.le_of_ble_eq_true rfl⟩, (hts _ kt_671), trivial⟩ ⟨fun a U g mk q => ⟨q.1, PTm.calling q.2⟩, fun U hU hWm => ⟨rfl, PTm.mk hU hWm hP hK hD hE hO⟩⟩ rfl rfl hl.1 rfl (lv_room (Nat.le_of_ble_eq_true rfl)) dX13_read_70 ⟨by show _ + 0 ≤ 0; omega, by show _ + 0 ≤ 0; omega⟩) hS (fun q _ h => hFc q h) hFc (fun r_145 u t H1 locs ht hvm hw hB hz1 hk1 hS => ?_)
        obtain ⟨F_146, hB1⟩ := hB
        obtain rfl : F_34 = F_146 := (funext (fun a => hB1.2.2.2 a List.not_mem_nil)).symm
        obtain ⟨hP, hD, hO, hR⟩ := QTm.back hB1 ht hFc hR (fun q h => absurd h List.not_mem_nil)
        generalize H1 = H at hP hS ⊢
        have hw : (r_145 = 0 ∨ r_145 = 1) := hw
        have hw_147 := hw
        refine lv_if_eq (tgt := 82) hx hb dX13_read_73 (by decide) (fun c_148 => ?_) (fun c_148 => ?_)
        ·
          refine lv_iload hx hb dX13_read_82 (lv_at hl 0 rfl) ?_
          refine lv_iload_n hx hb dX13_read_84 rfl (lv_at hl 2 rfl) ?_
          refine lv_isub hx hb dX13_read_85 ?_
          refine lv_topi (fun x_149 ex_149 => ?_)
          obtain rfl : x_149 = (nI (ee - j)) := ex_149.trans (pk_sub (a := ee) (b := j) (by omega))
          refine lv_i2l (v := (nI (ee - j)).toInt64) hx hb dX13_read_86 rfl ?_
          refine lv_lconst (v := 1) hx hb dX13_read_87 (by decide) ?_
          refine lv_iload_n hx hb dX13_read_88 rfl (lv_at hl 4 rfl) ?_
          refine lv_i2l (v := x1.toInt64) hx hb dX13_read_89 rfl ?_
          have hFc := pg_free hD hS hA
          refine va_calli (va_runSN (As := [.long ((nI (ee - j)).toInt64), .long 1, .long x1.toInt64]) (rest := []) ⟨hx, hb, hml, hown, hts⟩ (s_X15_in l dC dI cs ty gm L H.size F_34 ((nI (ee - j)).toInt64) 1 x1.toInt64 hW ) ⟨va_cnB 3 hts (gi kt_685) rfl rfl rfl (hE.nestw kn_42) (hts _ kt_669) (by decide +kernel) ⟨Nat.le_of_ble_eq_true rfl, Nat.le_of_ble_eq_true rfl⟩, (hts _ kt_686), trivial⟩ ⟨fun a U g mk q => ⟨q.1, PTm.calling q.2⟩, fun U hU hWm => ⟨rfl, PTm.mk hU hWm hP hK hD hE hO⟩⟩ rfl rfl hl.1 rfl (lv_room (Nat.le_of_ble_eq_true rfl)) dX13_read_90 ⟨by show _ + 0 ≤ 0; omega, by show _ + 0 ≤ 0; omega⟩) hS (fun q _ h => hFc q h) hFc (fun r_150 u t H1 locs ht hvm hw hB hz1 hk1 hS => ?_)
          obtain ⟨F_151, hB1⟩ := hB
          obtain rfl : F_34 = F_151 := (funext (fun a => hB1.2.2.2 a List.not_mem_nil)).symm
          obtain ⟨hP, hD, hO, hR⟩ := QTm.back hB1 ht hFc hR (fun q h => absurd h List.not_mem_nil)
          generalize H1 = H at hP hS ⊢
          have hw : r_150 = (if 1 ≤ (nI (ee - j)).toInt64 ∧ (nI (ee - j)).toInt64 ≤ x1.toInt64 then 1 else 0) := hw
          have hw_152 := hw
          refine lv_if_eq (tgt := 126) hx hb dX13_read_93 (by decide) (fun c_153 => ?_) (fun c_153 => ?_)
          ·
            refine lv_iconst (v := 0) hx hb dX13_read_126 (by decide) ?_
            refine W.widen (k := 0) (n := 0) (by omega) (by omega) ?_
            exact W.zret (v := 0) (ty := .boolean) hx hb hr (by decide) (fun t ht hWm => ⟨⟨0, (), rfl, (by first | exact Or.inl rfl | exact Or.inr rfl), ⟨F_34, zz, QTm.mk ht hP hD hO hR, hc3, by omega⟩⟩, hS.F ht⟩) hS.2.2 dX13_read_127
          ·
            refine lv_iload hx hb dX13_read_96 (lv_at hl 0 rfl) ?_
            refine lv_iload_n hx hb dX13_read_98 rfl (lv_at hl 1 rfl) ?_
            refine lv_icmp_eq (tgt := 126) hx hb dX13_read_99 (by decide) (fun c_154 => ?_) (fun c_154 => ?_)
            ·
              have hi_155 : ee = i := (nI_eq (a := ee) (b := i) (by omega) (by omega)).mp c_154
              refine lv_iconst (v := 0) hx hb dX13_read_126 (by decide) ?_
              refine W.widen (k := 0) (n := 0) (by omega) (by omega) ?_
              exact W.zret (v := 0) (ty := .boolean) hx hb hr (by decide) (fun t ht hWm => ⟨⟨0, (), rfl, (by first | exact Or.inl rfl | exact Or.inr rfl), ⟨F_34, zz, QTm.mk ht hP hD hO hR, hc3, by omega⟩⟩, hS.F ht⟩) hS.2.2 dX13_read_127
            ·
              have hi_156 : ee ≠ i := fun q => c_154 (by rw [q])
              refine lv_aload_n hx hb dX13_read_102 rfl (lv_at hl 3 rfl) ?_
              refine pg_get (ci := 13) (v := .ref tx) (C := RX13) (T := TX13) (N := 5) hx hb hts it_13 hown hK hP hL_h0 hc3 rfl 0 (by decide) (hts _ kt_824) (fun _ h9 => h9) rfl dX13_read_103 ?_
              refine pg_get (ci := 14) (v := .ref tbx) (C := RX14) (T := TX14) (N := 2) hx hb hts it_14 hown hK hP hL_tx hF_38 rfl 0 (by decide) (hts _ kt_825) (fun _ h9 => h9) rfl dX13_read_106 ?_
              refine lv_iload hx hb dX13_read_109 (lv_at hl 0 rfl) ?_
              refine pg_bald hx hb hK hP hi_9 1 hF_142 rfl (vp_in_nI (by omega) (by omega)) dX13_read_111 ?_
              refine lv_topi (fun x_157 ex_157 => ?_)
              obtain rfl : x_157 = f_141 ee := ex_157.trans (congrArg f_141 (show ((nI ee) : Int32).toNatClampNeg = ee from nI_clamp (by omega)))
              refine lv_bipush (v := 61) hx hb dX13_read_112 (by decide) ?_
              refine lv_icmp_ne (tgt := 126) hx hb dX13_read_114 (by decide) (fun c_158 => ?_) (fun c_158 => ?_)
              ·
                refine lv_iconst (v := 0) hx hb dX13_read_126 (by decide) ?_
                refine W.widen (k := 0) (n := 0) (by omega) (by omega) ?_
                exact W.zret (v := 0) (ty := .boolean) hx hb hr (by decide) (fun t ht hWm => ⟨⟨0, (), rfl, (by first | exact Or.inl rfl | exact Or.inr rfl), ⟨F_34, zz, QTm.mk ht hP hD hO hR, hc3, by omega⟩⟩, hS.F ht⟩) hS.2.2 dX13_read_127
              ·
                refine lv_aload_n hx hb dX13_read_117 rfl (lv_at hl 3 rfl) ?_
                refine pg_get (ci := 13) (v := .int (nI zz)) (C := RX13) (T := TX13) (N := 5) hx hb hts it_13 hown hK hP hL_h0 hc3 rfl 4 (by decide) (hts _ kt_823) (fun _ h9 => h9) rfl dX13_read_118 ?_
                refine lv_bipush (v := 40) hx hb dX13_read_121 (by decide) ?_
                refine lv_icmp_ne (tgt := 128) hx hb dX13_read_123 (by decide) (fun c_159 => ?_) (fun c_159 => ?_)
                ·
                  have hi_160 : zz ≠ 40 := fun q => c_159 (by rw [q]; rfl)
                  refine lv_iconst (v := 0) hx hb dX13_read_128 (by decide) ?_
                  refine lv_istore (lv' := [(5, .int 0), (4, .int (nI ee)), (3, .int (nI i)), (2, .int (nI j)), (0, .ref h0), (1, .int x1)]) hx hb dX13_read_129 hl (by decide) rfl (fun ls hl => ?_)
                  refine W.widen (k := 0) (n := 0) (by omega) (by omega) ?_
                  have hF_162 : F tx = .inr (14, [.ref tbx, .int (nI zx)]) := (hR tx (by rw [hT_tx]; simp)).symm.trans hF_38
                  have hF_163 : F tbx = .inl (cs 17, n, .inl f_141) := (hR tbx (by rw [ht_10]; simp)).symm.trans hF_142
                  refine pl_loopm (σ := Nat) A (dC, dI) cs ty gm L [ρ, ρ + 70, ρ + 71] F 131 6 (fun kk => [(5, .int (nI kk)), (4, .int (nI ee)), (3, .int (nI i)), (2, .int (nI j)), (0, .ref h0), (1, .int x1)]) (fun kk => []) (fun kk FF => kk ≤ 40 ∧ FF h0 = .inr (13, [.ref tx, .ref y0, .ref y1, .ref y2, .int (nI zz)])) (fun kk => 40 - kk) ?_ 0 F_34 (⟨by omega, hc3⟩) hO hR _ _ hP hD hS ls (lv_sub hl [0, 1, 2, 3, 4, 5] rfl)
                  rintro kk F_161 hv_164 hO hR ih_165 H locs hP hD hS ls hl
                  have hl : lv_has ls 6 [(5, .int (nI kk)), (4, .int (nI ee)), (3, .int (nI i)), (2, .int (nI j)), (0, .ref h0), (1, .int x1)] := hl
                  have hv_164 : kk ≤ 40 ∧ F_161 h0 = .inr (13, [.ref tx, .ref y0, .ref y1, .ref y2, .int (nI zz)]) := hv_164
                  refine W.eq (g2 := F0 m 131 ls []) rfl ?_
                  have hF_166 : F_161 tx = .inr (14, [.ref tbx, .int (nI zx)]) := (hR tx (by rw [hT_tx]; simp)).trans hF_162
                  have hF_167 : F_161 tbx = .inl (cs 17, n, .inl f_141) := (hR tbx (by rw [ht_10]; simp)).trans hF_163
                  obtain ⟨hd1, hd2⟩ := hv_164
                  refine lv_iload hx hb dX13_read_131 (lv_at hl 0 rfl) ?_
                  refine lv_aload_n hx hb dX13_read_133 rfl (lv_at hl 4 rfl) ?_
                  refine pg_get (ci := 13) (v := .int (nI zz)) (C := RX13) (T := TX13) (N := 5) hx hb hts it_13 hown hK hP hL_h0 hd2 rfl 4 (by decide) (hts _ kt_823) (fun _ h9 => h9) rfl dX13_read_134 ?_
                  refine lv_icmp_ge (tgt := 189) hx hb dX13_read_137 (by decide) (fun c_168 => ?_) (fun c_168 => ?_)
                  ·
                    have hi_169 : zz ≤ kk := leN (N := zz) c_168
                    refine lv_aload_n hx hb dX13_read_189 rfl (lv_at hl 4 rfl) ?_
                    refine pg_get (ci := 13) (v := .ref y0) (C := RX13) (T := TX13) (N := 5) hx hb hts it_13 hown hK hP hL_h0 hd2 rfl 1 (by decide) (hts _ kt_826) (fun _ h9 => h9) rfl dX13_read_190 ?_
                    refine lv_aload_n hx hb dX13_read_193 rfl (lv_at hl 4 rfl) ?_
                    refine pg_get (ci := 13) (v := .int (nI zz)) (C := RX13) (T := TX13) (N := 5) hx hb hts it_13 hown hK hP hL_h0 hd2 rfl 4 (by decide) (hts _ kt_823) (fun _ h9 => h9) rfl dX13_read_194 ?_
                    refine lv_iload_n hx hb dX13_read_197 rfl (lv_at hl 3 rfl) ?_
                    obtain ⟨f_170, hF_171, hq_172⟩ := hO.idb hi_1 ht_4
                    refine pg_iast hx hb hK hP hD hS hi_1 0 hF_171 rfl (vp_in_nI (by omega) (by omega)) dX13_read_198 (fun H locs hP hD hS => ?_)
                    obtain ⟨F_173, he_174, hP, hD, hO, hR⟩ : ∃ G, G = va_up F_161 y0 (.inl (cs 16, 40, .inl (upd f_170 ((nI zz)).toNatClampNeg ((nI j))))) ∧ va_P (dC, dI) vwCl (va_pl L G) H ∧ va_D A (va_pl L G) ∧ OKm cs ty gm L G ∧ FR ty [ρ, ρ + 70, ρ + 71] F G := ⟨_, rfl, hP, hD, hO.up (shm.idb ht_4 ⟨_, rfl, ixb_upd hq_172 _ _ (by omega)⟩), hR.up ht_4 (by simp)⟩
                    have hF_175 : F_173 y0 = .inl (cs 16, 40, .inl (upd f_170 ((nI zz)).toNatClampNeg ((nI j)))) := by rw [he_174]; exact up_self
                    have hF_176 : F_173 tx = .inr (14, [.ref tbx, .int (nI zx)]) := by rw [he_174, up_ne (ne_ty hT_tx ht_4 (by simp))]; exact hF_166
                    have hF_177 : F_173 tbx = .inl (cs 17, n, .inl f_141) := by rw [he_174, up_ne (ne_ty ht_10 ht_4 (by simp))]; exact hF_167
                    have hF_178 : F_173 h0 = .inr (13, [.ref tx, .ref y0, .ref y1, .ref y2, .int (nI zz)]) := by rw [he_174, up_ne (ne_ty hT_h0 ht_4 (by simp))]; exact hd2
                    obtain ⟨f_179, hF_175, hq_180⟩ : ∃ f : Nat → Int32, F_173 y0 = .inl (cs 16, 40, .inl f) ∧ IXB Bn f := ⟨_, hF_175, ixb_upd hq_172 _ _ (by omega)⟩
                    refine lv_aload_n hx hb dX13_read_199 rfl (lv_at hl 4 rfl) ?_
                    refine pg_get (ci := 13) (v := .ref y1) (C := RX13) (T := TX13) (N := 5) hx hb hts it_13 hown hK hP hL_h0 hF_178 rfl 2 (by decide) (hts _ kt_827) (fun _ h9 => h9) rfl dX13_read_200 ?_
                    refine lv_aload_n hx hb dX13_read_203 rfl (lv_at hl 4 rfl) ?_
                    refine pg_get (ci := 13) (v := .int (nI zz)) (C := RX13) (T := TX13) (N := 5) hx hb hts it_13 hown hK hP hL_h0 hF_178 rfl 4 (by decide) (hts _ kt_823) (fun _ h9 => h9) rfl dX13_read_204 ?_
                    refine lv_iload hx hb dX13_read_207 (lv_at hl 1 rfl) ?_
                    obtain ⟨f_181, hF_182, hq_183⟩ := hO.idb hi_2 ht_5
                    refine pg_iast hx hb hK hP hD hS hi_2 0 hF_182 rfl (vp_in_nI (by omega) (by omega)) dX13_read_209 (fun H locs hP hD hS => ?_)
                    obtain ⟨F_184, he_185, hP, hD, hO, hR⟩ : ∃ G, G = va_up F_173 y1 (.inl (cs 16, 40, .inl (upd f_181 ((nI zz)).toNatClampNeg ((nI ee))))) ∧ va_P (dC, dI) vwCl (va_pl L G) H ∧ va_D A (va_pl L G) ∧ OKm cs ty gm L G ∧ FR ty [ρ, ρ + 70, ρ + 71] F G := ⟨_, rfl, hP, hD, hO.up (shm.idb ht_5 ⟨_, rfl, ixb_upd hq_183 _ _ (by omega)⟩), hR.up ht_5 (by simp)⟩
                    have hF_186 : F_184 y1 = .inl (cs 16, 40, .inl (upd f_181 ((nI zz)).toNatClampNeg ((nI ee)))) := by rw [he_185]; exact up_self
                    have hF_187 : F_184 y0 = .inl (cs 16, 40, .inl f_179) := by rw [he_185, up_ne (ne_ty2 ht_4 ht_5 (by simp))]; exact hF_175
                    have hF_188 : F_184 tx = .inr (14, [.ref tbx, .int (nI zx)]) := by rw [he_185, up_ne (ne_ty hT_tx ht_5 (by simp))]; exact hF_176
                    have hF_189 : F_184 tbx = .inl (cs 17, n, .inl f_141) := by rw [he_185, up_ne (ne_ty ht_10 ht_5 (by simp))]; exact hF_177
                    have hF_190 : F_184 h0 = .inr (13, [.ref tx, .ref y0, .ref y1, .ref y2, .int (nI zz)]) := by rw [he_185, up_ne (ne_ty hT_h0 ht_5 (by simp))]; exact hF_178
                    obtain ⟨f_191, hF_186, hq_192⟩ : ∃ f : Nat → Int32, F_184 y1 = .inl (cs 16, 40, .inl f) ∧ IXB Bn f := ⟨_, hF_186, ixb_upd hq_183 _ _ (by omega)⟩
                    refine lv_aload_n hx hb dX13_read_210 rfl (lv_at hl 4 rfl) ?_
                    refine pg_get (ci := 13) (v := .ref y2) (C := RX13) (T := TX13) (N := 5) hx hb hts it_13 hown hK hP hL_h0 hF_190 rfl 3 (by decide) (hts _ kt_833) (fun _ h9 => h9) rfl dX13_read_211 ?_
                    refine lv_aload_n hx hb dX13_read_214 rfl (lv_at hl 4 rfl) ?_
                    refine pg_get (ci := 13) (v := .int (nI zz)) (C := RX13) (T := TX13) (N := 5) hx hb hts it_13 hown hK hP hL_h0 hF_190 rfl 4 (by decide) (hts _ kt_823) (fun _ h9 => h9) rfl dX13_read_215 ?_
                    refine lv_iload_n hx hb dX13_read_218 rfl (lv_at hl 2 rfl) ?_
                    obtain ⟨f_193, hF_194, hq_195⟩ := hO.idb hi_3 ht_6
                    refine pg_iast hx hb hK hP hD hS hi_3 0 hF_194 rfl (vp_in_nI (by omega) (by omega)) dX13_read_219 (fun H locs hP hD hS => ?_)
                    obtain ⟨F_196, he_197, hP, hD, hO, hR⟩ : ∃ G, G = va_up F_184 y2 (.inl (cs 16, 40, .inl (upd f_193 ((nI zz)).toNatClampNeg ((nI i))))) ∧ va_P (dC, dI) vwCl (va_pl L G) H ∧ va_D A (va_pl L G) ∧ OKm cs ty gm L G ∧ FR ty [ρ, ρ + 70, ρ + 71] F G := ⟨_, rfl, hP, hD, hO.up (shm.idb ht_6 ⟨_, rfl, ixb_upd hq_195 _ _ (by omega)⟩), hR.up ht_6 (by simp)⟩
                    have hF_198 : F_196 y2 = .inl (cs 16, 40, .inl (upd f_193 ((nI zz)).toNatClampNeg ((nI i)))) := by rw [he_197]; exact up_self
                    have hF_199 : F_196 y1 = .inl (cs 16, 40, .inl f_191) := by rw [he_197, up_ne (ne_ty2 ht_5 ht_6 (by simp))]; exact hF_186
                    have hF_200 : F_196 y0 = .inl (cs 16, 40, .inl f_179) := by rw [he_197, up_ne (ne_ty2 ht_4 ht_6 (by simp))]; exact hF_187
                    have hF_201 : F_196 tx = .inr (14, [.ref tbx, .int (nI zx)]) := by rw [he_197, up_ne (ne_ty hT_tx ht_6 (by simp))]; exact hF_188
                    have hF_202 : F_196 tbx = .inl (cs 17, n, .inl f_141) := by rw [he_197, up_ne (ne_ty ht_10 ht_6 (by simp))]; exact hF_189
                    have hF_203 : F_196 h0 = .inr (13, [.ref tx, .ref y0, .ref y1, .ref y2, .int (nI zz)]) := by rw [he_197, up_ne (ne_ty hT_h0 ht_6 (by simp))]; exact hF_190
                    obtain ⟨f_204, hF_198, hq_205⟩ : ∃ f : Nat → Int32, F_196 y2 = .inl (cs 16, 40, .inl f) ∧ IXB Bn f := ⟨_, hF_198, ixb_upd hq_195 _ _ (by omega)⟩
                    refine lv_aload_n hx hb dX13_read_220 rfl (lv_at hl 4 rfl) ?_
                    refine lv_dup hx hb dX13_read_221 rfl ?_
                    refine pg_get (ci := 13) (v := .int (nI zz)) (C := RX13) (T := TX13) (N := 5) hx hb hts it_13 hown hK hP hL_h0 hF_203 rfl 4 (by decide) (hts _ kt_823) (fun _ h9 => h9) rfl dX13_read_222 ?_
                    refine lv_iconst (v := 1) hx hb dX13_read_225 (by decide) ?_
                    refine lv_iadd hx hb dX13_read_226 ?_
                    refine lv_topi (fun x_206 ex_206 => ?_)
                    obtain rfl : x_206 = (nI (zz + 1)) := ex_206.trans (nI_add zz 1)
                    refine pg_put (ci := 13) (v := .int (nI (zz + 1))) (ty := .int) (C := RX13) (T := TX13) (N := 5) hx hb hts it_13 tyX13 tyX13_ok nmX13 hown hK hP hD hS hL_h0 hF_203 rfl 4 (by decide) (hts _ kt_823) (fun _ h9 => h9) rfl (by decide +kernel) (rfl) (rfl) (Nat.le_of_ble_eq_true rfl) dX13_read_227 (fun H locs hP hD hS => ?_)
                    obtain ⟨F_207, he_208, hP, hD, hO, hR⟩ : ∃ G, G = va_up F_196 h0 (.inr (13, [.ref tx, .ref y0, .ref y1, .ref y2, .int (nI (zz + 1))])) ∧ va_P (dC, dI) vwCl (va_pl L G) H ∧ va_D A (va_pl L G) ∧ OKm cs ty gm L G ∧ FR ty [ρ, ρ + 70, ρ + 71] F G := ⟨_, rfl, hP, hD, hO.up (shm.tags hT_h0 ⟨(zz + 1), rfl, (by first | omega | assumption | exact Or.inl rfl | exact Or.inr rfl)⟩), hR.up hT_h0 (by simp)⟩
                    have hF_209 : F_207 h0 = .inr (13, [.ref tx, .ref y0, .ref y1, .ref y2, .int (nI (zz + 1))]) := by rw [he_208]; exact up_self
                    have hF_210 : F_207 y2 = .inl (cs 16, 40, .inl f_204) := by rw [he_208, up_ne (ne_ty ht_6 hT_h0 (by simp))]; exact hF_198
                    have hF_211 : F_207 y1 = .inl (cs 16, 40, .inl f_191) := by rw [he_208, up_ne (ne_ty ht_5 hT_h0 (by simp))]; exact hF_199
                    have hF_212 : F_207 y0 = .inl (cs 16, 40, .inl f_179) := by rw [he_208, up_ne (ne_ty ht_4 hT_h0 (by simp))]; exact hF_200
                    have hF_213 : F_207 tx = .inr (14, [.ref tbx, .int (nI zx)]) := by rw [he_208, up_ne (ne_ty hT_tx hT_h0 (by simp))]; exact hF_201
                    have hF_214 : F_207 tbx = .inl (cs 17, n, .inl f_141) := by rw [he_208, up_ne (ne_ty ht_10 hT_h0 (by simp))]; exact hF_202
                    refine lv_iload_n hx hb dX13_read_230 rfl (lv_at hl 2 rfl) ?_
                    refine lv_iconst (v := 1) hx hb dX13_read_231 (by decide) ?_
                    refine lv_iadd hx hb dX13_read_232 ?_
                    refine lv_topi (fun x_215 ex_215 => ?_)
                    obtain rfl : x_215 = (nI (i + 1)) := ex_215.trans (nI_add i 1)
                    refine lv_istore_n (lv' := [(2, .int (nI (i + 1))), (5, .int (nI kk)), (4, .int (nI ee)), (3, .int (nI i)), (0, .ref h0), (1, .int x1)]) hx hb dX13_read_233 rfl hl (by decide) rfl (fun ls hl => ?_)
                    refine lv_goto (tgt := 7) hx hb dX13_read_234 (by decide) ?_
                    refine W.widen (k := 0) (n := 0) (by omega) (by omega) ?_
                    exact ih_22 ((i + 1), (zz + 1)) F_207 (⟨by omega, by omega, hF_209⟩) (by show zx + 1 - (i + 1) < zx + 1 - j; omega) hO hR _ _ hP hD hS ls (lv_sub hl [0, 4, 5] rfl)
                  ·
                    have hi_216 : kk < zz := ltN (N := zz) c_168
                    refine lv_aload_n hx hb dX13_read_140 rfl (lv_at hl 4 rfl) ?_
                    refine pg_get (ci := 13) (v := .ref y1) (C := RX13) (T := TX13) (N := 5) hx hb hts it_13 hown hK hP hL_h0 hd2 rfl 2 (by decide) (hts _ kt_827) (fun _ h9 => h9) rfl dX13_read_141 ?_
                    refine lv_iload hx hb dX13_read_144 (lv_at hl 0 rfl) ?_
                    obtain ⟨f_217, hF_218, hq_219⟩ := hO.idb hi_2 ht_5
                    refine pg_iald hx hb hK hP hi_2 0 hF_218 rfl (vp_in_nI (by omega) (by omega)) dX13_read_146 ?_
                    obtain ⟨k_220, hk_221, ek_222⟩ := hq_219 ((nI kk) : Int32).toNatClampNeg
                    refine lv_topi (fun x_223 ex_223 => ?_)
                    obtain rfl : x_223 = nI k_220 := ex_223.trans ek_222
                    refine lv_aload_n hx hb dX13_read_147 rfl (lv_at hl 4 rfl) ?_
                    refine pg_get (ci := 13) (v := .ref y0) (C := RX13) (T := TX13) (N := 5) hx hb hts it_13 hown hK hP hL_h0 hd2 rfl 1 (by decide) (hts _ kt_826) (fun _ h9 => h9) rfl dX13_read_148 ?_
                    refine lv_iload hx hb dX13_read_151 (lv_at hl 0 rfl) ?_
                    obtain ⟨f_224, hF_225, hq_226⟩ := hO.idb hi_1 ht_4
                    refine pg_iald hx hb hK hP hi_1 0 hF_225 rfl (vp_in_nI (by omega) (by omega)) dX13_read_153 ?_
                    obtain ⟨k_227, hk_228, ek_229⟩ := hq_226 ((nI kk) : Int32).toNatClampNeg
                    refine lv_topi (fun x_230 ex_230 => ?_)
                    obtain rfl : x_230 = nI k_227 := ex_230.trans ek_229
                    refine lv_isub hx hb dX13_read_154 ?_
                    refine lv_topi (fun x_231 ex_231 => ?_)
                    obtain rfl : x_231 = ((nI k_220) - (nI k_227)) := ex_231.trans (rfl)
                    refine lv_iload hx hb dX13_read_155 (lv_at hl 1 rfl) ?_
                    refine lv_iload_n hx hb dX13_read_157 rfl (lv_at hl 3 rfl) ?_
                    refine lv_isub hx hb dX13_read_158 ?_
                    refine lv_topi (fun x_232 ex_232 => ?_)
                    obtain rfl : x_232 = (nI (ee - j)) := ex_232.trans (pk_sub (a := ee) (b := j) (by omega))
                    refine lv_icmp_ne (tgt := 183) hx hb dX13_read_159 (by decide) (fun c_233 => ?_) (fun c_233 => ?_)
                    ·
                      refine lv_iinc (v := (nI (kk + 1))) (lv' := [(5, .int (nI (kk + 1))), (4, .int (nI ee)), (3, .int (nI i)), (2, .int (nI j)), (0, .ref h0), (1, .int x1)]) hx hb dX13_read_183 hl (k := 0) rfl (nI_1 _) (by decide) rfl (fun ls hl => ?_)
                      refine lv_goto (tgt := 131) hx hb dX13_read_186 (by decide) ?_
                      refine W.widen (k := 0) (n := 0) (by omega) (by omega) ?_
                      exact ih_165 (kk + 1) F_161 (⟨by omega, hd2⟩) (by show 40 - (kk + 1) < 40 - kk; omega) hO hR _ _ hP hD hS ls (lv_sub hl [0, 1, 2, 3, 4, 5] rfl)
                    ·
                      have hsm := sub_eqN c_233 (by omega) (by omega) (by omega)
                      refine lv_aload_n hx hb dX13_read_162 rfl (lv_at hl 4 rfl) ?_
                      refine lv_aload_n hx hb dX13_read_163 rfl (lv_at hl 4 rfl) ?_
                      refine pg_get (ci := 13) (v := .ref y0) (C := RX13) (T := TX13) (N := 5) hx hb hts it_13 hown hK hP hL_h0 hd2 rfl 1 (by decide) (hts _ kt_826) (fun _ h9 => h9) rfl dX13_read_164 ?_
                      refine lv_iload hx hb dX13_read_167 (lv_at hl 0 rfl) ?_
                      refine pg_iald hx hb hK hP hi_1 0 hF_225 rfl (vp_in_nI (by omega) (by omega)) dX13_read_169 ?_
                      refine lv_topi (fun x_234 ex_234 => ?_)
                      obtain rfl : x_234 = nI k_227 := ex_234.trans ek_229
                      refine lv_iload_n hx hb dX13_read_170 rfl (lv_at hl 3 rfl) ?_
                      refine lv_iload hx hb dX13_read_171 (lv_at hl 1 rfl) ?_
                      refine lv_iload_n hx hb dX13_read_173 rfl (lv_at hl 3 rfl) ?_
                      refine lv_isub hx hb dX13_read_174 ?_
                      refine lv_topi (fun x_235 ex_235 => ?_)
                      obtain rfl : x_235 = (nI (ee - j)) := ex_235.trans (pk_sub (a := ee) (b := j) (by omega))
                      have hFc := pg_free hD hS hA
                      refine va_calli (va_runV (As := [.int (nI k_227), .int (nI j), .int (nI (ee - j))]) (rest := []) ⟨hx, hb, hml, hown, hts⟩ (s_X13_isSame l dC dI cs ty gm L H.size F_161 h0 ρ tx n Bn y0 y1 y2 tbx k_227 j (ee - j) hW hL_h0 hT_h0 hL_tx hT_tx (by first | omega | assumption | exact Or.inl rfl) (by first | omega | assumption | exact Or.inl rfl)) ⟨callB_of 3 hts (gi kt_835) rfl rfl rfl (hts _ kt_829) (hts _ kt_836) (by decide +kernel) ⟨Nat.le_of_ble_eq_true rfl, Nat.le_of_ble_eq_true rfl⟩, (hts _ kt_837), (hts _ kt_838)⟩ ⟨fun a U g mk q => ⟨q.1, PTm.calling q.2⟩, pg_recv hK hP hL_h0 hd2 (q := (RX13, TX13, 5)) rfl, fun U hU hWm => ⟨rfl, PTm.mk hU hWm hP hK hD hE hO⟩⟩ rfl rfl hl.1 rfl (lv_room (Nat.le_of_ble_eq_true rfl)) dX13_read_175 ⟨by show _ + 0 ≤ 0; omega, by show _ + 0 ≤ 0; omega⟩) hS (fun q _ h => hFc q h) hFc (fun r_236 u t H1 locs ht hvm hw hB hz1 hk1 hS => ?_)
                      obtain ⟨F_237, hB1⟩ := hB
                      obtain rfl : F_161 = F_237 := (funext (fun a => hB1.2.2.2 a List.not_mem_nil)).symm
                      obtain ⟨hP, hD, hO, hR⟩ := QTm.back hB1 ht hFc hR (fun q h => absurd h List.not_mem_nil)
                      generalize H1 = H at hP hS ⊢
                      have hw : (r_236 = 0 ∨ r_236 = 1) := hw
                      have hw_238 := hw
                      refine lv_if_eq (tgt := 183) hx hb dX13_read_178 (by decide) (fun c_239 => ?_) (fun c_239 => ?_)
                      ·
                        refine lv_iinc (v := (nI (kk + 1))) (lv' := [(5, .int (nI (kk + 1))), (4, .int (nI ee)), (3, .int (nI i)), (2, .int (nI j)), (0, .ref h0), (1, .int x1)]) hx hb dX13_read_183 hl (k := 0) rfl (nI_1 _) (by decide) rfl (fun ls hl => ?_)
                        refine lv_goto (tgt := 131) hx hb dX13_read_186 (by decide) ?_
                        refine W.widen (k := 0) (n := 0) (by omega) (by omega) ?_
                        exact ih_165 (kk + 1) F_161 (⟨by omega, hd2⟩) (by show 40 - (kk + 1) < 40 - kk; omega) hO hR _ _ hP hD hS ls (lv_sub hl [0, 1, 2, 3, 4, 5] rfl)
                      ·
                        refine lv_iconst (v := 0) hx hb dX13_read_181 (by decide) ?_
                        refine W.widen (k := 0) (n := 0) (by omega) (by omega) ?_
                        exact W.zret (v := 0) (ty := .boolean) hx hb hr (by decide) (fun t ht hWm => ⟨⟨0, (), rfl, (by first | exact Or.inl rfl | exact Or.inr rfl), ⟨F_161, zz, QTm.mk ht hP hD hO hR, hd2, by omega⟩⟩, hS.F ht⟩) hS.2.2 dX13_read_182
                ·
                  have hi_240 : zz = 40 := (nI_eq (a := zz) (b := 40) (by omega) (by omega)).mp c_159
                  refine lv_iconst (v := 0) hx hb dX13_read_126 (by decide) ?_
                  refine W.widen (k := 0) (n := 0) (by omega) (by omega) ?_
                  exact W.zret (v := 0) (ty := .boolean) hx hb hr (by decide) (fun t ht hWm => ⟨⟨0, (), rfl, (by first | exact Or.inl rfl | exact Or.inr rfl), ⟨F_34, zz, QTm.mk ht hP hD hO hR, hc3, by omega⟩⟩, hS.F ht⟩) hS.2.2 dX13_read_127
        ·
          refine lv_iinc (v := (nI (ee + 1))) (lv' := [(4, .int (nI (ee + 1))), (3, .int (nI i)), (2, .int (nI j)), (0, .ref h0), (1, .int x1)]) hx hb dX13_read_76 hl (k := 0) rfl (nI_1 _) (by decide) rfl (fun ls hl => ?_)
          refine lv_goto (tgt := 54) hx hb dX13_read_79 (by decide) ?_
          refine W.widen (k := 0) (n := 0) (by omega) (by omega) ?_
          exact ih_37 (ee + 1) F_34 (⟨by omega, by omega, hc3⟩) (by show i - (ee + 1) < i - ee; omega) hO hR _ _ hP hD hS ls (lv_sub hl [0, 1, 2, 3, 4] rfl)
    ·
      have hi_241 : i < zx := ltN (N := zx) c_32
      refine lv_aload_n hx hb dX13_read_34 rfl (lv_at hl 3 rfl) ?_
      refine pg_get (ci := 13) (v := .ref tx) (C := RX13) (T := TX13) (N := 5) hx hb hts it_13 hown hK hP hL_h0 hb3 rfl 0 (by decide) (hts _ kt_824) (fun _ h9 => h9) rfl dX13_read_35 ?_
      refine pg_get (ci := 14) (v := .ref tbx) (C := RX14) (T := TX14) (N := 2) hx hb hts it_14 hown hK hP hL_tx hF_31 rfl 0 (by decide) (hts _ kt_825) (fun _ h9 => h9) rfl dX13_read_38 ?_
      refine lv_iload_n hx hb dX13_read_41 rfl (lv_at hl 1 rfl) ?_
      obtain ⟨hq_242, hq_243⟩ := hW.octs hi_9 ht_10
      obtain ⟨f_244, hF_245, hq_246⟩ := hO.octs hi_9 ht_10
      refine pg_bald hx hb hK hP hi_9 1 hF_245 rfl (vp_in_nI (by omega) (by omega)) dX13_read_42 ?_
      refine lv_topi (fun x_247 ex_247 => ?_)
      obtain rfl : x_247 = f_244 i := ex_247.trans (congrArg f_244 (show ((nI i) : Int32).toNatClampNeg = i from nI_clamp (by omega)))
      refine lv_bipush (v := 59) hx hb dX13_read_43 (by decide) ?_
      refine lv_icmp_eq (tgt := 54) hx hb dX13_read_45 (by decide) (fun c_248 => ?_) (fun c_248 => ?_)
      ·
        refine W.widen (k := 0) (n := 0) (by omega) (by omega) ?_
        have hF_250 : F tx = .inr (14, [.ref tbx, .int (nI zx)]) := (hR tx (by rw [hT_tx]; simp)).symm.trans hF_31
        have hF_251 : F tbx = .inl (cs 17, n, .inl f_244) := (hR tbx (by rw [ht_10]; simp)).symm.trans hF_245
        refine pl_loopm (σ := Nat) A (dC, dI) cs ty gm L [ρ, ρ + 70, ρ + 71] F 54 6 (fun ee => [(4, .int (nI ee)), (3, .int (nI i)), (2, .int (nI j)), (0, .ref h0), (1, .int x1)]) (fun ee => []) (fun ee FF => j ≤ ee ∧ ee ≤ i ∧ FF h0 = .inr (13, [.ref tx, .ref y0, .ref y1, .ref y2, .int (nI zz)])) (fun ee => i - ee) ?_ j F_27 (⟨by omega, by omega, hb3⟩) hO hR _ _ hP hD hS ls (lv_sub hl [0, 1, 2, 3, 4] rfl)
        rintro ee F_249 hv_252 hO hR ih_253 H locs hP hD hS ls hl
        have hl : lv_has ls 6 [(4, .int (nI ee)), (3, .int (nI i)), (2, .int (nI j)), (0, .ref h0), (1, .int x1)] := hl
        have hv_252 : j ≤ ee ∧ ee ≤ i ∧ F_249 h0 = .inr (13, [.ref tx, .ref y0, .ref y1, .ref y2, .int (nI zz)]) := hv_252
        refine W.eq (g2 := F0 m 54 ls []) rfl ?_
        have hF_254 : F_249 tx = .inr (14, [.ref tbx, .int (nI zx)]) := (hR tx (by rw [hT_tx]; simp)).trans hF_250
        have hF_255 : F_249 tbx = .inl (cs 17, n, .inl f_244) := (hR tbx (by rw [ht_10]; simp)).trans hF_251
        obtain ⟨hc1, hc2, hc3⟩ := hv_252
        refine lv_iload hx hb dX13_read_54 (lv_at hl 0 rfl) ?_
        refine lv_iload_n hx hb dX13_read_56 rfl (lv_at hl 1 rfl) ?_
        refine lv_icmp_ge (tgt := 82) hx hb dX13_read_57 (by decide) (fun c_256 => ?_) (fun c_256 => ?_)
        ·
          have hi_257 : i ≤ ee := leN (N := i) c_256
          refine lv_iload hx hb dX13_read_82 (lv_at hl 0 rfl) ?_
          refine lv_iload_n hx hb dX13_read_84 rfl (lv_at hl 2 rfl) ?_
          refine lv_isub hx hb dX13_read_85 ?_
          refine lv_topi (fun x_258 ex_258 => ?_)
          obtain rfl : x_258 = (nI (ee - j)) := ex_258.trans (pk_sub (a := ee) (b := j) (by omega))
          refine lv_i2l (v := (nI (ee - j)).toInt64) hx hb dX13_read_86 rfl ?_
          refine lv_lconst (v := 1) hx hb dX13_read_87 (by decide) ?_
          refine lv_iload_n hx hb dX13_read_88 rfl (lv_at hl 4 rfl) ?_
          refine lv_i2l (v := x1.toInt64) hx hb dX13_read_89 rfl ?_
          have hFc := pg_free hD hS hA
          refine va_calli (va_runSN (As := [.long ((nI (ee - j)).toInt64), .long 1, .long x1.toInt64]) (rest := []) ⟨hx, hb, hml, hown, hts⟩ (s_X15_in l dC dI cs ty gm L H.size F_249 ((nI (ee - j)).toInt64) 1 x1.toInt64 hW ) ⟨va_cnB 3 hts (gi kt_685) rfl rfl rfl (hE.nestw kn_42) (hts _ kt_669) (by decide +kernel) ⟨Nat.le_of_ble_eq_true rfl, Nat.le_of_ble_eq_true rfl⟩, (hts _ kt_686), trivial⟩ ⟨fun a U g mk q => ⟨q.1, PTm.calling q.2⟩, fun U hU hWm => ⟨rfl, PTm.mk hU hWm hP hK hD hE hO⟩⟩ rfl rfl hl.1 rfl (lv_room (Nat.le_of_ble_eq_true rfl)) dX13_read_90 ⟨by show _ + 0 ≤ 0; omega, by show _ + 0 ≤ 0; omega⟩) hS (fun q _ h => hFc q h) hFc (fun r_259 u t H1 locs ht hvm hw hB hz1 hk1 hS => ?_)
          obtain ⟨F_260, hB1⟩ := hB
          obtain rfl : F_249 = F_260 := (funext (fun a => hB1.2.2.2 a List.not_mem_nil)).symm
          obtain ⟨hP, hD, hO, hR⟩ := QTm.back hB1 ht hFc hR (fun q h => absurd h List.not_mem_nil)
          generalize H1 = H at hP hS ⊢
          have hw : r_259 = (if 1 ≤ (nI (ee - j)).toInt64 ∧ (nI (ee - j)).toInt64 ≤ x1.toInt64 then 1 else 0) := hw
          have hw_261 := hw
          refine lv_if_eq (tgt := 126) hx hb dX13_read_93 (by decide) (fun c_262 => ?_) (fun c_262 => ?_)
          ·
            refine lv_iconst (v := 0) hx hb dX13_read_126 (by decide) ?_
            refine W.widen (k := 0) (n := 0) (by omega) (by omega) ?_
            exact W.zret (v := 0) (ty := .boolean) hx hb hr (by decide) (fun t ht hWm => ⟨⟨0, (), rfl, (by first | exact Or.inl rfl | exact Or.inr rfl), ⟨F_249, zz, QTm.mk ht hP hD hO hR, hc3, by omega⟩⟩, hS.F ht⟩) hS.2.2 dX13_read_127
          ·
            refine lv_iload hx hb dX13_read_96 (lv_at hl 0 rfl) ?_
            refine lv_iload_n hx hb dX13_read_98 rfl (lv_at hl 1 rfl) ?_
            refine lv_icmp_eq (tgt := 126) hx hb dX13_read_99 (by decide) (fun c_263 => ?_) (fun c_263 => ?_)
            ·
              have hi_264 : ee = i := (nI_eq (a := ee) (b := i) (by omega) (by omega)).mp c_263
              refine lv_iconst (v := 0) hx hb dX13_read_126 (by decide) ?_
              refine W.widen (k := 0) (n := 0) (by omega) (by omega) ?_
              exact W.zret (v := 0) (ty := .boolean) hx hb hr (by decide) (fun t ht hWm => ⟨⟨0, (), rfl, (by first | exact Or.inl rfl | exact Or.inr rfl), ⟨F_249, zz, QTm.mk ht hP hD hO hR, hc3, by omega⟩⟩, hS.F ht⟩) hS.2.2 dX13_read_127
            ·
              have hi_265 : ee ≠ i := fun q => c_263 (by rw [q])
              refine lv_aload_n hx hb dX13_read_102 rfl (lv_at hl 3 rfl) ?_
              refine pg_get (ci := 13) (v := .ref tx) (C := RX13) (T := TX13) (N := 5) hx hb hts it_13 hown hK hP hL_h0 hc3 rfl 0 (by decide) (hts _ kt_824) (fun _ h9 => h9) rfl dX13_read_103 ?_
              refine pg_get (ci := 14) (v := .ref tbx) (C := RX14) (T := TX14) (N := 2) hx hb hts it_14 hown hK hP hL_tx hF_254 rfl 0 (by decide) (hts _ kt_825) (fun _ h9 => h9) rfl dX13_read_106 ?_
              refine lv_iload hx hb dX13_read_109 (lv_at hl 0 rfl) ?_
              refine pg_bald hx hb hK hP hi_9 1 hF_255 rfl (vp_in_nI (by omega) (by omega)) dX13_read_111 ?_
              refine lv_topi (fun x_266 ex_266 => ?_)
              obtain rfl : x_266 = f_244 ee := ex_266.trans (congrArg f_244 (show ((nI ee) : Int32).toNatClampNeg = ee from nI_clamp (by omega)))
              refine lv_bipush (v := 61) hx hb dX13_read_112 (by decide) ?_
              refine lv_icmp_ne (tgt := 126) hx hb dX13_read_114 (by decide) (fun c_267 => ?_) (fun c_267 => ?_)
              ·
                refine lv_iconst (v := 0) hx hb dX13_read_126 (by decide) ?_
                refine W.widen (k := 0) (n := 0) (by omega) (by omega) ?_
                exact W.zret (v := 0) (ty := .boolean) hx hb hr (by decide) (fun t ht hWm => ⟨⟨0, (), rfl, (by first | exact Or.inl rfl | exact Or.inr rfl), ⟨F_249, zz, QTm.mk ht hP hD hO hR, hc3, by omega⟩⟩, hS.F ht⟩) hS.2.2 dX13_read_127
              ·
                refine lv_aload_n hx hb dX13_read_117 rfl (lv_at hl 3 rfl) ?_
                refine pg_get (ci := 13) (v := .int (nI zz)) (C := RX13) (T := TX13) (N := 5) hx hb hts it_13 hown hK hP hL_h0 hc3 rfl 4 (by decide) (hts _ kt_823) (fun _ h9 => h9) rfl dX13_read_118 ?_
                refine lv_bipush (v := 40) hx hb dX13_read_121 (by decide) ?_
                refine lv_icmp_ne (tgt := 128) hx hb dX13_read_123 (by decide) (fun c_268 => ?_) (fun c_268 => ?_)
                ·
                  have hi_269 : zz ≠ 40 := fun q => c_268 (by rw [q]; rfl)
                  refine lv_iconst (v := 0) hx hb dX13_read_128 (by decide) ?_
                  refine lv_istore (lv' := [(5, .int 0), (4, .int (nI ee)), (3, .int (nI i)), (2, .int (nI j)), (0, .ref h0), (1, .int x1)]) hx hb dX13_read_129 hl (by decide) rfl (fun ls hl => ?_)
                  refine W.widen (k := 0) (n := 0) (by omega) (by omega) ?_
                  have hF_271 : F tx = .inr (14, [.ref tbx, .int (nI zx)]) := (hR tx (by rw [hT_tx]; simp)).symm.trans hF_254
                  have hF_272 : F tbx = .inl (cs 17, n, .inl f_244) := (hR tbx (by rw [ht_10]; simp)).symm.trans hF_255
                  refine pl_loopm (σ := Nat) A (dC, dI) cs ty gm L [ρ, ρ + 70, ρ + 71] F 131 6 (fun kk => [(5, .int (nI kk)), (4, .int (nI ee)), (3, .int (nI i)), (2, .int (nI j)), (0, .ref h0), (1, .int x1)]) (fun kk => []) (fun kk FF => kk ≤ 40 ∧ FF h0 = .inr (13, [.ref tx, .ref y0, .ref y1, .ref y2, .int (nI zz)])) (fun kk => 40 - kk) ?_ 0 F_249 (⟨by omega, hc3⟩) hO hR _ _ hP hD hS ls (lv_sub hl [0, 1, 2, 3, 4, 5] rfl)
                  rintro kk F_270 hv_273 hO hR ih_274 H locs hP hD hS ls hl
                  have hl : lv_has ls 6 [(5, .int (nI kk)), (4, .int (nI ee)), (3, .int (nI i)), (2, .int (nI j)), (0, .ref h0), (1, .int x1)] := hl
                  have hv_273 : kk ≤ 40 ∧ F_270 h0 = .inr (13, [.ref tx, .ref y0, .ref y1, .ref y2, .int (nI zz)]) := hv_273
                  refine W.eq (g2 := F0 m 131 ls []) rfl ?_
                  have hF_275 : F_270 tx = .inr (14, [.ref tbx, .int (nI zx)]) := (hR tx (by rw [hT_tx]; simp)).trans hF_271
                  have hF_276 : F_270 tbx = .inl (cs 17, n, .inl f_244) := (hR tbx (by rw [ht_10]; simp)).trans hF_272
                  obtain ⟨hd1, hd2⟩ := hv_273
                  refine lv_iload hx hb dX13_read_131 (lv_at hl 0 rfl) ?_
                  refine lv_aload_n hx hb dX13_read_133 rfl (lv_at hl 4 rfl) ?_
                  refine pg_get (ci := 13) (v := .int (nI zz)) (C := RX13) (T := TX13) (N := 5) hx hb hts it_13 hown hK hP hL_h0 hd2 rfl 4 (by decide) (hts _ kt_823) (fun _ h9 => h9) rfl dX13_read_134 ?_
                  refine lv_icmp_ge (tgt := 189) hx hb dX13_read_137 (by decide) (fun c_277 => ?_) (fun c_277 => ?_)
                  ·
                    have hi_278 : zz ≤ kk := leN (N := zz) c_277
                    refine lv_aload_n hx hb dX13_read_189 rfl (lv_at hl 4 rfl) ?_
                    refine pg_get (ci := 13) (v := .ref y0) (C := RX13) (T := TX13) (N := 5) hx hb hts it_13 hown hK hP hL_h0 hd2 rfl 1 (by decide) (hts _ kt_826) (fun _ h9 => h9) rfl dX13_read_190 ?_
                    refine lv_aload_n hx hb dX13_read_193 rfl (lv_at hl 4 rfl) ?_
                    refine pg_get (ci := 13) (v := .int (nI zz)) (C := RX13) (T := TX13) (N := 5) hx hb hts it_13 hown hK hP hL_h0 hd2 rfl 4 (by decide) (hts _ kt_823) (fun _ h9 => h9) rfl dX13_read_194 ?_
                    refine lv_iload_n hx hb dX13_read_197 rfl (lv_at hl 3 rfl) ?_
                    obtain ⟨f_279, hF_280, hq_281⟩ := hO.idb hi_1 ht_4
                    refine pg_iast hx hb hK hP hD hS hi_1 0 hF_280 rfl (vp_in_nI (by omega) (by omega)) dX13_read_198 (fun H locs hP hD hS => ?_)
                    obtain ⟨F_282, he_283, hP, hD, hO, hR⟩ : ∃ G, G = va_up F_270 y0 (.inl (cs 16, 40, .inl (upd f_279 ((nI zz)).toNatClampNeg ((nI j))))) ∧ va_P (dC, dI) vwCl (va_pl L G) H ∧ va_D A (va_pl L G) ∧ OKm cs ty gm L G ∧ FR ty [ρ, ρ + 70, ρ + 71] F G := ⟨_, rfl, hP, hD, hO.up (shm.idb ht_4 ⟨_, rfl, ixb_upd hq_281 _ _ (by omega)⟩), hR.up ht_4 (by simp)⟩
                    have hF_284 : F_282 y0 = .inl (cs 16, 40, .inl (upd f_279 ((nI zz)).toNatClampNeg ((nI j)))) := by rw [he_283]; exact up_self
                    have hF_285 : F_282 tx = .inr (14, [.ref tbx, .int (nI zx)]) := by rw [he_283, up_ne (ne_ty hT_tx ht_4 (by simp))]; exact hF_275
                    have hF_286 : F_282 tbx = .inl (cs 17, n, .inl f_244) := by rw [he_283, up_ne (ne_ty ht_10 ht_4 (by simp))]; exact hF_276
                    have hF_287 : F_282 h0 = .inr (13, [.ref tx, .ref y0, .ref y1, .ref y2, .int (nI zz)]) := by rw [he_283, up_ne (ne_ty hT_h0 ht_4 (by simp))]; exact hd2
                    obtain ⟨f_288, hF_284, hq_289⟩ : ∃ f : Nat → Int32, F_282 y0 = .inl (cs 16, 40, .inl f) ∧ IXB Bn f := ⟨_, hF_284, ixb_upd hq_281 _ _ (by omega)⟩
                    refine lv_aload_n hx hb dX13_read_199 rfl (lv_at hl 4 rfl) ?_
                    refine pg_get (ci := 13) (v := .ref y1) (C := RX13) (T := TX13) (N := 5) hx hb hts it_13 hown hK hP hL_h0 hF_287 rfl 2 (by decide) (hts _ kt_827) (fun _ h9 => h9) rfl dX13_read_200 ?_
                    refine lv_aload_n hx hb dX13_read_203 rfl (lv_at hl 4 rfl) ?_
                    refine pg_get (ci := 13) (v := .int (nI zz)) (C := RX13) (T := TX13) (N := 5) hx hb hts it_13 hown hK hP hL_h0 hF_287 rfl 4 (by decide) (hts _ kt_823) (fun _ h9 => h9) rfl dX13_read_204 ?_
                    refine lv_iload hx hb dX13_read_207 (lv_at hl 1 rfl) ?_
                    obtain ⟨f_290, hF_291, hq_292⟩ := hO.idb hi_2 ht_5
                    refine pg_iast hx hb hK hP hD hS hi_2 0 hF_291 rfl (vp_in_nI (by omega) (by omega)) dX13_read_209 (fun H locs hP hD hS => ?_)
                    obtain ⟨F_293, he_294, hP, hD, hO, hR⟩ : ∃ G, G = va_up F_282 y1 (.inl (cs 16, 40, .inl (upd f_290 ((nI zz)).toNatClampNeg ((nI ee))))) ∧ va_P (dC, dI) vwCl (va_pl L G) H ∧ va_D A (va_pl L G) ∧ OKm cs ty gm L G ∧ FR ty [ρ, ρ + 70, ρ + 71] F G := ⟨_, rfl, hP, hD, hO.up (shm.idb ht_5 ⟨_, rfl, ixb_upd hq_292 _ _ (by omega)⟩), hR.up ht_5 (by simp)⟩
                    have hF_295 : F_293 y1 = .inl (cs 16, 40, .inl (upd f_290 ((nI zz)).toNatClampNeg ((nI ee)))) := by rw [he_294]; exact up_self
                    have hF_296 : F_293 y0 = .inl (cs 16, 40, .inl f_288) := by rw [he_294, up_ne (ne_ty2 ht_4 ht_5 (by simp))]; exact hF_284
                    have hF_297 : F_293 tx = .inr (14, [.ref tbx, .int (nI zx)]) := by rw [he_294, up_ne (ne_ty hT_tx ht_5 (by simp))]; exact hF_285
                    have hF_298 : F_293 tbx = .inl (cs 17, n, .inl f_244) := by rw [he_294, up_ne (ne_ty ht_10 ht_5 (by simp))]; exact hF_286
                    have hF_299 : F_293 h0 = .inr (13, [.ref tx, .ref y0, .ref y1, .ref y2, .int (nI zz)]) := by rw [he_294, up_ne (ne_ty hT_h0 ht_5 (by simp))]; exact hF_287
                    obtain ⟨f_300, hF_295, hq_301⟩ : ∃ f : Nat → Int32, F_293 y1 = .inl (cs 16, 40, .inl f) ∧ IXB Bn f := ⟨_, hF_295, ixb_upd hq_292 _ _ (by omega)⟩
                    refine lv_aload_n hx hb dX13_read_210 rfl (lv_at hl 4 rfl) ?_
                    refine pg_get (ci := 13) (v := .ref y2) (C := RX13) (T := TX13) (N := 5) hx hb hts it_13 hown hK hP hL_h0 hF_299 rfl 3 (by decide) (hts _ kt_833) (fun _ h9 => h9) rfl dX13_read_211 ?_
                    refine lv_aload_n hx hb dX13_read_214 rfl (lv_at hl 4 rfl) ?_
                    refine pg_get (ci := 13) (v := .int (nI zz)) (C := RX13) (T := TX13) (N := 5) hx hb hts it_13 hown hK hP hL_h0 hF_299 rfl 4 (by decide) (hts _ kt_823) (fun _ h9 => h9) rfl dX13_read_215 ?_
                    refine lv_iload_n hx hb dX13_read_218 rfl (lv_at hl 2 rfl) ?_
                    obtain ⟨f_302, hF_303, hq_304⟩ := hO.idb hi_3 ht_6
                    refine pg_iast hx hb hK hP hD hS hi_3 0 hF_303 rfl (vp_in_nI (by omega) (by omega)) dX13_read_219 (fun H locs hP hD hS => ?_)
                    obtain ⟨F_305, he_306, hP, hD, hO, hR⟩ : ∃ G, G = va_up F_293 y2 (.inl (cs 16, 40, .inl (upd f_302 ((nI zz)).toNatClampNeg ((nI i))))) ∧ va_P (dC, dI) vwCl (va_pl L G) H ∧ va_D A (va_pl L G) ∧ OKm cs ty gm L G ∧ FR ty [ρ, ρ + 70, ρ + 71] F G := ⟨_, rfl, hP, hD, hO.up (shm.idb ht_6 ⟨_, rfl, ixb_upd hq_304 _ _ (by omega)⟩), hR.up ht_6 (by simp)⟩
                    have hF_307 : F_305 y2 = .inl (cs 16, 40, .inl (upd f_302 ((nI zz)).toNatClampNeg ((nI i)))) := by rw [he_306]; exact up_self
                    have hF_308 : F_305 y1 = .inl (cs 16, 40, .inl f_300) := by rw [he_306, up_ne (ne_ty2 ht_5 ht_6 (by simp))]; exact hF_295
                    have hF_309 : F_305 y0 = .inl (cs 16, 40, .inl f_288) := by rw [he_306, up_ne (ne_ty2 ht_4 ht_6 (by simp))]; exact hF_296
                    have hF_310 : F_305 tx = .inr (14, [.ref tbx, .int (nI zx)]) := by rw [he_306, up_ne (ne_ty hT_tx ht_6 (by simp))]; exact hF_297
                    have hF_311 : F_305 tbx = .inl (cs 17, n, .inl f_244) := by rw [he_306, up_ne (ne_ty ht_10 ht_6 (by simp))]; exact hF_298
                    have hF_312 : F_305 h0 = .inr (13, [.ref tx, .ref y0, .ref y1, .ref y2, .int (nI zz)]) := by rw [he_306, up_ne (ne_ty hT_h0 ht_6 (by simp))]; exact hF_299
                    obtain ⟨f_313, hF_307, hq_314⟩ : ∃ f : Nat → Int32, F_305 y2 = .inl (cs 16, 40, .inl f) ∧ IXB Bn f := ⟨_, hF_307, ixb_upd hq_304 _ _ (by omega)⟩
                    refine lv_aload_n hx hb dX13_read_220 rfl (lv_at hl 4 rfl) ?_
                    refine lv_dup hx hb dX13_read_221 rfl ?_
                    refine pg_get (ci := 13) (v := .int (nI zz)) (C := RX13) (T := TX13) (N := 5) hx hb hts it_13 hown hK hP hL_h0 hF_312 rfl 4 (by decide) (hts _ kt_823) (fun _ h9 => h9) rfl dX13_read_222 ?_
                    refine lv_iconst (v := 1) hx hb dX13_read_225 (by decide) ?_
                    refine lv_iadd hx hb dX13_read_226 ?_
                    refine lv_topi (fun x_315 ex_315 => ?_)
                    obtain rfl : x_315 = (nI (zz + 1)) := ex_315.trans (nI_add zz 1)
                    refine pg_put (ci := 13) (v := .int (nI (zz + 1))) (ty := .int) (C := RX13) (T := TX13) (N := 5) hx hb hts it_13 tyX13 tyX13_ok nmX13 hown hK hP hD hS hL_h0 hF_312 rfl 4 (by decide) (hts _ kt_823) (fun _ h9 => h9) rfl (by decide +kernel) (rfl) (rfl) (Nat.le_of_ble_eq_true rfl) dX13_read_227 (fun H locs hP hD hS => ?_)
                    obtain ⟨F_316, he_317, hP, hD, hO, hR⟩ : ∃ G, G = va_up F_305 h0 (.inr (13, [.ref tx, .ref y0, .ref y1, .ref y2, .int (nI (zz + 1))])) ∧ va_P (dC, dI) vwCl (va_pl L G) H ∧ va_D A (va_pl L G) ∧ OKm cs ty gm L G ∧ FR ty [ρ, ρ + 70, ρ + 71] F G := ⟨_, rfl, hP, hD, hO.up (shm.tags hT_h0 ⟨(zz + 1), rfl, (by first | omega | assumption | exact Or.inl rfl | exact Or.inr rfl)⟩), hR.up hT_h0 (by simp)⟩
                    have hF_318 : F_316 h0 = .inr (13, [.ref tx, .ref y0, .ref y1, .ref y2, .int (nI (zz + 1))]) := by rw [he_317]; exact up_self
                    have hF_319 : F_316 y2 = .inl (cs 16, 40, .inl f_313) := by rw [he_317, up_ne (ne_ty ht_6 hT_h0 (by simp))]; exact hF_307
                    have hF_320 : F_316 y1 = .inl (cs 16, 40, .inl f_300) := by rw [he_317, up_ne (ne_ty ht_5 hT_h0 (by simp))]; exact hF_308
                    have hF_321 : F_316 y0 = .inl (cs 16, 40, .inl f_288) := by rw [he_317, up_ne (ne_ty ht_4 hT_h0 (by simp))]; exact hF_309
                    have hF_322 : F_316 tx = .inr (14, [.ref tbx, .int (nI zx)]) := by rw [he_317, up_ne (ne_ty hT_tx hT_h0 (by simp))]; exact hF_310
                    have hF_323 : F_316 tbx = .inl (cs 17, n, .inl f_244) := by rw [he_317, up_ne (ne_ty ht_10 hT_h0 (by simp))]; exact hF_311
                    refine lv_iload_n hx hb dX13_read_230 rfl (lv_at hl 2 rfl) ?_
                    refine lv_iconst (v := 1) hx hb dX13_read_231 (by decide) ?_
                    refine lv_iadd hx hb dX13_read_232 ?_
                    refine lv_topi (fun x_324 ex_324 => ?_)
                    obtain rfl : x_324 = (nI (i + 1)) := ex_324.trans (nI_add i 1)
                    refine lv_istore_n (lv' := [(2, .int (nI (i + 1))), (5, .int (nI kk)), (4, .int (nI ee)), (3, .int (nI i)), (0, .ref h0), (1, .int x1)]) hx hb dX13_read_233 rfl hl (by decide) rfl (fun ls hl => ?_)
                    refine lv_goto (tgt := 7) hx hb dX13_read_234 (by decide) ?_
                    refine W.widen (k := 0) (n := 0) (by omega) (by omega) ?_
                    exact ih_22 ((i + 1), (zz + 1)) F_316 (⟨by omega, by omega, hF_318⟩) (by show zx + 1 - (i + 1) < zx + 1 - j; omega) hO hR _ _ hP hD hS ls (lv_sub hl [0, 4, 5] rfl)
                  ·
                    have hi_325 : kk < zz := ltN (N := zz) c_277
                    refine lv_aload_n hx hb dX13_read_140 rfl (lv_at hl 4 rfl) ?_
                    refine pg_get (ci := 13) (v := .ref y1) (C := RX13) (T := TX13) (N := 5) hx hb hts it_13 hown hK hP hL_h0 hd2 rfl 2 (by decide) (hts _ kt_827) (fun _ h9 => h9) rfl dX13_read_141 ?_
                    refine lv_iload hx hb dX13_read_144 (lv_at hl 0 rfl) ?_
                    obtain ⟨f_326, hF_327, hq_328⟩ := hO.idb hi_2 ht_5
                    refine pg_iald hx hb hK hP hi_2 0 hF_327 rfl (vp_in_nI (by omega) (by omega)) dX13_read_146 ?_
                    obtain ⟨k_329, hk_330, ek_331⟩ := hq_328 ((nI kk) : Int32).toNatClampNeg
                    refine lv_topi (fun x_332 ex_332 => ?_)
                    obtain rfl : x_332 = nI k_329 := ex_332.trans ek_331
                    refine lv_aload_n hx hb dX13_read_147 rfl (lv_at hl 4 rfl) ?_
                    refine pg_get (ci := 13) (v := .ref y0) (C := RX13) (T := TX13) (N := 5) hx hb hts it_13 hown hK hP hL_h0 hd2 rfl 1 (by decide) (hts _ kt_826) (fun _ h9 => h9) rfl dX13_read_148 ?_
                    refine lv_iload hx hb dX13_read_151 (lv_at hl 0 rfl) ?_
                    obtain ⟨f_333, hF_334, hq_335⟩ := hO.idb hi_1 ht_4
                    refine pg_iald hx hb hK hP hi_1 0 hF_334 rfl (vp_in_nI (by omega) (by omega)) dX13_read_153 ?_
                    obtain ⟨k_336, hk_337, ek_338⟩ := hq_335 ((nI kk) : Int32).toNatClampNeg
                    refine lv_topi (fun x_339 ex_339 => ?_)
                    obtain rfl : x_339 = nI k_336 := ex_339.trans ek_338
                    refine lv_isub hx hb dX13_read_154 ?_
                    refine lv_topi (fun x_340 ex_340 => ?_)
                    obtain rfl : x_340 = ((nI k_329) - (nI k_336)) := ex_340.trans (rfl)
                    refine lv_iload hx hb dX13_read_155 (lv_at hl 1 rfl) ?_
                    refine lv_iload_n hx hb dX13_read_157 rfl (lv_at hl 3 rfl) ?_
                    refine lv_isub hx hb dX13_read_158 ?_
                    refine lv_topi (fun x_341 ex_341 => ?_)
                    obtain rfl : x_341 = (nI (ee - j)) := ex_341.trans (pk_sub (a := ee) (b := j) (by omega))
                    refine lv_icmp_ne (tgt := 183) hx hb dX13_read_159 (by decide) (fun c_342 => ?_) (fun c_342 => ?_)
                    ·
                      refine lv_iinc (v := (nI (kk + 1))) (lv' := [(5, .int (nI (kk + 1))), (4, .int (nI ee)), (3, .int (nI i)), (2, .int (nI j)), (0, .ref h0), (1, .int x1)]) hx hb dX13_read_183 hl (k := 0) rfl (nI_1 _) (by decide) rfl (fun ls hl => ?_)
                      refine lv_goto (tgt := 131) hx hb dX13_read_186 (by decide) ?_
                      refine W.widen (k := 0) (n := 0) (by omega) (by omega) ?_
                      exact ih_274 (kk + 1) F_270 (⟨by omega, hd2⟩) (by show 40 - (kk + 1) < 40 - kk; omega) hO hR _ _ hP hD hS ls (lv_sub hl [0, 1, 2, 3, 4, 5] rfl)
                    ·
                      have hsm := sub_eqN c_342 (by omega) (by omega) (by omega)
                      refine lv_aload_n hx hb dX13_read_162 rfl (lv_at hl 4 rfl) ?_
                      refine lv_aload_n hx hb dX13_read_163 rfl (lv_at hl 4 rfl) ?_
                      refine pg_get (ci := 13) (v := .ref y0) (C := RX13) (T := TX13) (N := 5) hx hb hts it_13 hown hK hP hL_h0 hd2 rfl 1 (by decide) (hts _ kt_826) (fun _ h9 => h9) rfl dX13_read_164 ?_
                      refine lv_iload hx hb dX13_read_167 (lv_at hl 0 rfl) ?_
                      refine pg_iald hx hb hK hP hi_1 0 hF_334 rfl (vp_in_nI (by omega) (by omega)) dX13_read_169 ?_
                      refine lv_topi (fun x_343 ex_343 => ?_)
                      obtain rfl : x_343 = nI k_336 := ex_343.trans ek_338
                      refine lv_iload_n hx hb dX13_read_170 rfl (lv_at hl 3 rfl) ?_
                      refine lv_iload hx hb dX13_read_171 (lv_at hl 1 rfl) ?_
                      refine lv_iload_n hx hb dX13_read_173 rfl (lv_at hl 3 rfl) ?_
                      refine lv_isub hx hb dX13_read_174 ?_
                      refine lv_topi (fun x_344 ex_344 => ?_)
                      obtain rfl : x_344 = (nI (ee - j)) := ex_344.trans (pk_sub (a := ee) (b := j) (by omega))
                      have hFc := pg_free hD hS hA
                      refine va_calli (va_runV (As := [.int (nI k_336), .int (nI j), .int (nI (ee - j))]) (rest := []) ⟨hx, hb, hml, hown, hts⟩ (s_X13_isSame l dC dI cs ty gm L H.size F_270 h0 ρ tx n Bn y0 y1 y2 tbx k_336 j (ee - j) hW hL_h0 hT_h0 hL_tx hT_tx (by first | omega | assumption | exact Or.inl rfl) (by first | omega | assumption | exact Or.inl rfl)) ⟨callB_of 3 hts (gi kt_835) rfl rfl rfl (hts _ kt_829) (hts _ kt_836) (by decide +kernel) ⟨Nat.le_of_ble_eq_true rfl, Nat.le_of_ble_eq_true rfl⟩, (hts _ kt_837), (hts _ kt_838)⟩ ⟨fun a U g mk q => ⟨q.1, PTm.calling q.2⟩, pg_recv hK hP hL_h0 hd2 (q := (RX13, TX13, 5)) rfl, fun U hU hWm => ⟨rfl, PTm.mk hU hWm hP hK hD hE hO⟩⟩ rfl rfl hl.1 rfl (lv_room (Nat.le_of_ble_eq_true rfl)) dX13_read_175 ⟨by show _ + 0 ≤ 0; omega, by show _ + 0 ≤ 0; omega⟩) hS (fun q _ h => hFc q h) hFc (fun r_345 u t H1 locs ht hvm hw hB hz1 hk1 hS => ?_)
                      obtain ⟨F_346, hB1⟩ := hB
                      obtain rfl : F_270 = F_346 := (funext (fun a => hB1.2.2.2 a List.not_mem_nil)).symm
                      obtain ⟨hP, hD, hO, hR⟩ := QTm.back hB1 ht hFc hR (fun q h => absurd h List.not_mem_nil)
                      generalize H1 = H at hP hS ⊢
                      have hw : (r_345 = 0 ∨ r_345 = 1) := hw
                      have hw_347 := hw
                      refine lv_if_eq (tgt := 183) hx hb dX13_read_178 (by decide) (fun c_348 => ?_) (fun c_348 => ?_)
                      ·
                        refine lv_iinc (v := (nI (kk + 1))) (lv' := [(5, .int (nI (kk + 1))), (4, .int (nI ee)), (3, .int (nI i)), (2, .int (nI j)), (0, .ref h0), (1, .int x1)]) hx hb dX13_read_183 hl (k := 0) rfl (nI_1 _) (by decide) rfl (fun ls hl => ?_)
                        refine lv_goto (tgt := 131) hx hb dX13_read_186 (by decide) ?_
                        refine W.widen (k := 0) (n := 0) (by omega) (by omega) ?_
                        exact ih_274 (kk + 1) F_270 (⟨by omega, hd2⟩) (by show 40 - (kk + 1) < 40 - kk; omega) hO hR _ _ hP hD hS ls (lv_sub hl [0, 1, 2, 3, 4, 5] rfl)
                      ·
                        refine lv_iconst (v := 0) hx hb dX13_read_181 (by decide) ?_
                        refine W.widen (k := 0) (n := 0) (by omega) (by omega) ?_
                        exact W.zret (v := 0) (ty := .boolean) hx hb hr (by decide) (fun t ht hWm => ⟨⟨0, (), rfl, (by first | exact Or.inl rfl | exact Or.inr rfl), ⟨F_270, zz, QTm.mk ht hP hD hO hR, hd2, by omega⟩⟩, hS.F ht⟩) hS.2.2 dX13_read_182
                ·
                  have hi_349 : zz = 40 := (nI_eq (a := zz) (b := 40) (by omega) (by omega)).mp c_268
                  refine lv_iconst (v := 0) hx hb dX13_read_126 (by decide) ?_
                  refine W.widen (k := 0) (n := 0) (by omega) (by omega) ?_
                  exact W.zret (v := 0) (ty := .boolean) hx hb hr (by decide) (fun t ht hWm => ⟨⟨0, (), rfl, (by first | exact Or.inl rfl | exact Or.inr rfl), ⟨F_249, zz, QTm.mk ht hP hD hO hR, hc3, by omega⟩⟩, hS.F ht⟩) hS.2.2 dX13_read_127
        ·
          have hi_350 : ee < i := ltN (N := i) c_256
          refine lv_aload_n hx hb dX13_read_60 rfl (lv_at hl 3 rfl) ?_
          refine pg_get (ci := 13) (v := .ref tx) (C := RX13) (T := TX13) (N := 5) hx hb hts it_13 hown hK hP hL_h0 hc3 rfl 0 (by decide) (hts _ kt_824) (fun _ h9 => h9) rfl dX13_read_61 ?_
          refine pg_get (ci := 14) (v := .ref tbx) (C := RX14) (T := TX14) (N := 2) hx hb hts it_14 hown hK hP hL_tx hF_254 rfl 0 (by decide) (hts _ kt_825) (fun _ h9 => h9) rfl dX13_read_64 ?_
          refine lv_iload hx hb dX13_read_67 (lv_at hl 0 rfl) ?_
          refine pg_bald hx hb hK hP hi_9 1 hF_255 rfl (vp_in_nI (by omega) (by omega)) dX13_read_69 ?_
          refine lv_topi (fun x_351 ex_351 => ?_)
          obtain rfl : x_351 = f_244 ee := ex_351.trans (congrArg f_244 (show ((nI ee) : Int32).toNatClampNeg = ee from nI_clamp (by omega)))
          have hFc := pg_free hD hS hA
          refine va_calli (va_runSN (As := [.int (f_244 ee)]) (rest := []) ⟨hx, hb, hml, hown, hts⟩ (s_X15_isSmall l dC dI cs ty gm L H.size F_249 (f_244 ee) hW ) ⟨va_cnB 1 hts (gi kt_668) rfl rfl rfl (hE.nestw kn_43) (hts _ kt_669) (by decide +kernel) ⟨Nat.le_of_ble_eq_true rfl, Nat.le_of_ble_eq_true rfl⟩, (hts _ kt_671), trivial⟩ ⟨fun a U g mk q => ⟨q.1, PTm.calling q.2⟩, fun U hU hWm => ⟨rfl, PTm.mk hU hWm hP hK hD hE hO⟩⟩ rfl rfl hl.1 rfl (lv_room (Nat.le_of_ble_eq_true rfl)) dX13_read_70 ⟨by show _ + 0 ≤ 0; omega, by show _ + 0 ≤ 0; omega⟩) hS (fun q _ h => hFc q h) hFc (fun r_352 u t H1 locs ht hvm hw hB hz1 hk1 hS => ?_)
          obtain ⟨F_353, hB1⟩ := hB
          obtain rfl : F_249 = F_353 := (funext (fun a => hB1.2.2.2 a List.not_mem_nil)).symm
          obtain ⟨hP, hD, hO, hR⟩ := QTm.back hB1 ht hFc hR (fun q h => absurd h List.not_mem_nil)
          generalize H1 = H at hP hS ⊢
          have hw : (r_352 = 0 ∨ r_352 = 1) := hw
          have hw_354 := hw
          refine lv_if_eq (tgt := 82) hx hb dX13_read_73 (by decide) (fun c_355 => ?_) (fun c_355 => ?_)
          ·
            refine lv_iload hx hb dX13_read_82 (lv_at hl 0 rfl) ?_
            refine lv_iload_n hx hb dX13_read_84 rfl (lv_at hl 2 rfl) ?_
            refine lv_isub hx hb dX13_read_85 ?_
            refine lv_topi (fun x_356 ex_356 => ?_)
            obtain rfl : x_356 = (nI (ee - j)) := ex_356.trans (pk_sub (a := ee) (b := j) (by omega))
            refine lv_i2l (v := (nI (ee - j)).toInt64) hx hb dX13_read_86 rfl ?_
            refine lv_lconst (v := 1) hx hb dX13_read_87 (by decide) ?_
            refine lv_iload_n hx hb dX13_read_88 rfl (lv_at hl 4 rfl) ?_
            refine lv_i2l (v := x1.toInt64) hx hb dX13_read_89 rfl ?_
            have hFc := pg_free hD hS hA
            refine va_calli (va_runSN (As := [.long ((nI (ee - j)).toInt64), .long 1, .long x1.toInt64]) (rest := []) ⟨hx, hb, hml, hown, hts⟩ (s_X15_in l dC dI cs ty gm L H.size F_249 ((nI (ee - j)).toInt64) 1 x1.toInt64 hW ) ⟨va_cnB 3 hts (gi kt_685) rfl rfl rfl (hE.nestw kn_42) (hts _ kt_669) (by decide +kernel) ⟨Nat.le_of_ble_eq_true rfl, Nat.le_of_ble_eq_true rfl⟩, (hts _ kt_686), trivial⟩ ⟨fun a U g mk q => ⟨q.1, PTm.calling q.2⟩, fun U hU hWm => ⟨rfl, PTm.mk hU hWm hP hK hD hE hO⟩⟩ rfl rfl hl.1 rfl (lv_room (Nat.le_of_ble_eq_true rfl)) dX13_read_90 ⟨by show _ + 0 ≤ 0; omega, by show _ + 0 ≤ 0; omega⟩) hS (fun q _ h => hFc q h) hFc (fun r_357 u t H1 locs ht hvm hw hB hz1 hk1 hS => ?_)
            obtain ⟨F_358, hB1⟩ := hB
            obtain rfl : F_249 = F_358 := (funext (fun a => hB1.2.2.2 a List.not_mem_nil)).symm
            obtain ⟨hP, hD, hO, hR⟩ := QTm.back hB1 ht hFc hR (fun q h => absurd h List.not_mem_nil)
            generalize H1 = H at hP hS ⊢
            have hw : r_357 = (if 1 ≤ (nI (ee - j)).toInt64 ∧ (nI (ee - j)).toInt64 ≤ x1.toInt64 then 1 else 0) := hw
            have hw_359 := hw
            refine lv_if_eq (tgt := 126) hx hb dX13_read_93 (by decide) (fun c_360 => ?_) (fun c_360 => ?_)
            ·
              refine lv_iconst (v := 0) hx hb dX13_read_126 (by decide) ?_
              refine W.widen (k := 0) (n := 0) (by omega) (by omega) ?_
              exact W.zret (v := 0) (ty := .boolean) hx hb hr (by decide) (fun t ht hWm => ⟨⟨0, (), rfl, (by first | exact Or.inl rfl | exact Or.inr rfl), ⟨F_249, zz, QTm.mk ht hP hD hO hR, hc3, by omega⟩⟩, hS.F ht⟩) hS.2.2 dX13_read_127
            ·
              refine lv_iload hx hb dX13_read_96 (lv_at hl 0 rfl) ?_
              refine lv_iload_n hx hb dX13_read_98 rfl (lv_at hl 1 rfl) ?_
              refine lv_icmp_eq (tgt := 126) hx hb dX13_read_99 (by decide) (fun c_361 => ?_) (fun c_361 => ?_)
              ·
                have hi_362 : ee = i := (nI_eq (a := ee) (b := i) (by omega) (by omega)).mp c_361
                refine lv_iconst (v := 0) hx hb dX13_read_126 (by decide) ?_
                refine W.widen (k := 0) (n := 0) (by omega) (by omega) ?_
                exact W.zret (v := 0) (ty := .boolean) hx hb hr (by decide) (fun t ht hWm => ⟨⟨0, (), rfl, (by first | exact Or.inl rfl | exact Or.inr rfl), ⟨F_249, zz, QTm.mk ht hP hD hO hR, hc3, by omega⟩⟩, hS.F ht⟩) hS.2.2 dX13_read_127
              ·
                have hi_363 : ee ≠ i := fun q => c_361 (by rw [q])
                refine lv_aload_n hx hb dX13_read_102 rfl (lv_at hl 3 rfl) ?_
                refine pg_get (ci := 13) (v := .ref tx) (C := RX13) (T := TX13) (N := 5) hx hb hts it_13 hown hK hP hL_h0 hc3 rfl 0 (by decide) (hts _ kt_824) (fun _ h9 => h9) rfl dX13_read_103 ?_
                refine pg_get (ci := 14) (v := .ref tbx) (C := RX14) (T := TX14) (N := 2) hx hb hts it_14 hown hK hP hL_tx hF_254 rfl 0 (by decide) (hts _ kt_825) (fun _ h9 => h9) rfl dX13_read_106 ?_
                refine lv_iload hx hb dX13_read_109 (lv_at hl 0 rfl) ?_
                refine pg_bald hx hb hK hP hi_9 1 hF_255 rfl (vp_in_nI (by omega) (by omega)) dX13_read_111 ?_
                refine lv_topi (fun x_364 ex_364 => ?_)
                obtain rfl : x_364 = f_244 ee := ex_364.trans (congrArg f_244 (show ((nI ee) : Int32).toNatClampNeg = ee from nI_clamp (by omega)))
                refine lv_bipush (v := 61) hx hb dX13_read_112 (by decide) ?_
                refine lv_icmp_ne (tgt := 126) hx hb dX13_read_114 (by decide) (fun c_365 => ?_) (fun c_365 => ?_)
                ·
                  refine lv_iconst (v := 0) hx hb dX13_read_126 (by decide) ?_
                  refine W.widen (k := 0) (n := 0) (by omega) (by omega) ?_
                  exact W.zret (v := 0) (ty := .boolean) hx hb hr (by decide) (fun t ht hWm => ⟨⟨0, (), rfl, (by first | exact Or.inl rfl | exact Or.inr rfl), ⟨F_249, zz, QTm.mk ht hP hD hO hR, hc3, by omega⟩⟩, hS.F ht⟩) hS.2.2 dX13_read_127
                ·
                  refine lv_aload_n hx hb dX13_read_117 rfl (lv_at hl 3 rfl) ?_
                  refine pg_get (ci := 13) (v := .int (nI zz)) (C := RX13) (T := TX13) (N := 5) hx hb hts it_13 hown hK hP hL_h0 hc3 rfl 4 (by decide) (hts _ kt_823) (fun _ h9 => h9) rfl dX13_read_118 ?_
                  refine lv_bipush (v := 40) hx hb dX13_read_121 (by decide) ?_
                  refine lv_icmp_ne (tgt := 128) hx hb dX13_read_123 (by decide) (fun c_366 => ?_) (fun c_366 => ?_)
                  ·
                    have hi_367 : zz ≠ 40 := fun q => c_366 (by rw [q]; rfl)
                    refine lv_iconst (v := 0) hx hb dX13_read_128 (by decide) ?_
                    refine lv_istore (lv' := [(5, .int 0), (4, .int (nI ee)), (3, .int (nI i)), (2, .int (nI j)), (0, .ref h0), (1, .int x1)]) hx hb dX13_read_129 hl (by decide) rfl (fun ls hl => ?_)
                    refine W.widen (k := 0) (n := 0) (by omega) (by omega) ?_
                    have hF_369 : F tx = .inr (14, [.ref tbx, .int (nI zx)]) := (hR tx (by rw [hT_tx]; simp)).symm.trans hF_254
                    have hF_370 : F tbx = .inl (cs 17, n, .inl f_244) := (hR tbx (by rw [ht_10]; simp)).symm.trans hF_255
                    refine pl_loopm (σ := Nat) A (dC, dI) cs ty gm L [ρ, ρ + 70, ρ + 71] F 131 6 (fun kk => [(5, .int (nI kk)), (4, .int (nI ee)), (3, .int (nI i)), (2, .int (nI j)), (0, .ref h0), (1, .int x1)]) (fun kk => []) (fun kk FF => kk ≤ 40 ∧ FF h0 = .inr (13, [.ref tx, .ref y0, .ref y1, .ref y2, .int (nI zz)])) (fun kk => 40 - kk) ?_ 0 F_249 (⟨by omega, hc3⟩) hO hR _ _ hP hD hS ls (lv_sub hl [0, 1, 2, 3, 4, 5] rfl)
                    rintro kk F_368 hv_371 hO hR ih_372 H locs hP hD hS ls hl
                    have hl : lv_has ls 6 [(5, .int (nI kk)), (4, .int (nI ee)), (3, .int (nI i)), (2, .int (nI j)), (0, .ref h0), (1, .int x1)] := hl
                    have hv_371 : kk ≤ 40 ∧ F_368 h0 = .inr (13, [.ref tx, .ref y0, .ref y1, .ref y2, .int (nI zz)]) := hv_371
                    refine W.eq (g2 := F0 m 131 ls []) rfl ?_
                    have hF_373 : F_368 tx = .inr (14, [.ref tbx, .int (nI zx)]) := (hR tx (by rw [hT_tx]; simp)).trans hF_369
                    have hF_374 : F_368 tbx = .inl (cs 17, n, .inl f_244) := (hR tbx (by rw [ht_10]; simp)).trans hF_370
                    obtain ⟨hd1, hd2⟩ := hv_371
                    refine lv_iload hx hb dX13_read_131 (lv_at hl 0 rfl) ?_
                    refine lv_aload_n hx hb dX13_read_133 rfl (lv_at hl 4 rfl) ?_
                    refine pg_get (ci := 13) (v := .int (nI zz)) (C := RX13) (T := TX13) (N := 5) hx hb hts it_13 hown hK hP hL_h0 hd2 rfl 4 (by decide) (hts _ kt_823) (fun _ h9 => h9) rfl dX13_read_134 ?_
                    refine lv_icmp_ge (tgt := 189) hx hb dX13_read_137 (by decide) (fun c_375 => ?_) (fun c_375 => ?_)
                    ·
                      have hi_376 : zz ≤ kk := leN (N := zz) c_375
                      refine lv_aload_n hx hb dX13_read_189 rfl (lv_at hl 4 rfl) ?_
                      refine pg_get (ci := 13) (v := .ref y0) (C := RX13) (T := TX13) (N := 5) hx hb hts it_13 hown hK hP hL_h0 hd2 rfl 1 (by decide) (hts _ kt_826) (fun _ h9 => h9) rfl dX13_read_190 ?_
                      refine lv_aload_n hx hb dX13_read_193 rfl (lv_at hl 4 rfl) ?_
                      refine pg_get (ci := 13) (v := .int (nI zz)) (C := RX13) (T := TX13) (N := 5) hx hb hts it_13 hown hK hP hL_h0 hd2 rfl 4 (by decide) (hts _ kt_823) (fun _ h9 => h9) rfl dX13_read_194 ?_
                      refine lv_iload_n hx hb dX13_read_197 rfl (lv_at hl 3 rfl) ?_
                      obtain ⟨f_377, hF_378, hq_379⟩ := hO.idb hi_1 ht_4
                      refine pg_iast hx hb hK hP hD hS hi_1 0 hF_378 rfl (vp_in_nI (by omega) (by omega)) dX13_read_198 (fun H locs hP hD hS => ?_)
                      obtain ⟨F_380, he_381, hP, hD, hO, hR⟩ : ∃ G, G = va_up F_368 y0 (.inl (cs 16, 40, .inl (upd f_377 ((nI zz)).toNatClampNeg ((nI j))))) ∧ va_P (dC, dI) vwCl (va_pl L G) H ∧ va_D A (va_pl L G) ∧ OKm cs ty gm L G ∧ FR ty [ρ, ρ + 70, ρ + 71] F G := ⟨_, rfl, hP, hD, hO.up (shm.idb ht_4 ⟨_, rfl, ixb_upd hq_379 _ _ (by omega)⟩), hR.up ht_4 (by simp)⟩
                      have hF_382 : F_380 y0 = .inl (cs 16, 40, .inl (upd f_377 ((nI zz)).toNatClampNeg ((nI j)))) := by rw [he_381]; exact up_self
                      have hF_383 : F_380 tx = .inr (14, [.ref tbx, .int (nI zx)]) := by rw [he_381, up_ne (ne_ty hT_tx ht_4 (by simp))]; exact hF_373
                      have hF_384 : F_380 tbx = .inl (cs 17, n, .inl f_244) := by rw [he_381, up_ne (ne_ty ht_10 ht_4 (by simp))]; exact hF_374
                      have hF_385 : F_380 h0 = .inr (13, [.ref tx, .ref y0, .ref y1, .ref y2, .int (nI zz)]) := by rw [he_381, up_ne (ne_ty hT_h0 ht_4 (by simp))]; exact hd2
                      obtain ⟨f_386, hF_382, hq_387⟩ : ∃ f : Nat → Int32, F_380 y0 = .inl (cs 16, 40, .inl f) ∧ IXB Bn f := ⟨_, hF_382, ixb_upd hq_379 _ _ (by omega)⟩
                      refine lv_aload_n hx hb dX13_read_199 rfl (lv_at hl 4 rfl) ?_
                      refine pg_get (ci := 13) (v := .ref y1) (C := RX13) (T := TX13) (N := 5) hx hb hts it_13 hown hK hP hL_h0 hF_385 rfl 2 (by decide) (hts _ kt_827) (fun _ h9 => h9) rfl dX13_read_200 ?_
                      refine lv_aload_n hx hb dX13_read_203 rfl (lv_at hl 4 rfl) ?_
                      refine pg_get (ci := 13) (v := .int (nI zz)) (C := RX13) (T := TX13) (N := 5) hx hb hts it_13 hown hK hP hL_h0 hF_385 rfl 4 (by decide) (hts _ kt_823) (fun _ h9 => h9) rfl dX13_read_204 ?_
                      refine lv_iload hx hb dX13_read_207 (lv_at hl 1 rfl) ?_
                      obtain ⟨f_388, hF_389, hq_390⟩ := hO.idb hi_2 ht_5
                      refine pg_iast hx hb hK hP hD hS hi_2 0 hF_389 rfl (vp_in_nI (by omega) (by omega)) dX13_read_209 (fun H locs hP hD hS => ?_)
                      obtain ⟨F_391, he_392, hP, hD, hO, hR⟩ : ∃ G, G = va_up F_380 y1 (.inl (cs 16, 40, .inl (upd f_388 ((nI zz)).toNatClampNeg ((nI ee))))) ∧ va_P (dC, dI) vwCl (va_pl L G) H ∧ va_D A (va_pl L G) ∧ OKm cs ty gm L G ∧ FR ty [ρ, ρ + 70, ρ + 71] F G := ⟨_, rfl, hP, hD, hO.up (shm.idb ht_5 ⟨_, rfl, ixb_upd hq_390 _ _ (by omega)⟩), hR.up ht_5 (by simp)⟩
                      have hF_393 : F_391 y1 = .inl (cs 16, 40, .inl (upd f_388 ((nI zz)).toNatClampNeg ((nI ee)))) := by rw [he_392]; exact up_self
                      have hF_394 : F_391 y0 = .inl (cs 16, 40, .inl f_386) := by rw [he_392, up_ne (ne_ty2 ht_4 ht_5 (by simp))]; exact hF_382
                      have hF_395 : F_391 tx = .inr (14, [.ref tbx, .int (nI zx)]) := by rw [he_392, up_ne (ne_ty hT_tx ht_5 (by simp))]; exact hF_383
                      have hF_396 : F_391 tbx = .inl (cs 17, n, .inl f_244) := by rw [he_392, up_ne (ne_ty ht_10 ht_5 (by simp))]; exact hF_384
                      have hF_397 : F_391 h0 = .inr (13, [.ref tx, .ref y0, .ref y1, .ref y2, .int (nI zz)]) := by rw [he_392, up_ne (ne_ty hT_h0 ht_5 (by simp))]; exact hF_385
                      obtain ⟨f_398, hF_393, hq_399⟩ : ∃ f : Nat → Int32, F_391 y1 = .inl (cs 16, 40, .inl f) ∧ IXB Bn f := ⟨_, hF_393, ixb_upd hq_390 _ _ (by omega)⟩
                      refine lv_aload_n hx hb dX13_read_210 rfl (lv_at hl 4 rfl) ?_
                      refine pg_get (ci := 13) (v := .ref y2) (C := RX13) (T := TX13) (N := 5) hx hb hts it_13 hown hK hP hL_h0 hF_397 rfl 3 (by decide) (hts _ kt_833) (fun _ h9 => h9) rfl dX13_read_211 ?_
                      refine lv_aload_n hx hb dX13_read_214 rfl (lv_at hl 4 rfl) ?_
                      refine pg_get (ci := 13) (v := .int (nI zz)) (C := RX13) (T := TX13) (N := 5) hx hb hts it_13 hown hK hP hL_h0 hF_397 rfl 4 (by decide) (hts _ kt_823) (fun _ h9 => h9) rfl dX13_read_215 ?_
                      refine lv_iload_n hx hb dX13_read_218 rfl (lv_at hl 2 rfl) ?_
                      obtain ⟨f_400, hF_401, hq_402⟩ := hO.idb hi_3 ht_6
                      refine pg_iast hx hb hK hP hD hS hi_3 0 hF_401 rfl (vp_in_nI (by omega) (by omega)) dX13_read_219 (fun H locs hP hD hS => ?_)
                      obtain ⟨F_403, he_404, hP, hD, hO, hR⟩ : ∃ G, G = va_up F_391 y2 (.inl (cs 16, 40, .inl (upd f_400 ((nI zz)).toNatClampNeg ((nI i))))) ∧ va_P (dC, dI) vwCl (va_pl L G) H ∧ va_D A (va_pl L G) ∧ OKm cs ty gm L G ∧ FR ty [ρ, ρ + 70, ρ + 71] F G := ⟨_, rfl, hP, hD, hO.up (shm.idb ht_6 ⟨_, rfl, ixb_upd hq_402 _ _ (by omega)⟩), hR.up ht_6 (by simp)⟩
                      have hF_405 : F_403 y2 = .inl (cs 16, 40, .inl (upd f_400 ((nI zz)).toNatClampNeg ((nI i)))) := by rw [he_404]; exact up_self
                      have hF_406 : F_403 y1 = .inl (cs 16, 40, .inl f_398) := by rw [he_404, up_ne (ne_ty2 ht_5 ht_6 (by simp))]; exact hF_393
                      have hF_407 : F_403 y0 = .inl (cs 16, 40, .inl f_386) := by rw [he_404, up_ne (ne_ty2 ht_4 ht_6 (by simp))]; exact hF_394
                      have hF_408 : F_403 tx = .inr (14, [.ref tbx, .int (nI zx)]) := by rw [he_404, up_ne (ne_ty hT_tx ht_6 (by simp))]; exact hF_395
                      have hF_409 : F_403 tbx = .inl (cs 17, n, .inl f_244) := by rw [he_404, up_ne (ne_ty ht_10 ht_6 (by simp))]; exact hF_396
                      have hF_410 : F_403 h0 = .inr (13, [.ref tx, .ref y0, .ref y1, .ref y2, .int (nI zz)]) := by rw [he_404, up_ne (ne_ty hT_h0 ht_6 (by simp))]; exact hF_397
                      obtain ⟨f_411, hF_405, hq_412⟩ : ∃ f : Nat → Int32, F_403 y2 = .inl (cs 16, 40, .inl f) ∧ IXB Bn f := ⟨_, hF_405, ixb_upd hq_402 _ _ (by omega)⟩
                      refine lv_aload_n hx hb dX13_read_220 rfl (lv_at hl 4 rfl) ?_
                      refine lv_dup hx hb dX13_read_221 rfl ?_
                      refine pg_get (ci := 13) (v := .int (nI zz)) (C := RX13) (T := TX13) (N := 5) hx hb hts it_13 hown hK hP hL_h0 hF_410 rfl 4 (by decide) (hts _ kt_823) (fun _ h9 => h9) rfl dX13_read_222 ?_
                      refine lv_iconst (v := 1) hx hb dX13_read_225 (by decide) ?_
                      refine lv_iadd hx hb dX13_read_226 ?_
                      refine lv_topi (fun x_413 ex_413 => ?_)
                      obtain rfl : x_413 = (nI (zz + 1)) := ex_413.trans (nI_add zz 1)
                      refine pg_put (ci := 13) (v := .int (nI (zz + 1))) (ty := .int) (C := RX13) (T := TX13) (N := 5) hx hb hts it_13 tyX13 tyX13_ok nmX13 hown hK hP hD hS hL_h0 hF_410 rfl 4 (by decide) (hts _ kt_823) (fun _ h9 => h9) rfl (by decide +kernel) (rfl) (rfl) (Nat.le_of_ble_eq_true rfl) dX13_read_227 (fun H locs hP hD hS => ?_)
                      obtain ⟨F_414, he_415, hP, hD, hO, hR⟩ : ∃ G, G = va_up F_403 h0 (.inr (13, [.ref tx, .ref y0, .ref y1, .ref y2, .int (nI (zz + 1))])) ∧ va_P (dC, dI) vwCl (va_pl L G) H ∧ va_D A (va_pl L G) ∧ OKm cs ty gm L G ∧ FR ty [ρ, ρ + 70, ρ + 71] F G := ⟨_, rfl, hP, hD, hO.up (shm.tags hT_h0 ⟨(zz + 1), rfl, (by first | omega | assumption | exact Or.inl rfl | exact Or.inr rfl)⟩), hR.up hT_h0 (by simp)⟩
                      have hF_416 : F_414 h0 = .inr (13, [.ref tx, .ref y0, .ref y1, .ref y2, .int (nI (zz + 1))]) := by rw [he_415]; exact up_self
                      have hF_417 : F_414 y2 = .inl (cs 16, 40, .inl f_411) := by rw [he_415, up_ne (ne_ty ht_6 hT_h0 (by simp))]; exact hF_405
                      have hF_418 : F_414 y1 = .inl (cs 16, 40, .inl f_398) := by rw [he_415, up_ne (ne_ty ht_5 hT_h0 (by simp))]; exact hF_406
                      have hF_419 : F_414 y0 = .inl (cs 16, 40, .inl f_386) := by rw [he_415, up_ne (ne_ty ht_4 hT_h0 (by simp))]; exact hF_407
                      have hF_420 : F_414 tx = .inr (14, [.ref tbx, .int (nI zx)]) := by rw [he_415, up_ne (ne_ty hT_tx hT_h0 (by simp))]; exact hF_408
                      have hF_421 : F_414 tbx = .inl (cs 17, n, .inl f_244) := by rw [he_415, up_ne (ne_ty ht_10 hT_h0 (by simp))]; exact hF_409
                      refine lv_iload_n hx hb dX13_read_230 rfl (lv_at hl 2 rfl) ?_
                      refine lv_iconst (v := 1) hx hb dX13_read_231 (by decide) ?_
                      refine lv_iadd hx hb dX13_read_232 ?_
                      refine lv_topi (fun x_422 ex_422 => ?_)
                      obtain rfl : x_422 = (nI (i + 1)) := ex_422.trans (nI_add i 1)
                      refine lv_istore_n (lv' := [(2, .int (nI (i + 1))), (5, .int (nI kk)), (4, .int (nI ee)), (3, .int (nI i)), (0, .ref h0), (1, .int x1)]) hx hb dX13_read_233 rfl hl (by decide) rfl (fun ls hl => ?_)
                      refine lv_goto (tgt := 7) hx hb dX13_read_234 (by decide) ?_
                      refine W.widen (k := 0) (n := 0) (by omega) (by omega) ?_
                      exact ih_22 ((i + 1), (zz + 1)) F_414 (⟨by omega, by omega, hF_416⟩) (by show zx + 1 - (i + 1) < zx + 1 - j; omega) hO hR _ _ hP hD hS ls (lv_sub hl [0, 4, 5] rfl)
                    ·
                      have hi_423 : kk < zz := ltN (N := zz) c_375
                      refine lv_aload_n hx hb dX13_read_140 rfl (lv_at hl 4 rfl) ?_
                      refine pg_get (ci := 13) (v := .ref y1) (C := RX13) (T := TX13) (N := 5) hx hb hts it_13 hown hK hP hL_h0 hd2 rfl 2 (by decide) (hts _ kt_827) (fun _ h9 => h9) rfl dX13_read_141 ?_
                      refine lv_iload hx hb dX13_read_144 (lv_at hl 0 rfl) ?_
                      obtain ⟨f_424, hF_425, hq_426⟩ := hO.idb hi_2 ht_5
                      refine pg_iald hx hb hK hP hi_2 0 hF_425 rfl (vp_in_nI (by omega) (by omega)) dX13_read_146 ?_
                      obtain ⟨k_427, hk_428, ek_429⟩ := hq_426 ((nI kk) : Int32).toNatClampNeg
                      refine lv_topi (fun x_430 ex_430 => ?_)
                      obtain rfl : x_430 = nI k_427 := ex_430.trans ek_429
                      refine lv_aload_n hx hb dX13_read_147 rfl (lv_at hl 4 rfl) ?_
                      refine pg_get (ci := 13) (v := .ref y0) (C := RX13) (T := TX13) (N := 5) hx hb hts it_13 hown hK hP hL_h0 hd2 rfl 1 (by decide) (hts _ kt_826) (fun _ h9 => h9) rfl dX13_read_148 ?_
                      refine lv_iload hx hb dX13_read_151 (lv_at hl 0 rfl) ?_
                      obtain ⟨f_431, hF_432, hq_433⟩ := hO.idb hi_1 ht_4
                      refine pg_iald hx hb hK hP hi_1 0 hF_432 rfl (vp_in_nI (by omega) (by omega)) dX13_read_153 ?_
                      obtain ⟨k_434, hk_435, ek_436⟩ := hq_433 ((nI kk) : Int32).toNatClampNeg
                      refine lv_topi (fun x_437 ex_437 => ?_)
                      obtain rfl : x_437 = nI k_434 := ex_437.trans ek_436
                      refine lv_isub hx hb dX13_read_154 ?_
                      refine lv_topi (fun x_438 ex_438 => ?_)
                      obtain rfl : x_438 = ((nI k_427) - (nI k_434)) := ex_438.trans (rfl)
                      refine lv_iload hx hb dX13_read_155 (lv_at hl 1 rfl) ?_
                      refine lv_iload_n hx hb dX13_read_157 rfl (lv_at hl 3 rfl) ?_
                      refine lv_isub hx hb dX13_read_158 ?_
                      refine lv_topi (fun x_439 ex_439 => ?_)
                      obtain rfl : x_439 = (nI (ee - j)) := ex_439.trans (pk_sub (a := ee) (b := j) (by omega))
                      refine lv_icmp_ne (tgt := 183) hx hb dX13_read_159 (by decide) (fun c_440 => ?_) (fun c_440 => ?_)
                      ·
                        refine lv_iinc (v := (nI (kk + 1))) (lv' := [(5, .int (nI (kk + 1))), (4, .int (nI ee)), (3, .int (nI i)), (2, .int (nI j)), (0, .ref h0), (1, .int x1)]) hx hb dX13_read_183 hl (k := 0) rfl (nI_1 _) (by decide) rfl (fun ls hl => ?_)
                        refine lv_goto (tgt := 131) hx hb dX13_read_186 (by decide) ?_
                        refine W.widen (k := 0) (n := 0) (by omega) (by omega) ?_
                        exact ih_372 (kk + 1) F_368 (⟨by omega, hd2⟩) (by show 40 - (kk + 1) < 40 - kk; omega) hO hR _ _ hP hD hS ls (lv_sub hl [0, 1, 2, 3, 4, 5] rfl)
                      ·
                        have hsm := sub_eqN c_440 (by omega) (by omega) (by omega)
                        refine lv_aload_n hx hb dX13_read_162 rfl (lv_at hl 4 rfl) ?_
                        refine lv_aload_n hx hb dX13_read_163 rfl (lv_at hl 4 rfl) ?_
                        refine pg_get (ci := 13) (v := .ref y0) (C := RX13) (T := TX13) (N := 5) hx hb hts it_13 hown hK hP hL_h0 hd2 rfl 1 (by decide) (hts _ kt_826) (fun _ h9 => h9) rfl dX13_read_164 ?_
                        refine lv_iload hx hb dX13_read_167 (lv_at hl 0 rfl) ?_
                        refine pg_iald hx hb hK hP hi_1 0 hF_432 rfl (vp_in_nI (by omega) (by omega)) dX13_read_169 ?_
                        refine lv_topi (fun x_441 ex_441 => ?_)
                        obtain rfl : x_441 = nI k_434 := ex_441.trans ek_436
                        refine lv_iload_n hx hb dX13_read_170 rfl (lv_at hl 3 rfl) ?_
                        refine lv_iload hx hb dX13_read_171 (lv_at hl 1 rfl) ?_
                        refine lv_iload_n hx hb dX13_read_173 rfl (lv_at hl 3 rfl) ?_
                        refine lv_isub hx hb dX13_read_174 ?_
                        refine lv_topi (fun x_442 ex_442 => ?_)
                        obtain rfl : x_442 = (nI (ee - j)) := ex_442.trans (pk_sub (a := ee) (b := j) (by omega))
                        have hFc := pg_free hD hS hA
                        refine va_calli (va_runV (As := [.int (nI k_434), .int (nI j), .int (nI (ee - j))]) (rest := []) ⟨hx, hb, hml, hown, hts⟩ (s_X13_isSame l dC dI cs ty gm L H.size F_368 h0 ρ tx n Bn y0 y1 y2 tbx k_434 j (ee - j) hW hL_h0 hT_h0 hL_tx hT_tx (by first | omega | assumption | exact Or.inl rfl) (by first | omega | assumption | exact Or.inl rfl)) ⟨callB_of 3 hts (gi kt_835) rfl rfl rfl (hts _ kt_829) (hts _ kt_836) (by decide +kernel) ⟨Nat.le_of_ble_eq_true rfl, Nat.le_of_ble_eq_true rfl⟩, (hts _ kt_837), (hts _ kt_838)⟩ ⟨fun a U g mk q => ⟨q.1, PTm.calling q.2⟩, pg_recv hK hP hL_h0 hd2 (q := (RX13, TX13, 5)) rfl, fun U hU hWm => ⟨rfl, PTm.mk hU hWm hP hK hD hE hO⟩⟩ rfl rfl hl.1 rfl (lv_room (Nat.le_of_ble_eq_true rfl)) dX13_read_175 ⟨by show _ + 0 ≤ 0; omega, by show _ + 0 ≤ 0; omega⟩) hS (fun q _ h => hFc q h) hFc (fun r_443 u t H1 locs ht hvm hw hB hz1 hk1 hS => ?_)
                        obtain ⟨F_444, hB1⟩ := hB
                        obtain rfl : F_368 = F_444 := (funext (fun a => hB1.2.2.2 a List.not_mem_nil)).symm
                        obtain ⟨hP, hD, hO, hR⟩ := QTm.back hB1 ht hFc hR (fun q h => absurd h List.not_mem_nil)
                        generalize H1 = H at hP hS ⊢
                        have hw : (r_443 = 0 ∨ r_443 = 1) := hw
                        have hw_445 := hw
                        refine lv_if_eq (tgt := 183) hx hb dX13_read_178 (by decide) (fun c_446 => ?_) (fun c_446 => ?_)
                        ·
                          refine lv_iinc (v := (nI (kk + 1))) (lv' := [(5, .int (nI (kk + 1))), (4, .int (nI ee)), (3, .int (nI i)), (2, .int (nI j)), (0, .ref h0), (1, .int x1)]) hx hb dX13_read_183 hl (k := 0) rfl (nI_1 _) (by decide) rfl (fun ls hl => ?_)
                          refine lv_goto (tgt := 131) hx hb dX13_read_186 (by decide) ?_
                          refine W.widen (k := 0) (n := 0) (by omega) (by omega) ?_
                          exact ih_372 (kk + 1) F_368 (⟨by omega, hd2⟩) (by show 40 - (kk + 1) < 40 - kk; omega) hO hR _ _ hP hD hS ls (lv_sub hl [0, 1, 2, 3, 4, 5] rfl)
                        ·
                          refine lv_iconst (v := 0) hx hb dX13_read_181 (by decide) ?_
                          refine W.widen (k := 0) (n := 0) (by omega) (by omega) ?_
                          exact W.zret (v := 0) (ty := .boolean) hx hb hr (by decide) (fun t ht hWm => ⟨⟨0, (), rfl, (by first | exact Or.inl rfl | exact Or.inr rfl), ⟨F_368, zz, QTm.mk ht hP hD hO hR, hd2, by omega⟩⟩, hS.F ht⟩) hS.2.2 dX13_read_182
                  ·
                    have hi_447 : zz = 40 := (nI_eq (a := zz) (b := 40) (by omega) (by omega)).mp c_366
                    refine lv_iconst (v := 0) hx hb dX13_read_126 (by decide) ?_
                    refine W.widen (k := 0) (n := 0) (by omega) (by omega) ?_
                    exact W.zret (v := 0) (ty := .boolean) hx hb hr (by decide) (fun t ht hWm => ⟨⟨0, (), rfl, (by first | exact Or.inl rfl | exact Or.inr rfl), ⟨F_249, zz, QTm.mk ht hP hD hO hR, hc3, by omega⟩⟩, hS.F ht⟩) hS.2.2 dX13_read_127
          ·
            refine lv_iinc (v := (nI (ee + 1))) (lv' := [(4, .int (nI (ee + 1))), (3, .int (nI i)), (2, .int (nI j)), (0, .ref h0), (1, .int x1)]) hx hb dX13_read_76 hl (k := 0) rfl (nI_1 _) (by decide) rfl (fun ls hl => ?_)
            refine lv_goto (tgt := 54) hx hb dX13_read_79 (by decide) ?_
            refine W.widen (k := 0) (n := 0) (by omega) (by omega) ?_
            exact ih_253 (ee + 1) F_249 (⟨by omega, by omega, hc3⟩) (by show i - (ee + 1) < i - ee; omega) hO hR _ _ hP hD hS ls (lv_sub hl [0, 1, 2, 3, 4] rfl)
      ·
        refine lv_iinc (v := (nI (i + 1))) (lv' := [(3, .int (nI (i + 1))), (4, .int (nI j)), (2, .int (nI j)), (0, .ref h0), (1, .int x1)]) hx hb dX13_read_48 hl (k := 1) rfl (nI_1 _) (by decide) rfl (fun ls hl => ?_)
        refine lv_goto (tgt := 23) hx hb dX13_read_51 (by decide) ?_
        refine W.widen (k := 0) (n := 0) (by omega) (by omega) ?_
        exact ih_30 (i + 1) F_27 (⟨by omega, by omega, hb3⟩) (by show zx - (i + 1) < zx - i; omega) hO hR _ _ hP hD hS ls (lv_sub hl [1, 0, 2, 3, 4] rfl)
