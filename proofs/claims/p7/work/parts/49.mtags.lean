theorem dX13_find_0 : decode cX13_find 0 = .ok (.iconst 0, 1) := by decide +kernel
theorem dX13_find_1 : decode cX13_find 1 = .ok (.istore_n 2, 1) := by decide +kernel
theorem dX13_find_2 : decode cX13_find 2 = .ok (.iload_n 2, 1) := by decide +kernel
theorem dX13_find_3 : decode cX13_find 3 = .ok (.aload_n 0, 1) := by decide +kernel
theorem dX13_find_4 : decode cX13_find 4 = .ok (.getfield 30, 3) := by decide +kernel
theorem dX13_find_7 : decode cX13_find 7 = .ok (.if_icmp .ge 37, 3) := by decide +kernel
theorem dX13_find_10 : decode cX13_find 10 = .ok (.aload_n 0, 1) := by decide +kernel
theorem dX13_find_11 : decode cX13_find 11 = .ok (.getfield 26, 3) := by decide +kernel
theorem dX13_find_14 : decode cX13_find 14 = .ok (.getfield 37, 3) := by decide +kernel
theorem dX13_find_17 : decode cX13_find 17 = .ok (.aload_n 0, 1) := by decide +kernel
theorem dX13_find_18 : decode cX13_find 18 = .ok (.getfield 9, 3) := by decide +kernel
theorem dX13_find_21 : decode cX13_find 21 = .ok (.iload_n 2, 1) := by decide +kernel
theorem dX13_find_22 : decode cX13_find 22 = .ok (.iaload, 1) := by decide +kernel
theorem dX13_find_23 : decode cX13_find 23 = .ok (.aload_n 0, 1) := by decide +kernel
theorem dX13_find_24 : decode cX13_find 24 = .ok (.getfield 15, 3) := by decide +kernel
theorem dX13_find_27 : decode cX13_find 27 = .ok (.iload_n 2, 1) := by decide +kernel
theorem dX13_find_28 : decode cX13_find 28 = .ok (.iaload, 1) := by decide +kernel
theorem dX13_find_29 : decode cX13_find 29 = .ok (.aload_n 1, 1) := by decide +kernel
theorem dX13_find_30 : decode cX13_find 30 = .ok (.invokestatic 53, 3) := by decide +kernel
theorem dX13_find_33 : decode cX13_find 33 = .ok (.ifCond .eq 5, 3) := by decide +kernel
theorem dX13_find_36 : decode cX13_find 36 = .ok (.iload_n 2, 1) := by decide +kernel
theorem dX13_find_37 : decode cX13_find 37 = .ok (.ireturn, 1) := by decide +kernel
theorem dX13_find_38 : decode cX13_find 38 = .ok (.iinc 2 1, 3) := by decide +kernel
theorem dX13_find_41 : decode cX13_find 41 = .ok (.goto (-39), 3) := by decide +kernel
theorem dX13_find_44 : decode cX13_find 44 = .ok (.iconst (-1), 1) := by decide +kernel
theorem dX13_find_45 : decode cX13_find 45 = .ok (.ireturn, 1) := by decide +kernel
theorem dX13_has_0 : decode cX13_has 0 = .ok (.aload_n 0, 1) := by decide +kernel
theorem dX13_has_1 : decode cX13_has 1 = .ok (.aload_n 1, 1) := by decide +kernel
theorem dX13_has_2 : decode cX13_has 2 = .ok (.invokevirtual 57, 3) := by decide +kernel
theorem dX13_has_5 : decode cX13_has 5 = .ok (.istore_n 3, 1) := by decide +kernel
theorem dX13_has_6 : decode cX13_has 6 = .ok (.iload_n 3, 1) := by decide +kernel
theorem dX13_has_7 : decode cX13_has 7 = .ok (.ifCond .lt 35, 3) := by decide +kernel
theorem dX13_has_10 : decode cX13_has 10 = .ok (.aload_n 0, 1) := by decide +kernel
theorem dX13_has_11 : decode cX13_has 11 = .ok (.getfield 26, 3) := by decide +kernel
theorem dX13_has_14 : decode cX13_has 14 = .ok (.getfield 37, 3) := by decide +kernel
theorem dX13_has_17 : decode cX13_has 17 = .ok (.aload_n 0, 1) := by decide +kernel
theorem dX13_has_18 : decode cX13_has 18 = .ok (.getfield 15, 3) := by decide +kernel
theorem dX13_has_21 : decode cX13_has 21 = .ok (.iload_n 3, 1) := by decide +kernel
theorem dX13_has_22 : decode cX13_has 22 = .ok (.iaload, 1) := by decide +kernel
theorem dX13_has_23 : decode cX13_has 23 = .ok (.iconst 1, 1) := by decide +kernel
theorem dX13_has_24 : decode cX13_has 24 = .ok (.iadd, 1) := by decide +kernel
theorem dX13_has_25 : decode cX13_has 25 = .ok (.aload_n 0, 1) := by decide +kernel
theorem dX13_has_26 : decode cX13_has 26 = .ok (.getfield 18, 3) := by decide +kernel
theorem dX13_has_29 : decode cX13_has 29 = .ok (.iload_n 3, 1) := by decide +kernel
theorem dX13_has_30 : decode cX13_has 30 = .ok (.iaload, 1) := by decide +kernel
theorem dX13_has_31 : decode cX13_has 31 = .ok (.aload_n 2, 1) := by decide +kernel
theorem dX13_has_32 : decode cX13_has 32 = .ok (.invokestatic 53, 3) := by decide +kernel
theorem dX13_has_35 : decode cX13_has 35 = .ok (.ifCond .eq 7, 3) := by decide +kernel
theorem dX13_has_38 : decode cX13_has 38 = .ok (.iconst 1, 1) := by decide +kernel
theorem dX13_has_39 : decode cX13_has 39 = .ok (.goto 4, 3) := by decide +kernel
theorem dX13_has_42 : decode cX13_has 42 = .ok (.iconst 0, 1) := by decide +kernel
theorem dX13_has_43 : decode cX13_has 43 = .ok (.ireturn, 1) := by decide +kernel
theorem dX13_isSame_0 : decode cX13_isSame 0 = .ok (.iconst 0, 1) := by decide +kernel
theorem dX13_isSame_1 : decode cX13_isSame 1 = .ok (.istore 4, 2) := by decide +kernel
theorem dX13_isSame_3 : decode cX13_isSame 3 = .ok (.iload 4, 2) := by decide +kernel
theorem dX13_isSame_5 : decode cX13_isSame 5 = .ok (.iload_n 3, 1) := by decide +kernel
theorem dX13_isSame_6 : decode cX13_isSame 6 = .ok (.if_icmp .ge 38, 3) := by decide +kernel
theorem dX13_isSame_9 : decode cX13_isSame 9 = .ok (.aload_n 0, 1) := by decide +kernel
theorem dX13_isSame_10 : decode cX13_isSame 10 = .ok (.getfield 26, 3) := by decide +kernel
theorem dX13_isSame_13 : decode cX13_isSame 13 = .ok (.getfield 37, 3) := by decide +kernel
theorem dX13_isSame_16 : decode cX13_isSame 16 = .ok (.iload_n 1, 1) := by decide +kernel
theorem dX13_isSame_17 : decode cX13_isSame 17 = .ok (.iload 4, 2) := by decide +kernel
theorem dX13_isSame_19 : decode cX13_isSame 19 = .ok (.iadd, 1) := by decide +kernel
theorem dX13_isSame_20 : decode cX13_isSame 20 = .ok (.baload, 1) := by decide +kernel
theorem dX13_isSame_21 : decode cX13_isSame 21 = .ok (.aload_n 0, 1) := by decide +kernel
theorem dX13_isSame_22 : decode cX13_isSame 22 = .ok (.getfield 26, 3) := by decide +kernel
theorem dX13_isSame_25 : decode cX13_isSame 25 = .ok (.getfield 37, 3) := by decide +kernel
theorem dX13_isSame_28 : decode cX13_isSame 28 = .ok (.iload_n 2, 1) := by decide +kernel
theorem dX13_isSame_29 : decode cX13_isSame 29 = .ok (.iload 4, 2) := by decide +kernel
theorem dX13_isSame_31 : decode cX13_isSame 31 = .ok (.iadd, 1) := by decide +kernel
theorem dX13_isSame_32 : decode cX13_isSame 32 = .ok (.baload, 1) := by decide +kernel
theorem dX13_isSame_33 : decode cX13_isSame 33 = .ok (.if_icmp .eq 5, 3) := by decide +kernel
theorem dX13_isSame_36 : decode cX13_isSame 36 = .ok (.iconst 0, 1) := by decide +kernel
theorem dX13_isSame_37 : decode cX13_isSame 37 = .ok (.ireturn, 1) := by decide +kernel
theorem dX13_isSame_38 : decode cX13_isSame 38 = .ok (.iinc 4 1, 3) := by decide +kernel
theorem dX13_isSame_41 : decode cX13_isSame 41 = .ok (.goto (-38), 3) := by decide +kernel
theorem dX13_isSame_44 : decode cX13_isSame 44 = .ok (.iconst 1, 1) := by decide +kernel
theorem dX13_isSame_45 : decode cX13_isSame 45 = .ok (.ireturn, 1) := by decide +kernel
theorem dX13_read_0 : decode cX13_read 0 = .ok (.aload_n 0, 1) := by decide +kernel
theorem dX13_read_1 : decode cX13_read 1 = .ok (.iconst 0, 1) := by decide +kernel
theorem dX13_read_2 : decode cX13_read 2 = .ok (.putfield 30, 3) := by decide +kernel
theorem dX13_read_5 : decode cX13_read 5 = .ok (.iconst 0, 1) := by decide +kernel
theorem dX13_read_6 : decode cX13_read 6 = .ok (.istore_n 2, 1) := by decide +kernel
theorem dX13_read_7 : decode cX13_read 7 = .ok (.iload_n 2, 1) := by decide +kernel
theorem dX13_read_8 : decode cX13_read 8 = .ok (.aload_n 0, 1) := by decide +kernel
theorem dX13_read_9 : decode cX13_read 9 = .ok (.getfield 26, 3) := by decide +kernel
theorem dX13_read_12 : decode cX13_read 12 = .ok (.getfield 34, 3) := by decide +kernel
theorem dX13_read_15 : decode cX13_read 15 = .ok (.if_icmp .ge 222, 3) := by decide +kernel
theorem dX13_read_18 : decode cX13_read 18 = .ok (.iload_n 2, 1) := by decide +kernel
theorem dX13_read_19 : decode cX13_read 19 = .ok (.istore_n 3, 1) := by decide +kernel
theorem dX13_read_20 : decode cX13_read 20 = .ok (.iload_n 2, 1) := by decide +kernel
theorem dX13_read_21 : decode cX13_read 21 = .ok (.istore 4, 2) := by decide +kernel
theorem dX13_read_23 : decode cX13_read 23 = .ok (.iload_n 3, 1) := by decide +kernel
theorem dX13_read_24 : decode cX13_read 24 = .ok (.aload_n 0, 1) := by decide +kernel
theorem dX13_read_25 : decode cX13_read 25 = .ok (.getfield 26, 3) := by decide +kernel
theorem dX13_read_28 : decode cX13_read 28 = .ok (.getfield 34, 3) := by decide +kernel
theorem dX13_read_31 : decode cX13_read 31 = .ok (.if_icmp .ge 23, 3) := by decide +kernel
theorem dX13_read_34 : decode cX13_read 34 = .ok (.aload_n 0, 1) := by decide +kernel
theorem dX13_read_35 : decode cX13_read 35 = .ok (.getfield 26, 3) := by decide +kernel
theorem dX13_read_38 : decode cX13_read 38 = .ok (.getfield 37, 3) := by decide +kernel
theorem dX13_read_41 : decode cX13_read 41 = .ok (.iload_n 3, 1) := by decide +kernel
theorem dX13_read_42 : decode cX13_read 42 = .ok (.baload, 1) := by decide +kernel
theorem dX13_read_43 : decode cX13_read 43 = .ok (.bipush 59, 2) := by decide +kernel
theorem dX13_read_45 : decode cX13_read 45 = .ok (.if_icmp .eq 9, 3) := by decide +kernel
theorem dX13_read_48 : decode cX13_read 48 = .ok (.iinc 3 1, 3) := by decide +kernel
theorem dX13_read_51 : decode cX13_read 51 = .ok (.goto (-28), 3) := by decide +kernel
theorem dX13_read_54 : decode cX13_read 54 = .ok (.iload 4, 2) := by decide +kernel
theorem dX13_read_56 : decode cX13_read 56 = .ok (.iload_n 3, 1) := by decide +kernel
theorem dX13_read_57 : decode cX13_read 57 = .ok (.if_icmp .ge 25, 3) := by decide +kernel
theorem dX13_read_60 : decode cX13_read 60 = .ok (.aload_n 0, 1) := by decide +kernel
theorem dX13_read_61 : decode cX13_read 61 = .ok (.getfield 26, 3) := by decide +kernel
theorem dX13_read_64 : decode cX13_read 64 = .ok (.getfield 37, 3) := by decide +kernel
theorem dX13_read_67 : decode cX13_read 67 = .ok (.iload 4, 2) := by decide +kernel
theorem dX13_read_69 : decode cX13_read 69 = .ok (.baload, 1) := by decide +kernel
theorem dX13_read_70 : decode cX13_read 70 = .ok (.invokestatic 41, 3) := by decide +kernel
theorem dX13_read_73 : decode cX13_read 73 = .ok (.ifCond .eq 9, 3) := by decide +kernel
theorem dX13_read_76 : decode cX13_read 76 = .ok (.iinc 4 1, 3) := by decide +kernel
theorem dX13_read_79 : decode cX13_read 79 = .ok (.goto (-25), 3) := by decide +kernel
theorem dX13_read_82 : decode cX13_read 82 = .ok (.iload 4, 2) := by decide +kernel
theorem dX13_read_84 : decode cX13_read 84 = .ok (.iload_n 2, 1) := by decide +kernel
theorem dX13_read_85 : decode cX13_read 85 = .ok (.isub, 1) := by decide +kernel
theorem dX13_read_86 : decode cX13_read 86 = .ok (.i2l, 1) := by decide +kernel
theorem dX13_read_87 : decode cX13_read 87 = .ok (.lconst 1, 1) := by decide +kernel
theorem dX13_read_88 : decode cX13_read 88 = .ok (.iload_n 1, 1) := by decide +kernel
theorem dX13_read_89 : decode cX13_read 89 = .ok (.i2l, 1) := by decide +kernel
theorem dX13_read_90 : decode cX13_read 90 = .ok (.invokestatic 45, 3) := by decide +kernel
theorem dX13_read_93 : decode cX13_read 93 = .ok (.ifCond .eq 33, 3) := by decide +kernel
theorem dX13_read_96 : decode cX13_read 96 = .ok (.iload 4, 2) := by decide +kernel
theorem dX13_read_98 : decode cX13_read 98 = .ok (.iload_n 3, 1) := by decide +kernel
theorem dX13_read_99 : decode cX13_read 99 = .ok (.if_icmp .eq 27, 3) := by decide +kernel
theorem dX13_read_102 : decode cX13_read 102 = .ok (.aload_n 0, 1) := by decide +kernel
theorem dX13_read_103 : decode cX13_read 103 = .ok (.getfield 26, 3) := by decide +kernel
theorem dX13_read_106 : decode cX13_read 106 = .ok (.getfield 37, 3) := by decide +kernel
theorem dX13_read_109 : decode cX13_read 109 = .ok (.iload 4, 2) := by decide +kernel
theorem dX13_read_111 : decode cX13_read 111 = .ok (.baload, 1) := by decide +kernel
theorem dX13_read_112 : decode cX13_read 112 = .ok (.bipush 61, 2) := by decide +kernel
theorem dX13_read_114 : decode cX13_read 114 = .ok (.if_icmp .ne 12, 3) := by decide +kernel
theorem dX13_read_117 : decode cX13_read 117 = .ok (.aload_n 0, 1) := by decide +kernel
theorem dX13_read_118 : decode cX13_read 118 = .ok (.getfield 30, 3) := by decide +kernel
theorem dX13_read_121 : decode cX13_read 121 = .ok (.bipush 40, 2) := by decide +kernel
theorem dX13_read_123 : decode cX13_read 123 = .ok (.if_icmp .ne 5, 3) := by decide +kernel
theorem dX13_read_126 : decode cX13_read 126 = .ok (.iconst 0, 1) := by decide +kernel
theorem dX13_read_127 : decode cX13_read 127 = .ok (.ireturn, 1) := by decide +kernel
theorem dX13_read_128 : decode cX13_read 128 = .ok (.iconst 0, 1) := by decide +kernel
theorem dX13_read_129 : decode cX13_read 129 = .ok (.istore 5, 2) := by decide +kernel
theorem dX13_read_131 : decode cX13_read 131 = .ok (.iload 5, 2) := by decide +kernel
theorem dX13_read_133 : decode cX13_read 133 = .ok (.aload_n 0, 1) := by decide +kernel
theorem dX13_read_134 : decode cX13_read 134 = .ok (.getfield 30, 3) := by decide +kernel
theorem dX13_read_137 : decode cX13_read 137 = .ok (.if_icmp .ge 52, 3) := by decide +kernel
theorem dX13_read_140 : decode cX13_read 140 = .ok (.aload_n 0, 1) := by decide +kernel
theorem dX13_read_141 : decode cX13_read 141 = .ok (.getfield 15, 3) := by decide +kernel
theorem dX13_read_144 : decode cX13_read 144 = .ok (.iload 5, 2) := by decide +kernel
theorem dX13_read_146 : decode cX13_read 146 = .ok (.iaload, 1) := by decide +kernel
theorem dX13_read_147 : decode cX13_read 147 = .ok (.aload_n 0, 1) := by decide +kernel
theorem dX13_read_148 : decode cX13_read 148 = .ok (.getfield 9, 3) := by decide +kernel
theorem dX13_read_151 : decode cX13_read 151 = .ok (.iload 5, 2) := by decide +kernel
theorem dX13_read_153 : decode cX13_read 153 = .ok (.iaload, 1) := by decide +kernel
theorem dX13_read_154 : decode cX13_read 154 = .ok (.isub, 1) := by decide +kernel
theorem dX13_read_155 : decode cX13_read 155 = .ok (.iload 4, 2) := by decide +kernel
theorem dX13_read_157 : decode cX13_read 157 = .ok (.iload_n 2, 1) := by decide +kernel
theorem dX13_read_158 : decode cX13_read 158 = .ok (.isub, 1) := by decide +kernel
theorem dX13_read_159 : decode cX13_read 159 = .ok (.if_icmp .ne 24, 3) := by decide +kernel
theorem dX13_read_162 : decode cX13_read 162 = .ok (.aload_n 0, 1) := by decide +kernel
theorem dX13_read_163 : decode cX13_read 163 = .ok (.aload_n 0, 1) := by decide +kernel
theorem dX13_read_164 : decode cX13_read 164 = .ok (.getfield 9, 3) := by decide +kernel
theorem dX13_read_167 : decode cX13_read 167 = .ok (.iload 5, 2) := by decide +kernel
theorem dX13_read_169 : decode cX13_read 169 = .ok (.iaload, 1) := by decide +kernel
theorem dX13_read_170 : decode cX13_read 170 = .ok (.iload_n 2, 1) := by decide +kernel
theorem dX13_read_171 : decode cX13_read 171 = .ok (.iload 4, 2) := by decide +kernel
theorem dX13_read_173 : decode cX13_read 173 = .ok (.iload_n 2, 1) := by decide +kernel
theorem dX13_read_174 : decode cX13_read 174 = .ok (.isub, 1) := by decide +kernel
theorem dX13_read_175 : decode cX13_read 175 = .ok (.invokevirtual 49, 3) := by decide +kernel
theorem dX13_read_178 : decode cX13_read 178 = .ok (.ifCond .eq 5, 3) := by decide +kernel
theorem dX13_read_181 : decode cX13_read 181 = .ok (.iconst 0, 1) := by decide +kernel
theorem dX13_read_182 : decode cX13_read 182 = .ok (.ireturn, 1) := by decide +kernel
theorem dX13_read_183 : decode cX13_read 183 = .ok (.iinc 5 1, 3) := by decide +kernel
theorem dX13_read_186 : decode cX13_read 186 = .ok (.goto (-55), 3) := by decide +kernel
theorem dX13_read_189 : decode cX13_read 189 = .ok (.aload_n 0, 1) := by decide +kernel
theorem dX13_read_190 : decode cX13_read 190 = .ok (.getfield 9, 3) := by decide +kernel
theorem dX13_read_193 : decode cX13_read 193 = .ok (.aload_n 0, 1) := by decide +kernel
theorem dX13_read_194 : decode cX13_read 194 = .ok (.getfield 30, 3) := by decide +kernel
theorem dX13_read_197 : decode cX13_read 197 = .ok (.iload_n 2, 1) := by decide +kernel
theorem dX13_read_198 : decode cX13_read 198 = .ok (.iastore, 1) := by decide +kernel
theorem dX13_read_199 : decode cX13_read 199 = .ok (.aload_n 0, 1) := by decide +kernel
theorem dX13_read_200 : decode cX13_read 200 = .ok (.getfield 15, 3) := by decide +kernel
theorem dX13_read_203 : decode cX13_read 203 = .ok (.aload_n 0, 1) := by decide +kernel
theorem dX13_read_204 : decode cX13_read 204 = .ok (.getfield 30, 3) := by decide +kernel
theorem dX13_read_207 : decode cX13_read 207 = .ok (.iload 4, 2) := by decide +kernel
theorem dX13_read_209 : decode cX13_read 209 = .ok (.iastore, 1) := by decide +kernel
theorem dX13_read_210 : decode cX13_read 210 = .ok (.aload_n 0, 1) := by decide +kernel
theorem dX13_read_211 : decode cX13_read 211 = .ok (.getfield 18, 3) := by decide +kernel
theorem dX13_read_214 : decode cX13_read 214 = .ok (.aload_n 0, 1) := by decide +kernel
theorem dX13_read_215 : decode cX13_read 215 = .ok (.getfield 30, 3) := by decide +kernel
theorem dX13_read_218 : decode cX13_read 218 = .ok (.iload_n 3, 1) := by decide +kernel
theorem dX13_read_219 : decode cX13_read 219 = .ok (.iastore, 1) := by decide +kernel
theorem dX13_read_220 : decode cX13_read 220 = .ok (.aload_n 0, 1) := by decide +kernel
theorem dX13_read_221 : decode cX13_read 221 = .ok (.dup, 1) := by decide +kernel
theorem dX13_read_222 : decode cX13_read 222 = .ok (.getfield 30, 3) := by decide +kernel
theorem dX13_read_225 : decode cX13_read 225 = .ok (.iconst 1, 1) := by decide +kernel
theorem dX13_read_226 : decode cX13_read 226 = .ok (.iadd, 1) := by decide +kernel
theorem dX13_read_227 : decode cX13_read 227 = .ok (.putfield 30, 3) := by decide +kernel
theorem dX13_read_230 : decode cX13_read 230 = .ok (.iload_n 3, 1) := by decide +kernel
theorem dX13_read_231 : decode cX13_read 231 = .ok (.iconst 1, 1) := by decide +kernel
theorem dX13_read_232 : decode cX13_read 232 = .ok (.iadd, 1) := by decide +kernel
theorem dX13_read_233 : decode cX13_read 233 = .ok (.istore_n 2, 1) := by decide +kernel
theorem dX13_read_234 : decode cX13_read 234 = .ok (.goto (-227), 3) := by decide +kernel
theorem dX13_read_237 : decode cX13_read 237 = .ok (.iconst 1, 1) := by decide +kernel
theorem dX13_read_238 : decode cX13_read 238 = .ok (.ireturn, 1) := by decide +kernel
theorem kt_823 : Cond.fieldLink RX13 30 "PostGateModel$Tags" "many" "I" ∈ tb := tb_at (i := 1234) (by decide +kernel) (by decide +kernel)
theorem kt_824 : Cond.fieldLink RX13 26 "PostGateModel$Tags" "text" "LPostGateModel$Text;" ∈ tb := tb_at (i := 1227) (by decide +kernel) (by decide +kernel)
theorem kt_825 : Cond.fieldLink RX13 37 "PostGateModel$Text" "b" "[B" ∈ tb := tb_at (i := 1209) (by decide +kernel) (by decide +kernel)
theorem kt_826 : Cond.fieldLink RX13 9 "PostGateModel$Tags" "from" "[I" ∈ tb := tb_at (i := 1229) (by decide +kernel) (by decide +kernel)
theorem kt_827 : Cond.fieldLink RX13 15 "PostGateModel$Tags" "equals" "[I" ∈ tb := tb_at (i := 1230) (by decide +kernel) (by decide +kernel)
theorem kt_828 : Cond.code yX13_find cX13_find 3 (some .int) ∈ tb := tb_at (i := 1725) (by decide +kernel) (by decide +kernel)
theorem kt_829 : Cond.initialized RX13 ∈ tb := tb_at (i := 95) (by decide +kernel) (by decide +kernel)
theorem kt_830 : Cond.methodLink RX13 57 yX13_find ∈ tb := tb_at (i := 1722) (by decide +kernel) (by decide +kernel)
theorem kt_831 : Cond.instanceMethod yX13_find ∈ tb := tb_at (i := 1723) (by decide +kernel) (by decide +kernel)
theorem kt_832 : Cond.selects RX13 yX13_find yX13_find ∈ tb := tb_at (i := 1724) (by decide +kernel) (by decide +kernel)
theorem kt_833 : Cond.fieldLink RX13 18 "PostGateModel$Tags" "to" "[I" ∈ tb := tb_at (i := 1232) (by decide +kernel) (by decide +kernel)
theorem kt_834 : Cond.fieldLink RX13 34 "PostGateModel$Text" "n" "I" ∈ tb := tb_at (i := 1212) (by decide +kernel) (by decide +kernel)
theorem kt_835 : Cond.code yX13_isSame cX13_isSame 5 (some .boolean) ∈ tb := tb_at (i := 1715) (by decide +kernel) (by decide +kernel)
theorem kt_836 : Cond.methodLink RX13 49 yX13_isSame ∈ tb := tb_at (i := 1712) (by decide +kernel) (by decide +kernel)
theorem kt_837 : Cond.instanceMethod yX13_isSame ∈ tb := tb_at (i := 1714) (by decide +kernel) (by decide +kernel)
theorem kt_838 : Cond.selects RX13 yX13_isSame yX13_isSame ∈ tb := tb_at (i := 64) (by decide +kernel) (by decide +kernel)
theorem kn_41 : Cond.methodLinkNest RX13 53 yX15_is "PostGateModel" ∈ nw := nw_at (i := 1646) (by decide +kernel) rfl
theorem kn_42 : Cond.methodLinkNest RX13 45 yX15_in "PostGateModel" ∈ nw := nw_at (i := 1631) (by decide +kernel) rfl
theorem kn_43 : Cond.methodLinkNest RX13 41 yX15_isSmall "PostGateModel" ∈ nw := nw_at (i := 1630) (by decide +kernel) rfl
def tagP (fb f0 f1 C : Nat → Int32) (n k : Nat) : Prop := isP fb (f0 k).toNatClampNeg (f1 k).toNatClampNeg C n
theorem tagP_eq {fb f0 f1 C : Nat → Int32} {n k a b : Nat} (h0 : f0 k = nI a) (h1 : f1 k = nI b) (ha : a < 2 ^ 31) (hb : b < 2 ^ 31) : tagP fb f0 f1 C n k ↔ isP fb a b C n := by
  unfold tagP
  rw [h0, h1, nI_clamp ha, nI_clamp hb]
def FND (fb f0 f1 : Nat → Int32) (z : Nat) (C : Nat → Int32) (n : Nat) (r : Int32) : Prop := (r = (-1) ∧ ∀ k, k < z → ¬ tagP fb f0 f1 C n k) ∨ ∃ k, k < z ∧ r = nI k ∧ tagP fb f0 f1 C n k ∧ ∀ i, i < k → ¬ tagP fb f0 f1 C n i
theorem FND.uniq {fb f0 f1 C : Nat → Int32} {z n : Nat} {r1 r2 : Int32} (h1 : FND fb f0 f1 z C n r1) (h2 : FND fb f0 f1 z C n r2) : r1 = r2 := by
  rcases h1 with ⟨e1, q1⟩ | ⟨k1, a1, e1, p1, q1⟩ <;> rcases h2 with ⟨e2, q2⟩ | ⟨k2, a2, e2, p2, q2⟩
  · rw [e1, e2]
  · exact absurd p2 (q1 k2 a2)
  · exact absurd p1 (q2 k1 a1)
  · rcases Nat.lt_trichotomy k1 k2 with w | w | w
    · exact absurd p1 (q2 k1 w)
    · rw [e1, e2, w]
    · exact absurd p2 (q1 k2 w)
theorem FND.pos {fb f0 f1 C : Nat → Int32} {z n : Nat} {r : Int32} (h : FND fb f0 f1 z C n r) (c : ¬ r < 0) : ∃ k, k < z ∧ r = nI k := by
  rcases h with ⟨e1, -⟩ | ⟨k1, a1, e1, -, -⟩
  · rw [e1] at c; exact absurd (by decide) c
  · exact ⟨k1, a1, e1⟩
def TGN (f1 f2 : Nat → Int32) (k : Nat) : Prop := (f1 k).toNatClampNeg + 1 < (f2 k).toNatClampNeg ∧ (f2 k).toNatClampNeg ≤ (f1 k).toNatClampNeg + 61
theorem TGN.eq {f1 f2 : Nat → Int32} {k a b : Nat} (h1 : f1 k = nI a) (h2 : f2 k = nI b) (ha : a < 2 ^ 31) (hb : b < 2 ^ 31) : TGN f1 f2 k ↔ (a + 1 < b ∧ b ≤ a + 61) := by
  unfold TGN
  rw [h1, h2, nI_clamp ha, nI_clamp hb]
theorem ekc {f : Nat → Int32} {j k : Nat} (h : f (nI j).toNatClampNeg = nI k) (hj : j < 2 ^ 31) : f j = nI k := by
  rw [nI_clamp hj] at h
  exact h
set_option maxHeartbeats 4000000 in
set_option maxRecDepth 100000 in
theorem s_X13_find (l : Launch) (dC : Nat → ClassId) (dI : Nat → Nat → Nat) (cs : Nat → ClassId) (ty : TyM) (gm : Nat → Nat → Nat) (L : List Nat) (sz : Nat) (F : Nat → va_E) (h0 : Nat) (ρ : Nat) (tx : Nat) (n : Nat) (Bn : Nat) (y0 : Nat) (y1 : Nat) (y2 : Nat) (tbx : Nat) (z : Nat) (q : Nat) (v : Nat) (k0 : Nat) (C : Nat → Int32) (hW : WTm ty gm L) (hL_h0 : h0 ∈ L) (hT_h0 : ty h0 = (13, ρ, [tx, n, Bn, y0, y1, y2])) (hL_tx : tx ∈ L) (hT_tx : ty tx = (14, ρ + 1, [tbx, n])) (hF0 : F h0 = .inr (13, [.ref tx, .ref y0, .ref y1, .ref y2, .int (nI z)])) (hz40 : z ≤ 40) : Met l yX13_find (.code yX13_find cX13_find 3 (some .int) :: tb) ({ frames := 5, cells := 0, slots := 0, locals := 109 }) (va_Pc [.ref h0, .ref q] (PTEm (dC, dI) cs ty gm L F sz [(q, v, k0, C)])) (va_Qi (fun (r : Int32) (_ : Unit) => FND (gA (F tbx)) (gA (F y0)) (gA (F y1)) z C k0 r) (fun _ T9 => ∃ F2 : Nat → va_E, QTm (dC, dI) cs ty gm L [] F F2 (va_A (va_pl L F) sz) T9) (va_A (va_pl L F) sz)) 0 0 (va_A (va_pl L F) sz) := by
  refine Met.ofW (cc := cX13_find) (maxL := 3) (ret := (some .int)) (by decide) rfl ?_
  intro p e s m args below meth c s₁ B hml hv
  obtain ⟨rfl, ⟨hsz, hP, hK, hD0, hE, hO⟩, hG, hX⟩ := hv
  have hx := B.exec
  have hb := B.bytes
  have hr := B.returns
  have hts : ∀ w ∈ tb, w.before _ s = true := fun w h => atoms_spec (ws := .code yX13_find cX13_find 3 (some .int) :: tb) B.pre w (List.mem_cons_of_mem _ h)
  have hown : s.vm.findClass RX13 = some m.cls := findClass_of_methodNamed B.named
  have hlocks := B.notSynchronized
  subst hsz
  have hD := hD0.self (sz := s.heap.size)
  generalize hAe : va_A (va_pl L F) s.heap.size = A at hD hG hX ⊢
  have hX_q : SXc q v k0 C A s s.heap := hX (q, v, k0, C) (by simp)
  obtain ⟨xo_q, xc_q, xv_q, xt_q, xn_q⟩ := id hX_q
  have hA : ∀ q : Nat, s.heap.size ≤ q → A q := fun q h => by rw [← hAe]; exact Or.inr h
  have hS : va_S A s.heap s.heap [] := va_S.rf
  have hR : FR ty [] F F := FR.refl
  have hl := lv_entry ([.ref h0, .ref q]) (n := 3) (Nat.le_of_ble_eq_true rfl)
  rw [lg_entry_eq]
  generalize (lg_sl ([.ref h0, .ref q]) ++ List.replicate (3 - (lg_sl ([.ref h0, .ref q])).length) Slot.unset).toArray = ls at hl ⊢
  have hl : lv_has ls 3 [(0, .ref h0), (1, .ref q)] := hl
  refine lv_iconst (v := 0) hx hb dX13_find_0 (by decide) ?_
  refine lv_istore_n (lv' := [(2, .int 0), (0, .ref h0), (1, .ref q)]) hx hb dX13_find_1 rfl hl (by decide) rfl (fun ls hl => ?_)
  refine W.widen (k := 0) (n := 0) (by omega) (by omega) ?_
  refine pl_loopm (σ := Nat) A (dC, dI) cs ty gm L [] F 2 3 (fun j => [(2, .int (nI j)), (0, .ref h0), (1, .ref q)]) (fun j => []) (fun j _ => j ≤ 40 ∧ ∀ i, i < j → ¬ tagP (gA (F tbx)) (gA (F y0)) (gA (F y1)) C k0 i) (fun j => 40 - j) ?_ 0 F (⟨by omega, fun i hi => absurd hi (Nat.not_lt_zero _)⟩) hO hR _ _ hP hD hS ls (lv_sub hl [0, 1, 2] rfl)
  rintro j F_1 hv_2 hO hR ih_3 H locs hP hD hS ls hl
  have hl : lv_has ls 3 [(2, .int (nI j)), (0, .ref h0), (1, .ref q)] := hl
  have hv_2 : j ≤ 40 ∧ ∀ i, i < j → ¬ tagP (gA (F tbx)) (gA (F y0)) (gA (F y1)) C k0 i := hv_2
  refine W.eq (g2 := F0 m 2 ls []) rfl ?_
  obtain rfl : F = F_1 := (funext (fun a => hR a List.not_mem_nil)).symm
  obtain ⟨hv1, hv2⟩ := hv_2
  refine lv_iload_n hx hb dX13_find_2 rfl (lv_at hl 0 rfl) ?_
  refine lv_aload_n hx hb dX13_find_3 rfl (lv_at hl 1 rfl) ?_
  obtain ⟨_, hi_4, hi_5, hi_6, _, ht_7, ht_8, ht_9, hq_10, hq_11⟩ := hW.tags hL_h0 hT_h0
  refine pg_get (ci := 13) (v := .int (nI z)) (C := RX13) (T := TX13) (N := 5) hx hb hts it_13 hown hK hP hL_h0 hF0 rfl 4 (by decide) (hts _ kt_823) (fun _ h9 => h9) rfl dX13_find_4 ?_
  refine lv_icmp_ge (tgt := 44) hx hb dX13_find_7 (by decide) (fun c_12 => ?_) (fun c_12 => ?_)
  ·
    have hi_13 : z ≤ j := leN (N := z) c_12
    refine lv_iconst (v := (-1)) hx hb dX13_find_44 (by decide) ?_
    refine W.widen (k := 0) (n := 0) (by omega) (by omega) ?_
    exact W.iret (v := (-1)) hx hb hr (fun t ht hWm => ⟨⟨(-1), (), rfl, (Or.inl ⟨rfl, fun k hk => hv2 k (by omega)⟩), ⟨F, QTm.mk ht hP hD hO hR⟩⟩, hS.F ht⟩) hS.2.2 dX13_find_45
  ·
    have hi_14 : j < z := ltN (N := z) c_12
    refine lv_aload_n hx hb dX13_find_10 rfl (lv_at hl 1 rfl) ?_
    refine pg_get (ci := 13) (v := .ref tx) (C := RX13) (T := TX13) (N := 5) hx hb hts it_13 hown hK hP hL_h0 hF0 rfl 0 (by decide) (hts _ kt_824) (fun _ h9 => h9) rfl dX13_find_11 ?_
    obtain ⟨hi_15, ht_16, hq_17⟩ := hW.txt hL_tx hT_tx
    obtain ⟨z_18, hF_19, hq_20⟩ := hO.txt hL_tx hT_tx
    refine pg_get (ci := 14) (v := .ref tbx) (C := RX14) (T := TX14) (N := 2) hx hb hts it_14 hown hK hP hL_tx hF_19 rfl 0 (by decide) (hts _ kt_825) (fun _ h9 => h9) rfl dX13_find_14 ?_
    refine lv_aload_n hx hb dX13_find_17 rfl (lv_at hl 1 rfl) ?_
    refine pg_get (ci := 13) (v := .ref y0) (C := RX13) (T := TX13) (N := 5) hx hb hts it_13 hown hK hP hL_h0 hF0 rfl 1 (by decide) (hts _ kt_826) (fun _ h9 => h9) rfl dX13_find_18 ?_
    refine lv_iload_n hx hb dX13_find_21 rfl (lv_at hl 0 rfl) ?_
    obtain ⟨f_21, hF_22, hq_23⟩ := hO.idb hi_4 ht_7
    refine pg_iald hx hb hK hP hi_4 0 hF_22 rfl (vp_in_nI (by omega) (by omega)) dX13_find_22 ?_
    obtain ⟨k_24, hk_25, ek_26⟩ := hq_23 ((nI j) : Int32).toNatClampNeg
    refine lv_topi (fun x_27 ex_27 => ?_)
    obtain rfl : x_27 = nI k_24 := ex_27.trans ek_26
    refine lv_aload_n hx hb dX13_find_23 rfl (lv_at hl 1 rfl) ?_
    refine pg_get (ci := 13) (v := .ref y1) (C := RX13) (T := TX13) (N := 5) hx hb hts it_13 hown hK hP hL_h0 hF0 rfl 2 (by decide) (hts _ kt_827) (fun _ h9 => h9) rfl dX13_find_24 ?_
    refine lv_iload_n hx hb dX13_find_27 rfl (lv_at hl 0 rfl) ?_
    obtain ⟨f_28, hF_29, hq_30⟩ := hO.idb hi_5 ht_8
    refine pg_iald hx hb hK hP hi_5 0 hF_29 rfl (vp_in_nI (by omega) (by omega)) dX13_find_28 ?_
    obtain ⟨k_31, hk_32, ek_33⟩ := hq_30 ((nI j) : Int32).toNatClampNeg
    refine lv_topi (fun x_34 ex_34 => ?_)
    obtain rfl : x_34 = nI k_31 := ex_34.trans ek_33
    refine lv_aload_n hx hb dX13_find_29 rfl (lv_at hl 2 rfl) ?_
    have hg0 := gA_of hF_22 ek_26 (by omega)
    have hg1 := gA_of hF_29 ek_33 (by omega)
    obtain ⟨hq_35, hq_36⟩ := hW.octs hi_15 ht_16
    have hFc := pg_free hD hS hA
    refine va_calli (va_runSN (As := [.ref tbx, .int (nI k_24), .int (nI k_31), .ref q]) (rest := []) ⟨hx, hb, hml, hown, hts⟩ (s_X15_is l dC dI cs ty gm L H.size F tbx (ρ + 1) n q v k0 C k_24 k_31 hW hi_15 ht_16 (by first | omega | assumption) (by first | omega | assumption)) ⟨va_cnB 4 hts (gi kt_694) rfl rfl rfl (hE.nestw kn_41) (hts _ kt_669) (by decide +kernel) ⟨Nat.le_of_ble_eq_true rfl, Nat.le_of_ble_eq_true rfl⟩, (hts _ kt_696), trivial⟩ ⟨fun a U g mk q => ⟨q.1, PTEm.calling q.2⟩, fun U hU hWm => ⟨rfl, PTEm.mk hU hWm hP hK hD hE hO hG (fun x hx => by rw [List.mem_singleton] at hx; subst hx; exact hX_q) hS hFc⟩⟩ rfl rfl hl.1 rfl (lv_room (Nat.le_of_ble_eq_true rfl)) dX13_find_30 ⟨by show _ + 0 ≤ 0; omega, by show _ + 0 ≤ 0; omega⟩) hS (fun q _ h => hFc q h) hFc (fun r_37 u t H1 locs ht hvm hw hB hz1 hk1 hS => ?_)
    obtain ⟨F_38, hB1⟩ := hB
    obtain rfl : F = F_38 := (funext (fun a => hB1.2.2.2 a List.not_mem_nil)).symm
    obtain ⟨hP, hD, hO, hR⟩ := QTm.back hB1 ht hFc hR (fun q h => absurd h List.not_mem_nil)
    generalize H1 = H at hP hS ⊢
    have hw : ((r_37 = 1 ∧ isP (gA (F tbx)) k_24 k_31 C k0) ∨ (r_37 = 0 ∧ ¬ isP (gA (F tbx)) k_24 k_31 C k0)) := hw
    have hw_39 := hw
    refine lv_if_eq (tgt := 38) hx hb dX13_find_33 (by decide) (fun c_40 => ?_) (fun c_40 => ?_)
    ·
      refine lv_iinc (v := (nI (j + 1))) (lv' := [(2, .int (nI (j + 1))), (0, .ref h0), (1, .ref q)]) hx hb dX13_find_38 hl (k := 0) rfl (nI_1 _) (by decide) rfl (fun ls hl => ?_)
      refine lv_goto (tgt := 2) hx hb dX13_find_41 (by decide) ?_
      refine W.widen (k := 0) (n := 0) (by omega) (by omega) ?_
      exact ih_3 (j + 1) F (⟨by omega, all_step hv2 (fun h => nm0 hw_39 c_40 ((tagP_eq hg0 hg1 (by omega) (by omega)).mp h))⟩) (by show 40 - (j + 1) < 40 - j; omega) hO hR _ _ hP hD hS ls (lv_sub hl [0, 1, 2] rfl)
    ·
      refine lv_iload_n hx hb dX13_find_36 rfl (lv_at hl 0 rfl) ?_
      refine W.widen (k := 0) (n := 0) (by omega) (by omega) ?_
      exact W.iret (v := (nI j)) hx hb hr (fun t ht hWm => ⟨⟨(nI j), (), rfl, (Or.inr ⟨j, by omega, rfl, (tagP_eq hg0 hg1 (by omega) (by omega)).mpr (nm1 hw_39 c_40), hv2⟩), ⟨F, QTm.mk ht hP hD hO hR⟩⟩, hS.F ht⟩) hS.2.2 dX13_find_37
set_option maxHeartbeats 4000000 in
set_option maxRecDepth 100000 in
theorem s_X13_has (l : Launch) (dC : Nat → ClassId) (dI : Nat → Nat → Nat) (cs : Nat → ClassId) (ty : TyM) (gm : Nat → Nat → Nat) (L : List Nat) (sz : Nat) (F : Nat → va_E) (h0 : Nat) (ρ : Nat) (tx : Nat) (n : Nat) (Bn : Nat) (y0 : Nat) (y1 : Nat) (y2 : Nat) (tbx : Nat) (z : Nat) (q : Nat) (v : Nat) (k0 : Nat) (C : Nat → Int32) (q2 : Nat) (v2 : Nat) (k2 : Nat) (C2 : Nat → Int32) (hW : WTm ty gm L) (hL_h0 : h0 ∈ L) (hT_h0 : ty h0 = (13, ρ, [tx, n, Bn, y0, y1, y2])) (hL_tx : tx ∈ L) (hT_tx : ty tx = (14, ρ + 1, [tbx, n])) (hF0 : F h0 = .inr (13, [.ref tx, .ref y0, .ref y1, .ref y2, .int (nI z)])) (hz40 : z ≤ 40) : Met l yX13_has (.code yX13_has cX13_has 4 (some .boolean) :: tb) ({ frames := 6, cells := 0, slots := 0, locals := 131 }) (va_Pc [.ref h0, .ref q, .ref q2] (PTEm (dC, dI) cs ty gm L F sz [(q, v, k0, C), (q2, v2, k2, C2)])) (va_Qi (fun (r : Int32) (_ : Unit) => (r = 0 ∨ r = 1)) (fun _ T9 => ∃ F2 : Nat → va_E, QTm (dC, dI) cs ty gm L [] F F2 (va_A (va_pl L F) sz) T9) (va_A (va_pl L F) sz)) 0 0 (va_A (va_pl L F) sz) := by
  refine Met.ofW (cc := cX13_has) (maxL := 4) (ret := (some .boolean)) (by decide) rfl ?_
  intro p e s m args below meth c s₁ B hml hv
  obtain ⟨rfl, ⟨hsz, hP, hK, hD0, hE, hO⟩, hG, hX⟩ := hv
  have hx := B.exec
  have hb := B.bytes
  have hr := B.returns
  have hts : ∀ w ∈ tb, w.before _ s = true := fun w h => atoms_spec (ws := .code yX13_has cX13_has 4 (some .boolean) :: tb) B.pre w (List.mem_cons_of_mem _ h)
  have hown : s.vm.findClass RX13 = some m.cls := findClass_of_methodNamed B.named
  have hlocks := B.notSynchronized
  subst hsz
  have hD := hD0.self (sz := s.heap.size)
  generalize hAe : va_A (va_pl L F) s.heap.size = A at hD hG hX ⊢
  have hX_q : SXc q v k0 C A s s.heap := hX (q, v, k0, C) (by simp)
  obtain ⟨xo_q, xc_q, xv_q, xt_q, xn_q⟩ := id hX_q
  have hX_q2 : SXc q2 v2 k2 C2 A s s.heap := hX (q2, v2, k2, C2) (by simp)
  obtain ⟨xo_q2, xc_q2, xv_q2, xt_q2, xn_q2⟩ := id hX_q2
  have hA : ∀ q : Nat, s.heap.size ≤ q → A q := fun q h => by rw [← hAe]; exact Or.inr h
  have hS : va_S A s.heap s.heap [] := va_S.rf
  have hR : FR ty [] F F := FR.refl
  have hl := lv_entry ([.ref h0, .ref q, .ref q2]) (n := 4) (Nat.le_of_ble_eq_true rfl)
  rw [lg_entry_eq]
  generalize (lg_sl ([.ref h0, .ref q, .ref q2]) ++ List.replicate (4 - (lg_sl ([.ref h0, .ref q, .ref q2])).length) Slot.unset).toArray = ls at hl ⊢
  have hl : lv_has ls 4 [(0, .ref h0), (1, .ref q), (2, .ref q2)] := hl
  refine lv_aload_n hx hb dX13_has_0 rfl (lv_at hl 0 rfl) ?_
  refine lv_aload_n hx hb dX13_has_1 rfl (lv_at hl 1 rfl) ?_
  obtain ⟨_, hi_1, hi_2, hi_3, _, ht_4, ht_5, ht_6, hq_7, hq_8⟩ := hW.tags hL_h0 hT_h0
  obtain ⟨hi_9, ht_10, hq_11⟩ := hW.txt hL_tx hT_tx
  have hFc := pg_free hD hS hA
  refine va_calli (va_runV (As := [.ref q]) (rest := []) ⟨hx, hb, hml, hown, hts⟩ (s_X13_find l dC dI cs ty gm L s.heap.size F h0 ρ tx n Bn y0 y1 y2 tbx z q v k0 C hW hL_h0 hT_h0 hL_tx hT_tx hF0 (by first | omega | assumption)) ⟨callB_of 1 hts (gi kt_828) rfl rfl rfl (hts _ kt_829) (hts _ kt_830) (by decide +kernel) ⟨Nat.le_of_ble_eq_true rfl, Nat.le_of_ble_eq_true rfl⟩, (hts _ kt_831), (hts _ kt_832)⟩ ⟨fun a U g mk q => ⟨q.1, PTEm.calling q.2⟩, pg_recv hK hP hL_h0 hF0 (q := (RX13, TX13, 5)) rfl, fun U hU hWm => ⟨rfl, PTEm.mk hU hWm hP hK hD hE hO hG (fun x hx => by rw [List.mem_singleton] at hx; subst hx; exact hX_q) hS hFc⟩⟩ rfl rfl hl.1 rfl (lv_room (Nat.le_of_ble_eq_true rfl)) dX13_has_2 ⟨by show _ + 0 ≤ 0; omega, by show _ + 0 ≤ 0; omega⟩) hS (fun q _ h => hFc q h) hFc (fun r_12 u t H1 locs ht hvm hw hB hz1 hk1 hS => ?_)
  obtain ⟨F_13, hB1⟩ := hB
  obtain rfl : F = F_13 := (funext (fun a => hB1.2.2.2 a List.not_mem_nil)).symm
  obtain ⟨hP, hD, hO, hR⟩ := QTm.back hB1 ht hFc hR (fun q h => absurd h List.not_mem_nil)
  generalize H1 = H at hP hS ⊢
  have hw : FND (gA (F tbx)) (gA (F y0)) (gA (F y1)) z C k0 r_12 := hw
  have hw_14 := hw
  refine lv_istore_n (lv' := [(3, .int r_12), (0, .ref h0), (1, .ref q), (2, .ref q2)]) hx hb dX13_has_5 rfl hl (by decide) rfl (fun ls hl => ?_)
  refine lv_iload_n hx hb dX13_has_6 rfl (lv_at hl 0 rfl) ?_
  refine lv_if_lt (tgt := 42) hx hb dX13_has_7 (by decide) (fun c_15 => ?_) (fun c_15 => ?_)
  ·
    refine lv_iconst (v := 0) hx hb dX13_has_42 (by decide) ?_
    refine W.widen (k := 0) (n := 0) (by omega) (by omega) ?_
    exact W.zret (v := 0) (ty := .boolean) hx hb hr (by decide) (fun t ht hWm => ⟨⟨0, (), rfl, (by first | exact Or.inl rfl | exact Or.inr rfl), ⟨F, QTm.mk ht hP hD hO hR⟩⟩, hS.F ht⟩) hS.2.2 dX13_has_43
  ·
    obtain ⟨kf_16, hkf_16, ekf_16⟩ := FND.pos hw_14 c_15
    subst ekf_16
    refine lv_aload_n hx hb dX13_has_10 rfl (lv_at hl 1 rfl) ?_
    refine pg_get (ci := 13) (v := .ref tx) (C := RX13) (T := TX13) (N := 5) hx hb hts it_13 hown hK hP hL_h0 hF0 rfl 0 (by decide) (hts _ kt_824) (fun _ h9 => h9) rfl dX13_has_11 ?_
    obtain ⟨z_17, hF_18, hq_19⟩ := hO.txt hL_tx hT_tx
    refine pg_get (ci := 14) (v := .ref tbx) (C := RX14) (T := TX14) (N := 2) hx hb hts it_14 hown hK hP hL_tx hF_18 rfl 0 (by decide) (hts _ kt_825) (fun _ h9 => h9) rfl dX13_has_14 ?_
    refine lv_aload_n hx hb dX13_has_17 rfl (lv_at hl 1 rfl) ?_
    refine pg_get (ci := 13) (v := .ref y1) (C := RX13) (T := TX13) (N := 5) hx hb hts it_13 hown hK hP hL_h0 hF0 rfl 2 (by decide) (hts _ kt_827) (fun _ h9 => h9) rfl dX13_has_18 ?_
    refine lv_iload_n hx hb dX13_has_21 rfl (lv_at hl 0 rfl) ?_
    obtain ⟨f_20, hF_21, hq_22⟩ := hO.idb hi_2 ht_5
    refine pg_iald hx hb hK hP hi_2 0 hF_21 rfl (vp_in_nI (by omega) (by omega)) dX13_has_22 ?_
    obtain ⟨k_23, hk_24, ek_25⟩ := hq_22 ((nI kf_16) : Int32).toNatClampNeg
    refine lv_topi (fun x_26 ex_26 => ?_)
    obtain rfl : x_26 = nI k_23 := ex_26.trans ek_25
    refine lv_iconst (v := 1) hx hb dX13_has_23 (by decide) ?_
    refine lv_iadd hx hb dX13_has_24 ?_
    refine lv_topi (fun x_27 ex_27 => ?_)
    obtain rfl : x_27 = (nI (k_23 + 1)) := ex_27.trans (nI_add k_23 1)
    refine lv_aload_n hx hb dX13_has_25 rfl (lv_at hl 1 rfl) ?_
    refine pg_get (ci := 13) (v := .ref y2) (C := RX13) (T := TX13) (N := 5) hx hb hts it_13 hown hK hP hL_h0 hF0 rfl 3 (by decide) (hts _ kt_833) (fun _ h9 => h9) rfl dX13_has_26 ?_
    refine lv_iload_n hx hb dX13_has_29 rfl (lv_at hl 0 rfl) ?_
    obtain ⟨f_28, hF_29, hq_30⟩ := hO.idb hi_3 ht_6
    refine pg_iald hx hb hK hP hi_3 0 hF_29 rfl (vp_in_nI (by omega) (by omega)) dX13_has_30 ?_
    obtain ⟨k_31, hk_32, ek_33⟩ := hq_30 ((nI kf_16) : Int32).toNatClampNeg
    refine lv_topi (fun x_34 ex_34 => ?_)
    obtain rfl : x_34 = nI k_31 := ex_34.trans ek_33
    refine lv_aload_n hx hb dX13_has_31 rfl (lv_at hl 3 rfl) ?_
    obtain ⟨hq_35, hq_36⟩ := hW.octs hi_9 ht_10
    have hFc := pg_free hD hS hA
    refine va_calli (va_runSN (As := [.ref tbx, .int (nI (k_23 + 1)), .int (nI k_31), .ref q2]) (rest := []) ⟨hx, hb, hml, hown, hts⟩ (s_X15_is l dC dI cs ty gm L H.size F tbx (ρ + 1) n q2 v2 k2 C2 (k_23 + 1) k_31 hW hi_9 ht_10 (by first | omega | assumption) (by first | omega | assumption)) ⟨va_cnB 4 hts (gi kt_694) rfl rfl rfl (hE.nestw kn_41) (hts _ kt_669) (by decide +kernel) ⟨Nat.le_of_ble_eq_true rfl, Nat.le_of_ble_eq_true rfl⟩, (hts _ kt_696), trivial⟩ ⟨fun a U g mk q => ⟨q.1, PTEm.calling q.2⟩, fun U hU hWm => ⟨rfl, PTEm.mk hU hWm hP hK hD hE hO hG (fun x hx => by rw [List.mem_singleton] at hx; subst hx; exact hX_q2) hS hFc⟩⟩ rfl rfl hl.1 rfl (lv_room (Nat.le_of_ble_eq_true rfl)) dX13_has_32 ⟨by show _ + 0 ≤ 0; omega, by show _ + 0 ≤ 0; omega⟩) hS (fun q _ h => hFc q h) hFc (fun r_37 u t H1 locs ht hvm hw hB hz1 hk1 hS => ?_)
    obtain ⟨F_38, hB1⟩ := hB
    obtain rfl : F = F_38 := (funext (fun a => hB1.2.2.2 a List.not_mem_nil)).symm
    obtain ⟨hP, hD, hO, hR⟩ := QTm.back hB1 ht hFc hR (fun q h => absurd h List.not_mem_nil)
    generalize H1 = H at hP hS ⊢
    have hw : ((r_37 = 1 ∧ isP (gA (F tbx)) (k_23 + 1) k_31 C2 k2) ∨ (r_37 = 0 ∧ ¬ isP (gA (F tbx)) (k_23 + 1) k_31 C2 k2)) := hw
    have hw_39 := hw
    refine lv_if_eq (tgt := 42) hx hb dX13_has_35 (by decide) (fun c_40 => ?_) (fun c_40 => ?_)
    ·
      refine lv_iconst (v := 0) hx hb dX13_has_42 (by decide) ?_
      refine W.widen (k := 0) (n := 0) (by omega) (by omega) ?_
      exact W.zret (v := 0) (ty := .boolean) hx hb hr (by decide) (fun t ht hWm => ⟨⟨0, (), rfl, (by first | exact Or.inl rfl | exact Or.inr rfl), ⟨F, QTm.mk ht hP hD hO hR⟩⟩, hS.F ht⟩) hS.2.2 dX13_has_43
    ·
      refine lv_iconst (v := 1) hx hb dX13_has_38 (by decide) ?_
      refine lv_goto (tgt := 43) hx hb dX13_has_39 (by decide) ?_
      refine W.widen (k := 0) (n := 0) (by omega) (by omega) ?_
      exact W.zret (v := 1) (ty := .boolean) hx hb hr (by decide) (fun t ht hWm => ⟨⟨1, (), rfl, (by first | exact Or.inl rfl | exact Or.inr rfl), ⟨F, QTm.mk ht hP hD hO hR⟩⟩, hS.F ht⟩) hS.2.2 dX13_has_43
set_option maxHeartbeats 4000000 in
set_option maxRecDepth 100000 in
theorem s_X13_isSame (l : Launch) (dC : Nat → ClassId) (dI : Nat → Nat → Nat) (cs : Nat → ClassId) (ty : TyM) (gm : Nat → Nat → Nat) (L : List Nat) (sz : Nat) (F : Nat → va_E) (h0 : Nat) (ρ : Nat) (tx : Nat) (n : Nat) (Bn : Nat) (y0 : Nat) (y1 : Nat) (y2 : Nat) (tbx : Nat) (a : Nat) (b : Nat) (k : Nat) (hW : WTm ty gm L) (hL_h0 : h0 ∈ L) (hT_h0 : ty h0 = (13, ρ, [tx, n, Bn, y0, y1, y2])) (hL_tx : tx ∈ L) (hT_tx : ty tx = (14, ρ + 1, [tbx, n])) (ha : a + k ≤ n) (hb0 : b + k ≤ n) : Met l yX13_isSame (.code yX13_isSame cX13_isSame 5 (some .boolean) :: tb) ({ frames := 0, cells := 0, slots := 0, locals := 0 }) (va_Pc [.ref h0, .int (nI a), .int (nI b), .int (nI k)] (PTm (dC, dI) cs ty gm L F sz)) (va_Qi (fun (r : Int32) (_ : Unit) => (r = 0 ∨ r = 1)) (fun _ T9 => ∃ F2 : Nat → va_E, QTm (dC, dI) cs ty gm L [] F F2 (va_A (va_pl L F) sz) T9) (va_A (va_pl L F) sz)) 0 0 (va_A (va_pl L F) sz) := by
  refine Met.ofW (cc := cX13_isSame) (maxL := 5) (ret := (some .boolean)) (by decide) rfl ?_
  intro p e s m args below meth c s₁ B hml hv
  obtain ⟨rfl, hsz, hP, hK, hD0, hE, hO⟩ := hv
  have hx := B.exec
  have hb := B.bytes
  have hr := B.returns
  have hts : ∀ w ∈ tb, w.before _ s = true := fun w h => atoms_spec (ws := .code yX13_isSame cX13_isSame 5 (some .boolean) :: tb) B.pre w (List.mem_cons_of_mem _ h)
  have hown : s.vm.findClass RX13 = some m.cls := findClass_of_methodNamed B.named
  have hlocks := B.notSynchronized
  subst hsz
  have hD := hD0.self (sz := s.heap.size)
  generalize hAe : va_A (va_pl L F) s.heap.size = A at hD ⊢
  have hA : ∀ q : Nat, s.heap.size ≤ q → A q := fun q h => by rw [← hAe]; exact Or.inr h
  have hS : va_S A s.heap s.heap [] := va_S.rf
  have hR : FR ty [] F F := FR.refl
  have hl := lv_entry ([.ref h0, .int (nI a), .int (nI b), .int (nI k)]) (n := 5) (Nat.le_of_ble_eq_true rfl)
  rw [lg_entry_eq]
  generalize (lg_sl ([.ref h0, .int (nI a), .int (nI b), .int (nI k)]) ++ List.replicate (5 - (lg_sl ([.ref h0, .int (nI a), .int (nI b), .int (nI k)])).length) Slot.unset).toArray = ls at hl ⊢
  have hl : lv_has ls 5 [(0, .ref h0), (1, .int (nI a)), (2, .int (nI b)), (3, .int (nI k))] := hl
  obtain ⟨_, hi_1, hi_2, hi_3, _, ht_4, ht_5, ht_6, hq_7, hq_8⟩ := hW.tags hL_h0 hT_h0
  obtain ⟨hi_9, ht_10, hq_11⟩ := hW.txt hL_tx hT_tx
  refine lv_iconst (v := 0) hx hb dX13_isSame_0 (by decide) ?_
  refine lv_istore (lv' := [(4, .int 0), (0, .ref h0), (1, .int (nI a)), (2, .int (nI b)), (3, .int (nI k))]) hx hb dX13_isSame_1 hl (by decide) rfl (fun ls hl => ?_)
  refine W.widen (k := 0) (n := 0) (by omega) (by omega) ?_
  refine pl_loopm (σ := Nat) A (dC, dI) cs ty gm L [] F 3 5 (fun j => [(4, .int (nI j)), (0, .ref h0), (1, .int (nI a)), (2, .int (nI b)), (3, .int (nI k))]) (fun j => []) (fun j _ => j ≤ k) (fun j => k - j) ?_ 0 F (by omega) hO hR _ _ hP hD hS ls (lv_sub hl [0, 1, 2, 3, 4] rfl)
  rintro j F_12 hv_13 hO hR ih_14 H locs hP hD hS ls hl
  have hl : lv_has ls 5 [(4, .int (nI j)), (0, .ref h0), (1, .int (nI a)), (2, .int (nI b)), (3, .int (nI k))] := hl
  have hv_13 : j ≤ k := hv_13
  refine W.eq (g2 := F0 m 3 ls []) rfl ?_
  obtain rfl : F = F_12 := (funext (fun a => hR a List.not_mem_nil)).symm
  refine lv_iload hx hb dX13_isSame_3 (lv_at hl 0 rfl) ?_
  refine lv_iload_n hx hb dX13_isSame_5 rfl (lv_at hl 4 rfl) ?_
  refine lv_icmp_ge (tgt := 44) hx hb dX13_isSame_6 (by decide) (fun c_15 => ?_) (fun c_15 => ?_)
  ·
    have hi_16 : k ≤ j := leN (N := k) c_15
    refine lv_iconst (v := 1) hx hb dX13_isSame_44 (by decide) ?_
    refine W.widen (k := 0) (n := 0) (by omega) (by omega) ?_
    exact W.zret (v := 1) (ty := .boolean) hx hb hr (by decide) (fun t ht hWm => ⟨⟨1, (), rfl, (by first | exact Or.inl rfl | exact Or.inr rfl), ⟨F, QTm.mk ht hP hD hO hR⟩⟩, hS.F ht⟩) hS.2.2 dX13_isSame_45
  ·
    have hi_17 : j < k := ltN (N := k) c_15
    refine lv_aload_n hx hb dX13_isSame_9 rfl (lv_at hl 1 rfl) ?_
    obtain ⟨z_18, hF_19, hq_20⟩ := hO.tags hL_h0 hT_h0
    refine pg_get (ci := 13) (v := .ref tx) (C := RX13) (T := TX13) (N := 5) hx hb hts it_13 hown hK hP hL_h0 hF_19 rfl 0 (by decide) (hts _ kt_824) (fun _ h9 => h9) rfl dX13_isSame_10 ?_
    obtain ⟨z_21, hF_22, hq_23⟩ := hO.txt hL_tx hT_tx
    refine pg_get (ci := 14) (v := .ref tbx) (C := RX14) (T := TX14) (N := 2) hx hb hts it_14 hown hK hP hL_tx hF_22 rfl 0 (by decide) (hts _ kt_825) (fun _ h9 => h9) rfl dX13_isSame_13 ?_
    refine lv_iload_n hx hb dX13_isSame_16 rfl (lv_at hl 2 rfl) ?_
    refine lv_iload hx hb dX13_isSame_17 (lv_at hl 0 rfl) ?_
    refine lv_iadd hx hb dX13_isSame_19 ?_
    refine lv_topi (fun x_24 ex_24 => ?_)
    obtain rfl : x_24 = (nI (a + j)) := ex_24.trans (nI_add a j)
    obtain ⟨hq_25, hq_26⟩ := hW.octs hi_9 ht_10
    obtain ⟨f_27, hF_28, hq_29⟩ := hO.octs hi_9 ht_10
    refine pg_bald hx hb hK hP hi_9 1 hF_28 rfl (vp_in_nI (by omega) (by omega)) dX13_isSame_20 ?_
    refine lv_topi (fun x_30 ex_30 => ?_)
    obtain rfl : x_30 = f_27 (a + j) := ex_30.trans (congrArg f_27 (show ((nI (a + j)) : Int32).toNatClampNeg = (a + j) from nI_clamp (by omega)))
    refine lv_aload_n hx hb dX13_isSame_21 rfl (lv_at hl 1 rfl) ?_
    refine pg_get (ci := 13) (v := .ref tx) (C := RX13) (T := TX13) (N := 5) hx hb hts it_13 hown hK hP hL_h0 hF_19 rfl 0 (by decide) (hts _ kt_824) (fun _ h9 => h9) rfl dX13_isSame_22 ?_
    refine pg_get (ci := 14) (v := .ref tbx) (C := RX14) (T := TX14) (N := 2) hx hb hts it_14 hown hK hP hL_tx hF_22 rfl 0 (by decide) (hts _ kt_825) (fun _ h9 => h9) rfl dX13_isSame_25 ?_
    refine lv_iload_n hx hb dX13_isSame_28 rfl (lv_at hl 3 rfl) ?_
    refine lv_iload hx hb dX13_isSame_29 (lv_at hl 0 rfl) ?_
    refine lv_iadd hx hb dX13_isSame_31 ?_
    refine lv_topi (fun x_31 ex_31 => ?_)
    obtain rfl : x_31 = (nI (b + j)) := ex_31.trans (nI_add b j)
    refine pg_bald hx hb hK hP hi_9 1 hF_28 rfl (vp_in_nI (by omega) (by omega)) dX13_isSame_32 ?_
    refine lv_topi (fun x_32 ex_32 => ?_)
    obtain rfl : x_32 = f_27 (b + j) := ex_32.trans (congrArg f_27 (show ((nI (b + j)) : Int32).toNatClampNeg = (b + j) from nI_clamp (by omega)))
    refine lv_icmp_eq (tgt := 38) hx hb dX13_isSame_33 (by decide) (fun c_33 => ?_) (fun c_33 => ?_)
    ·
      refine lv_iinc (v := (nI (j + 1))) (lv' := [(4, .int (nI (j + 1))), (0, .ref h0), (1, .int (nI a)), (2, .int (nI b)), (3, .int (nI k))]) hx hb dX13_isSame_38 hl (k := 0) rfl (nI_1 _) (by decide) rfl (fun ls hl => ?_)
      refine lv_goto (tgt := 3) hx hb dX13_isSame_41 (by decide) ?_
      refine W.widen (k := 0) (n := 0) (by omega) (by omega) ?_
      exact ih_14 (j + 1) F (by first | omega | exact ⟨by omega, by omega⟩ | trivial) (by show k - (j + 1) < k - j; omega) hO hR _ _ hP hD hS ls (lv_sub hl [0, 1, 2, 3, 4] rfl)
    ·
      refine lv_iconst (v := 0) hx hb dX13_isSame_36 (by decide) ?_
      refine W.widen (k := 0) (n := 0) (by omega) (by omega) ?_
      exact W.zret (v := 0) (ty := .boolean) hx hb hr (by decide) (fun t ht hWm => ⟨⟨0, (), rfl, (by first | exact Or.inl rfl | exact Or.inr rfl), ⟨F, QTm.mk ht hP hD hO hR⟩⟩, hS.F ht⟩) hS.2.2 dX13_isSame_37
set_option maxHeartbeats 4000000 in
set_option maxRecDepth 100000 in
theorem s_X13_read (l : Launch) (dC : Nat → ClassId) (dI : Nat → Nat → Nat) (cs : Nat → ClassId) (ty : TyM) (gm : Nat → Nat → Nat) (L : List Nat) (sz : Nat) (F : Nat → va_E) (h0 : Nat) (ρ : Nat) (tx : Nat) (n : Nat) (Bn : Nat) (y0 : Nat) (y1 : Nat) (y2 : Nat) (tbx : Nat) (zx : Nat) (x1 : Int32) (hW : WTm ty gm L) (hL_h0 : h0 ∈ L) (hT_h0 : ty h0 = (13, ρ, [tx, n, Bn, y0, y1, y2])) (hL_tx : tx ∈ L) (hT_tx : ty tx = (14, ρ + 1, [tbx, n])) (hFx : F tx = .inr (14, [.ref tbx, .int (nI zx)])) (hzB : zx ≤ Bn) : Met l yX13_read (.code yX13_read cX13_read 6 (some .boolean) :: tb) ({ frames := 1, cells := 0, slots := 0, locals := 25 }) (va_Pc [.ref h0, .int x1] (PTm (dC, dI) cs ty gm L F sz)) (va_Qi (fun (r : Int32) (_ : Unit) => (r = 0 ∨ r = 1)) (fun _ T9 => ∃ F2 : Nat → va_E, ∃ z2 : Nat, QTm (dC, dI) cs ty gm L [ρ] F F2 (va_A (va_pl L F) sz) T9 ∧ F2 h0 = .inr (13, [.ref tx, .ref y0, .ref y1, .ref y2, .int (nI z2)]) ∧ z2 ≤ 40) (va_A (va_pl L F) sz)) 0 0 (va_A (va_pl L F) sz) := by
  refine Met.ofW (cc := cX13_read) (maxL := 6) (ret := (some .boolean)) (by decide) rfl ?_
  intro p e s m args below meth c s₁ B hml hv
  obtain ⟨rfl, hsz, hP, hK, hD0, hE, hO⟩ := hv
  have hx := B.exec
  have hb := B.bytes
  have hr := B.returns
  have hts : ∀ w ∈ tb, w.before _ s = true := fun w h => atoms_spec (ws := .code yX13_read cX13_read 6 (some .boolean) :: tb) B.pre w (List.mem_cons_of_mem _ h)
  have hown : s.vm.findClass RX13 = some m.cls := findClass_of_methodNamed B.named
  have hlocks := B.notSynchronized
  subst hsz
  have hD := hD0.self (sz := s.heap.size)
  generalize hAe : va_A (va_pl L F) s.heap.size = A at hD ⊢
  have hA : ∀ q : Nat, s.heap.size ≤ q → A q := fun q h => by rw [← hAe]; exact Or.inr h
  have hS : va_S A s.heap s.heap [] := va_S.rf
  have hR : FR ty [ρ] F F := FR.refl
  have hl := lv_entry ([.ref h0, .int x1]) (n := 6) (Nat.le_of_ble_eq_true rfl)
  rw [lg_entry_eq]
  generalize (lg_sl ([.ref h0, .int x1]) ++ List.replicate (6 - (lg_sl ([.ref h0, .int x1])).length) Slot.unset).toArray = ls at hl ⊢
  have hl : lv_has ls 6 [(0, .ref h0), (1, .int x1)] := hl
  obtain ⟨_, hi_1, hi_2, hi_3, _, ht_4, ht_5, ht_6, hq_7, hq_8⟩ := hW.tags hL_h0 hT_h0
  obtain ⟨hi_9, ht_10, hq_11⟩ := hW.txt hL_tx hT_tx
  refine lv_aload_n hx hb dX13_read_0 rfl (lv_at hl 0 rfl) ?_
  refine lv_iconst (v := 0) hx hb dX13_read_1 (by decide) ?_
  obtain ⟨z_12, hF_13, hq_14⟩ := hO.tags hL_h0 hT_h0
  refine pg_put (ci := 13) (v := .int 0) (ty := .int) (C := RX13) (T := TX13) (N := 5) hx hb hts it_13 tyX13 tyX13_ok nmX13 hown hK hP hD hS hL_h0 hF_13 rfl 4 (by decide) (hts _ kt_823) (fun _ h9 => h9) rfl (by decide +kernel) (rfl) (rfl) (Nat.le_of_ble_eq_true rfl) dX13_read_2 (fun H locs hP hD hS => ?_)
  obtain ⟨F_15, he_16, hP, hD, hO, hR⟩ : ∃ G, G = va_up F h0 (.inr (13, [.ref tx, .ref y0, .ref y1, .ref y2, .int 0])) ∧ va_P (dC, dI) vwCl (va_pl L G) H ∧ va_D A (va_pl L G) ∧ OKm cs ty gm L G ∧ FR ty [ρ] F G := ⟨_, rfl, hP, hD, hO.up (shm.tags hT_h0 ⟨0, rfl, (by first | omega | assumption | exact Or.inl rfl | exact Or.inr rfl)⟩), hR.up hT_h0 (by simp)⟩
  have hF_17 : F_15 h0 = .inr (13, [.ref tx, .ref y0, .ref y1, .ref y2, .int 0]) := by rw [he_16]; exact up_self
  have hF_18 : F_15 tx = .inr (14, [.ref tbx, .int (nI zx)]) := by rw [he_16, up_ne (ne_ty hT_tx hT_h0 (by simp))]; exact hFx
  refine lv_iconst (v := 0) hx hb dX13_read_5 (by decide) ?_
  refine lv_istore_n (lv' := [(2, .int 0), (0, .ref h0), (1, .int x1)]) hx hb dX13_read_6 rfl hl (by decide) rfl (fun ls hl => ?_)
  refine W.widen (k := 0) (n := 0) (by omega) (by omega) ?_
  have hF_20 : F tx = .inr (14, [.ref tbx, .int (nI zx)]) := (hR tx (by rw [hT_tx]; simp)).symm.trans hF_18
  refine pl_loopm (σ := Nat × Nat) A (dC, dI) cs ty gm L [ρ] F 7 6 (fun (j, zz) => [(2, .int (nI j)), (0, .ref h0), (1, .int x1)]) (fun (j, zz) => []) (fun (j, zz) FF => j ≤ zx + 1 ∧ zz ≤ 40 ∧ FF h0 = .inr (13, [.ref tx, .ref y0, .ref y1, .ref y2, .int (nI zz)])) (fun (j, zz) => zx + 1 - j) ?_ (0, 0) F_15 (⟨by omega, by omega, hF_17⟩) hO hR _ _ hP hD hS ls (lv_sub hl [0, 1, 2] rfl)
  rintro ⟨j, zz⟩ F_19 hv_21 hO hR ih_22 H locs hP hD hS ls hl
  have hl : lv_has ls 6 [(2, .int (nI j)), (0, .ref h0), (1, .int x1)] := hl
  have hv_21 : j ≤ zx + 1 ∧ zz ≤ 40 ∧ F_19 h0 = .inr (13, [.ref tx, .ref y0, .ref y1, .ref y2, .int (nI zz)]) := hv_21
  refine W.eq (g2 := F0 m 7 ls []) rfl ?_
  have hF_23 : F_19 tx = .inr (14, [.ref tbx, .int (nI zx)]) := (hR tx (by rw [hT_tx]; simp)).trans hF_20
  obtain ⟨ha1, ha2, ha3⟩ := hv_21
  refine lv_iload_n hx hb dX13_read_7 rfl (lv_at hl 0 rfl) ?_
  refine lv_aload_n hx hb dX13_read_8 rfl (lv_at hl 1 rfl) ?_
  refine pg_get (ci := 13) (v := .ref tx) (C := RX13) (T := TX13) (N := 5) hx hb hts it_13 hown hK hP hL_h0 ha3 rfl 0 (by decide) (hts _ kt_824) (fun _ h9 => h9) rfl dX13_read_9 ?_
  refine pg_get (ci := 14) (v := .int (nI zx)) (C := RX14) (T := TX14) (N := 2) hx hb hts it_14 hown hK hP hL_tx hF_23 rfl 1 (by decide) (hts _ kt_834) (fun _ h9 => h9) rfl dX13_read_12 ?_
  refine lv_icmp_ge (tgt := 237) hx hb dX13_read_15 (by decide) (fun c_24 => ?_) (fun c_24 => ?_)
  ·
    have hi_25 : zx ≤ j := leN (N := zx) c_24
    refine lv_iconst (v := 1) hx hb dX13_read_237 (by decide) ?_
    refine W.widen (k := 0) (n := 0) (by omega) (by omega) ?_
    exact W.zret (v := 1) (ty := .boolean) hx hb hr (by decide) (fun t ht hWm => ⟨⟨1, (), rfl, (by first | exact Or.inl rfl | exact Or.inr rfl), ⟨F_19, zz, QTm.mk ht hP hD hO hR, ha3, by omega⟩⟩, hS.F ht⟩) hS.2.2 dX13_read_238
  ·
    have hi_26 : j < zx := ltN (N := zx) c_24
    refine lv_iload_n hx hb dX13_read_18 rfl (lv_at hl 0 rfl) ?_
    refine lv_istore_n (lv' := [(3, .int (nI j)), (2, .int (nI j)), (0, .ref h0), (1, .int x1)]) hx hb dX13_read_19 rfl hl (by decide) rfl (fun ls hl => ?_)
    refine lv_iload_n hx hb dX13_read_20 rfl (lv_at hl 1 rfl) ?_
    refine lv_istore (lv' := [(4, .int (nI j)), (3, .int (nI j)), (2, .int (nI j)), (0, .ref h0), (1, .int x1)]) hx hb dX13_read_21 hl (by decide) rfl (fun ls hl => ?_)
    refine W.widen (k := 0) (n := 0) (by omega) (by omega) ?_
    have hF_28 : F tx = .inr (14, [.ref tbx, .int (nI zx)]) := (hR tx (by rw [hT_tx]; simp)).symm.trans hF_23
    refine pl_loopm (σ := Nat) A (dC, dI) cs ty gm L [ρ] F 23 6 (fun i => [(4, .int (nI j)), (3, .int (nI i)), (2, .int (nI j)), (0, .ref h0), (1, .int x1)]) (fun i => []) (fun i FF => j ≤ i ∧ i ≤ zx ∧ FF h0 = .inr (13, [.ref tx, .ref y0, .ref y1, .ref y2, .int (nI zz)])) (fun i => zx - i) ?_ j F_19 (⟨by omega, by omega, ha3⟩) hO hR _ _ hP hD hS ls (lv_sub hl [0, 1, 2, 3, 4] rfl)
    rintro i F_27 hv_29 hO hR ih_30 H locs hP hD hS ls hl
    have hl : lv_has ls 6 [(4, .int (nI j)), (3, .int (nI i)), (2, .int (nI j)), (0, .ref h0), (1, .int x1)] := hl
    have hv_29 : j ≤ i ∧ i ≤ zx ∧ F_27 h0 = .inr (13, [.ref tx, .ref y0, .ref y1, .ref y2, .int (nI zz)]) := hv_29
    refine W.eq (g2 := F0 m 23 ls []) rfl ?_
    have hF_31 : F_27 tx = .inr (14, [.ref tbx, .int (nI zx)]) := (hR tx (by rw [hT_tx]; simp)).trans hF_28
    obtain ⟨hb1, hb2, hb3⟩ := hv_29
    refine lv_iload_n hx hb dX13_read_23 rfl (lv_at hl 1 rfl) ?_
    refine lv_aload_n hx hb dX13_read_24 rfl (lv_at hl 3 rfl) ?_
    refine pg_get (ci := 13) (v := .ref tx) (C := RX13) (T := TX13) (N := 5) hx hb hts it_13 hown hK hP hL_h0 hb3 rfl 0 (by decide) (hts _ kt_824) (fun _ h9 => h9) rfl dX13_read_25 ?_
    refine pg_get (ci := 14) (v := .int (nI zx)) (C := RX14) (T := TX14) (N := 2) hx hb hts it_14 hown hK hP hL_tx hF_31 rfl 1 (by decide) (hts _ kt_834) (fun _ h9 => h9) rfl dX13_read_28 ?_
    refine lv_icmp_ge (tgt := 54) hx hb dX13_read_31 (by decide) (fun c_32 => ?_) (fun c_32 => ?_)
    ·
      have hi_33 : zx ≤ i := leN (N := zx) c_32
      refine W.widen (k := 0) (n := 0) (by omega) (by omega) ?_
      have hF_35 : F tx = .inr (14, [.ref tbx, .int (nI zx)]) := (hR tx (by rw [hT_tx]; simp)).symm.trans hF_31
      refine pl_loopm (σ := Nat) A (dC, dI) cs ty gm L [ρ] F 54 6 (fun ee => [(4, .int (nI ee)), (3, .int (nI i)), (2, .int (nI j)), (0, .ref h0), (1, .int x1)]) (fun ee => []) (fun ee FF => j ≤ ee ∧ ee ≤ i ∧ FF h0 = .inr (13, [.ref tx, .ref y0, .ref y1, .ref y2, .int (nI zz)])) (fun ee => i - ee) ?_ j F_27 (⟨by omega, by omega, hb3⟩) hO hR _ _ hP hD hS ls (lv_sub hl [0, 1, 2, 3, 4] rfl)
      rintro ee F_34 hv_36 hO hR ih_37 H locs hP hD hS ls hl
      have hl : lv_has ls 6 [(4, .int (nI ee)), (3, .int (nI i)), (2, .int (nI j)), (0, .ref h0), (1, .int x1)] := hl
      have hv_36 : j ≤ ee ∧ ee ≤ i ∧ F_34 h0 = .inr (13, [.ref tx, .ref y0, .ref y1, .ref y2, .int (nI zz)]) := hv_36
      refine W.eq (g2 := F0 m 54 ls []) rfl ?_
      have hF_38 : F_34 tx = .inr (14, [.ref tbx, .int (nI zx)]) := (hR tx (by rw [hT_tx]; simp)).trans hF_35
      obtain ⟨hc1, hc2, hc3⟩ := hv_36
      refine lv_iload hx hb dX13_read_54 (lv_at hl 0 rfl) ?_
      refine lv_iload_n hx hb dX13_read_56 rfl (lv_at hl 1 rfl) ?_
      refine lv_icmp_ge (tgt := 82) hx hb dX13_read_57 (by decide) (fun c_39 => ?_) (fun c_39 => ?_)
      ·
        have hi_40 : i ≤ ee := leN (N := i) c_39
        refine lv_iload hx hb dX13_read_82 (lv_at hl 0 rfl) ?_
        refine lv_iload_n hx hb dX13_read_84 rfl (lv_at hl 2 rfl) ?_
        refine lv_isub hx hb dX13_read_85 ?_
        refine lv_topi (fun x_41 ex_41 => ?_)
        obtain rfl : x_41 = (nI (ee - j)) := ex_41.trans (pk_sub (a := ee) (b := j) (by omega))
        refine lv_i2l (v := (nI (ee - j)).toInt64) hx hb dX13_read_86 rfl ?_
        refine lv_lconst (v := 1) hx hb dX13_read_87 (by decide) ?_
        refine lv_iload_n hx hb dX13_read_88 rfl (lv_at hl 4 rfl) ?_
        refine lv_i2l (v := x1.toInt64) hx hb dX13_read_89 rfl ?_
        have hFc := pg_free hD hS hA
        refine va_calli (va_runSN (As := [.long ((nI (ee - j)).toInt64), .long 1, .long x1.toInt64]) (rest := []) ⟨hx, hb, hml, hown, hts⟩ (s_X15_in l dC dI cs ty gm L H.size F_34 ((nI (ee - j)).toInt64) 1 x1.toInt64 hW ) ⟨va_cnB 3 hts (gi kt_685) rfl rfl rfl (hE.nestw kn_42) (hts _ kt_669) (by decide +kernel) ⟨Nat.le_of_ble_eq_true rfl, Nat.le_of_ble_eq_true rfl⟩, (hts _ kt_686), trivial⟩ ⟨fun a U g mk q => ⟨q.1, PTm.calling q.2⟩, fun U hU hWm => ⟨rfl, PTm.mk hU hWm hP hK hD hE hO⟩⟩ rfl rfl hl.1 rfl (lv_room (Nat.le_of_ble_eq_true rfl)) dX13_read_90 ⟨by show _ + 0 ≤ 0; omega, by show _ + 0 ≤ 0; omega⟩) hS (fun q _ h => hFc q h) hFc (fun r_42 u t H1 locs ht hvm hw hB hz1 hk1 hS => ?_)
        obtain ⟨F_43, hB1⟩ := hB
        obtain rfl : F_34 = F_43 := (funext (fun a => hB1.2.2.2 a List.not_mem_nil)).symm
        obtain ⟨hP, hD, hO, hR⟩ := QTm.back hB1 ht hFc hR (fun q h => absurd h List.not_mem_nil)
        generalize H1 = H at hP hS ⊢
        have hw : r_42 = (if 1 ≤ (nI (ee - j)).toInt64 ∧ (nI (ee - j)).toInt64 ≤ x1.toInt64 then 1 else 0) := hw
        have hw_44 := hw
        refine lv_if_eq (tgt := 126) hx hb dX13_read_93 (by decide) (fun c_45 => ?_) (fun c_45 => ?_)
        ·
          refine lv_iconst (v := 0) hx hb dX13_read_126 (by decide) ?_
          refine W.widen (k := 0) (n := 0) (by omega) (by omega) ?_
          exact W.zret (v := 0) (ty := .boolean) hx hb hr (by decide) (fun t ht hWm => ⟨⟨0, (), rfl, (by first | exact Or.inl rfl | exact Or.inr rfl), ⟨F_34, zz, QTm.mk ht hP hD hO hR, hc3, by omega⟩⟩, hS.F ht⟩) hS.2.2 dX13_read_127
        ·
          refine lv_iload hx hb dX13_read_96 (lv_at hl 0 rfl) ?_
          refine lv_iload_n hx hb dX13_read_98 rfl (lv_at hl 1 rfl) ?_
          refine lv_icmp_eq (tgt := 126) hx hb dX13_read_99 (by decide) (fun c_46 => ?_) (fun c_46 => ?_)
          ·
            have hi_47 : ee = i := (nI_eq (a := ee) (b := i) (by omega) (by omega)).mp c_46
            refine lv_iconst (v := 0) hx hb dX13_read_126 (by decide) ?_
            refine W.widen (k := 0) (n := 0) (by omega) (by omega) ?_
            exact W.zret (v := 0) (ty := .boolean) hx hb hr (by decide) (fun t ht hWm => ⟨⟨0, (), rfl, (by first | exact Or.inl rfl | exact Or.inr rfl), ⟨F_34, zz, QTm.mk ht hP hD hO hR, hc3, by omega⟩⟩, hS.F ht⟩) hS.2.2 dX13_read_127
          ·
            have hi_48 : ee ≠ i := fun q => c_46 (by rw [q])
            refine lv_aload_n hx hb dX13_read_102 rfl (lv_at hl 3 rfl) ?_
            refine pg_get (ci := 13) (v := .ref tx) (C := RX13) (T := TX13) (N := 5) hx hb hts it_13 hown hK hP hL_h0 hc3 rfl 0 (by decide) (hts _ kt_824) (fun _ h9 => h9) rfl dX13_read_103 ?_
            refine pg_get (ci := 14) (v := .ref tbx) (C := RX14) (T := TX14) (N := 2) hx hb hts it_14 hown hK hP hL_tx hF_38 rfl 0 (by decide) (hts _ kt_825) (fun _ h9 => h9) rfl dX13_read_106 ?_
            refine lv_iload hx hb dX13_read_109 (lv_at hl 0 rfl) ?_
            obtain ⟨hq_49, hq_50⟩ := hW.octs hi_9 ht_10
            obtain ⟨f_51, hF_52, hq_53⟩ := hO.octs hi_9 ht_10
            refine pg_bald hx hb hK hP hi_9 1 hF_52 rfl (vp_in_nI (by omega) (by omega)) dX13_read_111 ?_
            refine lv_topi (fun x_54 ex_54 => ?_)
            obtain rfl : x_54 = f_51 ee := ex_54.trans (congrArg f_51 (show ((nI ee) : Int32).toNatClampNeg = ee from nI_clamp (by omega)))
            refine lv_bipush (v := 61) hx hb dX13_read_112 (by decide) ?_
            refine lv_icmp_ne (tgt := 126) hx hb dX13_read_114 (by decide) (fun c_55 => ?_) (fun c_55 => ?_)
            ·
              refine lv_iconst (v := 0) hx hb dX13_read_126 (by decide) ?_
              refine W.widen (k := 0) (n := 0) (by omega) (by omega) ?_
              exact W.zret (v := 0) (ty := .boolean) hx hb hr (by decide) (fun t ht hWm => ⟨⟨0, (), rfl, (by first | exact Or.inl rfl | exact Or.inr rfl), ⟨F_34, zz, QTm.mk ht hP hD hO hR, hc3, by omega⟩⟩, hS.F ht⟩) hS.2.2 dX13_read_127
            ·
              refine lv_aload_n hx hb dX13_read_117 rfl (lv_at hl 3 rfl) ?_
              refine pg_get (ci := 13) (v := .int (nI zz)) (C := RX13) (T := TX13) (N := 5) hx hb hts it_13 hown hK hP hL_h0 hc3 rfl 4 (by decide) (hts _ kt_823) (fun _ h9 => h9) rfl dX13_read_118 ?_
              refine lv_bipush (v := 40) hx hb dX13_read_121 (by decide) ?_
              refine lv_icmp_ne (tgt := 128) hx hb dX13_read_123 (by decide) (fun c_56 => ?_) (fun c_56 => ?_)
              ·
                have hi_57 : zz ≠ 40 := fun q => c_56 (by rw [q]; rfl)
                refine lv_iconst (v := 0) hx hb dX13_read_128 (by decide) ?_
                refine lv_istore (lv' := [(5, .int 0), (4, .int (nI ee)), (3, .int (nI i)), (2, .int (nI j)), (0, .ref h0), (1, .int x1)]) hx hb dX13_read_129 hl (by decide) rfl (fun ls hl => ?_)
                refine W.widen (k := 0) (n := 0) (by omega) (by omega) ?_
                have hF_59 : F tx = .inr (14, [.ref tbx, .int (nI zx)]) := (hR tx (by rw [hT_tx]; simp)).symm.trans hF_38
                have hF_60 : F tbx = .inl (cs 17, n, .inl f_51) := (hR tbx (by rw [ht_10]; simp)).symm.trans hF_52
                refine pl_loopm (σ := Nat) A (dC, dI) cs ty gm L [ρ] F 131 6 (fun kk => [(5, .int (nI kk)), (4, .int (nI ee)), (3, .int (nI i)), (2, .int (nI j)), (0, .ref h0), (1, .int x1)]) (fun kk => []) (fun kk FF => kk ≤ 40 ∧ FF h0 = .inr (13, [.ref tx, .ref y0, .ref y1, .ref y2, .int (nI zz)])) (fun kk => 40 - kk) ?_ 0 F_34 (⟨by omega, hc3⟩) hO hR _ _ hP hD hS ls (lv_sub hl [0, 1, 2, 3, 4, 5] rfl)
                rintro kk F_58 hv_61 hO hR ih_62 H locs hP hD hS ls hl
                have hl : lv_has ls 6 [(5, .int (nI kk)), (4, .int (nI ee)), (3, .int (nI i)), (2, .int (nI j)), (0, .ref h0), (1, .int x1)] := hl
                have hv_61 : kk ≤ 40 ∧ F_58 h0 = .inr (13, [.ref tx, .ref y0, .ref y1, .ref y2, .int (nI zz)]) := hv_61
                refine W.eq (g2 := F0 m 131 ls []) rfl ?_
                have hF_63 : F_58 tx = .inr (14, [.ref tbx, .int (nI zx)]) := (hR tx (by rw [hT_tx]; simp)).trans hF_59
                have hF_64 : F_58 tbx = .inl (cs 17, n, .inl f_51) := (hR tbx (by rw [ht_10]; simp)).trans hF_60
                obtain ⟨hd1, hd2⟩ := hv_61
                refine lv_iload hx hb dX13_read_131 (lv_at hl 0 rfl) ?_
                refine lv_aload_n hx hb dX13_read_133 rfl (lv_at hl 4 rfl) ?_
                refine pg_get (ci := 13) (v := .int (nI zz)) (C := RX13) (T := TX13) (N := 5) hx hb hts it_13 hown hK hP hL_h0 hd2 rfl 4 (by decide) (hts _ kt_823) (fun _ h9 => h9) rfl dX13_read_134 ?_
                refine lv_icmp_ge (tgt := 189) hx hb dX13_read_137 (by decide) (fun c_65 => ?_) (fun c_65 => ?_)
                ·
                  have hi_66 : zz ≤ kk := leN (N := zz) c_65
                  refine lv_aload_n hx hb dX13_read_189 rfl (lv_at hl 4 rfl) ?_
                  refine pg_get (ci := 13) (v := .ref y0) (C := RX13) (T := TX13) (N := 5) hx hb hts it_13 hown hK hP hL_h0 hd2 rfl 1 (by decide) (hts _ kt_826) (fun _ h9 => h9) rfl dX13_read_190 ?_
                  refine lv_aload_n hx hb dX13_read_193 rfl (lv_at hl 4 rfl) ?_
                  refine pg_get (ci := 13) (v := .int (nI zz)) (C := RX13) (T := TX13) (N := 5) hx hb hts it_13 hown hK hP hL_h0 hd2 rfl 4 (by decide) (hts _ kt_823) (fun _ h9 => h9) rfl dX13_read_194 ?_
                  refine lv_iload_n hx hb dX13_read_197 rfl (lv_at hl 3 rfl) ?_
                  obtain ⟨f_67, hF_68, hq_69⟩ := hO.idb hi_1 ht_4
                  refine pg_iast hx hb hK hP hD hS hi_1 0 hF_68 rfl (vp_in_nI (by omega) (by omega)) dX13_read_198 (fun H locs hP hD hS => ?_)
                  obtain ⟨F_70, he_71, hP, hD, hO, hR⟩ : ∃ G, G = va_up F_58 y0 (.inl (cs 16, 40, .inl (upd f_67 ((nI zz)).toNatClampNeg ((nI j))))) ∧ va_P (dC, dI) vwCl (va_pl L G) H ∧ va_D A (va_pl L G) ∧ OKm cs ty gm L G ∧ FR ty [ρ] F G := ⟨_, rfl, hP, hD, hO.up (shm.idb ht_4 ⟨_, rfl, ixb_upd hq_69 _ _ (by omega)⟩), hR.up ht_4 (by simp)⟩
                  have hF_72 : F_70 y0 = .inl (cs 16, 40, .inl (upd f_67 ((nI zz)).toNatClampNeg ((nI j)))) := by rw [he_71]; exact up_self
                  have hF_73 : F_70 tx = .inr (14, [.ref tbx, .int (nI zx)]) := by rw [he_71, up_ne (ne_ty hT_tx ht_4 (by simp))]; exact hF_63
                  have hF_74 : F_70 tbx = .inl (cs 17, n, .inl f_51) := by rw [he_71, up_ne (ne_ty ht_10 ht_4 (by simp))]; exact hF_64
                  have hF_75 : F_70 h0 = .inr (13, [.ref tx, .ref y0, .ref y1, .ref y2, .int (nI zz)]) := by rw [he_71, up_ne (ne_ty hT_h0 ht_4 (by simp))]; exact hd2
                  obtain ⟨f_76, hF_72, hq_77⟩ : ∃ f : Nat → Int32, F_70 y0 = .inl (cs 16, 40, .inl f) ∧ IXB Bn f := ⟨_, hF_72, ixb_upd hq_69 _ _ (by omega)⟩
                  refine lv_aload_n hx hb dX13_read_199 rfl (lv_at hl 4 rfl) ?_
                  refine pg_get (ci := 13) (v := .ref y1) (C := RX13) (T := TX13) (N := 5) hx hb hts it_13 hown hK hP hL_h0 hF_75 rfl 2 (by decide) (hts _ kt_827) (fun _ h9 => h9) rfl dX13_read_200 ?_
                  refine lv_aload_n hx hb dX13_read_203 rfl (lv_at hl 4 rfl) ?_
                  refine pg_get (ci := 13) (v := .int (nI zz)) (C := RX13) (T := TX13) (N := 5) hx hb hts it_13 hown hK hP hL_h0 hF_75 rfl 4 (by decide) (hts _ kt_823) (fun _ h9 => h9) rfl dX13_read_204 ?_
                  refine lv_iload hx hb dX13_read_207 (lv_at hl 1 rfl) ?_
                  obtain ⟨f_78, hF_79, hq_80⟩ := hO.idb hi_2 ht_5
                  refine pg_iast hx hb hK hP hD hS hi_2 0 hF_79 rfl (vp_in_nI (by omega) (by omega)) dX13_read_209 (fun H locs hP hD hS => ?_)
                  obtain ⟨F_81, he_82, hP, hD, hO, hR⟩ : ∃ G, G = va_up F_70 y1 (.inl (cs 16, 40, .inl (upd f_78 ((nI zz)).toNatClampNeg ((nI ee))))) ∧ va_P (dC, dI) vwCl (va_pl L G) H ∧ va_D A (va_pl L G) ∧ OKm cs ty gm L G ∧ FR ty [ρ] F G := ⟨_, rfl, hP, hD, hO.up (shm.idb ht_5 ⟨_, rfl, ixb_upd hq_80 _ _ (by omega)⟩), hR.up ht_5 (by simp)⟩
                  have hF_83 : F_81 y1 = .inl (cs 16, 40, .inl (upd f_78 ((nI zz)).toNatClampNeg ((nI ee)))) := by rw [he_82]; exact up_self
                  have hF_84 : F_81 tx = .inr (14, [.ref tbx, .int (nI zx)]) := by rw [he_82, up_ne (ne_ty hT_tx ht_5 (by simp))]; exact hF_73
                  have hF_85 : F_81 tbx = .inl (cs 17, n, .inl f_51) := by rw [he_82, up_ne (ne_ty ht_10 ht_5 (by simp))]; exact hF_74
                  have hF_86 : F_81 h0 = .inr (13, [.ref tx, .ref y0, .ref y1, .ref y2, .int (nI zz)]) := by rw [he_82, up_ne (ne_ty hT_h0 ht_5 (by simp))]; exact hF_75
                  obtain ⟨f_87, hF_83, hq_88⟩ : ∃ f : Nat → Int32, F_81 y1 = .inl (cs 16, 40, .inl f) ∧ IXB Bn f := ⟨_, hF_83, ixb_upd hq_80 _ _ (by omega)⟩
                  refine lv_aload_n hx hb dX13_read_210 rfl (lv_at hl 4 rfl) ?_
                  refine pg_get (ci := 13) (v := .ref y2) (C := RX13) (T := TX13) (N := 5) hx hb hts it_13 hown hK hP hL_h0 hF_86 rfl 3 (by decide) (hts _ kt_833) (fun _ h9 => h9) rfl dX13_read_211 ?_
                  refine lv_aload_n hx hb dX13_read_214 rfl (lv_at hl 4 rfl) ?_
                  refine pg_get (ci := 13) (v := .int (nI zz)) (C := RX13) (T := TX13) (N := 5) hx hb hts it_13 hown hK hP hL_h0 hF_86 rfl 4 (by decide) (hts _ kt_823) (fun _ h9 => h9) rfl dX13_read_215 ?_
                  refine lv_iload_n hx hb dX13_read_218 rfl (lv_at hl 2 rfl) ?_
                  obtain ⟨f_89, hF_90, hq_91⟩ := hO.idb hi_3 ht_6
                  refine pg_iast hx hb hK hP hD hS hi_3 0 hF_90 rfl (vp_in_nI (by omega) (by omega)) dX13_read_219 (fun H locs hP hD hS => ?_)
                  obtain ⟨F_92, he_93, hP, hD, hO, hR⟩ : ∃ G, G = va_up F_81 y2 (.inl (cs 16, 40, .inl (upd f_89 ((nI zz)).toNatClampNeg ((nI i))))) ∧ va_P (dC, dI) vwCl (va_pl L G) H ∧ va_D A (va_pl L G) ∧ OKm cs ty gm L G ∧ FR ty [ρ] F G := ⟨_, rfl, hP, hD, hO.up (shm.idb ht_6 ⟨_, rfl, ixb_upd hq_91 _ _ (by omega)⟩), hR.up ht_6 (by simp)⟩
                  have hF_94 : F_92 y2 = .inl (cs 16, 40, .inl (upd f_89 ((nI zz)).toNatClampNeg ((nI i)))) := by rw [he_93]; exact up_self
                  have hF_95 : F_92 tx = .inr (14, [.ref tbx, .int (nI zx)]) := by rw [he_93, up_ne (ne_ty hT_tx ht_6 (by simp))]; exact hF_84
                  have hF_96 : F_92 tbx = .inl (cs 17, n, .inl f_51) := by rw [he_93, up_ne (ne_ty ht_10 ht_6 (by simp))]; exact hF_85
                  have hF_97 : F_92 h0 = .inr (13, [.ref tx, .ref y0, .ref y1, .ref y2, .int (nI zz)]) := by rw [he_93, up_ne (ne_ty hT_h0 ht_6 (by simp))]; exact hF_86
                  obtain ⟨f_98, hF_94, hq_99⟩ : ∃ f : Nat → Int32, F_92 y2 = .inl (cs 16, 40, .inl f) ∧ IXB Bn f := ⟨_, hF_94, ixb_upd hq_91 _ _ (by omega)⟩
                  refine lv_aload_n hx hb dX13_read_220 rfl (lv_at hl 4 rfl) ?_
                  refine lv_dup hx hb dX13_read_221 rfl ?_
                  refine pg_get (ci := 13) (v := .int (nI zz)) (C := RX13) (T := TX13) (N := 5) hx hb hts it_13 hown hK hP hL_h0 hF_97 rfl 4 (by decide) (hts _ kt_823) (fun _ h9 => h9) rfl dX13_read_222 ?_
                  refine lv_iconst (v := 1) hx hb dX13_read_225 (by decide) ?_
                  refine lv_iadd hx hb dX13_read_226 ?_
                  refine lv_topi (fun x_100 ex_100 => ?_)
                  obtain rfl : x_100 = (nI (zz + 1)) := ex_100.trans (nI_add zz 1)
                  refine pg_put (ci := 13) (v := .int (nI (zz + 1))) (ty := .int) (C := RX13) (T := TX13) (N := 5) hx hb hts it_13 tyX13 tyX13_ok nmX13 hown hK hP hD hS hL_h0 hF_97 rfl 4 (by decide) (hts _ kt_823) (fun _ h9 => h9) rfl (by decide +kernel) (rfl) (rfl) (Nat.le_of_ble_eq_true rfl) dX13_read_227 (fun H locs hP hD hS => ?_)
                  obtain ⟨F_101, he_102, hP, hD, hO, hR⟩ : ∃ G, G = va_up F_92 h0 (.inr (13, [.ref tx, .ref y0, .ref y1, .ref y2, .int (nI (zz + 1))])) ∧ va_P (dC, dI) vwCl (va_pl L G) H ∧ va_D A (va_pl L G) ∧ OKm cs ty gm L G ∧ FR ty [ρ] F G := ⟨_, rfl, hP, hD, hO.up (shm.tags hT_h0 ⟨(zz + 1), rfl, (by first | omega | assumption | exact Or.inl rfl | exact Or.inr rfl)⟩), hR.up hT_h0 (by simp)⟩
                  have hF_103 : F_101 h0 = .inr (13, [.ref tx, .ref y0, .ref y1, .ref y2, .int (nI (zz + 1))]) := by rw [he_102]; exact up_self
                  have hF_104 : F_101 y2 = .inl (cs 16, 40, .inl f_98) := by rw [he_102, up_ne (ne_ty ht_6 hT_h0 (by simp))]; exact hF_94
                  have hF_105 : F_101 tx = .inr (14, [.ref tbx, .int (nI zx)]) := by rw [he_102, up_ne (ne_ty hT_tx hT_h0 (by simp))]; exact hF_95
                  have hF_106 : F_101 tbx = .inl (cs 17, n, .inl f_51) := by rw [he_102, up_ne (ne_ty ht_10 hT_h0 (by simp))]; exact hF_96
                  refine lv_iload_n hx hb dX13_read_230 rfl (lv_at hl 2 rfl) ?_
                  refine lv_iconst (v := 1) hx hb dX13_read_231 (by decide) ?_
                  refine lv_iadd hx hb dX13_read_232 ?_
                  refine lv_topi (fun x_107 ex_107 => ?_)
                  obtain rfl : x_107 = (nI (i + 1)) := ex_107.trans (nI_add i 1)
                  refine lv_istore_n (lv' := [(2, .int (nI (i + 1))), (5, .int (nI kk)), (4, .int (nI ee)), (3, .int (nI i)), (0, .ref h0), (1, .int x1)]) hx hb dX13_read_233 rfl hl (by decide) rfl (fun ls hl => ?_)
                  refine lv_goto (tgt := 7) hx hb dX13_read_234 (by decide) ?_
                  refine W.widen (k := 0) (n := 0) (by omega) (by omega) ?_
                  exact ih_22 ((i + 1), (zz + 1)) F_101 (⟨by omega, by omega, hF_103⟩) (by show zx + 1 - (i + 1) < zx + 1 - j; omega) hO hR _ _ hP hD hS ls (lv_sub hl [0, 4, 5] rfl)
                ·
                  have hi_108 : kk < zz := ltN (N := zz) c_65
                  refine lv_aload_n hx hb dX13_read_140 rfl (lv_at hl 4 rfl) ?_
                  refine pg_get (ci := 13) (v := .ref y1) (C := RX13) (T := TX13) (N := 5) hx hb hts it_13 hown hK hP hL_h0 hd2 rfl 2 (by decide) (hts _ kt_827) (fun _ h9 => h9) rfl dX13_read_141 ?_
                  refine lv_iload hx hb dX13_read_144 (lv_at hl 0 rfl) ?_
                  obtain ⟨f_109, hF_110, hq_111⟩ := hO.idb hi_2 ht_5
                  refine pg_iald hx hb hK hP hi_2 0 hF_110 rfl (vp_in_nI (by omega) (by omega)) dX13_read_146 ?_
                  obtain ⟨k_112, hk_113, ek_114⟩ := hq_111 ((nI kk) : Int32).toNatClampNeg
                  refine lv_topi (fun x_115 ex_115 => ?_)
                  obtain rfl : x_115 = nI k_112 := ex_115.trans ek_114
                  refine lv_aload_n hx hb dX13_read_147 rfl (lv_at hl 4 rfl) ?_
                  refine pg_get (ci := 13) (v := .ref y0) (C := RX13) (T := TX13) (N := 5) hx hb hts it_13 hown hK hP hL_h0 hd2 rfl 1 (by decide) (hts _ kt_826) (fun _ h9 => h9) rfl dX13_read_148 ?_
                  refine lv_iload hx hb dX13_read_151 (lv_at hl 0 rfl) ?_
                  obtain ⟨f_116, hF_117, hq_118⟩ := hO.idb hi_1 ht_4
                  refine pg_iald hx hb hK hP hi_1 0 hF_117 rfl (vp_in_nI (by omega) (by omega)) dX13_read_153 ?_
                  obtain ⟨k_119, hk_120, ek_121⟩ := hq_118 ((nI kk) : Int32).toNatClampNeg
                  refine lv_topi (fun x_122 ex_122 => ?_)
                  obtain rfl : x_122 = nI k_119 := ex_122.trans ek_121
                  refine lv_isub hx hb dX13_read_154 ?_
                  refine lv_topi (fun x_123 ex_123 => ?_)
                  obtain rfl : x_123 = ((nI k_112) - (nI k_119)) := ex_123.trans (rfl)
                  refine lv_iload hx hb dX13_read_155 (lv_at hl 1 rfl) ?_
                  refine lv_iload_n hx hb dX13_read_157 rfl (lv_at hl 3 rfl) ?_
                  refine lv_isub hx hb dX13_read_158 ?_
                  refine lv_topi (fun x_124 ex_124 => ?_)
                  obtain rfl : x_124 = (nI (ee - j)) := ex_124.trans (pk_sub (a := ee) (b := j) (by omega))
                  refine lv_icmp_ne (tgt := 183) hx hb dX13_read_159 (by decide) (fun c_125 => ?_) (fun c_125 => ?_)
                  ·
                    refine lv_iinc (v := (nI (kk + 1))) (lv' := [(5, .int (nI (kk + 1))), (4, .int (nI ee)), (3, .int (nI i)), (2, .int (nI j)), (0, .ref h0), (1, .int x1)]) hx hb dX13_read_183 hl (k := 0) rfl (nI_1 _) (by decide) rfl (fun ls hl => ?_)
                    refine lv_goto (tgt := 131) hx hb dX13_read_186 (by decide) ?_
                    refine W.widen (k := 0) (n := 0) (by omega) (by omega) ?_
                    exact ih_62 (kk + 1) F_58 (⟨by omega, hd2⟩) (by show 40 - (kk + 1) < 40 - kk; omega) hO hR _ _ hP hD hS ls (lv_sub hl [0, 1, 2, 3, 4, 5] rfl)
                  ·
                    have hsm := sub_eqN c_125 (by omega) (by omega) (by omega)
                    refine lv_aload_n hx hb dX13_read_162 rfl (lv_at hl 4 rfl) ?_
                    refine lv_aload_n hx hb dX13_read_163 rfl (lv_at hl 4 rfl) ?_
                    refine pg_get (ci := 13) (v := .ref y0) (C := RX13) (T := TX13) (N := 5) hx hb hts it_13 hown hK hP hL_h0 hd2 rfl 1 (by decide) (hts _ kt_826) (fun _ h9 => h9) rfl dX13_read_164 ?_
                    refine lv_iload hx hb dX13_read_167 (lv_at hl 0 rfl) ?_
                    refine pg_iald hx hb hK hP hi_1 0 hF_117 rfl (vp_in_nI (by omega) (by omega)) dX13_read_169 ?_
                    refine lv_topi (fun x_126 ex_126 => ?_)
                    obtain rfl : x_126 = nI k_119 := ex_126.trans ek_121
                    refine lv_iload_n hx hb dX13_read_170 rfl (lv_at hl 3 rfl) ?_
                    refine lv_iload hx hb dX13_read_171 (lv_at hl 1 rfl) ?_
                    refine lv_iload_n hx hb dX13_read_173 rfl (lv_at hl 3 rfl) ?_
                    refine lv_isub hx hb dX13_read_174 ?_
                    refine lv_topi (fun x_127 ex_127 => ?_)
                    obtain rfl : x_127 = (nI (ee - j)) := ex_127.trans (pk_sub (a := ee) (b := j) (by omega))
                    have hFc := pg_free hD hS hA
                    refine va_calli (va_runV (As := [.int (nI k_119), .int (nI j), .int (nI (ee - j))]) (rest := []) ⟨hx, hb, hml, hown, hts⟩ (s_X13_isSame l dC dI cs ty gm L H.size F_58 h0 ρ tx n Bn y0 y1 y2 tbx k_119 j (ee - j) hW hL_h0 hT_h0 hL_tx hT_tx (by first | omega | assumption) (by first | omega | assumption)) ⟨callB_of 3 hts (gi kt_835) rfl rfl rfl (hts _ kt_829) (hts _ kt_836) (by decide +kernel) ⟨Nat.le_of_ble_eq_true rfl, Nat.le_of_ble_eq_true rfl⟩, (hts _ kt_837), (hts _ kt_838)⟩ ⟨fun a U g mk q => ⟨q.1, PTm.calling q.2⟩, pg_recv hK hP hL_h0 hd2 (q := (RX13, TX13, 5)) rfl, fun U hU hWm => ⟨rfl, PTm.mk hU hWm hP hK hD hE hO⟩⟩ rfl rfl hl.1 rfl (lv_room (Nat.le_of_ble_eq_true rfl)) dX13_read_175 ⟨by show _ + 0 ≤ 0; omega, by show _ + 0 ≤ 0; omega⟩) hS (fun q _ h => hFc q h) hFc (fun r_128 u t H1 locs ht hvm hw hB hz1 hk1 hS => ?_)
                    obtain ⟨F_129, hB1⟩ := hB
                    obtain rfl : F_58 = F_129 := (funext (fun a => hB1.2.2.2 a List.not_mem_nil)).symm
                    obtain ⟨hP, hD, hO, hR⟩ := QTm.back hB1 ht hFc hR (fun q h => absurd h List.not_mem_nil)
                    generalize H1 = H at hP hS ⊢
                    have hw : (r_128 = 0 ∨ r_128 = 1) := hw
                    have hw_130 := hw
                    refine lv_if_eq (tgt := 183) hx hb dX13_read_178 (by decide) (fun c_131 => ?_) (fun c_131 => ?_)
                    ·
                      refine lv_iinc (v := (nI (kk + 1))) (lv' := [(5, .int (nI (kk + 1))), (4, .int (nI ee)), (3, .int (nI i)), (2, .int (nI j)), (0, .ref h0), (1, .int x1)]) hx hb dX13_read_183 hl (k := 0) rfl (nI_1 _) (by decide) rfl (fun ls hl => ?_)
                      refine lv_goto (tgt := 131) hx hb dX13_read_186 (by decide) ?_
                      refine W.widen (k := 0) (n := 0) (by omega) (by omega) ?_
                      exact ih_62 (kk + 1) F_58 (⟨by omega, hd2⟩) (by show 40 - (kk + 1) < 40 - kk; omega) hO hR _ _ hP hD hS ls (lv_sub hl [0, 1, 2, 3, 4, 5] rfl)
                    ·
                      refine lv_iconst (v := 0) hx hb dX13_read_181 (by decide) ?_
                      refine W.widen (k := 0) (n := 0) (by omega) (by omega) ?_
                      exact W.zret (v := 0) (ty := .boolean) hx hb hr (by decide) (fun t ht hWm => ⟨⟨0, (), rfl, (by first | exact Or.inl rfl | exact Or.inr rfl), ⟨F_58, zz, QTm.mk ht hP hD hO hR, hd2, by omega⟩⟩, hS.F ht⟩) hS.2.2 dX13_read_182
              ·
                have hi_132 : zz = 40 := (nI_eq (a := zz) (b := 40) (by omega) (by omega)).mp c_56
                refine lv_iconst (v := 0) hx hb dX13_read_126 (by decide) ?_
                refine W.widen (k := 0) (n := 0) (by omega) (by omega) ?_
                exact W.zret (v := 0) (ty := .boolean) hx hb hr (by decide) (fun t ht hWm => ⟨⟨0, (), rfl, (by first | exact Or.inl rfl | exact Or.inr rfl), ⟨F_34, zz, QTm.mk ht hP hD hO hR, hc3, by omega⟩⟩, hS.F ht⟩) hS.2.2 dX13_read_127
      ·
        have hi_133 : ee < i := ltN (N := i) c_39
        refine lv_aload_n hx hb dX13_read_60 rfl (lv_at hl 3 rfl) ?_
        refine pg_get (ci := 13) (v := .ref tx) (C := RX13) (T := TX13) (N := 5) hx hb hts it_13 hown hK hP hL_h0 hc3 rfl 0 (by decide) (hts _ kt_824) (fun _ h9 => h9) rfl dX13_read_61 ?_
        refine pg_get (ci := 14) (v := .ref tbx) (C := RX14) (T := TX14) (N := 2) hx hb hts it_14 hown hK hP hL_tx hF_38 rfl 0 (by decide) (hts _ kt_825) (fun _ h9 => h9) rfl dX13_read_64 ?_
        refine lv_iload hx hb dX13_read_67 (lv_at hl 0 rfl) ?_
        obtain ⟨hq_134, hq_135⟩ := hW.octs hi_9 ht_10
        obtain ⟨f_136, hF_137, hq_138⟩ := hO.octs hi_9 ht_10
        refine pg_bald hx hb hK hP hi_9 1 hF_137 rfl (vp_in_nI (by omega) (by omega)) dX13_read_69 ?_
        refine lv_topi (fun x_139 ex_139 => ?_)
        obtain rfl : x_139 = f_136 ee := ex_139.trans (congrArg f_136 (show ((nI ee) : Int32).toNatClampNeg = ee from nI_clamp (by omega)))
        have hFc := pg_free hD hS hA
        refine va_calli (va_runSN (As := [.int (f_136 ee)]) (rest := []) ⟨hx, hb, hml, hown, hts⟩ (s_X15_isSmall l dC dI cs ty gm L H.size F_34 (f_136 ee) hW ) ⟨va_cnB 1 hts (gi kt_668) rfl rfl rfl (hE.nestw kn_43) (hts _ kt_669) (by decide +kernel) ⟨Nat.le_of_ble_eq_true rfl, Nat.le_of_ble_eq_true rfl⟩, (hts _ kt_671), trivial⟩ ⟨fun a U g mk q => ⟨q.1, PTm.calling q.2⟩, fun U hU hWm => ⟨rfl, PTm.mk hU hWm hP hK hD hE hO⟩⟩ rfl rfl hl.1 rfl (lv_room (Nat.le_of_ble_eq_true rfl)) dX13_read_70 ⟨by show _ + 0 ≤ 0; omega, by show _ + 0 ≤ 0; omega⟩) hS (fun q _ h => hFc q h) hFc (fun r_140 u t H1 locs ht hvm hw hB hz1 hk1 hS => ?_)
        obtain ⟨F_141, hB1⟩ := hB
        obtain rfl : F_34 = F_141 := (funext (fun a => hB1.2.2.2 a List.not_mem_nil)).symm
        obtain ⟨hP, hD, hO, hR⟩ := QTm.back hB1 ht hFc hR (fun q h => absurd h List.not_mem_nil)
        generalize H1 = H at hP hS ⊢
        have hw : (r_140 = 0 ∨ r_140 = 1) := hw
        have hw_142 := hw
        refine lv_if_eq (tgt := 82) hx hb dX13_read_73 (by decide) (fun c_143 => ?_) (fun c_143 => ?_)
        ·
          refine lv_iload hx hb dX13_read_82 (lv_at hl 0 rfl) ?_
          refine lv_iload_n hx hb dX13_read_84 rfl (lv_at hl 2 rfl) ?_
          refine lv_isub hx hb dX13_read_85 ?_
          refine lv_topi (fun x_144 ex_144 => ?_)
          obtain rfl : x_144 = (nI (ee - j)) := ex_144.trans (pk_sub (a := ee) (b := j) (by omega))
          refine lv_i2l (v := (nI (ee - j)).toInt64) hx hb dX13_read_86 rfl ?_
          refine lv_lconst (v := 1) hx hb dX13_read_87 (by decide) ?_
          refine lv_iload_n hx hb dX13_read_88 rfl (lv_at hl 4 rfl) ?_
          refine lv_i2l (v := x1.toInt64) hx hb dX13_read_89 rfl ?_
          have hFc := pg_free hD hS hA
          refine va_calli (va_runSN (As := [.long ((nI (ee - j)).toInt64), .long 1, .long x1.toInt64]) (rest := []) ⟨hx, hb, hml, hown, hts⟩ (s_X15_in l dC dI cs ty gm L H.size F_34 ((nI (ee - j)).toInt64) 1 x1.toInt64 hW ) ⟨va_cnB 3 hts (gi kt_685) rfl rfl rfl (hE.nestw kn_42) (hts _ kt_669) (by decide +kernel) ⟨Nat.le_of_ble_eq_true rfl, Nat.le_of_ble_eq_true rfl⟩, (hts _ kt_686), trivial⟩ ⟨fun a U g mk q => ⟨q.1, PTm.calling q.2⟩, fun U hU hWm => ⟨rfl, PTm.mk hU hWm hP hK hD hE hO⟩⟩ rfl rfl hl.1 rfl (lv_room (Nat.le_of_ble_eq_true rfl)) dX13_read_90 ⟨by show _ + 0 ≤ 0; omega, by show _ + 0 ≤ 0; omega⟩) hS (fun q _ h => hFc q h) hFc (fun r_145 u t H1 locs ht hvm hw hB hz1 hk1 hS => ?_)
          obtain ⟨F_146, hB1⟩ := hB
          obtain rfl : F_34 = F_146 := (funext (fun a => hB1.2.2.2 a List.not_mem_nil)).symm
          obtain ⟨hP, hD, hO, hR⟩ := QTm.back hB1 ht hFc hR (fun q h => absurd h List.not_mem_nil)
          generalize H1 = H at hP hS ⊢
          have hw : r_145 = (if 1 ≤ (nI (ee - j)).toInt64 ∧ (nI (ee - j)).toInt64 ≤ x1.toInt64 then 1 else 0) := hw
          have hw_147 := hw
          refine lv_if_eq (tgt := 126) hx hb dX13_read_93 (by decide) (fun c_148 => ?_) (fun c_148 => ?_)
          ·
            refine lv_iconst (v := 0) hx hb dX13_read_126 (by decide) ?_
            refine W.widen (k := 0) (n := 0) (by omega) (by omega) ?_
            exact W.zret (v := 0) (ty := .boolean) hx hb hr (by decide) (fun t ht hWm => ⟨⟨0, (), rfl, (by first | exact Or.inl rfl | exact Or.inr rfl), ⟨F_34, zz, QTm.mk ht hP hD hO hR, hc3, by omega⟩⟩, hS.F ht⟩) hS.2.2 dX13_read_127
          ·
            refine lv_iload hx hb dX13_read_96 (lv_at hl 0 rfl) ?_
            refine lv_iload_n hx hb dX13_read_98 rfl (lv_at hl 1 rfl) ?_
            refine lv_icmp_eq (tgt := 126) hx hb dX13_read_99 (by decide) (fun c_149 => ?_) (fun c_149 => ?_)
            ·
              have hi_150 : ee = i := (nI_eq (a := ee) (b := i) (by omega) (by omega)).mp c_149
              refine lv_iconst (v := 0) hx hb dX13_read_126 (by decide) ?_
              refine W.widen (k := 0) (n := 0) (by omega) (by omega) ?_
              exact W.zret (v := 0) (ty := .boolean) hx hb hr (by decide) (fun t ht hWm => ⟨⟨0, (), rfl, (by first | exact Or.inl rfl | exact Or.inr rfl), ⟨F_34, zz, QTm.mk ht hP hD hO hR, hc3, by omega⟩⟩, hS.F ht⟩) hS.2.2 dX13_read_127
            ·
              have hi_151 : ee ≠ i := fun q => c_149 (by rw [q])
              refine lv_aload_n hx hb dX13_read_102 rfl (lv_at hl 3 rfl) ?_
              refine pg_get (ci := 13) (v := .ref tx) (C := RX13) (T := TX13) (N := 5) hx hb hts it_13 hown hK hP hL_h0 hc3 rfl 0 (by decide) (hts _ kt_824) (fun _ h9 => h9) rfl dX13_read_103 ?_
              refine pg_get (ci := 14) (v := .ref tbx) (C := RX14) (T := TX14) (N := 2) hx hb hts it_14 hown hK hP hL_tx hF_38 rfl 0 (by decide) (hts _ kt_825) (fun _ h9 => h9) rfl dX13_read_106 ?_
              refine lv_iload hx hb dX13_read_109 (lv_at hl 0 rfl) ?_
              refine pg_bald hx hb hK hP hi_9 1 hF_137 rfl (vp_in_nI (by omega) (by omega)) dX13_read_111 ?_
              refine lv_topi (fun x_152 ex_152 => ?_)
              obtain rfl : x_152 = f_136 ee := ex_152.trans (congrArg f_136 (show ((nI ee) : Int32).toNatClampNeg = ee from nI_clamp (by omega)))
              refine lv_bipush (v := 61) hx hb dX13_read_112 (by decide) ?_
              refine lv_icmp_ne (tgt := 126) hx hb dX13_read_114 (by decide) (fun c_153 => ?_) (fun c_153 => ?_)
              ·
                refine lv_iconst (v := 0) hx hb dX13_read_126 (by decide) ?_
                refine W.widen (k := 0) (n := 0) (by omega) (by omega) ?_
                exact W.zret (v := 0) (ty := .boolean) hx hb hr (by decide) (fun t ht hWm => ⟨⟨0, (), rfl, (by first | exact Or.inl rfl | exact Or.inr rfl), ⟨F_34, zz, QTm.mk ht hP hD hO hR, hc3, by omega⟩⟩, hS.F ht⟩) hS.2.2 dX13_read_127
              ·
                refine lv_aload_n hx hb dX13_read_117 rfl (lv_at hl 3 rfl) ?_
                refine pg_get (ci := 13) (v := .int (nI zz)) (C := RX13) (T := TX13) (N := 5) hx hb hts it_13 hown hK hP hL_h0 hc3 rfl 4 (by decide) (hts _ kt_823) (fun _ h9 => h9) rfl dX13_read_118 ?_
                refine lv_bipush (v := 40) hx hb dX13_read_121 (by decide) ?_
                refine lv_icmp_ne (tgt := 128) hx hb dX13_read_123 (by decide) (fun c_154 => ?_) (fun c_154 => ?_)
                ·
                  have hi_155 : zz ≠ 40 := fun q => c_154 (by rw [q]; rfl)
                  refine lv_iconst (v := 0) hx hb dX13_read_128 (by decide) ?_
                  refine lv_istore (lv' := [(5, .int 0), (4, .int (nI ee)), (3, .int (nI i)), (2, .int (nI j)), (0, .ref h0), (1, .int x1)]) hx hb dX13_read_129 hl (by decide) rfl (fun ls hl => ?_)
                  refine W.widen (k := 0) (n := 0) (by omega) (by omega) ?_
                  have hF_157 : F tx = .inr (14, [.ref tbx, .int (nI zx)]) := (hR tx (by rw [hT_tx]; simp)).symm.trans hF_38
                  have hF_158 : F tbx = .inl (cs 17, n, .inl f_136) := (hR tbx (by rw [ht_10]; simp)).symm.trans hF_137
                  refine pl_loopm (σ := Nat) A (dC, dI) cs ty gm L [ρ] F 131 6 (fun kk => [(5, .int (nI kk)), (4, .int (nI ee)), (3, .int (nI i)), (2, .int (nI j)), (0, .ref h0), (1, .int x1)]) (fun kk => []) (fun kk FF => kk ≤ 40 ∧ FF h0 = .inr (13, [.ref tx, .ref y0, .ref y1, .ref y2, .int (nI zz)])) (fun kk => 40 - kk) ?_ 0 F_34 (⟨by omega, hc3⟩) hO hR _ _ hP hD hS ls (lv_sub hl [0, 1, 2, 3, 4, 5] rfl)
                  rintro kk F_156 hv_159 hO hR ih_160 H locs hP hD hS ls hl
                  have hl : lv_has ls 6 [(5, .int (nI kk)), (4, .int (nI ee)), (3, .int (nI i)), (2, .int (nI j)), (0, .ref h0), (1, .int x1)] := hl
                  have hv_159 : kk ≤ 40 ∧ F_156 h0 = .inr (13, [.ref tx, .ref y0, .ref y1, .ref y2, .int (nI zz)]) := hv_159
                  refine W.eq (g2 := F0 m 131 ls []) rfl ?_
                  have hF_161 : F_156 tx = .inr (14, [.ref tbx, .int (nI zx)]) := (hR tx (by rw [hT_tx]; simp)).trans hF_157
                  have hF_162 : F_156 tbx = .inl (cs 17, n, .inl f_136) := (hR tbx (by rw [ht_10]; simp)).trans hF_158
                  obtain ⟨hd1, hd2⟩ := hv_159
                  refine lv_iload hx hb dX13_read_131 (lv_at hl 0 rfl) ?_
                  refine lv_aload_n hx hb dX13_read_133 rfl (lv_at hl 4 rfl) ?_
                  refine pg_get (ci := 13) (v := .int (nI zz)) (C := RX13) (T := TX13) (N := 5) hx hb hts it_13 hown hK hP hL_h0 hd2 rfl 4 (by decide) (hts _ kt_823) (fun _ h9 => h9) rfl dX13_read_134 ?_
                  refine lv_icmp_ge (tgt := 189) hx hb dX13_read_137 (by decide) (fun c_163 => ?_) (fun c_163 => ?_)
                  ·
                    have hi_164 : zz ≤ kk := leN (N := zz) c_163
                    refine lv_aload_n hx hb dX13_read_189 rfl (lv_at hl 4 rfl) ?_
                    refine pg_get (ci := 13) (v := .ref y0) (C := RX13) (T := TX13) (N := 5) hx hb hts it_13 hown hK hP hL_h0 hd2 rfl 1 (by decide) (hts _ kt_826) (fun _ h9 => h9) rfl dX13_read_190 ?_
                    refine lv_aload_n hx hb dX13_read_193 rfl (lv_at hl 4 rfl) ?_
                    refine pg_get (ci := 13) (v := .int (nI zz)) (C := RX13) (T := TX13) (N := 5) hx hb hts it_13 hown hK hP hL_h0 hd2 rfl 4 (by decide) (hts _ kt_823) (fun _ h9 => h9) rfl dX13_read_194 ?_
                    refine lv_iload_n hx hb dX13_read_197 rfl (lv_at hl 3 rfl) ?_
                    obtain ⟨f_165, hF_166, hq_167⟩ := hO.idb hi_1 ht_4
                    refine pg_iast hx hb hK hP hD hS hi_1 0 hF_166 rfl (vp_in_nI (by omega) (by omega)) dX13_read_198 (fun H locs hP hD hS => ?_)
                    obtain ⟨F_168, he_169, hP, hD, hO, hR⟩ : ∃ G, G = va_up F_156 y0 (.inl (cs 16, 40, .inl (upd f_165 ((nI zz)).toNatClampNeg ((nI j))))) ∧ va_P (dC, dI) vwCl (va_pl L G) H ∧ va_D A (va_pl L G) ∧ OKm cs ty gm L G ∧ FR ty [ρ] F G := ⟨_, rfl, hP, hD, hO.up (shm.idb ht_4 ⟨_, rfl, ixb_upd hq_167 _ _ (by omega)⟩), hR.up ht_4 (by simp)⟩
                    have hF_170 : F_168 y0 = .inl (cs 16, 40, .inl (upd f_165 ((nI zz)).toNatClampNeg ((nI j)))) := by rw [he_169]; exact up_self
                    have hF_171 : F_168 tx = .inr (14, [.ref tbx, .int (nI zx)]) := by rw [he_169, up_ne (ne_ty hT_tx ht_4 (by simp))]; exact hF_161
                    have hF_172 : F_168 tbx = .inl (cs 17, n, .inl f_136) := by rw [he_169, up_ne (ne_ty ht_10 ht_4 (by simp))]; exact hF_162
                    have hF_173 : F_168 h0 = .inr (13, [.ref tx, .ref y0, .ref y1, .ref y2, .int (nI zz)]) := by rw [he_169, up_ne (ne_ty hT_h0 ht_4 (by simp))]; exact hd2
                    obtain ⟨f_174, hF_170, hq_175⟩ : ∃ f : Nat → Int32, F_168 y0 = .inl (cs 16, 40, .inl f) ∧ IXB Bn f := ⟨_, hF_170, ixb_upd hq_167 _ _ (by omega)⟩
                    refine lv_aload_n hx hb dX13_read_199 rfl (lv_at hl 4 rfl) ?_
                    refine pg_get (ci := 13) (v := .ref y1) (C := RX13) (T := TX13) (N := 5) hx hb hts it_13 hown hK hP hL_h0 hF_173 rfl 2 (by decide) (hts _ kt_827) (fun _ h9 => h9) rfl dX13_read_200 ?_
                    refine lv_aload_n hx hb dX13_read_203 rfl (lv_at hl 4 rfl) ?_
                    refine pg_get (ci := 13) (v := .int (nI zz)) (C := RX13) (T := TX13) (N := 5) hx hb hts it_13 hown hK hP hL_h0 hF_173 rfl 4 (by decide) (hts _ kt_823) (fun _ h9 => h9) rfl dX13_read_204 ?_
                    refine lv_iload hx hb dX13_read_207 (lv_at hl 1 rfl) ?_
                    obtain ⟨f_176, hF_177, hq_178⟩ := hO.idb hi_2 ht_5
                    refine pg_iast hx hb hK hP hD hS hi_2 0 hF_177 rfl (vp_in_nI (by omega) (by omega)) dX13_read_209 (fun H locs hP hD hS => ?_)
                    obtain ⟨F_179, he_180, hP, hD, hO, hR⟩ : ∃ G, G = va_up F_168 y1 (.inl (cs 16, 40, .inl (upd f_176 ((nI zz)).toNatClampNeg ((nI ee))))) ∧ va_P (dC, dI) vwCl (va_pl L G) H ∧ va_D A (va_pl L G) ∧ OKm cs ty gm L G ∧ FR ty [ρ] F G := ⟨_, rfl, hP, hD, hO.up (shm.idb ht_5 ⟨_, rfl, ixb_upd hq_178 _ _ (by omega)⟩), hR.up ht_5 (by simp)⟩
                    have hF_181 : F_179 y1 = .inl (cs 16, 40, .inl (upd f_176 ((nI zz)).toNatClampNeg ((nI ee)))) := by rw [he_180]; exact up_self
                    have hF_182 : F_179 tx = .inr (14, [.ref tbx, .int (nI zx)]) := by rw [he_180, up_ne (ne_ty hT_tx ht_5 (by simp))]; exact hF_171
                    have hF_183 : F_179 tbx = .inl (cs 17, n, .inl f_136) := by rw [he_180, up_ne (ne_ty ht_10 ht_5 (by simp))]; exact hF_172
                    have hF_184 : F_179 h0 = .inr (13, [.ref tx, .ref y0, .ref y1, .ref y2, .int (nI zz)]) := by rw [he_180, up_ne (ne_ty hT_h0 ht_5 (by simp))]; exact hF_173
                    obtain ⟨f_185, hF_181, hq_186⟩ : ∃ f : Nat → Int32, F_179 y1 = .inl (cs 16, 40, .inl f) ∧ IXB Bn f := ⟨_, hF_181, ixb_upd hq_178 _ _ (by omega)⟩
                    refine lv_aload_n hx hb dX13_read_210 rfl (lv_at hl 4 rfl) ?_
                    refine pg_get (ci := 13) (v := .ref y2) (C := RX13) (T := TX13) (N := 5) hx hb hts it_13 hown hK hP hL_h0 hF_184 rfl 3 (by decide) (hts _ kt_833) (fun _ h9 => h9) rfl dX13_read_211 ?_
                    refine lv_aload_n hx hb dX13_read_214 rfl (lv_at hl 4 rfl) ?_
                    refine pg_get (ci := 13) (v := .int (nI zz)) (C := RX13) (T := TX13) (N := 5) hx hb hts it_13 hown hK hP hL_h0 hF_184 rfl 4 (by decide) (hts _ kt_823) (fun _ h9 => h9) rfl dX13_read_215 ?_
                    refine lv_iload_n hx hb dX13_read_218 rfl (lv_at hl 2 rfl) ?_
                    obtain ⟨f_187, hF_188, hq_189⟩ := hO.idb hi_3 ht_6
                    refine pg_iast hx hb hK hP hD hS hi_3 0 hF_188 rfl (vp_in_nI (by omega) (by omega)) dX13_read_219 (fun H locs hP hD hS => ?_)
                    obtain ⟨F_190, he_191, hP, hD, hO, hR⟩ : ∃ G, G = va_up F_179 y2 (.inl (cs 16, 40, .inl (upd f_187 ((nI zz)).toNatClampNeg ((nI i))))) ∧ va_P (dC, dI) vwCl (va_pl L G) H ∧ va_D A (va_pl L G) ∧ OKm cs ty gm L G ∧ FR ty [ρ] F G := ⟨_, rfl, hP, hD, hO.up (shm.idb ht_6 ⟨_, rfl, ixb_upd hq_189 _ _ (by omega)⟩), hR.up ht_6 (by simp)⟩
                    have hF_192 : F_190 y2 = .inl (cs 16, 40, .inl (upd f_187 ((nI zz)).toNatClampNeg ((nI i)))) := by rw [he_191]; exact up_self
                    have hF_193 : F_190 tx = .inr (14, [.ref tbx, .int (nI zx)]) := by rw [he_191, up_ne (ne_ty hT_tx ht_6 (by simp))]; exact hF_182
                    have hF_194 : F_190 tbx = .inl (cs 17, n, .inl f_136) := by rw [he_191, up_ne (ne_ty ht_10 ht_6 (by simp))]; exact hF_183
                    have hF_195 : F_190 h0 = .inr (13, [.ref tx, .ref y0, .ref y1, .ref y2, .int (nI zz)]) := by rw [he_191, up_ne (ne_ty hT_h0 ht_6 (by simp))]; exact hF_184
                    obtain ⟨f_196, hF_192, hq_197⟩ : ∃ f : Nat → Int32, F_190 y2 = .inl (cs 16, 40, .inl f) ∧ IXB Bn f := ⟨_, hF_192, ixb_upd hq_189 _ _ (by omega)⟩
                    refine lv_aload_n hx hb dX13_read_220 rfl (lv_at hl 4 rfl) ?_
                    refine lv_dup hx hb dX13_read_221 rfl ?_
                    refine pg_get (ci := 13) (v := .int (nI zz)) (C := RX13) (T := TX13) (N := 5) hx hb hts it_13 hown hK hP hL_h0 hF_195 rfl 4 (by decide) (hts _ kt_823) (fun _ h9 => h9) rfl dX13_read_222 ?_
                    refine lv_iconst (v := 1) hx hb dX13_read_225 (by decide) ?_
                    refine lv_iadd hx hb dX13_read_226 ?_
                    refine lv_topi (fun x_198 ex_198 => ?_)
                    obtain rfl : x_198 = (nI (zz + 1)) := ex_198.trans (nI_add zz 1)
                    refine pg_put (ci := 13) (v := .int (nI (zz + 1))) (ty := .int) (C := RX13) (T := TX13) (N := 5) hx hb hts it_13 tyX13 tyX13_ok nmX13 hown hK hP hD hS hL_h0 hF_195 rfl 4 (by decide) (hts _ kt_823) (fun _ h9 => h9) rfl (by decide +kernel) (rfl) (rfl) (Nat.le_of_ble_eq_true rfl) dX13_read_227 (fun H locs hP hD hS => ?_)
                    obtain ⟨F_199, he_200, hP, hD, hO, hR⟩ : ∃ G, G = va_up F_190 h0 (.inr (13, [.ref tx, .ref y0, .ref y1, .ref y2, .int (nI (zz + 1))])) ∧ va_P (dC, dI) vwCl (va_pl L G) H ∧ va_D A (va_pl L G) ∧ OKm cs ty gm L G ∧ FR ty [ρ] F G := ⟨_, rfl, hP, hD, hO.up (shm.tags hT_h0 ⟨(zz + 1), rfl, (by first | omega | assumption | exact Or.inl rfl | exact Or.inr rfl)⟩), hR.up hT_h0 (by simp)⟩
                    have hF_201 : F_199 h0 = .inr (13, [.ref tx, .ref y0, .ref y1, .ref y2, .int (nI (zz + 1))]) := by rw [he_200]; exact up_self
                    have hF_202 : F_199 y2 = .inl (cs 16, 40, .inl f_196) := by rw [he_200, up_ne (ne_ty ht_6 hT_h0 (by simp))]; exact hF_192
                    have hF_203 : F_199 tx = .inr (14, [.ref tbx, .int (nI zx)]) := by rw [he_200, up_ne (ne_ty hT_tx hT_h0 (by simp))]; exact hF_193
                    have hF_204 : F_199 tbx = .inl (cs 17, n, .inl f_136) := by rw [he_200, up_ne (ne_ty ht_10 hT_h0 (by simp))]; exact hF_194
                    refine lv_iload_n hx hb dX13_read_230 rfl (lv_at hl 2 rfl) ?_
                    refine lv_iconst (v := 1) hx hb dX13_read_231 (by decide) ?_
                    refine lv_iadd hx hb dX13_read_232 ?_
                    refine lv_topi (fun x_205 ex_205 => ?_)
                    obtain rfl : x_205 = (nI (i + 1)) := ex_205.trans (nI_add i 1)
                    refine lv_istore_n (lv' := [(2, .int (nI (i + 1))), (5, .int (nI kk)), (4, .int (nI ee)), (3, .int (nI i)), (0, .ref h0), (1, .int x1)]) hx hb dX13_read_233 rfl hl (by decide) rfl (fun ls hl => ?_)
                    refine lv_goto (tgt := 7) hx hb dX13_read_234 (by decide) ?_
                    refine W.widen (k := 0) (n := 0) (by omega) (by omega) ?_
                    exact ih_22 ((i + 1), (zz + 1)) F_199 (⟨by omega, by omega, hF_201⟩) (by show zx + 1 - (i + 1) < zx + 1 - j; omega) hO hR _ _ hP hD hS ls (lv_sub hl [0, 4, 5] rfl)
                  ·
                    have hi_206 : kk < zz := ltN (N := zz) c_163
                    refine lv_aload_n hx hb dX13_read_140 rfl (lv_at hl 4 rfl) ?_
                    refine pg_get (ci := 13) (v := .ref y1) (C := RX13) (T := TX13) (N := 5) hx hb hts it_13 hown hK hP hL_h0 hd2 rfl 2 (by decide) (hts _ kt_827) (fun _ h9 => h9) rfl dX13_read_141 ?_
                    refine lv_iload hx hb dX13_read_144 (lv_at hl 0 rfl) ?_
                    obtain ⟨f_207, hF_208, hq_209⟩ := hO.idb hi_2 ht_5
                    refine pg_iald hx hb hK hP hi_2 0 hF_208 rfl (vp_in_nI (by omega) (by omega)) dX13_read_146 ?_
                    obtain ⟨k_210, hk_211, ek_212⟩ := hq_209 ((nI kk) : Int32).toNatClampNeg
                    refine lv_topi (fun x_213 ex_213 => ?_)
                    obtain rfl : x_213 = nI k_210 := ex_213.trans ek_212
                    refine lv_aload_n hx hb dX13_read_147 rfl (lv_at hl 4 rfl) ?_
                    refine pg_get (ci := 13) (v := .ref y0) (C := RX13) (T := TX13) (N := 5) hx hb hts it_13 hown hK hP hL_h0 hd2 rfl 1 (by decide) (hts _ kt_826) (fun _ h9 => h9) rfl dX13_read_148 ?_
                    refine lv_iload hx hb dX13_read_151 (lv_at hl 0 rfl) ?_
                    obtain ⟨f_214, hF_215, hq_216⟩ := hO.idb hi_1 ht_4
                    refine pg_iald hx hb hK hP hi_1 0 hF_215 rfl (vp_in_nI (by omega) (by omega)) dX13_read_153 ?_
                    obtain ⟨k_217, hk_218, ek_219⟩ := hq_216 ((nI kk) : Int32).toNatClampNeg
                    refine lv_topi (fun x_220 ex_220 => ?_)
                    obtain rfl : x_220 = nI k_217 := ex_220.trans ek_219
                    refine lv_isub hx hb dX13_read_154 ?_
                    refine lv_topi (fun x_221 ex_221 => ?_)
                    obtain rfl : x_221 = ((nI k_210) - (nI k_217)) := ex_221.trans (rfl)
                    refine lv_iload hx hb dX13_read_155 (lv_at hl 1 rfl) ?_
                    refine lv_iload_n hx hb dX13_read_157 rfl (lv_at hl 3 rfl) ?_
                    refine lv_isub hx hb dX13_read_158 ?_
                    refine lv_topi (fun x_222 ex_222 => ?_)
                    obtain rfl : x_222 = (nI (ee - j)) := ex_222.trans (pk_sub (a := ee) (b := j) (by omega))
                    refine lv_icmp_ne (tgt := 183) hx hb dX13_read_159 (by decide) (fun c_223 => ?_) (fun c_223 => ?_)
                    ·
                      refine lv_iinc (v := (nI (kk + 1))) (lv' := [(5, .int (nI (kk + 1))), (4, .int (nI ee)), (3, .int (nI i)), (2, .int (nI j)), (0, .ref h0), (1, .int x1)]) hx hb dX13_read_183 hl (k := 0) rfl (nI_1 _) (by decide) rfl (fun ls hl => ?_)
                      refine lv_goto (tgt := 131) hx hb dX13_read_186 (by decide) ?_
                      refine W.widen (k := 0) (n := 0) (by omega) (by omega) ?_
                      exact ih_160 (kk + 1) F_156 (⟨by omega, hd2⟩) (by show 40 - (kk + 1) < 40 - kk; omega) hO hR _ _ hP hD hS ls (lv_sub hl [0, 1, 2, 3, 4, 5] rfl)
                    ·
                      have hsm := sub_eqN c_223 (by omega) (by omega) (by omega)
                      refine lv_aload_n hx hb dX13_read_162 rfl (lv_at hl 4 rfl) ?_
                      refine lv_aload_n hx hb dX13_read_163 rfl (lv_at hl 4 rfl) ?_
                      refine pg_get (ci := 13) (v := .ref y0) (C := RX13) (T := TX13) (N := 5) hx hb hts it_13 hown hK hP hL_h0 hd2 rfl 1 (by decide) (hts _ kt_826) (fun _ h9 => h9) rfl dX13_read_164 ?_
                      refine lv_iload hx hb dX13_read_167 (lv_at hl 0 rfl) ?_
                      refine pg_iald hx hb hK hP hi_1 0 hF_215 rfl (vp_in_nI (by omega) (by omega)) dX13_read_169 ?_
                      refine lv_topi (fun x_224 ex_224 => ?_)
                      obtain rfl : x_224 = nI k_217 := ex_224.trans ek_219
                      refine lv_iload_n hx hb dX13_read_170 rfl (lv_at hl 3 rfl) ?_
                      refine lv_iload hx hb dX13_read_171 (lv_at hl 1 rfl) ?_
                      refine lv_iload_n hx hb dX13_read_173 rfl (lv_at hl 3 rfl) ?_
                      refine lv_isub hx hb dX13_read_174 ?_
                      refine lv_topi (fun x_225 ex_225 => ?_)
                      obtain rfl : x_225 = (nI (ee - j)) := ex_225.trans (pk_sub (a := ee) (b := j) (by omega))
                      have hFc := pg_free hD hS hA
                      refine va_calli (va_runV (As := [.int (nI k_217), .int (nI j), .int (nI (ee - j))]) (rest := []) ⟨hx, hb, hml, hown, hts⟩ (s_X13_isSame l dC dI cs ty gm L H.size F_156 h0 ρ tx n Bn y0 y1 y2 tbx k_217 j (ee - j) hW hL_h0 hT_h0 hL_tx hT_tx (by first | omega | assumption) (by first | omega | assumption)) ⟨callB_of 3 hts (gi kt_835) rfl rfl rfl (hts _ kt_829) (hts _ kt_836) (by decide +kernel) ⟨Nat.le_of_ble_eq_true rfl, Nat.le_of_ble_eq_true rfl⟩, (hts _ kt_837), (hts _ kt_838)⟩ ⟨fun a U g mk q => ⟨q.1, PTm.calling q.2⟩, pg_recv hK hP hL_h0 hd2 (q := (RX13, TX13, 5)) rfl, fun U hU hWm => ⟨rfl, PTm.mk hU hWm hP hK hD hE hO⟩⟩ rfl rfl hl.1 rfl (lv_room (Nat.le_of_ble_eq_true rfl)) dX13_read_175 ⟨by show _ + 0 ≤ 0; omega, by show _ + 0 ≤ 0; omega⟩) hS (fun q _ h => hFc q h) hFc (fun r_226 u t H1 locs ht hvm hw hB hz1 hk1 hS => ?_)
                      obtain ⟨F_227, hB1⟩ := hB
                      obtain rfl : F_156 = F_227 := (funext (fun a => hB1.2.2.2 a List.not_mem_nil)).symm
                      obtain ⟨hP, hD, hO, hR⟩ := QTm.back hB1 ht hFc hR (fun q h => absurd h List.not_mem_nil)
                      generalize H1 = H at hP hS ⊢
                      have hw : (r_226 = 0 ∨ r_226 = 1) := hw
                      have hw_228 := hw
                      refine lv_if_eq (tgt := 183) hx hb dX13_read_178 (by decide) (fun c_229 => ?_) (fun c_229 => ?_)
                      ·
                        refine lv_iinc (v := (nI (kk + 1))) (lv' := [(5, .int (nI (kk + 1))), (4, .int (nI ee)), (3, .int (nI i)), (2, .int (nI j)), (0, .ref h0), (1, .int x1)]) hx hb dX13_read_183 hl (k := 0) rfl (nI_1 _) (by decide) rfl (fun ls hl => ?_)
                        refine lv_goto (tgt := 131) hx hb dX13_read_186 (by decide) ?_
                        refine W.widen (k := 0) (n := 0) (by omega) (by omega) ?_
                        exact ih_160 (kk + 1) F_156 (⟨by omega, hd2⟩) (by show 40 - (kk + 1) < 40 - kk; omega) hO hR _ _ hP hD hS ls (lv_sub hl [0, 1, 2, 3, 4, 5] rfl)
                      ·
                        refine lv_iconst (v := 0) hx hb dX13_read_181 (by decide) ?_
                        refine W.widen (k := 0) (n := 0) (by omega) (by omega) ?_
                        exact W.zret (v := 0) (ty := .boolean) hx hb hr (by decide) (fun t ht hWm => ⟨⟨0, (), rfl, (by first | exact Or.inl rfl | exact Or.inr rfl), ⟨F_156, zz, QTm.mk ht hP hD hO hR, hd2, by omega⟩⟩, hS.F ht⟩) hS.2.2 dX13_read_182
                ·
                  have hi_230 : zz = 40 := (nI_eq (a := zz) (b := 40) (by omega) (by omega)).mp c_154
                  refine lv_iconst (v := 0) hx hb dX13_read_126 (by decide) ?_
                  refine W.widen (k := 0) (n := 0) (by omega) (by omega) ?_
                  exact W.zret (v := 0) (ty := .boolean) hx hb hr (by decide) (fun t ht hWm => ⟨⟨0, (), rfl, (by first | exact Or.inl rfl | exact Or.inr rfl), ⟨F_34, zz, QTm.mk ht hP hD hO hR, hc3, by omega⟩⟩, hS.F ht⟩) hS.2.2 dX13_read_127
        ·
          refine lv_iinc (v := (nI (ee + 1))) (lv' := [(4, .int (nI (ee + 1))), (3, .int (nI i)), (2, .int (nI j)), (0, .ref h0), (1, .int x1)]) hx hb dX13_read_76 hl (k := 0) rfl (nI_1 _) (by decide) rfl (fun ls hl => ?_)
          refine lv_goto (tgt := 54) hx hb dX13_read_79 (by decide) ?_
          refine W.widen (k := 0) (n := 0) (by omega) (by omega) ?_
          exact ih_37 (ee + 1) F_34 (⟨by omega, by omega, hc3⟩) (by show i - (ee + 1) < i - ee; omega) hO hR _ _ hP hD hS ls (lv_sub hl [0, 1, 2, 3, 4] rfl)
    ·
      have hi_231 : i < zx := ltN (N := zx) c_32
      refine lv_aload_n hx hb dX13_read_34 rfl (lv_at hl 3 rfl) ?_
      refine pg_get (ci := 13) (v := .ref tx) (C := RX13) (T := TX13) (N := 5) hx hb hts it_13 hown hK hP hL_h0 hb3 rfl 0 (by decide) (hts _ kt_824) (fun _ h9 => h9) rfl dX13_read_35 ?_
      refine pg_get (ci := 14) (v := .ref tbx) (C := RX14) (T := TX14) (N := 2) hx hb hts it_14 hown hK hP hL_tx hF_31 rfl 0 (by decide) (hts _ kt_825) (fun _ h9 => h9) rfl dX13_read_38 ?_
      refine lv_iload_n hx hb dX13_read_41 rfl (lv_at hl 1 rfl) ?_
      obtain ⟨hq_232, hq_233⟩ := hW.octs hi_9 ht_10
      obtain ⟨f_234, hF_235, hq_236⟩ := hO.octs hi_9 ht_10
      refine pg_bald hx hb hK hP hi_9 1 hF_235 rfl (vp_in_nI (by omega) (by omega)) dX13_read_42 ?_
      refine lv_topi (fun x_237 ex_237 => ?_)
      obtain rfl : x_237 = f_234 i := ex_237.trans (congrArg f_234 (show ((nI i) : Int32).toNatClampNeg = i from nI_clamp (by omega)))
      refine lv_bipush (v := 59) hx hb dX13_read_43 (by decide) ?_
      refine lv_icmp_eq (tgt := 54) hx hb dX13_read_45 (by decide) (fun c_238 => ?_) (fun c_238 => ?_)
      ·
        refine W.widen (k := 0) (n := 0) (by omega) (by omega) ?_
        have hF_240 : F tx = .inr (14, [.ref tbx, .int (nI zx)]) := (hR tx (by rw [hT_tx]; simp)).symm.trans hF_31
        have hF_241 : F tbx = .inl (cs 17, n, .inl f_234) := (hR tbx (by rw [ht_10]; simp)).symm.trans hF_235
        refine pl_loopm (σ := Nat) A (dC, dI) cs ty gm L [ρ] F 54 6 (fun ee => [(4, .int (nI ee)), (3, .int (nI i)), (2, .int (nI j)), (0, .ref h0), (1, .int x1)]) (fun ee => []) (fun ee FF => j ≤ ee ∧ ee ≤ i ∧ FF h0 = .inr (13, [.ref tx, .ref y0, .ref y1, .ref y2, .int (nI zz)])) (fun ee => i - ee) ?_ j F_27 (⟨by omega, by omega, hb3⟩) hO hR _ _ hP hD hS ls (lv_sub hl [0, 1, 2, 3, 4] rfl)
        rintro ee F_239 hv_242 hO hR ih_243 H locs hP hD hS ls hl
        have hl : lv_has ls 6 [(4, .int (nI ee)), (3, .int (nI i)), (2, .int (nI j)), (0, .ref h0), (1, .int x1)] := hl
        have hv_242 : j ≤ ee ∧ ee ≤ i ∧ F_239 h0 = .inr (13, [.ref tx, .ref y0, .ref y1, .ref y2, .int (nI zz)]) := hv_242
        refine W.eq (g2 := F0 m 54 ls []) rfl ?_
        have hF_244 : F_239 tx = .inr (14, [.ref tbx, .int (nI zx)]) := (hR tx (by rw [hT_tx]; simp)).trans hF_240
        have hF_245 : F_239 tbx = .inl (cs 17, n, .inl f_234) := (hR tbx (by rw [ht_10]; simp)).trans hF_241
        obtain ⟨hc1, hc2, hc3⟩ := hv_242
        refine lv_iload hx hb dX13_read_54 (lv_at hl 0 rfl) ?_
        refine lv_iload_n hx hb dX13_read_56 rfl (lv_at hl 1 rfl) ?_
        refine lv_icmp_ge (tgt := 82) hx hb dX13_read_57 (by decide) (fun c_246 => ?_) (fun c_246 => ?_)
        ·
          have hi_247 : i ≤ ee := leN (N := i) c_246
          refine lv_iload hx hb dX13_read_82 (lv_at hl 0 rfl) ?_
          refine lv_iload_n hx hb dX13_read_84 rfl (lv_at hl 2 rfl) ?_
          refine lv_isub hx hb dX13_read_85 ?_
          refine lv_topi (fun x_248 ex_248 => ?_)
          obtain rfl : x_248 = (nI (ee - j)) := ex_248.trans (pk_sub (a := ee) (b := j) (by omega))
          refine lv_i2l (v := (nI (ee - j)).toInt64) hx hb dX13_read_86 rfl ?_
          refine lv_lconst (v := 1) hx hb dX13_read_87 (by decide) ?_
          refine lv_iload_n hx hb dX13_read_88 rfl (lv_at hl 4 rfl) ?_
          refine lv_i2l (v := x1.toInt64) hx hb dX13_read_89 rfl ?_
          have hFc := pg_free hD hS hA
          refine va_calli (va_runSN (As := [.long ((nI (ee - j)).toInt64), .long 1, .long x1.toInt64]) (rest := []) ⟨hx, hb, hml, hown, hts⟩ (s_X15_in l dC dI cs ty gm L H.size F_239 ((nI (ee - j)).toInt64) 1 x1.toInt64 hW ) ⟨va_cnB 3 hts (gi kt_685) rfl rfl rfl (hE.nestw kn_42) (hts _ kt_669) (by decide +kernel) ⟨Nat.le_of_ble_eq_true rfl, Nat.le_of_ble_eq_true rfl⟩, (hts _ kt_686), trivial⟩ ⟨fun a U g mk q => ⟨q.1, PTm.calling q.2⟩, fun U hU hWm => ⟨rfl, PTm.mk hU hWm hP hK hD hE hO⟩⟩ rfl rfl hl.1 rfl (lv_room (Nat.le_of_ble_eq_true rfl)) dX13_read_90 ⟨by show _ + 0 ≤ 0; omega, by show _ + 0 ≤ 0; omega⟩) hS (fun q _ h => hFc q h) hFc (fun r_249 u t H1 locs ht hvm hw hB hz1 hk1 hS => ?_)
          obtain ⟨F_250, hB1⟩ := hB
          obtain rfl : F_239 = F_250 := (funext (fun a => hB1.2.2.2 a List.not_mem_nil)).symm
          obtain ⟨hP, hD, hO, hR⟩ := QTm.back hB1 ht hFc hR (fun q h => absurd h List.not_mem_nil)
          generalize H1 = H at hP hS ⊢
          have hw : r_249 = (if 1 ≤ (nI (ee - j)).toInt64 ∧ (nI (ee - j)).toInt64 ≤ x1.toInt64 then 1 else 0) := hw
          have hw_251 := hw
          refine lv_if_eq (tgt := 126) hx hb dX13_read_93 (by decide) (fun c_252 => ?_) (fun c_252 => ?_)
          ·
            refine lv_iconst (v := 0) hx hb dX13_read_126 (by decide) ?_
            refine W.widen (k := 0) (n := 0) (by omega) (by omega) ?_
            exact W.zret (v := 0) (ty := .boolean) hx hb hr (by decide) (fun t ht hWm => ⟨⟨0, (), rfl, (by first | exact Or.inl rfl | exact Or.inr rfl), ⟨F_239, zz, QTm.mk ht hP hD hO hR, hc3, by omega⟩⟩, hS.F ht⟩) hS.2.2 dX13_read_127
          ·
            refine lv_iload hx hb dX13_read_96 (lv_at hl 0 rfl) ?_
            refine lv_iload_n hx hb dX13_read_98 rfl (lv_at hl 1 rfl) ?_
            refine lv_icmp_eq (tgt := 126) hx hb dX13_read_99 (by decide) (fun c_253 => ?_) (fun c_253 => ?_)
            ·
              have hi_254 : ee = i := (nI_eq (a := ee) (b := i) (by omega) (by omega)).mp c_253
              refine lv_iconst (v := 0) hx hb dX13_read_126 (by decide) ?_
              refine W.widen (k := 0) (n := 0) (by omega) (by omega) ?_
              exact W.zret (v := 0) (ty := .boolean) hx hb hr (by decide) (fun t ht hWm => ⟨⟨0, (), rfl, (by first | exact Or.inl rfl | exact Or.inr rfl), ⟨F_239, zz, QTm.mk ht hP hD hO hR, hc3, by omega⟩⟩, hS.F ht⟩) hS.2.2 dX13_read_127
            ·
              have hi_255 : ee ≠ i := fun q => c_253 (by rw [q])
              refine lv_aload_n hx hb dX13_read_102 rfl (lv_at hl 3 rfl) ?_
              refine pg_get (ci := 13) (v := .ref tx) (C := RX13) (T := TX13) (N := 5) hx hb hts it_13 hown hK hP hL_h0 hc3 rfl 0 (by decide) (hts _ kt_824) (fun _ h9 => h9) rfl dX13_read_103 ?_
              refine pg_get (ci := 14) (v := .ref tbx) (C := RX14) (T := TX14) (N := 2) hx hb hts it_14 hown hK hP hL_tx hF_244 rfl 0 (by decide) (hts _ kt_825) (fun _ h9 => h9) rfl dX13_read_106 ?_
              refine lv_iload hx hb dX13_read_109 (lv_at hl 0 rfl) ?_
              refine pg_bald hx hb hK hP hi_9 1 hF_245 rfl (vp_in_nI (by omega) (by omega)) dX13_read_111 ?_
              refine lv_topi (fun x_256 ex_256 => ?_)
              obtain rfl : x_256 = f_234 ee := ex_256.trans (congrArg f_234 (show ((nI ee) : Int32).toNatClampNeg = ee from nI_clamp (by omega)))
              refine lv_bipush (v := 61) hx hb dX13_read_112 (by decide) ?_
              refine lv_icmp_ne (tgt := 126) hx hb dX13_read_114 (by decide) (fun c_257 => ?_) (fun c_257 => ?_)
              ·
                refine lv_iconst (v := 0) hx hb dX13_read_126 (by decide) ?_
                refine W.widen (k := 0) (n := 0) (by omega) (by omega) ?_
                exact W.zret (v := 0) (ty := .boolean) hx hb hr (by decide) (fun t ht hWm => ⟨⟨0, (), rfl, (by first | exact Or.inl rfl | exact Or.inr rfl), ⟨F_239, zz, QTm.mk ht hP hD hO hR, hc3, by omega⟩⟩, hS.F ht⟩) hS.2.2 dX13_read_127
              ·
                refine lv_aload_n hx hb dX13_read_117 rfl (lv_at hl 3 rfl) ?_
                refine pg_get (ci := 13) (v := .int (nI zz)) (C := RX13) (T := TX13) (N := 5) hx hb hts it_13 hown hK hP hL_h0 hc3 rfl 4 (by decide) (hts _ kt_823) (fun _ h9 => h9) rfl dX13_read_118 ?_
                refine lv_bipush (v := 40) hx hb dX13_read_121 (by decide) ?_
                refine lv_icmp_ne (tgt := 128) hx hb dX13_read_123 (by decide) (fun c_258 => ?_) (fun c_258 => ?_)
                ·
                  have hi_259 : zz ≠ 40 := fun q => c_258 (by rw [q]; rfl)
                  refine lv_iconst (v := 0) hx hb dX13_read_128 (by decide) ?_
                  refine lv_istore (lv' := [(5, .int 0), (4, .int (nI ee)), (3, .int (nI i)), (2, .int (nI j)), (0, .ref h0), (1, .int x1)]) hx hb dX13_read_129 hl (by decide) rfl (fun ls hl => ?_)
                  refine W.widen (k := 0) (n := 0) (by omega) (by omega) ?_
                  have hF_261 : F tx = .inr (14, [.ref tbx, .int (nI zx)]) := (hR tx (by rw [hT_tx]; simp)).symm.trans hF_244
                  have hF_262 : F tbx = .inl (cs 17, n, .inl f_234) := (hR tbx (by rw [ht_10]; simp)).symm.trans hF_245
                  refine pl_loopm (σ := Nat) A (dC, dI) cs ty gm L [ρ] F 131 6 (fun kk => [(5, .int (nI kk)), (4, .int (nI ee)), (3, .int (nI i)), (2, .int (nI j)), (0, .ref h0), (1, .int x1)]) (fun kk => []) (fun kk FF => kk ≤ 40 ∧ FF h0 = .inr (13, [.ref tx, .ref y0, .ref y1, .ref y2, .int (nI zz)])) (fun kk => 40 - kk) ?_ 0 F_239 (⟨by omega, hc3⟩) hO hR _ _ hP hD hS ls (lv_sub hl [0, 1, 2, 3, 4, 5] rfl)
                  rintro kk F_260 hv_263 hO hR ih_264 H locs hP hD hS ls hl
                  have hl : lv_has ls 6 [(5, .int (nI kk)), (4, .int (nI ee)), (3, .int (nI i)), (2, .int (nI j)), (0, .ref h0), (1, .int x1)] := hl
                  have hv_263 : kk ≤ 40 ∧ F_260 h0 = .inr (13, [.ref tx, .ref y0, .ref y1, .ref y2, .int (nI zz)]) := hv_263
                  refine W.eq (g2 := F0 m 131 ls []) rfl ?_
                  have hF_265 : F_260 tx = .inr (14, [.ref tbx, .int (nI zx)]) := (hR tx (by rw [hT_tx]; simp)).trans hF_261
                  have hF_266 : F_260 tbx = .inl (cs 17, n, .inl f_234) := (hR tbx (by rw [ht_10]; simp)).trans hF_262
                  obtain ⟨hd1, hd2⟩ := hv_263
                  refine lv_iload hx hb dX13_read_131 (lv_at hl 0 rfl) ?_
                  refine lv_aload_n hx hb dX13_read_133 rfl (lv_at hl 4 rfl) ?_
                  refine pg_get (ci := 13) (v := .int (nI zz)) (C := RX13) (T := TX13) (N := 5) hx hb hts it_13 hown hK hP hL_h0 hd2 rfl 4 (by decide) (hts _ kt_823) (fun _ h9 => h9) rfl dX13_read_134 ?_
                  refine lv_icmp_ge (tgt := 189) hx hb dX13_read_137 (by decide) (fun c_267 => ?_) (fun c_267 => ?_)
                  ·
                    have hi_268 : zz ≤ kk := leN (N := zz) c_267
                    refine lv_aload_n hx hb dX13_read_189 rfl (lv_at hl 4 rfl) ?_
                    refine pg_get (ci := 13) (v := .ref y0) (C := RX13) (T := TX13) (N := 5) hx hb hts it_13 hown hK hP hL_h0 hd2 rfl 1 (by decide) (hts _ kt_826) (fun _ h9 => h9) rfl dX13_read_190 ?_
                    refine lv_aload_n hx hb dX13_read_193 rfl (lv_at hl 4 rfl) ?_
                    refine pg_get (ci := 13) (v := .int (nI zz)) (C := RX13) (T := TX13) (N := 5) hx hb hts it_13 hown hK hP hL_h0 hd2 rfl 4 (by decide) (hts _ kt_823) (fun _ h9 => h9) rfl dX13_read_194 ?_
                    refine lv_iload_n hx hb dX13_read_197 rfl (lv_at hl 3 rfl) ?_
                    obtain ⟨f_269, hF_270, hq_271⟩ := hO.idb hi_1 ht_4
                    refine pg_iast hx hb hK hP hD hS hi_1 0 hF_270 rfl (vp_in_nI (by omega) (by omega)) dX13_read_198 (fun H locs hP hD hS => ?_)
                    obtain ⟨F_272, he_273, hP, hD, hO, hR⟩ : ∃ G, G = va_up F_260 y0 (.inl (cs 16, 40, .inl (upd f_269 ((nI zz)).toNatClampNeg ((nI j))))) ∧ va_P (dC, dI) vwCl (va_pl L G) H ∧ va_D A (va_pl L G) ∧ OKm cs ty gm L G ∧ FR ty [ρ] F G := ⟨_, rfl, hP, hD, hO.up (shm.idb ht_4 ⟨_, rfl, ixb_upd hq_271 _ _ (by omega)⟩), hR.up ht_4 (by simp)⟩
                    have hF_274 : F_272 y0 = .inl (cs 16, 40, .inl (upd f_269 ((nI zz)).toNatClampNeg ((nI j)))) := by rw [he_273]; exact up_self
                    have hF_275 : F_272 tx = .inr (14, [.ref tbx, .int (nI zx)]) := by rw [he_273, up_ne (ne_ty hT_tx ht_4 (by simp))]; exact hF_265
                    have hF_276 : F_272 tbx = .inl (cs 17, n, .inl f_234) := by rw [he_273, up_ne (ne_ty ht_10 ht_4 (by simp))]; exact hF_266
                    have hF_277 : F_272 h0 = .inr (13, [.ref tx, .ref y0, .ref y1, .ref y2, .int (nI zz)]) := by rw [he_273, up_ne (ne_ty hT_h0 ht_4 (by simp))]; exact hd2
                    obtain ⟨f_278, hF_274, hq_279⟩ : ∃ f : Nat → Int32, F_272 y0 = .inl (cs 16, 40, .inl f) ∧ IXB Bn f := ⟨_, hF_274, ixb_upd hq_271 _ _ (by omega)⟩
                    refine lv_aload_n hx hb dX13_read_199 rfl (lv_at hl 4 rfl) ?_
                    refine pg_get (ci := 13) (v := .ref y1) (C := RX13) (T := TX13) (N := 5) hx hb hts it_13 hown hK hP hL_h0 hF_277 rfl 2 (by decide) (hts _ kt_827) (fun _ h9 => h9) rfl dX13_read_200 ?_
                    refine lv_aload_n hx hb dX13_read_203 rfl (lv_at hl 4 rfl) ?_
                    refine pg_get (ci := 13) (v := .int (nI zz)) (C := RX13) (T := TX13) (N := 5) hx hb hts it_13 hown hK hP hL_h0 hF_277 rfl 4 (by decide) (hts _ kt_823) (fun _ h9 => h9) rfl dX13_read_204 ?_
                    refine lv_iload hx hb dX13_read_207 (lv_at hl 1 rfl) ?_
                    obtain ⟨f_280, hF_281, hq_282⟩ := hO.idb hi_2 ht_5
                    refine pg_iast hx hb hK hP hD hS hi_2 0 hF_281 rfl (vp_in_nI (by omega) (by omega)) dX13_read_209 (fun H locs hP hD hS => ?_)
                    obtain ⟨F_283, he_284, hP, hD, hO, hR⟩ : ∃ G, G = va_up F_272 y1 (.inl (cs 16, 40, .inl (upd f_280 ((nI zz)).toNatClampNeg ((nI ee))))) ∧ va_P (dC, dI) vwCl (va_pl L G) H ∧ va_D A (va_pl L G) ∧ OKm cs ty gm L G ∧ FR ty [ρ] F G := ⟨_, rfl, hP, hD, hO.up (shm.idb ht_5 ⟨_, rfl, ixb_upd hq_282 _ _ (by omega)⟩), hR.up ht_5 (by simp)⟩
                    have hF_285 : F_283 y1 = .inl (cs 16, 40, .inl (upd f_280 ((nI zz)).toNatClampNeg ((nI ee)))) := by rw [he_284]; exact up_self
                    have hF_286 : F_283 tx = .inr (14, [.ref tbx, .int (nI zx)]) := by rw [he_284, up_ne (ne_ty hT_tx ht_5 (by simp))]; exact hF_275
                    have hF_287 : F_283 tbx = .inl (cs 17, n, .inl f_234) := by rw [he_284, up_ne (ne_ty ht_10 ht_5 (by simp))]; exact hF_276
                    have hF_288 : F_283 h0 = .inr (13, [.ref tx, .ref y0, .ref y1, .ref y2, .int (nI zz)]) := by rw [he_284, up_ne (ne_ty hT_h0 ht_5 (by simp))]; exact hF_277
                    obtain ⟨f_289, hF_285, hq_290⟩ : ∃ f : Nat → Int32, F_283 y1 = .inl (cs 16, 40, .inl f) ∧ IXB Bn f := ⟨_, hF_285, ixb_upd hq_282 _ _ (by omega)⟩
                    refine lv_aload_n hx hb dX13_read_210 rfl (lv_at hl 4 rfl) ?_
                    refine pg_get (ci := 13) (v := .ref y2) (C := RX13) (T := TX13) (N := 5) hx hb hts it_13 hown hK hP hL_h0 hF_288 rfl 3 (by decide) (hts _ kt_833) (fun _ h9 => h9) rfl dX13_read_211 ?_
                    refine lv_aload_n hx hb dX13_read_214 rfl (lv_at hl 4 rfl) ?_
                    refine pg_get (ci := 13) (v := .int (nI zz)) (C := RX13) (T := TX13) (N := 5) hx hb hts it_13 hown hK hP hL_h0 hF_288 rfl 4 (by decide) (hts _ kt_823) (fun _ h9 => h9) rfl dX13_read_215 ?_
                    refine lv_iload_n hx hb dX13_read_218 rfl (lv_at hl 2 rfl) ?_
                    obtain ⟨f_291, hF_292, hq_293⟩ := hO.idb hi_3 ht_6
                    refine pg_iast hx hb hK hP hD hS hi_3 0 hF_292 rfl (vp_in_nI (by omega) (by omega)) dX13_read_219 (fun H locs hP hD hS => ?_)
                    obtain ⟨F_294, he_295, hP, hD, hO, hR⟩ : ∃ G, G = va_up F_283 y2 (.inl (cs 16, 40, .inl (upd f_291 ((nI zz)).toNatClampNeg ((nI i))))) ∧ va_P (dC, dI) vwCl (va_pl L G) H ∧ va_D A (va_pl L G) ∧ OKm cs ty gm L G ∧ FR ty [ρ] F G := ⟨_, rfl, hP, hD, hO.up (shm.idb ht_6 ⟨_, rfl, ixb_upd hq_293 _ _ (by omega)⟩), hR.up ht_6 (by simp)⟩
                    have hF_296 : F_294 y2 = .inl (cs 16, 40, .inl (upd f_291 ((nI zz)).toNatClampNeg ((nI i)))) := by rw [he_295]; exact up_self
                    have hF_297 : F_294 tx = .inr (14, [.ref tbx, .int (nI zx)]) := by rw [he_295, up_ne (ne_ty hT_tx ht_6 (by simp))]; exact hF_286
                    have hF_298 : F_294 tbx = .inl (cs 17, n, .inl f_234) := by rw [he_295, up_ne (ne_ty ht_10 ht_6 (by simp))]; exact hF_287
                    have hF_299 : F_294 h0 = .inr (13, [.ref tx, .ref y0, .ref y1, .ref y2, .int (nI zz)]) := by rw [he_295, up_ne (ne_ty hT_h0 ht_6 (by simp))]; exact hF_288
                    obtain ⟨f_300, hF_296, hq_301⟩ : ∃ f : Nat → Int32, F_294 y2 = .inl (cs 16, 40, .inl f) ∧ IXB Bn f := ⟨_, hF_296, ixb_upd hq_293 _ _ (by omega)⟩
                    refine lv_aload_n hx hb dX13_read_220 rfl (lv_at hl 4 rfl) ?_
                    refine lv_dup hx hb dX13_read_221 rfl ?_
                    refine pg_get (ci := 13) (v := .int (nI zz)) (C := RX13) (T := TX13) (N := 5) hx hb hts it_13 hown hK hP hL_h0 hF_299 rfl 4 (by decide) (hts _ kt_823) (fun _ h9 => h9) rfl dX13_read_222 ?_
                    refine lv_iconst (v := 1) hx hb dX13_read_225 (by decide) ?_
                    refine lv_iadd hx hb dX13_read_226 ?_
                    refine lv_topi (fun x_302 ex_302 => ?_)
                    obtain rfl : x_302 = (nI (zz + 1)) := ex_302.trans (nI_add zz 1)
                    refine pg_put (ci := 13) (v := .int (nI (zz + 1))) (ty := .int) (C := RX13) (T := TX13) (N := 5) hx hb hts it_13 tyX13 tyX13_ok nmX13 hown hK hP hD hS hL_h0 hF_299 rfl 4 (by decide) (hts _ kt_823) (fun _ h9 => h9) rfl (by decide +kernel) (rfl) (rfl) (Nat.le_of_ble_eq_true rfl) dX13_read_227 (fun H locs hP hD hS => ?_)
                    obtain ⟨F_303, he_304, hP, hD, hO, hR⟩ : ∃ G, G = va_up F_294 h0 (.inr (13, [.ref tx, .ref y0, .ref y1, .ref y2, .int (nI (zz + 1))])) ∧ va_P (dC, dI) vwCl (va_pl L G) H ∧ va_D A (va_pl L G) ∧ OKm cs ty gm L G ∧ FR ty [ρ] F G := ⟨_, rfl, hP, hD, hO.up (shm.tags hT_h0 ⟨(zz + 1), rfl, (by first | omega | assumption | exact Or.inl rfl | exact Or.inr rfl)⟩), hR.up hT_h0 (by simp)⟩
                    have hF_305 : F_303 h0 = .inr (13, [.ref tx, .ref y0, .ref y1, .ref y2, .int (nI (zz + 1))]) := by rw [he_304]; exact up_self
                    have hF_306 : F_303 y2 = .inl (cs 16, 40, .inl f_300) := by rw [he_304, up_ne (ne_ty ht_6 hT_h0 (by simp))]; exact hF_296
                    have hF_307 : F_303 tx = .inr (14, [.ref tbx, .int (nI zx)]) := by rw [he_304, up_ne (ne_ty hT_tx hT_h0 (by simp))]; exact hF_297
                    have hF_308 : F_303 tbx = .inl (cs 17, n, .inl f_234) := by rw [he_304, up_ne (ne_ty ht_10 hT_h0 (by simp))]; exact hF_298
                    refine lv_iload_n hx hb dX13_read_230 rfl (lv_at hl 2 rfl) ?_
                    refine lv_iconst (v := 1) hx hb dX13_read_231 (by decide) ?_
                    refine lv_iadd hx hb dX13_read_232 ?_
                    refine lv_topi (fun x_309 ex_309 => ?_)
                    obtain rfl : x_309 = (nI (i + 1)) := ex_309.trans (nI_add i 1)
                    refine lv_istore_n (lv' := [(2, .int (nI (i + 1))), (5, .int (nI kk)), (4, .int (nI ee)), (3, .int (nI i)), (0, .ref h0), (1, .int x1)]) hx hb dX13_read_233 rfl hl (by decide) rfl (fun ls hl => ?_)
                    refine lv_goto (tgt := 7) hx hb dX13_read_234 (by decide) ?_
                    refine W.widen (k := 0) (n := 0) (by omega) (by omega) ?_
                    exact ih_22 ((i + 1), (zz + 1)) F_303 (⟨by omega, by omega, hF_305⟩) (by show zx + 1 - (i + 1) < zx + 1 - j; omega) hO hR _ _ hP hD hS ls (lv_sub hl [0, 4, 5] rfl)
                  ·
                    have hi_310 : kk < zz := ltN (N := zz) c_267
                    refine lv_aload_n hx hb dX13_read_140 rfl (lv_at hl 4 rfl) ?_
                    refine pg_get (ci := 13) (v := .ref y1) (C := RX13) (T := TX13) (N := 5) hx hb hts it_13 hown hK hP hL_h0 hd2 rfl 2 (by decide) (hts _ kt_827) (fun _ h9 => h9) rfl dX13_read_141 ?_
                    refine lv_iload hx hb dX13_read_144 (lv_at hl 0 rfl) ?_
                    obtain ⟨f_311, hF_312, hq_313⟩ := hO.idb hi_2 ht_5
                    refine pg_iald hx hb hK hP hi_2 0 hF_312 rfl (vp_in_nI (by omega) (by omega)) dX13_read_146 ?_
                    obtain ⟨k_314, hk_315, ek_316⟩ := hq_313 ((nI kk) : Int32).toNatClampNeg
                    refine lv_topi (fun x_317 ex_317 => ?_)
                    obtain rfl : x_317 = nI k_314 := ex_317.trans ek_316
                    refine lv_aload_n hx hb dX13_read_147 rfl (lv_at hl 4 rfl) ?_
                    refine pg_get (ci := 13) (v := .ref y0) (C := RX13) (T := TX13) (N := 5) hx hb hts it_13 hown hK hP hL_h0 hd2 rfl 1 (by decide) (hts _ kt_826) (fun _ h9 => h9) rfl dX13_read_148 ?_
                    refine lv_iload hx hb dX13_read_151 (lv_at hl 0 rfl) ?_
                    obtain ⟨f_318, hF_319, hq_320⟩ := hO.idb hi_1 ht_4
                    refine pg_iald hx hb hK hP hi_1 0 hF_319 rfl (vp_in_nI (by omega) (by omega)) dX13_read_153 ?_
                    obtain ⟨k_321, hk_322, ek_323⟩ := hq_320 ((nI kk) : Int32).toNatClampNeg
                    refine lv_topi (fun x_324 ex_324 => ?_)
                    obtain rfl : x_324 = nI k_321 := ex_324.trans ek_323
                    refine lv_isub hx hb dX13_read_154 ?_
                    refine lv_topi (fun x_325 ex_325 => ?_)
                    obtain rfl : x_325 = ((nI k_314) - (nI k_321)) := ex_325.trans (rfl)
                    refine lv_iload hx hb dX13_read_155 (lv_at hl 1 rfl) ?_
                    refine lv_iload_n hx hb dX13_read_157 rfl (lv_at hl 3 rfl) ?_
                    refine lv_isub hx hb dX13_read_158 ?_
                    refine lv_topi (fun x_326 ex_326 => ?_)
                    obtain rfl : x_326 = (nI (ee - j)) := ex_326.trans (pk_sub (a := ee) (b := j) (by omega))
                    refine lv_icmp_ne (tgt := 183) hx hb dX13_read_159 (by decide) (fun c_327 => ?_) (fun c_327 => ?_)
                    ·
                      refine lv_iinc (v := (nI (kk + 1))) (lv' := [(5, .int (nI (kk + 1))), (4, .int (nI ee)), (3, .int (nI i)), (2, .int (nI j)), (0, .ref h0), (1, .int x1)]) hx hb dX13_read_183 hl (k := 0) rfl (nI_1 _) (by decide) rfl (fun ls hl => ?_)
                      refine lv_goto (tgt := 131) hx hb dX13_read_186 (by decide) ?_
                      refine W.widen (k := 0) (n := 0) (by omega) (by omega) ?_
                      exact ih_264 (kk + 1) F_260 (⟨by omega, hd2⟩) (by show 40 - (kk + 1) < 40 - kk; omega) hO hR _ _ hP hD hS ls (lv_sub hl [0, 1, 2, 3, 4, 5] rfl)
                    ·
                      have hsm := sub_eqN c_327 (by omega) (by omega) (by omega)
                      refine lv_aload_n hx hb dX13_read_162 rfl (lv_at hl 4 rfl) ?_
                      refine lv_aload_n hx hb dX13_read_163 rfl (lv_at hl 4 rfl) ?_
                      refine pg_get (ci := 13) (v := .ref y0) (C := RX13) (T := TX13) (N := 5) hx hb hts it_13 hown hK hP hL_h0 hd2 rfl 1 (by decide) (hts _ kt_826) (fun _ h9 => h9) rfl dX13_read_164 ?_
                      refine lv_iload hx hb dX13_read_167 (lv_at hl 0 rfl) ?_
                      refine pg_iald hx hb hK hP hi_1 0 hF_319 rfl (vp_in_nI (by omega) (by omega)) dX13_read_169 ?_
                      refine lv_topi (fun x_328 ex_328 => ?_)
                      obtain rfl : x_328 = nI k_321 := ex_328.trans ek_323
                      refine lv_iload_n hx hb dX13_read_170 rfl (lv_at hl 3 rfl) ?_
                      refine lv_iload hx hb dX13_read_171 (lv_at hl 1 rfl) ?_
                      refine lv_iload_n hx hb dX13_read_173 rfl (lv_at hl 3 rfl) ?_
                      refine lv_isub hx hb dX13_read_174 ?_
                      refine lv_topi (fun x_329 ex_329 => ?_)
                      obtain rfl : x_329 = (nI (ee - j)) := ex_329.trans (pk_sub (a := ee) (b := j) (by omega))
                      have hFc := pg_free hD hS hA
                      refine va_calli (va_runV (As := [.int (nI k_321), .int (nI j), .int (nI (ee - j))]) (rest := []) ⟨hx, hb, hml, hown, hts⟩ (s_X13_isSame l dC dI cs ty gm L H.size F_260 h0 ρ tx n Bn y0 y1 y2 tbx k_321 j (ee - j) hW hL_h0 hT_h0 hL_tx hT_tx (by first | omega | assumption) (by first | omega | assumption)) ⟨callB_of 3 hts (gi kt_835) rfl rfl rfl (hts _ kt_829) (hts _ kt_836) (by decide +kernel) ⟨Nat.le_of_ble_eq_true rfl, Nat.le_of_ble_eq_true rfl⟩, (hts _ kt_837), (hts _ kt_838)⟩ ⟨fun a U g mk q => ⟨q.1, PTm.calling q.2⟩, pg_recv hK hP hL_h0 hd2 (q := (RX13, TX13, 5)) rfl, fun U hU hWm => ⟨rfl, PTm.mk hU hWm hP hK hD hE hO⟩⟩ rfl rfl hl.1 rfl (lv_room (Nat.le_of_ble_eq_true rfl)) dX13_read_175 ⟨by show _ + 0 ≤ 0; omega, by show _ + 0 ≤ 0; omega⟩) hS (fun q _ h => hFc q h) hFc (fun r_330 u t H1 locs ht hvm hw hB hz1 hk1 hS => ?_)
                      obtain ⟨F_331, hB1⟩ := hB
                      obtain rfl : F_260 = F_331 := (funext (fun a => hB1.2.2.2 a List.not_mem_nil)).symm
                      obtain ⟨hP, hD, hO, hR⟩ := QTm.back hB1 ht hFc hR (fun q h => absurd h List.not_mem_nil)
                      generalize H1 = H at hP hS ⊢
                      have hw : (r_330 = 0 ∨ r_330 = 1) := hw
                      have hw_332 := hw
                      refine lv_if_eq (tgt := 183) hx hb dX13_read_178 (by decide) (fun c_333 => ?_) (fun c_333 => ?_)
                      ·
                        refine lv_iinc (v := (nI (kk + 1))) (lv' := [(5, .int (nI (kk + 1))), (4, .int (nI ee)), (3, .int (nI i)), (2, .int (nI j)), (0, .ref h0), (1, .int x1)]) hx hb dX13_read_183 hl (k := 0) rfl (nI_1 _) (by decide) rfl (fun ls hl => ?_)
                        refine lv_goto (tgt := 131) hx hb dX13_read_186 (by decide) ?_
                        refine W.widen (k := 0) (n := 0) (by omega) (by omega) ?_
                        exact ih_264 (kk + 1) F_260 (⟨by omega, hd2⟩) (by show 40 - (kk + 1) < 40 - kk; omega) hO hR _ _ hP hD hS ls (lv_sub hl [0, 1, 2, 3, 4, 5] rfl)
                      ·
                        refine lv_iconst (v := 0) hx hb dX13_read_181 (by decide) ?_
                        refine W.widen (k := 0) (n := 0) (by omega) (by omega) ?_
                        exact W.zret (v := 0) (ty := .boolean) hx hb hr (by decide) (fun t ht hWm => ⟨⟨0, (), rfl, (by first | exact Or.inl rfl | exact Or.inr rfl), ⟨F_260, zz, QTm.mk ht hP hD hO hR, hd2, by omega⟩⟩, hS.F ht⟩) hS.2.2 dX13_read_182
                ·
                  have hi_334 : zz = 40 := (nI_eq (a := zz) (b := 40) (by omega) (by omega)).mp c_258
                  refine lv_iconst (v := 0) hx hb dX13_read_126 (by decide) ?_
                  refine W.widen (k := 0) (n := 0) (by omega) (by omega) ?_
                  exact W.zret (v := 0) (ty := .boolean) hx hb hr (by decide) (fun t ht hWm => ⟨⟨0, (), rfl, (by first | exact Or.inl rfl | exact Or.inr rfl), ⟨F_239, zz, QTm.mk ht hP hD hO hR, hc3, by omega⟩⟩, hS.F ht⟩) hS.2.2 dX13_read_127
        ·
          have hi_335 : ee < i := ltN (N := i) c_246
          refine lv_aload_n hx hb dX13_read_60 rfl (lv_at hl 3 rfl) ?_
          refine pg_get (ci := 13) (v := .ref tx) (C := RX13) (T := TX13) (N := 5) hx hb hts it_13 hown hK hP hL_h0 hc3 rfl 0 (by decide) (hts _ kt_824) (fun _ h9 => h9) rfl dX13_read_61 ?_
          refine pg_get (ci := 14) (v := .ref tbx) (C := RX14) (T := TX14) (N := 2) hx hb hts it_14 hown hK hP hL_tx hF_244 rfl 0 (by decide) (hts _ kt_825) (fun _ h9 => h9) rfl dX13_read_64 ?_
          refine lv_iload hx hb dX13_read_67 (lv_at hl 0 rfl) ?_
          refine pg_bald hx hb hK hP hi_9 1 hF_245 rfl (vp_in_nI (by omega) (by omega)) dX13_read_69 ?_
          refine lv_topi (fun x_336 ex_336 => ?_)
          obtain rfl : x_336 = f_234 ee := ex_336.trans (congrArg f_234 (show ((nI ee) : Int32).toNatClampNeg = ee from nI_clamp (by omega)))
          have hFc := pg_free hD hS hA
          refine va_calli (va_runSN (As := [.int (f_234 ee)]) (rest := []) ⟨hx, hb, hml, hown, hts⟩ (s_X15_isSmall l dC dI cs ty gm L H.size F_239 (f_234 ee) hW ) ⟨va_cnB 1 hts (gi kt_668) rfl rfl rfl (hE.nestw kn_43) (hts _ kt_669) (by decide +kernel) ⟨Nat.le_of_ble_eq_true rfl, Nat.le_of_ble_eq_true rfl⟩, (hts _ kt_671), trivial⟩ ⟨fun a U g mk q => ⟨q.1, PTm.calling q.2⟩, fun U hU hWm => ⟨rfl, PTm.mk hU hWm hP hK hD hE hO⟩⟩ rfl rfl hl.1 rfl (lv_room (Nat.le_of_ble_eq_true rfl)) dX13_read_70 ⟨by show _ + 0 ≤ 0; omega, by show _ + 0 ≤ 0; omega⟩) hS (fun q _ h => hFc q h) hFc (fun r_337 u t H1 locs ht hvm hw hB hz1 hk1 hS => ?_)
          obtain ⟨F_338, hB1⟩ := hB
          obtain rfl : F_239 = F_338 := (funext (fun a => hB1.2.2.2 a List.not_mem_nil)).symm
          obtain ⟨hP, hD, hO, hR⟩ := QTm.back hB1 ht hFc hR (fun q h => absurd h List.not_mem_nil)
          generalize H1 = H at hP hS ⊢
          have hw : (r_337 = 0 ∨ r_337 = 1) := hw
          have hw_339 := hw
          refine lv_if_eq (tgt := 82) hx hb dX13_read_73 (by decide) (fun c_340 => ?_) (fun c_340 => ?_)
          ·
            refine lv_iload hx hb dX13_read_82 (lv_at hl 0 rfl) ?_
            refine lv_iload_n hx hb dX13_read_84 rfl (lv_at hl 2 rfl) ?_
            refine lv_isub hx hb dX13_read_85 ?_
            refine lv_topi (fun x_341 ex_341 => ?_)
            obtain rfl : x_341 = (nI (ee - j)) := ex_341.trans (pk_sub (a := ee) (b := j) (by omega))
            refine lv_i2l (v := (nI (ee - j)).toInt64) hx hb dX13_read_86 rfl ?_
            refine lv_lconst (v := 1) hx hb dX13_read_87 (by decide) ?_
            refine lv_iload_n hx hb dX13_read_88 rfl (lv_at hl 4 rfl) ?_
            refine lv_i2l (v := x1.toInt64) hx hb dX13_read_89 rfl ?_
            have hFc := pg_free hD hS hA
            refine va_calli (va_runSN (As := [.long ((nI (ee - j)).toInt64), .long 1, .long x1.toInt64]) (rest := []) ⟨hx, hb, hml, hown, hts⟩ (s_X15_in l dC dI cs ty gm L H.size F_239 ((nI (ee - j)).toInt64) 1 x1.toInt64 hW ) ⟨va_cnB 3 hts (gi kt_685) rfl rfl rfl (hE.nestw kn_42) (hts _ kt_669) (by decide +kernel) ⟨Nat.le_of_ble_eq_true rfl, Nat.le_of_ble_eq_true rfl⟩, (hts _ kt_686), trivial⟩ ⟨fun a U g mk q => ⟨q.1, PTm.calling q.2⟩, fun U hU hWm => ⟨rfl, PTm.mk hU hWm hP hK hD hE hO⟩⟩ rfl rfl hl.1 rfl (lv_room (Nat.le_of_ble_eq_true rfl)) dX13_read_90 ⟨by show _ + 0 ≤ 0; omega, by show _ + 0 ≤ 0; omega⟩) hS (fun q _ h => hFc q h) hFc (fun r_342 u t H1 locs ht hvm hw hB hz1 hk1 hS => ?_)
            obtain ⟨F_343, hB1⟩ := hB
            obtain rfl : F_239 = F_343 := (funext (fun a => hB1.2.2.2 a List.not_mem_nil)).symm
            obtain ⟨hP, hD, hO, hR⟩ := QTm.back hB1 ht hFc hR (fun q h => absurd h List.not_mem_nil)
            generalize H1 = H at hP hS ⊢
            have hw : r_342 = (if 1 ≤ (nI (ee - j)).toInt64 ∧ (nI (ee - j)).toInt64 ≤ x1.toInt64 then 1 else 0) := hw
            have hw_344 := hw
            refine lv_if_eq (tgt := 126) hx hb dX13_read_93 (by decide) (fun c_345 => ?_) (fun c_345 => ?_)
            ·
              refine lv_iconst (v := 0) hx hb dX13_read_126 (by decide) ?_
              refine W.widen (k := 0) (n := 0) (by omega) (by omega) ?_
              exact W.zret (v := 0) (ty := .boolean) hx hb hr (by decide) (fun t ht hWm => ⟨⟨0, (), rfl, (by first | exact Or.inl rfl | exact Or.inr rfl), ⟨F_239, zz, QTm.mk ht hP hD hO hR, hc3, by omega⟩⟩, hS.F ht⟩) hS.2.2 dX13_read_127
            ·
              refine lv_iload hx hb dX13_read_96 (lv_at hl 0 rfl) ?_
              refine lv_iload_n hx hb dX13_read_98 rfl (lv_at hl 1 rfl) ?_
              refine lv_icmp_eq (tgt := 126) hx hb dX13_read_99 (by decide) (fun c_346 => ?_) (fun c_346 => ?_)
              ·
                have hi_347 : ee = i := (nI_eq (a := ee) (b := i) (by omega) (by omega)).mp c_346
                refine lv_iconst (v := 0) hx hb dX13_read_126 (by decide) ?_
                refine W.widen (k := 0) (n := 0) (by omega) (by omega) ?_
                exact W.zret (v := 0) (ty := .boolean) hx hb hr (by decide) (fun t ht hWm => ⟨⟨0, (), rfl, (by first | exact Or.inl rfl | exact Or.inr rfl), ⟨F_239, zz, QTm.mk ht hP hD hO hR, hc3, by omega⟩⟩, hS.F ht⟩) hS.2.2 dX13_read_127
              ·
                have hi_348 : ee ≠ i := fun q => c_346 (by rw [q])
                refine lv_aload_n hx hb dX13_read_102 rfl (lv_at hl 3 rfl) ?_
                refine pg_get (ci := 13) (v := .ref tx) (C := RX13) (T := TX13) (N := 5) hx hb hts it_13 hown hK hP hL_h0 hc3 rfl 0 (by decide) (hts _ kt_824) (fun _ h9 => h9) rfl dX13_read_103 ?_
                refine pg_get (ci := 14) (v := .ref tbx) (C := RX14) (T := TX14) (N := 2) hx hb hts it_14 hown hK hP hL_tx hF_244 rfl 0 (by decide) (hts _ kt_825) (fun _ h9 => h9) rfl dX13_read_106 ?_
                refine lv_iload hx hb dX13_read_109 (lv_at hl 0 rfl) ?_
                refine pg_bald hx hb hK hP hi_9 1 hF_245 rfl (vp_in_nI (by omega) (by omega)) dX13_read_111 ?_
                refine lv_topi (fun x_349 ex_349 => ?_)
                obtain rfl : x_349 = f_234 ee := ex_349.trans (congrArg f_234 (show ((nI ee) : Int32).toNatClampNeg = ee from nI_clamp (by omega)))
                refine lv_bipush (v := 61) hx hb dX13_read_112 (by decide) ?_
                refine lv_icmp_ne (tgt := 126) hx hb dX13_read_114 (by decide) (fun c_350 => ?_) (fun c_350 => ?_)
                ·
                  refine lv_iconst (v := 0) hx hb dX13_read_126 (by decide) ?_
                  refine W.widen (k := 0) (n := 0) (by omega) (by omega) ?_
                  exact W.zret (v := 0) (ty := .boolean) hx hb hr (by decide) (fun t ht hWm => ⟨⟨0, (), rfl, (by first | exact Or.inl rfl | exact Or.inr rfl), ⟨F_239, zz, QTm.mk ht hP hD hO hR, hc3, by omega⟩⟩, hS.F ht⟩) hS.2.2 dX13_read_127
                ·
                  refine lv_aload_n hx hb dX13_read_117 rfl (lv_at hl 3 rfl) ?_
                  refine pg_get (ci := 13) (v := .int (nI zz)) (C := RX13) (T := TX13) (N := 5) hx hb hts it_13 hown hK hP hL_h0 hc3 rfl 4 (by decide) (hts _ kt_823) (fun _ h9 => h9) rfl dX13_read_118 ?_
                  refine lv_bipush (v := 40) hx hb dX13_read_121 (by decide) ?_
                  refine lv_icmp_ne (tgt := 128) hx hb dX13_read_123 (by decide) (fun c_351 => ?_) (fun c_351 => ?_)
                  ·
                    have hi_352 : zz ≠ 40 := fun q => c_351 (by rw [q]; rfl)
                    refine lv_iconst (v := 0) hx hb dX13_read_128 (by decide) ?_
                    refine lv_istore (lv' := [(5, .int 0), (4, .int (nI ee)), (3, .int (nI i)), (2, .int (nI j)), (0, .ref h0), (1, .int x1)]) hx hb dX13_read_129 hl (by decide) rfl (fun ls hl => ?_)
                    refine W.widen (k := 0) (n := 0) (by omega) (by omega) ?_
                    have hF_354 : F tx = .inr (14, [.ref tbx, .int (nI zx)]) := (hR tx (by rw [hT_tx]; simp)).symm.trans hF_244
                    have hF_355 : F tbx = .inl (cs 17, n, .inl f_234) := (hR tbx (by rw [ht_10]; simp)).symm.trans hF_245
                    refine pl_loopm (σ := Nat) A (dC, dI) cs ty gm L [ρ] F 131 6 (fun kk => [(5, .int (nI kk)), (4, .int (nI ee)), (3, .int (nI i)), (2, .int (nI j)), (0, .ref h0), (1, .int x1)]) (fun kk => []) (fun kk FF => kk ≤ 40 ∧ FF h0 = .inr (13, [.ref tx, .ref y0, .ref y1, .ref y2, .int (nI zz)])) (fun kk => 40 - kk) ?_ 0 F_239 (⟨by omega, hc3⟩) hO hR _ _ hP hD hS ls (lv_sub hl [0, 1, 2, 3, 4, 5] rfl)
                    rintro kk F_353 hv_356 hO hR ih_357 H locs hP hD hS ls hl
                    have hl : lv_has ls 6 [(5, .int (nI kk)), (4, .int (nI ee)), (3, .int (nI i)), (2, .int (nI j)), (0, .ref h0), (1, .int x1)] := hl
                    have hv_356 : kk ≤ 40 ∧ F_353 h0 = .inr (13, [.ref tx, .ref y0, .ref y1, .ref y2, .int (nI zz)]) := hv_356
                    refine W.eq (g2 := F0 m 131 ls []) rfl ?_
                    have hF_358 : F_353 tx = .inr (14, [.ref tbx, .int (nI zx)]) := (hR tx (by rw [hT_tx]; simp)).trans hF_354
                    have hF_359 : F_353 tbx = .inl (cs 17, n, .inl f_234) := (hR tbx (by rw [ht_10]; simp)).trans hF_355
                    obtain ⟨hd1, hd2⟩ := hv_356
                    refine lv_iload hx hb dX13_read_131 (lv_at hl 0 rfl) ?_
                    refine lv_aload_n hx hb dX13_read_133 rfl (lv_at hl 4 rfl) ?_
                    refine pg_get (ci := 13) (v := .int (nI zz)) (C := RX13) (T := TX13) (N := 5) hx hb hts it_13 hown hK hP hL_h0 hd2 rfl 4 (by decide) (hts _ kt_823) (fun _ h9 => h9) rfl dX13_read_134 ?_
                    refine lv_icmp_ge (tgt := 189) hx hb dX13_read_137 (by decide) (fun c_360 => ?_) (fun c_360 => ?_)
                    ·
                      have hi_361 : zz ≤ kk := leN (N := zz) c_360
                      refine lv_aload_n hx hb dX13_read_189 rfl (lv_at hl 4 rfl) ?_
                      refine pg_get (ci := 13) (v := .ref y0) (C := RX13) (T := TX13) (N := 5) hx hb hts it_13 hown hK hP hL_h0 hd2 rfl 1 (by decide) (hts _ kt_826) (fun _ h9 => h9) rfl dX13_read_190 ?_
                      refine lv_aload_n hx hb dX13_read_193 rfl (lv_at hl 4 rfl) ?_
                      refine pg_get (ci := 13) (v := .int (nI zz)) (C := RX13) (T := TX13) (N := 5) hx hb hts it_13 hown hK hP hL_h0 hd2 rfl 4 (by decide) (hts _ kt_823) (fun _ h9 => h9) rfl dX13_read_194 ?_
                      refine lv_iload_n hx hb dX13_read_197 rfl (lv_at hl 3 rfl) ?_
                      obtain ⟨f_362, hF_363, hq_364⟩ := hO.idb hi_1 ht_4
                      refine pg_iast hx hb hK hP hD hS hi_1 0 hF_363 rfl (vp_in_nI (by omega) (by omega)) dX13_read_198 (fun H locs hP hD hS => ?_)
                      obtain ⟨F_365, he_366, hP, hD, hO, hR⟩ : ∃ G, G = va_up F_353 y0 (.inl (cs 16, 40, .inl (upd f_362 ((nI zz)).toNatClampNeg ((nI j))))) ∧ va_P (dC, dI) vwCl (va_pl L G) H ∧ va_D A (va_pl L G) ∧ OKm cs ty gm L G ∧ FR ty [ρ] F G := ⟨_, rfl, hP, hD, hO.up (shm.idb ht_4 ⟨_, rfl, ixb_upd hq_364 _ _ (by omega)⟩), hR.up ht_4 (by simp)⟩
                      have hF_367 : F_365 y0 = .inl (cs 16, 40, .inl (upd f_362 ((nI zz)).toNatClampNeg ((nI j)))) := by rw [he_366]; exact up_self
                      have hF_368 : F_365 tx = .inr (14, [.ref tbx, .int (nI zx)]) := by rw [he_366, up_ne (ne_ty hT_tx ht_4 (by simp))]; exact hF_358
                      have hF_369 : F_365 tbx = .inl (cs 17, n, .inl f_234) := by rw [he_366, up_ne (ne_ty ht_10 ht_4 (by simp))]; exact hF_359
                      have hF_370 : F_365 h0 = .inr (13, [.ref tx, .ref y0, .ref y1, .ref y2, .int (nI zz)]) := by rw [he_366, up_ne (ne_ty hT_h0 ht_4 (by simp))]; exact hd2
                      obtain ⟨f_371, hF_367, hq_372⟩ : ∃ f : Nat → Int32, F_365 y0 = .inl (cs 16, 40, .inl f) ∧ IXB Bn f := ⟨_, hF_367, ixb_upd hq_364 _ _ (by omega)⟩
                      refine lv_aload_n hx hb dX13_read_199 rfl (lv_at hl 4 rfl) ?_
                      refine pg_get (ci := 13) (v := .ref y1) (C := RX13) (T := TX13) (N := 5) hx hb hts it_13 hown hK hP hL_h0 hF_370 rfl 2 (by decide) (hts _ kt_827) (fun _ h9 => h9) rfl dX13_read_200 ?_
                      refine lv_aload_n hx hb dX13_read_203 rfl (lv_at hl 4 rfl) ?_
                      refine pg_get (ci := 13) (v := .int (nI zz)) (C := RX13) (T := TX13) (N := 5) hx hb hts it_13 hown hK hP hL_h0 hF_370 rfl 4 (by decide) (hts _ kt_823) (fun _ h9 => h9) rfl dX13_read_204 ?_
                      refine lv_iload hx hb dX13_read_207 (lv_at hl 1 rfl) ?_
                      obtain ⟨f_373, hF_374, hq_375⟩ := hO.idb hi_2 ht_5
                      refine pg_iast hx hb hK hP hD hS hi_2 0 hF_374 rfl (vp_in_nI (by omega) (by omega)) dX13_read_209 (fun H locs hP hD hS => ?_)
                      obtain ⟨F_376, he_377, hP, hD, hO, hR⟩ : ∃ G, G = va_up F_365 y1 (.inl (cs 16, 40, .inl (upd f_373 ((nI zz)).toNatClampNeg ((nI ee))))) ∧ va_P (dC, dI) vwCl (va_pl L G) H ∧ va_D A (va_pl L G) ∧ OKm cs ty gm L G ∧ FR ty [ρ] F G := ⟨_, rfl, hP, hD, hO.up (shm.idb ht_5 ⟨_, rfl, ixb_upd hq_375 _ _ (by omega)⟩), hR.up ht_5 (by simp)⟩
                      have hF_378 : F_376 y1 = .inl (cs 16, 40, .inl (upd f_373 ((nI zz)).toNatClampNeg ((nI ee)))) := by rw [he_377]; exact up_self
                      have hF_379 : F_376 tx = .inr (14, [.ref tbx, .int (nI zx)]) := by rw [he_377, up_ne (ne_ty hT_tx ht_5 (by simp))]; exact hF_368
                      have hF_380 : F_376 tbx = .inl (cs 17, n, .inl f_234) := by rw [he_377, up_ne (ne_ty ht_10 ht_5 (by simp))]; exact hF_369
                      have hF_381 : F_376 h0 = .inr (13, [.ref tx, .ref y0, .ref y1, .ref y2, .int (nI zz)]) := by rw [he_377, up_ne (ne_ty hT_h0 ht_5 (by simp))]; exact hF_370
                      obtain ⟨f_382, hF_378, hq_383⟩ : ∃ f : Nat → Int32, F_376 y1 = .inl (cs 16, 40, .inl f) ∧ IXB Bn f := ⟨_, hF_378, ixb_upd hq_375 _ _ (by omega)⟩
                      refine lv_aload_n hx hb dX13_read_210 rfl (lv_at hl 4 rfl) ?_
                      refine pg_get (ci := 13) (v := .ref y2) (C := RX13) (T := TX13) (N := 5) hx hb hts it_13 hown hK hP hL_h0 hF_381 rfl 3 (by decide) (hts _ kt_833) (fun _ h9 => h9) rfl dX13_read_211 ?_
                      refine lv_aload_n hx hb dX13_read_214 rfl (lv_at hl 4 rfl) ?_
                      refine pg_get (ci := 13) (v := .int (nI zz)) (C := RX13) (T := TX13) (N := 5) hx hb hts it_13 hown hK hP hL_h0 hF_381 rfl 4 (by decide) (hts _ kt_823) (fun _ h9 => h9) rfl dX13_read_215 ?_
                      refine lv_iload_n hx hb dX13_read_218 rfl (lv_at hl 2 rfl) ?_
                      obtain ⟨f_384, hF_385, hq_386⟩ := hO.idb hi_3 ht_6
                      refine pg_iast hx hb hK hP hD hS hi_3 0 hF_385 rfl (vp_in_nI (by omega) (by omega)) dX13_read_219 (fun H locs hP hD hS => ?_)
                      obtain ⟨F_387, he_388, hP, hD, hO, hR⟩ : ∃ G, G = va_up F_376 y2 (.inl (cs 16, 40, .inl (upd f_384 ((nI zz)).toNatClampNeg ((nI i))))) ∧ va_P (dC, dI) vwCl (va_pl L G) H ∧ va_D A (va_pl L G) ∧ OKm cs ty gm L G ∧ FR ty [ρ] F G := ⟨_, rfl, hP, hD, hO.up (shm.idb ht_6 ⟨_, rfl, ixb_upd hq_386 _ _ (by omega)⟩), hR.up ht_6 (by simp)⟩
                      have hF_389 : F_387 y2 = .inl (cs 16, 40, .inl (upd f_384 ((nI zz)).toNatClampNeg ((nI i)))) := by rw [he_388]; exact up_self
                      have hF_390 : F_387 tx = .inr (14, [.ref tbx, .int (nI zx)]) := by rw [he_388, up_ne (ne_ty hT_tx ht_6 (by simp))]; exact hF_379
                      have hF_391 : F_387 tbx = .inl (cs 17, n, .inl f_234) := by rw [he_388, up_ne (ne_ty ht_10 ht_6 (by simp))]; exact hF_380
                      have hF_392 : F_387 h0 = .inr (13, [.ref tx, .ref y0, .ref y1, .ref y2, .int (nI zz)]) := by rw [he_388, up_ne (ne_ty hT_h0 ht_6 (by simp))]; exact hF_381
                      obtain ⟨f_393, hF_389, hq_394⟩ : ∃ f : Nat → Int32, F_387 y2 = .inl (cs 16, 40, .inl f) ∧ IXB Bn f := ⟨_, hF_389, ixb_upd hq_386 _ _ (by omega)⟩
                      refine lv_aload_n hx hb dX13_read_220 rfl (lv_at hl 4 rfl) ?_
                      refine lv_dup hx hb dX13_read_221 rfl ?_
                      refine pg_get (ci := 13) (v := .int (nI zz)) (C := RX13) (T := TX13) (N := 5) hx hb hts it_13 hown hK hP hL_h0 hF_392 rfl 4 (by decide) (hts _ kt_823) (fun _ h9 => h9) rfl dX13_read_222 ?_
                      refine lv_iconst (v := 1) hx hb dX13_read_225 (by decide) ?_
                      refine lv_iadd hx hb dX13_read_226 ?_
                      refine lv_topi (fun x_395 ex_395 => ?_)
                      obtain rfl : x_395 = (nI (zz + 1)) := ex_395.trans (nI_add zz 1)
                      refine pg_put (ci := 13) (v := .int (nI (zz + 1))) (ty := .int) (C := RX13) (T := TX13) (N := 5) hx hb hts it_13 tyX13 tyX13_ok nmX13 hown hK hP hD hS hL_h0 hF_392 rfl 4 (by decide) (hts _ kt_823) (fun _ h9 => h9) rfl (by decide +kernel) (rfl) (rfl) (Nat.le_of_ble_eq_true rfl) dX13_read_227 (fun H locs hP hD hS => ?_)
                      obtain ⟨F_396, he_397, hP, hD, hO, hR⟩ : ∃ G, G = va_up F_387 h0 (.inr (13, [.ref tx, .ref y0, .ref y1, .ref y2, .int (nI (zz + 1))])) ∧ va_P (dC, dI) vwCl (va_pl L G) H ∧ va_D A (va_pl L G) ∧ OKm cs ty gm L G ∧ FR ty [ρ] F G := ⟨_, rfl, hP, hD, hO.up (shm.tags hT_h0 ⟨(zz + 1), rfl, (by first | omega | assumption | exact Or.inl rfl | exact Or.inr rfl)⟩), hR.up hT_h0 (by simp)⟩
                      have hF_398 : F_396 h0 = .inr (13, [.ref tx, .ref y0, .ref y1, .ref y2, .int (nI (zz + 1))]) := by rw [he_397]; exact up_self
                      have hF_399 : F_396 y2 = .inl (cs 16, 40, .inl f_393) := by rw [he_397, up_ne (ne_ty ht_6 hT_h0 (by simp))]; exact hF_389
                      have hF_400 : F_396 tx = .inr (14, [.ref tbx, .int (nI zx)]) := by rw [he_397, up_ne (ne_ty hT_tx hT_h0 (by simp))]; exact hF_390
                      have hF_401 : F_396 tbx = .inl (cs 17, n, .inl f_234) := by rw [he_397, up_ne (ne_ty ht_10 hT_h0 (by simp))]; exact hF_391
                      refine lv_iload_n hx hb dX13_read_230 rfl (lv_at hl 2 rfl) ?_
                      refine lv_iconst (v := 1) hx hb dX13_read_231 (by decide) ?_
                      refine lv_iadd hx hb dX13_read_232 ?_
                      refine lv_topi (fun x_402 ex_402 => ?_)
                      obtain rfl : x_402 = (nI (i + 1)) := ex_402.trans (nI_add i 1)
                      refine lv_istore_n (lv' := [(2, .int (nI (i + 1))), (5, .int (nI kk)), (4, .int (nI ee)), (3, .int (nI i)), (0, .ref h0), (1, .int x1)]) hx hb dX13_read_233 rfl hl (by decide) rfl (fun ls hl => ?_)
                      refine lv_goto (tgt := 7) hx hb dX13_read_234 (by decide) ?_
                      refine W.widen (k := 0) (n := 0) (by omega) (by omega) ?_
                      exact ih_22 ((i + 1), (zz + 1)) F_396 (⟨by omega, by omega, hF_398⟩) (by show zx + 1 - (i + 1) < zx + 1 - j; omega) hO hR _ _ hP hD hS ls (lv_sub hl [0, 4, 5] rfl)
                    ·
                      have hi_403 : kk < zz := ltN (N := zz) c_360
                      refine lv_aload_n hx hb dX13_read_140 rfl (lv_at hl 4 rfl) ?_
                      refine pg_get (ci := 13) (v := .ref y1) (C := RX13) (T := TX13) (N := 5) hx hb hts it_13 hown hK hP hL_h0 hd2 rfl 2 (by decide) (hts _ kt_827) (fun _ h9 => h9) rfl dX13_read_141 ?_
                      refine lv_iload hx hb dX13_read_144 (lv_at hl 0 rfl) ?_
                      obtain ⟨f_404, hF_405, hq_406⟩ := hO.idb hi_2 ht_5
                      refine pg_iald hx hb hK hP hi_2 0 hF_405 rfl (vp_in_nI (by omega) (by omega)) dX13_read_146 ?_
                      obtain ⟨k_407, hk_408, ek_409⟩ := hq_406 ((nI kk) : Int32).toNatClampNeg
                      refine lv_topi (fun x_410 ex_410 => ?_)
                      obtain rfl : x_410 = nI k_407 := ex_410.trans ek_409
                      refine lv_aload_n hx hb dX13_read_147 rfl (lv_at hl 4 rfl) ?_
                      refine pg_get (ci := 13) (v := .ref y0) (C := RX13) (T := TX13) (N := 5) hx hb hts it_13 hown hK hP hL_h0 hd2 rfl 1 (by decide) (hts _ kt_826) (fun _ h9 => h9) rfl dX13_read_148 ?_
                      refine lv_iload hx hb dX13_read_151 (lv_at hl 0 rfl) ?_
                      obtain ⟨f_411, hF_412, hq_413⟩ := hO.idb hi_1 ht_4
                      refine pg_iald hx hb hK hP hi_1 0 hF_412 rfl (vp_in_nI (by omega) (by omega)) dX13_read_153 ?_
                      obtain ⟨k_414, hk_415, ek_416⟩ := hq_413 ((nI kk) : Int32).toNatClampNeg
                      refine lv_topi (fun x_417 ex_417 => ?_)
                      obtain rfl : x_417 = nI k_414 := ex_417.trans ek_416
                      refine lv_isub hx hb dX13_read_154 ?_
                      refine lv_topi (fun x_418 ex_418 => ?_)
                      obtain rfl : x_418 = ((nI k_407) - (nI k_414)) := ex_418.trans (rfl)
                      refine lv_iload hx hb dX13_read_155 (lv_at hl 1 rfl) ?_
                      refine lv_iload_n hx hb dX13_read_157 rfl (lv_at hl 3 rfl) ?_
                      refine lv_isub hx hb dX13_read_158 ?_
                      refine lv_topi (fun x_419 ex_419 => ?_)
                      obtain rfl : x_419 = (nI (ee - j)) := ex_419.trans (pk_sub (a := ee) (b := j) (by omega))
                      refine lv_icmp_ne (tgt := 183) hx hb dX13_read_159 (by decide) (fun c_420 => ?_) (fun c_420 => ?_)
                      ·
                        refine lv_iinc (v := (nI (kk + 1))) (lv' := [(5, .int (nI (kk + 1))), (4, .int (nI ee)), (3, .int (nI i)), (2, .int (nI j)), (0, .ref h0), (1, .int x1)]) hx hb dX13_read_183 hl (k := 0) rfl (nI_1 _) (by decide) rfl (fun ls hl => ?_)
                        refine lv_goto (tgt := 131) hx hb dX13_read_186 (by decide) ?_
                        refine W.widen (k := 0) (n := 0) (by omega) (by omega) ?_
                        exact ih_357 (kk + 1) F_353 (⟨by omega, hd2⟩) (by show 40 - (kk + 1) < 40 - kk; omega) hO hR _ _ hP hD hS ls (lv_sub hl [0, 1, 2, 3, 4, 5] rfl)
                      ·
                        have hsm := sub_eqN c_420 (by omega) (by omega) (by omega)
                        refine lv_aload_n hx hb dX13_read_162 rfl (lv_at hl 4 rfl) ?_
                        refine lv_aload_n hx hb dX13_read_163 rfl (lv_at hl 4 rfl) ?_
                        refine pg_get (ci := 13) (v := .ref y0) (C := RX13) (T := TX13) (N := 5) hx hb hts it_13 hown hK hP hL_h0 hd2 rfl 1 (by decide) (hts _ kt_826) (fun _ h9 => h9) rfl dX13_read_164 ?_
                        refine lv_iload hx hb dX13_read_167 (lv_at hl 0 rfl) ?_
                        refine pg_iald hx hb hK hP hi_1 0 hF_412 rfl (vp_in_nI (by omega) (by omega)) dX13_read_169 ?_
                        refine lv_topi (fun x_421 ex_421 => ?_)
                        obtain rfl : x_421 = nI k_414 := ex_421.trans ek_416
                        refine lv_iload_n hx hb dX13_read_170 rfl (lv_at hl 3 rfl) ?_
                        refine lv_iload hx hb dX13_read_171 (lv_at hl 1 rfl) ?_
                        refine lv_iload_n hx hb dX13_read_173 rfl (lv_at hl 3 rfl) ?_
                        refine lv_isub hx hb dX13_read_174 ?_
                        refine lv_topi (fun x_422 ex_422 => ?_)
                        obtain rfl : x_422 = (nI (ee - j)) := ex_422.trans (pk_sub (a := ee) (b := j) (by omega))
                        have hFc := pg_free hD hS hA
                        refine va_calli (va_runV (As := [.int (nI k_414), .int (nI j), .int (nI (ee - j))]) (rest := []) ⟨hx, hb, hml, hown, hts⟩ (s_X13_isSame l dC dI cs ty gm L H.size F_353 h0 ρ tx n Bn y0 y1 y2 tbx k_414 j (ee - j) hW hL_h0 hT_h0 hL_tx hT_tx (by first | omega | assumption) (by first | omega | assumption)) ⟨callB_of 3 hts (gi kt_835) rfl rfl rfl (hts _ kt_829) (hts _ kt_836) (by decide +kernel) ⟨Nat.le_of_ble_eq_true rfl, Nat.le_of_ble_eq_true rfl⟩, (hts _ kt_837), (hts _ kt_838)⟩ ⟨fun a U g mk q => ⟨q.1, PTm.calling q.2⟩, pg_recv hK hP hL_h0 hd2 (q := (RX13, TX13, 5)) rfl, fun U hU hWm => ⟨rfl, PTm.mk hU hWm hP hK hD hE hO⟩⟩ rfl rfl hl.1 rfl (lv_room (Nat.le_of_ble_eq_true rfl)) dX13_read_175 ⟨by show _ + 0 ≤ 0; omega, by show _ + 0 ≤ 0; omega⟩) hS (fun q _ h => hFc q h) hFc (fun r_423 u t H1 locs ht hvm hw hB hz1 hk1 hS => ?_)
                        obtain ⟨F_424, hB1⟩ := hB
                        obtain rfl : F_353 = F_424 := (funext (fun a => hB1.2.2.2 a List.not_mem_nil)).symm
                        obtain ⟨hP, hD, hO, hR⟩ := QTm.back hB1 ht hFc hR (fun q h => absurd h List.not_mem_nil)
                        generalize H1 = H at hP hS ⊢
                        have hw : (r_423 = 0 ∨ r_423 = 1) := hw
                        have hw_425 := hw
                        refine lv_if_eq (tgt := 183) hx hb dX13_read_178 (by decide) (fun c_426 => ?_) (fun c_426 => ?_)
                        ·
                          refine lv_iinc (v := (nI (kk + 1))) (lv' := [(5, .int (nI (kk + 1))), (4, .int (nI ee)), (3, .int (nI i)), (2, .int (nI j)), (0, .ref h0), (1, .int x1)]) hx hb dX13_read_183 hl (k := 0) rfl (nI_1 _) (by decide) rfl (fun ls hl => ?_)
                          refine lv_goto (tgt := 131) hx hb dX13_read_186 (by decide) ?_
                          refine W.widen (k := 0) (n := 0) (by omega) (by omega) ?_
                          exact ih_357 (kk + 1) F_353 (⟨by omega, hd2⟩) (by show 40 - (kk + 1) < 40 - kk; omega) hO hR _ _ hP hD hS ls (lv_sub hl [0, 1, 2, 3, 4, 5] rfl)
                        ·
                          refine lv_iconst (v := 0) hx hb dX13_read_181 (by decide) ?_
                          refine W.widen (k := 0) (n := 0) (by omega) (by omega) ?_
                          exact W.zret (v := 0) (ty := .boolean) hx hb hr (by decide) (fun t ht hWm => ⟨⟨0, (), rfl, (by first | exact Or.inl rfl | exact Or.inr rfl), ⟨F_353, zz, QTm.mk ht hP hD hO hR, hd2, by omega⟩⟩, hS.F ht⟩) hS.2.2 dX13_read_182
                  ·
                    have hi_427 : zz = 40 := (nI_eq (a := zz) (b := 40) (by omega) (by omega)).mp c_351
                    refine lv_iconst (v := 0) hx hb dX13_read_126 (by decide) ?_
                    refine W.widen (k := 0) (n := 0) (by omega) (by omega) ?_
                    exact W.zret (v := 0) (ty := .boolean) hx hb hr (by decide) (fun t ht hWm => ⟨⟨0, (), rfl, (by first | exact Or.inl rfl | exact Or.inr rfl), ⟨F_239, zz, QTm.mk ht hP hD hO hR, hc3, by omega⟩⟩, hS.F ht⟩) hS.2.2 dX13_read_127
          ·
            refine lv_iinc (v := (nI (ee + 1))) (lv' := [(4, .int (nI (ee + 1))), (3, .int (nI i)), (2, .int (nI j)), (0, .ref h0), (1, .int x1)]) hx hb dX13_read_76 hl (k := 0) rfl (nI_1 _) (by decide) rfl (fun ls hl => ?_)
            refine lv_goto (tgt := 54) hx hb dX13_read_79 (by decide) ?_
            refine W.widen (k := 0) (n := 0) (by omega) (by omega) ?_
            exact ih_243 (ee + 1) F_239 (⟨by omega, by omega, hc3⟩) (by show i - (ee + 1) < i - ee; omega) hO hR _ _ hP hD hS ls (lv_sub hl [0, 1, 2, 3, 4] rfl)
      ·
        refine lv_iinc (v := (nI (i + 1))) (lv' := [(3, .int (nI (i + 1))), (4, .int (nI j)), (2, .int (nI j)), (0, .ref h0), (1, .int x1)]) hx hb dX13_read_48 hl (k := 1) rfl (nI_1 _) (by decide) rfl (fun ls hl => ?_)
        refine lv_goto (tgt := 23) hx hb dX13_read_51 (by decide) ?_
        refine W.widen (k := 0) (n := 0) (by omega) (by omega) ?_
        exact ih_30 (i + 1) F_27 (⟨by omega, by omega, hb3⟩) (by show zx - (i + 1) < zx - i; omega) hO hR _ _ hP hD hS ls (lv_sub hl [1, 0, 2, 3, 4] rfl)
