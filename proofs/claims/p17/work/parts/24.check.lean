theorem dX1_check_0 : decode cX1_check 0 = .ok (.iload_n 1, 1) := by decide +kernel
theorem dX1_check_1 : decode cX1_check 1 = .ok (.bipush 11, 2) := by decide +kernel
theorem dX1_check_3 : decode cX1_check 3 = .ok (.if_icmp .lt 6, 3) := by decide +kernel
theorem dX1_check_6 : decode cX1_check 6 = .ok (.bipush 6, 2) := by decide +kernel
theorem dX1_check_8 : decode cX1_check 8 = .ok (.ireturn, 1) := by decide +kernel
theorem dX1_check_9 : decode cX1_check 9 = .ok (.aload_n 0, 1) := by decide +kernel
theorem dX1_check_10 : decode cX1_check 10 = .ok (.getfield 53, 3) := by decide +kernel
theorem dX1_check_13 : decode cX1_check 13 = .ok (.iconst 3, 1) := by decide +kernel
theorem dX1_check_14 : decode cX1_check 14 = .ok (.aload_n 0, 1) := by decide +kernel
theorem dX1_check_15 : decode cX1_check 15 = .ok (.getfield 29, 3) := by decide +kernel
theorem dX1_check_18 : decode cX1_check 18 = .ok (.iload_n 1, 1) := by decide +kernel
theorem dX1_check_19 : decode cX1_check 19 = .ok (.aaload, 1) := by decide +kernel
theorem dX1_check_20 : decode cX1_check 20 = .ok (.invokevirtual 106, 3) := by decide +kernel
theorem dX1_check_23 : decode cX1_check 23 = .ok (.ifCond .eq 5, 3) := by decide +kernel
theorem dX1_check_26 : decode cX1_check 26 = .ok (.iconst 5, 1) := by decide +kernel
theorem dX1_check_27 : decode cX1_check 27 = .ok (.ireturn, 1) := by decide +kernel
theorem dX1_check_28 : decode cX1_check 28 = .ok (.aload_n 0, 1) := by decide +kernel
theorem dX1_check_29 : decode cX1_check 29 = .ok (.getfield 53, 3) := by decide +kernel
theorem dX1_check_32 : decode cX1_check 32 = .ok (.aload_n 0, 1) := by decide +kernel
theorem dX1_check_33 : decode cX1_check 33 = .ok (.getfield 29, 3) := by decide +kernel
theorem dX1_check_36 : decode cX1_check 36 = .ok (.iload_n 1, 1) := by decide +kernel
theorem dX1_check_37 : decode cX1_check 37 = .ok (.aaload, 1) := by decide +kernel
theorem dX1_check_38 : decode cX1_check 38 = .ok (.ldc 110, 2) := by decide +kernel
theorem dX1_check_40 : decode cX1_check 40 = .ok (.iconst 1, 1) := by decide +kernel
theorem dX1_check_41 : decode cX1_check 41 = .ok (.invokevirtual 112, 3) := by decide +kernel
theorem dX1_check_44 : decode cX1_check 44 = .ok (.istore_n 2, 1) := by decide +kernel
theorem dX1_check_45 : decode cX1_check 45 = .ok (.iload_n 2, 1) := by decide +kernel
theorem dX1_check_46 : decode cX1_check 46 = .ok (.ifCond .ge 15, 3) := by decide +kernel
theorem dX1_check_49 : decode cX1_check 49 = .ok (.iload_n 2, 1) := by decide +kernel
theorem dX1_check_50 : decode cX1_check 50 = .ok (.iconst (-1), 1) := by decide +kernel
theorem dX1_check_51 : decode cX1_check 51 = .ok (.if_icmp .ne 7, 3) := by decide +kernel
theorem dX1_check_54 : decode cX1_check 54 = .ok (.iconst 0, 1) := by decide +kernel
theorem dX1_check_55 : decode cX1_check 55 = .ok (.goto 5, 3) := by decide +kernel
theorem dX1_check_58 : decode cX1_check 58 = .ok (.bipush 6, 2) := by decide +kernel
theorem dX1_check_60 : decode cX1_check 60 = .ok (.ireturn, 1) := by decide +kernel
theorem dX1_check_61 : decode cX1_check 61 = .ok (.aload_n 0, 1) := by decide +kernel
theorem dX1_check_62 : decode cX1_check 62 = .ok (.getfield 53, 3) := by decide +kernel
theorem dX1_check_65 : decode cX1_check 65 = .ok (.iload_n 2, 1) := by decide +kernel
theorem dX1_check_66 : decode cX1_check 66 = .ok (.invokevirtual 116, 3) := by decide +kernel
theorem dX1_check_69 : decode cX1_check 69 = .ok (.astore_n 3, 1) := by decide +kernel
theorem dX1_check_70 : decode cX1_check 70 = .ok (.aload_n 0, 1) := by decide +kernel
theorem dX1_check_71 : decode cX1_check 71 = .ok (.getfield 35, 3) := by decide +kernel
theorem dX1_check_74 : decode cX1_check 74 = .ok (.iload_n 1, 1) := by decide +kernel
theorem dX1_check_75 : decode cX1_check 75 = .ok (.aaload, 1) := by decide +kernel
theorem dX1_check_76 : decode cX1_check 76 = .ok (.astore 4, 2) := by decide +kernel
theorem dX1_check_78 : decode cX1_check 78 = .ok (.aload_n 3, 1) := by decide +kernel
theorem dX1_check_79 : decode cX1_check 79 = .ok (.aload 4, 2) := by decide +kernel
theorem dX1_check_81 : decode cX1_check 81 = .ok (.invokestatic 120, 3) := by decide +kernel
theorem dX1_check_84 : decode cX1_check 84 = .ok (.istore 5, 2) := by decide +kernel
theorem dX1_check_86 : decode cX1_check 86 = .ok (.iload 5, 2) := by decide +kernel
theorem dX1_check_88 : decode cX1_check 88 = .ok (.iconst (-1), 1) := by decide +kernel
theorem dX1_check_89 : decode cX1_check 89 = .ok (.if_icmp .ne 6, 3) := by decide +kernel
theorem dX1_check_92 : decode cX1_check 92 = .ok (.bipush 6, 2) := by decide +kernel
theorem dX1_check_94 : decode cX1_check 94 = .ok (.ireturn, 1) := by decide +kernel
theorem dX1_check_95 : decode cX1_check 95 = .ok (.ldc 110, 2) := by decide +kernel
theorem dX1_check_97 : decode cX1_check 97 = .ok (.invokevirtual 124, 3) := by decide +kernel
theorem dX1_check_100 : decode cX1_check 100 = .ok (.iconst 1, 1) := by decide +kernel
theorem dX1_check_101 : decode cX1_check 101 = .ok (.iadd, 1) := by decide +kernel
theorem dX1_check_102 : decode cX1_check 102 = .ok (.istore 6, 2) := by decide +kernel
theorem dX1_check_104 : decode cX1_check 104 = .ok (.iload 6, 2) := by decide +kernel
theorem dX1_check_106 : decode cX1_check 106 = .ok (.aload_n 3, 1) := by decide +kernel
theorem dX1_check_107 : decode cX1_check 107 = .ok (.getfield 58, 3) := by decide +kernel
theorem dX1_check_110 : decode cX1_check 110 = .ok (.if_icmp .ge 74, 3) := by decide +kernel
theorem dX1_check_113 : decode cX1_check 113 = .ok (.aload_n 3, 1) := by decide +kernel
theorem dX1_check_114 : decode cX1_check 114 = .ok (.iload 6, 2) := by decide +kernel
theorem dX1_check_116 : decode cX1_check 116 = .ok (.invokestatic 130, 3) := by decide +kernel
theorem dX1_check_119 : decode cX1_check 119 = .ok (.ifCond .ne 6, 3) := by decide +kernel
theorem dX1_check_122 : decode cX1_check 122 = .ok (.goto 56, 3) := by decide +kernel
theorem dX1_check_125 : decode cX1_check 125 = .ok (.aload 4, 2) := by decide +kernel
theorem dX1_check_127 : decode cX1_check 127 = .ok (.aload_n 3, 1) := by decide +kernel
theorem dX1_check_128 : decode cX1_check 128 = .ok (.iload 6, 2) := by decide +kernel
theorem dX1_check_130 : decode cX1_check 130 = .ok (.aload_n 3, 1) := by decide +kernel
theorem dX1_check_131 : decode cX1_check 131 = .ok (.bipush 32, 2) := by decide +kernel
theorem dX1_check_133 : decode cX1_check 133 = .ok (.iload 6, 2) := by decide +kernel
theorem dX1_check_135 : decode cX1_check 135 = .ok (.aload_n 3, 1) := by decide +kernel
theorem dX1_check_136 : decode cX1_check 136 = .ok (.getfield 58, 3) := by decide +kernel
theorem dX1_check_139 : decode cX1_check 139 = .ok (.invokevirtual 61, 3) := by decide +kernel
theorem dX1_check_142 : decode cX1_check 142 = .ok (.invokevirtual 133, 3) := by decide +kernel
theorem dX1_check_145 : decode cX1_check 145 = .ok (.aload_n 0, 1) := by decide +kernel
theorem dX1_check_146 : decode cX1_check 146 = .ok (.aload_n 3, 1) := by decide +kernel
theorem dX1_check_147 : decode cX1_check 147 = .ok (.iload_n 1, 1) := by decide +kernel
theorem dX1_check_148 : decode cX1_check 148 = .ok (.invokevirtual 136, 3) := by decide +kernel
theorem dX1_check_151 : decode cX1_check 151 = .ok (.istore 7, 2) := by decide +kernel
theorem dX1_check_153 : decode cX1_check 153 = .ok (.iload 7, 2) := by decide +kernel
theorem dX1_check_155 : decode cX1_check 155 = .ok (.ifCond .eq 23, 3) := by decide +kernel
theorem dX1_check_158 : decode cX1_check 158 = .ok (.iload 7, 2) := by decide +kernel
theorem dX1_check_160 : decode cX1_check 160 = .ok (.iconst 2, 1) := by decide +kernel
theorem dX1_check_161 : decode cX1_check 161 = .ok (.if_icmp .ne 14, 3) := by decide +kernel
theorem dX1_check_164 : decode cX1_check 164 = .ok (.aload 4, 2) := by decide +kernel
theorem dX1_check_166 : decode cX1_check 166 = .ok (.getfield 140, 3) := by decide +kernel
theorem dX1_check_169 : decode cX1_check 169 = .ok (.invokestatic 143, 3) := by decide +kernel
theorem dX1_check_172 : decode cX1_check 172 = .ok (.goto 5, 3) := by decide +kernel
theorem dX1_check_175 : decode cX1_check 175 = .ok (.iload 7, 2) := by decide +kernel
theorem dX1_check_177 : decode cX1_check 177 = .ok (.ireturn, 1) := by decide +kernel
theorem dX1_check_178 : decode cX1_check 178 = .ok (.iinc 6 1, 3) := by decide +kernel
theorem dX1_check_181 : decode cX1_check 181 = .ok (.goto (-77), 3) := by decide +kernel
theorem dX1_check_184 : decode cX1_check 184 = .ok (.iload 5, 2) := by decide +kernel
theorem dX1_check_186 : decode cX1_check 186 = .ok (.ifCond .ne 5, 3) := by decide +kernel
theorem dX1_check_189 : decode cX1_check 189 = .ok (.iconst 1, 1) := by decide +kernel
theorem dX1_check_190 : decode cX1_check 190 = .ok (.ireturn, 1) := by decide +kernel
theorem dX1_check_191 : decode cX1_check 191 = .ok (.aload 4, 2) := by decide +kernel
theorem dX1_check_193 : decode cX1_check 193 = .ok (.aload_n 3, 1) := by decide +kernel
theorem dX1_check_194 : decode cX1_check 194 = .ok (.iload 5, 2) := by decide +kernel
theorem dX1_check_196 : decode cX1_check 196 = .ok (.aload_n 3, 1) := by decide +kernel
theorem dX1_check_197 : decode cX1_check 197 = .ok (.bipush 32, 2) := by decide +kernel
theorem dX1_check_199 : decode cX1_check 199 = .ok (.iload 5, 2) := by decide +kernel
theorem dX1_check_201 : decode cX1_check 201 = .ok (.aload_n 3, 1) := by decide +kernel
theorem dX1_check_202 : decode cX1_check 202 = .ok (.getfield 58, 3) := by decide +kernel
theorem dX1_check_205 : decode cX1_check 205 = .ok (.invokevirtual 61, 3) := by decide +kernel
theorem dX1_check_208 : decode cX1_check 208 = .ok (.invokevirtual 133, 3) := by decide +kernel
theorem dX1_check_211 : decode cX1_check 211 = .ok (.aload_n 0, 1) := by decide +kernel
theorem dX1_check_212 : decode cX1_check 212 = .ok (.aload_n 3, 1) := by decide +kernel
theorem dX1_check_213 : decode cX1_check 213 = .ok (.iload_n 1, 1) := by decide +kernel
theorem dX1_check_214 : decode cX1_check 214 = .ok (.invokevirtual 146, 3) := by decide +kernel
theorem dX1_check_217 : decode cX1_check 217 = .ok (.ireturn, 1) := by decide +kernel
theorem dX1_follow_0 : decode cX1_follow 0 = .ok (.aload_n 0, 1) := by decide +kernel
theorem dX1_follow_1 : decode cX1_follow 1 = .ok (.invokevirtual 152, 3) := by decide +kernel
theorem dX1_follow_4 : decode cX1_follow 4 = .ok (.ifCond .eq 6, 3) := by decide +kernel
theorem dX1_follow_7 : decode cX1_follow 7 = .ok (.bipush 6, 2) := by decide +kernel
theorem dX1_follow_9 : decode cX1_follow 9 = .ok (.ireturn, 1) := by decide +kernel
theorem dX1_follow_10 : decode cX1_follow 10 = .ok (.aload_n 0, 1) := by decide +kernel
theorem dX1_follow_11 : decode cX1_follow 11 = .ok (.aload_n 1, 1) := by decide +kernel
theorem dX1_follow_12 : decode cX1_follow 12 = .ok (.iload_n 2, 1) := by decide +kernel
theorem dX1_follow_13 : decode cX1_follow 13 = .ok (.invokevirtual 156, 3) := by decide +kernel
theorem dX1_follow_16 : decode cX1_follow 16 = .ok (.aload_n 0, 1) := by decide +kernel
theorem dX1_follow_17 : decode cX1_follow 17 = .ok (.iload_n 2, 1) := by decide +kernel
theorem dX1_follow_18 : decode cX1_follow 18 = .ok (.iconst 1, 1) := by decide +kernel
theorem dX1_follow_19 : decode cX1_follow 19 = .ok (.iadd, 1) := by decide +kernel
theorem dX1_follow_20 : decode cX1_follow 20 = .ok (.invokevirtual 101, 3) := by decide +kernel
theorem dX1_follow_23 : decode cX1_follow 23 = .ok (.istore_n 3, 1) := by decide +kernel
theorem dX1_follow_24 : decode cX1_follow 24 = .ok (.iload_n 3, 1) := by decide +kernel
theorem dX1_follow_25 : decode cX1_follow 25 = .ok (.ifCond .ne 8, 3) := by decide +kernel
theorem dX1_follow_28 : decode cX1_follow 28 = .ok (.bipush 6, 2) := by decide +kernel
theorem dX1_follow_30 : decode cX1_follow 30 = .ok (.goto 4, 3) := by decide +kernel
theorem dX1_follow_33 : decode cX1_follow 33 = .ok (.iload_n 3, 1) := by decide +kernel
theorem dX1_follow_34 : decode cX1_follow 34 = .ok (.ireturn, 1) := by decide +kernel
theorem dX1_judge_0 : decode cX1_judge 0 = .ok (.aload_n 0, 1) := by decide +kernel
theorem dX1_judge_1 : decode cX1_judge 1 = .ok (.iconst 0, 1) := by decide +kernel
theorem dX1_judge_2 : decode cX1_judge 2 = .ok (.putfield 47, 3) := by decide +kernel
theorem dX1_judge_5 : decode cX1_judge 5 = .ok (.aload_n 0, 1) := by decide +kernel
theorem dX1_judge_6 : decode cX1_judge 6 = .ok (.iconst 0, 1) := by decide +kernel
theorem dX1_judge_7 : decode cX1_judge 7 = .ok (.putfield 50, 3) := by decide +kernel
theorem dX1_judge_10 : decode cX1_judge 10 = .ok (.aload_n 0, 1) := by decide +kernel
theorem dX1_judge_11 : decode cX1_judge 11 = .ok (.getfield 29, 3) := by decide +kernel
theorem dX1_judge_14 : decode cX1_judge 14 = .ok (.iconst 0, 1) := by decide +kernel
theorem dX1_judge_15 : decode cX1_judge 15 = .ok (.aaload, 1) := by decide +kernel
theorem dX1_judge_16 : decode cX1_judge 16 = .ok (.aload_n 0, 1) := by decide +kernel
theorem dX1_judge_17 : decode cX1_judge 17 = .ok (.getfield 23, 3) := by decide +kernel
theorem dX1_judge_20 : decode cX1_judge 20 = .ok (.invokevirtual 73, 3) := by decide +kernel
theorem dX1_judge_23 : decode cX1_judge 23 = .ok (.aload_n 0, 1) := by decide +kernel
theorem dX1_judge_24 : decode cX1_judge 24 = .ok (.iconst 0, 1) := by decide +kernel
theorem dX1_judge_25 : decode cX1_judge 25 = .ok (.invokevirtual 101, 3) := by decide +kernel
theorem dX1_judge_28 : decode cX1_judge 28 = .ok (.ireturn, 1) := by decide +kernel
theorem dX1_match_0 : decode cX1_match 0 = .ok (.aload_n 0, 1) := by decide +kernel
theorem dX1_match_1 : decode cX1_match 1 = .ok (.getfield 35, 3) := by decide +kernel
theorem dX1_match_4 : decode cX1_match 4 = .ok (.iload_n 2, 1) := by decide +kernel
theorem dX1_match_5 : decode cX1_match 5 = .ok (.aaload, 1) := by decide +kernel
theorem dX1_match_6 : decode cX1_match 6 = .ok (.astore_n 3, 1) := by decide +kernel
theorem dX1_match_7 : decode cX1_match 7 = .ok (.aload_n 3, 1) := by decide +kernel
theorem dX1_match_8 : decode cX1_match 8 = .ok (.getfield 149, 3) := by decide +kernel
theorem dX1_match_11 : decode cX1_match 11 = .ok (.iconst 1, 1) := by decide +kernel
theorem dX1_match_12 : decode cX1_match 12 = .ok (.if_icmp .ne 5, 3) := by decide +kernel
theorem dX1_match_15 : decode cX1_match 15 = .ok (.iconst 2, 1) := by decide +kernel
theorem dX1_match_16 : decode cX1_match 16 = .ok (.ireturn, 1) := by decide +kernel
theorem dX1_match_17 : decode cX1_match 17 = .ok (.aload_n 3, 1) := by decide +kernel
theorem dX1_match_18 : decode cX1_match 18 = .ok (.getfield 149, 3) := by decide +kernel
theorem dX1_match_21 : decode cX1_match 21 = .ok (.iconst 5, 1) := by decide +kernel
theorem dX1_match_22 : decode cX1_match 22 = .ok (.if_icmp .ne 27, 3) := by decide +kernel
theorem dX1_match_25 : decode cX1_match 25 = .ok (.aload_n 0, 1) := by decide +kernel
theorem dX1_match_26 : decode cX1_match 26 = .ok (.getfield 39, 3) := by decide +kernel
theorem dX1_match_29 : decode cX1_match 29 = .ok (.aload_n 3, 1) := by decide +kernel
theorem dX1_match_30 : decode cX1_match 30 = .ok (.getfield 160, 3) := by decide +kernel
theorem dX1_match_33 : decode cX1_match 33 = .ok (.aload_n 3, 1) := by decide +kernel
theorem dX1_match_34 : decode cX1_match 34 = .ok (.getfield 161, 3) := by decide +kernel
theorem dX1_match_37 : decode cX1_match 37 = .ok (.invokestatic 164, 3) := by decide +kernel
theorem dX1_match_40 : decode cX1_match 40 = .ok (.ifCond .eq 7, 3) := by decide +kernel
theorem dX1_match_43 : decode cX1_match 43 = .ok (.iconst 2, 1) := by decide +kernel
theorem dX1_match_44 : decode cX1_match 44 = .ok (.goto 4, 3) := by decide +kernel
theorem dX1_match_47 : decode cX1_match 47 = .ok (.iconst 0, 1) := by decide +kernel
theorem dX1_match_48 : decode cX1_match 48 = .ok (.ireturn, 1) := by decide +kernel
theorem dX1_match_49 : decode cX1_match 49 = .ok (.aload_n 3, 1) := by decide +kernel
theorem dX1_match_50 : decode cX1_match 50 = .ok (.getfield 149, 3) := by decide +kernel
theorem dX1_match_53 : decode cX1_match 53 = .ok (.bipush 7, 2) := by decide +kernel
theorem dX1_match_55 : decode cX1_match 55 = .ok (.if_icmp .eq 12, 3) := by decide +kernel
theorem dX1_match_58 : decode cX1_match 58 = .ok (.aload_n 3, 1) := by decide +kernel
theorem dX1_match_59 : decode cX1_match 59 = .ok (.getfield 149, 3) := by decide +kernel
theorem dX1_match_62 : decode cX1_match 62 = .ok (.bipush 8, 2) := by decide +kernel
theorem dX1_match_64 : decode cX1_match 64 = .ok (.if_icmp .ne 5, 3) := by decide +kernel
theorem dX1_match_67 : decode cX1_match 67 = .ok (.iconst 0, 1) := by decide +kernel
theorem dX1_match_68 : decode cX1_match 68 = .ok (.ireturn, 1) := by decide +kernel
theorem dX1_match_69 : decode cX1_match 69 = .ok (.aload_n 0, 1) := by decide +kernel
theorem dX1_match_70 : decode cX1_match 70 = .ok (.invokevirtual 152, 3) := by decide +kernel
theorem dX1_match_73 : decode cX1_match 73 = .ok (.ifCond .eq 6, 3) := by decide +kernel
theorem dX1_match_76 : decode cX1_match 76 = .ok (.bipush 6, 2) := by decide +kernel
theorem dX1_match_78 : decode cX1_match 78 = .ok (.ireturn, 1) := by decide +kernel
theorem dX1_match_79 : decode cX1_match 79 = .ok (.aload_n 0, 1) := by decide +kernel
theorem dX1_match_80 : decode cX1_match 80 = .ok (.aload_n 1, 1) := by decide +kernel
theorem dX1_match_81 : decode cX1_match 81 = .ok (.iload_n 2, 1) := by decide +kernel
theorem dX1_match_82 : decode cX1_match 82 = .ok (.invokevirtual 156, 3) := by decide +kernel
theorem dX1_match_85 : decode cX1_match 85 = .ok (.aload_n 3, 1) := by decide +kernel
theorem dX1_match_86 : decode cX1_match 86 = .ok (.getfield 149, 3) := by decide +kernel
theorem dX1_match_89 : decode cX1_match 89 = .ok (.iconst 2, 1) := by decide +kernel
theorem dX1_match_90 : decode cX1_match 90 = .ok (.if_icmp .eq 17, 3) := by decide +kernel
theorem dX1_match_93 : decode cX1_match 93 = .ok (.aload_n 0, 1) := by decide +kernel
theorem dX1_match_94 : decode cX1_match 94 = .ok (.aload_n 3, 1) := by decide +kernel
theorem dX1_match_95 : decode cX1_match 95 = .ok (.aload_n 0, 1) := by decide +kernel
theorem dX1_match_96 : decode cX1_match 96 = .ok (.getfield 29, 3) := by decide +kernel
theorem dX1_match_99 : decode cX1_match 99 = .ok (.iload_n 2, 1) := by decide +kernel
theorem dX1_match_100 : decode cX1_match 100 = .ok (.iconst 1, 1) := by decide +kernel
theorem dX1_match_101 : decode cX1_match 101 = .ok (.iadd, 1) := by decide +kernel
theorem dX1_match_102 : decode cX1_match 102 = .ok (.aaload, 1) := by decide +kernel
theorem dX1_match_103 : decode cX1_match 103 = .ok (.invokevirtual 168, 3) := by decide +kernel
theorem dX1_match_106 : decode cX1_match 106 = .ok (.ireturn, 1) := by decide +kernel
theorem dX1_match_107 : decode cX1_match 107 = .ok (.aload_n 0, 1) := by decide +kernel
theorem dX1_match_108 : decode cX1_match 108 = .ok (.iload_n 2, 1) := by decide +kernel
theorem dX1_match_109 : decode cX1_match 109 = .ok (.iconst 1, 1) := by decide +kernel
theorem dX1_match_110 : decode cX1_match 110 = .ok (.iadd, 1) := by decide +kernel
theorem dX1_match_111 : decode cX1_match 111 = .ok (.invokevirtual 101, 3) := by decide +kernel
theorem dX1_match_114 : decode cX1_match 114 = .ok (.istore 4, 2) := by decide +kernel
theorem dX1_match_116 : decode cX1_match 116 = .ok (.iload 4, 2) := by decide +kernel
theorem dX1_match_118 : decode cX1_match 118 = .ok (.iconst 1, 1) := by decide +kernel
theorem dX1_match_119 : decode cX1_match 119 = .ok (.if_icmp .eq 15, 3) := by decide +kernel
theorem dX1_match_122 : decode cX1_match 122 = .ok (.iload 4, 2) := by decide +kernel
theorem dX1_match_124 : decode cX1_match 124 = .ok (.iconst 4, 1) := by decide +kernel
theorem dX1_match_125 : decode cX1_match 125 = .ok (.if_icmp .eq 9, 3) := by decide +kernel
theorem dX1_match_128 : decode cX1_match 128 = .ok (.iload 4, 2) := by decide +kernel
theorem dX1_match_130 : decode cX1_match 130 = .ok (.iconst 3, 1) := by decide +kernel
theorem dX1_match_131 : decode cX1_match 131 = .ok (.if_icmp .ne 5, 3) := by decide +kernel
theorem dX1_match_134 : decode cX1_match 134 = .ok (.iconst 0, 1) := by decide +kernel
theorem dX1_match_135 : decode cX1_match 135 = .ok (.ireturn, 1) := by decide +kernel
theorem dX1_match_136 : decode cX1_match 136 = .ok (.iload 4, 2) := by decide +kernel
theorem dX1_match_138 : decode cX1_match 138 = .ok (.ifCond .ne 8, 3) := by decide +kernel
theorem dX1_match_141 : decode cX1_match 141 = .ok (.bipush 6, 2) := by decide +kernel
theorem dX1_match_143 : decode cX1_match 143 = .ok (.goto 5, 3) := by decide +kernel
theorem dX1_match_146 : decode cX1_match 146 = .ok (.iload 4, 2) := by decide +kernel
theorem dX1_match_148 : decode cX1_match 148 = .ok (.ireturn, 1) := by decide +kernel
theorem kt_376 : Cond.code yX1_isCountedOut cX1_isCountedOut 1 (some .boolean) ∈ tb := tb_at (i := 737) (by decide +kernel) (by decide +kernel)
theorem kt_377 : Cond.methodLink RX1 152 yX1_isCountedOut ∈ tb := tb_at (i := 734) (by decide +kernel) (by decide +kernel)
theorem kt_378 : Cond.instanceMethod yX1_isCountedOut ∈ tb := tb_at (i := 736) (by decide +kernel) (by decide +kernel)
theorem kt_379 : Cond.selects RX1 yX1_isCountedOut yX1_isCountedOut ∈ tb := tb_at (i := 6) (by decide +kernel) (by decide +kernel)
theorem kt_380 : Cond.code yX1_expand cX1_expand 8 none ∈ tb := tb_at (i := 741) (by decide +kernel) (by decide +kernel)
theorem kt_381 : Cond.methodLink RX1 156 yX1_expand ∈ tb := tb_at (i := 738) (by decide +kernel) (by decide +kernel)
theorem kt_382 : Cond.instanceMethod yX1_expand ∈ tb := tb_at (i := 740) (by decide +kernel) (by decide +kernel)
theorem kt_383 : Cond.selects RX1 yX1_expand yX1_expand ∈ tb := tb_at (i := 7) (by decide +kernel) (by decide +kernel)
theorem kt_384 : Cond.code yX1_check cX1_check 8 (some .int) ∈ tb := tb_at (i := 600) (by decide +kernel) (by decide +kernel)
theorem kt_385 : Cond.methodLink RX1 101 yX1_check ∈ tb := tb_at (i := 597) (by decide +kernel) (by decide +kernel)
theorem kt_386 : Cond.instanceMethod yX1_check ∈ tb := tb_at (i := 599) (by decide +kernel) (by decide +kernel)
theorem kt_387 : Cond.selects RX1 yX1_check yX1_check ∈ tb := tb_at (i := 1) (by decide +kernel) (by decide +kernel)
theorem kt_388 : Cond.code yX1_look cX1_look 3 (some .int) ∈ tb := tb_at (i := 768) (by decide +kernel) (by decide +kernel)
theorem kt_389 : Cond.methodLink RX1 168 yX1_look ∈ tb := tb_at (i := 765) (by decide +kernel) (by decide +kernel)
theorem kt_390 : Cond.instanceMethod yX1_look ∈ tb := tb_at (i := 767) (by decide +kernel) (by decide +kernel)
theorem kt_391 : Cond.selects RX1 yX1_look yX1_look ∈ tb := tb_at (i := 10) (by decide +kernel) (by decide +kernel)
theorem kt_392 : Cond.methodLink RX1 164 yX10_isSameNet ∈ tb := tb_at (i := 731) (by decide +kernel) (by decide +kernel)
theorem kt_393 : Cond.code yX2_onlyText cX2_onlyText 7 (some .int) ∈ tb := tb_at (i := 613) (by decide +kernel) (by decide +kernel)
theorem kt_394 : Cond.methodLink RX1 112 yX2_onlyText ∈ tb := tb_at (i := 610) (by decide +kernel) (by decide +kernel)
theorem kt_395 : Cond.instanceMethod yX2_onlyText ∈ tb := tb_at (i := 611) (by decide +kernel) (by decide +kernel)
theorem kt_396 : Cond.selects RX2 yX2_onlyText yX2_onlyText ∈ tb := tb_at (i := 612) (by decide +kernel) (by decide +kernel)
theorem kt_397 : Cond.code yX1_readTerms cX1_readTerms 5 (some .int) ∈ tb := tb_at (i := 678) (by decide +kernel) (by decide +kernel)
theorem kt_398 : Cond.methodLink RX1 120 yX1_readTerms ∈ tb := tb_at (i := 676) (by decide +kernel) (by decide +kernel)
theorem kt_399 : Cond.static yX1_readTerms ∈ tb := tb_at (i := 677) (by decide +kernel) (by decide +kernel)
theorem kt_400 : Cond.code yX1_follow cX1_follow 4 (some .int) ∈ tb := tb_at (i := 785) (by decide +kernel) (by decide +kernel)
theorem kt_401 : Cond.methodLink RX1 146 yX1_follow ∈ tb := tb_at (i := 782) (by decide +kernel) (by decide +kernel)
theorem kt_402 : Cond.instanceMethod yX1_follow ∈ tb := tb_at (i := 784) (by decide +kernel) (by decide +kernel)
theorem kt_403 : Cond.selects RX1 yX1_follow yX1_follow ∈ tb := tb_at (i := 12) (by decide +kernel) (by decide +kernel)
theorem kt_404 : Cond.code yX1_match cX1_match 5 (some .int) ∈ tb := tb_at (i := 730) (by decide +kernel) (by decide +kernel)
theorem kt_405 : Cond.methodLink RX1 136 yX1_match ∈ tb := tb_at (i := 727) (by decide +kernel) (by decide +kernel)
theorem kt_406 : Cond.instanceMethod yX1_match ∈ tb := tb_at (i := 729) (by decide +kernel) (by decide +kernel)
theorem kt_407 : Cond.selects RX1 yX1_match yX1_match ∈ tb := tb_at (i := 5) (by decide +kernel) (by decide +kernel)
theorem kt_408 : Cond.code yX1_answerOf cX1_answerOf 1 (some .int) ∈ tb := tb_at (i := 781) (by decide +kernel) (by decide +kernel)
theorem kt_409 : Cond.methodLink RX1 143 yX1_answerOf ∈ tb := tb_at (i := 779) (by decide +kernel) (by decide +kernel)
theorem kt_410 : Cond.static yX1_answerOf ∈ tb := tb_at (i := 780) (by decide +kernel) (by decide +kernel)
theorem kn_16 : Cond.fieldLinkNest RX1 160 "PostGate$Term" "address" "I" "PostGate" ∈ nw := nw_at (i := 127) (by decide +kernel) rfl
theorem kn_17 : Cond.fieldLinkNest RX1 140 "PostGate$Term" "sign" "I" "PostGate" ∈ nw := nw_at (i := 119) (by decide +kernel) rfl
set_option maxHeartbeats 4000000 in
set_option maxRecDepth 100000 in
theorem s_X1_follow (l : Launch) (dC : Nat → ClassId) (dI : Nat → Nat → Nat) (cs : Nat → ClassId) (ty : TyM) (L : List Nat) (sz : Nat) (F : Nat → va_E) (h0 : Nat) (ρ : Nat) (d : Nat) (δ : Nat) (ea : Nat) (w0 : Nat) (w1 : Nat) (w2 : Nat) (w3 : Nat) (nm : Nat) (te : Nat) (g1 : Nat) (σ : Nat) (r1 : Nat) (n1 : Nat) (lv : Nat) (fr : Nat) (lo : Nat) (hW : WT ty L) (hL_h0 : h0 ∈ L) (hT_h0 : ty h0 = (1, ρ, [d, δ, ea, w0, w1, w2, w3, nm, te])) (hL_g1 : g1 ∈ L) (hT_g1 : ty g1 = (0, σ, [r1, n1])) (hlv : lv ≤ 10) (hC : ∀ (sz : Nat) (F : Nat → va_E), Met l yX1_check (.code yX1_check cX1_check 8 (some .int) :: tb) ({ frames := fr + 0, cells := 0, slots := 0, locals := lo + 0 }) (va_Pc [.ref h0, .int (nI (lv + 1))] (PTE (dC, dI) cs ty L F sz [])) (va_Qi (fun (r : Int32) (_ : Unit) => True) (fun _ T9 => ∃ F2 : Nat → va_E, QT (dC, dI) cs ty L [ρ, ρ + 1] F F2 (va_A (va_pl L F) sz) T9) (va_A (va_pl L F) sz)) 0 0 (va_A (va_pl L F) sz)) : Met l yX1_follow (.code yX1_follow cX1_follow 4 (some .int) :: tb) ({ frames := fr + 7, cells := 0, slots := 0, locals := lo + 161 }) (va_Pc [.ref h0, .ref g1, .int (nI lv)] (PTE (dC, dI) cs ty L F sz [])) (va_Qi (fun (r : Int32) (_ : Unit) => True) (fun _ T9 => ∃ F2 : Nat → va_E, QT (dC, dI) cs ty L [ρ, ρ + 1] F F2 (va_A (va_pl L F) sz) T9) (va_A (va_pl L F) sz)) 0 0 (va_A (va_pl L F) sz) := by
  refine Met.ofW (cc := cX1_follow) (maxL := 4) (ret := (some .int)) (by decide) rfl ?_
  intro p e s m args below meth c s₁ B hml hv
  obtain ⟨rfl, ⟨hsz, hP, hK, hD0, hE, hO⟩, hG, hX⟩ := hv
  have hx := B.exec
  have hb := B.bytes
  have hr := B.returns
  have hts : ∀ w ∈ tb, w.before _ s = true := fun w h => atoms_spec (ws := .code yX1_follow cX1_follow 4 (some .int) :: tb) B.pre w (List.mem_cons_of_mem _ h)
  have hown : s.vm.findClass RX1 = some m.cls := findClass_of_methodNamed B.named
  have hlocks := B.notSynchronized
  subst hsz
  have hD := hD0.self (sz := s.heap.size)
  generalize hAe : va_A (va_pl L F) s.heap.size = A at hD hG hX ⊢
  have hA : ∀ q : Nat, s.heap.size ≤ q → A q := fun q h => by rw [← hAe]; exact Or.inr h
  have hS : va_S A s.heap s.heap [] := va_S.rf
  have hR : FR ty [ρ, ρ + 1] F F := FR.refl
  have hl := lv_entry ([.ref h0, .ref g1, .int (nI lv)]) (n := 4) (Nat.le_of_ble_eq_true rfl)
  rw [lg_entry_eq]
  generalize (lg_sl ([.ref h0, .ref g1, .int (nI lv)]) ++ List.replicate (4 - (lg_sl ([.ref h0, .ref g1, .int (nI lv)])).length) Slot.unset).toArray = ls at hl ⊢
  have hl : lv_has ls 4 [(0, .ref h0), (1, .ref g1), (2, .int (nI lv))] := hl
  refine lv_aload_n hx hb dX1_follow_0 rfl (lv_at hl 0 rfl) ?_
  have hFc := pg_free hD hS hA
  obtain ⟨hi_1, ht_2, hi_3, ⟨r_4, ht_5⟩, hi_6, ⟨r_7, ht_8⟩, hi_9, ⟨r_10, ht_11⟩, hi_12, ⟨r_13, ht_14⟩, hi_15, ht_16, hi_17, ht_18⟩ := hW.chk hL_h0 hT_h0
  obtain ⟨v0_19, v1_20, v2_21, v3_22, hF_23⟩ := hO.chk hL_h0 hT_h0
  refine va_calli (va_runV (As := []) (rest := []) ⟨hx, hb, hml, hown, hts⟩ (s_X1_isCountedOut l dC dI cs ty L s.heap.size F h0 ρ d δ ea w0 w1 w2 w3 nm te hW hL_h0 hT_h0) ⟨callB_of 0 hts (gi kt_376) rfl rfl rfl (hts _ kt_310) (hts _ kt_377) (by decide +kernel) ⟨Nat.le_of_ble_eq_true rfl, Nat.le_of_ble_eq_true rfl⟩, (hts _ kt_378), (hts _ kt_379)⟩ ⟨fun a U g mk q => ⟨q.1, PT.calling q.2⟩, pg_recv hK hP hL_h0 hF_23 (q := (RX1, TX1, 11)) rfl, fun U hU hWm => ⟨rfl, PT.mk hU hWm hP hK hD hE hO⟩⟩ rfl rfl hl.1 rfl (lv_room (Nat.le_of_ble_eq_true rfl)) dX1_follow_1 ⟨by show _ + 0 ≤ 0; omega, by show _ + 0 ≤ 0; omega⟩) hS (fun q _ h => hFc q h) hFc (fun r_24 u t H1 locs ht hvm hw hB hz1 hk1 hS => ?_)
  obtain ⟨F_25, hB1⟩ := hB
  obtain ⟨hP, hD, hO, hR⟩ := QT.back hB1 ht hFc hR (fun q h => by simp only [List.mem_cons, List.not_mem_nil, or_false] at h ⊢; omega)
  generalize H1 = H at hP hS ⊢
  have hw : (r_24 = 0 ∨ r_24 = 1) := hw
  have hw_26 := hw
  refine lv_if_eq (tgt := 10) hx hb dX1_follow_4 (by decide) (fun c_27 => ?_) (fun c_27 => ?_)
  ·
    refine lv_aload_n hx hb dX1_follow_10 rfl (lv_at hl 0 rfl) ?_
    refine lv_aload_n hx hb dX1_follow_11 rfl (lv_at hl 1 rfl) ?_
    refine lv_iload_n hx hb dX1_follow_12 rfl (lv_at hl 2 rfl) ?_
    have hFc := pg_free hD hS hA
    obtain ⟨v0_28, v1_29, v2_30, v3_31, hF_32⟩ := hO.chk hL_h0 hT_h0
    refine va_callv (va_runV (As := [.ref g1, .int (nI lv)]) (rest := []) ⟨hx, hb, hml, hown, hts⟩ (s_X1_expand l dC dI cs ty L H.size F_25 h0 ρ d δ ea w0 w1 w2 w3 nm te g1 σ r1 n1 lv hW hL_h0 hT_h0 hL_g1 hT_g1 (by omega)) ⟨callB_of 2 hts (gi kt_380) rfl rfl rfl (hts _ kt_310) (hts _ kt_381) (by decide +kernel) ⟨Nat.le_of_ble_eq_true rfl, Nat.le_of_ble_eq_true rfl⟩, (hts _ kt_382), (hts _ kt_383)⟩ ⟨fun a U g mk q => ⟨q.1, PTE.calling q.2⟩, pg_recv hK hP hL_h0 hF_32 (q := (RX1, TX1, 11)) rfl, fun U hU hWm => ⟨rfl, PTE.mk hU hWm hP hK hD hE hO hG (fun x hx => absurd hx List.not_mem_nil) hS hFc⟩⟩ rfl rfl hl.1 rfl (lv_room (Nat.le_of_ble_eq_true rfl)) dX1_follow_13 ⟨by show _ + 0 ≤ 0; omega, by show _ + 0 ≤ 0; omega⟩) hS (fun q _ h => hFc q h) hFc (fun u t H1 locs ht hvm hw hB hz1 hk1 hS => ?_)
    obtain ⟨F_34, hB1⟩ := hB
    obtain ⟨hP, hD, hO, hR⟩ := QT.back hB1 ht hFc hR (fun q h => by simp only [List.mem_cons, List.not_mem_nil, or_false] at h ⊢; omega)
    have hF_35 : F_34 h0 = .inr (1, [.ref d, .ref w0, .ref w1, .ref w2, .ref w3, .ref nm, .ref te, .int v0_28, .int v1_29, .int v2_30, .int v3_31]) := (hB1.2.2.2 h0 (by rw [hT_h0]; simp)).trans hF_32
    generalize H1 = H at hP hS ⊢
    refine lv_aload_n hx hb dX1_follow_16 rfl (lv_at hl 0 rfl) ?_
    refine lv_iload_n hx hb dX1_follow_17 rfl (lv_at hl 2 rfl) ?_
    refine lv_iconst (v := 1) hx hb dX1_follow_18 (by decide) ?_
    refine lv_iadd hx hb dX1_follow_19 ?_
    refine lv_topi (fun x_36 ex_36 => ?_)
    obtain rfl : x_36 = (nI (lv + 1)) := ex_36.trans (nI_1 lv)
    have hFc := pg_free hD hS hA
    refine va_calli (va_runV (As := [.int (nI (lv + 1))]) (rest := []) ⟨hx, hb, hml, hown, hts⟩ (hC H.size F_34) ⟨callB_of 1 hts (gi kt_384) rfl rfl rfl (hts _ kt_310) (hts _ kt_385) (by decide +kernel) ⟨by show fr + 0 + 1 ≤ fr + 7; omega, by show 8 + (8 + 11) + (lo + 0) ≤ lo + 161; omega⟩, (hts _ kt_386), (hts _ kt_387)⟩ ⟨fun a U g mk q => ⟨q.1, PTE.calling q.2⟩, pg_recv hK hP hL_h0 hF_35 (q := (RX1, TX1, 11)) rfl, fun U hU hWm => ⟨rfl, PTE.mk hU hWm hP hK hD hE hO hG (fun x hx => absurd hx List.not_mem_nil) hS hFc⟩⟩ rfl rfl hl.1 rfl (lv_room (Nat.le_of_ble_eq_true rfl)) dX1_follow_20 ⟨by show _ + 0 ≤ 0; omega, by show _ + 0 ≤ 0; omega⟩) hS (fun q _ h => hFc q h) hFc (fun r_37 u t H1 locs ht hvm hw hB hz1 hk1 hS => ?_)
    obtain ⟨F_38, hB1⟩ := hB
    obtain ⟨hP, hD, hO, hR⟩ := QT.back hB1 ht hFc hR (fun q h => by simp only [List.mem_cons, List.not_mem_nil, or_false] at h ⊢; omega)
    generalize H1 = H at hP hS ⊢
    have hw : True := hw
    have hw_39 := hw
    refine lv_istore_n (lv' := [(3, .int r_37), (0, .ref h0), (1, .ref g1), (2, .int (nI lv))]) hx hb dX1_follow_23 rfl hl (by decide) rfl (fun ls hl => ?_)
    refine lv_iload_n hx hb dX1_follow_24 rfl (lv_at hl 0 rfl) ?_
    refine lv_if_ne (tgt := 33) hx hb dX1_follow_25 (by decide) (fun c_40 => ?_) (fun c_40 => ?_)
    ·
      refine lv_iload_n hx hb dX1_follow_33 rfl (lv_at hl 0 rfl) ?_
      refine W.widen (k := 0) (n := 0) (by omega) (by omega) ?_
      exact W.iret (v := r_37) hx hb hr (fun t ht hWm => ⟨⟨r_37, (), rfl, trivial, ⟨F_38, QT.mk ht hP hD hO hR⟩⟩, hS.F ht⟩) hS.2.2 dX1_follow_34
    ·
      refine lv_bipush (v := 6) hx hb dX1_follow_28 (by decide) ?_
      refine lv_goto (tgt := 34) hx hb dX1_follow_30 (by decide) ?_
      refine W.widen (k := 0) (n := 0) (by omega) (by omega) ?_
      exact W.iret (v := 6) hx hb hr (fun t ht hWm => ⟨⟨6, (), rfl, trivial, ⟨F_38, QT.mk ht hP hD hO hR⟩⟩, hS.F ht⟩) hS.2.2 dX1_follow_34
  ·
    refine lv_bipush (v := 6) hx hb dX1_follow_7 (by decide) ?_
    refine W.widen (k := 0) (n := 0) (by omega) (by omega) ?_
    exact W.iret (v := 6) hx hb hr (fun t ht hWm => ⟨⟨6, (), rfl, trivial, ⟨F_25, QT.mk ht hP hD hO hR⟩⟩, hS.F ht⟩) hS.2.2 dX1_follow_9
set_option maxHeartbeats 4000000 in
set_option maxRecDepth 100000 in
theorem s_X1_match (l : Launch) (dC : Nat → ClassId) (dI : Nat → Nat → Nat) (cs : Nat → ClassId) (ty : TyM) (L : List Nat) (sz : Nat) (F : Nat → va_E) (h0 : Nat) (ρ : Nat) (d : Nat) (δ : Nat) (ea : Nat) (w0 : Nat) (w1 : Nat) (w2 : Nat) (w3 : Nat) (nm : Nat) (te : Nat) (g1 : Nat) (σ : Nat) (r1 : Nat) (n1 : Nat) (lv : Nat) (fr : Nat) (lo : Nat) (hW : WT ty L) (hL_h0 : h0 ∈ L) (hT_h0 : ty h0 = (1, ρ, [d, δ, ea, w0, w1, w2, w3, nm, te])) (hL_g1 : g1 ∈ L) (hT_g1 : ty g1 = (0, σ, [r1, n1])) (hlv : lv ≤ 10) (hC : ∀ (sz : Nat) (F : Nat → va_E), Met l yX1_check (.code yX1_check cX1_check 8 (some .int) :: tb) ({ frames := fr + 0, cells := 0, slots := 0, locals := lo + 0 }) (va_Pc [.ref h0, .int (nI (lv + 1))] (PTE (dC, dI) cs ty L F sz [])) (va_Qi (fun (r : Int32) (_ : Unit) => True) (fun _ T9 => ∃ F2 : Nat → va_E, QT (dC, dI) cs ty L [ρ, ρ + 1] F F2 (va_A (va_pl L F) sz) T9) (va_A (va_pl L F) sz)) 0 0 (va_A (va_pl L F) sz)) : Met l yX1_match (.code yX1_match cX1_match 5 (some .int) :: tb) ({ frames := fr + 7, cells := 0, slots := 0, locals := lo + 161 }) (va_Pc [.ref h0, .ref g1, .int (nI lv)] (PTE (dC, dI) cs ty L F sz [])) (va_Qi (fun (r : Int32) (_ : Unit) => True) (fun _ T9 => ∃ F2 : Nat → va_E, QT (dC, dI) cs ty L [ρ, ρ + 1] F F2 (va_A (va_pl L F) sz) T9) (va_A (va_pl L F) sz)) 0 0 (va_A (va_pl L F) sz) := by
  refine Met.ofW (cc := cX1_match) (maxL := 5) (ret := (some .int)) (by decide) rfl ?_
  intro p e s m args below meth c s₁ B hml hv
  obtain ⟨rfl, ⟨hsz, hP, hK, hD0, hE, hO⟩, hG, hX⟩ := hv
  have hx := B.exec
  have hb := B.bytes
  have hr := B.returns
  have hts : ∀ w ∈ tb, w.before _ s = true := fun w h => atoms_spec (ws := .code yX1_match cX1_match 5 (some .int) :: tb) B.pre w (List.mem_cons_of_mem _ h)
  have hown : s.vm.findClass RX1 = some m.cls := findClass_of_methodNamed B.named
  have hlocks := B.notSynchronized
  subst hsz
  have hD := hD0.self (sz := s.heap.size)
  generalize hAe : va_A (va_pl L F) s.heap.size = A at hD hG hX ⊢
  have hA : ∀ q : Nat, s.heap.size ≤ q → A q := fun q h => by rw [← hAe]; exact Or.inr h
  have hS : va_S A s.heap s.heap [] := va_S.rf
  have hR : FR ty [ρ, ρ + 1] F F := FR.refl
  have hl := lv_entry ([.ref h0, .ref g1, .int (nI lv)]) (n := 5) (Nat.le_of_ble_eq_true rfl)
  rw [lg_entry_eq]
  generalize (lg_sl ([.ref h0, .ref g1, .int (nI lv)]) ++ List.replicate (5 - (lg_sl ([.ref h0, .ref g1, .int (nI lv)])).length) Slot.unset).toArray = ls at hl ⊢
  have hl : lv_has ls 5 [(0, .ref h0), (1, .ref g1), (2, .int (nI lv))] := hl
  refine lv_aload_n hx hb dX1_match_0 rfl (lv_at hl 0 rfl) ?_
  obtain ⟨hi_1, ht_2, hi_3, ⟨r_4, ht_5⟩, hi_6, ⟨r_7, ht_8⟩, hi_9, ⟨r_10, ht_11⟩, hi_12, ⟨r_13, ht_14⟩, hi_15, ht_16, hi_17, ht_18⟩ := hW.chk hL_h0 hT_h0
  obtain ⟨v0_19, v1_20, v2_21, v3_22, hF_23⟩ := hO.chk hL_h0 hT_h0
  refine pg_get (ci := 1) (v := .ref te) (C := RX1) (T := TX1) (N := 11) hx hb hts it_1 hown hK hP hL_h0 hF_23 rfl 6 (by decide) (hts _ kt_350) (fun _ h9 => h9) rfl dX1_match_1 ?_
  refine lv_iload_n hx hb dX1_match_4 rfl (lv_at hl 2 rfl) ?_
  obtain ⟨f_24, hF_25, hq_26⟩ := hO.rterm hi_17 ht_18
  obtain ⟨b_27, hbf_28, hi_29, ht_30⟩ := hq_26 lv (by omega)
  refine pg_aald (r := b_27) hx hb hK hP hi_17 6 hF_25 rfl (vp_in_nI (by omega) (by omega)) (show f_24 ((nI lv) : Int32).toNatClampNeg = _ from by rw [show ((nI lv) : Int32) = nI lv from rfl, nI_clamp (by omega)]; exact hbf_28) dX1_match_5 ?_
  refine lv_astore_n (lv' := [(3, .ref b_27), (0, .ref h0), (1, .ref g1), (2, .int (nI lv))]) hx hb dX1_match_6 rfl hl (by decide) rfl (fun ls hl => ?_)
  refine lv_aload_n hx hb dX1_match_7 rfl (lv_at hl 0 rfl) ?_
  obtain ⟨v0_31, v1_32, v2_33, z_34, v4_35, v5_36, hF_37, hq_38⟩ := hO.term hi_29 ht_30
  refine pg_getN (ci := 10) (v := .int v0_31) (C := RX10) (T := TX10) (N := 6) hx hb hts it_10 hown hK hP hi_29 hF_37 rfl 0 (by decide) (hE.nest kn_8) (fun _ h9 => h9) rfl dX1_match_8 ?_
  refine lv_iconst (v := 1) hx hb dX1_match_11 (by decide) ?_
  refine lv_icmp_ne (tgt := 17) hx hb dX1_match_12 (by decide) (fun c_39 => ?_) (fun c_39 => ?_)
  ·
    refine lv_aload_n hx hb dX1_match_17 rfl (lv_at hl 0 rfl) ?_
    refine pg_getN (ci := 10) (v := .int v0_31) (C := RX10) (T := TX10) (N := 6) hx hb hts it_10 hown hK hP hi_29 hF_37 rfl 0 (by decide) (hE.nest kn_8) (fun _ h9 => h9) rfl dX1_match_18 ?_
    refine lv_iconst (v := 5) hx hb dX1_match_21 (by decide) ?_
    refine lv_icmp_ne (tgt := 49) hx hb dX1_match_22 (by decide) (fun c_40 => ?_) (fun c_40 => ?_)
    ·
      refine lv_aload_n hx hb dX1_match_49 rfl (lv_at hl 0 rfl) ?_
      refine pg_getN (ci := 10) (v := .int v0_31) (C := RX10) (T := TX10) (N := 6) hx hb hts it_10 hown hK hP hi_29 hF_37 rfl 0 (by decide) (hE.nest kn_8) (fun _ h9 => h9) rfl dX1_match_50 ?_
      refine lv_bipush (v := 7) hx hb dX1_match_53 (by decide) ?_
      refine lv_icmp_eq (tgt := 67) hx hb dX1_match_55 (by decide) (fun c_41 => ?_) (fun c_41 => ?_)
      ·
        refine lv_iconst (v := 0) hx hb dX1_match_67 (by decide) ?_
        refine W.widen (k := 0) (n := 0) (by omega) (by omega) ?_
        exact W.iret (v := 0) hx hb hr (fun t ht hWm => ⟨⟨0, (), rfl, trivial, ⟨F, QT.mk ht hP hD hO hR⟩⟩, hS.F ht⟩) hS.2.2 dX1_match_68
      ·
        refine lv_aload_n hx hb dX1_match_58 rfl (lv_at hl 0 rfl) ?_
        refine pg_getN (ci := 10) (v := .int v0_31) (C := RX10) (T := TX10) (N := 6) hx hb hts it_10 hown hK hP hi_29 hF_37 rfl 0 (by decide) (hE.nest kn_8) (fun _ h9 => h9) rfl dX1_match_59 ?_
        refine lv_bipush (v := 8) hx hb dX1_match_62 (by decide) ?_
        refine lv_icmp_ne (tgt := 69) hx hb dX1_match_64 (by decide) (fun c_42 => ?_) (fun c_42 => ?_)
        ·
          refine lv_aload_n hx hb dX1_match_69 rfl (lv_at hl 1 rfl) ?_
          have hFc := pg_free hD hS hA
          refine va_calli (va_runV (As := []) (rest := []) ⟨hx, hb, hml, hown, hts⟩ (s_X1_isCountedOut l dC dI cs ty L s.heap.size F h0 ρ d δ ea w0 w1 w2 w3 nm te hW hL_h0 hT_h0) ⟨callB_of 0 hts (gi kt_376) rfl rfl rfl (hts _ kt_310) (hts _ kt_377) (by decide +kernel) ⟨Nat.le_of_ble_eq_true rfl, Nat.le_of_ble_eq_true rfl⟩, (hts _ kt_378), (hts _ kt_379)⟩ ⟨fun a U g mk q => ⟨q.1, PT.calling q.2⟩, pg_recv hK hP hL_h0 hF_23 (q := (RX1, TX1, 11)) rfl, fun U hU hWm => ⟨rfl, PT.mk hU hWm hP hK hD hE hO⟩⟩ rfl rfl hl.1 rfl (lv_room (Nat.le_of_ble_eq_true rfl)) dX1_match_70 ⟨by show _ + 0 ≤ 0; omega, by show _ + 0 ≤ 0; omega⟩) hS (fun q _ h => hFc q h) hFc (fun r_43 u t H1 locs ht hvm hw hB hz1 hk1 hS => ?_)
          obtain ⟨F_44, hB1⟩ := hB
          obtain ⟨hP, hD, hO, hR⟩ := QT.back hB1 ht hFc hR (fun q h => by simp only [List.mem_cons, List.not_mem_nil, or_false] at h ⊢; omega)
          generalize H1 = H at hP hS ⊢
          have hw : (r_43 = 0 ∨ r_43 = 1) := hw
          have hw_45 := hw
          refine lv_if_eq (tgt := 79) hx hb dX1_match_73 (by decide) (fun c_46 => ?_) (fun c_46 => ?_)
          ·
            refine lv_aload_n hx hb dX1_match_79 rfl (lv_at hl 1 rfl) ?_
            refine lv_aload_n hx hb dX1_match_80 rfl (lv_at hl 2 rfl) ?_
            refine lv_iload_n hx hb dX1_match_81 rfl (lv_at hl 3 rfl) ?_
            have hFc := pg_free hD hS hA
            obtain ⟨v0_47, v1_48, v2_49, v3_50, hF_51⟩ := hO.chk hL_h0 hT_h0
            refine va_callv (va_runV (As := [.ref g1, .int (nI lv)]) (rest := []) ⟨hx, hb, hml, hown, hts⟩ (s_X1_expand l dC dI cs ty L H.size F_44 h0 ρ d δ ea w0 w1 w2 w3 nm te g1 σ r1 n1 lv hW hL_h0 hT_h0 hL_g1 hT_g1 (by omega)) ⟨callB_of 2 hts (gi kt_380) rfl rfl rfl (hts _ kt_310) (hts _ kt_381) (by decide +kernel) ⟨Nat.le_of_ble_eq_true rfl, Nat.le_of_ble_eq_true rfl⟩, (hts _ kt_382), (hts _ kt_383)⟩ ⟨fun a U g mk q => ⟨q.1, PTE.calling q.2⟩, pg_recv hK hP hL_h0 hF_51 (q := (RX1, TX1, 11)) rfl, fun U hU hWm => ⟨rfl, PTE.mk hU hWm hP hK hD hE hO hG (fun x hx => absurd hx List.not_mem_nil) hS hFc⟩⟩ rfl rfl hl.1 rfl (lv_room (Nat.le_of_ble_eq_true rfl)) dX1_match_82 ⟨by show _ + 0 ≤ 0; omega, by show _ + 0 ≤ 0; omega⟩) hS (fun q _ h => hFc q h) hFc (fun u t H1 locs ht hvm hw hB hz1 hk1 hS => ?_)
            obtain ⟨F_53, hB1⟩ := hB
            obtain ⟨hP, hD, hO, hR⟩ := QT.back hB1 ht hFc hR (fun q h => by simp only [List.mem_cons, List.not_mem_nil, or_false] at h ⊢; omega)
            have hF_54 : F_53 h0 = .inr (1, [.ref d, .ref w0, .ref w1, .ref w2, .ref w3, .ref nm, .ref te, .int v0_47, .int v1_48, .int v2_49, .int v3_50]) := (hB1.2.2.2 h0 (by rw [hT_h0]; simp)).trans hF_51
            generalize H1 = H at hP hS ⊢
            refine lv_aload_n hx hb dX1_match_85 rfl (lv_at hl 0 rfl) ?_
            obtain ⟨v0_55, v1_56, v2_57, z_58, v4_59, v5_60, hF_61, hq_62⟩ := hO.term hi_29 ht_30
            refine pg_getN (ci := 10) (v := .int v0_55) (C := RX10) (T := TX10) (N := 6) hx hb hts it_10 hown hK hP hi_29 hF_61 rfl 0 (by decide) (hE.nest kn_8) (fun _ h9 => h9) rfl dX1_match_86 ?_
            refine lv_iconst (v := 2) hx hb dX1_match_89 (by decide) ?_
            refine lv_icmp_eq (tgt := 107) hx hb dX1_match_90 (by decide) (fun c_63 => ?_) (fun c_63 => ?_)
            ·
              refine lv_aload_n hx hb dX1_match_107 rfl (lv_at hl 1 rfl) ?_
              refine lv_iload_n hx hb dX1_match_108 rfl (lv_at hl 3 rfl) ?_
              refine lv_iconst (v := 1) hx hb dX1_match_109 (by decide) ?_
              refine lv_iadd hx hb dX1_match_110 ?_
              refine lv_topi (fun x_64 ex_64 => ?_)
              obtain rfl : x_64 = (nI (lv + 1)) := ex_64.trans (nI_1 lv)
              have hFc := pg_free hD hS hA
              refine va_calli (va_runV (As := [.int (nI (lv + 1))]) (rest := []) ⟨hx, hb, hml, hown, hts⟩ (hC H.size F_53) ⟨callB_of 1 hts (gi kt_384) rfl rfl rfl (hts _ kt_310) (hts _ kt_385) (by decide +kernel) ⟨by show fr + 0 + 1 ≤ fr + 7; omega, by show 8 + (8 + 11) + (lo + 0) ≤ lo + 161; omega⟩, (hts _ kt_386), (hts _ kt_387)⟩ ⟨fun a U g mk q => ⟨q.1, PTE.calling q.2⟩, pg_recv hK hP hL_h0 hF_54 (q := (RX1, TX1, 11)) rfl, fun U hU hWm => ⟨rfl, PTE.mk hU hWm hP hK hD hE hO hG (fun x hx => absurd hx List.not_mem_nil) hS hFc⟩⟩ rfl rfl hl.1 rfl (lv_room (Nat.le_of_ble_eq_true rfl)) dX1_match_111 ⟨by show _ + 0 ≤ 0; omega, by show _ + 0 ≤ 0; omega⟩) hS (fun q _ h => hFc q h) hFc (fun r_65 u t H1 locs ht hvm hw hB hz1 hk1 hS => ?_)
              obtain ⟨F_66, hB1⟩ := hB
              obtain ⟨hP, hD, hO, hR⟩ := QT.back hB1 ht hFc hR (fun q h => by simp only [List.mem_cons, List.not_mem_nil, or_false] at h ⊢; omega)
              generalize H1 = H at hP hS ⊢
              have hw : True := hw
              have hw_67 := hw
              refine lv_istore (lv' := [(4, .int r_65), (3, .ref b_27), (0, .ref h0), (1, .ref g1), (2, .int (nI lv))]) hx hb dX1_match_114 hl (by decide) rfl (fun ls hl => ?_)
              refine lv_iload hx hb dX1_match_116 (lv_at hl 0 rfl) ?_
              refine lv_iconst (v := 1) hx hb dX1_match_118 (by decide) ?_
              refine lv_icmp_eq (tgt := 134) hx hb dX1_match_119 (by decide) (fun c_68 => ?_) (fun c_68 => ?_)
              ·
                refine lv_iconst (v := 0) hx hb dX1_match_134 (by decide) ?_
                refine W.widen (k := 0) (n := 0) (by omega) (by omega) ?_
                exact W.iret (v := 0) hx hb hr (fun t ht hWm => ⟨⟨0, (), rfl, trivial, ⟨F_66, QT.mk ht hP hD hO hR⟩⟩, hS.F ht⟩) hS.2.2 dX1_match_135
              ·
                refine lv_iload hx hb dX1_match_122 (lv_at hl 0 rfl) ?_
                refine lv_iconst (v := 4) hx hb dX1_match_124 (by decide) ?_
                refine lv_icmp_eq (tgt := 134) hx hb dX1_match_125 (by decide) (fun c_69 => ?_) (fun c_69 => ?_)
                ·
                  refine lv_iconst (v := 0) hx hb dX1_match_134 (by decide) ?_
                  refine W.widen (k := 0) (n := 0) (by omega) (by omega) ?_
                  exact W.iret (v := 0) hx hb hr (fun t ht hWm => ⟨⟨0, (), rfl, trivial, ⟨F_66, QT.mk ht hP hD hO hR⟩⟩, hS.F ht⟩) hS.2.2 dX1_match_135
                ·
                  refine lv_iload hx hb dX1_match_128 (lv_at hl 0 rfl) ?_
                  refine lv_iconst (v := 3) hx hb dX1_match_130 (by decide) ?_
                  refine lv_icmp_ne (tgt := 136) hx hb dX1_match_131 (by decide) (fun c_70 => ?_) (fun c_70 => ?_)
                  ·
                    refine lv_iload hx hb dX1_match_136 (lv_at hl 0 rfl) ?_
                    refine lv_if_ne (tgt := 146) hx hb dX1_match_138 (by decide) (fun c_71 => ?_) (fun c_71 => ?_)
                    ·
                      refine lv_iload hx hb dX1_match_146 (lv_at hl 0 rfl) ?_
                      refine W.widen (k := 0) (n := 0) (by omega) (by omega) ?_
                      exact W.iret (v := r_65) hx hb hr (fun t ht hWm => ⟨⟨r_65, (), rfl, trivial, ⟨F_66, QT.mk ht hP hD hO hR⟩⟩, hS.F ht⟩) hS.2.2 dX1_match_148
                    ·
                      refine lv_bipush (v := 6) hx hb dX1_match_141 (by decide) ?_
                      refine lv_goto (tgt := 148) hx hb dX1_match_143 (by decide) ?_
                      refine W.widen (k := 0) (n := 0) (by omega) (by omega) ?_
                      exact W.iret (v := 6) hx hb hr (fun t ht hWm => ⟨⟨6, (), rfl, trivial, ⟨F_66, QT.mk ht hP hD hO hR⟩⟩, hS.F ht⟩) hS.2.2 dX1_match_148
                  ·
                    refine lv_iconst (v := 0) hx hb dX1_match_134 (by decide) ?_
                    refine W.widen (k := 0) (n := 0) (by omega) (by omega) ?_
                    exact W.iret (v := 0) hx hb hr (fun t ht hWm => ⟨⟨0, (), rfl, trivial, ⟨F_66, QT.mk ht hP hD hO hR⟩⟩, hS.F ht⟩) hS.2.2 dX1_match_135
            ·
              refine lv_aload_n hx hb dX1_match_93 rfl (lv_at hl 1 rfl) ?_
              refine lv_aload_n hx hb dX1_match_94 rfl (lv_at hl 0 rfl) ?_
              refine lv_aload_n hx hb dX1_match_95 rfl (lv_at hl 1 rfl) ?_
              refine pg_get (ci := 1) (v := .ref nm) (C := RX1) (T := TX1) (N := 11) hx hb hts it_1 hown hK hP hL_h0 hF_54 rfl 5 (by decide) (hts _ kt_338) (fun _ h9 => h9) rfl dX1_match_96 ?_
              refine lv_iload_n hx hb dX1_match_99 rfl (lv_at hl 3 rfl) ?_
              refine lv_iconst (v := 1) hx hb dX1_match_100 (by decide) ?_
              refine lv_iadd hx hb dX1_match_101 ?_
              refine lv_topi (fun x_72 ex_72 => ?_)
              obtain rfl : x_72 = (nI (lv + 1)) := ex_72.trans (nI_1 lv)
              obtain ⟨f_73, hF_74, hq_75⟩ := hO.rbytes hi_15 ht_16
              obtain ⟨b_76, r_77, hbf_78, hi_79, ht_80⟩ := hq_75 (lv + 1) (by omega)
              refine pg_aald (r := b_76) hx hb hK hP hi_15 4 hF_74 rfl (vp_in_nI (by omega) (by omega)) (show f_73 ((nI (lv + 1)) : Int32).toNatClampNeg = _ from by rw [show ((nI (lv + 1)) : Int32) = nI (lv + 1) from rfl, nI_clamp (by omega)]; exact hbf_78) dX1_match_102 ?_
              have hFc := pg_free hD hS hA
              refine va_calli (va_runV (As := [.ref b_27, .ref b_76]) (rest := []) ⟨hx, hb, hml, hown, hts⟩ (s_X1_look l dC dI cs ty L H.size F_53 h0 ρ d δ ea w0 w1 w2 w3 nm te b_27 ρ b_76 (ρ + 1) r_77 60 hW hL_h0 hT_h0 hi_29 ht_30 hi_79 ht_80) ⟨callB_of 2 hts (gi kt_388) rfl rfl rfl (hts _ kt_310) (hts _ kt_389) (by decide +kernel) ⟨Nat.le_of_ble_eq_true rfl, Nat.le_of_ble_eq_true rfl⟩, (hts _ kt_390), (hts _ kt_391)⟩ ⟨fun a U g mk q => ⟨q.1, PT.calling q.2⟩, pg_recv hK hP hL_h0 hF_54 (q := (RX1, TX1, 11)) rfl, fun U hU hWm => ⟨rfl, PT.mk hU hWm hP hK hD hE hO⟩⟩ rfl rfl hl.1 rfl (lv_room (Nat.le_of_ble_eq_true rfl)) dX1_match_103 ⟨by show _ + 0 ≤ 0; omega, by show _ + 0 ≤ 0; omega⟩) hS (fun q _ h => hFc q h) hFc (fun r_81 u t H1 locs ht hvm hw hB hz1 hk1 hS => ?_)
              obtain ⟨F_82, hB1⟩ := hB
              obtain ⟨hP, hD, hO, hR⟩ := QT.back hB1 ht hFc hR (fun q h => by simp only [List.mem_cons, List.not_mem_nil, or_false] at h ⊢; omega)
              have hF_83 : F_82 nm = .inl (cs 20, 12, .inr (.inr (.inr (.inr f_73)))) := (hB1.2.2.2 nm (by rw [ht_16]; simp)).trans hF_74
              generalize H1 = H at hP hS ⊢
              have hw : True := hw
              have hw_84 := hw
              refine W.widen (k := 0) (n := 0) (by omega) (by omega) ?_
              exact W.iret (v := r_81) hx hb hr (fun t ht hWm => ⟨⟨r_81, (), rfl, trivial, ⟨F_82, QT.mk ht hP hD hO hR⟩⟩, hS.F ht⟩) hS.2.2 dX1_match_106
          ·
            refine lv_bipush (v := 6) hx hb dX1_match_76 (by decide) ?_
            refine W.widen (k := 0) (n := 0) (by omega) (by omega) ?_
            exact W.iret (v := 6) hx hb hr (fun t ht hWm => ⟨⟨6, (), rfl, trivial, ⟨F_44, QT.mk ht hP hD hO hR⟩⟩, hS.F ht⟩) hS.2.2 dX1_match_78
        ·
          refine lv_iconst (v := 0) hx hb dX1_match_67 (by decide) ?_
          refine W.widen (k := 0) (n := 0) (by omega) (by omega) ?_
          exact W.iret (v := 0) hx hb hr (fun t ht hWm => ⟨⟨0, (), rfl, trivial, ⟨F, QT.mk ht hP hD hO hR⟩⟩, hS.F ht⟩) hS.2.2 dX1_match_68
    ·
      refine lv_aload_n hx hb dX1_match_25 rfl (lv_at hl 1 rfl) ?_
      refine pg_get (ci := 1) (v := .int v0_19) (C := RX1) (T := TX1) (N := 11) hx hb hts it_1 hown hK hP hL_h0 hF_23 rfl 7 (by decide) (hts _ kt_305) (fun _ h9 => h9) rfl dX1_match_26 ?_
      refine lv_aload_n hx hb dX1_match_29 rfl (lv_at hl 0 rfl) ?_
      refine pg_getN (ci := 10) (v := .int v5_36) (C := RX10) (T := TX10) (N := 6) hx hb hts it_10 hown hK hP hi_29 hF_37 rfl 5 (by decide) (hE.nest kn_16) (fun _ h9 => h9) rfl dX1_match_30 ?_
      refine lv_aload_n hx hb dX1_match_33 rfl (lv_at hl 0 rfl) ?_
      refine pg_getN (ci := 10) (v := .int v4_35) (C := RX10) (T := TX10) (N := 6) hx hb hts it_10 hown hK hP hi_29 hF_37 rfl 4 (by decide) (hE.nest kn_15) (fun _ h9 => h9) rfl dX1_match_34 ?_
      have hFc := pg_free hD hS hA
      refine va_calli (va_runS (As := [.int v0_19, .int v5_36, .int v4_35]) (rest := []) ⟨hx, hb, hml, hown, hts⟩ (s_X10_isSameNet l dC dI cs ty L s.heap.size F v0_19 v5_36 v4_35 hW ) ⟨callB_of 3 hts (gi kt_89) rfl rfl rfl (hts _ kt_90) (hts _ kt_392) (by decide +kernel) ⟨Nat.le_of_ble_eq_true rfl, Nat.le_of_ble_eq_true rfl⟩, (hts _ kt_92)⟩ ⟨fun a U g mk q => ⟨q.1, PT.calling q.2⟩, fun U hU hWm => ⟨rfl, PT.mk hU hWm hP hK hD hE hO⟩⟩ rfl rfl hl.1 rfl (lv_room (Nat.le_of_ble_eq_true rfl)) dX1_match_37 ⟨by show _ + 0 ≤ 0; omega, by show _ + 0 ≤ 0; omega⟩) hS (fun q _ h => hFc q h) hFc (fun r_85 u t H1 locs ht hvm hw hB hz1 hk1 hS => ?_)
      obtain ⟨F_86, hB1⟩ := hB
      obtain ⟨hP, hD, hO, hR⟩ := QT.back hB1 ht hFc hR (fun q h => absurd h List.not_mem_nil)
      have hF_87 : F_86 h0 = .inr (1, [.ref d, .ref w0, .ref w1, .ref w2, .ref w3, .ref nm, .ref te, .int v0_19, .int v1_20, .int v2_21, .int v3_22]) := (hB1.2.2.2 h0 List.not_mem_nil).trans hF_23
      have hF_88 : F_86 te = .inl (cs 22, 11, .inr (.inr (.inr (.inr f_24)))) := (hB1.2.2.2 te List.not_mem_nil).trans hF_25
      have hF_89 : F_86 b_27 = .inr (10, [.int v0_31, .int v1_32, .int v2_33, .int (nI z_34), .int v4_35, .int v5_36]) := (hB1.2.2.2 b_27 List.not_mem_nil).trans hF_37
      generalize H1 = H at hP hS ⊢
      have hw : (r_85 = 0 ∨ r_85 = 1) := hw
      have hw_90 := hw
      refine lv_if_eq (tgt := 47) hx hb dX1_match_40 (by decide) (fun c_91 => ?_) (fun c_91 => ?_)
      ·
        refine lv_iconst (v := 0) hx hb dX1_match_47 (by decide) ?_
        refine W.widen (k := 0) (n := 0) (by omega) (by omega) ?_
        exact W.iret (v := 0) hx hb hr (fun t ht hWm => ⟨⟨0, (), rfl, trivial, ⟨F_86, QT.mk ht hP hD hO hR⟩⟩, hS.F ht⟩) hS.2.2 dX1_match_48
      ·
        refine lv_iconst (v := 2) hx hb dX1_match_43 (by decide) ?_
        refine lv_goto (tgt := 48) hx hb dX1_match_44 (by decide) ?_
        refine W.widen (k := 0) (n := 0) (by omega) (by omega) ?_
        exact W.iret (v := 2) hx hb hr (fun t ht hWm => ⟨⟨2, (), rfl, trivial, ⟨F_86, QT.mk ht hP hD hO hR⟩⟩, hS.F ht⟩) hS.2.2 dX1_match_48
  ·
    refine lv_iconst (v := 2) hx hb dX1_match_15 (by decide) ?_
    refine W.widen (k := 0) (n := 0) (by omega) (by omega) ?_
    exact W.iret (v := 2) hx hb hr (fun t ht hWm => ⟨⟨2, (), rfl, trivial, ⟨F, QT.mk ht hP hD hO hR⟩⟩, hS.F ht⟩) hS.2.2 dX1_match_16
set_option maxHeartbeats 4000000 in
set_option maxRecDepth 100000 in
theorem s_X1_check (l : Launch) (dC : Nat → ClassId) (dI : Nat → Nat → Nat) (cs : Nat → ClassId) (ty : TyM) (L : List Nat) (sz : Nat) (F : Nat → va_E) (h0 : Nat) (ρ : Nat) (d : Nat) (δ : Nat) (ea : Nat) (w0 : Nat) (w1 : Nat) (w2 : Nat) (w3 : Nat) (nm : Nat) (te : Nat) (lv : Nat) (fr : Nat) (lo : Nat) (hW : WT ty L) (hL_h0 : h0 ∈ L) (hT_h0 : ty h0 = (1, ρ, [d, δ, ea, w0, w1, w2, w3, nm, te])) (hlv : lv ≤ 11) (hC : lv < 11 → ∀ (sz : Nat) (F : Nat → va_E), Met l yX1_check (.code yX1_check cX1_check 8 (some .int) :: tb) ({ frames := fr + 0, cells := 0, slots := 0, locals := lo + 0 }) (va_Pc [.ref h0, .int (nI (lv + 1))] (PTE (dC, dI) cs ty L F sz [])) (va_Qi (fun (r : Int32) (_ : Unit) => True) (fun _ T9 => ∃ F2 : Nat → va_E, QT (dC, dI) cs ty L [ρ, ρ + 1] F F2 (va_A (va_pl L F) sz) T9) (va_A (va_pl L F) sz)) 0 0 (va_A (va_pl L F) sz)) : Met l yX1_check (.code yX1_check cX1_check 8 (some .int) :: tb) ({ frames := fr + 9, cells := 0, slots := 0, locals := lo + 207 }) (va_Pc [.ref h0, .int (nI lv)] (PTE (dC, dI) cs ty L F sz [])) (va_Qi (fun (r : Int32) (_ : Unit) => True) (fun _ T9 => ∃ F2 : Nat → va_E, QT (dC, dI) cs ty L [ρ, ρ + 1] F F2 (va_A (va_pl L F) sz) T9) (va_A (va_pl L F) sz)) 0 0 (va_A (va_pl L F) sz) := by
  refine Met.ofW (cc := cX1_check) (maxL := 8) (ret := (some .int)) (by decide) rfl ?_
  intro p e s m args below meth c s₁ B hml hv
  obtain ⟨rfl, ⟨hsz, hP, hK, hD0, hE, hO⟩, hG, hX⟩ := hv
  have hx := B.exec
  have hb := B.bytes
  have hr := B.returns
  have hts : ∀ w ∈ tb, w.before _ s = true := fun w h => atoms_spec (ws := .code yX1_check cX1_check 8 (some .int) :: tb) B.pre w (List.mem_cons_of_mem _ h)
  have hown : s.vm.findClass RX1 = some m.cls := findClass_of_methodNamed B.named
  have hlocks := B.notSynchronized
  subst hsz
  have hD := hD0.self (sz := s.heap.size)
  generalize hAe : va_A (va_pl L F) s.heap.size = A at hD hG hX ⊢
  have hA : ∀ q : Nat, s.heap.size ≤ q → A q := fun q h => by rw [← hAe]; exact Or.inr h
  have hS : va_S A s.heap s.heap [] := va_S.rf
  have hR : FR ty [ρ, ρ + 1] F F := FR.refl
  have hl := lv_entry ([.ref h0, .int (nI lv)]) (n := 8) (Nat.le_of_ble_eq_true rfl)
  rw [lg_entry_eq]
  generalize (lg_sl ([.ref h0, .int (nI lv)]) ++ List.replicate (8 - (lg_sl ([.ref h0, .int (nI lv)])).length) Slot.unset).toArray = ls at hl ⊢
  have hl : lv_has ls 8 [(0, .ref h0), (1, .int (nI lv))] := hl
  refine lv_iload_n hx hb dX1_check_0 rfl (lv_at hl 1 rfl) ?_
  refine lv_bipush (v := 11) hx hb dX1_check_1 (by decide) ?_
  refine lv_icmp_lt (tgt := 9) hx hb dX1_check_3 (by decide) (fun c_1 => ?_) (fun c_1 => ?_)
  ·
    have hi_2 : lv < 11 := ltN (N := 11) (Int32.not_le.mpr c_1)
    refine lv_aload_n hx hb dX1_check_9 rfl (lv_at hl 0 rfl) ?_
    obtain ⟨hi_3, ht_4, hi_5, ⟨r_6, ht_7⟩, hi_8, ⟨r_9, ht_10⟩, hi_11, ⟨r_12, ht_13⟩, hi_14, ⟨r_15, ht_16⟩, hi_17, ht_18, hi_19, ht_20⟩ := hW.chk hL_h0 hT_h0
    obtain ⟨v0_21, v1_22, v2_23, v3_24, hF_25⟩ := hO.chk hL_h0 hT_h0
    refine pg_get (ci := 1) (v := .ref d) (C := RX1) (T := TX1) (N := 11) hx hb hts it_1 hown hK hP hL_h0 hF_25 rfl 0 (by decide) (hts _ kt_357) (fun _ h9 => h9) rfl dX1_check_10 ?_
    refine lv_iconst (v := 3) hx hb dX1_check_13 (by decide) ?_
    refine lv_aload_n hx hb dX1_check_14 rfl (lv_at hl 0 rfl) ?_
    refine pg_get (ci := 1) (v := .ref nm) (C := RX1) (T := TX1) (N := 11) hx hb hts it_1 hown hK hP hL_h0 hF_25 rfl 5 (by decide) (hts _ kt_338) (fun _ h9 => h9) rfl dX1_check_15 ?_
    refine lv_iload_n hx hb dX1_check_18 rfl (lv_at hl 1 rfl) ?_
    obtain ⟨f_26, hF_27, hq_28⟩ := hO.rbytes hi_17 ht_18
    obtain ⟨b_29, r_30, hbf_31, hi_32, ht_33⟩ := hq_28 lv (by omega)
    refine pg_aald (r := b_29) hx hb hK hP hi_17 4 hF_27 rfl (vp_in_nI (by omega) (by omega)) (show f_26 ((nI lv) : Int32).toNatClampNeg = _ from by rw [show ((nI lv) : Int32) = nI lv from rfl, nI_clamp (by omega)]; exact hbf_31) dX1_check_19 ?_
    have hFc := pg_free hD hS hA
    obtain ⟨hi_34, ht_35⟩ := hW.dir hi_3 ht_4
    obtain ⟨z_36, hF_37, hq_38⟩ := hO.dir hi_3 ht_4
    refine va_calli (va_runV (As := [.int 3, .ref b_29]) (rest := []) ⟨hx, hb, hml, hown, hts⟩ (s_X2_has l dC dI cs ty L s.heap.size F d δ ea b_29 (ρ + 1) r_30 60 3 hW hi_3 ht_4 hi_32 ht_33) ⟨callB_of 2 hts (gi kt_363) rfl rfl rfl (hts _ kt_103) (hts _ kt_364) (by decide +kernel) ⟨Nat.le_of_ble_eq_true rfl, Nat.le_of_ble_eq_true rfl⟩, (hts _ kt_365), (hts _ kt_366)⟩ ⟨fun a U g mk q => ⟨q.1, PT.calling q.2⟩, pg_recv hK hP hi_3 hF_37 (q := (RX2, TX2, 2)) rfl, fun U hU hWm => ⟨rfl, PT.mk hU hWm hP hK hD hE hO⟩⟩ rfl rfl hl.1 rfl (lv_room (Nat.le_of_ble_eq_true rfl)) dX1_check_20 ⟨by show _ + 0 ≤ 0; omega, by show _ + 0 ≤ 0; omega⟩) hS (fun q _ h => hFc q h) hFc (fun r_39 u t H1 locs ht hvm hw hB hz1 hk1 hS => ?_)
    obtain ⟨F_40, hB1⟩ := hB
    obtain ⟨hP, hD, hO, hR⟩ := QT.back hB1 ht hFc hR (fun q h => absurd h List.not_mem_nil)
    have hF_41 : F_40 h0 = .inr (1, [.ref d, .ref w0, .ref w1, .ref w2, .ref w3, .ref nm, .ref te, .int v0_21, .int v1_22, .int v2_23, .int v3_24]) := (hB1.2.2.2 h0 List.not_mem_nil).trans hF_25
    have hF_42 : F_40 nm = .inl (cs 20, 12, .inr (.inr (.inr (.inr f_26)))) := (hB1.2.2.2 nm List.not_mem_nil).trans hF_27
    have hF_43 : F_40 d = .inr (2, [.ref ea, .int (nI z_36)]) := (hB1.2.2.2 d List.not_mem_nil).trans hF_37
    generalize H1 = H at hP hS ⊢
    have hw : (r_39 = 0 ∨ r_39 = 1) := hw
    have hw_44 := hw
    refine lv_if_eq (tgt := 28) hx hb dX1_check_23 (by decide) (fun c_45 => ?_) (fun c_45 => ?_)
    ·
      refine lv_aload_n hx hb dX1_check_28 rfl (lv_at hl 0 rfl) ?_
      refine pg_get (ci := 1) (v := .ref d) (C := RX1) (T := TX1) (N := 11) hx hb hts it_1 hown hK hP hL_h0 hF_41 rfl 0 (by decide) (hts _ kt_357) (fun _ h9 => h9) rfl dX1_check_29 ?_
      refine lv_aload_n hx hb dX1_check_32 rfl (lv_at hl 0 rfl) ?_
      refine pg_get (ci := 1) (v := .ref nm) (C := RX1) (T := TX1) (N := 11) hx hb hts it_1 hown hK hP hL_h0 hF_41 rfl 5 (by decide) (hts _ kt_338) (fun _ h9 => h9) rfl dX1_check_33 ?_
      refine lv_iload_n hx hb dX1_check_36 rfl (lv_at hl 1 rfl) ?_
      obtain ⟨b_46, r_47, hbf_48, hi_49, ht_50⟩ := hq_28 lv (by omega)
      refine pg_aald (r := b_46) hx hb hK hP hi_17 4 hF_42 rfl (vp_in_nI (by omega) (by omega)) (show f_26 ((nI lv) : Int32).toNatClampNeg = _ from by rw [show ((nI lv) : Int32) = nI lv from rfl, nI_clamp (by omega)]; exact hbf_48) dX1_check_37 ?_
      obtain ⟨q_51, v_52, hr_q_51, hXc_q_51⟩ := hG.2.2.2.2 ("PostGate$Checker", 110, "v=spf1", [118, 61, 115, 112, 102, 49]) (by decide +kernel)
      have hXc_q_51 : SXc q_51 v_52 6 (cct [118, 61, 115, 112, 102, 49]) A s s.heap := hXc_q_51
      have hX_q_51 : SX q_51 v_52 6 A s s.heap := hXc_q_51.sx
      obtain ⟨xo_q_51, xc_q_51, xv_q_51, xt_q_51, xn_q_51⟩ := id hXc_q_51
      have hr_q_51 : vk_R "PostGate$Checker" 110 "v=spf1" q_51 s := hr_q_51
      refine va_ldcS hx hb hown hr_q_51 dX1_check_38 ?_
      refine lv_iconst (v := 1) hx hb dX1_check_40 (by decide) ?_
      have hFc := pg_free hD hS hA
      refine va_calli (va_runV (As := [.ref b_46, .ref q_51, .int 1]) (rest := []) ⟨hx, hb, hml, hown, hts⟩ (s_X2_onlyText l dC dI cs ty L H.size F_40 d δ ea b_46 (ρ + 1) r_47 60 q_51 v_52 6 1 hW hi_3 ht_4 hi_49 ht_50) ⟨callB_of 3 hts (gi kt_393) rfl rfl rfl (hts _ kt_103) (hts _ kt_394) (by decide +kernel) ⟨Nat.le_of_ble_eq_true rfl, Nat.le_of_ble_eq_true rfl⟩, (hts _ kt_395), (hts _ kt_396)⟩ ⟨fun a U g mk q => ⟨q.1, PTE.calling q.2⟩, pg_recv hK hP hi_3 hF_43 (q := (RX2, TX2, 2)) rfl, fun U hU hWm => ⟨rfl, PTE.mk hU hWm hP hK hD hE hO hG (fun x hx => by rw [List.mem_singleton] at hx; subst hx; exact hX_q_51) hS hFc⟩⟩ rfl rfl hl.1 rfl (lv_room (Nat.le_of_ble_eq_true rfl)) dX1_check_41 ⟨by show _ + 0 ≤ 0; omega, by show _ + 0 ≤ 0; omega⟩) hS (fun q _ h => hFc q h) hFc (fun r_53 u t H1 locs ht hvm hw hB hz1 hk1 hS => ?_)
      obtain ⟨F_54, hB1⟩ := hB
      obtain ⟨hP, hD, hO, hR⟩ := QT.back hB1 ht hFc hR (fun q h => absurd h List.not_mem_nil)
      have hF_55 : F_54 h0 = .inr (1, [.ref d, .ref w0, .ref w1, .ref w2, .ref w3, .ref nm, .ref te, .int v0_21, .int v1_22, .int v2_23, .int v3_24]) := (hB1.2.2.2 h0 List.not_mem_nil).trans hF_41
      have hF_56 : F_54 nm = .inl (cs 20, 12, .inr (.inr (.inr (.inr f_26)))) := (hB1.2.2.2 nm List.not_mem_nil).trans hF_42
      have hF_57 : F_54 d = .inr (2, [.ref ea, .int (nI z_36)]) := (hB1.2.2.2 d List.not_mem_nil).trans hF_43
      generalize H1 = H at hP hS ⊢
      have hw : True := hw
      have hw_58 := hw
      refine lv_istore_n (lv' := [(2, .int r_53), (0, .ref h0), (1, .int (nI lv))]) hx hb dX1_check_44 rfl hl (by decide) rfl (fun ls hl => ?_)
      refine lv_iload_n hx hb dX1_check_45 rfl (lv_at hl 0 rfl) ?_
      refine lv_if_ge (tgt := 61) hx hb dX1_check_46 (by decide) (fun c_59 => ?_) (fun c_59 => ?_)
      ·
        refine lv_aload_n hx hb dX1_check_61 rfl (lv_at hl 1 rfl) ?_
        refine pg_get (ci := 1) (v := .ref d) (C := RX1) (T := TX1) (N := 11) hx hb hts it_1 hown hK hP hL_h0 hF_55 rfl 0 (by decide) (hts _ kt_357) (fun _ h9 => h9) rfl dX1_check_62 ?_
        refine lv_iload_n hx hb dX1_check_65 rfl (lv_at hl 0 rfl) ?_
        have hFc := pg_free hD hS hA
        refine va_callr (va_runV (As := [.int r_53]) (rest := []) ⟨hx, hb, hml, hown, hts⟩ (s_X2_valueAt l dC dI cs ty L H.size F_54 d δ ea r_53 hW hi_3 ht_4) ⟨callB_of 1 hts (gi kt_359) rfl rfl rfl (hts _ kt_103) (hts _ kt_360) (by decide +kernel) ⟨Nat.le_of_ble_eq_true rfl, Nat.le_of_ble_eq_true rfl⟩, (hts _ kt_361), (hts _ kt_362)⟩ ⟨fun a U g mk q => ⟨q.1, PT.calling q.2⟩, pg_recv hK hP hi_3 hF_57 (q := (RX2, TX2, 2)) rfl, fun U hU hWm => ⟨rfl, PT.mk hU hWm hP hK hD hE hO⟩⟩ rfl rfl hl.1 rfl (lv_room (Nat.le_of_ble_eq_true rfl)) dX1_check_66 ⟨by show _ + 0 ≤ 0; omega, by show _ + 0 ≤ 0; omega⟩) hS (fun q _ h => hFc q h) hFc (fun u r_60 t H1 locs ht hvm hw hB hz1 hk1 hS => ?_)
        obtain ⟨F_61, vr_62, μ_63, hB1, hq_64, hq_65⟩ := hB
        obtain ⟨hP, hD, hO, hR⟩ := QT.back hB1 ht hFc hR (fun q h => absurd h List.not_mem_nil)
        have hF_66 : F_61 h0 = .inr (1, [.ref d, .ref w0, .ref w1, .ref w2, .ref w3, .ref nm, .ref te, .int v0_21, .int v1_22, .int v2_23, .int v3_24]) := (hB1.2.2.2 h0 List.not_mem_nil).trans hF_55
        have hF_67 : F_61 nm = .inl (cs 20, 12, .inr (.inr (.inr (.inr f_26)))) := (hB1.2.2.2 nm List.not_mem_nil).trans hF_56
        have hF_68 : F_61 d = .inr (2, [.ref ea, .int (nI z_36)]) := (hB1.2.2.2 d List.not_mem_nil).trans hF_57
        generalize H1 = H at hP hS ⊢
        refine lv_astore_n (lv' := [(3, .ref r_60), (2, .int r_53), (0, .ref h0), (1, .int (nI lv))]) hx hb dX1_check_69 rfl hl (by decide) rfl (fun ls hl => ?_)
        refine lv_aload_n hx hb dX1_check_70 rfl (lv_at hl 2 rfl) ?_
        refine pg_get (ci := 1) (v := .ref te) (C := RX1) (T := TX1) (N := 11) hx hb hts it_1 hown hK hP hL_h0 hF_66 rfl 6 (by decide) (hts _ kt_350) (fun _ h9 => h9) rfl dX1_check_71 ?_
        refine lv_iload_n hx hb dX1_check_74 rfl (lv_at hl 3 rfl) ?_
        obtain ⟨f_69, hF_70, hq_71⟩ := hO.rterm hi_19 ht_20
        obtain ⟨b_72, hbf_73, hi_74, ht_75⟩ := hq_71 lv (by omega)
        refine pg_aald (r := b_72) hx hb hK hP hi_19 6 hF_70 rfl (vp_in_nI (by omega) (by omega)) (show f_69 ((nI lv) : Int32).toNatClampNeg = _ from by rw [show ((nI lv) : Int32) = nI lv from rfl, nI_clamp (by omega)]; exact hbf_73) dX1_check_75 ?_
        refine lv_astore (lv' := [(4, .ref b_72), (3, .ref r_60), (2, .int r_53), (0, .ref h0), (1, .int (nI lv))]) hx hb dX1_check_76 hl (by decide) rfl (fun ls hl => ?_)
        refine lv_aload_n hx hb dX1_check_78 rfl (lv_at hl 1 rfl) ?_
        refine lv_aload hx hb dX1_check_79 (lv_at hl 0 rfl) ?_
        have hFc := pg_free hD hS hA
        refine va_calli (va_runS (As := [.ref r_60, .ref b_72]) (rest := []) ⟨hx, hb, hml, hown, hts⟩ (s_X1_readTerms l dC dI cs ty L H.size F_61 r_60 μ_63 vr_62 700 b_72 ρ hW hq_64 hq_65 hi_74 ht_75) ⟨callB_of 2 hts (gi kt_397) rfl rfl rfl (hts _ kt_310) (hts _ kt_398) (by decide +kernel) ⟨Nat.le_of_ble_eq_true rfl, Nat.le_of_ble_eq_true rfl⟩, (hts _ kt_399)⟩ ⟨fun a U g mk q => ⟨q.1, PTE.calling q.2⟩, fun U hU hWm => ⟨rfl, PTE.mk hU hWm hP hK hD hE hO hG (fun x hx => absurd hx List.not_mem_nil) hS hFc⟩⟩ rfl rfl hl.1 rfl (lv_room (Nat.le_of_ble_eq_true rfl)) dX1_check_81 ⟨by show _ + 0 ≤ 0; omega, by show _ + 0 ≤ 0; omega⟩) hS (fun q _ h => hFc q h) hFc (fun r_76 u t H1 locs ht hvm hw hB hz1 hk1 hS => ?_)
        obtain ⟨F_77, hB1⟩ := hB
        obtain ⟨hP, hD, hO, hR⟩ := QT.back hB1 ht hFc hR (fun q h => by simp only [List.mem_cons, List.not_mem_nil, or_false] at h ⊢; omega)
        have hF_78 : F_77 nm = .inl (cs 20, 12, .inr (.inr (.inr (.inr f_26)))) := (hB1.2.2.2 nm (by rw [ht_18]; simp)).trans hF_67
        generalize H1 = H at hP hS ⊢
        have hw : True := hw
        have hw_79 := hw
        refine lv_istore (lv' := [(5, .int r_76), (4, .ref b_72), (3, .ref r_60), (2, .int r_53), (0, .ref h0), (1, .int (nI lv))]) hx hb dX1_check_84 hl (by decide) rfl (fun ls hl => ?_)
        refine lv_iload hx hb dX1_check_86 (lv_at hl 0 rfl) ?_
        refine lv_iconst (v := (-1)) hx hb dX1_check_88 (by decide) ?_
        refine lv_icmp_ne (tgt := 95) hx hb dX1_check_89 (by decide) (fun c_80 => ?_) (fun c_80 => ?_)
        ·
          refine va_ldcS hx hb hown hr_q_51 dX1_check_95 ?_
          have hFc := pg_free hD hS hA
          refine va_calli (va_runV (As := []) (rest := []) ⟨hx, hb, hml, hown, hts⟩ (s_J0_length_8abf5 l dC dI cs ty L H.size F_77 q_51 v_52 6 hW ) ⟨callB_of 0 hts (gi kt_71) rfl rfl rfl (hts _ kt_51) (hts _ kt_325) (by decide +kernel) ⟨Nat.le_of_ble_eq_true rfl, Nat.le_of_ble_eq_true rfl⟩, (hts _ kt_73), (hts _ kt_74)⟩ ⟨fun a U g mk q => ⟨q.1, PTE.calling q.2⟩, sx_recv hX_q_51 hS, fun U hU hWm => ⟨rfl, PTE.mk hU hWm hP hK hD hE hO hG (fun x hx => by rw [List.mem_singleton] at hx; subst hx; exact hX_q_51) hS hFc⟩⟩ rfl rfl hl.1 rfl (lv_room (Nat.le_of_ble_eq_true rfl)) dX1_check_97 ⟨by show _ + 0 ≤ 0; omega, by show _ + 0 ≤ 0; omega⟩) hS (fun q _ h => hFc q h) hFc (fun r_81 u t H1 locs ht hvm hw hB hz1 hk1 hS => ?_)
          obtain ⟨F_82, hB1⟩ := hB
          obtain ⟨hP, hD, hO, hR⟩ := QT.back hB1 ht hFc hR (fun q h => absurd h List.not_mem_nil)
          have hF_83 : F_82 nm = .inl (cs 20, 12, .inr (.inr (.inr (.inr f_26)))) := (hB1.2.2.2 nm List.not_mem_nil).trans hF_78
          generalize H1 = H at hP hS ⊢
          have hw : r_81 = nI 6 := hw
          have hw_84 := hw
          refine lv_iconst (v := 1) hx hb dX1_check_100 (by decide) ?_
          refine lv_iadd hx hb dX1_check_101 ?_
          refine lv_topi (fun x_85 ex_85 => ?_)
          obtain rfl : x_85 = (nI 7) := ex_85.trans (by rw [hw_84]; decide)
          refine lv_istore (lv' := [(6, .int (nI 7)), (5, .int r_76), (4, .ref b_72), (3, .ref r_60), (2, .int r_53), (0, .ref h0), (1, .int (nI lv))]) hx hb dX1_check_102 hl (by decide) rfl (fun ls hl => ?_)
          refine W.widen (k := 0) (n := 0) (by omega) (by omega) ?_
          refine pl_loop (σ := Nat) A (dC, dI) cs ty L [ρ, ρ + 1] F 104 8 (fun j => [(6, .int (nI j)), (5, .int r_76), (4, .ref b_72), (3, .ref r_60), (2, .int r_53), (0, .ref h0), (1, .int (nI lv))]) (fun j => []) (fun j _ => j ≤ 10000) (fun j => 10000 - j) ?_ 7 F_82 (by omega) hO hR _ _ hP hD hS ls (lv_sub hl [0, 1, 2, 3, 4, 5, 6] rfl)
          rintro j F_86 hv_87 hO hR ih_88 H locs hP hD hS ls hl
          have hl : lv_has ls 8 [(6, .int (nI j)), (5, .int r_76), (4, .ref b_72), (3, .ref r_60), (2, .int r_53), (0, .ref h0), (1, .int (nI lv))] := hl
          have hv_87 : j ≤ 10000 := hv_87
          refine W.eq (g2 := F0 m 104 ls []) rfl ?_
          refine lv_iload hx hb dX1_check_104 (lv_at hl 0 rfl) ?_
          refine lv_aload_n hx hb dX1_check_106 rfl (lv_at hl 3 rfl) ?_
          obtain ⟨hi_89, ht_90, hq_91⟩ := hW.bytes hq_64 hq_65
          obtain ⟨z_92, o_93, hF_94, hq_95, hq_96⟩ := hO.bytes hq_64 hq_65
          refine pg_getN (ci := 0) (v := .int (nI z_92)) (C := RX0) (T := TX0) (N := 3) hx hb hts it_0 hown hK hP hq_64 hF_94 rfl 1 (by decide) (hE.nest kn_7) (fun _ h9 => h9) rfl dX1_check_107 ?_
          refine lv_icmp_ge (tgt := 184) hx hb dX1_check_110 (by decide) (fun c_97 => ?_) (fun c_97 => ?_)
          ·
            have hi_98 : z_92 ≤ j := leN (N := z_92) c_97
            refine lv_iload hx hb dX1_check_184 (lv_at hl 1 rfl) ?_
            refine lv_if_ne (tgt := 191) hx hb dX1_check_186 (by decide) (fun c_99 => ?_) (fun c_99 => ?_)
            ·
              refine lv_aload hx hb dX1_check_191 (lv_at hl 2 rfl) ?_
              refine lv_aload_n hx hb dX1_check_193 rfl (lv_at hl 3 rfl) ?_
              refine lv_iload hx hb dX1_check_194 (lv_at hl 1 rfl) ?_
              refine lv_aload_n hx hb dX1_check_196 rfl (lv_at hl 3 rfl) ?_
              refine lv_bipush (v := 32) hx hb dX1_check_197 (by decide) ?_
              refine lv_iload hx hb dX1_check_199 (lv_at hl 1 rfl) ?_
              refine lv_aload_n hx hb dX1_check_201 rfl (lv_at hl 3 rfl) ?_
              refine pg_getN (ci := 0) (v := .int (nI z_92)) (C := RX0) (T := TX0) (N := 3) hx hb hts it_0 hown hK hP hq_64 hF_94 rfl 1 (by decide) (hE.nest kn_7) (fun _ h9 => h9) rfl dX1_check_202 ?_
              have hFc := pg_free hD hS hA
              refine va_calli (va_runV (As := [.int 32, .int r_76, .int (nI z_92)]) (rest := [.int r_76, .ref r_60, .ref b_72]) ⟨hx, hb, hml, hown, hts⟩ (s_X0_find l dC dI cs ty L H.size F_86 r_60 μ_63 vr_62 700 32 r_76 (nI z_92) hW hq_64 hq_65) ⟨callB_of 3 hts (gi kt_122) rfl rfl rfl (hts _ kt_1) (hts _ kt_308) (by decide +kernel) ⟨Nat.le_of_ble_eq_true rfl, Nat.le_of_ble_eq_true rfl⟩, (hts _ kt_124), (hts _ kt_125)⟩ ⟨fun a U g mk q => ⟨q.1, PT.calling q.2⟩, pg_recv hK hP hq_64 hF_94 (q := (RX0, TX0, 3)) rfl, fun U hU hWm => ⟨rfl, PT.mk hU hWm hP hK hD hE hO⟩⟩ rfl rfl hl.1 rfl (lv_room (Nat.le_of_ble_eq_true rfl)) dX1_check_205 ⟨by show _ + 0 ≤ 0; omega, by show _ + 0 ≤ 0; omega⟩) hS (fun q _ h => hFc q h) hFc (fun r_100 u t H1 locs ht hvm hw hB hz1 hk1 hS => ?_)
              obtain ⟨F_101, hB1⟩ := hB
              obtain ⟨hP, hD, hO, hR⟩ := QT.back hB1 ht hFc hR (fun q h => absurd h List.not_mem_nil)
              have hF_102 : F_101 r_60 = .inr (0, [.ref vr_62, .int (nI z_92), .int o_93]) := (hB1.2.2.2 r_60 List.not_mem_nil).trans hF_94
              generalize H1 = H at hP hS ⊢
              have hw : (r_100 = (nI z_92) ∨ ∃ j : Nat, j < 700 ∧ r_100 = nI j) := hw
              have hw_103 := hw
              obtain ⟨t_104, ht_104, et_104⟩ := fnd hw_103 (by omega) (by omega)
              subst et_104
              have hFc := pg_free hD hS hA
              obtain ⟨v0_105, v1_106, v2_107, z_108, v4_109, v5_110, hF_111, hq_112⟩ := hO.term hi_74 ht_75
              refine va_callv (va_runV (As := [.ref r_60, .int r_76, .int (nI t_104)]) (rest := []) ⟨hx, hb, hml, hown, hts⟩ (s_X10_read l dC dI cs ty L H.size F_101 b_72 ρ r_60 μ_63 vr_62 700 t_104 r_76 hW hi_74 ht_75 hq_64 hq_65 (by omega)) ⟨callB_of 3 hts (gi kt_329) rfl rfl rfl (hts _ kt_90) (hts _ kt_330) (by decide +kernel) ⟨Nat.le_of_ble_eq_true rfl, Nat.le_of_ble_eq_true rfl⟩, (hts _ kt_331), (hts _ kt_332)⟩ ⟨fun a U g mk q => ⟨q.1, PTE.calling q.2⟩, pg_recv hK hP hi_74 hF_111 (q := (RX10, TX10, 6)) rfl, fun U hU hWm => ⟨rfl, PTE.mk hU hWm hP hK hD hE hO hG (fun x hx => absurd hx List.not_mem_nil) hS hFc⟩⟩ rfl rfl hl.1 rfl (lv_room (Nat.le_of_ble_eq_true rfl)) dX1_check_208 ⟨by show _ + 0 ≤ 0; omega, by show _ + 0 ≤ 0; omega⟩) hS (fun q _ h => hFc q h) hFc (fun u t H1 locs ht hvm hw hB hz1 hk1 hS => ?_)
              obtain ⟨F_114, hB1⟩ := hB
              obtain ⟨hP, hD, hO, hR⟩ := QT.back hB1 ht hFc hR (fun q h => by simp only [List.mem_cons, List.not_mem_nil, or_false] at h ⊢; omega)
              generalize H1 = H at hP hS ⊢
              refine lv_aload_n hx hb dX1_check_211 rfl (lv_at hl 5 rfl) ?_
              refine lv_aload_n hx hb dX1_check_212 rfl (lv_at hl 3 rfl) ?_
              refine lv_iload_n hx hb dX1_check_213 rfl (lv_at hl 6 rfl) ?_
              have hFc := pg_free hD hS hA
              obtain ⟨v0_115, v1_116, v2_117, v3_118, hF_119⟩ := hO.chk hL_h0 hT_h0
              refine va_calli (va_runV (As := [.ref r_60, .int (nI lv)]) (rest := []) ⟨hx, hb, hml, hown, hts⟩ (s_X1_follow l dC dI cs ty L H.size F_114 h0 ρ d δ ea w0 w1 w2 w3 nm te r_60 μ_63 vr_62 700 lv fr lo hW hL_h0 hT_h0 hq_64 hq_65 (by omega) (hC (by omega))) ⟨callB_of 2 hts (gi kt_400) rfl rfl rfl (hts _ kt_310) (hts _ kt_401) (by decide +kernel) ⟨by show fr + 7 + 1 ≤ fr + 9; omega, by show 8 + (4 + 11) + (lo + 161) ≤ lo + 207; omega⟩, (hts _ kt_402), (hts _ kt_403)⟩ ⟨fun a U g mk q => ⟨q.1, PTE.calling q.2⟩, pg_recv hK hP hL_h0 hF_119 (q := (RX1, TX1, 11)) rfl, fun U hU hWm => ⟨rfl, PTE.mk hU hWm hP hK hD hE hO hG (fun x hx => absurd hx List.not_mem_nil) hS hFc⟩⟩ rfl rfl hl.1 rfl (lv_room (Nat.le_of_ble_eq_true rfl)) dX1_check_214 ⟨by show _ + 0 ≤ 0; omega, by show _ + 0 ≤ 0; omega⟩) hS (fun q _ h => hFc q h) hFc (fun r_120 u t H1 locs ht hvm hw hB hz1 hk1 hS => ?_)
              obtain ⟨F_121, hB1⟩ := hB
              obtain ⟨hP, hD, hO, hR⟩ := QT.back hB1 ht hFc hR (fun q h => by simp only [List.mem_cons, List.not_mem_nil, or_false] at h ⊢; omega)
              generalize H1 = H at hP hS ⊢
              have hw : True := hw
              have hw_122 := hw
              refine W.widen (k := 0) (n := 0) (by omega) (by omega) ?_
              exact W.iret (v := r_120) hx hb hr (fun t ht hWm => ⟨⟨r_120, (), rfl, trivial, ⟨F_121, QT.mk ht hP hD hO hR⟩⟩, hS.F ht⟩) hS.2.2 dX1_check_217
            ·
              refine lv_iconst (v := 1) hx hb dX1_check_189 (by decide) ?_
              refine W.widen (k := 0) (n := 0) (by omega) (by omega) ?_
              exact W.iret (v := 1) hx hb hr (fun t ht hWm => ⟨⟨1, (), rfl, trivial, ⟨F_86, QT.mk ht hP hD hO hR⟩⟩, hS.F ht⟩) hS.2.2 dX1_check_190
          ·
            have hi_123 : j < z_92 := ltN (N := z_92) c_97
            refine lv_aload_n hx hb dX1_check_113 rfl (lv_at hl 3 rfl) ?_
            refine lv_iload hx hb dX1_check_114 (lv_at hl 0 rfl) ?_
            have hFc := pg_free hD hS hA
            refine va_calli (va_runS (As := [.ref r_60, .int (nI j)]) (rest := []) ⟨hx, hb, hml, hown, hts⟩ (s_X1_startsTerm l dC dI cs ty L H.size F_86 r_60 μ_63 vr_62 700 (nI j) hW hq_64 hq_65) ⟨callB_of 2 hts (gi kt_326) rfl rfl rfl (hts _ kt_310) (hts _ kt_327) (by decide +kernel) ⟨Nat.le_of_ble_eq_true rfl, Nat.le_of_ble_eq_true rfl⟩, (hts _ kt_328)⟩ ⟨fun a U g mk q => ⟨q.1, PT.calling q.2⟩, fun U hU hWm => ⟨rfl, PT.mk hU hWm hP hK hD hE hO⟩⟩ rfl rfl hl.1 rfl (lv_room (Nat.le_of_ble_eq_true rfl)) dX1_check_116 ⟨by show _ + 0 ≤ 0; omega, by show _ + 0 ≤ 0; omega⟩) hS (fun q _ h => hFc q h) hFc (fun r_124 u t H1 locs ht hvm hw hB hz1 hk1 hS => ?_)
            obtain ⟨F_125, hB1⟩ := hB
            obtain ⟨hP, hD, hO, hR⟩ := QT.back hB1 ht hFc hR (fun q h => absurd h List.not_mem_nil)
            have hF_126 : F_125 r_60 = .inr (0, [.ref vr_62, .int (nI z_92), .int o_93]) := (hB1.2.2.2 r_60 List.not_mem_nil).trans hF_94
            generalize H1 = H at hP hS ⊢
            have hw : (r_124 = 0 ∨ r_124 = 1) := hw
            have hw_127 := hw
            refine lv_if_ne (tgt := 125) hx hb dX1_check_119 (by decide) (fun c_128 => ?_) (fun c_128 => ?_)
            ·
              refine lv_aload hx hb dX1_check_125 (lv_at hl 2 rfl) ?_
              refine lv_aload_n hx hb dX1_check_127 rfl (lv_at hl 3 rfl) ?_
              refine lv_iload hx hb dX1_check_128 (lv_at hl 0 rfl) ?_
              refine lv_aload_n hx hb dX1_check_130 rfl (lv_at hl 3 rfl) ?_
              refine lv_bipush (v := 32) hx hb dX1_check_131 (by decide) ?_
              refine lv_iload hx hb dX1_check_133 (lv_at hl 0 rfl) ?_
              refine lv_aload_n hx hb dX1_check_135 rfl (lv_at hl 3 rfl) ?_
              refine pg_getN (ci := 0) (v := .int (nI z_92)) (C := RX0) (T := TX0) (N := 3) hx hb hts it_0 hown hK hP hq_64 hF_126 rfl 1 (by decide) (hE.nest kn_7) (fun _ h9 => h9) rfl dX1_check_136 ?_
              have hFc := pg_free hD hS hA
              refine va_calli (va_runV (As := [.int 32, .int (nI j), .int (nI z_92)]) (rest := [.int (nI j), .ref r_60, .ref b_72]) ⟨hx, hb, hml, hown, hts⟩ (s_X0_find l dC dI cs ty L H.size F_125 r_60 μ_63 vr_62 700 32 (nI j) (nI z_92) hW hq_64 hq_65) ⟨callB_of 3 hts (gi kt_122) rfl rfl rfl (hts _ kt_1) (hts _ kt_308) (by decide +kernel) ⟨Nat.le_of_ble_eq_true rfl, Nat.le_of_ble_eq_true rfl⟩, (hts _ kt_124), (hts _ kt_125)⟩ ⟨fun a U g mk q => ⟨q.1, PT.calling q.2⟩, pg_recv hK hP hq_64 hF_126 (q := (RX0, TX0, 3)) rfl, fun U hU hWm => ⟨rfl, PT.mk hU hWm hP hK hD hE hO⟩⟩ rfl rfl hl.1 rfl (lv_room (Nat.le_of_ble_eq_true rfl)) dX1_check_139 ⟨by show _ + 0 ≤ 0; omega, by show _ + 0 ≤ 0; omega⟩) hS (fun q _ h => hFc q h) hFc (fun r_129 u t H1 locs ht hvm hw hB hz1 hk1 hS => ?_)
              obtain ⟨F_130, hB1⟩ := hB
              obtain ⟨hP, hD, hO, hR⟩ := QT.back hB1 ht hFc hR (fun q h => absurd h List.not_mem_nil)
              have hF_131 : F_130 r_60 = .inr (0, [.ref vr_62, .int (nI z_92), .int o_93]) := (hB1.2.2.2 r_60 List.not_mem_nil).trans hF_126
              generalize H1 = H at hP hS ⊢
              have hw : (r_129 = (nI z_92) ∨ ∃ j : Nat, j < 700 ∧ r_129 = nI j) := hw
              have hw_132 := hw
              obtain ⟨t_133, ht_133, et_133⟩ := fnd hw_132 (by omega) (by omega)
              subst et_133
              have hFc := pg_free hD hS hA
              obtain ⟨v0_134, v1_135, v2_136, z_137, v4_138, v5_139, hF_140, hq_141⟩ := hO.term hi_74 ht_75
              refine va_callv (va_runV (As := [.ref r_60, .int (nI j), .int (nI t_133)]) (rest := []) ⟨hx, hb, hml, hown, hts⟩ (s_X10_read l dC dI cs ty L H.size F_130 b_72 ρ r_60 μ_63 vr_62 700 t_133 (nI j) hW hi_74 ht_75 hq_64 hq_65 (by omega)) ⟨callB_of 3 hts (gi kt_329) rfl rfl rfl (hts _ kt_90) (hts _ kt_330) (by decide +kernel) ⟨Nat.le_of_ble_eq_true rfl, Nat.le_of_ble_eq_true rfl⟩, (hts _ kt_331), (hts _ kt_332)⟩ ⟨fun a U g mk q => ⟨q.1, PTE.calling q.2⟩, pg_recv hK hP hi_74 hF_140 (q := (RX10, TX10, 6)) rfl, fun U hU hWm => ⟨rfl, PTE.mk hU hWm hP hK hD hE hO hG (fun x hx => absurd hx List.not_mem_nil) hS hFc⟩⟩ rfl rfl hl.1 rfl (lv_room (Nat.le_of_ble_eq_true rfl)) dX1_check_142 ⟨by show _ + 0 ≤ 0; omega, by show _ + 0 ≤ 0; omega⟩) hS (fun q _ h => hFc q h) hFc (fun u t H1 locs ht hvm hw hB hz1 hk1 hS => ?_)
              obtain ⟨F_143, hB1⟩ := hB
              obtain ⟨hP, hD, hO, hR⟩ := QT.back hB1 ht hFc hR (fun q h => by simp only [List.mem_cons, List.not_mem_nil, or_false] at h ⊢; omega)
              generalize H1 = H at hP hS ⊢
              refine lv_aload_n hx hb dX1_check_145 rfl (lv_at hl 5 rfl) ?_
              refine lv_aload_n hx hb dX1_check_146 rfl (lv_at hl 3 rfl) ?_
              refine lv_iload_n hx hb dX1_check_147 rfl (lv_at hl 6 rfl) ?_
              have hFc := pg_free hD hS hA
              obtain ⟨v0_144, v1_145, v2_146, v3_147, hF_148⟩ := hO.chk hL_h0 hT_h0
              refine va_calli (va_runV (As := [.ref r_60, .int (nI lv)]) (rest := []) ⟨hx, hb, hml, hown, hts⟩ (s_X1_match l dC dI cs ty L H.size F_143 h0 ρ d δ ea w0 w1 w2 w3 nm te r_60 μ_63 vr_62 700 lv fr lo hW hL_h0 hT_h0 hq_64 hq_65 (by omega) (hC (by omega))) ⟨callB_of 2 hts (gi kt_404) rfl rfl rfl (hts _ kt_310) (hts _ kt_405) (by decide +kernel) ⟨by show fr + 7 + 1 ≤ fr + 9; omega, by show 8 + (5 + 11) + (lo + 161) ≤ lo + 207; omega⟩, (hts _ kt_406), (hts _ kt_407)⟩ ⟨fun a U g mk q => ⟨q.1, PTE.calling q.2⟩, pg_recv hK hP hL_h0 hF_148 (q := (RX1, TX1, 11)) rfl, fun U hU hWm => ⟨rfl, PTE.mk hU hWm hP hK hD hE hO hG (fun x hx => absurd hx List.not_mem_nil) hS hFc⟩⟩ rfl rfl hl.1 rfl (lv_room (Nat.le_of_ble_eq_true rfl)) dX1_check_148 ⟨by show _ + 0 ≤ 0; omega, by show _ + 0 ≤ 0; omega⟩) hS (fun q _ h => hFc q h) hFc (fun r_149 u t H1 locs ht hvm hw hB hz1 hk1 hS => ?_)
              obtain ⟨F_150, hB1⟩ := hB
              obtain ⟨hP, hD, hO, hR⟩ := QT.back hB1 ht hFc hR (fun q h => by simp only [List.mem_cons, List.not_mem_nil, or_false] at h ⊢; omega)
              generalize H1 = H at hP hS ⊢
              have hw : True := hw
              have hw_151 := hw
              refine lv_istore (lv' := [(7, .int r_149), (6, .int (nI j)), (5, .int r_76), (4, .ref b_72), (3, .ref r_60), (2, .int r_53), (0, .ref h0), (1, .int (nI lv))]) hx hb dX1_check_151 hl (by decide) rfl (fun ls hl => ?_)
              refine lv_iload hx hb dX1_check_153 (lv_at hl 0 rfl) ?_
              refine lv_if_eq (tgt := 178) hx hb dX1_check_155 (by decide) (fun c_152 => ?_) (fun c_152 => ?_)
              ·
                refine lv_iinc (v := (nI (j + 1))) (lv' := [(6, .int (nI (j + 1))), (7, .int r_149), (5, .int r_76), (4, .ref b_72), (3, .ref r_60), (2, .int r_53), (0, .ref h0), (1, .int (nI lv))]) hx hb dX1_check_178 hl (k := 1) rfl (nI_1 _) (by decide) rfl (fun ls hl => ?_)
                refine lv_goto (tgt := 104) hx hb dX1_check_181 (by decide) ?_
                refine W.widen (k := 0) (n := 0) (by omega) (by omega) ?_
                exact ih_88 (j + 1) F_150 (by first | omega | exact ⟨by omega, by omega⟩ | trivial) (by show 10000 - (j + 1) < 10000 - j; omega) hO hR _ _ hP hD hS ls (lv_sub hl [0, 2, 3, 4, 5, 6, 7] rfl)
              ·
                refine lv_iload hx hb dX1_check_158 (lv_at hl 0 rfl) ?_
                refine lv_iconst (v := 2) hx hb dX1_check_160 (by decide) ?_
                refine lv_icmp_ne (tgt := 175) hx hb dX1_check_161 (by decide) (fun c_153 => ?_) (fun c_153 => ?_)
                ·
                  refine lv_iload hx hb dX1_check_175 (lv_at hl 0 rfl) ?_
                  refine W.widen (k := 0) (n := 0) (by omega) (by omega) ?_
                  exact W.iret (v := r_149) hx hb hr (fun t ht hWm => ⟨⟨r_149, (), rfl, trivial, ⟨F_150, QT.mk ht hP hD hO hR⟩⟩, hS.F ht⟩) hS.2.2 dX1_check_177
                ·
                  refine lv_aload hx hb dX1_check_164 (lv_at hl 3 rfl) ?_
                  obtain ⟨v0_154, v1_155, v2_156, z_157, v4_158, v5_159, hF_160, hq_161⟩ := hO.term hi_74 ht_75
                  refine pg_getN (ci := 10) (v := .int v1_155) (C := RX10) (T := TX10) (N := 6) hx hb hts it_10 hown hK hP hi_74 hF_160 rfl 1 (by decide) (hE.nest kn_17) (fun _ h9 => h9) rfl dX1_check_166 ?_
                  have hFc := pg_free hD hS hA
                  refine va_calli (va_runS (As := [.int v1_155]) (rest := []) ⟨hx, hb, hml, hown, hts⟩ (s_X1_answerOf l dC dI cs ty L H.size F_150 v1_155 hW ) ⟨callB_of 1 hts (gi kt_408) rfl rfl rfl (hts _ kt_310) (hts _ kt_409) (by decide +kernel) ⟨Nat.le_of_ble_eq_true rfl, Nat.le_of_ble_eq_true rfl⟩, (hts _ kt_410)⟩ ⟨fun a U g mk q => ⟨q.1, PT.calling q.2⟩, fun U hU hWm => ⟨rfl, PT.mk hU hWm hP hK hD hE hO⟩⟩ rfl rfl hl.1 rfl (lv_room (Nat.le_of_ble_eq_true rfl)) dX1_check_169 ⟨by show _ + 0 ≤ 0; omega, by show _ + 0 ≤ 0; omega⟩) hS (fun q _ h => hFc q h) hFc (fun r_162 u t H1 locs ht hvm hw hB hz1 hk1 hS => ?_)
                  obtain ⟨F_163, hB1⟩ := hB
                  obtain ⟨hP, hD, hO, hR⟩ := QT.back hB1 ht hFc hR (fun q h => absurd h List.not_mem_nil)
                  have hF_164 : F_163 b_72 = .inr (10, [.int v0_154, .int v1_155, .int v2_156, .int (nI z_157), .int v4_158, .int v5_159]) := (hB1.2.2.2 b_72 List.not_mem_nil).trans hF_160
                  generalize H1 = H at hP hS ⊢
                  have hw : True := hw
                  have hw_165 := hw
                  refine lv_goto (tgt := 177) hx hb dX1_check_172 (by decide) ?_
                  refine W.widen (k := 0) (n := 0) (by omega) (by omega) ?_
                  exact W.iret (v := r_162) hx hb hr (fun t ht hWm => ⟨⟨r_162, (), rfl, trivial, ⟨F_163, QT.mk ht hP hD hO hR⟩⟩, hS.F ht⟩) hS.2.2 dX1_check_177
            ·
              refine lv_goto (tgt := 178) hx hb dX1_check_122 (by decide) ?_
              refine lv_iinc (v := (nI (j + 1))) (lv' := [(6, .int (nI (j + 1))), (5, .int r_76), (4, .ref b_72), (3, .ref r_60), (2, .int r_53), (0, .ref h0), (1, .int (nI lv))]) hx hb dX1_check_178 hl (k := 0) rfl (nI_1 _) (by decide) rfl (fun ls hl => ?_)
              refine lv_goto (tgt := 104) hx hb dX1_check_181 (by decide) ?_
              refine W.widen (k := 0) (n := 0) (by omega) (by omega) ?_
              exact ih_88 (j + 1) F_125 (by first | omega | exact ⟨by omega, by omega⟩ | trivial) (by show 10000 - (j + 1) < 10000 - j; omega) hO hR _ _ hP hD hS ls (lv_sub hl [0, 1, 2, 3, 4, 5, 6] rfl)
        ·
          refine lv_bipush (v := 6) hx hb dX1_check_92 (by decide) ?_
          refine W.widen (k := 0) (n := 0) (by omega) (by omega) ?_
          exact W.iret (v := 6) hx hb hr (fun t ht hWm => ⟨⟨6, (), rfl, trivial, ⟨F_77, QT.mk ht hP hD hO hR⟩⟩, hS.F ht⟩) hS.2.2 dX1_check_94
      ·
        refine lv_iload_n hx hb dX1_check_49 rfl (lv_at hl 0 rfl) ?_
        refine lv_iconst (v := (-1)) hx hb dX1_check_50 (by decide) ?_
        refine lv_icmp_ne (tgt := 58) hx hb dX1_check_51 (by decide) (fun c_166 => ?_) (fun c_166 => ?_)
        ·
          refine lv_bipush (v := 6) hx hb dX1_check_58 (by decide) ?_
          refine W.widen (k := 0) (n := 0) (by omega) (by omega) ?_
          exact W.iret (v := 6) hx hb hr (fun t ht hWm => ⟨⟨6, (), rfl, trivial, ⟨F_54, QT.mk ht hP hD hO hR⟩⟩, hS.F ht⟩) hS.2.2 dX1_check_60
        ·
          refine lv_iconst (v := 0) hx hb dX1_check_54 (by decide) ?_
          refine lv_goto (tgt := 60) hx hb dX1_check_55 (by decide) ?_
          refine W.widen (k := 0) (n := 0) (by omega) (by omega) ?_
          exact W.iret (v := 0) hx hb hr (fun t ht hWm => ⟨⟨0, (), rfl, trivial, ⟨F_54, QT.mk ht hP hD hO hR⟩⟩, hS.F ht⟩) hS.2.2 dX1_check_60
    ·
      refine lv_iconst (v := 5) hx hb dX1_check_26 (by decide) ?_
      refine W.widen (k := 0) (n := 0) (by omega) (by omega) ?_
      exact W.iret (v := 5) hx hb hr (fun t ht hWm => ⟨⟨5, (), rfl, trivial, ⟨F_40, QT.mk ht hP hD hO hR⟩⟩, hS.F ht⟩) hS.2.2 dX1_check_27
  ·
    have hi_167 : 11 ≤ lv := leN (N := 11) (Int32.not_lt.mp c_1)
    refine lv_bipush (v := 6) hx hb dX1_check_6 (by decide) ?_
    refine W.widen (k := 0) (n := 0) (by omega) (by omega) ?_
    exact W.iret (v := 6) hx hb hr (fun t ht hWm => ⟨⟨6, (), rfl, trivial, ⟨F, QT.mk ht hP hD hO hR⟩⟩, hS.F ht⟩) hS.2.2 dX1_check_8
theorem chk_rec (l : Launch) (dC : Nat → ClassId) (dI : Nat → Nat → Nat) (cs : Nat → ClassId) (ty : TyM) (L : List Nat) (h0 ρ d δ ea w0 w1 w2 w3 nm te : Nat) (hW : WT ty L) (hL_h0 : h0 ∈ L) (hT_h0 : ty h0 = (1, ρ, [d, δ, ea, w0, w1, w2, w3, nm, te])) : ∀ (k lv : Nat), lv + k = 11 → ∀ (sz : Nat) (F : Nat → va_E), Met l yX1_check (.code yX1_check cX1_check 8 (some .int) :: tb) ({ frames := 9 * (k + 1), cells := 0, slots := 0, locals := 207 * (k + 1) }) (va_Pc [.ref h0, .int (nI lv)] (PTE (dC, dI) cs ty L F sz [])) (va_Qi (fun (r : Int32) (_ : Unit) => True) (fun _ T9 => ∃ F2 : Nat → va_E, QT (dC, dI) cs ty L [ρ, ρ + 1] F F2 (va_A (va_pl L F) sz) T9) (va_A (va_pl L F) sz)) 0 0 (va_A (va_pl L F) sz) := by
  intro k
  induction k with
  | zero => intro lv h sz F; exact s_X1_check l dC dI cs ty L sz F h0 ρ d δ ea w0 w1 w2 w3 nm te lv 0 0 hW hL_h0 hT_h0 (by omega) (fun h' => absurd h' (by omega))
  | succ k ih => intro lv h sz F; exact s_X1_check l dC dI cs ty L sz F h0 ρ d δ ea w0 w1 w2 w3 nm te lv (9 * (k + 1)) (207 * (k + 1)) hW hL_h0 hT_h0 (by omega) (fun _ sz F => ih (lv + 1) (by omega) sz F)
theorem s_X1_check0 (l : Launch) (dC : Nat → ClassId) (dI : Nat → Nat → Nat) (cs : Nat → ClassId) (ty : TyM) (L : List Nat) (sz : Nat) (F : Nat → va_E) (h0 : Nat) (ρ : Nat) (d : Nat) (δ : Nat) (ea : Nat) (w0 : Nat) (w1 : Nat) (w2 : Nat) (w3 : Nat) (nm : Nat) (te : Nat) (hW : WT ty L) (hL_h0 : h0 ∈ L) (hT_h0 : ty h0 = (1, ρ, [d, δ, ea, w0, w1, w2, w3, nm, te])) : Met l yX1_check (.code yX1_check cX1_check 8 (some .int) :: tb) ({ frames := 108, cells := 0, slots := 0, locals := 2484 }) (va_Pc [.ref h0, .int 0] (PTE (dC, dI) cs ty L F sz [])) (va_Qi (fun (r : Int32) (_ : Unit) => True) (fun _ T9 => ∃ F2 : Nat → va_E, QT (dC, dI) cs ty L [ρ, ρ + 1] F F2 (va_A (va_pl L F) sz) T9) (va_A (va_pl L F) sz)) 0 0 (va_A (va_pl L F) sz) := chk_rec l dC dI cs ty L h0 ρ d δ ea w0 w1 w2 w3 nm te hW hL_h0 hT_h0 11 0 rfl sz F
set_option maxHeartbeats 4000000 in
set_option maxRecDepth 100000 in
theorem s_X1_judge (l : Launch) (dC : Nat → ClassId) (dI : Nat → Nat → Nat) (cs : Nat → ClassId) (ty : TyM) (L : List Nat) (sz : Nat) (F : Nat → va_E) (h0 : Nat) (ρ : Nat) (d : Nat) (δ : Nat) (ea : Nat) (w0 : Nat) (w1 : Nat) (w2 : Nat) (w3 : Nat) (nm : Nat) (te : Nat) (hW : WT ty L) (hL_h0 : h0 ∈ L) (hT_h0 : ty h0 = (1, ρ, [d, δ, ea, w0, w1, w2, w3, nm, te])) : Met l yX1_judge (.code yX1_judge cX1_judge 1 (some .int) :: tb) ({ frames := 109, cells := 0, slots := 0, locals := 2511 }) (va_Pc [.ref h0] (PTE (dC, dI) cs ty L F sz [])) (va_Qi (fun (r : Int32) (_ : Unit) => True) (fun _ T9 => ∃ F2 : Nat → va_E, QT (dC, dI) cs ty L [ρ, ρ + 1] F F2 (va_A (va_pl L F) sz) T9) (va_A (va_pl L F) sz)) 0 0 (va_A (va_pl L F) sz) := by
  refine Met.ofW (cc := cX1_judge) (maxL := 1) (ret := (some .int)) (by decide) rfl ?_
  intro p e s m args below meth c s₁ B hml hv
  obtain ⟨rfl, ⟨hsz, hP, hK, hD0, hE, hO⟩, hG, hX⟩ := hv
  have hx := B.exec
  have hb := B.bytes
  have hr := B.returns
  have hts : ∀ w ∈ tb, w.before _ s = true := fun w h => atoms_spec (ws := .code yX1_judge cX1_judge 1 (some .int) :: tb) B.pre w (List.mem_cons_of_mem _ h)
  have hown : s.vm.findClass RX1 = some m.cls := findClass_of_methodNamed B.named
  have hlocks := B.notSynchronized
  subst hsz
  have hD := hD0.self (sz := s.heap.size)
  generalize hAe : va_A (va_pl L F) s.heap.size = A at hD hG hX ⊢
  have hA : ∀ q : Nat, s.heap.size ≤ q → A q := fun q h => by rw [← hAe]; exact Or.inr h
  have hS : va_S A s.heap s.heap [] := va_S.rf
  have hR : FR ty [ρ, ρ + 1] F F := FR.refl
  have hl := lv_entry ([.ref h0]) (n := 1) (Nat.le_of_ble_eq_true rfl)
  rw [lg_entry_eq]
  generalize (lg_sl ([.ref h0]) ++ List.replicate (1 - (lg_sl ([.ref h0])).length) Slot.unset).toArray = ls at hl ⊢
  have hl : lv_has ls 1 [(0, .ref h0)] := hl
  refine lv_aload_n hx hb dX1_judge_0 rfl (lv_at hl 0 rfl) ?_
  refine lv_iconst (v := 0) hx hb dX1_judge_1 (by decide) ?_
  obtain ⟨hi_1, ht_2, hi_3, ⟨r_4, ht_5⟩, hi_6, ⟨r_7, ht_8⟩, hi_9, ⟨r_10, ht_11⟩, hi_12, ⟨r_13, ht_14⟩, hi_15, ht_16, hi_17, ht_18⟩ := hW.chk hL_h0 hT_h0
  obtain ⟨v0_19, v1_20, v2_21, v3_22, hF_23⟩ := hO.chk hL_h0 hT_h0
  refine pg_put (ci := 1) (v := .int 0) (ty := .int) (C := RX1) (T := TX1) (N := 11) hx hb hts it_1 tyX1 tyX1_ok nmX1 hown hK hP hD hS hL_h0 hF_23 rfl 9 (by decide) (hts _ kt_304) (fun _ h9 => h9) rfl (by decide +kernel) (rfl) (rfl) (Nat.le_of_ble_eq_true rfl) dX1_judge_2 (fun H locs hP hD hS => ?_)
  obtain ⟨F_24, he_25, hP, hD, hO, hR⟩ : ∃ G, G = va_up F h0 (.inr (1, [.ref d, .ref w0, .ref w1, .ref w2, .ref w3, .ref nm, .ref te, .int v0_19, .int v1_20, .int 0, .int v3_22])) ∧ va_P (dC, dI) vwCl (va_pl L G) H ∧ va_D A (va_pl L G) ∧ OK cs ty L G ∧ FR ty [ρ, ρ + 1] F G := ⟨_, rfl, hP, hD, hO.up (sh.chk hT_h0 ⟨v0_19, v1_20, 0, v3_22, rfl⟩), hR.up hT_h0 (by simp)⟩
  have hF_26 : F_24 h0 = .inr (1, [.ref d, .ref w0, .ref w1, .ref w2, .ref w3, .ref nm, .ref te, .int v0_19, .int v1_20, .int 0, .int v3_22]) := by rw [he_25]; exact up_self
  refine lv_aload_n hx hb dX1_judge_5 rfl (lv_at hl 0 rfl) ?_
  refine lv_iconst (v := 0) hx hb dX1_judge_6 (by decide) ?_
  refine pg_put (ci := 1) (v := .int 0) (ty := .int) (C := RX1) (T := TX1) (N := 11) hx hb hts it_1 tyX1 tyX1_ok nmX1 hown hK hP hD hS hL_h0 hF_26 rfl 10 (by decide) (hts _ kt_375) (fun _ h9 => h9) rfl (by decide +kernel) (rfl) (rfl) (Nat.le_of_ble_eq_true rfl) dX1_judge_7 (fun H locs hP hD hS => ?_)
  obtain ⟨F_27, he_28, hP, hD, hO, hR⟩ : ∃ G, G = va_up F_24 h0 (.inr (1, [.ref d, .ref w0, .ref w1, .ref w2, .ref w3, .ref nm, .ref te, .int v0_19, .int v1_20, .int 0, .int 0])) ∧ va_P (dC, dI) vwCl (va_pl L G) H ∧ va_D A (va_pl L G) ∧ OK cs ty L G ∧ FR ty [ρ, ρ + 1] F G := ⟨_, rfl, hP, hD, hO.up (sh.chk hT_h0 ⟨v0_19, v1_20, 0, 0, rfl⟩), hR.up hT_h0 (by simp)⟩
  have hF_29 : F_27 h0 = .inr (1, [.ref d, .ref w0, .ref w1, .ref w2, .ref w3, .ref nm, .ref te, .int v0_19, .int v1_20, .int 0, .int 0]) := by rw [he_28]; exact up_self
  refine lv_aload_n hx hb dX1_judge_10 rfl (lv_at hl 0 rfl) ?_
  refine pg_get (ci := 1) (v := .ref nm) (C := RX1) (T := TX1) (N := 11) hx hb hts it_1 hown hK hP hL_h0 hF_29 rfl 5 (by decide) (hts _ kt_338) (fun _ h9 => h9) rfl dX1_judge_11 ?_
  refine lv_iconst (v := 0) hx hb dX1_judge_14 (by decide) ?_
  obtain ⟨f_30, hF_31, hq_32⟩ := hO.rbytes hi_15 ht_16
  obtain ⟨b_33, r_34, hbf_35, hi_36, ht_37⟩ := hq_32 0 (by omega)
  refine pg_aald (r := b_33) hx hb hK hP hi_15 4 hF_31 rfl (show vp_in (0 : Int32) 12 from (show vp_in (nI 0) 12 from vp_in_nI (by omega) (by omega))) (show f_30 (0 : Int32).toNatClampNeg = _ from by rw [show (0 : Int32) = nI 0 from rfl, nI_clamp (by omega)]; exact hbf_35) dX1_judge_15 ?_
  refine lv_aload_n hx hb dX1_judge_16 rfl (lv_at hl 0 rfl) ?_
  refine pg_get (ci := 1) (v := .ref w2) (C := RX1) (T := TX1) (N := 11) hx hb hts it_1 hown hK hP hL_h0 hF_29 rfl 3 (by decide) (hts _ kt_319) (fun _ h9 => h9) rfl dX1_judge_17 ?_
  have hFc := pg_free hD hS hA
  obtain ⟨hi_38, ht_39, hq_40⟩ := hW.bytes hi_36 ht_37
  obtain ⟨z_41, o_42, hF_43, hq_44, hq_45⟩ := hO.bytes hi_36 ht_37
  refine va_callv (va_runV (As := [.ref w2]) (rest := []) ⟨hx, hb, hml, hown, hts⟩ (s_X0_copy l dC dI cs ty L H.size F_27 b_33 (ρ + 1) r_34 60 w2 (ρ + 1) r_10 60 hW hi_36 ht_37 hi_9 ht_11) ⟨callB_of 1 hts (gi kt_221) rfl rfl rfl (hts _ kt_1) (hts _ kt_315) (by decide +kernel) ⟨Nat.le_of_ble_eq_true rfl, Nat.le_of_ble_eq_true rfl⟩, (hts _ kt_223), (hts _ kt_224)⟩ ⟨fun a U g mk q => ⟨q.1, PT.calling q.2⟩, pg_recv hK hP hi_36 hF_43 (q := (RX0, TX0, 3)) rfl, fun U hU hWm => ⟨rfl, PT.mk hU hWm hP hK hD hE hO⟩⟩ rfl rfl hl.1 rfl (lv_room (Nat.le_of_ble_eq_true rfl)) dX1_judge_20 ⟨by show _ + 0 ≤ 0; omega, by show _ + 0 ≤ 0; omega⟩) hS (fun q _ h => hFc q h) hFc (fun u t H1 locs ht hvm hw hB hz1 hk1 hS => ?_)
  obtain ⟨F_47, hB1⟩ := hB
  obtain ⟨hP, hD, hO, hR⟩ := QT.back hB1 ht hFc hR (fun q h => by simp only [List.mem_cons, List.not_mem_nil, or_false] at h ⊢; omega)
  have hF_48 : F_47 h0 = .inr (1, [.ref d, .ref w0, .ref w1, .ref w2, .ref w3, .ref nm, .ref te, .int v0_19, .int v1_20, .int 0, .int 0]) := (hB1.2.2.2 h0 (by rw [hT_h0]; simp)).trans hF_29
  generalize H1 = H at hP hS ⊢
  refine lv_aload_n hx hb dX1_judge_23 rfl (lv_at hl 0 rfl) ?_
  refine lv_iconst (v := 0) hx hb dX1_judge_24 (by decide) ?_
  have hFc := pg_free hD hS hA
  refine va_calli (va_runV (As := [.int 0]) (rest := []) ⟨hx, hb, hml, hown, hts⟩ (s_X1_check0 l dC dI cs ty L H.size F_47 h0 ρ d δ ea w0 w1 w2 w3 nm te hW hL_h0 hT_h0) ⟨callB_of 1 hts (gi kt_384) rfl rfl rfl (hts _ kt_310) (hts _ kt_385) (by decide +kernel) ⟨Nat.le_of_ble_eq_true rfl, Nat.le_of_ble_eq_true rfl⟩, (hts _ kt_386), (hts _ kt_387)⟩ ⟨fun a U g mk q => ⟨q.1, PTE.calling q.2⟩, pg_recv hK hP hL_h0 hF_48 (q := (RX1, TX1, 11)) rfl, fun U hU hWm => ⟨rfl, PTE.mk hU hWm hP hK hD hE hO hG (fun x hx => absurd hx List.not_mem_nil) hS hFc⟩⟩ rfl rfl hl.1 rfl (lv_room (Nat.le_of_ble_eq_true rfl)) dX1_judge_25 ⟨by show _ + 0 ≤ 0; omega, by show _ + 0 ≤ 0; omega⟩) hS (fun q _ h => hFc q h) hFc (fun r_49 u t H1 locs ht hvm hw hB hz1 hk1 hS => ?_)
  obtain ⟨F_50, hB1⟩ := hB
  obtain ⟨hP, hD, hO, hR⟩ := QT.back hB1 ht hFc hR (fun q h => by simp only [List.mem_cons, List.not_mem_nil, or_false] at h ⊢; omega)
  generalize H1 = H at hP hS ⊢
  have hw : True := hw
  have hw_51 := hw
  refine W.widen (k := 0) (n := 0) (by omega) (by omega) ?_
  exact W.iret (v := r_49) hx hb hr (fun t ht hWm => ⟨⟨r_49, (), rfl, trivial, ⟨F_50, QT.mk ht hP hD hO hR⟩⟩, hS.F ht⟩) hS.2.2 dX1_judge_28
