theorem dX15_isSeen_0 : decode cX15_isSeen 0 = .ok (.iconst (-1), 1) := by decide +kernel
theorem dX15_isSeen_1 : decode cX15_isSeen 1 = .ok (.istore_n 1, 1) := by decide +kernel
theorem dX15_isSeen_2 : decode cX15_isSeen 2 = .ok (.iconst 0, 1) := by decide +kernel
theorem dX15_isSeen_3 : decode cX15_isSeen 3 = .ok (.istore_n 2, 1) := by decide +kernel
theorem dX15_isSeen_4 : decode cX15_isSeen 4 = .ok (.iload_n 2, 1) := by decide +kernel
theorem dX15_isSeen_5 : decode cX15_isSeen 5 = .ok (.aload_n 0, 1) := by decide +kernel
theorem dX15_isSeen_6 : decode cX15_isSeen 6 = .ok (.getfield 355, 3) := by decide +kernel
theorem dX15_isSeen_9 : decode cX15_isSeen 9 = .ok (.if_icmp .ge 31, 3) := by decide +kernel
theorem dX15_isSeen_12 : decode cX15_isSeen 12 = .ok (.aload_n 0, 1) := by decide +kernel
theorem dX15_isSeen_13 : decode cX15_isSeen 13 = .ok (.iload_n 2, 1) := by decide +kernel
theorem dX15_isSeen_14 : decode cX15_isSeen 14 = .ok (.ldc_w 488, 3) := by decide +kernel
theorem dX15_isSeen_17 : decode cX15_isSeen 17 = .ok (.invokevirtual 378, 3) := by decide +kernel
theorem dX15_isSeen_20 : decode cX15_isSeen 20 = .ok (.ifCond .ne 6, 3) := by decide +kernel
theorem dX15_isSeen_23 : decode cX15_isSeen 23 = .ok (.goto 11, 3) := by decide +kernel
theorem dX15_isSeen_26 : decode cX15_isSeen 26 = .ok (.iload_n 1, 1) := by decide +kernel
theorem dX15_isSeen_27 : decode cX15_isSeen 27 = .ok (.ifCond .lt 5, 3) := by decide +kernel
theorem dX15_isSeen_30 : decode cX15_isSeen 30 = .ok (.iconst 0, 1) := by decide +kernel
theorem dX15_isSeen_31 : decode cX15_isSeen 31 = .ok (.ireturn, 1) := by decide +kernel
theorem dX15_isSeen_32 : decode cX15_isSeen 32 = .ok (.iload_n 2, 1) := by decide +kernel
theorem dX15_isSeen_33 : decode cX15_isSeen 33 = .ok (.istore_n 1, 1) := by decide +kernel
theorem dX15_isSeen_34 : decode cX15_isSeen 34 = .ok (.iinc 2 1, 3) := by decide +kernel
theorem dX15_isSeen_37 : decode cX15_isSeen 37 = .ok (.goto (-33), 3) := by decide +kernel
theorem dX15_isSeen_40 : decode cX15_isSeen 40 = .ok (.iload_n 1, 1) := by decide +kernel
theorem dX15_isSeen_41 : decode cX15_isSeen 41 = .ok (.ifCond .ge 5, 3) := by decide +kernel
theorem dX15_isSeen_44 : decode cX15_isSeen 44 = .ok (.iconst 0, 1) := by decide +kernel
theorem dX15_isSeen_45 : decode cX15_isSeen 45 = .ok (.ireturn, 1) := by decide +kernel
theorem dX15_isSeen_46 : decode cX15_isSeen 46 = .ok (.aload_n 0, 1) := by decide +kernel
theorem dX15_isSeen_47 : decode cX15_isSeen 47 = .ok (.getfield 79, 3) := by decide +kernel
theorem dX15_isSeen_50 : decode cX15_isSeen 50 = .ok (.iload_n 1, 1) := by decide +kernel
theorem dX15_isSeen_51 : decode cX15_isSeen 51 = .ok (.iaload, 1) := by decide +kernel
theorem dX15_isSeen_52 : decode cX15_isSeen 52 = .ok (.iconst 1, 1) := by decide +kernel
theorem dX15_isSeen_53 : decode cX15_isSeen 53 = .ok (.isub, 1) := by decide +kernel
theorem dX15_isSeen_54 : decode cX15_isSeen 54 = .ok (.istore_n 2, 1) := by decide +kernel
theorem dX15_isSeen_55 : decode cX15_isSeen 55 = .ok (.iload_n 2, 1) := by decide +kernel
theorem dX15_isSeen_56 : decode cX15_isSeen 56 = .ok (.aload_n 0, 1) := by decide +kernel
theorem dX15_isSeen_57 : decode cX15_isSeen 57 = .ok (.getfield 76, 3) := by decide +kernel
theorem dX15_isSeen_60 : decode cX15_isSeen 60 = .ok (.iload_n 1, 1) := by decide +kernel
theorem dX15_isSeen_61 : decode cX15_isSeen 61 = .ok (.iaload, 1) := by decide +kernel
theorem dX15_isSeen_62 : decode cX15_isSeen 62 = .ok (.if_icmp .le 20, 3) := by decide +kernel
theorem dX15_isSeen_65 : decode cX15_isSeen 65 = .ok (.aload_n 0, 1) := by decide +kernel
theorem dX15_isSeen_66 : decode cX15_isSeen 66 = .ok (.getfield 70, 3) := by decide +kernel
theorem dX15_isSeen_69 : decode cX15_isSeen 69 = .ok (.iload_n 2, 1) := by decide +kernel
theorem dX15_isSeen_70 : decode cX15_isSeen 70 = .ok (.baload, 1) := by decide +kernel
theorem dX15_isSeen_71 : decode cX15_isSeen 71 = .ok (.bipush 64, 2) := by decide +kernel
theorem dX15_isSeen_73 : decode cX15_isSeen 73 = .ok (.if_icmp .eq 9, 3) := by decide +kernel
theorem dX15_isSeen_76 : decode cX15_isSeen 76 = .ok (.iinc 2 (-1), 3) := by decide +kernel
theorem dX15_isSeen_79 : decode cX15_isSeen 79 = .ok (.goto (-24), 3) := by decide +kernel
theorem dX15_isSeen_82 : decode cX15_isSeen 82 = .ok (.iload_n 2, 1) := by decide +kernel
theorem dX15_isSeen_83 : decode cX15_isSeen 83 = .ok (.aload_n 0, 1) := by decide +kernel
theorem dX15_isSeen_84 : decode cX15_isSeen 84 = .ok (.getfield 76, 3) := by decide +kernel
theorem dX15_isSeen_87 : decode cX15_isSeen 87 = .ok (.iload_n 1, 1) := by decide +kernel
theorem dX15_isSeen_88 : decode cX15_isSeen 88 = .ok (.iaload, 1) := by decide +kernel
theorem dX15_isSeen_89 : decode cX15_isSeen 89 = .ok (.if_icmp .ne 5, 3) := by decide +kernel
theorem dX15_isSeen_92 : decode cX15_isSeen 92 = .ok (.iconst 0, 1) := by decide +kernel
theorem dX15_isSeen_93 : decode cX15_isSeen 93 = .ok (.ireturn, 1) := by decide +kernel
theorem dX15_isSeen_94 : decode cX15_isSeen 94 = .ok (.aload_n 0, 1) := by decide +kernel
theorem dX15_isSeen_95 : decode cX15_isSeen 95 = .ok (.getfield 157, 3) := by decide +kernel
theorem dX15_isSeen_98 : decode cX15_isSeen 98 = .ok (.iconst 0, 1) := by decide +kernel
theorem dX15_isSeen_99 : decode cX15_isSeen 99 = .ok (.putfield 190, 3) := by decide +kernel
theorem dX15_isSeen_102 : decode cX15_isSeen 102 = .ok (.iload_n 2, 1) := by decide +kernel
theorem dX15_isSeen_103 : decode cX15_isSeen 103 = .ok (.iconst 1, 1) := by decide +kernel
theorem dX15_isSeen_104 : decode cX15_isSeen 104 = .ok (.iadd, 1) := by decide +kernel
theorem dX15_isSeen_105 : decode cX15_isSeen 105 = .ok (.istore_n 3, 1) := by decide +kernel
theorem dX15_isSeen_106 : decode cX15_isSeen 106 = .ok (.iload_n 3, 1) := by decide +kernel
theorem dX15_isSeen_107 : decode cX15_isSeen 107 = .ok (.aload_n 0, 1) := by decide +kernel
theorem dX15_isSeen_108 : decode cX15_isSeen 108 = .ok (.getfield 79, 3) := by decide +kernel
theorem dX15_isSeen_111 : decode cX15_isSeen 111 = .ok (.iload_n 1, 1) := by decide +kernel
theorem dX15_isSeen_112 : decode cX15_isSeen 112 = .ok (.iaload, 1) := by decide +kernel
theorem dX15_isSeen_113 : decode cX15_isSeen 113 = .ok (.if_icmp .ge 59, 3) := by decide +kernel
theorem dX15_isSeen_116 : decode cX15_isSeen 116 = .ok (.aload_n 0, 1) := by decide +kernel
theorem dX15_isSeen_117 : decode cX15_isSeen 117 = .ok (.getfield 70, 3) := by decide +kernel
theorem dX15_isSeen_120 : decode cX15_isSeen 120 = .ok (.iload_n 3, 1) := by decide +kernel
theorem dX15_isSeen_121 : decode cX15_isSeen 121 = .ok (.baload, 1) := by decide +kernel
theorem dX15_isSeen_122 : decode cX15_isSeen 122 = .ok (.invokestatic 347, 3) := by decide +kernel
theorem dX15_isSeen_125 : decode cX15_isSeen 125 = .ok (.ifCond .ne 47, 3) := by decide +kernel
theorem dX15_isSeen_128 : decode cX15_isSeen 128 = .ok (.aload_n 0, 1) := by decide +kernel
theorem dX15_isSeen_129 : decode cX15_isSeen 129 = .ok (.getfield 70, 3) := by decide +kernel
theorem dX15_isSeen_132 : decode cX15_isSeen 132 = .ok (.iload_n 3, 1) := by decide +kernel
theorem dX15_isSeen_133 : decode cX15_isSeen 133 = .ok (.baload, 1) := by decide +kernel
theorem dX15_isSeen_134 : decode cX15_isSeen 134 = .ok (.bipush 62, 2) := by decide +kernel
theorem dX15_isSeen_136 : decode cX15_isSeen 136 = .ok (.if_icmp .eq 36, 3) := by decide +kernel
theorem dX15_isSeen_139 : decode cX15_isSeen 139 = .ok (.aload_n 0, 1) := by decide +kernel
theorem dX15_isSeen_140 : decode cX15_isSeen 140 = .ok (.getfield 70, 3) := by decide +kernel
theorem dX15_isSeen_143 : decode cX15_isSeen 143 = .ok (.iload_n 3, 1) := by decide +kernel
theorem dX15_isSeen_144 : decode cX15_isSeen 144 = .ok (.baload, 1) := by decide +kernel
theorem dX15_isSeen_145 : decode cX15_isSeen 145 = .ok (.bipush 10, 2) := by decide +kernel
theorem dX15_isSeen_147 : decode cX15_isSeen 147 = .ok (.if_icmp .eq 25, 3) := by decide +kernel
theorem dX15_isSeen_150 : decode cX15_isSeen 150 = .ok (.aload_n 0, 1) := by decide +kernel
theorem dX15_isSeen_151 : decode cX15_isSeen 151 = .ok (.getfield 157, 3) := by decide +kernel
theorem dX15_isSeen_154 : decode cX15_isSeen 154 = .ok (.aload_n 0, 1) := by decide +kernel
theorem dX15_isSeen_155 : decode cX15_isSeen 155 = .ok (.getfield 70, 3) := by decide +kernel
theorem dX15_isSeen_158 : decode cX15_isSeen 158 = .ok (.iload_n 3, 1) := by decide +kernel
theorem dX15_isSeen_159 : decode cX15_isSeen 159 = .ok (.baload, 1) := by decide +kernel
theorem dX15_isSeen_160 : decode cX15_isSeen 160 = .ok (.invokestatic 21, 3) := by decide +kernel
theorem dX15_isSeen_163 : decode cX15_isSeen 163 = .ok (.invokevirtual 292, 3) := by decide +kernel
theorem dX15_isSeen_166 : decode cX15_isSeen 166 = .ok (.iinc 3 1, 3) := by decide +kernel
theorem dX15_isSeen_169 : decode cX15_isSeen 169 = .ok (.goto (-63), 3) := by decide +kernel
theorem dX15_isSeen_172 : decode cX15_isSeen 172 = .ok (.aload_n 0, 1) := by decide +kernel
theorem dX15_isSeen_173 : decode cX15_isSeen 173 = .ok (.getfield 157, 3) := by decide +kernel
theorem dX15_isSeen_176 : decode cX15_isSeen 176 = .ok (.invokevirtual 579, 3) := by decide +kernel
theorem dX15_isSeen_179 : decode cX15_isSeen 179 = .ok (.ireturn, 1) := by decide +kernel
theorem dX15_sealOf_0 : decode cX15_sealOf 0 = .ok (.aload_n 0, 1) := by decide +kernel
theorem dX15_sealOf_1 : decode cX15_sealOf 1 = .ok (.getfield 70, 3) := by decide +kernel
theorem dX15_sealOf_4 : decode cX15_sealOf 4 = .ok (.aload_n 0, 1) := by decide +kernel
theorem dX15_sealOf_5 : decode cX15_sealOf 5 = .ok (.getfield 76, 3) := by decide +kernel
theorem dX15_sealOf_8 : decode cX15_sealOf 8 = .ok (.iload_n 1, 1) := by decide +kernel
theorem dX15_sealOf_9 : decode cX15_sealOf 9 = .ok (.iaload, 1) := by decide +kernel
theorem dX15_sealOf_10 : decode cX15_sealOf 10 = .ok (.iconst 1, 1) := by decide +kernel
theorem dX15_sealOf_11 : decode cX15_sealOf 11 = .ok (.iadd, 1) := by decide +kernel
theorem dX15_sealOf_12 : decode cX15_sealOf 12 = .ok (.aload_n 0, 1) := by decide +kernel
theorem dX15_sealOf_13 : decode cX15_sealOf 13 = .ok (.getfield 79, 3) := by decide +kernel
theorem dX15_sealOf_16 : decode cX15_sealOf 16 = .ok (.iload_n 1, 1) := by decide +kernel
theorem dX15_sealOf_17 : decode cX15_sealOf 17 = .ok (.iaload, 1) := by decide +kernel
theorem dX15_sealOf_18 : decode cX15_sealOf 18 = .ok (.aload_n 0, 1) := by decide +kernel
theorem dX15_sealOf_19 : decode cX15_sealOf 19 = .ok (.getfield 97, 3) := by decide +kernel
theorem dX15_sealOf_22 : decode cX15_sealOf 22 = .ok (.getfield 409, 3) := by decide +kernel
theorem dX15_sealOf_25 : decode cX15_sealOf 25 = .ok (.invokestatic 507, 3) := by decide +kernel
theorem dX15_sealOf_28 : decode cX15_sealOf 28 = .ok (.aload_n 0, 1) := by decide +kernel
theorem dX15_sealOf_29 : decode cX15_sealOf 29 = .ok (.invokevirtual 511, 3) := by decide +kernel
theorem dX15_sealOf_32 : decode cX15_sealOf 32 = .ok (.ifCond .ne 5, 3) := by decide +kernel
theorem dX15_sealOf_35 : decode cX15_sealOf 35 = .ok (.iconst 1, 1) := by decide +kernel
theorem dX15_sealOf_36 : decode cX15_sealOf 36 = .ok (.ireturn, 1) := by decide +kernel
theorem dX15_sealOf_37 : decode cX15_sealOf 37 = .ok (.aload_n 0, 1) := by decide +kernel
theorem dX15_sealOf_38 : decode cX15_sealOf 38 = .ok (.getfield 97, 3) := by decide +kernel
theorem dX15_sealOf_41 : decode cX15_sealOf 41 = .ok (.ldc_w 454, 3) := by decide +kernel
theorem dX15_sealOf_44 : decode cX15_sealOf 44 = .ok (.invokevirtual 399, 3) := by decide +kernel
theorem dX15_sealOf_47 : decode cX15_sealOf 47 = .ok (.istore_n 3, 1) := by decide +kernel
theorem dX15_sealOf_48 : decode cX15_sealOf 48 = .ok (.aload_n 0, 1) := by decide +kernel
theorem dX15_sealOf_49 : decode cX15_sealOf 49 = .ok (.getfield 97, 3) := by decide +kernel
theorem dX15_sealOf_52 : decode cX15_sealOf 52 = .ok (.ldc_w 460, 3) := by decide +kernel
theorem dX15_sealOf_55 : decode cX15_sealOf 55 = .ok (.invokevirtual 399, 3) := by decide +kernel
theorem dX15_sealOf_58 : decode cX15_sealOf 58 = .ok (.istore 4, 2) := by decide +kernel
theorem dX15_sealOf_60 : decode cX15_sealOf 60 = .ok (.aload_n 0, 1) := by decide +kernel
theorem dX15_sealOf_61 : decode cX15_sealOf 61 = .ok (.getfield 97, 3) := by decide +kernel
theorem dX15_sealOf_64 : decode cX15_sealOf 64 = .ok (.ldc_w 481, 3) := by decide +kernel
theorem dX15_sealOf_67 : decode cX15_sealOf 67 = .ok (.invokestatic 478, 3) := by decide +kernel
theorem dX15_sealOf_70 : decode cX15_sealOf 70 = .ok (.istore 5, 2) := by decide +kernel
theorem dX15_sealOf_72 : decode cX15_sealOf 72 = .ok (.aload_n 0, 1) := by decide +kernel
theorem dX15_sealOf_73 : decode cX15_sealOf 73 = .ok (.getfield 147, 3) := by decide +kernel
theorem dX15_sealOf_76 : decode cX15_sealOf 76 = .ok (.aload_n 0, 1) := by decide +kernel
theorem dX15_sealOf_77 : decode cX15_sealOf 77 = .ok (.getfield 97, 3) := by decide +kernel
theorem dX15_sealOf_80 : decode cX15_sealOf 80 = .ok (.getfield 409, 3) := by decide +kernel
theorem dX15_sealOf_83 : decode cX15_sealOf 83 = .ok (.getfield 295, 3) := by decide +kernel
theorem dX15_sealOf_86 : decode cX15_sealOf 86 = .ok (.aload_n 0, 1) := by decide +kernel
theorem dX15_sealOf_87 : decode cX15_sealOf 87 = .ok (.getfield 97, 3) := by decide +kernel
theorem dX15_sealOf_90 : decode cX15_sealOf 90 = .ok (.getfield 403, 3) := by decide +kernel
theorem dX15_sealOf_93 : decode cX15_sealOf 93 = .ok (.iload_n 3, 1) := by decide +kernel
theorem dX15_sealOf_94 : decode cX15_sealOf 94 = .ok (.iaload, 1) := by decide +kernel
theorem dX15_sealOf_95 : decode cX15_sealOf 95 = .ok (.iconst 1, 1) := by decide +kernel
theorem dX15_sealOf_96 : decode cX15_sealOf 96 = .ok (.iadd, 1) := by decide +kernel
theorem dX15_sealOf_97 : decode cX15_sealOf 97 = .ok (.aload_n 0, 1) := by decide +kernel
theorem dX15_sealOf_98 : decode cX15_sealOf 98 = .ok (.getfield 97, 3) := by decide +kernel
theorem dX15_sealOf_101 : decode cX15_sealOf 101 = .ok (.getfield 406, 3) := by decide +kernel
theorem dX15_sealOf_104 : decode cX15_sealOf 104 = .ok (.iload_n 3, 1) := by decide +kernel
theorem dX15_sealOf_105 : decode cX15_sealOf 105 = .ok (.iaload, 1) := by decide +kernel
theorem dX15_sealOf_106 : decode cX15_sealOf 106 = .ok (.invokevirtual 186, 3) := by decide +kernel
theorem dX15_sealOf_109 : decode cX15_sealOf 109 = .ok (.iload 5, 2) := by decide +kernel
theorem dX15_sealOf_111 : decode cX15_sealOf 111 = .ok (.ifCond .lt 11, 3) := by decide +kernel
theorem dX15_sealOf_114 : decode cX15_sealOf 114 = .ok (.iload_n 2, 1) := by decide +kernel
theorem dX15_sealOf_115 : decode cX15_sealOf 115 = .ok (.iload 5, 2) := by decide +kernel
theorem dX15_sealOf_117 : decode cX15_sealOf 117 = .ok (.if_icmp .le 5, 3) := by decide +kernel
theorem dX15_sealOf_120 : decode cX15_sealOf 120 = .ok (.iconst 3, 1) := by decide +kernel
theorem dX15_sealOf_121 : decode cX15_sealOf 121 = .ok (.ireturn, 1) := by decide +kernel
theorem dX15_sealOf_122 : decode cX15_sealOf 122 = .ok (.aload_n 0, 1) := by decide +kernel
theorem dX15_sealOf_123 : decode cX15_sealOf 123 = .ok (.getfield 144, 3) := by decide +kernel
theorem dX15_sealOf_126 : decode cX15_sealOf 126 = .ok (.aload_n 0, 1) := by decide +kernel
theorem dX15_sealOf_127 : decode cX15_sealOf 127 = .ok (.getfield 97, 3) := by decide +kernel
theorem dX15_sealOf_130 : decode cX15_sealOf 130 = .ok (.getfield 409, 3) := by decide +kernel
theorem dX15_sealOf_133 : decode cX15_sealOf 133 = .ok (.getfield 295, 3) := by decide +kernel
theorem dX15_sealOf_136 : decode cX15_sealOf 136 = .ok (.aload_n 0, 1) := by decide +kernel
theorem dX15_sealOf_137 : decode cX15_sealOf 137 = .ok (.getfield 97, 3) := by decide +kernel
theorem dX15_sealOf_140 : decode cX15_sealOf 140 = .ok (.getfield 403, 3) := by decide +kernel
theorem dX15_sealOf_143 : decode cX15_sealOf 143 = .ok (.iload 4, 2) := by decide +kernel
theorem dX15_sealOf_145 : decode cX15_sealOf 145 = .ok (.iaload, 1) := by decide +kernel
theorem dX15_sealOf_146 : decode cX15_sealOf 146 = .ok (.iconst 1, 1) := by decide +kernel
theorem dX15_sealOf_147 : decode cX15_sealOf 147 = .ok (.iadd, 1) := by decide +kernel
theorem dX15_sealOf_148 : decode cX15_sealOf 148 = .ok (.aload_n 0, 1) := by decide +kernel
theorem dX15_sealOf_149 : decode cX15_sealOf 149 = .ok (.getfield 97, 3) := by decide +kernel
theorem dX15_sealOf_152 : decode cX15_sealOf 152 = .ok (.getfield 406, 3) := by decide +kernel
theorem dX15_sealOf_155 : decode cX15_sealOf 155 = .ok (.iload 4, 2) := by decide +kernel
theorem dX15_sealOf_157 : decode cX15_sealOf 157 = .ok (.iaload, 1) := by decide +kernel
theorem dX15_sealOf_158 : decode cX15_sealOf 158 = .ok (.invokevirtual 186, 3) := by decide +kernel
theorem dX15_sealOf_161 : decode cX15_sealOf 161 = .ok (.iconst 0, 1) := by decide +kernel
theorem dX15_sealOf_162 : decode cX15_sealOf 162 = .ok (.istore 6, 2) := by decide +kernel
theorem dX15_sealOf_164 : decode cX15_sealOf 164 = .ok (.iload 6, 2) := by decide +kernel
theorem dX15_sealOf_166 : decode cX15_sealOf 166 = .ok (.bipush 12, 2) := by decide +kernel
theorem dX15_sealOf_168 : decode cX15_sealOf 168 = .ok (.if_icmp .ge 24, 3) := by decide +kernel
theorem dX15_sealOf_171 : decode cX15_sealOf 171 = .ok (.aload_n 0, 1) := by decide +kernel
theorem dX15_sealOf_172 : decode cX15_sealOf 172 = .ok (.getfield 144, 3) := by decide +kernel
theorem dX15_sealOf_175 : decode cX15_sealOf 175 = .ok (.ldc_w 514, 3) := by decide +kernel
theorem dX15_sealOf_178 : decode cX15_sealOf 178 = .ok (.iload 6, 2) := by decide +kernel
theorem dX15_sealOf_180 : decode cX15_sealOf 180 = .ok (.invokevirtual 13, 3) := by decide +kernel
theorem dX15_sealOf_183 : decode cX15_sealOf 183 = .ok (.invokevirtual 292, 3) := by decide +kernel
theorem dX15_sealOf_186 : decode cX15_sealOf 186 = .ok (.iinc 6 1, 3) := by decide +kernel
theorem dX15_sealOf_189 : decode cX15_sealOf 189 = .ok (.goto (-25), 3) := by decide +kernel
theorem dX15_sealOf_192 : decode cX15_sealOf 192 = .ok (.aload_n 0, 1) := by decide +kernel
theorem dX15_sealOf_193 : decode cX15_sealOf 193 = .ok (.getfield 144, 3) := by decide +kernel
theorem dX15_sealOf_196 : decode cX15_sealOf 196 = .ok (.aload_n 0, 1) := by decide +kernel
theorem dX15_sealOf_197 : decode cX15_sealOf 197 = .ok (.getfield 147, 3) := by decide +kernel
theorem dX15_sealOf_200 : decode cX15_sealOf 200 = .ok (.getfield 295, 3) := by decide +kernel
theorem dX15_sealOf_203 : decode cX15_sealOf 203 = .ok (.iconst 0, 1) := by decide +kernel
theorem dX15_sealOf_204 : decode cX15_sealOf 204 = .ok (.aload_n 0, 1) := by decide +kernel
theorem dX15_sealOf_205 : decode cX15_sealOf 205 = .ok (.getfield 147, 3) := by decide +kernel
theorem dX15_sealOf_208 : decode cX15_sealOf 208 = .ok (.getfield 190, 3) := by decide +kernel
theorem dX15_sealOf_211 : decode cX15_sealOf 211 = .ok (.invokevirtual 298, 3) := by decide +kernel
theorem dX15_sealOf_214 : decode cX15_sealOf 214 = .ok (.aload_n 0, 1) := by decide +kernel
theorem dX15_sealOf_215 : decode cX15_sealOf 215 = .ok (.invokevirtual 516, 3) := by decide +kernel
theorem dX15_sealOf_218 : decode cX15_sealOf 218 = .ok (.istore 6, 2) := by decide +kernel
theorem dX15_sealOf_220 : decode cX15_sealOf 220 = .ok (.iload 6, 2) := by decide +kernel
theorem dX15_sealOf_222 : decode cX15_sealOf 222 = .ok (.iconst 2, 1) := by decide +kernel
theorem dX15_sealOf_223 : decode cX15_sealOf 223 = .ok (.if_icmp .eq 6, 3) := by decide +kernel
theorem dX15_sealOf_226 : decode cX15_sealOf 226 = .ok (.iload 6, 2) := by decide +kernel
theorem dX15_sealOf_228 : decode cX15_sealOf 228 = .ok (.ireturn, 1) := by decide +kernel
theorem dX15_sealOf_229 : decode cX15_sealOf 229 = .ok (.aload_n 0, 1) := by decide +kernel
theorem dX15_sealOf_230 : decode cX15_sealOf 230 = .ok (.aload_n 0, 1) := by decide +kernel
theorem dX15_sealOf_231 : decode cX15_sealOf 231 = .ok (.getfield 494, 3) := by decide +kernel
theorem dX15_sealOf_234 : decode cX15_sealOf 234 = .ok (.invokevirtual 388, 3) := by decide +kernel
theorem dX15_sealOf_237 : decode cX15_sealOf 237 = .ok (.aload_n 0, 1) := by decide +kernel
theorem dX15_sealOf_238 : decode cX15_sealOf 238 = .ok (.getfield 97, 3) := by decide +kernel
theorem dX15_sealOf_241 : decode cX15_sealOf 241 = .ok (.ldc_w 476, 3) := by decide +kernel
theorem dX15_sealOf_244 : decode cX15_sealOf 244 = .ok (.invokestatic 478, 3) := by decide +kernel
theorem dX15_sealOf_247 : decode cX15_sealOf 247 = .ok (.istore 7, 2) := by decide +kernel
theorem dX15_sealOf_249 : decode cX15_sealOf 249 = .ok (.iload 7, 2) := by decide +kernel
theorem dX15_sealOf_251 : decode cX15_sealOf 251 = .ok (.aload_n 0, 1) := by decide +kernel
theorem dX15_sealOf_252 : decode cX15_sealOf 252 = .ok (.getfield 91, 3) := by decide +kernel
theorem dX15_sealOf_255 : decode cX15_sealOf 255 = .ok (.getfield 190, 3) := by decide +kernel
theorem dX15_sealOf_258 : decode cX15_sealOf 258 = .ok (.if_icmp .le 5, 3) := by decide +kernel
theorem dX15_sealOf_261 : decode cX15_sealOf 261 = .ok (.iconst 3, 1) := by decide +kernel
theorem dX15_sealOf_262 : decode cX15_sealOf 262 = .ok (.ireturn, 1) := by decide +kernel
theorem dX15_sealOf_263 : decode cX15_sealOf 263 = .ok (.aload_n 0, 1) := by decide +kernel
theorem dX15_sealOf_264 : decode cX15_sealOf 264 = .ok (.aload_n 0, 1) := by decide +kernel
theorem dX15_sealOf_265 : decode cX15_sealOf 265 = .ok (.getfield 91, 3) := by decide +kernel
theorem dX15_sealOf_268 : decode cX15_sealOf 268 = .ok (.getfield 295, 3) := by decide +kernel
theorem dX15_sealOf_271 : decode cX15_sealOf 271 = .ok (.iload 7, 2) := by decide +kernel
theorem dX15_sealOf_273 : decode cX15_sealOf 273 = .ok (.ifCond .lt 8, 3) := by decide +kernel
theorem dX15_sealOf_276 : decode cX15_sealOf 276 = .ok (.iload 7, 2) := by decide +kernel
theorem dX15_sealOf_278 : decode cX15_sealOf 278 = .ok (.goto 10, 3) := by decide +kernel
theorem dX15_sealOf_281 : decode cX15_sealOf 281 = .ok (.aload_n 0, 1) := by decide +kernel
theorem dX15_sealOf_282 : decode cX15_sealOf 282 = .ok (.getfield 91, 3) := by decide +kernel
theorem dX15_sealOf_285 : decode cX15_sealOf 285 = .ok (.getfield 190, 3) := by decide +kernel
theorem dX15_sealOf_288 : decode cX15_sealOf 288 = .ok (.aload_n 0, 1) := by decide +kernel
theorem dX15_sealOf_289 : decode cX15_sealOf 289 = .ok (.getfield 129, 3) := by decide +kernel
theorem dX15_sealOf_292 : decode cX15_sealOf 292 = .ok (.invokevirtual 519, 3) := by decide +kernel
theorem dX15_sealOf_295 : decode cX15_sealOf 295 = .ok (.aload_n 0, 1) := by decide +kernel
theorem dX15_sealOf_296 : decode cX15_sealOf 296 = .ok (.getfield 129, 3) := by decide +kernel
theorem dX15_sealOf_299 : decode cX15_sealOf 299 = .ok (.aload_n 0, 1) := by decide +kernel
theorem dX15_sealOf_300 : decode cX15_sealOf 300 = .ok (.getfield 132, 3) := by decide +kernel
theorem dX15_sealOf_303 : decode cX15_sealOf 303 = .ok (.invokestatic 523, 3) := by decide +kernel
theorem dX15_sealOf_306 : decode cX15_sealOf 306 = .ok (.ifCond .ne 5, 3) := by decide +kernel
theorem dX15_sealOf_309 : decode cX15_sealOf 309 = .ok (.iconst 3, 1) := by decide +kernel
theorem dX15_sealOf_310 : decode cX15_sealOf 310 = .ok (.ireturn, 1) := by decide +kernel
theorem dX15_sealOf_311 : decode cX15_sealOf 311 = .ok (.aload_n 0, 1) := by decide +kernel
theorem dX15_sealOf_312 : decode cX15_sealOf 312 = .ok (.iload_n 1, 1) := by decide +kernel
theorem dX15_sealOf_313 : decode cX15_sealOf 313 = .ok (.invokevirtual 527, 3) := by decide +kernel
theorem dX15_sealOf_316 : decode cX15_sealOf 316 = .ok (.aload_n 0, 1) := by decide +kernel
theorem dX15_sealOf_317 : decode cX15_sealOf 317 = .ok (.aload_n 0, 1) := by decide +kernel
theorem dX15_sealOf_318 : decode cX15_sealOf 318 = .ok (.getfield 91, 3) := by decide +kernel
theorem dX15_sealOf_321 : decode cX15_sealOf 321 = .ok (.getfield 295, 3) := by decide +kernel
theorem dX15_sealOf_324 : decode cX15_sealOf 324 = .ok (.aload_n 0, 1) := by decide +kernel
theorem dX15_sealOf_325 : decode cX15_sealOf 325 = .ok (.getfield 91, 3) := by decide +kernel
theorem dX15_sealOf_328 : decode cX15_sealOf 328 = .ok (.getfield 190, 3) := by decide +kernel
theorem dX15_sealOf_331 : decode cX15_sealOf 331 = .ok (.aload_n 0, 1) := by decide +kernel
theorem dX15_sealOf_332 : decode cX15_sealOf 332 = .ok (.getfield 129, 3) := by decide +kernel
theorem dX15_sealOf_335 : decode cX15_sealOf 335 = .ok (.invokevirtual 519, 3) := by decide +kernel
theorem dX15_sealOf_338 : decode cX15_sealOf 338 = .ok (.aload_n 0, 1) := by decide +kernel
theorem dX15_sealOf_339 : decode cX15_sealOf 339 = .ok (.invokevirtual 530, 3) := by decide +kernel
theorem dX15_sealOf_342 : decode cX15_sealOf 342 = .ok (.ifCond .eq 7, 3) := by decide +kernel
theorem dX15_sealOf_345 : decode cX15_sealOf 345 = .ok (.iconst 2, 1) := by decide +kernel
theorem dX15_sealOf_346 : decode cX15_sealOf 346 = .ok (.goto 4, 3) := by decide +kernel
theorem dX15_sealOf_349 : decode cX15_sealOf 349 = .ok (.iconst 3, 1) := by decide +kernel
theorem dX15_sealOf_350 : decode cX15_sealOf 350 = .ok (.ireturn, 1) := by decide +kernel
theorem dX15_sealed_0 : decode cX15_sealed 0 = .ok (.iload_n 2, 1) := by decide +kernel
theorem dX15_sealed_1 : decode cX15_sealed 1 = .ok (.ifCond .ge 5, 3) := by decide +kernel
theorem dX15_sealed_4 : decode cX15_sealed 4 = .ok (.iconst (-1), 1) := by decide +kernel
theorem dX15_sealed_5 : decode cX15_sealed 5 = .ok (.ireturn, 1) := by decide +kernel
theorem dX15_sealed_6 : decode cX15_sealed 6 = .ok (.aload_n 0, 1) := by decide +kernel
theorem dX15_sealed_7 : decode cX15_sealed 7 = .ok (.iload_n 1, 1) := by decide +kernel
theorem dX15_sealed_8 : decode cX15_sealed 8 = .ok (.invokevirtual 501, 3) := by decide +kernel
theorem dX15_sealed_11 : decode cX15_sealed 11 = .ok (.istore_n 3, 1) := by decide +kernel
theorem dX15_sealed_12 : decode cX15_sealed 12 = .ok (.iload_n 3, 1) := by decide +kernel
theorem dX15_sealed_13 : decode cX15_sealed 13 = .ok (.ifCond .ge 8, 3) := by decide +kernel
theorem dX15_sealed_16 : decode cX15_sealed 16 = .ok (.bipush (-2), 2) := by decide +kernel
theorem dX15_sealed_18 : decode cX15_sealed 18 = .ok (.goto 9, 3) := by decide +kernel
theorem dX15_sealed_21 : decode cX15_sealed 21 = .ok (.aload_n 0, 1) := by decide +kernel
theorem dX15_sealed_22 : decode cX15_sealed 22 = .ok (.iload_n 3, 1) := by decide +kernel
theorem dX15_sealed_23 : decode cX15_sealed 23 = .ok (.iload_n 2, 1) := by decide +kernel
theorem dX15_sealed_24 : decode cX15_sealed 24 = .ok (.invokevirtual 504, 3) := by decide +kernel
theorem dX15_sealed_27 : decode cX15_sealed 27 = .ok (.ireturn, 1) := by decide +kernel
theorem dX15_wish_0 : decode cX15_wish 0 = .ok (.aload_n 0, 1) := by decide +kernel
theorem dX15_wish_1 : decode cX15_wish 1 = .ok (.getfield 208, 3) := by decide +kernel
theorem dX15_wish_4 : decode cX15_wish 4 = .ok (.ifCond .eq 7, 3) := by decide +kernel
theorem dX15_wish_7 : decode cX15_wish 7 = .ok (.iload_n 1, 1) := by decide +kernel
theorem dX15_wish_8 : decode cX15_wish 8 = .ok (.ifCond .ge 5, 3) := by decide +kernel
theorem dX15_wish_11 : decode cX15_wish 11 = .ok (.iconst (-1), 1) := by decide +kernel
theorem dX15_wish_12 : decode cX15_wish 12 = .ok (.ireturn, 1) := by decide +kernel
theorem dX15_wish_13 : decode cX15_wish 13 = .ok (.aload_n 0, 1) := by decide +kernel
theorem dX15_wish_14 : decode cX15_wish 14 = .ok (.getfield 370, 3) := by decide +kernel
theorem dX15_wish_17 : decode cX15_wish 17 = .ok (.ifCond .ne 6, 3) := by decide +kernel
theorem dX15_wish_20 : decode cX15_wish 20 = .ok (.bipush (-2), 2) := by decide +kernel
theorem dX15_wish_22 : decode cX15_wish 22 = .ok (.ireturn, 1) := by decide +kernel
theorem dX15_wish_23 : decode cX15_wish 23 = .ok (.aload_n 0, 1) := by decide +kernel
theorem dX15_wish_24 : decode cX15_wish 24 = .ok (.invokevirtual 581, 3) := by decide +kernel
theorem dX15_wish_27 : decode cX15_wish 27 = .ok (.ifCond .ne 5, 3) := by decide +kernel
theorem dX15_wish_30 : decode cX15_wish 30 = .ok (.iconst 1, 1) := by decide +kernel
theorem dX15_wish_31 : decode cX15_wish 31 = .ok (.ireturn, 1) := by decide +kernel
theorem dX15_wish_32 : decode cX15_wish 32 = .ok (.iconst 1, 1) := by decide +kernel
theorem dX15_wish_33 : decode cX15_wish 33 = .ok (.istore_n 2, 1) := by decide +kernel
theorem dX15_wish_34 : decode cX15_wish 34 = .ok (.aload_n 0, 1) := by decide +kernel
theorem dX15_wish_35 : decode cX15_wish 35 = .ok (.aload_n 0, 1) := by decide +kernel
theorem dX15_wish_36 : decode cX15_wish 36 = .ok (.getfield 157, 3) := by decide +kernel
theorem dX15_wish_39 : decode cX15_wish 39 = .ok (.invokevirtual 584, 3) := by decide +kernel
theorem dX15_wish_42 : decode cX15_wish 42 = .ok (.istore_n 3, 1) := by decide +kernel
theorem dX15_wish_43 : decode cX15_wish 43 = .ok (.iload_n 3, 1) := by decide +kernel
theorem dX15_wish_44 : decode cX15_wish 44 = .ok (.iconst (-1), 1) := by decide +kernel
theorem dX15_wish_45 : decode cX15_wish 45 = .ok (.if_icmp .ne 26, 3) := by decide +kernel
theorem dX15_wish_48 : decode cX15_wish 48 = .ok (.iconst 0, 1) := by decide +kernel
theorem dX15_wish_49 : decode cX15_wish 49 = .ok (.istore_n 2, 1) := by decide +kernel
theorem dX15_wish_50 : decode cX15_wish 50 = .ok (.aload_n 0, 1) := by decide +kernel
theorem dX15_wish_51 : decode cX15_wish 51 = .ok (.aload_n 0, 1) := by decide +kernel
theorem dX15_wish_52 : decode cX15_wish 52 = .ok (.getfield 157, 3) := by decide +kernel
theorem dX15_wish_55 : decode cX15_wish 55 = .ok (.aload_n 0, 1) := by decide +kernel
theorem dX15_wish_56 : decode cX15_wish 56 = .ok (.getfield 160, 3) := by decide +kernel
theorem dX15_wish_59 : decode cX15_wish 59 = .ok (.invokevirtual 565, 3) := by decide +kernel
theorem dX15_wish_62 : decode cX15_wish 62 = .ok (.aload_n 0, 1) := by decide +kernel
theorem dX15_wish_63 : decode cX15_wish 63 = .ok (.aload_n 0, 1) := by decide +kernel
theorem dX15_wish_64 : decode cX15_wish 64 = .ok (.getfield 160, 3) := by decide +kernel
theorem dX15_wish_67 : decode cX15_wish 67 = .ok (.invokevirtual 584, 3) := by decide +kernel
theorem dX15_wish_70 : decode cX15_wish 70 = .ok (.istore_n 3, 1) := by decide +kernel
theorem dX15_wish_71 : decode cX15_wish 71 = .ok (.iload_n 3, 1) := by decide +kernel
theorem dX15_wish_72 : decode cX15_wish 72 = .ok (.ifCond .ge 15, 3) := by decide +kernel
theorem dX15_wish_75 : decode cX15_wish 75 = .ok (.iload_n 3, 1) := by decide +kernel
theorem dX15_wish_76 : decode cX15_wish 76 = .ok (.bipush (-2), 2) := by decide +kernel
theorem dX15_wish_78 : decode cX15_wish 78 = .ok (.if_icmp .ne 7, 3) := by decide +kernel
theorem dX15_wish_81 : decode cX15_wish 81 = .ok (.iconst 5, 1) := by decide +kernel
theorem dX15_wish_82 : decode cX15_wish 82 = .ok (.goto 4, 3) := by decide +kernel
theorem dX15_wish_85 : decode cX15_wish 85 = .ok (.iconst 0, 1) := by decide +kernel
theorem dX15_wish_86 : decode cX15_wish 86 = .ok (.ireturn, 1) := by decide +kernel
theorem dX15_wish_87 : decode cX15_wish 87 = .ok (.aload_n 0, 1) := by decide +kernel
theorem dX15_wish_88 : decode cX15_wish 88 = .ok (.getfield 51, 3) := by decide +kernel
theorem dX15_wish_91 : decode cX15_wish 91 = .ok (.iload_n 3, 1) := by decide +kernel
theorem dX15_wish_92 : decode cX15_wish 92 = .ok (.aaload, 1) := by decide +kernel
theorem dX15_wish_93 : decode cX15_wish 93 = .ok (.getfield 295, 3) := by decide +kernel
theorem dX15_wish_96 : decode cX15_wish 96 = .ok (.iconst 0, 1) := by decide +kernel
theorem dX15_wish_97 : decode cX15_wish 97 = .ok (.aload_n 0, 1) := by decide +kernel
theorem dX15_wish_98 : decode cX15_wish 98 = .ok (.getfield 51, 3) := by decide +kernel
theorem dX15_wish_101 : decode cX15_wish 101 = .ok (.iload_n 3, 1) := by decide +kernel
theorem dX15_wish_102 : decode cX15_wish 102 = .ok (.aaload, 1) := by decide +kernel
theorem dX15_wish_103 : decode cX15_wish 103 = .ok (.getfield 190, 3) := by decide +kernel
theorem dX15_wish_106 : decode cX15_wish 106 = .ok (.aload_n 0, 1) := by decide +kernel
theorem dX15_wish_107 : decode cX15_wish 107 = .ok (.getfield 104, 3) := by decide +kernel
theorem dX15_wish_110 : decode cX15_wish 110 = .ok (.getfield 409, 3) := by decide +kernel
theorem dX15_wish_113 : decode cX15_wish 113 = .ok (.invokestatic 507, 3) := by decide +kernel
theorem dX15_wish_116 : decode cX15_wish 116 = .ok (.aload_n 0, 1) := by decide +kernel
theorem dX15_wish_117 : decode cX15_wish 117 = .ok (.getfield 104, 3) := by decide +kernel
theorem dX15_wish_120 : decode cX15_wish 120 = .ok (.bipush 8, 2) := by decide +kernel
theorem dX15_wish_122 : decode cX15_wish 122 = .ok (.invokevirtual 441, 3) := by decide +kernel
theorem dX15_wish_125 : decode cX15_wish 125 = .ok (.ifCond .ne 6, 3) := by decide +kernel
theorem dX15_wish_128 : decode cX15_wish 128 = .ok (.bipush 6, 2) := by decide +kernel
theorem dX15_wish_130 : decode cX15_wish 130 = .ok (.ireturn, 1) := by decide +kernel
theorem dX15_wish_131 : decode cX15_wish 131 = .ok (.aload_n 0, 1) := by decide +kernel
theorem dX15_wish_132 : decode cX15_wish 132 = .ok (.getfield 104, 3) := by decide +kernel
theorem dX15_wish_135 : decode cX15_wish 135 = .ok (.ldc_w 533, 3) := by decide +kernel
theorem dX15_wish_138 : decode cX15_wish 138 = .ok (.invokestatic 587, 3) := by decide +kernel
theorem dX15_wish_141 : decode cX15_wish 141 = .ok (.istore 4, 2) := by decide +kernel
theorem dX15_wish_143 : decode cX15_wish 143 = .ok (.iload 4, 2) := by decide +kernel
theorem dX15_wish_145 : decode cX15_wish 145 = .ok (.bipush 6, 2) := by decide +kernel
theorem dX15_wish_147 : decode cX15_wish 147 = .ok (.if_icmp .ne 6, 3) := by decide +kernel
theorem dX15_wish_150 : decode cX15_wish 150 = .ok (.bipush 6, 2) := by decide +kernel
theorem dX15_wish_152 : decode cX15_wish 152 = .ok (.ireturn, 1) := by decide +kernel
theorem dX15_wish_153 : decode cX15_wish 153 = .ok (.iload_n 2, 1) := by decide +kernel
theorem dX15_wish_154 : decode cX15_wish 154 = .ok (.ifCond .ne 38, 3) := by decide +kernel
theorem dX15_wish_157 : decode cX15_wish 157 = .ok (.aload_n 0, 1) := by decide +kernel
theorem dX15_wish_158 : decode cX15_wish 158 = .ok (.getfield 104, 3) := by decide +kernel
theorem dX15_wish_161 : decode cX15_wish 161 = .ok (.ldc_w 590, 3) := by decide +kernel
theorem dX15_wish_164 : decode cX15_wish 164 = .ok (.invokevirtual 399, 3) := by decide +kernel
theorem dX15_wish_167 : decode cX15_wish 167 = .ok (.ifCond .lt 25, 3) := by decide +kernel
theorem dX15_wish_170 : decode cX15_wish 170 = .ok (.aload_n 0, 1) := by decide +kernel
theorem dX15_wish_171 : decode cX15_wish 171 = .ok (.getfield 104, 3) := by decide +kernel
theorem dX15_wish_174 : decode cX15_wish 174 = .ok (.ldc_w 590, 3) := by decide +kernel
theorem dX15_wish_177 : decode cX15_wish 177 = .ok (.invokestatic 587, 3) := by decide +kernel
theorem dX15_wish_180 : decode cX15_wish 180 = .ok (.istore 4, 2) := by decide +kernel
theorem dX15_wish_182 : decode cX15_wish 182 = .ok (.iload 4, 2) := by decide +kernel
theorem dX15_wish_184 : decode cX15_wish 184 = .ok (.bipush 6, 2) := by decide +kernel
theorem dX15_wish_186 : decode cX15_wish 186 = .ok (.if_icmp .ne 6, 3) := by decide +kernel
theorem dX15_wish_189 : decode cX15_wish 189 = .ok (.bipush 6, 2) := by decide +kernel
theorem dX15_wish_191 : decode cX15_wish 191 = .ok (.ireturn, 1) := by decide +kernel
theorem dX15_wish_192 : decode cX15_wish 192 = .ok (.aload_n 0, 1) := by decide +kernel
theorem dX15_wish_193 : decode cX15_wish 193 = .ok (.invokevirtual 592, 3) := by decide +kernel
theorem dX15_wish_196 : decode cX15_wish 196 = .ok (.iconst 2, 1) := by decide +kernel
theorem dX15_wish_197 : decode cX15_wish 197 = .ok (.if_icmp .ne 33, 3) := by decide +kernel
theorem dX15_wish_200 : decode cX15_wish 200 = .ok (.aload_n 0, 1) := by decide +kernel
theorem dX15_wish_201 : decode cX15_wish 201 = .ok (.aload_n 0, 1) := by decide +kernel
theorem dX15_wish_202 : decode cX15_wish 202 = .ok (.getfield 61, 3) := by decide +kernel
theorem dX15_wish_205 : decode cX15_wish 205 = .ok (.aload_n 0, 1) := by decide +kernel
theorem dX15_wish_206 : decode cX15_wish 206 = .ok (.getfield 157, 3) := by decide +kernel
theorem dX15_wish_209 : decode cX15_wish 209 = .ok (.aload_n 0, 1) := by decide +kernel
theorem dX15_wish_210 : decode cX15_wish 210 = .ok (.getfield 104, 3) := by decide +kernel
theorem dX15_wish_213 : decode cX15_wish 213 = .ok (.ldc_w 595, 3) := by decide +kernel
theorem dX15_wish_216 : decode cX15_wish 216 = .ok (.ldc_w 460, 3) := by decide +kernel
theorem dX15_wish_219 : decode cX15_wish 219 = .ok (.invokevirtual 448, 3) := by decide +kernel
theorem dX15_wish_222 : decode cX15_wish 222 = .ok (.invokevirtual 597, 3) := by decide +kernel
theorem dX15_wish_225 : decode cX15_wish 225 = .ok (.ifCond .eq 5, 3) := by decide +kernel
theorem dX15_wish_228 : decode cX15_wish 228 = .ok (.iconst 2, 1) := by decide +kernel
theorem dX15_wish_229 : decode cX15_wish 229 = .ok (.ireturn, 1) := by decide +kernel
theorem dX15_wish_230 : decode cX15_wish 230 = .ok (.iconst 0, 1) := by decide +kernel
theorem dX15_wish_231 : decode cX15_wish 231 = .ok (.istore 5, 2) := by decide +kernel
theorem dX15_wish_233 : decode cX15_wish 233 = .ok (.iload 5, 2) := by decide +kernel
theorem dX15_wish_235 : decode cX15_wish 235 = .ok (.aload_n 0, 1) := by decide +kernel
theorem dX15_wish_236 : decode cX15_wish 236 = .ok (.getfield 355, 3) := by decide +kernel
theorem dX15_wish_239 : decode cX15_wish 239 = .ok (.if_icmp .ge 65, 3) := by decide +kernel
theorem dX15_wish_242 : decode cX15_wish 242 = .ok (.aload_n 0, 1) := by decide +kernel
theorem dX15_wish_243 : decode cX15_wish 243 = .ok (.iload 5, 2) := by decide +kernel
theorem dX15_wish_245 : decode cX15_wish 245 = .ok (.ldc_w 376, 3) := by decide +kernel
theorem dX15_wish_248 : decode cX15_wish 248 = .ok (.invokevirtual 378, 3) := by decide +kernel
theorem dX15_wish_251 : decode cX15_wish 251 = .ok (.ifCond .eq 47, 3) := by decide +kernel
theorem dX15_wish_254 : decode cX15_wish 254 = .ok (.aload_n 0, 1) := by decide +kernel
theorem dX15_wish_255 : decode cX15_wish 255 = .ok (.iload 5, 2) := by decide +kernel
theorem dX15_wish_257 : decode cX15_wish 257 = .ok (.iload_n 1, 1) := by decide +kernel
theorem dX15_wish_258 : decode cX15_wish 258 = .ok (.invokevirtual 504, 3) := by decide +kernel
theorem dX15_wish_261 : decode cX15_wish 261 = .ok (.iconst 2, 1) := by decide +kernel
theorem dX15_wish_262 : decode cX15_wish 262 = .ok (.if_icmp .eq 6, 3) := by decide +kernel
theorem dX15_wish_265 : decode cX15_wish 265 = .ok (.goto 33, 3) := by decide +kernel
theorem dX15_wish_268 : decode cX15_wish 268 = .ok (.aload_n 0, 1) := by decide +kernel
theorem dX15_wish_269 : decode cX15_wish 269 = .ok (.aload_n 0, 1) := by decide +kernel
theorem dX15_wish_270 : decode cX15_wish 270 = .ok (.getfield 147, 3) := by decide +kernel
theorem dX15_wish_273 : decode cX15_wish 273 = .ok (.aload_n 0, 1) := by decide +kernel
theorem dX15_wish_274 : decode cX15_wish 274 = .ok (.getfield 157, 3) := by decide +kernel
theorem dX15_wish_277 : decode cX15_wish 277 = .ok (.aload_n 0, 1) := by decide +kernel
theorem dX15_wish_278 : decode cX15_wish 278 = .ok (.getfield 104, 3) := by decide +kernel
theorem dX15_wish_281 : decode cX15_wish 281 = .ok (.ldc_w 601, 3) := by decide +kernel
theorem dX15_wish_284 : decode cX15_wish 284 = .ok (.ldc_w 460, 3) := by decide +kernel
theorem dX15_wish_287 : decode cX15_wish 287 = .ok (.invokevirtual 448, 3) := by decide +kernel
theorem dX15_wish_290 : decode cX15_wish 290 = .ok (.invokevirtual 597, 3) := by decide +kernel
theorem dX15_wish_293 : decode cX15_wish 293 = .ok (.ifCond .eq 5, 3) := by decide +kernel
theorem dX15_wish_296 : decode cX15_wish 296 = .ok (.iconst 2, 1) := by decide +kernel
theorem dX15_wish_297 : decode cX15_wish 297 = .ok (.ireturn, 1) := by decide +kernel
theorem dX15_wish_298 : decode cX15_wish 298 = .ok (.iinc 5 1, 3) := by decide +kernel
theorem dX15_wish_301 : decode cX15_wish 301 = .ok (.goto (-68), 3) := by decide +kernel
theorem dX15_wish_304 : decode cX15_wish 304 = .ok (.iload 4, 2) := by decide +kernel
theorem dX15_wish_306 : decode cX15_wish 306 = .ok (.ireturn, 1) := by decide +kernel
theorem kt_1013 : Cond.code yX15_isWell cX15_isWell 1 (some .boolean) ∈ tb := tb_at (i := 1705) (by decide +kernel) (by decide +kernel)
theorem kt_1014 : Cond.methodLink RX15 511 yX15_isWell ∈ tb := tb_at (i := 1702) (by decide +kernel) (by decide +kernel)
theorem kt_1015 : Cond.instanceMethod yX15_isWell ∈ tb := tb_at (i := 1704) (by decide +kernel) (by decide +kernel)
theorem kt_1016 : Cond.selects RX15 yX15_isWell yX15_isWell ∈ tb := tb_at (i := 63) (by decide +kernel) (by decide +kernel)
theorem kt_1017 : Cond.fieldLink RX15 147 "PostGateModel" "sealDomain" "LPostGateModel$Text;" ∈ tb := tb_at (i := 1339) (by decide +kernel) (by decide +kernel)
theorem kt_1018 : Cond.code yX15_keyOf cX15_keyOf 3 (some .int) ∈ tb := tb_at (i := 1766) (by decide +kernel) (by decide +kernel)
theorem kt_1019 : Cond.methodLink RX15 516 yX15_keyOf ∈ tb := tb_at (i := 1763) (by decide +kernel) (by decide +kernel)
theorem kt_1020 : Cond.instanceMethod yX15_keyOf ∈ tb := tb_at (i := 1765) (by decide +kernel) (by decide +kernel)
theorem kt_1021 : Cond.selects RX15 yX15_keyOf yX15_keyOf ∈ tb := tb_at (i := 68) (by decide +kernel) (by decide +kernel)
theorem kt_1022 : Cond.code yX15_digest cX15_digest 4 none ∈ tb := tb_at (i := 1774) (by decide +kernel) (by decide +kernel)
theorem kt_1023 : Cond.methodLink RX15 519 yX15_digest ∈ tb := tb_at (i := 1771) (by decide +kernel) (by decide +kernel)
theorem kt_1024 : Cond.instanceMethod yX15_digest ∈ tb := tb_at (i := 1773) (by decide +kernel) (by decide +kernel)
theorem kt_1025 : Cond.selects RX15 yX15_digest yX15_digest ∈ tb := tb_at (i := 69) (by decide +kernel) (by decide +kernel)
theorem kt_1026 : Cond.code yX15_isAll cX15_isAll 4 (some .boolean) ∈ tb := tb_at (i := 1806) (by decide +kernel) (by decide +kernel)
theorem kt_1027 : Cond.methodLink RX15 523 yX15_isAll ∈ tb := tb_at (i := 1804) (by decide +kernel) (by decide +kernel)
theorem kt_1028 : Cond.static yX15_isAll ∈ tb := tb_at (i := 1805) (by decide +kernel) (by decide +kernel)
theorem kt_1029 : Cond.code yX15_fieldsPlain cX15_fieldsPlain 11 none ∈ tb := tb_at (i := 1810) (by decide +kernel) (by decide +kernel)
theorem kt_1030 : Cond.methodLink RX15 527 yX15_fieldsPlain ∈ tb := tb_at (i := 1807) (by decide +kernel) (by decide +kernel)
theorem kt_1031 : Cond.instanceMethod yX15_fieldsPlain ∈ tb := tb_at (i := 1809) (by decide +kernel) (by decide +kernel)
theorem kt_1032 : Cond.selects RX15 yX15_fieldsPlain yX15_fieldsPlain ∈ tb := tb_at (i := 71) (by decide +kernel) (by decide +kernel)
theorem kt_1033 : Cond.code yX15_isPower cX15_isPower 3 (some .boolean) ∈ tb := tb_at (i := 1821) (by decide +kernel) (by decide +kernel)
theorem kt_1034 : Cond.methodLink RX15 530 yX15_isPower ∈ tb := tb_at (i := 1818) (by decide +kernel) (by decide +kernel)
theorem kt_1035 : Cond.instanceMethod yX15_isPower ∈ tb := tb_at (i := 1820) (by decide +kernel) (by decide +kernel)
theorem kt_1036 : Cond.selects RX15 yX15_isPower yX15_isPower ∈ tb := tb_at (i := 73) (by decide +kernel) (by decide +kernel)
theorem kt_1037 : Cond.code yX15_sealAt cX15_sealAt 4 (some .int) ∈ tb := tb_at (i := 1694) (by decide +kernel) (by decide +kernel)
theorem kt_1038 : Cond.methodLink RX15 501 yX15_sealAt ∈ tb := tb_at (i := 1691) (by decide +kernel) (by decide +kernel)
theorem kt_1039 : Cond.instanceMethod yX15_sealAt ∈ tb := tb_at (i := 1693) (by decide +kernel) (by decide +kernel)
theorem kt_1040 : Cond.selects RX15 yX15_sealAt yX15_sealAt ∈ tb := tb_at (i := 61) (by decide +kernel) (by decide +kernel)
theorem kt_1041 : Cond.code yX15_sealOf cX15_sealOf 8 (some .int) ∈ tb := tb_at (i := 1698) (by decide +kernel) (by decide +kernel)
theorem kt_1042 : Cond.methodLink RX15 504 yX15_sealOf ∈ tb := tb_at (i := 1695) (by decide +kernel) (by decide +kernel)
theorem kt_1043 : Cond.instanceMethod yX15_sealOf ∈ tb := tb_at (i := 1697) (by decide +kernel) (by decide +kernel)
theorem kt_1044 : Cond.selects RX15 yX15_sealOf yX15_sealOf ∈ tb := tb_at (i := 62) (by decide +kernel) (by decide +kernel)
theorem kt_1045 : Cond.fieldLink RX15 157 "PostGateModel" "asked" "LPostGateModel$Text;" ∈ tb := tb_at (i := 1345) (by decide +kernel) (by decide +kernel)
theorem kt_1046 : Cond.code yX14_isName cX14_isName 1 (some .boolean) ∈ tb := tb_at (i := 1872) (by decide +kernel) (by decide +kernel)
theorem kt_1047 : Cond.methodLink RX15 579 yX14_isName ∈ tb := tb_at (i := 1869) (by decide +kernel) (by decide +kernel)
theorem kt_1048 : Cond.instanceMethod yX14_isName ∈ tb := tb_at (i := 1870) (by decide +kernel) (by decide +kernel)
theorem kt_1049 : Cond.selects RX14 yX14_isName yX14_isName ∈ tb := tb_at (i := 1871) (by decide +kernel) (by decide +kernel)
theorem kt_1050 : Cond.code yX15_isSeen cX15_isSeen 4 (some .boolean) ∈ tb := tb_at (i := 1868) (by decide +kernel) (by decide +kernel)
theorem kt_1051 : Cond.methodLink RX15 581 yX15_isSeen ∈ tb := tb_at (i := 1865) (by decide +kernel) (by decide +kernel)
theorem kt_1052 : Cond.instanceMethod yX15_isSeen ∈ tb := tb_at (i := 1867) (by decide +kernel) (by decide +kernel)
theorem kt_1053 : Cond.selects RX15 yX15_isSeen yX15_isSeen ∈ tb := tb_at (i := 77) (by decide +kernel) (by decide +kernel)
theorem kt_1054 : Cond.code yX15_wantedOf cX15_wantedOf 5 (some .int) ∈ tb := tb_at (i := 1877) (by decide +kernel) (by decide +kernel)
theorem kt_1055 : Cond.methodLink RX15 584 yX15_wantedOf ∈ tb := tb_at (i := 1874) (by decide +kernel) (by decide +kernel)
theorem kt_1056 : Cond.instanceMethod yX15_wantedOf ∈ tb := tb_at (i := 1876) (by decide +kernel) (by decide +kernel)
theorem kt_1057 : Cond.selects RX15 yX15_wantedOf yX15_wantedOf ∈ tb := tb_at (i := 78) (by decide +kernel) (by decide +kernel)
theorem kt_1058 : Cond.fieldLink RX15 104 "PostGateModel" "wish" "LPostGateModel$Tags;" ∈ tb := tb_at (i := 1326) (by decide +kernel) (by decide +kernel)
theorem kt_1059 : Cond.code yX15_wanted cX15_wanted 2 (some .int) ∈ tb := tb_at (i := 1882) (by decide +kernel) (by decide +kernel)
theorem kt_1060 : Cond.methodLink RX15 587 yX15_wanted ∈ tb := tb_at (i := 1880) (by decide +kernel) (by decide +kernel)
theorem kt_1061 : Cond.static yX15_wanted ∈ tb := tb_at (i := 1881) (by decide +kernel) (by decide +kernel)
theorem kt_1062 : Cond.code yX15_permission cX15_permission 1 (some .int) ∈ tb := tb_at (i := 1521) (by decide +kernel) (by decide +kernel)
theorem kt_1063 : Cond.methodLink RX15 592 yX15_permission ∈ tb := tb_at (i := 1887) (by decide +kernel) (by decide +kernel)
theorem kt_1064 : Cond.instanceMethod yX15_permission ∈ tb := tb_at (i := 1519) (by decide +kernel) (by decide +kernel)
theorem kt_1065 : Cond.selects RX15 yX15_permission yX15_permission ∈ tb := tb_at (i := 1520) (by decide +kernel) (by decide +kernel)
theorem kt_1066 : Cond.code yX15_isAligned cX15_isAligned 4 (some .boolean) ∈ tb := tb_at (i := 1892) (by decide +kernel) (by decide +kernel)
theorem kt_1067 : Cond.methodLink RX15 597 yX15_isAligned ∈ tb := tb_at (i := 1889) (by decide +kernel) (by decide +kernel)
theorem kt_1068 : Cond.instanceMethod yX15_isAligned ∈ tb := tb_at (i := 1891) (by decide +kernel) (by decide +kernel)
theorem kt_1069 : Cond.selects RX15 yX15_isAligned yX15_isAligned ∈ tb := tb_at (i := 79) (by decide +kernel) (by decide +kernel)
set_option maxHeartbeats 4000000 in
set_option maxRecDepth 100000 in
theorem s_X15_sealOf (l : Launch) (dC : Nat → ClassId) (dI : Nat → Nat → Nat) (cs : Nat → ClassId) (ty : TyM) (gm : Nat → Nat → Nat) (L : List Nat) (sz : Nat) (F : Nat → va_E) (h0 : Nat) (ρ : Nat) (ta : Nat) (ou : Nat) (so : Nat) (ad : Nat) (na : Nat) (va : Nat) (lc : Nat) (dm : Nat) (tg : Nat) (pe : Nat) (ml : Nat) (bg : Nat) (co : Nat) (sp : Nat) (nb0 : Nat) (nb1 : Nat) (nb2 : Nat) (pl : Nat) (se : Nat) (ke : Nat) (wi : Nat) (hs : Nat) (mo : Nat) (po : Nat) (nu : Nat) (pr : Nat) (sq : Nat) (xa : Nat) (sa : Nat) (n64 : Nat) (m64 : Nat) (ex : Nat) (wh : Nat) (sd : Nat) (tk : Nat) (hd : Nat) (ak : Nat) (ho : Nat) (ot : Nat) (sx : Nat) (s0 : Nat) (s1 : Nat) (s2 : Nat) (nf : Nat) (bd : Nat) (mm : Nat) (ze : Nat) (zt : Nat) (sb : Nat) (rl : Nat) (jf : Nat) (x2 : Int32) (hW : WTm ty gm L) (hL_h0 : h0 ∈ L) (hT_h0 : ty h0 = (15, ρ, [ta, ou, so, ad, na, va, lc, dm, tg, pe, ml, bg, co, sp, nb0, nb1, nb2, pl, se, ke, wi, hs, mo, po, nu, pr, sq, xa, sa, n64, m64, ex, wh, sd, tk, hd, ak, ho, ot, sx, s0, s1, s2, nf, bd, mm, ze, zt])) (hL_sx : sx ∈ L) (hT_sx : ty sx = (14, ρ + 12, [sb, 3000])) (hL_pl : pl ∈ L) (hT_pl : ty pl = (14, ρ + 10, [rl, 6000])) (hjf : jf < nf) : Met l yX15_sealOf (.code yX15_sealOf cX15_sealOf 8 (some .int) :: tb) ({ frames := 8, cells := 0, slots := 0, locals := 186 }) (va_Pc [.ref h0, .int (nI jf), .int x2] (PTEm (dC, dI) cs ty gm L F sz [])) (va_Qi (fun (r : Int32) (_ : Unit) => True) (fun _ T9 => ∃ F2 : Nat → va_E, QTm (dC, dI) cs ty gm L [ρ, ρ + 10, ρ + 11, ρ + 12, ρ + 13, ρ + 14, ρ + 17, ρ + 18, ρ + 19, ρ + 20, ρ + 21, ρ + 22, ρ + 23, ρ + 24, ρ + 25, ρ + 26] F F2 (va_A (va_pl L F) sz) T9) (va_A (va_pl L F) sz)) 0 0 (va_A (va_pl L F) sz) := by
  refine Met.ofW (cc := cX15_sealOf) (maxL := 8) (ret := (some .int)) (by decide) rfl ?_
  intro p e s m args below meth c s₁ B hml hv
  obtain ⟨rfl, ⟨hsz, hP, hK, hD0, hE, hO⟩, hG, hX⟩ := hv
  have hx := B.exec
  have hb := B.bytes
  have hr := B.returns
  have hts : ∀ w ∈ tb, w.before _ s = true := fun w h => atoms_spec (ws := .code yX15_sealOf cX15_sealOf 8 (some .int) :: tb) B.pre w (List.mem_cons_of_mem _ h)
  have hown : s.vm.findClass RX15 = some m.cls := findClass_of_methodNamed B.named
  have hlocks := B.notSynchronized
  subst hsz
  have hD := hD0.self (sz := s.heap.size)
  generalize hAe : va_A (va_pl L F) s.heap.size = A at hD hG hX ⊢
  have hA : ∀ q : Nat, s.heap.size ≤ q → A q := fun q h => by rw [← hAe]; exact Or.inr h
  have hS : va_S A s.heap s.heap [] := va_S.rf
  have hR : FR ty [ρ, ρ + 10, ρ + 11, ρ + 12, ρ + 13, ρ + 14, ρ + 17, ρ + 18, ρ + 19, ρ + 20, ρ + 21, ρ + 22, ρ + 23, ρ + 24, ρ + 25, ρ + 26] F F := FR.refl
  have hl := lv_entry ([.ref h0, .int (nI jf), .int x2]) (n := 8) (Nat.le_of_ble_eq_true rfl)
  rw [lg_entry_eq]
  generalize (lg_sl ([.ref h0, .int (nI jf), .int x2]) ++ List.replicate (8 - (lg_sl ([.ref h0, .int (nI jf), .int x2])).length) Slot.unset).toArray = ls at hl ⊢
  have hl : lv_has ls 8 [(0, .ref h0), (1, .int (nI jf)), (2, .int x2)] := hl
  obtain ⟨hq_22, hq_23, hq_24, hq_25, hq_26, hgO, hgA, hgB⟩ := hW.sc hL_h0 hT_h0
  have hoj := hgO jf hjf
  obtain ⟨hi_27, ht_28⟩ := hW.f_se hL_h0 hT_h0
  obtain ⟨_, hi_29, hi_30, hi_31, _, ht_32, ht_33, ht_34, hq_35, hq_36⟩ := hW.tags hi_27 ht_28
  obtain ⟨hi_37, ht_38, hq_39⟩ := hW.txt hL_sx hT_sx
  obtain ⟨hi_40, ht_41, hq_42⟩ := hW.txt hL_pl hT_pl
  obtain ⟨hi_43, r_17, ht_44⟩ := hW.f_wh hL_h0 hT_h0
  obtain ⟨hi_45, ht_46, hq_47⟩ := hW.txt hi_43 ht_44
  obtain ⟨hi_48, r_18, ht_49⟩ := hW.f_sd hL_h0 hT_h0
  obtain ⟨hi_50, ht_51, hq_52⟩ := hW.txt hi_48 ht_49
  refine lv_aload_n hx hb dX15_sealOf_0 rfl (lv_at hl 0 rfl) ?_
  obtain ⟨zo_53, v11_54, v12_55, v14_56, v15_57, v17_58, v18_59, v19_60, v20_61, v21_62, v22_63, v33_64, v52_65, v53_66, v54_67, hF_68, hq_69, hq_70, hq_71, hq_72, hq_73⟩ := hO.mod hL_h0 hT_h0
  refine pg_get (ci := 15) (v := .ref ml) (C := RX15) (T := TX15) (N := 59) hx hb hts it_15 hown hK hP hL_h0 hF_68 rfl 23 (by decide) (hts _ kt_902) (fun _ h9 => h9) rfl dX15_sealOf_1 ?_
  refine lv_aload_n hx hb dX15_sealOf_4 rfl (lv_at hl 0 rfl) ?_
  refine pg_get (ci := 15) (v := .ref co) (C := RX15) (T := TX15) (N := 59) hx hb hts it_15 hown hK hP hL_h0 hF_68 rfl 25 (by decide) (hts _ kt_904) (fun _ h9 => h9) rfl dX15_sealOf_5 ?_
  refine lv_iload_n hx hb dX15_sealOf_8 rfl (lv_at hl 1 rfl) ?_
  obtain ⟨hi_74, ht_75⟩ := hW.f_co hL_h0 hT_h0
  obtain ⟨f_76, hF_77, hq_78⟩ := hO.pos hi_74 ht_75
  refine pg_iald hx hb hK hP hi_74 0 hF_77 rfl (vp_in_nI (by omega) (by omega)) dX15_sealOf_9 ?_
  refine lv_topi (fun x_79 ex_79 => ?_)
  obtain rfl : x_79 = (nI (gm 1 jf)) := ex_79.trans (by rw [show ((nI jf) : Int32) = nI jf from rfl, nI_clamp (by omega)]; exact hq_78 jf (by omega))
  have hgbx_79 := hgB 1 jf
  refine lv_iconst (v := 1) hx hb dX15_sealOf_10 (by decide) ?_
  refine lv_iadd hx hb dX15_sealOf_11 ?_
  refine lv_topi (fun x_80 ex_80 => ?_)
  obtain rfl : x_80 = (nI ((gm 1 jf) + 1)) := ex_80.trans (nI_add (gm 1 jf) 1)
  refine lv_aload_n hx hb dX15_sealOf_12 rfl (lv_at hl 0 rfl) ?_
  refine pg_get (ci := 15) (v := .ref sp) (C := RX15) (T := TX15) (N := 59) hx hb hts it_15 hown hK hP hL_h0 hF_68 rfl 26 (by decide) (hts _ kt_905) (fun _ h9 => h9) rfl dX15_sealOf_13 ?_
  refine lv_iload_n hx hb dX15_sealOf_16 rfl (lv_at hl 1 rfl) ?_
  obtain ⟨hi_81, ht_82⟩ := hW.f_sp hL_h0 hT_h0
  obtain ⟨f_83, hF_84, hq_85⟩ := hO.pos hi_81 ht_82
  refine pg_iald hx hb hK hP hi_81 0 hF_84 rfl (vp_in_nI (by omega) (by omega)) dX15_sealOf_17 ?_
  refine lv_topi (fun x_86 ex_86 => ?_)
  obtain rfl : x_86 = (nI (gm 2 jf)) := ex_86.trans (by rw [show ((nI jf) : Int32) = nI jf from rfl, nI_clamp (by omega)]; exact hq_85 jf (by omega))
  have hgbx_86 := hgB 2 jf
  refine lv_aload_n hx hb dX15_sealOf_18 rfl (lv_at hl 0 rfl) ?_
  refine pg_get (ci := 15) (v := .ref se) (C := RX15) (T := TX15) (N := 59) hx hb hts it_15 hown hK hP hL_h0 hF_68 rfl 35 (by decide) (hts _ kt_862) (fun _ h9 => h9) rfl dX15_sealOf_19 ?_
  obtain ⟨z_87, hF_88, hq_89⟩ := hO.tags hi_27 ht_28
  refine pg_get (ci := 13) (v := .ref sx) (C := RX13) (T := TX13) (N := 5) hx hb hts it_13 hown hK hP hi_27 hF_88 rfl 0 (by decide) (hts _ kt_857) (fun _ h9 => h9) rfl dX15_sealOf_22 ?_
  obtain ⟨hi_90, ht_91⟩ := hW.f_ml hL_h0 hT_h0
  obtain ⟨hq_92, hq_93⟩ := hW.octs hi_90 ht_91
  have hFc := pg_free hD hS hA
  refine va_callv (va_runS (As := [.ref ml, .int (nI ((gm 1 jf) + 1)), .int (nI (gm 2 jf)), .ref sx]) (rest := []) ⟨hx, hb, hml, hown, hts⟩ (s_X15_withoutWhite l dC dI cs ty gm L s.heap.size F ml (ρ + 8) 3000 sx (ρ + 12) sb 3000 ((gm 1 jf) + 1) (gm 2 jf) hW hi_90 ht_91 hL_sx hT_sx (by first | omega | assumption) (by first | omega | assumption) (by first | omega | assumption)) ⟨callB_of 4 hts (gi kt_955) rfl rfl rfl (hts _ kt_669) (hts _ kt_956) (by decide +kernel) ⟨Nat.le_of_ble_eq_true rfl, Nat.le_of_ble_eq_true rfl⟩, (hts _ kt_957)⟩ ⟨fun a U g mk q => ⟨q.1, PTm.calling q.2⟩, fun U hU hWm => ⟨rfl, PTm.mk hU hWm hP hK hD hE hO⟩⟩ rfl rfl hl.1 rfl (lv_room (Nat.le_of_ble_eq_true rfl)) dX15_sealOf_25 ⟨by show _ + 0 ≤ 0; omega, by show _ + 0 ≤ 0; omega⟩) hS (fun q _ h => hFc q h) hFc (fun u t H1 locs ht hvm hw hB hz1 hk1 hS => ?_)
  obtain ⟨F_95, z2_96, hB1, hq_97, hq_98⟩ := hB
  obtain ⟨hP, hD, hO, hR⟩ := QTm.back hB1 ht hFc hR (fun q h => by simp only [List.mem_cons, List.not_mem_nil, or_false] at h ⊢; omega)
  have hF_99 : F_95 h0 = .inr (15, (.ref ta) :: (.int (nI zt)) :: (.int (nI zo_53)) :: (.int (nI ze)) :: (.ref ou) :: (.ref so) :: (.ref ad) :: (.ref na) :: (.ref va) :: (.ref lc) :: (.ref dm) :: (.int v11_54) :: (.int v12_55) :: (.ref tg) :: (.int v14_56) :: (.int v15_57) :: (.ref pe) :: (.int v17_58) :: (.int v18_59) :: (.int v19_60) :: (.int v20_61) :: (.int v21_62) :: (.int v22_63) :: (.ref ml) :: (.ref bg) :: (.ref co) :: (.ref sp) :: (.ref nb0) :: (.ref nb1) :: (.ref nb2) :: (.int (nI nf)) :: (.int (nI bd)) :: (.int (nI mm)) :: (.int v33_64) :: (.ref pl) :: (.ref se) :: (.ref ke) :: (.ref wi) :: (.ref hs) :: (.ref mo) :: (.ref po) :: (.ref nu) :: (.ref pr) :: (.ref sq) :: (.ref xa) :: (.ref sa) :: (.ref n64) :: (.ref m64) :: (.ref ex) :: (.ref wh) :: (.ref sd) :: (.ref tk) :: (.int v52_65) :: (.int v53_66) :: (.int v54_67) :: (.ref hd) :: (.ref ak) :: (.ref ho) :: (.ref ot) :: []) := (hB1.2.2.2 h0 (by rw [hT_h0]; simp)).trans hF_68
  have hF_100 : F_95 co = .inl (cs 16, 21, .inl f_76) := (hB1.2.2.2 co (by rw [ht_75]; simp)).trans hF_77
  have hF_101 : F_95 sp = .inl (cs 16, 21, .inl f_83) := (hB1.2.2.2 sp (by rw [ht_82]; simp)).trans hF_84
  have hF_102 : F_95 se = .inr (13, [.ref sx, .ref s0, .ref s1, .ref s2, .int (nI z_87)]) := (hB1.2.2.2 se (by rw [ht_28]; simp)).trans hF_88
  generalize H1 = H at hP hS ⊢
  refine lv_aload_n hx hb dX15_sealOf_28 rfl (lv_at hl 0 rfl) ?_
  have hFc := pg_free hD hS hA
  refine va_calli (va_runV (As := []) (rest := []) ⟨hx, hb, hml, hown, hts⟩ (s_X15_isWell l dC dI cs ty gm L H.size F_95 h0 ρ ta ou so ad na va lc dm tg pe ml bg co sp nb0 nb1 nb2 pl se ke wi hs mo po nu pr sq xa sa n64 m64 ex wh sd tk hd ak ho ot sx s0 s1 s2 nf bd mm ze zt sb z2_96 hW hL_h0 hT_h0 hL_sx hT_sx hq_97 (by omega)) ⟨callB_of 0 hts (gi kt_1013) rfl rfl rfl (hts _ kt_669) (hts _ kt_1014) (by decide +kernel) ⟨Nat.le_of_ble_eq_true rfl, Nat.le_of_ble_eq_true rfl⟩, (hts _ kt_1015), (hts _ kt_1016)⟩ ⟨fun a U g mk q => ⟨q.1, PTEm.calling q.2⟩, pg_recv hK hP hL_h0 hF_99 (q := (RX15, TX15, 59)) rfl, fun U hU hWm => ⟨rfl, PTEm.mk hU hWm hP hK hD hE hO hG (fun x hx => absurd hx List.not_mem_nil) hS hFc⟩⟩ rfl rfl hl.1 rfl (lv_room (Nat.le_of_ble_eq_true rfl)) dX15_sealOf_29 ⟨by show _ + 0 ≤ 0; omega, by show _ + 0 ≤ 0; omega⟩) hS (fun q _ h => hFc q h) hFc (fun r_104 wk_103 t H1 locs ht hvm hw hB hz1 hk1 hS => ?_)
  obtain ⟨F_105, eb_106, e0_107, e1_108, e2_109, zs_110, hB1, hq_111, hq_112, hq_113, hq_114, hq_115, hq_116, hq_117⟩ := hB
  obtain ⟨hP, hD, hO, hR⟩ := QTm.back hB1 ht hFc hR (fun q h => by simp only [List.mem_cons, List.not_mem_nil, or_false] at h ⊢; omega)
  have hF_118 : F_105 co = .inl (cs 16, 21, .inl f_76) := (hB1.2.2.2 co (by rw [ht_75]; simp)).trans hF_100
  have hF_119 : F_105 sp = .inl (cs 16, 21, .inl f_83) := (hB1.2.2.2 sp (by rw [ht_82]; simp)).trans hF_101
  have hF_120 : F_105 sx = .inr (14, [.ref sb, .int (nI z2_96)]) := (hB1.2.2.2 sx (by rw [hT_sx]; simp)).trans hq_97
  generalize H1 = H at hP hS ⊢
  have hw : (r_104 = 0 ∨ (r_104 = 1 ∧ wk_103 = 1)) := hw
  have hw_121 := hw
  obtain ⟨eb, e0, e1, e2, zs, hka, hkb, hkc, hkd, hke, hzs, hwl⟩ : ∃ (eb e0 e1 e2 : Nat → Int32) (zs : Nat), F_105 sb = .inl (cs 17, 3000, .inl eb) ∧ F_105 s0 = .inl (cs 16, 40, .inl e0) ∧ F_105 s1 = .inl (cs 16, 40, .inl e1) ∧ F_105 s2 = .inl (cs 16, 40, .inl e2) ∧ F_105 se = .inr (13, [.ref sx, .ref s0, .ref s1, .ref s2, .int (nI zs)]) ∧ zs ≤ 40 ∧ (wk_103 = 1 → WLP eb e0 e1 e2 zs) := ⟨_, _, _, _, _, hq_111, hq_112, hq_113, hq_114, hq_115, hq_116, hq_117⟩
  refine lv_if_ne (tgt := 37) hx hb dX15_sealOf_32 (by decide) (fun c_122 => ?_) (fun c_122 => ?_)
  ·
    obtain ⟨kd, ks, kh, hd1, hs1, hh1, hfd, htd, hfs, hfk, hfh⟩ := hwl (bit1 hw_121 c_122)
    refine lv_aload_n hx hb dX15_sealOf_37 rfl (lv_at hl 0 rfl) ?_
    obtain ⟨zo_123, v11_124, v12_125, v14_126, v15_127, v17_128, v18_129, v19_130, v20_131, v21_132, v22_133, v33_134, v52_135, v53_136, v54_137, hF_138, hq_139, hq_140, hq_141, hq_142, hq_143⟩ := hO.mod hL_h0 hT_h0
    refine pg_get (ci := 15) (v := .ref se) (C := RX15) (T := TX15) (N := 59) hx hb hts it_15 hown hK hP hL_h0 hF_138 rfl 35 (by decide) (hts _ kt_862) (fun _ h9 => h9) rfl dX15_sealOf_38 ?_
    obtain ⟨q_144, v_145, hr_q_144, hX_q_144⟩ := hG.2.2 ("PostGateModel", 454, "d", [100]) (by decide +kernel)
    have hX_q_144 : SXc q_144 v_145 1 (cct [100]) A s s.heap := hX_q_144
    obtain ⟨xo_q_144, xc_q_144, xv_q_144, xt_q_144, xn_q_144⟩ := id hX_q_144
    have hr_q_144 : vk_R "PostGateModel" 454 "d" q_144 s := hr_q_144
    refine va_ldcwS hx hb hown hr_q_144 dX15_sealOf_41 ?_
    have hFc := pg_free hD hS hA
    refine va_calli (va_runV (As := [.ref q_144]) (rest := []) ⟨hx, hb, hml, hown, hts⟩ (s_X13_find l dC dI cs ty gm L H.size F_105 se (ρ + 11) sx 3000 1280 s0 s1 s2 sb zs q_144 v_145 1 (cct [100]) hW hi_27 ht_28 hL_sx hT_sx hke (by first | omega | assumption)) ⟨callB_of 1 hts (gi kt_843) rfl rfl rfl (hts _ kt_844) (hts _ kt_854) (by decide +kernel) ⟨Nat.le_of_ble_eq_true rfl, Nat.le_of_ble_eq_true rfl⟩, (hts _ kt_846), (hts _ kt_847)⟩ ⟨fun a U g mk q => ⟨q.1, PTEm.calling q.2⟩, pg_recv hK hP hi_27 hke (q := (RX13, TX13, 5)) rfl, fun U hU hWm => ⟨rfl, PTEm.mk hU hWm hP hK hD hE hO hG (fun x hx => by rw [List.mem_singleton] at hx; subst hx; exact hX_q_144) hS hFc⟩⟩ rfl rfl hl.1 rfl (lv_room (Nat.le_of_ble_eq_true rfl)) dX15_sealOf_44 ⟨by show _ + 0 ≤ 0; omega, by show _ + 0 ≤ 0; omega⟩) hS (fun q _ h => hFc q h) hFc (fun r_146 u t H1 locs ht hvm hw hB hz1 hk1 hS => ?_)
    obtain ⟨F_147, hB1⟩ := hB
    obtain rfl : F_105 = F_147 := (funext (fun a => hB1.2.2.2 a List.not_mem_nil)).symm
    obtain ⟨hP, hD, hO, hR⟩ := QTm.back hB1 ht hFc hR (fun q h => absurd h List.not_mem_nil)
    generalize H1 = H at hP hS ⊢
    have hw : FND (gA (F_105 sb)) (gA (F_105 s0)) (gA (F_105 s1)) zs (cct [100]) 1 r_146 := hw
    have hw_148 := hw
    have hfr_149 : FND eb e0 e1 zs (cct [100]) 1 r_146 := by have h9 := hw_148; rw [gA_fun hka, gA_fun hkb, gA_fun hkc] at h9; exact h9
    obtain rfl := FND.uniq hfr_149 hfd
    refine lv_istore_n (lv' := [(3, .int (nI kd)), (0, .ref h0), (1, .int (nI jf)), (2, .int x2)]) hx hb dX15_sealOf_47 rfl hl (by decide) rfl (fun ls hl => ?_)
    refine lv_aload_n hx hb dX15_sealOf_48 rfl (lv_at hl 1 rfl) ?_
    refine pg_get (ci := 15) (v := .ref se) (C := RX15) (T := TX15) (N := 59) hx hb hts it_15 hown hK hP hL_h0 hF_138 rfl 35 (by decide) (hts _ kt_862) (fun _ h9 => h9) rfl dX15_sealOf_49 ?_
    obtain ⟨q_150, v_151, hr_q_150, hX_q_150⟩ := hG.2.2 ("PostGateModel", 460, "s", [115]) (by decide +kernel)
    have hX_q_150 : SXc q_150 v_151 1 (cct [115]) A s s.heap := hX_q_150
    obtain ⟨xo_q_150, xc_q_150, xv_q_150, xt_q_150, xn_q_150⟩ := id hX_q_150
    have hr_q_150 : vk_R "PostGateModel" 460 "s" q_150 s := hr_q_150
    refine va_ldcwS hx hb hown hr_q_150 dX15_sealOf_52 ?_
    have hFc := pg_free hD hS hA
    refine va_calli (va_runV (As := [.ref q_150]) (rest := []) ⟨hx, hb, hml, hown, hts⟩ (s_X13_find l dC dI cs ty gm L H.size F_105 se (ρ + 11) sx 3000 1280 s0 s1 s2 sb zs q_150 v_151 1 (cct [115]) hW hi_27 ht_28 hL_sx hT_sx hke (by first | omega | assumption)) ⟨callB_of 1 hts (gi kt_843) rfl rfl rfl (hts _ kt_844) (hts _ kt_854) (by decide +kernel) ⟨Nat.le_of_ble_eq_true rfl, Nat.le_of_ble_eq_true rfl⟩, (hts _ kt_846), (hts _ kt_847)⟩ ⟨fun a U g mk q => ⟨q.1, PTEm.calling q.2⟩, pg_recv hK hP hi_27 hke (q := (RX13, TX13, 5)) rfl, fun U hU hWm => ⟨rfl, PTEm.mk hU hWm hP hK hD hE hO hG (fun x hx => by rw [List.mem_singleton] at hx; subst hx; exact hX_q_150) hS hFc⟩⟩ rfl rfl hl.1 rfl (lv_room (Nat.le_of_ble_eq_true rfl)) dX15_sealOf_55 ⟨by show _ + 0 ≤ 0; omega, by show _ + 0 ≤ 0; omega⟩) hS (fun q _ h => hFc q h) hFc (fun r_152 u t H1 locs ht hvm hw hB hz1 hk1 hS => ?_)
    obtain ⟨F_153, hB1⟩ := hB
    obtain rfl : F_105 = F_153 := (funext (fun a => hB1.2.2.2 a List.not_mem_nil)).symm
    obtain ⟨hP, hD, hO, hR⟩ := QTm.back hB1 ht hFc hR (fun q h => absurd h List.not_mem_nil)
    generalize H1 = H at hP hS ⊢
    have hw : FND (gA (F_105 sb)) (gA (F_105 s0)) (gA (F_105 s1)) zs (cct [115]) 1 r_152 := hw
    have hw_154 := hw
    have hfr_155 : FND eb e0 e1 zs (cct [115]) 1 r_152 := by have h9 := hw_154; rw [gA_fun hka, gA_fun hkb, gA_fun hkc] at h9; exact h9
    obtain rfl := FND.uniq hfr_155 hfs
    refine lv_istore (lv' := [(4, .int (nI ks)), (3, .int (nI kd)), (0, .ref h0), (1, .int (nI jf)), (2, .int x2)]) hx hb dX15_sealOf_58 hl (by decide) rfl (fun ls hl => ?_)
    refine lv_aload_n hx hb dX15_sealOf_60 rfl (lv_at hl 2 rfl) ?_
    refine pg_get (ci := 15) (v := .ref se) (C := RX15) (T := TX15) (N := 59) hx hb hts it_15 hown hK hP hL_h0 hF_138 rfl 35 (by decide) (hts _ kt_862) (fun _ h9 => h9) rfl dX15_sealOf_61 ?_
    obtain ⟨q_156, v_157, hr_q_156, hX_q_156⟩ := hG.2.2 ("PostGateModel", 481, "x", [120]) (by decide +kernel)
    have hX_q_156 : SXc q_156 v_157 1 (cct [120]) A s s.heap := hX_q_156
    obtain ⟨xo_q_156, xc_q_156, xv_q_156, xt_q_156, xn_q_156⟩ := id hX_q_156
    have hr_q_156 : vk_R "PostGateModel" 481 "x" q_156 s := hr_q_156
    refine va_ldcwS hx hb hown hr_q_156 dX15_sealOf_64 ?_
    have hFc := pg_free hD hS hA
    refine va_calli (va_runS (As := [.ref se, .ref q_156]) (rest := []) ⟨hx, hb, hml, hown, hts⟩ (s_X15_number l dC dI cs ty gm L H.size F_105 se (ρ + 11) sx 3000 1280 s0 s1 s2 sb zs q_156 v_157 1 (cct [120]) hW hi_27 ht_28 hL_sx hT_sx hke (by first | omega | assumption)) ⟨callB_of 2 hts (gi kt_899) rfl rfl rfl (hts _ kt_669) (hts _ kt_900) (by decide +kernel) ⟨Nat.le_of_ble_eq_true rfl, Nat.le_of_ble_eq_true rfl⟩, (hts _ kt_901)⟩ ⟨fun a U g mk q => ⟨q.1, PTEm.calling q.2⟩, fun U hU hWm => ⟨rfl, PTEm.mk hU hWm hP hK hD hE hO hG (fun x hx => by rw [List.mem_singleton] at hx; subst hx; exact hX_q_156) hS hFc⟩⟩ rfl rfl hl.1 rfl (lv_room (Nat.le_of_ble_eq_true rfl)) dX15_sealOf_67 ⟨by show _ + 0 ≤ 0; omega, by show _ + 0 ≤ 0; omega⟩) hS (fun q _ h => hFc q h) hFc (fun r_158 u t H1 locs ht hvm hw hB hz1 hk1 hS => ?_)
    obtain ⟨F_159, hB1⟩ := hB
    obtain rfl : F_105 = F_159 := (funext (fun a => hB1.2.2.2 a List.not_mem_nil)).symm
    obtain ⟨hP, hD, hO, hR⟩ := QTm.back hB1 ht hFc hR (fun q h => absurd h List.not_mem_nil)
    generalize H1 = H at hP hS ⊢
    have hw : True := hw
    have hw_160 := hw
    refine lv_istore (lv' := [(5, .int r_158), (4, .int (nI ks)), (3, .int (nI kd)), (0, .ref h0), (1, .int (nI jf)), (2, .int x2)]) hx hb dX15_sealOf_70 hl (by decide) rfl (fun ls hl => ?_)
    refine lv_aload_n hx hb dX15_sealOf_72 rfl (lv_at hl 3 rfl) ?_
    refine pg_get (ci := 15) (v := .ref sd) (C := RX15) (T := TX15) (N := 59) hx hb hts it_15 hown hK hP hL_h0 hF_138 rfl 50 (by decide) (hts _ kt_1017) (fun _ h9 => h9) rfl dX15_sealOf_73 ?_
    refine lv_aload_n hx hb dX15_sealOf_76 rfl (lv_at hl 3 rfl) ?_
    refine pg_get (ci := 15) (v := .ref se) (C := RX15) (T := TX15) (N := 59) hx hb hts it_15 hown hK hP hL_h0 hF_138 rfl 35 (by decide) (hts _ kt_862) (fun _ h9 => h9) rfl dX15_sealOf_77 ?_
    refine pg_get (ci := 13) (v := .ref sx) (C := RX13) (T := TX13) (N := 5) hx hb hts it_13 hown hK hP hi_27 hke rfl 0 (by decide) (hts _ kt_857) (fun _ h9 => h9) rfl dX15_sealOf_80 ?_
    refine pg_get (ci := 14) (v := .ref sb) (C := RX14) (T := TX14) (N := 2) hx hb hts it_14 hown hK hP hL_sx hF_120 rfl 0 (by decide) (hts _ kt_710) (fun _ h9 => h9) rfl dX15_sealOf_83 ?_
    refine lv_aload_n hx hb dX15_sealOf_86 rfl (lv_at hl 3 rfl) ?_
    refine pg_get (ci := 15) (v := .ref se) (C := RX15) (T := TX15) (N := 59) hx hb hts it_15 hown hK hP hL_h0 hF_138 rfl 35 (by decide) (hts _ kt_862) (fun _ h9 => h9) rfl dX15_sealOf_87 ?_
    refine pg_get (ci := 13) (v := .ref s1) (C := RX13) (T := TX13) (N := 5) hx hb hts it_13 hown hK hP hi_27 hke rfl 2 (by decide) (hts _ kt_855) (fun _ h9 => h9) rfl dX15_sealOf_90 ?_
    refine lv_iload_n hx hb dX15_sealOf_93 rfl (lv_at hl 2 rfl) ?_
    refine pg_iald hx hb hK hP hi_30 0 hkc rfl (vp_in_nI (by omega) (by omega)) dX15_sealOf_94 ?_
    have hq_161 := ixb_of hkc (hO.idb hi_30 ht_33)
    obtain ⟨k_162, hk_163, ek_164⟩ := hq_161 ((nI kd) : Int32).toNatClampNeg
    refine lv_topi (fun x_165 ex_165 => ?_)
    obtain rfl : x_165 = nI k_162 := ex_165.trans ek_164
    refine lv_iconst (v := 1) hx hb dX15_sealOf_95 (by decide) ?_
    refine lv_iadd hx hb dX15_sealOf_96 ?_
    refine lv_topi (fun x_166 ex_166 => ?_)
    obtain rfl : x_166 = (nI (k_162 + 1)) := ex_166.trans (nI_add k_162 1)
    refine lv_aload_n hx hb dX15_sealOf_97 rfl (lv_at hl 3 rfl) ?_
    refine pg_get (ci := 15) (v := .ref se) (C := RX15) (T := TX15) (N := 59) hx hb hts it_15 hown hK hP hL_h0 hF_138 rfl 35 (by decide) (hts _ kt_862) (fun _ h9 => h9) rfl dX15_sealOf_98 ?_
    refine pg_get (ci := 13) (v := .ref s2) (C := RX13) (T := TX13) (N := 5) hx hb hts it_13 hown hK hP hi_27 hke rfl 3 (by decide) (hts _ kt_856) (fun _ h9 => h9) rfl dX15_sealOf_101 ?_
    refine lv_iload_n hx hb dX15_sealOf_104 rfl (lv_at hl 2 rfl) ?_
    refine pg_iald hx hb hK hP hi_31 0 hkd rfl (vp_in_nI (by omega) (by omega)) dX15_sealOf_105 ?_
    have hq_167 := ixb_of hkd (hO.idb hi_31 ht_34)
    obtain ⟨k_168, hk_169, ek_170⟩ := hq_167 ((nI kd) : Int32).toNatClampNeg
    refine lv_topi (fun x_171 ex_171 => ?_)
    obtain rfl : x_171 = nI k_168 := ex_171.trans ek_170
    have htgd := (TGN.eq (ekc ek_164 (by omega)) (ekc ek_170 (by omega)) (by omega) (by omega)).mp htd
    obtain ⟨hq_172, hq_173⟩ := hW.octs hi_37 ht_38
    have hFc := pg_free hD hS hA
    obtain ⟨z_174, hF_175, hq_176⟩ := hO.txt hi_48 ht_49
    refine va_callv (va_runV (As := [.ref sb, .int (nI (k_162 + 1)), .int (nI k_168)]) (rest := []) ⟨hx, hb, hml, hown, hts⟩ (s_X14_set l dC dI cs ty gm L H.size F_105 sd (ρ + 25) r_18 3000 sb (ρ + 12) 3000 (k_162 + 1) k_168 hW hi_48 ht_49 hi_37 ht_38 (by first | omega | assumption) (by first | omega | assumption) (by first | omega | assumption)) ⟨callB_of 3 hts (gi kt_979) rfl rfl rfl (hts _ kt_676) (hts _ kt_980) (by decide +kernel) ⟨Nat.le_of_ble_eq_true rfl, Nat.le_of_ble_eq_true rfl⟩, (hts _ kt_981), (hts _ kt_982)⟩ ⟨fun a U g mk q => ⟨q.1, PTm.calling q.2⟩, pg_recv hK hP hi_48 hF_175 (q := (RX14, TX14, 2)) rfl, fun U hU hWm => ⟨rfl, PTm.mk hU hWm hP hK hD hE hO⟩⟩ rfl rfl hl.1 rfl (lv_room (Nat.le_of_ble_eq_true rfl)) dX15_sealOf_106 ⟨by show _ + 0 ≤ 0; omega, by show _ + 0 ≤ 0; omega⟩) hS (fun q _ h => hFc q h) hFc (fun u t H1 locs ht hvm hw hB hz1 hk1 hS => ?_)
    obtain ⟨F_178, hB1, hq_179⟩ := hB
    obtain ⟨hP, hD, hO, hR⟩ := QTm.back hB1 ht hFc hR (fun q h => by simp only [List.mem_cons, List.not_mem_nil, or_false] at h ⊢; omega)
    have hF_180 : F_178 co = .inl (cs 16, 21, .inl f_76) := (hB1.2.2.2 co (by rw [ht_75]; simp)).trans hF_118
    have hF_181 : F_178 sp = .inl (cs 16, 21, .inl f_83) := (hB1.2.2.2 sp (by rw [ht_82]; simp)).trans hF_119
    have hF_182 : F_178 sx = .inr (14, [.ref sb, .int (nI z2_96)]) := (hB1.2.2.2 sx (by rw [hT_sx]; simp)).trans hF_120
    have hF_183 : F_178 sb = .inl (cs 17, 3000, .inl eb) := (hB1.2.2.2 sb (by rw [ht_38]; simp)).trans hka
    have hF_184 : F_178 s0 = .inl (cs 16, 40, .inl e0) := (hB1.2.2.2 s0 (by rw [ht_32]; simp)).trans hkb
    have hF_185 : F_178 s1 = .inl (cs 16, 40, .inl e1) := (hB1.2.2.2 s1 (by rw [ht_33]; simp)).trans hkc
    have hF_186 : F_178 s2 = .inl (cs 16, 40, .inl e2) := (hB1.2.2.2 s2 (by rw [ht_34]; simp)).trans hkd
    have hF_187 : F_178 se = .inr (13, [.ref sx, .ref s0, .ref s1, .ref s2, .int (nI zs)]) := (hB1.2.2.2 se (by rw [ht_28]; simp)).trans hke
    have hF_188 : F_178 h0 = .inr (15, (.ref ta) :: (.int (nI zt)) :: (.int (nI zo_123)) :: (.int (nI ze)) :: (.ref ou) :: (.ref so) :: (.ref ad) :: (.ref na) :: (.ref va) :: (.ref lc) :: (.ref dm) :: (.int v11_124) :: (.int v12_125) :: (.ref tg) :: (.int v14_126) :: (.int v15_127) :: (.ref pe) :: (.int v17_128) :: (.int v18_129) :: (.int v19_130) :: (.int v20_131) :: (.int v21_132) :: (.int v22_133) :: (.ref ml) :: (.ref bg) :: (.ref co) :: (.ref sp) :: (.ref nb0) :: (.ref nb1) :: (.ref nb2) :: (.int (nI nf)) :: (.int (nI bd)) :: (.int (nI mm)) :: (.int v33_134) :: (.ref pl) :: (.ref se) :: (.ref ke) :: (.ref wi) :: (.ref hs) :: (.ref mo) :: (.ref po) :: (.ref nu) :: (.ref pr) :: (.ref sq) :: (.ref xa) :: (.ref sa) :: (.ref n64) :: (.ref m64) :: (.ref ex) :: (.ref wh) :: (.ref sd) :: (.ref tk) :: (.int v52_135) :: (.int v53_136) :: (.int v54_137) :: (.ref hd) :: (.ref ak) :: (.ref ho) :: (.ref ot) :: []) := (hB1.2.2.2 h0 (by rw [hT_h0]; simp)).trans hF_138
    generalize H1 = H at hP hS ⊢
    have hF_191 : F co = .inl (cs 16, 21, .inl f_76) := (hR co (by rw [ht_75]; simp)).symm.trans hF_180
    have hF_192 : F sp = .inl (cs 16, 21, .inl f_83) := (hR sp (by rw [ht_82]; simp)).symm.trans hF_181
    refine W.widen (k := 0) (n := 0) (by omega) (by omega) ?_
    refine pl_cutm (σ := Unit) A (dC, dI) cs ty gm L [ρ, ρ + 10, ρ + 11, ρ + 12, ρ + 13, ρ + 14, ρ + 17, ρ + 18, ρ + 19, ρ + 20, ρ + 21, ρ + 22, ρ + 23, ρ + 24, ρ + 25, ρ + 26] F 122 8 (fun u0 => [(4, .int (nI ks)), (0, .ref h0), (1, .int (nI jf)), (2, .int x2)]) (fun u0 => []) (fun u0 FF => FF sb = .inl (cs 17, 3000, .inl eb) ∧ FF s0 = .inl (cs 16, 40, .inl e0) ∧ FF s1 = .inl (cs 16, 40, .inl e1) ∧ FF s2 = .inl (cs 16, 40, .inl e2) ∧ FF se = .inr (13, [.ref sx, .ref s0, .ref s1, .ref s2, .int (nI zs)]) ∧ FF sd = .inr (14, [.ref r_18, .int (nI (k_168 - (k_162 + 1)))])) ?_ (fun jn_189 => ?_)
    ·
      rintro u0 F_190 hv_193 hO hR H locs hP hD hS ls hl
      have hl : lv_has ls 8 [(4, .int (nI ks)), (0, .ref h0), (1, .int (nI jf)), (2, .int x2)] := hl
      have hv_193 : F_190 sb = .inl (cs 17, 3000, .inl eb) ∧ F_190 s0 = .inl (cs 16, 40, .inl e0) ∧ F_190 s1 = .inl (cs 16, 40, .inl e1) ∧ F_190 s2 = .inl (cs 16, 40, .inl e2) ∧ F_190 se = .inr (13, [.ref sx, .ref s0, .ref s1, .ref s2, .int (nI zs)]) ∧ F_190 sd = .inr (14, [.ref r_18, .int (nI (k_168 - (k_162 + 1)))]) := hv_193
      refine W.eq (g2 := F0 m 122 ls []) rfl ?_
      have hF_194 : F_190 co = .inl (cs 16, 21, .inl f_76) := (hR co (by rw [ht_75]; simp)).trans hF_191
      have hF_195 : F_190 sp = .inl (cs 16, 21, .inl f_83) := (hR sp (by rw [ht_82]; simp)).trans hF_192
      obtain ⟨hma, hmb, hmc, hmd, hme, hsd1⟩ := hv_193
      refine lv_aload_n hx hb dX15_sealOf_122 rfl (lv_at hl 1 rfl) ?_
      obtain ⟨zo_196, v11_197, v12_198, v14_199, v15_200, v17_201, v18_202, v19_203, v20_204, v21_205, v22_206, v33_207, v52_208, v53_209, v54_210, hF_211, hq_212, hq_213, hq_214, hq_215, hq_216⟩ := hO.mod hL_h0 hT_h0
      refine pg_get (ci := 15) (v := .ref wh) (C := RX15) (T := TX15) (N := 59) hx hb hts it_15 hown hK hP hL_h0 hF_211 rfl 49 (by decide) (hts _ kt_953) (fun _ h9 => h9) rfl dX15_sealOf_123 ?_
      refine lv_aload_n hx hb dX15_sealOf_126 rfl (lv_at hl 1 rfl) ?_
      refine pg_get (ci := 15) (v := .ref se) (C := RX15) (T := TX15) (N := 59) hx hb hts it_15 hown hK hP hL_h0 hF_211 rfl 35 (by decide) (hts _ kt_862) (fun _ h9 => h9) rfl dX15_sealOf_127 ?_
      refine pg_get (ci := 13) (v := .ref sx) (C := RX13) (T := TX13) (N := 5) hx hb hts it_13 hown hK hP hi_27 hme rfl 0 (by decide) (hts _ kt_857) (fun _ h9 => h9) rfl dX15_sealOf_130 ?_
      obtain ⟨z_217, hF_218, hq_219⟩ := hO.txt hL_sx hT_sx
      refine pg_get (ci := 14) (v := .ref sb) (C := RX14) (T := TX14) (N := 2) hx hb hts it_14 hown hK hP hL_sx hF_218 rfl 0 (by decide) (hts _ kt_710) (fun _ h9 => h9) rfl dX15_sealOf_133 ?_
      refine lv_aload_n hx hb dX15_sealOf_136 rfl (lv_at hl 1 rfl) ?_
      refine pg_get (ci := 15) (v := .ref se) (C := RX15) (T := TX15) (N := 59) hx hb hts it_15 hown hK hP hL_h0 hF_211 rfl 35 (by decide) (hts _ kt_862) (fun _ h9 => h9) rfl dX15_sealOf_137 ?_
      refine pg_get (ci := 13) (v := .ref s1) (C := RX13) (T := TX13) (N := 5) hx hb hts it_13 hown hK hP hi_27 hme rfl 2 (by decide) (hts _ kt_855) (fun _ h9 => h9) rfl dX15_sealOf_140 ?_
      refine lv_iload hx hb dX15_sealOf_143 (lv_at hl 0 rfl) ?_
      refine pg_iald hx hb hK hP hi_30 0 hmc rfl (vp_in_nI (by omega) (by omega)) dX15_sealOf_145 ?_
      have hq_220 := ixb_of hmc (hO.idb hi_30 ht_33)
      obtain ⟨k_221, hk_222, ek_223⟩ := hq_220 ((nI ks) : Int32).toNatClampNeg
      refine lv_topi (fun x_224 ex_224 => ?_)
      obtain rfl : x_224 = nI k_221 := ex_224.trans ek_223
      refine lv_iconst (v := 1) hx hb dX15_sealOf_146 (by decide) ?_
      refine lv_iadd hx hb dX15_sealOf_147 ?_
      refine lv_topi (fun x_225 ex_225 => ?_)
      obtain rfl : x_225 = (nI (k_221 + 1)) := ex_225.trans (nI_add k_221 1)
      refine lv_aload_n hx hb dX15_sealOf_148 rfl (lv_at hl 1 rfl) ?_
      refine pg_get (ci := 15) (v := .ref se) (C := RX15) (T := TX15) (N := 59) hx hb hts it_15 hown hK hP hL_h0 hF_211 rfl 35 (by decide) (hts _ kt_862) (fun _ h9 => h9) rfl dX15_sealOf_149 ?_
      refine pg_get (ci := 13) (v := .ref s2) (C := RX13) (T := TX13) (N := 5) hx hb hts it_13 hown hK hP hi_27 hme rfl 3 (by decide) (hts _ kt_856) (fun _ h9 => h9) rfl dX15_sealOf_152 ?_
      refine lv_iload hx hb dX15_sealOf_155 (lv_at hl 0 rfl) ?_
      refine pg_iald hx hb hK hP hi_31 0 hmd rfl (vp_in_nI (by omega) (by omega)) dX15_sealOf_157 ?_
      have hq_226 := ixb_of hmd (hO.idb hi_31 ht_34)
      obtain ⟨k_227, hk_228, ek_229⟩ := hq_226 ((nI ks) : Int32).toNatClampNeg
      refine lv_topi (fun x_230 ex_230 => ?_)
      obtain rfl : x_230 = nI k_227 := ex_230.trans ek_229
      have htgs := (TGN.eq (ekc ek_223 (by omega)) (ekc ek_229 (by omega)) (by omega) (by omega)).mp hfk
      have hFc := pg_free hD hS hA
      obtain ⟨z_231, hF_232, hq_233⟩ := hO.txt hi_43 ht_44
      refine va_callv (va_runV (As := [.ref sb, .int (nI (k_221 + 1)), .int (nI k_227)]) (rest := []) ⟨hx, hb, hml, hown, hts⟩ (s_X14_set l dC dI cs ty gm L H.size F_190 wh (ρ + 24) r_17 6000 sb (ρ + 12) 3000 (k_221 + 1) k_227 hW hi_43 ht_44 hi_37 ht_38 (by first | omega | assumption) (by first | omega | assumption) (by first | omega | assumption)) ⟨callB_of 3 hts (gi kt_979) rfl rfl rfl (hts _ kt_676) (hts _ kt_980) (by decide +kernel) ⟨Nat.le_of_ble_eq_true rfl, Nat.le_of_ble_eq_true rfl⟩, (hts _ kt_981), (hts _ kt_982)⟩ ⟨fun a U g mk q => ⟨q.1, PTm.calling q.2⟩, pg_recv hK hP hi_43 hF_232 (q := (RX14, TX14, 2)) rfl, fun U hU hWm => ⟨rfl, PTm.mk hU hWm hP hK hD hE hO⟩⟩ rfl rfl hl.1 rfl (lv_room (Nat.le_of_ble_eq_true rfl)) dX15_sealOf_158 ⟨by show _ + 0 ≤ 0; omega, by show _ + 0 ≤ 0; omega⟩) hS (fun q _ h => hFc q h) hFc (fun u t H1 locs ht hvm hw hB hz1 hk1 hS => ?_)
      obtain ⟨F_235, hB1, hq_236⟩ := hB
      obtain ⟨hP, hD, hO, hR⟩ := QTm.back hB1 ht hFc hR (fun q h => by simp only [List.mem_cons, List.not_mem_nil, or_false] at h ⊢; omega)
      have hF_237 : F_235 co = .inl (cs 16, 21, .inl f_76) := (hB1.2.2.2 co (by rw [ht_75]; simp)).trans hF_194
      have hF_238 : F_235 sp = .inl (cs 16, 21, .inl f_83) := (hB1.2.2.2 sp (by rw [ht_82]; simp)).trans hF_195
      have hF_239 : F_235 sb = .inl (cs 17, 3000, .inl eb) := (hB1.2.2.2 sb (by rw [ht_38]; simp)).trans hma
      have hF_240 : F_235 s0 = .inl (cs 16, 40, .inl e0) := (hB1.2.2.2 s0 (by rw [ht_32]; simp)).trans hmb
      have hF_241 : F_235 s1 = .inl (cs 16, 40, .inl e1) := (hB1.2.2.2 s1 (by rw [ht_33]; simp)).trans hmc
      have hF_242 : F_235 s2 = .inl (cs 16, 40, .inl e2) := (hB1.2.2.2 s2 (by rw [ht_34]; simp)).trans hmd
      have hF_243 : F_235 se = .inr (13, [.ref sx, .ref s0, .ref s1, .ref s2, .int (nI zs)]) := (hB1.2.2.2 se (by rw [ht_28]; simp)).trans hme
      have hF_244 : F_235 sd = .inr (14, [.ref r_18, .int (nI (k_168 - (k_162 + 1)))]) := (hB1.2.2.2 sd (by rw [ht_49]; simp)).trans hsd1
      have hF_245 : F_235 h0 = .inr (15, (.ref ta) :: (.int (nI zt)) :: (.int (nI zo_196)) :: (.int (nI ze)) :: (.ref ou) :: (.ref so) :: (.ref ad) :: (.ref na) :: (.ref va) :: (.ref lc) :: (.ref dm) :: (.int v11_197) :: (.int v12_198) :: (.ref tg) :: (.int v14_199) :: (.int v15_200) :: (.ref pe) :: (.int v17_201) :: (.int v18_202) :: (.int v19_203) :: (.int v20_204) :: (.int v21_205) :: (.int v22_206) :: (.ref ml) :: (.ref bg) :: (.ref co) :: (.ref sp) :: (.ref nb0) :: (.ref nb1) :: (.ref nb2) :: (.int (nI nf)) :: (.int (nI bd)) :: (.int (nI mm)) :: (.int v33_207) :: (.ref pl) :: (.ref se) :: (.ref ke) :: (.ref wi) :: (.ref hs) :: (.ref mo) :: (.ref po) :: (.ref nu) :: (.ref pr) :: (.ref sq) :: (.ref xa) :: (.ref sa) :: (.ref n64) :: (.ref m64) :: (.ref ex) :: (.ref wh) :: (.ref sd) :: (.ref tk) :: (.int v52_208) :: (.int v53_209) :: (.int v54_210) :: (.ref hd) :: (.ref ak) :: (.ref ho) :: (.ref ot) :: []) := (hB1.2.2.2 h0 (by rw [hT_h0]; simp)).trans hF_211
      have hF_246 : F_235 sx = .inr (14, [.ref sb, .int (nI z_217)]) := (hB1.2.2.2 sx (by rw [hT_sx]; simp)).trans hF_218
      generalize H1 = H at hP hS ⊢
      refine lv_iconst (v := 0) hx hb dX15_sealOf_161 (by decide) ?_
      refine lv_istore (lv' := [(6, .int 0), (4, .int (nI ks)), (0, .ref h0), (1, .int (nI jf)), (2, .int x2)]) hx hb dX15_sealOf_162 hl (by decide) rfl (fun ls hl => ?_)
      refine W.widen (k := 0) (n := 0) (by omega) (by omega) ?_
      have hF_248 : F co = .inl (cs 16, 21, .inl f_76) := (hR co (by rw [ht_75]; simp)).symm.trans hF_237
      have hF_249 : F sp = .inl (cs 16, 21, .inl f_83) := (hR sp (by rw [ht_82]; simp)).symm.trans hF_238
      refine pl_loopm (σ := Nat) A (dC, dI) cs ty gm L [ρ, ρ + 10, ρ + 11, ρ + 12, ρ + 13, ρ + 14, ρ + 17, ρ + 18, ρ + 19, ρ + 20, ρ + 21, ρ + 22, ρ + 23, ρ + 24, ρ + 25, ρ + 26] F 164 8 (fun j => [(6, .int (nI j)), (0, .ref h0), (1, .int (nI jf)), (2, .int x2)]) (fun j => []) (fun j FF => j ≤ 12 ∧ FF sb = .inl (cs 17, 3000, .inl eb) ∧ FF s0 = .inl (cs 16, 40, .inl e0) ∧ FF s1 = .inl (cs 16, 40, .inl e1) ∧ FF s2 = .inl (cs 16, 40, .inl e2) ∧ FF se = .inr (13, [.ref sx, .ref s0, .ref s1, .ref s2, .int (nI zs)]) ∧ FF sd = .inr (14, [.ref r_18, .int (nI (k_168 - (k_162 + 1)))]) ∧ FF wh = .inr (14, [.ref r_17, .int (nI ((k_227 - (k_221 + 1)) + j))])) (fun j => 12 - j) ?_ 0 F_235 (⟨by omega, hF_239, hF_240, hF_241, hF_242, hF_243, hF_244, hq_236⟩) hO hR _ _ hP hD hS ls (lv_sub hl [0, 2, 3, 4] rfl)
      rintro j F_247 hv_250 hO hR ih_251 H locs hP hD hS ls hl
      have hl : lv_has ls 8 [(6, .int (nI j)), (0, .ref h0), (1, .int (nI jf)), (2, .int x2)] := hl
      have hv_250 : j ≤ 12 ∧ F_247 sb = .inl (cs 17, 3000, .inl eb) ∧ F_247 s0 = .inl (cs 16, 40, .inl e0) ∧ F_247 s1 = .inl (cs 16, 40, .inl e1) ∧ F_247 s2 = .inl (cs 16, 40, .inl e2) ∧ F_247 se = .inr (13, [.ref sx, .ref s0, .ref s1, .ref s2, .int (nI zs)]) ∧ F_247 sd = .inr (14, [.ref r_18, .int (nI (k_168 - (k_162 + 1)))]) ∧ F_247 wh = .inr (14, [.ref r_17, .int (nI ((k_227 - (k_221 + 1)) + j))]) := hv_250
      refine W.eq (g2 := F0 m 164 ls []) rfl ?_
      have hF_252 : F_247 co = .inl (cs 16, 21, .inl f_76) := (hR co (by rw [ht_75]; simp)).trans hF_248
      have hF_253 : F_247 sp = .inl (cs 16, 21, .inl f_83) := (hR sp (by rw [ht_82]; simp)).trans hF_249
      obtain ⟨hj12, hna, hnb, hnc, hnd, hne, hsd2, hwh2⟩ := hv_250
      refine lv_iload hx hb dX15_sealOf_164 (lv_at hl 0 rfl) ?_
      refine lv_bipush (v := 12) hx hb dX15_sealOf_166 (by decide) ?_
      refine lv_icmp_ge (tgt := 192) hx hb dX15_sealOf_168 (by decide) (fun c_254 => ?_) (fun c_254 => ?_)
      ·
        have hi_255 : 12 ≤ j := leN (N := 12) c_254
        refine lv_aload_n hx hb dX15_sealOf_192 rfl (lv_at hl 1 rfl) ?_
        obtain ⟨zo_256, v11_257, v12_258, v14_259, v15_260, v17_261, v18_262, v19_263, v20_264, v21_265, v22_266, v33_267, v52_268, v53_269, v54_270, hF_271, hq_272, hq_273, hq_274, hq_275, hq_276⟩ := hO.mod hL_h0 hT_h0
        refine pg_get (ci := 15) (v := .ref wh) (C := RX15) (T := TX15) (N := 59) hx hb hts it_15 hown hK hP hL_h0 hF_271 rfl 49 (by decide) (hts _ kt_953) (fun _ h9 => h9) rfl dX15_sealOf_193 ?_
        refine lv_aload_n hx hb dX15_sealOf_196 rfl (lv_at hl 1 rfl) ?_
        refine pg_get (ci := 15) (v := .ref sd) (C := RX15) (T := TX15) (N := 59) hx hb hts it_15 hown hK hP hL_h0 hF_271 rfl 50 (by decide) (hts _ kt_1017) (fun _ h9 => h9) rfl dX15_sealOf_197 ?_
        refine pg_get (ci := 14) (v := .ref r_18) (C := RX14) (T := TX14) (N := 2) hx hb hts it_14 hown hK hP hi_48 hsd2 rfl 0 (by decide) (hts _ kt_710) (fun _ h9 => h9) rfl dX15_sealOf_200 ?_
        refine lv_iconst (v := 0) hx hb dX15_sealOf_203 (by decide) ?_
        refine lv_aload_n hx hb dX15_sealOf_204 rfl (lv_at hl 1 rfl) ?_
        refine pg_get (ci := 15) (v := .ref sd) (C := RX15) (T := TX15) (N := 59) hx hb hts it_15 hown hK hP hL_h0 hF_271 rfl 50 (by decide) (hts _ kt_1017) (fun _ h9 => h9) rfl dX15_sealOf_205 ?_
        refine pg_get (ci := 14) (v := .int (nI (k_168 - (k_162 + 1)))) (C := RX14) (T := TX14) (N := 2) hx hb hts it_14 hown hK hP hi_48 hsd2 rfl 1 (by decide) (hts _ kt_709) (fun _ h9 => h9) rfl dX15_sealOf_208 ?_
        refine W.eq (g2 := F0 m 211 ls [.int (nI (k_168 - (k_162 + 1))), .int (nI 0), .ref r_18, .ref wh]) rfl ?_
        obtain ⟨hq_277, hq_278⟩ := hW.octs hi_50 ht_51
        have hFc := pg_free hD hS hA
        refine va_callv (va_runV (As := [.ref r_18, .int (nI 0), .int (nI (k_168 - (k_162 + 1)))]) (rest := []) ⟨hx, hb, hml, hown, hts⟩ (s_X14_add_ l dC dI cs ty gm L H.size F_247 wh (ρ + 24) r_17 6000 r_18 (ρ + 25) 3000 ((k_227 - (k_221 + 1)) + j) 0 (k_168 - (k_162 + 1)) hW hi_43 ht_44 hi_50 ht_51 hwh2 (by first | omega | assumption) (by first | omega | assumption) (by first | omega | assumption)) ⟨callB_of 3 hts (gi kt_675) rfl rfl rfl (hts _ kt_676) (hts _ kt_776) (by decide +kernel) ⟨Nat.le_of_ble_eq_true rfl, Nat.le_of_ble_eq_true rfl⟩, (hts _ kt_678), (hts _ kt_679)⟩ ⟨fun a U g mk q => ⟨q.1, PTm.calling q.2⟩, pg_recv hK hP hi_43 hwh2 (q := (RX14, TX14, 2)) rfl, fun U hU hWm => ⟨rfl, PTm.mk hU hWm hP hK hD hE hO⟩⟩ rfl rfl hl.1 rfl (lv_room (Nat.le_of_ble_eq_true rfl)) dX15_sealOf_211 ⟨by show _ + 0 ≤ 0; omega, by show _ + 0 ≤ 0; omega⟩) hS (fun q _ h => hFc q h) hFc (fun u t H1 locs ht hvm hw hB hz1 hk1 hS => ?_)
        obtain ⟨F_280, hB1, hq_281⟩ := hB
        obtain ⟨hP, hD, hO, hR⟩ := QTm.back hB1 ht hFc hR (fun q h => by simp only [List.mem_cons, List.not_mem_nil, or_false] at h ⊢; omega)
        have hF_282 : F_280 co = .inl (cs 16, 21, .inl f_76) := (hB1.2.2.2 co (by rw [ht_75]; simp)).trans hF_252
        have hF_283 : F_280 sp = .inl (cs 16, 21, .inl f_83) := (hB1.2.2.2 sp (by rw [ht_82]; simp)).trans hF_253
        have hF_284 : F_280 sb = .inl (cs 17, 3000, .inl eb) := (hB1.2.2.2 sb (by rw [ht_38]; simp)).trans hna
        have hF_285 : F_280 s0 = .inl (cs 16, 40, .inl e0) := (hB1.2.2.2 s0 (by rw [ht_32]; simp)).trans hnb
        have hF_286 : F_280 s1 = .inl (cs 16, 40, .inl e1) := (hB1.2.2.2 s1 (by rw [ht_33]; simp)).trans hnc
        have hF_287 : F_280 s2 = .inl (cs 16, 40, .inl e2) := (hB1.2.2.2 s2 (by rw [ht_34]; simp)).trans hnd
        have hF_288 : F_280 se = .inr (13, [.ref sx, .ref s0, .ref s1, .ref s2, .int (nI zs)]) := (hB1.2.2.2 se (by rw [ht_28]; simp)).trans hne
        have hF_289 : F_280 sd = .inr (14, [.ref r_18, .int (nI (k_168 - (k_162 + 1)))]) := (hB1.2.2.2 sd (by rw [ht_49]; simp)).trans hsd2
        have hF_290 : F_280 h0 = .inr (15, (.ref ta) :: (.int (nI zt)) :: (.int (nI zo_256)) :: (.int (nI ze)) :: (.ref ou) :: (.ref so) :: (.ref ad) :: (.ref na) :: (.ref va) :: (.ref lc) :: (.ref dm) :: (.int v11_257) :: (.int v12_258) :: (.ref tg) :: (.int v14_259) :: (.int v15_260) :: (.ref pe) :: (.int v17_261) :: (.int v18_262) :: (.int v19_263) :: (.int v20_264) :: (.int v21_265) :: (.int v22_266) :: (.ref ml) :: (.ref bg) :: (.ref co) :: (.ref sp) :: (.ref nb0) :: (.ref nb1) :: (.ref nb2) :: (.int (nI nf)) :: (.int (nI bd)) :: (.int (nI mm)) :: (.int v33_267) :: (.ref pl) :: (.ref se) :: (.ref ke) :: (.ref wi) :: (.ref hs) :: (.ref mo) :: (.ref po) :: (.ref nu) :: (.ref pr) :: (.ref sq) :: (.ref xa) :: (.ref sa) :: (.ref n64) :: (.ref m64) :: (.ref ex) :: (.ref wh) :: (.ref sd) :: (.ref tk) :: (.int v52_268) :: (.int v53_269) :: (.int v54_270) :: (.ref hd) :: (.ref ak) :: (.ref ho) :: (.ref ot) :: []) := (hB1.2.2.2 h0 (by rw [hT_h0]; simp)).trans hF_271
        generalize H1 = H at hP hS ⊢
        refine lv_aload_n hx hb dX15_sealOf_214 rfl (lv_at hl 1 rfl) ?_
        have hFc := pg_free hD hS hA
        refine va_calli (va_runV (As := []) (rest := []) ⟨hx, hb, hml, hown, hts⟩ (s_X15_keyOf l dC dI cs ty gm L H.size F_280 h0 ρ ta ou so ad na va lc dm tg pe ml bg co sp nb0 nb1 nb2 pl se ke wi hs mo po nu pr sq xa sa n64 m64 ex wh sd tk hd ak ho ot sx s0 s1 s2 nf bd mm ze zt hW hL_h0 hT_h0) ⟨callB_of 0 hts (gi kt_1018) rfl rfl rfl (hts _ kt_669) (hts _ kt_1019) (by decide +kernel) ⟨Nat.le_of_ble_eq_true rfl, Nat.le_of_ble_eq_true rfl⟩, (hts _ kt_1020), (hts _ kt_1021)⟩ ⟨fun a U g mk q => ⟨q.1, PTEm.calling q.2⟩, pg_recv hK hP hL_h0 hF_290 (q := (RX15, TX15, 59)) rfl, fun U hU hWm => ⟨rfl, PTEm.mk hU hWm hP hK hD hE hO hG (fun x hx => absurd hx List.not_mem_nil) hS hFc⟩⟩ rfl rfl hl.1 rfl (lv_room (Nat.le_of_ble_eq_true rfl)) dX15_sealOf_215 ⟨by show _ + 0 ≤ 0; omega, by show _ + 0 ≤ 0; omega⟩) hS (fun q _ h => hFc q h) hFc (fun r_291 u t H1 locs ht hvm hw hB hz1 hk1 hS => ?_)
        obtain ⟨F_292, hB1⟩ := hB
        obtain ⟨hP, hD, hO, hR⟩ := QTm.back hB1 ht hFc hR (fun q h => by simp only [List.mem_cons, List.not_mem_nil, or_false] at h ⊢; omega)
        have hF_293 : F_292 co = .inl (cs 16, 21, .inl f_76) := (hB1.2.2.2 co (by rw [ht_75]; simp)).trans hF_282
        have hF_294 : F_292 sp = .inl (cs 16, 21, .inl f_83) := (hB1.2.2.2 sp (by rw [ht_82]; simp)).trans hF_283
        have hF_295 : F_292 sb = .inl (cs 17, 3000, .inl eb) := (hB1.2.2.2 sb (by rw [ht_38]; simp)).trans hF_284
        have hF_296 : F_292 s0 = .inl (cs 16, 40, .inl e0) := (hB1.2.2.2 s0 (by rw [ht_32]; simp)).trans hF_285
        have hF_297 : F_292 s1 = .inl (cs 16, 40, .inl e1) := (hB1.2.2.2 s1 (by rw [ht_33]; simp)).trans hF_286
        have hF_298 : F_292 s2 = .inl (cs 16, 40, .inl e2) := (hB1.2.2.2 s2 (by rw [ht_34]; simp)).trans hF_287
        have hF_299 : F_292 se = .inr (13, [.ref sx, .ref s0, .ref s1, .ref s2, .int (nI zs)]) := (hB1.2.2.2 se (by rw [ht_28]; simp)).trans hF_288
        have hF_300 : F_292 sd = .inr (14, [.ref r_18, .int (nI (k_168 - (k_162 + 1)))]) := (hB1.2.2.2 sd (by rw [ht_49]; simp)).trans hF_289
        have hF_301 : F_292 h0 = .inr (15, (.ref ta) :: (.int (nI zt)) :: (.int (nI zo_256)) :: (.int (nI ze)) :: (.ref ou) :: (.ref so) :: (.ref ad) :: (.ref na) :: (.ref va) :: (.ref lc) :: (.ref dm) :: (.int v11_257) :: (.int v12_258) :: (.ref tg) :: (.int v14_259) :: (.int v15_260) :: (.ref pe) :: (.int v17_261) :: (.int v18_262) :: (.int v19_263) :: (.int v20_264) :: (.int v21_265) :: (.int v22_266) :: (.ref ml) :: (.ref bg) :: (.ref co) :: (.ref sp) :: (.ref nb0) :: (.ref nb1) :: (.ref nb2) :: (.int (nI nf)) :: (.int (nI bd)) :: (.int (nI mm)) :: (.int v33_267) :: (.ref pl) :: (.ref se) :: (.ref ke) :: (.ref wi) :: (.ref hs) :: (.ref mo) :: (.ref po) :: (.ref nu) :: (.ref pr) :: (.ref sq) :: (.ref xa) :: (.ref sa) :: (.ref n64) :: (.ref m64) :: (.ref ex) :: (.ref wh) :: (.ref sd) :: (.ref tk) :: (.int v52_268) :: (.int v53_269) :: (.int v54_270) :: (.ref hd) :: (.ref ak) :: (.ref ho) :: (.ref ot) :: []) := (hB1.2.2.2 h0 (by rw [hT_h0]; simp)).trans hF_290
        have hF_302 : F_292 wh = .inr (14, [.ref r_17, .int (nI (((k_227 - (k_221 + 1)) + j) + ((k_168 - (k_162 + 1)) - 0)))]) := (hB1.2.2.2 wh (by rw [ht_44]; simp)).trans hq_281
        generalize H1 = H at hP hS ⊢
        have hw : True := hw
        have hw_303 := hw
        refine lv_istore (lv' := [(6, .int r_291), (0, .ref h0), (1, .int (nI jf)), (2, .int x2)]) hx hb dX15_sealOf_218 hl (by decide) rfl (fun ls hl => ?_)
        refine lv_iload hx hb dX15_sealOf_220 (lv_at hl 0 rfl) ?_
        refine lv_iconst (v := 2) hx hb dX15_sealOf_222 (by decide) ?_
        refine lv_icmp_eq (tgt := 229) hx hb dX15_sealOf_223 (by decide) (fun c_304 => ?_) (fun c_304 => ?_)
        ·
          refine lv_aload_n hx hb dX15_sealOf_229 rfl (lv_at hl 1 rfl) ?_
          refine lv_aload_n hx hb dX15_sealOf_230 rfl (lv_at hl 1 rfl) ?_
          refine pg_get (ci := 15) (v := .int v53_269) (C := RX15) (T := TX15) (N := 59) hx hb hts it_15 hown hK hP hL_h0 hF_301 rfl 53 (by decide) (hts _ kt_873) (fun _ h9 => h9) rfl dX15_sealOf_231 ?_
          have hFc := pg_free hD hS hA
          refine va_callv (va_runV (As := [.int v53_269]) (rest := []) ⟨hx, hb, hml, hown, hts⟩ (s_X15_bodyPlain l dC dI cs ty gm L H.size F_292 h0 ρ ta ou so ad na va lc dm tg pe ml bg co sp nb0 nb1 nb2 pl se ke wi hs mo po nu pr sq xa sa n64 m64 ex wh sd tk hd ak ho ot sx s0 s1 s2 nf bd mm ze zt rl v53_269 hW hL_h0 hT_h0 hL_pl hT_pl (by first | omega | assumption)) ⟨callB_of 1 hts (gi kt_925) rfl rfl rfl (hts _ kt_669) (hts _ kt_926) (by decide +kernel) ⟨Nat.le_of_ble_eq_true rfl, Nat.le_of_ble_eq_true rfl⟩, (hts _ kt_927), (hts _ kt_928)⟩ ⟨fun a U g mk q => ⟨q.1, PTm.calling q.2⟩, pg_recv hK hP hL_h0 hF_301 (q := (RX15, TX15, 59)) rfl, fun U hU hWm => ⟨rfl, PTm.mk hU hWm hP hK hD hE hO⟩⟩ rfl rfl hl.1 rfl (lv_room (Nat.le_of_ble_eq_true rfl)) dX15_sealOf_234 ⟨by show _ + 0 ≤ 0; omega, by show _ + 0 ≤ 0; omega⟩) hS (fun q _ h => hFc q h) hFc (fun u t H1 locs ht hvm hw hB hz1 hk1 hS => ?_)
          obtain ⟨F_306, hB1⟩ := hB
          obtain ⟨hP, hD, hO, hR⟩ := QTm.back hB1 ht hFc hR (fun q h => by simp only [List.mem_cons, List.not_mem_nil, or_false] at h ⊢; omega)
          have hF_307 : F_306 co = .inl (cs 16, 21, .inl f_76) := (hB1.2.2.2 co (by rw [ht_75]; simp)).trans hF_293
          have hF_308 : F_306 sp = .inl (cs 16, 21, .inl f_83) := (hB1.2.2.2 sp (by rw [ht_82]; simp)).trans hF_294
          have hF_309 : F_306 sb = .inl (cs 17, 3000, .inl eb) := (hB1.2.2.2 sb (by rw [ht_38]; simp)).trans hF_295
          have hF_310 : F_306 s0 = .inl (cs 16, 40, .inl e0) := (hB1.2.2.2 s0 (by rw [ht_32]; simp)).trans hF_296
          have hF_311 : F_306 s1 = .inl (cs 16, 40, .inl e1) := (hB1.2.2.2 s1 (by rw [ht_33]; simp)).trans hF_297
          have hF_312 : F_306 s2 = .inl (cs 16, 40, .inl e2) := (hB1.2.2.2 s2 (by rw [ht_34]; simp)).trans hF_298
          have hF_313 : F_306 se = .inr (13, [.ref sx, .ref s0, .ref s1, .ref s2, .int (nI zs)]) := (hB1.2.2.2 se (by rw [ht_28]; simp)).trans hF_299
          have hF_314 : F_306 sd = .inr (14, [.ref r_18, .int (nI (k_168 - (k_162 + 1)))]) := (hB1.2.2.2 sd (by rw [ht_49]; simp)).trans hF_300
          have hF_315 : F_306 h0 = .inr (15, (.ref ta) :: (.int (nI zt)) :: (.int (nI zo_256)) :: (.int (nI ze)) :: (.ref ou) :: (.ref so) :: (.ref ad) :: (.ref na) :: (.ref va) :: (.ref lc) :: (.ref dm) :: (.int v11_257) :: (.int v12_258) :: (.ref tg) :: (.int v14_259) :: (.int v15_260) :: (.ref pe) :: (.int v17_261) :: (.int v18_262) :: (.int v19_263) :: (.int v20_264) :: (.int v21_265) :: (.int v22_266) :: (.ref ml) :: (.ref bg) :: (.ref co) :: (.ref sp) :: (.ref nb0) :: (.ref nb1) :: (.ref nb2) :: (.int (nI nf)) :: (.int (nI bd)) :: (.int (nI mm)) :: (.int v33_267) :: (.ref pl) :: (.ref se) :: (.ref ke) :: (.ref wi) :: (.ref hs) :: (.ref mo) :: (.ref po) :: (.ref nu) :: (.ref pr) :: (.ref sq) :: (.ref xa) :: (.ref sa) :: (.ref n64) :: (.ref m64) :: (.ref ex) :: (.ref wh) :: (.ref sd) :: (.ref tk) :: (.int v52_268) :: (.int v53_269) :: (.int v54_270) :: (.ref hd) :: (.ref ak) :: (.ref ho) :: (.ref ot) :: []) := (hB1.2.2.2 h0 (by rw [hT_h0]; simp)).trans hF_301
          have hF_316 : F_306 wh = .inr (14, [.ref r_17, .int (nI (((k_227 - (k_221 + 1)) + j) + ((k_168 - (k_162 + 1)) - 0)))]) := (hB1.2.2.2 wh (by rw [ht_44]; simp)).trans hF_302
          generalize H1 = H at hP hS ⊢
          refine lv_aload_n hx hb dX15_sealOf_237 rfl (lv_at hl 1 rfl) ?_
          refine pg_get (ci := 15) (v := .ref se) (C := RX15) (T := TX15) (N := 59) hx hb hts it_15 hown hK hP hL_h0 hF_315 rfl 35 (by decide) (hts _ kt_862) (fun _ h9 => h9) rfl dX15_sealOf_238 ?_
          obtain ⟨q_317, v_318, hr_q_317, hX_q_317⟩ := hG.2.2 ("PostGateModel", 476, "l", [108]) (by decide +kernel)
          have hX_q_317 : SXc q_317 v_318 1 (cct [108]) A s s.heap := hX_q_317
          obtain ⟨xo_q_317, xc_q_317, xv_q_317, xt_q_317, xn_q_317⟩ := id hX_q_317
          have hr_q_317 : vk_R "PostGateModel" 476 "l" q_317 s := hr_q_317
          refine va_ldcwS hx hb hown hr_q_317 dX15_sealOf_241 ?_
          have hFc := pg_free hD hS hA
          refine va_calli (va_runS (As := [.ref se, .ref q_317]) (rest := []) ⟨hx, hb, hml, hown, hts⟩ (s_X15_number l dC dI cs ty gm L H.size F_306 se (ρ + 11) sx 3000 1280 s0 s1 s2 sb zs q_317 v_318 1 (cct [108]) hW hi_27 ht_28 hL_sx hT_sx hF_313 (by first | omega | assumption)) ⟨callB_of 2 hts (gi kt_899) rfl rfl rfl (hts _ kt_669) (hts _ kt_900) (by decide +kernel) ⟨Nat.le_of_ble_eq_true rfl, Nat.le_of_ble_eq_true rfl⟩, (hts _ kt_901)⟩ ⟨fun a U g mk q => ⟨q.1, PTEm.calling q.2⟩, fun U hU hWm => ⟨rfl, PTEm.mk hU hWm hP hK hD hE hO hG (fun x hx => by rw [List.mem_singleton] at hx; subst hx; exact hX_q_317) hS hFc⟩⟩ rfl rfl hl.1 rfl (lv_room (Nat.le_of_ble_eq_true rfl)) dX15_sealOf_244 ⟨by show _ + 0 ≤ 0; omega, by show _ + 0 ≤ 0; omega⟩) hS (fun q _ h => hFc q h) hFc (fun r_319 u t H1 locs ht hvm hw hB hz1 hk1 hS => ?_)
          obtain ⟨F_320, hB1⟩ := hB
          obtain rfl : F_306 = F_320 := (funext (fun a => hB1.2.2.2 a List.not_mem_nil)).symm
          obtain ⟨hP, hD, hO, hR⟩ := QTm.back hB1 ht hFc hR (fun q h => absurd h List.not_mem_nil)
          generalize H1 = H at hP hS ⊢
          have hw : True := hw
          have hw_321 := hw
          refine lv_istore (lv' := [(7, .int r_319), (6, .int r_291), (0, .ref h0), (1, .int (nI jf)), (2, .int x2)]) hx hb dX15_sealOf_247 hl (by decide) rfl (fun ls hl => ?_)
          refine lv_iload hx hb dX15_sealOf_249 (lv_at hl 0 rfl) ?_
          refine lv_aload_n hx hb dX15_sealOf_251 rfl (lv_at hl 2 rfl) ?_
          refine pg_get (ci := 15) (v := .ref pl) (C := RX15) (T := TX15) (N := 59) hx hb hts it_15 hown hK hP hL_h0 hF_315 rfl 34 (by decide) (hts _ kt_916) (fun _ h9 => h9) rfl dX15_sealOf_252 ?_
          obtain ⟨z_322, hF_323, hq_324⟩ := hO.txt hL_pl hT_pl
          refine pg_get (ci := 14) (v := .int (nI z_322)) (C := RX14) (T := TX14) (N := 2) hx hb hts it_14 hown hK hP hL_pl hF_323 rfl 1 (by decide) (hts _ kt_709) (fun _ h9 => h9) rfl dX15_sealOf_255 ?_
          refine lv_icmp_le (tgt := 263) hx hb dX15_sealOf_258 (by decide) (fun c_325 => ?_) (fun c_325 => ?_)
          ·
            refine lv_aload_n hx hb dX15_sealOf_263 rfl (lv_at hl 2 rfl) ?_
            refine lv_aload_n hx hb dX15_sealOf_264 rfl (lv_at hl 2 rfl) ?_
            refine pg_get (ci := 15) (v := .ref pl) (C := RX15) (T := TX15) (N := 59) hx hb hts it_15 hown hK hP hL_h0 hF_315 rfl 34 (by decide) (hts _ kt_916) (fun _ h9 => h9) rfl dX15_sealOf_265 ?_
            refine pg_get (ci := 14) (v := .ref rl) (C := RX14) (T := TX14) (N := 2) hx hb hts it_14 hown hK hP hL_pl hF_323 rfl 0 (by decide) (hts _ kt_710) (fun _ h9 => h9) rfl dX15_sealOf_268 ?_
            have hF_328 : F co = .inl (cs 16, 21, .inl f_76) := (hR co (by rw [ht_75]; simp)).symm.trans hF_307
            have hF_329 : F sp = .inl (cs 16, 21, .inl f_83) := (hR sp (by rw [ht_82]; simp)).symm.trans hF_308
            refine W.widen (k := 0) (n := 0) (by omega) (by omega) ?_
            refine pl_cutm (σ := Int32) A (dC, dI) cs ty gm L [ρ, ρ + 10, ρ + 11, ρ + 12, ρ + 13, ρ + 14, ρ + 17, ρ + 18, ρ + 19, ρ + 20, ρ + 21, ρ + 22, ρ + 23, ρ + 24, ρ + 25, ρ + 26] F 288 8 (fun s8 => [(0, .ref h0), (1, .int (nI jf)), (2, .int x2)]) (fun s8 => [.int s8, .ref rl, .ref h0]) (fun s8 FF => (∃ k : Nat, k ≤ z_322 ∧ s8 = nI k) ∧ FF sb = .inl (cs 17, 3000, .inl eb) ∧ FF s0 = .inl (cs 16, 40, .inl e0) ∧ FF s1 = .inl (cs 16, 40, .inl e1) ∧ FF s2 = .inl (cs 16, 40, .inl e2) ∧ FF se = .inr (13, [.ref sx, .ref s0, .ref s1, .ref s2, .int (nI zs)])) ?_ (fun jn_326 => ?_)
            ·
              rintro s8 F_327 hv_330 hO hR H locs hP hD hS ls hl
              have hl : lv_has ls 8 [(0, .ref h0), (1, .int (nI jf)), (2, .int x2)] := hl
              have hv_330 : (∃ k : Nat, k ≤ z_322 ∧ s8 = nI k) ∧ F_327 sb = .inl (cs 17, 3000, .inl eb) ∧ F_327 s0 = .inl (cs 16, 40, .inl e0) ∧ F_327 s1 = .inl (cs 16, 40, .inl e1) ∧ F_327 s2 = .inl (cs 16, 40, .inl e2) ∧ F_327 se = .inr (13, [.ref sx, .ref s0, .ref s1, .ref s2, .int (nI zs)]) := hv_330
              refine W.eq (g2 := F0 m 288 ls [.int s8, .ref rl, .ref h0]) rfl ?_
              have hF_331 : F_327 co = .inl (cs 16, 21, .inl f_76) := (hR co (by rw [ht_75]; simp)).trans hF_328
              have hF_332 : F_327 sp = .inl (cs 16, 21, .inl f_83) := (hR sp (by rw [ht_82]; simp)).trans hF_329
              obtain ⟨⟨kz, hkz, ekz⟩, hoa, hob, hoc, hod, hoe⟩ := hv_330
              subst ekz
              refine W.eq (g2 := F0 m 288 ls [.int (nI kz), .ref rl, .ref h0]) rfl ?_
              refine lv_aload_n hx hb dX15_sealOf_288 rfl (lv_at hl 0 rfl) ?_
              obtain ⟨zo_333, v11_334, v12_335, v14_336, v15_337, v17_338, v18_339, v19_340, v20_341, v21_342, v22_343, v33_344, v52_345, v53_346, v54_347, hF_348, hq_349, hq_350, hq_351, hq_352, hq_353⟩ := hO.mod hL_h0 hT_h0
              refine pg_get (ci := 15) (v := .ref xa) (C := RX15) (T := TX15) (N := 59) hx hb hts it_15 hown hK hP hL_h0 hF_348 rfl 44 (by decide) (hts _ kt_950) (fun _ h9 => h9) rfl dX15_sealOf_289 ?_
              obtain ⟨hq_354, hq_355⟩ := hW.octs hi_40 ht_41
              obtain ⟨hi_356, ht_357⟩ := hW.f_xa hL_h0 hT_h0
              obtain ⟨hq_358, hq_359⟩ := hW.octs hi_356 ht_357
              have hFc := pg_free hD hS hA
              refine va_callv (va_runV (As := [.ref rl, .int (nI kz), .ref xa]) (rest := []) ⟨hx, hb, hml, hown, hts⟩ (s_X15_digest l dC dI cs ty gm L H.size F_327 h0 ρ ta ou so ad na va lc dm tg pe ml bg co sp nb0 nb1 nb2 pl se ke wi hs mo po nu pr sq xa sa n64 m64 ex wh sd tk hd ak ho ot sx s0 s1 s2 nf bd mm ze zt rl (ρ + 10) 6000 xa (ρ + 19) 32 kz hW hL_h0 hT_h0 hi_40 ht_41 hi_356 ht_357 (by first | omega | assumption) (by first | omega | assumption)) ⟨callB_of 3 hts (gi kt_1022) rfl rfl rfl (hts _ kt_669) (hts _ kt_1023) (by decide +kernel) ⟨Nat.le_of_ble_eq_true rfl, Nat.le_of_ble_eq_true rfl⟩, (hts _ kt_1024), (hts _ kt_1025)⟩ ⟨fun a U g mk q => ⟨q.1, PTm.calling q.2⟩, pg_recv hK hP hL_h0 hF_348 (q := (RX15, TX15, 59)) rfl, fun U hU hWm => ⟨rfl, PTm.mk hU hWm hP hK hD hE hO⟩⟩ rfl rfl hl.1 rfl (lv_room (Nat.le_of_ble_eq_true rfl)) dX15_sealOf_292 ⟨by show _ + 0 ≤ 0; omega, by show _ + 0 ≤ 0; omega⟩) hS (fun q _ h => hFc q h) hFc (fun u t H1 locs ht hvm hw hB hz1 hk1 hS => ?_)
              obtain ⟨F_361, hB1⟩ := hB
              obtain ⟨hP, hD, hO, hR⟩ := QTm.back hB1 ht hFc hR (fun q h => by simp only [List.mem_cons, List.not_mem_nil, or_false] at h ⊢; omega)
              have hF_362 : F_361 co = .inl (cs 16, 21, .inl f_76) := (hB1.2.2.2 co (by rw [ht_75]; simp)).trans hF_331
              have hF_363 : F_361 sp = .inl (cs 16, 21, .inl f_83) := (hB1.2.2.2 sp (by rw [ht_82]; simp)).trans hF_332
              have hF_364 : F_361 sb = .inl (cs 17, 3000, .inl eb) := (hB1.2.2.2 sb (by rw [ht_38]; simp)).trans hoa
              have hF_365 : F_361 s0 = .inl (cs 16, 40, .inl e0) := (hB1.2.2.2 s0 (by rw [ht_32]; simp)).trans hob
              have hF_366 : F_361 s1 = .inl (cs 16, 40, .inl e1) := (hB1.2.2.2 s1 (by rw [ht_33]; simp)).trans hoc
              have hF_367 : F_361 s2 = .inl (cs 16, 40, .inl e2) := (hB1.2.2.2 s2 (by rw [ht_34]; simp)).trans hod
              have hF_368 : F_361 se = .inr (13, [.ref sx, .ref s0, .ref s1, .ref s2, .int (nI zs)]) := (hB1.2.2.2 se (by rw [ht_28]; simp)).trans hoe
              have hF_369 : F_361 h0 = .inr (15, (.ref ta) :: (.int (nI zt)) :: (.int (nI zo_333)) :: (.int (nI ze)) :: (.ref ou) :: (.ref so) :: (.ref ad) :: (.ref na) :: (.ref va) :: (.ref lc) :: (.ref dm) :: (.int v11_334) :: (.int v12_335) :: (.ref tg) :: (.int v14_336) :: (.int v15_337) :: (.ref pe) :: (.int v17_338) :: (.int v18_339) :: (.int v19_340) :: (.int v20_341) :: (.int v21_342) :: (.int v22_343) :: (.ref ml) :: (.ref bg) :: (.ref co) :: (.ref sp) :: (.ref nb0) :: (.ref nb1) :: (.ref nb2) :: (.int (nI nf)) :: (.int (nI bd)) :: (.int (nI mm)) :: (.int v33_344) :: (.ref pl) :: (.ref se) :: (.ref ke) :: (.ref wi) :: (.ref hs) :: (.ref mo) :: (.ref po) :: (.ref nu) :: (.ref pr) :: (.ref sq) :: (.ref xa) :: (.ref sa) :: (.ref n64) :: (.ref m64) :: (.ref ex) :: (.ref wh) :: (.ref sd) :: (.ref tk) :: (.int v52_345) :: (.int v53_346) :: (.int v54_347) :: (.ref hd) :: (.ref ak) :: (.ref ho) :: (.ref ot) :: []) := (hB1.2.2.2 h0 (by rw [hT_h0]; simp)).trans hF_348
              generalize H1 = H at hP hS ⊢
              refine lv_aload_n hx hb dX15_sealOf_295 rfl (lv_at hl 0 rfl) ?_
              refine pg_get (ci := 15) (v := .ref xa) (C := RX15) (T := TX15) (N := 59) hx hb hts it_15 hown hK hP hL_h0 hF_369 rfl 44 (by decide) (hts _ kt_950) (fun _ h9 => h9) rfl dX15_sealOf_296 ?_
              refine lv_aload_n hx hb dX15_sealOf_299 rfl (lv_at hl 0 rfl) ?_
              refine pg_get (ci := 15) (v := .ref sa) (C := RX15) (T := TX15) (N := 59) hx hb hts it_15 hown hK hP hL_h0 hF_369 rfl 45 (by decide) (hts _ kt_886) (fun _ h9 => h9) rfl dX15_sealOf_300 ?_
              obtain ⟨hi_370, ht_371⟩ := hW.f_sa hL_h0 hT_h0
              obtain ⟨hq_372, hq_373⟩ := hW.octs hi_370 ht_371
              have hFc := pg_free hD hS hA
              refine va_calli (va_runS (As := [.ref xa, .ref sa]) (rest := []) ⟨hx, hb, hml, hown, hts⟩ (s_X15_isAll l dC dI cs ty gm L H.size F_361 xa (ρ + 19) sa (ρ + 20) hW hi_356 ht_357 hi_370 ht_371) ⟨callB_of 2 hts (gi kt_1026) rfl rfl rfl (hts _ kt_669) (hts _ kt_1027) (by decide +kernel) ⟨Nat.le_of_ble_eq_true rfl, Nat.le_of_ble_eq_true rfl⟩, (hts _ kt_1028)⟩ ⟨fun a U g mk q => ⟨q.1, PTm.calling q.2⟩, fun U hU hWm => ⟨rfl, PTm.mk hU hWm hP hK hD hE hO⟩⟩ rfl rfl hl.1 rfl (lv_room (Nat.le_of_ble_eq_true rfl)) dX15_sealOf_303 ⟨by show _ + 0 ≤ 0; omega, by show _ + 0 ≤ 0; omega⟩) hS (fun q _ h => hFc q h) hFc (fun r_374 u t H1 locs ht hvm hw hB hz1 hk1 hS => ?_)
              obtain ⟨F_375, hB1⟩ := hB
              obtain rfl : F_361 = F_375 := (funext (fun a => hB1.2.2.2 a List.not_mem_nil)).symm
              obtain ⟨hP, hD, hO, hR⟩ := QTm.back hB1 ht hFc hR (fun q h => absurd h List.not_mem_nil)
              generalize H1 = H at hP hS ⊢
              have hw : (r_374 = 0 ∨ r_374 = 1) := hw
              have hw_376 := hw
              refine lv_if_ne (tgt := 311) hx hb dX15_sealOf_306 (by decide) (fun c_377 => ?_) (fun c_377 => ?_)
              ·
                refine lv_aload_n hx hb dX15_sealOf_311 rfl (lv_at hl 0 rfl) ?_
                refine lv_iload_n hx hb dX15_sealOf_312 rfl (lv_at hl 1 rfl) ?_
                have hFc := pg_free hD hS hA
                refine va_callv (va_runV (As := [.int (nI jf)]) (rest := []) ⟨hx, hb, hml, hown, hts⟩ (s_X15_fieldsPlain l dC dI cs ty gm L H.size F_361 h0 ρ ta ou so ad na va lc dm tg pe ml bg co sp nb0 nb1 nb2 pl se ke wi hs mo po nu pr sq xa sa n64 m64 ex wh sd tk hd ak ho ot sx s0 s1 s2 nf bd mm ze zt sb rl eb e0 e1 e2 zs kh jf hW hL_h0 hT_h0 hL_sx hT_sx hL_pl hT_pl hF_364 hF_365 hF_366 hF_367 hF_368 (hzs) (hh1) (hfh) (by first | omega | assumption)) ⟨callB_of 1 hts (gi kt_1029) rfl rfl rfl (hts _ kt_669) (hts _ kt_1030) (by decide +kernel) ⟨Nat.le_of_ble_eq_true rfl, Nat.le_of_ble_eq_true rfl⟩, (hts _ kt_1031), (hts _ kt_1032)⟩ ⟨fun a U g mk q => ⟨q.1, PTEm.calling q.2⟩, pg_recv hK hP hL_h0 hF_369 (q := (RX15, TX15, 59)) rfl, fun U hU hWm => ⟨rfl, PTEm.mk hU hWm hP hK hD hE hO hG (fun x hx => absurd hx List.not_mem_nil) hS hFc⟩⟩ rfl rfl hl.1 rfl (lv_room (Nat.le_of_ble_eq_true rfl)) dX15_sealOf_313 ⟨by show _ + 0 ≤ 0; omega, by show _ + 0 ≤ 0; omega⟩) hS (fun q _ h => hFc q h) hFc (fun u t H1 locs ht hvm hw hB hz1 hk1 hS => ?_)
                obtain ⟨F_379, hB1⟩ := hB
                obtain ⟨hP, hD, hO, hR⟩ := QTm.back hB1 ht hFc hR (fun q h => by simp only [List.mem_cons, List.not_mem_nil, or_false] at h ⊢; omega)
                have hF_380 : F_379 co = .inl (cs 16, 21, .inl f_76) := (hB1.2.2.2 co (by rw [ht_75]; simp)).trans hF_362
                have hF_381 : F_379 sp = .inl (cs 16, 21, .inl f_83) := (hB1.2.2.2 sp (by rw [ht_82]; simp)).trans hF_363
                have hF_382 : F_379 sb = .inl (cs 17, 3000, .inl eb) := (hB1.2.2.2 sb (by rw [ht_38]; simp)).trans hF_364
                have hF_383 : F_379 s0 = .inl (cs 16, 40, .inl e0) := (hB1.2.2.2 s0 (by rw [ht_32]; simp)).trans hF_365
                have hF_384 : F_379 s1 = .inl (cs 16, 40, .inl e1) := (hB1.2.2.2 s1 (by rw [ht_33]; simp)).trans hF_366
                have hF_385 : F_379 s2 = .inl (cs 16, 40, .inl e2) := (hB1.2.2.2 s2 (by rw [ht_34]; simp)).trans hF_367
                have hF_386 : F_379 se = .inr (13, [.ref sx, .ref s0, .ref s1, .ref s2, .int (nI zs)]) := (hB1.2.2.2 se (by rw [ht_28]; simp)).trans hF_368
                have hF_387 : F_379 h0 = .inr (15, (.ref ta) :: (.int (nI zt)) :: (.int (nI zo_333)) :: (.int (nI ze)) :: (.ref ou) :: (.ref so) :: (.ref ad) :: (.ref na) :: (.ref va) :: (.ref lc) :: (.ref dm) :: (.int v11_334) :: (.int v12_335) :: (.ref tg) :: (.int v14_336) :: (.int v15_337) :: (.ref pe) :: (.int v17_338) :: (.int v18_339) :: (.int v19_340) :: (.int v20_341) :: (.int v21_342) :: (.int v22_343) :: (.ref ml) :: (.ref bg) :: (.ref co) :: (.ref sp) :: (.ref nb0) :: (.ref nb1) :: (.ref nb2) :: (.int (nI nf)) :: (.int (nI bd)) :: (.int (nI mm)) :: (.int v33_344) :: (.ref pl) :: (.ref se) :: (.ref ke) :: (.ref wi) :: (.ref hs) :: (.ref mo) :: (.ref po) :: (.ref nu) :: (.ref pr) :: (.ref sq) :: (.ref xa) :: (.ref sa) :: (.ref n64) :: (.ref m64) :: (.ref ex) :: (.ref wh) :: (.ref sd) :: (.ref tk) :: (.int v52_345) :: (.int v53_346) :: (.int v54_347) :: (.ref hd) :: (.ref ak) :: (.ref ho) :: (.ref ot) :: []) := (hB1.2.2.2 h0 (by rw [hT_h0]; simp)).trans hF_369
                generalize H1 = H at hP hS ⊢
                refine lv_aload_n hx hb dX15_sealOf_316 rfl (lv_at hl 0 rfl) ?_
                refine lv_aload_n hx hb dX15_sealOf_317 rfl (lv_at hl 0 rfl) ?_
                refine pg_get (ci := 15) (v := .ref pl) (C := RX15) (T := TX15) (N := 59) hx hb hts it_15 hown hK hP hL_h0 hF_387 rfl 34 (by decide) (hts _ kt_916) (fun _ h9 => h9) rfl dX15_sealOf_318 ?_
                obtain ⟨z_388, hF_389, hq_390⟩ := hO.txt hL_pl hT_pl
                refine pg_get (ci := 14) (v := .ref rl) (C := RX14) (T := TX14) (N := 2) hx hb hts it_14 hown hK hP hL_pl hF_389 rfl 0 (by decide) (hts _ kt_710) (fun _ h9 => h9) rfl dX15_sealOf_321 ?_
                refine lv_aload_n hx hb dX15_sealOf_324 rfl (lv_at hl 0 rfl) ?_
                refine pg_get (ci := 15) (v := .ref pl) (C := RX15) (T := TX15) (N := 59) hx hb hts it_15 hown hK hP hL_h0 hF_387 rfl 34 (by decide) (hts _ kt_916) (fun _ h9 => h9) rfl dX15_sealOf_325 ?_
                refine pg_get (ci := 14) (v := .int (nI z_388)) (C := RX14) (T := TX14) (N := 2) hx hb hts it_14 hown hK hP hL_pl hF_389 rfl 1 (by decide) (hts _ kt_709) (fun _ h9 => h9) rfl dX15_sealOf_328 ?_
                refine lv_aload_n hx hb dX15_sealOf_331 rfl (lv_at hl 0 rfl) ?_
                refine pg_get (ci := 15) (v := .ref xa) (C := RX15) (T := TX15) (N := 59) hx hb hts it_15 hown hK hP hL_h0 hF_387 rfl 44 (by decide) (hts _ kt_950) (fun _ h9 => h9) rfl dX15_sealOf_332 ?_
                have hFc := pg_free hD hS hA
                refine va_callv (va_runV (As := [.ref rl, .int (nI z_388), .ref xa]) (rest := []) ⟨hx, hb, hml, hown, hts⟩ (s_X15_digest l dC dI cs ty gm L H.size F_379 h0 ρ ta ou so ad na va lc dm tg pe ml bg co sp nb0 nb1 nb2 pl se ke wi hs mo po nu pr sq xa sa n64 m64 ex wh sd tk hd ak ho ot sx s0 s1 s2 nf bd mm ze zt rl (ρ + 10) 6000 xa (ρ + 19) 32 z_388 hW hL_h0 hT_h0 hi_40 ht_41 hi_356 ht_357 (by first | omega | assumption) (by first | omega | assumption)) ⟨callB_of 3 hts (gi kt_1022) rfl rfl rfl (hts _ kt_669) (hts _ kt_1023) (by decide +kernel) ⟨Nat.le_of_ble_eq_true rfl, Nat.le_of_ble_eq_true rfl⟩, (hts _ kt_1024), (hts _ kt_1025)⟩ ⟨fun a U g mk q => ⟨q.1, PTm.calling q.2⟩, pg_recv hK hP hL_h0 hF_387 (q := (RX15, TX15, 59)) rfl, fun U hU hWm => ⟨rfl, PTm.mk hU hWm hP hK hD hE hO⟩⟩ rfl rfl hl.1 rfl (lv_room (Nat.le_of_ble_eq_true rfl)) dX15_sealOf_335 ⟨by show _ + 0 ≤ 0; omega, by show _ + 0 ≤ 0; omega⟩) hS (fun q _ h => hFc q h) hFc (fun u t H1 locs ht hvm hw hB hz1 hk1 hS => ?_)
                obtain ⟨F_392, hB1⟩ := hB
                obtain ⟨hP, hD, hO, hR⟩ := QTm.back hB1 ht hFc hR (fun q h => by simp only [List.mem_cons, List.not_mem_nil, or_false] at h ⊢; omega)
                have hF_393 : F_392 co = .inl (cs 16, 21, .inl f_76) := (hB1.2.2.2 co (by rw [ht_75]; simp)).trans hF_380
                have hF_394 : F_392 sp = .inl (cs 16, 21, .inl f_83) := (hB1.2.2.2 sp (by rw [ht_82]; simp)).trans hF_381
                have hF_395 : F_392 sb = .inl (cs 17, 3000, .inl eb) := (hB1.2.2.2 sb (by rw [ht_38]; simp)).trans hF_382
                have hF_396 : F_392 s0 = .inl (cs 16, 40, .inl e0) := (hB1.2.2.2 s0 (by rw [ht_32]; simp)).trans hF_383
                have hF_397 : F_392 s1 = .inl (cs 16, 40, .inl e1) := (hB1.2.2.2 s1 (by rw [ht_33]; simp)).trans hF_384
                have hF_398 : F_392 s2 = .inl (cs 16, 40, .inl e2) := (hB1.2.2.2 s2 (by rw [ht_34]; simp)).trans hF_385
                have hF_399 : F_392 se = .inr (13, [.ref sx, .ref s0, .ref s1, .ref s2, .int (nI zs)]) := (hB1.2.2.2 se (by rw [ht_28]; simp)).trans hF_386
                have hF_400 : F_392 h0 = .inr (15, (.ref ta) :: (.int (nI zt)) :: (.int (nI zo_333)) :: (.int (nI ze)) :: (.ref ou) :: (.ref so) :: (.ref ad) :: (.ref na) :: (.ref va) :: (.ref lc) :: (.ref dm) :: (.int v11_334) :: (.int v12_335) :: (.ref tg) :: (.int v14_336) :: (.int v15_337) :: (.ref pe) :: (.int v17_338) :: (.int v18_339) :: (.int v19_340) :: (.int v20_341) :: (.int v21_342) :: (.int v22_343) :: (.ref ml) :: (.ref bg) :: (.ref co) :: (.ref sp) :: (.ref nb0) :: (.ref nb1) :: (.ref nb2) :: (.int (nI nf)) :: (.int (nI bd)) :: (.int (nI mm)) :: (.int v33_344) :: (.ref pl) :: (.ref se) :: (.ref ke) :: (.ref wi) :: (.ref hs) :: (.ref mo) :: (.ref po) :: (.ref nu) :: (.ref pr) :: (.ref sq) :: (.ref xa) :: (.ref sa) :: (.ref n64) :: (.ref m64) :: (.ref ex) :: (.ref wh) :: (.ref sd) :: (.ref tk) :: (.int v52_345) :: (.int v53_346) :: (.int v54_347) :: (.ref hd) :: (.ref ak) :: (.ref ho) :: (.ref ot) :: []) := (hB1.2.2.2 h0 (by rw [hT_h0]; simp)).trans hF_387
                have hF_401 : F_392 pl = .inr (14, [.ref rl, .int (nI z_388)]) := (hB1.2.2.2 pl (by rw [hT_pl]; simp)).trans hF_389
                generalize H1 = H at hP hS ⊢
                refine lv_aload_n hx hb dX15_sealOf_338 rfl (lv_at hl 0 rfl) ?_
                have hFc := pg_free hD hS hA
                refine va_calli (va_runV (As := []) (rest := []) ⟨hx, hb, hml, hown, hts⟩ (s_X15_isPower l dC dI cs ty gm L H.size F_392 h0 ρ ta ou so ad na va lc dm tg pe ml bg co sp nb0 nb1 nb2 pl se ke wi hs mo po nu pr sq xa sa n64 m64 ex wh sd tk hd ak ho ot sx s0 s1 s2 nf bd mm ze zt hW hL_h0 hT_h0) ⟨callB_of 0 hts (gi kt_1033) rfl rfl rfl (hts _ kt_669) (hts _ kt_1034) (by decide +kernel) ⟨Nat.le_of_ble_eq_true rfl, Nat.le_of_ble_eq_true rfl⟩, (hts _ kt_1035), (hts _ kt_1036)⟩ ⟨fun a U g mk q => ⟨q.1, PTm.calling q.2⟩, pg_recv hK hP hL_h0 hF_400 (q := (RX15, TX15, 59)) rfl, fun U hU hWm => ⟨rfl, PTm.mk hU hWm hP hK hD hE hO⟩⟩ rfl rfl hl.1 rfl (lv_room (Nat.le_of_ble_eq_true rfl)) dX15_sealOf_339 ⟨by show _ + 0 ≤ 0; omega, by show _ + 0 ≤ 0; omega⟩) hS (fun q _ h => hFc q h) hFc (fun r_402 u t H1 locs ht hvm hw hB hz1 hk1 hS => ?_)
                obtain ⟨F_403, hB1⟩ := hB
                obtain ⟨hP, hD, hO, hR⟩ := QTm.back hB1 ht hFc hR (fun q h => by simp only [List.mem_cons, List.not_mem_nil, or_false] at h ⊢; omega)
                have hF_404 : F_403 co = .inl (cs 16, 21, .inl f_76) := (hB1.2.2.2 co (by rw [ht_75]; simp)).trans hF_393
                have hF_405 : F_403 sp = .inl (cs 16, 21, .inl f_83) := (hB1.2.2.2 sp (by rw [ht_82]; simp)).trans hF_394
                have hF_406 : F_403 sb = .inl (cs 17, 3000, .inl eb) := (hB1.2.2.2 sb (by rw [ht_38]; simp)).trans hF_395
                have hF_407 : F_403 s0 = .inl (cs 16, 40, .inl e0) := (hB1.2.2.2 s0 (by rw [ht_32]; simp)).trans hF_396
                have hF_408 : F_403 s1 = .inl (cs 16, 40, .inl e1) := (hB1.2.2.2 s1 (by rw [ht_33]; simp)).trans hF_397
                have hF_409 : F_403 s2 = .inl (cs 16, 40, .inl e2) := (hB1.2.2.2 s2 (by rw [ht_34]; simp)).trans hF_398
                have hF_410 : F_403 se = .inr (13, [.ref sx, .ref s0, .ref s1, .ref s2, .int (nI zs)]) := (hB1.2.2.2 se (by rw [ht_28]; simp)).trans hF_399
                have hF_411 : F_403 h0 = .inr (15, (.ref ta) :: (.int (nI zt)) :: (.int (nI zo_333)) :: (.int (nI ze)) :: (.ref ou) :: (.ref so) :: (.ref ad) :: (.ref na) :: (.ref va) :: (.ref lc) :: (.ref dm) :: (.int v11_334) :: (.int v12_335) :: (.ref tg) :: (.int v14_336) :: (.int v15_337) :: (.ref pe) :: (.int v17_338) :: (.int v18_339) :: (.int v19_340) :: (.int v20_341) :: (.int v21_342) :: (.int v22_343) :: (.ref ml) :: (.ref bg) :: (.ref co) :: (.ref sp) :: (.ref nb0) :: (.ref nb1) :: (.ref nb2) :: (.int (nI nf)) :: (.int (nI bd)) :: (.int (nI mm)) :: (.int v33_344) :: (.ref pl) :: (.ref se) :: (.ref ke) :: (.ref wi) :: (.ref hs) :: (.ref mo) :: (.ref po) :: (.ref nu) :: (.ref pr) :: (.ref sq) :: (.ref xa) :: (.ref sa) :: (.ref n64) :: (.ref m64) :: (.ref ex) :: (.ref wh) :: (.ref sd) :: (.ref tk) :: (.int v52_345) :: (.int v53_346) :: (.int v54_347) :: (.ref hd) :: (.ref ak) :: (.ref ho) :: (.ref ot) :: []) := (hB1.2.2.2 h0 (by rw [hT_h0]; simp)).trans hF_400
                have hF_412 : F_403 pl = .inr (14, [.ref rl, .int (nI z_388)]) := (hB1.2.2.2 pl (by rw [hT_pl]; simp)).trans hF_401
                generalize H1 = H at hP hS ⊢
                have hw : (r_402 = 0 ∨ r_402 = 1) := hw
                have hw_413 := hw
                refine lv_if_eq (tgt := 349) hx hb dX15_sealOf_342 (by decide) (fun c_414 => ?_) (fun c_414 => ?_)
                ·
                  refine lv_iconst (v := 3) hx hb dX15_sealOf_349 (by decide) ?_
                  refine W.widen (k := 0) (n := 0) (by omega) (by omega) ?_
                  exact W.iret (v := 3) hx hb hr (fun t ht hWm => ⟨⟨3, (), rfl, trivial, ⟨F_403, QTm.mk ht hP hD hO hR⟩⟩, hS.F ht⟩) hS.2.2 dX15_sealOf_350
                ·
                  refine lv_iconst (v := 2) hx hb dX15_sealOf_345 (by decide) ?_
                  refine lv_goto (tgt := 350) hx hb dX15_sealOf_346 (by decide) ?_
                  refine W.widen (k := 0) (n := 0) (by omega) (by omega) ?_
                  exact W.iret (v := 2) hx hb hr (fun t ht hWm => ⟨⟨2, (), rfl, trivial, ⟨F_403, QTm.mk ht hP hD hO hR⟩⟩, hS.F ht⟩) hS.2.2 dX15_sealOf_350
              ·
                refine lv_iconst (v := 3) hx hb dX15_sealOf_309 (by decide) ?_
                refine W.widen (k := 0) (n := 0) (by omega) (by omega) ?_
                exact W.iret (v := 3) hx hb hr (fun t ht hWm => ⟨⟨3, (), rfl, trivial, ⟨F_361, QTm.mk ht hP hD hO hR⟩⟩, hS.F ht⟩) hS.2.2 dX15_sealOf_310
            ·
              refine lv_iload hx hb dX15_sealOf_271 (lv_at hl 0 rfl) ?_
              refine lv_if_lt (tgt := 281) hx hb dX15_sealOf_273 (by decide) (fun c_415 => ?_) (fun c_415 => ?_)
              ·
                refine lv_aload_n hx hb dX15_sealOf_281 rfl (lv_at hl 2 rfl) ?_
                refine pg_get (ci := 15) (v := .ref pl) (C := RX15) (T := TX15) (N := 59) hx hb hts it_15 hown hK hP hL_h0 hF_315 rfl 34 (by decide) (hts _ kt_916) (fun _ h9 => h9) rfl dX15_sealOf_282 ?_
                refine pg_get (ci := 14) (v := .int (nI z_322)) (C := RX14) (T := TX14) (N := 2) hx hb hts it_14 hown hK hP hL_pl hF_323 rfl 1 (by decide) (hts _ kt_709) (fun _ h9 => h9) rfl dX15_sealOf_285 ?_
                refine W.widen (k := 0) (n := 0) (by omega) (by omega) ?_
                exact jn_326 (nI z_322) F_306 (⟨⟨z_322, by omega, rfl⟩, hF_309, hF_310, hF_311, hF_312, hF_313⟩) hO hR _ _ hP hD hS ls (lv_sub hl [2, 3, 4] rfl)
              ·
                have hr9 := c_325
                obtain ⟨km, hkm, ekm⟩ := nI_of c_415
                subst ekm
                have hkz : km ≤ z_322 := (nI_leI hkm (by omega)).mp hr9
                refine lv_iload hx hb dX15_sealOf_276 (lv_at hl 0 rfl) ?_
                refine lv_goto (tgt := 288) hx hb dX15_sealOf_278 (by decide) ?_
                refine W.widen (k := 0) (n := 0) (by omega) (by omega) ?_
                exact jn_326 (nI km) F_306 (⟨⟨km, by omega, rfl⟩, hF_309, hF_310, hF_311, hF_312, hF_313⟩) hO hR _ _ hP hD hS ls (lv_sub hl [2, 3, 4] rfl)
          ·
            refine lv_iconst (v := 3) hx hb dX15_sealOf_261 (by decide) ?_
            refine W.widen (k := 0) (n := 0) (by omega) (by omega) ?_
            exact W.iret (v := 3) hx hb hr (fun t ht hWm => ⟨⟨3, (), rfl, trivial, ⟨F_306, QTm.mk ht hP hD hO hR⟩⟩, hS.F ht⟩) hS.2.2 dX15_sealOf_262
        ·
          refine lv_iload hx hb dX15_sealOf_226 (lv_at hl 0 rfl) ?_
          refine W.widen (k := 0) (n := 0) (by omega) (by omega) ?_
          exact W.iret (v := r_291) hx hb hr (fun t ht hWm => ⟨⟨r_291, (), rfl, trivial, ⟨F_292, QTm.mk ht hP hD hO hR⟩⟩, hS.F ht⟩) hS.2.2 dX15_sealOf_228
      ·
        have hi_416 : j < 12 := ltN (N := 12) c_254
        refine lv_aload_n hx hb dX15_sealOf_171 rfl (lv_at hl 1 rfl) ?_
        obtain ⟨zo_417, v11_418, v12_419, v14_420, v15_421, v17_422, v18_423, v19_424, v20_425, v21_426, v22_427, v33_428, v52_429, v53_430, v54_431, hF_432, hq_433, hq_434, hq_435, hq_436, hq_437⟩ := hO.mod hL_h0 hT_h0
        refine pg_get (ci := 15) (v := .ref wh) (C := RX15) (T := TX15) (N := 59) hx hb hts it_15 hown hK hP hL_h0 hF_432 rfl 49 (by decide) (hts _ kt_953) (fun _ h9 => h9) rfl dX15_sealOf_172 ?_
        obtain ⟨q_438, v_439, hr_q_438, hX_q_438⟩ := hG.2.2 ("PostGateModel", 514, "._domainkey.", [46, 95, 100, 111, 109, 97, 105, 110, 107, 101, 121, 46]) (by decide +kernel)
        have hX_q_438 : SXc q_438 v_439 12 (cct [46, 95, 100, 111, 109, 97, 105, 110, 107, 101, 121, 46]) A s s.heap := hX_q_438
        obtain ⟨xo_q_438, xc_q_438, xv_q_438, xt_q_438, xn_q_438⟩ := id hX_q_438
        have hr_q_438 : vk_R "PostGateModel" 514 "._domainkey." q_438 s := hr_q_438
        refine va_ldcwS hx hb hown hr_q_438 dX15_sealOf_175 ?_
        refine lv_iload hx hb dX15_sealOf_178 (lv_at hl 0 rfl) ?_
        have hFc := pg_free hD hS hA
        refine va_calli (va_runV (As := [.int (nI j)]) (rest := [.ref wh]) ⟨hx, hb, hml, hown, hts⟩ (m_J0_charAt_5068e l dC dI cs ty gm L H.size F_247 q_438 v_439 12 (cct [46, 95, 100, 111, 109, 97, 105, 110, 107, 101, 121, 46]) j hW (by first | omega | assumption)) ⟨callB_of 1 hts (gi kt_75) rfl rfl rfl (hts _ kt_51) (hts _ kt_693) (by decide +kernel) ⟨Nat.le_of_ble_eq_true rfl, Nat.le_of_ble_eq_true rfl⟩, (hts _ kt_77), (hts _ kt_78)⟩ ⟨fun a U g mk q => ⟨q.1, PTEm.calling q.2⟩, sx_recv hX_q_438.sx hS, fun U hU hWm => ⟨rfl, PTEm.mk hU hWm hP hK hD hE hO hG (fun x hx => by rw [List.mem_singleton] at hx; subst hx; exact hX_q_438) hS hFc⟩⟩ rfl rfl hl.1 rfl (lv_room (Nat.le_of_ble_eq_true rfl)) dX15_sealOf_180 ⟨by show _ + 0 ≤ 0; omega, by show _ + 0 ≤ 0; omega⟩) hS (fun q _ h => hFc q h) hFc (fun r_440 u t H1 locs ht hvm hw hB hz1 hk1 hS => ?_)
        obtain ⟨F_441, hB1⟩ := hB
        obtain rfl : F_247 = F_441 := (funext (fun a => hB1.2.2.2 a List.not_mem_nil)).symm
        obtain ⟨hP, hD, hO, hR⟩ := QTm.back hB1 ht hFc hR (fun q h => absurd h List.not_mem_nil)
        generalize H1 = H at hP hS ⊢
        have hw : r_440 = chv ((cct [46, 95, 100, 111, 109, 97, 105, 110, 107, 101, 121, 46]) j) := hw
        subst hw
        have hFc := pg_free hD hS hA
        refine va_callv (va_runV (As := [.int (chv ((cct [46, 95, 100, 111, 109, 97, 105, 110, 107, 101, 121, 46]) j))]) (rest := []) ⟨hx, hb, hml, hown, hts⟩ (s_X14_add l dC dI cs ty gm L H.size F_247 wh (ρ + 24) r_17 6000 ((k_227 - (k_221 + 1)) + j) (chv ((cct [46, 95, 100, 111, 109, 97, 105, 110, 107, 101, 121, 46]) j)) hW hi_43 ht_44 hwh2 (by first | omega | assumption)) ⟨callB_of 1 hts (gi kt_711) rfl rfl rfl (hts _ kt_676) (hts _ kt_712) (by decide +kernel) ⟨Nat.le_of_ble_eq_true rfl, Nat.le_of_ble_eq_true rfl⟩, (hts _ kt_713), (hts _ kt_714)⟩ ⟨fun a U g mk q => ⟨q.1, PTm.calling q.2⟩, pg_recv hK hP hi_43 hwh2 (q := (RX14, TX14, 2)) rfl, fun U hU hWm => ⟨rfl, PTm.mk hU hWm hP hK hD hE hO⟩⟩ rfl rfl hl.1 rfl (lv_room (Nat.le_of_ble_eq_true rfl)) dX15_sealOf_183 ⟨by show _ + 0 ≤ 0; omega, by show _ + 0 ≤ 0; omega⟩) hS (fun q _ h => hFc q h) hFc (fun u t H1 locs ht hvm hw hB hz1 hk1 hS => ?_)
        obtain ⟨F_443, hB1, hq_444⟩ := hB
        obtain ⟨hP, hD, hO, hR⟩ := QTm.back hB1 ht hFc hR (fun q h => by simp only [List.mem_cons, List.not_mem_nil, or_false] at h ⊢; omega)
        have hF_445 : F_443 co = .inl (cs 16, 21, .inl f_76) := (hB1.2.2.2 co (by rw [ht_75]; simp)).trans hF_252
        have hF_446 : F_443 sp = .inl (cs 16, 21, .inl f_83) := (hB1.2.2.2 sp (by rw [ht_82]; simp)).trans hF_253
        have hF_447 : F_443 sb = .inl (cs 17, 3000, .inl eb) := (hB1.2.2.2 sb (by rw [ht_38]; simp)).trans hna
        have hF_448 : F_443 s0 = .inl (cs 16, 40, .inl e0) := (hB1.2.2.2 s0 (by rw [ht_32]; simp)).trans hnb
        have hF_449 : F_443 s1 = .inl (cs 16, 40, .inl e1) := (hB1.2.2.2 s1 (by rw [ht_33]; simp)).trans hnc
        have hF_450 : F_443 s2 = .inl (cs 16, 40, .inl e2) := (hB1.2.2.2 s2 (by rw [ht_34]; simp)).trans hnd
        have hF_451 : F_443 se = .inr (13, [.ref sx, .ref s0, .ref s1, .ref s2, .int (nI zs)]) := (hB1.2.2.2 se (by rw [ht_28]; simp)).trans hne
        have hF_452 : F_443 sd = .inr (14, [.ref r_18, .int (nI (k_168 - (k_162 + 1)))]) := (hB1.2.2.2 sd (by rw [ht_49]; simp)).trans hsd2
        have hF_453 : F_443 h0 = .inr (15, (.ref ta) :: (.int (nI zt)) :: (.int (nI zo_417)) :: (.int (nI ze)) :: (.ref ou) :: (.ref so) :: (.ref ad) :: (.ref na) :: (.ref va) :: (.ref lc) :: (.ref dm) :: (.int v11_418) :: (.int v12_419) :: (.ref tg) :: (.int v14_420) :: (.int v15_421) :: (.ref pe) :: (.int v17_422) :: (.int v18_423) :: (.int v19_424) :: (.int v20_425) :: (.int v21_426) :: (.int v22_427) :: (.ref ml) :: (.ref bg) :: (.ref co) :: (.ref sp) :: (.ref nb0) :: (.ref nb1) :: (.ref nb2) :: (.int (nI nf)) :: (.int (nI bd)) :: (.int (nI mm)) :: (.int v33_428) :: (.ref pl) :: (.ref se) :: (.ref ke) :: (.ref wi) :: (.ref hs) :: (.ref mo) :: (.ref po) :: (.ref nu) :: (.ref pr) :: (.ref sq) :: (.ref xa) :: (.ref sa) :: (.ref n64) :: (.ref m64) :: (.ref ex) :: (.ref wh) :: (.ref sd) :: (.ref tk) :: (.int v52_429) :: (.int v53_430) :: (.int v54_431) :: (.ref hd) :: (.ref ak) :: (.ref ho) :: (.ref ot) :: []) := (hB1.2.2.2 h0 (by rw [hT_h0]; simp)).trans hF_432
        generalize H1 = H at hP hS ⊢
        refine lv_iinc (v := (nI (j + 1))) (lv' := [(6, .int (nI (j + 1))), (0, .ref h0), (1, .int (nI jf)), (2, .int x2)]) hx hb dX15_sealOf_186 hl (k := 0) rfl (nI_1 _) (by decide) rfl (fun ls hl => ?_)
        refine lv_goto (tgt := 164) hx hb dX15_sealOf_189 (by decide) ?_
        refine W.widen (k := 0) (n := 0) (by omega) (by omega) ?_
        exact ih_251 (j + 1) F_443 (⟨by omega, hF_447, hF_448, hF_449, hF_450, hF_451, hF_452, hq_444⟩) (by show 12 - (j + 1) < 12 - j; omega) hO hR _ _ hP hD hS ls (lv_sub hl [0, 1, 2, 3] rfl)
    ·
      refine lv_iload hx hb dX15_sealOf_109 (lv_at hl 0 rfl) ?_
      refine lv_if_lt (tgt := 122) hx hb dX15_sealOf_111 (by decide) (fun c_454 => ?_) (fun c_454 => ?_)
      ·
        refine W.widen (k := 0) (n := 0) (by omega) (by omega) ?_
        exact jn_189 () F_178 (⟨hF_183, hF_184, hF_185, hF_186, hF_187, hq_179⟩) hO hR _ _ hP hD hS ls (lv_sub hl [1, 3, 4, 5] rfl)
      ·
        refine lv_iload_n hx hb dX15_sealOf_114 rfl (lv_at hl 5 rfl) ?_
        refine lv_iload hx hb dX15_sealOf_115 (lv_at hl 0 rfl) ?_
        refine lv_icmp_le (tgt := 122) hx hb dX15_sealOf_117 (by decide) (fun c_455 => ?_) (fun c_455 => ?_)
        ·
          refine W.widen (k := 0) (n := 0) (by omega) (by omega) ?_
          exact jn_189 () F_178 (⟨hF_183, hF_184, hF_185, hF_186, hF_187, hq_179⟩) hO hR _ _ hP hD hS ls (lv_sub hl [1, 3, 4, 5] rfl)
        ·
          refine lv_iconst (v := 3) hx hb dX15_sealOf_120 (by decide) ?_
          refine W.widen (k := 0) (n := 0) (by omega) (by omega) ?_
          exact W.iret (v := 3) hx hb hr (fun t ht hWm => ⟨⟨3, (), rfl, trivial, ⟨F_178, QTm.mk ht hP hD hO hR⟩⟩, hS.F ht⟩) hS.2.2 dX15_sealOf_121
  ·
    refine lv_iconst (v := 1) hx hb dX15_sealOf_35 (by decide) ?_
    refine W.widen (k := 0) (n := 0) (by omega) (by omega) ?_
    exact W.iret (v := 1) hx hb hr (fun t ht hWm => ⟨⟨1, (), rfl, trivial, ⟨F_105, QTm.mk ht hP hD hO hR⟩⟩, hS.F ht⟩) hS.2.2 dX15_sealOf_36
set_option maxHeartbeats 4000000 in
set_option maxRecDepth 100000 in
theorem s_X15_sealed (l : Launch) (dC : Nat → ClassId) (dI : Nat → Nat → Nat) (cs : Nat → ClassId) (ty : TyM) (gm : Nat → Nat → Nat) (L : List Nat) (sz : Nat) (F : Nat → va_E) (h0 : Nat) (ρ : Nat) (ta : Nat) (ou : Nat) (so : Nat) (ad : Nat) (na : Nat) (va : Nat) (lc : Nat) (dm : Nat) (tg : Nat) (pe : Nat) (ml : Nat) (bg : Nat) (co : Nat) (sp : Nat) (nb0 : Nat) (nb1 : Nat) (nb2 : Nat) (pl : Nat) (se : Nat) (ke : Nat) (wi : Nat) (hs : Nat) (mo : Nat) (po : Nat) (nu : Nat) (pr : Nat) (sq : Nat) (xa : Nat) (sa : Nat) (n64 : Nat) (m64 : Nat) (ex : Nat) (wh : Nat) (sd : Nat) (tk : Nat) (hd : Nat) (ak : Nat) (ho : Nat) (ot : Nat) (sx : Nat) (s0 : Nat) (s1 : Nat) (s2 : Nat) (nf : Nat) (bd : Nat) (mm : Nat) (ze : Nat) (zt : Nat) (sb : Nat) (rl : Nat) (x1 : Int32) (x2 : Int32) (hW : WTm ty gm L) (hL_h0 : h0 ∈ L) (hT_h0 : ty h0 = (15, ρ, [ta, ou, so, ad, na, va, lc, dm, tg, pe, ml, bg, co, sp, nb0, nb1, nb2, pl, se, ke, wi, hs, mo, po, nu, pr, sq, xa, sa, n64, m64, ex, wh, sd, tk, hd, ak, ho, ot, sx, s0, s1, s2, nf, bd, mm, ze, zt])) (hL_sx : sx ∈ L) (hT_sx : ty sx = (14, ρ + 12, [sb, 3000])) (hL_pl : pl ∈ L) (hT_pl : ty pl = (14, ρ + 10, [rl, 6000])) : Met l yX15_sealed (.code yX15_sealed cX15_sealed 4 (some .int) :: tb) ({ frames := 9, cells := 0, slots := 0, locals := 213 }) (va_Pc [.ref h0, .int x1, .int x2] (PTEm (dC, dI) cs ty gm L F sz [])) (va_Qi (fun (r : Int32) (_ : Unit) => True) (fun _ T9 => ∃ F2 : Nat → va_E, QTm (dC, dI) cs ty gm L [ρ, ρ + 10, ρ + 11, ρ + 12, ρ + 13, ρ + 14, ρ + 17, ρ + 18, ρ + 19, ρ + 20, ρ + 21, ρ + 22, ρ + 23, ρ + 24, ρ + 25, ρ + 26] F F2 (va_A (va_pl L F) sz) T9) (va_A (va_pl L F) sz)) 0 0 (va_A (va_pl L F) sz) := by
  refine Met.ofW (cc := cX15_sealed) (maxL := 4) (ret := (some .int)) (by decide) rfl ?_
  intro p e s m args below meth c s₁ B hml hv
  obtain ⟨rfl, ⟨hsz, hP, hK, hD0, hE, hO⟩, hG, hX⟩ := hv
  have hx := B.exec
  have hb := B.bytes
  have hr := B.returns
  have hts : ∀ w ∈ tb, w.before _ s = true := fun w h => atoms_spec (ws := .code yX15_sealed cX15_sealed 4 (some .int) :: tb) B.pre w (List.mem_cons_of_mem _ h)
  have hown : s.vm.findClass RX15 = some m.cls := findClass_of_methodNamed B.named
  have hlocks := B.notSynchronized
  subst hsz
  have hD := hD0.self (sz := s.heap.size)
  generalize hAe : va_A (va_pl L F) s.heap.size = A at hD hG hX ⊢
  have hA : ∀ q : Nat, s.heap.size ≤ q → A q := fun q h => by rw [← hAe]; exact Or.inr h
  have hS : va_S A s.heap s.heap [] := va_S.rf
  have hR : FR ty [ρ, ρ + 10, ρ + 11, ρ + 12, ρ + 13, ρ + 14, ρ + 17, ρ + 18, ρ + 19, ρ + 20, ρ + 21, ρ + 22, ρ + 23, ρ + 24, ρ + 25, ρ + 26] F F := FR.refl
  have hl := lv_entry ([.ref h0, .int x1, .int x2]) (n := 4) (Nat.le_of_ble_eq_true rfl)
  rw [lg_entry_eq]
  generalize (lg_sl ([.ref h0, .int x1, .int x2]) ++ List.replicate (4 - (lg_sl ([.ref h0, .int x1, .int x2])).length) Slot.unset).toArray = ls at hl ⊢
  have hl : lv_has ls 4 [(0, .ref h0), (1, .int x1), (2, .int x2)] := hl
  obtain ⟨hq_22, hq_23, hq_24, hq_25, hq_26, hgO, hgA, hgB⟩ := hW.sc hL_h0 hT_h0
  obtain ⟨hi_27, ht_28⟩ := hW.f_se hL_h0 hT_h0
  obtain ⟨_, hi_29, hi_30, hi_31, _, ht_32, ht_33, ht_34, hq_35, hq_36⟩ := hW.tags hi_27 ht_28
  obtain ⟨hi_37, ht_38, hq_39⟩ := hW.txt hL_sx hT_sx
  obtain ⟨hi_40, ht_41, hq_42⟩ := hW.txt hL_pl hT_pl
  refine lv_iload_n hx hb dX15_sealed_0 rfl (lv_at hl 2 rfl) ?_
  refine lv_if_ge (tgt := 6) hx hb dX15_sealed_1 (by decide) (fun c_43 => ?_) (fun c_43 => ?_)
  ·
    refine lv_aload_n hx hb dX15_sealed_6 rfl (lv_at hl 0 rfl) ?_
    refine lv_iload_n hx hb dX15_sealed_7 rfl (lv_at hl 1 rfl) ?_
    have hFc := pg_free hD hS hA
    obtain ⟨zo_44, v11_45, v12_46, v14_47, v15_48, v17_49, v18_50, v19_51, v20_52, v21_53, v22_54, v33_55, v52_56, v53_57, v54_58, hF_59, hq_60, hq_61, hq_62, hq_63, hq_64⟩ := hO.mod hL_h0 hT_h0
    refine va_calli (va_runV (As := [.int x1]) (rest := []) ⟨hx, hb, hml, hown, hts⟩ (s_X15_sealAt l dC dI cs ty gm L s.heap.size F h0 ρ ta ou so ad na va lc dm tg pe ml bg co sp nb0 nb1 nb2 pl se ke wi hs mo po nu pr sq xa sa n64 m64 ex wh sd tk hd ak ho ot sx s0 s1 s2 nf bd mm ze zt x1 hW hL_h0 hT_h0) ⟨callB_of 1 hts (gi kt_1037) rfl rfl rfl (hts _ kt_669) (hts _ kt_1038) (by decide +kernel) ⟨Nat.le_of_ble_eq_true rfl, Nat.le_of_ble_eq_true rfl⟩, (hts _ kt_1039), (hts _ kt_1040)⟩ ⟨fun a U g mk q => ⟨q.1, PTEm.calling q.2⟩, pg_recv hK hP hL_h0 hF_59 (q := (RX15, TX15, 59)) rfl, fun U hU hWm => ⟨rfl, PTEm.mk hU hWm hP hK hD hE hO hG (fun x hx => absurd hx List.not_mem_nil) hS hFc⟩⟩ rfl rfl hl.1 rfl (lv_room (Nat.le_of_ble_eq_true rfl)) dX15_sealed_8 ⟨by show _ + 0 ≤ 0; omega, by show _ + 0 ≤ 0; omega⟩) hS (fun q _ h => hFc q h) hFc (fun r_65 u t H1 locs ht hvm hw hB hz1 hk1 hS => ?_)
    obtain ⟨F_66, hB1⟩ := hB
    obtain rfl : F = F_66 := (funext (fun a => hB1.2.2.2 a List.not_mem_nil)).symm
    obtain ⟨hP, hD, hO, hR⟩ := QTm.back hB1 ht hFc hR (fun q h => absurd h List.not_mem_nil)
    generalize H1 = H at hP hS ⊢
    have hw : (r_65 = (-1) ∨ ∃ j : Nat, j < nf ∧ r_65 = nI j) := hw
    have hw_67 := hw
    refine lv_istore_n (lv' := [(3, .int r_65), (0, .ref h0), (1, .int x1), (2, .int x2)]) hx hb dX15_sealed_11 rfl hl (by decide) rfl (fun ls hl => ?_)
    refine lv_iload_n hx hb dX15_sealed_12 rfl (lv_at hl 0 rfl) ?_
    refine lv_if_ge (tgt := 21) hx hb dX15_sealed_13 (by decide) (fun c_68 => ?_) (fun c_68 => ?_)
    ·
      obtain ⟨jf, hjf, ej⟩ := rowB hw_67 c_68
      subst ej
      refine lv_aload_n hx hb dX15_sealed_21 rfl (lv_at hl 1 rfl) ?_
      refine lv_iload_n hx hb dX15_sealed_22 rfl (lv_at hl 0 rfl) ?_
      refine lv_iload_n hx hb dX15_sealed_23 rfl (lv_at hl 3 rfl) ?_
      have hFc := pg_free hD hS hA
      refine va_calli (va_runV (As := [.int (nI jf), .int x2]) (rest := []) ⟨hx, hb, hml, hown, hts⟩ (s_X15_sealOf l dC dI cs ty gm L H.size F h0 ρ ta ou so ad na va lc dm tg pe ml bg co sp nb0 nb1 nb2 pl se ke wi hs mo po nu pr sq xa sa n64 m64 ex wh sd tk hd ak ho ot sx s0 s1 s2 nf bd mm ze zt sb rl jf x2 hW hL_h0 hT_h0 hL_sx hT_sx hL_pl hT_pl (by first | omega | assumption)) ⟨callB_of 2 hts (gi kt_1041) rfl rfl rfl (hts _ kt_669) (hts _ kt_1042) (by decide +kernel) ⟨Nat.le_of_ble_eq_true rfl, Nat.le_of_ble_eq_true rfl⟩, (hts _ kt_1043), (hts _ kt_1044)⟩ ⟨fun a U g mk q => ⟨q.1, PTEm.calling q.2⟩, pg_recv hK hP hL_h0 hF_59 (q := (RX15, TX15, 59)) rfl, fun U hU hWm => ⟨rfl, PTEm.mk hU hWm hP hK hD hE hO hG (fun x hx => absurd hx List.not_mem_nil) hS hFc⟩⟩ rfl rfl hl.1 rfl (lv_room (Nat.le_of_ble_eq_true rfl)) dX15_sealed_24 ⟨by show _ + 0 ≤ 0; omega, by show _ + 0 ≤ 0; omega⟩) hS (fun q _ h => hFc q h) hFc (fun r_69 u t H1 locs ht hvm hw hB hz1 hk1 hS => ?_)
      obtain ⟨F_70, hB1⟩ := hB
      obtain ⟨hP, hD, hO, hR⟩ := QTm.back hB1 ht hFc hR (fun q h => by simp only [List.mem_cons, List.not_mem_nil, or_false] at h ⊢; omega)
      generalize H1 = H at hP hS ⊢
      have hw : True := hw
      have hw_71 := hw
      refine W.widen (k := 0) (n := 0) (by omega) (by omega) ?_
      exact W.iret (v := r_69) hx hb hr (fun t ht hWm => ⟨⟨r_69, (), rfl, trivial, ⟨F_70, QTm.mk ht hP hD hO hR⟩⟩, hS.F ht⟩) hS.2.2 dX15_sealed_27
    ·
      refine lv_bipush (v := (-2)) hx hb dX15_sealed_16 (by decide) ?_
      refine lv_goto (tgt := 27) hx hb dX15_sealed_18 (by decide) ?_
      refine W.widen (k := 0) (n := 0) (by omega) (by omega) ?_
      exact W.iret (v := (-2)) hx hb hr (fun t ht hWm => ⟨⟨(-2), (), rfl, trivial, ⟨F, QTm.mk ht hP hD hO hR⟩⟩, hS.F ht⟩) hS.2.2 dX15_sealed_27
  ·
    refine lv_iconst (v := (-1)) hx hb dX15_sealed_4 (by decide) ?_
    refine W.widen (k := 0) (n := 0) (by omega) (by omega) ?_
    exact W.iret (v := (-1)) hx hb hr (fun t ht hWm => ⟨⟨(-1), (), rfl, trivial, ⟨F, QTm.mk ht hP hD hO hR⟩⟩, hS.F ht⟩) hS.2.2 dX15_sealed_5
set_option maxHeartbeats 4000000 in
set_option maxRecDepth 100000 in
theorem s_X15_isSeen (l : Launch) (dC : Nat → ClassId) (dI : Nat → Nat → Nat) (cs : Nat → ClassId) (ty : TyM) (gm : Nat → Nat → Nat) (L : List Nat) (sz : Nat) (F : Nat → va_E) (h0 : Nat) (ρ : Nat) (ta : Nat) (ou : Nat) (so : Nat) (ad : Nat) (na : Nat) (va : Nat) (lc : Nat) (dm : Nat) (tg : Nat) (pe : Nat) (ml : Nat) (bg : Nat) (co : Nat) (sp : Nat) (nb0 : Nat) (nb1 : Nat) (nb2 : Nat) (pl : Nat) (se : Nat) (ke : Nat) (wi : Nat) (hs : Nat) (mo : Nat) (po : Nat) (nu : Nat) (pr : Nat) (sq : Nat) (xa : Nat) (sa : Nat) (n64 : Nat) (m64 : Nat) (ex : Nat) (wh : Nat) (sd : Nat) (tk : Nat) (hd : Nat) (ak : Nat) (ho : Nat) (ot : Nat) (sx : Nat) (s0 : Nat) (s1 : Nat) (s2 : Nat) (nf : Nat) (bd : Nat) (mm : Nat) (ze : Nat) (zt : Nat) (rak : Nat) (hW : WTm ty gm L) (hL_h0 : h0 ∈ L) (hT_h0 : ty h0 = (15, ρ, [ta, ou, so, ad, na, va, lc, dm, tg, pe, ml, bg, co, sp, nb0, nb1, nb2, pl, se, ke, wi, hs, mo, po, nu, pr, sq, xa, sa, n64, m64, ex, wh, sd, tk, hd, ak, ho, ot, sx, s0, s1, s2, nf, bd, mm, ze, zt])) (hL_ak : ak ∈ L) (hT_ak : ty ak = (14, ρ + 28, [rak, 6000])) : Met l yX15_isSeen (.code yX15_isSeen cX15_isSeen 4 (some .boolean) :: tb) ({ frames := 6, cells := 0, slots := 0, locals := 131 }) (va_Pc [.ref h0] (PTEm (dC, dI) cs ty gm L F sz [])) (va_Qi (fun (r : Int32) (wr : Int32) => (r = wr ∧ (r = 0 ∨ r = 1))) (fun (wr : Int32) T9 => ∃ F2 : Nat → va_E, ∃ za : Nat, QTm (dC, dI) cs ty gm L [ρ + 28] F F2 (va_A (va_pl L F) sz) T9 ∧ F2 ak = .inr (14, [.ref rak, .int (nI za)]) ∧ (wr = 1 → za ≤ 60)) (va_A (va_pl L F) sz)) 0 0 (va_A (va_pl L F) sz) := by
  refine Met.ofW (cc := cX15_isSeen) (maxL := 4) (ret := (some .boolean)) (by decide) rfl ?_
  intro p e s m args below meth c s₁ B hml hv
  obtain ⟨rfl, ⟨hsz, hP, hK, hD0, hE, hO⟩, hG, hX⟩ := hv
  have hx := B.exec
  have hb := B.bytes
  have hr := B.returns
  have hts : ∀ w ∈ tb, w.before _ s = true := fun w h => atoms_spec (ws := .code yX15_isSeen cX15_isSeen 4 (some .boolean) :: tb) B.pre w (List.mem_cons_of_mem _ h)
  have hown : s.vm.findClass RX15 = some m.cls := findClass_of_methodNamed B.named
  have hlocks := B.notSynchronized
  subst hsz
  have hD := hD0.self (sz := s.heap.size)
  generalize hAe : va_A (va_pl L F) s.heap.size = A at hD hG hX ⊢
  have hA : ∀ q : Nat, s.heap.size ≤ q → A q := fun q h => by rw [← hAe]; exact Or.inr h
  have hS : va_S A s.heap s.heap [] := va_S.rf
  have hR : FR ty [ρ + 28] F F := FR.refl
  have hl := lv_entry ([.ref h0]) (n := 4) (Nat.le_of_ble_eq_true rfl)
  rw [lg_entry_eq]
  generalize (lg_sl ([.ref h0]) ++ List.replicate (4 - (lg_sl ([.ref h0])).length) Slot.unset).toArray = ls at hl ⊢
  have hl : lv_has ls 4 [(0, .ref h0)] := hl
  obtain ⟨hq_22, hq_23, hq_24, hq_25, hq_26, hgO, hgA, hgB⟩ := hW.sc hL_h0 hT_h0
  obtain ⟨hi_27, ht_28, hq_29⟩ := hW.txt hL_ak hT_ak
  refine lv_iconst (v := (-1)) hx hb dX15_isSeen_0 (by decide) ?_
  refine lv_istore_n (lv' := [(1, .int (-1)), (0, .ref h0)]) hx hb dX15_isSeen_1 rfl hl (by decide) rfl (fun ls hl => ?_)
  refine lv_iconst (v := 0) hx hb dX15_isSeen_2 (by decide) ?_
  refine lv_istore_n (lv' := [(2, .int 0), (1, .int (-1)), (0, .ref h0)]) hx hb dX15_isSeen_3 rfl hl (by decide) rfl (fun ls hl => ?_)
  refine W.widen (k := 0) (n := 0) (by omega) (by omega) ?_
  refine pl_loopm (σ := Nat × Int32) A (dC, dI) cs ty gm L [ρ + 28] F 4 4 (fun (j, w1) => [(2, .int (nI j)), (1, .int w1), (0, .ref h0)]) (fun (j, w1) => []) (fun (j, w1) _ => j ≤ nf ∧ (w1 = (-1) ∨ ∃ i : Nat, i < nf ∧ w1 = nI i)) (fun (j, w1) => nf - j) ?_ (0, (-1)) F (⟨by omega, Or.inl rfl⟩) hO hR _ _ hP hD hS ls (lv_sub hl [0, 1, 2] rfl)
  rintro ⟨j, w1⟩ F_30 hv_31 hO hR ih_32 H locs hP hD hS ls hl
  have hl : lv_has ls 4 [(2, .int (nI j)), (1, .int w1), (0, .ref h0)] := hl
  have hv_31 : j ≤ nf ∧ (w1 = (-1) ∨ ∃ i : Nat, i < nf ∧ w1 = nI i) := hv_31
  refine W.eq (g2 := F0 m 4 ls []) rfl ?_
  obtain ⟨hv1, hv2⟩ := hv_31
  refine lv_iload_n hx hb dX15_isSeen_4 rfl (lv_at hl 0 rfl) ?_
  refine lv_aload_n hx hb dX15_isSeen_5 rfl (lv_at hl 2 rfl) ?_
  obtain ⟨zo_33, v11_34, v12_35, v14_36, v15_37, v17_38, v18_39, v19_40, v20_41, v21_42, v22_43, v33_44, v52_45, v53_46, v54_47, hF_48, hq_49, hq_50, hq_51, hq_52, hq_53⟩ := hO.mod hL_h0 hT_h0
  refine pg_get (ci := 15) (v := .int (nI nf)) (C := RX15) (T := TX15) (N := 59) hx hb hts it_15 hown hK hP hL_h0 hF_48 rfl 30 (by decide) (hts _ kt_907) (fun _ h9 => h9) rfl dX15_isSeen_6 ?_
  refine lv_icmp_ge (tgt := 40) hx hb dX15_isSeen_9 (by decide) (fun c_54 => ?_) (fun c_54 => ?_)
  ·
    have hi_55 : nf ≤ j := leN (N := nf) c_54
    refine lv_iload_n hx hb dX15_isSeen_40 rfl (lv_at hl 1 rfl) ?_
    refine lv_if_ge (tgt := 46) hx hb dX15_isSeen_41 (by decide) (fun c_56 => ?_) (fun c_56 => ?_)
    ·
      obtain ⟨jf, hjf, ej⟩ := rowB hv2 c_56
      subst ej
      have hoj := hgO jf hjf
      refine lv_aload_n hx hb dX15_isSeen_46 rfl (lv_at hl 2 rfl) ?_
      refine pg_get (ci := 15) (v := .ref sp) (C := RX15) (T := TX15) (N := 59) hx hb hts it_15 hown hK hP hL_h0 hF_48 rfl 26 (by decide) (hts _ kt_905) (fun _ h9 => h9) rfl dX15_isSeen_47 ?_
      refine lv_iload_n hx hb dX15_isSeen_50 rfl (lv_at hl 1 rfl) ?_
      obtain ⟨hi_57, ht_58⟩ := hW.f_sp hL_h0 hT_h0
      obtain ⟨f_59, hF_60, hq_61⟩ := hO.pos hi_57 ht_58
      refine pg_iald hx hb hK hP hi_57 0 hF_60 rfl (vp_in_nI (by omega) (by omega)) dX15_isSeen_51 ?_
      refine lv_topi (fun x_62 ex_62 => ?_)
      obtain rfl : x_62 = (nI (gm 2 jf)) := ex_62.trans (by rw [show ((nI jf) : Int32) = nI jf from rfl, nI_clamp (by omega)]; exact hq_61 jf (by omega))
      have hgbx_62 := hgB 2 jf
      refine lv_iconst (v := 1) hx hb dX15_isSeen_52 (by decide) ?_
      refine lv_isub hx hb dX15_isSeen_53 ?_
      refine lv_topi (fun x_63 ex_63 => ?_)
      obtain rfl : x_63 = (nI ((gm 2 jf) - 1)) := ex_63.trans (pk_sub (a := (gm 2 jf)) (b := 1) (by omega))
      refine lv_istore_n (lv' := [(2, .int (nI ((gm 2 jf) - 1))), (1, .int (nI jf)), (0, .ref h0)]) hx hb dX15_isSeen_54 rfl hl (by decide) rfl (fun ls hl => ?_)
      refine W.widen (k := 0) (n := 0) (by omega) (by omega) ?_
      have hF_65 : F h0 = .inr (15, (.ref ta) :: (.int (nI zt)) :: (.int (nI zo_33)) :: (.int (nI ze)) :: (.ref ou) :: (.ref so) :: (.ref ad) :: (.ref na) :: (.ref va) :: (.ref lc) :: (.ref dm) :: (.int v11_34) :: (.int v12_35) :: (.ref tg) :: (.int v14_36) :: (.int v15_37) :: (.ref pe) :: (.int v17_38) :: (.int v18_39) :: (.int v19_40) :: (.int v20_41) :: (.int v21_42) :: (.int v22_43) :: (.ref ml) :: (.ref bg) :: (.ref co) :: (.ref sp) :: (.ref nb0) :: (.ref nb1) :: (.ref nb2) :: (.int (nI nf)) :: (.int (nI bd)) :: (.int (nI mm)) :: (.int v33_44) :: (.ref pl) :: (.ref se) :: (.ref ke) :: (.ref wi) :: (.ref hs) :: (.ref mo) :: (.ref po) :: (.ref nu) :: (.ref pr) :: (.ref sq) :: (.ref xa) :: (.ref sa) :: (.ref n64) :: (.ref m64) :: (.ref ex) :: (.ref wh) :: (.ref sd) :: (.ref tk) :: (.int v52_45) :: (.int v53_46) :: (.int v54_47) :: (.ref hd) :: (.ref ak) :: (.ref ho) :: (.ref ot) :: []) := (hR h0 (by rw [hT_h0]; simp)).symm.trans hF_48
      have hF_66 : F sp = .inl (cs 16, 21, .inl f_59) := (hR sp (by rw [ht_58]; simp)).symm.trans hF_60
      refine pl_loopm (σ := Nat) A (dC, dI) cs ty gm L [ρ + 28] F 55 4 (fun k => [(2, .int (nI k)), (1, .int (nI jf)), (0, .ref h0)]) (fun k => []) (fun k _ => gm 1 jf ≤ k ∧ k < gm 2 jf) (fun k => k) ?_ ((gm 2 jf) - 1) F_30 (⟨by omega, by omega⟩) hO hR _ _ hP hD hS ls (lv_sub hl [0, 1, 2] rfl)
      rintro k F_64 hv_67 hO hR ih_68 H locs hP hD hS ls hl
      have hl : lv_has ls 4 [(2, .int (nI k)), (1, .int (nI jf)), (0, .ref h0)] := hl
      have hv_67 : gm 1 jf ≤ k ∧ k < gm 2 jf := hv_67
      refine W.eq (g2 := F0 m 55 ls []) rfl ?_
      have hF_69 : F_64 h0 = .inr (15, (.ref ta) :: (.int (nI zt)) :: (.int (nI zo_33)) :: (.int (nI ze)) :: (.ref ou) :: (.ref so) :: (.ref ad) :: (.ref na) :: (.ref va) :: (.ref lc) :: (.ref dm) :: (.int v11_34) :: (.int v12_35) :: (.ref tg) :: (.int v14_36) :: (.int v15_37) :: (.ref pe) :: (.int v17_38) :: (.int v18_39) :: (.int v19_40) :: (.int v20_41) :: (.int v21_42) :: (.int v22_43) :: (.ref ml) :: (.ref bg) :: (.ref co) :: (.ref sp) :: (.ref nb0) :: (.ref nb1) :: (.ref nb2) :: (.int (nI nf)) :: (.int (nI bd)) :: (.int (nI mm)) :: (.int v33_44) :: (.ref pl) :: (.ref se) :: (.ref ke) :: (.ref wi) :: (.ref hs) :: (.ref mo) :: (.ref po) :: (.ref nu) :: (.ref pr) :: (.ref sq) :: (.ref xa) :: (.ref sa) :: (.ref n64) :: (.ref m64) :: (.ref ex) :: (.ref wh) :: (.ref sd) :: (.ref tk) :: (.int v52_45) :: (.int v53_46) :: (.int v54_47) :: (.ref hd) :: (.ref ak) :: (.ref ho) :: (.ref ot) :: []) := (hR h0 (by rw [hT_h0]; simp)).trans hF_65
      have hF_70 : F_64 sp = .inl (cs 16, 21, .inl f_59) := (hR sp (by rw [ht_58]; simp)).trans hF_66
      obtain ⟨hk1a, hk2a⟩ := hv_67
      refine lv_iload_n hx hb dX15_isSeen_55 rfl (lv_at hl 0 rfl) ?_
      refine lv_aload_n hx hb dX15_isSeen_56 rfl (lv_at hl 2 rfl) ?_
      refine pg_get (ci := 15) (v := .ref co) (C := RX15) (T := TX15) (N := 59) hx hb hts it_15 hown hK hP hL_h0 hF_69 rfl 25 (by decide) (hts _ kt_904) (fun _ h9 => h9) rfl dX15_isSeen_57 ?_
      refine lv_iload_n hx hb dX15_isSeen_60 rfl (lv_at hl 1 rfl) ?_
      obtain ⟨hi_71, ht_72⟩ := hW.f_co hL_h0 hT_h0
      obtain ⟨f_73, hF_74, hq_75⟩ := hO.pos hi_71 ht_72
      refine pg_iald hx hb hK hP hi_71 0 hF_74 rfl (vp_in_nI (by omega) (by omega)) dX15_isSeen_61 ?_
      refine lv_topi (fun x_76 ex_76 => ?_)
      obtain rfl : x_76 = (nI (gm 1 jf)) := ex_76.trans (by rw [show ((nI jf) : Int32) = nI jf from rfl, nI_clamp (by omega)]; exact hq_75 jf (by omega))
      have hgbx_76 := hgB 1 jf
      refine lv_icmp_le (tgt := 82) hx hb dX15_isSeen_62 (by decide) (fun c_77 => ?_) (fun c_77 => ?_)
      ·
        have hi_78 : k ≤ (gm 1 jf) := (nI_leI (a := k) (b := (gm 1 jf)) (by omega) (by omega)).mp c_77
        refine lv_iload_n hx hb dX15_isSeen_82 rfl (lv_at hl 0 rfl) ?_
        refine lv_aload_n hx hb dX15_isSeen_83 rfl (lv_at hl 2 rfl) ?_
        refine pg_get (ci := 15) (v := .ref co) (C := RX15) (T := TX15) (N := 59) hx hb hts it_15 hown hK hP hL_h0 hF_69 rfl 25 (by decide) (hts _ kt_904) (fun _ h9 => h9) rfl dX15_isSeen_84 ?_
        refine lv_iload_n hx hb dX15_isSeen_87 rfl (lv_at hl 1 rfl) ?_
        refine pg_iald hx hb hK hP hi_71 0 hF_74 rfl (vp_in_nI (by omega) (by omega)) dX15_isSeen_88 ?_
        refine lv_topi (fun x_79 ex_79 => ?_)
        obtain rfl : x_79 = (nI (gm 1 jf)) := ex_79.trans (by rw [show ((nI jf) : Int32) = nI jf from rfl, nI_clamp (by omega)]; exact hq_75 jf (by omega))
        have hgbx_79 := hgB 1 jf
        refine lv_icmp_ne (tgt := 94) hx hb dX15_isSeen_89 (by decide) (fun c_80 => ?_) (fun c_80 => ?_)
        ·
          have hi_81 : k ≠ (gm 1 jf) := fun q => c_80 (by rw [q])
          refine lv_aload_n hx hb dX15_isSeen_94 rfl (lv_at hl 2 rfl) ?_
          refine pg_get (ci := 15) (v := .ref ak) (C := RX15) (T := TX15) (N := 59) hx hb hts it_15 hown hK hP hL_h0 hF_69 rfl 56 (by decide) (hts _ kt_1045) (fun _ h9 => h9) rfl dX15_isSeen_95 ?_
          refine lv_iconst (v := 0) hx hb dX15_isSeen_98 (by decide) ?_
          obtain ⟨z_82, hF_83, hq_84⟩ := hO.txt hL_ak hT_ak
          refine pg_put (ci := 14) (v := .int 0) (ty := .int) (C := RX14) (T := TX14) (N := 2) hx hb hts it_14 tyX14 tyX14_ok nmX14 hown hK hP hD hS hL_ak hF_83 rfl 1 (by decide) (hts _ kt_709) (fun _ h9 => h9) rfl (by decide +kernel) (rfl) (rfl) (Nat.le_of_ble_eq_true rfl) dX15_isSeen_99 (fun H locs hP hD hS => ?_)
          obtain ⟨F_85, he_86, hP, hD, hO, hR⟩ : ∃ G, G = va_up F_64 ak (.inr (14, [.ref rak, .int 0])) ∧ va_P (dC, dI) vwCl (va_pl L G) H ∧ va_D A (va_pl L G) ∧ OKm cs ty gm L G ∧ FR ty [ρ + 28] F G := ⟨_, rfl, hP, hD, hO.up (shm.txt hT_ak ⟨0, rfl, (by first | omega | assumption | exact Or.inl rfl | exact Or.inr rfl)⟩), hR.up hT_ak (by simp)⟩
          have hF_87 : F_85 ak = .inr (14, [.ref rak, .int 0]) := by rw [he_86]; exact up_self
          have hF_88 : F_85 h0 = .inr (15, (.ref ta) :: (.int (nI zt)) :: (.int (nI zo_33)) :: (.int (nI ze)) :: (.ref ou) :: (.ref so) :: (.ref ad) :: (.ref na) :: (.ref va) :: (.ref lc) :: (.ref dm) :: (.int v11_34) :: (.int v12_35) :: (.ref tg) :: (.int v14_36) :: (.int v15_37) :: (.ref pe) :: (.int v17_38) :: (.int v18_39) :: (.int v19_40) :: (.int v20_41) :: (.int v21_42) :: (.int v22_43) :: (.ref ml) :: (.ref bg) :: (.ref co) :: (.ref sp) :: (.ref nb0) :: (.ref nb1) :: (.ref nb2) :: (.int (nI nf)) :: (.int (nI bd)) :: (.int (nI mm)) :: (.int v33_44) :: (.ref pl) :: (.ref se) :: (.ref ke) :: (.ref wi) :: (.ref hs) :: (.ref mo) :: (.ref po) :: (.ref nu) :: (.ref pr) :: (.ref sq) :: (.ref xa) :: (.ref sa) :: (.ref n64) :: (.ref m64) :: (.ref ex) :: (.ref wh) :: (.ref sd) :: (.ref tk) :: (.int v52_45) :: (.int v53_46) :: (.int v54_47) :: (.ref hd) :: (.ref ak) :: (.ref ho) :: (.ref ot) :: []) := by rw [he_86, up_ne (ne_ty hT_h0 hT_ak (by simp))]; exact hF_69
          have hF_89 : F_85 sp = .inl (cs 16, 21, .inl f_59) := by rw [he_86, up_ne (ne_ty ht_58 hT_ak (by simp))]; exact hF_70
          have hF_90 : F_85 co = .inl (cs 16, 21, .inl f_73) := by rw [he_86, up_ne (ne_ty ht_72 hT_ak (by simp))]; exact hF_74
          refine lv_iload_n hx hb dX15_isSeen_102 rfl (lv_at hl 0 rfl) ?_
          refine lv_iconst (v := 1) hx hb dX15_isSeen_103 (by decide) ?_
          refine lv_iadd hx hb dX15_isSeen_104 ?_
          refine lv_topi (fun x_91 ex_91 => ?_)
          obtain rfl : x_91 = (nI (k + 1)) := ex_91.trans (nI_add k 1)
          refine lv_istore_n (lv' := [(3, .int (nI (k + 1))), (2, .int (nI k)), (1, .int (nI jf)), (0, .ref h0)]) hx hb dX15_isSeen_105 rfl hl (by decide) rfl (fun ls hl => ?_)
          refine W.widen (k := 0) (n := 0) (by omega) (by omega) ?_
          have hF_93 : F h0 = .inr (15, (.ref ta) :: (.int (nI zt)) :: (.int (nI zo_33)) :: (.int (nI ze)) :: (.ref ou) :: (.ref so) :: (.ref ad) :: (.ref na) :: (.ref va) :: (.ref lc) :: (.ref dm) :: (.int v11_34) :: (.int v12_35) :: (.ref tg) :: (.int v14_36) :: (.int v15_37) :: (.ref pe) :: (.int v17_38) :: (.int v18_39) :: (.int v19_40) :: (.int v20_41) :: (.int v21_42) :: (.int v22_43) :: (.ref ml) :: (.ref bg) :: (.ref co) :: (.ref sp) :: (.ref nb0) :: (.ref nb1) :: (.ref nb2) :: (.int (nI nf)) :: (.int (nI bd)) :: (.int (nI mm)) :: (.int v33_44) :: (.ref pl) :: (.ref se) :: (.ref ke) :: (.ref wi) :: (.ref hs) :: (.ref mo) :: (.ref po) :: (.ref nu) :: (.ref pr) :: (.ref sq) :: (.ref xa) :: (.ref sa) :: (.ref n64) :: (.ref m64) :: (.ref ex) :: (.ref wh) :: (.ref sd) :: (.ref tk) :: (.int v52_45) :: (.int v53_46) :: (.int v54_47) :: (.ref hd) :: (.ref ak) :: (.ref ho) :: (.ref ot) :: []) := (hR h0 (by rw [hT_h0]; simp)).symm.trans hF_88
          have hF_94 : F sp = .inl (cs 16, 21, .inl f_59) := (hR sp (by rw [ht_58]; simp)).symm.trans hF_89
          have hF_95 : F co = .inl (cs 16, 21, .inl f_73) := (hR co (by rw [ht_72]; simp)).symm.trans hF_90
          refine pl_loopm (σ := Nat × Nat) A (dC, dI) cs ty gm L [ρ + 28] F 106 4 (fun (i, zz) => [(3, .int (nI i)), (2, .int (nI k)), (1, .int (nI jf)), (0, .ref h0)]) (fun (i, zz) => []) (fun (i, zz) FF => (k + 1 ≤ i ∧ i ≤ max (k + 1) (gm 2 jf)) ∧ zz ≤ i - (k + 1) ∧ FF ak = .inr (14, [.ref rak, .int (nI zz)])) (fun (i, zz) => gm 2 jf - i) ?_ ((k + 1), 0) F_85 (⟨⟨by omega, by omega⟩, by omega, hF_87⟩) hO hR _ _ hP hD hS ls (lv_sub hl [0, 1, 2, 3] rfl)
          rintro ⟨i, zz⟩ F_92 hv_96 hO hR ih_97 H locs hP hD hS ls hl
          have hl : lv_has ls 4 [(3, .int (nI i)), (2, .int (nI k)), (1, .int (nI jf)), (0, .ref h0)] := hl
          have hv_96 : (k + 1 ≤ i ∧ i ≤ max (k + 1) (gm 2 jf)) ∧ zz ≤ i - (k + 1) ∧ F_92 ak = .inr (14, [.ref rak, .int (nI zz)]) := hv_96
          refine W.eq (g2 := F0 m 106 ls []) rfl ?_
          have hF_98 : F_92 h0 = .inr (15, (.ref ta) :: (.int (nI zt)) :: (.int (nI zo_33)) :: (.int (nI ze)) :: (.ref ou) :: (.ref so) :: (.ref ad) :: (.ref na) :: (.ref va) :: (.ref lc) :: (.ref dm) :: (.int v11_34) :: (.int v12_35) :: (.ref tg) :: (.int v14_36) :: (.int v15_37) :: (.ref pe) :: (.int v17_38) :: (.int v18_39) :: (.int v19_40) :: (.int v20_41) :: (.int v21_42) :: (.int v22_43) :: (.ref ml) :: (.ref bg) :: (.ref co) :: (.ref sp) :: (.ref nb0) :: (.ref nb1) :: (.ref nb2) :: (.int (nI nf)) :: (.int (nI bd)) :: (.int (nI mm)) :: (.int v33_44) :: (.ref pl) :: (.ref se) :: (.ref ke) :: (.ref wi) :: (.ref hs) :: (.ref mo) :: (.ref po) :: (.ref nu) :: (.ref pr) :: (.ref sq) :: (.ref xa) :: (.ref sa) :: (.ref n64) :: (.ref m64) :: (.ref ex) :: (.ref wh) :: (.ref sd) :: (.ref tk) :: (.int v52_45) :: (.int v53_46) :: (.int v54_47) :: (.ref hd) :: (.ref ak) :: (.ref ho) :: (.ref ot) :: []) := (hR h0 (by rw [hT_h0]; simp)).trans hF_93
          have hF_99 : F_92 sp = .inl (cs 16, 21, .inl f_59) := (hR sp (by rw [ht_58]; simp)).trans hF_94
          have hF_100 : F_92 co = .inl (cs 16, 21, .inl f_73) := (hR co (by rw [ht_72]; simp)).trans hF_95
          obtain ⟨hi1, hi2, hi3⟩ := hv_96
          refine lv_iload_n hx hb dX15_isSeen_106 rfl (lv_at hl 0 rfl) ?_
          refine lv_aload_n hx hb dX15_isSeen_107 rfl (lv_at hl 3 rfl) ?_
          refine pg_get (ci := 15) (v := .ref sp) (C := RX15) (T := TX15) (N := 59) hx hb hts it_15 hown hK hP hL_h0 hF_98 rfl 26 (by decide) (hts _ kt_905) (fun _ h9 => h9) rfl dX15_isSeen_108 ?_
          refine lv_iload_n hx hb dX15_isSeen_111 rfl (lv_at hl 2 rfl) ?_
          refine pg_iald hx hb hK hP hi_57 0 hF_99 rfl (vp_in_nI (by omega) (by omega)) dX15_isSeen_112 ?_
          refine lv_topi (fun x_101 ex_101 => ?_)
          obtain rfl : x_101 = (nI (gm 2 jf)) := ex_101.trans (by rw [show ((nI jf) : Int32) = nI jf from rfl, nI_clamp (by omega)]; exact hq_61 jf (by omega))
          have hgbx_101 := hgB 2 jf
          refine lv_icmp_ge (tgt := 172) hx hb dX15_isSeen_113 (by decide) (fun c_102 => ?_) (fun c_102 => ?_)
          ·
            have hi_103 : (gm 2 jf) ≤ i := leN (N := (gm 2 jf)) c_102
            refine lv_aload_n hx hb dX15_isSeen_172 rfl (lv_at hl 3 rfl) ?_
            refine pg_get (ci := 15) (v := .ref ak) (C := RX15) (T := TX15) (N := 59) hx hb hts it_15 hown hK hP hL_h0 hF_98 rfl 56 (by decide) (hts _ kt_1045) (fun _ h9 => h9) rfl dX15_isSeen_173 ?_
            have hFc := pg_free hD hS hA
            refine va_calli (va_runV (As := []) (rest := []) ⟨hx, hb, hml, hown, hts⟩ (s_X14_isName l dC dI cs ty gm L H.size F_92 ak (ρ + 28) rak 6000 zz hW hL_ak hT_ak hi3 (by first | omega | assumption)) ⟨callB_of 0 hts (gi kt_1046) rfl rfl rfl (hts _ kt_676) (hts _ kt_1047) (by decide +kernel) ⟨Nat.le_of_ble_eq_true rfl, Nat.le_of_ble_eq_true rfl⟩, (hts _ kt_1048), (hts _ kt_1049)⟩ ⟨fun a U g mk q => ⟨q.1, PTm.calling q.2⟩, pg_recv hK hP hL_ak hi3 (q := (RX14, TX14, 2)) rfl, fun U hU hWm => ⟨rfl, PTm.mk hU hWm hP hK hD hE hO⟩⟩ rfl rfl hl.1 rfl (lv_room (Nat.le_of_ble_eq_true rfl)) dX15_isSeen_176 ⟨by show _ + 0 ≤ 0; omega, by show _ + 0 ≤ 0; omega⟩) hS (fun q _ h => hFc q h) hFc (fun r_104 u t H1 locs ht hvm hw hB hz1 hk1 hS => ?_)
            obtain ⟨F_105, hB1⟩ := hB
            obtain rfl : F_92 = F_105 := (funext (fun a => hB1.2.2.2 a List.not_mem_nil)).symm
            obtain ⟨hP, hD, hO, hR⟩ := QTm.back hB1 ht hFc hR (fun q h => absurd h List.not_mem_nil)
            generalize H1 = H at hP hS ⊢
            have hw : (r_104 = 0 ∨ (r_104 = 1 ∧ 0 < zz ∧ zz ≤ 60)) := hw
            have hw_106 := hw
            refine W.widen (k := 0) (n := 0) (by omega) (by omega) ?_
            exact W.zret (v := r_104) (ty := .boolean) hx hb hr (bitN (bit3 hw_106)) (fun t ht hWm => ⟨⟨r_104, r_104, rfl, ⟨rfl, bit3 hw_106⟩, ⟨F_92, zz, QTm.mk ht hP hD hO hR, hi3, (fun h => (bit1 hw_106 (by rw [h]; decide)).2)⟩⟩, hS.F ht⟩) hS.2.2 dX15_isSeen_179
          ·
            have hi_107 : i < (gm 2 jf) := ltN (N := (gm 2 jf)) c_102
            refine lv_aload_n hx hb dX15_isSeen_116 rfl (lv_at hl 3 rfl) ?_
            refine pg_get (ci := 15) (v := .ref ml) (C := RX15) (T := TX15) (N := 59) hx hb hts it_15 hown hK hP hL_h0 hF_98 rfl 23 (by decide) (hts _ kt_902) (fun _ h9 => h9) rfl dX15_isSeen_117 ?_
            refine lv_iload_n hx hb dX15_isSeen_120 rfl (lv_at hl 0 rfl) ?_
            obtain ⟨hi_108, ht_109⟩ := hW.f_ml hL_h0 hT_h0
            obtain ⟨hq_110, hq_111⟩ := hW.octs hi_108 ht_109
            obtain ⟨f_112, hF_113, hq_114⟩ := hO.octs hi_108 ht_109
            refine pg_bald hx hb hK hP hi_108 1 hF_113 rfl (vp_in_nI (by omega) (by omega)) dX15_isSeen_121 ?_
            refine lv_topi (fun x_115 ex_115 => ?_)
            obtain rfl : x_115 = f_112 i := ex_115.trans (congrArg f_112 (show ((nI i) : Int32).toNatClampNeg = i from nI_clamp (by omega)))
            have hFc := pg_free hD hS hA
            refine va_calli (va_runS (As := [.int (f_112 i)]) (rest := []) ⟨hx, hb, hml, hown, hts⟩ (s_X15_isWhite l dC dI cs ty gm L H.size F_92 (f_112 i) hW ) ⟨callB_of 1 hts (gi kt_715) rfl rfl rfl (hts _ kt_669) (hts _ kt_716) (by decide +kernel) ⟨Nat.le_of_ble_eq_true rfl, Nat.le_of_ble_eq_true rfl⟩, (hts _ kt_717)⟩ ⟨fun a U g mk q => ⟨q.1, PTm.calling q.2⟩, fun U hU hWm => ⟨rfl, PTm.mk hU hWm hP hK hD hE hO⟩⟩ rfl rfl hl.1 rfl (lv_room (Nat.le_of_ble_eq_true rfl)) dX15_isSeen_122 ⟨by show _ + 0 ≤ 0; omega, by show _ + 0 ≤ 0; omega⟩) hS (fun q _ h => hFc q h) hFc (fun r_116 u t H1 locs ht hvm hw hB hz1 hk1 hS => ?_)
            obtain ⟨F_117, hB1⟩ := hB
            obtain rfl : F_92 = F_117 := (funext (fun a => hB1.2.2.2 a List.not_mem_nil)).symm
            obtain ⟨hP, hD, hO, hR⟩ := QTm.back hB1 ht hFc hR (fun q h => absurd h List.not_mem_nil)
            generalize H1 = H at hP hS ⊢
            have hw : (r_116 = 0 ∨ r_116 = 1) := hw
            have hw_118 := hw
            refine lv_if_ne (tgt := 172) hx hb dX15_isSeen_125 (by decide) (fun c_119 => ?_) (fun c_119 => ?_)
            ·
              refine lv_aload_n hx hb dX15_isSeen_172 rfl (lv_at hl 3 rfl) ?_
              refine pg_get (ci := 15) (v := .ref ak) (C := RX15) (T := TX15) (N := 59) hx hb hts it_15 hown hK hP hL_h0 hF_98 rfl 56 (by decide) (hts _ kt_1045) (fun _ h9 => h9) rfl dX15_isSeen_173 ?_
              have hFc := pg_free hD hS hA
              refine va_calli (va_runV (As := []) (rest := []) ⟨hx, hb, hml, hown, hts⟩ (s_X14_isName l dC dI cs ty gm L H.size F_92 ak (ρ + 28) rak 6000 zz hW hL_ak hT_ak hi3 (by first | omega | assumption)) ⟨callB_of 0 hts (gi kt_1046) rfl rfl rfl (hts _ kt_676) (hts _ kt_1047) (by decide +kernel) ⟨Nat.le_of_ble_eq_true rfl, Nat.le_of_ble_eq_true rfl⟩, (hts _ kt_1048), (hts _ kt_1049)⟩ ⟨fun a U g mk q => ⟨q.1, PTm.calling q.2⟩, pg_recv hK hP hL_ak hi3 (q := (RX14, TX14, 2)) rfl, fun U hU hWm => ⟨rfl, PTm.mk hU hWm hP hK hD hE hO⟩⟩ rfl rfl hl.1 rfl (lv_room (Nat.le_of_ble_eq_true rfl)) dX15_isSeen_176 ⟨by show _ + 0 ≤ 0; omega, by show _ + 0 ≤ 0; omega⟩) hS (fun q _ h => hFc q h) hFc (fun r_120 u t H1 locs ht hvm hw hB hz1 hk1 hS => ?_)
              obtain ⟨F_121, hB1⟩ := hB
              obtain rfl : F_92 = F_121 := (funext (fun a => hB1.2.2.2 a List.not_mem_nil)).symm
              obtain ⟨hP, hD, hO, hR⟩ := QTm.back hB1 ht hFc hR (fun q h => absurd h List.not_mem_nil)
              generalize H1 = H at hP hS ⊢
              have hw : (r_120 = 0 ∨ (r_120 = 1 ∧ 0 < zz ∧ zz ≤ 60)) := hw
              have hw_122 := hw
              refine W.widen (k := 0) (n := 0) (by omega) (by omega) ?_
              exact W.zret (v := r_120) (ty := .boolean) hx hb hr (bitN (bit3 hw_122)) (fun t ht hWm => ⟨⟨r_120, r_120, rfl, ⟨rfl, bit3 hw_122⟩, ⟨F_92, zz, QTm.mk ht hP hD hO hR, hi3, (fun h => (bit1 hw_122 (by rw [h]; decide)).2)⟩⟩, hS.F ht⟩) hS.2.2 dX15_isSeen_179
            ·
              refine lv_aload_n hx hb dX15_isSeen_128 rfl (lv_at hl 3 rfl) ?_
              refine pg_get (ci := 15) (v := .ref ml) (C := RX15) (T := TX15) (N := 59) hx hb hts it_15 hown hK hP hL_h0 hF_98 rfl 23 (by decide) (hts _ kt_902) (fun _ h9 => h9) rfl dX15_isSeen_129 ?_
              refine lv_iload_n hx hb dX15_isSeen_132 rfl (lv_at hl 0 rfl) ?_
              refine pg_bald hx hb hK hP hi_108 1 hF_113 rfl (vp_in_nI (by omega) (by omega)) dX15_isSeen_133 ?_
              refine lv_topi (fun x_123 ex_123 => ?_)
              obtain rfl : x_123 = f_112 i := ex_123.trans (congrArg f_112 (show ((nI i) : Int32).toNatClampNeg = i from nI_clamp (by omega)))
              refine lv_bipush (v := 62) hx hb dX15_isSeen_134 (by decide) ?_
              refine lv_icmp_eq (tgt := 172) hx hb dX15_isSeen_136 (by decide) (fun c_124 => ?_) (fun c_124 => ?_)
              ·
                refine lv_aload_n hx hb dX15_isSeen_172 rfl (lv_at hl 3 rfl) ?_
                refine pg_get (ci := 15) (v := .ref ak) (C := RX15) (T := TX15) (N := 59) hx hb hts it_15 hown hK hP hL_h0 hF_98 rfl 56 (by decide) (hts _ kt_1045) (fun _ h9 => h9) rfl dX15_isSeen_173 ?_
                have hFc := pg_free hD hS hA
                refine va_calli (va_runV (As := []) (rest := []) ⟨hx, hb, hml, hown, hts⟩ (s_X14_isName l dC dI cs ty gm L H.size F_92 ak (ρ + 28) rak 6000 zz hW hL_ak hT_ak hi3 (by first | omega | assumption)) ⟨callB_of 0 hts (gi kt_1046) rfl rfl rfl (hts _ kt_676) (hts _ kt_1047) (by decide +kernel) ⟨Nat.le_of_ble_eq_true rfl, Nat.le_of_ble_eq_true rfl⟩, (hts _ kt_1048), (hts _ kt_1049)⟩ ⟨fun a U g mk q => ⟨q.1, PTm.calling q.2⟩, pg_recv hK hP hL_ak hi3 (q := (RX14, TX14, 2)) rfl, fun U hU hWm => ⟨rfl, PTm.mk hU hWm hP hK hD hE hO⟩⟩ rfl rfl hl.1 rfl (lv_room (Nat.le_of_ble_eq_true rfl)) dX15_isSeen_176 ⟨by show _ + 0 ≤ 0; omega, by show _ + 0 ≤ 0; omega⟩) hS (fun q _ h => hFc q h) hFc (fun r_125 u t H1 locs ht hvm hw hB hz1 hk1 hS => ?_)
                obtain ⟨F_126, hB1⟩ := hB
                obtain rfl : F_92 = F_126 := (funext (fun a => hB1.2.2.2 a List.not_mem_nil)).symm
                obtain ⟨hP, hD, hO, hR⟩ := QTm.back hB1 ht hFc hR (fun q h => absurd h List.not_mem_nil)
                generalize H1 = H at hP hS ⊢
                have hw : (r_125 = 0 ∨ (r_125 = 1 ∧ 0 < zz ∧ zz ≤ 60)) := hw
                have hw_127 := hw
                refine W.widen (k := 0) (n := 0) (by omega) (by omega) ?_
                exact W.zret (v := r_125) (ty := .boolean) hx hb hr (bitN (bit3 hw_127)) (fun t ht hWm => ⟨⟨r_125, r_125, rfl, ⟨rfl, bit3 hw_127⟩, ⟨F_92, zz, QTm.mk ht hP hD hO hR, hi3, (fun h => (bit1 hw_127 (by rw [h]; decide)).2)⟩⟩, hS.F ht⟩) hS.2.2 dX15_isSeen_179
              ·
                refine lv_aload_n hx hb dX15_isSeen_139 rfl (lv_at hl 3 rfl) ?_
                refine pg_get (ci := 15) (v := .ref ml) (C := RX15) (T := TX15) (N := 59) hx hb hts it_15 hown hK hP hL_h0 hF_98 rfl 23 (by decide) (hts _ kt_902) (fun _ h9 => h9) rfl dX15_isSeen_140 ?_
                refine lv_iload_n hx hb dX15_isSeen_143 rfl (lv_at hl 0 rfl) ?_
                refine pg_bald hx hb hK hP hi_108 1 hF_113 rfl (vp_in_nI (by omega) (by omega)) dX15_isSeen_144 ?_
                refine lv_topi (fun x_128 ex_128 => ?_)
                obtain rfl : x_128 = f_112 i := ex_128.trans (congrArg f_112 (show ((nI i) : Int32).toNatClampNeg = i from nI_clamp (by omega)))
                refine lv_bipush (v := 10) hx hb dX15_isSeen_145 (by decide) ?_
                refine lv_icmp_eq (tgt := 172) hx hb dX15_isSeen_147 (by decide) (fun c_129 => ?_) (fun c_129 => ?_)
                ·
                  refine lv_aload_n hx hb dX15_isSeen_172 rfl (lv_at hl 3 rfl) ?_
                  refine pg_get (ci := 15) (v := .ref ak) (C := RX15) (T := TX15) (N := 59) hx hb hts it_15 hown hK hP hL_h0 hF_98 rfl 56 (by decide) (hts _ kt_1045) (fun _ h9 => h9) rfl dX15_isSeen_173 ?_
                  have hFc := pg_free hD hS hA
                  refine va_calli (va_runV (As := []) (rest := []) ⟨hx, hb, hml, hown, hts⟩ (s_X14_isName l dC dI cs ty gm L H.size F_92 ak (ρ + 28) rak 6000 zz hW hL_ak hT_ak hi3 (by first | omega | assumption)) ⟨callB_of 0 hts (gi kt_1046) rfl rfl rfl (hts _ kt_676) (hts _ kt_1047) (by decide +kernel) ⟨Nat.le_of_ble_eq_true rfl, Nat.le_of_ble_eq_true rfl⟩, (hts _ kt_1048), (hts _ kt_1049)⟩ ⟨fun a U g mk q => ⟨q.1, PTm.calling q.2⟩, pg_recv hK hP hL_ak hi3 (q := (RX14, TX14, 2)) rfl, fun U hU hWm => ⟨rfl, PTm.mk hU hWm hP hK hD hE hO⟩⟩ rfl rfl hl.1 rfl (lv_room (Nat.le_of_ble_eq_true rfl)) dX15_isSeen_176 ⟨by show _ + 0 ≤ 0; omega, by show _ + 0 ≤ 0; omega⟩) hS (fun q _ h => hFc q h) hFc (fun r_130 u t H1 locs ht hvm hw hB hz1 hk1 hS => ?_)
                  obtain ⟨F_131, hB1⟩ := hB
                  obtain rfl : F_92 = F_131 := (funext (fun a => hB1.2.2.2 a List.not_mem_nil)).symm
                  obtain ⟨hP, hD, hO, hR⟩ := QTm.back hB1 ht hFc hR (fun q h => absurd h List.not_mem_nil)
                  generalize H1 = H at hP hS ⊢
                  have hw : (r_130 = 0 ∨ (r_130 = 1 ∧ 0 < zz ∧ zz ≤ 60)) := hw
                  have hw_132 := hw
                  refine W.widen (k := 0) (n := 0) (by omega) (by omega) ?_
                  exact W.zret (v := r_130) (ty := .boolean) hx hb hr (bitN (bit3 hw_132)) (fun t ht hWm => ⟨⟨r_130, r_130, rfl, ⟨rfl, bit3 hw_132⟩, ⟨F_92, zz, QTm.mk ht hP hD hO hR, hi3, (fun h => (bit1 hw_132 (by rw [h]; decide)).2)⟩⟩, hS.F ht⟩) hS.2.2 dX15_isSeen_179
                ·
                  refine lv_aload_n hx hb dX15_isSeen_150 rfl (lv_at hl 3 rfl) ?_
                  refine pg_get (ci := 15) (v := .ref ak) (C := RX15) (T := TX15) (N := 59) hx hb hts it_15 hown hK hP hL_h0 hF_98 rfl 56 (by decide) (hts _ kt_1045) (fun _ h9 => h9) rfl dX15_isSeen_151 ?_
                  refine lv_aload_n hx hb dX15_isSeen_154 rfl (lv_at hl 3 rfl) ?_
                  refine pg_get (ci := 15) (v := .ref ml) (C := RX15) (T := TX15) (N := 59) hx hb hts it_15 hown hK hP hL_h0 hF_98 rfl 23 (by decide) (hts _ kt_902) (fun _ h9 => h9) rfl dX15_isSeen_155 ?_
                  refine lv_iload_n hx hb dX15_isSeen_158 rfl (lv_at hl 0 rfl) ?_
                  refine pg_bald hx hb hK hP hi_108 1 hF_113 rfl (vp_in_nI (by omega) (by omega)) dX15_isSeen_159 ?_
                  refine lv_topi (fun x_133 ex_133 => ?_)
                  obtain rfl : x_133 = f_112 i := ex_133.trans (congrArg f_112 (show ((nI i) : Int32).toNatClampNeg = i from nI_clamp (by omega)))
                  have hFc := pg_free hD hS hA
                  refine va_calli (va_runS (As := [.int (f_112 i)]) (rest := [.ref ak]) ⟨hx, hb, hml, hown, hts⟩ (s_X15_small l dC dI cs ty gm L H.size F_92 (f_112 i) hW ) ⟨callB_of 1 hts (gi kt_697) rfl rfl rfl (hts _ kt_669) (hts _ kt_698) (by decide +kernel) ⟨Nat.le_of_ble_eq_true rfl, Nat.le_of_ble_eq_true rfl⟩, (hts _ kt_699)⟩ ⟨fun a U g mk q => ⟨q.1, PTm.calling q.2⟩, fun U hU hWm => ⟨rfl, PTm.mk hU hWm hP hK hD hE hO⟩⟩ rfl rfl hl.1 rfl (lv_room (Nat.le_of_ble_eq_true rfl)) dX15_isSeen_160 ⟨by show _ + 0 ≤ 0; omega, by show _ + 0 ≤ 0; omega⟩) hS (fun q _ h => hFc q h) hFc (fun r_134 u t H1 locs ht hvm hw hB hz1 hk1 hS => ?_)
                  obtain ⟨F_135, hB1⟩ := hB
                  obtain rfl : F_92 = F_135 := (funext (fun a => hB1.2.2.2 a List.not_mem_nil)).symm
                  obtain ⟨hP, hD, hO, hR⟩ := QTm.back hB1 ht hFc hR (fun q h => absurd h List.not_mem_nil)
                  generalize H1 = H at hP hS ⊢
                  have hw : True := hw
                  have hw_136 := hw
                  have hFc := pg_free hD hS hA
                  refine va_callv (va_runV (As := [.int r_134]) (rest := []) ⟨hx, hb, hml, hown, hts⟩ (s_X14_add l dC dI cs ty gm L H.size F_92 ak (ρ + 28) rak 6000 zz r_134 hW hL_ak hT_ak hi3 (by first | omega | assumption)) ⟨callB_of 1 hts (gi kt_711) rfl rfl rfl (hts _ kt_676) (hts _ kt_712) (by decide +kernel) ⟨Nat.le_of_ble_eq_true rfl, Nat.le_of_ble_eq_true rfl⟩, (hts _ kt_713), (hts _ kt_714)⟩ ⟨fun a U g mk q => ⟨q.1, PTm.calling q.2⟩, pg_recv hK hP hL_ak hi3 (q := (RX14, TX14, 2)) rfl, fun U hU hWm => ⟨rfl, PTm.mk hU hWm hP hK hD hE hO⟩⟩ rfl rfl hl.1 rfl (lv_room (Nat.le_of_ble_eq_true rfl)) dX15_isSeen_163 ⟨by show _ + 0 ≤ 0; omega, by show _ + 0 ≤ 0; omega⟩) hS (fun q _ h => hFc q h) hFc (fun u t H1 locs ht hvm hw hB hz1 hk1 hS => ?_)
                  obtain ⟨F_138, hB1, hq_139⟩ := hB
                  obtain ⟨hP, hD, hO, hR⟩ := QTm.back hB1 ht hFc hR (fun q h => by simp only [List.mem_cons, List.not_mem_nil, or_false] at h ⊢; omega)
                  have hF_140 : F_138 h0 = .inr (15, (.ref ta) :: (.int (nI zt)) :: (.int (nI zo_33)) :: (.int (nI ze)) :: (.ref ou) :: (.ref so) :: (.ref ad) :: (.ref na) :: (.ref va) :: (.ref lc) :: (.ref dm) :: (.int v11_34) :: (.int v12_35) :: (.ref tg) :: (.int v14_36) :: (.int v15_37) :: (.ref pe) :: (.int v17_38) :: (.int v18_39) :: (.int v19_40) :: (.int v20_41) :: (.int v21_42) :: (.int v22_43) :: (.ref ml) :: (.ref bg) :: (.ref co) :: (.ref sp) :: (.ref nb0) :: (.ref nb1) :: (.ref nb2) :: (.int (nI nf)) :: (.int (nI bd)) :: (.int (nI mm)) :: (.int v33_44) :: (.ref pl) :: (.ref se) :: (.ref ke) :: (.ref wi) :: (.ref hs) :: (.ref mo) :: (.ref po) :: (.ref nu) :: (.ref pr) :: (.ref sq) :: (.ref xa) :: (.ref sa) :: (.ref n64) :: (.ref m64) :: (.ref ex) :: (.ref wh) :: (.ref sd) :: (.ref tk) :: (.int v52_45) :: (.int v53_46) :: (.int v54_47) :: (.ref hd) :: (.ref ak) :: (.ref ho) :: (.ref ot) :: []) := (hB1.2.2.2 h0 (by rw [hT_h0]; simp)).trans hF_98
                  have hF_141 : F_138 sp = .inl (cs 16, 21, .inl f_59) := (hB1.2.2.2 sp (by rw [ht_58]; simp)).trans hF_99
                  have hF_142 : F_138 co = .inl (cs 16, 21, .inl f_73) := (hB1.2.2.2 co (by rw [ht_72]; simp)).trans hF_100
                  have hF_143 : F_138 ml = .inl (cs 17, 3000, .inl f_112) := (hB1.2.2.2 ml (by rw [ht_109]; simp)).trans hF_113
                  generalize H1 = H at hP hS ⊢
                  refine lv_iinc (v := (nI (i + 1))) (lv' := [(3, .int (nI (i + 1))), (2, .int (nI k)), (1, .int (nI jf)), (0, .ref h0)]) hx hb dX15_isSeen_166 hl (k := 0) rfl (nI_1 _) (by decide) rfl (fun ls hl => ?_)
                  refine lv_goto (tgt := 106) hx hb dX15_isSeen_169 (by decide) ?_
                  refine W.widen (k := 0) (n := 0) (by omega) (by omega) ?_
                  exact ih_97 ((i + 1), (zz + 1)) F_138 (⟨⟨by omega, by omega⟩, by omega, hq_139⟩) (by show gm 2 jf - (i + 1) < gm 2 jf - i; omega) hO hR _ _ hP hD hS ls (lv_sub hl [0, 1, 2, 3] rfl)
        ·
          have hi_144 : k = (gm 1 jf) := (nI_eq (a := k) (b := (gm 1 jf)) (by omega) (by omega)).mp c_80
          refine lv_iconst (v := 0) hx hb dX15_isSeen_92 (by decide) ?_
          refine W.widen (k := 0) (n := 0) (by omega) (by omega) ?_
          obtain ⟨z_145, hF_146, hq_147⟩ := hO.txt hL_ak hT_ak
          exact W.zret (v := 0) (ty := .boolean) hx hb hr (by decide) (fun t ht hWm => ⟨⟨0, 0, rfl, ⟨rfl, Or.inl rfl⟩, ⟨F_64, z_145, QTm.mk ht hP hD hO hR, hF_146, (fun h => absurd h (by decide))⟩⟩, hS.F ht⟩) hS.2.2 dX15_isSeen_93
      ·
        have hi_148 : (gm 1 jf) < k := Nat.not_le.mp (fun q => c_77 ((nI_leI (a := k) (b := (gm 1 jf)) (by omega) (by omega)).mpr q))
        refine lv_aload_n hx hb dX15_isSeen_65 rfl (lv_at hl 2 rfl) ?_
        refine pg_get (ci := 15) (v := .ref ml) (C := RX15) (T := TX15) (N := 59) hx hb hts it_15 hown hK hP hL_h0 hF_69 rfl 23 (by decide) (hts _ kt_902) (fun _ h9 => h9) rfl dX15_isSeen_66 ?_
        refine lv_iload_n hx hb dX15_isSeen_69 rfl (lv_at hl 0 rfl) ?_
        obtain ⟨hi_149, ht_150⟩ := hW.f_ml hL_h0 hT_h0
        obtain ⟨hq_151, hq_152⟩ := hW.octs hi_149 ht_150
        obtain ⟨f_153, hF_154, hq_155⟩ := hO.octs hi_149 ht_150
        refine pg_bald hx hb hK hP hi_149 1 hF_154 rfl (vp_in_nI (by omega) (by omega)) dX15_isSeen_70 ?_
        refine lv_topi (fun x_156 ex_156 => ?_)
        obtain rfl : x_156 = f_153 k := ex_156.trans (congrArg f_153 (show ((nI k) : Int32).toNatClampNeg = k from nI_clamp (by omega)))
        refine lv_bipush (v := 64) hx hb dX15_isSeen_71 (by decide) ?_
        refine lv_icmp_eq (tgt := 82) hx hb dX15_isSeen_73 (by decide) (fun c_157 => ?_) (fun c_157 => ?_)
        ·
          refine lv_iload_n hx hb dX15_isSeen_82 rfl (lv_at hl 0 rfl) ?_
          refine lv_aload_n hx hb dX15_isSeen_83 rfl (lv_at hl 2 rfl) ?_
          refine pg_get (ci := 15) (v := .ref co) (C := RX15) (T := TX15) (N := 59) hx hb hts it_15 hown hK hP hL_h0 hF_69 rfl 25 (by decide) (hts _ kt_904) (fun _ h9 => h9) rfl dX15_isSeen_84 ?_
          refine lv_iload_n hx hb dX15_isSeen_87 rfl (lv_at hl 1 rfl) ?_
          refine pg_iald hx hb hK hP hi_71 0 hF_74 rfl (vp_in_nI (by omega) (by omega)) dX15_isSeen_88 ?_
          refine lv_topi (fun x_158 ex_158 => ?_)
          obtain rfl : x_158 = (nI (gm 1 jf)) := ex_158.trans (by rw [show ((nI jf) : Int32) = nI jf from rfl, nI_clamp (by omega)]; exact hq_75 jf (by omega))
          have hgbx_158 := hgB 1 jf
          refine lv_icmp_ne (tgt := 94) hx hb dX15_isSeen_89 (by decide) (fun c_159 => ?_) (fun c_159 => ?_)
          ·
            have hi_160 : k ≠ (gm 1 jf) := fun q => c_159 (by rw [q])
            refine lv_aload_n hx hb dX15_isSeen_94 rfl (lv_at hl 2 rfl) ?_
            refine pg_get (ci := 15) (v := .ref ak) (C := RX15) (T := TX15) (N := 59) hx hb hts it_15 hown hK hP hL_h0 hF_69 rfl 56 (by decide) (hts _ kt_1045) (fun _ h9 => h9) rfl dX15_isSeen_95 ?_
            refine lv_iconst (v := 0) hx hb dX15_isSeen_98 (by decide) ?_
            obtain ⟨z_161, hF_162, hq_163⟩ := hO.txt hL_ak hT_ak
            refine pg_put (ci := 14) (v := .int 0) (ty := .int) (C := RX14) (T := TX14) (N := 2) hx hb hts it_14 tyX14 tyX14_ok nmX14 hown hK hP hD hS hL_ak hF_162 rfl 1 (by decide) (hts _ kt_709) (fun _ h9 => h9) rfl (by decide +kernel) (rfl) (rfl) (Nat.le_of_ble_eq_true rfl) dX15_isSeen_99 (fun H locs hP hD hS => ?_)
            obtain ⟨F_164, he_165, hP, hD, hO, hR⟩ : ∃ G, G = va_up F_64 ak (.inr (14, [.ref rak, .int 0])) ∧ va_P (dC, dI) vwCl (va_pl L G) H ∧ va_D A (va_pl L G) ∧ OKm cs ty gm L G ∧ FR ty [ρ + 28] F G := ⟨_, rfl, hP, hD, hO.up (shm.txt hT_ak ⟨0, rfl, (by first | omega | assumption | exact Or.inl rfl | exact Or.inr rfl)⟩), hR.up hT_ak (by simp)⟩
            have hF_166 : F_164 ak = .inr (14, [.ref rak, .int 0]) := by rw [he_165]; exact up_self
            have hF_167 : F_164 h0 = .inr (15, (.ref ta) :: (.int (nI zt)) :: (.int (nI zo_33)) :: (.int (nI ze)) :: (.ref ou) :: (.ref so) :: (.ref ad) :: (.ref na) :: (.ref va) :: (.ref lc) :: (.ref dm) :: (.int v11_34) :: (.int v12_35) :: (.ref tg) :: (.int v14_36) :: (.int v15_37) :: (.ref pe) :: (.int v17_38) :: (.int v18_39) :: (.int v19_40) :: (.int v20_41) :: (.int v21_42) :: (.int v22_43) :: (.ref ml) :: (.ref bg) :: (.ref co) :: (.ref sp) :: (.ref nb0) :: (.ref nb1) :: (.ref nb2) :: (.int (nI nf)) :: (.int (nI bd)) :: (.int (nI mm)) :: (.int v33_44) :: (.ref pl) :: (.ref se) :: (.ref ke) :: (.ref wi) :: (.ref hs) :: (.ref mo) :: (.ref po) :: (.ref nu) :: (.ref pr) :: (.ref sq) :: (.ref xa) :: (.ref sa) :: (.ref n64) :: (.ref m64) :: (.ref ex) :: (.ref wh) :: (.ref sd) :: (.ref tk) :: (.int v52_45) :: (.int v53_46) :: (.int v54_47) :: (.ref hd) :: (.ref ak) :: (.ref ho) :: (.ref ot) :: []) := by rw [he_165, up_ne (ne_ty hT_h0 hT_ak (by simp))]; exact hF_69
            have hF_168 : F_164 sp = .inl (cs 16, 21, .inl f_59) := by rw [he_165, up_ne (ne_ty ht_58 hT_ak (by simp))]; exact hF_70
            have hF_169 : F_164 co = .inl (cs 16, 21, .inl f_73) := by rw [he_165, up_ne (ne_ty ht_72 hT_ak (by simp))]; exact hF_74
            have hF_170 : F_164 ml = .inl (cs 17, 3000, .inl f_153) := by rw [he_165, up_ne (ne_ty ht_150 hT_ak (by simp))]; exact hF_154
            refine lv_iload_n hx hb dX15_isSeen_102 rfl (lv_at hl 0 rfl) ?_
            refine lv_iconst (v := 1) hx hb dX15_isSeen_103 (by decide) ?_
            refine lv_iadd hx hb dX15_isSeen_104 ?_
            refine lv_topi (fun x_171 ex_171 => ?_)
            obtain rfl : x_171 = (nI (k + 1)) := ex_171.trans (nI_add k 1)
            refine lv_istore_n (lv' := [(3, .int (nI (k + 1))), (2, .int (nI k)), (1, .int (nI jf)), (0, .ref h0)]) hx hb dX15_isSeen_105 rfl hl (by decide) rfl (fun ls hl => ?_)
            refine W.widen (k := 0) (n := 0) (by omega) (by omega) ?_
            have hF_173 : F h0 = .inr (15, (.ref ta) :: (.int (nI zt)) :: (.int (nI zo_33)) :: (.int (nI ze)) :: (.ref ou) :: (.ref so) :: (.ref ad) :: (.ref na) :: (.ref va) :: (.ref lc) :: (.ref dm) :: (.int v11_34) :: (.int v12_35) :: (.ref tg) :: (.int v14_36) :: (.int v15_37) :: (.ref pe) :: (.int v17_38) :: (.int v18_39) :: (.int v19_40) :: (.int v20_41) :: (.int v21_42) :: (.int v22_43) :: (.ref ml) :: (.ref bg) :: (.ref co) :: (.ref sp) :: (.ref nb0) :: (.ref nb1) :: (.ref nb2) :: (.int (nI nf)) :: (.int (nI bd)) :: (.int (nI mm)) :: (.int v33_44) :: (.ref pl) :: (.ref se) :: (.ref ke) :: (.ref wi) :: (.ref hs) :: (.ref mo) :: (.ref po) :: (.ref nu) :: (.ref pr) :: (.ref sq) :: (.ref xa) :: (.ref sa) :: (.ref n64) :: (.ref m64) :: (.ref ex) :: (.ref wh) :: (.ref sd) :: (.ref tk) :: (.int v52_45) :: (.int v53_46) :: (.int v54_47) :: (.ref hd) :: (.ref ak) :: (.ref ho) :: (.ref ot) :: []) := (hR h0 (by rw [hT_h0]; simp)).symm.trans hF_167
            have hF_174 : F sp = .inl (cs 16, 21, .inl f_59) := (hR sp (by rw [ht_58]; simp)).symm.trans hF_168
            have hF_175 : F co = .inl (cs 16, 21, .inl f_73) := (hR co (by rw [ht_72]; simp)).symm.trans hF_169
            have hF_176 : F ml = .inl (cs 17, 3000, .inl f_153) := (hR ml (by rw [ht_150]; simp)).symm.trans hF_170
            refine pl_loopm (σ := Nat × Nat) A (dC, dI) cs ty gm L [ρ + 28] F 106 4 (fun (i, zz) => [(3, .int (nI i)), (2, .int (nI k)), (1, .int (nI jf)), (0, .ref h0)]) (fun (i, zz) => []) (fun (i, zz) FF => (k + 1 ≤ i ∧ i ≤ max (k + 1) (gm 2 jf)) ∧ zz ≤ i - (k + 1) ∧ FF ak = .inr (14, [.ref rak, .int (nI zz)])) (fun (i, zz) => gm 2 jf - i) ?_ ((k + 1), 0) F_164 (⟨⟨by omega, by omega⟩, by omega, hF_166⟩) hO hR _ _ hP hD hS ls (lv_sub hl [0, 1, 2, 3] rfl)
            rintro ⟨i, zz⟩ F_172 hv_177 hO hR ih_178 H locs hP hD hS ls hl
            have hl : lv_has ls 4 [(3, .int (nI i)), (2, .int (nI k)), (1, .int (nI jf)), (0, .ref h0)] := hl
            have hv_177 : (k + 1 ≤ i ∧ i ≤ max (k + 1) (gm 2 jf)) ∧ zz ≤ i - (k + 1) ∧ F_172 ak = .inr (14, [.ref rak, .int (nI zz)]) := hv_177
            refine W.eq (g2 := F0 m 106 ls []) rfl ?_
            have hF_179 : F_172 h0 = .inr (15, (.ref ta) :: (.int (nI zt)) :: (.int (nI zo_33)) :: (.int (nI ze)) :: (.ref ou) :: (.ref so) :: (.ref ad) :: (.ref na) :: (.ref va) :: (.ref lc) :: (.ref dm) :: (.int v11_34) :: (.int v12_35) :: (.ref tg) :: (.int v14_36) :: (.int v15_37) :: (.ref pe) :: (.int v17_38) :: (.int v18_39) :: (.int v19_40) :: (.int v20_41) :: (.int v21_42) :: (.int v22_43) :: (.ref ml) :: (.ref bg) :: (.ref co) :: (.ref sp) :: (.ref nb0) :: (.ref nb1) :: (.ref nb2) :: (.int (nI nf)) :: (.int (nI bd)) :: (.int (nI mm)) :: (.int v33_44) :: (.ref pl) :: (.ref se) :: (.ref ke) :: (.ref wi) :: (.ref hs) :: (.ref mo) :: (.ref po) :: (.ref nu) :: (.ref pr) :: (.ref sq) :: (.ref xa) :: (.ref sa) :: (.ref n64) :: (.ref m64) :: (.ref ex) :: (.ref wh) :: (.ref sd) :: (.ref tk) :: (.int v52_45) :: (.int v53_46) :: (.int v54_47) :: (.ref hd) :: (.ref ak) :: (.ref ho) :: (.ref ot) :: []) := (hR h0 (by rw [hT_h0]; simp)).trans hF_173
            have hF_180 : F_172 sp = .inl (cs 16, 21, .inl f_59) := (hR sp (by rw [ht_58]; simp)).trans hF_174
            have hF_181 : F_172 co = .inl (cs 16, 21, .inl f_73) := (hR co (by rw [ht_72]; simp)).trans hF_175
            have hF_182 : F_172 ml = .inl (cs 17, 3000, .inl f_153) := (hR ml (by rw [ht_150]; simp)).trans hF_176
            obtain ⟨hi1, hi2, hi3⟩ := hv_177
            refine lv_iload_n hx hb dX15_isSeen_106 rfl (lv_at hl 0 rfl) ?_
            refine lv_aload_n hx hb dX15_isSeen_107 rfl (lv_at hl 3 rfl) ?_
            refine pg_get (ci := 15) (v := .ref sp) (C := RX15) (T := TX15) (N := 59) hx hb hts it_15 hown hK hP hL_h0 hF_179 rfl 26 (by decide) (hts _ kt_905) (fun _ h9 => h9) rfl dX15_isSeen_108 ?_
            refine lv_iload_n hx hb dX15_isSeen_111 rfl (lv_at hl 2 rfl) ?_
            refine pg_iald hx hb hK hP hi_57 0 hF_180 rfl (vp_in_nI (by omega) (by omega)) dX15_isSeen_112 ?_
            refine lv_topi (fun x_183 ex_183 => ?_)
            obtain rfl : x_183 = (nI (gm 2 jf)) := ex_183.trans (by rw [show ((nI jf) : Int32) = nI jf from rfl, nI_clamp (by omega)]; exact hq_61 jf (by omega))
            have hgbx_183 := hgB 2 jf
            refine lv_icmp_ge (tgt := 172) hx hb dX15_isSeen_113 (by decide) (fun c_184 => ?_) (fun c_184 => ?_)
            ·
              have hi_185 : (gm 2 jf) ≤ i := leN (N := (gm 2 jf)) c_184
              refine lv_aload_n hx hb dX15_isSeen_172 rfl (lv_at hl 3 rfl) ?_
              refine pg_get (ci := 15) (v := .ref ak) (C := RX15) (T := TX15) (N := 59) hx hb hts it_15 hown hK hP hL_h0 hF_179 rfl 56 (by decide) (hts _ kt_1045) (fun _ h9 => h9) rfl dX15_isSeen_173 ?_
              have hFc := pg_free hD hS hA
              refine va_calli (va_runV (As := []) (rest := []) ⟨hx, hb, hml, hown, hts⟩ (s_X14_isName l dC dI cs ty gm L H.size F_172 ak (ρ + 28) rak 6000 zz hW hL_ak hT_ak hi3 (by first | omega | assumption)) ⟨callB_of 0 hts (gi kt_1046) rfl rfl rfl (hts _ kt_676) (hts _ kt_1047) (by decide +kernel) ⟨Nat.le_of_ble_eq_true rfl, Nat.le_of_ble_eq_true rfl⟩, (hts _ kt_1048), (hts _ kt_1049)⟩ ⟨fun a U g mk q => ⟨q.1, PTm.calling q.2⟩, pg_recv hK hP hL_ak hi3 (q := (RX14, TX14, 2)) rfl, fun U hU hWm => ⟨rfl, PTm.mk hU hWm hP hK hD hE hO⟩⟩ rfl rfl hl.1 rfl (lv_room (Nat.le_of_ble_eq_true rfl)) dX15_isSeen_176 ⟨by show _ + 0 ≤ 0; omega, by show _ + 0 ≤ 0; omega⟩) hS (fun q _ h => hFc q h) hFc (fun r_186 u t H1 locs ht hvm hw hB hz1 hk1 hS => ?_)
              obtain ⟨F_187, hB1⟩ := hB
              obtain rfl : F_172 = F_187 := (funext (fun a => hB1.2.2.2 a List.not_mem_nil)).symm
              obtain ⟨hP, hD, hO, hR⟩ := QTm.back hB1 ht hFc hR (fun q h => absurd h List.not_mem_nil)
              generalize H1 = H at hP hS ⊢
              have hw : (r_186 = 0 ∨ (r_186 = 1 ∧ 0 < zz ∧ zz ≤ 60)) := hw
              have hw_188 := hw
              refine W.widen (k := 0) (n := 0) (by omega) (by omega) ?_
              exact W.zret (v := r_186) (ty := .boolean) hx hb hr (bitN (bit3 hw_188)) (fun t ht hWm => ⟨⟨r_186, r_186, rfl, ⟨rfl, bit3 hw_188⟩, ⟨F_172, zz, QTm.mk ht hP hD hO hR, hi3, (fun h => (bit1 hw_188 (by rw [h]; decide)).2)⟩⟩, hS.F ht⟩) hS.2.2 dX15_isSeen_179
            ·
              have hi_189 : i < (gm 2 jf) := ltN (N := (gm 2 jf)) c_184
              refine lv_aload_n hx hb dX15_isSeen_116 rfl (lv_at hl 3 rfl) ?_
              refine pg_get (ci := 15) (v := .ref ml) (C := RX15) (T := TX15) (N := 59) hx hb hts it_15 hown hK hP hL_h0 hF_179 rfl 23 (by decide) (hts _ kt_902) (fun _ h9 => h9) rfl dX15_isSeen_117 ?_
              refine lv_iload_n hx hb dX15_isSeen_120 rfl (lv_at hl 0 rfl) ?_
              refine pg_bald hx hb hK hP hi_149 1 hF_182 rfl (vp_in_nI (by omega) (by omega)) dX15_isSeen_121 ?_
              refine lv_topi (fun x_190 ex_190 => ?_)
              obtain rfl : x_190 = f_153 i := ex_190.trans (congrArg f_153 (show ((nI i) : Int32).toNatClampNeg = i from nI_clamp (by omega)))
              have hFc := pg_free hD hS hA
              refine va_calli (va_runS (As := [.int (f_153 i)]) (rest := []) ⟨hx, hb, hml, hown, hts⟩ (s_X15_isWhite l dC dI cs ty gm L H.size F_172 (f_153 i) hW ) ⟨callB_of 1 hts (gi kt_715) rfl rfl rfl (hts _ kt_669) (hts _ kt_716) (by decide +kernel) ⟨Nat.le_of_ble_eq_true rfl, Nat.le_of_ble_eq_true rfl⟩, (hts _ kt_717)⟩ ⟨fun a U g mk q => ⟨q.1, PTm.calling q.2⟩, fun U hU hWm => ⟨rfl, PTm.mk hU hWm hP hK hD hE hO⟩⟩ rfl rfl hl.1 rfl (lv_room (Nat.le_of_ble_eq_true rfl)) dX15_isSeen_122 ⟨by show _ + 0 ≤ 0; omega, by show _ + 0 ≤ 0; omega⟩) hS (fun q _ h => hFc q h) hFc (fun r_191 u t H1 locs ht hvm hw hB hz1 hk1 hS => ?_)
              obtain ⟨F_192, hB1⟩ := hB
              obtain rfl : F_172 = F_192 := (funext (fun a => hB1.2.2.2 a List.not_mem_nil)).symm
              obtain ⟨hP, hD, hO, hR⟩ := QTm.back hB1 ht hFc hR (fun q h => absurd h List.not_mem_nil)
              generalize H1 = H at hP hS ⊢
              have hw : (r_191 = 0 ∨ r_191 = 1) := hw
              have hw_193 := hw
              refine lv_if_ne (tgt := 172) hx hb dX15_isSeen_125 (by decide) (fun c_194 => ?_) (fun c_194 => ?_)
              ·
                refine lv_aload_n hx hb dX15_isSeen_172 rfl (lv_at hl 3 rfl) ?_
                refine pg_get (ci := 15) (v := .ref ak) (C := RX15) (T := TX15) (N := 59) hx hb hts it_15 hown hK hP hL_h0 hF_179 rfl 56 (by decide) (hts _ kt_1045) (fun _ h9 => h9) rfl dX15_isSeen_173 ?_
                have hFc := pg_free hD hS hA
                refine va_calli (va_runV (As := []) (rest := []) ⟨hx, hb, hml, hown, hts⟩ (s_X14_isName l dC dI cs ty gm L H.size F_172 ak (ρ + 28) rak 6000 zz hW hL_ak hT_ak hi3 (by first | omega | assumption)) ⟨callB_of 0 hts (gi kt_1046) rfl rfl rfl (hts _ kt_676) (hts _ kt_1047) (by decide +kernel) ⟨Nat.le_of_ble_eq_true rfl, Nat.le_of_ble_eq_true rfl⟩, (hts _ kt_1048), (hts _ kt_1049)⟩ ⟨fun a U g mk q => ⟨q.1, PTm.calling q.2⟩, pg_recv hK hP hL_ak hi3 (q := (RX14, TX14, 2)) rfl, fun U hU hWm => ⟨rfl, PTm.mk hU hWm hP hK hD hE hO⟩⟩ rfl rfl hl.1 rfl (lv_room (Nat.le_of_ble_eq_true rfl)) dX15_isSeen_176 ⟨by show _ + 0 ≤ 0; omega, by show _ + 0 ≤ 0; omega⟩) hS (fun q _ h => hFc q h) hFc (fun r_195 u t H1 locs ht hvm hw hB hz1 hk1 hS => ?_)
                obtain ⟨F_196, hB1⟩ := hB
                obtain rfl : F_172 = F_196 := (funext (fun a => hB1.2.2.2 a List.not_mem_nil)).symm
                obtain ⟨hP, hD, hO, hR⟩ := QTm.back hB1 ht hFc hR (fun q h => absurd h List.not_mem_nil)
                generalize H1 = H at hP hS ⊢
                have hw : (r_195 = 0 ∨ (r_195 = 1 ∧ 0 < zz ∧ zz ≤ 60)) := hw
                have hw_197 := hw
                refine W.widen (k := 0) (n := 0) (by omega) (by omega) ?_
                exact W.zret (v := r_195) (ty := .boolean) hx hb hr (bitN (bit3 hw_197)) (fun t ht hWm => ⟨⟨r_195, r_195, rfl, ⟨rfl, bit3 hw_197⟩, ⟨F_172, zz, QTm.mk ht hP hD hO hR, hi3, (fun h => (bit1 hw_197 (by rw [h]; decide)).2)⟩⟩, hS.F ht⟩) hS.2.2 dX15_isSeen_179
              ·
                refine lv_aload_n hx hb dX15_isSeen_128 rfl (lv_at hl 3 rfl) ?_
                refine pg_get (ci := 15) (v := .ref ml) (C := RX15) (T := TX15) (N := 59) hx hb hts it_15 hown hK hP hL_h0 hF_179 rfl 23 (by decide) (hts _ kt_902) (fun _ h9 => h9) rfl dX15_isSeen_129 ?_
                refine lv_iload_n hx hb dX15_isSeen_132 rfl (lv_at hl 0 rfl) ?_
                refine pg_bald hx hb hK hP hi_149 1 hF_182 rfl (vp_in_nI (by omega) (by omega)) dX15_isSeen_133 ?_
                refine lv_topi (fun x_198 ex_198 => ?_)
                obtain rfl : x_198 = f_153 i := ex_198.trans (congrArg f_153 (show ((nI i) : Int32).toNatClampNeg = i from nI_clamp (by omega)))
                refine lv_bipush (v := 62) hx hb dX15_isSeen_134 (by decide) ?_
                refine lv_icmp_eq (tgt := 172) hx hb dX15_isSeen_136 (by decide) (fun c_199 => ?_) (fun c_199 => ?_)
                ·
                  refine lv_aload_n hx hb dX15_isSeen_172 rfl (lv_at hl 3 rfl) ?_
                  refine pg_get (ci := 15) (v := .ref ak) (C := RX15) (T := TX15) (N := 59) hx hb hts it_15 hown hK hP hL_h0 hF_179 rfl 56 (by decide) (hts _ kt_1045) (fun _ h9 => h9) rfl dX15_isSeen_173 ?_
                  have hFc := pg_free hD hS hA
                  refine va_calli (va_runV (As := []) (rest := []) ⟨hx, hb, hml, hown, hts⟩ (s_X14_isName l dC dI cs ty gm L H.size F_172 ak (ρ + 28) rak 6000 zz hW hL_ak hT_ak hi3 (by first | omega | assumption)) ⟨callB_of 0 hts (gi kt_1046) rfl rfl rfl (hts _ kt_676) (hts _ kt_1047) (by decide +kernel) ⟨Nat.le_of_ble_eq_true rfl, Nat.le_of_ble_eq_true rfl⟩, (hts _ kt_1048), (hts _ kt_1049)⟩ ⟨fun a U g mk q => ⟨q.1, PTm.calling q.2⟩, pg_recv hK hP hL_ak hi3 (q := (RX14, TX14, 2)) rfl, fun U hU hWm => ⟨rfl, PTm.mk hU hWm hP hK hD hE hO⟩⟩ rfl rfl hl.1 rfl (lv_room (Nat.le_of_ble_eq_true rfl)) dX15_isSeen_176 ⟨by show _ + 0 ≤ 0; omega, by show _ + 0 ≤ 0; omega⟩) hS (fun q _ h => hFc q h) hFc (fun r_200 u t H1 locs ht hvm hw hB hz1 hk1 hS => ?_)
                  obtain ⟨F_201, hB1⟩ := hB
                  obtain rfl : F_172 = F_201 := (funext (fun a => hB1.2.2.2 a List.not_mem_nil)).symm
                  obtain ⟨hP, hD, hO, hR⟩ := QTm.back hB1 ht hFc hR (fun q h => absurd h List.not_mem_nil)
                  generalize H1 = H at hP hS ⊢
                  have hw : (r_200 = 0 ∨ (r_200 = 1 ∧ 0 < zz ∧ zz ≤ 60)) := hw
                  have hw_202 := hw
                  refine W.widen (k := 0) (n := 0) (by omega) (by omega) ?_
                  exact W.zret (v := r_200) (ty := .boolean) hx hb hr (bitN (bit3 hw_202)) (fun t ht hWm => ⟨⟨r_200, r_200, rfl, ⟨rfl, bit3 hw_202⟩, ⟨F_172, zz, QTm.mk ht hP hD hO hR, hi3, (fun h => (bit1 hw_202 (by rw [h]; decide)).2)⟩⟩, hS.F ht⟩) hS.2.2 dX15_isSeen_179
                ·
                  refine lv_aload_n hx hb dX15_isSeen_139 rfl (lv_at hl 3 rfl) ?_
                  refine pg_get (ci := 15) (v := .ref ml) (C := RX15) (T := TX15) (N := 59) hx hb hts it_15 hown hK hP hL_h0 hF_179 rfl 23 (by decide) (hts _ kt_902) (fun _ h9 => h9) rfl dX15_isSeen_140 ?_
                  refine lv_iload_n hx hb dX15_isSeen_143 rfl (lv_at hl 0 rfl) ?_
                  refine pg_bald hx hb hK hP hi_149 1 hF_182 rfl (vp_in_nI (by omega) (by omega)) dX15_isSeen_144 ?_
                  refine lv_topi (fun x_203 ex_203 => ?_)
                  obtain rfl : x_203 = f_153 i := ex_203.trans (congrArg f_153 (show ((nI i) : Int32).toNatClampNeg = i from nI_clamp (by omega)))
                  refine lv_bipush (v := 10) hx hb dX15_isSeen_145 (by decide) ?_
                  refine lv_icmp_eq (tgt := 172) hx hb dX15_isSeen_147 (by decide) (fun c_204 => ?_) (fun c_204 => ?_)
                  ·
                    refine lv_aload_n hx hb dX15_isSeen_172 rfl (lv_at hl 3 rfl) ?_
                    refine pg_get (ci := 15) (v := .ref ak) (C := RX15) (T := TX15) (N := 59) hx hb hts it_15 hown hK hP hL_h0 hF_179 rfl 56 (by decide) (hts _ kt_1045) (fun _ h9 => h9) rfl dX15_isSeen_173 ?_
                    have hFc := pg_free hD hS hA
                    refine va_calli (va_runV (As := []) (rest := []) ⟨hx, hb, hml, hown, hts⟩ (s_X14_isName l dC dI cs ty gm L H.size F_172 ak (ρ + 28) rak 6000 zz hW hL_ak hT_ak hi3 (by first | omega | assumption)) ⟨callB_of 0 hts (gi kt_1046) rfl rfl rfl (hts _ kt_676) (hts _ kt_1047) (by decide +kernel) ⟨Nat.le_of_ble_eq_true rfl, Nat.le_of_ble_eq_true rfl⟩, (hts _ kt_1048), (hts _ kt_1049)⟩ ⟨fun a U g mk q => ⟨q.1, PTm.calling q.2⟩, pg_recv hK hP hL_ak hi3 (q := (RX14, TX14, 2)) rfl, fun U hU hWm => ⟨rfl, PTm.mk hU hWm hP hK hD hE hO⟩⟩ rfl rfl hl.1 rfl (lv_room (Nat.le_of_ble_eq_true rfl)) dX15_isSeen_176 ⟨by show _ + 0 ≤ 0; omega, by show _ + 0 ≤ 0; omega⟩) hS (fun q _ h => hFc q h) hFc (fun r_205 u t H1 locs ht hvm hw hB hz1 hk1 hS => ?_)
                    obtain ⟨F_206, hB1⟩ := hB
                    obtain rfl : F_172 = F_206 := (funext (fun a => hB1.2.2.2 a List.not_mem_nil)).symm
                    obtain ⟨hP, hD, hO, hR⟩ := QTm.back hB1 ht hFc hR (fun q h => absurd h List.not_mem_nil)
                    generalize H1 = H at hP hS ⊢
                    have hw : (r_205 = 0 ∨ (r_205 = 1 ∧ 0 < zz ∧ zz ≤ 60)) := hw
                    have hw_207 := hw
                    refine W.widen (k := 0) (n := 0) (by omega) (by omega) ?_
                    exact W.zret (v := r_205) (ty := .boolean) hx hb hr (bitN (bit3 hw_207)) (fun t ht hWm => ⟨⟨r_205, r_205, rfl, ⟨rfl, bit3 hw_207⟩, ⟨F_172, zz, QTm.mk ht hP hD hO hR, hi3, (fun h => (bit1 hw_207 (by rw [h]; decide)).2)⟩⟩, hS.F ht⟩) hS.2.2 dX15_isSeen_179
                  ·
                    refine lv_aload_n hx hb dX15_isSeen_150 rfl (lv_at hl 3 rfl) ?_
                    refine pg_get (ci := 15) (v := .ref ak) (C := RX15) (T := TX15) (N := 59) hx hb hts it_15 hown hK hP hL_h0 hF_179 rfl 56 (by decide) (hts _ kt_1045) (fun _ h9 => h9) rfl dX15_isSeen_151 ?_
                    refine lv_aload_n hx hb dX15_isSeen_154 rfl (lv_at hl 3 rfl) ?_
                    refine pg_get (ci := 15) (v := .ref ml) (C := RX15) (T := TX15) (N := 59) hx hb hts it_15 hown hK hP hL_h0 hF_179 rfl 23 (by decide) (hts _ kt_902) (fun _ h9 => h9) rfl dX15_isSeen_155 ?_
                    refine lv_iload_n hx hb dX15_isSeen_158 rfl (lv_at hl 0 rfl) ?_
                    refine pg_bald hx hb hK hP hi_149 1 hF_182 rfl (vp_in_nI (by omega) (by omega)) dX15_isSeen_159 ?_
                    refine lv_topi (fun x_208 ex_208 => ?_)
                    obtain rfl : x_208 = f_153 i := ex_208.trans (congrArg f_153 (show ((nI i) : Int32).toNatClampNeg = i from nI_clamp (by omega)))
                    have hFc := pg_free hD hS hA
                    refine va_calli (va_runS (As := [.int (f_153 i)]) (rest := [.ref ak]) ⟨hx, hb, hml, hown, hts⟩ (s_X15_small l dC dI cs ty gm L H.size F_172 (f_153 i) hW ) ⟨callB_of 1 hts (gi kt_697) rfl rfl rfl (hts _ kt_669) (hts _ kt_698) (by decide +kernel) ⟨Nat.le_of_ble_eq_true rfl, Nat.le_of_ble_eq_true rfl⟩, (hts _ kt_699)⟩ ⟨fun a U g mk q => ⟨q.1, PTm.calling q.2⟩, fun U hU hWm => ⟨rfl, PTm.mk hU hWm hP hK hD hE hO⟩⟩ rfl rfl hl.1 rfl (lv_room (Nat.le_of_ble_eq_true rfl)) dX15_isSeen_160 ⟨by show _ + 0 ≤ 0; omega, by show _ + 0 ≤ 0; omega⟩) hS (fun q _ h => hFc q h) hFc (fun r_209 u t H1 locs ht hvm hw hB hz1 hk1 hS => ?_)
                    obtain ⟨F_210, hB1⟩ := hB
                    obtain rfl : F_172 = F_210 := (funext (fun a => hB1.2.2.2 a List.not_mem_nil)).symm
                    obtain ⟨hP, hD, hO, hR⟩ := QTm.back hB1 ht hFc hR (fun q h => absurd h List.not_mem_nil)
                    generalize H1 = H at hP hS ⊢
                    have hw : True := hw
                    have hw_211 := hw
                    have hFc := pg_free hD hS hA
                    refine va_callv (va_runV (As := [.int r_209]) (rest := []) ⟨hx, hb, hml, hown, hts⟩ (s_X14_add l dC dI cs ty gm L H.size F_172 ak (ρ + 28) rak 6000 zz r_209 hW hL_ak hT_ak hi3 (by first | omega | assumption)) ⟨callB_of 1 hts (gi kt_711) rfl rfl rfl (hts _ kt_676) (hts _ kt_712) (by decide +kernel) ⟨Nat.le_of_ble_eq_true rfl, Nat.le_of_ble_eq_true rfl⟩, (hts _ kt_713), (hts _ kt_714)⟩ ⟨fun a U g mk q => ⟨q.1, PTm.calling q.2⟩, pg_recv hK hP hL_ak hi3 (q := (RX14, TX14, 2)) rfl, fun U hU hWm => ⟨rfl, PTm.mk hU hWm hP hK hD hE hO⟩⟩ rfl rfl hl.1 rfl (lv_room (Nat.le_of_ble_eq_true rfl)) dX15_isSeen_163 ⟨by show _ + 0 ≤ 0; omega, by show _ + 0 ≤ 0; omega⟩) hS (fun q _ h => hFc q h) hFc (fun u t H1 locs ht hvm hw hB hz1 hk1 hS => ?_)
                    obtain ⟨F_213, hB1, hq_214⟩ := hB
                    obtain ⟨hP, hD, hO, hR⟩ := QTm.back hB1 ht hFc hR (fun q h => by simp only [List.mem_cons, List.not_mem_nil, or_false] at h ⊢; omega)
                    have hF_215 : F_213 h0 = .inr (15, (.ref ta) :: (.int (nI zt)) :: (.int (nI zo_33)) :: (.int (nI ze)) :: (.ref ou) :: (.ref so) :: (.ref ad) :: (.ref na) :: (.ref va) :: (.ref lc) :: (.ref dm) :: (.int v11_34) :: (.int v12_35) :: (.ref tg) :: (.int v14_36) :: (.int v15_37) :: (.ref pe) :: (.int v17_38) :: (.int v18_39) :: (.int v19_40) :: (.int v20_41) :: (.int v21_42) :: (.int v22_43) :: (.ref ml) :: (.ref bg) :: (.ref co) :: (.ref sp) :: (.ref nb0) :: (.ref nb1) :: (.ref nb2) :: (.int (nI nf)) :: (.int (nI bd)) :: (.int (nI mm)) :: (.int v33_44) :: (.ref pl) :: (.ref se) :: (.ref ke) :: (.ref wi) :: (.ref hs) :: (.ref mo) :: (.ref po) :: (.ref nu) :: (.ref pr) :: (.ref sq) :: (.ref xa) :: (.ref sa) :: (.ref n64) :: (.ref m64) :: (.ref ex) :: (.ref wh) :: (.ref sd) :: (.ref tk) :: (.int v52_45) :: (.int v53_46) :: (.int v54_47) :: (.ref hd) :: (.ref ak) :: (.ref ho) :: (.ref ot) :: []) := (hB1.2.2.2 h0 (by rw [hT_h0]; simp)).trans hF_179
                    have hF_216 : F_213 sp = .inl (cs 16, 21, .inl f_59) := (hB1.2.2.2 sp (by rw [ht_58]; simp)).trans hF_180
                    have hF_217 : F_213 co = .inl (cs 16, 21, .inl f_73) := (hB1.2.2.2 co (by rw [ht_72]; simp)).trans hF_181
                    have hF_218 : F_213 ml = .inl (cs 17, 3000, .inl f_153) := (hB1.2.2.2 ml (by rw [ht_150]; simp)).trans hF_182
                    generalize H1 = H at hP hS ⊢
                    refine lv_iinc (v := (nI (i + 1))) (lv' := [(3, .int (nI (i + 1))), (2, .int (nI k)), (1, .int (nI jf)), (0, .ref h0)]) hx hb dX15_isSeen_166 hl (k := 0) rfl (nI_1 _) (by decide) rfl (fun ls hl => ?_)
                    refine lv_goto (tgt := 106) hx hb dX15_isSeen_169 (by decide) ?_
                    refine W.widen (k := 0) (n := 0) (by omega) (by omega) ?_
                    exact ih_178 ((i + 1), (zz + 1)) F_213 (⟨⟨by omega, by omega⟩, by omega, hq_214⟩) (by show gm 2 jf - (i + 1) < gm 2 jf - i; omega) hO hR _ _ hP hD hS ls (lv_sub hl [0, 1, 2, 3] rfl)
          ·
            have hi_219 : k = (gm 1 jf) := (nI_eq (a := k) (b := (gm 1 jf)) (by omega) (by omega)).mp c_159
            refine lv_iconst (v := 0) hx hb dX15_isSeen_92 (by decide) ?_
            refine W.widen (k := 0) (n := 0) (by omega) (by omega) ?_
            obtain ⟨z_220, hF_221, hq_222⟩ := hO.txt hL_ak hT_ak
            exact W.zret (v := 0) (ty := .boolean) hx hb hr (by decide) (fun t ht hWm => ⟨⟨0, 0, rfl, ⟨rfl, Or.inl rfl⟩, ⟨F_64, z_220, QTm.mk ht hP hD hO hR, hF_221, (fun h => absurd h (by decide))⟩⟩, hS.F ht⟩) hS.2.2 dX15_isSeen_93
        ·
          refine lv_iinc (v := (nI (k - 1))) (lv' := [(2, .int (nI (k - 1))), (1, .int (nI jf)), (0, .ref h0)]) hx hb dX15_isSeen_76 hl (k := 0) rfl (m1N (by omega)) (by decide) rfl (fun ls hl => ?_)
          refine lv_goto (tgt := 55) hx hb dX15_isSeen_79 (by decide) ?_
          refine W.widen (k := 0) (n := 0) (by omega) (by omega) ?_
          exact ih_68 (k - 1) F_64 (⟨by omega, by omega⟩) (by show (k - 1) < k; omega) hO hR _ _ hP hD hS ls (lv_sub hl [0, 1, 2] rfl)
    ·
      refine lv_iconst (v := 0) hx hb dX15_isSeen_44 (by decide) ?_
      refine W.widen (k := 0) (n := 0) (by omega) (by omega) ?_
      obtain ⟨z_223, hF_224, hq_225⟩ := hO.txt hL_ak hT_ak
      exact W.zret (v := 0) (ty := .boolean) hx hb hr (by decide) (fun t ht hWm => ⟨⟨0, 0, rfl, ⟨rfl, Or.inl rfl⟩, ⟨F_30, z_223, QTm.mk ht hP hD hO hR, hF_224, (fun h => absurd h (by decide))⟩⟩, hS.F ht⟩) hS.2.2 dX15_isSeen_45
  ·
    have hi_226 : j < nf := ltN (N := nf) c_54
    refine lv_aload_n hx hb dX15_isSeen_12 rfl (lv_at hl 2 rfl) ?_
    refine lv_iload_n hx hb dX15_isSeen_13 rfl (lv_at hl 0 rfl) ?_
    obtain ⟨q_227, v_228, hr_q_227, hX_q_227⟩ := hG.2.2 ("PostGateModel", 488, "from", [102, 114, 111, 109]) (by decide +kernel)
    have hX_q_227 : SXc q_227 v_228 4 (cct [102, 114, 111, 109]) A s s.heap := hX_q_227
    obtain ⟨xo_q_227, xc_q_227, xv_q_227, xt_q_227, xn_q_227⟩ := id hX_q_227
    have hr_q_227 : vk_R "PostGateModel" 488 "from" q_227 s := hr_q_227
    refine va_ldcwS hx hb hown hr_q_227 dX15_isSeen_14 ?_
    have hFc := pg_free hD hS hA
    refine va_calli (va_runV (As := [.int (nI j), .ref q_227]) (rest := []) ⟨hx, hb, hml, hown, hts⟩ (s_X15_isNamed l dC dI cs ty gm L H.size F_30 h0 ρ ta ou so ad na va lc dm tg pe ml bg co sp nb0 nb1 nb2 pl se ke wi hs mo po nu pr sq xa sa n64 m64 ex wh sd tk hd ak ho ot sx s0 s1 s2 nf bd mm ze zt j q_227 v_228 4 (cct [102, 114, 111, 109]) hW hL_h0 hT_h0 (by first | omega | assumption)) ⟨callB_of 2 hts (gi kt_908) rfl rfl rfl (hts _ kt_669) (hts _ kt_909) (by decide +kernel) ⟨Nat.le_of_ble_eq_true rfl, Nat.le_of_ble_eq_true rfl⟩, (hts _ kt_910), (hts _ kt_911)⟩ ⟨fun a U g mk q => ⟨q.1, PTEm.calling q.2⟩, pg_recv hK hP hL_h0 hF_48 (q := (RX15, TX15, 59)) rfl, fun U hU hWm => ⟨rfl, PTEm.mk hU hWm hP hK hD hE hO hG (fun x hx => by rw [List.mem_singleton] at hx; subst hx; exact hX_q_227) hS hFc⟩⟩ rfl rfl hl.1 rfl (lv_room (Nat.le_of_ble_eq_true rfl)) dX15_isSeen_17 ⟨by show _ + 0 ≤ 0; omega, by show _ + 0 ≤ 0; omega⟩) hS (fun q _ h => hFc q h) hFc (fun r_229 u t H1 locs ht hvm hw hB hz1 hk1 hS => ?_)
    obtain ⟨F_230, hB1⟩ := hB
    obtain rfl : F_30 = F_230 := (funext (fun a => hB1.2.2.2 a List.not_mem_nil)).symm
    obtain ⟨hP, hD, hO, hR⟩ := QTm.back hB1 ht hFc hR (fun q h => absurd h List.not_mem_nil)
    generalize H1 = H at hP hS ⊢
    have hw : (r_229 = 0 ∨ r_229 = 1) := hw
    have hw_231 := hw
    refine lv_if_ne (tgt := 26) hx hb dX15_isSeen_20 (by decide) (fun c_232 => ?_) (fun c_232 => ?_)
    ·
      refine lv_iload_n hx hb dX15_isSeen_26 rfl (lv_at hl 1 rfl) ?_
      refine lv_if_lt (tgt := 32) hx hb dX15_isSeen_27 (by decide) (fun c_233 => ?_) (fun c_233 => ?_)
      ·
        refine lv_iload_n hx hb dX15_isSeen_32 rfl (lv_at hl 0 rfl) ?_
        refine lv_istore_n (lv' := [(1, .int (nI j)), (2, .int (nI j)), (0, .ref h0)]) hx hb dX15_isSeen_33 rfl hl (by decide) rfl (fun ls hl => ?_)
        refine lv_iinc (v := (nI (j + 1))) (lv' := [(2, .int (nI (j + 1))), (1, .int (nI j)), (0, .ref h0)]) hx hb dX15_isSeen_34 hl (k := 1) rfl (nI_1 _) (by decide) rfl (fun ls hl => ?_)
        refine lv_goto (tgt := 4) hx hb dX15_isSeen_37 (by decide) ?_
        refine W.widen (k := 0) (n := 0) (by omega) (by omega) ?_
        exact ih_32 ((j + 1), (nI j)) F_30 (⟨by omega, Or.inr ⟨j, by omega, rfl⟩⟩) (by show nf - (j + 1) < nf - j; omega) hO hR _ _ hP hD hS ls (lv_sub hl [0, 1, 2] rfl)
      ·
        refine lv_iconst (v := 0) hx hb dX15_isSeen_30 (by decide) ?_
        refine W.widen (k := 0) (n := 0) (by omega) (by omega) ?_
        obtain ⟨z_234, hF_235, hq_236⟩ := hO.txt hL_ak hT_ak
        exact W.zret (v := 0) (ty := .boolean) hx hb hr (by decide) (fun t ht hWm => ⟨⟨0, 0, rfl, ⟨rfl, Or.inl rfl⟩, ⟨F_30, z_234, QTm.mk ht hP hD hO hR, hF_235, (fun h => absurd h (by decide))⟩⟩, hS.F ht⟩) hS.2.2 dX15_isSeen_31
    ·
      refine lv_goto (tgt := 34) hx hb dX15_isSeen_23 (by decide) ?_
      refine lv_iinc (v := (nI (j + 1))) (lv' := [(2, .int (nI (j + 1))), (1, .int w1), (0, .ref h0)]) hx hb dX15_isSeen_34 hl (k := 0) rfl (nI_1 _) (by decide) rfl (fun ls hl => ?_)
      refine lv_goto (tgt := 4) hx hb dX15_isSeen_37 (by decide) ?_
      refine W.widen (k := 0) (n := 0) (by omega) (by omega) ?_
      exact ih_32 ((j + 1), w1) F_30 (⟨by omega, hv2⟩) (by show nf - (j + 1) < nf - j; omega) hO hR _ _ hP hD hS ls (lv_sub hl [0, 1, 2] rfl)
set_option maxHeartbeats 4000000 in
set_option maxRecDepth 100000 in
theorem s_X15_wish (l : Launch) (dC : Nat → ClassId) (dI : Nat → Nat → Nat) (cs : Nat → ClassId) (ty : TyM) (gm : Nat → Nat → Nat) (L : List Nat) (sz : Nat) (F : Nat → va_E) (h0 : Nat) (ρ : Nat) (ta : Nat) (ou : Nat) (so : Nat) (ad : Nat) (na : Nat) (va : Nat) (lc : Nat) (dm : Nat) (tg : Nat) (pe : Nat) (ml : Nat) (bg : Nat) (co : Nat) (sp : Nat) (nb0 : Nat) (nb1 : Nat) (nb2 : Nat) (pl : Nat) (se : Nat) (ke : Nat) (wi : Nat) (hs : Nat) (mo : Nat) (po : Nat) (nu : Nat) (pr : Nat) (sq : Nat) (xa : Nat) (sa : Nat) (n64 : Nat) (m64 : Nat) (ex : Nat) (wh : Nat) (sd : Nat) (tk : Nat) (hd : Nat) (ak : Nat) (ho : Nat) (ot : Nat) (sx : Nat) (s0 : Nat) (s1 : Nat) (s2 : Nat) (nf : Nat) (bd : Nat) (mm : Nat) (ze : Nat) (zt : Nat) (sb : Nat) (rl : Nat) (rp : Nat) (rak : Nat) (x1 : Int32) (hW : WTm ty gm L) (hL_h0 : h0 ∈ L) (hT_h0 : ty h0 = (15, ρ, [ta, ou, so, ad, na, va, lc, dm, tg, pe, ml, bg, co, sp, nb0, nb1, nb2, pl, se, ke, wi, hs, mo, po, nu, pr, sq, xa, sa, n64, m64, ex, wh, sd, tk, hd, ak, ho, ot, sx, s0, s1, s2, nf, bd, mm, ze, zt])) (hL_sx : sx ∈ L) (hT_sx : ty sx = (14, ρ + 12, [sb, 3000])) (hL_pl : pl ∈ L) (hT_pl : ty pl = (14, ρ + 10, [rl, 6000])) (hL_pe : pe ∈ L) (hT_pe : ty pe = (14, ρ + 7, [rp, 100])) (hL_ak : ak ∈ L) (hT_ak : ty ak = (14, ρ + 28, [rak, 6000])) : Met l yX15_wish (.code yX15_wish cX15_wish 6 (some .int) :: tb) ({ frames := 79, cells := 0, slots := 0, locals := 1787 }) (va_Pc [.ref h0, .int x1] (PTEm (dC, dI) cs ty gm L F sz [])) (va_Qi (fun (r : Int32) (_ : Unit) => True) (fun _ T9 => ∃ F2 : Nat → va_E, QTm (dC, dI) cs ty gm L [ρ, ρ + 6, ρ + 7, ρ + 10, ρ + 11, ρ + 12, ρ + 13, ρ + 14, ρ + 15, ρ + 16, ρ + 17, ρ + 18, ρ + 19, ρ + 20, ρ + 21, ρ + 22, ρ + 23, ρ + 24, ρ + 25, ρ + 26, ρ + 28, ρ + 29, ρ + 30] F F2 (va_A (va_pl L F) sz) T9) (va_A (va_pl L F) sz)) 0 0 (va_A (va_pl L F) sz) := by
  refine Met.ofW (cc := cX15_wish) (maxL := 6) (ret := (some .int)) (by decide) rfl ?_
  intro p e s m args below meth c s₁ B hml hv
  obtain ⟨rfl, ⟨hsz, hP, hK, hD0, hE, hO⟩, hG, hX⟩ := hv
  have hx := B.exec
  have hb := B.bytes
  have hr := B.returns
  have hts : ∀ w ∈ tb, w.before _ s = true := fun w h => atoms_spec (ws := .code yX15_wish cX15_wish 6 (some .int) :: tb) B.pre w (List.mem_cons_of_mem _ h)
  have hown : s.vm.findClass RX15 = some m.cls := findClass_of_methodNamed B.named
  have hlocks := B.notSynchronized
  subst hsz
  have hD := hD0.self (sz := s.heap.size)
  generalize hAe : va_A (va_pl L F) s.heap.size = A at hD hG hX ⊢
  have hA : ∀ q : Nat, s.heap.size ≤ q → A q := fun q h => by rw [← hAe]; exact Or.inr h
  have hS : va_S A s.heap s.heap [] := va_S.rf
  have hR : FR ty [ρ, ρ + 6, ρ + 7, ρ + 10, ρ + 11, ρ + 12, ρ + 13, ρ + 14, ρ + 15, ρ + 16, ρ + 17, ρ + 18, ρ + 19, ρ + 20, ρ + 21, ρ + 22, ρ + 23, ρ + 24, ρ + 25, ρ + 26, ρ + 28, ρ + 29, ρ + 30] F F := FR.refl
  have hl := lv_entry ([.ref h0, .int x1]) (n := 6) (Nat.le_of_ble_eq_true rfl)
  rw [lg_entry_eq]
  generalize (lg_sl ([.ref h0, .int x1]) ++ List.replicate (6 - (lg_sl ([.ref h0, .int x1])).length) Slot.unset).toArray = ls at hl ⊢
  have hl : lv_has ls 6 [(0, .ref h0), (1, .int x1)] := hl
  obtain ⟨hq_20, hq_21, hq_22, hq_23, hq_24, hgO, hgA, hgB⟩ := hW.sc hL_h0 hT_h0
  obtain ⟨hi_25, ht_26⟩ := hW.f_se hL_h0 hT_h0
  obtain ⟨_, hi_27, hi_28, hi_29, _, ht_30, ht_31, ht_32, hq_33, hq_34⟩ := hW.tags hi_25 ht_26
  obtain ⟨hi_35, ht_36, hq_37⟩ := hW.txt hL_sx hT_sx
  obtain ⟨hi_38, ht_39, hq_40⟩ := hW.txt hL_pl hT_pl
  obtain ⟨hi_41, ht_42, hq_43⟩ := hW.txt hL_pe hT_pe
  obtain ⟨hi_44, ht_45, hq_46⟩ := hW.txt hL_ak hT_ak
  obtain ⟨hi_47, r_18, ht_48⟩ := hW.f_ho hL_h0 hT_h0
  obtain ⟨hi_49, ht_50, hq_51⟩ := hW.txt hi_47 ht_48
  obtain ⟨hi_52, x_7, y0_8, y1_9, y2_10, ht_53⟩ := hW.f_wi hL_h0 hT_h0
  obtain ⟨hi_54, hi_55, hi_56, hi_57, ⟨r_58, ht_59⟩, ht_60, ht_61, ht_62, hq_63, hq_64⟩ := hW.tags hi_52 ht_53
  have ht_59 : ty x_7 = (14, ρ + 16, [r_58, 700]) := ht_59
  obtain ⟨hi_65, r_2, ht_66⟩ := hW.f_dm hL_h0 hT_h0
  obtain ⟨hi_67, ht_68, hq_69⟩ := hW.txt hi_65 ht_66
  obtain ⟨hi_70, r_17, ht_71⟩ := hW.f_sd hL_h0 hT_h0
  obtain ⟨hi_72, ht_73, hq_74⟩ := hW.txt hi_70 ht_71
  refine lv_aload_n hx hb dX15_wish_0 rfl (lv_at hl 0 rfl) ?_
  obtain ⟨zo_75, v11_76, v12_77, v14_78, v15_79, v17_80, v18_81, v19_82, v20_83, v21_84, v22_85, v33_86, v52_87, v53_88, v54_89, hF_90, hq_91, hq_92, hq_93, hq_94, hq_95⟩ := hO.mod hL_h0 hT_h0
  refine pg_get (ci := 15) (v := .int v12_77) (C := RX15) (T := TX15) (N := 59) hx hb hts it_15 hown hK hP hL_h0 hF_90 rfl 12 (by decide) (hts _ kt_1001) (fun _ h9 => h9) rfl dX15_wish_1 ?_
  refine lv_if_eq (tgt := 11) hx hb dX15_wish_4 (by decide) (fun c_96 => ?_) (fun c_96 => ?_)
  ·
    refine lv_iconst (v := (-1)) hx hb dX15_wish_11 (by decide) ?_
    refine W.widen (k := 0) (n := 0) (by omega) (by omega) ?_
    exact W.iret (v := (-1)) hx hb hr (fun t ht hWm => ⟨⟨(-1), (), rfl, trivial, ⟨F, QTm.mk ht hP hD hO hR⟩⟩, hS.F ht⟩) hS.2.2 dX15_wish_12
  ·
    refine lv_iload_n hx hb dX15_wish_7 rfl (lv_at hl 1 rfl) ?_
    refine lv_if_ge (tgt := 13) hx hb dX15_wish_8 (by decide) (fun c_97 => ?_) (fun c_97 => ?_)
    ·
      refine lv_aload_n hx hb dX15_wish_13 rfl (lv_at hl 0 rfl) ?_
      refine pg_get (ci := 15) (v := .int v33_86) (C := RX15) (T := TX15) (N := 59) hx hb hts it_15 hown hK hP hL_h0 hF_90 rfl 33 (by decide) (hts _ kt_906) (fun _ h9 => h9) rfl dX15_wish_14 ?_
      refine lv_if_ne (tgt := 23) hx hb dX15_wish_17 (by decide) (fun c_98 => ?_) (fun c_98 => ?_)
      ·
        refine lv_aload_n hx hb dX15_wish_23 rfl (lv_at hl 0 rfl) ?_
        have hFc := pg_free hD hS hA
        refine va_calli (va_runV (As := []) (rest := []) ⟨hx, hb, hml, hown, hts⟩ (s_X15_isSeen l dC dI cs ty gm L s.heap.size F h0 ρ ta ou so ad na va lc dm tg pe ml bg co sp nb0 nb1 nb2 pl se ke wi hs mo po nu pr sq xa sa n64 m64 ex wh sd tk hd ak ho ot sx s0 s1 s2 nf bd mm ze zt rak hW hL_h0 hT_h0 hL_ak hT_ak) ⟨callB_of 0 hts (gi kt_1050) rfl rfl rfl (hts _ kt_669) (hts _ kt_1051) (by decide +kernel) ⟨Nat.le_of_ble_eq_true rfl, Nat.le_of_ble_eq_true rfl⟩, (hts _ kt_1052), (hts _ kt_1053)⟩ ⟨fun a U g mk q => ⟨q.1, PTEm.calling q.2⟩, pg_recv hK hP hL_h0 hF_90 (q := (RX15, TX15, 59)) rfl, fun U hU hWm => ⟨rfl, PTEm.mk hU hWm hP hK hD hE hO hG (fun x hx => absurd hx List.not_mem_nil) hS hFc⟩⟩ rfl rfl hl.1 rfl (lv_room (Nat.le_of_ble_eq_true rfl)) dX15_wish_24 ⟨by show _ + 0 ≤ 0; omega, by show _ + 0 ≤ 0; omega⟩) hS (fun q _ h => hFc q h) hFc (fun r_100 wr_99 t H1 locs ht hvm hw hB hz1 hk1 hS => ?_)
        obtain ⟨F_101, za_102, hB1, hq_103, hq_104⟩ := hB
        obtain ⟨hP, hD, hO, hR⟩ := QTm.back hB1 ht hFc hR (fun q h => by simp only [List.mem_cons, List.not_mem_nil, or_false] at h ⊢; omega)
        have hF_105 : F_101 h0 = .inr (15, (.ref ta) :: (.int (nI zt)) :: (.int (nI zo_75)) :: (.int (nI ze)) :: (.ref ou) :: (.ref so) :: (.ref ad) :: (.ref na) :: (.ref va) :: (.ref lc) :: (.ref dm) :: (.int v11_76) :: (.int v12_77) :: (.ref tg) :: (.int v14_78) :: (.int v15_79) :: (.ref pe) :: (.int v17_80) :: (.int v18_81) :: (.int v19_82) :: (.int v20_83) :: (.int v21_84) :: (.int v22_85) :: (.ref ml) :: (.ref bg) :: (.ref co) :: (.ref sp) :: (.ref nb0) :: (.ref nb1) :: (.ref nb2) :: (.int (nI nf)) :: (.int (nI bd)) :: (.int (nI mm)) :: (.int v33_86) :: (.ref pl) :: (.ref se) :: (.ref ke) :: (.ref wi) :: (.ref hs) :: (.ref mo) :: (.ref po) :: (.ref nu) :: (.ref pr) :: (.ref sq) :: (.ref xa) :: (.ref sa) :: (.ref n64) :: (.ref m64) :: (.ref ex) :: (.ref wh) :: (.ref sd) :: (.ref tk) :: (.int v52_87) :: (.int v53_88) :: (.int v54_89) :: (.ref hd) :: (.ref ak) :: (.ref ho) :: (.ref ot) :: []) := (hB1.2.2.2 h0 (by rw [hT_h0]; simp)).trans hF_90
        generalize H1 = H at hP hS ⊢
        have hw : (r_100 = wr_99 ∧ (r_100 = 0 ∨ r_100 = 1)) := hw
        have hw_106 := hw
        refine lv_if_ne (tgt := 32) hx hb dX15_wish_27 (by decide) (fun c_107 => ?_) (fun c_107 => ?_)
        ·
          have hza := hq_104 (by have h9 := hw_106; rw [← h9.1]; exact h9.2.resolve_left c_107)
          refine lv_iconst (v := 1) hx hb dX15_wish_32 (by decide) ?_
          refine lv_istore_n (lv' := [(2, .int 1), (0, .ref h0), (1, .int x1)]) hx hb dX15_wish_33 rfl hl (by decide) rfl (fun ls hl => ?_)
          refine lv_aload_n hx hb dX15_wish_34 rfl (lv_at hl 1 rfl) ?_
          refine lv_aload_n hx hb dX15_wish_35 rfl (lv_at hl 1 rfl) ?_
          refine pg_get (ci := 15) (v := .ref ak) (C := RX15) (T := TX15) (N := 59) hx hb hts it_15 hown hK hP hL_h0 hF_105 rfl 56 (by decide) (hts _ kt_1045) (fun _ h9 => h9) rfl dX15_wish_36 ?_
          have hFc := pg_free hD hS hA
          refine va_calli (va_runV (As := [.ref ak]) (rest := []) ⟨hx, hb, hml, hown, hts⟩ (s_X15_wantedOf l dC dI cs ty gm L H.size F_101 h0 ρ ta ou so ad na va lc dm tg pe ml bg co sp nb0 nb1 nb2 pl se ke wi hs mo po nu pr sq xa sa n64 m64 ex wh sd tk hd ak ho ot sx s0 s1 s2 nf bd mm ze zt ak (ρ + 28) rak 6000 za_102 hW hL_h0 hT_h0 hL_ak hT_ak hq_103 (by first | omega | assumption) (by first | omega | assumption) (by first | omega | assumption)) ⟨callB_of 1 hts (gi kt_1054) rfl rfl rfl (hts _ kt_669) (hts _ kt_1055) (by decide +kernel) ⟨Nat.le_of_ble_eq_true rfl, Nat.le_of_ble_eq_true rfl⟩, (hts _ kt_1056), (hts _ kt_1057)⟩ ⟨fun a U g mk q => ⟨q.1, PTEm.calling q.2⟩, pg_recv hK hP hL_h0 hF_105 (q := (RX15, TX15, 59)) rfl, fun U hU hWm => ⟨rfl, PTEm.mk hU hWm hP hK hD hE hO hG (fun x hx => absurd hx List.not_mem_nil) hS hFc⟩⟩ rfl rfl hl.1 rfl (lv_room (Nat.le_of_ble_eq_true rfl)) dX15_wish_39 ⟨by show _ + 0 ≤ 0; omega, by show _ + 0 ≤ 0; omega⟩) hS (fun q _ h => hFc q h) hFc (fun r_108 u t H1 locs ht hvm hw hB hz1 hk1 hS => ?_)
          obtain ⟨F_109, hB1⟩ := hB
          obtain ⟨hP, hD, hO, hR⟩ := QTm.back hB1 ht hFc hR (fun q h => by simp only [List.mem_cons, List.not_mem_nil, or_false] at h ⊢; omega)
          have hF_110 : F_109 h0 = .inr (15, (.ref ta) :: (.int (nI zt)) :: (.int (nI zo_75)) :: (.int (nI ze)) :: (.ref ou) :: (.ref so) :: (.ref ad) :: (.ref na) :: (.ref va) :: (.ref lc) :: (.ref dm) :: (.int v11_76) :: (.int v12_77) :: (.ref tg) :: (.int v14_78) :: (.int v15_79) :: (.ref pe) :: (.int v17_80) :: (.int v18_81) :: (.int v19_82) :: (.int v20_83) :: (.int v21_84) :: (.int v22_85) :: (.ref ml) :: (.ref bg) :: (.ref co) :: (.ref sp) :: (.ref nb0) :: (.ref nb1) :: (.ref nb2) :: (.int (nI nf)) :: (.int (nI bd)) :: (.int (nI mm)) :: (.int v33_86) :: (.ref pl) :: (.ref se) :: (.ref ke) :: (.ref wi) :: (.ref hs) :: (.ref mo) :: (.ref po) :: (.ref nu) :: (.ref pr) :: (.ref sq) :: (.ref xa) :: (.ref sa) :: (.ref n64) :: (.ref m64) :: (.ref ex) :: (.ref wh) :: (.ref sd) :: (.ref tk) :: (.int v52_87) :: (.int v53_88) :: (.int v54_89) :: (.ref hd) :: (.ref ak) :: (.ref ho) :: (.ref ot) :: []) := (hB1.2.2.2 h0 (by rw [hT_h0]; simp)).trans hF_105
          have hF_111 : F_109 ak = .inr (14, [.ref rak, .int (nI za_102)]) := (hB1.2.2.2 ak (by rw [hT_ak]; simp)).trans hq_103
          generalize H1 = H at hP hS ⊢
          have hw : (r_108 = (-1) ∨ r_108 = (-2) ∨ ∃ j : Nat, j < 40 ∧ r_108 = nI j) := hw
          have hw_112 := hw
          refine lv_istore_n (lv' := [(3, .int r_108), (2, .int 1), (0, .ref h0), (1, .int x1)]) hx hb dX15_wish_42 rfl hl (by decide) rfl (fun ls hl => ?_)
          refine W.widen (k := 0) (n := 0) (by omega) (by omega) ?_
          refine pl_cutm (σ := Int32 × Int32) A (dC, dI) cs ty gm L [ρ, ρ + 6, ρ + 7, ρ + 10, ρ + 11, ρ + 12, ρ + 13, ρ + 14, ρ + 15, ρ + 16, ρ + 17, ρ + 18, ρ + 19, ρ + 20, ρ + 21, ρ + 22, ρ + 23, ρ + 24, ρ + 25, ρ + 26, ρ + 28, ρ + 29, ρ + 30] F 71 6 (fun (s3, sw2) => [(3, .int s3), (2, .int sw2), (0, .ref h0), (1, .int x1)]) (fun (s3, sw2) => []) (fun (s3, sw2) FF => (s3 = (-1) ∨ s3 = (-2) ∨ ∃ j : Nat, j < 40 ∧ s3 = nI j) ∧ FF ak = .inr (14, [.ref rak, .int (nI za_102)])) ?_ (fun jn_113 => ?_)
          ·
            rintro ⟨s3, sw2⟩ F_114 hv_115 hO hR H locs hP hD hS ls hl
            have hl : lv_has ls 6 [(3, .int s3), (2, .int sw2), (0, .ref h0), (1, .int x1)] := hl
            have hv_115 : (s3 = (-1) ∨ s3 = (-2) ∨ ∃ j : Nat, j < 40 ∧ s3 = nI j) ∧ F_114 ak = .inr (14, [.ref rak, .int (nI za_102)]) := hv_115
            refine W.eq (g2 := F0 m 71 ls []) rfl ?_
            obtain ⟨hs3, hak3⟩ := hv_115
            refine lv_iload_n hx hb dX15_wish_71 rfl (lv_at hl 0 rfl) ?_
            refine lv_if_ge (tgt := 87) hx hb dX15_wish_72 (by decide) (fun c_116 => ?_) (fun c_116 => ?_)
            ·
              obtain ⟨kv, hkv, ekv⟩ := rec0 hs3 c_116
              subst ekv
              refine lv_aload_n hx hb dX15_wish_87 rfl (lv_at hl 2 rfl) ?_
              obtain ⟨zo_117, v11_118, v12_119, v14_120, v15_121, v17_122, v18_123, v19_124, v20_125, v21_126, v22_127, v33_128, v52_129, v53_130, v54_131, hF_132, hq_133, hq_134, hq_135, hq_136, hq_137⟩ := hO.mod hL_h0 hT_h0
              refine pg_get (ci := 15) (v := .ref va) (C := RX15) (T := TX15) (N := 59) hx hb hts it_15 hown hK hP hL_h0 hF_132 rfl 8 (by decide) (hts _ kt_732) (fun _ h9 => h9) rfl dX15_wish_88 ?_
              refine lv_iload_n hx hb dX15_wish_91 rfl (lv_at hl 0 rfl) ?_
              obtain ⟨hi_138, ht_139⟩ := hW.f_va hL_h0 hT_h0
              obtain ⟨f_140, hF_141, hq_142⟩ := hO.rtxt hi_138 ht_139
              obtain ⟨b_143, r_144, hbf_145, hi_146, ht_147⟩ := hq_142 kv (by omega)
              refine pg_aald (r := b_143) hx hb hK hP hi_138 7 hF_141 rfl (vp_in_nI (by omega) (by omega)) (show f_140 ((nI kv) : Int32).toNatClampNeg = _ from by rw [show ((nI kv) : Int32) = nI kv from rfl, nI_clamp (by omega)]; exact hbf_145) dX15_wish_92 ?_
              obtain ⟨hi_148, ht_149, hq_150⟩ := hW.txt hi_146 ht_147
              obtain ⟨z_151, hF_152, hq_153⟩ := hO.txt hi_146 ht_147
              refine pg_get (ci := 14) (v := .ref r_144) (C := RX14) (T := TX14) (N := 2) hx hb hts it_14 hown hK hP hi_146 hF_152 rfl 0 (by decide) (hts _ kt_710) (fun _ h9 => h9) rfl dX15_wish_93 ?_
              refine lv_iconst (v := 0) hx hb dX15_wish_96 (by decide) ?_
              refine lv_aload_n hx hb dX15_wish_97 rfl (lv_at hl 2 rfl) ?_
              refine pg_get (ci := 15) (v := .ref va) (C := RX15) (T := TX15) (N := 59) hx hb hts it_15 hown hK hP hL_h0 hF_132 rfl 8 (by decide) (hts _ kt_732) (fun _ h9 => h9) rfl dX15_wish_98 ?_
              refine lv_iload_n hx hb dX15_wish_101 rfl (lv_at hl 0 rfl) ?_
              obtain ⟨b_154, r_155, hbf_156, hi_157, ht_158⟩ := hq_142 kv (by omega)
              refine pg_aald (r := b_154) hx hb hK hP hi_138 7 hF_141 rfl (vp_in_nI (by omega) (by omega)) (show f_140 ((nI kv) : Int32).toNatClampNeg = _ from by rw [show ((nI kv) : Int32) = nI kv from rfl, nI_clamp (by omega)]; exact hbf_156) dX15_wish_102 ?_
              obtain ⟨hi_159, ht_160, hq_161⟩ := hW.txt hi_157 ht_158
              obtain ⟨z_162, hF_163, hq_164⟩ := hO.txt hi_157 ht_158
              refine pg_get (ci := 14) (v := .int (nI z_162)) (C := RX14) (T := TX14) (N := 2) hx hb hts it_14 hown hK hP hi_157 hF_163 rfl 1 (by decide) (hts _ kt_709) (fun _ h9 => h9) rfl dX15_wish_103 ?_
              refine lv_aload_n hx hb dX15_wish_106 rfl (lv_at hl 2 rfl) ?_
              refine pg_get (ci := 15) (v := .ref wi) (C := RX15) (T := TX15) (N := 59) hx hb hts it_15 hown hK hP hL_h0 hF_132 rfl 37 (by decide) (hts _ kt_1058) (fun _ h9 => h9) rfl dX15_wish_107 ?_
              obtain ⟨z_165, hF_166, hq_167⟩ := hO.tags hi_52 ht_53
              refine pg_get (ci := 13) (v := .ref x_7) (C := RX13) (T := TX13) (N := 5) hx hb hts it_13 hown hK hP hi_52 hF_166 rfl 0 (by decide) (hts _ kt_857) (fun _ h9 => h9) rfl dX15_wish_110 ?_
              refine W.eq (g2 := F0 m 113 ls [.ref x_7, .int (nI z_162), .int (nI 0), .ref r_144]) rfl ?_
              obtain ⟨hq_168, hq_169⟩ := hW.octs hi_148 ht_149
              obtain ⟨hi_170, ht_171, hq_172⟩ := hW.txt hi_54 ht_59
              have hFc := pg_free hD hS hA
              refine va_callv (va_runS (As := [.ref r_144, .int (nI 0), .int (nI z_162), .ref x_7]) (rest := []) ⟨hx, hb, hml, hown, hts⟩ (s_X15_withoutWhite l dC dI cs ty gm L H.size F_114 r_144 (ρ + 31) 700 x_7 (ρ + 16) r_58 700 0 z_162 hW hi_148 ht_149 hi_54 ht_59 (by first | omega | assumption) (by first | omega | assumption) (by first | omega | assumption)) ⟨callB_of 4 hts (gi kt_955) rfl rfl rfl (hts _ kt_669) (hts _ kt_956) (by decide +kernel) ⟨Nat.le_of_ble_eq_true rfl, Nat.le_of_ble_eq_true rfl⟩, (hts _ kt_957)⟩ ⟨fun a U g mk q => ⟨q.1, PTm.calling q.2⟩, fun U hU hWm => ⟨rfl, PTm.mk hU hWm hP hK hD hE hO⟩⟩ rfl rfl hl.1 rfl (lv_room (Nat.le_of_ble_eq_true rfl)) dX15_wish_113 ⟨by show _ + 0 ≤ 0; omega, by show _ + 0 ≤ 0; omega⟩) hS (fun q _ h => hFc q h) hFc (fun u t H1 locs ht hvm hw hB hz1 hk1 hS => ?_)
              obtain ⟨F_174, z2_175, hB1, hq_176, hq_177⟩ := hB
              obtain ⟨hP, hD, hO, hR⟩ := QTm.back hB1 ht hFc hR (fun q h => by simp only [List.mem_cons, List.not_mem_nil, or_false] at h ⊢; omega)
              have hF_178 : F_174 ak = .inr (14, [.ref rak, .int (nI za_102)]) := (hB1.2.2.2 ak (by rw [hT_ak]; simp)).trans hak3
              have hF_179 : F_174 h0 = .inr (15, (.ref ta) :: (.int (nI zt)) :: (.int (nI zo_117)) :: (.int (nI ze)) :: (.ref ou) :: (.ref so) :: (.ref ad) :: (.ref na) :: (.ref va) :: (.ref lc) :: (.ref dm) :: (.int v11_118) :: (.int v12_119) :: (.ref tg) :: (.int v14_120) :: (.int v15_121) :: (.ref pe) :: (.int v17_122) :: (.int v18_123) :: (.int v19_124) :: (.int v20_125) :: (.int v21_126) :: (.int v22_127) :: (.ref ml) :: (.ref bg) :: (.ref co) :: (.ref sp) :: (.ref nb0) :: (.ref nb1) :: (.ref nb2) :: (.int (nI nf)) :: (.int (nI bd)) :: (.int (nI mm)) :: (.int v33_128) :: (.ref pl) :: (.ref se) :: (.ref ke) :: (.ref wi) :: (.ref hs) :: (.ref mo) :: (.ref po) :: (.ref nu) :: (.ref pr) :: (.ref sq) :: (.ref xa) :: (.ref sa) :: (.ref n64) :: (.ref m64) :: (.ref ex) :: (.ref wh) :: (.ref sd) :: (.ref tk) :: (.int v52_129) :: (.int v53_130) :: (.int v54_131) :: (.ref hd) :: (.ref ak) :: (.ref ho) :: (.ref ot) :: []) := (hB1.2.2.2 h0 (by rw [hT_h0]; simp)).trans hF_132
              have hF_180 : F_174 va = .inl (cs 23, 40, .inr (.inr (.inr (.inr f_140)))) := (hB1.2.2.2 va (by rw [ht_139]; simp)).trans hF_141
              have hF_181 : F_174 b_143 = .inr (14, [.ref r_144, .int (nI z_151)]) := (hB1.2.2.2 b_143 (by rw [ht_147]; simp)).trans hF_152
              have hF_182 : F_174 b_154 = .inr (14, [.ref r_155, .int (nI z_162)]) := (hB1.2.2.2 b_154 (by rw [ht_158]; simp)).trans hF_163
              have hF_183 : F_174 wi = .inr (13, [.ref x_7, .ref y0_8, .ref y1_9, .ref y2_10, .int (nI z_165)]) := (hB1.2.2.2 wi (by rw [ht_53]; simp)).trans hF_166
              generalize H1 = H at hP hS ⊢
              refine lv_aload_n hx hb dX15_wish_116 rfl (lv_at hl 2 rfl) ?_
              refine pg_get (ci := 15) (v := .ref wi) (C := RX15) (T := TX15) (N := 59) hx hb hts it_15 hown hK hP hL_h0 hF_179 rfl 37 (by decide) (hts _ kt_1058) (fun _ h9 => h9) rfl dX15_wish_117 ?_
              refine lv_bipush (v := 8) hx hb dX15_wish_120 (by decide) ?_
              have hFc := pg_free hD hS hA
              refine va_calli (va_runV (As := [.int 8]) (rest := []) ⟨hx, hb, hml, hown, hts⟩ (s_X13_read l dC dI cs ty gm L H.size F_174 wi (ρ + 15) x_7 700 700 y0_8 y1_9 y2_10 r_58 z2_175 8 hW hi_52 ht_53 hi_54 ht_59 hq_176 (by first | omega | assumption)) ⟨callB_of 1 hts (gi kt_874) rfl rfl rfl (hts _ kt_844) (hts _ kt_875) (by decide +kernel) ⟨Nat.le_of_ble_eq_true rfl, Nat.le_of_ble_eq_true rfl⟩, (hts _ kt_876), (hts _ kt_877)⟩ ⟨fun a U g mk q => ⟨q.1, PTm.calling q.2⟩, pg_recv hK hP hi_52 hF_183 (q := (RX13, TX13, 5)) rfl, fun U hU hWm => ⟨rfl, PTm.mk hU hWm hP hK hD hE hO⟩⟩ rfl rfl hl.1 rfl (lv_room (Nat.le_of_ble_eq_true rfl)) dX15_wish_122 ⟨by show _ + 0 ≤ 0; omega, by show _ + 0 ≤ 0; omega⟩) hS (fun q _ h => hFc q h) hFc (fun r_184 u t H1 locs ht hvm hw hB hz1 hk1 hS => ?_)
              obtain ⟨F_185, z2_186, hB1, hq_187, hq_188⟩ := hB
              obtain ⟨hP, hD, hO, hR⟩ := QTm.back hB1 ht hFc hR (fun q h => by simp only [List.mem_cons, List.not_mem_nil, or_false] at h ⊢; omega)
              have hF_189 : F_185 ak = .inr (14, [.ref rak, .int (nI za_102)]) := (hB1.2.2.2 ak (by rw [hT_ak]; simp)).trans hF_178
              have hF_190 : F_185 h0 = .inr (15, (.ref ta) :: (.int (nI zt)) :: (.int (nI zo_117)) :: (.int (nI ze)) :: (.ref ou) :: (.ref so) :: (.ref ad) :: (.ref na) :: (.ref va) :: (.ref lc) :: (.ref dm) :: (.int v11_118) :: (.int v12_119) :: (.ref tg) :: (.int v14_120) :: (.int v15_121) :: (.ref pe) :: (.int v17_122) :: (.int v18_123) :: (.int v19_124) :: (.int v20_125) :: (.int v21_126) :: (.int v22_127) :: (.ref ml) :: (.ref bg) :: (.ref co) :: (.ref sp) :: (.ref nb0) :: (.ref nb1) :: (.ref nb2) :: (.int (nI nf)) :: (.int (nI bd)) :: (.int (nI mm)) :: (.int v33_128) :: (.ref pl) :: (.ref se) :: (.ref ke) :: (.ref wi) :: (.ref hs) :: (.ref mo) :: (.ref po) :: (.ref nu) :: (.ref pr) :: (.ref sq) :: (.ref xa) :: (.ref sa) :: (.ref n64) :: (.ref m64) :: (.ref ex) :: (.ref wh) :: (.ref sd) :: (.ref tk) :: (.int v52_129) :: (.int v53_130) :: (.int v54_131) :: (.ref hd) :: (.ref ak) :: (.ref ho) :: (.ref ot) :: []) := (hB1.2.2.2 h0 (by rw [hT_h0]; simp)).trans hF_179
              have hF_191 : F_185 va = .inl (cs 23, 40, .inr (.inr (.inr (.inr f_140)))) := (hB1.2.2.2 va (by rw [ht_139]; simp)).trans hF_180
              have hF_192 : F_185 b_143 = .inr (14, [.ref r_144, .int (nI z_151)]) := (hB1.2.2.2 b_143 (by rw [ht_147]; simp)).trans hF_181
              have hF_193 : F_185 b_154 = .inr (14, [.ref r_155, .int (nI z_162)]) := (hB1.2.2.2 b_154 (by rw [ht_158]; simp)).trans hF_182
              have hF_194 : F_185 x_7 = .inr (14, [.ref r_58, .int (nI z2_175)]) := (hB1.2.2.2 x_7 (by rw [ht_59]; simp)).trans hq_176
              generalize H1 = H at hP hS ⊢
              have hw : (r_184 = 0 ∨ r_184 = 1) := hw
              have hw_195 := hw
              refine lv_if_ne (tgt := 131) hx hb dX15_wish_125 (by decide) (fun c_196 => ?_) (fun c_196 => ?_)
              ·
                refine lv_aload_n hx hb dX15_wish_131 rfl (lv_at hl 2 rfl) ?_
                refine pg_get (ci := 15) (v := .ref wi) (C := RX15) (T := TX15) (N := 59) hx hb hts it_15 hown hK hP hL_h0 hF_190 rfl 37 (by decide) (hts _ kt_1058) (fun _ h9 => h9) rfl dX15_wish_132 ?_
                obtain ⟨q_197, v_198, hr_q_197, hX_q_197⟩ := hG.2.2 ("PostGateModel", 533, "p", [112]) (by decide +kernel)
                have hX_q_197 : SXc q_197 v_198 1 (cct [112]) A s s.heap := hX_q_197
                obtain ⟨xo_q_197, xc_q_197, xv_q_197, xt_q_197, xn_q_197⟩ := id hX_q_197
                have hr_q_197 : vk_R "PostGateModel" 533 "p" q_197 s := hr_q_197
                refine va_ldcwS hx hb hown hr_q_197 dX15_wish_135 ?_
                have hFc := pg_free hD hS hA
                refine va_calli (va_runS (As := [.ref wi, .ref q_197]) (rest := []) ⟨hx, hb, hml, hown, hts⟩ (s_X15_wanted l dC dI cs ty gm L H.size F_185 wi (ρ + 15) x_7 700 700 y0_8 y1_9 y2_10 r_58 z2_186 q_197 v_198 1 (cct [112]) hW hi_52 ht_53 hi_54 ht_59 hq_187 (by first | omega | assumption)) ⟨callB_of 2 hts (gi kt_1059) rfl rfl rfl (hts _ kt_669) (hts _ kt_1060) (by decide +kernel) ⟨Nat.le_of_ble_eq_true rfl, Nat.le_of_ble_eq_true rfl⟩, (hts _ kt_1061)⟩ ⟨fun a U g mk q => ⟨q.1, PTEm.calling q.2⟩, fun U hU hWm => ⟨rfl, PTEm.mk hU hWm hP hK hD hE hO hG (fun x hx => by rw [List.mem_singleton] at hx; subst hx; exact hX_q_197) hS hFc⟩⟩ rfl rfl hl.1 rfl (lv_room (Nat.le_of_ble_eq_true rfl)) dX15_wish_138 ⟨by show _ + 0 ≤ 0; omega, by show _ + 0 ≤ 0; omega⟩) hS (fun q _ h => hFc q h) hFc (fun r_199 u t H1 locs ht hvm hw hB hz1 hk1 hS => ?_)
                obtain ⟨F_200, hB1⟩ := hB
                obtain rfl : F_185 = F_200 := (funext (fun a => hB1.2.2.2 a List.not_mem_nil)).symm
                obtain ⟨hP, hD, hO, hR⟩ := QTm.back hB1 ht hFc hR (fun q h => absurd h List.not_mem_nil)
                generalize H1 = H at hP hS ⊢
                have hw : True := hw
                have hw_201 := hw
                refine lv_istore (lv' := [(4, .int r_199), (3, .int (nI kv)), (2, .int sw2), (0, .ref h0), (1, .int x1)]) hx hb dX15_wish_141 hl (by decide) rfl (fun ls hl => ?_)
                refine lv_iload hx hb dX15_wish_143 (lv_at hl 0 rfl) ?_
                refine lv_bipush (v := 6) hx hb dX15_wish_145 (by decide) ?_
                refine lv_icmp_ne (tgt := 153) hx hb dX15_wish_147 (by decide) (fun c_202 => ?_) (fun c_202 => ?_)
                ·
                  have hF_205 : F va = .inl (cs 23, 40, .inr (.inr (.inr (.inr f_140)))) := (hR va (by rw [ht_139]; simp)).symm.trans hF_191
                  have hF_206 : F b_143 = .inr (14, [.ref r_144, .int (nI z_151)]) := (hR b_143 (by rw [ht_147]; simp)).symm.trans hF_192
                  have hF_207 : F b_154 = .inr (14, [.ref r_155, .int (nI z_162)]) := (hR b_154 (by rw [ht_158]; simp)).symm.trans hF_193
                  refine W.widen (k := 0) (n := 0) (by omega) (by omega) ?_
                  refine pl_cutm (σ := Int32) A (dC, dI) cs ty gm L [ρ, ρ + 6, ρ + 7, ρ + 10, ρ + 11, ρ + 12, ρ + 13, ρ + 14, ρ + 15, ρ + 16, ρ + 17, ρ + 18, ρ + 19, ρ + 20, ρ + 21, ρ + 22, ρ + 23, ρ + 24, ρ + 25, ρ + 26, ρ + 28, ρ + 29, ρ + 30] F 192 6 (fun s4 => [(4, .int s4), (0, .ref h0), (1, .int x1)]) (fun s4 => []) (fun s4 _ => True) ?_ (fun jn_203 => ?_)
                  ·
                    rintro s4 F_204 hv_208 hO hR H locs hP hD hS ls hl
                    have hl : lv_has ls 6 [(4, .int s4), (0, .ref h0), (1, .int x1)] := hl
                    have hv_208 : True := hv_208
                    refine W.eq (g2 := F0 m 192 ls []) rfl ?_
                    have hF_209 : F_204 va = .inl (cs 23, 40, .inr (.inr (.inr (.inr f_140)))) := (hR va (by rw [ht_139]; simp)).trans hF_205
                    have hF_210 : F_204 b_143 = .inr (14, [.ref r_144, .int (nI z_151)]) := (hR b_143 (by rw [ht_147]; simp)).trans hF_206
                    have hF_211 : F_204 b_154 = .inr (14, [.ref r_155, .int (nI z_162)]) := (hR b_154 (by rw [ht_158]; simp)).trans hF_207
                    refine lv_aload_n hx hb dX15_wish_192 rfl (lv_at hl 1 rfl) ?_
                    have hFc := pg_free hD hS hA
                    obtain ⟨zo_212, v11_213, v12_214, v14_215, v15_216, v17_217, v18_218, v19_219, v20_220, v21_221, v22_222, v33_223, v52_224, v53_225, v54_226, hF_227, hq_228, hq_229, hq_230, hq_231, hq_232⟩ := hO.mod hL_h0 hT_h0
                    refine va_calli (va_runV (As := []) (rest := []) ⟨hx, hb, hml, hown, hts⟩ (s_X15_permission l dC dI cs ty gm L H.size F_204 h0 ρ ta ou so ad na va lc dm tg pe ml bg co sp nb0 nb1 nb2 pl se ke wi hs mo po nu pr sq xa sa n64 m64 ex wh sd tk hd ak ho ot sx s0 s1 s2 nf bd mm ze zt rp hW hL_h0 hT_h0 hL_pe hT_pe) ⟨callB_of 0 hts (gi kt_1062) rfl rfl rfl (hts _ kt_669) (hts _ kt_1063) (by decide +kernel) ⟨Nat.le_of_ble_eq_true rfl, Nat.le_of_ble_eq_true rfl⟩, (hts _ kt_1064), (hts _ kt_1065)⟩ ⟨fun a U g mk q => ⟨q.1, PTEm.calling q.2⟩, pg_recv hK hP hL_h0 hF_227 (q := (RX15, TX15, 59)) rfl, fun U hU hWm => ⟨rfl, PTEm.mk hU hWm hP hK hD hE hO hG (fun x hx => absurd hx List.not_mem_nil) hS hFc⟩⟩ rfl rfl hl.1 rfl (lv_room (Nat.le_of_ble_eq_true rfl)) dX15_wish_193 ⟨by show _ + 0 ≤ 0; omega, by show _ + 0 ≤ 0; omega⟩) hS (fun q _ h => hFc q h) hFc (fun r_233 u t H1 locs ht hvm hw hB hz1 hk1 hS => ?_)
                    obtain ⟨F_234, hB1⟩ := hB
                    obtain ⟨hP, hD, hO, hR⟩ := QTm.back hB1 ht hFc hR (fun q h => by simp only [List.mem_cons, List.not_mem_nil, or_false] at h ⊢; omega)
                    have hF_235 : F_234 va = .inl (cs 23, 40, .inr (.inr (.inr (.inr f_140)))) := (hB1.2.2.2 va (by rw [ht_139]; simp)).trans hF_209
                    have hF_236 : F_234 b_143 = .inr (14, [.ref r_144, .int (nI z_151)]) := (hB1.2.2.2 b_143 (by rw [ht_147]; simp)).trans hF_210
                    have hF_237 : F_234 b_154 = .inr (14, [.ref r_155, .int (nI z_162)]) := (hB1.2.2.2 b_154 (by rw [ht_158]; simp)).trans hF_211
                    generalize H1 = H at hP hS ⊢
                    have hw : True := hw
                    have hw_238 := hw
                    refine lv_iconst (v := 2) hx hb dX15_wish_196 (by decide) ?_
                    refine lv_icmp_ne (tgt := 230) hx hb dX15_wish_197 (by decide) (fun c_239 => ?_) (fun c_239 => ?_)
                    ·
                      refine lv_iconst (v := 0) hx hb dX15_wish_230 (by decide) ?_
                      refine lv_istore (lv' := [(5, .int 0), (4, .int s4), (0, .ref h0), (1, .int x1)]) hx hb dX15_wish_231 hl (by decide) rfl (fun ls hl => ?_)
                      refine W.widen (k := 0) (n := 0) (by omega) (by omega) ?_
                      have hF_241 : F va = .inl (cs 23, 40, .inr (.inr (.inr (.inr f_140)))) := (hR va (by rw [ht_139]; simp)).symm.trans hF_235
                      have hF_242 : F b_143 = .inr (14, [.ref r_144, .int (nI z_151)]) := (hR b_143 (by rw [ht_147]; simp)).symm.trans hF_236
                      have hF_243 : F b_154 = .inr (14, [.ref r_155, .int (nI z_162)]) := (hR b_154 (by rw [ht_158]; simp)).symm.trans hF_237
                      refine pl_loopm (σ := Nat) A (dC, dI) cs ty gm L [ρ, ρ + 6, ρ + 7, ρ + 10, ρ + 11, ρ + 12, ρ + 13, ρ + 14, ρ + 15, ρ + 16, ρ + 17, ρ + 18, ρ + 19, ρ + 20, ρ + 21, ρ + 22, ρ + 23, ρ + 24, ρ + 25, ρ + 26, ρ + 28, ρ + 29, ρ + 30] F 233 6 (fun j => [(5, .int (nI j)), (4, .int s4), (0, .ref h0), (1, .int x1)]) (fun j => []) (fun j _ => j ≤ nf) (fun j => nf - j) ?_ 0 F_234 (by omega) hO hR _ _ hP hD hS ls (lv_sub hl [0, 1, 2, 3] rfl)
                      rintro j F_240 hv_244 hO hR ih_245 H locs hP hD hS ls hl
                      have hl : lv_has ls 6 [(5, .int (nI j)), (4, .int s4), (0, .ref h0), (1, .int x1)] := hl
                      have hv_244 : j ≤ nf := hv_244
                      refine W.eq (g2 := F0 m 233 ls []) rfl ?_
                      have hF_246 : F_240 va = .inl (cs 23, 40, .inr (.inr (.inr (.inr f_140)))) := (hR va (by rw [ht_139]; simp)).trans hF_241
                      have hF_247 : F_240 b_143 = .inr (14, [.ref r_144, .int (nI z_151)]) := (hR b_143 (by rw [ht_147]; simp)).trans hF_242
                      have hF_248 : F_240 b_154 = .inr (14, [.ref r_155, .int (nI z_162)]) := (hR b_154 (by rw [ht_158]; simp)).trans hF_243
                      refine lv_iload hx hb dX15_wish_233 (lv_at hl 0 rfl) ?_
                      refine lv_aload_n hx hb dX15_wish_235 rfl (lv_at hl 2 rfl) ?_
                      obtain ⟨zo_249, v11_250, v12_251, v14_252, v15_253, v17_254, v18_255, v19_256, v20_257, v21_258, v22_259, v33_260, v52_261, v53_262, v54_263, hF_264, hq_265, hq_266, hq_267, hq_268, hq_269⟩ := hO.mod hL_h0 hT_h0
                      refine pg_get (ci := 15) (v := .int (nI nf)) (C := RX15) (T := TX15) (N := 59) hx hb hts it_15 hown hK hP hL_h0 hF_264 rfl 30 (by decide) (hts _ kt_907) (fun _ h9 => h9) rfl dX15_wish_236 ?_
                      refine lv_icmp_ge (tgt := 304) hx hb dX15_wish_239 (by decide) (fun c_270 => ?_) (fun c_270 => ?_)
                      ·
                        have hi_271 : nf ≤ j := leN (N := nf) c_270
                        refine lv_iload hx hb dX15_wish_304 (lv_at hl 1 rfl) ?_
                        refine W.widen (k := 0) (n := 0) (by omega) (by omega) ?_
                        exact W.iret (v := s4) hx hb hr (fun t ht hWm => ⟨⟨s4, (), rfl, trivial, ⟨F_240, QTm.mk ht hP hD hO hR⟩⟩, hS.F ht⟩) hS.2.2 dX15_wish_306
                      ·
                        have hi_272 : j < nf := ltN (N := nf) c_270
                        refine lv_aload_n hx hb dX15_wish_242 rfl (lv_at hl 2 rfl) ?_
                        refine lv_iload hx hb dX15_wish_243 (lv_at hl 0 rfl) ?_
                        obtain ⟨q_273, v_274, hr_q_273, hX_q_273⟩ := hG.2.2 ("PostGateModel", 376, "dkim-signature", [100, 107, 105, 109, 45, 115, 105, 103, 110, 97, 116, 117, 114, 101]) (by decide +kernel)
                        have hX_q_273 : SXc q_273 v_274 14 (cct [100, 107, 105, 109, 45, 115, 105, 103, 110, 97, 116, 117, 114, 101]) A s s.heap := hX_q_273
                        obtain ⟨xo_q_273, xc_q_273, xv_q_273, xt_q_273, xn_q_273⟩ := id hX_q_273
                        have hr_q_273 : vk_R "PostGateModel" 376 "dkim-signature" q_273 s := hr_q_273
                        refine va_ldcwS hx hb hown hr_q_273 dX15_wish_245 ?_
                        have hFc := pg_free hD hS hA
                        refine va_calli (va_runV (As := [.int (nI j), .ref q_273]) (rest := []) ⟨hx, hb, hml, hown, hts⟩ (s_X15_isNamed l dC dI cs ty gm L H.size F_240 h0 ρ ta ou so ad na va lc dm tg pe ml bg co sp nb0 nb1 nb2 pl se ke wi hs mo po nu pr sq xa sa n64 m64 ex wh sd tk hd ak ho ot sx s0 s1 s2 nf bd mm ze zt j q_273 v_274 14 (cct [100, 107, 105, 109, 45, 115, 105, 103, 110, 97, 116, 117, 114, 101]) hW hL_h0 hT_h0 (by first | omega | assumption)) ⟨callB_of 2 hts (gi kt_908) rfl rfl rfl (hts _ kt_669) (hts _ kt_909) (by decide +kernel) ⟨Nat.le_of_ble_eq_true rfl, Nat.le_of_ble_eq_true rfl⟩, (hts _ kt_910), (hts _ kt_911)⟩ ⟨fun a U g mk q => ⟨q.1, PTEm.calling q.2⟩, pg_recv hK hP hL_h0 hF_264 (q := (RX15, TX15, 59)) rfl, fun U hU hWm => ⟨rfl, PTEm.mk hU hWm hP hK hD hE hO hG (fun x hx => by rw [List.mem_singleton] at hx; subst hx; exact hX_q_273) hS hFc⟩⟩ rfl rfl hl.1 rfl (lv_room (Nat.le_of_ble_eq_true rfl)) dX15_wish_248 ⟨by show _ + 0 ≤ 0; omega, by show _ + 0 ≤ 0; omega⟩) hS (fun q _ h => hFc q h) hFc (fun r_275 u t H1 locs ht hvm hw hB hz1 hk1 hS => ?_)
                        obtain ⟨F_276, hB1⟩ := hB
                        obtain rfl : F_240 = F_276 := (funext (fun a => hB1.2.2.2 a List.not_mem_nil)).symm
                        obtain ⟨hP, hD, hO, hR⟩ := QTm.back hB1 ht hFc hR (fun q h => absurd h List.not_mem_nil)
                        generalize H1 = H at hP hS ⊢
                        have hw : (r_275 = 0 ∨ r_275 = 1) := hw
                        have hw_277 := hw
                        refine lv_if_eq (tgt := 298) hx hb dX15_wish_251 (by decide) (fun c_278 => ?_) (fun c_278 => ?_)
                        ·
                          refine lv_iinc (v := (nI (j + 1))) (lv' := [(5, .int (nI (j + 1))), (4, .int s4), (0, .ref h0), (1, .int x1)]) hx hb dX15_wish_298 hl (k := 0) rfl (nI_1 _) (by decide) rfl (fun ls hl => ?_)
                          refine lv_goto (tgt := 233) hx hb dX15_wish_301 (by decide) ?_
                          refine W.widen (k := 0) (n := 0) (by omega) (by omega) ?_
                          exact ih_245 (j + 1) F_240 (by first | omega | exact ⟨by omega, by omega⟩ | trivial) (by show nf - (j + 1) < nf - j; omega) hO hR _ _ hP hD hS ls (lv_sub hl [0, 1, 2, 3] rfl)
                        ·
                          refine lv_aload_n hx hb dX15_wish_254 rfl (lv_at hl 2 rfl) ?_
                          refine lv_iload hx hb dX15_wish_255 (lv_at hl 0 rfl) ?_
                          refine lv_iload_n hx hb dX15_wish_257 rfl (lv_at hl 3 rfl) ?_
                          have hFc := pg_free hD hS hA
                          refine va_calli (va_runV (As := [.int (nI j), .int x1]) (rest := []) ⟨hx, hb, hml, hown, hts⟩ (s_X15_sealOf l dC dI cs ty gm L H.size F_240 h0 ρ ta ou so ad na va lc dm tg pe ml bg co sp nb0 nb1 nb2 pl se ke wi hs mo po nu pr sq xa sa n64 m64 ex wh sd tk hd ak ho ot sx s0 s1 s2 nf bd mm ze zt sb rl j x1 hW hL_h0 hT_h0 hL_sx hT_sx hL_pl hT_pl (by first | omega | assumption)) ⟨callB_of 2 hts (gi kt_1041) rfl rfl rfl (hts _ kt_669) (hts _ kt_1042) (by decide +kernel) ⟨Nat.le_of_ble_eq_true rfl, Nat.le_of_ble_eq_true rfl⟩, (hts _ kt_1043), (hts _ kt_1044)⟩ ⟨fun a U g mk q => ⟨q.1, PTEm.calling q.2⟩, pg_recv hK hP hL_h0 hF_264 (q := (RX15, TX15, 59)) rfl, fun U hU hWm => ⟨rfl, PTEm.mk hU hWm hP hK hD hE hO hG (fun x hx => absurd hx List.not_mem_nil) hS hFc⟩⟩ rfl rfl hl.1 rfl (lv_room (Nat.le_of_ble_eq_true rfl)) dX15_wish_258 ⟨by show _ + 0 ≤ 0; omega, by show _ + 0 ≤ 0; omega⟩) hS (fun q _ h => hFc q h) hFc (fun r_279 u t H1 locs ht hvm hw hB hz1 hk1 hS => ?_)
                          obtain ⟨F_280, hB1⟩ := hB
                          obtain ⟨hP, hD, hO, hR⟩ := QTm.back hB1 ht hFc hR (fun q h => by simp only [List.mem_cons, List.not_mem_nil, or_false] at h ⊢; omega)
                          have hF_281 : F_280 va = .inl (cs 23, 40, .inr (.inr (.inr (.inr f_140)))) := (hB1.2.2.2 va (by rw [ht_139]; simp)).trans hF_246
                          have hF_282 : F_280 b_143 = .inr (14, [.ref r_144, .int (nI z_151)]) := (hB1.2.2.2 b_143 (by rw [ht_147]; simp)).trans hF_247
                          have hF_283 : F_280 b_154 = .inr (14, [.ref r_155, .int (nI z_162)]) := (hB1.2.2.2 b_154 (by rw [ht_158]; simp)).trans hF_248
                          generalize H1 = H at hP hS ⊢
                          have hw : True := hw
                          have hw_284 := hw
                          refine lv_iconst (v := 2) hx hb dX15_wish_261 (by decide) ?_
                          refine lv_icmp_eq (tgt := 268) hx hb dX15_wish_262 (by decide) (fun c_285 => ?_) (fun c_285 => ?_)
                          ·
                            refine lv_aload_n hx hb dX15_wish_268 rfl (lv_at hl 2 rfl) ?_
                            refine lv_aload_n hx hb dX15_wish_269 rfl (lv_at hl 2 rfl) ?_
                            obtain ⟨zo_286, v11_287, v12_288, v14_289, v15_290, v17_291, v18_292, v19_293, v20_294, v21_295, v22_296, v33_297, v52_298, v53_299, v54_300, hF_301, hq_302, hq_303, hq_304, hq_305, hq_306⟩ := hO.mod hL_h0 hT_h0
                            refine pg_get (ci := 15) (v := .ref sd) (C := RX15) (T := TX15) (N := 59) hx hb hts it_15 hown hK hP hL_h0 hF_301 rfl 50 (by decide) (hts _ kt_1017) (fun _ h9 => h9) rfl dX15_wish_270 ?_
                            refine lv_aload_n hx hb dX15_wish_273 rfl (lv_at hl 2 rfl) ?_
                            refine pg_get (ci := 15) (v := .ref ak) (C := RX15) (T := TX15) (N := 59) hx hb hts it_15 hown hK hP hL_h0 hF_301 rfl 56 (by decide) (hts _ kt_1045) (fun _ h9 => h9) rfl dX15_wish_274 ?_
                            refine lv_aload_n hx hb dX15_wish_277 rfl (lv_at hl 2 rfl) ?_
                            refine pg_get (ci := 15) (v := .ref wi) (C := RX15) (T := TX15) (N := 59) hx hb hts it_15 hown hK hP hL_h0 hF_301 rfl 37 (by decide) (hts _ kt_1058) (fun _ h9 => h9) rfl dX15_wish_278 ?_
                            obtain ⟨q_307, v_308, hr_q_307, hX_q_307⟩ := hG.2.2 ("PostGateModel", 601, "adkim", [97, 100, 107, 105, 109]) (by decide +kernel)
                            have hX_q_307 : SXc q_307 v_308 5 (cct [97, 100, 107, 105, 109]) A s s.heap := hX_q_307
                            obtain ⟨xo_q_307, xc_q_307, xv_q_307, xt_q_307, xn_q_307⟩ := id hX_q_307
                            have hr_q_307 : vk_R "PostGateModel" 601 "adkim" q_307 s := hr_q_307
                            refine va_ldcwS hx hb hown hr_q_307 dX15_wish_281 ?_
                            obtain ⟨q_309, v_310, hr_q_309, hX_q_309⟩ := hG.2.2 ("PostGateModel", 460, "s", [115]) (by decide +kernel)
                            have hX_q_309 : SXc q_309 v_310 1 (cct [115]) A s s.heap := hX_q_309
                            obtain ⟨xo_q_309, xc_q_309, xv_q_309, xt_q_309, xn_q_309⟩ := id hX_q_309
                            have hr_q_309 : vk_R "PostGateModel" 460 "s" q_309 s := hr_q_309
                            refine va_ldcwS hx hb hown hr_q_309 dX15_wish_284 ?_
                            obtain ⟨z_311, hF_312, hq_313⟩ := hO.tags hi_52 ht_53
                            have hFc := pg_free hD hS hA
                            refine va_calli (va_runV (As := [.ref q_307, .ref q_309]) (rest := [.ref ak, .ref sd, .ref h0]) ⟨hx, hb, hml, hown, hts⟩ (s_X13_has l dC dI cs ty gm L H.size F_280 wi (ρ + 15) x_7 700 700 y0_8 y1_9 y2_10 r_58 z_311 q_307 v_308 5 (cct [97, 100, 107, 105, 109]) q_309 v_310 1 (cct [115]) hW hi_52 ht_53 hi_54 ht_59 hF_312 (by first | omega | assumption)) ⟨callB_of 2 hts (gi kt_878) rfl rfl rfl (hts _ kt_844) (hts _ kt_879) (by decide +kernel) ⟨Nat.le_of_ble_eq_true rfl, Nat.le_of_ble_eq_true rfl⟩, (hts _ kt_880), (hts _ kt_881)⟩ ⟨fun a U g mk q => ⟨q.1, PTEm.calling q.2⟩, pg_recv hK hP hi_52 hF_312 (q := (RX13, TX13, 5)) rfl, fun U hU hWm => ⟨rfl, PTEm.mk hU hWm hP hK hD hE hO hG (fun x hx => by simp only [List.mem_cons, List.not_mem_nil, or_false] at hx; rcases hx with hx | hx <;> subst hx <;> first | exact hX_q_307 | exact hX_q_309) hS hFc⟩⟩ rfl rfl hl.1 rfl (lv_room (Nat.le_of_ble_eq_true rfl)) dX15_wish_287 ⟨by show _ + 0 ≤ 0; omega, by show _ + 0 ≤ 0; omega⟩) hS (fun q _ h => hFc q h) hFc (fun r_314 u t H1 locs ht hvm hw hB hz1 hk1 hS => ?_)
                            obtain ⟨F_315, hB1⟩ := hB
                            obtain rfl : F_280 = F_315 := (funext (fun a => hB1.2.2.2 a List.not_mem_nil)).symm
                            obtain ⟨hP, hD, hO, hR⟩ := QTm.back hB1 ht hFc hR (fun q h => absurd h List.not_mem_nil)
                            generalize H1 = H at hP hS ⊢
                            have hw : (r_314 = 0 ∨ r_314 = 1) := hw
                            have hw_316 := hw
                            have hFc := pg_free hD hS hA
                            refine va_calli (va_runV (As := [.ref sd, .ref ak, .int r_314]) (rest := []) ⟨hx, hb, hml, hown, hts⟩ (s_X15_isAligned l dC dI cs ty gm L H.size F_280 h0 ρ ta ou so ad na va lc dm tg pe ml bg co sp nb0 nb1 nb2 pl se ke wi hs mo po nu pr sq xa sa n64 m64 ex wh sd tk hd ak ho ot sx s0 s1 s2 nf bd mm ze zt sd (ρ + 25) r_17 3000 ak (ρ + 28) rak 6000 r_314 hW hL_h0 hT_h0 hi_70 ht_71 hL_ak hT_ak (by first | omega | assumption) (by first | omega | assumption)) ⟨callB_of 3 hts (gi kt_1066) rfl rfl rfl (hts _ kt_669) (hts _ kt_1067) (by decide +kernel) ⟨Nat.le_of_ble_eq_true rfl, Nat.le_of_ble_eq_true rfl⟩, (hts _ kt_1068), (hts _ kt_1069)⟩ ⟨fun a U g mk q => ⟨q.1, PTm.calling q.2⟩, pg_recv hK hP hL_h0 hF_301 (q := (RX15, TX15, 59)) rfl, fun U hU hWm => ⟨rfl, PTm.mk hU hWm hP hK hD hE hO⟩⟩ rfl rfl hl.1 rfl (lv_room (Nat.le_of_ble_eq_true rfl)) dX15_wish_290 ⟨by show _ + 0 ≤ 0; omega, by show _ + 0 ≤ 0; omega⟩) hS (fun q _ h => hFc q h) hFc (fun r_317 u t H1 locs ht hvm hw hB hz1 hk1 hS => ?_)
                            obtain ⟨F_318, hB1⟩ := hB
                            obtain ⟨hP, hD, hO, hR⟩ := QTm.back hB1 ht hFc hR (fun q h => by simp only [List.mem_cons, List.not_mem_nil, or_false] at h ⊢; omega)
                            have hF_319 : F_318 va = .inl (cs 23, 40, .inr (.inr (.inr (.inr f_140)))) := (hB1.2.2.2 va (by rw [ht_139]; simp)).trans hF_281
                            have hF_320 : F_318 b_143 = .inr (14, [.ref r_144, .int (nI z_151)]) := (hB1.2.2.2 b_143 (by rw [ht_147]; simp)).trans hF_282
                            have hF_321 : F_318 b_154 = .inr (14, [.ref r_155, .int (nI z_162)]) := (hB1.2.2.2 b_154 (by rw [ht_158]; simp)).trans hF_283
                            have hF_322 : F_318 h0 = .inr (15, (.ref ta) :: (.int (nI zt)) :: (.int (nI zo_286)) :: (.int (nI ze)) :: (.ref ou) :: (.ref so) :: (.ref ad) :: (.ref na) :: (.ref va) :: (.ref lc) :: (.ref dm) :: (.int v11_287) :: (.int v12_288) :: (.ref tg) :: (.int v14_289) :: (.int v15_290) :: (.ref pe) :: (.int v17_291) :: (.int v18_292) :: (.int v19_293) :: (.int v20_294) :: (.int v21_295) :: (.int v22_296) :: (.ref ml) :: (.ref bg) :: (.ref co) :: (.ref sp) :: (.ref nb0) :: (.ref nb1) :: (.ref nb2) :: (.int (nI nf)) :: (.int (nI bd)) :: (.int (nI mm)) :: (.int v33_297) :: (.ref pl) :: (.ref se) :: (.ref ke) :: (.ref wi) :: (.ref hs) :: (.ref mo) :: (.ref po) :: (.ref nu) :: (.ref pr) :: (.ref sq) :: (.ref xa) :: (.ref sa) :: (.ref n64) :: (.ref m64) :: (.ref ex) :: (.ref wh) :: (.ref sd) :: (.ref tk) :: (.int v52_298) :: (.int v53_299) :: (.int v54_300) :: (.ref hd) :: (.ref ak) :: (.ref ho) :: (.ref ot) :: []) := (hB1.2.2.2 h0 (by rw [hT_h0]; simp)).trans hF_301
                            have hF_323 : F_318 wi = .inr (13, [.ref x_7, .ref y0_8, .ref y1_9, .ref y2_10, .int (nI z_311)]) := (hB1.2.2.2 wi (by rw [ht_53]; simp)).trans hF_312
                            generalize H1 = H at hP hS ⊢
                            have hw : (r_317 = 0 ∨ r_317 = 1) := hw
                            have hw_324 := hw
                            refine lv_if_eq (tgt := 298) hx hb dX15_wish_293 (by decide) (fun c_325 => ?_) (fun c_325 => ?_)
                            ·
                              refine lv_iinc (v := (nI (j + 1))) (lv' := [(5, .int (nI (j + 1))), (4, .int s4), (0, .ref h0), (1, .int x1)]) hx hb dX15_wish_298 hl (k := 0) rfl (nI_1 _) (by decide) rfl (fun ls hl => ?_)
                              refine lv_goto (tgt := 233) hx hb dX15_wish_301 (by decide) ?_
                              refine W.widen (k := 0) (n := 0) (by omega) (by omega) ?_
                              exact ih_245 (j + 1) F_318 (by first | omega | exact ⟨by omega, by omega⟩ | trivial) (by show nf - (j + 1) < nf - j; omega) hO hR _ _ hP hD hS ls (lv_sub hl [0, 1, 2, 3] rfl)
                            ·
                              refine lv_iconst (v := 2) hx hb dX15_wish_296 (by decide) ?_
                              refine W.widen (k := 0) (n := 0) (by omega) (by omega) ?_
                              exact W.iret (v := 2) hx hb hr (fun t ht hWm => ⟨⟨2, (), rfl, trivial, ⟨F_318, QTm.mk ht hP hD hO hR⟩⟩, hS.F ht⟩) hS.2.2 dX15_wish_297
                          ·
                            refine lv_goto (tgt := 298) hx hb dX15_wish_265 (by decide) ?_
                            refine lv_iinc (v := (nI (j + 1))) (lv' := [(5, .int (nI (j + 1))), (4, .int s4), (0, .ref h0), (1, .int x1)]) hx hb dX15_wish_298 hl (k := 0) rfl (nI_1 _) (by decide) rfl (fun ls hl => ?_)
                            refine lv_goto (tgt := 233) hx hb dX15_wish_301 (by decide) ?_
                            refine W.widen (k := 0) (n := 0) (by omega) (by omega) ?_
                            exact ih_245 (j + 1) F_280 (by first | omega | exact ⟨by omega, by omega⟩ | trivial) (by show nf - (j + 1) < nf - j; omega) hO hR _ _ hP hD hS ls (lv_sub hl [0, 1, 2, 3] rfl)
                    ·
                      refine lv_aload_n hx hb dX15_wish_200 rfl (lv_at hl 1 rfl) ?_
                      refine lv_aload_n hx hb dX15_wish_201 rfl (lv_at hl 1 rfl) ?_
                      obtain ⟨zo_326, v11_327, v12_328, v14_329, v15_330, v17_331, v18_332, v19_333, v20_334, v21_335, v22_336, v33_337, v52_338, v53_339, v54_340, hF_341, hq_342, hq_343, hq_344, hq_345, hq_346⟩ := hO.mod hL_h0 hT_h0
                      refine pg_get (ci := 15) (v := .ref dm) (C := RX15) (T := TX15) (N := 59) hx hb hts it_15 hown hK hP hL_h0 hF_341 rfl 10 (by decide) (hts _ kt_777) (fun _ h9 => h9) rfl dX15_wish_202 ?_
                      refine lv_aload_n hx hb dX15_wish_205 rfl (lv_at hl 1 rfl) ?_
                      refine pg_get (ci := 15) (v := .ref ak) (C := RX15) (T := TX15) (N := 59) hx hb hts it_15 hown hK hP hL_h0 hF_341 rfl 56 (by decide) (hts _ kt_1045) (fun _ h9 => h9) rfl dX15_wish_206 ?_
                      refine lv_aload_n hx hb dX15_wish_209 rfl (lv_at hl 1 rfl) ?_
                      refine pg_get (ci := 15) (v := .ref wi) (C := RX15) (T := TX15) (N := 59) hx hb hts it_15 hown hK hP hL_h0 hF_341 rfl 37 (by decide) (hts _ kt_1058) (fun _ h9 => h9) rfl dX15_wish_210 ?_
                      obtain ⟨q_347, v_348, hr_q_347, hX_q_347⟩ := hG.2.2 ("PostGateModel", 595, "aspf", [97, 115, 112, 102]) (by decide +kernel)
                      have hX_q_347 : SXc q_347 v_348 4 (cct [97, 115, 112, 102]) A s s.heap := hX_q_347
                      obtain ⟨xo_q_347, xc_q_347, xv_q_347, xt_q_347, xn_q_347⟩ := id hX_q_347
                      have hr_q_347 : vk_R "PostGateModel" 595 "aspf" q_347 s := hr_q_347
                      refine va_ldcwS hx hb hown hr_q_347 dX15_wish_213 ?_
                      obtain ⟨q_349, v_350, hr_q_349, hX_q_349⟩ := hG.2.2 ("PostGateModel", 460, "s", [115]) (by decide +kernel)
                      have hX_q_349 : SXc q_349 v_350 1 (cct [115]) A s s.heap := hX_q_349
                      obtain ⟨xo_q_349, xc_q_349, xv_q_349, xt_q_349, xn_q_349⟩ := id hX_q_349
                      have hr_q_349 : vk_R "PostGateModel" 460 "s" q_349 s := hr_q_349
                      refine va_ldcwS hx hb hown hr_q_349 dX15_wish_216 ?_
                      obtain ⟨z_351, hF_352, hq_353⟩ := hO.tags hi_52 ht_53
                      have hFc := pg_free hD hS hA
                      refine va_calli (va_runV (As := [.ref q_347, .ref q_349]) (rest := [.ref ak, .ref dm, .ref h0]) ⟨hx, hb, hml, hown, hts⟩ (s_X13_has l dC dI cs ty gm L H.size F_234 wi (ρ + 15) x_7 700 700 y0_8 y1_9 y2_10 r_58 z_351 q_347 v_348 4 (cct [97, 115, 112, 102]) q_349 v_350 1 (cct [115]) hW hi_52 ht_53 hi_54 ht_59 hF_352 (by first | omega | assumption)) ⟨callB_of 2 hts (gi kt_878) rfl rfl rfl (hts _ kt_844) (hts _ kt_879) (by decide +kernel) ⟨Nat.le_of_ble_eq_true rfl, Nat.le_of_ble_eq_true rfl⟩, (hts _ kt_880), (hts _ kt_881)⟩ ⟨fun a U g mk q => ⟨q.1, PTEm.calling q.2⟩, pg_recv hK hP hi_52 hF_352 (q := (RX13, TX13, 5)) rfl, fun U hU hWm => ⟨rfl, PTEm.mk hU hWm hP hK hD hE hO hG (fun x hx => by simp only [List.mem_cons, List.not_mem_nil, or_false] at hx; rcases hx with hx | hx <;> subst hx <;> first | exact hX_q_347 | exact hX_q_349) hS hFc⟩⟩ rfl rfl hl.1 rfl (lv_room (Nat.le_of_ble_eq_true rfl)) dX15_wish_219 ⟨by show _ + 0 ≤ 0; omega, by show _ + 0 ≤ 0; omega⟩) hS (fun q _ h => hFc q h) hFc (fun r_354 u t H1 locs ht hvm hw hB hz1 hk1 hS => ?_)
                      obtain ⟨F_355, hB1⟩ := hB
                      obtain rfl : F_234 = F_355 := (funext (fun a => hB1.2.2.2 a List.not_mem_nil)).symm
                      obtain ⟨hP, hD, hO, hR⟩ := QTm.back hB1 ht hFc hR (fun q h => absurd h List.not_mem_nil)
                      generalize H1 = H at hP hS ⊢
                      have hw : (r_354 = 0 ∨ r_354 = 1) := hw
                      have hw_356 := hw
                      have hFc := pg_free hD hS hA
                      refine va_calli (va_runV (As := [.ref dm, .ref ak, .int r_354]) (rest := []) ⟨hx, hb, hml, hown, hts⟩ (s_X15_isAligned l dC dI cs ty gm L H.size F_234 h0 ρ ta ou so ad na va lc dm tg pe ml bg co sp nb0 nb1 nb2 pl se ke wi hs mo po nu pr sq xa sa n64 m64 ex wh sd tk hd ak ho ot sx s0 s1 s2 nf bd mm ze zt dm (ρ + 5) r_2 60 ak (ρ + 28) rak 6000 r_354 hW hL_h0 hT_h0 hi_65 ht_66 hL_ak hT_ak (by first | omega | assumption) (by first | omega | assumption)) ⟨callB_of 3 hts (gi kt_1066) rfl rfl rfl (hts _ kt_669) (hts _ kt_1067) (by decide +kernel) ⟨Nat.le_of_ble_eq_true rfl, Nat.le_of_ble_eq_true rfl⟩, (hts _ kt_1068), (hts _ kt_1069)⟩ ⟨fun a U g mk q => ⟨q.1, PTm.calling q.2⟩, pg_recv hK hP hL_h0 hF_341 (q := (RX15, TX15, 59)) rfl, fun U hU hWm => ⟨rfl, PTm.mk hU hWm hP hK hD hE hO⟩⟩ rfl rfl hl.1 rfl (lv_room (Nat.le_of_ble_eq_true rfl)) dX15_wish_222 ⟨by show _ + 0 ≤ 0; omega, by show _ + 0 ≤ 0; omega⟩) hS (fun q _ h => hFc q h) hFc (fun r_357 u t H1 locs ht hvm hw hB hz1 hk1 hS => ?_)
                      obtain ⟨F_358, hB1⟩ := hB
                      obtain ⟨hP, hD, hO, hR⟩ := QTm.back hB1 ht hFc hR (fun q h => by simp only [List.mem_cons, List.not_mem_nil, or_false] at h ⊢; omega)
                      have hF_359 : F_358 va = .inl (cs 23, 40, .inr (.inr (.inr (.inr f_140)))) := (hB1.2.2.2 va (by rw [ht_139]; simp)).trans hF_235
                      have hF_360 : F_358 b_143 = .inr (14, [.ref r_144, .int (nI z_151)]) := (hB1.2.2.2 b_143 (by rw [ht_147]; simp)).trans hF_236
                      have hF_361 : F_358 b_154 = .inr (14, [.ref r_155, .int (nI z_162)]) := (hB1.2.2.2 b_154 (by rw [ht_158]; simp)).trans hF_237
                      have hF_362 : F_358 h0 = .inr (15, (.ref ta) :: (.int (nI zt)) :: (.int (nI zo_326)) :: (.int (nI ze)) :: (.ref ou) :: (.ref so) :: (.ref ad) :: (.ref na) :: (.ref va) :: (.ref lc) :: (.ref dm) :: (.int v11_327) :: (.int v12_328) :: (.ref tg) :: (.int v14_329) :: (.int v15_330) :: (.ref pe) :: (.int v17_331) :: (.int v18_332) :: (.int v19_333) :: (.int v20_334) :: (.int v21_335) :: (.int v22_336) :: (.ref ml) :: (.ref bg) :: (.ref co) :: (.ref sp) :: (.ref nb0) :: (.ref nb1) :: (.ref nb2) :: (.int (nI nf)) :: (.int (nI bd)) :: (.int (nI mm)) :: (.int v33_337) :: (.ref pl) :: (.ref se) :: (.ref ke) :: (.ref wi) :: (.ref hs) :: (.ref mo) :: (.ref po) :: (.ref nu) :: (.ref pr) :: (.ref sq) :: (.ref xa) :: (.ref sa) :: (.ref n64) :: (.ref m64) :: (.ref ex) :: (.ref wh) :: (.ref sd) :: (.ref tk) :: (.int v52_338) :: (.int v53_339) :: (.int v54_340) :: (.ref hd) :: (.ref ak) :: (.ref ho) :: (.ref ot) :: []) := (hB1.2.2.2 h0 (by rw [hT_h0]; simp)).trans hF_341
                      have hF_363 : F_358 wi = .inr (13, [.ref x_7, .ref y0_8, .ref y1_9, .ref y2_10, .int (nI z_351)]) := (hB1.2.2.2 wi (by rw [ht_53]; simp)).trans hF_352
                      generalize H1 = H at hP hS ⊢
                      have hw : (r_357 = 0 ∨ r_357 = 1) := hw
                      have hw_364 := hw
                      refine lv_if_eq (tgt := 230) hx hb dX15_wish_225 (by decide) (fun c_365 => ?_) (fun c_365 => ?_)
                      ·
                        refine lv_iconst (v := 0) hx hb dX15_wish_230 (by decide) ?_
                        refine lv_istore (lv' := [(5, .int 0), (4, .int s4), (0, .ref h0), (1, .int x1)]) hx hb dX15_wish_231 hl (by decide) rfl (fun ls hl => ?_)
                        refine W.widen (k := 0) (n := 0) (by omega) (by omega) ?_
                        have hF_367 : F va = .inl (cs 23, 40, .inr (.inr (.inr (.inr f_140)))) := (hR va (by rw [ht_139]; simp)).symm.trans hF_359
                        have hF_368 : F b_143 = .inr (14, [.ref r_144, .int (nI z_151)]) := (hR b_143 (by rw [ht_147]; simp)).symm.trans hF_360
                        have hF_369 : F b_154 = .inr (14, [.ref r_155, .int (nI z_162)]) := (hR b_154 (by rw [ht_158]; simp)).symm.trans hF_361
                        refine pl_loopm (σ := Nat) A (dC, dI) cs ty gm L [ρ, ρ + 6, ρ + 7, ρ + 10, ρ + 11, ρ + 12, ρ + 13, ρ + 14, ρ + 15, ρ + 16, ρ + 17, ρ + 18, ρ + 19, ρ + 20, ρ + 21, ρ + 22, ρ + 23, ρ + 24, ρ + 25, ρ + 26, ρ + 28, ρ + 29, ρ + 30] F 233 6 (fun j => [(5, .int (nI j)), (4, .int s4), (0, .ref h0), (1, .int x1)]) (fun j => []) (fun j _ => j ≤ nf) (fun j => nf - j) ?_ 0 F_358 (by omega) hO hR _ _ hP hD hS ls (lv_sub hl [0, 1, 2, 3] rfl)
                        rintro j F_366 hv_370 hO hR ih_371 H locs hP hD hS ls hl
                        have hl : lv_has ls 6 [(5, .int (nI j)), (4, .int s4), (0, .ref h0), (1, .int x1)] := hl
                        have hv_370 : j ≤ nf := hv_370
                        refine W.eq (g2 := F0 m 233 ls []) rfl ?_
                        have hF_372 : F_366 va = .inl (cs 23, 40, .inr (.inr (.inr (.inr f_140)))) := (hR va (by rw [ht_139]; simp)).trans hF_367
                        have hF_373 : F_366 b_143 = .inr (14, [.ref r_144, .int (nI z_151)]) := (hR b_143 (by rw [ht_147]; simp)).trans hF_368
                        have hF_374 : F_366 b_154 = .inr (14, [.ref r_155, .int (nI z_162)]) := (hR b_154 (by rw [ht_158]; simp)).trans hF_369
                        refine lv_iload hx hb dX15_wish_233 (lv_at hl 0 rfl) ?_
                        refine lv_aload_n hx hb dX15_wish_235 rfl (lv_at hl 2 rfl) ?_
                        obtain ⟨zo_375, v11_376, v12_377, v14_378, v15_379, v17_380, v18_381, v19_382, v20_383, v21_384, v22_385, v33_386, v52_387, v53_388, v54_389, hF_390, hq_391, hq_392, hq_393, hq_394, hq_395⟩ := hO.mod hL_h0 hT_h0
                        refine pg_get (ci := 15) (v := .int (nI nf)) (C := RX15) (T := TX15) (N := 59) hx hb hts it_15 hown hK hP hL_h0 hF_390 rfl 30 (by decide) (hts _ kt_907) (fun _ h9 => h9) rfl dX15_wish_236 ?_
                        refine lv_icmp_ge (tgt := 304) hx hb dX15_wish_239 (by decide) (fun c_396 => ?_) (fun c_396 => ?_)
                        ·
                          have hi_397 : nf ≤ j := leN (N := nf) c_396
                          refine lv_iload hx hb dX15_wish_304 (lv_at hl 1 rfl) ?_
                          refine W.widen (k := 0) (n := 0) (by omega) (by omega) ?_
                          exact W.iret (v := s4) hx hb hr (fun t ht hWm => ⟨⟨s4, (), rfl, trivial, ⟨F_366, QTm.mk ht hP hD hO hR⟩⟩, hS.F ht⟩) hS.2.2 dX15_wish_306
                        ·
                          have hi_398 : j < nf := ltN (N := nf) c_396
                          refine lv_aload_n hx hb dX15_wish_242 rfl (lv_at hl 2 rfl) ?_
                          refine lv_iload hx hb dX15_wish_243 (lv_at hl 0 rfl) ?_
                          obtain ⟨q_399, v_400, hr_q_399, hX_q_399⟩ := hG.2.2 ("PostGateModel", 376, "dkim-signature", [100, 107, 105, 109, 45, 115, 105, 103, 110, 97, 116, 117, 114, 101]) (by decide +kernel)
                          have hX_q_399 : SXc q_399 v_400 14 (cct [100, 107, 105, 109, 45, 115, 105, 103, 110, 97, 116, 117, 114, 101]) A s s.heap := hX_q_399
                          obtain ⟨xo_q_399, xc_q_399, xv_q_399, xt_q_399, xn_q_399⟩ := id hX_q_399
                          have hr_q_399 : vk_R "PostGateModel" 376 "dkim-signature" q_399 s := hr_q_399
                          refine va_ldcwS hx hb hown hr_q_399 dX15_wish_245 ?_
                          have hFc := pg_free hD hS hA
                          refine va_calli (va_runV (As := [.int (nI j), .ref q_399]) (rest := []) ⟨hx, hb, hml, hown, hts⟩ (s_X15_isNamed l dC dI cs ty gm L H.size F_366 h0 ρ ta ou so ad na va lc dm tg pe ml bg co sp nb0 nb1 nb2 pl se ke wi hs mo po nu pr sq xa sa n64 m64 ex wh sd tk hd ak ho ot sx s0 s1 s2 nf bd mm ze zt j q_399 v_400 14 (cct [100, 107, 105, 109, 45, 115, 105, 103, 110, 97, 116, 117, 114, 101]) hW hL_h0 hT_h0 (by first | omega | assumption)) ⟨callB_of 2 hts (gi kt_908) rfl rfl rfl (hts _ kt_669) (hts _ kt_909) (by decide +kernel) ⟨Nat.le_of_ble_eq_true rfl, Nat.le_of_ble_eq_true rfl⟩, (hts _ kt_910), (hts _ kt_911)⟩ ⟨fun a U g mk q => ⟨q.1, PTEm.calling q.2⟩, pg_recv hK hP hL_h0 hF_390 (q := (RX15, TX15, 59)) rfl, fun U hU hWm => ⟨rfl, PTEm.mk hU hWm hP hK hD hE hO hG (fun x hx => by rw [List.mem_singleton] at hx; subst hx; exact hX_q_399) hS hFc⟩⟩ rfl rfl hl.1 rfl (lv_room (Nat.le_of_ble_eq_true rfl)) dX15_wish_248 ⟨by show _ + 0 ≤ 0; omega, by show _ + 0 ≤ 0; omega⟩) hS (fun q _ h => hFc q h) hFc (fun r_401 u t H1 locs ht hvm hw hB hz1 hk1 hS => ?_)
                          obtain ⟨F_402, hB1⟩ := hB
                          obtain rfl : F_366 = F_402 := (funext (fun a => hB1.2.2.2 a List.not_mem_nil)).symm
                          obtain ⟨hP, hD, hO, hR⟩ := QTm.back hB1 ht hFc hR (fun q h => absurd h List.not_mem_nil)
                          generalize H1 = H at hP hS ⊢
                          have hw : (r_401 = 0 ∨ r_401 = 1) := hw
                          have hw_403 := hw
                          refine lv_if_eq (tgt := 298) hx hb dX15_wish_251 (by decide) (fun c_404 => ?_) (fun c_404 => ?_)
                          ·
                            refine lv_iinc (v := (nI (j + 1))) (lv' := [(5, .int (nI (j + 1))), (4, .int s4), (0, .ref h0), (1, .int x1)]) hx hb dX15_wish_298 hl (k := 0) rfl (nI_1 _) (by decide) rfl (fun ls hl => ?_)
                            refine lv_goto (tgt := 233) hx hb dX15_wish_301 (by decide) ?_
                            refine W.widen (k := 0) (n := 0) (by omega) (by omega) ?_
                            exact ih_371 (j + 1) F_366 (by first | omega | exact ⟨by omega, by omega⟩ | trivial) (by show nf - (j + 1) < nf - j; omega) hO hR _ _ hP hD hS ls (lv_sub hl [0, 1, 2, 3] rfl)
                          ·
                            refine lv_aload_n hx hb dX15_wish_254 rfl (lv_at hl 2 rfl) ?_
                            refine lv_iload hx hb dX15_wish_255 (lv_at hl 0 rfl) ?_
                            refine lv_iload_n hx hb dX15_wish_257 rfl (lv_at hl 3 rfl) ?_
                            have hFc := pg_free hD hS hA
                            refine va_calli (va_runV (As := [.int (nI j), .int x1]) (rest := []) ⟨hx, hb, hml, hown, hts⟩ (s_X15_sealOf l dC dI cs ty gm L H.size F_366 h0 ρ ta ou so ad na va lc dm tg pe ml bg co sp nb0 nb1 nb2 pl se ke wi hs mo po nu pr sq xa sa n64 m64 ex wh sd tk hd ak ho ot sx s0 s1 s2 nf bd mm ze zt sb rl j x1 hW hL_h0 hT_h0 hL_sx hT_sx hL_pl hT_pl (by first | omega | assumption)) ⟨callB_of 2 hts (gi kt_1041) rfl rfl rfl (hts _ kt_669) (hts _ kt_1042) (by decide +kernel) ⟨Nat.le_of_ble_eq_true rfl, Nat.le_of_ble_eq_true rfl⟩, (hts _ kt_1043), (hts _ kt_1044)⟩ ⟨fun a U g mk q => ⟨q.1, PTEm.calling q.2⟩, pg_recv hK hP hL_h0 hF_390 (q := (RX15, TX15, 59)) rfl, fun U hU hWm => ⟨rfl, PTEm.mk hU hWm hP hK hD hE hO hG (fun x hx => absurd hx List.not_mem_nil) hS hFc⟩⟩ rfl rfl hl.1 rfl (lv_room (Nat.le_of_ble_eq_true rfl)) dX15_wish_258 ⟨by show _ + 0 ≤ 0; omega, by show _ + 0 ≤ 0; omega⟩) hS (fun q _ h => hFc q h) hFc (fun r_405 u t H1 locs ht hvm hw hB hz1 hk1 hS => ?_)
                            obtain ⟨F_406, hB1⟩ := hB
                            obtain ⟨hP, hD, hO, hR⟩ := QTm.back hB1 ht hFc hR (fun q h => by simp only [List.mem_cons, List.not_mem_nil, or_false] at h ⊢; omega)
                            have hF_407 : F_406 va = .inl (cs 23, 40, .inr (.inr (.inr (.inr f_140)))) := (hB1.2.2.2 va (by rw [ht_139]; simp)).trans hF_372
                            have hF_408 : F_406 b_143 = .inr (14, [.ref r_144, .int (nI z_151)]) := (hB1.2.2.2 b_143 (by rw [ht_147]; simp)).trans hF_373
                            have hF_409 : F_406 b_154 = .inr (14, [.ref r_155, .int (nI z_162)]) := (hB1.2.2.2 b_154 (by rw [ht_158]; simp)).trans hF_374
                            generalize H1 = H at hP hS ⊢
                            have hw : True := hw
                            have hw_410 := hw
                            refine lv_iconst (v := 2) hx hb dX15_wish_261 (by decide) ?_
                            refine lv_icmp_eq (tgt := 268) hx hb dX15_wish_262 (by decide) (fun c_411 => ?_) (fun c_411 => ?_)
                            ·
                              refine lv_aload_n hx hb dX15_wish_268 rfl (lv_at hl 2 rfl) ?_
                              refine lv_aload_n hx hb dX15_wish_269 rfl (lv_at hl 2 rfl) ?_
                              obtain ⟨zo_412, v11_413, v12_414, v14_415, v15_416, v17_417, v18_418, v19_419, v20_420, v21_421, v22_422, v33_423, v52_424, v53_425, v54_426, hF_427, hq_428, hq_429, hq_430, hq_431, hq_432⟩ := hO.mod hL_h0 hT_h0
                              refine pg_get (ci := 15) (v := .ref sd) (C := RX15) (T := TX15) (N := 59) hx hb hts it_15 hown hK hP hL_h0 hF_427 rfl 50 (by decide) (hts _ kt_1017) (fun _ h9 => h9) rfl dX15_wish_270 ?_
                              refine lv_aload_n hx hb dX15_wish_273 rfl (lv_at hl 2 rfl) ?_
                              refine pg_get (ci := 15) (v := .ref ak) (C := RX15) (T := TX15) (N := 59) hx hb hts it_15 hown hK hP hL_h0 hF_427 rfl 56 (by decide) (hts _ kt_1045) (fun _ h9 => h9) rfl dX15_wish_274 ?_
                              refine lv_aload_n hx hb dX15_wish_277 rfl (lv_at hl 2 rfl) ?_
                              refine pg_get (ci := 15) (v := .ref wi) (C := RX15) (T := TX15) (N := 59) hx hb hts it_15 hown hK hP hL_h0 hF_427 rfl 37 (by decide) (hts _ kt_1058) (fun _ h9 => h9) rfl dX15_wish_278 ?_
                              obtain ⟨q_433, v_434, hr_q_433, hX_q_433⟩ := hG.2.2 ("PostGateModel", 601, "adkim", [97, 100, 107, 105, 109]) (by decide +kernel)
                              have hX_q_433 : SXc q_433 v_434 5 (cct [97, 100, 107, 105, 109]) A s s.heap := hX_q_433
                              obtain ⟨xo_q_433, xc_q_433, xv_q_433, xt_q_433, xn_q_433⟩ := id hX_q_433
                              have hr_q_433 : vk_R "PostGateModel" 601 "adkim" q_433 s := hr_q_433
                              refine va_ldcwS hx hb hown hr_q_433 dX15_wish_281 ?_
                              refine va_ldcwS hx hb hown hr_q_349 dX15_wish_284 ?_
                              obtain ⟨z_435, hF_436, hq_437⟩ := hO.tags hi_52 ht_53
                              have hFc := pg_free hD hS hA
                              refine va_calli (va_runV (As := [.ref q_433, .ref q_349]) (rest := [.ref ak, .ref sd, .ref h0]) ⟨hx, hb, hml, hown, hts⟩ (s_X13_has l dC dI cs ty gm L H.size F_406 wi (ρ + 15) x_7 700 700 y0_8 y1_9 y2_10 r_58 z_435 q_433 v_434 5 (cct [97, 100, 107, 105, 109]) q_349 v_350 1 (cct [115]) hW hi_52 ht_53 hi_54 ht_59 hF_436 (by first | omega | assumption)) ⟨callB_of 2 hts (gi kt_878) rfl rfl rfl (hts _ kt_844) (hts _ kt_879) (by decide +kernel) ⟨Nat.le_of_ble_eq_true rfl, Nat.le_of_ble_eq_true rfl⟩, (hts _ kt_880), (hts _ kt_881)⟩ ⟨fun a U g mk q => ⟨q.1, PTEm.calling q.2⟩, pg_recv hK hP hi_52 hF_436 (q := (RX13, TX13, 5)) rfl, fun U hU hWm => ⟨rfl, PTEm.mk hU hWm hP hK hD hE hO hG (fun x hx => by simp only [List.mem_cons, List.not_mem_nil, or_false] at hx; rcases hx with hx | hx <;> subst hx <;> first | exact hX_q_433 | exact hX_q_349) hS hFc⟩⟩ rfl rfl hl.1 rfl (lv_room (Nat.le_of_ble_eq_true rfl)) dX15_wish_287 ⟨by show _ + 0 ≤ 0; omega, by show _ + 0 ≤ 0; omega⟩) hS (fun q _ h => hFc q h) hFc (fun r_438 u t H1 locs ht hvm hw hB hz1 hk1 hS => ?_)
                              obtain ⟨F_439, hB1⟩ := hB
                              obtain rfl : F_406 = F_439 := (funext (fun a => hB1.2.2.2 a List.not_mem_nil)).symm
                              obtain ⟨hP, hD, hO, hR⟩ := QTm.back hB1 ht hFc hR (fun q h => absurd h List.not_mem_nil)
                              generalize H1 = H at hP hS ⊢
                              have hw : (r_438 = 0 ∨ r_438 = 1) := hw
                              have hw_440 := hw
                              have hFc := pg_free hD hS hA
                              refine va_calli (va_runV (As := [.ref sd, .ref ak, .int r_438]) (rest := []) ⟨hx, hb, hml, hown, hts⟩ (s_X15_isAligned l dC dI cs ty gm L H.size F_406 h0 ρ ta ou so ad na va lc dm tg pe ml bg co sp nb0 nb1 nb2 pl se ke wi hs mo po nu pr sq xa sa n64 m64 ex wh sd tk hd ak ho ot sx s0 s1 s2 nf bd mm ze zt sd (ρ + 25) r_17 3000 ak (ρ + 28) rak 6000 r_438 hW hL_h0 hT_h0 hi_70 ht_71 hL_ak hT_ak (by first | omega | assumption) (by first | omega | assumption)) ⟨callB_of 3 hts (gi kt_1066) rfl rfl rfl (hts _ kt_669) (hts _ kt_1067) (by decide +kernel) ⟨Nat.le_of_ble_eq_true rfl, Nat.le_of_ble_eq_true rfl⟩, (hts _ kt_1068), (hts _ kt_1069)⟩ ⟨fun a U g mk q => ⟨q.1, PTm.calling q.2⟩, pg_recv hK hP hL_h0 hF_427 (q := (RX15, TX15, 59)) rfl, fun U hU hWm => ⟨rfl, PTm.mk hU hWm hP hK hD hE hO⟩⟩ rfl rfl hl.1 rfl (lv_room (Nat.le_of_ble_eq_true rfl)) dX15_wish_290 ⟨by show _ + 0 ≤ 0; omega, by show _ + 0 ≤ 0; omega⟩) hS (fun q _ h => hFc q h) hFc (fun r_441 u t H1 locs ht hvm hw hB hz1 hk1 hS => ?_)
                              obtain ⟨F_442, hB1⟩ := hB
                              obtain ⟨hP, hD, hO, hR⟩ := QTm.back hB1 ht hFc hR (fun q h => by simp only [List.mem_cons, List.not_mem_nil, or_false] at h ⊢; omega)
                              have hF_443 : F_442 va = .inl (cs 23, 40, .inr (.inr (.inr (.inr f_140)))) := (hB1.2.2.2 va (by rw [ht_139]; simp)).trans hF_407
                              have hF_444 : F_442 b_143 = .inr (14, [.ref r_144, .int (nI z_151)]) := (hB1.2.2.2 b_143 (by rw [ht_147]; simp)).trans hF_408
                              have hF_445 : F_442 b_154 = .inr (14, [.ref r_155, .int (nI z_162)]) := (hB1.2.2.2 b_154 (by rw [ht_158]; simp)).trans hF_409
                              have hF_446 : F_442 h0 = .inr (15, (.ref ta) :: (.int (nI zt)) :: (.int (nI zo_412)) :: (.int (nI ze)) :: (.ref ou) :: (.ref so) :: (.ref ad) :: (.ref na) :: (.ref va) :: (.ref lc) :: (.ref dm) :: (.int v11_413) :: (.int v12_414) :: (.ref tg) :: (.int v14_415) :: (.int v15_416) :: (.ref pe) :: (.int v17_417) :: (.int v18_418) :: (.int v19_419) :: (.int v20_420) :: (.int v21_421) :: (.int v22_422) :: (.ref ml) :: (.ref bg) :: (.ref co) :: (.ref sp) :: (.ref nb0) :: (.ref nb1) :: (.ref nb2) :: (.int (nI nf)) :: (.int (nI bd)) :: (.int (nI mm)) :: (.int v33_423) :: (.ref pl) :: (.ref se) :: (.ref ke) :: (.ref wi) :: (.ref hs) :: (.ref mo) :: (.ref po) :: (.ref nu) :: (.ref pr) :: (.ref sq) :: (.ref xa) :: (.ref sa) :: (.ref n64) :: (.ref m64) :: (.ref ex) :: (.ref wh) :: (.ref sd) :: (.ref tk) :: (.int v52_424) :: (.int v53_425) :: (.int v54_426) :: (.ref hd) :: (.ref ak) :: (.ref ho) :: (.ref ot) :: []) := (hB1.2.2.2 h0 (by rw [hT_h0]; simp)).trans hF_427
                              have hF_447 : F_442 wi = .inr (13, [.ref x_7, .ref y0_8, .ref y1_9, .ref y2_10, .int (nI z_435)]) := (hB1.2.2.2 wi (by rw [ht_53]; simp)).trans hF_436
                              generalize H1 = H at hP hS ⊢
                              have hw : (r_441 = 0 ∨ r_441 = 1) := hw
                              have hw_448 := hw
                              refine lv_if_eq (tgt := 298) hx hb dX15_wish_293 (by decide) (fun c_449 => ?_) (fun c_449 => ?_)
                              ·
                                refine lv_iinc (v := (nI (j + 1))) (lv' := [(5, .int (nI (j + 1))), (4, .int s4), (0, .ref h0), (1, .int x1)]) hx hb dX15_wish_298 hl (k := 0) rfl (nI_1 _) (by decide) rfl (fun ls hl => ?_)
                                refine lv_goto (tgt := 233) hx hb dX15_wish_301 (by decide) ?_
                                refine W.widen (k := 0) (n := 0) (by omega) (by omega) ?_
                                exact ih_371 (j + 1) F_442 (by first | omega | exact ⟨by omega, by omega⟩ | trivial) (by show nf - (j + 1) < nf - j; omega) hO hR _ _ hP hD hS ls (lv_sub hl [0, 1, 2, 3] rfl)
                              ·
                                refine lv_iconst (v := 2) hx hb dX15_wish_296 (by decide) ?_
                                refine W.widen (k := 0) (n := 0) (by omega) (by omega) ?_
                                exact W.iret (v := 2) hx hb hr (fun t ht hWm => ⟨⟨2, (), rfl, trivial, ⟨F_442, QTm.mk ht hP hD hO hR⟩⟩, hS.F ht⟩) hS.2.2 dX15_wish_297
                            ·
                              refine lv_goto (tgt := 298) hx hb dX15_wish_265 (by decide) ?_
                              refine lv_iinc (v := (nI (j + 1))) (lv' := [(5, .int (nI (j + 1))), (4, .int s4), (0, .ref h0), (1, .int x1)]) hx hb dX15_wish_298 hl (k := 0) rfl (nI_1 _) (by decide) rfl (fun ls hl => ?_)
                              refine lv_goto (tgt := 233) hx hb dX15_wish_301 (by decide) ?_
                              refine W.widen (k := 0) (n := 0) (by omega) (by omega) ?_
                              exact ih_371 (j + 1) F_406 (by first | omega | exact ⟨by omega, by omega⟩ | trivial) (by show nf - (j + 1) < nf - j; omega) hO hR _ _ hP hD hS ls (lv_sub hl [0, 1, 2, 3] rfl)
                      ·
                        refine lv_iconst (v := 2) hx hb dX15_wish_228 (by decide) ?_
                        refine W.widen (k := 0) (n := 0) (by omega) (by omega) ?_
                        exact W.iret (v := 2) hx hb hr (fun t ht hWm => ⟨⟨2, (), rfl, trivial, ⟨F_358, QTm.mk ht hP hD hO hR⟩⟩, hS.F ht⟩) hS.2.2 dX15_wish_229
                  ·
                    refine lv_iload_n hx hb dX15_wish_153 rfl (lv_at hl 2 rfl) ?_
                    refine lv_if_ne (tgt := 192) hx hb dX15_wish_154 (by decide) (fun c_450 => ?_) (fun c_450 => ?_)
                    ·
                      refine W.widen (k := 0) (n := 0) (by omega) (by omega) ?_
                      exact jn_203 r_199 F_185 (trivial) hO hR _ _ hP hD hS ls (lv_sub hl [0, 3, 4] rfl)
                    ·
                      refine lv_aload_n hx hb dX15_wish_157 rfl (lv_at hl 3 rfl) ?_
                      refine pg_get (ci := 15) (v := .ref wi) (C := RX15) (T := TX15) (N := 59) hx hb hts it_15 hown hK hP hL_h0 hF_190 rfl 37 (by decide) (hts _ kt_1058) (fun _ h9 => h9) rfl dX15_wish_158 ?_
                      obtain ⟨q_451, v_452, hr_q_451, hX_q_451⟩ := hG.2.2 ("PostGateModel", 590, "sp", [115, 112]) (by decide +kernel)
                      have hX_q_451 : SXc q_451 v_452 2 (cct [115, 112]) A s s.heap := hX_q_451
                      obtain ⟨xo_q_451, xc_q_451, xv_q_451, xt_q_451, xn_q_451⟩ := id hX_q_451
                      have hr_q_451 : vk_R "PostGateModel" 590 "sp" q_451 s := hr_q_451
                      refine va_ldcwS hx hb hown hr_q_451 dX15_wish_161 ?_
                      have hFc := pg_free hD hS hA
                      refine va_calli (va_runV (As := [.ref q_451]) (rest := []) ⟨hx, hb, hml, hown, hts⟩ (s_X13_find l dC dI cs ty gm L H.size F_185 wi (ρ + 15) x_7 700 700 y0_8 y1_9 y2_10 r_58 z2_186 q_451 v_452 2 (cct [115, 112]) hW hi_52 ht_53 hi_54 ht_59 hq_187 (by first | omega | assumption)) ⟨callB_of 1 hts (gi kt_843) rfl rfl rfl (hts _ kt_844) (hts _ kt_854) (by decide +kernel) ⟨Nat.le_of_ble_eq_true rfl, Nat.le_of_ble_eq_true rfl⟩, (hts _ kt_846), (hts _ kt_847)⟩ ⟨fun a U g mk q => ⟨q.1, PTEm.calling q.2⟩, pg_recv hK hP hi_52 hq_187 (q := (RX13, TX13, 5)) rfl, fun U hU hWm => ⟨rfl, PTEm.mk hU hWm hP hK hD hE hO hG (fun x hx => by rw [List.mem_singleton] at hx; subst hx; exact hX_q_451) hS hFc⟩⟩ rfl rfl hl.1 rfl (lv_room (Nat.le_of_ble_eq_true rfl)) dX15_wish_164 ⟨by show _ + 0 ≤ 0; omega, by show _ + 0 ≤ 0; omega⟩) hS (fun q _ h => hFc q h) hFc (fun r_453 u t H1 locs ht hvm hw hB hz1 hk1 hS => ?_)
                      obtain ⟨F_454, hB1⟩ := hB
                      obtain rfl : F_185 = F_454 := (funext (fun a => hB1.2.2.2 a List.not_mem_nil)).symm
                      obtain ⟨hP, hD, hO, hR⟩ := QTm.back hB1 ht hFc hR (fun q h => absurd h List.not_mem_nil)
                      generalize H1 = H at hP hS ⊢
                      have hw : FND (gA (F_185 r_58)) (gA (F_185 y0_8)) (gA (F_185 y1_9)) z2_186 (cct [115, 112]) 2 r_453 := hw
                      have hw_455 := hw
                      refine lv_if_lt (tgt := 192) hx hb dX15_wish_167 (by decide) (fun c_456 => ?_) (fun c_456 => ?_)
                      ·
                        refine W.widen (k := 0) (n := 0) (by omega) (by omega) ?_
                        exact jn_203 r_199 F_185 (trivial) hO hR _ _ hP hD hS ls (lv_sub hl [0, 3, 4] rfl)
                      ·
                        refine lv_aload_n hx hb dX15_wish_170 rfl (lv_at hl 3 rfl) ?_
                        refine pg_get (ci := 15) (v := .ref wi) (C := RX15) (T := TX15) (N := 59) hx hb hts it_15 hown hK hP hL_h0 hF_190 rfl 37 (by decide) (hts _ kt_1058) (fun _ h9 => h9) rfl dX15_wish_171 ?_
                        refine va_ldcwS hx hb hown hr_q_451 dX15_wish_174 ?_
                        have hFc := pg_free hD hS hA
                        refine va_calli (va_runS (As := [.ref wi, .ref q_451]) (rest := []) ⟨hx, hb, hml, hown, hts⟩ (s_X15_wanted l dC dI cs ty gm L H.size F_185 wi (ρ + 15) x_7 700 700 y0_8 y1_9 y2_10 r_58 z2_186 q_451 v_452 2 (cct [115, 112]) hW hi_52 ht_53 hi_54 ht_59 hq_187 (by first | omega | assumption)) ⟨callB_of 2 hts (gi kt_1059) rfl rfl rfl (hts _ kt_669) (hts _ kt_1060) (by decide +kernel) ⟨Nat.le_of_ble_eq_true rfl, Nat.le_of_ble_eq_true rfl⟩, (hts _ kt_1061)⟩ ⟨fun a U g mk q => ⟨q.1, PTEm.calling q.2⟩, fun U hU hWm => ⟨rfl, PTEm.mk hU hWm hP hK hD hE hO hG (fun x hx => by rw [List.mem_singleton] at hx; subst hx; exact hX_q_451) hS hFc⟩⟩ rfl rfl hl.1 rfl (lv_room (Nat.le_of_ble_eq_true rfl)) dX15_wish_177 ⟨by show _ + 0 ≤ 0; omega, by show _ + 0 ≤ 0; omega⟩) hS (fun q _ h => hFc q h) hFc (fun r_457 u t H1 locs ht hvm hw hB hz1 hk1 hS => ?_)
                        obtain ⟨F_458, hB1⟩ := hB
                        obtain rfl : F_185 = F_458 := (funext (fun a => hB1.2.2.2 a List.not_mem_nil)).symm
                        obtain ⟨hP, hD, hO, hR⟩ := QTm.back hB1 ht hFc hR (fun q h => absurd h List.not_mem_nil)
                        generalize H1 = H at hP hS ⊢
                        have hw : True := hw
                        have hw_459 := hw
                        refine lv_istore (lv' := [(4, .int r_457), (3, .int (nI kv)), (2, .int sw2), (0, .ref h0), (1, .int x1)]) hx hb dX15_wish_180 hl (by decide) rfl (fun ls hl => ?_)
                        refine lv_iload hx hb dX15_wish_182 (lv_at hl 0 rfl) ?_
                        refine lv_bipush (v := 6) hx hb dX15_wish_184 (by decide) ?_
                        refine lv_icmp_ne (tgt := 192) hx hb dX15_wish_186 (by decide) (fun c_460 => ?_) (fun c_460 => ?_)
                        ·
                          refine W.widen (k := 0) (n := 0) (by omega) (by omega) ?_
                          exact jn_203 r_457 F_185 (trivial) hO hR _ _ hP hD hS ls (lv_sub hl [0, 3, 4] rfl)
                        ·
                          refine lv_bipush (v := 6) hx hb dX15_wish_189 (by decide) ?_
                          refine W.widen (k := 0) (n := 0) (by omega) (by omega) ?_
                          exact W.iret (v := 6) hx hb hr (fun t ht hWm => ⟨⟨6, (), rfl, trivial, ⟨F_185, QTm.mk ht hP hD hO hR⟩⟩, hS.F ht⟩) hS.2.2 dX15_wish_191
                ·
                  refine lv_bipush (v := 6) hx hb dX15_wish_150 (by decide) ?_
                  refine W.widen (k := 0) (n := 0) (by omega) (by omega) ?_
                  exact W.iret (v := 6) hx hb hr (fun t ht hWm => ⟨⟨6, (), rfl, trivial, ⟨F_185, QTm.mk ht hP hD hO hR⟩⟩, hS.F ht⟩) hS.2.2 dX15_wish_152
              ·
                refine lv_bipush (v := 6) hx hb dX15_wish_128 (by decide) ?_
                refine W.widen (k := 0) (n := 0) (by omega) (by omega) ?_
                exact W.iret (v := 6) hx hb hr (fun t ht hWm => ⟨⟨6, (), rfl, trivial, ⟨F_185, QTm.mk ht hP hD hO hR⟩⟩, hS.F ht⟩) hS.2.2 dX15_wish_130
            ·
              refine lv_iload_n hx hb dX15_wish_75 rfl (lv_at hl 0 rfl) ?_
              refine lv_bipush (v := (-2)) hx hb dX15_wish_76 (by decide) ?_
              refine lv_icmp_ne (tgt := 85) hx hb dX15_wish_78 (by decide) (fun c_461 => ?_) (fun c_461 => ?_)
              ·
                refine lv_iconst (v := 0) hx hb dX15_wish_85 (by decide) ?_
                refine W.widen (k := 0) (n := 0) (by omega) (by omega) ?_
                exact W.iret (v := 0) hx hb hr (fun t ht hWm => ⟨⟨0, (), rfl, trivial, ⟨F_114, QTm.mk ht hP hD hO hR⟩⟩, hS.F ht⟩) hS.2.2 dX15_wish_86
              ·
                refine lv_iconst (v := 5) hx hb dX15_wish_81 (by decide) ?_
                refine lv_goto (tgt := 86) hx hb dX15_wish_82 (by decide) ?_
                refine W.widen (k := 0) (n := 0) (by omega) (by omega) ?_
                exact W.iret (v := 5) hx hb hr (fun t ht hWm => ⟨⟨5, (), rfl, trivial, ⟨F_114, QTm.mk ht hP hD hO hR⟩⟩, hS.F ht⟩) hS.2.2 dX15_wish_86
          ·
            refine lv_iload_n hx hb dX15_wish_43 rfl (lv_at hl 0 rfl) ?_
            refine lv_iconst (v := (-1)) hx hb dX15_wish_44 (by decide) ?_
            refine lv_icmp_ne (tgt := 71) hx hb dX15_wish_45 (by decide) (fun c_462 => ?_) (fun c_462 => ?_)
            ·
              refine W.widen (k := 0) (n := 0) (by omega) (by omega) ?_
              exact jn_113 (r_108, 1) F_109 (⟨hw_112, hF_111⟩) hO hR _ _ hP hD hS ls (lv_sub hl [0, 1, 2, 3] rfl)
            ·
              refine lv_iconst (v := 0) hx hb dX15_wish_48 (by decide) ?_
              refine lv_istore_n (lv' := [(2, .int 0), (3, .int r_108), (0, .ref h0), (1, .int x1)]) hx hb dX15_wish_49 rfl hl (by decide) rfl (fun ls hl => ?_)
              refine lv_aload_n hx hb dX15_wish_50 rfl (lv_at hl 2 rfl) ?_
              refine lv_aload_n hx hb dX15_wish_51 rfl (lv_at hl 2 rfl) ?_
              refine pg_get (ci := 15) (v := .ref ak) (C := RX15) (T := TX15) (N := 59) hx hb hts it_15 hown hK hP hL_h0 hF_110 rfl 56 (by decide) (hts _ kt_1045) (fun _ h9 => h9) rfl dX15_wish_52 ?_
              refine lv_aload_n hx hb dX15_wish_55 rfl (lv_at hl 2 rfl) ?_
              refine pg_get (ci := 15) (v := .ref ho) (C := RX15) (T := TX15) (N := 59) hx hb hts it_15 hown hK hP hL_h0 hF_110 rfl 57 (by decide) (hts _ kt_1007) (fun _ h9 => h9) rfl dX15_wish_56 ?_
              have hFc := pg_free hD hS hA
              refine va_callv (va_runV (As := [.ref ak, .ref ho]) (rest := []) ⟨hx, hb, hml, hown, hts⟩ (s_X15_houseOf l dC dI cs ty gm L H.size F_109 h0 ρ ta ou so ad na va lc dm tg pe ml bg co sp nb0 nb1 nb2 pl se ke wi hs mo po nu pr sq xa sa n64 m64 ex wh sd tk hd ak ho ot sx s0 s1 s2 nf bd mm ze zt ak (ρ + 28) rak 6000 ho (ρ + 29) r_18 6000 za_102 hW hL_h0 hT_h0 hL_ak hT_ak hi_47 ht_48 hF_111 (by first | omega | assumption) (by first | omega | assumption)) ⟨callB_of 2 hts (gi kt_1008) rfl rfl rfl (hts _ kt_669) (hts _ kt_1009) (by decide +kernel) ⟨Nat.le_of_ble_eq_true rfl, Nat.le_of_ble_eq_true rfl⟩, (hts _ kt_1010), (hts _ kt_1011)⟩ ⟨fun a U g mk q => ⟨q.1, PTm.calling q.2⟩, pg_recv hK hP hL_h0 hF_110 (q := (RX15, TX15, 59)) rfl, fun U hU hWm => ⟨rfl, PTm.mk hU hWm hP hK hD hE hO⟩⟩ rfl rfl hl.1 rfl (lv_room (Nat.le_of_ble_eq_true rfl)) dX15_wish_59 ⟨by show _ + 0 ≤ 0; omega, by show _ + 0 ≤ 0; omega⟩) hS (fun q _ h => hFc q h) hFc (fun u t H1 locs ht hvm hw hB hz1 hk1 hS => ?_)
              obtain ⟨F_464, y2_465, hB1, hq_466, hq_467⟩ := hB
              obtain ⟨hP, hD, hO, hR⟩ := QTm.back hB1 ht hFc hR (fun q h => by simp only [List.mem_cons, List.not_mem_nil, or_false] at h ⊢; omega)
              have hF_468 : F_464 h0 = .inr (15, (.ref ta) :: (.int (nI zt)) :: (.int (nI zo_75)) :: (.int (nI ze)) :: (.ref ou) :: (.ref so) :: (.ref ad) :: (.ref na) :: (.ref va) :: (.ref lc) :: (.ref dm) :: (.int v11_76) :: (.int v12_77) :: (.ref tg) :: (.int v14_78) :: (.int v15_79) :: (.ref pe) :: (.int v17_80) :: (.int v18_81) :: (.int v19_82) :: (.int v20_83) :: (.int v21_84) :: (.int v22_85) :: (.ref ml) :: (.ref bg) :: (.ref co) :: (.ref sp) :: (.ref nb0) :: (.ref nb1) :: (.ref nb2) :: (.int (nI nf)) :: (.int (nI bd)) :: (.int (nI mm)) :: (.int v33_86) :: (.ref pl) :: (.ref se) :: (.ref ke) :: (.ref wi) :: (.ref hs) :: (.ref mo) :: (.ref po) :: (.ref nu) :: (.ref pr) :: (.ref sq) :: (.ref xa) :: (.ref sa) :: (.ref n64) :: (.ref m64) :: (.ref ex) :: (.ref wh) :: (.ref sd) :: (.ref tk) :: (.int v52_87) :: (.int v53_88) :: (.int v54_89) :: (.ref hd) :: (.ref ak) :: (.ref ho) :: (.ref ot) :: []) := (hB1.2.2.2 h0 (by rw [hT_h0]; simp)).trans hF_110
              have hF_469 : F_464 ak = .inr (14, [.ref rak, .int (nI za_102)]) := (hB1.2.2.2 ak (by rw [hT_ak]; simp)).trans hF_111
              generalize H1 = H at hP hS ⊢
              refine lv_aload_n hx hb dX15_wish_62 rfl (lv_at hl 2 rfl) ?_
              refine lv_aload_n hx hb dX15_wish_63 rfl (lv_at hl 2 rfl) ?_
              refine pg_get (ci := 15) (v := .ref ho) (C := RX15) (T := TX15) (N := 59) hx hb hts it_15 hown hK hP hL_h0 hF_468 rfl 57 (by decide) (hts _ kt_1007) (fun _ h9 => h9) rfl dX15_wish_64 ?_
              have hFc := pg_free hD hS hA
              refine va_calli (va_runV (As := [.ref ho]) (rest := []) ⟨hx, hb, hml, hown, hts⟩ (s_X15_wantedOf l dC dI cs ty gm L H.size F_464 h0 ρ ta ou so ad na va lc dm tg pe ml bg co sp nb0 nb1 nb2 pl se ke wi hs mo po nu pr sq xa sa n64 m64 ex wh sd tk hd ak ho ot sx s0 s1 s2 nf bd mm ze zt ho (ρ + 29) r_18 6000 y2_465 hW hL_h0 hT_h0 hi_47 ht_48 hq_466 (by first | omega | assumption) (by first | omega | assumption) (by first | omega | assumption)) ⟨callB_of 1 hts (gi kt_1054) rfl rfl rfl (hts _ kt_669) (hts _ kt_1055) (by decide +kernel) ⟨Nat.le_of_ble_eq_true rfl, Nat.le_of_ble_eq_true rfl⟩, (hts _ kt_1056), (hts _ kt_1057)⟩ ⟨fun a U g mk q => ⟨q.1, PTEm.calling q.2⟩, pg_recv hK hP hL_h0 hF_468 (q := (RX15, TX15, 59)) rfl, fun U hU hWm => ⟨rfl, PTEm.mk hU hWm hP hK hD hE hO hG (fun x hx => absurd hx List.not_mem_nil) hS hFc⟩⟩ rfl rfl hl.1 rfl (lv_room (Nat.le_of_ble_eq_true rfl)) dX15_wish_67 ⟨by show _ + 0 ≤ 0; omega, by show _ + 0 ≤ 0; omega⟩) hS (fun q _ h => hFc q h) hFc (fun r_470 u t H1 locs ht hvm hw hB hz1 hk1 hS => ?_)
              obtain ⟨F_471, hB1⟩ := hB
              obtain ⟨hP, hD, hO, hR⟩ := QTm.back hB1 ht hFc hR (fun q h => by simp only [List.mem_cons, List.not_mem_nil, or_false] at h ⊢; omega)
              have hF_472 : F_471 h0 = .inr (15, (.ref ta) :: (.int (nI zt)) :: (.int (nI zo_75)) :: (.int (nI ze)) :: (.ref ou) :: (.ref so) :: (.ref ad) :: (.ref na) :: (.ref va) :: (.ref lc) :: (.ref dm) :: (.int v11_76) :: (.int v12_77) :: (.ref tg) :: (.int v14_78) :: (.int v15_79) :: (.ref pe) :: (.int v17_80) :: (.int v18_81) :: (.int v19_82) :: (.int v20_83) :: (.int v21_84) :: (.int v22_85) :: (.ref ml) :: (.ref bg) :: (.ref co) :: (.ref sp) :: (.ref nb0) :: (.ref nb1) :: (.ref nb2) :: (.int (nI nf)) :: (.int (nI bd)) :: (.int (nI mm)) :: (.int v33_86) :: (.ref pl) :: (.ref se) :: (.ref ke) :: (.ref wi) :: (.ref hs) :: (.ref mo) :: (.ref po) :: (.ref nu) :: (.ref pr) :: (.ref sq) :: (.ref xa) :: (.ref sa) :: (.ref n64) :: (.ref m64) :: (.ref ex) :: (.ref wh) :: (.ref sd) :: (.ref tk) :: (.int v52_87) :: (.int v53_88) :: (.int v54_89) :: (.ref hd) :: (.ref ak) :: (.ref ho) :: (.ref ot) :: []) := (hB1.2.2.2 h0 (by rw [hT_h0]; simp)).trans hF_468
              have hF_473 : F_471 ak = .inr (14, [.ref rak, .int (nI za_102)]) := (hB1.2.2.2 ak (by rw [hT_ak]; simp)).trans hF_469
              have hF_474 : F_471 ho = .inr (14, [.ref r_18, .int (nI y2_465)]) := (hB1.2.2.2 ho (by rw [ht_48]; simp)).trans hq_466
              generalize H1 = H at hP hS ⊢
              have hw : (r_470 = (-1) ∨ r_470 = (-2) ∨ ∃ j : Nat, j < 40 ∧ r_470 = nI j) := hw
              have hw_475 := hw
              refine lv_istore_n (lv' := [(3, .int r_470), (2, .int 0), (0, .ref h0), (1, .int x1)]) hx hb dX15_wish_70 rfl hl (by decide) rfl (fun ls hl => ?_)
              refine W.widen (k := 0) (n := 0) (by omega) (by omega) ?_
              exact jn_113 (r_470, 0) F_471 (⟨hw_475, hF_473⟩) hO hR _ _ hP hD hS ls (lv_sub hl [0, 1, 2, 3] rfl)
        ·
          refine lv_iconst (v := 1) hx hb dX15_wish_30 (by decide) ?_
          refine W.widen (k := 0) (n := 0) (by omega) (by omega) ?_
          exact W.iret (v := 1) hx hb hr (fun t ht hWm => ⟨⟨1, (), rfl, trivial, ⟨F_101, QTm.mk ht hP hD hO hR⟩⟩, hS.F ht⟩) hS.2.2 dX15_wish_31
      ·
        refine lv_bipush (v := (-2)) hx hb dX15_wish_20 (by decide) ?_
        refine W.widen (k := 0) (n := 0) (by omega) (by omega) ?_
        exact W.iret (v := (-2)) hx hb hr (fun t ht hWm => ⟨⟨(-2), (), rfl, trivial, ⟨F, QTm.mk ht hP hD hO hR⟩⟩, hS.F ht⟩) hS.2.2 dX15_wish_22
    ·
      refine lv_iconst (v := (-1)) hx hb dX15_wish_11 (by decide) ?_
      refine W.widen (k := 0) (n := 0) (by omega) (by omega) ?_
      exact W.iret (v := (-1)) hx hb hr (fun t ht hWm => ⟨⟨(-1), (), rfl, trivial, ⟨F, QTm.mk ht hP hD hO hR⟩⟩, hS.F ht⟩) hS.2.2 dX15_wish_12
