theorem dX15_isSeen_0 : decode cX15_isSeen 0 = .ok (.iconst (-1), 1) := by decide +kernel
theorem dX15_isSeen_1 : decode cX15_isSeen 1 = .ok (.istore_n 1, 1) := by decide +kernel
theorem dX15_isSeen_2 : decode cX15_isSeen 2 = .ok (.iconst 0, 1) := by decide +kernel
theorem dX15_isSeen_3 : decode cX15_isSeen 3 = .ok (.istore_n 2, 1) := by decide +kernel
theorem dX15_isSeen_4 : decode cX15_isSeen 4 = .ok (.iload_n 2, 1) := by decide +kernel
theorem dX15_isSeen_5 : decode cX15_isSeen 5 = .ok (.aload_n 0, 1) := by decide +kernel
theorem dX15_isSeen_6 : decode cX15_isSeen 6 = .ok (.getfield 355, 3) := by decide +kernel
theorem dX15_isSeen_9 : decode cX15_isSeen 9 = .ok (.if_icmp .ge 31, 3) := by decide +kernel
theorem dX15_isSeen_12 : decode cX15_isSeen 12 = .ok (.aload_n 0, 1) := by decide +kernel
theorem dX15_isSeen_13 : decode cX15_isSeen 13 = .ok (.iload_n 2, 1) := by decide +kernel
theorem dX15_isSeen_14 : decode cX15_isSeen 14 = .ok (.ldc_w 488, 3) := by decide +kernel
theorem dX15_isSeen_17 : decode cX15_isSeen 17 = .ok (.invokevirtual 378, 3) := by decide +kernel
theorem dX15_isSeen_20 : decode cX15_isSeen 20 = .ok (.ifCond .ne 6, 3) := by decide +kernel
theorem dX15_isSeen_23 : decode cX15_isSeen 23 = .ok (.goto 11, 3) := by decide +kernel
theorem dX15_isSeen_26 : decode cX15_isSeen 26 = .ok (.iload_n 1, 1) := by decide +kernel
theorem dX15_isSeen_27 : decode cX15_isSeen 27 = .ok (.ifCond .lt 5, 3) := by decide +kernel
theorem dX15_isSeen_30 : decode cX15_isSeen 30 = .ok (.iconst 0, 1) := by decide +kernel
theorem dX15_isSeen_31 : decode cX15_isSeen 31 = .ok (.ireturn, 1) := by decide +kernel
theorem dX15_isSeen_32 : decode cX15_isSeen 32 = .ok (.iload_n 2, 1) := by decide +kernel
theorem dX15_isSeen_33 : decode cX15_isSeen 33 = .ok (.istore_n 1, 1) := by decide +kernel
theorem dX15_isSeen_34 : decode cX15_isSeen 34 = .ok (.iinc 2 1, 3) := by decide +kernel
theorem dX15_isSeen_37 : decode cX15_isSeen 37 = .ok (.goto (-33), 3) := by decide +kernel
theorem dX15_isSeen_40 : decode cX15_isSeen 40 = .ok (.iload_n 1, 1) := by decide +kernel
theorem dX15_isSeen_41 : decode cX15_isSeen 41 = .ok (.ifCond .ge 5, 3) := by decide +kernel
theorem dX15_isSeen_44 : decode cX15_isSeen 44 = .ok (.iconst 0, 1) := by decide +kernel
theorem dX15_isSeen_45 : decode cX15_isSeen 45 = .ok (.ireturn, 1) := by decide +kernel
theorem dX15_isSeen_46 : decode cX15_isSeen 46 = .ok (.aload_n 0, 1) := by decide +kernel
theorem dX15_isSeen_47 : decode cX15_isSeen 47 = .ok (.getfield 79, 3) := by decide +kernel
theorem dX15_isSeen_50 : decode cX15_isSeen 50 = .ok (.iload_n 1, 1) := by decide +kernel
theorem dX15_isSeen_51 : decode cX15_isSeen 51 = .ok (.iaload, 1) := by decide +kernel
theorem dX15_isSeen_52 : decode cX15_isSeen 52 = .ok (.iconst 1, 1) := by decide +kernel
theorem dX15_isSeen_53 : decode cX15_isSeen 53 = .ok (.isub, 1) := by decide +kernel
theorem dX15_isSeen_54 : decode cX15_isSeen 54 = .ok (.istore_n 2, 1) := by decide +kernel
theorem dX15_isSeen_55 : decode cX15_isSeen 55 = .ok (.iload_n 2, 1) := by decide +kernel
theorem dX15_isSeen_56 : decode cX15_isSeen 56 = .ok (.aload_n 0, 1) := by decide +kernel
theorem dX15_isSeen_57 : decode cX15_isSeen 57 = .ok (.getfield 76, 3) := by decide +kernel
theorem dX15_isSeen_60 : decode cX15_isSeen 60 = .ok (.iload_n 1, 1) := by decide +kernel
theorem dX15_isSeen_61 : decode cX15_isSeen 61 = .ok (.iaload, 1) := by decide +kernel
theorem dX15_isSeen_62 : decode cX15_isSeen 62 = .ok (.if_icmp .le 20, 3) := by decide +kernel
theorem dX15_isSeen_65 : decode cX15_isSeen 65 = .ok (.aload_n 0, 1) := by decide +kernel
theorem dX15_isSeen_66 : decode cX15_isSeen 66 = .ok (.getfield 70, 3) := by decide +kernel
theorem dX15_isSeen_69 : decode cX15_isSeen 69 = .ok (.iload_n 2, 1) := by decide +kernel
theorem dX15_isSeen_70 : decode cX15_isSeen 70 = .ok (.baload, 1) := by decide +kernel
theorem dX15_isSeen_71 : decode cX15_isSeen 71 = .ok (.bipush 64, 2) := by decide +kernel
theorem dX15_isSeen_73 : decode cX15_isSeen 73 = .ok (.if_icmp .eq 9, 3) := by decide +kernel
theorem dX15_isSeen_76 : decode cX15_isSeen 76 = .ok (.iinc 2 (-1), 3) := by decide +kernel
theorem dX15_isSeen_79 : decode cX15_isSeen 79 = .ok (.goto (-24), 3) := by decide +kernel
theorem dX15_isSeen_82 : decode cX15_isSeen 82 = .ok (.iload_n 2, 1) := by decide +kernel
theorem dX15_isSeen_83 : decode cX15_isSeen 83 = .ok (.aload_n 0, 1) := by decide +kernel
theorem dX15_isSeen_84 : decode cX15_isSeen 84 = .ok (.getfield 76, 3) := by decide +kernel
theorem dX15_isSeen_87 : decode cX15_isSeen 87 = .ok (.iload_n 1, 1) := by decide +kernel
theorem dX15_isSeen_88 : decode cX15_isSeen 88 = .ok (.iaload, 1) := by decide +kernel
theorem dX15_isSeen_89 : decode cX15_isSeen 89 = .ok (.if_icmp .ne 5, 3) := by decide +kernel
theorem dX15_isSeen_92 : decode cX15_isSeen 92 = .ok (.iconst 0, 1) := by decide +kernel
theorem dX15_isSeen_93 : decode cX15_isSeen 93 = .ok (.ireturn, 1) := by decide +kernel
theorem dX15_isSeen_94 : decode cX15_isSeen 94 = .ok (.aload_n 0, 1) := by decide +kernel
theorem dX15_isSeen_95 : decode cX15_isSeen 95 = .ok (.getfield 157, 3) := by decide +kernel
theorem dX15_isSeen_98 : decode cX15_isSeen 98 = .ok (.iconst 0, 1) := by decide +kernel
theorem dX15_isSeen_99 : decode cX15_isSeen 99 = .ok (.putfield 190, 3) := by decide +kernel
theorem dX15_isSeen_102 : decode cX15_isSeen 102 = .ok (.iload_n 2, 1) := by decide +kernel
theorem dX15_isSeen_103 : decode cX15_isSeen 103 = .ok (.iconst 1, 1) := by decide +kernel
theorem dX15_isSeen_104 : decode cX15_isSeen 104 = .ok (.iadd, 1) := by decide +kernel
theorem dX15_isSeen_105 : decode cX15_isSeen 105 = .ok (.istore_n 3, 1) := by decide +kernel
theorem dX15_isSeen_106 : decode cX15_isSeen 106 = .ok (.iload_n 3, 1) := by decide +kernel
theorem dX15_isSeen_107 : decode cX15_isSeen 107 = .ok (.aload_n 0, 1) := by decide +kernel
theorem dX15_isSeen_108 : decode cX15_isSeen 108 = .ok (.getfield 79, 3) := by decide +kernel
theorem dX15_isSeen_111 : decode cX15_isSeen 111 = .ok (.iload_n 1, 1) := by decide +kernel
theorem dX15_isSeen_112 : decode cX15_isSeen 112 = .ok (.iaload, 1) := by decide +kernel
theorem dX15_isSeen_113 : decode cX15_isSeen 113 = .ok (.if_icmp .ge 59, 3) := by decide +kernel
theorem dX15_isSeen_116 : decode cX15_isSeen 116 = .ok (.aload_n 0, 1) := by decide +kernel
theorem dX15_isSeen_117 : decode cX15_isSeen 117 = .ok (.getfield 70, 3) := by decide +kernel
theorem dX15_isSeen_120 : decode cX15_isSeen 120 = .ok (.iload_n 3, 1) := by decide +kernel
theorem dX15_isSeen_121 : decode cX15_isSeen 121 = .ok (.baload, 1) := by decide +kernel
theorem dX15_isSeen_122 : decode cX15_isSeen 122 = .ok (.invokestatic 347, 3) := by decide +kernel
theorem dX15_isSeen_125 : decode cX15_isSeen 125 = .ok (.ifCond .ne 47, 3) := by decide +kernel
theorem dX15_isSeen_128 : decode cX15_isSeen 128 = .ok (.aload_n 0, 1) := by decide +kernel
theorem dX15_isSeen_129 : decode cX15_isSeen 129 = .ok (.getfield 70, 3) := by decide +kernel
theorem dX15_isSeen_132 : decode cX15_isSeen 132 = .ok (.iload_n 3, 1) := by decide +kernel
theorem dX15_isSeen_133 : decode cX15_isSeen 133 = .ok (.baload, 1) := by decide +kernel
theorem dX15_isSeen_134 : decode cX15_isSeen 134 = .ok (.bipush 62, 2) := by decide +kernel
theorem dX15_isSeen_136 : decode cX15_isSeen 136 = .ok (.if_icmp .eq 36, 3) := by decide +kernel
theorem dX15_isSeen_139 : decode cX15_isSeen 139 = .ok (.aload_n 0, 1) := by decide +kernel
theorem dX15_isSeen_140 : decode cX15_isSeen 140 = .ok (.getfield 70, 3) := by decide +kernel
theorem dX15_isSeen_143 : decode cX15_isSeen 143 = .ok (.iload_n 3, 1) := by decide +kernel
theorem dX15_isSeen_144 : decode cX15_isSeen 144 = .ok (.baload, 1) := by decide +kernel
theorem dX15_isSeen_145 : decode cX15_isSeen 145 = .ok (.bipush 10, 2) := by decide +kernel
theorem dX15_isSeen_147 : decode cX15_isSeen 147 = .ok (.if_icmp .eq 25, 3) := by decide +kernel
theorem dX15_isSeen_150 : decode cX15_isSeen 150 = .ok (.aload_n 0, 1) := by decide +kernel
theorem dX15_isSeen_151 : decode cX15_isSeen 151 = .ok (.getfield 157, 3) := by decide +kernel
theorem dX15_isSeen_154 : decode cX15_isSeen 154 = .ok (.aload_n 0, 1) := by decide +kernel
theorem dX15_isSeen_155 : decode cX15_isSeen 155 = .ok (.getfield 70, 3) := by decide +kernel
theorem dX15_isSeen_158 : decode cX15_isSeen 158 = .ok (.iload_n 3, 1) := by decide +kernel
theorem dX15_isSeen_159 : decode cX15_isSeen 159 = .ok (.baload, 1) := by decide +kernel
theorem dX15_isSeen_160 : decode cX15_isSeen 160 = .ok (.invokestatic 21, 3) := by decide +kernel
theorem dX15_isSeen_163 : decode cX15_isSeen 163 = .ok (.invokevirtual 292, 3) := by decide +kernel
theorem dX15_isSeen_166 : decode cX15_isSeen 166 = .ok (.iinc 3 1, 3) := by decide +kernel
theorem dX15_isSeen_169 : decode cX15_isSeen 169 = .ok (.goto (-63), 3) := by decide +kernel
theorem dX15_isSeen_172 : decode cX15_isSeen 172 = .ok (.aload_n 0, 1) := by decide +kernel
theorem dX15_isSeen_173 : decode cX15_isSeen 173 = .ok (.getfield 157, 3) := by decide +kernel
theorem dX15_isSeen_176 : decode cX15_isSeen 176 = .ok (.invokevirtual 579, 3) := by decide +kernel
theorem dX15_isSeen_179 : decode cX15_isSeen 179 = .ok (.ireturn, 1) := by decide +kernel
theorem dX15_sealOf_0 : decode cX15_sealOf 0 = .ok (.aload_n 0, 1) := by decide +kernel
theorem dX15_sealOf_1 : decode cX15_sealOf 1 = .ok (.getfield 70, 3) := by decide +kernel
theorem dX15_sealOf_4 : decode cX15_sealOf 4 = .ok (.aload_n 0, 1) := by decide +kernel
theorem dX15_sealOf_5 : decode cX15_sealOf 5 = .ok (.getfield 76, 3) := by decide +kernel
theorem dX15_sealOf_8 : decode cX15_sealOf 8 = .ok (.iload_n 1, 1) := by decide +kernel
theorem dX15_sealOf_9 : decode cX15_sealOf 9 = .ok (.iaload, 1) := by decide +kernel
theorem dX15_sealOf_10 : decode cX15_sealOf 10 = .ok (.iconst 1, 1) := by decide +kernel
theorem dX15_sealOf_11 : decode cX15_sealOf 11 = .ok (.iadd, 1) := by decide +kernel
theorem dX15_sealOf_12 : decode cX15_sealOf 12 = .ok (.aload_n 0, 1) := by decide +kernel
theorem dX15_sealOf_13 : decode cX15_sealOf 13 = .ok (.getfield 79, 3) := by decide +kernel
theorem dX15_sealOf_16 : decode cX15_sealOf 16 = .ok (.iload_n 1, 1) := by decide +kernel
theorem dX15_sealOf_17 : decode cX15_sealOf 17 = .ok (.iaload, 1) := by decide +kernel
theorem dX15_sealOf_18 : decode cX15_sealOf 18 = .ok (.aload_n 0, 1) := by decide +kernel
theorem dX15_sealOf_19 : decode cX15_sealOf 19 = .ok (.getfield 97, 3) := by decide +kernel
theorem dX15_sealOf_22 : decode cX15_sealOf 22 = .ok (.getfield 409, 3) := by decide +kernel
theorem dX15_sealOf_25 : decode cX15_sealOf 25 = .ok (.invokestatic 507, 3) := by decide +kernel
theorem dX15_sealOf_28 : decode cX15_sealOf 28 = .ok (.aload_n 0, 1) := by decide +kernel
theorem dX15_sealOf_29 : decode cX15_sealOf 29 = .ok (.invokevirtual 511, 3) := by decide +kernel
theorem dX15_sealOf_32 : decode cX15_sealOf 32 = .ok (.ifCond .ne 5, 3) := by decide +kernel
theorem dX15_sealOf_35 : decode cX15_sealOf 35 = .ok (.iconst 1, 1) := by decide +kernel
theorem dX15_sealOf_36 : decode cX15_sealOf 36 = .ok (.ireturn, 1) := by decide +kernel
theorem dX15_sealOf_37 : decode cX15_sealOf 37 = .ok (.aload_n 0, 1) := by decide +kernel
theorem dX15_sealOf_38 : decode cX15_sealOf 38 = .ok (.getfield 97, 3) := by decide +kernel
theorem dX15_sealOf_41 : decode cX15_sealOf 41 = .ok (.ldc_w 454, 3) := by decide +kernel
theorem dX15_sealOf_44 : decode cX15_sealOf 44 = .ok (.invokevirtual 399, 3) := by decide +kernel
theorem dX15_sealOf_47 : decode cX15_sealOf 47 = .ok (.istore_n 3, 1) := by decide +kernel
theorem dX15_sealOf_48 : decode cX15_sealOf 48 = .ok (.aload_n 0, 1) := by decide +kernel
theorem dX15_sealOf_49 : decode cX15_sealOf 49 = .ok (.getfield 97, 3) := by decide +kernel
theorem dX15_sealOf_52 : decode cX15_sealOf 52 = .ok (.ldc_w 460, 3) := by decide +kernel
theorem dX15_sealOf_55 : decode cX15_sealOf 55 = .ok (.invokevirtual 399, 3) := by decide +kernel
theorem dX15_sealOf_58 : decode cX15_sealOf 58 = .ok (.istore 4, 2) := by decide +kernel
theorem dX15_sealOf_60 : decode cX15_sealOf 60 = .ok (.aload_n 0, 1) := by decide +kernel
theorem dX15_sealOf_61 : decode cX15_sealOf 61 = .ok (.getfield 97, 3) := by decide +kernel
theorem dX15_sealOf_64 : decode cX15_sealOf 64 = .ok (.ldc_w 481, 3) := by decide +kernel
theorem dX15_sealOf_67 : decode cX15_sealOf 67 = .ok (.invokestatic 478, 3) := by decide +kernel
theorem dX15_sealOf_70 : decode cX15_sealOf 70 = .ok (.istore 5, 2) := by decide +kernel
theorem dX15_sealOf_72 : decode cX15_sealOf 72 = .ok (.aload_n 0, 1) := by decide +kernel
theorem dX15_sealOf_73 : decode cX15_sealOf 73 = .ok (.getfield 147, 3) := by decide +kernel
theorem dX15_sealOf_76 : decode cX15_sealOf 76 = .ok (.aload_n 0, 1) := by decide +kernel
theorem dX15_sealOf_77 : decode cX15_sealOf 77 = .ok (.getfield 97, 3) := by decide +kernel
theorem dX15_sealOf_80 : decode cX15_sealOf 80 = .ok (.getfield 409, 3) := by decide +kernel
theorem dX15_sealOf_83 : decode cX15_sealOf 83 = .ok (.getfield 295, 3) := by decide +kernel
theorem dX15_sealOf_86 : decode cX15_sealOf 86 = .ok (.aload_n 0, 1) := by decide +kernel
theorem dX15_sealOf_87 : decode cX15_sealOf 87 = .ok (.getfield 97, 3) := by decide +kernel
theorem dX15_sealOf_90 : decode cX15_sealOf 90 = .ok (.getfield 403, 3) := by decide +kernel
theorem dX15_sealOf_93 : decode cX15_sealOf 93 = .ok (.iload_n 3, 1) := by decide +kernel
theorem dX15_sealOf_94 : decode cX15_sealOf 94 = .ok (.iaload, 1) := by decide +kernel
theorem dX15_sealOf_95 : decode cX15_sealOf 95 = .ok (.iconst 1, 1) := by decide +kernel
theorem dX15_sealOf_96 : decode cX15_sealOf 96 = .ok (.iadd, 1) := by decide +kernel
theorem dX15_sealOf_97 : decode cX15_sealOf 97 = .ok (.aload_n 0, 1) := by decide +kernel
theorem dX15_sealOf_98 : decode cX15_sealOf 98 = .ok (.getfield 97, 3) := by decide +kernel
theorem dX15_sealOf_101 : decode cX15_sealOf 101 = .ok (.getfield 406, 3) := by decide +kernel
theorem dX15_sealOf_104 : decode cX15_sealOf 104 = .ok (.iload_n 3, 1) := by decide +kernel
theorem dX15_sealOf_105 : decode cX15_sealOf 105 = .ok (.iaload, 1) := by decide +kernel
theorem dX15_sealOf_106 : decode cX15_sealOf 106 = .ok (.invokevirtual 186, 3) := by decide +kernel
theorem dX15_sealOf_109 : decode cX15_sealOf 109 = .ok (.iload 5, 2) := by decide +kernel
theorem dX15_sealOf_111 : decode cX15_sealOf 111 = .ok (.ifCond .lt 11, 3) := by decide +kernel
theorem dX15_sealOf_114 : decode cX15_sealOf 114 = .ok (.iload_n 2, 1) := by decide +kernel
theorem dX15_sealOf_115 : decode cX15_sealOf 115 = .ok (.iload 5, 2) := by decide +kernel
theorem dX15_sealOf_117 : decode cX15_sealOf 117 = .ok (.if_icmp .le 5, 3) := by decide +kernel
theorem dX15_sealOf_120 : decode cX15_sealOf 120 = .ok (.iconst 3, 1) := by decide +kernel
theorem dX15_sealOf_121 : decode cX15_sealOf 121 = .ok (.ireturn, 1) := by decide +kernel
theorem dX15_sealOf_122 : decode cX15_sealOf 122 = .ok (.aload_n 0, 1) := by decide +kernel
theorem dX15_sealOf_123 : decode cX15_sealOf 123 = .ok (.getfield 144, 3) := by decide +kernel
theorem dX15_sealOf_126 : decode cX15_sealOf 126 = .ok (.aload_n 0, 1) := by decide +kernel
theorem dX15_sealOf_127 : decode cX15_sealOf 127 = .ok (.getfield 97, 3) := by decide +kernel
theorem dX15_sealOf_130 : decode cX15_sealOf 130 = .ok (.getfield 409, 3) := by decide +kernel
theorem dX15_sealOf_133 : decode cX15_sealOf 133 = .ok (.getfield 295, 3) := by decide +kernel
theorem dX15_sealOf_136 : decode cX15_sealOf 136 = .ok (.aload_n 0, 1) := by decide +kernel
theorem dX15_sealOf_137 : decode cX15_sealOf 137 = .ok (.getfield 97, 3) := by decide +kernel
theorem dX15_sealOf_140 : decode cX15_sealOf 140 = .ok (.getfield 403, 3) := by decide +kernel
theorem dX15_sealOf_143 : decode cX15_sealOf 143 = .ok (.iload 4, 2) := by decide +kernel
theorem dX15_sealOf_145 : decode cX15_sealOf 145 = .ok (.iaload, 1) := by decide +kernel
theorem dX15_sealOf_146 : decode cX15_sealOf 146 = .ok (.iconst 1, 1) := by decide +kernel
theorem dX15_sealOf_147 : decode cX15_sealOf 147 = .ok (.iadd, 1) := by decide +kernel
theorem dX15_sealOf_148 : decode cX15_sealOf 148 = .ok (.aload_n 0, 1) := by decide +kernel
theorem dX15_sealOf_149 : decode cX15_sealOf 149 = .ok (.getfield 97, 3) := by decide +kernel
theorem dX15_sealOf_152 : decode cX15_sealOf 152 = .ok (.getfield 406, 3) := by decide +kernel
theorem dX15_sealOf_155 : decode cX15_sealOf 155 = .ok (.iload 4, 2) := by decide +kernel
theorem dX15_sealOf_157 : decode cX15_sealOf 157 = .ok (.iaload, 1) := by decide +kernel
theorem dX15_sealOf_158 : decode cX15_sealOf 158 = .ok (.invokevirtual 186, 3) := by decide +kernel
theorem dX15_sealOf_161 : decode cX15_sealOf 161 = .ok (.iconst 0, 1) := by decide +kernel
theorem dX15_sealOf_162 : decode cX15_sealOf 162 = .ok (.istore 6, 2) := by decide +kernel
theorem dX15_sealOf_164 : decode cX15_sealOf 164 = .ok (.iload 6, 2) := by decide +kernel
theorem dX15_sealOf_166 : decode cX15_sealOf 166 = .ok (.bipush 12, 2) := by decide +kernel
theorem dX15_sealOf_168 : decode cX15_sealOf 168 = .ok (.if_icmp .ge 24, 3) := by decide +kernel
theorem dX15_sealOf_171 : decode cX15_sealOf 171 = .ok (.aload_n 0, 1) := by decide +kernel
theorem dX15_sealOf_172 : decode cX15_sealOf 172 = .ok (.getfield 144, 3) := by decide +kernel
theorem dX15_sealOf_175 : decode cX15_sealOf 175 = .ok (.ldc_w 514, 3) := by decide +kernel
theorem dX15_sealOf_178 : decode cX15_sealOf 178 = .ok (.iload 6, 2) := by decide +kernel
theorem dX15_sealOf_180 : decode cX15_sealOf 180 = .ok (.invokevirtual 13, 3) := by decide +kernel
theorem dX15_sealOf_183 : decode cX15_sealOf 183 = .ok (.invokevirtual 292, 3) := by decide +kernel
theorem dX15_sealOf_186 : decode cX15_sealOf 186 = .ok (.iinc 6 1, 3) := by decide +kernel
theorem dX15_sealOf_189 : decode cX15_sealOf 189 = .ok (.goto (-25), 3) := by decide +kernel
theorem dX15_sealOf_192 : decode cX15_sealOf 192 = .ok (.aload_n 0, 1) := by decide +kernel
theorem dX15_sealOf_193 : decode cX15_sealOf 193 = .ok (.getfield 144, 3) := by decide +kernel
theorem dX15_sealOf_196 : decode cX15_sealOf 196 = .ok (.aload_n 0, 1) := by decide +kernel
theorem dX15_sealOf_197 : decode cX15_sealOf 197 = .ok (.getfield 147, 3) := by decide +kernel
theorem dX15_sealOf_200 : decode cX15_sealOf 200 = .ok (.getfield 295, 3) := by decide +kernel
theorem dX15_sealOf_203 : decode cX15_sealOf 203 = .ok (.iconst 0, 1) := by decide +kernel
theorem dX15_sealOf_204 : decode cX15_sealOf 204 = .ok (.aload_n 0, 1) := by decide +kernel
theorem dX15_sealOf_205 : decode cX15_sealOf 205 = .ok (.getfield 147, 3) := by decide +kernel
theorem dX15_sealOf_208 : decode cX15_sealOf 208 = .ok (.getfield 190, 3) := by decide +kernel
theorem dX15_sealOf_211 : decode cX15_sealOf 211 = .ok (.invokevirtual 298, 3) := by decide +kernel
theorem dX15_sealOf_214 : decode cX15_sealOf 214 = .ok (.aload_n 0, 1) := by decide +kernel
theorem dX15_sealOf_215 : decode cX15_sealOf 215 = .ok (.invokevirtual 516, 3) := by decide +kernel
theorem dX15_sealOf_218 : decode cX15_sealOf 218 = .ok (.istore 6, 2) := by decide +kernel
theorem dX15_sealOf_220 : decode cX15_sealOf 220 = .ok (.iload 6, 2) := by decide +kernel
theorem dX15_sealOf_222 : decode cX15_sealOf 222 = .ok (.iconst 2, 1) := by decide +kernel
theorem dX15_sealOf_223 : decode cX15_sealOf 223 = .ok (.if_icmp .eq 6, 3) := by decide +kernel
theorem dX15_sealOf_226 : decode cX15_sealOf 226 = .ok (.iload 6, 2) := by decide +kernel
theorem dX15_sealOf_228 : decode cX15_sealOf 228 = .ok (.ireturn, 1) := by decide +kernel
theorem dX15_sealOf_229 : decode cX15_sealOf 229 = .ok (.aload_n 0, 1) := by decide +kernel
theorem dX15_sealOf_230 : decode cX15_sealOf 230 = .ok (.aload_n 0, 1) := by decide +kernel
theorem dX15_sealOf_231 : decode cX15_sealOf 231 = .ok (.getfield 494, 3) := by decide +kernel
theorem dX15_sealOf_234 : decode cX15_sealOf 234 = .ok (.invokevirtual 388, 3) := by decide +kernel
theorem dX15_sealOf_237 : decode cX15_sealOf 237 = .ok (.aload_n 0, 1) := by decide +kernel
theorem dX15_sealOf_238 : decode cX15_sealOf 238 = .ok (.getfield 97, 3) := by decide +kernel
theorem dX15_sealOf_241 : decode cX15_sealOf 241 = .ok (.ldc_w 476, 3) := by decide +kernel
theorem dX15_sealOf_244 : decode cX15_sealOf 244 = .ok (.invokestatic 478, 3) := by decide +kernel
theorem dX15_sealOf_247 : decode cX15_sealOf 247 = .ok (.istore 7, 2) := by decide +kernel
theorem dX15_sealOf_249 : decode cX15_sealOf 249 = .ok (.iload 7, 2) := by decide +kernel
theorem dX15_sealOf_251 : decode cX15_sealOf 251 = .ok (.aload_n 0, 1) := by decide +kernel
theorem dX15_sealOf_252 : decode cX15_sealOf 252 = .ok (.getfield 91, 3) := by decide +kernel
theorem dX15_sealOf_255 : decode cX15_sealOf 255 = .ok (.getfield 190, 3) := by decide +kernel
theorem dX15_sealOf_258 : decode cX15_sealOf 258 = .ok (.if_icmp .le 5, 3) := by decide +kernel
theorem dX15_sealOf_261 : decode cX15_sealOf 261 = .ok (.iconst 3, 1) := by decide +kernel
theorem dX15_sealOf_262 : decode cX15_sealOf 262 = .ok (.ireturn, 1) := by decide +kernel
theorem dX15_sealOf_263 : decode cX15_sealOf 263 = .ok (.aload_n 0, 1) := by decide +kernel
theorem dX15_sealOf_264 : decode cX15_sealOf 264 = .ok (.aload_n 0, 1) := by decide +kernel
theorem dX15_sealOf_265 : decode cX15_sealOf 265 = .ok (.getfield 91, 3) := by decide +kernel
theorem dX15_sealOf_268 : decode cX15_sealOf 268 = .ok (.getfield 295, 3) := by decide +kernel
theorem dX15_sealOf_271 : decode cX15_sealOf 271 = .ok (.iload 7, 2) := by decide +kernel
theorem dX15_sealOf_273 : decode cX15_sealOf 273 = .ok (.ifCond .lt 8, 3) := by decide +kernel
theorem dX15_sealOf_276 : decode cX15_sealOf 276 = .ok (.iload 7, 2) := by decide +kernel
theorem dX15_sealOf_278 : decode cX15_sealOf 278 = .ok (.goto 10, 3) := by decide +kernel
theorem dX15_sealOf_281 : decode cX15_sealOf 281 = .ok (.aload_n 0, 1) := by decide +kernel
theorem dX15_sealOf_282 : decode cX15_sealOf 282 = .ok (.getfield 91, 3) := by decide +kernel
theorem dX15_sealOf_285 : decode cX15_sealOf 285 = .ok (.getfield 190, 3) := by decide +kernel
theorem dX15_sealOf_288 : decode cX15_sealOf 288 = .ok (.aload_n 0, 1) := by decide +kernel
theorem dX15_sealOf_289 : decode cX15_sealOf 289 = .ok (.getfield 129, 3) := by decide +kernel
theorem dX15_sealOf_292 : decode cX15_sealOf 292 = .ok (.invokevirtual 519, 3) := by decide +kernel
theorem dX15_sealOf_295 : decode cX15_sealOf 295 = .ok (.aload_n 0, 1) := by decide +kernel
theorem dX15_sealOf_296 : decode cX15_sealOf 296 = .ok (.getfield 129, 3) := by decide +kernel
theorem dX15_sealOf_299 : decode cX15_sealOf 299 = .ok (.aload_n 0, 1) := by decide +kernel
theorem dX15_sealOf_300 : decode cX15_sealOf 300 = .ok (.getfield 132, 3) := by decide +kernel
theorem dX15_sealOf_303 : decode cX15_sealOf 303 = .ok (.invokestatic 523, 3) := by decide +kernel
theorem dX15_sealOf_306 : decode cX15_sealOf 306 = .ok (.ifCond .ne 5, 3) := by decide +kernel
theorem dX15_sealOf_309 : decode cX15_sealOf 309 = .ok (.iconst 3, 1) := by decide +kernel
theorem dX15_sealOf_310 : decode cX15_sealOf 310 = .ok (.ireturn, 1) := by decide +kernel
theorem dX15_sealOf_311 : decode cX15_sealOf 311 = .ok (.aload_n 0, 1) := by decide +kernel
theorem dX15_sealOf_312 : decode cX15_sealOf 312 = .ok (.iload_n 1, 1) := by decide +kernel
theorem dX15_sealOf_313 : decode cX15_sealOf 313 = .ok (.invokevirtual 527, 3) := by decide +kernel
theorem dX15_sealOf_316 : decode cX15_sealOf 316 = .ok (.aload_n 0, 1) := by decide +kernel
theorem dX15_sealOf_317 : decode cX15_sealOf 317 = .ok (.aload_n 0, 1) := by decide +kernel
theorem dX15_sealOf_318 : decode cX15_sealOf 318 = .ok (.getfield 91, 3) := by decide +kernel
theorem dX15_sealOf_321 : decode cX15_sealOf 321 = .ok (.getfield 295, 3) := by decide +kernel
theorem dX15_sealOf_324 : decode cX15_sealOf 324 = .ok (.aload_n 0, 1) := by decide +kernel
theorem dX15_sealOf_325 : decode cX15_sealOf 325 = .ok (.getfield 91, 3) := by decide +kernel
theorem dX15_sealOf_328 : decode cX15_sealOf 328 = .ok (.getfield 190, 3) := by decide +kernel
theorem dX15_sealOf_331 : decode cX15_sealOf 331 = .ok (.aload_n 0, 1) := by decide +kernel
theorem dX15_sealOf_332 : decode cX15_sealOf 332 = .ok (.getfield 129, 3) := by decide +kernel
theorem dX15_sealOf_335 : decode cX15_sealOf 335 = .ok (.invokevirtual 519, 3) := by decide +kernel
theorem dX15_sealOf_338 : decode cX15_sealOf 338 = .ok (.aload_n 0, 1) := by decide +kernel
theorem dX15_sealOf_339 : decode cX15_sealOf 339 = .ok (.invokevirtual 530, 3) := by decide +kernel
theorem dX15_sealOf_342 : decode cX15_sealOf 342 = .ok (.ifCond .eq 7, 3) := by decide +kernel
theorem dX15_sealOf_345 : decode cX15_sealOf 345 = .ok (.iconst 2, 1) := by decide +kernel
theorem dX15_sealOf_346 : decode cX15_sealOf 346 = .ok (.goto 4, 3) := by decide +kernel
theorem dX15_sealOf_349 : decode cX15_sealOf 349 = .ok (.iconst 3, 1) := by decide +kernel
theorem dX15_sealOf_350 : decode cX15_sealOf 350 = .ok (.ireturn, 1) := by decide +kernel
theorem dX15_sealed_0 : decode cX15_sealed 0 = .ok (.iload_n 2, 1) := by decide +kernel
theorem dX15_sealed_1 : decode cX15_sealed 1 = .ok (.ifCond .ge 5, 3) := by decide +kernel
theorem dX15_sealed_4 : decode cX15_sealed 4 = .ok (.iconst (-1), 1) := by decide +kernel
theorem dX15_sealed_5 : decode cX15_sealed 5 = .ok (.ireturn, 1) := by decide +kernel
theorem dX15_sealed_6 : decode cX15_sealed 6 = .ok (.aload_n 0, 1) := by decide +kernel
theorem dX15_sealed_7 : decode cX15_sealed 7 = .ok (.iload_n 1, 1) := by decide +kernel
theorem dX15_sealed_8 : decode cX15_sealed 8 = .ok (.invokevirtual 501, 3) := by decide +kernel
theorem dX15_sealed_11 : decode cX15_sealed 11 = .ok (.istore_n 3, 1) := by decide +kernel
theorem dX15_sealed_12 : decode cX15_sealed 12 = .ok (.iload_n 3, 1) := by decide +kernel
theorem dX15_sealed_13 : decode cX15_sealed 13 = .ok (.ifCond .ge 8, 3) := by decide +kernel
theorem dX15_sealed_16 : decode cX15_sealed 16 = .ok (.bipush (-2), 2) := by decide +kernel
theorem dX15_sealed_18 : decode cX15_sealed 18 = .ok (.goto 9, 3) := by decide +kernel
theorem dX15_sealed_21 : decode cX15_sealed 21 = .ok (.aload_n 0, 1) := by decide +kernel
theorem dX15_sealed_22 : decode cX15_sealed 22 = .ok (.iload_n 3, 1) := by decide +kernel
theorem dX15_sealed_23 : decode cX15_sealed 23 = .ok (.iload_n 2, 1) := by decide +kernel
theorem dX15_sealed_24 : decode cX15_sealed 24 = .ok (.invokevirtual 504, 3) := by decide +kernel
theorem dX15_sealed_27 : decode cX15_sealed 27 = .ok (.ireturn, 1) := by decide +kernel
theorem kt_957 : Cond.code yX15_isWell cX15_isWell 1 (some .boolean) ∈ tb := tb_at (i := 1705) (by decide +kernel) (by decide +kernel)
theorem kt_958 : Cond.methodLink RX15 511 yX15_isWell ∈ tb := tb_at (i := 1702) (by decide +kernel) (by decide +kernel)
theorem kt_959 : Cond.instanceMethod yX15_isWell ∈ tb := tb_at (i := 1704) (by decide +kernel) (by decide +kernel)
theorem kt_960 : Cond.selects RX15 yX15_isWell yX15_isWell ∈ tb := tb_at (i := 63) (by decide +kernel) (by decide +kernel)
theorem kt_961 : Cond.fieldLink RX15 147 "PostGateModel" "sealDomain" "LPostGateModel$Text;" ∈ tb := tb_at (i := 1339) (by decide +kernel) (by decide +kernel)
theorem kt_962 : Cond.code yX15_keyOf cX15_keyOf 3 (some .int) ∈ tb := tb_at (i := 1766) (by decide +kernel) (by decide +kernel)
theorem kt_963 : Cond.methodLink RX15 516 yX15_keyOf ∈ tb := tb_at (i := 1763) (by decide +kernel) (by decide +kernel)
theorem kt_964 : Cond.instanceMethod yX15_keyOf ∈ tb := tb_at (i := 1765) (by decide +kernel) (by decide +kernel)
theorem kt_965 : Cond.selects RX15 yX15_keyOf yX15_keyOf ∈ tb := tb_at (i := 68) (by decide +kernel) (by decide +kernel)
theorem kt_966 : Cond.code yX15_bodyPlain cX15_bodyPlain 9 none ∈ tb := tb_at (i := 1670) (by decide +kernel) (by decide +kernel)
theorem kt_967 : Cond.methodLink RX15 388 yX15_bodyPlain ∈ tb := tb_at (i := 1667) (by decide +kernel) (by decide +kernel)
theorem kt_968 : Cond.instanceMethod yX15_bodyPlain ∈ tb := tb_at (i := 1669) (by decide +kernel) (by decide +kernel)
theorem kt_969 : Cond.selects RX15 yX15_bodyPlain yX15_bodyPlain ∈ tb := tb_at (i := 57) (by decide +kernel) (by decide +kernel)
theorem kt_970 : Cond.code yX15_digest cX15_digest 4 none ∈ tb := tb_at (i := 1774) (by decide +kernel) (by decide +kernel)
theorem kt_971 : Cond.methodLink RX15 519 yX15_digest ∈ tb := tb_at (i := 1771) (by decide +kernel) (by decide +kernel)
theorem kt_972 : Cond.instanceMethod yX15_digest ∈ tb := tb_at (i := 1773) (by decide +kernel) (by decide +kernel)
theorem kt_973 : Cond.selects RX15 yX15_digest yX15_digest ∈ tb := tb_at (i := 69) (by decide +kernel) (by decide +kernel)
theorem kt_974 : Cond.code yX15_isAll cX15_isAll 4 (some .boolean) ∈ tb := tb_at (i := 1806) (by decide +kernel) (by decide +kernel)
theorem kt_975 : Cond.methodLink RX15 523 yX15_isAll ∈ tb := tb_at (i := 1804) (by decide +kernel) (by decide +kernel)
theorem kt_976 : Cond.static yX15_isAll ∈ tb := tb_at (i := 1805) (by decide +kernel) (by decide +kernel)
theorem kt_977 : Cond.code yX15_fieldsPlain cX15_fieldsPlain 11 none ∈ tb := tb_at (i := 1810) (by decide +kernel) (by decide +kernel)
theorem kt_978 : Cond.methodLink RX15 527 yX15_fieldsPlain ∈ tb := tb_at (i := 1807) (by decide +kernel) (by decide +kernel)
theorem kt_979 : Cond.instanceMethod yX15_fieldsPlain ∈ tb := tb_at (i := 1809) (by decide +kernel) (by decide +kernel)
theorem kt_980 : Cond.selects RX15 yX15_fieldsPlain yX15_fieldsPlain ∈ tb := tb_at (i := 71) (by decide +kernel) (by decide +kernel)
theorem kt_981 : Cond.code yX15_isPower cX15_isPower 3 (some .boolean) ∈ tb := tb_at (i := 1821) (by decide +kernel) (by decide +kernel)
theorem kt_982 : Cond.methodLink RX15 530 yX15_isPower ∈ tb := tb_at (i := 1818) (by decide +kernel) (by decide +kernel)
theorem kt_983 : Cond.instanceMethod yX15_isPower ∈ tb := tb_at (i := 1820) (by decide +kernel) (by decide +kernel)
theorem kt_984 : Cond.selects RX15 yX15_isPower yX15_isPower ∈ tb := tb_at (i := 73) (by decide +kernel) (by decide +kernel)
theorem kt_985 : Cond.code yX15_sealAt cX15_sealAt 4 (some .int) ∈ tb := tb_at (i := 1694) (by decide +kernel) (by decide +kernel)
theorem kt_986 : Cond.methodLink RX15 501 yX15_sealAt ∈ tb := tb_at (i := 1691) (by decide +kernel) (by decide +kernel)
theorem kt_987 : Cond.instanceMethod yX15_sealAt ∈ tb := tb_at (i := 1693) (by decide +kernel) (by decide +kernel)
theorem kt_988 : Cond.selects RX15 yX15_sealAt yX15_sealAt ∈ tb := tb_at (i := 61) (by decide +kernel) (by decide +kernel)
theorem kt_989 : Cond.code yX15_sealOf cX15_sealOf 8 (some .int) ∈ tb := tb_at (i := 1698) (by decide +kernel) (by decide +kernel)
theorem kt_990 : Cond.methodLink RX15 504 yX15_sealOf ∈ tb := tb_at (i := 1695) (by decide +kernel) (by decide +kernel)
theorem kt_991 : Cond.instanceMethod yX15_sealOf ∈ tb := tb_at (i := 1697) (by decide +kernel) (by decide +kernel)
theorem kt_992 : Cond.selects RX15 yX15_sealOf yX15_sealOf ∈ tb := tb_at (i := 62) (by decide +kernel) (by decide +kernel)
theorem kt_993 : Cond.fieldLink RX15 157 "PostGateModel" "asked" "LPostGateModel$Text;" ∈ tb := tb_at (i := 1345) (by decide +kernel) (by decide +kernel)
theorem kt_994 : Cond.code yX14_isName cX14_isName 1 (some .boolean) ∈ tb := tb_at (i := 1872) (by decide +kernel) (by decide +kernel)
theorem kt_995 : Cond.methodLink RX15 579 yX14_isName ∈ tb := tb_at (i := 1869) (by decide +kernel) (by decide +kernel)
theorem kt_996 : Cond.instanceMethod yX14_isName ∈ tb := tb_at (i := 1870) (by decide +kernel) (by decide +kernel)
theorem kt_997 : Cond.selects RX14 yX14_isName yX14_isName ∈ tb := tb_at (i := 1871) (by decide +kernel) (by decide +kernel)
set_option maxHeartbeats 4000000 in
set_option maxRecDepth 100000 in
theorem s_X15_sealOf (l : Launch) (dC : Nat → ClassId) (dI : Nat → Nat → Nat) (cs : Nat → ClassId) (ty : TyM) (gm : Nat → Nat → Nat) (L : List Nat) (sz : Nat) (F : Nat → va_E) (h0 : Nat) (ρ : Nat) (ta : Nat) (ou : Nat) (so : Nat) (ad : Nat) (na : Nat) (va : Nat) (lc : Nat) (dm : Nat) (tg : Nat) (pe : Nat) (ml : Nat) (bg : Nat) (co : Nat) (sp : Nat) (nb0 : Nat) (nb1 : Nat) (nb2 : Nat) (pl : Nat) (se : Nat) (ke : Nat) (wi : Nat) (hs : Nat) (mo : Nat) (po : Nat) (nu : Nat) (pr : Nat) (sq : Nat) (xa : Nat) (sa : Nat) (n64 : Nat) (m64 : Nat) (ex : Nat) (wh : Nat) (sd : Nat) (tk : Nat) (hd : Nat) (ak : Nat) (ho : Nat) (ot : Nat) (sx : Nat) (s0 : Nat) (s1 : Nat) (s2 : Nat) (nf : Nat) (bd : Nat) (mm : Nat) (zo : Nat) (fm : Nat) (sn : Nat) (hg : Nat) (gc : Nat) (gv : Nat) (ze : Nat) (zt : Nat) (sb : Nat) (rl : Nat) (jf : Nat) (x2 : Int32) (hW : WTm ty gm L) (hL_h0 : h0 ∈ L) (hT_h0 : ty h0 = (15, ρ, [ta, ou, so, ad, na, va, lc, dm, tg, pe, ml, bg, co, sp, nb0, nb1, nb2, pl, se, ke, wi, hs, mo, po, nu, pr, sq, xa, sa, n64, m64, ex, wh, sd, tk, hd, ak, ho, ot, sx, s0, s1, s2, nf, bd, mm, zo, fm, sn, hg, gc, gv, ze, zt])) (hL_sx : sx ∈ L) (hT_sx : ty sx = (14, ρ + 12, [sb, 3000])) (hL_pl : pl ∈ L) (hT_pl : ty pl = (14, ρ + 10, [rl, 6000])) (hjf : jf < nf) : Met l yX15_sealOf (.code yX15_sealOf cX15_sealOf 8 (some .int) :: tb) ({ frames := 8, cells := 0, slots := 0, locals := 186 }) (va_Pc [.ref h0, .int (nI jf), .int x2] (PTEm (dC, dI) cs ty gm L F sz [])) (va_Qi (fun (r : Int32) (_ : Unit) => True) (fun _ T9 => ∃ F2 : Nat → va_E, QTm (dC, dI) cs ty gm L [ρ, ρ + 10, ρ + 11, ρ + 12, ρ + 13, ρ + 14, ρ + 17, ρ + 18, ρ + 19, ρ + 20, ρ + 21, ρ + 22, ρ + 23, ρ + 24, ρ + 25, ρ + 26, ρ + 81, ρ + 82, ρ + 83, ρ + 84, ρ + 87, ρ + 88, ρ + 89, ρ + 90] F F2 (va_A (va_pl L F) sz) T9) (va_A (va_pl L F) sz)) 0 0 (va_A (va_pl L F) sz) := by
  refine Met.ofW (cc := cX15_sealOf) (maxL := 8) (ret := (some .int)) (by decide) rfl ?_
  intro p e s m args below meth c s₁ B hml hv
  obtain ⟨rfl, ⟨hsz, hP, hK, hD0, hE, hO⟩, hG, hX⟩ := hv
  have hx := B.exec
  have hb := B.bytes
  have hr := B.returns
  have hts : ∀ w ∈ tb, w.before _ s = true := fun w h => atoms_spec (ws := .code yX15_sealOf cX15_sealOf 8 (some .int) :: tb) B.pre w (List.mem_cons_of_mem _ h)
  have hown : s.vm.findClass RX15 = some m.cls := findClass_of_methodNamed B.named
  have hlocks := B.notSynchronized
  subst hsz
  have hD := hD0.self (sz := s.heap.size)
  generalize hAe : va_A (va_pl L F) s.heap.size = A at hD hG hX ⊢
  have hA : ∀ q : Nat, s.heap.size ≤ q → A q := fun q h => by rw [← hAe]; exact Or.inr h
  have hS : va_S A s.heap s.heap [] := va_S.rf
  have hR : FR ty [ρ, ρ + 10, ρ + 11, ρ + 12, ρ + 13, ρ + 14, ρ + 17, ρ + 18, ρ + 19, ρ + 20, ρ + 21, ρ + 22, ρ + 23, ρ + 24, ρ + 25, ρ + 26, ρ + 81, ρ + 82, ρ + 83, ρ + 84, ρ + 87, ρ + 88, ρ + 89, ρ + 90] F F := FR.refl
  have hl := lv_entry ([.ref h0, .int (nI jf), .int x2]) (n := 8) (Nat.le_of_ble_eq_true rfl)
  rw [lg_entry_eq]
  generalize (lg_sl ([.ref h0, .int (nI jf), .int x2]) ++ List.replicate (8 - (lg_sl ([.ref h0, .int (nI jf), .int x2])).length) Slot.unset).toArray = ls at hl ⊢
  have hl : lv_has ls 8 [(0, .ref h0), (1, .int (nI jf)), (2, .int x2)] := hl
  obtain ⟨hq_22, hq_23, hq_24, hq_25, hq_26, hgO, hgA, hgB, hq_27⟩ := hW.sc hL_h0 hT_h0
  have hoj := hgO jf hjf
  obtain ⟨hi_28, ht_29⟩ := hW.f_se hL_h0 hT_h0
  obtain ⟨_, hi_30, hi_31, hi_32, _, ht_33, ht_34, ht_35, hq_36, hq_37⟩ := hW.tags hi_28 ht_29
  have ht_34 : ty s1 = (25, ρ + 81, [40, 1280]) := ht_34
  have ht_35 : ty s2 = (25, ρ + 82, [40, 1280]) := ht_35
  obtain ⟨hi_38, ht_39, hq_40⟩ := hW.txt hL_sx hT_sx
  obtain ⟨hi_41, ht_42, hq_43⟩ := hW.txt hL_pl hT_pl
  obtain ⟨hi_44, r_17, ht_45⟩ := hW.f_wh hL_h0 hT_h0
  obtain ⟨hi_46, ht_47, hq_48⟩ := hW.txt hi_44 ht_45
  obtain ⟨hi_49, r_18, ht_50⟩ := hW.f_sd hL_h0 hT_h0
  obtain ⟨hi_51, ht_52, hq_53⟩ := hW.txt hi_49 ht_50
  refine lv_aload_n hx hb dX15_sealOf_0 rfl (lv_at hl 0 rfl) ?_
  obtain ⟨v14_54, v15_55, v17_56, v18_57, v19_58, v20_59, v21_60, v22_61, v33_62, v52_63, v53_64, v54_65, hF_66, hq_67, hq_68, hq_69, hq_70, hq_71⟩ := hO.mod hL_h0 hT_h0
  refine pg_get (ci := 15) (v := .ref ml) (C := RX15) (T := TX15) (N := 59) hx hb hts it_15 hown hK hP hL_h0 hF_66 rfl 23 (by decide) (hts _ kt_887) (fun _ h9 => h9) rfl dX15_sealOf_1 ?_
  refine lv_aload_n hx hb dX15_sealOf_4 rfl (lv_at hl 0 rfl) ?_
  refine pg_get (ci := 15) (v := .ref co) (C := RX15) (T := TX15) (N := 59) hx hb hts it_15 hown hK hP hL_h0 hF_66 rfl 25 (by decide) (hts _ kt_889) (fun _ h9 => h9) rfl dX15_sealOf_5 ?_
  refine lv_iload_n hx hb dX15_sealOf_8 rfl (lv_at hl 1 rfl) ?_
  obtain ⟨hi_72, ht_73⟩ := hW.f_co hL_h0 hT_h0
  obtain ⟨f_74, hF_75, hq_76⟩ := hO.pos hi_72 ht_73
  refine pg_iald hx hb hK hP hi_72 0 hF_75 rfl (vp_in_nI (by omega) (by omega)) dX15_sealOf_9 ?_
  refine lv_topi (fun x_77 ex_77 => ?_)
  obtain rfl : x_77 = (nI (gm 1 jf)) := ex_77.trans (by rw [show ((nI jf) : Int32) = nI jf from rfl, nI_clamp (by omega)]; exact hq_76 jf (by omega))
  have hgbx_77 := hgB 1 jf
  refine lv_iconst (v := 1) hx hb dX15_sealOf_10 (by decide) ?_
  refine lv_iadd hx hb dX15_sealOf_11 ?_
  refine lv_topi (fun x_78 ex_78 => ?_)
  obtain rfl : x_78 = (nI ((gm 1 jf) + 1)) := ex_78.trans (nI_add (gm 1 jf) 1)
  refine lv_aload_n hx hb dX15_sealOf_12 rfl (lv_at hl 0 rfl) ?_
  refine pg_get (ci := 15) (v := .ref sp) (C := RX15) (T := TX15) (N := 59) hx hb hts it_15 hown hK hP hL_h0 hF_66 rfl 26 (by decide) (hts _ kt_890) (fun _ h9 => h9) rfl dX15_sealOf_13 ?_
  refine lv_iload_n hx hb dX15_sealOf_16 rfl (lv_at hl 1 rfl) ?_
  obtain ⟨hi_79, ht_80⟩ := hW.f_sp hL_h0 hT_h0
  obtain ⟨f_81, hF_82, hq_83⟩ := hO.pos hi_79 ht_80
  refine pg_iald hx hb hK hP hi_79 0 hF_82 rfl (vp_in_nI (by omega) (by omega)) dX15_sealOf_17 ?_
  refine lv_topi (fun x_84 ex_84 => ?_)
  obtain rfl : x_84 = (nI (gm 2 jf)) := ex_84.trans (by rw [show ((nI jf) : Int32) = nI jf from rfl, nI_clamp (by omega)]; exact hq_83 jf (by omega))
  have hgbx_84 := hgB 2 jf
  refine lv_aload_n hx hb dX15_sealOf_18 rfl (lv_at hl 0 rfl) ?_
  refine pg_get (ci := 15) (v := .ref se) (C := RX15) (T := TX15) (N := 59) hx hb hts it_15 hown hK hP hL_h0 hF_66 rfl 35 (by decide) (hts _ kt_847) (fun _ h9 => h9) rfl dX15_sealOf_19 ?_
  obtain ⟨z_85, hF_86, hq_87⟩ := hO.tags hi_28 ht_29
  refine pg_get (ci := 13) (v := .ref sx) (C := RX13) (T := TX13) (N := 5) hx hb hts it_13 hown hK hP hi_28 hF_86 rfl 0 (by decide) (hts _ kt_842) (fun _ h9 => h9) rfl dX15_sealOf_22 ?_
  obtain ⟨hi_88, ht_89⟩ := hW.f_ml hL_h0 hT_h0
  obtain ⟨hq_90, hq_91⟩ := hW.octs hi_88 ht_89
  have hFc := pg_free hD hS hA
  refine va_callv (va_runS (As := [.ref ml, .int (nI ((gm 1 jf) + 1)), .int (nI (gm 2 jf)), .ref sx]) (rest := []) ⟨hx, hb, hml, hown, hts⟩ (s_X15_withoutWhite l dC dI cs ty gm L s.heap.size F ml (ρ + 8) 3000 sx (ρ + 12) sb 3000 ((gm 1 jf) + 1) (gm 2 jf) hW hi_88 ht_89 hL_sx hT_sx (by first | omega | assumption | exact Or.inl rfl) (by first | omega | assumption | exact Or.inl rfl) (by first | omega | assumption | exact Or.inl rfl)) ⟨callB_of 4 hts (gi kt_926) rfl rfl rfl (hts _ kt_669) (hts _ kt_927) (by decide +kernel) ⟨Nat.le_of_ble_eq_true rfl, Nat.le_of_ble_eq_true rfl⟩, (hts _ kt_928)⟩ ⟨fun a U g mk q => ⟨q.1, PTm.calling q.2⟩, fun U hU hWm => ⟨rfl, PTm.mk hU hWm hP hK hD hE hO⟩⟩ rfl rfl hl.1 rfl (lv_room (Nat.le_of_ble_eq_true rfl)) dX15_sealOf_25 ⟨by show _ + 0 ≤ 0; omega, by show _ + 0 ≤ 0; omega⟩) hS (fun q _ h => hFc q h) hFc (fun u t H1 locs ht hvm hw hB hz1 hk1 hS => ?_)
  obtain ⟨F_93, z2_94, hB1, hq_95, hq_96⟩ := hB
  obtain ⟨hP, hD, hO, hR⟩ := QTm.back hB1 ht hFc hR (fun q h => by simp only [List.mem_cons, List.not_mem_nil, or_false] at h ⊢; omega)
  have hF_97 : F_93 h0 = .inr (15, (.ref ta) :: (.int (nI zt)) :: (.int (nI zo)) :: (.int (nI ze)) :: (.ref ou) :: (.ref so) :: (.ref ad) :: (.ref na) :: (.ref va) :: (.ref lc) :: (.ref dm) :: (.int (nI fm)) :: (.int (nI sn)) :: (.ref tg) :: (.int v14_54) :: (.int v15_55) :: (.ref pe) :: (.int v17_56) :: (.int v18_57) :: (.int v19_58) :: (.int v20_59) :: (.int v21_60) :: (.int v22_61) :: (.ref ml) :: (.ref bg) :: (.ref co) :: (.ref sp) :: (.ref nb0) :: (.ref nb1) :: (.ref nb2) :: (.int (nI nf)) :: (.int (nI bd)) :: (.int (nI mm)) :: (.int v33_62) :: (.ref pl) :: (.ref se) :: (.ref ke) :: (.ref wi) :: (.ref hs) :: (.ref mo) :: (.ref po) :: (.ref nu) :: (.ref pr) :: (.ref sq) :: (.ref xa) :: (.ref sa) :: (.ref n64) :: (.ref m64) :: (.ref ex) :: (.ref wh) :: (.ref sd) :: (.ref tk) :: (.int v52_63) :: (.int v53_64) :: (.int v54_65) :: (.ref hd) :: (.ref ak) :: (.ref ho) :: (.ref ot) :: []) := (hB1.2.2.2 h0 (by rw [hT_h0]; simp)).trans hF_66
  have hF_98 : F_93 co = .inl (cs 16, 21, .inl f_74) := (hB1.2.2.2 co (by rw [ht_73]; simp)).trans hF_75
  have hF_99 : F_93 sp = .inl (cs 16, 21, .inl f_81) := (hB1.2.2.2 sp (by rw [ht_80]; simp)).trans hF_82
  have hF_100 : F_93 se = .inr (13, [.ref sx, .ref s0, .ref s1, .ref s2, .int (nI z_85)]) := (hB1.2.2.2 se (by rw [ht_29]; simp)).trans hF_86
  generalize H1 = H at hP hS ⊢
  refine lv_aload_n hx hb dX15_sealOf_28 rfl (lv_at hl 0 rfl) ?_
  have hFc := pg_free hD hS hA
  refine va_calli (va_runV (As := []) (rest := []) ⟨hx, hb, hml, hown, hts⟩ (s_X15_isWell l dC dI cs ty gm L H.size F_93 h0 ρ ta ou so ad na va lc dm tg pe ml bg co sp nb0 nb1 nb2 pl se ke wi hs mo po nu pr sq xa sa n64 m64 ex wh sd tk hd ak ho ot sx s0 s1 s2 nf bd mm zo fm sn hg gc gv ze zt sb z2_94 hW hL_h0 hT_h0 hL_sx hT_sx hq_95 (by omega)) ⟨callB_of 0 hts (gi kt_957) rfl rfl rfl (hts _ kt_669) (hts _ kt_958) (by decide +kernel) ⟨Nat.le_of_ble_eq_true rfl, Nat.le_of_ble_eq_true rfl⟩, (hts _ kt_959), (hts _ kt_960)⟩ ⟨fun a U g mk q => ⟨q.1, PTEm.calling q.2⟩, pg_recv hK hP hL_h0 hF_97 (q := (RX15, TX15, 59)) rfl, fun U hU hWm => ⟨rfl, PTEm.mk hU hWm hP hK hD hE hO hG (fun x hx => absurd hx List.not_mem_nil) hS hFc⟩⟩ rfl rfl hl.1 rfl (lv_room (Nat.le_of_ble_eq_true rfl)) dX15_sealOf_29 ⟨by show _ + 0 ≤ 0; omega, by show _ + 0 ≤ 0; omega⟩) hS (fun q _ h => hFc q h) hFc (fun r_102 wk_101 t H1 locs ht hvm hw hB hz1 hk1 hS => ?_)
  obtain ⟨F_103, eb_104, e0_105, e1_106, e2_107, zs_108, hB1, hq_109, hq_110, hq_111, hq_112, hq_113, hq_114, hq_115⟩ := hB
  obtain ⟨hP, hD, hO, hR⟩ := QTm.back hB1 ht hFc hR (fun q h => by simp only [List.mem_cons, List.not_mem_nil, or_false] at h ⊢; omega)
  have hF_116 : F_103 co = .inl (cs 16, 21, .inl f_74) := (hB1.2.2.2 co (by rw [ht_73]; simp)).trans hF_98
  have hF_117 : F_103 sp = .inl (cs 16, 21, .inl f_81) := (hB1.2.2.2 sp (by rw [ht_80]; simp)).trans hF_99
  have hF_118 : F_103 sx = .inr (14, [.ref sb, .int (nI z2_94)]) := (hB1.2.2.2 sx (by rw [hT_sx]; simp)).trans hq_95
  generalize H1 = H at hP hS ⊢
  have hw : (r_102 = 0 ∨ (r_102 = 1 ∧ wk_101 = 1)) := hw
  have hw_119 := hw
  obtain ⟨eb, e0, e1, e2, zs, hka, hkb, hkc, hkd, hke, hzs, hwl⟩ : ∃ (eb e0 e1 e2 : Nat → Int32) (zs : Nat), F_103 sb = .inl (cs 17, 3000, .inl eb) ∧ F_103 s0 = .inl (cs 16, 40, .inl e0) ∧ F_103 s1 = .inl (cs 16, 40, .inl e1) ∧ F_103 s2 = .inl (cs 16, 40, .inl e2) ∧ F_103 se = .inr (13, [.ref sx, .ref s0, .ref s1, .ref s2, .int (nI zs)]) ∧ zs ≤ 40 ∧ (wk_101 = 1 → WLP eb e0 e1 e2 zs) := ⟨_, _, _, _, _, hq_109, hq_110, hq_111, hq_112, hq_113, hq_114, hq_115⟩
  refine lv_if_ne (tgt := 37) hx hb dX15_sealOf_32 (by decide) (fun c_120 => ?_) (fun c_120 => ?_)
  ·
    obtain ⟨kd, ks, kh, hd1, hs1, hh1, hfd, htd, hfs, hfk, hfh⟩ := hwl (bit1 hw_119 c_120)
    refine lv_aload_n hx hb dX15_sealOf_37 rfl (lv_at hl 0 rfl) ?_
    obtain ⟨v14_121, v15_122, v17_123, v18_124, v19_125, v20_126, v21_127, v22_128, v33_129, v52_130, v53_131, v54_132, hF_133, hq_134, hq_135, hq_136, hq_137, hq_138⟩ := hO.mod hL_h0 hT_h0
    refine pg_get (ci := 15) (v := .ref se) (C := RX15) (T := TX15) (N := 59) hx hb hts it_15 hown hK hP hL_h0 hF_133 rfl 35 (by decide) (hts _ kt_847) (fun _ h9 => h9) rfl dX15_sealOf_38 ?_
    obtain ⟨q_139, v_140, hr_q_139, hX_q_139⟩ := hG.2.2 ("PostGateModel", 454, "d", [100]) (by decide +kernel)
    have hX_q_139 : SXc q_139 v_140 1 (cct [100]) A s s.heap := hX_q_139
    obtain ⟨xo_q_139, xc_q_139, xv_q_139, xt_q_139, xn_q_139⟩ := id hX_q_139
    have hr_q_139 : vk_R "PostGateModel" 454 "d" q_139 s := hr_q_139
    refine va_ldcwS hx hb hown hr_q_139 dX15_sealOf_41 ?_
    have hFc := pg_free hD hS hA
    refine va_calli (va_runV (As := [.ref q_139]) (rest := []) ⟨hx, hb, hml, hown, hts⟩ (s_X13_find l dC dI cs ty gm L H.size F_103 se (ρ + 11) sx 3000 1280 s0 s1 s2 sb zs q_139 v_140 1 (cct [100]) hW hi_28 ht_29 hL_sx hT_sx hke (by first | omega | assumption | exact Or.inl rfl)) ⟨callB_of 1 hts (gi kt_828) rfl rfl rfl (hts _ kt_829) (hts _ kt_839) (by decide +kernel) ⟨Nat.le_of_ble_eq_true rfl, Nat.le_of_ble_eq_true rfl⟩, (hts _ kt_831), (hts _ kt_832)⟩ ⟨fun a U g mk q => ⟨q.1, PTEm.calling q.2⟩, pg_recv hK hP hi_28 hke (q := (RX13, TX13, 5)) rfl, fun U hU hWm => ⟨rfl, PTEm.mk hU hWm hP hK hD hE hO hG (fun x hx => by rw [List.mem_singleton] at hx; subst hx; exact hX_q_139) hS hFc⟩⟩ rfl rfl hl.1 rfl (lv_room (Nat.le_of_ble_eq_true rfl)) dX15_sealOf_44 ⟨by show _ + 0 ≤ 0; omega, by show _ + 0 ≤ 0; omega⟩) hS (fun q _ h => hFc q h) hFc (fun r_141 u t H1 locs ht hvm hw hB hz1 hk1 hS => ?_)
    obtain ⟨F_142, hB1⟩ := hB
    obtain rfl : F_103 = F_142 := (funext (fun a => hB1.2.2.2 a List.not_mem_nil)).symm
    obtain ⟨hP, hD, hO, hR⟩ := QTm.back hB1 ht hFc hR (fun q h => absurd h List.not_mem_nil)
    generalize H1 = H at hP hS ⊢
    have hw : FND (gA (F_103 sb)) (gA (F_103 s0)) (gA (F_103 s1)) zs (cct [100]) 1 r_141 := hw
    have hw_143 := hw
    have hfr_144 : FND eb e0 e1 zs (cct [100]) 1 r_141 := by have h9 := hw_143; rw [gA_fun hka, gA_fun hkb, gA_fun hkc] at h9; exact h9
    obtain rfl := FND.uniq hfr_144 hfd
    refine lv_istore_n (lv' := [(3, .int (nI kd)), (0, .ref h0), (1, .int (nI jf)), (2, .int x2)]) hx hb dX15_sealOf_47 rfl hl (by decide) rfl (fun ls hl => ?_)
    refine lv_aload_n hx hb dX15_sealOf_48 rfl (lv_at hl 1 rfl) ?_
    refine pg_get (ci := 15) (v := .ref se) (C := RX15) (T := TX15) (N := 59) hx hb hts it_15 hown hK hP hL_h0 hF_133 rfl 35 (by decide) (hts _ kt_847) (fun _ h9 => h9) rfl dX15_sealOf_49 ?_
    obtain ⟨q_145, v_146, hr_q_145, hX_q_145⟩ := hG.2.2 ("PostGateModel", 460, "s", [115]) (by decide +kernel)
    have hX_q_145 : SXc q_145 v_146 1 (cct [115]) A s s.heap := hX_q_145
    obtain ⟨xo_q_145, xc_q_145, xv_q_145, xt_q_145, xn_q_145⟩ := id hX_q_145
    have hr_q_145 : vk_R "PostGateModel" 460 "s" q_145 s := hr_q_145
    refine va_ldcwS hx hb hown hr_q_145 dX15_sealOf_52 ?_
    have hFc := pg_free hD hS hA
    refine va_calli (va_runV (As := [.ref q_145]) (rest := []) ⟨hx, hb, hml, hown, hts⟩ (s_X13_find l dC dI cs ty gm L H.size F_103 se (ρ + 11) sx 3000 1280 s0 s1 s2 sb zs q_145 v_146 1 (cct [115]) hW hi_28 ht_29 hL_sx hT_sx hke (by first | omega | assumption | exact Or.inl rfl)) ⟨callB_of 1 hts (gi kt_828) rfl rfl rfl (hts _ kt_829) (hts _ kt_839) (by decide +kernel) ⟨Nat.le_of_ble_eq_true rfl, Nat.le_of_ble_eq_true rfl⟩, (hts _ kt_831), (hts _ kt_832)⟩ ⟨fun a U g mk q => ⟨q.1, PTEm.calling q.2⟩, pg_recv hK hP hi_28 hke (q := (RX13, TX13, 5)) rfl, fun U hU hWm => ⟨rfl, PTEm.mk hU hWm hP hK hD hE hO hG (fun x hx => by rw [List.mem_singleton] at hx; subst hx; exact hX_q_145) hS hFc⟩⟩ rfl rfl hl.1 rfl (lv_room (Nat.le_of_ble_eq_true rfl)) dX15_sealOf_55 ⟨by show _ + 0 ≤ 0; omega, by show _ + 0 ≤ 0; omega⟩) hS (fun q _ h => hFc q h) hFc (fun r_147 u t H1 locs ht hvm hw hB hz1 hk1 hS => ?_)
    obtain ⟨F_148, hB1⟩ := hB
    obtain rfl : F_103 = F_148 := (funext (fun a => hB1.2.2.2 a List.not_mem_nil)).symm
    obtain ⟨hP, hD, hO, hR⟩ := QTm.back hB1 ht hFc hR (fun q h => absurd h List.not_mem_nil)
    generalize H1 = H at hP hS ⊢
    have hw : FND (gA (F_103 sb)) (gA (F_103 s0)) (gA (F_103 s1)) zs (cct [115]) 1 r_147 := hw
    have hw_149 := hw
    have hfr_150 : FND eb e0 e1 zs (cct [115]) 1 r_147 := by have h9 := hw_149; rw [gA_fun hka, gA_fun hkb, gA_fun hkc] at h9; exact h9
    obtain rfl := FND.uniq hfr_150 hfs
    refine lv_istore (lv' := [(4, .int (nI ks)), (3, .int (nI kd)), (0, .ref h0), (1, .int (nI jf)), (2, .int x2)]) hx hb dX15_sealOf_58 hl (by decide) rfl (fun ls hl => ?_)
    refine lv_aload_n hx hb dX15_sealOf_60 rfl (lv_at hl 2 rfl) ?_
    refine pg_get (ci := 15) (v := .ref se) (C := RX15) (T := TX15) (N := 59) hx hb hts it_15 hown hK hP hL_h0 hF_133 rfl 35 (by decide) (hts _ kt_847) (fun _ h9 => h9) rfl dX15_sealOf_61 ?_
    obtain ⟨q_151, v_152, hr_q_151, hX_q_151⟩ := hG.2.2 ("PostGateModel", 481, "x", [120]) (by decide +kernel)
    have hX_q_151 : SXc q_151 v_152 1 (cct [120]) A s s.heap := hX_q_151
    obtain ⟨xo_q_151, xc_q_151, xv_q_151, xt_q_151, xn_q_151⟩ := id hX_q_151
    have hr_q_151 : vk_R "PostGateModel" 481 "x" q_151 s := hr_q_151
    refine va_ldcwS hx hb hown hr_q_151 dX15_sealOf_64 ?_
    have hFc := pg_free hD hS hA
    refine va_calli (va_runS (As := [.ref se, .ref q_151]) (rest := []) ⟨hx, hb, hml, hown, hts⟩ (s_X15_number l dC dI cs ty gm L H.size F_103 se (ρ + 11) sx 3000 1280 s0 s1 s2 sb zs q_151 v_152 1 (cct [120]) hW hi_28 ht_29 hL_sx hT_sx hke (by first | omega | assumption | exact Or.inl rfl)) ⟨callB_of 2 hts (gi kt_884) rfl rfl rfl (hts _ kt_669) (hts _ kt_885) (by decide +kernel) ⟨Nat.le_of_ble_eq_true rfl, Nat.le_of_ble_eq_true rfl⟩, (hts _ kt_886)⟩ ⟨fun a U g mk q => ⟨q.1, PTEm.calling q.2⟩, fun U hU hWm => ⟨rfl, PTEm.mk hU hWm hP hK hD hE hO hG (fun x hx => by rw [List.mem_singleton] at hx; subst hx; exact hX_q_151) hS hFc⟩⟩ rfl rfl hl.1 rfl (lv_room (Nat.le_of_ble_eq_true rfl)) dX15_sealOf_67 ⟨by show _ + 0 ≤ 0; omega, by show _ + 0 ≤ 0; omega⟩) hS (fun q _ h => hFc q h) hFc (fun r_153 u t H1 locs ht hvm hw hB hz1 hk1 hS => ?_)
    obtain ⟨F_154, hB1⟩ := hB
    obtain rfl : F_103 = F_154 := (funext (fun a => hB1.2.2.2 a List.not_mem_nil)).symm
    obtain ⟨hP, hD, hO, hR⟩ := QTm.back hB1 ht hFc hR (fun q h => absurd h List.not_mem_nil)
    generalize H1 = H at hP hS ⊢
    have hw : True := hw
    have hw_155 := hw
    refine lv_istore (lv' := [(5, .int r_153), (4, .int (nI ks)), (3, .int (nI kd)), (0, .ref h0), (1, .int (nI jf)), (2, .int x2)]) hx hb dX15_sealOf_70 hl (by decide) rfl (fun ls hl => ?_)
    refine lv_aload_n hx hb dX15_sealOf_72 rfl (lv_at hl 3 rfl) ?_
    refine pg_get (ci := 15) (v := .ref sd) (C := RX15) (T := TX15) (N := 59) hx hb hts it_15 hown hK hP hL_h0 hF_133 rfl 50 (by decide) (hts _ kt_961) (fun _ h9 => h9) rfl dX15_sealOf_73 ?_
    refine lv_aload_n hx hb dX15_sealOf_76 rfl (lv_at hl 3 rfl) ?_
    refine pg_get (ci := 15) (v := .ref se) (C := RX15) (T := TX15) (N := 59) hx hb hts it_15 hown hK hP hL_h0 hF_133 rfl 35 (by decide) (hts _ kt_847) (fun _ h9 => h9) rfl dX15_sealOf_77 ?_
    refine pg_get (ci := 13) (v := .ref sx) (C := RX13) (T := TX13) (N := 5) hx hb hts it_13 hown hK hP hi_28 hke rfl 0 (by decide) (hts _ kt_842) (fun _ h9 => h9) rfl dX15_sealOf_80 ?_
    refine pg_get (ci := 14) (v := .ref sb) (C := RX14) (T := TX14) (N := 2) hx hb hts it_14 hown hK hP hL_sx hF_118 rfl 0 (by decide) (hts _ kt_710) (fun _ h9 => h9) rfl dX15_sealOf_83 ?_
    refine lv_aload_n hx hb dX15_sealOf_86 rfl (lv_at hl 3 rfl) ?_
    refine pg_get (ci := 15) (v := .ref se) (C := RX15) (T := TX15) (N := 59) hx hb hts it_15 hown hK hP hL_h0 hF_133 rfl 35 (by decide) (hts _ kt_847) (fun _ h9 => h9) rfl dX15_sealOf_87 ?_
    refine pg_get (ci := 13) (v := .ref s1) (C := RX13) (T := TX13) (N := 5) hx hb hts it_13 hown hK hP hi_28 hke rfl 2 (by decide) (hts _ kt_840) (fun _ h9 => h9) rfl dX15_sealOf_90 ?_
    refine lv_iload_n hx hb dX15_sealOf_93 rfl (lv_at hl 2 rfl) ?_
    refine pg_iald hx hb hK hP hi_31 0 hkc rfl (vp_in_nI (by omega) (by omega)) dX15_sealOf_94 ?_
    have hq_156 := ixb_of hkc (hO.idb hi_31 ht_34)
    obtain ⟨k_157, hk_158, ek_159⟩ := hq_156 ((nI kd) : Int32).toNatClampNeg
    refine lv_topi (fun x_160 ex_160 => ?_)
    obtain rfl : x_160 = nI k_157 := ex_160.trans ek_159
    refine lv_iconst (v := 1) hx hb dX15_sealOf_95 (by decide) ?_
    refine lv_iadd hx hb dX15_sealOf_96 ?_
    refine lv_topi (fun x_161 ex_161 => ?_)
    obtain rfl : x_161 = (nI (k_157 + 1)) := ex_161.trans (nI_add k_157 1)
    refine lv_aload_n hx hb dX15_sealOf_97 rfl (lv_at hl 3 rfl) ?_
    refine pg_get (ci := 15) (v := .ref se) (C := RX15) (T := TX15) (N := 59) hx hb hts it_15 hown hK hP hL_h0 hF_133 rfl 35 (by decide) (hts _ kt_847) (fun _ h9 => h9) rfl dX15_sealOf_98 ?_
    refine pg_get (ci := 13) (v := .ref s2) (C := RX13) (T := TX13) (N := 5) hx hb hts it_13 hown hK hP hi_28 hke rfl 3 (by decide) (hts _ kt_841) (fun _ h9 => h9) rfl dX15_sealOf_101 ?_
    refine lv_iload_n hx hb dX15_sealOf_104 rfl (lv_at hl 2 rfl) ?_
    refine pg_iald hx hb hK hP hi_32 0 hkd rfl (vp_in_nI (by omega) (by omega)) dX15_sealOf_105 ?_
    have hq_162 := ixb_of hkd (hO.idb hi_32 ht_35)
    obtain ⟨k_163, hk_164, ek_165⟩ := hq_162 ((nI kd) : Int32).toNatClampNeg
    refine lv_topi (fun x_166 ex_166 => ?_)
    obtain rfl : x_166 = nI k_163 := ex_166.trans ek_165
    have htgd := (TGN.eq (ekc ek_159 (by omega)) (ekc ek_165 (by omega)) (by omega) (by omega)).mp htd
    obtain ⟨hq_167, hq_168⟩ := hW.octs hi_38 ht_39
    have hFc := pg_free hD hS hA
    obtain ⟨z_169, hF_170, hq_171⟩ := hO.txt hi_49 ht_50
    refine va_callv (va_runV (As := [.ref sb, .int (nI (k_157 + 1)), .int (nI k_163)]) (rest := []) ⟨hx, hb, hml, hown, hts⟩ (s_X14_set l dC dI cs ty gm L H.size F_103 sd (ρ + 25) r_18 3000 sb (ρ + 12) 3000 (k_157 + 1) k_163 hW hi_49 ht_50 hi_38 ht_39 (by first | omega | assumption | exact Or.inl rfl) (by first | omega | assumption | exact Or.inl rfl) (by first | omega | assumption | exact Or.inl rfl)) ⟨callB_of 3 hts (gi kt_941) rfl rfl rfl (hts _ kt_676) (hts _ kt_942) (by decide +kernel) ⟨Nat.le_of_ble_eq_true rfl, Nat.le_of_ble_eq_true rfl⟩, (hts _ kt_943), (hts _ kt_944)⟩ ⟨fun a U g mk q => ⟨q.1, PTm.calling q.2⟩, pg_recv hK hP hi_49 hF_170 (q := (RX14, TX14, 2)) rfl, fun U hU hWm => ⟨rfl, PTm.mk hU hWm hP hK hD hE hO⟩⟩ rfl rfl hl.1 rfl (lv_room (Nat.le_of_ble_eq_true rfl)) dX15_sealOf_106 ⟨by show _ + 0 ≤ 0; omega, by show _ + 0 ≤ 0; omega⟩) hS (fun q _ h => hFc q h) hFc (fun u t H1 locs ht hvm hw hB hz1 hk1 hS => ?_)
    obtain ⟨F_173, hB1, hq_174⟩ := hB
    obtain ⟨hP, hD, hO, hR⟩ := QTm.back hB1 ht hFc hR (fun q h => by simp only [List.mem_cons, List.not_mem_nil, or_false] at h ⊢; omega)
    have hF_175 : F_173 co = .inl (cs 16, 21, .inl f_74) := (hB1.2.2.2 co (by rw [ht_73]; simp)).trans hF_116
    have hF_176 : F_173 sp = .inl (cs 16, 21, .inl f_81) := (hB1.2.2.2 sp (by rw [ht_80]; simp)).trans hF_117
    have hF_177 : F_173 sx = .inr (14, [.ref sb, .int (nI z2_94)]) := (hB1.2.2.2 sx (by rw [hT_sx]; simp)).trans hF_118
    have hF_178 : F_173 sb = .inl (cs 17, 3000, .inl eb) := (hB1.2.2.2 sb (by rw [ht_39]; simp)).trans hka
    have hF_179 : F_173 s0 = .inl (cs 16, 40, .inl e0) := (hB1.2.2.2 s0 (by rw [ht_33]; simp)).trans hkb
    have hF_180 : F_173 s1 = .inl (cs 16, 40, .inl e1) := (hB1.2.2.2 s1 (by rw [ht_34]; simp)).trans hkc
    have hF_181 : F_173 s2 = .inl (cs 16, 40, .inl e2) := (hB1.2.2.2 s2 (by rw [ht_35]; simp)).trans hkd
    have hF_182 : F_173 se = .inr (13, [.ref sx, .ref s0, .ref s1, .ref s2, .int (nI zs)]) := (hB1.2.2.2 se (by rw [ht_29]; simp)).trans hke
    have hF_183 : F_173 h0 = .inr (15, (.ref ta) :: (.int (nI zt)) :: (.int (nI zo)) :: (.int (nI ze)) :: (.ref ou) :: (.ref so) :: (.ref ad) :: (.ref na) :: (.ref va) :: (.ref lc) :: (.ref dm) :: (.int (nI fm)) :: (.int (nI sn)) :: (.ref tg) :: (.int v14_121) :: (.int v15_122) :: (.ref pe) :: (.int v17_123) :: (.int v18_124) :: (.int v19_125) :: (.int v20_126) :: (.int v21_127) :: (.int v22_128) :: (.ref ml) :: (.ref bg) :: (.ref co) :: (.ref sp) :: (.ref nb0) :: (.ref nb1) :: (.ref nb2) :: (.int (nI nf)) :: (.int (nI bd)) :: (.int (nI mm)) :: (.int v33_129) :: (.ref pl) :: (.ref se) :: (.ref ke) :: (.ref wi) :: (.ref hs) :: (.ref mo) :: (.ref po) :: (.ref nu) :: (.ref pr) :: (.ref sq) :: (.ref xa) :: (.ref sa) :: (.ref n64) :: (.ref m64) :: (.ref ex) :: (.ref wh) :: (.ref sd) :: (.ref tk) :: (.int v52_130) :: (.int v53_131) :: (.int v54_132) :: (.ref hd) :: (.ref ak) :: (.ref ho) :: (.ref ot) :: []) := (hB1.2.2.2 h0 (by rw [hT_h0]; simp)).trans hF_133
    generalize H1 = H at hP hS ⊢
    have hF_186 : F co = .inl (cs 16, 21, .inl f_74) := (hR co (by rw [ht_73]; simp)).symm.trans hF_175
    have hF_187 : F sp = .inl (cs 16, 21, .inl f_81) := (hR sp (by rw [ht_80]; simp)).symm.trans hF_176
    refine W.widen (k := 0) (n := 0) (by omega) (by omega) ?_
    refine pl_cutm (σ := Unit) A (dC, dI) cs ty gm L [ρ, ρ + 10, ρ + 11, ρ + 12, ρ + 13, ρ + 14, ρ + 17, ρ + 18, ρ + 19, ρ + 20, ρ + 21, ρ + 22, ρ + 23, ρ + 24, ρ + 25, ρ + 26, ρ + 81, ρ + 82, ρ + 83, ρ + 84, ρ + 87, ρ + 88, ρ + 89, ρ + 90] F 122 8 (fun u0 => [(4, .int (nI ks)), (0, .ref h0), (1, .int (nI jf)), (2, .int x2)]) (fun u0 => []) (fun u0 FF => FF sb = .inl (cs 17, 3000, .inl eb) ∧ FF s0 = .inl (cs 16, 40, .inl e0) ∧ FF s1 = .inl (cs 16, 40, .inl e1) ∧ FF s2 = .inl (cs 16, 40, .inl e2) ∧ FF se = .inr (13, [.ref sx, .ref s0, .ref s1, .ref s2, .int (nI zs)]) ∧ FF sd = .inr (14, [.ref r_18, .int (nI (k_163 - (k_157 + 1)))])) ?_ (fun jn_184 => ?_)
    ·
      rintro u0 F_185 hv_188 hO hR H locs hP hD hS ls hl
      have hl : lv_has ls 8 [(4, .int (nI ks)), (0, .ref h0), (1, .int (nI jf)), (2, .int x2)] := hl
      have hv_188 : F_185 sb = .inl (cs 17, 3000, .inl eb) ∧ F_185 s0 = .inl (cs 16, 40, .inl e0) ∧ F_185 s1 = .inl (cs 16, 40, .inl e1) ∧ F_185 s2 = .inl (cs 16, 40, .inl e2) ∧ F_185 se = .inr (13, [.ref sx, .ref s0, .ref s1, .ref s2, .int (nI zs)]) ∧ F_185 sd = .inr (14, [.ref r_18, .int (nI (k_163 - (k_157 + 1)))]) := hv_188
      refine W.eq (g2 := F0 m 122 ls []) rfl ?_
      have hF_189 : F_185 co = .inl (cs 16, 21, .inl f_74) := (hR co (by rw [ht_73]; simp)).trans hF_186
      have hF_190 : F_185 sp = .inl (cs 16, 21, .inl f_81) := (hR sp (by rw [ht_80]; simp)).trans hF_187
      obtain ⟨hma, hmb, hmc, hmd, hme, hsd1⟩ := hv_188
      refine lv_aload_n hx hb dX15_sealOf_122 rfl (lv_at hl 1 rfl) ?_
      obtain ⟨v14_191, v15_192, v17_193, v18_194, v19_195, v20_196, v21_197, v22_198, v33_199, v52_200, v53_201, v54_202, hF_203, hq_204, hq_205, hq_206, hq_207, hq_208⟩ := hO.mod hL_h0 hT_h0
      refine pg_get (ci := 15) (v := .ref wh) (C := RX15) (T := TX15) (N := 59) hx hb hts it_15 hown hK hP hL_h0 hF_203 rfl 49 (by decide) (hts _ kt_924) (fun _ h9 => h9) rfl dX15_sealOf_123 ?_
      refine lv_aload_n hx hb dX15_sealOf_126 rfl (lv_at hl 1 rfl) ?_
      refine pg_get (ci := 15) (v := .ref se) (C := RX15) (T := TX15) (N := 59) hx hb hts it_15 hown hK hP hL_h0 hF_203 rfl 35 (by decide) (hts _ kt_847) (fun _ h9 => h9) rfl dX15_sealOf_127 ?_
      refine pg_get (ci := 13) (v := .ref sx) (C := RX13) (T := TX13) (N := 5) hx hb hts it_13 hown hK hP hi_28 hme rfl 0 (by decide) (hts _ kt_842) (fun _ h9 => h9) rfl dX15_sealOf_130 ?_
      obtain ⟨z_209, hF_210, hq_211⟩ := hO.txt hL_sx hT_sx
      refine pg_get (ci := 14) (v := .ref sb) (C := RX14) (T := TX14) (N := 2) hx hb hts it_14 hown hK hP hL_sx hF_210 rfl 0 (by decide) (hts _ kt_710) (fun _ h9 => h9) rfl dX15_sealOf_133 ?_
      refine lv_aload_n hx hb dX15_sealOf_136 rfl (lv_at hl 1 rfl) ?_
      refine pg_get (ci := 15) (v := .ref se) (C := RX15) (T := TX15) (N := 59) hx hb hts it_15 hown hK hP hL_h0 hF_203 rfl 35 (by decide) (hts _ kt_847) (fun _ h9 => h9) rfl dX15_sealOf_137 ?_
      refine pg_get (ci := 13) (v := .ref s1) (C := RX13) (T := TX13) (N := 5) hx hb hts it_13 hown hK hP hi_28 hme rfl 2 (by decide) (hts _ kt_840) (fun _ h9 => h9) rfl dX15_sealOf_140 ?_
      refine lv_iload hx hb dX15_sealOf_143 (lv_at hl 0 rfl) ?_
      refine pg_iald hx hb hK hP hi_31 0 hmc rfl (vp_in_nI (by omega) (by omega)) dX15_sealOf_145 ?_
      have hq_212 := ixb_of hmc (hO.idb hi_31 ht_34)
      obtain ⟨k_213, hk_214, ek_215⟩ := hq_212 ((nI ks) : Int32).toNatClampNeg
      refine lv_topi (fun x_216 ex_216 => ?_)
      obtain rfl : x_216 = nI k_213 := ex_216.trans ek_215
      refine lv_iconst (v := 1) hx hb dX15_sealOf_146 (by decide) ?_
      refine lv_iadd hx hb dX15_sealOf_147 ?_
      refine lv_topi (fun x_217 ex_217 => ?_)
      obtain rfl : x_217 = (nI (k_213 + 1)) := ex_217.trans (nI_add k_213 1)
      refine lv_aload_n hx hb dX15_sealOf_148 rfl (lv_at hl 1 rfl) ?_
      refine pg_get (ci := 15) (v := .ref se) (C := RX15) (T := TX15) (N := 59) hx hb hts it_15 hown hK hP hL_h0 hF_203 rfl 35 (by decide) (hts _ kt_847) (fun _ h9 => h9) rfl dX15_sealOf_149 ?_
      refine pg_get (ci := 13) (v := .ref s2) (C := RX13) (T := TX13) (N := 5) hx hb hts it_13 hown hK hP hi_28 hme rfl 3 (by decide) (hts _ kt_841) (fun _ h9 => h9) rfl dX15_sealOf_152 ?_
      refine lv_iload hx hb dX15_sealOf_155 (lv_at hl 0 rfl) ?_
      refine pg_iald hx hb hK hP hi_32 0 hmd rfl (vp_in_nI (by omega) (by omega)) dX15_sealOf_157 ?_
      have hq_218 := ixb_of hmd (hO.idb hi_32 ht_35)
      obtain ⟨k_219, hk_220, ek_221⟩ := hq_218 ((nI ks) : Int32).toNatClampNeg
      refine lv_topi (fun x_222 ex_222 => ?_)
      obtain rfl : x_222 = nI k_219 := ex_222.trans ek_221
      have htgs := (TGN.eq (ekc ek_215 (by omega)) (ekc ek_221 (by omega)) (by omega) (by omega)).mp hfk
      have hFc := pg_free hD hS hA
      obtain ⟨z_223, hF_224, hq_225⟩ := hO.txt hi_44 ht_45
      refine va_callv (va_runV (As := [.ref sb, .int (nI (k_213 + 1)), .int (nI k_219)]) (rest := []) ⟨hx, hb, hml, hown, hts⟩ (s_X14_set l dC dI cs ty gm L H.size F_185 wh (ρ + 24) r_17 6000 sb (ρ + 12) 3000 (k_213 + 1) k_219 hW hi_44 ht_45 hi_38 ht_39 (by first | omega | assumption | exact Or.inl rfl) (by first | omega | assumption | exact Or.inl rfl) (by first | omega | assumption | exact Or.inl rfl)) ⟨callB_of 3 hts (gi kt_941) rfl rfl rfl (hts _ kt_676) (hts _ kt_942) (by decide +kernel) ⟨Nat.le_of_ble_eq_true rfl, Nat.le_of_ble_eq_true rfl⟩, (hts _ kt_943), (hts _ kt_944)⟩ ⟨fun a U g mk q => ⟨q.1, PTm.calling q.2⟩, pg_recv hK hP hi_44 hF_224 (q := (RX14, TX14, 2)) rfl, fun U hU hWm => ⟨rfl, PTm.mk hU hWm hP hK hD hE hO⟩⟩ rfl rfl hl.1 rfl (lv_room (Nat.le_of_ble_eq_true rfl)) dX15_sealOf_158 ⟨by show _ + 0 ≤ 0; omega, by show _ + 0 ≤ 0; omega⟩) hS (fun q _ h => hFc q h) hFc (fun u t H1 locs ht hvm hw hB hz1 hk1 hS => ?_)
      obtain ⟨F_227, hB1, hq_228⟩ := hB
      obtain ⟨hP, hD, hO, hR⟩ := QTm.back hB1 ht hFc hR (fun q h => by simp only [List.mem_cons, List.not_mem_nil, or_false] at h ⊢; omega)
      have hF_229 : F_227 co = .inl (cs 16, 21, .inl f_74) := (hB1.2.2.2 co (by rw [ht_73]; simp)).trans hF_189
      have hF_230 : F_227 sp = .inl (cs 16, 21, .inl f_81) := (hB1.2.2.2 sp (by rw [ht_80]; simp)).trans hF_190
      have hF_231 : F_227 sb = .inl (cs 17, 3000, .inl eb) := (hB1.2.2.2 sb (by rw [ht_39]; simp)).trans hma
      have hF_232 : F_227 s0 = .inl (cs 16, 40, .inl e0) := (hB1.2.2.2 s0 (by rw [ht_33]; simp)).trans hmb
      have hF_233 : F_227 s1 = .inl (cs 16, 40, .inl e1) := (hB1.2.2.2 s1 (by rw [ht_34]; simp)).trans hmc
      have hF_234 : F_227 s2 = .inl (cs 16, 40, .inl e2) := (hB1.2.2.2 s2 (by rw [ht_35]; simp)).trans hmd
      have hF_235 : F_227 se = .inr (13, [.ref sx, .ref s0, .ref s1, .ref s2, .int (nI zs)]) := (hB1.2.2.2 se (by rw [ht_29]; simp)).trans hme
      have hF_236 : F_227 sd = .inr (14, [.ref r_18, .int (nI (k_163 - (k_157 + 1)))]) := (hB1.2.2.2 sd (by rw [ht_50]; simp)).trans hsd1
      have hF_237 : F_227 h0 = .inr (15, (.ref ta) :: (.int (nI zt)) :: (.int (nI zo)) :: (.int (nI ze)) :: (.ref ou) :: (.ref so) :: (.ref ad) :: (.ref na) :: (.ref va) :: (.ref lc) :: (.ref dm) :: (.int (nI fm)) :: (.int (nI sn)) :: (.ref tg) :: (.int v14_191) :: (.int v15_192) :: (.ref pe) :: (.int v17_193) :: (.int v18_194) :: (.int v19_195) :: (.int v20_196) :: (.int v21_197) :: (.int v22_198) :: (.ref ml) :: (.ref bg) :: (.ref co) :: (.ref sp) :: (.ref nb0) :: (.ref nb1) :: (.ref nb2) :: (.int (nI nf)) :: (.int (nI bd)) :: (.int (nI mm)) :: (.int v33_199) :: (.ref pl) :: (.ref se) :: (.ref ke) :: (.ref wi) :: (.ref hs) :: (.ref mo) :: (.ref po) :: (.ref nu) :: (.ref pr) :: (.ref sq) :: (.ref xa) :: (.ref sa) :: (.ref n64) :: (.ref m64) :: (.ref ex) :: (.ref wh) :: (.ref sd) :: (.ref tk) :: (.int v52_200) :: (.int v53_201) :: (.int v54_202) :: (.ref hd) :: (.ref ak) :: (.ref ho) :: (.ref ot) :: []) := (hB1.2.2.2 h0 (by rw [hT_h0]; simp)).trans hF_203
      have hF_238 : F_227 sx = .inr (14, [.ref sb, .int (nI z_209)]) := (hB1.2.2.2 sx (by rw [hT_sx]; simp)).trans hF_210
      generalize H1 = H at hP hS ⊢
      refine lv_iconst (v := 0) hx hb dX15_sealOf_161 (by decide) ?_
      refine lv_istore (lv' := [(6, .int 0), (4, .int (nI ks)), (0, .ref h0), (1, .int (nI jf)), (2, .int x2)]) hx hb dX15_sealOf_162 hl (by decide) rfl (fun ls hl => ?_)
      refine W.widen (k := 0) (n := 0) (by omega) (by omega) ?_
      have hF_240 : F co = .inl (cs 16, 21, .inl f_74) := (hR co (by rw [ht_73]; simp)).symm.trans hF_229
      have hF_241 : F sp = .inl (cs 16, 21, .inl f_81) := (hR sp (by rw [ht_80]; simp)).symm.trans hF_230
      refine pl_loopm (σ := Nat) A (dC, dI) cs ty gm L [ρ, ρ + 10, ρ + 11, ρ + 12, ρ + 13, ρ + 14, ρ + 17, ρ + 18, ρ + 19, ρ + 20, ρ + 21, ρ + 22, ρ + 23, ρ + 24, ρ + 25, ρ + 26, ρ + 81, ρ + 82, ρ + 83, ρ + 84, ρ + 87, ρ + 88, ρ + 89, ρ + 90] F 164 8 (fun j => [(6, .int (nI j)), (0, .ref h0), (1, .int (nI jf)), (2, .int x2)]) (fun j => []) (fun j FF => j ≤ 12 ∧ FF sb = .inl (cs 17, 3000, .inl eb) ∧ FF s0 = .inl (cs 16, 40, .inl e0) ∧ FF s1 = .inl (cs 16, 40, .inl e1) ∧ FF s2 = .inl (cs 16, 40, .inl e2) ∧ FF se = .inr (13, [.ref sx, .ref s0, .ref s1, .ref s2, .int (nI zs)]) ∧ FF sd = .inr (14, [.ref r_18, .int (nI (k_163 - (k_157 + 1)))]) ∧ FF wh = .inr (14, [.ref r_17, .int (nI ((k_219 - (k_213 + 1)) + j))])) (fun j => 12 - j) ?_ 0 F_227 (⟨by omega, hF_231, hF_232, hF_233, hF_234, hF_235, hF_236, hq_228⟩) hO hR _ _ hP hD hS ls (lv_sub hl [0, 2, 3, 4] rfl)
      rintro j F_239 hv_242 hO hR ih_243 H locs hP hD hS ls hl
      have hl : lv_has ls 8 [(6, .int (nI j)), (0, .ref h0), (1, .int (nI jf)), (2, .int x2)] := hl
      have hv_242 : j ≤ 12 ∧ F_239 sb = .inl (cs 17, 3000, .inl eb) ∧ F_239 s0 = .inl (cs 16, 40, .inl e0) ∧ F_239 s1 = .inl (cs 16, 40, .inl e1) ∧ F_239 s2 = .inl (cs 16, 40, .inl e2) ∧ F_239 se = .inr (13, [.ref sx, .ref s0, .ref s1, .ref s2, .int (nI zs)]) ∧ F_239 sd = .inr (14, [.ref r_18, .int (nI (k_163 - (k_157 + 1)))]) ∧ F_239 wh = .inr (14, [.ref r_17, .int (nI ((k_219 - (k_213 + 1)) + j))]) := hv_242
      refine W.eq (g2 := F0 m 164 ls []) rfl ?_
      have hF_244 : F_239 co = .inl (cs 16, 21, .inl f_74) := (hR co (by rw [ht_73]; simp)).trans hF_240
      have hF_245 : F_239 sp = .inl (cs 16, 21, .inl f_81) := (hR sp (by rw [ht_80]; simp)).trans hF_241
      obtain ⟨hj12, hna, hnb, hnc, hnd, hne, hsd2, hwh2⟩ := hv_242
      refine lv_iload hx hb dX15_sealOf_164 (lv_at hl 0 rfl) ?_
      refine lv_bipush (v := 12) hx hb dX15_sealOf_166 (by decide) ?_
      refine lv_icmp_ge (tgt := 192) hx hb dX15_sealOf_168 (by decide) (fun c_246 => ?_) (fun c_246 => ?_)
      ·
        have hi_247 : 12 ≤ j := leN (N := 12) c_246
        refine lv_aload_n hx hb dX15_sealOf_192 rfl (lv_at hl 1 rfl) ?_
        obtain ⟨v14_248, v15_249, v17_250, v18_251, v19_252, v20_253, v21_254, v22_255, v33_256, v52_257, v53_258, v54_259, hF_260, hq_261, hq_262, hq_263, hq_264, hq_265⟩ := hO.mod hL_h0 hT_h0
        refine pg_get (ci := 15) (v := .ref wh) (C := RX15) (T := TX15) (N := 59) hx hb hts it_15 hown hK hP hL_h0 hF_260 rfl 49 (by decide) (hts _ kt_924) (fun _ h9 => h9) rfl dX15_sealOf_193 ?_
        refine lv_aload_n hx hb dX15_sealOf_196 rfl (lv_at hl 1 rfl) ?_
        refine pg_get (ci := 15) (v := .ref sd) (C := RX15) (T := TX15) (N := 59) hx hb hts it_15 hown hK hP hL_h0 hF_260 rfl 50 (by decide) (hts _ kt_961) (fun _ h9 => h9) rfl dX15_sealOf_197 ?_
        refine pg_get (ci := 14) (v := .ref r_18) (C := RX14) (T := TX14) (N := 2) hx hb hts it_14 hown hK hP hi_49 hsd2 rfl 0 (by decide) (hts _ kt_710) (fun _ h9 => h9) rfl dX15_sealOf_200 ?_
        refine lv_iconst (v := 0) hx hb dX15_sealOf_203 (by decide) ?_
        refine lv_aload_n hx hb dX15_sealOf_204 rfl (lv_at hl 1 rfl) ?_
        refine pg_get (ci := 15) (v := .ref sd) (C := RX15) (T := TX15) (N := 59) hx hb hts it_15 hown hK hP hL_h0 hF_260 rfl 50 (by decide) (hts _ kt_961) (fun _ h9 => h9) rfl dX15_sealOf_205 ?_
        refine pg_get (ci := 14) (v := .int (nI (k_163 - (k_157 + 1)))) (C := RX14) (T := TX14) (N := 2) hx hb hts it_14 hown hK hP hi_49 hsd2 rfl 1 (by decide) (hts _ kt_709) (fun _ h9 => h9) rfl dX15_sealOf_208 ?_
        refine W.eq (g2 := F0 m 211 ls [.int (nI (k_163 - (k_157 + 1))), .int (nI 0), .ref r_18, .ref wh]) rfl ?_
        obtain ⟨hq_266, hq_267⟩ := hW.octs hi_51 ht_52
        have hFc := pg_free hD hS hA
        refine va_callv (va_runV (As := [.ref r_18, .int (nI 0), .int (nI (k_163 - (k_157 + 1)))]) (rest := []) ⟨hx, hb, hml, hown, hts⟩ (s_X14_add_ l dC dI cs ty gm L H.size F_239 wh (ρ + 24) r_17 6000 r_18 (ρ + 25) 3000 ((k_219 - (k_213 + 1)) + j) 0 (k_163 - (k_157 + 1)) hW hi_44 ht_45 hi_51 ht_52 hwh2 (by first | omega | assumption | exact Or.inl rfl) (by first | omega | assumption | exact Or.inl rfl) (by first | omega | assumption | exact Or.inl rfl)) ⟨callB_of 3 hts (gi kt_675) rfl rfl rfl (hts _ kt_676) (hts _ kt_956) (by decide +kernel) ⟨Nat.le_of_ble_eq_true rfl, Nat.le_of_ble_eq_true rfl⟩, (hts _ kt_678), (hts _ kt_679)⟩ ⟨fun a U g mk q => ⟨q.1, PTm.calling q.2⟩, pg_recv hK hP hi_44 hwh2 (q := (RX14, TX14, 2)) rfl, fun U hU hWm => ⟨rfl, PTm.mk hU hWm hP hK hD hE hO⟩⟩ rfl rfl hl.1 rfl (lv_room (Nat.le_of_ble_eq_true rfl)) dX15_sealOf_211 ⟨by show _ + 0 ≤ 0; omega, by show _ + 0 ≤ 0; omega⟩) hS (fun q _ h => hFc q h) hFc (fun u t H1 locs ht hvm hw hB hz1 hk1 hS => ?_)
        obtain ⟨F_269, hB1, hq_270⟩ := hB
        obtain ⟨hP, hD, hO, hR⟩ := QTm.back hB1 ht hFc hR (fun q h => by simp only [List.mem_cons, List.not_mem_nil, or_false] at h ⊢; omega)
        have hF_271 : F_269 co = .inl (cs 16, 21, .inl f_74) := (hB1.2.2.2 co (by rw [ht_73]; simp)).trans hF_244
        have hF_272 : F_269 sp = .inl (cs 16, 21, .inl f_81) := (hB1.2.2.2 sp (by rw [ht_80]; simp)).trans hF_245
        have hF_273 : F_269 sb = .inl (cs 17, 3000, .inl eb) := (hB1.2.2.2 sb (by rw [ht_39]; simp)).trans hna
        have hF_274 : F_269 s0 = .inl (cs 16, 40, .inl e0) := (hB1.2.2.2 s0 (by rw [ht_33]; simp)).trans hnb
        have hF_275 : F_269 s1 = .inl (cs 16, 40, .inl e1) := (hB1.2.2.2 s1 (by rw [ht_34]; simp)).trans hnc
        have hF_276 : F_269 s2 = .inl (cs 16, 40, .inl e2) := (hB1.2.2.2 s2 (by rw [ht_35]; simp)).trans hnd
        have hF_277 : F_269 se = .inr (13, [.ref sx, .ref s0, .ref s1, .ref s2, .int (nI zs)]) := (hB1.2.2.2 se (by rw [ht_29]; simp)).trans hne
        have hF_278 : F_269 sd = .inr (14, [.ref r_18, .int (nI (k_163 - (k_157 + 1)))]) := (hB1.2.2.2 sd (by rw [ht_50]; simp)).trans hsd2
        have hF_279 : F_269 h0 = .inr (15, (.ref ta) :: (.int (nI zt)) :: (.int (nI zo)) :: (.int (nI ze)) :: (.ref ou) :: (.ref so) :: (.ref ad) :: (.ref na) :: (.ref va) :: (.ref lc) :: (.ref dm) :: (.int (nI fm)) :: (.int (nI sn)) :: (.ref tg) :: (.int v14_248) :: (.int v15_249) :: (.ref pe) :: (.int v17_250) :: (.int v18_251) :: (.int v19_252) :: (.int v20_253) :: (.int v21_254) :: (.int v22_255) :: (.ref ml) :: (.ref bg) :: (.ref co) :: (.ref sp) :: (.ref nb0) :: (.ref nb1) :: (.ref nb2) :: (.int (nI nf)) :: (.int (nI bd)) :: (.int (nI mm)) :: (.int v33_256) :: (.ref pl) :: (.ref se) :: (.ref ke) :: (.ref wi) :: (.ref hs) :: (.ref mo) :: (.ref po) :: (.ref nu) :: (.ref pr) :: (.ref sq) :: (.ref xa) :: (.ref sa) :: (.ref n64) :: (.ref m64) :: (.ref ex) :: (.ref wh) :: (.ref sd) :: (.ref tk) :: (.int v52_257) :: (.int v53_258) :: (.int v54_259) :: (.ref hd) :: (.ref ak) :: (.ref ho) :: (.ref ot) :: []) := (hB1.2.2.2 h0 (by rw [hT_h0]; simp)).trans hF_260
        generalize H1 = H at hP hS ⊢
        refine lv_aload_n hx hb dX15_sealOf_214 rfl (lv_at hl 1 rfl) ?_
        have hFc := pg_free hD hS hA
        refine va_calli (va_runV (As := []) (rest := []) ⟨hx, hb, hml, hown, hts⟩ (s_X15_keyOf l dC dI cs ty gm L H.size F_269 h0 ρ ta ou so ad na va lc dm tg pe ml bg co sp nb0 nb1 nb2 pl se ke wi hs mo po nu pr sq xa sa n64 m64 ex wh sd tk hd ak ho ot sx s0 s1 s2 nf bd mm zo fm sn hg gc gv ze zt hW hL_h0 hT_h0) ⟨callB_of 0 hts (gi kt_962) rfl rfl rfl (hts _ kt_669) (hts _ kt_963) (by decide +kernel) ⟨Nat.le_of_ble_eq_true rfl, Nat.le_of_ble_eq_true rfl⟩, (hts _ kt_964), (hts _ kt_965)⟩ ⟨fun a U g mk q => ⟨q.1, PTEm.calling q.2⟩, pg_recv hK hP hL_h0 hF_279 (q := (RX15, TX15, 59)) rfl, fun U hU hWm => ⟨rfl, PTEm.mk hU hWm hP hK hD hE hO hG (fun x hx => absurd hx List.not_mem_nil) hS hFc⟩⟩ rfl rfl hl.1 rfl (lv_room (Nat.le_of_ble_eq_true rfl)) dX15_sealOf_215 ⟨by show _ + 0 ≤ 0; omega, by show _ + 0 ≤ 0; omega⟩) hS (fun q _ h => hFc q h) hFc (fun r_280 u t H1 locs ht hvm hw hB hz1 hk1 hS => ?_)
        obtain ⟨F_281, hB1⟩ := hB
        obtain ⟨hP, hD, hO, hR⟩ := QTm.back hB1 ht hFc hR (fun q h => by simp only [List.mem_cons, List.not_mem_nil, or_false] at h ⊢; omega)
        have hF_282 : F_281 co = .inl (cs 16, 21, .inl f_74) := (hB1.2.2.2 co (by rw [ht_73]; simp)).trans hF_271
        have hF_283 : F_281 sp = .inl (cs 16, 21, .inl f_81) := (hB1.2.2.2 sp (by rw [ht_80]; simp)).trans hF_272
        have hF_284 : F_281 sb = .inl (cs 17, 3000, .inl eb) := (hB1.2.2.2 sb (by rw [ht_39]; simp)).trans hF_273
        have hF_285 : F_281 s0 = .inl (cs 16, 40, .inl e0) := (hB1.2.2.2 s0 (by rw [ht_33]; simp)).trans hF_274
        have hF_286 : F_281 s1 = .inl (cs 16, 40, .inl e1) := (hB1.2.2.2 s1 (by rw [ht_34]; simp)).trans hF_275
        have hF_287 : F_281 s2 = .inl (cs 16, 40, .inl e2) := (hB1.2.2.2 s2 (by rw [ht_35]; simp)).trans hF_276
        have hF_288 : F_281 se = .inr (13, [.ref sx, .ref s0, .ref s1, .ref s2, .int (nI zs)]) := (hB1.2.2.2 se (by rw [ht_29]; simp)).trans hF_277
        have hF_289 : F_281 sd = .inr (14, [.ref r_18, .int (nI (k_163 - (k_157 + 1)))]) := (hB1.2.2.2 sd (by rw [ht_50]; simp)).trans hF_278
        have hF_290 : F_281 h0 = .inr (15, (.ref ta) :: (.int (nI zt)) :: (.int (nI zo)) :: (.int (nI ze)) :: (.ref ou) :: (.ref so) :: (.ref ad) :: (.ref na) :: (.ref va) :: (.ref lc) :: (.ref dm) :: (.int (nI fm)) :: (.int (nI sn)) :: (.ref tg) :: (.int v14_248) :: (.int v15_249) :: (.ref pe) :: (.int v17_250) :: (.int v18_251) :: (.int v19_252) :: (.int v20_253) :: (.int v21_254) :: (.int v22_255) :: (.ref ml) :: (.ref bg) :: (.ref co) :: (.ref sp) :: (.ref nb0) :: (.ref nb1) :: (.ref nb2) :: (.int (nI nf)) :: (.int (nI bd)) :: (.int (nI mm)) :: (.int v33_256) :: (.ref pl) :: (.ref se) :: (.ref ke) :: (.ref wi) :: (.ref hs) :: (.ref mo) :: (.ref po) :: (.ref nu) :: (.ref pr) :: (.ref sq) :: (.ref xa) :: (.ref sa) :: (.ref n64) :: (.ref m64) :: (.ref ex) :: (.ref wh) :: (.ref sd) :: (.ref tk) :: (.int v52_257) :: (.int v53_258) :: (.int v54_259) :: (.ref hd) :: (.ref ak) :: (.ref ho) :: (.ref ot) :: []) := (hB1.2.2.2 h0 (by rw [hT_h0]; simp)).trans hF_279
        have hF_291 : F_281 wh = .inr (14, [.ref r_17, .int (nI (((k_219 - (k_213 + 1)) + j) + ((k_163 - (k_157 + 1)) - 0)))]) := (hB1.2.2.2 wh (by rw [ht_45]; simp)).trans hq_270
        generalize H1 = H at hP hS ⊢
        have hw : True := hw
        have hw_292 := hw
        refine lv_istore (lv' := [(6, .int r_280), (0, .ref h0), (1, .int (nI jf)), (2, .int x2)]) hx hb dX15_sealOf_218 hl (by decide) rfl (fun ls hl => ?_)
        refine lv_iload hx hb dX15_sealOf_220 (lv_at hl 0 rfl) ?_
        refine lv_iconst (v := 2) hx hb dX15_sealOf_222 (by decide) ?_
        refine lv_icmp_eq (tgt := 229) hx hb dX15_sealOf_223 (by decide) (fun c_293 => ?_) (fun c_293 => ?_)
        ·
          refine lv_aload_n hx hb dX15_sealOf_229 rfl (lv_at hl 1 rfl) ?_
          refine lv_aload_n hx hb dX15_sealOf_230 rfl (lv_at hl 1 rfl) ?_
          refine pg_get (ci := 15) (v := .int v53_258) (C := RX15) (T := TX15) (N := 59) hx hb hts it_15 hown hK hP hL_h0 hF_290 rfl 53 (by decide) (hts _ kt_858) (fun _ h9 => h9) rfl dX15_sealOf_231 ?_
          have hFc := pg_free hD hS hA
          refine va_callv (va_runV (As := [.int v53_258]) (rest := []) ⟨hx, hb, hml, hown, hts⟩ (s_X15_bodyPlain l dC dI cs ty gm L H.size F_281 h0 ρ ta ou so ad na va lc dm tg pe ml bg co sp nb0 nb1 nb2 pl se ke wi hs mo po nu pr sq xa sa n64 m64 ex wh sd tk hd ak ho ot sx s0 s1 s2 nf bd mm zo fm sn hg gc gv ze zt rl v53_258 hW hL_h0 hT_h0 hL_pl hT_pl (by first | omega | assumption | exact Or.inl rfl)) ⟨callB_of 1 hts (gi kt_966) rfl rfl rfl (hts _ kt_669) (hts _ kt_967) (by decide +kernel) ⟨Nat.le_of_ble_eq_true rfl, Nat.le_of_ble_eq_true rfl⟩, (hts _ kt_968), (hts _ kt_969)⟩ ⟨fun a U g mk q => ⟨q.1, PTm.calling q.2⟩, pg_recv hK hP hL_h0 hF_290 (q := (RX15, TX15, 59)) rfl, fun U hU hWm => ⟨rfl, PTm.mk hU hWm hP hK hD hE hO⟩⟩ rfl rfl hl.1 rfl (lv_room (Nat.le_of_ble_eq_true rfl)) dX15_sealOf_234 ⟨by show _ + 0 ≤ 0; omega, by show _ + 0 ≤ 0; omega⟩) hS (fun q _ h => hFc q h) hFc (fun u t H1 locs ht hvm hw hB hz1 hk1 hS => ?_)
          obtain ⟨F_295, hB1⟩ := hB
          obtain ⟨hP, hD, hO, hR⟩ := QTm.back hB1 ht hFc hR (fun q h => by simp only [List.mem_cons, List.not_mem_nil, or_false] at h ⊢; omega)
          have hF_296 : F_295 co = .inl (cs 16, 21, .inl f_74) := (hB1.2.2.2 co (by rw [ht_73]; simp)).trans hF_282
          have hF_297 : F_295 sp = .inl (cs 16, 21, .inl f_81) := (hB1.2.2.2 sp (by rw [ht_80]; simp)).trans hF_283
          have hF_298 : F_295 sb = .inl (cs 17, 3000, .inl eb) := (hB1.2.2.2 sb (by rw [ht_39]; simp)).trans hF_284
          have hF_299 : F_295 s0 = .inl (cs 16, 40, .inl e0) := (hB1.2.2.2 s0 (by rw [ht_33]; simp)).trans hF_285
          have hF_300 : F_295 s1 = .inl (cs 16, 40, .inl e1) := (hB1.2.2.2 s1 (by rw [ht_34]; simp)).trans hF_286
          have hF_301 : F_295 s2 = .inl (cs 16, 40, .inl e2) := (hB1.2.2.2 s2 (by rw [ht_35]; simp)).trans hF_287
          have hF_302 : F_295 se = .inr (13, [.ref sx, .ref s0, .ref s1, .ref s2, .int (nI zs)]) := (hB1.2.2.2 se (by rw [ht_29]; simp)).trans hF_288
          have hF_303 : F_295 sd = .inr (14, [.ref r_18, .int (nI (k_163 - (k_157 + 1)))]) := (hB1.2.2.2 sd (by rw [ht_50]; simp)).trans hF_289
          have hF_304 : F_295 h0 = .inr (15, (.ref ta) :: (.int (nI zt)) :: (.int (nI zo)) :: (.int (nI ze)) :: (.ref ou) :: (.ref so) :: (.ref ad) :: (.ref na) :: (.ref va) :: (.ref lc) :: (.ref dm) :: (.int (nI fm)) :: (.int (nI sn)) :: (.ref tg) :: (.int v14_248) :: (.int v15_249) :: (.ref pe) :: (.int v17_250) :: (.int v18_251) :: (.int v19_252) :: (.int v20_253) :: (.int v21_254) :: (.int v22_255) :: (.ref ml) :: (.ref bg) :: (.ref co) :: (.ref sp) :: (.ref nb0) :: (.ref nb1) :: (.ref nb2) :: (.int (nI nf)) :: (.int (nI bd)) :: (.int (nI mm)) :: (.int v33_256) :: (.ref pl) :: (.ref se) :: (.ref ke) :: (.ref wi) :: (.ref hs) :: (.ref mo) :: (.ref po) :: (.ref nu) :: (.ref pr) :: (.ref sq) :: (.ref xa) :: (.ref sa) :: (.ref n64) :: (.ref m64) :: (.ref ex) :: (.ref wh) :: (.ref sd) :: (.ref tk) :: (.int v52_257) :: (.int v53_258) :: (.int v54_259) :: (.ref hd) :: (.ref ak) :: (.ref ho) :: (.ref ot) :: []) := (hB1.2.2.2 h0 (by rw [hT_h0]; simp)).trans hF_290
          have hF_305 : F_295 wh = .inr (14, [.ref r_17, .int (nI (((k_219 - (k_213 + 1)) + j) + ((k_163 - (k_157 + 1)) - 0)))]) := (hB1.2.2.2 wh (by rw [ht_45]; simp)).trans hF_291
          generalize H1 = H at hP hS ⊢
          refine lv_aload_n hx hb dX15_sealOf_237 rfl (lv_at hl 1 rfl) ?_
          refine pg_get (ci := 15) (v := .ref se) (C := RX15) (T := TX15) (N := 59) hx hb hts it_15 hown hK hP hL_h0 hF_304 rfl 35 (by decide) (hts _ kt_847) (fun _ h9 => h9) rfl dX15_sealOf_238 ?_
          obtain ⟨q_306, v_307, hr_q_306, hX_q_306⟩ := hG.2.2 ("PostGateModel", 476, "l", [108]) (by decide +kernel)
          have hX_q_306 : SXc q_306 v_307 1 (cct [108]) A s s.heap := hX_q_306
          obtain ⟨xo_q_306, xc_q_306, xv_q_306, xt_q_306, xn_q_306⟩ := id hX_q_306
          have hr_q_306 : vk_R "PostGateModel" 476 "l" q_306 s := hr_q_306
          refine va_ldcwS hx hb hown hr_q_306 dX15_sealOf_241 ?_
          have hFc := pg_free hD hS hA
          refine va_calli (va_runS (As := [.ref se, .ref q_306]) (rest := []) ⟨hx, hb, hml, hown, hts⟩ (s_X15_number l dC dI cs ty gm L H.size F_295 se (ρ + 11) sx 3000 1280 s0 s1 s2 sb zs q_306 v_307 1 (cct [108]) hW hi_28 ht_29 hL_sx hT_sx hF_302 (by first | omega | assumption | exact Or.inl rfl)) ⟨callB_of 2 hts (gi kt_884) rfl rfl rfl (hts _ kt_669) (hts _ kt_885) (by decide +kernel) ⟨Nat.le_of_ble_eq_true rfl, Nat.le_of_ble_eq_true rfl⟩, (hts _ kt_886)⟩ ⟨fun a U g mk q => ⟨q.1, PTEm.calling q.2⟩, fun U hU hWm => ⟨rfl, PTEm.mk hU hWm hP hK hD hE hO hG (fun x hx => by rw [List.mem_singleton] at hx; subst hx; exact hX_q_306) hS hFc⟩⟩ rfl rfl hl.1 rfl (lv_room (Nat.le_of_ble_eq_true rfl)) dX15_sealOf_244 ⟨by show _ + 0 ≤ 0; omega, by show _ + 0 ≤ 0; omega⟩) hS (fun q _ h => hFc q h) hFc (fun r_308 u t H1 locs ht hvm hw hB hz1 hk1 hS => ?_)
          obtain ⟨F_309, hB1⟩ := hB
          obtain rfl : F_295 = F_309 := (funext (fun a => hB1.2.2.2 a List.not_mem_nil)).symm
          obtain ⟨hP, hD, hO, hR⟩ := QTm.back hB1 ht hFc hR (fun q h => absurd h List.not_mem_nil)
          generalize H1 = H at hP hS ⊢
          have hw : True := hw
          have hw_310 := hw
          refine lv_istore (lv' := [(7, .int r_308), (6, .int r_280), (0, .ref h0), (1, .int (nI jf)), (2, .int x2)]) hx hb dX15_sealOf_247 hl (by decide) rfl (fun ls hl => ?_)
          refine lv_iload hx hb dX15_sealOf_249 (lv_at hl 0 rfl) ?_
          refine lv_aload_n hx hb dX15_sealOf_251 rfl (lv_at hl 2 rfl) ?_
          refine pg_get (ci := 15) (v := .ref pl) (C := RX15) (T := TX15) (N := 59) hx hb hts it_15 hown hK hP hL_h0 hF_304 rfl 34 (by decide) (hts _ kt_901) (fun _ h9 => h9) rfl dX15_sealOf_252 ?_
          obtain ⟨z_311, hF_312, hq_313⟩ := hO.txt hL_pl hT_pl
          refine pg_get (ci := 14) (v := .int (nI z_311)) (C := RX14) (T := TX14) (N := 2) hx hb hts it_14 hown hK hP hL_pl hF_312 rfl 1 (by decide) (hts _ kt_709) (fun _ h9 => h9) rfl dX15_sealOf_255 ?_
          refine lv_icmp_le (tgt := 263) hx hb dX15_sealOf_258 (by decide) (fun c_314 => ?_) (fun c_314 => ?_)
          ·
            refine lv_aload_n hx hb dX15_sealOf_263 rfl (lv_at hl 2 rfl) ?_
            refine lv_aload_n hx hb dX15_sealOf_264 rfl (lv_at hl 2 rfl) ?_
            refine pg_get (ci := 15) (v := .ref pl) (C := RX15) (T := TX15) (N := 59) hx hb hts it_15 hown hK hP hL_h0 hF_304 rfl 34 (by decide) (hts _ kt_901) (fun _ h9 => h9) rfl dX15_sealOf_265 ?_
            refine pg_get (ci := 14) (v := .ref rl) (C := RX14) (T := TX14) (N := 2) hx hb hts it_14 hown hK hP hL_pl hF_312 rfl 0 (by decide) (hts _ kt_710) (fun _ h9 => h9) rfl dX15_sealOf_268 ?_
            have hF_317 : F co = .inl (cs 16, 21, .inl f_74) := (hR co (by rw [ht_73]; simp)).symm.trans hF_296
            have hF_318 : F sp = .inl (cs 16, 21, .inl f_81) := (hR sp (by rw [ht_80]; simp)).symm.trans hF_297
            refine W.widen (k := 0) (n := 0) (by omega) (by omega) ?_
            refine pl_cutm (σ := Int32) A (dC, dI) cs ty gm L [ρ, ρ + 10, ρ + 11, ρ + 12, ρ + 13, ρ + 14, ρ + 17, ρ + 18, ρ + 19, ρ + 20, ρ + 21, ρ + 22, ρ + 23, ρ + 24, ρ + 25, ρ + 26, ρ + 81, ρ + 82, ρ + 83, ρ + 84, ρ + 87, ρ + 88, ρ + 89, ρ + 90] F 288 8 (fun s8 => [(0, .ref h0), (1, .int (nI jf)), (2, .int x2)]) (fun s8 => [.int s8, .ref rl, .ref h0]) (fun s8 FF => (∃ k : Nat, k ≤ z_311 ∧ s8 = nI k) ∧ FF sb = .inl (cs 17, 3000, .inl eb) ∧ FF s0 = .inl (cs 16, 40, .inl e0) ∧ FF s1 = .inl (cs 16, 40, .inl e1) ∧ FF s2 = .inl (cs 16, 40, .inl e2) ∧ FF se = .inr (13, [.ref sx, .ref s0, .ref s1, .ref s2, .int (nI zs)])) ?_ (fun jn_315 => ?_)
            ·
              rintro s8 F_316 hv_319 hO hR H locs hP hD hS ls hl
              have hl : lv_has ls 8 [(0, .ref h0), (1, .int (nI jf)), (2, .int x2)] := hl
              have hv_319 : (∃ k : Nat, k ≤ z_311 ∧ s8 = nI k) ∧ F_316 sb = .inl (cs 17, 3000, .inl eb) ∧ F_316 s0 = .inl (cs 16, 40, .inl e0) ∧ F_316 s1 = .inl (cs 16, 40, .inl e1) ∧ F_316 s2 = .inl (cs 16, 40, .inl e2) ∧ F_316 se = .inr (13, [.ref sx, .ref s0, .ref s1, .ref s2, .int (nI zs)]) := hv_319
              refine W.eq (g2 := F0 m 288 ls [.int s8, .ref rl, .ref h0]) rfl ?_
              have hF_320 : F_316 co = .inl (cs 16, 21, .inl f_74) := (hR co (by rw [ht_73]; simp)).trans hF_317
              have hF_321 : F_316 sp = .inl (cs 16, 21, .inl f_81) := (hR sp (by rw [ht_80]; simp)).trans hF_318
              obtain ⟨⟨kz, hkz, ekz⟩, hoa, hob, hoc, hod, hoe⟩ := hv_319
              subst ekz
              refine W.eq (g2 := F0 m 288 ls [.int (nI kz), .ref rl, .ref h0]) rfl ?_
              refine lv_aload_n hx hb dX15_sealOf_288 rfl (lv_at hl 0 rfl) ?_
              obtain ⟨v14_322, v15_323, v17_324, v18_325, v19_326, v20_327, v21_328, v22_329, v33_330, v52_331, v53_332, v54_333, hF_334, hq_335, hq_336, hq_337, hq_338, hq_339⟩ := hO.mod hL_h0 hT_h0
              refine pg_get (ci := 15) (v := .ref xa) (C := RX15) (T := TX15) (N := 59) hx hb hts it_15 hown hK hP hL_h0 hF_334 rfl 44 (by decide) (hts _ kt_921) (fun _ h9 => h9) rfl dX15_sealOf_289 ?_
              obtain ⟨hq_340, hq_341⟩ := hW.octs hi_41 ht_42
              obtain ⟨hi_342, ht_343⟩ := hW.f_xa hL_h0 hT_h0
              obtain ⟨hq_344, hq_345⟩ := hW.octs hi_342 ht_343
              have hFc := pg_free hD hS hA
              refine va_callv (va_runV (As := [.ref rl, .int (nI kz), .ref xa]) (rest := []) ⟨hx, hb, hml, hown, hts⟩ (s_X15_digest l dC dI cs ty gm L H.size F_316 h0 ρ ta ou so ad na va lc dm tg pe ml bg co sp nb0 nb1 nb2 pl se ke wi hs mo po nu pr sq xa sa n64 m64 ex wh sd tk hd ak ho ot sx s0 s1 s2 nf bd mm zo fm sn hg gc gv ze zt rl (ρ + 10) 6000 xa (ρ + 19) 32 kz hW hL_h0 hT_h0 hi_41 ht_42 hi_342 ht_343 (by first | omega | assumption | exact Or.inl rfl) (by first | omega | assumption | exact Or.inl rfl)) ⟨callB_of 3 hts (gi kt_970) rfl rfl rfl (hts _ kt_669) (hts _ kt_971) (by decide +kernel) ⟨Nat.le_of_ble_eq_true rfl, Nat.le_of_ble_eq_true rfl⟩, (hts _ kt_972), (hts _ kt_973)⟩ ⟨fun a U g mk q => ⟨q.1, PTm.calling q.2⟩, pg_recv hK hP hL_h0 hF_334 (q := (RX15, TX15, 59)) rfl, fun U hU hWm => ⟨rfl, PTm.mk hU hWm hP hK hD hE hO⟩⟩ rfl rfl hl.1 rfl (lv_room (Nat.le_of_ble_eq_true rfl)) dX15_sealOf_292 ⟨by show _ + 0 ≤ 0; omega, by show _ + 0 ≤ 0; omega⟩) hS (fun q _ h => hFc q h) hFc (fun u t H1 locs ht hvm hw hB hz1 hk1 hS => ?_)
              obtain ⟨F_347, hB1⟩ := hB
              obtain ⟨hP, hD, hO, hR⟩ := QTm.back hB1 ht hFc hR (fun q h => by simp only [List.mem_cons, List.not_mem_nil, or_false] at h ⊢; omega)
              have hF_348 : F_347 co = .inl (cs 16, 21, .inl f_74) := (hB1.2.2.2 co (by rw [ht_73]; simp)).trans hF_320
              have hF_349 : F_347 sp = .inl (cs 16, 21, .inl f_81) := (hB1.2.2.2 sp (by rw [ht_80]; simp)).trans hF_321
              have hF_350 : F_347 sb = .inl (cs 17, 3000, .inl eb) := (hB1.2.2.2 sb (by rw [ht_39]; simp)).trans hoa
              have hF_351 : F_347 s0 = .inl (cs 16, 40, .inl e0) := (hB1.2.2.2 s0 (by rw [ht_33]; simp)).trans hob
              have hF_352 : F_347 s1 = .inl (cs 16, 40, .inl e1) := (hB1.2.2.2 s1 (by rw [ht_34]; simp)).trans hoc
              have hF_353 : F_347 s2 = .inl (cs 16, 40, .inl e2) := (hB1.2.2.2 s2 (by rw [ht_35]; simp)).trans hod
              have hF_354 : F_347 se = .inr (13, [.ref sx, .ref s0, .ref s1, .ref s2, .int (nI zs)]) := (hB1.2.2.2 se (by rw [ht_29]; simp)).trans hoe
              have hF_355 : F_347 h0 = .inr (15, (.ref ta) :: (.int (nI zt)) :: (.int (nI zo)) :: (.int (nI ze)) :: (.ref ou) :: (.ref so) :: (.ref ad) :: (.ref na) :: (.ref va) :: (.ref lc) :: (.ref dm) :: (.int (nI fm)) :: (.int (nI sn)) :: (.ref tg) :: (.int v14_322) :: (.int v15_323) :: (.ref pe) :: (.int v17_324) :: (.int v18_325) :: (.int v19_326) :: (.int v20_327) :: (.int v21_328) :: (.int v22_329) :: (.ref ml) :: (.ref bg) :: (.ref co) :: (.ref sp) :: (.ref nb0) :: (.ref nb1) :: (.ref nb2) :: (.int (nI nf)) :: (.int (nI bd)) :: (.int (nI mm)) :: (.int v33_330) :: (.ref pl) :: (.ref se) :: (.ref ke) :: (.ref wi) :: (.ref hs) :: (.ref mo) :: (.ref po) :: (.ref nu) :: (.ref pr) :: (.ref sq) :: (.ref xa) :: (.ref sa) :: (.ref n64) :: (.ref m64) :: (.ref ex) :: (.ref wh) :: (.ref sd) :: (.ref tk) :: (.int v52_331) :: (.int v53_332) :: (.int v54_333) :: (.ref hd) :: (.ref ak) :: (.ref ho) :: (.ref ot) :: []) := (hB1.2.2.2 h0 (by rw [hT_h0]; simp)).trans hF_334
              generalize H1 = H at hP hS ⊢
              refine lv_aload_n hx hb dX15_sealOf_295 rfl (lv_at hl 0 rfl) ?_
              refine pg_get (ci := 15) (v := .ref xa) (C := RX15) (T := TX15) (N := 59) hx hb hts it_15 hown hK hP hL_h0 hF_355 rfl 44 (by decide) (hts _ kt_921) (fun _ h9 => h9) rfl dX15_sealOf_296 ?_
              refine lv_aload_n hx hb dX15_sealOf_299 rfl (lv_at hl 0 rfl) ?_
              refine pg_get (ci := 15) (v := .ref sa) (C := RX15) (T := TX15) (N := 59) hx hb hts it_15 hown hK hP hL_h0 hF_355 rfl 45 (by decide) (hts _ kt_871) (fun _ h9 => h9) rfl dX15_sealOf_300 ?_
              obtain ⟨hi_356, ht_357⟩ := hW.f_sa hL_h0 hT_h0
              obtain ⟨hq_358, hq_359⟩ := hW.octs hi_356 ht_357
              have hFc := pg_free hD hS hA
              refine va_calli (va_runS (As := [.ref xa, .ref sa]) (rest := []) ⟨hx, hb, hml, hown, hts⟩ (s_X15_isAll l dC dI cs ty gm L H.size F_347 xa (ρ + 19) sa (ρ + 20) hW hi_342 ht_343 hi_356 ht_357) ⟨callB_of 2 hts (gi kt_974) rfl rfl rfl (hts _ kt_669) (hts _ kt_975) (by decide +kernel) ⟨Nat.le_of_ble_eq_true rfl, Nat.le_of_ble_eq_true rfl⟩, (hts _ kt_976)⟩ ⟨fun a U g mk q => ⟨q.1, PTm.calling q.2⟩, fun U hU hWm => ⟨rfl, PTm.mk hU hWm hP hK hD hE hO⟩⟩ rfl rfl hl.1 rfl (lv_room (Nat.le_of_ble_eq_true rfl)) dX15_sealOf_303 ⟨by show _ + 0 ≤ 0; omega, by show _ + 0 ≤ 0; omega⟩) hS (fun q _ h => hFc q h) hFc (fun r_360 u t H1 locs ht hvm hw hB hz1 hk1 hS => ?_)
              obtain ⟨F_361, hB1⟩ := hB
              obtain rfl : F_347 = F_361 := (funext (fun a => hB1.2.2.2 a List.not_mem_nil)).symm
              obtain ⟨hP, hD, hO, hR⟩ := QTm.back hB1 ht hFc hR (fun q h => absurd h List.not_mem_nil)
              generalize H1 = H at hP hS ⊢
              have hw : (r_360 = 0 ∨ r_360 = 1) := hw
              have hw_362 := hw
              refine lv_if_ne (tgt := 311) hx hb dX15_sealOf_306 (by decide) (fun c_363 => ?_) (fun c_363 => ?_)
              ·
                refine lv_aload_n hx hb dX15_sealOf_311 rfl (lv_at hl 0 rfl) ?_
                refine lv_iload_n hx hb dX15_sealOf_312 rfl (lv_at hl 1 rfl) ?_
                have hFc := pg_free hD hS hA
                refine va_callv (va_runV (As := [.int (nI jf)]) (rest := []) ⟨hx, hb, hml, hown, hts⟩ (s_X15_fieldsPlain l dC dI cs ty gm L H.size F_347 h0 ρ ta ou so ad na va lc dm tg pe ml bg co sp nb0 nb1 nb2 pl se ke wi hs mo po nu pr sq xa sa n64 m64 ex wh sd tk hd ak ho ot sx s0 s1 s2 nf bd mm zo fm sn hg gc gv ze zt sb rl eb e0 e1 e2 zs kh jf hW hL_h0 hT_h0 hL_sx hT_sx hL_pl hT_pl hF_350 hF_351 hF_352 hF_353 hF_354 (hzs) (hh1) (hfh) (by first | omega | assumption | exact Or.inl rfl)) ⟨callB_of 1 hts (gi kt_977) rfl rfl rfl (hts _ kt_669) (hts _ kt_978) (by decide +kernel) ⟨Nat.le_of_ble_eq_true rfl, Nat.le_of_ble_eq_true rfl⟩, (hts _ kt_979), (hts _ kt_980)⟩ ⟨fun a U g mk q => ⟨q.1, PTEm.calling q.2⟩, pg_recv hK hP hL_h0 hF_355 (q := (RX15, TX15, 59)) rfl, fun U hU hWm => ⟨rfl, PTEm.mk hU hWm hP hK hD hE hO hG (fun x hx => absurd hx List.not_mem_nil) hS hFc⟩⟩ rfl rfl hl.1 rfl (lv_room (Nat.le_of_ble_eq_true rfl)) dX15_sealOf_313 ⟨by show _ + 0 ≤ 0; omega, by show _ + 0 ≤ 0; omega⟩) hS (fun q _ h => hFc q h) hFc (fun u t H1 locs ht hvm hw hB hz1 hk1 hS => ?_)
                obtain ⟨F_365, hB1⟩ := hB
                obtain ⟨hP, hD, hO, hR⟩ := QTm.back hB1 ht hFc hR (fun q h => by simp only [List.mem_cons, List.not_mem_nil, or_false] at h ⊢; omega)
                have hF_366 : F_365 co = .inl (cs 16, 21, .inl f_74) := (hB1.2.2.2 co (by rw [ht_73]; simp)).trans hF_348
                have hF_367 : F_365 sp = .inl (cs 16, 21, .inl f_81) := (hB1.2.2.2 sp (by rw [ht_80]; simp)).trans hF_349
                have hF_368 : F_365 sb = .inl (cs 17, 3000, .inl eb) := (hB1.2.2.2 sb (by rw [ht_39]; simp)).trans hF_350
                have hF_369 : F_365 s0 = .inl (cs 16, 40, .inl e0) := (hB1.2.2.2 s0 (by rw [ht_33]; simp)).trans hF_351
                have hF_370 : F_365 s1 = .inl (cs 16, 40, .inl e1) := (hB1.2.2.2 s1 (by rw [ht_34]; simp)).trans hF_352
                have hF_371 : F_365 s2 = .inl (cs 16, 40, .inl e2) := (hB1.2.2.2 s2 (by rw [ht_35]; simp)).trans hF_353
                have hF_372 : F_365 se = .inr (13, [.ref sx, .ref s0, .ref s1, .ref s2, .int (nI zs)]) := (hB1.2.2.2 se (by rw [ht_29]; simp)).trans hF_354
                have hF_373 : F_365 h0 = .inr (15, (.ref ta) :: (.int (nI zt)) :: (.int (nI zo)) :: (.int (nI ze)) :: (.ref ou) :: (.ref so) :: (.ref ad) :: (.ref na) :: (.ref va) :: (.ref lc) :: (.ref dm) :: (.int (nI fm)) :: (.int (nI sn)) :: (.ref tg) :: (.int v14_322) :: (.int v15_323) :: (.ref pe) :: (.int v17_324) :: (.int v18_325) :: (.int v19_326) :: (.int v20_327) :: (.int v21_328) :: (.int v22_329) :: (.ref ml) :: (.ref bg) :: (.ref co) :: (.ref sp) :: (.ref nb0) :: (.ref nb1) :: (.ref nb2) :: (.int (nI nf)) :: (.int (nI bd)) :: (.int (nI mm)) :: (.int v33_330) :: (.ref pl) :: (.ref se) :: (.ref ke) :: (.ref wi) :: (.ref hs) :: (.ref mo) :: (.ref po) :: (.ref nu) :: (.ref pr) :: (.ref sq) :: (.ref xa) :: (.ref sa) :: (.ref n64) :: (.ref m64) :: (.ref ex) :: (.ref wh) :: (.ref sd) :: (.ref tk) :: (.int v52_331) :: (.int v53_332) :: (.int v54_333) :: (.ref hd) :: (.ref ak) :: (.ref ho) :: (.ref ot) :: []) := (hB1.2.2.2 h0 (by rw [hT_h0]; simp)).trans hF_355
                generalize H1 = H at hP hS ⊢
                refine lv_aload_n hx hb dX15_sealOf_316 rfl (lv_at hl 0 rfl) ?_
                refine lv_aload_n hx hb dX15_sealOf_317 rfl (lv_at hl 0 rfl) ?_
                refine pg_get (ci := 15) (v := .ref pl) (C := RX15) (T := TX15) (N := 59) hx hb hts it_15 hown hK hP hL_h0 hF_373 rfl 34 (by decide) (hts _ kt_901) (fun _ h9 => h9) rfl dX15_sealOf_318 ?_
                obtain ⟨z_374, hF_375, hq_376⟩ := hO.txt hL_pl hT_pl
                refine pg_get (ci := 14) (v := .ref rl) (C := RX14) (T := TX14) (N := 2) hx hb hts it_14 hown hK hP hL_pl hF_375 rfl 0 (by decide) (hts _ kt_710) (fun _ h9 => h9) rfl dX15_sealOf_321 ?_
                refine lv_aload_n hx hb dX15_sealOf_324 rfl (lv_at hl 0 rfl) ?_
                refine pg_get (ci := 15) (v := .ref pl) (C := RX15) (T := TX15) (N := 59) hx hb hts it_15 hown hK hP hL_h0 hF_373 rfl 34 (by decide) (hts _ kt_901) (fun _ h9 => h9) rfl dX15_sealOf_325 ?_
                refine pg_get (ci := 14) (v := .int (nI z_374)) (C := RX14) (T := TX14) (N := 2) hx hb hts it_14 hown hK hP hL_pl hF_375 rfl 1 (by decide) (hts _ kt_709) (fun _ h9 => h9) rfl dX15_sealOf_328 ?_
                refine lv_aload_n hx hb dX15_sealOf_331 rfl (lv_at hl 0 rfl) ?_
                refine pg_get (ci := 15) (v := .ref xa) (C := RX15) (T := TX15) (N := 59) hx hb hts it_15 hown hK hP hL_h0 hF_373 rfl 44 (by decide) (hts _ kt_921) (fun _ h9 => h9) rfl dX15_sealOf_332 ?_
                have hFc := pg_free hD hS hA
                refine va_callv (va_runV (As := [.ref rl, .int (nI z_374), .ref xa]) (rest := []) ⟨hx, hb, hml, hown, hts⟩ (s_X15_digest l dC dI cs ty gm L H.size F_365 h0 ρ ta ou so ad na va lc dm tg pe ml bg co sp nb0 nb1 nb2 pl se ke wi hs mo po nu pr sq xa sa n64 m64 ex wh sd tk hd ak ho ot sx s0 s1 s2 nf bd mm zo fm sn hg gc gv ze zt rl (ρ + 10) 6000 xa (ρ + 19) 32 z_374 hW hL_h0 hT_h0 hi_41 ht_42 hi_342 ht_343 (by first | omega | assumption | exact Or.inl rfl) (by first | omega | assumption | exact Or.inl rfl)) ⟨callB_of 3 hts (gi kt_970) rfl rfl rfl (hts _ kt_669) (hts _ kt_971) (by decide +kernel) ⟨Nat.le_of_ble_eq_true rfl, Nat.le_of_ble_eq_true rfl⟩, (hts _ kt_972), (hts _ kt_973)⟩ ⟨fun a U g mk q => ⟨q.1, PTm.calling q.2⟩, pg_recv hK hP hL_h0 hF_373 (q := (RX15, TX15, 59)) rfl, fun U hU hWm => ⟨rfl, PTm.mk hU hWm hP hK hD hE hO⟩⟩ rfl rfl hl.1 rfl (lv_room (Nat.le_of_ble_eq_true rfl)) dX15_sealOf_335 ⟨by show _ + 0 ≤ 0; omega, by show _ + 0 ≤ 0; omega⟩) hS (fun q _ h => hFc q h) hFc (fun u t H1 locs ht hvm hw hB hz1 hk1 hS => ?_)
                obtain ⟨F_378, hB1⟩ := hB
                obtain ⟨hP, hD, hO, hR⟩ := QTm.back hB1 ht hFc hR (fun q h => by simp only [List.mem_cons, List.not_mem_nil, or_false] at h ⊢; omega)
                have hF_379 : F_378 co = .inl (cs 16, 21, .inl f_74) := (hB1.2.2.2 co (by rw [ht_73]; simp)).trans hF_366
                have hF_380 : F_378 sp = .inl (cs 16, 21, .inl f_81) := (hB1.2.2.2 sp (by rw [ht_80]; simp)).trans hF_367
                have hF_381 : F_378 sb = .inl (cs 17, 3000, .inl eb) := (hB1.2.2.2 sb (by rw [ht_39]; simp)).trans hF_368
                have hF_382 : F_378 s0 = .inl (cs 16, 40, .inl e0) := (hB1.2.2.2 s0 (by rw [ht_33]; simp)).trans hF_369
                have hF_383 : F_378 s1 = .inl (cs 16, 40, .inl e1) := (hB1.2.2.2 s1 (by rw [ht_34]; simp)).trans hF_370
                have hF_384 : F_378 s2 = .inl (cs 16, 40, .inl e2) := (hB1.2.2.2 s2 (by rw [ht_35]; simp)).trans hF_371
                have hF_385 : F_378 se = .inr (13, [.ref sx, .ref s0, .ref s1, .ref s2, .int (nI zs)]) := (hB1.2.2.2 se (by rw [ht_29]; simp)).trans hF_372
                have hF_386 : F_378 h0 = .inr (15, (.ref ta) :: (.int (nI zt)) :: (.int (nI zo)) :: (.int (nI ze)) :: (.ref ou) :: (.ref so) :: (.ref ad) :: (.ref na) :: (.ref va) :: (.ref lc) :: (.ref dm) :: (.int (nI fm)) :: (.int (nI sn)) :: (.ref tg) :: (.int v14_322) :: (.int v15_323) :: (.ref pe) :: (.int v17_324) :: (.int v18_325) :: (.int v19_326) :: (.int v20_327) :: (.int v21_328) :: (.int v22_329) :: (.ref ml) :: (.ref bg) :: (.ref co) :: (.ref sp) :: (.ref nb0) :: (.ref nb1) :: (.ref nb2) :: (.int (nI nf)) :: (.int (nI bd)) :: (.int (nI mm)) :: (.int v33_330) :: (.ref pl) :: (.ref se) :: (.ref ke) :: (.ref wi) :: (.ref hs) :: (.ref mo) :: (.ref po) :: (.ref nu) :: (.ref pr) :: (.ref sq) :: (.ref xa) :: (.ref sa) :: (.ref n64) :: (.ref m64) :: (.ref ex) :: (.ref wh) :: (.ref sd) :: (.ref tk) :: (.int v52_331) :: (.int v53_332) :: (.int v54_333) :: (.ref hd) :: (.ref ak) :: (.ref ho) :: (.ref ot) :: []) := (hB1.2.2.2 h0 (by rw [hT_h0]; simp)).trans hF_373
                have hF_387 : F_378 pl = .inr (14, [.ref rl, .int (nI z_374)]) := (hB1.2.2.2 pl (by rw [hT_pl]; simp)).trans hF_375
                generalize H1 = H at hP hS ⊢
                refine lv_aload_n hx hb dX15_sealOf_338 rfl (lv_at hl 0 rfl) ?_
                have hFc := pg_free hD hS hA
                refine va_calli (va_runV (As := []) (rest := []) ⟨hx, hb, hml, hown, hts⟩ (s_X15_isPower l dC dI cs ty gm L H.size F_378 h0 ρ ta ou so ad na va lc dm tg pe ml bg co sp nb0 nb1 nb2 pl se ke wi hs mo po nu pr sq xa sa n64 m64 ex wh sd tk hd ak ho ot sx s0 s1 s2 nf bd mm zo fm sn hg gc gv ze zt hW hL_h0 hT_h0) ⟨callB_of 0 hts (gi kt_981) rfl rfl rfl (hts _ kt_669) (hts _ kt_982) (by decide +kernel) ⟨Nat.le_of_ble_eq_true rfl, Nat.le_of_ble_eq_true rfl⟩, (hts _ kt_983), (hts _ kt_984)⟩ ⟨fun a U g mk q => ⟨q.1, PTm.calling q.2⟩, pg_recv hK hP hL_h0 hF_386 (q := (RX15, TX15, 59)) rfl, fun U hU hWm => ⟨rfl, PTm.mk hU hWm hP hK hD hE hO⟩⟩ rfl rfl hl.1 rfl (lv_room (Nat.le_of_ble_eq_true rfl)) dX15_sealOf_339 ⟨by show _ + 0 ≤ 0; omega, by show _ + 0 ≤ 0; omega⟩) hS (fun q _ h => hFc q h) hFc (fun r_388 u t H1 locs ht hvm hw hB hz1 hk1 hS => ?_)
                obtain ⟨F_389, hB1⟩ := hB
                obtain ⟨hP, hD, hO, hR⟩ := QTm.back hB1 ht hFc hR (fun q h => by simp only [List.mem_cons, List.not_mem_nil, or_false] at h ⊢; omega)
                have hF_390 : F_389 co = .inl (cs 16, 21, .inl f_74) := (hB1.2.2.2 co (by rw [ht_73]; simp)).trans hF_379
                have hF_391 : F_389 sp = .inl (cs 16, 21, .inl f_81) := (hB1.2.2.2 sp (by rw [ht_80]; simp)).trans hF_380
                have hF_392 : F_389 sb = .inl (cs 17, 3000, .inl eb) := (hB1.2.2.2 sb (by rw [ht_39]; simp)).trans hF_381
                have hF_393 : F_389 s0 = .inl (cs 16, 40, .inl e0) := (hB1.2.2.2 s0 (by rw [ht_33]; simp)).trans hF_382
                have hF_394 : F_389 s1 = .inl (cs 16, 40, .inl e1) := (hB1.2.2.2 s1 (by rw [ht_34]; simp)).trans hF_383
                have hF_395 : F_389 s2 = .inl (cs 16, 40, .inl e2) := (hB1.2.2.2 s2 (by rw [ht_35]; simp)).trans hF_384
                have hF_396 : F_389 se = .inr (13, [.ref sx, .ref s0, .ref s1, .ref s2, .int (nI zs)]) := (hB1.2.2.2 se (by rw [ht_29]; simp)).trans hF_385
                have hF_397 : F_389 h0 = .inr (15, (.ref ta) :: (.int (nI zt)) :: (.int (nI zo)) :: (.int (nI ze)) :: (.ref ou) :: (.ref so) :: (.ref ad) :: (.ref na) :: (.ref va) :: (.ref lc) :: (.ref dm) :: (.int (nI fm)) :: (.int (nI sn)) :: (.ref tg) :: (.int v14_322) :: (.int v15_323) :: (.ref pe) :: (.int v17_324) :: (.int v18_325) :: (.int v19_326) :: (.int v20_327) :: (.int v21_328) :: (.int v22_329) :: (.ref ml) :: (.ref bg) :: (.ref co) :: (.ref sp) :: (.ref nb0) :: (.ref nb1) :: (.ref nb2) :: (.int (nI nf)) :: (.int (nI bd)) :: (.int (nI mm)) :: (.int v33_330) :: (.ref pl) :: (.ref se) :: (.ref ke) :: (.ref wi) :: (.ref hs) :: (.ref mo) :: (.ref po) :: (.ref nu) :: (.ref pr) :: (.ref sq) :: (.ref xa) :: (.ref sa) :: (.ref n64) :: (.ref m64) :: (.ref ex) :: (.ref wh) :: (.ref sd) :: (.ref tk) :: (.int v52_331) :: (.int v53_332) :: (.int v54_333) :: (.ref hd) :: (.ref ak) :: (.ref ho) :: (.ref ot) :: []) := (hB1.2.2.2 h0 (by rw [hT_h0]; simp)).trans hF_386
                have hF_398 : F_389 pl = .inr (14, [.ref rl, .int (nI z_374)]) := (hB1.2.2.2 pl (by rw [hT_pl]; simp)).trans hF_387
                generalize H1 = H at hP hS ⊢
                have hw : (r_388 = 0 ∨ r_388 = 1) := hw
                have hw_399 := hw
                refine lv_if_eq (tgt := 349) hx hb dX15_sealOf_342 (by decide) (fun c_400 => ?_) (fun c_400 => ?_)
                ·
                  refine lv_iconst (v := 3) hx hb dX15_sealOf_349 (by decide) ?_
                  refine W.widen (k := 0) (n := 0) (by omega) (by omega) ?_
                  exact W.iret (v := 3) hx hb hr (fun t ht hWm => ⟨⟨3, (), rfl, trivial, ⟨F_389, QTm.mk ht hP hD hO hR⟩⟩, hS.F ht⟩) hS.2.2 dX15_sealOf_350
                ·
                  refine lv_iconst (v := 2) hx hb dX15_sealOf_345 (by decide) ?_
                  refine lv_goto (tgt := 350) hx hb dX15_sealOf_346 (by decide) ?_
                  refine W.widen (k := 0) (n := 0) (by omega) (by omega) ?_
                  exact W.iret (v := 2) hx hb hr (fun t ht hWm => ⟨⟨2, (), rfl, trivial, ⟨F_389, QTm.mk ht hP hD hO hR⟩⟩, hS.F ht⟩) hS.2.2 dX15_sealOf_350
              ·
                refine lv_iconst (v := 3) hx hb dX15_sealOf_309 (by decide) ?_
                refine W.widen (k := 0) (n := 0) (by omega) (by omega) ?_
                exact W.iret (v := 3) hx hb hr (fun t ht hWm => ⟨⟨3, (), rfl, trivial, ⟨F_347, QTm.mk ht hP hD hO hR⟩⟩, hS.F ht⟩) hS.2.2 dX15_sealOf_310
            ·
              refine lv_iload hx hb dX15_sealOf_271 (lv_at hl 0 rfl) ?_
              refine lv_if_lt (tgt := 281) hx hb dX15_sealOf_273 (by decide) (fun c_401 => ?_) (fun c_401 => ?_)
              ·
                refine lv_aload_n hx hb dX15_sealOf_281 rfl (lv_at hl 2 rfl) ?_
                refine pg_get (ci := 15) (v := .ref pl) (C := RX15) (T := TX15) (N := 59) hx hb hts it_15 hown hK hP hL_h0 hF_304 rfl 34 (by decide) (hts _ kt_901) (fun _ h9 => h9) rfl dX15_sealOf_282 ?_
                refine pg_get (ci := 14) (v := .int (nI z_311)) (C := RX14) (T := TX14) (N := 2) hx hb hts it_14 hown hK hP hL_pl hF_312 rfl 1 (by decide) (hts _ kt_709) (fun _ h9 => h9) rfl dX15_sealOf_285 ?_
                refine W.widen (k := 0) (n := 0) (by omega) (by omega) ?_
                exact jn_315 (nI z_311) F_295 (⟨⟨z_311, by omega, rfl⟩, hF_298, hF_299, hF_300, hF_301, hF_302⟩) hO hR _ _ hP hD hS ls (lv_sub hl [2, 3, 4] rfl)
              ·
                have hr9 := c_314
                obtain ⟨km, hkm, ekm⟩ := nI_of c_401
                subst ekm
                have hkz : km ≤ z_311 := (nI_leI hkm (by omega)).mp hr9
                refine lv_iload hx hb dX15_sealOf_276 (lv_at hl 0 rfl) ?_
                refine lv_goto (tgt := 288) hx hb dX15_sealOf_278 (by decide) ?_
                refine W.widen (k := 0) (n := 0) (by omega) (by omega) ?_
                exact jn_315 (nI km) F_295 (⟨⟨km, by omega, rfl⟩, hF_298, hF_299, hF_300, hF_301, hF_302⟩) hO hR _ _ hP hD hS ls (lv_sub hl [2, 3, 4] rfl)
          ·
            refine lv_iconst (v := 3) hx hb dX15_sealOf_261 (by decide) ?_
            refine W.widen (k := 0) (n := 0) (by omega) (by omega) ?_
            exact W.iret (v := 3) hx hb hr (fun t ht hWm => ⟨⟨3, (), rfl, trivial, ⟨F_295, QTm.mk ht hP hD hO hR⟩⟩, hS.F ht⟩) hS.2.2 dX15_sealOf_262
        ·
          refine lv_iload hx hb dX15_sealOf_226 (lv_at hl 0 rfl) ?_
          refine W.widen (k := 0) (n := 0) (by omega) (by omega) ?_
          exact W.iret (v := r_280) hx hb hr (fun t ht hWm => ⟨⟨r_280, (), rfl, trivial, ⟨F_281, QTm.mk ht hP hD hO hR⟩⟩, hS.F ht⟩) hS.2.2 dX15_sealOf_228
      ·
        have hi_402 : j < 12 := ltN (N := 12) c_246
        refine lv_aload_n hx hb dX15_sealOf_171 rfl (lv_at hl 1 rfl) ?_
        obtain ⟨v14_403, v15_404, v17_405, v18_406, v19_407, v20_408, v21_409, v22_410, v33_411, v52_412, v53_413, v54_414, hF_415, hq_416, hq_417, hq_418, hq_419, hq_420⟩ := hO.mod hL_h0 hT_h0
        refine pg_get (ci := 15) (v := .ref wh) (C := RX15) (T := TX15) (N := 59) hx hb hts it_15 hown hK hP hL_h0 hF_415 rfl 49 (by decide) (hts _ kt_924) (fun _ h9 => h9) rfl dX15_sealOf_172 ?_
        obtain ⟨q_421, v_422, hr_q_421, hX_q_421⟩ := hG.2.2 ("PostGateModel", 514, "._domainkey.", [46, 95, 100, 111, 109, 97, 105, 110, 107, 101, 121, 46]) (by decide +kernel)
        have hX_q_421 : SXc q_421 v_422 12 (cct [46, 95, 100, 111, 109, 97, 105, 110, 107, 101, 121, 46]) A s s.heap := hX_q_421
        obtain ⟨xo_q_421, xc_q_421, xv_q_421, xt_q_421, xn_q_421⟩ := id hX_q_421
        have hr_q_421 : vk_R "PostGateModel" 514 "._domainkey." q_421 s := hr_q_421
        refine va_ldcwS hx hb hown hr_q_421 dX15_sealOf_175 ?_
        refine lv_iload hx hb dX15_sealOf_178 (lv_at hl 0 rfl) ?_
        have hFc := pg_free hD hS hA
        refine va_calli (va_runV (As := [.int (nI j)]) (rest := [.ref wh]) ⟨hx, hb, hml, hown, hts⟩ (m_J0_charAt_5068e l dC dI cs ty gm L H.size F_239 q_421 v_422 12 (cct [46, 95, 100, 111, 109, 97, 105, 110, 107, 101, 121, 46]) j hW (by first | omega | assumption | exact Or.inl rfl)) ⟨callB_of 1 hts (gi kt_75) rfl rfl rfl (hts _ kt_51) (hts _ kt_693) (by decide +kernel) ⟨Nat.le_of_ble_eq_true rfl, Nat.le_of_ble_eq_true rfl⟩, (hts _ kt_77), (hts _ kt_78)⟩ ⟨fun a U g mk q => ⟨q.1, PTEm.calling q.2⟩, sx_recv hX_q_421.sx hS, fun U hU hWm => ⟨rfl, PTEm.mk hU hWm hP hK hD hE hO hG (fun x hx => by rw [List.mem_singleton] at hx; subst hx; exact hX_q_421) hS hFc⟩⟩ rfl rfl hl.1 rfl (lv_room (Nat.le_of_ble_eq_true rfl)) dX15_sealOf_180 ⟨by show _ + 0 ≤ 0; omega, by show _ + 0 ≤ 0; omega⟩) hS (fun q _ h => hFc q h) hFc (fun r_423 u t H1 locs ht hvm hw hB hz1 hk1 hS => ?_)
        obtain ⟨F_424, hB1⟩ := hB
        obtain rfl : F_239 = F_424 := (funext (fun a => hB1.2.2.2 a List.not_mem_nil)).symm
        obtain ⟨hP, hD, hO, hR⟩ := QTm.back hB1 ht hFc hR (fun q h => absurd h List.not_mem_nil)
        generalize H1 = H at hP hS ⊢
        have hw : r_423 = chv ((cct [46, 95, 100, 111, 109, 97, 105, 110, 107, 101, 121, 46]) j) := hw
        subst hw
        have hFc := pg_free hD hS hA
        refine va_callv (va_runV (As := [.int (chv ((cct [46, 95, 100, 111, 109, 97, 105, 110, 107, 101, 121, 46]) j))]) (rest := []) ⟨hx, hb, hml, hown, hts⟩ (s_X14_add l dC dI cs ty gm L H.size F_239 wh (ρ + 24) r_17 6000 ((k_219 - (k_213 + 1)) + j) (chv ((cct [46, 95, 100, 111, 109, 97, 105, 110, 107, 101, 121, 46]) j)) hW hi_44 ht_45 hwh2 (by first | omega | assumption | exact Or.inl rfl)) ⟨callB_of 1 hts (gi kt_711) rfl rfl rfl (hts _ kt_676) (hts _ kt_712) (by decide +kernel) ⟨Nat.le_of_ble_eq_true rfl, Nat.le_of_ble_eq_true rfl⟩, (hts _ kt_713), (hts _ kt_714)⟩ ⟨fun a U g mk q => ⟨q.1, PTm.calling q.2⟩, pg_recv hK hP hi_44 hwh2 (q := (RX14, TX14, 2)) rfl, fun U hU hWm => ⟨rfl, PTm.mk hU hWm hP hK hD hE hO⟩⟩ rfl rfl hl.1 rfl (lv_room (Nat.le_of_ble_eq_true rfl)) dX15_sealOf_183 ⟨by show _ + 0 ≤ 0; omega, by show _ + 0 ≤ 0; omega⟩) hS (fun q _ h => hFc q h) hFc (fun u t H1 locs ht hvm hw hB hz1 hk1 hS => ?_)
        obtain ⟨F_426, hB1, hq_427⟩ := hB
        obtain ⟨hP, hD, hO, hR⟩ := QTm.back hB1 ht hFc hR (fun q h => by simp only [List.mem_cons, List.not_mem_nil, or_false] at h ⊢; omega)
        have hF_428 : F_426 co = .inl (cs 16, 21, .inl f_74) := (hB1.2.2.2 co (by rw [ht_73]; simp)).trans hF_244
        have hF_429 : F_426 sp = .inl (cs 16, 21, .inl f_81) := (hB1.2.2.2 sp (by rw [ht_80]; simp)).trans hF_245
        have hF_430 : F_426 sb = .inl (cs 17, 3000, .inl eb) := (hB1.2.2.2 sb (by rw [ht_39]; simp)).trans hna
        have hF_431 : F_426 s0 = .inl (cs 16, 40, .inl e0) := (hB1.2.2.2 s0 (by rw [ht_33]; simp)).trans hnb
        have hF_432 : F_426 s1 = .inl (cs 16, 40, .inl e1) := (hB1.2.2.2 s1 (by rw [ht_34]; simp)).trans hnc
        have hF_433 : F_426 s2 = .inl (cs 16, 40, .inl e2) := (hB1.2.2.2 s2 (by rw [ht_35]; simp)).trans hnd
        have hF_434 : F_426 se = .inr (13, [.ref sx, .ref s0, .ref s1, .ref s2, .int (nI zs)]) := (hB1.2.2.2 se (by rw [ht_29]; simp)).trans hne
        have hF_435 : F_426 sd = .inr (14, [.ref r_18, .int (nI (k_163 - (k_157 + 1)))]) := (hB1.2.2.2 sd (by rw [ht_50]; simp)).trans hsd2
        have hF_436 : F_426 h0 = .inr (15, (.ref ta) :: (.int (nI zt)) :: (.int (nI zo)) :: (.int (nI ze)) :: (.ref ou) :: (.ref so) :: (.ref ad) :: (.ref na) :: (.ref va) :: (.ref lc) :: (.ref dm) :: (.int (nI fm)) :: (.int (nI sn)) :: (.ref tg) :: (.int v14_403) :: (.int v15_404) :: (.ref pe) :: (.int v17_405) :: (.int v18_406) :: (.int v19_407) :: (.int v20_408) :: (.int v21_409) :: (.int v22_410) :: (.ref ml) :: (.ref bg) :: (.ref co) :: (.ref sp) :: (.ref nb0) :: (.ref nb1) :: (.ref nb2) :: (.int (nI nf)) :: (.int (nI bd)) :: (.int (nI mm)) :: (.int v33_411) :: (.ref pl) :: (.ref se) :: (.ref ke) :: (.ref wi) :: (.ref hs) :: (.ref mo) :: (.ref po) :: (.ref nu) :: (.ref pr) :: (.ref sq) :: (.ref xa) :: (.ref sa) :: (.ref n64) :: (.ref m64) :: (.ref ex) :: (.ref wh) :: (.ref sd) :: (.ref tk) :: (.int v52_412) :: (.int v53_413) :: (.int v54_414) :: (.ref hd) :: (.ref ak) :: (.ref ho) :: (.ref ot) :: []) := (hB1.2.2.2 h0 (by rw [hT_h0]; simp)).trans hF_415
        generalize H1 = H at hP hS ⊢
        refine lv_iinc (v := (nI (j + 1))) (lv' := [(6, .int (nI (j + 1))), (0, .ref h0), (1, .int (nI jf)), (2, .int x2)]) hx hb dX15_sealOf_186 hl (k := 0) rfl (nI_1 _) (by decide) rfl (fun ls hl => ?_)
        refine lv_goto (tgt := 164) hx hb dX15_sealOf_189 (by decide) ?_
        refine W.widen (k := 0) (n := 0) (by omega) (by omega) ?_
        exact ih_243 (j + 1) F_426 (⟨by omega, hF_430, hF_431, hF_432, hF_433, hF_434, hF_435, hq_427⟩) (by show 12 - (j + 1) < 12 - j; omega) hO hR _ _ hP hD hS ls (lv_sub hl [0, 1, 2, 3] rfl)
    ·
      refine lv_iload hx hb dX15_sealOf_109 (lv_at hl 0 rfl) ?_
      refine lv_if_lt (tgt := 122) hx hb dX15_sealOf_111 (by decide) (fun c_437 => ?_) (fun c_437 => ?_)
      ·
        refine W.widen (k := 0) (n := 0) (by omega) (by omega) ?_
        exact jn_184 () F_173 (⟨hF_178, hF_179, hF_180, hF_181, hF_182, hq_174⟩) hO hR _ _ hP hD hS ls (lv_sub hl [1, 3, 4, 5] rfl)
      ·
        refine lv_iload_n hx hb dX15_sealOf_114 rfl (lv_at hl 5 rfl) ?_
        refine lv_iload hx hb dX15_sealOf_115 (lv_at hl 0 rfl) ?_
        refine lv_icmp_le (tgt := 122) hx hb dX15_sealOf_117 (by decide) (fun c_438 => ?_) (fun c_438 => ?_)
        ·
          refine W.widen (k := 0) (n := 0) (by omega) (by omega) ?_
          exact jn_184 () F_173 (⟨hF_178, hF_179, hF_180, hF_181, hF_182, hq_174⟩) hO hR _ _ hP hD hS ls (lv_sub hl [1, 3, 4, 5] rfl)
        ·
          refine lv_iconst (v := 3) hx hb dX15_sealOf_120 (by decide) ?_
          refine W.widen (k := 0) (n := 0) (by omega) (by omega) ?_
          exact W.iret (v := 3) hx hb hr (fun t ht hWm => ⟨⟨3, (), rfl, trivial, ⟨F_173, QTm.mk ht hP hD hO hR⟩⟩, hS.F ht⟩) hS.2.2 dX15_sealOf_121
  ·
    refine lv_iconst (v := 1) hx hb dX15_sealOf_35 (by decide) ?_
    refine W.widen (k := 0) (n := 0) (by omega) (by omega) ?_
    exact W.iret (v := 1) hx hb hr (fun t ht hWm => ⟨⟨1, (), rfl, trivial, ⟨F_103, QTm.mk ht hP hD hO hR⟩⟩, hS.F ht⟩) hS.2.2 dX15_sealOf_36
set_option maxHeartbeats 4000000 in
set_option maxRecDepth 100000 in
theorem s_X15_sealed (l : Launch) (dC : Nat → ClassId) (dI : Nat → Nat → Nat) (cs : Nat → ClassId) (ty : TyM) (gm : Nat → Nat → Nat) (L : List Nat) (sz : Nat) (F : Nat → va_E) (h0 : Nat) (ρ : Nat) (ta : Nat) (ou : Nat) (so : Nat) (ad : Nat) (na : Nat) (va : Nat) (lc : Nat) (dm : Nat) (tg : Nat) (pe : Nat) (ml : Nat) (bg : Nat) (co : Nat) (sp : Nat) (nb0 : Nat) (nb1 : Nat) (nb2 : Nat) (pl : Nat) (se : Nat) (ke : Nat) (wi : Nat) (hs : Nat) (mo : Nat) (po : Nat) (nu : Nat) (pr : Nat) (sq : Nat) (xa : Nat) (sa : Nat) (n64 : Nat) (m64 : Nat) (ex : Nat) (wh : Nat) (sd : Nat) (tk : Nat) (hd : Nat) (ak : Nat) (ho : Nat) (ot : Nat) (sx : Nat) (s0 : Nat) (s1 : Nat) (s2 : Nat) (nf : Nat) (bd : Nat) (mm : Nat) (zo : Nat) (fm : Nat) (sn : Nat) (hg : Nat) (gc : Nat) (gv : Nat) (ze : Nat) (zt : Nat) (sb : Nat) (rl : Nat) (x1 : Int32) (x2 : Int32) (hW : WTm ty gm L) (hL_h0 : h0 ∈ L) (hT_h0 : ty h0 = (15, ρ, [ta, ou, so, ad, na, va, lc, dm, tg, pe, ml, bg, co, sp, nb0, nb1, nb2, pl, se, ke, wi, hs, mo, po, nu, pr, sq, xa, sa, n64, m64, ex, wh, sd, tk, hd, ak, ho, ot, sx, s0, s1, s2, nf, bd, mm, zo, fm, sn, hg, gc, gv, ze, zt])) (hL_sx : sx ∈ L) (hT_sx : ty sx = (14, ρ + 12, [sb, 3000])) (hL_pl : pl ∈ L) (hT_pl : ty pl = (14, ρ + 10, [rl, 6000])) : Met l yX15_sealed (.code yX15_sealed cX15_sealed 4 (some .int) :: tb) ({ frames := 9, cells := 0, slots := 0, locals := 213 }) (va_Pc [.ref h0, .int x1, .int x2] (PTEm (dC, dI) cs ty gm L F sz [])) (va_Qi (fun (r : Int32) (_ : Unit) => True) (fun _ T9 => ∃ F2 : Nat → va_E, QTm (dC, dI) cs ty gm L [ρ, ρ + 10, ρ + 11, ρ + 12, ρ + 13, ρ + 14, ρ + 17, ρ + 18, ρ + 19, ρ + 20, ρ + 21, ρ + 22, ρ + 23, ρ + 24, ρ + 25, ρ + 26, ρ + 81, ρ + 82, ρ + 83, ρ + 84, ρ + 87, ρ + 88, ρ + 89, ρ + 90] F F2 (va_A (va_pl L F) sz) T9) (va_A (va_pl L F) sz)) 0 0 (va_A (va_pl L F) sz) := by
  refine Met.ofW (cc := cX15_sealed) (maxL := 4) (ret := (some .int)) (by decide) rfl ?_
  intro p e s m args below meth c s₁ B hml hv
  obtain ⟨rfl, ⟨hsz, hP, hK, hD0, hE, hO⟩, hG, hX⟩ := hv
  have hx := B.exec
  have hb := B.bytes
  have hr := B.returns
  have hts : ∀ w ∈ tb, w.before _ s = true := fun w h => atoms_spec (ws := .code yX15_sealed cX15_sealed 4 (some .int) :: tb) B.pre w (List.mem_cons_of_mem _ h)
  have hown : s.vm.findClass RX15 = some m.cls := findClass_of_methodNamed B.named
  have hlocks := B.notSynchronized
  subst hsz
  have hD := hD0.self (sz := s.heap.size)
  generalize hAe : va_A (va_pl L F) s.heap.size = A at hD hG hX ⊢
  have hA : ∀ q : Nat, s.heap.size ≤ q → A q := fun q h => by rw [← hAe]; exact Or.inr h
  have hS : va_S A s.heap s.heap [] := va_S.rf
  have hR : FR ty [ρ, ρ + 10, ρ + 11, ρ + 12, ρ + 13, ρ + 14, ρ + 17, ρ + 18, ρ + 19, ρ + 20, ρ + 21, ρ + 22, ρ + 23, ρ + 24, ρ + 25, ρ + 26, ρ + 81, ρ + 82, ρ + 83, ρ + 84, ρ + 87, ρ + 88, ρ + 89, ρ + 90] F F := FR.refl
  have hl := lv_entry ([.ref h0, .int x1, .int x2]) (n := 4) (Nat.le_of_ble_eq_true rfl)
  rw [lg_entry_eq]
  generalize (lg_sl ([.ref h0, .int x1, .int x2]) ++ List.replicate (4 - (lg_sl ([.ref h0, .int x1, .int x2])).length) Slot.unset).toArray = ls at hl ⊢
  have hl : lv_has ls 4 [(0, .ref h0), (1, .int x1), (2, .int x2)] := hl
  obtain ⟨hq_22, hq_23, hq_24, hq_25, hq_26, hgO, hgA, hgB, hq_27⟩ := hW.sc hL_h0 hT_h0
  obtain ⟨hi_28, ht_29⟩ := hW.f_se hL_h0 hT_h0
  obtain ⟨_, hi_30, hi_31, hi_32, _, ht_33, ht_34, ht_35, hq_36, hq_37⟩ := hW.tags hi_28 ht_29
  have ht_34 : ty s1 = (25, ρ + 81, [40, 1280]) := ht_34
  have ht_35 : ty s2 = (25, ρ + 82, [40, 1280]) := ht_35
  obtain ⟨hi_38, ht_39, hq_40⟩ := hW.txt hL_sx hT_sx
  obtain ⟨hi_41, ht_42, hq_43⟩ := hW.txt hL_pl hT_pl
  refine lv_iload_n hx hb dX15_sealed_0 rfl (lv_at hl 2 rfl) ?_
  refine lv_if_ge (tgt := 6) hx hb dX15_sealed_1 (by decide) (fun c_44 => ?_) (fun c_44 => ?_)
  ·
    refine lv_aload_n hx hb dX15_sealed_6 rfl (lv_at hl 0 rfl) ?_
    refine lv_iload_n hx hb dX15_sealed_7 rfl (lv_at hl 1 rfl) ?_
    have hFc := pg_free hD hS hA
    obtain ⟨v14_45, v15_46, v17_47, v18_48, v19_49, v20_50, v21_51, v22_52, v33_53, v52_54, v53_55, v54_56, hF_57, hq_58, hq_59, hq_60, hq_61, hq_62⟩ := hO.mod hL_h0 hT_h0
    refine va_calli (va_runV (As := [.int x1]) (rest := []) ⟨hx, hb, hml, hown, hts⟩ (s_X15_sealAt l dC dI cs ty gm L s.heap.size F h0 ρ ta ou so ad na va lc dm tg pe ml bg co sp nb0 nb1 nb2 pl se ke wi hs mo po nu pr sq xa sa n64 m64 ex wh sd tk hd ak ho ot sx s0 s1 s2 nf bd mm zo fm sn hg gc gv ze zt x1 hW hL_h0 hT_h0) ⟨callB_of 1 hts (gi kt_985) rfl rfl rfl (hts _ kt_669) (hts _ kt_986) (by decide +kernel) ⟨Nat.le_of_ble_eq_true rfl, Nat.le_of_ble_eq_true rfl⟩, (hts _ kt_987), (hts _ kt_988)⟩ ⟨fun a U g mk q => ⟨q.1, PTEm.calling q.2⟩, pg_recv hK hP hL_h0 hF_57 (q := (RX15, TX15, 59)) rfl, fun U hU hWm => ⟨rfl, PTEm.mk hU hWm hP hK hD hE hO hG (fun x hx => absurd hx List.not_mem_nil) hS hFc⟩⟩ rfl rfl hl.1 rfl (lv_room (Nat.le_of_ble_eq_true rfl)) dX15_sealed_8 ⟨by show _ + 0 ≤ 0; omega, by show _ + 0 ≤ 0; omega⟩) hS (fun q _ h => hFc q h) hFc (fun r_63 u t H1 locs ht hvm hw hB hz1 hk1 hS => ?_)
    obtain ⟨F_64, hB1⟩ := hB
    obtain rfl : F = F_64 := (funext (fun a => hB1.2.2.2 a List.not_mem_nil)).symm
    obtain ⟨hP, hD, hO, hR⟩ := QTm.back hB1 ht hFc hR (fun q h => absurd h List.not_mem_nil)
    generalize H1 = H at hP hS ⊢
    have hw : (r_63 = (-1) ∨ ∃ j : Nat, j < nf ∧ r_63 = nI j) := hw
    have hw_65 := hw
    refine lv_istore_n (lv' := [(3, .int r_63), (0, .ref h0), (1, .int x1), (2, .int x2)]) hx hb dX15_sealed_11 rfl hl (by decide) rfl (fun ls hl => ?_)
    refine lv_iload_n hx hb dX15_sealed_12 rfl (lv_at hl 0 rfl) ?_
    refine lv_if_ge (tgt := 21) hx hb dX15_sealed_13 (by decide) (fun c_66 => ?_) (fun c_66 => ?_)
    ·
      obtain ⟨jf, hjf, ej⟩ := rowB hw_65 c_66
      subst ej
      refine lv_aload_n hx hb dX15_sealed_21 rfl (lv_at hl 1 rfl) ?_
      refine lv_iload_n hx hb dX15_sealed_22 rfl (lv_at hl 0 rfl) ?_
      refine lv_iload_n hx hb dX15_sealed_23 rfl (lv_at hl 3 rfl) ?_
      have hFc := pg_free hD hS hA
      refine va_calli (va_runV (As := [.int (nI jf), .int x2]) (rest := []) ⟨hx, hb, hml, hown, hts⟩ (s_X15_sealOf l dC dI cs ty gm L H.size F h0 ρ ta ou so ad na va lc dm tg pe ml bg co sp nb0 nb1 nb2 pl se ke wi hs mo po nu pr sq xa sa n64 m64 ex wh sd tk hd ak ho ot sx s0 s1 s2 nf bd mm zo fm sn hg gc gv ze zt sb rl jf x2 hW hL_h0 hT_h0 hL_sx hT_sx hL_pl hT_pl (by first | omega | assumption | exact Or.inl rfl)) ⟨callB_of 2 hts (gi kt_989) rfl rfl rfl (hts _ kt_669) (hts _ kt_990) (by decide +kernel) ⟨Nat.le_of_ble_eq_true rfl, Nat.le_of_ble_eq_true rfl⟩, (hts _ kt_991), (hts _ kt_992)⟩ ⟨fun a U g mk q => ⟨q.1, PTEm.calling q.2⟩, pg_recv hK hP hL_h0 hF_57 (q := (RX15, TX15, 59)) rfl, fun U hU hWm => ⟨rfl, PTEm.mk hU hWm hP hK hD hE hO hG (fun x hx => absurd hx List.not_mem_nil) hS hFc⟩⟩ rfl rfl hl.1 rfl (lv_room (Nat.le_of_ble_eq_true rfl)) dX15_sealed_24 ⟨by show _ + 0 ≤ 0; omega, by show _ + 0 ≤ 0; omega⟩) hS (fun q _ h => hFc q h) hFc (fun r_67 u t H1 locs ht hvm hw hB hz1 hk1 hS => ?_)
      obtain ⟨F_68, hB1⟩ := hB
      obtain ⟨hP, hD, hO, hR⟩ := QTm.back hB1 ht hFc hR (fun q h => by simp only [List.mem_cons, List.not_mem_nil, or_false] at h ⊢; omega)
      generalize H1 = H at hP hS ⊢
      have hw : True := hw
      have hw_69 := hw
      refine W.widen (k := 0) (n := 0) (by omega) (by omega) ?_
      exact W.iret (v := r_67) hx hb hr (fun t ht hWm => ⟨⟨r_67, (), rfl, trivial, ⟨F_68, QTm.mk ht hP hD hO hR⟩⟩, hS.F ht⟩) hS.2.2 dX15_sealed_27
    ·
      refine lv_bipush (v := (-2)) hx hb dX15_sealed_16 (by decide) ?_
      refine lv_goto (tgt := 27) hx hb dX15_sealed_18 (by decide) ?_
      refine W.widen (k := 0) (n := 0) (by omega) (by omega) ?_
      exact W.iret (v := (-2)) hx hb hr (fun t ht hWm => ⟨⟨(-2), (), rfl, trivial, ⟨F, QTm.mk ht hP hD hO hR⟩⟩, hS.F ht⟩) hS.2.2 dX15_sealed_27
  ·
    refine lv_iconst (v := (-1)) hx hb dX15_sealed_4 (by decide) ?_
    refine W.widen (k := 0) (n := 0) (by omega) (by omega) ?_
    exact W.iret (v := (-1)) hx hb hr (fun t ht hWm => ⟨⟨(-1), (), rfl, trivial, ⟨F, QTm.mk ht hP hD hO hR⟩⟩, hS.F ht⟩) hS.2.2 dX15_sealed_5
set_option maxHeartbeats 4000000 in
set_option maxRecDepth 100000 in
theorem s_X15_isSeen (l : Launch) (dC : Nat → ClassId) (dI : Nat → Nat → Nat) (cs : Nat → ClassId) (ty : TyM) (gm : Nat → Nat → Nat) (L : List Nat) (sz : Nat) (F : Nat → va_E) (h0 : Nat) (ρ : Nat) (ta : Nat) (ou : Nat) (so : Nat) (ad : Nat) (na : Nat) (va : Nat) (lc : Nat) (dm : Nat) (tg : Nat) (pe : Nat) (ml : Nat) (bg : Nat) (co : Nat) (sp : Nat) (nb0 : Nat) (nb1 : Nat) (nb2 : Nat) (pl : Nat) (se : Nat) (ke : Nat) (wi : Nat) (hs : Nat) (mo : Nat) (po : Nat) (nu : Nat) (pr : Nat) (sq : Nat) (xa : Nat) (sa : Nat) (n64 : Nat) (m64 : Nat) (ex : Nat) (wh : Nat) (sd : Nat) (tk : Nat) (hd : Nat) (ak : Nat) (ho : Nat) (ot : Nat) (sx : Nat) (s0 : Nat) (s1 : Nat) (s2 : Nat) (nf : Nat) (bd : Nat) (mm : Nat) (zo : Nat) (fm : Nat) (sn : Nat) (hg : Nat) (gc : Nat) (gv : Nat) (ze : Nat) (zt : Nat) (rak : Nat) (hW : WTm ty gm L) (hL_h0 : h0 ∈ L) (hT_h0 : ty h0 = (15, ρ, [ta, ou, so, ad, na, va, lc, dm, tg, pe, ml, bg, co, sp, nb0, nb1, nb2, pl, se, ke, wi, hs, mo, po, nu, pr, sq, xa, sa, n64, m64, ex, wh, sd, tk, hd, ak, ho, ot, sx, s0, s1, s2, nf, bd, mm, zo, fm, sn, hg, gc, gv, ze, zt])) (hL_ak : ak ∈ L) (hT_ak : ty ak = (14, ρ + 28, [rak, 6000])) : Met l yX15_isSeen (.code yX15_isSeen cX15_isSeen 4 (some .boolean) :: tb) ({ frames := 6, cells := 0, slots := 0, locals := 131 }) (va_Pc [.ref h0] (PTEm (dC, dI) cs ty gm L F sz [])) (va_Qi (fun (r : Int32) (wr : Int32) => (r = wr ∧ (r = 0 ∨ r = 1))) (fun (wr : Int32) T9 => ∃ F2 : Nat → va_E, ∃ za : Nat, QTm (dC, dI) cs ty gm L [ρ + 28] F F2 (va_A (va_pl L F) sz) T9 ∧ F2 ak = .inr (14, [.ref rak, .int (nI za)]) ∧ (wr = 1 → za ≤ 60)) (va_A (va_pl L F) sz)) 0 0 (va_A (va_pl L F) sz) := by
  refine Met.ofW (cc := cX15_isSeen) (maxL := 4) (ret := (some .boolean)) (by decide) rfl ?_
  intro p e s m args below meth c s₁ B hml hv
  obtain ⟨rfl, ⟨hsz, hP, hK, hD0, hE, hO⟩, hG, hX⟩ := hv
  have hx := B.exec
  have hb := B.bytes
  have hr := B.returns
  have hts : ∀ w ∈ tb, w.before _ s = true := fun w h => atoms_spec (ws := .code yX15_isSeen cX15_isSeen 4 (some .boolean) :: tb) B.pre w (List.mem_cons_of_mem _ h)
  have hown : s.vm.findClass RX15 = some m.cls := findClass_of_methodNamed B.named
  have hlocks := B.notSynchronized
  subst hsz
  have hD := hD0.self (sz := s.heap.size)
  generalize hAe : va_A (va_pl L F) s.heap.size = A at hD hG hX ⊢
  have hA : ∀ q : Nat, s.heap.size ≤ q → A q := fun q h => by rw [← hAe]; exact Or.inr h
  have hS : va_S A s.heap s.heap [] := va_S.rf
  have hR : FR ty [ρ + 28] F F := FR.refl
  have hl := lv_entry ([.ref h0]) (n := 4) (Nat.le_of_ble_eq_true rfl)
  rw [lg_entry_eq]
  generalize (lg_sl ([.ref h0]) ++ List.replicate (4 - (lg_sl ([.ref h0])).length) Slot.unset).toArray = ls at hl ⊢
  have hl : lv_has ls 4 [(0, .ref h0)] := hl
  obtain ⟨hq_22, hq_23, hq_24, hq_25, hq_26, hgO, hgA, hgB, hq_27⟩ := hW.sc hL_h0 hT_h0
  obtain ⟨hi_28, ht_29, hq_30⟩ := hW.txt hL_ak hT_ak
  refine lv_iconst (v := (-1)) hx hb dX15_isSeen_0 (by decide) ?_
  refine lv_istore_n (lv' := [(1, .int (-1)), (0, .ref h0)]) hx hb dX15_isSeen_1 rfl hl (by decide) rfl (fun ls hl => ?_)
  refine lv_iconst (v := 0) hx hb dX15_isSeen_2 (by decide) ?_
  refine lv_istore_n (lv' := [(2, .int 0), (1, .int (-1)), (0, .ref h0)]) hx hb dX15_isSeen_3 rfl hl (by decide) rfl (fun ls hl => ?_)
  refine W.widen (k := 0) (n := 0) (by omega) (by omega) ?_
  refine pl_loopm (σ := Nat × Int32) A (dC, dI) cs ty gm L [ρ + 28] F 4 4 (fun (j, w1) => [(2, .int (nI j)), (1, .int w1), (0, .ref h0)]) (fun (j, w1) => []) (fun (j, w1) _ => j ≤ nf ∧ (w1 = (-1) ∨ ∃ i : Nat, i < nf ∧ w1 = nI i)) (fun (j, w1) => nf - j) ?_ (0, (-1)) F (⟨by omega, Or.inl rfl⟩) hO hR _ _ hP hD hS ls (lv_sub hl [0, 1, 2] rfl)
  rintro ⟨j, w1⟩ F_31 hv_32 hO hR ih_33 H locs hP hD hS ls hl
  have hl : lv_has ls 4 [(2, .int (nI j)), (1, .int w1), (0, .ref h0)] := hl
  have hv_32 : j ≤ nf ∧ (w1 = (-1) ∨ ∃ i : Nat, i < nf ∧ w1 = nI i) := hv_32
  refine W.eq (g2 := F0 m 4 ls []) rfl ?_
  obtain ⟨hv1, hv2⟩ := hv_32
  refine lv_iload_n hx hb dX15_isSeen_4 rfl (lv_at hl 0 rfl) ?_
  refine lv_aload_n hx hb dX15_isSeen_5 rfl (lv_at hl 2 rfl) ?_
  obtain ⟨v14_34, v15_35, v17_36, v18_37, v19_38, v20_39, v21_40, v22_41, v33_42, v52_43, v53_44, v54_45, hF_46, hq_47, hq_48, hq_49, hq_50, hq_51⟩ := hO.mod hL_h0 hT_h0
  refine pg_get (ci := 15) (v := .int (nI nf)) (C := RX15) (T := TX15) (N := 59) hx hb hts it_15 hown hK hP hL_h0 hF_46 rfl 30 (by decide) (hts _ kt_892) (fun _ h9 => h9) rfl dX15_isSeen_6 ?_
  refine lv_icmp_ge (tgt := 40) hx hb dX15_isSeen_9 (by decide) (fun c_52 => ?_) (fun c_52 => ?_)
  ·
    have hi_53 : nf ≤ j := leN (N := nf) c_52
    refine lv_iload_n hx hb dX15_isSeen_40 rfl (lv_at hl 1 rfl) ?_
    refine lv_if_ge (tgt := 46) hx hb dX15_isSeen_41 (by decide) (fun c_54 => ?_) (fun c_54 => ?_)
    ·
      obtain ⟨jf, hjf, ej⟩ := rowB hv2 c_54
      subst ej
      have hoj := hgO jf hjf
      refine lv_aload_n hx hb dX15_isSeen_46 rfl (lv_at hl 2 rfl) ?_
      refine pg_get (ci := 15) (v := .ref sp) (C := RX15) (T := TX15) (N := 59) hx hb hts it_15 hown hK hP hL_h0 hF_46 rfl 26 (by decide) (hts _ kt_890) (fun _ h9 => h9) rfl dX15_isSeen_47 ?_
      refine lv_iload_n hx hb dX15_isSeen_50 rfl (lv_at hl 1 rfl) ?_
      obtain ⟨hi_55, ht_56⟩ := hW.f_sp hL_h0 hT_h0
      obtain ⟨f_57, hF_58, hq_59⟩ := hO.pos hi_55 ht_56
      refine pg_iald hx hb hK hP hi_55 0 hF_58 rfl (vp_in_nI (by omega) (by omega)) dX15_isSeen_51 ?_
      refine lv_topi (fun x_60 ex_60 => ?_)
      obtain rfl : x_60 = (nI (gm 2 jf)) := ex_60.trans (by rw [show ((nI jf) : Int32) = nI jf from rfl, nI_clamp (by omega)]; exact hq_59 jf (by omega))
      have hgbx_60 := hgB 2 jf
      refine lv_iconst (v := 1) hx hb dX15_isSeen_52 (by decide) ?_
      refine lv_isub hx hb dX15_isSeen_53 ?_
      refine lv_topi (fun x_61 ex_61 => ?_)
      obtain rfl : x_61 = (nI ((gm 2 jf) - 1)) := ex_61.trans (pk_sub (a := (gm 2 jf)) (b := 1) (by omega))
      refine lv_istore_n (lv' := [(2, .int (nI ((gm 2 jf) - 1))), (1, .int (nI jf)), (0, .ref h0)]) hx hb dX15_isSeen_54 rfl hl (by decide) rfl (fun ls hl => ?_)
      refine W.widen (k := 0) (n := 0) (by omega) (by omega) ?_
      have hF_63 : F h0 = .inr (15, (.ref ta) :: (.int (nI zt)) :: (.int (nI zo)) :: (.int (nI ze)) :: (.ref ou) :: (.ref so) :: (.ref ad) :: (.ref na) :: (.ref va) :: (.ref lc) :: (.ref dm) :: (.int (nI fm)) :: (.int (nI sn)) :: (.ref tg) :: (.int v14_34) :: (.int v15_35) :: (.ref pe) :: (.int v17_36) :: (.int v18_37) :: (.int v19_38) :: (.int v20_39) :: (.int v21_40) :: (.int v22_41) :: (.ref ml) :: (.ref bg) :: (.ref co) :: (.ref sp) :: (.ref nb0) :: (.ref nb1) :: (.ref nb2) :: (.int (nI nf)) :: (.int (nI bd)) :: (.int (nI mm)) :: (.int v33_42) :: (.ref pl) :: (.ref se) :: (.ref ke) :: (.ref wi) :: (.ref hs) :: (.ref mo) :: (.ref po) :: (.ref nu) :: (.ref pr) :: (.ref sq) :: (.ref xa) :: (.ref sa) :: (.ref n64) :: (.ref m64) :: (.ref ex) :: (.ref wh) :: (.ref sd) :: (.ref tk) :: (.int v52_43) :: (.int v53_44) :: (.int v54_45) :: (.ref hd) :: (.ref ak) :: (.ref ho) :: (.ref ot) :: []) := (hR h0 (by rw [hT_h0]; simp)).symm.trans hF_46
      have hF_64 : F sp = .inl (cs 16, 21, .inl f_57) := (hR sp (by rw [ht_56]; simp)).symm.trans hF_58
      refine pl_loopm (σ := Nat) A (dC, dI) cs ty gm L [ρ + 28] F 55 4 (fun k => [(2, .int (nI k)), (1, .int (nI jf)), (0, .ref h0)]) (fun k => []) (fun k _ => gm 1 jf ≤ k ∧ k < gm 2 jf) (fun k => k) ?_ ((gm 2 jf) - 1) F_31 (⟨by omega, by omega⟩) hO hR _ _ hP hD hS ls (lv_sub hl [0, 1, 2] rfl)
      rintro k F_62 hv_65 hO hR ih_66 H locs hP hD hS ls hl
      have hl : lv_has ls 4 [(2, .int (nI k)), (1, .int (nI jf)), (0, .ref h0)] := hl
      have hv_65 : gm 1 jf ≤ k ∧ k < gm 2 jf := hv_65
      refine W.eq (g2 := F0 m 55 ls []) rfl ?_
      have hF_67 : F_62 h0 = .inr (15, (.ref ta) :: (.int (nI zt)) :: (.int (nI zo)) :: (.int (nI ze)) :: (.ref ou) :: (.ref so) :: (.ref ad) :: (.ref na) :: (.ref va) :: (.ref lc) :: (.ref dm) :: (.int (nI fm)) :: (.int (nI sn)) :: (.ref tg) :: (.int v14_34) :: (.int v15_35) :: (.ref pe) :: (.int v17_36) :: (.int v18_37) :: (.int v19_38) :: (.int v20_39) :: (.int v21_40) :: (.int v22_41) :: (.ref ml) :: (.ref bg) :: (.ref co) :: (.ref sp) :: (.ref nb0) :: (.ref nb1) :: (.ref nb2) :: (.int (nI nf)) :: (.int (nI bd)) :: (.int (nI mm)) :: (.int v33_42) :: (.ref pl) :: (.ref se) :: (.ref ke) :: (.ref wi) :: (.ref hs) :: (.ref mo) :: (.ref po) :: (.ref nu) :: (.ref pr) :: (.ref sq) :: (.ref xa) :: (.ref sa) :: (.ref n64) :: (.ref m64) :: (.ref ex) :: (.ref wh) :: (.ref sd) :: (.ref tk) :: (.int v52_43) :: (.int v53_44) :: (.int v54_45) :: (.ref hd) :: (.ref ak) :: (.ref ho) :: (.ref ot) :: []) := (hR h0 (by rw [hT_h0]; simp)).trans hF_63
      have hF_68 : F_62 sp = .inl (cs 16, 21, .inl f_57) := (hR sp (by rw [ht_56]; simp)).trans hF_64
      obtain ⟨hk1a, hk2a⟩ := hv_65
      refine lv_iload_n hx hb dX15_isSeen_55 rfl (lv_at hl 0 rfl) ?_
      refine lv_aload_n hx hb dX15_isSeen_56 rfl (lv_at hl 2 rfl) ?_
      refine pg_get (ci := 15) (v := .ref co) (C := RX15) (T := TX15) (N := 59) hx hb hts it_15 hown hK hP hL_h0 hF_67 rfl 25 (by decide) (hts _ kt_889) (fun _ h9 => h9) rfl dX15_isSeen_57 ?_
      refine lv_iload_n hx hb dX15_isSeen_60 rfl (lv_at hl 1 rfl) ?_
      obtain ⟨hi_69, ht_70⟩ := hW.f_co hL_h0 hT_h0
      obtain ⟨f_71, hF_72, hq_73⟩ := hO.pos hi_69 ht_70
      refine pg_iald hx hb hK hP hi_69 0 hF_72 rfl (vp_in_nI (by omega) (by omega)) dX15_isSeen_61 ?_
      refine lv_topi (fun x_74 ex_74 => ?_)
      obtain rfl : x_74 = (nI (gm 1 jf)) := ex_74.trans (by rw [show ((nI jf) : Int32) = nI jf from rfl, nI_clamp (by omega)]; exact hq_73 jf (by omega))
      have hgbx_74 := hgB 1 jf
      refine lv_icmp_le (tgt := 82) hx hb dX15_isSeen_62 (by decide) (fun c_75 => ?_) (fun c_75 => ?_)
      ·
        have hi_76 : k ≤ (gm 1 jf) := (nI_leI (a := k) (b := (gm 1 jf)) (by omega) (by omega)).mp c_75
        refine lv_iload_n hx hb dX15_isSeen_82 rfl (lv_at hl 0 rfl) ?_
        refine lv_aload_n hx hb dX15_isSeen_83 rfl (lv_at hl 2 rfl) ?_
        refine pg_get (ci := 15) (v := .ref co) (C := RX15) (T := TX15) (N := 59) hx hb hts it_15 hown hK hP hL_h0 hF_67 rfl 25 (by decide) (hts _ kt_889) (fun _ h9 => h9) rfl dX15_isSeen_84 ?_
        refine lv_iload_n hx hb dX15_isSeen_87 rfl (lv_at hl 1 rfl) ?_
        refine pg_iald hx hb hK hP hi_69 0 hF_72 rfl (vp_in_nI (by omega) (by omega)) dX15_isSeen_88 ?_
        refine lv_topi (fun x_77 ex_77 => ?_)
        obtain rfl : x_77 = (nI (gm 1 jf)) := ex_77.trans (by rw [show ((nI jf) : Int32) = nI jf from rfl, nI_clamp (by omega)]; exact hq_73 jf (by omega))
        have hgbx_77 := hgB 1 jf
        refine lv_icmp_ne (tgt := 94) hx hb dX15_isSeen_89 (by decide) (fun c_78 => ?_) (fun c_78 => ?_)
        ·
          have hi_79 : k ≠ (gm 1 jf) := fun q => c_78 (by rw [q])
          refine lv_aload_n hx hb dX15_isSeen_94 rfl (lv_at hl 2 rfl) ?_
          refine pg_get (ci := 15) (v := .ref ak) (C := RX15) (T := TX15) (N := 59) hx hb hts it_15 hown hK hP hL_h0 hF_67 rfl 56 (by decide) (hts _ kt_993) (fun _ h9 => h9) rfl dX15_isSeen_95 ?_
          refine lv_iconst (v := 0) hx hb dX15_isSeen_98 (by decide) ?_
          obtain ⟨z_80, hF_81, hq_82⟩ := hO.txt hL_ak hT_ak
          refine pg_put (ci := 14) (v := .int 0) (ty := .int) (C := RX14) (T := TX14) (N := 2) hx hb hts it_14 tyX14 tyX14_ok nmX14 hown hK hP hD hS hL_ak hF_81 rfl 1 (by decide) (hts _ kt_709) (fun _ h9 => h9) rfl (by decide +kernel) (rfl) (rfl) (Nat.le_of_ble_eq_true rfl) dX15_isSeen_99 (fun H locs hP hD hS => ?_)
          obtain ⟨F_83, he_84, hP, hD, hO, hR⟩ : ∃ G, G = va_up F_62 ak (.inr (14, [.ref rak, .int 0])) ∧ va_P (dC, dI) vwCl (va_pl L G) H ∧ va_D A (va_pl L G) ∧ OKm cs ty gm L G ∧ FR ty [ρ + 28] F G := ⟨_, rfl, hP, hD, hO.up (shm.txt hT_ak ⟨0, rfl, (by first | omega | assumption | exact Or.inl rfl | exact Or.inr rfl)⟩), hR.up hT_ak (by simp)⟩
          have hF_85 : F_83 ak = .inr (14, [.ref rak, .int 0]) := by rw [he_84]; exact up_self
          have hF_86 : F_83 h0 = .inr (15, (.ref ta) :: (.int (nI zt)) :: (.int (nI zo)) :: (.int (nI ze)) :: (.ref ou) :: (.ref so) :: (.ref ad) :: (.ref na) :: (.ref va) :: (.ref lc) :: (.ref dm) :: (.int (nI fm)) :: (.int (nI sn)) :: (.ref tg) :: (.int v14_34) :: (.int v15_35) :: (.ref pe) :: (.int v17_36) :: (.int v18_37) :: (.int v19_38) :: (.int v20_39) :: (.int v21_40) :: (.int v22_41) :: (.ref ml) :: (.ref bg) :: (.ref co) :: (.ref sp) :: (.ref nb0) :: (.ref nb1) :: (.ref nb2) :: (.int (nI nf)) :: (.int (nI bd)) :: (.int (nI mm)) :: (.int v33_42) :: (.ref pl) :: (.ref se) :: (.ref ke) :: (.ref wi) :: (.ref hs) :: (.ref mo) :: (.ref po) :: (.ref nu) :: (.ref pr) :: (.ref sq) :: (.ref xa) :: (.ref sa) :: (.ref n64) :: (.ref m64) :: (.ref ex) :: (.ref wh) :: (.ref sd) :: (.ref tk) :: (.int v52_43) :: (.int v53_44) :: (.int v54_45) :: (.ref hd) :: (.ref ak) :: (.ref ho) :: (.ref ot) :: []) := by rw [he_84, up_ne (ne_ty hT_h0 hT_ak (by simp))]; exact hF_67
          have hF_87 : F_83 sp = .inl (cs 16, 21, .inl f_57) := by rw [he_84, up_ne (ne_ty ht_56 hT_ak (by simp))]; exact hF_68
          have hF_88 : F_83 co = .inl (cs 16, 21, .inl f_71) := by rw [he_84, up_ne (ne_ty ht_70 hT_ak (by simp))]; exact hF_72
          refine lv_iload_n hx hb dX15_isSeen_102 rfl (lv_at hl 0 rfl) ?_
          refine lv_iconst (v := 1) hx hb dX15_isSeen_103 (by decide) ?_
          refine lv_iadd hx hb dX15_isSeen_104 ?_
          refine lv_topi (fun x_89 ex_89 => ?_)
          obtain rfl : x_89 = (nI (k + 1)) := ex_89.trans (nI_add k 1)
          refine lv_istore_n (lv' := [(3, .int (nI (k + 1))), (2, .int (nI k)), (1, .int (nI jf)), (0, .ref h0)]) hx hb dX15_isSeen_105 rfl hl (by decide) rfl (fun ls hl => ?_)
          refine W.widen (k := 0) (n := 0) (by omega) (by omega) ?_
          have hF_91 : F h0 = .inr (15, (.ref ta) :: (.int (nI zt)) :: (.int (nI zo)) :: (.int (nI ze)) :: (.ref ou) :: (.ref so) :: (.ref ad) :: (.ref na) :: (.ref va) :: (.ref lc) :: (.ref dm) :: (.int (nI fm)) :: (.int (nI sn)) :: (.ref tg) :: (.int v14_34) :: (.int v15_35) :: (.ref pe) :: (.int v17_36) :: (.int v18_37) :: (.int v19_38) :: (.int v20_39) :: (.int v21_40) :: (.int v22_41) :: (.ref ml) :: (.ref bg) :: (.ref co) :: (.ref sp) :: (.ref nb0) :: (.ref nb1) :: (.ref nb2) :: (.int (nI nf)) :: (.int (nI bd)) :: (.int (nI mm)) :: (.int v33_42) :: (.ref pl) :: (.ref se) :: (.ref ke) :: (.ref wi) :: (.ref hs) :: (.ref mo) :: (.ref po) :: (.ref nu) :: (.ref pr) :: (.ref sq) :: (.ref xa) :: (.ref sa) :: (.ref n64) :: (.ref m64) :: (.ref ex) :: (.ref wh) :: (.ref sd) :: (.ref tk) :: (.int v52_43) :: (.int v53_44) :: (.int v54_45) :: (.ref hd) :: (.ref ak) :: (.ref ho) :: (.ref ot) :: []) := (hR h0 (by rw [hT_h0]; simp)).symm.trans hF_86
          have hF_92 : F sp = .inl (cs 16, 21, .inl f_57) := (hR sp (by rw [ht_56]; simp)).symm.trans hF_87
          have hF_93 : F co = .inl (cs 16, 21, .inl f_71) := (hR co (by rw [ht_70]; simp)).symm.trans hF_88
          refine pl_loopm (σ := Nat × Nat) A (dC, dI) cs ty gm L [ρ + 28] F 106 4 (fun (i, zz) => [(3, .int (nI i)), (2, .int (nI k)), (1, .int (nI jf)), (0, .ref h0)]) (fun (i, zz) => []) (fun (i, zz) FF => (k + 1 ≤ i ∧ i ≤ max (k + 1) (gm 2 jf)) ∧ zz ≤ i - (k + 1) ∧ FF ak = .inr (14, [.ref rak, .int (nI zz)])) (fun (i, zz) => gm 2 jf - i) ?_ ((k + 1), 0) F_83 (⟨⟨by omega, by omega⟩, by omega, hF_85⟩) hO hR _ _ hP hD hS ls (lv_sub hl [0, 1, 2, 3] rfl)
          rintro ⟨i, zz⟩ F_90 hv_94 hO hR ih_95 H locs hP hD hS ls hl
          have hl : lv_has ls 4 [(3, .int (nI i)), (2, .int (nI k)), (1, .int (nI jf)), (0, .ref h0)] := hl
          have hv_94 : (k + 1 ≤ i ∧ i ≤ max (k + 1) (gm 2 jf)) ∧ zz ≤ i - (k + 1) ∧ F_90 ak = .inr (14, [.ref rak, .int (nI zz)]) := hv_94
          refine W.eq (g2 := F0 m 106 ls []) rfl ?_
          have hF_96 : F_90 h0 = .inr (15, (.ref ta) :: (.int (nI zt)) :: (.int (nI zo)) :: (.int (nI ze)) :: (.ref ou) :: (.ref so) :: (.ref ad) :: (.ref na) :: (.ref va) :: (.ref lc) :: (.ref dm) :: (.int (nI fm)) :: (.int (nI sn)) :: (.ref tg) :: (.int v14_34) :: (.int v15_35) :: (.ref pe) :: (.int v17_36) :: (.int v18_37) :: (.int v19_38) :: (.int v20_39) :: (.int v21_40) :: (.int v22_41) :: (.ref ml) :: (.ref bg) :: (.ref co) :: (.ref sp) :: (.ref nb0) :: (.ref nb1) :: (.ref nb2) :: (.int (nI nf)) :: (.int (nI bd)) :: (.int (nI mm)) :: (.int v33_42) :: (.ref pl) :: (.ref se) :: (.ref ke) :: (.ref wi) :: (.ref hs) :: (.ref mo) :: (.ref po) :: (.ref nu) :: (.ref pr) :: (.ref sq) :: (.ref xa) :: (.ref sa) :: (.ref n64) :: (.ref m64) :: (.ref ex) :: (.ref wh) :: (.ref sd) :: (.ref tk) :: (.int v52_43) :: (.int v53_44) :: (.int v54_45) :: (.ref hd) :: (.ref ak) :: (.ref ho) :: (.ref ot) :: []) := (hR h0 (by rw [hT_h0]; simp)).trans hF_91
          have hF_97 : F_90 sp = .inl (cs 16, 21, .inl f_57) := (hR sp (by rw [ht_56]; simp)).trans hF_92
          have hF_98 : F_90 co = .inl (cs 16, 21, .inl f_71) := (hR co (by rw [ht_70]; simp)).trans hF_93
          obtain ⟨hi1, hi2, hi3⟩ := hv_94
          refine lv_iload_n hx hb dX15_isSeen_106 rfl (lv_at hl 0 rfl) ?_
          refine lv_aload_n hx hb dX15_isSeen_107 rfl (lv_at hl 3 rfl) ?_
          refine pg_get (ci := 15) (v := .ref sp) (C := RX15) (T := TX15) (N := 59) hx hb hts it_15 hown hK hP hL_h0 hF_96 rfl 26 (by decide) (hts _ kt_890) (fun _ h9 => h9) rfl dX15_isSeen_108 ?_
          refine lv_iload_n hx hb dX15_isSeen_111 rfl (lv_at hl 2 rfl) ?_
          refine pg_iald hx hb hK hP hi_55 0 hF_97 rfl (vp_in_nI (by omega) (by omega)) dX15_isSeen_112 ?_
          refine lv_topi (fun x_99 ex_99 => ?_)
          obtain rfl : x_99 = (nI (gm 2 jf)) := ex_99.trans (by rw [show ((nI jf) : Int32) = nI jf from rfl, nI_clamp (by omega)]; exact hq_59 jf (by omega))
          have hgbx_99 := hgB 2 jf
          refine lv_icmp_ge (tgt := 172) hx hb dX15_isSeen_113 (by decide) (fun c_100 => ?_) (fun c_100 => ?_)
          ·
            have hi_101 : (gm 2 jf) ≤ i := leN (N := (gm 2 jf)) c_100
            refine lv_aload_n hx hb dX15_isSeen_172 rfl (lv_at hl 3 rfl) ?_
            refine pg_get (ci := 15) (v := .ref ak) (C := RX15) (T := TX15) (N := 59) hx hb hts it_15 hown hK hP hL_h0 hF_96 rfl 56 (by decide) (hts _ kt_993) (fun _ h9 => h9) rfl dX15_isSeen_173 ?_
            have hFc := pg_free hD hS hA
            refine va_calli (va_runV (As := []) (rest := []) ⟨hx, hb, hml, hown, hts⟩ (s_X14_isName l dC dI cs ty gm L H.size F_90 ak (ρ + 28) rak 6000 zz hW hL_ak hT_ak hi3 (by first | omega | assumption | exact Or.inl rfl)) ⟨callB_of 0 hts (gi kt_994) rfl rfl rfl (hts _ kt_676) (hts _ kt_995) (by decide +kernel) ⟨Nat.le_of_ble_eq_true rfl, Nat.le_of_ble_eq_true rfl⟩, (hts _ kt_996), (hts _ kt_997)⟩ ⟨fun a U g mk q => ⟨q.1, PTm.calling q.2⟩, pg_recv hK hP hL_ak hi3 (q := (RX14, TX14, 2)) rfl, fun U hU hWm => ⟨rfl, PTm.mk hU hWm hP hK hD hE hO⟩⟩ rfl rfl hl.1 rfl (lv_room (Nat.le_of_ble_eq_true rfl)) dX15_isSeen_176 ⟨by show _ + 0 ≤ 0; omega, by show _ + 0 ≤ 0; omega⟩) hS (fun q _ h => hFc q h) hFc (fun r_102 u t H1 locs ht hvm hw hB hz1 hk1 hS => ?_)
            obtain ⟨F_103, hB1⟩ := hB
            obtain rfl : F_90 = F_103 := (funext (fun a => hB1.2.2.2 a List.not_mem_nil)).symm
            obtain ⟨hP, hD, hO, hR⟩ := QTm.back hB1 ht hFc hR (fun q h => absurd h List.not_mem_nil)
            generalize H1 = H at hP hS ⊢
            have hw : (r_102 = 0 ∨ (r_102 = 1 ∧ 0 < zz ∧ zz ≤ 60)) := hw
            have hw_104 := hw
            refine W.widen (k := 0) (n := 0) (by omega) (by omega) ?_
            exact W.zret (v := r_102) (ty := .boolean) hx hb hr (bitN (bit3 hw_104)) (fun t ht hWm => ⟨⟨r_102, r_102, rfl, ⟨rfl, bit3 hw_104⟩, ⟨F_90, zz, QTm.mk ht hP hD hO hR, hi3, (fun h => (bit1 hw_104 (by rw [h]; decide)).2)⟩⟩, hS.F ht⟩) hS.2.2 dX15_isSeen_179
          ·
            have hi_105 : i < (gm 2 jf) := ltN (N := (gm 2 jf)) c_100
            refine lv_aload_n hx hb dX15_isSeen_116 rfl (lv_at hl 3 rfl) ?_
            refine pg_get (ci := 15) (v := .ref ml) (C := RX15) (T := TX15) (N := 59) hx hb hts it_15 hown hK hP hL_h0 hF_96 rfl 23 (by decide) (hts _ kt_887) (fun _ h9 => h9) rfl dX15_isSeen_117 ?_
            refine lv_iload_n hx hb dX15_isSeen_120 rfl (lv_at hl 0 rfl) ?_
            obtain ⟨hi_106, ht_107⟩ := hW.f_ml hL_h0 hT_h0
            obtain ⟨hq_108, hq_109⟩ := hW.octs hi_106 ht_107
            obtain ⟨f_110, hF_111, hq_112⟩ := hO.octs hi_106 ht_107
            refine pg_bald hx hb hK hP hi_106 1 hF_111 rfl (vp_in_nI (by omega) (by omega)) dX15_isSeen_121 ?_
            refine lv_topi (fun x_113 ex_113 => ?_)
            obtain rfl : x_113 = f_110 i := ex_113.trans (congrArg f_110 (show ((nI i) : Int32).toNatClampNeg = i from nI_clamp (by omega)))
            have hFc := pg_free hD hS hA
            refine va_calli (va_runS (As := [.int (f_110 i)]) (rest := []) ⟨hx, hb, hml, hown, hts⟩ (s_X15_isWhite l dC dI cs ty gm L H.size F_90 (f_110 i) hW ) ⟨callB_of 1 hts (gi kt_715) rfl rfl rfl (hts _ kt_669) (hts _ kt_716) (by decide +kernel) ⟨Nat.le_of_ble_eq_true rfl, Nat.le_of_ble_eq_true rfl⟩, (hts _ kt_717)⟩ ⟨fun a U g mk q => ⟨q.1, PTm.calling q.2⟩, fun U hU hWm => ⟨rfl, PTm.mk hU hWm hP hK hD hE hO⟩⟩ rfl rfl hl.1 rfl (lv_room (Nat.le_of_ble_eq_true rfl)) dX15_isSeen_122 ⟨by show _ + 0 ≤ 0; omega, by show _ + 0 ≤ 0; omega⟩) hS (fun q _ h => hFc q h) hFc (fun r_114 u t H1 locs ht hvm hw hB hz1 hk1 hS => ?_)
            obtain ⟨F_115, hB1⟩ := hB
            obtain rfl : F_90 = F_115 := (funext (fun a => hB1.2.2.2 a List.not_mem_nil)).symm
            obtain ⟨hP, hD, hO, hR⟩ := QTm.back hB1 ht hFc hR (fun q h => absurd h List.not_mem_nil)
            generalize H1 = H at hP hS ⊢
            have hw : (r_114 = 0 ∨ r_114 = 1) := hw
            have hw_116 := hw
            refine lv_if_ne (tgt := 172) hx hb dX15_isSeen_125 (by decide) (fun c_117 => ?_) (fun c_117 => ?_)
            ·
              refine lv_aload_n hx hb dX15_isSeen_172 rfl (lv_at hl 3 rfl) ?_
              refine pg_get (ci := 15) (v := .ref ak) (C := RX15) (T := TX15) (N := 59) hx hb hts it_15 hown hK hP hL_h0 hF_96 rfl 56 (by decide) (hts _ kt_993) (fun _ h9 => h9) rfl dX15_isSeen_173 ?_
              have hFc := pg_free hD hS hA
              refine va_calli (va_runV (As := []) (rest := []) ⟨hx, hb, hml, hown, hts⟩ (s_X14_isName l dC dI cs ty gm L H.size F_90 ak (ρ + 28) rak 6000 zz hW hL_ak hT_ak hi3 (by first | omega | assumption | exact Or.inl rfl)) ⟨callB_of 0 hts (gi kt_994) rfl rfl rfl (hts _ kt_676) (hts _ kt_995) (by decide +kernel) ⟨Nat.le_of_ble_eq_true rfl, Nat.le_of_ble_eq_true rfl⟩, (hts _ kt_996), (hts _ kt_997)⟩ ⟨fun a U g mk q => ⟨q.1, PTm.calling q.2⟩, pg_recv hK hP hL_ak hi3 (q := (RX14, TX14, 2)) rfl, fun U hU hWm => ⟨rfl, PTm.mk hU hWm hP hK hD hE hO⟩⟩ rfl rfl hl.1 rfl (lv_room (Nat.le_of_ble_eq_true rfl)) dX15_isSeen_176 ⟨by show _ + 0 ≤ 0; omega, by show _ + 0 ≤ 0; omega⟩) hS (fun q _ h => hFc q h) hFc (fun r_118 u t H1 locs ht hvm hw hB hz1 hk1 hS => ?_)
              obtain ⟨F_119, hB1⟩ := hB
              obtain rfl : F_90 = F_119 := (funext (fun a => hB1.2.2.2 a List.not_mem_nil)).symm
              obtain ⟨hP, hD, hO, hR⟩ := QTm.back hB1 ht hFc hR (fun q h => absurd h List.not_mem_nil)
              generalize H1 = H at hP hS ⊢
              have hw : (r_118 = 0 ∨ (r_118 = 1 ∧ 0 < zz ∧ zz ≤ 60)) := hw
              have hw_120 := hw
              refine W.widen (k := 0) (n := 0) (by omega) (by omega) ?_
              exact W.zret (v := r_118) (ty := .boolean) hx hb hr (bitN (bit3 hw_120)) (fun t ht hWm => ⟨⟨r_118, r_118, rfl, ⟨rfl, bit3 hw_120⟩, ⟨F_90, zz, QTm.mk ht hP hD hO hR, hi3, (fun h => (bit1 hw_120 (by rw [h]; decide)).2)⟩⟩, hS.F ht⟩) hS.2.2 dX15_isSeen_179
            ·
              refine lv_aload_n hx hb dX15_isSeen_128 rfl (lv_at hl 3 rfl) ?_
              refine pg_get (ci := 15) (v := .ref ml) (C := RX15) (T := TX15) (N := 59) hx hb hts it_15 hown hK hP hL_h0 hF_96 rfl 23 (by decide) (hts _ kt_887) (fun _ h9 => h9) rfl dX15_isSeen_129 ?_
              refine lv_iload_n hx hb dX15_isSeen_132 rfl (lv_at hl 0 rfl) ?_
              refine pg_bald hx hb hK hP hi_106 1 hF_111 rfl (vp_in_nI (by omega) (by omega)) dX15_isSeen_133 ?_
              refine lv_topi (fun x_121 ex_121 => ?_)
              obtain rfl : x_121 = f_110 i := ex_121.trans (congrArg f_110 (show ((nI i) : Int32).toNatClampNeg = i from nI_clamp (by omega)))
              refine lv_bipush (v := 62) hx hb dX15_isSeen_134 (by decide) ?_
              refine lv_icmp_eq (tgt := 172) hx hb dX15_isSeen_136 (by decide) (fun c_122 => ?_) (fun c_122 => ?_)
              ·
                refine lv_aload_n hx hb dX15_isSeen_172 rfl (lv_at hl 3 rfl) ?_
                refine pg_get (ci := 15) (v := .ref ak) (C := RX15) (T := TX15) (N := 59) hx hb hts it_15 hown hK hP hL_h0 hF_96 rfl 56 (by decide) (hts _ kt_993) (fun _ h9 => h9) rfl dX15_isSeen_173 ?_
                have hFc := pg_free hD hS hA
                refine va_calli (va_runV (As := []) (rest := []) ⟨hx, hb, hml, hown, hts⟩ (s_X14_isName l dC dI cs ty gm L H.size F_90 ak (ρ + 28) rak 6000 zz hW hL_ak hT_ak hi3 (by first | omega | assumption | exact Or.inl rfl)) ⟨callB_of 0 hts (gi kt_994) rfl rfl rfl (hts _ kt_676) (hts _ kt_995) (by decide +kernel) ⟨Nat.le_of_ble_eq_true rfl, Nat.le_of_ble_eq_true rfl⟩, (hts _ kt_996), (hts _ kt_997)⟩ ⟨fun a U g mk q => ⟨q.1, PTm.calling q.2⟩, pg_recv hK hP hL_ak hi3 (q := (RX14, TX14, 2)) rfl, fun U hU hWm => ⟨rfl, PTm.mk hU hWm hP hK hD hE hO⟩⟩ rfl rfl hl.1 rfl (lv_room (Nat.le_of_ble_eq_true rfl)) dX15_isSeen_176 ⟨by show _ + 0 ≤ 0; omega, by show _ + 0 ≤ 0; omega⟩) hS (fun q _ h => hFc q h) hFc (fun r_123 u t H1 locs ht hvm hw hB hz1 hk1 hS => ?_)
                obtain ⟨F_124, hB1⟩ := hB
                obtain rfl : F_90 = F_124 := (funext (fun a => hB1.2.2.2 a List.not_mem_nil)).symm
                obtain ⟨hP, hD, hO, hR⟩ := QTm.back hB1 ht hFc hR (fun q h => absurd h List.not_mem_nil)
                generalize H1 = H at hP hS ⊢
                have hw : (r_123 = 0 ∨ (r_123 = 1 ∧ 0 < zz ∧ zz ≤ 60)) := hw
                have hw_125 := hw
                refine W.widen (k := 0) (n := 0) (by omega) (by omega) ?_
                exact W.zret (v := r_123) (ty := .boolean) hx hb hr (bitN (bit3 hw_125)) (fun t ht hWm => ⟨⟨r_123, r_123, rfl, ⟨rfl, bit3 hw_125⟩, ⟨F_90, zz, QTm.mk ht hP hD hO hR, hi3, (fun h => (bit1 hw_125 (by rw [h]; decide)).2)⟩⟩, hS.F ht⟩) hS.2.2 dX15_isSeen_179
              ·
                refine lv_aload_n hx hb dX15_isSeen_139 rfl (lv_at hl 3 rfl) ?_
                refine pg_get (ci := 15) (v := .ref ml) (C := RX15) (T := TX15) (N := 59) hx hb hts it_15 hown hK hP hL_h0 hF_96 rfl 23 (by decide) (hts _ kt_887) (fun _ h9 => h9) rfl dX15_isSeen_140 ?_
                refine lv_iload_n hx hb dX15_isSeen_143 rfl (lv_at hl 0 rfl) ?_
                refine pg_bald hx hb hK hP hi_106 1 hF_111 rfl (vp_in_nI (by omega) (by omega)) dX15_isSeen_144 ?_
                refine lv_topi (fun x_126 ex_126 => ?_)
                obtain rfl : x_126 = f_110 i := ex_126.trans (congrArg f_110 (show ((nI i) : Int32).toNatClampNeg = i from nI_clamp (by omega)))
                refine lv_bipush (v := 10) hx hb dX15_isSeen_145 (by decide) ?_
                refine lv_icmp_eq (tgt := 172) hx hb dX15_isSeen_147 (by decide) (fun c_127 => ?_) (fun c_127 => ?_)
                ·
                  refine lv_aload_n hx hb dX15_isSeen_172 rfl (lv_at hl 3 rfl) ?_
                  refine pg_get (ci := 15) (v := .ref ak) (C := RX15) (T := TX15) (N := 59) hx hb hts it_15 hown hK hP hL_h0 hF_96 rfl 56 (by decide) (hts _ kt_993) (fun _ h9 => h9) rfl dX15_isSeen_173 ?_
                  have hFc := pg_free hD hS hA
                  refine va_calli (va_runV (As := []) (rest := []) ⟨hx, hb, hml, hown, hts⟩ (s_X14_isName l dC dI cs ty gm L H.size F_90 ak (ρ + 28) rak 6000 zz hW hL_ak hT_ak hi3 (by first | omega | assumption | exact Or.inl rfl)) ⟨callB_of 0 hts (gi kt_994) rfl rfl rfl (hts _ kt_676) (hts _ kt_995) (by decide +kernel) ⟨Nat.le_of_ble_eq_true rfl, Nat.le_of_ble_eq_true rfl⟩, (hts _ kt_996), (hts _ kt_997)⟩ ⟨fun a U g mk q => ⟨q.1, PTm.calling q.2⟩, pg_recv hK hP hL_ak hi3 (q := (RX14, TX14, 2)) rfl, fun U hU hWm => ⟨rfl, PTm.mk hU hWm hP hK hD hE hO⟩⟩ rfl rfl hl.1 rfl (lv_room (Nat.le_of_ble_eq_true rfl)) dX15_isSeen_176 ⟨by show _ + 0 ≤ 0; omega, by show _ + 0 ≤ 0; omega⟩) hS (fun q _ h => hFc q h) hFc (fun r_128 u t H1 locs ht hvm hw hB hz1 hk1 hS => ?_)
                  obtain ⟨F_129, hB1⟩ := hB
                  obtain rfl : F_90 = F_129 := (funext (fun a => hB1.2.2.2 a List.not_mem_nil)).symm
                  obtain ⟨hP, hD, hO, hR⟩ := QTm.back hB1 ht hFc hR (fun q h => absurd h List.not_mem_nil)
                  generalize H1 = H at hP hS ⊢
                  have hw : (r_128 = 0 ∨ (r_128 = 1 ∧ 0 < zz ∧ zz ≤ 60)) := hw
                  have hw_130 := hw
                  refine W.widen (k := 0) (n := 0) (by omega) (by omega) ?_
                  exact W.zret (v := r_128) (ty := .boolean) hx hb hr (bitN (bit3 hw_130)) (fun t ht hWm => ⟨⟨r_128, r_128, rfl, ⟨rfl, bit3 hw_130⟩, ⟨F_90, zz, QTm.mk ht hP hD hO hR, hi3, (fun h => (bit1 hw_130 (by rw [h]; decide)).2)⟩⟩, hS.F ht⟩) hS.2.2 dX15_isSeen_179
                ·
                  refine lv_aload_n hx hb dX15_isSeen_150 rfl (lv_at hl 3 rfl) ?_
                  refine pg_get (ci := 15) (v := .ref ak) (C := RX15) (T := TX15) (N := 59) hx hb hts it_15 hown hK hP hL_h0 hF_96 rfl 56 (by decide) (hts _ kt_993) (fun _ h9 => h9) rfl dX15_isSeen_151 ?_
                  refine lv_aload_n hx hb dX15_isSeen_154 rfl (lv_at hl 3 rfl) ?_
                  refine pg_get (ci := 15) (v := .ref ml) (C := RX15) (T := TX15) (N := 59) hx hb hts it_15 hown hK hP hL_h0 hF_96 rfl 23 (by decide) (hts _ kt_887) (fun _ h9 => h9) rfl dX15_isSeen_155 ?_
                  refine lv_iload_n hx hb dX15_isSeen_158 rfl (lv_at hl 0 rfl) ?_
                  refine pg_bald hx hb hK hP hi_106 1 hF_111 rfl (vp_in_nI (by omega) (by omega)) dX15_isSeen_159 ?_
                  refine lv_topi (fun x_131 ex_131 => ?_)
                  obtain rfl : x_131 = f_110 i := ex_131.trans (congrArg f_110 (show ((nI i) : Int32).toNatClampNeg = i from nI_clamp (by omega)))
                  have hFc := pg_free hD hS hA
                  refine va_calli (va_runS (As := [.int (f_110 i)]) (rest := [.ref ak]) ⟨hx, hb, hml, hown, hts⟩ (s_X15_small l dC dI cs ty gm L H.size F_90 (f_110 i) hW ) ⟨callB_of 1 hts (gi kt_697) rfl rfl rfl (hts _ kt_669) (hts _ kt_698) (by decide +kernel) ⟨Nat.le_of_ble_eq_true rfl, Nat.le_of_ble_eq_true rfl⟩, (hts _ kt_699)⟩ ⟨fun a U g mk q => ⟨q.1, PTm.calling q.2⟩, fun U hU hWm => ⟨rfl, PTm.mk hU hWm hP hK hD hE hO⟩⟩ rfl rfl hl.1 rfl (lv_room (Nat.le_of_ble_eq_true rfl)) dX15_isSeen_160 ⟨by show _ + 0 ≤ 0; omega, by show _ + 0 ≤ 0; omega⟩) hS (fun q _ h => hFc q h) hFc (fun r_132 u t H1 locs ht hvm hw hB hz1 hk1 hS => ?_)
                  obtain ⟨F_133, hB1⟩ := hB
                  obtain rfl : F_90 = F_133 := (funext (fun a => hB1.2.2.2 a List.not_mem_nil)).symm
                  obtain ⟨hP, hD, hO, hR⟩ := QTm.back hB1 ht hFc hR (fun q h => absurd h List.not_mem_nil)
                  generalize H1 = H at hP hS ⊢
                  have hw : True := hw
                  have hw_134 := hw
                  have hFc := pg_free hD hS hA
                  refine va_callv (va_runV (As := [.int r_132]) (rest := []) ⟨hx, hb, hml, hown, hts⟩ (s_X14_add l dC dI cs ty gm L H.size F_90 ak (ρ + 28) rak 6000 zz r_132 hW hL_ak hT_ak hi3 (by first | omega | assumption | exact Or.inl rfl)) ⟨callB_of 1 hts (gi kt_711) rfl rfl rfl (hts _ kt_676) (hts _ kt_712) (by decide +kernel) ⟨Nat.le_of_ble_eq_true rfl, Nat.le_of_ble_eq_true rfl⟩, (hts _ kt_713), (hts _ kt_714)⟩ ⟨fun a U g mk q => ⟨q.1, PTm.calling q.2⟩, pg_recv hK hP hL_ak hi3 (q := (RX14, TX14, 2)) rfl, fun U hU hWm => ⟨rfl, PTm.mk hU hWm hP hK hD hE hO⟩⟩ rfl rfl hl.1 rfl (lv_room (Nat.le_of_ble_eq_true rfl)) dX15_isSeen_163 ⟨by show _ + 0 ≤ 0; omega, by show _ + 0 ≤ 0; omega⟩) hS (fun q _ h => hFc q h) hFc (fun u t H1 locs ht hvm hw hB hz1 hk1 hS => ?_)
                  obtain ⟨F_136, hB1, hq_137⟩ := hB
                  obtain ⟨hP, hD, hO, hR⟩ := QTm.back hB1 ht hFc hR (fun q h => by simp only [List.mem_cons, List.not_mem_nil, or_false] at h ⊢; omega)
                  have hF_138 : F_136 h0 = .inr (15, (.ref ta) :: (.int (nI zt)) :: (.int (nI zo)) :: (.int (nI ze)) :: (.ref ou) :: (.ref so) :: (.ref ad) :: (.ref na) :: (.ref va) :: (.ref lc) :: (.ref dm) :: (.int (nI fm)) :: (.int (nI sn)) :: (.ref tg) :: (.int v14_34) :: (.int v15_35) :: (.ref pe) :: (.int v17_36) :: (.int v18_37) :: (.int v19_38) :: (.int v20_39) :: (.int v21_40) :: (.int v22_41) :: (.ref ml) :: (.ref bg) :: (.ref co) :: (.ref sp) :: (.ref nb0) :: (.ref nb1) :: (.ref nb2) :: (.int (nI nf)) :: (.int (nI bd)) :: (.int (nI mm)) :: (.int v33_42) :: (.ref pl) :: (.ref se) :: (.ref ke) :: (.ref wi) :: (.ref hs) :: (.ref mo) :: (.ref po) :: (.ref nu) :: (.ref pr) :: (.ref sq) :: (.ref xa) :: (.ref sa) :: (.ref n64) :: (.ref m64) :: (.ref ex) :: (.ref wh) :: (.ref sd) :: (.ref tk) :: (.int v52_43) :: (.int v53_44) :: (.int v54_45) :: (.ref hd) :: (.ref ak) :: (.ref ho) :: (.ref ot) :: []) := (hB1.2.2.2 h0 (by rw [hT_h0]; simp)).trans hF_96
                  have hF_139 : F_136 sp = .inl (cs 16, 21, .inl f_57) := (hB1.2.2.2 sp (by rw [ht_56]; simp)).trans hF_97
                  have hF_140 : F_136 co = .inl (cs 16, 21, .inl f_71) := (hB1.2.2.2 co (by rw [ht_70]; simp)).trans hF_98
                  have hF_141 : F_136 ml = .inl (cs 17, 3000, .inl f_110) := (hB1.2.2.2 ml (by rw [ht_107]; simp)).trans hF_111
                  generalize H1 = H at hP hS ⊢
                  refine lv_iinc (v := (nI (i + 1))) (lv' := [(3, .int (nI (i + 1))), (2, .int (nI k)), (1, .int (nI jf)), (0, .ref h0)]) hx hb dX15_isSeen_166 hl (k := 0) rfl (nI_1 _) (by decide) rfl (fun ls hl => ?_)
                  refine lv_goto (tgt := 106) hx hb dX15_isSeen_169 (by decide) ?_
                  refine W.widen (k := 0) (n := 0) (by omega) (by omega) ?_
                  exact ih_95 ((i + 1), (zz + 1)) F_136 (⟨⟨by omega, by omega⟩, by omega, hq_137⟩) (by show gm 2 jf - (i + 1) < gm 2 jf - i; omega) hO hR _ _ hP hD hS ls (lv_sub hl [0, 1, 2, 3] rfl)
        ·
          have hi_142 : k = (gm 1 jf) := (nI_eq (a := k) (b := (gm 1 jf)) (by omega) (by omega)).mp c_78
          refine lv_iconst (v := 0) hx hb dX15_isSeen_92 (by decide) ?_
          refine W.widen (k := 0) (n := 0) (by omega) (by omega) ?_
          obtain ⟨z_143, hF_144, hq_145⟩ := hO.txt hL_ak hT_ak
          exact W.zret (v := 0) (ty := .boolean) hx hb hr (by decide) (fun t ht hWm => ⟨⟨0, 0, rfl, ⟨rfl, Or.inl rfl⟩, ⟨F_62, z_143, QTm.mk ht hP hD hO hR, hF_144, (fun h => absurd h (by decide))⟩⟩, hS.F ht⟩) hS.2.2 dX15_isSeen_93
      ·
        have hi_146 : (gm 1 jf) < k := Nat.not_le.mp (fun q => c_75 ((nI_leI (a := k) (b := (gm 1 jf)) (by omega) (by omega)).mpr q))
        refine lv_aload_n hx hb dX15_isSeen_65 rfl (lv_at hl 2 rfl) ?_
        refine pg_get (ci := 15) (v := .ref ml) (C := RX15) (T := TX15) (N := 59) hx hb hts it_15 hown hK hP hL_h0 hF_67 rfl 23 (by decide) (hts _ kt_887) (fun _ h9 => h9) rfl dX15_isSeen_66 ?_
        refine lv_iload_n hx hb dX15_isSeen_69 rfl (lv_at hl 0 rfl) ?_
        obtain ⟨hi_147, ht_148⟩ := hW.f_ml hL_h0 hT_h0
        obtain ⟨hq_149, hq_150⟩ := hW.octs hi_147 ht_148
        obtain ⟨f_151, hF_152, hq_153⟩ := hO.octs hi_147 ht_148
        refine pg_bald hx hb hK hP hi_147 1 hF_152 rfl (vp_in_nI (by omega) (by omega)) dX15_isSeen_70 ?_
        refine lv_topi (fun x_154 ex_154 => ?_)
        obtain rfl : x_154 = f_151 k := ex_154.trans (congrArg f_151 (show ((nI k) : Int32).toNatClampNeg = k from nI_clamp (by omega)))
        refine lv_bipush (v := 64) hx hb dX15_isSeen_71 (by decide) ?_
        refine lv_icmp_eq (tgt := 82) hx hb dX15_isSeen_73 (by decide) (fun c_155 => ?_) (fun c_155 => ?_)
        ·
          refine lv_iload_n hx hb dX15_isSeen_82 rfl (lv_at hl 0 rfl) ?_
          refine lv_aload_n hx hb dX15_isSeen_83 rfl (lv_at hl 2 rfl) ?_
          refine pg_get (ci := 15) (v := .ref co) (C := RX15) (T := TX15) (N := 59) hx hb hts it_15 hown hK hP hL_h0 hF_67 rfl 25 (by decide) (hts _ kt_889) (fun _ h9 => h9) rfl dX15_isSeen_84 ?_
          refine lv_iload_n hx hb dX15_isSeen_87 rfl (lv_at hl 1 rfl) ?_
          refine pg_iald hx hb hK hP hi_69 0 hF_72 rfl (vp_in_nI (by omega) (by omega)) dX15_isSeen_88 ?_
          refine lv_topi (fun x_156 ex_156 => ?_)
          obtain rfl : x_156 = (nI (gm 1 jf)) := ex_156.trans (by rw [show ((nI jf) : Int32) = nI jf from rfl, nI_clamp (by omega)]; exact hq_73 jf (by omega))
          have hgbx_156 := hgB 1 jf
          refine lv_icmp_ne (tgt := 94) hx hb dX15_isSeen_89 (by decide) (fun c_157 => ?_) (fun c_157 => ?_)
          ·
            have hi_158 : k ≠ (gm 1 jf) := fun q => c_157 (by rw [q])
            refine lv_aload_n hx hb dX15_isSeen_94 rfl (lv_at hl 2 rfl) ?_
            refine pg_get (ci := 15) (v := .ref ak) (C := RX15) (T := TX15) (N := 59) hx hb hts it_15 hown hK hP hL_h0 hF_67 rfl 56 (by decide) (hts _ kt_993) (fun _ h9 => h9) rfl dX15_isSeen_95 ?_
            refine lv_iconst (v := 0) hx hb dX15_isSeen_98 (by decide) ?_
            obtain ⟨z_159, hF_160, hq_161⟩ := hO.txt hL_ak hT_ak
            refine pg_put (ci := 14) (v := .int 0) (ty := .int) (C := RX14) (T := TX14) (N := 2) hx hb hts it_14 tyX14 tyX14_ok nmX14 hown hK hP hD hS hL_ak hF_160 rfl 1 (by decide) (hts _ kt_709) (fun _ h9 => h9) rfl (by decide +kernel) (rfl) (rfl) (Nat.le_of_ble_eq_true rfl) dX15_isSeen_99 (fun H locs hP hD hS => ?_)
            obtain ⟨F_162, he_163, hP, hD, hO, hR⟩ : ∃ G, G = va_up F_62 ak (.inr (14, [.ref rak, .int 0])) ∧ va_P (dC, dI) vwCl (va_pl L G) H ∧ va_D A (va_pl L G) ∧ OKm cs ty gm L G ∧ FR ty [ρ + 28] F G := ⟨_, rfl, hP, hD, hO.up (shm.txt hT_ak ⟨0, rfl, (by first | omega | assumption | exact Or.inl rfl | exact Or.inr rfl)⟩), hR.up hT_ak (by simp)⟩
            have hF_164 : F_162 ak = .inr (14, [.ref rak, .int 0]) := by rw [he_163]; exact up_self
            have hF_165 : F_162 h0 = .inr (15, (.ref ta) :: (.int (nI zt)) :: (.int (nI zo)) :: (.int (nI ze)) :: (.ref ou) :: (.ref so) :: (.ref ad) :: (.ref na) :: (.ref va) :: (.ref lc) :: (.ref dm) :: (.int (nI fm)) :: (.int (nI sn)) :: (.ref tg) :: (.int v14_34) :: (.int v15_35) :: (.ref pe) :: (.int v17_36) :: (.int v18_37) :: (.int v19_38) :: (.int v20_39) :: (.int v21_40) :: (.int v22_41) :: (.ref ml) :: (.ref bg) :: (.ref co) :: (.ref sp) :: (.ref nb0) :: (.ref nb1) :: (.ref nb2) :: (.int (nI nf)) :: (.int (nI bd)) :: (.int (nI mm)) :: (.int v33_42) :: (.ref pl) :: (.ref se) :: (.ref ke) :: (.ref wi) :: (.ref hs) :: (.ref mo) :: (.ref po) :: (.ref nu) :: (.ref pr) :: (.ref sq) :: (.ref xa) :: (.ref sa) :: (.ref n64) :: (.ref m64) :: (.ref ex) :: (.ref wh) :: (.ref sd) :: (.ref tk) :: (.int v52_43) :: (.int v53_44) :: (.int v54_45) :: (.ref hd) :: (.ref ak) :: (.ref ho) :: (.ref ot) :: []) := by rw [he_163, up_ne (ne_ty hT_h0 hT_ak (by simp))]; exact hF_67
            have hF_166 : F_162 sp = .inl (cs 16, 21, .inl f_57) := by rw [he_163, up_ne (ne_ty ht_56 hT_ak (by simp))]; exact hF_68
            have hF_167 : F_162 co = .inl (cs 16, 21, .inl f_71) := by rw [he_163, up_ne (ne_ty ht_70 hT_ak (by simp))]; exact hF_72
            have hF_168 : F_162 ml = .inl (cs 17, 3000, .inl f_151) := by rw [he_163, up_ne (ne_ty ht_148 hT_ak (by simp))]; exact hF_152
            refine lv_iload_n hx hb dX15_isSeen_102 rfl (lv_at hl 0 rfl) ?_
            refine lv_iconst (v := 1) hx hb dX15_isSeen_103 (by decide) ?_
            refine lv_iadd hx hb dX15_isSeen_104 ?_
            refine lv_topi (fun x_169 ex_169 => ?_)
            obtain rfl : x_169 = (nI (k + 1)) := ex_169.trans (nI_add k 1)
            refine lv_istore_n (lv' := [(3, .int (nI (k + 1))), (2, .int (nI k)), (1, .int (nI jf)), (0, .ref h0)]) hx hb dX15_isSeen_105 rfl hl (by decide) rfl (fun ls hl => ?_)
            refine W.widen (k := 0) (n := 0) (by omega) (by omega) ?_
            have hF_171 : F h0 = .inr (15, (.ref ta) :: (.int (nI zt)) :: (.int (nI zo)) :: (.int (nI ze)) :: (.ref ou) :: (.ref so) :: (.ref ad) :: (.ref na) :: (.ref va) :: (.ref lc) :: (.ref dm) :: (.int (nI fm)) :: (.int (nI sn)) :: (.ref tg) :: (.int v14_34) :: (.int v15_35) :: (.ref pe) :: (.int v17_36) :: (.int v18_37) :: (.int v19_38) :: (.int v20_39) :: (.int v21_40) :: (.int v22_41) :: (.ref ml) :: (.ref bg) :: (.ref co) :: (.ref sp) :: (.ref nb0) :: (.ref nb1) :: (.ref nb2) :: (.int (nI nf)) :: (.int (nI bd)) :: (.int (nI mm)) :: (.int v33_42) :: (.ref pl) :: (.ref se) :: (.ref ke) :: (.ref wi) :: (.ref hs) :: (.ref mo) :: (.ref po) :: (.ref nu) :: (.ref pr) :: (.ref sq) :: (.ref xa) :: (.ref sa) :: (.ref n64) :: (.ref m64) :: (.ref ex) :: (.ref wh) :: (.ref sd) :: (.ref tk) :: (.int v52_43) :: (.int v53_44) :: (.int v54_45) :: (.ref hd) :: (.ref ak) :: (.ref ho) :: (.ref ot) :: []) := (hR h0 (by rw [hT_h0]; simp)).symm.trans hF_165
            have hF_172 : F sp = .inl (cs 16, 21, .inl f_57) := (hR sp (by rw [ht_56]; simp)).symm.trans hF_166
            have hF_173 : F co = .inl (cs 16, 21, .inl f_71) := (hR co (by rw [ht_70]; simp)).symm.trans hF_167
            have hF_174 : F ml = .inl (cs 17, 3000, .inl f_151) := (hR ml (by rw [ht_148]; simp)).symm.trans hF_168
            refine pl_loopm (σ := Nat × Nat) A (dC, dI) cs ty gm L [ρ + 28] F 106 4 (fun (i, zz) => [(3, .int (nI i)), (2, .int (nI k)), (1, .int (nI jf)), (0, .ref h0)]) (fun (i, zz) => []) (fun (i, zz) FF => (k + 1 ≤ i ∧ i ≤ max (k + 1) (gm 2 jf)) ∧ zz ≤ i - (k + 1) ∧ FF ak = .inr (14, [.ref rak, .int (nI zz)])) (fun (i, zz) => gm 2 jf - i) ?_ ((k + 1), 0) F_162 (⟨⟨by omega, by omega⟩, by omega, hF_164⟩) hO hR _ _ hP hD hS ls (lv_sub hl [0, 1, 2, 3] rfl)
            rintro ⟨i, zz⟩ F_170 hv_175 hO hR ih_176 H locs hP hD hS ls hl
            have hl : lv_has ls 4 [(3, .int (nI i)), (2, .int (nI k)), (1, .int (nI jf)), (0, .ref h0)] := hl
            have hv_175 : (k + 1 ≤ i ∧ i ≤ max (k + 1) (gm 2 jf)) ∧ zz ≤ i - (k + 1) ∧ F_170 ak = .inr (14, [.ref rak, .int (nI zz)]) := hv_175
            refine W.eq (g2 := F0 m 106 ls []) rfl ?_
            have hF_177 : F_170 h0 = .inr (15, (.ref ta) :: (.int (nI zt)) :: (.int (nI zo)) :: (.int (nI ze)) :: (.ref ou) :: (.ref so) :: (.ref ad) :: (.ref na) :: (.ref va) :: (.ref lc) :: (.ref dm) :: (.int (nI fm)) :: (.int (nI sn)) :: (.ref tg) :: (.int v14_34) :: (.int v15_35) :: (.ref pe) :: (.int v17_36) :: (.int v18_37) :: (.int v19_38) :: (.int v20_39) :: (.int v21_40) :: (.int v22_41) :: (.ref ml) :: (.ref bg) :: (.ref co) :: (.ref sp) :: (.ref nb0) :: (.ref nb1) :: (.ref nb2) :: (.int (nI nf)) :: (.int (nI bd)) :: (.int (nI mm)) :: (.int v33_42) :: (.ref pl) :: (.ref se) :: (.ref ke) :: (.ref wi) :: (.ref hs) :: (.ref mo) :: (.ref po) :: (.ref nu) :: (.ref pr) :: (.ref sq) :: (.ref xa) :: (.ref sa) :: (.ref n64) :: (.ref m64) :: (.ref ex) :: (.ref wh) :: (.ref sd) :: (.ref tk) :: (.int v52_43) :: (.int v53_44) :: (.int v54_45) :: (.ref hd) :: (.ref ak) :: (.ref ho) :: (.ref ot) :: []) := (hR h0 (by rw [hT_h0]; simp)).trans hF_171
            have hF_178 : F_170 sp = .inl (cs 16, 21, .inl f_57) := (hR sp (by rw [ht_56]; simp)).trans hF_172
            have hF_179 : F_170 co = .inl (cs 16, 21, .inl f_71) := (hR co (by rw [ht_70]; simp)).trans hF_173
            have hF_180 : F_170 ml = .inl (cs 17, 3000, .inl f_151) := (hR ml (by rw [ht_148]; simp)).trans hF_174
            obtain ⟨hi1, hi2, hi3⟩ := hv_175
            refine lv_iload_n hx hb dX15_isSeen_106 rfl (lv_at hl 0 rfl) ?_
            refine lv_aload_n hx hb dX15_isSeen_107 rfl (lv_at hl 3 rfl) ?_
            refine pg_get (ci := 15) (v := .ref sp) (C := RX15) (T := TX15) (N := 59) hx hb hts it_15 hown hK hP hL_h0 hF_177 rfl 26 (by decide) (hts _ kt_890) (fun _ h9 => h9) rfl dX15_isSeen_108 ?_
            refine lv_iload_n hx hb dX15_isSeen_111 rfl (lv_at hl 2 rfl) ?_
            refine pg_iald hx hb hK hP hi_55 0 hF_178 rfl (vp_in_nI (by omega) (by omega)) dX15_isSeen_112 ?_
            refine lv_topi (fun x_181 ex_181 => ?_)
            obtain rfl : x_181 = (nI (gm 2 jf)) := ex_181.trans (by rw [show ((nI jf) : Int32) = nI jf from rfl, nI_clamp (by omega)]; exact hq_59 jf (by omega))
            have hgbx_181 := hgB 2 jf
            refine lv_icmp_ge (tgt := 172) hx hb dX15_isSeen_113 (by decide) (fun c_182 => ?_) (fun c_182 => ?_)
            ·
              have hi_183 : (gm 2 jf) ≤ i := leN (N := (gm 2 jf)) c_182
              refine lv_aload_n hx hb dX15_isSeen_172 rfl (lv_at hl 3 rfl) ?_
              refine pg_get (ci := 15) (v := .ref ak) (C := RX15) (T := TX15) (N := 59) hx hb hts it_15 hown hK hP hL_h0 hF_177 rfl 56 (by decide) (hts _ kt_993) (fun _ h9 => h9) rfl dX15_isSeen_173 ?_
              have hFc := pg_free hD hS hA
              refine va_calli (va_runV (As := []) (rest := []) ⟨hx, hb, hml, hown, hts⟩ (s_X14_isName l dC dI cs ty gm L H.size F_170 ak (ρ + 28) rak 6000 zz hW hL_ak hT_ak hi3 (by first | omega | assumption | exact Or.inl rfl)) ⟨callB_of 0 hts (gi kt_994) rfl rfl rfl (hts _ kt_676) (hts _ kt_995) (by decide +kernel) ⟨Nat.le_of_ble_eq_true rfl, Nat.le_of_ble_eq_true rfl⟩, (hts _ kt_996), (hts _ kt_997)⟩ ⟨fun a U g mk q => ⟨q.1, PTm.calling q.2⟩, pg_recv hK hP hL_ak hi3 (q := (RX14, TX14, 2)) rfl, fun U hU hWm => ⟨rfl, PTm.mk hU hWm hP hK hD hE hO⟩⟩ rfl rfl hl.1 rfl (lv_room (Nat.le_of_ble_eq_true rfl)) dX15_isSeen_176 ⟨by show _ + 0 ≤ 0; omega, by show _ + 0 ≤ 0; omega⟩) hS (fun q _ h => hFc q h) hFc (fun r_184 u t H1 locs ht hvm hw hB hz1 hk1 hS => ?_)
              obtain ⟨F_185, hB1⟩ := hB
              obtain rfl : F_170 = F_185 := (funext (fun a => hB1.2.2.2 a List.not_mem_nil)).symm
              obtain ⟨hP, hD, hO, hR⟩ := QTm.back hB1 ht hFc hR (fun q h => absurd h List.not_mem_nil)
              generalize H1 = H at hP hS ⊢
              have hw : (r_184 = 0 ∨ (r_184 = 1 ∧ 0 < zz ∧ zz ≤ 60)) := hw
              have hw_186 := hw
              refine W.widen (k := 0) (n := 0) (by omega) (by omega) ?_
              exact W.zret (v := r_184) (ty := .boolean) hx hb hr (bitN (bit3 hw_186)) (fun t ht hWm => ⟨⟨r_184, r_184, rfl, ⟨rfl, bit3 hw_186⟩, ⟨F_170, zz, QTm.mk ht hP hD hO hR, hi3, (fun h => (bit1 hw_186 (by rw [h]; decide)).2)⟩⟩, hS.F ht⟩) hS.2.2 dX15_isSeen_179
            ·
              have hi_187 : i < (gm 2 jf) := ltN (N := (gm 2 jf)) c_182
              refine lv_aload_n hx hb dX15_isSeen_116 rfl (lv_at hl 3 rfl) ?_
              refine pg_get (ci := 15) (v := .ref ml) (C := RX15) (T := TX15) (N := 59) hx hb hts it_15 hown hK hP hL_h0 hF_177 rfl 23 (by decide) (hts _ kt_887) (fun _ h9 => h9) rfl dX15_isSeen_117 ?_
              refine lv_iload_n hx hb dX15_isSeen_120 rfl (lv_at hl 0 rfl) ?_
              refine pg_bald hx hb hK hP hi_147 1 hF_180 rfl (vp_in_nI (by omega) (by omega)) dX15_isSeen_121 ?_
              refine lv_topi (fun x_188 ex_188 => ?_)
              obtain rfl : x_188 = f_151 i := ex_188.trans (congrArg f_151 (show ((nI i) : Int32).toNatClampNeg = i from nI_clamp (by omega)))
              have hFc := pg_free hD hS hA
              refine va_calli (va_runS (As := [.int (f_151 i)]) (rest := []) ⟨hx, hb, hml, hown, hts⟩ (s_X15_isWhite l dC dI cs ty gm L H.size F_170 (f_151 i) hW ) ⟨callB_of 1 hts (gi kt_715) rfl rfl rfl (hts _ kt_669) (hts _ kt_716) (by decide +kernel) ⟨Nat.le_of_ble_eq_true rfl, Nat.le_of_ble_eq_true rfl⟩, (hts _ kt_717)⟩ ⟨fun a U g mk q => ⟨q.1, PTm.calling q.2⟩, fun U hU hWm => ⟨rfl, PTm.mk hU hWm hP hK hD hE hO⟩⟩ rfl rfl hl.1 rfl (lv_room (Nat.le_of_ble_eq_true rfl)) dX15_isSeen_122 ⟨by show _ + 0 ≤ 0; omega, by show _ + 0 ≤ 0; omega⟩) hS (fun q _ h => hFc q h) hFc (fun r_189 u t H1 locs ht hvm hw hB hz1 hk1 hS => ?_)
              obtain ⟨F_190, hB1⟩ := hB
              obtain rfl : F_170 = F_190 := (funext (fun a => hB1.2.2.2 a List.not_mem_nil)).symm
              obtain ⟨hP, hD, hO, hR⟩ := QTm.back hB1 ht hFc hR (fun q h => absurd h List.not_mem_nil)
              generalize H1 = H at hP hS ⊢
              have hw : (r_189 = 0 ∨ r_189 = 1) := hw
              have hw_191 := hw
              refine lv_if_ne (tgt := 172) hx hb dX15_isSeen_125 (by decide) (fun c_192 => ?_) (fun c_192 => ?_)
              ·
                refine lv_aload_n hx hb dX15_isSeen_172 rfl (lv_at hl 3 rfl) ?_
                refine pg_get (ci := 15) (v := .ref ak) (C := RX15) (T := TX15) (N := 59) hx hb hts it_15 hown hK hP hL_h0 hF_177 rfl 56 (by decide) (hts _ kt_993) (fun _ h9 => h9) rfl dX15_isSeen_173 ?_
                have hFc := pg_free hD hS hA
                refine va_calli (va_runV (As := []) (rest := []) ⟨hx, hb, hml, hown, hts⟩ (s_X14_isName l dC dI cs ty gm L H.size F_170 ak (ρ + 28) rak 6000 zz hW hL_ak hT_ak hi3 (by first | omega | assumption | exact Or.inl rfl)) ⟨callB_of 0 hts (gi kt_994) rfl rfl rfl (hts _ kt_676) (hts _ kt_995) (by decide +kernel) ⟨Nat.le_of_ble_eq_true rfl, Nat.le_of_ble_eq_true rfl⟩, (hts _ kt_996), (hts _ kt_997)⟩ ⟨fun a U g mk q => ⟨q.1, PTm.calling q.2⟩, pg_recv hK hP hL_ak hi3 (q := (RX14, TX14, 2)) rfl, fun U hU hWm => ⟨rfl, PTm.mk hU hWm hP hK hD hE hO⟩⟩ rfl rfl hl.1 rfl (lv_room (Nat.le_of_ble_eq_true rfl)) dX15_isSeen_176 ⟨by show _ + 0 ≤ 0; omega, by show _ + 0 ≤ 0; omega⟩) hS (fun q _ h => hFc q h) hFc (fun r_193 u t H1 locs ht hvm hw hB hz1 hk1 hS => ?_)
                obtain ⟨F_194, hB1⟩ := hB
                obtain rfl : F_170 = F_194 := (funext (fun a => hB1.2.2.2 a List.not_mem_nil)).symm
                obtain ⟨hP, hD, hO, hR⟩ := QTm.back hB1 ht hFc hR (fun q h => absurd h List.not_mem_nil)
                generalize H1 = H at hP hS ⊢
                have hw : (r_193 = 0 ∨ (r_193 = 1 ∧ 0 < zz ∧ zz ≤ 60)) := hw
                have hw_195 := hw
                refine W.widen (k := 0) (n := 0) (by omega) (by omega) ?_
                exact W.zret (v := r_193) (ty := .boolean) hx hb hr (bitN (bit3 hw_195)) (fun t ht hWm => ⟨⟨r_193, r_193, rfl, ⟨rfl, bit3 hw_195⟩, ⟨F_170, zz, QTm.mk ht hP hD hO hR, hi3, (fun h => (bit1 hw_195 (by rw [h]; decide)).2)⟩⟩, hS.F ht⟩) hS.2.2 dX15_isSeen_179
              ·
                refine lv_aload_n hx hb dX15_isSeen_128 rfl (lv_at hl 3 rfl) ?_
                refine pg_get (ci := 15) (v := .ref ml) (C := RX15) (T := TX15) (N := 59) hx hb hts it_15 hown hK hP hL_h0 hF_177 rfl 23 (by decide) (hts _ kt_887) (fun _ h9 => h9) rfl dX15_isSeen_129 ?_
                refine lv_iload_n hx hb dX15_isSeen_132 rfl (lv_at hl 0 rfl) ?_
                refine pg_bald hx hb hK hP hi_147 1 hF_180 rfl (vp_in_nI (by omega) (by omega)) dX15_isSeen_133 ?_
                refine lv_topi (fun x_196 ex_196 => ?_)
                obtain rfl : x_196 = f_151 i := ex_196.trans (congrArg f_151 (show ((nI i) : Int32).toNatClampNeg = i from nI_clamp (by omega)))
                refine lv_bipush (v := 62) hx hb dX15_isSeen_134 (by decide) ?_
                refine lv_icmp_eq (tgt := 172) hx hb dX15_isSeen_136 (by decide) (fun c_197 => ?_) (fun c_197 => ?_)
                ·
                  refine lv_aload_n hx hb dX15_isSeen_172 rfl (lv_at hl 3 rfl) ?_
                  refine pg_get (ci := 15) (v := .ref ak) (C := RX15) (T := TX15) (N := 59) hx hb hts it_15 hown hK hP hL_h0 hF_177 rfl 56 (by decide) (hts _ kt_993) (fun _ h9 => h9) rfl dX15_isSeen_173 ?_
                  have hFc := pg_free hD hS hA
                  refine va_calli (va_runV (As := []) (rest := []) ⟨hx, hb, hml, hown, hts⟩ (s_X14_isName l dC dI cs ty gm L H.size F_170 ak (ρ + 28) rak 6000 zz hW hL_ak hT_ak hi3 (by first | omega | assumption | exact Or.inl rfl)) ⟨callB_of 0 hts (gi kt_994) rfl rfl rfl (hts _ kt_676) (hts _ kt_995) (by decide +kernel) ⟨Nat.le_of_ble_eq_true rfl, Nat.le_of_ble_eq_true rfl⟩, (hts _ kt_996), (hts _ kt_997)⟩ ⟨fun a U g mk q => ⟨q.1, PTm.calling q.2⟩, pg_recv hK hP hL_ak hi3 (q := (RX14, TX14, 2)) rfl, fun U hU hWm => ⟨rfl, PTm.mk hU hWm hP hK hD hE hO⟩⟩ rfl rfl hl.1 rfl (lv_room (Nat.le_of_ble_eq_true rfl)) dX15_isSeen_176 ⟨by show _ + 0 ≤ 0; omega, by show _ + 0 ≤ 0; omega⟩) hS (fun q _ h => hFc q h) hFc (fun r_198 u t H1 locs ht hvm hw hB hz1 hk1 hS => ?_)
                  obtain ⟨F_199, hB1⟩ := hB
                  obtain rfl : F_170 = F_199 := (funext (fun a => hB1.2.2.2 a List.not_mem_nil)).symm
                  obtain ⟨hP, hD, hO, hR⟩ := QTm.back hB1 ht hFc hR (fun q h => absurd h List.not_mem_nil)
                  generalize H1 = H at hP hS ⊢
                  have hw : (r_198 = 0 ∨ (r_198 = 1 ∧ 0 < zz ∧ zz ≤ 60)) := hw
                  have hw_200 := hw
                  refine W.widen (k := 0) (n := 0) (by omega) (by omega) ?_
                  exact W.zret (v := r_198) (ty := .boolean) hx hb hr (bitN (bit3 hw_200)) (fun t ht hWm => ⟨⟨r_198, r_198, rfl, ⟨rfl, bit3 hw_200⟩, ⟨F_170, zz, QTm.mk ht hP hD hO hR, hi3, (fun h => (bit1 hw_200 (by rw [h]; decide)).2)⟩⟩, hS.F ht⟩) hS.2.2 dX15_isSeen_179
                ·
                  refine lv_aload_n hx hb dX15_isSeen_139 rfl (lv_at hl 3 rfl) ?_
                  refine pg_get (ci := 15) (v := .ref ml) (C := RX15) (T := TX15) (N := 59) hx hb hts it_15 hown hK hP hL_h0 hF_177 rfl 23 (by decide) (hts _ kt_887) (fun _ h9 => h9) rfl dX15_isSeen_140 ?_
                  refine lv_iload_n hx hb dX15_isSeen_143 rfl (lv_at hl 0 rfl) ?_
                  refine pg_bald hx hb hK hP hi_147 1 hF_180 rfl (vp_in_nI (by omega) (by omega)) dX15_isSeen_144 ?_
                  refine lv_topi (fun x_201 ex_201 => ?_)
                  obtain rfl : x_201 = f_151 i := ex_201.trans (congrArg f_151 (show ((nI i) : Int32).toNatClampNeg = i from nI_clamp (by omega)))
                  refine lv_bipush (v := 10) hx hb dX15_isSeen_145 (by decide) ?_
                  refine lv_icmp_eq (tgt := 172) hx hb dX15_isSeen_147 (by decide) (fun c_202 => ?_) (fun c_202 => ?_)
                  ·
                    refine lv_aload_n hx hb dX15_isSeen_172 rfl (lv_at hl 3 rfl) ?_
                    refine pg_get (ci := 15) (v := .ref ak) (C := RX15) (T := TX15) (N := 59) hx hb hts it_15 hown hK hP hL_h0 hF_177 rfl 56 (by decide) (hts _ kt_993) (fun _ h9 => h9) rfl dX15_isSeen_173 ?_
                    have hFc := pg_free hD hS hA
                    refine va_calli (va_runV (As := []) (rest := []) ⟨hx, hb, hml, hown, hts⟩ (s_X14_isName l dC dI cs ty gm L H.size F_170 ak (ρ + 28) rak 6000 zz hW hL_ak hT_ak hi3 (by first | omega | assumption | exact Or.inl rfl)) ⟨callB_of 0 hts (gi kt_994) rfl rfl rfl (hts _ kt_676) (hts _ kt_995) (by decide +kernel) ⟨Nat.le_of_ble_eq_true rfl, Nat.le_of_ble_eq_true rfl⟩, (hts _ kt_996), (hts _ kt_997)⟩ ⟨fun a U g mk q => ⟨q.1, PTm.calling q.2⟩, pg_recv hK hP hL_ak hi3 (q := (RX14, TX14, 2)) rfl, fun U hU hWm => ⟨rfl, PTm.mk hU hWm hP hK hD hE hO⟩⟩ rfl rfl hl.1 rfl (lv_room (Nat.le_of_ble_eq_true rfl)) dX15_isSeen_176 ⟨by show _ + 0 ≤ 0; omega, by show _ + 0 ≤ 0; omega⟩) hS (fun q _ h => hFc q h) hFc (fun r_203 u t H1 locs ht hvm hw hB hz1 hk1 hS => ?_)
                    obtain ⟨F_204, hB1⟩ := hB
                    obtain rfl : F_170 = F_204 := (funext (fun a => hB1.2.2.2 a List.not_mem_nil)).symm
                    obtain ⟨hP, hD, hO, hR⟩ := QTm.back hB1 ht hFc hR (fun q h => absurd h List.not_mem_nil)
                    generalize H1 = H at hP hS ⊢
                    have hw : (r_203 = 0 ∨ (r_203 = 1 ∧ 0 < zz ∧ zz ≤ 60)) := hw
                    have hw_205 := hw
                    refine W.widen (k := 0) (n := 0) (by omega) (by omega) ?_
                    exact W.zret (v := r_203) (ty := .boolean) hx hb hr (bitN (bit3 hw_205)) (fun t ht hWm => ⟨⟨r_203, r_203, rfl, ⟨rfl, bit3 hw_205⟩, ⟨F_170, zz, QTm.mk ht hP hD hO hR, hi3, (fun h => (bit1 hw_205 (by rw [h]; decide)).2)⟩⟩, hS.F ht⟩) hS.2.2 dX15_isSeen_179
                  ·
                    refine lv_aload_n hx hb dX15_isSeen_150 rfl (lv_at hl 3 rfl) ?_
                    refine pg_get (ci := 15) (v := .ref ak) (C := RX15) (T := TX15) (N := 59) hx hb hts it_15 hown hK hP hL_h0 hF_177 rfl 56 (by decide) (hts _ kt_993) (fun _ h9 => h9) rfl dX15_isSeen_151 ?_
                    refine lv_aload_n hx hb dX15_isSeen_154 rfl (lv_at hl 3 rfl) ?_
                    refine pg_get (ci := 15) (v := .ref ml) (C := RX15) (T := TX15) (N := 59) hx hb hts it_15 hown hK hP hL_h0 hF_177 rfl 23 (by decide) (hts _ kt_887) (fun _ h9 => h9) rfl dX15_isSeen_155 ?_
                    refine lv_iload_n hx hb dX15_isSeen_158 rfl (lv_at hl 0 rfl) ?_
                    refine pg_bald hx hb hK hP hi_147 1 hF_180 rfl (vp_in_nI (by omega) (by omega)) dX15_isSeen_159 ?_
                    refine lv_topi (fun x_206 ex_206 => ?_)
                    obtain rfl : x_206 = f_151 i := ex_206.trans (congrArg f_151 (show ((nI i) : Int32).toNatClampNeg = i from nI_clamp (by omega)))
                    have hFc := pg_free hD hS hA
                    refine va_calli (va_runS (As := [.int (f_151 i)]) (rest := [.ref ak]) ⟨hx, hb, hml, hown, hts⟩ (s_X15_small l dC dI cs ty gm L H.size F_170 (f_151 i) hW ) ⟨callB_of 1 hts (gi kt_697) rfl rfl rfl (hts _ kt_669) (hts _ kt_698) (by decide +kernel) ⟨Nat.le_of_ble_eq_true rfl, Nat.le_of_ble_eq_true rfl⟩, (hts _ kt_699)⟩ ⟨fun a U g mk q => ⟨q.1, PTm.calling q.2⟩, fun U hU hWm => ⟨rfl, PTm.mk hU hWm hP hK hD hE hO⟩⟩ rfl rfl hl.1 rfl (lv_room (Nat.le_of_ble_eq_true rfl)) dX15_isSeen_160 ⟨by show _ + 0 ≤ 0; omega, by show _ + 0 ≤ 0; omega⟩) hS (fun q _ h => hFc q h) hFc (fun r_207 u t H1 locs ht hvm hw hB hz1 hk1 hS => ?_)
                    obtain ⟨F_208, hB1⟩ := hB
                    obtain rfl : F_170 = F_208 := (funext (fun a => hB1.2.2.2 a List.not_mem_nil)).symm
                    obtain ⟨hP, hD, hO, hR⟩ := QTm.back hB1 ht hFc hR (fun q h => absurd h List.not_mem_nil)
                    generalize H1 = H at hP hS ⊢
                    have hw : True := hw
                    have hw_209 := hw
                    have hFc := pg_free hD hS hA
                    refine va_callv (va_runV (As := [.int r_207]) (rest := []) ⟨hx, hb, hml, hown, hts⟩ (s_X14_add l dC dI cs ty gm L H.size F_170 ak (ρ + 28) rak 6000 zz r_207 hW hL_ak hT_ak hi3 (by first | omega | assumption | exact Or.inl rfl)) ⟨callB_of 1 hts (gi kt_711) rfl rfl rfl (hts _ kt_676) (hts _ kt_712) (by decide +kernel) ⟨Nat.le_of_ble_eq_true rfl, Nat.le_of_ble_eq_true rfl⟩, (hts _ kt_713), (hts _ kt_714)⟩ ⟨fun a U g mk q => ⟨q.1, PTm.calling q.2⟩, pg_recv hK hP hL_ak hi3 (q := (RX14, TX14, 2)) rfl, fun U hU hWm => ⟨rfl, PTm.mk hU hWm hP hK hD hE hO⟩⟩ rfl rfl hl.1 rfl (lv_room (Nat.le_of_ble_eq_true rfl)) dX15_isSeen_163 ⟨by show _ + 0 ≤ 0; omega, by show _ + 0 ≤ 0; omega⟩) hS (fun q _ h => hFc q h) hFc (fun u t H1 locs ht hvm hw hB hz1 hk1 hS => ?_)
                    obtain ⟨F_211, hB1, hq_212⟩ := hB
                    obtain ⟨hP, hD, hO, hR⟩ := QTm.back hB1 ht hFc hR (fun q h => by simp only [List.mem_cons, List.not_mem_nil, or_false] at h ⊢; omega)
                    have hF_213 : F_211 h0 = .inr (15, (.ref ta) :: (.int (nI zt)) :: (.int (nI zo)) :: (.int (nI ze)) :: (.ref ou) :: (.ref so) :: (.ref ad) :: (.ref na) :: (.ref va) :: (.ref lc) :: (.ref dm) :: (.int (nI fm)) :: (.int (nI sn)) :: (.ref tg) :: (.int v14_34) :: (.int v15_35) :: (.ref pe) :: (.int v17_36) :: (.int v18_37) :: (.int v19_38) :: (.int v20_39) :: (.int v21_40) :: (.int v22_41) :: (.ref ml) :: (.ref bg) :: (.ref co) :: (.ref sp) :: (.ref nb0) :: (.ref nb1) :: (.ref nb2) :: (.int (nI nf)) :: (.int (nI bd)) :: (.int (nI mm)) :: (.int v33_42) :: (.ref pl) :: (.ref se) :: (.ref ke) :: (.ref wi) :: (.ref hs) :: (.ref mo) :: (.ref po) :: (.ref nu) :: (.ref pr) :: (.ref sq) :: (.ref xa) :: (.ref sa) :: (.ref n64) :: (.ref m64) :: (.ref ex) :: (.ref wh) :: (.ref sd) :: (.ref tk) :: (.int v52_43) :: (.int v53_44) :: (.int v54_45) :: (.ref hd) :: (.ref ak) :: (.ref ho) :: (.ref ot) :: []) := (hB1.2.2.2 h0 (by rw [hT_h0]; simp)).trans hF_177
                    have hF_214 : F_211 sp = .inl (cs 16, 21, .inl f_57) := (hB1.2.2.2 sp (by rw [ht_56]; simp)).trans hF_178
                    have hF_215 : F_211 co = .inl (cs 16, 21, .inl f_71) := (hB1.2.2.2 co (by rw [ht_70]; simp)).trans hF_179
                    have hF_216 : F_211 ml = .inl (cs 17, 3000, .inl f_151) := (hB1.2.2.2 ml (by rw [ht_148]; simp)).trans hF_180
                    generalize H1 = H at hP hS ⊢
                    refine lv_iinc (v := (nI (i + 1))) (lv' := [(3, .int (nI (i + 1))), (2, .int (nI k)), (1, .int (nI jf)), (0, .ref h0)]) hx hb dX15_isSeen_166 hl (k := 0) rfl (nI_1 _) (by decide) rfl (fun ls hl => ?_)
                    refine lv_goto (tgt := 106) hx hb dX15_isSeen_169 (by decide) ?_
                    refine W.widen (k := 0) (n := 0) (by omega) (by omega) ?_
                    exact ih_176 ((i + 1), (zz + 1)) F_211 (⟨⟨by omega, by omega⟩, by omega, hq_212⟩) (by show gm 2 jf - (i + 1) < gm 2 jf - i; omega) hO hR _ _ hP hD hS ls (lv_sub hl [0, 1, 2, 3] rfl)
          ·
            have hi_217 : k = (gm 1 jf) := (nI_eq (a := k) (b := (gm 1 jf)) (by omega) (by omega)).mp c_157
            refine lv_iconst (v := 0) hx hb dX15_isSeen_92 (by decide) ?_
            refine W.widen (k := 0) (n := 0) (by omega) (by omega) ?_
            obtain ⟨z_218, hF_219, hq_220⟩ := hO.txt hL_ak hT_ak
            exact W.zret (v := 0) (ty := .boolean) hx hb hr (by decide) (fun t ht hWm => ⟨⟨0, 0, rfl, ⟨rfl, Or.inl rfl⟩, ⟨F_62, z_218, QTm.mk ht hP hD hO hR, hF_219, (fun h => absurd h (by decide))⟩⟩, hS.F ht⟩) hS.2.2 dX15_isSeen_93
        ·
          refine lv_iinc (v := (nI (k - 1))) (lv' := [(2, .int (nI (k - 1))), (1, .int (nI jf)), (0, .ref h0)]) hx hb dX15_isSeen_76 hl (k := 0) rfl (m1N (by omega)) (by decide) rfl (fun ls hl => ?_)
          refine lv_goto (tgt := 55) hx hb dX15_isSeen_79 (by decide) ?_
          refine W.widen (k := 0) (n := 0) (by omega) (by omega) ?_
          exact ih_66 (k - 1) F_62 (⟨by omega, by omega⟩) (by show (k - 1) < k; omega) hO hR _ _ hP hD hS ls (lv_sub hl [0, 1, 2] rfl)
    ·
      refine lv_iconst (v := 0) hx hb dX15_isSeen_44 (by decide) ?_
      refine W.widen (k := 0) (n := 0) (by omega) (by omega) ?_
      obtain ⟨z_221, hF_222, hq_223⟩ := hO.txt hL_ak hT_ak
      exact W.zret (v := 0) (ty := .boolean) hx hb hr (by decide) (fun t ht hWm => ⟨⟨0, 0, rfl, ⟨rfl, Or.inl rfl⟩, ⟨F_31, z_221, QTm.mk ht hP hD hO hR, hF_222, (fun h => absurd h (by decide))⟩⟩, hS.F ht⟩) hS.2.2 dX15_isSeen_45
  ·
    have hi_224 : j < nf := ltN (N := nf) c_52
    refine lv_aload_n hx hb dX15_isSeen_12 rfl (lv_at hl 2 rfl) ?_
    refine lv_iload_n hx hb dX15_isSeen_13 rfl (lv_at hl 0 rfl) ?_
    obtain ⟨q_225, v_226, hr_q_225, hX_q_225⟩ := hG.2.2 ("PostGateModel", 488, "from", [102, 114, 111, 109]) (by decide +kernel)
    have hX_q_225 : SXc q_225 v_226 4 (cct [102, 114, 111, 109]) A s s.heap := hX_q_225
    obtain ⟨xo_q_225, xc_q_225, xv_q_225, xt_q_225, xn_q_225⟩ := id hX_q_225
    have hr_q_225 : vk_R "PostGateModel" 488 "from" q_225 s := hr_q_225
    refine va_ldcwS hx hb hown hr_q_225 dX15_isSeen_14 ?_
    have hFc := pg_free hD hS hA
    refine va_calli (va_runV (As := [.int (nI j), .ref q_225]) (rest := []) ⟨hx, hb, hml, hown, hts⟩ (s_X15_isNamed l dC dI cs ty gm L H.size F_31 h0 ρ ta ou so ad na va lc dm tg pe ml bg co sp nb0 nb1 nb2 pl se ke wi hs mo po nu pr sq xa sa n64 m64 ex wh sd tk hd ak ho ot sx s0 s1 s2 nf bd mm zo fm sn hg gc gv ze zt j q_225 v_226 4 (cct [102, 114, 111, 109]) hW hL_h0 hT_h0 (by first | omega | assumption | exact Or.inl rfl)) ⟨callB_of 2 hts (gi kt_893) rfl rfl rfl (hts _ kt_669) (hts _ kt_894) (by decide +kernel) ⟨Nat.le_of_ble_eq_true rfl, Nat.le_of_ble_eq_true rfl⟩, (hts _ kt_895), (hts _ kt_896)⟩ ⟨fun a U g mk q => ⟨q.1, PTEm.calling q.2⟩, pg_recv hK hP hL_h0 hF_46 (q := (RX15, TX15, 59)) rfl, fun U hU hWm => ⟨rfl, PTEm.mk hU hWm hP hK hD hE hO hG (fun x hx => by rw [List.mem_singleton] at hx; subst hx; exact hX_q_225) hS hFc⟩⟩ rfl rfl hl.1 rfl (lv_room (Nat.le_of_ble_eq_true rfl)) dX15_isSeen_17 ⟨by show _ + 0 ≤ 0; omega, by show _ + 0 ≤ 0; omega⟩) hS (fun q _ h => hFc q h) hFc (fun r_227 u t H1 locs ht hvm hw hB hz1 hk1 hS => ?_)
    obtain ⟨F_228, hB1⟩ := hB
    obtain rfl : F_31 = F_228 := (funext (fun a => hB1.2.2.2 a List.not_mem_nil)).symm
    obtain ⟨hP, hD, hO, hR⟩ := QTm.back hB1 ht hFc hR (fun q h => absurd h List.not_mem_nil)
    generalize H1 = H at hP hS ⊢
    have hw : (r_227 = 0 ∨ r_227 = 1) := hw
    have hw_229 := hw
    refine lv_if_ne (tgt := 26) hx hb dX15_isSeen_20 (by decide) (fun c_230 => ?_) (fun c_230 => ?_)
    ·
      refine lv_iload_n hx hb dX15_isSeen_26 rfl (lv_at hl 1 rfl) ?_
      refine lv_if_lt (tgt := 32) hx hb dX15_isSeen_27 (by decide) (fun c_231 => ?_) (fun c_231 => ?_)
      ·
        refine lv_iload_n hx hb dX15_isSeen_32 rfl (lv_at hl 0 rfl) ?_
        refine lv_istore_n (lv' := [(1, .int (nI j)), (2, .int (nI j)), (0, .ref h0)]) hx hb dX15_isSeen_33 rfl hl (by decide) rfl (fun ls hl => ?_)
        refine lv_iinc (v := (nI (j + 1))) (lv' := [(2, .int (nI (j + 1))), (1, .int (nI j)), (0, .ref h0)]) hx hb dX15_isSeen_34 hl (k := 1) rfl (nI_1 _) (by decide) rfl (fun ls hl => ?_)
        refine lv_goto (tgt := 4) hx hb dX15_isSeen_37 (by decide) ?_
        refine W.widen (k := 0) (n := 0) (by omega) (by omega) ?_
        exact ih_33 ((j + 1), (nI j)) F_31 (⟨by omega, Or.inr ⟨j, by omega, rfl⟩⟩) (by show nf - (j + 1) < nf - j; omega) hO hR _ _ hP hD hS ls (lv_sub hl [0, 1, 2] rfl)
      ·
        refine lv_iconst (v := 0) hx hb dX15_isSeen_30 (by decide) ?_
        refine W.widen (k := 0) (n := 0) (by omega) (by omega) ?_
        obtain ⟨z_232, hF_233, hq_234⟩ := hO.txt hL_ak hT_ak
        exact W.zret (v := 0) (ty := .boolean) hx hb hr (by decide) (fun t ht hWm => ⟨⟨0, 0, rfl, ⟨rfl, Or.inl rfl⟩, ⟨F_31, z_232, QTm.mk ht hP hD hO hR, hF_233, (fun h => absurd h (by decide))⟩⟩, hS.F ht⟩) hS.2.2 dX15_isSeen_31
    ·
      refine lv_goto (tgt := 34) hx hb dX15_isSeen_23 (by decide) ?_
      refine lv_iinc (v := (nI (j + 1))) (lv' := [(2, .int (nI (j + 1))), (1, .int w1), (0, .ref h0)]) hx hb dX15_isSeen_34 hl (k := 0) rfl (nI_1 _) (by decide) rfl (fun ls hl => ?_)
      refine lv_goto (tgt := 4) hx hb dX15_isSeen_37 (by decide) ?_
      refine W.widen (k := 0) (n := 0) (by omega) (by omega) ?_
      exact ih_33 ((j + 1), w1) F_31 (⟨by omega, hv2⟩) (by show nf - (j + 1) < nf - j; omega) hO hR _ _ hP hD hS ls (lv_sub hl [0, 1, 2] rfl)
