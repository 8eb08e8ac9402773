theorem dX15_isSeen_0 : decode cX15_isSeen 0 = .ok (.iconst (-1), 1) := by decide +kernel
theorem dX15_isSeen_1 : decode cX15_isSeen 1 = .ok (.istore_n 1, 1) := by decide +kernel
theorem dX15_isSeen_2 : decode cX15_isSeen 2 = .ok (.iconst 0, 1) := by decide +kernel
theorem dX15_isSeen_3 : decode cX15_isSeen 3 = .ok (.istore_n 2, 1) := by decide +kernel
theorem dX15_isSeen_4 : decode cX15_isSeen 4 = .ok (.iload_n 2, 1) := by decide +kernel
theorem dX15_isSeen_5 : decode cX15_isSeen 5 = .ok (.aload_n 0, 1) := by decide +kernel
theorem dX15_isSeen_6 : decode cX15_isSeen 6 = .ok (.getfield 355, 3) := by decide +kernel
theorem dX15_isSeen_9 : decode cX15_isSeen 9 = .ok (.if_icmp .ge 31, 3) := by decide +kernel
theorem dX15_isSeen_12 : decode cX15_isSeen 12 = .ok (.aload_n 0, 1) := by decide +kernel
theorem dX15_isSeen_13 : decode cX15_isSeen 13 = .ok (.iload_n 2, 1) := by decide +kernel
theorem dX15_isSeen_14 : decode cX15_isSeen 14 = .ok (.ldc_w 488, 3) := by decide +kernel
theorem dX15_isSeen_17 : decode cX15_isSeen 17 = .ok (.invokevirtual 378, 3) := by decide +kernel
theorem dX15_isSeen_20 : decode cX15_isSeen 20 = .ok (.ifCond .ne 6, 3) := by decide +kernel
theorem dX15_isSeen_23 : decode cX15_isSeen 23 = .ok (.goto 11, 3) := by decide +kernel
theorem dX15_isSeen_26 : decode cX15_isSeen 26 = .ok (.iload_n 1, 1) := by decide +kernel
theorem dX15_isSeen_27 : decode cX15_isSeen 27 = .ok (.ifCond .lt 5, 3) := by decide +kernel
theorem dX15_isSeen_30 : decode cX15_isSeen 30 = .ok (.iconst 0, 1) := by decide +kernel
theorem dX15_isSeen_31 : decode cX15_isSeen 31 = .ok (.ireturn, 1) := by decide +kernel
theorem dX15_isSeen_32 : decode cX15_isSeen 32 = .ok (.iload_n 2, 1) := by decide +kernel
theorem dX15_isSeen_33 : decode cX15_isSeen 33 = .ok (.istore_n 1, 1) := by decide +kernel
theorem dX15_isSeen_34 : decode cX15_isSeen 34 = .ok (.iinc 2 1, 3) := by decide +kernel
theorem dX15_isSeen_37 : decode cX15_isSeen 37 = .ok (.goto (-33), 3) := by decide +kernel
theorem dX15_isSeen_40 : decode cX15_isSeen 40 = .ok (.iload_n 1, 1) := by decide +kernel
theorem dX15_isSeen_41 : decode cX15_isSeen 41 = .ok (.ifCond .ge 5, 3) := by decide +kernel
theorem dX15_isSeen_44 : decode cX15_isSeen 44 = .ok (.iconst 0, 1) := by decide +kernel
theorem dX15_isSeen_45 : decode cX15_isSeen 45 = .ok (.ireturn, 1) := by decide +kernel
theorem dX15_isSeen_46 : decode cX15_isSeen 46 = .ok (.aload_n 0, 1) := by decide +kernel
theorem dX15_isSeen_47 : decode cX15_isSeen 47 = .ok (.getfield 79, 3) := by decide +kernel
theorem dX15_isSeen_50 : decode cX15_isSeen 50 = .ok (.iload_n 1, 1) := by decide +kernel
theorem dX15_isSeen_51 : decode cX15_isSeen 51 = .ok (.iaload, 1) := by decide +kernel
theorem dX15_isSeen_52 : decode cX15_isSeen 52 = .ok (.iconst 1, 1) := by decide +kernel
theorem dX15_isSeen_53 : decode cX15_isSeen 53 = .ok (.isub, 1) := by decide +kernel
theorem dX15_isSeen_54 : decode cX15_isSeen 54 = .ok (.istore_n 2, 1) := by decide +kernel
theorem dX15_isSeen_55 : decode cX15_isSeen 55 = .ok (.iload_n 2, 1) := by decide +kernel
theorem dX15_isSeen_56 : decode cX15_isSeen 56 = .ok (.aload_n 0, 1) := by decide +kernel
theorem dX15_isSeen_57 : decode cX15_isSeen 57 = .ok (.getfield 76, 3) := by decide +kernel
theorem dX15_isSeen_60 : decode cX15_isSeen 60 = .ok (.iload_n 1, 1) := by decide +kernel
theorem dX15_isSeen_61 : decode cX15_isSeen 61 = .ok (.iaload, 1) := by decide +kernel
theorem dX15_isSeen_62 : decode cX15_isSeen 62 = .ok (.if_icmp .le 20, 3) := by decide +kernel
theorem dX15_isSeen_65 : decode cX15_isSeen 65 = .ok (.aload_n 0, 1) := by decide +kernel
theorem dX15_isSeen_66 : decode cX15_isSeen 66 = .ok (.getfield 70, 3) := by decide +kernel
theorem dX15_isSeen_69 : decode cX15_isSeen 69 = .ok (.iload_n 2, 1) := by decide +kernel
theorem dX15_isSeen_70 : decode cX15_isSeen 70 = .ok (.baload, 1) := by decide +kernel
theorem dX15_isSeen_71 : decode cX15_isSeen 71 = .ok (.bipush 64, 2) := by decide +kernel
theorem dX15_isSeen_73 : decode cX15_isSeen 73 = .ok (.if_icmp .eq 9, 3) := by decide +kernel
theorem dX15_isSeen_76 : decode cX15_isSeen 76 = .ok (.iinc 2 (-1), 3) := by decide +kernel
theorem dX15_isSeen_79 : decode cX15_isSeen 79 = .ok (.goto (-24), 3) := by decide +kernel
theorem dX15_isSeen_82 : decode cX15_isSeen 82 = .ok (.iload_n 2, 1) := by decide +kernel
theorem dX15_isSeen_83 : decode cX15_isSeen 83 = .ok (.aload_n 0, 1) := by decide +kernel
theorem dX15_isSeen_84 : decode cX15_isSeen 84 = .ok (.getfield 76, 3) := by decide +kernel
theorem dX15_isSeen_87 : decode cX15_isSeen 87 = .ok (.iload_n 1, 1) := by decide +kernel
theorem dX15_isSeen_88 : decode cX15_isSeen 88 = .ok (.iaload, 1) := by decide +kernel
theorem dX15_isSeen_89 : decode cX15_isSeen 89 = .ok (.if_icmp .ne 5, 3) := by decide +kernel
theorem dX15_isSeen_92 : decode cX15_isSeen 92 = .ok (.iconst 0, 1) := by decide +kernel
theorem dX15_isSeen_93 : decode cX15_isSeen 93 = .ok (.ireturn, 1) := by decide +kernel
theorem dX15_isSeen_94 : decode cX15_isSeen 94 = .ok (.aload_n 0, 1) := by decide +kernel
theorem dX15_isSeen_95 : decode cX15_isSeen 95 = .ok (.getfield 157, 3) := by decide +kernel
theorem dX15_isSeen_98 : decode cX15_isSeen 98 = .ok (.iconst 0, 1) := by decide +kernel
theorem dX15_isSeen_99 : decode cX15_isSeen 99 = .ok (.putfield 190, 3) := by decide +kernel
theorem dX15_isSeen_102 : decode cX15_isSeen 102 = .ok (.iload_n 2, 1) := by decide +kernel
theorem dX15_isSeen_103 : decode cX15_isSeen 103 = .ok (.iconst 1, 1) := by decide +kernel
theorem dX15_isSeen_104 : decode cX15_isSeen 104 = .ok (.iadd, 1) := by decide +kernel
theorem dX15_isSeen_105 : decode cX15_isSeen 105 = .ok (.istore_n 3, 1) := by decide +kernel
theorem dX15_isSeen_106 : decode cX15_isSeen 106 = .ok (.iload_n 3, 1) := by decide +kernel
theorem dX15_isSeen_107 : decode cX15_isSeen 107 = .ok (.aload_n 0, 1) := by decide +kernel
theorem dX15_isSeen_108 : decode cX15_isSeen 108 = .ok (.getfield 79, 3) := by decide +kernel
theorem dX15_isSeen_111 : decode cX15_isSeen 111 = .ok (.iload_n 1, 1) := by decide +kernel
theorem dX15_isSeen_112 : decode cX15_isSeen 112 = .ok (.iaload, 1) := by decide +kernel
theorem dX15_isSeen_113 : decode cX15_isSeen 113 = .ok (.if_icmp .ge 59, 3) := by decide +kernel
theorem dX15_isSeen_116 : decode cX15_isSeen 116 = .ok (.aload_n 0, 1) := by decide +kernel
theorem dX15_isSeen_117 : decode cX15_isSeen 117 = .ok (.getfield 70, 3) := by decide +kernel
theorem dX15_isSeen_120 : decode cX15_isSeen 120 = .ok (.iload_n 3, 1) := by decide +kernel
theorem dX15_isSeen_121 : decode cX15_isSeen 121 = .ok (.baload, 1) := by decide +kernel
theorem dX15_isSeen_122 : decode cX15_isSeen 122 = .ok (.invokestatic 347, 3) := by decide +kernel
theorem dX15_isSeen_125 : decode cX15_isSeen 125 = .ok (.ifCond .ne 47, 3) := by decide +kernel
theorem dX15_isSeen_128 : decode cX15_isSeen 128 = .ok (.aload_n 0, 1) := by decide +kernel
theorem dX15_isSeen_129 : decode cX15_isSeen 129 = .ok (.getfield 70, 3) := by decide +kernel
theorem dX15_isSeen_132 : decode cX15_isSeen 132 = .ok (.iload_n 3, 1) := by decide +kernel
theorem dX15_isSeen_133 : decode cX15_isSeen 133 = .ok (.baload, 1) := by decide +kernel
theorem dX15_isSeen_134 : decode cX15_isSeen 134 = .ok (.bipush 62, 2) := by decide +kernel
theorem dX15_isSeen_136 : decode cX15_isSeen 136 = .ok (.if_icmp .eq 36, 3) := by decide +kernel
theorem dX15_isSeen_139 : decode cX15_isSeen 139 = .ok (.aload_n 0, 1) := by decide +kernel
theorem dX15_isSeen_140 : decode cX15_isSeen 140 = .ok (.getfield 70, 3) := by decide +kernel
theorem dX15_isSeen_143 : decode cX15_isSeen 143 = .ok (.iload_n 3, 1) := by decide +kernel
theorem dX15_isSeen_144 : decode cX15_isSeen 144 = .ok (.baload, 1) := by decide +kernel
theorem dX15_isSeen_145 : decode cX15_isSeen 145 = .ok (.bipush 10, 2) := by decide +kernel
theorem dX15_isSeen_147 : decode cX15_isSeen 147 = .ok (.if_icmp .eq 25, 3) := by decide +kernel
theorem dX15_isSeen_150 : decode cX15_isSeen 150 = .ok (.aload_n 0, 1) := by decide +kernel
theorem dX15_isSeen_151 : decode cX15_isSeen 151 = .ok (.getfield 157, 3) := by decide +kernel
theorem dX15_isSeen_154 : decode cX15_isSeen 154 = .ok (.aload_n 0, 1) := by decide +kernel
theorem dX15_isSeen_155 : decode cX15_isSeen 155 = .ok (.getfield 70, 3) := by decide +kernel
theorem dX15_isSeen_158 : decode cX15_isSeen 158 = .ok (.iload_n 3, 1) := by decide +kernel
theorem dX15_isSeen_159 : decode cX15_isSeen 159 = .ok (.baload, 1) := by decide +kernel
theorem dX15_isSeen_160 : decode cX15_isSeen 160 = .ok (.invokestatic 21, 3) := by decide +kernel
theorem dX15_isSeen_163 : decode cX15_isSeen 163 = .ok (.invokevirtual 292, 3) := by decide +kernel
theorem dX15_isSeen_166 : decode cX15_isSeen 166 = .ok (.iinc 3 1, 3) := by decide +kernel
theorem dX15_isSeen_169 : decode cX15_isSeen 169 = .ok (.goto (-63), 3) := by decide +kernel
theorem dX15_isSeen_172 : decode cX15_isSeen 172 = .ok (.aload_n 0, 1) := by decide +kernel
theorem dX15_isSeen_173 : decode cX15_isSeen 173 = .ok (.getfield 157, 3) := by decide +kernel
theorem dX15_isSeen_176 : decode cX15_isSeen 176 = .ok (.invokevirtual 579, 3) := by decide +kernel
theorem dX15_isSeen_179 : decode cX15_isSeen 179 = .ok (.ireturn, 1) := by decide +kernel
theorem dX15_sealOf_0 : decode cX15_sealOf 0 = .ok (.aload_n 0, 1) := by decide +kernel
theorem dX15_sealOf_1 : decode cX15_sealOf 1 = .ok (.getfield 70, 3) := by decide +kernel
theorem dX15_sealOf_4 : decode cX15_sealOf 4 = .ok (.aload_n 0, 1) := by decide +kernel
theorem dX15_sealOf_5 : decode cX15_sealOf 5 = .ok (.getfield 76, 3) := by decide +kernel
theorem dX15_sealOf_8 : decode cX15_sealOf 8 = .ok (.iload_n 1, 1) := by decide +kernel
theorem dX15_sealOf_9 : decode cX15_sealOf 9 = .ok (.iaload, 1) := by decide +kernel
theorem dX15_sealOf_10 : decode cX15_sealOf 10 = .ok (.iconst 1, 1) := by decide +kernel
theorem dX15_sealOf_11 : decode cX15_sealOf 11 = .ok (.iadd, 1) := by decide +kernel
theorem dX15_sealOf_12 : decode cX15_sealOf 12 = .ok (.aload_n 0, 1) := by decide +kernel
theorem dX15_sealOf_13 : decode cX15_sealOf 13 = .ok (.getfield 79, 3) := by decide +kernel
theorem dX15_sealOf_16 : decode cX15_sealOf 16 = .ok (.iload_n 1, 1) := by decide +kernel
theorem dX15_sealOf_17 : decode cX15_sealOf 17 = .ok (.iaload, 1) := by decide +kernel
theorem dX15_sealOf_18 : decode cX15_sealOf 18 = .ok (.aload_n 0, 1) := by decide +kernel
theorem dX15_sealOf_19 : decode cX15_sealOf 19 = .ok (.getfield 97, 3) := by decide +kernel
theorem dX15_sealOf_22 : decode cX15_sealOf 22 = .ok (.getfield 409, 3) := by decide +kernel
theorem dX15_sealOf_25 : decode cX15_sealOf 25 = .ok (.invokestatic 507, 3) := by decide +kernel
theorem dX15_sealOf_28 : decode cX15_sealOf 28 = .ok (.aload_n 0, 1) := by decide +kernel
theorem dX15_sealOf_29 : decode cX15_sealOf 29 = .ok (.invokevirtual 511, 3) := by decide +kernel
theorem dX15_sealOf_32 : decode cX15_sealOf 32 = .ok (.ifCond .ne 5, 3) := by decide +kernel
theorem dX15_sealOf_35 : decode cX15_sealOf 35 = .ok (.iconst 1, 1) := by decide +kernel
theorem dX15_sealOf_36 : decode cX15_sealOf 36 = .ok (.ireturn, 1) := by decide +kernel
theorem dX15_sealOf_37 : decode cX15_sealOf 37 = .ok (.aload_n 0, 1) := by decide +kernel
theorem dX15_sealOf_38 : decode cX15_sealOf 38 = .ok (.getfield 97, 3) := by decide +kernel
theorem dX15_sealOf_41 : decode cX15_sealOf 41 = .ok (.ldc_w 454, 3) := by decide +kernel
theorem dX15_sealOf_44 : decode cX15_sealOf 44 = .ok (.invokevirtual 399, 3) := by decide +kernel
theorem dX15_sealOf_47 : decode cX15_sealOf 47 = .ok (.istore_n 3, 1) := by decide +kernel
theorem dX15_sealOf_48 : decode cX15_sealOf 48 = .ok (.aload_n 0, 1) := by decide +kernel
theorem dX15_sealOf_49 : decode cX15_sealOf 49 = .ok (.getfield 97, 3) := by decide +kernel
theorem dX15_sealOf_52 : decode cX15_sealOf 52 = .ok (.ldc_w 460, 3) := by decide +kernel
theorem dX15_sealOf_55 : decode cX15_sealOf 55 = .ok (.invokevirtual 399, 3) := by decide +kernel
theorem dX15_sealOf_58 : decode cX15_sealOf 58 = .ok (.istore 4, 2) := by decide +kernel
theorem dX15_sealOf_60 : decode cX15_sealOf 60 = .ok (.aload_n 0, 1) := by decide +kernel
theorem dX15_sealOf_61 : decode cX15_sealOf 61 = .ok (.getfield 97, 3) := by decide +kernel
theorem dX15_sealOf_64 : decode cX15_sealOf 64 = .ok (.ldc_w 481, 3) := by decide +kernel
theorem dX15_sealOf_67 : decode cX15_sealOf 67 = .ok (.invokestatic 478, 3) := by decide +kernel
theorem dX15_sealOf_70 : decode cX15_sealOf 70 = .ok (.istore 5, 2) := by decide +kernel
theorem dX15_sealOf_72 : decode cX15_sealOf 72 = .ok (.aload_n 0, 1) := by decide +kernel
theorem dX15_sealOf_73 : decode cX15_sealOf 73 = .ok (.getfield 147, 3) := by decide +kernel
theorem dX15_sealOf_76 : decode cX15_sealOf 76 = .ok (.aload_n 0, 1) := by decide +kernel
theorem dX15_sealOf_77 : decode cX15_sealOf 77 = .ok (.getfield 97, 3) := by decide +kernel
theorem dX15_sealOf_80 : decode cX15_sealOf 80 = .ok (.getfield 409, 3) := by decide +kernel
theorem dX15_sealOf_83 : decode cX15_sealOf 83 = .ok (.getfield 295, 3) := by decide +kernel
theorem dX15_sealOf_86 : decode cX15_sealOf 86 = .ok (.aload_n 0, 1) := by decide +kernel
theorem dX15_sealOf_87 : decode cX15_sealOf 87 = .ok (.getfield 97, 3) := by decide +kernel
theorem dX15_sealOf_90 : decode cX15_sealOf 90 = .ok (.getfield 403, 3) := by decide +kernel
theorem dX15_sealOf_93 : decode cX15_sealOf 93 = .ok (.iload_n 3, 1) := by decide +kernel
theorem dX15_sealOf_94 : decode cX15_sealOf 94 = .ok (.iaload, 1) := by decide +kernel
theorem dX15_sealOf_95 : decode cX15_sealOf 95 = .ok (.iconst 1, 1) := by decide +kernel
theorem dX15_sealOf_96 : decode cX15_sealOf 96 = .ok (.iadd, 1) := by decide +kernel
theorem dX15_sealOf_97 : decode cX15_sealOf 97 = .ok (.aload_n 0, 1) := by decide +kernel
theorem dX15_sealOf_98 : decode cX15_sealOf 98 = .ok (.getfield 97, 3) := by decide +kernel
theorem dX15_sealOf_101 : decode cX15_sealOf 101 = .ok (.getfield 406, 3) := by decide +kernel
theorem dX15_sealOf_104 : decode cX15_sealOf 104 = .ok (.iload_n 3, 1) := by decide +kernel
theorem dX15_sealOf_105 : decode cX15_sealOf 105 = .ok (.iaload, 1) := by decide +kernel
theorem dX15_sealOf_106 : decode cX15_sealOf 106 = .ok (.invokevirtual 186, 3) := by decide +kernel
theorem dX15_sealOf_109 : decode cX15_sealOf 109 = .ok (.iload 5, 2) := by decide +kernel
theorem dX15_sealOf_111 : decode cX15_sealOf 111 = .ok (.ifCond .lt 11, 3) := by decide +kernel
theorem dX15_sealOf_114 : decode cX15_sealOf 114 = .ok (.iload_n 2, 1) := by decide +kernel
theorem dX15_sealOf_115 : decode cX15_sealOf 115 = .ok (.iload 5, 2) := by decide +kernel
theorem dX15_sealOf_117 : decode cX15_sealOf 117 = .ok (.if_icmp .le 5, 3) := by decide +kernel
theorem dX15_sealOf_120 : decode cX15_sealOf 120 = .ok (.iconst 3, 1) := by decide +kernel
theorem dX15_sealOf_121 : decode cX15_sealOf 121 = .ok (.ireturn, 1) := by decide +kernel
theorem dX15_sealOf_122 : decode cX15_sealOf 122 = .ok (.aload_n 0, 1) := by decide +kernel
theorem dX15_sealOf_123 : decode cX15_sealOf 123 = .ok (.getfield 144, 3) := by decide +kernel
theorem dX15_sealOf_126 : decode cX15_sealOf 126 = .ok (.aload_n 0, 1) := by decide +kernel
theorem dX15_sealOf_127 : decode cX15_sealOf 127 = .ok (.getfield 97, 3) := by decide +kernel
theorem dX15_sealOf_130 : decode cX15_sealOf 130 = .ok (.getfield 409, 3) := by decide +kernel
theorem dX15_sealOf_133 : decode cX15_sealOf 133 = .ok (.getfield 295, 3) := by decide +kernel
theorem dX15_sealOf_136 : decode cX15_sealOf 136 = .ok (.aload_n 0, 1) := by decide +kernel
theorem dX15_sealOf_137 : decode cX15_sealOf 137 = .ok (.getfield 97, 3) := by decide +kernel
theorem dX15_sealOf_140 : decode cX15_sealOf 140 = .ok (.getfield 403, 3) := by decide +kernel
theorem dX15_sealOf_143 : decode cX15_sealOf 143 = .ok (.iload 4, 2) := by decide +kernel
theorem dX15_sealOf_145 : decode cX15_sealOf 145 = .ok (.iaload, 1) := by decide +kernel
theorem dX15_sealOf_146 : decode cX15_sealOf 146 = .ok (.iconst 1, 1) := by decide +kernel
theorem dX15_sealOf_147 : decode cX15_sealOf 147 = .ok (.iadd, 1) := by decide +kernel
theorem dX15_sealOf_148 : decode cX15_sealOf 148 = .ok (.aload_n 0, 1) := by decide +kernel
theorem dX15_sealOf_149 : decode cX15_sealOf 149 = .ok (.getfield 97, 3) := by decide +kernel
theorem dX15_sealOf_152 : decode cX15_sealOf 152 = .ok (.getfield 406, 3) := by decide +kernel
theorem dX15_sealOf_155 : decode cX15_sealOf 155 = .ok (.iload 4, 2) := by decide +kernel
theorem dX15_sealOf_157 : decode cX15_sealOf 157 = .ok (.iaload, 1) := by decide +kernel
theorem dX15_sealOf_158 : decode cX15_sealOf 158 = .ok (.invokevirtual 186, 3) := by decide +kernel
theorem dX15_sealOf_161 : decode cX15_sealOf 161 = .ok (.iconst 0, 1) := by decide +kernel
theorem dX15_sealOf_162 : decode cX15_sealOf 162 = .ok (.istore 6, 2) := by decide +kernel
theorem dX15_sealOf_164 : decode cX15_sealOf 164 = .ok (.iload 6, 2) := by decide +kernel
theorem dX15_sealOf_166 : decode cX15_sealOf 166 = .ok (.bipush 12, 2) := by decide +kernel
theorem dX15_sealOf_168 : decode cX15_sealOf 168 = .ok (.if_icmp .ge 24, 3) := by decide +kernel
theorem dX15_sealOf_171 : decode cX15_sealOf 171 = .ok (.aload_n 0, 1) := by decide +kernel
theorem dX15_sealOf_172 : decode cX15_sealOf 172 = .ok (.getfield 144, 3) := by decide +kernel
theorem dX15_sealOf_175 : decode cX15_sealOf 175 = .ok (.ldc_w 514, 3) := by decide +kernel
theorem dX15_sealOf_178 : decode cX15_sealOf 178 = .ok (.iload 6, 2) := by decide +kernel
theorem dX15_sealOf_180 : decode cX15_sealOf 180 = .ok (.invokevirtual 13, 3) := by decide +kernel
theorem dX15_sealOf_183 : decode cX15_sealOf 183 = .ok (.invokevirtual 292, 3) := by decide +kernel
theorem dX15_sealOf_186 : decode cX15_sealOf 186 = .ok (.iinc 6 1, 3) := by decide +kernel
theorem dX15_sealOf_189 : decode cX15_sealOf 189 = .ok (.goto (-25), 3) := by decide +kernel
theorem dX15_sealOf_192 : decode cX15_sealOf 192 = .ok (.aload_n 0, 1) := by decide +kernel
theorem dX15_sealOf_193 : decode cX15_sealOf 193 = .ok (.getfield 144, 3) := by decide +kernel
theorem dX15_sealOf_196 : decode cX15_sealOf 196 = .ok (.aload_n 0, 1) := by decide +kernel
theorem dX15_sealOf_197 : decode cX15_sealOf 197 = .ok (.getfield 147, 3) := by decide +kernel
theorem dX15_sealOf_200 : decode cX15_sealOf 200 = .ok (.getfield 295, 3) := by decide +kernel
theorem dX15_sealOf_203 : decode cX15_sealOf 203 = .ok (.iconst 0, 1) := by decide +kernel
theorem dX15_sealOf_204 : decode cX15_sealOf 204 = .ok (.aload_n 0, 1) := by decide +kernel
theorem dX15_sealOf_205 : decode cX15_sealOf 205 = .ok (.getfield 147, 3) := by decide +kernel
theorem dX15_sealOf_208 : decode cX15_sealOf 208 = .ok (.getfield 190, 3) := by decide +kernel
theorem dX15_sealOf_211 : decode cX15_sealOf 211 = .ok (.invokevirtual 298, 3) := by decide +kernel
theorem dX15_sealOf_214 : decode cX15_sealOf 214 = .ok (.aload_n 0, 1) := by decide +kernel
theorem dX15_sealOf_215 : decode cX15_sealOf 215 = .ok (.invokevirtual 516, 3) := by decide +kernel
theorem dX15_sealOf_218 : decode cX15_sealOf 218 = .ok (.istore 6, 2) := by decide +kernel
theorem dX15_sealOf_220 : decode cX15_sealOf 220 = .ok (.iload 6, 2) := by decide +kernel
theorem dX15_sealOf_222 : decode cX15_sealOf 222 = .ok (.iconst 2, 1) := by decide +kernel
theorem dX15_sealOf_223 : decode cX15_sealOf 223 = .ok (.if_icmp .eq 6, 3) := by decide +kernel
theorem dX15_sealOf_226 : decode cX15_sealOf 226 = .ok (.iload 6, 2) := by decide +kernel
theorem dX15_sealOf_228 : decode cX15_sealOf 228 = .ok (.ireturn, 1) := by decide +kernel
theorem dX15_sealOf_229 : decode cX15_sealOf 229 = .ok (.aload_n 0, 1) := by decide +kernel
theorem dX15_sealOf_230 : decode cX15_sealOf 230 = .ok (.aload_n 0, 1) := by decide +kernel
theorem dX15_sealOf_231 : decode cX15_sealOf 231 = .ok (.getfield 494, 3) := by decide +kernel
theorem dX15_sealOf_234 : decode cX15_sealOf 234 = .ok (.invokevirtual 388, 3) := by decide +kernel
theorem dX15_sealOf_237 : decode cX15_sealOf 237 = .ok (.aload_n 0, 1) := by decide +kernel
theorem dX15_sealOf_238 : decode cX15_sealOf 238 = .ok (.getfield 97, 3) := by decide +kernel
theorem dX15_sealOf_241 : decode cX15_sealOf 241 = .ok (.ldc_w 476, 3) := by decide +kernel
theorem dX15_sealOf_244 : decode cX15_sealOf 244 = .ok (.invokestatic 478, 3) := by decide +kernel
theorem dX15_sealOf_247 : decode cX15_sealOf 247 = .ok (.istore 7, 2) := by decide +kernel
theorem dX15_sealOf_249 : decode cX15_sealOf 249 = .ok (.iload 7, 2) := by decide +kernel
theorem dX15_sealOf_251 : decode cX15_sealOf 251 = .ok (.aload_n 0, 1) := by decide +kernel
theorem dX15_sealOf_252 : decode cX15_sealOf 252 = .ok (.getfield 91, 3) := by decide +kernel
theorem dX15_sealOf_255 : decode cX15_sealOf 255 = .ok (.getfield 190, 3) := by decide +kernel
theorem dX15_sealOf_258 : decode cX15_sealOf 258 = .ok (.if_icmp .le 5, 3) := by decide +kernel
theorem dX15_sealOf_261 : decode cX15_sealOf 261 = .ok (.iconst 3, 1) := by decide +kernel
theorem dX15_sealOf_262 : decode cX15_sealOf 262 = .ok (.ireturn, 1) := by decide +kernel
theorem dX15_sealOf_263 : decode cX15_sealOf 263 = .ok (.aload_n 0, 1) := by decide +kernel
theorem dX15_sealOf_264 : decode cX15_sealOf 264 = .ok (.aload_n 0, 1) := by decide +kernel
theorem dX15_sealOf_265 : decode cX15_sealOf 265 = .ok (.getfield 91, 3) := by decide +kernel
theorem dX15_sealOf_268 : decode cX15_sealOf 268 = .ok (.getfield 295, 3) := by decide +kernel
theorem dX15_sealOf_271 : decode cX15_sealOf 271 = .ok (.iload 7, 2) := by decide +kernel
theorem dX15_sealOf_273 : decode cX15_sealOf 273 = .ok (.ifCond .lt 8, 3) := by decide +kernel
theorem dX15_sealOf_276 : decode cX15_sealOf 276 = .ok (.iload 7, 2) := by decide +kernel
theorem dX15_sealOf_278 : decode cX15_sealOf 278 = .ok (.goto 10, 3) := by decide +kernel
theorem dX15_sealOf_281 : decode cX15_sealOf 281 = .ok (.aload_n 0, 1) := by decide +kernel
theorem dX15_sealOf_282 : decode cX15_sealOf 282 = .ok (.getfield 91, 3) := by decide +kernel
theorem dX15_sealOf_285 : decode cX15_sealOf 285 = .ok (.getfield 190, 3) := by decide +kernel
theorem dX15_sealOf_288 : decode cX15_sealOf 288 = .ok (.aload_n 0, 1) := by decide +kernel
theorem dX15_sealOf_289 : decode cX15_sealOf 289 = .ok (.getfield 129, 3) := by decide +kernel
theorem dX15_sealOf_292 : decode cX15_sealOf 292 = .ok (.invokevirtual 519, 3) := by decide +kernel
theorem dX15_sealOf_295 : decode cX15_sealOf 295 = .ok (.aload_n 0, 1) := by decide +kernel
theorem dX15_sealOf_296 : decode cX15_sealOf 296 = .ok (.getfield 129, 3) := by decide +kernel
theorem dX15_sealOf_299 : decode cX15_sealOf 299 = .ok (.aload_n 0, 1) := by decide +kernel
theorem dX15_sealOf_300 : decode cX15_sealOf 300 = .ok (.getfield 132, 3) := by decide +kernel
theorem dX15_sealOf_303 : decode cX15_sealOf 303 = .ok (.invokestatic 523, 3) := by decide +kernel
theorem dX15_sealOf_306 : decode cX15_sealOf 306 = .ok (.ifCond .ne 5, 3) := by decide +kernel
theorem dX15_sealOf_309 : decode cX15_sealOf 309 = .ok (.iconst 3, 1) := by decide +kernel
theorem dX15_sealOf_310 : decode cX15_sealOf 310 = .ok (.ireturn, 1) := by decide +kernel
theorem dX15_sealOf_311 : decode cX15_sealOf 311 = .ok (.aload_n 0, 1) := by decide +kernel
theorem dX15_sealOf_312 : decode cX15_sealOf 312 = .ok (.iload_n 1, 1) := by decide +kernel
theorem dX15_sealOf_313 : decode cX15_sealOf 313 = .ok (.invokevirtual 527, 3) := by decide +kernel
theorem dX15_sealOf_316 : decode cX15_sealOf 316 = .ok (.aload_n 0, 1) := by decide +kernel
theorem dX15_sealOf_317 : decode cX15_sealOf 317 = .ok (.aload_n 0, 1) := by decide +kernel
theorem dX15_sealOf_318 : decode cX15_sealOf 318 = .ok (.getfield 91, 3) := by decide +kernel
theorem dX15_sealOf_321 : decode cX15_sealOf 321 = .ok (.getfield 295, 3) := by decide +kernel
theorem dX15_sealOf_324 : decode cX15_sealOf 324 = .ok (.aload_n 0, 1) := by decide +kernel
theorem dX15_sealOf_325 : decode cX15_sealOf 325 = .ok (.getfield 91, 3) := by decide +kernel
theorem dX15_sealOf_328 : decode cX15_sealOf 328 = .ok (.getfield 190, 3) := by decide +kernel
theorem dX15_sealOf_331 : decode cX15_sealOf 331 = .ok (.aload_n 0, 1) := by decide +kernel
theorem dX15_sealOf_332 : decode cX15_sealOf 332 = .ok (.getfield 129, 3) := by decide +kernel
theorem dX15_sealOf_335 : decode cX15_sealOf 335 = .ok (.invokevirtual 519, 3) := by decide +kernel
theorem dX15_sealOf_338 : decode cX15_sealOf 338 = .ok (.aload_n 0, 1) := by decide +kernel
theorem dX15_sealOf_339 : decode cX15_sealOf 339 = .ok (.invokevirtual 530, 3) := by decide +kernel
theorem dX15_sealOf_342 : decode cX15_sealOf 342 = .ok (.ifCond .eq 7, 3) := by decide +kernel
theorem dX15_sealOf_345 : decode cX15_sealOf 345 = .ok (.iconst 2, 1) := by decide +kernel
theorem dX15_sealOf_346 : decode cX15_sealOf 346 = .ok (.goto 4, 3) := by decide +kernel
theorem dX15_sealOf_349 : decode cX15_sealOf 349 = .ok (.iconst 3, 1) := by decide +kernel
theorem dX15_sealOf_350 : decode cX15_sealOf 350 = .ok (.ireturn, 1) := by decide +kernel
theorem dX15_sealed_0 : decode cX15_sealed 0 = .ok (.iload_n 2, 1) := by decide +kernel
theorem dX15_sealed_1 : decode cX15_sealed 1 = .ok (.ifCond .ge 5, 3) := by decide +kernel
theorem dX15_sealed_4 : decode cX15_sealed 4 = .ok (.iconst (-1), 1) := by decide +kernel
theorem dX15_sealed_5 : decode cX15_sealed 5 = .ok (.ireturn, 1) := by decide +kernel
theorem dX15_sealed_6 : decode cX15_sealed 6 = .ok (.aload_n 0, 1) := by decide +kernel
theorem dX15_sealed_7 : decode cX15_sealed 7 = .ok (.iload_n 1, 1) := by decide +kernel
theorem dX15_sealed_8 : decode cX15_sealed 8 = .ok (.invokevirtual 501, 3) := by decide +kernel
theorem dX15_sealed_11 : decode cX15_sealed 11 = .ok (.istore_n 3, 1) := by decide +kernel
theorem dX15_sealed_12 : decode cX15_sealed 12 = .ok (.iload_n 3, 1) := by decide +kernel
theorem dX15_sealed_13 : decode cX15_sealed 13 = .ok (.ifCond .ge 8, 3) := by decide +kernel
theorem dX15_sealed_16 : decode cX15_sealed 16 = .ok (.bipush (-2), 2) := by decide +kernel
theorem dX15_sealed_18 : decode cX15_sealed 18 = .ok (.goto 9, 3) := by decide +kernel
theorem dX15_sealed_21 : decode cX15_sealed 21 = .ok (.aload_n 0, 1) := by decide +kernel
theorem dX15_sealed_22 : decode cX15_sealed 22 = .ok (.iload_n 3, 1) := by decide +kernel
theorem dX15_sealed_23 : decode cX15_sealed 23 = .ok (.iload_n 2, 1) := by decide +kernel
theorem dX15_sealed_24 : decode cX15_sealed 24 = .ok (.invokevirtual 504, 3) := by decide +kernel
theorem dX15_sealed_27 : decode cX15_sealed 27 = .ok (.ireturn, 1) := by decide +kernel
theorem dX15_wish_0 : decode cX15_wish 0 = .ok (.aload_n 0, 1) := by decide +kernel
theorem dX15_wish_1 : decode cX15_wish 1 = .ok (.getfield 208, 3) := by decide +kernel
theorem dX15_wish_4 : decode cX15_wish 4 = .ok (.ifCond .eq 7, 3) := by decide +kernel
theorem dX15_wish_7 : decode cX15_wish 7 = .ok (.iload_n 1, 1) := by decide +kernel
theorem dX15_wish_8 : decode cX15_wish 8 = .ok (.ifCond .ge 5, 3) := by decide +kernel
theorem dX15_wish_11 : decode cX15_wish 11 = .ok (.iconst (-1), 1) := by decide +kernel
theorem dX15_wish_12 : decode cX15_wish 12 = .ok (.ireturn, 1) := by decide +kernel
theorem dX15_wish_13 : decode cX15_wish 13 = .ok (.aload_n 0, 1) := by decide +kernel
theorem dX15_wish_14 : decode cX15_wish 14 = .ok (.getfield 370, 3) := by decide +kernel
theorem dX15_wish_17 : decode cX15_wish 17 = .ok (.ifCond .ne 6, 3) := by decide +kernel
theorem dX15_wish_20 : decode cX15_wish 20 = .ok (.bipush (-2), 2) := by decide +kernel
theorem dX15_wish_22 : decode cX15_wish 22 = .ok (.ireturn, 1) := by decide +kernel
theorem dX15_wish_23 : decode cX15_wish 23 = .ok (.aload_n 0, 1) := by decide +kernel
theorem dX15_wish_24 : decode cX15_wish 24 = .ok (.invokevirtual 581, 3) := by decide +kernel
theorem dX15_wish_27 : decode cX15_wish 27 = .ok (.ifCond .ne 5, 3) := by decide +kernel
theorem dX15_wish_30 : decode cX15_wish 30 = .ok (.iconst 1, 1) := by decide +kernel
theorem dX15_wish_31 : decode cX15_wish 31 = .ok (.ireturn, 1) := by decide +kernel
theorem dX15_wish_32 : decode cX15_wish 32 = .ok (.iconst 1, 1) := by decide +kernel
theorem dX15_wish_33 : decode cX15_wish 33 = .ok (.istore_n 2, 1) := by decide +kernel
theorem dX15_wish_34 : decode cX15_wish 34 = .ok (.aload_n 0, 1) := by decide +kernel
theorem dX15_wish_35 : decode cX15_wish 35 = .ok (.aload_n 0, 1) := by decide +kernel
theorem dX15_wish_36 : decode cX15_wish 36 = .ok (.getfield 157, 3) := by decide +kernel
theorem dX15_wish_39 : decode cX15_wish 39 = .ok (.invokevirtual 584, 3) := by decide +kernel
theorem dX15_wish_42 : decode cX15_wish 42 = .ok (.istore_n 3, 1) := by decide +kernel
theorem dX15_wish_43 : decode cX15_wish 43 = .ok (.iload_n 3, 1) := by decide +kernel
theorem dX15_wish_44 : decode cX15_wish 44 = .ok (.iconst (-1), 1) := by decide +kernel
theorem dX15_wish_45 : decode cX15_wish 45 = .ok (.if_icmp .ne 26, 3) := by decide +kernel
theorem dX15_wish_48 : decode cX15_wish 48 = .ok (.iconst 0, 1) := by decide +kernel
theorem dX15_wish_49 : decode cX15_wish 49 = .ok (.istore_n 2, 1) := by decide +kernel
theorem dX15_wish_50 : decode cX15_wish 50 = .ok (.aload_n 0, 1) := by decide +kernel
theorem dX15_wish_51 : decode cX15_wish 51 = .ok (.aload_n 0, 1) := by decide +kernel
theorem dX15_wish_52 : decode cX15_wish 52 = .ok (.getfield 157, 3) := by decide +kernel
theorem dX15_wish_55 : decode cX15_wish 55 = .ok (.aload_n 0, 1) := by decide +kernel
theorem dX15_wish_56 : decode cX15_wish 56 = .ok (.getfield 160, 3) := by decide +kernel
theorem dX15_wish_59 : decode cX15_wish 59 = .ok (.invokevirtual 565, 3) := by decide +kernel
theorem dX15_wish_62 : decode cX15_wish 62 = .ok (.aload_n 0, 1) := by decide +kernel
theorem dX15_wish_63 : decode cX15_wish 63 = .ok (.aload_n 0, 1) := by decide +kernel
theorem dX15_wish_64 : decode cX15_wish 64 = .ok (.getfield 160, 3) := by decide +kernel
theorem dX15_wish_67 : decode cX15_wish 67 = .ok (.invokevirtual 584, 3) := by decide +kernel
theorem dX15_wish_70 : decode cX15_wish 70 = .ok (.istore_n 3, 1) := by decide +kernel
theorem dX15_wish_71 : decode cX15_wish 71 = .ok (.iload_n 3, 1) := by decide +kernel
theorem dX15_wish_72 : decode cX15_wish 72 = .ok (.ifCond .ge 15, 3) := by decide +kernel
theorem dX15_wish_75 : decode cX15_wish 75 = .ok (.iload_n 3, 1) := by decide +kernel
theorem dX15_wish_76 : decode cX15_wish 76 = .ok (.bipush (-2), 2) := by decide +kernel
theorem dX15_wish_78 : decode cX15_wish 78 = .ok (.if_icmp .ne 7, 3) := by decide +kernel
theorem dX15_wish_81 : decode cX15_wish 81 = .ok (.iconst 5, 1) := by decide +kernel
theorem dX15_wish_82 : decode cX15_wish 82 = .ok (.goto 4, 3) := by decide +kernel
theorem dX15_wish_85 : decode cX15_wish 85 = .ok (.iconst 0, 1) := by decide +kernel
theorem dX15_wish_86 : decode cX15_wish 86 = .ok (.ireturn, 1) := by decide +kernel
theorem dX15_wish_87 : decode cX15_wish 87 = .ok (.aload_n 0, 1) := by decide +kernel
theorem dX15_wish_88 : decode cX15_wish 88 = .ok (.getfield 51, 3) := by decide +kernel
theorem dX15_wish_91 : decode cX15_wish 91 = .ok (.iload_n 3, 1) := by decide +kernel
theorem dX15_wish_92 : decode cX15_wish 92 = .ok (.aaload, 1) := by decide +kernel
theorem dX15_wish_93 : decode cX15_wish 93 = .ok (.getfield 295, 3) := by decide +kernel
theorem dX15_wish_96 : decode cX15_wish 96 = .ok (.iconst 0, 1) := by decide +kernel
theorem dX15_wish_97 : decode cX15_wish 97 = .ok (.aload_n 0, 1) := by decide +kernel
theorem dX15_wish_98 : decode cX15_wish 98 = .ok (.getfield 51, 3) := by decide +kernel
theorem dX15_wish_101 : decode cX15_wish 101 = .ok (.iload_n 3, 1) := by decide +kernel
theorem dX15_wish_102 : decode cX15_wish 102 = .ok (.aaload, 1) := by decide +kernel
theorem dX15_wish_103 : decode cX15_wish 103 = .ok (.getfield 190, 3) := by decide +kernel
theorem dX15_wish_106 : decode cX15_wish 106 = .ok (.aload_n 0, 1) := by decide +kernel
theorem dX15_wish_107 : decode cX15_wish 107 = .ok (.getfield 104, 3) := by decide +kernel
theorem dX15_wish_110 : decode cX15_wish 110 = .ok (.getfield 409, 3) := by decide +kernel
theorem dX15_wish_113 : decode cX15_wish 113 = .ok (.invokestatic 507, 3) := by decide +kernel
theorem dX15_wish_116 : decode cX15_wish 116 = .ok (.aload_n 0, 1) := by decide +kernel
theorem dX15_wish_117 : decode cX15_wish 117 = .ok (.getfield 104, 3) := by decide +kernel
theorem dX15_wish_120 : decode cX15_wish 120 = .ok (.bipush 8, 2) := by decide +kernel
theorem dX15_wish_122 : decode cX15_wish 122 = .ok (.invokevirtual 441, 3) := by decide +kernel
theorem dX15_wish_125 : decode cX15_wish 125 = .ok (.ifCond .ne 6, 3) := by decide +kernel
theorem dX15_wish_128 : decode cX15_wish 128 = .ok (.bipush 6, 2) := by decide +kernel
theorem dX15_wish_130 : decode cX15_wish 130 = .ok (.ireturn, 1) := by decide +kernel
theorem dX15_wish_131 : decode cX15_wish 131 = .ok (.aload_n 0, 1) := by decide +kernel
theorem dX15_wish_132 : decode cX15_wish 132 = .ok (.getfield 104, 3) := by decide +kernel
theorem dX15_wish_135 : decode cX15_wish 135 = .ok (.ldc_w 533, 3) := by decide +kernel
theorem dX15_wish_138 : decode cX15_wish 138 = .ok (.invokestatic 587, 3) := by decide +kernel
theorem dX15_wish_141 : decode cX15_wish 141 = .ok (.istore 4, 2) := by decide +kernel
theorem dX15_wish_143 : decode cX15_wish 143 = .ok (.iload 4, 2) := by decide +kernel
theorem dX15_wish_145 : decode cX15_wish 145 = .ok (.bipush 6, 2) := by decide +kernel
theorem dX15_wish_147 : decode cX15_wish 147 = .ok (.if_icmp .ne 6, 3) := by decide +kernel
theorem dX15_wish_150 : decode cX15_wish 150 = .ok (.bipush 6, 2) := by decide +kernel
theorem dX15_wish_152 : decode cX15_wish 152 = .ok (.ireturn, 1) := by decide +kernel
theorem dX15_wish_153 : decode cX15_wish 153 = .ok (.iload_n 2, 1) := by decide +kernel
theorem dX15_wish_154 : decode cX15_wish 154 = .ok (.ifCond .ne 38, 3) := by decide +kernel
theorem dX15_wish_157 : decode cX15_wish 157 = .ok (.aload_n 0, 1) := by decide +kernel
theorem dX15_wish_158 : decode cX15_wish 158 = .ok (.getfield 104, 3) := by decide +kernel
theorem dX15_wish_161 : decode cX15_wish 161 = .ok (.ldc_w 590, 3) := by decide +kernel
theorem dX15_wish_164 : decode cX15_wish 164 = .ok (.invokevirtual 399, 3) := by decide +kernel
theorem dX15_wish_167 : decode cX15_wish 167 = .ok (.ifCond .lt 25, 3) := by decide +kernel
theorem dX15_wish_170 : decode cX15_wish 170 = .ok (.aload_n 0, 1) := by decide +kernel
theorem dX15_wish_171 : decode cX15_wish 171 = .ok (.getfield 104, 3) := by decide +kernel
theorem dX15_wish_174 : decode cX15_wish 174 = .ok (.ldc_w 590, 3) := by decide +kernel
theorem dX15_wish_177 : decode cX15_wish 177 = .ok (.invokestatic 587, 3) := by decide +kernel
theorem dX15_wish_180 : decode cX15_wish 180 = .ok (.istore 4, 2) := by decide +kernel
theorem dX15_wish_182 : decode cX15_wish 182 = .ok (.iload 4, 2) := by decide +kernel
theorem dX15_wish_184 : decode cX15_wish 184 = .ok (.bipush 6, 2) := by decide +kernel
theorem dX15_wish_186 : decode cX15_wish 186 = .ok (.if_icmp .ne 6, 3) := by decide +kernel
theorem dX15_wish_189 : decode cX15_wish 189 = .ok (.bipush 6, 2) := by decide +kernel
theorem dX15_wish_191 : decode cX15_wish 191 = .ok (.ireturn, 1) := by decide +kernel
theorem dX15_wish_192 : decode cX15_wish 192 = .ok (.aload_n 0, 1) := by decide +kernel
theorem dX15_wish_193 : decode cX15_wish 193 = .ok (.invokevirtual 592, 3) := by decide +kernel
theorem dX15_wish_196 : decode cX15_wish 196 = .ok (.iconst 2, 1) := by decide +kernel
theorem dX15_wish_197 : decode cX15_wish 197 = .ok (.if_icmp .ne 33, 3) := by decide +kernel
theorem dX15_wish_200 : decode cX15_wish 200 = .ok (.aload_n 0, 1) := by decide +kernel
theorem dX15_wish_201 : decode cX15_wish 201 = .ok (.aload_n 0, 1) := by decide +kernel
theorem dX15_wish_202 : decode cX15_wish 202 = .ok (.getfield 61, 3) := by decide +kernel
theorem dX15_wish_205 : decode cX15_wish 205 = .ok (.aload_n 0, 1) := by decide +kernel
theorem dX15_wish_206 : decode cX15_wish 206 = .ok (.getfield 157, 3) := by decide +kernel
theorem dX15_wish_209 : decode cX15_wish 209 = .ok (.aload_n 0, 1) := by decide +kernel
theorem dX15_wish_210 : decode cX15_wish 210 = .ok (.getfield 104, 3) := by decide +kernel
theorem dX15_wish_213 : decode cX15_wish 213 = .ok (.ldc_w 595, 3) := by decide +kernel
theorem dX15_wish_216 : decode cX15_wish 216 = .ok (.ldc_w 460, 3) := by decide +kernel
theorem dX15_wish_219 : decode cX15_wish 219 = .ok (.invokevirtual 448, 3) := by decide +kernel
theorem dX15_wish_222 : decode cX15_wish 222 = .ok (.invokevirtual 597, 3) := by decide +kernel
theorem dX15_wish_225 : decode cX15_wish 225 = .ok (.ifCond .eq 5, 3) := by decide +kernel
theorem dX15_wish_228 : decode cX15_wish 228 = .ok (.iconst 2, 1) := by decide +kernel
theorem dX15_wish_229 : decode cX15_wish 229 = .ok (.ireturn, 1) := by decide +kernel
theorem dX15_wish_230 : decode cX15_wish 230 = .ok (.iconst 0, 1) := by decide +kernel
theorem dX15_wish_231 : decode cX15_wish 231 = .ok (.istore 5, 2) := by decide +kernel
theorem dX15_wish_233 : decode cX15_wish 233 = .ok (.iload 5, 2) := by decide +kernel
theorem dX15_wish_235 : decode cX15_wish 235 = .ok (.aload_n 0, 1) := by decide +kernel
theorem dX15_wish_236 : decode cX15_wish 236 = .ok (.getfield 355, 3) := by decide +kernel
theorem dX15_wish_239 : decode cX15_wish 239 = .ok (.if_icmp .ge 65, 3) := by decide +kernel
theorem dX15_wish_242 : decode cX15_wish 242 = .ok (.aload_n 0, 1) := by decide +kernel
theorem dX15_wish_243 : decode cX15_wish 243 = .ok (.iload 5, 2) := by decide +kernel
theorem dX15_wish_245 : decode cX15_wish 245 = .ok (.ldc_w 376, 3) := by decide +kernel
theorem dX15_wish_248 : decode cX15_wish 248 = .ok (.invokevirtual 378, 3) := by decide +kernel
theorem dX15_wish_251 : decode cX15_wish 251 = .ok (.ifCond .eq 47, 3) := by decide +kernel
theorem dX15_wish_254 : decode cX15_wish 254 = .ok (.aload_n 0, 1) := by decide +kernel
theorem dX15_wish_255 : decode cX15_wish 255 = .ok (.iload 5, 2) := by decide +kernel
theorem dX15_wish_257 : decode cX15_wish 257 = .ok (.iload_n 1, 1) := by decide +kernel
theorem dX15_wish_258 : decode cX15_wish 258 = .ok (.invokevirtual 504, 3) := by decide +kernel
theorem dX15_wish_261 : decode cX15_wish 261 = .ok (.iconst 2, 1) := by decide +kernel
theorem dX15_wish_262 : decode cX15_wish 262 = .ok (.if_icmp .eq 6, 3) := by decide +kernel
theorem dX15_wish_265 : decode cX15_wish 265 = .ok (.goto 33, 3) := by decide +kernel
theorem dX15_wish_268 : decode cX15_wish 268 = .ok (.aload_n 0, 1) := by decide +kernel
theorem dX15_wish_269 : decode cX15_wish 269 = .ok (.aload_n 0, 1) := by decide +kernel
theorem dX15_wish_270 : decode cX15_wish 270 = .ok (.getfield 147, 3) := by decide +kernel
theorem dX15_wish_273 : decode cX15_wish 273 = .ok (.aload_n 0, 1) := by decide +kernel
theorem dX15_wish_274 : decode cX15_wish 274 = .ok (.getfield 157, 3) := by decide +kernel
theorem dX15_wish_277 : decode cX15_wish 277 = .ok (.aload_n 0, 1) := by decide +kernel
theorem dX15_wish_278 : decode cX15_wish 278 = .ok (.getfield 104, 3) := by decide +kernel
theorem dX15_wish_281 : decode cX15_wish 281 = .ok (.ldc_w 601, 3) := by decide +kernel
theorem dX15_wish_284 : decode cX15_wish 284 = .ok (.ldc_w 460, 3) := by decide +kernel
theorem dX15_wish_287 : decode cX15_wish 287 = .ok (.invokevirtual 448, 3) := by decide +kernel
theorem dX15_wish_290 : decode cX15_wish 290 = .ok (.invokevirtual 597, 3) := by decide +kernel
theorem dX15_wish_293 : decode cX15_wish 293 = .ok (.ifCond .eq 5, 3) := by decide +kernel
theorem dX15_wish_296 : decode cX15_wish 296 = .ok (.iconst 2, 1) := by decide +kernel
theorem dX15_wish_297 : decode cX15_wish 297 = .ok (.ireturn, 1) := by decide +kernel
theorem dX15_wish_298 : decode cX15_wish 298 = .ok (.iinc 5 1, 3) := by decide +kernel
theorem dX15_wish_301 : decode cX15_wish 301 = .ok (.goto (-68), 3) := by decide +kernel
theorem dX15_wish_304 : decode cX15_wish 304 = .ok (.iload 4, 2) := by decide +kernel
theorem dX15_wish_306 : decode cX15_wish 306 = .ok (.ireturn, 1) := by decide +kernel
theorem kt_1013 : Cond.code yX15_isWell cX15_isWell 1 (some .boolean) ∈ tb := tb_at (i := 1705) (by decide +kernel) (by decide +kernel)
theorem kt_1014 : Cond.methodLink RX15 511 yX15_isWell ∈ tb := tb_at (i := 1702) (by decide +kernel) (by decide +kernel)
theorem kt_1015 : Cond.instanceMethod yX15_isWell ∈ tb := tb_at (i := 1704) (by decide +kernel) (by decide +kernel)
theorem kt_1016 : Cond.selects RX15 yX15_isWell yX15_isWell ∈ tb := tb_at (i := 63) (by decide +kernel) (by decide +kernel)
theorem kt_1017 : Cond.fieldLink RX15 147 "PostGateModel" "sealDomain" "LPostGateModel$Text;" ∈ tb := tb_at (i := 1339) (by decide +kernel) (by decide +kernel)
theorem kt_1018 : Cond.code yX15_keyOf cX15_keyOf 3 (some .int) ∈ tb := tb_at (i := 1766) (by decide +kernel) (by decide +kernel)
theorem kt_1019 : Cond.methodLink RX15 516 yX15_keyOf ∈ tb := tb_at (i := 1763) (by decide +kernel) (by decide +kernel)
theorem kt_1020 : Cond.instanceMethod yX15_keyOf ∈ tb := tb_at (i := 1765) (by decide +kernel) (by decide +kernel)
theorem kt_1021 : Cond.selects RX15 yX15_keyOf yX15_keyOf ∈ tb := tb_at (i := 68) (by decide +kernel) (by decide +kernel)
theorem kt_1022 : Cond.code yX15_digest cX15_digest 4 none ∈ tb := tb_at (i := 1774) (by decide +kernel) (by decide +kernel)
theorem kt_1023 : Cond.methodLink RX15 519 yX15_digest ∈ tb := tb_at (i := 1771) (by decide +kernel) (by decide +kernel)
theorem kt_1024 : Cond.instanceMethod yX15_digest ∈ tb := tb_at (i := 1773) (by decide +kernel) (by decide +kernel)
theorem kt_1025 : Cond.selects RX15 yX15_digest yX15_digest ∈ tb := tb_at (i := 69) (by decide +kernel) (by decide +kernel)
theorem kt_1026 : Cond.code yX15_isAll cX15_isAll 4 (some .boolean) ∈ tb := tb_at (i := 1806) (by decide +kernel) (by decide +kernel)
theorem kt_1027 : Cond.methodLink RX15 523 yX15_isAll ∈ tb := tb_at (i := 1804) (by decide +kernel) (by decide +kernel)
theorem kt_1028 : Cond.static yX15_isAll ∈ tb := tb_at (i := 1805) (by decide +kernel) (by decide +kernel)
theorem kt_1029 : Cond.code yX15_fieldsPlain cX15_fieldsPlain 11 none ∈ tb := tb_at (i := 1810) (by decide +kernel) (by decide +kernel)
theorem kt_1030 : Cond.methodLink RX15 527 yX15_fieldsPlain ∈ tb := tb_at (i := 1807) (by decide +kernel) (by decide +kernel)
theorem kt_1031 : Cond.instanceMethod yX15_fieldsPlain ∈ tb := tb_at (i := 1809) (by decide +kernel) (by decide +kernel)
theorem kt_1032 : Cond.selects RX15 yX15_fieldsPlain yX15_fieldsPlain ∈ tb := tb_at (i := 71) (by decide +kernel) (by decide +kernel)
theorem kt_1033 : Cond.code yX15_isPower cX15_isPower 3 (some .boolean) ∈ tb := tb_at (i := 1821) (by decide +kernel) (by decide +kernel)
theorem kt_1034 : Cond.methodLink RX15 530 yX15_isPower ∈ tb := tb_at (i := 1818) (by decide +kernel) (by decide +kernel)
theorem kt_1035 : Cond.instanceMethod yX15_isPower ∈ tb := tb_at (i := 1820) (by decide +kernel) (by decide +kernel)
theorem kt_1036 : Cond.selects RX15 yX15_isPower yX15_isPower ∈ tb := tb_at (i := 73) (by decide +kernel) (by decide +kernel)
theorem kt_1037 : Cond.code yX15_sealAt cX15_sealAt 4 (some .int) ∈ tb := tb_at (i := 1694) (by decide +kernel) (by decide +kernel)
theorem kt_1038 : Cond.methodLink RX15 501 yX15_sealAt ∈ tb := tb_at (i := 1691) (by decide +kernel) (by decide +kernel)
theorem kt_1039 : Cond.instanceMethod yX15_sealAt ∈ tb := tb_at (i := 1693) (by decide +kernel) (by decide +kernel)
theorem kt_1040 : Cond.selects RX15 yX15_sealAt yX15_sealAt ∈ tb := tb_at (i := 61) (by decide +kernel) (by decide +kernel)
theorem kt_1041 : Cond.code yX15_sealOf cX15_sealOf 8 (some .int) ∈ tb := tb_at (i := 1698) (by decide +kernel) (by decide +kernel)
theorem kt_1042 : Cond.methodLink RX15 504 yX15_sealOf ∈ tb := tb_at (i := 1695) (by decide +kernel) (by decide +kernel)
theorem kt_1043 : Cond.instanceMethod yX15_sealOf ∈ tb := tb_at (i := 1697) (by decide +kernel) (by decide +kernel)
theorem kt_1044 : Cond.selects RX15 yX15_sealOf yX15_sealOf ∈ tb := tb_at (i := 62) (by decide +kernel) (by decide +kernel)
theorem kt_1045 : Cond.fieldLink RX15 157 "PostGateModel" "asked" "LPostGateModel$Text;" ∈ tb := tb_at (i := 1345) (by decide +kernel) (by decide +kernel)
theorem kt_1046 : Cond.code yX14_isName cX14_isName 1 (some .boolean) ∈ tb := tb_at (i := 1872) (by decide +kernel) (by decide +kernel)
theorem kt_1047 : Cond.methodLink RX15 579 yX14_isName ∈ tb := tb_at (i := 1869) (by decide +kernel) (by decide +kernel)
theorem kt_1048 : Cond.instanceMethod yX14_isName ∈ tb := tb_at (i := 1870) (by decide +kernel) (by decide +kernel)
theorem kt_1049 : Cond.selects RX14 yX14_isName yX14_isName ∈ tb := tb_at (i := 1871) (by decide +kernel) (by decide +kernel)
theorem kt_1050 : Cond.code yX15_isSeen cX15_isSeen 4 (some .boolean) ∈ tb := tb_at (i := 1868) (by decide +kernel) (by decide +kernel)
theorem kt_1051 : Cond.methodLink RX15 581 yX15_isSeen ∈ tb := tb_at (i := 1865) (by decide +kernel) (by decide +kernel)
theorem kt_1052 : Cond.instanceMethod yX15_isSeen ∈ tb := tb_at (i := 1867) (by decide +kernel) (by decide +kernel)
theorem kt_1053 : Cond.selects RX15 yX15_isSeen yX15_isSeen ∈ tb := tb_at (i := 77) (by decide +kernel) (by decide +kernel)
theorem kt_1054 : Cond.code yX15_wantedOf cX15_wantedOf 5 (some .int) ∈ tb := tb_at (i := 1877) (by decide +kernel) (by decide +kernel)
theorem kt_1055 : Cond.methodLink RX15 584 yX15_wantedOf ∈ tb := tb_at (i := 1874) (by decide +kernel) (by decide +kernel)
theorem kt_1056 : Cond.instanceMethod yX15_wantedOf ∈ tb := tb_at (i := 1876) (by decide +kernel) (by decide +kernel)
theorem kt_1057 : Cond.selects RX15 yX15_wantedOf yX15_wantedOf ∈ tb := tb_at (i := 78) (by decide +kernel) (by decide +kernel)
theorem kt_1058 : Cond.fieldLink RX15 104 "PostGateModel" "wish" "LPostGateModel$Tags;" ∈ tb := tb_at (i := 1326) (by decide +kernel) (by decide +kernel)
theorem kt_1059 : Cond.code yX15_wanted cX15_wanted 2 (some .int) ∈ tb := tb_at (i := 1882) (by decide +kernel) (by decide +kernel)
theorem kt_1060 : Cond.methodLink RX15 587 yX15_wanted ∈ tb := tb_at (i := 1880) (by decide +kernel) (by decide +kernel)
theorem kt_1061 : Cond.static yX15_wanted ∈ tb := tb_at (i := 1881) (by decide +kernel) (by decide +kernel)
theorem kt_1062 : Cond.code yX15_permission cX15_permission 1 (some .int) ∈ tb := tb_at (i := 1521) (by decide +kernel) (by decide +kernel)
theorem kt_1063 : Cond.methodLink RX15 592 yX15_permission ∈ tb := tb_at (i := 1887) (by decide +kernel) (by decide +kernel)
theorem kt_1064 : Cond.instanceMethod yX15_permission ∈ tb := tb_at (i := 1519) (by decide +kernel) (by decide +kernel)
theorem kt_1065 : Cond.selects RX15 yX15_permission yX15_permission ∈ tb := tb_at (i := 1520) (by decide +kernel) (by decide +kernel)
theorem kt_1066 : Cond.code yX15_isAligned cX15_isAligned 4 (some .boolean) ∈ tb := tb_at (i := 1892) (by decide +kernel) (by decide +kernel)
theorem kt_1067 : Cond.methodLink RX15 597 yX15_isAligned ∈ tb := tb_at (i := 1889) (by decide +kernel) (by decide +kernel)
theorem kt_1068 : Cond.instanceMethod yX15_isAligned ∈ tb := tb_at (i := 1891) (by decide +kernel) (by decide +kernel)
theorem kt_1069 : Cond.selects RX15 yX15_isAligned yX15_isAligned ∈ tb := tb_at (i := 79) (by decide +kernel) (by decide +kernel)
set_option maxHeartbeats 4000000 in
set_option maxRecDepth 100000 in
theorem s_X15_sealOf (l : Launch) (dC : Nat → ClassId) (dI : Nat → Nat → Nat) (cs : Nat → ClassId) (ty : TyM) (gm : Nat → Nat → Nat) (L : List Nat) (sz : Nat) (F : Nat → va_E) (h0 : Nat) (ρ : Nat) (ta : Nat) (ou : Nat) (so : Nat) (ad : Nat) (na : Nat) (va : Nat) (lc : Nat) (dm : Nat) (tg : Nat) (pe : Nat) (ml : Nat) (bg : Nat) (co : Nat) (sp : Nat) (nb0 : Nat) (nb1 : Nat) (nb2 : Nat) (pl : Nat) (se : Nat) (ke : Nat) (wi : Nat) (hs : Nat) (mo : Nat) (po : Nat) (nu : Nat) (pr : Nat) (sq : Nat) (xa : Nat) (sa : Nat) (n64 : Nat) (m64 : Nat) (ex : Nat) (wh : Nat) (sd : Nat) (tk : Nat) (hd : Nat) (ak : Nat) (ho : Nat) (ot : Nat) (sx : Nat) (s0 : Nat) (s1 : Nat) (s2 : Nat) (nf : Nat) (bd : Nat) (mm : Nat) (zt : Nat) (sb : Nat) (rl : Nat) (jf : Nat) (x2 : Int32) (hW : WTm ty gm L) (hL_h0 : h0 ∈ L) (hT_h0 : ty h0 = (15, ρ, [ta, ou, so, ad, na, va, lc, dm, tg, pe, ml, bg, co, sp, nb0, nb1, nb2, pl, se, ke, wi, hs, mo, po, nu, pr, sq, xa, sa, n64, m64, ex, wh, sd, tk, hd, ak, ho, ot, sx, s0, s1, s2, nf, bd, mm, zt])) (hL_sx : sx ∈ L) (hT_sx : ty sx = (14, ρ + 12, [sb, 3000])) (hL_pl : pl ∈ L) (hT_pl : ty pl = (14, ρ + 10, [rl, 6000])) (hjf : jf < nf) : Met l yX15_sealOf (.code yX15_sealOf cX15_sealOf 8 (some .int) :: tb) ({ frames := 8, cells := 0, slots := 0, locals := 186 }) (va_Pc [.ref h0, .int (nI jf), .int x2] (PTEm (dC, dI) cs ty gm L F sz [])) (va_Qi (fun (r : Int32) (_ : Unit) => True) (fun _ T9 => ∃ F2 : Nat → va_E, QTm (dC, dI) cs ty gm L [ρ, ρ + 10, ρ + 11, ρ + 12, ρ + 13, ρ + 14, ρ + 17, ρ + 18, ρ + 19, ρ + 20, ρ + 21, ρ + 22, ρ + 23, ρ + 24, ρ + 25, ρ + 26] F F2 (va_A (va_pl L F) sz) T9) (va_A (va_pl L F) sz)) 0 0 (va_A (va_pl L F) sz) := by
  refine Met.ofW (cc := cX15_sealOf) (maxL := 8) (ret := (some .int)) (by decide) rfl ?_
  intro p e s m args below meth c s₁ B hml hv
  obtain ⟨rfl, ⟨hsz, hP, hK, hD0, hE, hO⟩, hG, hX⟩ := hv
  have hx := B.exec
  have hb := B.bytes
  have hr := B.returns
  have hts : ∀ w ∈ tb, w.before _ s = true := fun w h => atoms_spec (ws := .code yX15_sealOf cX15_sealOf 8 (some .int) :: tb) B.pre w (List.mem_cons_of_mem _ h)
  have hown : s.vm.findClass RX15 = some m.cls := findClass_of_methodNamed B.named
  have hlocks := B.notSynchronized
  subst hsz
  have hD := hD0.self (sz := s.heap.size)
  generalize hAe : va_A (va_pl L F) s.heap.size = A at hD hG hX ⊢
  have hA : ∀ q : Nat, s.heap.size ≤ q → A q := fun q h => by rw [← hAe]; exact Or.inr h
  have hS : va_S A s.heap s.heap [] := va_S.rf
  have hR : FR ty [ρ, ρ + 10, ρ + 11, ρ + 12, ρ + 13, ρ + 14, ρ + 17, ρ + 18, ρ + 19, ρ + 20, ρ + 21, ρ + 22, ρ + 23, ρ + 24, ρ + 25, ρ + 26] F F := FR.refl
  have hl := lv_entry ([.ref h0, .int (nI jf), .int x2]) (n := 8) (Nat.le_of_ble_eq_true rfl)
  rw [lg_entry_eq]
  generalize (lg_sl ([.ref h0, .int (nI jf), .int x2]) ++ List.replicate (8 - (lg_sl ([.ref h0, .int (nI jf), .int x2])).length) Slot.unset).toArray = ls at hl ⊢
  have hl : lv_has ls 8 [(0, .ref h0), (1, .int (nI jf)), (2, .int x2)] := hl
  obtain ⟨hi_1, ht_2, hi_3, ht_4, hi_5, ht_6, hi_7, ht_8, hi_9, ht_10, hi_11, ht_12, hi_13, ⟨r_14, ht_15⟩, hi_16, ⟨r_17, ht_18⟩, hi_19, ht_20, hi_21, ⟨r_22, ht_23⟩, hi_24, ht_25, hi_26, ht_27, hi_28, ht_29, hi_30, ht_31, hi_32, ht_33, hi_34, ht_35, hi_36, ht_37, _, _, hi_38, ht_39, hi_40, ⟨x_41, y0_42, y1_43, y2_44, ht_45⟩, hi_46, ⟨x_47, y0_48, y1_49, y2_50, ht_51⟩, hi_52, ⟨x_53, y_54, w_55, u_56, bl_57, ht_58⟩, hi_59, ht_60, hi_61, ht_62, hi_63, ht_64, hi_65, ht_66, hi_67, ht_68, hi_69, ht_70, hi_71, ht_72, hi_73, ht_74, hi_75, ht_76, hi_77, ht_78, hi_79, ⟨r_80, ht_81⟩, hi_82, ⟨r_83, ht_84⟩, hi_85, ht_86, hi_87, ht_88, hi_89, ⟨r_90, ht_91⟩, hi_92, ⟨r_93, ht_94⟩, hi_95, ⟨r_96, ht_97⟩, hq_98, hq_99, hq_100, hq_101, hq_102, hgO, hgA, hgB⟩ := hW.mod hL_h0 hT_h0
  have hoj := hgO jf hjf
  obtain ⟨_, hi_103, hi_104, hi_105, _, ht_106, ht_107, ht_108, hq_109, hq_110⟩ := hW.tags hi_38 ht_39
  obtain ⟨hi_111, ht_112, hq_113⟩ := hW.txt hL_sx hT_sx
  obtain ⟨hi_114, ht_115, hq_116⟩ := hW.txt hL_pl hT_pl
  obtain ⟨hi_117, ht_118, hq_119⟩ := hW.txt hi_79 ht_81
  obtain ⟨hi_120, ht_121, hq_122⟩ := hW.txt hi_82 ht_84
  refine lv_aload_n hx hb dX15_sealOf_0 rfl (lv_at hl 0 rfl) ?_
  obtain ⟨zo_123, ze_124, v11_125, v12_126, v14_127, v15_128, v17_129, v18_130, v19_131, v20_132, v21_133, v22_134, v33_135, v52_136, v53_137, v54_138, hF_139, hq_140, hq_141, hq_142, hq_143⟩ := hO.mod hL_h0 hT_h0
  refine pg_get (ci := 15) (v := .ref ml) (C := RX15) (T := TX15) (N := 59) hx hb hts it_15 hown hK hP hL_h0 hF_139 rfl 23 (by decide) (hts _ kt_902) (fun _ h9 => h9) rfl dX15_sealOf_1 ?_
  refine lv_aload_n hx hb dX15_sealOf_4 rfl (lv_at hl 0 rfl) ?_
  refine pg_get (ci := 15) (v := .ref co) (C := RX15) (T := TX15) (N := 59) hx hb hts it_15 hown hK hP hL_h0 hF_139 rfl 25 (by decide) (hts _ kt_904) (fun _ h9 => h9) rfl dX15_sealOf_5 ?_
  refine lv_iload_n hx hb dX15_sealOf_8 rfl (lv_at hl 1 rfl) ?_
  obtain ⟨f_144, hF_145, hq_146⟩ := hO.pos hi_28 ht_29
  refine pg_iald hx hb hK hP hi_28 0 hF_145 rfl (vp_in_nI (by omega) (by omega)) dX15_sealOf_9 ?_
  refine lv_topi (fun x_147 ex_147 => ?_)
  obtain rfl : x_147 = (nI (gm 1 jf)) := ex_147.trans (by rw [show ((nI jf) : Int32) = nI jf from rfl, nI_clamp (by omega)]; exact hq_146 jf (by omega))
  have hgbx_147 := hgB 1 jf
  refine lv_iconst (v := 1) hx hb dX15_sealOf_10 (by decide) ?_
  refine lv_iadd hx hb dX15_sealOf_11 ?_
  refine lv_topi (fun x_148 ex_148 => ?_)
  obtain rfl : x_148 = (nI ((gm 1 jf) + 1)) := ex_148.trans (nI_add (gm 1 jf) 1)
  refine lv_aload_n hx hb dX15_sealOf_12 rfl (lv_at hl 0 rfl) ?_
  refine pg_get (ci := 15) (v := .ref sp) (C := RX15) (T := TX15) (N := 59) hx hb hts it_15 hown hK hP hL_h0 hF_139 rfl 26 (by decide) (hts _ kt_905) (fun _ h9 => h9) rfl dX15_sealOf_13 ?_
  refine lv_iload_n hx hb dX15_sealOf_16 rfl (lv_at hl 1 rfl) ?_
  obtain ⟨f_149, hF_150, hq_151⟩ := hO.pos hi_30 ht_31
  refine pg_iald hx hb hK hP hi_30 0 hF_150 rfl (vp_in_nI (by omega) (by omega)) dX15_sealOf_17 ?_
  refine lv_topi (fun x_152 ex_152 => ?_)
  obtain rfl : x_152 = (nI (gm 2 jf)) := ex_152.trans (by rw [show ((nI jf) : Int32) = nI jf from rfl, nI_clamp (by omega)]; exact hq_151 jf (by omega))
  have hgbx_152 := hgB 2 jf
  refine lv_aload_n hx hb dX15_sealOf_18 rfl (lv_at hl 0 rfl) ?_
  refine pg_get (ci := 15) (v := .ref se) (C := RX15) (T := TX15) (N := 59) hx hb hts it_15 hown hK hP hL_h0 hF_139 rfl 35 (by decide) (hts _ kt_862) (fun _ h9 => h9) rfl dX15_sealOf_19 ?_
  obtain ⟨z_153, hF_154, hq_155⟩ := hO.tags hi_38 ht_39
  refine pg_get (ci := 13) (v := .ref sx) (C := RX13) (T := TX13) (N := 5) hx hb hts it_13 hown hK hP hi_38 hF_154 rfl 0 (by decide) (hts _ kt_857) (fun _ h9 => h9) rfl dX15_sealOf_22 ?_
  obtain ⟨hq_156, hq_157⟩ := hW.octs hi_24 ht_25
  have hFc := pg_free hD hS hA
  refine va_callv (va_runS (As := [.ref ml, .int (nI ((gm 1 jf) + 1)), .int (nI (gm 2 jf)), .ref sx]) (rest := []) ⟨hx, hb, hml, hown, hts⟩ (s_X15_withoutWhite l dC dI cs ty gm L s.heap.size F ml (ρ + 8) 3000 sx (ρ + 12) sb 3000 ((gm 1 jf) + 1) (gm 2 jf) hW hi_24 ht_25 hL_sx hT_sx (by first | omega | assumption) (by first | omega | assumption) (by first | omega | assumption)) ⟨callB_of 4 hts (gi kt_955) rfl rfl rfl (hts _ kt_669) (hts _ kt_956) (by decide +kernel) ⟨Nat.le_of_ble_eq_true rfl, Nat.le_of_ble_eq_true rfl⟩, (hts _ kt_957)⟩ ⟨fun a U g mk q => ⟨q.1, PTm.calling q.2⟩, fun U hU hWm => ⟨rfl, PTm.mk hU hWm hP hK hD hE hO⟩⟩ rfl rfl hl.1 rfl (lv_room (Nat.le_of_ble_eq_true rfl)) dX15_sealOf_25 ⟨by show _ + 0 ≤ 0; omega, by show _ + 0 ≤ 0; omega⟩) hS (fun q _ h => hFc q h) hFc (fun u t H1 locs ht hvm hw hB hz1 hk1 hS => ?_)
  obtain ⟨F_159, z2_160, hB1, hq_161, hq_162⟩ := hB
  obtain ⟨hP, hD, hO, hR⟩ := QTm.back hB1 ht hFc hR (fun q h => by simp only [List.mem_cons, List.not_mem_nil, or_false] at h ⊢; omega)
  have hF_163 : F_159 h0 = .inr (15, (.ref ta) :: (.int (nI zt)) :: (.int (nI zo_123)) :: (.int (nI ze_124)) :: (.ref ou) :: (.ref so) :: (.ref ad) :: (.ref na) :: (.ref va) :: (.ref lc) :: (.ref dm) :: (.int v11_125) :: (.int v12_126) :: (.ref tg) :: (.int v14_127) :: (.int v15_128) :: (.ref pe) :: (.int v17_129) :: (.int v18_130) :: (.int v19_131) :: (.int v20_132) :: (.int v21_133) :: (.int v22_134) :: (.ref ml) :: (.ref bg) :: (.ref co) :: (.ref sp) :: (.ref nb0) :: (.ref nb1) :: (.ref nb2) :: (.int (nI nf)) :: (.int (nI bd)) :: (.int (nI mm)) :: (.int v33_135) :: (.ref pl) :: (.ref se) :: (.ref ke) :: (.ref wi) :: (.ref hs) :: (.ref mo) :: (.ref po) :: (.ref nu) :: (.ref pr) :: (.ref sq) :: (.ref xa) :: (.ref sa) :: (.ref n64) :: (.ref m64) :: (.ref ex) :: (.ref wh) :: (.ref sd) :: (.ref tk) :: (.int v52_136) :: (.int v53_137) :: (.int v54_138) :: (.ref hd) :: (.ref ak) :: (.ref ho) :: (.ref ot) :: []) := (hB1.2.2.2 h0 (by rw [hT_h0]; simp)).trans hF_139
  have hF_164 : F_159 co = .inl (cs 16, 21, .inl f_144) := (hB1.2.2.2 co (by rw [ht_29]; simp)).trans hF_145
  have hF_165 : F_159 sp = .inl (cs 16, 21, .inl f_149) := (hB1.2.2.2 sp (by rw [ht_31]; simp)).trans hF_150
  have hF_166 : F_159 se = .inr (13, [.ref sx, .ref s0, .ref s1, .ref s2, .int (nI z_153)]) := (hB1.2.2.2 se (by rw [ht_39]; simp)).trans hF_154
  generalize H1 = H at hP hS ⊢
  refine lv_aload_n hx hb dX15_sealOf_28 rfl (lv_at hl 0 rfl) ?_
  have hFc := pg_free hD hS hA
  refine va_calli (va_runV (As := []) (rest := []) ⟨hx, hb, hml, hown, hts⟩ (s_X15_isWell l dC dI cs ty gm L H.size F_159 h0 ρ ta ou so ad na va lc dm tg pe ml bg co sp nb0 nb1 nb2 pl se ke wi hs mo po nu pr sq xa sa n64 m64 ex wh sd tk hd ak ho ot sx s0 s1 s2 nf bd mm zt sb z2_160 hW hL_h0 hT_h0 hL_sx hT_sx hq_161 (by omega)) ⟨callB_of 0 hts (gi kt_1013) rfl rfl rfl (hts _ kt_669) (hts _ kt_1014) (by decide +kernel) ⟨Nat.le_of_ble_eq_true rfl, Nat.le_of_ble_eq_true rfl⟩, (hts _ kt_1015), (hts _ kt_1016)⟩ ⟨fun a U g mk q => ⟨q.1, PTEm.calling q.2⟩, pg_recv hK hP hL_h0 hF_163 (q := (RX15, TX15, 59)) rfl, fun U hU hWm => ⟨rfl, PTEm.mk hU hWm hP hK hD hE hO hG (fun x hx => absurd hx List.not_mem_nil) hS hFc⟩⟩ rfl rfl hl.1 rfl (lv_room (Nat.le_of_ble_eq_true rfl)) dX15_sealOf_29 ⟨by show _ + 0 ≤ 0; omega, by show _ + 0 ≤ 0; omega⟩) hS (fun q _ h => hFc q h) hFc (fun r_168 wk_167 t H1 locs ht hvm hw hB hz1 hk1 hS => ?_)
  obtain ⟨F_169, eb_170, e0_171, e1_172, e2_173, zs_174, hB1, hq_175, hq_176, hq_177, hq_178, hq_179, hq_180, hq_181⟩ := hB
  obtain ⟨hP, hD, hO, hR⟩ := QTm.back hB1 ht hFc hR (fun q h => by simp only [List.mem_cons, List.not_mem_nil, or_false] at h ⊢; omega)
  have hF_182 : F_169 co = .inl (cs 16, 21, .inl f_144) := (hB1.2.2.2 co (by rw [ht_29]; simp)).trans hF_164
  have hF_183 : F_169 sp = .inl (cs 16, 21, .inl f_149) := (hB1.2.2.2 sp (by rw [ht_31]; simp)).trans hF_165
  have hF_184 : F_169 sx = .inr (14, [.ref sb, .int (nI z2_160)]) := (hB1.2.2.2 sx (by rw [hT_sx]; simp)).trans hq_161
  generalize H1 = H at hP hS ⊢
  have hw : (r_168 = 0 ∨ (r_168 = 1 ∧ wk_167 = 1)) := hw
  have hw_185 := hw
  obtain ⟨eb, e0, e1, e2, zs, hka, hkb, hkc, hkd, hke, hzs, hwl⟩ : ∃ (eb e0 e1 e2 : Nat → Int32) (zs : Nat), F_169 sb = .inl (cs 17, 3000, .inl eb) ∧ F_169 s0 = .inl (cs 16, 40, .inl e0) ∧ F_169 s1 = .inl (cs 16, 40, .inl e1) ∧ F_169 s2 = .inl (cs 16, 40, .inl e2) ∧ F_169 se = .inr (13, [.ref sx, .ref s0, .ref s1, .ref s2, .int (nI zs)]) ∧ zs ≤ 40 ∧ (wk_167 = 1 → WLP eb e0 e1 e2 zs) := ⟨_, _, _, _, _, hq_175, hq_176, hq_177, hq_178, hq_179, hq_180, hq_181⟩
  refine lv_if_ne (tgt := 37) hx hb dX15_sealOf_32 (by decide) (fun c_186 => ?_) (fun c_186 => ?_)
  ·
    obtain ⟨kd, ks, kh, hd1, hs1, hh1, hfd, htd, hfs, hfk, hfh⟩ := hwl (bit1 hw_185 c_186)
    refine lv_aload_n hx hb dX15_sealOf_37 rfl (lv_at hl 0 rfl) ?_
    obtain ⟨zo_187, ze_188, v11_189, v12_190, v14_191, v15_192, v17_193, v18_194, v19_195, v20_196, v21_197, v22_198, v33_199, v52_200, v53_201, v54_202, hF_203, hq_204, hq_205, hq_206, hq_207⟩ := hO.mod hL_h0 hT_h0
    refine pg_get (ci := 15) (v := .ref se) (C := RX15) (T := TX15) (N := 59) hx hb hts it_15 hown hK hP hL_h0 hF_203 rfl 35 (by decide) (hts _ kt_862) (fun _ h9 => h9) rfl dX15_sealOf_38 ?_
    obtain ⟨q_208, v_209, hr_q_208, hX_q_208⟩ := hG.2.2 ("PostGateModel", 454, "d", [100]) (by decide +kernel)
    have hX_q_208 : SXc q_208 v_209 1 (cct [100]) A s s.heap := hX_q_208
    obtain ⟨xo_q_208, xc_q_208, xv_q_208, xt_q_208, xn_q_208⟩ := id hX_q_208
    have hr_q_208 : vk_R "PostGateModel" 454 "d" q_208 s := hr_q_208
    refine va_ldcwS hx hb hown hr_q_208 dX15_sealOf_41 ?_
    have hFc := pg_free hD hS hA
    refine va_calli (va_runV (As := [.ref q_208]) (rest := []) ⟨hx, hb, hml, hown, hts⟩ (s_X13_find l dC dI cs ty gm L H.size F_169 se (ρ + 11) sx 3000 1280 s0 s1 s2 sb zs q_208 v_209 1 (cct [100]) hW hi_38 ht_39 hL_sx hT_sx hke (by first | omega | assumption)) ⟨callB_of 1 hts (gi kt_843) rfl rfl rfl (hts _ kt_844) (hts _ kt_854) (by decide +kernel) ⟨Nat.le_of_ble_eq_true rfl, Nat.le_of_ble_eq_true rfl⟩, (hts _ kt_846), (hts _ kt_847)⟩ ⟨fun a U g mk q => ⟨q.1, PTEm.calling q.2⟩, pg_recv hK hP hi_38 hke (q := (RX13, TX13, 5)) rfl, fun U hU hWm => ⟨rfl, PTEm.mk hU hWm hP hK hD hE hO hG (fun x hx => by rw [List.mem_singleton] at hx; subst hx; exact hX_q_208) hS hFc⟩⟩ rfl rfl hl.1 rfl (lv_room (Nat.le_of_ble_eq_true rfl)) dX15_sealOf_44 ⟨by show _ + 0 ≤ 0; omega, by show _ + 0 ≤ 0; omega⟩) hS (fun q _ h => hFc q h) hFc (fun r_210 u t H1 locs ht hvm hw hB hz1 hk1 hS => ?_)
    obtain ⟨F_211, hB1⟩ := hB
    obtain rfl : F_169 = F_211 := (funext (fun a => hB1.2.2.2 a List.not_mem_nil)).symm
    obtain ⟨hP, hD, hO, hR⟩ := QTm.back hB1 ht hFc hR (fun q h => absurd h List.not_mem_nil)
    generalize H1 = H at hP hS ⊢
    have hw : FND (gA (F_169 sb)) (gA (F_169 s0)) (gA (F_169 s1)) zs (cct [100]) 1 r_210 := hw
    have hw_212 := hw
    have hfr_213 : FND eb e0 e1 zs (cct [100]) 1 r_210 := by have h9 := hw_212; rw [gA_fun hka, gA_fun hkb, gA_fun hkc] at h9; exact h9
    obtain rfl := FND.uniq hfr_213 hfd
    refine lv_istore_n (lv' := [(3, .int (nI kd)), (0, .ref h0), (1, .int (nI jf)), (2, .int x2)]) hx hb dX15_sealOf_47 rfl hl (by decide) rfl (fun ls hl => ?_)
    refine lv_aload_n hx hb dX15_sealOf_48 rfl (lv_at hl 1 rfl) ?_
    refine pg_get (ci := 15) (v := .ref se) (C := RX15) (T := TX15) (N := 59) hx hb hts it_15 hown hK hP hL_h0 hF_203 rfl 35 (by decide) (hts _ kt_862) (fun _ h9 => h9) rfl dX15_sealOf_49 ?_
    obtain ⟨q_214, v_215, hr_q_214, hX_q_214⟩ := hG.2.2 ("PostGateModel", 460, "s", [115]) (by decide +kernel)
    have hX_q_214 : SXc q_214 v_215 1 (cct [115]) A s s.heap := hX_q_214
    obtain ⟨xo_q_214, xc_q_214, xv_q_214, xt_q_214, xn_q_214⟩ := id hX_q_214
    have hr_q_214 : vk_R "PostGateModel" 460 "s" q_214 s := hr_q_214
    refine va_ldcwS hx hb hown hr_q_214 dX15_sealOf_52 ?_
    have hFc := pg_free hD hS hA
    refine va_calli (va_runV (As := [.ref q_214]) (rest := []) ⟨hx, hb, hml, hown, hts⟩ (s_X13_find l dC dI cs ty gm L H.size F_169 se (ρ + 11) sx 3000 1280 s0 s1 s2 sb zs q_214 v_215 1 (cct [115]) hW hi_38 ht_39 hL_sx hT_sx hke (by first | omega | assumption)) ⟨callB_of 1 hts (gi kt_843) rfl rfl rfl (hts _ kt_844) (hts _ kt_854) (by decide +kernel) ⟨Nat.le_of_ble_eq_true rfl, Nat.le_of_ble_eq_true rfl⟩, (hts _ kt_846), (hts _ kt_847)⟩ ⟨fun a U g mk q => ⟨q.1, PTEm.calling q.2⟩, pg_recv hK hP hi_38 hke (q := (RX13, TX13, 5)) rfl, fun U hU hWm => ⟨rfl, PTEm.mk hU hWm hP hK hD hE hO hG (fun x hx => by rw [List.mem_singleton] at hx; subst hx; exact hX_q_214) hS hFc⟩⟩ rfl rfl hl.1 rfl (lv_room (Nat.le_of_ble_eq_true rfl)) dX15_sealOf_55 ⟨by show _ + 0 ≤ 0; omega, by show _ + 0 ≤ 0; omega⟩) hS (fun q _ h => hFc q h) hFc (fun r_216 u t H1 locs ht hvm hw hB hz1 hk1 hS => ?_)
    obtain ⟨F_217, hB1⟩ := hB
    obtain rfl : F_169 = F_217 := (funext (fun a => hB1.2.2.2 a List.not_mem_nil)).symm
    obtain ⟨hP, hD, hO, hR⟩ := QTm.back hB1 ht hFc hR (fun q h => absurd h List.not_mem_nil)
    generalize H1 = H at hP hS ⊢
    have hw : FND (gA (F_169 sb)) (gA (F_169 s0)) (gA (F_169 s1)) zs (cct [115]) 1 r_216 := hw
    have hw_218 := hw
    have hfr_219 : FND eb e0 e1 zs (cct [115]) 1 r_216 := by have h9 := hw_218; rw [gA_fun hka, gA_fun hkb, gA_fun hkc] at h9; exact h9
    obtain rfl := FND.uniq hfr_219 hfs
    refine lv_istore (lv' := [(4, .int (nI ks)), (3, .int (nI kd)), (0, .ref h0), (1, .int (nI jf)), (2, .int x2)]) hx hb dX15_sealOf_58 hl (by decide) rfl (fun ls hl => ?_)
    refine lv_aload_n hx hb dX15_sealOf_60 rfl (lv_at hl 2 rfl) ?_
    refine pg_get (ci := 15) (v := .ref se) (C := RX15) (T := TX15) (N := 59) hx hb hts it_15 hown hK hP hL_h0 hF_203 rfl 35 (by decide) (hts _ kt_862) (fun _ h9 => h9) rfl dX15_sealOf_61 ?_
    obtain ⟨q_220, v_221, hr_q_220, hX_q_220⟩ := hG.2.2 ("PostGateModel", 481, "x", [120]) (by decide +kernel)
    have hX_q_220 : SXc q_220 v_221 1 (cct [120]) A s s.heap := hX_q_220
    obtain ⟨xo_q_220, xc_q_220, xv_q_220, xt_q_220, xn_q_220⟩ := id hX_q_220
    have hr_q_220 : vk_R "PostGateModel" 481 "x" q_220 s := hr_q_220
    refine va_ldcwS hx hb hown hr_q_220 dX15_sealOf_64 ?_
    have hFc := pg_free hD hS hA
    refine va_calli (va_runS (As := [.ref se, .ref q_220]) (rest := []) ⟨hx, hb, hml, hown, hts⟩ (s_X15_number l dC dI cs ty gm L H.size F_169 se (ρ + 11) sx 3000 1280 s0 s1 s2 sb zs q_220 v_221 1 (cct [120]) hW hi_38 ht_39 hL_sx hT_sx hke (by first | omega | assumption)) ⟨callB_of 2 hts (gi kt_899) rfl rfl rfl (hts _ kt_669) (hts _ kt_900) (by decide +kernel) ⟨Nat.le_of_ble_eq_true rfl, Nat.le_of_ble_eq_true rfl⟩, (hts _ kt_901)⟩ ⟨fun a U g mk q => ⟨q.1, PTEm.calling q.2⟩, fun U hU hWm => ⟨rfl, PTEm.mk hU hWm hP hK hD hE hO hG (fun x hx => by rw [List.mem_singleton] at hx; subst hx; exact hX_q_220) hS hFc⟩⟩ rfl rfl hl.1 rfl (lv_room (Nat.le_of_ble_eq_true rfl)) dX15_sealOf_67 ⟨by show _ + 0 ≤ 0; omega, by show _ + 0 ≤ 0; omega⟩) hS (fun q _ h => hFc q h) hFc (fun r_222 u t H1 locs ht hvm hw hB hz1 hk1 hS => ?_)
    obtain ⟨F_223, hB1⟩ := hB
    obtain rfl : F_169 = F_223 := (funext (fun a => hB1.2.2.2 a List.not_mem_nil)).symm
    obtain ⟨hP, hD, hO, hR⟩ := QTm.back hB1 ht hFc hR (fun q h => absurd h List.not_mem_nil)
    generalize H1 = H at hP hS ⊢
    have hw : True := hw
    have hw_224 := hw
    refine lv_istore (lv' := [(5, .int r_222), (4, .int (nI ks)), (3, .int (nI kd)), (0, .ref h0), (1, .int (nI jf)), (2, .int x2)]) hx hb dX15_sealOf_70 hl (by decide) rfl (fun ls hl => ?_)
    refine lv_aload_n hx hb dX15_sealOf_72 rfl (lv_at hl 3 rfl) ?_
    refine pg_get (ci := 15) (v := .ref sd) (C := RX15) (T := TX15) (N := 59) hx hb hts it_15 hown hK hP hL_h0 hF_203 rfl 50 (by decide) (hts _ kt_1017) (fun _ h9 => h9) rfl dX15_sealOf_73 ?_
    refine lv_aload_n hx hb dX15_sealOf_76 rfl (lv_at hl 3 rfl) ?_
    refine pg_get (ci := 15) (v := .ref se) (C := RX15) (T := TX15) (N := 59) hx hb hts it_15 hown hK hP hL_h0 hF_203 rfl 35 (by decide) (hts _ kt_862) (fun _ h9 => h9) rfl dX15_sealOf_77 ?_
    refine pg_get (ci := 13) (v := .ref sx) (C := RX13) (T := TX13) (N := 5) hx hb hts it_13 hown hK hP hi_38 hke rfl 0 (by decide) (hts _ kt_857) (fun _ h9 => h9) rfl dX15_sealOf_80 ?_
    refine pg_get (ci := 14) (v := .ref sb) (C := RX14) (T := TX14) (N := 2) hx hb hts it_14 hown hK hP hL_sx hF_184 rfl 0 (by decide) (hts _ kt_710) (fun _ h9 => h9) rfl dX15_sealOf_83 ?_
    refine lv_aload_n hx hb dX15_sealOf_86 rfl (lv_at hl 3 rfl) ?_
    refine pg_get (ci := 15) (v := .ref se) (C := RX15) (T := TX15) (N := 59) hx hb hts it_15 hown hK hP hL_h0 hF_203 rfl 35 (by decide) (hts _ kt_862) (fun _ h9 => h9) rfl dX15_sealOf_87 ?_
    refine pg_get (ci := 13) (v := .ref s1) (C := RX13) (T := TX13) (N := 5) hx hb hts it_13 hown hK hP hi_38 hke rfl 2 (by decide) (hts _ kt_855) (fun _ h9 => h9) rfl dX15_sealOf_90 ?_
    refine lv_iload_n hx hb dX15_sealOf_93 rfl (lv_at hl 2 rfl) ?_
    refine pg_iald hx hb hK hP hi_104 0 hkc rfl (vp_in_nI (by omega) (by omega)) dX15_sealOf_94 ?_
    have hq_225 := ixb_of hkc (hO.idb hi_104 ht_107)
    obtain ⟨k_226, hk_227, ek_228⟩ := hq_225 ((nI kd) : Int32).toNatClampNeg
    refine lv_topi (fun x_229 ex_229 => ?_)
    obtain rfl : x_229 = nI k_226 := ex_229.trans ek_228
    refine lv_iconst (v := 1) hx hb dX15_sealOf_95 (by decide) ?_
    refine lv_iadd hx hb dX15_sealOf_96 ?_
    refine lv_topi (fun x_230 ex_230 => ?_)
    obtain rfl : x_230 = (nI (k_226 + 1)) := ex_230.trans (nI_add k_226 1)
    refine lv_aload_n hx hb dX15_sealOf_97 rfl (lv_at hl 3 rfl) ?_
    refine pg_get (ci := 15) (v := .ref se) (C := RX15) (T := TX15) (N := 59) hx hb hts it_15 hown hK hP hL_h0 hF_203 rfl 35 (by decide) (hts _ kt_862) (fun _ h9 => h9) rfl dX15_sealOf_98 ?_
    refine pg_get (ci := 13) (v := .ref s2) (C := RX13) (T := TX13) (N := 5) hx hb hts it_13 hown hK hP hi_38 hke rfl 3 (by decide) (hts _ kt_856) (fun _ h9 => h9) rfl dX15_sealOf_101 ?_
    refine lv_iload_n hx hb dX15_sealOf_104 rfl (lv_at hl 2 rfl) ?_
    refine pg_iald hx hb hK hP hi_105 0 hkd rfl (vp_in_nI (by omega) (by omega)) dX15_sealOf_105 ?_
    have hq_231 := ixb_of hkd (hO.idb hi_105 ht_108)
    obtain ⟨k_232, hk_233, ek_234⟩ := hq_231 ((nI kd) : Int32).toNatClampNeg
    refine lv_topi (fun x_235 ex_235 => ?_)
    obtain rfl : x_235 = nI k_232 := ex_235.trans ek_234
    have htgd := (TGN.eq (ekc ek_228 (by omega)) (ekc ek_234 (by omega)) (by omega) (by omega)).mp htd
    obtain ⟨hq_236, hq_237⟩ := hW.octs hi_111 ht_112
    have hFc := pg_free hD hS hA
    obtain ⟨z_238, hF_239, hq_240⟩ := hO.txt hi_82 ht_84
    refine va_callv (va_runV (As := [.ref sb, .int (nI (k_226 + 1)), .int (nI k_232)]) (rest := []) ⟨hx, hb, hml, hown, hts⟩ (s_X14_set l dC dI cs ty gm L H.size F_169 sd (ρ + 25) r_83 3000 sb (ρ + 12) 3000 (k_226 + 1) k_232 hW hi_82 ht_84 hi_111 ht_112 (by first | omega | assumption) (by first | omega | assumption) (by first | omega | assumption)) ⟨callB_of 3 hts (gi kt_979) rfl rfl rfl (hts _ kt_676) (hts _ kt_980) (by decide +kernel) ⟨Nat.le_of_ble_eq_true rfl, Nat.le_of_ble_eq_true rfl⟩, (hts _ kt_981), (hts _ kt_982)⟩ ⟨fun a U g mk q => ⟨q.1, PTm.calling q.2⟩, pg_recv hK hP hi_82 hF_239 (q := (RX14, TX14, 2)) rfl, fun U hU hWm => ⟨rfl, PTm.mk hU hWm hP hK hD hE hO⟩⟩ rfl rfl hl.1 rfl (lv_room (Nat.le_of_ble_eq_true rfl)) dX15_sealOf_106 ⟨by show _ + 0 ≤ 0; omega, by show _ + 0 ≤ 0; omega⟩) hS (fun q _ h => hFc q h) hFc (fun u t H1 locs ht hvm hw hB hz1 hk1 hS => ?_)
    obtain ⟨F_242, hB1, hq_243⟩ := hB
    obtain ⟨hP, hD, hO, hR⟩ := QTm.back hB1 ht hFc hR (fun q h => by simp only [List.mem_cons, List.not_mem_nil, or_false] at h ⊢; omega)
    have hF_244 : F_242 co = .inl (cs 16, 21, .inl f_144) := (hB1.2.2.2 co (by rw [ht_29]; simp)).trans hF_182
    have hF_245 : F_242 sp = .inl (cs 16, 21, .inl f_149) := (hB1.2.2.2 sp (by rw [ht_31]; simp)).trans hF_183
    have hF_246 : F_242 sx = .inr (14, [.ref sb, .int (nI z2_160)]) := (hB1.2.2.2 sx (by rw [hT_sx]; simp)).trans hF_184
    have hF_247 : F_242 sb = .inl (cs 17, 3000, .inl eb) := (hB1.2.2.2 sb (by rw [ht_112]; simp)).trans hka
    have hF_248 : F_242 s0 = .inl (cs 16, 40, .inl e0) := (hB1.2.2.2 s0 (by rw [ht_106]; simp)).trans hkb
    have hF_249 : F_242 s1 = .inl (cs 16, 40, .inl e1) := (hB1.2.2.2 s1 (by rw [ht_107]; simp)).trans hkc
    have hF_250 : F_242 s2 = .inl (cs 16, 40, .inl e2) := (hB1.2.2.2 s2 (by rw [ht_108]; simp)).trans hkd
    have hF_251 : F_242 se = .inr (13, [.ref sx, .ref s0, .ref s1, .ref s2, .int (nI zs)]) := (hB1.2.2.2 se (by rw [ht_39]; simp)).trans hke
    have hF_252 : F_242 h0 = .inr (15, (.ref ta) :: (.int (nI zt)) :: (.int (nI zo_187)) :: (.int (nI ze_188)) :: (.ref ou) :: (.ref so) :: (.ref ad) :: (.ref na) :: (.ref va) :: (.ref lc) :: (.ref dm) :: (.int v11_189) :: (.int v12_190) :: (.ref tg) :: (.int v14_191) :: (.int v15_192) :: (.ref pe) :: (.int v17_193) :: (.int v18_194) :: (.int v19_195) :: (.int v20_196) :: (.int v21_197) :: (.int v22_198) :: (.ref ml) :: (.ref bg) :: (.ref co) :: (.ref sp) :: (.ref nb0) :: (.ref nb1) :: (.ref nb2) :: (.int (nI nf)) :: (.int (nI bd)) :: (.int (nI mm)) :: (.int v33_199) :: (.ref pl) :: (.ref se) :: (.ref ke) :: (.ref wi) :: (.ref hs) :: (.ref mo) :: (.ref po) :: (.ref nu) :: (.ref pr) :: (.ref sq) :: (.ref xa) :: (.ref sa) :: (.ref n64) :: (.ref m64) :: (.ref ex) :: (.ref wh) :: (.ref sd) :: (.ref tk) :: (.int v52_200) :: (.int v53_201) :: (.int v54_202) :: (.ref hd) :: (.ref ak) :: (.ref ho) :: (.ref ot) :: []) := (hB1.2.2.2 h0 (by rw [hT_h0]; simp)).trans hF_203
    generalize H1 = H at hP hS ⊢
    have hF_255 : F co = .inl (cs 16, 21, .inl f_144) := (hR co (by rw [ht_29]; simp)).symm.trans hF_244
    have hF_256 : F sp = .inl (cs 16, 21, .inl f_149) := (hR sp (by rw [ht_31]; simp)).symm.trans hF_245
    refine W.widen (k := 0) (n := 0) (by omega) (by omega) ?_
    refine pl_cutm (σ := Unit) A (dC, dI) cs ty gm L [ρ, ρ + 10, ρ + 11, ρ + 12, ρ + 13, ρ + 14, ρ + 17, ρ + 18, ρ + 19, ρ + 20, ρ + 21, ρ + 22, ρ + 23, ρ + 24, ρ + 25, ρ + 26] F 122 8 (fun u0 => [(4, .int (nI ks)), (0, .ref h0), (1, .int (nI jf)), (2, .int x2)]) (fun u0 => []) (fun u0 FF => FF sb = .inl (cs 17, 3000, .inl eb) ∧ FF s0 = .inl (cs 16, 40, .inl e0) ∧ FF s1 = .inl (cs 16, 40, .inl e1) ∧ FF s2 = .inl (cs 16, 40, .inl e2) ∧ FF se = .inr (13, [.ref sx, .ref s0, .ref s1, .ref s2, .int (nI zs)]) ∧ FF sd = .inr (14, [.ref r_83, .int (nI (k_232 - (k_226 + 1)))])) ?_ (fun jn_253 => ?_)
    ·
      rintro u0 F_254 hv_257 hO hR H locs hP hD hS ls hl
      have hl : lv_has ls 8 [(4, .int (nI ks)), (0, .ref h0), (1, .int (nI jf)), (2, .int x2)] := hl
      have hv_257 : F_254 sb = .inl (cs 17, 3000, .inl eb) ∧ F_254 s0 = .inl (cs 16, 40, .inl e0) ∧ F_254 s1 = .inl (cs 16, 40, .inl e1) ∧ F_254 s2 = .inl (cs 16, 40, .inl e2) ∧ F_254 se = .inr (13, [.ref sx, .ref s0, .ref s1, .ref s2, .int (nI zs)]) ∧ F_254 sd = .inr (14, [.ref r_83, .int (nI (k_232 - (k_226 + 1)))]) := hv_257
      refine W.eq (g2 := F0 m 122 ls []) rfl ?_
      have hF_258 : F_254 co = .inl (cs 16, 21, .inl f_144) := (hR co (by rw [ht_29]; simp)).trans hF_255
      have hF_259 : F_254 sp = .inl (cs 16, 21, .inl f_149) := (hR sp (by rw [ht_31]; simp)).trans hF_256
      obtain ⟨hma, hmb, hmc, hmd, hme, hsd1⟩ := hv_257
      refine lv_aload_n hx hb dX15_sealOf_122 rfl (lv_at hl 1 rfl) ?_
      obtain ⟨zo_260, ze_261, v11_262, v12_263, v14_264, v15_265, v17_266, v18_267, v19_268, v20_269, v21_270, v22_271, v33_272, v52_273, v53_274, v54_275, hF_276, hq_277, hq_278, hq_279, hq_280⟩ := hO.mod hL_h0 hT_h0
      refine pg_get (ci := 15) (v := .ref wh) (C := RX15) (T := TX15) (N := 59) hx hb hts it_15 hown hK hP hL_h0 hF_276 rfl 49 (by decide) (hts _ kt_953) (fun _ h9 => h9) rfl dX15_sealOf_123 ?_
      refine lv_aload_n hx hb dX15_sealOf_126 rfl (lv_at hl 1 rfl) ?_
      refine pg_get (ci := 15) (v := .ref se) (C := RX15) (T := TX15) (N := 59) hx hb hts it_15 hown hK hP hL_h0 hF_276 rfl 35 (by decide) (hts _ kt_862) (fun _ h9 => h9) rfl dX15_sealOf_127 ?_
      refine pg_get (ci := 13) (v := .ref sx) (C := RX13) (T := TX13) (N := 5) hx hb hts it_13 hown hK hP hi_38 hme rfl 0 (by decide) (hts _ kt_857) (fun _ h9 => h9) rfl dX15_sealOf_130 ?_
      obtain ⟨z_281, hF_282, hq_283⟩ := hO.txt hL_sx hT_sx
      refine pg_get (ci := 14) (v := .ref sb) (C := RX14) (T := TX14) (N := 2) hx hb hts it_14 hown hK hP hL_sx hF_282 rfl 0 (by decide) (hts _ kt_710) (fun _ h9 => h9) rfl dX15_sealOf_133 ?_
      refine lv_aload_n hx hb dX15_sealOf_136 rfl (lv_at hl 1 rfl) ?_
      refine pg_get (ci := 15) (v := .ref se) (C := RX15) (T := TX15) (N := 59) hx hb hts it_15 hown hK hP hL_h0 hF_276 rfl 35 (by decide) (hts _ kt_862) (fun _ h9 => h9) rfl dX15_sealOf_137 ?_
      refine pg_get (ci := 13) (v := .ref s1) (C := RX13) (T := TX13) (N := 5) hx hb hts it_13 hown hK hP hi_38 hme rfl 2 (by decide) (hts _ kt_855) (fun _ h9 => h9) rfl dX15_sealOf_140 ?_
      refine lv_iload hx hb dX15_sealOf_143 (lv_at hl 0 rfl) ?_
      refine pg_iald hx hb hK hP hi_104 0 hmc rfl (vp_in_nI (by omega) (by omega)) dX15_sealOf_145 ?_
      have hq_284 := ixb_of hmc (hO.idb hi_104 ht_107)
      obtain ⟨k_285, hk_286, ek_287⟩ := hq_284 ((nI ks) : Int32).toNatClampNeg
      refine lv_topi (fun x_288 ex_288 => ?_)
      obtain rfl : x_288 = nI k_285 := ex_288.trans ek_287
      refine lv_iconst (v := 1) hx hb dX15_sealOf_146 (by decide) ?_
      refine lv_iadd hx hb dX15_sealOf_147 ?_
      refine lv_topi (fun x_289 ex_289 => ?_)
      obtain rfl : x_289 = (nI (k_285 + 1)) := ex_289.trans (nI_add k_285 1)
      refine lv_aload_n hx hb dX15_sealOf_148 rfl (lv_at hl 1 rfl) ?_
      refine pg_get (ci := 15) (v := .ref se) (C := RX15) (T := TX15) (N := 59) hx hb hts it_15 hown hK hP hL_h0 hF_276 rfl 35 (by decide) (hts _ kt_862) (fun _ h9 => h9) rfl dX15_sealOf_149 ?_
      refine pg_get (ci := 13) (v := .ref s2) (C := RX13) (T := TX13) (N := 5) hx hb hts it_13 hown hK hP hi_38 hme rfl 3 (by decide) (hts _ kt_856) (fun _ h9 => h9) rfl dX15_sealOf_152 ?_
      refine lv_iload hx hb dX15_sealOf_155 (lv_at hl 0 rfl) ?_
      refine pg_iald hx hb hK hP hi_105 0 hmd rfl (vp_in_nI (by omega) (by omega)) dX15_sealOf_157 ?_
      have hq_290 := ixb_of hmd (hO.idb hi_105 ht_108)
      obtain ⟨k_291, hk_292, ek_293⟩ := hq_290 ((nI ks) : Int32).toNatClampNeg
      refine lv_topi (fun x_294 ex_294 => ?_)
      obtain rfl : x_294 = nI k_291 := ex_294.trans ek_293
      have htgs := (TGN.eq (ekc ek_287 (by omega)) (ekc ek_293 (by omega)) (by omega) (by omega)).mp hfk
      have hFc := pg_free hD hS hA
      obtain ⟨z_295, hF_296, hq_297⟩ := hO.txt hi_79 ht_81
      refine va_callv (va_runV (As := [.ref sb, .int (nI (k_285 + 1)), .int (nI k_291)]) (rest := []) ⟨hx, hb, hml, hown, hts⟩ (s_X14_set l dC dI cs ty gm L H.size F_254 wh (ρ + 24) r_80 6000 sb (ρ + 12) 3000 (k_285 + 1) k_291 hW hi_79 ht_81 hi_111 ht_112 (by first | omega | assumption) (by first | omega | assumption) (by first | omega | assumption)) ⟨callB_of 3 hts (gi kt_979) rfl rfl rfl (hts _ kt_676) (hts _ kt_980) (by decide +kernel) ⟨Nat.le_of_ble_eq_true rfl, Nat.le_of_ble_eq_true rfl⟩, (hts _ kt_981), (hts _ kt_982)⟩ ⟨fun a U g mk q => ⟨q.1, PTm.calling q.2⟩, pg_recv hK hP hi_79 hF_296 (q := (RX14, TX14, 2)) rfl, fun U hU hWm => ⟨rfl, PTm.mk hU hWm hP hK hD hE hO⟩⟩ rfl rfl hl.1 rfl (lv_room (Nat.le_of_ble_eq_true rfl)) dX15_sealOf_158 ⟨by show _ + 0 ≤ 0; omega, by show _ + 0 ≤ 0; omega⟩) hS (fun q _ h => hFc q h) hFc (fun u t H1 locs ht hvm hw hB hz1 hk1 hS => ?_)
      obtain ⟨F_299, hB1, hq_300⟩ := hB
      obtain ⟨hP, hD, hO, hR⟩ := QTm.back hB1 ht hFc hR (fun q h => by simp only [List.mem_cons, List.not_mem_nil, or_false] at h ⊢; omega)
      have hF_301 : F_299 co = .inl (cs 16, 21, .inl f_144) := (hB1.2.2.2 co (by rw [ht_29]; simp)).trans hF_258
      have hF_302 : F_299 sp = .inl (cs 16, 21, .inl f_149) := (hB1.2.2.2 sp (by rw [ht_31]; simp)).trans hF_259
      have hF_303 : F_299 sb = .inl (cs 17, 3000, .inl eb) := (hB1.2.2.2 sb (by rw [ht_112]; simp)).trans hma
      have hF_304 : F_299 s0 = .inl (cs 16, 40, .inl e0) := (hB1.2.2.2 s0 (by rw [ht_106]; simp)).trans hmb
      have hF_305 : F_299 s1 = .inl (cs 16, 40, .inl e1) := (hB1.2.2.2 s1 (by rw [ht_107]; simp)).trans hmc
      have hF_306 : F_299 s2 = .inl (cs 16, 40, .inl e2) := (hB1.2.2.2 s2 (by rw [ht_108]; simp)).trans hmd
      have hF_307 : F_299 se = .inr (13, [.ref sx, .ref s0, .ref s1, .ref s2, .int (nI zs)]) := (hB1.2.2.2 se (by rw [ht_39]; simp)).trans hme
      have hF_308 : F_299 sd = .inr (14, [.ref r_83, .int (nI (k_232 - (k_226 + 1)))]) := (hB1.2.2.2 sd (by rw [ht_84]; simp)).trans hsd1
      have hF_309 : F_299 h0 = .inr (15, (.ref ta) :: (.int (nI zt)) :: (.int (nI zo_260)) :: (.int (nI ze_261)) :: (.ref ou) :: (.ref so) :: (.ref ad) :: (.ref na) :: (.ref va) :: (.ref lc) :: (.ref dm) :: (.int v11_262) :: (.int v12_263) :: (.ref tg) :: (.int v14_264) :: (.int v15_265) :: (.ref pe) :: (.int v17_266) :: (.int v18_267) :: (.int v19_268) :: (.int v20_269) :: (.int v21_270) :: (.int v22_271) :: (.ref ml) :: (.ref bg) :: (.ref co) :: (.ref sp) :: (.ref nb0) :: (.ref nb1) :: (.ref nb2) :: (.int (nI nf)) :: (.int (nI bd)) :: (.int (nI mm)) :: (.int v33_272) :: (.ref pl) :: (.ref se) :: (.ref ke) :: (.ref wi) :: (.ref hs) :: (.ref mo) :: (.ref po) :: (.ref nu) :: (.ref pr) :: (.ref sq) :: (.ref xa) :: (.ref sa) :: (.ref n64) :: (.ref m64) :: (.ref ex) :: (.ref wh) :: (.ref sd) :: (.ref tk) :: (.int v52_273) :: (.int v53_274) :: (.int v54_275) :: (.ref hd) :: (.ref ak) :: (.ref ho) :: (.ref ot) :: []) := (hB1.2.2.2 h0 (by rw [hT_h0]; simp)).trans hF_276
      have hF_310 : F_299 sx = .inr (14, [.ref sb, .int (nI z_281)]) := (hB1.2.2.2 sx (by rw [hT_sx]; simp)).trans hF_282
      generalize H1 = H at hP hS ⊢
      refine lv_iconst (v := 0) hx hb dX15_sealOf_161 (by decide) ?_
      refine lv_istore (lv' := [(6, .int 0), (4, .int (nI ks)), (0, .ref h0), (1, .int (nI jf)), (2, .int x2)]) hx hb dX15_sealOf_162 hl (by decide) rfl (fun ls hl => ?_)
      refine W.widen (k := 0) (n := 0) (by omega) (by omega) ?_
      have hF_312 : F co = .inl (cs 16, 21, .inl f_144) := (hR co (by rw [ht_29]; simp)).symm.trans hF_301
      have hF_313 : F sp = .inl (cs 16, 21, .inl f_149) := (hR sp (by rw [ht_31]; simp)).symm.trans hF_302
      refine pl_loopm (σ := Nat) A (dC, dI) cs ty gm L [ρ, ρ + 10, ρ + 11, ρ + 12, ρ + 13, ρ + 14, ρ + 17, ρ + 18, ρ + 19, ρ + 20, ρ + 21, ρ + 22, ρ + 23, ρ + 24, ρ + 25, ρ + 26] F 164 8 (fun j => [(6, .int (nI j)), (0, .ref h0), (1, .int (nI jf)), (2, .int x2)]) (fun j => []) (fun j FF => j ≤ 12 ∧ FF sb = .inl (cs 17, 3000, .inl eb) ∧ FF s0 = .inl (cs 16, 40, .inl e0) ∧ FF s1 = .inl (cs 16, 40, .inl e1) ∧ FF s2 = .inl (cs 16, 40, .inl e2) ∧ FF se = .inr (13, [.ref sx, .ref s0, .ref s1, .ref s2, .int (nI zs)]) ∧ FF sd = .inr (14, [.ref r_83, .int (nI (k_232 - (k_226 + 1)))]) ∧ FF wh = .inr (14, [.ref r_80, .int (nI ((k_291 - (k_285 + 1)) + j))])) (fun j => 12 - j) ?_ 0 F_299 (⟨by omega, hF_303, hF_304, hF_305, hF_306, hF_307, hF_308, hq_300⟩) hO hR _ _ hP hD hS ls (lv_sub hl [0, 2, 3, 4] rfl)
      rintro j F_311 hv_314 hO hR ih_315 H locs hP hD hS ls hl
      have hl : lv_has ls 8 [(6, .int (nI j)), (0, .ref h0), (1, .int (nI jf)), (2, .int x2)] := hl
      have hv_314 : j ≤ 12 ∧ F_311 sb = .inl (cs 17, 3000, .inl eb) ∧ F_311 s0 = .inl (cs 16, 40, .inl e0) ∧ F_311 s1 = .inl (cs 16, 40, .inl e1) ∧ F_311 s2 = .inl (cs 16, 40, .inl e2) ∧ F_311 se = .inr (13, [.ref sx, .ref s0, .ref s1, .ref s2, .int (nI zs)]) ∧ F_311 sd = .inr (14, [.ref r_83, .int (nI (k_232 - (k_226 + 1)))]) ∧ F_311 wh = .inr (14, [.ref r_80, .int (nI ((k_291 - (k_285 + 1)) + j))]) := hv_314
      refine W.eq (g2 := F0 m 164 ls []) rfl ?_
      have hF_316 : F_311 co = .inl (cs 16, 21, .inl f_144) := (hR co (by rw [ht_29]; simp)).trans hF_312
      have hF_317 : F_311 sp = .inl (cs 16, 21, .inl f_149) := (hR sp (by rw [ht_31]; simp)).trans hF_313
      obtain ⟨hj12, hna, hnb, hnc, hnd, hne, hsd2, hwh2⟩ := hv_314
      refine lv_iload hx hb dX15_sealOf_164 (lv_at hl 0 rfl) ?_
      refine lv_bipush (v := 12) hx hb dX15_sealOf_166 (by decide) ?_
      refine lv_icmp_ge (tgt := 192) hx hb dX15_sealOf_168 (by decide) (fun c_318 => ?_) (fun c_318 => ?_)
      ·
        have hi_319 : 12 ≤ j := leN (N := 12) c_318
        refine lv_aload_n hx hb dX15_sealOf_192 rfl (lv_at hl 1 rfl) ?_
        obtain ⟨zo_320, ze_321, v11_322, v12_323, v14_324, v15_325, v17_326, v18_327, v19_328, v20_329, v21_330, v22_331, v33_332, v52_333, v53_334, v54_335, hF_336, hq_337, hq_338, hq_339, hq_340⟩ := hO.mod hL_h0 hT_h0
        refine pg_get (ci := 15) (v := .ref wh) (C := RX15) (T := TX15) (N := 59) hx hb hts it_15 hown hK hP hL_h0 hF_336 rfl 49 (by decide) (hts _ kt_953) (fun _ h9 => h9) rfl dX15_sealOf_193 ?_
        refine lv_aload_n hx hb dX15_sealOf_196 rfl (lv_at hl 1 rfl) ?_
        refine pg_get (ci := 15) (v := .ref sd) (C := RX15) (T := TX15) (N := 59) hx hb hts it_15 hown hK hP hL_h0 hF_336 rfl 50 (by decide) (hts _ kt_1017) (fun _ h9 => h9) rfl dX15_sealOf_197 ?_
        refine pg_get (ci := 14) (v := .ref r_83) (C := RX14) (T := TX14) (N := 2) hx hb hts it_14 hown hK hP hi_82 hsd2 rfl 0 (by decide) (hts _ kt_710) (fun _ h9 => h9) rfl dX15_sealOf_200 ?_
        refine lv_iconst (v := 0) hx hb dX15_sealOf_203 (by decide) ?_
        refine lv_aload_n hx hb dX15_sealOf_204 rfl (lv_at hl 1 rfl) ?_
        refine pg_get (ci := 15) (v := .ref sd) (C := RX15) (T := TX15) (N := 59) hx hb hts it_15 hown hK hP hL_h0 hF_336 rfl 50 (by decide) (hts _ kt_1017) (fun _ h9 => h9) rfl dX15_sealOf_205 ?_
        refine pg_get (ci := 14) (v := .int (nI (k_232 - (k_226 + 1)))) (C := RX14) (T := TX14) (N := 2) hx hb hts it_14 hown hK hP hi_82 hsd2 rfl 1 (by decide) (hts _ kt_709) (fun _ h9 => h9) rfl dX15_sealOf_208 ?_
        refine W.eq (g2 := F0 m 211 ls [.int (nI (k_232 - (k_226 + 1))), .int (nI 0), .ref r_83, .ref wh]) rfl ?_
        obtain ⟨hq_341, hq_342⟩ := hW.octs hi_120 ht_121
        have hFc := pg_free hD hS hA
        refine va_callv (va_runV (As := [.ref r_83, .int (nI 0), .int (nI (k_232 - (k_226 + 1)))]) (rest := []) ⟨hx, hb, hml, hown, hts⟩ (s_X14_add_ l dC dI cs ty gm L H.size F_311 wh (ρ + 24) r_80 6000 r_83 (ρ + 25) 3000 ((k_291 - (k_285 + 1)) + j) 0 (k_232 - (k_226 + 1)) hW hi_79 ht_81 hi_120 ht_121 hwh2 (by first | omega | assumption) (by first | omega | assumption) (by first | omega | assumption)) ⟨callB_of 3 hts (gi kt_675) rfl rfl rfl (hts _ kt_676) (hts _ kt_776) (by decide +kernel) ⟨Nat.le_of_ble_eq_true rfl, Nat.le_of_ble_eq_true rfl⟩, (hts _ kt_678), (hts _ kt_679)⟩ ⟨fun a U g mk q => ⟨q.1, PTm.calling q.2⟩, pg_recv hK hP hi_79 hwh2 (q := (RX14, TX14, 2)) rfl, fun U hU hWm => ⟨rfl, PTm.mk hU hWm hP hK hD hE hO⟩⟩ rfl rfl hl.1 rfl (lv_room (Nat.le_of_ble_eq_true rfl)) dX15_sealOf_211 ⟨by show _ + 0 ≤ 0; omega, by show _ + 0 ≤ 0; omega⟩) hS (fun q _ h => hFc q h) hFc (fun u t H1 locs ht hvm hw hB hz1 hk1 hS => ?_)
        obtain ⟨F_344, hB1, hq_345⟩ := hB
        obtain ⟨hP, hD, hO, hR⟩ := QTm.back hB1 ht hFc hR (fun q h => by simp only [List.mem_cons, List.not_mem_nil, or_false] at h ⊢; omega)
        have hF_346 : F_344 co = .inl (cs 16, 21, .inl f_144) := (hB1.2.2.2 co (by rw [ht_29]; simp)).trans hF_316
        have hF_347 : F_344 sp = .inl (cs 16, 21, .inl f_149) := (hB1.2.2.2 sp (by rw [ht_31]; simp)).trans hF_317
        have hF_348 : F_344 sb = .inl (cs 17, 3000, .inl eb) := (hB1.2.2.2 sb (by rw [ht_112]; simp)).trans hna
        have hF_349 : F_344 s0 = .inl (cs 16, 40, .inl e0) := (hB1.2.2.2 s0 (by rw [ht_106]; simp)).trans hnb
        have hF_350 : F_344 s1 = .inl (cs 16, 40, .inl e1) := (hB1.2.2.2 s1 (by rw [ht_107]; simp)).trans hnc
        have hF_351 : F_344 s2 = .inl (cs 16, 40, .inl e2) := (hB1.2.2.2 s2 (by rw [ht_108]; simp)).trans hnd
        have hF_352 : F_344 se = .inr (13, [.ref sx, .ref s0, .ref s1, .ref s2, .int (nI zs)]) := (hB1.2.2.2 se (by rw [ht_39]; simp)).trans hne
        have hF_353 : F_344 sd = .inr (14, [.ref r_83, .int (nI (k_232 - (k_226 + 1)))]) := (hB1.2.2.2 sd (by rw [ht_84]; simp)).trans hsd2
        have hF_354 : F_344 h0 = .inr (15, (.ref ta) :: (.int (nI zt)) :: (.int (nI zo_320)) :: (.int (nI ze_321)) :: (.ref ou) :: (.ref so) :: (.ref ad) :: (.ref na) :: (.ref va) :: (.ref lc) :: (.ref dm) :: (.int v11_322) :: (.int v12_323) :: (.ref tg) :: (.int v14_324) :: (.int v15_325) :: (.ref pe) :: (.int v17_326) :: (.int v18_327) :: (.int v19_328) :: (.int v20_329) :: (.int v21_330) :: (.int v22_331) :: (.ref ml) :: (.ref bg) :: (.ref co) :: (.ref sp) :: (.ref nb0) :: (.ref nb1) :: (.ref nb2) :: (.int (nI nf)) :: (.int (nI bd)) :: (.int (nI mm)) :: (.int v33_332) :: (.ref pl) :: (.ref se) :: (.ref ke) :: (.ref wi) :: (.ref hs) :: (.ref mo) :: (.ref po) :: (.ref nu) :: (.ref pr) :: (.ref sq) :: (.ref xa) :: (.ref sa) :: (.ref n64) :: (.ref m64) :: (.ref ex) :: (.ref wh) :: (.ref sd) :: (.ref tk) :: (.int v52_333) :: (.int v53_334) :: (.int v54_335) :: (.ref hd) :: (.ref ak) :: (.ref ho) :: (.ref ot) :: []) := (hB1.2.2.2 h0 (by rw [hT_h0]; simp)).trans hF_336
        generalize H1 = H at hP hS ⊢
        refine lv_aload_n hx hb dX15_sealOf_214 rfl (lv_at hl 1 rfl) ?_
        have hFc := pg_free hD hS hA
        refine va_calli (va_runV (As := []) (rest := []) ⟨hx, hb, hml, hown, hts⟩ (s_X15_keyOf l dC dI cs ty gm L H.size F_344 h0 ρ ta ou so ad na va lc dm tg pe ml bg co sp nb0 nb1 nb2 pl se ke wi hs mo po nu pr sq xa sa n64 m64 ex wh sd tk hd ak ho ot sx s0 s1 s2 nf bd mm zt hW hL_h0 hT_h0) ⟨callB_of 0 hts (gi kt_1018) rfl rfl rfl (hts _ kt_669) (hts _ kt_1019) (by decide +kernel) ⟨Nat.le_of_ble_eq_true rfl, Nat.le_of_ble_eq_true rfl⟩, (hts _ kt_1020), (hts _ kt_1021)⟩ ⟨fun a U g mk q => ⟨q.1, PTEm.calling q.2⟩, pg_recv hK hP hL_h0 hF_354 (q := (RX15, TX15, 59)) rfl, fun U hU hWm => ⟨rfl, PTEm.mk hU hWm hP hK hD hE hO hG (fun x hx => absurd hx List.not_mem_nil) hS hFc⟩⟩ rfl rfl hl.1 rfl (lv_room (Nat.le_of_ble_eq_true rfl)) dX15_sealOf_215 ⟨by show _ + 0 ≤ 0; omega, by show _ + 0 ≤ 0; omega⟩) hS (fun q _ h => hFc q h) hFc (fun r_355 u t H1 locs ht hvm hw hB hz1 hk1 hS => ?_)
        obtain ⟨F_356, hB1⟩ := hB
        obtain ⟨hP, hD, hO, hR⟩ := QTm.back hB1 ht hFc hR (fun q h => by simp only [List.mem_cons, List.not_mem_nil, or_false] at h ⊢; omega)
        have hF_357 : F_356 co = .inl (cs 16, 21, .inl f_144) := (hB1.2.2.2 co (by rw [ht_29]; simp)).trans hF_346
        have hF_358 : F_356 sp = .inl (cs 16, 21, .inl f_149) := (hB1.2.2.2 sp (by rw [ht_31]; simp)).trans hF_347
        have hF_359 : F_356 sb = .inl (cs 17, 3000, .inl eb) := (hB1.2.2.2 sb (by rw [ht_112]; simp)).trans hF_348
        have hF_360 : F_356 s0 = .inl (cs 16, 40, .inl e0) := (hB1.2.2.2 s0 (by rw [ht_106]; simp)).trans hF_349
        have hF_361 : F_356 s1 = .inl (cs 16, 40, .inl e1) := (hB1.2.2.2 s1 (by rw [ht_107]; simp)).trans hF_350
        have hF_362 : F_356 s2 = .inl (cs 16, 40, .inl e2) := (hB1.2.2.2 s2 (by rw [ht_108]; simp)).trans hF_351
        have hF_363 : F_356 se = .inr (13, [.ref sx, .ref s0, .ref s1, .ref s2, .int (nI zs)]) := (hB1.2.2.2 se (by rw [ht_39]; simp)).trans hF_352
        have hF_364 : F_356 sd = .inr (14, [.ref r_83, .int (nI (k_232 - (k_226 + 1)))]) := (hB1.2.2.2 sd (by rw [ht_84]; simp)).trans hF_353
        have hF_365 : F_356 h0 = .inr (15, (.ref ta) :: (.int (nI zt)) :: (.int (nI zo_320)) :: (.int (nI ze_321)) :: (.ref ou) :: (.ref so) :: (.ref ad) :: (.ref na) :: (.ref va) :: (.ref lc) :: (.ref dm) :: (.int v11_322) :: (.int v12_323) :: (.ref tg) :: (.int v14_324) :: (.int v15_325) :: (.ref pe) :: (.int v17_326) :: (.int v18_327) :: (.int v19_328) :: (.int v20_329) :: (.int v21_330) :: (.int v22_331) :: (.ref ml) :: (.ref bg) :: (.ref co) :: (.ref sp) :: (.ref nb0) :: (.ref nb1) :: (.ref nb2) :: (.int (nI nf)) :: (.int (nI bd)) :: (.int (nI mm)) :: (.int v33_332) :: (.ref pl) :: (.ref se) :: (.ref ke) :: (.ref wi) :: (.ref hs) :: (.ref mo) :: (.ref po) :: (.ref nu) :: (.ref pr) :: (.ref sq) :: (.ref xa) :: (.ref sa) :: (.ref n64) :: (.ref m64) :: (.ref ex) :: (.ref wh) :: (.ref sd) :: (.ref tk) :: (.int v52_333) :: (.int v53_334) :: (.int v54_335) :: (.ref hd) :: (.ref ak) :: (.ref ho) :: (.ref ot) :: []) := (hB1.2.2.2 h0 (by rw [hT_h0]; simp)).trans hF_354
        have hF_366 : F_356 wh = .inr (14, [.ref r_80, .int (nI (((k_291 - (k_285 + 1)) + j) + ((k_232 - (k_226 + 1)) - 0)))]) := (hB1.2.2.2 wh (by rw [ht_81]; simp)).trans hq_345
        generalize H1 = H at hP hS ⊢
        have hw : True := hw
        have hw_367 := hw
        refine lv_istore (lv' := [(6, .int r_355), (0, .ref h0), (1, .int (nI jf)), (2, .int x2)]) hx hb dX15_sealOf_218 hl (by decide) rfl (fun ls hl => ?_)
        refine lv_iload hx hb dX15_sealOf_220 (lv_at hl 0 rfl) ?_
        refine lv_iconst (v := 2) hx hb dX15_sealOf_222 (by decide) ?_
        refine lv_icmp_eq (tgt := 229) hx hb dX15_sealOf_223 (by decide) (fun c_368 => ?_) (fun c_368 => ?_)
        ·
          refine lv_aload_n hx hb dX15_sealOf_229 rfl (lv_at hl 1 rfl) ?_
          refine lv_aload_n hx hb dX15_sealOf_230 rfl (lv_at hl 1 rfl) ?_
          refine pg_get (ci := 15) (v := .int v53_334) (C := RX15) (T := TX15) (N := 59) hx hb hts it_15 hown hK hP hL_h0 hF_365 rfl 53 (by decide) (hts _ kt_873) (fun _ h9 => h9) rfl dX15_sealOf_231 ?_
          have hFc := pg_free hD hS hA
          refine va_callv (va_runV (As := [.int v53_334]) (rest := []) ⟨hx, hb, hml, hown, hts⟩ (s_X15_bodyPlain l dC dI cs ty gm L H.size F_356 h0 ρ ta ou so ad na va lc dm tg pe ml bg co sp nb0 nb1 nb2 pl se ke wi hs mo po nu pr sq xa sa n64 m64 ex wh sd tk hd ak ho ot sx s0 s1 s2 nf bd mm zt rl v53_334 hW hL_h0 hT_h0 hL_pl hT_pl (by first | omega | assumption)) ⟨callB_of 1 hts (gi kt_925) rfl rfl rfl (hts _ kt_669) (hts _ kt_926) (by decide +kernel) ⟨Nat.le_of_ble_eq_true rfl, Nat.le_of_ble_eq_true rfl⟩, (hts _ kt_927), (hts _ kt_928)⟩ ⟨fun a U g mk q => ⟨q.1, PTm.calling q.2⟩, pg_recv hK hP hL_h0 hF_365 (q := (RX15, TX15, 59)) rfl, fun U hU hWm => ⟨rfl, PTm.mk hU hWm hP hK hD hE hO⟩⟩ rfl rfl hl.1 rfl (lv_room (Nat.le_of_ble_eq_true rfl)) dX15_sealOf_234 ⟨by show _ + 0 ≤ 0; omega, by show _ + 0 ≤ 0; omega⟩) hS (fun q _ h => hFc q h) hFc (fun u t H1 locs ht hvm hw hB hz1 hk1 hS => ?_)
          obtain ⟨F_370, hB1⟩ := hB
          obtain ⟨hP, hD, hO, hR⟩ := QTm.back hB1 ht hFc hR (fun q h => by simp only [List.mem_cons, List.not_mem_nil, or_false] at h ⊢; omega)
          have hF_371 : F_370 co = .inl (cs 16, 21, .inl f_144) := (hB1.2.2.2 co (by rw [ht_29]; simp)).trans hF_357
          have hF_372 : F_370 sp = .inl (cs 16, 21, .inl f_149) := (hB1.2.2.2 sp (by rw [ht_31]; simp)).trans hF_358
          have hF_373 : F_370 sb = .inl (cs 17, 3000, .inl eb) := (hB1.2.2.2 sb (by rw [ht_112]; simp)).trans hF_359
          have hF_374 : F_370 s0 = .inl (cs 16, 40, .inl e0) := (hB1.2.2.2 s0 (by rw [ht_106]; simp)).trans hF_360
          have hF_375 : F_370 s1 = .inl (cs 16, 40, .inl e1) := (hB1.2.2.2 s1 (by rw [ht_107]; simp)).trans hF_361
          have hF_376 : F_370 s2 = .inl (cs 16, 40, .inl e2) := (hB1.2.2.2 s2 (by rw [ht_108]; simp)).trans hF_362
          have hF_377 : F_370 se = .inr (13, [.ref sx, .ref s0, .ref s1, .ref s2, .int (nI zs)]) := (hB1.2.2.2 se (by rw [ht_39]; simp)).trans hF_363
          have hF_378 : F_370 sd = .inr (14, [.ref r_83, .int (nI (k_232 - (k_226 + 1)))]) := (hB1.2.2.2 sd (by rw [ht_84]; simp)).trans hF_364
          have hF_379 : F_370 h0 = .inr (15, (.ref ta) :: (.int (nI zt)) :: (.int (nI zo_320)) :: (.int (nI ze_321)) :: (.ref ou) :: (.ref so) :: (.ref ad) :: (.ref na) :: (.ref va) :: (.ref lc) :: (.ref dm) :: (.int v11_322) :: (.int v12_323) :: (.ref tg) :: (.int v14_324) :: (.int v15_325) :: (.ref pe) :: (.int v17_326) :: (.int v18_327) :: (.int v19_328) :: (.int v20_329) :: (.int v21_330) :: (.int v22_331) :: (.ref ml) :: (.ref bg) :: (.ref co) :: (.ref sp) :: (.ref nb0) :: (.ref nb1) :: (.ref nb2) :: (.int (nI nf)) :: (.int (nI bd)) :: (.int (nI mm)) :: (.int v33_332) :: (.ref pl) :: (.ref se) :: (.ref ke) :: (.ref wi) :: (.ref hs) :: (.ref mo) :: (.ref po) :: (.ref nu) :: (.ref pr) :: (.ref sq) :: (.ref xa) :: (.ref sa) :: (.ref n64) :: (.ref m64) :: (.ref ex) :: (.ref wh) :: (.ref sd) :: (.ref tk) :: (.int v52_333) :: (.int v53_334) :: (.int v54_335) :: (.ref hd) :: (.ref ak) :: (.ref ho) :: (.ref ot) :: []) := (hB1.2.2.2 h0 (by rw [hT_h0]; simp)).trans hF_365
          have hF_380 : F_370 wh = .inr (14, [.ref r_80, .int (nI (((k_291 - (k_285 + 1)) + j) + ((k_232 - (k_226 + 1)) - 0)))]) := (hB1.2.2.2 wh (by rw [ht_81]; simp)).trans hF_366
          generalize H1 = H at hP hS ⊢
          refine lv_aload_n hx hb dX15_sealOf_237 rfl (lv_at hl 1 rfl) ?_
          refine pg_get (ci := 15) (v := .ref se) (C := RX15) (T := TX15) (N := 59) hx hb hts it_15 hown hK hP hL_h0 hF_379 rfl 35 (by decide) (hts _ kt_862) (fun _ h9 => h9) rfl dX15_sealOf_238 ?_
          obtain ⟨q_381, v_382, hr_q_381, hX_q_381⟩ := hG.2.2 ("PostGateModel", 476, "l", [108]) (by decide +kernel)
          have hX_q_381 : SXc q_381 v_382 1 (cct [108]) A s s.heap := hX_q_381
          obtain ⟨xo_q_381, xc_q_381, xv_q_381, xt_q_381, xn_q_381⟩ := id hX_q_381
          have hr_q_381 : vk_R "PostGateModel" 476 "l" q_381 s := hr_q_381
          refine va_ldcwS hx hb hown hr_q_381 dX15_sealOf_241 ?_
          have hFc := pg_free hD hS hA
          refine va_calli (va_runS (As := [.ref se, .ref q_381]) (rest := []) ⟨hx, hb, hml, hown, hts⟩ (s_X15_number l dC dI cs ty gm L H.size F_370 se (ρ + 11) sx 3000 1280 s0 s1 s2 sb zs q_381 v_382 1 (cct [108]) hW hi_38 ht_39 hL_sx hT_sx hF_377 (by first | omega | assumption)) ⟨callB_of 2 hts (gi kt_899) rfl rfl rfl (hts _ kt_669) (hts _ kt_900) (by decide +kernel) ⟨Nat.le_of_ble_eq_true rfl, Nat.le_of_ble_eq_true rfl⟩, (hts _ kt_901)⟩ ⟨fun a U g mk q => ⟨q.1, PTEm.calling q.2⟩, fun U hU hWm => ⟨rfl, PTEm.mk hU hWm hP hK hD hE hO hG (fun x hx => by rw [List.mem_singleton] at hx; subst hx; exact hX_q_381) hS hFc⟩⟩ rfl rfl hl.1 rfl (lv_room (Nat.le_of_ble_eq_true rfl)) dX15_sealOf_244 ⟨by show _ + 0 ≤ 0; omega, by show _ + 0 ≤ 0; omega⟩) hS (fun q _ h => hFc q h) hFc (fun r_383 u t H1 locs ht hvm hw hB hz1 hk1 hS => ?_)
          obtain ⟨F_384, hB1⟩ := hB
          obtain rfl : F_370 = F_384 := (funext (fun a => hB1.2.2.2 a List.not_mem_nil)).symm
          obtain ⟨hP, hD, hO, hR⟩ := QTm.back hB1 ht hFc hR (fun q h => absurd h List.not_mem_nil)
          generalize H1 = H at hP hS ⊢
          have hw : True := hw
          have hw_385 := hw
          refine lv_istore (lv' := [(7, .int r_383), (6, .int r_355), (0, .ref h0), (1, .int (nI jf)), (2, .int x2)]) hx hb dX15_sealOf_247 hl (by decide) rfl (fun ls hl => ?_)
          refine lv_iload hx hb dX15_sealOf_249 (lv_at hl 0 rfl) ?_
          refine lv_aload_n hx hb dX15_sealOf_251 rfl (lv_at hl 2 rfl) ?_
          refine pg_get (ci := 15) (v := .ref pl) (C := RX15) (T := TX15) (N := 59) hx hb hts it_15 hown hK hP hL_h0 hF_379 rfl 34 (by decide) (hts _ kt_916) (fun _ h9 => h9) rfl dX15_sealOf_252 ?_
          obtain ⟨z_386, hF_387, hq_388⟩ := hO.txt hL_pl hT_pl
          refine pg_get (ci := 14) (v := .int (nI z_386)) (C := RX14) (T := TX14) (N := 2) hx hb hts it_14 hown hK hP hL_pl hF_387 rfl 1 (by decide) (hts _ kt_709) (fun _ h9 => h9) rfl dX15_sealOf_255 ?_
          refine lv_icmp_le (tgt := 263) hx hb dX15_sealOf_258 (by decide) (fun c_389 => ?_) (fun c_389 => ?_)
          ·
            refine lv_aload_n hx hb dX15_sealOf_263 rfl (lv_at hl 2 rfl) ?_
            refine lv_aload_n hx hb dX15_sealOf_264 rfl (lv_at hl 2 rfl) ?_
            refine pg_get (ci := 15) (v := .ref pl) (C := RX15) (T := TX15) (N := 59) hx hb hts it_15 hown hK hP hL_h0 hF_379 rfl 34 (by decide) (hts _ kt_916) (fun _ h9 => h9) rfl dX15_sealOf_265 ?_
            refine pg_get (ci := 14) (v := .ref rl) (C := RX14) (T := TX14) (N := 2) hx hb hts it_14 hown hK hP hL_pl hF_387 rfl 0 (by decide) (hts _ kt_710) (fun _ h9 => h9) rfl dX15_sealOf_268 ?_
            have hF_392 : F co = .inl (cs 16, 21, .inl f_144) := (hR co (by rw [ht_29]; simp)).symm.trans hF_371
            have hF_393 : F sp = .inl (cs 16, 21, .inl f_149) := (hR sp (by rw [ht_31]; simp)).symm.trans hF_372
            refine W.widen (k := 0) (n := 0) (by omega) (by omega) ?_
            refine pl_cutm (σ := Int32) A (dC, dI) cs ty gm L [ρ, ρ + 10, ρ + 11, ρ + 12, ρ + 13, ρ + 14, ρ + 17, ρ + 18, ρ + 19, ρ + 20, ρ + 21, ρ + 22, ρ + 23, ρ + 24, ρ + 25, ρ + 26] F 288 8 (fun s8 => [(0, .ref h0), (1, .int (nI jf)), (2, .int x2)]) (fun s8 => [.int s8, .ref rl, .ref h0]) (fun s8 FF => (∃ k : Nat, k ≤ z_386 ∧ s8 = nI k) ∧ FF sb = .inl (cs 17, 3000, .inl eb) ∧ FF s0 = .inl (cs 16, 40, .inl e0) ∧ FF s1 = .inl (cs 16, 40, .inl e1) ∧ FF s2 = .inl (cs 16, 40, .inl e2) ∧ FF se = .inr (13, [.ref sx, .ref s0, .ref s1, .ref s2, .int (nI zs)])) ?_ (fun jn_390 => ?_)
            ·
              rintro s8 F_391 hv_394 hO hR H locs hP hD hS ls hl
              have hl : lv_has ls 8 [(0, .ref h0), (1, .int (nI jf)), (2, .int x2)] := hl
              have hv_394 : (∃ k : Nat, k ≤ z_386 ∧ s8 = nI k) ∧ F_391 sb = .inl (cs 17, 3000, .inl eb) ∧ F_391 s0 = .inl (cs 16, 40, .inl e0) ∧ F_391 s1 = .inl (cs 16, 40, .inl e1) ∧ F_391 s2 = .inl (cs 16, 40, .inl e2) ∧ F_391 se = .inr (13, [.ref sx, .ref s0, .ref s1, .ref s2, .int (nI zs)]) := hv_394
              refine W.eq (g2 := F0 m 288 ls [.int s8, .ref rl, .ref h0]) rfl ?_
              have hF_395 : F_391 co = .inl (cs 16, 21, .inl f_144) := (hR co (by rw [ht_29]; simp)).trans hF_392
              have hF_396 : F_391 sp = .inl (cs 16, 21, .inl f_149) := (hR sp (by rw [ht_31]; simp)).trans hF_393
              obtain ⟨⟨kz, hkz, ekz⟩, hoa, hob, hoc, hod, hoe⟩ := hv_394
              subst ekz
              refine W.eq (g2 := F0 m 288 ls [.int (nI kz), .ref rl, .ref h0]) rfl ?_
              refine lv_aload_n hx hb dX15_sealOf_288 rfl (lv_at hl 0 rfl) ?_
              obtain ⟨zo_397, ze_398, v11_399, v12_400, v14_401, v15_402, v17_403, v18_404, v19_405, v20_406, v21_407, v22_408, v33_409, v52_410, v53_411, v54_412, hF_413, hq_414, hq_415, hq_416, hq_417⟩ := hO.mod hL_h0 hT_h0
              refine pg_get (ci := 15) (v := .ref xa) (C := RX15) (T := TX15) (N := 59) hx hb hts it_15 hown hK hP hL_h0 hF_413 rfl 44 (by decide) (hts _ kt_950) (fun _ h9 => h9) rfl dX15_sealOf_289 ?_
              obtain ⟨hq_418, hq_419⟩ := hW.octs hi_114 ht_115
              obtain ⟨hq_420, hq_421⟩ := hW.octs hi_69 ht_70
              have hFc := pg_free hD hS hA
              refine va_callv (va_runV (As := [.ref rl, .int (nI kz), .ref xa]) (rest := []) ⟨hx, hb, hml, hown, hts⟩ (s_X15_digest l dC dI cs ty gm L H.size F_391 h0 ρ ta ou so ad na va lc dm tg pe ml bg co sp nb0 nb1 nb2 pl se ke wi hs mo po nu pr sq xa sa n64 m64 ex wh sd tk hd ak ho ot sx s0 s1 s2 nf bd mm zt rl (ρ + 10) 6000 xa (ρ + 19) 32 kz hW hL_h0 hT_h0 hi_114 ht_115 hi_69 ht_70 (by first | omega | assumption) (by first | omega | assumption)) ⟨callB_of 3 hts (gi kt_1022) rfl rfl rfl (hts _ kt_669) (hts _ kt_1023) (by decide +kernel) ⟨Nat.le_of_ble_eq_true rfl, Nat.le_of_ble_eq_true rfl⟩, (hts _ kt_1024), (hts _ kt_1025)⟩ ⟨fun a U g mk q => ⟨q.1, PTm.calling q.2⟩, pg_recv hK hP hL_h0 hF_413 (q := (RX15, TX15, 59)) rfl, fun U hU hWm => ⟨rfl, PTm.mk hU hWm hP hK hD hE hO⟩⟩ rfl rfl hl.1 rfl (lv_room (Nat.le_of_ble_eq_true rfl)) dX15_sealOf_292 ⟨by show _ + 0 ≤ 0; omega, by show _ + 0 ≤ 0; omega⟩) hS (fun q _ h => hFc q h) hFc (fun u t H1 locs ht hvm hw hB hz1 hk1 hS => ?_)
              obtain ⟨F_423, hB1⟩ := hB
              obtain ⟨hP, hD, hO, hR⟩ := QTm.back hB1 ht hFc hR (fun q h => by simp only [List.mem_cons, List.not_mem_nil, or_false] at h ⊢; omega)
              have hF_424 : F_423 co = .inl (cs 16, 21, .inl f_144) := (hB1.2.2.2 co (by rw [ht_29]; simp)).trans hF_395
              have hF_425 : F_423 sp = .inl (cs 16, 21, .inl f_149) := (hB1.2.2.2 sp (by rw [ht_31]; simp)).trans hF_396
              have hF_426 : F_423 sb = .inl (cs 17, 3000, .inl eb) := (hB1.2.2.2 sb (by rw [ht_112]; simp)).trans hoa
              have hF_427 : F_423 s0 = .inl (cs 16, 40, .inl e0) := (hB1.2.2.2 s0 (by rw [ht_106]; simp)).trans hob
              have hF_428 : F_423 s1 = .inl (cs 16, 40, .inl e1) := (hB1.2.2.2 s1 (by rw [ht_107]; simp)).trans hoc
              have hF_429 : F_423 s2 = .inl (cs 16, 40, .inl e2) := (hB1.2.2.2 s2 (by rw [ht_108]; simp)).trans hod
              have hF_430 : F_423 se = .inr (13, [.ref sx, .ref s0, .ref s1, .ref s2, .int (nI zs)]) := (hB1.2.2.2 se (by rw [ht_39]; simp)).trans hoe
              have hF_431 : F_423 h0 = .inr (15, (.ref ta) :: (.int (nI zt)) :: (.int (nI zo_397)) :: (.int (nI ze_398)) :: (.ref ou) :: (.ref so) :: (.ref ad) :: (.ref na) :: (.ref va) :: (.ref lc) :: (.ref dm) :: (.int v11_399) :: (.int v12_400) :: (.ref tg) :: (.int v14_401) :: (.int v15_402) :: (.ref pe) :: (.int v17_403) :: (.int v18_404) :: (.int v19_405) :: (.int v20_406) :: (.int v21_407) :: (.int v22_408) :: (.ref ml) :: (.ref bg) :: (.ref co) :: (.ref sp) :: (.ref nb0) :: (.ref nb1) :: (.ref nb2) :: (.int (nI nf)) :: (.int (nI bd)) :: (.int (nI mm)) :: (.int v33_409) :: (.ref pl) :: (.ref se) :: (.ref ke) :: (.ref wi) :: (.ref hs) :: (.ref mo) :: (.ref po) :: (.ref nu) :: (.ref pr) :: (.ref sq) :: (.ref xa) :: (.ref sa) :: (.ref n64) :: (.ref m64) :: (.ref ex) :: (.ref wh) :: (.ref sd) :: (.ref tk) :: (.int v52_410) :: (.int v53_411) :: (.int v54_412) :: (.ref hd) :: (.ref ak) :: (.ref ho) :: (.ref ot) :: []) := (hB1.2.2.2 h0 (by rw [hT_h0]; simp)).trans hF_413
              generalize H1 = H at hP hS ⊢
              refine lv_aload_n hx hb dX15_sealOf_295 rfl (lv_at hl 0 rfl) ?_
              refine pg_get (ci := 15) (v := .ref xa) (C := RX15) (T := TX15) (N := 59) hx hb hts it_15 hown hK hP hL_h0 hF_431 rfl 44 (by decide) (hts _ kt_950) (fun _ h9 => h9) rfl dX15_sealOf_296 ?_
              refine lv_aload_n hx hb dX15_sealOf_299 rfl (lv_at hl 0 rfl) ?_
              refine pg_get (ci := 15) (v := .ref sa) (C := RX15) (T := TX15) (N := 59) hx hb hts it_15 hown hK hP hL_h0 hF_431 rfl 45 (by decide) (hts _ kt_886) (fun _ h9 => h9) rfl dX15_sealOf_300 ?_
              obtain ⟨hq_432, hq_433⟩ := hW.octs hi_71 ht_72
              have hFc := pg_free hD hS hA
              refine va_calli (va_runS (As := [.ref xa, .ref sa]) (rest := []) ⟨hx, hb, hml, hown, hts⟩ (s_X15_isAll l dC dI cs ty gm L H.size F_423 xa (ρ + 19) sa (ρ + 20) hW hi_69 ht_70 hi_71 ht_72) ⟨callB_of 2 hts (gi kt_1026) rfl rfl rfl (hts _ kt_669) (hts _ kt_1027) (by decide +kernel) ⟨Nat.le_of_ble_eq_true rfl, Nat.le_of_ble_eq_true rfl⟩, (hts _ kt_1028)⟩ ⟨fun a U g mk q => ⟨q.1, PTm.calling q.2⟩, fun U hU hWm => ⟨rfl, PTm.mk hU hWm hP hK hD hE hO⟩⟩ rfl rfl hl.1 rfl (lv_room (Nat.le_of_ble_eq_true rfl)) dX15_sealOf_303 ⟨by show _ + 0 ≤ 0; omega, by show _ + 0 ≤ 0; omega⟩) hS (fun q _ h => hFc q h) hFc (fun r_434 u t H1 locs ht hvm hw hB hz1 hk1 hS => ?_)
              obtain ⟨F_435, hB1⟩ := hB
              obtain rfl : F_423 = F_435 := (funext (fun a => hB1.2.2.2 a List.not_mem_nil)).symm
              obtain ⟨hP, hD, hO, hR⟩ := QTm.back hB1 ht hFc hR (fun q h => absurd h List.not_mem_nil)
              generalize H1 = H at hP hS ⊢
              have hw : (r_434 = 0 ∨ r_434 = 1) := hw
              have hw_436 := hw
              refine lv_if_ne (tgt := 311) hx hb dX15_sealOf_306 (by decide) (fun c_437 => ?_) (fun c_437 => ?_)
              ·
                refine lv_aload_n hx hb dX15_sealOf_311 rfl (lv_at hl 0 rfl) ?_
                refine lv_iload_n hx hb dX15_sealOf_312 rfl (lv_at hl 1 rfl) ?_
                have hFc := pg_free hD hS hA
                refine va_callv (va_runV (As := [.int (nI jf)]) (rest := []) ⟨hx, hb, hml, hown, hts⟩ (s_X15_fieldsPlain l dC dI cs ty gm L H.size F_423 h0 ρ ta ou so ad na va lc dm tg pe ml bg co sp nb0 nb1 nb2 pl se ke wi hs mo po nu pr sq xa sa n64 m64 ex wh sd tk hd ak ho ot sx s0 s1 s2 nf bd mm zt sb rl eb e0 e1 e2 zs kh jf hW hL_h0 hT_h0 hL_sx hT_sx hL_pl hT_pl hF_426 hF_427 hF_428 hF_429 hF_430 (hzs) (hh1) (hfh) (by first | omega | assumption)) ⟨callB_of 1 hts (gi kt_1029) rfl rfl rfl (hts _ kt_669) (hts _ kt_1030) (by decide +kernel) ⟨Nat.le_of_ble_eq_true rfl, Nat.le_of_ble_eq_true rfl⟩, (hts _ kt_1031), (hts _ kt_1032)⟩ ⟨fun a U g mk q => ⟨q.1, PTEm.calling q.2⟩, pg_recv hK hP hL_h0 hF_431 (q := (RX15, TX15, 59)) rfl, fun U hU hWm => ⟨rfl, PTEm.mk hU hWm hP hK hD hE hO hG (fun x hx => absurd hx List.not_mem_nil) hS hFc⟩⟩ rfl rfl hl.1 rfl (lv_room (Nat.le_of_ble_eq_true rfl)) dX15_sealOf_313 ⟨by show _ + 0 ≤ 0; omega, by show _ + 0 ≤ 0; omega⟩) hS (fun q _ h => hFc q h) hFc (fun u t H1 locs ht hvm hw hB hz1 hk1 hS => ?_)
                obtain ⟨F_439, hB1⟩ := hB
                obtain ⟨hP, hD, hO, hR⟩ := QTm.back hB1 ht hFc hR (fun q h => by simp only [List.mem_cons, List.not_mem_nil, or_false] at h ⊢; omega)
                have hF_440 : F_439 co = .inl (cs 16, 21, .inl f_144) := (hB1.2.2.2 co (by rw [ht_29]; simp)).trans hF_424
                have hF_441 : F_439 sp = .inl (cs 16, 21, .inl f_149) := (hB1.2.2.2 sp (by rw [ht_31]; simp)).trans hF_425
                have hF_442 : F_439 sb = .inl (cs 17, 3000, .inl eb) := (hB1.2.2.2 sb (by rw [ht_112]; simp)).trans hF_426
                have hF_443 : F_439 s0 = .inl (cs 16, 40, .inl e0) := (hB1.2.2.2 s0 (by rw [ht_106]; simp)).trans hF_427
                have hF_444 : F_439 s1 = .inl (cs 16, 40, .inl e1) := (hB1.2.2.2 s1 (by rw [ht_107]; simp)).trans hF_428
                have hF_445 : F_439 s2 = .inl (cs 16, 40, .inl e2) := (hB1.2.2.2 s2 (by rw [ht_108]; simp)).trans hF_429
                have hF_446 : F_439 se = .inr (13, [.ref sx, .ref s0, .ref s1, .ref s2, .int (nI zs)]) := (hB1.2.2.2 se (by rw [ht_39]; simp)).trans hF_430
                have hF_447 : F_439 h0 = .inr (15, (.ref ta) :: (.int (nI zt)) :: (.int (nI zo_397)) :: (.int (nI ze_398)) :: (.ref ou) :: (.ref so) :: (.ref ad) :: (.ref na) :: (.ref va) :: (.ref lc) :: (.ref dm) :: (.int v11_399) :: (.int v12_400) :: (.ref tg) :: (.int v14_401) :: (.int v15_402) :: (.ref pe) :: (.int v17_403) :: (.int v18_404) :: (.int v19_405) :: (.int v20_406) :: (.int v21_407) :: (.int v22_408) :: (.ref ml) :: (.ref bg) :: (.ref co) :: (.ref sp) :: (.ref nb0) :: (.ref nb1) :: (.ref nb2) :: (.int (nI nf)) :: (.int (nI bd)) :: (.int (nI mm)) :: (.int v33_409) :: (.ref pl) :: (.ref se) :: (.ref ke) :: (.ref wi) :: (.ref hs) :: (.ref mo) :: (.ref po) :: (.ref nu) :: (.ref pr) :: (.ref sq) :: (.ref xa) :: (.ref sa) :: (.ref n64) :: (.ref m64) :: (.ref ex) :: (.ref wh) :: (.ref sd) :: (.ref tk) :: (.int v52_410) :: (.int v53_411) :: (.int v54_412) :: (.ref hd) :: (.ref ak) :: (.ref ho) :: (.ref ot) :: []) := (hB1.2.2.2 h0 (by rw [hT_h0]; simp)).trans hF_431
                generalize H1 = H at hP hS ⊢
                refine lv_aload_n hx hb dX15_sealOf_316 rfl (lv_at hl 0 rfl) ?_
                refine lv_aload_n hx hb dX15_sealOf_317 rfl (lv_at hl 0 rfl) ?_
                refine pg_get (ci := 15) (v := .ref pl) (C := RX15) (T := TX15) (N := 59) hx hb hts it_15 hown hK hP hL_h0 hF_447 rfl 34 (by decide) (hts _ kt_916) (fun _ h9 => h9) rfl dX15_sealOf_318 ?_
                obtain ⟨z_448, hF_449, hq_450⟩ := hO.txt hL_pl hT_pl
                refine pg_get (ci := 14) (v := .ref rl) (C := RX14) (T := TX14) (N := 2) hx hb hts it_14 hown hK hP hL_pl hF_449 rfl 0 (by decide) (hts _ kt_710) (fun _ h9 => h9) rfl dX15_sealOf_321 ?_
                refine lv_aload_n hx hb dX15_sealOf_324 rfl (lv_at hl 0 rfl) ?_
                refine pg_get (ci := 15) (v := .ref pl) (C := RX15) (T := TX15) (N := 59) hx hb hts it_15 hown hK hP hL_h0 hF_447 rfl 34 (by decide) (hts _ kt_916) (fun _ h9 => h9) rfl dX15_sealOf_325 ?_
                refine pg_get (ci := 14) (v := .int (nI z_448)) (C := RX14) (T := TX14) (N := 2) hx hb hts it_14 hown hK hP hL_pl hF_449 rfl 1 (by decide) (hts _ kt_709) (fun _ h9 => h9) rfl dX15_sealOf_328 ?_
                refine lv_aload_n hx hb dX15_sealOf_331 rfl (lv_at hl 0 rfl) ?_
                refine pg_get (ci := 15) (v := .ref xa) (C := RX15) (T := TX15) (N := 59) hx hb hts it_15 hown hK hP hL_h0 hF_447 rfl 44 (by decide) (hts _ kt_950) (fun _ h9 => h9) rfl dX15_sealOf_332 ?_
                have hFc := pg_free hD hS hA
                refine va_callv (va_runV (As := [.ref rl, .int (nI z_448), .ref xa]) (rest := []) ⟨hx, hb, hml, hown, hts⟩ (s_X15_digest l dC dI cs ty gm L H.size F_439 h0 ρ ta ou so ad na va lc dm tg pe ml bg co sp nb0 nb1 nb2 pl se ke wi hs mo po nu pr sq xa sa n64 m64 ex wh sd tk hd ak ho ot sx s0 s1 s2 nf bd mm zt rl (ρ + 10) 6000 xa (ρ + 19) 32 z_448 hW hL_h0 hT_h0 hi_114 ht_115 hi_69 ht_70 (by first | omega | assumption) (by first | omega | assumption)) ⟨callB_of 3 hts (gi kt_1022) rfl rfl rfl (hts _ kt_669) (hts _ kt_1023) (by decide +kernel) ⟨Nat.le_of_ble_eq_true rfl, Nat.le_of_ble_eq_true rfl⟩, (hts _ kt_1024), (hts _ kt_1025)⟩ ⟨fun a U g mk q => ⟨q.1, PTm.calling q.2⟩, pg_recv hK hP hL_h0 hF_447 (q := (RX15, TX15, 59)) rfl, fun U hU hWm => ⟨rfl, PTm.mk hU hWm hP hK hD hE hO⟩⟩ rfl rfl hl.1 rfl (lv_room (Nat.le_of_ble_eq_true rfl)) dX15_sealOf_335 ⟨by show _ + 0 ≤ 0; omega, by show _ + 0 ≤ 0; omega⟩) hS (fun q _ h => hFc q h) hFc (fun u t H1 locs ht hvm hw hB hz1 hk1 hS => ?_)
                obtain ⟨F_452, hB1⟩ := hB
                obtain ⟨hP, hD, hO, hR⟩ := QTm.back hB1 ht hFc hR (fun q h => by simp only [List.mem_cons, List.not_mem_nil, or_false] at h ⊢; omega)
                have hF_453 : F_452 co = .inl (cs 16, 21, .inl f_144) := (hB1.2.2.2 co (by rw [ht_29]; simp)).trans hF_440
                have hF_454 : F_452 sp = .inl (cs 16, 21, .inl f_149) := (hB1.2.2.2 sp (by rw [ht_31]; simp)).trans hF_441
                have hF_455 : F_452 sb = .inl (cs 17, 3000, .inl eb) := (hB1.2.2.2 sb (by rw [ht_112]; simp)).trans hF_442
                have hF_456 : F_452 s0 = .inl (cs 16, 40, .inl e0) := (hB1.2.2.2 s0 (by rw [ht_106]; simp)).trans hF_443
                have hF_457 : F_452 s1 = .inl (cs 16, 40, .inl e1) := (hB1.2.2.2 s1 (by rw [ht_107]; simp)).trans hF_444
                have hF_458 : F_452 s2 = .inl (cs 16, 40, .inl e2) := (hB1.2.2.2 s2 (by rw [ht_108]; simp)).trans hF_445
                have hF_459 : F_452 se = .inr (13, [.ref sx, .ref s0, .ref s1, .ref s2, .int (nI zs)]) := (hB1.2.2.2 se (by rw [ht_39]; simp)).trans hF_446
                have hF_460 : F_452 h0 = .inr (15, (.ref ta) :: (.int (nI zt)) :: (.int (nI zo_397)) :: (.int (nI ze_398)) :: (.ref ou) :: (.ref so) :: (.ref ad) :: (.ref na) :: (.ref va) :: (.ref lc) :: (.ref dm) :: (.int v11_399) :: (.int v12_400) :: (.ref tg) :: (.int v14_401) :: (.int v15_402) :: (.ref pe) :: (.int v17_403) :: (.int v18_404) :: (.int v19_405) :: (.int v20_406) :: (.int v21_407) :: (.int v22_408) :: (.ref ml) :: (.ref bg) :: (.ref co) :: (.ref sp) :: (.ref nb0) :: (.ref nb1) :: (.ref nb2) :: (.int (nI nf)) :: (.int (nI bd)) :: (.int (nI mm)) :: (.int v33_409) :: (.ref pl) :: (.ref se) :: (.ref ke) :: (.ref wi) :: (.ref hs) :: (.ref mo) :: (.ref po) :: (.ref nu) :: (.ref pr) :: (.ref sq) :: (.ref xa) :: (.ref sa) :: (.ref n64) :: (.ref m64) :: (.ref ex) :: (.ref wh) :: (.ref sd) :: (.ref tk) :: (.int v52_410) :: (.int v53_411) :: (.int v54_412) :: (.ref hd) :: (.ref ak) :: (.ref ho) :: (.ref ot) :: []) := (hB1.2.2.2 h0 (by rw [hT_h0]; simp)).trans hF_447
                have hF_461 : F_452 pl = .inr (14, [.ref rl, .int (nI z_448)]) := (hB1.2.2.2 pl (by rw [hT_pl]; simp)).trans hF_449
                generalize H1 = H at hP hS ⊢
                refine lv_aload_n hx hb dX15_sealOf_338 rfl (lv_at hl 0 rfl) ?_
                have hFc := pg_free hD hS hA
                refine va_calli (va_runV (As := []) (rest := []) ⟨hx, hb, hml, hown, hts⟩ (s_X15_isPower l dC dI cs ty gm L H.size F_452 h0 ρ ta ou so ad na va lc dm tg pe ml bg co sp nb0 nb1 nb2 pl se ke wi hs mo po nu pr sq xa sa n64 m64 ex wh sd tk hd ak ho ot sx s0 s1 s2 nf bd mm zt hW hL_h0 hT_h0) ⟨callB_of 0 hts (gi kt_1033) rfl rfl rfl (hts _ kt_669) (hts _ kt_1034) (by decide +kernel) ⟨Nat.le_of_ble_eq_true rfl, Nat.le_of_ble_eq_true rfl⟩, (hts _ kt_1035), (hts _ kt_1036)⟩ ⟨fun a U g mk q => ⟨q.1, PTm.calling q.2⟩, pg_recv hK hP hL_h0 hF_460 (q := (RX15, TX15, 59)) rfl, fun U hU hWm => ⟨rfl, PTm.mk hU hWm hP hK hD hE hO⟩⟩ rfl rfl hl.1 rfl (lv_room (Nat.le_of_ble_eq_true rfl)) dX15_sealOf_339 ⟨by show _ + 0 ≤ 0; omega, by show _ + 0 ≤ 0; omega⟩) hS (fun q _ h => hFc q h) hFc (fun r_462 u t H1 locs ht hvm hw hB hz1 hk1 hS => ?_)
                obtain ⟨F_463, hB1⟩ := hB
                obtain ⟨hP, hD, hO, hR⟩ := QTm.back hB1 ht hFc hR (fun q h => by simp only [List.mem_cons, List.not_mem_nil, or_false] at h ⊢; omega)
                have hF_464 : F_463 co = .inl (cs 16, 21, .inl f_144) := (hB1.2.2.2 co (by rw [ht_29]; simp)).trans hF_453
                have hF_465 : F_463 sp = .inl (cs 16, 21, .inl f_149) := (hB1.2.2.2 sp (by rw [ht_31]; simp)).trans hF_454
                have hF_466 : F_463 sb = .inl (cs 17, 3000, .inl eb) := (hB1.2.2.2 sb (by rw [ht_112]; simp)).trans hF_455
                have hF_467 : F_463 s0 = .inl (cs 16, 40, .inl e0) := (hB1.2.2.2 s0 (by rw [ht_106]; simp)).trans hF_456
                have hF_468 : F_463 s1 = .inl (cs 16, 40, .inl e1) := (hB1.2.2.2 s1 (by rw [ht_107]; simp)).trans hF_457
                have hF_469 : F_463 s2 = .inl (cs 16, 40, .inl e2) := (hB1.2.2.2 s2 (by rw [ht_108]; simp)).trans hF_458
                have hF_470 : F_463 se = .inr (13, [.ref sx, .ref s0, .ref s1, .ref s2, .int (nI zs)]) := (hB1.2.2.2 se (by rw [ht_39]; simp)).trans hF_459
                have hF_471 : F_463 h0 = .inr (15, (.ref ta) :: (.int (nI zt)) :: (.int (nI zo_397)) :: (.int (nI ze_398)) :: (.ref ou) :: (.ref so) :: (.ref ad) :: (.ref na) :: (.ref va) :: (.ref lc) :: (.ref dm) :: (.int v11_399) :: (.int v12_400) :: (.ref tg) :: (.int v14_401) :: (.int v15_402) :: (.ref pe) :: (.int v17_403) :: (.int v18_404) :: (.int v19_405) :: (.int v20_406) :: (.int v21_407) :: (.int v22_408) :: (.ref ml) :: (.ref bg) :: (.ref co) :: (.ref sp) :: (.ref nb0) :: (.ref nb1) :: (.ref nb2) :: (.int (nI nf)) :: (.int (nI bd)) :: (.int (nI mm)) :: (.int v33_409) :: (.ref pl) :: (.ref se) :: (.ref ke) :: (.ref wi) :: (.ref hs) :: (.ref mo) :: (.ref po) :: (.ref nu) :: (.ref pr) :: (.ref sq) :: (.ref xa) :: (.ref sa) :: (.ref n64) :: (.ref m64) :: (.ref ex) :: (.ref wh) :: (.ref sd) :: (.ref tk) :: (.int v52_410) :: (.int v53_411) :: (.int v54_412) :: (.ref hd) :: (.ref ak) :: (.ref ho) :: (.ref ot) :: []) := (hB1.2.2.2 h0 (by rw [hT_h0]; simp)).trans hF_460
                have hF_472 : F_463 pl = .inr (14, [.ref rl, .int (nI z_448)]) := (hB1.2.2.2 pl (by rw [hT_pl]; simp)).trans hF_461
                generalize H1 = H at hP hS ⊢
                have hw : (r_462 = 0 ∨ r_462 = 1) := hw
                have hw_473 := hw
                refine lv_if_eq (tgt := 349) hx hb dX15_sealOf_342 (by decide) (fun c_474 => ?_) (fun c_474 => ?_)
                ·
                  refine lv_iconst (v := 3) hx hb dX15_sealOf_349 (by decide) ?_
                  refine W.widen (k := 0) (n := 0) (by omega) (by omega) ?_
                  exact W.iret (v := 3) hx hb hr (fun t ht hWm => ⟨⟨3, (), rfl, trivial, ⟨F_463, QTm.mk ht hP hD hO hR⟩⟩, hS.F ht⟩) hS.2.2 dX15_sealOf_350
                ·
                  refine lv_iconst (v := 2) hx hb dX15_sealOf_345 (by decide) ?_
                  refine lv_goto (tgt := 350) hx hb dX15_sealOf_346 (by decide) ?_
                  refine W.widen (k := 0) (n := 0) (by omega) (by omega) ?_
                  exact W.iret (v := 2) hx hb hr (fun t ht hWm => ⟨⟨2, (), rfl, trivial, ⟨F_463, QTm.mk ht hP hD hO hR⟩⟩, hS.F ht⟩) hS.2.2 dX15_sealOf_350
              ·
                refine lv_iconst (v := 3) hx hb dX15_sealOf_309 (by decide) ?_
                refine W.widen (k := 0) (n := 0) (by omega) (by omega) ?_
                exact W.iret (v := 3) hx hb hr (fun t ht hWm => ⟨⟨3, (), rfl, trivial, ⟨F_423, QTm.mk ht hP hD hO hR⟩⟩, hS.F ht⟩) hS.2.2 dX15_sealOf_310
            ·
              refine lv_iload hx hb dX15_sealOf_271 (lv_at hl 0 rfl) ?_
              refine lv_if_lt (tgt := 281) hx hb dX15_sealOf_273 (by decide) (fun c_475 => ?_) (fun c_475 => ?_)
              ·
                refine lv_aload_n hx hb dX15_sealOf_281 rfl (lv_at hl 2 rfl) ?_
                refine pg_get (ci := 15) (v := .ref pl) (C := RX15) (T := TX15) (N := 59) hx hb hts it_15 hown hK hP hL_h0 hF_379 rfl 34 (by decide) (hts _ kt_916) (fun _ h9 => h9) rfl dX15_sealOf_282 ?_
                refine pg_get (ci := 14) (v := .int (nI z_386)) (C := RX14) (T := TX14) (N := 2) hx hb hts it_14 hown hK hP hL_pl hF_387 rfl 1 (by decide) (hts _ kt_709) (fun _ h9 => h9) rfl dX15_sealOf_285 ?_
                refine W.widen (k := 0) (n := 0) (by omega) (by omega) ?_
                exact jn_390 (nI z_386) F_370 (⟨⟨z_386, by omega, rfl⟩, hF_373, hF_374, hF_375, hF_376, hF_377⟩) hO hR _ _ hP hD hS ls (lv_sub hl [2, 3, 4] rfl)
              ·
                have hr9 := c_389
                obtain ⟨km, hkm, ekm⟩ := nI_of c_475
                subst ekm
                have hkz : km ≤ z_386 := (nI_leI hkm (by omega)).mp hr9
                refine lv_iload hx hb dX15_sealOf_276 (lv_at hl 0 rfl) ?_
                refine lv_goto (tgt := 288) hx hb dX15_sealOf_278 (by decide) ?_
                refine W.widen (k := 0) (n := 0) (by omega) (by omega) ?_
                exact jn_390 (nI km) F_370 (⟨⟨km, by omega, rfl⟩, hF_373, hF_374, hF_375, hF_376, hF_377⟩) hO hR _ _ hP hD hS ls (lv_sub hl [2, 3, 4] rfl)
          ·
            refine lv_iconst (v := 3) hx hb dX15_sealOf_261 (by decide) ?_
            refine W.widen (k := 0) (n := 0) (by omega) (by omega) ?_
            exact W.iret (v := 3) hx hb hr (fun t ht hWm => ⟨⟨3, (), rfl, trivial, ⟨F_370, QTm.mk ht hP hD hO hR⟩⟩, hS.F ht⟩) hS.2.2 dX15_sealOf_262
        ·
          refine lv_iload hx hb dX15_sealOf_226 (lv_at hl 0 rfl) ?_
          refine W.widen (k := 0) (n := 0) (by omega) (by omega) ?_
          exact W.iret (v := r_355) hx hb hr (fun t ht hWm => ⟨⟨r_355, (), rfl, trivial, ⟨F_356, QTm.mk ht hP hD hO hR⟩⟩, hS.F ht⟩) hS.2.2 dX15_sealOf_228
      ·
        have hi_476 : j < 12 := ltN (N := 12) c_318
        refine lv_aload_n hx hb dX15_sealOf_171 rfl (lv_at hl 1 rfl) ?_
        obtain ⟨zo_477, ze_478, v11_479, v12_480, v14_481, v15_482, v17_483, v18_484, v19_485, v20_486, v21_487, v22_488, v33_489, v52_490, v53_491, v54_492, hF_493, hq_494, hq_495, hq_496, hq_497⟩ := hO.mod hL_h0 hT_h0
        refine pg_get (ci := 15) (v := .ref wh) (C := RX15) (T := TX15) (N := 59) hx hb hts it_15 hown hK hP hL_h0 hF_493 rfl 49 (by decide) (hts _ kt_953) (fun _ h9 => h9) rfl dX15_sealOf_172 ?_
        obtain ⟨q_498, v_499, hr_q_498, hX_q_498⟩ := hG.2.2 ("PostGateModel", 514, "._domainkey.", [46, 95, 100, 111, 109, 97, 105, 110, 107, 101, 121, 46]) (by decide +kernel)
        have hX_q_498 : SXc q_498 v_499 12 (cct [46, 95, 100, 111, 109, 97, 105, 110, 107, 101, 121, 46]) A s s.heap := hX_q_498
        obtain ⟨xo_q_498, xc_q_498, xv_q_498, xt_q_498, xn_q_498⟩ := id hX_q_498
        have hr_q_498 : vk_R "PostGateModel" 514 "._domainkey." q_498 s := hr_q_498
        refine va_ldcwS hx hb hown hr_q_498 dX15_sealOf_175 ?_
        refine lv_iload hx hb dX15_sealOf_178 (lv_at hl 0 rfl) ?_
        have hFc := pg_free hD hS hA
        refine va_calli (va_runV (As := [.int (nI j)]) (rest := [.ref wh]) ⟨hx, hb, hml, hown, hts⟩ (m_J0_charAt_5068e l dC dI cs ty gm L H.size F_311 q_498 v_499 12 (cct [46, 95, 100, 111, 109, 97, 105, 110, 107, 101, 121, 46]) j hW (by first | omega | assumption)) ⟨callB_of 1 hts (gi kt_75) rfl rfl rfl (hts _ kt_51) (hts _ kt_693) (by decide +kernel) ⟨Nat.le_of_ble_eq_true rfl, Nat.le_of_ble_eq_true rfl⟩, (hts _ kt_77), (hts _ kt_78)⟩ ⟨fun a U g mk q => ⟨q.1, PTEm.calling q.2⟩, sx_recv hX_q_498.sx hS, fun U hU hWm => ⟨rfl, PTEm.mk hU hWm hP hK hD hE hO hG (fun x hx => by rw [List.mem_singleton] at hx; subst hx; exact hX_q_498) hS hFc⟩⟩ rfl rfl hl.1 rfl (lv_room (Nat.le_of_ble_eq_true rfl)) dX15_sealOf_180 ⟨by show _ + 0 ≤ 0; omega, by show _ + 0 ≤ 0; omega⟩) hS (fun q _ h => hFc q h) hFc (fun r_500 u t H1 locs ht hvm hw hB hz1 hk1 hS => ?_)
        obtain ⟨F_501, hB1⟩ := hB
        obtain rfl : F_311 = F_501 := (funext (fun a => hB1.2.2.2 a List.not_mem_nil)).symm
        obtain ⟨hP, hD, hO, hR⟩ := QTm.back hB1 ht hFc hR (fun q h => absurd h List.not_mem_nil)
        generalize H1 = H at hP hS ⊢
        have hw : r_500 = chv ((cct [46, 95, 100, 111, 109, 97, 105, 110, 107, 101, 121, 46]) j) := hw
        subst hw
        have hFc := pg_free hD hS hA
        refine va_callv (va_runV (As := [.int (chv ((cct [46, 95, 100, 111, 109, 97, 105, 110, 107, 101, 121, 46]) j))]) (rest := []) ⟨hx, hb, hml, hown, hts⟩ (s_X14_add l dC dI cs ty gm L H.size F_311 wh (ρ + 24) r_80 6000 ((k_291 - (k_285 + 1)) + j) (chv ((cct [46, 95, 100, 111, 109, 97, 105, 110, 107, 101, 121, 46]) j)) hW hi_79 ht_81 hwh2 (by first | omega | assumption)) ⟨callB_of 1 hts (gi kt_711) rfl rfl rfl (hts _ kt_676) (hts _ kt_712) (by decide +kernel) ⟨Nat.le_of_ble_eq_true rfl, Nat.le_of_ble_eq_true rfl⟩, (hts _ kt_713), (hts _ kt_714)⟩ ⟨fun a U g mk q => ⟨q.1, PTm.calling q.2⟩, pg_recv hK hP hi_79 hwh2 (q := (RX14, TX14, 2)) rfl, fun U hU hWm => ⟨rfl, PTm.mk hU hWm hP hK hD hE hO⟩⟩ rfl rfl hl.1 rfl (lv_room (Nat.le_of_ble_eq_true rfl)) dX15_sealOf_183 ⟨by show _ + 0 ≤ 0; omega, by show _ + 0 ≤ 0; omega⟩) hS (fun q _ h => hFc q h) hFc (fun u t H1 locs ht hvm hw hB hz1 hk1 hS => ?_)
        obtain ⟨F_503, hB1, hq_504⟩ := hB
        obtain ⟨hP, hD, hO, hR⟩ := QTm.back hB1 ht hFc hR (fun q h => by simp only [List.mem_cons, List.not_mem_nil, or_false] at h ⊢; omega)
        have hF_505 : F_503 co = .inl (cs 16, 21, .inl f_144) := (hB1.2.2.2 co (by rw [ht_29]; simp)).trans hF_316
        have hF_506 : F_503 sp = .inl (cs 16, 21, .inl f_149) := (hB1.2.2.2 sp (by rw [ht_31]; simp)).trans hF_317
        have hF_507 : F_503 sb = .inl (cs 17, 3000, .inl eb) := (hB1.2.2.2 sb (by rw [ht_112]; simp)).trans hna
        have hF_508 : F_503 s0 = .inl (cs 16, 40, .inl e0) := (hB1.2.2.2 s0 (by rw [ht_106]; simp)).trans hnb
        have hF_509 : F_503 s1 = .inl (cs 16, 40, .inl e1) := (hB1.2.2.2 s1 (by rw [ht_107]; simp)).trans hnc
        have hF_510 : F_503 s2 = .inl (cs 16, 40, .inl e2) := (hB1.2.2.2 s2 (by rw [ht_108]; simp)).trans hnd
        have hF_511 : F_503 se = .inr (13, [.ref sx, .ref s0, .ref s1, .ref s2, .int (nI zs)]) := (hB1.2.2.2 se (by rw [ht_39]; simp)).trans hne
        have hF_512 : F_503 sd = .inr (14, [.ref r_83, .int (nI (k_232 - (k_226 + 1)))]) := (hB1.2.2.2 sd (by rw [ht_84]; simp)).trans hsd2
        have hF_513 : F_503 h0 = .inr (15, (.ref ta) :: (.int (nI zt)) :: (.int (nI zo_477)) :: (.int (nI ze_478)) :: (.ref ou) :: (.ref so) :: (.ref ad) :: (.ref na) :: (.ref va) :: (.ref lc) :: (.ref dm) :: (.int v11_479) :: (.int v12_480) :: (.ref tg) :: (.int v14_481) :: (.int v15_482) :: (.ref pe) :: (.int v17_483) :: (.int v18_484) :: (.int v19_485) :: (.int v20_486) :: (.int v21_487) :: (.int v22_488) :: (.ref ml) :: (.ref bg) :: (.ref co) :: (.ref sp) :: (.ref nb0) :: (.ref nb1) :: (.ref nb2) :: (.int (nI nf)) :: (.int (nI bd)) :: (.int (nI mm)) :: (.int v33_489) :: (.ref pl) :: (.ref se) :: (.ref ke) :: (.ref wi) :: (.ref hs) :: (.ref mo) :: (.ref po) :: (.ref nu) :: (.ref pr) :: (.ref sq) :: (.ref xa) :: (.ref sa) :: (.ref n64) :: (.ref m64) :: (.ref ex) :: (.ref wh) :: (.ref sd) :: (.ref tk) :: (.int v52_490) :: (.int v53_491) :: (.int v54_492) :: (.ref hd) :: (.ref ak) :: (.ref ho) :: (.ref ot) :: []) := (hB1.2.2.2 h0 (by rw [hT_h0]; simp)).trans hF_493
        generalize H1 = H at hP hS ⊢
        refine lv_iinc (v := (nI (j + 1))) (lv' := [(6, .int (nI (j + 1))), (0, .ref h0), (1, .int (nI jf)), (2, .int x2)]) hx hb dX15_sealOf_186 hl (k := 0) rfl (nI_1 _) (by decide) rfl (fun ls hl => ?_)
        refine lv_goto (tgt := 164) hx hb dX15_sealOf_189 (by decide) ?_
        refine W.widen (k := 0) (n := 0) (by omega) (by omega) ?_
        exact ih_315 (j + 1) F_503 (⟨by omega, hF_507, hF_508, hF_509, hF_510, hF_511, hF_512, hq_504⟩) (by show 12 - (j + 1) < 12 - j; omega) hO hR _ _ hP hD hS ls (lv_sub hl [0, 1, 2, 3] rfl)
    ·
      refine lv_iload hx hb dX15_sealOf_109 (lv_at hl 0 rfl) ?_
      refine lv_if_lt (tgt := 122) hx hb dX15_sealOf_111 (by decide) (fun c_514 => ?_) (fun c_514 => ?_)
      ·
        refine W.widen (k := 0) (n := 0) (by omega) (by omega) ?_
        exact jn_253 () F_242 (⟨hF_247, hF_248, hF_249, hF_250, hF_251, hq_243⟩) hO hR _ _ hP hD hS ls (lv_sub hl [1, 3, 4, 5] rfl)
      ·
        refine lv_iload_n hx hb dX15_sealOf_114 rfl (lv_at hl 5 rfl) ?_
        refine lv_iload hx hb dX15_sealOf_115 (lv_at hl 0 rfl) ?_
        refine lv_icmp_le (tgt := 122) hx hb dX15_sealOf_117 (by decide) (fun c_515 => ?_) (fun c_515 => ?_)
        ·
          refine W.widen (k := 0) (n := 0) (by omega) (by omega) ?_
          exact jn_253 () F_242 (⟨hF_247, hF_248, hF_249, hF_250, hF_251, hq_243⟩) hO hR _ _ hP hD hS ls (lv_sub hl [1, 3, 4, 5] rfl)
        ·
          refine lv_iconst (v := 3) hx hb dX15_sealOf_120 (by decide) ?_
          refine W.widen (k := 0) (n := 0) (by omega) (by omega) ?_
          exact W.iret (v := 3) hx hb hr (fun t ht hWm => ⟨⟨3, (), rfl, trivial, ⟨F_242, QTm.mk ht hP hD hO hR⟩⟩, hS.F ht⟩) hS.2.2 dX15_sealOf_121
  ·
    refine lv_iconst (v := 1) hx hb dX15_sealOf_35 (by decide) ?_
    refine W.widen (k := 0) (n := 0) (by omega) (by omega) ?_
    exact W.iret (v := 1) hx hb hr (fun t ht hWm => ⟨⟨1, (), rfl, trivial, ⟨F_169, QTm.mk ht hP hD hO hR⟩⟩, hS.F ht⟩) hS.2.2 dX15_sealOf_36
set_option maxHeartbeats 4000000 in
set_option maxRecDepth 100000 in
theorem s_X15_sealed (l : Launch) (dC : Nat → ClassId) (dI : Nat → Nat → Nat) (cs : Nat → ClassId) (ty : TyM) (gm : Nat → Nat → Nat) (L : List Nat) (sz : Nat) (F : Nat → va_E) (h0 : Nat) (ρ : Nat) (ta : Nat) (ou : Nat) (so : Nat) (ad : Nat) (na : Nat) (va : Nat) (lc : Nat) (dm : Nat) (tg : Nat) (pe : Nat) (ml : Nat) (bg : Nat) (co : Nat) (sp : Nat) (nb0 : Nat) (nb1 : Nat) (nb2 : Nat) (pl : Nat) (se : Nat) (ke : Nat) (wi : Nat) (hs : Nat) (mo : Nat) (po : Nat) (nu : Nat) (pr : Nat) (sq : Nat) (xa : Nat) (sa : Nat) (n64 : Nat) (m64 : Nat) (ex : Nat) (wh : Nat) (sd : Nat) (tk : Nat) (hd : Nat) (ak : Nat) (ho : Nat) (ot : Nat) (sx : Nat) (s0 : Nat) (s1 : Nat) (s2 : Nat) (nf : Nat) (bd : Nat) (mm : Nat) (zt : Nat) (sb : Nat) (rl : Nat) (x1 : Int32) (x2 : Int32) (hW : WTm ty gm L) (hL_h0 : h0 ∈ L) (hT_h0 : ty h0 = (15, ρ, [ta, ou, so, ad, na, va, lc, dm, tg, pe, ml, bg, co, sp, nb0, nb1, nb2, pl, se, ke, wi, hs, mo, po, nu, pr, sq, xa, sa, n64, m64, ex, wh, sd, tk, hd, ak, ho, ot, sx, s0, s1, s2, nf, bd, mm, zt])) (hL_sx : sx ∈ L) (hT_sx : ty sx = (14, ρ + 12, [sb, 3000])) (hL_pl : pl ∈ L) (hT_pl : ty pl = (14, ρ + 10, [rl, 6000])) : Met l yX15_sealed (.code yX15_sealed cX15_sealed 4 (some .int) :: tb) ({ frames := 9, cells := 0, slots := 0, locals := 213 }) (va_Pc [.ref h0, .int x1, .int x2] (PTEm (dC, dI) cs ty gm L F sz [])) (va_Qi (fun (r : Int32) (_ : Unit) => True) (fun _ T9 => ∃ F2 : Nat → va_E, QTm (dC, dI) cs ty gm L [ρ, ρ + 10, ρ + 11, ρ + 12, ρ + 13, ρ + 14, ρ + 17, ρ + 18, ρ + 19, ρ + 20, ρ + 21, ρ + 22, ρ + 23, ρ + 24, ρ + 25, ρ + 26] F F2 (va_A (va_pl L F) sz) T9) (va_A (va_pl L F) sz)) 0 0 (va_A (va_pl L F) sz) := by
  refine Met.ofW (cc := cX15_sealed) (maxL := 4) (ret := (some .int)) (by decide) rfl ?_
  intro p e s m args below meth c s₁ B hml hv
  obtain ⟨rfl, ⟨hsz, hP, hK, hD0, hE, hO⟩, hG, hX⟩ := hv
  have hx := B.exec
  have hb := B.bytes
  have hr := B.returns
  have hts : ∀ w ∈ tb, w.before _ s = true := fun w h => atoms_spec (ws := .code yX15_sealed cX15_sealed 4 (some .int) :: tb) B.pre w (List.mem_cons_of_mem _ h)
  have hown : s.vm.findClass RX15 = some m.cls := findClass_of_methodNamed B.named
  have hlocks := B.notSynchronized
  subst hsz
  have hD := hD0.self (sz := s.heap.size)
  generalize hAe : va_A (va_pl L F) s.heap.size = A at hD hG hX ⊢
  have hA : ∀ q : Nat, s.heap.size ≤ q → A q := fun q h => by rw [← hAe]; exact Or.inr h
  have hS : va_S A s.heap s.heap [] := va_S.rf
  have hR : FR ty [ρ, ρ + 10, ρ + 11, ρ + 12, ρ + 13, ρ + 14, ρ + 17, ρ + 18, ρ + 19, ρ + 20, ρ + 21, ρ + 22, ρ + 23, ρ + 24, ρ + 25, ρ + 26] F F := FR.refl
  have hl := lv_entry ([.ref h0, .int x1, .int x2]) (n := 4) (Nat.le_of_ble_eq_true rfl)
  rw [lg_entry_eq]
  generalize (lg_sl ([.ref h0, .int x1, .int x2]) ++ List.replicate (4 - (lg_sl ([.ref h0, .int x1, .int x2])).length) Slot.unset).toArray = ls at hl ⊢
  have hl : lv_has ls 4 [(0, .ref h0), (1, .int x1), (2, .int x2)] := hl
  obtain ⟨hi_1, ht_2, hi_3, ht_4, hi_5, ht_6, hi_7, ht_8, hi_9, ht_10, hi_11, ht_12, hi_13, ⟨r_14, ht_15⟩, hi_16, ⟨r_17, ht_18⟩, hi_19, ht_20, hi_21, ⟨r_22, ht_23⟩, hi_24, ht_25, hi_26, ht_27, hi_28, ht_29, hi_30, ht_31, hi_32, ht_33, hi_34, ht_35, hi_36, ht_37, _, _, hi_38, ht_39, hi_40, ⟨x_41, y0_42, y1_43, y2_44, ht_45⟩, hi_46, ⟨x_47, y0_48, y1_49, y2_50, ht_51⟩, hi_52, ⟨x_53, y_54, w_55, u_56, bl_57, ht_58⟩, hi_59, ht_60, hi_61, ht_62, hi_63, ht_64, hi_65, ht_66, hi_67, ht_68, hi_69, ht_70, hi_71, ht_72, hi_73, ht_74, hi_75, ht_76, hi_77, ht_78, hi_79, ⟨r_80, ht_81⟩, hi_82, ⟨r_83, ht_84⟩, hi_85, ht_86, hi_87, ht_88, hi_89, ⟨r_90, ht_91⟩, hi_92, ⟨r_93, ht_94⟩, hi_95, ⟨r_96, ht_97⟩, hq_98, hq_99, hq_100, hq_101, hq_102, hgO, hgA, hgB⟩ := hW.mod hL_h0 hT_h0
  obtain ⟨_, hi_103, hi_104, hi_105, _, ht_106, ht_107, ht_108, hq_109, hq_110⟩ := hW.tags hi_38 ht_39
  obtain ⟨hi_111, ht_112, hq_113⟩ := hW.txt hL_sx hT_sx
  obtain ⟨hi_114, ht_115, hq_116⟩ := hW.txt hL_pl hT_pl
  refine lv_iload_n hx hb dX15_sealed_0 rfl (lv_at hl 2 rfl) ?_
  refine lv_if_ge (tgt := 6) hx hb dX15_sealed_1 (by decide) (fun c_117 => ?_) (fun c_117 => ?_)
  ·
    refine lv_aload_n hx hb dX15_sealed_6 rfl (lv_at hl 0 rfl) ?_
    refine lv_iload_n hx hb dX15_sealed_7 rfl (lv_at hl 1 rfl) ?_
    have hFc := pg_free hD hS hA
    obtain ⟨zo_118, ze_119, v11_120, v12_121, v14_122, v15_123, v17_124, v18_125, v19_126, v20_127, v21_128, v22_129, v33_130, v52_131, v53_132, v54_133, hF_134, hq_135, hq_136, hq_137, hq_138⟩ := hO.mod hL_h0 hT_h0
    refine va_calli (va_runV (As := [.int x1]) (rest := []) ⟨hx, hb, hml, hown, hts⟩ (s_X15_sealAt l dC dI cs ty gm L s.heap.size F h0 ρ ta ou so ad na va lc dm tg pe ml bg co sp nb0 nb1 nb2 pl se ke wi hs mo po nu pr sq xa sa n64 m64 ex wh sd tk hd ak ho ot sx s0 s1 s2 nf bd mm zt x1 hW hL_h0 hT_h0) ⟨callB_of 1 hts (gi kt_1037) rfl rfl rfl (hts _ kt_669) (hts _ kt_1038) (by decide +kernel) ⟨Nat.le_of_ble_eq_true rfl, Nat.le_of_ble_eq_true rfl⟩, (hts _ kt_1039), (hts _ kt_1040)⟩ ⟨fun a U g mk q => ⟨q.1, PTEm.calling q.2⟩, pg_recv hK hP hL_h0 hF_134 (q := (RX15, TX15, 59)) rfl, fun U hU hWm => ⟨rfl, PTEm.mk hU hWm hP hK hD hE hO hG (fun x hx => absurd hx List.not_mem_nil) hS hFc⟩⟩ rfl rfl hl.1 rfl (lv_room (Nat.le_of_ble_eq_true rfl)) dX15_sealed_8 ⟨by show _ + 0 ≤ 0; omega, by show _ + 0 ≤ 0; omega⟩) hS (fun q _ h => hFc q h) hFc (fun r_139 u t H1 locs ht hvm hw hB hz1 hk1 hS => ?_)
    obtain ⟨F_140, hB1⟩ := hB
    obtain rfl : F = F_140 := (funext (fun a => hB1.2.2.2 a List.not_mem_nil)).symm
    obtain ⟨hP, hD, hO, hR⟩ := QTm.back hB1 ht hFc hR (fun q h => absurd h List.not_mem_nil)
    generalize H1 = H at hP hS ⊢
    have hw : (r_139 = (-1) ∨ ∃ j : Nat, j < nf ∧ r_139 = nI j) := hw
    have hw_141 := hw
    refine lv_istore_n (lv' := [(3, .int r_139), (0, .ref h0), (1, .int x1), (2, .int x2)]) hx hb dX15_sealed_11 rfl hl (by decide) rfl (fun ls hl => ?_)
    refine lv_iload_n hx hb dX15_sealed_12 rfl (lv_at hl 0 rfl) ?_
    refine lv_if_ge (tgt := 21) hx hb dX15_sealed_13 (by decide) (fun c_142 => ?_) (fun c_142 => ?_)
    ·
      obtain ⟨jf, hjf, ej⟩ := rowB hw_141 c_142
      subst ej
      refine lv_aload_n hx hb dX15_sealed_21 rfl (lv_at hl 1 rfl) ?_
      refine lv_iload_n hx hb dX15_sealed_22 rfl (lv_at hl 0 rfl) ?_
      refine lv_iload_n hx hb dX15_sealed_23 rfl (lv_at hl 3 rfl) ?_
      have hFc := pg_free hD hS hA
      refine va_calli (va_runV (As := [.int (nI jf), .int x2]) (rest := []) ⟨hx, hb, hml, hown, hts⟩ (s_X15_sealOf l dC dI cs ty gm L H.size F h0 ρ ta ou so ad na va lc dm tg pe ml bg co sp nb0 nb1 nb2 pl se ke wi hs mo po nu pr sq xa sa n64 m64 ex wh sd tk hd ak ho ot sx s0 s1 s2 nf bd mm zt sb rl jf x2 hW hL_h0 hT_h0 hL_sx hT_sx hL_pl hT_pl (by first | omega | assumption)) ⟨callB_of 2 hts (gi kt_1041) rfl rfl rfl (hts _ kt_669) (hts _ kt_1042) (by decide +kernel) ⟨Nat.le_of_ble_eq_true rfl, Nat.le_of_ble_eq_true rfl⟩, (hts _ kt_1043), (hts _ kt_1044)⟩ ⟨fun a U g mk q => ⟨q.1, PTEm.calling q.2⟩, pg_recv hK hP hL_h0 hF_134 (q := (RX15, TX15, 59)) rfl, fun U hU hWm => ⟨rfl, PTEm.mk hU hWm hP hK hD hE hO hG (fun x hx => absurd hx List.not_mem_nil) hS hFc⟩⟩ rfl rfl hl.1 rfl (lv_room (Nat.le_of_ble_eq_true rfl)) dX15_sealed_24 ⟨by show _ + 0 ≤ 0; omega, by show _ + 0 ≤ 0; omega⟩) hS (fun q _ h => hFc q h) hFc (fun r_143 u t H1 locs ht hvm hw hB hz1 hk1 hS => ?_)
      obtain ⟨F_144, hB1⟩ := hB
      obtain ⟨hP, hD, hO, hR⟩ := QTm.back hB1 ht hFc hR (fun q h => by simp only [List.mem_cons, List.not_mem_nil, or_false] at h ⊢; omega)
      generalize H1 = H at hP hS ⊢
      have hw : True := hw
      have hw_145 := hw
      refine W.widen (k := 0) (n := 0) (by omega) (by omega) ?_
      exact W.iret (v := r_143) hx hb hr (fun t ht hWm => ⟨⟨r_143, (), rfl, trivial, ⟨F_144, QTm.mk ht hP hD hO hR⟩⟩, hS.F ht⟩) hS.2.2 dX15_sealed_27
    ·
      refine lv_bipush (v := (-2)) hx hb dX15_sealed_16 (by decide) ?_
      refine lv_goto (tgt := 27) hx hb dX15_sealed_18 (by decide) ?_
      refine W.widen (k := 0) (n := 0) (by omega) (by omega) ?_
      exact W.iret (v := (-2)) hx hb hr (fun t ht hWm => ⟨⟨(-2), (), rfl, trivial, ⟨F, QTm.mk ht hP hD hO hR⟩⟩, hS.F ht⟩) hS.2.2 dX15_sealed_27
  ·
    refine lv_iconst (v := (-1)) hx hb dX15_sealed_4 (by decide) ?_
    refine W.widen (k := 0) (n := 0) (by omega) (by omega) ?_
    exact W.iret (v := (-1)) hx hb hr (fun t ht hWm => ⟨⟨(-1), (), rfl, trivial, ⟨F, QTm.mk ht hP hD hO hR⟩⟩, hS.F ht⟩) hS.2.2 dX15_sealed_5
set_option maxHeartbeats 4000000 in
set_option maxRecDepth 100000 in
theorem s_X15_isSeen (l : Launch) (dC : Nat → ClassId) (dI : Nat → Nat → Nat) (cs : Nat → ClassId) (ty : TyM) (gm : Nat → Nat → Nat) (L : List Nat) (sz : Nat) (F : Nat → va_E) (h0 : Nat) (ρ : Nat) (ta : Nat) (ou : Nat) (so : Nat) (ad : Nat) (na : Nat) (va : Nat) (lc : Nat) (dm : Nat) (tg : Nat) (pe : Nat) (ml : Nat) (bg : Nat) (co : Nat) (sp : Nat) (nb0 : Nat) (nb1 : Nat) (nb2 : Nat) (pl : Nat) (se : Nat) (ke : Nat) (wi : Nat) (hs : Nat) (mo : Nat) (po : Nat) (nu : Nat) (pr : Nat) (sq : Nat) (xa : Nat) (sa : Nat) (n64 : Nat) (m64 : Nat) (ex : Nat) (wh : Nat) (sd : Nat) (tk : Nat) (hd : Nat) (ak : Nat) (ho : Nat) (ot : Nat) (sx : Nat) (s0 : Nat) (s1 : Nat) (s2 : Nat) (nf : Nat) (bd : Nat) (mm : Nat) (zt : Nat) (rak : Nat) (hW : WTm ty gm L) (hL_h0 : h0 ∈ L) (hT_h0 : ty h0 = (15, ρ, [ta, ou, so, ad, na, va, lc, dm, tg, pe, ml, bg, co, sp, nb0, nb1, nb2, pl, se, ke, wi, hs, mo, po, nu, pr, sq, xa, sa, n64, m64, ex, wh, sd, tk, hd, ak, ho, ot, sx, s0, s1, s2, nf, bd, mm, zt])) (hL_ak : ak ∈ L) (hT_ak : ty ak = (14, ρ + 28, [rak, 6000])) : Met l yX15_isSeen (.code yX15_isSeen cX15_isSeen 4 (some .boolean) :: tb) ({ frames := 6, cells := 0, slots := 0, locals := 131 }) (va_Pc [.ref h0] (PTEm (dC, dI) cs ty gm L F sz [])) (va_Qi (fun (r : Int32) (wr : Int32) => (r = wr ∧ (r = 0 ∨ r = 1))) (fun (wr : Int32) T9 => ∃ F2 : Nat → va_E, ∃ za : Nat, QTm (dC, dI) cs ty gm L [ρ + 28] F F2 (va_A (va_pl L F) sz) T9 ∧ F2 ak = .inr (14, [.ref rak, .int (nI za)]) ∧ (wr = 1 → za ≤ 60)) (va_A (va_pl L F) sz)) 0 0 (va_A (va_pl L F) sz) := by
  refine Met.ofW (cc := cX15_isSeen) (maxL := 4) (ret := (some .boolean)) (by decide) rfl ?_
  intro p e s m args below meth c s₁ B hml hv
  obtain ⟨rfl, ⟨hsz, hP, hK, hD0, hE, hO⟩, hG, hX⟩ := hv
  have hx := B.exec
  have hb := B.bytes
  have hr := B.returns
  have hts : ∀ w ∈ tb, w.before _ s = true := fun w h => atoms_spec (ws := .code yX15_isSeen cX15_isSeen 4 (some .boolean) :: tb) B.pre w (List.mem_cons_of_mem _ h)
  have hown : s.vm.findClass RX15 = some m.cls := findClass_of_methodNamed B.named
  have hlocks := B.notSynchronized
  subst hsz
  have hD := hD0.self (sz := s.heap.size)
  generalize hAe : va_A (va_pl L F) s.heap.size = A at hD hG hX ⊢
  have hA : ∀ q : Nat, s.heap.size ≤ q → A q := fun q h => by rw [← hAe]; exact Or.inr h
  have hS : va_S A s.heap s.heap [] := va_S.rf
  have hR : FR ty [ρ + 28] F F := FR.refl
  have hl := lv_entry ([.ref h0]) (n := 4) (Nat.le_of_ble_eq_true rfl)
  rw [lg_entry_eq]
  generalize (lg_sl ([.ref h0]) ++ List.replicate (4 - (lg_sl ([.ref h0])).length) Slot.unset).toArray = ls at hl ⊢
  have hl : lv_has ls 4 [(0, .ref h0)] := hl
  obtain ⟨hi_1, ht_2, hi_3, ht_4, hi_5, ht_6, hi_7, ht_8, hi_9, ht_10, hi_11, ht_12, hi_13, ⟨r_14, ht_15⟩, hi_16, ⟨r_17, ht_18⟩, hi_19, ht_20, hi_21, ⟨r_22, ht_23⟩, hi_24, ht_25, hi_26, ht_27, hi_28, ht_29, hi_30, ht_31, hi_32, ht_33, hi_34, ht_35, hi_36, ht_37, hi_38, ⟨r_39, ht_40⟩, hi_41, ht_42, hi_43, ⟨x_44, y0_45, y1_46, y2_47, ht_48⟩, hi_49, ⟨x_50, y0_51, y1_52, y2_53, ht_54⟩, hi_55, ⟨x_56, y_57, w_58, u_59, bl_60, ht_61⟩, hi_62, ht_63, hi_64, ht_65, hi_66, ht_67, hi_68, ht_69, hi_70, ht_71, hi_72, ht_73, hi_74, ht_75, hi_76, ht_77, hi_78, ht_79, hi_80, ht_81, hi_82, ⟨r_83, ht_84⟩, hi_85, ⟨r_86, ht_87⟩, hi_88, ht_89, hi_90, ht_91, _, _, hi_92, ⟨r_93, ht_94⟩, hi_95, ⟨r_96, ht_97⟩, hq_98, hq_99, hq_100, hq_101, hq_102, hgO, hgA, hgB⟩ := hW.mod hL_h0 hT_h0
  obtain ⟨hi_103, ht_104, hq_105⟩ := hW.txt hL_ak hT_ak
  refine lv_iconst (v := (-1)) hx hb dX15_isSeen_0 (by decide) ?_
  refine lv_istore_n (lv' := [(1, .int (-1)), (0, .ref h0)]) hx hb dX15_isSeen_1 rfl hl (by decide) rfl (fun ls hl => ?_)
  refine lv_iconst (v := 0) hx hb dX15_isSeen_2 (by decide) ?_
  refine lv_istore_n (lv' := [(2, .int 0), (1, .int (-1)), (0, .ref h0)]) hx hb dX15_isSeen_3 rfl hl (by decide) rfl (fun ls hl => ?_)
  refine W.widen (k := 0) (n := 0) (by omega) (by omega) ?_
  refine pl_loopm (σ := Nat × Int32) A (dC, dI) cs ty gm L [ρ + 28] F 4 4 (fun (j, w1) => [(2, .int (nI j)), (1, .int w1), (0, .ref h0)]) (fun (j, w1) => []) (fun (j, w1) _ => j ≤ nf ∧ (w1 = (-1) ∨ ∃ i : Nat, i < nf ∧ w1 = nI i)) (fun (j, w1) => nf - j) ?_ (0, (-1)) F (⟨by omega, Or.inl rfl⟩) hO hR _ _ hP hD hS ls (lv_sub hl [0, 1, 2] rfl)
  rintro ⟨j, w1⟩ F_106 hv_107 hO hR ih_108 H locs hP hD hS ls hl
  have hl : lv_has ls 4 [(2, .int (nI j)), (1, .int w1), (0, .ref h0)] := hl
  have hv_107 : j ≤ nf ∧ (w1 = (-1) ∨ ∃ i : Nat, i < nf ∧ w1 = nI i) := hv_107
  refine W.eq (g2 := F0 m 4 ls []) rfl ?_
  obtain ⟨hv1, hv2⟩ := hv_107
  refine lv_iload_n hx hb dX15_isSeen_4 rfl (lv_at hl 0 rfl) ?_
  refine lv_aload_n hx hb dX15_isSeen_5 rfl (lv_at hl 2 rfl) ?_
  obtain ⟨zo_109, ze_110, v11_111, v12_112, v14_113, v15_114, v17_115, v18_116, v19_117, v20_118, v21_119, v22_120, v33_121, v52_122, v53_123, v54_124, hF_125, hq_126, hq_127, hq_128, hq_129⟩ := hO.mod hL_h0 hT_h0
  refine pg_get (ci := 15) (v := .int (nI nf)) (C := RX15) (T := TX15) (N := 59) hx hb hts it_15 hown hK hP hL_h0 hF_125 rfl 30 (by decide) (hts _ kt_907) (fun _ h9 => h9) rfl dX15_isSeen_6 ?_
  refine lv_icmp_ge (tgt := 40) hx hb dX15_isSeen_9 (by decide) (fun c_130 => ?_) (fun c_130 => ?_)
  ·
    have hi_131 : nf ≤ j := leN (N := nf) c_130
    refine lv_iload_n hx hb dX15_isSeen_40 rfl (lv_at hl 1 rfl) ?_
    refine lv_if_ge (tgt := 46) hx hb dX15_isSeen_41 (by decide) (fun c_132 => ?_) (fun c_132 => ?_)
    ·
      obtain ⟨jf, hjf, ej⟩ := rowB hv2 c_132
      subst ej
      have hoj := hgO jf hjf
      refine lv_aload_n hx hb dX15_isSeen_46 rfl (lv_at hl 2 rfl) ?_
      refine pg_get (ci := 15) (v := .ref sp) (C := RX15) (T := TX15) (N := 59) hx hb hts it_15 hown hK hP hL_h0 hF_125 rfl 26 (by decide) (hts _ kt_905) (fun _ h9 => h9) rfl dX15_isSeen_47 ?_
      refine lv_iload_n hx hb dX15_isSeen_50 rfl (lv_at hl 1 rfl) ?_
      obtain ⟨f_133, hF_134, hq_135⟩ := hO.pos hi_30 ht_31
      refine pg_iald hx hb hK hP hi_30 0 hF_134 rfl (vp_in_nI (by omega) (by omega)) dX15_isSeen_51 ?_
      refine lv_topi (fun x_136 ex_136 => ?_)
      obtain rfl : x_136 = (nI (gm 2 jf)) := ex_136.trans (by rw [show ((nI jf) : Int32) = nI jf from rfl, nI_clamp (by omega)]; exact hq_135 jf (by omega))
      have hgbx_136 := hgB 2 jf
      refine lv_iconst (v := 1) hx hb dX15_isSeen_52 (by decide) ?_
      refine lv_isub hx hb dX15_isSeen_53 ?_
      refine lv_topi (fun x_137 ex_137 => ?_)
      obtain rfl : x_137 = (nI ((gm 2 jf) - 1)) := ex_137.trans (pk_sub (a := (gm 2 jf)) (b := 1) (by omega))
      refine lv_istore_n (lv' := [(2, .int (nI ((gm 2 jf) - 1))), (1, .int (nI jf)), (0, .ref h0)]) hx hb dX15_isSeen_54 rfl hl (by decide) rfl (fun ls hl => ?_)
      refine W.widen (k := 0) (n := 0) (by omega) (by omega) ?_
      have hF_139 : F h0 = .inr (15, (.ref ta) :: (.int (nI zt)) :: (.int (nI zo_109)) :: (.int (nI ze_110)) :: (.ref ou) :: (.ref so) :: (.ref ad) :: (.ref na) :: (.ref va) :: (.ref lc) :: (.ref dm) :: (.int v11_111) :: (.int v12_112) :: (.ref tg) :: (.int v14_113) :: (.int v15_114) :: (.ref pe) :: (.int v17_115) :: (.int v18_116) :: (.int v19_117) :: (.int v20_118) :: (.int v21_119) :: (.int v22_120) :: (.ref ml) :: (.ref bg) :: (.ref co) :: (.ref sp) :: (.ref nb0) :: (.ref nb1) :: (.ref nb2) :: (.int (nI nf)) :: (.int (nI bd)) :: (.int (nI mm)) :: (.int v33_121) :: (.ref pl) :: (.ref se) :: (.ref ke) :: (.ref wi) :: (.ref hs) :: (.ref mo) :: (.ref po) :: (.ref nu) :: (.ref pr) :: (.ref sq) :: (.ref xa) :: (.ref sa) :: (.ref n64) :: (.ref m64) :: (.ref ex) :: (.ref wh) :: (.ref sd) :: (.ref tk) :: (.int v52_122) :: (.int v53_123) :: (.int v54_124) :: (.ref hd) :: (.ref ak) :: (.ref ho) :: (.ref ot) :: []) := (hR h0 (by rw [hT_h0]; simp)).symm.trans hF_125
      have hF_140 : F sp = .inl (cs 16, 21, .inl f_133) := (hR sp (by rw [ht_31]; simp)).symm.trans hF_134
      refine pl_loopm (σ := Nat) A (dC, dI) cs ty gm L [ρ + 28] F 55 4 (fun k => [(2, .int (nI k)), (1, .int (nI jf)), (0, .ref h0)]) (fun k => []) (fun k _ => gm 1 jf ≤ k ∧ k < gm 2 jf) (fun k => k) ?_ ((gm 2 jf) - 1) F_106 (⟨by omega, by omega⟩) hO hR _ _ hP hD hS ls (lv_sub hl [0, 1, 2] rfl)
      rintro k F_138 hv_141 hO hR ih_142 H locs hP hD hS ls hl
      have hl : lv_has ls 4 [(2, .int (nI k)), (1, .int (nI jf)), (0, .ref h0)] := hl
      have hv_141 : gm 1 jf ≤ k ∧ k < gm 2 jf := hv_141
      refine W.eq (g2 := F0 m 55 ls []) rfl ?_
      have hF_143 : F_138 h0 = .inr (15, (.ref ta) :: (.int (nI zt)) :: (.int (nI zo_109)) :: (.int (nI ze_110)) :: (.ref ou) :: (.ref so) :: (.ref ad) :: (.ref na) :: (.ref va) :: (.ref lc) :: (.ref dm) :: (.int v11_111) :: (.int v12_112) :: (.ref tg) :: (.int v14_113) :: (.int v15_114) :: (.ref pe) :: (.int v17_115) :: (.int v18_116) :: (.int v19_117) :: (.int v20_118) :: (.int v21_119) :: (.int v22_120) :: (.ref ml) :: (.ref bg) :: (.ref co) :: (.ref sp) :: (.ref nb0) :: (.ref nb1) :: (.ref nb2) :: (.int (nI nf)) :: (.int (nI bd)) :: (.int (nI mm)) :: (.int v33_121) :: (.ref pl) :: (.ref se) :: (.ref ke) :: (.ref wi) :: (.ref hs) :: (.ref mo) :: (.ref po) :: (.ref nu) :: (.ref pr) :: (.ref sq) :: (.ref xa) :: (.ref sa) :: (.ref n64) :: (.ref m64) :: (.ref ex) :: (.ref wh) :: (.ref sd) :: (.ref tk) :: (.int v52_122) :: (.int v53_123) :: (.int v54_124) :: (.ref hd) :: (.ref ak) :: (.ref ho) :: (.ref ot) :: []) := (hR h0 (by rw [hT_h0]; simp)).trans hF_139
      have hF_144 : F_138 sp = .inl (cs 16, 21, .inl f_133) := (hR sp (by rw [ht_31]; simp)).trans hF_140
      obtain ⟨hk1a, hk2a⟩ := hv_141
      refine lv_iload_n hx hb dX15_isSeen_55 rfl (lv_at hl 0 rfl) ?_
      refine lv_aload_n hx hb dX15_isSeen_56 rfl (lv_at hl 2 rfl) ?_
      refine pg_get (ci := 15) (v := .ref co) (C := RX15) (T := TX15) (N := 59) hx hb hts it_15 hown hK hP hL_h0 hF_143 rfl 25 (by decide) (hts _ kt_904) (fun _ h9 => h9) rfl dX15_isSeen_57 ?_
      refine lv_iload_n hx hb dX15_isSeen_60 rfl (lv_at hl 1 rfl) ?_
      obtain ⟨f_145, hF_146, hq_147⟩ := hO.pos hi_28 ht_29
      refine pg_iald hx hb hK hP hi_28 0 hF_146 rfl (vp_in_nI (by omega) (by omega)) dX15_isSeen_61 ?_
      refine lv_topi (fun x_148 ex_148 => ?_)
      obtain rfl : x_148 = (nI (gm 1 jf)) := ex_148.trans (by rw [show ((nI jf) : Int32) = nI jf from rfl, nI_clamp (by omega)]; exact hq_147 jf (by omega))
      have hgbx_148 := hgB 1 jf
      refine lv_icmp_le (tgt := 82) hx hb dX15_isSeen_62 (by decide) (fun c_149 => ?_) (fun c_149 => ?_)
      ·
        have hi_150 : k ≤ (gm 1 jf) := (nI_leI (a := k) (b := (gm 1 jf)) (by omega) (by omega)).mp c_149
        refine lv_iload_n hx hb dX15_isSeen_82 rfl (lv_at hl 0 rfl) ?_
        refine lv_aload_n hx hb dX15_isSeen_83 rfl (lv_at hl 2 rfl) ?_
        refine pg_get (ci := 15) (v := .ref co) (C := RX15) (T := TX15) (N := 59) hx hb hts it_15 hown hK hP hL_h0 hF_143 rfl 25 (by decide) (hts _ kt_904) (fun _ h9 => h9) rfl dX15_isSeen_84 ?_
        refine lv_iload_n hx hb dX15_isSeen_87 rfl (lv_at hl 1 rfl) ?_
        refine pg_iald hx hb hK hP hi_28 0 hF_146 rfl (vp_in_nI (by omega) (by omega)) dX15_isSeen_88 ?_
        refine lv_topi (fun x_151 ex_151 => ?_)
        obtain rfl : x_151 = (nI (gm 1 jf)) := ex_151.trans (by rw [show ((nI jf) : Int32) = nI jf from rfl, nI_clamp (by omega)]; exact hq_147 jf (by omega))
        have hgbx_151 := hgB 1 jf
        refine lv_icmp_ne (tgt := 94) hx hb dX15_isSeen_89 (by decide) (fun c_152 => ?_) (fun c_152 => ?_)
        ·
          have hi_153 : k ≠ (gm 1 jf) := fun q => c_152 (by rw [q])
          refine lv_aload_n hx hb dX15_isSeen_94 rfl (lv_at hl 2 rfl) ?_
          refine pg_get (ci := 15) (v := .ref ak) (C := RX15) (T := TX15) (N := 59) hx hb hts it_15 hown hK hP hL_h0 hF_143 rfl 56 (by decide) (hts _ kt_1045) (fun _ h9 => h9) rfl dX15_isSeen_95 ?_
          refine lv_iconst (v := 0) hx hb dX15_isSeen_98 (by decide) ?_
          obtain ⟨z_154, hF_155, hq_156⟩ := hO.txt hL_ak hT_ak
          refine pg_put (ci := 14) (v := .int 0) (ty := .int) (C := RX14) (T := TX14) (N := 2) hx hb hts it_14 tyX14 tyX14_ok nmX14 hown hK hP hD hS hL_ak hF_155 rfl 1 (by decide) (hts _ kt_709) (fun _ h9 => h9) rfl (by decide +kernel) (rfl) (rfl) (Nat.le_of_ble_eq_true rfl) dX15_isSeen_99 (fun H locs hP hD hS => ?_)
          obtain ⟨F_157, he_158, hP, hD, hO, hR⟩ : ∃ G, G = va_up F_138 ak (.inr (14, [.ref rak, .int 0])) ∧ va_P (dC, dI) vwCl (va_pl L G) H ∧ va_D A (va_pl L G) ∧ OKm cs ty gm L G ∧ FR ty [ρ + 28] F G := ⟨_, rfl, hP, hD, hO.up (shm.txt hT_ak ⟨0, rfl, (by first | omega | assumption | exact Or.inl rfl | exact Or.inr rfl)⟩), hR.up hT_ak (by simp)⟩
          have hF_159 : F_157 ak = .inr (14, [.ref rak, .int 0]) := by rw [he_158]; exact up_self
          have hF_160 : F_157 h0 = .inr (15, (.ref ta) :: (.int (nI zt)) :: (.int (nI zo_109)) :: (.int (nI ze_110)) :: (.ref ou) :: (.ref so) :: (.ref ad) :: (.ref na) :: (.ref va) :: (.ref lc) :: (.ref dm) :: (.int v11_111) :: (.int v12_112) :: (.ref tg) :: (.int v14_113) :: (.int v15_114) :: (.ref pe) :: (.int v17_115) :: (.int v18_116) :: (.int v19_117) :: (.int v20_118) :: (.int v21_119) :: (.int v22_120) :: (.ref ml) :: (.ref bg) :: (.ref co) :: (.ref sp) :: (.ref nb0) :: (.ref nb1) :: (.ref nb2) :: (.int (nI nf)) :: (.int (nI bd)) :: (.int (nI mm)) :: (.int v33_121) :: (.ref pl) :: (.ref se) :: (.ref ke) :: (.ref wi) :: (.ref hs) :: (.ref mo) :: (.ref po) :: (.ref nu) :: (.ref pr) :: (.ref sq) :: (.ref xa) :: (.ref sa) :: (.ref n64) :: (.ref m64) :: (.ref ex) :: (.ref wh) :: (.ref sd) :: (.ref tk) :: (.int v52_122) :: (.int v53_123) :: (.int v54_124) :: (.ref hd) :: (.ref ak) :: (.ref ho) :: (.ref ot) :: []) := by rw [he_158, up_ne (ne_ty hT_h0 hT_ak (by simp))]; exact hF_143
          have hF_161 : F_157 sp = .inl (cs 16, 21, .inl f_133) := by rw [he_158, up_ne (ne_ty ht_31 hT_ak (by simp))]; exact hF_144
          have hF_162 : F_157 co = .inl (cs 16, 21, .inl f_145) := by rw [he_158, up_ne (ne_ty ht_29 hT_ak (by simp))]; exact hF_146
          refine lv_iload_n hx hb dX15_isSeen_102 rfl (lv_at hl 0 rfl) ?_
          refine lv_iconst (v := 1) hx hb dX15_isSeen_103 (by decide) ?_
          refine lv_iadd hx hb dX15_isSeen_104 ?_
          refine lv_topi (fun x_163 ex_163 => ?_)
          obtain rfl : x_163 = (nI (k + 1)) := ex_163.trans (nI_add k 1)
          refine lv_istore_n (lv' := [(3, .int (nI (k + 1))), (2, .int (nI k)), (1, .int (nI jf)), (0, .ref h0)]) hx hb dX15_isSeen_105 rfl hl (by decide) rfl (fun ls hl => ?_)
          refine W.widen (k := 0) (n := 0) (by omega) (by omega) ?_
          have hF_165 : F h0 = .inr (15, (.ref ta) :: (.int (nI zt)) :: (.int (nI zo_109)) :: (.int (nI ze_110)) :: (.ref ou) :: (.ref so) :: (.ref ad) :: (.ref na) :: (.ref va) :: (.ref lc) :: (.ref dm) :: (.int v11_111) :: (.int v12_112) :: (.ref tg) :: (.int v14_113) :: (.int v15_114) :: (.ref pe) :: (.int v17_115) :: (.int v18_116) :: (.int v19_117) :: (.int v20_118) :: (.int v21_119) :: (.int v22_120) :: (.ref ml) :: (.ref bg) :: (.ref co) :: (.ref sp) :: (.ref nb0) :: (.ref nb1) :: (.ref nb2) :: (.int (nI nf)) :: (.int (nI bd)) :: (.int (nI mm)) :: (.int v33_121) :: (.ref pl) :: (.ref se) :: (.ref ke) :: (.ref wi) :: (.ref hs) :: (.ref mo) :: (.ref po) :: (.ref nu) :: (.ref pr) :: (.ref sq) :: (.ref xa) :: (.ref sa) :: (.ref n64) :: (.ref m64) :: (.ref ex) :: (.ref wh) :: (.ref sd) :: (.ref tk) :: (.int v52_122) :: (.int v53_123) :: (.int v54_124) :: (.ref hd) :: (.ref ak) :: (.ref ho) :: (.ref ot) :: []) := (hR h0 (by rw [hT_h0]; simp)).symm.trans hF_160
          have hF_166 : F sp = .inl (cs 16, 21, .inl f_133) := (hR sp (by rw [ht_31]; simp)).symm.trans hF_161
          have hF_167 : F co = .inl (cs 16, 21, .inl f_145) := (hR co (by rw [ht_29]; simp)).symm.trans hF_162
          refine pl_loopm (σ := Nat × Nat) A (dC, dI) cs ty gm L [ρ + 28] F 106 4 (fun (i, zz) => [(3, .int (nI i)), (2, .int (nI k)), (1, .int (nI jf)), (0, .ref h0)]) (fun (i, zz) => []) (fun (i, zz) FF => (k + 1 ≤ i ∧ i ≤ max (k + 1) (gm 2 jf)) ∧ zz ≤ i - (k + 1) ∧ FF ak = .inr (14, [.ref rak, .int (nI zz)])) (fun (i, zz) => gm 2 jf - i) ?_ ((k + 1), 0) F_157 (⟨⟨by omega, by omega⟩, by omega, hF_159⟩) hO hR _ _ hP hD hS ls (lv_sub hl [0, 1, 2, 3] rfl)
          rintro ⟨i, zz⟩ F_164 hv_168 hO hR ih_169 H locs hP hD hS ls hl
          have hl : lv_has ls 4 [(3, .int (nI i)), (2, .int (nI k)), (1, .int (nI jf)), (0, .ref h0)] := hl
          have hv_168 : (k + 1 ≤ i ∧ i ≤ max (k + 1) (gm 2 jf)) ∧ zz ≤ i - (k + 1) ∧ F_164 ak = .inr (14, [.ref rak, .int (nI zz)]) := hv_168
          refine W.eq (g2 := F0 m 106 ls []) rfl ?_
          have hF_170 : F_164 h0 = .inr (15, (.ref ta) :: (.int (nI zt)) :: (.int (nI zo_109)) :: (.int (nI ze_110)) :: (.ref ou) :: (.ref so) :: (.ref ad) :: (.ref na) :: (.ref va) :: (.ref lc) :: (.ref dm) :: (.int v11_111) :: (.int v12_112) :: (.ref tg) :: (.int v14_113) :: (.int v15_114) :: (.ref pe) :: (.int v17_115) :: (.int v18_116) :: (.int v19_117) :: (.int v20_118) :: (.int v21_119) :: (.int v22_120) :: (.ref ml) :: (.ref bg) :: (.ref co) :: (.ref sp) :: (.ref nb0) :: (.ref nb1) :: (.ref nb2) :: (.int (nI nf)) :: (.int (nI bd)) :: (.int (nI mm)) :: (.int v33_121) :: (.ref pl) :: (.ref se) :: (.ref ke) :: (.ref wi) :: (.ref hs) :: (.ref mo) :: (.ref po) :: (.ref nu) :: (.ref pr) :: (.ref sq) :: (.ref xa) :: (.ref sa) :: (.ref n64) :: (.ref m64) :: (.ref ex) :: (.ref wh) :: (.ref sd) :: (.ref tk) :: (.int v52_122) :: (.int v53_123) :: (.int v54_124) :: (.ref hd) :: (.ref ak) :: (.ref ho) :: (.ref ot) :: []) := (hR h0 (by rw [hT_h0]; simp)).trans hF_165
          have hF_171 : F_164 sp = .inl (cs 16, 21, .inl f_133) := (hR sp (by rw [ht_31]; simp)).trans hF_166
          have hF_172 : F_164 co = .inl (cs 16, 21, .inl f_145) := (hR co (by rw [ht_29]; simp)).trans hF_167
          obtain ⟨hi1, hi2, hi3⟩ := hv_168
          refine lv_iload_n hx hb dX15_isSeen_106 rfl (lv_at hl 0 rfl) ?_
          refine lv_aload_n hx hb dX15_isSeen_107 rfl (lv_at hl 3 rfl) ?_
          refine pg_get (ci := 15) (v := .ref sp) (C := RX15) (T := TX15) (N := 59) hx hb hts it_15 hown hK hP hL_h0 hF_170 rfl 26 (by decide) (hts _ kt_905) (fun _ h9 => h9) rfl dX15_isSeen_108 ?_
          refine lv_iload_n hx hb dX15_isSeen_111 rfl (lv_at hl 2 rfl) ?_
          refine pg_iald hx hb hK hP hi_30 0 hF_171 rfl (vp_in_nI (by omega) (by omega)) dX15_isSeen_112 ?_
          refine lv_topi (fun x_173 ex_173 => ?_)
          obtain rfl : x_173 = (nI (gm 2 jf)) := ex_173.trans (by rw [show ((nI jf) : Int32) = nI jf from rfl, nI_clamp (by omega)]; exact hq_135 jf (by omega))
          have hgbx_173 := hgB 2 jf
          refine lv_icmp_ge (tgt := 172) hx hb dX15_isSeen_113 (by decide) (fun c_174 => ?_) (fun c_174 => ?_)
          ·
            have hi_175 : (gm 2 jf) ≤ i := leN (N := (gm 2 jf)) c_174
            refine lv_aload_n hx hb dX15_isSeen_172 rfl (lv_at hl 3 rfl) ?_
            refine pg_get (ci := 15) (v := .ref ak) (C := RX15) (T := TX15) (N := 59) hx hb hts it_15 hown hK hP hL_h0 hF_170 rfl 56 (by decide) (hts _ kt_1045) (fun _ h9 => h9) rfl dX15_isSeen_173 ?_
            have hFc := pg_free hD hS hA
            refine va_calli (va_runV (As := []) (rest := []) ⟨hx, hb, hml, hown, hts⟩ (s_X14_isName l dC dI cs ty gm L H.size F_164 ak (ρ + 28) rak 6000 zz hW hL_ak hT_ak hi3 (by first | omega | assumption)) ⟨callB_of 0 hts (gi kt_1046) rfl rfl rfl (hts _ kt_676) (hts _ kt_1047) (by decide +kernel) ⟨Nat.le_of_ble_eq_true rfl, Nat.le_of_ble_eq_true rfl⟩, (hts _ kt_1048), (hts _ kt_1049)⟩ ⟨fun a U g mk q => ⟨q.1, PTm.calling q.2⟩, pg_recv hK hP hL_ak hi3 (q := (RX14, TX14, 2)) rfl, fun U hU hWm => ⟨rfl, PTm.mk hU hWm hP hK hD hE hO⟩⟩ rfl rfl hl.1 rfl (lv_room (Nat.le_of_ble_eq_true rfl)) dX15_isSeen_176 ⟨by show _ + 0 ≤ 0; omega, by show _ + 0 ≤ 0; omega⟩) hS (fun q _ h => hFc q h) hFc (fun r_176 u t H1 locs ht hvm hw hB hz1 hk1 hS => ?_)
            obtain ⟨F_177, hB1⟩ := hB
            obtain rfl : F_164 = F_177 := (funext (fun a => hB1.2.2.2 a List.not_mem_nil)).symm
            obtain ⟨hP, hD, hO, hR⟩ := QTm.back hB1 ht hFc hR (fun q h => absurd h List.not_mem_nil)
            generalize H1 = H at hP hS ⊢
            have hw : (r_176 = 0 ∨ (r_176 = 1 ∧ 0 < zz ∧ zz ≤ 60)) := hw
            have hw_178 := hw
            refine W.widen (k := 0) (n := 0) (by omega) (by omega) ?_
            exact W.zret (v := r_176) (ty := .boolean) hx hb hr (bitN (bit3 hw_178)) (fun t ht hWm => ⟨⟨r_176, r_176, rfl, ⟨rfl, bit3 hw_178⟩, ⟨F_164, zz, QTm.mk ht hP hD hO hR, hi3, (fun h => (bit1 hw_178 (by rw [h]; decide)).2)⟩⟩, hS.F ht⟩) hS.2.2 dX15_isSeen_179
          ·
            have hi_179 : i < (gm 2 jf) := ltN (N := (gm 2 jf)) c_174
            refine lv_aload_n hx hb dX15_isSeen_116 rfl (lv_at hl 3 rfl) ?_
            refine pg_get (ci := 15) (v := .ref ml) (C := RX15) (T := TX15) (N := 59) hx hb hts it_15 hown hK hP hL_h0 hF_170 rfl 23 (by decide) (hts _ kt_902) (fun _ h9 => h9) rfl dX15_isSeen_117 ?_
            refine lv_iload_n hx hb dX15_isSeen_120 rfl (lv_at hl 0 rfl) ?_
            obtain ⟨hq_180, hq_181⟩ := hW.octs hi_24 ht_25
            obtain ⟨f_182, hF_183, hq_184⟩ := hO.octs hi_24 ht_25
            refine pg_bald hx hb hK hP hi_24 1 hF_183 rfl (vp_in_nI (by omega) (by omega)) dX15_isSeen_121 ?_
            refine lv_topi (fun x_185 ex_185 => ?_)
            obtain rfl : x_185 = f_182 i := ex_185.trans (congrArg f_182 (show ((nI i) : Int32).toNatClampNeg = i from nI_clamp (by omega)))
            have hFc := pg_free hD hS hA
            refine va_calli (va_runS (As := [.int (f_182 i)]) (rest := []) ⟨hx, hb, hml, hown, hts⟩ (s_X15_isWhite l dC dI cs ty gm L H.size F_164 (f_182 i) hW ) ⟨callB_of 1 hts (gi kt_715) rfl rfl rfl (hts _ kt_669) (hts _ kt_716) (by decide +kernel) ⟨Nat.le_of_ble_eq_true rfl, Nat.le_of_ble_eq_true rfl⟩, (hts _ kt_717)⟩ ⟨fun a U g mk q => ⟨q.1, PTm.calling q.2⟩, fun U hU hWm => ⟨rfl, PTm.mk hU hWm hP hK hD hE hO⟩⟩ rfl rfl hl.1 rfl (lv_room (Nat.le_of_ble_eq_true rfl)) dX15_isSeen_122 ⟨by show _ + 0 ≤ 0; omega, by show _ + 0 ≤ 0; omega⟩) hS (fun q _ h => hFc q h) hFc (fun r_186 u t H1 locs ht hvm hw hB hz1 hk1 hS => ?_)
            obtain ⟨F_187, hB1⟩ := hB
            obtain rfl : F_164 = F_187 := (funext (fun a => hB1.2.2.2 a List.not_mem_nil)).symm
            obtain ⟨hP, hD, hO, hR⟩ := QTm.back hB1 ht hFc hR (fun q h => absurd h List.not_mem_nil)
            generalize H1 = H at hP hS ⊢
            have hw : (r_186 = 0 ∨ r_186 = 1) := hw
            have hw_188 := hw
            refine lv_if_ne (tgt := 172) hx hb dX15_isSeen_125 (by decide) (fun c_189 => ?_) (fun c_189 => ?_)
            ·
              refine lv_aload_n hx hb dX15_isSeen_172 rfl (lv_at hl 3 rfl) ?_
              refine pg_get (ci := 15) (v := .ref ak) (C := RX15) (T := TX15) (N := 59) hx hb hts it_15 hown hK hP hL_h0 hF_170 rfl 56 (by decide) (hts _ kt_1045) (fun _ h9 => h9) rfl dX15_isSeen_173 ?_
              have hFc := pg_free hD hS hA
              refine va_calli (va_runV (As := []) (rest := []) ⟨hx, hb, hml, hown, hts⟩ (s_X14_isName l dC dI cs ty gm L H.size F_164 ak (ρ + 28) rak 6000 zz hW hL_ak hT_ak hi3 (by first | omega | assumption)) ⟨callB_of 0 hts (gi kt_1046) rfl rfl rfl (hts _ kt_676) (hts _ kt_1047) (by decide +kernel) ⟨Nat.le_of_ble_eq_true rfl, Nat.le_of_ble_eq_true rfl⟩, (hts _ kt_1048), (hts _ kt_1049)⟩ ⟨fun a U g mk q => ⟨q.1, PTm.calling q.2⟩, pg_recv hK hP hL_ak hi3 (q := (RX14, TX14, 2)) rfl, fun U hU hWm => ⟨rfl, PTm.mk hU hWm hP hK hD hE hO⟩⟩ rfl rfl hl.1 rfl (lv_room (Nat.le_of_ble_eq_true rfl)) dX15_isSeen_176 ⟨by show _ + 0 ≤ 0; omega, by show _ + 0 ≤ 0; omega⟩) hS (fun q _ h => hFc q h) hFc (fun r_190 u t H1 locs ht hvm hw hB hz1 hk1 hS => ?_)
              obtain ⟨F_191, hB1⟩ := hB
              obtain rfl : F_164 = F_191 := (funext (fun a => hB1.2.2.2 a List.not_mem_nil)).symm
              obtain ⟨hP, hD, hO, hR⟩ := QTm.back hB1 ht hFc hR (fun q h => absurd h List.not_mem_nil)
              generalize H1 = H at hP hS ⊢
              have hw : (r_190 = 0 ∨ (r_190 = 1 ∧ 0 < zz ∧ zz ≤ 60)) := hw
              have hw_192 := hw
              refine W.widen (k := 0) (n := 0) (by omega) (by omega) ?_
              exact W.zret (v := r_190) (ty := .boolean) hx hb hr (bitN (bit3 hw_192)) (fun t ht hWm => ⟨⟨r_190, r_190, rfl, ⟨rfl, bit3 hw_192⟩, ⟨F_164, zz, QTm.mk ht hP hD hO hR, hi3, (fun h => (bit1 hw_192 (by rw [h]; decide)).2)⟩⟩, hS.F ht⟩) hS.2.2 dX15_isSeen_179
            ·
              refine lv_aload_n hx hb dX15_isSeen_128 rfl (lv_at hl 3 rfl) ?_
              refine pg_get (ci := 15) (v := .ref ml) (C := RX15) (T := TX15) (N := 59) hx hb hts it_15 hown hK hP hL_h0 hF_170 rfl 23 (by decide) (hts _ kt_902) (fun _ h9 => h9) rfl dX15_isSeen_129 ?_
              refine lv_iload_n hx hb dX15_isSeen_132 rfl (lv_at hl 0 rfl) ?_
              refine pg_bald hx hb hK hP hi_24 1 hF_183 rfl (vp_in_nI (by omega) (by omega)) dX15_isSeen_133 ?_
              refine lv_topi (fun x_193 ex_193 => ?_)
              obtain rfl : x_193 = f_182 i := ex_193.trans (congrArg f_182 (show ((nI i) : Int32).toNatClampNeg = i from nI_clamp (by omega)))
              refine lv_bipush (v := 62) hx hb dX15_isSeen_134 (by decide) ?_
              refine lv_icmp_eq (tgt := 172) hx hb dX15_isSeen_136 (by decide) (fun c_194 => ?_) (fun c_194 => ?_)
              ·
                refine lv_aload_n hx hb dX15_isSeen_172 rfl (lv_at hl 3 rfl) ?_
                refine pg_get (ci := 15) (v := .ref ak) (C := RX15) (T := TX15) (N := 59) hx hb hts it_15 hown hK hP hL_h0 hF_170 rfl 56 (by decide) (hts _ kt_1045) (fun _ h9 => h9) rfl dX15_isSeen_173 ?_
                have hFc := pg_free hD hS hA
                refine va_calli (va_runV (As := []) (rest := []) ⟨hx, hb, hml, hown, hts⟩ (s_X14_isName l dC dI cs ty gm L H.size F_164 ak (ρ + 28) rak 6000 zz hW hL_ak hT_ak hi3 (by first | omega | assumption)) ⟨callB_of 0 hts (gi kt_1046) rfl rfl rfl (hts _ kt_676) (hts _ kt_1047) (by decide +kernel) ⟨Nat.le_of_ble_eq_true rfl, Nat.le_of_ble_eq_true rfl⟩, (hts _ kt_1048), (hts _ kt_1049)⟩ ⟨fun a U g mk q => ⟨q.1, PTm.calling q.2⟩, pg_recv hK hP hL_ak hi3 (q := (RX14, TX14, 2)) rfl, fun U hU hWm => ⟨rfl, PTm.mk hU hWm hP hK hD hE hO⟩⟩ rfl rfl hl.1 rfl (lv_room (Nat.le_of_ble_eq_true rfl)) dX15_isSeen_176 ⟨by show _ + 0 ≤ 0; omega, by show _ + 0 ≤ 0; omega⟩) hS (fun q _ h => hFc q h) hFc (fun r_195 u t H1 locs ht hvm hw hB hz1 hk1 hS => ?_)
                obtain ⟨F_196, hB1⟩ := hB
                obtain rfl : F_164 = F_196 := (funext (fun a => hB1.2.2.2 a List.not_mem_nil)).symm
                obtain ⟨hP, hD, hO, hR⟩ := QTm.back hB1 ht hFc hR (fun q h => absurd h List.not_mem_nil)
                generalize H1 = H at hP hS ⊢
                have hw : (r_195 = 0 ∨ (r_195 = 1 ∧ 0 < zz ∧ zz ≤ 60)) := hw
                have hw_197 := hw
                refine W.widen (k := 0) (n := 0) (by omega) (by omega) ?_
                exact W.zret (v := r_195) (ty := .boolean) hx hb hr (bitN (bit3 hw_197)) (fun t ht hWm => ⟨⟨r_195, r_195, rfl, ⟨rfl, bit3 hw_197⟩, ⟨F_164, zz, QTm.mk ht hP hD hO hR, hi3, (fun h => (bit1 hw_197 (by rw [h]; decide)).2)⟩⟩, hS.F ht⟩) hS.2.2 dX15_isSeen_179
              ·
                refine lv_aload_n hx hb dX15_isSeen_139 rfl (lv_at hl 3 rfl) ?_
                refine pg_get (ci := 15) (v := .ref ml) (C := RX15) (T := TX15) (N := 59) hx hb hts it_15 hown hK hP hL_h0 hF_170 rfl 23 (by decide) (hts _ kt_902) (fun _ h9 => h9) rfl dX15_isSeen_140 ?_
                refine lv_iload_n hx hb dX15_isSeen_143 rfl (lv_at hl 0 rfl) ?_
                refine pg_bald hx hb hK hP hi_24 1 hF_183 rfl (vp_in_nI (by omega) (by omega)) dX15_isSeen_144 ?_
                refine lv_topi (fun x_198 ex_198 => ?_)
                obtain rfl : x_198 = f_182 i := ex_198.trans (congrArg f_182 (show ((nI i) : Int32).toNatClampNeg = i from nI_clamp (by omega)))
                refine lv_bipush (v := 10) hx hb dX15_isSeen_145 (by decide) ?_
                refine lv_icmp_eq (tgt := 172) hx hb dX15_isSeen_147 (by decide) (fun c_199 => ?_) (fun c_199 => ?_)
                ·
                  refine lv_aload_n hx hb dX15_isSeen_172 rfl (lv_at hl 3 rfl) ?_
                  refine pg_get (ci := 15) (v := .ref ak) (C := RX15) (T := TX15) (N := 59) hx hb hts it_15 hown hK hP hL_h0 hF_170 rfl 56 (by decide) (hts _ kt_1045) (fun _ h9 => h9) rfl dX15_isSeen_173 ?_
                  have hFc := pg_free hD hS hA
                  refine va_calli (va_runV (As := []) (rest := []) ⟨hx, hb, hml, hown, hts⟩ (s_X14_isName l dC dI cs ty gm L H.size F_164 ak (ρ + 28) rak 6000 zz hW hL_ak hT_ak hi3 (by first | omega | assumption)) ⟨callB_of 0 hts (gi kt_1046) rfl rfl rfl (hts _ kt_676) (hts _ kt_1047) (by decide +kernel) ⟨Nat.le_of_ble_eq_true rfl, Nat.le_of_ble_eq_true rfl⟩, (hts _ kt_1048), (hts _ kt_1049)⟩ ⟨fun a U g mk q => ⟨q.1, PTm.calling q.2⟩, pg_recv hK hP hL_ak hi3 (q := (RX14, TX14, 2)) rfl, fun U hU hWm => ⟨rfl, PTm.mk hU hWm hP hK hD hE hO⟩⟩ rfl rfl hl.1 rfl (lv_room (Nat.le_of_ble_eq_true rfl)) dX15_isSeen_176 ⟨by show _ + 0 ≤ 0; omega, by show _ + 0 ≤ 0; omega⟩) hS (fun q _ h => hFc q h) hFc (fun r_200 u t H1 locs ht hvm hw hB hz1 hk1 hS => ?_)
                  obtain ⟨F_201, hB1⟩ := hB
                  obtain rfl : F_164 = F_201 := (funext (fun a => hB1.2.2.2 a List.not_mem_nil)).symm
                  obtain ⟨hP, hD, hO, hR⟩ := QTm.back hB1 ht hFc hR (fun q h => absurd h List.not_mem_nil)
                  generalize H1 = H at hP hS ⊢
                  have hw : (r_200 = 0 ∨ (r_200 = 1 ∧ 0 < zz ∧ zz ≤ 60)) := hw
                  have hw_202 := hw
                  refine W.widen (k := 0) (n := 0) (by omega) (by omega) ?_
                  exact W.zret (v := r_200) (ty := .boolean) hx hb hr (bitN (bit3 hw_202)) (fun t ht hWm => ⟨⟨r_200, r_200, rfl, ⟨rfl, bit3 hw_202⟩, ⟨F_164, zz, QTm.mk ht hP hD hO hR, hi3, (fun h => (bit1 hw_202 (by rw [h]; decide)).2)⟩⟩, hS.F ht⟩) hS.2.2 dX15_isSeen_179
                ·
                  refine lv_aload_n hx hb dX15_isSeen_150 rfl (lv_at hl 3 rfl) ?_
                  refine pg_get (ci := 15) (v := .ref ak) (C := RX15) (T := TX15) (N := 59) hx hb hts it_15 hown hK hP hL_h0 hF_170 rfl 56 (by decide) (hts _ kt_1045) (fun _ h9 => h9) rfl dX15_isSeen_151 ?_
                  refine lv_aload_n hx hb dX15_isSeen_154 rfl (lv_at hl 3 rfl) ?_
                  refine pg_get (ci := 15) (v := .ref ml) (C := RX15) (T := TX15) (N := 59) hx hb hts it_15 hown hK hP hL_h0 hF_170 rfl 23 (by decide) (hts _ kt_902) (fun _ h9 => h9) rfl dX15_isSeen_155 ?_
                  refine lv_iload_n hx hb dX15_isSeen_158 rfl (lv_at hl 0 rfl) ?_
                  refine pg_bald hx hb hK hP hi_24 1 hF_183 rfl (vp_in_nI (by omega) (by omega)) dX15_isSeen_159 ?_
                  refine lv_topi (fun x_203 ex_203 => ?_)
                  obtain rfl : x_203 = f_182 i := ex_203.trans (congrArg f_182 (show ((nI i) : Int32).toNatClampNeg = i from nI_clamp (by omega)))
                  have hFc := pg_free hD hS hA
                  refine va_calli (va_runS (As := [.int (f_182 i)]) (rest := [.ref ak]) ⟨hx, hb, hml, hown, hts⟩ (s_X15_small l dC dI cs ty gm L H.size F_164 (f_182 i) hW ) ⟨callB_of 1 hts (gi kt_697) rfl rfl rfl (hts _ kt_669) (hts _ kt_698) (by decide +kernel) ⟨Nat.le_of_ble_eq_true rfl, Nat.le_of_ble_eq_true rfl⟩, (hts _ kt_699)⟩ ⟨fun a U g mk q => ⟨q.1, PTm.calling q.2⟩, fun U hU hWm => ⟨rfl, PTm.mk hU hWm hP hK hD hE hO⟩⟩ rfl rfl hl.1 rfl (lv_room (Nat.le_of_ble_eq_true rfl)) dX15_isSeen_160 ⟨by show _ + 0 ≤ 0; omega, by show _ + 0 ≤ 0; omega⟩) hS (fun q _ h => hFc q h) hFc (fun r_204 u t H1 locs ht hvm hw hB hz1 hk1 hS => ?_)
                  obtain ⟨F_205, hB1⟩ := hB
                  obtain rfl : F_164 = F_205 := (funext (fun a => hB1.2.2.2 a List.not_mem_nil)).symm
                  obtain ⟨hP, hD, hO, hR⟩ := QTm.back hB1 ht hFc hR (fun q h => absurd h List.not_mem_nil)
                  generalize H1 = H at hP hS ⊢
                  have hw : True := hw
                  have hw_206 := hw
                  have hFc := pg_free hD hS hA
                  refine va_callv (va_runV (As := [.int r_204]) (rest := []) ⟨hx, hb, hml, hown, hts⟩ (s_X14_add l dC dI cs ty gm L H.size F_164 ak (ρ + 28) rak 6000 zz r_204 hW hL_ak hT_ak hi3 (by first | omega | assumption)) ⟨callB_of 1 hts (gi kt_711) rfl rfl rfl (hts _ kt_676) (hts _ kt_712) (by decide +kernel) ⟨Nat.le_of_ble_eq_true rfl, Nat.le_of_ble_eq_true rfl⟩, (hts _ kt_713), (hts _ kt_714)⟩ ⟨fun a U g mk q => ⟨q.1, PTm.calling q.2⟩, pg_recv hK hP hL_ak hi3 (q := (RX14, TX14, 2)) rfl, fun U hU hWm => ⟨rfl, PTm.mk hU hWm hP hK hD hE hO⟩⟩ rfl rfl hl.1 rfl (lv_room (Nat.le_of_ble_eq_true rfl)) dX15_isSeen_163 ⟨by show _ + 0 ≤ 0; omega, by show _ + 0 ≤ 0; omega⟩) hS (fun q _ h => hFc q h) hFc (fun u t H1 locs ht hvm hw hB hz1 hk1 hS => ?_)
                  obtain ⟨F_208, hB1, hq_209⟩ := hB
                  obtain ⟨hP, hD, hO, hR⟩ := QTm.back hB1 ht hFc hR (fun q h => by simp only [List.mem_cons, List.not_mem_nil, or_false] at h ⊢; omega)
                  have hF_210 : F_208 h0 = .inr (15, (.ref ta) :: (.int (nI zt)) :: (.int (nI zo_109)) :: (.int (nI ze_110)) :: (.ref ou) :: (.ref so) :: (.ref ad) :: (.ref na) :: (.ref va) :: (.ref lc) :: (.ref dm) :: (.int v11_111) :: (.int v12_112) :: (.ref tg) :: (.int v14_113) :: (.int v15_114) :: (.ref pe) :: (.int v17_115) :: (.int v18_116) :: (.int v19_117) :: (.int v20_118) :: (.int v21_119) :: (.int v22_120) :: (.ref ml) :: (.ref bg) :: (.ref co) :: (.ref sp) :: (.ref nb0) :: (.ref nb1) :: (.ref nb2) :: (.int (nI nf)) :: (.int (nI bd)) :: (.int (nI mm)) :: (.int v33_121) :: (.ref pl) :: (.ref se) :: (.ref ke) :: (.ref wi) :: (.ref hs) :: (.ref mo) :: (.ref po) :: (.ref nu) :: (.ref pr) :: (.ref sq) :: (.ref xa) :: (.ref sa) :: (.ref n64) :: (.ref m64) :: (.ref ex) :: (.ref wh) :: (.ref sd) :: (.ref tk) :: (.int v52_122) :: (.int v53_123) :: (.int v54_124) :: (.ref hd) :: (.ref ak) :: (.ref ho) :: (.ref ot) :: []) := (hB1.2.2.2 h0 (by rw [hT_h0]; simp)).trans hF_170
                  have hF_211 : F_208 sp = .inl (cs 16, 21, .inl f_133) := (hB1.2.2.2 sp (by rw [ht_31]; simp)).trans hF_171
                  have hF_212 : F_208 co = .inl (cs 16, 21, .inl f_145) := (hB1.2.2.2 co (by rw [ht_29]; simp)).trans hF_172
                  have hF_213 : F_208 ml = .inl (cs 17, 3000, .inl f_182) := (hB1.2.2.2 ml (by rw [ht_25]; simp)).trans hF_183
                  generalize H1 = H at hP hS ⊢
                  refine lv_iinc (v := (nI (i + 1))) (lv' := [(3, .int (nI (i + 1))), (2, .int (nI k)), (1, .int (nI jf)), (0, .ref h0)]) hx hb dX15_isSeen_166 hl (k := 0) rfl (nI_1 _) (by decide) rfl (fun ls hl => ?_)
                  refine lv_goto (tgt := 106) hx hb dX15_isSeen_169 (by decide) ?_
                  refine W.widen (k := 0) (n := 0) (by omega) (by omega) ?_
                  exact ih_169 ((i + 1), (zz + 1)) F_208 (⟨⟨by omega, by omega⟩, by omega, hq_209⟩) (by show gm 2 jf - (i + 1) < gm 2 jf - i; omega) hO hR _ _ hP hD hS ls (lv_sub hl [0, 1, 2, 3] rfl)
        ·
          have hi_214 : k = (gm 1 jf) := (nI_eq (a := k) (b := (gm 1 jf)) (by omega) (by omega)).mp c_152
          refine lv_iconst (v := 0) hx hb dX15_isSeen_92 (by decide) ?_
          refine W.widen (k := 0) (n := 0) (by omega) (by omega) ?_
          obtain ⟨z_215, hF_216, hq_217⟩ := hO.txt hL_ak hT_ak
          exact W.zret (v := 0) (ty := .boolean) hx hb hr (by decide) (fun t ht hWm => ⟨⟨0, 0, rfl, ⟨rfl, Or.inl rfl⟩, ⟨F_138, z_215, QTm.mk ht hP hD hO hR, hF_216, (fun h => absurd h (by decide))⟩⟩, hS.F ht⟩) hS.2.2 dX15_isSeen_93
      ·
        have hi_218 : (gm 1 jf) < k := Nat.not_le.mp (fun q => c_149 ((nI_leI (a := k) (b := (gm 1 jf)) (by omega) (by omega)).mpr q))
        refine lv_aload_n hx hb dX15_isSeen_65 rfl (lv_at hl 2 rfl) ?_
        refine pg_get (ci := 15) (v := .ref ml) (C := RX15) (T := TX15) (N := 59) hx hb hts it_15 hown hK hP hL_h0 hF_143 rfl 23 (by decide) (hts _ kt_902) (fun _ h9 => h9) rfl dX15_isSeen_66 ?_
        refine lv_iload_n hx hb dX15_isSeen_69 rfl (lv_at hl 0 rfl) ?_
        obtain ⟨hq_219, hq_220⟩ := hW.octs hi_24 ht_25
        obtain ⟨f_221, hF_222, hq_223⟩ := hO.octs hi_24 ht_25
        refine pg_bald hx hb hK hP hi_24 1 hF_222 rfl (vp_in_nI (by omega) (by omega)) dX15_isSeen_70 ?_
        refine lv_topi (fun x_224 ex_224 => ?_)
        obtain rfl : x_224 = f_221 k := ex_224.trans (congrArg f_221 (show ((nI k) : Int32).toNatClampNeg = k from nI_clamp (by omega)))
        refine lv_bipush (v := 64) hx hb dX15_isSeen_71 (by decide) ?_
        refine lv_icmp_eq (tgt := 82) hx hb dX15_isSeen_73 (by decide) (fun c_225 => ?_) (fun c_225 => ?_)
        ·
          refine lv_iload_n hx hb dX15_isSeen_82 rfl (lv_at hl 0 rfl) ?_
          refine lv_aload_n hx hb dX15_isSeen_83 rfl (lv_at hl 2 rfl) ?_
          refine pg_get (ci := 15) (v := .ref co) (C := RX15) (T := TX15) (N := 59) hx hb hts it_15 hown hK hP hL_h0 hF_143 rfl 25 (by decide) (hts _ kt_904) (fun _ h9 => h9) rfl dX15_isSeen_84 ?_
          refine lv_iload_n hx hb dX15_isSeen_87 rfl (lv_at hl 1 rfl) ?_
          refine pg_iald hx hb hK hP hi_28 0 hF_146 rfl (vp_in_nI (by omega) (by omega)) dX15_isSeen_88 ?_
          refine lv_topi (fun x_226 ex_226 => ?_)
          obtain rfl : x_226 = (nI (gm 1 jf)) := ex_226.trans (by rw [show ((nI jf) : Int32) = nI jf from rfl, nI_clamp (by omega)]; exact hq_147 jf (by omega))
          have hgbx_226 := hgB 1 jf
          refine lv_icmp_ne (tgt := 94) hx hb dX15_isSeen_89 (by decide) (fun c_227 => ?_) (fun c_227 => ?_)
          ·
            have hi_228 : k ≠ (gm 1 jf) := fun q => c_227 (by rw [q])
            refine lv_aload_n hx hb dX15_isSeen_94 rfl (lv_at hl 2 rfl) ?_
            refine pg_get (ci := 15) (v := .ref ak) (C := RX15) (T := TX15) (N := 59) hx hb hts it_15 hown hK hP hL_h0 hF_143 rfl 56 (by decide) (hts _ kt_1045) (fun _ h9 => h9) rfl dX15_isSeen_95 ?_
            refine lv_iconst (v := 0) hx hb dX15_isSeen_98 (by decide) ?_
            obtain ⟨z_229, hF_230, hq_231⟩ := hO.txt hL_ak hT_ak
            refine pg_put (ci := 14) (v := .int 0) (ty := .int) (C := RX14) (T := TX14) (N := 2) hx hb hts it_14 tyX14 tyX14_ok nmX14 hown hK hP hD hS hL_ak hF_230 rfl 1 (by decide) (hts _ kt_709) (fun _ h9 => h9) rfl (by decide +kernel) (rfl) (rfl) (Nat.le_of_ble_eq_true rfl) dX15_isSeen_99 (fun H locs hP hD hS => ?_)
            obtain ⟨F_232, he_233, hP, hD, hO, hR⟩ : ∃ G, G = va_up F_138 ak (.inr (14, [.ref rak, .int 0])) ∧ va_P (dC, dI) vwCl (va_pl L G) H ∧ va_D A (va_pl L G) ∧ OKm cs ty gm L G ∧ FR ty [ρ + 28] F G := ⟨_, rfl, hP, hD, hO.up (shm.txt hT_ak ⟨0, rfl, (by first | omega | assumption | exact Or.inl rfl | exact Or.inr rfl)⟩), hR.up hT_ak (by simp)⟩
            have hF_234 : F_232 ak = .inr (14, [.ref rak, .int 0]) := by rw [he_233]; exact up_self
            have hF_235 : F_232 h0 = .inr (15, (.ref ta) :: (.int (nI zt)) :: (.int (nI zo_109)) :: (.int (nI ze_110)) :: (.ref ou) :: (.ref so) :: (.ref ad) :: (.ref na) :: (.ref va) :: (.ref lc) :: (.ref dm) :: (.int v11_111) :: (.int v12_112) :: (.ref tg) :: (.int v14_113) :: (.int v15_114) :: (.ref pe) :: (.int v17_115) :: (.int v18_116) :: (.int v19_117) :: (.int v20_118) :: (.int v21_119) :: (.int v22_120) :: (.ref ml) :: (.ref bg) :: (.ref co) :: (.ref sp) :: (.ref nb0) :: (.ref nb1) :: (.ref nb2) :: (.int (nI nf)) :: (.int (nI bd)) :: (.int (nI mm)) :: (.int v33_121) :: (.ref pl) :: (.ref se) :: (.ref ke) :: (.ref wi) :: (.ref hs) :: (.ref mo) :: (.ref po) :: (.ref nu) :: (.ref pr) :: (.ref sq) :: (.ref xa) :: (.ref sa) :: (.ref n64) :: (.ref m64) :: (.ref ex) :: (.ref wh) :: (.ref sd) :: (.ref tk) :: (.int v52_122) :: (.int v53_123) :: (.int v54_124) :: (.ref hd) :: (.ref ak) :: (.ref ho) :: (.ref ot) :: []) := by rw [he_233, up_ne (ne_ty hT_h0 hT_ak (by simp))]; exact hF_143
            have hF_236 : F_232 sp = .inl (cs 16, 21, .inl f_133) := by rw [he_233, up_ne (ne_ty ht_31 hT_ak (by simp))]; exact hF_144
            have hF_237 : F_232 co = .inl (cs 16, 21, .inl f_145) := by rw [he_233, up_ne (ne_ty ht_29 hT_ak (by simp))]; exact hF_146
            have hF_238 : F_232 ml = .inl (cs 17, 3000, .inl f_221) := by rw [he_233, up_ne (ne_ty ht_25 hT_ak (by simp))]; exact hF_222
            refine lv_iload_n hx hb dX15_isSeen_102 rfl (lv_at hl 0 rfl) ?_
            refine lv_iconst (v := 1) hx hb dX15_isSeen_103 (by decide) ?_
            refine lv_iadd hx hb dX15_isSeen_104 ?_
            refine lv_topi (fun x_239 ex_239 => ?_)
            obtain rfl : x_239 = (nI (k + 1)) := ex_239.trans (nI_add k 1)
            refine lv_istore_n (lv' := [(3, .int (nI (k + 1))), (2, .int (nI k)), (1, .int (nI jf)), (0, .ref h0)]) hx hb dX15_isSeen_105 rfl hl (by decide) rfl (fun ls hl => ?_)
            refine W.widen (k := 0) (n := 0) (by omega) (by omega) ?_
            have hF_241 : F h0 = .inr (15, (.ref ta) :: (.int (nI zt)) :: (.int (nI zo_109)) :: (.int (nI ze_110)) :: (.ref ou) :: (.ref so) :: (.ref ad) :: (.ref na) :: (.ref va) :: (.ref lc) :: (.ref dm) :: (.int v11_111) :: (.int v12_112) :: (.ref tg) :: (.int v14_113) :: (.int v15_114) :: (.ref pe) :: (.int v17_115) :: (.int v18_116) :: (.int v19_117) :: (.int v20_118) :: (.int v21_119) :: (.int v22_120) :: (.ref ml) :: (.ref bg) :: (.ref co) :: (.ref sp) :: (.ref nb0) :: (.ref nb1) :: (.ref nb2) :: (.int (nI nf)) :: (.int (nI bd)) :: (.int (nI mm)) :: (.int v33_121) :: (.ref pl) :: (.ref se) :: (.ref ke) :: (.ref wi) :: (.ref hs) :: (.ref mo) :: (.ref po) :: (.ref nu) :: (.ref pr) :: (.ref sq) :: (.ref xa) :: (.ref sa) :: (.ref n64) :: (.ref m64) :: (.ref ex) :: (.ref wh) :: (.ref sd) :: (.ref tk) :: (.int v52_122) :: (.int v53_123) :: (.int v54_124) :: (.ref hd) :: (.ref ak) :: (.ref ho) :: (.ref ot) :: []) := (hR h0 (by rw [hT_h0]; simp)).symm.trans hF_235
            have hF_242 : F sp = .inl (cs 16, 21, .inl f_133) := (hR sp (by rw [ht_31]; simp)).symm.trans hF_236
            have hF_243 : F co = .inl (cs 16, 21, .inl f_145) := (hR co (by rw [ht_29]; simp)).symm.trans hF_237
            have hF_244 : F ml = .inl (cs 17, 3000, .inl f_221) := (hR ml (by rw [ht_25]; simp)).symm.trans hF_238
            refine pl_loopm (σ := Nat × Nat) A (dC, dI) cs ty gm L [ρ + 28] F 106 4 (fun (i, zz) => [(3, .int (nI i)), (2, .int (nI k)), (1, .int (nI jf)), (0, .ref h0)]) (fun (i, zz) => []) (fun (i, zz) FF => (k + 1 ≤ i ∧ i ≤ max (k + 1) (gm 2 jf)) ∧ zz ≤ i - (k + 1) ∧ FF ak = .inr (14, [.ref rak, .int (nI zz)])) (fun (i, zz) => gm 2 jf - i) ?_ ((k + 1), 0) F_232 (⟨⟨by omega, by omega⟩, by omega, hF_234⟩) hO hR _ _ hP hD hS ls (lv_sub hl [0, 1, 2, 3] rfl)
            rintro ⟨i, zz⟩ F_240 hv_245 hO hR ih_246 H locs hP hD hS ls hl
            have hl : lv_has ls 4 [(3, .int (nI i)), (2, .int (nI k)), (1, .int (nI jf)), (0, .ref h0)] := hl
            have hv_245 : (k + 1 ≤ i ∧ i ≤ max (k + 1) (gm 2 jf)) ∧ zz ≤ i - (k + 1) ∧ F_240 ak = .inr (14, [.ref rak, .int (nI zz)]) := hv_245
            refine W.eq (g2 := F0 m 106 ls []) rfl ?_
            have hF_247 : F_240 h0 = .inr (15, (.ref ta) :: (.int (nI zt)) :: (.int (nI zo_109)) :: (.int (nI ze_110)) :: (.ref ou) :: (.ref so) :: (.ref ad) :: (.ref na) :: (.ref va) :: (.ref lc) :: (.ref dm) :: (.int v11_111) :: (.int v12_112) :: (.ref tg) :: (.int v14_113) :: (.int v15_114) :: (.ref pe) :: (.int v17_115) :: (.int v18_116) :: (.int v19_117) :: (.int v20_118) :: (.int v21_119) :: (.int v22_120) :: (.ref ml) :: (.ref bg) :: (.ref co) :: (.ref sp) :: (.ref nb0) :: (.ref nb1) :: (.ref nb2) :: (.int (nI nf)) :: (.int (nI bd)) :: (.int (nI mm)) :: (.int v33_121) :: (.ref pl) :: (.ref se) :: (.ref ke) :: (.ref wi) :: (.ref hs) :: (.ref mo) :: (.ref po) :: (.ref nu) :: (.ref pr) :: (.ref sq) :: (.ref xa) :: (.ref sa) :: (.ref n64) :: (.ref m64) :: (.ref ex) :: (.ref wh) :: (.ref sd) :: (.ref tk) :: (.int v52_122) :: (.int v53_123) :: (.int v54_124) :: (.ref hd) :: (.ref ak) :: (.ref ho) :: (.ref ot) :: []) := (hR h0 (by rw [hT_h0]; simp)).trans hF_241
            have hF_248 : F_240 sp = .inl (cs 16, 21, .inl f_133) := (hR sp (by rw [ht_31]; simp)).trans hF_242
            have hF_249 : F_240 co = .inl (cs 16, 21, .inl f_145) := (hR co (by rw [ht_29]; simp)).trans hF_243
            have hF_250 : F_240 ml = .inl (cs 17, 3000, .inl f_221) := (hR ml (by rw [ht_25]; simp)).trans hF_244
            obtain ⟨hi1, hi2, hi3⟩ := hv_245
            refine lv_iload_n hx hb dX15_isSeen_106 rfl (lv_at hl 0 rfl) ?_
            refine lv_aload_n hx hb dX15_isSeen_107 rfl (lv_at hl 3 rfl) ?_
            refine pg_get (ci := 15) (v := .ref sp) (C := RX15) (T := TX15) (N := 59) hx hb hts it_15 hown hK hP hL_h0 hF_247 rfl 26 (by decide) (hts _ kt_905) (fun _ h9 => h9) rfl dX15_isSeen_108 ?_
            refine lv_iload_n hx hb dX15_isSeen_111 rfl (lv_at hl 2 rfl) ?_
            refine pg_iald hx hb hK hP hi_30 0 hF_248 rfl (vp_in_nI (by omega) (by omega)) dX15_isSeen_112 ?_
            refine lv_topi (fun x_251 ex_251 => ?_)
            obtain rfl : x_251 = (nI (gm 2 jf)) := ex_251.trans (by rw [show ((nI jf) : Int32) = nI jf from rfl, nI_clamp (by omega)]; exact hq_135 jf (by omega))
            have hgbx_251 := hgB 2 jf
            refine lv_icmp_ge (tgt := 172) hx hb dX15_isSeen_113 (by decide) (fun c_252 => ?_) (fun c_252 => ?_)
            ·
              have hi_253 : (gm 2 jf) ≤ i := leN (N := (gm 2 jf)) c_252
              refine lv_aload_n hx hb dX15_isSeen_172 rfl (lv_at hl 3 rfl) ?_
              refine pg_get (ci := 15) (v := .ref ak) (C := RX15) (T := TX15) (N := 59) hx hb hts it_15 hown hK hP hL_h0 hF_247 rfl 56 (by decide) (hts _ kt_1045) (fun _ h9 => h9) rfl dX15_isSeen_173 ?_
              have hFc := pg_free hD hS hA
              refine va_calli (va_runV (As := []) (rest := []) ⟨hx, hb, hml, hown, hts⟩ (s_X14_isName l dC dI cs ty gm L H.size F_240 ak (ρ + 28) rak 6000 zz hW hL_ak hT_ak hi3 (by first | omega | assumption)) ⟨callB_of 0 hts (gi kt_1046) rfl rfl rfl (hts _ kt_676) (hts _ kt_1047) (by decide +kernel) ⟨Nat.le_of_ble_eq_true rfl, Nat.le_of_ble_eq_true rfl⟩, (hts _ kt_1048), (hts _ kt_1049)⟩ ⟨fun a U g mk q => ⟨q.1, PTm.calling q.2⟩, pg_recv hK hP hL_ak hi3 (q := (RX14, TX14, 2)) rfl, fun U hU hWm => ⟨rfl, PTm.mk hU hWm hP hK hD hE hO⟩⟩ rfl rfl hl.1 rfl (lv_room (Nat.le_of_ble_eq_true rfl)) dX15_isSeen_176 ⟨by show _ + 0 ≤ 0; omega, by show _ + 0 ≤ 0; omega⟩) hS (fun q _ h => hFc q h) hFc (fun r_254 u t H1 locs ht hvm hw hB hz1 hk1 hS => ?_)
              obtain ⟨F_255, hB1⟩ := hB
              obtain rfl : F_240 = F_255 := (funext (fun a => hB1.2.2.2 a List.not_mem_nil)).symm
              obtain ⟨hP, hD, hO, hR⟩ := QTm.back hB1 ht hFc hR (fun q h => absurd h List.not_mem_nil)
              generalize H1 = H at hP hS ⊢
              have hw : (r_254 = 0 ∨ (r_254 = 1 ∧ 0 < zz ∧ zz ≤ 60)) := hw
              have hw_256 := hw
              refine W.widen (k := 0) (n := 0) (by omega) (by omega) ?_
              exact W.zret (v := r_254) (ty := .boolean) hx hb hr (bitN (bit3 hw_256)) (fun t ht hWm => ⟨⟨r_254, r_254, rfl, ⟨rfl, bit3 hw_256⟩, ⟨F_240, zz, QTm.mk ht hP hD hO hR, hi3, (fun h => (bit1 hw_256 (by rw [h]; decide)).2)⟩⟩, hS.F ht⟩) hS.2.2 dX15_isSeen_179
            ·
              have hi_257 : i < (gm 2 jf) := ltN (N := (gm 2 jf)) c_252
              refine lv_aload_n hx hb dX15_isSeen_116 rfl (lv_at hl 3 rfl) ?_
              refine pg_get (ci := 15) (v := .ref ml) (C := RX15) (T := TX15) (N := 59) hx hb hts it_15 hown hK hP hL_h0 hF_247 rfl 23 (by decide) (hts _ kt_902) (fun _ h9 => h9) rfl dX15_isSeen_117 ?_
              refine lv_iload_n hx hb dX15_isSeen_120 rfl (lv_at hl 0 rfl) ?_
              refine pg_bald hx hb hK hP hi_24 1 hF_250 rfl (vp_in_nI (by omega) (by omega)) dX15_isSeen_121 ?_
              refine lv_topi (fun x_258 ex_258 => ?_)
              obtain rfl : x_258 = f_221 i := ex_258.trans (congrArg f_221 (show ((nI i) : Int32).toNatClampNeg = i from nI_clamp (by omega)))
              have hFc := pg_free hD hS hA
              refine va_calli (va_runS (As := [.int (f_221 i)]) (rest := []) ⟨hx, hb, hml, hown, hts⟩ (s_X15_isWhite l dC dI cs ty gm L H.size F_240 (f_221 i) hW ) ⟨callB_of 1 hts (gi kt_715) rfl rfl rfl (hts _ kt_669) (hts _ kt_716) (by decide +kernel) ⟨Nat.le_of_ble_eq_true rfl, Nat.le_of_ble_eq_true rfl⟩, (hts _ kt_717)⟩ ⟨fun a U g mk q => ⟨q.1, PTm.calling q.2⟩, fun U hU hWm => ⟨rfl, PTm.mk hU hWm hP hK hD hE hO⟩⟩ rfl rfl hl.1 rfl (lv_room (Nat.le_of_ble_eq_true rfl)) dX15_isSeen_122 ⟨by show _ + 0 ≤ 0; omega, by show _ + 0 ≤ 0; omega⟩) hS (fun q _ h => hFc q h) hFc (fun r_259 u t H1 locs ht hvm hw hB hz1 hk1 hS => ?_)
              obtain ⟨F_260, hB1⟩ := hB
              obtain rfl : F_240 = F_260 := (funext (fun a => hB1.2.2.2 a List.not_mem_nil)).symm
              obtain ⟨hP, hD, hO, hR⟩ := QTm.back hB1 ht hFc hR (fun q h => absurd h List.not_mem_nil)
              generalize H1 = H at hP hS ⊢
              have hw : (r_259 = 0 ∨ r_259 = 1) := hw
              have hw_261 := hw
              refine lv_if_ne (tgt := 172) hx hb dX15_isSeen_125 (by decide) (fun c_262 => ?_) (fun c_262 => ?_)
              ·
                refine lv_aload_n hx hb dX15_isSeen_172 rfl (lv_at hl 3 rfl) ?_
                refine pg_get (ci := 15) (v := .ref ak) (C := RX15) (T := TX15) (N := 59) hx hb hts it_15 hown hK hP hL_h0 hF_247 rfl 56 (by decide) (hts _ kt_1045) (fun _ h9 => h9) rfl dX15_isSeen_173 ?_
                have hFc := pg_free hD hS hA
                refine va_calli (va_runV (As := []) (rest := []) ⟨hx, hb, hml, hown, hts⟩ (s_X14_isName l dC dI cs ty gm L H.size F_240 ak (ρ + 28) rak 6000 zz hW hL_ak hT_ak hi3 (by first | omega | assumption)) ⟨callB_of 0 hts (gi kt_1046) rfl rfl rfl (hts _ kt_676) (hts _ kt_1047) (by decide +kernel) ⟨Nat.le_of_ble_eq_true rfl, Nat.le_of_ble_eq_true rfl⟩, (hts _ kt_1048), (hts _ kt_1049)⟩ ⟨fun a U g mk q => ⟨q.1, PTm.calling q.2⟩, pg_recv hK hP hL_ak hi3 (q := (RX14, TX14, 2)) rfl, fun U hU hWm => ⟨rfl, PTm.mk hU hWm hP hK hD hE hO⟩⟩ rfl rfl hl.1 rfl (lv_room (Nat.le_of_ble_eq_true rfl)) dX15_isSeen_176 ⟨by show _ + 0 ≤ 0; omega, by show _ + 0 ≤ 0; omega⟩) hS (fun q _ h => hFc q h) hFc (fun r_263 u t H1 locs ht hvm hw hB hz1 hk1 hS => ?_)
                obtain ⟨F_264, hB1⟩ := hB
                obtain rfl : F_240 = F_264 := (funext (fun a => hB1.2.2.2 a List.not_mem_nil)).symm
                obtain ⟨hP, hD, hO, hR⟩ := QTm.back hB1 ht hFc hR (fun q h => absurd h List.not_mem_nil)
                generalize H1 = H at hP hS ⊢
                have hw : (r_263 = 0 ∨ (r_263 = 1 ∧ 0 < zz ∧ zz ≤ 60)) := hw
                have hw_265 := hw
                refine W.widen (k := 0) (n := 0) (by omega) (by omega) ?_
                exact W.zret (v := r_263) (ty := .boolean) hx hb hr (bitN (bit3 hw_265)) (fun t ht hWm => ⟨⟨r_263, r_263, rfl, ⟨rfl, bit3 hw_265⟩, ⟨F_240, zz, QTm.mk ht hP hD hO hR, hi3, (fun h => (bit1 hw_265 (by rw [h]; decide)).2)⟩⟩, hS.F ht⟩) hS.2.2 dX15_isSeen_179
              ·
                refine lv_aload_n hx hb dX15_isSeen_128 rfl (lv_at hl 3 rfl) ?_
                refine pg_get (ci := 15) (v := .ref ml) (C := RX15) (T := TX15) (N := 59) hx hb hts it_15 hown hK hP hL_h0 hF_247 rfl 23 (by decide) (hts _ kt_902) (fun _ h9 => h9) rfl dX15_isSeen_129 ?_
                refine lv_iload_n hx hb dX15_isSeen_132 rfl (lv_at hl 0 rfl) ?_
                refine pg_bald hx hb hK hP hi_24 1 hF_250 rfl (vp_in_nI (by omega) (by omega)) dX15_isSeen_133 ?_
                refine lv_topi (fun x_266 ex_266 => ?_)
                obtain rfl : x_266 = f_221 i := ex_266.trans (congrArg f_221 (show ((nI i) : Int32).toNatClampNeg = i from nI_clamp (by omega)))
                refine lv_bipush (v := 62) hx hb dX15_isSeen_134 (by decide) ?_
                refine lv_icmp_eq (tgt := 172) hx hb dX15_isSeen_136 (by decide) (fun c_267 => ?_) (fun c_267 => ?_)
                ·
                  refine lv_aload_n hx hb dX15_isSeen_172 rfl (lv_at hl 3 rfl) ?_
                  refine pg_get (ci := 15) (v := .ref ak) (C := RX15) (T := TX15) (N := 59) hx hb hts it_15 hown hK hP hL_h0 hF_247 rfl 56 (by decide) (hts _ kt_1045) (fun _ h9 => h9) rfl dX15_isSeen_173 ?_
                  have hFc := pg_free hD hS hA
                  refine va_calli (va_runV (As := []) (rest := []) ⟨hx, hb, hml, hown, hts⟩ (s_X14_isName l dC dI cs ty gm L H.size F_240 ak (ρ + 28) rak 6000 zz hW hL_ak hT_ak hi3 (by first | omega | assumption)) ⟨callB_of 0 hts (gi kt_1046) rfl rfl rfl (hts _ kt_676) (hts _ kt_1047) (by decide +kernel) ⟨Nat.le_of_ble_eq_true rfl, Nat.le_of_ble_eq_true rfl⟩, (hts _ kt_1048), (hts _ kt_1049)⟩ ⟨fun a U g mk q => ⟨q.1, PTm.calling q.2⟩, pg_recv hK hP hL_ak hi3 (q := (RX14, TX14, 2)) rfl, fun U hU hWm => ⟨rfl, PTm.mk hU hWm hP hK hD hE hO⟩⟩ rfl rfl hl.1 rfl (lv_room (Nat.le_of_ble_eq_true rfl)) dX15_isSeen_176 ⟨by show _ + 0 ≤ 0; omega, by show _ + 0 ≤ 0; omega⟩) hS (fun q _ h => hFc q h) hFc (fun r_268 u t H1 locs ht hvm hw hB hz1 hk1 hS => ?_)
                  obtain ⟨F_269, hB1⟩ := hB
                  obtain rfl : F_240 = F_269 := (funext (fun a => hB1.2.2.2 a List.not_mem_nil)).symm
                  obtain ⟨hP, hD, hO, hR⟩ := QTm.back hB1 ht hFc hR (fun q h => absurd h List.not_mem_nil)
                  generalize H1 = H at hP hS ⊢
                  have hw : (r_268 = 0 ∨ (r_268 = 1 ∧ 0 < zz ∧ zz ≤ 60)) := hw
                  have hw_270 := hw
                  refine W.widen (k := 0) (n := 0) (by omega) (by omega) ?_
                  exact W.zret (v := r_268) (ty := .boolean) hx hb hr (bitN (bit3 hw_270)) (fun t ht hWm => ⟨⟨r_268, r_268, rfl, ⟨rfl, bit3 hw_270⟩, ⟨F_240, zz, QTm.mk ht hP hD hO hR, hi3, (fun h => (bit1 hw_270 (by rw [h]; decide)).2)⟩⟩, hS.F ht⟩) hS.2.2 dX15_isSeen_179
                ·
                  refine lv_aload_n hx hb dX15_isSeen_139 rfl (lv_at hl 3 rfl) ?_
                  refine pg_get (ci := 15) (v := .ref ml) (C := RX15) (T := TX15) (N := 59) hx hb hts it_15 hown hK hP hL_h0 hF_247 rfl 23 (by decide) (hts _ kt_902) (fun _ h9 => h9) rfl dX15_isSeen_140 ?_
                  refine lv_iload_n hx hb dX15_isSeen_143 rfl (lv_at hl 0 rfl) ?_
                  refine pg_bald hx hb hK hP hi_24 1 hF_250 rfl (vp_in_nI (by omega) (by omega)) dX15_isSeen_144 ?_
                  refine lv_topi (fun x_271 ex_271 => ?_)
                  obtain rfl : x_271 = f_221 i := ex_271.trans (congrArg f_221 (show ((nI i) : Int32).toNatClampNeg = i from nI_clamp (by omega)))
                  refine lv_bipush (v := 10) hx hb dX15_isSeen_145 (by decide) ?_
                  refine lv_icmp_eq (tgt := 172) hx hb dX15_isSeen_147 (by decide) (fun c_272 => ?_) (fun c_272 => ?_)
                  ·
                    refine lv_aload_n hx hb dX15_isSeen_172 rfl (lv_at hl 3 rfl) ?_
                    refine pg_get (ci := 15) (v := .ref ak) (C := RX15) (T := TX15) (N := 59) hx hb hts it_15 hown hK hP hL_h0 hF_247 rfl 56 (by decide) (hts _ kt_1045) (fun _ h9 => h9) rfl dX15_isSeen_173 ?_
                    have hFc := pg_free hD hS hA
                    refine va_calli (va_runV (As := []) (rest := []) ⟨hx, hb, hml, hown, hts⟩ (s_X14_isName l dC dI cs ty gm L H.size F_240 ak (ρ + 28) rak 6000 zz hW hL_ak hT_ak hi3 (by first | omega | assumption)) ⟨callB_of 0 hts (gi kt_1046) rfl rfl rfl (hts _ kt_676) (hts _ kt_1047) (by decide +kernel) ⟨Nat.le_of_ble_eq_true rfl, Nat.le_of_ble_eq_true rfl⟩, (hts _ kt_1048), (hts _ kt_1049)⟩ ⟨fun a U g mk q => ⟨q.1, PTm.calling q.2⟩, pg_recv hK hP hL_ak hi3 (q := (RX14, TX14, 2)) rfl, fun U hU hWm => ⟨rfl, PTm.mk hU hWm hP hK hD hE hO⟩⟩ rfl rfl hl.1 rfl (lv_room (Nat.le_of_ble_eq_true rfl)) dX15_isSeen_176 ⟨by show _ + 0 ≤ 0; omega, by show _ + 0 ≤ 0; omega⟩) hS (fun q _ h => hFc q h) hFc (fun r_273 u t H1 locs ht hvm hw hB hz1 hk1 hS => ?_)
                    obtain ⟨F_274, hB1⟩ := hB
                    obtain rfl : F_240 = F_274 := (funext (fun a => hB1.2.2.2 a List.not_mem_nil)).symm
                    obtain ⟨hP, hD, hO, hR⟩ := QTm.back hB1 ht hFc hR (fun q h => absurd h List.not_mem_nil)
                    generalize H1 = H at hP hS ⊢
                    have hw : (r_273 = 0 ∨ (r_273 = 1 ∧ 0 < zz ∧ zz ≤ 60)) := hw
                    have hw_275 := hw
                    refine W.widen (k := 0) (n := 0) (by omega) (by omega) ?_
                    exact W.zret (v := r_273) (ty := .boolean) hx hb hr (bitN (bit3 hw_275)) (fun t ht hWm => ⟨⟨r_273, r_273, rfl, ⟨rfl, bit3 hw_275⟩, ⟨F_240, zz, QTm.mk ht hP hD hO hR, hi3, (fun h => (bit1 hw_275 (by rw [h]; decide)).2)⟩⟩, hS.F ht⟩) hS.2.2 dX15_isSeen_179
                  ·
                    refine lv_aload_n hx hb dX15_isSeen_150 rfl (lv_at hl 3 rfl) ?_
                    refine pg_get (ci := 15) (v := .ref ak) (C := RX15) (T := TX15) (N := 59) hx hb hts it_15 hown hK hP hL_h0 hF_247 rfl 56 (by decide) (hts _ kt_1045) (fun _ h9 => h9) rfl dX15_isSeen_151 ?_
                    refine lv_aload_n hx hb dX15_isSeen_154 rfl (lv_at hl 3 rfl) ?_
                    refine pg_get (ci := 15) (v := .ref ml) (C := RX15) (T := TX15) (N := 59) hx hb hts it_15 hown hK hP hL_h0 hF_247 rfl 23 (by decide) (hts _ kt_902) (fun _ h9 => h9) rfl dX15_isSeen_155 ?_
                    refine lv_iload_n hx hb dX15_isSeen_158 rfl (lv_at hl 0 rfl) ?_
                    refine pg_bald hx hb hK hP hi_24 1 hF_250 rfl (vp_in_nI (by omega) (by omega)) dX15_isSeen_159 ?_
                    refine lv_topi (fun x_276 ex_276 => ?_)
                    obtain rfl : x_276 = f_221 i := ex_276.trans (congrArg f_221 (show ((nI i) : Int32).toNatClampNeg = i from nI_clamp (by omega)))
                    have hFc := pg_free hD hS hA
                    refine va_calli (va_runS (As := [.int (f_221 i)]) (rest := [.ref ak]) ⟨hx, hb, hml, hown, hts⟩ (s_X15_small l dC dI cs ty gm L H.size F_240 (f_221 i) hW ) ⟨callB_of 1 hts (gi kt_697) rfl rfl rfl (hts _ kt_669) (hts _ kt_698) (by decide +kernel) ⟨Nat.le_of_ble_eq_true rfl, Nat.le_of_ble_eq_true rfl⟩, (hts _ kt_699)⟩ ⟨fun a U g mk q => ⟨q.1, PTm.calling q.2⟩, fun U hU hWm => ⟨rfl, PTm.mk hU hWm hP hK hD hE hO⟩⟩ rfl rfl hl.1 rfl (lv_room (Nat.le_of_ble_eq_true rfl)) dX15_isSeen_160 ⟨by show _ + 0 ≤ 0; omega, by show _ + 0 ≤ 0; omega⟩) hS (fun q _ h => hFc q h) hFc (fun r_277 u t H1 locs ht hvm hw hB hz1 hk1 hS => ?_)
                    obtain ⟨F_278, hB1⟩ := hB
                    obtain rfl : F_240 = F_278 := (funext (fun a => hB1.2.2.2 a List.not_mem_nil)).symm
                    obtain ⟨hP, hD, hO, hR⟩ := QTm.back hB1 ht hFc hR (fun q h => absurd h List.not_mem_nil)
                    generalize H1 = H at hP hS ⊢
                    have hw : True := hw
                    have hw_279 := hw
                    have hFc := pg_free hD hS hA
                    refine va_callv (va_runV (As := [.int r_277]) (rest := []) ⟨hx, hb, hml, hown, hts⟩ (s_X14_add l dC dI cs ty gm L H.size F_240 ak (ρ + 28) rak 6000 zz r_277 hW hL_ak hT_ak hi3 (by first | omega | assumption)) ⟨callB_of 1 hts (gi kt_711) rfl rfl rfl (hts _ kt_676) (hts _ kt_712) (by decide +kernel) ⟨Nat.le_of_ble_eq_true rfl, Nat.le_of_ble_eq_true rfl⟩, (hts _ kt_713), (hts _ kt_714)⟩ ⟨fun a U g mk q => ⟨q.1, PTm.calling q.2⟩, pg_recv hK hP hL_ak hi3 (q := (RX14, TX14, 2)) rfl, fun U hU hWm => ⟨rfl, PTm.mk hU hWm hP hK hD hE hO⟩⟩ rfl rfl hl.1 rfl (lv_room (Nat.le_of_ble_eq_true rfl)) dX15_isSeen_163 ⟨by show _ + 0 ≤ 0; omega, by show _ + 0 ≤ 0; omega⟩) hS (fun q _ h => hFc q h) hFc (fun u t H1 locs ht hvm hw hB hz1 hk1 hS => ?_)
                    obtain ⟨F_281, hB1, hq_282⟩ := hB
                    obtain ⟨hP, hD, hO, hR⟩ := QTm.back hB1 ht hFc hR (fun q h => by simp only [List.mem_cons, List.not_mem_nil, or_false] at h ⊢; omega)
                    have hF_283 : F_281 h0 = .inr (15, (.ref ta) :: (.int (nI zt)) :: (.int (nI zo_109)) :: (.int (nI ze_110)) :: (.ref ou) :: (.ref so) :: (.ref ad) :: (.ref na) :: (.ref va) :: (.ref lc) :: (.ref dm) :: (.int v11_111) :: (.int v12_112) :: (.ref tg) :: (.int v14_113) :: (.int v15_114) :: (.ref pe) :: (.int v17_115) :: (.int v18_116) :: (.int v19_117) :: (.int v20_118) :: (.int v21_119) :: (.int v22_120) :: (.ref ml) :: (.ref bg) :: (.ref co) :: (.ref sp) :: (.ref nb0) :: (.ref nb1) :: (.ref nb2) :: (.int (nI nf)) :: (.int (nI bd)) :: (.int (nI mm)) :: (.int v33_121) :: (.ref pl) :: (.ref se) :: (.ref ke) :: (.ref wi) :: (.ref hs) :: (.ref mo) :: (.ref po) :: (.ref nu) :: (.ref pr) :: (.ref sq) :: (.ref xa) :: (.ref sa) :: (.ref n64) :: (.ref m64) :: (.ref ex) :: (.ref wh) :: (.ref sd) :: (.ref tk) :: (.int v52_122) :: (.int v53_123) :: (.int v54_124) :: (.ref hd) :: (.ref ak) :: (.ref ho) :: (.ref ot) :: []) := (hB1.2.2.2 h0 (by rw [hT_h0]; simp)).trans hF_247
                    have hF_284 : F_281 sp = .inl (cs 16, 21, .inl f_133) := (hB1.2.2.2 sp (by rw [ht_31]; simp)).trans hF_248
                    have hF_285 : F_281 co = .inl (cs 16, 21, .inl f_145) := (hB1.2.2.2 co (by rw [ht_29]; simp)).trans hF_249
                    have hF_286 : F_281 ml = .inl (cs 17, 3000, .inl f_221) := (hB1.2.2.2 ml (by rw [ht_25]; simp)).trans hF_250
                    generalize H1 = H at hP hS ⊢
                    refine lv_iinc (v := (nI (i + 1))) (lv' := [(3, .int (nI (i + 1))), (2, .int (nI k)), (1, .int (nI jf)), (0, .ref h0)]) hx hb dX15_isSeen_166 hl (k := 0) rfl (nI_1 _) (by decide) rfl (fun ls hl => ?_)
                    refine lv_goto (tgt := 106) hx hb dX15_isSeen_169 (by decide) ?_
                    refine W.widen (k := 0) (n := 0) (by omega) (by omega) ?_
                    exact ih_246 ((i + 1), (zz + 1)) F_281 (⟨⟨by omega, by omega⟩, by omega, hq_282⟩) (by show gm 2 jf - (i + 1) < gm 2 jf - i; omega) hO hR _ _ hP hD hS ls (lv_sub hl [0, 1, 2, 3] rfl)
          ·
            have hi_287 : k = (gm 1 jf) := (nI_eq (a := k) (b := (gm 1 jf)) (by omega) (by omega)).mp c_227
            refine lv_iconst (v := 0) hx hb dX15_isSeen_92 (by decide) ?_
            refine W.widen (k := 0) (n := 0) (by omega) (by omega) ?_
            obtain ⟨z_288, hF_289, hq_290⟩ := hO.txt hL_ak hT_ak
            exact W.zret (v := 0) (ty := .boolean) hx hb hr (by decide) (fun t ht hWm => ⟨⟨0, 0, rfl, ⟨rfl, Or.inl rfl⟩, ⟨F_138, z_288, QTm.mk ht hP hD hO hR, hF_289, (fun h => absurd h (by decide))⟩⟩, hS.F ht⟩) hS.2.2 dX15_isSeen_93
        ·
          refine lv_iinc (v := (nI (k - 1))) (lv' := [(2, .int (nI (k - 1))), (1, .int (nI jf)), (0, .ref h0)]) hx hb dX15_isSeen_76 hl (k := 0) rfl (m1N (by omega)) (by decide) rfl (fun ls hl => ?_)
          refine lv_goto (tgt := 55) hx hb dX15_isSeen_79 (by decide) ?_
          refine W.widen (k := 0) (n := 0) (by omega) (by omega) ?_
          exact ih_142 (k - 1) F_138 (⟨by omega, by omega⟩) (by show (k - 1) < k; omega) hO hR _ _ hP hD hS ls (lv_sub hl [0, 1, 2] rfl)
    ·
      refine lv_iconst (v := 0) hx hb dX15_isSeen_44 (by decide) ?_
      refine W.widen (k := 0) (n := 0) (by omega) (by omega) ?_
      obtain ⟨z_291, hF_292, hq_293⟩ := hO.txt hL_ak hT_ak
      exact W.zret (v := 0) (ty := .boolean) hx hb hr (by decide) (fun t ht hWm => ⟨⟨0, 0, rfl, ⟨rfl, Or.inl rfl⟩, ⟨F_106, z_291, QTm.mk ht hP hD hO hR, hF_292, (fun h => absurd h (by decide))⟩⟩, hS.F ht⟩) hS.2.2 dX15_isSeen_45
  ·
    have hi_294 : j < nf := ltN (N := nf) c_130
    refine lv_aload_n hx hb dX15_isSeen_12 rfl (lv_at hl 2 rfl) ?_
    refine lv_iload_n hx hb dX15_isSeen_13 rfl (lv_at hl 0 rfl) ?_
    obtain ⟨q_295, v_296, hr_q_295, hX_q_295⟩ := hG.2.2 ("PostGateModel", 488, "from", [102, 114, 111, 109]) (by decide +kernel)
    have hX_q_295 : SXc q_295 v_296 4 (cct [102, 114, 111, 109]) A s s.heap := hX_q_295
    obtain ⟨xo_q_295, xc_q_295, xv_q_295, xt_q_295, xn_q_295⟩ := id hX_q_295
    have hr_q_295 : vk_R "PostGateModel" 488 "from" q_295 s := hr_q_295
    refine va_ldcwS hx hb hown hr_q_295 dX15_isSeen_14 ?_
    have hFc := pg_free hD hS hA
    refine va_calli (va_runV (As := [.int (nI j), .ref q_295]) (rest := []) ⟨hx, hb, hml, hown, hts⟩ (s_X15_isNamed l dC dI cs ty gm L H.size F_106 h0 ρ ta ou so ad na va lc dm tg pe ml bg co sp nb0 nb1 nb2 pl se ke wi hs mo po nu pr sq xa sa n64 m64 ex wh sd tk hd ak ho ot sx s0 s1 s2 nf bd mm zt j q_295 v_296 4 (cct [102, 114, 111, 109]) hW hL_h0 hT_h0 (by first | omega | assumption)) ⟨callB_of 2 hts (gi kt_908) rfl rfl rfl (hts _ kt_669) (hts _ kt_909) (by decide +kernel) ⟨Nat.le_of_ble_eq_true rfl, Nat.le_of_ble_eq_true rfl⟩, (hts _ kt_910), (hts _ kt_911)⟩ ⟨fun a U g mk q => ⟨q.1, PTEm.calling q.2⟩, pg_recv hK hP hL_h0 hF_125 (q := (RX15, TX15, 59)) rfl, fun U hU hWm => ⟨rfl, PTEm.mk hU hWm hP hK hD hE hO hG (fun x hx => by rw [List.mem_singleton] at hx; subst hx; exact hX_q_295) hS hFc⟩⟩ rfl rfl hl.1 rfl (lv_room (Nat.le_of_ble_eq_true rfl)) dX15_isSeen_17 ⟨by show _ + 0 ≤ 0; omega, by show _ + 0 ≤ 0; omega⟩) hS (fun q _ h => hFc q h) hFc (fun r_297 u t H1 locs ht hvm hw hB hz1 hk1 hS => ?_)
    obtain ⟨F_298, hB1⟩ := hB
    obtain rfl : F_106 = F_298 := (funext (fun a => hB1.2.2.2 a List.not_mem_nil)).symm
    obtain ⟨hP, hD, hO, hR⟩ := QTm.back hB1 ht hFc hR (fun q h => absurd h List.not_mem_nil)
    generalize H1 = H at hP hS ⊢
    have hw : (r_297 = 0 ∨ r_297 = 1) := hw
    have hw_299 := hw
    refine lv_if_ne (tgt := 26) hx hb dX15_isSeen_20 (by decide) (fun c_300 => ?_) (fun c_300 => ?_)
    ·
      refine lv_iload_n hx hb dX15_isSeen_26 rfl (lv_at hl 1 rfl) ?_
      refine lv_if_lt (tgt := 32) hx hb dX15_isSeen_27 (by decide) (fun c_301 => ?_) (fun c_301 => ?_)
      ·
        refine lv_iload_n hx hb dX15_isSeen_32 rfl (lv_at hl 0 rfl) ?_
        refine lv_istore_n (lv' := [(1, .int (nI j)), (2, .int (nI j)), (0, .ref h0)]) hx hb dX15_isSeen_33 rfl hl (by decide) rfl (fun ls hl => ?_)
        refine lv_iinc (v := (nI (j + 1))) (lv' := [(2, .int (nI (j + 1))), (1, .int (nI j)), (0, .ref h0)]) hx hb dX15_isSeen_34 hl (k := 1) rfl (nI_1 _) (by decide) rfl (fun ls hl => ?_)
        refine lv_goto (tgt := 4) hx hb dX15_isSeen_37 (by decide) ?_
        refine W.widen (k := 0) (n := 0) (by omega) (by omega) ?_
        exact ih_108 ((j + 1), (nI j)) F_106 (⟨by omega, Or.inr ⟨j, by omega, rfl⟩⟩) (by show nf - (j + 1) < nf - j; omega) hO hR _ _ hP hD hS ls (lv_sub hl [0, 1, 2] rfl)
      ·
        refine lv_iconst (v := 0) hx hb dX15_isSeen_30 (by decide) ?_
        refine W.widen (k := 0) (n := 0) (by omega) (by omega) ?_
        obtain ⟨z_302, hF_303, hq_304⟩ := hO.txt hL_ak hT_ak
        exact W.zret (v := 0) (ty := .boolean) hx hb hr (by decide) (fun t ht hWm => ⟨⟨0, 0, rfl, ⟨rfl, Or.inl rfl⟩, ⟨F_106, z_302, QTm.mk ht hP hD hO hR, hF_303, (fun h => absurd h (by decide))⟩⟩, hS.F ht⟩) hS.2.2 dX15_isSeen_31
    ·
      refine lv_goto (tgt := 34) hx hb dX15_isSeen_23 (by decide) ?_
      refine lv_iinc (v := (nI (j + 1))) (lv' := [(2, .int (nI (j + 1))), (1, .int w1), (0, .ref h0)]) hx hb dX15_isSeen_34 hl (k := 0) rfl (nI_1 _) (by decide) rfl (fun ls hl => ?_)
      refine lv_goto (tgt := 4) hx hb dX15_isSeen_37 (by decide) ?_
      refine W.widen (k := 0) (n := 0) (by omega) (by omega) ?_
      exact ih_108 ((j + 1), w1) F_106 (⟨by omega, hv2⟩) (by show nf - (j + 1) < nf - j; omega) hO hR _ _ hP hD hS ls (lv_sub hl [0, 1, 2] rfl)
set_option maxHeartbeats 4000000 in
set_option maxRecDepth 100000 in
theorem s_X15_wish (l : Launch) (dC : Nat → ClassId) (dI : Nat → Nat → Nat) (cs : Nat → ClassId) (ty : TyM) (gm : Nat → Nat → Nat) (L : List Nat) (sz : Nat) (F : Nat → va_E) (h0 : Nat) (ρ : Nat) (ta : Nat) (ou : Nat) (so : Nat) (ad : Nat) (na : Nat) (va : Nat) (lc : Nat) (dm : Nat) (tg : Nat) (pe : Nat) (ml : Nat) (bg : Nat) (co : Nat) (sp : Nat) (nb0 : Nat) (nb1 : Nat) (nb2 : Nat) (pl : Nat) (se : Nat) (ke : Nat) (wi : Nat) (hs : Nat) (mo : Nat) (po : Nat) (nu : Nat) (pr : Nat) (sq : Nat) (xa : Nat) (sa : Nat) (n64 : Nat) (m64 : Nat) (ex : Nat) (wh : Nat) (sd : Nat) (tk : Nat) (hd : Nat) (ak : Nat) (ho : Nat) (ot : Nat) (sx : Nat) (s0 : Nat) (s1 : Nat) (s2 : Nat) (nf : Nat) (bd : Nat) (mm : Nat) (zt : Nat) (sb : Nat) (rl : Nat) (rp : Nat) (rak : Nat) (x1 : Int32) (hW : WTm ty gm L) (hL_h0 : h0 ∈ L) (hT_h0 : ty h0 = (15, ρ, [ta, ou, so, ad, na, va, lc, dm, tg, pe, ml, bg, co, sp, nb0, nb1, nb2, pl, se, ke, wi, hs, mo, po, nu, pr, sq, xa, sa, n64, m64, ex, wh, sd, tk, hd, ak, ho, ot, sx, s0, s1, s2, nf, bd, mm, zt])) (hL_sx : sx ∈ L) (hT_sx : ty sx = (14, ρ + 12, [sb, 3000])) (hL_pl : pl ∈ L) (hT_pl : ty pl = (14, ρ + 10, [rl, 6000])) (hL_pe : pe ∈ L) (hT_pe : ty pe = (14, ρ + 7, [rp, 100])) (hL_ak : ak ∈ L) (hT_ak : ty ak = (14, ρ + 28, [rak, 6000])) : Met l yX15_wish (.code yX15_wish cX15_wish 6 (some .int) :: tb) ({ frames := 79, cells := 0, slots := 0, locals := 1787 }) (va_Pc [.ref h0, .int x1] (PTEm (dC, dI) cs ty gm L F sz [])) (va_Qi (fun (r : Int32) (_ : Unit) => True) (fun _ T9 => ∃ F2 : Nat → va_E, QTm (dC, dI) cs ty gm L [ρ, ρ + 6, ρ + 7, ρ + 10, ρ + 11, ρ + 12, ρ + 13, ρ + 14, ρ + 15, ρ + 16, ρ + 17, ρ + 18, ρ + 19, ρ + 20, ρ + 21, ρ + 22, ρ + 23, ρ + 24, ρ + 25, ρ + 26, ρ + 28, ρ + 29, ρ + 30] F F2 (va_A (va_pl L F) sz) T9) (va_A (va_pl L F) sz)) 0 0 (va_A (va_pl L F) sz) := by
  refine Met.ofW (cc := cX15_wish) (maxL := 6) (ret := (some .int)) (by decide) rfl ?_
  intro p e s m args below meth c s₁ B hml hv
  obtain ⟨rfl, ⟨hsz, hP, hK, hD0, hE, hO⟩, hG, hX⟩ := hv
  have hx := B.exec
  have hb := B.bytes
  have hr := B.returns
  have hts : ∀ w ∈ tb, w.before _ s = true := fun w h => atoms_spec (ws := .code yX15_wish cX15_wish 6 (some .int) :: tb) B.pre w (List.mem_cons_of_mem _ h)
  have hown : s.vm.findClass RX15 = some m.cls := findClass_of_methodNamed B.named
  have hlocks := B.notSynchronized
  subst hsz
  have hD := hD0.self (sz := s.heap.size)
  generalize hAe : va_A (va_pl L F) s.heap.size = A at hD hG hX ⊢
  have hA : ∀ q : Nat, s.heap.size ≤ q → A q := fun q h => by rw [← hAe]; exact Or.inr h
  have hS : va_S A s.heap s.heap [] := va_S.rf
  have hR : FR ty [ρ, ρ + 6, ρ + 7, ρ + 10, ρ + 11, ρ + 12, ρ + 13, ρ + 14, ρ + 15, ρ + 16, ρ + 17, ρ + 18, ρ + 19, ρ + 20, ρ + 21, ρ + 22, ρ + 23, ρ + 24, ρ + 25, ρ + 26, ρ + 28, ρ + 29, ρ + 30] F F := FR.refl
  have hl := lv_entry ([.ref h0, .int x1]) (n := 6) (Nat.le_of_ble_eq_true rfl)
  rw [lg_entry_eq]
  generalize (lg_sl ([.ref h0, .int x1]) ++ List.replicate (6 - (lg_sl ([.ref h0, .int x1])).length) Slot.unset).toArray = ls at hl ⊢
  have hl : lv_has ls 6 [(0, .ref h0), (1, .int x1)] := hl
  obtain ⟨hi_1, ht_2, hi_3, ht_4, hi_5, ht_6, hi_7, ht_8, hi_9, ht_10, hi_11, ht_12, hi_13, ⟨r_14, ht_15⟩, hi_16, ⟨r_17, ht_18⟩, hi_19, ht_20, _, _, hi_21, ht_22, hi_23, ht_24, hi_25, ht_26, hi_27, ht_28, hi_29, ht_30, hi_31, ht_32, hi_33, ht_34, _, _, hi_35, ht_36, hi_37, ⟨x_38, y0_39, y1_40, y2_41, ht_42⟩, hi_43, ⟨x_44, y0_45, y1_46, y2_47, ht_48⟩, hi_49, ⟨x_50, y_51, w_52, u_53, bl_54, ht_55⟩, hi_56, ht_57, hi_58, ht_59, hi_60, ht_61, hi_62, ht_63, hi_64, ht_65, hi_66, ht_67, hi_68, ht_69, hi_70, ht_71, hi_72, ht_73, hi_74, ht_75, hi_76, ⟨r_77, ht_78⟩, hi_79, ⟨r_80, ht_81⟩, hi_82, ht_83, hi_84, ht_85, _, _, hi_86, ⟨r_87, ht_88⟩, hi_89, ⟨r_90, ht_91⟩, hq_92, hq_93, hq_94, hq_95, hq_96, hgO, hgA, hgB⟩ := hW.mod hL_h0 hT_h0
  obtain ⟨_, hi_97, hi_98, hi_99, _, ht_100, ht_101, ht_102, hq_103, hq_104⟩ := hW.tags hi_35 ht_36
  obtain ⟨hi_105, ht_106, hq_107⟩ := hW.txt hL_sx hT_sx
  obtain ⟨hi_108, ht_109, hq_110⟩ := hW.txt hL_pl hT_pl
  obtain ⟨hi_111, ht_112, hq_113⟩ := hW.txt hL_pe hT_pe
  obtain ⟨hi_114, ht_115, hq_116⟩ := hW.txt hL_ak hT_ak
  obtain ⟨hi_117, ht_118, hq_119⟩ := hW.txt hi_86 ht_88
  obtain ⟨hi_120, hi_121, hi_122, hi_123, ⟨r_124, ht_125⟩, ht_126, ht_127, ht_128, hq_129, hq_130⟩ := hW.tags hi_43 ht_48
  have ht_125 : ty x_44 = (14, ρ + 16, [r_124, 700]) := ht_125
  obtain ⟨hi_131, ht_132, hq_133⟩ := hW.txt hi_16 ht_18
  obtain ⟨hi_134, ht_135, hq_136⟩ := hW.txt hi_79 ht_81
  refine lv_aload_n hx hb dX15_wish_0 rfl (lv_at hl 0 rfl) ?_
  obtain ⟨zo_137, ze_138, v11_139, v12_140, v14_141, v15_142, v17_143, v18_144, v19_145, v20_146, v21_147, v22_148, v33_149, v52_150, v53_151, v54_152, hF_153, hq_154, hq_155, hq_156, hq_157⟩ := hO.mod hL_h0 hT_h0
  refine pg_get (ci := 15) (v := .int v12_140) (C := RX15) (T := TX15) (N := 59) hx hb hts it_15 hown hK hP hL_h0 hF_153 rfl 12 (by decide) (hts _ kt_1001) (fun _ h9 => h9) rfl dX15_wish_1 ?_
  refine lv_if_eq (tgt := 11) hx hb dX15_wish_4 (by decide) (fun c_158 => ?_) (fun c_158 => ?_)
  ·
    refine lv_iconst (v := (-1)) hx hb dX15_wish_11 (by decide) ?_
    refine W.widen (k := 0) (n := 0) (by omega) (by omega) ?_
    exact W.iret (v := (-1)) hx hb hr (fun t ht hWm => ⟨⟨(-1), (), rfl, trivial, ⟨F, QTm.mk ht hP hD hO hR⟩⟩, hS.F ht⟩) hS.2.2 dX15_wish_12
  ·
    refine lv_iload_n hx hb dX15_wish_7 rfl (lv_at hl 1 rfl) ?_
    refine lv_if_ge (tgt := 13) hx hb dX15_wish_8 (by decide) (fun c_159 => ?_) (fun c_159 => ?_)
    ·
      refine lv_aload_n hx hb dX15_wish_13 rfl (lv_at hl 0 rfl) ?_
      refine pg_get (ci := 15) (v := .int v33_149) (C := RX15) (T := TX15) (N := 59) hx hb hts it_15 hown hK hP hL_h0 hF_153 rfl 33 (by decide) (hts _ kt_906) (fun _ h9 => h9) rfl dX15_wish_14 ?_
      refine lv_if_ne (tgt := 23) hx hb dX15_wish_17 (by decide) (fun c_160 => ?_) (fun c_160 => ?_)
      ·
        refine lv_aload_n hx hb dX15_wish_23 rfl (lv_at hl 0 rfl) ?_
        have hFc := pg_free hD hS hA
        refine va_calli (va_runV (As := []) (rest := []) ⟨hx, hb, hml, hown, hts⟩ (s_X15_isSeen l dC dI cs ty gm L s.heap.size F h0 ρ ta ou so ad na va lc dm tg pe ml bg co sp nb0 nb1 nb2 pl se ke wi hs mo po nu pr sq xa sa n64 m64 ex wh sd tk hd ak ho ot sx s0 s1 s2 nf bd mm zt rak hW hL_h0 hT_h0 hL_ak hT_ak) ⟨callB_of 0 hts (gi kt_1050) rfl rfl rfl (hts _ kt_669) (hts _ kt_1051) (by decide +kernel) ⟨Nat.le_of_ble_eq_true rfl, Nat.le_of_ble_eq_true rfl⟩, (hts _ kt_1052), (hts _ kt_1053)⟩ ⟨fun a U g mk q => ⟨q.1, PTEm.calling q.2⟩, pg_recv hK hP hL_h0 hF_153 (q := (RX15, TX15, 59)) rfl, fun U hU hWm => ⟨rfl, PTEm.mk hU hWm hP hK hD hE hO hG (fun x hx => absurd hx List.not_mem_nil) hS hFc⟩⟩ rfl rfl hl.1 rfl (lv_room (Nat.le_of_ble_eq_true rfl)) dX15_wish_24 ⟨by show _ + 0 ≤ 0; omega, by show _ + 0 ≤ 0; omega⟩) hS (fun q _ h => hFc q h) hFc (fun r_162 wr_161 t H1 locs ht hvm hw hB hz1 hk1 hS => ?_)
        obtain ⟨F_163, za_164, hB1, hq_165, hq_166⟩ := hB
        obtain ⟨hP, hD, hO, hR⟩ := QTm.back hB1 ht hFc hR (fun q h => by simp only [List.mem_cons, List.not_mem_nil, or_false] at h ⊢; omega)
        have hF_167 : F_163 h0 = .inr (15, (.ref ta) :: (.int (nI zt)) :: (.int (nI zo_137)) :: (.int (nI ze_138)) :: (.ref ou) :: (.ref so) :: (.ref ad) :: (.ref na) :: (.ref va) :: (.ref lc) :: (.ref dm) :: (.int v11_139) :: (.int v12_140) :: (.ref tg) :: (.int v14_141) :: (.int v15_142) :: (.ref pe) :: (.int v17_143) :: (.int v18_144) :: (.int v19_145) :: (.int v20_146) :: (.int v21_147) :: (.int v22_148) :: (.ref ml) :: (.ref bg) :: (.ref co) :: (.ref sp) :: (.ref nb0) :: (.ref nb1) :: (.ref nb2) :: (.int (nI nf)) :: (.int (nI bd)) :: (.int (nI mm)) :: (.int v33_149) :: (.ref pl) :: (.ref se) :: (.ref ke) :: (.ref wi) :: (.ref hs) :: (.ref mo) :: (.ref po) :: (.ref nu) :: (.ref pr) :: (.ref sq) :: (.ref xa) :: (.ref sa) :: (.ref n64) :: (.ref m64) :: (.ref ex) :: (.ref wh) :: (.ref sd) :: (.ref tk) :: (.int v52_150) :: (.int v53_151) :: (.int v54_152) :: (.ref hd) :: (.ref ak) :: (.ref ho) :: (.ref ot) :: []) := (hB1.2.2.2 h0 (by rw [hT_h0]; simp)).trans hF_153
        generalize H1 = H at hP hS ⊢
        have hw : (r_162 = wr_161 ∧ (r_162 = 0 ∨ r_162 = 1)) := hw
        have hw_168 := hw
        refine lv_if_ne (tgt := 32) hx hb dX15_wish_27 (by decide) (fun c_169 => ?_) (fun c_169 => ?_)
        ·
          have hza := hq_166 (by have h9 := hw_168; rw [← h9.1]; exact h9.2.resolve_left c_169)
          refine lv_iconst (v := 1) hx hb dX15_wish_32 (by decide) ?_
          refine lv_istore_n (lv' := [(2, .int 1), (0, .ref h0), (1, .int x1)]) hx hb dX15_wish_33 rfl hl (by decide) rfl (fun ls hl => ?_)
          refine lv_aload_n hx hb dX15_wish_34 rfl (lv_at hl 1 rfl) ?_
          refine lv_aload_n hx hb dX15_wish_35 rfl (lv_at hl 1 rfl) ?_
          refine pg_get (ci := 15) (v := .ref ak) (C := RX15) (T := TX15) (N := 59) hx hb hts it_15 hown hK hP hL_h0 hF_167 rfl 56 (by decide) (hts _ kt_1045) (fun _ h9 => h9) rfl dX15_wish_36 ?_
          have hFc := pg_free hD hS hA
          refine va_calli (va_runV (As := [.ref ak]) (rest := []) ⟨hx, hb, hml, hown, hts⟩ (s_X15_wantedOf l dC dI cs ty gm L H.size F_163 h0 ρ ta ou so ad na va lc dm tg pe ml bg co sp nb0 nb1 nb2 pl se ke wi hs mo po nu pr sq xa sa n64 m64 ex wh sd tk hd ak ho ot sx s0 s1 s2 nf bd mm zt ak (ρ + 28) rak 6000 za_164 hW hL_h0 hT_h0 hL_ak hT_ak hq_165 (by first | omega | assumption) (by first | omega | assumption) (by first | omega | assumption)) ⟨callB_of 1 hts (gi kt_1054) rfl rfl rfl (hts _ kt_669) (hts _ kt_1055) (by decide +kernel) ⟨Nat.le_of_ble_eq_true rfl, Nat.le_of_ble_eq_true rfl⟩, (hts _ kt_1056), (hts _ kt_1057)⟩ ⟨fun a U g mk q => ⟨q.1, PTEm.calling q.2⟩, pg_recv hK hP hL_h0 hF_167 (q := (RX15, TX15, 59)) rfl, fun U hU hWm => ⟨rfl, PTEm.mk hU hWm hP hK hD hE hO hG (fun x hx => absurd hx List.not_mem_nil) hS hFc⟩⟩ rfl rfl hl.1 rfl (lv_room (Nat.le_of_ble_eq_true rfl)) dX15_wish_39 ⟨by show _ + 0 ≤ 0; omega, by show _ + 0 ≤ 0; omega⟩) hS (fun q _ h => hFc q h) hFc (fun r_170 u t H1 locs ht hvm hw hB hz1 hk1 hS => ?_)
          obtain ⟨F_171, hB1⟩ := hB
          obtain ⟨hP, hD, hO, hR⟩ := QTm.back hB1 ht hFc hR (fun q h => by simp only [List.mem_cons, List.not_mem_nil, or_false] at h ⊢; omega)
          have hF_172 : F_171 h0 = .inr (15, (.ref ta) :: (.int (nI zt)) :: (.int (nI zo_137)) :: (.int (nI ze_138)) :: (.ref ou) :: (.ref so) :: (.ref ad) :: (.ref na) :: (.ref va) :: (.ref lc) :: (.ref dm) :: (.int v11_139) :: (.int v12_140) :: (.ref tg) :: (.int v14_141) :: (.int v15_142) :: (.ref pe) :: (.int v17_143) :: (.int v18_144) :: (.int v19_145) :: (.int v20_146) :: (.int v21_147) :: (.int v22_148) :: (.ref ml) :: (.ref bg) :: (.ref co) :: (.ref sp) :: (.ref nb0) :: (.ref nb1) :: (.ref nb2) :: (.int (nI nf)) :: (.int (nI bd)) :: (.int (nI mm)) :: (.int v33_149) :: (.ref pl) :: (.ref se) :: (.ref ke) :: (.ref wi) :: (.ref hs) :: (.ref mo) :: (.ref po) :: (.ref nu) :: (.ref pr) :: (.ref sq) :: (.ref xa) :: (.ref sa) :: (.ref n64) :: (.ref m64) :: (.ref ex) :: (.ref wh) :: (.ref sd) :: (.ref tk) :: (.int v52_150) :: (.int v53_151) :: (.int v54_152) :: (.ref hd) :: (.ref ak) :: (.ref ho) :: (.ref ot) :: []) := (hB1.2.2.2 h0 (by rw [hT_h0]; simp)).trans hF_167
          have hF_173 : F_171 ak = .inr (14, [.ref rak, .int (nI za_164)]) := (hB1.2.2.2 ak (by rw [hT_ak]; simp)).trans hq_165
          generalize H1 = H at hP hS ⊢
          have hw : (r_170 = (-1) ∨ r_170 = (-2) ∨ ∃ j : Nat, j < 40 ∧ r_170 = nI j) := hw
          have hw_174 := hw
          refine lv_istore_n (lv' := [(3, .int r_170), (2, .int 1), (0, .ref h0), (1, .int x1)]) hx hb dX15_wish_42 rfl hl (by decide) rfl (fun ls hl => ?_)
          refine W.widen (k := 0) (n := 0) (by omega) (by omega) ?_
          refine pl_cutm (σ := Int32 × Int32) A (dC, dI) cs ty gm L [ρ, ρ + 6, ρ + 7, ρ + 10, ρ + 11, ρ + 12, ρ + 13, ρ + 14, ρ + 15, ρ + 16, ρ + 17, ρ + 18, ρ + 19, ρ + 20, ρ + 21, ρ + 22, ρ + 23, ρ + 24, ρ + 25, ρ + 26, ρ + 28, ρ + 29, ρ + 30] F 71 6 (fun (s3, sw2) => [(3, .int s3), (2, .int sw2), (0, .ref h0), (1, .int x1)]) (fun (s3, sw2) => []) (fun (s3, sw2) FF => (s3 = (-1) ∨ s3 = (-2) ∨ ∃ j : Nat, j < 40 ∧ s3 = nI j) ∧ FF ak = .inr (14, [.ref rak, .int (nI za_164)])) ?_ (fun jn_175 => ?_)
          ·
            rintro ⟨s3, sw2⟩ F_176 hv_177 hO hR H locs hP hD hS ls hl
            have hl : lv_has ls 6 [(3, .int s3), (2, .int sw2), (0, .ref h0), (1, .int x1)] := hl
            have hv_177 : (s3 = (-1) ∨ s3 = (-2) ∨ ∃ j : Nat, j < 40 ∧ s3 = nI j) ∧ F_176 ak = .inr (14, [.ref rak, .int (nI za_164)]) := hv_177
            refine W.eq (g2 := F0 m 71 ls []) rfl ?_
            obtain ⟨hs3, hak3⟩ := hv_177
            refine lv_iload_n hx hb dX15_wish_71 rfl (lv_at hl 0 rfl) ?_
            refine lv_if_ge (tgt := 87) hx hb dX15_wish_72 (by decide) (fun c_178 => ?_) (fun c_178 => ?_)
            ·
              obtain ⟨kv, hkv, ekv⟩ := rec0 hs3 c_178
              subst ekv
              refine lv_aload_n hx hb dX15_wish_87 rfl (lv_at hl 2 rfl) ?_
              obtain ⟨zo_179, ze_180, v11_181, v12_182, v14_183, v15_184, v17_185, v18_186, v19_187, v20_188, v21_189, v22_190, v33_191, v52_192, v53_193, v54_194, hF_195, hq_196, hq_197, hq_198, hq_199⟩ := hO.mod hL_h0 hT_h0
              refine pg_get (ci := 15) (v := .ref va) (C := RX15) (T := TX15) (N := 59) hx hb hts it_15 hown hK hP hL_h0 hF_195 rfl 8 (by decide) (hts _ kt_732) (fun _ h9 => h9) rfl dX15_wish_88 ?_
              refine lv_iload_n hx hb dX15_wish_91 rfl (lv_at hl 0 rfl) ?_
              obtain ⟨f_200, hF_201, hq_202⟩ := hO.rtxt hi_11 ht_12
              obtain ⟨b_203, r_204, hbf_205, hi_206, ht_207⟩ := hq_202 kv (by omega)
              refine pg_aald (r := b_203) hx hb hK hP hi_11 7 hF_201 rfl (vp_in_nI (by omega) (by omega)) (show f_200 ((nI kv) : Int32).toNatClampNeg = _ from by rw [show ((nI kv) : Int32) = nI kv from rfl, nI_clamp (by omega)]; exact hbf_205) dX15_wish_92 ?_
              obtain ⟨hi_208, ht_209, hq_210⟩ := hW.txt hi_206 ht_207
              obtain ⟨z_211, hF_212, hq_213⟩ := hO.txt hi_206 ht_207
              refine pg_get (ci := 14) (v := .ref r_204) (C := RX14) (T := TX14) (N := 2) hx hb hts it_14 hown hK hP hi_206 hF_212 rfl 0 (by decide) (hts _ kt_710) (fun _ h9 => h9) rfl dX15_wish_93 ?_
              refine lv_iconst (v := 0) hx hb dX15_wish_96 (by decide) ?_
              refine lv_aload_n hx hb dX15_wish_97 rfl (lv_at hl 2 rfl) ?_
              refine pg_get (ci := 15) (v := .ref va) (C := RX15) (T := TX15) (N := 59) hx hb hts it_15 hown hK hP hL_h0 hF_195 rfl 8 (by decide) (hts _ kt_732) (fun _ h9 => h9) rfl dX15_wish_98 ?_
              refine lv_iload_n hx hb dX15_wish_101 rfl (lv_at hl 0 rfl) ?_
              obtain ⟨b_214, r_215, hbf_216, hi_217, ht_218⟩ := hq_202 kv (by omega)
              refine pg_aald (r := b_214) hx hb hK hP hi_11 7 hF_201 rfl (vp_in_nI (by omega) (by omega)) (show f_200 ((nI kv) : Int32).toNatClampNeg = _ from by rw [show ((nI kv) : Int32) = nI kv from rfl, nI_clamp (by omega)]; exact hbf_216) dX15_wish_102 ?_
              obtain ⟨hi_219, ht_220, hq_221⟩ := hW.txt hi_217 ht_218
              obtain ⟨z_222, hF_223, hq_224⟩ := hO.txt hi_217 ht_218
              refine pg_get (ci := 14) (v := .int (nI z_222)) (C := RX14) (T := TX14) (N := 2) hx hb hts it_14 hown hK hP hi_217 hF_223 rfl 1 (by decide) (hts _ kt_709) (fun _ h9 => h9) rfl dX15_wish_103 ?_
              refine lv_aload_n hx hb dX15_wish_106 rfl (lv_at hl 2 rfl) ?_
              refine pg_get (ci := 15) (v := .ref wi) (C := RX15) (T := TX15) (N := 59) hx hb hts it_15 hown hK hP hL_h0 hF_195 rfl 37 (by decide) (hts _ kt_1058) (fun _ h9 => h9) rfl dX15_wish_107 ?_
              obtain ⟨z_225, hF_226, hq_227⟩ := hO.tags hi_43 ht_48
              refine pg_get (ci := 13) (v := .ref x_44) (C := RX13) (T := TX13) (N := 5) hx hb hts it_13 hown hK hP hi_43 hF_226 rfl 0 (by decide) (hts _ kt_857) (fun _ h9 => h9) rfl dX15_wish_110 ?_
              refine W.eq (g2 := F0 m 113 ls [.ref x_44, .int (nI z_222), .int (nI 0), .ref r_204]) rfl ?_
              obtain ⟨hq_228, hq_229⟩ := hW.octs hi_208 ht_209
              obtain ⟨hi_230, ht_231, hq_232⟩ := hW.txt hi_120 ht_125
              have hFc := pg_free hD hS hA
              refine va_callv (va_runS (As := [.ref r_204, .int (nI 0), .int (nI z_222), .ref x_44]) (rest := []) ⟨hx, hb, hml, hown, hts⟩ (s_X15_withoutWhite l dC dI cs ty gm L H.size F_176 r_204 (ρ + 31) 700 x_44 (ρ + 16) r_124 700 0 z_222 hW hi_208 ht_209 hi_120 ht_125 (by first | omega | assumption) (by first | omega | assumption) (by first | omega | assumption)) ⟨callB_of 4 hts (gi kt_955) rfl rfl rfl (hts _ kt_669) (hts _ kt_956) (by decide +kernel) ⟨Nat.le_of_ble_eq_true rfl, Nat.le_of_ble_eq_true rfl⟩, (hts _ kt_957)⟩ ⟨fun a U g mk q => ⟨q.1, PTm.calling q.2⟩, fun U hU hWm => ⟨rfl, PTm.mk hU hWm hP hK hD hE hO⟩⟩ rfl rfl hl.1 rfl (lv_room (Nat.le_of_ble_eq_true rfl)) dX15_wish_113 ⟨by show _ + 0 ≤ 0; omega, by show _ + 0 ≤ 0; omega⟩) hS (fun q _ h => hFc q h) hFc (fun u t H1 locs ht hvm hw hB hz1 hk1 hS => ?_)
              obtain ⟨F_234, z2_235, hB1, hq_236, hq_237⟩ := hB
              obtain ⟨hP, hD, hO, hR⟩ := QTm.back hB1 ht hFc hR (fun q h => by simp only [List.mem_cons, List.not_mem_nil, or_false] at h ⊢; omega)
              have hF_238 : F_234 ak = .inr (14, [.ref rak, .int (nI za_164)]) := (hB1.2.2.2 ak (by rw [hT_ak]; simp)).trans hak3
              have hF_239 : F_234 h0 = .inr (15, (.ref ta) :: (.int (nI zt)) :: (.int (nI zo_179)) :: (.int (nI ze_180)) :: (.ref ou) :: (.ref so) :: (.ref ad) :: (.ref na) :: (.ref va) :: (.ref lc) :: (.ref dm) :: (.int v11_181) :: (.int v12_182) :: (.ref tg) :: (.int v14_183) :: (.int v15_184) :: (.ref pe) :: (.int v17_185) :: (.int v18_186) :: (.int v19_187) :: (.int v20_188) :: (.int v21_189) :: (.int v22_190) :: (.ref ml) :: (.ref bg) :: (.ref co) :: (.ref sp) :: (.ref nb0) :: (.ref nb1) :: (.ref nb2) :: (.int (nI nf)) :: (.int (nI bd)) :: (.int (nI mm)) :: (.int v33_191) :: (.ref pl) :: (.ref se) :: (.ref ke) :: (.ref wi) :: (.ref hs) :: (.ref mo) :: (.ref po) :: (.ref nu) :: (.ref pr) :: (.ref sq) :: (.ref xa) :: (.ref sa) :: (.ref n64) :: (.ref m64) :: (.ref ex) :: (.ref wh) :: (.ref sd) :: (.ref tk) :: (.int v52_192) :: (.int v53_193) :: (.int v54_194) :: (.ref hd) :: (.ref ak) :: (.ref ho) :: (.ref ot) :: []) := (hB1.2.2.2 h0 (by rw [hT_h0]; simp)).trans hF_195
              have hF_240 : F_234 va = .inl (cs 23, 40, .inr (.inr (.inr (.inr f_200)))) := (hB1.2.2.2 va (by rw [ht_12]; simp)).trans hF_201
              have hF_241 : F_234 b_203 = .inr (14, [.ref r_204, .int (nI z_211)]) := (hB1.2.2.2 b_203 (by rw [ht_207]; simp)).trans hF_212
              have hF_242 : F_234 b_214 = .inr (14, [.ref r_215, .int (nI z_222)]) := (hB1.2.2.2 b_214 (by rw [ht_218]; simp)).trans hF_223
              have hF_243 : F_234 wi = .inr (13, [.ref x_44, .ref y0_45, .ref y1_46, .ref y2_47, .int (nI z_225)]) := (hB1.2.2.2 wi (by rw [ht_48]; simp)).trans hF_226
              generalize H1 = H at hP hS ⊢
              refine lv_aload_n hx hb dX15_wish_116 rfl (lv_at hl 2 rfl) ?_
              refine pg_get (ci := 15) (v := .ref wi) (C := RX15) (T := TX15) (N := 59) hx hb hts it_15 hown hK hP hL_h0 hF_239 rfl 37 (by decide) (hts _ kt_1058) (fun _ h9 => h9) rfl dX15_wish_117 ?_
              refine lv_bipush (v := 8) hx hb dX15_wish_120 (by decide) ?_
              have hFc := pg_free hD hS hA
              refine va_calli (va_runV (As := [.int 8]) (rest := []) ⟨hx, hb, hml, hown, hts⟩ (s_X13_read l dC dI cs ty gm L H.size F_234 wi (ρ + 15) x_44 700 700 y0_45 y1_46 y2_47 r_124 z2_235 8 hW hi_43 ht_48 hi_120 ht_125 hq_236 (by first | omega | assumption)) ⟨callB_of 1 hts (gi kt_874) rfl rfl rfl (hts _ kt_844) (hts _ kt_875) (by decide +kernel) ⟨Nat.le_of_ble_eq_true rfl, Nat.le_of_ble_eq_true rfl⟩, (hts _ kt_876), (hts _ kt_877)⟩ ⟨fun a U g mk q => ⟨q.1, PTm.calling q.2⟩, pg_recv hK hP hi_43 hF_243 (q := (RX13, TX13, 5)) rfl, fun U hU hWm => ⟨rfl, PTm.mk hU hWm hP hK hD hE hO⟩⟩ rfl rfl hl.1 rfl (lv_room (Nat.le_of_ble_eq_true rfl)) dX15_wish_122 ⟨by show _ + 0 ≤ 0; omega, by show _ + 0 ≤ 0; omega⟩) hS (fun q _ h => hFc q h) hFc (fun r_244 u t H1 locs ht hvm hw hB hz1 hk1 hS => ?_)
              obtain ⟨F_245, z2_246, hB1, hq_247, hq_248⟩ := hB
              obtain ⟨hP, hD, hO, hR⟩ := QTm.back hB1 ht hFc hR (fun q h => by simp only [List.mem_cons, List.not_mem_nil, or_false] at h ⊢; omega)
              have hF_249 : F_245 ak = .inr (14, [.ref rak, .int (nI za_164)]) := (hB1.2.2.2 ak (by rw [hT_ak]; simp)).trans hF_238
              have hF_250 : F_245 h0 = .inr (15, (.ref ta) :: (.int (nI zt)) :: (.int (nI zo_179)) :: (.int (nI ze_180)) :: (.ref ou) :: (.ref so) :: (.ref ad) :: (.ref na) :: (.ref va) :: (.ref lc) :: (.ref dm) :: (.int v11_181) :: (.int v12_182) :: (.ref tg) :: (.int v14_183) :: (.int v15_184) :: (.ref pe) :: (.int v17_185) :: (.int v18_186) :: (.int v19_187) :: (.int v20_188) :: (.int v21_189) :: (.int v22_190) :: (.ref ml) :: (.ref bg) :: (.ref co) :: (.ref sp) :: (.ref nb0) :: (.ref nb1) :: (.ref nb2) :: (.int (nI nf)) :: (.int (nI bd)) :: (.int (nI mm)) :: (.int v33_191) :: (.ref pl) :: (.ref se) :: (.ref ke) :: (.ref wi) :: (.ref hs) :: (.ref mo) :: (.ref po) :: (.ref nu) :: (.ref pr) :: (.ref sq) :: (.ref xa) :: (.ref sa) :: (.ref n64) :: (.ref m64) :: (.ref ex) :: (.ref wh) :: (.ref sd) :: (.ref tk) :: (.int v52_192) :: (.int v53_193) :: (.int v54_194) :: (.ref hd) :: (.ref ak) :: (.ref ho) :: (.ref ot) :: []) := (hB1.2.2.2 h0 (by rw [hT_h0]; simp)).trans hF_239
              have hF_251 : F_245 va = .inl (cs 23, 40, .inr (.inr (.inr (.inr f_200)))) := (hB1.2.2.2 va (by rw [ht_12]; simp)).trans hF_240
              have hF_252 : F_245 b_203 = .inr (14, [.ref r_204, .int (nI z_211)]) := (hB1.2.2.2 b_203 (by rw [ht_207]; simp)).trans hF_241
              have hF_253 : F_245 b_214 = .inr (14, [.ref r_215, .int (nI z_222)]) := (hB1.2.2.2 b_214 (by rw [ht_218]; simp)).trans hF_242
              have hF_254 : F_245 x_44 = .inr (14, [.ref r_124, .int (nI z2_235)]) := (hB1.2.2.2 x_44 (by rw [ht_125]; simp)).trans hq_236
              generalize H1 = H at hP hS ⊢
              have hw : (r_244 = 0 ∨ r_244 = 1) := hw
              have hw_255 := hw
              refine lv_if_ne (tgt := 131) hx hb dX15_wish_125 (by decide) (fun c_256 => ?_) (fun c_256 => ?_)
              ·
                refine lv_aload_n hx hb dX15_wish_131 rfl (lv_at hl 2 rfl) ?_
                refine pg_get (ci := 15) (v := .ref wi) (C := RX15) (T := TX15) (N := 59) hx hb hts it_15 hown hK hP hL_h0 hF_250 rfl 37 (by decide) (hts _ kt_1058) (fun _ h9 => h9) rfl dX15_wish_132 ?_
                obtain ⟨q_257, v_258, hr_q_257, hX_q_257⟩ := hG.2.2 ("PostGateModel", 533, "p", [112]) (by decide +kernel)
                have hX_q_257 : SXc q_257 v_258 1 (cct [112]) A s s.heap := hX_q_257
                obtain ⟨xo_q_257, xc_q_257, xv_q_257, xt_q_257, xn_q_257⟩ := id hX_q_257
                have hr_q_257 : vk_R "PostGateModel" 533 "p" q_257 s := hr_q_257
                refine va_ldcwS hx hb hown hr_q_257 dX15_wish_135 ?_
                have hFc := pg_free hD hS hA
                refine va_calli (va_runS (As := [.ref wi, .ref q_257]) (rest := []) ⟨hx, hb, hml, hown, hts⟩ (s_X15_wanted l dC dI cs ty gm L H.size F_245 wi (ρ + 15) x_44 700 700 y0_45 y1_46 y2_47 r_124 z2_246 q_257 v_258 1 (cct [112]) hW hi_43 ht_48 hi_120 ht_125 hq_247 (by first | omega | assumption)) ⟨callB_of 2 hts (gi kt_1059) rfl rfl rfl (hts _ kt_669) (hts _ kt_1060) (by decide +kernel) ⟨Nat.le_of_ble_eq_true rfl, Nat.le_of_ble_eq_true rfl⟩, (hts _ kt_1061)⟩ ⟨fun a U g mk q => ⟨q.1, PTEm.calling q.2⟩, fun U hU hWm => ⟨rfl, PTEm.mk hU hWm hP hK hD hE hO hG (fun x hx => by rw [List.mem_singleton] at hx; subst hx; exact hX_q_257) hS hFc⟩⟩ rfl rfl hl.1 rfl (lv_room (Nat.le_of_ble_eq_true rfl)) dX15_wish_138 ⟨by show _ + 0 ≤ 0; omega, by show _ + 0 ≤ 0; omega⟩) hS (fun q _ h => hFc q h) hFc (fun r_259 u t H1 locs ht hvm hw hB hz1 hk1 hS => ?_)
                obtain ⟨F_260, hB1⟩ := hB
                obtain rfl : F_245 = F_260 := (funext (fun a => hB1.2.2.2 a List.not_mem_nil)).symm
                obtain ⟨hP, hD, hO, hR⟩ := QTm.back hB1 ht hFc hR (fun q h => absurd h List.not_mem_nil)
                generalize H1 = H at hP hS ⊢
                have hw : True := hw
                have hw_261 := hw
                refine lv_istore (lv' := [(4, .int r_259), (3, .int (nI kv)), (2, .int sw2), (0, .ref h0), (1, .int x1)]) hx hb dX15_wish_141 hl (by decide) rfl (fun ls hl => ?_)
                refine lv_iload hx hb dX15_wish_143 (lv_at hl 0 rfl) ?_
                refine lv_bipush (v := 6) hx hb dX15_wish_145 (by decide) ?_
                refine lv_icmp_ne (tgt := 153) hx hb dX15_wish_147 (by decide) (fun c_262 => ?_) (fun c_262 => ?_)
                ·
                  have hF_265 : F va = .inl (cs 23, 40, .inr (.inr (.inr (.inr f_200)))) := (hR va (by rw [ht_12]; simp)).symm.trans hF_251
                  have hF_266 : F b_203 = .inr (14, [.ref r_204, .int (nI z_211)]) := (hR b_203 (by rw [ht_207]; simp)).symm.trans hF_252
                  have hF_267 : F b_214 = .inr (14, [.ref r_215, .int (nI z_222)]) := (hR b_214 (by rw [ht_218]; simp)).symm.trans hF_253
                  refine W.widen (k := 0) (n := 0) (by omega) (by omega) ?_
                  refine pl_cutm (σ := Int32) A (dC, dI) cs ty gm L [ρ, ρ + 6, ρ + 7, ρ + 10, ρ + 11, ρ + 12, ρ + 13, ρ + 14, ρ + 15, ρ + 16, ρ + 17, ρ + 18, ρ + 19, ρ + 20, ρ + 21, ρ + 22, ρ + 23, ρ + 24, ρ + 25, ρ + 26, ρ + 28, ρ + 29, ρ + 30] F 192 6 (fun s4 => [(4, .int s4), (0, .ref h0), (1, .int x1)]) (fun s4 => []) (fun s4 _ => True) ?_ (fun jn_263 => ?_)
                  ·
                    rintro s4 F_264 hv_268 hO hR H locs hP hD hS ls hl
                    have hl : lv_has ls 6 [(4, .int s4), (0, .ref h0), (1, .int x1)] := hl
                    have hv_268 : True := hv_268
                    refine W.eq (g2 := F0 m 192 ls []) rfl ?_
                    have hF_269 : F_264 va = .inl (cs 23, 40, .inr (.inr (.inr (.inr f_200)))) := (hR va (by rw [ht_12]; simp)).trans hF_265
                    have hF_270 : F_264 b_203 = .inr (14, [.ref r_204, .int (nI z_211)]) := (hR b_203 (by rw [ht_207]; simp)).trans hF_266
                    have hF_271 : F_264 b_214 = .inr (14, [.ref r_215, .int (nI z_222)]) := (hR b_214 (by rw [ht_218]; simp)).trans hF_267
                    refine lv_aload_n hx hb dX15_wish_192 rfl (lv_at hl 1 rfl) ?_
                    have hFc := pg_free hD hS hA
                    obtain ⟨zo_272, ze_273, v11_274, v12_275, v14_276, v15_277, v17_278, v18_279, v19_280, v20_281, v21_282, v22_283, v33_284, v52_285, v53_286, v54_287, hF_288, hq_289, hq_290, hq_291, hq_292⟩ := hO.mod hL_h0 hT_h0
                    refine va_calli (va_runV (As := []) (rest := []) ⟨hx, hb, hml, hown, hts⟩ (s_X15_permission l dC dI cs ty gm L H.size F_264 h0 ρ ta ou so ad na va lc dm tg pe ml bg co sp nb0 nb1 nb2 pl se ke wi hs mo po nu pr sq xa sa n64 m64 ex wh sd tk hd ak ho ot sx s0 s1 s2 nf bd mm zt rp hW hL_h0 hT_h0 hL_pe hT_pe) ⟨callB_of 0 hts (gi kt_1062) rfl rfl rfl (hts _ kt_669) (hts _ kt_1063) (by decide +kernel) ⟨Nat.le_of_ble_eq_true rfl, Nat.le_of_ble_eq_true rfl⟩, (hts _ kt_1064), (hts _ kt_1065)⟩ ⟨fun a U g mk q => ⟨q.1, PTEm.calling q.2⟩, pg_recv hK hP hL_h0 hF_288 (q := (RX15, TX15, 59)) rfl, fun U hU hWm => ⟨rfl, PTEm.mk hU hWm hP hK hD hE hO hG (fun x hx => absurd hx List.not_mem_nil) hS hFc⟩⟩ rfl rfl hl.1 rfl (lv_room (Nat.le_of_ble_eq_true rfl)) dX15_wish_193 ⟨by show _ + 0 ≤ 0; omega, by show _ + 0 ≤ 0; omega⟩) hS (fun q _ h => hFc q h) hFc (fun r_293 u t H1 locs ht hvm hw hB hz1 hk1 hS => ?_)
                    obtain ⟨F_294, hB1⟩ := hB
                    obtain ⟨hP, hD, hO, hR⟩ := QTm.back hB1 ht hFc hR (fun q h => by simp only [List.mem_cons, List.not_mem_nil, or_false] at h ⊢; omega)
                    have hF_295 : F_294 va = .inl (cs 23, 40, .inr (.inr (.inr (.inr f_200)))) := (hB1.2.2.2 va (by rw [ht_12]; simp)).trans hF_269
                    have hF_296 : F_294 b_203 = .inr (14, [.ref r_204, .int (nI z_211)]) := (hB1.2.2.2 b_203 (by rw [ht_207]; simp)).trans hF_270
                    have hF_297 : F_294 b_214 = .inr (14, [.ref r_215, .int (nI z_222)]) := (hB1.2.2.2 b_214 (by rw [ht_218]; simp)).trans hF_271
                    generalize H1 = H at hP hS ⊢
                    have hw : True := hw
                    have hw_298 := hw
                    refine lv_iconst (v := 2) hx hb dX15_wish_196 (by decide) ?_
                    refine lv_icmp_ne (tgt := 230) hx hb dX15_wish_197 (by decide) (fun c_299 => ?_) (fun c_299 => ?_)
                    ·
                      refine lv_iconst (v := 0) hx hb dX15_wish_230 (by decide) ?_
                      refine lv_istore (lv' := [(5, .int 0), (4, .int s4), (0, .ref h0), (1, .int x1)]) hx hb dX15_wish_231 hl (by decide) rfl (fun ls hl => ?_)
                      refine W.widen (k := 0) (n := 0) (by omega) (by omega) ?_
                      have hF_301 : F va = .inl (cs 23, 40, .inr (.inr (.inr (.inr f_200)))) := (hR va (by rw [ht_12]; simp)).symm.trans hF_295
                      have hF_302 : F b_203 = .inr (14, [.ref r_204, .int (nI z_211)]) := (hR b_203 (by rw [ht_207]; simp)).symm.trans hF_296
                      have hF_303 : F b_214 = .inr (14, [.ref r_215, .int (nI z_222)]) := (hR b_214 (by rw [ht_218]; simp)).symm.trans hF_297
                      refine pl_loopm (σ := Nat) A (dC, dI) cs ty gm L [ρ, ρ + 6, ρ + 7, ρ + 10, ρ + 11, ρ + 12, ρ + 13, ρ + 14, ρ + 15, ρ + 16, ρ + 17, ρ + 18, ρ + 19, ρ + 20, ρ + 21, ρ + 22, ρ + 23, ρ + 24, ρ + 25, ρ + 26, ρ + 28, ρ + 29, ρ + 30] F 233 6 (fun j => [(5, .int (nI j)), (4, .int s4), (0, .ref h0), (1, .int x1)]) (fun j => []) (fun j _ => j ≤ nf) (fun j => nf - j) ?_ 0 F_294 (by omega) hO hR _ _ hP hD hS ls (lv_sub hl [0, 1, 2, 3] rfl)
                      rintro j F_300 hv_304 hO hR ih_305 H locs hP hD hS ls hl
                      have hl : lv_has ls 6 [(5, .int (nI j)), (4, .int s4), (0, .ref h0), (1, .int x1)] := hl
                      have hv_304 : j ≤ nf := hv_304
                      refine W.eq (g2 := F0 m 233 ls []) rfl ?_
                      have hF_306 : F_300 va = .inl (cs 23, 40, .inr (.inr (.inr (.inr f_200)))) := (hR va (by rw [ht_12]; simp)).trans hF_301
                      have hF_307 : F_300 b_203 = .inr (14, [.ref r_204, .int (nI z_211)]) := (hR b_203 (by rw [ht_207]; simp)).trans hF_302
                      have hF_308 : F_300 b_214 = .inr (14, [.ref r_215, .int (nI z_222)]) := (hR b_214 (by rw [ht_218]; simp)).trans hF_303
                      refine lv_iload hx hb dX15_wish_233 (lv_at hl 0 rfl) ?_
                      refine lv_aload_n hx hb dX15_wish_235 rfl (lv_at hl 2 rfl) ?_
                      obtain ⟨zo_309, ze_310, v11_311, v12_312, v14_313, v15_314, v17_315, v18_316, v19_317, v20_318, v21_319, v22_320, v33_321, v52_322, v53_323, v54_324, hF_325, hq_326, hq_327, hq_328, hq_329⟩ := hO.mod hL_h0 hT_h0
                      refine pg_get (ci := 15) (v := .int (nI nf)) (C := RX15) (T := TX15) (N := 59) hx hb hts it_15 hown hK hP hL_h0 hF_325 rfl 30 (by decide) (hts _ kt_907) (fun _ h9 => h9) rfl dX15_wish_236 ?_
                      refine lv_icmp_ge (tgt := 304) hx hb dX15_wish_239 (by decide) (fun c_330 => ?_) (fun c_330 => ?_)
                      ·
                        have hi_331 : nf ≤ j := leN (N := nf) c_330
                        refine lv_iload hx hb dX15_wish_304 (lv_at hl 1 rfl) ?_
                        refine W.widen (k := 0) (n := 0) (by omega) (by omega) ?_
                        exact W.iret (v := s4) hx hb hr (fun t ht hWm => ⟨⟨s4, (), rfl, trivial, ⟨F_300, QTm.mk ht hP hD hO hR⟩⟩, hS.F ht⟩) hS.2.2 dX15_wish_306
                      ·
                        have hi_332 : j < nf := ltN (N := nf) c_330
                        refine lv_aload_n hx hb dX15_wish_242 rfl (lv_at hl 2 rfl) ?_
                        refine lv_iload hx hb dX15_wish_243 (lv_at hl 0 rfl) ?_
                        obtain ⟨q_333, v_334, hr_q_333, hX_q_333⟩ := hG.2.2 ("PostGateModel", 376, "dkim-signature", [100, 107, 105, 109, 45, 115, 105, 103, 110, 97, 116, 117, 114, 101]) (by decide +kernel)
                        have hX_q_333 : SXc q_333 v_334 14 (cct [100, 107, 105, 109, 45, 115, 105, 103, 110, 97, 116, 117, 114, 101]) A s s.heap := hX_q_333
                        obtain ⟨xo_q_333, xc_q_333, xv_q_333, xt_q_333, xn_q_333⟩ := id hX_q_333
                        have hr_q_333 : vk_R "PostGateModel" 376 "dkim-signature" q_333 s := hr_q_333
                        refine va_ldcwS hx hb hown hr_q_333 dX15_wish_245 ?_
                        have hFc := pg_free hD hS hA
                        refine va_calli (va_runV (As := [.int (nI j), .ref q_333]) (rest := []) ⟨hx, hb, hml, hown, hts⟩ (s_X15_isNamed l dC dI cs ty gm L H.size F_300 h0 ρ ta ou so ad na va lc dm tg pe ml bg co sp nb0 nb1 nb2 pl se ke wi hs mo po nu pr sq xa sa n64 m64 ex wh sd tk hd ak ho ot sx s0 s1 s2 nf bd mm zt j q_333 v_334 14 (cct [100, 107, 105, 109, 45, 115, 105, 103, 110, 97, 116, 117, 114, 101]) hW hL_h0 hT_h0 (by first | omega | assumption)) ⟨callB_of 2 hts (gi kt_908) rfl rfl rfl (hts _ kt_669) (hts _ kt_909) (by decide +kernel) ⟨Nat.le_of_ble_eq_true rfl, Nat.le_of_ble_eq_true rfl⟩, (hts _ kt_910), (hts _ kt_911)⟩ ⟨fun a U g mk q => ⟨q.1, PTEm.calling q.2⟩, pg_recv hK hP hL_h0 hF_325 (q := (RX15, TX15, 59)) rfl, fun U hU hWm => ⟨rfl, PTEm.mk hU hWm hP hK hD hE hO hG (fun x hx => by rw [List.mem_singleton] at hx; subst hx; exact hX_q_333) hS hFc⟩⟩ rfl rfl hl.1 rfl (lv_room (Nat.le_of_ble_eq_true rfl)) dX15_wish_248 ⟨by show _ + 0 ≤ 0; omega, by show _ + 0 ≤ 0; omega⟩) hS (fun q _ h => hFc q h) hFc (fun r_335 u t H1 locs ht hvm hw hB hz1 hk1 hS => ?_)
                        obtain ⟨F_336, hB1⟩ := hB
                        obtain rfl : F_300 = F_336 := (funext (fun a => hB1.2.2.2 a List.not_mem_nil)).symm
                        obtain ⟨hP, hD, hO, hR⟩ := QTm.back hB1 ht hFc hR (fun q h => absurd h List.not_mem_nil)
                        generalize H1 = H at hP hS ⊢
                        have hw : (r_335 = 0 ∨ r_335 = 1) := hw
                        have hw_337 := hw
                        refine lv_if_eq (tgt := 298) hx hb dX15_wish_251 (by decide) (fun c_338 => ?_) (fun c_338 => ?_)
                        ·
                          refine lv_iinc (v := (nI (j + 1))) (lv' := [(5, .int (nI (j + 1))), (4, .int s4), (0, .ref h0), (1, .int x1)]) hx hb dX15_wish_298 hl (k := 0) rfl (nI_1 _) (by decide) rfl (fun ls hl => ?_)
                          refine lv_goto (tgt := 233) hx hb dX15_wish_301 (by decide) ?_
                          refine W.widen (k := 0) (n := 0) (by omega) (by omega) ?_
                          exact ih_305 (j + 1) F_300 (by first | omega | exact ⟨by omega, by omega⟩ | trivial) (by show nf - (j + 1) < nf - j; omega) hO hR _ _ hP hD hS ls (lv_sub hl [0, 1, 2, 3] rfl)
                        ·
                          refine lv_aload_n hx hb dX15_wish_254 rfl (lv_at hl 2 rfl) ?_
                          refine lv_iload hx hb dX15_wish_255 (lv_at hl 0 rfl) ?_
                          refine lv_iload_n hx hb dX15_wish_257 rfl (lv_at hl 3 rfl) ?_
                          have hFc := pg_free hD hS hA
                          refine va_calli (va_runV (As := [.int (nI j), .int x1]) (rest := []) ⟨hx, hb, hml, hown, hts⟩ (s_X15_sealOf l dC dI cs ty gm L H.size F_300 h0 ρ ta ou so ad na va lc dm tg pe ml bg co sp nb0 nb1 nb2 pl se ke wi hs mo po nu pr sq xa sa n64 m64 ex wh sd tk hd ak ho ot sx s0 s1 s2 nf bd mm zt sb rl j x1 hW hL_h0 hT_h0 hL_sx hT_sx hL_pl hT_pl (by first | omega | assumption)) ⟨callB_of 2 hts (gi kt_1041) rfl rfl rfl (hts _ kt_669) (hts _ kt_1042) (by decide +kernel) ⟨Nat.le_of_ble_eq_true rfl, Nat.le_of_ble_eq_true rfl⟩, (hts _ kt_1043), (hts _ kt_1044)⟩ ⟨fun a U g mk q => ⟨q.1, PTEm.calling q.2⟩, pg_recv hK hP hL_h0 hF_325 (q := (RX15, TX15, 59)) rfl, fun U hU hWm => ⟨rfl, PTEm.mk hU hWm hP hK hD hE hO hG (fun x hx => absurd hx List.not_mem_nil) hS hFc⟩⟩ rfl rfl hl.1 rfl (lv_room (Nat.le_of_ble_eq_true rfl)) dX15_wish_258 ⟨by show _ + 0 ≤ 0; omega, by show _ + 0 ≤ 0; omega⟩) hS (fun q _ h => hFc q h) hFc (fun r_339 u t H1 locs ht hvm hw hB hz1 hk1 hS => ?_)
                          obtain ⟨F_340, hB1⟩ := hB
                          obtain ⟨hP, hD, hO, hR⟩ := QTm.back hB1 ht hFc hR (fun q h => by simp only [List.mem_cons, List.not_mem_nil, or_false] at h ⊢; omega)
                          have hF_341 : F_340 va = .inl (cs 23, 40, .inr (.inr (.inr (.inr f_200)))) := (hB1.2.2.2 va (by rw [ht_12]; simp)).trans hF_306
                          have hF_342 : F_340 b_203 = .inr (14, [.ref r_204, .int (nI z_211)]) := (hB1.2.2.2 b_203 (by rw [ht_207]; simp)).trans hF_307
                          have hF_343 : F_340 b_214 = .inr (14, [.ref r_215, .int (nI z_222)]) := (hB1.2.2.2 b_214 (by rw [ht_218]; simp)).trans hF_308
                          generalize H1 = H at hP hS ⊢
                          have hw : True := hw
                          have hw_344 := hw
                          refine lv_iconst (v := 2) hx hb dX15_wish_261 (by decide) ?_
                          refine lv_icmp_eq (tgt := 268) hx hb dX15_wish_262 (by decide) (fun c_345 => ?_) (fun c_345 => ?_)
                          ·
                            refine lv_aload_n hx hb dX15_wish_268 rfl (lv_at hl 2 rfl) ?_
                            refine lv_aload_n hx hb dX15_wish_269 rfl (lv_at hl 2 rfl) ?_
                            obtain ⟨zo_346, ze_347, v11_348, v12_349, v14_350, v15_351, v17_352, v18_353, v19_354, v20_355, v21_356, v22_357, v33_358, v52_359, v53_360, v54_361, hF_362, hq_363, hq_364, hq_365, hq_366⟩ := hO.mod hL_h0 hT_h0
                            refine pg_get (ci := 15) (v := .ref sd) (C := RX15) (T := TX15) (N := 59) hx hb hts it_15 hown hK hP hL_h0 hF_362 rfl 50 (by decide) (hts _ kt_1017) (fun _ h9 => h9) rfl dX15_wish_270 ?_
                            refine lv_aload_n hx hb dX15_wish_273 rfl (lv_at hl 2 rfl) ?_
                            refine pg_get (ci := 15) (v := .ref ak) (C := RX15) (T := TX15) (N := 59) hx hb hts it_15 hown hK hP hL_h0 hF_362 rfl 56 (by decide) (hts _ kt_1045) (fun _ h9 => h9) rfl dX15_wish_274 ?_
                            refine lv_aload_n hx hb dX15_wish_277 rfl (lv_at hl 2 rfl) ?_
                            refine pg_get (ci := 15) (v := .ref wi) (C := RX15) (T := TX15) (N := 59) hx hb hts it_15 hown hK hP hL_h0 hF_362 rfl 37 (by decide) (hts _ kt_1058) (fun _ h9 => h9) rfl dX15_wish_278 ?_
                            obtain ⟨q_367, v_368, hr_q_367, hX_q_367⟩ := hG.2.2 ("PostGateModel", 601, "adkim", [97, 100, 107, 105, 109]) (by decide +kernel)
                            have hX_q_367 : SXc q_367 v_368 5 (cct [97, 100, 107, 105, 109]) A s s.heap := hX_q_367
                            obtain ⟨xo_q_367, xc_q_367, xv_q_367, xt_q_367, xn_q_367⟩ := id hX_q_367
                            have hr_q_367 : vk_R "PostGateModel" 601 "adkim" q_367 s := hr_q_367
                            refine va_ldcwS hx hb hown hr_q_367 dX15_wish_281 ?_
                            obtain ⟨q_369, v_370, hr_q_369, hX_q_369⟩ := hG.2.2 ("PostGateModel", 460, "s", [115]) (by decide +kernel)
                            have hX_q_369 : SXc q_369 v_370 1 (cct [115]) A s s.heap := hX_q_369
                            obtain ⟨xo_q_369, xc_q_369, xv_q_369, xt_q_369, xn_q_369⟩ := id hX_q_369
                            have hr_q_369 : vk_R "PostGateModel" 460 "s" q_369 s := hr_q_369
                            refine va_ldcwS hx hb hown hr_q_369 dX15_wish_284 ?_
                            obtain ⟨z_371, hF_372, hq_373⟩ := hO.tags hi_43 ht_48
                            have hFc := pg_free hD hS hA
                            refine va_calli (va_runV (As := [.ref q_367, .ref q_369]) (rest := [.ref ak, .ref sd, .ref h0]) ⟨hx, hb, hml, hown, hts⟩ (s_X13_has l dC dI cs ty gm L H.size F_340 wi (ρ + 15) x_44 700 700 y0_45 y1_46 y2_47 r_124 z_371 q_367 v_368 5 (cct [97, 100, 107, 105, 109]) q_369 v_370 1 (cct [115]) hW hi_43 ht_48 hi_120 ht_125 hF_372 (by first | omega | assumption)) ⟨callB_of 2 hts (gi kt_878) rfl rfl rfl (hts _ kt_844) (hts _ kt_879) (by decide +kernel) ⟨Nat.le_of_ble_eq_true rfl, Nat.le_of_ble_eq_true rfl⟩, (hts _ kt_880), (hts _ kt_881)⟩ ⟨fun a U g mk q => ⟨q.1, PTEm.calling q.2⟩, pg_recv hK hP hi_43 hF_372 (q := (RX13, TX13, 5)) rfl, fun U hU hWm => ⟨rfl, PTEm.mk hU hWm hP hK hD hE hO hG (fun x hx => by simp only [List.mem_cons, List.not_mem_nil, or_false] at hx; rcases hx with hx | hx <;> subst hx <;> first | exact hX_q_367 | exact hX_q_369) hS hFc⟩⟩ rfl rfl hl.1 rfl (lv_room (Nat.le_of_ble_eq_true rfl)) dX15_wish_287 ⟨by show _ + 0 ≤ 0; omega, by show _ + 0 ≤ 0; omega⟩) hS (fun q _ h => hFc q h) hFc (fun r_374 u t H1 locs ht hvm hw hB hz1 hk1 hS => ?_)
                            obtain ⟨F_375, hB1⟩ := hB
                            obtain rfl : F_340 = F_375 := (funext (fun a => hB1.2.2.2 a List.not_mem_nil)).symm
                            obtain ⟨hP, hD, hO, hR⟩ := QTm.back hB1 ht hFc hR (fun q h => absurd h List.not_mem_nil)
                            generalize H1 = H at hP hS ⊢
                            have hw : (r_374 = 0 ∨ r_374 = 1) := hw
                            have hw_376 := hw
                            have hFc := pg_free hD hS hA
                            refine va_calli (va_runV (As := [.ref sd, .ref ak, .int r_374]) (rest := []) ⟨hx, hb, hml, hown, hts⟩ (s_X15_isAligned l dC dI cs ty gm L H.size F_340 h0 ρ ta ou so ad na va lc dm tg pe ml bg co sp nb0 nb1 nb2 pl se ke wi hs mo po nu pr sq xa sa n64 m64 ex wh sd tk hd ak ho ot sx s0 s1 s2 nf bd mm zt sd (ρ + 25) r_80 3000 ak (ρ + 28) rak 6000 r_374 hW hL_h0 hT_h0 hi_79 ht_81 hL_ak hT_ak (by first | omega | assumption) (by first | omega | assumption)) ⟨callB_of 3 hts (gi kt_1066) rfl rfl rfl (hts _ kt_669) (hts _ kt_1067) (by decide +kernel) ⟨Nat.le_of_ble_eq_true rfl, Nat.le_of_ble_eq_true rfl⟩, (hts _ kt_1068), (hts _ kt_1069)⟩ ⟨fun a U g mk q => ⟨q.1, PTm.calling q.2⟩, pg_recv hK hP hL_h0 hF_362 (q := (RX15, TX15, 59)) rfl, fun U hU hWm => ⟨rfl, PTm.mk hU hWm hP hK hD hE hO⟩⟩ rfl rfl hl.1 rfl (lv_room (Nat.le_of_ble_eq_true rfl)) dX15_wish_290 ⟨by show _ + 0 ≤ 0; omega, by show _ + 0 ≤ 0; omega⟩) hS (fun q _ h => hFc q h) hFc (fun r_377 u t H1 locs ht hvm hw hB hz1 hk1 hS => ?_)
                            obtain ⟨F_378, hB1⟩ := hB
                            obtain ⟨hP, hD, hO, hR⟩ := QTm.back hB1 ht hFc hR (fun q h => by simp only [List.mem_cons, List.not_mem_nil, or_false] at h ⊢; omega)
                            have hF_379 : F_378 va = .inl (cs 23, 40, .inr (.inr (.inr (.inr f_200)))) := (hB1.2.2.2 va (by rw [ht_12]; simp)).trans hF_341
                            have hF_380 : F_378 b_203 = .inr (14, [.ref r_204, .int (nI z_211)]) := (hB1.2.2.2 b_203 (by rw [ht_207]; simp)).trans hF_342
                            have hF_381 : F_378 b_214 = .inr (14, [.ref r_215, .int (nI z_222)]) := (hB1.2.2.2 b_214 (by rw [ht_218]; simp)).trans hF_343
                            have hF_382 : F_378 h0 = .inr (15, (.ref ta) :: (.int (nI zt)) :: (.int (nI zo_346)) :: (.int (nI ze_347)) :: (.ref ou) :: (.ref so) :: (.ref ad) :: (.ref na) :: (.ref va) :: (.ref lc) :: (.ref dm) :: (.int v11_348) :: (.int v12_349) :: (.ref tg) :: (.int v14_350) :: (.int v15_351) :: (.ref pe) :: (.int v17_352) :: (.int v18_353) :: (.int v19_354) :: (.int v20_355) :: (.int v21_356) :: (.int v22_357) :: (.ref ml) :: (.ref bg) :: (.ref co) :: (.ref sp) :: (.ref nb0) :: (.ref nb1) :: (.ref nb2) :: (.int (nI nf)) :: (.int (nI bd)) :: (.int (nI mm)) :: (.int v33_358) :: (.ref pl) :: (.ref se) :: (.ref ke) :: (.ref wi) :: (.ref hs) :: (.ref mo) :: (.ref po) :: (.ref nu) :: (.ref pr) :: (.ref sq) :: (.ref xa) :: (.ref sa) :: (.ref n64) :: (.ref m64) :: (.ref ex) :: (.ref wh) :: (.ref sd) :: (.ref tk) :: (.int v52_359) :: (.int v53_360) :: (.int v54_361) :: (.ref hd) :: (.ref ak) :: (.ref ho) :: (.ref ot) :: []) := (hB1.2.2.2 h0 (by rw [hT_h0]; simp)).trans hF_362
                            have hF_383 : F_378 wi = .inr (13, [.ref x_44, .ref y0_45, .ref y1_46, .ref y2_47, .int (nI z_371)]) := (hB1.2.2.2 wi (by rw [ht_48]; simp)).trans hF_372
                            generalize H1 = H at hP hS ⊢
                            have hw : (r_377 = 0 ∨ r_377 = 1) := hw
                            have hw_384 := hw
                            refine lv_if_eq (tgt := 298) hx hb dX15_wish_293 (by decide) (fun c_385 => ?_) (fun c_385 => ?_)
                            ·
                              refine lv_iinc (v := (nI (j + 1))) (lv' := [(5, .int (nI (j + 1))), (4, .int s4), (0, .ref h0), (1, .int x1)]) hx hb dX15_wish_298 hl (k := 0) rfl (nI_1 _) (by decide) rfl (fun ls hl => ?_)
                              refine lv_goto (tgt := 233) hx hb dX15_wish_301 (by decide) ?_
                              refine W.widen (k := 0) (n := 0) (by omega) (by omega) ?_
                              exact ih_305 (j + 1) F_378 (by first | omega | exact ⟨by omega, by omega⟩ | trivial) (by show nf - (j + 1) < nf - j; omega) hO hR _ _ hP hD hS ls (lv_sub hl [0, 1, 2, 3] rfl)
                            ·
                              refine lv_iconst (v := 2) hx hb dX15_wish_296 (by decide) ?_
                              refine W.widen (k := 0) (n := 0) (by omega) (by omega) ?_
                              exact W.iret (v := 2) hx hb hr (fun t ht hWm => ⟨⟨2, (), rfl, trivial, ⟨F_378, QTm.mk ht hP hD hO hR⟩⟩, hS.F ht⟩) hS.2.2 dX15_wish_297
                          ·
                            refine lv_goto (tgt := 298) hx hb dX15_wish_265 (by decide) ?_
                            refine lv_iinc (v := (nI (j + 1))) (lv' := [(5, .int (nI (j + 1))), (4, .int s4), (0, .ref h0), (1, .int x1)]) hx hb dX15_wish_298 hl (k := 0) rfl (nI_1 _) (by decide) rfl (fun ls hl => ?_)
                            refine lv_goto (tgt := 233) hx hb dX15_wish_301 (by decide) ?_
                            refine W.widen (k := 0) (n := 0) (by omega) (by omega) ?_
                            exact ih_305 (j + 1) F_340 (by first | omega | exact ⟨by omega, by omega⟩ | trivial) (by show nf - (j + 1) < nf - j; omega) hO hR _ _ hP hD hS ls (lv_sub hl [0, 1, 2, 3] rfl)
                    ·
                      refine lv_aload_n hx hb dX15_wish_200 rfl (lv_at hl 1 rfl) ?_
                      refine lv_aload_n hx hb dX15_wish_201 rfl (lv_at hl 1 rfl) ?_
                      obtain ⟨zo_386, ze_387, v11_388, v12_389, v14_390, v15_391, v17_392, v18_393, v19_394, v20_395, v21_396, v22_397, v33_398, v52_399, v53_400, v54_401, hF_402, hq_403, hq_404, hq_405, hq_406⟩ := hO.mod hL_h0 hT_h0
                      refine pg_get (ci := 15) (v := .ref dm) (C := RX15) (T := TX15) (N := 59) hx hb hts it_15 hown hK hP hL_h0 hF_402 rfl 10 (by decide) (hts _ kt_777) (fun _ h9 => h9) rfl dX15_wish_202 ?_
                      refine lv_aload_n hx hb dX15_wish_205 rfl (lv_at hl 1 rfl) ?_
                      refine pg_get (ci := 15) (v := .ref ak) (C := RX15) (T := TX15) (N := 59) hx hb hts it_15 hown hK hP hL_h0 hF_402 rfl 56 (by decide) (hts _ kt_1045) (fun _ h9 => h9) rfl dX15_wish_206 ?_
                      refine lv_aload_n hx hb dX15_wish_209 rfl (lv_at hl 1 rfl) ?_
                      refine pg_get (ci := 15) (v := .ref wi) (C := RX15) (T := TX15) (N := 59) hx hb hts it_15 hown hK hP hL_h0 hF_402 rfl 37 (by decide) (hts _ kt_1058) (fun _ h9 => h9) rfl dX15_wish_210 ?_
                      obtain ⟨q_407, v_408, hr_q_407, hX_q_407⟩ := hG.2.2 ("PostGateModel", 595, "aspf", [97, 115, 112, 102]) (by decide +kernel)
                      have hX_q_407 : SXc q_407 v_408 4 (cct [97, 115, 112, 102]) A s s.heap := hX_q_407
                      obtain ⟨xo_q_407, xc_q_407, xv_q_407, xt_q_407, xn_q_407⟩ := id hX_q_407
                      have hr_q_407 : vk_R "PostGateModel" 595 "aspf" q_407 s := hr_q_407
                      refine va_ldcwS hx hb hown hr_q_407 dX15_wish_213 ?_
                      obtain ⟨q_409, v_410, hr_q_409, hX_q_409⟩ := hG.2.2 ("PostGateModel", 460, "s", [115]) (by decide +kernel)
                      have hX_q_409 : SXc q_409 v_410 1 (cct [115]) A s s.heap := hX_q_409
                      obtain ⟨xo_q_409, xc_q_409, xv_q_409, xt_q_409, xn_q_409⟩ := id hX_q_409
                      have hr_q_409 : vk_R "PostGateModel" 460 "s" q_409 s := hr_q_409
                      refine va_ldcwS hx hb hown hr_q_409 dX15_wish_216 ?_
                      obtain ⟨z_411, hF_412, hq_413⟩ := hO.tags hi_43 ht_48
                      have hFc := pg_free hD hS hA
                      refine va_calli (va_runV (As := [.ref q_407, .ref q_409]) (rest := [.ref ak, .ref dm, .ref h0]) ⟨hx, hb, hml, hown, hts⟩ (s_X13_has l dC dI cs ty gm L H.size F_294 wi (ρ + 15) x_44 700 700 y0_45 y1_46 y2_47 r_124 z_411 q_407 v_408 4 (cct [97, 115, 112, 102]) q_409 v_410 1 (cct [115]) hW hi_43 ht_48 hi_120 ht_125 hF_412 (by first | omega | assumption)) ⟨callB_of 2 hts (gi kt_878) rfl rfl rfl (hts _ kt_844) (hts _ kt_879) (by decide +kernel) ⟨Nat.le_of_ble_eq_true rfl, Nat.le_of_ble_eq_true rfl⟩, (hts _ kt_880), (hts _ kt_881)⟩ ⟨fun a U g mk q => ⟨q.1, PTEm.calling q.2⟩, pg_recv hK hP hi_43 hF_412 (q := (RX13, TX13, 5)) rfl, fun U hU hWm => ⟨rfl, PTEm.mk hU hWm hP hK hD hE hO hG (fun x hx => by simp only [List.mem_cons, List.not_mem_nil, or_false] at hx; rcases hx with hx | hx <;> subst hx <;> first | exact hX_q_407 | exact hX_q_409) hS hFc⟩⟩ rfl rfl hl.1 rfl (lv_room (Nat.le_of_ble_eq_true rfl)) dX15_wish_219 ⟨by show _ + 0 ≤ 0; omega, by show _ + 0 ≤ 0; omega⟩) hS (fun q _ h => hFc q h) hFc (fun r_414 u t H1 locs ht hvm hw hB hz1 hk1 hS => ?_)
                      obtain ⟨F_415, hB1⟩ := hB
                      obtain rfl : F_294 = F_415 := (funext (fun a => hB1.2.2.2 a List.not_mem_nil)).symm
                      obtain ⟨hP, hD, hO, hR⟩ := QTm.back hB1 ht hFc hR (fun q h => absurd h List.not_mem_nil)
                      generalize H1 = H at hP hS ⊢
                      have hw : (r_414 = 0 ∨ r_414 = 1) := hw
                      have hw_416 := hw
                      have hFc := pg_free hD hS hA
                      refine va_calli (va_runV (As := [.ref dm, .ref ak, .int r_414]) (rest := []) ⟨hx, hb, hml, hown, hts⟩ (s_X15_isAligned l dC dI cs ty gm L H.size F_294 h0 ρ ta ou so ad na va lc dm tg pe ml bg co sp nb0 nb1 nb2 pl se ke wi hs mo po nu pr sq xa sa n64 m64 ex wh sd tk hd ak ho ot sx s0 s1 s2 nf bd mm zt dm (ρ + 5) r_17 60 ak (ρ + 28) rak 6000 r_414 hW hL_h0 hT_h0 hi_16 ht_18 hL_ak hT_ak (by first | omega | assumption) (by first | omega | assumption)) ⟨callB_of 3 hts (gi kt_1066) rfl rfl rfl (hts _ kt_669) (hts _ kt_1067) (by decide +kernel) ⟨Nat.le_of_ble_eq_true rfl, Nat.le_of_ble_eq_true rfl⟩, (hts _ kt_1068), (hts _ kt_1069)⟩ ⟨fun a U g mk q => ⟨q.1, PTm.calling q.2⟩, pg_recv hK hP hL_h0 hF_402 (q := (RX15, TX15, 59)) rfl, fun U hU hWm => ⟨rfl, PTm.mk hU hWm hP hK hD hE hO⟩⟩ rfl rfl hl.1 rfl (lv_room (Nat.le_of_ble_eq_true rfl)) dX15_wish_222 ⟨by show _ + 0 ≤ 0; omega, by show _ + 0 ≤ 0; omega⟩) hS (fun q _ h => hFc q h) hFc (fun r_417 u t H1 locs ht hvm hw hB hz1 hk1 hS => ?_)
                      obtain ⟨F_418, hB1⟩ := hB
                      obtain ⟨hP, hD, hO, hR⟩ := QTm.back hB1 ht hFc hR (fun q h => by simp only [List.mem_cons, List.not_mem_nil, or_false] at h ⊢; omega)
                      have hF_419 : F_418 va = .inl (cs 23, 40, .inr (.inr (.inr (.inr f_200)))) := (hB1.2.2.2 va (by rw [ht_12]; simp)).trans hF_295
                      have hF_420 : F_418 b_203 = .inr (14, [.ref r_204, .int (nI z_211)]) := (hB1.2.2.2 b_203 (by rw [ht_207]; simp)).trans hF_296
                      have hF_421 : F_418 b_214 = .inr (14, [.ref r_215, .int (nI z_222)]) := (hB1.2.2.2 b_214 (by rw [ht_218]; simp)).trans hF_297
                      have hF_422 : F_418 h0 = .inr (15, (.ref ta) :: (.int (nI zt)) :: (.int (nI zo_386)) :: (.int (nI ze_387)) :: (.ref ou) :: (.ref so) :: (.ref ad) :: (.ref na) :: (.ref va) :: (.ref lc) :: (.ref dm) :: (.int v11_388) :: (.int v12_389) :: (.ref tg) :: (.int v14_390) :: (.int v15_391) :: (.ref pe) :: (.int v17_392) :: (.int v18_393) :: (.int v19_394) :: (.int v20_395) :: (.int v21_396) :: (.int v22_397) :: (.ref ml) :: (.ref bg) :: (.ref co) :: (.ref sp) :: (.ref nb0) :: (.ref nb1) :: (.ref nb2) :: (.int (nI nf)) :: (.int (nI bd)) :: (.int (nI mm)) :: (.int v33_398) :: (.ref pl) :: (.ref se) :: (.ref ke) :: (.ref wi) :: (.ref hs) :: (.ref mo) :: (.ref po) :: (.ref nu) :: (.ref pr) :: (.ref sq) :: (.ref xa) :: (.ref sa) :: (.ref n64) :: (.ref m64) :: (.ref ex) :: (.ref wh) :: (.ref sd) :: (.ref tk) :: (.int v52_399) :: (.int v53_400) :: (.int v54_401) :: (.ref hd) :: (.ref ak) :: (.ref ho) :: (.ref ot) :: []) := (hB1.2.2.2 h0 (by rw [hT_h0]; simp)).trans hF_402
                      have hF_423 : F_418 wi = .inr (13, [.ref x_44, .ref y0_45, .ref y1_46, .ref y2_47, .int (nI z_411)]) := (hB1.2.2.2 wi (by rw [ht_48]; simp)).trans hF_412
                      generalize H1 = H at hP hS ⊢
                      have hw : (r_417 = 0 ∨ r_417 = 1) := hw
                      have hw_424 := hw
                      refine lv_if_eq (tgt := 230) hx hb dX15_wish_225 (by decide) (fun c_425 => ?_) (fun c_425 => ?_)
                      ·
                        refine lv_iconst (v := 0) hx hb dX15_wish_230 (by decide) ?_
                        refine lv_istore (lv' := [(5, .int 0), (4, .int s4), (0, .ref h0), (1, .int x1)]) hx hb dX15_wish_231 hl (by decide) rfl (fun ls hl => ?_)
                        refine W.widen (k := 0) (n := 0) (by omega) (by omega) ?_
                        have hF_427 : F va = .inl (cs 23, 40, .inr (.inr (.inr (.inr f_200)))) := (hR va (by rw [ht_12]; simp)).symm.trans hF_419
                        have hF_428 : F b_203 = .inr (14, [.ref r_204, .int (nI z_211)]) := (hR b_203 (by rw [ht_207]; simp)).symm.trans hF_420
                        have hF_429 : F b_214 = .inr (14, [.ref r_215, .int (nI z_222)]) := (hR b_214 (by rw [ht_218]; simp)).symm.trans hF_421
                        refine pl_loopm (σ := Nat) A (dC, dI) cs ty gm L [ρ, ρ + 6, ρ + 7, ρ + 10, ρ + 11, ρ + 12, ρ + 13, ρ + 14, ρ + 15, ρ + 16, ρ + 17, ρ + 18, ρ + 19, ρ + 20, ρ + 21, ρ + 22, ρ + 23, ρ + 24, ρ + 25, ρ + 26, ρ + 28, ρ + 29, ρ + 30] F 233 6 (fun j => [(5, .int (nI j)), (4, .int s4), (0, .ref h0), (1, .int x1)]) (fun j => []) (fun j _ => j ≤ nf) (fun j => nf - j) ?_ 0 F_418 (by omega) hO hR _ _ hP hD hS ls (lv_sub hl [0, 1, 2, 3] rfl)
                        rintro j F_426 hv_430 hO hR ih_431 H locs hP hD hS ls hl
                        have hl : lv_has ls 6 [(5, .int (nI j)), (4, .int s4), (0, .ref h0), (1, .int x1)] := hl
                        have hv_430 : j ≤ nf := hv_430
                        refine W.eq (g2 := F0 m 233 ls []) rfl ?_
                        have hF_432 : F_426 va = .inl (cs 23, 40, .inr (.inr (.inr (.inr f_200)))) := (hR va (by rw [ht_12]; simp)).trans hF_427
                        have hF_433 : F_426 b_203 = .inr (14, [.ref r_204, .int (nI z_211)]) := (hR b_203 (by rw [ht_207]; simp)).trans hF_428
                        have hF_434 : F_426 b_214 = .inr (14, [.ref r_215, .int (nI z_222)]) := (hR b_214 (by rw [ht_218]; simp)).trans hF_429
                        refine lv_iload hx hb dX15_wish_233 (lv_at hl 0 rfl) ?_
                        refine lv_aload_n hx hb dX15_wish_235 rfl (lv_at hl 2 rfl) ?_
                        obtain ⟨zo_435, ze_436, v11_437, v12_438, v14_439, v15_440, v17_441, v18_442, v19_443, v20_444, v21_445, v22_446, v33_447, v52_448, v53_449, v54_450, hF_451, hq_452, hq_453, hq_454, hq_455⟩ := hO.mod hL_h0 hT_h0
                        refine pg_get (ci := 15) (v := .int (nI nf)) (C := RX15) (T := TX15) (N := 59) hx hb hts it_15 hown hK hP hL_h0 hF_451 rfl 30 (by decide) (hts _ kt_907) (fun _ h9 => h9) rfl dX15_wish_236 ?_
                        refine lv_icmp_ge (tgt := 304) hx hb dX15_wish_239 (by decide) (fun c_456 => ?_) (fun c_456 => ?_)
                        ·
                          have hi_457 : nf ≤ j := leN (N := nf) c_456
                          refine lv_iload hx hb dX15_wish_304 (lv_at hl 1 rfl) ?_
                          refine W.widen (k := 0) (n := 0) (by omega) (by omega) ?_
                          exact W.iret (v := s4) hx hb hr (fun t ht hWm => ⟨⟨s4, (), rfl, trivial, ⟨F_426, QTm.mk ht hP hD hO hR⟩⟩, hS.F ht⟩) hS.2.2 dX15_wish_306
                        ·
                          have hi_458 : j < nf := ltN (N := nf) c_456
                          refine lv_aload_n hx hb dX15_wish_242 rfl (lv_at hl 2 rfl) ?_
                          refine lv_iload hx hb dX15_wish_243 (lv_at hl 0 rfl) ?_
                          obtain ⟨q_459, v_460, hr_q_459, hX_q_459⟩ := hG.2.2 ("PostGateModel", 376, "dkim-signature", [100, 107, 105, 109, 45, 115, 105, 103, 110, 97, 116, 117, 114, 101]) (by decide +kernel)
                          have hX_q_459 : SXc q_459 v_460 14 (cct [100, 107, 105, 109, 45, 115, 105, 103, 110, 97, 116, 117, 114, 101]) A s s.heap := hX_q_459
                          obtain ⟨xo_q_459, xc_q_459, xv_q_459, xt_q_459, xn_q_459⟩ := id hX_q_459
                          have hr_q_459 : vk_R "PostGateModel" 376 "dkim-signature" q_459 s := hr_q_459
                          refine va_ldcwS hx hb hown hr_q_459 dX15_wish_245 ?_
                          have hFc := pg_free hD hS hA
                          refine va_calli (va_runV (As := [.int (nI j), .ref q_459]) (rest := []) ⟨hx, hb, hml, hown, hts⟩ (s_X15_isNamed l dC dI cs ty gm L H.size F_426 h0 ρ ta ou so ad na va lc dm tg pe ml bg co sp nb0 nb1 nb2 pl se ke wi hs mo po nu pr sq xa sa n64 m64 ex wh sd tk hd ak ho ot sx s0 s1 s2 nf bd mm zt j q_459 v_460 14 (cct [100, 107, 105, 109, 45, 115, 105, 103, 110, 97, 116, 117, 114, 101]) hW hL_h0 hT_h0 (by first | omega | assumption)) ⟨callB_of 2 hts (gi kt_908) rfl rfl rfl (hts _ kt_669) (hts _ kt_909) (by decide +kernel) ⟨Nat.le_of_ble_eq_true rfl, Nat.le_of_ble_eq_true rfl⟩, (hts _ kt_910), (hts _ kt_911)⟩ ⟨fun a U g mk q => ⟨q.1, PTEm.calling q.2⟩, pg_recv hK hP hL_h0 hF_451 (q := (RX15, TX15, 59)) rfl, fun U hU hWm => ⟨rfl, PTEm.mk hU hWm hP hK hD hE hO hG (fun x hx => by rw [List.mem_singleton] at hx; subst hx; exact hX_q_459) hS hFc⟩⟩ rfl rfl hl.1 rfl (lv_room (Nat.le_of_ble_eq_true rfl)) dX15_wish_248 ⟨by show _ + 0 ≤ 0; omega, by show _ + 0 ≤ 0; omega⟩) hS (fun q _ h => hFc q h) hFc (fun r_461 u t H1 locs ht hvm hw hB hz1 hk1 hS => ?_)
                          obtain ⟨F_462, hB1⟩ := hB
                          obtain rfl : F_426 = F_462 := (funext (fun a => hB1.2.2.2 a List.not_mem_nil)).symm
                          obtain ⟨hP, hD, hO, hR⟩ := QTm.back hB1 ht hFc hR (fun q h => absurd h List.not_mem_nil)
                          generalize H1 = H at hP hS ⊢
                          have hw : (r_461 = 0 ∨ r_461 = 1) := hw
                          have hw_463 := hw
                          refine lv_if_eq (tgt := 298) hx hb dX15_wish_251 (by decide) (fun c_464 => ?_) (fun c_464 => ?_)
                          ·
                            refine lv_iinc (v := (nI (j + 1))) (lv' := [(5, .int (nI (j + 1))), (4, .int s4), (0, .ref h0), (1, .int x1)]) hx hb dX15_wish_298 hl (k := 0) rfl (nI_1 _) (by decide) rfl (fun ls hl => ?_)
                            refine lv_goto (tgt := 233) hx hb dX15_wish_301 (by decide) ?_
                            refine W.widen (k := 0) (n := 0) (by omega) (by omega) ?_
                            exact ih_431 (j + 1) F_426 (by first | omega | exact ⟨by omega, by omega⟩ | trivial) (by show nf - (j + 1) < nf - j; omega) hO hR _ _ hP hD hS ls (lv_sub hl [0, 1, 2, 3] rfl)
                          ·
                            refine lv_aload_n hx hb dX15_wish_254 rfl (lv_at hl 2 rfl) ?_
                            refine lv_iload hx hb dX15_wish_255 (lv_at hl 0 rfl) ?_
                            refine lv_iload_n hx hb dX15_wish_257 rfl (lv_at hl 3 rfl) ?_
                            have hFc := pg_free hD hS hA
                            refine va_calli (va_runV (As := [.int (nI j), .int x1]) (rest := []) ⟨hx, hb, hml, hown, hts⟩ (s_X15_sealOf l dC dI cs ty gm L H.size F_426 h0 ρ ta ou so ad na va lc dm tg pe ml bg co sp nb0 nb1 nb2 pl se ke wi hs mo po nu pr sq xa sa n64 m64 ex wh sd tk hd ak ho ot sx s0 s1 s2 nf bd mm zt sb rl j x1 hW hL_h0 hT_h0 hL_sx hT_sx hL_pl hT_pl (by first | omega | assumption)) ⟨callB_of 2 hts (gi kt_1041) rfl rfl rfl (hts _ kt_669) (hts _ kt_1042) (by decide +kernel) ⟨Nat.le_of_ble_eq_true rfl, Nat.le_of_ble_eq_true rfl⟩, (hts _ kt_1043), (hts _ kt_1044)⟩ ⟨fun a U g mk q => ⟨q.1, PTEm.calling q.2⟩, pg_recv hK hP hL_h0 hF_451 (q := (RX15, TX15, 59)) rfl, fun U hU hWm => ⟨rfl, PTEm.mk hU hWm hP hK hD hE hO hG (fun x hx => absurd hx List.not_mem_nil) hS hFc⟩⟩ rfl rfl hl.1 rfl (lv_room (Nat.le_of_ble_eq_true rfl)) dX15_wish_258 ⟨by show _ + 0 ≤ 0; omega, by show _ + 0 ≤ 0; omega⟩) hS (fun q _ h => hFc q h) hFc (fun r_465 u t H1 locs ht hvm hw hB hz1 hk1 hS => ?_)
                            obtain ⟨F_466, hB1⟩ := hB
                            obtain ⟨hP, hD, hO, hR⟩ := QTm.back hB1 ht hFc hR (fun q h => by simp only [List.mem_cons, List.not_mem_nil, or_false] at h ⊢; omega)
                            have hF_467 : F_466 va = .inl (cs 23, 40, .inr (.inr (.inr (.inr f_200)))) := (hB1.2.2.2 va (by rw [ht_12]; simp)).trans hF_432
                            have hF_468 : F_466 b_203 = .inr (14, [.ref r_204, .int (nI z_211)]) := (hB1.2.2.2 b_203 (by rw [ht_207]; simp)).trans hF_433
                            have hF_469 : F_466 b_214 = .inr (14, [.ref r_215, .int (nI z_222)]) := (hB1.2.2.2 b_214 (by rw [ht_218]; simp)).trans hF_434
                            generalize H1 = H at hP hS ⊢
                            have hw : True := hw
                            have hw_470 := hw
                            refine lv_iconst (v := 2) hx hb dX15_wish_261 (by decide) ?_
                            refine lv_icmp_eq (tgt := 268) hx hb dX15_wish_262 (by decide) (fun c_471 => ?_) (fun c_471 => ?_)
                            ·
                              refine lv_aload_n hx hb dX15_wish_268 rfl (lv_at hl 2 rfl) ?_
                              refine lv_aload_n hx hb dX15_wish_269 rfl (lv_at hl 2 rfl) ?_
                              obtain ⟨zo_472, ze_473, v11_474, v12_475, v14_476, v15_477, v17_478, v18_479, v19_480, v20_481, v21_482, v22_483, v33_484, v52_485, v53_486, v54_487, hF_488, hq_489, hq_490, hq_491, hq_492⟩ := hO.mod hL_h0 hT_h0
                              refine pg_get (ci := 15) (v := .ref sd) (C := RX15) (T := TX15) (N := 59) hx hb hts it_15 hown hK hP hL_h0 hF_488 rfl 50 (by decide) (hts _ kt_1017) (fun _ h9 => h9) rfl dX15_wish_270 ?_
                              refine lv_aload_n hx hb dX15_wish_273 rfl (lv_at hl 2 rfl) ?_
                              refine pg_get (ci := 15) (v := .ref ak) (C := RX15) (T := TX15) (N := 59) hx hb hts it_15 hown hK hP hL_h0 hF_488 rfl 56 (by decide) (hts _ kt_1045) (fun _ h9 => h9) rfl dX15_wish_274 ?_
                              refine lv_aload_n hx hb dX15_wish_277 rfl (lv_at hl 2 rfl) ?_
                              refine pg_get (ci := 15) (v := .ref wi) (C := RX15) (T := TX15) (N := 59) hx hb hts it_15 hown hK hP hL_h0 hF_488 rfl 37 (by decide) (hts _ kt_1058) (fun _ h9 => h9) rfl dX15_wish_278 ?_
                              obtain ⟨q_493, v_494, hr_q_493, hX_q_493⟩ := hG.2.2 ("PostGateModel", 601, "adkim", [97, 100, 107, 105, 109]) (by decide +kernel)
                              have hX_q_493 : SXc q_493 v_494 5 (cct [97, 100, 107, 105, 109]) A s s.heap := hX_q_493
                              obtain ⟨xo_q_493, xc_q_493, xv_q_493, xt_q_493, xn_q_493⟩ := id hX_q_493
                              have hr_q_493 : vk_R "PostGateModel" 601 "adkim" q_493 s := hr_q_493
                              refine va_ldcwS hx hb hown hr_q_493 dX15_wish_281 ?_
                              refine va_ldcwS hx hb hown hr_q_409 dX15_wish_284 ?_
                              obtain ⟨z_495, hF_496, hq_497⟩ := hO.tags hi_43 ht_48
                              have hFc := pg_free hD hS hA
                              refine va_calli (va_runV (As := [.ref q_493, .ref q_409]) (rest := [.ref ak, .ref sd, .ref h0]) ⟨hx, hb, hml, hown, hts⟩ (s_X13_has l dC dI cs ty gm L H.size F_466 wi (ρ + 15) x_44 700 700 y0_45 y1_46 y2_47 r_124 z_495 q_493 v_494 5 (cct [97, 100, 107, 105, 109]) q_409 v_410 1 (cct [115]) hW hi_43 ht_48 hi_120 ht_125 hF_496 (by first | omega | assumption)) ⟨callB_of 2 hts (gi kt_878) rfl rfl rfl (hts _ kt_844) (hts _ kt_879) (by decide +kernel) ⟨Nat.le_of_ble_eq_true rfl, Nat.le_of_ble_eq_true rfl⟩, (hts _ kt_880), (hts _ kt_881)⟩ ⟨fun a U g mk q => ⟨q.1, PTEm.calling q.2⟩, pg_recv hK hP hi_43 hF_496 (q := (RX13, TX13, 5)) rfl, fun U hU hWm => ⟨rfl, PTEm.mk hU hWm hP hK hD hE hO hG (fun x hx => by simp only [List.mem_cons, List.not_mem_nil, or_false] at hx; rcases hx with hx | hx <;> subst hx <;> first | exact hX_q_493 | exact hX_q_409) hS hFc⟩⟩ rfl rfl hl.1 rfl (lv_room (Nat.le_of_ble_eq_true rfl)) dX15_wish_287 ⟨by show _ + 0 ≤ 0; omega, by show _ + 0 ≤ 0; omega⟩) hS (fun q _ h => hFc q h) hFc (fun r_498 u t H1 locs ht hvm hw hB hz1 hk1 hS => ?_)
                              obtain ⟨F_499, hB1⟩ := hB
                              obtain rfl : F_466 = F_499 := (funext (fun a => hB1.2.2.2 a List.not_mem_nil)).symm
                              obtain ⟨hP, hD, hO, hR⟩ := QTm.back hB1 ht hFc hR (fun q h => absurd h List.not_mem_nil)
                              generalize H1 = H at hP hS ⊢
                              have hw : (r_498 = 0 ∨ r_498 = 1) := hw
                              have hw_500 := hw
                              have hFc := pg_free hD hS hA
                              refine va_calli (va_runV (As := [.ref sd, .ref ak, .int r_498]) (rest := []) ⟨hx, hb, hml, hown, hts⟩ (s_X15_isAligned l dC dI cs ty gm L H.size F_466 h0 ρ ta ou so ad na va lc dm tg pe ml bg co sp nb0 nb1 nb2 pl se ke wi hs mo po nu pr sq xa sa n64 m64 ex wh sd tk hd ak ho ot sx s0 s1 s2 nf bd mm zt sd (ρ + 25) r_80 3000 ak (ρ + 28) rak 6000 r_498 hW hL_h0 hT_h0 hi_79 ht_81 hL_ak hT_ak (by first | omega | assumption) (by first | omega | assumption)) ⟨callB_of 3 hts (gi kt_1066) rfl rfl rfl (hts _ kt_669) (hts _ kt_1067) (by decide +kernel) ⟨Nat.le_of_ble_eq_true rfl, Nat.le_of_ble_eq_true rfl⟩, (hts _ kt_1068), (hts _ kt_1069)⟩ ⟨fun a U g mk q => ⟨q.1, PTm.calling q.2⟩, pg_recv hK hP hL_h0 hF_488 (q := (RX15, TX15, 59)) rfl, fun U hU hWm => ⟨rfl, PTm.mk hU hWm hP hK hD hE hO⟩⟩ rfl rfl hl.1 rfl (lv_room (Nat.le_of_ble_eq_true rfl)) dX15_wish_290 ⟨by show _ + 0 ≤ 0; omega, by show _ + 0 ≤ 0; omega⟩) hS (fun q _ h => hFc q h) hFc (fun r_501 u t H1 locs ht hvm hw hB hz1 hk1 hS => ?_)
                              obtain ⟨F_502, hB1⟩ := hB
                              obtain ⟨hP, hD, hO, hR⟩ := QTm.back hB1 ht hFc hR (fun q h => by simp only [List.mem_cons, List.not_mem_nil, or_false] at h ⊢; omega)
                              have hF_503 : F_502 va = .inl (cs 23, 40, .inr (.inr (.inr (.inr f_200)))) := (hB1.2.2.2 va (by rw [ht_12]; simp)).trans hF_467
                              have hF_504 : F_502 b_203 = .inr (14, [.ref r_204, .int (nI z_211)]) := (hB1.2.2.2 b_203 (by rw [ht_207]; simp)).trans hF_468
                              have hF_505 : F_502 b_214 = .inr (14, [.ref r_215, .int (nI z_222)]) := (hB1.2.2.2 b_214 (by rw [ht_218]; simp)).trans hF_469
                              have hF_506 : F_502 h0 = .inr (15, (.ref ta) :: (.int (nI zt)) :: (.int (nI zo_472)) :: (.int (nI ze_473)) :: (.ref ou) :: (.ref so) :: (.ref ad) :: (.ref na) :: (.ref va) :: (.ref lc) :: (.ref dm) :: (.int v11_474) :: (.int v12_475) :: (.ref tg) :: (.int v14_476) :: (.int v15_477) :: (.ref pe) :: (.int v17_478) :: (.int v18_479) :: (.int v19_480) :: (.int v20_481) :: (.int v21_482) :: (.int v22_483) :: (.ref ml) :: (.ref bg) :: (.ref co) :: (.ref sp) :: (.ref nb0) :: (.ref nb1) :: (.ref nb2) :: (.int (nI nf)) :: (.int (nI bd)) :: (.int (nI mm)) :: (.int v33_484) :: (.ref pl) :: (.ref se) :: (.ref ke) :: (.ref wi) :: (.ref hs) :: (.ref mo) :: (.ref po) :: (.ref nu) :: (.ref pr) :: (.ref sq) :: (.ref xa) :: (.ref sa) :: (.ref n64) :: (.ref m64) :: (.ref ex) :: (.ref wh) :: (.ref sd) :: (.ref tk) :: (.int v52_485) :: (.int v53_486) :: (.int v54_487) :: (.ref hd) :: (.ref ak) :: (.ref ho) :: (.ref ot) :: []) := (hB1.2.2.2 h0 (by rw [hT_h0]; simp)).trans hF_488
                              have hF_507 : F_502 wi = .inr (13, [.ref x_44, .ref y0_45, .ref y1_46, .ref y2_47, .int (nI z_495)]) := (hB1.2.2.2 wi (by rw [ht_48]; simp)).trans hF_496
                              generalize H1 = H at hP hS ⊢
                              have hw : (r_501 = 0 ∨ r_501 = 1) := hw
                              have hw_508 := hw
                              refine lv_if_eq (tgt := 298) hx hb dX15_wish_293 (by decide) (fun c_509 => ?_) (fun c_509 => ?_)
                              ·
                                refine lv_iinc (v := (nI (j + 1))) (lv' := [(5, .int (nI (j + 1))), (4, .int s4), (0, .ref h0), (1, .int x1)]) hx hb dX15_wish_298 hl (k := 0) rfl (nI_1 _) (by decide) rfl (fun ls hl => ?_)
                                refine lv_goto (tgt := 233) hx hb dX15_wish_301 (by decide) ?_
                                refine W.widen (k := 0) (n := 0) (by omega) (by omega) ?_
                                exact ih_431 (j + 1) F_502 (by first | omega | exact ⟨by omega, by omega⟩ | trivial) (by show nf - (j + 1) < nf - j; omega) hO hR _ _ hP hD hS ls (lv_sub hl [0, 1, 2, 3] rfl)
                              ·
                                refine lv_iconst (v := 2) hx hb dX15_wish_296 (by decide) ?_
                                refine W.widen (k := 0) (n := 0) (by omega) (by omega) ?_
                                exact W.iret (v := 2) hx hb hr (fun t ht hWm => ⟨⟨2, (), rfl, trivial, ⟨F_502, QTm.mk ht hP hD hO hR⟩⟩, hS.F ht⟩) hS.2.2 dX15_wish_297
                            ·
                              refine lv_goto (tgt := 298) hx hb dX15_wish_265 (by decide) ?_
                              refine lv_iinc (v := (nI (j + 1))) (lv' := [(5, .int (nI (j + 1))), (4, .int s4), (0, .ref h0), (1, .int x1)]) hx hb dX15_wish_298 hl (k := 0) rfl (nI_1 _) (by decide) rfl (fun ls hl => ?_)
                              refine lv_goto (tgt := 233) hx hb dX15_wish_301 (by decide) ?_
                              refine W.widen (k := 0) (n := 0) (by omega) (by omega) ?_
                              exact ih_431 (j + 1) F_466 (by first | omega | exact ⟨by omega, by omega⟩ | trivial) (by show nf - (j + 1) < nf - j; omega) hO hR _ _ hP hD hS ls (lv_sub hl [0, 1, 2, 3] rfl)
                      ·
                        refine lv_iconst (v := 2) hx hb dX15_wish_228 (by decide) ?_
                        refine W.widen (k := 0) (n := 0) (by omega) (by omega) ?_
                        exact W.iret (v := 2) hx hb hr (fun t ht hWm => ⟨⟨2, (), rfl, trivial, ⟨F_418, QTm.mk ht hP hD hO hR⟩⟩, hS.F ht⟩) hS.2.2 dX15_wish_229
                  ·
                    refine lv_iload_n hx hb dX15_wish_153 rfl (lv_at hl 2 rfl) ?_
                    refine lv_if_ne (tgt := 192) hx hb dX15_wish_154 (by decide) (fun c_510 => ?_) (fun c_510 => ?_)
                    ·
                      refine W.widen (k := 0) (n := 0) (by omega) (by omega) ?_
                      exact jn_263 r_259 F_245 (trivial) hO hR _ _ hP hD hS ls (lv_sub hl [0, 3, 4] rfl)
                    ·
                      refine lv_aload_n hx hb dX15_wish_157 rfl (lv_at hl 3 rfl) ?_
                      refine pg_get (ci := 15) (v := .ref wi) (C := RX15) (T := TX15) (N := 59) hx hb hts it_15 hown hK hP hL_h0 hF_250 rfl 37 (by decide) (hts _ kt_1058) (fun _ h9 => h9) rfl dX15_wish_158 ?_
                      obtain ⟨q_511, v_512, hr_q_511, hX_q_511⟩ := hG.2.2 ("PostGateModel", 590, "sp", [115, 112]) (by decide +kernel)
                      have hX_q_511 : SXc q_511 v_512 2 (cct [115, 112]) A s s.heap := hX_q_511
                      obtain ⟨xo_q_511, xc_q_511, xv_q_511, xt_q_511, xn_q_511⟩ := id hX_q_511
                      have hr_q_511 : vk_R "PostGateModel" 590 "sp" q_511 s := hr_q_511
                      refine va_ldcwS hx hb hown hr_q_511 dX15_wish_161 ?_
                      have hFc := pg_free hD hS hA
                      refine va_calli (va_runV (As := [.ref q_511]) (rest := []) ⟨hx, hb, hml, hown, hts⟩ (s_X13_find l dC dI cs ty gm L H.size F_245 wi (ρ + 15) x_44 700 700 y0_45 y1_46 y2_47 r_124 z2_246 q_511 v_512 2 (cct [115, 112]) hW hi_43 ht_48 hi_120 ht_125 hq_247 (by first | omega | assumption)) ⟨callB_of 1 hts (gi kt_843) rfl rfl rfl (hts _ kt_844) (hts _ kt_854) (by decide +kernel) ⟨Nat.le_of_ble_eq_true rfl, Nat.le_of_ble_eq_true rfl⟩, (hts _ kt_846), (hts _ kt_847)⟩ ⟨fun a U g mk q => ⟨q.1, PTEm.calling q.2⟩, pg_recv hK hP hi_43 hq_247 (q := (RX13, TX13, 5)) rfl, fun U hU hWm => ⟨rfl, PTEm.mk hU hWm hP hK hD hE hO hG (fun x hx => by rw [List.mem_singleton] at hx; subst hx; exact hX_q_511) hS hFc⟩⟩ rfl rfl hl.1 rfl (lv_room (Nat.le_of_ble_eq_true rfl)) dX15_wish_164 ⟨by show _ + 0 ≤ 0; omega, by show _ + 0 ≤ 0; omega⟩) hS (fun q _ h => hFc q h) hFc (fun r_513 u t H1 locs ht hvm hw hB hz1 hk1 hS => ?_)
                      obtain ⟨F_514, hB1⟩ := hB
                      obtain rfl : F_245 = F_514 := (funext (fun a => hB1.2.2.2 a List.not_mem_nil)).symm
                      obtain ⟨hP, hD, hO, hR⟩ := QTm.back hB1 ht hFc hR (fun q h => absurd h List.not_mem_nil)
                      generalize H1 = H at hP hS ⊢
                      have hw : FND (gA (F_245 r_124)) (gA (F_245 y0_45)) (gA (F_245 y1_46)) z2_246 (cct [115, 112]) 2 r_513 := hw
                      have hw_515 := hw
                      refine lv_if_lt (tgt := 192) hx hb dX15_wish_167 (by decide) (fun c_516 => ?_) (fun c_516 => ?_)
                      ·
                        refine W.widen (k := 0) (n := 0) (by omega) (by omega) ?_
                        exact jn_263 r_259 F_245 (trivial) hO hR _ _ hP hD hS ls (lv_sub hl [0, 3, 4] rfl)
                      ·
                        refine lv_aload_n hx hb dX15_wish_170 rfl (lv_at hl 3 rfl) ?_
                        refine pg_get (ci := 15) (v := .ref wi) (C := RX15) (T := TX15) (N := 59) hx hb hts it_15 hown hK hP hL_h0 hF_250 rfl 37 (by decide) (hts _ kt_1058) (fun _ h9 => h9) rfl dX15_wish_171 ?_
                        refine va_ldcwS hx hb hown hr_q_511 dX15_wish_174 ?_
                        have hFc := pg_free hD hS hA
                        refine va_calli (va_runS (As := [.ref wi, .ref q_511]) (rest := []) ⟨hx, hb, hml, hown, hts⟩ (s_X15_wanted l dC dI cs ty gm L H.size F_245 wi (ρ + 15) x_44 700 700 y0_45 y1_46 y2_47 r_124 z2_246 q_511 v_512 2 (cct [115, 112]) hW hi_43 ht_48 hi_120 ht_125 hq_247 (by first | omega | assumption)) ⟨callB_of 2 hts (gi kt_1059) rfl rfl rfl (hts _ kt_669) (hts _ kt_1060) (by decide +kernel) ⟨Nat.le_of_ble_eq_true rfl, Nat.le_of_ble_eq_true rfl⟩, (hts _ kt_1061)⟩ ⟨fun a U g mk q => ⟨q.1, PTEm.calling q.2⟩, fun U hU hWm => ⟨rfl, PTEm.mk hU hWm hP hK hD hE hO hG (fun x hx => by rw [List.mem_singleton] at hx; subst hx; exact hX_q_511) hS hFc⟩⟩ rfl rfl hl.1 rfl (lv_room (Nat.le_of_ble_eq_true rfl)) dX15_wish_177 ⟨by show _ + 0 ≤ 0; omega, by show _ + 0 ≤ 0; omega⟩) hS (fun q _ h => hFc q h) hFc (fun r_517 u t H1 locs ht hvm hw hB hz1 hk1 hS => ?_)
                        obtain ⟨F_518, hB1⟩ := hB
                        obtain rfl : F_245 = F_518 := (funext (fun a => hB1.2.2.2 a List.not_mem_nil)).symm
                        obtain ⟨hP, hD, hO, hR⟩ := QTm.back hB1 ht hFc hR (fun q h => absurd h List.not_mem_nil)
                        generalize H1 = H at hP hS ⊢
                        have hw : True := hw
                        have hw_519 := hw
                        refine lv_istore (lv' := [(4, .int r_517), (3, .int (nI kv)), (2, .int sw2), (0, .ref h0), (1, .int x1)]) hx hb dX15_wish_180 hl (by decide) rfl (fun ls hl => ?_)
                        refine lv_iload hx hb dX15_wish_182 (lv_at hl 0 rfl) ?_
                        refine lv_bipush (v := 6) hx hb dX15_wish_184 (by decide) ?_
                        refine lv_icmp_ne (tgt := 192) hx hb dX15_wish_186 (by decide) (fun c_520 => ?_) (fun c_520 => ?_)
                        ·
                          refine W.widen (k := 0) (n := 0) (by omega) (by omega) ?_
                          exact jn_263 r_517 F_245 (trivial) hO hR _ _ hP hD hS ls (lv_sub hl [0, 3, 4] rfl)
                        ·
                          refine lv_bipush (v := 6) hx hb dX15_wish_189 (by decide) ?_
                          refine W.widen (k := 0) (n := 0) (by omega) (by omega) ?_
                          exact W.iret (v := 6) hx hb hr (fun t ht hWm => ⟨⟨6, (), rfl, trivial, ⟨F_245, QTm.mk ht hP hD hO hR⟩⟩, hS.F ht⟩) hS.2.2 dX15_wish_191
                ·
                  refine lv_bipush (v := 6) hx hb dX15_wish_150 (by decide) ?_
                  refine W.widen (k := 0) (n := 0) (by omega) (by omega) ?_
                  exact W.iret (v := 6) hx hb hr (fun t ht hWm => ⟨⟨6, (), rfl, trivial, ⟨F_245, QTm.mk ht hP hD hO hR⟩⟩, hS.F ht⟩) hS.2.2 dX15_wish_152
              ·
                refine lv_bipush (v := 6) hx hb dX15_wish_128 (by decide) ?_
                refine W.widen (k := 0) (n := 0) (by omega) (by omega) ?_
                exact W.iret (v := 6) hx hb hr (fun t ht hWm => ⟨⟨6, (), rfl, trivial, ⟨F_245, QTm.mk ht hP hD hO hR⟩⟩, hS.F ht⟩) hS.2.2 dX15_wish_130
            ·
              refine lv_iload_n hx hb dX15_wish_75 rfl (lv_at hl 0 rfl) ?_
              refine lv_bipush (v := (-2)) hx hb dX15_wish_76 (by decide) ?_
              refine lv_icmp_ne (tgt := 85) hx hb dX15_wish_78 (by decide) (fun c_521 => ?_) (fun c_521 => ?_)
              ·
                refine lv_iconst (v := 0) hx hb dX15_wish_85 (by decide) ?_
                refine W.widen (k := 0) (n := 0) (by omega) (by omega) ?_
                exact W.iret (v := 0) hx hb hr (fun t ht hWm => ⟨⟨0, (), rfl, trivial, ⟨F_176, QTm.mk ht hP hD hO hR⟩⟩, hS.F ht⟩) hS.2.2 dX15_wish_86
              ·
                refine lv_iconst (v := 5) hx hb dX15_wish_81 (by decide) ?_
                refine lv_goto (tgt := 86) hx hb dX15_wish_82 (by decide) ?_
                refine W.widen (k := 0) (n := 0) (by omega) (by omega) ?_
                exact W.iret (v := 5) hx hb hr (fun t ht hWm => ⟨⟨5, (), rfl, trivial, ⟨F_176, QTm.mk ht hP hD hO hR⟩⟩, hS.F ht⟩) hS.2.2 dX15_wish_86
          ·
            refine lv_iload_n hx hb dX15_wish_43 rfl (lv_at hl 0 rfl) ?_
            refine lv_iconst (v := (-1)) hx hb dX15_wish_44 (by decide) ?_
            refine lv_icmp_ne (tgt := 71) hx hb dX15_wish_45 (by decide) (fun c_522 => ?_) (fun c_522 => ?_)
            ·
              refine W.widen (k := 0) (n := 0) (by omega) (by omega) ?_
              exact jn_175 (r_170, 1) F_171 (⟨hw_174, hF_173⟩) hO hR _ _ hP hD hS ls (lv_sub hl [0, 1, 2, 3] rfl)
            ·
              refine lv_iconst (v := 0) hx hb dX15_wish_48 (by decide) ?_
              refine lv_istore_n (lv' := [(2, .int 0), (3, .int r_170), (0, .ref h0), (1, .int x1)]) hx hb dX15_wish_49 rfl hl (by decide) rfl (fun ls hl => ?_)
              refine lv_aload_n hx hb dX15_wish_50 rfl (lv_at hl 2 rfl) ?_
              refine lv_aload_n hx hb dX15_wish_51 rfl (lv_at hl 2 rfl) ?_
              refine pg_get (ci := 15) (v := .ref ak) (C := RX15) (T := TX15) (N := 59) hx hb hts it_15 hown hK hP hL_h0 hF_172 rfl 56 (by decide) (hts _ kt_1045) (fun _ h9 => h9) rfl dX15_wish_52 ?_
              refine lv_aload_n hx hb dX15_wish_55 rfl (lv_at hl 2 rfl) ?_
              refine pg_get (ci := 15) (v := .ref ho) (C := RX15) (T := TX15) (N := 59) hx hb hts it_15 hown hK hP hL_h0 hF_172 rfl 57 (by decide) (hts _ kt_1007) (fun _ h9 => h9) rfl dX15_wish_56 ?_
              have hFc := pg_free hD hS hA
              refine va_callv (va_runV (As := [.ref ak, .ref ho]) (rest := []) ⟨hx, hb, hml, hown, hts⟩ (s_X15_houseOf l dC dI cs ty gm L H.size F_171 h0 ρ ta ou so ad na va lc dm tg pe ml bg co sp nb0 nb1 nb2 pl se ke wi hs mo po nu pr sq xa sa n64 m64 ex wh sd tk hd ak ho ot sx s0 s1 s2 nf bd mm zt ak (ρ + 28) rak 6000 ho (ρ + 29) r_87 6000 za_164 hW hL_h0 hT_h0 hL_ak hT_ak hi_86 ht_88 hF_173 (by first | omega | assumption) (by first | omega | assumption)) ⟨callB_of 2 hts (gi kt_1008) rfl rfl rfl (hts _ kt_669) (hts _ kt_1009) (by decide +kernel) ⟨Nat.le_of_ble_eq_true rfl, Nat.le_of_ble_eq_true rfl⟩, (hts _ kt_1010), (hts _ kt_1011)⟩ ⟨fun a U g mk q => ⟨q.1, PTm.calling q.2⟩, pg_recv hK hP hL_h0 hF_172 (q := (RX15, TX15, 59)) rfl, fun U hU hWm => ⟨rfl, PTm.mk hU hWm hP hK hD hE hO⟩⟩ rfl rfl hl.1 rfl (lv_room (Nat.le_of_ble_eq_true rfl)) dX15_wish_59 ⟨by show _ + 0 ≤ 0; omega, by show _ + 0 ≤ 0; omega⟩) hS (fun q _ h => hFc q h) hFc (fun u t H1 locs ht hvm hw hB hz1 hk1 hS => ?_)
              obtain ⟨F_524, y2_525, hB1, hq_526, hq_527⟩ := hB
              obtain ⟨hP, hD, hO, hR⟩ := QTm.back hB1 ht hFc hR (fun q h => by simp only [List.mem_cons, List.not_mem_nil, or_false] at h ⊢; omega)
              have hF_528 : F_524 h0 = .inr (15, (.ref ta) :: (.int (nI zt)) :: (.int (nI zo_137)) :: (.int (nI ze_138)) :: (.ref ou) :: (.ref so) :: (.ref ad) :: (.ref na) :: (.ref va) :: (.ref lc) :: (.ref dm) :: (.int v11_139) :: (.int v12_140) :: (.ref tg) :: (.int v14_141) :: (.int v15_142) :: (.ref pe) :: (.int v17_143) :: (.int v18_144) :: (.int v19_145) :: (.int v20_146) :: (.int v21_147) :: (.int v22_148) :: (.ref ml) :: (.ref bg) :: (.ref co) :: (.ref sp) :: (.ref nb0) :: (.ref nb1) :: (.ref nb2) :: (.int (nI nf)) :: (.int (nI bd)) :: (.int (nI mm)) :: (.int v33_149) :: (.ref pl) :: (.ref se) :: (.ref ke) :: (.ref wi) :: (.ref hs) :: (.ref mo) :: (.ref po) :: (.ref nu) :: (.ref pr) :: (.ref sq) :: (.ref xa) :: (.ref sa) :: (.ref n64) :: (.ref m64) :: (.ref ex) :: (.ref wh) :: (.ref sd) :: (.ref tk) :: (.int v52_150) :: (.int v53_151) :: (.int v54_152) :: (.ref hd) :: (.ref ak) :: (.ref ho) :: (.ref ot) :: []) := (hB1.2.2.2 h0 (by rw [hT_h0]; simp)).trans hF_172
              have hF_529 : F_524 ak = .inr (14, [.ref rak, .int (nI za_164)]) := (hB1.2.2.2 ak (by rw [hT_ak]; simp)).trans hF_173
              generalize H1 = H at hP hS ⊢
              refine lv_aload_n hx hb dX15_wish_62 rfl (lv_at hl 2 rfl) ?_
              refine lv_aload_n hx hb dX15_wish_63 rfl (lv_at hl 2 rfl) ?_
              refine pg_get (ci := 15) (v := .ref ho) (C := RX15) (T := TX15) (N := 59) hx hb hts it_15 hown hK hP hL_h0 hF_528 rfl 57 (by decide) (hts _ kt_1007) (fun _ h9 => h9) rfl dX15_wish_64 ?_
              have hFc := pg_free hD hS hA
              refine va_calli (va_runV (As := [.ref ho]) (rest := []) ⟨hx, hb, hml, hown, hts⟩ (s_X15_wantedOf l dC dI cs ty gm L H.size F_524 h0 ρ ta ou so ad na va lc dm tg pe ml bg co sp nb0 nb1 nb2 pl se ke wi hs mo po nu pr sq xa sa n64 m64 ex wh sd tk hd ak ho ot sx s0 s1 s2 nf bd mm zt ho (ρ + 29) r_87 6000 y2_525 hW hL_h0 hT_h0 hi_86 ht_88 hq_526 (by first | omega | assumption) (by first | omega | assumption) (by first | omega | assumption)) ⟨callB_of 1 hts (gi kt_1054) rfl rfl rfl (hts _ kt_669) (hts _ kt_1055) (by decide +kernel) ⟨Nat.le_of_ble_eq_true rfl, Nat.le_of_ble_eq_true rfl⟩, (hts _ kt_1056), (hts _ kt_1057)⟩ ⟨fun a U g mk q => ⟨q.1, PTEm.calling q.2⟩, pg_recv hK hP hL_h0 hF_528 (q := (RX15, TX15, 59)) rfl, fun U hU hWm => ⟨rfl, PTEm.mk hU hWm hP hK hD hE hO hG (fun x hx => absurd hx List.not_mem_nil) hS hFc⟩⟩ rfl rfl hl.1 rfl (lv_room (Nat.le_of_ble_eq_true rfl)) dX15_wish_67 ⟨by show _ + 0 ≤ 0; omega, by show _ + 0 ≤ 0; omega⟩) hS (fun q _ h => hFc q h) hFc (fun r_530 u t H1 locs ht hvm hw hB hz1 hk1 hS => ?_)
              obtain ⟨F_531, hB1⟩ := hB
              obtain ⟨hP, hD, hO, hR⟩ := QTm.back hB1 ht hFc hR (fun q h => by simp only [List.mem_cons, List.not_mem_nil, or_false] at h ⊢; omega)
              have hF_532 : F_531 h0 = .inr (15, (.ref ta) :: (.int (nI zt)) :: (.int (nI zo_137)) :: (.int (nI ze_138)) :: (.ref ou) :: (.ref so) :: (.ref ad) :: (.ref na) :: (.ref va) :: (.ref lc) :: (.ref dm) :: (.int v11_139) :: (.int v12_140) :: (.ref tg) :: (.int v14_141) :: (.int v15_142) :: (.ref pe) :: (.int v17_143) :: (.int v18_144) :: (.int v19_145) :: (.int v20_146) :: (.int v21_147) :: (.int v22_148) :: (.ref ml) :: (.ref bg) :: (.ref co) :: (.ref sp) :: (.ref nb0) :: (.ref nb1) :: (.ref nb2) :: (.int (nI nf)) :: (.int (nI bd)) :: (.int (nI mm)) :: (.int v33_149) :: (.ref pl) :: (.ref se) :: (.ref ke) :: (.ref wi) :: (.ref hs) :: (.ref mo) :: (.ref po) :: (.ref nu) :: (.ref pr) :: (.ref sq) :: (.ref xa) :: (.ref sa) :: (.ref n64) :: (.ref m64) :: (.ref ex) :: (.ref wh) :: (.ref sd) :: (.ref tk) :: (.int v52_150) :: (.int v53_151) :: (.int v54_152) :: (.ref hd) :: (.ref ak) :: (.ref ho) :: (.ref ot) :: []) := (hB1.2.2.2 h0 (by rw [hT_h0]; simp)).trans hF_528
              have hF_533 : F_531 ak = .inr (14, [.ref rak, .int (nI za_164)]) := (hB1.2.2.2 ak (by rw [hT_ak]; simp)).trans hF_529
              have hF_534 : F_531 ho = .inr (14, [.ref r_87, .int (nI y2_525)]) := (hB1.2.2.2 ho (by rw [ht_88]; simp)).trans hq_526
              generalize H1 = H at hP hS ⊢
              have hw : (r_530 = (-1) ∨ r_530 = (-2) ∨ ∃ j : Nat, j < 40 ∧ r_530 = nI j) := hw
              have hw_535 := hw
              refine lv_istore_n (lv' := [(3, .int r_530), (2, .int 0), (0, .ref h0), (1, .int x1)]) hx hb dX15_wish_70 rfl hl (by decide) rfl (fun ls hl => ?_)
              refine W.widen (k := 0) (n := 0) (by omega) (by omega) ?_
              exact jn_175 (r_530, 0) F_531 (⟨hw_535, hF_533⟩) hO hR _ _ hP hD hS ls (lv_sub hl [0, 1, 2, 3] rfl)
        ·
          refine lv_iconst (v := 1) hx hb dX15_wish_30 (by decide) ?_
          refine W.widen (k := 0) (n := 0) (by omega) (by omega) ?_
          exact W.iret (v := 1) hx hb hr (fun t ht hWm => ⟨⟨1, (), rfl, trivial, ⟨F_163, QTm.mk ht hP hD hO hR⟩⟩, hS.F ht⟩) hS.2.2 dX15_wish_31
      ·
        refine lv_bipush (v := (-2)) hx hb dX15_wish_20 (by decide) ?_
        refine W.widen (k := 0) (n := 0) (by omega) (by omega) ?_
        exact W.iret (v := (-2)) hx hb hr (fun t ht hWm => ⟨⟨(-2), (), rfl, trivial, ⟨F, QTm.mk ht hP hD hO hR⟩⟩, hS.F ht⟩) hS.2.2 dX15_wish_22
    ·
      refine lv_iconst (v := (-1)) hx hb dX15_wish_11 (by decide) ?_
      refine W.widen (k := 0) (n := 0) (by omega) (by omega) ?_
      exact W.iret (v := (-1)) hx hb hr (fun t ht hWm => ⟨⟨(-1), (), rfl, trivial, ⟨F, QTm.mk ht hP hD hO hR⟩⟩, hS.F ht⟩) hS.2.2 dX15_wish_12
