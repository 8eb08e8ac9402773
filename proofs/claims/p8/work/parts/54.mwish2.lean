theorem dX15_isSeen_0 : decode cX15_isSeen 0 = .ok (.iconst (-1), 1) := by decide +kernel
theorem dX15_isSeen_1 : decode cX15_isSeen 1 = .ok (.istore_n 1, 1) := by decide +kernel
theorem dX15_isSeen_2 : decode cX15_isSeen 2 = .ok (.iconst 0, 1) := by decide +kernel
theorem dX15_isSeen_3 : decode cX15_isSeen 3 = .ok (.istore_n 2, 1) := by decide +kernel
theorem dX15_isSeen_4 : decode cX15_isSeen 4 = .ok (.iload_n 2, 1) := by decide +kernel
theorem dX15_isSeen_5 : decode cX15_isSeen 5 = .ok (.aload_n 0, 1) := by decide +kernel
theorem dX15_isSeen_6 : decode cX15_isSeen 6 = .ok (.getfield 355, 3) := by decide +kernel
theorem dX15_isSeen_9 : decode cX15_isSeen 9 = .ok (.if_icmp .ge 31, 3) := by decide +kernel
theorem dX15_isSeen_12 : decode cX15_isSeen 12 = .ok (.aload_n 0, 1) := by decide +kernel
theorem dX15_isSeen_13 : decode cX15_isSeen 13 = .ok (.iload_n 2, 1) := by decide +kernel
theorem dX15_isSeen_14 : decode cX15_isSeen 14 = .ok (.ldc_w 488, 3) := by decide +kernel
theorem dX15_isSeen_17 : decode cX15_isSeen 17 = .ok (.invokevirtual 378, 3) := by decide +kernel
theorem dX15_isSeen_20 : decode cX15_isSeen 20 = .ok (.ifCond .ne 6, 3) := by decide +kernel
theorem dX15_isSeen_23 : decode cX15_isSeen 23 = .ok (.goto 11, 3) := by decide +kernel
theorem dX15_isSeen_26 : decode cX15_isSeen 26 = .ok (.iload_n 1, 1) := by decide +kernel
theorem dX15_isSeen_27 : decode cX15_isSeen 27 = .ok (.ifCond .lt 5, 3) := by decide +kernel
theorem dX15_isSeen_30 : decode cX15_isSeen 30 = .ok (.iconst 0, 1) := by decide +kernel
theorem dX15_isSeen_31 : decode cX15_isSeen 31 = .ok (.ireturn, 1) := by decide +kernel
theorem dX15_isSeen_32 : decode cX15_isSeen 32 = .ok (.iload_n 2, 1) := by decide +kernel
theorem dX15_isSeen_33 : decode cX15_isSeen 33 = .ok (.istore_n 1, 1) := by decide +kernel
theorem dX15_isSeen_34 : decode cX15_isSeen 34 = .ok (.iinc 2 1, 3) := by decide +kernel
theorem dX15_isSeen_37 : decode cX15_isSeen 37 = .ok (.goto (-33), 3) := by decide +kernel
theorem dX15_isSeen_40 : decode cX15_isSeen 40 = .ok (.iload_n 1, 1) := by decide +kernel
theorem dX15_isSeen_41 : decode cX15_isSeen 41 = .ok (.ifCond .ge 5, 3) := by decide +kernel
theorem dX15_isSeen_44 : decode cX15_isSeen 44 = .ok (.iconst 0, 1) := by decide +kernel
theorem dX15_isSeen_45 : decode cX15_isSeen 45 = .ok (.ireturn, 1) := by decide +kernel
theorem dX15_isSeen_46 : decode cX15_isSeen 46 = .ok (.aload_n 0, 1) := by decide +kernel
theorem dX15_isSeen_47 : decode cX15_isSeen 47 = .ok (.getfield 79, 3) := by decide +kernel
theorem dX15_isSeen_50 : decode cX15_isSeen 50 = .ok (.iload_n 1, 1) := by decide +kernel
theorem dX15_isSeen_51 : decode cX15_isSeen 51 = .ok (.iaload, 1) := by decide +kernel
theorem dX15_isSeen_52 : decode cX15_isSeen 52 = .ok (.iconst 1, 1) := by decide +kernel
theorem dX15_isSeen_53 : decode cX15_isSeen 53 = .ok (.isub, 1) := by decide +kernel
theorem dX15_isSeen_54 : decode cX15_isSeen 54 = .ok (.istore_n 2, 1) := by decide +kernel
theorem dX15_isSeen_55 : decode cX15_isSeen 55 = .ok (.iload_n 2, 1) := by decide +kernel
theorem dX15_isSeen_56 : decode cX15_isSeen 56 = .ok (.aload_n 0, 1) := by decide +kernel
theorem dX15_isSeen_57 : decode cX15_isSeen 57 = .ok (.getfield 76, 3) := by decide +kernel
theorem dX15_isSeen_60 : decode cX15_isSeen 60 = .ok (.iload_n 1, 1) := by decide +kernel
theorem dX15_isSeen_61 : decode cX15_isSeen 61 = .ok (.iaload, 1) := by decide +kernel
theorem dX15_isSeen_62 : decode cX15_isSeen 62 = .ok (.if_icmp .le 20, 3) := by decide +kernel
theorem dX15_isSeen_65 : decode cX15_isSeen 65 = .ok (.aload_n 0, 1) := by decide +kernel
theorem dX15_isSeen_66 : decode cX15_isSeen 66 = .ok (.getfield 70, 3) := by decide +kernel
theorem dX15_isSeen_69 : decode cX15_isSeen 69 = .ok (.iload_n 2, 1) := by decide +kernel
theorem dX15_isSeen_70 : decode cX15_isSeen 70 = .ok (.baload, 1) := by decide +kernel
theorem dX15_isSeen_71 : decode cX15_isSeen 71 = .ok (.bipush 64, 2) := by decide +kernel
theorem dX15_isSeen_73 : decode cX15_isSeen 73 = .ok (.if_icmp .eq 9, 3) := by decide +kernel
theorem dX15_isSeen_76 : decode cX15_isSeen 76 = .ok (.iinc 2 (-1), 3) := by decide +kernel
theorem dX15_isSeen_79 : decode cX15_isSeen 79 = .ok (.goto (-24), 3) := by decide +kernel
theorem dX15_isSeen_82 : decode cX15_isSeen 82 = .ok (.iload_n 2, 1) := by decide +kernel
theorem dX15_isSeen_83 : decode cX15_isSeen 83 = .ok (.aload_n 0, 1) := by decide +kernel
theorem dX15_isSeen_84 : decode cX15_isSeen 84 = .ok (.getfield 76, 3) := by decide +kernel
theorem dX15_isSeen_87 : decode cX15_isSeen 87 = .ok (.iload_n 1, 1) := by decide +kernel
theorem dX15_isSeen_88 : decode cX15_isSeen 88 = .ok (.iaload, 1) := by decide +kernel
theorem dX15_isSeen_89 : decode cX15_isSeen 89 = .ok (.if_icmp .ne 5, 3) := by decide +kernel
theorem dX15_isSeen_92 : decode cX15_isSeen 92 = .ok (.iconst 0, 1) := by decide +kernel
theorem dX15_isSeen_93 : decode cX15_isSeen 93 = .ok (.ireturn, 1) := by decide +kernel
theorem dX15_isSeen_94 : decode cX15_isSeen 94 = .ok (.aload_n 0, 1) := by decide +kernel
theorem dX15_isSeen_95 : decode cX15_isSeen 95 = .ok (.getfield 157, 3) := by decide +kernel
theorem dX15_isSeen_98 : decode cX15_isSeen 98 = .ok (.iconst 0, 1) := by decide +kernel
theorem dX15_isSeen_99 : decode cX15_isSeen 99 = .ok (.putfield 190, 3) := by decide +kernel
theorem dX15_isSeen_102 : decode cX15_isSeen 102 = .ok (.iload_n 2, 1) := by decide +kernel
theorem dX15_isSeen_103 : decode cX15_isSeen 103 = .ok (.iconst 1, 1) := by decide +kernel
theorem dX15_isSeen_104 : decode cX15_isSeen 104 = .ok (.iadd, 1) := by decide +kernel
theorem dX15_isSeen_105 : decode cX15_isSeen 105 = .ok (.istore_n 3, 1) := by decide +kernel
theorem dX15_isSeen_106 : decode cX15_isSeen 106 = .ok (.iload_n 3, 1) := by decide +kernel
theorem dX15_isSeen_107 : decode cX15_isSeen 107 = .ok (.aload_n 0, 1) := by decide +kernel
theorem dX15_isSeen_108 : decode cX15_isSeen 108 = .ok (.getfield 79, 3) := by decide +kernel
theorem dX15_isSeen_111 : decode cX15_isSeen 111 = .ok (.iload_n 1, 1) := by decide +kernel
theorem dX15_isSeen_112 : decode cX15_isSeen 112 = .ok (.iaload, 1) := by decide +kernel
theorem dX15_isSeen_113 : decode cX15_isSeen 113 = .ok (.if_icmp .ge 59, 3) := by decide +kernel
theorem dX15_isSeen_116 : decode cX15_isSeen 116 = .ok (.aload_n 0, 1) := by decide +kernel
theorem dX15_isSeen_117 : decode cX15_isSeen 117 = .ok (.getfield 70, 3) := by decide +kernel
theorem dX15_isSeen_120 : decode cX15_isSeen 120 = .ok (.iload_n 3, 1) := by decide +kernel
theorem dX15_isSeen_121 : decode cX15_isSeen 121 = .ok (.baload, 1) := by decide +kernel
theorem dX15_isSeen_122 : decode cX15_isSeen 122 = .ok (.invokestatic 347, 3) := by decide +kernel
theorem dX15_isSeen_125 : decode cX15_isSeen 125 = .ok (.ifCond .ne 47, 3) := by decide +kernel
theorem dX15_isSeen_128 : decode cX15_isSeen 128 = .ok (.aload_n 0, 1) := by decide +kernel
theorem dX15_isSeen_129 : decode cX15_isSeen 129 = .ok (.getfield 70, 3) := by decide +kernel
theorem dX15_isSeen_132 : decode cX15_isSeen 132 = .ok (.iload_n 3, 1) := by decide +kernel
theorem dX15_isSeen_133 : decode cX15_isSeen 133 = .ok (.baload, 1) := by decide +kernel
theorem dX15_isSeen_134 : decode cX15_isSeen 134 = .ok (.bipush 62, 2) := by decide +kernel
theorem dX15_isSeen_136 : decode cX15_isSeen 136 = .ok (.if_icmp .eq 36, 3) := by decide +kernel
theorem dX15_isSeen_139 : decode cX15_isSeen 139 = .ok (.aload_n 0, 1) := by decide +kernel
theorem dX15_isSeen_140 : decode cX15_isSeen 140 = .ok (.getfield 70, 3) := by decide +kernel
theorem dX15_isSeen_143 : decode cX15_isSeen 143 = .ok (.iload_n 3, 1) := by decide +kernel
theorem dX15_isSeen_144 : decode cX15_isSeen 144 = .ok (.baload, 1) := by decide +kernel
theorem dX15_isSeen_145 : decode cX15_isSeen 145 = .ok (.bipush 10, 2) := by decide +kernel
theorem dX15_isSeen_147 : decode cX15_isSeen 147 = .ok (.if_icmp .eq 25, 3) := by decide +kernel
theorem dX15_isSeen_150 : decode cX15_isSeen 150 = .ok (.aload_n 0, 1) := by decide +kernel
theorem dX15_isSeen_151 : decode cX15_isSeen 151 = .ok (.getfield 157, 3) := by decide +kernel
theorem dX15_isSeen_154 : decode cX15_isSeen 154 = .ok (.aload_n 0, 1) := by decide +kernel
theorem dX15_isSeen_155 : decode cX15_isSeen 155 = .ok (.getfield 70, 3) := by decide +kernel
theorem dX15_isSeen_158 : decode cX15_isSeen 158 = .ok (.iload_n 3, 1) := by decide +kernel
theorem dX15_isSeen_159 : decode cX15_isSeen 159 = .ok (.baload, 1) := by decide +kernel
theorem dX15_isSeen_160 : decode cX15_isSeen 160 = .ok (.invokestatic 21, 3) := by decide +kernel
theorem dX15_isSeen_163 : decode cX15_isSeen 163 = .ok (.invokevirtual 292, 3) := by decide +kernel
theorem dX15_isSeen_166 : decode cX15_isSeen 166 = .ok (.iinc 3 1, 3) := by decide +kernel
theorem dX15_isSeen_169 : decode cX15_isSeen 169 = .ok (.goto (-63), 3) := by decide +kernel
theorem dX15_isSeen_172 : decode cX15_isSeen 172 = .ok (.aload_n 0, 1) := by decide +kernel
theorem dX15_isSeen_173 : decode cX15_isSeen 173 = .ok (.getfield 157, 3) := by decide +kernel
theorem dX15_isSeen_176 : decode cX15_isSeen 176 = .ok (.invokevirtual 579, 3) := by decide +kernel
theorem dX15_isSeen_179 : decode cX15_isSeen 179 = .ok (.ireturn, 1) := by decide +kernel
theorem dX15_sealOf_0 : decode cX15_sealOf 0 = .ok (.aload_n 0, 1) := by decide +kernel
theorem dX15_sealOf_1 : decode cX15_sealOf 1 = .ok (.getfield 70, 3) := by decide +kernel
theorem dX15_sealOf_4 : decode cX15_sealOf 4 = .ok (.aload_n 0, 1) := by decide +kernel
theorem dX15_sealOf_5 : decode cX15_sealOf 5 = .ok (.getfield 76, 3) := by decide +kernel
theorem dX15_sealOf_8 : decode cX15_sealOf 8 = .ok (.iload_n 1, 1) := by decide +kernel
theorem dX15_sealOf_9 : decode cX15_sealOf 9 = .ok (.iaload, 1) := by decide +kernel
theorem dX15_sealOf_10 : decode cX15_sealOf 10 = .ok (.iconst 1, 1) := by decide +kernel
theorem dX15_sealOf_11 : decode cX15_sealOf 11 = .ok (.iadd, 1) := by decide +kernel
theorem dX15_sealOf_12 : decode cX15_sealOf 12 = .ok (.aload_n 0, 1) := by decide +kernel
theorem dX15_sealOf_13 : decode cX15_sealOf 13 = .ok (.getfield 79, 3) := by decide +kernel
theorem dX15_sealOf_16 : decode cX15_sealOf 16 = .ok (.iload_n 1, 1) := by decide +kernel
theorem dX15_sealOf_17 : decode cX15_sealOf 17 = .ok (.iaload, 1) := by decide +kernel
theorem dX15_sealOf_18 : decode cX15_sealOf 18 = .ok (.aload_n 0, 1) := by decide +kernel
theorem dX15_sealOf_19 : decode cX15_sealOf 19 = .ok (.getfield 97, 3) := by decide +kernel
theorem dX15_sealOf_22 : decode cX15_sealOf 22 = .ok (.getfield 409, 3) := by decide +kernel
theorem dX15_sealOf_25 : decode cX15_sealOf 25 = .ok (.invokestatic 507, 3) := by decide +kernel
theorem dX15_sealOf_28 : decode cX15_sealOf 28 = .ok (.aload_n 0, 1) := by decide +kernel
theorem dX15_sealOf_29 : decode cX15_sealOf 29 = .ok (.invokevirtual 511, 3) := by decide +kernel
theorem dX15_sealOf_32 : decode cX15_sealOf 32 = .ok (.ifCond .ne 5, 3) := by decide +kernel
theorem dX15_sealOf_35 : decode cX15_sealOf 35 = .ok (.iconst 1, 1) := by decide +kernel
theorem dX15_sealOf_36 : decode cX15_sealOf 36 = .ok (.ireturn, 1) := by decide +kernel
theorem dX15_sealOf_37 : decode cX15_sealOf 37 = .ok (.aload_n 0, 1) := by decide +kernel
theorem dX15_sealOf_38 : decode cX15_sealOf 38 = .ok (.getfield 97, 3) := by decide +kernel
theorem dX15_sealOf_41 : decode cX15_sealOf 41 = .ok (.ldc_w 454, 3) := by decide +kernel
theorem dX15_sealOf_44 : decode cX15_sealOf 44 = .ok (.invokevirtual 399, 3) := by decide +kernel
theorem dX15_sealOf_47 : decode cX15_sealOf 47 = .ok (.istore_n 3, 1) := by decide +kernel
theorem dX15_sealOf_48 : decode cX15_sealOf 48 = .ok (.aload_n 0, 1) := by decide +kernel
theorem dX15_sealOf_49 : decode cX15_sealOf 49 = .ok (.getfield 97, 3) := by decide +kernel
theorem dX15_sealOf_52 : decode cX15_sealOf 52 = .ok (.ldc_w 460, 3) := by decide +kernel
theorem dX15_sealOf_55 : decode cX15_sealOf 55 = .ok (.invokevirtual 399, 3) := by decide +kernel
theorem dX15_sealOf_58 : decode cX15_sealOf 58 = .ok (.istore 4, 2) := by decide +kernel
theorem dX15_sealOf_60 : decode cX15_sealOf 60 = .ok (.aload_n 0, 1) := by decide +kernel
theorem dX15_sealOf_61 : decode cX15_sealOf 61 = .ok (.getfield 97, 3) := by decide +kernel
theorem dX15_sealOf_64 : decode cX15_sealOf 64 = .ok (.ldc_w 481, 3) := by decide +kernel
theorem dX15_sealOf_67 : decode cX15_sealOf 67 = .ok (.invokestatic 478, 3) := by decide +kernel
theorem dX15_sealOf_70 : decode cX15_sealOf 70 = .ok (.istore 5, 2) := by decide +kernel
theorem dX15_sealOf_72 : decode cX15_sealOf 72 = .ok (.aload_n 0, 1) := by decide +kernel
theorem dX15_sealOf_73 : decode cX15_sealOf 73 = .ok (.getfield 147, 3) := by decide +kernel
theorem dX15_sealOf_76 : decode cX15_sealOf 76 = .ok (.aload_n 0, 1) := by decide +kernel
theorem dX15_sealOf_77 : decode cX15_sealOf 77 = .ok (.getfield 97, 3) := by decide +kernel
theorem dX15_sealOf_80 : decode cX15_sealOf 80 = .ok (.getfield 409, 3) := by decide +kernel
theorem dX15_sealOf_83 : decode cX15_sealOf 83 = .ok (.getfield 295, 3) := by decide +kernel
theorem dX15_sealOf_86 : decode cX15_sealOf 86 = .ok (.aload_n 0, 1) := by decide +kernel
theorem dX15_sealOf_87 : decode cX15_sealOf 87 = .ok (.getfield 97, 3) := by decide +kernel
theorem dX15_sealOf_90 : decode cX15_sealOf 90 = .ok (.getfield 403, 3) := by decide +kernel
theorem dX15_sealOf_93 : decode cX15_sealOf 93 = .ok (.iload_n 3, 1) := by decide +kernel
theorem dX15_sealOf_94 : decode cX15_sealOf 94 = .ok (.iaload, 1) := by decide +kernel
theorem dX15_sealOf_95 : decode cX15_sealOf 95 = .ok (.iconst 1, 1) := by decide +kernel
theorem dX15_sealOf_96 : decode cX15_sealOf 96 = .ok (.iadd, 1) := by decide +kernel
theorem dX15_sealOf_97 : decode cX15_sealOf 97 = .ok (.aload_n 0, 1) := by decide +kernel
theorem dX15_sealOf_98 : decode cX15_sealOf 98 = .ok (.getfield 97, 3) := by decide +kernel
theorem dX15_sealOf_101 : decode cX15_sealOf 101 = .ok (.getfield 406, 3) := by decide +kernel
theorem dX15_sealOf_104 : decode cX15_sealOf 104 = .ok (.iload_n 3, 1) := by decide +kernel
theorem dX15_sealOf_105 : decode cX15_sealOf 105 = .ok (.iaload, 1) := by decide +kernel
theorem dX15_sealOf_106 : decode cX15_sealOf 106 = .ok (.invokevirtual 186, 3) := by decide +kernel
theorem dX15_sealOf_109 : decode cX15_sealOf 109 = .ok (.iload 5, 2) := by decide +kernel
theorem dX15_sealOf_111 : decode cX15_sealOf 111 = .ok (.ifCond .lt 11, 3) := by decide +kernel
theorem dX15_sealOf_114 : decode cX15_sealOf 114 = .ok (.iload_n 2, 1) := by decide +kernel
theorem dX15_sealOf_115 : decode cX15_sealOf 115 = .ok (.iload 5, 2) := by decide +kernel
theorem dX15_sealOf_117 : decode cX15_sealOf 117 = .ok (.if_icmp .le 5, 3) := by decide +kernel
theorem dX15_sealOf_120 : decode cX15_sealOf 120 = .ok (.iconst 3, 1) := by decide +kernel
theorem dX15_sealOf_121 : decode cX15_sealOf 121 = .ok (.ireturn, 1) := by decide +kernel
theorem dX15_sealOf_122 : decode cX15_sealOf 122 = .ok (.aload_n 0, 1) := by decide +kernel
theorem dX15_sealOf_123 : decode cX15_sealOf 123 = .ok (.getfield 144, 3) := by decide +kernel
theorem dX15_sealOf_126 : decode cX15_sealOf 126 = .ok (.aload_n 0, 1) := by decide +kernel
theorem dX15_sealOf_127 : decode cX15_sealOf 127 = .ok (.getfield 97, 3) := by decide +kernel
theorem dX15_sealOf_130 : decode cX15_sealOf 130 = .ok (.getfield 409, 3) := by decide +kernel
theorem dX15_sealOf_133 : decode cX15_sealOf 133 = .ok (.getfield 295, 3) := by decide +kernel
theorem dX15_sealOf_136 : decode cX15_sealOf 136 = .ok (.aload_n 0, 1) := by decide +kernel
theorem dX15_sealOf_137 : decode cX15_sealOf 137 = .ok (.getfield 97, 3) := by decide +kernel
theorem dX15_sealOf_140 : decode cX15_sealOf 140 = .ok (.getfield 403, 3) := by decide +kernel
theorem dX15_sealOf_143 : decode cX15_sealOf 143 = .ok (.iload 4, 2) := by decide +kernel
theorem dX15_sealOf_145 : decode cX15_sealOf 145 = .ok (.iaload, 1) := by decide +kernel
theorem dX15_sealOf_146 : decode cX15_sealOf 146 = .ok (.iconst 1, 1) := by decide +kernel
theorem dX15_sealOf_147 : decode cX15_sealOf 147 = .ok (.iadd, 1) := by decide +kernel
theorem dX15_sealOf_148 : decode cX15_sealOf 148 = .ok (.aload_n 0, 1) := by decide +kernel
theorem dX15_sealOf_149 : decode cX15_sealOf 149 = .ok (.getfield 97, 3) := by decide +kernel
theorem dX15_sealOf_152 : decode cX15_sealOf 152 = .ok (.getfield 406, 3) := by decide +kernel
theorem dX15_sealOf_155 : decode cX15_sealOf 155 = .ok (.iload 4, 2) := by decide +kernel
theorem dX15_sealOf_157 : decode cX15_sealOf 157 = .ok (.iaload, 1) := by decide +kernel
theorem dX15_sealOf_158 : decode cX15_sealOf 158 = .ok (.invokevirtual 186, 3) := by decide +kernel
theorem dX15_sealOf_161 : decode cX15_sealOf 161 = .ok (.iconst 0, 1) := by decide +kernel
theorem dX15_sealOf_162 : decode cX15_sealOf 162 = .ok (.istore 6, 2) := by decide +kernel
theorem dX15_sealOf_164 : decode cX15_sealOf 164 = .ok (.iload 6, 2) := by decide +kernel
theorem dX15_sealOf_166 : decode cX15_sealOf 166 = .ok (.bipush 12, 2) := by decide +kernel
theorem dX15_sealOf_168 : decode cX15_sealOf 168 = .ok (.if_icmp .ge 24, 3) := by decide +kernel
theorem dX15_sealOf_171 : decode cX15_sealOf 171 = .ok (.aload_n 0, 1) := by decide +kernel
theorem dX15_sealOf_172 : decode cX15_sealOf 172 = .ok (.getfield 144, 3) := by decide +kernel
theorem dX15_sealOf_175 : decode cX15_sealOf 175 = .ok (.ldc_w 514, 3) := by decide +kernel
theorem dX15_sealOf_178 : decode cX15_sealOf 178 = .ok (.iload 6, 2) := by decide +kernel
theorem dX15_sealOf_180 : decode cX15_sealOf 180 = .ok (.invokevirtual 13, 3) := by decide +kernel
theorem dX15_sealOf_183 : decode cX15_sealOf 183 = .ok (.invokevirtual 292, 3) := by decide +kernel
theorem dX15_sealOf_186 : decode cX15_sealOf 186 = .ok (.iinc 6 1, 3) := by decide +kernel
theorem dX15_sealOf_189 : decode cX15_sealOf 189 = .ok (.goto (-25), 3) := by decide +kernel
theorem dX15_sealOf_192 : decode cX15_sealOf 192 = .ok (.aload_n 0, 1) := by decide +kernel
theorem dX15_sealOf_193 : decode cX15_sealOf 193 = .ok (.getfield 144, 3) := by decide +kernel
theorem dX15_sealOf_196 : decode cX15_sealOf 196 = .ok (.aload_n 0, 1) := by decide +kernel
theorem dX15_sealOf_197 : decode cX15_sealOf 197 = .ok (.getfield 147, 3) := by decide +kernel
theorem dX15_sealOf_200 : decode cX15_sealOf 200 = .ok (.getfield 295, 3) := by decide +kernel
theorem dX15_sealOf_203 : decode cX15_sealOf 203 = .ok (.iconst 0, 1) := by decide +kernel
theorem dX15_sealOf_204 : decode cX15_sealOf 204 = .ok (.aload_n 0, 1) := by decide +kernel
theorem dX15_sealOf_205 : decode cX15_sealOf 205 = .ok (.getfield 147, 3) := by decide +kernel
theorem dX15_sealOf_208 : decode cX15_sealOf 208 = .ok (.getfield 190, 3) := by decide +kernel
theorem dX15_sealOf_211 : decode cX15_sealOf 211 = .ok (.invokevirtual 298, 3) := by decide +kernel
theorem dX15_sealOf_214 : decode cX15_sealOf 214 = .ok (.aload_n 0, 1) := by decide +kernel
theorem dX15_sealOf_215 : decode cX15_sealOf 215 = .ok (.invokevirtual 516, 3) := by decide +kernel
theorem dX15_sealOf_218 : decode cX15_sealOf 218 = .ok (.istore 6, 2) := by decide +kernel
theorem dX15_sealOf_220 : decode cX15_sealOf 220 = .ok (.iload 6, 2) := by decide +kernel
theorem dX15_sealOf_222 : decode cX15_sealOf 222 = .ok (.iconst 2, 1) := by decide +kernel
theorem dX15_sealOf_223 : decode cX15_sealOf 223 = .ok (.if_icmp .eq 6, 3) := by decide +kernel
theorem dX15_sealOf_226 : decode cX15_sealOf 226 = .ok (.iload 6, 2) := by decide +kernel
theorem dX15_sealOf_228 : decode cX15_sealOf 228 = .ok (.ireturn, 1) := by decide +kernel
theorem dX15_sealOf_229 : decode cX15_sealOf 229 = .ok (.aload_n 0, 1) := by decide +kernel
theorem dX15_sealOf_230 : decode cX15_sealOf 230 = .ok (.aload_n 0, 1) := by decide +kernel
theorem dX15_sealOf_231 : decode cX15_sealOf 231 = .ok (.getfield 494, 3) := by decide +kernel
theorem dX15_sealOf_234 : decode cX15_sealOf 234 = .ok (.invokevirtual 388, 3) := by decide +kernel
theorem dX15_sealOf_237 : decode cX15_sealOf 237 = .ok (.aload_n 0, 1) := by decide +kernel
theorem dX15_sealOf_238 : decode cX15_sealOf 238 = .ok (.getfield 97, 3) := by decide +kernel
theorem dX15_sealOf_241 : decode cX15_sealOf 241 = .ok (.ldc_w 476, 3) := by decide +kernel
theorem dX15_sealOf_244 : decode cX15_sealOf 244 = .ok (.invokestatic 478, 3) := by decide +kernel
theorem dX15_sealOf_247 : decode cX15_sealOf 247 = .ok (.istore 7, 2) := by decide +kernel
theorem dX15_sealOf_249 : decode cX15_sealOf 249 = .ok (.iload 7, 2) := by decide +kernel
theorem dX15_sealOf_251 : decode cX15_sealOf 251 = .ok (.aload_n 0, 1) := by decide +kernel
theorem dX15_sealOf_252 : decode cX15_sealOf 252 = .ok (.getfield 91, 3) := by decide +kernel
theorem dX15_sealOf_255 : decode cX15_sealOf 255 = .ok (.getfield 190, 3) := by decide +kernel
theorem dX15_sealOf_258 : decode cX15_sealOf 258 = .ok (.if_icmp .le 5, 3) := by decide +kernel
theorem dX15_sealOf_261 : decode cX15_sealOf 261 = .ok (.iconst 3, 1) := by decide +kernel
theorem dX15_sealOf_262 : decode cX15_sealOf 262 = .ok (.ireturn, 1) := by decide +kernel
theorem dX15_sealOf_263 : decode cX15_sealOf 263 = .ok (.aload_n 0, 1) := by decide +kernel
theorem dX15_sealOf_264 : decode cX15_sealOf 264 = .ok (.aload_n 0, 1) := by decide +kernel
theorem dX15_sealOf_265 : decode cX15_sealOf 265 = .ok (.getfield 91, 3) := by decide +kernel
theorem dX15_sealOf_268 : decode cX15_sealOf 268 = .ok (.getfield 295, 3) := by decide +kernel
theorem dX15_sealOf_271 : decode cX15_sealOf 271 = .ok (.iload 7, 2) := by decide +kernel
theorem dX15_sealOf_273 : decode cX15_sealOf 273 = .ok (.ifCond .lt 8, 3) := by decide +kernel
theorem dX15_sealOf_276 : decode cX15_sealOf 276 = .ok (.iload 7, 2) := by decide +kernel
theorem dX15_sealOf_278 : decode cX15_sealOf 278 = .ok (.goto 10, 3) := by decide +kernel
theorem dX15_sealOf_281 : decode cX15_sealOf 281 = .ok (.aload_n 0, 1) := by decide +kernel
theorem dX15_sealOf_282 : decode cX15_sealOf 282 = .ok (.getfield 91, 3) := by decide +kernel
theorem dX15_sealOf_285 : decode cX15_sealOf 285 = .ok (.getfield 190, 3) := by decide +kernel
theorem dX15_sealOf_288 : decode cX15_sealOf 288 = .ok (.aload_n 0, 1) := by decide +kernel
theorem dX15_sealOf_289 : decode cX15_sealOf 289 = .ok (.getfield 129, 3) := by decide +kernel
theorem dX15_sealOf_292 : decode cX15_sealOf 292 = .ok (.invokevirtual 519, 3) := by decide +kernel
theorem dX15_sealOf_295 : decode cX15_sealOf 295 = .ok (.aload_n 0, 1) := by decide +kernel
theorem dX15_sealOf_296 : decode cX15_sealOf 296 = .ok (.getfield 129, 3) := by decide +kernel
theorem dX15_sealOf_299 : decode cX15_sealOf 299 = .ok (.aload_n 0, 1) := by decide +kernel
theorem dX15_sealOf_300 : decode cX15_sealOf 300 = .ok (.getfield 132, 3) := by decide +kernel
theorem dX15_sealOf_303 : decode cX15_sealOf 303 = .ok (.invokestatic 523, 3) := by decide +kernel
theorem dX15_sealOf_306 : decode cX15_sealOf 306 = .ok (.ifCond .ne 5, 3) := by decide +kernel
theorem dX15_sealOf_309 : decode cX15_sealOf 309 = .ok (.iconst 3, 1) := by decide +kernel
theorem dX15_sealOf_310 : decode cX15_sealOf 310 = .ok (.ireturn, 1) := by decide +kernel
theorem dX15_sealOf_311 : decode cX15_sealOf 311 = .ok (.aload_n 0, 1) := by decide +kernel
theorem dX15_sealOf_312 : decode cX15_sealOf 312 = .ok (.iload_n 1, 1) := by decide +kernel
theorem dX15_sealOf_313 : decode cX15_sealOf 313 = .ok (.invokevirtual 527, 3) := by decide +kernel
theorem dX15_sealOf_316 : decode cX15_sealOf 316 = .ok (.aload_n 0, 1) := by decide +kernel
theorem dX15_sealOf_317 : decode cX15_sealOf 317 = .ok (.aload_n 0, 1) := by decide +kernel
theorem dX15_sealOf_318 : decode cX15_sealOf 318 = .ok (.getfield 91, 3) := by decide +kernel
theorem dX15_sealOf_321 : decode cX15_sealOf 321 = .ok (.getfield 295, 3) := by decide +kernel
theorem dX15_sealOf_324 : decode cX15_sealOf 324 = .ok (.aload_n 0, 1) := by decide +kernel
theorem dX15_sealOf_325 : decode cX15_sealOf 325 = .ok (.getfield 91, 3) := by decide +kernel
theorem dX15_sealOf_328 : decode cX15_sealOf 328 = .ok (.getfield 190, 3) := by decide +kernel
theorem dX15_sealOf_331 : decode cX15_sealOf 331 = .ok (.aload_n 0, 1) := by decide +kernel
theorem dX15_sealOf_332 : decode cX15_sealOf 332 = .ok (.getfield 129, 3) := by decide +kernel
theorem dX15_sealOf_335 : decode cX15_sealOf 335 = .ok (.invokevirtual 519, 3) := by decide +kernel
theorem dX15_sealOf_338 : decode cX15_sealOf 338 = .ok (.aload_n 0, 1) := by decide +kernel
theorem dX15_sealOf_339 : decode cX15_sealOf 339 = .ok (.invokevirtual 530, 3) := by decide +kernel
theorem dX15_sealOf_342 : decode cX15_sealOf 342 = .ok (.ifCond .eq 7, 3) := by decide +kernel
theorem dX15_sealOf_345 : decode cX15_sealOf 345 = .ok (.iconst 2, 1) := by decide +kernel
theorem dX15_sealOf_346 : decode cX15_sealOf 346 = .ok (.goto 4, 3) := by decide +kernel
theorem dX15_sealOf_349 : decode cX15_sealOf 349 = .ok (.iconst 3, 1) := by decide +kernel
theorem dX15_sealOf_350 : decode cX15_sealOf 350 = .ok (.ireturn, 1) := by decide +kernel
theorem dX15_sealed_0 : decode cX15_sealed 0 = .ok (.iload_n 2, 1) := by decide +kernel
theorem dX15_sealed_1 : decode cX15_sealed 1 = .ok (.ifCond .ge 5, 3) := by decide +kernel
theorem dX15_sealed_4 : decode cX15_sealed 4 = .ok (.iconst (-1), 1) := by decide +kernel
theorem dX15_sealed_5 : decode cX15_sealed 5 = .ok (.ireturn, 1) := by decide +kernel
theorem dX15_sealed_6 : decode cX15_sealed 6 = .ok (.aload_n 0, 1) := by decide +kernel
theorem dX15_sealed_7 : decode cX15_sealed 7 = .ok (.iload_n 1, 1) := by decide +kernel
theorem dX15_sealed_8 : decode cX15_sealed 8 = .ok (.invokevirtual 501, 3) := by decide +kernel
theorem dX15_sealed_11 : decode cX15_sealed 11 = .ok (.istore_n 3, 1) := by decide +kernel
theorem dX15_sealed_12 : decode cX15_sealed 12 = .ok (.iload_n 3, 1) := by decide +kernel
theorem dX15_sealed_13 : decode cX15_sealed 13 = .ok (.ifCond .ge 8, 3) := by decide +kernel
theorem dX15_sealed_16 : decode cX15_sealed 16 = .ok (.bipush (-2), 2) := by decide +kernel
theorem dX15_sealed_18 : decode cX15_sealed 18 = .ok (.goto 9, 3) := by decide +kernel
theorem dX15_sealed_21 : decode cX15_sealed 21 = .ok (.aload_n 0, 1) := by decide +kernel
theorem dX15_sealed_22 : decode cX15_sealed 22 = .ok (.iload_n 3, 1) := by decide +kernel
theorem dX15_sealed_23 : decode cX15_sealed 23 = .ok (.iload_n 2, 1) := by decide +kernel
theorem dX15_sealed_24 : decode cX15_sealed 24 = .ok (.invokevirtual 504, 3) := by decide +kernel
theorem dX15_sealed_27 : decode cX15_sealed 27 = .ok (.ireturn, 1) := by decide +kernel
theorem kt_967 : Cond.code yX15_isWell cX15_isWell 1 (some .boolean) ∈ tb := tb_at (i := 1705) (by decide +kernel) (by decide +kernel)
theorem kt_968 : Cond.methodLink RX15 511 yX15_isWell ∈ tb := tb_at (i := 1702) (by decide +kernel) (by decide +kernel)
theorem kt_969 : Cond.instanceMethod yX15_isWell ∈ tb := tb_at (i := 1704) (by decide +kernel) (by decide +kernel)
theorem kt_970 : Cond.selects RX15 yX15_isWell yX15_isWell ∈ tb := tb_at (i := 63) (by decide +kernel) (by decide +kernel)
theorem kt_971 : Cond.fieldLink RX15 147 "PostGateModel" "sealDomain" "LPostGateModel$Text;" ∈ tb := tb_at (i := 1339) (by decide +kernel) (by decide +kernel)
theorem kt_972 : Cond.code yX15_keyOf cX15_keyOf 3 (some .int) ∈ tb := tb_at (i := 1766) (by decide +kernel) (by decide +kernel)
theorem kt_973 : Cond.methodLink RX15 516 yX15_keyOf ∈ tb := tb_at (i := 1763) (by decide +kernel) (by decide +kernel)
theorem kt_974 : Cond.instanceMethod yX15_keyOf ∈ tb := tb_at (i := 1765) (by decide +kernel) (by decide +kernel)
theorem kt_975 : Cond.selects RX15 yX15_keyOf yX15_keyOf ∈ tb := tb_at (i := 68) (by decide +kernel) (by decide +kernel)
theorem kt_976 : Cond.code yX15_digest cX15_digest 4 none ∈ tb := tb_at (i := 1774) (by decide +kernel) (by decide +kernel)
theorem kt_977 : Cond.methodLink RX15 519 yX15_digest ∈ tb := tb_at (i := 1771) (by decide +kernel) (by decide +kernel)
theorem kt_978 : Cond.instanceMethod yX15_digest ∈ tb := tb_at (i := 1773) (by decide +kernel) (by decide +kernel)
theorem kt_979 : Cond.selects RX15 yX15_digest yX15_digest ∈ tb := tb_at (i := 69) (by decide +kernel) (by decide +kernel)
theorem kt_980 : Cond.code yX15_isAll cX15_isAll 4 (some .boolean) ∈ tb := tb_at (i := 1806) (by decide +kernel) (by decide +kernel)
theorem kt_981 : Cond.methodLink RX15 523 yX15_isAll ∈ tb := tb_at (i := 1804) (by decide +kernel) (by decide +kernel)
theorem kt_982 : Cond.static yX15_isAll ∈ tb := tb_at (i := 1805) (by decide +kernel) (by decide +kernel)
theorem kt_983 : Cond.code yX15_fieldsPlain cX15_fieldsPlain 11 none ∈ tb := tb_at (i := 1810) (by decide +kernel) (by decide +kernel)
theorem kt_984 : Cond.methodLink RX15 527 yX15_fieldsPlain ∈ tb := tb_at (i := 1807) (by decide +kernel) (by decide +kernel)
theorem kt_985 : Cond.instanceMethod yX15_fieldsPlain ∈ tb := tb_at (i := 1809) (by decide +kernel) (by decide +kernel)
theorem kt_986 : Cond.selects RX15 yX15_fieldsPlain yX15_fieldsPlain ∈ tb := tb_at (i := 71) (by decide +kernel) (by decide +kernel)
theorem kt_987 : Cond.code yX15_isPower cX15_isPower 3 (some .boolean) ∈ tb := tb_at (i := 1821) (by decide +kernel) (by decide +kernel)
theorem kt_988 : Cond.methodLink RX15 530 yX15_isPower ∈ tb := tb_at (i := 1818) (by decide +kernel) (by decide +kernel)
theorem kt_989 : Cond.instanceMethod yX15_isPower ∈ tb := tb_at (i := 1820) (by decide +kernel) (by decide +kernel)
theorem kt_990 : Cond.selects RX15 yX15_isPower yX15_isPower ∈ tb := tb_at (i := 73) (by decide +kernel) (by decide +kernel)
theorem kt_991 : Cond.code yX15_sealAt cX15_sealAt 4 (some .int) ∈ tb := tb_at (i := 1694) (by decide +kernel) (by decide +kernel)
theorem kt_992 : Cond.methodLink RX15 501 yX15_sealAt ∈ tb := tb_at (i := 1691) (by decide +kernel) (by decide +kernel)
theorem kt_993 : Cond.instanceMethod yX15_sealAt ∈ tb := tb_at (i := 1693) (by decide +kernel) (by decide +kernel)
theorem kt_994 : Cond.selects RX15 yX15_sealAt yX15_sealAt ∈ tb := tb_at (i := 61) (by decide +kernel) (by decide +kernel)
theorem kt_995 : Cond.code yX15_sealOf cX15_sealOf 8 (some .int) ∈ tb := tb_at (i := 1698) (by decide +kernel) (by decide +kernel)
theorem kt_996 : Cond.methodLink RX15 504 yX15_sealOf ∈ tb := tb_at (i := 1695) (by decide +kernel) (by decide +kernel)
theorem kt_997 : Cond.instanceMethod yX15_sealOf ∈ tb := tb_at (i := 1697) (by decide +kernel) (by decide +kernel)
theorem kt_998 : Cond.selects RX15 yX15_sealOf yX15_sealOf ∈ tb := tb_at (i := 62) (by decide +kernel) (by decide +kernel)
theorem kt_999 : Cond.fieldLink RX15 157 "PostGateModel" "asked" "LPostGateModel$Text;" ∈ tb := tb_at (i := 1345) (by decide +kernel) (by decide +kernel)
theorem kt_1000 : Cond.code yX14_isName cX14_isName 1 (some .boolean) ∈ tb := tb_at (i := 1872) (by decide +kernel) (by decide +kernel)
theorem kt_1001 : Cond.methodLink RX15 579 yX14_isName ∈ tb := tb_at (i := 1869) (by decide +kernel) (by decide +kernel)
theorem kt_1002 : Cond.instanceMethod yX14_isName ∈ tb := tb_at (i := 1870) (by decide +kernel) (by decide +kernel)
theorem kt_1003 : Cond.selects RX14 yX14_isName yX14_isName ∈ tb := tb_at (i := 1871) (by decide +kernel) (by decide +kernel)
set_option maxHeartbeats 4000000 in
set_option maxRecDepth 100000 in
theorem s_X15_sealOf (l : Launch) (dC : Nat → ClassId) (dI : Nat → Nat → Nat) (cs : Nat → ClassId) (ty : TyM) (gm : Nat → Nat → Nat) (L : List Nat) (sz : Nat) (F : Nat → va_E) (h0 : Nat) (ρ : Nat) (ta : Nat) (ou : Nat) (so : Nat) (ad : Nat) (na : Nat) (va : Nat) (lc : Nat) (dm : Nat) (tg : Nat) (pe : Nat) (ml : Nat) (bg : Nat) (co : Nat) (sp : Nat) (nb0 : Nat) (nb1 : Nat) (nb2 : Nat) (pl : Nat) (se : Nat) (ke : Nat) (wi : Nat) (hs : Nat) (mo : Nat) (po : Nat) (nu : Nat) (pr : Nat) (sq : Nat) (xa : Nat) (sa : Nat) (n64 : Nat) (m64 : Nat) (ex : Nat) (wh : Nat) (sd : Nat) (tk : Nat) (hd : Nat) (ak : Nat) (ho : Nat) (ot : Nat) (sx : Nat) (s0 : Nat) (s1 : Nat) (s2 : Nat) (nf : Nat) (bd : Nat) (mm : Nat) (fm : Nat) (sn : Nat) (hg : Nat) (gc : Nat) (gv : Nat) (ze : Nat) (zt : Nat) (sb : Nat) (rl : Nat) (jf : Nat) (x2 : Int32) (hW : WTm ty gm L) (hL_h0 : h0 ∈ L) (hT_h0 : ty h0 = (15, ρ, [ta, ou, so, ad, na, va, lc, dm, tg, pe, ml, bg, co, sp, nb0, nb1, nb2, pl, se, ke, wi, hs, mo, po, nu, pr, sq, xa, sa, n64, m64, ex, wh, sd, tk, hd, ak, ho, ot, sx, s0, s1, s2, nf, bd, mm, fm, sn, hg, gc, gv, ze, zt])) (hL_sx : sx ∈ L) (hT_sx : ty sx = (14, ρ + 12, [sb, 3000])) (hL_pl : pl ∈ L) (hT_pl : ty pl = (14, ρ + 10, [rl, 6000])) (hjf : jf < nf) : Met l yX15_sealOf (.code yX15_sealOf cX15_sealOf 8 (some .int) :: tb) ({ frames := 8, cells := 0, slots := 0, locals := 186 }) (va_Pc [.ref h0, .int (nI jf), .int x2] (PTEm (dC, dI) cs ty gm L F sz [])) (va_Qi (fun (r : Int32) (_ : Unit) => True) (fun _ T9 => ∃ F2 : Nat → va_E, QTm (dC, dI) cs ty gm L [ρ, ρ + 10, ρ + 11, ρ + 12, ρ + 13, ρ + 14, ρ + 17, ρ + 18, ρ + 19, ρ + 20, ρ + 21, ρ + 22, ρ + 23, ρ + 24, ρ + 25, ρ + 26, ρ + 81, ρ + 82, ρ + 83, ρ + 84] F F2 (va_A (va_pl L F) sz) T9) (va_A (va_pl L F) sz)) 0 0 (va_A (va_pl L F) sz) := by
  refine Met.ofW (cc := cX15_sealOf) (maxL := 8) (ret := (some .int)) (by decide) rfl ?_
  intro p e s m args below meth c s₁ B hml hv
  obtain ⟨rfl, ⟨hsz, hP, hK, hD0, hE, hO⟩, hG, hX⟩ := hv
  have hx := B.exec
  have hb := B.bytes
  have hr := B.returns
  have hts : ∀ w ∈ tb, w.before _ s = true := fun w h => atoms_spec (ws := .code yX15_sealOf cX15_sealOf 8 (some .int) :: tb) B.pre w (List.mem_cons_of_mem _ h)
  have hown : s.vm.findClass RX15 = some m.cls := findClass_of_methodNamed B.named
  have hlocks := B.notSynchronized
  subst hsz
  have hD := hD0.self (sz := s.heap.size)
  generalize hAe : va_A (va_pl L F) s.heap.size = A at hD hG hX ⊢
  have hA : ∀ q : Nat, s.heap.size ≤ q → A q := fun q h => by rw [← hAe]; exact Or.inr h
  have hS : va_S A s.heap s.heap [] := va_S.rf
  have hR : FR ty [ρ, ρ + 10, ρ + 11, ρ + 12, ρ + 13, ρ + 14, ρ + 17, ρ + 18, ρ + 19, ρ + 20, ρ + 21, ρ + 22, ρ + 23, ρ + 24, ρ + 25, ρ + 26, ρ + 81, ρ + 82, ρ + 83, ρ + 84] F F := FR.refl
  have hl := lv_entry ([.ref h0, .int (nI jf), .int x2]) (n := 8) (Nat.le_of_ble_eq_true rfl)
  rw [lg_entry_eq]
  generalize (lg_sl ([.ref h0, .int (nI jf), .int x2]) ++ List.replicate (8 - (lg_sl ([.ref h0, .int (nI jf), .int x2])).length) Slot.unset).toArray = ls at hl ⊢
  have hl : lv_has ls 8 [(0, .ref h0), (1, .int (nI jf)), (2, .int x2)] := hl
  obtain ⟨hq_22, hq_23, hq_24, hq_25, hq_26, hgO, hgA, hgB, hq_27⟩ := hW.sc hL_h0 hT_h0
  have hoj := hgO jf hjf
  obtain ⟨hi_28, ht_29⟩ := hW.f_se hL_h0 hT_h0
  obtain ⟨_, hi_30, hi_31, hi_32, _, ht_33, ht_34, ht_35, hq_36, hq_37⟩ := hW.tags hi_28 ht_29
  have ht_34 : ty s1 = (25, ρ + 81, [40, 1280]) := ht_34
  have ht_35 : ty s2 = (25, ρ + 82, [40, 1280]) := ht_35
  obtain ⟨hi_38, ht_39, hq_40⟩ := hW.txt hL_sx hT_sx
  obtain ⟨hi_41, ht_42, hq_43⟩ := hW.txt hL_pl hT_pl
  obtain ⟨hi_44, r_17, ht_45⟩ := hW.f_wh hL_h0 hT_h0
  obtain ⟨hi_46, ht_47, hq_48⟩ := hW.txt hi_44 ht_45
  obtain ⟨hi_49, r_18, ht_50⟩ := hW.f_sd hL_h0 hT_h0
  obtain ⟨hi_51, ht_52, hq_53⟩ := hW.txt hi_49 ht_50
  refine lv_aload_n hx hb dX15_sealOf_0 rfl (lv_at hl 0 rfl) ?_
  obtain ⟨zo_54, v14_55, v15_56, v17_57, v18_58, v19_59, v20_60, v21_61, v22_62, v33_63, v52_64, v53_65, v54_66, hF_67, hq_68, hq_69, hq_70, hq_71, hq_72⟩ := hO.mod hL_h0 hT_h0
  refine pg_get (ci := 15) (v := .ref ml) (C := RX15) (T := TX15) (N := 59) hx hb hts it_15 hown hK hP hL_h0 hF_67 rfl 23 (by decide) (hts _ kt_887) (fun _ h9 => h9) rfl dX15_sealOf_1 ?_
  refine lv_aload_n hx hb dX15_sealOf_4 rfl (lv_at hl 0 rfl) ?_
  refine pg_get (ci := 15) (v := .ref co) (C := RX15) (T := TX15) (N := 59) hx hb hts it_15 hown hK hP hL_h0 hF_67 rfl 25 (by decide) (hts _ kt_889) (fun _ h9 => h9) rfl dX15_sealOf_5 ?_
  refine lv_iload_n hx hb dX15_sealOf_8 rfl (lv_at hl 1 rfl) ?_
  obtain ⟨hi_73, ht_74⟩ := hW.f_co hL_h0 hT_h0
  obtain ⟨f_75, hF_76, hq_77⟩ := hO.pos hi_73 ht_74
  refine pg_iald hx hb hK hP hi_73 0 hF_76 rfl (vp_in_nI (by omega) (by omega)) dX15_sealOf_9 ?_
  refine lv_topi (fun x_78 ex_78 => ?_)
  obtain rfl : x_78 = (nI (gm 1 jf)) := ex_78.trans (by rw [show ((nI jf) : Int32) = nI jf from rfl, nI_clamp (by omega)]; exact hq_77 jf (by omega))
  have hgbx_78 := hgB 1 jf
  refine lv_iconst (v := 1) hx hb dX15_sealOf_10 (by decide) ?_
  refine lv_iadd hx hb dX15_sealOf_11 ?_
  refine lv_topi (fun x_79 ex_79 => ?_)
  obtain rfl : x_79 = (nI ((gm 1 jf) + 1)) := ex_79.trans (nI_add (gm 1 jf) 1)
  refine lv_aload_n hx hb dX15_sealOf_12 rfl (lv_at hl 0 rfl) ?_
  refine pg_get (ci := 15) (v := .ref sp) (C := RX15) (T := TX15) (N := 59) hx hb hts it_15 hown hK hP hL_h0 hF_67 rfl 26 (by decide) (hts _ kt_890) (fun _ h9 => h9) rfl dX15_sealOf_13 ?_
  refine lv_iload_n hx hb dX15_sealOf_16 rfl (lv_at hl 1 rfl) ?_
  obtain ⟨hi_80, ht_81⟩ := hW.f_sp hL_h0 hT_h0
  obtain ⟨f_82, hF_83, hq_84⟩ := hO.pos hi_80 ht_81
  refine pg_iald hx hb hK hP hi_80 0 hF_83 rfl (vp_in_nI (by omega) (by omega)) dX15_sealOf_17 ?_
  refine lv_topi (fun x_85 ex_85 => ?_)
  obtain rfl : x_85 = (nI (gm 2 jf)) := ex_85.trans (by rw [show ((nI jf) : Int32) = nI jf from rfl, nI_clamp (by omega)]; exact hq_84 jf (by omega))
  have hgbx_85 := hgB 2 jf
  refine lv_aload_n hx hb dX15_sealOf_18 rfl (lv_at hl 0 rfl) ?_
  refine pg_get (ci := 15) (v := .ref se) (C := RX15) (T := TX15) (N := 59) hx hb hts it_15 hown hK hP hL_h0 hF_67 rfl 35 (by decide) (hts _ kt_847) (fun _ h9 => h9) rfl dX15_sealOf_19 ?_
  obtain ⟨z_86, hF_87, hq_88⟩ := hO.tags hi_28 ht_29
  refine pg_get (ci := 13) (v := .ref sx) (C := RX13) (T := TX13) (N := 5) hx hb hts it_13 hown hK hP hi_28 hF_87 rfl 0 (by decide) (hts _ kt_842) (fun _ h9 => h9) rfl dX15_sealOf_22 ?_
  obtain ⟨hi_89, ht_90⟩ := hW.f_ml hL_h0 hT_h0
  obtain ⟨hq_91, hq_92⟩ := hW.octs hi_89 ht_90
  have hFc := pg_free hD hS hA
  refine va_callv (va_runS (As := [.ref ml, .int (nI ((gm 1 jf) + 1)), .int (nI (gm 2 jf)), .ref sx]) (rest := []) ⟨hx, hb, hml, hown, hts⟩ (s_X15_withoutWhite l dC dI cs ty gm L s.heap.size F ml (ρ + 8) 3000 sx (ρ + 12) sb 3000 ((gm 1 jf) + 1) (gm 2 jf) hW hi_89 ht_90 hL_sx hT_sx (by first | omega | assumption | exact Or.inl rfl) (by first | omega | assumption | exact Or.inl rfl) (by first | omega | assumption | exact Or.inl rfl)) ⟨callB_of 4 hts (gi kt_940) rfl rfl rfl (hts _ kt_669) (hts _ kt_941) (by decide +kernel) ⟨Nat.le_of_ble_eq_true rfl, Nat.le_of_ble_eq_true rfl⟩, (hts _ kt_942)⟩ ⟨fun a U g mk q => ⟨q.1, PTm.calling q.2⟩, fun U hU hWm => ⟨rfl, PTm.mk hU hWm hP hK hD hE hO⟩⟩ rfl rfl hl.1 rfl (lv_room (Nat.le_of_ble_eq_true rfl)) dX15_sealOf_25 ⟨by show _ + 0 ≤ 0; omega, by show _ + 0 ≤ 0; omega⟩) hS (fun q _ h => hFc q h) hFc (fun u t H1 locs ht hvm hw hB hz1 hk1 hS => ?_)
  obtain ⟨F_94, z2_95, hB1, hq_96, hq_97⟩ := hB
  obtain ⟨hP, hD, hO, hR⟩ := QTm.back hB1 ht hFc hR (fun q h => by simp only [List.mem_cons, List.not_mem_nil, or_false] at h ⊢; omega)
  have hF_98 : F_94 h0 = .inr (15, (.ref ta) :: (.int (nI zt)) :: (.int (nI zo_54)) :: (.int (nI ze)) :: (.ref ou) :: (.ref so) :: (.ref ad) :: (.ref na) :: (.ref va) :: (.ref lc) :: (.ref dm) :: (.int (nI fm)) :: (.int (nI sn)) :: (.ref tg) :: (.int v14_55) :: (.int v15_56) :: (.ref pe) :: (.int v17_57) :: (.int v18_58) :: (.int v19_59) :: (.int v20_60) :: (.int v21_61) :: (.int v22_62) :: (.ref ml) :: (.ref bg) :: (.ref co) :: (.ref sp) :: (.ref nb0) :: (.ref nb1) :: (.ref nb2) :: (.int (nI nf)) :: (.int (nI bd)) :: (.int (nI mm)) :: (.int v33_63) :: (.ref pl) :: (.ref se) :: (.ref ke) :: (.ref wi) :: (.ref hs) :: (.ref mo) :: (.ref po) :: (.ref nu) :: (.ref pr) :: (.ref sq) :: (.ref xa) :: (.ref sa) :: (.ref n64) :: (.ref m64) :: (.ref ex) :: (.ref wh) :: (.ref sd) :: (.ref tk) :: (.int v52_64) :: (.int v53_65) :: (.int v54_66) :: (.ref hd) :: (.ref ak) :: (.ref ho) :: (.ref ot) :: []) := (hB1.2.2.2 h0 (by rw [hT_h0]; simp)).trans hF_67
  have hF_99 : F_94 co = .inl (cs 16, 21, .inl f_75) := (hB1.2.2.2 co (by rw [ht_74]; simp)).trans hF_76
  have hF_100 : F_94 sp = .inl (cs 16, 21, .inl f_82) := (hB1.2.2.2 sp (by rw [ht_81]; simp)).trans hF_83
  have hF_101 : F_94 se = .inr (13, [.ref sx, .ref s0, .ref s1, .ref s2, .int (nI z_86)]) := (hB1.2.2.2 se (by rw [ht_29]; simp)).trans hF_87
  generalize H1 = H at hP hS ⊢
  refine lv_aload_n hx hb dX15_sealOf_28 rfl (lv_at hl 0 rfl) ?_
  have hFc := pg_free hD hS hA
  refine va_calli (va_runV (As := []) (rest := []) ⟨hx, hb, hml, hown, hts⟩ (s_X15_isWell l dC dI cs ty gm L H.size F_94 h0 ρ ta ou so ad na va lc dm tg pe ml bg co sp nb0 nb1 nb2 pl se ke wi hs mo po nu pr sq xa sa n64 m64 ex wh sd tk hd ak ho ot sx s0 s1 s2 nf bd mm fm sn hg gc gv ze zt sb z2_95 hW hL_h0 hT_h0 hL_sx hT_sx hq_96 (by omega)) ⟨callB_of 0 hts (gi kt_967) rfl rfl rfl (hts _ kt_669) (hts _ kt_968) (by decide +kernel) ⟨Nat.le_of_ble_eq_true rfl, Nat.le_of_ble_eq_true rfl⟩, (hts _ kt_969), (hts _ kt_970)⟩ ⟨fun a U g mk q => ⟨q.1, PTEm.calling q.2⟩, pg_recv hK hP hL_h0 hF_98 (q := (RX15, TX15, 59)) rfl, fun U hU hWm => ⟨rfl, PTEm.mk hU hWm hP hK hD hE hO hG (fun x hx => absurd hx List.not_mem_nil) hS hFc⟩⟩ rfl rfl hl.1 rfl (lv_room (Nat.le_of_ble_eq_true rfl)) dX15_sealOf_29 ⟨by show _ + 0 ≤ 0; omega, by show _ + 0 ≤ 0; omega⟩) hS (fun q _ h => hFc q h) hFc (fun r_103 wk_102 t H1 locs ht hvm hw hB hz1 hk1 hS => ?_)
  obtain ⟨F_104, eb_105, e0_106, e1_107, e2_108, zs_109, hB1, hq_110, hq_111, hq_112, hq_113, hq_114, hq_115, hq_116⟩ := hB
  obtain ⟨hP, hD, hO, hR⟩ := QTm.back hB1 ht hFc hR (fun q h => by simp only [List.mem_cons, List.not_mem_nil, or_false] at h ⊢; omega)
  have hF_117 : F_104 co = .inl (cs 16, 21, .inl f_75) := (hB1.2.2.2 co (by rw [ht_74]; simp)).trans hF_99
  have hF_118 : F_104 sp = .inl (cs 16, 21, .inl f_82) := (hB1.2.2.2 sp (by rw [ht_81]; simp)).trans hF_100
  have hF_119 : F_104 sx = .inr (14, [.ref sb, .int (nI z2_95)]) := (hB1.2.2.2 sx (by rw [hT_sx]; simp)).trans hq_96
  generalize H1 = H at hP hS ⊢
  have hw : (r_103 = 0 ∨ (r_103 = 1 ∧ wk_102 = 1)) := hw
  have hw_120 := hw
  obtain ⟨eb, e0, e1, e2, zs, hka, hkb, hkc, hkd, hke, hzs, hwl⟩ : ∃ (eb e0 e1 e2 : Nat → Int32) (zs : Nat), F_104 sb = .inl (cs 17, 3000, .inl eb) ∧ F_104 s0 = .inl (cs 16, 40, .inl e0) ∧ F_104 s1 = .inl (cs 16, 40, .inl e1) ∧ F_104 s2 = .inl (cs 16, 40, .inl e2) ∧ F_104 se = .inr (13, [.ref sx, .ref s0, .ref s1, .ref s2, .int (nI zs)]) ∧ zs ≤ 40 ∧ (wk_102 = 1 → WLP eb e0 e1 e2 zs) := ⟨_, _, _, _, _, hq_110, hq_111, hq_112, hq_113, hq_114, hq_115, hq_116⟩
  refine lv_if_ne (tgt := 37) hx hb dX15_sealOf_32 (by decide) (fun c_121 => ?_) (fun c_121 => ?_)
  ·
    obtain ⟨kd, ks, kh, hd1, hs1, hh1, hfd, htd, hfs, hfk, hfh⟩ := hwl (bit1 hw_120 c_121)
    refine lv_aload_n hx hb dX15_sealOf_37 rfl (lv_at hl 0 rfl) ?_
    obtain ⟨zo_122, v14_123, v15_124, v17_125, v18_126, v19_127, v20_128, v21_129, v22_130, v33_131, v52_132, v53_133, v54_134, hF_135, hq_136, hq_137, hq_138, hq_139, hq_140⟩ := hO.mod hL_h0 hT_h0
    refine pg_get (ci := 15) (v := .ref se) (C := RX15) (T := TX15) (N := 59) hx hb hts it_15 hown hK hP hL_h0 hF_135 rfl 35 (by decide) (hts _ kt_847) (fun _ h9 => h9) rfl dX15_sealOf_38 ?_
    obtain ⟨q_141, v_142, hr_q_141, hX_q_141⟩ := hG.2.2 ("PostGateModel", 454, "d", [100]) (by decide +kernel)
    have hX_q_141 : SXc q_141 v_142 1 (cct [100]) A s s.heap := hX_q_141
    obtain ⟨xo_q_141, xc_q_141, xv_q_141, xt_q_141, xn_q_141⟩ := id hX_q_141
    have hr_q_141 : vk_R "PostGateModel" 454 "d" q_141 s := hr_q_141
    refine va_ldcwS hx hb hown hr_q_141 dX15_sealOf_41 ?_
    have hFc := pg_free hD hS hA
    refine va_calli (va_runV (As := [.ref q_141]) (rest := []) ⟨hx, hb, hml, hown, hts⟩ (s_X13_find l dC dI cs ty gm L H.size F_104 se (ρ + 11) sx 3000 1280 s0 s1 s2 sb zs q_141 v_142 1 (cct [100]) hW hi_28 ht_29 hL_sx hT_sx hke (by first | omega | assumption | exact Or.inl rfl)) ⟨callB_of 1 hts (gi kt_828) rfl rfl rfl (hts _ kt_829) (hts _ kt_839) (by decide +kernel) ⟨Nat.le_of_ble_eq_true rfl, Nat.le_of_ble_eq_true rfl⟩, (hts _ kt_831), (hts _ kt_832)⟩ ⟨fun a U g mk q => ⟨q.1, PTEm.calling q.2⟩, pg_recv hK hP hi_28 hke (q := (RX13, TX13, 5)) rfl, fun U hU hWm => ⟨rfl, PTEm.mk hU hWm hP hK hD hE hO hG (fun x hx => by rw [List.mem_singleton] at hx; subst hx; exact hX_q_141) hS hFc⟩⟩ rfl rfl hl.1 rfl (lv_room (Nat.le_of_ble_eq_true rfl)) dX15_sealOf_44 ⟨by show _ + 0 ≤ 0; omega, by show _ + 0 ≤ 0; omega⟩) hS (fun q _ h => hFc q h) hFc (fun r_143 u t H1 locs ht hvm hw hB hz1 hk1 hS => ?_)
    obtain ⟨F_144, hB1⟩ := hB
    obtain rfl : F_104 = F_144 := (funext (fun a => hB1.2.2.2 a List.not_mem_nil)).symm
    obtain ⟨hP, hD, hO, hR⟩ := QTm.back hB1 ht hFc hR (fun q h => absurd h List.not_mem_nil)
    generalize H1 = H at hP hS ⊢
    have hw : FND (gA (F_104 sb)) (gA (F_104 s0)) (gA (F_104 s1)) zs (cct [100]) 1 r_143 := hw
    have hw_145 := hw
    have hfr_146 : FND eb e0 e1 zs (cct [100]) 1 r_143 := by have h9 := hw_145; rw [gA_fun hka, gA_fun hkb, gA_fun hkc] at h9; exact h9
    obtain rfl := FND.uniq hfr_146 hfd
    refine lv_istore_n (lv' := [(3, .int (nI kd)), (0, .ref h0), (1, .int (nI jf)), (2, .int x2)]) hx hb dX15_sealOf_47 rfl hl (by decide) rfl (fun ls hl => ?_)
    refine lv_aload_n hx hb dX15_sealOf_48 rfl (lv_at hl 1 rfl) ?_
    refine pg_get (ci := 15) (v := .ref se) (C := RX15) (T := TX15) (N := 59) hx hb hts it_15 hown hK hP hL_h0 hF_135 rfl 35 (by decide) (hts _ kt_847) (fun _ h9 => h9) rfl dX15_sealOf_49 ?_
    obtain ⟨q_147, v_148, hr_q_147, hX_q_147⟩ := hG.2.2 ("PostGateModel", 460, "s", [115]) (by decide +kernel)
    have hX_q_147 : SXc q_147 v_148 1 (cct [115]) A s s.heap := hX_q_147
    obtain ⟨xo_q_147, xc_q_147, xv_q_147, xt_q_147, xn_q_147⟩ := id hX_q_147
    have hr_q_147 : vk_R "PostGateModel" 460 "s" q_147 s := hr_q_147
    refine va_ldcwS hx hb hown hr_q_147 dX15_sealOf_52 ?_
    have hFc := pg_free hD hS hA
    refine va_calli (va_runV (As := [.ref q_147]) (rest := []) ⟨hx, hb, hml, hown, hts⟩ (s_X13_find l dC dI cs ty gm L H.size F_104 se (ρ + 11) sx 3000 1280 s0 s1 s2 sb zs q_147 v_148 1 (cct [115]) hW hi_28 ht_29 hL_sx hT_sx hke (by first | omega | assumption | exact Or.inl rfl)) ⟨callB_of 1 hts (gi kt_828) rfl rfl rfl (hts _ kt_829) (hts _ kt_839) (by decide +kernel) ⟨Nat.le_of_ble_eq_true rfl, Nat.le_of_ble_eq_true rfl⟩, (hts _ kt_831), (hts _ kt_832)⟩ ⟨fun a U g mk q => ⟨q.1, PTEm.calling q.2⟩, pg_recv hK hP hi_28 hke (q := (RX13, TX13, 5)) rfl, fun U hU hWm => ⟨rfl, PTEm.mk hU hWm hP hK hD hE hO hG (fun x hx => by rw [List.mem_singleton] at hx; subst hx; exact hX_q_147) hS hFc⟩⟩ rfl rfl hl.1 rfl (lv_room (Nat.le_of_ble_eq_true rfl)) dX15_sealOf_55 ⟨by show _ + 0 ≤ 0; omega, by show _ + 0 ≤ 0; omega⟩) hS (fun q _ h => hFc q h) hFc (fun r_149 u t H1 locs ht hvm hw hB hz1 hk1 hS => ?_)
    obtain ⟨F_150, hB1⟩ := hB
    obtain rfl : F_104 = F_150 := (funext (fun a => hB1.2.2.2 a List.not_mem_nil)).symm
    obtain ⟨hP, hD, hO, hR⟩ := QTm.back hB1 ht hFc hR (fun q h => absurd h List.not_mem_nil)
    generalize H1 = H at hP hS ⊢
    have hw : FND (gA (F_104 sb)) (gA (F_104 s0)) (gA (F_104 s1)) zs (cct [115]) 1 r_149 := hw
    have hw_151 := hw
    have hfr_152 : FND eb e0 e1 zs (cct [115]) 1 r_149 := by have h9 := hw_151; rw [gA_fun hka, gA_fun hkb, gA_fun hkc] at h9; exact h9
    obtain rfl := FND.uniq hfr_152 hfs
    refine lv_istore (lv' := [(4, .int (nI ks)), (3, .int (nI kd)), (0, .ref h0), (1, .int (nI jf)), (2, .int x2)]) hx hb dX15_sealOf_58 hl (by decide) rfl (fun ls hl => ?_)
    refine lv_aload_n hx hb dX15_sealOf_60 rfl (lv_at hl 2 rfl) ?_
    refine pg_get (ci := 15) (v := .ref se) (C := RX15) (T := TX15) (N := 59) hx hb hts it_15 hown hK hP hL_h0 hF_135 rfl 35 (by decide) (hts _ kt_847) (fun _ h9 => h9) rfl dX15_sealOf_61 ?_
    obtain ⟨q_153, v_154, hr_q_153, hX_q_153⟩ := hG.2.2 ("PostGateModel", 481, "x", [120]) (by decide +kernel)
    have hX_q_153 : SXc q_153 v_154 1 (cct [120]) A s s.heap := hX_q_153
    obtain ⟨xo_q_153, xc_q_153, xv_q_153, xt_q_153, xn_q_153⟩ := id hX_q_153
    have hr_q_153 : vk_R "PostGateModel" 481 "x" q_153 s := hr_q_153
    refine va_ldcwS hx hb hown hr_q_153 dX15_sealOf_64 ?_
    have hFc := pg_free hD hS hA
    refine va_calli (va_runS (As := [.ref se, .ref q_153]) (rest := []) ⟨hx, hb, hml, hown, hts⟩ (s_X15_number l dC dI cs ty gm L H.size F_104 se (ρ + 11) sx 3000 1280 s0 s1 s2 sb zs q_153 v_154 1 (cct [120]) hW hi_28 ht_29 hL_sx hT_sx hke (by first | omega | assumption | exact Or.inl rfl)) ⟨callB_of 2 hts (gi kt_884) rfl rfl rfl (hts _ kt_669) (hts _ kt_885) (by decide +kernel) ⟨Nat.le_of_ble_eq_true rfl, Nat.le_of_ble_eq_true rfl⟩, (hts _ kt_886)⟩ ⟨fun a U g mk q => ⟨q.1, PTEm.calling q.2⟩, fun U hU hWm => ⟨rfl, PTEm.mk hU hWm hP hK hD hE hO hG (fun x hx => by rw [List.mem_singleton] at hx; subst hx; exact hX_q_153) hS hFc⟩⟩ rfl rfl hl.1 rfl (lv_room (Nat.le_of_ble_eq_true rfl)) dX15_sealOf_67 ⟨by show _ + 0 ≤ 0; omega, by show _ + 0 ≤ 0; omega⟩) hS (fun q _ h => hFc q h) hFc (fun r_155 u t H1 locs ht hvm hw hB hz1 hk1 hS => ?_)
    obtain ⟨F_156, hB1⟩ := hB
    obtain rfl : F_104 = F_156 := (funext (fun a => hB1.2.2.2 a List.not_mem_nil)).symm
    obtain ⟨hP, hD, hO, hR⟩ := QTm.back hB1 ht hFc hR (fun q h => absurd h List.not_mem_nil)
    generalize H1 = H at hP hS ⊢
    have hw : True := hw
    have hw_157 := hw
    refine lv_istore (lv' := [(5, .int r_155), (4, .int (nI ks)), (3, .int (nI kd)), (0, .ref h0), (1, .int (nI jf)), (2, .int x2)]) hx hb dX15_sealOf_70 hl (by decide) rfl (fun ls hl => ?_)
    refine lv_aload_n hx hb dX15_sealOf_72 rfl (lv_at hl 3 rfl) ?_
    refine pg_get (ci := 15) (v := .ref sd) (C := RX15) (T := TX15) (N := 59) hx hb hts it_15 hown hK hP hL_h0 hF_135 rfl 50 (by decide) (hts _ kt_971) (fun _ h9 => h9) rfl dX15_sealOf_73 ?_
    refine lv_aload_n hx hb dX15_sealOf_76 rfl (lv_at hl 3 rfl) ?_
    refine pg_get (ci := 15) (v := .ref se) (C := RX15) (T := TX15) (N := 59) hx hb hts it_15 hown hK hP hL_h0 hF_135 rfl 35 (by decide) (hts _ kt_847) (fun _ h9 => h9) rfl dX15_sealOf_77 ?_
    refine pg_get (ci := 13) (v := .ref sx) (C := RX13) (T := TX13) (N := 5) hx hb hts it_13 hown hK hP hi_28 hke rfl 0 (by decide) (hts _ kt_842) (fun _ h9 => h9) rfl dX15_sealOf_80 ?_
    refine pg_get (ci := 14) (v := .ref sb) (C := RX14) (T := TX14) (N := 2) hx hb hts it_14 hown hK hP hL_sx hF_119 rfl 0 (by decide) (hts _ kt_710) (fun _ h9 => h9) rfl dX15_sealOf_83 ?_
    refine lv_aload_n hx hb dX15_sealOf_86 rfl (lv_at hl 3 rfl) ?_
    refine pg_get (ci := 15) (v := .ref se) (C := RX15) (T := TX15) (N := 59) hx hb hts it_15 hown hK hP hL_h0 hF_135 rfl 35 (by decide) (hts _ kt_847) (fun _ h9 => h9) rfl dX15_sealOf_87 ?_
    refine pg_get (ci := 13) (v := .ref s1) (C := RX13) (T := TX13) (N := 5) hx hb hts it_13 hown hK hP hi_28 hke rfl 2 (by decide) (hts _ kt_840) (fun _ h9 => h9) rfl dX15_sealOf_90 ?_
    refine lv_iload_n hx hb dX15_sealOf_93 rfl (lv_at hl 2 rfl) ?_
    refine pg_iald hx hb hK hP hi_31 0 hkc rfl (vp_in_nI (by omega) (by omega)) dX15_sealOf_94 ?_
    have hq_158 := ixb_of hkc (hO.idb hi_31 ht_34)
    obtain ⟨k_159, hk_160, ek_161⟩ := hq_158 ((nI kd) : Int32).toNatClampNeg
    refine lv_topi (fun x_162 ex_162 => ?_)
    obtain rfl : x_162 = nI k_159 := ex_162.trans ek_161
    refine lv_iconst (v := 1) hx hb dX15_sealOf_95 (by decide) ?_
    refine lv_iadd hx hb dX15_sealOf_96 ?_
    refine lv_topi (fun x_163 ex_163 => ?_)
    obtain rfl : x_163 = (nI (k_159 + 1)) := ex_163.trans (nI_add k_159 1)
    refine lv_aload_n hx hb dX15_sealOf_97 rfl (lv_at hl 3 rfl) ?_
    refine pg_get (ci := 15) (v := .ref se) (C := RX15) (T := TX15) (N := 59) hx hb hts it_15 hown hK hP hL_h0 hF_135 rfl 35 (by decide) (hts _ kt_847) (fun _ h9 => h9) rfl dX15_sealOf_98 ?_
    refine pg_get (ci := 13) (v := .ref s2) (C := RX13) (T := TX13) (N := 5) hx hb hts it_13 hown hK hP hi_28 hke rfl 3 (by decide) (hts _ kt_841) (fun _ h9 => h9) rfl dX15_sealOf_101 ?_
    refine lv_iload_n hx hb dX15_sealOf_104 rfl (lv_at hl 2 rfl) ?_
    refine pg_iald hx hb hK hP hi_32 0 hkd rfl (vp_in_nI (by omega) (by omega)) dX15_sealOf_105 ?_
    have hq_164 := ixb_of hkd (hO.idb hi_32 ht_35)
    obtain ⟨k_165, hk_166, ek_167⟩ := hq_164 ((nI kd) : Int32).toNatClampNeg
    refine lv_topi (fun x_168 ex_168 => ?_)
    obtain rfl : x_168 = nI k_165 := ex_168.trans ek_167
    have htgd := (TGN.eq (ekc ek_161 (by omega)) (ekc ek_167 (by omega)) (by omega) (by omega)).mp htd
    obtain ⟨hq_169, hq_170⟩ := hW.octs hi_38 ht_39
    have hFc := pg_free hD hS hA
    obtain ⟨z_171, hF_172, hq_173⟩ := hO.txt hi_49 ht_50
    refine va_callv (va_runV (As := [.ref sb, .int (nI (k_159 + 1)), .int (nI k_165)]) (rest := []) ⟨hx, hb, hml, hown, hts⟩ (s_X14_set l dC dI cs ty gm L H.size F_104 sd (ρ + 25) r_18 3000 sb (ρ + 12) 3000 (k_159 + 1) k_165 hW hi_49 ht_50 hi_38 ht_39 (by first | omega | assumption | exact Or.inl rfl) (by first | omega | assumption | exact Or.inl rfl) (by first | omega | assumption | exact Or.inl rfl)) ⟨callB_of 3 hts (gi kt_951) rfl rfl rfl (hts _ kt_676) (hts _ kt_952) (by decide +kernel) ⟨Nat.le_of_ble_eq_true rfl, Nat.le_of_ble_eq_true rfl⟩, (hts _ kt_953), (hts _ kt_954)⟩ ⟨fun a U g mk q => ⟨q.1, PTm.calling q.2⟩, pg_recv hK hP hi_49 hF_172 (q := (RX14, TX14, 2)) rfl, fun U hU hWm => ⟨rfl, PTm.mk hU hWm hP hK hD hE hO⟩⟩ rfl rfl hl.1 rfl (lv_room (Nat.le_of_ble_eq_true rfl)) dX15_sealOf_106 ⟨by show _ + 0 ≤ 0; omega, by show _ + 0 ≤ 0; omega⟩) hS (fun q _ h => hFc q h) hFc (fun u t H1 locs ht hvm hw hB hz1 hk1 hS => ?_)
    obtain ⟨F_175, hB1, hq_176⟩ := hB
    obtain ⟨hP, hD, hO, hR⟩ := QTm.back hB1 ht hFc hR (fun q h => by simp only [List.mem_cons, List.not_mem_nil, or_false] at h ⊢; omega)
    have hF_177 : F_175 co = .inl (cs 16, 21, .inl f_75) := (hB1.2.2.2 co (by rw [ht_74]; simp)).trans hF_117
    have hF_178 : F_175 sp = .inl (cs 16, 21, .inl f_82) := (hB1.2.2.2 sp (by rw [ht_81]; simp)).trans hF_118
    have hF_179 : F_175 sx = .inr (14, [.ref sb, .int (nI z2_95)]) := (hB1.2.2.2 sx (by rw [hT_sx]; simp)).trans hF_119
    have hF_180 : F_175 sb = .inl (cs 17, 3000, .inl eb) := (hB1.2.2.2 sb (by rw [ht_39]; simp)).trans hka
    have hF_181 : F_175 s0 = .inl (cs 16, 40, .inl e0) := (hB1.2.2.2 s0 (by rw [ht_33]; simp)).trans hkb
    have hF_182 : F_175 s1 = .inl (cs 16, 40, .inl e1) := (hB1.2.2.2 s1 (by rw [ht_34]; simp)).trans hkc
    have hF_183 : F_175 s2 = .inl (cs 16, 40, .inl e2) := (hB1.2.2.2 s2 (by rw [ht_35]; simp)).trans hkd
    have hF_184 : F_175 se = .inr (13, [.ref sx, .ref s0, .ref s1, .ref s2, .int (nI zs)]) := (hB1.2.2.2 se (by rw [ht_29]; simp)).trans hke
    have hF_185 : F_175 h0 = .inr (15, (.ref ta) :: (.int (nI zt)) :: (.int (nI zo_122)) :: (.int (nI ze)) :: (.ref ou) :: (.ref so) :: (.ref ad) :: (.ref na) :: (.ref va) :: (.ref lc) :: (.ref dm) :: (.int (nI fm)) :: (.int (nI sn)) :: (.ref tg) :: (.int v14_123) :: (.int v15_124) :: (.ref pe) :: (.int v17_125) :: (.int v18_126) :: (.int v19_127) :: (.int v20_128) :: (.int v21_129) :: (.int v22_130) :: (.ref ml) :: (.ref bg) :: (.ref co) :: (.ref sp) :: (.ref nb0) :: (.ref nb1) :: (.ref nb2) :: (.int (nI nf)) :: (.int (nI bd)) :: (.int (nI mm)) :: (.int v33_131) :: (.ref pl) :: (.ref se) :: (.ref ke) :: (.ref wi) :: (.ref hs) :: (.ref mo) :: (.ref po) :: (.ref nu) :: (.ref pr) :: (.ref sq) :: (.ref xa) :: (.ref sa) :: (.ref n64) :: (.ref m64) :: (.ref ex) :: (.ref wh) :: (.ref sd) :: (.ref tk) :: (.int v52_132) :: (.int v53_133) :: (.int v54_134) :: (.ref hd) :: (.ref ak) :: (.ref ho) :: (.ref ot) :: []) := (hB1.2.2.2 h0 (by rw [hT_h0]; simp)).trans hF_135
    generalize H1 = H at hP hS ⊢
    have hF_188 : F co = .inl (cs 16, 21, .inl f_75) := (hR co (by rw [ht_74]; simp)).symm.trans hF_177
    have hF_189 : F sp = .inl (cs 16, 21, .inl f_82) := (hR sp (by rw [ht_81]; simp)).symm.trans hF_178
    refine W.widen (k := 0) (n := 0) (by omega) (by omega) ?_
    refine pl_cutm (σ := Unit) A (dC, dI) cs ty gm L [ρ, ρ + 10, ρ + 11, ρ + 12, ρ + 13, ρ + 14, ρ + 17, ρ + 18, ρ + 19, ρ + 20, ρ + 21, ρ + 22, ρ + 23, ρ + 24, ρ + 25, ρ + 26, ρ + 81, ρ + 82, ρ + 83, ρ + 84] F 122 8 (fun u0 => [(4, .int (nI ks)), (0, .ref h0), (1, .int (nI jf)), (2, .int x2)]) (fun u0 => []) (fun u0 FF => FF sb = .inl (cs 17, 3000, .inl eb) ∧ FF s0 = .inl (cs 16, 40, .inl e0) ∧ FF s1 = .inl (cs 16, 40, .inl e1) ∧ FF s2 = .inl (cs 16, 40, .inl e2) ∧ FF se = .inr (13, [.ref sx, .ref s0, .ref s1, .ref s2, .int (nI zs)]) ∧ FF sd = .inr (14, [.ref r_18, .int (nI (k_165 - (k_159 + 1)))])) ?_ (fun jn_186 => ?_)
    ·
      rintro u0 F_187 hv_190 hO hR H locs hP hD hS ls hl
      have hl : lv_has ls 8 [(4, .int (nI ks)), (0, .ref h0), (1, .int (nI jf)), (2, .int x2)] := hl
      have hv_190 : F_187 sb = .inl (cs 17, 3000, .inl eb) ∧ F_187 s0 = .inl (cs 16, 40, .inl e0) ∧ F_187 s1 = .inl (cs 16, 40, .inl e1) ∧ F_187 s2 = .inl (cs 16, 40, .inl e2) ∧ F_187 se = .inr (13, [.ref sx, .ref s0, .ref s1, .ref s2, .int (nI zs)]) ∧ F_187 sd = .inr (14, [.ref r_18, .int (nI (k_165 - (k_159 + 1)))]) := hv_190
      refine W.eq (g2 := F0 m 122 ls []) rfl ?_
      have hF_191 : F_187 co = .inl (cs 16, 21, .inl f_75) := (hR co (by rw [ht_74]; simp)).trans hF_188
      have hF_192 : F_187 sp = .inl (cs 16, 21, .inl f_82) := (hR sp (by rw [ht_81]; simp)).trans hF_189
      obtain ⟨hma, hmb, hmc, hmd, hme, hsd1⟩ := hv_190
      refine lv_aload_n hx hb dX15_sealOf_122 rfl (lv_at hl 1 rfl) ?_
      obtain ⟨zo_193, v14_194, v15_195, v17_196, v18_197, v19_198, v20_199, v21_200, v22_201, v33_202, v52_203, v53_204, v54_205, hF_206, hq_207, hq_208, hq_209, hq_210, hq_211⟩ := hO.mod hL_h0 hT_h0
      refine pg_get (ci := 15) (v := .ref wh) (C := RX15) (T := TX15) (N := 59) hx hb hts it_15 hown hK hP hL_h0 hF_206 rfl 49 (by decide) (hts _ kt_938) (fun _ h9 => h9) rfl dX15_sealOf_123 ?_
      refine lv_aload_n hx hb dX15_sealOf_126 rfl (lv_at hl 1 rfl) ?_
      refine pg_get (ci := 15) (v := .ref se) (C := RX15) (T := TX15) (N := 59) hx hb hts it_15 hown hK hP hL_h0 hF_206 rfl 35 (by decide) (hts _ kt_847) (fun _ h9 => h9) rfl dX15_sealOf_127 ?_
      refine pg_get (ci := 13) (v := .ref sx) (C := RX13) (T := TX13) (N := 5) hx hb hts it_13 hown hK hP hi_28 hme rfl 0 (by decide) (hts _ kt_842) (fun _ h9 => h9) rfl dX15_sealOf_130 ?_
      obtain ⟨z_212, hF_213, hq_214⟩ := hO.txt hL_sx hT_sx
      refine pg_get (ci := 14) (v := .ref sb) (C := RX14) (T := TX14) (N := 2) hx hb hts it_14 hown hK hP hL_sx hF_213 rfl 0 (by decide) (hts _ kt_710) (fun _ h9 => h9) rfl dX15_sealOf_133 ?_
      refine lv_aload_n hx hb dX15_sealOf_136 rfl (lv_at hl 1 rfl) ?_
      refine pg_get (ci := 15) (v := .ref se) (C := RX15) (T := TX15) (N := 59) hx hb hts it_15 hown hK hP hL_h0 hF_206 rfl 35 (by decide) (hts _ kt_847) (fun _ h9 => h9) rfl dX15_sealOf_137 ?_
      refine pg_get (ci := 13) (v := .ref s1) (C := RX13) (T := TX13) (N := 5) hx hb hts it_13 hown hK hP hi_28 hme rfl 2 (by decide) (hts _ kt_840) (fun _ h9 => h9) rfl dX15_sealOf_140 ?_
      refine lv_iload hx hb dX15_sealOf_143 (lv_at hl 0 rfl) ?_
      refine pg_iald hx hb hK hP hi_31 0 hmc rfl (vp_in_nI (by omega) (by omega)) dX15_sealOf_145 ?_
      have hq_215 := ixb_of hmc (hO.idb hi_31 ht_34)
      obtain ⟨k_216, hk_217, ek_218⟩ := hq_215 ((nI ks) : Int32).toNatClampNeg
      refine lv_topi (fun x_219 ex_219 => ?_)
      obtain rfl : x_219 = nI k_216 := ex_219.trans ek_218
      refine lv_iconst (v := 1) hx hb dX15_sealOf_146 (by decide) ?_
      refine lv_iadd hx hb dX15_sealOf_147 ?_
      refine lv_topi (fun x_220 ex_220 => ?_)
      obtain rfl : x_220 = (nI (k_216 + 1)) := ex_220.trans (nI_add k_216 1)
      refine lv_aload_n hx hb dX15_sealOf_148 rfl (lv_at hl 1 rfl) ?_
      refine pg_get (ci := 15) (v := .ref se) (C := RX15) (T := TX15) (N := 59) hx hb hts it_15 hown hK hP hL_h0 hF_206 rfl 35 (by decide) (hts _ kt_847) (fun _ h9 => h9) rfl dX15_sealOf_149 ?_
      refine pg_get (ci := 13) (v := .ref s2) (C := RX13) (T := TX13) (N := 5) hx hb hts it_13 hown hK hP hi_28 hme rfl 3 (by decide) (hts _ kt_841) (fun _ h9 => h9) rfl dX15_sealOf_152 ?_
      refine lv_iload hx hb dX15_sealOf_155 (lv_at hl 0 rfl) ?_
      refine pg_iald hx hb hK hP hi_32 0 hmd rfl (vp_in_nI (by omega) (by omega)) dX15_sealOf_157 ?_
      have hq_221 := ixb_of hmd (hO.idb hi_32 ht_35)
      obtain ⟨k_222, hk_223, ek_224⟩ := hq_221 ((nI ks) : Int32).toNatClampNeg
      refine lv_topi (fun x_225 ex_225 => ?_)
      obtain rfl : x_225 = nI k_222 := ex_225.trans ek_224
      have htgs := (TGN.eq (ekc ek_218 (by omega)) (ekc ek_224 (by omega)) (by omega) (by omega)).mp hfk
      have hFc := pg_free hD hS hA
      obtain ⟨z_226, hF_227, hq_228⟩ := hO.txt hi_44 ht_45
      refine va_callv (va_runV (As := [.ref sb, .int (nI (k_216 + 1)), .int (nI k_222)]) (rest := []) ⟨hx, hb, hml, hown, hts⟩ (s_X14_set l dC dI cs ty gm L H.size F_187 wh (ρ + 24) r_17 6000 sb (ρ + 12) 3000 (k_216 + 1) k_222 hW hi_44 ht_45 hi_38 ht_39 (by first | omega | assumption | exact Or.inl rfl) (by first | omega | assumption | exact Or.inl rfl) (by first | omega | assumption | exact Or.inl rfl)) ⟨callB_of 3 hts (gi kt_951) rfl rfl rfl (hts _ kt_676) (hts _ kt_952) (by decide +kernel) ⟨Nat.le_of_ble_eq_true rfl, Nat.le_of_ble_eq_true rfl⟩, (hts _ kt_953), (hts _ kt_954)⟩ ⟨fun a U g mk q => ⟨q.1, PTm.calling q.2⟩, pg_recv hK hP hi_44 hF_227 (q := (RX14, TX14, 2)) rfl, fun U hU hWm => ⟨rfl, PTm.mk hU hWm hP hK hD hE hO⟩⟩ rfl rfl hl.1 rfl (lv_room (Nat.le_of_ble_eq_true rfl)) dX15_sealOf_158 ⟨by show _ + 0 ≤ 0; omega, by show _ + 0 ≤ 0; omega⟩) hS (fun q _ h => hFc q h) hFc (fun u t H1 locs ht hvm hw hB hz1 hk1 hS => ?_)
      obtain ⟨F_230, hB1, hq_231⟩ := hB
      obtain ⟨hP, hD, hO, hR⟩ := QTm.back hB1 ht hFc hR (fun q h => by simp only [List.mem_cons, List.not_mem_nil, or_false] at h ⊢; omega)
      have hF_232 : F_230 co = .inl (cs 16, 21, .inl f_75) := (hB1.2.2.2 co (by rw [ht_74]; simp)).trans hF_191
      have hF_233 : F_230 sp = .inl (cs 16, 21, .inl f_82) := (hB1.2.2.2 sp (by rw [ht_81]; simp)).trans hF_192
      have hF_234 : F_230 sb = .inl (cs 17, 3000, .inl eb) := (hB1.2.2.2 sb (by rw [ht_39]; simp)).trans hma
      have hF_235 : F_230 s0 = .inl (cs 16, 40, .inl e0) := (hB1.2.2.2 s0 (by rw [ht_33]; simp)).trans hmb
      have hF_236 : F_230 s1 = .inl (cs 16, 40, .inl e1) := (hB1.2.2.2 s1 (by rw [ht_34]; simp)).trans hmc
      have hF_237 : F_230 s2 = .inl (cs 16, 40, .inl e2) := (hB1.2.2.2 s2 (by rw [ht_35]; simp)).trans hmd
      have hF_238 : F_230 se = .inr (13, [.ref sx, .ref s0, .ref s1, .ref s2, .int (nI zs)]) := (hB1.2.2.2 se (by rw [ht_29]; simp)).trans hme
      have hF_239 : F_230 sd = .inr (14, [.ref r_18, .int (nI (k_165 - (k_159 + 1)))]) := (hB1.2.2.2 sd (by rw [ht_50]; simp)).trans hsd1
      have hF_240 : F_230 h0 = .inr (15, (.ref ta) :: (.int (nI zt)) :: (.int (nI zo_193)) :: (.int (nI ze)) :: (.ref ou) :: (.ref so) :: (.ref ad) :: (.ref na) :: (.ref va) :: (.ref lc) :: (.ref dm) :: (.int (nI fm)) :: (.int (nI sn)) :: (.ref tg) :: (.int v14_194) :: (.int v15_195) :: (.ref pe) :: (.int v17_196) :: (.int v18_197) :: (.int v19_198) :: (.int v20_199) :: (.int v21_200) :: (.int v22_201) :: (.ref ml) :: (.ref bg) :: (.ref co) :: (.ref sp) :: (.ref nb0) :: (.ref nb1) :: (.ref nb2) :: (.int (nI nf)) :: (.int (nI bd)) :: (.int (nI mm)) :: (.int v33_202) :: (.ref pl) :: (.ref se) :: (.ref ke) :: (.ref wi) :: (.ref hs) :: (.ref mo) :: (.ref po) :: (.ref nu) :: (.ref pr) :: (.ref sq) :: (.ref xa) :: (.ref sa) :: (.ref n64) :: (.ref m64) :: (.ref ex) :: (.ref wh) :: (.ref sd) :: (.ref tk) :: (.int v52_203) :: (.int v53_204) :: (.int v54_205) :: (.ref hd) :: (.ref ak) :: (.ref ho) :: (.ref ot) :: []) := (hB1.2.2.2 h0 (by rw [hT_h0]; simp)).trans hF_206
      have hF_241 : F_230 sx = .inr (14, [.ref sb, .int (nI z_212)]) := (hB1.2.2.2 sx (by rw [hT_sx]; simp)).trans hF_213
      generalize H1 = H at hP hS ⊢
      refine lv_iconst (v := 0) hx hb dX15_sealOf_161 (by decide) ?_
      refine lv_istore (lv' := [(6, .int 0), (4, .int (nI ks)), (0, .ref h0), (1, .int (nI jf)), (2, .int x2)]) hx hb dX15_sealOf_162 hl (by decide) rfl (fun ls hl => ?_)
      refine W.widen (k := 0) (n := 0) (by omega) (by omega) ?_
      have hF_243 : F co = .inl (cs 16, 21, .inl f_75) := (hR co (by rw [ht_74]; simp)).symm.trans hF_232
      have hF_244 : F sp = .inl (cs 16, 21, .inl f_82) := (hR sp (by rw [ht_81]; simp)).symm.trans hF_233
      refine pl_loopm (σ := Nat) A (dC, dI) cs ty gm L [ρ, ρ + 10, ρ + 11, ρ + 12, ρ + 13, ρ + 14, ρ + 17, ρ + 18, ρ + 19, ρ + 20, ρ + 21, ρ + 22, ρ + 23, ρ + 24, ρ + 25, ρ + 26, ρ + 81, ρ + 82, ρ + 83, ρ + 84] F 164 8 (fun j => [(6, .int (nI j)), (0, .ref h0), (1, .int (nI jf)), (2, .int x2)]) (fun j => []) (fun j FF => j ≤ 12 ∧ FF sb = .inl (cs 17, 3000, .inl eb) ∧ FF s0 = .inl (cs 16, 40, .inl e0) ∧ FF s1 = .inl (cs 16, 40, .inl e1) ∧ FF s2 = .inl (cs 16, 40, .inl e2) ∧ FF se = .inr (13, [.ref sx, .ref s0, .ref s1, .ref s2, .int (nI zs)]) ∧ FF sd = .inr (14, [.ref r_18, .int (nI (k_165 - (k_159 + 1)))]) ∧ FF wh = .inr (14, [.ref r_17, .int (nI ((k_222 - (k_216 + 1)) + j))])) (fun j => 12 - j) ?_ 0 F_230 (⟨by omega, hF_234, hF_235, hF_236, hF_237, hF_238, hF_239, hq_231⟩) hO hR _ _ hP hD hS ls (lv_sub hl [0, 2, 3, 4] rfl)
      rintro j F_242 hv_245 hO hR ih_246 H locs hP hD hS ls hl
      have hl : lv_has ls 8 [(6, .int (nI j)), (0, .ref h0), (1, .int (nI jf)), (2, .int x2)] := hl
      have hv_245 : j ≤ 12 ∧ F_242 sb = .inl (cs 17, 3000, .inl eb) ∧ F_242 s0 = .inl (cs 16, 40, .inl e0) ∧ F_242 s1 = .inl (cs 16, 40, .inl e1) ∧ F_242 s2 = .inl (cs 16, 40, .inl e2) ∧ F_242 se = .inr (13, [.ref sx, .ref s0, .ref s1, .ref s2, .int (nI zs)]) ∧ F_242 sd = .inr (14, [.ref r_18, .int (nI (k_165 - (k_159 + 1)))]) ∧ F_242 wh = .inr (14, [.ref r_17, .int (nI ((k_222 - (k_216 + 1)) + j))]) := hv_245
      refine W.eq (g2 := F0 m 164 ls []) rfl ?_
      have hF_247 : F_242 co = .inl (cs 16, 21, .inl f_75) := (hR co (by rw [ht_74]; simp)).trans hF_243
      have hF_248 : F_242 sp = .inl (cs 16, 21, .inl f_82) := (hR sp (by rw [ht_81]; simp)).trans hF_244
      obtain ⟨hj12, hna, hnb, hnc, hnd, hne, hsd2, hwh2⟩ := hv_245
      refine lv_iload hx hb dX15_sealOf_164 (lv_at hl 0 rfl) ?_
      refine lv_bipush (v := 12) hx hb dX15_sealOf_166 (by decide) ?_
      refine lv_icmp_ge (tgt := 192) hx hb dX15_sealOf_168 (by decide) (fun c_249 => ?_) (fun c_249 => ?_)
      ·
        have hi_250 : 12 ≤ j := leN (N := 12) c_249
        refine lv_aload_n hx hb dX15_sealOf_192 rfl (lv_at hl 1 rfl) ?_
        obtain ⟨zo_251, v14_252, v15_253, v17_254, v18_255, v19_256, v20_257, v21_258, v22_259, v33_260, v52_261, v53_262, v54_263, hF_264, hq_265, hq_266, hq_267, hq_268, hq_269⟩ := hO.mod hL_h0 hT_h0
        refine pg_get (ci := 15) (v := .ref wh) (C := RX15) (T := TX15) (N := 59) hx hb hts it_15 hown hK hP hL_h0 hF_264 rfl 49 (by decide) (hts _ kt_938) (fun _ h9 => h9) rfl dX15_sealOf_193 ?_
        refine lv_aload_n hx hb dX15_sealOf_196 rfl (lv_at hl 1 rfl) ?_
        refine pg_get (ci := 15) (v := .ref sd) (C := RX15) (T := TX15) (N := 59) hx hb hts it_15 hown hK hP hL_h0 hF_264 rfl 50 (by decide) (hts _ kt_971) (fun _ h9 => h9) rfl dX15_sealOf_197 ?_
        refine pg_get (ci := 14) (v := .ref r_18) (C := RX14) (T := TX14) (N := 2) hx hb hts it_14 hown hK hP hi_49 hsd2 rfl 0 (by decide) (hts _ kt_710) (fun _ h9 => h9) rfl dX15_sealOf_200 ?_
        refine lv_iconst (v := 0) hx hb dX15_sealOf_203 (by decide) ?_
        refine lv_aload_n hx hb dX15_sealOf_204 rfl (lv_at hl 1 rfl) ?_
        refine pg_get (ci := 15) (v := .ref sd) (C := RX15) (T := TX15) (N := 59) hx hb hts it_15 hown hK hP hL_h0 hF_264 rfl 50 (by decide) (hts _ kt_971) (fun _ h9 => h9) rfl dX15_sealOf_205 ?_
        refine pg_get (ci := 14) (v := .int (nI (k_165 - (k_159 + 1)))) (C := RX14) (T := TX14) (N := 2) hx hb hts it_14 hown hK hP hi_49 hsd2 rfl 1 (by decide) (hts _ kt_709) (fun _ h9 => h9) rfl dX15_sealOf_208 ?_
        refine W.eq (g2 := F0 m 211 ls [.int (nI (k_165 - (k_159 + 1))), .int (nI 0), .ref r_18, .ref wh]) rfl ?_
        obtain ⟨hq_270, hq_271⟩ := hW.octs hi_51 ht_52
        have hFc := pg_free hD hS hA
        refine va_callv (va_runV (As := [.ref r_18, .int (nI 0), .int (nI (k_165 - (k_159 + 1)))]) (rest := []) ⟨hx, hb, hml, hown, hts⟩ (s_X14_add_ l dC dI cs ty gm L H.size F_242 wh (ρ + 24) r_17 6000 r_18 (ρ + 25) 3000 ((k_222 - (k_216 + 1)) + j) 0 (k_165 - (k_159 + 1)) hW hi_44 ht_45 hi_51 ht_52 hwh2 (by first | omega | assumption | exact Or.inl rfl) (by first | omega | assumption | exact Or.inl rfl) (by first | omega | assumption | exact Or.inl rfl)) ⟨callB_of 3 hts (gi kt_675) rfl rfl rfl (hts _ kt_676) (hts _ kt_966) (by decide +kernel) ⟨Nat.le_of_ble_eq_true rfl, Nat.le_of_ble_eq_true rfl⟩, (hts _ kt_678), (hts _ kt_679)⟩ ⟨fun a U g mk q => ⟨q.1, PTm.calling q.2⟩, pg_recv hK hP hi_44 hwh2 (q := (RX14, TX14, 2)) rfl, fun U hU hWm => ⟨rfl, PTm.mk hU hWm hP hK hD hE hO⟩⟩ rfl rfl hl.1 rfl (lv_room (Nat.le_of_ble_eq_true rfl)) dX15_sealOf_211 ⟨by show _ + 0 ≤ 0; omega, by show _ + 0 ≤ 0; omega⟩) hS (fun q _ h => hFc q h) hFc (fun u t H1 locs ht hvm hw hB hz1 hk1 hS => ?_)
        obtain ⟨F_273, hB1, hq_274⟩ := hB
        obtain ⟨hP, hD, hO, hR⟩ := QTm.back hB1 ht hFc hR (fun q h => by simp only [List.mem_cons, List.not_mem_nil, or_false] at h ⊢; omega)
        have hF_275 : F_273 co = .inl (cs 16, 21, .inl f_75) := (hB1.2.2.2 co (by rw [ht_74]; simp)).trans hF_247
        have hF_276 : F_273 sp = .inl (cs 16, 21, .inl f_82) := (hB1.2.2.2 sp (by rw [ht_81]; simp)).trans hF_248
        have hF_277 : F_273 sb = .inl (cs 17, 3000, .inl eb) := (hB1.2.2.2 sb (by rw [ht_39]; simp)).trans hna
        have hF_278 : F_273 s0 = .inl (cs 16, 40, .inl e0) := (hB1.2.2.2 s0 (by rw [ht_33]; simp)).trans hnb
        have hF_279 : F_273 s1 = .inl (cs 16, 40, .inl e1) := (hB1.2.2.2 s1 (by rw [ht_34]; simp)).trans hnc
        have hF_280 : F_273 s2 = .inl (cs 16, 40, .inl e2) := (hB1.2.2.2 s2 (by rw [ht_35]; simp)).trans hnd
        have hF_281 : F_273 se = .inr (13, [.ref sx, .ref s0, .ref s1, .ref s2, .int (nI zs)]) := (hB1.2.2.2 se (by rw [ht_29]; simp)).trans hne
        have hF_282 : F_273 sd = .inr (14, [.ref r_18, .int (nI (k_165 - (k_159 + 1)))]) := (hB1.2.2.2 sd (by rw [ht_50]; simp)).trans hsd2
        have hF_283 : F_273 h0 = .inr (15, (.ref ta) :: (.int (nI zt)) :: (.int (nI zo_251)) :: (.int (nI ze)) :: (.ref ou) :: (.ref so) :: (.ref ad) :: (.ref na) :: (.ref va) :: (.ref lc) :: (.ref dm) :: (.int (nI fm)) :: (.int (nI sn)) :: (.ref tg) :: (.int v14_252) :: (.int v15_253) :: (.ref pe) :: (.int v17_254) :: (.int v18_255) :: (.int v19_256) :: (.int v20_257) :: (.int v21_258) :: (.int v22_259) :: (.ref ml) :: (.ref bg) :: (.ref co) :: (.ref sp) :: (.ref nb0) :: (.ref nb1) :: (.ref nb2) :: (.int (nI nf)) :: (.int (nI bd)) :: (.int (nI mm)) :: (.int v33_260) :: (.ref pl) :: (.ref se) :: (.ref ke) :: (.ref wi) :: (.ref hs) :: (.ref mo) :: (.ref po) :: (.ref nu) :: (.ref pr) :: (.ref sq) :: (.ref xa) :: (.ref sa) :: (.ref n64) :: (.ref m64) :: (.ref ex) :: (.ref wh) :: (.ref sd) :: (.ref tk) :: (.int v52_261) :: (.int v53_262) :: (.int v54_263) :: (.ref hd) :: (.ref ak) :: (.ref ho) :: (.ref ot) :: []) := (hB1.2.2.2 h0 (by rw [hT_h0]; simp)).trans hF_264
        generalize H1 = H at hP hS ⊢
        refine lv_aload_n hx hb dX15_sealOf_214 rfl (lv_at hl 1 rfl) ?_
        have hFc := pg_free hD hS hA
        refine va_calli (va_runV (As := []) (rest := []) ⟨hx, hb, hml, hown, hts⟩ (s_X15_keyOf l dC dI cs ty gm L H.size F_273 h0 ρ ta ou so ad na va lc dm tg pe ml bg co sp nb0 nb1 nb2 pl se ke wi hs mo po nu pr sq xa sa n64 m64 ex wh sd tk hd ak ho ot sx s0 s1 s2 nf bd mm fm sn hg gc gv ze zt hW hL_h0 hT_h0) ⟨callB_of 0 hts (gi kt_972) rfl rfl rfl (hts _ kt_669) (hts _ kt_973) (by decide +kernel) ⟨Nat.le_of_ble_eq_true rfl, Nat.le_of_ble_eq_true rfl⟩, (hts _ kt_974), (hts _ kt_975)⟩ ⟨fun a U g mk q => ⟨q.1, PTEm.calling q.2⟩, pg_recv hK hP hL_h0 hF_283 (q := (RX15, TX15, 59)) rfl, fun U hU hWm => ⟨rfl, PTEm.mk hU hWm hP hK hD hE hO hG (fun x hx => absurd hx List.not_mem_nil) hS hFc⟩⟩ rfl rfl hl.1 rfl (lv_room (Nat.le_of_ble_eq_true rfl)) dX15_sealOf_215 ⟨by show _ + 0 ≤ 0; omega, by show _ + 0 ≤ 0; omega⟩) hS (fun q _ h => hFc q h) hFc (fun r_284 u t H1 locs ht hvm hw hB hz1 hk1 hS => ?_)
        obtain ⟨F_285, hB1⟩ := hB
        obtain ⟨hP, hD, hO, hR⟩ := QTm.back hB1 ht hFc hR (fun q h => by simp only [List.mem_cons, List.not_mem_nil, or_false] at h ⊢; omega)
        have hF_286 : F_285 co = .inl (cs 16, 21, .inl f_75) := (hB1.2.2.2 co (by rw [ht_74]; simp)).trans hF_275
        have hF_287 : F_285 sp = .inl (cs 16, 21, .inl f_82) := (hB1.2.2.2 sp (by rw [ht_81]; simp)).trans hF_276
        have hF_288 : F_285 sb = .inl (cs 17, 3000, .inl eb) := (hB1.2.2.2 sb (by rw [ht_39]; simp)).trans hF_277
        have hF_289 : F_285 s0 = .inl (cs 16, 40, .inl e0) := (hB1.2.2.2 s0 (by rw [ht_33]; simp)).trans hF_278
        have hF_290 : F_285 s1 = .inl (cs 16, 40, .inl e1) := (hB1.2.2.2 s1 (by rw [ht_34]; simp)).trans hF_279
        have hF_291 : F_285 s2 = .inl (cs 16, 40, .inl e2) := (hB1.2.2.2 s2 (by rw [ht_35]; simp)).trans hF_280
        have hF_292 : F_285 se = .inr (13, [.ref sx, .ref s0, .ref s1, .ref s2, .int (nI zs)]) := (hB1.2.2.2 se (by rw [ht_29]; simp)).trans hF_281
        have hF_293 : F_285 sd = .inr (14, [.ref r_18, .int (nI (k_165 - (k_159 + 1)))]) := (hB1.2.2.2 sd (by rw [ht_50]; simp)).trans hF_282
        have hF_294 : F_285 h0 = .inr (15, (.ref ta) :: (.int (nI zt)) :: (.int (nI zo_251)) :: (.int (nI ze)) :: (.ref ou) :: (.ref so) :: (.ref ad) :: (.ref na) :: (.ref va) :: (.ref lc) :: (.ref dm) :: (.int (nI fm)) :: (.int (nI sn)) :: (.ref tg) :: (.int v14_252) :: (.int v15_253) :: (.ref pe) :: (.int v17_254) :: (.int v18_255) :: (.int v19_256) :: (.int v20_257) :: (.int v21_258) :: (.int v22_259) :: (.ref ml) :: (.ref bg) :: (.ref co) :: (.ref sp) :: (.ref nb0) :: (.ref nb1) :: (.ref nb2) :: (.int (nI nf)) :: (.int (nI bd)) :: (.int (nI mm)) :: (.int v33_260) :: (.ref pl) :: (.ref se) :: (.ref ke) :: (.ref wi) :: (.ref hs) :: (.ref mo) :: (.ref po) :: (.ref nu) :: (.ref pr) :: (.ref sq) :: (.ref xa) :: (.ref sa) :: (.ref n64) :: (.ref m64) :: (.ref ex) :: (.ref wh) :: (.ref sd) :: (.ref tk) :: (.int v52_261) :: (.int v53_262) :: (.int v54_263) :: (.ref hd) :: (.ref ak) :: (.ref ho) :: (.ref ot) :: []) := (hB1.2.2.2 h0 (by rw [hT_h0]; simp)).trans hF_283
        have hF_295 : F_285 wh = .inr (14, [.ref r_17, .int (nI (((k_222 - (k_216 + 1)) + j) + ((k_165 - (k_159 + 1)) - 0)))]) := (hB1.2.2.2 wh (by rw [ht_45]; simp)).trans hq_274
        generalize H1 = H at hP hS ⊢
        have hw : True := hw
        have hw_296 := hw
        refine lv_istore (lv' := [(6, .int r_284), (0, .ref h0), (1, .int (nI jf)), (2, .int x2)]) hx hb dX15_sealOf_218 hl (by decide) rfl (fun ls hl => ?_)
        refine lv_iload hx hb dX15_sealOf_220 (lv_at hl 0 rfl) ?_
        refine lv_iconst (v := 2) hx hb dX15_sealOf_222 (by decide) ?_
        refine lv_icmp_eq (tgt := 229) hx hb dX15_sealOf_223 (by decide) (fun c_297 => ?_) (fun c_297 => ?_)
        ·
          refine lv_aload_n hx hb dX15_sealOf_229 rfl (lv_at hl 1 rfl) ?_
          refine lv_aload_n hx hb dX15_sealOf_230 rfl (lv_at hl 1 rfl) ?_
          refine pg_get (ci := 15) (v := .int v53_262) (C := RX15) (T := TX15) (N := 59) hx hb hts it_15 hown hK hP hL_h0 hF_294 rfl 53 (by decide) (hts _ kt_858) (fun _ h9 => h9) rfl dX15_sealOf_231 ?_
          have hFc := pg_free hD hS hA
          refine va_callv (va_runV (As := [.int v53_262]) (rest := []) ⟨hx, hb, hml, hown, hts⟩ (s_X15_bodyPlain l dC dI cs ty gm L H.size F_285 h0 ρ ta ou so ad na va lc dm tg pe ml bg co sp nb0 nb1 nb2 pl se ke wi hs mo po nu pr sq xa sa n64 m64 ex wh sd tk hd ak ho ot sx s0 s1 s2 nf bd mm fm sn hg gc gv ze zt rl v53_262 hW hL_h0 hT_h0 hL_pl hT_pl (by first | omega | assumption | exact Or.inl rfl)) ⟨callB_of 1 hts (gi kt_910) rfl rfl rfl (hts _ kt_669) (hts _ kt_911) (by decide +kernel) ⟨Nat.le_of_ble_eq_true rfl, Nat.le_of_ble_eq_true rfl⟩, (hts _ kt_912), (hts _ kt_913)⟩ ⟨fun a U g mk q => ⟨q.1, PTm.calling q.2⟩, pg_recv hK hP hL_h0 hF_294 (q := (RX15, TX15, 59)) rfl, fun U hU hWm => ⟨rfl, PTm.mk hU hWm hP hK hD hE hO⟩⟩ rfl rfl hl.1 rfl (lv_room (Nat.le_of_ble_eq_true rfl)) dX15_sealOf_234 ⟨by show _ + 0 ≤ 0; omega, by show _ + 0 ≤ 0; omega⟩) hS (fun q _ h => hFc q h) hFc (fun u t H1 locs ht hvm hw hB hz1 hk1 hS => ?_)
          obtain ⟨F_299, hB1⟩ := hB
          obtain ⟨hP, hD, hO, hR⟩ := QTm.back hB1 ht hFc hR (fun q h => by simp only [List.mem_cons, List.not_mem_nil, or_false] at h ⊢; omega)
          have hF_300 : F_299 co = .inl (cs 16, 21, .inl f_75) := (hB1.2.2.2 co (by rw [ht_74]; simp)).trans hF_286
          have hF_301 : F_299 sp = .inl (cs 16, 21, .inl f_82) := (hB1.2.2.2 sp (by rw [ht_81]; simp)).trans hF_287
          have hF_302 : F_299 sb = .inl (cs 17, 3000, .inl eb) := (hB1.2.2.2 sb (by rw [ht_39]; simp)).trans hF_288
          have hF_303 : F_299 s0 = .inl (cs 16, 40, .inl e0) := (hB1.2.2.2 s0 (by rw [ht_33]; simp)).trans hF_289
          have hF_304 : F_299 s1 = .inl (cs 16, 40, .inl e1) := (hB1.2.2.2 s1 (by rw [ht_34]; simp)).trans hF_290
          have hF_305 : F_299 s2 = .inl (cs 16, 40, .inl e2) := (hB1.2.2.2 s2 (by rw [ht_35]; simp)).trans hF_291
          have hF_306 : F_299 se = .inr (13, [.ref sx, .ref s0, .ref s1, .ref s2, .int (nI zs)]) := (hB1.2.2.2 se (by rw [ht_29]; simp)).trans hF_292
          have hF_307 : F_299 sd = .inr (14, [.ref r_18, .int (nI (k_165 - (k_159 + 1)))]) := (hB1.2.2.2 sd (by rw [ht_50]; simp)).trans hF_293
          have hF_308 : F_299 h0 = .inr (15, (.ref ta) :: (.int (nI zt)) :: (.int (nI zo_251)) :: (.int (nI ze)) :: (.ref ou) :: (.ref so) :: (.ref ad) :: (.ref na) :: (.ref va) :: (.ref lc) :: (.ref dm) :: (.int (nI fm)) :: (.int (nI sn)) :: (.ref tg) :: (.int v14_252) :: (.int v15_253) :: (.ref pe) :: (.int v17_254) :: (.int v18_255) :: (.int v19_256) :: (.int v20_257) :: (.int v21_258) :: (.int v22_259) :: (.ref ml) :: (.ref bg) :: (.ref co) :: (.ref sp) :: (.ref nb0) :: (.ref nb1) :: (.ref nb2) :: (.int (nI nf)) :: (.int (nI bd)) :: (.int (nI mm)) :: (.int v33_260) :: (.ref pl) :: (.ref se) :: (.ref ke) :: (.ref wi) :: (.ref hs) :: (.ref mo) :: (.ref po) :: (.ref nu) :: (.ref pr) :: (.ref sq) :: (.ref xa) :: (.ref sa) :: (.ref n64) :: (.ref m64) :: (.ref ex) :: (.ref wh) :: (.ref sd) :: (.ref tk) :: (.int v52_261) :: (.int v53_262) :: (.int v54_263) :: (.ref hd) :: (.ref ak) :: (.ref ho) :: (.ref ot) :: []) := (hB1.2.2.2 h0 (by rw [hT_h0]; simp)).trans hF_294
          have hF_309 : F_299 wh = .inr (14, [.ref r_17, .int (nI (((k_222 - (k_216 + 1)) + j) + ((k_165 - (k_159 + 1)) - 0)))]) := (hB1.2.2.2 wh (by rw [ht_45]; simp)).trans hF_295
          generalize H1 = H at hP hS ⊢
          refine lv_aload_n hx hb dX15_sealOf_237 rfl (lv_at hl 1 rfl) ?_
          refine pg_get (ci := 15) (v := .ref se) (C := RX15) (T := TX15) (N := 59) hx hb hts it_15 hown hK hP hL_h0 hF_308 rfl 35 (by decide) (hts _ kt_847) (fun _ h9 => h9) rfl dX15_sealOf_238 ?_
          obtain ⟨q_310, v_311, hr_q_310, hX_q_310⟩ := hG.2.2 ("PostGateModel", 476, "l", [108]) (by decide +kernel)
          have hX_q_310 : SXc q_310 v_311 1 (cct [108]) A s s.heap := hX_q_310
          obtain ⟨xo_q_310, xc_q_310, xv_q_310, xt_q_310, xn_q_310⟩ := id hX_q_310
          have hr_q_310 : vk_R "PostGateModel" 476 "l" q_310 s := hr_q_310
          refine va_ldcwS hx hb hown hr_q_310 dX15_sealOf_241 ?_
          have hFc := pg_free hD hS hA
          refine va_calli (va_runS (As := [.ref se, .ref q_310]) (rest := []) ⟨hx, hb, hml, hown, hts⟩ (s_X15_number l dC dI cs ty gm L H.size F_299 se (ρ + 11) sx 3000 1280 s0 s1 s2 sb zs q_310 v_311 1 (cct [108]) hW hi_28 ht_29 hL_sx hT_sx hF_306 (by first | omega | assumption | exact Or.inl rfl)) ⟨callB_of 2 hts (gi kt_884) rfl rfl rfl (hts _ kt_669) (hts _ kt_885) (by decide +kernel) ⟨Nat.le_of_ble_eq_true rfl, Nat.le_of_ble_eq_true rfl⟩, (hts _ kt_886)⟩ ⟨fun a U g mk q => ⟨q.1, PTEm.calling q.2⟩, fun U hU hWm => ⟨rfl, PTEm.mk hU hWm hP hK hD hE hO hG (fun x hx => by rw [List.mem_singleton] at hx; subst hx; exact hX_q_310) hS hFc⟩⟩ rfl rfl hl.1 rfl (lv_room (Nat.le_of_ble_eq_true rfl)) dX15_sealOf_244 ⟨by show _ + 0 ≤ 0; omega, by show _ + 0 ≤ 0; omega⟩) hS (fun q _ h => hFc q h) hFc (fun r_312 u t H1 locs ht hvm hw hB hz1 hk1 hS => ?_)
          obtain ⟨F_313, hB1⟩ := hB
          obtain rfl : F_299 = F_313 := (funext (fun a => hB1.2.2.2 a List.not_mem_nil)).symm
          obtain ⟨hP, hD, hO, hR⟩ := QTm.back hB1 ht hFc hR (fun q h => absurd h List.not_mem_nil)
          generalize H1 = H at hP hS ⊢
          have hw : True := hw
          have hw_314 := hw
          refine lv_istore (lv' := [(7, .int r_312), (6, .int r_284), (0, .ref h0), (1, .int (nI jf)), (2, .int x2)]) hx hb dX15_sealOf_247 hl (by decide) rfl (fun ls hl => ?_)
          refine lv_iload hx hb dX15_sealOf_249 (lv_at hl 0 rfl) ?_
          refine lv_aload_n hx hb dX15_sealOf_251 rfl (lv_at hl 2 rfl) ?_
          refine pg_get (ci := 15) (v := .ref pl) (C := RX15) (T := TX15) (N := 59) hx hb hts it_15 hown hK hP hL_h0 hF_308 rfl 34 (by decide) (hts _ kt_901) (fun _ h9 => h9) rfl dX15_sealOf_252 ?_
          obtain ⟨z_315, hF_316, hq_317⟩ := hO.txt hL_pl hT_pl
          refine pg_get (ci := 14) (v := .int (nI z_315)) (C := RX14) (T := TX14) (N := 2) hx hb hts it_14 hown hK hP hL_pl hF_316 rfl 1 (by decide) (hts _ kt_709) (fun _ h9 => h9) rfl dX15_sealOf_255 ?_
          refine lv_icmp_le (tgt := 263) hx hb dX15_sealOf_258 (by decide) (fun c_318 => ?_) (fun c_318 => ?_)
          ·
            refine lv_aload_n hx hb dX15_sealOf_263 rfl (lv_at hl 2 rfl) ?_
            refine lv_aload_n hx hb dX15_sealOf_264 rfl (lv_at hl 2 rfl) ?_
            refine pg_get (ci := 15) (v := .ref pl) (C := RX15) (T := TX15) (N := 59) hx hb hts it_15 hown hK hP hL_h0 hF_308 rfl 34 (by decide) (hts _ kt_901) (fun _ h9 => h9) rfl dX15_sealOf_265 ?_
            refine pg_get (ci := 14) (v := .ref rl) (C := RX14) (T := TX14) (N := 2) hx hb hts it_14 hown hK hP hL_pl hF_316 rfl 0 (by decide) (hts _ kt_710) (fun _ h9 => h9) rfl dX15_sealOf_268 ?_
            have hF_321 : F co = .inl (cs 16, 21, .inl f_75) := (hR co (by rw [ht_74]; simp)).symm.trans hF_300
            have hF_322 : F sp = .inl (cs 16, 21, .inl f_82) := (hR sp (by rw [ht_81]; simp)).symm.trans hF_301
            refine W.widen (k := 0) (n := 0) (by omega) (by omega) ?_
            refine pl_cutm (σ := Int32) A (dC, dI) cs ty gm L [ρ, ρ + 10, ρ + 11, ρ + 12, ρ + 13, ρ + 14, ρ + 17, ρ + 18, ρ + 19, ρ + 20, ρ + 21, ρ + 22, ρ + 23, ρ + 24, ρ + 25, ρ + 26, ρ + 81, ρ + 82, ρ + 83, ρ + 84] F 288 8 (fun s8 => [(0, .ref h0), (1, .int (nI jf)), (2, .int x2)]) (fun s8 => [.int s8, .ref rl, .ref h0]) (fun s8 FF => (∃ k : Nat, k ≤ z_315 ∧ s8 = nI k) ∧ FF sb = .inl (cs 17, 3000, .inl eb) ∧ FF s0 = .inl (cs 16, 40, .inl e0) ∧ FF s1 = .inl (cs 16, 40, .inl e1) ∧ FF s2 = .inl (cs 16, 40, .inl e2) ∧ FF se = .inr (13, [.ref sx, .ref s0, .ref s1, .ref s2, .int (nI zs)])) ?_ (fun jn_319 => ?_)
            ·
              rintro s8 F_320 hv_323 hO hR H locs hP hD hS ls hl
              have hl : lv_has ls 8 [(0, .ref h0), (1, .int (nI jf)), (2, .int x2)] := hl
              have hv_323 : (∃ k : Nat, k ≤ z_315 ∧ s8 = nI k) ∧ F_320 sb = .inl (cs 17, 3000, .inl eb) ∧ F_320 s0 = .inl (cs 16, 40, .inl e0) ∧ F_320 s1 = .inl (cs 16, 40, .inl e1) ∧ F_320 s2 = .inl (cs 16, 40, .inl e2) ∧ F_320 se = .inr (13, [.ref sx, .ref s0, .ref s1, .ref s2, .int (nI zs)]) := hv_323
              refine W.eq (g2 := F0 m 288 ls [.int s8, .ref rl, .ref h0]) rfl ?_
              have hF_324 : F_320 co = .inl (cs 16, 21, .inl f_75) := (hR co (by rw [ht_74]; simp)).trans hF_321
              have hF_325 : F_320 sp = .inl (cs 16, 21, .inl f_82) := (hR sp (by rw [ht_81]; simp)).trans hF_322
              obtain ⟨⟨kz, hkz, ekz⟩, hoa, hob, hoc, hod, hoe⟩ := hv_323
              subst ekz
              refine W.eq (g2 := F0 m 288 ls [.int (nI kz), .ref rl, .ref h0]) rfl ?_
              refine lv_aload_n hx hb dX15_sealOf_288 rfl (lv_at hl 0 rfl) ?_
              obtain ⟨zo_326, v14_327, v15_328, v17_329, v18_330, v19_331, v20_332, v21_333, v22_334, v33_335, v52_336, v53_337, v54_338, hF_339, hq_340, hq_341, hq_342, hq_343, hq_344⟩ := hO.mod hL_h0 hT_h0
              refine pg_get (ci := 15) (v := .ref xa) (C := RX15) (T := TX15) (N := 59) hx hb hts it_15 hown hK hP hL_h0 hF_339 rfl 44 (by decide) (hts _ kt_935) (fun _ h9 => h9) rfl dX15_sealOf_289 ?_
              obtain ⟨hq_345, hq_346⟩ := hW.octs hi_41 ht_42
              obtain ⟨hi_347, ht_348⟩ := hW.f_xa hL_h0 hT_h0
              obtain ⟨hq_349, hq_350⟩ := hW.octs hi_347 ht_348
              have hFc := pg_free hD hS hA
              refine va_callv (va_runV (As := [.ref rl, .int (nI kz), .ref xa]) (rest := []) ⟨hx, hb, hml, hown, hts⟩ (s_X15_digest l dC dI cs ty gm L H.size F_320 h0 ρ ta ou so ad na va lc dm tg pe ml bg co sp nb0 nb1 nb2 pl se ke wi hs mo po nu pr sq xa sa n64 m64 ex wh sd tk hd ak ho ot sx s0 s1 s2 nf bd mm fm sn hg gc gv ze zt rl (ρ + 10) 6000 xa (ρ + 19) 32 kz hW hL_h0 hT_h0 hi_41 ht_42 hi_347 ht_348 (by first | omega | assumption | exact Or.inl rfl) (by first | omega | assumption | exact Or.inl rfl)) ⟨callB_of 3 hts (gi kt_976) rfl rfl rfl (hts _ kt_669) (hts _ kt_977) (by decide +kernel) ⟨Nat.le_of_ble_eq_true rfl, Nat.le_of_ble_eq_true rfl⟩, (hts _ kt_978), (hts _ kt_979)⟩ ⟨fun a U g mk q => ⟨q.1, PTm.calling q.2⟩, pg_recv hK hP hL_h0 hF_339 (q := (RX15, TX15, 59)) rfl, fun U hU hWm => ⟨rfl, PTm.mk hU hWm hP hK hD hE hO⟩⟩ rfl rfl hl.1 rfl (lv_room (Nat.le_of_ble_eq_true rfl)) dX15_sealOf_292 ⟨by show _ + 0 ≤ 0; omega, by show _ + 0 ≤ 0; omega⟩) hS (fun q _ h => hFc q h) hFc (fun u t H1 locs ht hvm hw hB hz1 hk1 hS => ?_)
              obtain ⟨F_352, hB1⟩ := hB
              obtain ⟨hP, hD, hO, hR⟩ := QTm.back hB1 ht hFc hR (fun q h => by simp only [List.mem_cons, List.not_mem_nil, or_false] at h ⊢; omega)
              have hF_353 : F_352 co = .inl (cs 16, 21, .inl f_75) := (hB1.2.2.2 co (by rw [ht_74]; simp)).trans hF_324
              have hF_354 : F_352 sp = .inl (cs 16, 21, .inl f_82) := (hB1.2.2.2 sp (by rw [ht_81]; simp)).trans hF_325
              have hF_355 : F_352 sb = .inl (cs 17, 3000, .inl eb) := (hB1.2.2.2 sb (by rw [ht_39]; simp)).trans hoa
              have hF_356 : F_352 s0 = .inl (cs 16, 40, .inl e0) := (hB1.2.2.2 s0 (by rw [ht_33]; simp)).trans hob
              have hF_357 : F_352 s1 = .inl (cs 16, 40, .inl e1) := (hB1.2.2.2 s1 (by rw [ht_34]; simp)).trans hoc
              have hF_358 : F_352 s2 = .inl (cs 16, 40, .inl e2) := (hB1.2.2.2 s2 (by rw [ht_35]; simp)).trans hod
              have hF_359 : F_352 se = .inr (13, [.ref sx, .ref s0, .ref s1, .ref s2, .int (nI zs)]) := (hB1.2.2.2 se (by rw [ht_29]; simp)).trans hoe
              have hF_360 : F_352 h0 = .inr (15, (.ref ta) :: (.int (nI zt)) :: (.int (nI zo_326)) :: (.int (nI ze)) :: (.ref ou) :: (.ref so) :: (.ref ad) :: (.ref na) :: (.ref va) :: (.ref lc) :: (.ref dm) :: (.int (nI fm)) :: (.int (nI sn)) :: (.ref tg) :: (.int v14_327) :: (.int v15_328) :: (.ref pe) :: (.int v17_329) :: (.int v18_330) :: (.int v19_331) :: (.int v20_332) :: (.int v21_333) :: (.int v22_334) :: (.ref ml) :: (.ref bg) :: (.ref co) :: (.ref sp) :: (.ref nb0) :: (.ref nb1) :: (.ref nb2) :: (.int (nI nf)) :: (.int (nI bd)) :: (.int (nI mm)) :: (.int v33_335) :: (.ref pl) :: (.ref se) :: (.ref ke) :: (.ref wi) :: (.ref hs) :: (.ref mo) :: (.ref po) :: (.ref nu) :: (.ref pr) :: (.ref sq) :: (.ref xa) :: (.ref sa) :: (.ref n64) :: (.ref m64) :: (.ref ex) :: (.ref wh) :: (.ref sd) :: (.ref tk) :: (.int v52_336) :: (.int v53_337) :: (.int v54_338) :: (.ref hd) :: (.ref ak) :: (.ref ho) :: (.ref ot) :: []) := (hB1.2.2.2 h0 (by rw [hT_h0]; simp)).trans hF_339
              generalize H1 = H at hP hS ⊢
              refine lv_aload_n hx hb dX15_sealOf_295 rfl (lv_at hl 0 rfl) ?_
              refine pg_get (ci := 15) (v := .ref xa) (C := RX15) (T := TX15) (N := 59) hx hb hts it_15 hown hK hP hL_h0 hF_360 rfl 44 (by decide) (hts _ kt_935) (fun _ h9 => h9) rfl dX15_sealOf_296 ?_
              refine lv_aload_n hx hb dX15_sealOf_299 rfl (lv_at hl 0 rfl) ?_
              refine pg_get (ci := 15) (v := .ref sa) (C := RX15) (T := TX15) (N := 59) hx hb hts it_15 hown hK hP hL_h0 hF_360 rfl 45 (by decide) (hts _ kt_871) (fun _ h9 => h9) rfl dX15_sealOf_300 ?_
              obtain ⟨hi_361, ht_362⟩ := hW.f_sa hL_h0 hT_h0
              obtain ⟨hq_363, hq_364⟩ := hW.octs hi_361 ht_362
              have hFc := pg_free hD hS hA
              refine va_calli (va_runS (As := [.ref xa, .ref sa]) (rest := []) ⟨hx, hb, hml, hown, hts⟩ (s_X15_isAll l dC dI cs ty gm L H.size F_352 xa (ρ + 19) sa (ρ + 20) hW hi_347 ht_348 hi_361 ht_362) ⟨callB_of 2 hts (gi kt_980) rfl rfl rfl (hts _ kt_669) (hts _ kt_981) (by decide +kernel) ⟨Nat.le_of_ble_eq_true rfl, Nat.le_of_ble_eq_true rfl⟩, (hts _ kt_982)⟩ ⟨fun a U g mk q => ⟨q.1, PTm.calling q.2⟩, fun U hU hWm => ⟨rfl, PTm.mk hU hWm hP hK hD hE hO⟩⟩ rfl rfl hl.1 rfl (lv_room (Nat.le_of_ble_eq_true rfl)) dX15_sealOf_303 ⟨by show _ + 0 ≤ 0; omega, by show _ + 0 ≤ 0; omega⟩) hS (fun q _ h => hFc q h) hFc (fun r_365 u t H1 locs ht hvm hw hB hz1 hk1 hS => ?_)
              obtain ⟨F_366, hB1⟩ := hB
              obtain rfl : F_352 = F_366 := (funext (fun a => hB1.2.2.2 a List.not_mem_nil)).symm
              obtain ⟨hP, hD, hO, hR⟩ := QTm.back hB1 ht hFc hR (fun q h => absurd h List.not_mem_nil)
              generalize H1 = H at hP hS ⊢
              have hw : (r_365 = 0 ∨ r_365 = 1) := hw
              have hw_367 := hw
              refine lv_if_ne (tgt := 311) hx hb dX15_sealOf_306 (by decide) (fun c_368 => ?_) (fun c_368 => ?_)
              ·
                refine lv_aload_n hx hb dX15_sealOf_311 rfl (lv_at hl 0 rfl) ?_
                refine lv_iload_n hx hb dX15_sealOf_312 rfl (lv_at hl 1 rfl) ?_
                have hFc := pg_free hD hS hA
                refine va_callv (va_runV (As := [.int (nI jf)]) (rest := []) ⟨hx, hb, hml, hown, hts⟩ (s_X15_fieldsPlain l dC dI cs ty gm L H.size F_352 h0 ρ ta ou so ad na va lc dm tg pe ml bg co sp nb0 nb1 nb2 pl se ke wi hs mo po nu pr sq xa sa n64 m64 ex wh sd tk hd ak ho ot sx s0 s1 s2 nf bd mm fm sn hg gc gv ze zt sb rl eb e0 e1 e2 zs kh jf hW hL_h0 hT_h0 hL_sx hT_sx hL_pl hT_pl hF_355 hF_356 hF_357 hF_358 hF_359 (hzs) (hh1) (hfh) (by first | omega | assumption | exact Or.inl rfl)) ⟨callB_of 1 hts (gi kt_983) rfl rfl rfl (hts _ kt_669) (hts _ kt_984) (by decide +kernel) ⟨Nat.le_of_ble_eq_true rfl, Nat.le_of_ble_eq_true rfl⟩, (hts _ kt_985), (hts _ kt_986)⟩ ⟨fun a U g mk q => ⟨q.1, PTEm.calling q.2⟩, pg_recv hK hP hL_h0 hF_360 (q := (RX15, TX15, 59)) rfl, fun U hU hWm => ⟨rfl, PTEm.mk hU hWm hP hK hD hE hO hG (fun x hx => absurd hx List.not_mem_nil) hS hFc⟩⟩ rfl rfl hl.1 rfl (lv_room (Nat.le_of_ble_eq_true rfl)) dX15_sealOf_313 ⟨by show _ + 0 ≤ 0; omega, by show _ + 0 ≤ 0; omega⟩) hS (fun q _ h => hFc q h) hFc (fun u t H1 locs ht hvm hw hB hz1 hk1 hS => ?_)
                obtain ⟨F_370, hB1⟩ := hB
                obtain ⟨hP, hD, hO, hR⟩ := QTm.back hB1 ht hFc hR (fun q h => by simp only [List.mem_cons, List.not_mem_nil, or_false] at h ⊢; omega)
                have hF_371 : F_370 co = .inl (cs 16, 21, .inl f_75) := (hB1.2.2.2 co (by rw [ht_74]; simp)).trans hF_353
                have hF_372 : F_370 sp = .inl (cs 16, 21, .inl f_82) := (hB1.2.2.2 sp (by rw [ht_81]; simp)).trans hF_354
                have hF_373 : F_370 sb = .inl (cs 17, 3000, .inl eb) := (hB1.2.2.2 sb (by rw [ht_39]; simp)).trans hF_355
                have hF_374 : F_370 s0 = .inl (cs 16, 40, .inl e0) := (hB1.2.2.2 s0 (by rw [ht_33]; simp)).trans hF_356
                have hF_375 : F_370 s1 = .inl (cs 16, 40, .inl e1) := (hB1.2.2.2 s1 (by rw [ht_34]; simp)).trans hF_357
                have hF_376 : F_370 s2 = .inl (cs 16, 40, .inl e2) := (hB1.2.2.2 s2 (by rw [ht_35]; simp)).trans hF_358
                have hF_377 : F_370 se = .inr (13, [.ref sx, .ref s0, .ref s1, .ref s2, .int (nI zs)]) := (hB1.2.2.2 se (by rw [ht_29]; simp)).trans hF_359
                have hF_378 : F_370 h0 = .inr (15, (.ref ta) :: (.int (nI zt)) :: (.int (nI zo_326)) :: (.int (nI ze)) :: (.ref ou) :: (.ref so) :: (.ref ad) :: (.ref na) :: (.ref va) :: (.ref lc) :: (.ref dm) :: (.int (nI fm)) :: (.int (nI sn)) :: (.ref tg) :: (.int v14_327) :: (.int v15_328) :: (.ref pe) :: (.int v17_329) :: (.int v18_330) :: (.int v19_331) :: (.int v20_332) :: (.int v21_333) :: (.int v22_334) :: (.ref ml) :: (.ref bg) :: (.ref co) :: (.ref sp) :: (.ref nb0) :: (.ref nb1) :: (.ref nb2) :: (.int (nI nf)) :: (.int (nI bd)) :: (.int (nI mm)) :: (.int v33_335) :: (.ref pl) :: (.ref se) :: (.ref ke) :: (.ref wi) :: (.ref hs) :: (.ref mo) :: (.ref po) :: (.ref nu) :: (.ref pr) :: (.ref sq) :: (.ref xa) :: (.ref sa) :: (.ref n64) :: (.ref m64) :: (.ref ex) :: (.ref wh) :: (.ref sd) :: (.ref tk) :: (.int v52_336) :: (.int v53_337) :: (.int v54_338) :: (.ref hd) :: (.ref ak) :: (.ref ho) :: (.ref ot) :: []) := (hB1.2.2.2 h0 (by rw [hT_h0]; simp)).trans hF_360
                generalize H1 = H at hP hS ⊢
                refine lv_aload_n hx hb dX15_sealOf_316 rfl (lv_at hl 0 rfl) ?_
                refine lv_aload_n hx hb dX15_sealOf_317 rfl (lv_at hl 0 rfl) ?_
                refine pg_get (ci := 15) (v := .ref pl) (C := RX15) (T := TX15) (N := 59) hx hb hts it_15 hown hK hP hL_h0 hF_378 rfl 34 (by decide) (hts _ kt_901) (fun _ h9 => h9) rfl dX15_sealOf_318 ?_
                obtain ⟨z_379, hF_380, hq_381⟩ := hO.txt hL_pl hT_pl
                refine pg_get (ci := 14) (v := .ref rl) (C := RX14) (T := TX14) (N := 2) hx hb hts it_14 hown hK hP hL_pl hF_380 rfl 0 (by decide) (hts _ kt_710) (fun _ h9 => h9) rfl dX15_sealOf_321 ?_
                refine lv_aload_n hx hb dX15_sealOf_324 rfl (lv_at hl 0 rfl) ?_
                refine pg_get (ci := 15) (v := .ref pl) (C := RX15) (T := TX15) (N := 59) hx hb hts it_15 hown hK hP hL_h0 hF_378 rfl 34 (by decide) (hts _ kt_901) (fun _ h9 => h9) rfl dX15_sealOf_325 ?_
                refine pg_get (ci := 14) (v := .int (nI z_379)) (C := RX14) (T := TX14) (N := 2) hx hb hts it_14 hown hK hP hL_pl hF_380 rfl 1 (by decide) (hts _ kt_709) (fun _ h9 => h9) rfl dX15_sealOf_328 ?_
                refine lv_aload_n hx hb dX15_sealOf_331 rfl (lv_at hl 0 rfl) ?_
                refine pg_get (ci := 15) (v := .ref xa) (C := RX15) (T := TX15) (N := 59) hx hb hts it_15 hown hK hP hL_h0 hF_378 rfl 44 (by decide) (hts _ kt_935) (fun _ h9 => h9) rfl dX15_sealOf_332 ?_
                have hFc := pg_free hD hS hA
                refine va_callv (va_runV (As := [.ref rl, .int (nI z_379), .ref xa]) (rest := []) ⟨hx, hb, hml, hown, hts⟩ (s_X15_digest l dC dI cs ty gm L H.size F_370 h0 ρ ta ou so ad na va lc dm tg pe ml bg co sp nb0 nb1 nb2 pl se ke wi hs mo po nu pr sq xa sa n64 m64 ex wh sd tk hd ak ho ot sx s0 s1 s2 nf bd mm fm sn hg gc gv ze zt rl (ρ + 10) 6000 xa (ρ + 19) 32 z_379 hW hL_h0 hT_h0 hi_41 ht_42 hi_347 ht_348 (by first | omega | assumption | exact Or.inl rfl) (by first | omega | assumption | exact Or.inl rfl)) ⟨callB_of 3 hts (gi kt_976) rfl rfl rfl (hts _ kt_669) (hts _ kt_977) (by decide +kernel) ⟨Nat.le_of_ble_eq_true rfl, Nat.le_of_ble_eq_true rfl⟩, (hts _ kt_978), (hts _ kt_979)⟩ ⟨fun a U g mk q => ⟨q.1, PTm.calling q.2⟩, pg_recv hK hP hL_h0 hF_378 (q := (RX15, TX15, 59)) rfl, fun U hU hWm => ⟨rfl, PTm.mk hU hWm hP hK hD hE hO⟩⟩ rfl rfl hl.1 rfl (lv_room (Nat.le_of_ble_eq_true rfl)) dX15_sealOf_335 ⟨by show _ + 0 ≤ 0; omega, by show _ + 0 ≤ 0; omega⟩) hS (fun q _ h => hFc q h) hFc (fun u t H1 locs ht hvm hw hB hz1 hk1 hS => ?_)
                obtain ⟨F_383, hB1⟩ := hB
                obtain ⟨hP, hD, hO, hR⟩ := QTm.back hB1 ht hFc hR (fun q h => by simp only [List.mem_cons, List.not_mem_nil, or_false] at h ⊢; omega)
                have hF_384 : F_383 co = .inl (cs 16, 21, .inl f_75) := (hB1.2.2.2 co (by rw [ht_74]; simp)).trans hF_371
                have hF_385 : F_383 sp = .inl (cs 16, 21, .inl f_82) := (hB1.2.2.2 sp (by rw [ht_81]; simp)).trans hF_372
                have hF_386 : F_383 sb = .inl (cs 17, 3000, .inl eb) := (hB1.2.2.2 sb (by rw [ht_39]; simp)).trans hF_373
                have hF_387 : F_383 s0 = .inl (cs 16, 40, .inl e0) := (hB1.2.2.2 s0 (by rw [ht_33]; simp)).trans hF_374
                have hF_388 : F_383 s1 = .inl (cs 16, 40, .inl e1) := (hB1.2.2.2 s1 (by rw [ht_34]; simp)).trans hF_375
                have hF_389 : F_383 s2 = .inl (cs 16, 40, .inl e2) := (hB1.2.2.2 s2 (by rw [ht_35]; simp)).trans hF_376
                have hF_390 : F_383 se = .inr (13, [.ref sx, .ref s0, .ref s1, .ref s2, .int (nI zs)]) := (hB1.2.2.2 se (by rw [ht_29]; simp)).trans hF_377
                have hF_391 : F_383 h0 = .inr (15, (.ref ta) :: (.int (nI zt)) :: (.int (nI zo_326)) :: (.int (nI ze)) :: (.ref ou) :: (.ref so) :: (.ref ad) :: (.ref na) :: (.ref va) :: (.ref lc) :: (.ref dm) :: (.int (nI fm)) :: (.int (nI sn)) :: (.ref tg) :: (.int v14_327) :: (.int v15_328) :: (.ref pe) :: (.int v17_329) :: (.int v18_330) :: (.int v19_331) :: (.int v20_332) :: (.int v21_333) :: (.int v22_334) :: (.ref ml) :: (.ref bg) :: (.ref co) :: (.ref sp) :: (.ref nb0) :: (.ref nb1) :: (.ref nb2) :: (.int (nI nf)) :: (.int (nI bd)) :: (.int (nI mm)) :: (.int v33_335) :: (.ref pl) :: (.ref se) :: (.ref ke) :: (.ref wi) :: (.ref hs) :: (.ref mo) :: (.ref po) :: (.ref nu) :: (.ref pr) :: (.ref sq) :: (.ref xa) :: (.ref sa) :: (.ref n64) :: (.ref m64) :: (.ref ex) :: (.ref wh) :: (.ref sd) :: (.ref tk) :: (.int v52_336) :: (.int v53_337) :: (.int v54_338) :: (.ref hd) :: (.ref ak) :: (.ref ho) :: (.ref ot) :: []) := (hB1.2.2.2 h0 (by rw [hT_h0]; simp)).trans hF_378
                have hF_392 : F_383 pl = .inr (14, [.ref rl, .int (nI z_379)]) := (hB1.2.2.2 pl (by rw [hT_pl]; simp)).trans hF_380
                generalize H1 = H at hP hS ⊢
                refine lv_aload_n hx hb dX15_sealOf_338 rfl (lv_at hl 0 rfl) ?_
                have hFc := pg_free hD hS hA
                refine va_calli (va_runV (As := []) (rest := []) ⟨hx, hb, hml, hown, hts⟩ (s_X15_isPower l dC dI cs ty gm L H.size F_383 h0 ρ ta ou so ad na va lc dm tg pe ml bg co sp nb0 nb1 nb2 pl se ke wi hs mo po nu pr sq xa sa n64 m64 ex wh sd tk hd ak ho ot sx s0 s1 s2 nf bd mm fm sn hg gc gv ze zt hW hL_h0 hT_h0) ⟨callB_of 0 hts (gi kt_987) rfl rfl rfl (hts _ kt_669) (hts _ kt_988) (by decide +kernel) ⟨Nat.le_of_ble_eq_true rfl, Nat.le_of_ble_eq_true rfl⟩, (hts _ kt_989), (hts _ kt_990)⟩ ⟨fun a U g mk q => ⟨q.1, PTm.calling q.2⟩, pg_recv hK hP hL_h0 hF_391 (q := (RX15, TX15, 59)) rfl, fun U hU hWm => ⟨rfl, PTm.mk hU hWm hP hK hD hE hO⟩⟩ rfl rfl hl.1 rfl (lv_room (Nat.le_of_ble_eq_true rfl)) dX15_sealOf_339 ⟨by show _ + 0 ≤ 0; omega, by show _ + 0 ≤ 0; omega⟩) hS (fun q _ h => hFc q h) hFc (fun r_393 u t H1 locs ht hvm hw hB hz1 hk1 hS => ?_)
                obtain ⟨F_394, hB1⟩ := hB
                obtain ⟨hP, hD, hO, hR⟩ := QTm.back hB1 ht hFc hR (fun q h => by simp only [List.mem_cons, List.not_mem_nil, or_false] at h ⊢; omega)
                have hF_395 : F_394 co = .inl (cs 16, 21, .inl f_75) := (hB1.2.2.2 co (by rw [ht_74]; simp)).trans hF_384
                have hF_396 : F_394 sp = .inl (cs 16, 21, .inl f_82) := (hB1.2.2.2 sp (by rw [ht_81]; simp)).trans hF_385
                have hF_397 : F_394 sb = .inl (cs 17, 3000, .inl eb) := (hB1.2.2.2 sb (by rw [ht_39]; simp)).trans hF_386
                have hF_398 : F_394 s0 = .inl (cs 16, 40, .inl e0) := (hB1.2.2.2 s0 (by rw [ht_33]; simp)).trans hF_387
                have hF_399 : F_394 s1 = .inl (cs 16, 40, .inl e1) := (hB1.2.2.2 s1 (by rw [ht_34]; simp)).trans hF_388
                have hF_400 : F_394 s2 = .inl (cs 16, 40, .inl e2) := (hB1.2.2.2 s2 (by rw [ht_35]; simp)).trans hF_389
                have hF_401 : F_394 se = .inr (13, [.ref sx, .ref s0, .ref s1, .ref s2, .int (nI zs)]) := (hB1.2.2.2 se (by rw [ht_29]; simp)).trans hF_390
                have hF_402 : F_394 h0 = .inr (15, (.ref ta) :: (.int (nI zt)) :: (.int (nI zo_326)) :: (.int (nI ze)) :: (.ref ou) :: (.ref so) :: (.ref ad) :: (.ref na) :: (.ref va) :: (.ref lc) :: (.ref dm) :: (.int (nI fm)) :: (.int (nI sn)) :: (.ref tg) :: (.int v14_327) :: (.int v15_328) :: (.ref pe) :: (.int v17_329) :: (.int v18_330) :: (.int v19_331) :: (.int v20_332) :: (.int v21_333) :: (.int v22_334) :: (.ref ml) :: (.ref bg) :: (.ref co) :: (.ref sp) :: (.ref nb0) :: (.ref nb1) :: (.ref nb2) :: (.int (nI nf)) :: (.int (nI bd)) :: (.int (nI mm)) :: (.int v33_335) :: (.ref pl) :: (.ref se) :: (.ref ke) :: (.ref wi) :: (.ref hs) :: (.ref mo) :: (.ref po) :: (.ref nu) :: (.ref pr) :: (.ref sq) :: (.ref xa) :: (.ref sa) :: (.ref n64) :: (.ref m64) :: (.ref ex) :: (.ref wh) :: (.ref sd) :: (.ref tk) :: (.int v52_336) :: (.int v53_337) :: (.int v54_338) :: (.ref hd) :: (.ref ak) :: (.ref ho) :: (.ref ot) :: []) := (hB1.2.2.2 h0 (by rw [hT_h0]; simp)).trans hF_391
                have hF_403 : F_394 pl = .inr (14, [.ref rl, .int (nI z_379)]) := (hB1.2.2.2 pl (by rw [hT_pl]; simp)).trans hF_392
                generalize H1 = H at hP hS ⊢
                have hw : (r_393 = 0 ∨ r_393 = 1) := hw
                have hw_404 := hw
                refine lv_if_eq (tgt := 349) hx hb dX15_sealOf_342 (by decide) (fun c_405 => ?_) (fun c_405 => ?_)
                ·
                  refine lv_iconst (v := 3) hx hb dX15_sealOf_349 (by decide) ?_
                  refine W.widen (k := 0) (n := 0) (by omega) (by omega) ?_
                  exact W.iret (v := 3) hx hb hr (fun t ht hWm => ⟨⟨3, (), rfl, trivial, ⟨F_394, QTm.mk ht hP hD hO hR⟩⟩, hS.F ht⟩) hS.2.2 dX15_sealOf_350
                ·
                  refine lv_iconst (v := 2) hx hb dX15_sealOf_345 (by decide) ?_
                  refine lv_goto (tgt := 350) hx hb dX15_sealOf_346 (by decide) ?_
                  refine W.widen (k := 0) (n := 0) (by omega) (by omega) ?_
                  exact W.iret (v := 2) hx hb hr (fun t ht hWm => ⟨⟨2, (), rfl, trivial, ⟨F_394, QTm.mk ht hP hD hO hR⟩⟩, hS.F ht⟩) hS.2.2 dX15_sealOf_350
              ·
                refine lv_iconst (v := 3) hx hb dX15_sealOf_309 (by decide) ?_
                refine W.widen (k := 0) (n := 0) (by omega) (by omega) ?_
                exact W.iret (v := 3) hx hb hr (fun t ht hWm => ⟨⟨3, (), rfl, trivial, ⟨F_352, QTm.mk ht hP hD hO hR⟩⟩, hS.F ht⟩) hS.2.2 dX15_sealOf_310
            ·
              refine lv_iload hx hb dX15_sealOf_271 (lv_at hl 0 rfl) ?_
              refine lv_if_lt (tgt := 281) hx hb dX15_sealOf_273 (by decide) (fun c_406 => ?_) (fun c_406 => ?_)
              ·
                refine lv_aload_n hx hb dX15_sealOf_281 rfl (lv_at hl 2 rfl) ?_
                refine pg_get (ci := 15) (v := .ref pl) (C := RX15) (T := TX15) (N := 59) hx hb hts it_15 hown hK hP hL_h0 hF_308 rfl 34 (by decide) (hts _ kt_901) (fun _ h9 => h9) rfl dX15_sealOf_282 ?_
                refine pg_get (ci := 14) (v := .int (nI z_315)) (C := RX14) (T := TX14) (N := 2) hx hb hts it_14 hown hK hP hL_pl hF_316 rfl 1 (by decide) (hts _ kt_709) (fun _ h9 => h9) rfl dX15_sealOf_285 ?_
                refine W.widen (k := 0) (n := 0) (by omega) (by omega) ?_
                exact jn_319 (nI z_315) F_299 (⟨⟨z_315, by omega, rfl⟩, hF_302, hF_303, hF_304, hF_305, hF_306⟩) hO hR _ _ hP hD hS ls (lv_sub hl [2, 3, 4] rfl)
              ·
                have hr9 := c_318
                obtain ⟨km, hkm, ekm⟩ := nI_of c_406
                subst ekm
                have hkz : km ≤ z_315 := (nI_leI hkm (by omega)).mp hr9
                refine lv_iload hx hb dX15_sealOf_276 (lv_at hl 0 rfl) ?_
                refine lv_goto (tgt := 288) hx hb dX15_sealOf_278 (by decide) ?_
                refine W.widen (k := 0) (n := 0) (by omega) (by omega) ?_
                exact jn_319 (nI km) F_299 (⟨⟨km, by omega, rfl⟩, hF_302, hF_303, hF_304, hF_305, hF_306⟩) hO hR _ _ hP hD hS ls (lv_sub hl [2, 3, 4] rfl)
          ·
            refine lv_iconst (v := 3) hx hb dX15_sealOf_261 (by decide) ?_
            refine W.widen (k := 0) (n := 0) (by omega) (by omega) ?_
            exact W.iret (v := 3) hx hb hr (fun t ht hWm => ⟨⟨3, (), rfl, trivial, ⟨F_299, QTm.mk ht hP hD hO hR⟩⟩, hS.F ht⟩) hS.2.2 dX15_sealOf_262
        ·
          refine lv_iload hx hb dX15_sealOf_226 (lv_at hl 0 rfl) ?_
          refine W.widen (k := 0) (n := 0) (by omega) (by omega) ?_
          exact W.iret (v := r_284) hx hb hr (fun t ht hWm => ⟨⟨r_284, (), rfl, trivial, ⟨F_285, QTm.mk ht hP hD hO hR⟩⟩, hS.F ht⟩) hS.2.2 dX15_sealOf_228
      ·
        have hi_407 : j < 12 := ltN (N := 12) c_249
        refine lv_aload_n hx hb dX15_sealOf_171 rfl (lv_at hl 1 rfl) ?_
        obtain ⟨zo_408, v14_409, v15_410, v17_411, v18_412, v19_413, v20_414, v21_415, v22_416, v33_417, v52_418, v53_419, v54_420, hF_421, hq_422, hq_423, hq_424, hq_425, hq_426⟩ := hO.mod hL_h0 hT_h0
        refine pg_get (ci := 15) (v := .ref wh) (C := RX15) (T := TX15) (N := 59) hx hb hts it_15 hown hK hP hL_h0 hF_421 rfl 49 (by decide) (hts _ kt_938) (fun _ h9 => h9) rfl dX15_sealOf_172 ?_
        obtain ⟨q_427, v_428, hr_q_427, hX_q_427⟩ := hG.2.2 ("PostGateModel", 514, "._domainkey.", [46, 95, 100, 111, 109, 97, 105, 110, 107, 101, 121, 46]) (by decide +kernel)
        have hX_q_427 : SXc q_427 v_428 12 (cct [46, 95, 100, 111, 109, 97, 105, 110, 107, 101, 121, 46]) A s s.heap := hX_q_427
        obtain ⟨xo_q_427, xc_q_427, xv_q_427, xt_q_427, xn_q_427⟩ := id hX_q_427
        have hr_q_427 : vk_R "PostGateModel" 514 "._domainkey." q_427 s := hr_q_427
        refine va_ldcwS hx hb hown hr_q_427 dX15_sealOf_175 ?_
        refine lv_iload hx hb dX15_sealOf_178 (lv_at hl 0 rfl) ?_
        have hFc := pg_free hD hS hA
        refine va_calli (va_runV (As := [.int (nI j)]) (rest := [.ref wh]) ⟨hx, hb, hml, hown, hts⟩ (m_J0_charAt_5068e l dC dI cs ty gm L H.size F_242 q_427 v_428 12 (cct [46, 95, 100, 111, 109, 97, 105, 110, 107, 101, 121, 46]) j hW (by first | omega | assumption | exact Or.inl rfl)) ⟨callB_of 1 hts (gi kt_75) rfl rfl rfl (hts _ kt_51) (hts _ kt_693) (by decide +kernel) ⟨Nat.le_of_ble_eq_true rfl, Nat.le_of_ble_eq_true rfl⟩, (hts _ kt_77), (hts _ kt_78)⟩ ⟨fun a U g mk q => ⟨q.1, PTEm.calling q.2⟩, sx_recv hX_q_427.sx hS, fun U hU hWm => ⟨rfl, PTEm.mk hU hWm hP hK hD hE hO hG (fun x hx => by rw [List.mem_singleton] at hx; subst hx; exact hX_q_427) hS hFc⟩⟩ rfl rfl hl.1 rfl (lv_room (Nat.le_of_ble_eq_true rfl)) dX15_sealOf_180 ⟨by show _ + 0 ≤ 0; omega, by show _ + 0 ≤ 0; omega⟩) hS (fun q _ h => hFc q h) hFc (fun r_429 u t H1 locs ht hvm hw hB hz1 hk1 hS => ?_)
        obtain ⟨F_430, hB1⟩ := hB
        obtain rfl : F_242 = F_430 := (funext (fun a => hB1.2.2.2 a List.not_mem_nil)).symm
        obtain ⟨hP, hD, hO, hR⟩ := QTm.back hB1 ht hFc hR (fun q h => absurd h List.not_mem_nil)
        generalize H1 = H at hP hS ⊢
        have hw : r_429 = chv ((cct [46, 95, 100, 111, 109, 97, 105, 110, 107, 101, 121, 46]) j) := hw
        subst hw
        have hFc := pg_free hD hS hA
        refine va_callv (va_runV (As := [.int (chv ((cct [46, 95, 100, 111, 109, 97, 105, 110, 107, 101, 121, 46]) j))]) (rest := []) ⟨hx, hb, hml, hown, hts⟩ (s_X14_add l dC dI cs ty gm L H.size F_242 wh (ρ + 24) r_17 6000 ((k_222 - (k_216 + 1)) + j) (chv ((cct [46, 95, 100, 111, 109, 97, 105, 110, 107, 101, 121, 46]) j)) hW hi_44 ht_45 hwh2 (by first | omega | assumption | exact Or.inl rfl)) ⟨callB_of 1 hts (gi kt_711) rfl rfl rfl (hts _ kt_676) (hts _ kt_712) (by decide +kernel) ⟨Nat.le_of_ble_eq_true rfl, Nat.le_of_ble_eq_true rfl⟩, (hts _ kt_713), (hts _ kt_714)⟩ ⟨fun a U g mk q => ⟨q.1, PTm.calling q.2⟩, pg_recv hK hP hi_44 hwh2 (q := (RX14, TX14, 2)) rfl, fun U hU hWm => ⟨rfl, PTm.mk hU hWm hP hK hD hE hO⟩⟩ rfl rfl hl.1 rfl (lv_room (Nat.le_of_ble_eq_true rfl)) dX15_sealOf_183 ⟨by show _ + 0 ≤ 0; omega, by show _ + 0 ≤ 0; omega⟩) hS (fun q _ h => hFc q h) hFc (fun u t H1 locs ht hvm hw hB hz1 hk1 hS => ?_)
        obtain ⟨F_432, hB1, hq_433⟩ := hB
        obtain ⟨hP, hD, hO, hR⟩ := QTm.back hB1 ht hFc hR (fun q h => by simp only [List.mem_cons, List.not_mem_nil, or_false] at h ⊢; omega)
        have hF_434 : F_432 co = .inl (cs 16, 21, .inl f_75) := (hB1.2.2.2 co (by rw [ht_74]; simp)).trans hF_247
        have hF_435 : F_432 sp = .inl (cs 16, 21, .inl f_82) := (hB1.2.2.2 sp (by rw [ht_81]; simp)).trans hF_248
        have hF_436 : F_432 sb = .inl (cs 17, 3000, .inl eb) := (hB1.2.2.2 sb (by rw [ht_39]; simp)).trans hna
        have hF_437 : F_432 s0 = .inl (cs 16, 40, .inl e0) := (hB1.2.2.2 s0 (by rw [ht_33]; simp)).trans hnb
        have hF_438 : F_432 s1 = .inl (cs 16, 40, .inl e1) := (hB1.2.2.2 s1 (by rw [ht_34]; simp)).trans hnc
        have hF_439 : F_432 s2 = .inl (cs 16, 40, .inl e2) := (hB1.2.2.2 s2 (by rw [ht_35]; simp)).trans hnd
        have hF_440 : F_432 se = .inr (13, [.ref sx, .ref s0, .ref s1, .ref s2, .int (nI zs)]) := (hB1.2.2.2 se (by rw [ht_29]; simp)).trans hne
        have hF_441 : F_432 sd = .inr (14, [.ref r_18, .int (nI (k_165 - (k_159 + 1)))]) := (hB1.2.2.2 sd (by rw [ht_50]; simp)).trans hsd2
        have hF_442 : F_432 h0 = .inr (15, (.ref ta) :: (.int (nI zt)) :: (.int (nI zo_408)) :: (.int (nI ze)) :: (.ref ou) :: (.ref so) :: (.ref ad) :: (.ref na) :: (.ref va) :: (.ref lc) :: (.ref dm) :: (.int (nI fm)) :: (.int (nI sn)) :: (.ref tg) :: (.int v14_409) :: (.int v15_410) :: (.ref pe) :: (.int v17_411) :: (.int v18_412) :: (.int v19_413) :: (.int v20_414) :: (.int v21_415) :: (.int v22_416) :: (.ref ml) :: (.ref bg) :: (.ref co) :: (.ref sp) :: (.ref nb0) :: (.ref nb1) :: (.ref nb2) :: (.int (nI nf)) :: (.int (nI bd)) :: (.int (nI mm)) :: (.int v33_417) :: (.ref pl) :: (.ref se) :: (.ref ke) :: (.ref wi) :: (.ref hs) :: (.ref mo) :: (.ref po) :: (.ref nu) :: (.ref pr) :: (.ref sq) :: (.ref xa) :: (.ref sa) :: (.ref n64) :: (.ref m64) :: (.ref ex) :: (.ref wh) :: (.ref sd) :: (.ref tk) :: (.int v52_418) :: (.int v53_419) :: (.int v54_420) :: (.ref hd) :: (.ref ak) :: (.ref ho) :: (.ref ot) :: []) := (hB1.2.2.2 h0 (by rw [hT_h0]; simp)).trans hF_421
        generalize H1 = H at hP hS ⊢
        refine lv_iinc (v := (nI (j + 1))) (lv' := [(6, .int (nI (j + 1))), (0, .ref h0), (1, .int (nI jf)), (2, .int x2)]) hx hb dX15_sealOf_186 hl (k := 0) rfl (nI_1 _) (by decide) rfl (fun ls hl => ?_)
        refine lv_goto (tgt := 164) hx hb dX15_sealOf_189 (by decide) ?_
        refine W.widen (k := 0) (n := 0) (by omega) (by omega) ?_
        exact ih_246 (j + 1) F_432 (⟨by omega, hF_436, hF_437, hF_438, hF_439, hF_440, hF_441, hq_433⟩) (by show 12 - (j + 1) < 12 - j; omega) hO hR _ _ hP hD hS ls (lv_sub hl [0, 1, 2, 3] rfl)
    ·
      refine lv_iload hx hb dX15_sealOf_109 (lv_at hl 0 rfl) ?_
      refine lv_if_lt (tgt := 122) hx hb dX15_sealOf_111 (by decide) (fun c_443 => ?_) (fun c_443 => ?_)
      ·
        refine W.widen (k := 0) (n := 0) (by omega) (by omega) ?_
        exact jn_186 () F_175 (⟨hF_180, hF_181, hF_182, hF_183, hF_184, hq_176⟩) hO hR _ _ hP hD hS ls (lv_sub hl [1, 3, 4, 5] rfl)
      ·
        refine lv_iload_n hx hb dX15_sealOf_114 rfl (lv_at hl 5 rfl) ?_
        refine lv_iload hx hb dX15_sealOf_115 (lv_at hl 0 rfl) ?_
        refine lv_icmp_le (tgt := 122) hx hb dX15_sealOf_117 (by decide) (fun c_444 => ?_) (fun c_444 => ?_)
        ·
          refine W.widen (k := 0) (n := 0) (by omega) (by omega) ?_
          exact jn_186 () F_175 (⟨hF_180, hF_181, hF_182, hF_183, hF_184, hq_176⟩) hO hR _ _ hP hD hS ls (lv_sub hl [1, 3, 4, 5] rfl)
        ·
          refine lv_iconst (v := 3) hx hb dX15_sealOf_120 (by decide) ?_
          refine W.widen (k := 0) (n := 0) (by omega) (by omega) ?_
          exact W.iret (v := 3) hx hb hr (fun t ht hWm => ⟨⟨3, (), rfl, trivial, ⟨F_175, QTm.mk ht hP hD hO hR⟩⟩, hS.F ht⟩) hS.2.2 dX15_sealOf_121
  ·
    refine lv_iconst (v := 1) hx hb dX15_sealOf_35 (by decide) ?_
    refine W.widen (k := 0) (n := 0) (by omega) (by omega) ?_
    exact W.iret (v := 1) hx hb hr (fun t ht hWm => ⟨⟨1, (), rfl, trivial, ⟨F_104, QTm.mk ht hP hD hO hR⟩⟩, hS.F ht⟩) hS.2.2 dX15_sealOf_36
set_option maxHeartbeats 4000000 in
set_option maxRecDepth 100000 in
theorem s_X15_sealed (l : Launch) (dC : Nat → ClassId) (dI : Nat → Nat → Nat) (cs : Nat → ClassId) (ty : TyM) (gm : Nat → Nat → Nat) (L : List Nat) (sz : Nat) (F : Nat → va_E) (h0 : Nat) (ρ : Nat) (ta : Nat) (ou : Nat) (so : Nat) (ad : Nat) (na : Nat) (va : Nat) (lc : Nat) (dm : Nat) (tg : Nat) (pe : Nat) (ml : Nat) (bg : Nat) (co : Nat) (sp : Nat) (nb0 : Nat) (nb1 : Nat) (nb2 : Nat) (pl : Nat) (se : Nat) (ke : Nat) (wi : Nat) (hs : Nat) (mo : Nat) (po : Nat) (nu : Nat) (pr : Nat) (sq : Nat) (xa : Nat) (sa : Nat) (n64 : Nat) (m64 : Nat) (ex : Nat) (wh : Nat) (sd : Nat) (tk : Nat) (hd : Nat) (ak : Nat) (ho : Nat) (ot : Nat) (sx : Nat) (s0 : Nat) (s1 : Nat) (s2 : Nat) (nf : Nat) (bd : Nat) (mm : Nat) (fm : Nat) (sn : Nat) (hg : Nat) (gc : Nat) (gv : Nat) (ze : Nat) (zt : Nat) (sb : Nat) (rl : Nat) (x1 : Int32) (x2 : Int32) (hW : WTm ty gm L) (hL_h0 : h0 ∈ L) (hT_h0 : ty h0 = (15, ρ, [ta, ou, so, ad, na, va, lc, dm, tg, pe, ml, bg, co, sp, nb0, nb1, nb2, pl, se, ke, wi, hs, mo, po, nu, pr, sq, xa, sa, n64, m64, ex, wh, sd, tk, hd, ak, ho, ot, sx, s0, s1, s2, nf, bd, mm, fm, sn, hg, gc, gv, ze, zt])) (hL_sx : sx ∈ L) (hT_sx : ty sx = (14, ρ + 12, [sb, 3000])) (hL_pl : pl ∈ L) (hT_pl : ty pl = (14, ρ + 10, [rl, 6000])) : Met l yX15_sealed (.code yX15_sealed cX15_sealed 4 (some .int) :: tb) ({ frames := 9, cells := 0, slots := 0, locals := 213 }) (va_Pc [.ref h0, .int x1, .int x2] (PTEm (dC, dI) cs ty gm L F sz [])) (va_Qi (fun (r : Int32) (_ : Unit) => True) (fun _ T9 => ∃ F2 : Nat → va_E, QTm (dC, dI) cs ty gm L [ρ, ρ + 10, ρ + 11, ρ + 12, ρ + 13, ρ + 14, ρ + 17, ρ + 18, ρ + 19, ρ + 20, ρ + 21, ρ + 22, ρ + 23, ρ + 24, ρ + 25, ρ + 26, ρ + 81, ρ + 82, ρ + 83, ρ + 84] F F2 (va_A (va_pl L F) sz) T9) (va_A (va_pl L F) sz)) 0 0 (va_A (va_pl L F) sz) := by
  refine Met.ofW (cc := cX15_sealed) (maxL := 4) (ret := (some .int)) (by decide) rfl ?_
  intro p e s m args below meth c s₁ B hml hv
  obtain ⟨rfl, ⟨hsz, hP, hK, hD0, hE, hO⟩, hG, hX⟩ := hv
  have hx := B.exec
  have hb := B.bytes
  have hr := B.returns
  have hts : ∀ w ∈ tb, w.before _ s = true := fun w h => atoms_spec (ws := .code yX15_sealed cX15_sealed 4 (some .int) :: tb) B.pre w (List.mem_cons_of_mem _ h)
  have hown : s.vm.findClass RX15 = some m.cls := findClass_of_methodNamed B.named
  have hlocks := B.notSynchronized
  subst hsz
  have hD := hD0.self (sz := s.heap.size)
  generalize hAe : va_A (va_pl L F) s.heap.size = A at hD hG hX ⊢
  have hA : ∀ q : Nat, s.heap.size ≤ q → A q := fun q h => by rw [← hAe]; exact Or.inr h
  have hS : va_S A s.heap s.heap [] := va_S.rf
  have hR : FR ty [ρ, ρ + 10, ρ + 11, ρ + 12, ρ + 13, ρ + 14, ρ + 17, ρ + 18, ρ + 19, ρ + 20, ρ + 21, ρ + 22, ρ + 23, ρ + 24, ρ + 25, ρ + 26, ρ + 81, ρ + 82, ρ + 83, ρ + 84] F F := FR.refl
  have hl := lv_entry ([.ref h0, .int x1, .int x2]) (n := 4) (Nat.le_of_ble_eq_true rfl)
  rw [lg_entry_eq]
  generalize (lg_sl ([.ref h0, .int x1, .int x2]) ++ List.replicate (4 - (lg_sl ([.ref h0, .int x1, .int x2])).length) Slot.unset).toArray = ls at hl ⊢
  have hl : lv_has ls 4 [(0, .ref h0), (1, .int x1), (2, .int x2)] := hl
  obtain ⟨hq_22, hq_23, hq_24, hq_25, hq_26, hgO, hgA, hgB, hq_27⟩ := hW.sc hL_h0 hT_h0
  obtain ⟨hi_28, ht_29⟩ := hW.f_se hL_h0 hT_h0
  obtain ⟨_, hi_30, hi_31, hi_32, _, ht_33, ht_34, ht_35, hq_36, hq_37⟩ := hW.tags hi_28 ht_29
  have ht_34 : ty s1 = (25, ρ + 81, [40, 1280]) := ht_34
  have ht_35 : ty s2 = (25, ρ + 82, [40, 1280]) := ht_35
  obtain ⟨hi_38, ht_39, hq_40⟩ := hW.txt hL_sx hT_sx
  obtain ⟨hi_41, ht_42, hq_43⟩ := hW.txt hL_pl hT_pl
  refine lv_iload_n hx hb dX15_sealed_0 rfl (lv_at hl 2 rfl) ?_
  refine lv_if_ge (tgt := 6) hx hb dX15_sealed_1 (by decide) (fun c_44 => ?_) (fun c_44 => ?_)
  ·
    refine lv_aload_n hx hb dX15_sealed_6 rfl (lv_at hl 0 rfl) ?_
    refine lv_iload_n hx hb dX15_sealed_7 rfl (lv_at hl 1 rfl) ?_
    have hFc := pg_free hD hS hA
    obtain ⟨zo_45, v14_46, v15_47, v17_48, v18_49, v19_50, v20_51, v21_52, v22_53, v33_54, v52_55, v53_56, v54_57, hF_58, hq_59, hq_60, hq_61, hq_62, hq_63⟩ := hO.mod hL_h0 hT_h0
    refine va_calli (va_runV (As := [.int x1]) (rest := []) ⟨hx, hb, hml, hown, hts⟩ (s_X15_sealAt l dC dI cs ty gm L s.heap.size F h0 ρ ta ou so ad na va lc dm tg pe ml bg co sp nb0 nb1 nb2 pl se ke wi hs mo po nu pr sq xa sa n64 m64 ex wh sd tk hd ak ho ot sx s0 s1 s2 nf bd mm fm sn hg gc gv ze zt x1 hW hL_h0 hT_h0) ⟨callB_of 1 hts (gi kt_991) rfl rfl rfl (hts _ kt_669) (hts _ kt_992) (by decide +kernel) ⟨Nat.le_of_ble_eq_true rfl, Nat.le_of_ble_eq_true rfl⟩, (hts _ kt_993), (hts _ kt_994)⟩ ⟨fun a U g mk q => ⟨q.1, PTEm.calling q.2⟩, pg_recv hK hP hL_h0 hF_58 (q := (RX15, TX15, 59)) rfl, fun U hU hWm => ⟨rfl, PTEm.mk hU hWm hP hK hD hE hO hG (fun x hx => absurd hx List.not_mem_nil) hS hFc⟩⟩ rfl rfl hl.1 rfl (lv_room (Nat.le_of_ble_eq_true rfl)) dX15_sealed_8 ⟨by show _ + 0 ≤ 0; omega, by show _ + 0 ≤ 0; omega⟩) hS (fun q _ h => hFc q h) hFc (fun r_64 u t H1 locs ht hvm hw hB hz1 hk1 hS => ?_)
    obtain ⟨F_65, hB1⟩ := hB
    obtain rfl : F = F_65 := (funext (fun a => hB1.2.2.2 a List.not_mem_nil)).symm
    obtain ⟨hP, hD, hO, hR⟩ := QTm.back hB1 ht hFc hR (fun q h => absurd h List.not_mem_nil)
    generalize H1 = H at hP hS ⊢
    have hw : (r_64 = (-1) ∨ ∃ j : Nat, j < nf ∧ r_64 = nI j) := hw
    have hw_66 := hw
    refine lv_istore_n (lv' := [(3, .int r_64), (0, .ref h0), (1, .int x1), (2, .int x2)]) hx hb dX15_sealed_11 rfl hl (by decide) rfl (fun ls hl => ?_)
    refine lv_iload_n hx hb dX15_sealed_12 rfl (lv_at hl 0 rfl) ?_
    refine lv_if_ge (tgt := 21) hx hb dX15_sealed_13 (by decide) (fun c_67 => ?_) (fun c_67 => ?_)
    ·
      obtain ⟨jf, hjf, ej⟩ := rowB hw_66 c_67
      subst ej
      refine lv_aload_n hx hb dX15_sealed_21 rfl (lv_at hl 1 rfl) ?_
      refine lv_iload_n hx hb dX15_sealed_22 rfl (lv_at hl 0 rfl) ?_
      refine lv_iload_n hx hb dX15_sealed_23 rfl (lv_at hl 3 rfl) ?_
      have hFc := pg_free hD hS hA
      refine va_calli (va_runV (As := [.int (nI jf), .int x2]) (rest := []) ⟨hx, hb, hml, hown, hts⟩ (s_X15_sealOf l dC dI cs ty gm L H.size F h0 ρ ta ou so ad na va lc dm tg pe ml bg co sp nb0 nb1 nb2 pl se ke wi hs mo po nu pr sq xa sa n64 m64 ex wh sd tk hd ak ho ot sx s0 s1 s2 nf bd mm fm sn hg gc gv ze zt sb rl jf x2 hW hL_h0 hT_h0 hL_sx hT_sx hL_pl hT_pl (by first | omega | assumption | exact Or.inl rfl)) ⟨callB_of 2 hts (gi kt_995) rfl rfl rfl (hts _ kt_669) (hts _ kt_996) (by decide +kernel) ⟨Nat.le_of_ble_eq_true rfl, Nat.le_of_ble_eq_true rfl⟩, (hts _ kt_997), (hts _ kt_998)⟩ ⟨fun a U g mk q => ⟨q.1, PTEm.calling q.2⟩, pg_recv hK hP hL_h0 hF_58 (q := (RX15, TX15, 59)) rfl, fun U hU hWm => ⟨rfl, PTEm.mk hU hWm hP hK hD hE hO hG (fun x hx => absurd hx List.not_mem_nil) hS hFc⟩⟩ rfl rfl hl.1 rfl (lv_room (Nat.le_of_ble_eq_true rfl)) dX15_sealed_24 ⟨by show _ + 0 ≤ 0; omega, by show _ + 0 ≤ 0; omega⟩) hS (fun q _ h => hFc q h) hFc (fun r_68 u t H1 locs ht hvm hw hB hz1 hk1 hS => ?_)
      obtain ⟨F_69, hB1⟩ := hB
      obtain ⟨hP, hD, hO, hR⟩ := QTm.back hB1 ht hFc hR (fun q h => by simp only [List.mem_cons, List.not_mem_nil, or_false] at h ⊢; omega)
      generalize H1 = H at hP hS ⊢
      have hw : True := hw
      have hw_70 := hw
      refine W.widen (k := 0) (n := 0) (by omega) (by omega) ?_
      exact W.iret (v := r_68) hx hb hr (fun t ht hWm => ⟨⟨r_68, (), rfl, trivial, ⟨F_69, QTm.mk ht hP hD hO hR⟩⟩, hS.F ht⟩) hS.2.2 dX15_sealed_27
    ·
      refine lv_bipush (v := (-2)) hx hb dX15_sealed_16 (by decide) ?_
      refine lv_goto (tgt := 27) hx hb dX15_sealed_18 (by decide) ?_
      refine W.widen (k := 0) (n := 0) (by omega) (by omega) ?_
      exact W.iret (v := (-2)) hx hb hr (fun t ht hWm => ⟨⟨(-2), (), rfl, trivial, ⟨F, QTm.mk ht hP hD hO hR⟩⟩, hS.F ht⟩) hS.2.2 dX15_sealed_27
  ·
    refine lv_iconst (v := (-1)) hx hb dX15_sealed_4 (by decide) ?_
    refine W.widen (k := 0) (n := 0) (by omega) (by omega) ?_
    exact W.iret (v := (-1)) hx hb hr (fun t ht hWm => ⟨⟨(-1), (), rfl, trivial, ⟨F, QTm.mk ht hP hD hO hR⟩⟩, hS.F ht⟩) hS.2.2 dX15_sealed_5
set_option maxHeartbeats 4000000 in
set_option maxRecDepth 100000 in
theorem s_X15_isSeen (l : Launch) (dC : Nat → ClassId) (dI : Nat → Nat → Nat) (cs : Nat → ClassId) (ty : TyM) (gm : Nat → Nat → Nat) (L : List Nat) (sz : Nat) (F : Nat → va_E) (h0 : Nat) (ρ : Nat) (ta : Nat) (ou : Nat) (so : Nat) (ad : Nat) (na : Nat) (va : Nat) (lc : Nat) (dm : Nat) (tg : Nat) (pe : Nat) (ml : Nat) (bg : Nat) (co : Nat) (sp : Nat) (nb0 : Nat) (nb1 : Nat) (nb2 : Nat) (pl : Nat) (se : Nat) (ke : Nat) (wi : Nat) (hs : Nat) (mo : Nat) (po : Nat) (nu : Nat) (pr : Nat) (sq : Nat) (xa : Nat) (sa : Nat) (n64 : Nat) (m64 : Nat) (ex : Nat) (wh : Nat) (sd : Nat) (tk : Nat) (hd : Nat) (ak : Nat) (ho : Nat) (ot : Nat) (sx : Nat) (s0 : Nat) (s1 : Nat) (s2 : Nat) (nf : Nat) (bd : Nat) (mm : Nat) (fm : Nat) (sn : Nat) (hg : Nat) (gc : Nat) (gv : Nat) (ze : Nat) (zt : Nat) (rak : Nat) (hW : WTm ty gm L) (hL_h0 : h0 ∈ L) (hT_h0 : ty h0 = (15, ρ, [ta, ou, so, ad, na, va, lc, dm, tg, pe, ml, bg, co, sp, nb0, nb1, nb2, pl, se, ke, wi, hs, mo, po, nu, pr, sq, xa, sa, n64, m64, ex, wh, sd, tk, hd, ak, ho, ot, sx, s0, s1, s2, nf, bd, mm, fm, sn, hg, gc, gv, ze, zt])) (hL_ak : ak ∈ L) (hT_ak : ty ak = (14, ρ + 28, [rak, 6000])) : Met l yX15_isSeen (.code yX15_isSeen cX15_isSeen 4 (some .boolean) :: tb) ({ frames := 6, cells := 0, slots := 0, locals := 131 }) (va_Pc [.ref h0] (PTEm (dC, dI) cs ty gm L F sz [])) (va_Qi (fun (r : Int32) (wr : Int32) => (r = wr ∧ (r = 0 ∨ r = 1))) (fun (wr : Int32) T9 => ∃ F2 : Nat → va_E, ∃ za : Nat, QTm (dC, dI) cs ty gm L [ρ + 28] F F2 (va_A (va_pl L F) sz) T9 ∧ F2 ak = .inr (14, [.ref rak, .int (nI za)]) ∧ (wr = 1 → za ≤ 60)) (va_A (va_pl L F) sz)) 0 0 (va_A (va_pl L F) sz) := by
  refine Met.ofW (cc := cX15_isSeen) (maxL := 4) (ret := (some .boolean)) (by decide) rfl ?_
  intro p e s m args below meth c s₁ B hml hv
  obtain ⟨rfl, ⟨hsz, hP, hK, hD0, hE, hO⟩, hG, hX⟩ := hv
  have hx := B.exec
  have hb := B.bytes
  have hr := B.returns
  have hts : ∀ w ∈ tb, w.before _ s = true := fun w h => atoms_spec (ws := .code yX15_isSeen cX15_isSeen 4 (some .boolean) :: tb) B.pre w (List.mem_cons_of_mem _ h)
  have hown : s.vm.findClass RX15 = some m.cls := findClass_of_methodNamed B.named
  have hlocks := B.notSynchronized
  subst hsz
  have hD := hD0.self (sz := s.heap.size)
  generalize hAe : va_A (va_pl L F) s.heap.size = A at hD hG hX ⊢
  have hA : ∀ q : Nat, s.heap.size ≤ q → A q := fun q h => by rw [← hAe]; exact Or.inr h
  have hS : va_S A s.heap s.heap [] := va_S.rf
  have hR : FR ty [ρ + 28] F F := FR.refl
  have hl := lv_entry ([.ref h0]) (n := 4) (Nat.le_of_ble_eq_true rfl)
  rw [lg_entry_eq]
  generalize (lg_sl ([.ref h0]) ++ List.replicate (4 - (lg_sl ([.ref h0])).length) Slot.unset).toArray = ls at hl ⊢
  have hl : lv_has ls 4 [(0, .ref h0)] := hl
  obtain ⟨hq_22, hq_23, hq_24, hq_25, hq_26, hgO, hgA, hgB, hq_27⟩ := hW.sc hL_h0 hT_h0
  obtain ⟨hi_28, ht_29, hq_30⟩ := hW.txt hL_ak hT_ak
  refine lv_iconst (v := (-1)) hx hb dX15_isSeen_0 (by decide) ?_
  refine lv_istore_n (lv' := [(1, .int (-1)), (0, .ref h0)]) hx hb dX15_isSeen_1 rfl hl (by decide) rfl (fun ls hl => ?_)
  refine lv_iconst (v := 0) hx hb dX15_isSeen_2 (by decide) ?_
  refine lv_istore_n (lv' := [(2, .int 0), (1, .int (-1)), (0, .ref h0)]) hx hb dX15_isSeen_3 rfl hl (by decide) rfl (fun ls hl => ?_)
  refine W.widen (k := 0) (n := 0) (by omega) (by omega) ?_
  refine pl_loopm (σ := Nat × Int32) A (dC, dI) cs ty gm L [ρ + 28] F 4 4 (fun (j, w1) => [(2, .int (nI j)), (1, .int w1), (0, .ref h0)]) (fun (j, w1) => []) (fun (j, w1) _ => j ≤ nf ∧ (w1 = (-1) ∨ ∃ i : Nat, i < nf ∧ w1 = nI i)) (fun (j, w1) => nf - j) ?_ (0, (-1)) F (⟨by omega, Or.inl rfl⟩) hO hR _ _ hP hD hS ls (lv_sub hl [0, 1, 2] rfl)
  rintro ⟨j, w1⟩ F_31 hv_32 hO hR ih_33 H locs hP hD hS ls hl
  have hl : lv_has ls 4 [(2, .int (nI j)), (1, .int w1), (0, .ref h0)] := hl
  have hv_32 : j ≤ nf ∧ (w1 = (-1) ∨ ∃ i : Nat, i < nf ∧ w1 = nI i) := hv_32
  refine W.eq (g2 := F0 m 4 ls []) rfl ?_
  obtain ⟨hv1, hv2⟩ := hv_32
  refine lv_iload_n hx hb dX15_isSeen_4 rfl (lv_at hl 0 rfl) ?_
  refine lv_aload_n hx hb dX15_isSeen_5 rfl (lv_at hl 2 rfl) ?_
  obtain ⟨zo_34, v14_35, v15_36, v17_37, v18_38, v19_39, v20_40, v21_41, v22_42, v33_43, v52_44, v53_45, v54_46, hF_47, hq_48, hq_49, hq_50, hq_51, hq_52⟩ := hO.mod hL_h0 hT_h0
  refine pg_get (ci := 15) (v := .int (nI nf)) (C := RX15) (T := TX15) (N := 59) hx hb hts it_15 hown hK hP hL_h0 hF_47 rfl 30 (by decide) (hts _ kt_892) (fun _ h9 => h9) rfl dX15_isSeen_6 ?_
  refine lv_icmp_ge (tgt := 40) hx hb dX15_isSeen_9 (by decide) (fun c_53 => ?_) (fun c_53 => ?_)
  ·
    have hi_54 : nf ≤ j := leN (N := nf) c_53
    refine lv_iload_n hx hb dX15_isSeen_40 rfl (lv_at hl 1 rfl) ?_
    refine lv_if_ge (tgt := 46) hx hb dX15_isSeen_41 (by decide) (fun c_55 => ?_) (fun c_55 => ?_)
    ·
      obtain ⟨jf, hjf, ej⟩ := rowB hv2 c_55
      subst ej
      have hoj := hgO jf hjf
      refine lv_aload_n hx hb dX15_isSeen_46 rfl (lv_at hl 2 rfl) ?_
      refine pg_get (ci := 15) (v := .ref sp) (C := RX15) (T := TX15) (N := 59) hx hb hts it_15 hown hK hP hL_h0 hF_47 rfl 26 (by decide) (hts _ kt_890) (fun _ h9 => h9) rfl dX15_isSeen_47 ?_
      refine lv_iload_n hx hb dX15_isSeen_50 rfl (lv_at hl 1 rfl) ?_
      obtain ⟨hi_56, ht_57⟩ := hW.f_sp hL_h0 hT_h0
      obtain ⟨f_58, hF_59, hq_60⟩ := hO.pos hi_56 ht_57
      refine pg_iald hx hb hK hP hi_56 0 hF_59 rfl (vp_in_nI (by omega) (by omega)) dX15_isSeen_51 ?_
      refine lv_topi (fun x_61 ex_61 => ?_)
      obtain rfl : x_61 = (nI (gm 2 jf)) := ex_61.trans (by rw [show ((nI jf) : Int32) = nI jf from rfl, nI_clamp (by omega)]; exact hq_60 jf (by omega))
      have hgbx_61 := hgB 2 jf
      refine lv_iconst (v := 1) hx hb dX15_isSeen_52 (by decide) ?_
      refine lv_isub hx hb dX15_isSeen_53 ?_
      refine lv_topi (fun x_62 ex_62 => ?_)
      obtain rfl : x_62 = (nI ((gm 2 jf) - 1)) := ex_62.trans (pk_sub (a := (gm 2 jf)) (b := 1) (by omega))
      refine lv_istore_n (lv' := [(2, .int (nI ((gm 2 jf) - 1))), (1, .int (nI jf)), (0, .ref h0)]) hx hb dX15_isSeen_54 rfl hl (by decide) rfl (fun ls hl => ?_)
      refine W.widen (k := 0) (n := 0) (by omega) (by omega) ?_
      have hF_64 : F h0 = .inr (15, (.ref ta) :: (.int (nI zt)) :: (.int (nI zo_34)) :: (.int (nI ze)) :: (.ref ou) :: (.ref so) :: (.ref ad) :: (.ref na) :: (.ref va) :: (.ref lc) :: (.ref dm) :: (.int (nI fm)) :: (.int (nI sn)) :: (.ref tg) :: (.int v14_35) :: (.int v15_36) :: (.ref pe) :: (.int v17_37) :: (.int v18_38) :: (.int v19_39) :: (.int v20_40) :: (.int v21_41) :: (.int v22_42) :: (.ref ml) :: (.ref bg) :: (.ref co) :: (.ref sp) :: (.ref nb0) :: (.ref nb1) :: (.ref nb2) :: (.int (nI nf)) :: (.int (nI bd)) :: (.int (nI mm)) :: (.int v33_43) :: (.ref pl) :: (.ref se) :: (.ref ke) :: (.ref wi) :: (.ref hs) :: (.ref mo) :: (.ref po) :: (.ref nu) :: (.ref pr) :: (.ref sq) :: (.ref xa) :: (.ref sa) :: (.ref n64) :: (.ref m64) :: (.ref ex) :: (.ref wh) :: (.ref sd) :: (.ref tk) :: (.int v52_44) :: (.int v53_45) :: (.int v54_46) :: (.ref hd) :: (.ref ak) :: (.ref ho) :: (.ref ot) :: []) := (hR h0 (by rw [hT_h0]; simp)).symm.trans hF_47
      have hF_65 : F sp = .inl (cs 16, 21, .inl f_58) := (hR sp (by rw [ht_57]; simp)).symm.trans hF_59
      refine pl_loopm (σ := Nat) A (dC, dI) cs ty gm L [ρ + 28] F 55 4 (fun k => [(2, .int (nI k)), (1, .int (nI jf)), (0, .ref h0)]) (fun k => []) (fun k _ => gm 1 jf ≤ k ∧ k < gm 2 jf) (fun k => k) ?_ ((gm 2 jf) - 1) F_31 (⟨by omega, by omega⟩) hO hR _ _ hP hD hS ls (lv_sub hl [0, 1, 2] rfl)
      rintro k F_63 hv_66 hO hR ih_67 H locs hP hD hS ls hl
      have hl : lv_has ls 4 [(2, .int (nI k)), (1, .int (nI jf)), (0, .ref h0)] := hl
      have hv_66 : gm 1 jf ≤ k ∧ k < gm 2 jf := hv_66
      refine W.eq (g2 := F0 m 55 ls []) rfl ?_
      have hF_68 : F_63 h0 = .inr (15, (.ref ta) :: (.int (nI zt)) :: (.int (nI zo_34)) :: (.int (nI ze)) :: (.ref ou) :: (.ref so) :: (.ref ad) :: (.ref na) :: (.ref va) :: (.ref lc) :: (.ref dm) :: (.int (nI fm)) :: (.int (nI sn)) :: (.ref tg) :: (.int v14_35) :: (.int v15_36) :: (.ref pe) :: (.int v17_37) :: (.int v18_38) :: (.int v19_39) :: (.int v20_40) :: (.int v21_41) :: (.int v22_42) :: (.ref ml) :: (.ref bg) :: (.ref co) :: (.ref sp) :: (.ref nb0) :: (.ref nb1) :: (.ref nb2) :: (.int (nI nf)) :: (.int (nI bd)) :: (.int (nI mm)) :: (.int v33_43) :: (.ref pl) :: (.ref se) :: (.ref ke) :: (.ref wi) :: (.ref hs) :: (.ref mo) :: (.ref po) :: (.ref nu) :: (.ref pr) :: (.ref sq) :: (.ref xa) :: (.ref sa) :: (.ref n64) :: (.ref m64) :: (.ref ex) :: (.ref wh) :: (.ref sd) :: (.ref tk) :: (.int v52_44) :: (.int v53_45) :: (.int v54_46) :: (.ref hd) :: (.ref ak) :: (.ref ho) :: (.ref ot) :: []) := (hR h0 (by rw [hT_h0]; simp)).trans hF_64
      have hF_69 : F_63 sp = .inl (cs 16, 21, .inl f_58) := (hR sp (by rw [ht_57]; simp)).trans hF_65
      obtain ⟨hk1a, hk2a⟩ := hv_66
      refine lv_iload_n hx hb dX15_isSeen_55 rfl (lv_at hl 0 rfl) ?_
      refine lv_aload_n hx hb dX15_isSeen_56 rfl (lv_at hl 2 rfl) ?_
      refine pg_get (ci := 15) (v := .ref co) (C := RX15) (T := TX15) (N := 59) hx hb hts it_15 hown hK hP hL_h0 hF_68 rfl 25 (by decide) (hts _ kt_889) (fun _ h9 => h9) rfl dX15_isSeen_57 ?_
      refine lv_iload_n hx hb dX15_isSeen_60 rfl (lv_at hl 1 rfl) ?_
      obtain ⟨hi_70, ht_71⟩ := hW.f_co hL_h0 hT_h0
      obtain ⟨f_72, hF_73, hq_74⟩ := hO.pos hi_70 ht_71
      refine pg_iald hx hb hK hP hi_70 0 hF_73 rfl (vp_in_nI (by omega) (by omega)) dX15_isSeen_61 ?_
      refine lv_topi (fun x_75 ex_75 => ?_)
      obtain rfl : x_75 = (nI (gm 1 jf)) := ex_75.trans (by rw [show ((nI jf) : Int32) = nI jf from rfl, nI_clamp (by omega)]; exact hq_74 jf (by omega))
      have hgbx_75 := hgB 1 jf
      refine lv_icmp_le (tgt := 82) hx hb dX15_isSeen_62 (by decide) (fun c_76 => ?_) (fun c_76 => ?_)
      ·
        have hi_77 : k ≤ (gm 1 jf) := (nI_leI (a := k) (b := (gm 1 jf)) (by omega) (by omega)).mp c_76
        refine lv_iload_n hx hb dX15_isSeen_82 rfl (lv_at hl 0 rfl) ?_
        refine lv_aload_n hx hb dX15_isSeen_83 rfl (lv_at hl 2 rfl) ?_
        refine pg_get (ci := 15) (v := .ref co) (C := RX15) (T := TX15) (N := 59) hx hb hts it_15 hown hK hP hL_h0 hF_68 rfl 25 (by decide) (hts _ kt_889) (fun _ h9 => h9) rfl dX15_isSeen_84 ?_
        refine lv_iload_n hx hb dX15_isSeen_87 rfl (lv_at hl 1 rfl) ?_
        refine pg_iald hx hb hK hP hi_70 0 hF_73 rfl (vp_in_nI (by omega) (by omega)) dX15_isSeen_88 ?_
        refine lv_topi (fun x_78 ex_78 => ?_)
        obtain rfl : x_78 = (nI (gm 1 jf)) := ex_78.trans (by rw [show ((nI jf) : Int32) = nI jf from rfl, nI_clamp (by omega)]; exact hq_74 jf (by omega))
        have hgbx_78 := hgB 1 jf
        refine lv_icmp_ne (tgt := 94) hx hb dX15_isSeen_89 (by decide) (fun c_79 => ?_) (fun c_79 => ?_)
        ·
          have hi_80 : k ≠ (gm 1 jf) := fun q => c_79 (by rw [q])
          refine lv_aload_n hx hb dX15_isSeen_94 rfl (lv_at hl 2 rfl) ?_
          refine pg_get (ci := 15) (v := .ref ak) (C := RX15) (T := TX15) (N := 59) hx hb hts it_15 hown hK hP hL_h0 hF_68 rfl 56 (by decide) (hts _ kt_999) (fun _ h9 => h9) rfl dX15_isSeen_95 ?_
          refine lv_iconst (v := 0) hx hb dX15_isSeen_98 (by decide) ?_
          obtain ⟨z_81, hF_82, hq_83⟩ := hO.txt hL_ak hT_ak
          refine pg_put (ci := 14) (v := .int 0) (ty := .int) (C := RX14) (T := TX14) (N := 2) hx hb hts it_14 tyX14 tyX14_ok nmX14 hown hK hP hD hS hL_ak hF_82 rfl 1 (by decide) (hts _ kt_709) (fun _ h9 => h9) rfl (by decide +kernel) (rfl) (rfl) (Nat.le_of_ble_eq_true rfl) dX15_isSeen_99 (fun H locs hP hD hS => ?_)
          obtain ⟨F_84, he_85, hP, hD, hO, hR⟩ : ∃ G, G = va_up F_63 ak (.inr (14, [.ref rak, .int 0])) ∧ va_P (dC, dI) vwCl (va_pl L G) H ∧ va_D A (va_pl L G) ∧ OKm cs ty gm L G ∧ FR ty [ρ + 28] F G := ⟨_, rfl, hP, hD, hO.up (shm.txt hT_ak ⟨0, rfl, (by first | omega | assumption | exact Or.inl rfl | exact Or.inr rfl)⟩), hR.up hT_ak (by simp)⟩
          have hF_86 : F_84 ak = .inr (14, [.ref rak, .int 0]) := by rw [he_85]; exact up_self
          have hF_87 : F_84 h0 = .inr (15, (.ref ta) :: (.int (nI zt)) :: (.int (nI zo_34)) :: (.int (nI ze)) :: (.ref ou) :: (.ref so) :: (.ref ad) :: (.ref na) :: (.ref va) :: (.ref lc) :: (.ref dm) :: (.int (nI fm)) :: (.int (nI sn)) :: (.ref tg) :: (.int v14_35) :: (.int v15_36) :: (.ref pe) :: (.int v17_37) :: (.int v18_38) :: (.int v19_39) :: (.int v20_40) :: (.int v21_41) :: (.int v22_42) :: (.ref ml) :: (.ref bg) :: (.ref co) :: (.ref sp) :: (.ref nb0) :: (.ref nb1) :: (.ref nb2) :: (.int (nI nf)) :: (.int (nI bd)) :: (.int (nI mm)) :: (.int v33_43) :: (.ref pl) :: (.ref se) :: (.ref ke) :: (.ref wi) :: (.ref hs) :: (.ref mo) :: (.ref po) :: (.ref nu) :: (.ref pr) :: (.ref sq) :: (.ref xa) :: (.ref sa) :: (.ref n64) :: (.ref m64) :: (.ref ex) :: (.ref wh) :: (.ref sd) :: (.ref tk) :: (.int v52_44) :: (.int v53_45) :: (.int v54_46) :: (.ref hd) :: (.ref ak) :: (.ref ho) :: (.ref ot) :: []) := by rw [he_85, up_ne (ne_ty hT_h0 hT_ak (by simp))]; exact hF_68
          have hF_88 : F_84 sp = .inl (cs 16, 21, .inl f_58) := by rw [he_85, up_ne (ne_ty ht_57 hT_ak (by simp))]; exact hF_69
          have hF_89 : F_84 co = .inl (cs 16, 21, .inl f_72) := by rw [he_85, up_ne (ne_ty ht_71 hT_ak (by simp))]; exact hF_73
          refine lv_iload_n hx hb dX15_isSeen_102 rfl (lv_at hl 0 rfl) ?_
          refine lv_iconst (v := 1) hx hb dX15_isSeen_103 (by decide) ?_
          refine lv_iadd hx hb dX15_isSeen_104 ?_
          refine lv_topi (fun x_90 ex_90 => ?_)
          obtain rfl : x_90 = (nI (k + 1)) := ex_90.trans (nI_add k 1)
          refine lv_istore_n (lv' := [(3, .int (nI (k + 1))), (2, .int (nI k)), (1, .int (nI jf)), (0, .ref h0)]) hx hb dX15_isSeen_105 rfl hl (by decide) rfl (fun ls hl => ?_)
          refine W.widen (k := 0) (n := 0) (by omega) (by omega) ?_
          have hF_92 : F h0 = .inr (15, (.ref ta) :: (.int (nI zt)) :: (.int (nI zo_34)) :: (.int (nI ze)) :: (.ref ou) :: (.ref so) :: (.ref ad) :: (.ref na) :: (.ref va) :: (.ref lc) :: (.ref dm) :: (.int (nI fm)) :: (.int (nI sn)) :: (.ref tg) :: (.int v14_35) :: (.int v15_36) :: (.ref pe) :: (.int v17_37) :: (.int v18_38) :: (.int v19_39) :: (.int v20_40) :: (.int v21_41) :: (.int v22_42) :: (.ref ml) :: (.ref bg) :: (.ref co) :: (.ref sp) :: (.ref nb0) :: (.ref nb1) :: (.ref nb2) :: (.int (nI nf)) :: (.int (nI bd)) :: (.int (nI mm)) :: (.int v33_43) :: (.ref pl) :: (.ref se) :: (.ref ke) :: (.ref wi) :: (.ref hs) :: (.ref mo) :: (.ref po) :: (.ref nu) :: (.ref pr) :: (.ref sq) :: (.ref xa) :: (.ref sa) :: (.ref n64) :: (.ref m64) :: (.ref ex) :: (.ref wh) :: (.ref sd) :: (.ref tk) :: (.int v52_44) :: (.int v53_45) :: (.int v54_46) :: (.ref hd) :: (.ref ak) :: (.ref ho) :: (.ref ot) :: []) := (hR h0 (by rw [hT_h0]; simp)).symm.trans hF_87
          have hF_93 : F sp = .inl (cs 16, 21, .inl f_58) := (hR sp (by rw [ht_57]; simp)).symm.trans hF_88
          have hF_94 : F co = .inl (cs 16, 21, .inl f_72) := (hR co (by rw [ht_71]; simp)).symm.trans hF_89
          refine pl_loopm (σ := Nat × Nat) A (dC, dI) cs ty gm L [ρ + 28] F 106 4 (fun (i, zz) => [(3, .int (nI i)), (2, .int (nI k)), (1, .int (nI jf)), (0, .ref h0)]) (fun (i, zz) => []) (fun (i, zz) FF => (k + 1 ≤ i ∧ i ≤ max (k + 1) (gm 2 jf)) ∧ zz ≤ i - (k + 1) ∧ FF ak = .inr (14, [.ref rak, .int (nI zz)])) (fun (i, zz) => gm 2 jf - i) ?_ ((k + 1), 0) F_84 (⟨⟨by omega, by omega⟩, by omega, hF_86⟩) hO hR _ _ hP hD hS ls (lv_sub hl [0, 1, 2, 3] rfl)
          rintro ⟨i, zz⟩ F_91 hv_95 hO hR ih_96 H locs hP hD hS ls hl
          have hl : lv_has ls 4 [(3, .int (nI i)), (2, .int (nI k)), (1, .int (nI jf)), (0, .ref h0)] := hl
          have hv_95 : (k + 1 ≤ i ∧ i ≤ max (k + 1) (gm 2 jf)) ∧ zz ≤ i - (k + 1) ∧ F_91 ak = .inr (14, [.ref rak, .int (nI zz)]) := hv_95
          refine W.eq (g2 := F0 m 106 ls []) rfl ?_
          have hF_97 : F_91 h0 = .inr (15, (.ref ta) :: (.int (nI zt)) :: (.int (nI zo_34)) :: (.int (nI ze)) :: (.ref ou) :: (.ref so) :: (.ref ad) :: (.ref na) :: (.ref va) :: (.ref lc) :: (.ref dm) :: (.int (nI fm)) :: (.int (nI sn)) :: (.ref tg) :: (.int v14_35) :: (.int v15_36) :: (.ref pe) :: (.int v17_37) :: (.int v18_38) :: (.int v19_39) :: (.int v20_40) :: (.int v21_41) :: (.int v22_42) :: (.ref ml) :: (.ref bg) :: (.ref co) :: (.ref sp) :: (.ref nb0) :: (.ref nb1) :: (.ref nb2) :: (.int (nI nf)) :: (.int (nI bd)) :: (.int (nI mm)) :: (.int v33_43) :: (.ref pl) :: (.ref se) :: (.ref ke) :: (.ref wi) :: (.ref hs) :: (.ref mo) :: (.ref po) :: (.ref nu) :: (.ref pr) :: (.ref sq) :: (.ref xa) :: (.ref sa) :: (.ref n64) :: (.ref m64) :: (.ref ex) :: (.ref wh) :: (.ref sd) :: (.ref tk) :: (.int v52_44) :: (.int v53_45) :: (.int v54_46) :: (.ref hd) :: (.ref ak) :: (.ref ho) :: (.ref ot) :: []) := (hR h0 (by rw [hT_h0]; simp)).trans hF_92
          have hF_98 : F_91 sp = .inl (cs 16, 21, .inl f_58) := (hR sp (by rw [ht_57]; simp)).trans hF_93
          have hF_99 : F_91 co = .inl (cs 16, 21, .inl f_72) := (hR co (by rw [ht_71]; simp)).trans hF_94
          obtain ⟨hi1, hi2, hi3⟩ := hv_95
          refine lv_iload_n hx hb dX15_isSeen_106 rfl (lv_at hl 0 rfl) ?_
          refine lv_aload_n hx hb dX15_isSeen_107 rfl (lv_at hl 3 rfl) ?_
          refine pg_get (ci := 15) (v := .ref sp) (C := RX15) (T := TX15) (N := 59) hx hb hts it_15 hown hK hP hL_h0 hF_97 rfl 26 (by decide) (hts _ kt_890) (fun _ h9 => h9) rfl dX15_isSeen_108 ?_
          refine lv_iload_n hx hb dX15_isSeen_111 rfl (lv_at hl 2 rfl) ?_
          refine pg_iald hx hb hK hP hi_56 0 hF_98 rfl (vp_in_nI (by omega) (by omega)) dX15_isSeen_112 ?_
          refine lv_topi (fun x_100 ex_100 => ?_)
          obtain rfl : x_100 = (nI (gm 2 jf)) := ex_100.trans (by rw [show ((nI jf) : Int32) = nI jf from rfl, nI_clamp (by omega)]; exact hq_60 jf (by omega))
          have hgbx_100 := hgB 2 jf
          refine lv_icmp_ge (tgt := 172) hx hb dX15_isSeen_113 (by decide) (fun c_101 => ?_) (fun c_101 => ?_)
          ·
            have hi_102 : (gm 2 jf) ≤ i := leN (N := (gm 2 jf)) c_101
            refine lv_aload_n hx hb dX15_isSeen_172 rfl (lv_at hl 3 rfl) ?_
            refine pg_get (ci := 15) (v := .ref ak) (C := RX15) (T := TX15) (N := 59) hx hb hts it_15 hown hK hP hL_h0 hF_97 rfl 56 (by decide) (hts _ kt_999) (fun _ h9 => h9) rfl dX15_isSeen_173 ?_
            have hFc := pg_free hD hS hA
            refine va_calli (va_runV (As := []) (rest := []) ⟨hx, hb, hml, hown, hts⟩ (s_X14_isName l dC dI cs ty gm L H.size F_91 ak (ρ + 28) rak 6000 zz hW hL_ak hT_ak hi3 (by first | omega | assumption | exact Or.inl rfl)) ⟨callB_of 0 hts (gi kt_1000) rfl rfl rfl (hts _ kt_676) (hts _ kt_1001) (by decide +kernel) ⟨Nat.le_of_ble_eq_true rfl, Nat.le_of_ble_eq_true rfl⟩, (hts _ kt_1002), (hts _ kt_1003)⟩ ⟨fun a U g mk q => ⟨q.1, PTm.calling q.2⟩, pg_recv hK hP hL_ak hi3 (q := (RX14, TX14, 2)) rfl, fun U hU hWm => ⟨rfl, PTm.mk hU hWm hP hK hD hE hO⟩⟩ rfl rfl hl.1 rfl (lv_room (Nat.le_of_ble_eq_true rfl)) dX15_isSeen_176 ⟨by show _ + 0 ≤ 0; omega, by show _ + 0 ≤ 0; omega⟩) hS (fun q _ h => hFc q h) hFc (fun r_103 u t H1 locs ht hvm hw hB hz1 hk1 hS => ?_)
            obtain ⟨F_104, hB1⟩ := hB
            obtain rfl : F_91 = F_104 := (funext (fun a => hB1.2.2.2 a List.not_mem_nil)).symm
            obtain ⟨hP, hD, hO, hR⟩ := QTm.back hB1 ht hFc hR (fun q h => absurd h List.not_mem_nil)
            generalize H1 = H at hP hS ⊢
            have hw : (r_103 = 0 ∨ (r_103 = 1 ∧ 0 < zz ∧ zz ≤ 60)) := hw
            have hw_105 := hw
            refine W.widen (k := 0) (n := 0) (by omega) (by omega) ?_
            exact W.zret (v := r_103) (ty := .boolean) hx hb hr (bitN (bit3 hw_105)) (fun t ht hWm => ⟨⟨r_103, r_103, rfl, ⟨rfl, bit3 hw_105⟩, ⟨F_91, zz, QTm.mk ht hP hD hO hR, hi3, (fun h => (bit1 hw_105 (by rw [h]; decide)).2)⟩⟩, hS.F ht⟩) hS.2.2 dX15_isSeen_179
          ·
            have hi_106 : i < (gm 2 jf) := ltN (N := (gm 2 jf)) c_101
            refine lv_aload_n hx hb dX15_isSeen_116 rfl (lv_at hl 3 rfl) ?_
            refine pg_get (ci := 15) (v := .ref ml) (C := RX15) (T := TX15) (N := 59) hx hb hts it_15 hown hK hP hL_h0 hF_97 rfl 23 (by decide) (hts _ kt_887) (fun _ h9 => h9) rfl dX15_isSeen_117 ?_
            refine lv_iload_n hx hb dX15_isSeen_120 rfl (lv_at hl 0 rfl) ?_
            obtain ⟨hi_107, ht_108⟩ := hW.f_ml hL_h0 hT_h0
            obtain ⟨hq_109, hq_110⟩ := hW.octs hi_107 ht_108
            obtain ⟨f_111, hF_112, hq_113⟩ := hO.octs hi_107 ht_108
            refine pg_bald hx hb hK hP hi_107 1 hF_112 rfl (vp_in_nI (by omega) (by omega)) dX15_isSeen_121 ?_
            refine lv_topi (fun x_114 ex_114 => ?_)
            obtain rfl : x_114 = f_111 i := ex_114.trans (congrArg f_111 (show ((nI i) : Int32).toNatClampNeg = i from nI_clamp (by omega)))
            have hFc := pg_free hD hS hA
            refine va_calli (va_runS (As := [.int (f_111 i)]) (rest := []) ⟨hx, hb, hml, hown, hts⟩ (s_X15_isWhite l dC dI cs ty gm L H.size F_91 (f_111 i) hW ) ⟨callB_of 1 hts (gi kt_715) rfl rfl rfl (hts _ kt_669) (hts _ kt_716) (by decide +kernel) ⟨Nat.le_of_ble_eq_true rfl, Nat.le_of_ble_eq_true rfl⟩, (hts _ kt_717)⟩ ⟨fun a U g mk q => ⟨q.1, PTm.calling q.2⟩, fun U hU hWm => ⟨rfl, PTm.mk hU hWm hP hK hD hE hO⟩⟩ rfl rfl hl.1 rfl (lv_room (Nat.le_of_ble_eq_true rfl)) dX15_isSeen_122 ⟨by show _ + 0 ≤ 0; omega, by show _ + 0 ≤ 0; omega⟩) hS (fun q _ h => hFc q h) hFc (fun r_115 u t H1 locs ht hvm hw hB hz1 hk1 hS => ?_)
            obtain ⟨F_116, hB1⟩ := hB
            obtain rfl : F_91 = F_116 := (funext (fun a => hB1.2.2.2 a List.not_mem_nil)).symm
            obtain ⟨hP, hD, hO, hR⟩ := QTm.back hB1 ht hFc hR (fun q h => absurd h List.not_mem_nil)
            generalize H1 = H at hP hS ⊢
            have hw : (r_115 = 0 ∨ r_115 = 1) := hw
            have hw_117 := hw
            refine lv_if_ne (tgt := 172) hx hb dX15_isSeen_125 (by decide) (fun c_118 => ?_) (fun c_118 => ?_)
            ·
              refine lv_aload_n hx hb dX15_isSeen_172 rfl (lv_at hl 3 rfl) ?_
              refine pg_get (ci := 15) (v := .ref ak) (C := RX15) (T := TX15) (N := 59) hx hb hts it_15 hown hK hP hL_h0 hF_97 rfl 56 (by decide) (hts _ kt_999) (fun _ h9 => h9) rfl dX15_isSeen_173 ?_
              have hFc := pg_free hD hS hA
              refine va_calli (va_runV (As := []) (rest := []) ⟨hx, hb, hml, hown, hts⟩ (s_X14_isName l dC dI cs ty gm L H.size F_91 ak (ρ + 28) rak 6000 zz hW hL_ak hT_ak hi3 (by first | omega | assumption | exact Or.inl rfl)) ⟨callB_of 0 hts (gi kt_1000) rfl rfl rfl (hts _ kt_676) (hts _ kt_1001) (by decide +kernel) ⟨Nat.le_of_ble_eq_true rfl, Nat.le_of_ble_eq_true rfl⟩, (hts _ kt_1002), (hts _ kt_1003)⟩ ⟨fun a U g mk q => ⟨q.1, PTm.calling q.2⟩, pg_recv hK hP hL_ak hi3 (q := (RX14, TX14, 2)) rfl, fun U hU hWm => ⟨rfl, PTm.mk hU hWm hP hK hD hE hO⟩⟩ rfl rfl hl.1 rfl (lv_room (Nat.le_of_ble_eq_true rfl)) dX15_isSeen_176 ⟨by show _ + 0 ≤ 0; omega, by show _ + 0 ≤ 0; omega⟩) hS (fun q _ h => hFc q h) hFc (fun r_119 u t H1 locs ht hvm hw hB hz1 hk1 hS => ?_)
              obtain ⟨F_120, hB1⟩ := hB
              obtain rfl : F_91 = F_120 := (funext (fun a => hB1.2.2.2 a List.not_mem_nil)).symm
              obtain ⟨hP, hD, hO, hR⟩ := QTm.back hB1 ht hFc hR (fun q h => absurd h List.not_mem_nil)
              generalize H1 = H at hP hS ⊢
              have hw : (r_119 = 0 ∨ (r_119 = 1 ∧ 0 < zz ∧ zz ≤ 60)) := hw
              have hw_121 := hw
              refine W.widen (k := 0) (n := 0) (by omega) (by omega) ?_
              exact W.zret (v := r_119) (ty := .boolean) hx hb hr (bitN (bit3 hw_121)) (fun t ht hWm => ⟨⟨r_119, r_119, rfl, ⟨rfl, bit3 hw_121⟩, ⟨F_91, zz, QTm.mk ht hP hD hO hR, hi3, (fun h => (bit1 hw_121 (by rw [h]; decide)).2)⟩⟩, hS.F ht⟩) hS.2.2 dX15_isSeen_179
            ·
              refine lv_aload_n hx hb dX15_isSeen_128 rfl (lv_at hl 3 rfl) ?_
              refine pg_get (ci := 15) (v := .ref ml) (C := RX15) (T := TX15) (N := 59) hx hb hts it_15 hown hK hP hL_h0 hF_97 rfl 23 (by decide) (hts _ kt_887) (fun _ h9 => h9) rfl dX15_isSeen_129 ?_
              refine lv_iload_n hx hb dX15_isSeen_132 rfl (lv_at hl 0 rfl) ?_
              refine pg_bald hx hb hK hP hi_107 1 hF_112 rfl (vp_in_nI (by omega) (by omega)) dX15_isSeen_133 ?_
              refine lv_topi (fun x_122 ex_122 => ?_)
              obtain rfl : x_122 = f_111 i := ex_122.trans (congrArg f_111 (show ((nI i) : Int32).toNatClampNeg = i from nI_clamp (by omega)))
              refine lv_bipush (v := 62) hx hb dX15_isSeen_134 (by decide) ?_
              refine lv_icmp_eq (tgt := 172) hx hb dX15_isSeen_136 (by decide) (fun c_123 => ?_) (fun c_123 => ?_)
              ·
                refine lv_aload_n hx hb dX15_isSeen_172 rfl (lv_at hl 3 rfl) ?_
                refine pg_get (ci := 15) (v := .ref ak) (C := RX15) (T := TX15) (N := 59) hx hb hts it_15 hown hK hP hL_h0 hF_97 rfl 56 (by decide) (hts _ kt_999) (fun _ h9 => h9) rfl dX15_isSeen_173 ?_
                have hFc := pg_free hD hS hA
                refine va_calli (va_runV (As := []) (rest := []) ⟨hx, hb, hml, hown, hts⟩ (s_X14_isName l dC dI cs ty gm L H.size F_91 ak (ρ + 28) rak 6000 zz hW hL_ak hT_ak hi3 (by first | omega | assumption | exact Or.inl rfl)) ⟨callB_of 0 hts (gi kt_1000) rfl rfl rfl (hts _ kt_676) (hts _ kt_1001) (by decide +kernel) ⟨Nat.le_of_ble_eq_true rfl, Nat.le_of_ble_eq_true rfl⟩, (hts _ kt_1002), (hts _ kt_1003)⟩ ⟨fun a U g mk q => ⟨q.1, PTm.calling q.2⟩, pg_recv hK hP hL_ak hi3 (q := (RX14, TX14, 2)) rfl, fun U hU hWm => ⟨rfl, PTm.mk hU hWm hP hK hD hE hO⟩⟩ rfl rfl hl.1 rfl (lv_room (Nat.le_of_ble_eq_true rfl)) dX15_isSeen_176 ⟨by show _ + 0 ≤ 0; omega, by show _ + 0 ≤ 0; omega⟩) hS (fun q _ h => hFc q h) hFc (fun r_124 u t H1 locs ht hvm hw hB hz1 hk1 hS => ?_)
                obtain ⟨F_125, hB1⟩ := hB
                obtain rfl : F_91 = F_125 := (funext (fun a => hB1.2.2.2 a List.not_mem_nil)).symm
                obtain ⟨hP, hD, hO, hR⟩ := QTm.back hB1 ht hFc hR (fun q h => absurd h List.not_mem_nil)
                generalize H1 = H at hP hS ⊢
                have hw : (r_124 = 0 ∨ (r_124 = 1 ∧ 0 < zz ∧ zz ≤ 60)) := hw
                have hw_126 := hw
                refine W.widen (k := 0) (n := 0) (by omega) (by omega) ?_
                exact W.zret (v := r_124) (ty := .boolean) hx hb hr (bitN (bit3 hw_126)) (fun t ht hWm => ⟨⟨r_124, r_124, rfl, ⟨rfl, bit3 hw_126⟩, ⟨F_91, zz, QTm.mk ht hP hD hO hR, hi3, (fun h => (bit1 hw_126 (by rw [h]; decide)).2)⟩⟩, hS.F ht⟩) hS.2.2 dX15_isSeen_179
              ·
                refine lv_aload_n hx hb dX15_isSeen_139 rfl (lv_at hl 3 rfl) ?_
                refine pg_get (ci := 15) (v := .ref ml) (C := RX15) (T := TX15) (N := 59) hx hb hts it_15 hown hK hP hL_h0 hF_97 rfl 23 (by decide) (hts _ kt_887) (fun _ h9 => h9) rfl dX15_isSeen_140 ?_
                refine lv_iload_n hx hb dX15_isSeen_143 rfl (lv_at hl 0 rfl) ?_
                refine pg_bald hx hb hK hP hi_107 1 hF_112 rfl (vp_in_nI (by omega) (by omega)) dX15_isSeen_144 ?_
                refine lv_topi (fun x_127 ex_127 => ?_)
                obtain rfl : x_127 = f_111 i := ex_127.trans (congrArg f_111 (show ((nI i) : Int32).toNatClampNeg = i from nI_clamp (by omega)))
                refine lv_bipush (v := 10) hx hb dX15_isSeen_145 (by decide) ?_
                refine lv_icmp_eq (tgt := 172) hx hb dX15_isSeen_147 (by decide) (fun c_128 => ?_) (fun c_128 => ?_)
                ·
                  refine lv_aload_n hx hb dX15_isSeen_172 rfl (lv_at hl 3 rfl) ?_
                  refine pg_get (ci := 15) (v := .ref ak) (C := RX15) (T := TX15) (N := 59) hx hb hts it_15 hown hK hP hL_h0 hF_97 rfl 56 (by decide) (hts _ kt_999) (fun _ h9 => h9) rfl dX15_isSeen_173 ?_
                  have hFc := pg_free hD hS hA
                  refine va_calli (va_runV (As := []) (rest := []) ⟨hx, hb, hml, hown, hts⟩ (s_X14_isName l dC dI cs ty gm L H.size F_91 ak (ρ + 28) rak 6000 zz hW hL_ak hT_ak hi3 (by first | omega | assumption | exact Or.inl rfl)) ⟨callB_of 0 hts (gi kt_1000) rfl rfl rfl (hts _ kt_676) (hts _ kt_1001) (by decide +kernel) ⟨Nat.le_of_ble_eq_true rfl, Nat.le_of_ble_eq_true rfl⟩, (hts _ kt_1002), (hts _ kt_1003)⟩ ⟨fun a U g mk q => ⟨q.1, PTm.calling q.2⟩, pg_recv hK hP hL_ak hi3 (q := (RX14, TX14, 2)) rfl, fun U hU hWm => ⟨rfl, PTm.mk hU hWm hP hK hD hE hO⟩⟩ rfl rfl hl.1 rfl (lv_room (Nat.le_of_ble_eq_true rfl)) dX15_isSeen_176 ⟨by show _ + 0 ≤ 0; omega, by show _ + 0 ≤ 0; omega⟩) hS (fun q _ h => hFc q h) hFc (fun r_129 u t H1 locs ht hvm hw hB hz1 hk1 hS => ?_)
                  obtain ⟨F_130, hB1⟩ := hB
                  obtain rfl : F_91 = F_130 := (funext (fun a => hB1.2.2.2 a List.not_mem_nil)).symm
                  obtain ⟨hP, hD, hO, hR⟩ := QTm.back hB1 ht hFc hR (fun q h => absurd h List.not_mem_nil)
                  generalize H1 = H at hP hS ⊢
                  have hw : (r_129 = 0 ∨ (r_129 = 1 ∧ 0 < zz ∧ zz ≤ 60)) := hw
                  have hw_131 := hw
                  refine W.widen (k := 0) (n := 0) (by omega) (by omega) ?_
                  exact W.zret (v := r_129) (ty := .boolean) hx hb hr (bitN (bit3 hw_131)) (fun t ht hWm => ⟨⟨r_129, r_129, rfl, ⟨rfl, bit3 hw_131⟩, ⟨F_91, zz, QTm.mk ht hP hD hO hR, hi3, (fun h => (bit1 hw_131 (by rw [h]; decide)).2)⟩⟩, hS.F ht⟩) hS.2.2 dX15_isSeen_179
                ·
                  refine lv_aload_n hx hb dX15_isSeen_150 rfl (lv_at hl 3 rfl) ?_
                  refine pg_get (ci := 15) (v := .ref ak) (C := RX15) (T := TX15) (N := 59) hx hb hts it_15 hown hK hP hL_h0 hF_97 rfl 56 (by decide) (hts _ kt_999) (fun _ h9 => h9) rfl dX15_isSeen_151 ?_
                  refine lv_aload_n hx hb dX15_isSeen_154 rfl (lv_at hl 3 rfl) ?_
                  refine pg_get (ci := 15) (v := .ref ml) (C := RX15) (T := TX15) (N := 59) hx hb hts it_15 hown hK hP hL_h0 hF_97 rfl 23 (by decide) (hts _ kt_887) (fun _ h9 => h9) rfl dX15_isSeen_155 ?_
                  refine lv_iload_n hx hb dX15_isSeen_158 rfl (lv_at hl 0 rfl) ?_
                  refine pg_bald hx hb hK hP hi_107 1 hF_112 rfl (vp_in_nI (by omega) (by omega)) dX15_isSeen_159 ?_
                  refine lv_topi (fun x_132 ex_132 => ?_)
                  obtain rfl : x_132 = f_111 i := ex_132.trans (congrArg f_111 (show ((nI i) : Int32).toNatClampNeg = i from nI_clamp (by omega)))
                  have hFc := pg_free hD hS hA
                  refine va_calli (va_runS (As := [.int (f_111 i)]) (rest := [.ref ak]) ⟨hx, hb, hml, hown, hts⟩ (s_X15_small l dC dI cs ty gm L H.size F_91 (f_111 i) hW ) ⟨callB_of 1 hts (gi kt_697) rfl rfl rfl (hts _ kt_669) (hts _ kt_698) (by decide +kernel) ⟨Nat.le_of_ble_eq_true rfl, Nat.le_of_ble_eq_true rfl⟩, (hts _ kt_699)⟩ ⟨fun a U g mk q => ⟨q.1, PTm.calling q.2⟩, fun U hU hWm => ⟨rfl, PTm.mk hU hWm hP hK hD hE hO⟩⟩ rfl rfl hl.1 rfl (lv_room (Nat.le_of_ble_eq_true rfl)) dX15_isSeen_160 ⟨by show _ + 0 ≤ 0; omega, by show _ + 0 ≤ 0; omega⟩) hS (fun q _ h => hFc q h) hFc (fun r_133 u t H1 locs ht hvm hw hB hz1 hk1 hS => ?_)
                  obtain ⟨F_134, hB1⟩ := hB
                  obtain rfl : F_91 = F_134 := (funext (fun a => hB1.2.2.2 a List.not_mem_nil)).symm
                  obtain ⟨hP, hD, hO, hR⟩ := QTm.back hB1 ht hFc hR (fun q h => absurd h List.not_mem_nil)
                  generalize H1 = H at hP hS ⊢
                  have hw : True := hw
                  have hw_135 := hw
                  have hFc := pg_free hD hS hA
                  refine va_callv (va_runV (As := [.int r_133]) (rest := []) ⟨hx, hb, hml, hown, hts⟩ (s_X14_add l dC dI cs ty gm L H.size F_91 ak (ρ + 28) rak 6000 zz r_133 hW hL_ak hT_ak hi3 (by first | omega | assumption | exact Or.inl rfl)) ⟨callB_of 1 hts (gi kt_711) rfl rfl rfl (hts _ kt_676) (hts _ kt_712) (by decide +kernel) ⟨Nat.le_of_ble_eq_true rfl, Nat.le_of_ble_eq_true rfl⟩, (hts _ kt_713), (hts _ kt_714)⟩ ⟨fun a U g mk q => ⟨q.1, PTm.calling q.2⟩, pg_recv hK hP hL_ak hi3 (q := (RX14, TX14, 2)) rfl, fun U hU hWm => ⟨rfl, PTm.mk hU hWm hP hK hD hE hO⟩⟩ rfl rfl hl.1 rfl (lv_room (Nat.le_of_ble_eq_true rfl)) dX15_isSeen_163 ⟨by show _ + 0 ≤ 0; omega, by show _ + 0 ≤ 0; omega⟩) hS (fun q _ h => hFc q h) hFc (fun u t H1 locs ht hvm hw hB hz1 hk1 hS => ?_)
                  obtain ⟨F_137, hB1, hq_138⟩ := hB
                  obtain ⟨hP, hD, hO, hR⟩ := QTm.back hB1 ht hFc hR (fun q h => by simp only [List.mem_cons, List.not_mem_nil, or_false] at h ⊢; omega)
                  have hF_139 : F_137 h0 = .inr (15, (.ref ta) :: (.int (nI zt)) :: (.int (nI zo_34)) :: (.int (nI ze)) :: (.ref ou) :: (.ref so) :: (.ref ad) :: (.ref na) :: (.ref va) :: (.ref lc) :: (.ref dm) :: (.int (nI fm)) :: (.int (nI sn)) :: (.ref tg) :: (.int v14_35) :: (.int v15_36) :: (.ref pe) :: (.int v17_37) :: (.int v18_38) :: (.int v19_39) :: (.int v20_40) :: (.int v21_41) :: (.int v22_42) :: (.ref ml) :: (.ref bg) :: (.ref co) :: (.ref sp) :: (.ref nb0) :: (.ref nb1) :: (.ref nb2) :: (.int (nI nf)) :: (.int (nI bd)) :: (.int (nI mm)) :: (.int v33_43) :: (.ref pl) :: (.ref se) :: (.ref ke) :: (.ref wi) :: (.ref hs) :: (.ref mo) :: (.ref po) :: (.ref nu) :: (.ref pr) :: (.ref sq) :: (.ref xa) :: (.ref sa) :: (.ref n64) :: (.ref m64) :: (.ref ex) :: (.ref wh) :: (.ref sd) :: (.ref tk) :: (.int v52_44) :: (.int v53_45) :: (.int v54_46) :: (.ref hd) :: (.ref ak) :: (.ref ho) :: (.ref ot) :: []) := (hB1.2.2.2 h0 (by rw [hT_h0]; simp)).trans hF_97
                  have hF_140 : F_137 sp = .inl (cs 16, 21, .inl f_58) := (hB1.2.2.2 sp (by rw [ht_57]; simp)).trans hF_98
                  have hF_141 : F_137 co = .inl (cs 16, 21, .inl f_72) := (hB1.2.2.2 co (by rw [ht_71]; simp)).trans hF_99
                  have hF_142 : F_137 ml = .inl (cs 17, 3000, .inl f_111) := (hB1.2.2.2 ml (by rw [ht_108]; simp)).trans hF_112
                  generalize H1 = H at hP hS ⊢
                  refine lv_iinc (v := (nI (i + 1))) (lv' := [(3, .int (nI (i + 1))), (2, .int (nI k)), (1, .int (nI jf)), (0, .ref h0)]) hx hb dX15_isSeen_166 hl (k := 0) rfl (nI_1 _) (by decide) rfl (fun ls hl => ?_)
                  refine lv_goto (tgt := 106) hx hb dX15_isSeen_169 (by decide) ?_
                  refine W.widen (k := 0) (n := 0) (by omega) (by omega) ?_
                  exact ih_96 ((i + 1), (zz + 1)) F_137 (⟨⟨by omega, by omega⟩, by omega, hq_138⟩) (by show gm 2 jf - (i + 1) < gm 2 jf - i; omega) hO hR _ _ hP hD hS ls (lv_sub hl [0, 1, 2, 3] rfl)
        ·
          have hi_143 : k = (gm 1 jf) := (nI_eq (a := k) (b := (gm 1 jf)) (by omega) (by omega)).mp c_79
          refine lv_iconst (v := 0) hx hb dX15_isSeen_92 (by decide) ?_
          refine W.widen (k := 0) (n := 0) (by omega) (by omega) ?_
          obtain ⟨z_144, hF_145, hq_146⟩ := hO.txt hL_ak hT_ak
          exact W.zret (v := 0) (ty := .boolean) hx hb hr (by decide) (fun t ht hWm => ⟨⟨0, 0, rfl, ⟨rfl, Or.inl rfl⟩, ⟨F_63, z_144, QTm.mk ht hP hD hO hR, hF_145, (fun h => absurd h (by decide))⟩⟩, hS.F ht⟩) hS.2.2 dX15_isSeen_93
      ·
        have hi_147 : (gm 1 jf) < k := Nat.not_le.mp (fun q => c_76 ((nI_leI (a := k) (b := (gm 1 jf)) (by omega) (by omega)).mpr q))
        refine lv_aload_n hx hb dX15_isSeen_65 rfl (lv_at hl 2 rfl) ?_
        refine pg_get (ci := 15) (v := .ref ml) (C := RX15) (T := TX15) (N := 59) hx hb hts it_15 hown hK hP hL_h0 hF_68 rfl 23 (by decide) (hts _ kt_887) (fun _ h9 => h9) rfl dX15_isSeen_66 ?_
        refine lv_iload_n hx hb dX15_isSeen_69 rfl (lv_at hl 0 rfl) ?_
        obtain ⟨hi_148, ht_149⟩ := hW.f_ml hL_h0 hT_h0
        obtain ⟨hq_150, hq_151⟩ := hW.octs hi_148 ht_149
        obtain ⟨f_152, hF_153, hq_154⟩ := hO.octs hi_148 ht_149
        refine pg_bald hx hb hK hP hi_148 1 hF_153 rfl (vp_in_nI (by omega) (by omega)) dX15_isSeen_70 ?_
        refine lv_topi (fun x_155 ex_155 => ?_)
        obtain rfl : x_155 = f_152 k := ex_155.trans (congrArg f_152 (show ((nI k) : Int32).toNatClampNeg = k from nI_clamp (by omega)))
        refine lv_bipush (v := 64) hx hb dX15_isSeen_71 (by decide) ?_
        refine lv_icmp_eq (tgt := 82) hx hb dX15_isSeen_73 (by decide) (fun c_156 => ?_) (fun c_156 => ?_)
        ·
          refine lv_iload_n hx hb dX15_isSeen_82 rfl (lv_at hl 0 rfl) ?_
          refine lv_aload_n hx hb dX15_isSeen_83 rfl (lv_at hl 2 rfl) ?_
          refine pg_get (ci := 15) (v := .ref co) (C := RX15) (T := TX15) (N := 59) hx hb hts it_15 hown hK hP hL_h0 hF_68 rfl 25 (by decide) (hts _ kt_889) (fun _ h9 => h9) rfl dX15_isSeen_84 ?_
          refine lv_iload_n hx hb dX15_isSeen_87 rfl (lv_at hl 1 rfl) ?_
          refine pg_iald hx hb hK hP hi_70 0 hF_73 rfl (vp_in_nI (by omega) (by omega)) dX15_isSeen_88 ?_
          refine lv_topi (fun x_157 ex_157 => ?_)
          obtain rfl : x_157 = (nI (gm 1 jf)) := ex_157.trans (by rw [show ((nI jf) : Int32) = nI jf from rfl, nI_clamp (by omega)]; exact hq_74 jf (by omega))
          have hgbx_157 := hgB 1 jf
          refine lv_icmp_ne (tgt := 94) hx hb dX15_isSeen_89 (by decide) (fun c_158 => ?_) (fun c_158 => ?_)
          ·
            have hi_159 : k ≠ (gm 1 jf) := fun q => c_158 (by rw [q])
            refine lv_aload_n hx hb dX15_isSeen_94 rfl (lv_at hl 2 rfl) ?_
            refine pg_get (ci := 15) (v := .ref ak) (C := RX15) (T := TX15) (N := 59) hx hb hts it_15 hown hK hP hL_h0 hF_68 rfl 56 (by decide) (hts _ kt_999) (fun _ h9 => h9) rfl dX15_isSeen_95 ?_
            refine lv_iconst (v := 0) hx hb dX15_isSeen_98 (by decide) ?_
            obtain ⟨z_160, hF_161, hq_162⟩ := hO.txt hL_ak hT_ak
            refine pg_put (ci := 14) (v := .int 0) (ty := .int) (C := RX14) (T := TX14) (N := 2) hx hb hts it_14 tyX14 tyX14_ok nmX14 hown hK hP hD hS hL_ak hF_161 rfl 1 (by decide) (hts _ kt_709) (fun _ h9 => h9) rfl (by decide +kernel) (rfl) (rfl) (Nat.le_of_ble_eq_true rfl) dX15_isSeen_99 (fun H locs hP hD hS => ?_)
            obtain ⟨F_163, he_164, hP, hD, hO, hR⟩ : ∃ G, G = va_up F_63 ak (.inr (14, [.ref rak, .int 0])) ∧ va_P (dC, dI) vwCl (va_pl L G) H ∧ va_D A (va_pl L G) ∧ OKm cs ty gm L G ∧ FR ty [ρ + 28] F G := ⟨_, rfl, hP, hD, hO.up (shm.txt hT_ak ⟨0, rfl, (by first | omega | assumption | exact Or.inl rfl | exact Or.inr rfl)⟩), hR.up hT_ak (by simp)⟩
            have hF_165 : F_163 ak = .inr (14, [.ref rak, .int 0]) := by rw [he_164]; exact up_self
            have hF_166 : F_163 h0 = .inr (15, (.ref ta) :: (.int (nI zt)) :: (.int (nI zo_34)) :: (.int (nI ze)) :: (.ref ou) :: (.ref so) :: (.ref ad) :: (.ref na) :: (.ref va) :: (.ref lc) :: (.ref dm) :: (.int (nI fm)) :: (.int (nI sn)) :: (.ref tg) :: (.int v14_35) :: (.int v15_36) :: (.ref pe) :: (.int v17_37) :: (.int v18_38) :: (.int v19_39) :: (.int v20_40) :: (.int v21_41) :: (.int v22_42) :: (.ref ml) :: (.ref bg) :: (.ref co) :: (.ref sp) :: (.ref nb0) :: (.ref nb1) :: (.ref nb2) :: (.int (nI nf)) :: (.int (nI bd)) :: (.int (nI mm)) :: (.int v33_43) :: (.ref pl) :: (.ref se) :: (.ref ke) :: (.ref wi) :: (.ref hs) :: (.ref mo) :: (.ref po) :: (.ref nu) :: (.ref pr) :: (.ref sq) :: (.ref xa) :: (.ref sa) :: (.ref n64) :: (.ref m64) :: (.ref ex) :: (.ref wh) :: (.ref sd) :: (.ref tk) :: (.int v52_44) :: (.int v53_45) :: (.int v54_46) :: (.ref hd) :: (.ref ak) :: (.ref ho) :: (.ref ot) :: []) := by rw [he_164, up_ne (ne_ty hT_h0 hT_ak (by simp))]; exact hF_68
            have hF_167 : F_163 sp = .inl (cs 16, 21, .inl f_58) := by rw [he_164, up_ne (ne_ty ht_57 hT_ak (by simp))]; exact hF_69
            have hF_168 : F_163 co = .inl (cs 16, 21, .inl f_72) := by rw [he_164, up_ne (ne_ty ht_71 hT_ak (by simp))]; exact hF_73
            have hF_169 : F_163 ml = .inl (cs 17, 3000, .inl f_152) := by rw [he_164, up_ne (ne_ty ht_149 hT_ak (by simp))]; exact hF_153
            refine lv_iload_n hx hb dX15_isSeen_102 rfl (lv_at hl 0 rfl) ?_
            refine lv_iconst (v := 1) hx hb dX15_isSeen_103 (by decide) ?_
            refine lv_iadd hx hb dX15_isSeen_104 ?_
            refine lv_topi (fun x_170 ex_170 => ?_)
            obtain rfl : x_170 = (nI (k + 1)) := ex_170.trans (nI_add k 1)
            refine lv_istore_n (lv' := [(3, .int (nI (k + 1))), (2, .int (nI k)), (1, .int (nI jf)), (0, .ref h0)]) hx hb dX15_isSeen_105 rfl hl (by decide) rfl (fun ls hl => ?_)
            refine W.widen (k := 0) (n := 0) (by omega) (by omega) ?_
            have hF_172 : F h0 = .inr (15, (.ref ta) :: (.int (nI zt)) :: (.int (nI zo_34)) :: (.int (nI ze)) :: (.ref ou) :: (.ref so) :: (.ref ad) :: (.ref na) :: (.ref va) :: (.ref lc) :: (.ref dm) :: (.int (nI fm)) :: (.int (nI sn)) :: (.ref tg) :: (.int v14_35) :: (.int v15_36) :: (.ref pe) :: (.int v17_37) :: (.int v18_38) :: (.int v19_39) :: (.int v20_40) :: (.int v21_41) :: (.int v22_42) :: (.ref ml) :: (.ref bg) :: (.ref co) :: (.ref sp) :: (.ref nb0) :: (.ref nb1) :: (.ref nb2) :: (.int (nI nf)) :: (.int (nI bd)) :: (.int (nI mm)) :: (.int v33_43) :: (.ref pl) :: (.ref se) :: (.ref ke) :: (.ref wi) :: (.ref hs) :: (.ref mo) :: (.ref po) :: (.ref nu) :: (.ref pr) :: (.ref sq) :: (.ref xa) :: (.ref sa) :: (.ref n64) :: (.ref m64) :: (.ref ex) :: (.ref wh) :: (.ref sd) :: (.ref tk) :: (.int v52_44) :: (.int v53_45) :: (.int v54_46) :: (.ref hd) :: (.ref ak) :: (.ref ho) :: (.ref ot) :: []) := (hR h0 (by rw [hT_h0]; simp)).symm.trans hF_166
            have hF_173 : F sp = .inl (cs 16, 21, .inl f_58) := (hR sp (by rw [ht_57]; simp)).symm.trans hF_167
            have hF_174 : F co = .inl (cs 16, 21, .inl f_72) := (hR co (by rw [ht_71]; simp)).symm.trans hF_168
            have hF_175 : F ml = .inl (cs 17, 3000, .inl f_152) := (hR ml (by rw [ht_149]; simp)).symm.trans hF_169
            refine pl_loopm (σ := Nat × Nat) A (dC, dI) cs ty gm L [ρ + 28] F 106 4 (fun (i, zz) => [(3, .int (nI i)), (2, .int (nI k)), (1, .int (nI jf)), (0, .ref h0)]) (fun (i, zz) => []) (fun (i, zz) FF => (k + 1 ≤ i ∧ i ≤ max (k + 1) (gm 2 jf)) ∧ zz ≤ i - (k + 1) ∧ FF ak = .inr (14, [.ref rak, .int (nI zz)])) (fun (i, zz) => gm 2 jf - i) ?_ ((k + 1), 0) F_163 (⟨⟨by omega, by omega⟩, by omega, hF_165⟩) hO hR _ _ hP hD hS ls (lv_sub hl [0, 1, 2, 3] rfl)
            rintro ⟨i, zz⟩ F_171 hv_176 hO hR ih_177 H locs hP hD hS ls hl
            have hl : lv_has ls 4 [(3, .int (nI i)), (2, .int (nI k)), (1, .int (nI jf)), (0, .ref h0)] := hl
            have hv_176 : (k + 1 ≤ i ∧ i ≤ max (k + 1) (gm 2 jf)) ∧ zz ≤ i - (k + 1) ∧ F_171 ak = .inr (14, [.ref rak, .int (nI zz)]) := hv_176
            refine W.eq (g2 := F0 m 106 ls []) rfl ?_
            have hF_178 : F_171 h0 = .inr (15, (.ref ta) :: (.int (nI zt)) :: (.int (nI zo_34)) :: (.int (nI ze)) :: (.ref ou) :: (.ref so) :: (.ref ad) :: (.ref na) :: (.ref va) :: (.ref lc) :: (.ref dm) :: (.int (nI fm)) :: (.int (nI sn)) :: (.ref tg) :: (.int v14_35) :: (.int v15_36) :: (.ref pe) :: (.int v17_37) :: (.int v18_38) :: (.int v19_39) :: (.int v20_40) :: (.int v21_41) :: (.int v22_42) :: (.ref ml) :: (.ref bg) :: (.ref co) :: (.ref sp) :: (.ref nb0) :: (.ref nb1) :: (.ref nb2) :: (.int (nI nf)) :: (.int (nI bd)) :: (.int (nI mm)) :: (.int v33_43) :: (.ref pl) :: (.ref se) :: (.ref ke) :: (.ref wi) :: (.ref hs) :: (.ref mo) :: (.ref po) :: (.ref nu) :: (.ref pr) :: (.ref sq) :: (.ref xa) :: (.ref sa) :: (.ref n64) :: (.ref m64) :: (.ref ex) :: (.ref wh) :: (.ref sd) :: (.ref tk) :: (.int v52_44) :: (.int v53_45) :: (.int v54_46) :: (.ref hd) :: (.ref ak) :: (.ref ho) :: (.ref ot) :: []) := (hR h0 (by rw [hT_h0]; simp)).trans hF_172
            have hF_179 : F_171 sp = .inl (cs 16, 21, .inl f_58) := (hR sp (by rw [ht_57]; simp)).trans hF_173
            have hF_180 : F_171 co = .inl (cs 16, 21, .inl f_72) := (hR co (by rw [ht_71]; simp)).trans hF_174
            have hF_181 : F_171 ml = .inl (cs 17, 3000, .inl f_152) := (hR ml (by rw [ht_149]; simp)).trans hF_175
            obtain ⟨hi1, hi2, hi3⟩ := hv_176
            refine lv_iload_n hx hb dX15_isSeen_106 rfl (lv_at hl 0 rfl) ?_
            refine lv_aload_n hx hb dX15_isSeen_107 rfl (lv_at hl 3 rfl) ?_
            refine pg_get (ci := 15) (v := .ref sp) (C := RX15) (T := TX15) (N := 59) hx hb hts it_15 hown hK hP hL_h0 hF_178 rfl 26 (by decide) (hts _ kt_890) (fun _ h9 => h9) rfl dX15_isSeen_108 ?_
            refine lv_iload_n hx hb dX15_isSeen_111 rfl (lv_at hl 2 rfl) ?_
            refine pg_iald hx hb hK hP hi_56 0 hF_179 rfl (vp_in_nI (by omega) (by omega)) dX15_isSeen_112 ?_
            refine lv_topi (fun x_182 ex_182 => ?_)
            obtain rfl : x_182 = (nI (gm 2 jf)) := ex_182.trans (by rw [show ((nI jf) : Int32) = nI jf from rfl, nI_clamp (by omega)]; exact hq_60 jf (by omega))
            have hgbx_182 := hgB 2 jf
            refine lv_icmp_ge (tgt := 172) hx hb dX15_isSeen_113 (by decide) (fun c_183 => ?_) (fun c_183 => ?_)
            ·
              have hi_184 : (gm 2 jf) ≤ i := leN (N := (gm 2 jf)) c_183
              refine lv_aload_n hx hb dX15_isSeen_172 rfl (lv_at hl 3 rfl) ?_
              refine pg_get (ci := 15) (v := .ref ak) (C := RX15) (T := TX15) (N := 59) hx hb hts it_15 hown hK hP hL_h0 hF_178 rfl 56 (by decide) (hts _ kt_999) (fun _ h9 => h9) rfl dX15_isSeen_173 ?_
              have hFc := pg_free hD hS hA
              refine va_calli (va_runV (As := []) (rest := []) ⟨hx, hb, hml, hown, hts⟩ (s_X14_isName l dC dI cs ty gm L H.size F_171 ak (ρ + 28) rak 6000 zz hW hL_ak hT_ak hi3 (by first | omega | assumption | exact Or.inl rfl)) ⟨callB_of 0 hts (gi kt_1000) rfl rfl rfl (hts _ kt_676) (hts _ kt_1001) (by decide +kernel) ⟨Nat.le_of_ble_eq_true rfl, Nat.le_of_ble_eq_true rfl⟩, (hts _ kt_1002), (hts _ kt_1003)⟩ ⟨fun a U g mk q => ⟨q.1, PTm.calling q.2⟩, pg_recv hK hP hL_ak hi3 (q := (RX14, TX14, 2)) rfl, fun U hU hWm => ⟨rfl, PTm.mk hU hWm hP hK hD hE hO⟩⟩ rfl rfl hl.1 rfl (lv_room (Nat.le_of_ble_eq_true rfl)) dX15_isSeen_176 ⟨by show _ + 0 ≤ 0; omega, by show _ + 0 ≤ 0; omega⟩) hS (fun q _ h => hFc q h) hFc (fun r_185 u t H1 locs ht hvm hw hB hz1 hk1 hS => ?_)
              obtain ⟨F_186, hB1⟩ := hB
              obtain rfl : F_171 = F_186 := (funext (fun a => hB1.2.2.2 a List.not_mem_nil)).symm
              obtain ⟨hP, hD, hO, hR⟩ := QTm.back hB1 ht hFc hR (fun q h => absurd h List.not_mem_nil)
              generalize H1 = H at hP hS ⊢
              have hw : (r_185 = 0 ∨ (r_185 = 1 ∧ 0 < zz ∧ zz ≤ 60)) := hw
              have hw_187 := hw
              refine W.widen (k := 0) (n := 0) (by omega) (by omega) ?_
              exact W.zret (v := r_185) (ty := .boolean) hx hb hr (bitN (bit3 hw_187)) (fun t ht hWm => ⟨⟨r_185, r_185, rfl, ⟨rfl, bit3 hw_187⟩, ⟨F_171, zz, QTm.mk ht hP hD hO hR, hi3, (fun h => (bit1 hw_187 (by rw [h]; decide)).2)⟩⟩, hS.F ht⟩) hS.2.2 dX15_isSeen_179
            ·
              have hi_188 : i < (gm 2 jf) := ltN (N := (gm 2 jf)) c_183
              refine lv_aload_n hx hb dX15_isSeen_116 rfl (lv_at hl 3 rfl) ?_
              refine pg_get (ci := 15) (v := .ref ml) (C := RX15) (T := TX15) (N := 59) hx hb hts it_15 hown hK hP hL_h0 hF_178 rfl 23 (by decide) (hts _ kt_887) (fun _ h9 => h9) rfl dX15_isSeen_117 ?_
              refine lv_iload_n hx hb dX15_isSeen_120 rfl (lv_at hl 0 rfl) ?_
              refine pg_bald hx hb hK hP hi_148 1 hF_181 rfl (vp_in_nI (by omega) (by omega)) dX15_isSeen_121 ?_
              refine lv_topi (fun x_189 ex_189 => ?_)
              obtain rfl : x_189 = f_152 i := ex_189.trans (congrArg f_152 (show ((nI i) : Int32).toNatClampNeg = i from nI_clamp (by omega)))
              have hFc := pg_free hD hS hA
              refine va_calli (va_runS (As := [.int (f_152 i)]) (rest := []) ⟨hx, hb, hml, hown, hts⟩ (s_X15_isWhite l dC dI cs ty gm L H.size F_171 (f_152 i) hW ) ⟨callB_of 1 hts (gi kt_715) rfl rfl rfl (hts _ kt_669) (hts _ kt_716) (by decide +kernel) ⟨Nat.le_of_ble_eq_true rfl, Nat.le_of_ble_eq_true rfl⟩, (hts _ kt_717)⟩ ⟨fun a U g mk q => ⟨q.1, PTm.calling q.2⟩, fun U hU hWm => ⟨rfl, PTm.mk hU hWm hP hK hD hE hO⟩⟩ rfl rfl hl.1 rfl (lv_room (Nat.le_of_ble_eq_true rfl)) dX15_isSeen_122 ⟨by show _ + 0 ≤ 0; omega, by show _ + 0 ≤ 0; omega⟩) hS (fun q _ h => hFc q h) hFc (fun r_190 u t H1 locs ht hvm hw hB hz1 hk1 hS => ?_)
              obtain ⟨F_191, hB1⟩ := hB
              obtain rfl : F_171 = F_191 := (funext (fun a => hB1.2.2.2 a List.not_mem_nil)).symm
              obtain ⟨hP, hD, hO, hR⟩ := QTm.back hB1 ht hFc hR (fun q h => absurd h List.not_mem_nil)
              generalize H1 = H at hP hS ⊢
              have hw : (r_190 = 0 ∨ r_190 = 1) := hw
              have hw_192 := hw
              refine lv_if_ne (tgt := 172) hx hb dX15_isSeen_125 (by decide) (fun c_193 => ?_) (fun c_193 => ?_)
              ·
                refine lv_aload_n hx hb dX15_isSeen_172 rfl (lv_at hl 3 rfl) ?_
                refine pg_get (ci := 15) (v := .ref ak) (C := RX15) (T := TX15) (N := 59) hx hb hts it_15 hown hK hP hL_h0 hF_178 rfl 56 (by decide) (hts _ kt_999) (fun _ h9 => h9) rfl dX15_isSeen_173 ?_
                have hFc := pg_free hD hS hA
                refine va_calli (va_runV (As := []) (rest := []) ⟨hx, hb, hml, hown, hts⟩ (s_X14_isName l dC dI cs ty gm L H.size F_171 ak (ρ + 28) rak 6000 zz hW hL_ak hT_ak hi3 (by first | omega | assumption | exact Or.inl rfl)) ⟨callB_of 0 hts (gi kt_1000) rfl rfl rfl (hts _ kt_676) (hts _ kt_1001) (by decide +kernel) ⟨Nat.le_of_ble_eq_true rfl, Nat.le_of_ble_eq_true rfl⟩, (hts _ kt_1002), (hts _ kt_1003)⟩ ⟨fun a U g mk q => ⟨q.1, PTm.calling q.2⟩, pg_recv hK hP hL_ak hi3 (q := (RX14, TX14, 2)) rfl, fun U hU hWm => ⟨rfl, PTm.mk hU hWm hP hK hD hE hO⟩⟩ rfl rfl hl.1 rfl (lv_room (Nat.le_of_ble_eq_true rfl)) dX15_isSeen_176 ⟨by show _ + 0 ≤ 0; omega, by show _ + 0 ≤ 0; omega⟩) hS (fun q _ h => hFc q h) hFc (fun r_194 u t H1 locs ht hvm hw hB hz1 hk1 hS => ?_)
                obtain ⟨F_195, hB1⟩ := hB
                obtain rfl : F_171 = F_195 := (funext (fun a => hB1.2.2.2 a List.not_mem_nil)).symm
                obtain ⟨hP, hD, hO, hR⟩ := QTm.back hB1 ht hFc hR (fun q h => absurd h List.not_mem_nil)
                generalize H1 = H at hP hS ⊢
                have hw : (r_194 = 0 ∨ (r_194 = 1 ∧ 0 < zz ∧ zz ≤ 60)) := hw
                have hw_196 := hw
                refine W.widen (k := 0) (n := 0) (by omega) (by omega) ?_
                exact W.zret (v := r_194) (ty := .boolean) hx hb hr (bitN (bit3 hw_196)) (fun t ht hWm => ⟨⟨r_194, r_194, rfl, ⟨rfl, bit3 hw_196⟩, ⟨F_171, zz, QTm.mk ht hP hD hO hR, hi3, (fun h => (bit1 hw_196 (by rw [h]; decide)).2)⟩⟩, hS.F ht⟩) hS.2.2 dX15_isSeen_179
              ·
                refine lv_aload_n hx hb dX15_isSeen_128 rfl (lv_at hl 3 rfl) ?_
                refine pg_get (ci := 15) (v := .ref ml) (C := RX15) (T := TX15) (N := 59) hx hb hts it_15 hown hK hP hL_h0 hF_178 rfl 23 (by decide) (hts _ kt_887) (fun _ h9 => h9) rfl dX15_isSeen_129 ?_
                refine lv_iload_n hx hb dX15_isSeen_132 rfl (lv_at hl 0 rfl) ?_
                refine pg_bald hx hb hK hP hi_148 1 hF_181 rfl (vp_in_nI (by omega) (by omega)) dX15_isSeen_133 ?_
                refine lv_topi (fun x_197 ex_197 => ?_)
                obtain rfl : x_197 = f_152 i := ex_197.trans (congrArg f_152 (show ((nI i) : Int32).toNatClampNeg = i from nI_clamp (by omega)))
                refine lv_bipush (v := 62) hx hb dX15_isSeen_134 (by decide) ?_
                refine lv_icmp_eq (tgt := 172) hx hb dX15_isSeen_136 (by decide) (fun c_198 => ?_) (fun c_198 => ?_)
                ·
                  refine lv_aload_n hx hb dX15_isSeen_172 rfl (lv_at hl 3 rfl) ?_
                  refine pg_get (ci := 15) (v := .ref ak) (C := RX15) (T := TX15) (N := 59) hx hb hts it_15 hown hK hP hL_h0 hF_178 rfl 56 (by decide) (hts _ kt_999) (fun _ h9 => h9) rfl dX15_isSeen_173 ?_
                  have hFc := pg_free hD hS hA
                  refine va_calli (va_runV (As := []) (rest := []) ⟨hx, hb, hml, hown, hts⟩ (s_X14_isName l dC dI cs ty gm L H.size F_171 ak (ρ + 28) rak 6000 zz hW hL_ak hT_ak hi3 (by first | omega | assumption | exact Or.inl rfl)) ⟨callB_of 0 hts (gi kt_1000) rfl rfl rfl (hts _ kt_676) (hts _ kt_1001) (by decide +kernel) ⟨Nat.le_of_ble_eq_true rfl, Nat.le_of_ble_eq_true rfl⟩, (hts _ kt_1002), (hts _ kt_1003)⟩ ⟨fun a U g mk q => ⟨q.1, PTm.calling q.2⟩, pg_recv hK hP hL_ak hi3 (q := (RX14, TX14, 2)) rfl, fun U hU hWm => ⟨rfl, PTm.mk hU hWm hP hK hD hE hO⟩⟩ rfl rfl hl.1 rfl (lv_room (Nat.le_of_ble_eq_true rfl)) dX15_isSeen_176 ⟨by show _ + 0 ≤ 0; omega, by show _ + 0 ≤ 0; omega⟩) hS (fun q _ h => hFc q h) hFc (fun r_199 u t H1 locs ht hvm hw hB hz1 hk1 hS => ?_)
                  obtain ⟨F_200, hB1⟩ := hB
                  obtain rfl : F_171 = F_200 := (funext (fun a => hB1.2.2.2 a List.not_mem_nil)).symm
                  obtain ⟨hP, hD, hO, hR⟩ := QTm.back hB1 ht hFc hR (fun q h => absurd h List.not_mem_nil)
                  generalize H1 = H at hP hS ⊢
                  have hw : (r_199 = 0 ∨ (r_199 = 1 ∧ 0 < zz ∧ zz ≤ 60)) := hw
                  have hw_201 := hw
                  refine W.widen (k := 0) (n := 0) (by omega) (by omega) ?_
                  exact W.zret (v := r_199) (ty := .boolean) hx hb hr (bitN (bit3 hw_201)) (fun t ht hWm => ⟨⟨r_199, r_199, rfl, ⟨rfl, bit3 hw_201⟩, ⟨F_171, zz, QTm.mk ht hP hD hO hR, hi3, (fun h => (bit1 hw_201 (by rw [h]; decide)).2)⟩⟩, hS.F ht⟩) hS.2.2 dX15_isSeen_179
                ·
                  refine lv_aload_n hx hb dX15_isSeen_139 rfl (lv_at hl 3 rfl) ?_
                  refine pg_get (ci := 15) (v := .ref ml) (C := RX15) (T := TX15) (N := 59) hx hb hts it_15 hown hK hP hL_h0 hF_178 rfl 23 (by decide) (hts _ kt_887) (fun _ h9 => h9) rfl dX15_isSeen_140 ?_
                  refine lv_iload_n hx hb dX15_isSeen_143 rfl (lv_at hl 0 rfl) ?_
                  refine pg_bald hx hb hK hP hi_148 1 hF_181 rfl (vp_in_nI (by omega) (by omega)) dX15_isSeen_144 ?_
                  refine lv_topi (fun x_202 ex_202 => ?_)
                  obtain rfl : x_202 = f_152 i := ex_202.trans (congrArg f_152 (show ((nI i) : Int32).toNatClampNeg = i from nI_clamp (by omega)))
                  refine lv_bipush (v := 10) hx hb dX15_isSeen_145 (by decide) ?_
                  refine lv_icmp_eq (tgt := 172) hx hb dX15_isSeen_147 (by decide) (fun c_203 => ?_) (fun c_203 => ?_)
                  ·
                    refine lv_aload_n hx hb dX15_isSeen_172 rfl (lv_at hl 3 rfl) ?_
                    refine pg_get (ci := 15) (v := .ref ak) (C := RX15) (T := TX15) (N := 59) hx hb hts it_15 hown hK hP hL_h0 hF_178 rfl 56 (by decide) (hts _ kt_999) (fun _ h9 => h9) rfl dX15_isSeen_173 ?_
                    have hFc := pg_free hD hS hA
                    refine va_calli (va_runV (As := []) (rest := []) ⟨hx, hb, hml, hown, hts⟩ (s_X14_isName l dC dI cs ty gm L H.size F_171 ak (ρ + 28) rak 6000 zz hW hL_ak hT_ak hi3 (by first | omega | assumption | exact Or.inl rfl)) ⟨callB_of 0 hts (gi kt_1000) rfl rfl rfl (hts _ kt_676) (hts _ kt_1001) (by decide +kernel) ⟨Nat.le_of_ble_eq_true rfl, Nat.le_of_ble_eq_true rfl⟩, (hts _ kt_1002), (hts _ kt_1003)⟩ ⟨fun a U g mk q => ⟨q.1, PTm.calling q.2⟩, pg_recv hK hP hL_ak hi3 (q := (RX14, TX14, 2)) rfl, fun U hU hWm => ⟨rfl, PTm.mk hU hWm hP hK hD hE hO⟩⟩ rfl rfl hl.1 rfl (lv_room (Nat.le_of_ble_eq_true rfl)) dX15_isSeen_176 ⟨by show _ + 0 ≤ 0; omega, by show _ + 0 ≤ 0; omega⟩) hS (fun q _ h => hFc q h) hFc (fun r_204 u t H1 locs ht hvm hw hB hz1 hk1 hS => ?_)
                    obtain ⟨F_205, hB1⟩ := hB
                    obtain rfl : F_171 = F_205 := (funext (fun a => hB1.2.2.2 a List.not_mem_nil)).symm
                    obtain ⟨hP, hD, hO, hR⟩ := QTm.back hB1 ht hFc hR (fun q h => absurd h List.not_mem_nil)
                    generalize H1 = H at hP hS ⊢
                    have hw : (r_204 = 0 ∨ (r_204 = 1 ∧ 0 < zz ∧ zz ≤ 60)) := hw
                    have hw_206 := hw
                    refine W.widen (k := 0) (n := 0) (by omega) (by omega) ?_
                    exact W.zret (v := r_204) (ty := .boolean) hx hb hr (bitN (bit3 hw_206)) (fun t ht hWm => ⟨⟨r_204, r_204, rfl, ⟨rfl, bit3 hw_206⟩, ⟨F_171, zz, QTm.mk ht hP hD hO hR, hi3, (fun h => (bit1 hw_206 (by rw [h]; decide)).2)⟩⟩, hS.F ht⟩) hS.2.2 dX15_isSeen_179
                  ·
                    refine lv_aload_n hx hb dX15_isSeen_150 rfl (lv_at hl 3 rfl) ?_
                    refine pg_get (ci := 15) (v := .ref ak) (C := RX15) (T := TX15) (N := 59) hx hb hts it_15 hown hK hP hL_h0 hF_178 rfl 56 (by decide) (hts _ kt_999) (fun _ h9 => h9) rfl dX15_isSeen_151 ?_
                    refine lv_aload_n hx hb dX15_isSeen_154 rfl (lv_at hl 3 rfl) ?_
                    refine pg_get (ci := 15) (v := .ref ml) (C := RX15) (T := TX15) (N := 59) hx hb hts it_15 hown hK hP hL_h0 hF_178 rfl 23 (by decide) (hts _ kt_887) (fun _ h9 => h9) rfl dX15_isSeen_155 ?_
                    refine lv_iload_n hx hb dX15_isSeen_158 rfl (lv_at hl 0 rfl) ?_
                    refine pg_bald hx hb hK hP hi_148 1 hF_181 rfl (vp_in_nI (by omega) (by omega)) dX15_isSeen_159 ?_
                    refine lv_topi (fun x_207 ex_207 => ?_)
                    obtain rfl : x_207 = f_152 i := ex_207.trans (congrArg f_152 (show ((nI i) : Int32).toNatClampNeg = i from nI_clamp (by omega)))
                    have hFc := pg_free hD hS hA
                    refine va_calli (va_runS (As := [.int (f_152 i)]) (rest := [.ref ak]) ⟨hx, hb, hml, hown, hts⟩ (s_X15_small l dC dI cs ty gm L H.size F_171 (f_152 i) hW ) ⟨callB_of 1 hts (gi kt_697) rfl rfl rfl (hts _ kt_669) (hts _ kt_698) (by decide +kernel) ⟨Nat.le_of_ble_eq_true rfl, Nat.le_of_ble_eq_true rfl⟩, (hts _ kt_699)⟩ ⟨fun a U g mk q => ⟨q.1, PTm.calling q.2⟩, fun U hU hWm => ⟨rfl, PTm.mk hU hWm hP hK hD hE hO⟩⟩ rfl rfl hl.1 rfl (lv_room (Nat.le_of_ble_eq_true rfl)) dX15_isSeen_160 ⟨by show _ + 0 ≤ 0; omega, by show _ + 0 ≤ 0; omega⟩) hS (fun q _ h => hFc q h) hFc (fun r_208 u t H1 locs ht hvm hw hB hz1 hk1 hS => ?_)
                    obtain ⟨F_209, hB1⟩ := hB
                    obtain rfl : F_171 = F_209 := (funext (fun a => hB1.2.2.2 a List.not_mem_nil)).symm
                    obtain ⟨hP, hD, hO, hR⟩ := QTm.back hB1 ht hFc hR (fun q h => absurd h List.not_mem_nil)
                    generalize H1 = H at hP hS ⊢
                    have hw : True := hw
                    have hw_210 := hw
                    have hFc := pg_free hD hS hA
                    refine va_callv (va_runV (As := [.int r_208]) (rest := []) ⟨hx, hb, hml, hown, hts⟩ (s_X14_add l dC dI cs ty gm L H.size F_171 ak (ρ + 28) rak 6000 zz r_208 hW hL_ak hT_ak hi3 (by first | omega | assumption | exact Or.inl rfl)) ⟨callB_of 1 hts (gi kt_711) rfl rfl rfl (hts _ kt_676) (hts _ kt_712) (by decide +kernel) ⟨Nat.le_of_ble_eq_true rfl, Nat.le_of_ble_eq_true rfl⟩, (hts _ kt_713), (hts _ kt_714)⟩ ⟨fun a U g mk q => ⟨q.1, PTm.calling q.2⟩, pg_recv hK hP hL_ak hi3 (q := (RX14, TX14, 2)) rfl, fun U hU hWm => ⟨rfl, PTm.mk hU hWm hP hK hD hE hO⟩⟩ rfl rfl hl.1 rfl (lv_room (Nat.le_of_ble_eq_true rfl)) dX15_isSeen_163 ⟨by show _ + 0 ≤ 0; omega, by show _ + 0 ≤ 0; omega⟩) hS (fun q _ h => hFc q h) hFc (fun u t H1 locs ht hvm hw hB hz1 hk1 hS => ?_)
                    obtain ⟨F_212, hB1, hq_213⟩ := hB
                    obtain ⟨hP, hD, hO, hR⟩ := QTm.back hB1 ht hFc hR (fun q h => by simp only [List.mem_cons, List.not_mem_nil, or_false] at h ⊢; omega)
                    have hF_214 : F_212 h0 = .inr (15, (.ref ta) :: (.int (nI zt)) :: (.int (nI zo_34)) :: (.int (nI ze)) :: (.ref ou) :: (.ref so) :: (.ref ad) :: (.ref na) :: (.ref va) :: (.ref lc) :: (.ref dm) :: (.int (nI fm)) :: (.int (nI sn)) :: (.ref tg) :: (.int v14_35) :: (.int v15_36) :: (.ref pe) :: (.int v17_37) :: (.int v18_38) :: (.int v19_39) :: (.int v20_40) :: (.int v21_41) :: (.int v22_42) :: (.ref ml) :: (.ref bg) :: (.ref co) :: (.ref sp) :: (.ref nb0) :: (.ref nb1) :: (.ref nb2) :: (.int (nI nf)) :: (.int (nI bd)) :: (.int (nI mm)) :: (.int v33_43) :: (.ref pl) :: (.ref se) :: (.ref ke) :: (.ref wi) :: (.ref hs) :: (.ref mo) :: (.ref po) :: (.ref nu) :: (.ref pr) :: (.ref sq) :: (.ref xa) :: (.ref sa) :: (.ref n64) :: (.ref m64) :: (.ref ex) :: (.ref wh) :: (.ref sd) :: (.ref tk) :: (.int v52_44) :: (.int v53_45) :: (.int v54_46) :: (.ref hd) :: (.ref ak) :: (.ref ho) :: (.ref ot) :: []) := (hB1.2.2.2 h0 (by rw [hT_h0]; simp)).trans hF_178
                    have hF_215 : F_212 sp = .inl (cs 16, 21, .inl f_58) := (hB1.2.2.2 sp (by rw [ht_57]; simp)).trans hF_179
                    have hF_216 : F_212 co = .inl (cs 16, 21, .inl f_72) := (hB1.2.2.2 co (by rw [ht_71]; simp)).trans hF_180
                    have hF_217 : F_212 ml = .inl (cs 17, 3000, .inl f_152) := (hB1.2.2.2 ml (by rw [ht_149]; simp)).trans hF_181
                    generalize H1 = H at hP hS ⊢
                    refine lv_iinc (v := (nI (i + 1))) (lv' := [(3, .int (nI (i + 1))), (2, .int (nI k)), (1, .int (nI jf)), (0, .ref h0)]) hx hb dX15_isSeen_166 hl (k := 0) rfl (nI_1 _) (by decide) rfl (fun ls hl => ?_)
                    refine lv_goto (tgt := 106) hx hb dX15_isSeen_169 (by decide) ?_
                    refine W.widen (k := 0) (n := 0) (by omega) (by omega) ?_
                    exact ih_177 ((i + 1), (zz + 1)) F_212 (⟨⟨by omega, by omega⟩, by omega, hq_213⟩) (by show gm 2 jf - (i + 1) < gm 2 jf - i; omega) hO hR _ _ hP hD hS ls (lv_sub hl [0, 1, 2, 3] rfl)
          ·
            have hi_218 : k = (gm 1 jf) := (nI_eq (a := k) (b := (gm 1 jf)) (by omega) (by omega)).mp c_158
            refine lv_iconst (v := 0) hx hb dX15_isSeen_92 (by decide) ?_
            refine W.widen (k := 0) (n := 0) (by omega) (by omega) ?_
            obtain ⟨z_219, hF_220, hq_221⟩ := hO.txt hL_ak hT_ak
            exact W.zret (v := 0) (ty := .boolean) hx hb hr (by decide) (fun t ht hWm => ⟨⟨0, 0, rfl, ⟨rfl, Or.inl rfl⟩, ⟨F_63, z_219, QTm.mk ht hP hD hO hR, hF_220, (fun h => absurd h (by decide))⟩⟩, hS.F ht⟩) hS.2.2 dX15_isSeen_93
        ·
          refine lv_iinc (v := (nI (k - 1))) (lv' := [(2, .int (nI (k - 1))), (1, .int (nI jf)), (0, .ref h0)]) hx hb dX15_isSeen_76 hl (k := 0) rfl (m1N (by omega)) (by decide) rfl (fun ls hl => ?_)
          refine lv_goto (tgt := 55) hx hb dX15_isSeen_79 (by decide) ?_
          refine W.widen (k := 0) (n := 0) (by omega) (by omega) ?_
          exact ih_67 (k - 1) F_63 (⟨by omega, by omega⟩) (by show (k - 1) < k; omega) hO hR _ _ hP hD hS ls (lv_sub hl [0, 1, 2] rfl)
    ·
      refine lv_iconst (v := 0) hx hb dX15_isSeen_44 (by decide) ?_
      refine W.widen (k := 0) (n := 0) (by omega) (by omega) ?_
      obtain ⟨z_222, hF_223, hq_224⟩ := hO.txt hL_ak hT_ak
      exact W.zret (v := 0) (ty := .boolean) hx hb hr (by decide) (fun t ht hWm => ⟨⟨0, 0, rfl, ⟨rfl, Or.inl rfl⟩, ⟨F_31, z_222, QTm.mk ht hP hD hO hR, hF_223, (fun h => absurd h (by decide))⟩⟩, hS.F ht⟩) hS.2.2 dX15_isSeen_45
  ·
    have hi_225 : j < nf := ltN (N := nf) c_53
    refine lv_aload_n hx hb dX15_isSeen_12 rfl (lv_at hl 2 rfl) ?_
    refine lv_iload_n hx hb dX15_isSeen_13 rfl (lv_at hl 0 rfl) ?_
    obtain ⟨q_226, v_227, hr_q_226, hX_q_226⟩ := hG.2.2 ("PostGateModel", 488, "from", [102, 114, 111, 109]) (by decide +kernel)
    have hX_q_226 : SXc q_226 v_227 4 (cct [102, 114, 111, 109]) A s s.heap := hX_q_226
    obtain ⟨xo_q_226, xc_q_226, xv_q_226, xt_q_226, xn_q_226⟩ := id hX_q_226
    have hr_q_226 : vk_R "PostGateModel" 488 "from" q_226 s := hr_q_226
    refine va_ldcwS hx hb hown hr_q_226 dX15_isSeen_14 ?_
    have hFc := pg_free hD hS hA
    refine va_calli (va_runV (As := [.int (nI j), .ref q_226]) (rest := []) ⟨hx, hb, hml, hown, hts⟩ (s_X15_isNamed l dC dI cs ty gm L H.size F_31 h0 ρ ta ou so ad na va lc dm tg pe ml bg co sp nb0 nb1 nb2 pl se ke wi hs mo po nu pr sq xa sa n64 m64 ex wh sd tk hd ak ho ot sx s0 s1 s2 nf bd mm fm sn hg gc gv ze zt j q_226 v_227 4 (cct [102, 114, 111, 109]) hW hL_h0 hT_h0 (by first | omega | assumption | exact Or.inl rfl)) ⟨callB_of 2 hts (gi kt_893) rfl rfl rfl (hts _ kt_669) (hts _ kt_894) (by decide +kernel) ⟨Nat.le_of_ble_eq_true rfl, Nat.le_of_ble_eq_true rfl⟩, (hts _ kt_895), (hts _ kt_896)⟩ ⟨fun a U g mk q => ⟨q.1, PTEm.calling q.2⟩, pg_recv hK hP hL_h0 hF_47 (q := (RX15, TX15, 59)) rfl, fun U hU hWm => ⟨rfl, PTEm.mk hU hWm hP hK hD hE hO hG (fun x hx => by rw [List.mem_singleton] at hx; subst hx; exact hX_q_226) hS hFc⟩⟩ rfl rfl hl.1 rfl (lv_room (Nat.le_of_ble_eq_true rfl)) dX15_isSeen_17 ⟨by show _ + 0 ≤ 0; omega, by show _ + 0 ≤ 0; omega⟩) hS (fun q _ h => hFc q h) hFc (fun r_228 u t H1 locs ht hvm hw hB hz1 hk1 hS => ?_)
    obtain ⟨F_229, hB1⟩ := hB
    obtain rfl : F_31 = F_229 := (funext (fun a => hB1.2.2.2 a List.not_mem_nil)).symm
    obtain ⟨hP, hD, hO, hR⟩ := QTm.back hB1 ht hFc hR (fun q h => absurd h List.not_mem_nil)
    generalize H1 = H at hP hS ⊢
    have hw : (r_228 = 0 ∨ r_228 = 1) := hw
    have hw_230 := hw
    refine lv_if_ne (tgt := 26) hx hb dX15_isSeen_20 (by decide) (fun c_231 => ?_) (fun c_231 => ?_)
    ·
      refine lv_iload_n hx hb dX15_isSeen_26 rfl (lv_at hl 1 rfl) ?_
      refine lv_if_lt (tgt := 32) hx hb dX15_isSeen_27 (by decide) (fun c_232 => ?_) (fun c_232 => ?_)
      ·
        refine lv_iload_n hx hb dX15_isSeen_32 rfl (lv_at hl 0 rfl) ?_
        refine lv_istore_n (lv' := [(1, .int (nI j)), (2, .int (nI j)), (0, .ref h0)]) hx hb dX15_isSeen_33 rfl hl (by decide) rfl (fun ls hl => ?_)
        refine lv_iinc (v := (nI (j + 1))) (lv' := [(2, .int (nI (j + 1))), (1, .int (nI j)), (0, .ref h0)]) hx hb dX15_isSeen_34 hl (k := 1) rfl (nI_1 _) (by decide) rfl (fun ls hl => ?_)
        refine lv_goto (tgt := 4) hx hb dX15_isSeen_37 (by decide) ?_
        refine W.widen (k := 0) (n := 0) (by omega) (by omega) ?_
        exact ih_33 ((j + 1), (nI j)) F_31 (⟨by omega, Or.inr ⟨j, by omega, rfl⟩⟩) (by show nf - (j + 1) < nf - j; omega) hO hR _ _ hP hD hS ls (lv_sub hl [0, 1, 2] rfl)
      ·
        refine lv_iconst (v := 0) hx hb dX15_isSeen_30 (by decide) ?_
        refine W.widen (k := 0) (n := 0) (by omega) (by omega) ?_
        obtain ⟨z_233, hF_234, hq_235⟩ := hO.txt hL_ak hT_ak
        exact W.zret (v := 0) (ty := .boolean) hx hb hr (by decide) (fun t ht hWm => ⟨⟨0, 0, rfl, ⟨rfl, Or.inl rfl⟩, ⟨F_31, z_233, QTm.mk ht hP hD hO hR, hF_234, (fun h => absurd h (by decide))⟩⟩, hS.F ht⟩) hS.2.2 dX15_isSeen_31
    ·
      refine lv_goto (tgt := 34) hx hb dX15_isSeen_23 (by decide) ?_
      refine lv_iinc (v := (nI (j + 1))) (lv' := [(2, .int (nI (j + 1))), (1, .int w1), (0, .ref h0)]) hx hb dX15_isSeen_34 hl (k := 0) rfl (nI_1 _) (by decide) rfl (fun ls hl => ?_)
      refine lv_goto (tgt := 4) hx hb dX15_isSeen_37 (by decide) ?_
      refine W.widen (k := 0) (n := 0) (by omega) (by omega) ?_
      exact ih_33 ((j + 1), w1) F_31 (⟨by omega, hv2⟩) (by show nf - (j + 1) < nf - j; omega) hO hR _ _ hP hD hS ls (lv_sub hl [0, 1, 2] rfl)
