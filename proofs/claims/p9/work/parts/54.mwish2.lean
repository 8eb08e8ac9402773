theorem dX15_isSeen_0 : decode cX15_isSeen 0 = .ok (.iconst (-1), 1) := by decide +kernel
theorem dX15_isSeen_1 : decode cX15_isSeen 1 = .ok (.istore_n 1, 1) := by decide +kernel
theorem dX15_isSeen_2 : decode cX15_isSeen 2 = .ok (.iconst 0, 1) := by decide +kernel
theorem dX15_isSeen_3 : decode cX15_isSeen 3 = .ok (.istore_n 2, 1) := by decide +kernel
theorem dX15_isSeen_4 : decode cX15_isSeen 4 = .ok (.iload_n 2, 1) := by decide +kernel
theorem dX15_isSeen_5 : decode cX15_isSeen 5 = .ok (.aload_n 0, 1) := by decide +kernel
theorem dX15_isSeen_6 : decode cX15_isSeen 6 = .ok (.getfield 355, 3) := by decide +kernel
theorem dX15_isSeen_9 : decode cX15_isSeen 9 = .ok (.if_icmp .ge 31, 3) := by decide +kernel
theorem dX15_isSeen_12 : decode cX15_isSeen 12 = .ok (.aload_n 0, 1) := by decide +kernel
theorem dX15_isSeen_13 : decode cX15_isSeen 13 = .ok (.iload_n 2, 1) := by decide +kernel
theorem dX15_isSeen_14 : decode cX15_isSeen 14 = .ok (.ldc_w 488, 3) := by decide +kernel
theorem dX15_isSeen_17 : decode cX15_isSeen 17 = .ok (.invokevirtual 378, 3) := by decide +kernel
theorem dX15_isSeen_20 : decode cX15_isSeen 20 = .ok (.ifCond .ne 6, 3) := by decide +kernel
theorem dX15_isSeen_23 : decode cX15_isSeen 23 = .ok (.goto 11, 3) := by decide +kernel
theorem dX15_isSeen_26 : decode cX15_isSeen 26 = .ok (.iload_n 1, 1) := by decide +kernel
theorem dX15_isSeen_27 : decode cX15_isSeen 27 = .ok (.ifCond .lt 5, 3) := by decide +kernel
theorem dX15_isSeen_30 : decode cX15_isSeen 30 = .ok (.iconst 0, 1) := by decide +kernel
theorem dX15_isSeen_31 : decode cX15_isSeen 31 = .ok (.ireturn, 1) := by decide +kernel
theorem dX15_isSeen_32 : decode cX15_isSeen 32 = .ok (.iload_n 2, 1) := by decide +kernel
theorem dX15_isSeen_33 : decode cX15_isSeen 33 = .ok (.istore_n 1, 1) := by decide +kernel
theorem dX15_isSeen_34 : decode cX15_isSeen 34 = .ok (.iinc 2 1, 3) := by decide +kernel
theorem dX15_isSeen_37 : decode cX15_isSeen 37 = .ok (.goto (-33), 3) := by decide +kernel
theorem dX15_isSeen_40 : decode cX15_isSeen 40 = .ok (.iload_n 1, 1) := by decide +kernel
theorem dX15_isSeen_41 : decode cX15_isSeen 41 = .ok (.ifCond .ge 5, 3) := by decide +kernel
theorem dX15_isSeen_44 : decode cX15_isSeen 44 = .ok (.iconst 0, 1) := by decide +kernel
theorem dX15_isSeen_45 : decode cX15_isSeen 45 = .ok (.ireturn, 1) := by decide +kernel
theorem dX15_isSeen_46 : decode cX15_isSeen 46 = .ok (.aload_n 0, 1) := by decide +kernel
theorem dX15_isSeen_47 : decode cX15_isSeen 47 = .ok (.getfield 79, 3) := by decide +kernel
theorem dX15_isSeen_50 : decode cX15_isSeen 50 = .ok (.iload_n 1, 1) := by decide +kernel
theorem dX15_isSeen_51 : decode cX15_isSeen 51 = .ok (.iaload, 1) := by decide +kernel
theorem dX15_isSeen_52 : decode cX15_isSeen 52 = .ok (.iconst 1, 1) := by decide +kernel
theorem dX15_isSeen_53 : decode cX15_isSeen 53 = .ok (.isub, 1) := by decide +kernel
theorem dX15_isSeen_54 : decode cX15_isSeen 54 = .ok (.istore_n 2, 1) := by decide +kernel
theorem dX15_isSeen_55 : decode cX15_isSeen 55 = .ok (.iload_n 2, 1) := by decide +kernel
theorem dX15_isSeen_56 : decode cX15_isSeen 56 = .ok (.aload_n 0, 1) := by decide +kernel
theorem dX15_isSeen_57 : decode cX15_isSeen 57 = .ok (.getfield 76, 3) := by decide +kernel
theorem dX15_isSeen_60 : decode cX15_isSeen 60 = .ok (.iload_n 1, 1) := by decide +kernel
theorem dX15_isSeen_61 : decode cX15_isSeen 61 = .ok (.iaload, 1) := by decide +kernel
theorem dX15_isSeen_62 : decode cX15_isSeen 62 = .ok (.if_icmp .le 20, 3) := by decide +kernel
theorem dX15_isSeen_65 : decode cX15_isSeen 65 = .ok (.aload_n 0, 1) := by decide +kernel
theorem dX15_isSeen_66 : decode cX15_isSeen 66 = .ok (.getfield 70, 3) := by decide +kernel
theorem dX15_isSeen_69 : decode cX15_isSeen 69 = .ok (.iload_n 2, 1) := by decide +kernel
theorem dX15_isSeen_70 : decode cX15_isSeen 70 = .ok (.baload, 1) := by decide +kernel
theorem dX15_isSeen_71 : decode cX15_isSeen 71 = .ok (.bipush 64, 2) := by decide +kernel
theorem dX15_isSeen_73 : decode cX15_isSeen 73 = .ok (.if_icmp .eq 9, 3) := by decide +kernel
theorem dX15_isSeen_76 : decode cX15_isSeen 76 = .ok (.iinc 2 (-1), 3) := by decide +kernel
theorem dX15_isSeen_79 : decode cX15_isSeen 79 = .ok (.goto (-24), 3) := by decide +kernel
theorem dX15_isSeen_82 : decode cX15_isSeen 82 = .ok (.iload_n 2, 1) := by decide +kernel
theorem dX15_isSeen_83 : decode cX15_isSeen 83 = .ok (.aload_n 0, 1) := by decide +kernel
theorem dX15_isSeen_84 : decode cX15_isSeen 84 = .ok (.getfield 76, 3) := by decide +kernel
theorem dX15_isSeen_87 : decode cX15_isSeen 87 = .ok (.iload_n 1, 1) := by decide +kernel
theorem dX15_isSeen_88 : decode cX15_isSeen 88 = .ok (.iaload, 1) := by decide +kernel
theorem dX15_isSeen_89 : decode cX15_isSeen 89 = .ok (.if_icmp .ne 5, 3) := by decide +kernel
theorem dX15_isSeen_92 : decode cX15_isSeen 92 = .ok (.iconst 0, 1) := by decide +kernel
theorem dX15_isSeen_93 : decode cX15_isSeen 93 = .ok (.ireturn, 1) := by decide +kernel
theorem dX15_isSeen_94 : decode cX15_isSeen 94 = .ok (.aload_n 0, 1) := by decide +kernel
theorem dX15_isSeen_95 : decode cX15_isSeen 95 = .ok (.getfield 157, 3) := by decide +kernel
theorem dX15_isSeen_98 : decode cX15_isSeen 98 = .ok (.iconst 0, 1) := by decide +kernel
theorem dX15_isSeen_99 : decode cX15_isSeen 99 = .ok (.putfield 190, 3) := by decide +kernel
theorem dX15_isSeen_102 : decode cX15_isSeen 102 = .ok (.iload_n 2, 1) := by decide +kernel
theorem dX15_isSeen_103 : decode cX15_isSeen 103 = .ok (.iconst 1, 1) := by decide +kernel
theorem dX15_isSeen_104 : decode cX15_isSeen 104 = .ok (.iadd, 1) := by decide +kernel
theorem dX15_isSeen_105 : decode cX15_isSeen 105 = .ok (.istore_n 3, 1) := by decide +kernel
theorem dX15_isSeen_106 : decode cX15_isSeen 106 = .ok (.iload_n 3, 1) := by decide +kernel
theorem dX15_isSeen_107 : decode cX15_isSeen 107 = .ok (.aload_n 0, 1) := by decide +kernel
theorem dX15_isSeen_108 : decode cX15_isSeen 108 = .ok (.getfield 79, 3) := by decide +kernel
theorem dX15_isSeen_111 : decode cX15_isSeen 111 = .ok (.iload_n 1, 1) := by decide +kernel
theorem dX15_isSeen_112 : decode cX15_isSeen 112 = .ok (.iaload, 1) := by decide +kernel
theorem dX15_isSeen_113 : decode cX15_isSeen 113 = .ok (.if_icmp .ge 59, 3) := by decide +kernel
theorem dX15_isSeen_116 : decode cX15_isSeen 116 = .ok (.aload_n 0, 1) := by decide +kernel
theorem dX15_isSeen_117 : decode cX15_isSeen 117 = .ok (.getfield 70, 3) := by decide +kernel
theorem dX15_isSeen_120 : decode cX15_isSeen 120 = .ok (.iload_n 3, 1) := by decide +kernel
theorem dX15_isSeen_121 : decode cX15_isSeen 121 = .ok (.baload, 1) := by decide +kernel
theorem dX15_isSeen_122 : decode cX15_isSeen 122 = .ok (.invokestatic 347, 3) := by decide +kernel
theorem dX15_isSeen_125 : decode cX15_isSeen 125 = .ok (.ifCond .ne 47, 3) := by decide +kernel
theorem dX15_isSeen_128 : decode cX15_isSeen 128 = .ok (.aload_n 0, 1) := by decide +kernel
theorem dX15_isSeen_129 : decode cX15_isSeen 129 = .ok (.getfield 70, 3) := by decide +kernel
theorem dX15_isSeen_132 : decode cX15_isSeen 132 = .ok (.iload_n 3, 1) := by decide +kernel
theorem dX15_isSeen_133 : decode cX15_isSeen 133 = .ok (.baload, 1) := by decide +kernel
theorem dX15_isSeen_134 : decode cX15_isSeen 134 = .ok (.bipush 62, 2) := by decide +kernel
theorem dX15_isSeen_136 : decode cX15_isSeen 136 = .ok (.if_icmp .eq 36, 3) := by decide +kernel
theorem dX15_isSeen_139 : decode cX15_isSeen 139 = .ok (.aload_n 0, 1) := by decide +kernel
theorem dX15_isSeen_140 : decode cX15_isSeen 140 = .ok (.getfield 70, 3) := by decide +kernel
theorem dX15_isSeen_143 : decode cX15_isSeen 143 = .ok (.iload_n 3, 1) := by decide +kernel
theorem dX15_isSeen_144 : decode cX15_isSeen 144 = .ok (.baload, 1) := by decide +kernel
theorem dX15_isSeen_145 : decode cX15_isSeen 145 = .ok (.bipush 10, 2) := by decide +kernel
theorem dX15_isSeen_147 : decode cX15_isSeen 147 = .ok (.if_icmp .eq 25, 3) := by decide +kernel
theorem dX15_isSeen_150 : decode cX15_isSeen 150 = .ok (.aload_n 0, 1) := by decide +kernel
theorem dX15_isSeen_151 : decode cX15_isSeen 151 = .ok (.getfield 157, 3) := by decide +kernel
theorem dX15_isSeen_154 : decode cX15_isSeen 154 = .ok (.aload_n 0, 1) := by decide +kernel
theorem dX15_isSeen_155 : decode cX15_isSeen 155 = .ok (.getfield 70, 3) := by decide +kernel
theorem dX15_isSeen_158 : decode cX15_isSeen 158 = .ok (.iload_n 3, 1) := by decide +kernel
theorem dX15_isSeen_159 : decode cX15_isSeen 159 = .ok (.baload, 1) := by decide +kernel
theorem dX15_isSeen_160 : decode cX15_isSeen 160 = .ok (.invokestatic 21, 3) := by decide +kernel
theorem dX15_isSeen_163 : decode cX15_isSeen 163 = .ok (.invokevirtual 292, 3) := by decide +kernel
theorem dX15_isSeen_166 : decode cX15_isSeen 166 = .ok (.iinc 3 1, 3) := by decide +kernel
theorem dX15_isSeen_169 : decode cX15_isSeen 169 = .ok (.goto (-63), 3) := by decide +kernel
theorem dX15_isSeen_172 : decode cX15_isSeen 172 = .ok (.aload_n 0, 1) := by decide +kernel
theorem dX15_isSeen_173 : decode cX15_isSeen 173 = .ok (.getfield 157, 3) := by decide +kernel
theorem dX15_isSeen_176 : decode cX15_isSeen 176 = .ok (.invokevirtual 579, 3) := by decide +kernel
theorem dX15_isSeen_179 : decode cX15_isSeen 179 = .ok (.ireturn, 1) := by decide +kernel
theorem dX15_sealOf_0 : decode cX15_sealOf 0 = .ok (.aload_n 0, 1) := by decide +kernel
theorem dX15_sealOf_1 : decode cX15_sealOf 1 = .ok (.getfield 70, 3) := by decide +kernel
theorem dX15_sealOf_4 : decode cX15_sealOf 4 = .ok (.aload_n 0, 1) := by decide +kernel
theorem dX15_sealOf_5 : decode cX15_sealOf 5 = .ok (.getfield 76, 3) := by decide +kernel
theorem dX15_sealOf_8 : decode cX15_sealOf 8 = .ok (.iload_n 1, 1) := by decide +kernel
theorem dX15_sealOf_9 : decode cX15_sealOf 9 = .ok (.iaload, 1) := by decide +kernel
theorem dX15_sealOf_10 : decode cX15_sealOf 10 = .ok (.iconst 1, 1) := by decide +kernel
theorem dX15_sealOf_11 : decode cX15_sealOf 11 = .ok (.iadd, 1) := by decide +kernel
theorem dX15_sealOf_12 : decode cX15_sealOf 12 = .ok (.aload_n 0, 1) := by decide +kernel
theorem dX15_sealOf_13 : decode cX15_sealOf 13 = .ok (.getfield 79, 3) := by decide +kernel
theorem dX15_sealOf_16 : decode cX15_sealOf 16 = .ok (.iload_n 1, 1) := by decide +kernel
theorem dX15_sealOf_17 : decode cX15_sealOf 17 = .ok (.iaload, 1) := by decide +kernel
theorem dX15_sealOf_18 : decode cX15_sealOf 18 = .ok (.aload_n 0, 1) := by decide +kernel
theorem dX15_sealOf_19 : decode cX15_sealOf 19 = .ok (.getfield 97, 3) := by decide +kernel
theorem dX15_sealOf_22 : decode cX15_sealOf 22 = .ok (.getfield 409, 3) := by decide +kernel
theorem dX15_sealOf_25 : decode cX15_sealOf 25 = .ok (.invokestatic 507, 3) := by decide +kernel
theorem dX15_sealOf_28 : decode cX15_sealOf 28 = .ok (.aload_n 0, 1) := by decide +kernel
theorem dX15_sealOf_29 : decode cX15_sealOf 29 = .ok (.invokevirtual 511, 3) := by decide +kernel
theorem dX15_sealOf_32 : decode cX15_sealOf 32 = .ok (.ifCond .ne 5, 3) := by decide +kernel
theorem dX15_sealOf_35 : decode cX15_sealOf 35 = .ok (.iconst 1, 1) := by decide +kernel
theorem dX15_sealOf_36 : decode cX15_sealOf 36 = .ok (.ireturn, 1) := by decide +kernel
theorem dX15_sealOf_37 : decode cX15_sealOf 37 = .ok (.aload_n 0, 1) := by decide +kernel
theorem dX15_sealOf_38 : decode cX15_sealOf 38 = .ok (.getfield 97, 3) := by decide +kernel
theorem dX15_sealOf_41 : decode cX15_sealOf 41 = .ok (.ldc_w 454, 3) := by decide +kernel
theorem dX15_sealOf_44 : decode cX15_sealOf 44 = .ok (.invokevirtual 399, 3) := by decide +kernel
theorem dX15_sealOf_47 : decode cX15_sealOf 47 = .ok (.istore_n 3, 1) := by decide +kernel
theorem dX15_sealOf_48 : decode cX15_sealOf 48 = .ok (.aload_n 0, 1) := by decide +kernel
theorem dX15_sealOf_49 : decode cX15_sealOf 49 = .ok (.getfield 97, 3) := by decide +kernel
theorem dX15_sealOf_52 : decode cX15_sealOf 52 = .ok (.ldc_w 460, 3) := by decide +kernel
theorem dX15_sealOf_55 : decode cX15_sealOf 55 = .ok (.invokevirtual 399, 3) := by decide +kernel
theorem dX15_sealOf_58 : decode cX15_sealOf 58 = .ok (.istore 4, 2) := by decide +kernel
theorem dX15_sealOf_60 : decode cX15_sealOf 60 = .ok (.aload_n 0, 1) := by decide +kernel
theorem dX15_sealOf_61 : decode cX15_sealOf 61 = .ok (.getfield 97, 3) := by decide +kernel
theorem dX15_sealOf_64 : decode cX15_sealOf 64 = .ok (.ldc_w 481, 3) := by decide +kernel
theorem dX15_sealOf_67 : decode cX15_sealOf 67 = .ok (.invokestatic 478, 3) := by decide +kernel
theorem dX15_sealOf_70 : decode cX15_sealOf 70 = .ok (.istore 5, 2) := by decide +kernel
theorem dX15_sealOf_72 : decode cX15_sealOf 72 = .ok (.aload_n 0, 1) := by decide +kernel
theorem dX15_sealOf_73 : decode cX15_sealOf 73 = .ok (.getfield 147, 3) := by decide +kernel
theorem dX15_sealOf_76 : decode cX15_sealOf 76 = .ok (.aload_n 0, 1) := by decide +kernel
theorem dX15_sealOf_77 : decode cX15_sealOf 77 = .ok (.getfield 97, 3) := by decide +kernel
theorem dX15_sealOf_80 : decode cX15_sealOf 80 = .ok (.getfield 409, 3) := by decide +kernel
theorem dX15_sealOf_83 : decode cX15_sealOf 83 = .ok (.getfield 295, 3) := by decide +kernel
theorem dX15_sealOf_86 : decode cX15_sealOf 86 = .ok (.aload_n 0, 1) := by decide +kernel
theorem dX15_sealOf_87 : decode cX15_sealOf 87 = .ok (.getfield 97, 3) := by decide +kernel
theorem dX15_sealOf_90 : decode cX15_sealOf 90 = .ok (.getfield 403, 3) := by decide +kernel
theorem dX15_sealOf_93 : decode cX15_sealOf 93 = .ok (.iload_n 3, 1) := by decide +kernel
theorem dX15_sealOf_94 : decode cX15_sealOf 94 = .ok (.iaload, 1) := by decide +kernel
theorem dX15_sealOf_95 : decode cX15_sealOf 95 = .ok (.iconst 1, 1) := by decide +kernel
theorem dX15_sealOf_96 : decode cX15_sealOf 96 = .ok (.iadd, 1) := by decide +kernel
theorem dX15_sealOf_97 : decode cX15_sealOf 97 = .ok (.aload_n 0, 1) := by decide +kernel
theorem dX15_sealOf_98 : decode cX15_sealOf 98 = .ok (.getfield 97, 3) := by decide +kernel
theorem dX15_sealOf_101 : decode cX15_sealOf 101 = .ok (.getfield 406, 3) := by decide +kernel
theorem dX15_sealOf_104 : decode cX15_sealOf 104 = .ok (.iload_n 3, 1) := by decide +kernel
theorem dX15_sealOf_105 : decode cX15_sealOf 105 = .ok (.iaload, 1) := by decide +kernel
theorem dX15_sealOf_106 : decode cX15_sealOf 106 = .ok (.invokevirtual 186, 3) := by decide +kernel
theorem dX15_sealOf_109 : decode cX15_sealOf 109 = .ok (.iload 5, 2) := by decide +kernel
theorem dX15_sealOf_111 : decode cX15_sealOf 111 = .ok (.ifCond .lt 11, 3) := by decide +kernel
theorem dX15_sealOf_114 : decode cX15_sealOf 114 = .ok (.iload_n 2, 1) := by decide +kernel
theorem dX15_sealOf_115 : decode cX15_sealOf 115 = .ok (.iload 5, 2) := by decide +kernel
theorem dX15_sealOf_117 : decode cX15_sealOf 117 = .ok (.if_icmp .le 5, 3) := by decide +kernel
theorem dX15_sealOf_120 : decode cX15_sealOf 120 = .ok (.iconst 3, 1) := by decide +kernel
theorem dX15_sealOf_121 : decode cX15_sealOf 121 = .ok (.ireturn, 1) := by decide +kernel
theorem dX15_sealOf_122 : decode cX15_sealOf 122 = .ok (.aload_n 0, 1) := by decide +kernel
theorem dX15_sealOf_123 : decode cX15_sealOf 123 = .ok (.getfield 144, 3) := by decide +kernel
theorem dX15_sealOf_126 : decode cX15_sealOf 126 = .ok (.aload_n 0, 1) := by decide +kernel
theorem dX15_sealOf_127 : decode cX15_sealOf 127 = .ok (.getfield 97, 3) := by decide +kernel
theorem dX15_sealOf_130 : decode cX15_sealOf 130 = .ok (.getfield 409, 3) := by decide +kernel
theorem dX15_sealOf_133 : decode cX15_sealOf 133 = .ok (.getfield 295, 3) := by decide +kernel
theorem dX15_sealOf_136 : decode cX15_sealOf 136 = .ok (.aload_n 0, 1) := by decide +kernel
theorem dX15_sealOf_137 : decode cX15_sealOf 137 = .ok (.getfield 97, 3) := by decide +kernel
theorem dX15_sealOf_140 : decode cX15_sealOf 140 = .ok (.getfield 403, 3) := by decide +kernel
theorem dX15_sealOf_143 : decode cX15_sealOf 143 = .ok (.iload 4, 2) := by decide +kernel
theorem dX15_sealOf_145 : decode cX15_sealOf 145 = .ok (.iaload, 1) := by decide +kernel
theorem dX15_sealOf_146 : decode cX15_sealOf 146 = .ok (.iconst 1, 1) := by decide +kernel
theorem dX15_sealOf_147 : decode cX15_sealOf 147 = .ok (.iadd, 1) := by decide +kernel
theorem dX15_sealOf_148 : decode cX15_sealOf 148 = .ok (.aload_n 0, 1) := by decide +kernel
theorem dX15_sealOf_149 : decode cX15_sealOf 149 = .ok (.getfield 97, 3) := by decide +kernel
theorem dX15_sealOf_152 : decode cX15_sealOf 152 = .ok (.getfield 406, 3) := by decide +kernel
theorem dX15_sealOf_155 : decode cX15_sealOf 155 = .ok (.iload 4, 2) := by decide +kernel
theorem dX15_sealOf_157 : decode cX15_sealOf 157 = .ok (.iaload, 1) := by decide +kernel
theorem dX15_sealOf_158 : decode cX15_sealOf 158 = .ok (.invokevirtual 186, 3) := by decide +kernel
theorem dX15_sealOf_161 : decode cX15_sealOf 161 = .ok (.iconst 0, 1) := by decide +kernel
theorem dX15_sealOf_162 : decode cX15_sealOf 162 = .ok (.istore 6, 2) := by decide +kernel
theorem dX15_sealOf_164 : decode cX15_sealOf 164 = .ok (.iload 6, 2) := by decide +kernel
theorem dX15_sealOf_166 : decode cX15_sealOf 166 = .ok (.bipush 12, 2) := by decide +kernel
theorem dX15_sealOf_168 : decode cX15_sealOf 168 = .ok (.if_icmp .ge 24, 3) := by decide +kernel
theorem dX15_sealOf_171 : decode cX15_sealOf 171 = .ok (.aload_n 0, 1) := by decide +kernel
theorem dX15_sealOf_172 : decode cX15_sealOf 172 = .ok (.getfield 144, 3) := by decide +kernel
theorem dX15_sealOf_175 : decode cX15_sealOf 175 = .ok (.ldc_w 514, 3) := by decide +kernel
theorem dX15_sealOf_178 : decode cX15_sealOf 178 = .ok (.iload 6, 2) := by decide +kernel
theorem dX15_sealOf_180 : decode cX15_sealOf 180 = .ok (.invokevirtual 13, 3) := by decide +kernel
theorem dX15_sealOf_183 : decode cX15_sealOf 183 = .ok (.invokevirtual 292, 3) := by decide +kernel
theorem dX15_sealOf_186 : decode cX15_sealOf 186 = .ok (.iinc 6 1, 3) := by decide +kernel
theorem dX15_sealOf_189 : decode cX15_sealOf 189 = .ok (.goto (-25), 3) := by decide +kernel
theorem dX15_sealOf_192 : decode cX15_sealOf 192 = .ok (.aload_n 0, 1) := by decide +kernel
theorem dX15_sealOf_193 : decode cX15_sealOf 193 = .ok (.getfield 144, 3) := by decide +kernel
theorem dX15_sealOf_196 : decode cX15_sealOf 196 = .ok (.aload_n 0, 1) := by decide +kernel
theorem dX15_sealOf_197 : decode cX15_sealOf 197 = .ok (.getfield 147, 3) := by decide +kernel
theorem dX15_sealOf_200 : decode cX15_sealOf 200 = .ok (.getfield 295, 3) := by decide +kernel
theorem dX15_sealOf_203 : decode cX15_sealOf 203 = .ok (.iconst 0, 1) := by decide +kernel
theorem dX15_sealOf_204 : decode cX15_sealOf 204 = .ok (.aload_n 0, 1) := by decide +kernel
theorem dX15_sealOf_205 : decode cX15_sealOf 205 = .ok (.getfield 147, 3) := by decide +kernel
theorem dX15_sealOf_208 : decode cX15_sealOf 208 = .ok (.getfield 190, 3) := by decide +kernel
theorem dX15_sealOf_211 : decode cX15_sealOf 211 = .ok (.invokevirtual 298, 3) := by decide +kernel
theorem dX15_sealOf_214 : decode cX15_sealOf 214 = .ok (.aload_n 0, 1) := by decide +kernel
theorem dX15_sealOf_215 : decode cX15_sealOf 215 = .ok (.invokevirtual 516, 3) := by decide +kernel
theorem dX15_sealOf_218 : decode cX15_sealOf 218 = .ok (.istore 6, 2) := by decide +kernel
theorem dX15_sealOf_220 : decode cX15_sealOf 220 = .ok (.iload 6, 2) := by decide +kernel
theorem dX15_sealOf_222 : decode cX15_sealOf 222 = .ok (.iconst 2, 1) := by decide +kernel
theorem dX15_sealOf_223 : decode cX15_sealOf 223 = .ok (.if_icmp .eq 6, 3) := by decide +kernel
theorem dX15_sealOf_226 : decode cX15_sealOf 226 = .ok (.iload 6, 2) := by decide +kernel
theorem dX15_sealOf_228 : decode cX15_sealOf 228 = .ok (.ireturn, 1) := by decide +kernel
theorem dX15_sealOf_229 : decode cX15_sealOf 229 = .ok (.aload_n 0, 1) := by decide +kernel
theorem dX15_sealOf_230 : decode cX15_sealOf 230 = .ok (.aload_n 0, 1) := by decide +kernel
theorem dX15_sealOf_231 : decode cX15_sealOf 231 = .ok (.getfield 494, 3) := by decide +kernel
theorem dX15_sealOf_234 : decode cX15_sealOf 234 = .ok (.invokevirtual 388, 3) := by decide +kernel
theorem dX15_sealOf_237 : decode cX15_sealOf 237 = .ok (.aload_n 0, 1) := by decide +kernel
theorem dX15_sealOf_238 : decode cX15_sealOf 238 = .ok (.getfield 97, 3) := by decide +kernel
theorem dX15_sealOf_241 : decode cX15_sealOf 241 = .ok (.ldc_w 476, 3) := by decide +kernel
theorem dX15_sealOf_244 : decode cX15_sealOf 244 = .ok (.invokestatic 478, 3) := by decide +kernel
theorem dX15_sealOf_247 : decode cX15_sealOf 247 = .ok (.istore 7, 2) := by decide +kernel
theorem dX15_sealOf_249 : decode cX15_sealOf 249 = .ok (.iload 7, 2) := by decide +kernel
theorem dX15_sealOf_251 : decode cX15_sealOf 251 = .ok (.aload_n 0, 1) := by decide +kernel
theorem dX15_sealOf_252 : decode cX15_sealOf 252 = .ok (.getfield 91, 3) := by decide +kernel
theorem dX15_sealOf_255 : decode cX15_sealOf 255 = .ok (.getfield 190, 3) := by decide +kernel
theorem dX15_sealOf_258 : decode cX15_sealOf 258 = .ok (.if_icmp .le 5, 3) := by decide +kernel
theorem dX15_sealOf_261 : decode cX15_sealOf 261 = .ok (.iconst 3, 1) := by decide +kernel
theorem dX15_sealOf_262 : decode cX15_sealOf 262 = .ok (.ireturn, 1) := by decide +kernel
theorem dX15_sealOf_263 : decode cX15_sealOf 263 = .ok (.aload_n 0, 1) := by decide +kernel
theorem dX15_sealOf_264 : decode cX15_sealOf 264 = .ok (.aload_n 0, 1) := by decide +kernel
theorem dX15_sealOf_265 : decode cX15_sealOf 265 = .ok (.getfield 91, 3) := by decide +kernel
theorem dX15_sealOf_268 : decode cX15_sealOf 268 = .ok (.getfield 295, 3) := by decide +kernel
theorem dX15_sealOf_271 : decode cX15_sealOf 271 = .ok (.iload 7, 2) := by decide +kernel
theorem dX15_sealOf_273 : decode cX15_sealOf 273 = .ok (.ifCond .lt 8, 3) := by decide +kernel
theorem dX15_sealOf_276 : decode cX15_sealOf 276 = .ok (.iload 7, 2) := by decide +kernel
theorem dX15_sealOf_278 : decode cX15_sealOf 278 = .ok (.goto 10, 3) := by decide +kernel
theorem dX15_sealOf_281 : decode cX15_sealOf 281 = .ok (.aload_n 0, 1) := by decide +kernel
theorem dX15_sealOf_282 : decode cX15_sealOf 282 = .ok (.getfield 91, 3) := by decide +kernel
theorem dX15_sealOf_285 : decode cX15_sealOf 285 = .ok (.getfield 190, 3) := by decide +kernel
theorem dX15_sealOf_288 : decode cX15_sealOf 288 = .ok (.aload_n 0, 1) := by decide +kernel
theorem dX15_sealOf_289 : decode cX15_sealOf 289 = .ok (.getfield 129, 3) := by decide +kernel
theorem dX15_sealOf_292 : decode cX15_sealOf 292 = .ok (.invokevirtual 519, 3) := by decide +kernel
theorem dX15_sealOf_295 : decode cX15_sealOf 295 = .ok (.aload_n 0, 1) := by decide +kernel
theorem dX15_sealOf_296 : decode cX15_sealOf 296 = .ok (.getfield 129, 3) := by decide +kernel
theorem dX15_sealOf_299 : decode cX15_sealOf 299 = .ok (.aload_n 0, 1) := by decide +kernel
theorem dX15_sealOf_300 : decode cX15_sealOf 300 = .ok (.getfield 132, 3) := by decide +kernel
theorem dX15_sealOf_303 : decode cX15_sealOf 303 = .ok (.invokestatic 523, 3) := by decide +kernel
theorem dX15_sealOf_306 : decode cX15_sealOf 306 = .ok (.ifCond .ne 5, 3) := by decide +kernel
theorem dX15_sealOf_309 : decode cX15_sealOf 309 = .ok (.iconst 3, 1) := by decide +kernel
theorem dX15_sealOf_310 : decode cX15_sealOf 310 = .ok (.ireturn, 1) := by decide +kernel
theorem dX15_sealOf_311 : decode cX15_sealOf 311 = .ok (.aload_n 0, 1) := by decide +kernel
theorem dX15_sealOf_312 : decode cX15_sealOf 312 = .ok (.iload_n 1, 1) := by decide +kernel
theorem dX15_sealOf_313 : decode cX15_sealOf 313 = .ok (.invokevirtual 527, 3) := by decide +kernel
theorem dX15_sealOf_316 : decode cX15_sealOf 316 = .ok (.aload_n 0, 1) := by decide +kernel
theorem dX15_sealOf_317 : decode cX15_sealOf 317 = .ok (.aload_n 0, 1) := by decide +kernel
theorem dX15_sealOf_318 : decode cX15_sealOf 318 = .ok (.getfield 91, 3) := by decide +kernel
theorem dX15_sealOf_321 : decode cX15_sealOf 321 = .ok (.getfield 295, 3) := by decide +kernel
theorem dX15_sealOf_324 : decode cX15_sealOf 324 = .ok (.aload_n 0, 1) := by decide +kernel
theorem dX15_sealOf_325 : decode cX15_sealOf 325 = .ok (.getfield 91, 3) := by decide +kernel
theorem dX15_sealOf_328 : decode cX15_sealOf 328 = .ok (.getfield 190, 3) := by decide +kernel
theorem dX15_sealOf_331 : decode cX15_sealOf 331 = .ok (.aload_n 0, 1) := by decide +kernel
theorem dX15_sealOf_332 : decode cX15_sealOf 332 = .ok (.getfield 129, 3) := by decide +kernel
theorem dX15_sealOf_335 : decode cX15_sealOf 335 = .ok (.invokevirtual 519, 3) := by decide +kernel
theorem dX15_sealOf_338 : decode cX15_sealOf 338 = .ok (.aload_n 0, 1) := by decide +kernel
theorem dX15_sealOf_339 : decode cX15_sealOf 339 = .ok (.invokevirtual 530, 3) := by decide +kernel
theorem dX15_sealOf_342 : decode cX15_sealOf 342 = .ok (.ifCond .eq 7, 3) := by decide +kernel
theorem dX15_sealOf_345 : decode cX15_sealOf 345 = .ok (.iconst 2, 1) := by decide +kernel
theorem dX15_sealOf_346 : decode cX15_sealOf 346 = .ok (.goto 4, 3) := by decide +kernel
theorem dX15_sealOf_349 : decode cX15_sealOf 349 = .ok (.iconst 3, 1) := by decide +kernel
theorem dX15_sealOf_350 : decode cX15_sealOf 350 = .ok (.ireturn, 1) := by decide +kernel
theorem dX15_sealed_0 : decode cX15_sealed 0 = .ok (.iload_n 2, 1) := by decide +kernel
theorem dX15_sealed_1 : decode cX15_sealed 1 = .ok (.ifCond .ge 5, 3) := by decide +kernel
theorem dX15_sealed_4 : decode cX15_sealed 4 = .ok (.iconst (-1), 1) := by decide +kernel
theorem dX15_sealed_5 : decode cX15_sealed 5 = .ok (.ireturn, 1) := by decide +kernel
theorem dX15_sealed_6 : decode cX15_sealed 6 = .ok (.aload_n 0, 1) := by decide +kernel
theorem dX15_sealed_7 : decode cX15_sealed 7 = .ok (.iload_n 1, 1) := by decide +kernel
theorem dX15_sealed_8 : decode cX15_sealed 8 = .ok (.invokevirtual 501, 3) := by decide +kernel
theorem dX15_sealed_11 : decode cX15_sealed 11 = .ok (.istore_n 3, 1) := by decide +kernel
theorem dX15_sealed_12 : decode cX15_sealed 12 = .ok (.iload_n 3, 1) := by decide +kernel
theorem dX15_sealed_13 : decode cX15_sealed 13 = .ok (.ifCond .ge 8, 3) := by decide +kernel
theorem dX15_sealed_16 : decode cX15_sealed 16 = .ok (.bipush (-2), 2) := by decide +kernel
theorem dX15_sealed_18 : decode cX15_sealed 18 = .ok (.goto 9, 3) := by decide +kernel
theorem dX15_sealed_21 : decode cX15_sealed 21 = .ok (.aload_n 0, 1) := by decide +kernel
theorem dX15_sealed_22 : decode cX15_sealed 22 = .ok (.iload_n 3, 1) := by decide +kernel
theorem dX15_sealed_23 : decode cX15_sealed 23 = .ok (.iload_n 2, 1) := by decide +kernel
theorem dX15_sealed_24 : decode cX15_sealed 24 = .ok (.invokevirtual 504, 3) := by decide +kernel
theorem dX15_sealed_27 : decode cX15_sealed 27 = .ok (.ireturn, 1) := by decide +kernel
theorem dX15_wish_0 : decode cX15_wish 0 = .ok (.aload_n 0, 1) := by decide +kernel
theorem dX15_wish_1 : decode cX15_wish 1 = .ok (.getfield 208, 3) := by decide +kernel
theorem dX15_wish_4 : decode cX15_wish 4 = .ok (.ifCond .eq 7, 3) := by decide +kernel
theorem dX15_wish_7 : decode cX15_wish 7 = .ok (.iload_n 1, 1) := by decide +kernel
theorem dX15_wish_8 : decode cX15_wish 8 = .ok (.ifCond .ge 5, 3) := by decide +kernel
theorem dX15_wish_11 : decode cX15_wish 11 = .ok (.iconst (-1), 1) := by decide +kernel
theorem dX15_wish_12 : decode cX15_wish 12 = .ok (.ireturn, 1) := by decide +kernel
theorem dX15_wish_13 : decode cX15_wish 13 = .ok (.aload_n 0, 1) := by decide +kernel
theorem dX15_wish_14 : decode cX15_wish 14 = .ok (.getfield 370, 3) := by decide +kernel
theorem dX15_wish_17 : decode cX15_wish 17 = .ok (.ifCond .ne 6, 3) := by decide +kernel
theorem dX15_wish_20 : decode cX15_wish 20 = .ok (.bipush (-2), 2) := by decide +kernel
theorem dX15_wish_22 : decode cX15_wish 22 = .ok (.ireturn, 1) := by decide +kernel
theorem dX15_wish_23 : decode cX15_wish 23 = .ok (.aload_n 0, 1) := by decide +kernel
theorem dX15_wish_24 : decode cX15_wish 24 = .ok (.invokevirtual 581, 3) := by decide +kernel
theorem dX15_wish_27 : decode cX15_wish 27 = .ok (.ifCond .ne 5, 3) := by decide +kernel
theorem dX15_wish_30 : decode cX15_wish 30 = .ok (.iconst 1, 1) := by decide +kernel
theorem dX15_wish_31 : decode cX15_wish 31 = .ok (.ireturn, 1) := by decide +kernel
theorem dX15_wish_32 : decode cX15_wish 32 = .ok (.iconst 1, 1) := by decide +kernel
theorem dX15_wish_33 : decode cX15_wish 33 = .ok (.istore_n 2, 1) := by decide +kernel
theorem dX15_wish_34 : decode cX15_wish 34 = .ok (.aload_n 0, 1) := by decide +kernel
theorem dX15_wish_35 : decode cX15_wish 35 = .ok (.aload_n 0, 1) := by decide +kernel
theorem dX15_wish_36 : decode cX15_wish 36 = .ok (.getfield 157, 3) := by decide +kernel
theorem dX15_wish_39 : decode cX15_wish 39 = .ok (.invokevirtual 584, 3) := by decide +kernel
theorem dX15_wish_42 : decode cX15_wish 42 = .ok (.istore_n 3, 1) := by decide +kernel
theorem dX15_wish_43 : decode cX15_wish 43 = .ok (.iload_n 3, 1) := by decide +kernel
theorem dX15_wish_44 : decode cX15_wish 44 = .ok (.iconst (-1), 1) := by decide +kernel
theorem dX15_wish_45 : decode cX15_wish 45 = .ok (.if_icmp .ne 26, 3) := by decide +kernel
theorem dX15_wish_48 : decode cX15_wish 48 = .ok (.iconst 0, 1) := by decide +kernel
theorem dX15_wish_49 : decode cX15_wish 49 = .ok (.istore_n 2, 1) := by decide +kernel
theorem dX15_wish_50 : decode cX15_wish 50 = .ok (.aload_n 0, 1) := by decide +kernel
theorem dX15_wish_51 : decode cX15_wish 51 = .ok (.aload_n 0, 1) := by decide +kernel
theorem dX15_wish_52 : decode cX15_wish 52 = .ok (.getfield 157, 3) := by decide +kernel
theorem dX15_wish_55 : decode cX15_wish 55 = .ok (.aload_n 0, 1) := by decide +kernel
theorem dX15_wish_56 : decode cX15_wish 56 = .ok (.getfield 160, 3) := by decide +kernel
theorem dX15_wish_59 : decode cX15_wish 59 = .ok (.invokevirtual 565, 3) := by decide +kernel
theorem dX15_wish_62 : decode cX15_wish 62 = .ok (.aload_n 0, 1) := by decide +kernel
theorem dX15_wish_63 : decode cX15_wish 63 = .ok (.aload_n 0, 1) := by decide +kernel
theorem dX15_wish_64 : decode cX15_wish 64 = .ok (.getfield 160, 3) := by decide +kernel
theorem dX15_wish_67 : decode cX15_wish 67 = .ok (.invokevirtual 584, 3) := by decide +kernel
theorem dX15_wish_70 : decode cX15_wish 70 = .ok (.istore_n 3, 1) := by decide +kernel
theorem dX15_wish_71 : decode cX15_wish 71 = .ok (.iload_n 3, 1) := by decide +kernel
theorem dX15_wish_72 : decode cX15_wish 72 = .ok (.ifCond .ge 15, 3) := by decide +kernel
theorem dX15_wish_75 : decode cX15_wish 75 = .ok (.iload_n 3, 1) := by decide +kernel
theorem dX15_wish_76 : decode cX15_wish 76 = .ok (.bipush (-2), 2) := by decide +kernel
theorem dX15_wish_78 : decode cX15_wish 78 = .ok (.if_icmp .ne 7, 3) := by decide +kernel
theorem dX15_wish_81 : decode cX15_wish 81 = .ok (.iconst 5, 1) := by decide +kernel
theorem dX15_wish_82 : decode cX15_wish 82 = .ok (.goto 4, 3) := by decide +kernel
theorem dX15_wish_85 : decode cX15_wish 85 = .ok (.iconst 0, 1) := by decide +kernel
theorem dX15_wish_86 : decode cX15_wish 86 = .ok (.ireturn, 1) := by decide +kernel
theorem dX15_wish_87 : decode cX15_wish 87 = .ok (.aload_n 0, 1) := by decide +kernel
theorem dX15_wish_88 : decode cX15_wish 88 = .ok (.getfield 51, 3) := by decide +kernel
theorem dX15_wish_91 : decode cX15_wish 91 = .ok (.iload_n 3, 1) := by decide +kernel
theorem dX15_wish_92 : decode cX15_wish 92 = .ok (.aaload, 1) := by decide +kernel
theorem dX15_wish_93 : decode cX15_wish 93 = .ok (.getfield 295, 3) := by decide +kernel
theorem dX15_wish_96 : decode cX15_wish 96 = .ok (.iconst 0, 1) := by decide +kernel
theorem dX15_wish_97 : decode cX15_wish 97 = .ok (.aload_n 0, 1) := by decide +kernel
theorem dX15_wish_98 : decode cX15_wish 98 = .ok (.getfield 51, 3) := by decide +kernel
theorem dX15_wish_101 : decode cX15_wish 101 = .ok (.iload_n 3, 1) := by decide +kernel
theorem dX15_wish_102 : decode cX15_wish 102 = .ok (.aaload, 1) := by decide +kernel
theorem dX15_wish_103 : decode cX15_wish 103 = .ok (.getfield 190, 3) := by decide +kernel
theorem dX15_wish_106 : decode cX15_wish 106 = .ok (.aload_n 0, 1) := by decide +kernel
theorem dX15_wish_107 : decode cX15_wish 107 = .ok (.getfield 104, 3) := by decide +kernel
theorem dX15_wish_110 : decode cX15_wish 110 = .ok (.getfield 409, 3) := by decide +kernel
theorem dX15_wish_113 : decode cX15_wish 113 = .ok (.invokestatic 507, 3) := by decide +kernel
theorem dX15_wish_116 : decode cX15_wish 116 = .ok (.aload_n 0, 1) := by decide +kernel
theorem dX15_wish_117 : decode cX15_wish 117 = .ok (.getfield 104, 3) := by decide +kernel
theorem dX15_wish_120 : decode cX15_wish 120 = .ok (.bipush 8, 2) := by decide +kernel
theorem dX15_wish_122 : decode cX15_wish 122 = .ok (.invokevirtual 441, 3) := by decide +kernel
theorem dX15_wish_125 : decode cX15_wish 125 = .ok (.ifCond .ne 6, 3) := by decide +kernel
theorem dX15_wish_128 : decode cX15_wish 128 = .ok (.bipush 6, 2) := by decide +kernel
theorem dX15_wish_130 : decode cX15_wish 130 = .ok (.ireturn, 1) := by decide +kernel
theorem dX15_wish_131 : decode cX15_wish 131 = .ok (.aload_n 0, 1) := by decide +kernel
theorem dX15_wish_132 : decode cX15_wish 132 = .ok (.getfield 104, 3) := by decide +kernel
theorem dX15_wish_135 : decode cX15_wish 135 = .ok (.ldc_w 533, 3) := by decide +kernel
theorem dX15_wish_138 : decode cX15_wish 138 = .ok (.invokestatic 587, 3) := by decide +kernel
theorem dX15_wish_141 : decode cX15_wish 141 = .ok (.istore 4, 2) := by decide +kernel
theorem dX15_wish_143 : decode cX15_wish 143 = .ok (.iload 4, 2) := by decide +kernel
theorem dX15_wish_145 : decode cX15_wish 145 = .ok (.bipush 6, 2) := by decide +kernel
theorem dX15_wish_147 : decode cX15_wish 147 = .ok (.if_icmp .ne 6, 3) := by decide +kernel
theorem dX15_wish_150 : decode cX15_wish 150 = .ok (.bipush 6, 2) := by decide +kernel
theorem dX15_wish_152 : decode cX15_wish 152 = .ok (.ireturn, 1) := by decide +kernel
theorem dX15_wish_153 : decode cX15_wish 153 = .ok (.iload_n 2, 1) := by decide +kernel
theorem dX15_wish_154 : decode cX15_wish 154 = .ok (.ifCond .ne 38, 3) := by decide +kernel
theorem dX15_wish_157 : decode cX15_wish 157 = .ok (.aload_n 0, 1) := by decide +kernel
theorem dX15_wish_158 : decode cX15_wish 158 = .ok (.getfield 104, 3) := by decide +kernel
theorem dX15_wish_161 : decode cX15_wish 161 = .ok (.ldc_w 590, 3) := by decide +kernel
theorem dX15_wish_164 : decode cX15_wish 164 = .ok (.invokevirtual 399, 3) := by decide +kernel
theorem dX15_wish_167 : decode cX15_wish 167 = .ok (.ifCond .lt 25, 3) := by decide +kernel
theorem dX15_wish_170 : decode cX15_wish 170 = .ok (.aload_n 0, 1) := by decide +kernel
theorem dX15_wish_171 : decode cX15_wish 171 = .ok (.getfield 104, 3) := by decide +kernel
theorem dX15_wish_174 : decode cX15_wish 174 = .ok (.ldc_w 590, 3) := by decide +kernel
theorem dX15_wish_177 : decode cX15_wish 177 = .ok (.invokestatic 587, 3) := by decide +kernel
theorem dX15_wish_180 : decode cX15_wish 180 = .ok (.istore 4, 2) := by decide +kernel
theorem dX15_wish_182 : decode cX15_wish 182 = .ok (.iload 4, 2) := by decide +kernel
theorem dX15_wish_184 : decode cX15_wish 184 = .ok (.bipush 6, 2) := by decide +kernel
theorem dX15_wish_186 : decode cX15_wish 186 = .ok (.if_icmp .ne 6, 3) := by decide +kernel
theorem dX15_wish_189 : decode cX15_wish 189 = .ok (.bipush 6, 2) := by decide +kernel
theorem dX15_wish_191 : decode cX15_wish 191 = .ok (.ireturn, 1) := by decide +kernel
theorem dX15_wish_192 : decode cX15_wish 192 = .ok (.aload_n 0, 1) := by decide +kernel
theorem dX15_wish_193 : decode cX15_wish 193 = .ok (.invokevirtual 592, 3) := by decide +kernel
theorem dX15_wish_196 : decode cX15_wish 196 = .ok (.iconst 2, 1) := by decide +kernel
theorem dX15_wish_197 : decode cX15_wish 197 = .ok (.if_icmp .ne 33, 3) := by decide +kernel
theorem dX15_wish_200 : decode cX15_wish 200 = .ok (.aload_n 0, 1) := by decide +kernel
theorem dX15_wish_201 : decode cX15_wish 201 = .ok (.aload_n 0, 1) := by decide +kernel
theorem dX15_wish_202 : decode cX15_wish 202 = .ok (.getfield 61, 3) := by decide +kernel
theorem dX15_wish_205 : decode cX15_wish 205 = .ok (.aload_n 0, 1) := by decide +kernel
theorem dX15_wish_206 : decode cX15_wish 206 = .ok (.getfield 157, 3) := by decide +kernel
theorem dX15_wish_209 : decode cX15_wish 209 = .ok (.aload_n 0, 1) := by decide +kernel
theorem dX15_wish_210 : decode cX15_wish 210 = .ok (.getfield 104, 3) := by decide +kernel
theorem dX15_wish_213 : decode cX15_wish 213 = .ok (.ldc_w 595, 3) := by decide +kernel
theorem dX15_wish_216 : decode cX15_wish 216 = .ok (.ldc_w 460, 3) := by decide +kernel
theorem dX15_wish_219 : decode cX15_wish 219 = .ok (.invokevirtual 448, 3) := by decide +kernel
theorem dX15_wish_222 : decode cX15_wish 222 = .ok (.invokevirtual 597, 3) := by decide +kernel
theorem dX15_wish_225 : decode cX15_wish 225 = .ok (.ifCond .eq 5, 3) := by decide +kernel
theorem dX15_wish_228 : decode cX15_wish 228 = .ok (.iconst 2, 1) := by decide +kernel
theorem dX15_wish_229 : decode cX15_wish 229 = .ok (.ireturn, 1) := by decide +kernel
theorem dX15_wish_230 : decode cX15_wish 230 = .ok (.iconst 0, 1) := by decide +kernel
theorem dX15_wish_231 : decode cX15_wish 231 = .ok (.istore 5, 2) := by decide +kernel
theorem dX15_wish_233 : decode cX15_wish 233 = .ok (.iload 5, 2) := by decide +kernel
theorem dX15_wish_235 : decode cX15_wish 235 = .ok (.aload_n 0, 1) := by decide +kernel
theorem dX15_wish_236 : decode cX15_wish 236 = .ok (.getfield 355, 3) := by decide +kernel
theorem dX15_wish_239 : decode cX15_wish 239 = .ok (.if_icmp .ge 65, 3) := by decide +kernel
theorem dX15_wish_242 : decode cX15_wish 242 = .ok (.aload_n 0, 1) := by decide +kernel
theorem dX15_wish_243 : decode cX15_wish 243 = .ok (.iload 5, 2) := by decide +kernel
theorem dX15_wish_245 : decode cX15_wish 245 = .ok (.ldc_w 376, 3) := by decide +kernel
theorem dX15_wish_248 : decode cX15_wish 248 = .ok (.invokevirtual 378, 3) := by decide +kernel
theorem dX15_wish_251 : decode cX15_wish 251 = .ok (.ifCond .eq 47, 3) := by decide +kernel
theorem dX15_wish_254 : decode cX15_wish 254 = .ok (.aload_n 0, 1) := by decide +kernel
theorem dX15_wish_255 : decode cX15_wish 255 = .ok (.iload 5, 2) := by decide +kernel
theorem dX15_wish_257 : decode cX15_wish 257 = .ok (.iload_n 1, 1) := by decide +kernel
theorem dX15_wish_258 : decode cX15_wish 258 = .ok (.invokevirtual 504, 3) := by decide +kernel
theorem dX15_wish_261 : decode cX15_wish 261 = .ok (.iconst 2, 1) := by decide +kernel
theorem dX15_wish_262 : decode cX15_wish 262 = .ok (.if_icmp .eq 6, 3) := by decide +kernel
theorem dX15_wish_265 : decode cX15_wish 265 = .ok (.goto 33, 3) := by decide +kernel
theorem dX15_wish_268 : decode cX15_wish 268 = .ok (.aload_n 0, 1) := by decide +kernel
theorem dX15_wish_269 : decode cX15_wish 269 = .ok (.aload_n 0, 1) := by decide +kernel
theorem dX15_wish_270 : decode cX15_wish 270 = .ok (.getfield 147, 3) := by decide +kernel
theorem dX15_wish_273 : decode cX15_wish 273 = .ok (.aload_n 0, 1) := by decide +kernel
theorem dX15_wish_274 : decode cX15_wish 274 = .ok (.getfield 157, 3) := by decide +kernel
theorem dX15_wish_277 : decode cX15_wish 277 = .ok (.aload_n 0, 1) := by decide +kernel
theorem dX15_wish_278 : decode cX15_wish 278 = .ok (.getfield 104, 3) := by decide +kernel
theorem dX15_wish_281 : decode cX15_wish 281 = .ok (.ldc_w 601, 3) := by decide +kernel
theorem dX15_wish_284 : decode cX15_wish 284 = .ok (.ldc_w 460, 3) := by decide +kernel
theorem dX15_wish_287 : decode cX15_wish 287 = .ok (.invokevirtual 448, 3) := by decide +kernel
theorem dX15_wish_290 : decode cX15_wish 290 = .ok (.invokevirtual 597, 3) := by decide +kernel
theorem dX15_wish_293 : decode cX15_wish 293 = .ok (.ifCond .eq 5, 3) := by decide +kernel
theorem dX15_wish_296 : decode cX15_wish 296 = .ok (.iconst 2, 1) := by decide +kernel
theorem dX15_wish_297 : decode cX15_wish 297 = .ok (.ireturn, 1) := by decide +kernel
theorem dX15_wish_298 : decode cX15_wish 298 = .ok (.iinc 5 1, 3) := by decide +kernel
theorem dX15_wish_301 : decode cX15_wish 301 = .ok (.goto (-68), 3) := by decide +kernel
theorem dX15_wish_304 : decode cX15_wish 304 = .ok (.iload 4, 2) := by decide +kernel
theorem dX15_wish_306 : decode cX15_wish 306 = .ok (.ireturn, 1) := by decide +kernel
theorem kt_1013 : Cond.code yX15_isWell cX15_isWell 1 (some .boolean) ∈ tb := tb_at (i := 1705) (by decide +kernel) (by decide +kernel)
theorem kt_1014 : Cond.methodLink RX15 511 yX15_isWell ∈ tb := tb_at (i := 1702) (by decide +kernel) (by decide +kernel)
theorem kt_1015 : Cond.instanceMethod yX15_isWell ∈ tb := tb_at (i := 1704) (by decide +kernel) (by decide +kernel)
theorem kt_1016 : Cond.selects RX15 yX15_isWell yX15_isWell ∈ tb := tb_at (i := 63) (by decide +kernel) (by decide +kernel)
theorem kt_1017 : Cond.fieldLink RX15 147 "PostGateModel" "sealDomain" "LPostGateModel$Text;" ∈ tb := tb_at (i := 1339) (by decide +kernel) (by decide +kernel)
theorem kt_1018 : Cond.code yX15_keyOf cX15_keyOf 3 (some .int) ∈ tb := tb_at (i := 1766) (by decide +kernel) (by decide +kernel)
theorem kt_1019 : Cond.methodLink RX15 516 yX15_keyOf ∈ tb := tb_at (i := 1763) (by decide +kernel) (by decide +kernel)
theorem kt_1020 : Cond.instanceMethod yX15_keyOf ∈ tb := tb_at (i := 1765) (by decide +kernel) (by decide +kernel)
theorem kt_1021 : Cond.selects RX15 yX15_keyOf yX15_keyOf ∈ tb := tb_at (i := 68) (by decide +kernel) (by decide +kernel)
theorem kt_1022 : Cond.code yX15_digest cX15_digest 4 none ∈ tb := tb_at (i := 1774) (by decide +kernel) (by decide +kernel)
theorem kt_1023 : Cond.methodLink RX15 519 yX15_digest ∈ tb := tb_at (i := 1771) (by decide +kernel) (by decide +kernel)
theorem kt_1024 : Cond.instanceMethod yX15_digest ∈ tb := tb_at (i := 1773) (by decide +kernel) (by decide +kernel)
theorem kt_1025 : Cond.selects RX15 yX15_digest yX15_digest ∈ tb := tb_at (i := 69) (by decide +kernel) (by decide +kernel)
theorem kt_1026 : Cond.code yX15_isAll cX15_isAll 4 (some .boolean) ∈ tb := tb_at (i := 1806) (by decide +kernel) (by decide +kernel)
theorem kt_1027 : Cond.methodLink RX15 523 yX15_isAll ∈ tb := tb_at (i := 1804) (by decide +kernel) (by decide +kernel)
theorem kt_1028 : Cond.static yX15_isAll ∈ tb := tb_at (i := 1805) (by decide +kernel) (by decide +kernel)
theorem kt_1029 : Cond.code yX15_fieldsPlain cX15_fieldsPlain 11 none ∈ tb := tb_at (i := 1810) (by decide +kernel) (by decide +kernel)
theorem kt_1030 : Cond.methodLink RX15 527 yX15_fieldsPlain ∈ tb := tb_at (i := 1807) (by decide +kernel) (by decide +kernel)
theorem kt_1031 : Cond.instanceMethod yX15_fieldsPlain ∈ tb := tb_at (i := 1809) (by decide +kernel) (by decide +kernel)
theorem kt_1032 : Cond.selects RX15 yX15_fieldsPlain yX15_fieldsPlain ∈ tb := tb_at (i := 71) (by decide +kernel) (by decide +kernel)
theorem kt_1033 : Cond.code yX15_isPower cX15_isPower 3 (some .boolean) ∈ tb := tb_at (i := 1821) (by decide +kernel) (by decide +kernel)
theorem kt_1034 : Cond.methodLink RX15 530 yX15_isPower ∈ tb := tb_at (i := 1818) (by decide +kernel) (by decide +kernel)
theorem kt_1035 : Cond.instanceMethod yX15_isPower ∈ tb := tb_at (i := 1820) (by decide +kernel) (by decide +kernel)
theorem kt_1036 : Cond.selects RX15 yX15_isPower yX15_isPower ∈ tb := tb_at (i := 73) (by decide +kernel) (by decide +kernel)
theorem kt_1037 : Cond.code yX15_sealAt cX15_sealAt 4 (some .int) ∈ tb := tb_at (i := 1694) (by decide +kernel) (by decide +kernel)
theorem kt_1038 : Cond.methodLink RX15 501 yX15_sealAt ∈ tb := tb_at (i := 1691) (by decide +kernel) (by decide +kernel)
theorem kt_1039 : Cond.instanceMethod yX15_sealAt ∈ tb := tb_at (i := 1693) (by decide +kernel) (by decide +kernel)
theorem kt_1040 : Cond.selects RX15 yX15_sealAt yX15_sealAt ∈ tb := tb_at (i := 61) (by decide +kernel) (by decide +kernel)
theorem kt_1041 : Cond.code yX15_sealOf cX15_sealOf 8 (some .int) ∈ tb := tb_at (i := 1698) (by decide +kernel) (by decide +kernel)
theorem kt_1042 : Cond.methodLink RX15 504 yX15_sealOf ∈ tb := tb_at (i := 1695) (by decide +kernel) (by decide +kernel)
theorem kt_1043 : Cond.instanceMethod yX15_sealOf ∈ tb := tb_at (i := 1697) (by decide +kernel) (by decide +kernel)
theorem kt_1044 : Cond.selects RX15 yX15_sealOf yX15_sealOf ∈ tb := tb_at (i := 62) (by decide +kernel) (by decide +kernel)
theorem kt_1045 : Cond.fieldLink RX15 157 "PostGateModel" "asked" "LPostGateModel$Text;" ∈ tb := tb_at (i := 1345) (by decide +kernel) (by decide +kernel)
theorem kt_1046 : Cond.code yX14_isName cX14_isName 1 (some .boolean) ∈ tb := tb_at (i := 1872) (by decide +kernel) (by decide +kernel)
theorem kt_1047 : Cond.methodLink RX15 579 yX14_isName ∈ tb := tb_at (i := 1869) (by decide +kernel) (by decide +kernel)
theorem kt_1048 : Cond.instanceMethod yX14_isName ∈ tb := tb_at (i := 1870) (by decide +kernel) (by decide +kernel)
theorem kt_1049 : Cond.selects RX14 yX14_isName yX14_isName ∈ tb := tb_at (i := 1871) (by decide +kernel) (by decide +kernel)
theorem kt_1050 : Cond.code yX15_isSeen cX15_isSeen 4 (some .boolean) ∈ tb := tb_at (i := 1868) (by decide +kernel) (by decide +kernel)
theorem kt_1051 : Cond.methodLink RX15 581 yX15_isSeen ∈ tb := tb_at (i := 1865) (by decide +kernel) (by decide +kernel)
theorem kt_1052 : Cond.instanceMethod yX15_isSeen ∈ tb := tb_at (i := 1867) (by decide +kernel) (by decide +kernel)
theorem kt_1053 : Cond.selects RX15 yX15_isSeen yX15_isSeen ∈ tb := tb_at (i := 77) (by decide +kernel) (by decide +kernel)
theorem kt_1054 : Cond.code yX15_wantedOf cX15_wantedOf 5 (some .int) ∈ tb := tb_at (i := 1877) (by decide +kernel) (by decide +kernel)
theorem kt_1055 : Cond.methodLink RX15 584 yX15_wantedOf ∈ tb := tb_at (i := 1874) (by decide +kernel) (by decide +kernel)
theorem kt_1056 : Cond.instanceMethod yX15_wantedOf ∈ tb := tb_at (i := 1876) (by decide +kernel) (by decide +kernel)
theorem kt_1057 : Cond.selects RX15 yX15_wantedOf yX15_wantedOf ∈ tb := tb_at (i := 78) (by decide +kernel) (by decide +kernel)
theorem kt_1058 : Cond.fieldLink RX15 104 "PostGateModel" "wish" "LPostGateModel$Tags;" ∈ tb := tb_at (i := 1326) (by decide +kernel) (by decide +kernel)
theorem kt_1059 : Cond.code yX15_wanted cX15_wanted 2 (some .int) ∈ tb := tb_at (i := 1882) (by decide +kernel) (by decide +kernel)
theorem kt_1060 : Cond.methodLink RX15 587 yX15_wanted ∈ tb := tb_at (i := 1880) (by decide +kernel) (by decide +kernel)
theorem kt_1061 : Cond.static yX15_wanted ∈ tb := tb_at (i := 1881) (by decide +kernel) (by decide +kernel)
theorem kt_1062 : Cond.code yX15_permission cX15_permission 1 (some .int) ∈ tb := tb_at (i := 1521) (by decide +kernel) (by decide +kernel)
theorem kt_1063 : Cond.methodLink RX15 592 yX15_permission ∈ tb := tb_at (i := 1887) (by decide +kernel) (by decide +kernel)
theorem kt_1064 : Cond.instanceMethod yX15_permission ∈ tb := tb_at (i := 1519) (by decide +kernel) (by decide +kernel)
theorem kt_1065 : Cond.selects RX15 yX15_permission yX15_permission ∈ tb := tb_at (i := 1520) (by decide +kernel) (by decide +kernel)
theorem kt_1066 : Cond.code yX15_isAligned cX15_isAligned 4 (some .boolean) ∈ tb := tb_at (i := 1892) (by decide +kernel) (by decide +kernel)
theorem kt_1067 : Cond.methodLink RX15 597 yX15_isAligned ∈ tb := tb_at (i := 1889) (by decide +kernel) (by decide +kernel)
theorem kt_1068 : Cond.instanceMethod yX15_isAligned ∈ tb := tb_at (i := 1891) (by decide +kernel) (by decide +kernel)
theorem kt_1069 : Cond.selects RX15 yX15_isAligned yX15_isAligned ∈ tb := tb_at (i := 79) (by decide +kernel) (by decide +kernel)
set_option maxHeartbeats 4000000 in
set_option maxRecDepth 100000 in
theorem s_X15_sealOf (l : Launch) (dC : Nat → ClassId) (dI : Nat → Nat → Nat) (cs : Nat → ClassId) (ty : TyM) (gm : Nat → Nat → Nat) (L : List Nat) (sz : Nat) (F : Nat → va_E) (h0 : Nat) (ρ : Nat) (ta : Nat) (ou : Nat) (so : Nat) (ad : Nat) (na : Nat) (va : Nat) (lc : Nat) (dm : Nat) (tg : Nat) (pe : Nat) (ml : Nat) (bg : Nat) (co : Nat) (sp : Nat) (nb0 : Nat) (nb1 : Nat) (nb2 : Nat) (pl : Nat) (se : Nat) (ke : Nat) (wi : Nat) (hs : Nat) (mo : Nat) (po : Nat) (nu : Nat) (pr : Nat) (sq : Nat) (xa : Nat) (sa : Nat) (n64 : Nat) (m64 : Nat) (ex : Nat) (wh : Nat) (sd : Nat) (tk : Nat) (hd : Nat) (ak : Nat) (ho : Nat) (ot : Nat) (sx : Nat) (s0 : Nat) (s1 : Nat) (s2 : Nat) (nf : Nat) (bd : Nat) (mm : Nat) (ze : Nat) (zt : Nat) (sb : Nat) (rl : Nat) (jf : Nat) (x2 : Int32) (hW : WTm ty gm L) (hL_h0 : h0 ∈ L) (hT_h0 : ty h0 = (15, ρ, [ta, ou, so, ad, na, va, lc, dm, tg, pe, ml, bg, co, sp, nb0, nb1, nb2, pl, se, ke, wi, hs, mo, po, nu, pr, sq, xa, sa, n64, m64, ex, wh, sd, tk, hd, ak, ho, ot, sx, s0, s1, s2, nf, bd, mm, ze, zt])) (hL_sx : sx ∈ L) (hT_sx : ty sx = (14, ρ + 12, [sb, 3000])) (hL_pl : pl ∈ L) (hT_pl : ty pl = (14, ρ + 10, [rl, 6000])) (hjf : jf < nf) : Met l yX15_sealOf (.code yX15_sealOf cX15_sealOf 8 (some .int) :: tb) ({ frames := 8, cells := 0, slots := 0, locals := 186 }) (va_Pc [.ref h0, .int (nI jf), .int x2] (PTEm (dC, dI) cs ty gm L F sz [])) (va_Qi (fun (r : Int32) (_ : Unit) => True) (fun _ T9 => ∃ F2 : Nat → va_E, QTm (dC, dI) cs ty gm L [ρ, ρ + 10, ρ + 11, ρ + 12, ρ + 13, ρ + 14, ρ + 17, ρ + 18, ρ + 19, ρ + 20, ρ + 21, ρ + 22, ρ + 23, ρ + 24, ρ + 25, ρ + 26] F F2 (va_A (va_pl L F) sz) T9) (va_A (va_pl L F) sz)) 0 0 (va_A (va_pl L F) sz) := by
  refine Met.ofW (cc := cX15_sealOf) (maxL := 8) (ret := (some .int)) (by decide) rfl ?_
  intro p e s m args below meth c s₁ B hml hv
  obtain ⟨rfl, ⟨hsz, hP, hK, hD0, hE, hO⟩, hG, hX⟩ := hv
  have hx := B.exec
  have hb := B.bytes
  have hr := B.returns
  have hts : ∀ w ∈ tb, w.before _ s = true := fun w h => atoms_spec (ws := .code yX15_sealOf cX15_sealOf 8 (some .int) :: tb) B.pre w (List.mem_cons_of_mem _ h)
  have hown : s.vm.findClass RX15 = some m.cls := findClass_of_methodNamed B.named
  have hlocks := B.notSynchronized
  subst hsz
  have hD := hD0.self (sz := s.heap.size)
  generalize hAe : va_A (va_pl L F) s.heap.size = A at hD hG hX ⊢
  have hA : ∀ q : Nat, s.heap.size ≤ q → A q := fun q h => by rw [← hAe]; exact Or.inr h
  have hS : va_S A s.heap s.heap [] := va_S.rf
  have hR : FR ty [ρ, ρ + 10, ρ + 11, ρ + 12, ρ + 13, ρ + 14, ρ + 17, ρ + 18, ρ + 19, ρ + 20, ρ + 21, ρ + 22, ρ + 23, ρ + 24, ρ + 25, ρ + 26] F F := FR.refl
  have hl := lv_entry ([.ref h0, .int (nI jf), .int x2]) (n := 8) (Nat.le_of_ble_eq_true rfl)
  rw [lg_entry_eq]
  generalize (lg_sl ([.ref h0, .int (nI jf), .int x2]) ++ List.replicate (8 - (lg_sl ([.ref h0, .int (nI jf), .int x2])).length) Slot.unset).toArray = ls at hl ⊢
  have hl : lv_has ls 8 [(0, .ref h0), (1, .int (nI jf)), (2, .int x2)] := hl
  obtain ⟨hq_22, hq_23, hq_24, hq_25, hq_26, hgO, hgA, hgB⟩ := hW.sc hL_h0 hT_h0
  have hoj := hgO jf hjf
  obtain ⟨hi_27, ht_28⟩ := hW.f_se hL_h0 hT_h0
  obtain ⟨_, hi_29, hi_30, hi_31, _, ht_32, ht_33, ht_34, hq_35, hq_36⟩ := hW.tags hi_27 ht_28
  obtain ⟨hi_37, ht_38, hq_39⟩ := hW.txt hL_sx hT_sx
  obtain ⟨hi_40, ht_41, hq_42⟩ := hW.txt hL_pl hT_pl
  obtain ⟨hi_43, r_17, ht_44⟩ := hW.f_wh hL_h0 hT_h0
  obtain ⟨hi_45, ht_46, hq_47⟩ := hW.txt hi_43 ht_44
  obtain ⟨hi_48, r_18, ht_49⟩ := hW.f_sd hL_h0 hT_h0
  obtain ⟨hi_50, ht_51, hq_52⟩ := hW.txt hi_48 ht_49
  refine lv_aload_n hx hb dX15_sealOf_0 rfl (lv_at hl 0 rfl) ?_
  obtain ⟨zo_53, v11_54, v12_55, v14_56, v15_57, v17_58, v18_59, v19_60, v20_61, v21_62, v22_63, v33_64, v52_65, v53_66, v54_67, hF_68, hq_69, hq_70, hq_71, hq_72⟩ := hO.mod hL_h0 hT_h0
  refine pg_get (ci := 15) (v := .ref ml) (C := RX15) (T := TX15) (N := 59) hx hb hts it_15 hown hK hP hL_h0 hF_68 rfl 23 (by decide) (hts _ kt_902) (fun _ h9 => h9) rfl dX15_sealOf_1 ?_
  refine lv_aload_n hx hb dX15_sealOf_4 rfl (lv_at hl 0 rfl) ?_
  refine pg_get (ci := 15) (v := .ref co) (C := RX15) (T := TX15) (N := 59) hx hb hts it_15 hown hK hP hL_h0 hF_68 rfl 25 (by decide) (hts _ kt_904) (fun _ h9 => h9) rfl dX15_sealOf_5 ?_
  refine lv_iload_n hx hb dX15_sealOf_8 rfl (lv_at hl 1 rfl) ?_
  obtain ⟨hi_73, ht_74⟩ := hW.f_co hL_h0 hT_h0
  obtain ⟨f_75, hF_76, hq_77⟩ := hO.pos hi_73 ht_74
  refine pg_iald hx hb hK hP hi_73 0 hF_76 rfl (vp_in_nI (by omega) (by omega)) dX15_sealOf_9 ?_
  refine lv_topi (fun x_78 ex_78 => ?_)
  obtain rfl : x_78 = (nI (gm 1 jf)) := ex_78.trans (by rw [show ((nI jf) : Int32) = nI jf from rfl, nI_clamp (by omega)]; exact hq_77 jf (by omega))
  have hgbx_78 := hgB 1 jf
  refine lv_iconst (v := 1) hx hb dX15_sealOf_10 (by decide) ?_
  refine lv_iadd hx hb dX15_sealOf_11 ?_
  refine lv_topi (fun x_79 ex_79 => ?_)
  obtain rfl : x_79 = (nI ((gm 1 jf) + 1)) := ex_79.trans (nI_add (gm 1 jf) 1)
  refine lv_aload_n hx hb dX15_sealOf_12 rfl (lv_at hl 0 rfl) ?_
  refine pg_get (ci := 15) (v := .ref sp) (C := RX15) (T := TX15) (N := 59) hx hb hts it_15 hown hK hP hL_h0 hF_68 rfl 26 (by decide) (hts _ kt_905) (fun _ h9 => h9) rfl dX15_sealOf_13 ?_
  refine lv_iload_n hx hb dX15_sealOf_16 rfl (lv_at hl 1 rfl) ?_
  obtain ⟨hi_80, ht_81⟩ := hW.f_sp hL_h0 hT_h0
  obtain ⟨f_82, hF_83, hq_84⟩ := hO.pos hi_80 ht_81
  refine pg_iald hx hb hK hP hi_80 0 hF_83 rfl (vp_in_nI (by omega) (by omega)) dX15_sealOf_17 ?_
  refine lv_topi (fun x_85 ex_85 => ?_)
  obtain rfl : x_85 = (nI (gm 2 jf)) := ex_85.trans (by rw [show ((nI jf) : Int32) = nI jf from rfl, nI_clamp (by omega)]; exact hq_84 jf (by omega))
  have hgbx_85 := hgB 2 jf
  refine lv_aload_n hx hb dX15_sealOf_18 rfl (lv_at hl 0 rfl) ?_
  refine pg_get (ci := 15) (v := .ref se) (C := RX15) (T := TX15) (N := 59) hx hb hts it_15 hown hK hP hL_h0 hF_68 rfl 35 (by decide) (hts _ kt_862) (fun _ h9 => h9) rfl dX15_sealOf_19 ?_
  obtain ⟨z_86, hF_87, hq_88⟩ := hO.tags hi_27 ht_28
  refine pg_get (ci := 13) (v := .ref sx) (C := RX13) (T := TX13) (N := 5) hx hb hts it_13 hown hK hP hi_27 hF_87 rfl 0 (by decide) (hts _ kt_857) (fun _ h9 => h9) rfl dX15_sealOf_22 ?_
  obtain ⟨hi_89, ht_90⟩ := hW.f_ml hL_h0 hT_h0
  obtain ⟨hq_91, hq_92⟩ := hW.octs hi_89 ht_90
  have hFc := pg_free hD hS hA
  refine va_callv (va_runS (As := [.ref ml, .int (nI ((gm 1 jf) + 1)), .int (nI (gm 2 jf)), .ref sx]) (rest := []) ⟨hx, hb, hml, hown, hts⟩ (s_X15_withoutWhite l dC dI cs ty gm L s.heap.size F ml (ρ + 8) 3000 sx (ρ + 12) sb 3000 ((gm 1 jf) + 1) (gm 2 jf) hW hi_89 ht_90 hL_sx hT_sx (by first | omega | assumption) (by first | omega | assumption) (by first | omega | assumption)) ⟨callB_of 4 hts (gi kt_955) rfl rfl rfl (hts _ kt_669) (hts _ kt_956) (by decide +kernel) ⟨Nat.le_of_ble_eq_true rfl, Nat.le_of_ble_eq_true rfl⟩, (hts _ kt_957)⟩ ⟨fun a U g mk q => ⟨q.1, PTm.calling q.2⟩, fun U hU hWm => ⟨rfl, PTm.mk hU hWm hP hK hD hE hO⟩⟩ rfl rfl hl.1 rfl (lv_room (Nat.le_of_ble_eq_true rfl)) dX15_sealOf_25 ⟨by show _ + 0 ≤ 0; omega, by show _ + 0 ≤ 0; omega⟩) hS (fun q _ h => hFc q h) hFc (fun u t H1 locs ht hvm hw hB hz1 hk1 hS => ?_)
  obtain ⟨F_94, z2_95, hB1, hq_96, hq_97⟩ := hB
  obtain ⟨hP, hD, hO, hR⟩ := QTm.back hB1 ht hFc hR (fun q h => by simp only [List.mem_cons, List.not_mem_nil, or_false] at h ⊢; omega)
  have hF_98 : F_94 h0 = .inr (15, (.ref ta) :: (.int (nI zt)) :: (.int (nI zo_53)) :: (.int (nI ze)) :: (.ref ou) :: (.ref so) :: (.ref ad) :: (.ref na) :: (.ref va) :: (.ref lc) :: (.ref dm) :: (.int v11_54) :: (.int v12_55) :: (.ref tg) :: (.int v14_56) :: (.int v15_57) :: (.ref pe) :: (.int v17_58) :: (.int v18_59) :: (.int v19_60) :: (.int v20_61) :: (.int v21_62) :: (.int v22_63) :: (.ref ml) :: (.ref bg) :: (.ref co) :: (.ref sp) :: (.ref nb0) :: (.ref nb1) :: (.ref nb2) :: (.int (nI nf)) :: (.int (nI bd)) :: (.int (nI mm)) :: (.int v33_64) :: (.ref pl) :: (.ref se) :: (.ref ke) :: (.ref wi) :: (.ref hs) :: (.ref mo) :: (.ref po) :: (.ref nu) :: (.ref pr) :: (.ref sq) :: (.ref xa) :: (.ref sa) :: (.ref n64) :: (.ref m64) :: (.ref ex) :: (.ref wh) :: (.ref sd) :: (.ref tk) :: (.int v52_65) :: (.int v53_66) :: (.int v54_67) :: (.ref hd) :: (.ref ak) :: (.ref ho) :: (.ref ot) :: []) := (hB1.2.2.2 h0 (by rw [hT_h0]; simp)).trans hF_68
  have hF_99 : F_94 co = .inl (cs 16, 21, .inl f_75) := (hB1.2.2.2 co (by rw [ht_74]; simp)).trans hF_76
  have hF_100 : F_94 sp = .inl (cs 16, 21, .inl f_82) := (hB1.2.2.2 sp (by rw [ht_81]; simp)).trans hF_83
  have hF_101 : F_94 se = .inr (13, [.ref sx, .ref s0, .ref s1, .ref s2, .int (nI z_86)]) := (hB1.2.2.2 se (by rw [ht_28]; simp)).trans hF_87
  generalize H1 = H at hP hS ⊢
  refine lv_aload_n hx hb dX15_sealOf_28 rfl (lv_at hl 0 rfl) ?_
  have hFc := pg_free hD hS hA
  refine va_calli (va_runV (As := []) (rest := []) ⟨hx, hb, hml, hown, hts⟩ (s_X15_isWell l dC dI cs ty gm L H.size F_94 h0 ρ ta ou so ad na va lc dm tg pe ml bg co sp nb0 nb1 nb2 pl se ke wi hs mo po nu pr sq xa sa n64 m64 ex wh sd tk hd ak ho ot sx s0 s1 s2 nf bd mm ze zt sb z2_95 hW hL_h0 hT_h0 hL_sx hT_sx hq_96 (by omega)) ⟨callB_of 0 hts (gi kt_1013) rfl rfl rfl (hts _ kt_669) (hts _ kt_1014) (by decide +kernel) ⟨Nat.le_of_ble_eq_true rfl, Nat.le_of_ble_eq_true rfl⟩, (hts _ kt_1015), (hts _ kt_1016)⟩ ⟨fun a U g mk q => ⟨q.1, PTEm.calling q.2⟩, pg_recv hK hP hL_h0 hF_98 (q := (RX15, TX15, 59)) rfl, fun U hU hWm => ⟨rfl, PTEm.mk hU hWm hP hK hD hE hO hG (fun x hx => absurd hx List.not_mem_nil) hS hFc⟩⟩ rfl rfl hl.1 rfl (lv_room (Nat.le_of_ble_eq_true rfl)) dX15_sealOf_29 ⟨by show _ + 0 ≤ 0; omega, by show _ + 0 ≤ 0; omega⟩) hS (fun q _ h => hFc q h) hFc (fun r_103 wk_102 t H1 locs ht hvm hw hB hz1 hk1 hS => ?_)
  obtain ⟨F_104, eb_105, e0_106, e1_107, e2_108, zs_109, hB1, hq_110, hq_111, hq_112, hq_113, hq_114, hq_115, hq_116⟩ := hB
  obtain ⟨hP, hD, hO, hR⟩ := QTm.back hB1 ht hFc hR (fun q h => by simp only [List.mem_cons, List.not_mem_nil, or_false] at h ⊢; omega)
  have hF_117 : F_104 co = .inl (cs 16, 21, .inl f_75) := (hB1.2.2.2 co (by rw [ht_74]; simp)).trans hF_99
  have hF_118 : F_104 sp = .inl (cs 16, 21, .inl f_82) := (hB1.2.2.2 sp (by rw [ht_81]; simp)).trans hF_100
  have hF_119 : F_104 sx = .inr (14, [.ref sb, .int (nI z2_95)]) := (hB1.2.2.2 sx (by rw [hT_sx]; simp)).trans hq_96
  generalize H1 = H at hP hS ⊢
  have hw : (r_103 = 0 ∨ (r_103 = 1 ∧ wk_102 = 1)) := hw
  have hw_120 := hw
  obtain ⟨eb, e0, e1, e2, zs, hka, hkb, hkc, hkd, hke, hzs, hwl⟩ : ∃ (eb e0 e1 e2 : Nat → Int32) (zs : Nat), F_104 sb = .inl (cs 17, 3000, .inl eb) ∧ F_104 s0 = .inl (cs 16, 40, .inl e0) ∧ F_104 s1 = .inl (cs 16, 40, .inl e1) ∧ F_104 s2 = .inl (cs 16, 40, .inl e2) ∧ F_104 se = .inr (13, [.ref sx, .ref s0, .ref s1, .ref s2, .int (nI zs)]) ∧ zs ≤ 40 ∧ (wk_102 = 1 → WLP eb e0 e1 e2 zs) := ⟨_, _, _, _, _, hq_110, hq_111, hq_112, hq_113, hq_114, hq_115, hq_116⟩
  refine lv_if_ne (tgt := 37) hx hb dX15_sealOf_32 (by decide) (fun c_121 => ?_) (fun c_121 => ?_)
  ·
    obtain ⟨kd, ks, kh, hd1, hs1, hh1, hfd, htd, hfs, hfk, hfh⟩ := hwl (bit1 hw_120 c_121)
    refine lv_aload_n hx hb dX15_sealOf_37 rfl (lv_at hl 0 rfl) ?_
    obtain ⟨zo_122, v11_123, v12_124, v14_125, v15_126, v17_127, v18_128, v19_129, v20_130, v21_131, v22_132, v33_133, v52_134, v53_135, v54_136, hF_137, hq_138, hq_139, hq_140, hq_141⟩ := hO.mod hL_h0 hT_h0
    refine pg_get (ci := 15) (v := .ref se) (C := RX15) (T := TX15) (N := 59) hx hb hts it_15 hown hK hP hL_h0 hF_137 rfl 35 (by decide) (hts _ kt_862) (fun _ h9 => h9) rfl dX15_sealOf_38 ?_
    obtain ⟨q_142, v_143, hr_q_142, hX_q_142⟩ := hG.2.2 ("PostGateModel", 454, "d", [100]) (by decide +kernel)
    have hX_q_142 : SXc q_142 v_143 1 (cct [100]) A s s.heap := hX_q_142
    obtain ⟨xo_q_142, xc_q_142, xv_q_142, xt_q_142, xn_q_142⟩ := id hX_q_142
    have hr_q_142 : vk_R "PostGateModel" 454 "d" q_142 s := hr_q_142
    refine va_ldcwS hx hb hown hr_q_142 dX15_sealOf_41 ?_
    have hFc := pg_free hD hS hA
    refine va_calli (va_runV (As := [.ref q_142]) (rest := []) ⟨hx, hb, hml, hown, hts⟩ (s_X13_find l dC dI cs ty gm L H.size F_104 se (ρ + 11) sx 3000 1280 s0 s1 s2 sb zs q_142 v_143 1 (cct [100]) hW hi_27 ht_28 hL_sx hT_sx hke (by first | omega | assumption)) ⟨callB_of 1 hts (gi kt_843) rfl rfl rfl (hts _ kt_844) (hts _ kt_854) (by decide +kernel) ⟨Nat.le_of_ble_eq_true rfl, Nat.le_of_ble_eq_true rfl⟩, (hts _ kt_846), (hts _ kt_847)⟩ ⟨fun a U g mk q => ⟨q.1, PTEm.calling q.2⟩, pg_recv hK hP hi_27 hke (q := (RX13, TX13, 5)) rfl, fun U hU hWm => ⟨rfl, PTEm.mk hU hWm hP hK hD hE hO hG (fun x hx => by rw [List.mem_singleton] at hx; subst hx; exact hX_q_142) hS hFc⟩⟩ rfl rfl hl.1 rfl (lv_room (Nat.le_of_ble_eq_true rfl)) dX15_sealOf_44 ⟨by show _ + 0 ≤ 0; omega, by show _ + 0 ≤ 0; omega⟩) hS (fun q _ h => hFc q h) hFc (fun r_144 u t H1 locs ht hvm hw hB hz1 hk1 hS => ?_)
    obtain ⟨F_145, hB1⟩ := hB
    obtain rfl : F_104 = F_145 := (funext (fun a => hB1.2.2.2 a List.not_mem_nil)).symm
    obtain ⟨hP, hD, hO, hR⟩ := QTm.back hB1 ht hFc hR (fun q h => absurd h List.not_mem_nil)
    generalize H1 = H at hP hS ⊢
    have hw : FND (gA (F_104 sb)) (gA (F_104 s0)) (gA (F_104 s1)) zs (cct [100]) 1 r_144 := hw
    have hw_146 := hw
    have hfr_147 : FND eb e0 e1 zs (cct [100]) 1 r_144 := by have h9 := hw_146; rw [gA_fun hka, gA_fun hkb, gA_fun hkc] at h9; exact h9
    obtain rfl := FND.uniq hfr_147 hfd
    refine lv_istore_n (lv' := [(3, .int (nI kd)), (0, .ref h0), (1, .int (nI jf)), (2, .int x2)]) hx hb dX15_sealOf_47 rfl hl (by decide) rfl (fun ls hl => ?_)
    refine lv_aload_n hx hb dX15_sealOf_48 rfl (lv_at hl 1 rfl) ?_
    refine pg_get (ci := 15) (v := .ref se) (C := RX15) (T := TX15) (N := 59) hx hb hts it_15 hown hK hP hL_h0 hF_137 rfl 35 (by decide) (hts _ kt_862) (fun _ h9 => h9) rfl dX15_sealOf_49 ?_
    obtain ⟨q_148, v_149, hr_q_148, hX_q_148⟩ := hG.2.2 ("PostGateModel", 460, "s", [115]) (by decide +kernel)
    have hX_q_148 : SXc q_148 v_149 1 (cct [115]) A s s.heap := hX_q_148
    obtain ⟨xo_q_148, xc_q_148, xv_q_148, xt_q_148, xn_q_148⟩ := id hX_q_148
    have hr_q_148 : vk_R "PostGateModel" 460 "s" q_148 s := hr_q_148
    refine va_ldcwS hx hb hown hr_q_148 dX15_sealOf_52 ?_
    have hFc := pg_free hD hS hA
    refine va_calli (va_runV (As := [.ref q_148]) (rest := []) ⟨hx, hb, hml, hown, hts⟩ (s_X13_find l dC dI cs ty gm L H.size F_104 se (ρ + 11) sx 3000 1280 s0 s1 s2 sb zs q_148 v_149 1 (cct [115]) hW hi_27 ht_28 hL_sx hT_sx hke (by first | omega | assumption)) ⟨callB_of 1 hts (gi kt_843) rfl rfl rfl (hts _ kt_844) (hts _ kt_854) (by decide +kernel) ⟨Nat.le_of_ble_eq_true rfl, Nat.le_of_ble_eq_true rfl⟩, (hts _ kt_846), (hts _ kt_847)⟩ ⟨fun a U g mk q => ⟨q.1, PTEm.calling q.2⟩, pg_recv hK hP hi_27 hke (q := (RX13, TX13, 5)) rfl, fun U hU hWm => ⟨rfl, PTEm.mk hU hWm hP hK hD hE hO hG (fun x hx => by rw [List.mem_singleton] at hx; subst hx; exact hX_q_148) hS hFc⟩⟩ rfl rfl hl.1 rfl (lv_room (Nat.le_of_ble_eq_true rfl)) dX15_sealOf_55 ⟨by show _ + 0 ≤ 0; omega, by show _ + 0 ≤ 0; omega⟩) hS (fun q _ h => hFc q h) hFc (fun r_150 u t H1 locs ht hvm hw hB hz1 hk1 hS => ?_)
    obtain ⟨F_151, hB1⟩ := hB
    obtain rfl : F_104 = F_151 := (funext (fun a => hB1.2.2.2 a List.not_mem_nil)).symm
    obtain ⟨hP, hD, hO, hR⟩ := QTm.back hB1 ht hFc hR (fun q h => absurd h List.not_mem_nil)
    generalize H1 = H at hP hS ⊢
    have hw : FND (gA (F_104 sb)) (gA (F_104 s0)) (gA (F_104 s1)) zs (cct [115]) 1 r_150 := hw
    have hw_152 := hw
    have hfr_153 : FND eb e0 e1 zs (cct [115]) 1 r_150 := by have h9 := hw_152; rw [gA_fun hka, gA_fun hkb, gA_fun hkc] at h9; exact h9
    obtain rfl := FND.uniq hfr_153 hfs
    refine lv_istore (lv' := [(4, .int (nI ks)), (3, .int (nI kd)), (0, .ref h0), (1, .int (nI jf)), (2, .int x2)]) hx hb dX15_sealOf_58 hl (by decide) rfl (fun ls hl => ?_)
    refine lv_aload_n hx hb dX15_sealOf_60 rfl (lv_at hl 2 rfl) ?_
    refine pg_get (ci := 15) (v := .ref se) (C := RX15) (T := TX15) (N := 59) hx hb hts it_15 hown hK hP hL_h0 hF_137 rfl 35 (by decide) (hts _ kt_862) (fun _ h9 => h9) rfl dX15_sealOf_61 ?_
    obtain ⟨q_154, v_155, hr_q_154, hX_q_154⟩ := hG.2.2 ("PostGateModel", 481, "x", [120]) (by decide +kernel)
    have hX_q_154 : SXc q_154 v_155 1 (cct [120]) A s s.heap := hX_q_154
    obtain ⟨xo_q_154, xc_q_154, xv_q_154, xt_q_154, xn_q_154⟩ := id hX_q_154
    have hr_q_154 : vk_R "PostGateModel" 481 "x" q_154 s := hr_q_154
    refine va_ldcwS hx hb hown hr_q_154 dX15_sealOf_64 ?_
    have hFc := pg_free hD hS hA
    refine va_calli (va_runS (As := [.ref se, .ref q_154]) (rest := []) ⟨hx, hb, hml, hown, hts⟩ (s_X15_number l dC dI cs ty gm L H.size F_104 se (ρ + 11) sx 3000 1280 s0 s1 s2 sb zs q_154 v_155 1 (cct [120]) hW hi_27 ht_28 hL_sx hT_sx hke (by first | omega | assumption)) ⟨callB_of 2 hts (gi kt_899) rfl rfl rfl (hts _ kt_669) (hts _ kt_900) (by decide +kernel) ⟨Nat.le_of_ble_eq_true rfl, Nat.le_of_ble_eq_true rfl⟩, (hts _ kt_901)⟩ ⟨fun a U g mk q => ⟨q.1, PTEm.calling q.2⟩, fun U hU hWm => ⟨rfl, PTEm.mk hU hWm hP hK hD hE hO hG (fun x hx => by rw [List.mem_singleton] at hx; subst hx; exact hX_q_154) hS hFc⟩⟩ rfl rfl hl.1 rfl (lv_room (Nat.le_of_ble_eq_true rfl)) dX15_sealOf_67 ⟨by show _ + 0 ≤ 0; omega, by show _ + 0 ≤ 0; omega⟩) hS (fun q _ h => hFc q h) hFc (fun r_156 u t H1 locs ht hvm hw hB hz1 hk1 hS => ?_)
    obtain ⟨F_157, hB1⟩ := hB
    obtain rfl : F_104 = F_157 := (funext (fun a => hB1.2.2.2 a List.not_mem_nil)).symm
    obtain ⟨hP, hD, hO, hR⟩ := QTm.back hB1 ht hFc hR (fun q h => absurd h List.not_mem_nil)
    generalize H1 = H at hP hS ⊢
    have hw : True := hw
    have hw_158 := hw
    refine lv_istore (lv' := [(5, .int r_156), (4, .int (nI ks)), (3, .int (nI kd)), (0, .ref h0), (1, .int (nI jf)), (2, .int x2)]) hx hb dX15_sealOf_70 hl (by decide) rfl (fun ls hl => ?_)
    refine lv_aload_n hx hb dX15_sealOf_72 rfl (lv_at hl 3 rfl) ?_
    refine pg_get (ci := 15) (v := .ref sd) (C := RX15) (T := TX15) (N := 59) hx hb hts it_15 hown hK hP hL_h0 hF_137 rfl 50 (by decide) (hts _ kt_1017) (fun _ h9 => h9) rfl dX15_sealOf_73 ?_
    refine lv_aload_n hx hb dX15_sealOf_76 rfl (lv_at hl 3 rfl) ?_
    refine pg_get (ci := 15) (v := .ref se) (C := RX15) (T := TX15) (N := 59) hx hb hts it_15 hown hK hP hL_h0 hF_137 rfl 35 (by decide) (hts _ kt_862) (fun _ h9 => h9) rfl dX15_sealOf_77 ?_
    refine pg_get (ci := 13) (v := .ref sx) (C := RX13) (T := TX13) (N := 5) hx hb hts it_13 hown hK hP hi_27 hke rfl 0 (by decide) (hts _ kt_857) (fun _ h9 => h9) rfl dX15_sealOf_80 ?_
    refine pg_get (ci := 14) (v := .ref sb) (C := RX14) (T := TX14) (N := 2) hx hb hts it_14 hown hK hP hL_sx hF_119 rfl 0 (by decide) (hts _ kt_710) (fun _ h9 => h9) rfl dX15_sealOf_83 ?_
    refine lv_aload_n hx hb dX15_sealOf_86 rfl (lv_at hl 3 rfl) ?_
    refine pg_get (ci := 15) (v := .ref se) (C := RX15) (T := TX15) (N := 59) hx hb hts it_15 hown hK hP hL_h0 hF_137 rfl 35 (by decide) (hts _ kt_862) (fun _ h9 => h9) rfl dX15_sealOf_87 ?_
    refine pg_get (ci := 13) (v := .ref s1) (C := RX13) (T := TX13) (N := 5) hx hb hts it_13 hown hK hP hi_27 hke rfl 2 (by decide) (hts _ kt_855) (fun _ h9 => h9) rfl dX15_sealOf_90 ?_
    refine lv_iload_n hx hb dX15_sealOf_93 rfl (lv_at hl 2 rfl) ?_
    refine pg_iald hx hb hK hP hi_30 0 hkc rfl (vp_in_nI (by omega) (by omega)) dX15_sealOf_94 ?_
    have hq_159 := ixb_of hkc (hO.idb hi_30 ht_33)
    obtain ⟨k_160, hk_161, ek_162⟩ := hq_159 ((nI kd) : Int32).toNatClampNeg
    refine lv_topi (fun x_163 ex_163 => ?_)
    obtain rfl : x_163 = nI k_160 := ex_163.trans ek_162
    refine lv_iconst (v := 1) hx hb dX15_sealOf_95 (by decide) ?_
    refine lv_iadd hx hb dX15_sealOf_96 ?_
    refine lv_topi (fun x_164 ex_164 => ?_)
    obtain rfl : x_164 = (nI (k_160 + 1)) := ex_164.trans (nI_add k_160 1)
    refine lv_aload_n hx hb dX15_sealOf_97 rfl (lv_at hl 3 rfl) ?_
    refine pg_get (ci := 15) (v := .ref se) (C := RX15) (T := TX15) (N := 59) hx hb hts it_15 hown hK hP hL_h0 hF_137 rfl 35 (by decide) (hts _ kt_862) (fun _ h9 => h9) rfl dX15_sealOf_98 ?_
    refine pg_get (ci := 13) (v := .ref s2) (C := RX13) (T := TX13) (N := 5) hx hb hts it_13 hown hK hP hi_27 hke rfl 3 (by decide) (hts _ kt_856) (fun _ h9 => h9) rfl dX15_sealOf_101 ?_
    refine lv_iload_n hx hb dX15_sealOf_104 rfl (lv_at hl 2 rfl) ?_
    refine pg_iald hx hb hK hP hi_31 0 hkd rfl (vp_in_nI (by omega) (by omega)) dX15_sealOf_105 ?_
    have hq_165 := ixb_of hkd (hO.idb hi_31 ht_34)
    obtain ⟨k_166, hk_167, ek_168⟩ := hq_165 ((nI kd) : Int32).toNatClampNeg
    refine lv_topi (fun x_169 ex_169 => ?_)
    obtain rfl : x_169 = nI k_166 := ex_169.trans ek_168
    have htgd := (TGN.eq (ekc ek_162 (by omega)) (ekc ek_168 (by omega)) (by omega) (by omega)).mp htd
    obtain ⟨hq_170, hq_171⟩ := hW.octs hi_37 ht_38
    have hFc := pg_free hD hS hA
    obtain ⟨z_172, hF_173, hq_174⟩ := hO.txt hi_48 ht_49
    refine va_callv (va_runV (As := [.ref sb, .int (nI (k_160 + 1)), .int (nI k_166)]) (rest := []) ⟨hx, hb, hml, hown, hts⟩ (s_X14_set l dC dI cs ty gm L H.size F_104 sd (ρ + 25) r_18 3000 sb (ρ + 12) 3000 (k_160 + 1) k_166 hW hi_48 ht_49 hi_37 ht_38 (by first | omega | assumption) (by first | omega | assumption) (by first | omega | assumption)) ⟨callB_of 3 hts (gi kt_979) rfl rfl rfl (hts _ kt_676) (hts _ kt_980) (by decide +kernel) ⟨Nat.le_of_ble_eq_true rfl, Nat.le_of_ble_eq_true rfl⟩, (hts _ kt_981), (hts _ kt_982)⟩ ⟨fun a U g mk q => ⟨q.1, PTm.calling q.2⟩, pg_recv hK hP hi_48 hF_173 (q := (RX14, TX14, 2)) rfl, fun U hU hWm => ⟨rfl, PTm.mk hU hWm hP hK hD hE hO⟩⟩ rfl rfl hl.1 rfl (lv_room (Nat.le_of_ble_eq_true rfl)) dX15_sealOf_106 ⟨by show _ + 0 ≤ 0; omega, by show _ + 0 ≤ 0; omega⟩) hS (fun q _ h => hFc q h) hFc (fun u t H1 locs ht hvm hw hB hz1 hk1 hS => ?_)
    obtain ⟨F_176, hB1, hq_177⟩ := hB
    obtain ⟨hP, hD, hO, hR⟩ := QTm.back hB1 ht hFc hR (fun q h => by simp only [List.mem_cons, List.not_mem_nil, or_false] at h ⊢; omega)
    have hF_178 : F_176 co = .inl (cs 16, 21, .inl f_75) := (hB1.2.2.2 co (by rw [ht_74]; simp)).trans hF_117
    have hF_179 : F_176 sp = .inl (cs 16, 21, .inl f_82) := (hB1.2.2.2 sp (by rw [ht_81]; simp)).trans hF_118
    have hF_180 : F_176 sx = .inr (14, [.ref sb, .int (nI z2_95)]) := (hB1.2.2.2 sx (by rw [hT_sx]; simp)).trans hF_119
    have hF_181 : F_176 sb = .inl (cs 17, 3000, .inl eb) := (hB1.2.2.2 sb (by rw [ht_38]; simp)).trans hka
    have hF_182 : F_176 s0 = .inl (cs 16, 40, .inl e0) := (hB1.2.2.2 s0 (by rw [ht_32]; simp)).trans hkb
    have hF_183 : F_176 s1 = .inl (cs 16, 40, .inl e1) := (hB1.2.2.2 s1 (by rw [ht_33]; simp)).trans hkc
    have hF_184 : F_176 s2 = .inl (cs 16, 40, .inl e2) := (hB1.2.2.2 s2 (by rw [ht_34]; simp)).trans hkd
    have hF_185 : F_176 se = .inr (13, [.ref sx, .ref s0, .ref s1, .ref s2, .int (nI zs)]) := (hB1.2.2.2 se (by rw [ht_28]; simp)).trans hke
    have hF_186 : F_176 h0 = .inr (15, (.ref ta) :: (.int (nI zt)) :: (.int (nI zo_122)) :: (.int (nI ze)) :: (.ref ou) :: (.ref so) :: (.ref ad) :: (.ref na) :: (.ref va) :: (.ref lc) :: (.ref dm) :: (.int v11_123) :: (.int v12_124) :: (.ref tg) :: (.int v14_125) :: (.int v15_126) :: (.ref pe) :: (.int v17_127) :: (.int v18_128) :: (.int v19_129) :: (.int v20_130) :: (.int v21_131) :: (.int v22_132) :: (.ref ml) :: (.ref bg) :: (.ref co) :: (.ref sp) :: (.ref nb0) :: (.ref nb1) :: (.ref nb2) :: (.int (nI nf)) :: (.int (nI bd)) :: (.int (nI mm)) :: (.int v33_133) :: (.ref pl) :: (.ref se) :: (.ref ke) :: (.ref wi) :: (.ref hs) :: (.ref mo) :: (.ref po) :: (.ref nu) :: (.ref pr) :: (.ref sq) :: (.ref xa) :: (.ref sa) :: (.ref n64) :: (.ref m64) :: (.ref ex) :: (.ref wh) :: (.ref sd) :: (.ref tk) :: (.int v52_134) :: (.int v53_135) :: (.int v54_136) :: (.ref hd) :: (.ref ak) :: (.ref ho) :: (.ref ot) :: []) := (hB1.2.2.2 h0 (by rw [hT_h0]; simp)).trans hF_137
    generalize H1 = H at hP hS ⊢
    have hF_189 : F co = .inl (cs 16, 21, .inl f_75) := (hR co (by rw [ht_74]; simp)).symm.trans hF_178
    have hF_190 : F sp = .inl (cs 16, 21, .inl f_82) := (hR sp (by rw [ht_81]; simp)).symm.trans hF_179
    refine W.widen (k := 0) (n := 0) (by omega) (by omega) ?_
    refine pl_cutm (σ := Unit) A (dC, dI) cs ty gm L [ρ, ρ + 10, ρ + 11, ρ + 12, ρ + 13, ρ + 14, ρ + 17, ρ + 18, ρ + 19, ρ + 20, ρ + 21, ρ + 22, ρ + 23, ρ + 24, ρ + 25, ρ + 26] F 122 8 (fun u0 => [(4, .int (nI ks)), (0, .ref h0), (1, .int (nI jf)), (2, .int x2)]) (fun u0 => []) (fun u0 FF => FF sb = .inl (cs 17, 3000, .inl eb) ∧ FF s0 = .inl (cs 16, 40, .inl e0) ∧ FF s1 = .inl (cs 16, 40, .inl e1) ∧ FF s2 = .inl (cs 16, 40, .inl e2) ∧ FF se = .inr (13, [.ref sx, .ref s0, .ref s1, .ref s2, .int (nI zs)]) ∧ FF sd = .inr (14, [.ref r_18, .int (nI (k_166 - (k_160 + 1)))])) ?_ (fun jn_187 => ?_)
    ·
      rintro u0 F_188 hv_191 hO hR H locs hP hD hS ls hl
      have hl : lv_has ls 8 [(4, .int (nI ks)), (0, .ref h0), (1, .int (nI jf)), (2, .int x2)] := hl
      have hv_191 : F_188 sb = .inl (cs 17, 3000, .inl eb) ∧ F_188 s0 = .inl (cs 16, 40, .inl e0) ∧ F_188 s1 = .inl (cs 16, 40, .inl e1) ∧ F_188 s2 = .inl (cs 16, 40, .inl e2) ∧ F_188 se = .inr (13, [.ref sx, .ref s0, .ref s1, .ref s2, .int (nI zs)]) ∧ F_188 sd = .inr (14, [.ref r_18, .int (nI (k_166 - (k_160 + 1)))]) := hv_191
      refine W.eq (g2 := F0 m 122 ls []) rfl ?_
      have hF_192 : F_188 co = .inl (cs 16, 21, .inl f_75) := (hR co (by rw [ht_74]; simp)).trans hF_189
      have hF_193 : F_188 sp = .inl (cs 16, 21, .inl f_82) := (hR sp (by rw [ht_81]; simp)).trans hF_190
      obtain ⟨hma, hmb, hmc, hmd, hme, hsd1⟩ := hv_191
      refine lv_aload_n hx hb dX15_sealOf_122 rfl (lv_at hl 1 rfl) ?_
      obtain ⟨zo_194, v11_195, v12_196, v14_197, v15_198, v17_199, v18_200, v19_201, v20_202, v21_203, v22_204, v33_205, v52_206, v53_207, v54_208, hF_209, hq_210, hq_211, hq_212, hq_213⟩ := hO.mod hL_h0 hT_h0
      refine pg_get (ci := 15) (v := .ref wh) (C := RX15) (T := TX15) (N := 59) hx hb hts it_15 hown hK hP hL_h0 hF_209 rfl 49 (by decide) (hts _ kt_953) (fun _ h9 => h9) rfl dX15_sealOf_123 ?_
      refine lv_aload_n hx hb dX15_sealOf_126 rfl (lv_at hl 1 rfl) ?_
      refine pg_get (ci := 15) (v := .ref se) (C := RX15) (T := TX15) (N := 59) hx hb hts it_15 hown hK hP hL_h0 hF_209 rfl 35 (by decide) (hts _ kt_862) (fun _ h9 => h9) rfl dX15_sealOf_127 ?_
      refine pg_get (ci := 13) (v := .ref sx) (C := RX13) (T := TX13) (N := 5) hx hb hts it_13 hown hK hP hi_27 hme rfl 0 (by decide) (hts _ kt_857) (fun _ h9 => h9) rfl dX15_sealOf_130 ?_
      obtain ⟨z_214, hF_215, hq_216⟩ := hO.txt hL_sx hT_sx
      refine pg_get (ci := 14) (v := .ref sb) (C := RX14) (T := TX14) (N := 2) hx hb hts it_14 hown hK hP hL_sx hF_215 rfl 0 (by decide) (hts _ kt_710) (fun _ h9 => h9) rfl dX15_sealOf_133 ?_
      refine lv_aload_n hx hb dX15_sealOf_136 rfl (lv_at hl 1 rfl) ?_
      refine pg_get (ci := 15) (v := .ref se) (C := RX15) (T := TX15) (N := 59) hx hb hts it_15 hown hK hP hL_h0 hF_209 rfl 35 (by decide) (hts _ kt_862) (fun _ h9 => h9) rfl dX15_sealOf_137 ?_
      refine pg_get (ci := 13) (v := .ref s1) (C := RX13) (T := TX13) (N := 5) hx hb hts it_13 hown hK hP hi_27 hme rfl 2 (by decide) (hts _ kt_855) (fun _ h9 => h9) rfl dX15_sealOf_140 ?_
      refine lv_iload hx hb dX15_sealOf_143 (lv_at hl 0 rfl) ?_
      refine pg_iald hx hb hK hP hi_30 0 hmc rfl (vp_in_nI (by omega) (by omega)) dX15_sealOf_145 ?_
      have hq_217 := ixb_of hmc (hO.idb hi_30 ht_33)
      obtain ⟨k_218, hk_219, ek_220⟩ := hq_217 ((nI ks) : Int32).toNatClampNeg
      refine lv_topi (fun x_221 ex_221 => ?_)
      obtain rfl : x_221 = nI k_218 := ex_221.trans ek_220
      refine lv_iconst (v := 1) hx hb dX15_sealOf_146 (by decide) ?_
      refine lv_iadd hx hb dX15_sealOf_147 ?_
      refine lv_topi (fun x_222 ex_222 => ?_)
      obtain rfl : x_222 = (nI (k_218 + 1)) := ex_222.trans (nI_add k_218 1)
      refine lv_aload_n hx hb dX15_sealOf_148 rfl (lv_at hl 1 rfl) ?_
      refine pg_get (ci := 15) (v := .ref se) (C := RX15) (T := TX15) (N := 59) hx hb hts it_15 hown hK hP hL_h0 hF_209 rfl 35 (by decide) (hts _ kt_862) (fun _ h9 => h9) rfl dX15_sealOf_149 ?_
      refine pg_get (ci := 13) (v := .ref s2) (C := RX13) (T := TX13) (N := 5) hx hb hts it_13 hown hK hP hi_27 hme rfl 3 (by decide) (hts _ kt_856) (fun _ h9 => h9) rfl dX15_sealOf_152 ?_
      refine lv_iload hx hb dX15_sealOf_155 (lv_at hl 0 rfl) ?_
      refine pg_iald hx hb hK hP hi_31 0 hmd rfl (vp_in_nI (by omega) (by omega)) dX15_sealOf_157 ?_
      have hq_223 := ixb_of hmd (hO.idb hi_31 ht_34)
      obtain ⟨k_224, hk_225, ek_226⟩ := hq_223 ((nI ks) : Int32).toNatClampNeg
      refine lv_topi (fun x_227 ex_227 => ?_)
      obtain rfl : x_227 = nI k_224 := ex_227.trans ek_226
      have htgs := (TGN.eq (ekc ek_220 (by omega)) (ekc ek_226 (by omega)) (by omega) (by omega)).mp hfk
      have hFc := pg_free hD hS hA
      obtain ⟨z_228, hF_229, hq_230⟩ := hO.txt hi_43 ht_44
      refine va_callv (va_runV (As := [.ref sb, .int (nI (k_218 + 1)), .int (nI k_224)]) (rest := []) ⟨hx, hb, hml, hown, hts⟩ (s_X14_set l dC dI cs ty gm L H.size F_188 wh (ρ + 24) r_17 6000 sb (ρ + 12) 3000 (k_218 + 1) k_224 hW hi_43 ht_44 hi_37 ht_38 (by first | omega | assumption) (by first | omega | assumption) (by first | omega | assumption)) ⟨callB_of 3 hts (gi kt_979) rfl rfl rfl (hts _ kt_676) (hts _ kt_980) (by decide +kernel) ⟨Nat.le_of_ble_eq_true rfl, Nat.le_of_ble_eq_true rfl⟩, (hts _ kt_981), (hts _ kt_982)⟩ ⟨fun a U g mk q => ⟨q.1, PTm.calling q.2⟩, pg_recv hK hP hi_43 hF_229 (q := (RX14, TX14, 2)) rfl, fun U hU hWm => ⟨rfl, PTm.mk hU hWm hP hK hD hE hO⟩⟩ rfl rfl hl.1 rfl (lv_room (Nat.le_of_ble_eq_true rfl)) dX15_sealOf_158 ⟨by show _ + 0 ≤ 0; omega, by show _ + 0 ≤ 0; omega⟩) hS (fun q _ h => hFc q h) hFc (fun u t H1 locs ht hvm hw hB hz1 hk1 hS => ?_)
      obtain ⟨F_232, hB1, hq_233⟩ := hB
      obtain ⟨hP, hD, hO, hR⟩ := QTm.back hB1 ht hFc hR (fun q h => by simp only [List.mem_cons, List.not_mem_nil, or_false] at h ⊢; omega)
      have hF_234 : F_232 co = .inl (cs 16, 21, .inl f_75) := (hB1.2.2.2 co (by rw [ht_74]; simp)).trans hF_192
      have hF_235 : F_232 sp = .inl (cs 16, 21, .inl f_82) := (hB1.2.2.2 sp (by rw [ht_81]; simp)).trans hF_193
      have hF_236 : F_232 sb = .inl (cs 17, 3000, .inl eb) := (hB1.2.2.2 sb (by rw [ht_38]; simp)).trans hma
      have hF_237 : F_232 s0 = .inl (cs 16, 40, .inl e0) := (hB1.2.2.2 s0 (by rw [ht_32]; simp)).trans hmb
      have hF_238 : F_232 s1 = .inl (cs 16, 40, .inl e1) := (hB1.2.2.2 s1 (by rw [ht_33]; simp)).trans hmc
      have hF_239 : F_232 s2 = .inl (cs 16, 40, .inl e2) := (hB1.2.2.2 s2 (by rw [ht_34]; simp)).trans hmd
      have hF_240 : F_232 se = .inr (13, [.ref sx, .ref s0, .ref s1, .ref s2, .int (nI zs)]) := (hB1.2.2.2 se (by rw [ht_28]; simp)).trans hme
      have hF_241 : F_232 sd = .inr (14, [.ref r_18, .int (nI (k_166 - (k_160 + 1)))]) := (hB1.2.2.2 sd (by rw [ht_49]; simp)).trans hsd1
      have hF_242 : F_232 h0 = .inr (15, (.ref ta) :: (.int (nI zt)) :: (.int (nI zo_194)) :: (.int (nI ze)) :: (.ref ou) :: (.ref so) :: (.ref ad) :: (.ref na) :: (.ref va) :: (.ref lc) :: (.ref dm) :: (.int v11_195) :: (.int v12_196) :: (.ref tg) :: (.int v14_197) :: (.int v15_198) :: (.ref pe) :: (.int v17_199) :: (.int v18_200) :: (.int v19_201) :: (.int v20_202) :: (.int v21_203) :: (.int v22_204) :: (.ref ml) :: (.ref bg) :: (.ref co) :: (.ref sp) :: (.ref nb0) :: (.ref nb1) :: (.ref nb2) :: (.int (nI nf)) :: (.int (nI bd)) :: (.int (nI mm)) :: (.int v33_205) :: (.ref pl) :: (.ref se) :: (.ref ke) :: (.ref wi) :: (.ref hs) :: (.ref mo) :: (.ref po) :: (.ref nu) :: (.ref pr) :: (.ref sq) :: (.ref xa) :: (.ref sa) :: (.ref n64) :: (.ref m64) :: (.ref ex) :: (.ref wh) :: (.ref sd) :: (.ref tk) :: (.int v52_206) :: (.int v53_207) :: (.int v54_208) :: (.ref hd) :: (.ref ak) :: (.ref ho) :: (.ref ot) :: []) := (hB1.2.2.2 h0 (by rw [hT_h0]; simp)).trans hF_209
      have hF_243 : F_232 sx = .inr (14, [.ref sb, .int (nI z_214)]) := (hB1.2.2.2 sx (by rw [hT_sx]; simp)).trans hF_215
      generalize H1 = H at hP hS ⊢
      refine lv_iconst (v := 0) hx hb dX15_sealOf_161 (by decide) ?_
      refine lv_istore (lv' := [(6, .int 0), (4, .int (nI ks)), (0, .ref h0), (1, .int (nI jf)), (2, .int x2)]) hx hb dX15_sealOf_162 hl (by decide) rfl (fun ls hl => ?_)
      refine W.widen (k := 0) (n := 0) (by omega) (by omega) ?_
      have hF_245 : F co = .inl (cs 16, 21, .inl f_75) := (hR co (by rw [ht_74]; simp)).symm.trans hF_234
      have hF_246 : F sp = .inl (cs 16, 21, .inl f_82) := (hR sp (by rw [ht_81]; simp)).symm.trans hF_235
      refine pl_loopm (σ := Nat) A (dC, dI) cs ty gm L [ρ, ρ + 10, ρ + 11, ρ + 12, ρ + 13, ρ + 14, ρ + 17, ρ + 18, ρ + 19, ρ + 20, ρ + 21, ρ + 22, ρ + 23, ρ + 24, ρ + 25, ρ + 26] F 164 8 (fun j => [(6, .int (nI j)), (0, .ref h0), (1, .int (nI jf)), (2, .int x2)]) (fun j => []) (fun j FF => j ≤ 12 ∧ FF sb = .inl (cs 17, 3000, .inl eb) ∧ FF s0 = .inl (cs 16, 40, .inl e0) ∧ FF s1 = .inl (cs 16, 40, .inl e1) ∧ FF s2 = .inl (cs 16, 40, .inl e2) ∧ FF se = .inr (13, [.ref sx, .ref s0, .ref s1, .ref s2, .int (nI zs)]) ∧ FF sd = .inr (14, [.ref r_18, .int (nI (k_166 - (k_160 + 1)))]) ∧ FF wh = .inr (14, [.ref r_17, .int (nI ((k_224 - (k_218 + 1)) + j))])) (fun j => 12 - j) ?_ 0 F_232 (⟨by omega, hF_236, hF_237, hF_238, hF_239, hF_240, hF_241, hq_233⟩) hO hR _ _ hP hD hS ls (lv_sub hl [0, 2, 3, 4] rfl)
      rintro j F_244 hv_247 hO hR ih_248 H locs hP hD hS ls hl
      have hl : lv_has ls 8 [(6, .int (nI j)), (0, .ref h0), (1, .int (nI jf)), (2, .int x2)] := hl
      have hv_247 : j ≤ 12 ∧ F_244 sb = .inl (cs 17, 3000, .inl eb) ∧ F_244 s0 = .inl (cs 16, 40, .inl e0) ∧ F_244 s1 = .inl (cs 16, 40, .inl e1) ∧ F_244 s2 = .inl (cs 16, 40, .inl e2) ∧ F_244 se = .inr (13, [.ref sx, .ref s0, .ref s1, .ref s2, .int (nI zs)]) ∧ F_244 sd = .inr (14, [.ref r_18, .int (nI (k_166 - (k_160 + 1)))]) ∧ F_244 wh = .inr (14, [.ref r_17, .int (nI ((k_224 - (k_218 + 1)) + j))]) := hv_247
      refine W.eq (g2 := F0 m 164 ls []) rfl ?_
      have hF_249 : F_244 co = .inl (cs 16, 21, .inl f_75) := (hR co (by rw [ht_74]; simp)).trans hF_245
      have hF_250 : F_244 sp = .inl (cs 16, 21, .inl f_82) := (hR sp (by rw [ht_81]; simp)).trans hF_246
      obtain ⟨hj12, hna, hnb, hnc, hnd, hne, hsd2, hwh2⟩ := hv_247
      refine lv_iload hx hb dX15_sealOf_164 (lv_at hl 0 rfl) ?_
      refine lv_bipush (v := 12) hx hb dX15_sealOf_166 (by decide) ?_
      refine lv_icmp_ge (tgt := 192) hx hb dX15_sealOf_168 (by decide) (fun c_251 => ?_) (fun c_251 => ?_)
      ·
        have hi_252 : 12 ≤ j := leN (N := 12) c_251
        refine lv_aload_n hx hb dX15_sealOf_192 rfl (lv_at hl 1 rfl) ?_
        obtain ⟨zo_253, v11_254, v12_255, v14_256, v15_257, v17_258, v18_259, v19_260, v20_261, v21_262, v22_263, v33_264, v52_265, v53_266, v54_267, hF_268, hq_269, hq_270, hq_271, hq_272⟩ := hO.mod hL_h0 hT_h0
        refine pg_get (ci := 15) (v := .ref wh) (C := RX15) (T := TX15) (N := 59) hx hb hts it_15 hown hK hP hL_h0 hF_268 rfl 49 (by decide) (hts _ kt_953) (fun _ h9 => h9) rfl dX15_sealOf_193 ?_
        refine lv_aload_n hx hb dX15_sealOf_196 rfl (lv_at hl 1 rfl) ?_
        refine pg_get (ci := 15) (v := .ref sd) (C := RX15) (T := TX15) (N := 59) hx hb hts it_15 hown hK hP hL_h0 hF_268 rfl 50 (by decide) (hts _ kt_1017) (fun _ h9 => h9) rfl dX15_sealOf_197 ?_
        refine pg_get (ci := 14) (v := .ref r_18) (C := RX14) (T := TX14) (N := 2) hx hb hts it_14 hown hK hP hi_48 hsd2 rfl 0 (by decide) (hts _ kt_710) (fun _ h9 => h9) rfl dX15_sealOf_200 ?_
        refine lv_iconst (v := 0) hx hb dX15_sealOf_203 (by decide) ?_
        refine lv_aload_n hx hb dX15_sealOf_204 rfl (lv_at hl 1 rfl) ?_
        refine pg_get (ci := 15) (v := .ref sd) (C := RX15) (T := TX15) (N := 59) hx hb hts it_15 hown hK hP hL_h0 hF_268 rfl 50 (by decide) (hts _ kt_1017) (fun _ h9 => h9) rfl dX15_sealOf_205 ?_
        refine pg_get (ci := 14) (v := .int (nI (k_166 - (k_160 + 1)))) (C := RX14) (T := TX14) (N := 2) hx hb hts it_14 hown hK hP hi_48 hsd2 rfl 1 (by decide) (hts _ kt_709) (fun _ h9 => h9) rfl dX15_sealOf_208 ?_
        refine W.eq (g2 := F0 m 211 ls [.int (nI (k_166 - (k_160 + 1))), .int (nI 0), .ref r_18, .ref wh]) rfl ?_
        obtain ⟨hq_273, hq_274⟩ := hW.octs hi_50 ht_51
        have hFc := pg_free hD hS hA
        refine va_callv (va_runV (As := [.ref r_18, .int (nI 0), .int (nI (k_166 - (k_160 + 1)))]) (rest := []) ⟨hx, hb, hml, hown, hts⟩ (s_X14_add_ l dC dI cs ty gm L H.size F_244 wh (ρ + 24) r_17 6000 r_18 (ρ + 25) 3000 ((k_224 - (k_218 + 1)) + j) 0 (k_166 - (k_160 + 1)) hW hi_43 ht_44 hi_50 ht_51 hwh2 (by first | omega | assumption) (by first | omega | assumption) (by first | omega | assumption)) ⟨callB_of 3 hts (gi kt_675) rfl rfl rfl (hts _ kt_676) (hts _ kt_776) (by decide +kernel) ⟨Nat.le_of_ble_eq_true rfl, Nat.le_of_ble_eq_true rfl⟩, (hts _ kt_678), (hts _ kt_679)⟩ ⟨fun a U g mk q => ⟨q.1, PTm.calling q.2⟩, pg_recv hK hP hi_43 hwh2 (q := (RX14, TX14, 2)) rfl, fun U hU hWm => ⟨rfl, PTm.mk hU hWm hP hK hD hE hO⟩⟩ rfl rfl hl.1 rfl (lv_room (Nat.le_of_ble_eq_true rfl)) dX15_sealOf_211 ⟨by show _ + 0 ≤ 0; omega, by show _ + 0 ≤ 0; omega⟩) hS (fun q _ h => hFc q h) hFc (fun u t H1 locs ht hvm hw hB hz1 hk1 hS => ?_)
        obtain ⟨F_276, hB1, hq_277⟩ := hB
        obtain ⟨hP, hD, hO, hR⟩ := QTm.back hB1 ht hFc hR (fun q h => by simp only [List.mem_cons, List.not_mem_nil, or_false] at h ⊢; omega)
        have hF_278 : F_276 co = .inl (cs 16, 21, .inl f_75) := (hB1.2.2.2 co (by rw [ht_74]; simp)).trans hF_249
        have hF_279 : F_276 sp = .inl (cs 16, 21, .inl f_82) := (hB1.2.2.2 sp (by rw [ht_81]; simp)).trans hF_250
        have hF_280 : F_276 sb = .inl (cs 17, 3000, .inl eb) := (hB1.2.2.2 sb (by rw [ht_38]; simp)).trans hna
        have hF_281 : F_276 s0 = .inl (cs 16, 40, .inl e0) := (hB1.2.2.2 s0 (by rw [ht_32]; simp)).trans hnb
        have hF_282 : F_276 s1 = .inl (cs 16, 40, .inl e1) := (hB1.2.2.2 s1 (by rw [ht_33]; simp)).trans hnc
        have hF_283 : F_276 s2 = .inl (cs 16, 40, .inl e2) := (hB1.2.2.2 s2 (by rw [ht_34]; simp)).trans hnd
        have hF_284 : F_276 se = .inr (13, [.ref sx, .ref s0, .ref s1, .ref s2, .int (nI zs)]) := (hB1.2.2.2 se (by rw [ht_28]; simp)).trans hne
        have hF_285 : F_276 sd = .inr (14, [.ref r_18, .int (nI (k_166 - (k_160 + 1)))]) := (hB1.2.2.2 sd (by rw [ht_49]; simp)).trans hsd2
        have hF_286 : F_276 h0 = .inr (15, (.ref ta) :: (.int (nI zt)) :: (.int (nI zo_253)) :: (.int (nI ze)) :: (.ref ou) :: (.ref so) :: (.ref ad) :: (.ref na) :: (.ref va) :: (.ref lc) :: (.ref dm) :: (.int v11_254) :: (.int v12_255) :: (.ref tg) :: (.int v14_256) :: (.int v15_257) :: (.ref pe) :: (.int v17_258) :: (.int v18_259) :: (.int v19_260) :: (.int v20_261) :: (.int v21_262) :: (.int v22_263) :: (.ref ml) :: (.ref bg) :: (.ref co) :: (.ref sp) :: (.ref nb0) :: (.ref nb1) :: (.ref nb2) :: (.int (nI nf)) :: (.int (nI bd)) :: (.int (nI mm)) :: (.int v33_264) :: (.ref pl) :: (.ref se) :: (.ref ke) :: (.ref wi) :: (.ref hs) :: (.ref mo) :: (.ref po) :: (.ref nu) :: (.ref pr) :: (.ref sq) :: (.ref xa) :: (.ref sa) :: (.ref n64) :: (.ref m64) :: (.ref ex) :: (.ref wh) :: (.ref sd) :: (.ref tk) :: (.int v52_265) :: (.int v53_266) :: (.int v54_267) :: (.ref hd) :: (.ref ak) :: (.ref ho) :: (.ref ot) :: []) := (hB1.2.2.2 h0 (by rw [hT_h0]; simp)).trans hF_268
        generalize H1 = H at hP hS ⊢
        refine lv_aload_n hx hb dX15_sealOf_214 rfl (lv_at hl 1 rfl) ?_
        have hFc := pg_free hD hS hA
        refine va_calli (va_runV (As := []) (rest := []) ⟨hx, hb, hml, hown, hts⟩ (s_X15_keyOf l dC dI cs ty gm L H.size F_276 h0 ρ ta ou so ad na va lc dm tg pe ml bg co sp nb0 nb1 nb2 pl se ke wi hs mo po nu pr sq xa sa n64 m64 ex wh sd tk hd ak ho ot sx s0 s1 s2 nf bd mm ze zt hW hL_h0 hT_h0) ⟨callB_of 0 hts (gi kt_1018) rfl rfl rfl (hts _ kt_669) (hts _ kt_1019) (by decide +kernel) ⟨Nat.le_of_ble_eq_true rfl, Nat.le_of_ble_eq_true rfl⟩, (hts _ kt_1020), (hts _ kt_1021)⟩ ⟨fun a U g mk q => ⟨q.1, PTEm.calling q.2⟩, pg_recv hK hP hL_h0 hF_286 (q := (RX15, TX15, 59)) rfl, fun U hU hWm => ⟨rfl, PTEm.mk hU hWm hP hK hD hE hO hG (fun x hx => absurd hx List.not_mem_nil) hS hFc⟩⟩ rfl rfl hl.1 rfl (lv_room (Nat.le_of_ble_eq_true rfl)) dX15_sealOf_215 ⟨by show _ + 0 ≤ 0; omega, by show _ + 0 ≤ 0; omega⟩) hS (fun q _ h => hFc q h) hFc (fun r_287 u t H1 locs ht hvm hw hB hz1 hk1 hS => ?_)
        obtain ⟨F_288, hB1⟩ := hB
        obtain ⟨hP, hD, hO, hR⟩ := QTm.back hB1 ht hFc hR (fun q h => by simp only [List.mem_cons, List.not_mem_nil, or_false] at h ⊢; omega)
        have hF_289 : F_288 co = .inl (cs 16, 21, .inl f_75) := (hB1.2.2.2 co (by rw [ht_74]; simp)).trans hF_278
        have hF_290 : F_288 sp = .inl (cs 16, 21, .inl f_82) := (hB1.2.2.2 sp (by rw [ht_81]; simp)).trans hF_279
        have hF_291 : F_288 sb = .inl (cs 17, 3000, .inl eb) := (hB1.2.2.2 sb (by rw [ht_38]; simp)).trans hF_280
        have hF_292 : F_288 s0 = .inl (cs 16, 40, .inl e0) := (hB1.2.2.2 s0 (by rw [ht_32]; simp)).trans hF_281
        have hF_293 : F_288 s1 = .inl (cs 16, 40, .inl e1) := (hB1.2.2.2 s1 (by rw [ht_33]; simp)).trans hF_282
        have hF_294 : F_288 s2 = .inl (cs 16, 40, .inl e2) := (hB1.2.2.2 s2 (by rw [ht_34]; simp)).trans hF_283
        have hF_295 : F_288 se = .inr (13, [.ref sx, .ref s0, .ref s1, .ref s2, .int (nI zs)]) := (hB1.2.2.2 se (by rw [ht_28]; simp)).trans hF_284
        have hF_296 : F_288 sd = .inr (14, [.ref r_18, .int (nI (k_166 - (k_160 + 1)))]) := (hB1.2.2.2 sd (by rw [ht_49]; simp)).trans hF_285
        have hF_297 : F_288 h0 = .inr (15, (.ref ta) :: (.int (nI zt)) :: (.int (nI zo_253)) :: (.int (nI ze)) :: (.ref ou) :: (.ref so) :: (.ref ad) :: (.ref na) :: (.ref va) :: (.ref lc) :: (.ref dm) :: (.int v11_254) :: (.int v12_255) :: (.ref tg) :: (.int v14_256) :: (.int v15_257) :: (.ref pe) :: (.int v17_258) :: (.int v18_259) :: (.int v19_260) :: (.int v20_261) :: (.int v21_262) :: (.int v22_263) :: (.ref ml) :: (.ref bg) :: (.ref co) :: (.ref sp) :: (.ref nb0) :: (.ref nb1) :: (.ref nb2) :: (.int (nI nf)) :: (.int (nI bd)) :: (.int (nI mm)) :: (.int v33_264) :: (.ref pl) :: (.ref se) :: (.ref ke) :: (.ref wi) :: (.ref hs) :: (.ref mo) :: (.ref po) :: (.ref nu) :: (.ref pr) :: (.ref sq) :: (.ref xa) :: (.ref sa) :: (.ref n64) :: (.ref m64) :: (.ref ex) :: (.ref wh) :: (.ref sd) :: (.ref tk) :: (.int v52_265) :: (.int v53_266) :: (.int v54_267) :: (.ref hd) :: (.ref ak) :: (.ref ho) :: (.ref ot) :: []) := (hB1.2.2.2 h0 (by rw [hT_h0]; simp)).trans hF_286
        have hF_298 : F_288 wh = .inr (14, [.ref r_17, .int (nI (((k_224 - (k_218 + 1)) + j) + ((k_166 - (k_160 + 1)) - 0)))]) := (hB1.2.2.2 wh (by rw [ht_44]; simp)).trans hq_277
        generalize H1 = H at hP hS ⊢
        have hw : True := hw
        have hw_299 := hw
        refine lv_istore (lv' := [(6, .int r_287), (0, .ref h0), (1, .int (nI jf)), (2, .int x2)]) hx hb dX15_sealOf_218 hl (by decide) rfl (fun ls hl => ?_)
        refine lv_iload hx hb dX15_sealOf_220 (lv_at hl 0 rfl) ?_
        refine lv_iconst (v := 2) hx hb dX15_sealOf_222 (by decide) ?_
        refine lv_icmp_eq (tgt := 229) hx hb dX15_sealOf_223 (by decide) (fun c_300 => ?_) (fun c_300 => ?_)
        ·
          refine lv_aload_n hx hb dX15_sealOf_229 rfl (lv_at hl 1 rfl) ?_
          refine lv_aload_n hx hb dX15_sealOf_230 rfl (lv_at hl 1 rfl) ?_
          refine pg_get (ci := 15) (v := .int v53_266) (C := RX15) (T := TX15) (N := 59) hx hb hts it_15 hown hK hP hL_h0 hF_297 rfl 53 (by decide) (hts _ kt_873) (fun _ h9 => h9) rfl dX15_sealOf_231 ?_
          have hFc := pg_free hD hS hA
          refine va_callv (va_runV (As := [.int v53_266]) (rest := []) ⟨hx, hb, hml, hown, hts⟩ (s_X15_bodyPlain l dC dI cs ty gm L H.size F_288 h0 ρ ta ou so ad na va lc dm tg pe ml bg co sp nb0 nb1 nb2 pl se ke wi hs mo po nu pr sq xa sa n64 m64 ex wh sd tk hd ak ho ot sx s0 s1 s2 nf bd mm ze zt rl v53_266 hW hL_h0 hT_h0 hL_pl hT_pl (by first | omega | assumption)) ⟨callB_of 1 hts (gi kt_925) rfl rfl rfl (hts _ kt_669) (hts _ kt_926) (by decide +kernel) ⟨Nat.le_of_ble_eq_true rfl, Nat.le_of_ble_eq_true rfl⟩, (hts _ kt_927), (hts _ kt_928)⟩ ⟨fun a U g mk q => ⟨q.1, PTm.calling q.2⟩, pg_recv hK hP hL_h0 hF_297 (q := (RX15, TX15, 59)) rfl, fun U hU hWm => ⟨rfl, PTm.mk hU hWm hP hK hD hE hO⟩⟩ rfl rfl hl.1 rfl (lv_room (Nat.le_of_ble_eq_true rfl)) dX15_sealOf_234 ⟨by show _ + 0 ≤ 0; omega, by show _ + 0 ≤ 0; omega⟩) hS (fun q _ h => hFc q h) hFc (fun u t H1 locs ht hvm hw hB hz1 hk1 hS => ?_)
          obtain ⟨F_302, hB1⟩ := hB
          obtain ⟨hP, hD, hO, hR⟩ := QTm.back hB1 ht hFc hR (fun q h => by simp only [List.mem_cons, List.not_mem_nil, or_false] at h ⊢; omega)
          have hF_303 : F_302 co = .inl (cs 16, 21, .inl f_75) := (hB1.2.2.2 co (by rw [ht_74]; simp)).trans hF_289
          have hF_304 : F_302 sp = .inl (cs 16, 21, .inl f_82) := (hB1.2.2.2 sp (by rw [ht_81]; simp)).trans hF_290
          have hF_305 : F_302 sb = .inl (cs 17, 3000, .inl eb) := (hB1.2.2.2 sb (by rw [ht_38]; simp)).trans hF_291
          have hF_306 : F_302 s0 = .inl (cs 16, 40, .inl e0) := (hB1.2.2.2 s0 (by rw [ht_32]; simp)).trans hF_292
          have hF_307 : F_302 s1 = .inl (cs 16, 40, .inl e1) := (hB1.2.2.2 s1 (by rw [ht_33]; simp)).trans hF_293
          have hF_308 : F_302 s2 = .inl (cs 16, 40, .inl e2) := (hB1.2.2.2 s2 (by rw [ht_34]; simp)).trans hF_294
          have hF_309 : F_302 se = .inr (13, [.ref sx, .ref s0, .ref s1, .ref s2, .int (nI zs)]) := (hB1.2.2.2 se (by rw [ht_28]; simp)).trans hF_295
          have hF_310 : F_302 sd = .inr (14, [.ref r_18, .int (nI (k_166 - (k_160 + 1)))]) := (hB1.2.2.2 sd (by rw [ht_49]; simp)).trans hF_296
          have hF_311 : F_302 h0 = .inr (15, (.ref ta) :: (.int (nI zt)) :: (.int (nI zo_253)) :: (.int (nI ze)) :: (.ref ou) :: (.ref so) :: (.ref ad) :: (.ref na) :: (.ref va) :: (.ref lc) :: (.ref dm) :: (.int v11_254) :: (.int v12_255) :: (.ref tg) :: (.int v14_256) :: (.int v15_257) :: (.ref pe) :: (.int v17_258) :: (.int v18_259) :: (.int v19_260) :: (.int v20_261) :: (.int v21_262) :: (.int v22_263) :: (.ref ml) :: (.ref bg) :: (.ref co) :: (.ref sp) :: (.ref nb0) :: (.ref nb1) :: (.ref nb2) :: (.int (nI nf)) :: (.int (nI bd)) :: (.int (nI mm)) :: (.int v33_264) :: (.ref pl) :: (.ref se) :: (.ref ke) :: (.ref wi) :: (.ref hs) :: (.ref mo) :: (.ref po) :: (.ref nu) :: (.ref pr) :: (.ref sq) :: (.ref xa) :: (.ref sa) :: (.ref n64) :: (.ref m64) :: (.ref ex) :: (.ref wh) :: (.ref sd) :: (.ref tk) :: (.int v52_265) :: (.int v53_266) :: (.int v54_267) :: (.ref hd) :: (.ref ak) :: (.ref ho) :: (.ref ot) :: []) := (hB1.2.2.2 h0 (by rw [hT_h0]; simp)).trans hF_297
          have hF_312 : F_302 wh = .inr (14, [.ref r_17, .int (nI (((k_224 - (k_218 + 1)) + j) + ((k_166 - (k_160 + 1)) - 0)))]) := (hB1.2.2.2 wh (by rw [ht_44]; simp)).trans hF_298
          generalize H1 = H at hP hS ⊢
          refine lv_aload_n hx hb dX15_sealOf_237 rfl (lv_at hl 1 rfl) ?_
          refine pg_get (ci := 15) (v := .ref se) (C := RX15) (T := TX15) (N := 59) hx hb hts it_15 hown hK hP hL_h0 hF_311 rfl 35 (by decide) (hts _ kt_862) (fun _ h9 => h9) rfl dX15_sealOf_238 ?_
          obtain ⟨q_313, v_314, hr_q_313, hX_q_313⟩ := hG.2.2 ("PostGateModel", 476, "l", [108]) (by decide +kernel)
          have hX_q_313 : SXc q_313 v_314 1 (cct [108]) A s s.heap := hX_q_313
          obtain ⟨xo_q_313, xc_q_313, xv_q_313, xt_q_313, xn_q_313⟩ := id hX_q_313
          have hr_q_313 : vk_R "PostGateModel" 476 "l" q_313 s := hr_q_313
          refine va_ldcwS hx hb hown hr_q_313 dX15_sealOf_241 ?_
          have hFc := pg_free hD hS hA
          refine va_calli (va_runS (As := [.ref se, .ref q_313]) (rest := []) ⟨hx, hb, hml, hown, hts⟩ (s_X15_number l dC dI cs ty gm L H.size F_302 se (ρ + 11) sx 3000 1280 s0 s1 s2 sb zs q_313 v_314 1 (cct [108]) hW hi_27 ht_28 hL_sx hT_sx hF_309 (by first | omega | assumption)) ⟨callB_of 2 hts (gi kt_899) rfl rfl rfl (hts _ kt_669) (hts _ kt_900) (by decide +kernel) ⟨Nat.le_of_ble_eq_true rfl, Nat.le_of_ble_eq_true rfl⟩, (hts _ kt_901)⟩ ⟨fun a U g mk q => ⟨q.1, PTEm.calling q.2⟩, fun U hU hWm => ⟨rfl, PTEm.mk hU hWm hP hK hD hE hO hG (fun x hx => by rw [List.mem_singleton] at hx; subst hx; exact hX_q_313) hS hFc⟩⟩ rfl rfl hl.1 rfl (lv_room (Nat.le_of_ble_eq_true rfl)) dX15_sealOf_244 ⟨by show _ + 0 ≤ 0; omega, by show _ + 0 ≤ 0; omega⟩) hS (fun q _ h => hFc q h) hFc (fun r_315 u t H1 locs ht hvm hw hB hz1 hk1 hS => ?_)
          obtain ⟨F_316, hB1⟩ := hB
          obtain rfl : F_302 = F_316 := (funext (fun a => hB1.2.2.2 a List.not_mem_nil)).symm
          obtain ⟨hP, hD, hO, hR⟩ := QTm.back hB1 ht hFc hR (fun q h => absurd h List.not_mem_nil)
          generalize H1 = H at hP hS ⊢
          have hw : True := hw
          have hw_317 := hw
          refine lv_istore (lv' := [(7, .int r_315), (6, .int r_287), (0, .ref h0), (1, .int (nI jf)), (2, .int x2)]) hx hb dX15_sealOf_247 hl (by decide) rfl (fun ls hl => ?_)
          refine lv_iload hx hb dX15_sealOf_249 (lv_at hl 0 rfl) ?_
          refine lv_aload_n hx hb dX15_sealOf_251 rfl (lv_at hl 2 rfl) ?_
          refine pg_get (ci := 15) (v := .ref pl) (C := RX15) (T := TX15) (N := 59) hx hb hts it_15 hown hK hP hL_h0 hF_311 rfl 34 (by decide) (hts _ kt_916) (fun _ h9 => h9) rfl dX15_sealOf_252 ?_
          obtain ⟨z_318, hF_319, hq_320⟩ := hO.txt hL_pl hT_pl
          refine pg_get (ci := 14) (v := .int (nI z_318)) (C := RX14) (T := TX14) (N := 2) hx hb hts it_14 hown hK hP hL_pl hF_319 rfl 1 (by decide) (hts _ kt_709) (fun _ h9 => h9) rfl dX15_sealOf_255 ?_
          refine lv_icmp_le (tgt := 263) hx hb dX15_sealOf_258 (by decide) (fun c_321 => ?_) (fun c_321 => ?_)
          ·
            refine lv_aload_n hx hb dX15_sealOf_263 rfl (lv_at hl 2 rfl) ?_
            refine lv_aload_n hx hb dX15_sealOf_264 rfl (lv_at hl 2 rfl) ?_
            refine pg_get (ci := 15) (v := .ref pl) (C := RX15) (T := TX15) (N := 59) hx hb hts it_15 hown hK hP hL_h0 hF_311 rfl 34 (by decide) (hts _ kt_916) (fun _ h9 => h9) rfl dX15_sealOf_265 ?_
            refine pg_get (ci := 14) (v := .ref rl) (C := RX14) (T := TX14) (N := 2) hx hb hts it_14 hown hK hP hL_pl hF_319 rfl 0 (by decide) (hts _ kt_710) (fun _ h9 => h9) rfl dX15_sealOf_268 ?_
            have hF_324 : F co = .inl (cs 16, 21, .inl f_75) := (hR co (by rw [ht_74]; simp)).symm.trans hF_303
            have hF_325 : F sp = .inl (cs 16, 21, .inl f_82) := (hR sp (by rw [ht_81]; simp)).symm.trans hF_304
            refine W.widen (k := 0) (n := 0) (by omega) (by omega) ?_
            refine pl_cutm (σ := Int32) A (dC, dI) cs ty gm L [ρ, ρ + 10, ρ + 11, ρ + 12, ρ + 13, ρ + 14, ρ + 17, ρ + 18, ρ + 19, ρ + 20, ρ + 21, ρ + 22, ρ + 23, ρ + 24, ρ + 25, ρ + 26] F 288 8 (fun s8 => [(0, .ref h0), (1, .int (nI jf)), (2, .int x2)]) (fun s8 => [.int s8, .ref rl, .ref h0]) (fun s8 FF => (∃ k : Nat, k ≤ z_318 ∧ s8 = nI k) ∧ FF sb = .inl (cs 17, 3000, .inl eb) ∧ FF s0 = .inl (cs 16, 40, .inl e0) ∧ FF s1 = .inl (cs 16, 40, .inl e1) ∧ FF s2 = .inl (cs 16, 40, .inl e2) ∧ FF se = .inr (13, [.ref sx, .ref s0, .ref s1, .ref s2, .int (nI zs)])) ?_ (fun jn_322 => ?_)
            ·
              rintro s8 F_323 hv_326 hO hR H locs hP hD hS ls hl
              have hl : lv_has ls 8 [(0, .ref h0), (1, .int (nI jf)), (2, .int x2)] := hl
              have hv_326 : (∃ k : Nat, k ≤ z_318 ∧ s8 = nI k) ∧ F_323 sb = .inl (cs 17, 3000, .inl eb) ∧ F_323 s0 = .inl (cs 16, 40, .inl e0) ∧ F_323 s1 = .inl (cs 16, 40, .inl e1) ∧ F_323 s2 = .inl (cs 16, 40, .inl e2) ∧ F_323 se = .inr (13, [.ref sx, .ref s0, .ref s1, .ref s2, .int (nI zs)]) := hv_326
              refine W.eq (g2 := F0 m 288 ls [.int s8, .ref rl, .ref h0]) rfl ?_
              have hF_327 : F_323 co = .inl (cs 16, 21, .inl f_75) := (hR co (by rw [ht_74]; simp)).trans hF_324
              have hF_328 : F_323 sp = .inl (cs 16, 21, .inl f_82) := (hR sp (by rw [ht_81]; simp)).trans hF_325
              obtain ⟨⟨kz, hkz, ekz⟩, hoa, hob, hoc, hod, hoe⟩ := hv_326
              subst ekz
              refine W.eq (g2 := F0 m 288 ls [.int (nI kz), .ref rl, .ref h0]) rfl ?_
              refine lv_aload_n hx hb dX15_sealOf_288 rfl (lv_at hl 0 rfl) ?_
              obtain ⟨zo_329, v11_330, v12_331, v14_332, v15_333, v17_334, v18_335, v19_336, v20_337, v21_338, v22_339, v33_340, v52_341, v53_342, v54_343, hF_344, hq_345, hq_346, hq_347, hq_348⟩ := hO.mod hL_h0 hT_h0
              refine pg_get (ci := 15) (v := .ref xa) (C := RX15) (T := TX15) (N := 59) hx hb hts it_15 hown hK hP hL_h0 hF_344 rfl 44 (by decide) (hts _ kt_950) (fun _ h9 => h9) rfl dX15_sealOf_289 ?_
              obtain ⟨hq_349, hq_350⟩ := hW.octs hi_40 ht_41
              obtain ⟨hi_351, ht_352⟩ := hW.f_xa hL_h0 hT_h0
              obtain ⟨hq_353, hq_354⟩ := hW.octs hi_351 ht_352
              have hFc := pg_free hD hS hA
              refine va_callv (va_runV (As := [.ref rl, .int (nI kz), .ref xa]) (rest := []) ⟨hx, hb, hml, hown, hts⟩ (s_X15_digest l dC dI cs ty gm L H.size F_323 h0 ρ ta ou so ad na va lc dm tg pe ml bg co sp nb0 nb1 nb2 pl se ke wi hs mo po nu pr sq xa sa n64 m64 ex wh sd tk hd ak ho ot sx s0 s1 s2 nf bd mm ze zt rl (ρ + 10) 6000 xa (ρ + 19) 32 kz hW hL_h0 hT_h0 hi_40 ht_41 hi_351 ht_352 (by first | omega | assumption) (by first | omega | assumption)) ⟨callB_of 3 hts (gi kt_1022) rfl rfl rfl (hts _ kt_669) (hts _ kt_1023) (by decide +kernel) ⟨Nat.le_of_ble_eq_true rfl, Nat.le_of_ble_eq_true rfl⟩, (hts _ kt_1024), (hts _ kt_1025)⟩ ⟨fun a U g mk q => ⟨q.1, PTm.calling q.2⟩, pg_recv hK hP hL_h0 hF_344 (q := (RX15, TX15, 59)) rfl, fun U hU hWm => ⟨rfl, PTm.mk hU hWm hP hK hD hE hO⟩⟩ rfl rfl hl.1 rfl (lv_room (Nat.le_of_ble_eq_true rfl)) dX15_sealOf_292 ⟨by show _ + 0 ≤ 0; omega, by show _ + 0 ≤ 0; omega⟩) hS (fun q _ h => hFc q h) hFc (fun u t H1 locs ht hvm hw hB hz1 hk1 hS => ?_)
              obtain ⟨F_356, hB1⟩ := hB
              obtain ⟨hP, hD, hO, hR⟩ := QTm.back hB1 ht hFc hR (fun q h => by simp only [List.mem_cons, List.not_mem_nil, or_false] at h ⊢; omega)
              have hF_357 : F_356 co = .inl (cs 16, 21, .inl f_75) := (hB1.2.2.2 co (by rw [ht_74]; simp)).trans hF_327
              have hF_358 : F_356 sp = .inl (cs 16, 21, .inl f_82) := (hB1.2.2.2 sp (by rw [ht_81]; simp)).trans hF_328
              have hF_359 : F_356 sb = .inl (cs 17, 3000, .inl eb) := (hB1.2.2.2 sb (by rw [ht_38]; simp)).trans hoa
              have hF_360 : F_356 s0 = .inl (cs 16, 40, .inl e0) := (hB1.2.2.2 s0 (by rw [ht_32]; simp)).trans hob
              have hF_361 : F_356 s1 = .inl (cs 16, 40, .inl e1) := (hB1.2.2.2 s1 (by rw [ht_33]; simp)).trans hoc
              have hF_362 : F_356 s2 = .inl (cs 16, 40, .inl e2) := (hB1.2.2.2 s2 (by rw [ht_34]; simp)).trans hod
              have hF_363 : F_356 se = .inr (13, [.ref sx, .ref s0, .ref s1, .ref s2, .int (nI zs)]) := (hB1.2.2.2 se (by rw [ht_28]; simp)).trans hoe
              have hF_364 : F_356 h0 = .inr (15, (.ref ta) :: (.int (nI zt)) :: (.int (nI zo_329)) :: (.int (nI ze)) :: (.ref ou) :: (.ref so) :: (.ref ad) :: (.ref na) :: (.ref va) :: (.ref lc) :: (.ref dm) :: (.int v11_330) :: (.int v12_331) :: (.ref tg) :: (.int v14_332) :: (.int v15_333) :: (.ref pe) :: (.int v17_334) :: (.int v18_335) :: (.int v19_336) :: (.int v20_337) :: (.int v21_338) :: (.int v22_339) :: (.ref ml) :: (.ref bg) :: (.ref co) :: (.ref sp) :: (.ref nb0) :: (.ref nb1) :: (.ref nb2) :: (.int (nI nf)) :: (.int (nI bd)) :: (.int (nI mm)) :: (.int v33_340) :: (.ref pl) :: (.ref se) :: (.ref ke) :: (.ref wi) :: (.ref hs) :: (.ref mo) :: (.ref po) :: (.ref nu) :: (.ref pr) :: (.ref sq) :: (.ref xa) :: (.ref sa) :: (.ref n64) :: (.ref m64) :: (.ref ex) :: (.ref wh) :: (.ref sd) :: (.ref tk) :: (.int v52_341) :: (.int v53_342) :: (.int v54_343) :: (.ref hd) :: (.ref ak) :: (.ref ho) :: (.ref ot) :: []) := (hB1.2.2.2 h0 (by rw [hT_h0]; simp)).trans hF_344
              generalize H1 = H at hP hS ⊢
              refine lv_aload_n hx hb dX15_sealOf_295 rfl (lv_at hl 0 rfl) ?_
              refine pg_get (ci := 15) (v := .ref xa) (C := RX15) (T := TX15) (N := 59) hx hb hts it_15 hown hK hP hL_h0 hF_364 rfl 44 (by decide) (hts _ kt_950) (fun _ h9 => h9) rfl dX15_sealOf_296 ?_
              refine lv_aload_n hx hb dX15_sealOf_299 rfl (lv_at hl 0 rfl) ?_
              refine pg_get (ci := 15) (v := .ref sa) (C := RX15) (T := TX15) (N := 59) hx hb hts it_15 hown hK hP hL_h0 hF_364 rfl 45 (by decide) (hts _ kt_886) (fun _ h9 => h9) rfl dX15_sealOf_300 ?_
              obtain ⟨hi_365, ht_366⟩ := hW.f_sa hL_h0 hT_h0
              obtain ⟨hq_367, hq_368⟩ := hW.octs hi_365 ht_366
              have hFc := pg_free hD hS hA
              refine va_calli (va_runS (As := [.ref xa, .ref sa]) (rest := []) ⟨hx, hb, hml, hown, hts⟩ (s_X15_isAll l dC dI cs ty gm L H.size F_356 xa (ρ + 19) sa (ρ + 20) hW hi_351 ht_352 hi_365 ht_366) ⟨callB_of 2 hts (gi kt_1026) rfl rfl rfl (hts _ kt_669) (hts _ kt_1027) (by decide +kernel) ⟨Nat.le_of_ble_eq_true rfl, Nat.le_of_ble_eq_true rfl⟩, (hts _ kt_1028)⟩ ⟨fun a U g mk q => ⟨q.1, PTm.calling q.2⟩, fun U hU hWm => ⟨rfl, PTm.mk hU hWm hP hK hD hE hO⟩⟩ rfl rfl hl.1 rfl (lv_room (Nat.le_of_ble_eq_true rfl)) dX15_sealOf_303 ⟨by show _ + 0 ≤ 0; omega, by show _ + 0 ≤ 0; omega⟩) hS (fun q _ h => hFc q h) hFc (fun r_369 u t H1 locs ht hvm hw hB hz1 hk1 hS => ?_)
              obtain ⟨F_370, hB1⟩ := hB
              obtain rfl : F_356 = F_370 := (funext (fun a => hB1.2.2.2 a List.not_mem_nil)).symm
              obtain ⟨hP, hD, hO, hR⟩ := QTm.back hB1 ht hFc hR (fun q h => absurd h List.not_mem_nil)
              generalize H1 = H at hP hS ⊢
              have hw : (r_369 = 0 ∨ r_369 = 1) := hw
              have hw_371 := hw
              refine lv_if_ne (tgt := 311) hx hb dX15_sealOf_306 (by decide) (fun c_372 => ?_) (fun c_372 => ?_)
              ·
                refine lv_aload_n hx hb dX15_sealOf_311 rfl (lv_at hl 0 rfl) ?_
                refine lv_iload_n hx hb dX15_sealOf_312 rfl (lv_at hl 1 rfl) ?_
                have hFc := pg_free hD hS hA
                refine va_callv (va_runV (As := [.int (nI jf)]) (rest := []) ⟨hx, hb, hml, hown, hts⟩ (s_X15_fieldsPlain l dC dI cs ty gm L H.size F_356 h0 ρ ta ou so ad na va lc dm tg pe ml bg co sp nb0 nb1 nb2 pl se ke wi hs mo po nu pr sq xa sa n64 m64 ex wh sd tk hd ak ho ot sx s0 s1 s2 nf bd mm ze zt sb rl eb e0 e1 e2 zs kh jf hW hL_h0 hT_h0 hL_sx hT_sx hL_pl hT_pl hF_359 hF_360 hF_361 hF_362 hF_363 (hzs) (hh1) (hfh) (by first | omega | assumption)) ⟨callB_of 1 hts (gi kt_1029) rfl rfl rfl (hts _ kt_669) (hts _ kt_1030) (by decide +kernel) ⟨Nat.le_of_ble_eq_true rfl, Nat.le_of_ble_eq_true rfl⟩, (hts _ kt_1031), (hts _ kt_1032)⟩ ⟨fun a U g mk q => ⟨q.1, PTEm.calling q.2⟩, pg_recv hK hP hL_h0 hF_364 (q := (RX15, TX15, 59)) rfl, fun U hU hWm => ⟨rfl, PTEm.mk hU hWm hP hK hD hE hO hG (fun x hx => absurd hx List.not_mem_nil) hS hFc⟩⟩ rfl rfl hl.1 rfl (lv_room (Nat.le_of_ble_eq_true rfl)) dX15_sealOf_313 ⟨by show _ + 0 ≤ 0; omega, by show _ + 0 ≤ 0; omega⟩) hS (fun q _ h => hFc q h) hFc (fun u t H1 locs ht hvm hw hB hz1 hk1 hS => ?_)
                obtain ⟨F_374, hB1⟩ := hB
                obtain ⟨hP, hD, hO, hR⟩ := QTm.back hB1 ht hFc hR (fun q h => by simp only [List.mem_cons, List.not_mem_nil, or_false] at h ⊢; omega)
                have hF_375 : F_374 co = .inl (cs 16, 21, .inl f_75) := (hB1.2.2.2 co (by rw [ht_74]; simp)).trans hF_357
                have hF_376 : F_374 sp = .inl (cs 16, 21, .inl f_82) := (hB1.2.2.2 sp (by rw [ht_81]; simp)).trans hF_358
                have hF_377 : F_374 sb = .inl (cs 17, 3000, .inl eb) := (hB1.2.2.2 sb (by rw [ht_38]; simp)).trans hF_359
                have hF_378 : F_374 s0 = .inl (cs 16, 40, .inl e0) := (hB1.2.2.2 s0 (by rw [ht_32]; simp)).trans hF_360
                have hF_379 : F_374 s1 = .inl (cs 16, 40, .inl e1) := (hB1.2.2.2 s1 (by rw [ht_33]; simp)).trans hF_361
                have hF_380 : F_374 s2 = .inl (cs 16, 40, .inl e2) := (hB1.2.2.2 s2 (by rw [ht_34]; simp)).trans hF_362
                have hF_381 : F_374 se = .inr (13, [.ref sx, .ref s0, .ref s1, .ref s2, .int (nI zs)]) := (hB1.2.2.2 se (by rw [ht_28]; simp)).trans hF_363
                have hF_382 : F_374 h0 = .inr (15, (.ref ta) :: (.int (nI zt)) :: (.int (nI zo_329)) :: (.int (nI ze)) :: (.ref ou) :: (.ref so) :: (.ref ad) :: (.ref na) :: (.ref va) :: (.ref lc) :: (.ref dm) :: (.int v11_330) :: (.int v12_331) :: (.ref tg) :: (.int v14_332) :: (.int v15_333) :: (.ref pe) :: (.int v17_334) :: (.int v18_335) :: (.int v19_336) :: (.int v20_337) :: (.int v21_338) :: (.int v22_339) :: (.ref ml) :: (.ref bg) :: (.ref co) :: (.ref sp) :: (.ref nb0) :: (.ref nb1) :: (.ref nb2) :: (.int (nI nf)) :: (.int (nI bd)) :: (.int (nI mm)) :: (.int v33_340) :: (.ref pl) :: (.ref se) :: (.ref ke) :: (.ref wi) :: (.ref hs) :: (.ref mo) :: (.ref po) :: (.ref nu) :: (.ref pr) :: (.ref sq) :: (.ref xa) :: (.ref sa) :: (.ref n64) :: (.ref m64) :: (.ref ex) :: (.ref wh) :: (.ref sd) :: (.ref tk) :: (.int v52_341) :: (.int v53_342) :: (.int v54_343) :: (.ref hd) :: (.ref ak) :: (.ref ho) :: (.ref ot) :: []) := (hB1.2.2.2 h0 (by rw [hT_h0]; simp)).trans hF_364
                generalize H1 = H at hP hS ⊢
                refine lv_aload_n hx hb dX15_sealOf_316 rfl (lv_at hl 0 rfl) ?_
                refine lv_aload_n hx hb dX15_sealOf_317 rfl (lv_at hl 0 rfl) ?_
                refine pg_get (ci := 15) (v := .ref pl) (C := RX15) (T := TX15) (N := 59) hx hb hts it_15 hown hK hP hL_h0 hF_382 rfl 34 (by decide) (hts _ kt_916) (fun _ h9 => h9) rfl dX15_sealOf_318 ?_
                obtain ⟨z_383, hF_384, hq_385⟩ := hO.txt hL_pl hT_pl
                refine pg_get (ci := 14) (v := .ref rl) (C := RX14) (T := TX14) (N := 2) hx hb hts it_14 hown hK hP hL_pl hF_384 rfl 0 (by decide) (hts _ kt_710) (fun _ h9 => h9) rfl dX15_sealOf_321 ?_
                refine lv_aload_n hx hb dX15_sealOf_324 rfl (lv_at hl 0 rfl) ?_
                refine pg_get (ci := 15) (v := .ref pl) (C := RX15) (T := TX15) (N := 59) hx hb hts it_15 hown hK hP hL_h0 hF_382 rfl 34 (by decide) (hts _ kt_916) (fun _ h9 => h9) rfl dX15_sealOf_325 ?_
                refine pg_get (ci := 14) (v := .int (nI z_383)) (C := RX14) (T := TX14) (N := 2) hx hb hts it_14 hown hK hP hL_pl hF_384 rfl 1 (by decide) (hts _ kt_709) (fun _ h9 => h9) rfl dX15_sealOf_328 ?_
                refine lv_aload_n hx hb dX15_sealOf_331 rfl (lv_at hl 0 rfl) ?_
                refine pg_get (ci := 15) (v := .ref xa) (C := RX15) (T := TX15) (N := 59) hx hb hts it_15 hown hK hP hL_h0 hF_382 rfl 44 (by decide) (hts _ kt_950) (fun _ h9 => h9) rfl dX15_sealOf_332 ?_
                have hFc := pg_free hD hS hA
                refine va_callv (va_runV (As := [.ref rl, .int (nI z_383), .ref xa]) (rest := []) ⟨hx, hb, hml, hown, hts⟩ (s_X15_digest l dC dI cs ty gm L H.size F_374 h0 ρ ta ou so ad na va lc dm tg pe ml bg co sp nb0 nb1 nb2 pl se ke wi hs mo po nu pr sq xa sa n64 m64 ex wh sd tk hd ak ho ot sx s0 s1 s2 nf bd mm ze zt rl (ρ + 10) 6000 xa (ρ + 19) 32 z_383 hW hL_h0 hT_h0 hi_40 ht_41 hi_351 ht_352 (by first | omega | assumption) (by first | omega | assumption)) ⟨callB_of 3 hts (gi kt_1022) rfl rfl rfl (hts _ kt_669) (hts _ kt_1023) (by decide +kernel) ⟨Nat.le_of_ble_eq_true rfl, Nat.le_of_ble_eq_true rfl⟩, (hts _ kt_1024), (hts _ kt_1025)⟩ ⟨fun a U g mk q => ⟨q.1, PTm.calling q.2⟩, pg_recv hK hP hL_h0 hF_382 (q := (RX15, TX15, 59)) rfl, fun U hU hWm => ⟨rfl, PTm.mk hU hWm hP hK hD hE hO⟩⟩ rfl rfl hl.1 rfl (lv_room (Nat.le_of_ble_eq_true rfl)) dX15_sealOf_335 ⟨by show _ + 0 ≤ 0; omega, by show _ + 0 ≤ 0; omega⟩) hS (fun q _ h => hFc q h) hFc (fun u t H1 locs ht hvm hw hB hz1 hk1 hS => ?_)
                obtain ⟨F_387, hB1⟩ := hB
                obtain ⟨hP, hD, hO, hR⟩ := QTm.back hB1 ht hFc hR (fun q h => by simp only [List.mem_cons, List.not_mem_nil, or_false] at h ⊢; omega)
                have hF_388 : F_387 co = .inl (cs 16, 21, .inl f_75) := (hB1.2.2.2 co (by rw [ht_74]; simp)).trans hF_375
                have hF_389 : F_387 sp = .inl (cs 16, 21, .inl f_82) := (hB1.2.2.2 sp (by rw [ht_81]; simp)).trans hF_376
                have hF_390 : F_387 sb = .inl (cs 17, 3000, .inl eb) := (hB1.2.2.2 sb (by rw [ht_38]; simp)).trans hF_377
                have hF_391 : F_387 s0 = .inl (cs 16, 40, .inl e0) := (hB1.2.2.2 s0 (by rw [ht_32]; simp)).trans hF_378
                have hF_392 : F_387 s1 = .inl (cs 16, 40, .inl e1) := (hB1.2.2.2 s1 (by rw [ht_33]; simp)).trans hF_379
                have hF_393 : F_387 s2 = .inl (cs 16, 40, .inl e2) := (hB1.2.2.2 s2 (by rw [ht_34]; simp)).trans hF_380
                have hF_394 : F_387 se = .inr (13, [.ref sx, .ref s0, .ref s1, .ref s2, .int (nI zs)]) := (hB1.2.2.2 se (by rw [ht_28]; simp)).trans hF_381
                have hF_395 : F_387 h0 = .inr (15, (.ref ta) :: (.int (nI zt)) :: (.int (nI zo_329)) :: (.int (nI ze)) :: (.ref ou) :: (.ref so) :: (.ref ad) :: (.ref na) :: (.ref va) :: (.ref lc) :: (.ref dm) :: (.int v11_330) :: (.int v12_331) :: (.ref tg) :: (.int v14_332) :: (.int v15_333) :: (.ref pe) :: (.int v17_334) :: (.int v18_335) :: (.int v19_336) :: (.int v20_337) :: (.int v21_338) :: (.int v22_339) :: (.ref ml) :: (.ref bg) :: (.ref co) :: (.ref sp) :: (.ref nb0) :: (.ref nb1) :: (.ref nb2) :: (.int (nI nf)) :: (.int (nI bd)) :: (.int (nI mm)) :: (.int v33_340) :: (.ref pl) :: (.ref se) :: (.ref ke) :: (.ref wi) :: (.ref hs) :: (.ref mo) :: (.ref po) :: (.ref nu) :: (.ref pr) :: (.ref sq) :: (.ref xa) :: (.ref sa) :: (.ref n64) :: (.ref m64) :: (.ref ex) :: (.ref wh) :: (.ref sd) :: (.ref tk) :: (.int v52_341) :: (.int v53_342) :: (.int v54_343) :: (.ref hd) :: (.ref ak) :: (.ref ho) :: (.ref ot) :: []) := (hB1.2.2.2 h0 (by rw [hT_h0]; simp)).trans hF_382
                have hF_396 : F_387 pl = .inr (14, [.ref rl, .int (nI z_383)]) := (hB1.2.2.2 pl (by rw [hT_pl]; simp)).trans hF_384
                generalize H1 = H at hP hS ⊢
                refine lv_aload_n hx hb dX15_sealOf_338 rfl (lv_at hl 0 rfl) ?_
                have hFc := pg_free hD hS hA
                refine va_calli (va_runV (As := []) (rest := []) ⟨hx, hb, hml, hown, hts⟩ (s_X15_isPower l dC dI cs ty gm L H.size F_387 h0 ρ ta ou so ad na va lc dm tg pe ml bg co sp nb0 nb1 nb2 pl se ke wi hs mo po nu pr sq xa sa n64 m64 ex wh sd tk hd ak ho ot sx s0 s1 s2 nf bd mm ze zt hW hL_h0 hT_h0) ⟨callB_of 0 hts (gi kt_1033) rfl rfl rfl (hts _ kt_669) (hts _ kt_1034) (by decide +kernel) ⟨Nat.le_of_ble_eq_true rfl, Nat.le_of_ble_eq_true rfl⟩, (hts _ kt_1035), (hts _ kt_1036)⟩ ⟨fun a U g mk q => ⟨q.1, PTm.calling q.2⟩, pg_recv hK hP hL_h0 hF_395 (q := (RX15, TX15, 59)) rfl, fun U hU hWm => ⟨rfl, PTm.mk hU hWm hP hK hD hE hO⟩⟩ rfl rfl hl.1 rfl (lv_room (Nat.le_of_ble_eq_true rfl)) dX15_sealOf_339 ⟨by show _ + 0 ≤ 0; omega, by show _ + 0 ≤ 0; omega⟩) hS (fun q _ h => hFc q h) hFc (fun r_397 u t H1 locs ht hvm hw hB hz1 hk1 hS => ?_)
                obtain ⟨F_398, hB1⟩ := hB
                obtain ⟨hP, hD, hO, hR⟩ := QTm.back hB1 ht hFc hR (fun q h => by simp only [List.mem_cons, List.not_mem_nil, or_false] at h ⊢; omega)
                have hF_399 : F_398 co = .inl (cs 16, 21, .inl f_75) := (hB1.2.2.2 co (by rw [ht_74]; simp)).trans hF_388
                have hF_400 : F_398 sp = .inl (cs 16, 21, .inl f_82) := (hB1.2.2.2 sp (by rw [ht_81]; simp)).trans hF_389
                have hF_401 : F_398 sb = .inl (cs 17, 3000, .inl eb) := (hB1.2.2.2 sb (by rw [ht_38]; simp)).trans hF_390
                have hF_402 : F_398 s0 = .inl (cs 16, 40, .inl e0) := (hB1.2.2.2 s0 (by rw [ht_32]; simp)).trans hF_391
                have hF_403 : F_398 s1 = .inl (cs 16, 40, .inl e1) := (hB1.2.2.2 s1 (by rw [ht_33]; simp)).trans hF_392
                have hF_404 : F_398 s2 = .inl (cs 16, 40, .inl e2) := (hB1.2.2.2 s2 (by rw [ht_34]; simp)).trans hF_393
                have hF_405 : F_398 se = .inr (13, [.ref sx, .ref s0, .ref s1, .ref s2, .int (nI zs)]) := (hB1.2.2.2 se (by rw [ht_28]; simp)).trans hF_394
                have hF_406 : F_398 h0 = .inr (15, (.ref ta) :: (.int (nI zt)) :: (.int (nI zo_329)) :: (.int (nI ze)) :: (.ref ou) :: (.ref so) :: (.ref ad) :: (.ref na) :: (.ref va) :: (.ref lc) :: (.ref dm) :: (.int v11_330) :: (.int v12_331) :: (.ref tg) :: (.int v14_332) :: (.int v15_333) :: (.ref pe) :: (.int v17_334) :: (.int v18_335) :: (.int v19_336) :: (.int v20_337) :: (.int v21_338) :: (.int v22_339) :: (.ref ml) :: (.ref bg) :: (.ref co) :: (.ref sp) :: (.ref nb0) :: (.ref nb1) :: (.ref nb2) :: (.int (nI nf)) :: (.int (nI bd)) :: (.int (nI mm)) :: (.int v33_340) :: (.ref pl) :: (.ref se) :: (.ref ke) :: (.ref wi) :: (.ref hs) :: (.ref mo) :: (.ref po) :: (.ref nu) :: (.ref pr) :: (.ref sq) :: (.ref xa) :: (.ref sa) :: (.ref n64) :: (.ref m64) :: (.ref ex) :: (.ref wh) :: (.ref sd) :: (.ref tk) :: (.int v52_341) :: (.int v53_342) :: (.int v54_343) :: (.ref hd) :: (.ref ak) :: (.ref ho) :: (.ref ot) :: []) := (hB1.2.2.2 h0 (by rw [hT_h0]; simp)).trans hF_395
                have hF_407 : F_398 pl = .inr (14, [.ref rl, .int (nI z_383)]) := (hB1.2.2.2 pl (by rw [hT_pl]; simp)).trans hF_396
                generalize H1 = H at hP hS ⊢
                have hw : (r_397 = 0 ∨ r_397 = 1) := hw
                have hw_408 := hw
                refine lv_if_eq (tgt := 349) hx hb dX15_sealOf_342 (by decide) (fun c_409 => ?_) (fun c_409 => ?_)
                ·
                  refine lv_iconst (v := 3) hx hb dX15_sealOf_349 (by decide) ?_
                  refine W.widen (k := 0) (n := 0) (by omega) (by omega) ?_
                  exact W.iret (v := 3) hx hb hr (fun t ht hWm => ⟨⟨3, (), rfl, trivial, ⟨F_398, QTm.mk ht hP hD hO hR⟩⟩, hS.F ht⟩) hS.2.2 dX15_sealOf_350
                ·
                  refine lv_iconst (v := 2) hx hb dX15_sealOf_345 (by decide) ?_
                  refine lv_goto (tgt := 350) hx hb dX15_sealOf_346 (by decide) ?_
                  refine W.widen (k := 0) (n := 0) (by omega) (by omega) ?_
                  exact W.iret (v := 2) hx hb hr (fun t ht hWm => ⟨⟨2, (), rfl, trivial, ⟨F_398, QTm.mk ht hP hD hO hR⟩⟩, hS.F ht⟩) hS.2.2 dX15_sealOf_350
              ·
                refine lv_iconst (v := 3) hx hb dX15_sealOf_309 (by decide) ?_
                refine W.widen (k := 0) (n := 0) (by omega) (by omega) ?_
                exact W.iret (v := 3) hx hb hr (fun t ht hWm => ⟨⟨3, (), rfl, trivial, ⟨F_356, QTm.mk ht hP hD hO hR⟩⟩, hS.F ht⟩) hS.2.2 dX15_sealOf_310
            ·
              refine lv_iload hx hb dX15_sealOf_271 (lv_at hl 0 rfl) ?_
              refine lv_if_lt (tgt := 281) hx hb dX15_sealOf_273 (by decide) (fun c_410 => ?_) (fun c_410 => ?_)
              ·
                refine lv_aload_n hx hb dX15_sealOf_281 rfl (lv_at hl 2 rfl) ?_
                refine pg_get (ci := 15) (v := .ref pl) (C := RX15) (T := TX15) (N := 59) hx hb hts it_15 hown hK hP hL_h0 hF_311 rfl 34 (by decide) (hts _ kt_916) (fun _ h9 => h9) rfl dX15_sealOf_282 ?_
                refine pg_get (ci := 14) (v := .int (nI z_318)) (C := RX14) (T := TX14) (N := 2) hx hb hts it_14 hown hK hP hL_pl hF_319 rfl 1 (by decide) (hts _ kt_709) (fun _ h9 => h9) rfl dX15_sealOf_285 ?_
                refine W.widen (k := 0) (n := 0) (by omega) (by omega) ?_
                exact jn_322 (nI z_318) F_302 (⟨⟨z_318, by omega, rfl⟩, hF_305, hF_306, hF_307, hF_308, hF_309⟩) hO hR _ _ hP hD hS ls (lv_sub hl [2, 3, 4] rfl)
              ·
                have hr9 := c_321
                obtain ⟨km, hkm, ekm⟩ := nI_of c_410
                subst ekm
                have hkz : km ≤ z_318 := (nI_leI hkm (by omega)).mp hr9
                refine lv_iload hx hb dX15_sealOf_276 (lv_at hl 0 rfl) ?_
                refine lv_goto (tgt := 288) hx hb dX15_sealOf_278 (by decide) ?_
                refine W.widen (k := 0) (n := 0) (by omega) (by omega) ?_
                exact jn_322 (nI km) F_302 (⟨⟨km, by omega, rfl⟩, hF_305, hF_306, hF_307, hF_308, hF_309⟩) hO hR _ _ hP hD hS ls (lv_sub hl [2, 3, 4] rfl)
          ·
            refine lv_iconst (v := 3) hx hb dX15_sealOf_261 (by decide) ?_
            refine W.widen (k := 0) (n := 0) (by omega) (by omega) ?_
            exact W.iret (v := 3) hx hb hr (fun t ht hWm => ⟨⟨3, (), rfl, trivial, ⟨F_302, QTm.mk ht hP hD hO hR⟩⟩, hS.F ht⟩) hS.2.2 dX15_sealOf_262
        ·
          refine lv_iload hx hb dX15_sealOf_226 (lv_at hl 0 rfl) ?_
          refine W.widen (k := 0) (n := 0) (by omega) (by omega) ?_
          exact W.iret (v := r_287) hx hb hr (fun t ht hWm => ⟨⟨r_287, (), rfl, trivial, ⟨F_288, QTm.mk ht hP hD hO hR⟩⟩, hS.F ht⟩) hS.2.2 dX15_sealOf_228
      ·
        have hi_411 : j < 12 := ltN (N := 12) c_251
        refine lv_aload_n hx hb dX15_sealOf_171 rfl (lv_at hl 1 rfl) ?_
        obtain ⟨zo_412, v11_413, v12_414, v14_415, v15_416, v17_417, v18_418, v19_419, v20_420, v21_421, v22_422, v33_423, v52_424, v53_425, v54_426, hF_427, hq_428, hq_429, hq_430, hq_431⟩ := hO.mod hL_h0 hT_h0
        refine pg_get (ci := 15) (v := .ref wh) (C := RX15) (T := TX15) (N := 59) hx hb hts it_15 hown hK hP hL_h0 hF_427 rfl 49 (by decide) (hts _ kt_953) (fun _ h9 => h9) rfl dX15_sealOf_172 ?_
        obtain ⟨q_432, v_433, hr_q_432, hX_q_432⟩ := hG.2.2 ("PostGateModel", 514, "._domainkey.", [46, 95, 100, 111, 109, 97, 105, 110, 107, 101, 121, 46]) (by decide +kernel)
        have hX_q_432 : SXc q_432 v_433 12 (cct [46, 95, 100, 111, 109, 97, 105, 110, 107, 101, 121, 46]) A s s.heap := hX_q_432
        obtain ⟨xo_q_432, xc_q_432, xv_q_432, xt_q_432, xn_q_432⟩ := id hX_q_432
        have hr_q_432 : vk_R "PostGateModel" 514 "._domainkey." q_432 s := hr_q_432
        refine va_ldcwS hx hb hown hr_q_432 dX15_sealOf_175 ?_
        refine lv_iload hx hb dX15_sealOf_178 (lv_at hl 0 rfl) ?_
        have hFc := pg_free hD hS hA
        refine va_calli (va_runV (As := [.int (nI j)]) (rest := [.ref wh]) ⟨hx, hb, hml, hown, hts⟩ (m_J0_charAt_5068e l dC dI cs ty gm L H.size F_244 q_432 v_433 12 (cct [46, 95, 100, 111, 109, 97, 105, 110, 107, 101, 121, 46]) j hW (by first | omega | assumption)) ⟨callB_of 1 hts (gi kt_75) rfl rfl rfl (hts _ kt_51) (hts _ kt_693) (by decide +kernel) ⟨Nat.le_of_ble_eq_true rfl, Nat.le_of_ble_eq_true rfl⟩, (hts _ kt_77), (hts _ kt_78)⟩ ⟨fun a U g mk q => ⟨q.1, PTEm.calling q.2⟩, sx_recv hX_q_432.sx hS, fun U hU hWm => ⟨rfl, PTEm.mk hU hWm hP hK hD hE hO hG (fun x hx => by rw [List.mem_singleton] at hx; subst hx; exact hX_q_432) hS hFc⟩⟩ rfl rfl hl.1 rfl (lv_room (Nat.le_of_ble_eq_true rfl)) dX15_sealOf_180 ⟨by show _ + 0 ≤ 0; omega, by show _ + 0 ≤ 0; omega⟩) hS (fun q _ h => hFc q h) hFc (fun r_434 u t H1 locs ht hvm hw hB hz1 hk1 hS => ?_)
        obtain ⟨F_435, hB1⟩ := hB
        obtain rfl : F_244 = F_435 := (funext (fun a => hB1.2.2.2 a List.not_mem_nil)).symm
        obtain ⟨hP, hD, hO, hR⟩ := QTm.back hB1 ht hFc hR (fun q h => absurd h List.not_mem_nil)
        generalize H1 = H at hP hS ⊢
        have hw : r_434 = chv ((cct [46, 95, 100, 111, 109, 97, 105, 110, 107, 101, 121, 46]) j) := hw
        subst hw
        have hFc := pg_free hD hS hA
        refine va_callv (va_runV (As := [.int (chv ((cct [46, 95, 100, 111, 109, 97, 105, 110, 107, 101, 121, 46]) j))]) (rest := []) ⟨hx, hb, hml, hown, hts⟩ (s_X14_add l dC dI cs ty gm L H.size F_244 wh (ρ + 24) r_17 6000 ((k_224 - (k_218 + 1)) + j) (chv ((cct [46, 95, 100, 111, 109, 97, 105, 110, 107, 101, 121, 46]) j)) hW hi_43 ht_44 hwh2 (by first | omega | assumption)) ⟨callB_of 1 hts (gi kt_711) rfl rfl rfl (hts _ kt_676) (hts _ kt_712) (by decide +kernel) ⟨Nat.le_of_ble_eq_true rfl, Nat.le_of_ble_eq_true rfl⟩, (hts _ kt_713), (hts _ kt_714)⟩ ⟨fun a U g mk q => ⟨q.1, PTm.calling q.2⟩, pg_recv hK hP hi_43 hwh2 (q := (RX14, TX14, 2)) rfl, fun U hU hWm => ⟨rfl, PTm.mk hU hWm hP hK hD hE hO⟩⟩ rfl rfl hl.1 rfl (lv_room (Nat.le_of_ble_eq_true rfl)) dX15_sealOf_183 ⟨by show _ + 0 ≤ 0; omega, by show _ + 0 ≤ 0; omega⟩) hS (fun q _ h => hFc q h) hFc (fun u t H1 locs ht hvm hw hB hz1 hk1 hS => ?_)
        obtain ⟨F_437, hB1, hq_438⟩ := hB
        obtain ⟨hP, hD, hO, hR⟩ := QTm.back hB1 ht hFc hR (fun q h => by simp only [List.mem_cons, List.not_mem_nil, or_false] at h ⊢; omega)
        have hF_439 : F_437 co = .inl (cs 16, 21, .inl f_75) := (hB1.2.2.2 co (by rw [ht_74]; simp)).trans hF_249
        have hF_440 : F_437 sp = .inl (cs 16, 21, .inl f_82) := (hB1.2.2.2 sp (by rw [ht_81]; simp)).trans hF_250
        have hF_441 : F_437 sb = .inl (cs 17, 3000, .inl eb) := (hB1.2.2.2 sb (by rw [ht_38]; simp)).trans hna
        have hF_442 : F_437 s0 = .inl (cs 16, 40, .inl e0) := (hB1.2.2.2 s0 (by rw [ht_32]; simp)).trans hnb
        have hF_443 : F_437 s1 = .inl (cs 16, 40, .inl e1) := (hB1.2.2.2 s1 (by rw [ht_33]; simp)).trans hnc
        have hF_444 : F_437 s2 = .inl (cs 16, 40, .inl e2) := (hB1.2.2.2 s2 (by rw [ht_34]; simp)).trans hnd
        have hF_445 : F_437 se = .inr (13, [.ref sx, .ref s0, .ref s1, .ref s2, .int (nI zs)]) := (hB1.2.2.2 se (by rw [ht_28]; simp)).trans hne
        have hF_446 : F_437 sd = .inr (14, [.ref r_18, .int (nI (k_166 - (k_160 + 1)))]) := (hB1.2.2.2 sd (by rw [ht_49]; simp)).trans hsd2
        have hF_447 : F_437 h0 = .inr (15, (.ref ta) :: (.int (nI zt)) :: (.int (nI zo_412)) :: (.int (nI ze)) :: (.ref ou) :: (.ref so) :: (.ref ad) :: (.ref na) :: (.ref va) :: (.ref lc) :: (.ref dm) :: (.int v11_413) :: (.int v12_414) :: (.ref tg) :: (.int v14_415) :: (.int v15_416) :: (.ref pe) :: (.int v17_417) :: (.int v18_418) :: (.int v19_419) :: (.int v20_420) :: (.int v21_421) :: (.int v22_422) :: (.ref ml) :: (.ref bg) :: (.ref co) :: (.ref sp) :: (.ref nb0) :: (.ref nb1) :: (.ref nb2) :: (.int (nI nf)) :: (.int (nI bd)) :: (.int (nI mm)) :: (.int v33_423) :: (.ref pl) :: (.ref se) :: (.ref ke) :: (.ref wi) :: (.ref hs) :: (.ref mo) :: (.ref po) :: (.ref nu) :: (.ref pr) :: (.ref sq) :: (.ref xa) :: (.ref sa) :: (.ref n64) :: (.ref m64) :: (.ref ex) :: (.ref wh) :: (.ref sd) :: (.ref tk) :: (.int v52_424) :: (.int v53_425) :: (.int v54_426) :: (.ref hd) :: (.ref ak) :: (.ref ho) :: (.ref ot) :: []) := (hB1.2.2.2 h0 (by rw [hT_h0]; simp)).trans hF_427
        generalize H1 = H at hP hS ⊢
        refine lv_iinc (v := (nI (j + 1))) (lv' := [(6, .int (nI (j + 1))), (0, .ref h0), (1, .int (nI jf)), (2, .int x2)]) hx hb dX15_sealOf_186 hl (k := 0) rfl (nI_1 _) (by decide) rfl (fun ls hl => ?_)
        refine lv_goto (tgt := 164) hx hb dX15_sealOf_189 (by decide) ?_
        refine W.widen (k := 0) (n := 0) (by omega) (by omega) ?_
        exact ih_248 (j + 1) F_437 (⟨by omega, hF_441, hF_442, hF_443, hF_444, hF_445, hF_446, hq_438⟩) (by show 12 - (j + 1) < 12 - j; omega) hO hR _ _ hP hD hS ls (lv_sub hl [0, 1, 2, 3] rfl)
    ·
      refine lv_iload hx hb dX15_sealOf_109 (lv_at hl 0 rfl) ?_
      refine lv_if_lt (tgt := 122) hx hb dX15_sealOf_111 (by decide) (fun c_448 => ?_) (fun c_448 => ?_)
      ·
        refine W.widen (k := 0) (n := 0) (by omega) (by omega) ?_
        exact jn_187 () F_176 (⟨hF_181, hF_182, hF_183, hF_184, hF_185, hq_177⟩) hO hR _ _ hP hD hS ls (lv_sub hl [1, 3, 4, 5] rfl)
      ·
        refine lv_iload_n hx hb dX15_sealOf_114 rfl (lv_at hl 5 rfl) ?_
        refine lv_iload hx hb dX15_sealOf_115 (lv_at hl 0 rfl) ?_
        refine lv_icmp_le (tgt := 122) hx hb dX15_sealOf_117 (by decide) (fun c_449 => ?_) (fun c_449 => ?_)
        ·
          refine W.widen (k := 0) (n := 0) (by omega) (by omega) ?_
          exact jn_187 () F_176 (⟨hF_181, hF_182, hF_183, hF_184, hF_185, hq_177⟩) hO hR _ _ hP hD hS ls (lv_sub hl [1, 3, 4, 5] rfl)
        ·
          refine lv_iconst (v := 3) hx hb dX15_sealOf_120 (by decide) ?_
          refine W.widen (k := 0) (n := 0) (by omega) (by omega) ?_
          exact W.iret (v := 3) hx hb hr (fun t ht hWm => ⟨⟨3, (), rfl, trivial, ⟨F_176, QTm.mk ht hP hD hO hR⟩⟩, hS.F ht⟩) hS.2.2 dX15_sealOf_121
  ·
    refine lv_iconst (v := 1) hx hb dX15_sealOf_35 (by decide) ?_
    refine W.widen (k := 0) (n := 0) (by omega) (by omega) ?_
    exact W.iret (v := 1) hx hb hr (fun t ht hWm => ⟨⟨1, (), rfl, trivial, ⟨F_104, QTm.mk ht hP hD hO hR⟩⟩, hS.F ht⟩) hS.2.2 dX15_sealOf_36
set_option maxHeartbeats 4000000 in
set_option maxRecDepth 100000 in
theorem s_X15_sealed (l : Launch) (dC : Nat → ClassId) (dI : Nat → Nat → Nat) (cs : Nat → ClassId) (ty : TyM) (gm : Nat → Nat → Nat) (L : List Nat) (sz : Nat) (F : Nat → va_E) (h0 : Nat) (ρ : Nat) (ta : Nat) (ou : Nat) (so : Nat) (ad : Nat) (na : Nat) (va : Nat) (lc : Nat) (dm : Nat) (tg : Nat) (pe : Nat) (ml : Nat) (bg : Nat) (co : Nat) (sp : Nat) (nb0 : Nat) (nb1 : Nat) (nb2 : Nat) (pl : Nat) (se : Nat) (ke : Nat) (wi : Nat) (hs : Nat) (mo : Nat) (po : Nat) (nu : Nat) (pr : Nat) (sq : Nat) (xa : Nat) (sa : Nat) (n64 : Nat) (m64 : Nat) (ex : Nat) (wh : Nat) (sd : Nat) (tk : Nat) (hd : Nat) (ak : Nat) (ho : Nat) (ot : Nat) (sx : Nat) (s0 : Nat) (s1 : Nat) (s2 : Nat) (nf : Nat) (bd : Nat) (mm : Nat) (ze : Nat) (zt : Nat) (sb : Nat) (rl : Nat) (x1 : Int32) (x2 : Int32) (hW : WTm ty gm L) (hL_h0 : h0 ∈ L) (hT_h0 : ty h0 = (15, ρ, [ta, ou, so, ad, na, va, lc, dm, tg, pe, ml, bg, co, sp, nb0, nb1, nb2, pl, se, ke, wi, hs, mo, po, nu, pr, sq, xa, sa, n64, m64, ex, wh, sd, tk, hd, ak, ho, ot, sx, s0, s1, s2, nf, bd, mm, ze, zt])) (hL_sx : sx ∈ L) (hT_sx : ty sx = (14, ρ + 12, [sb, 3000])) (hL_pl : pl ∈ L) (hT_pl : ty pl = (14, ρ + 10, [rl, 6000])) : Met l yX15_sealed (.code yX15_sealed cX15_sealed 4 (some .int) :: tb) ({ frames := 9, cells := 0, slots := 0, locals := 213 }) (va_Pc [.ref h0, .int x1, .int x2] (PTEm (dC, dI) cs ty gm L F sz [])) (va_Qi (fun (r : Int32) (_ : Unit) => True) (fun _ T9 => ∃ F2 : Nat → va_E, QTm (dC, dI) cs ty gm L [ρ, ρ + 10, ρ + 11, ρ + 12, ρ + 13, ρ + 14, ρ + 17, ρ + 18, ρ + 19, ρ + 20, ρ + 21, ρ + 22, ρ + 23, ρ + 24, ρ + 25, ρ + 26] F F2 (va_A (va_pl L F) sz) T9) (va_A (va_pl L F) sz)) 0 0 (va_A (va_pl L F) sz) := by
  refine Met.ofW (cc := cX15_sealed) (maxL := 4) (ret := (some .int)) (by decide) rfl ?_
  intro p e s m args below meth c s₁ B hml hv
  obtain ⟨rfl, ⟨hsz, hP, hK, hD0, hE, hO⟩, hG, hX⟩ := hv
  have hx := B.exec
  have hb := B.bytes
  have hr := B.returns
  have hts : ∀ w ∈ tb, w.before _ s = true := fun w h => atoms_spec (ws := .code yX15_sealed cX15_sealed 4 (some .int) :: tb) B.pre w (List.mem_cons_of_mem _ h)
  have hown : s.vm.findClass RX15 = some m.cls := findClass_of_methodNamed B.named
  have hlocks := B.notSynchronized
  subst hsz
  have hD := hD0.self (sz := s.heap.size)
  generalize hAe : va_A (va_pl L F) s.heap.size = A at hD hG hX ⊢
  have hA : ∀ q : Nat, s.heap.size ≤ q → A q := fun q h => by rw [← hAe]; exact Or.inr h
  have hS : va_S A s.heap s.heap [] := va_S.rf
  have hR : FR ty [ρ, ρ + 10, ρ + 11, ρ + 12, ρ + 13, ρ + 14, ρ + 17, ρ + 18, ρ + 19, ρ + 20, ρ + 21, ρ + 22, ρ + 23, ρ + 24, ρ + 25, ρ + 26] F F := FR.refl
  have hl := lv_entry ([.ref h0, .int x1, .int x2]) (n := 4) (Nat.le_of_ble_eq_true rfl)
  rw [lg_entry_eq]
  generalize (lg_sl ([.ref h0, .int x1, .int x2]) ++ List.replicate (4 - (lg_sl ([.ref h0, .int x1, .int x2])).length) Slot.unset).toArray = ls at hl ⊢
  have hl : lv_has ls 4 [(0, .ref h0), (1, .int x1), (2, .int x2)] := hl
  obtain ⟨hq_22, hq_23, hq_24, hq_25, hq_26, hgO, hgA, hgB⟩ := hW.sc hL_h0 hT_h0
  obtain ⟨hi_27, ht_28⟩ := hW.f_se hL_h0 hT_h0
  obtain ⟨_, hi_29, hi_30, hi_31, _, ht_32, ht_33, ht_34, hq_35, hq_36⟩ := hW.tags hi_27 ht_28
  obtain ⟨hi_37, ht_38, hq_39⟩ := hW.txt hL_sx hT_sx
  obtain ⟨hi_40, ht_41, hq_42⟩ := hW.txt hL_pl hT_pl
  refine lv_iload_n hx hb dX15_sealed_0 rfl (lv_at hl 2 rfl) ?_
  refine lv_if_ge (tgt := 6) hx hb dX15_sealed_1 (by decide) (fun c_43 => ?_) (fun c_43 => ?_)
  ·
    refine lv_aload_n hx hb dX15_sealed_6 rfl (lv_at hl 0 rfl) ?_
    refine lv_iload_n hx hb dX15_sealed_7 rfl (lv_at hl 1 rfl) ?_
    have hFc := pg_free hD hS hA
    obtain ⟨zo_44, v11_45, v12_46, v14_47, v15_48, v17_49, v18_50, v19_51, v20_52, v21_53, v22_54, v33_55, v52_56, v53_57, v54_58, hF_59, hq_60, hq_61, hq_62, hq_63⟩ := hO.mod hL_h0 hT_h0
    refine va_calli (va_runV (As := [.int x1]) (rest := []) ⟨hx, hb, hml, hown, hts⟩ (s_X15_sealAt l dC dI cs ty gm L s.heap.size F h0 ρ ta ou so ad na va lc dm tg pe ml bg co sp nb0 nb1 nb2 pl se ke wi hs mo po nu pr sq xa sa n64 m64 ex wh sd tk hd ak ho ot sx s0 s1 s2 nf bd mm ze zt x1 hW hL_h0 hT_h0) ⟨callB_of 1 hts (gi kt_1037) rfl rfl rfl (hts _ kt_669) (hts _ kt_1038) (by decide +kernel) ⟨Nat.le_of_ble_eq_true rfl, Nat.le_of_ble_eq_true rfl⟩, (hts _ kt_1039), (hts _ kt_1040)⟩ ⟨fun a U g mk q => ⟨q.1, PTEm.calling q.2⟩, pg_recv hK hP hL_h0 hF_59 (q := (RX15, TX15, 59)) rfl, fun U hU hWm => ⟨rfl, PTEm.mk hU hWm hP hK hD hE hO hG (fun x hx => absurd hx List.not_mem_nil) hS hFc⟩⟩ rfl rfl hl.1 rfl (lv_room (Nat.le_of_ble_eq_true rfl)) dX15_sealed_8 ⟨by show _ + 0 ≤ 0; omega, by show _ + 0 ≤ 0; omega⟩) hS (fun q _ h => hFc q h) hFc (fun r_64 u t H1 locs ht hvm hw hB hz1 hk1 hS => ?_)
    obtain ⟨F_65, hB1⟩ := hB
    obtain rfl : F = F_65 := (funext (fun a => hB1.2.2.2 a List.not_mem_nil)).symm
    obtain ⟨hP, hD, hO, hR⟩ := QTm.back hB1 ht hFc hR (fun q h => absurd h List.not_mem_nil)
    generalize H1 = H at hP hS ⊢
    have hw : (r_64 = (-1) ∨ ∃ j : Nat, j < nf ∧ r_64 = nI j) := hw
    have hw_66 := hw
    refine lv_istore_n (lv' := [(3, .int r_64), (0, .ref h0), (1, .int x1), (2, .int x2)]) hx hb dX15_sealed_11 rfl hl (by decide) rfl (fun ls hl => ?_)
    refine lv_iload_n hx hb dX15_sealed_12 rfl (lv_at hl 0 rfl) ?_
    refine lv_if_ge (tgt := 21) hx hb dX15_sealed_13 (by decide) (fun c_67 => ?_) (fun c_67 => ?_)
    ·
      obtain ⟨jf, hjf, ej⟩ := rowB hw_66 c_67
      subst ej
      refine lv_aload_n hx hb dX15_sealed_21 rfl (lv_at hl 1 rfl) ?_
      refine lv_iload_n hx hb dX15_sealed_22 rfl (lv_at hl 0 rfl) ?_
      refine lv_iload_n hx hb dX15_sealed_23 rfl (lv_at hl 3 rfl) ?_
      have hFc := pg_free hD hS hA
      refine va_calli (va_runV (As := [.int (nI jf), .int x2]) (rest := []) ⟨hx, hb, hml, hown, hts⟩ (s_X15_sealOf l dC dI cs ty gm L H.size F h0 ρ ta ou so ad na va lc dm tg pe ml bg co sp nb0 nb1 nb2 pl se ke wi hs mo po nu pr sq xa sa n64 m64 ex wh sd tk hd ak ho ot sx s0 s1 s2 nf bd mm ze zt sb rl jf x2 hW hL_h0 hT_h0 hL_sx hT_sx hL_pl hT_pl (by first | omega | assumption)) ⟨callB_of 2 hts (gi kt_1041) rfl rfl rfl (hts _ kt_669) (hts _ kt_1042) (by decide +kernel) ⟨Nat.le_of_ble_eq_true rfl, Nat.le_of_ble_eq_true rfl⟩, (hts _ kt_1043), (hts _ kt_1044)⟩ ⟨fun a U g mk q => ⟨q.1, PTEm.calling q.2⟩, pg_recv hK hP hL_h0 hF_59 (q := (RX15, TX15, 59)) rfl, fun U hU hWm => ⟨rfl, PTEm.mk hU hWm hP hK hD hE hO hG (fun x hx => absurd hx List.not_mem_nil) hS hFc⟩⟩ rfl rfl hl.1 rfl (lv_room (Nat.le_of_ble_eq_true rfl)) dX15_sealed_24 ⟨by show _ + 0 ≤ 0; omega, by show _ + 0 ≤ 0; omega⟩) hS (fun q _ h => hFc q h) hFc (fun r_68 u t H1 locs ht hvm hw hB hz1 hk1 hS => ?_)
      obtain ⟨F_69, hB1⟩ := hB
      obtain ⟨hP, hD, hO, hR⟩ := QTm.back hB1 ht hFc hR (fun q h => by simp only [List.mem_cons, List.not_mem_nil, or_false] at h ⊢; omega)
      generalize H1 = H at hP hS ⊢
      have hw : True := hw
      have hw_70 := hw
      refine W.widen (k := 0) (n := 0) (by omega) (by omega) ?_
      exact W.iret (v := r_68) hx hb hr (fun t ht hWm => ⟨⟨r_68, (), rfl, trivial, ⟨F_69, QTm.mk ht hP hD hO hR⟩⟩, hS.F ht⟩) hS.2.2 dX15_sealed_27
    ·
      refine lv_bipush (v := (-2)) hx hb dX15_sealed_16 (by decide) ?_
      refine lv_goto (tgt := 27) hx hb dX15_sealed_18 (by decide) ?_
      refine W.widen (k := 0) (n := 0) (by omega) (by omega) ?_
      exact W.iret (v := (-2)) hx hb hr (fun t ht hWm => ⟨⟨(-2), (), rfl, trivial, ⟨F, QTm.mk ht hP hD hO hR⟩⟩, hS.F ht⟩) hS.2.2 dX15_sealed_27
  ·
    refine lv_iconst (v := (-1)) hx hb dX15_sealed_4 (by decide) ?_
    refine W.widen (k := 0) (n := 0) (by omega) (by omega) ?_
    exact W.iret (v := (-1)) hx hb hr (fun t ht hWm => ⟨⟨(-1), (), rfl, trivial, ⟨F, QTm.mk ht hP hD hO hR⟩⟩, hS.F ht⟩) hS.2.2 dX15_sealed_5
set_option maxHeartbeats 4000000 in
set_option maxRecDepth 100000 in
theorem s_X15_isSeen (l : Launch) (dC : Nat → ClassId) (dI : Nat → Nat → Nat) (cs : Nat → ClassId) (ty : TyM) (gm : Nat → Nat → Nat) (L : List Nat) (sz : Nat) (F : Nat → va_E) (h0 : Nat) (ρ : Nat) (ta : Nat) (ou : Nat) (so : Nat) (ad : Nat) (na : Nat) (va : Nat) (lc : Nat) (dm : Nat) (tg : Nat) (pe : Nat) (ml : Nat) (bg : Nat) (co : Nat) (sp : Nat) (nb0 : Nat) (nb1 : Nat) (nb2 : Nat) (pl : Nat) (se : Nat) (ke : Nat) (wi : Nat) (hs : Nat) (mo : Nat) (po : Nat) (nu : Nat) (pr : Nat) (sq : Nat) (xa : Nat) (sa : Nat) (n64 : Nat) (m64 : Nat) (ex : Nat) (wh : Nat) (sd : Nat) (tk : Nat) (hd : Nat) (ak : Nat) (ho : Nat) (ot : Nat) (sx : Nat) (s0 : Nat) (s1 : Nat) (s2 : Nat) (nf : Nat) (bd : Nat) (mm : Nat) (ze : Nat) (zt : Nat) (rak : Nat) (hW : WTm ty gm L) (hL_h0 : h0 ∈ L) (hT_h0 : ty h0 = (15, ρ, [ta, ou, so, ad, na, va, lc, dm, tg, pe, ml, bg, co, sp, nb0, nb1, nb2, pl, se, ke, wi, hs, mo, po, nu, pr, sq, xa, sa, n64, m64, ex, wh, sd, tk, hd, ak, ho, ot, sx, s0, s1, s2, nf, bd, mm, ze, zt])) (hL_ak : ak ∈ L) (hT_ak : ty ak = (14, ρ + 28, [rak, 6000])) : Met l yX15_isSeen (.code yX15_isSeen cX15_isSeen 4 (some .boolean) :: tb) ({ frames := 6, cells := 0, slots := 0, locals := 131 }) (va_Pc [.ref h0] (PTEm (dC, dI) cs ty gm L F sz [])) (va_Qi (fun (r : Int32) (wr : Int32) => (r = wr ∧ (r = 0 ∨ r = 1))) (fun (wr : Int32) T9 => ∃ F2 : Nat → va_E, ∃ za : Nat, QTm (dC, dI) cs ty gm L [ρ + 28] F F2 (va_A (va_pl L F) sz) T9 ∧ F2 ak = .inr (14, [.ref rak, .int (nI za)]) ∧ (wr = 1 → za ≤ 60)) (va_A (va_pl L F) sz)) 0 0 (va_A (va_pl L F) sz) := by
  refine Met.ofW (cc := cX15_isSeen) (maxL := 4) (ret := (some .boolean)) (by decide) rfl ?_
  intro p e s m args below meth c s₁ B hml hv
  obtain ⟨rfl, ⟨hsz, hP, hK, hD0, hE, hO⟩, hG, hX⟩ := hv
  have hx := B.exec
  have hb := B.bytes
  have hr := B.returns
  have hts : ∀ w ∈ tb, w.before _ s = true := fun w h => atoms_spec (ws := .code yX15_isSeen cX15_isSeen 4 (some .boolean) :: tb) B.pre w (List.mem_cons_of_mem _ h)
  have hown : s.vm.findClass RX15 = some m.cls := findClass_of_methodNamed B.named
  have hlocks := B.notSynchronized
  subst hsz
  have hD := hD0.self (sz := s.heap.size)
  generalize hAe : va_A (va_pl L F) s.heap.size = A at hD hG hX ⊢
  have hA : ∀ q : Nat, s.heap.size ≤ q → A q := fun q h => by rw [← hAe]; exact Or.inr h
  have hS : va_S A s.heap s.heap [] := va_S.rf
  have hR : FR ty [ρ + 28] F F := FR.refl
  have hl := lv_entry ([.ref h0]) (n := 4) (Nat.le_of_ble_eq_true rfl)
  rw [lg_entry_eq]
  generalize (lg_sl ([.ref h0]) ++ List.replicate (4 - (lg_sl ([.ref h0])).length) Slot.unset).toArray = ls at hl ⊢
  have hl : lv_has ls 4 [(0, .ref h0)] := hl
  obtain ⟨hq_22, hq_23, hq_24, hq_25, hq_26, hgO, hgA, hgB⟩ := hW.sc hL_h0 hT_h0
  obtain ⟨hi_27, ht_28, hq_29⟩ := hW.txt hL_ak hT_ak
  refine lv_iconst (v := (-1)) hx hb dX15_isSeen_0 (by decide) ?_
  refine lv_istore_n (lv' := [(1, .int (-1)), (0, .ref h0)]) hx hb dX15_isSeen_1 rfl hl (by decide) rfl (fun ls hl => ?_)
  refine lv_iconst (v := 0) hx hb dX15_isSeen_2 (by decide) ?_
  refine lv_istore_n (lv' := [(2, .int 0), (1, .int (-1)), (0, .ref h0)]) hx hb dX15_isSeen_3 rfl hl (by decide) rfl (fun ls hl => ?_)
  refine W.widen (k := 0) (n := 0) (by omega) (by omega) ?_
  refine pl_loopm (σ := Nat × Int32) A (dC, dI) cs ty gm L [ρ + 28] F 4 4 (fun (j, w1) => [(2, .int (nI j)), (1, .int w1), (0, .ref h0)]) (fun (j, w1) => []) (fun (j, w1) _ => j ≤ nf ∧ (w1 = (-1) ∨ ∃ i : Nat, i < nf ∧ w1 = nI i)) (fun (j, w1) => nf - j) ?_ (0, (-1)) F (⟨by omega, Or.inl rfl⟩) hO hR _ _ hP hD hS ls (lv_sub hl [0, 1, 2] rfl)
  rintro ⟨j, w1⟩ F_30 hv_31 hO hR ih_32 H locs hP hD hS ls hl
  have hl : lv_has ls 4 [(2, .int (nI j)), (1, .int w1), (0, .ref h0)] := hl
  have hv_31 : j ≤ nf ∧ (w1 = (-1) ∨ ∃ i : Nat, i < nf ∧ w1 = nI i) := hv_31
  refine W.eq (g2 := F0 m 4 ls []) rfl ?_
  obtain ⟨hv1, hv2⟩ := hv_31
  refine lv_iload_n hx hb dX15_isSeen_4 rfl (lv_at hl 0 rfl) ?_
  refine lv_aload_n hx hb dX15_isSeen_5 rfl (lv_at hl 2 rfl) ?_
  obtain ⟨zo_33, v11_34, v12_35, v14_36, v15_37, v17_38, v18_39, v19_40, v20_41, v21_42, v22_43, v33_44, v52_45, v53_46, v54_47, hF_48, hq_49, hq_50, hq_51, hq_52⟩ := hO.mod hL_h0 hT_h0
  refine pg_get (ci := 15) (v := .int (nI nf)) (C := RX15) (T := TX15) (N := 59) hx hb hts it_15 hown hK hP hL_h0 hF_48 rfl 30 (by decide) (hts _ kt_907) (fun _ h9 => h9) rfl dX15_isSeen_6 ?_
  refine lv_icmp_ge (tgt := 40) hx hb dX15_isSeen_9 (by decide) (fun c_53 => ?_) (fun c_53 => ?_)
  ·
    have hi_54 : nf ≤ j := leN (N := nf) c_53
    refine lv_iload_n hx hb dX15_isSeen_40 rfl (lv_at hl 1 rfl) ?_
    refine lv_if_ge (tgt := 46) hx hb dX15_isSeen_41 (by decide) (fun c_55 => ?_) (fun c_55 => ?_)
    ·
      obtain ⟨jf, hjf, ej⟩ := rowB hv2 c_55
      subst ej
      have hoj := hgO jf hjf
      refine lv_aload_n hx hb dX15_isSeen_46 rfl (lv_at hl 2 rfl) ?_
      refine pg_get (ci := 15) (v := .ref sp) (C := RX15) (T := TX15) (N := 59) hx hb hts it_15 hown hK hP hL_h0 hF_48 rfl 26 (by decide) (hts _ kt_905) (fun _ h9 => h9) rfl dX15_isSeen_47 ?_
      refine lv_iload_n hx hb dX15_isSeen_50 rfl (lv_at hl 1 rfl) ?_
      obtain ⟨hi_56, ht_57⟩ := hW.f_sp hL_h0 hT_h0
      obtain ⟨f_58, hF_59, hq_60⟩ := hO.pos hi_56 ht_57
      refine pg_iald hx hb hK hP hi_56 0 hF_59 rfl (vp_in_nI (by omega) (by omega)) dX15_isSeen_51 ?_
      refine lv_topi (fun x_61 ex_61 => ?_)
      obtain rfl : x_61 = (nI (gm 2 jf)) := ex_61.trans (by rw [show ((nI jf) : Int32) = nI jf from rfl, nI_clamp (by omega)]; exact hq_60 jf (by omega))
      have hgbx_61 := hgB 2 jf
      refine lv_iconst (v := 1) hx hb dX15_isSeen_52 (by decide) ?_
      refine lv_isub hx hb dX15_isSeen_53 ?_
      refine lv_topi (fun x_62 ex_62 => ?_)
      obtain rfl : x_62 = (nI ((gm 2 jf) - 1)) := ex_62.trans (pk_sub (a := (gm 2 jf)) (b := 1) (by omega))
      refine lv_istore_n (lv' := [(2, .int (nI ((gm 2 jf) - 1))), (1, .int (nI jf)), (0, .ref h0)]) hx hb dX15_isSeen_54 rfl hl (by decide) rfl (fun ls hl => ?_)
      refine W.widen (k := 0) (n := 0) (by omega) (by omega) ?_
      have hF_64 : F h0 = .inr (15, (.ref ta) :: (.int (nI zt)) :: (.int (nI zo_33)) :: (.int (nI ze)) :: (.ref ou) :: (.ref so) :: (.ref ad) :: (.ref na) :: (.ref va) :: (.ref lc) :: (.ref dm) :: (.int v11_34) :: (.int v12_35) :: (.ref tg) :: (.int v14_36) :: (.int v15_37) :: (.ref pe) :: (.int v17_38) :: (.int v18_39) :: (.int v19_40) :: (.int v20_41) :: (.int v21_42) :: (.int v22_43) :: (.ref ml) :: (.ref bg) :: (.ref co) :: (.ref sp) :: (.ref nb0) :: (.ref nb1) :: (.ref nb2) :: (.int (nI nf)) :: (.int (nI bd)) :: (.int (nI mm)) :: (.int v33_44) :: (.ref pl) :: (.ref se) :: (.ref ke) :: (.ref wi) :: (.ref hs) :: (.ref mo) :: (.ref po) :: (.ref nu) :: (.ref pr) :: (.ref sq) :: (.ref xa) :: (.ref sa) :: (.ref n64) :: (.ref m64) :: (.ref ex) :: (.ref wh) :: (.ref sd) :: (.ref tk) :: (.int v52_45) :: (.int v53_46) :: (.int v54_47) :: (.ref hd) :: (.ref ak) :: (.ref ho) :: (.ref ot) :: []) := (hR h0 (by rw [hT_h0]; simp)).symm.trans hF_48
      have hF_65 : F sp = .inl (cs 16, 21, .inl f_58) := (hR sp (by rw [ht_57]; simp)).symm.trans hF_59
      refine pl_loopm (σ := Nat) A (dC, dI) cs ty gm L [ρ + 28] F 55 4 (fun k => [(2, .int (nI k)), (1, .int (nI jf)), (0, .ref h0)]) (fun k => []) (fun k _ => gm 1 jf ≤ k ∧ k < gm 2 jf) (fun k => k) ?_ ((gm 2 jf) - 1) F_30 (⟨by omega, by omega⟩) hO hR _ _ hP hD hS ls (lv_sub hl [0, 1, 2] rfl)
      rintro k F_63 hv_66 hO hR ih_67 H locs hP hD hS ls hl
      have hl : lv_has ls 4 [(2, .int (nI k)), (1, .int (nI jf)), (0, .ref h0)] := hl
      have hv_66 : gm 1 jf ≤ k ∧ k < gm 2 jf := hv_66
      refine W.eq (g2 := F0 m 55 ls []) rfl ?_
      have hF_68 : F_63 h0 = .inr (15, (.ref ta) :: (.int (nI zt)) :: (.int (nI zo_33)) :: (.int (nI ze)) :: (.ref ou) :: (.ref so) :: (.ref ad) :: (.ref na) :: (.ref va) :: (.ref lc) :: (.ref dm) :: (.int v11_34) :: (.int v12_35) :: (.ref tg) :: (.int v14_36) :: (.int v15_37) :: (.ref pe) :: (.int v17_38) :: (.int v18_39) :: (.int v19_40) :: (.int v20_41) :: (.int v21_42) :: (.int v22_43) :: (.ref ml) :: (.ref bg) :: (.ref co) :: (.ref sp) :: (.ref nb0) :: (.ref nb1) :: (.ref nb2) :: (.int (nI nf)) :: (.int (nI bd)) :: (.int (nI mm)) :: (.int v33_44) :: (.ref pl) :: (.ref se) :: (.ref ke) :: (.ref wi) :: (.ref hs) :: (.ref mo) :: (.ref po) :: (.ref nu) :: (.ref pr) :: (.ref sq) :: (.ref xa) :: (.ref sa) :: (.ref n64) :: (.ref m64) :: (.ref ex) :: (.ref wh) :: (.ref sd) :: (.ref tk) :: (.int v52_45) :: (.int v53_46) :: (.int v54_47) :: (.ref hd) :: (.ref ak) :: (.ref ho) :: (.ref ot) :: []) := (hR h0 (by rw [hT_h0]; simp)).trans hF_64
      have hF_69 : F_63 sp = .inl (cs 16, 21, .inl f_58) := (hR sp (by rw [ht_57]; simp)).trans hF_65
      obtain ⟨hk1a, hk2a⟩ := hv_66
      refine lv_iload_n hx hb dX15_isSeen_55 rfl (lv_at hl 0 rfl) ?_
      refine lv_aload_n hx hb dX15_isSeen_56 rfl (lv_at hl 2 rfl) ?_
      refine pg_get (ci := 15) (v := .ref co) (C := RX15) (T := TX15) (N := 59) hx hb hts it_15 hown hK hP hL_h0 hF_68 rfl 25 (by decide) (hts _ kt_904) (fun _ h9 => h9) rfl dX15_isSeen_57 ?_
      refine lv_iload_n hx hb dX15_isSeen_60 rfl (lv_at hl 1 rfl) ?_
      obtain ⟨hi_70, ht_71⟩ := hW.f_co hL_h0 hT_h0
      obtain ⟨f_72, hF_73, hq_74⟩ := hO.pos hi_70 ht_71
      refine pg_iald hx hb hK hP hi_70 0 hF_73 rfl (vp_in_nI (by omega) (by omega)) dX15_isSeen_61 ?_
      refine lv_topi (fun x_75 ex_75 => ?_)
      obtain rfl : x_75 = (nI (gm 1 jf)) := ex_75.trans (by rw [show ((nI jf) : Int32) = nI jf from rfl, nI_clamp (by omega)]; exact hq_74 jf (by omega))
      have hgbx_75 := hgB 1 jf
      refine lv_icmp_le (tgt := 82) hx hb dX15_isSeen_62 (by decide) (fun c_76 => ?_) (fun c_76 => ?_)
      ·
        have hi_77 : k ≤ (gm 1 jf) := (nI_leI (a := k) (b := (gm 1 jf)) (by omega) (by omega)).mp c_76
        refine lv_iload_n hx hb dX15_isSeen_82 rfl (lv_at hl 0 rfl) ?_
        refine lv_aload_n hx hb dX15_isSeen_83 rfl (lv_at hl 2 rfl) ?_
        refine pg_get (ci := 15) (v := .ref co) (C := RX15) (T := TX15) (N := 59) hx hb hts it_15 hown hK hP hL_h0 hF_68 rfl 25 (by decide) (hts _ kt_904) (fun _ h9 => h9) rfl dX15_isSeen_84 ?_
        refine lv_iload_n hx hb dX15_isSeen_87 rfl (lv_at hl 1 rfl) ?_
        refine pg_iald hx hb hK hP hi_70 0 hF_73 rfl (vp_in_nI (by omega) (by omega)) dX15_isSeen_88 ?_
        refine lv_topi (fun x_78 ex_78 => ?_)
        obtain rfl : x_78 = (nI (gm 1 jf)) := ex_78.trans (by rw [show ((nI jf) : Int32) = nI jf from rfl, nI_clamp (by omega)]; exact hq_74 jf (by omega))
        have hgbx_78 := hgB 1 jf
        refine lv_icmp_ne (tgt := 94) hx hb dX15_isSeen_89 (by decide) (fun c_79 => ?_) (fun c_79 => ?_)
        ·
          have hi_80 : k ≠ (gm 1 jf) := fun q => c_79 (by rw [q])
          refine lv_aload_n hx hb dX15_isSeen_94 rfl (lv_at hl 2 rfl) ?_
          refine pg_get (ci := 15) (v := .ref ak) (C := RX15) (T := TX15) (N := 59) hx hb hts it_15 hown hK hP hL_h0 hF_68 rfl 56 (by decide) (hts _ kt_1045) (fun _ h9 => h9) rfl dX15_isSeen_95 ?_
          refine lv_iconst (v := 0) hx hb dX15_isSeen_98 (by decide) ?_
          obtain ⟨z_81, hF_82, hq_83⟩ := hO.txt hL_ak hT_ak
          refine pg_put (ci := 14) (v := .int 0) (ty := .int) (C := RX14) (T := TX14) (N := 2) hx hb hts it_14 tyX14 tyX14_ok nmX14 hown hK hP hD hS hL_ak hF_82 rfl 1 (by decide) (hts _ kt_709) (fun _ h9 => h9) rfl (by decide +kernel) (rfl) (rfl) (Nat.le_of_ble_eq_true rfl) dX15_isSeen_99 (fun H locs hP hD hS => ?_)
          obtain ⟨F_84, he_85, hP, hD, hO, hR⟩ : ∃ G, G = va_up F_63 ak (.inr (14, [.ref rak, .int 0])) ∧ va_P (dC, dI) vwCl (va_pl L G) H ∧ va_D A (va_pl L G) ∧ OKm cs ty gm L G ∧ FR ty [ρ + 28] F G := ⟨_, rfl, hP, hD, hO.up (shm.txt hT_ak ⟨0, rfl, (by first | omega | assumption | exact Or.inl rfl | exact Or.inr rfl)⟩), hR.up hT_ak (by simp)⟩
          have hF_86 : F_84 ak = .inr (14, [.ref rak, .int 0]) := by rw [he_85]; exact up_self
          have hF_87 : F_84 h0 = .inr (15, (.ref ta) :: (.int (nI zt)) :: (.int (nI zo_33)) :: (.int (nI ze)) :: (.ref ou) :: (.ref so) :: (.ref ad) :: (.ref na) :: (.ref va) :: (.ref lc) :: (.ref dm) :: (.int v11_34) :: (.int v12_35) :: (.ref tg) :: (.int v14_36) :: (.int v15_37) :: (.ref pe) :: (.int v17_38) :: (.int v18_39) :: (.int v19_40) :: (.int v20_41) :: (.int v21_42) :: (.int v22_43) :: (.ref ml) :: (.ref bg) :: (.ref co) :: (.ref sp) :: (.ref nb0) :: (.ref nb1) :: (.ref nb2) :: (.int (nI nf)) :: (.int (nI bd)) :: (.int (nI mm)) :: (.int v33_44) :: (.ref pl) :: (.ref se) :: (.ref ke) :: (.ref wi) :: (.ref hs) :: (.ref mo) :: (.ref po) :: (.ref nu) :: (.ref pr) :: (.ref sq) :: (.ref xa) :: (.ref sa) :: (.ref n64) :: (.ref m64) :: (.ref ex) :: (.ref wh) :: (.ref sd) :: (.ref tk) :: (.int v52_45) :: (.int v53_46) :: (.int v54_47) :: (.ref hd) :: (.ref ak) :: (.ref ho) :: (.ref ot) :: []) := by rw [he_85, up_ne (ne_ty hT_h0 hT_ak (by simp))]; exact hF_68
          have hF_88 : F_84 sp = .inl (cs 16, 21, .inl f_58) := by rw [he_85, up_ne (ne_ty ht_57 hT_ak (by simp))]; exact hF_69
          have hF_89 : F_84 co = .inl (cs 16, 21, .inl f_72) := by rw [he_85, up_ne (ne_ty ht_71 hT_ak (by simp))]; exact hF_73
          refine lv_iload_n hx hb dX15_isSeen_102 rfl (lv_at hl 0 rfl) ?_
          refine lv_iconst (v := 1) hx hb dX15_isSeen_103 (by decide) ?_
          refine lv_iadd hx hb dX15_isSeen_104 ?_
          refine lv_topi (fun x_90 ex_90 => ?_)
          obtain rfl : x_90 = (nI (k + 1)) := ex_90.trans (nI_add k 1)
          refine lv_istore_n (lv' := [(3, .int (nI (k + 1))), (2, .int (nI k)), (1, .int (nI jf)), (0, .ref h0)]) hx hb dX15_isSeen_105 rfl hl (by decide) rfl (fun ls hl => ?_)
          refine W.widen (k := 0) (n := 0) (by omega) (by omega) ?_
          have hF_92 : F h0 = .inr (15, (.ref ta) :: (.int (nI zt)) :: (.int (nI zo_33)) :: (.int (nI ze)) :: (.ref ou) :: (.ref so) :: (.ref ad) :: (.ref na) :: (.ref va) :: (.ref lc) :: (.ref dm) :: (.int v11_34) :: (.int v12_35) :: (.ref tg) :: (.int v14_36) :: (.int v15_37) :: (.ref pe) :: (.int v17_38) :: (.int v18_39) :: (.int v19_40) :: (.int v20_41) :: (.int v21_42) :: (.int v22_43) :: (.ref ml) :: (.ref bg) :: (.ref co) :: (.ref sp) :: (.ref nb0) :: (.ref nb1) :: (.ref nb2) :: (.int (nI nf)) :: (.int (nI bd)) :: (.int (nI mm)) :: (.int v33_44) :: (.ref pl) :: (.ref se) :: (.ref ke) :: (.ref wi) :: (.ref hs) :: (.ref mo) :: (.ref po) :: (.ref nu) :: (.ref pr) :: (.ref sq) :: (.ref xa) :: (.ref sa) :: (.ref n64) :: (.ref m64) :: (.ref ex) :: (.ref wh) :: (.ref sd) :: (.ref tk) :: (.int v52_45) :: (.int v53_46) :: (.int v54_47) :: (.ref hd) :: (.ref ak) :: (.ref ho) :: (.ref ot) :: []) := (hR h0 (by rw [hT_h0]; simp)).symm.trans hF_87
          have hF_93 : F sp = .inl (cs 16, 21, .inl f_58) := (hR sp (by rw [ht_57]; simp)).symm.trans hF_88
          have hF_94 : F co = .inl (cs 16, 21, .inl f_72) := (hR co (by rw [ht_71]; simp)).symm.trans hF_89
          refine pl_loopm (σ := Nat × Nat) A (dC, dI) cs ty gm L [ρ + 28] F 106 4 (fun (i, zz) => [(3, .int (nI i)), (2, .int (nI k)), (1, .int (nI jf)), (0, .ref h0)]) (fun (i, zz) => []) (fun (i, zz) FF => (k + 1 ≤ i ∧ i ≤ max (k + 1) (gm 2 jf)) ∧ zz ≤ i - (k + 1) ∧ FF ak = .inr (14, [.ref rak, .int (nI zz)])) (fun (i, zz) => gm 2 jf - i) ?_ ((k + 1), 0) F_84 (⟨⟨by omega, by omega⟩, by omega, hF_86⟩) hO hR _ _ hP hD hS ls (lv_sub hl [0, 1, 2, 3] rfl)
          rintro ⟨i, zz⟩ F_91 hv_95 hO hR ih_96 H locs hP hD hS ls hl
          have hl : lv_has ls 4 [(3, .int (nI i)), (2, .int (nI k)), (1, .int (nI jf)), (0, .ref h0)] := hl
          have hv_95 : (k + 1 ≤ i ∧ i ≤ max (k + 1) (gm 2 jf)) ∧ zz ≤ i - (k + 1) ∧ F_91 ak = .inr (14, [.ref rak, .int (nI zz)]) := hv_95
          refine W.eq (g2 := F0 m 106 ls []) rfl ?_
          have hF_97 : F_91 h0 = .inr (15, (.ref ta) :: (.int (nI zt)) :: (.int (nI zo_33)) :: (.int (nI ze)) :: (.ref ou) :: (.ref so) :: (.ref ad) :: (.ref na) :: (.ref va) :: (.ref lc) :: (.ref dm) :: (.int v11_34) :: (.int v12_35) :: (.ref tg) :: (.int v14_36) :: (.int v15_37) :: (.ref pe) :: (.int v17_38) :: (.int v18_39) :: (.int v19_40) :: (.int v20_41) :: (.int v21_42) :: (.int v22_43) :: (.ref ml) :: (.ref bg) :: (.ref co) :: (.ref sp) :: (.ref nb0) :: (.ref nb1) :: (.ref nb2) :: (.int (nI nf)) :: (.int (nI bd)) :: (.int (nI mm)) :: (.int v33_44) :: (.ref pl) :: (.ref se) :: (.ref ke) :: (.ref wi) :: (.ref hs) :: (.ref mo) :: (.ref po) :: (.ref nu) :: (.ref pr) :: (.ref sq) :: (.ref xa) :: (.ref sa) :: (.ref n64) :: (.ref m64) :: (.ref ex) :: (.ref wh) :: (.ref sd) :: (.ref tk) :: (.int v52_45) :: (.int v53_46) :: (.int v54_47) :: (.ref hd) :: (.ref ak) :: (.ref ho) :: (.ref ot) :: []) := (hR h0 (by rw [hT_h0]; simp)).trans hF_92
          have hF_98 : F_91 sp = .inl (cs 16, 21, .inl f_58) := (hR sp (by rw [ht_57]; simp)).trans hF_93
          have hF_99 : F_91 co = .inl (cs 16, 21, .inl f_72) := (hR co (by rw [ht_71]; simp)).trans hF_94
          obtain ⟨hi1, hi2, hi3⟩ := hv_95
          refine lv_iload_n hx hb dX15_isSeen_106 rfl (lv_at hl 0 rfl) ?_
          refine lv_aload_n hx hb dX15_isSeen_107 rfl (lv_at hl 3 rfl) ?_
          refine pg_get (ci := 15) (v := .ref sp) (C := RX15) (T := TX15) (N := 59) hx hb hts it_15 hown hK hP hL_h0 hF_97 rfl 26 (by decide) (hts _ kt_905) (fun _ h9 => h9) rfl dX15_isSeen_108 ?_
          refine lv_iload_n hx hb dX15_isSeen_111 rfl (lv_at hl 2 rfl) ?_
          refine pg_iald hx hb hK hP hi_56 0 hF_98 rfl (vp_in_nI (by omega) (by omega)) dX15_isSeen_112 ?_
          refine lv_topi (fun x_100 ex_100 => ?_)
          obtain rfl : x_100 = (nI (gm 2 jf)) := ex_100.trans (by rw [show ((nI jf) : Int32) = nI jf from rfl, nI_clamp (by omega)]; exact hq_60 jf (by omega))
          have hgbx_100 := hgB 2 jf
          refine lv_icmp_ge (tgt := 172) hx hb dX15_isSeen_113 (by decide) (fun c_101 => ?_) (fun c_101 => ?_)
          ·
            have hi_102 : (gm 2 jf) ≤ i := leN (N := (gm 2 jf)) c_101
            refine lv_aload_n hx hb dX15_isSeen_172 rfl (lv_at hl 3 rfl) ?_
            refine pg_get (ci := 15) (v := .ref ak) (C := RX15) (T := TX15) (N := 59) hx hb hts it_15 hown hK hP hL_h0 hF_97 rfl 56 (by decide) (hts _ kt_1045) (fun _ h9 => h9) rfl dX15_isSeen_173 ?_
            have hFc := pg_free hD hS hA
            refine va_calli (va_runV (As := []) (rest := []) ⟨hx, hb, hml, hown, hts⟩ (s_X14_isName l dC dI cs ty gm L H.size F_91 ak (ρ + 28) rak 6000 zz hW hL_ak hT_ak hi3 (by first | omega | assumption)) ⟨callB_of 0 hts (gi kt_1046) rfl rfl rfl (hts _ kt_676) (hts _ kt_1047) (by decide +kernel) ⟨Nat.le_of_ble_eq_true rfl, Nat.le_of_ble_eq_true rfl⟩, (hts _ kt_1048), (hts _ kt_1049)⟩ ⟨fun a U g mk q => ⟨q.1, PTm.calling q.2⟩, pg_recv hK hP hL_ak hi3 (q := (RX14, TX14, 2)) rfl, fun U hU hWm => ⟨rfl, PTm.mk hU hWm hP hK hD hE hO⟩⟩ rfl rfl hl.1 rfl (lv_room (Nat.le_of_ble_eq_true rfl)) dX15_isSeen_176 ⟨by show _ + 0 ≤ 0; omega, by show _ + 0 ≤ 0; omega⟩) hS (fun q _ h => hFc q h) hFc (fun r_103 u t H1 locs ht hvm hw hB hz1 hk1 hS => ?_)
            obtain ⟨F_104, hB1⟩ := hB
            obtain rfl : F_91 = F_104 := (funext (fun a => hB1.2.2.2 a List.not_mem_nil)).symm
            obtain ⟨hP, hD, hO, hR⟩ := QTm.back hB1 ht hFc hR (fun q h => absurd h List.not_mem_nil)
            generalize H1 = H at hP hS ⊢
            have hw : (r_103 = 0 ∨ (r_103 = 1 ∧ 0 < zz ∧ zz ≤ 60)) := hw
            have hw_105 := hw
            refine W.widen (k := 0) (n := 0) (by omega) (by omega) ?_
            exact W.zret (v := r_103) (ty := .boolean) hx hb hr (bitN (bit3 hw_105)) (fun t ht hWm => ⟨⟨r_103, r_103, rfl, ⟨rfl, bit3 hw_105⟩, ⟨F_91, zz, QTm.mk ht hP hD hO hR, hi3, (fun h => (bit1 hw_105 (by rw [h]; decide)).2)⟩⟩, hS.F ht⟩) hS.2.2 dX15_isSeen_179
          ·
            have hi_106 : i < (gm 2 jf) := ltN (N := (gm 2 jf)) c_101
            refine lv_aload_n hx hb dX15_isSeen_116 rfl (lv_at hl 3 rfl) ?_
            refine pg_get (ci := 15) (v := .ref ml) (C := RX15) (T := TX15) (N := 59) hx hb hts it_15 hown hK hP hL_h0 hF_97 rfl 23 (by decide) (hts _ kt_902) (fun _ h9 => h9) rfl dX15_isSeen_117 ?_
            refine lv_iload_n hx hb dX15_isSeen_120 rfl (lv_at hl 0 rfl) ?_
            obtain ⟨hi_107, ht_108⟩ := hW.f_ml hL_h0 hT_h0
            obtain ⟨hq_109, hq_110⟩ := hW.octs hi_107 ht_108
            obtain ⟨f_111, hF_112, hq_113⟩ := hO.octs hi_107 ht_108
            refine pg_bald hx hb hK hP hi_107 1 hF_112 rfl (vp_in_nI (by omega) (by omega)) dX15_isSeen_121 ?_
            refine lv_topi (fun x_114 ex_114 => ?_)
            obtain rfl : x_114 = f_111 i := ex_114.trans (congrArg f_111 (show ((nI i) : Int32).toNatClampNeg = i from nI_clamp (by omega)))
            have hFc := pg_free hD hS hA
            refine va_calli (va_runS (As := [.int (f_111 i)]) (rest := []) ⟨hx, hb, hml, hown, hts⟩ (s_X15_isWhite l dC dI cs ty gm L H.size F_91 (f_111 i) hW ) ⟨callB_of 1 hts (gi kt_715) rfl rfl rfl (hts _ kt_669) (hts _ kt_716) (by decide +kernel) ⟨Nat.le_of_ble_eq_true rfl, Nat.le_of_ble_eq_true rfl⟩, (hts _ kt_717)⟩ ⟨fun a U g mk q => ⟨q.1, PTm.calling q.2⟩, fun U hU hWm => ⟨rfl, PTm.mk hU hWm hP hK hD hE hO⟩⟩ rfl rfl hl.1 rfl (lv_room (Nat.le_of_ble_eq_true rfl)) dX15_isSeen_122 ⟨by show _ + 0 ≤ 0; omega, by show _ + 0 ≤ 0; omega⟩) hS (fun q _ h => hFc q h) hFc (fun r_115 u t H1 locs ht hvm hw hB hz1 hk1 hS => ?_)
            obtain ⟨F_116, hB1⟩ := hB
            obtain rfl : F_91 = F_116 := (funext (fun a => hB1.2.2.2 a List.not_mem_nil)).symm
            obtain ⟨hP, hD, hO, hR⟩ := QTm.back hB1 ht hFc hR (fun q h => absurd h List.not_mem_nil)
            generalize H1 = H at hP hS ⊢
            have hw : (r_115 = 0 ∨ r_115 = 1) := hw
            have hw_117 := hw
            refine lv_if_ne (tgt := 172) hx hb dX15_isSeen_125 (by decide) (fun c_118 => ?_) (fun c_118 => ?_)
            ·
              refine lv_aload_n hx hb dX15_isSeen_172 rfl (lv_at hl 3 rfl) ?_
              refine pg_get (ci := 15) (v := .ref ak) (C := RX15) (T := TX15) (N := 59) hx hb hts it_15 hown hK hP hL_h0 hF_97 rfl 56 (by decide) (hts _ kt_1045) (fun _ h9 => h9) rfl dX15_isSeen_173 ?_
              have hFc := pg_free hD hS hA
              refine va_calli (va_runV (As := []) (rest := []) ⟨hx, hb, hml, hown, hts⟩ (s_X14_isName l dC dI cs ty gm L H.size F_91 ak (ρ + 28) rak 6000 zz hW hL_ak hT_ak hi3 (by first | omega | assumption)) ⟨callB_of 0 hts (gi kt_1046) rfl rfl rfl (hts _ kt_676) (hts _ kt_1047) (by decide +kernel) ⟨Nat.le_of_ble_eq_true rfl, Nat.le_of_ble_eq_true rfl⟩, (hts _ kt_1048), (hts _ kt_1049)⟩ ⟨fun a U g mk q => ⟨q.1, PTm.calling q.2⟩, pg_recv hK hP hL_ak hi3 (q := (RX14, TX14, 2)) rfl, fun U hU hWm => ⟨rfl, PTm.mk hU hWm hP hK hD hE hO⟩⟩ rfl rfl hl.1 rfl (lv_room (Nat.le_of_ble_eq_true rfl)) dX15_isSeen_176 ⟨by show _ + 0 ≤ 0; omega, by show _ + 0 ≤ 0; omega⟩) hS (fun q _ h => hFc q h) hFc (fun r_119 u t H1 locs ht hvm hw hB hz1 hk1 hS => ?_)
              obtain ⟨F_120, hB1⟩ := hB
              obtain rfl : F_91 = F_120 := (funext (fun a => hB1.2.2.2 a List.not_mem_nil)).symm
              obtain ⟨hP, hD, hO, hR⟩ := QTm.back hB1 ht hFc hR (fun q h => absurd h List.not_mem_nil)
              generalize H1 = H at hP hS ⊢
              have hw : (r_119 = 0 ∨ (r_119 = 1 ∧ 0 < zz ∧ zz ≤ 60)) := hw
              have hw_121 := hw
              refine W.widen (k := 0) (n := 0) (by omega) (by omega) ?_
              exact W.zret (v := r_119) (ty := .boolean) hx hb hr (bitN (bit3 hw_121)) (fun t ht hWm => ⟨⟨r_119, r_119, rfl, ⟨rfl, bit3 hw_121⟩, ⟨F_91, zz, QTm.mk ht hP hD hO hR, hi3, (fun h => (bit1 hw_121 (by rw [h]; decide)).2)⟩⟩, hS.F ht⟩) hS.2.2 dX15_isSeen_179
            ·
              refine lv_aload_n hx hb dX15_isSeen_128 rfl (lv_at hl 3 rfl) ?_
              refine pg_get (ci := 15) (v := .ref ml) (C := RX15) (T := TX15) (N := 59) hx hb hts it_15 hown hK hP hL_h0 hF_97 rfl 23 (by decide) (hts _ kt_902) (fun _ h9 => h9) rfl dX15_isSeen_129 ?_
              refine lv_iload_n hx hb dX15_isSeen_132 rfl (lv_at hl 0 rfl) ?_
              refine pg_bald hx hb hK hP hi_107 1 hF_112 rfl (vp_in_nI (by omega) (by omega)) dX15_isSeen_133 ?_
              refine lv_topi (fun x_122 ex_122 => ?_)
              obtain rfl : x_122 = f_111 i := ex_122.trans (congrArg f_111 (show ((nI i) : Int32).toNatClampNeg = i from nI_clamp (by omega)))
              refine lv_bipush (v := 62) hx hb dX15_isSeen_134 (by decide) ?_
              refine lv_icmp_eq (tgt := 172) hx hb dX15_isSeen_136 (by decide) (fun c_123 => ?_) (fun c_123 => ?_)
              ·
                refine lv_aload_n hx hb dX15_isSeen_172 rfl (lv_at hl 3 rfl) ?_
                refine pg_get (ci := 15) (v := .ref ak) (C := RX15) (T := TX15) (N := 59) hx hb hts it_15 hown hK hP hL_h0 hF_97 rfl 56 (by decide) (hts _ kt_1045) (fun _ h9 => h9) rfl dX15_isSeen_173 ?_
                have hFc := pg_free hD hS hA
                refine va_calli (va_runV (As := []) (rest := []) ⟨hx, hb, hml, hown, hts⟩ (s_X14_isName l dC dI cs ty gm L H.size F_91 ak (ρ + 28) rak 6000 zz hW hL_ak hT_ak hi3 (by first | omega | assumption)) ⟨callB_of 0 hts (gi kt_1046) rfl rfl rfl (hts _ kt_676) (hts _ kt_1047) (by decide +kernel) ⟨Nat.le_of_ble_eq_true rfl, Nat.le_of_ble_eq_true rfl⟩, (hts _ kt_1048), (hts _ kt_1049)⟩ ⟨fun a U g mk q => ⟨q.1, PTm.calling q.2⟩, pg_recv hK hP hL_ak hi3 (q := (RX14, TX14, 2)) rfl, fun U hU hWm => ⟨rfl, PTm.mk hU hWm hP hK hD hE hO⟩⟩ rfl rfl hl.1 rfl (lv_room (Nat.le_of_ble_eq_true rfl)) dX15_isSeen_176 ⟨by show _ + 0 ≤ 0; omega, by show _ + 0 ≤ 0; omega⟩) hS (fun q _ h => hFc q h) hFc (fun r_124 u t H1 locs ht hvm hw hB hz1 hk1 hS => ?_)
                obtain ⟨F_125, hB1⟩ := hB
                obtain rfl : F_91 = F_125 := (funext (fun a => hB1.2.2.2 a List.not_mem_nil)).symm
                obtain ⟨hP, hD, hO, hR⟩ := QTm.back hB1 ht hFc hR (fun q h => absurd h List.not_mem_nil)
                generalize H1 = H at hP hS ⊢
                have hw : (r_124 = 0 ∨ (r_124 = 1 ∧ 0 < zz ∧ zz ≤ 60)) := hw
                have hw_126 := hw
                refine W.widen (k := 0) (n := 0) (by omega) (by omega) ?_
                exact W.zret (v := r_124) (ty := .boolean) hx hb hr (bitN (bit3 hw_126)) (fun t ht hWm => ⟨⟨r_124, r_124, rfl, ⟨rfl, bit3 hw_126⟩, ⟨F_91, zz, QTm.mk ht hP hD hO hR, hi3, (fun h => (bit1 hw_126 (by rw [h]; decide)).2)⟩⟩, hS.F ht⟩) hS.2.2 dX15_isSeen_179
              ·
                refine lv_aload_n hx hb dX15_isSeen_139 rfl (lv_at hl 3 rfl) ?_
                refine pg_get (ci := 15) (v := .ref ml) (C := RX15) (T := TX15) (N := 59) hx hb hts it_15 hown hK hP hL_h0 hF_97 rfl 23 (by decide) (hts _ kt_902) (fun _ h9 => h9) rfl dX15_isSeen_140 ?_
                refine lv_iload_n hx hb dX15_isSeen_143 rfl (lv_at hl 0 rfl) ?_
                refine pg_bald hx hb hK hP hi_107 1 hF_112 rfl (vp_in_nI (by omega) (by omega)) dX15_isSeen_144 ?_
                refine lv_topi (fun x_127 ex_127 => ?_)
                obtain rfl : x_127 = f_111 i := ex_127.trans (congrArg f_111 (show ((nI i) : Int32).toNatClampNeg = i from nI_clamp (by omega)))
                refine lv_bipush (v := 10) hx hb dX15_isSeen_145 (by decide) ?_
                refine lv_icmp_eq (tgt := 172) hx hb dX15_isSeen_147 (by decide) (fun c_128 => ?_) (fun c_128 => ?_)
                ·
                  refine lv_aload_n hx hb dX15_isSeen_172 rfl (lv_at hl 3 rfl) ?_
                  refine pg_get (ci := 15) (v := .ref ak) (C := RX15) (T := TX15) (N := 59) hx hb hts it_15 hown hK hP hL_h0 hF_97 rfl 56 (by decide) (hts _ kt_1045) (fun _ h9 => h9) rfl dX15_isSeen_173 ?_
                  have hFc := pg_free hD hS hA
                  refine va_calli (va_runV (As := []) (rest := []) ⟨hx, hb, hml, hown, hts⟩ (s_X14_isName l dC dI cs ty gm L H.size F_91 ak (ρ + 28) rak 6000 zz hW hL_ak hT_ak hi3 (by first | omega | assumption)) ⟨callB_of 0 hts (gi kt_1046) rfl rfl rfl (hts _ kt_676) (hts _ kt_1047) (by decide +kernel) ⟨Nat.le_of_ble_eq_true rfl, Nat.le_of_ble_eq_true rfl⟩, (hts _ kt_1048), (hts _ kt_1049)⟩ ⟨fun a U g mk q => ⟨q.1, PTm.calling q.2⟩, pg_recv hK hP hL_ak hi3 (q := (RX14, TX14, 2)) rfl, fun U hU hWm => ⟨rfl, PTm.mk hU hWm hP hK hD hE hO⟩⟩ rfl rfl hl.1 rfl (lv_room (Nat.le_of_ble_eq_true rfl)) dX15_isSeen_176 ⟨by show _ + 0 ≤ 0; omega, by show _ + 0 ≤ 0; omega⟩) hS (fun q _ h => hFc q h) hFc (fun r_129 u t H1 locs ht hvm hw hB hz1 hk1 hS => ?_)
                  obtain ⟨F_130, hB1⟩ := hB
                  obtain rfl : F_91 = F_130 := (funext (fun a => hB1.2.2.2 a List.not_mem_nil)).symm
                  obtain ⟨hP, hD, hO, hR⟩ := QTm.back hB1 ht hFc hR (fun q h => absurd h List.not_mem_nil)
                  generalize H1 = H at hP hS ⊢
                  have hw : (r_129 = 0 ∨ (r_129 = 1 ∧ 0 < zz ∧ zz ≤ 60)) := hw
                  have hw_131 := hw
                  refine W.widen (k := 0) (n := 0) (by omega) (by omega) ?_
                  exact W.zret (v := r_129) (ty := .boolean) hx hb hr (bitN (bit3 hw_131)) (fun t ht hWm => ⟨⟨r_129, r_129, rfl, ⟨rfl, bit3 hw_131⟩, ⟨F_91, zz, QTm.mk ht hP hD hO hR, hi3, (fun h => (bit1 hw_131 (by rw [h]; decide)).2)⟩⟩, hS.F ht⟩) hS.2.2 dX15_isSeen_179
                ·
                  refine lv_aload_n hx hb dX15_isSeen_150 rfl (lv_at hl 3 rfl) ?_
                  refine pg_get (ci := 15) (v := .ref ak) (C := RX15) (T := TX15) (N := 59) hx hb hts it_15 hown hK hP hL_h0 hF_97 rfl 56 (by decide) (hts _ kt_1045) (fun _ h9 => h9) rfl dX15_isSeen_151 ?_
                  refine lv_aload_n hx hb dX15_isSeen_154 rfl (lv_at hl 3 rfl) ?_
                  refine pg_get (ci := 15) (v := .ref ml) (C := RX15) (T := TX15) (N := 59) hx hb hts it_15 hown hK hP hL_h0 hF_97 rfl 23 (by decide) (hts _ kt_902) (fun _ h9 => h9) rfl dX15_isSeen_155 ?_
                  refine lv_iload_n hx hb dX15_isSeen_158 rfl (lv_at hl 0 rfl) ?_
                  refine pg_bald hx hb hK hP hi_107 1 hF_112 rfl (vp_in_nI (by omega) (by omega)) dX15_isSeen_159 ?_
                  refine lv_topi (fun x_132 ex_132 => ?_)
                  obtain rfl : x_132 = f_111 i := ex_132.trans (congrArg f_111 (show ((nI i) : Int32).toNatClampNeg = i from nI_clamp (by omega)))
                  have hFc := pg_free hD hS hA
                  refine va_calli (va_runS (As := [.int (f_111 i)]) (rest := [.ref ak]) ⟨hx, hb, hml, hown, hts⟩ (s_X15_small l dC dI cs ty gm L H.size F_91 (f_111 i) hW ) ⟨callB_of 1 hts (gi kt_697) rfl rfl rfl (hts _ kt_669) (hts _ kt_698) (by decide +kernel) ⟨Nat.le_of_ble_eq_true rfl, Nat.le_of_ble_eq_true rfl⟩, (hts _ kt_699)⟩ ⟨fun a U g mk q => ⟨q.1, PTm.calling q.2⟩, fun U hU hWm => ⟨rfl, PTm.mk hU hWm hP hK hD hE hO⟩⟩ rfl rfl hl.1 rfl (lv_room (Nat.le_of_ble_eq_true rfl)) dX15_isSeen_160 ⟨by show _ + 0 ≤ 0; omega, by show _ + 0 ≤ 0; omega⟩) hS (fun q _ h => hFc q h) hFc (fun r_133 u t H1 locs ht hvm hw hB hz1 hk1 hS => ?_)
                  obtain ⟨F_134, hB1⟩ := hB
                  obtain rfl : F_91 = F_134 := (funext (fun a => hB1.2.2.2 a List.not_mem_nil)).symm
                  obtain ⟨hP, hD, hO, hR⟩ := QTm.back hB1 ht hFc hR (fun q h => absurd h List.not_mem_nil)
                  generalize H1 = H at hP hS ⊢
                  have hw : True := hw
                  have hw_135 := hw
                  have hFc := pg_free hD hS hA
                  refine va_callv (va_runV (As := [.int r_133]) (rest := []) ⟨hx, hb, hml, hown, hts⟩ (s_X14_add l dC dI cs ty gm L H.size F_91 ak (ρ + 28) rak 6000 zz r_133 hW hL_ak hT_ak hi3 (by first | omega | assumption)) ⟨callB_of 1 hts (gi kt_711) rfl rfl rfl (hts _ kt_676) (hts _ kt_712) (by decide +kernel) ⟨Nat.le_of_ble_eq_true rfl, Nat.le_of_ble_eq_true rfl⟩, (hts _ kt_713), (hts _ kt_714)⟩ ⟨fun a U g mk q => ⟨q.1, PTm.calling q.2⟩, pg_recv hK hP hL_ak hi3 (q := (RX14, TX14, 2)) rfl, fun U hU hWm => ⟨rfl, PTm.mk hU hWm hP hK hD hE hO⟩⟩ rfl rfl hl.1 rfl (lv_room (Nat.le_of_ble_eq_true rfl)) dX15_isSeen_163 ⟨by show _ + 0 ≤ 0; omega, by show _ + 0 ≤ 0; omega⟩) hS (fun q _ h => hFc q h) hFc (fun u t H1 locs ht hvm hw hB hz1 hk1 hS => ?_)
                  obtain ⟨F_137, hB1, hq_138⟩ := hB
                  obtain ⟨hP, hD, hO, hR⟩ := QTm.back hB1 ht hFc hR (fun q h => by simp only [List.mem_cons, List.not_mem_nil, or_false] at h ⊢; omega)
                  have hF_139 : F_137 h0 = .inr (15, (.ref ta) :: (.int (nI zt)) :: (.int (nI zo_33)) :: (.int (nI ze)) :: (.ref ou) :: (.ref so) :: (.ref ad) :: (.ref na) :: (.ref va) :: (.ref lc) :: (.ref dm) :: (.int v11_34) :: (.int v12_35) :: (.ref tg) :: (.int v14_36) :: (.int v15_37) :: (.ref pe) :: (.int v17_38) :: (.int v18_39) :: (.int v19_40) :: (.int v20_41) :: (.int v21_42) :: (.int v22_43) :: (.ref ml) :: (.ref bg) :: (.ref co) :: (.ref sp) :: (.ref nb0) :: (.ref nb1) :: (.ref nb2) :: (.int (nI nf)) :: (.int (nI bd)) :: (.int (nI mm)) :: (.int v33_44) :: (.ref pl) :: (.ref se) :: (.ref ke) :: (.ref wi) :: (.ref hs) :: (.ref mo) :: (.ref po) :: (.ref nu) :: (.ref pr) :: (.ref sq) :: (.ref xa) :: (.ref sa) :: (.ref n64) :: (.ref m64) :: (.ref ex) :: (.ref wh) :: (.ref sd) :: (.ref tk) :: (.int v52_45) :: (.int v53_46) :: (.int v54_47) :: (.ref hd) :: (.ref ak) :: (.ref ho) :: (.ref ot) :: []) := (hB1.2.2.2 h0 (by rw [hT_h0]; simp)).trans hF_97
                  have hF_140 : F_137 sp = .inl (cs 16, 21, .inl f_58) := (hB1.2.2.2 sp (by rw [ht_57]; simp)).trans hF_98
                  have hF_141 : F_137 co = .inl (cs 16, 21, .inl f_72) := (hB1.2.2.2 co (by rw [ht_71]; simp)).trans hF_99
                  have hF_142 : F_137 ml = .inl (cs 17, 3000, .inl f_111) := (hB1.2.2.2 ml (by rw [ht_108]; simp)).trans hF_112
                  generalize H1 = H at hP hS ⊢
                  refine lv_iinc (v := (nI (i + 1))) (lv' := [(3, .int (nI (i + 1))), (2, .int (nI k)), (1, .int (nI jf)), (0, .ref h0)]) hx hb dX15_isSeen_166 hl (k := 0) rfl (nI_1 _) (by decide) rfl (fun ls hl => ?_)
                  refine lv_goto (tgt := 106) hx hb dX15_isSeen_169 (by decide) ?_
                  refine W.widen (k := 0) (n := 0) (by omega) (by omega) ?_
                  exact ih_96 ((i + 1), (zz + 1)) F_137 (⟨⟨by omega, by omega⟩, by omega, hq_138⟩) (by show gm 2 jf - (i + 1) < gm 2 jf - i; omega) hO hR _ _ hP hD hS ls (lv_sub hl [0, 1, 2, 3] rfl)
        ·
          have hi_143 : k = (gm 1 jf) := (nI_eq (a := k) (b := (gm 1 jf)) (by omega) (by omega)).mp c_79
          refine lv_iconst (v := 0) hx hb dX15_isSeen_92 (by decide) ?_
          refine W.widen (k := 0) (n := 0) (by omega) (by omega) ?_
          obtain ⟨z_144, hF_145, hq_146⟩ := hO.txt hL_ak hT_ak
          exact W.zret (v := 0) (ty := .boolean) hx hb hr (by decide) (fun t ht hWm => ⟨⟨0, 0, rfl, ⟨rfl, Or.inl rfl⟩, ⟨F_63, z_144, QTm.mk ht hP hD hO hR, hF_145, (fun h => absurd h (by decide))⟩⟩, hS.F ht⟩) hS.2.2 dX15_isSeen_93
      ·
        have hi_147 : (gm 1 jf) < k := Nat.not_le.mp (fun q => c_76 ((nI_leI (a := k) (b := (gm 1 jf)) (by omega) (by omega)).mpr q))
        refine lv_aload_n hx hb dX15_isSeen_65 rfl (lv_at hl 2 rfl) ?_
        refine pg_get (ci := 15) (v := .ref ml) (C := RX15) (T := TX15) (N := 59) hx hb hts it_15 hown hK hP hL_h0 hF_68 rfl 23 (by decide) (hts _ kt_902) (fun _ h9 => h9) rfl dX15_isSeen_66 ?_
        refine lv_iload_n hx hb dX15_isSeen_69 rfl (lv_at hl 0 rfl) ?_
        obtain ⟨hi_148, ht_149⟩ := hW.f_ml hL_h0 hT_h0
        obtain ⟨hq_150, hq_151⟩ := hW.octs hi_148 ht_149
        obtain ⟨f_152, hF_153, hq_154⟩ := hO.octs hi_148 ht_149
        refine pg_bald hx hb hK hP hi_148 1 hF_153 rfl (vp_in_nI (by omega) (by omega)) dX15_isSeen_70 ?_
        refine lv_topi (fun x_155 ex_155 => ?_)
        obtain rfl : x_155 = f_152 k := ex_155.trans (congrArg f_152 (show ((nI k) : Int32).toNatClampNeg = k from nI_clamp (by omega)))
        refine lv_bipush (v := 64) hx hb dX15_isSeen_71 (by decide) ?_
        refine lv_icmp_eq (tgt := 82) hx hb dX15_isSeen_73 (by decide) (fun c_156 => ?_) (fun c_156 => ?_)
        ·
          refine lv_iload_n hx hb dX15_isSeen_82 rfl (lv_at hl 0 rfl) ?_
          refine lv_aload_n hx hb dX15_isSeen_83 rfl (lv_at hl 2 rfl) ?_
          refine pg_get (ci := 15) (v := .ref co) (C := RX15) (T := TX15) (N := 59) hx hb hts it_15 hown hK hP hL_h0 hF_68 rfl 25 (by decide) (hts _ kt_904) (fun _ h9 => h9) rfl dX15_isSeen_84 ?_
          refine lv_iload_n hx hb dX15_isSeen_87 rfl (lv_at hl 1 rfl) ?_
          refine pg_iald hx hb hK hP hi_70 0 hF_73 rfl (vp_in_nI (by omega) (by omega)) dX15_isSeen_88 ?_
          refine lv_topi (fun x_157 ex_157 => ?_)
          obtain rfl : x_157 = (nI (gm 1 jf)) := ex_157.trans (by rw [show ((nI jf) : Int32) = nI jf from rfl, nI_clamp (by omega)]; exact hq_74 jf (by omega))
          have hgbx_157 := hgB 1 jf
          refine lv_icmp_ne (tgt := 94) hx hb dX15_isSeen_89 (by decide) (fun c_158 => ?_) (fun c_158 => ?_)
          ·
            have hi_159 : k ≠ (gm 1 jf) := fun q => c_158 (by rw [q])
            refine lv_aload_n hx hb dX15_isSeen_94 rfl (lv_at hl 2 rfl) ?_
            refine pg_get (ci := 15) (v := .ref ak) (C := RX15) (T := TX15) (N := 59) hx hb hts it_15 hown hK hP hL_h0 hF_68 rfl 56 (by decide) (hts _ kt_1045) (fun _ h9 => h9) rfl dX15_isSeen_95 ?_
            refine lv_iconst (v := 0) hx hb dX15_isSeen_98 (by decide) ?_
            obtain ⟨z_160, hF_161, hq_162⟩ := hO.txt hL_ak hT_ak
            refine pg_put (ci := 14) (v := .int 0) (ty := .int) (C := RX14) (T := TX14) (N := 2) hx hb hts it_14 tyX14 tyX14_ok nmX14 hown hK hP hD hS hL_ak hF_161 rfl 1 (by decide) (hts _ kt_709) (fun _ h9 => h9) rfl (by decide +kernel) (rfl) (rfl) (Nat.le_of_ble_eq_true rfl) dX15_isSeen_99 (fun H locs hP hD hS => ?_)
            obtain ⟨F_163, he_164, hP, hD, hO, hR⟩ : ∃ G, G = va_up F_63 ak (.inr (14, [.ref rak, .int 0])) ∧ va_P (dC, dI) vwCl (va_pl L G) H ∧ va_D A (va_pl L G) ∧ OKm cs ty gm L G ∧ FR ty [ρ + 28] F G := ⟨_, rfl, hP, hD, hO.up (shm.txt hT_ak ⟨0, rfl, (by first | omega | assumption | exact Or.inl rfl | exact Or.inr rfl)⟩), hR.up hT_ak (by simp)⟩
            have hF_165 : F_163 ak = .inr (14, [.ref rak, .int 0]) := by rw [he_164]; exact up_self
            have hF_166 : F_163 h0 = .inr (15, (.ref ta) :: (.int (nI zt)) :: (.int (nI zo_33)) :: (.int (nI ze)) :: (.ref ou) :: (.ref so) :: (.ref ad) :: (.ref na) :: (.ref va) :: (.ref lc) :: (.ref dm) :: (.int v11_34) :: (.int v12_35) :: (.ref tg) :: (.int v14_36) :: (.int v15_37) :: (.ref pe) :: (.int v17_38) :: (.int v18_39) :: (.int v19_40) :: (.int v20_41) :: (.int v21_42) :: (.int v22_43) :: (.ref ml) :: (.ref bg) :: (.ref co) :: (.ref sp) :: (.ref nb0) :: (.ref nb1) :: (.ref nb2) :: (.int (nI nf)) :: (.int (nI bd)) :: (.int (nI mm)) :: (.int v33_44) :: (.ref pl) :: (.ref se) :: (.ref ke) :: (.ref wi) :: (.ref hs) :: (.ref mo) :: (.ref po) :: (.ref nu) :: (.ref pr) :: (.ref sq) :: (.ref xa) :: (.ref sa) :: (.ref n64) :: (.ref m64) :: (.ref ex) :: (.ref wh) :: (.ref sd) :: (.ref tk) :: (.int v52_45) :: (.int v53_46) :: (.int v54_47) :: (.ref hd) :: (.ref ak) :: (.ref ho) :: (.ref ot) :: []) := by rw [he_164, up_ne (ne_ty hT_h0 hT_ak (by simp))]; exact hF_68
            have hF_167 : F_163 sp = .inl (cs 16, 21, .inl f_58) := by rw [he_164, up_ne (ne_ty ht_57 hT_ak (by simp))]; exact hF_69
            have hF_168 : F_163 co = .inl (cs 16, 21, .inl f_72) := by rw [he_164, up_ne (ne_ty ht_71 hT_ak (by simp))]; exact hF_73
            have hF_169 : F_163 ml = .inl (cs 17, 3000, .inl f_152) := by rw [he_164, up_ne (ne_ty ht_149 hT_ak (by simp))]; exact hF_153
            refine lv_iload_n hx hb dX15_isSeen_102 rfl (lv_at hl 0 rfl) ?_
            refine lv_iconst (v := 1) hx hb dX15_isSeen_103 (by decide) ?_
            refine lv_iadd hx hb dX15_isSeen_104 ?_
            refine lv_topi (fun x_170 ex_170 => ?_)
            obtain rfl : x_170 = (nI (k + 1)) := ex_170.trans (nI_add k 1)
            refine lv_istore_n (lv' := [(3, .int (nI (k + 1))), (2, .int (nI k)), (1, .int (nI jf)), (0, .ref h0)]) hx hb dX15_isSeen_105 rfl hl (by decide) rfl (fun ls hl => ?_)
            refine W.widen (k := 0) (n := 0) (by omega) (by omega) ?_
            have hF_172 : F h0 = .inr (15, (.ref ta) :: (.int (nI zt)) :: (.int (nI zo_33)) :: (.int (nI ze)) :: (.ref ou) :: (.ref so) :: (.ref ad) :: (.ref na) :: (.ref va) :: (.ref lc) :: (.ref dm) :: (.int v11_34) :: (.int v12_35) :: (.ref tg) :: (.int v14_36) :: (.int v15_37) :: (.ref pe) :: (.int v17_38) :: (.int v18_39) :: (.int v19_40) :: (.int v20_41) :: (.int v21_42) :: (.int v22_43) :: (.ref ml) :: (.ref bg) :: (.ref co) :: (.ref sp) :: (.ref nb0) :: (.ref nb1) :: (.ref nb2) :: (.int (nI nf)) :: (.int (nI bd)) :: (.int (nI mm)) :: (.int v33_44) :: (.ref pl) :: (.ref se) :: (.ref ke) :: (.ref wi) :: (.ref hs) :: (.ref mo) :: (.ref po) :: (.ref nu) :: (.ref pr) :: (.ref sq) :: (.ref xa) :: (.ref sa) :: (.ref n64) :: (.ref m64) :: (.ref ex) :: (.ref wh) :: (.ref sd) :: (.ref tk) :: (.int v52_45) :: (.int v53_46) :: (.int v54_47) :: (.ref hd) :: (.ref ak) :: (.ref ho) :: (.ref ot) :: []) := (hR h0 (by rw [hT_h0]; simp)).symm.trans hF_166
            have hF_173 : F sp = .inl (cs 16, 21, .inl f_58) := (hR sp (by rw [ht_57]; simp)).symm.trans hF_167
            have hF_174 : F co = .inl (cs 16, 21, .inl f_72) := (hR co (by rw [ht_71]; simp)).symm.trans hF_168
            have hF_175 : F ml = .inl (cs 17, 3000, .inl f_152) := (hR ml (by rw [ht_149]; simp)).symm.trans hF_169
            refine pl_loopm (σ := Nat × Nat) A (dC, dI) cs ty gm L [ρ + 28] F 106 4 (fun (i, zz) => [(3, .int (nI i)), (2, .int (nI k)), (1, .int (nI jf)), (0, .ref h0)]) (fun (i, zz) => []) (fun (i, zz) FF => (k + 1 ≤ i ∧ i ≤ max (k + 1) (gm 2 jf)) ∧ zz ≤ i - (k + 1) ∧ FF ak = .inr (14, [.ref rak, .int (nI zz)])) (fun (i, zz) => gm 2 jf - i) ?_ ((k + 1), 0) F_163 (⟨⟨by omega, by omega⟩, by omega, hF_165⟩) hO hR _ _ hP hD hS ls (lv_sub hl [0, 1, 2, 3] rfl)
            rintro ⟨i, zz⟩ F_171 hv_176 hO hR ih_177 H locs hP hD hS ls hl
            have hl : lv_has ls 4 [(3, .int (nI i)), (2, .int (nI k)), (1, .int (nI jf)), (0, .ref h0)] := hl
            have hv_176 : (k + 1 ≤ i ∧ i ≤ max (k + 1) (gm 2 jf)) ∧ zz ≤ i - (k + 1) ∧ F_171 ak = .inr (14, [.ref rak, .int (nI zz)]) := hv_176
            refine W.eq (g2 := F0 m 106 ls []) rfl ?_
            have hF_178 : F_171 h0 = .inr (15, (.ref ta) :: (.int (nI zt)) :: (.int (nI zo_33)) :: (.int (nI ze)) :: (.ref ou) :: (.ref so) :: (.ref ad) :: (.ref na) :: (.ref va) :: (.ref lc) :: (.ref dm) :: (.int v11_34) :: (.int v12_35) :: (.ref tg) :: (.int v14_36) :: (.int v15_37) :: (.ref pe) :: (.int v17_38) :: (.int v18_39) :: (.int v19_40) :: (.int v20_41) :: (.int v21_42) :: (.int v22_43) :: (.ref ml) :: (.ref bg) :: (.ref co) :: (.ref sp) :: (.ref nb0) :: (.ref nb1) :: (.ref nb2) :: (.int (nI nf)) :: (.int (nI bd)) :: (.int (nI mm)) :: (.int v33_44) :: (.ref pl) :: (.ref se) :: (.ref ke) :: (.ref wi) :: (.ref hs) :: (.ref mo) :: (.ref po) :: (.ref nu) :: (.ref pr) :: (.ref sq) :: (.ref xa) :: (.ref sa) :: (.ref n64) :: (.ref m64) :: (.ref ex) :: (.ref wh) :: (.ref sd) :: (.ref tk) :: (.int v52_45) :: (.int v53_46) :: (.int v54_47) :: (.ref hd) :: (.ref ak) :: (.ref ho) :: (.ref ot) :: []) := (hR h0 (by rw [hT_h0]; simp)).trans hF_172
            have hF_179 : F_171 sp = .inl (cs 16, 21, .inl f_58) := (hR sp (by rw [ht_57]; simp)).trans hF_173
            have hF_180 : F_171 co = .inl (cs 16, 21, .inl f_72) := (hR co (by rw [ht_71]; simp)).trans hF_174
            have hF_181 : F_171 ml = .inl (cs 17, 3000, .inl f_152) := (hR ml (by rw [ht_149]; simp)).trans hF_175
            obtain ⟨hi1, hi2, hi3⟩ := hv_176
            refine lv_iload_n hx hb dX15_isSeen_106 rfl (lv_at hl 0 rfl) ?_
            refine lv_aload_n hx hb dX15_isSeen_107 rfl (lv_at hl 3 rfl) ?_
            refine pg_get (ci := 15) (v := .ref sp) (C := RX15) (T := TX15) (N := 59) hx hb hts it_15 hown hK hP hL_h0 hF_178 rfl 26 (by decide) (hts _ kt_905) (fun _ h9 => h9) rfl dX15_isSeen_108 ?_
            refine lv_iload_n hx hb dX15_isSeen_111 rfl (lv_at hl 2 rfl) ?_
            refine pg_iald hx hb hK hP hi_56 0 hF_179 rfl (vp_in_nI (by omega) (by omega)) dX15_isSeen_112 ?_
            refine lv_topi (fun x_182 ex_182 => ?_)
            obtain rfl : x_182 = (nI (gm 2 jf)) := ex_182.trans (by rw [show ((nI jf) : Int32) = nI jf from rfl, nI_clamp (by omega)]; exact hq_60 jf (by omega))
            have hgbx_182 := hgB 2 jf
            refine lv_icmp_ge (tgt := 172) hx hb dX15_isSeen_113 (by decide) (fun c_183 => ?_) (fun c_183 => ?_)
            ·
              have hi_184 : (gm 2 jf) ≤ i := leN (N := (gm 2 jf)) c_183
              refine lv_aload_n hx hb dX15_isSeen_172 rfl (lv_at hl 3 rfl) ?_
              refine pg_get (ci := 15) (v := .ref ak) (C := RX15) (T := TX15) (N := 59) hx hb hts it_15 hown hK hP hL_h0 hF_178 rfl 56 (by decide) (hts _ kt_1045) (fun _ h9 => h9) rfl dX15_isSeen_173 ?_
              have hFc := pg_free hD hS hA
              refine va_calli (va_runV (As := []) (rest := []) ⟨hx, hb, hml, hown, hts⟩ (s_X14_isName l dC dI cs ty gm L H.size F_171 ak (ρ + 28) rak 6000 zz hW hL_ak hT_ak hi3 (by first | omega | assumption)) ⟨callB_of 0 hts (gi kt_1046) rfl rfl rfl (hts _ kt_676) (hts _ kt_1047) (by decide +kernel) ⟨Nat.le_of_ble_eq_true rfl, Nat.le_of_ble_eq_true rfl⟩, (hts _ kt_1048), (hts _ kt_1049)⟩ ⟨fun a U g mk q => ⟨q.1, PTm.calling q.2⟩, pg_recv hK hP hL_ak hi3 (q := (RX14, TX14, 2)) rfl, fun U hU hWm => ⟨rfl, PTm.mk hU hWm hP hK hD hE hO⟩⟩ rfl rfl hl.1 rfl (lv_room (Nat.le_of_ble_eq_true rfl)) dX15_isSeen_176 ⟨by show _ + 0 ≤ 0; omega, by show _ + 0 ≤ 0; omega⟩) hS (fun q _ h => hFc q h) hFc (fun r_185 u t H1 locs ht hvm hw hB hz1 hk1 hS => ?_)
              obtain ⟨F_186, hB1⟩ := hB
              obtain rfl : F_171 = F_186 := (funext (fun a => hB1.2.2.2 a List.not_mem_nil)).symm
              obtain ⟨hP, hD, hO, hR⟩ := QTm.back hB1 ht hFc hR (fun q h => absurd h List.not_mem_nil)
              generalize H1 = H at hP hS ⊢
              have hw : (r_185 = 0 ∨ (r_185 = 1 ∧ 0 < zz ∧ zz ≤ 60)) := hw
              have hw_187 := hw
              refine W.widen (k := 0) (n := 0) (by omega) (by omega) ?_
              exact W.zret (v := r_185) (ty := .boolean) hx hb hr (bitN (bit3 hw_187)) (fun t ht hWm => ⟨⟨r_185, r_185, rfl, ⟨rfl, bit3 hw_187⟩, ⟨F_171, zz, QTm.mk ht hP hD hO hR, hi3, (fun h => (bit1 hw_187 (by rw [h]; decide)).2)⟩⟩, hS.F ht⟩) hS.2.2 dX15_isSeen_179
            ·
              have hi_188 : i < (gm 2 jf) := ltN (N := (gm 2 jf)) c_183
              refine lv_aload_n hx hb dX15_isSeen_116 rfl (lv_at hl 3 rfl) ?_
              refine pg_get (ci := 15) (v := .ref ml) (C := RX15) (T := TX15) (N := 59) hx hb hts it_15 hown hK hP hL_h0 hF_178 rfl 23 (by decide) (hts _ kt_902) (fun _ h9 => h9) rfl dX15_isSeen_117 ?_
              refine lv_iload_n hx hb dX15_isSeen_120 rfl (lv_at hl 0 rfl) ?_
              refine pg_bald hx hb hK hP hi_148 1 hF_181 rfl (vp_in_nI (by omega) (by omega)) dX15_isSeen_121 ?_
              refine lv_topi (fun x_189 ex_189 => ?_)
              obtain rfl : x_189 = f_152 i := ex_189.trans (congrArg f_152 (show ((nI i) : Int32).toNatClampNeg = i from nI_clamp (by omega)))
              have hFc := pg_free hD hS hA
              refine va_calli (va_runS (As := [.int (f_152 i)]) (rest := []) ⟨hx, hb, hml, hown, hts⟩ (s_X15_isWhite l dC dI cs ty gm L H.size F_171 (f_152 i) hW ) ⟨callB_of 1 hts (gi kt_715) rfl rfl rfl (hts _ kt_669) (hts _ kt_716) (by decide +kernel) ⟨Nat.le_of_ble_eq_true rfl, Nat.le_of_ble_eq_true rfl⟩, (hts _ kt_717)⟩ ⟨fun a U g mk q => ⟨q.1, PTm.calling q.2⟩, fun U hU hWm => ⟨rfl, PTm.mk hU hWm hP hK hD hE hO⟩⟩ rfl rfl hl.1 rfl (lv_room (Nat.le_of_ble_eq_true rfl)) dX15_isSeen_122 ⟨by show _ + 0 ≤ 0; omega, by show _ + 0 ≤ 0; omega⟩) hS (fun q _ h => hFc q h) hFc (fun r_190 u t H1 locs ht hvm hw hB hz1 hk1 hS => ?_)
              obtain ⟨F_191, hB1⟩ := hB
              obtain rfl : F_171 = F_191 := (funext (fun a => hB1.2.2.2 a List.not_mem_nil)).symm
              obtain ⟨hP, hD, hO, hR⟩ := QTm.back hB1 ht hFc hR (fun q h => absurd h List.not_mem_nil)
              generalize H1 = H at hP hS ⊢
              have hw : (r_190 = 0 ∨ r_190 = 1) := hw
              have hw_192 := hw
              refine lv_if_ne (tgt := 172) hx hb dX15_isSeen_125 (by decide) (fun c_193 => ?_) (fun c_193 => ?_)
              ·
                refine lv_aload_n hx hb dX15_isSeen_172 rfl (lv_at hl 3 rfl) ?_
                refine pg_get (ci := 15) (v := .ref ak) (C := RX15) (T := TX15) (N := 59) hx hb hts it_15 hown hK hP hL_h0 hF_178 rfl 56 (by decide) (hts _ kt_1045) (fun _ h9 => h9) rfl dX15_isSeen_173 ?_
                have hFc := pg_free hD hS hA
                refine va_calli (va_runV (As := []) (rest := []) ⟨hx, hb, hml, hown, hts⟩ (s_X14_isName l dC dI cs ty gm L H.size F_171 ak (ρ + 28) rak 6000 zz hW hL_ak hT_ak hi3 (by first | omega | assumption)) ⟨callB_of 0 hts (gi kt_1046) rfl rfl rfl (hts _ kt_676) (hts _ kt_1047) (by decide +kernel) ⟨Nat.le_of_ble_eq_true rfl, Nat.le_of_ble_eq_true rfl⟩, (hts _ kt_1048), (hts _ kt_1049)⟩ ⟨fun a U g mk q => ⟨q.1, PTm.calling q.2⟩, pg_recv hK hP hL_ak hi3 (q := (RX14, TX14, 2)) rfl, fun U hU hWm => ⟨rfl, PTm.mk hU hWm hP hK hD hE hO⟩⟩ rfl rfl hl.1 rfl (lv_room (Nat.le_of_ble_eq_true rfl)) dX15_isSeen_176 ⟨by show _ + 0 ≤ 0; omega, by show _ + 0 ≤ 0; omega⟩) hS (fun q _ h => hFc q h) hFc (fun r_194 u t H1 locs ht hvm hw hB hz1 hk1 hS => ?_)
                obtain ⟨F_195, hB1⟩ := hB
                obtain rfl : F_171 = F_195 := (funext (fun a => hB1.2.2.2 a List.not_mem_nil)).symm
                obtain ⟨hP, hD, hO, hR⟩ := QTm.back hB1 ht hFc hR (fun q h => absurd h List.not_mem_nil)
                generalize H1 = H at hP hS ⊢
                have hw : (r_194 = 0 ∨ (r_194 = 1 ∧ 0 < zz ∧ zz ≤ 60)) := hw
                have hw_196 := hw
                refine W.widen (k := 0) (n := 0) (by omega) (by omega) ?_
                exact W.zret (v := r_194) (ty := .boolean) hx hb hr (bitN (bit3 hw_196)) (fun t ht hWm => ⟨⟨r_194, r_194, rfl, ⟨rfl, bit3 hw_196⟩, ⟨F_171, zz, QTm.mk ht hP hD hO hR, hi3, (fun h => (bit1 hw_196 (by rw [h]; decide)).2)⟩⟩, hS.F ht⟩) hS.2.2 dX15_isSeen_179
              ·
                refine lv_aload_n hx hb dX15_isSeen_128 rfl (lv_at hl 3 rfl) ?_
                refine pg_get (ci := 15) (v := .ref ml) (C := RX15) (T := TX15) (N := 59) hx hb hts it_15 hown hK hP hL_h0 hF_178 rfl 23 (by decide) (hts _ kt_902) (fun _ h9 => h9) rfl dX15_isSeen_129 ?_
                refine lv_iload_n hx hb dX15_isSeen_132 rfl (lv_at hl 0 rfl) ?_
                refine pg_bald hx hb hK hP hi_148 1 hF_181 rfl (vp_in_nI (by omega) (by omega)) dX15_isSeen_133 ?_
                refine lv_topi (fun x_197 ex_197 => ?_)
                obtain rfl : x_197 = f_152 i := ex_197.trans (congrArg f_152 (show ((nI i) : Int32).toNatClampNeg = i from nI_clamp (by omega)))
                refine lv_bipush (v := 62) hx hb dX15_isSeen_134 (by decide) ?_
                refine lv_icmp_eq (tgt := 172) hx hb dX15_isSeen_136 (by decide) (fun c_198 => ?_) (fun c_198 => ?_)
                ·
                  refine lv_aload_n hx hb dX15_isSeen_172 rfl (lv_at hl 3 rfl) ?_
                  refine pg_get (ci := 15) (v := .ref ak) (C := RX15) (T := TX15) (N := 59) hx hb hts it_15 hown hK hP hL_h0 hF_178 rfl 56 (by decide) (hts _ kt_1045) (fun _ h9 => h9) rfl dX15_isSeen_173 ?_
                  have hFc := pg_free hD hS hA
                  refine va_calli (va_runV (As := []) (rest := []) ⟨hx, hb, hml, hown, hts⟩ (s_X14_isName l dC dI cs ty gm L H.size F_171 ak (ρ + 28) rak 6000 zz hW hL_ak hT_ak hi3 (by first | omega | assumption)) ⟨callB_of 0 hts (gi kt_1046) rfl rfl rfl (hts _ kt_676) (hts _ kt_1047) (by decide +kernel) ⟨Nat.le_of_ble_eq_true rfl, Nat.le_of_ble_eq_true rfl⟩, (hts _ kt_1048), (hts _ kt_1049)⟩ ⟨fun a U g mk q => ⟨q.1, PTm.calling q.2⟩, pg_recv hK hP hL_ak hi3 (q := (RX14, TX14, 2)) rfl, fun U hU hWm => ⟨rfl, PTm.mk hU hWm hP hK hD hE hO⟩⟩ rfl rfl hl.1 rfl (lv_room (Nat.le_of_ble_eq_true rfl)) dX15_isSeen_176 ⟨by show _ + 0 ≤ 0; omega, by show _ + 0 ≤ 0; omega⟩) hS (fun q _ h => hFc q h) hFc (fun r_199 u t H1 locs ht hvm hw hB hz1 hk1 hS => ?_)
                  obtain ⟨F_200, hB1⟩ := hB
                  obtain rfl : F_171 = F_200 := (funext (fun a => hB1.2.2.2 a List.not_mem_nil)).symm
                  obtain ⟨hP, hD, hO, hR⟩ := QTm.back hB1 ht hFc hR (fun q h => absurd h List.not_mem_nil)
                  generalize H1 = H at hP hS ⊢
                  have hw : (r_199 = 0 ∨ (r_199 = 1 ∧ 0 < zz ∧ zz ≤ 60)) := hw
                  have hw_201 := hw
                  refine W.widen (k := 0) (n := 0) (by omega) (by omega) ?_
                  exact W.zret (v := r_199) (ty := .boolean) hx hb hr (bitN (bit3 hw_201)) (fun t ht hWm => ⟨⟨r_199, r_199, rfl, ⟨rfl, bit3 hw_201⟩, ⟨F_171, zz, QTm.mk ht hP hD hO hR, hi3, (fun h => (bit1 hw_201 (by rw [h]; decide)).2)⟩⟩, hS.F ht⟩) hS.2.2 dX15_isSeen_179
                ·
                  refine lv_aload_n hx hb dX15_isSeen_139 rfl (lv_at hl 3 rfl) ?_
                  refine pg_get (ci := 15) (v := .ref ml) (C := RX15) (T := TX15) (N := 59) hx hb hts it_15 hown hK hP hL_h0 hF_178 rfl 23 (by decide) (hts _ kt_902) (fun _ h9 => h9) rfl dX15_isSeen_140 ?_
                  refine lv_iload_n hx hb dX15_isSeen_143 rfl (lv_at hl 0 rfl) ?_
                  refine pg_bald hx hb hK hP hi_148 1 hF_181 rfl (vp_in_nI (by omega) (by omega)) dX15_isSeen_144 ?_
                  refine lv_topi (fun x_202 ex_202 => ?_)
                  obtain rfl : x_202 = f_152 i := ex_202.trans (congrArg f_152 (show ((nI i) : Int32).toNatClampNeg = i from nI_clamp (by omega)))
                  refine lv_bipush (v := 10) hx hb dX15_isSeen_145 (by decide) ?_
                  refine lv_icmp_eq (tgt := 172) hx hb dX15_isSeen_147 (by decide) (fun c_203 => ?_) (fun c_203 => ?_)
                  ·
                    refine lv_aload_n hx hb dX15_isSeen_172 rfl (lv_at hl 3 rfl) ?_
                    refine pg_get (ci := 15) (v := .ref ak) (C := RX15) (T := TX15) (N := 59) hx hb hts it_15 hown hK hP hL_h0 hF_178 rfl 56 (by decide) (hts _ kt_1045) (fun _ h9 => h9) rfl dX15_isSeen_173 ?_
                    have hFc := pg_free hD hS hA
                    refine va_calli (va_runV (As := []) (rest := []) ⟨hx, hb, hml, hown, hts⟩ (s_X14_isName l dC dI cs ty gm L H.size F_171 ak (ρ + 28) rak 6000 zz hW hL_ak hT_ak hi3 (by first | omega | assumption)) ⟨callB_of 0 hts (gi kt_1046) rfl rfl rfl (hts _ kt_676) (hts _ kt_1047) (by decide +kernel) ⟨Nat.le_of_ble_eq_true rfl, Nat.le_of_ble_eq_true rfl⟩, (hts _ kt_1048), (hts _ kt_1049)⟩ ⟨fun a U g mk q => ⟨q.1, PTm.calling q.2⟩, pg_recv hK hP hL_ak hi3 (q := (RX14, TX14, 2)) rfl, fun U hU hWm => ⟨rfl, PTm.mk hU hWm hP hK hD hE hO⟩⟩ rfl rfl hl.1 rfl (lv_room (Nat.le_of_ble_eq_true rfl)) dX15_isSeen_176 ⟨by show _ + 0 ≤ 0; omega, by show _ + 0 ≤ 0; omega⟩) hS (fun q _ h => hFc q h) hFc (fun r_204 u t H1 locs ht hvm hw hB hz1 hk1 hS => ?_)
                    obtain ⟨F_205, hB1⟩ := hB
                    obtain rfl : F_171 = F_205 := (funext (fun a => hB1.2.2.2 a List.not_mem_nil)).symm
                    obtain ⟨hP, hD, hO, hR⟩ := QTm.back hB1 ht hFc hR (fun q h => absurd h List.not_mem_nil)
                    generalize H1 = H at hP hS ⊢
                    have hw : (r_204 = 0 ∨ (r_204 = 1 ∧ 0 < zz ∧ zz ≤ 60)) := hw
                    have hw_206 := hw
                    refine W.widen (k := 0) (n := 0) (by omega) (by omega) ?_
                    exact W.zret (v := r_204) (ty := .boolean) hx hb hr (bitN (bit3 hw_206)) (fun t ht hWm => ⟨⟨r_204, r_204, rfl, ⟨rfl, bit3 hw_206⟩, ⟨F_171, zz, QTm.mk ht hP hD hO hR, hi3, (fun h => (bit1 hw_206 (by rw [h]; decide)).2)⟩⟩, hS.F ht⟩) hS.2.2 dX15_isSeen_179
                  ·
                    refine lv_aload_n hx hb dX15_isSeen_150 rfl (lv_at hl 3 rfl) ?_
                    refine pg_get (ci := 15) (v := .ref ak) (C := RX15) (T := TX15) (N := 59) hx hb hts it_15 hown hK hP hL_h0 hF_178 rfl 56 (by decide) (hts _ kt_1045) (fun _ h9 => h9) rfl dX15_isSeen_151 ?_
                    refine lv_aload_n hx hb dX15_isSeen_154 rfl (lv_at hl 3 rfl) ?_
                    refine pg_get (ci := 15) (v := .ref ml) (C := RX15) (T := TX15) (N := 59) hx hb hts it_15 hown hK hP hL_h0 hF_178 rfl 23 (by decide) (hts _ kt_902) (fun _ h9 => h9) rfl dX15_isSeen_155 ?_
                    refine lv_iload_n hx hb dX15_isSeen_158 rfl (lv_at hl 0 rfl) ?_
                    refine pg_bald hx hb hK hP hi_148 1 hF_181 rfl (vp_in_nI (by omega) (by omega)) dX15_isSeen_159 ?_
                    refine lv_topi (fun x_207 ex_207 => ?_)
                    obtain rfl : x_207 = f_152 i := ex_207.trans (congrArg f_152 (show ((nI i) : Int32).toNatClampNeg = i from nI_clamp (by omega)))
                    have hFc := pg_free hD hS hA
                    refine va_calli (va_runS (As := [.int (f_152 i)]) (rest := [.ref ak]) ⟨hx, hb, hml, hown, hts⟩ (s_X15_small l dC dI cs ty gm L H.size F_171 (f_152 i) hW ) ⟨callB_of 1 hts (gi kt_697) rfl rfl rfl (hts _ kt_669) (hts _ kt_698) (by decide +kernel) ⟨Nat.le_of_ble_eq_true rfl, Nat.le_of_ble_eq_true rfl⟩, (hts _ kt_699)⟩ ⟨fun a U g mk q => ⟨q.1, PTm.calling q.2⟩, fun U hU hWm => ⟨rfl, PTm.mk hU hWm hP hK hD hE hO⟩⟩ rfl rfl hl.1 rfl (lv_room (Nat.le_of_ble_eq_true rfl)) dX15_isSeen_160 ⟨by show _ + 0 ≤ 0; omega, by show _ + 0 ≤ 0; omega⟩) hS (fun q _ h => hFc q h) hFc (fun r_208 u t H1 locs ht hvm hw hB hz1 hk1 hS => ?_)
                    obtain ⟨F_209, hB1⟩ := hB
                    obtain rfl : F_171 = F_209 := (funext (fun a => hB1.2.2.2 a List.not_mem_nil)).symm
                    obtain ⟨hP, hD, hO, hR⟩ := QTm.back hB1 ht hFc hR (fun q h => absurd h List.not_mem_nil)
                    generalize H1 = H at hP hS ⊢
                    have hw : True := hw
                    have hw_210 := hw
                    have hFc := pg_free hD hS hA
                    refine va_callv (va_runV (As := [.int r_208]) (rest := []) ⟨hx, hb, hml, hown, hts⟩ (s_X14_add l dC dI cs ty gm L H.size F_171 ak (ρ + 28) rak 6000 zz r_208 hW hL_ak hT_ak hi3 (by first | omega | assumption)) ⟨callB_of 1 hts (gi kt_711) rfl rfl rfl (hts _ kt_676) (hts _ kt_712) (by decide +kernel) ⟨Nat.le_of_ble_eq_true rfl, Nat.le_of_ble_eq_true rfl⟩, (hts _ kt_713), (hts _ kt_714)⟩ ⟨fun a U g mk q => ⟨q.1, PTm.calling q.2⟩, pg_recv hK hP hL_ak hi3 (q := (RX14, TX14, 2)) rfl, fun U hU hWm => ⟨rfl, PTm.mk hU hWm hP hK hD hE hO⟩⟩ rfl rfl hl.1 rfl (lv_room (Nat.le_of_ble_eq_true rfl)) dX15_isSeen_163 ⟨by show _ + 0 ≤ 0; omega, by show _ + 0 ≤ 0; omega⟩) hS (fun q _ h => hFc q h) hFc (fun u t H1 locs ht hvm hw hB hz1 hk1 hS => ?_)
                    obtain ⟨F_212, hB1, hq_213⟩ := hB
                    obtain ⟨hP, hD, hO, hR⟩ := QTm.back hB1 ht hFc hR (fun q h => by simp only [List.mem_cons, List.not_mem_nil, or_false] at h ⊢; omega)
                    have hF_214 : F_212 h0 = .inr (15, (.ref ta) :: (.int (nI zt)) :: (.int (nI zo_33)) :: (.int (nI ze)) :: (.ref ou) :: (.ref so) :: (.ref ad) :: (.ref na) :: (.ref va) :: (.ref lc) :: (.ref dm) :: (.int v11_34) :: (.int v12_35) :: (.ref tg) :: (.int v14_36) :: (.int v15_37) :: (.ref pe) :: (.int v17_38) :: (.int v18_39) :: (.int v19_40) :: (.int v20_41) :: (.int v21_42) :: (.int v22_43) :: (.ref ml) :: (.ref bg) :: (.ref co) :: (.ref sp) :: (.ref nb0) :: (.ref nb1) :: (.ref nb2) :: (.int (nI nf)) :: (.int (nI bd)) :: (.int (nI mm)) :: (.int v33_44) :: (.ref pl) :: (.ref se) :: (.ref ke) :: (.ref wi) :: (.ref hs) :: (.ref mo) :: (.ref po) :: (.ref nu) :: (.ref pr) :: (.ref sq) :: (.ref xa) :: (.ref sa) :: (.ref n64) :: (.ref m64) :: (.ref ex) :: (.ref wh) :: (.ref sd) :: (.ref tk) :: (.int v52_45) :: (.int v53_46) :: (.int v54_47) :: (.ref hd) :: (.ref ak) :: (.ref ho) :: (.ref ot) :: []) := (hB1.2.2.2 h0 (by rw [hT_h0]; simp)).trans hF_178
                    have hF_215 : F_212 sp = .inl (cs 16, 21, .inl f_58) := (hB1.2.2.2 sp (by rw [ht_57]; simp)).trans hF_179
                    have hF_216 : F_212 co = .inl (cs 16, 21, .inl f_72) := (hB1.2.2.2 co (by rw [ht_71]; simp)).trans hF_180
                    have hF_217 : F_212 ml = .inl (cs 17, 3000, .inl f_152) := (hB1.2.2.2 ml (by rw [ht_149]; simp)).trans hF_181
                    generalize H1 = H at hP hS ⊢
                    refine lv_iinc (v := (nI (i + 1))) (lv' := [(3, .int (nI (i + 1))), (2, .int (nI k)), (1, .int (nI jf)), (0, .ref h0)]) hx hb dX15_isSeen_166 hl (k := 0) rfl (nI_1 _) (by decide) rfl (fun ls hl => ?_)
                    refine lv_goto (tgt := 106) hx hb dX15_isSeen_169 (by decide) ?_
                    refine W.widen (k := 0) (n := 0) (by omega) (by omega) ?_
                    exact ih_177 ((i + 1), (zz + 1)) F_212 (⟨⟨by omega, by omega⟩, by omega, hq_213⟩) (by show gm 2 jf - (i + 1) < gm 2 jf - i; omega) hO hR _ _ hP hD hS ls (lv_sub hl [0, 1, 2, 3] rfl)
          ·
            have hi_218 : k = (gm 1 jf) := (nI_eq (a := k) (b := (gm 1 jf)) (by omega) (by omega)).mp c_158
            refine lv_iconst (v := 0) hx hb dX15_isSeen_92 (by decide) ?_
            refine W.widen (k := 0) (n := 0) (by omega) (by omega) ?_
            obtain ⟨z_219, hF_220, hq_221⟩ := hO.txt hL_ak hT_ak
            exact W.zret (v := 0) (ty := .boolean) hx hb hr (by decide) (fun t ht hWm => ⟨⟨0, 0, rfl, ⟨rfl, Or.inl rfl⟩, ⟨F_63, z_219, QTm.mk ht hP hD hO hR, hF_220, (fun h => absurd h (by decide))⟩⟩, hS.F ht⟩) hS.2.2 dX15_isSeen_93
        ·
          refine lv_iinc (v := (nI (k - 1))) (lv' := [(2, .int (nI (k - 1))), (1, .int (nI jf)), (0, .ref h0)]) hx hb dX15_isSeen_76 hl (k := 0) rfl (m1N (by omega)) (by decide) rfl (fun ls hl => ?_)
          refine lv_goto (tgt := 55) hx hb dX15_isSeen_79 (by decide) ?_
          refine W.widen (k := 0) (n := 0) (by omega) (by omega) ?_
          exact ih_67 (k - 1) F_63 (⟨by omega, by omega⟩) (by show (k - 1) < k; omega) hO hR _ _ hP hD hS ls (lv_sub hl [0, 1, 2] rfl)
    ·
      refine lv_iconst (v := 0) hx hb dX15_isSeen_44 (by decide) ?_
      refine W.widen (k := 0) (n := 0) (by omega) (by omega) ?_
      obtain ⟨z_222, hF_223, hq_224⟩ := hO.txt hL_ak hT_ak
      exact W.zret (v := 0) (ty := .boolean) hx hb hr (by decide) (fun t ht hWm => ⟨⟨0, 0, rfl, ⟨rfl, Or.inl rfl⟩, ⟨F_30, z_222, QTm.mk ht hP hD hO hR, hF_223, (fun h => absurd h (by decide))⟩⟩, hS.F ht⟩) hS.2.2 dX15_isSeen_45
  ·
    have hi_225 : j < nf := ltN (N := nf) c_53
    refine lv_aload_n hx hb dX15_isSeen_12 rfl (lv_at hl 2 rfl) ?_
    refine lv_iload_n hx hb dX15_isSeen_13 rfl (lv_at hl 0 rfl) ?_
    obtain ⟨q_226, v_227, hr_q_226, hX_q_226⟩ := hG.2.2 ("PostGateModel", 488, "from", [102, 114, 111, 109]) (by decide +kernel)
    have hX_q_226 : SXc q_226 v_227 4 (cct [102, 114, 111, 109]) A s s.heap := hX_q_226
    obtain ⟨xo_q_226, xc_q_226, xv_q_226, xt_q_226, xn_q_226⟩ := id hX_q_226
    have hr_q_226 : vk_R "PostGateModel" 488 "from" q_226 s := hr_q_226
    refine va_ldcwS hx hb hown hr_q_226 dX15_isSeen_14 ?_
    have hFc := pg_free hD hS hA
    refine va_calli (va_runV (As := [.int (nI j), .ref q_226]) (rest := []) ⟨hx, hb, hml, hown, hts⟩ (s_X15_isNamed l dC dI cs ty gm L H.size F_30 h0 ρ ta ou so ad na va lc dm tg pe ml bg co sp nb0 nb1 nb2 pl se ke wi hs mo po nu pr sq xa sa n64 m64 ex wh sd tk hd ak ho ot sx s0 s1 s2 nf bd mm ze zt j q_226 v_227 4 (cct [102, 114, 111, 109]) hW hL_h0 hT_h0 (by first | omega | assumption)) ⟨callB_of 2 hts (gi kt_908) rfl rfl rfl (hts _ kt_669) (hts _ kt_909) (by decide +kernel) ⟨Nat.le_of_ble_eq_true rfl, Nat.le_of_ble_eq_true rfl⟩, (hts _ kt_910), (hts _ kt_911)⟩ ⟨fun a U g mk q => ⟨q.1, PTEm.calling q.2⟩, pg_recv hK hP hL_h0 hF_48 (q := (RX15, TX15, 59)) rfl, fun U hU hWm => ⟨rfl, PTEm.mk hU hWm hP hK hD hE hO hG (fun x hx => by rw [List.mem_singleton] at hx; subst hx; exact hX_q_226) hS hFc⟩⟩ rfl rfl hl.1 rfl (lv_room (Nat.le_of_ble_eq_true rfl)) dX15_isSeen_17 ⟨by show _ + 0 ≤ 0; omega, by show _ + 0 ≤ 0; omega⟩) hS (fun q _ h => hFc q h) hFc (fun r_228 u t H1 locs ht hvm hw hB hz1 hk1 hS => ?_)
    obtain ⟨F_229, hB1⟩ := hB
    obtain rfl : F_30 = F_229 := (funext (fun a => hB1.2.2.2 a List.not_mem_nil)).symm
    obtain ⟨hP, hD, hO, hR⟩ := QTm.back hB1 ht hFc hR (fun q h => absurd h List.not_mem_nil)
    generalize H1 = H at hP hS ⊢
    have hw : (r_228 = 0 ∨ r_228 = 1) := hw
    have hw_230 := hw
    refine lv_if_ne (tgt := 26) hx hb dX15_isSeen_20 (by decide) (fun c_231 => ?_) (fun c_231 => ?_)
    ·
      refine lv_iload_n hx hb dX15_isSeen_26 rfl (lv_at hl 1 rfl) ?_
      refine lv_if_lt (tgt := 32) hx hb dX15_isSeen_27 (by decide) (fun c_232 => ?_) (fun c_232 => ?_)
      ·
        refine lv_iload_n hx hb dX15_isSeen_32 rfl (lv_at hl 0 rfl) ?_
        refine lv_istore_n (lv' := [(1, .int (nI j)), (2, .int (nI j)), (0, .ref h0)]) hx hb dX15_isSeen_33 rfl hl (by decide) rfl (fun ls hl => ?_)
        refine lv_iinc (v := (nI (j + 1))) (lv' := [(2, .int (nI (j + 1))), (1, .int (nI j)), (0, .ref h0)]) hx hb dX15_isSeen_34 hl (k := 1) rfl (nI_1 _) (by decide) rfl (fun ls hl => ?_)
        refine lv_goto (tgt := 4) hx hb dX15_isSeen_37 (by decide) ?_
        refine W.widen (k := 0) (n := 0) (by omega) (by omega) ?_
        exact ih_32 ((j + 1), (nI j)) F_30 (⟨by omega, Or.inr ⟨j, by omega, rfl⟩⟩) (by show nf - (j + 1) < nf - j; omega) hO hR _ _ hP hD hS ls (lv_sub hl [0, 1, 2] rfl)
      ·
        refine lv_iconst (v := 0) hx hb dX15_isSeen_30 (by decide) ?_
        refine W.widen (k := 0) (n := 0) (by omega) (by omega) ?_
        obtain ⟨z_233, hF_234, hq_235⟩ := hO.txt hL_ak hT_ak
        exact W.zret (v := 0) (ty := .boolean) hx hb hr (by decide) (fun t ht hWm => ⟨⟨0, 0, rfl, ⟨rfl, Or.inl rfl⟩, ⟨F_30, z_233, QTm.mk ht hP hD hO hR, hF_234, (fun h => absurd h (by decide))⟩⟩, hS.F ht⟩) hS.2.2 dX15_isSeen_31
    ·
      refine lv_goto (tgt := 34) hx hb dX15_isSeen_23 (by decide) ?_
      refine lv_iinc (v := (nI (j + 1))) (lv' := [(2, .int (nI (j + 1))), (1, .int w1), (0, .ref h0)]) hx hb dX15_isSeen_34 hl (k := 0) rfl (nI_1 _) (by decide) rfl (fun ls hl => ?_)
      refine lv_goto (tgt := 4) hx hb dX15_isSeen_37 (by decide) ?_
      refine W.widen (k := 0) (n := 0) (by omega) (by omega) ?_
      exact ih_32 ((j + 1), w1) F_30 (⟨by omega, hv2⟩) (by show nf - (j + 1) < nf - j; omega) hO hR _ _ hP hD hS ls (lv_sub hl [0, 1, 2] rfl)
set_option maxHeartbeats 4000000 in
set_option maxRecDepth 100000 in
theorem s_X15_wish (l : Launch) (dC : Nat → ClassId) (dI : Nat → Nat → Nat) (cs : Nat → ClassId) (ty : TyM) (gm : Nat → Nat → Nat) (L : List Nat) (sz : Nat) (F : Nat → va_E) (h0 : Nat) (ρ : Nat) (ta : Nat) (ou : Nat) (so : Nat) (ad : Nat) (na : Nat) (va : Nat) (lc : Nat) (dm : Nat) (tg : Nat) (pe : Nat) (ml : Nat) (bg : Nat) (co : Nat) (sp : Nat) (nb0 : Nat) (nb1 : Nat) (nb2 : Nat) (pl : Nat) (se : Nat) (ke : Nat) (wi : Nat) (hs : Nat) (mo : Nat) (po : Nat) (nu : Nat) (pr : Nat) (sq : Nat) (xa : Nat) (sa : Nat) (n64 : Nat) (m64 : Nat) (ex : Nat) (wh : Nat) (sd : Nat) (tk : Nat) (hd : Nat) (ak : Nat) (ho : Nat) (ot : Nat) (sx : Nat) (s0 : Nat) (s1 : Nat) (s2 : Nat) (nf : Nat) (bd : Nat) (mm : Nat) (ze : Nat) (zt : Nat) (sb : Nat) (rl : Nat) (rp : Nat) (rak : Nat) (x1 : Int32) (hW : WTm ty gm L) (hL_h0 : h0 ∈ L) (hT_h0 : ty h0 = (15, ρ, [ta, ou, so, ad, na, va, lc, dm, tg, pe, ml, bg, co, sp, nb0, nb1, nb2, pl, se, ke, wi, hs, mo, po, nu, pr, sq, xa, sa, n64, m64, ex, wh, sd, tk, hd, ak, ho, ot, sx, s0, s1, s2, nf, bd, mm, ze, zt])) (hL_sx : sx ∈ L) (hT_sx : ty sx = (14, ρ + 12, [sb, 3000])) (hL_pl : pl ∈ L) (hT_pl : ty pl = (14, ρ + 10, [rl, 6000])) (hL_pe : pe ∈ L) (hT_pe : ty pe = (14, ρ + 7, [rp, 100])) (hL_ak : ak ∈ L) (hT_ak : ty ak = (14, ρ + 28, [rak, 6000])) : Met l yX15_wish (.code yX15_wish cX15_wish 6 (some .int) :: tb) ({ frames := 79, cells := 0, slots := 0, locals := 1787 }) (va_Pc [.ref h0, .int x1] (PTEm (dC, dI) cs ty gm L F sz [])) (va_Qi (fun (r : Int32) (_ : Unit) => True) (fun _ T9 => ∃ F2 : Nat → va_E, QTm (dC, dI) cs ty gm L [ρ, ρ + 6, ρ + 7, ρ + 10, ρ + 11, ρ + 12, ρ + 13, ρ + 14, ρ + 15, ρ + 16, ρ + 17, ρ + 18, ρ + 19, ρ + 20, ρ + 21, ρ + 22, ρ + 23, ρ + 24, ρ + 25, ρ + 26, ρ + 28, ρ + 29, ρ + 30] F F2 (va_A (va_pl L F) sz) T9) (va_A (va_pl L F) sz)) 0 0 (va_A (va_pl L F) sz) := by
  refine Met.ofW (cc := cX15_wish) (maxL := 6) (ret := (some .int)) (by decide) rfl ?_
  intro p e s m args below meth c s₁ B hml hv
  obtain ⟨rfl, ⟨hsz, hP, hK, hD0, hE, hO⟩, hG, hX⟩ := hv
  have hx := B.exec
  have hb := B.bytes
  have hr := B.returns
  have hts : ∀ w ∈ tb, w.before _ s = true := fun w h => atoms_spec (ws := .code yX15_wish cX15_wish 6 (some .int) :: tb) B.pre w (List.mem_cons_of_mem _ h)
  have hown : s.vm.findClass RX15 = some m.cls := findClass_of_methodNamed B.named
  have hlocks := B.notSynchronized
  subst hsz
  have hD := hD0.self (sz := s.heap.size)
  generalize hAe : va_A (va_pl L F) s.heap.size = A at hD hG hX ⊢
  have hA : ∀ q : Nat, s.heap.size ≤ q → A q := fun q h => by rw [← hAe]; exact Or.inr h
  have hS : va_S A s.heap s.heap [] := va_S.rf
  have hR : FR ty [ρ, ρ + 6, ρ + 7, ρ + 10, ρ + 11, ρ + 12, ρ + 13, ρ + 14, ρ + 15, ρ + 16, ρ + 17, ρ + 18, ρ + 19, ρ + 20, ρ + 21, ρ + 22, ρ + 23, ρ + 24, ρ + 25, ρ + 26, ρ + 28, ρ + 29, ρ + 30] F F := FR.refl
  have hl := lv_entry ([.ref h0, .int x1]) (n := 6) (Nat.le_of_ble_eq_true rfl)
  rw [lg_entry_eq]
  generalize (lg_sl ([.ref h0, .int x1]) ++ List.replicate (6 - (lg_sl ([.ref h0, .int x1])).length) Slot.unset).toArray = ls at hl ⊢
  have hl : lv_has ls 6 [(0, .ref h0), (1, .int x1)] := hl
  obtain ⟨hq_20, hq_21, hq_22, hq_23, hq_24, hgO, hgA, hgB⟩ := hW.sc hL_h0 hT_h0
  obtain ⟨hi_25, ht_26⟩ := hW.f_se hL_h0 hT_h0
  obtain ⟨_, hi_27, hi_28, hi_29, _, ht_30, ht_31, ht_32, hq_33, hq_34⟩ := hW.tags hi_25 ht_26
  obtain ⟨hi_35, ht_36, hq_37⟩ := hW.txt hL_sx hT_sx
  obtain ⟨hi_38, ht_39, hq_40⟩ := hW.txt hL_pl hT_pl
  obtain ⟨hi_41, ht_42, hq_43⟩ := hW.txt hL_pe hT_pe
  obtain ⟨hi_44, ht_45, hq_46⟩ := hW.txt hL_ak hT_ak
  obtain ⟨hi_47, r_18, ht_48⟩ := hW.f_ho hL_h0 hT_h0
  obtain ⟨hi_49, ht_50, hq_51⟩ := hW.txt hi_47 ht_48
  obtain ⟨hi_52, x_7, y0_8, y1_9, y2_10, ht_53⟩ := hW.f_wi hL_h0 hT_h0
  obtain ⟨hi_54, hi_55, hi_56, hi_57, ⟨r_58, ht_59⟩, ht_60, ht_61, ht_62, hq_63, hq_64⟩ := hW.tags hi_52 ht_53
  have ht_59 : ty x_7 = (14, ρ + 16, [r_58, 700]) := ht_59
  obtain ⟨hi_65, r_2, ht_66⟩ := hW.f_dm hL_h0 hT_h0
  obtain ⟨hi_67, ht_68, hq_69⟩ := hW.txt hi_65 ht_66
  obtain ⟨hi_70, r_17, ht_71⟩ := hW.f_sd hL_h0 hT_h0
  obtain ⟨hi_72, ht_73, hq_74⟩ := hW.txt hi_70 ht_71
  refine lv_aload_n hx hb dX15_wish_0 rfl (lv_at hl 0 rfl) ?_
  obtain ⟨zo_75, v11_76, v12_77, v14_78, v15_79, v17_80, v18_81, v19_82, v20_83, v21_84, v22_85, v33_86, v52_87, v53_88, v54_89, hF_90, hq_91, hq_92, hq_93, hq_94⟩ := hO.mod hL_h0 hT_h0
  refine pg_get (ci := 15) (v := .int v12_77) (C := RX15) (T := TX15) (N := 59) hx hb hts it_15 hown hK hP hL_h0 hF_90 rfl 12 (by decide) (hts _ kt_1001) (fun _ h9 => h9) rfl dX15_wish_1 ?_
  refine lv_if_eq (tgt := 11) hx hb dX15_wish_4 (by decide) (fun c_95 => ?_) (fun c_95 => ?_)
  ·
    refine lv_iconst (v := (-1)) hx hb dX15_wish_11 (by decide) ?_
    refine W.widen (k := 0) (n := 0) (by omega) (by omega) ?_
    exact W.iret (v := (-1)) hx hb hr (fun t ht hWm => ⟨⟨(-1), (), rfl, trivial, ⟨F, QTm.mk ht hP hD hO hR⟩⟩, hS.F ht⟩) hS.2.2 dX15_wish_12
  ·
    refine lv_iload_n hx hb dX15_wish_7 rfl (lv_at hl 1 rfl) ?_
    refine lv_if_ge (tgt := 13) hx hb dX15_wish_8 (by decide) (fun c_96 => ?_) (fun c_96 => ?_)
    ·
      refine lv_aload_n hx hb dX15_wish_13 rfl (lv_at hl 0 rfl) ?_
      refine pg_get (ci := 15) (v := .int v33_86) (C := RX15) (T := TX15) (N := 59) hx hb hts it_15 hown hK hP hL_h0 hF_90 rfl 33 (by decide) (hts _ kt_906) (fun _ h9 => h9) rfl dX15_wish_14 ?_
      refine lv_if_ne (tgt := 23) hx hb dX15_wish_17 (by decide) (fun c_97 => ?_) (fun c_97 => ?_)
      ·
        refine lv_aload_n hx hb dX15_wish_23 rfl (lv_at hl 0 rfl) ?_
        have hFc := pg_free hD hS hA
        refine va_calli (va_runV (As := []) (rest := []) ⟨hx, hb, hml, hown, hts⟩ (s_X15_isSeen l dC dI cs ty gm L s.heap.size F h0 ρ ta ou so ad na va lc dm tg pe ml bg co sp nb0 nb1 nb2 pl se ke wi hs mo po nu pr sq xa sa n64 m64 ex wh sd tk hd ak ho ot sx s0 s1 s2 nf bd mm ze zt rak hW hL_h0 hT_h0 hL_ak hT_ak) ⟨callB_of 0 hts (gi kt_1050) rfl rfl rfl (hts _ kt_669) (hts _ kt_1051) (by decide +kernel) ⟨Nat.le_of_ble_eq_true rfl, Nat.le_of_ble_eq_true rfl⟩, (hts _ kt_1052), (hts _ kt_1053)⟩ ⟨fun a U g mk q => ⟨q.1, PTEm.calling q.2⟩, pg_recv hK hP hL_h0 hF_90 (q := (RX15, TX15, 59)) rfl, fun U hU hWm => ⟨rfl, PTEm.mk hU hWm hP hK hD hE hO hG (fun x hx => absurd hx List.not_mem_nil) hS hFc⟩⟩ rfl rfl hl.1 rfl (lv_room (Nat.le_of_ble_eq_true rfl)) dX15_wish_24 ⟨by show _ + 0 ≤ 0; omega, by show _ + 0 ≤ 0; omega⟩) hS (fun q _ h => hFc q h) hFc (fun r_99 wr_98 t H1 locs ht hvm hw hB hz1 hk1 hS => ?_)
        obtain ⟨F_100, za_101, hB1, hq_102, hq_103⟩ := hB
        obtain ⟨hP, hD, hO, hR⟩ := QTm.back hB1 ht hFc hR (fun q h => by simp only [List.mem_cons, List.not_mem_nil, or_false] at h ⊢; omega)
        have hF_104 : F_100 h0 = .inr (15, (.ref ta) :: (.int (nI zt)) :: (.int (nI zo_75)) :: (.int (nI ze)) :: (.ref ou) :: (.ref so) :: (.ref ad) :: (.ref na) :: (.ref va) :: (.ref lc) :: (.ref dm) :: (.int v11_76) :: (.int v12_77) :: (.ref tg) :: (.int v14_78) :: (.int v15_79) :: (.ref pe) :: (.int v17_80) :: (.int v18_81) :: (.int v19_82) :: (.int v20_83) :: (.int v21_84) :: (.int v22_85) :: (.ref ml) :: (.ref bg) :: (.ref co) :: (.ref sp) :: (.ref nb0) :: (.ref nb1) :: (.ref nb2) :: (.int (nI nf)) :: (.int (nI bd)) :: (.int (nI mm)) :: (.int v33_86) :: (.ref pl) :: (.ref se) :: (.ref ke) :: (.ref wi) :: (.ref hs) :: (.ref mo) :: (.ref po) :: (.ref nu) :: (.ref pr) :: (.ref sq) :: (.ref xa) :: (.ref sa) :: (.ref n64) :: (.ref m64) :: (.ref ex) :: (.ref wh) :: (.ref sd) :: (.ref tk) :: (.int v52_87) :: (.int v53_88) :: (.int v54_89) :: (.ref hd) :: (.ref ak) :: (.ref ho) :: (.ref ot) :: []) := (hB1.2.2.2 h0 (by rw [hT_h0]; simp)).trans hF_90
        generalize H1 = H at hP hS ⊢
        have hw : (r_99 = wr_98 ∧ (r_99 = 0 ∨ r_99 = 1)) := hw
        have hw_105 := hw
        refine lv_if_ne (tgt := 32) hx hb dX15_wish_27 (by decide) (fun c_106 => ?_) (fun c_106 => ?_)
        ·
          have hza := hq_103 (by have h9 := hw_105; rw [← h9.1]; exact h9.2.resolve_left c_106)
          refine lv_iconst (v := 1) hx hb dX15_wish_32 (by decide) ?_
          refine lv_istore_n (lv' := [(2, .int 1), (0, .ref h0), (1, .int x1)]) hx hb dX15_wish_33 rfl hl (by decide) rfl (fun ls hl => ?_)
          refine lv_aload_n hx hb dX15_wish_34 rfl (lv_at hl 1 rfl) ?_
          refine lv_aload_n hx hb dX15_wish_35 rfl (lv_at hl 1 rfl) ?_
          refine pg_get (ci := 15) (v := .ref ak) (C := RX15) (T := TX15) (N := 59) hx hb hts it_15 hown hK hP hL_h0 hF_104 rfl 56 (by decide) (hts _ kt_1045) (fun _ h9 => h9) rfl dX15_wish_36 ?_
          have hFc := pg_free hD hS hA
          refine va_calli (va_runV (As := [.ref ak]) (rest := []) ⟨hx, hb, hml, hown, hts⟩ (s_X15_wantedOf l dC dI cs ty gm L H.size F_100 h0 ρ ta ou so ad na va lc dm tg pe ml bg co sp nb0 nb1 nb2 pl se ke wi hs mo po nu pr sq xa sa n64 m64 ex wh sd tk hd ak ho ot sx s0 s1 s2 nf bd mm ze zt ak (ρ + 28) rak 6000 za_101 hW hL_h0 hT_h0 hL_ak hT_ak hq_102 (by first | omega | assumption) (by first | omega | assumption) (by first | omega | assumption)) ⟨callB_of 1 hts (gi kt_1054) rfl rfl rfl (hts _ kt_669) (hts _ kt_1055) (by decide +kernel) ⟨Nat.le_of_ble_eq_true rfl, Nat.le_of_ble_eq_true rfl⟩, (hts _ kt_1056), (hts _ kt_1057)⟩ ⟨fun a U g mk q => ⟨q.1, PTEm.calling q.2⟩, pg_recv hK hP hL_h0 hF_104 (q := (RX15, TX15, 59)) rfl, fun U hU hWm => ⟨rfl, PTEm.mk hU hWm hP hK hD hE hO hG (fun x hx => absurd hx List.not_mem_nil) hS hFc⟩⟩ rfl rfl hl.1 rfl (lv_room (Nat.le_of_ble_eq_true rfl)) dX15_wish_39 ⟨by show _ + 0 ≤ 0; omega, by show _ + 0 ≤ 0; omega⟩) hS (fun q _ h => hFc q h) hFc (fun r_107 u t H1 locs ht hvm hw hB hz1 hk1 hS => ?_)
          obtain ⟨F_108, hB1⟩ := hB
          obtain ⟨hP, hD, hO, hR⟩ := QTm.back hB1 ht hFc hR (fun q h => by simp only [List.mem_cons, List.not_mem_nil, or_false] at h ⊢; omega)
          have hF_109 : F_108 h0 = .inr (15, (.ref ta) :: (.int (nI zt)) :: (.int (nI zo_75)) :: (.int (nI ze)) :: (.ref ou) :: (.ref so) :: (.ref ad) :: (.ref na) :: (.ref va) :: (.ref lc) :: (.ref dm) :: (.int v11_76) :: (.int v12_77) :: (.ref tg) :: (.int v14_78) :: (.int v15_79) :: (.ref pe) :: (.int v17_80) :: (.int v18_81) :: (.int v19_82) :: (.int v20_83) :: (.int v21_84) :: (.int v22_85) :: (.ref ml) :: (.ref bg) :: (.ref co) :: (.ref sp) :: (.ref nb0) :: (.ref nb1) :: (.ref nb2) :: (.int (nI nf)) :: (.int (nI bd)) :: (.int (nI mm)) :: (.int v33_86) :: (.ref pl) :: (.ref se) :: (.ref ke) :: (.ref wi) :: (.ref hs) :: (.ref mo) :: (.ref po) :: (.ref nu) :: (.ref pr) :: (.ref sq) :: (.ref xa) :: (.ref sa) :: (.ref n64) :: (.ref m64) :: (.ref ex) :: (.ref wh) :: (.ref sd) :: (.ref tk) :: (.int v52_87) :: (.int v53_88) :: (.int v54_89) :: (.ref hd) :: (.ref ak) :: (.ref ho) :: (.ref ot) :: []) := (hB1.2.2.2 h0 (by rw [hT_h0]; simp)).trans hF_104
          have hF_110 : F_108 ak = .inr (14, [.ref rak, .int (nI za_101)]) := (hB1.2.2.2 ak (by rw [hT_ak]; simp)).trans hq_102
          generalize H1 = H at hP hS ⊢
          have hw : (r_107 = (-1) ∨ r_107 = (-2) ∨ ∃ j : Nat, j < 40 ∧ r_107 = nI j) := hw
          have hw_111 := hw
          refine lv_istore_n (lv' := [(3, .int r_107), (2, .int 1), (0, .ref h0), (1, .int x1)]) hx hb dX15_wish_42 rfl hl (by decide) rfl (fun ls hl => ?_)
          refine W.widen (k := 0) (n := 0) (by omega) (by omega) ?_
          refine pl_cutm (σ := Int32 × Int32) A (dC, dI) cs ty gm L [ρ, ρ + 6, ρ + 7, ρ + 10, ρ + 11, ρ + 12, ρ + 13, ρ + 14, ρ + 15, ρ + 16, ρ + 17, ρ + 18, ρ + 19, ρ + 20, ρ + 21, ρ + 22, ρ + 23, ρ + 24, ρ + 25, ρ + 26, ρ + 28, ρ + 29, ρ + 30] F 71 6 (fun (s3, sw2) => [(3, .int s3), (2, .int sw2), (0, .ref h0), (1, .int x1)]) (fun (s3, sw2) => []) (fun (s3, sw2) FF => (s3 = (-1) ∨ s3 = (-2) ∨ ∃ j : Nat, j < 40 ∧ s3 = nI j) ∧ FF ak = .inr (14, [.ref rak, .int (nI za_101)])) ?_ (fun jn_112 => ?_)
          ·
            rintro ⟨s3, sw2⟩ F_113 hv_114 hO hR H locs hP hD hS ls hl
            have hl : lv_has ls 6 [(3, .int s3), (2, .int sw2), (0, .ref h0), (1, .int x1)] := hl
            have hv_114 : (s3 = (-1) ∨ s3 = (-2) ∨ ∃ j : Nat, j < 40 ∧ s3 = nI j) ∧ F_113 ak = .inr (14, [.ref rak, .int (nI za_101)]) := hv_114
            refine W.eq (g2 := F0 m 71 ls []) rfl ?_
            obtain ⟨hs3, hak3⟩ := hv_114
            refine lv_iload_n hx hb dX15_wish_71 rfl (lv_at hl 0 rfl) ?_
            refine lv_if_ge (tgt := 87) hx hb dX15_wish_72 (by decide) (fun c_115 => ?_) (fun c_115 => ?_)
            ·
              obtain ⟨kv, hkv, ekv⟩ := rec0 hs3 c_115
              subst ekv
              refine lv_aload_n hx hb dX15_wish_87 rfl (lv_at hl 2 rfl) ?_
              obtain ⟨zo_116, v11_117, v12_118, v14_119, v15_120, v17_121, v18_122, v19_123, v20_124, v21_125, v22_126, v33_127, v52_128, v53_129, v54_130, hF_131, hq_132, hq_133, hq_134, hq_135⟩ := hO.mod hL_h0 hT_h0
              refine pg_get (ci := 15) (v := .ref va) (C := RX15) (T := TX15) (N := 59) hx hb hts it_15 hown hK hP hL_h0 hF_131 rfl 8 (by decide) (hts _ kt_732) (fun _ h9 => h9) rfl dX15_wish_88 ?_
              refine lv_iload_n hx hb dX15_wish_91 rfl (lv_at hl 0 rfl) ?_
              obtain ⟨hi_136, ht_137⟩ := hW.f_va hL_h0 hT_h0
              obtain ⟨f_138, hF_139, hq_140⟩ := hO.rtxt hi_136 ht_137
              obtain ⟨b_141, r_142, hbf_143, hi_144, ht_145⟩ := hq_140 kv (by omega)
              refine pg_aald (r := b_141) hx hb hK hP hi_136 7 hF_139 rfl (vp_in_nI (by omega) (by omega)) (show f_138 ((nI kv) : Int32).toNatClampNeg = _ from by rw [show ((nI kv) : Int32) = nI kv from rfl, nI_clamp (by omega)]; exact hbf_143) dX15_wish_92 ?_
              obtain ⟨hi_146, ht_147, hq_148⟩ := hW.txt hi_144 ht_145
              obtain ⟨z_149, hF_150, hq_151⟩ := hO.txt hi_144 ht_145
              refine pg_get (ci := 14) (v := .ref r_142) (C := RX14) (T := TX14) (N := 2) hx hb hts it_14 hown hK hP hi_144 hF_150 rfl 0 (by decide) (hts _ kt_710) (fun _ h9 => h9) rfl dX15_wish_93 ?_
              refine lv_iconst (v := 0) hx hb dX15_wish_96 (by decide) ?_
              refine lv_aload_n hx hb dX15_wish_97 rfl (lv_at hl 2 rfl) ?_
              refine pg_get (ci := 15) (v := .ref va) (C := RX15) (T := TX15) (N := 59) hx hb hts it_15 hown hK hP hL_h0 hF_131 rfl 8 (by decide) (hts _ kt_732) (fun _ h9 => h9) rfl dX15_wish_98 ?_
              refine lv_iload_n hx hb dX15_wish_101 rfl (lv_at hl 0 rfl) ?_
              obtain ⟨b_152, r_153, hbf_154, hi_155, ht_156⟩ := hq_140 kv (by omega)
              refine pg_aald (r := b_152) hx hb hK hP hi_136 7 hF_139 rfl (vp_in_nI (by omega) (by omega)) (show f_138 ((nI kv) : Int32).toNatClampNeg = _ from by rw [show ((nI kv) : Int32) = nI kv from rfl, nI_clamp (by omega)]; exact hbf_154) dX15_wish_102 ?_
              obtain ⟨hi_157, ht_158, hq_159⟩ := hW.txt hi_155 ht_156
              obtain ⟨z_160, hF_161, hq_162⟩ := hO.txt hi_155 ht_156
              refine pg_get (ci := 14) (v := .int (nI z_160)) (C := RX14) (T := TX14) (N := 2) hx hb hts it_14 hown hK hP hi_155 hF_161 rfl 1 (by decide) (hts _ kt_709) (fun _ h9 => h9) rfl dX15_wish_103 ?_
              refine lv_aload_n hx hb dX15_wish_106 rfl (lv_at hl 2 rfl) ?_
              refine pg_get (ci := 15) (v := .ref wi) (C := RX15) (T := TX15) (N := 59) hx hb hts it_15 hown hK hP hL_h0 hF_131 rfl 37 (by decide) (hts _ kt_1058) (fun _ h9 => h9) rfl dX15_wish_107 ?_
              obtain ⟨z_163, hF_164, hq_165⟩ := hO.tags hi_52 ht_53
              refine pg_get (ci := 13) (v := .ref x_7) (C := RX13) (T := TX13) (N := 5) hx hb hts it_13 hown hK hP hi_52 hF_164 rfl 0 (by decide) (hts _ kt_857) (fun _ h9 => h9) rfl dX15_wish_110 ?_
              refine W.eq (g2 := F0 m 113 ls [.ref x_7, .int (nI z_160), .int (nI 0), .ref r_142]) rfl ?_
              obtain ⟨hq_166, hq_167⟩ := hW.octs hi_146 ht_147
              obtain ⟨hi_168, ht_169, hq_170⟩ := hW.txt hi_54 ht_59
              have hFc := pg_free hD hS hA
              refine va_callv (va_runS (As := [.ref r_142, .int (nI 0), .int (nI z_160), .ref x_7]) (rest := []) ⟨hx, hb, hml, hown, hts⟩ (s_X15_withoutWhite l dC dI cs ty gm L H.size F_113 r_142 (ρ + 31) 700 x_7 (ρ + 16) r_58 700 0 z_160 hW hi_146 ht_147 hi_54 ht_59 (by first | omega | assumption) (by first | omega | assumption) (by first | omega | assumption)) ⟨callB_of 4 hts (gi kt_955) rfl rfl rfl (hts _ kt_669) (hts _ kt_956) (by decide +kernel) ⟨Nat.le_of_ble_eq_true rfl, Nat.le_of_ble_eq_true rfl⟩, (hts _ kt_957)⟩ ⟨fun a U g mk q => ⟨q.1, PTm.calling q.2⟩, fun U hU hWm => ⟨rfl, PTm.mk hU hWm hP hK hD hE hO⟩⟩ rfl rfl hl.1 rfl (lv_room (Nat.le_of_ble_eq_true rfl)) dX15_wish_113 ⟨by show _ + 0 ≤ 0; omega, by show _ + 0 ≤ 0; omega⟩) hS (fun q _ h => hFc q h) hFc (fun u t H1 locs ht hvm hw hB hz1 hk1 hS => ?_)
              obtain ⟨F_172, z2_173, hB1, hq_174, hq_175⟩ := hB
              obtain ⟨hP, hD, hO, hR⟩ := QTm.back hB1 ht hFc hR (fun q h => by simp only [List.mem_cons, List.not_mem_nil, or_false] at h ⊢; omega)
              have hF_176 : F_172 ak = .inr (14, [.ref rak, .int (nI za_101)]) := (hB1.2.2.2 ak (by rw [hT_ak]; simp)).trans hak3
              have hF_177 : F_172 h0 = .inr (15, (.ref ta) :: (.int (nI zt)) :: (.int (nI zo_116)) :: (.int (nI ze)) :: (.ref ou) :: (.ref so) :: (.ref ad) :: (.ref na) :: (.ref va) :: (.ref lc) :: (.ref dm) :: (.int v11_117) :: (.int v12_118) :: (.ref tg) :: (.int v14_119) :: (.int v15_120) :: (.ref pe) :: (.int v17_121) :: (.int v18_122) :: (.int v19_123) :: (.int v20_124) :: (.int v21_125) :: (.int v22_126) :: (.ref ml) :: (.ref bg) :: (.ref co) :: (.ref sp) :: (.ref nb0) :: (.ref nb1) :: (.ref nb2) :: (.int (nI nf)) :: (.int (nI bd)) :: (.int (nI mm)) :: (.int v33_127) :: (.ref pl) :: (.ref se) :: (.ref ke) :: (.ref wi) :: (.ref hs) :: (.ref mo) :: (.ref po) :: (.ref nu) :: (.ref pr) :: (.ref sq) :: (.ref xa) :: (.ref sa) :: (.ref n64) :: (.ref m64) :: (.ref ex) :: (.ref wh) :: (.ref sd) :: (.ref tk) :: (.int v52_128) :: (.int v53_129) :: (.int v54_130) :: (.ref hd) :: (.ref ak) :: (.ref ho) :: (.ref ot) :: []) := (hB1.2.2.2 h0 (by rw [hT_h0]; simp)).trans hF_131
              have hF_178 : F_172 va = .inl (cs 23, 40, .inr (.inr (.inr (.inr f_138)))) := (hB1.2.2.2 va (by rw [ht_137]; simp)).trans hF_139
              have hF_179 : F_172 b_141 = .inr (14, [.ref r_142, .int (nI z_149)]) := (hB1.2.2.2 b_141 (by rw [ht_145]; simp)).trans hF_150
              have hF_180 : F_172 b_152 = .inr (14, [.ref r_153, .int (nI z_160)]) := (hB1.2.2.2 b_152 (by rw [ht_156]; simp)).trans hF_161
              have hF_181 : F_172 wi = .inr (13, [.ref x_7, .ref y0_8, .ref y1_9, .ref y2_10, .int (nI z_163)]) := (hB1.2.2.2 wi (by rw [ht_53]; simp)).trans hF_164
              generalize H1 = H at hP hS ⊢
              refine lv_aload_n hx hb dX15_wish_116 rfl (lv_at hl 2 rfl) ?_
              refine pg_get (ci := 15) (v := .ref wi) (C := RX15) (T := TX15) (N := 59) hx hb hts it_15 hown hK hP hL_h0 hF_177 rfl 37 (by decide) (hts _ kt_1058) (fun _ h9 => h9) rfl dX15_wish_117 ?_
              refine lv_bipush (v := 8) hx hb dX15_wish_120 (by decide) ?_
              have hFc := pg_free hD hS hA
              refine va_calli (va_runV (As := [.int 8]) (rest := []) ⟨hx, hb, hml, hown, hts⟩ (s_X13_read l dC dI cs ty gm L H.size F_172 wi (ρ + 15) x_7 700 700 y0_8 y1_9 y2_10 r_58 z2_173 8 hW hi_52 ht_53 hi_54 ht_59 hq_174 (by first | omega | assumption)) ⟨callB_of 1 hts (gi kt_874) rfl rfl rfl (hts _ kt_844) (hts _ kt_875) (by decide +kernel) ⟨Nat.le_of_ble_eq_true rfl, Nat.le_of_ble_eq_true rfl⟩, (hts _ kt_876), (hts _ kt_877)⟩ ⟨fun a U g mk q => ⟨q.1, PTm.calling q.2⟩, pg_recv hK hP hi_52 hF_181 (q := (RX13, TX13, 5)) rfl, fun U hU hWm => ⟨rfl, PTm.mk hU hWm hP hK hD hE hO⟩⟩ rfl rfl hl.1 rfl (lv_room (Nat.le_of_ble_eq_true rfl)) dX15_wish_122 ⟨by show _ + 0 ≤ 0; omega, by show _ + 0 ≤ 0; omega⟩) hS (fun q _ h => hFc q h) hFc (fun r_182 u t H1 locs ht hvm hw hB hz1 hk1 hS => ?_)
              obtain ⟨F_183, z2_184, hB1, hq_185, hq_186⟩ := hB
              obtain ⟨hP, hD, hO, hR⟩ := QTm.back hB1 ht hFc hR (fun q h => by simp only [List.mem_cons, List.not_mem_nil, or_false] at h ⊢; omega)
              have hF_187 : F_183 ak = .inr (14, [.ref rak, .int (nI za_101)]) := (hB1.2.2.2 ak (by rw [hT_ak]; simp)).trans hF_176
              have hF_188 : F_183 h0 = .inr (15, (.ref ta) :: (.int (nI zt)) :: (.int (nI zo_116)) :: (.int (nI ze)) :: (.ref ou) :: (.ref so) :: (.ref ad) :: (.ref na) :: (.ref va) :: (.ref lc) :: (.ref dm) :: (.int v11_117) :: (.int v12_118) :: (.ref tg) :: (.int v14_119) :: (.int v15_120) :: (.ref pe) :: (.int v17_121) :: (.int v18_122) :: (.int v19_123) :: (.int v20_124) :: (.int v21_125) :: (.int v22_126) :: (.ref ml) :: (.ref bg) :: (.ref co) :: (.ref sp) :: (.ref nb0) :: (.ref nb1) :: (.ref nb2) :: (.int (nI nf)) :: (.int (nI bd)) :: (.int (nI mm)) :: (.int v33_127) :: (.ref pl) :: (.ref se) :: (.ref ke) :: (.ref wi) :: (.ref hs) :: (.ref mo) :: (.ref po) :: (.ref nu) :: (.ref pr) :: (.ref sq) :: (.ref xa) :: (.ref sa) :: (.ref n64) :: (.ref m64) :: (.ref ex) :: (.ref wh) :: (.ref sd) :: (.ref tk) :: (.int v52_128) :: (.int v53_129) :: (.int v54_130) :: (.ref hd) :: (.ref ak) :: (.ref ho) :: (.ref ot) :: []) := (hB1.2.2.2 h0 (by rw [hT_h0]; simp)).trans hF_177
              have hF_189 : F_183 va = .inl (cs 23, 40, .inr (.inr (.inr (.inr f_138)))) := (hB1.2.2.2 va (by rw [ht_137]; simp)).trans hF_178
              have hF_190 : F_183 b_141 = .inr (14, [.ref r_142, .int (nI z_149)]) := (hB1.2.2.2 b_141 (by rw [ht_145]; simp)).trans hF_179
              have hF_191 : F_183 b_152 = .inr (14, [.ref r_153, .int (nI z_160)]) := (hB1.2.2.2 b_152 (by rw [ht_156]; simp)).trans hF_180
              have hF_192 : F_183 x_7 = .inr (14, [.ref r_58, .int (nI z2_173)]) := (hB1.2.2.2 x_7 (by rw [ht_59]; simp)).trans hq_174
              generalize H1 = H at hP hS ⊢
              have hw : (r_182 = 0 ∨ r_182 = 1) := hw
              have hw_193 := hw
              refine lv_if_ne (tgt := 131) hx hb dX15_wish_125 (by decide) (fun c_194 => ?_) (fun c_194 => ?_)
              ·
                refine lv_aload_n hx hb dX15_wish_131 rfl (lv_at hl 2 rfl) ?_
                refine pg_get (ci := 15) (v := .ref wi) (C := RX15) (T := TX15) (N := 59) hx hb hts it_15 hown hK hP hL_h0 hF_188 rfl 37 (by decide) (hts _ kt_1058) (fun _ h9 => h9) rfl dX15_wish_132 ?_
                obtain ⟨q_195, v_196, hr_q_195, hX_q_195⟩ := hG.2.2 ("PostGateModel", 533, "p", [112]) (by decide +kernel)
                have hX_q_195 : SXc q_195 v_196 1 (cct [112]) A s s.heap := hX_q_195
                obtain ⟨xo_q_195, xc_q_195, xv_q_195, xt_q_195, xn_q_195⟩ := id hX_q_195
                have hr_q_195 : vk_R "PostGateModel" 533 "p" q_195 s := hr_q_195
                refine va_ldcwS hx hb hown hr_q_195 dX15_wish_135 ?_
                have hFc := pg_free hD hS hA
                refine va_calli (va_runS (As := [.ref wi, .ref q_195]) (rest := []) ⟨hx, hb, hml, hown, hts⟩ (s_X15_wanted l dC dI cs ty gm L H.size F_183 wi (ρ + 15) x_7 700 700 y0_8 y1_9 y2_10 r_58 z2_184 q_195 v_196 1 (cct [112]) hW hi_52 ht_53 hi_54 ht_59 hq_185 (by first | omega | assumption)) ⟨callB_of 2 hts (gi kt_1059) rfl rfl rfl (hts _ kt_669) (hts _ kt_1060) (by decide +kernel) ⟨Nat.le_of_ble_eq_true rfl, Nat.le_of_ble_eq_true rfl⟩, (hts _ kt_1061)⟩ ⟨fun a U g mk q => ⟨q.1, PTEm.calling q.2⟩, fun U hU hWm => ⟨rfl, PTEm.mk hU hWm hP hK hD hE hO hG (fun x hx => by rw [List.mem_singleton] at hx; subst hx; exact hX_q_195) hS hFc⟩⟩ rfl rfl hl.1 rfl (lv_room (Nat.le_of_ble_eq_true rfl)) dX15_wish_138 ⟨by show _ + 0 ≤ 0; omega, by show _ + 0 ≤ 0; omega⟩) hS (fun q _ h => hFc q h) hFc (fun r_197 u t H1 locs ht hvm hw hB hz1 hk1 hS => ?_)
                obtain ⟨F_198, hB1⟩ := hB
                obtain rfl : F_183 = F_198 := (funext (fun a => hB1.2.2.2 a List.not_mem_nil)).symm
                obtain ⟨hP, hD, hO, hR⟩ := QTm.back hB1 ht hFc hR (fun q h => absurd h List.not_mem_nil)
                generalize H1 = H at hP hS ⊢
                have hw : True := hw
                have hw_199 := hw
                refine lv_istore (lv' := [(4, .int r_197), (3, .int (nI kv)), (2, .int sw2), (0, .ref h0), (1, .int x1)]) hx hb dX15_wish_141 hl (by decide) rfl (fun ls hl => ?_)
                refine lv_iload hx hb dX15_wish_143 (lv_at hl 0 rfl) ?_
                refine lv_bipush (v := 6) hx hb dX15_wish_145 (by decide) ?_
                refine lv_icmp_ne (tgt := 153) hx hb dX15_wish_147 (by decide) (fun c_200 => ?_) (fun c_200 => ?_)
                ·
                  have hF_203 : F va = .inl (cs 23, 40, .inr (.inr (.inr (.inr f_138)))) := (hR va (by rw [ht_137]; simp)).symm.trans hF_189
                  have hF_204 : F b_141 = .inr (14, [.ref r_142, .int (nI z_149)]) := (hR b_141 (by rw [ht_145]; simp)).symm.trans hF_190
                  have hF_205 : F b_152 = .inr (14, [.ref r_153, .int (nI z_160)]) := (hR b_152 (by rw [ht_156]; simp)).symm.trans hF_191
                  refine W.widen (k := 0) (n := 0) (by omega) (by omega) ?_
                  refine pl_cutm (σ := Int32) A (dC, dI) cs ty gm L [ρ, ρ + 6, ρ + 7, ρ + 10, ρ + 11, ρ + 12, ρ + 13, ρ + 14, ρ + 15, ρ + 16, ρ + 17, ρ + 18, ρ + 19, ρ + 20, ρ + 21, ρ + 22, ρ + 23, ρ + 24, ρ + 25, ρ + 26, ρ + 28, ρ + 29, ρ + 30] F 192 6 (fun s4 => [(4, .int s4), (0, .ref h0), (1, .int x1)]) (fun s4 => []) (fun s4 _ => True) ?_ (fun jn_201 => ?_)
                  ·
                    rintro s4 F_202 hv_206 hO hR H locs hP hD hS ls hl
                    have hl : lv_has ls 6 [(4, .int s4), (0, .ref h0), (1, .int x1)] := hl
                    have hv_206 : True := hv_206
                    refine W.eq (g2 := F0 m 192 ls []) rfl ?_
                    have hF_207 : F_202 va = .inl (cs 23, 40, .inr (.inr (.inr (.inr f_138)))) := (hR va (by rw [ht_137]; simp)).trans hF_203
                    have hF_208 : F_202 b_141 = .inr (14, [.ref r_142, .int (nI z_149)]) := (hR b_141 (by rw [ht_145]; simp)).trans hF_204
                    have hF_209 : F_202 b_152 = .inr (14, [.ref r_153, .int (nI z_160)]) := (hR b_152 (by rw [ht_156]; simp)).trans hF_205
                    refine lv_aload_n hx hb dX15_wish_192 rfl (lv_at hl 1 rfl) ?_
                    have hFc := pg_free hD hS hA
                    obtain ⟨zo_210, v11_211, v12_212, v14_213, v15_214, v17_215, v18_216, v19_217, v20_218, v21_219, v22_220, v33_221, v52_222, v53_223, v54_224, hF_225, hq_226, hq_227, hq_228, hq_229⟩ := hO.mod hL_h0 hT_h0
                    refine va_calli (va_runV (As := []) (rest := []) ⟨hx, hb, hml, hown, hts⟩ (s_X15_permission l dC dI cs ty gm L H.size F_202 h0 ρ ta ou so ad na va lc dm tg pe ml bg co sp nb0 nb1 nb2 pl se ke wi hs mo po nu pr sq xa sa n64 m64 ex wh sd tk hd ak ho ot sx s0 s1 s2 nf bd mm ze zt rp hW hL_h0 hT_h0 hL_pe hT_pe) ⟨callB_of 0 hts (gi kt_1062) rfl rfl rfl (hts _ kt_669) (hts _ kt_1063) (by decide +kernel) ⟨Nat.le_of_ble_eq_true rfl, Nat.le_of_ble_eq_true rfl⟩, (hts _ kt_1064), (hts _ kt_1065)⟩ ⟨fun a U g mk q => ⟨q.1, PTEm.calling q.2⟩, pg_recv hK hP hL_h0 hF_225 (q := (RX15, TX15, 59)) rfl, fun U hU hWm => ⟨rfl, PTEm.mk hU hWm hP hK hD hE hO hG (fun x hx => absurd hx List.not_mem_nil) hS hFc⟩⟩ rfl rfl hl.1 rfl (lv_room (Nat.le_of_ble_eq_true rfl)) dX15_wish_193 ⟨by show _ + 0 ≤ 0; omega, by show _ + 0 ≤ 0; omega⟩) hS (fun q _ h => hFc q h) hFc (fun r_230 u t H1 locs ht hvm hw hB hz1 hk1 hS => ?_)
                    obtain ⟨F_231, hB1⟩ := hB
                    obtain ⟨hP, hD, hO, hR⟩ := QTm.back hB1 ht hFc hR (fun q h => by simp only [List.mem_cons, List.not_mem_nil, or_false] at h ⊢; omega)
                    have hF_232 : F_231 va = .inl (cs 23, 40, .inr (.inr (.inr (.inr f_138)))) := (hB1.2.2.2 va (by rw [ht_137]; simp)).trans hF_207
                    have hF_233 : F_231 b_141 = .inr (14, [.ref r_142, .int (nI z_149)]) := (hB1.2.2.2 b_141 (by rw [ht_145]; simp)).trans hF_208
                    have hF_234 : F_231 b_152 = .inr (14, [.ref r_153, .int (nI z_160)]) := (hB1.2.2.2 b_152 (by rw [ht_156]; simp)).trans hF_209
                    generalize H1 = H at hP hS ⊢
                    have hw : True := hw
                    have hw_235 := hw
                    refine lv_iconst (v := 2) hx hb dX15_wish_196 (by decide) ?_
                    refine lv_icmp_ne (tgt := 230) hx hb dX15_wish_197 (by decide) (fun c_236 => ?_) (fun c_236 => ?_)
                    ·
                      refine lv_iconst (v := 0) hx hb dX15_wish_230 (by decide) ?_
                      refine lv_istore (lv' := [(5, .int 0), (4, .int s4), (0, .ref h0), (1, .int x1)]) hx hb dX15_wish_231 hl (by decide) rfl (fun ls hl => ?_)
                      refine W.widen (k := 0) (n := 0) (by omega) (by omega) ?_
                      have hF_238 : F va = .inl (cs 23, 40, .inr (.inr (.inr (.inr f_138)))) := (hR va (by rw [ht_137]; simp)).symm.trans hF_232
                      have hF_239 : F b_141 = .inr (14, [.ref r_142, .int (nI z_149)]) := (hR b_141 (by rw [ht_145]; simp)).symm.trans hF_233
                      have hF_240 : F b_152 = .inr (14, [.ref r_153, .int (nI z_160)]) := (hR b_152 (by rw [ht_156]; simp)).symm.trans hF_234
                      refine pl_loopm (σ := Nat) A (dC, dI) cs ty gm L [ρ, ρ + 6, ρ + 7, ρ + 10, ρ + 11, ρ + 12, ρ + 13, ρ + 14, ρ + 15, ρ + 16, ρ + 17, ρ + 18, ρ + 19, ρ + 20, ρ + 21, ρ + 22, ρ + 23, ρ + 24, ρ + 25, ρ + 26, ρ + 28, ρ + 29, ρ + 30] F 233 6 (fun j => [(5, .int (nI j)), (4, .int s4), (0, .ref h0), (1, .int x1)]) (fun j => []) (fun j _ => j ≤ nf) (fun j => nf - j) ?_ 0 F_231 (by omega) hO hR _ _ hP hD hS ls (lv_sub hl [0, 1, 2, 3] rfl)
                      rintro j F_237 hv_241 hO hR ih_242 H locs hP hD hS ls hl
                      have hl : lv_has ls 6 [(5, .int (nI j)), (4, .int s4), (0, .ref h0), (1, .int x1)] := hl
                      have hv_241 : j ≤ nf := hv_241
                      refine W.eq (g2 := F0 m 233 ls []) rfl ?_
                      have hF_243 : F_237 va = .inl (cs 23, 40, .inr (.inr (.inr (.inr f_138)))) := (hR va (by rw [ht_137]; simp)).trans hF_238
                      have hF_244 : F_237 b_141 = .inr (14, [.ref r_142, .int (nI z_149)]) := (hR b_141 (by rw [ht_145]; simp)).trans hF_239
                      have hF_245 : F_237 b_152 = .inr (14, [.ref r_153, .int (nI z_160)]) := (hR b_152 (by rw [ht_156]; simp)).trans hF_240
                      refine lv_iload hx hb dX15_wish_233 (lv_at hl 0 rfl) ?_
                      refine lv_aload_n hx hb dX15_wish_235 rfl (lv_at hl 2 rfl) ?_
                      obtain ⟨zo_246, v11_247, v12_248, v14_249, v15_250, v17_251, v18_252, v19_253, v20_254, v21_255, v22_256, v33_257, v52_258, v53_259, v54_260, hF_261, hq_262, hq_263, hq_264, hq_265⟩ := hO.mod hL_h0 hT_h0
                      refine pg_get (ci := 15) (v := .int (nI nf)) (C := RX15) (T := TX15) (N := 59) hx hb hts it_15 hown hK hP hL_h0 hF_261 rfl 30 (by decide) (hts _ kt_907) (fun _ h9 => h9) rfl dX15_wish_236 ?_
                      refine lv_icmp_ge (tgt := 304) hx hb dX15_wish_239 (by decide) (fun c_266 => ?_) (fun c_266 => ?_)
                      ·
                        have hi_267 : nf ≤ j := leN (N := nf) c_266
                        refine lv_iload hx hb dX15_wish_304 (lv_at hl 1 rfl) ?_
                        refine W.widen (k := 0) (n := 0) (by omega) (by omega) ?_
                        exact W.iret (v := s4) hx hb hr (fun t ht hWm => ⟨⟨s4, (), rfl, trivial, ⟨F_237, QTm.mk ht hP hD hO hR⟩⟩, hS.F ht⟩) hS.2.2 dX15_wish_306
                      ·
                        have hi_268 : j < nf := ltN (N := nf) c_266
                        refine lv_aload_n hx hb dX15_wish_242 rfl (lv_at hl 2 rfl) ?_
                        refine lv_iload hx hb dX15_wish_243 (lv_at hl 0 rfl) ?_
                        obtain ⟨q_269, v_270, hr_q_269, hX_q_269⟩ := hG.2.2 ("PostGateModel", 376, "dkim-signature", [100, 107, 105, 109, 45, 115, 105, 103, 110, 97, 116, 117, 114, 101]) (by decide +kernel)
                        have hX_q_269 : SXc q_269 v_270 14 (cct [100, 107, 105, 109, 45, 115, 105, 103, 110, 97, 116, 117, 114, 101]) A s s.heap := hX_q_269
                        obtain ⟨xo_q_269, xc_q_269, xv_q_269, xt_q_269, xn_q_269⟩ := id hX_q_269
                        have hr_q_269 : vk_R "PostGateModel" 376 "dkim-signature" q_269 s := hr_q_269
                        refine va_ldcwS hx hb hown hr_q_269 dX15_wish_245 ?_
                        have hFc := pg_free hD hS hA
                        refine va_calli (va_runV (As := [.int (nI j), .ref q_269]) (rest := []) ⟨hx, hb, hml, hown, hts⟩ (s_X15_isNamed l dC dI cs ty gm L H.size F_237 h0 ρ ta ou so ad na va lc dm tg pe ml bg co sp nb0 nb1 nb2 pl se ke wi hs mo po nu pr sq xa sa n64 m64 ex wh sd tk hd ak ho ot sx s0 s1 s2 nf bd mm ze zt j q_269 v_270 14 (cct [100, 107, 105, 109, 45, 115, 105, 103, 110, 97, 116, 117, 114, 101]) hW hL_h0 hT_h0 (by first | omega | assumption)) ⟨callB_of 2 hts (gi kt_908) rfl rfl rfl (hts _ kt_669) (hts _ kt_909) (by decide +kernel) ⟨Nat.le_of_ble_eq_true rfl, Nat.le_of_ble_eq_true rfl⟩, (hts _ kt_910), (hts _ kt_911)⟩ ⟨fun a U g mk q => ⟨q.1, PTEm.calling q.2⟩, pg_recv hK hP hL_h0 hF_261 (q := (RX15, TX15, 59)) rfl, fun U hU hWm => ⟨rfl, PTEm.mk hU hWm hP hK hD hE hO hG (fun x hx => by rw [List.mem_singleton] at hx; subst hx; exact hX_q_269) hS hFc⟩⟩ rfl rfl hl.1 rfl (lv_room (Nat.le_of_ble_eq_true rfl)) dX15_wish_248 ⟨by show _ + 0 ≤ 0; omega, by show _ + 0 ≤ 0; omega⟩) hS (fun q _ h => hFc q h) hFc (fun r_271 u t H1 locs ht hvm hw hB hz1 hk1 hS => ?_)
                        obtain ⟨F_272, hB1⟩ := hB
                        obtain rfl : F_237 = F_272 := (funext (fun a => hB1.2.2.2 a List.not_mem_nil)).symm
                        obtain ⟨hP, hD, hO, hR⟩ := QTm.back hB1 ht hFc hR (fun q h => absurd h List.not_mem_nil)
                        generalize H1 = H at hP hS ⊢
                        have hw : (r_271 = 0 ∨ r_271 = 1) := hw
                        have hw_273 := hw
                        refine lv_if_eq (tgt := 298) hx hb dX15_wish_251 (by decide) (fun c_274 => ?_) (fun c_274 => ?_)
                        ·
                          refine lv_iinc (v := (nI (j + 1))) (lv' := [(5, .int (nI (j + 1))), (4, .int s4), (0, .ref h0), (1, .int x1)]) hx hb dX15_wish_298 hl (k := 0) rfl (nI_1 _) (by decide) rfl (fun ls hl => ?_)
                          refine lv_goto (tgt := 233) hx hb dX15_wish_301 (by decide) ?_
                          refine W.widen (k := 0) (n := 0) (by omega) (by omega) ?_
                          exact ih_242 (j + 1) F_237 (by first | omega | exact ⟨by omega, by omega⟩ | trivial) (by show nf - (j + 1) < nf - j; omega) hO hR _ _ hP hD hS ls (lv_sub hl [0, 1, 2, 3] rfl)
                        ·
                          refine lv_aload_n hx hb dX15_wish_254 rfl (lv_at hl 2 rfl) ?_
                          refine lv_iload hx hb dX15_wish_255 (lv_at hl 0 rfl) ?_
                          refine lv_iload_n hx hb dX15_wish_257 rfl (lv_at hl 3 rfl) ?_
                          have hFc := pg_free hD hS hA
                          refine va_calli (va_runV (As := [.int (nI j), .int x1]) (rest := []) ⟨hx, hb, hml, hown, hts⟩ (s_X15_sealOf l dC dI cs ty gm L H.size F_237 h0 ρ ta ou so ad na va lc dm tg pe ml bg co sp nb0 nb1 nb2 pl se ke wi hs mo po nu pr sq xa sa n64 m64 ex wh sd tk hd ak ho ot sx s0 s1 s2 nf bd mm ze zt sb rl j x1 hW hL_h0 hT_h0 hL_sx hT_sx hL_pl hT_pl (by first | omega | assumption)) ⟨callB_of 2 hts (gi kt_1041) rfl rfl rfl (hts _ kt_669) (hts _ kt_1042) (by decide +kernel) ⟨Nat.le_of_ble_eq_true rfl, Nat.le_of_ble_eq_true rfl⟩, (hts _ kt_1043), (hts _ kt_1044)⟩ ⟨fun a U g mk q => ⟨q.1, PTEm.calling q.2⟩, pg_recv hK hP hL_h0 hF_261 (q := (RX15, TX15, 59)) rfl, fun U hU hWm => ⟨rfl, PTEm.mk hU hWm hP hK hD hE hO hG (fun x hx => absurd hx List.not_mem_nil) hS hFc⟩⟩ rfl rfl hl.1 rfl (lv_room (Nat.le_of_ble_eq_true rfl)) dX15_wish_258 ⟨by show _ + 0 ≤ 0; omega, by show _ + 0 ≤ 0; omega⟩) hS (fun q _ h => hFc q h) hFc (fun r_275 u t H1 locs ht hvm hw hB hz1 hk1 hS => ?_)
                          obtain ⟨F_276, hB1⟩ := hB
                          obtain ⟨hP, hD, hO, hR⟩ := QTm.back hB1 ht hFc hR (fun q h => by simp only [List.mem_cons, List.not_mem_nil, or_false] at h ⊢; omega)
                          have hF_277 : F_276 va = .inl (cs 23, 40, .inr (.inr (.inr (.inr f_138)))) := (hB1.2.2.2 va (by rw [ht_137]; simp)).trans hF_243
                          have hF_278 : F_276 b_141 = .inr (14, [.ref r_142, .int (nI z_149)]) := (hB1.2.2.2 b_141 (by rw [ht_145]; simp)).trans hF_244
                          have hF_279 : F_276 b_152 = .inr (14, [.ref r_153, .int (nI z_160)]) := (hB1.2.2.2 b_152 (by rw [ht_156]; simp)).trans hF_245
                          generalize H1 = H at hP hS ⊢
                          have hw : True := hw
                          have hw_280 := hw
                          refine lv_iconst (v := 2) hx hb dX15_wish_261 (by decide) ?_
                          refine lv_icmp_eq (tgt := 268) hx hb dX15_wish_262 (by decide) (fun c_281 => ?_) (fun c_281 => ?_)
                          ·
                            refine lv_aload_n hx hb dX15_wish_268 rfl (lv_at hl 2 rfl) ?_
                            refine lv_aload_n hx hb dX15_wish_269 rfl (lv_at hl 2 rfl) ?_
                            obtain ⟨zo_282, v11_283, v12_284, v14_285, v15_286, v17_287, v18_288, v19_289, v20_290, v21_291, v22_292, v33_293, v52_294, v53_295, v54_296, hF_297, hq_298, hq_299, hq_300, hq_301⟩ := hO.mod hL_h0 hT_h0
                            refine pg_get (ci := 15) (v := .ref sd) (C := RX15) (T := TX15) (N := 59) hx hb hts it_15 hown hK hP hL_h0 hF_297 rfl 50 (by decide) (hts _ kt_1017) (fun _ h9 => h9) rfl dX15_wish_270 ?_
                            refine lv_aload_n hx hb dX15_wish_273 rfl (lv_at hl 2 rfl) ?_
                            refine pg_get (ci := 15) (v := .ref ak) (C := RX15) (T := TX15) (N := 59) hx hb hts it_15 hown hK hP hL_h0 hF_297 rfl 56 (by decide) (hts _ kt_1045) (fun _ h9 => h9) rfl dX15_wish_274 ?_
                            refine lv_aload_n hx hb dX15_wish_277 rfl (lv_at hl 2 rfl) ?_
                            refine pg_get (ci := 15) (v := .ref wi) (C := RX15) (T := TX15) (N := 59) hx hb hts it_15 hown hK hP hL_h0 hF_297 rfl 37 (by decide) (hts _ kt_1058) (fun _ h9 => h9) rfl dX15_wish_278 ?_
                            obtain ⟨q_302, v_303, hr_q_302, hX_q_302⟩ := hG.2.2 ("PostGateModel", 601, "adkim", [97, 100, 107, 105, 109]) (by decide +kernel)
                            have hX_q_302 : SXc q_302 v_303 5 (cct [97, 100, 107, 105, 109]) A s s.heap := hX_q_302
                            obtain ⟨xo_q_302, xc_q_302, xv_q_302, xt_q_302, xn_q_302⟩ := id hX_q_302
                            have hr_q_302 : vk_R "PostGateModel" 601 "adkim" q_302 s := hr_q_302
                            refine va_ldcwS hx hb hown hr_q_302 dX15_wish_281 ?_
                            obtain ⟨q_304, v_305, hr_q_304, hX_q_304⟩ := hG.2.2 ("PostGateModel", 460, "s", [115]) (by decide +kernel)
                            have hX_q_304 : SXc q_304 v_305 1 (cct [115]) A s s.heap := hX_q_304
                            obtain ⟨xo_q_304, xc_q_304, xv_q_304, xt_q_304, xn_q_304⟩ := id hX_q_304
                            have hr_q_304 : vk_R "PostGateModel" 460 "s" q_304 s := hr_q_304
                            refine va_ldcwS hx hb hown hr_q_304 dX15_wish_284 ?_
                            obtain ⟨z_306, hF_307, hq_308⟩ := hO.tags hi_52 ht_53
                            have hFc := pg_free hD hS hA
                            refine va_calli (va_runV (As := [.ref q_302, .ref q_304]) (rest := [.ref ak, .ref sd, .ref h0]) ⟨hx, hb, hml, hown, hts⟩ (s_X13_has l dC dI cs ty gm L H.size F_276 wi (ρ + 15) x_7 700 700 y0_8 y1_9 y2_10 r_58 z_306 q_302 v_303 5 (cct [97, 100, 107, 105, 109]) q_304 v_305 1 (cct [115]) hW hi_52 ht_53 hi_54 ht_59 hF_307 (by first | omega | assumption)) ⟨callB_of 2 hts (gi kt_878) rfl rfl rfl (hts _ kt_844) (hts _ kt_879) (by decide +kernel) ⟨Nat.le_of_ble_eq_true rfl, Nat.le_of_ble_eq_true rfl⟩, (hts _ kt_880), (hts _ kt_881)⟩ ⟨fun a U g mk q => ⟨q.1, PTEm.calling q.2⟩, pg_recv hK hP hi_52 hF_307 (q := (RX13, TX13, 5)) rfl, fun U hU hWm => ⟨rfl, PTEm.mk hU hWm hP hK hD hE hO hG (fun x hx => by simp only [List.mem_cons, List.not_mem_nil, or_false] at hx; rcases hx with hx | hx <;> subst hx <;> first | exact hX_q_302 | exact hX_q_304) hS hFc⟩⟩ rfl rfl hl.1 rfl (lv_room (Nat.le_of_ble_eq_true rfl)) dX15_wish_287 ⟨by show _ + 0 ≤ 0; omega, by show _ + 0 ≤ 0; omega⟩) hS (fun q _ h => hFc q h) hFc (fun r_309 u t H1 locs ht hvm hw hB hz1 hk1 hS => ?_)
                            obtain ⟨F_310, hB1⟩ := hB
                            obtain rfl : F_276 = F_310 := (funext (fun a => hB1.2.2.2 a List.not_mem_nil)).symm
                            obtain ⟨hP, hD, hO, hR⟩ := QTm.back hB1 ht hFc hR (fun q h => absurd h List.not_mem_nil)
                            generalize H1 = H at hP hS ⊢
                            have hw : (r_309 = 0 ∨ r_309 = 1) := hw
                            have hw_311 := hw
                            have hFc := pg_free hD hS hA
                            refine va_calli (va_runV (As := [.ref sd, .ref ak, .int r_309]) (rest := []) ⟨hx, hb, hml, hown, hts⟩ (s_X15_isAligned l dC dI cs ty gm L H.size F_276 h0 ρ ta ou so ad na va lc dm tg pe ml bg co sp nb0 nb1 nb2 pl se ke wi hs mo po nu pr sq xa sa n64 m64 ex wh sd tk hd ak ho ot sx s0 s1 s2 nf bd mm ze zt sd (ρ + 25) r_17 3000 ak (ρ + 28) rak 6000 r_309 hW hL_h0 hT_h0 hi_70 ht_71 hL_ak hT_ak (by first | omega | assumption) (by first | omega | assumption)) ⟨callB_of 3 hts (gi kt_1066) rfl rfl rfl (hts _ kt_669) (hts _ kt_1067) (by decide +kernel) ⟨Nat.le_of_ble_eq_true rfl, Nat.le_of_ble_eq_true rfl⟩, (hts _ kt_1068), (hts _ kt_1069)⟩ ⟨fun a U g mk q => ⟨q.1, PTm.calling q.2⟩, pg_recv hK hP hL_h0 hF_297 (q := (RX15, TX15, 59)) rfl, fun U hU hWm => ⟨rfl, PTm.mk hU hWm hP hK hD hE hO⟩⟩ rfl rfl hl.1 rfl (lv_room (Nat.le_of_ble_eq_true rfl)) dX15_wish_290 ⟨by show _ + 0 ≤ 0; omega, by show _ + 0 ≤ 0; omega⟩) hS (fun q _ h => hFc q h) hFc (fun r_312 u t H1 locs ht hvm hw hB hz1 hk1 hS => ?_)
                            obtain ⟨F_313, hB1⟩ := hB
                            obtain ⟨hP, hD, hO, hR⟩ := QTm.back hB1 ht hFc hR (fun q h => by simp only [List.mem_cons, List.not_mem_nil, or_false] at h ⊢; omega)
                            have hF_314 : F_313 va = .inl (cs 23, 40, .inr (.inr (.inr (.inr f_138)))) := (hB1.2.2.2 va (by rw [ht_137]; simp)).trans hF_277
                            have hF_315 : F_313 b_141 = .inr (14, [.ref r_142, .int (nI z_149)]) := (hB1.2.2.2 b_141 (by rw [ht_145]; simp)).trans hF_278
                            have hF_316 : F_313 b_152 = .inr (14, [.ref r_153, .int (nI z_160)]) := (hB1.2.2.2 b_152 (by rw [ht_156]; simp)).trans hF_279
                            have hF_317 : F_313 h0 = .inr (15, (.ref ta) :: (.int (nI zt)) :: (.int (nI zo_282)) :: (.int (nI ze)) :: (.ref ou) :: (.ref so) :: (.ref ad) :: (.ref na) :: (.ref va) :: (.ref lc) :: (.ref dm) :: (.int v11_283) :: (.int v12_284) :: (.ref tg) :: (.int v14_285) :: (.int v15_286) :: (.ref pe) :: (.int v17_287) :: (.int v18_288) :: (.int v19_289) :: (.int v20_290) :: (.int v21_291) :: (.int v22_292) :: (.ref ml) :: (.ref bg) :: (.ref co) :: (.ref sp) :: (.ref nb0) :: (.ref nb1) :: (.ref nb2) :: (.int (nI nf)) :: (.int (nI bd)) :: (.int (nI mm)) :: (.int v33_293) :: (.ref pl) :: (.ref se) :: (.ref ke) :: (.ref wi) :: (.ref hs) :: (.ref mo) :: (.ref po) :: (.ref nu) :: (.ref pr) :: (.ref sq) :: (.ref xa) :: (.ref sa) :: (.ref n64) :: (.ref m64) :: (.ref ex) :: (.ref wh) :: (.ref sd) :: (.ref tk) :: (.int v52_294) :: (.int v53_295) :: (.int v54_296) :: (.ref hd) :: (.ref ak) :: (.ref ho) :: (.ref ot) :: []) := (hB1.2.2.2 h0 (by rw [hT_h0]; simp)).trans hF_297
                            have hF_318 : F_313 wi = .inr (13, [.ref x_7, .ref y0_8, .ref y1_9, .ref y2_10, .int (nI z_306)]) := (hB1.2.2.2 wi (by rw [ht_53]; simp)).trans hF_307
                            generalize H1 = H at hP hS ⊢
                            have hw : (r_312 = 0 ∨ r_312 = 1) := hw
                            have hw_319 := hw
                            refine lv_if_eq (tgt := 298) hx hb dX15_wish_293 (by decide) (fun c_320 => ?_) (fun c_320 => ?_)
                            ·
                              refine lv_iinc (v := (nI (j + 1))) (lv' := [(5, .int (nI (j + 1))), (4, .int s4), (0, .ref h0), (1, .int x1)]) hx hb dX15_wish_298 hl (k := 0) rfl (nI_1 _) (by decide) rfl (fun ls hl => ?_)
                              refine lv_goto (tgt := 233) hx hb dX15_wish_301 (by decide) ?_
                              refine W.widen (k := 0) (n := 0) (by omega) (by omega) ?_
                              exact ih_242 (j + 1) F_313 (by first | omega | exact ⟨by omega, by omega⟩ | trivial) (by show nf - (j + 1) < nf - j; omega) hO hR _ _ hP hD hS ls (lv_sub hl [0, 1, 2, 3] rfl)
                            ·
                              refine lv_iconst (v := 2) hx hb dX15_wish_296 (by decide) ?_
                              refine W.widen (k := 0) (n := 0) (by omega) (by omega) ?_
                              exact W.iret (v := 2) hx hb hr (fun t ht hWm => ⟨⟨2, (), rfl, trivial, ⟨F_313, QTm.mk ht hP hD hO hR⟩⟩, hS.F ht⟩) hS.2.2 dX15_wish_297
                          ·
                            refine lv_goto (tgt := 298) hx hb dX15_wish_265 (by decide) ?_
                            refine lv_iinc (v := (nI (j + 1))) (lv' := [(5, .int (nI (j + 1))), (4, .int s4), (0, .ref h0), (1, .int x1)]) hx hb dX15_wish_298 hl (k := 0) rfl (nI_1 _) (by decide) rfl (fun ls hl => ?_)
                            refine lv_goto (tgt := 233) hx hb dX15_wish_301 (by decide) ?_
                            refine W.widen (k := 0) (n := 0) (by omega) (by omega) ?_
                            exact ih_242 (j + 1) F_276 (by first | omega | exact ⟨by omega, by omega⟩ | trivial) (by show nf - (j + 1) < nf - j; omega) hO hR _ _ hP hD hS ls (lv_sub hl [0, 1, 2, 3] rfl)
                    ·
                      refine lv_aload_n hx hb dX15_wish_200 rfl (lv_at hl 1 rfl) ?_
                      refine lv_aload_n hx hb dX15_wish_201 rfl (lv_at hl 1 rfl) ?_
                      obtain ⟨zo_321, v11_322, v12_323, v14_324, v15_325, v17_326, v18_327, v19_328, v20_329, v21_330, v22_331, v33_332, v52_333, v53_334, v54_335, hF_336, hq_337, hq_338, hq_339, hq_340⟩ := hO.mod hL_h0 hT_h0
                      refine pg_get (ci := 15) (v := .ref dm) (C := RX15) (T := TX15) (N := 59) hx hb hts it_15 hown hK hP hL_h0 hF_336 rfl 10 (by decide) (hts _ kt_777) (fun _ h9 => h9) rfl dX15_wish_202 ?_
                      refine lv_aload_n hx hb dX15_wish_205 rfl (lv_at hl 1 rfl) ?_
                      refine pg_get (ci := 15) (v := .ref ak) (C := RX15) (T := TX15) (N := 59) hx hb hts it_15 hown hK hP hL_h0 hF_336 rfl 56 (by decide) (hts _ kt_1045) (fun _ h9 => h9) rfl dX15_wish_206 ?_
                      refine lv_aload_n hx hb dX15_wish_209 rfl (lv_at hl 1 rfl) ?_
                      refine pg_get (ci := 15) (v := .ref wi) (C := RX15) (T := TX15) (N := 59) hx hb hts it_15 hown hK hP hL_h0 hF_336 rfl 37 (by decide) (hts _ kt_1058) (fun _ h9 => h9) rfl dX15_wish_210 ?_
                      obtain ⟨q_341, v_342, hr_q_341, hX_q_341⟩ := hG.2.2 ("PostGateModel", 595, "aspf", [97, 115, 112, 102]) (by decide +kernel)
                      have hX_q_341 : SXc q_341 v_342 4 (cct [97, 115, 112, 102]) A s s.heap := hX_q_341
                      obtain ⟨xo_q_341, xc_q_341, xv_q_341, xt_q_341, xn_q_341⟩ := id hX_q_341
                      have hr_q_341 : vk_R "PostGateModel" 595 "aspf" q_341 s := hr_q_341
                      refine va_ldcwS hx hb hown hr_q_341 dX15_wish_213 ?_
                      obtain ⟨q_343, v_344, hr_q_343, hX_q_343⟩ := hG.2.2 ("PostGateModel", 460, "s", [115]) (by decide +kernel)
                      have hX_q_343 : SXc q_343 v_344 1 (cct [115]) A s s.heap := hX_q_343
                      obtain ⟨xo_q_343, xc_q_343, xv_q_343, xt_q_343, xn_q_343⟩ := id hX_q_343
                      have hr_q_343 : vk_R "PostGateModel" 460 "s" q_343 s := hr_q_343
                      refine va_ldcwS hx hb hown hr_q_343 dX15_wish_216 ?_
                      obtain ⟨z_345, hF_346, hq_347⟩ := hO.tags hi_52 ht_53
                      have hFc := pg_free hD hS hA
                      refine va_calli (va_runV (As := [.ref q_341, .ref q_343]) (rest := [.ref ak, .ref dm, .ref h0]) ⟨hx, hb, hml, hown, hts⟩ (s_X13_has l dC dI cs ty gm L H.size F_231 wi (ρ + 15) x_7 700 700 y0_8 y1_9 y2_10 r_58 z_345 q_341 v_342 4 (cct [97, 115, 112, 102]) q_343 v_344 1 (cct [115]) hW hi_52 ht_53 hi_54 ht_59 hF_346 (by first | omega | assumption)) ⟨callB_of 2 hts (gi kt_878) rfl rfl rfl (hts _ kt_844) (hts _ kt_879) (by decide +kernel) ⟨Nat.le_of_ble_eq_true rfl, Nat.le_of_ble_eq_true rfl⟩, (hts _ kt_880), (hts _ kt_881)⟩ ⟨fun a U g mk q => ⟨q.1, PTEm.calling q.2⟩, pg_recv hK hP hi_52 hF_346 (q := (RX13, TX13, 5)) rfl, fun U hU hWm => ⟨rfl, PTEm.mk hU hWm hP hK hD hE hO hG (fun x hx => by simp only [List.mem_cons, List.not_mem_nil, or_false] at hx; rcases hx with hx | hx <;> subst hx <;> first | exact hX_q_341 | exact hX_q_343) hS hFc⟩⟩ rfl rfl hl.1 rfl (lv_room (Nat.le_of_ble_eq_true rfl)) dX15_wish_219 ⟨by show _ + 0 ≤ 0; omega, by show _ + 0 ≤ 0; omega⟩) hS (fun q _ h => hFc q h) hFc (fun r_348 u t H1 locs ht hvm hw hB hz1 hk1 hS => ?_)
                      obtain ⟨F_349, hB1⟩ := hB
                      obtain rfl : F_231 = F_349 := (funext (fun a => hB1.2.2.2 a List.not_mem_nil)).symm
                      obtain ⟨hP, hD, hO, hR⟩ := QTm.back hB1 ht hFc hR (fun q h => absurd h List.not_mem_nil)
                      generalize H1 = H at hP hS ⊢
                      have hw : (r_348 = 0 ∨ r_348 = 1) := hw
                      have hw_350 := hw
                      have hFc := pg_free hD hS hA
                      refine va_calli (va_runV (As := [.ref dm, .ref ak, .int r_348]) (rest := []) ⟨hx, hb, hml, hown, hts⟩ (s_X15_isAligned l dC dI cs ty gm L H.size F_231 h0 ρ ta ou so ad na va lc dm tg pe ml bg co sp nb0 nb1 nb2 pl se ke wi hs mo po nu pr sq xa sa n64 m64 ex wh sd tk hd ak ho ot sx s0 s1 s2 nf bd mm ze zt dm (ρ + 5) r_2 60 ak (ρ + 28) rak 6000 r_348 hW hL_h0 hT_h0 hi_65 ht_66 hL_ak hT_ak (by first | omega | assumption) (by first | omega | assumption)) ⟨callB_of 3 hts (gi kt_1066) rfl rfl rfl (hts _ kt_669) (hts _ kt_1067) (by decide +kernel) ⟨Nat.le_of_ble_eq_true rfl, Nat.le_of_ble_eq_true rfl⟩, (hts _ kt_1068), (hts _ kt_1069)⟩ ⟨fun a U g mk q => ⟨q.1, PTm.calling q.2⟩, pg_recv hK hP hL_h0 hF_336 (q := (RX15, TX15, 59)) rfl, fun U hU hWm => ⟨rfl, PTm.mk hU hWm hP hK hD hE hO⟩⟩ rfl rfl hl.1 rfl (lv_room (Nat.le_of_ble_eq_true rfl)) dX15_wish_222 ⟨by show _ + 0 ≤ 0; omega, by show _ + 0 ≤ 0; omega⟩) hS (fun q _ h => hFc q h) hFc (fun r_351 u t H1 locs ht hvm hw hB hz1 hk1 hS => ?_)
                      obtain ⟨F_352, hB1⟩ := hB
                      obtain ⟨hP, hD, hO, hR⟩ := QTm.back hB1 ht hFc hR (fun q h => by simp only [List.mem_cons, List.not_mem_nil, or_false] at h ⊢; omega)
                      have hF_353 : F_352 va = .inl (cs 23, 40, .inr (.inr (.inr (.inr f_138)))) := (hB1.2.2.2 va (by rw [ht_137]; simp)).trans hF_232
                      have hF_354 : F_352 b_141 = .inr (14, [.ref r_142, .int (nI z_149)]) := (hB1.2.2.2 b_141 (by rw [ht_145]; simp)).trans hF_233
                      have hF_355 : F_352 b_152 = .inr (14, [.ref r_153, .int (nI z_160)]) := (hB1.2.2.2 b_152 (by rw [ht_156]; simp)).trans hF_234
                      have hF_356 : F_352 h0 = .inr (15, (.ref ta) :: (.int (nI zt)) :: (.int (nI zo_321)) :: (.int (nI ze)) :: (.ref ou) :: (.ref so) :: (.ref ad) :: (.ref na) :: (.ref va) :: (.ref lc) :: (.ref dm) :: (.int v11_322) :: (.int v12_323) :: (.ref tg) :: (.int v14_324) :: (.int v15_325) :: (.ref pe) :: (.int v17_326) :: (.int v18_327) :: (.int v19_328) :: (.int v20_329) :: (.int v21_330) :: (.int v22_331) :: (.ref ml) :: (.ref bg) :: (.ref co) :: (.ref sp) :: (.ref nb0) :: (.ref nb1) :: (.ref nb2) :: (.int (nI nf)) :: (.int (nI bd)) :: (.int (nI mm)) :: (.int v33_332) :: (.ref pl) :: (.ref se) :: (.ref ke) :: (.ref wi) :: (.ref hs) :: (.ref mo) :: (.ref po) :: (.ref nu) :: (.ref pr) :: (.ref sq) :: (.ref xa) :: (.ref sa) :: (.ref n64) :: (.ref m64) :: (.ref ex) :: (.ref wh) :: (.ref sd) :: (.ref tk) :: (.int v52_333) :: (.int v53_334) :: (.int v54_335) :: (.ref hd) :: (.ref ak) :: (.ref ho) :: (.ref ot) :: []) := (hB1.2.2.2 h0 (by rw [hT_h0]; simp)).trans hF_336
                      have hF_357 : F_352 wi = .inr (13, [.ref x_7, .ref y0_8, .ref y1_9, .ref y2_10, .int (nI z_345)]) := (hB1.2.2.2 wi (by rw [ht_53]; simp)).trans hF_346
                      generalize H1 = H at hP hS ⊢
                      have hw : (r_351 = 0 ∨ r_351 = 1) := hw
                      have hw_358 := hw
                      refine lv_if_eq (tgt := 230) hx hb dX15_wish_225 (by decide) (fun c_359 => ?_) (fun c_359 => ?_)
                      ·
                        refine lv_iconst (v := 0) hx hb dX15_wish_230 (by decide) ?_
                        refine lv_istore (lv' := [(5, .int 0), (4, .int s4), (0, .ref h0), (1, .int x1)]) hx hb dX15_wish_231 hl (by decide) rfl (fun ls hl => ?_)
                        refine W.widen (k := 0) (n := 0) (by omega) (by omega) ?_
                        have hF_361 : F va = .inl (cs 23, 40, .inr (.inr (.inr (.inr f_138)))) := (hR va (by rw [ht_137]; simp)).symm.trans hF_353
                        have hF_362 : F b_141 = .inr (14, [.ref r_142, .int (nI z_149)]) := (hR b_141 (by rw [ht_145]; simp)).symm.trans hF_354
                        have hF_363 : F b_152 = .inr (14, [.ref r_153, .int (nI z_160)]) := (hR b_152 (by rw [ht_156]; simp)).symm.trans hF_355
                        refine pl_loopm (σ := Nat) A (dC, dI) cs ty gm L [ρ, ρ + 6, ρ + 7, ρ + 10, ρ + 11, ρ + 12, ρ + 13, ρ + 14, ρ + 15, ρ + 16, ρ + 17, ρ + 18, ρ + 19, ρ + 20, ρ + 21, ρ + 22, ρ + 23, ρ + 24, ρ + 25, ρ + 26, ρ + 28, ρ + 29, ρ + 30] F 233 6 (fun j => [(5, .int (nI j)), (4, .int s4), (0, .ref h0), (1, .int x1)]) (fun j => []) (fun j _ => j ≤ nf) (fun j => nf - j) ?_ 0 F_352 (by omega) hO hR _ _ hP hD hS ls (lv_sub hl [0, 1, 2, 3] rfl)
                        rintro j F_360 hv_364 hO hR ih_365 H locs hP hD hS ls hl
                        have hl : lv_has ls 6 [(5, .int (nI j)), (4, .int s4), (0, .ref h0), (1, .int x1)] := hl
                        have hv_364 : j ≤ nf := hv_364
                        refine W.eq (g2 := F0 m 233 ls []) rfl ?_
                        have hF_366 : F_360 va = .inl (cs 23, 40, .inr (.inr (.inr (.inr f_138)))) := (hR va (by rw [ht_137]; simp)).trans hF_361
                        have hF_367 : F_360 b_141 = .inr (14, [.ref r_142, .int (nI z_149)]) := (hR b_141 (by rw [ht_145]; simp)).trans hF_362
                        have hF_368 : F_360 b_152 = .inr (14, [.ref r_153, .int (nI z_160)]) := (hR b_152 (by rw [ht_156]; simp)).trans hF_363
                        refine lv_iload hx hb dX15_wish_233 (lv_at hl 0 rfl) ?_
                        refine lv_aload_n hx hb dX15_wish_235 rfl (lv_at hl 2 rfl) ?_
                        obtain ⟨zo_369, v11_370, v12_371, v14_372, v15_373, v17_374, v18_375, v19_376, v20_377, v21_378, v22_379, v33_380, v52_381, v53_382, v54_383, hF_384, hq_385, hq_386, hq_387, hq_388⟩ := hO.mod hL_h0 hT_h0
                        refine pg_get (ci := 15) (v := .int (nI nf)) (C := RX15) (T := TX15) (N := 59) hx hb hts it_15 hown hK hP hL_h0 hF_384 rfl 30 (by decide) (hts _ kt_907) (fun _ h9 => h9) rfl dX15_wish_236 ?_
                        refine lv_icmp_ge (tgt := 304) hx hb dX15_wish_239 (by decide) (fun c_389 => ?_) (fun c_389 => ?_)
                        ·
                          have hi_390 : nf ≤ j := leN (N := nf) c_389
                          refine lv_iload hx hb dX15_wish_304 (lv_at hl 1 rfl) ?_
                          refine W.widen (k := 0) (n := 0) (by omega) (by omega) ?_
                          exact W.iret (v := s4) hx hb hr (fun t ht hWm => ⟨⟨s4, (), rfl, trivial, ⟨F_360, QTm.mk ht hP hD hO hR⟩⟩, hS.F ht⟩) hS.2.2 dX15_wish_306
                        ·
                          have hi_391 : j < nf := ltN (N := nf) c_389
                          refine lv_aload_n hx hb dX15_wish_242 rfl (lv_at hl 2 rfl) ?_
                          refine lv_iload hx hb dX15_wish_243 (lv_at hl 0 rfl) ?_
                          obtain ⟨q_392, v_393, hr_q_392, hX_q_392⟩ := hG.2.2 ("PostGateModel", 376, "dkim-signature", [100, 107, 105, 109, 45, 115, 105, 103, 110, 97, 116, 117, 114, 101]) (by decide +kernel)
                          have hX_q_392 : SXc q_392 v_393 14 (cct [100, 107, 105, 109, 45, 115, 105, 103, 110, 97, 116, 117, 114, 101]) A s s.heap := hX_q_392
                          obtain ⟨xo_q_392, xc_q_392, xv_q_392, xt_q_392, xn_q_392⟩ := id hX_q_392
                          have hr_q_392 : vk_R "PostGateModel" 376 "dkim-signature" q_392 s := hr_q_392
                          refine va_ldcwS hx hb hown hr_q_392 dX15_wish_245 ?_
                          have hFc := pg_free hD hS hA
                          refine va_calli (va_runV (As := [.int (nI j), .ref q_392]) (rest := []) ⟨hx, hb, hml, hown, hts⟩ (s_X15_isNamed l dC dI cs ty gm L H.size F_360 h0 ρ ta ou so ad na va lc dm tg pe ml bg co sp nb0 nb1 nb2 pl se ke wi hs mo po nu pr sq xa sa n64 m64 ex wh sd tk hd ak ho ot sx s0 s1 s2 nf bd mm ze zt j q_392 v_393 14 (cct [100, 107, 105, 109, 45, 115, 105, 103, 110, 97, 116, 117, 114, 101]) hW hL_h0 hT_h0 (by first | omega | assumption)) ⟨callB_of 2 hts (gi kt_908) rfl rfl rfl (hts _ kt_669) (hts _ kt_909) (by decide +kernel) ⟨Nat.le_of_ble_eq_true rfl, Nat.le_of_ble_eq_true rfl⟩, (hts _ kt_910), (hts _ kt_911)⟩ ⟨fun a U g mk q => ⟨q.1, PTEm.calling q.2⟩, pg_recv hK hP hL_h0 hF_384 (q := (RX15, TX15, 59)) rfl, fun U hU hWm => ⟨rfl, PTEm.mk hU hWm hP hK hD hE hO hG (fun x hx => by rw [List.mem_singleton] at hx; subst hx; exact hX_q_392) hS hFc⟩⟩ rfl rfl hl.1 rfl (lv_room (Nat.le_of_ble_eq_true rfl)) dX15_wish_248 ⟨by show _ + 0 ≤ 0; omega, by show _ + 0 ≤ 0; omega⟩) hS (fun q _ h => hFc q h) hFc (fun r_394 u t H1 locs ht hvm hw hB hz1 hk1 hS => ?_)
                          obtain ⟨F_395, hB1⟩ := hB
                          obtain rfl : F_360 = F_395 := (funext (fun a => hB1.2.2.2 a List.not_mem_nil)).symm
                          obtain ⟨hP, hD, hO, hR⟩ := QTm.back hB1 ht hFc hR (fun q h => absurd h List.not_mem_nil)
                          generalize H1 = H at hP hS ⊢
                          have hw : (r_394 = 0 ∨ r_394 = 1) := hw
                          have hw_396 := hw
                          refine lv_if_eq (tgt := 298) hx hb dX15_wish_251 (by decide) (fun c_397 => ?_) (fun c_397 => ?_)
                          ·
                            refine lv_iinc (v := (nI (j + 1))) (lv' := [(5, .int (nI (j + 1))), (4, .int s4), (0, .ref h0), (1, .int x1)]) hx hb dX15_wish_298 hl (k := 0) rfl (nI_1 _) (by decide) rfl (fun ls hl => ?_)
                            refine lv_goto (tgt := 233) hx hb dX15_wish_301 (by decide) ?_
                            refine W.widen (k := 0) (n := 0) (by omega) (by omega) ?_
                            exact ih_365 (j + 1) F_360 (by first | omega | exact ⟨by omega, by omega⟩ | trivial) (by show nf - (j + 1) < nf - j; omega) hO hR _ _ hP hD hS ls (lv_sub hl [0, 1, 2, 3] rfl)
                          ·
                            refine lv_aload_n hx hb dX15_wish_254 rfl (lv_at hl 2 rfl) ?_
                            refine lv_iload hx hb dX15_wish_255 (lv_at hl 0 rfl) ?_
                            refine lv_iload_n hx hb dX15_wish_257 rfl (lv_at hl 3 rfl) ?_
                            have hFc := pg_free hD hS hA
                            refine va_calli (va_runV (As := [.int (nI j), .int x1]) (rest := []) ⟨hx, hb, hml, hown, hts⟩ (s_X15_sealOf l dC dI cs ty gm L H.size F_360 h0 ρ ta ou so ad na va lc dm tg pe ml bg co sp nb0 nb1 nb2 pl se ke wi hs mo po nu pr sq xa sa n64 m64 ex wh sd tk hd ak ho ot sx s0 s1 s2 nf bd mm ze zt sb rl j x1 hW hL_h0 hT_h0 hL_sx hT_sx hL_pl hT_pl (by first | omega | assumption)) ⟨callB_of 2 hts (gi kt_1041) rfl rfl rfl (hts _ kt_669) (hts _ kt_1042) (by decide +kernel) ⟨Nat.le_of_ble_eq_true rfl, Nat.le_of_ble_eq_true rfl⟩, (hts _ kt_1043), (hts _ kt_1044)⟩ ⟨fun a U g mk q => ⟨q.1, PTEm.calling q.2⟩, pg_recv hK hP hL_h0 hF_384 (q := (RX15, TX15, 59)) rfl, fun U hU hWm => ⟨rfl, PTEm.mk hU hWm hP hK hD hE hO hG (fun x hx => absurd hx List.not_mem_nil) hS hFc⟩⟩ rfl rfl hl.1 rfl (lv_room (Nat.le_of_ble_eq_true rfl)) dX15_wish_258 ⟨by show _ + 0 ≤ 0; omega, by show _ + 0 ≤ 0; omega⟩) hS (fun q _ h => hFc q h) hFc (fun r_398 u t H1 locs ht hvm hw hB hz1 hk1 hS => ?_)
                            obtain ⟨F_399, hB1⟩ := hB
                            obtain ⟨hP, hD, hO, hR⟩ := QTm.back hB1 ht hFc hR (fun q h => by simp only [List.mem_cons, List.not_mem_nil, or_false] at h ⊢; omega)
                            have hF_400 : F_399 va = .inl (cs 23, 40, .inr (.inr (.inr (.inr f_138)))) := (hB1.2.2.2 va (by rw [ht_137]; simp)).trans hF_366
                            have hF_401 : F_399 b_141 = .inr (14, [.ref r_142, .int (nI z_149)]) := (hB1.2.2.2 b_141 (by rw [ht_145]; simp)).trans hF_367
                            have hF_402 : F_399 b_152 = .inr (14, [.ref r_153, .int (nI z_160)]) := (hB1.2.2.2 b_152 (by rw [ht_156]; simp)).trans hF_368
                            generalize H1 = H at hP hS ⊢
                            have hw : True := hw
                            have hw_403 := hw
                            refine lv_iconst (v := 2) hx hb dX15_wish_261 (by decide) ?_
                            refine lv_icmp_eq (tgt := 268) hx hb dX15_wish_262 (by decide) (fun c_404 => ?_) (fun c_404 => ?_)
                            ·
                              refine lv_aload_n hx hb dX15_wish_268 rfl (lv_at hl 2 rfl) ?_
                              refine lv_aload_n hx hb dX15_wish_269 rfl (lv_at hl 2 rfl) ?_
                              obtain ⟨zo_405, v11_406, v12_407, v14_408, v15_409, v17_410, v18_411, v19_412, v20_413, v21_414, v22_415, v33_416, v52_417, v53_418, v54_419, hF_420, hq_421, hq_422, hq_423, hq_424⟩ := hO.mod hL_h0 hT_h0
                              refine pg_get (ci := 15) (v := .ref sd) (C := RX15) (T := TX15) (N := 59) hx hb hts it_15 hown hK hP hL_h0 hF_420 rfl 50 (by decide) (hts _ kt_1017) (fun _ h9 => h9) rfl dX15_wish_270 ?_
                              refine lv_aload_n hx hb dX15_wish_273 rfl (lv_at hl 2 rfl) ?_
                              refine pg_get (ci := 15) (v := .ref ak) (C := RX15) (T := TX15) (N := 59) hx hb hts it_15 hown hK hP hL_h0 hF_420 rfl 56 (by decide) (hts _ kt_1045) (fun _ h9 => h9) rfl dX15_wish_274 ?_
                              refine lv_aload_n hx hb dX15_wish_277 rfl (lv_at hl 2 rfl) ?_
                              refine pg_get (ci := 15) (v := .ref wi) (C := RX15) (T := TX15) (N := 59) hx hb hts it_15 hown hK hP hL_h0 hF_420 rfl 37 (by decide) (hts _ kt_1058) (fun _ h9 => h9) rfl dX15_wish_278 ?_
                              obtain ⟨q_425, v_426, hr_q_425, hX_q_425⟩ := hG.2.2 ("PostGateModel", 601, "adkim", [97, 100, 107, 105, 109]) (by decide +kernel)
                              have hX_q_425 : SXc q_425 v_426 5 (cct [97, 100, 107, 105, 109]) A s s.heap := hX_q_425
                              obtain ⟨xo_q_425, xc_q_425, xv_q_425, xt_q_425, xn_q_425⟩ := id hX_q_425
                              have hr_q_425 : vk_R "PostGateModel" 601 "adkim" q_425 s := hr_q_425
                              refine va_ldcwS hx hb hown hr_q_425 dX15_wish_281 ?_
                              refine va_ldcwS hx hb hown hr_q_343 dX15_wish_284 ?_
                              obtain ⟨z_427, hF_428, hq_429⟩ := hO.tags hi_52 ht_53
                              have hFc := pg_free hD hS hA
                              refine va_calli (va_runV (As := [.ref q_425, .ref q_343]) (rest := [.ref ak, .ref sd, .ref h0]) ⟨hx, hb, hml, hown, hts⟩ (s_X13_has l dC dI cs ty gm L H.size F_399 wi (ρ + 15) x_7 700 700 y0_8 y1_9 y2_10 r_58 z_427 q_425 v_426 5 (cct [97, 100, 107, 105, 109]) q_343 v_344 1 (cct [115]) hW hi_52 ht_53 hi_54 ht_59 hF_428 (by first | omega | assumption)) ⟨callB_of 2 hts (gi kt_878) rfl rfl rfl (hts _ kt_844) (hts _ kt_879) (by decide +kernel) ⟨Nat.le_of_ble_eq_true rfl, Nat.le_of_ble_eq_true rfl⟩, (hts _ kt_880), (hts _ kt_881)⟩ ⟨fun a U g mk q => ⟨q.1, PTEm.calling q.2⟩, pg_recv hK hP hi_52 hF_428 (q := (RX13, TX13, 5)) rfl, fun U hU hWm => ⟨rfl, PTEm.mk hU hWm hP hK hD hE hO hG (fun x hx => by simp only [List.mem_cons, List.not_mem_nil, or_false] at hx; rcases hx with hx | hx <;> subst hx <;> first | exact hX_q_425 | exact hX_q_343) hS hFc⟩⟩ rfl rfl hl.1 rfl (lv_room (Nat.le_of_ble_eq_true rfl)) dX15_wish_287 ⟨by show _ + 0 ≤ 0; omega, by show _ + 0 ≤ 0; omega⟩) hS (fun q _ h => hFc q h) hFc (fun r_430 u t H1 locs ht hvm hw hB hz1 hk1 hS => ?_)
                              obtain ⟨F_431, hB1⟩ := hB
                              obtain rfl : F_399 = F_431 := (funext (fun a => hB1.2.2.2 a List.not_mem_nil)).symm
                              obtain ⟨hP, hD, hO, hR⟩ := QTm.back hB1 ht hFc hR (fun q h => absurd h List.not_mem_nil)
                              generalize H1 = H at hP hS ⊢
                              have hw : (r_430 = 0 ∨ r_430 = 1) := hw
                              have hw_432 := hw
                              have hFc := pg_free hD hS hA
                              refine va_calli (va_runV (As := [.ref sd, .ref ak, .int r_430]) (rest := []) ⟨hx, hb, hml, hown, hts⟩ (s_X15_isAligned l dC dI cs ty gm L H.size F_399 h0 ρ ta ou so ad na va lc dm tg pe ml bg co sp nb0 nb1 nb2 pl se ke wi hs mo po nu pr sq xa sa n64 m64 ex wh sd tk hd ak ho ot sx s0 s1 s2 nf bd mm ze zt sd (ρ + 25) r_17 3000 ak (ρ + 28) rak 6000 r_430 hW hL_h0 hT_h0 hi_70 ht_71 hL_ak hT_ak (by first | omega | assumption) (by first | omega | assumption)) ⟨callB_of 3 hts (gi kt_1066) rfl rfl rfl (hts _ kt_669) (hts _ kt_1067) (by decide +kernel) ⟨Nat.le_of_ble_eq_true rfl, Nat.le_of_ble_eq_true rfl⟩, (hts _ kt_1068), (hts _ kt_1069)⟩ ⟨fun a U g mk q => ⟨q.1, PTm.calling q.2⟩, pg_recv hK hP hL_h0 hF_420 (q := (RX15, TX15, 59)) rfl, fun U hU hWm => ⟨rfl, PTm.mk hU hWm hP hK hD hE hO⟩⟩ rfl rfl hl.1 rfl (lv_room (Nat.le_of_ble_eq_true rfl)) dX15_wish_290 ⟨by show _ + 0 ≤ 0; omega, by show _ + 0 ≤ 0; omega⟩) hS (fun q _ h => hFc q h) hFc (fun r_433 u t H1 locs ht hvm hw hB hz1 hk1 hS => ?_)
                              obtain ⟨F_434, hB1⟩ := hB
                              obtain ⟨hP, hD, hO, hR⟩ := QTm.back hB1 ht hFc hR (fun q h => by simp only [List.mem_cons, List.not_mem_nil, or_false] at h ⊢; omega)
                              have hF_435 : F_434 va = .inl (cs 23, 40, .inr (.inr (.inr (.inr f_138)))) := (hB1.2.2.2 va (by rw [ht_137]; simp)).trans hF_400
                              have hF_436 : F_434 b_141 = .inr (14, [.ref r_142, .int (nI z_149)]) := (hB1.2.2.2 b_141 (by rw [ht_145]; simp)).trans hF_401
                              have hF_437 : F_434 b_152 = .inr (14, [.ref r_153, .int (nI z_160)]) := (hB1.2.2.2 b_152 (by rw [ht_156]; simp)).trans hF_402
                              have hF_438 : F_434 h0 = .inr (15, (.ref ta) :: (.int (nI zt)) :: (.int (nI zo_405)) :: (.int (nI ze)) :: (.ref ou) :: (.ref so) :: (.ref ad) :: (.ref na) :: (.ref va) :: (.ref lc) :: (.ref dm) :: (.int v11_406) :: (.int v12_407) :: (.ref tg) :: (.int v14_408) :: (.int v15_409) :: (.ref pe) :: (.int v17_410) :: (.int v18_411) :: (.int v19_412) :: (.int v20_413) :: (.int v21_414) :: (.int v22_415) :: (.ref ml) :: (.ref bg) :: (.ref co) :: (.ref sp) :: (.ref nb0) :: (.ref nb1) :: (.ref nb2) :: (.int (nI nf)) :: (.int (nI bd)) :: (.int (nI mm)) :: (.int v33_416) :: (.ref pl) :: (.ref se) :: (.ref ke) :: (.ref wi) :: (.ref hs) :: (.ref mo) :: (.ref po) :: (.ref nu) :: (.ref pr) :: (.ref sq) :: (.ref xa) :: (.ref sa) :: (.ref n64) :: (.ref m64) :: (.ref ex) :: (.ref wh) :: (.ref sd) :: (.ref tk) :: (.int v52_417) :: (.int v53_418) :: (.int v54_419) :: (.ref hd) :: (.ref ak) :: (.ref ho) :: (.ref ot) :: []) := (hB1.2.2.2 h0 (by rw [hT_h0]; simp)).trans hF_420
                              have hF_439 : F_434 wi = .inr (13, [.ref x_7, .ref y0_8, .ref y1_9, .ref y2_10, .int (nI z_427)]) := (hB1.2.2.2 wi (by rw [ht_53]; simp)).trans hF_428
                              generalize H1 = H at hP hS ⊢
                              have hw : (r_433 = 0 ∨ r_433 = 1) := hw
                              have hw_440 := hw
                              refine lv_if_eq (tgt := 298) hx hb dX15_wish_293 (by decide) (fun c_441 => ?_) (fun c_441 => ?_)
                              ·
                                refine lv_iinc (v := (nI (j + 1))) (lv' := [(5, .int (nI (j + 1))), (4, .int s4), (0, .ref h0), (1, .int x1)]) hx hb dX15_wish_298 hl (k := 0) rfl (nI_1 _) (by decide) rfl (fun ls hl => ?_)
                                refine lv_goto (tgt := 233) hx hb dX15_wish_301 (by decide) ?_
                                refine W.widen (k := 0) (n := 0) (by omega) (by omega) ?_
                                exact ih_365 (j + 1) F_434 (by first | omega | exact ⟨by omega, by omega⟩ | trivial) (by show nf - (j + 1) < nf - j; omega) hO hR _ _ hP hD hS ls (lv_sub hl [0, 1, 2, 3] rfl)
                              ·
                                refine lv_iconst (v := 2) hx hb dX15_wish_296 (by decide) ?_
                                refine W.widen (k := 0) (n := 0) (by omega) (by omega) ?_
                                exact W.iret (v := 2) hx hb hr (fun t ht hWm => ⟨⟨2, (), rfl, trivial, ⟨F_434, QTm.mk ht hP hD hO hR⟩⟩, hS.F ht⟩) hS.2.2 dX15_wish_297
                            ·
                              refine lv_goto (tgt := 298) hx hb dX15_wish_265 (by decide) ?_
                              refine lv_iinc (v := (nI (j + 1))) (lv' := [(5, .int (nI (j + 1))), (4, .int s4), (0, .ref h0), (1, .int x1)]) hx hb dX15_wish_298 hl (k := 0) rfl (nI_1 _) (by decide) rfl (fun ls hl => ?_)
                              refine lv_goto (tgt := 233) hx hb dX15_wish_301 (by decide) ?_
                              refine W.widen (k := 0) (n := 0) (by omega) (by omega) ?_
                              exact ih_365 (j + 1) F_399 (by first | omega | exact ⟨by omega, by omega⟩ | trivial) (by show nf - (j + 1) < nf - j; omega) hO hR _ _ hP hD hS ls (lv_sub hl [0, 1, 2, 3] rfl)
                      ·
                        refine lv_iconst (v := 2) hx hb dX15_wish_228 (by decide) ?_
                        refine W.widen (k := 0) (n := 0) (by omega) (by omega) ?_
                        exact W.iret (v := 2) hx hb hr (fun t ht hWm => ⟨⟨2, (), rfl, trivial, ⟨F_352, QTm.mk ht hP hD hO hR⟩⟩, hS.F ht⟩) hS.2.2 dX15_wish_229
                  ·
                    refine lv_iload_n hx hb dX15_wish_153 rfl (lv_at hl 2 rfl) ?_
                    refine lv_if_ne (tgt := 192) hx hb dX15_wish_154 (by decide) (fun c_442 => ?_) (fun c_442 => ?_)
                    ·
                      refine W.widen (k := 0) (n := 0) (by omega) (by omega) ?_
                      exact jn_201 r_197 F_183 (trivial) hO hR _ _ hP hD hS ls (lv_sub hl [0, 3, 4] rfl)
                    ·
                      refine lv_aload_n hx hb dX15_wish_157 rfl (lv_at hl 3 rfl) ?_
                      refine pg_get (ci := 15) (v := .ref wi) (C := RX15) (T := TX15) (N := 59) hx hb hts it_15 hown hK hP hL_h0 hF_188 rfl 37 (by decide) (hts _ kt_1058) (fun _ h9 => h9) rfl dX15_wish_158 ?_
                      obtain ⟨q_443, v_444, hr_q_443, hX_q_443⟩ := hG.2.2 ("PostGateModel", 590, "sp", [115, 112]) (by decide +kernel)
                      have hX_q_443 : SXc q_443 v_444 2 (cct [115, 112]) A s s.heap := hX_q_443
                      obtain ⟨xo_q_443, xc_q_443, xv_q_443, xt_q_443, xn_q_443⟩ := id hX_q_443
                      have hr_q_443 : vk_R "PostGateModel" 590 "sp" q_443 s := hr_q_443
                      refine va_ldcwS hx hb hown hr_q_443 dX15_wish_161 ?_
                      have hFc := pg_free hD hS hA
                      refine va_calli (va_runV (As := [.ref q_443]) (rest := []) ⟨hx, hb, hml, hown, hts⟩ (s_X13_find l dC dI cs ty gm L H.size F_183 wi (ρ + 15) x_7 700 700 y0_8 y1_9 y2_10 r_58 z2_184 q_443 v_444 2 (cct [115, 112]) hW hi_52 ht_53 hi_54 ht_59 hq_185 (by first | omega | assumption)) ⟨callB_of 1 hts (gi kt_843) rfl rfl rfl (hts _ kt_844) (hts _ kt_854) (by decide +kernel) ⟨Nat.le_of_ble_eq_true rfl, Nat.le_of_ble_eq_true rfl⟩, (hts _ kt_846), (hts _ kt_847)⟩ ⟨fun a U g mk q => ⟨q.1, PTEm.calling q.2⟩, pg_recv hK hP hi_52 hq_185 (q := (RX13, TX13, 5)) rfl, fun U hU hWm => ⟨rfl, PTEm.mk hU hWm hP hK hD hE hO hG (fun x hx => by rw [List.mem_singleton] at hx; subst hx; exact hX_q_443) hS hFc⟩⟩ rfl rfl hl.1 rfl (lv_room (Nat.le_of_ble_eq_true rfl)) dX15_wish_164 ⟨by show _ + 0 ≤ 0; omega, by show _ + 0 ≤ 0; omega⟩) hS (fun q _ h => hFc q h) hFc (fun r_445 u t H1 locs ht hvm hw hB hz1 hk1 hS => ?_)
                      obtain ⟨F_446, hB1⟩ := hB
                      obtain rfl : F_183 = F_446 := (funext (fun a => hB1.2.2.2 a List.not_mem_nil)).symm
                      obtain ⟨hP, hD, hO, hR⟩ := QTm.back hB1 ht hFc hR (fun q h => absurd h List.not_mem_nil)
                      generalize H1 = H at hP hS ⊢
                      have hw : FND (gA (F_183 r_58)) (gA (F_183 y0_8)) (gA (F_183 y1_9)) z2_184 (cct [115, 112]) 2 r_445 := hw
                      have hw_447 := hw
                      refine lv_if_lt (tgt := 192) hx hb dX15_wish_167 (by decide) (fun c_448 => ?_) (fun c_448 => ?_)
                      ·
                        refine W.widen (k := 0) (n := 0) (by omega) (by omega) ?_
                        exact jn_201 r_197 F_183 (trivial) hO hR _ _ hP hD hS ls (lv_sub hl [0, 3, 4] rfl)
                      ·
                        refine lv_aload_n hx hb dX15_wish_170 rfl (lv_at hl 3 rfl) ?_
                        refine pg_get (ci := 15) (v := .ref wi) (C := RX15) (T := TX15) (N := 59) hx hb hts it_15 hown hK hP hL_h0 hF_188 rfl 37 (by decide) (hts _ kt_1058) (fun _ h9 => h9) rfl dX15_wish_171 ?_
                        refine va_ldcwS hx hb hown hr_q_443 dX15_wish_174 ?_
                        have hFc := pg_free hD hS hA
                        refine va_calli (va_runS (As := [.ref wi, .ref q_443]) (rest := []) ⟨hx, hb, hml, hown, hts⟩ (s_X15_wanted l dC dI cs ty gm L H.size F_183 wi (ρ + 15) x_7 700 700 y0_8 y1_9 y2_10 r_58 z2_184 q_443 v_444 2 (cct [115, 112]) hW hi_52 ht_53 hi_54 ht_59 hq_185 (by first | omega | assumption)) ⟨callB_of 2 hts (gi kt_1059) rfl rfl rfl (hts _ kt_669) (hts _ kt_1060) (by decide +kernel) ⟨Nat.le_of_ble_eq_true rfl, Nat.le_of_ble_eq_true rfl⟩, (hts _ kt_1061)⟩ ⟨fun a U g mk q => ⟨q.1, PTEm.calling q.2⟩, fun U hU hWm => ⟨rfl, PTEm.mk hU hWm hP hK hD hE hO hG (fun x hx => by rw [List.mem_singleton] at hx; subst hx; exact hX_q_443) hS hFc⟩⟩ rfl rfl hl.1 rfl (lv_room (Nat.le_of_ble_eq_true rfl)) dX15_wish_177 ⟨by show _ + 0 ≤ 0; omega, by show _ + 0 ≤ 0; omega⟩) hS (fun q _ h => hFc q h) hFc (fun r_449 u t H1 locs ht hvm hw hB hz1 hk1 hS => ?_)
                        obtain ⟨F_450, hB1⟩ := hB
                        obtain rfl : F_183 = F_450 := (funext (fun a => hB1.2.2.2 a List.not_mem_nil)).symm
                        obtain ⟨hP, hD, hO, hR⟩ := QTm.back hB1 ht hFc hR (fun q h => absurd h List.not_mem_nil)
                        generalize H1 = H at hP hS ⊢
                        have hw : True := hw
                        have hw_451 := hw
                        refine lv_istore (lv' := [(4, .int r_449), (3, .int (nI kv)), (2, .int sw2), (0, .ref h0), (1, .int x1)]) hx hb dX15_wish_180 hl (by decide) rfl (fun ls hl => ?_)
                        refine lv_iload hx hb dX15_wish_182 (lv_at hl 0 rfl) ?_
                        refine lv_bipush (v := 6) hx hb dX15_wish_184 (by decide) ?_
                        refine lv_icmp_ne (tgt := 192) hx hb dX15_wish_186 (by decide) (fun c_452 => ?_) (fun c_452 => ?_)
                        ·
                          refine W.widen (k := 0) (n := 0) (by omega) (by omega) ?_
                          exact jn_201 r_449 F_183 (trivial) hO hR _ _ hP hD hS ls (lv_sub hl [0, 3, 4] rfl)
                        ·
                          refine lv_bipush (v := 6) hx hb dX15_wish_189 (by decide) ?_
                          refine W.widen (k := 0) (n := 0) (by omega) (by omega) ?_
                          exact W.iret (v := 6) hx hb hr (fun t ht hWm => ⟨⟨6, (), rfl, trivial, ⟨F_183, QTm.mk ht hP hD hO hR⟩⟩, hS.F ht⟩) hS.2.2 dX15_wish_191
                ·
                  refine lv_bipush (v := 6) hx hb dX15_wish_150 (by decide) ?_
                  refine W.widen (k := 0) (n := 0) (by omega) (by omega) ?_
                  exact W.iret (v := 6) hx hb hr (fun t ht hWm => ⟨⟨6, (), rfl, trivial, ⟨F_183, QTm.mk ht hP hD hO hR⟩⟩, hS.F ht⟩) hS.2.2 dX15_wish_152
              ·
                refine lv_bipush (v := 6) hx hb dX15_wish_128 (by decide) ?_
                refine W.widen (k := 0) (n := 0) (by omega) (by omega) ?_
                exact W.iret (v := 6) hx hb hr (fun t ht hWm => ⟨⟨6, (), rfl, trivial, ⟨F_183, QTm.mk ht hP hD hO hR⟩⟩, hS.F ht⟩) hS.2.2 dX15_wish_130
            ·
              refine lv_iload_n hx hb dX15_wish_75 rfl (lv_at hl 0 rfl) ?_
              refine lv_bipush (v := (-2)) hx hb dX15_wish_76 (by decide) ?_
              refine lv_icmp_ne (tgt := 85) hx hb dX15_wish_78 (by decide) (fun c_453 => ?_) (fun c_453 => ?_)
              ·
                refine lv_iconst (v := 0) hx hb dX15_wish_85 (by decide) ?_
                refine W.widen (k := 0) (n := 0) (by omega) (by omega) ?_
                exact W.iret (v := 0) hx hb hr (fun t ht hWm => ⟨⟨0, (), rfl, trivial, ⟨F_113, QTm.mk ht hP hD hO hR⟩⟩, hS.F ht⟩) hS.2.2 dX15_wish_86
              ·
                refine lv_iconst (v := 5) hx hb dX15_wish_81 (by decide) ?_
                refine lv_goto (tgt := 86) hx hb dX15_wish_82 (by decide) ?_
                refine W.widen (k := 0) (n := 0) (by omega) (by omega) ?_
                exact W.iret (v := 5) hx hb hr (fun t ht hWm => ⟨⟨5, (), rfl, trivial, ⟨F_113, QTm.mk ht hP hD hO hR⟩⟩, hS.F ht⟩) hS.2.2 dX15_wish_86
          ·
            refine lv_iload_n hx hb dX15_wish_43 rfl (lv_at hl 0 rfl) ?_
            refine lv_iconst (v := (-1)) hx hb dX15_wish_44 (by decide) ?_
            refine lv_icmp_ne (tgt := 71) hx hb dX15_wish_45 (by decide) (fun c_454 => ?_) (fun c_454 => ?_)
            ·
              refine W.widen (k := 0) (n := 0) (by omega) (by omega) ?_
              exact jn_112 (r_107, 1) F_108 (⟨hw_111, hF_110⟩) hO hR _ _ hP hD hS ls (lv_sub hl [0, 1, 2, 3] rfl)
            ·
              refine lv_iconst (v := 0) hx hb dX15_wish_48 (by decide) ?_
              refine lv_istore_n (lv' := [(2, .int 0), (3, .int r_107), (0, .ref h0), (1, .int x1)]) hx hb dX15_wish_49 rfl hl (by decide) rfl (fun ls hl => ?_)
              refine lv_aload_n hx hb dX15_wish_50 rfl (lv_at hl 2 rfl) ?_
              refine lv_aload_n hx hb dX15_wish_51 rfl (lv_at hl 2 rfl) ?_
              refine pg_get (ci := 15) (v := .ref ak) (C := RX15) (T := TX15) (N := 59) hx hb hts it_15 hown hK hP hL_h0 hF_109 rfl 56 (by decide) (hts _ kt_1045) (fun _ h9 => h9) rfl dX15_wish_52 ?_
              refine lv_aload_n hx hb dX15_wish_55 rfl (lv_at hl 2 rfl) ?_
              refine pg_get (ci := 15) (v := .ref ho) (C := RX15) (T := TX15) (N := 59) hx hb hts it_15 hown hK hP hL_h0 hF_109 rfl 57 (by decide) (hts _ kt_1007) (fun _ h9 => h9) rfl dX15_wish_56 ?_
              have hFc := pg_free hD hS hA
              refine va_callv (va_runV (As := [.ref ak, .ref ho]) (rest := []) ⟨hx, hb, hml, hown, hts⟩ (s_X15_houseOf l dC dI cs ty gm L H.size F_108 h0 ρ ta ou so ad na va lc dm tg pe ml bg co sp nb0 nb1 nb2 pl se ke wi hs mo po nu pr sq xa sa n64 m64 ex wh sd tk hd ak ho ot sx s0 s1 s2 nf bd mm ze zt ak (ρ + 28) rak 6000 ho (ρ + 29) r_18 6000 za_101 hW hL_h0 hT_h0 hL_ak hT_ak hi_47 ht_48 hF_110 (by first | omega | assumption) (by first | omega | assumption)) ⟨callB_of 2 hts (gi kt_1008) rfl rfl rfl (hts _ kt_669) (hts _ kt_1009) (by decide +kernel) ⟨Nat.le_of_ble_eq_true rfl, Nat.le_of_ble_eq_true rfl⟩, (hts _ kt_1010), (hts _ kt_1011)⟩ ⟨fun a U g mk q => ⟨q.1, PTm.calling q.2⟩, pg_recv hK hP hL_h0 hF_109 (q := (RX15, TX15, 59)) rfl, fun U hU hWm => ⟨rfl, PTm.mk hU hWm hP hK hD hE hO⟩⟩ rfl rfl hl.1 rfl (lv_room (Nat.le_of_ble_eq_true rfl)) dX15_wish_59 ⟨by show _ + 0 ≤ 0; omega, by show _ + 0 ≤ 0; omega⟩) hS (fun q _ h => hFc q h) hFc (fun u t H1 locs ht hvm hw hB hz1 hk1 hS => ?_)
              obtain ⟨F_456, y2_457, hB1, hq_458, hq_459⟩ := hB
              obtain ⟨hP, hD, hO, hR⟩ := QTm.back hB1 ht hFc hR (fun q h => by simp only [List.mem_cons, List.not_mem_nil, or_false] at h ⊢; omega)
              have hF_460 : F_456 h0 = .inr (15, (.ref ta) :: (.int (nI zt)) :: (.int (nI zo_75)) :: (.int (nI ze)) :: (.ref ou) :: (.ref so) :: (.ref ad) :: (.ref na) :: (.ref va) :: (.ref lc) :: (.ref dm) :: (.int v11_76) :: (.int v12_77) :: (.ref tg) :: (.int v14_78) :: (.int v15_79) :: (.ref pe) :: (.int v17_80) :: (.int v18_81) :: (.int v19_82) :: (.int v20_83) :: (.int v21_84) :: (.int v22_85) :: (.ref ml) :: (.ref bg) :: (.ref co) :: (.ref sp) :: (.ref nb0) :: (.ref nb1) :: (.ref nb2) :: (.int (nI nf)) :: (.int (nI bd)) :: (.int (nI mm)) :: (.int v33_86) :: (.ref pl) :: (.ref se) :: (.ref ke) :: (.ref wi) :: (.ref hs) :: (.ref mo) :: (.ref po) :: (.ref nu) :: (.ref pr) :: (.ref sq) :: (.ref xa) :: (.ref sa) :: (.ref n64) :: (.ref m64) :: (.ref ex) :: (.ref wh) :: (.ref sd) :: (.ref tk) :: (.int v52_87) :: (.int v53_88) :: (.int v54_89) :: (.ref hd) :: (.ref ak) :: (.ref ho) :: (.ref ot) :: []) := (hB1.2.2.2 h0 (by rw [hT_h0]; simp)).trans hF_109
              have hF_461 : F_456 ak = .inr (14, [.ref rak, .int (nI za_101)]) := (hB1.2.2.2 ak (by rw [hT_ak]; simp)).trans hF_110
              generalize H1 = H at hP hS ⊢
              refine lv_aload_n hx hb dX15_wish_62 rfl (lv_at hl 2 rfl) ?_
              refine lv_aload_n hx hb dX15_wish_63 rfl (lv_at hl 2 rfl) ?_
              refine pg_get (ci := 15) (v := .ref ho) (C := RX15) (T := TX15) (N := 59) hx hb hts it_15 hown hK hP hL_h0 hF_460 rfl 57 (by decide) (hts _ kt_1007) (fun _ h9 => h9) rfl dX15_wish_64 ?_
              have hFc := pg_free hD hS hA
              refine va_calli (va_runV (As := [.ref ho]) (rest := []) ⟨hx, hb, hml, hown, hts⟩ (s_X15_wantedOf l dC dI cs ty gm L H.size F_456 h0 ρ ta ou so ad na va lc dm tg pe ml bg co sp nb0 nb1 nb2 pl se ke wi hs mo po nu pr sq xa sa n64 m64 ex wh sd tk hd ak ho ot sx s0 s1 s2 nf bd mm ze zt ho (ρ + 29) r_18 6000 y2_457 hW hL_h0 hT_h0 hi_47 ht_48 hq_458 (by first | omega | assumption) (by first | omega | assumption) (by first | omega | assumption)) ⟨callB_of 1 hts (gi kt_1054) rfl rfl rfl (hts _ kt_669) (hts _ kt_1055) (by decide +kernel) ⟨Nat.le_of_ble_eq_true rfl, Nat.le_of_ble_eq_true rfl⟩, (hts _ kt_1056), (hts _ kt_1057)⟩ ⟨fun a U g mk q => ⟨q.1, PTEm.calling q.2⟩, pg_recv hK hP hL_h0 hF_460 (q := (RX15, TX15, 59)) rfl, fun U hU hWm => ⟨rfl, PTEm.mk hU hWm hP hK hD hE hO hG (fun x hx => absurd hx List.not_mem_nil) hS hFc⟩⟩ rfl rfl hl.1 rfl (lv_room (Nat.le_of_ble_eq_true rfl)) dX15_wish_67 ⟨by show _ + 0 ≤ 0; omega, by show _ + 0 ≤ 0; omega⟩) hS (fun q _ h => hFc q h) hFc (fun r_462 u t H1 locs ht hvm hw hB hz1 hk1 hS => ?_)
              obtain ⟨F_463, hB1⟩ := hB
              obtain ⟨hP, hD, hO, hR⟩ := QTm.back hB1 ht hFc hR (fun q h => by simp only [List.mem_cons, List.not_mem_nil, or_false] at h ⊢; omega)
              have hF_464 : F_463 h0 = .inr (15, (.ref ta) :: (.int (nI zt)) :: (.int (nI zo_75)) :: (.int (nI ze)) :: (.ref ou) :: (.ref so) :: (.ref ad) :: (.ref na) :: (.ref va) :: (.ref lc) :: (.ref dm) :: (.int v11_76) :: (.int v12_77) :: (.ref tg) :: (.int v14_78) :: (.int v15_79) :: (.ref pe) :: (.int v17_80) :: (.int v18_81) :: (.int v19_82) :: (.int v20_83) :: (.int v21_84) :: (.int v22_85) :: (.ref ml) :: (.ref bg) :: (.ref co) :: (.ref sp) :: (.ref nb0) :: (.ref nb1) :: (.ref nb2) :: (.int (nI nf)) :: (.int (nI bd)) :: (.int (nI mm)) :: (.int v33_86) :: (.ref pl) :: (.ref se) :: (.ref ke) :: (.ref wi) :: (.ref hs) :: (.ref mo) :: (.ref po) :: (.ref nu) :: (.ref pr) :: (.ref sq) :: (.ref xa) :: (.ref sa) :: (.ref n64) :: (.ref m64) :: (.ref ex) :: (.ref wh) :: (.ref sd) :: (.ref tk) :: (.int v52_87) :: (.int v53_88) :: (.int v54_89) :: (.ref hd) :: (.ref ak) :: (.ref ho) :: (.ref ot) :: []) := (hB1.2.2.2 h0 (by rw [hT_h0]; simp)).trans hF_460
              have hF_465 : F_463 ak = .inr (14, [.ref rak, .int (nI za_101)]) := (hB1.2.2.2 ak (by rw [hT_ak]; simp)).trans hF_461
              have hF_466 : F_463 ho = .inr (14, [.ref r_18, .int (nI y2_457)]) := (hB1.2.2.2 ho (by rw [ht_48]; simp)).trans hq_458
              generalize H1 = H at hP hS ⊢
              have hw : (r_462 = (-1) ∨ r_462 = (-2) ∨ ∃ j : Nat, j < 40 ∧ r_462 = nI j) := hw
              have hw_467 := hw
              refine lv_istore_n (lv' := [(3, .int r_462), (2, .int 0), (0, .ref h0), (1, .int x1)]) hx hb dX15_wish_70 rfl hl (by decide) rfl (fun ls hl => ?_)
              refine W.widen (k := 0) (n := 0) (by omega) (by omega) ?_
              exact jn_112 (r_462, 0) F_463 (⟨hw_467, hF_465⟩) hO hR _ _ hP hD hS ls (lv_sub hl [0, 1, 2, 3] rfl)
        ·
          refine lv_iconst (v := 1) hx hb dX15_wish_30 (by decide) ?_
          refine W.widen (k := 0) (n := 0) (by omega) (by omega) ?_
          exact W.iret (v := 1) hx hb hr (fun t ht hWm => ⟨⟨1, (), rfl, trivial, ⟨F_100, QTm.mk ht hP hD hO hR⟩⟩, hS.F ht⟩) hS.2.2 dX15_wish_31
      ·
        refine lv_bipush (v := (-2)) hx hb dX15_wish_20 (by decide) ?_
        refine W.widen (k := 0) (n := 0) (by omega) (by omega) ?_
        exact W.iret (v := (-2)) hx hb hr (fun t ht hWm => ⟨⟨(-2), (), rfl, trivial, ⟨F, QTm.mk ht hP hD hO hR⟩⟩, hS.F ht⟩) hS.2.2 dX15_wish_22
    ·
      refine lv_iconst (v := (-1)) hx hb dX15_wish_11 (by decide) ?_
      refine W.widen (k := 0) (n := 0) (by omega) (by omega) ?_
      exact W.iret (v := (-1)) hx hb hr (fun t ht hWm => ⟨⟨(-1), (), rfl, trivial, ⟨F, QTm.mk ht hP hD hO hR⟩⟩, hS.F ht⟩) hS.2.2 dX15_wish_12
