theorem dX8_mix_0 : decode cX8_mix 0 = .ok (.bipush 16, 2) := by decide +kernel
theorem dX8_mix_2 : decode cX8_mix 2 = .ok (.istore_n 1, 1) := by decide +kernel
theorem dX8_mix_3 : decode cX8_mix 3 = .ok (.iload_n 1, 1) := by decide +kernel
theorem dX8_mix_4 : decode cX8_mix 4 = .ok (.bipush 64, 2) := by decide +kernel
theorem dX8_mix_6 : decode cX8_mix 6 = .ok (.if_icmp .ge 110, 3) := by decide +kernel
theorem dX8_mix_9 : decode cX8_mix 9 = .ok (.aload_n 0, 1) := by decide +kernel
theorem dX8_mix_10 : decode cX8_mix 10 = .ok (.getfield 7, 3) := by decide +kernel
theorem dX8_mix_13 : decode cX8_mix 13 = .ok (.iload_n 1, 1) := by decide +kernel
theorem dX8_mix_14 : decode cX8_mix 14 = .ok (.bipush 15, 2) := by decide +kernel
theorem dX8_mix_16 : decode cX8_mix 16 = .ok (.isub, 1) := by decide +kernel
theorem dX8_mix_17 : decode cX8_mix 17 = .ok (.iaload, 1) := by decide +kernel
theorem dX8_mix_18 : decode cX8_mix 18 = .ok (.istore_n 2, 1) := by decide +kernel
theorem dX8_mix_19 : decode cX8_mix 19 = .ok (.aload_n 0, 1) := by decide +kernel
theorem dX8_mix_20 : decode cX8_mix 20 = .ok (.getfield 7, 3) := by decide +kernel
theorem dX8_mix_23 : decode cX8_mix 23 = .ok (.iload_n 1, 1) := by decide +kernel
theorem dX8_mix_24 : decode cX8_mix 24 = .ok (.iconst 2, 1) := by decide +kernel
theorem dX8_mix_25 : decode cX8_mix 25 = .ok (.isub, 1) := by decide +kernel
theorem dX8_mix_26 : decode cX8_mix 26 = .ok (.iaload, 1) := by decide +kernel
theorem dX8_mix_27 : decode cX8_mix 27 = .ok (.istore_n 3, 1) := by decide +kernel
theorem dX8_mix_28 : decode cX8_mix 28 = .ok (.iload_n 2, 1) := by decide +kernel
theorem dX8_mix_29 : decode cX8_mix 29 = .ok (.bipush 7, 2) := by decide +kernel
theorem dX8_mix_31 : decode cX8_mix 31 = .ok (.iushr, 1) := by decide +kernel
theorem dX8_mix_32 : decode cX8_mix 32 = .ok (.iload_n 2, 1) := by decide +kernel
theorem dX8_mix_33 : decode cX8_mix 33 = .ok (.bipush 25, 2) := by decide +kernel
theorem dX8_mix_35 : decode cX8_mix 35 = .ok (.ishl, 1) := by decide +kernel
theorem dX8_mix_36 : decode cX8_mix 36 = .ok (.ior, 1) := by decide +kernel
theorem dX8_mix_37 : decode cX8_mix 37 = .ok (.iload_n 2, 1) := by decide +kernel
theorem dX8_mix_38 : decode cX8_mix 38 = .ok (.bipush 18, 2) := by decide +kernel
theorem dX8_mix_40 : decode cX8_mix 40 = .ok (.iushr, 1) := by decide +kernel
theorem dX8_mix_41 : decode cX8_mix 41 = .ok (.iload_n 2, 1) := by decide +kernel
theorem dX8_mix_42 : decode cX8_mix 42 = .ok (.bipush 14, 2) := by decide +kernel
theorem dX8_mix_44 : decode cX8_mix 44 = .ok (.ishl, 1) := by decide +kernel
theorem dX8_mix_45 : decode cX8_mix 45 = .ok (.ior, 1) := by decide +kernel
theorem dX8_mix_46 : decode cX8_mix 46 = .ok (.ixor, 1) := by decide +kernel
theorem dX8_mix_47 : decode cX8_mix 47 = .ok (.iload_n 2, 1) := by decide +kernel
theorem dX8_mix_48 : decode cX8_mix 48 = .ok (.iconst 3, 1) := by decide +kernel
theorem dX8_mix_49 : decode cX8_mix 49 = .ok (.iushr, 1) := by decide +kernel
theorem dX8_mix_50 : decode cX8_mix 50 = .ok (.ixor, 1) := by decide +kernel
theorem dX8_mix_51 : decode cX8_mix 51 = .ok (.istore 4, 2) := by decide +kernel
theorem dX8_mix_53 : decode cX8_mix 53 = .ok (.iload_n 3, 1) := by decide +kernel
theorem dX8_mix_54 : decode cX8_mix 54 = .ok (.bipush 17, 2) := by decide +kernel
theorem dX8_mix_56 : decode cX8_mix 56 = .ok (.iushr, 1) := by decide +kernel
theorem dX8_mix_57 : decode cX8_mix 57 = .ok (.iload_n 3, 1) := by decide +kernel
theorem dX8_mix_58 : decode cX8_mix 58 = .ok (.bipush 15, 2) := by decide +kernel
theorem dX8_mix_60 : decode cX8_mix 60 = .ok (.ishl, 1) := by decide +kernel
theorem dX8_mix_61 : decode cX8_mix 61 = .ok (.ior, 1) := by decide +kernel
theorem dX8_mix_62 : decode cX8_mix 62 = .ok (.iload_n 3, 1) := by decide +kernel
theorem dX8_mix_63 : decode cX8_mix 63 = .ok (.bipush 19, 2) := by decide +kernel
theorem dX8_mix_65 : decode cX8_mix 65 = .ok (.iushr, 1) := by decide +kernel
theorem dX8_mix_66 : decode cX8_mix 66 = .ok (.iload_n 3, 1) := by decide +kernel
theorem dX8_mix_67 : decode cX8_mix 67 = .ok (.bipush 13, 2) := by decide +kernel
theorem dX8_mix_69 : decode cX8_mix 69 = .ok (.ishl, 1) := by decide +kernel
theorem dX8_mix_70 : decode cX8_mix 70 = .ok (.ior, 1) := by decide +kernel
theorem dX8_mix_71 : decode cX8_mix 71 = .ok (.ixor, 1) := by decide +kernel
theorem dX8_mix_72 : decode cX8_mix 72 = .ok (.iload_n 3, 1) := by decide +kernel
theorem dX8_mix_73 : decode cX8_mix 73 = .ok (.bipush 10, 2) := by decide +kernel
theorem dX8_mix_75 : decode cX8_mix 75 = .ok (.iushr, 1) := by decide +kernel
theorem dX8_mix_76 : decode cX8_mix 76 = .ok (.ixor, 1) := by decide +kernel
theorem dX8_mix_77 : decode cX8_mix 77 = .ok (.istore 5, 2) := by decide +kernel
theorem dX8_mix_79 : decode cX8_mix 79 = .ok (.aload_n 0, 1) := by decide +kernel
theorem dX8_mix_80 : decode cX8_mix 80 = .ok (.getfield 7, 3) := by decide +kernel
theorem dX8_mix_83 : decode cX8_mix 83 = .ok (.iload_n 1, 1) := by decide +kernel
theorem dX8_mix_84 : decode cX8_mix 84 = .ok (.aload_n 0, 1) := by decide +kernel
theorem dX8_mix_85 : decode cX8_mix 85 = .ok (.getfield 7, 3) := by decide +kernel
theorem dX8_mix_88 : decode cX8_mix 88 = .ok (.iload_n 1, 1) := by decide +kernel
theorem dX8_mix_89 : decode cX8_mix 89 = .ok (.bipush 16, 2) := by decide +kernel
theorem dX8_mix_91 : decode cX8_mix 91 = .ok (.isub, 1) := by decide +kernel
theorem dX8_mix_92 : decode cX8_mix 92 = .ok (.iaload, 1) := by decide +kernel
theorem dX8_mix_93 : decode cX8_mix 93 = .ok (.iload 4, 2) := by decide +kernel
theorem dX8_mix_95 : decode cX8_mix 95 = .ok (.iadd, 1) := by decide +kernel
theorem dX8_mix_96 : decode cX8_mix 96 = .ok (.aload_n 0, 1) := by decide +kernel
theorem dX8_mix_97 : decode cX8_mix 97 = .ok (.getfield 7, 3) := by decide +kernel
theorem dX8_mix_100 : decode cX8_mix 100 = .ok (.iload_n 1, 1) := by decide +kernel
theorem dX8_mix_101 : decode cX8_mix 101 = .ok (.bipush 7, 2) := by decide +kernel
theorem dX8_mix_103 : decode cX8_mix 103 = .ok (.isub, 1) := by decide +kernel
theorem dX8_mix_104 : decode cX8_mix 104 = .ok (.iaload, 1) := by decide +kernel
theorem dX8_mix_105 : decode cX8_mix 105 = .ok (.iadd, 1) := by decide +kernel
theorem dX8_mix_106 : decode cX8_mix 106 = .ok (.iload 5, 2) := by decide +kernel
theorem dX8_mix_108 : decode cX8_mix 108 = .ok (.iadd, 1) := by decide +kernel
theorem dX8_mix_109 : decode cX8_mix 109 = .ok (.iastore, 1) := by decide +kernel
theorem dX8_mix_110 : decode cX8_mix 110 = .ok (.iinc 1 1, 3) := by decide +kernel
theorem dX8_mix_113 : decode cX8_mix 113 = .ok (.goto (-110), 3) := by decide +kernel
theorem dX8_mix_116 : decode cX8_mix 116 = .ok (.aload_n 0, 1) := by decide +kernel
theorem dX8_mix_117 : decode cX8_mix 117 = .ok (.getfield 13, 3) := by decide +kernel
theorem dX8_mix_120 : decode cX8_mix 120 = .ok (.iconst 0, 1) := by decide +kernel
theorem dX8_mix_121 : decode cX8_mix 121 = .ok (.aload_n 0, 1) := by decide +kernel
theorem dX8_mix_122 : decode cX8_mix 122 = .ok (.getfield 16, 3) := by decide +kernel
theorem dX8_mix_125 : decode cX8_mix 125 = .ok (.iconst 0, 1) := by decide +kernel
theorem dX8_mix_126 : decode cX8_mix 126 = .ok (.bipush 8, 2) := by decide +kernel
theorem dX8_mix_128 : decode cX8_mix 128 = .ok (.invokestatic 22, 3) := by decide +kernel
theorem dX8_mix_131 : decode cX8_mix 131 = .ok (.iconst 0, 1) := by decide +kernel
theorem dX8_mix_132 : decode cX8_mix 132 = .ok (.istore_n 1, 1) := by decide +kernel
theorem dX8_mix_133 : decode cX8_mix 133 = .ok (.iload_n 1, 1) := by decide +kernel
theorem dX8_mix_134 : decode cX8_mix 134 = .ok (.bipush 64, 2) := by decide +kernel
theorem dX8_mix_136 : decode cX8_mix 136 = .ok (.if_icmp .ge 14, 3) := by decide +kernel
theorem dX8_mix_139 : decode cX8_mix 139 = .ok (.aload_n 0, 1) := by decide +kernel
theorem dX8_mix_140 : decode cX8_mix 140 = .ok (.iload_n 1, 1) := by decide +kernel
theorem dX8_mix_141 : decode cX8_mix 141 = .ok (.invokevirtual 48, 3) := by decide +kernel
theorem dX8_mix_144 : decode cX8_mix 144 = .ok (.iinc 1 1, 3) := by decide +kernel
theorem dX8_mix_147 : decode cX8_mix 147 = .ok (.goto (-14), 3) := by decide +kernel
theorem dX8_mix_150 : decode cX8_mix 150 = .ok (.iconst 0, 1) := by decide +kernel
theorem dX8_mix_151 : decode cX8_mix 151 = .ok (.istore_n 1, 1) := by decide +kernel
theorem dX8_mix_152 : decode cX8_mix 152 = .ok (.iload_n 1, 1) := by decide +kernel
theorem dX8_mix_153 : decode cX8_mix 153 = .ok (.bipush 8, 2) := by decide +kernel
theorem dX8_mix_155 : decode cX8_mix 155 = .ok (.if_icmp .ge 24, 3) := by decide +kernel
theorem dX8_mix_158 : decode cX8_mix 158 = .ok (.aload_n 0, 1) := by decide +kernel
theorem dX8_mix_159 : decode cX8_mix 159 = .ok (.getfield 13, 3) := by decide +kernel
theorem dX8_mix_162 : decode cX8_mix 162 = .ok (.iload_n 1, 1) := by decide +kernel
theorem dX8_mix_163 : decode cX8_mix 163 = .ok (.dup2, 1) := by decide +kernel
theorem dX8_mix_164 : decode cX8_mix 164 = .ok (.iaload, 1) := by decide +kernel
theorem dX8_mix_165 : decode cX8_mix 165 = .ok (.aload_n 0, 1) := by decide +kernel
theorem dX8_mix_166 : decode cX8_mix 166 = .ok (.getfield 16, 3) := by decide +kernel
theorem dX8_mix_169 : decode cX8_mix 169 = .ok (.iload_n 1, 1) := by decide +kernel
theorem dX8_mix_170 : decode cX8_mix 170 = .ok (.iaload, 1) := by decide +kernel
theorem dX8_mix_171 : decode cX8_mix 171 = .ok (.iadd, 1) := by decide +kernel
theorem dX8_mix_172 : decode cX8_mix 172 = .ok (.iastore, 1) := by decide +kernel
theorem dX8_mix_173 : decode cX8_mix 173 = .ok (.iinc 1 1, 3) := by decide +kernel
theorem dX8_mix_176 : decode cX8_mix 176 = .ok (.goto (-24), 3) := by decide +kernel
theorem dX8_mix_179 : decode cX8_mix 179 = .ok (.return_, 1) := by decide +kernel
theorem dX8_step_0 : decode cX8_step 0 = .ok (.aload_n 0, 1) := by decide +kernel
theorem dX8_step_1 : decode cX8_step 1 = .ok (.getfield 16, 3) := by decide +kernel
theorem dX8_step_4 : decode cX8_step 4 = .ok (.iconst 0, 1) := by decide +kernel
theorem dX8_step_5 : decode cX8_step 5 = .ok (.iaload, 1) := by decide +kernel
theorem dX8_step_6 : decode cX8_step 6 = .ok (.istore_n 2, 1) := by decide +kernel
theorem dX8_step_7 : decode cX8_step 7 = .ok (.aload_n 0, 1) := by decide +kernel
theorem dX8_step_8 : decode cX8_step 8 = .ok (.getfield 16, 3) := by decide +kernel
theorem dX8_step_11 : decode cX8_step 11 = .ok (.iconst 4, 1) := by decide +kernel
theorem dX8_step_12 : decode cX8_step 12 = .ok (.iaload, 1) := by decide +kernel
theorem dX8_step_13 : decode cX8_step 13 = .ok (.istore_n 3, 1) := by decide +kernel
theorem dX8_step_14 : decode cX8_step 14 = .ok (.iload_n 3, 1) := by decide +kernel
theorem dX8_step_15 : decode cX8_step 15 = .ok (.aload_n 0, 1) := by decide +kernel
theorem dX8_step_16 : decode cX8_step 16 = .ok (.getfield 16, 3) := by decide +kernel
theorem dX8_step_19 : decode cX8_step 19 = .ok (.iconst 5, 1) := by decide +kernel
theorem dX8_step_20 : decode cX8_step 20 = .ok (.iaload, 1) := by decide +kernel
theorem dX8_step_21 : decode cX8_step 21 = .ok (.iand, 1) := by decide +kernel
theorem dX8_step_22 : decode cX8_step 22 = .ok (.iload_n 3, 1) := by decide +kernel
theorem dX8_step_23 : decode cX8_step 23 = .ok (.iconst (-1), 1) := by decide +kernel
theorem dX8_step_24 : decode cX8_step 24 = .ok (.ixor, 1) := by decide +kernel
theorem dX8_step_25 : decode cX8_step 25 = .ok (.aload_n 0, 1) := by decide +kernel
theorem dX8_step_26 : decode cX8_step 26 = .ok (.getfield 16, 3) := by decide +kernel
theorem dX8_step_29 : decode cX8_step 29 = .ok (.bipush 6, 2) := by decide +kernel
theorem dX8_step_31 : decode cX8_step 31 = .ok (.iaload, 1) := by decide +kernel
theorem dX8_step_32 : decode cX8_step 32 = .ok (.iand, 1) := by decide +kernel
theorem dX8_step_33 : decode cX8_step 33 = .ok (.ixor, 1) := by decide +kernel
theorem dX8_step_34 : decode cX8_step 34 = .ok (.istore 4, 2) := by decide +kernel
theorem dX8_step_36 : decode cX8_step 36 = .ok (.iload_n 2, 1) := by decide +kernel
theorem dX8_step_37 : decode cX8_step 37 = .ok (.aload_n 0, 1) := by decide +kernel
theorem dX8_step_38 : decode cX8_step 38 = .ok (.getfield 16, 3) := by decide +kernel
theorem dX8_step_41 : decode cX8_step 41 = .ok (.iconst 1, 1) := by decide +kernel
theorem dX8_step_42 : decode cX8_step 42 = .ok (.iaload, 1) := by decide +kernel
theorem dX8_step_43 : decode cX8_step 43 = .ok (.iand, 1) := by decide +kernel
theorem dX8_step_44 : decode cX8_step 44 = .ok (.iload_n 2, 1) := by decide +kernel
theorem dX8_step_45 : decode cX8_step 45 = .ok (.aload_n 0, 1) := by decide +kernel
theorem dX8_step_46 : decode cX8_step 46 = .ok (.getfield 16, 3) := by decide +kernel
theorem dX8_step_49 : decode cX8_step 49 = .ok (.iconst 2, 1) := by decide +kernel
theorem dX8_step_50 : decode cX8_step 50 = .ok (.iaload, 1) := by decide +kernel
theorem dX8_step_51 : decode cX8_step 51 = .ok (.iand, 1) := by decide +kernel
theorem dX8_step_52 : decode cX8_step 52 = .ok (.ixor, 1) := by decide +kernel
theorem dX8_step_53 : decode cX8_step 53 = .ok (.aload_n 0, 1) := by decide +kernel
theorem dX8_step_54 : decode cX8_step 54 = .ok (.getfield 16, 3) := by decide +kernel
theorem dX8_step_57 : decode cX8_step 57 = .ok (.iconst 1, 1) := by decide +kernel
theorem dX8_step_58 : decode cX8_step 58 = .ok (.iaload, 1) := by decide +kernel
theorem dX8_step_59 : decode cX8_step 59 = .ok (.aload_n 0, 1) := by decide +kernel
theorem dX8_step_60 : decode cX8_step 60 = .ok (.getfield 16, 3) := by decide +kernel
theorem dX8_step_63 : decode cX8_step 63 = .ok (.iconst 2, 1) := by decide +kernel
theorem dX8_step_64 : decode cX8_step 64 = .ok (.iaload, 1) := by decide +kernel
theorem dX8_step_65 : decode cX8_step 65 = .ok (.iand, 1) := by decide +kernel
theorem dX8_step_66 : decode cX8_step 66 = .ok (.ixor, 1) := by decide +kernel
theorem dX8_step_67 : decode cX8_step 67 = .ok (.istore 5, 2) := by decide +kernel
theorem dX8_step_69 : decode cX8_step 69 = .ok (.iload_n 3, 1) := by decide +kernel
theorem dX8_step_70 : decode cX8_step 70 = .ok (.bipush 6, 2) := by decide +kernel
theorem dX8_step_72 : decode cX8_step 72 = .ok (.iushr, 1) := by decide +kernel
theorem dX8_step_73 : decode cX8_step 73 = .ok (.iload_n 3, 1) := by decide +kernel
theorem dX8_step_74 : decode cX8_step 74 = .ok (.bipush 26, 2) := by decide +kernel
theorem dX8_step_76 : decode cX8_step 76 = .ok (.ishl, 1) := by decide +kernel
theorem dX8_step_77 : decode cX8_step 77 = .ok (.ior, 1) := by decide +kernel
theorem dX8_step_78 : decode cX8_step 78 = .ok (.iload_n 3, 1) := by decide +kernel
theorem dX8_step_79 : decode cX8_step 79 = .ok (.bipush 11, 2) := by decide +kernel
theorem dX8_step_81 : decode cX8_step 81 = .ok (.iushr, 1) := by decide +kernel
theorem dX8_step_82 : decode cX8_step 82 = .ok (.iload_n 3, 1) := by decide +kernel
theorem dX8_step_83 : decode cX8_step 83 = .ok (.bipush 21, 2) := by decide +kernel
theorem dX8_step_85 : decode cX8_step 85 = .ok (.ishl, 1) := by decide +kernel
theorem dX8_step_86 : decode cX8_step 86 = .ok (.ior, 1) := by decide +kernel
theorem dX8_step_87 : decode cX8_step 87 = .ok (.ixor, 1) := by decide +kernel
theorem dX8_step_88 : decode cX8_step 88 = .ok (.iload_n 3, 1) := by decide +kernel
theorem dX8_step_89 : decode cX8_step 89 = .ok (.bipush 25, 2) := by decide +kernel
theorem dX8_step_91 : decode cX8_step 91 = .ok (.iushr, 1) := by decide +kernel
theorem dX8_step_92 : decode cX8_step 92 = .ok (.iload_n 3, 1) := by decide +kernel
theorem dX8_step_93 : decode cX8_step 93 = .ok (.bipush 7, 2) := by decide +kernel
theorem dX8_step_95 : decode cX8_step 95 = .ok (.ishl, 1) := by decide +kernel
theorem dX8_step_96 : decode cX8_step 96 = .ok (.ior, 1) := by decide +kernel
theorem dX8_step_97 : decode cX8_step 97 = .ok (.ixor, 1) := by decide +kernel
theorem dX8_step_98 : decode cX8_step 98 = .ok (.istore 6, 2) := by decide +kernel
theorem dX8_step_100 : decode cX8_step 100 = .ok (.iload_n 2, 1) := by decide +kernel
theorem dX8_step_101 : decode cX8_step 101 = .ok (.iconst 2, 1) := by decide +kernel
theorem dX8_step_102 : decode cX8_step 102 = .ok (.iushr, 1) := by decide +kernel
theorem dX8_step_103 : decode cX8_step 103 = .ok (.iload_n 2, 1) := by decide +kernel
theorem dX8_step_104 : decode cX8_step 104 = .ok (.bipush 30, 2) := by decide +kernel
theorem dX8_step_106 : decode cX8_step 106 = .ok (.ishl, 1) := by decide +kernel
theorem dX8_step_107 : decode cX8_step 107 = .ok (.ior, 1) := by decide +kernel
theorem dX8_step_108 : decode cX8_step 108 = .ok (.iload_n 2, 1) := by decide +kernel
theorem dX8_step_109 : decode cX8_step 109 = .ok (.bipush 13, 2) := by decide +kernel
theorem dX8_step_111 : decode cX8_step 111 = .ok (.iushr, 1) := by decide +kernel
theorem dX8_step_112 : decode cX8_step 112 = .ok (.iload_n 2, 1) := by decide +kernel
theorem dX8_step_113 : decode cX8_step 113 = .ok (.bipush 19, 2) := by decide +kernel
theorem dX8_step_115 : decode cX8_step 115 = .ok (.ishl, 1) := by decide +kernel
theorem dX8_step_116 : decode cX8_step 116 = .ok (.ior, 1) := by decide +kernel
theorem dX8_step_117 : decode cX8_step 117 = .ok (.ixor, 1) := by decide +kernel
theorem dX8_step_118 : decode cX8_step 118 = .ok (.iload_n 2, 1) := by decide +kernel
theorem dX8_step_119 : decode cX8_step 119 = .ok (.bipush 22, 2) := by decide +kernel
theorem dX8_step_121 : decode cX8_step 121 = .ok (.iushr, 1) := by decide +kernel
theorem dX8_step_122 : decode cX8_step 122 = .ok (.iload_n 2, 1) := by decide +kernel
theorem dX8_step_123 : decode cX8_step 123 = .ok (.bipush 10, 2) := by decide +kernel
theorem dX8_step_125 : decode cX8_step 125 = .ok (.ishl, 1) := by decide +kernel
theorem dX8_step_126 : decode cX8_step 126 = .ok (.ior, 1) := by decide +kernel
theorem dX8_step_127 : decode cX8_step 127 = .ok (.ixor, 1) := by decide +kernel
theorem dX8_step_128 : decode cX8_step 128 = .ok (.istore 7, 2) := by decide +kernel
theorem dX8_step_130 : decode cX8_step 130 = .ok (.aload_n 0, 1) := by decide +kernel
theorem dX8_step_131 : decode cX8_step 131 = .ok (.getfield 16, 3) := by decide +kernel
theorem dX8_step_134 : decode cX8_step 134 = .ok (.bipush 7, 2) := by decide +kernel
theorem dX8_step_136 : decode cX8_step 136 = .ok (.iaload, 1) := by decide +kernel
theorem dX8_step_137 : decode cX8_step 137 = .ok (.iload 6, 2) := by decide +kernel
theorem dX8_step_139 : decode cX8_step 139 = .ok (.iadd, 1) := by decide +kernel
theorem dX8_step_140 : decode cX8_step 140 = .ok (.iload 4, 2) := by decide +kernel
theorem dX8_step_142 : decode cX8_step 142 = .ok (.iadd, 1) := by decide +kernel
theorem dX8_step_143 : decode cX8_step 143 = .ok (.getstatic 51, 3) := by decide +kernel
theorem dX8_step_146 : decode cX8_step 146 = .ok (.iload_n 1, 1) := by decide +kernel
theorem dX8_step_147 : decode cX8_step 147 = .ok (.iaload, 1) := by decide +kernel
theorem dX8_step_148 : decode cX8_step 148 = .ok (.iadd, 1) := by decide +kernel
theorem dX8_step_149 : decode cX8_step 149 = .ok (.aload_n 0, 1) := by decide +kernel
theorem dX8_step_150 : decode cX8_step 150 = .ok (.getfield 7, 3) := by decide +kernel
theorem dX8_step_153 : decode cX8_step 153 = .ok (.iload_n 1, 1) := by decide +kernel
theorem dX8_step_154 : decode cX8_step 154 = .ok (.iaload, 1) := by decide +kernel
theorem dX8_step_155 : decode cX8_step 155 = .ok (.iadd, 1) := by decide +kernel
theorem dX8_step_156 : decode cX8_step 156 = .ok (.istore 8, 2) := by decide +kernel
theorem dX8_step_158 : decode cX8_step 158 = .ok (.bipush 7, 2) := by decide +kernel
theorem dX8_step_160 : decode cX8_step 160 = .ok (.istore 9, 2) := by decide +kernel
theorem dX8_step_162 : decode cX8_step 162 = .ok (.iload 9, 2) := by decide +kernel
theorem dX8_step_164 : decode cX8_step 164 = .ok (.ifCond .le 25, 3) := by decide +kernel
theorem dX8_step_167 : decode cX8_step 167 = .ok (.aload_n 0, 1) := by decide +kernel
theorem dX8_step_168 : decode cX8_step 168 = .ok (.getfield 16, 3) := by decide +kernel
theorem dX8_step_171 : decode cX8_step 171 = .ok (.iload 9, 2) := by decide +kernel
theorem dX8_step_173 : decode cX8_step 173 = .ok (.aload_n 0, 1) := by decide +kernel
theorem dX8_step_174 : decode cX8_step 174 = .ok (.getfield 16, 3) := by decide +kernel
theorem dX8_step_177 : decode cX8_step 177 = .ok (.iload 9, 2) := by decide +kernel
theorem dX8_step_179 : decode cX8_step 179 = .ok (.iconst 1, 1) := by decide +kernel
theorem dX8_step_180 : decode cX8_step 180 = .ok (.isub, 1) := by decide +kernel
theorem dX8_step_181 : decode cX8_step 181 = .ok (.iaload, 1) := by decide +kernel
theorem dX8_step_182 : decode cX8_step 182 = .ok (.iastore, 1) := by decide +kernel
theorem dX8_step_183 : decode cX8_step 183 = .ok (.iinc 9 (-1), 3) := by decide +kernel
theorem dX8_step_186 : decode cX8_step 186 = .ok (.goto (-24), 3) := by decide +kernel
theorem dX8_step_189 : decode cX8_step 189 = .ok (.aload_n 0, 1) := by decide +kernel
theorem dX8_step_190 : decode cX8_step 190 = .ok (.getfield 16, 3) := by decide +kernel
theorem dX8_step_193 : decode cX8_step 193 = .ok (.iconst 4, 1) := by decide +kernel
theorem dX8_step_194 : decode cX8_step 194 = .ok (.dup2, 1) := by decide +kernel
theorem dX8_step_195 : decode cX8_step 195 = .ok (.iaload, 1) := by decide +kernel
theorem dX8_step_196 : decode cX8_step 196 = .ok (.iload 8, 2) := by decide +kernel
theorem dX8_step_198 : decode cX8_step 198 = .ok (.iadd, 1) := by decide +kernel
theorem dX8_step_199 : decode cX8_step 199 = .ok (.iastore, 1) := by decide +kernel
theorem dX8_step_200 : decode cX8_step 200 = .ok (.aload_n 0, 1) := by decide +kernel
theorem dX8_step_201 : decode cX8_step 201 = .ok (.getfield 16, 3) := by decide +kernel
theorem dX8_step_204 : decode cX8_step 204 = .ok (.iconst 0, 1) := by decide +kernel
theorem dX8_step_205 : decode cX8_step 205 = .ok (.iload 8, 2) := by decide +kernel
theorem dX8_step_207 : decode cX8_step 207 = .ok (.iload 7, 2) := by decide +kernel
theorem dX8_step_209 : decode cX8_step 209 = .ok (.iadd, 1) := by decide +kernel
theorem dX8_step_210 : decode cX8_step 210 = .ok (.iload 5, 2) := by decide +kernel
theorem dX8_step_212 : decode cX8_step 212 = .ok (.iadd, 1) := by decide +kernel
theorem dX8_step_213 : decode cX8_step 213 = .ok (.iastore, 1) := by decide +kernel
theorem dX8_step_214 : decode cX8_step 214 = .ok (.return_, 1) := by decide +kernel
theorem dX8_sumOf_0 : decode cX8_sumOf 0 = .ok (.getstatic 19, 3) := by decide +kernel
theorem dX8_sumOf_3 : decode cX8_sumOf 3 = .ok (.iconst 0, 1) := by decide +kernel
theorem dX8_sumOf_4 : decode cX8_sumOf 4 = .ok (.aload_n 0, 1) := by decide +kernel
theorem dX8_sumOf_5 : decode cX8_sumOf 5 = .ok (.getfield 13, 3) := by decide +kernel
theorem dX8_sumOf_8 : decode cX8_sumOf 8 = .ok (.iconst 0, 1) := by decide +kernel
theorem dX8_sumOf_9 : decode cX8_sumOf 9 = .ok (.bipush 8, 2) := by decide +kernel
theorem dX8_sumOf_11 : decode cX8_sumOf 11 = .ok (.invokestatic 22, 3) := by decide +kernel
theorem dX8_sumOf_14 : decode cX8_sumOf 14 = .ok (.iload_n 2, 1) := by decide +kernel
theorem dX8_sumOf_15 : decode cX8_sumOf 15 = .ok (.bipush 9, 2) := by decide +kernel
theorem dX8_sumOf_17 : decode cX8_sumOf 17 = .ok (.iadd, 1) := by decide +kernel
theorem dX8_sumOf_18 : decode cX8_sumOf 18 = .ok (.bipush 63, 2) := by decide +kernel
theorem dX8_sumOf_20 : decode cX8_sumOf 20 = .ok (.iadd, 1) := by decide +kernel
theorem dX8_sumOf_21 : decode cX8_sumOf 21 = .ok (.bipush 64, 2) := by decide +kernel
theorem dX8_sumOf_23 : decode cX8_sumOf 23 = .ok (.idiv, 1) := by decide +kernel
theorem dX8_sumOf_24 : decode cX8_sumOf 24 = .ok (.istore 4, 2) := by decide +kernel
theorem dX8_sumOf_26 : decode cX8_sumOf 26 = .ok (.iconst 0, 1) := by decide +kernel
theorem dX8_sumOf_27 : decode cX8_sumOf 27 = .ok (.istore 5, 2) := by decide +kernel
theorem dX8_sumOf_29 : decode cX8_sumOf 29 = .ok (.iload 5, 2) := by decide +kernel
theorem dX8_sumOf_31 : decode cX8_sumOf 31 = .ok (.iload 4, 2) := by decide +kernel
theorem dX8_sumOf_33 : decode cX8_sumOf 33 = .ok (.if_icmp .ge 71, 3) := by decide +kernel
theorem dX8_sumOf_36 : decode cX8_sumOf 36 = .ok (.iconst 0, 1) := by decide +kernel
theorem dX8_sumOf_37 : decode cX8_sumOf 37 = .ok (.istore 6, 2) := by decide +kernel
theorem dX8_sumOf_39 : decode cX8_sumOf 39 = .ok (.iload 6, 2) := by decide +kernel
theorem dX8_sumOf_41 : decode cX8_sumOf 41 = .ok (.bipush 16, 2) := by decide +kernel
theorem dX8_sumOf_43 : decode cX8_sumOf 43 = .ok (.if_icmp .ge 31, 3) := by decide +kernel
theorem dX8_sumOf_46 : decode cX8_sumOf 46 = .ok (.aload_n 0, 1) := by decide +kernel
theorem dX8_sumOf_47 : decode cX8_sumOf 47 = .ok (.getfield 7, 3) := by decide +kernel
theorem dX8_sumOf_50 : decode cX8_sumOf 50 = .ok (.iload 6, 2) := by decide +kernel
theorem dX8_sumOf_52 : decode cX8_sumOf 52 = .ok (.aload_n 1, 1) := by decide +kernel
theorem dX8_sumOf_53 : decode cX8_sumOf 53 = .ok (.iload_n 2, 1) := by decide +kernel
theorem dX8_sumOf_54 : decode cX8_sumOf 54 = .ok (.iload 5, 2) := by decide +kernel
theorem dX8_sumOf_56 : decode cX8_sumOf 56 = .ok (.bipush 64, 2) := by decide +kernel
theorem dX8_sumOf_58 : decode cX8_sumOf 58 = .ok (.imul, 1) := by decide +kernel
theorem dX8_sumOf_59 : decode cX8_sumOf 59 = .ok (.iload 6, 2) := by decide +kernel
theorem dX8_sumOf_61 : decode cX8_sumOf 61 = .ok (.iconst 4, 1) := by decide +kernel
theorem dX8_sumOf_62 : decode cX8_sumOf 62 = .ok (.imul, 1) := by decide +kernel
theorem dX8_sumOf_63 : decode cX8_sumOf 63 = .ok (.iadd, 1) := by decide +kernel
theorem dX8_sumOf_64 : decode cX8_sumOf 64 = .ok (.invokestatic 28, 3) := by decide +kernel
theorem dX8_sumOf_67 : decode cX8_sumOf 67 = .ok (.iastore, 1) := by decide +kernel
theorem dX8_sumOf_68 : decode cX8_sumOf 68 = .ok (.iinc 6 1, 3) := by decide +kernel
theorem dX8_sumOf_71 : decode cX8_sumOf 71 = .ok (.goto (-32), 3) := by decide +kernel
theorem dX8_sumOf_74 : decode cX8_sumOf 74 = .ok (.iload 5, 2) := by decide +kernel
theorem dX8_sumOf_76 : decode cX8_sumOf 76 = .ok (.iload 4, 2) := by decide +kernel
theorem dX8_sumOf_78 : decode cX8_sumOf 78 = .ok (.iconst 1, 1) := by decide +kernel
theorem dX8_sumOf_79 : decode cX8_sumOf 79 = .ok (.isub, 1) := by decide +kernel
theorem dX8_sumOf_80 : decode cX8_sumOf 80 = .ok (.if_icmp .ne 14, 3) := by decide +kernel
theorem dX8_sumOf_83 : decode cX8_sumOf 83 = .ok (.aload_n 0, 1) := by decide +kernel
theorem dX8_sumOf_84 : decode cX8_sumOf 84 = .ok (.getfield 7, 3) := by decide +kernel
theorem dX8_sumOf_87 : decode cX8_sumOf 87 = .ok (.bipush 15, 2) := by decide +kernel
theorem dX8_sumOf_89 : decode cX8_sumOf 89 = .ok (.iload_n 2, 1) := by decide +kernel
theorem dX8_sumOf_90 : decode cX8_sumOf 90 = .ok (.bipush 8, 2) := by decide +kernel
theorem dX8_sumOf_92 : decode cX8_sumOf 92 = .ok (.imul, 1) := by decide +kernel
theorem dX8_sumOf_93 : decode cX8_sumOf 93 = .ok (.iastore, 1) := by decide +kernel
theorem dX8_sumOf_94 : decode cX8_sumOf 94 = .ok (.aload_n 0, 1) := by decide +kernel
theorem dX8_sumOf_95 : decode cX8_sumOf 95 = .ok (.invokevirtual 32, 3) := by decide +kernel
theorem dX8_sumOf_98 : decode cX8_sumOf 98 = .ok (.iinc 5 1, 3) := by decide +kernel
theorem dX8_sumOf_101 : decode cX8_sumOf 101 = .ok (.goto (-72), 3) := by decide +kernel
theorem dX8_sumOf_104 : decode cX8_sumOf 104 = .ok (.aload_n 3, 1) := by decide +kernel
theorem dX8_sumOf_105 : decode cX8_sumOf 105 = .ok (.invokevirtual 35, 3) := by decide +kernel
theorem dX8_sumOf_108 : decode cX8_sumOf 108 = .ok (.iconst 0, 1) := by decide +kernel
theorem dX8_sumOf_109 : decode cX8_sumOf 109 = .ok (.istore 5, 2) := by decide +kernel
theorem dX8_sumOf_111 : decode cX8_sumOf 111 = .ok (.iload 5, 2) := by decide +kernel
theorem dX8_sumOf_113 : decode cX8_sumOf 113 = .ok (.bipush 8, 2) := by decide +kernel
theorem dX8_sumOf_115 : decode cX8_sumOf 115 = .ok (.if_icmp .ge 20, 3) := by decide +kernel
theorem dX8_sumOf_118 : decode cX8_sumOf 118 = .ok (.aload_n 3, 1) := by decide +kernel
theorem dX8_sumOf_119 : decode cX8_sumOf 119 = .ok (.aload_n 0, 1) := by decide +kernel
theorem dX8_sumOf_120 : decode cX8_sumOf 120 = .ok (.getfield 13, 3) := by decide +kernel
theorem dX8_sumOf_123 : decode cX8_sumOf 123 = .ok (.iload 5, 2) := by decide +kernel
theorem dX8_sumOf_125 : decode cX8_sumOf 125 = .ok (.iaload, 1) := by decide +kernel
theorem dX8_sumOf_126 : decode cX8_sumOf 126 = .ok (.invokevirtual 40, 3) := by decide +kernel
theorem dX8_sumOf_129 : decode cX8_sumOf 129 = .ok (.iinc 5 1, 3) := by decide +kernel
theorem dX8_sumOf_132 : decode cX8_sumOf 132 = .ok (.goto (-21), 3) := by decide +kernel
theorem dX8_sumOf_135 : decode cX8_sumOf 135 = .ok (.return_, 1) := by decide +kernel
theorem dX8_wordAt_0 : decode cX8_wordAt 0 = .ok (.iconst 0, 1) := by decide +kernel
theorem dX8_wordAt_1 : decode cX8_wordAt 1 = .ok (.istore_n 3, 1) := by decide +kernel
theorem dX8_wordAt_2 : decode cX8_wordAt 2 = .ok (.iload_n 2, 1) := by decide +kernel
theorem dX8_wordAt_3 : decode cX8_wordAt 3 = .ok (.istore 4, 2) := by decide +kernel
theorem dX8_wordAt_5 : decode cX8_wordAt 5 = .ok (.iload 4, 2) := by decide +kernel
theorem dX8_wordAt_7 : decode cX8_wordAt 7 = .ok (.iload_n 2, 1) := by decide +kernel
theorem dX8_wordAt_8 : decode cX8_wordAt 8 = .ok (.iconst 4, 1) := by decide +kernel
theorem dX8_wordAt_9 : decode cX8_wordAt 9 = .ok (.iadd, 1) := by decide +kernel
theorem dX8_wordAt_10 : decode cX8_wordAt 10 = .ok (.if_icmp .ge 51, 3) := by decide +kernel
theorem dX8_wordAt_13 : decode cX8_wordAt 13 = .ok (.iload 4, 2) := by decide +kernel
theorem dX8_wordAt_15 : decode cX8_wordAt 15 = .ok (.iload_n 1, 1) := by decide +kernel
theorem dX8_wordAt_16 : decode cX8_wordAt 16 = .ok (.if_icmp .ge 16, 3) := by decide +kernel
theorem dX8_wordAt_19 : decode cX8_wordAt 19 = .ok (.aload_n 0, 1) := by decide +kernel
theorem dX8_wordAt_20 : decode cX8_wordAt 20 = .ok (.iload 4, 2) := by decide +kernel
theorem dX8_wordAt_22 : decode cX8_wordAt 22 = .ok (.invokevirtual 44, 3) := by decide +kernel
theorem dX8_wordAt_25 : decode cX8_wordAt 25 = .ok (.sipush 255, 3) := by decide +kernel
theorem dX8_wordAt_28 : decode cX8_wordAt 28 = .ok (.iand, 1) := by decide +kernel
theorem dX8_wordAt_29 : decode cX8_wordAt 29 = .ok (.goto 16, 3) := by decide +kernel
theorem dX8_wordAt_32 : decode cX8_wordAt 32 = .ok (.iload 4, 2) := by decide +kernel
theorem dX8_wordAt_34 : decode cX8_wordAt 34 = .ok (.iload_n 1, 1) := by decide +kernel
theorem dX8_wordAt_35 : decode cX8_wordAt 35 = .ok (.if_icmp .ne 9, 3) := by decide +kernel
theorem dX8_wordAt_38 : decode cX8_wordAt 38 = .ok (.sipush 128, 3) := by decide +kernel
theorem dX8_wordAt_41 : decode cX8_wordAt 41 = .ok (.goto 4, 3) := by decide +kernel
theorem dX8_wordAt_44 : decode cX8_wordAt 44 = .ok (.iconst 0, 1) := by decide +kernel
theorem dX8_wordAt_45 : decode cX8_wordAt 45 = .ok (.istore 5, 2) := by decide +kernel
theorem dX8_wordAt_47 : decode cX8_wordAt 47 = .ok (.iload_n 3, 1) := by decide +kernel
theorem dX8_wordAt_48 : decode cX8_wordAt 48 = .ok (.bipush 8, 2) := by decide +kernel
theorem dX8_wordAt_50 : decode cX8_wordAt 50 = .ok (.ishl, 1) := by decide +kernel
theorem dX8_wordAt_51 : decode cX8_wordAt 51 = .ok (.iload 5, 2) := by decide +kernel
theorem dX8_wordAt_53 : decode cX8_wordAt 53 = .ok (.ior, 1) := by decide +kernel
theorem dX8_wordAt_54 : decode cX8_wordAt 54 = .ok (.istore_n 3, 1) := by decide +kernel
theorem dX8_wordAt_55 : decode cX8_wordAt 55 = .ok (.iinc 4 1, 3) := by decide +kernel
theorem dX8_wordAt_58 : decode cX8_wordAt 58 = .ok (.goto (-53), 3) := by decide +kernel
theorem dX8_wordAt_61 : decode cX8_wordAt 61 = .ok (.iload_n 3, 1) := by decide +kernel
theorem dX8_wordAt_62 : decode cX8_wordAt 62 = .ok (.ireturn, 1) := by decide +kernel
theorem kt_244 : Cond.fieldLink RX8 16 "PostGate$Sha" "turn" "[I" ∈ tb := tb_at (i := 300) (by decide +kernel) (by decide +kernel)
theorem kt_245 : Cond.fieldLink RX8 51 "PostGate$Sha" "FACTORS" "[I" ∈ tb := tb_at (i := 1008) (by decide +kernel) (by decide +kernel)
theorem kt_246 : Cond.fieldLink RX8 7 "PostGate$Sha" "words" "[I" ∈ tb := tb_at (i := 298) (by decide +kernel) (by decide +kernel)
theorem kt_247 : Cond.fieldLink RX8 13 "PostGate$Sha" "state" "[I" ∈ tb := tb_at (i := 299) (by decide +kernel) (by decide +kernel)
theorem kt_248 : Cond.methodLink RX8 22 arraycopyName ∈ tb := tb_at (i := 995) (by decide +kernel) (by decide +kernel)
theorem kt_249 : Cond.code yX8_step cX8_step 10 none ∈ tb := tb_at (i := 1007) (by decide +kernel) (by decide +kernel)
theorem kt_250 : Cond.initialized RX8 ∈ tb := tb_at (i := 89) (by decide +kernel) (by decide +kernel)
theorem kt_251 : Cond.methodLink RX8 48 yX8_step ∈ tb := tb_at (i := 1004) (by decide +kernel) (by decide +kernel)
theorem kt_252 : Cond.instanceMethod yX8_step ∈ tb := tb_at (i := 1006) (by decide +kernel) (by decide +kernel)
theorem kt_253 : Cond.selects RX8 yX8_step yX8_step ∈ tb := tb_at (i := 26) (by decide +kernel) (by decide +kernel)
theorem kt_254 : Cond.methodLink RX8 44 yX0_at ∈ tb := tb_at (i := 999) (by decide +kernel) (by decide +kernel)
theorem kt_255 : Cond.fieldLink RX8 19 "PostGate$Sha" "BEGINNING" "[I" ∈ tb := tb_at (i := 993) (by decide +kernel) (by decide +kernel)
theorem kt_256 : Cond.methodLink RX8 35 yX0_clear ∈ tb := tb_at (i := 1010) (by decide +kernel) (by decide +kernel)
theorem kt_257 : Cond.code yX0_addFour cX0_addFour 3 none ∈ tb := tb_at (i := 492) (by decide +kernel) (by decide +kernel)
theorem kt_258 : Cond.methodLink RX8 40 yX0_addFour ∈ tb := tb_at (i := 1011) (by decide +kernel) (by decide +kernel)
theorem kt_259 : Cond.instanceMethod yX0_addFour ∈ tb := tb_at (i := 490) (by decide +kernel) (by decide +kernel)
theorem kt_260 : Cond.selects RX0 yX0_addFour yX0_addFour ∈ tb := tb_at (i := 491) (by decide +kernel) (by decide +kernel)
theorem kt_261 : Cond.code yX8_mix cX8_mix 6 none ∈ tb := tb_at (i := 1003) (by decide +kernel) (by decide +kernel)
theorem kt_262 : Cond.methodLink RX8 32 yX8_mix ∈ tb := tb_at (i := 1000) (by decide +kernel) (by decide +kernel)
theorem kt_263 : Cond.instanceMethod yX8_mix ∈ tb := tb_at (i := 1002) (by decide +kernel) (by decide +kernel)
theorem kt_264 : Cond.selects RX8 yX8_mix yX8_mix ∈ tb := tb_at (i := 25) (by decide +kernel) (by decide +kernel)
theorem kt_265 : Cond.code yX8_wordAt cX8_wordAt 6 (some .int) ∈ tb := tb_at (i := 998) (by decide +kernel) (by decide +kernel)
theorem kt_266 : Cond.methodLink RX8 28 yX8_wordAt ∈ tb := tb_at (i := 996) (by decide +kernel) (by decide +kernel)
theorem kt_267 : Cond.static yX8_wordAt ∈ tb := tb_at (i := 997) (by decide +kernel) (by decide +kernel)
section
variable {p : Program} {l : Launch} {e : Env} {R : Room} {s : State} {m : MethodId} {args : Array Value} {below : List Frame} {meth : Method} {c : Code} {H : Heap} {locs : List Loc} {cells slots : Nat} {Q : State → Prop}
/-- arraycopy out of a static table of ints (the kit has this row for bytes, vk_copyt; turned to ints) -/
theorem cp_ti {cc : ByteArray} {pc : Nat} {ls : Array Slot} {rest : List Value} {A : Nat → Prop} {D : va_G} {cl : List vw_C} {tys : List (ClassId × FieldType)} {ws : va_W} {a : Nat} (hexec : p.tables.exec = Jvm.exec) (hb : c.code = cc) (hml : c.maxLocals = ls.size) {own : String} {index : Nat} (hown : s.vm.findClass own = some m.cls) (hlink : (Cond.methodLink own index arraycopyName).before args s = true) (hnat : (Cond.native arraycopyName).before args s = true) (hstat : (Cond.static arraycopyName).before args s = true) (hini : (Cond.initialized "java/lang/System").before args s = true)
    (hK : va_K D cl tys s) (hP : va_P D cl ws H) (hD : va_D A ws) (hS : va_S A s.heap H locs) {b0 n0 : Nat} {f : Nat → Int32} (hX : va_T .int b0 n0 (fun j => .int (f j)) A s s.heap) (q1 t1 : Nat) {c1 : ClassId} {n1 : Nat} {g : Nat → Int32} (ha1 : ws[q1]? = some (a, .inl (c1, n1, .inl g))) (ht1 : tys[t1]? = some (c1, .int))
    {sp dp n : Int32} (h1 : ¬ sp < 0) (h2 : ¬ dp < 0) (h3 : ¬ n < 0) (h4 : sp.toNatClampNeg + n.toNatClampNeg ≤ n0) (h5 : dp.toNatClampNeg + n.toNatClampNeg ≤ n1)
    (hframes : 1 ≤ R.frames) (hlocals : (rest.map fun v => v.category).sum + (nativeFrameWords "java/lang/System" "arraycopy" 5 + 11) ≤ R.locals) (hdg : decode cc pc = .ok (.invokestatic index, 3))
    (kk : ∀ (H1 : Heap) (locs1 : List Loc), va_P D cl (ws.set q1 (a, .inl (c1, n1, .inl (va_cpy f g sp.toNatClampNeg dp.toNatClampNeg n.toNatClampNeg)))) H1 → va_D A (ws.set q1 (a, .inl (c1, n1, .inl (va_cpy f g sp.toNatClampNeg dp.toNatClampNeg n.toNatClampNeg)))) → va_S A s.heap H1 locs1 → W p l e R s m args below meth c H1 locs1 cells slots Q (F0 m (pc + 3) ls rest)) : W p l e R s m args below meth c H locs cells slots Q (F0 m pc ls (.int n :: .int dp :: .ref a :: .int sp :: .ref b0 :: rest)) := by
  have nn : ∀ z : Int32, ¬ z < 0 → z.toInt = (z.toNatClampNeg : Int) := by
    intro z hz
    obtain ⟨j, hj, rfl⟩ := nI_of hz
    rw [nI_toInt hj, nI_clamp hj]
  intro T hT X
  obtain ⟨scr, hs1, hs2, hs3, hs4, -, hs5, hs7⟩ := hX
  have hc0 : H[b0]? = some scr := by rw [hS.2.1 b0 (Array.getElem?_eq_some_iff.mp hs1).1 hs7]; exact hs1
  have hc1 : H[a]? = some (vp_cell c1 (n1, .inl g)) := hP q1 _ ha1
  obtain ⟨hs6, k0, hk0, cm0, hkk0⟩ := hs2
  obtain ⟨-, k1, hk1, cm1, hkk1⟩ := (hK.2 t1 _ ht1).1 n1 (fun j => .int (g j))
  obtain ⟨vm', X', step⟩ := X.arraycopy hexec hown hlink hnat hstat hini (src := b0) (dst := a) (cs := scr) (cd := vp_cell c1 (n1, .inl g)) (srcPos := sp) (destPos := dp) (n := n) (by rw [hT]; exact hc0) (by rw [hT]; exact hc1)
    hs6 (fun _ h => by cases h) hs3 (fun h => by cases h) hk0 hk1 hkk0 hkk1 (by simp [refKind]) h1 h2 h3
    (by rw [nn sp h1, nn n h3]; omega)
    (by rw [nn dp h2, nn n h3]; show ¬ _ > ((arrV c1 n1 (fun j => .int (g j))).slots.size : Int); rw [arrV_size]; omega)
    (fun vm₁ _ i hi => by
      have e : scr.slots.getD (sp.toNatClampNeg + i) .null = .int (f (sp.toNatClampNeg + i)) := by
        rw [Array.getD_eq_getD_getElem?, hs5 _ (by omega)]
        rfl
      refine ⟨?_, ?_⟩
      · rw [e]
        rfl
      · rw [e]
        exact trivial)
    (g := F0 m pc ls (.int n :: .int dp :: .ref a :: .int sp :: .ref b0 :: rest)) rfl (by rw [hml]) (rest := rest) rfl (by rw [hb]; exact hdg) hframes (by show 2 * 0 + _ + _ ≤ _; omega)
  have e1 : copied scr (vp_cell c1 (n1, .inl g)) sp dp n = vp_cell c1 (n1, .inl (va_cpy f g sp.toNatClampNeg dp.toNatClampNeg n.toNatClampNeg)) := va_copiedX (fun z => .int z) scr c1 f g hs5 h4
  rw [e1] at X' step
  have hl : a < H.size := (Array.getElem?_eq_some_iff.mp hc1).1
  have hheap : ((T.setVm vm').setCell a (vp_cell c1 (n1, .inl (va_cpy f g sp.toNatClampNeg dp.toNatClampNeg n.toNatClampNeg)))).heap = H.setIfInBounds a (vp_cell c1 (n1, .inl (va_cpy f g sp.toNatClampNeg dp.toNatClampNeg n.toNatClampNeg))) := by rw [← hT]; rfl
  have oq : ∀ q : Nat, q ≠ a → (H.setIfInBounds a (vp_cell c1 (n1, .inl (va_cpy f g sp.toNatClampNeg dp.toNatClampNeg n.toNatClampNeg))))[q]? = H[q]? := fun q hq => by simp [Array.getElem?_setIfInBounds, Ne.symm hq]
  obtain ⟨t, a1, b1⟩ := kk _ _ (hP.set hD ha1 (show (H.setIfInBounds a _)[a]? = some _ by simp [Array.getElem?_setIfInBounds, hl]) oq) (hD.set ha1) ⟨by simp; exact hS.1, fun q g1 g2 => by
      rw [oq q (fun e => g2 (by rw [e]; exact hD.2 q1 _ ha1))]
      exact hS.2.1 q g1 g2, fun q hq => by
      rcases List.mem_append.mp hq with h | h
      · exact hS.2.2 q h
      · obtain ⟨z, -, hz⟩ := List.mem_map.mp h
        rw [← hz]
        exact hD.2 q1 _ ha1⟩ _ hheap X'
  exact ⟨t, step t a1, b1⟩
end
section
variable {p : Program} {l : Launch} {e : Env} {R : Room} {s : State} {m : MethodId} {args : Array Value} {below : List Frame} {meth : Method} {c : Code} {H : Heap} {locs : List Loc} {cells slots : Nat} {Q : State → Prop}
variable {cc : ByteArray} {pc : Nat} {ls : Array Slot} {rest : List Value} {A : Nat → Prop} {D : va_G} {tys : List (ClassId × FieldType)} {L : List Nat} {F : Nat → va_E} {a : Nat}
theorem pg_copyt (hexec : p.tables.exec = Jvm.exec) (hb : c.code = cc) (hml : c.maxLocals = ls.size) {own : String} {index : Nat} (hown : s.vm.findClass own = some m.cls) (hlink : (Cond.methodLink own index arraycopyName).before args s = true) (hnat : (Cond.native arraycopyName).before args s = true) (hstat : (Cond.static arraycopyName).before args s = true) (hini : (Cond.initialized "java/lang/System").before args s = true) (hK : va_K D vwCl tys s) (hP : va_P D vwCl (va_pl L F) H) (hD : va_D A (va_pl L F)) (hS : va_S A s.heap H locs) {b0 n0 : Nat} {f : Nat → Int32} (hX : va_T .int b0 n0 (fun j => .int (f j)) A s s.heap) (ha1 : a ∈ L) (t1 : Nat) {c1 : ClassId} {n1 : Nat} {g : Nat → Int32} (he1 : F a = .inl (c1, n1, .inl g)) (ht1 : tys[t1]? = some (c1, .int)) {sp dp n : Int32} (h1 : ¬ sp < 0) (h2 : ¬ dp < 0) (h3 : ¬ n < 0) (h4 : sp.toNatClampNeg + n.toNatClampNeg ≤ n0) (h5 : dp.toNatClampNeg + n.toNatClampNeg ≤ n1) (hframes : 1 ≤ R.frames) (hlocals : (rest.map fun v => v.category).sum + (nativeFrameWords "java/lang/System" "arraycopy" 5 + 11) ≤ R.locals) (hdg : decode cc pc = .ok (.invokestatic index, 3)) (kk : ∀ (H1 : Heap) (locs1 : List Loc), va_P D vwCl (va_pl L (va_up F a (.inl (c1, n1, .inl (va_cpy f g sp.toNatClampNeg dp.toNatClampNeg n.toNatClampNeg))))) H1 → va_D A (va_pl L (va_up F a (.inl (c1, n1, .inl (va_cpy f g sp.toNatClampNeg dp.toNatClampNeg n.toNatClampNeg))))) → va_S A s.heap H1 locs1 → W p l e R s m args below meth c H1 locs1 cells slots Q (F0 m (pc + 3) ls rest)) : W p l e R s m args below meth c H locs cells slots Q (F0 m pc ls (.int n :: .int dp :: .ref a :: .int sp :: .ref b0 :: rest)) := by
  obtain ⟨q1, hq1⟩ := pg_at (F := F) ha1
  have e1 := pg_set (x := .inl (c1, n1, .inl (va_cpy f g sp.toNatClampNeg dp.toNatClampNeg n.toNatClampNeg))) hD ha1 hq1
  exact cp_ti hexec hb hml hown hlink hnat hstat hini hK hP hD hS hX q1 t1 (by rw [← he1]; exact hq1) ht1 h1 h2 h3 h4 h5 hframes hlocals hdg (fun H1 locs1 w1 w2 w3 => kk H1 locs1 (e1 ▸ w1) (e1 ▸ w2) w3)
end
set_option maxHeartbeats 4000000 in
set_option maxRecDepth 100000 in
theorem s_X8_step (l : Launch) (dC : Nat → ClassId) (dI : Nat → Nat → Nat) (cs : Nat → ClassId) (ty : TyM) (L : List Nat) (sz : Nat) (F : Nat → va_E) (h0 : Nat) (ρ : Nat) (wa : Nat) (sa : Nat) (ta : Nat) (i : Nat) (hW : WT ty L) (hL_h0 : h0 ∈ L) (hT_h0 : ty h0 = (8, ρ, [wa, sa, ta])) (hi : i < 64) : Met l yX8_step (.code yX8_step cX8_step 10 none :: tb) ({ frames := 0, cells := 0, slots := 0, locals := 0 }) (va_Pc [.ref h0, .int (nI i)] (PTE (dC, dI) cs ty L F sz [])) (va_Qv (fun _ : Unit => True) (fun _ T9 => ∃ F2 : Nat → va_E, QT (dC, dI) cs ty L [ρ] F F2 (va_A (va_pl L F) sz) T9) (va_A (va_pl L F) sz)) 0 0 (va_A (va_pl L F) sz) := by
  refine Met.ofW (cc := cX8_step) (maxL := 10) (ret := none) (by decide) rfl ?_
  intro p e s m args below meth c s₁ B hml hv
  obtain ⟨rfl, ⟨hsz, hP, hK, hD0, hE, hO⟩, hG, hX⟩ := hv
  have hx := B.exec
  have hb := B.bytes
  have hr := B.returns
  have hts : ∀ w ∈ tb, w.before _ s = true := fun w h => atoms_spec (ws := .code yX8_step cX8_step 10 none :: tb) B.pre w (List.mem_cons_of_mem _ h)
  have hown : s.vm.findClass RX8 = some m.cls := findClass_of_methodNamed B.named
  have hlocks := B.notSynchronized
  subst hsz
  have hD := hD0.self (sz := s.heap.size)
  generalize hAe : va_A (va_pl L F) s.heap.size = A at hD hG hX ⊢
  have hA : ∀ q : Nat, s.heap.size ≤ q → A q := fun q h => by rw [← hAe]; exact Or.inr h
  have hS : va_S A s.heap s.heap [] := va_S.rf
  have hR : FR ty [ρ] F F := FR.refl
  have hl := lv_entry ([.ref h0, .int (nI i)]) (n := 10) (Nat.le_of_ble_eq_true rfl)
  rw [lg_entry_eq]
  generalize (lg_sl ([.ref h0, .int (nI i)]) ++ List.replicate (10 - (lg_sl ([.ref h0, .int (nI i)])).length) Slot.unset).toArray = ls at hl ⊢
  have hl : lv_has ls 10 [(0, .ref h0), (1, .int (nI i))] := hl
  refine lv_aload_n hx hb dX8_step_0 rfl (lv_at hl 0 rfl) ?_
  obtain ⟨hi_1, hi_2, hi_3, ht_4, ht_5, ht_6⟩ := hW.sha hL_h0 hT_h0
  have hF_7 := hO.sha hL_h0 hT_h0
  refine pg_get (ci := 8) (v := .ref ta) (C := RX8) (T := TX8) (N := 3) hx hb hts it_8 hown hK hP hL_h0 hF_7 rfl 2 (by decide) (hts _ kt_244) (fun _ h9 => h9) rfl dX8_step_1 ?_
  refine lv_iconst (v := 0) hx hb dX8_step_4 (by decide) ?_
  obtain ⟨f_8, hF_9⟩ := hO.tur hi_3 ht_6
  refine pg_iald hx hb hK hP hi_3 0 hF_9 rfl (show vp_in (0 : Int32) 8 from (show vp_in (nI 0) 8 from vp_in_nI (by omega) (by omega))) dX8_step_5 ?_
  refine lv_topi (fun x_10 _ => ?_)
  refine lv_istore_n (lv' := [(2, .int x_10), (0, .ref h0), (1, .int (nI i))]) hx hb dX8_step_6 rfl hl (by decide) rfl (fun ls hl => ?_)
  refine lv_aload_n hx hb dX8_step_7 rfl (lv_at hl 1 rfl) ?_
  refine pg_get (ci := 8) (v := .ref ta) (C := RX8) (T := TX8) (N := 3) hx hb hts it_8 hown hK hP hL_h0 hF_7 rfl 2 (by decide) (hts _ kt_244) (fun _ h9 => h9) rfl dX8_step_8 ?_
  refine lv_iconst (v := 4) hx hb dX8_step_11 (by decide) ?_
  refine pg_iald hx hb hK hP hi_3 0 hF_9 rfl (show vp_in (4 : Int32) 8 from (show vp_in (nI 4) 8 from vp_in_nI (by omega) (by omega))) dX8_step_12 ?_
  refine lv_topi (fun x_11 _ => ?_)
  refine lv_istore_n (lv' := [(3, .int x_11), (2, .int x_10), (0, .ref h0), (1, .int (nI i))]) hx hb dX8_step_13 rfl hl (by decide) rfl (fun ls hl => ?_)
  refine lv_iload_n hx hb dX8_step_14 rfl (lv_at hl 0 rfl) ?_
  refine lv_aload_n hx hb dX8_step_15 rfl (lv_at hl 2 rfl) ?_
  refine pg_get (ci := 8) (v := .ref ta) (C := RX8) (T := TX8) (N := 3) hx hb hts it_8 hown hK hP hL_h0 hF_7 rfl 2 (by decide) (hts _ kt_244) (fun _ h9 => h9) rfl dX8_step_16 ?_
  refine lv_iconst (v := 5) hx hb dX8_step_19 (by decide) ?_
  refine pg_iald hx hb hK hP hi_3 0 hF_9 rfl (show vp_in (5 : Int32) 8 from (show vp_in (nI 5) 8 from vp_in_nI (by omega) (by omega))) dX8_step_20 ?_
  refine lv_topi (fun x_12 _ => ?_)
  refine lv_iand hx hb dX8_step_21 ?_
  refine lv_topi (fun x_13 _ => ?_)
  refine lv_iload_n hx hb dX8_step_22 rfl (lv_at hl 0 rfl) ?_
  refine lv_iconst (v := (-1)) hx hb dX8_step_23 (by decide) ?_
  refine lv_ixor hx hb dX8_step_24 ?_
  refine lv_topi (fun x_14 _ => ?_)
  refine lv_aload_n hx hb dX8_step_25 rfl (lv_at hl 2 rfl) ?_
  refine pg_get (ci := 8) (v := .ref ta) (C := RX8) (T := TX8) (N := 3) hx hb hts it_8 hown hK hP hL_h0 hF_7 rfl 2 (by decide) (hts _ kt_244) (fun _ h9 => h9) rfl dX8_step_26 ?_
  refine lv_bipush (v := 6) hx hb dX8_step_29 (by decide) ?_
  refine pg_iald hx hb hK hP hi_3 0 hF_9 rfl (show vp_in (6 : Int32) 8 from (show vp_in (nI 6) 8 from vp_in_nI (by omega) (by omega))) dX8_step_31 ?_
  refine lv_topi (fun x_15 _ => ?_)
  refine lv_iand hx hb dX8_step_32 ?_
  refine lv_topi (fun x_16 _ => ?_)
  refine lv_ixor hx hb dX8_step_33 ?_
  refine lv_topi (fun x_17 _ => ?_)
  refine lv_istore (lv' := [(4, .int x_17), (3, .int x_11), (2, .int x_10), (0, .ref h0), (1, .int (nI i))]) hx hb dX8_step_34 hl (by decide) rfl (fun ls hl => ?_)
  refine lv_iload_n hx hb dX8_step_36 rfl (lv_at hl 2 rfl) ?_
  refine lv_aload_n hx hb dX8_step_37 rfl (lv_at hl 3 rfl) ?_
  refine pg_get (ci := 8) (v := .ref ta) (C := RX8) (T := TX8) (N := 3) hx hb hts it_8 hown hK hP hL_h0 hF_7 rfl 2 (by decide) (hts _ kt_244) (fun _ h9 => h9) rfl dX8_step_38 ?_
  refine lv_iconst (v := 1) hx hb dX8_step_41 (by decide) ?_
  refine pg_iald hx hb hK hP hi_3 0 hF_9 rfl (show vp_in (1 : Int32) 8 from (show vp_in (nI 1) 8 from vp_in_nI (by omega) (by omega))) dX8_step_42 ?_
  refine lv_topi (fun x_18 _ => ?_)
  refine lv_iand hx hb dX8_step_43 ?_
  refine lv_topi (fun x_19 _ => ?_)
  refine lv_iload_n hx hb dX8_step_44 rfl (lv_at hl 2 rfl) ?_
  refine lv_aload_n hx hb dX8_step_45 rfl (lv_at hl 3 rfl) ?_
  refine pg_get (ci := 8) (v := .ref ta) (C := RX8) (T := TX8) (N := 3) hx hb hts it_8 hown hK hP hL_h0 hF_7 rfl 2 (by decide) (hts _ kt_244) (fun _ h9 => h9) rfl dX8_step_46 ?_
  refine lv_iconst (v := 2) hx hb dX8_step_49 (by decide) ?_
  refine pg_iald hx hb hK hP hi_3 0 hF_9 rfl (show vp_in (2 : Int32) 8 from (show vp_in (nI 2) 8 from vp_in_nI (by omega) (by omega))) dX8_step_50 ?_
  refine lv_topi (fun x_20 _ => ?_)
  refine lv_iand hx hb dX8_step_51 ?_
  refine lv_topi (fun x_21 _ => ?_)
  refine lv_ixor hx hb dX8_step_52 ?_
  refine lv_topi (fun x_22 _ => ?_)
  refine lv_aload_n hx hb dX8_step_53 rfl (lv_at hl 3 rfl) ?_
  refine pg_get (ci := 8) (v := .ref ta) (C := RX8) (T := TX8) (N := 3) hx hb hts it_8 hown hK hP hL_h0 hF_7 rfl 2 (by decide) (hts _ kt_244) (fun _ h9 => h9) rfl dX8_step_54 ?_
  refine lv_iconst (v := 1) hx hb dX8_step_57 (by decide) ?_
  refine pg_iald hx hb hK hP hi_3 0 hF_9 rfl (show vp_in (1 : Int32) 8 from (show vp_in (nI 1) 8 from vp_in_nI (by omega) (by omega))) dX8_step_58 ?_
  refine lv_topi (fun x_23 _ => ?_)
  refine lv_aload_n hx hb dX8_step_59 rfl (lv_at hl 3 rfl) ?_
  refine pg_get (ci := 8) (v := .ref ta) (C := RX8) (T := TX8) (N := 3) hx hb hts it_8 hown hK hP hL_h0 hF_7 rfl 2 (by decide) (hts _ kt_244) (fun _ h9 => h9) rfl dX8_step_60 ?_
  refine lv_iconst (v := 2) hx hb dX8_step_63 (by decide) ?_
  refine pg_iald hx hb hK hP hi_3 0 hF_9 rfl (show vp_in (2 : Int32) 8 from (show vp_in (nI 2) 8 from vp_in_nI (by omega) (by omega))) dX8_step_64 ?_
  refine lv_topi (fun x_24 _ => ?_)
  refine lv_iand hx hb dX8_step_65 ?_
  refine lv_topi (fun x_25 _ => ?_)
  refine lv_ixor hx hb dX8_step_66 ?_
  refine lv_topi (fun x_26 _ => ?_)
  refine lv_istore (lv' := [(5, .int x_26), (4, .int x_17), (3, .int x_11), (2, .int x_10), (0, .ref h0), (1, .int (nI i))]) hx hb dX8_step_67 hl (by decide) rfl (fun ls hl => ?_)
  refine lv_iload_n hx hb dX8_step_69 rfl (lv_at hl 2 rfl) ?_
  refine lv_bipush (v := 6) hx hb dX8_step_70 (by decide) ?_
  refine lv_iushr hx hb dX8_step_72 rfl ?_
  refine lv_topi (fun x_28 _ => ?_)
  refine lv_iload_n hx hb dX8_step_73 rfl (lv_at hl 2 rfl) ?_
  refine lv_bipush (v := 26) hx hb dX8_step_74 (by decide) ?_
  refine lv_ishl hx hb dX8_step_76 ?_
  refine lv_topi (fun x_29 _ => ?_)
  refine lv_ior hx hb dX8_step_77 ?_
  refine lv_topi (fun x_30 _ => ?_)
  refine lv_iload_n hx hb dX8_step_78 rfl (lv_at hl 2 rfl) ?_
  refine lv_bipush (v := 11) hx hb dX8_step_79 (by decide) ?_
  refine lv_iushr hx hb dX8_step_81 rfl ?_
  refine lv_topi (fun x_32 _ => ?_)
  refine lv_iload_n hx hb dX8_step_82 rfl (lv_at hl 2 rfl) ?_
  refine lv_bipush (v := 21) hx hb dX8_step_83 (by decide) ?_
  refine lv_ishl hx hb dX8_step_85 ?_
  refine lv_topi (fun x_33 _ => ?_)
  refine lv_ior hx hb dX8_step_86 ?_
  refine lv_topi (fun x_34 _ => ?_)
  refine lv_ixor hx hb dX8_step_87 ?_
  refine lv_topi (fun x_35 _ => ?_)
  refine lv_iload_n hx hb dX8_step_88 rfl (lv_at hl 2 rfl) ?_
  refine lv_bipush (v := 25) hx hb dX8_step_89 (by decide) ?_
  refine lv_iushr hx hb dX8_step_91 rfl ?_
  refine lv_topi (fun x_37 _ => ?_)
  refine lv_iload_n hx hb dX8_step_92 rfl (lv_at hl 2 rfl) ?_
  refine lv_bipush (v := 7) hx hb dX8_step_93 (by decide) ?_
  refine lv_ishl hx hb dX8_step_95 ?_
  refine lv_topi (fun x_38 _ => ?_)
  refine lv_ior hx hb dX8_step_96 ?_
  refine lv_topi (fun x_39 _ => ?_)
  refine lv_ixor hx hb dX8_step_97 ?_
  refine lv_topi (fun x_40 _ => ?_)
  refine lv_istore (lv' := [(6, .int x_40), (5, .int x_26), (4, .int x_17), (3, .int x_11), (2, .int x_10), (0, .ref h0), (1, .int (nI i))]) hx hb dX8_step_98 hl (by decide) rfl (fun ls hl => ?_)
  refine lv_iload_n hx hb dX8_step_100 rfl (lv_at hl 4 rfl) ?_
  refine lv_iconst (v := 2) hx hb dX8_step_101 (by decide) ?_
  refine lv_iushr hx hb dX8_step_102 rfl ?_
  refine lv_topi (fun x_42 _ => ?_)
  refine lv_iload_n hx hb dX8_step_103 rfl (lv_at hl 4 rfl) ?_
  refine lv_bipush (v := 30) hx hb dX8_step_104 (by decide) ?_
  refine lv_ishl hx hb dX8_step_106 ?_
  refine lv_topi (fun x_43 _ => ?_)
  refine lv_ior hx hb dX8_step_107 ?_
  refine lv_topi (fun x_44 _ => ?_)
  refine lv_iload_n hx hb dX8_step_108 rfl (lv_at hl 4 rfl) ?_
  refine lv_bipush (v := 13) hx hb dX8_step_109 (by decide) ?_
  refine lv_iushr hx hb dX8_step_111 rfl ?_
  refine lv_topi (fun x_46 _ => ?_)
  refine lv_iload_n hx hb dX8_step_112 rfl (lv_at hl 4 rfl) ?_
  refine lv_bipush (v := 19) hx hb dX8_step_113 (by decide) ?_
  refine lv_ishl hx hb dX8_step_115 ?_
  refine lv_topi (fun x_47 _ => ?_)
  refine lv_ior hx hb dX8_step_116 ?_
  refine lv_topi (fun x_48 _ => ?_)
  refine lv_ixor hx hb dX8_step_117 ?_
  refine lv_topi (fun x_49 _ => ?_)
  refine lv_iload_n hx hb dX8_step_118 rfl (lv_at hl 4 rfl) ?_
  refine lv_bipush (v := 22) hx hb dX8_step_119 (by decide) ?_
  refine lv_iushr hx hb dX8_step_121 rfl ?_
  refine lv_topi (fun x_51 _ => ?_)
  refine lv_iload_n hx hb dX8_step_122 rfl (lv_at hl 4 rfl) ?_
  refine lv_bipush (v := 10) hx hb dX8_step_123 (by decide) ?_
  refine lv_ishl hx hb dX8_step_125 ?_
  refine lv_topi (fun x_52 _ => ?_)
  refine lv_ior hx hb dX8_step_126 ?_
  refine lv_topi (fun x_53 _ => ?_)
  refine lv_ixor hx hb dX8_step_127 ?_
  refine lv_topi (fun x_54 _ => ?_)
  refine lv_istore (lv' := [(7, .int x_54), (6, .int x_40), (5, .int x_26), (4, .int x_17), (3, .int x_11), (2, .int x_10), (0, .ref h0), (1, .int (nI i))]) hx hb dX8_step_128 hl (by decide) rfl (fun ls hl => ?_)
  refine lv_aload_n hx hb dX8_step_130 rfl (lv_at hl 6 rfl) ?_
  refine pg_get (ci := 8) (v := .ref ta) (C := RX8) (T := TX8) (N := 3) hx hb hts it_8 hown hK hP hL_h0 hF_7 rfl 2 (by decide) (hts _ kt_244) (fun _ h9 => h9) rfl dX8_step_131 ?_
  refine lv_bipush (v := 7) hx hb dX8_step_134 (by decide) ?_
  refine pg_iald hx hb hK hP hi_3 0 hF_9 rfl (show vp_in (7 : Int32) 8 from (show vp_in (nI 7) 8 from vp_in_nI (by omega) (by omega))) dX8_step_136 ?_
  refine lv_topi (fun x_55 _ => ?_)
  refine lv_iload hx hb dX8_step_137 (lv_at hl 1 rfl) ?_
  refine lv_iadd hx hb dX8_step_139 ?_
  refine lv_topi (fun x_56 _ => ?_)
  refine lv_iload hx hb dX8_step_140 (lv_at hl 3 rfl) ?_
  refine lv_iadd hx hb dX8_step_142 ?_
  refine lv_topi (fun x_57 _ => ?_)
  obtain ⟨aB, aF, fB, fF, ⟨rfl, rfl⟩, zB, tB, zF, tF⟩ := id hG.2.2.1
  refine va_gets hx hb zF hS hown (hts _ kt_245) (fun _ h9 => h9) dX8_step_143 ?_
  refine lv_iload_n hx hb dX8_step_146 rfl (lv_at hl 7 rfl) ?_
  refine va_ti hx hb tF hS (vp_in_nI (by omega) (by omega)) rfl dX8_step_147 ?_
  refine lv_topi (fun x_58 _ => ?_)
  refine lv_iadd hx hb dX8_step_148 ?_
  refine lv_topi (fun x_59 _ => ?_)
  refine lv_aload_n hx hb dX8_step_149 rfl (lv_at hl 6 rfl) ?_
  refine pg_get (ci := 8) (v := .ref wa) (C := RX8) (T := TX8) (N := 3) hx hb hts it_8 hown hK hP hL_h0 hF_7 rfl 0 (by decide) (hts _ kt_246) (fun _ h9 => h9) rfl dX8_step_150 ?_
  refine lv_iload_n hx hb dX8_step_153 rfl (lv_at hl 7 rfl) ?_
  obtain ⟨f_60, hF_61⟩ := hO.ints hi_1 ht_4
  refine pg_iald hx hb hK hP hi_1 0 hF_61 rfl (vp_in_nI (by omega) (by omega)) dX8_step_154 ?_
  refine lv_topi (fun x_62 _ => ?_)
  refine lv_iadd hx hb dX8_step_155 ?_
  refine lv_topi (fun x_63 _ => ?_)
  refine lv_istore (lv' := [(8, .int x_63), (7, .int x_54), (6, .int x_40), (5, .int x_26), (4, .int x_17), (3, .int x_11), (2, .int x_10), (0, .ref h0), (1, .int (nI i))]) hx hb dX8_step_156 hl (by decide) rfl (fun ls hl => ?_)
  refine lv_bipush (v := 7) hx hb dX8_step_158 (by decide) ?_
  refine lv_istore (lv' := [(9, .int 7), (8, .int x_63), (7, .int x_54), (6, .int x_40), (5, .int x_26), (4, .int x_17), (3, .int x_11), (2, .int x_10), (0, .ref h0), (1, .int (nI i))]) hx hb dX8_step_160 hl (by decide) rfl (fun ls hl => ?_)
  refine lv_iload hx hb dX8_step_162 (lv_at hl 0 rfl) ?_
  refine lv_if_le (tgt := 189) hx hb dX8_step_164 (by decide) (fun c_64 => absurd c_64 (by decide)) (fun c_64 => ?_)
  refine lv_aload_n hx hb dX8_step_167 rfl (lv_at hl 8 rfl) ?_
  refine pg_get (ci := 8) (v := .ref ta) (C := RX8) (T := TX8) (N := 3) hx hb hts it_8 hown hK hP hL_h0 hF_7 rfl 2 (by decide) (hts _ kt_244) (fun _ h9 => h9) rfl dX8_step_168 ?_
  refine lv_iload hx hb dX8_step_171 (lv_at hl 0 rfl) ?_
  refine lv_aload_n hx hb dX8_step_173 rfl (lv_at hl 8 rfl) ?_
  refine pg_get (ci := 8) (v := .ref ta) (C := RX8) (T := TX8) (N := 3) hx hb hts it_8 hown hK hP hL_h0 hF_7 rfl 2 (by decide) (hts _ kt_244) (fun _ h9 => h9) rfl dX8_step_174 ?_
  refine lv_iload hx hb dX8_step_177 (lv_at hl 0 rfl) ?_
  refine lv_iconst (v := 1) hx hb dX8_step_179 (by decide) ?_
  refine lv_isub hx hb dX8_step_180 ?_
  refine lv_topi (fun x_65 ex_65 => ?_)
  obtain rfl : x_65 = 6 := ex_65.trans (by decide)
  refine pg_iald hx hb hK hP hi_3 0 hF_9 rfl (show vp_in (6 : Int32) 8 from (show vp_in (nI 6) 8 from vp_in_nI (by omega) (by omega))) dX8_step_181 ?_
  refine lv_topi (fun x_66 _ => ?_)
  refine pg_iast hx hb hK hP hD hS hi_3 0 hF_9 rfl (show vp_in (7 : Int32) 8 from (show vp_in (nI 7) 8 from vp_in_nI (by omega) (by omega))) dX8_step_182 (fun H locs hP hD hS => ?_)
  obtain ⟨F_67, he_68, hP, hD, hO, hR⟩ : ∃ G, G = va_up F ta (.inl (cs 16, 8, .inl (upd f_8 (7 : Int32).toNatClampNeg (x_66)))) ∧ va_P (dC, dI) vwCl (va_pl L G) H ∧ va_D A (va_pl L G) ∧ OK cs ty L G ∧ FR ty [ρ] F G := ⟨_, rfl, hP, hD, hO.up (sh.tur ht_6 ⟨_, rfl⟩), hR.up ht_6 (by simp)⟩
  have hF_69 : F_67 ta = .inl (cs 16, 8, .inl (upd f_8 (7 : Int32).toNatClampNeg (x_66))) := by rw [he_68]; exact up_self
  have hF_70 : F_67 h0 = .inr (8, [.ref wa, .ref sa, .ref ta]) := by rw [he_68, up_ne (ne_ty hT_h0 ht_6 (by simp))]; exact hF_7
  have hF_71 : F_67 wa = .inl (cs 16, 64, .inl f_60) := by rw [he_68, up_ne (ne_ty ht_4 ht_6 (by simp))]; exact hF_61
  obtain ⟨f_72, hF_69⟩ : ∃ f : Nat → Int32, F_67 ta = .inl (cs 16, 8, .inl f) := ⟨_, hF_69⟩
  refine lv_iinc (v := 6) (lv' := [(9, .int 6), (8, .int x_63), (7, .int x_54), (6, .int x_40), (5, .int x_26), (4, .int x_17), (3, .int x_11), (2, .int x_10), (0, .ref h0), (1, .int (nI i))]) hx hb dX8_step_183 hl (k := 0) rfl (by decide) (by decide) rfl (fun ls hl => ?_)
  refine lv_goto (tgt := 162) hx hb dX8_step_186 (by decide) ?_
  refine lv_iload hx hb dX8_step_162 (lv_at hl 0 rfl) ?_
  refine lv_if_le (tgt := 189) hx hb dX8_step_164 (by decide) (fun c_73 => absurd c_73 (by decide)) (fun c_73 => ?_)
  refine lv_aload_n hx hb dX8_step_167 rfl (lv_at hl 8 rfl) ?_
  refine pg_get (ci := 8) (v := .ref ta) (C := RX8) (T := TX8) (N := 3) hx hb hts it_8 hown hK hP hL_h0 hF_70 rfl 2 (by decide) (hts _ kt_244) (fun _ h9 => h9) rfl dX8_step_168 ?_
  refine lv_iload hx hb dX8_step_171 (lv_at hl 0 rfl) ?_
  refine lv_aload_n hx hb dX8_step_173 rfl (lv_at hl 8 rfl) ?_
  refine pg_get (ci := 8) (v := .ref ta) (C := RX8) (T := TX8) (N := 3) hx hb hts it_8 hown hK hP hL_h0 hF_70 rfl 2 (by decide) (hts _ kt_244) (fun _ h9 => h9) rfl dX8_step_174 ?_
  refine lv_iload hx hb dX8_step_177 (lv_at hl 0 rfl) ?_
  refine lv_iconst (v := 1) hx hb dX8_step_179 (by decide) ?_
  refine lv_isub hx hb dX8_step_180 ?_
  refine lv_topi (fun x_74 ex_74 => ?_)
  obtain rfl : x_74 = 5 := ex_74.trans (by decide)
  refine pg_iald hx hb hK hP hi_3 0 hF_69 rfl (show vp_in (5 : Int32) 8 from (show vp_in (nI 5) 8 from vp_in_nI (by omega) (by omega))) dX8_step_181 ?_
  refine lv_topi (fun x_75 _ => ?_)
  refine pg_iast hx hb hK hP hD hS hi_3 0 hF_69 rfl (show vp_in (6 : Int32) 8 from (show vp_in (nI 6) 8 from vp_in_nI (by omega) (by omega))) dX8_step_182 (fun H locs hP hD hS => ?_)
  obtain ⟨F_76, he_77, hP, hD, hO, hR⟩ : ∃ G, G = va_up F_67 ta (.inl (cs 16, 8, .inl (upd f_72 (6 : Int32).toNatClampNeg (x_75)))) ∧ va_P (dC, dI) vwCl (va_pl L G) H ∧ va_D A (va_pl L G) ∧ OK cs ty L G ∧ FR ty [ρ] F G := ⟨_, rfl, hP, hD, hO.up (sh.tur ht_6 ⟨_, rfl⟩), hR.up ht_6 (by simp)⟩
  have hF_78 : F_76 ta = .inl (cs 16, 8, .inl (upd f_72 (6 : Int32).toNatClampNeg (x_75))) := by rw [he_77]; exact up_self
  have hF_79 : F_76 h0 = .inr (8, [.ref wa, .ref sa, .ref ta]) := by rw [he_77, up_ne (ne_ty hT_h0 ht_6 (by simp))]; exact hF_70
  have hF_80 : F_76 wa = .inl (cs 16, 64, .inl f_60) := by rw [he_77, up_ne (ne_ty ht_4 ht_6 (by simp))]; exact hF_71
  obtain ⟨f_81, hF_78⟩ : ∃ f : Nat → Int32, F_76 ta = .inl (cs 16, 8, .inl f) := ⟨_, hF_78⟩
  refine lv_iinc (v := 5) (lv' := [(9, .int 5), (8, .int x_63), (7, .int x_54), (6, .int x_40), (5, .int x_26), (4, .int x_17), (3, .int x_11), (2, .int x_10), (0, .ref h0), (1, .int (nI i))]) hx hb dX8_step_183 hl (k := 0) rfl (by decide) (by decide) rfl (fun ls hl => ?_)
  refine lv_goto (tgt := 162) hx hb dX8_step_186 (by decide) ?_
  refine lv_iload hx hb dX8_step_162 (lv_at hl 0 rfl) ?_
  refine lv_if_le (tgt := 189) hx hb dX8_step_164 (by decide) (fun c_82 => absurd c_82 (by decide)) (fun c_82 => ?_)
  refine lv_aload_n hx hb dX8_step_167 rfl (lv_at hl 8 rfl) ?_
  refine pg_get (ci := 8) (v := .ref ta) (C := RX8) (T := TX8) (N := 3) hx hb hts it_8 hown hK hP hL_h0 hF_79 rfl 2 (by decide) (hts _ kt_244) (fun _ h9 => h9) rfl dX8_step_168 ?_
  refine lv_iload hx hb dX8_step_171 (lv_at hl 0 rfl) ?_
  refine lv_aload_n hx hb dX8_step_173 rfl (lv_at hl 8 rfl) ?_
  refine pg_get (ci := 8) (v := .ref ta) (C := RX8) (T := TX8) (N := 3) hx hb hts it_8 hown hK hP hL_h0 hF_79 rfl 2 (by decide) (hts _ kt_244) (fun _ h9 => h9) rfl dX8_step_174 ?_
  refine lv_iload hx hb dX8_step_177 (lv_at hl 0 rfl) ?_
  refine lv_iconst (v := 1) hx hb dX8_step_179 (by decide) ?_
  refine lv_isub hx hb dX8_step_180 ?_
  refine lv_topi (fun x_83 ex_83 => ?_)
  obtain rfl : x_83 = 4 := ex_83.trans (by decide)
  refine pg_iald hx hb hK hP hi_3 0 hF_78 rfl (show vp_in (4 : Int32) 8 from (show vp_in (nI 4) 8 from vp_in_nI (by omega) (by omega))) dX8_step_181 ?_
  refine lv_topi (fun x_84 _ => ?_)
  refine pg_iast hx hb hK hP hD hS hi_3 0 hF_78 rfl (show vp_in (5 : Int32) 8 from (show vp_in (nI 5) 8 from vp_in_nI (by omega) (by omega))) dX8_step_182 (fun H locs hP hD hS => ?_)
  obtain ⟨F_85, he_86, hP, hD, hO, hR⟩ : ∃ G, G = va_up F_76 ta (.inl (cs 16, 8, .inl (upd f_81 (5 : Int32).toNatClampNeg (x_84)))) ∧ va_P (dC, dI) vwCl (va_pl L G) H ∧ va_D A (va_pl L G) ∧ OK cs ty L G ∧ FR ty [ρ] F G := ⟨_, rfl, hP, hD, hO.up (sh.tur ht_6 ⟨_, rfl⟩), hR.up ht_6 (by simp)⟩
  have hF_87 : F_85 ta = .inl (cs 16, 8, .inl (upd f_81 (5 : Int32).toNatClampNeg (x_84))) := by rw [he_86]; exact up_self
  have hF_88 : F_85 h0 = .inr (8, [.ref wa, .ref sa, .ref ta]) := by rw [he_86, up_ne (ne_ty hT_h0 ht_6 (by simp))]; exact hF_79
  have hF_89 : F_85 wa = .inl (cs 16, 64, .inl f_60) := by rw [he_86, up_ne (ne_ty ht_4 ht_6 (by simp))]; exact hF_80
  obtain ⟨f_90, hF_87⟩ : ∃ f : Nat → Int32, F_85 ta = .inl (cs 16, 8, .inl f) := ⟨_, hF_87⟩
  refine lv_iinc (v := 4) (lv' := [(9, .int 4), (8, .int x_63), (7, .int x_54), (6, .int x_40), (5, .int x_26), (4, .int x_17), (3, .int x_11), (2, .int x_10), (0, .ref h0), (1, .int (nI i))]) hx hb dX8_step_183 hl (k := 0) rfl (by decide) (by decide) rfl (fun ls hl => ?_)
  refine lv_goto (tgt := 162) hx hb dX8_step_186 (by decide) ?_
  refine lv_iload hx hb dX8_step_162 (lv_at hl 0 rfl) ?_
  refine lv_if_le (tgt := 189) hx hb dX8_step_164 (by decide) (fun c_91 => absurd c_91 (by decide)) (fun c_91 => ?_)
  refine lv_aload_n hx hb dX8_step_167 rfl (lv_at hl 8 rfl) ?_
  refine pg_get (ci := 8) (v := .ref ta) (C := RX8) (T := TX8) (N := 3) hx hb hts it_8 hown hK hP hL_h0 hF_88 rfl 2 (by decide) (hts _ kt_244) (fun _ h9 => h9) rfl dX8_step_168 ?_
  refine lv_iload hx hb dX8_step_171 (lv_at hl 0 rfl) ?_
  refine lv_aload_n hx hb dX8_step_173 rfl (lv_at hl 8 rfl) ?_
  refine pg_get (ci := 8) (v := .ref ta) (C := RX8) (T := TX8) (N := 3) hx hb hts it_8 hown hK hP hL_h0 hF_88 rfl 2 (by decide) (hts _ kt_244) (fun _ h9 => h9) rfl dX8_step_174 ?_
  refine lv_iload hx hb dX8_step_177 (lv_at hl 0 rfl) ?_
  refine lv_iconst (v := 1) hx hb dX8_step_179 (by decide) ?_
  refine lv_isub hx hb dX8_step_180 ?_
  refine lv_topi (fun x_92 ex_92 => ?_)
  obtain rfl : x_92 = 3 := ex_92.trans (by decide)
  refine pg_iald hx hb hK hP hi_3 0 hF_87 rfl (show vp_in (3 : Int32) 8 from (show vp_in (nI 3) 8 from vp_in_nI (by omega) (by omega))) dX8_step_181 ?_
  refine lv_topi (fun x_93 _ => ?_)
  refine pg_iast hx hb hK hP hD hS hi_3 0 hF_87 rfl (show vp_in (4 : Int32) 8 from (show vp_in (nI 4) 8 from vp_in_nI (by omega) (by omega))) dX8_step_182 (fun H locs hP hD hS => ?_)
  obtain ⟨F_94, he_95, hP, hD, hO, hR⟩ : ∃ G, G = va_up F_85 ta (.inl (cs 16, 8, .inl (upd f_90 (4 : Int32).toNatClampNeg (x_93)))) ∧ va_P (dC, dI) vwCl (va_pl L G) H ∧ va_D A (va_pl L G) ∧ OK cs ty L G ∧ FR ty [ρ] F G := ⟨_, rfl, hP, hD, hO.up (sh.tur ht_6 ⟨_, rfl⟩), hR.up ht_6 (by simp)⟩
  have hF_96 : F_94 ta = .inl (cs 16, 8, .inl (upd f_90 (4 : Int32).toNatClampNeg (x_93))) := by rw [he_95]; exact up_self
  have hF_97 : F_94 h0 = .inr (8, [.ref wa, .ref sa, .ref ta]) := by rw [he_95, up_ne (ne_ty hT_h0 ht_6 (by simp))]; exact hF_88
  have hF_98 : F_94 wa = .inl (cs 16, 64, .inl f_60) := by rw [he_95, up_ne (ne_ty ht_4 ht_6 (by simp))]; exact hF_89
  obtain ⟨f_99, hF_96⟩ : ∃ f : Nat → Int32, F_94 ta = .inl (cs 16, 8, .inl f) := ⟨_, hF_96⟩
  refine lv_iinc (v := 3) (lv' := [(9, .int 3), (8, .int x_63), (7, .int x_54), (6, .int x_40), (5, .int x_26), (4, .int x_17), (3, .int x_11), (2, .int x_10), (0, .ref h0), (1, .int (nI i))]) hx hb dX8_step_183 hl (k := 0) rfl (by decide) (by decide) rfl (fun ls hl => ?_)
  refine lv_goto (tgt := 162) hx hb dX8_step_186 (by decide) ?_
  refine lv_iload hx hb dX8_step_162 (lv_at hl 0 rfl) ?_
  refine lv_if_le (tgt := 189) hx hb dX8_step_164 (by decide) (fun c_100 => absurd c_100 (by decide)) (fun c_100 => ?_)
  refine lv_aload_n hx hb dX8_step_167 rfl (lv_at hl 8 rfl) ?_
  refine pg_get (ci := 8) (v := .ref ta) (C := RX8) (T := TX8) (N := 3) hx hb hts it_8 hown hK hP hL_h0 hF_97 rfl 2 (by decide) (hts _ kt_244) (fun _ h9 => h9) rfl dX8_step_168 ?_
  refine lv_iload hx hb dX8_step_171 (lv_at hl 0 rfl) ?_
  refine lv_aload_n hx hb dX8_step_173 rfl (lv_at hl 8 rfl) ?_
  refine pg_get (ci := 8) (v := .ref ta) (C := RX8) (T := TX8) (N := 3) hx hb hts it_8 hown hK hP hL_h0 hF_97 rfl 2 (by decide) (hts _ kt_244) (fun _ h9 => h9) rfl dX8_step_174 ?_
  refine lv_iload hx hb dX8_step_177 (lv_at hl 0 rfl) ?_
  refine lv_iconst (v := 1) hx hb dX8_step_179 (by decide) ?_
  refine lv_isub hx hb dX8_step_180 ?_
  refine lv_topi (fun x_101 ex_101 => ?_)
  obtain rfl : x_101 = 2 := ex_101.trans (by decide)
  refine pg_iald hx hb hK hP hi_3 0 hF_96 rfl (show vp_in (2 : Int32) 8 from (show vp_in (nI 2) 8 from vp_in_nI (by omega) (by omega))) dX8_step_181 ?_
  refine lv_topi (fun x_102 _ => ?_)
  refine pg_iast hx hb hK hP hD hS hi_3 0 hF_96 rfl (show vp_in (3 : Int32) 8 from (show vp_in (nI 3) 8 from vp_in_nI (by omega) (by omega))) dX8_step_182 (fun H locs hP hD hS => ?_)
  obtain ⟨F_103, he_104, hP, hD, hO, hR⟩ : ∃ G, G = va_up F_94 ta (.inl (cs 16, 8, .inl (upd f_99 (3 : Int32).toNatClampNeg (x_102)))) ∧ va_P (dC, dI) vwCl (va_pl L G) H ∧ va_D A (va_pl L G) ∧ OK cs ty L G ∧ FR ty [ρ] F G := ⟨_, rfl, hP, hD, hO.up (sh.tur ht_6 ⟨_, rfl⟩), hR.up ht_6 (by simp)⟩
  have hF_105 : F_103 ta = .inl (cs 16, 8, .inl (upd f_99 (3 : Int32).toNatClampNeg (x_102))) := by rw [he_104]; exact up_self
  have hF_106 : F_103 h0 = .inr (8, [.ref wa, .ref sa, .ref ta]) := by rw [he_104, up_ne (ne_ty hT_h0 ht_6 (by simp))]; exact hF_97
  have hF_107 : F_103 wa = .inl (cs 16, 64, .inl f_60) := by rw [he_104, up_ne (ne_ty ht_4 ht_6 (by simp))]; exact hF_98
  obtain ⟨f_108, hF_105⟩ : ∃ f : Nat → Int32, F_103 ta = .inl (cs 16, 8, .inl f) := ⟨_, hF_105⟩
  refine lv_iinc (v := 2) (lv' := [(9, .int 2), (8, .int x_63), (7, .int x_54), (6, .int x_40), (5, .int x_26), (4, .int x_17), (3, .int x_11), (2, .int x_10), (0, .ref h0), (1, .int (nI i))]) hx hb dX8_step_183 hl (k := 0) rfl (by decide) (by decide) rfl (fun ls hl => ?_)
  refine lv_goto (tgt := 162) hx hb dX8_step_186 (by decide) ?_
  refine lv_iload hx hb dX8_step_162 (lv_at hl 0 rfl) ?_
  refine lv_if_le (tgt := 189) hx hb dX8_step_164 (by decide) (fun c_109 => absurd c_109 (by decide)) (fun c_109 => ?_)
  refine lv_aload_n hx hb dX8_step_167 rfl (lv_at hl 8 rfl) ?_
  refine pg_get (ci := 8) (v := .ref ta) (C := RX8) (T := TX8) (N := 3) hx hb hts it_8 hown hK hP hL_h0 hF_106 rfl 2 (by decide) (hts _ kt_244) (fun _ h9 => h9) rfl dX8_step_168 ?_
  refine lv_iload hx hb dX8_step_171 (lv_at hl 0 rfl) ?_
  refine lv_aload_n hx hb dX8_step_173 rfl (lv_at hl 8 rfl) ?_
  refine pg_get (ci := 8) (v := .ref ta) (C := RX8) (T := TX8) (N := 3) hx hb hts it_8 hown hK hP hL_h0 hF_106 rfl 2 (by decide) (hts _ kt_244) (fun _ h9 => h9) rfl dX8_step_174 ?_
  refine lv_iload hx hb dX8_step_177 (lv_at hl 0 rfl) ?_
  refine lv_iconst (v := 1) hx hb dX8_step_179 (by decide) ?_
  refine lv_isub hx hb dX8_step_180 ?_
  refine lv_topi (fun x_110 ex_110 => ?_)
  obtain rfl : x_110 = 1 := ex_110.trans (by decide)
  refine pg_iald hx hb hK hP hi_3 0 hF_105 rfl (show vp_in (1 : Int32) 8 from (show vp_in (nI 1) 8 from vp_in_nI (by omega) (by omega))) dX8_step_181 ?_
  refine lv_topi (fun x_111 _ => ?_)
  refine pg_iast hx hb hK hP hD hS hi_3 0 hF_105 rfl (show vp_in (2 : Int32) 8 from (show vp_in (nI 2) 8 from vp_in_nI (by omega) (by omega))) dX8_step_182 (fun H locs hP hD hS => ?_)
  obtain ⟨F_112, he_113, hP, hD, hO, hR⟩ : ∃ G, G = va_up F_103 ta (.inl (cs 16, 8, .inl (upd f_108 (2 : Int32).toNatClampNeg (x_111)))) ∧ va_P (dC, dI) vwCl (va_pl L G) H ∧ va_D A (va_pl L G) ∧ OK cs ty L G ∧ FR ty [ρ] F G := ⟨_, rfl, hP, hD, hO.up (sh.tur ht_6 ⟨_, rfl⟩), hR.up ht_6 (by simp)⟩
  have hF_114 : F_112 ta = .inl (cs 16, 8, .inl (upd f_108 (2 : Int32).toNatClampNeg (x_111))) := by rw [he_113]; exact up_self
  have hF_115 : F_112 h0 = .inr (8, [.ref wa, .ref sa, .ref ta]) := by rw [he_113, up_ne (ne_ty hT_h0 ht_6 (by simp))]; exact hF_106
  have hF_116 : F_112 wa = .inl (cs 16, 64, .inl f_60) := by rw [he_113, up_ne (ne_ty ht_4 ht_6 (by simp))]; exact hF_107
  obtain ⟨f_117, hF_114⟩ : ∃ f : Nat → Int32, F_112 ta = .inl (cs 16, 8, .inl f) := ⟨_, hF_114⟩
  refine lv_iinc (v := 1) (lv' := [(9, .int 1), (8, .int x_63), (7, .int x_54), (6, .int x_40), (5, .int x_26), (4, .int x_17), (3, .int x_11), (2, .int x_10), (0, .ref h0), (1, .int (nI i))]) hx hb dX8_step_183 hl (k := 0) rfl (by decide) (by decide) rfl (fun ls hl => ?_)
  refine lv_goto (tgt := 162) hx hb dX8_step_186 (by decide) ?_
  refine lv_iload hx hb dX8_step_162 (lv_at hl 0 rfl) ?_
  refine lv_if_le (tgt := 189) hx hb dX8_step_164 (by decide) (fun c_118 => absurd c_118 (by decide)) (fun c_118 => ?_)
  refine lv_aload_n hx hb dX8_step_167 rfl (lv_at hl 8 rfl) ?_
  refine pg_get (ci := 8) (v := .ref ta) (C := RX8) (T := TX8) (N := 3) hx hb hts it_8 hown hK hP hL_h0 hF_115 rfl 2 (by decide) (hts _ kt_244) (fun _ h9 => h9) rfl dX8_step_168 ?_
  refine lv_iload hx hb dX8_step_171 (lv_at hl 0 rfl) ?_
  refine lv_aload_n hx hb dX8_step_173 rfl (lv_at hl 8 rfl) ?_
  refine pg_get (ci := 8) (v := .ref ta) (C := RX8) (T := TX8) (N := 3) hx hb hts it_8 hown hK hP hL_h0 hF_115 rfl 2 (by decide) (hts _ kt_244) (fun _ h9 => h9) rfl dX8_step_174 ?_
  refine lv_iload hx hb dX8_step_177 (lv_at hl 0 rfl) ?_
  refine lv_iconst (v := 1) hx hb dX8_step_179 (by decide) ?_
  refine lv_isub hx hb dX8_step_180 ?_
  refine lv_topi (fun x_119 ex_119 => ?_)
  obtain rfl : x_119 = 0 := ex_119.trans (by decide)
  refine pg_iald hx hb hK hP hi_3 0 hF_114 rfl (show vp_in (0 : Int32) 8 from (show vp_in (nI 0) 8 from vp_in_nI (by omega) (by omega))) dX8_step_181 ?_
  refine lv_topi (fun x_120 _ => ?_)
  refine pg_iast hx hb hK hP hD hS hi_3 0 hF_114 rfl (show vp_in (1 : Int32) 8 from (show vp_in (nI 1) 8 from vp_in_nI (by omega) (by omega))) dX8_step_182 (fun H locs hP hD hS => ?_)
  obtain ⟨F_121, he_122, hP, hD, hO, hR⟩ : ∃ G, G = va_up F_112 ta (.inl (cs 16, 8, .inl (upd f_117 (1 : Int32).toNatClampNeg (x_120)))) ∧ va_P (dC, dI) vwCl (va_pl L G) H ∧ va_D A (va_pl L G) ∧ OK cs ty L G ∧ FR ty [ρ] F G := ⟨_, rfl, hP, hD, hO.up (sh.tur ht_6 ⟨_, rfl⟩), hR.up ht_6 (by simp)⟩
  have hF_123 : F_121 ta = .inl (cs 16, 8, .inl (upd f_117 (1 : Int32).toNatClampNeg (x_120))) := by rw [he_122]; exact up_self
  have hF_124 : F_121 h0 = .inr (8, [.ref wa, .ref sa, .ref ta]) := by rw [he_122, up_ne (ne_ty hT_h0 ht_6 (by simp))]; exact hF_115
  have hF_125 : F_121 wa = .inl (cs 16, 64, .inl f_60) := by rw [he_122, up_ne (ne_ty ht_4 ht_6 (by simp))]; exact hF_116
  obtain ⟨f_126, hF_123⟩ : ∃ f : Nat → Int32, F_121 ta = .inl (cs 16, 8, .inl f) := ⟨_, hF_123⟩
  refine lv_iinc (v := 0) (lv' := [(9, .int 0), (8, .int x_63), (7, .int x_54), (6, .int x_40), (5, .int x_26), (4, .int x_17), (3, .int x_11), (2, .int x_10), (0, .ref h0), (1, .int (nI i))]) hx hb dX8_step_183 hl (k := 0) rfl (by decide) (by decide) rfl (fun ls hl => ?_)
  refine lv_goto (tgt := 162) hx hb dX8_step_186 (by decide) ?_
  refine lv_iload hx hb dX8_step_162 (lv_at hl 0 rfl) ?_
  refine lv_if_le (tgt := 189) hx hb dX8_step_164 (by decide) (fun c_127 => ?_) (fun c_127 => absurd (by decide) c_127)
  refine lv_aload_n hx hb dX8_step_189 rfl (lv_at hl 8 rfl) ?_
  refine pg_get (ci := 8) (v := .ref ta) (C := RX8) (T := TX8) (N := 3) hx hb hts it_8 hown hK hP hL_h0 hF_124 rfl 2 (by decide) (hts _ kt_244) (fun _ h9 => h9) rfl dX8_step_190 ?_
  refine lv_iconst (v := 4) hx hb dX8_step_193 (by decide) ?_
  refine lv_dup2_11 hx hb dX8_step_194 rfl rfl ?_
  refine pg_iald hx hb hK hP hi_3 0 hF_123 rfl (show vp_in (4 : Int32) 8 from (show vp_in (nI 4) 8 from vp_in_nI (by omega) (by omega))) dX8_step_195 ?_
  refine lv_topi (fun x_128 _ => ?_)
  refine lv_iload hx hb dX8_step_196 (lv_at hl 1 rfl) ?_
  refine lv_iadd hx hb dX8_step_198 ?_
  refine lv_topi (fun x_129 _ => ?_)
  refine pg_iast hx hb hK hP hD hS hi_3 0 hF_123 rfl (show vp_in (4 : Int32) 8 from (show vp_in (nI 4) 8 from vp_in_nI (by omega) (by omega))) dX8_step_199 (fun H locs hP hD hS => ?_)
  obtain ⟨F_130, he_131, hP, hD, hO, hR⟩ : ∃ G, G = va_up F_121 ta (.inl (cs 16, 8, .inl (upd f_126 (4 : Int32).toNatClampNeg (x_129)))) ∧ va_P (dC, dI) vwCl (va_pl L G) H ∧ va_D A (va_pl L G) ∧ OK cs ty L G ∧ FR ty [ρ] F G := ⟨_, rfl, hP, hD, hO.up (sh.tur ht_6 ⟨_, rfl⟩), hR.up ht_6 (by simp)⟩
  have hF_132 : F_130 ta = .inl (cs 16, 8, .inl (upd f_126 (4 : Int32).toNatClampNeg (x_129))) := by rw [he_131]; exact up_self
  have hF_133 : F_130 h0 = .inr (8, [.ref wa, .ref sa, .ref ta]) := by rw [he_131, up_ne (ne_ty hT_h0 ht_6 (by simp))]; exact hF_124
  have hF_134 : F_130 wa = .inl (cs 16, 64, .inl f_60) := by rw [he_131, up_ne (ne_ty ht_4 ht_6 (by simp))]; exact hF_125
  obtain ⟨f_135, hF_132⟩ : ∃ f : Nat → Int32, F_130 ta = .inl (cs 16, 8, .inl f) := ⟨_, hF_132⟩
  refine lv_aload_n hx hb dX8_step_200 rfl (lv_at hl 8 rfl) ?_
  refine pg_get (ci := 8) (v := .ref ta) (C := RX8) (T := TX8) (N := 3) hx hb hts it_8 hown hK hP hL_h0 hF_133 rfl 2 (by decide) (hts _ kt_244) (fun _ h9 => h9) rfl dX8_step_201 ?_
  refine lv_iconst (v := 0) hx hb dX8_step_204 (by decide) ?_
  refine lv_iload hx hb dX8_step_205 (lv_at hl 1 rfl) ?_
  refine lv_iload hx hb dX8_step_207 (lv_at hl 2 rfl) ?_
  refine lv_iadd hx hb dX8_step_209 ?_
  refine lv_topi (fun x_136 _ => ?_)
  refine lv_iload hx hb dX8_step_210 (lv_at hl 4 rfl) ?_
  refine lv_iadd hx hb dX8_step_212 ?_
  refine lv_topi (fun x_137 _ => ?_)
  refine pg_iast hx hb hK hP hD hS hi_3 0 hF_132 rfl (show vp_in (0 : Int32) 8 from (show vp_in (nI 0) 8 from vp_in_nI (by omega) (by omega))) dX8_step_213 (fun H locs hP hD hS => ?_)
  obtain ⟨F_138, he_139, hP, hD, hO, hR⟩ : ∃ G, G = va_up F_130 ta (.inl (cs 16, 8, .inl (upd f_135 (0 : Int32).toNatClampNeg (x_137)))) ∧ va_P (dC, dI) vwCl (va_pl L G) H ∧ va_D A (va_pl L G) ∧ OK cs ty L G ∧ FR ty [ρ] F G := ⟨_, rfl, hP, hD, hO.up (sh.tur ht_6 ⟨_, rfl⟩), hR.up ht_6 (by simp)⟩
  have hF_140 : F_138 ta = .inl (cs 16, 8, .inl (upd f_135 (0 : Int32).toNatClampNeg (x_137))) := by rw [he_139]; exact up_self
  have hF_141 : F_138 h0 = .inr (8, [.ref wa, .ref sa, .ref ta]) := by rw [he_139, up_ne (ne_ty hT_h0 ht_6 (by simp))]; exact hF_133
  have hF_142 : F_138 wa = .inl (cs 16, 64, .inl f_60) := by rw [he_139, up_ne (ne_ty ht_4 ht_6 (by simp))]; exact hF_134
  obtain ⟨f_143, hF_140⟩ : ∃ f : Nat → Int32, F_138 ta = .inl (cs 16, 8, .inl f) := ⟨_, hF_140⟩
  refine W.widen (k := 0) (n := 0) (by omega) (by omega) ?_
  exact W.vret hx hb hr (fun t ht hWm => ⟨⟨(), rfl, trivial, ⟨F_138, QT.mk ht hP hD hO hR⟩⟩, hS.F ht⟩) hS.2.2 dX8_step_214
set_option maxHeartbeats 4000000 in
set_option maxRecDepth 100000 in
theorem s_X8_mix (l : Launch) (dC : Nat → ClassId) (dI : Nat → Nat → Nat) (cs : Nat → ClassId) (ty : TyM) (L : List Nat) (sz : Nat) (F : Nat → va_E) (h0 : Nat) (ρ : Nat) (wa : Nat) (sa : Nat) (ta : Nat) (hW : WT ty L) (hL_h0 : h0 ∈ L) (hT_h0 : ty h0 = (8, ρ, [wa, sa, ta])) : Met l yX8_mix (.code yX8_mix cX8_mix 6 none :: tb) ({ frames := 1, cells := 0, slots := 0, locals := 48 }) (va_Pc [.ref h0] (PTE (dC, dI) cs ty L F sz [])) (va_Qv (fun _ : Unit => True) (fun _ T9 => ∃ F2 : Nat → va_E, QT (dC, dI) cs ty L [ρ] F F2 (va_A (va_pl L F) sz) T9) (va_A (va_pl L F) sz)) 0 0 (va_A (va_pl L F) sz) := by
  refine Met.ofW (cc := cX8_mix) (maxL := 6) (ret := none) (by decide) rfl ?_
  intro p e s m args below meth c s₁ B hml hv
  obtain ⟨rfl, ⟨hsz, hP, hK, hD0, hE, hO⟩, hG, hX⟩ := hv
  have hx := B.exec
  have hb := B.bytes
  have hr := B.returns
  have hts : ∀ w ∈ tb, w.before _ s = true := fun w h => atoms_spec (ws := .code yX8_mix cX8_mix 6 none :: tb) B.pre w (List.mem_cons_of_mem _ h)
  have hown : s.vm.findClass RX8 = some m.cls := findClass_of_methodNamed B.named
  have hlocks := B.notSynchronized
  subst hsz
  have hD := hD0.self (sz := s.heap.size)
  generalize hAe : va_A (va_pl L F) s.heap.size = A at hD hG hX ⊢
  have hA : ∀ q : Nat, s.heap.size ≤ q → A q := fun q h => by rw [← hAe]; exact Or.inr h
  have hS : va_S A s.heap s.heap [] := va_S.rf
  have hR : FR ty [ρ] F F := FR.refl
  have hl := lv_entry ([.ref h0]) (n := 6) (Nat.le_of_ble_eq_true rfl)
  rw [lg_entry_eq]
  generalize (lg_sl ([.ref h0]) ++ List.replicate (6 - (lg_sl ([.ref h0])).length) Slot.unset).toArray = ls at hl ⊢
  have hl : lv_has ls 6 [(0, .ref h0)] := hl
  refine lv_bipush (v := 16) hx hb dX8_mix_0 (by decide) ?_
  refine lv_istore_n (lv' := [(1, .int 16), (0, .ref h0)]) hx hb dX8_mix_2 rfl hl (by decide) rfl (fun ls hl => ?_)
  refine W.widen (k := 0) (n := 0) (by omega) (by omega) ?_
  refine pl_loop (σ := Nat) A (dC, dI) cs ty L [ρ] F 3 6 (fun i1 => [(1, .int (nI i1)), (0, .ref h0)]) (fun i1 => []) (fun i1 _ => 16 ≤ i1 ∧ i1 ≤ 64) (fun i1 => 64 - i1) ?_ 16 F (by first | omega | exact ⟨by omega, by omega⟩ | trivial) hO hR _ _ hP hD hS ls (lv_sub hl [0, 1] rfl)
  rintro i1 F_1 hv_2 hO hR ih_3 H locs hP hD hS ls hl
  have hl : lv_has ls 6 [(1, .int (nI i1)), (0, .ref h0)] := hl
  have hv_2 : 16 ≤ i1 ∧ i1 ≤ 64 := hv_2
  refine W.eq (g2 := F0 m 3 ls []) rfl ?_
  obtain ⟨hv1, hv2⟩ := hv_2
  refine lv_iload_n hx hb dX8_mix_3 rfl (lv_at hl 0 rfl) ?_
  refine lv_bipush (v := 64) hx hb dX8_mix_4 (by decide) ?_
  refine lv_icmp_ge (tgt := 116) hx hb dX8_mix_6 (by decide) (fun c_4 => ?_) (fun c_4 => ?_)
  ·
    have hi_5 : 64 ≤ i1 := leN (N := 64) c_4
    refine lv_aload_n hx hb dX8_mix_116 rfl (lv_at hl 1 rfl) ?_
    obtain ⟨hi_6, hi_7, hi_8, ht_9, ht_10, ht_11⟩ := hW.sha hL_h0 hT_h0
    have hF_12 := hO.sha hL_h0 hT_h0
    refine pg_get (ci := 8) (v := .ref sa) (C := RX8) (T := TX8) (N := 3) hx hb hts it_8 hown hK hP hL_h0 hF_12 rfl 1 (by decide) (hts _ kt_247) (fun _ h9 => h9) rfl dX8_mix_117 ?_
    refine lv_iconst (v := 0) hx hb dX8_mix_120 (by decide) ?_
    refine lv_aload_n hx hb dX8_mix_121 rfl (lv_at hl 1 rfl) ?_
    refine pg_get (ci := 8) (v := .ref ta) (C := RX8) (T := TX8) (N := 3) hx hb hts it_8 hown hK hP hL_h0 hF_12 rfl 2 (by decide) (hts _ kt_244) (fun _ h9 => h9) rfl dX8_mix_122 ?_
    refine lv_iconst (v := 0) hx hb dX8_mix_125 (by decide) ?_
    refine lv_bipush (v := 8) hx hb dX8_mix_126 (by decide) ?_
    obtain ⟨f_13, hF_14⟩ := hO.ints hi_7 ht_10
    obtain ⟨f_15, hF_16⟩ := hO.tur hi_8 ht_11
    refine pg_copyi hx hb (by rw [hml]; exact hl.1.symm) hown (hts _ kt_248) (hts _ kt_29) (hts _ kt_30) (hts _ kt_31) hK hP hD hS hi_7 hi_8 0 0 hF_14 hF_16 rfl rfl rfl (by decide) (by decide) (by decide) (by decide) (by decide) (fun _ _ => rfl) (Nat.le_of_ble_eq_true rfl) (by decide) dX8_mix_128 (fun H locs hP hD hS => ?_)
    obtain ⟨F_17, he_18, hP, hD, hO, hR⟩ : ∃ G, G = va_up F_1 ta (.inl (cs 16, 8, .inl (va_cpy f_13 f_15 (0 : Int32).toNatClampNeg (0 : Int32).toNatClampNeg (8 : Int32).toNatClampNeg))) ∧ va_P (dC, dI) vwCl (va_pl L G) H ∧ va_D A (va_pl L G) ∧ OK cs ty L G ∧ FR ty [ρ] F G := ⟨_, rfl, hP, hD, hO.up (sh.tur ht_11 ⟨_, rfl⟩), hR.up ht_11 (by simp)⟩
    have hF_19 : F_17 ta = .inl (cs 16, 8, .inl (va_cpy f_13 f_15 (0 : Int32).toNatClampNeg (0 : Int32).toNatClampNeg (8 : Int32).toNatClampNeg)) := by rw [he_18]; exact up_self
    have hF_20 : F_17 h0 = .inr (8, [.ref wa, .ref sa, .ref ta]) := by rw [he_18, up_ne (ne_ty hT_h0 ht_11 (by simp))]; exact hF_12
    have hF_21 : F_17 sa = .inl (cs 16, 8, .inl f_13) := by rw [he_18, up_ne (ne_ty ht_10 ht_11 (by simp))]; exact hF_14
    obtain ⟨f_22, hF_19⟩ : ∃ f : Nat → Int32, F_17 ta = .inl (cs 16, 8, .inl f) := ⟨_, hF_19⟩
    refine lv_iconst (v := 0) hx hb dX8_mix_131 (by decide) ?_
    refine lv_istore_n (lv' := [(1, .int 0), (0, .ref h0)]) hx hb dX8_mix_132 rfl hl (by decide) rfl (fun ls hl => ?_)
    refine W.widen (k := 0) (n := 0) (by omega) (by omega) ?_
    refine pl_loop (σ := Nat) A (dC, dI) cs ty L [ρ] F 133 6 (fun i2 => [(1, .int (nI i2)), (0, .ref h0)]) (fun i2 => []) (fun i2 _ => i2 ≤ 64) (fun i2 => 64 - i2) ?_ 0 F_17 (by first | omega | exact ⟨by omega, by omega⟩ | trivial) hO hR _ _ hP hD hS ls (lv_sub hl [0, 1] rfl)
    rintro i2 F_23 hv_24 hO hR ih_25 H locs hP hD hS ls hl
    have hl : lv_has ls 6 [(1, .int (nI i2)), (0, .ref h0)] := hl
    have hv_24 : i2 ≤ 64 := hv_24
    refine W.eq (g2 := F0 m 133 ls []) rfl ?_
    refine lv_iload_n hx hb dX8_mix_133 rfl (lv_at hl 0 rfl) ?_
    refine lv_bipush (v := 64) hx hb dX8_mix_134 (by decide) ?_
    refine lv_icmp_ge (tgt := 150) hx hb dX8_mix_136 (by decide) (fun c_26 => ?_) (fun c_26 => ?_)
    ·
      have hi_27 : 64 ≤ i2 := leN (N := 64) c_26
      refine lv_iconst (v := 0) hx hb dX8_mix_150 (by decide) ?_
      refine lv_istore_n (lv' := [(1, .int 0), (0, .ref h0)]) hx hb dX8_mix_151 rfl hl (by decide) rfl (fun ls hl => ?_)
      refine W.widen (k := 0) (n := 0) (by omega) (by omega) ?_
      refine pl_loop (σ := Nat) A (dC, dI) cs ty L [ρ] F 152 6 (fun i3 => [(1, .int (nI i3)), (0, .ref h0)]) (fun i3 => []) (fun i3 _ => i3 ≤ 8) (fun i3 => 8 - i3) ?_ 0 F_23 (by first | omega | exact ⟨by omega, by omega⟩ | trivial) hO hR _ _ hP hD hS ls (lv_sub hl [0, 1] rfl)
      rintro i3 F_28 hv_29 hO hR ih_30 H locs hP hD hS ls hl
      have hl : lv_has ls 6 [(1, .int (nI i3)), (0, .ref h0)] := hl
      have hv_29 : i3 ≤ 8 := hv_29
      refine W.eq (g2 := F0 m 152 ls []) rfl ?_
      refine lv_iload_n hx hb dX8_mix_152 rfl (lv_at hl 0 rfl) ?_
      refine lv_bipush (v := 8) hx hb dX8_mix_153 (by decide) ?_
      refine lv_icmp_ge (tgt := 179) hx hb dX8_mix_155 (by decide) (fun c_31 => ?_) (fun c_31 => ?_)
      ·
        have hi_32 : 8 ≤ i3 := leN (N := 8) c_31
        refine W.widen (k := 0) (n := 0) (by omega) (by omega) ?_
        exact W.vret hx hb hr (fun t ht hWm => ⟨⟨(), rfl, trivial, ⟨F_28, QT.mk ht hP hD hO hR⟩⟩, hS.F ht⟩) hS.2.2 dX8_mix_179
      ·
        have hi_33 : i3 < 8 := ltN (N := 8) c_31
        refine lv_aload_n hx hb dX8_mix_158 rfl (lv_at hl 1 rfl) ?_
        have hF_34 := hO.sha hL_h0 hT_h0
        refine pg_get (ci := 8) (v := .ref sa) (C := RX8) (T := TX8) (N := 3) hx hb hts it_8 hown hK hP hL_h0 hF_34 rfl 1 (by decide) (hts _ kt_247) (fun _ h9 => h9) rfl dX8_mix_159 ?_
        refine lv_iload_n hx hb dX8_mix_162 rfl (lv_at hl 0 rfl) ?_
        refine lv_dup2_11 hx hb dX8_mix_163 rfl rfl ?_
        obtain ⟨f_35, hF_36⟩ := hO.ints hi_7 ht_10
        refine pg_iald hx hb hK hP hi_7 0 hF_36 rfl (vp_in_nI (by omega) (by omega)) dX8_mix_164 ?_
        refine lv_topi (fun x_37 _ => ?_)
        refine lv_aload_n hx hb dX8_mix_165 rfl (lv_at hl 1 rfl) ?_
        refine pg_get (ci := 8) (v := .ref ta) (C := RX8) (T := TX8) (N := 3) hx hb hts it_8 hown hK hP hL_h0 hF_34 rfl 2 (by decide) (hts _ kt_244) (fun _ h9 => h9) rfl dX8_mix_166 ?_
        refine lv_iload_n hx hb dX8_mix_169 rfl (lv_at hl 0 rfl) ?_
        obtain ⟨f_38, hF_39⟩ := hO.tur hi_8 ht_11
        refine pg_iald hx hb hK hP hi_8 0 hF_39 rfl (vp_in_nI (by omega) (by omega)) dX8_mix_170 ?_
        refine lv_topi (fun x_40 _ => ?_)
        refine lv_iadd hx hb dX8_mix_171 ?_
        refine lv_topi (fun x_41 _ => ?_)
        refine pg_iast hx hb hK hP hD hS hi_7 0 hF_36 rfl (vp_in_nI (by omega) (by omega)) dX8_mix_172 (fun H locs hP hD hS => ?_)
        obtain ⟨F_42, he_43, hP, hD, hO, hR⟩ : ∃ G, G = va_up F_28 sa (.inl (cs 16, 8, .inl (upd f_35 ((nI i3)).toNatClampNeg (x_41)))) ∧ va_P (dC, dI) vwCl (va_pl L G) H ∧ va_D A (va_pl L G) ∧ OK cs ty L G ∧ FR ty [ρ] F G := ⟨_, rfl, hP, hD, hO.up (sh.ints ht_10 ⟨_, rfl⟩), hR.up ht_10 (by simp)⟩
        have hF_44 : F_42 sa = .inl (cs 16, 8, .inl (upd f_35 ((nI i3)).toNatClampNeg (x_41))) := by rw [he_43]; exact up_self
        have hF_45 : F_42 h0 = .inr (8, [.ref wa, .ref sa, .ref ta]) := by rw [he_43, up_ne (ne_ty hT_h0 ht_10 (by simp))]; exact hF_34
        have hF_46 : F_42 ta = .inl (cs 16, 8, .inl f_38) := by rw [he_43, up_ne (ne_ty ht_11 ht_10 (by simp))]; exact hF_39
        obtain ⟨f_47, hF_44⟩ : ∃ f : Nat → Int32, F_42 sa = .inl (cs 16, 8, .inl f) := ⟨_, hF_44⟩
        refine lv_iinc (v := (nI (i3 + 1))) (lv' := [(1, .int (nI (i3 + 1))), (0, .ref h0)]) hx hb dX8_mix_173 hl (k := 0) rfl (nI_1 _) (by decide) rfl (fun ls hl => ?_)
        refine lv_goto (tgt := 152) hx hb dX8_mix_176 (by decide) ?_
        refine W.widen (k := 0) (n := 0) (by omega) (by omega) ?_
        exact ih_30 (i3 + 1) F_42 (by first | omega | exact ⟨by omega, by omega⟩ | trivial) (by show 8 - (i3 + 1) < 8 - i3; omega) hO hR _ _ hP hD hS ls (lv_sub hl [0, 1] rfl)
    ·
      have hi_48 : i2 < 64 := ltN (N := 64) c_26
      refine lv_aload_n hx hb dX8_mix_139 rfl (lv_at hl 1 rfl) ?_
      refine lv_iload_n hx hb dX8_mix_140 rfl (lv_at hl 0 rfl) ?_
      have hFc := pg_free hD hS hA
      have hF_49 := hO.sha hL_h0 hT_h0
      refine va_callv (va_runV (As := [.int (nI i2)]) (rest := []) ⟨hx, hb, hml, hown, hts⟩ (s_X8_step l dC dI cs ty L H.size F_23 h0 ρ wa sa ta i2 hW hL_h0 hT_h0 (by omega)) ⟨callB_of 1 hts (gi kt_249) rfl rfl rfl (hts _ kt_250) (hts _ kt_251) (by decide +kernel) ⟨Nat.le_of_ble_eq_true rfl, Nat.le_of_ble_eq_true rfl⟩, (hts _ kt_252), (hts _ kt_253)⟩ ⟨fun a U g mk q => ⟨q.1, PTE.calling q.2⟩, pg_recv hK hP hL_h0 hF_49 (q := (RX8, TX8, 3)) rfl, fun U hU hWm => ⟨rfl, PTE.mk hU hWm hP hK hD hE hO hG (fun x hx => absurd hx List.not_mem_nil) hS hFc⟩⟩ rfl rfl hl.1 rfl (lv_room (Nat.le_of_ble_eq_true rfl)) dX8_mix_141 ⟨by show _ + 0 ≤ 0; omega, by show _ + 0 ≤ 0; omega⟩) hS (fun q _ h => hFc q h) hFc (fun u t H1 locs ht hvm hw hB hz1 hk1 hS => ?_)
      obtain ⟨F_51, hB1⟩ := hB
      obtain ⟨hP, hD, hO, hR⟩ := QT.back hB1 ht hFc hR (fun q h => by simp only [List.mem_cons, List.not_mem_nil, or_false] at h ⊢; omega)
      generalize H1 = H at hP hS ⊢
      refine lv_iinc (v := (nI (i2 + 1))) (lv' := [(1, .int (nI (i2 + 1))), (0, .ref h0)]) hx hb dX8_mix_144 hl (k := 0) rfl (nI_1 _) (by decide) rfl (fun ls hl => ?_)
      refine lv_goto (tgt := 133) hx hb dX8_mix_147 (by decide) ?_
      refine W.widen (k := 0) (n := 0) (by omega) (by omega) ?_
      exact ih_25 (i2 + 1) F_51 (by first | omega | exact ⟨by omega, by omega⟩ | trivial) (by show 64 - (i2 + 1) < 64 - i2; omega) hO hR _ _ hP hD hS ls (lv_sub hl [0, 1] rfl)
  ·
    have hi_52 : i1 < 64 := ltN (N := 64) c_4
    refine lv_aload_n hx hb dX8_mix_9 rfl (lv_at hl 1 rfl) ?_
    obtain ⟨hi_53, hi_54, hi_55, ht_56, ht_57, ht_58⟩ := hW.sha hL_h0 hT_h0
    have hF_59 := hO.sha hL_h0 hT_h0
    refine pg_get (ci := 8) (v := .ref wa) (C := RX8) (T := TX8) (N := 3) hx hb hts it_8 hown hK hP hL_h0 hF_59 rfl 0 (by decide) (hts _ kt_246) (fun _ h9 => h9) rfl dX8_mix_10 ?_
    refine lv_iload_n hx hb dX8_mix_13 rfl (lv_at hl 0 rfl) ?_
    refine lv_bipush (v := 15) hx hb dX8_mix_14 (by decide) ?_
    refine lv_isub hx hb dX8_mix_16 ?_
    refine lv_topi (fun x_60 ex_60 => ?_)
    obtain rfl : x_60 = (nI (i1 - 15)) := ex_60.trans (pk_sub (b := 15) (by omega))
    obtain ⟨f_61, hF_62⟩ := hO.ints hi_53 ht_56
    refine pg_iald hx hb hK hP hi_53 0 hF_62 rfl (vp_in_nI (by omega) (by omega)) dX8_mix_17 ?_
    refine lv_topi (fun x_63 _ => ?_)
    refine lv_istore_n (lv' := [(2, .int x_63), (1, .int (nI i1)), (0, .ref h0)]) hx hb dX8_mix_18 rfl hl (by decide) rfl (fun ls hl => ?_)
    refine lv_aload_n hx hb dX8_mix_19 rfl (lv_at hl 2 rfl) ?_
    refine pg_get (ci := 8) (v := .ref wa) (C := RX8) (T := TX8) (N := 3) hx hb hts it_8 hown hK hP hL_h0 hF_59 rfl 0 (by decide) (hts _ kt_246) (fun _ h9 => h9) rfl dX8_mix_20 ?_
    refine lv_iload_n hx hb dX8_mix_23 rfl (lv_at hl 1 rfl) ?_
    refine lv_iconst (v := 2) hx hb dX8_mix_24 (by decide) ?_
    refine lv_isub hx hb dX8_mix_25 ?_
    refine lv_topi (fun x_64 ex_64 => ?_)
    obtain rfl : x_64 = (nI (i1 - 2)) := ex_64.trans (pk_sub (b := 2) (by omega))
    refine pg_iald hx hb hK hP hi_53 0 hF_62 rfl (vp_in_nI (by omega) (by omega)) dX8_mix_26 ?_
    refine lv_topi (fun x_65 _ => ?_)
    refine lv_istore_n (lv' := [(3, .int x_65), (2, .int x_63), (1, .int (nI i1)), (0, .ref h0)]) hx hb dX8_mix_27 rfl hl (by decide) rfl (fun ls hl => ?_)
    refine lv_iload_n hx hb dX8_mix_28 rfl (lv_at hl 1 rfl) ?_
    refine lv_bipush (v := 7) hx hb dX8_mix_29 (by decide) ?_
    refine lv_iushr hx hb dX8_mix_31 rfl ?_
    refine lv_topi (fun x_67 _ => ?_)
    refine lv_iload_n hx hb dX8_mix_32 rfl (lv_at hl 1 rfl) ?_
    refine lv_bipush (v := 25) hx hb dX8_mix_33 (by decide) ?_
    refine lv_ishl hx hb dX8_mix_35 ?_
    refine lv_topi (fun x_68 _ => ?_)
    refine lv_ior hx hb dX8_mix_36 ?_
    refine lv_topi (fun x_69 _ => ?_)
    refine lv_iload_n hx hb dX8_mix_37 rfl (lv_at hl 1 rfl) ?_
    refine lv_bipush (v := 18) hx hb dX8_mix_38 (by decide) ?_
    refine lv_iushr hx hb dX8_mix_40 rfl ?_
    refine lv_topi (fun x_71 _ => ?_)
    refine lv_iload_n hx hb dX8_mix_41 rfl (lv_at hl 1 rfl) ?_
    refine lv_bipush (v := 14) hx hb dX8_mix_42 (by decide) ?_
    refine lv_ishl hx hb dX8_mix_44 ?_
    refine lv_topi (fun x_72 _ => ?_)
    refine lv_ior hx hb dX8_mix_45 ?_
    refine lv_topi (fun x_73 _ => ?_)
    refine lv_ixor hx hb dX8_mix_46 ?_
    refine lv_topi (fun x_74 _ => ?_)
    refine lv_iload_n hx hb dX8_mix_47 rfl (lv_at hl 1 rfl) ?_
    refine lv_iconst (v := 3) hx hb dX8_mix_48 (by decide) ?_
    refine lv_iushr hx hb dX8_mix_49 rfl ?_
    refine lv_topi (fun x_76 _ => ?_)
    refine lv_ixor hx hb dX8_mix_50 ?_
    refine lv_topi (fun x_77 _ => ?_)
    refine lv_istore (lv' := [(4, .int x_77), (3, .int x_65), (2, .int x_63), (1, .int (nI i1)), (0, .ref h0)]) hx hb dX8_mix_51 hl (by decide) rfl (fun ls hl => ?_)
    refine lv_iload_n hx hb dX8_mix_53 rfl (lv_at hl 1 rfl) ?_
    refine lv_bipush (v := 17) hx hb dX8_mix_54 (by decide) ?_
    refine lv_iushr hx hb dX8_mix_56 rfl ?_
    refine lv_topi (fun x_79 _ => ?_)
    refine lv_iload_n hx hb dX8_mix_57 rfl (lv_at hl 1 rfl) ?_
    refine lv_bipush (v := 15) hx hb dX8_mix_58 (by decide) ?_
    refine lv_ishl hx hb dX8_mix_60 ?_
    refine lv_topi (fun x_80 _ => ?_)
    refine lv_ior hx hb dX8_mix_61 ?_
    refine lv_topi (fun x_81 _ => ?_)
    refine lv_iload_n hx hb dX8_mix_62 rfl (lv_at hl 1 rfl) ?_
    refine lv_bipush (v := 19) hx hb dX8_mix_63 (by decide) ?_
    refine lv_iushr hx hb dX8_mix_65 rfl ?_
    refine lv_topi (fun x_83 _ => ?_)
    refine lv_iload_n hx hb dX8_mix_66 rfl (lv_at hl 1 rfl) ?_
    refine lv_bipush (v := 13) hx hb dX8_mix_67 (by decide) ?_
    refine lv_ishl hx hb dX8_mix_69 ?_
    refine lv_topi (fun x_84 _ => ?_)
    refine lv_ior hx hb dX8_mix_70 ?_
    refine lv_topi (fun x_85 _ => ?_)
    refine lv_ixor hx hb dX8_mix_71 ?_
    refine lv_topi (fun x_86 _ => ?_)
    refine lv_iload_n hx hb dX8_mix_72 rfl (lv_at hl 1 rfl) ?_
    refine lv_bipush (v := 10) hx hb dX8_mix_73 (by decide) ?_
    refine lv_iushr hx hb dX8_mix_75 rfl ?_
    refine lv_topi (fun x_88 _ => ?_)
    refine lv_ixor hx hb dX8_mix_76 ?_
    refine lv_topi (fun x_89 _ => ?_)
    refine lv_istore (lv' := [(5, .int x_89), (4, .int x_77), (3, .int x_65), (2, .int x_63), (1, .int (nI i1)), (0, .ref h0)]) hx hb dX8_mix_77 hl (by decide) rfl (fun ls hl => ?_)
    refine lv_aload_n hx hb dX8_mix_79 rfl (lv_at hl 5 rfl) ?_
    refine pg_get (ci := 8) (v := .ref wa) (C := RX8) (T := TX8) (N := 3) hx hb hts it_8 hown hK hP hL_h0 hF_59 rfl 0 (by decide) (hts _ kt_246) (fun _ h9 => h9) rfl dX8_mix_80 ?_
    refine lv_iload_n hx hb dX8_mix_83 rfl (lv_at hl 4 rfl) ?_
    refine lv_aload_n hx hb dX8_mix_84 rfl (lv_at hl 5 rfl) ?_
    refine pg_get (ci := 8) (v := .ref wa) (C := RX8) (T := TX8) (N := 3) hx hb hts it_8 hown hK hP hL_h0 hF_59 rfl 0 (by decide) (hts _ kt_246) (fun _ h9 => h9) rfl dX8_mix_85 ?_
    refine lv_iload_n hx hb dX8_mix_88 rfl (lv_at hl 4 rfl) ?_
    refine lv_bipush (v := 16) hx hb dX8_mix_89 (by decide) ?_
    refine lv_isub hx hb dX8_mix_91 ?_
    refine lv_topi (fun x_90 ex_90 => ?_)
    obtain rfl : x_90 = (nI (i1 - 16)) := ex_90.trans (pk_sub (b := 16) (by omega))
    refine pg_iald hx hb hK hP hi_53 0 hF_62 rfl (vp_in_nI (by omega) (by omega)) dX8_mix_92 ?_
    refine lv_topi (fun x_91 _ => ?_)
    refine lv_iload hx hb dX8_mix_93 (lv_at hl 1 rfl) ?_
    refine lv_iadd hx hb dX8_mix_95 ?_
    refine lv_topi (fun x_92 _ => ?_)
    refine lv_aload_n hx hb dX8_mix_96 rfl (lv_at hl 5 rfl) ?_
    refine pg_get (ci := 8) (v := .ref wa) (C := RX8) (T := TX8) (N := 3) hx hb hts it_8 hown hK hP hL_h0 hF_59 rfl 0 (by decide) (hts _ kt_246) (fun _ h9 => h9) rfl dX8_mix_97 ?_
    refine lv_iload_n hx hb dX8_mix_100 rfl (lv_at hl 4 rfl) ?_
    refine lv_bipush (v := 7) hx hb dX8_mix_101 (by decide) ?_
    refine lv_isub hx hb dX8_mix_103 ?_
    refine lv_topi (fun x_93 ex_93 => ?_)
    obtain rfl : x_93 = (nI (i1 - 7)) := ex_93.trans (pk_sub (b := 7) (by omega))
    refine pg_iald hx hb hK hP hi_53 0 hF_62 rfl (vp_in_nI (by omega) (by omega)) dX8_mix_104 ?_
    refine lv_topi (fun x_94 _ => ?_)
    refine lv_iadd hx hb dX8_mix_105 ?_
    refine lv_topi (fun x_95 _ => ?_)
    refine lv_iload hx hb dX8_mix_106 (lv_at hl 0 rfl) ?_
    refine lv_iadd hx hb dX8_mix_108 ?_
    refine lv_topi (fun x_96 _ => ?_)
    refine pg_iast hx hb hK hP hD hS hi_53 0 hF_62 rfl (vp_in_nI (by omega) (by omega)) dX8_mix_109 (fun H locs hP hD hS => ?_)
    obtain ⟨F_97, he_98, hP, hD, hO, hR⟩ : ∃ G, G = va_up F_1 wa (.inl (cs 16, 64, .inl (upd f_61 ((nI i1)).toNatClampNeg (x_96)))) ∧ va_P (dC, dI) vwCl (va_pl L G) H ∧ va_D A (va_pl L G) ∧ OK cs ty L G ∧ FR ty [ρ] F G := ⟨_, rfl, hP, hD, hO.up (sh.ints ht_56 ⟨_, rfl⟩), hR.up ht_56 (by simp)⟩
    have hF_99 : F_97 wa = .inl (cs 16, 64, .inl (upd f_61 ((nI i1)).toNatClampNeg (x_96))) := by rw [he_98]; exact up_self
    have hF_100 : F_97 h0 = .inr (8, [.ref wa, .ref sa, .ref ta]) := by rw [he_98, up_ne (ne_ty hT_h0 ht_56 (by simp))]; exact hF_59
    obtain ⟨f_101, hF_99⟩ : ∃ f : Nat → Int32, F_97 wa = .inl (cs 16, 64, .inl f) := ⟨_, hF_99⟩
    refine lv_iinc (v := (nI (i1 + 1))) (lv' := [(1, .int (nI (i1 + 1))), (5, .int x_89), (4, .int x_77), (3, .int x_65), (2, .int x_63), (0, .ref h0)]) hx hb dX8_mix_110 hl (k := 4) rfl (nI_1 _) (by decide) rfl (fun ls hl => ?_)
    refine lv_goto (tgt := 3) hx hb dX8_mix_113 (by decide) ?_
    refine W.widen (k := 0) (n := 0) (by omega) (by omega) ?_
    exact ih_3 (i1 + 1) F_97 (by first | omega | exact ⟨by omega, by omega⟩ | trivial) (by show 64 - (i1 + 1) < 64 - i1; omega) hO hR _ _ hP hD hS ls (lv_sub hl [0, 5] rfl)
set_option maxHeartbeats 4000000 in
set_option maxRecDepth 100000 in
theorem s_X8_wordAt (l : Launch) (dC : Nat → ClassId) (dI : Nat → Nat → Nat) (cs : Nat → ClassId) (ty : TyM) (L : List Nat) (sz : Nat) (F : Nat → va_E) (g1 : Nat) (σ : Nat) (r1 : Nat) (n1 : Nat) (x2 : Int32) (x3 : Int32) (hW : WT ty L) (hL_g1 : g1 ∈ L) (hT_g1 : ty g1 = (0, σ, [r1, n1])) : Met l yX8_wordAt (.code yX8_wordAt cX8_wordAt 6 (some .int) :: tb) ({ frames := 1, cells := 0, slots := 0, locals := 21 }) (va_Pc [.ref g1, .int x2, .int x3] (PT (dC, dI) cs ty L F sz)) (va_Qi (fun (r : Int32) (_ : Unit) => True) (fun _ T9 => ∃ F2 : Nat → va_E, QT (dC, dI) cs ty L [] F F2 (va_A (va_pl L F) sz) T9) (va_A (va_pl L F) sz)) 0 0 (va_A (va_pl L F) sz) := by
  refine Met.ofW (cc := cX8_wordAt) (maxL := 6) (ret := (some .int)) (by decide) rfl ?_
  intro p e s m args below meth c s₁ B hml hv
  obtain ⟨rfl, hsz, hP, hK, hD0, hE, hO⟩ := hv
  have hx := B.exec
  have hb := B.bytes
  have hr := B.returns
  have hts : ∀ w ∈ tb, w.before _ s = true := fun w h => atoms_spec (ws := .code yX8_wordAt cX8_wordAt 6 (some .int) :: tb) B.pre w (List.mem_cons_of_mem _ h)
  have hown : s.vm.findClass RX8 = some m.cls := findClass_of_methodNamed B.named
  have hlocks := B.notSynchronized
  subst hsz
  have hD := hD0.self (sz := s.heap.size)
  generalize hAe : va_A (va_pl L F) s.heap.size = A at hD ⊢
  have hA : ∀ q : Nat, s.heap.size ≤ q → A q := fun q h => by rw [← hAe]; exact Or.inr h
  have hS : va_S A s.heap s.heap [] := va_S.rf
  have hR : FR ty [] F F := FR.refl
  have hl := lv_entry ([.ref g1, .int x2, .int x3]) (n := 6) (Nat.le_of_ble_eq_true rfl)
  rw [lg_entry_eq]
  generalize (lg_sl ([.ref g1, .int x2, .int x3]) ++ List.replicate (6 - (lg_sl ([.ref g1, .int x2, .int x3])).length) Slot.unset).toArray = ls at hl ⊢
  have hl : lv_has ls 6 [(0, .ref g1), (1, .int x2), (2, .int x3)] := hl
  refine lv_iconst (v := 0) hx hb dX8_wordAt_0 (by decide) ?_
  refine lv_istore_n (lv' := [(3, .int 0), (0, .ref g1), (1, .int x2), (2, .int x3)]) hx hb dX8_wordAt_1 rfl hl (by decide) rfl (fun ls hl => ?_)
  refine lv_iload_n hx hb dX8_wordAt_2 rfl (lv_at hl 3 rfl) ?_
  refine lv_istore (lv' := [(4, .int x3), (3, .int 0), (0, .ref g1), (1, .int x2), (2, .int x3)]) hx hb dX8_wordAt_3 hl (by decide) rfl (fun ls hl => ?_)
  refine W.widen (k := 0) (n := 0) (by omega) (by omega) ?_
  refine pl_loop (σ := Int32 × Int32) A (dC, dI) cs ty L [] F 5 6 (fun (i1, wv) => [(4, .int i1), (3, .int wv), (0, .ref g1), (1, .int x2), (2, .int x3)]) (fun (i1, wv) => []) (fun (i1, wv) _ => True) (fun (i1, wv) => ((x3 + 4).toInt - i1.toInt).toNat) ?_ (x3, 0) F (trivial) hO hR _ _ hP hD hS ls (lv_sub hl [0, 1, 2, 3, 4] rfl)
  rintro ⟨i1, wv⟩ F_1 hv_2 hO hR ih_3 H locs hP hD hS ls hl
  have hl : lv_has ls 6 [(4, .int i1), (3, .int wv), (0, .ref g1), (1, .int x2), (2, .int x3)] := hl
  have hv_2 : True := hv_2
  refine W.eq (g2 := F0 m 5 ls []) rfl ?_
  refine lv_iload hx hb dX8_wordAt_5 (lv_at hl 0 rfl) ?_
  refine lv_iload_n hx hb dX8_wordAt_7 rfl (lv_at hl 4 rfl) ?_
  refine lv_iconst (v := 4) hx hb dX8_wordAt_8 (by decide) ?_
  refine lv_iadd hx hb dX8_wordAt_9 ?_
  refine lv_topi (fun x_4 ex_4 => ?_)
  obtain rfl : x_4 = (x3 + 4) := ex_4.trans (rfl)
  refine lv_icmp_ge (tgt := 61) hx hb dX8_wordAt_10 (by decide) (fun c_5 => ?_) (fun c_5 => ?_)
  ·
    refine lv_iload_n hx hb dX8_wordAt_61 rfl (lv_at hl 1 rfl) ?_
    refine W.widen (k := 0) (n := 0) (by omega) (by omega) ?_
    exact W.iret (v := wv) hx hb hr (fun t ht hWm => ⟨⟨wv, (), rfl, trivial, ⟨F_1, QT.mk ht hP hD hO hR⟩⟩, hS.F ht⟩) hS.2.2 dX8_wordAt_62
  ·
    have hc10 := c_5
    refine W.widen (k := 0) (n := 0) (by omega) (by omega) ?_
    refine pl_cut (σ := Int32) A (dC, dI) cs ty L [] F 45 6 (fun s0 => [(4, .int i1), (3, .int wv), (0, .ref g1), (1, .int x2), (2, .int x3)]) (fun s0 => [.int s0]) (fun s0 _ => True) ?_ (fun jn_6 => ?_)
    ·
      rintro s0 F_7 hv_8 hO hR H locs hP hD hS ls hl
      have hl : lv_has ls 6 [(4, .int i1), (3, .int wv), (0, .ref g1), (1, .int x2), (2, .int x3)] := hl
      have hv_8 : True := hv_8
      refine W.eq (g2 := F0 m 45 ls [.int s0]) rfl ?_
      refine lv_istore (lv' := [(5, .int s0), (4, .int i1), (3, .int wv), (0, .ref g1), (1, .int x2), (2, .int x3)]) hx hb dX8_wordAt_45 hl (by decide) rfl (fun ls hl => ?_)
      refine lv_iload_n hx hb dX8_wordAt_47 rfl (lv_at hl 2 rfl) ?_
      refine lv_bipush (v := 8) hx hb dX8_wordAt_48 (by decide) ?_
      refine lv_ishl hx hb dX8_wordAt_50 ?_
      refine lv_topi (fun x_9 _ => ?_)
      refine lv_iload hx hb dX8_wordAt_51 (lv_at hl 0 rfl) ?_
      refine lv_ior hx hb dX8_wordAt_53 ?_
      refine lv_topi (fun x_10 _ => ?_)
      refine lv_istore_n (lv' := [(3, .int x_10), (5, .int s0), (4, .int i1), (0, .ref g1), (1, .int x2), (2, .int x3)]) hx hb dX8_wordAt_54 rfl hl (by decide) rfl (fun ls hl => ?_)
      obtain ⟨x_11, ex_11⟩ : ∃ y : Int32, y = i1 + Int32.ofInt 1 := ⟨_, rfl⟩
      refine lv_iinc (v := x_11) (lv' := [(4, .int x_11), (3, .int x_10), (5, .int s0), (0, .ref g1), (1, .int x2), (2, .int x3)]) hx hb dX8_wordAt_55 hl (k := 2) rfl (ex_11.symm) (by decide) rfl (fun ls hl => ?_)
      refine lv_goto (tgt := 5) hx hb dX8_wordAt_58 (by decide) ?_
      refine W.widen (k := 0) (n := 0) (by omega) (by omega) ?_
      exact ih_3 (x_11, x_10) F_7 (trivial) (by show ((x3 + 4).toInt - x_11.toInt).toNat < ((x3 + 4).toInt - i1.toInt).toNat; exact incN ex_11 hc10) hO hR _ _ hP hD hS ls (lv_sub hl [0, 1, 3, 4, 5] rfl)
    ·
      refine lv_iload hx hb dX8_wordAt_13 (lv_at hl 0 rfl) ?_
      refine lv_iload_n hx hb dX8_wordAt_15 rfl (lv_at hl 3 rfl) ?_
      refine lv_icmp_ge (tgt := 32) hx hb dX8_wordAt_16 (by decide) (fun c_12 => ?_) (fun c_12 => ?_)
      ·
        refine lv_iload hx hb dX8_wordAt_32 (lv_at hl 0 rfl) ?_
        refine lv_iload_n hx hb dX8_wordAt_34 rfl (lv_at hl 3 rfl) ?_
        refine lv_icmp_ne (tgt := 44) hx hb dX8_wordAt_35 (by decide) (fun c_13 => ?_) (fun c_13 => ?_)
        ·
          refine lv_iconst (v := 0) hx hb dX8_wordAt_44 (by decide) ?_
          refine W.widen (k := 0) (n := 0) (by omega) (by omega) ?_
          exact jn_6 0 F_1 (trivial) hO hR _ _ hP hD hS ls (lv_sub hl [0, 1, 2, 3, 4] rfl)
        ·
          refine lv_sipush (v := 128) hx hb dX8_wordAt_38 (by decide) ?_
          refine lv_goto (tgt := 45) hx hb dX8_wordAt_41 (by decide) ?_
          refine W.widen (k := 0) (n := 0) (by omega) (by omega) ?_
          exact jn_6 128 F_1 (trivial) hO hR _ _ hP hD hS ls (lv_sub hl [0, 1, 2, 3, 4] rfl)
      ·
        refine lv_aload_n hx hb dX8_wordAt_19 rfl (lv_at hl 2 rfl) ?_
        refine lv_iload hx hb dX8_wordAt_20 (lv_at hl 0 rfl) ?_
        have hFc := pg_free hD hS hA
        obtain ⟨hi_14, ht_15, hq_16⟩ := hW.bytes hL_g1 hT_g1
        obtain ⟨z_17, o_18, hF_19, hq_20, hq_21⟩ := hO.bytes hL_g1 hT_g1
        refine va_calli (va_runV (As := [.int i1]) (rest := []) ⟨hx, hb, hml, hown, hts⟩ (s_X0_at l dC dI cs ty L H.size F_1 g1 σ r1 n1 i1 hW hL_g1 hT_g1) ⟨callB_of 1 hts (gi kt_21) rfl rfl rfl (hts _ kt_1) (hts _ kt_254) (by decide +kernel) ⟨Nat.le_of_ble_eq_true rfl, Nat.le_of_ble_eq_true rfl⟩, (hts _ kt_23), (hts _ kt_24)⟩ ⟨fun a U g mk q => ⟨q.1, PT.calling q.2⟩, pg_recv hK hP hL_g1 hF_19 (q := (RX0, TX0, 3)) rfl, fun U hU hWm => ⟨rfl, PT.mk hU hWm hP hK hD hE hO⟩⟩ rfl rfl hl.1 rfl (lv_room (Nat.le_of_ble_eq_true rfl)) dX8_wordAt_22 ⟨by show _ + 0 ≤ 0; omega, by show _ + 0 ≤ 0; omega⟩) hS (fun q _ h => hFc q h) hFc (fun r_22 u t H1 locs ht hvm hw hB hz1 hk1 hS => ?_)
        obtain ⟨F_23, hB1⟩ := hB
        obtain ⟨hP, hD, hO, hR⟩ := QT.back hB1 ht hFc hR (fun q h => absurd h List.not_mem_nil)
        have hF_24 : F_23 g1 = .inr (0, [.ref r1, .int (nI z_17), .int o_18]) := (hB1.2.2.2 g1 List.not_mem_nil).trans hF_19
        generalize H1 = H at hP hS ⊢
        have hw : True := hw
        have hw_25 := hw
        refine lv_sipush (v := 255) hx hb dX8_wordAt_25 (by decide) ?_
        refine lv_iand hx hb dX8_wordAt_28 ?_
        refine lv_topi (fun x_26 _ => ?_)
        refine lv_goto (tgt := 45) hx hb dX8_wordAt_29 (by decide) ?_
        refine W.widen (k := 0) (n := 0) (by omega) (by omega) ?_
        exact jn_6 x_26 F_23 (trivial) hO hR _ _ hP hD hS ls (lv_sub hl [0, 1, 2, 3, 4] rfl)
set_option maxHeartbeats 4000000 in
set_option maxRecDepth 100000 in
theorem s_X8_sumOf (l : Launch) (dC : Nat → ClassId) (dI : Nat → Nat → Nat) (cs : Nat → ClassId) (ty : TyM) (L : List Nat) (sz : Nat) (F : Nat → va_E) (h0 : Nat) (ρ : Nat) (wa : Nat) (sa : Nat) (ta : Nat) (g1 : Nat) (σ : Nat) (r1 : Nat) (n1 : Nat) (g2 : Nat) (τ : Nat) (r2 : Nat) (n2 : Nat) (x2 : Int32) (hW : WT ty L) (hL_h0 : h0 ∈ L) (hT_h0 : ty h0 = (8, ρ, [wa, sa, ta])) (hL_g1 : g1 ∈ L) (hT_g1 : ty g1 = (0, σ, [r1, n1])) (hL_g2 : g2 ∈ L) (hT_g2 : ty g2 = (0, τ, [r2, n2])) (hn2 : 32 ≤ n2) : Met l yX8_sumOf (.code yX8_sumOf cX8_sumOf 7 none :: tb) ({ frames := 2, cells := 0, slots := 0, locals := 73 }) (va_Pc [.ref h0, .ref g1, .int x2, .ref g2] (PTE (dC, dI) cs ty L F sz [])) (va_Qv (fun _ : Unit => True) (fun _ T9 => ∃ F2 : Nat → va_E, QT (dC, dI) cs ty L [ρ, τ] F F2 (va_A (va_pl L F) sz) T9 ∧ F2 g2 = .inr (0, [.ref r2, .int (nI 32), .int 0])) (va_A (va_pl L F) sz)) 0 0 (va_A (va_pl L F) sz) := by
  refine Met.ofW (cc := cX8_sumOf) (maxL := 7) (ret := none) (by decide) rfl ?_
  intro p e s m args below meth c s₁ B hml hv
  obtain ⟨rfl, ⟨hsz, hP, hK, hD0, hE, hO⟩, hG, hX⟩ := hv
  have hx := B.exec
  have hb := B.bytes
  have hr := B.returns
  have hts : ∀ w ∈ tb, w.before _ s = true := fun w h => atoms_spec (ws := .code yX8_sumOf cX8_sumOf 7 none :: tb) B.pre w (List.mem_cons_of_mem _ h)
  have hown : s.vm.findClass RX8 = some m.cls := findClass_of_methodNamed B.named
  have hlocks := B.notSynchronized
  subst hsz
  have hD := hD0.self (sz := s.heap.size)
  generalize hAe : va_A (va_pl L F) s.heap.size = A at hD hG hX ⊢
  have hA : ∀ q : Nat, s.heap.size ≤ q → A q := fun q h => by rw [← hAe]; exact Or.inr h
  have hS : va_S A s.heap s.heap [] := va_S.rf
  have hR : FR ty [ρ, τ] F F := FR.refl
  have hl := lv_entry ([.ref h0, .ref g1, .int x2, .ref g2]) (n := 7) (Nat.le_of_ble_eq_true rfl)
  rw [lg_entry_eq]
  generalize (lg_sl ([.ref h0, .ref g1, .int x2, .ref g2]) ++ List.replicate (7 - (lg_sl ([.ref h0, .ref g1, .int x2, .ref g2])).length) Slot.unset).toArray = ls at hl ⊢
  have hl : lv_has ls 7 [(0, .ref h0), (1, .ref g1), (2, .int x2), (3, .ref g2)] := hl
  obtain ⟨aB, aF, fB, fF, ⟨rfl, rfl⟩, zB, tB, zF, tF⟩ := id hG.2.2.1
  refine va_gets hx hb zB hS hown (hts _ kt_255) (fun _ h9 => h9) dX8_sumOf_0 ?_
  refine lv_iconst (v := 0) hx hb dX8_sumOf_3 (by decide) ?_
  refine lv_aload_n hx hb dX8_sumOf_4 rfl (lv_at hl 0 rfl) ?_
  obtain ⟨hi_1, hi_2, hi_3, ht_4, ht_5, ht_6⟩ := hW.sha hL_h0 hT_h0
  have hF_7 := hO.sha hL_h0 hT_h0
  refine pg_get (ci := 8) (v := .ref sa) (C := RX8) (T := TX8) (N := 3) hx hb hts it_8 hown hK hP hL_h0 hF_7 rfl 1 (by decide) (hts _ kt_247) (fun _ h9 => h9) rfl dX8_sumOf_5 ?_
  refine lv_iconst (v := 0) hx hb dX8_sumOf_8 (by decide) ?_
  refine lv_bipush (v := 8) hx hb dX8_sumOf_9 (by decide) ?_
  obtain ⟨f_8, hF_9⟩ := hO.ints hi_2 ht_5
  refine pg_copyt hx hb (by rw [hml]; exact hl.1.symm) hown (hts _ kt_248) (hts _ kt_29) (hts _ kt_30) (hts _ kt_31) hK hP hD hS tB hi_2 0 hF_9 rfl (by decide) (by decide) (by decide) (by decide) (by decide) (Nat.le_of_ble_eq_true rfl) (by decide) dX8_sumOf_11 (fun H locs hP hD hS => ?_)
  obtain ⟨F_10, he_11, hP, hD, hO, hR⟩ : ∃ G, G = va_up F sa (.inl (cs 16, 8, .inl (va_cpy shB f_8 (0 : Int32).toNatClampNeg (0 : Int32).toNatClampNeg (8 : Int32).toNatClampNeg))) ∧ va_P (dC, dI) vwCl (va_pl L G) H ∧ va_D A (va_pl L G) ∧ OK cs ty L G ∧ FR ty [ρ, τ] F G := ⟨_, rfl, hP, hD, hO.up (sh.ints ht_5 ⟨_, rfl⟩), hR.up ht_5 (by simp)⟩
  have hF_12 : F_10 sa = .inl (cs 16, 8, .inl (va_cpy shB f_8 (0 : Int32).toNatClampNeg (0 : Int32).toNatClampNeg (8 : Int32).toNatClampNeg)) := by rw [he_11]; exact up_self
  have hF_13 : F_10 h0 = .inr (8, [.ref wa, .ref sa, .ref ta]) := by rw [he_11, up_ne (ne_ty hT_h0 ht_5 (by simp))]; exact hF_7
  obtain ⟨f_14, hF_12⟩ : ∃ f : Nat → Int32, F_10 sa = .inl (cs 16, 8, .inl f) := ⟨_, hF_12⟩
  refine lv_iload_n hx hb dX8_sumOf_14 rfl (lv_at hl 2 rfl) ?_
  refine lv_bipush (v := 9) hx hb dX8_sumOf_15 (by decide) ?_
  refine lv_iadd hx hb dX8_sumOf_17 ?_
  refine lv_topi (fun x_15 _ => ?_)
  refine lv_bipush (v := 63) hx hb dX8_sumOf_18 (by decide) ?_
  refine lv_iadd hx hb dX8_sumOf_20 ?_
  refine lv_topi (fun x_16 _ => ?_)
  refine lv_bipush (v := 64) hx hb dX8_sumOf_21 (by decide) ?_
  refine lv_idiv hx hb dX8_sumOf_23 (by decide) ?_
  refine lv_topi (fun x_17 _ => ?_)
  refine lv_istore (lv' := [(4, .int x_17), (0, .ref h0), (1, .ref g1), (2, .int x2), (3, .ref g2)]) hx hb dX8_sumOf_24 hl (by decide) rfl (fun ls hl => ?_)
  refine lv_iconst (v := 0) hx hb dX8_sumOf_26 (by decide) ?_
  refine lv_istore (lv' := [(5, .int 0), (4, .int x_17), (0, .ref h0), (1, .ref g1), (2, .int x2), (3, .ref g2)]) hx hb dX8_sumOf_27 hl (by decide) rfl (fun ls hl => ?_)
  refine W.widen (k := 0) (n := 0) (by omega) (by omega) ?_
  refine pl_loop (σ := Int32) A (dC, dI) cs ty L [ρ, τ] F 29 7 (fun b1 => [(5, .int b1), (4, .int x_17), (0, .ref h0), (1, .ref g1), (2, .int x2), (3, .ref g2)]) (fun b1 => []) (fun b1 _ => True) (fun b1 => ((x_17).toInt - b1.toInt).toNat) ?_ 0 F_10 (trivial) hO hR _ _ hP hD hS ls (lv_sub hl [0, 1, 2, 3, 4, 5] rfl)
  rintro b1 F_18 hv_19 hO hR ih_20 H locs hP hD hS ls hl
  have hl : lv_has ls 7 [(5, .int b1), (4, .int x_17), (0, .ref h0), (1, .ref g1), (2, .int x2), (3, .ref g2)] := hl
  have hv_19 : True := hv_19
  refine W.eq (g2 := F0 m 29 ls []) rfl ?_
  refine lv_iload hx hb dX8_sumOf_29 (lv_at hl 0 rfl) ?_
  refine lv_iload hx hb dX8_sumOf_31 (lv_at hl 1 rfl) ?_
  refine lv_icmp_ge (tgt := 104) hx hb dX8_sumOf_33 (by decide) (fun c_21 => ?_) (fun c_21 => ?_)
  ·
    refine lv_aload_n hx hb dX8_sumOf_104 rfl (lv_at hl 5 rfl) ?_
    have hFc := pg_free hD hS hA
    obtain ⟨hi_22, ht_23, hq_24⟩ := hW.bytes hL_g2 hT_g2
    obtain ⟨z_25, o_26, hF_27, hq_28, hq_29⟩ := hO.bytes hL_g2 hT_g2
    refine va_callv (va_runV (As := []) (rest := []) ⟨hx, hb, hml, hown, hts⟩ (s_X0_clear l dC dI cs ty L H.size F_18 g2 τ r2 n2 hW hL_g2 hT_g2) ⟨callB_of 0 hts (gi kt_32) rfl rfl rfl (hts _ kt_1) (hts _ kt_256) (by decide +kernel) ⟨Nat.le_of_ble_eq_true rfl, Nat.le_of_ble_eq_true rfl⟩, (hts _ kt_34), (hts _ kt_35)⟩ ⟨fun a U g mk q => ⟨q.1, PT.calling q.2⟩, pg_recv hK hP hL_g2 hF_27 (q := (RX0, TX0, 3)) rfl, fun U hU hWm => ⟨rfl, PT.mk hU hWm hP hK hD hE hO⟩⟩ rfl rfl hl.1 rfl (lv_room (Nat.le_of_ble_eq_true rfl)) dX8_sumOf_105 ⟨by show _ + 0 ≤ 0; omega, by show _ + 0 ≤ 0; omega⟩) hS (fun q _ h => hFc q h) hFc (fun u t H1 locs ht hvm hw hB hz1 hk1 hS => ?_)
    obtain ⟨F_31, hB1, hq_32⟩ := hB
    obtain ⟨hP, hD, hO, hR⟩ := QT.back hB1 ht hFc hR (fun q h => by simp only [List.mem_cons, List.not_mem_nil, or_false] at h ⊢; omega)
    generalize H1 = H at hP hS ⊢
    refine lv_iconst (v := 0) hx hb dX8_sumOf_108 (by decide) ?_
    refine lv_istore (lv' := [(5, .int 0), (4, .int x_17), (0, .ref h0), (1, .ref g1), (2, .int x2), (3, .ref g2)]) hx hb dX8_sumOf_109 hl (by decide) rfl (fun ls hl => ?_)
    refine lv_iload hx hb dX8_sumOf_111 (lv_at hl 0 rfl) ?_
    refine lv_bipush (v := 8) hx hb dX8_sumOf_113 (by decide) ?_
    refine lv_icmp_ge (tgt := 135) hx hb dX8_sumOf_115 (by decide) (fun c_33 => absurd c_33 (by decide)) (fun c_33 => ?_)
    refine lv_aload_n hx hb dX8_sumOf_118 rfl (lv_at hl 5 rfl) ?_
    refine lv_aload_n hx hb dX8_sumOf_119 rfl (lv_at hl 2 rfl) ?_
    have hF_34 := hO.sha hL_h0 hT_h0
    refine pg_get (ci := 8) (v := .ref sa) (C := RX8) (T := TX8) (N := 3) hx hb hts it_8 hown hK hP hL_h0 hF_34 rfl 1 (by decide) (hts _ kt_247) (fun _ h9 => h9) rfl dX8_sumOf_120 ?_
    refine lv_iload hx hb dX8_sumOf_123 (lv_at hl 0 rfl) ?_
    obtain ⟨f_35, hF_36⟩ := hO.ints hi_2 ht_5
    refine pg_iald hx hb hK hP hi_2 0 hF_36 rfl (show vp_in (0 : Int32) 8 from (show vp_in (nI 0) 8 from vp_in_nI (by omega) (by omega))) dX8_sumOf_125 ?_
    refine lv_topi (fun x_37 _ => ?_)
    have hFc := pg_free hD hS hA
    refine va_callv (va_runV (As := [.int x_37]) (rest := []) ⟨hx, hb, hml, hown, hts⟩ (s_X0_addFour_x l dC dI cs ty L H.size F_31 g2 τ r2 n2 0 x_37 hW hL_g2 hT_g2 hq_32 (by omega)) ⟨callB_of 1 hts (gi kt_257) rfl rfl rfl (hts _ kt_1) (hts _ kt_258) (by decide +kernel) ⟨Nat.le_of_ble_eq_true rfl, Nat.le_of_ble_eq_true rfl⟩, (hts _ kt_259), (hts _ kt_260)⟩ ⟨fun a U g mk q => ⟨q.1, PT.calling q.2⟩, pg_recv hK hP hL_g2 hq_32 (q := (RX0, TX0, 3)) rfl, fun U hU hWm => ⟨rfl, PT.mk hU hWm hP hK hD hE hO⟩⟩ rfl rfl hl.1 rfl (lv_room (Nat.le_of_ble_eq_true rfl)) dX8_sumOf_126 ⟨by show _ + 0 ≤ 0; omega, by show _ + 0 ≤ 0; omega⟩) hS (fun q _ h => hFc q h) hFc (fun u t H1 locs ht hvm hw hB hz1 hk1 hS => ?_)
    obtain ⟨F_39, hB1, hq_40⟩ := hB
    obtain ⟨hP, hD, hO, hR⟩ := QT.back hB1 ht hFc hR (fun q h => by simp only [List.mem_cons, List.not_mem_nil, or_false] at h ⊢; omega)
    generalize H1 = H at hP hS ⊢
    refine lv_iinc (v := 1) (lv' := [(5, .int 1), (4, .int x_17), (0, .ref h0), (1, .ref g1), (2, .int x2), (3, .ref g2)]) hx hb dX8_sumOf_129 hl (k := 0) rfl (by decide) (by decide) rfl (fun ls hl => ?_)
    refine lv_goto (tgt := 111) hx hb dX8_sumOf_132 (by decide) ?_
    refine lv_iload hx hb dX8_sumOf_111 (lv_at hl 0 rfl) ?_
    refine lv_bipush (v := 8) hx hb dX8_sumOf_113 (by decide) ?_
    refine lv_icmp_ge (tgt := 135) hx hb dX8_sumOf_115 (by decide) (fun c_41 => absurd c_41 (by decide)) (fun c_41 => ?_)
    refine lv_aload_n hx hb dX8_sumOf_118 rfl (lv_at hl 5 rfl) ?_
    refine lv_aload_n hx hb dX8_sumOf_119 rfl (lv_at hl 2 rfl) ?_
    have hF_42 := hO.sha hL_h0 hT_h0
    refine pg_get (ci := 8) (v := .ref sa) (C := RX8) (T := TX8) (N := 3) hx hb hts it_8 hown hK hP hL_h0 hF_42 rfl 1 (by decide) (hts _ kt_247) (fun _ h9 => h9) rfl dX8_sumOf_120 ?_
    refine lv_iload hx hb dX8_sumOf_123 (lv_at hl 0 rfl) ?_
    obtain ⟨f_43, hF_44⟩ := hO.ints hi_2 ht_5
    refine pg_iald hx hb hK hP hi_2 0 hF_44 rfl (show vp_in (1 : Int32) 8 from (show vp_in (nI 1) 8 from vp_in_nI (by omega) (by omega))) dX8_sumOf_125 ?_
    refine lv_topi (fun x_45 _ => ?_)
    have hFc := pg_free hD hS hA
    refine va_callv (va_runV (As := [.int x_45]) (rest := []) ⟨hx, hb, hml, hown, hts⟩ (s_X0_addFour_x l dC dI cs ty L H.size F_39 g2 τ r2 n2 4 x_45 hW hL_g2 hT_g2 hq_40 (by omega)) ⟨callB_of 1 hts (gi kt_257) rfl rfl rfl (hts _ kt_1) (hts _ kt_258) (by decide +kernel) ⟨Nat.le_of_ble_eq_true rfl, Nat.le_of_ble_eq_true rfl⟩, (hts _ kt_259), (hts _ kt_260)⟩ ⟨fun a U g mk q => ⟨q.1, PT.calling q.2⟩, pg_recv hK hP hL_g2 hq_40 (q := (RX0, TX0, 3)) rfl, fun U hU hWm => ⟨rfl, PT.mk hU hWm hP hK hD hE hO⟩⟩ rfl rfl hl.1 rfl (lv_room (Nat.le_of_ble_eq_true rfl)) dX8_sumOf_126 ⟨by show _ + 0 ≤ 0; omega, by show _ + 0 ≤ 0; omega⟩) hS (fun q _ h => hFc q h) hFc (fun u t H1 locs ht hvm hw hB hz1 hk1 hS => ?_)
    obtain ⟨F_47, hB1, hq_48⟩ := hB
    obtain ⟨hP, hD, hO, hR⟩ := QT.back hB1 ht hFc hR (fun q h => by simp only [List.mem_cons, List.not_mem_nil, or_false] at h ⊢; omega)
    generalize H1 = H at hP hS ⊢
    refine lv_iinc (v := 2) (lv' := [(5, .int 2), (4, .int x_17), (0, .ref h0), (1, .ref g1), (2, .int x2), (3, .ref g2)]) hx hb dX8_sumOf_129 hl (k := 0) rfl (by decide) (by decide) rfl (fun ls hl => ?_)
    refine lv_goto (tgt := 111) hx hb dX8_sumOf_132 (by decide) ?_
    refine lv_iload hx hb dX8_sumOf_111 (lv_at hl 0 rfl) ?_
    refine lv_bipush (v := 8) hx hb dX8_sumOf_113 (by decide) ?_
    refine lv_icmp_ge (tgt := 135) hx hb dX8_sumOf_115 (by decide) (fun c_49 => absurd c_49 (by decide)) (fun c_49 => ?_)
    refine lv_aload_n hx hb dX8_sumOf_118 rfl (lv_at hl 5 rfl) ?_
    refine lv_aload_n hx hb dX8_sumOf_119 rfl (lv_at hl 2 rfl) ?_
    have hF_50 := hO.sha hL_h0 hT_h0
    refine pg_get (ci := 8) (v := .ref sa) (C := RX8) (T := TX8) (N := 3) hx hb hts it_8 hown hK hP hL_h0 hF_50 rfl 1 (by decide) (hts _ kt_247) (fun _ h9 => h9) rfl dX8_sumOf_120 ?_
    refine lv_iload hx hb dX8_sumOf_123 (lv_at hl 0 rfl) ?_
    obtain ⟨f_51, hF_52⟩ := hO.ints hi_2 ht_5
    refine pg_iald hx hb hK hP hi_2 0 hF_52 rfl (show vp_in (2 : Int32) 8 from (show vp_in (nI 2) 8 from vp_in_nI (by omega) (by omega))) dX8_sumOf_125 ?_
    refine lv_topi (fun x_53 _ => ?_)
    have hFc := pg_free hD hS hA
    refine va_callv (va_runV (As := [.int x_53]) (rest := []) ⟨hx, hb, hml, hown, hts⟩ (s_X0_addFour_x l dC dI cs ty L H.size F_47 g2 τ r2 n2 8 x_53 hW hL_g2 hT_g2 hq_48 (by omega)) ⟨callB_of 1 hts (gi kt_257) rfl rfl rfl (hts _ kt_1) (hts _ kt_258) (by decide +kernel) ⟨Nat.le_of_ble_eq_true rfl, Nat.le_of_ble_eq_true rfl⟩, (hts _ kt_259), (hts _ kt_260)⟩ ⟨fun a U g mk q => ⟨q.1, PT.calling q.2⟩, pg_recv hK hP hL_g2 hq_48 (q := (RX0, TX0, 3)) rfl, fun U hU hWm => ⟨rfl, PT.mk hU hWm hP hK hD hE hO⟩⟩ rfl rfl hl.1 rfl (lv_room (Nat.le_of_ble_eq_true rfl)) dX8_sumOf_126 ⟨by show _ + 0 ≤ 0; omega, by show _ + 0 ≤ 0; omega⟩) hS (fun q _ h => hFc q h) hFc (fun u t H1 locs ht hvm hw hB hz1 hk1 hS => ?_)
    obtain ⟨F_55, hB1, hq_56⟩ := hB
    obtain ⟨hP, hD, hO, hR⟩ := QT.back hB1 ht hFc hR (fun q h => by simp only [List.mem_cons, List.not_mem_nil, or_false] at h ⊢; omega)
    generalize H1 = H at hP hS ⊢
    refine lv_iinc (v := 3) (lv' := [(5, .int 3), (4, .int x_17), (0, .ref h0), (1, .ref g1), (2, .int x2), (3, .ref g2)]) hx hb dX8_sumOf_129 hl (k := 0) rfl (by decide) (by decide) rfl (fun ls hl => ?_)
    refine lv_goto (tgt := 111) hx hb dX8_sumOf_132 (by decide) ?_
    refine lv_iload hx hb dX8_sumOf_111 (lv_at hl 0 rfl) ?_
    refine lv_bipush (v := 8) hx hb dX8_sumOf_113 (by decide) ?_
    refine lv_icmp_ge (tgt := 135) hx hb dX8_sumOf_115 (by decide) (fun c_57 => absurd c_57 (by decide)) (fun c_57 => ?_)
    refine lv_aload_n hx hb dX8_sumOf_118 rfl (lv_at hl 5 rfl) ?_
    refine lv_aload_n hx hb dX8_sumOf_119 rfl (lv_at hl 2 rfl) ?_
    have hF_58 := hO.sha hL_h0 hT_h0
    refine pg_get (ci := 8) (v := .ref sa) (C := RX8) (T := TX8) (N := 3) hx hb hts it_8 hown hK hP hL_h0 hF_58 rfl 1 (by decide) (hts _ kt_247) (fun _ h9 => h9) rfl dX8_sumOf_120 ?_
    refine lv_iload hx hb dX8_sumOf_123 (lv_at hl 0 rfl) ?_
    obtain ⟨f_59, hF_60⟩ := hO.ints hi_2 ht_5
    refine pg_iald hx hb hK hP hi_2 0 hF_60 rfl (show vp_in (3 : Int32) 8 from (show vp_in (nI 3) 8 from vp_in_nI (by omega) (by omega))) dX8_sumOf_125 ?_
    refine lv_topi (fun x_61 _ => ?_)
    have hFc := pg_free hD hS hA
    refine va_callv (va_runV (As := [.int x_61]) (rest := []) ⟨hx, hb, hml, hown, hts⟩ (s_X0_addFour_x l dC dI cs ty L H.size F_55 g2 τ r2 n2 12 x_61 hW hL_g2 hT_g2 hq_56 (by omega)) ⟨callB_of 1 hts (gi kt_257) rfl rfl rfl (hts _ kt_1) (hts _ kt_258) (by decide +kernel) ⟨Nat.le_of_ble_eq_true rfl, Nat.le_of_ble_eq_true rfl⟩, (hts _ kt_259), (hts _ kt_260)⟩ ⟨fun a U g mk q => ⟨q.1, PT.calling q.2⟩, pg_recv hK hP hL_g2 hq_56 (q := (RX0, TX0, 3)) rfl, fun U hU hWm => ⟨rfl, PT.mk hU hWm hP hK hD hE hO⟩⟩ rfl rfl hl.1 rfl (lv_room (Nat.le_of_ble_eq_true rfl)) dX8_sumOf_126 ⟨by show _ + 0 ≤ 0; omega, by show _ + 0 ≤ 0; omega⟩) hS (fun q _ h => hFc q h) hFc (fun u t H1 locs ht hvm hw hB hz1 hk1 hS => ?_)
    obtain ⟨F_63, hB1, hq_64⟩ := hB
    obtain ⟨hP, hD, hO, hR⟩ := QT.back hB1 ht hFc hR (fun q h => by simp only [List.mem_cons, List.not_mem_nil, or_false] at h ⊢; omega)
    generalize H1 = H at hP hS ⊢
    refine lv_iinc (v := 4) (lv' := [(5, .int 4), (4, .int x_17), (0, .ref h0), (1, .ref g1), (2, .int x2), (3, .ref g2)]) hx hb dX8_sumOf_129 hl (k := 0) rfl (by decide) (by decide) rfl (fun ls hl => ?_)
    refine lv_goto (tgt := 111) hx hb dX8_sumOf_132 (by decide) ?_
    refine lv_iload hx hb dX8_sumOf_111 (lv_at hl 0 rfl) ?_
    refine lv_bipush (v := 8) hx hb dX8_sumOf_113 (by decide) ?_
    refine lv_icmp_ge (tgt := 135) hx hb dX8_sumOf_115 (by decide) (fun c_65 => absurd c_65 (by decide)) (fun c_65 => ?_)
    refine lv_aload_n hx hb dX8_sumOf_118 rfl (lv_at hl 5 rfl) ?_
    refine lv_aload_n hx hb dX8_sumOf_119 rfl (lv_at hl 2 rfl) ?_
    have hF_66 := hO.sha hL_h0 hT_h0
    refine pg_get (ci := 8) (v := .ref sa) (C := RX8) (T := TX8) (N := 3) hx hb hts it_8 hown hK hP hL_h0 hF_66 rfl 1 (by decide) (hts _ kt_247) (fun _ h9 => h9) rfl dX8_sumOf_120 ?_
    refine lv_iload hx hb dX8_sumOf_123 (lv_at hl 0 rfl) ?_
    obtain ⟨f_67, hF_68⟩ := hO.ints hi_2 ht_5
    refine pg_iald hx hb hK hP hi_2 0 hF_68 rfl (show vp_in (4 : Int32) 8 from (show vp_in (nI 4) 8 from vp_in_nI (by omega) (by omega))) dX8_sumOf_125 ?_
    refine lv_topi (fun x_69 _ => ?_)
    have hFc := pg_free hD hS hA
    refine va_callv (va_runV (As := [.int x_69]) (rest := []) ⟨hx, hb, hml, hown, hts⟩ (s_X0_addFour_x l dC dI cs ty L H.size F_63 g2 τ r2 n2 16 x_69 hW hL_g2 hT_g2 hq_64 (by omega)) ⟨callB_of 1 hts (gi kt_257) rfl rfl rfl (hts _ kt_1) (hts _ kt_258) (by decide +kernel) ⟨Nat.le_of_ble_eq_true rfl, Nat.le_of_ble_eq_true rfl⟩, (hts _ kt_259), (hts _ kt_260)⟩ ⟨fun a U g mk q => ⟨q.1, PT.calling q.2⟩, pg_recv hK hP hL_g2 hq_64 (q := (RX0, TX0, 3)) rfl, fun U hU hWm => ⟨rfl, PT.mk hU hWm hP hK hD hE hO⟩⟩ rfl rfl hl.1 rfl (lv_room (Nat.le_of_ble_eq_true rfl)) dX8_sumOf_126 ⟨by show _ + 0 ≤ 0; omega, by show _ + 0 ≤ 0; omega⟩) hS (fun q _ h => hFc q h) hFc (fun u t H1 locs ht hvm hw hB hz1 hk1 hS => ?_)
    obtain ⟨F_71, hB1, hq_72⟩ := hB
    obtain ⟨hP, hD, hO, hR⟩ := QT.back hB1 ht hFc hR (fun q h => by simp only [List.mem_cons, List.not_mem_nil, or_false] at h ⊢; omega)
    generalize H1 = H at hP hS ⊢
    refine lv_iinc (v := 5) (lv' := [(5, .int 5), (4, .int x_17), (0, .ref h0), (1, .ref g1), (2, .int x2), (3, .ref g2)]) hx hb dX8_sumOf_129 hl (k := 0) rfl (by decide) (by decide) rfl (fun ls hl => ?_)
    refine lv_goto (tgt := 111) hx hb dX8_sumOf_132 (by decide) ?_
    refine lv_iload hx hb dX8_sumOf_111 (lv_at hl 0 rfl) ?_
    refine lv_bipush (v := 8) hx hb dX8_sumOf_113 (by decide) ?_
    refine lv_icmp_ge (tgt := 135) hx hb dX8_sumOf_115 (by decide) (fun c_73 => absurd c_73 (by decide)) (fun c_73 => ?_)
    refine lv_aload_n hx hb dX8_sumOf_118 rfl (lv_at hl 5 rfl) ?_
    refine lv_aload_n hx hb dX8_sumOf_119 rfl (lv_at hl 2 rfl) ?_
    have hF_74 := hO.sha hL_h0 hT_h0
    refine pg_get (ci := 8) (v := .ref sa) (C := RX8) (T := TX8) (N := 3) hx hb hts it_8 hown hK hP hL_h0 hF_74 rfl 1 (by decide) (hts _ kt_247) (fun _ h9 => h9) rfl dX8_sumOf_120 ?_
    refine lv_iload hx hb dX8_sumOf_123 (lv_at hl 0 rfl) ?_
    obtain ⟨f_75, hF_76⟩ := hO.ints hi_2 ht_5
    refine pg_iald hx hb hK hP hi_2 0 hF_76 rfl (show vp_in (5 : Int32) 8 from (show vp_in (nI 5) 8 from vp_in_nI (by omega) (by omega))) dX8_sumOf_125 ?_
    refine lv_topi (fun x_77 _ => ?_)
    have hFc := pg_free hD hS hA
    refine va_callv (va_runV (As := [.int x_77]) (rest := []) ⟨hx, hb, hml, hown, hts⟩ (s_X0_addFour_x l dC dI cs ty L H.size F_71 g2 τ r2 n2 20 x_77 hW hL_g2 hT_g2 hq_72 (by omega)) ⟨callB_of 1 hts (gi kt_257) rfl rfl rfl (hts _ kt_1) (hts _ kt_258) (by decide +kernel) ⟨Nat.le_of_ble_eq_true rfl, Nat.le_of_ble_eq_true rfl⟩, (hts _ kt_259), (hts _ kt_260)⟩ ⟨fun a U g mk q => ⟨q.1, PT.calling q.2⟩, pg_recv hK hP hL_g2 hq_72 (q := (RX0, TX0, 3)) rfl, fun U hU hWm => ⟨rfl, PT.mk hU hWm hP hK hD hE hO⟩⟩ rfl rfl hl.1 rfl (lv_room (Nat.le_of_ble_eq_true rfl)) dX8_sumOf_126 ⟨by show _ + 0 ≤ 0; omega, by show _ + 0 ≤ 0; omega⟩) hS (fun q _ h => hFc q h) hFc (fun u t H1 locs ht hvm hw hB hz1 hk1 hS => ?_)
    obtain ⟨F_79, hB1, hq_80⟩ := hB
    obtain ⟨hP, hD, hO, hR⟩ := QT.back hB1 ht hFc hR (fun q h => by simp only [List.mem_cons, List.not_mem_nil, or_false] at h ⊢; omega)
    generalize H1 = H at hP hS ⊢
    refine lv_iinc (v := 6) (lv' := [(5, .int 6), (4, .int x_17), (0, .ref h0), (1, .ref g1), (2, .int x2), (3, .ref g2)]) hx hb dX8_sumOf_129 hl (k := 0) rfl (by decide) (by decide) rfl (fun ls hl => ?_)
    refine lv_goto (tgt := 111) hx hb dX8_sumOf_132 (by decide) ?_
    refine lv_iload hx hb dX8_sumOf_111 (lv_at hl 0 rfl) ?_
    refine lv_bipush (v := 8) hx hb dX8_sumOf_113 (by decide) ?_
    refine lv_icmp_ge (tgt := 135) hx hb dX8_sumOf_115 (by decide) (fun c_81 => absurd c_81 (by decide)) (fun c_81 => ?_)
    refine lv_aload_n hx hb dX8_sumOf_118 rfl (lv_at hl 5 rfl) ?_
    refine lv_aload_n hx hb dX8_sumOf_119 rfl (lv_at hl 2 rfl) ?_
    have hF_82 := hO.sha hL_h0 hT_h0
    refine pg_get (ci := 8) (v := .ref sa) (C := RX8) (T := TX8) (N := 3) hx hb hts it_8 hown hK hP hL_h0 hF_82 rfl 1 (by decide) (hts _ kt_247) (fun _ h9 => h9) rfl dX8_sumOf_120 ?_
    refine lv_iload hx hb dX8_sumOf_123 (lv_at hl 0 rfl) ?_
    obtain ⟨f_83, hF_84⟩ := hO.ints hi_2 ht_5
    refine pg_iald hx hb hK hP hi_2 0 hF_84 rfl (show vp_in (6 : Int32) 8 from (show vp_in (nI 6) 8 from vp_in_nI (by omega) (by omega))) dX8_sumOf_125 ?_
    refine lv_topi (fun x_85 _ => ?_)
    have hFc := pg_free hD hS hA
    refine va_callv (va_runV (As := [.int x_85]) (rest := []) ⟨hx, hb, hml, hown, hts⟩ (s_X0_addFour_x l dC dI cs ty L H.size F_79 g2 τ r2 n2 24 x_85 hW hL_g2 hT_g2 hq_80 (by omega)) ⟨callB_of 1 hts (gi kt_257) rfl rfl rfl (hts _ kt_1) (hts _ kt_258) (by decide +kernel) ⟨Nat.le_of_ble_eq_true rfl, Nat.le_of_ble_eq_true rfl⟩, (hts _ kt_259), (hts _ kt_260)⟩ ⟨fun a U g mk q => ⟨q.1, PT.calling q.2⟩, pg_recv hK hP hL_g2 hq_80 (q := (RX0, TX0, 3)) rfl, fun U hU hWm => ⟨rfl, PT.mk hU hWm hP hK hD hE hO⟩⟩ rfl rfl hl.1 rfl (lv_room (Nat.le_of_ble_eq_true rfl)) dX8_sumOf_126 ⟨by show _ + 0 ≤ 0; omega, by show _ + 0 ≤ 0; omega⟩) hS (fun q _ h => hFc q h) hFc (fun u t H1 locs ht hvm hw hB hz1 hk1 hS => ?_)
    obtain ⟨F_87, hB1, hq_88⟩ := hB
    obtain ⟨hP, hD, hO, hR⟩ := QT.back hB1 ht hFc hR (fun q h => by simp only [List.mem_cons, List.not_mem_nil, or_false] at h ⊢; omega)
    generalize H1 = H at hP hS ⊢
    refine lv_iinc (v := 7) (lv' := [(5, .int 7), (4, .int x_17), (0, .ref h0), (1, .ref g1), (2, .int x2), (3, .ref g2)]) hx hb dX8_sumOf_129 hl (k := 0) rfl (by decide) (by decide) rfl (fun ls hl => ?_)
    refine lv_goto (tgt := 111) hx hb dX8_sumOf_132 (by decide) ?_
    refine lv_iload hx hb dX8_sumOf_111 (lv_at hl 0 rfl) ?_
    refine lv_bipush (v := 8) hx hb dX8_sumOf_113 (by decide) ?_
    refine lv_icmp_ge (tgt := 135) hx hb dX8_sumOf_115 (by decide) (fun c_89 => absurd c_89 (by decide)) (fun c_89 => ?_)
    refine lv_aload_n hx hb dX8_sumOf_118 rfl (lv_at hl 5 rfl) ?_
    refine lv_aload_n hx hb dX8_sumOf_119 rfl (lv_at hl 2 rfl) ?_
    have hF_90 := hO.sha hL_h0 hT_h0
    refine pg_get (ci := 8) (v := .ref sa) (C := RX8) (T := TX8) (N := 3) hx hb hts it_8 hown hK hP hL_h0 hF_90 rfl 1 (by decide) (hts _ kt_247) (fun _ h9 => h9) rfl dX8_sumOf_120 ?_
    refine lv_iload hx hb dX8_sumOf_123 (lv_at hl 0 rfl) ?_
    obtain ⟨f_91, hF_92⟩ := hO.ints hi_2 ht_5
    refine pg_iald hx hb hK hP hi_2 0 hF_92 rfl (show vp_in (7 : Int32) 8 from (show vp_in (nI 7) 8 from vp_in_nI (by omega) (by omega))) dX8_sumOf_125 ?_
    refine lv_topi (fun x_93 _ => ?_)
    have hFc := pg_free hD hS hA
    refine va_callv (va_runV (As := [.int x_93]) (rest := []) ⟨hx, hb, hml, hown, hts⟩ (s_X0_addFour_x l dC dI cs ty L H.size F_87 g2 τ r2 n2 28 x_93 hW hL_g2 hT_g2 hq_88 (by omega)) ⟨callB_of 1 hts (gi kt_257) rfl rfl rfl (hts _ kt_1) (hts _ kt_258) (by decide +kernel) ⟨Nat.le_of_ble_eq_true rfl, Nat.le_of_ble_eq_true rfl⟩, (hts _ kt_259), (hts _ kt_260)⟩ ⟨fun a U g mk q => ⟨q.1, PT.calling q.2⟩, pg_recv hK hP hL_g2 hq_88 (q := (RX0, TX0, 3)) rfl, fun U hU hWm => ⟨rfl, PT.mk hU hWm hP hK hD hE hO⟩⟩ rfl rfl hl.1 rfl (lv_room (Nat.le_of_ble_eq_true rfl)) dX8_sumOf_126 ⟨by show _ + 0 ≤ 0; omega, by show _ + 0 ≤ 0; omega⟩) hS (fun q _ h => hFc q h) hFc (fun u t H1 locs ht hvm hw hB hz1 hk1 hS => ?_)
    obtain ⟨F_95, hB1, hq_96⟩ := hB
    obtain ⟨hP, hD, hO, hR⟩ := QT.back hB1 ht hFc hR (fun q h => by simp only [List.mem_cons, List.not_mem_nil, or_false] at h ⊢; omega)
    generalize H1 = H at hP hS ⊢
    refine lv_iinc (v := 8) (lv' := [(5, .int 8), (4, .int x_17), (0, .ref h0), (1, .ref g1), (2, .int x2), (3, .ref g2)]) hx hb dX8_sumOf_129 hl (k := 0) rfl (by decide) (by decide) rfl (fun ls hl => ?_)
    refine lv_goto (tgt := 111) hx hb dX8_sumOf_132 (by decide) ?_
    refine lv_iload hx hb dX8_sumOf_111 (lv_at hl 0 rfl) ?_
    refine lv_bipush (v := 8) hx hb dX8_sumOf_113 (by decide) ?_
    refine lv_icmp_ge (tgt := 135) hx hb dX8_sumOf_115 (by decide) (fun c_97 => ?_) (fun c_97 => absurd (by decide) c_97)
    refine W.widen (k := 0) (n := 0) (by omega) (by omega) ?_
    exact W.vret hx hb hr (fun t ht hWm => ⟨⟨(), rfl, trivial, ⟨F_95, QT.mk ht hP hD hO hR, hq_96⟩⟩, hS.F ht⟩) hS.2.2 dX8_sumOf_135
  ·
    have hc33 := c_21
    refine lv_iconst (v := 0) hx hb dX8_sumOf_36 (by decide) ?_
    refine lv_istore (lv' := [(6, .int 0), (5, .int b1), (4, .int x_17), (0, .ref h0), (1, .ref g1), (2, .int x2), (3, .ref g2)]) hx hb dX8_sumOf_37 hl (by decide) rfl (fun ls hl => ?_)
    refine W.widen (k := 0) (n := 0) (by omega) (by omega) ?_
    refine pl_loop (σ := Nat) A (dC, dI) cs ty L [ρ, τ] F 39 7 (fun i1 => [(6, .int (nI i1)), (5, .int b1), (4, .int x_17), (0, .ref h0), (1, .ref g1), (2, .int x2), (3, .ref g2)]) (fun i1 => []) (fun i1 _ => i1 ≤ 16) (fun i1 => 16 - i1) ?_ 0 F_18 (by omega) hO hR _ _ hP hD hS ls (lv_sub hl [0, 1, 2, 3, 4, 5, 6] rfl)
    rintro i1 F_98 hv_99 hO hR ih_100 H locs hP hD hS ls hl
    have hl : lv_has ls 7 [(6, .int (nI i1)), (5, .int b1), (4, .int x_17), (0, .ref h0), (1, .ref g1), (2, .int x2), (3, .ref g2)] := hl
    have hv_99 : i1 ≤ 16 := hv_99
    refine W.eq (g2 := F0 m 39 ls []) rfl ?_
    refine lv_iload hx hb dX8_sumOf_39 (lv_at hl 0 rfl) ?_
    refine lv_bipush (v := 16) hx hb dX8_sumOf_41 (by decide) ?_
    refine lv_icmp_ge (tgt := 74) hx hb dX8_sumOf_43 (by decide) (fun c_101 => ?_) (fun c_101 => ?_)
    ·
      have hi_102 : 16 ≤ i1 := leN (N := 16) c_101
      refine W.widen (k := 0) (n := 0) (by omega) (by omega) ?_
      refine pl_cut (σ := Unit) A (dC, dI) cs ty L [ρ, τ] F 94 7 (fun u0 => [(5, .int b1), (4, .int x_17), (0, .ref h0), (1, .ref g1), (2, .int x2), (3, .ref g2)]) (fun u0 => []) (fun u0 _ => True) ?_ (fun jn_103 => ?_)
      ·
        rintro u0 F_104 hv_105 hO hR H locs hP hD hS ls hl
        have hl : lv_has ls 7 [(5, .int b1), (4, .int x_17), (0, .ref h0), (1, .ref g1), (2, .int x2), (3, .ref g2)] := hl
        have hv_105 : True := hv_105
        refine W.eq (g2 := F0 m 94 ls []) rfl ?_
        refine lv_aload_n hx hb dX8_sumOf_94 rfl (lv_at hl 2 rfl) ?_
        have hFc := pg_free hD hS hA
        have hF_106 := hO.sha hL_h0 hT_h0
        refine va_callv (va_runV (As := []) (rest := []) ⟨hx, hb, hml, hown, hts⟩ (s_X8_mix l dC dI cs ty L H.size F_104 h0 ρ wa sa ta hW hL_h0 hT_h0) ⟨callB_of 0 hts (gi kt_261) rfl rfl rfl (hts _ kt_250) (hts _ kt_262) (by decide +kernel) ⟨Nat.le_of_ble_eq_true rfl, Nat.le_of_ble_eq_true rfl⟩, (hts _ kt_263), (hts _ kt_264)⟩ ⟨fun a U g mk q => ⟨q.1, PTE.calling q.2⟩, pg_recv hK hP hL_h0 hF_106 (q := (RX8, TX8, 3)) rfl, fun U hU hWm => ⟨rfl, PTE.mk hU hWm hP hK hD hE hO hG (fun x hx => absurd hx List.not_mem_nil) hS hFc⟩⟩ rfl rfl hl.1 rfl (lv_room (Nat.le_of_ble_eq_true rfl)) dX8_sumOf_95 ⟨by show _ + 0 ≤ 0; omega, by show _ + 0 ≤ 0; omega⟩) hS (fun q _ h => hFc q h) hFc (fun u t H1 locs ht hvm hw hB hz1 hk1 hS => ?_)
        obtain ⟨F_108, hB1⟩ := hB
        obtain ⟨hP, hD, hO, hR⟩ := QT.back hB1 ht hFc hR (fun q h => by simp only [List.mem_cons, List.not_mem_nil, or_false] at h ⊢; omega)
        generalize H1 = H at hP hS ⊢
        obtain ⟨x_109, ex_109⟩ : ∃ y : Int32, y = b1 + Int32.ofInt 1 := ⟨_, rfl⟩
        refine lv_iinc (v := x_109) (lv' := [(5, .int x_109), (4, .int x_17), (0, .ref h0), (1, .ref g1), (2, .int x2), (3, .ref g2)]) hx hb dX8_sumOf_98 hl (k := 0) rfl (ex_109.symm) (by decide) rfl (fun ls hl => ?_)
        refine lv_goto (tgt := 29) hx hb dX8_sumOf_101 (by decide) ?_
        refine W.widen (k := 0) (n := 0) (by omega) (by omega) ?_
        exact ih_20 x_109 F_108 (trivial) (by show ((x_17).toInt - x_109.toInt).toNat < ((x_17).toInt - b1.toInt).toNat; exact incN ex_109 hc33) hO hR _ _ hP hD hS ls (lv_sub hl [0, 1, 2, 3, 4, 5] rfl)
      ·
        refine lv_iload hx hb dX8_sumOf_74 (lv_at hl 1 rfl) ?_
        refine lv_iload hx hb dX8_sumOf_76 (lv_at hl 2 rfl) ?_
        refine lv_iconst (v := 1) hx hb dX8_sumOf_78 (by decide) ?_
        refine lv_isub hx hb dX8_sumOf_79 ?_
        refine lv_topi (fun x_110 _ => ?_)
        refine lv_icmp_ne (tgt := 94) hx hb dX8_sumOf_80 (by decide) (fun c_111 => ?_) (fun c_111 => ?_)
        ·
          refine W.widen (k := 0) (n := 0) (by omega) (by omega) ?_
          exact jn_103 () F_98 (trivial) hO hR _ _ hP hD hS ls (lv_sub hl [1, 2, 3, 4, 5, 6] rfl)
        ·
          refine lv_aload_n hx hb dX8_sumOf_83 rfl (lv_at hl 3 rfl) ?_
          have hF_112 := hO.sha hL_h0 hT_h0
          refine pg_get (ci := 8) (v := .ref wa) (C := RX8) (T := TX8) (N := 3) hx hb hts it_8 hown hK hP hL_h0 hF_112 rfl 0 (by decide) (hts _ kt_246) (fun _ h9 => h9) rfl dX8_sumOf_84 ?_
          refine lv_bipush (v := 15) hx hb dX8_sumOf_87 (by decide) ?_
          refine lv_iload_n hx hb dX8_sumOf_89 rfl (lv_at hl 5 rfl) ?_
          refine lv_bipush (v := 8) hx hb dX8_sumOf_90 (by decide) ?_
          refine lv_imul hx hb dX8_sumOf_92 ?_
          refine lv_topi (fun x_113 _ => ?_)
          obtain ⟨f_114, hF_115⟩ := hO.ints hi_1 ht_4
          refine pg_iast hx hb hK hP hD hS hi_1 0 hF_115 rfl (show vp_in (15 : Int32) 64 from (show vp_in (nI 15) 64 from vp_in_nI (by omega) (by omega))) dX8_sumOf_93 (fun H locs hP hD hS => ?_)
          obtain ⟨F_116, he_117, hP, hD, hO, hR⟩ : ∃ G, G = va_up F_98 wa (.inl (cs 16, 64, .inl (upd f_114 (15 : Int32).toNatClampNeg (x_113)))) ∧ va_P (dC, dI) vwCl (va_pl L G) H ∧ va_D A (va_pl L G) ∧ OK cs ty L G ∧ FR ty [ρ, τ] F G := ⟨_, rfl, hP, hD, hO.up (sh.ints ht_4 ⟨_, rfl⟩), hR.up ht_4 (by simp)⟩
          have hF_118 : F_116 wa = .inl (cs 16, 64, .inl (upd f_114 (15 : Int32).toNatClampNeg (x_113))) := by rw [he_117]; exact up_self
          have hF_119 : F_116 h0 = .inr (8, [.ref wa, .ref sa, .ref ta]) := by rw [he_117, up_ne (ne_ty hT_h0 ht_4 (by simp))]; exact hF_112
          obtain ⟨f_120, hF_118⟩ : ∃ f : Nat → Int32, F_116 wa = .inl (cs 16, 64, .inl f) := ⟨_, hF_118⟩
          refine W.widen (k := 0) (n := 0) (by omega) (by omega) ?_
          exact jn_103 () F_116 (trivial) hO hR _ _ hP hD hS ls (lv_sub hl [1, 2, 3, 4, 5, 6] rfl)
    ·
      have hi_121 : i1 < 16 := ltN (N := 16) c_101
      refine lv_aload_n hx hb dX8_sumOf_46 rfl (lv_at hl 3 rfl) ?_
      have hF_122 := hO.sha hL_h0 hT_h0
      refine pg_get (ci := 8) (v := .ref wa) (C := RX8) (T := TX8) (N := 3) hx hb hts it_8 hown hK hP hL_h0 hF_122 rfl 0 (by decide) (hts _ kt_246) (fun _ h9 => h9) rfl dX8_sumOf_47 ?_
      refine lv_iload hx hb dX8_sumOf_50 (lv_at hl 0 rfl) ?_
      refine lv_aload_n hx hb dX8_sumOf_52 rfl (lv_at hl 4 rfl) ?_
      refine lv_iload_n hx hb dX8_sumOf_53 rfl (lv_at hl 5 rfl) ?_
      refine lv_iload hx hb dX8_sumOf_54 (lv_at hl 1 rfl) ?_
      refine lv_bipush (v := 64) hx hb dX8_sumOf_56 (by decide) ?_
      refine lv_imul hx hb dX8_sumOf_58 ?_
      refine lv_topi (fun x_123 _ => ?_)
      refine lv_iload hx hb dX8_sumOf_59 (lv_at hl 0 rfl) ?_
      refine lv_iconst (v := 4) hx hb dX8_sumOf_61 (by decide) ?_
      refine lv_imul hx hb dX8_sumOf_62 ?_
      refine lv_topi (fun x_124 _ => ?_)
      refine lv_iadd hx hb dX8_sumOf_63 ?_
      refine lv_topi (fun x_125 _ => ?_)
      have hFc := pg_free hD hS hA
      refine va_calli (va_runS (As := [.ref g1, .int x2, .int x_125]) (rest := [.int (nI i1), .ref wa]) ⟨hx, hb, hml, hown, hts⟩ (s_X8_wordAt l dC dI cs ty L H.size F_98 g1 σ r1 n1 x2 x_125 hW hL_g1 hT_g1) ⟨callB_of 3 hts (gi kt_265) rfl rfl rfl (hts _ kt_250) (hts _ kt_266) (by decide +kernel) ⟨Nat.le_of_ble_eq_true rfl, Nat.le_of_ble_eq_true rfl⟩, (hts _ kt_267)⟩ ⟨fun a U g mk q => ⟨q.1, PT.calling q.2⟩, fun U hU hWm => ⟨rfl, PT.mk hU hWm hP hK hD hE hO⟩⟩ rfl rfl hl.1 rfl (lv_room (Nat.le_of_ble_eq_true rfl)) dX8_sumOf_64 ⟨by show _ + 0 ≤ 0; omega, by show _ + 0 ≤ 0; omega⟩) hS (fun q _ h => hFc q h) hFc (fun r_126 u t H1 locs ht hvm hw hB hz1 hk1 hS => ?_)
      obtain ⟨F_127, hB1⟩ := hB
      obtain ⟨hP, hD, hO, hR⟩ := QT.back hB1 ht hFc hR (fun q h => absurd h List.not_mem_nil)
      have hF_128 : F_127 h0 = .inr (8, [.ref wa, .ref sa, .ref ta]) := (hB1.2.2.2 h0 List.not_mem_nil).trans hF_122
      generalize H1 = H at hP hS ⊢
      have hw : True := hw
      have hw_129 := hw
      obtain ⟨f_130, hF_131⟩ := hO.ints hi_1 ht_4
      refine pg_iast hx hb hK hP hD hS hi_1 0 hF_131 rfl (vp_in_nI (by omega) (by omega)) dX8_sumOf_67 (fun H locs hP hD hS => ?_)
      obtain ⟨F_132, he_133, hP, hD, hO, hR⟩ : ∃ G, G = va_up F_127 wa (.inl (cs 16, 64, .inl (upd f_130 ((nI i1)).toNatClampNeg (r_126)))) ∧ va_P (dC, dI) vwCl (va_pl L G) H ∧ va_D A (va_pl L G) ∧ OK cs ty L G ∧ FR ty [ρ, τ] F G := ⟨_, rfl, hP, hD, hO.up (sh.ints ht_4 ⟨_, rfl⟩), hR.up ht_4 (by simp)⟩
      have hF_134 : F_132 wa = .inl (cs 16, 64, .inl (upd f_130 ((nI i1)).toNatClampNeg (r_126))) := by rw [he_133]; exact up_self
      have hF_135 : F_132 h0 = .inr (8, [.ref wa, .ref sa, .ref ta]) := by rw [he_133, up_ne (ne_ty hT_h0 ht_4 (by simp))]; exact hF_128
      obtain ⟨f_136, hF_134⟩ : ∃ f : Nat → Int32, F_132 wa = .inl (cs 16, 64, .inl f) := ⟨_, hF_134⟩
      refine lv_iinc (v := (nI (i1 + 1))) (lv' := [(6, .int (nI (i1 + 1))), (5, .int b1), (4, .int x_17), (0, .ref h0), (1, .ref g1), (2, .int x2), (3, .ref g2)]) hx hb dX8_sumOf_68 hl (k := 0) rfl (nI_1 _) (by decide) rfl (fun ls hl => ?_)
      refine lv_goto (tgt := 39) hx hb dX8_sumOf_71 (by decide) ?_
      refine W.widen (k := 0) (n := 0) (by omega) (by omega) ?_
      exact ih_100 (i1 + 1) F_132 (by first | omega | exact ⟨by omega, by omega⟩ | trivial) (by show 16 - (i1 + 1) < 16 - i1; omega) hO hR _ _ hP hD hS ls (lv_sub hl [0, 1, 2, 3, 4, 5, 6] rfl)
