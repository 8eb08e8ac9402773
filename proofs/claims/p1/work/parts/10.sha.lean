theorem dX11_digest_0 : decode cX11_digest 0 = .ok (.aload_n 0, 1) := by decide +kernel
theorem dX11_digest_1 : decode cX11_digest 1 = .ok (.getfield 54, 3) := by decide +kernel
theorem dX11_digest_4 : decode cX11_digest 4 = .ok (.aload_n 0, 1) := by decide +kernel
theorem dX11_digest_5 : decode cX11_digest 5 = .ok (.getfield 14, 3) := by decide +kernel
theorem dX11_digest_8 : decode cX11_digest 8 = .ok (.aload_n 0, 1) := by decide +kernel
theorem dX11_digest_9 : decode cX11_digest 9 = .ok (.getfield 14, 3) := by decide +kernel
theorem dX11_digest_12 : decode cX11_digest 12 = .ok (.getfield 68, 3) := by decide +kernel
theorem dX11_digest_15 : decode cX11_digest 15 = .ok (.aload_n 0, 1) := by decide +kernel
theorem dX11_digest_16 : decode cX11_digest 16 = .ok (.getfield 18, 3) := by decide +kernel
theorem dX11_digest_19 : decode cX11_digest 19 = .ok (.invokevirtual 173, 3) := by decide +kernel
theorem dX11_digest_22 : decode cX11_digest 22 = .ok (.aload_n 0, 1) := by decide +kernel
theorem dX11_digest_23 : decode cX11_digest 23 = .ok (.getfield 14, 3) := by decide +kernel
theorem dX11_digest_26 : decode cX11_digest 26 = .ok (.invokevirtual 82, 3) := by decide +kernel
theorem dX11_digest_29 : decode cX11_digest 29 = .ok (.aload_n 0, 1) := by decide +kernel
theorem dX11_digest_30 : decode cX11_digest 30 = .ok (.getfield 18, 3) := by decide +kernel
theorem dX11_digest_33 : decode cX11_digest 33 = .ok (.getfield 68, 3) := by decide +kernel
theorem dX11_digest_36 : decode cX11_digest 36 = .ok (.ireturn, 1) := by decide +kernel
theorem dX8_mix_0 : decode cX8_mix 0 = .ok (.bipush 16, 2) := by decide +kernel
theorem dX8_mix_2 : decode cX8_mix 2 = .ok (.istore_n 1, 1) := by decide +kernel
theorem dX8_mix_3 : decode cX8_mix 3 = .ok (.iload_n 1, 1) := by decide +kernel
theorem dX8_mix_4 : decode cX8_mix 4 = .ok (.bipush 64, 2) := by decide +kernel
theorem dX8_mix_6 : decode cX8_mix 6 = .ok (.if_icmp .ge 110, 3) := by decide +kernel
theorem dX8_mix_9 : decode cX8_mix 9 = .ok (.aload_n 0, 1) := by decide +kernel
theorem dX8_mix_10 : decode cX8_mix 10 = .ok (.getfield 7, 3) := by decide +kernel
theorem dX8_mix_13 : decode cX8_mix 13 = .ok (.iload_n 1, 1) := by decide +kernel
theorem dX8_mix_14 : decode cX8_mix 14 = .ok (.bipush 15, 2) := by decide +kernel
theorem dX8_mix_16 : decode cX8_mix 16 = .ok (.isub, 1) := by decide +kernel
theorem dX8_mix_17 : decode cX8_mix 17 = .ok (.iaload, 1) := by decide +kernel
theorem dX8_mix_18 : decode cX8_mix 18 = .ok (.istore_n 2, 1) := by decide +kernel
theorem dX8_mix_19 : decode cX8_mix 19 = .ok (.aload_n 0, 1) := by decide +kernel
theorem dX8_mix_20 : decode cX8_mix 20 = .ok (.getfield 7, 3) := by decide +kernel
theorem dX8_mix_23 : decode cX8_mix 23 = .ok (.iload_n 1, 1) := by decide +kernel
theorem dX8_mix_24 : decode cX8_mix 24 = .ok (.iconst 2, 1) := by decide +kernel
theorem dX8_mix_25 : decode cX8_mix 25 = .ok (.isub, 1) := by decide +kernel
theorem dX8_mix_26 : decode cX8_mix 26 = .ok (.iaload, 1) := by decide +kernel
theorem dX8_mix_27 : decode cX8_mix 27 = .ok (.istore_n 3, 1) := by decide +kernel
theorem dX8_mix_28 : decode cX8_mix 28 = .ok (.iload_n 2, 1) := by decide +kernel
theorem dX8_mix_29 : decode cX8_mix 29 = .ok (.bipush 7, 2) := by decide +kernel
theorem dX8_mix_31 : decode cX8_mix 31 = .ok (.iushr, 1) := by decide +kernel
theorem dX8_mix_32 : decode cX8_mix 32 = .ok (.iload_n 2, 1) := by decide +kernel
theorem dX8_mix_33 : decode cX8_mix 33 = .ok (.bipush 25, 2) := by decide +kernel
theorem dX8_mix_35 : decode cX8_mix 35 = .ok (.ishl, 1) := by decide +kernel
theorem dX8_mix_36 : decode cX8_mix 36 = .ok (.ior, 1) := by decide +kernel
theorem dX8_mix_37 : decode cX8_mix 37 = .ok (.iload_n 2, 1) := by decide +kernel
theorem dX8_mix_38 : decode cX8_mix 38 = .ok (.bipush 18, 2) := by decide +kernel
theorem dX8_mix_40 : decode cX8_mix 40 = .ok (.iushr, 1) := by decide +kernel
theorem dX8_mix_41 : decode cX8_mix 41 = .ok (.iload_n 2, 1) := by decide +kernel
theorem dX8_mix_42 : decode cX8_mix 42 = .ok (.bipush 14, 2) := by decide +kernel
theorem dX8_mix_44 : decode cX8_mix 44 = .ok (.ishl, 1) := by decide +kernel
theorem dX8_mix_45 : decode cX8_mix 45 = .ok (.ior, 1) := by decide +kernel
theorem dX8_mix_46 : decode cX8_mix 46 = .ok (.ixor, 1) := by decide +kernel
theorem dX8_mix_47 : decode cX8_mix 47 = .ok (.iload_n 2, 1) := by decide +kernel
theorem dX8_mix_48 : decode cX8_mix 48 = .ok (.iconst 3, 1) := by decide +kernel
theorem dX8_mix_49 : decode cX8_mix 49 = .ok (.iushr, 1) := by decide +kernel
theorem dX8_mix_50 : decode cX8_mix 50 = .ok (.ixor, 1) := by decide +kernel
theorem dX8_mix_51 : decode cX8_mix 51 = .ok (.istore 4, 2) := by decide +kernel
theorem dX8_mix_53 : decode cX8_mix 53 = .ok (.iload_n 3, 1) := by decide +kernel
theorem dX8_mix_54 : decode cX8_mix 54 = .ok (.bipush 17, 2) := by decide +kernel
theorem dX8_mix_56 : decode cX8_mix 56 = .ok (.iushr, 1) := by decide +kernel
theorem dX8_mix_57 : decode cX8_mix 57 = .ok (.iload_n 3, 1) := by decide +kernel
theorem dX8_mix_58 : decode cX8_mix 58 = .ok (.bipush 15, 2) := by decide +kernel
theorem dX8_mix_60 : decode cX8_mix 60 = .ok (.ishl, 1) := by decide +kernel
theorem dX8_mix_61 : decode cX8_mix 61 = .ok (.ior, 1) := by decide +kernel
theorem dX8_mix_62 : decode cX8_mix 62 = .ok (.iload_n 3, 1) := by decide +kernel
theorem dX8_mix_63 : decode cX8_mix 63 = .ok (.bipush 19, 2) := by decide +kernel
theorem dX8_mix_65 : decode cX8_mix 65 = .ok (.iushr, 1) := by decide +kernel
theorem dX8_mix_66 : decode cX8_mix 66 = .ok (.iload_n 3, 1) := by decide +kernel
theorem dX8_mix_67 : decode cX8_mix 67 = .ok (.bipush 13, 2) := by decide +kernel
theorem dX8_mix_69 : decode cX8_mix 69 = .ok (.ishl, 1) := by decide +kernel
theorem dX8_mix_70 : decode cX8_mix 70 = .ok (.ior, 1) := by decide +kernel
theorem dX8_mix_71 : decode cX8_mix 71 = .ok (.ixor, 1) := by decide +kernel
theorem dX8_mix_72 : decode cX8_mix 72 = .ok (.iload_n 3, 1) := by decide +kernel
theorem dX8_mix_73 : decode cX8_mix 73 = .ok (.bipush 10, 2) := by decide +kernel
theorem dX8_mix_75 : decode cX8_mix 75 = .ok (.iushr, 1) := by decide +kernel
theorem dX8_mix_76 : decode cX8_mix 76 = .ok (.ixor, 1) := by decide +kernel
theorem dX8_mix_77 : decode cX8_mix 77 = .ok (.istore 5, 2) := by decide +kernel
theorem dX8_mix_79 : decode cX8_mix 79 = .ok (.aload_n 0, 1) := by decide +kernel
theorem dX8_mix_80 : decode cX8_mix 80 = .ok (.getfield 7, 3) := by decide +kernel
theorem dX8_mix_83 : decode cX8_mix 83 = .ok (.iload_n 1, 1) := by decide +kernel
theorem dX8_mix_84 : decode cX8_mix 84 = .ok (.aload_n 0, 1) := by decide +kernel
theorem dX8_mix_85 : decode cX8_mix 85 = .ok (.getfield 7, 3) := by decide +kernel
theorem dX8_mix_88 : decode cX8_mix 88 = .ok (.iload_n 1, 1) := by decide +kernel
theorem dX8_mix_89 : decode cX8_mix 89 = .ok (.bipush 16, 2) := by decide +kernel
theorem dX8_mix_91 : decode cX8_mix 91 = .ok (.isub, 1) := by decide +kernel
theorem dX8_mix_92 : decode cX8_mix 92 = .ok (.iaload, 1) := by decide +kernel
theorem dX8_mix_93 : decode cX8_mix 93 = .ok (.iload 4, 2) := by decide +kernel
theorem dX8_mix_95 : decode cX8_mix 95 = .ok (.iadd, 1) := by decide +kernel
theorem dX8_mix_96 : decode cX8_mix 96 = .ok (.aload_n 0, 1) := by decide +kernel
theorem dX8_mix_97 : decode cX8_mix 97 = .ok (.getfield 7, 3) := by decide +kernel
theorem dX8_mix_100 : decode cX8_mix 100 = .ok (.iload_n 1, 1) := by decide +kernel
theorem dX8_mix_101 : decode cX8_mix 101 = .ok (.bipush 7, 2) := by decide +kernel
theorem dX8_mix_103 : decode cX8_mix 103 = .ok (.isub, 1) := by decide +kernel
theorem dX8_mix_104 : decode cX8_mix 104 = .ok (.iaload, 1) := by decide +kernel
theorem dX8_mix_105 : decode cX8_mix 105 = .ok (.iadd, 1) := by decide +kernel
theorem dX8_mix_106 : decode cX8_mix 106 = .ok (.iload 5, 2) := by decide +kernel
theorem dX8_mix_108 : decode cX8_mix 108 = .ok (.iadd, 1) := by decide +kernel
theorem dX8_mix_109 : decode cX8_mix 109 = .ok (.iastore, 1) := by decide +kernel
theorem dX8_mix_110 : decode cX8_mix 110 = .ok (.iinc 1 1, 3) := by decide +kernel
theorem dX8_mix_113 : decode cX8_mix 113 = .ok (.goto (-110), 3) := by decide +kernel
theorem dX8_mix_116 : decode cX8_mix 116 = .ok (.aload_n 0, 1) := by decide +kernel
theorem dX8_mix_117 : decode cX8_mix 117 = .ok (.getfield 13, 3) := by decide +kernel
theorem dX8_mix_120 : decode cX8_mix 120 = .ok (.iconst 0, 1) := by decide +kernel
theorem dX8_mix_121 : decode cX8_mix 121 = .ok (.aload_n 0, 1) := by decide +kernel
theorem dX8_mix_122 : decode cX8_mix 122 = .ok (.getfield 16, 3) := by decide +kernel
theorem dX8_mix_125 : decode cX8_mix 125 = .ok (.iconst 0, 1) := by decide +kernel
theorem dX8_mix_126 : decode cX8_mix 126 = .ok (.bipush 8, 2) := by decide +kernel
theorem dX8_mix_128 : decode cX8_mix 128 = .ok (.invokestatic 22, 3) := by decide +kernel
theorem dX8_mix_131 : decode cX8_mix 131 = .ok (.iconst 0, 1) := by decide +kernel
theorem dX8_mix_132 : decode cX8_mix 132 = .ok (.istore_n 1, 1) := by decide +kernel
theorem dX8_mix_133 : decode cX8_mix 133 = .ok (.iload_n 1, 1) := by decide +kernel
theorem dX8_mix_134 : decode cX8_mix 134 = .ok (.bipush 64, 2) := by decide +kernel
theorem dX8_mix_136 : decode cX8_mix 136 = .ok (.if_icmp .ge 14, 3) := by decide +kernel
theorem dX8_mix_139 : decode cX8_mix 139 = .ok (.aload_n 0, 1) := by decide +kernel
theorem dX8_mix_140 : decode cX8_mix 140 = .ok (.iload_n 1, 1) := by decide +kernel
theorem dX8_mix_141 : decode cX8_mix 141 = .ok (.invokevirtual 48, 3) := by decide +kernel
theorem dX8_mix_144 : decode cX8_mix 144 = .ok (.iinc 1 1, 3) := by decide +kernel
theorem dX8_mix_147 : decode cX8_mix 147 = .ok (.goto (-14), 3) := by decide +kernel
theorem dX8_mix_150 : decode cX8_mix 150 = .ok (.iconst 0, 1) := by decide +kernel
theorem dX8_mix_151 : decode cX8_mix 151 = .ok (.istore_n 1, 1) := by decide +kernel
theorem dX8_mix_152 : decode cX8_mix 152 = .ok (.iload_n 1, 1) := by decide +kernel
theorem dX8_mix_153 : decode cX8_mix 153 = .ok (.bipush 8, 2) := by decide +kernel
theorem dX8_mix_155 : decode cX8_mix 155 = .ok (.if_icmp .ge 24, 3) := by decide +kernel
theorem dX8_mix_158 : decode cX8_mix 158 = .ok (.aload_n 0, 1) := by decide +kernel
theorem dX8_mix_159 : decode cX8_mix 159 = .ok (.getfield 13, 3) := by decide +kernel
theorem dX8_mix_162 : decode cX8_mix 162 = .ok (.iload_n 1, 1) := by decide +kernel
theorem dX8_mix_163 : decode cX8_mix 163 = .ok (.dup2, 1) := by decide +kernel
theorem dX8_mix_164 : decode cX8_mix 164 = .ok (.iaload, 1) := by decide +kernel
theorem dX8_mix_165 : decode cX8_mix 165 = .ok (.aload_n 0, 1) := by decide +kernel
theorem dX8_mix_166 : decode cX8_mix 166 = .ok (.getfield 16, 3) := by decide +kernel
theorem dX8_mix_169 : decode cX8_mix 169 = .ok (.iload_n 1, 1) := by decide +kernel
theorem dX8_mix_170 : decode cX8_mix 170 = .ok (.iaload, 1) := by decide +kernel
theorem dX8_mix_171 : decode cX8_mix 171 = .ok (.iadd, 1) := by decide +kernel
theorem dX8_mix_172 : decode cX8_mix 172 = .ok (.iastore, 1) := by decide +kernel
theorem dX8_mix_173 : decode cX8_mix 173 = .ok (.iinc 1 1, 3) := by decide +kernel
theorem dX8_mix_176 : decode cX8_mix 176 = .ok (.goto (-24), 3) := by decide +kernel
theorem dX8_mix_179 : decode cX8_mix 179 = .ok (.return_, 1) := by decide +kernel
theorem dX8_step_0 : decode cX8_step 0 = .ok (.aload_n 0, 1) := by decide +kernel
theorem dX8_step_1 : decode cX8_step 1 = .ok (.getfield 16, 3) := by decide +kernel
theorem dX8_step_4 : decode cX8_step 4 = .ok (.iconst 0, 1) := by decide +kernel
theorem dX8_step_5 : decode cX8_step 5 = .ok (.iaload, 1) := by decide +kernel
theorem dX8_step_6 : decode cX8_step 6 = .ok (.istore_n 2, 1) := by decide +kernel
theorem dX8_step_7 : decode cX8_step 7 = .ok (.aload_n 0, 1) := by decide +kernel
theorem dX8_step_8 : decode cX8_step 8 = .ok (.getfield 16, 3) := by decide +kernel
theorem dX8_step_11 : decode cX8_step 11 = .ok (.iconst 4, 1) := by decide +kernel
theorem dX8_step_12 : decode cX8_step 12 = .ok (.iaload, 1) := by decide +kernel
theorem dX8_step_13 : decode cX8_step 13 = .ok (.istore_n 3, 1) := by decide +kernel
theorem dX8_step_14 : decode cX8_step 14 = .ok (.iload_n 3, 1) := by decide +kernel
theorem dX8_step_15 : decode cX8_step 15 = .ok (.aload_n 0, 1) := by decide +kernel
theorem dX8_step_16 : decode cX8_step 16 = .ok (.getfield 16, 3) := by decide +kernel
theorem dX8_step_19 : decode cX8_step 19 = .ok (.iconst 5, 1) := by decide +kernel
theorem dX8_step_20 : decode cX8_step 20 = .ok (.iaload, 1) := by decide +kernel
theorem dX8_step_21 : decode cX8_step 21 = .ok (.iand, 1) := by decide +kernel
theorem dX8_step_22 : decode cX8_step 22 = .ok (.iload_n 3, 1) := by decide +kernel
theorem dX8_step_23 : decode cX8_step 23 = .ok (.iconst (-1), 1) := by decide +kernel
theorem dX8_step_24 : decode cX8_step 24 = .ok (.ixor, 1) := by decide +kernel
theorem dX8_step_25 : decode cX8_step 25 = .ok (.aload_n 0, 1) := by decide +kernel
theorem dX8_step_26 : decode cX8_step 26 = .ok (.getfield 16, 3) := by decide +kernel
theorem dX8_step_29 : decode cX8_step 29 = .ok (.bipush 6, 2) := by decide +kernel
theorem dX8_step_31 : decode cX8_step 31 = .ok (.iaload, 1) := by decide +kernel
theorem dX8_step_32 : decode cX8_step 32 = .ok (.iand, 1) := by decide +kernel
theorem dX8_step_33 : decode cX8_step 33 = .ok (.ixor, 1) := by decide +kernel
theorem dX8_step_34 : decode cX8_step 34 = .ok (.istore 4, 2) := by decide +kernel
theorem dX8_step_36 : decode cX8_step 36 = .ok (.iload_n 2, 1) := by decide +kernel
theorem dX8_step_37 : decode cX8_step 37 = .ok (.aload_n 0, 1) := by decide +kernel
theorem dX8_step_38 : decode cX8_step 38 = .ok (.getfield 16, 3) := by decide +kernel
theorem dX8_step_41 : decode cX8_step 41 = .ok (.iconst 1, 1) := by decide +kernel
theorem dX8_step_42 : decode cX8_step 42 = .ok (.iaload, 1) := by decide +kernel
theorem dX8_step_43 : decode cX8_step 43 = .ok (.iand, 1) := by decide +kernel
theorem dX8_step_44 : decode cX8_step 44 = .ok (.iload_n 2, 1) := by decide +kernel
theorem dX8_step_45 : decode cX8_step 45 = .ok (.aload_n 0, 1) := by decide +kernel
theorem dX8_step_46 : decode cX8_step 46 = .ok (.getfield 16, 3) := by decide +kernel
theorem dX8_step_49 : decode cX8_step 49 = .ok (.iconst 2, 1) := by decide +kernel
theorem dX8_step_50 : decode cX8_step 50 = .ok (.iaload, 1) := by decide +kernel
theorem dX8_step_51 : decode cX8_step 51 = .ok (.iand, 1) := by decide +kernel
theorem dX8_step_52 : decode cX8_step 52 = .ok (.ixor, 1) := by decide +kernel
theorem dX8_step_53 : decode cX8_step 53 = .ok (.aload_n 0, 1) := by decide +kernel
theorem dX8_step_54 : decode cX8_step 54 = .ok (.getfield 16, 3) := by decide +kernel
theorem dX8_step_57 : decode cX8_step 57 = .ok (.iconst 1, 1) := by decide +kernel
theorem dX8_step_58 : decode cX8_step 58 = .ok (.iaload, 1) := by decide +kernel
theorem dX8_step_59 : decode cX8_step 59 = .ok (.aload_n 0, 1) := by decide +kernel
theorem dX8_step_60 : decode cX8_step 60 = .ok (.getfield 16, 3) := by decide +kernel
theorem dX8_step_63 : decode cX8_step 63 = .ok (.iconst 2, 1) := by decide +kernel
theorem dX8_step_64 : decode cX8_step 64 = .ok (.iaload, 1) := by decide +kernel
theorem dX8_step_65 : decode cX8_step 65 = .ok (.iand, 1) := by decide +kernel
theorem dX8_step_66 : decode cX8_step 66 = .ok (.ixor, 1) := by decide +kernel
theorem dX8_step_67 : decode cX8_step 67 = .ok (.istore 5, 2) := by decide +kernel
theorem dX8_step_69 : decode cX8_step 69 = .ok (.iload_n 3, 1) := by decide +kernel
theorem dX8_step_70 : decode cX8_step 70 = .ok (.bipush 6, 2) := by decide +kernel
theorem dX8_step_72 : decode cX8_step 72 = .ok (.iushr, 1) := by decide +kernel
theorem dX8_step_73 : decode cX8_step 73 = .ok (.iload_n 3, 1) := by decide +kernel
theorem dX8_step_74 : decode cX8_step 74 = .ok (.bipush 26, 2) := by decide +kernel
theorem dX8_step_76 : decode cX8_step 76 = .ok (.ishl, 1) := by decide +kernel
theorem dX8_step_77 : decode cX8_step 77 = .ok (.ior, 1) := by decide +kernel
theorem dX8_step_78 : decode cX8_step 78 = .ok (.iload_n 3, 1) := by decide +kernel
theorem dX8_step_79 : decode cX8_step 79 = .ok (.bipush 11, 2) := by decide +kernel
theorem dX8_step_81 : decode cX8_step 81 = .ok (.iushr, 1) := by decide +kernel
theorem dX8_step_82 : decode cX8_step 82 = .ok (.iload_n 3, 1) := by decide +kernel
theorem dX8_step_83 : decode cX8_step 83 = .ok (.bipush 21, 2) := by decide +kernel
theorem dX8_step_85 : decode cX8_step 85 = .ok (.ishl, 1) := by decide +kernel
theorem dX8_step_86 : decode cX8_step 86 = .ok (.ior, 1) := by decide +kernel
theorem dX8_step_87 : decode cX8_step 87 = .ok (.ixor, 1) := by decide +kernel
theorem dX8_step_88 : decode cX8_step 88 = .ok (.iload_n 3, 1) := by decide +kernel
theorem dX8_step_89 : decode cX8_step 89 = .ok (.bipush 25, 2) := by decide +kernel
theorem dX8_step_91 : decode cX8_step 91 = .ok (.iushr, 1) := by decide +kernel
theorem dX8_step_92 : decode cX8_step 92 = .ok (.iload_n 3, 1) := by decide +kernel
theorem dX8_step_93 : decode cX8_step 93 = .ok (.bipush 7, 2) := by decide +kernel
theorem dX8_step_95 : decode cX8_step 95 = .ok (.ishl, 1) := by decide +kernel
theorem dX8_step_96 : decode cX8_step 96 = .ok (.ior, 1) := by decide +kernel
theorem dX8_step_97 : decode cX8_step 97 = .ok (.ixor, 1) := by decide +kernel
theorem dX8_step_98 : decode cX8_step 98 = .ok (.istore 6, 2) := by decide +kernel
theorem dX8_step_100 : decode cX8_step 100 = .ok (.iload_n 2, 1) := by decide +kernel
theorem dX8_step_101 : decode cX8_step 101 = .ok (.iconst 2, 1) := by decide +kernel
theorem dX8_step_102 : decode cX8_step 102 = .ok (.iushr, 1) := by decide +kernel
theorem dX8_step_103 : decode cX8_step 103 = .ok (.iload_n 2, 1) := by decide +kernel
theorem dX8_step_104 : decode cX8_step 104 = .ok (.bipush 30, 2) := by decide +kernel
theorem dX8_step_106 : decode cX8_step 106 = .ok (.ishl, 1) := by decide +kernel
theorem dX8_step_107 : decode cX8_step 107 = .ok (.ior, 1) := by decide +kernel
theorem dX8_step_108 : decode cX8_step 108 = .ok (.iload_n 2, 1) := by decide +kernel
theorem dX8_step_109 : decode cX8_step 109 = .ok (.bipush 13, 2) := by decide +kernel
theorem dX8_step_111 : decode cX8_step 111 = .ok (.iushr, 1) := by decide +kernel
theorem dX8_step_112 : decode cX8_step 112 = .ok (.iload_n 2, 1) := by decide +kernel
theorem dX8_step_113 : decode cX8_step 113 = .ok (.bipush 19, 2) := by decide +kernel
theorem dX8_step_115 : decode cX8_step 115 = .ok (.ishl, 1) := by decide +kernel
theorem dX8_step_116 : decode cX8_step 116 = .ok (.ior, 1) := by decide +kernel
theorem dX8_step_117 : decode cX8_step 117 = .ok (.ixor, 1) := by decide +kernel
theorem dX8_step_118 : decode cX8_step 118 = .ok (.iload_n 2, 1) := by decide +kernel
theorem dX8_step_119 : decode cX8_step 119 = .ok (.bipush 22, 2) := by decide +kernel
theorem dX8_step_121 : decode cX8_step 121 = .ok (.iushr, 1) := by decide +kernel
theorem dX8_step_122 : decode cX8_step 122 = .ok (.iload_n 2, 1) := by decide +kernel
theorem dX8_step_123 : decode cX8_step 123 = .ok (.bipush 10, 2) := by decide +kernel
theorem dX8_step_125 : decode cX8_step 125 = .ok (.ishl, 1) := by decide +kernel
theorem dX8_step_126 : decode cX8_step 126 = .ok (.ior, 1) := by decide +kernel
theorem dX8_step_127 : decode cX8_step 127 = .ok (.ixor, 1) := by decide +kernel
theorem dX8_step_128 : decode cX8_step 128 = .ok (.istore 7, 2) := by decide +kernel
theorem dX8_step_130 : decode cX8_step 130 = .ok (.aload_n 0, 1) := by decide +kernel
theorem dX8_step_131 : decode cX8_step 131 = .ok (.getfield 16, 3) := by decide +kernel
theorem dX8_step_134 : decode cX8_step 134 = .ok (.bipush 7, 2) := by decide +kernel
theorem dX8_step_136 : decode cX8_step 136 = .ok (.iaload, 1) := by decide +kernel
theorem dX8_step_137 : decode cX8_step 137 = .ok (.iload 6, 2) := by decide +kernel
theorem dX8_step_139 : decode cX8_step 139 = .ok (.iadd, 1) := by decide +kernel
theorem dX8_step_140 : decode cX8_step 140 = .ok (.iload 4, 2) := by decide +kernel
theorem dX8_step_142 : decode cX8_step 142 = .ok (.iadd, 1) := by decide +kernel
theorem dX8_step_143 : decode cX8_step 143 = .ok (.getstatic 51, 3) := by decide +kernel
theorem dX8_step_146 : decode cX8_step 146 = .ok (.iload_n 1, 1) := by decide +kernel
theorem dX8_step_147 : decode cX8_step 147 = .ok (.iaload, 1) := by decide +kernel
theorem dX8_step_148 : decode cX8_step 148 = .ok (.iadd, 1) := by decide +kernel
theorem dX8_step_149 : decode cX8_step 149 = .ok (.aload_n 0, 1) := by decide +kernel
theorem dX8_step_150 : decode cX8_step 150 = .ok (.getfield 7, 3) := by decide +kernel
theorem dX8_step_153 : decode cX8_step 153 = .ok (.iload_n 1, 1) := by decide +kernel
theorem dX8_step_154 : decode cX8_step 154 = .ok (.iaload, 1) := by decide +kernel
theorem dX8_step_155 : decode cX8_step 155 = .ok (.iadd, 1) := by decide +kernel
theorem dX8_step_156 : decode cX8_step 156 = .ok (.istore 8, 2) := by decide +kernel
theorem dX8_step_158 : decode cX8_step 158 = .ok (.bipush 7, 2) := by decide +kernel
theorem dX8_step_160 : decode cX8_step 160 = .ok (.istore 9, 2) := by decide +kernel
theorem dX8_step_162 : decode cX8_step 162 = .ok (.iload 9, 2) := by decide +kernel
theorem dX8_step_164 : decode cX8_step 164 = .ok (.ifCond .le 25, 3) := by decide +kernel
theorem dX8_step_167 : decode cX8_step 167 = .ok (.aload_n 0, 1) := by decide +kernel
theorem dX8_step_168 : decode cX8_step 168 = .ok (.getfield 16, 3) := by decide +kernel
theorem dX8_step_171 : decode cX8_step 171 = .ok (.iload 9, 2) := by decide +kernel
theorem dX8_step_173 : decode cX8_step 173 = .ok (.aload_n 0, 1) := by decide +kernel
theorem dX8_step_174 : decode cX8_step 174 = .ok (.getfield 16, 3) := by decide +kernel
theorem dX8_step_177 : decode cX8_step 177 = .ok (.iload 9, 2) := by decide +kernel
theorem dX8_step_179 : decode cX8_step 179 = .ok (.iconst 1, 1) := by decide +kernel
theorem dX8_step_180 : decode cX8_step 180 = .ok (.isub, 1) := by decide +kernel
theorem dX8_step_181 : decode cX8_step 181 = .ok (.iaload, 1) := by decide +kernel
theorem dX8_step_182 : decode cX8_step 182 = .ok (.iastore, 1) := by decide +kernel
theorem dX8_step_183 : decode cX8_step 183 = .ok (.iinc 9 (-1), 3) := by decide +kernel
theorem dX8_step_186 : decode cX8_step 186 = .ok (.goto (-24), 3) := by decide +kernel
theorem dX8_step_189 : decode cX8_step 189 = .ok (.aload_n 0, 1) := by decide +kernel
theorem dX8_step_190 : decode cX8_step 190 = .ok (.getfield 16, 3) := by decide +kernel
theorem dX8_step_193 : decode cX8_step 193 = .ok (.iconst 4, 1) := by decide +kernel
theorem dX8_step_194 : decode cX8_step 194 = .ok (.dup2, 1) := by decide +kernel
theorem dX8_step_195 : decode cX8_step 195 = .ok (.iaload, 1) := by decide +kernel
theorem dX8_step_196 : decode cX8_step 196 = .ok (.iload 8, 2) := by decide +kernel
theorem dX8_step_198 : decode cX8_step 198 = .ok (.iadd, 1) := by decide +kernel
theorem dX8_step_199 : decode cX8_step 199 = .ok (.iastore, 1) := by decide +kernel
theorem dX8_step_200 : decode cX8_step 200 = .ok (.aload_n 0, 1) := by decide +kernel
theorem dX8_step_201 : decode cX8_step 201 = .ok (.getfield 16, 3) := by decide +kernel
theorem dX8_step_204 : decode cX8_step 204 = .ok (.iconst 0, 1) := by decide +kernel
theorem dX8_step_205 : decode cX8_step 205 = .ok (.iload 8, 2) := by decide +kernel
theorem dX8_step_207 : decode cX8_step 207 = .ok (.iload 7, 2) := by decide +kernel
theorem dX8_step_209 : decode cX8_step 209 = .ok (.iadd, 1) := by decide +kernel
theorem dX8_step_210 : decode cX8_step 210 = .ok (.iload 5, 2) := by decide +kernel
theorem dX8_step_212 : decode cX8_step 212 = .ok (.iadd, 1) := by decide +kernel
theorem dX8_step_213 : decode cX8_step 213 = .ok (.iastore, 1) := by decide +kernel
theorem dX8_step_214 : decode cX8_step 214 = .ok (.return_, 1) := by decide +kernel
theorem dX8_sumOf_0 : decode cX8_sumOf 0 = .ok (.getstatic 19, 3) := by decide +kernel
theorem dX8_sumOf_3 : decode cX8_sumOf 3 = .ok (.iconst 0, 1) := by decide +kernel
theorem dX8_sumOf_4 : decode cX8_sumOf 4 = .ok (.aload_n 0, 1) := by decide +kernel
theorem dX8_sumOf_5 : decode cX8_sumOf 5 = .ok (.getfield 13, 3) := by decide +kernel
theorem dX8_sumOf_8 : decode cX8_sumOf 8 = .ok (.iconst 0, 1) := by decide +kernel
theorem dX8_sumOf_9 : decode cX8_sumOf 9 = .ok (.bipush 8, 2) := by decide +kernel
theorem dX8_sumOf_11 : decode cX8_sumOf 11 = .ok (.invokestatic 22, 3) := by decide +kernel
theorem dX8_sumOf_14 : decode cX8_sumOf 14 = .ok (.iload_n 2, 1) := by decide +kernel
theorem dX8_sumOf_15 : decode cX8_sumOf 15 = .ok (.bipush 9, 2) := by decide +kernel
theorem dX8_sumOf_17 : decode cX8_sumOf 17 = .ok (.iadd, 1) := by decide +kernel
theorem dX8_sumOf_18 : decode cX8_sumOf 18 = .ok (.bipush 63, 2) := by decide +kernel
theorem dX8_sumOf_20 : decode cX8_sumOf 20 = .ok (.iadd, 1) := by decide +kernel
theorem dX8_sumOf_21 : decode cX8_sumOf 21 = .ok (.bipush 64, 2) := by decide +kernel
theorem dX8_sumOf_23 : decode cX8_sumOf 23 = .ok (.idiv, 1) := by decide +kernel
theorem dX8_sumOf_24 : decode cX8_sumOf 24 = .ok (.istore 4, 2) := by decide +kernel
theorem dX8_sumOf_26 : decode cX8_sumOf 26 = .ok (.iconst 0, 1) := by decide +kernel
theorem dX8_sumOf_27 : decode cX8_sumOf 27 = .ok (.istore 5, 2) := by decide +kernel
theorem dX8_sumOf_29 : decode cX8_sumOf 29 = .ok (.iload 5, 2) := by decide +kernel
theorem dX8_sumOf_31 : decode cX8_sumOf 31 = .ok (.iload 4, 2) := by decide +kernel
theorem dX8_sumOf_33 : decode cX8_sumOf 33 = .ok (.if_icmp .ge 71, 3) := by decide +kernel
theorem dX8_sumOf_36 : decode cX8_sumOf 36 = .ok (.iconst 0, 1) := by decide +kernel
theorem dX8_sumOf_37 : decode cX8_sumOf 37 = .ok (.istore 6, 2) := by decide +kernel
theorem dX8_sumOf_39 : decode cX8_sumOf 39 = .ok (.iload 6, 2) := by decide +kernel
theorem dX8_sumOf_41 : decode cX8_sumOf 41 = .ok (.bipush 16, 2) := by decide +kernel
theorem dX8_sumOf_43 : decode cX8_sumOf 43 = .ok (.if_icmp .ge 31, 3) := by decide +kernel
theorem dX8_sumOf_46 : decode cX8_sumOf 46 = .ok (.aload_n 0, 1) := by decide +kernel
theorem dX8_sumOf_47 : decode cX8_sumOf 47 = .ok (.getfield 7, 3) := by decide +kernel
theorem dX8_sumOf_50 : decode cX8_sumOf 50 = .ok (.iload 6, 2) := by decide +kernel
theorem dX8_sumOf_52 : decode cX8_sumOf 52 = .ok (.aload_n 1, 1) := by decide +kernel
theorem dX8_sumOf_53 : decode cX8_sumOf 53 = .ok (.iload_n 2, 1) := by decide +kernel
theorem dX8_sumOf_54 : decode cX8_sumOf 54 = .ok (.iload 5, 2) := by decide +kernel
theorem dX8_sumOf_56 : decode cX8_sumOf 56 = .ok (.bipush 64, 2) := by decide +kernel
theorem dX8_sumOf_58 : decode cX8_sumOf 58 = .ok (.imul, 1) := by decide +kernel
theorem dX8_sumOf_59 : decode cX8_sumOf 59 = .ok (.iload 6, 2) := by decide +kernel
theorem dX8_sumOf_61 : decode cX8_sumOf 61 = .ok (.iconst 4, 1) := by decide +kernel
theorem dX8_sumOf_62 : decode cX8_sumOf 62 = .ok (.imul, 1) := by decide +kernel
theorem dX8_sumOf_63 : decode cX8_sumOf 63 = .ok (.iadd, 1) := by decide +kernel
theorem dX8_sumOf_64 : decode cX8_sumOf 64 = .ok (.invokestatic 28, 3) := by decide +kernel
theorem dX8_sumOf_67 : decode cX8_sumOf 67 = .ok (.iastore, 1) := by decide +kernel
theorem dX8_sumOf_68 : decode cX8_sumOf 68 = .ok (.iinc 6 1, 3) := by decide +kernel
theorem dX8_sumOf_71 : decode cX8_sumOf 71 = .ok (.goto (-32), 3) := by decide +kernel
theorem dX8_sumOf_74 : decode cX8_sumOf 74 = .ok (.iload 5, 2) := by decide +kernel
theorem dX8_sumOf_76 : decode cX8_sumOf 76 = .ok (.iload 4, 2) := by decide +kernel
theorem dX8_sumOf_78 : decode cX8_sumOf 78 = .ok (.iconst 1, 1) := by decide +kernel
theorem dX8_sumOf_79 : decode cX8_sumOf 79 = .ok (.isub, 1) := by decide +kernel
theorem dX8_sumOf_80 : decode cX8_sumOf 80 = .ok (.if_icmp .ne 14, 3) := by decide +kernel
theorem dX8_sumOf_83 : decode cX8_sumOf 83 = .ok (.aload_n 0, 1) := by decide +kernel
theorem dX8_sumOf_84 : decode cX8_sumOf 84 = .ok (.getfield 7, 3) := by decide +kernel
theorem dX8_sumOf_87 : decode cX8_sumOf 87 = .ok (.bipush 15, 2) := by decide +kernel
theorem dX8_sumOf_89 : decode cX8_sumOf 89 = .ok (.iload_n 2, 1) := by decide +kernel
theorem dX8_sumOf_90 : decode cX8_sumOf 90 = .ok (.bipush 8, 2) := by decide +kernel
theorem dX8_sumOf_92 : decode cX8_sumOf 92 = .ok (.imul, 1) := by decide +kernel
theorem dX8_sumOf_93 : decode cX8_sumOf 93 = .ok (.iastore, 1) := by decide +kernel
theorem dX8_sumOf_94 : decode cX8_sumOf 94 = .ok (.aload_n 0, 1) := by decide +kernel
theorem dX8_sumOf_95 : decode cX8_sumOf 95 = .ok (.invokevirtual 32, 3) := by decide +kernel
theorem dX8_sumOf_98 : decode cX8_sumOf 98 = .ok (.iinc 5 1, 3) := by decide +kernel
theorem dX8_sumOf_101 : decode cX8_sumOf 101 = .ok (.goto (-72), 3) := by decide +kernel
theorem dX8_sumOf_104 : decode cX8_sumOf 104 = .ok (.aload_n 3, 1) := by decide +kernel
theorem dX8_sumOf_105 : decode cX8_sumOf 105 = .ok (.invokevirtual 35, 3) := by decide +kernel
theorem dX8_sumOf_108 : decode cX8_sumOf 108 = .ok (.iconst 0, 1) := by decide +kernel
theorem dX8_sumOf_109 : decode cX8_sumOf 109 = .ok (.istore 5, 2) := by decide +kernel
theorem dX8_sumOf_111 : decode cX8_sumOf 111 = .ok (.iload 5, 2) := by decide +kernel
theorem dX8_sumOf_113 : decode cX8_sumOf 113 = .ok (.bipush 8, 2) := by decide +kernel
theorem dX8_sumOf_115 : decode cX8_sumOf 115 = .ok (.if_icmp .ge 20, 3) := by decide +kernel
theorem dX8_sumOf_118 : decode cX8_sumOf 118 = .ok (.aload_n 3, 1) := by decide +kernel
theorem dX8_sumOf_119 : decode cX8_sumOf 119 = .ok (.aload_n 0, 1) := by decide +kernel
theorem dX8_sumOf_120 : decode cX8_sumOf 120 = .ok (.getfield 13, 3) := by decide +kernel
theorem dX8_sumOf_123 : decode cX8_sumOf 123 = .ok (.iload 5, 2) := by decide +kernel
theorem dX8_sumOf_125 : decode cX8_sumOf 125 = .ok (.iaload, 1) := by decide +kernel
theorem dX8_sumOf_126 : decode cX8_sumOf 126 = .ok (.invokevirtual 40, 3) := by decide +kernel
theorem dX8_sumOf_129 : decode cX8_sumOf 129 = .ok (.iinc 5 1, 3) := by decide +kernel
theorem dX8_sumOf_132 : decode cX8_sumOf 132 = .ok (.goto (-21), 3) := by decide +kernel
theorem dX8_sumOf_135 : decode cX8_sumOf 135 = .ok (.return_, 1) := by decide +kernel
theorem dX8_wordAt_0 : decode cX8_wordAt 0 = .ok (.iconst 0, 1) := by decide +kernel
theorem dX8_wordAt_1 : decode cX8_wordAt 1 = .ok (.istore_n 3, 1) := by decide +kernel
theorem dX8_wordAt_2 : decode cX8_wordAt 2 = .ok (.iload_n 2, 1) := by decide +kernel
theorem dX8_wordAt_3 : decode cX8_wordAt 3 = .ok (.istore 4, 2) := by decide +kernel
theorem dX8_wordAt_5 : decode cX8_wordAt 5 = .ok (.iload 4, 2) := by decide +kernel
theorem dX8_wordAt_7 : decode cX8_wordAt 7 = .ok (.iload_n 2, 1) := by decide +kernel
theorem dX8_wordAt_8 : decode cX8_wordAt 8 = .ok (.iconst 4, 1) := by decide +kernel
theorem dX8_wordAt_9 : decode cX8_wordAt 9 = .ok (.iadd, 1) := by decide +kernel
theorem dX8_wordAt_10 : decode cX8_wordAt 10 = .ok (.if_icmp .ge 51, 3) := by decide +kernel
theorem dX8_wordAt_13 : decode cX8_wordAt 13 = .ok (.iload 4, 2) := by decide +kernel
theorem dX8_wordAt_15 : decode cX8_wordAt 15 = .ok (.iload_n 1, 1) := by decide +kernel
theorem dX8_wordAt_16 : decode cX8_wordAt 16 = .ok (.if_icmp .ge 16, 3) := by decide +kernel
theorem dX8_wordAt_19 : decode cX8_wordAt 19 = .ok (.aload_n 0, 1) := by decide +kernel
theorem dX8_wordAt_20 : decode cX8_wordAt 20 = .ok (.iload 4, 2) := by decide +kernel
theorem dX8_wordAt_22 : decode cX8_wordAt 22 = .ok (.invokevirtual 44, 3) := by decide +kernel
theorem dX8_wordAt_25 : decode cX8_wordAt 25 = .ok (.sipush 255, 3) := by decide +kernel
theorem dX8_wordAt_28 : decode cX8_wordAt 28 = .ok (.iand, 1) := by decide +kernel
theorem dX8_wordAt_29 : decode cX8_wordAt 29 = .ok (.goto 16, 3) := by decide +kernel
theorem dX8_wordAt_32 : decode cX8_wordAt 32 = .ok (.iload 4, 2) := by decide +kernel
theorem dX8_wordAt_34 : decode cX8_wordAt 34 = .ok (.iload_n 1, 1) := by decide +kernel
theorem dX8_wordAt_35 : decode cX8_wordAt 35 = .ok (.if_icmp .ne 9, 3) := by decide +kernel
theorem dX8_wordAt_38 : decode cX8_wordAt 38 = .ok (.sipush 128, 3) := by decide +kernel
theorem dX8_wordAt_41 : decode cX8_wordAt 41 = .ok (.goto 4, 3) := by decide +kernel
theorem dX8_wordAt_44 : decode cX8_wordAt 44 = .ok (.iconst 0, 1) := by decide +kernel
theorem dX8_wordAt_45 : decode cX8_wordAt 45 = .ok (.istore 5, 2) := by decide +kernel
theorem dX8_wordAt_47 : decode cX8_wordAt 47 = .ok (.iload_n 3, 1) := by decide +kernel
theorem dX8_wordAt_48 : decode cX8_wordAt 48 = .ok (.bipush 8, 2) := by decide +kernel
theorem dX8_wordAt_50 : decode cX8_wordAt 50 = .ok (.ishl, 1) := by decide +kernel
theorem dX8_wordAt_51 : decode cX8_wordAt 51 = .ok (.iload 5, 2) := by decide +kernel
theorem dX8_wordAt_53 : decode cX8_wordAt 53 = .ok (.ior, 1) := by decide +kernel
theorem dX8_wordAt_54 : decode cX8_wordAt 54 = .ok (.istore_n 3, 1) := by decide +kernel
theorem dX8_wordAt_55 : decode cX8_wordAt 55 = .ok (.iinc 4 1, 3) := by decide +kernel
theorem dX8_wordAt_58 : decode cX8_wordAt 58 = .ok (.goto (-53), 3) := by decide +kernel
theorem dX8_wordAt_61 : decode cX8_wordAt 61 = .ok (.iload_n 3, 1) := by decide +kernel
theorem dX8_wordAt_62 : decode cX8_wordAt 62 = .ok (.ireturn, 1) := by decide +kernel
theorem kt_240 : Cond.fieldLink RX8 51 "PostGate$Sha" "FACTORS" "[I" ∈ tb := tb_at (i := 1008) (by decide +kernel) (by decide +kernel)
theorem kt_241 : Cond.methodLink RX8 22 arraycopyName ∈ tb := tb_at (i := 995) (by decide +kernel) (by decide +kernel)
theorem kt_242 : Cond.native arraycopyName ∈ tb := tb_at (i := 550) (by decide +kernel) (by decide +kernel)
theorem kt_243 : Cond.static arraycopyName ∈ tb := tb_at (i := 549) (by decide +kernel) (by decide +kernel)
theorem kt_244 : Cond.initialized "java/lang/System" ∈ tb := tb_at (i := 98) (by decide +kernel) (by decide +kernel)
theorem kt_245 : Cond.code yX8_step cX8_step 10 none ∈ tb := tb_at (i := 1007) (by decide +kernel) (by decide +kernel)
theorem kt_246 : Cond.methodLink RX8 48 yX8_step ∈ tb := tb_at (i := 1004) (by decide +kernel) (by decide +kernel)
theorem kt_247 : Cond.instanceMethod yX8_step ∈ tb := tb_at (i := 1006) (by decide +kernel) (by decide +kernel)
theorem kt_248 : Cond.selects RX8 yX8_step yX8_step ∈ tb := tb_at (i := 26) (by decide +kernel) (by decide +kernel)
theorem kt_249 : Cond.fieldLink RX8 19 "PostGate$Sha" "BEGINNING" "[I" ∈ tb := tb_at (i := 993) (by decide +kernel) (by decide +kernel)
theorem kt_250 : Cond.code yX8_mix cX8_mix 6 none ∈ tb := tb_at (i := 1003) (by decide +kernel) (by decide +kernel)
theorem kt_251 : Cond.methodLink RX8 32 yX8_mix ∈ tb := tb_at (i := 1000) (by decide +kernel) (by decide +kernel)
theorem kt_252 : Cond.instanceMethod yX8_mix ∈ tb := tb_at (i := 1002) (by decide +kernel) (by decide +kernel)
theorem kt_253 : Cond.selects RX8 yX8_mix yX8_mix ∈ tb := tb_at (i := 25) (by decide +kernel) (by decide +kernel)
theorem kt_254 : Cond.methodLink RX8 35 yX0_clear ∈ tb := tb_at (i := 1010) (by decide +kernel) (by decide +kernel)
theorem kt_255 : Cond.methodLink RX8 40 yX0_addFour ∈ tb := tb_at (i := 1011) (by decide +kernel) (by decide +kernel)
theorem kt_256 : Cond.code yX8_wordAt cX8_wordAt 6 (some .int) ∈ tb := tb_at (i := 998) (by decide +kernel) (by decide +kernel)
theorem kt_257 : Cond.methodLink RX8 28 yX8_wordAt ∈ tb := tb_at (i := 996) (by decide +kernel) (by decide +kernel)
theorem kt_258 : Cond.static yX8_wordAt ∈ tb := tb_at (i := 997) (by decide +kernel) (by decide +kernel)
theorem kt_259 : Cond.code yX8_sumOf cX8_sumOf 7 none ∈ tb := tb_at (i := 992) (by decide +kernel) (by decide +kernel)
theorem kt_260 : Cond.methodLink RX11 173 yX8_sumOf ∈ tb := tb_at (i := 1189) (by decide +kernel) (by decide +kernel)
theorem kt_261 : Cond.instanceMethod yX8_sumOf ∈ tb := tb_at (i := 990) (by decide +kernel) (by decide +kernel)
theorem kt_262 : Cond.selects RX8 yX8_sumOf yX8_sumOf ∈ tb := tb_at (i := 991) (by decide +kernel) (by decide +kernel)
section
variable {p : Program} {l : Launch} {e : Env} {R : Room} {s : State} {m : MethodId} {args : Array Value} {below : List Frame} {meth : Method} {c : Code} {H : Heap} {locs : List Loc} {cells slots : Nat} {Q : State → Prop}
/-- arraycopy out of a static table of ints (the kit has this row for bytes, vk_copyt; turned to ints) -/
theorem cp_ti {cc : ByteArray} {pc : Nat} {ls : Array Slot} {rest : List Value} {A : Nat → Prop} {D : va_G} {cl : List vw_C} {tys : List (ClassId × FieldType)} {ws : va_W} {a : Nat} (hexec : p.tables.exec = Jvm.exec) (hb : c.code = cc) (hml : c.maxLocals = ls.size) {own : String} {index : Nat} (hown : s.vm.findClass own = some m.cls) (hlink : (Cond.methodLink own index arraycopyName).before args s = true) (hnat : (Cond.native arraycopyName).before args s = true) (hstat : (Cond.static arraycopyName).before args s = true) (hini : (Cond.initialized "java/lang/System").before args s = true)
    (hK : va_K D cl tys s) (hP : va_P D cl ws H) (hD : va_D A ws) (hS : va_S A s.heap H locs) {b0 n0 : Nat} {f : Nat → Int32} (hX : va_T .int b0 n0 (fun j => .int (f j)) A s s.heap) (q1 t1 : Nat) {c1 : ClassId} {n1 : Nat} {g : Nat → Int32} (ha1 : ws[q1]? = some (a, .inl (c1, n1, .inl g))) (ht1 : tys[t1]? = some (c1, .int))
    {sp dp n : Int32} (h1 : ¬ sp < 0) (h2 : ¬ dp < 0) (h3 : ¬ n < 0) (h4 : sp.toNatClampNeg + n.toNatClampNeg ≤ n0) (h5 : dp.toNatClampNeg + n.toNatClampNeg ≤ n1)
    (hframes : 1 ≤ R.frames) (hlocals : (rest.map fun v => v.category).sum + (nativeFrameWords "java/lang/System" "arraycopy" 5 + 11) ≤ R.locals) (hdg : decode cc pc = .ok (.invokestatic index, 3))
    (kk : ∀ (H1 : Heap) (locs1 : List Loc), va_P D cl (ws.set q1 (a, .inl (c1, n1, .inl (va_cpy f g sp.toNatClampNeg dp.toNatClampNeg n.toNatClampNeg)))) H1 → va_D A (ws.set q1 (a, .inl (c1, n1, .inl (va_cpy f g sp.toNatClampNeg dp.toNatClampNeg n.toNatClampNeg)))) → va_S A s.heap H1 locs1 → W p l e R s m args below meth c H1 locs1 cells slots Q (F0 m (pc + 3) ls rest)) : W p l e R s m args below meth c H locs cells slots Q (F0 m pc ls (.int n :: .int dp :: .ref a :: .int sp :: .ref b0 :: rest)) := by
  have nn : ∀ z : Int32, ¬ z < 0 → z.toInt = (z.toNatClampNeg : Int) := by
    intro z hz
    obtain ⟨j, hj, rfl⟩ := nI_of hz
    rw [nI_toInt hj, nI_clamp hj]
  intro T hT X
  obtain ⟨scr, hs1, hs2, hs3, hs4, -, hs5, hs7⟩ := hX
  have hc0 : H[b0]? = some scr := by rw [hS.2.1 b0 (Array.getElem?_eq_some_iff.mp hs1).1 hs7]; exact hs1
  have hc1 : H[a]? = some (vp_cell c1 (n1, .inl g)) := hP q1 _ ha1
  obtain ⟨hs6, k0, hk0, cm0, hkk0⟩ := hs2
  obtain ⟨-, k1, hk1, cm1, hkk1⟩ := (hK.2 t1 _ ht1).1 n1 (fun j => .int (g j))
  obtain ⟨vm', X', step⟩ := X.arraycopy hexec hown hlink hnat hstat hini (src := b0) (dst := a) (cs := scr) (cd := vp_cell c1 (n1, .inl g)) (srcPos := sp) (destPos := dp) (n := n) (by rw [hT]; exact hc0) (by rw [hT]; exact hc1)
    hs6 (fun _ h => by cases h) hs3 (fun h => by cases h) hk0 hk1 hkk0 hkk1 (by simp [refKind]) h1 h2 h3
    (by rw [nn sp h1, nn n h3]; omega)
    (by rw [nn dp h2, nn n h3]; show ¬ _ > ((arrV c1 n1 (fun j => .int (g j))).slots.size : Int); rw [arrV_size]; omega)
    (fun vm₁ _ i hi => by
      have e : scr.slots.getD (sp.toNatClampNeg + i) .null = .int (f (sp.toNatClampNeg + i)) := by
        rw [Array.getD_eq_getD_getElem?, hs5 _ (by omega)]
        rfl
      refine ⟨?_, ?_⟩
      · rw [e]
        rfl
      · rw [e]
        exact trivial)
    (g := F0 m pc ls (.int n :: .int dp :: .ref a :: .int sp :: .ref b0 :: rest)) rfl (by rw [hml]) (rest := rest) rfl (by rw [hb]; exact hdg) hframes (by show 2 * 0 + _ + _ ≤ _; omega)
  have e1 : copied scr (vp_cell c1 (n1, .inl g)) sp dp n = vp_cell c1 (n1, .inl (va_cpy f g sp.toNatClampNeg dp.toNatClampNeg n.toNatClampNeg)) := va_copiedX (fun z => .int z) scr c1 f g hs5 h4
  rw [e1] at X' step
  have hl : a < H.size := (Array.getElem?_eq_some_iff.mp hc1).1
  have hheap : ((T.setVm vm').setCell a (vp_cell c1 (n1, .inl (va_cpy f g sp.toNatClampNeg dp.toNatClampNeg n.toNatClampNeg)))).heap = H.setIfInBounds a (vp_cell c1 (n1, .inl (va_cpy f g sp.toNatClampNeg dp.toNatClampNeg n.toNatClampNeg))) := by rw [← hT]; rfl
  have oq : ∀ q : Nat, q ≠ a → (H.setIfInBounds a (vp_cell c1 (n1, .inl (va_cpy f g sp.toNatClampNeg dp.toNatClampNeg n.toNatClampNeg))))[q]? = H[q]? := fun q hq => by simp [Array.getElem?_setIfInBounds, Ne.symm hq]
  obtain ⟨t, a1, b1⟩ := kk _ _ (hP.set hD ha1 (show (H.setIfInBounds a _)[a]? = some _ by simp [Array.getElem?_setIfInBounds, hl]) oq) (hD.set ha1) ⟨by simp; exact hS.1, fun q g1 g2 => by
      rw [oq q (fun e => g2 (by rw [e]; exact hD.2 q1 _ ha1))]
      exact hS.2.1 q g1 g2, fun q hq => by
      rcases List.mem_append.mp hq with h | h
      · exact hS.2.2 q h
      · obtain ⟨z, -, hz⟩ := List.mem_map.mp h
        rw [← hz]
        exact hD.2 q1 _ ha1⟩ _ hheap X'
  exact ⟨t, step t a1, b1⟩
end
set_option maxHeartbeats 4000000 in
set_option maxRecDepth 100000 in
theorem c_X8_step (l : Launch) (dC : Nat → ClassId) (dI : Nat → Nat → Nat) (sz : Nat) (h0 : Nat) (qw : Nat) (qs : Nat) (qt : Nat) (i : Nat) (cw : ClassId) (ct : ClassId) (f : Nat → Int32) (k : Nat → Int32) (hi : i < 64) : Met l yX8_step (.code yX8_step cX8_step 10 none :: tb) ({ frames := 0, cells := 0, slots := 0, locals := 0 }) (va_Pc [.ref h0, .int (nI i)] (PWS (dC, dI) sz [(h0, .inr (8, [.ref qw, .ref qs, .ref qt])), (qw, .inl (cw, 64, .inl f)), (qt, .inl (ct, 8, .inl k))] [(cw, .int), (ct, .int)])) (va_Qv (fun _ : Unit => True) (fun _ T9 => ∃ (k2 : Nat → Int32), QW (dC, dI) (va_A [(h0, .inr (8, [.ref qw, .ref qs, .ref qt])), (qw, .inl (cw, 64, .inl f)), (qt, .inl (ct, 8, .inl k))] sz) [(h0, .inr (8, [.ref qw, .ref qs, .ref qt])), (qw, .inl (cw, 64, .inl f)), (qt, .inl (ct, 8, .inl k2))] [(cw, .int), (ct, .int)] T9) (va_A [(h0, .inr (8, [.ref qw, .ref qs, .ref qt])), (qw, .inl (cw, 64, .inl f)), (qt, .inl (ct, 8, .inl k))] sz)) 0 0 (va_A [(h0, .inr (8, [.ref qw, .ref qs, .ref qt])), (qw, .inl (cw, 64, .inl f)), (qt, .inl (ct, 8, .inl k))] sz) := by
  refine Met.ofW (cc := cX8_step) (maxL := 10) (ret := none) (by decide) rfl ?_
  intro p e s m args below meth c s₁ B hml hv
  obtain ⟨rfl, ⟨hsz, hP, hK, hD0, hE⟩, hZ⟩ := hv
  have hx := B.exec
  have hb := B.bytes
  have hr := B.returns
  have hts : ∀ w ∈ tb, w.before _ s = true := fun w h => atoms_spec (ws := .code yX8_step cX8_step 10 none :: tb) B.pre w (List.mem_cons_of_mem _ h)
  have hown : s.vm.findClass RX8 = some m.cls := findClass_of_methodNamed B.named
  have hlocks := B.notSynchronized
  subst hsz
  have hD := hD0.self (sz := s.heap.size)
  generalize hAe : va_A [(h0, .inr (8, [.ref qw, .ref qs, .ref qt])), (qw, .inl (cw, 64, .inl f)), (qt, .inl (ct, 8, .inl k))] s.heap.size = A at hD hZ ⊢
  obtain ⟨aB, aF, fB, fF, zB, tB, zF, tF⟩ := id hZ
  have hA : ∀ q : Nat, s.heap.size ≤ q → A q := fun q h => by rw [← hAe]; exact Or.inr h
  have hS : va_S A s.heap s.heap [] := va_S.rf
  have hP : va_P (dC, dI) vwCl [(h0, .inr (8, [.ref qw, .ref qs, .ref qt])), (qw, .inl (cw, 64, .inl f)), (qt, .inl (ct, 8, .inl k))] s.heap := hP
  have hl := lv_entry ([.ref h0, .int (nI i)]) (n := 10) (Nat.le_of_ble_eq_true rfl)
  rw [lg_entry_eq]
  generalize (lg_sl ([.ref h0, .int (nI i)]) ++ List.replicate (10 - (lg_sl ([.ref h0, .int (nI i)])).length) Slot.unset).toArray = ls at hl ⊢
  have hl : lv_has ls 10 [(0, .ref h0), (1, .int (nI i))] := hl
  refine lv_aload_n hx hb dX8_step_0 rfl (lv_at hl 0 rfl) ?_
  refine va_get (D := (dC, dI)) (ci := 8) (v := .ref qt) (C := RX8) (T := TX8) (N := 3) hx hb hts it_8 hown hK hP 0 rfl rfl 2 (by decide) (hts _ kt_36) (fun _ h9 => h9) rfl dX8_step_1 ?_
  refine lv_iconst (v := 0) hx hb dX8_step_4 (by decide) ?_
  refine va_iald hx hb hK hP 2 1 rfl rfl (show vp_in (0 : Int32) 8 from (show vp_in (nI 0) 8 from vp_in_nI (by omega) (by omega))) dX8_step_5 ?_
  refine lv_topi (fun x_1 _ => ?_)
  refine lv_istore_n (lv' := [(2, .int x_1), (0, .ref h0), (1, .int (nI i))]) hx hb dX8_step_6 rfl hl (by decide) rfl (fun ls hl => ?_)
  refine lv_aload_n hx hb dX8_step_7 rfl (lv_at hl 1 rfl) ?_
  refine va_get (D := (dC, dI)) (ci := 8) (v := .ref qt) (C := RX8) (T := TX8) (N := 3) hx hb hts it_8 hown hK hP 0 rfl rfl 2 (by decide) (hts _ kt_36) (fun _ h9 => h9) rfl dX8_step_8 ?_
  refine lv_iconst (v := 4) hx hb dX8_step_11 (by decide) ?_
  refine va_iald hx hb hK hP 2 1 rfl rfl (show vp_in (4 : Int32) 8 from (show vp_in (nI 4) 8 from vp_in_nI (by omega) (by omega))) dX8_step_12 ?_
  refine lv_topi (fun x_2 _ => ?_)
  refine lv_istore_n (lv' := [(3, .int x_2), (2, .int x_1), (0, .ref h0), (1, .int (nI i))]) hx hb dX8_step_13 rfl hl (by decide) rfl (fun ls hl => ?_)
  refine lv_iload_n hx hb dX8_step_14 rfl (lv_at hl 0 rfl) ?_
  refine lv_aload_n hx hb dX8_step_15 rfl (lv_at hl 2 rfl) ?_
  refine va_get (D := (dC, dI)) (ci := 8) (v := .ref qt) (C := RX8) (T := TX8) (N := 3) hx hb hts it_8 hown hK hP 0 rfl rfl 2 (by decide) (hts _ kt_36) (fun _ h9 => h9) rfl dX8_step_16 ?_
  refine lv_iconst (v := 5) hx hb dX8_step_19 (by decide) ?_
  refine va_iald hx hb hK hP 2 1 rfl rfl (show vp_in (5 : Int32) 8 from (show vp_in (nI 5) 8 from vp_in_nI (by omega) (by omega))) dX8_step_20 ?_
  refine lv_topi (fun x_3 _ => ?_)
  refine lv_iand hx hb dX8_step_21 ?_
  refine lv_topi (fun x_4 _ => ?_)
  refine lv_iload_n hx hb dX8_step_22 rfl (lv_at hl 0 rfl) ?_
  refine lv_iconst (v := (-1)) hx hb dX8_step_23 (by decide) ?_
  refine lv_ixor hx hb dX8_step_24 ?_
  refine lv_topi (fun x_5 _ => ?_)
  refine lv_aload_n hx hb dX8_step_25 rfl (lv_at hl 2 rfl) ?_
  refine va_get (D := (dC, dI)) (ci := 8) (v := .ref qt) (C := RX8) (T := TX8) (N := 3) hx hb hts it_8 hown hK hP 0 rfl rfl 2 (by decide) (hts _ kt_36) (fun _ h9 => h9) rfl dX8_step_26 ?_
  refine lv_bipush (v := 6) hx hb dX8_step_29 (by decide) ?_
  refine va_iald hx hb hK hP 2 1 rfl rfl (show vp_in (6 : Int32) 8 from (show vp_in (nI 6) 8 from vp_in_nI (by omega) (by omega))) dX8_step_31 ?_
  refine lv_topi (fun x_6 _ => ?_)
  refine lv_iand hx hb dX8_step_32 ?_
  refine lv_topi (fun x_7 _ => ?_)
  refine lv_ixor hx hb dX8_step_33 ?_
  refine lv_topi (fun x_8 _ => ?_)
  refine lv_istore (lv' := [(4, .int x_8), (3, .int x_2), (2, .int x_1), (0, .ref h0), (1, .int (nI i))]) hx hb dX8_step_34 hl (by decide) rfl (fun ls hl => ?_)
  refine lv_iload_n hx hb dX8_step_36 rfl (lv_at hl 2 rfl) ?_
  refine lv_aload_n hx hb dX8_step_37 rfl (lv_at hl 3 rfl) ?_
  refine va_get (D := (dC, dI)) (ci := 8) (v := .ref qt) (C := RX8) (T := TX8) (N := 3) hx hb hts it_8 hown hK hP 0 rfl rfl 2 (by decide) (hts _ kt_36) (fun _ h9 => h9) rfl dX8_step_38 ?_
  refine lv_iconst (v := 1) hx hb dX8_step_41 (by decide) ?_
  refine va_iald hx hb hK hP 2 1 rfl rfl (show vp_in (1 : Int32) 8 from (show vp_in (nI 1) 8 from vp_in_nI (by omega) (by omega))) dX8_step_42 ?_
  refine lv_topi (fun x_9 _ => ?_)
  refine lv_iand hx hb dX8_step_43 ?_
  refine lv_topi (fun x_10 _ => ?_)
  refine lv_iload_n hx hb dX8_step_44 rfl (lv_at hl 2 rfl) ?_
  refine lv_aload_n hx hb dX8_step_45 rfl (lv_at hl 3 rfl) ?_
  refine va_get (D := (dC, dI)) (ci := 8) (v := .ref qt) (C := RX8) (T := TX8) (N := 3) hx hb hts it_8 hown hK hP 0 rfl rfl 2 (by decide) (hts _ kt_36) (fun _ h9 => h9) rfl dX8_step_46 ?_
  refine lv_iconst (v := 2) hx hb dX8_step_49 (by decide) ?_
  refine va_iald hx hb hK hP 2 1 rfl rfl (show vp_in (2 : Int32) 8 from (show vp_in (nI 2) 8 from vp_in_nI (by omega) (by omega))) dX8_step_50 ?_
  refine lv_topi (fun x_11 _ => ?_)
  refine lv_iand hx hb dX8_step_51 ?_
  refine lv_topi (fun x_12 _ => ?_)
  refine lv_ixor hx hb dX8_step_52 ?_
  refine lv_topi (fun x_13 _ => ?_)
  refine lv_aload_n hx hb dX8_step_53 rfl (lv_at hl 3 rfl) ?_
  refine va_get (D := (dC, dI)) (ci := 8) (v := .ref qt) (C := RX8) (T := TX8) (N := 3) hx hb hts it_8 hown hK hP 0 rfl rfl 2 (by decide) (hts _ kt_36) (fun _ h9 => h9) rfl dX8_step_54 ?_
  refine lv_iconst (v := 1) hx hb dX8_step_57 (by decide) ?_
  refine va_iald hx hb hK hP 2 1 rfl rfl (show vp_in (1 : Int32) 8 from (show vp_in (nI 1) 8 from vp_in_nI (by omega) (by omega))) dX8_step_58 ?_
  refine lv_topi (fun x_14 _ => ?_)
  refine lv_aload_n hx hb dX8_step_59 rfl (lv_at hl 3 rfl) ?_
  refine va_get (D := (dC, dI)) (ci := 8) (v := .ref qt) (C := RX8) (T := TX8) (N := 3) hx hb hts it_8 hown hK hP 0 rfl rfl 2 (by decide) (hts _ kt_36) (fun _ h9 => h9) rfl dX8_step_60 ?_
  refine lv_iconst (v := 2) hx hb dX8_step_63 (by decide) ?_
  refine va_iald hx hb hK hP 2 1 rfl rfl (show vp_in (2 : Int32) 8 from (show vp_in (nI 2) 8 from vp_in_nI (by omega) (by omega))) dX8_step_64 ?_
  refine lv_topi (fun x_15 _ => ?_)
  refine lv_iand hx hb dX8_step_65 ?_
  refine lv_topi (fun x_16 _ => ?_)
  refine lv_ixor hx hb dX8_step_66 ?_
  refine lv_topi (fun x_17 _ => ?_)
  refine lv_istore (lv' := [(5, .int x_17), (4, .int x_8), (3, .int x_2), (2, .int x_1), (0, .ref h0), (1, .int (nI i))]) hx hb dX8_step_67 hl (by decide) rfl (fun ls hl => ?_)
  refine lv_iload_n hx hb dX8_step_69 rfl (lv_at hl 2 rfl) ?_
  refine lv_bipush (v := 6) hx hb dX8_step_70 (by decide) ?_
  refine lv_iushr hx hb dX8_step_72 rfl ?_
  refine lv_topi (fun x_19 _ => ?_)
  refine lv_iload_n hx hb dX8_step_73 rfl (lv_at hl 2 rfl) ?_
  refine lv_bipush (v := 26) hx hb dX8_step_74 (by decide) ?_
  refine lv_ishl hx hb dX8_step_76 ?_
  refine lv_topi (fun x_20 _ => ?_)
  refine lv_ior hx hb dX8_step_77 ?_
  refine lv_topi (fun x_21 _ => ?_)
  refine lv_iload_n hx hb dX8_step_78 rfl (lv_at hl 2 rfl) ?_
  refine lv_bipush (v := 11) hx hb dX8_step_79 (by decide) ?_
  refine lv_iushr hx hb dX8_step_81 rfl ?_
  refine lv_topi (fun x_23 _ => ?_)
  refine lv_iload_n hx hb dX8_step_82 rfl (lv_at hl 2 rfl) ?_
  refine lv_bipush (v := 21) hx hb dX8_step_83 (by decide) ?_
  refine lv_ishl hx hb dX8_step_85 ?_
  refine lv_topi (fun x_24 _ => ?_)
  refine lv_ior hx hb dX8_step_86 ?_
  refine lv_topi (fun x_25 _ => ?_)
  refine lv_ixor hx hb dX8_step_87 ?_
  refine lv_topi (fun x_26 _ => ?_)
  refine lv_iload_n hx hb dX8_step_88 rfl (lv_at hl 2 rfl) ?_
  refine lv_bipush (v := 25) hx hb dX8_step_89 (by decide) ?_
  refine lv_iushr hx hb dX8_step_91 rfl ?_
  refine lv_topi (fun x_28 _ => ?_)
  refine lv_iload_n hx hb dX8_step_92 rfl (lv_at hl 2 rfl) ?_
  refine lv_bipush (v := 7) hx hb dX8_step_93 (by decide) ?_
  refine lv_ishl hx hb dX8_step_95 ?_
  refine lv_topi (fun x_29 _ => ?_)
  refine lv_ior hx hb dX8_step_96 ?_
  refine lv_topi (fun x_30 _ => ?_)
  refine lv_ixor hx hb dX8_step_97 ?_
  refine lv_topi (fun x_31 _ => ?_)
  refine lv_istore (lv' := [(6, .int x_31), (5, .int x_17), (4, .int x_8), (3, .int x_2), (2, .int x_1), (0, .ref h0), (1, .int (nI i))]) hx hb dX8_step_98 hl (by decide) rfl (fun ls hl => ?_)
  refine lv_iload_n hx hb dX8_step_100 rfl (lv_at hl 4 rfl) ?_
  refine lv_iconst (v := 2) hx hb dX8_step_101 (by decide) ?_
  refine lv_iushr hx hb dX8_step_102 rfl ?_
  refine lv_topi (fun x_33 _ => ?_)
  refine lv_iload_n hx hb dX8_step_103 rfl (lv_at hl 4 rfl) ?_
  refine lv_bipush (v := 30) hx hb dX8_step_104 (by decide) ?_
  refine lv_ishl hx hb dX8_step_106 ?_
  refine lv_topi (fun x_34 _ => ?_)
  refine lv_ior hx hb dX8_step_107 ?_
  refine lv_topi (fun x_35 _ => ?_)
  refine lv_iload_n hx hb dX8_step_108 rfl (lv_at hl 4 rfl) ?_
  refine lv_bipush (v := 13) hx hb dX8_step_109 (by decide) ?_
  refine lv_iushr hx hb dX8_step_111 rfl ?_
  refine lv_topi (fun x_37 _ => ?_)
  refine lv_iload_n hx hb dX8_step_112 rfl (lv_at hl 4 rfl) ?_
  refine lv_bipush (v := 19) hx hb dX8_step_113 (by decide) ?_
  refine lv_ishl hx hb dX8_step_115 ?_
  refine lv_topi (fun x_38 _ => ?_)
  refine lv_ior hx hb dX8_step_116 ?_
  refine lv_topi (fun x_39 _ => ?_)
  refine lv_ixor hx hb dX8_step_117 ?_
  refine lv_topi (fun x_40 _ => ?_)
  refine lv_iload_n hx hb dX8_step_118 rfl (lv_at hl 4 rfl) ?_
  refine lv_bipush (v := 22) hx hb dX8_step_119 (by decide) ?_
  refine lv_iushr hx hb dX8_step_121 rfl ?_
  refine lv_topi (fun x_42 _ => ?_)
  refine lv_iload_n hx hb dX8_step_122 rfl (lv_at hl 4 rfl) ?_
  refine lv_bipush (v := 10) hx hb dX8_step_123 (by decide) ?_
  refine lv_ishl hx hb dX8_step_125 ?_
  refine lv_topi (fun x_43 _ => ?_)
  refine lv_ior hx hb dX8_step_126 ?_
  refine lv_topi (fun x_44 _ => ?_)
  refine lv_ixor hx hb dX8_step_127 ?_
  refine lv_topi (fun x_45 _ => ?_)
  refine lv_istore (lv' := [(7, .int x_45), (6, .int x_31), (5, .int x_17), (4, .int x_8), (3, .int x_2), (2, .int x_1), (0, .ref h0), (1, .int (nI i))]) hx hb dX8_step_128 hl (by decide) rfl (fun ls hl => ?_)
  refine lv_aload_n hx hb dX8_step_130 rfl (lv_at hl 6 rfl) ?_
  refine va_get (D := (dC, dI)) (ci := 8) (v := .ref qt) (C := RX8) (T := TX8) (N := 3) hx hb hts it_8 hown hK hP 0 rfl rfl 2 (by decide) (hts _ kt_36) (fun _ h9 => h9) rfl dX8_step_131 ?_
  refine lv_bipush (v := 7) hx hb dX8_step_134 (by decide) ?_
  refine va_iald hx hb hK hP 2 1 rfl rfl (show vp_in (7 : Int32) 8 from (show vp_in (nI 7) 8 from vp_in_nI (by omega) (by omega))) dX8_step_136 ?_
  refine lv_topi (fun x_46 _ => ?_)
  refine lv_iload hx hb dX8_step_137 (lv_at hl 1 rfl) ?_
  refine lv_iadd hx hb dX8_step_139 ?_
  refine lv_topi (fun x_47 _ => ?_)
  refine lv_iload hx hb dX8_step_140 (lv_at hl 3 rfl) ?_
  refine lv_iadd hx hb dX8_step_142 ?_
  refine lv_topi (fun x_48 _ => ?_)
  refine va_gets hx hb zF hS hown (hts _ kt_240) (fun _ h9 => h9) dX8_step_143 ?_
  refine lv_iload_n hx hb dX8_step_146 rfl (lv_at hl 7 rfl) ?_
  refine va_ti hx hb tF hS (vp_in_nI (by omega) (by omega)) rfl dX8_step_147 ?_
  refine lv_topi (fun x_49 _ => ?_)
  refine lv_iadd hx hb dX8_step_148 ?_
  refine lv_topi (fun x_50 _ => ?_)
  refine lv_aload_n hx hb dX8_step_149 rfl (lv_at hl 6 rfl) ?_
  refine va_get (D := (dC, dI)) (ci := 8) (v := .ref qw) (C := RX8) (T := TX8) (N := 3) hx hb hts it_8 hown hK hP 0 rfl rfl 0 (by decide) (hts _ kt_34) (fun _ h9 => h9) rfl dX8_step_150 ?_
  refine lv_iload_n hx hb dX8_step_153 rfl (lv_at hl 7 rfl) ?_
  refine va_iald hx hb hK hP 1 0 rfl rfl (vp_in_nI (by omega) (by omega)) dX8_step_154 ?_
  refine lv_topi (fun x_51 _ => ?_)
  refine lv_iadd hx hb dX8_step_155 ?_
  refine lv_topi (fun x_52 _ => ?_)
  refine lv_istore (lv' := [(8, .int x_52), (7, .int x_45), (6, .int x_31), (5, .int x_17), (4, .int x_8), (3, .int x_2), (2, .int x_1), (0, .ref h0), (1, .int (nI i))]) hx hb dX8_step_156 hl (by decide) rfl (fun ls hl => ?_)
  refine lv_bipush (v := 7) hx hb dX8_step_158 (by decide) ?_
  refine lv_istore (lv' := [(9, .int 7), (8, .int x_52), (7, .int x_45), (6, .int x_31), (5, .int x_17), (4, .int x_8), (3, .int x_2), (2, .int x_1), (0, .ref h0), (1, .int (nI i))]) hx hb dX8_step_160 hl (by decide) rfl (fun ls hl => ?_)
  refine lv_iload hx hb dX8_step_162 (lv_at hl 0 rfl) ?_
  refine lv_if_le (tgt := 189) hx hb dX8_step_164 (by decide) (fun c_53 => absurd c_53 (by decide)) (fun c_53 => ?_)
  refine lv_aload_n hx hb dX8_step_167 rfl (lv_at hl 8 rfl) ?_
  refine va_get (D := (dC, dI)) (ci := 8) (v := .ref qt) (C := RX8) (T := TX8) (N := 3) hx hb hts it_8 hown hK hP 0 rfl rfl 2 (by decide) (hts _ kt_36) (fun _ h9 => h9) rfl dX8_step_168 ?_
  refine lv_iload hx hb dX8_step_171 (lv_at hl 0 rfl) ?_
  refine lv_aload_n hx hb dX8_step_173 rfl (lv_at hl 8 rfl) ?_
  refine va_get (D := (dC, dI)) (ci := 8) (v := .ref qt) (C := RX8) (T := TX8) (N := 3) hx hb hts it_8 hown hK hP 0 rfl rfl 2 (by decide) (hts _ kt_36) (fun _ h9 => h9) rfl dX8_step_174 ?_
  refine lv_iload hx hb dX8_step_177 (lv_at hl 0 rfl) ?_
  refine lv_iconst (v := 1) hx hb dX8_step_179 (by decide) ?_
  refine lv_isub hx hb dX8_step_180 ?_
  refine lv_topi (fun x_54 ex_54 => ?_)
  obtain rfl : x_54 = 6 := ex_54.trans (by decide)
  refine va_iald hx hb hK hP 2 1 rfl rfl (show vp_in (6 : Int32) 8 from (show vp_in (nI 6) 8 from vp_in_nI (by omega) (by omega))) dX8_step_181 ?_
  refine lv_topi (fun x_55 _ => ?_)
  refine va_iast hx hb hK hP hD hS 2 1 rfl rfl (show vp_in (7 : Int32) 8 from (show vp_in (nI 7) 8 from vp_in_nI (by omega) (by omega))) dX8_step_182 (fun H locs hP hD hS => ?_)
  obtain ⟨f_56, hP, hD⟩ : ∃ f_56 : Nat → Int32, va_P (dC, dI) vwCl [(h0, .inr (8, [.ref qw, .ref qs, .ref qt])), (qw, .inl (cw, 64, .inl f)), (qt, .inl (ct, 8, .inl f_56))] H ∧ va_D A [(h0, .inr (8, [.ref qw, .ref qs, .ref qt])), (qw, .inl (cw, 64, .inl f)), (qt, .inl (ct, 8, .inl f_56))] := ⟨_, hP, hD⟩
  refine lv_iinc (v := 6) (lv' := [(9, .int 6), (8, .int x_52), (7, .int x_45), (6, .int x_31), (5, .int x_17), (4, .int x_8), (3, .int x_2), (2, .int x_1), (0, .ref h0), (1, .int (nI i))]) hx hb dX8_step_183 hl (k := 0) rfl (by decide) (by decide) rfl (fun ls hl => ?_)
  refine lv_goto (tgt := 162) hx hb dX8_step_186 (by decide) ?_
  refine lv_iload hx hb dX8_step_162 (lv_at hl 0 rfl) ?_
  refine lv_if_le (tgt := 189) hx hb dX8_step_164 (by decide) (fun c_57 => absurd c_57 (by decide)) (fun c_57 => ?_)
  refine lv_aload_n hx hb dX8_step_167 rfl (lv_at hl 8 rfl) ?_
  refine va_get (D := (dC, dI)) (ci := 8) (v := .ref qt) (C := RX8) (T := TX8) (N := 3) hx hb hts it_8 hown hK hP 0 rfl rfl 2 (by decide) (hts _ kt_36) (fun _ h9 => h9) rfl dX8_step_168 ?_
  refine lv_iload hx hb dX8_step_171 (lv_at hl 0 rfl) ?_
  refine lv_aload_n hx hb dX8_step_173 rfl (lv_at hl 8 rfl) ?_
  refine va_get (D := (dC, dI)) (ci := 8) (v := .ref qt) (C := RX8) (T := TX8) (N := 3) hx hb hts it_8 hown hK hP 0 rfl rfl 2 (by decide) (hts _ kt_36) (fun _ h9 => h9) rfl dX8_step_174 ?_
  refine lv_iload hx hb dX8_step_177 (lv_at hl 0 rfl) ?_
  refine lv_iconst (v := 1) hx hb dX8_step_179 (by decide) ?_
  refine lv_isub hx hb dX8_step_180 ?_
  refine lv_topi (fun x_58 ex_58 => ?_)
  obtain rfl : x_58 = 5 := ex_58.trans (by decide)
  refine va_iald hx hb hK hP 2 1 rfl rfl (show vp_in (5 : Int32) 8 from (show vp_in (nI 5) 8 from vp_in_nI (by omega) (by omega))) dX8_step_181 ?_
  refine lv_topi (fun x_59 _ => ?_)
  refine va_iast hx hb hK hP hD hS 2 1 rfl rfl (show vp_in (6 : Int32) 8 from (show vp_in (nI 6) 8 from vp_in_nI (by omega) (by omega))) dX8_step_182 (fun H locs hP hD hS => ?_)
  obtain ⟨f_60, hP, hD⟩ : ∃ f_60 : Nat → Int32, va_P (dC, dI) vwCl [(h0, .inr (8, [.ref qw, .ref qs, .ref qt])), (qw, .inl (cw, 64, .inl f)), (qt, .inl (ct, 8, .inl f_60))] H ∧ va_D A [(h0, .inr (8, [.ref qw, .ref qs, .ref qt])), (qw, .inl (cw, 64, .inl f)), (qt, .inl (ct, 8, .inl f_60))] := ⟨_, hP, hD⟩
  refine lv_iinc (v := 5) (lv' := [(9, .int 5), (8, .int x_52), (7, .int x_45), (6, .int x_31), (5, .int x_17), (4, .int x_8), (3, .int x_2), (2, .int x_1), (0, .ref h0), (1, .int (nI i))]) hx hb dX8_step_183 hl (k := 0) rfl (by decide) (by decide) rfl (fun ls hl => ?_)
  refine lv_goto (tgt := 162) hx hb dX8_step_186 (by decide) ?_
  refine lv_iload hx hb dX8_step_162 (lv_at hl 0 rfl) ?_
  refine lv_if_le (tgt := 189) hx hb dX8_step_164 (by decide) (fun c_61 => absurd c_61 (by decide)) (fun c_61 => ?_)
  refine lv_aload_n hx hb dX8_step_167 rfl (lv_at hl 8 rfl) ?_
  refine va_get (D := (dC, dI)) (ci := 8) (v := .ref qt) (C := RX8) (T := TX8) (N := 3) hx hb hts it_8 hown hK hP 0 rfl rfl 2 (by decide) (hts _ kt_36) (fun _ h9 => h9) rfl dX8_step_168 ?_
  refine lv_iload hx hb dX8_step_171 (lv_at hl 0 rfl) ?_
  refine lv_aload_n hx hb dX8_step_173 rfl (lv_at hl 8 rfl) ?_
  refine va_get (D := (dC, dI)) (ci := 8) (v := .ref qt) (C := RX8) (T := TX8) (N := 3) hx hb hts it_8 hown hK hP 0 rfl rfl 2 (by decide) (hts _ kt_36) (fun _ h9 => h9) rfl dX8_step_174 ?_
  refine lv_iload hx hb dX8_step_177 (lv_at hl 0 rfl) ?_
  refine lv_iconst (v := 1) hx hb dX8_step_179 (by decide) ?_
  refine lv_isub hx hb dX8_step_180 ?_
  refine lv_topi (fun x_62 ex_62 => ?_)
  obtain rfl : x_62 = 4 := ex_62.trans (by decide)
  refine va_iald hx hb hK hP 2 1 rfl rfl (show vp_in (4 : Int32) 8 from (show vp_in (nI 4) 8 from vp_in_nI (by omega) (by omega))) dX8_step_181 ?_
  refine lv_topi (fun x_63 _ => ?_)
  refine va_iast hx hb hK hP hD hS 2 1 rfl rfl (show vp_in (5 : Int32) 8 from (show vp_in (nI 5) 8 from vp_in_nI (by omega) (by omega))) dX8_step_182 (fun H locs hP hD hS => ?_)
  obtain ⟨f_64, hP, hD⟩ : ∃ f_64 : Nat → Int32, va_P (dC, dI) vwCl [(h0, .inr (8, [.ref qw, .ref qs, .ref qt])), (qw, .inl (cw, 64, .inl f)), (qt, .inl (ct, 8, .inl f_64))] H ∧ va_D A [(h0, .inr (8, [.ref qw, .ref qs, .ref qt])), (qw, .inl (cw, 64, .inl f)), (qt, .inl (ct, 8, .inl f_64))] := ⟨_, hP, hD⟩
  refine lv_iinc (v := 4) (lv' := [(9, .int 4), (8, .int x_52), (7, .int x_45), (6, .int x_31), (5, .int x_17), (4, .int x_8), (3, .int x_2), (2, .int x_1), (0, .ref h0), (1, .int (nI i))]) hx hb dX8_step_183 hl (k := 0) rfl (by decide) (by decide) rfl (fun ls hl => ?_)
  refine lv_goto (tgt := 162) hx hb dX8_step_186 (by decide) ?_
  refine lv_iload hx hb dX8_step_162 (lv_at hl 0 rfl) ?_
  refine lv_if_le (tgt := 189) hx hb dX8_step_164 (by decide) (fun c_65 => absurd c_65 (by decide)) (fun c_65 => ?_)
  refine lv_aload_n hx hb dX8_step_167 rfl (lv_at hl 8 rfl) ?_
  refine va_get (D := (dC, dI)) (ci := 8) (v := .ref qt) (C := RX8) (T := TX8) (N := 3) hx hb hts it_8 hown hK hP 0 rfl rfl 2 (by decide) (hts _ kt_36) (fun _ h9 => h9) rfl dX8_step_168 ?_
  refine lv_iload hx hb dX8_step_171 (lv_at hl 0 rfl) ?_
  refine lv_aload_n hx hb dX8_step_173 rfl (lv_at hl 8 rfl) ?_
  refine va_get (D := (dC, dI)) (ci := 8) (v := .ref qt) (C := RX8) (T := TX8) (N := 3) hx hb hts it_8 hown hK hP 0 rfl rfl 2 (by decide) (hts _ kt_36) (fun _ h9 => h9) rfl dX8_step_174 ?_
  refine lv_iload hx hb dX8_step_177 (lv_at hl 0 rfl) ?_
  refine lv_iconst (v := 1) hx hb dX8_step_179 (by decide) ?_
  refine lv_isub hx hb dX8_step_180 ?_
  refine lv_topi (fun x_66 ex_66 => ?_)
  obtain rfl : x_66 = 3 := ex_66.trans (by decide)
  refine va_iald hx hb hK hP 2 1 rfl rfl (show vp_in (3 : Int32) 8 from (show vp_in (nI 3) 8 from vp_in_nI (by omega) (by omega))) dX8_step_181 ?_
  refine lv_topi (fun x_67 _ => ?_)
  refine va_iast hx hb hK hP hD hS 2 1 rfl rfl (show vp_in (4 : Int32) 8 from (show vp_in (nI 4) 8 from vp_in_nI (by omega) (by omega))) dX8_step_182 (fun H locs hP hD hS => ?_)
  obtain ⟨f_68, hP, hD⟩ : ∃ f_68 : Nat → Int32, va_P (dC, dI) vwCl [(h0, .inr (8, [.ref qw, .ref qs, .ref qt])), (qw, .inl (cw, 64, .inl f)), (qt, .inl (ct, 8, .inl f_68))] H ∧ va_D A [(h0, .inr (8, [.ref qw, .ref qs, .ref qt])), (qw, .inl (cw, 64, .inl f)), (qt, .inl (ct, 8, .inl f_68))] := ⟨_, hP, hD⟩
  refine lv_iinc (v := 3) (lv' := [(9, .int 3), (8, .int x_52), (7, .int x_45), (6, .int x_31), (5, .int x_17), (4, .int x_8), (3, .int x_2), (2, .int x_1), (0, .ref h0), (1, .int (nI i))]) hx hb dX8_step_183 hl (k := 0) rfl (by decide) (by decide) rfl (fun ls hl => ?_)
  refine lv_goto (tgt := 162) hx hb dX8_step_186 (by decide) ?_
  refine lv_iload hx hb dX8_step_162 (lv_at hl 0 rfl) ?_
  refine lv_if_le (tgt := 189) hx hb dX8_step_164 (by decide) (fun c_69 => absurd c_69 (by decide)) (fun c_69 => ?_)
  refine lv_aload_n hx hb dX8_step_167 rfl (lv_at hl 8 rfl) ?_
  refine va_get (D := (dC, dI)) (ci := 8) (v := .ref qt) (C := RX8) (T := TX8) (N := 3) hx hb hts it_8 hown hK hP 0 rfl rfl 2 (by decide) (hts _ kt_36) (fun _ h9 => h9) rfl dX8_step_168 ?_
  refine lv_iload hx hb dX8_step_171 (lv_at hl 0 rfl) ?_
  refine lv_aload_n hx hb dX8_step_173 rfl (lv_at hl 8 rfl) ?_
  refine va_get (D := (dC, dI)) (ci := 8) (v := .ref qt) (C := RX8) (T := TX8) (N := 3) hx hb hts it_8 hown hK hP 0 rfl rfl 2 (by decide) (hts _ kt_36) (fun _ h9 => h9) rfl dX8_step_174 ?_
  refine lv_iload hx hb dX8_step_177 (lv_at hl 0 rfl) ?_
  refine lv_iconst (v := 1) hx hb dX8_step_179 (by decide) ?_
  refine lv_isub hx hb dX8_step_180 ?_
  refine lv_topi (fun x_70 ex_70 => ?_)
  obtain rfl : x_70 = 2 := ex_70.trans (by decide)
  refine va_iald hx hb hK hP 2 1 rfl rfl (show vp_in (2 : Int32) 8 from (show vp_in (nI 2) 8 from vp_in_nI (by omega) (by omega))) dX8_step_181 ?_
  refine lv_topi (fun x_71 _ => ?_)
  refine va_iast hx hb hK hP hD hS 2 1 rfl rfl (show vp_in (3 : Int32) 8 from (show vp_in (nI 3) 8 from vp_in_nI (by omega) (by omega))) dX8_step_182 (fun H locs hP hD hS => ?_)
  obtain ⟨f_72, hP, hD⟩ : ∃ f_72 : Nat → Int32, va_P (dC, dI) vwCl [(h0, .inr (8, [.ref qw, .ref qs, .ref qt])), (qw, .inl (cw, 64, .inl f)), (qt, .inl (ct, 8, .inl f_72))] H ∧ va_D A [(h0, .inr (8, [.ref qw, .ref qs, .ref qt])), (qw, .inl (cw, 64, .inl f)), (qt, .inl (ct, 8, .inl f_72))] := ⟨_, hP, hD⟩
  refine lv_iinc (v := 2) (lv' := [(9, .int 2), (8, .int x_52), (7, .int x_45), (6, .int x_31), (5, .int x_17), (4, .int x_8), (3, .int x_2), (2, .int x_1), (0, .ref h0), (1, .int (nI i))]) hx hb dX8_step_183 hl (k := 0) rfl (by decide) (by decide) rfl (fun ls hl => ?_)
  refine lv_goto (tgt := 162) hx hb dX8_step_186 (by decide) ?_
  refine lv_iload hx hb dX8_step_162 (lv_at hl 0 rfl) ?_
  refine lv_if_le (tgt := 189) hx hb dX8_step_164 (by decide) (fun c_73 => absurd c_73 (by decide)) (fun c_73 => ?_)
  refine lv_aload_n hx hb dX8_step_167 rfl (lv_at hl 8 rfl) ?_
  refine va_get (D := (dC, dI)) (ci := 8) (v := .ref qt) (C := RX8) (T := TX8) (N := 3) hx hb hts it_8 hown hK hP 0 rfl rfl 2 (by decide) (hts _ kt_36) (fun _ h9 => h9) rfl dX8_step_168 ?_
  refine lv_iload hx hb dX8_step_171 (lv_at hl 0 rfl) ?_
  refine lv_aload_n hx hb dX8_step_173 rfl (lv_at hl 8 rfl) ?_
  refine va_get (D := (dC, dI)) (ci := 8) (v := .ref qt) (C := RX8) (T := TX8) (N := 3) hx hb hts it_8 hown hK hP 0 rfl rfl 2 (by decide) (hts _ kt_36) (fun _ h9 => h9) rfl dX8_step_174 ?_
  refine lv_iload hx hb dX8_step_177 (lv_at hl 0 rfl) ?_
  refine lv_iconst (v := 1) hx hb dX8_step_179 (by decide) ?_
  refine lv_isub hx hb dX8_step_180 ?_
  refine lv_topi (fun x_74 ex_74 => ?_)
  obtain rfl : x_74 = 1 := ex_74.trans (by decide)
  refine va_iald hx hb hK hP 2 1 rfl rfl (show vp_in (1 : Int32) 8 from (show vp_in (nI 1) 8 from vp_in_nI (by omega) (by omega))) dX8_step_181 ?_
  refine lv_topi (fun x_75 _ => ?_)
  refine va_iast hx hb hK hP hD hS 2 1 rfl rfl (show vp_in (2 : Int32) 8 from (show vp_in (nI 2) 8 from vp_in_nI (by omega) (by omega))) dX8_step_182 (fun H locs hP hD hS => ?_)
  obtain ⟨f_76, hP, hD⟩ : ∃ f_76 : Nat → Int32, va_P (dC, dI) vwCl [(h0, .inr (8, [.ref qw, .ref qs, .ref qt])), (qw, .inl (cw, 64, .inl f)), (qt, .inl (ct, 8, .inl f_76))] H ∧ va_D A [(h0, .inr (8, [.ref qw, .ref qs, .ref qt])), (qw, .inl (cw, 64, .inl f)), (qt, .inl (ct, 8, .inl f_76))] := ⟨_, hP, hD⟩
  refine lv_iinc (v := 1) (lv' := [(9, .int 1), (8, .int x_52), (7, .int x_45), (6, .int x_31), (5, .int x_17), (4, .int x_8), (3, .int x_2), (2, .int x_1), (0, .ref h0), (1, .int (nI i))]) hx hb dX8_step_183 hl (k := 0) rfl (by decide) (by decide) rfl (fun ls hl => ?_)
  refine lv_goto (tgt := 162) hx hb dX8_step_186 (by decide) ?_
  refine lv_iload hx hb dX8_step_162 (lv_at hl 0 rfl) ?_
  refine lv_if_le (tgt := 189) hx hb dX8_step_164 (by decide) (fun c_77 => absurd c_77 (by decide)) (fun c_77 => ?_)
  refine lv_aload_n hx hb dX8_step_167 rfl (lv_at hl 8 rfl) ?_
  refine va_get (D := (dC, dI)) (ci := 8) (v := .ref qt) (C := RX8) (T := TX8) (N := 3) hx hb hts it_8 hown hK hP 0 rfl rfl 2 (by decide) (hts _ kt_36) (fun _ h9 => h9) rfl dX8_step_168 ?_
  refine lv_iload hx hb dX8_step_171 (lv_at hl 0 rfl) ?_
  refine lv_aload_n hx hb dX8_step_173 rfl (lv_at hl 8 rfl) ?_
  refine va_get (D := (dC, dI)) (ci := 8) (v := .ref qt) (C := RX8) (T := TX8) (N := 3) hx hb hts it_8 hown hK hP 0 rfl rfl 2 (by decide) (hts _ kt_36) (fun _ h9 => h9) rfl dX8_step_174 ?_
  refine lv_iload hx hb dX8_step_177 (lv_at hl 0 rfl) ?_
  refine lv_iconst (v := 1) hx hb dX8_step_179 (by decide) ?_
  refine lv_isub hx hb dX8_step_180 ?_
  refine lv_topi (fun x_78 ex_78 => ?_)
  obtain rfl : x_78 = 0 := ex_78.trans (by decide)
  refine va_iald hx hb hK hP 2 1 rfl rfl (show vp_in (0 : Int32) 8 from (show vp_in (nI 0) 8 from vp_in_nI (by omega) (by omega))) dX8_step_181 ?_
  refine lv_topi (fun x_79 _ => ?_)
  refine va_iast hx hb hK hP hD hS 2 1 rfl rfl (show vp_in (1 : Int32) 8 from (show vp_in (nI 1) 8 from vp_in_nI (by omega) (by omega))) dX8_step_182 (fun H locs hP hD hS => ?_)
  obtain ⟨f_80, hP, hD⟩ : ∃ f_80 : Nat → Int32, va_P (dC, dI) vwCl [(h0, .inr (8, [.ref qw, .ref qs, .ref qt])), (qw, .inl (cw, 64, .inl f)), (qt, .inl (ct, 8, .inl f_80))] H ∧ va_D A [(h0, .inr (8, [.ref qw, .ref qs, .ref qt])), (qw, .inl (cw, 64, .inl f)), (qt, .inl (ct, 8, .inl f_80))] := ⟨_, hP, hD⟩
  refine lv_iinc (v := 0) (lv' := [(9, .int 0), (8, .int x_52), (7, .int x_45), (6, .int x_31), (5, .int x_17), (4, .int x_8), (3, .int x_2), (2, .int x_1), (0, .ref h0), (1, .int (nI i))]) hx hb dX8_step_183 hl (k := 0) rfl (by decide) (by decide) rfl (fun ls hl => ?_)
  refine lv_goto (tgt := 162) hx hb dX8_step_186 (by decide) ?_
  refine lv_iload hx hb dX8_step_162 (lv_at hl 0 rfl) ?_
  refine lv_if_le (tgt := 189) hx hb dX8_step_164 (by decide) (fun c_81 => ?_) (fun c_81 => absurd (by decide) c_81)
  refine lv_aload_n hx hb dX8_step_189 rfl (lv_at hl 8 rfl) ?_
  refine va_get (D := (dC, dI)) (ci := 8) (v := .ref qt) (C := RX8) (T := TX8) (N := 3) hx hb hts it_8 hown hK hP 0 rfl rfl 2 (by decide) (hts _ kt_36) (fun _ h9 => h9) rfl dX8_step_190 ?_
  refine lv_iconst (v := 4) hx hb dX8_step_193 (by decide) ?_
  refine lv_dup2_11 hx hb dX8_step_194 rfl rfl ?_
  refine va_iald hx hb hK hP 2 1 rfl rfl (show vp_in (4 : Int32) 8 from (show vp_in (nI 4) 8 from vp_in_nI (by omega) (by omega))) dX8_step_195 ?_
  refine lv_topi (fun x_82 _ => ?_)
  refine lv_iload hx hb dX8_step_196 (lv_at hl 1 rfl) ?_
  refine lv_iadd hx hb dX8_step_198 ?_
  refine lv_topi (fun x_83 _ => ?_)
  refine va_iast hx hb hK hP hD hS 2 1 rfl rfl (show vp_in (4 : Int32) 8 from (show vp_in (nI 4) 8 from vp_in_nI (by omega) (by omega))) dX8_step_199 (fun H locs hP hD hS => ?_)
  obtain ⟨f_84, hP, hD⟩ : ∃ f_84 : Nat → Int32, va_P (dC, dI) vwCl [(h0, .inr (8, [.ref qw, .ref qs, .ref qt])), (qw, .inl (cw, 64, .inl f)), (qt, .inl (ct, 8, .inl f_84))] H ∧ va_D A [(h0, .inr (8, [.ref qw, .ref qs, .ref qt])), (qw, .inl (cw, 64, .inl f)), (qt, .inl (ct, 8, .inl f_84))] := ⟨_, hP, hD⟩
  refine lv_aload_n hx hb dX8_step_200 rfl (lv_at hl 8 rfl) ?_
  refine va_get (D := (dC, dI)) (ci := 8) (v := .ref qt) (C := RX8) (T := TX8) (N := 3) hx hb hts it_8 hown hK hP 0 rfl rfl 2 (by decide) (hts _ kt_36) (fun _ h9 => h9) rfl dX8_step_201 ?_
  refine lv_iconst (v := 0) hx hb dX8_step_204 (by decide) ?_
  refine lv_iload hx hb dX8_step_205 (lv_at hl 1 rfl) ?_
  refine lv_iload hx hb dX8_step_207 (lv_at hl 2 rfl) ?_
  refine lv_iadd hx hb dX8_step_209 ?_
  refine lv_topi (fun x_85 _ => ?_)
  refine lv_iload hx hb dX8_step_210 (lv_at hl 4 rfl) ?_
  refine lv_iadd hx hb dX8_step_212 ?_
  refine lv_topi (fun x_86 _ => ?_)
  refine va_iast hx hb hK hP hD hS 2 1 rfl rfl (show vp_in (0 : Int32) 8 from (show vp_in (nI 0) 8 from vp_in_nI (by omega) (by omega))) dX8_step_213 (fun H locs hP hD hS => ?_)
  obtain ⟨f_87, hP, hD⟩ : ∃ f_87 : Nat → Int32, va_P (dC, dI) vwCl [(h0, .inr (8, [.ref qw, .ref qs, .ref qt])), (qw, .inl (cw, 64, .inl f)), (qt, .inl (ct, 8, .inl f_87))] H ∧ va_D A [(h0, .inr (8, [.ref qw, .ref qs, .ref qt])), (qw, .inl (cw, 64, .inl f)), (qt, .inl (ct, 8, .inl f_87))] := ⟨_, hP, hD⟩
  have hP9 := hP.sub (ws' := [(h0, .inr (8, [.ref qw, .ref qs, .ref qt])), (qw, .inl (cw, 64, .inl f)), (qt, .inl (ct, 8, .inl f_87))]) [0, 1, 2] rfl
  have hD9 := hD.sub (ws' := [(h0, .inr (8, [.ref qw, .ref qs, .ref qt])), (qw, .inl (cw, 64, .inl f)), (qt, .inl (ct, 8, .inl f_87))]) [0, 1, 2] (by decide) rfl
  have hK9 := hK.sub (tys' := [(cw, .int), (ct, .int)]) [0, 1] rfl
  refine W.widen (k := 0) (n := 0) (by omega) (by omega) ?_
  exact W.vret hx hb hr (fun t ht hW => ⟨⟨(), rfl, trivial, ⟨f_87, QW.mk ht hW hP9 hK9 hD9⟩⟩, hS.F ht⟩) hS.2.2 dX8_step_214
set_option maxHeartbeats 4000000 in
set_option maxRecDepth 100000 in
theorem c_X8_mix (l : Launch) (dC : Nat → ClassId) (dI : Nat → Nat → Nat) (sz : Nat) (h0 : Nat) (qw : Nat) (qs : Nat) (qt : Nat) (cw : ClassId) (cs : ClassId) (ct : ClassId) (f : Nat → Int32) (g0 : Nat → Int32) (k : Nat → Int32) : Met l yX8_mix (.code yX8_mix cX8_mix 6 none :: tb) ({ frames := 1, cells := 0, slots := 0, locals := 48 }) (va_Pc [.ref h0] (PWS (dC, dI) sz [(h0, .inr (8, [.ref qw, .ref qs, .ref qt])), (qw, .inl (cw, 64, .inl f)), (qs, .inl (cs, 8, .inl g0)), (qt, .inl (ct, 8, .inl k))] [(cw, .int), (cs, .int), (ct, .int)])) (va_Qv (fun _ : Unit => True) (fun _ T9 => ∃ (f2 : Nat → Int32) (g2 : Nat → Int32) (k2 : Nat → Int32), QW (dC, dI) (va_A [(h0, .inr (8, [.ref qw, .ref qs, .ref qt])), (qw, .inl (cw, 64, .inl f)), (qs, .inl (cs, 8, .inl g0)), (qt, .inl (ct, 8, .inl k))] sz) [(h0, .inr (8, [.ref qw, .ref qs, .ref qt])), (qw, .inl (cw, 64, .inl f2)), (qs, .inl (cs, 8, .inl g2)), (qt, .inl (ct, 8, .inl k2))] [(cw, .int), (cs, .int), (ct, .int)] T9) (va_A [(h0, .inr (8, [.ref qw, .ref qs, .ref qt])), (qw, .inl (cw, 64, .inl f)), (qs, .inl (cs, 8, .inl g0)), (qt, .inl (ct, 8, .inl k))] sz)) 0 0 (va_A [(h0, .inr (8, [.ref qw, .ref qs, .ref qt])), (qw, .inl (cw, 64, .inl f)), (qs, .inl (cs, 8, .inl g0)), (qt, .inl (ct, 8, .inl k))] sz) := by
  refine Met.ofW (cc := cX8_mix) (maxL := 6) (ret := none) (by decide) rfl ?_
  intro p e s m args below meth c s₁ B hml hv
  obtain ⟨rfl, ⟨hsz, hP, hK, hD0, hE⟩, hZ⟩ := hv
  have hx := B.exec
  have hb := B.bytes
  have hr := B.returns
  have hts : ∀ w ∈ tb, w.before _ s = true := fun w h => atoms_spec (ws := .code yX8_mix cX8_mix 6 none :: tb) B.pre w (List.mem_cons_of_mem _ h)
  have hown : s.vm.findClass RX8 = some m.cls := findClass_of_methodNamed B.named
  have hlocks := B.notSynchronized
  subst hsz
  have hD := hD0.self (sz := s.heap.size)
  generalize hAe : va_A [(h0, .inr (8, [.ref qw, .ref qs, .ref qt])), (qw, .inl (cw, 64, .inl f)), (qs, .inl (cs, 8, .inl g0)), (qt, .inl (ct, 8, .inl k))] s.heap.size = A at hD hZ ⊢
  obtain ⟨aB, aF, fB, fF, zB, tB, zF, tF⟩ := id hZ
  have hA : ∀ q : Nat, s.heap.size ≤ q → A q := fun q h => by rw [← hAe]; exact Or.inr h
  have hS : va_S A s.heap s.heap [] := va_S.rf
  have hP : va_P (dC, dI) vwCl [(h0, .inr (8, [.ref qw, .ref qs, .ref qt])), (qw, .inl (cw, 64, .inl f)), (qs, .inl (cs, 8, .inl g0)), (qt, .inl (ct, 8, .inl k))] s.heap := hP
  have hl := lv_entry ([.ref h0]) (n := 6) (Nat.le_of_ble_eq_true rfl)
  rw [lg_entry_eq]
  generalize (lg_sl ([.ref h0]) ++ List.replicate (6 - (lg_sl ([.ref h0])).length) Slot.unset).toArray = ls at hl ⊢
  have hl : lv_has ls 6 [(0, .ref h0)] := hl
  refine lv_bipush (v := 16) hx hb dX8_mix_0 (by decide) ?_
  refine lv_istore_n (lv' := [(1, .int 16), (0, .ref h0)]) hx hb dX8_mix_2 rfl hl (by decide) rfl (fun ls hl => ?_)
  refine W.widen (k := 0) (n := 0) (by omega) (by omega) ?_
  refine wl_loop (σ := Nat × (Nat → Int32)) A (dC, dI) 3 6 (fun (i1, fa) => [(h0, .inr (8, [.ref qw, .ref qs, .ref qt])), (qw, .inl (cw, 64, .inl fa)), (qs, .inl (cs, 8, .inl g0)), (qt, .inl (ct, 8, .inl k))]) (fun (i1, fa) => [(1, .int (nI i1)), (0, .ref h0)]) (fun (i1, fa) => []) (fun (i1, fa) => 0) (fun (i1, fa) => 0) (fun (i1, fa) => 16 ≤ i1 ∧ i1 ≤ 64) (fun (i1, fa) => 64 - i1) ?_ (16, f) (by first | omega | exact ⟨by omega, by omega⟩) _ _ (hP.sub [0, 1, 2, 3] rfl) (hD.sub [0, 1, 2, 3] (by decide) rfl) hS ls (lv_sub hl [0, 1] rfl)
  rintro ⟨i1, fa⟩ hv_1 ih_2 H locs hP hD hS ls hl
  have hP : va_P (dC, dI) vwCl [(h0, .inr (8, [.ref qw, .ref qs, .ref qt])), (qw, .inl (cw, 64, .inl fa)), (qs, .inl (cs, 8, .inl g0)), (qt, .inl (ct, 8, .inl k))] H := hP
  have hD : va_D A [(h0, .inr (8, [.ref qw, .ref qs, .ref qt])), (qw, .inl (cw, 64, .inl fa)), (qs, .inl (cs, 8, .inl g0)), (qt, .inl (ct, 8, .inl k))] := hD
  have hl : lv_has ls 6 [(1, .int (nI i1)), (0, .ref h0)] := hl
  have hv_1 : 16 ≤ i1 ∧ i1 ≤ 64 := hv_1
  refine W.widen (k := 0) (n := 0) (Nat.le_refl _) (Nat.le_refl _) ?_
  refine W.eq (g2 := F0 m 3 ls []) rfl ?_
  obtain ⟨hv1, hv2⟩ := hv_1
  refine lv_iload_n hx hb dX8_mix_3 rfl (lv_at hl 0 rfl) ?_
  refine lv_bipush (v := 64) hx hb dX8_mix_4 (by decide) ?_
  refine lv_icmp_ge (tgt := 116) hx hb dX8_mix_6 (by decide) (fun c_3 => ?_) (fun c_3 => ?_)
  ·
    have hi_4 : 64 ≤ i1 := leN (N := 64) c_3
    refine lv_aload_n hx hb dX8_mix_116 rfl (lv_at hl 1 rfl) ?_
    refine va_get (D := (dC, dI)) (ci := 8) (v := .ref qs) (C := RX8) (T := TX8) (N := 3) hx hb hts it_8 hown hK hP 0 rfl rfl 1 (by decide) (hts _ kt_35) (fun _ h9 => h9) rfl dX8_mix_117 ?_
    refine lv_iconst (v := 0) hx hb dX8_mix_120 (by decide) ?_
    refine lv_aload_n hx hb dX8_mix_121 rfl (lv_at hl 1 rfl) ?_
    refine va_get (D := (dC, dI)) (ci := 8) (v := .ref qt) (C := RX8) (T := TX8) (N := 3) hx hb hts it_8 hown hK hP 0 rfl rfl 2 (by decide) (hts _ kt_36) (fun _ h9 => h9) rfl dX8_mix_122 ?_
    refine lv_iconst (v := 0) hx hb dX8_mix_125 (by decide) ?_
    refine lv_bipush (v := 8) hx hb dX8_mix_126 (by decide) ?_
    refine va_copyi hx hb (by rw [hml]; exact hl.1.symm) hown (hts _ kt_241) (hts _ kt_242) (hts _ kt_243) (hts _ kt_244) hK hP hD hS 2 3 1 2 rfl rfl rfl rfl rfl (by decide) (by decide) (by decide) (by decide) (by decide) (fun _ _ => rfl) (Nat.le_of_ble_eq_true rfl) (by decide) dX8_mix_128 (fun H locs hP hD hS => ?_)
    obtain ⟨f_5, hP, hD⟩ : ∃ f_5 : Nat → Int32, va_P (dC, dI) vwCl [(h0, .inr (8, [.ref qw, .ref qs, .ref qt])), (qw, .inl (cw, 64, .inl fa)), (qs, .inl (cs, 8, .inl g0)), (qt, .inl (ct, 8, .inl f_5))] H ∧ va_D A [(h0, .inr (8, [.ref qw, .ref qs, .ref qt])), (qw, .inl (cw, 64, .inl fa)), (qs, .inl (cs, 8, .inl g0)), (qt, .inl (ct, 8, .inl f_5))] := ⟨_, hP, hD⟩
    refine lv_iconst (v := 0) hx hb dX8_mix_131 (by decide) ?_
    refine lv_istore_n (lv' := [(1, .int 0), (0, .ref h0)]) hx hb dX8_mix_132 rfl hl (by decide) rfl (fun ls hl => ?_)
    refine W.widen (k := 0) (n := 0) (by omega) (by omega) ?_
    refine wl_loop (σ := Nat × (Nat → Int32)) A (dC, dI) 133 6 (fun (i2, ka) => [(h0, .inr (8, [.ref qw, .ref qs, .ref qt])), (qw, .inl (cw, 64, .inl fa)), (qs, .inl (cs, 8, .inl g0)), (qt, .inl (ct, 8, .inl ka))]) (fun (i2, ka) => [(1, .int (nI i2)), (0, .ref h0)]) (fun (i2, ka) => []) (fun (i2, ka) => 0) (fun (i2, ka) => 0) (fun (i2, ka) => i2 ≤ 64) (fun (i2, ka) => 64 - i2) ?_ (0, f_5) (by first | omega | exact ⟨by omega, by omega⟩) _ _ (hP.sub [0, 1, 2, 3] rfl) (hD.sub [0, 1, 2, 3] (by decide) rfl) hS ls (lv_sub hl [0, 1] rfl)
    rintro ⟨i2, ka⟩ hv_6 ih_7 H locs hP hD hS ls hl
    have hP : va_P (dC, dI) vwCl [(h0, .inr (8, [.ref qw, .ref qs, .ref qt])), (qw, .inl (cw, 64, .inl fa)), (qs, .inl (cs, 8, .inl g0)), (qt, .inl (ct, 8, .inl ka))] H := hP
    have hD : va_D A [(h0, .inr (8, [.ref qw, .ref qs, .ref qt])), (qw, .inl (cw, 64, .inl fa)), (qs, .inl (cs, 8, .inl g0)), (qt, .inl (ct, 8, .inl ka))] := hD
    have hl : lv_has ls 6 [(1, .int (nI i2)), (0, .ref h0)] := hl
    have hv_6 : i2 ≤ 64 := hv_6
    refine W.widen (k := 0) (n := 0) (Nat.le_refl _) (Nat.le_refl _) ?_
    refine W.eq (g2 := F0 m 133 ls []) rfl ?_
    refine lv_iload_n hx hb dX8_mix_133 rfl (lv_at hl 0 rfl) ?_
    refine lv_bipush (v := 64) hx hb dX8_mix_134 (by decide) ?_
    refine lv_icmp_ge (tgt := 150) hx hb dX8_mix_136 (by decide) (fun c_8 => ?_) (fun c_8 => ?_)
    ·
      have hi_9 : 64 ≤ i2 := leN (N := 64) c_8
      refine lv_iconst (v := 0) hx hb dX8_mix_150 (by decide) ?_
      refine lv_istore_n (lv' := [(1, .int 0), (0, .ref h0)]) hx hb dX8_mix_151 rfl hl (by decide) rfl (fun ls hl => ?_)
      refine W.widen (k := 0) (n := 0) (by omega) (by omega) ?_
      refine wl_loop (σ := Nat × (Nat → Int32)) A (dC, dI) 152 6 (fun (i3, ga) => [(h0, .inr (8, [.ref qw, .ref qs, .ref qt])), (qw, .inl (cw, 64, .inl fa)), (qs, .inl (cs, 8, .inl ga)), (qt, .inl (ct, 8, .inl ka))]) (fun (i3, ga) => [(1, .int (nI i3)), (0, .ref h0)]) (fun (i3, ga) => []) (fun (i3, ga) => 0) (fun (i3, ga) => 0) (fun (i3, ga) => i3 ≤ 8) (fun (i3, ga) => 8 - i3) ?_ (0, g0) (by first | omega | exact ⟨by omega, by omega⟩) _ _ (hP.sub [0, 1, 2, 3] rfl) (hD.sub [0, 1, 2, 3] (by decide) rfl) hS ls (lv_sub hl [0, 1] rfl)
      rintro ⟨i3, ga⟩ hv_10 ih_11 H locs hP hD hS ls hl
      have hP : va_P (dC, dI) vwCl [(h0, .inr (8, [.ref qw, .ref qs, .ref qt])), (qw, .inl (cw, 64, .inl fa)), (qs, .inl (cs, 8, .inl ga)), (qt, .inl (ct, 8, .inl ka))] H := hP
      have hD : va_D A [(h0, .inr (8, [.ref qw, .ref qs, .ref qt])), (qw, .inl (cw, 64, .inl fa)), (qs, .inl (cs, 8, .inl ga)), (qt, .inl (ct, 8, .inl ka))] := hD
      have hl : lv_has ls 6 [(1, .int (nI i3)), (0, .ref h0)] := hl
      have hv_10 : i3 ≤ 8 := hv_10
      refine W.widen (k := 0) (n := 0) (Nat.le_refl _) (Nat.le_refl _) ?_
      refine W.eq (g2 := F0 m 152 ls []) rfl ?_
      refine lv_iload_n hx hb dX8_mix_152 rfl (lv_at hl 0 rfl) ?_
      refine lv_bipush (v := 8) hx hb dX8_mix_153 (by decide) ?_
      refine lv_icmp_ge (tgt := 179) hx hb dX8_mix_155 (by decide) (fun c_12 => ?_) (fun c_12 => ?_)
      ·
        have hi_13 : 8 ≤ i3 := leN (N := 8) c_12
        have hP9 := hP.sub (ws' := [(h0, .inr (8, [.ref qw, .ref qs, .ref qt])), (qw, .inl (cw, 64, .inl fa)), (qs, .inl (cs, 8, .inl ga)), (qt, .inl (ct, 8, .inl ka))]) [0, 1, 2, 3] rfl
        have hD9 := hD.sub (ws' := [(h0, .inr (8, [.ref qw, .ref qs, .ref qt])), (qw, .inl (cw, 64, .inl fa)), (qs, .inl (cs, 8, .inl ga)), (qt, .inl (ct, 8, .inl ka))]) [0, 1, 2, 3] (by decide) rfl
        have hK9 := hK.sub (tys' := [(cw, .int), (cs, .int), (ct, .int)]) [0, 1, 2] rfl
        refine W.widen (k := 0) (n := 0) (by omega) (by omega) ?_
        exact W.vret hx hb hr (fun t ht hW => ⟨⟨(), rfl, trivial, ⟨fa, ga, ka, QW.mk ht hW hP9 hK9 hD9⟩⟩, hS.F ht⟩) hS.2.2 dX8_mix_179
      ·
        have hi_14 : i3 < 8 := ltN (N := 8) c_12
        refine lv_aload_n hx hb dX8_mix_158 rfl (lv_at hl 1 rfl) ?_
        refine va_get (D := (dC, dI)) (ci := 8) (v := .ref qs) (C := RX8) (T := TX8) (N := 3) hx hb hts it_8 hown hK hP 0 rfl rfl 1 (by decide) (hts _ kt_35) (fun _ h9 => h9) rfl dX8_mix_159 ?_
        refine lv_iload_n hx hb dX8_mix_162 rfl (lv_at hl 0 rfl) ?_
        refine lv_dup2_11 hx hb dX8_mix_163 rfl rfl ?_
        refine va_iald hx hb hK hP 2 1 rfl rfl (vp_in_nI (by omega) (by omega)) dX8_mix_164 ?_
        refine lv_topi (fun x_15 _ => ?_)
        refine lv_aload_n hx hb dX8_mix_165 rfl (lv_at hl 1 rfl) ?_
        refine va_get (D := (dC, dI)) (ci := 8) (v := .ref qt) (C := RX8) (T := TX8) (N := 3) hx hb hts it_8 hown hK hP 0 rfl rfl 2 (by decide) (hts _ kt_36) (fun _ h9 => h9) rfl dX8_mix_166 ?_
        refine lv_iload_n hx hb dX8_mix_169 rfl (lv_at hl 0 rfl) ?_
        refine va_iald hx hb hK hP 3 2 rfl rfl (vp_in_nI (by omega) (by omega)) dX8_mix_170 ?_
        refine lv_topi (fun x_16 _ => ?_)
        refine lv_iadd hx hb dX8_mix_171 ?_
        refine lv_topi (fun x_17 _ => ?_)
        refine va_iast hx hb hK hP hD hS 2 1 rfl rfl (vp_in_nI (by omega) (by omega)) dX8_mix_172 (fun H locs hP hD hS => ?_)
        obtain ⟨f_18, hP, hD⟩ : ∃ f_18 : Nat → Int32, va_P (dC, dI) vwCl [(h0, .inr (8, [.ref qw, .ref qs, .ref qt])), (qw, .inl (cw, 64, .inl fa)), (qs, .inl (cs, 8, .inl f_18)), (qt, .inl (ct, 8, .inl ka))] H ∧ va_D A [(h0, .inr (8, [.ref qw, .ref qs, .ref qt])), (qw, .inl (cw, 64, .inl fa)), (qs, .inl (cs, 8, .inl f_18)), (qt, .inl (ct, 8, .inl ka))] := ⟨_, hP, hD⟩
        refine lv_iinc (v := (nI (i3 + 1))) (lv' := [(1, .int (nI (i3 + 1))), (0, .ref h0)]) hx hb dX8_mix_173 hl (k := 0) rfl (nI_1 _) (by decide) rfl (fun ls hl => ?_)
        refine lv_goto (tgt := 152) hx hb dX8_mix_176 (by decide) ?_
        refine W.widen (k := 0) (n := 0) (by omega) (by omega) ?_
        exact ih_11 ((i3 + 1), f_18) (by first | omega | exact ⟨by omega, by omega⟩) (by show 8 - (i3 + 1) < 8 - i3; omega) _ _ (hP.sub [0, 1, 2, 3] rfl) (hD.sub [0, 1, 2, 3] (by decide) rfl) hS ls (lv_sub hl [0, 1] rfl)
    ·
      have hi_19 : i2 < 64 := ltN (N := 64) c_8
      refine lv_aload_n hx hb dX8_mix_139 rfl (lv_at hl 1 rfl) ?_
      refine lv_iload_n hx hb dX8_mix_140 rfl (lv_at hl 0 rfl) ?_
      have hPc := hP.sub (ws' := [(h0, .inr (8, [.ref qw, .ref qs, .ref qt])), (qw, .inl (cw, 64, .inl fa)), (qt, .inl (ct, 8, .inl ka))]) [0, 1, 3] rfl
      have hDc := hD.sub (ws' := [(h0, .inr (8, [.ref qw, .ref qs, .ref qt])), (qw, .inl (cw, 64, .inl fa)), (qt, .inl (ct, 8, .inl ka))]) [0, 1, 3] (by decide) rfl
      have hKc := hK.sub (tys' := [(cw, .int), (ct, .int)]) [0, 2] rfl
      have hFc := va_free (wc := [(h0, .inr (8, [.ref qw, .ref qs, .ref qt])), (qw, .inl (cw, 64, .inl fa)), (qt, .inl (ct, 8, .inl ka))]) hD hS hA [0, 1, 3] rfl
      refine va_callv (va_runV (As := [.int (nI i2)]) (rest := []) ⟨hx, hb, hml, hown, hts⟩ (c_X8_step l dC dI H.size h0 qw qs qt i2 cw ct fa ka (by omega)) ⟨callB_of 1 hts (gi kt_245) rfl rfl rfl (hts _ kt_116) (hts _ kt_246) (by decide +kernel) ⟨Nat.le_of_ble_eq_true rfl, Nat.le_of_ble_eq_true rfl⟩, (hts _ kt_247), (hts _ kt_248)⟩ ⟨fun a U g mk q => ⟨q.1, PWS.calling q.2⟩, va_recv hKc hPc (ci := 8) (q0 := 0) rfl rfl, fun U hU hW => ⟨rfl, PWS.mk hU hW hPc hKc hDc hE hZ hS hFc⟩⟩ rfl rfl hl.1 rfl (lv_room (Nat.le_of_ble_eq_true rfl)) dX8_mix_141 ⟨by show _ + 0 ≤ 0; omega, by show _ + 0 ≤ 0; omega⟩) hS (fun q _ h => hFc q h) hFc (fun u t H1 locs ht hvm hw hB hz1 hk1 hS => ?_)
      obtain ⟨k2_21, hB1⟩ := hB
      obtain ⟨hP, hD, hK⟩ := QW.join (wr := [(qs, .inl (cs, 8, .inl g0))]) hP hD hK [0, 1, 3] [2] rfl rfl (by decide) (by decide) hk1 hFc ht hvm hB1
      generalize H1 = H at hP hS ⊢
      have hK : va_K (dC, dI) vwCl [(cw, .int), (cs, .int), (ct, .int)] s := hK.sub [0, 1, 2] rfl
      have hP : va_P (dC, dI) vwCl [(qs, .inl (cs, 8, .inl g0)), (h0, .inr (8, [.ref qw, .ref qs, .ref qt])), (qw, .inl (cw, 64, .inl fa)), (qt, .inl (ct, 8, .inl k2_21))] H := hP
      have hD : va_D A [(qs, .inl (cs, 8, .inl g0)), (h0, .inr (8, [.ref qw, .ref qs, .ref qt])), (qw, .inl (cw, 64, .inl fa)), (qt, .inl (ct, 8, .inl k2_21))] := hD
      refine lv_iinc (v := (nI (i2 + 1))) (lv' := [(1, .int (nI (i2 + 1))), (0, .ref h0)]) hx hb dX8_mix_144 hl (k := 0) rfl (nI_1 _) (by decide) rfl (fun ls hl => ?_)
      refine lv_goto (tgt := 133) hx hb dX8_mix_147 (by decide) ?_
      refine W.widen (k := 0) (n := 0) (by omega) (by omega) ?_
      exact ih_7 ((i2 + 1), k2_21) (by first | omega | exact ⟨by omega, by omega⟩) (by show 64 - (i2 + 1) < 64 - i2; omega) _ _ (hP.sub [1, 2, 0, 3] rfl) (hD.sub [1, 2, 0, 3] (by decide) rfl) hS ls (lv_sub hl [0, 1] rfl)
  ·
    have hi_22 : i1 < 64 := ltN (N := 64) c_3
    refine lv_aload_n hx hb dX8_mix_9 rfl (lv_at hl 1 rfl) ?_
    refine va_get (D := (dC, dI)) (ci := 8) (v := .ref qw) (C := RX8) (T := TX8) (N := 3) hx hb hts it_8 hown hK hP 0 rfl rfl 0 (by decide) (hts _ kt_34) (fun _ h9 => h9) rfl dX8_mix_10 ?_
    refine lv_iload_n hx hb dX8_mix_13 rfl (lv_at hl 0 rfl) ?_
    refine lv_bipush (v := 15) hx hb dX8_mix_14 (by decide) ?_
    refine lv_isub hx hb dX8_mix_16 ?_
    refine lv_topi (fun x_23 ex_23 => ?_)
    obtain rfl : x_23 = (nI (i1 - 15)) := ex_23.trans (pk_sub (b := 15) (by omega))
    refine va_iald hx hb hK hP 1 0 rfl rfl (vp_in_nI (by omega) (by omega)) dX8_mix_17 ?_
    refine lv_topi (fun x_24 _ => ?_)
    refine lv_istore_n (lv' := [(2, .int x_24), (1, .int (nI i1)), (0, .ref h0)]) hx hb dX8_mix_18 rfl hl (by decide) rfl (fun ls hl => ?_)
    refine lv_aload_n hx hb dX8_mix_19 rfl (lv_at hl 2 rfl) ?_
    refine va_get (D := (dC, dI)) (ci := 8) (v := .ref qw) (C := RX8) (T := TX8) (N := 3) hx hb hts it_8 hown hK hP 0 rfl rfl 0 (by decide) (hts _ kt_34) (fun _ h9 => h9) rfl dX8_mix_20 ?_
    refine lv_iload_n hx hb dX8_mix_23 rfl (lv_at hl 1 rfl) ?_
    refine lv_iconst (v := 2) hx hb dX8_mix_24 (by decide) ?_
    refine lv_isub hx hb dX8_mix_25 ?_
    refine lv_topi (fun x_25 ex_25 => ?_)
    obtain rfl : x_25 = (nI (i1 - 2)) := ex_25.trans (pk_sub (b := 2) (by omega))
    refine va_iald hx hb hK hP 1 0 rfl rfl (vp_in_nI (by omega) (by omega)) dX8_mix_26 ?_
    refine lv_topi (fun x_26 _ => ?_)
    refine lv_istore_n (lv' := [(3, .int x_26), (2, .int x_24), (1, .int (nI i1)), (0, .ref h0)]) hx hb dX8_mix_27 rfl hl (by decide) rfl (fun ls hl => ?_)
    refine lv_iload_n hx hb dX8_mix_28 rfl (lv_at hl 1 rfl) ?_
    refine lv_bipush (v := 7) hx hb dX8_mix_29 (by decide) ?_
    refine lv_iushr hx hb dX8_mix_31 rfl ?_
    refine lv_topi (fun x_28 _ => ?_)
    refine lv_iload_n hx hb dX8_mix_32 rfl (lv_at hl 1 rfl) ?_
    refine lv_bipush (v := 25) hx hb dX8_mix_33 (by decide) ?_
    refine lv_ishl hx hb dX8_mix_35 ?_
    refine lv_topi (fun x_29 _ => ?_)
    refine lv_ior hx hb dX8_mix_36 ?_
    refine lv_topi (fun x_30 _ => ?_)
    refine lv_iload_n hx hb dX8_mix_37 rfl (lv_at hl 1 rfl) ?_
    refine lv_bipush (v := 18) hx hb dX8_mix_38 (by decide) ?_
    refine lv_iushr hx hb dX8_mix_40 rfl ?_
    refine lv_topi (fun x_32 _ => ?_)
    refine lv_iload_n hx hb dX8_mix_41 rfl (lv_at hl 1 rfl) ?_
    refine lv_bipush (v := 14) hx hb dX8_mix_42 (by decide) ?_
    refine lv_ishl hx hb dX8_mix_44 ?_
    refine lv_topi (fun x_33 _ => ?_)
    refine lv_ior hx hb dX8_mix_45 ?_
    refine lv_topi (fun x_34 _ => ?_)
    refine lv_ixor hx hb dX8_mix_46 ?_
    refine lv_topi (fun x_35 _ => ?_)
    refine lv_iload_n hx hb dX8_mix_47 rfl (lv_at hl 1 rfl) ?_
    refine lv_iconst (v := 3) hx hb dX8_mix_48 (by decide) ?_
    refine lv_iushr hx hb dX8_mix_49 rfl ?_
    refine lv_topi (fun x_37 _ => ?_)
    refine lv_ixor hx hb dX8_mix_50 ?_
    refine lv_topi (fun x_38 _ => ?_)
    refine lv_istore (lv' := [(4, .int x_38), (3, .int x_26), (2, .int x_24), (1, .int (nI i1)), (0, .ref h0)]) hx hb dX8_mix_51 hl (by decide) rfl (fun ls hl => ?_)
    refine lv_iload_n hx hb dX8_mix_53 rfl (lv_at hl 1 rfl) ?_
    refine lv_bipush (v := 17) hx hb dX8_mix_54 (by decide) ?_
    refine lv_iushr hx hb dX8_mix_56 rfl ?_
    refine lv_topi (fun x_40 _ => ?_)
    refine lv_iload_n hx hb dX8_mix_57 rfl (lv_at hl 1 rfl) ?_
    refine lv_bipush (v := 15) hx hb dX8_mix_58 (by decide) ?_
    refine lv_ishl hx hb dX8_mix_60 ?_
    refine lv_topi (fun x_41 _ => ?_)
    refine lv_ior hx hb dX8_mix_61 ?_
    refine lv_topi (fun x_42 _ => ?_)
    refine lv_iload_n hx hb dX8_mix_62 rfl (lv_at hl 1 rfl) ?_
    refine lv_bipush (v := 19) hx hb dX8_mix_63 (by decide) ?_
    refine lv_iushr hx hb dX8_mix_65 rfl ?_
    refine lv_topi (fun x_44 _ => ?_)
    refine lv_iload_n hx hb dX8_mix_66 rfl (lv_at hl 1 rfl) ?_
    refine lv_bipush (v := 13) hx hb dX8_mix_67 (by decide) ?_
    refine lv_ishl hx hb dX8_mix_69 ?_
    refine lv_topi (fun x_45 _ => ?_)
    refine lv_ior hx hb dX8_mix_70 ?_
    refine lv_topi (fun x_46 _ => ?_)
    refine lv_ixor hx hb dX8_mix_71 ?_
    refine lv_topi (fun x_47 _ => ?_)
    refine lv_iload_n hx hb dX8_mix_72 rfl (lv_at hl 1 rfl) ?_
    refine lv_bipush (v := 10) hx hb dX8_mix_73 (by decide) ?_
    refine lv_iushr hx hb dX8_mix_75 rfl ?_
    refine lv_topi (fun x_49 _ => ?_)
    refine lv_ixor hx hb dX8_mix_76 ?_
    refine lv_topi (fun x_50 _ => ?_)
    refine lv_istore (lv' := [(5, .int x_50), (4, .int x_38), (3, .int x_26), (2, .int x_24), (1, .int (nI i1)), (0, .ref h0)]) hx hb dX8_mix_77 hl (by decide) rfl (fun ls hl => ?_)
    refine lv_aload_n hx hb dX8_mix_79 rfl (lv_at hl 5 rfl) ?_
    refine va_get (D := (dC, dI)) (ci := 8) (v := .ref qw) (C := RX8) (T := TX8) (N := 3) hx hb hts it_8 hown hK hP 0 rfl rfl 0 (by decide) (hts _ kt_34) (fun _ h9 => h9) rfl dX8_mix_80 ?_
    refine lv_iload_n hx hb dX8_mix_83 rfl (lv_at hl 4 rfl) ?_
    refine lv_aload_n hx hb dX8_mix_84 rfl (lv_at hl 5 rfl) ?_
    refine va_get (D := (dC, dI)) (ci := 8) (v := .ref qw) (C := RX8) (T := TX8) (N := 3) hx hb hts it_8 hown hK hP 0 rfl rfl 0 (by decide) (hts _ kt_34) (fun _ h9 => h9) rfl dX8_mix_85 ?_
    refine lv_iload_n hx hb dX8_mix_88 rfl (lv_at hl 4 rfl) ?_
    refine lv_bipush (v := 16) hx hb dX8_mix_89 (by decide) ?_
    refine lv_isub hx hb dX8_mix_91 ?_
    refine lv_topi (fun x_51 ex_51 => ?_)
    obtain rfl : x_51 = (nI (i1 - 16)) := ex_51.trans (pk_sub (b := 16) (by omega))
    refine va_iald hx hb hK hP 1 0 rfl rfl (vp_in_nI (by omega) (by omega)) dX8_mix_92 ?_
    refine lv_topi (fun x_52 _ => ?_)
    refine lv_iload hx hb dX8_mix_93 (lv_at hl 1 rfl) ?_
    refine lv_iadd hx hb dX8_mix_95 ?_
    refine lv_topi (fun x_53 _ => ?_)
    refine lv_aload_n hx hb dX8_mix_96 rfl (lv_at hl 5 rfl) ?_
    refine va_get (D := (dC, dI)) (ci := 8) (v := .ref qw) (C := RX8) (T := TX8) (N := 3) hx hb hts it_8 hown hK hP 0 rfl rfl 0 (by decide) (hts _ kt_34) (fun _ h9 => h9) rfl dX8_mix_97 ?_
    refine lv_iload_n hx hb dX8_mix_100 rfl (lv_at hl 4 rfl) ?_
    refine lv_bipush (v := 7) hx hb dX8_mix_101 (by decide) ?_
    refine lv_isub hx hb dX8_mix_103 ?_
    refine lv_topi (fun x_54 ex_54 => ?_)
    obtain rfl : x_54 = (nI (i1 - 7)) := ex_54.trans (pk_sub (b := 7) (by omega))
    refine va_iald hx hb hK hP 1 0 rfl rfl (vp_in_nI (by omega) (by omega)) dX8_mix_104 ?_
    refine lv_topi (fun x_55 _ => ?_)
    refine lv_iadd hx hb dX8_mix_105 ?_
    refine lv_topi (fun x_56 _ => ?_)
    refine lv_iload hx hb dX8_mix_106 (lv_at hl 0 rfl) ?_
    refine lv_iadd hx hb dX8_mix_108 ?_
    refine lv_topi (fun x_57 _ => ?_)
    refine va_iast hx hb hK hP hD hS 1 0 rfl rfl (vp_in_nI (by omega) (by omega)) dX8_mix_109 (fun H locs hP hD hS => ?_)
    obtain ⟨f_58, hP, hD⟩ : ∃ f_58 : Nat → Int32, va_P (dC, dI) vwCl [(h0, .inr (8, [.ref qw, .ref qs, .ref qt])), (qw, .inl (cw, 64, .inl f_58)), (qs, .inl (cs, 8, .inl g0)), (qt, .inl (ct, 8, .inl k))] H ∧ va_D A [(h0, .inr (8, [.ref qw, .ref qs, .ref qt])), (qw, .inl (cw, 64, .inl f_58)), (qs, .inl (cs, 8, .inl g0)), (qt, .inl (ct, 8, .inl k))] := ⟨_, hP, hD⟩
    refine lv_iinc (v := (nI (i1 + 1))) (lv' := [(1, .int (nI (i1 + 1))), (5, .int x_50), (4, .int x_38), (3, .int x_26), (2, .int x_24), (0, .ref h0)]) hx hb dX8_mix_110 hl (k := 4) rfl (nI_1 _) (by decide) rfl (fun ls hl => ?_)
    refine lv_goto (tgt := 3) hx hb dX8_mix_113 (by decide) ?_
    refine W.widen (k := 0) (n := 0) (by omega) (by omega) ?_
    exact ih_2 ((i1 + 1), f_58) (by first | omega | exact ⟨by omega, by omega⟩) (by show 64 - (i1 + 1) < 64 - i1; omega) _ _ (hP.sub [0, 1, 2, 3] rfl) (hD.sub [0, 1, 2, 3] (by decide) rfl) hS ls (lv_sub hl [0, 5] rfl)
set_option maxHeartbeats 4000000 in
set_option maxRecDepth 100000 in
theorem c_X8_wordAt (l : Launch) (dC : Nat → ClassId) (dI : Nat → Nat → Nat) (sz : Nat) (t1 : Nat) (b : Nat) (hb0 : b < 1000) : Met l yX8_wordAt (.code yX8_wordAt cX8_wordAt 6 (some .int) :: tb) ({ frames := 0, cells := 0, slots := 0, locals := 0 }) (va_Pc [.ref t1, .int 0, .int (nI b)] (PW (dC, dI) sz [] [])) (va_Qi (fun (r : Int32) (_ : Unit) => True) (fun _ T9 => QW (dC, dI) (va_A [] sz) [] [] T9) (va_A [] sz)) 0 0 (va_A [] sz) := by
  refine Met.ofW (cc := cX8_wordAt) (maxL := 6) (ret := (some .int)) (by decide) rfl ?_
  intro p e s m args below meth c s₁ B hml hv
  obtain ⟨rfl, hsz, hP, hK, hD0, hE⟩ := hv
  have hx := B.exec
  have hb := B.bytes
  have hr := B.returns
  have hts : ∀ w ∈ tb, w.before _ s = true := fun w h => atoms_spec (ws := .code yX8_wordAt cX8_wordAt 6 (some .int) :: tb) B.pre w (List.mem_cons_of_mem _ h)
  have hown : s.vm.findClass RX8 = some m.cls := findClass_of_methodNamed B.named
  have hlocks := B.notSynchronized
  subst hsz
  have hD := hD0.self (sz := s.heap.size)
  generalize hAe : va_A [] s.heap.size = A at hD ⊢
  have hA : ∀ q : Nat, s.heap.size ≤ q → A q := fun q h => by rw [← hAe]; exact Or.inr h
  have hS : va_S A s.heap s.heap [] := va_S.rf
  have hP : va_P (dC, dI) vwCl [] s.heap := hP
  have hl := lv_entry ([.ref t1, .int 0, .int (nI b)]) (n := 6) (Nat.le_of_ble_eq_true rfl)
  rw [lg_entry_eq]
  generalize (lg_sl ([.ref t1, .int 0, .int (nI b)]) ++ List.replicate (6 - (lg_sl ([.ref t1, .int 0, .int (nI b)])).length) Slot.unset).toArray = ls at hl ⊢
  have hl : lv_has ls 6 [(0, .ref t1), (1, .int 0), (2, .int (nI b))] := hl
  refine lv_iconst (v := 0) hx hb dX8_wordAt_0 (by decide) ?_
  refine lv_istore_n (lv' := [(3, .int 0), (0, .ref t1), (1, .int 0), (2, .int (nI b))]) hx hb dX8_wordAt_1 rfl hl (by decide) rfl (fun ls hl => ?_)
  refine lv_iload_n hx hb dX8_wordAt_2 rfl (lv_at hl 3 rfl) ?_
  refine lv_istore (lv' := [(4, .int (nI b)), (3, .int 0), (0, .ref t1), (1, .int 0), (2, .int (nI b))]) hx hb dX8_wordAt_3 hl (by decide) rfl (fun ls hl => ?_)
  refine W.widen (k := 0) (n := 0) (by omega) (by omega) ?_
  refine wl_loop (σ := Nat × Int32) A (dC, dI) 5 6 (fun (i1, wv) => []) (fun (i1, wv) => [(4, .int (nI i1)), (3, .int wv), (0, .ref t1), (1, .int 0), (2, .int (nI b))]) (fun (i1, wv) => []) (fun (i1, wv) => 0) (fun (i1, wv) => 0) (fun (i1, wv) => b ≤ i1 ∧ i1 ≤ b + 4) (fun (i1, wv) => b + 4 - i1) ?_ (b, 0) (by first | omega | exact ⟨by omega, by omega⟩) _ _ (hP.sub [] rfl) (hD.sub [] (by decide) rfl) hS ls (lv_sub hl [0, 1, 2, 3, 4] rfl)
  rintro ⟨i1, wv⟩ hv_1 ih_2 H locs hP hD hS ls hl
  have hP : va_P (dC, dI) vwCl [] H := hP
  have hD : va_D A [] := hD
  have hl : lv_has ls 6 [(4, .int (nI i1)), (3, .int wv), (0, .ref t1), (1, .int 0), (2, .int (nI b))] := hl
  have hv_1 : b ≤ i1 ∧ i1 ≤ b + 4 := hv_1
  refine W.widen (k := 0) (n := 0) (Nat.le_refl _) (Nat.le_refl _) ?_
  refine W.eq (g2 := F0 m 5 ls []) rfl ?_
  obtain ⟨hv1, hv2⟩ := hv_1
  refine lv_iload hx hb dX8_wordAt_5 (lv_at hl 0 rfl) ?_
  refine lv_iload_n hx hb dX8_wordAt_7 rfl (lv_at hl 4 rfl) ?_
  refine lv_iconst (v := 4) hx hb dX8_wordAt_8 (by decide) ?_
  refine lv_iadd hx hb dX8_wordAt_9 ?_
  refine lv_topi (fun x_3 ex_3 => ?_)
  obtain rfl : x_3 = (nI (b + 4)) := ex_3.trans (nI_add b 4)
  refine lv_icmp_ge (tgt := 61) hx hb dX8_wordAt_10 (by decide) (fun c_4 => ?_) (fun c_4 => ?_)
  ·
    have hi_5 : (b + 4) ≤ i1 := leN (N := (b + 4)) c_4
    refine lv_iload_n hx hb dX8_wordAt_61 rfl (lv_at hl 1 rfl) ?_
    have hP9 := hP.sub (ws' := []) [] rfl
    have hD9 := hD.sub (ws' := []) [] (by decide) rfl
    have hK9 := hK.sub (tys' := []) [] rfl
    refine W.widen (k := 0) (n := 0) (by omega) (by omega) ?_
    exact W.iret (v := wv) hx hb hr (fun t ht hW => ⟨⟨wv, (), rfl, trivial, QW.mk ht hW hP9 hK9 hD9⟩, hS.F ht⟩) hS.2.2 dX8_wordAt_62
  ·
    have hi_6 : i1 < (b + 4) := ltN (N := (b + 4)) c_4
    refine lv_iload hx hb dX8_wordAt_13 (lv_at hl 0 rfl) ?_
    refine lv_iload_n hx hb dX8_wordAt_15 rfl (lv_at hl 3 rfl) ?_
    refine lv_icmp_ge (tgt := 32) hx hb dX8_wordAt_16 (by decide) (fun c_7 => ?_) (fun c_7 => absurd (nI_pos' (by omega)) c_7)
    refine lv_iload hx hb dX8_wordAt_32 (lv_at hl 0 rfl) ?_
    refine lv_iload_n hx hb dX8_wordAt_34 rfl (lv_at hl 3 rfl) ?_
    refine lv_icmp_ne (tgt := 44) hx hb dX8_wordAt_35 (by decide) (fun c_8 => ?_) (fun c_8 => ?_)
    ·
      refine lv_iconst (v := 0) hx hb dX8_wordAt_44 (by decide) ?_
      refine lv_istore (lv' := [(5, .int 0), (4, .int (nI i1)), (3, .int wv), (0, .ref t1), (1, .int 0), (2, .int (nI b))]) hx hb dX8_wordAt_45 hl (by decide) rfl (fun ls hl => ?_)
      refine lv_iload_n hx hb dX8_wordAt_47 rfl (lv_at hl 2 rfl) ?_
      refine lv_bipush (v := 8) hx hb dX8_wordAt_48 (by decide) ?_
      refine lv_ishl hx hb dX8_wordAt_50 ?_
      refine lv_topi (fun x_10 _ => ?_)
      refine lv_iload hx hb dX8_wordAt_51 (lv_at hl 0 rfl) ?_
      refine lv_ior hx hb dX8_wordAt_53 ?_
      refine lv_topi (fun x_11 _ => ?_)
      refine lv_istore_n (lv' := [(3, .int x_11), (5, .int 0), (4, .int (nI i1)), (0, .ref t1), (1, .int 0), (2, .int (nI b))]) hx hb dX8_wordAt_54 rfl hl (by decide) rfl (fun ls hl => ?_)
      refine lv_iinc (v := (nI (i1 + 1))) (lv' := [(4, .int (nI (i1 + 1))), (3, .int x_11), (5, .int 0), (0, .ref t1), (1, .int 0), (2, .int (nI b))]) hx hb dX8_wordAt_55 hl (k := 2) rfl (nI_1 _) (by decide) rfl (fun ls hl => ?_)
      refine lv_goto (tgt := 5) hx hb dX8_wordAt_58 (by decide) ?_
      refine W.widen (k := 0) (n := 0) (by omega) (by omega) ?_
      exact ih_2 ((i1 + 1), x_11) (by first | omega | exact ⟨by omega, by omega⟩) (by show b + 4 - (i1 + 1) < b + 4 - i1; omega) _ _ (hP.sub [] rfl) (hD.sub [] (by decide) rfl) hS ls (lv_sub hl [0, 1, 3, 4, 5] rfl)
    ·
      refine lv_sipush (v := 128) hx hb dX8_wordAt_38 (by decide) ?_
      refine lv_goto (tgt := 45) hx hb dX8_wordAt_41 (by decide) ?_
      refine lv_istore (lv' := [(5, .int 128), (4, .int (nI i1)), (3, .int wv), (0, .ref t1), (1, .int 0), (2, .int (nI b))]) hx hb dX8_wordAt_45 hl (by decide) rfl (fun ls hl => ?_)
      refine lv_iload_n hx hb dX8_wordAt_47 rfl (lv_at hl 2 rfl) ?_
      refine lv_bipush (v := 8) hx hb dX8_wordAt_48 (by decide) ?_
      refine lv_ishl hx hb dX8_wordAt_50 ?_
      refine lv_topi (fun x_13 _ => ?_)
      refine lv_iload hx hb dX8_wordAt_51 (lv_at hl 0 rfl) ?_
      refine lv_ior hx hb dX8_wordAt_53 ?_
      refine lv_topi (fun x_14 _ => ?_)
      refine lv_istore_n (lv' := [(3, .int x_14), (5, .int 128), (4, .int (nI i1)), (0, .ref t1), (1, .int 0), (2, .int (nI b))]) hx hb dX8_wordAt_54 rfl hl (by decide) rfl (fun ls hl => ?_)
      refine lv_iinc (v := (nI (i1 + 1))) (lv' := [(4, .int (nI (i1 + 1))), (3, .int x_14), (5, .int 128), (0, .ref t1), (1, .int 0), (2, .int (nI b))]) hx hb dX8_wordAt_55 hl (k := 2) rfl (nI_1 _) (by decide) rfl (fun ls hl => ?_)
      refine lv_goto (tgt := 5) hx hb dX8_wordAt_58 (by decide) ?_
      refine W.widen (k := 0) (n := 0) (by omega) (by omega) ?_
      exact ih_2 ((i1 + 1), x_14) (by first | omega | exact ⟨by omega, by omega⟩) (by show b + 4 - (i1 + 1) < b + 4 - i1; omega) _ _ (hP.sub [] rfl) (hD.sub [] (by decide) rfl) hS ls (lv_sub hl [0, 1, 3, 4, 5] rfl)
set_option maxHeartbeats 4000000 in
set_option maxRecDepth 100000 in
theorem c_X8_sumOf (l : Launch) (dC : Nat → ClassId) (dI : Nat → Nat → Nat) (sz : Nat) (h0 : Nat) (qw : Nat) (qs : Nat) (qt : Nat) (t1 : Nat) (t2 : Nat) (o1 : Nat) (o2 : Nat) (cw : ClassId) (cs : ClassId) (ct : ClassId) (co : ClassId) (f : Nat → Int32) (g0 : Nat → Int32) (k : Nat → Int32) (fo : Nat → Int32) : Met l yX8_sumOf (.code yX8_sumOf cX8_sumOf 7 none :: tb) ({ frames := 2, cells := 0, slots := 0, locals := 73 }) (va_Pc [.ref h0, .ref t1, .int 0, .ref o1] (PWS (dC, dI) sz [(h0, .inr (8, [.ref qw, .ref qs, .ref qt])), (qw, .inl (cw, 64, .inl f)), (qs, .inl (cs, 8, .inl g0)), (qt, .inl (ct, 8, .inl k)), (t1, .inr (0, [.ref t2, .int 0, .int 0])), (o1, .inr (0, [.ref o2, .int 0, .int 0])), (o2, .inl (co, 3000, .inl fo))] [(cw, .int), (cs, .int), (ct, .int), (co, .int)])) (va_Qv (fun _ : Unit => True) (fun _ T9 => QW (dC, dI) (va_A [(h0, .inr (8, [.ref qw, .ref qs, .ref qt])), (qw, .inl (cw, 64, .inl f)), (qs, .inl (cs, 8, .inl g0)), (qt, .inl (ct, 8, .inl k)), (t1, .inr (0, [.ref t2, .int 0, .int 0])), (o1, .inr (0, [.ref o2, .int 0, .int 0])), (o2, .inl (co, 3000, .inl fo))] sz) [(t1, .inr (0, [.ref t2, .int 0, .int 0])), (o1, .inr (0, [.ref o2, .int (nI 32), .int 0]))] [] T9) (va_A [(h0, .inr (8, [.ref qw, .ref qs, .ref qt])), (qw, .inl (cw, 64, .inl f)), (qs, .inl (cs, 8, .inl g0)), (qt, .inl (ct, 8, .inl k)), (t1, .inr (0, [.ref t2, .int 0, .int 0])), (o1, .inr (0, [.ref o2, .int 0, .int 0])), (o2, .inl (co, 3000, .inl fo))] sz)) 0 0 (va_A [(h0, .inr (8, [.ref qw, .ref qs, .ref qt])), (qw, .inl (cw, 64, .inl f)), (qs, .inl (cs, 8, .inl g0)), (qt, .inl (ct, 8, .inl k)), (t1, .inr (0, [.ref t2, .int 0, .int 0])), (o1, .inr (0, [.ref o2, .int 0, .int 0])), (o2, .inl (co, 3000, .inl fo))] sz) := by
  refine Met.ofW (cc := cX8_sumOf) (maxL := 7) (ret := none) (by decide) rfl ?_
  intro p e s m args below meth c s₁ B hml hv
  obtain ⟨rfl, ⟨hsz, hP, hK, hD0, hE⟩, hZ⟩ := hv
  have hx := B.exec
  have hb := B.bytes
  have hr := B.returns
  have hts : ∀ w ∈ tb, w.before _ s = true := fun w h => atoms_spec (ws := .code yX8_sumOf cX8_sumOf 7 none :: tb) B.pre w (List.mem_cons_of_mem _ h)
  have hown : s.vm.findClass RX8 = some m.cls := findClass_of_methodNamed B.named
  have hlocks := B.notSynchronized
  subst hsz
  have hD := hD0.self (sz := s.heap.size)
  generalize hAe : va_A [(h0, .inr (8, [.ref qw, .ref qs, .ref qt])), (qw, .inl (cw, 64, .inl f)), (qs, .inl (cs, 8, .inl g0)), (qt, .inl (ct, 8, .inl k)), (t1, .inr (0, [.ref t2, .int 0, .int 0])), (o1, .inr (0, [.ref o2, .int 0, .int 0])), (o2, .inl (co, 3000, .inl fo))] s.heap.size = A at hD hZ ⊢
  obtain ⟨aB, aF, fB, fF, zB, tB, zF, tF⟩ := id hZ
  have hA : ∀ q : Nat, s.heap.size ≤ q → A q := fun q h => by rw [← hAe]; exact Or.inr h
  have hS : va_S A s.heap s.heap [] := va_S.rf
  have hP : va_P (dC, dI) vwCl [(h0, .inr (8, [.ref qw, .ref qs, .ref qt])), (qw, .inl (cw, 64, .inl f)), (qs, .inl (cs, 8, .inl g0)), (qt, .inl (ct, 8, .inl k)), (t1, .inr (0, [.ref t2, .int 0, .int 0])), (o1, .inr (0, [.ref o2, .int 0, .int 0])), (o2, .inl (co, 3000, .inl fo))] s.heap := hP
  have hl := lv_entry ([.ref h0, .ref t1, .int 0, .ref o1]) (n := 7) (Nat.le_of_ble_eq_true rfl)
  rw [lg_entry_eq]
  generalize (lg_sl ([.ref h0, .ref t1, .int 0, .ref o1]) ++ List.replicate (7 - (lg_sl ([.ref h0, .ref t1, .int 0, .ref o1])).length) Slot.unset).toArray = ls at hl ⊢
  have hl : lv_has ls 7 [(0, .ref h0), (1, .ref t1), (2, .int 0), (3, .ref o1)] := hl
  refine va_gets hx hb zB hS hown (hts _ kt_249) (fun _ h9 => h9) dX8_sumOf_0 ?_
  refine lv_iconst (v := 0) hx hb dX8_sumOf_3 (by decide) ?_
  refine lv_aload_n hx hb dX8_sumOf_4 rfl (lv_at hl 0 rfl) ?_
  refine va_get (D := (dC, dI)) (ci := 8) (v := .ref qs) (C := RX8) (T := TX8) (N := 3) hx hb hts it_8 hown hK hP 0 rfl rfl 1 (by decide) (hts _ kt_35) (fun _ h9 => h9) rfl dX8_sumOf_5 ?_
  refine lv_iconst (v := 0) hx hb dX8_sumOf_8 (by decide) ?_
  refine lv_bipush (v := 8) hx hb dX8_sumOf_9 (by decide) ?_
  refine cp_ti hx hb (by rw [hml]; exact hl.1.symm) hown (hts _ kt_241) (hts _ kt_242) (hts _ kt_243) (hts _ kt_244) hK hP hD hS tB 2 1 rfl rfl (by decide) (by decide) (by decide) (by decide) (by decide) (Nat.le_of_ble_eq_true rfl) (by decide) dX8_sumOf_11 (fun H locs hP hD hS => ?_)
  obtain ⟨f_1, hP, hD⟩ : ∃ f_1 : Nat → Int32, va_P (dC, dI) vwCl [(h0, .inr (8, [.ref qw, .ref qs, .ref qt])), (qw, .inl (cw, 64, .inl f)), (qs, .inl (cs, 8, .inl f_1)), (qt, .inl (ct, 8, .inl k)), (t1, .inr (0, [.ref t2, .int 0, .int 0])), (o1, .inr (0, [.ref o2, .int 0, .int 0])), (o2, .inl (co, 3000, .inl fo))] H ∧ va_D A [(h0, .inr (8, [.ref qw, .ref qs, .ref qt])), (qw, .inl (cw, 64, .inl f)), (qs, .inl (cs, 8, .inl f_1)), (qt, .inl (ct, 8, .inl k)), (t1, .inr (0, [.ref t2, .int 0, .int 0])), (o1, .inr (0, [.ref o2, .int 0, .int 0])), (o2, .inl (co, 3000, .inl fo))] := ⟨_, hP, hD⟩
  refine lv_iload_n hx hb dX8_sumOf_14 rfl (lv_at hl 2 rfl) ?_
  refine lv_bipush (v := 9) hx hb dX8_sumOf_15 (by decide) ?_
  refine lv_iadd hx hb dX8_sumOf_17 ?_
  refine lv_topi (fun x_2 ex_2 => ?_)
  obtain rfl : x_2 = 9 := ex_2.trans (by decide)
  refine lv_bipush (v := 63) hx hb dX8_sumOf_18 (by decide) ?_
  refine lv_iadd hx hb dX8_sumOf_20 ?_
  refine lv_topi (fun x_3 ex_3 => ?_)
  obtain rfl : x_3 = 72 := ex_3.trans (by decide)
  refine lv_bipush (v := 64) hx hb dX8_sumOf_21 (by decide) ?_
  refine lv_idiv hx hb dX8_sumOf_23 (by decide) ?_
  refine lv_topi (fun x_4 ex_4 => ?_)
  obtain rfl : x_4 = 1 := ex_4.trans (by decide)
  refine lv_istore (lv' := [(4, .int 1), (0, .ref h0), (1, .ref t1), (2, .int 0), (3, .ref o1)]) hx hb dX8_sumOf_24 hl (by decide) rfl (fun ls hl => ?_)
  refine lv_iconst (v := 0) hx hb dX8_sumOf_26 (by decide) ?_
  refine lv_istore (lv' := [(5, .int 0), (4, .int 1), (0, .ref h0), (1, .ref t1), (2, .int 0), (3, .ref o1)]) hx hb dX8_sumOf_27 hl (by decide) rfl (fun ls hl => ?_)
  refine lv_iload hx hb dX8_sumOf_29 (lv_at hl 0 rfl) ?_
  refine lv_iload hx hb dX8_sumOf_31 (lv_at hl 1 rfl) ?_
  refine lv_icmp_ge (tgt := 104) hx hb dX8_sumOf_33 (by decide) (fun c_5 => absurd c_5 (by decide)) (fun c_5 => ?_)
  refine lv_iconst (v := 0) hx hb dX8_sumOf_36 (by decide) ?_
  refine lv_istore (lv' := [(6, .int 0), (5, .int 0), (4, .int 1), (0, .ref h0), (1, .ref t1), (2, .int 0), (3, .ref o1)]) hx hb dX8_sumOf_37 hl (by decide) rfl (fun ls hl => ?_)
  refine W.widen (k := 0) (n := 0) (by omega) (by omega) ?_
  refine wl_loop (σ := Nat × (Nat → Int32)) A (dC, dI) 39 7 (fun (i1, fa) => [(h0, .inr (8, [.ref qw, .ref qs, .ref qt])), (qw, .inl (cw, 64, .inl fa)), (qs, .inl (cs, 8, .inl f_1)), (qt, .inl (ct, 8, .inl k)), (t1, .inr (0, [.ref t2, .int 0, .int 0])), (o1, .inr (0, [.ref o2, .int 0, .int 0])), (o2, .inl (co, 3000, .inl fo))]) (fun (i1, fa) => [(6, .int (nI i1)), (5, .int 0), (4, .int 1), (0, .ref h0), (1, .ref t1), (2, .int 0), (3, .ref o1)]) (fun (i1, fa) => []) (fun (i1, fa) => 0) (fun (i1, fa) => 0) (fun (i1, fa) => i1 ≤ 16) (fun (i1, fa) => 16 - i1) ?_ (0, f) (by first | omega | exact ⟨by omega, by omega⟩) _ _ (hP.sub [0, 1, 2, 3, 4, 5, 6] rfl) (hD.sub [0, 1, 2, 3, 4, 5, 6] (by decide) rfl) hS ls (lv_sub hl [0, 1, 2, 3, 4, 5, 6] rfl)
  rintro ⟨i1, fa⟩ hv_6 ih_7 H locs hP hD hS ls hl
  have hP : va_P (dC, dI) vwCl [(h0, .inr (8, [.ref qw, .ref qs, .ref qt])), (qw, .inl (cw, 64, .inl fa)), (qs, .inl (cs, 8, .inl f_1)), (qt, .inl (ct, 8, .inl k)), (t1, .inr (0, [.ref t2, .int 0, .int 0])), (o1, .inr (0, [.ref o2, .int 0, .int 0])), (o2, .inl (co, 3000, .inl fo))] H := hP
  have hD : va_D A [(h0, .inr (8, [.ref qw, .ref qs, .ref qt])), (qw, .inl (cw, 64, .inl fa)), (qs, .inl (cs, 8, .inl f_1)), (qt, .inl (ct, 8, .inl k)), (t1, .inr (0, [.ref t2, .int 0, .int 0])), (o1, .inr (0, [.ref o2, .int 0, .int 0])), (o2, .inl (co, 3000, .inl fo))] := hD
  have hl : lv_has ls 7 [(6, .int (nI i1)), (5, .int 0), (4, .int 1), (0, .ref h0), (1, .ref t1), (2, .int 0), (3, .ref o1)] := hl
  have hv_6 : i1 ≤ 16 := hv_6
  refine W.widen (k := 0) (n := 0) (Nat.le_refl _) (Nat.le_refl _) ?_
  refine W.eq (g2 := F0 m 39 ls []) rfl ?_
  refine lv_iload hx hb dX8_sumOf_39 (lv_at hl 0 rfl) ?_
  refine lv_bipush (v := 16) hx hb dX8_sumOf_41 (by decide) ?_
  refine lv_icmp_ge (tgt := 74) hx hb dX8_sumOf_43 (by decide) (fun c_8 => ?_) (fun c_8 => ?_)
  ·
    have hi_9 : 16 ≤ i1 := leN (N := 16) c_8
    refine lv_iload hx hb dX8_sumOf_74 (lv_at hl 1 rfl) ?_
    refine lv_iload hx hb dX8_sumOf_76 (lv_at hl 2 rfl) ?_
    refine lv_iconst (v := 1) hx hb dX8_sumOf_78 (by decide) ?_
    refine lv_isub hx hb dX8_sumOf_79 ?_
    refine lv_topi (fun x_10 ex_10 => ?_)
    obtain rfl : x_10 = 0 := ex_10.trans (by decide)
    refine lv_icmp_ne (tgt := 94) hx hb dX8_sumOf_80 (by decide) (fun c_11 => absurd (by decide) c_11) (fun c_11 => ?_)
    refine lv_aload_n hx hb dX8_sumOf_83 rfl (lv_at hl 3 rfl) ?_
    refine va_get (D := (dC, dI)) (ci := 8) (v := .ref qw) (C := RX8) (T := TX8) (N := 3) hx hb hts it_8 hown hK hP 0 rfl rfl 0 (by decide) (hts _ kt_34) (fun _ h9 => h9) rfl dX8_sumOf_84 ?_
    refine lv_bipush (v := 15) hx hb dX8_sumOf_87 (by decide) ?_
    refine lv_iload_n hx hb dX8_sumOf_89 rfl (lv_at hl 5 rfl) ?_
    refine lv_bipush (v := 8) hx hb dX8_sumOf_90 (by decide) ?_
    refine lv_imul hx hb dX8_sumOf_92 ?_
    refine lv_topi (fun x_12 ex_12 => ?_)
    obtain rfl : x_12 = 0 := ex_12.trans (by decide)
    refine va_iast hx hb hK hP hD hS 1 0 rfl rfl (show vp_in (15 : Int32) 64 from (show vp_in (nI 15) 64 from vp_in_nI (by omega) (by omega))) dX8_sumOf_93 (fun H locs hP hD hS => ?_)
    obtain ⟨f_13, hP, hD⟩ : ∃ f_13 : Nat → Int32, va_P (dC, dI) vwCl [(h0, .inr (8, [.ref qw, .ref qs, .ref qt])), (qw, .inl (cw, 64, .inl f_13)), (qs, .inl (cs, 8, .inl f_1)), (qt, .inl (ct, 8, .inl k)), (t1, .inr (0, [.ref t2, .int 0, .int 0])), (o1, .inr (0, [.ref o2, .int 0, .int 0])), (o2, .inl (co, 3000, .inl fo))] H ∧ va_D A [(h0, .inr (8, [.ref qw, .ref qs, .ref qt])), (qw, .inl (cw, 64, .inl f_13)), (qs, .inl (cs, 8, .inl f_1)), (qt, .inl (ct, 8, .inl k)), (t1, .inr (0, [.ref t2, .int 0, .int 0])), (o1, .inr (0, [.ref o2, .int 0, .int 0])), (o2, .inl (co, 3000, .inl fo))] := ⟨_, hP, hD⟩
    refine lv_aload_n hx hb dX8_sumOf_94 rfl (lv_at hl 3 rfl) ?_
    have hPc := hP.sub (ws' := [(h0, .inr (8, [.ref qw, .ref qs, .ref qt])), (qw, .inl (cw, 64, .inl f_13)), (qs, .inl (cs, 8, .inl f_1)), (qt, .inl (ct, 8, .inl k))]) [0, 1, 2, 3] rfl
    have hDc := hD.sub (ws' := [(h0, .inr (8, [.ref qw, .ref qs, .ref qt])), (qw, .inl (cw, 64, .inl f_13)), (qs, .inl (cs, 8, .inl f_1)), (qt, .inl (ct, 8, .inl k))]) [0, 1, 2, 3] (by decide) rfl
    have hKc := hK.sub (tys' := [(cw, .int), (cs, .int), (ct, .int)]) [0, 1, 2] rfl
    have hFc := va_free (wc := [(h0, .inr (8, [.ref qw, .ref qs, .ref qt])), (qw, .inl (cw, 64, .inl f_13)), (qs, .inl (cs, 8, .inl f_1)), (qt, .inl (ct, 8, .inl k))]) hD hS hA [0, 1, 2, 3] rfl
    refine va_callv (va_runV (As := []) (rest := []) ⟨hx, hb, hml, hown, hts⟩ (c_X8_mix l dC dI H.size h0 qw qs qt cw cs ct f_13 f_1 k ) ⟨callB_of 0 hts (gi kt_250) rfl rfl rfl (hts _ kt_116) (hts _ kt_251) (by decide +kernel) ⟨Nat.le_of_ble_eq_true rfl, Nat.le_of_ble_eq_true rfl⟩, (hts _ kt_252), (hts _ kt_253)⟩ ⟨fun a U g mk q => ⟨q.1, PWS.calling q.2⟩, va_recv hKc hPc (ci := 8) (q0 := 0) rfl rfl, fun U hU hW => ⟨rfl, PWS.mk hU hW hPc hKc hDc hE hZ hS hFc⟩⟩ rfl rfl hl.1 rfl (lv_room (Nat.le_of_ble_eq_true rfl)) dX8_sumOf_95 ⟨by show _ + 0 ≤ 0; omega, by show _ + 0 ≤ 0; omega⟩) hS (fun q _ h => hFc q h) hFc (fun u t H1 locs ht hvm hw hB hz1 hk1 hS => ?_)
    obtain ⟨f2_15, g2_16, k2_17, hB1⟩ := hB
    obtain ⟨hP, hD, hK⟩ := QW.join (wr := [(t1, .inr (0, [.ref t2, .int 0, .int 0])), (o1, .inr (0, [.ref o2, .int 0, .int 0])), (o2, .inl (co, 3000, .inl fo))]) hP hD hK [0, 1, 2, 3] [4, 5, 6] rfl rfl (by decide) (by decide) hk1 hFc ht hvm hB1
    generalize H1 = H at hP hS ⊢
    have hK : va_K (dC, dI) vwCl [(cw, .int), (cs, .int), (ct, .int), (co, .int)] s := hK.sub [0, 1, 2, 3] rfl
    have hP : va_P (dC, dI) vwCl [(t1, .inr (0, [.ref t2, .int 0, .int 0])), (o1, .inr (0, [.ref o2, .int 0, .int 0])), (o2, .inl (co, 3000, .inl fo)), (h0, .inr (8, [.ref qw, .ref qs, .ref qt])), (qw, .inl (cw, 64, .inl f2_15)), (qs, .inl (cs, 8, .inl g2_16)), (qt, .inl (ct, 8, .inl k2_17))] H := hP
    have hD : va_D A [(t1, .inr (0, [.ref t2, .int 0, .int 0])), (o1, .inr (0, [.ref o2, .int 0, .int 0])), (o2, .inl (co, 3000, .inl fo)), (h0, .inr (8, [.ref qw, .ref qs, .ref qt])), (qw, .inl (cw, 64, .inl f2_15)), (qs, .inl (cs, 8, .inl g2_16)), (qt, .inl (ct, 8, .inl k2_17))] := hD
    refine lv_iinc (v := 1) (lv' := [(5, .int 1), (6, .int (nI i1)), (4, .int 1), (0, .ref h0), (1, .ref t1), (2, .int 0), (3, .ref o1)]) hx hb dX8_sumOf_98 hl (k := 1) rfl (by decide) (by decide) rfl (fun ls hl => ?_)
    refine lv_goto (tgt := 29) hx hb dX8_sumOf_101 (by decide) ?_
    refine lv_iload hx hb dX8_sumOf_29 (lv_at hl 0 rfl) ?_
    refine lv_iload hx hb dX8_sumOf_31 (lv_at hl 2 rfl) ?_
    refine lv_icmp_ge (tgt := 104) hx hb dX8_sumOf_33 (by decide) (fun c_18 => ?_) (fun c_18 => absurd (by decide) c_18)
    refine lv_aload_n hx hb dX8_sumOf_104 rfl (lv_at hl 6 rfl) ?_
    have hPc := hP.sub (ws' := [(o1, .inr (0, [.ref o2, .int 0, .int 0]))]) [1] rfl
    have hDc := hD.sub (ws' := [(o1, .inr (0, [.ref o2, .int 0, .int 0]))]) [1] (by decide) rfl
    have hKc := hK.sub (tys' := []) [] rfl
    have hFc := va_free (wc := [(o1, .inr (0, [.ref o2, .int 0, .int 0]))]) hD hS hA [1] rfl
    refine va_callv (va_runV (As := []) (rest := []) ⟨hx, hb, hml, hown, hts⟩ (c_X0_clear l dC dI H.size o1 o2 0 0 ) ⟨callB_of 0 hts (gi kt_178) rfl rfl rfl (hts _ kt_10) (hts _ kt_254) (by decide +kernel) ⟨Nat.le_of_ble_eq_true rfl, Nat.le_of_ble_eq_true rfl⟩, (hts _ kt_180), (hts _ kt_181)⟩ ⟨fun a U g mk q => ⟨q.1, PW.calling q.2⟩, va_recv hKc hPc (ci := 0) (q0 := 0) rfl rfl, fun U hU hW => ⟨rfl, PW.mk hU hW hPc hKc hDc hE⟩⟩ rfl rfl hl.1 rfl (lv_room (Nat.le_of_ble_eq_true rfl)) dX8_sumOf_105 ⟨by show _ + 0 ≤ 0; omega, by show _ + 0 ≤ 0; omega⟩) hS (fun q _ h => hFc q h) hFc (fun u t H1 locs ht hvm hw hB hz1 hk1 hS => ?_)
    have hB1 := hB
    obtain ⟨hP, hD, hK⟩ := QW.join (wr := [(t1, .inr (0, [.ref t2, .int 0, .int 0])), (o2, .inl (co, 3000, .inl fo)), (h0, .inr (8, [.ref qw, .ref qs, .ref qt])), (qw, .inl (cw, 64, .inl f2_15)), (qs, .inl (cs, 8, .inl g2_16)), (qt, .inl (ct, 8, .inl k2_17))]) hP hD hK [1] [0, 2, 3, 4, 5, 6] rfl rfl (by decide) (by decide) hk1 hFc ht hvm hB1
    generalize H1 = H at hP hS ⊢
    have hK : va_K (dC, dI) vwCl [(cw, .int), (cs, .int), (ct, .int), (co, .int)] s := hK.sub [0, 1, 2, 3] rfl
    have hP : va_P (dC, dI) vwCl [(t1, .inr (0, [.ref t2, .int 0, .int 0])), (o2, .inl (co, 3000, .inl fo)), (h0, .inr (8, [.ref qw, .ref qs, .ref qt])), (qw, .inl (cw, 64, .inl f2_15)), (qs, .inl (cs, 8, .inl g2_16)), (qt, .inl (ct, 8, .inl k2_17)), (o1, .inr (0, [.ref o2, .int 0, .int 0]))] H := hP
    have hD : va_D A [(t1, .inr (0, [.ref t2, .int 0, .int 0])), (o2, .inl (co, 3000, .inl fo)), (h0, .inr (8, [.ref qw, .ref qs, .ref qt])), (qw, .inl (cw, 64, .inl f2_15)), (qs, .inl (cs, 8, .inl g2_16)), (qt, .inl (ct, 8, .inl k2_17)), (o1, .inr (0, [.ref o2, .int 0, .int 0]))] := hD
    refine lv_iconst (v := 0) hx hb dX8_sumOf_108 (by decide) ?_
    refine lv_istore (lv' := [(5, .int 0), (6, .int (nI i1)), (4, .int 1), (0, .ref h0), (1, .ref t1), (2, .int 0), (3, .ref o1)]) hx hb dX8_sumOf_109 hl (by decide) rfl (fun ls hl => ?_)
    refine lv_iload hx hb dX8_sumOf_111 (lv_at hl 0 rfl) ?_
    refine lv_bipush (v := 8) hx hb dX8_sumOf_113 (by decide) ?_
    refine lv_icmp_ge (tgt := 135) hx hb dX8_sumOf_115 (by decide) (fun c_20 => absurd c_20 (by decide)) (fun c_20 => ?_)
    refine lv_aload_n hx hb dX8_sumOf_118 rfl (lv_at hl 6 rfl) ?_
    refine lv_aload_n hx hb dX8_sumOf_119 rfl (lv_at hl 3 rfl) ?_
    refine va_get (D := (dC, dI)) (ci := 8) (v := .ref qs) (C := RX8) (T := TX8) (N := 3) hx hb hts it_8 hown hK hP 2 rfl rfl 1 (by decide) (hts _ kt_35) (fun _ h9 => h9) rfl dX8_sumOf_120 ?_
    refine lv_iload hx hb dX8_sumOf_123 (lv_at hl 0 rfl) ?_
    refine va_iald hx hb hK hP 4 1 rfl rfl (show vp_in (0 : Int32) 8 from (show vp_in (nI 0) 8 from vp_in_nI (by omega) (by omega))) dX8_sumOf_125 ?_
    refine lv_topi (fun x_21 _ => ?_)
    have hP : va_P (dC, dI) vwCl [(t1, .inr (0, [.ref t2, .int 0, .int 0])), (o2, .inl (co, 3000, .inl fo)), (h0, .inr (8, [.ref qw, .ref qs, .ref qt])), (qw, .inl (cw, 64, .inl f2_15)), (qs, .inl (cs, 8, .inl g2_16)), (qt, .inl (ct, 8, .inl k2_17)), (o1, .inr (0, [.ref o2, .int (nI 0), .int 0]))] H := hP
    have hD : va_D A [(t1, .inr (0, [.ref t2, .int 0, .int 0])), (o2, .inl (co, 3000, .inl fo)), (h0, .inr (8, [.ref qw, .ref qs, .ref qt])), (qw, .inl (cw, 64, .inl f2_15)), (qs, .inl (cs, 8, .inl g2_16)), (qt, .inl (ct, 8, .inl k2_17)), (o1, .inr (0, [.ref o2, .int (nI 0), .int 0]))] := hD
    have hPc := hP.sub (ws' := [(o1, .inr (0, [.ref o2, .int (nI 0), .int 0])), (o2, .inl (co, 3000, .inl fo))]) [6, 1] rfl
    have hDc := hD.sub (ws' := [(o1, .inr (0, [.ref o2, .int (nI 0), .int 0])), (o2, .inl (co, 3000, .inl fo))]) [6, 1] (by decide) rfl
    have hKc := hK.sub (tys' := [(co, .int)]) [3] rfl
    have hFc := va_free (wc := [(o1, .inr (0, [.ref o2, .int (nI 0), .int 0])), (o2, .inl (co, 3000, .inl fo))]) hD hS hA [6, 1] rfl
    refine va_callv (va_runV (As := [.int x_21]) (rest := []) ⟨hx, hb, hml, hown, hts⟩ (c_X0_addFour l dC dI H.size o1 o2 0 co fo x_21 (by omega)) ⟨callB_of 1 hts (gi kt_206) rfl rfl rfl (hts _ kt_10) (hts _ kt_255) (by decide +kernel) ⟨Nat.le_of_ble_eq_true rfl, Nat.le_of_ble_eq_true rfl⟩, (hts _ kt_208), (hts _ kt_209)⟩ ⟨fun a U g mk q => ⟨q.1, PW.calling q.2⟩, va_recv hKc hPc (ci := 0) (q0 := 0) rfl rfl, fun U hU hW => ⟨rfl, PW.mk hU hW hPc hKc hDc hE⟩⟩ rfl rfl hl.1 rfl (lv_room (Nat.le_of_ble_eq_true rfl)) dX8_sumOf_126 ⟨by show _ + 0 ≤ 0; omega, by show _ + 0 ≤ 0; omega⟩) hS (fun q _ h => hFc q h) hFc (fun u t H1 locs ht hvm hw hB hz1 hk1 hS => ?_)
    obtain ⟨f2_23, hB1⟩ := hB
    obtain ⟨hP, hD, hK⟩ := QW.join (wr := [(t1, .inr (0, [.ref t2, .int 0, .int 0])), (h0, .inr (8, [.ref qw, .ref qs, .ref qt])), (qw, .inl (cw, 64, .inl f2_15)), (qs, .inl (cs, 8, .inl g2_16)), (qt, .inl (ct, 8, .inl k2_17))]) hP hD hK [6, 1] [0, 2, 3, 4, 5] rfl rfl (by decide) (by decide) hk1 hFc ht hvm hB1
    generalize H1 = H at hP hS ⊢
    have hK : va_K (dC, dI) vwCl [(cw, .int), (cs, .int), (ct, .int), (co, .int)] s := hK.sub [0, 1, 2, 3] rfl
    have hP : va_P (dC, dI) vwCl [(t1, .inr (0, [.ref t2, .int 0, .int 0])), (h0, .inr (8, [.ref qw, .ref qs, .ref qt])), (qw, .inl (cw, 64, .inl f2_15)), (qs, .inl (cs, 8, .inl g2_16)), (qt, .inl (ct, 8, .inl k2_17)), (o1, .inr (0, [.ref o2, .int (nI 4), .int 0])), (o2, .inl (co, 3000, .inl f2_23))] H := hP
    have hD : va_D A [(t1, .inr (0, [.ref t2, .int 0, .int 0])), (h0, .inr (8, [.ref qw, .ref qs, .ref qt])), (qw, .inl (cw, 64, .inl f2_15)), (qs, .inl (cs, 8, .inl g2_16)), (qt, .inl (ct, 8, .inl k2_17)), (o1, .inr (0, [.ref o2, .int (nI 4), .int 0])), (o2, .inl (co, 3000, .inl f2_23))] := hD
    refine lv_iinc (v := 1) (lv' := [(5, .int 1), (6, .int (nI i1)), (4, .int 1), (0, .ref h0), (1, .ref t1), (2, .int 0), (3, .ref o1)]) hx hb dX8_sumOf_129 hl (k := 0) rfl (by decide) (by decide) rfl (fun ls hl => ?_)
    refine lv_goto (tgt := 111) hx hb dX8_sumOf_132 (by decide) ?_
    refine lv_iload hx hb dX8_sumOf_111 (lv_at hl 0 rfl) ?_
    refine lv_bipush (v := 8) hx hb dX8_sumOf_113 (by decide) ?_
    refine lv_icmp_ge (tgt := 135) hx hb dX8_sumOf_115 (by decide) (fun c_24 => absurd c_24 (by decide)) (fun c_24 => ?_)
    refine lv_aload_n hx hb dX8_sumOf_118 rfl (lv_at hl 6 rfl) ?_
    refine lv_aload_n hx hb dX8_sumOf_119 rfl (lv_at hl 3 rfl) ?_
    refine va_get (D := (dC, dI)) (ci := 8) (v := .ref qs) (C := RX8) (T := TX8) (N := 3) hx hb hts it_8 hown hK hP 1 rfl rfl 1 (by decide) (hts _ kt_35) (fun _ h9 => h9) rfl dX8_sumOf_120 ?_
    refine lv_iload hx hb dX8_sumOf_123 (lv_at hl 0 rfl) ?_
    refine va_iald hx hb hK hP 3 1 rfl rfl (show vp_in (1 : Int32) 8 from (show vp_in (nI 1) 8 from vp_in_nI (by omega) (by omega))) dX8_sumOf_125 ?_
    refine lv_topi (fun x_25 _ => ?_)
    have hPc := hP.sub (ws' := [(o1, .inr (0, [.ref o2, .int (nI 4), .int 0])), (o2, .inl (co, 3000, .inl f2_23))]) [5, 6] rfl
    have hDc := hD.sub (ws' := [(o1, .inr (0, [.ref o2, .int (nI 4), .int 0])), (o2, .inl (co, 3000, .inl f2_23))]) [5, 6] (by decide) rfl
    have hKc := hK.sub (tys' := [(co, .int)]) [3] rfl
    have hFc := va_free (wc := [(o1, .inr (0, [.ref o2, .int (nI 4), .int 0])), (o2, .inl (co, 3000, .inl f2_23))]) hD hS hA [5, 6] rfl
    refine va_callv (va_runV (As := [.int x_25]) (rest := []) ⟨hx, hb, hml, hown, hts⟩ (c_X0_addFour l dC dI H.size o1 o2 4 co f2_23 x_25 (by omega)) ⟨callB_of 1 hts (gi kt_206) rfl rfl rfl (hts _ kt_10) (hts _ kt_255) (by decide +kernel) ⟨Nat.le_of_ble_eq_true rfl, Nat.le_of_ble_eq_true rfl⟩, (hts _ kt_208), (hts _ kt_209)⟩ ⟨fun a U g mk q => ⟨q.1, PW.calling q.2⟩, va_recv hKc hPc (ci := 0) (q0 := 0) rfl rfl, fun U hU hW => ⟨rfl, PW.mk hU hW hPc hKc hDc hE⟩⟩ rfl rfl hl.1 rfl (lv_room (Nat.le_of_ble_eq_true rfl)) dX8_sumOf_126 ⟨by show _ + 0 ≤ 0; omega, by show _ + 0 ≤ 0; omega⟩) hS (fun q _ h => hFc q h) hFc (fun u t H1 locs ht hvm hw hB hz1 hk1 hS => ?_)
    obtain ⟨f2_27, hB1⟩ := hB
    obtain ⟨hP, hD, hK⟩ := QW.join (wr := [(t1, .inr (0, [.ref t2, .int 0, .int 0])), (h0, .inr (8, [.ref qw, .ref qs, .ref qt])), (qw, .inl (cw, 64, .inl f2_15)), (qs, .inl (cs, 8, .inl g2_16)), (qt, .inl (ct, 8, .inl k2_17))]) hP hD hK [5, 6] [0, 1, 2, 3, 4] rfl rfl (by decide) (by decide) hk1 hFc ht hvm hB1
    generalize H1 = H at hP hS ⊢
    have hK : va_K (dC, dI) vwCl [(cw, .int), (cs, .int), (ct, .int), (co, .int)] s := hK.sub [0, 1, 2, 3] rfl
    have hP : va_P (dC, dI) vwCl [(t1, .inr (0, [.ref t2, .int 0, .int 0])), (h0, .inr (8, [.ref qw, .ref qs, .ref qt])), (qw, .inl (cw, 64, .inl f2_15)), (qs, .inl (cs, 8, .inl g2_16)), (qt, .inl (ct, 8, .inl k2_17)), (o1, .inr (0, [.ref o2, .int (nI 8), .int 0])), (o2, .inl (co, 3000, .inl f2_27))] H := hP
    have hD : va_D A [(t1, .inr (0, [.ref t2, .int 0, .int 0])), (h0, .inr (8, [.ref qw, .ref qs, .ref qt])), (qw, .inl (cw, 64, .inl f2_15)), (qs, .inl (cs, 8, .inl g2_16)), (qt, .inl (ct, 8, .inl k2_17)), (o1, .inr (0, [.ref o2, .int (nI 8), .int 0])), (o2, .inl (co, 3000, .inl f2_27))] := hD
    refine lv_iinc (v := 2) (lv' := [(5, .int 2), (6, .int (nI i1)), (4, .int 1), (0, .ref h0), (1, .ref t1), (2, .int 0), (3, .ref o1)]) hx hb dX8_sumOf_129 hl (k := 0) rfl (by decide) (by decide) rfl (fun ls hl => ?_)
    refine lv_goto (tgt := 111) hx hb dX8_sumOf_132 (by decide) ?_
    refine lv_iload hx hb dX8_sumOf_111 (lv_at hl 0 rfl) ?_
    refine lv_bipush (v := 8) hx hb dX8_sumOf_113 (by decide) ?_
    refine lv_icmp_ge (tgt := 135) hx hb dX8_sumOf_115 (by decide) (fun c_28 => absurd c_28 (by decide)) (fun c_28 => ?_)
    refine lv_aload_n hx hb dX8_sumOf_118 rfl (lv_at hl 6 rfl) ?_
    refine lv_aload_n hx hb dX8_sumOf_119 rfl (lv_at hl 3 rfl) ?_
    refine va_get (D := (dC, dI)) (ci := 8) (v := .ref qs) (C := RX8) (T := TX8) (N := 3) hx hb hts it_8 hown hK hP 1 rfl rfl 1 (by decide) (hts _ kt_35) (fun _ h9 => h9) rfl dX8_sumOf_120 ?_
    refine lv_iload hx hb dX8_sumOf_123 (lv_at hl 0 rfl) ?_
    refine va_iald hx hb hK hP 3 1 rfl rfl (show vp_in (2 : Int32) 8 from (show vp_in (nI 2) 8 from vp_in_nI (by omega) (by omega))) dX8_sumOf_125 ?_
    refine lv_topi (fun x_29 _ => ?_)
    have hPc := hP.sub (ws' := [(o1, .inr (0, [.ref o2, .int (nI 8), .int 0])), (o2, .inl (co, 3000, .inl f2_27))]) [5, 6] rfl
    have hDc := hD.sub (ws' := [(o1, .inr (0, [.ref o2, .int (nI 8), .int 0])), (o2, .inl (co, 3000, .inl f2_27))]) [5, 6] (by decide) rfl
    have hKc := hK.sub (tys' := [(co, .int)]) [3] rfl
    have hFc := va_free (wc := [(o1, .inr (0, [.ref o2, .int (nI 8), .int 0])), (o2, .inl (co, 3000, .inl f2_27))]) hD hS hA [5, 6] rfl
    refine va_callv (va_runV (As := [.int x_29]) (rest := []) ⟨hx, hb, hml, hown, hts⟩ (c_X0_addFour l dC dI H.size o1 o2 8 co f2_27 x_29 (by omega)) ⟨callB_of 1 hts (gi kt_206) rfl rfl rfl (hts _ kt_10) (hts _ kt_255) (by decide +kernel) ⟨Nat.le_of_ble_eq_true rfl, Nat.le_of_ble_eq_true rfl⟩, (hts _ kt_208), (hts _ kt_209)⟩ ⟨fun a U g mk q => ⟨q.1, PW.calling q.2⟩, va_recv hKc hPc (ci := 0) (q0 := 0) rfl rfl, fun U hU hW => ⟨rfl, PW.mk hU hW hPc hKc hDc hE⟩⟩ rfl rfl hl.1 rfl (lv_room (Nat.le_of_ble_eq_true rfl)) dX8_sumOf_126 ⟨by show _ + 0 ≤ 0; omega, by show _ + 0 ≤ 0; omega⟩) hS (fun q _ h => hFc q h) hFc (fun u t H1 locs ht hvm hw hB hz1 hk1 hS => ?_)
    obtain ⟨f2_31, hB1⟩ := hB
    obtain ⟨hP, hD, hK⟩ := QW.join (wr := [(t1, .inr (0, [.ref t2, .int 0, .int 0])), (h0, .inr (8, [.ref qw, .ref qs, .ref qt])), (qw, .inl (cw, 64, .inl f2_15)), (qs, .inl (cs, 8, .inl g2_16)), (qt, .inl (ct, 8, .inl k2_17))]) hP hD hK [5, 6] [0, 1, 2, 3, 4] rfl rfl (by decide) (by decide) hk1 hFc ht hvm hB1
    generalize H1 = H at hP hS ⊢
    have hK : va_K (dC, dI) vwCl [(cw, .int), (cs, .int), (ct, .int), (co, .int)] s := hK.sub [0, 1, 2, 3] rfl
    have hP : va_P (dC, dI) vwCl [(t1, .inr (0, [.ref t2, .int 0, .int 0])), (h0, .inr (8, [.ref qw, .ref qs, .ref qt])), (qw, .inl (cw, 64, .inl f2_15)), (qs, .inl (cs, 8, .inl g2_16)), (qt, .inl (ct, 8, .inl k2_17)), (o1, .inr (0, [.ref o2, .int (nI 12), .int 0])), (o2, .inl (co, 3000, .inl f2_31))] H := hP
    have hD : va_D A [(t1, .inr (0, [.ref t2, .int 0, .int 0])), (h0, .inr (8, [.ref qw, .ref qs, .ref qt])), (qw, .inl (cw, 64, .inl f2_15)), (qs, .inl (cs, 8, .inl g2_16)), (qt, .inl (ct, 8, .inl k2_17)), (o1, .inr (0, [.ref o2, .int (nI 12), .int 0])), (o2, .inl (co, 3000, .inl f2_31))] := hD
    refine lv_iinc (v := 3) (lv' := [(5, .int 3), (6, .int (nI i1)), (4, .int 1), (0, .ref h0), (1, .ref t1), (2, .int 0), (3, .ref o1)]) hx hb dX8_sumOf_129 hl (k := 0) rfl (by decide) (by decide) rfl (fun ls hl => ?_)
    refine lv_goto (tgt := 111) hx hb dX8_sumOf_132 (by decide) ?_
    refine lv_iload hx hb dX8_sumOf_111 (lv_at hl 0 rfl) ?_
    refine lv_bipush (v := 8) hx hb dX8_sumOf_113 (by decide) ?_
    refine lv_icmp_ge (tgt := 135) hx hb dX8_sumOf_115 (by decide) (fun c_32 => absurd c_32 (by decide)) (fun c_32 => ?_)
    refine lv_aload_n hx hb dX8_sumOf_118 rfl (lv_at hl 6 rfl) ?_
    refine lv_aload_n hx hb dX8_sumOf_119 rfl (lv_at hl 3 rfl) ?_
    refine va_get (D := (dC, dI)) (ci := 8) (v := .ref qs) (C := RX8) (T := TX8) (N := 3) hx hb hts it_8 hown hK hP 1 rfl rfl 1 (by decide) (hts _ kt_35) (fun _ h9 => h9) rfl dX8_sumOf_120 ?_
    refine lv_iload hx hb dX8_sumOf_123 (lv_at hl 0 rfl) ?_
    refine va_iald hx hb hK hP 3 1 rfl rfl (show vp_in (3 : Int32) 8 from (show vp_in (nI 3) 8 from vp_in_nI (by omega) (by omega))) dX8_sumOf_125 ?_
    refine lv_topi (fun x_33 _ => ?_)
    have hPc := hP.sub (ws' := [(o1, .inr (0, [.ref o2, .int (nI 12), .int 0])), (o2, .inl (co, 3000, .inl f2_31))]) [5, 6] rfl
    have hDc := hD.sub (ws' := [(o1, .inr (0, [.ref o2, .int (nI 12), .int 0])), (o2, .inl (co, 3000, .inl f2_31))]) [5, 6] (by decide) rfl
    have hKc := hK.sub (tys' := [(co, .int)]) [3] rfl
    have hFc := va_free (wc := [(o1, .inr (0, [.ref o2, .int (nI 12), .int 0])), (o2, .inl (co, 3000, .inl f2_31))]) hD hS hA [5, 6] rfl
    refine va_callv (va_runV (As := [.int x_33]) (rest := []) ⟨hx, hb, hml, hown, hts⟩ (c_X0_addFour l dC dI H.size o1 o2 12 co f2_31 x_33 (by omega)) ⟨callB_of 1 hts (gi kt_206) rfl rfl rfl (hts _ kt_10) (hts _ kt_255) (by decide +kernel) ⟨Nat.le_of_ble_eq_true rfl, Nat.le_of_ble_eq_true rfl⟩, (hts _ kt_208), (hts _ kt_209)⟩ ⟨fun a U g mk q => ⟨q.1, PW.calling q.2⟩, va_recv hKc hPc (ci := 0) (q0 := 0) rfl rfl, fun U hU hW => ⟨rfl, PW.mk hU hW hPc hKc hDc hE⟩⟩ rfl rfl hl.1 rfl (lv_room (Nat.le_of_ble_eq_true rfl)) dX8_sumOf_126 ⟨by show _ + 0 ≤ 0; omega, by show _ + 0 ≤ 0; omega⟩) hS (fun q _ h => hFc q h) hFc (fun u t H1 locs ht hvm hw hB hz1 hk1 hS => ?_)
    obtain ⟨f2_35, hB1⟩ := hB
    obtain ⟨hP, hD, hK⟩ := QW.join (wr := [(t1, .inr (0, [.ref t2, .int 0, .int 0])), (h0, .inr (8, [.ref qw, .ref qs, .ref qt])), (qw, .inl (cw, 64, .inl f2_15)), (qs, .inl (cs, 8, .inl g2_16)), (qt, .inl (ct, 8, .inl k2_17))]) hP hD hK [5, 6] [0, 1, 2, 3, 4] rfl rfl (by decide) (by decide) hk1 hFc ht hvm hB1
    generalize H1 = H at hP hS ⊢
    have hK : va_K (dC, dI) vwCl [(cw, .int), (cs, .int), (ct, .int), (co, .int)] s := hK.sub [0, 1, 2, 3] rfl
    have hP : va_P (dC, dI) vwCl [(t1, .inr (0, [.ref t2, .int 0, .int 0])), (h0, .inr (8, [.ref qw, .ref qs, .ref qt])), (qw, .inl (cw, 64, .inl f2_15)), (qs, .inl (cs, 8, .inl g2_16)), (qt, .inl (ct, 8, .inl k2_17)), (o1, .inr (0, [.ref o2, .int (nI 16), .int 0])), (o2, .inl (co, 3000, .inl f2_35))] H := hP
    have hD : va_D A [(t1, .inr (0, [.ref t2, .int 0, .int 0])), (h0, .inr (8, [.ref qw, .ref qs, .ref qt])), (qw, .inl (cw, 64, .inl f2_15)), (qs, .inl (cs, 8, .inl g2_16)), (qt, .inl (ct, 8, .inl k2_17)), (o1, .inr (0, [.ref o2, .int (nI 16), .int 0])), (o2, .inl (co, 3000, .inl f2_35))] := hD
    refine lv_iinc (v := 4) (lv' := [(5, .int 4), (6, .int (nI i1)), (4, .int 1), (0, .ref h0), (1, .ref t1), (2, .int 0), (3, .ref o1)]) hx hb dX8_sumOf_129 hl (k := 0) rfl (by decide) (by decide) rfl (fun ls hl => ?_)
    refine lv_goto (tgt := 111) hx hb dX8_sumOf_132 (by decide) ?_
    refine lv_iload hx hb dX8_sumOf_111 (lv_at hl 0 rfl) ?_
    refine lv_bipush (v := 8) hx hb dX8_sumOf_113 (by decide) ?_
    refine lv_icmp_ge (tgt := 135) hx hb dX8_sumOf_115 (by decide) (fun c_36 => absurd c_36 (by decide)) (fun c_36 => ?_)
    refine lv_aload_n hx hb dX8_sumOf_118 rfl (lv_at hl 6 rfl) ?_
    refine lv_aload_n hx hb dX8_sumOf_119 rfl (lv_at hl 3 rfl) ?_
    refine va_get (D := (dC, dI)) (ci := 8) (v := .ref qs) (C := RX8) (T := TX8) (N := 3) hx hb hts it_8 hown hK hP 1 rfl rfl 1 (by decide) (hts _ kt_35) (fun _ h9 => h9) rfl dX8_sumOf_120 ?_
    refine lv_iload hx hb dX8_sumOf_123 (lv_at hl 0 rfl) ?_
    refine va_iald hx hb hK hP 3 1 rfl rfl (show vp_in (4 : Int32) 8 from (show vp_in (nI 4) 8 from vp_in_nI (by omega) (by omega))) dX8_sumOf_125 ?_
    refine lv_topi (fun x_37 _ => ?_)
    have hPc := hP.sub (ws' := [(o1, .inr (0, [.ref o2, .int (nI 16), .int 0])), (o2, .inl (co, 3000, .inl f2_35))]) [5, 6] rfl
    have hDc := hD.sub (ws' := [(o1, .inr (0, [.ref o2, .int (nI 16), .int 0])), (o2, .inl (co, 3000, .inl f2_35))]) [5, 6] (by decide) rfl
    have hKc := hK.sub (tys' := [(co, .int)]) [3] rfl
    have hFc := va_free (wc := [(o1, .inr (0, [.ref o2, .int (nI 16), .int 0])), (o2, .inl (co, 3000, .inl f2_35))]) hD hS hA [5, 6] rfl
    refine va_callv (va_runV (As := [.int x_37]) (rest := []) ⟨hx, hb, hml, hown, hts⟩ (c_X0_addFour l dC dI H.size o1 o2 16 co f2_35 x_37 (by omega)) ⟨callB_of 1 hts (gi kt_206) rfl rfl rfl (hts _ kt_10) (hts _ kt_255) (by decide +kernel) ⟨Nat.le_of_ble_eq_true rfl, Nat.le_of_ble_eq_true rfl⟩, (hts _ kt_208), (hts _ kt_209)⟩ ⟨fun a U g mk q => ⟨q.1, PW.calling q.2⟩, va_recv hKc hPc (ci := 0) (q0 := 0) rfl rfl, fun U hU hW => ⟨rfl, PW.mk hU hW hPc hKc hDc hE⟩⟩ rfl rfl hl.1 rfl (lv_room (Nat.le_of_ble_eq_true rfl)) dX8_sumOf_126 ⟨by show _ + 0 ≤ 0; omega, by show _ + 0 ≤ 0; omega⟩) hS (fun q _ h => hFc q h) hFc (fun u t H1 locs ht hvm hw hB hz1 hk1 hS => ?_)
    obtain ⟨f2_39, hB1⟩ := hB
    obtain ⟨hP, hD, hK⟩ := QW.join (wr := [(t1, .inr (0, [.ref t2, .int 0, .int 0])), (h0, .inr (8, [.ref qw, .ref qs, .ref qt])), (qw, .inl (cw, 64, .inl f2_15)), (qs, .inl (cs, 8, .inl g2_16)), (qt, .inl (ct, 8, .inl k2_17))]) hP hD hK [5, 6] [0, 1, 2, 3, 4] rfl rfl (by decide) (by decide) hk1 hFc ht hvm hB1
    generalize H1 = H at hP hS ⊢
    have hK : va_K (dC, dI) vwCl [(cw, .int), (cs, .int), (ct, .int), (co, .int)] s := hK.sub [0, 1, 2, 3] rfl
    have hP : va_P (dC, dI) vwCl [(t1, .inr (0, [.ref t2, .int 0, .int 0])), (h0, .inr (8, [.ref qw, .ref qs, .ref qt])), (qw, .inl (cw, 64, .inl f2_15)), (qs, .inl (cs, 8, .inl g2_16)), (qt, .inl (ct, 8, .inl k2_17)), (o1, .inr (0, [.ref o2, .int (nI 20), .int 0])), (o2, .inl (co, 3000, .inl f2_39))] H := hP
    have hD : va_D A [(t1, .inr (0, [.ref t2, .int 0, .int 0])), (h0, .inr (8, [.ref qw, .ref qs, .ref qt])), (qw, .inl (cw, 64, .inl f2_15)), (qs, .inl (cs, 8, .inl g2_16)), (qt, .inl (ct, 8, .inl k2_17)), (o1, .inr (0, [.ref o2, .int (nI 20), .int 0])), (o2, .inl (co, 3000, .inl f2_39))] := hD
    refine lv_iinc (v := 5) (lv' := [(5, .int 5), (6, .int (nI i1)), (4, .int 1), (0, .ref h0), (1, .ref t1), (2, .int 0), (3, .ref o1)]) hx hb dX8_sumOf_129 hl (k := 0) rfl (by decide) (by decide) rfl (fun ls hl => ?_)
    refine lv_goto (tgt := 111) hx hb dX8_sumOf_132 (by decide) ?_
    refine lv_iload hx hb dX8_sumOf_111 (lv_at hl 0 rfl) ?_
    refine lv_bipush (v := 8) hx hb dX8_sumOf_113 (by decide) ?_
    refine lv_icmp_ge (tgt := 135) hx hb dX8_sumOf_115 (by decide) (fun c_40 => absurd c_40 (by decide)) (fun c_40 => ?_)
    refine lv_aload_n hx hb dX8_sumOf_118 rfl (lv_at hl 6 rfl) ?_
    refine lv_aload_n hx hb dX8_sumOf_119 rfl (lv_at hl 3 rfl) ?_
    refine va_get (D := (dC, dI)) (ci := 8) (v := .ref qs) (C := RX8) (T := TX8) (N := 3) hx hb hts it_8 hown hK hP 1 rfl rfl 1 (by decide) (hts _ kt_35) (fun _ h9 => h9) rfl dX8_sumOf_120 ?_
    refine lv_iload hx hb dX8_sumOf_123 (lv_at hl 0 rfl) ?_
    refine va_iald hx hb hK hP 3 1 rfl rfl (show vp_in (5 : Int32) 8 from (show vp_in (nI 5) 8 from vp_in_nI (by omega) (by omega))) dX8_sumOf_125 ?_
    refine lv_topi (fun x_41 _ => ?_)
    have hPc := hP.sub (ws' := [(o1, .inr (0, [.ref o2, .int (nI 20), .int 0])), (o2, .inl (co, 3000, .inl f2_39))]) [5, 6] rfl
    have hDc := hD.sub (ws' := [(o1, .inr (0, [.ref o2, .int (nI 20), .int 0])), (o2, .inl (co, 3000, .inl f2_39))]) [5, 6] (by decide) rfl
    have hKc := hK.sub (tys' := [(co, .int)]) [3] rfl
    have hFc := va_free (wc := [(o1, .inr (0, [.ref o2, .int (nI 20), .int 0])), (o2, .inl (co, 3000, .inl f2_39))]) hD hS hA [5, 6] rfl
    refine va_callv (va_runV (As := [.int x_41]) (rest := []) ⟨hx, hb, hml, hown, hts⟩ (c_X0_addFour l dC dI H.size o1 o2 20 co f2_39 x_41 (by omega)) ⟨callB_of 1 hts (gi kt_206) rfl rfl rfl (hts _ kt_10) (hts _ kt_255) (by decide +kernel) ⟨Nat.le_of_ble_eq_true rfl, Nat.le_of_ble_eq_true rfl⟩, (hts _ kt_208), (hts _ kt_209)⟩ ⟨fun a U g mk q => ⟨q.1, PW.calling q.2⟩, va_recv hKc hPc (ci := 0) (q0 := 0) rfl rfl, fun U hU hW => ⟨rfl, PW.mk hU hW hPc hKc hDc hE⟩⟩ rfl rfl hl.1 rfl (lv_room (Nat.le_of_ble_eq_true rfl)) dX8_sumOf_126 ⟨by show _ + 0 ≤ 0; omega, by show _ + 0 ≤ 0; omega⟩) hS (fun q _ h => hFc q h) hFc (fun u t H1 locs ht hvm hw hB hz1 hk1 hS => ?_)
    obtain ⟨f2_43, hB1⟩ := hB
    obtain ⟨hP, hD, hK⟩ := QW.join (wr := [(t1, .inr (0, [.ref t2, .int 0, .int 0])), (h0, .inr (8, [.ref qw, .ref qs, .ref qt])), (qw, .inl (cw, 64, .inl f2_15)), (qs, .inl (cs, 8, .inl g2_16)), (qt, .inl (ct, 8, .inl k2_17))]) hP hD hK [5, 6] [0, 1, 2, 3, 4] rfl rfl (by decide) (by decide) hk1 hFc ht hvm hB1
    generalize H1 = H at hP hS ⊢
    have hK : va_K (dC, dI) vwCl [(cw, .int), (cs, .int), (ct, .int), (co, .int)] s := hK.sub [0, 1, 2, 3] rfl
    have hP : va_P (dC, dI) vwCl [(t1, .inr (0, [.ref t2, .int 0, .int 0])), (h0, .inr (8, [.ref qw, .ref qs, .ref qt])), (qw, .inl (cw, 64, .inl f2_15)), (qs, .inl (cs, 8, .inl g2_16)), (qt, .inl (ct, 8, .inl k2_17)), (o1, .inr (0, [.ref o2, .int (nI 24), .int 0])), (o2, .inl (co, 3000, .inl f2_43))] H := hP
    have hD : va_D A [(t1, .inr (0, [.ref t2, .int 0, .int 0])), (h0, .inr (8, [.ref qw, .ref qs, .ref qt])), (qw, .inl (cw, 64, .inl f2_15)), (qs, .inl (cs, 8, .inl g2_16)), (qt, .inl (ct, 8, .inl k2_17)), (o1, .inr (0, [.ref o2, .int (nI 24), .int 0])), (o2, .inl (co, 3000, .inl f2_43))] := hD
    refine lv_iinc (v := 6) (lv' := [(5, .int 6), (6, .int (nI i1)), (4, .int 1), (0, .ref h0), (1, .ref t1), (2, .int 0), (3, .ref o1)]) hx hb dX8_sumOf_129 hl (k := 0) rfl (by decide) (by decide) rfl (fun ls hl => ?_)
    refine lv_goto (tgt := 111) hx hb dX8_sumOf_132 (by decide) ?_
    refine lv_iload hx hb dX8_sumOf_111 (lv_at hl 0 rfl) ?_
    refine lv_bipush (v := 8) hx hb dX8_sumOf_113 (by decide) ?_
    refine lv_icmp_ge (tgt := 135) hx hb dX8_sumOf_115 (by decide) (fun c_44 => absurd c_44 (by decide)) (fun c_44 => ?_)
    refine lv_aload_n hx hb dX8_sumOf_118 rfl (lv_at hl 6 rfl) ?_
    refine lv_aload_n hx hb dX8_sumOf_119 rfl (lv_at hl 3 rfl) ?_
    refine va_get (D := (dC, dI)) (ci := 8) (v := .ref qs) (C := RX8) (T := TX8) (N := 3) hx hb hts it_8 hown hK hP 1 rfl rfl 1 (by decide) (hts _ kt_35) (fun _ h9 => h9) rfl dX8_sumOf_120 ?_
    refine lv_iload hx hb dX8_sumOf_123 (lv_at hl 0 rfl) ?_
    refine va_iald hx hb hK hP 3 1 rfl rfl (show vp_in (6 : Int32) 8 from (show vp_in (nI 6) 8 from vp_in_nI (by omega) (by omega))) dX8_sumOf_125 ?_
    refine lv_topi (fun x_45 _ => ?_)
    have hPc := hP.sub (ws' := [(o1, .inr (0, [.ref o2, .int (nI 24), .int 0])), (o2, .inl (co, 3000, .inl f2_43))]) [5, 6] rfl
    have hDc := hD.sub (ws' := [(o1, .inr (0, [.ref o2, .int (nI 24), .int 0])), (o2, .inl (co, 3000, .inl f2_43))]) [5, 6] (by decide) rfl
    have hKc := hK.sub (tys' := [(co, .int)]) [3] rfl
    have hFc := va_free (wc := [(o1, .inr (0, [.ref o2, .int (nI 24), .int 0])), (o2, .inl (co, 3000, .inl f2_43))]) hD hS hA [5, 6] rfl
    refine va_callv (va_runV (As := [.int x_45]) (rest := []) ⟨hx, hb, hml, hown, hts⟩ (c_X0_addFour l dC dI H.size o1 o2 24 co f2_43 x_45 (by omega)) ⟨callB_of 1 hts (gi kt_206) rfl rfl rfl (hts _ kt_10) (hts _ kt_255) (by decide +kernel) ⟨Nat.le_of_ble_eq_true rfl, Nat.le_of_ble_eq_true rfl⟩, (hts _ kt_208), (hts _ kt_209)⟩ ⟨fun a U g mk q => ⟨q.1, PW.calling q.2⟩, va_recv hKc hPc (ci := 0) (q0 := 0) rfl rfl, fun U hU hW => ⟨rfl, PW.mk hU hW hPc hKc hDc hE⟩⟩ rfl rfl hl.1 rfl (lv_room (Nat.le_of_ble_eq_true rfl)) dX8_sumOf_126 ⟨by show _ + 0 ≤ 0; omega, by show _ + 0 ≤ 0; omega⟩) hS (fun q _ h => hFc q h) hFc (fun u t H1 locs ht hvm hw hB hz1 hk1 hS => ?_)
    obtain ⟨f2_47, hB1⟩ := hB
    obtain ⟨hP, hD, hK⟩ := QW.join (wr := [(t1, .inr (0, [.ref t2, .int 0, .int 0])), (h0, .inr (8, [.ref qw, .ref qs, .ref qt])), (qw, .inl (cw, 64, .inl f2_15)), (qs, .inl (cs, 8, .inl g2_16)), (qt, .inl (ct, 8, .inl k2_17))]) hP hD hK [5, 6] [0, 1, 2, 3, 4] rfl rfl (by decide) (by decide) hk1 hFc ht hvm hB1
    generalize H1 = H at hP hS ⊢
    have hK : va_K (dC, dI) vwCl [(cw, .int), (cs, .int), (ct, .int), (co, .int)] s := hK.sub [0, 1, 2, 3] rfl
    have hP : va_P (dC, dI) vwCl [(t1, .inr (0, [.ref t2, .int 0, .int 0])), (h0, .inr (8, [.ref qw, .ref qs, .ref qt])), (qw, .inl (cw, 64, .inl f2_15)), (qs, .inl (cs, 8, .inl g2_16)), (qt, .inl (ct, 8, .inl k2_17)), (o1, .inr (0, [.ref o2, .int (nI 28), .int 0])), (o2, .inl (co, 3000, .inl f2_47))] H := hP
    have hD : va_D A [(t1, .inr (0, [.ref t2, .int 0, .int 0])), (h0, .inr (8, [.ref qw, .ref qs, .ref qt])), (qw, .inl (cw, 64, .inl f2_15)), (qs, .inl (cs, 8, .inl g2_16)), (qt, .inl (ct, 8, .inl k2_17)), (o1, .inr (0, [.ref o2, .int (nI 28), .int 0])), (o2, .inl (co, 3000, .inl f2_47))] := hD
    refine lv_iinc (v := 7) (lv' := [(5, .int 7), (6, .int (nI i1)), (4, .int 1), (0, .ref h0), (1, .ref t1), (2, .int 0), (3, .ref o1)]) hx hb dX8_sumOf_129 hl (k := 0) rfl (by decide) (by decide) rfl (fun ls hl => ?_)
    refine lv_goto (tgt := 111) hx hb dX8_sumOf_132 (by decide) ?_
    refine lv_iload hx hb dX8_sumOf_111 (lv_at hl 0 rfl) ?_
    refine lv_bipush (v := 8) hx hb dX8_sumOf_113 (by decide) ?_
    refine lv_icmp_ge (tgt := 135) hx hb dX8_sumOf_115 (by decide) (fun c_48 => absurd c_48 (by decide)) (fun c_48 => ?_)
    refine lv_aload_n hx hb dX8_sumOf_118 rfl (lv_at hl 6 rfl) ?_
    refine lv_aload_n hx hb dX8_sumOf_119 rfl (lv_at hl 3 rfl) ?_
    refine va_get (D := (dC, dI)) (ci := 8) (v := .ref qs) (C := RX8) (T := TX8) (N := 3) hx hb hts it_8 hown hK hP 1 rfl rfl 1 (by decide) (hts _ kt_35) (fun _ h9 => h9) rfl dX8_sumOf_120 ?_
    refine lv_iload hx hb dX8_sumOf_123 (lv_at hl 0 rfl) ?_
    refine va_iald hx hb hK hP 3 1 rfl rfl (show vp_in (7 : Int32) 8 from (show vp_in (nI 7) 8 from vp_in_nI (by omega) (by omega))) dX8_sumOf_125 ?_
    refine lv_topi (fun x_49 _ => ?_)
    have hPc := hP.sub (ws' := [(o1, .inr (0, [.ref o2, .int (nI 28), .int 0])), (o2, .inl (co, 3000, .inl f2_47))]) [5, 6] rfl
    have hDc := hD.sub (ws' := [(o1, .inr (0, [.ref o2, .int (nI 28), .int 0])), (o2, .inl (co, 3000, .inl f2_47))]) [5, 6] (by decide) rfl
    have hKc := hK.sub (tys' := [(co, .int)]) [3] rfl
    have hFc := va_free (wc := [(o1, .inr (0, [.ref o2, .int (nI 28), .int 0])), (o2, .inl (co, 3000, .inl f2_47))]) hD hS hA [5, 6] rfl
    refine va_callv (va_runV (As := [.int x_49]) (rest := []) ⟨hx, hb, hml, hown, hts⟩ (c_X0_addFour l dC dI H.size o1 o2 28 co f2_47 x_49 (by omega)) ⟨callB_of 1 hts (gi kt_206) rfl rfl rfl (hts _ kt_10) (hts _ kt_255) (by decide +kernel) ⟨Nat.le_of_ble_eq_true rfl, Nat.le_of_ble_eq_true rfl⟩, (hts _ kt_208), (hts _ kt_209)⟩ ⟨fun a U g mk q => ⟨q.1, PW.calling q.2⟩, va_recv hKc hPc (ci := 0) (q0 := 0) rfl rfl, fun U hU hW => ⟨rfl, PW.mk hU hW hPc hKc hDc hE⟩⟩ rfl rfl hl.1 rfl (lv_room (Nat.le_of_ble_eq_true rfl)) dX8_sumOf_126 ⟨by show _ + 0 ≤ 0; omega, by show _ + 0 ≤ 0; omega⟩) hS (fun q _ h => hFc q h) hFc (fun u t H1 locs ht hvm hw hB hz1 hk1 hS => ?_)
    obtain ⟨f2_51, hB1⟩ := hB
    obtain ⟨hP, hD, hK⟩ := QW.join (wr := [(t1, .inr (0, [.ref t2, .int 0, .int 0])), (h0, .inr (8, [.ref qw, .ref qs, .ref qt])), (qw, .inl (cw, 64, .inl f2_15)), (qs, .inl (cs, 8, .inl g2_16)), (qt, .inl (ct, 8, .inl k2_17))]) hP hD hK [5, 6] [0, 1, 2, 3, 4] rfl rfl (by decide) (by decide) hk1 hFc ht hvm hB1
    generalize H1 = H at hP hS ⊢
    have hK : va_K (dC, dI) vwCl [(cw, .int), (cs, .int), (ct, .int), (co, .int)] s := hK.sub [0, 1, 2, 3] rfl
    have hP : va_P (dC, dI) vwCl [(t1, .inr (0, [.ref t2, .int 0, .int 0])), (h0, .inr (8, [.ref qw, .ref qs, .ref qt])), (qw, .inl (cw, 64, .inl f2_15)), (qs, .inl (cs, 8, .inl g2_16)), (qt, .inl (ct, 8, .inl k2_17)), (o1, .inr (0, [.ref o2, .int (nI 32), .int 0])), (o2, .inl (co, 3000, .inl f2_51))] H := hP
    have hD : va_D A [(t1, .inr (0, [.ref t2, .int 0, .int 0])), (h0, .inr (8, [.ref qw, .ref qs, .ref qt])), (qw, .inl (cw, 64, .inl f2_15)), (qs, .inl (cs, 8, .inl g2_16)), (qt, .inl (ct, 8, .inl k2_17)), (o1, .inr (0, [.ref o2, .int (nI 32), .int 0])), (o2, .inl (co, 3000, .inl f2_51))] := hD
    refine lv_iinc (v := 8) (lv' := [(5, .int 8), (6, .int (nI i1)), (4, .int 1), (0, .ref h0), (1, .ref t1), (2, .int 0), (3, .ref o1)]) hx hb dX8_sumOf_129 hl (k := 0) rfl (by decide) (by decide) rfl (fun ls hl => ?_)
    refine lv_goto (tgt := 111) hx hb dX8_sumOf_132 (by decide) ?_
    refine lv_iload hx hb dX8_sumOf_111 (lv_at hl 0 rfl) ?_
    refine lv_bipush (v := 8) hx hb dX8_sumOf_113 (by decide) ?_
    refine lv_icmp_ge (tgt := 135) hx hb dX8_sumOf_115 (by decide) (fun c_52 => ?_) (fun c_52 => absurd (by decide) c_52)
    have hP9 := hP.sub (ws' := [(t1, .inr (0, [.ref t2, .int 0, .int 0])), (o1, .inr (0, [.ref o2, .int (nI 32), .int 0]))]) [0, 5] rfl
    have hD9 := hD.sub (ws' := [(t1, .inr (0, [.ref t2, .int 0, .int 0])), (o1, .inr (0, [.ref o2, .int (nI 32), .int 0]))]) [0, 5] (by decide) rfl
    have hK9 := hK.sub (tys' := []) [] rfl
    refine W.widen (k := 0) (n := 0) (by omega) (by omega) ?_
    exact W.vret hx hb hr (fun t ht hW => ⟨⟨(), rfl, trivial, QW.mk ht hW hP9 hK9 hD9⟩, hS.F ht⟩) hS.2.2 dX8_sumOf_135
  ·
    have hi_53 : i1 < 16 := ltN (N := 16) c_8
    refine lv_aload_n hx hb dX8_sumOf_46 rfl (lv_at hl 3 rfl) ?_
    refine va_get (D := (dC, dI)) (ci := 8) (v := .ref qw) (C := RX8) (T := TX8) (N := 3) hx hb hts it_8 hown hK hP 0 rfl rfl 0 (by decide) (hts _ kt_34) (fun _ h9 => h9) rfl dX8_sumOf_47 ?_
    refine lv_iload hx hb dX8_sumOf_50 (lv_at hl 0 rfl) ?_
    refine lv_aload_n hx hb dX8_sumOf_52 rfl (lv_at hl 4 rfl) ?_
    refine lv_iload_n hx hb dX8_sumOf_53 rfl (lv_at hl 5 rfl) ?_
    refine lv_iload hx hb dX8_sumOf_54 (lv_at hl 1 rfl) ?_
    refine lv_bipush (v := 64) hx hb dX8_sumOf_56 (by decide) ?_
    refine lv_imul hx hb dX8_sumOf_58 ?_
    refine lv_topi (fun x_54 ex_54 => ?_)
    obtain rfl : x_54 = 0 := ex_54.trans (by decide)
    refine lv_iload hx hb dX8_sumOf_59 (lv_at hl 0 rfl) ?_
    refine lv_iconst (v := 4) hx hb dX8_sumOf_61 (by decide) ?_
    refine lv_imul hx hb dX8_sumOf_62 ?_
    refine lv_topi (fun x_55 ex_55 => ?_)
    obtain rfl : x_55 = (nI (i1 * 4)) := ex_55.trans (pk_mul i1 4)
    refine lv_iadd hx hb dX8_sumOf_63 ?_
    refine lv_topi (fun x_56 ex_56 => ?_)
    obtain rfl : x_56 = (nI (0 + i1 * 4)) := ex_56.trans (nI_add 0 (i1 * 4))
    have hPc := hP.sub (ws' := []) [] rfl
    have hDc := hD.sub (ws' := []) [] (by decide) rfl
    have hKc := hK.sub (tys' := []) [] rfl
    have hFc := va_free (wc := []) hD hS hA [] rfl
    refine va_calli (va_runS (As := [.ref t1, .int 0, .int (nI (0 + i1 * 4))]) (rest := [.int (nI i1), .ref qw]) ⟨hx, hb, hml, hown, hts⟩ (c_X8_wordAt l dC dI H.size t1 (0 + i1 * 4) (by omega)) ⟨callB_of 3 hts (gi kt_256) rfl rfl rfl (hts _ kt_116) (hts _ kt_257) (by decide +kernel) ⟨Nat.le_of_ble_eq_true rfl, Nat.le_of_ble_eq_true rfl⟩, (hts _ kt_258)⟩ ⟨fun a U g mk q => ⟨q.1, PW.calling q.2⟩, fun U hU hW => ⟨rfl, PW.mk hU hW hPc hKc hDc hE⟩⟩ rfl rfl hl.1 rfl (lv_room (Nat.le_of_ble_eq_true rfl)) dX8_sumOf_64 ⟨by show _ + 0 ≤ 0; omega, by show _ + 0 ≤ 0; omega⟩) hS (fun q _ h => hFc q h) hFc (fun r_57 u t H1 locs ht hvm hw hB hz1 hk1 hS => ?_)
    have hB1 := hB
    obtain ⟨hP, hD, hK⟩ := QW.join (wr := [(h0, .inr (8, [.ref qw, .ref qs, .ref qt])), (qw, .inl (cw, 64, .inl fa)), (qs, .inl (cs, 8, .inl f_1)), (qt, .inl (ct, 8, .inl k)), (t1, .inr (0, [.ref t2, .int 0, .int 0])), (o1, .inr (0, [.ref o2, .int 0, .int 0])), (o2, .inl (co, 3000, .inl fo))]) hP hD hK [] [0, 1, 2, 3, 4, 5, 6] rfl rfl (by decide) (by decide) hk1 hFc ht hvm hB1
    generalize H1 = H at hP hS ⊢
    have hK : va_K (dC, dI) vwCl [(cw, .int), (cs, .int), (ct, .int), (co, .int)] s := hK.sub [0, 1, 2, 3] rfl
    have hP : va_P (dC, dI) vwCl [(h0, .inr (8, [.ref qw, .ref qs, .ref qt])), (qw, .inl (cw, 64, .inl fa)), (qs, .inl (cs, 8, .inl f_1)), (qt, .inl (ct, 8, .inl k)), (t1, .inr (0, [.ref t2, .int 0, .int 0])), (o1, .inr (0, [.ref o2, .int 0, .int 0])), (o2, .inl (co, 3000, .inl fo))] H := hP
    have hD : va_D A [(h0, .inr (8, [.ref qw, .ref qs, .ref qt])), (qw, .inl (cw, 64, .inl fa)), (qs, .inl (cs, 8, .inl f_1)), (qt, .inl (ct, 8, .inl k)), (t1, .inr (0, [.ref t2, .int 0, .int 0])), (o1, .inr (0, [.ref o2, .int 0, .int 0])), (o2, .inl (co, 3000, .inl fo))] := hD
    have hw : True := hw
    have hw_58 := hw
    refine va_iast hx hb hK hP hD hS 1 0 rfl rfl (vp_in_nI (by omega) (by omega)) dX8_sumOf_67 (fun H locs hP hD hS => ?_)
    obtain ⟨f_59, hP, hD⟩ : ∃ f_59 : Nat → Int32, va_P (dC, dI) vwCl [(h0, .inr (8, [.ref qw, .ref qs, .ref qt])), (qw, .inl (cw, 64, .inl f_59)), (qs, .inl (cs, 8, .inl f_1)), (qt, .inl (ct, 8, .inl k)), (t1, .inr (0, [.ref t2, .int 0, .int 0])), (o1, .inr (0, [.ref o2, .int 0, .int 0])), (o2, .inl (co, 3000, .inl fo))] H ∧ va_D A [(h0, .inr (8, [.ref qw, .ref qs, .ref qt])), (qw, .inl (cw, 64, .inl f_59)), (qs, .inl (cs, 8, .inl f_1)), (qt, .inl (ct, 8, .inl k)), (t1, .inr (0, [.ref t2, .int 0, .int 0])), (o1, .inr (0, [.ref o2, .int 0, .int 0])), (o2, .inl (co, 3000, .inl fo))] := ⟨_, hP, hD⟩
    refine lv_iinc (v := (nI (i1 + 1))) (lv' := [(6, .int (nI (i1 + 1))), (5, .int 0), (4, .int 1), (0, .ref h0), (1, .ref t1), (2, .int 0), (3, .ref o1)]) hx hb dX8_sumOf_68 hl (k := 0) rfl (nI_1 _) (by decide) rfl (fun ls hl => ?_)
    refine lv_goto (tgt := 39) hx hb dX8_sumOf_71 (by decide) ?_
    refine W.widen (k := 0) (n := 0) (by omega) (by omega) ?_
    exact ih_7 ((i1 + 1), f_59) (by first | omega | exact ⟨by omega, by omega⟩) (by show 16 - (i1 + 1) < 16 - i1; omega) _ _ (hP.sub [0, 1, 2, 3, 4, 5, 6] rfl) (hD.sub [0, 1, 2, 3, 4, 5, 6] (by decide) rfl) hS ls (lv_sub hl [0, 1, 2, 3, 4, 5, 6] rfl)
set_option maxHeartbeats 4000000 in
set_option maxRecDepth 100000 in
theorem c_X11_digest (l : Launch) (dC : Nat → ClassId) (dI : Nat → Nat → Nat) (sz : Nat) (h0 : Nat) (ta : Nat) (oa : Nat) (da : Nat) (ka : Nat) (ea : Nat) (pa : Nat) (ha : Nat) (la : Nat) (sa : Nat) (tr : Nat) (orw : Nat) (sw : Nat) (ss : Nat) (sx : Nat) (co : ClassId) (cw : ClassId) (cs : ClassId) (cst : ClassId) : Met l yX11_digest (.code yX11_digest cX11_digest 1 (some .int) :: tb) ({ frames := 3, cells := 0, slots := 0, locals := 99 }) (va_Pc [.ref h0] (PWS (dC, dI) sz [(h0, .inr (11, [.ref ta, .ref oa, .ref da, .ref ka, .ref ea, .ref pa, .ref ha, .ref la, .ref sa])), (ta, .inr (0, [.ref tr, .int 0, .int 0])), (oa, .inr (0, [.ref orw, .int 0, .int 0])), (orw, .inl (co, 3000, .inl (fun _ => 0))), (ha, .inr (8, [.ref sw, .ref ss, .ref sx])), (sw, .inl (cw, 64, .inl (fun _ => 0))), (ss, .inl (cs, 8, .inl (fun _ => 0))), (sx, .inl (cst, 8, .inl (fun _ => 0)))] [(co, .int), (cw, .int), (cs, .int), (cst, .int)])) (va_Qi (fun (r : Int32) (_ : Unit) => r = 32) (fun _ T9 => QW (dC, dI) (va_A [(h0, .inr (11, [.ref ta, .ref oa, .ref da, .ref ka, .ref ea, .ref pa, .ref ha, .ref la, .ref sa])), (ta, .inr (0, [.ref tr, .int 0, .int 0])), (oa, .inr (0, [.ref orw, .int 0, .int 0])), (orw, .inl (co, 3000, .inl (fun _ => 0))), (ha, .inr (8, [.ref sw, .ref ss, .ref sx])), (sw, .inl (cw, 64, .inl (fun _ => 0))), (ss, .inl (cs, 8, .inl (fun _ => 0))), (sx, .inl (cst, 8, .inl (fun _ => 0)))] sz) [] [] T9) (va_A [(h0, .inr (11, [.ref ta, .ref oa, .ref da, .ref ka, .ref ea, .ref pa, .ref ha, .ref la, .ref sa])), (ta, .inr (0, [.ref tr, .int 0, .int 0])), (oa, .inr (0, [.ref orw, .int 0, .int 0])), (orw, .inl (co, 3000, .inl (fun _ => 0))), (ha, .inr (8, [.ref sw, .ref ss, .ref sx])), (sw, .inl (cw, 64, .inl (fun _ => 0))), (ss, .inl (cs, 8, .inl (fun _ => 0))), (sx, .inl (cst, 8, .inl (fun _ => 0)))] sz)) 0 0 (va_A [(h0, .inr (11, [.ref ta, .ref oa, .ref da, .ref ka, .ref ea, .ref pa, .ref ha, .ref la, .ref sa])), (ta, .inr (0, [.ref tr, .int 0, .int 0])), (oa, .inr (0, [.ref orw, .int 0, .int 0])), (orw, .inl (co, 3000, .inl (fun _ => 0))), (ha, .inr (8, [.ref sw, .ref ss, .ref sx])), (sw, .inl (cw, 64, .inl (fun _ => 0))), (ss, .inl (cs, 8, .inl (fun _ => 0))), (sx, .inl (cst, 8, .inl (fun _ => 0)))] sz) := by
  refine Met.ofW (cc := cX11_digest) (maxL := 1) (ret := (some .int)) (by decide) rfl ?_
  intro p e s m args below meth c s₁ B hml hv
  obtain ⟨rfl, ⟨hsz, hP, hK, hD0, hE⟩, hZ⟩ := hv
  have hx := B.exec
  have hb := B.bytes
  have hr := B.returns
  have hts : ∀ w ∈ tb, w.before _ s = true := fun w h => atoms_spec (ws := .code yX11_digest cX11_digest 1 (some .int) :: tb) B.pre w (List.mem_cons_of_mem _ h)
  have hown : s.vm.findClass RX11 = some m.cls := findClass_of_methodNamed B.named
  have hlocks := B.notSynchronized
  subst hsz
  have hD := hD0.self (sz := s.heap.size)
  generalize hAe : va_A [(h0, .inr (11, [.ref ta, .ref oa, .ref da, .ref ka, .ref ea, .ref pa, .ref ha, .ref la, .ref sa])), (ta, .inr (0, [.ref tr, .int 0, .int 0])), (oa, .inr (0, [.ref orw, .int 0, .int 0])), (orw, .inl (co, 3000, .inl (fun _ => 0))), (ha, .inr (8, [.ref sw, .ref ss, .ref sx])), (sw, .inl (cw, 64, .inl (fun _ => 0))), (ss, .inl (cs, 8, .inl (fun _ => 0))), (sx, .inl (cst, 8, .inl (fun _ => 0)))] s.heap.size = A at hD hZ ⊢
  obtain ⟨aB, aF, fB, fF, zB, tB, zF, tF⟩ := id hZ
  have hA : ∀ q : Nat, s.heap.size ≤ q → A q := fun q h => by rw [← hAe]; exact Or.inr h
  have hS : va_S A s.heap s.heap [] := va_S.rf
  have hP : va_P (dC, dI) vwCl [(h0, .inr (11, [.ref ta, .ref oa, .ref da, .ref ka, .ref ea, .ref pa, .ref ha, .ref la, .ref sa])), (ta, .inr (0, [.ref tr, .int 0, .int 0])), (oa, .inr (0, [.ref orw, .int 0, .int 0])), (orw, .inl (co, 3000, .inl (fun _ => 0))), (ha, .inr (8, [.ref sw, .ref ss, .ref sx])), (sw, .inl (cw, 64, .inl (fun _ => 0))), (ss, .inl (cs, 8, .inl (fun _ => 0))), (sx, .inl (cst, 8, .inl (fun _ => 0)))] s.heap := hP
  have hl := lv_entry ([.ref h0]) (n := 1) (Nat.le_of_ble_eq_true rfl)
  rw [lg_entry_eq]
  generalize (lg_sl ([.ref h0]) ++ List.replicate (1 - (lg_sl ([.ref h0])).length) Slot.unset).toArray = ls at hl ⊢
  have hl : lv_has ls 1 [(0, .ref h0)] := hl
  refine lv_aload_n hx hb dX11_digest_0 rfl (lv_at hl 0 rfl) ?_
  refine va_get (D := (dC, dI)) (ci := 11) (v := .ref ha) (C := RX11) (T := TX11) (N := 9) hx hb hts it_11 hown hK hP 0 rfl rfl 6 (by decide) (hts _ kt_163) (fun _ h9 => h9) rfl dX11_digest_1 ?_
  refine lv_aload_n hx hb dX11_digest_4 rfl (lv_at hl 0 rfl) ?_
  refine va_get (D := (dC, dI)) (ci := 11) (v := .ref ta) (C := RX11) (T := TX11) (N := 9) hx hb hts it_11 hown hK hP 0 rfl rfl 0 (by decide) (hts _ kt_132) (fun _ h9 => h9) rfl dX11_digest_5 ?_
  refine lv_aload_n hx hb dX11_digest_8 rfl (lv_at hl 0 rfl) ?_
  refine va_get (D := (dC, dI)) (ci := 11) (v := .ref ta) (C := RX11) (T := TX11) (N := 9) hx hb hts it_11 hown hK hP 0 rfl rfl 0 (by decide) (hts _ kt_132) (fun _ h9 => h9) rfl dX11_digest_9 ?_
  refine va_getN (D := (dC, dI)) (ci := 0) (v := .int 0) (C := RX0) (T := TX0) (N := 3) hx hb hts it_0 hown hK hP 1 rfl rfl 1 (by decide) (hE.nest kn_9) (fun _ h9 => h9) rfl dX11_digest_12 ?_
  refine lv_aload_n hx hb dX11_digest_15 rfl (lv_at hl 0 rfl) ?_
  refine va_get (D := (dC, dI)) (ci := 11) (v := .ref oa) (C := RX11) (T := TX11) (N := 9) hx hb hts it_11 hown hK hP 0 rfl rfl 1 (by decide) (hts _ kt_133) (fun _ h9 => h9) rfl dX11_digest_16 ?_
  have hPc := hP.sub (ws' := [(ha, .inr (8, [.ref sw, .ref ss, .ref sx])), (sw, .inl (cw, 64, .inl (fun _ => 0))), (ss, .inl (cs, 8, .inl (fun _ => 0))), (sx, .inl (cst, 8, .inl (fun _ => 0))), (ta, .inr (0, [.ref tr, .int 0, .int 0])), (oa, .inr (0, [.ref orw, .int 0, .int 0])), (orw, .inl (co, 3000, .inl (fun _ => 0)))]) [4, 5, 6, 7, 1, 2, 3] rfl
  have hDc := hD.sub (ws' := [(ha, .inr (8, [.ref sw, .ref ss, .ref sx])), (sw, .inl (cw, 64, .inl (fun _ => 0))), (ss, .inl (cs, 8, .inl (fun _ => 0))), (sx, .inl (cst, 8, .inl (fun _ => 0))), (ta, .inr (0, [.ref tr, .int 0, .int 0])), (oa, .inr (0, [.ref orw, .int 0, .int 0])), (orw, .inl (co, 3000, .inl (fun _ => 0)))]) [4, 5, 6, 7, 1, 2, 3] (by decide) rfl
  have hKc := hK.sub (tys' := [(cw, .int), (cs, .int), (cst, .int), (co, .int)]) [1, 2, 3, 0] rfl
  have hFc := va_free (wc := [(ha, .inr (8, [.ref sw, .ref ss, .ref sx])), (sw, .inl (cw, 64, .inl (fun _ => 0))), (ss, .inl (cs, 8, .inl (fun _ => 0))), (sx, .inl (cst, 8, .inl (fun _ => 0))), (ta, .inr (0, [.ref tr, .int 0, .int 0])), (oa, .inr (0, [.ref orw, .int 0, .int 0])), (orw, .inl (co, 3000, .inl (fun _ => 0)))]) hD hS hA [4, 5, 6, 7, 1, 2, 3] rfl
  refine va_callv (va_runV (As := [.ref ta, .int 0, .ref oa]) (rest := []) ⟨hx, hb, hml, hown, hts⟩ (c_X8_sumOf l dC dI s.heap.size ha sw ss sx ta tr oa orw cw cs cst co (fun _ => 0) (fun _ => 0) (fun _ => 0) (fun _ => 0) ) ⟨callB_of 3 hts (gi kt_259) rfl rfl rfl (hts _ kt_116) (hts _ kt_260) (by decide +kernel) ⟨Nat.le_of_ble_eq_true rfl, Nat.le_of_ble_eq_true rfl⟩, (hts _ kt_261), (hts _ kt_262)⟩ ⟨fun a U g mk q => ⟨q.1, PWS.calling q.2⟩, va_recv hKc hPc (ci := 8) (q0 := 0) rfl rfl, fun U hU hW => ⟨rfl, PWS.mk hU hW hPc hKc hDc hE hZ hS hFc⟩⟩ rfl rfl hl.1 rfl (lv_room (Nat.le_of_ble_eq_true rfl)) dX11_digest_19 ⟨by show _ + 0 ≤ 0; omega, by show _ + 0 ≤ 0; omega⟩) hS (fun q _ h => hFc q h) hFc (fun u t H1 locs ht hvm hw hB hz1 hk1 hS => ?_)
  have hB1 := hB
  obtain ⟨hP, hD, hK⟩ := QW.join (wr := [(h0, .inr (11, [.ref ta, .ref oa, .ref da, .ref ka, .ref ea, .ref pa, .ref ha, .ref la, .ref sa]))]) hP hD hK [4, 5, 6, 7, 1, 2, 3] [0] rfl rfl (by decide) (by decide) hk1 hFc ht hvm hB1
  generalize H1 = H at hP hS ⊢
  have hK : va_K (dC, dI) vwCl [(co, .int), (cw, .int), (cs, .int), (cst, .int)] s := hK.sub [0, 1, 2, 3] rfl
  have hP : va_P (dC, dI) vwCl [(h0, .inr (11, [.ref ta, .ref oa, .ref da, .ref ka, .ref ea, .ref pa, .ref ha, .ref la, .ref sa])), (ta, .inr (0, [.ref tr, .int 0, .int 0])), (oa, .inr (0, [.ref orw, .int (nI 32), .int 0]))] H := hP
  have hD : va_D A [(h0, .inr (11, [.ref ta, .ref oa, .ref da, .ref ka, .ref ea, .ref pa, .ref ha, .ref la, .ref sa])), (ta, .inr (0, [.ref tr, .int 0, .int 0])), (oa, .inr (0, [.ref orw, .int (nI 32), .int 0]))] := hD
  refine lv_aload_n hx hb dX11_digest_22 rfl (lv_at hl 0 rfl) ?_
  refine va_get (D := (dC, dI)) (ci := 11) (v := .ref ta) (C := RX11) (T := TX11) (N := 9) hx hb hts it_11 hown hK hP 0 rfl rfl 0 (by decide) (hts _ kt_132) (fun _ h9 => h9) rfl dX11_digest_23 ?_
  have hPc := hP.sub (ws' := [(ta, .inr (0, [.ref tr, .int 0, .int 0]))]) [1] rfl
  have hDc := hD.sub (ws' := [(ta, .inr (0, [.ref tr, .int 0, .int 0]))]) [1] (by decide) rfl
  have hKc := hK.sub (tys' := []) [] rfl
  have hFc := va_free (wc := [(ta, .inr (0, [.ref tr, .int 0, .int 0]))]) hD hS hA [1] rfl
  refine va_callv (va_runV (As := []) (rest := []) ⟨hx, hb, hml, hown, hts⟩ (c_X0_clear l dC dI H.size ta tr 0 0 ) ⟨callB_of 0 hts (gi kt_178) rfl rfl rfl (hts _ kt_10) (hts _ kt_218) (by decide +kernel) ⟨Nat.le_of_ble_eq_true rfl, Nat.le_of_ble_eq_true rfl⟩, (hts _ kt_180), (hts _ kt_181)⟩ ⟨fun a U g mk q => ⟨q.1, PW.calling q.2⟩, va_recv hKc hPc (ci := 0) (q0 := 0) rfl rfl, fun U hU hW => ⟨rfl, PW.mk hU hW hPc hKc hDc hE⟩⟩ rfl rfl hl.1 rfl (lv_room (Nat.le_of_ble_eq_true rfl)) dX11_digest_26 ⟨by show _ + 0 ≤ 0; omega, by show _ + 0 ≤ 0; omega⟩) hS (fun q _ h => hFc q h) hFc (fun u t H1 locs ht hvm hw hB hz1 hk1 hS => ?_)
  have hB1 := hB
  obtain ⟨hP, hD, hK⟩ := QW.join (wr := [(h0, .inr (11, [.ref ta, .ref oa, .ref da, .ref ka, .ref ea, .ref pa, .ref ha, .ref la, .ref sa])), (oa, .inr (0, [.ref orw, .int (nI 32), .int 0]))]) hP hD hK [1] [0, 2] rfl rfl (by decide) (by decide) hk1 hFc ht hvm hB1
  generalize H1 = H at hP hS ⊢
  have hK : va_K (dC, dI) vwCl [(co, .int), (cw, .int), (cs, .int), (cst, .int)] s := hK.sub [0, 1, 2, 3] rfl
  have hP : va_P (dC, dI) vwCl [(h0, .inr (11, [.ref ta, .ref oa, .ref da, .ref ka, .ref ea, .ref pa, .ref ha, .ref la, .ref sa])), (oa, .inr (0, [.ref orw, .int (nI 32), .int 0])), (ta, .inr (0, [.ref tr, .int 0, .int 0]))] H := hP
  have hD : va_D A [(h0, .inr (11, [.ref ta, .ref oa, .ref da, .ref ka, .ref ea, .ref pa, .ref ha, .ref la, .ref sa])), (oa, .inr (0, [.ref orw, .int (nI 32), .int 0])), (ta, .inr (0, [.ref tr, .int 0, .int 0]))] := hD
  refine lv_aload_n hx hb dX11_digest_29 rfl (lv_at hl 0 rfl) ?_
  refine va_get (D := (dC, dI)) (ci := 11) (v := .ref oa) (C := RX11) (T := TX11) (N := 9) hx hb hts it_11 hown hK hP 0 rfl rfl 1 (by decide) (hts _ kt_133) (fun _ h9 => h9) rfl dX11_digest_30 ?_
  refine va_getN (D := (dC, dI)) (ci := 0) (v := .int (nI 32)) (C := RX0) (T := TX0) (N := 3) hx hb hts it_0 hown hK hP 1 rfl rfl 1 (by decide) (hE.nest kn_9) (fun _ h9 => h9) rfl dX11_digest_33 ?_
  have hP9 := hP.sub (ws' := []) [] rfl
  have hD9 := hD.sub (ws' := []) [] (by decide) rfl
  have hK9 := hK.sub (tys' := []) [] rfl
  refine W.widen (k := 0) (n := 0) (by omega) (by omega) ?_
  exact W.iret (v := (nI 32)) hx hb hr (fun t ht hW => ⟨⟨(nI 32), (), rfl, rfl, QW.mk ht hW hP9 hK9 hD9⟩, hS.F ht⟩) hS.2.2 dX11_digest_36
