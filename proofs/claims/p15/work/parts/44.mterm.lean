theorem dX15_isQuad_0 : decode cX15_isQuad 0 = .ok (.iconst 0, 1) := by decide +kernel
theorem dX15_isQuad_1 : decode cX15_isQuad 1 = .ok (.istore 4, 2) := by decide +kernel
theorem dX15_isQuad_3 : decode cX15_isQuad 3 = .ok (.iconst 0, 1) := by decide +kernel
theorem dX15_isQuad_4 : decode cX15_isQuad 4 = .ok (.istore 5, 2) := by decide +kernel
theorem dX15_isQuad_6 : decode cX15_isQuad 6 = .ok (.iconst 0, 1) := by decide +kernel
theorem dX15_isQuad_7 : decode cX15_isQuad 7 = .ok (.istore 6, 2) := by decide +kernel
theorem dX15_isQuad_9 : decode cX15_isQuad 9 = .ok (.aload_n 0, 1) := by decide +kernel
theorem dX15_isQuad_10 : decode cX15_isQuad 10 = .ok (.iconst 0, 1) := by decide +kernel
theorem dX15_isQuad_11 : decode cX15_isQuad 11 = .ok (.putfield 232, 3) := by decide +kernel
theorem dX15_isQuad_14 : decode cX15_isQuad 14 = .ok (.iload_n 2, 1) := by decide +kernel
theorem dX15_isQuad_15 : decode cX15_isQuad 15 = .ok (.istore 7, 2) := by decide +kernel
theorem dX15_isQuad_17 : decode cX15_isQuad 17 = .ok (.iload 7, 2) := by decide +kernel
theorem dX15_isQuad_19 : decode cX15_isQuad 19 = .ok (.iload_n 3, 1) := by decide +kernel
theorem dX15_isQuad_20 : decode cX15_isQuad 20 = .ok (.if_icmp .gt 104, 3) := by decide +kernel
theorem dX15_isQuad_23 : decode cX15_isQuad 23 = .ok (.iload 7, 2) := by decide +kernel
theorem dX15_isQuad_25 : decode cX15_isQuad 25 = .ok (.iload_n 3, 1) := by decide +kernel
theorem dX15_isQuad_26 : decode cX15_isQuad 26 = .ok (.if_icmp .ge 39, 3) := by decide +kernel
theorem dX15_isQuad_29 : decode cX15_isQuad 29 = .ok (.aload_n 1, 1) := by decide +kernel
theorem dX15_isQuad_30 : decode cX15_isQuad 30 = .ok (.iload 7, 2) := by decide +kernel
theorem dX15_isQuad_32 : decode cX15_isQuad 32 = .ok (.baload, 1) := by decide +kernel
theorem dX15_isQuad_33 : decode cX15_isQuad 33 = .ok (.invokestatic 202, 3) := by decide +kernel
theorem dX15_isQuad_36 : decode cX15_isQuad 36 = .ok (.ifCond .eq 29, 3) := by decide +kernel
theorem dX15_isQuad_39 : decode cX15_isQuad 39 = .ok (.bipush 10, 2) := by decide +kernel
theorem dX15_isQuad_41 : decode cX15_isQuad 41 = .ok (.iload 6, 2) := by decide +kernel
theorem dX15_isQuad_43 : decode cX15_isQuad 43 = .ok (.imul, 1) := by decide +kernel
theorem dX15_isQuad_44 : decode cX15_isQuad 44 = .ok (.aload_n 1, 1) := by decide +kernel
theorem dX15_isQuad_45 : decode cX15_isQuad 45 = .ok (.iload 7, 2) := by decide +kernel
theorem dX15_isQuad_47 : decode cX15_isQuad 47 = .ok (.baload, 1) := by decide +kernel
theorem dX15_isQuad_48 : decode cX15_isQuad 48 = .ok (.iadd, 1) := by decide +kernel
theorem dX15_isQuad_49 : decode cX15_isQuad 49 = .ok (.bipush 48, 2) := by decide +kernel
theorem dX15_isQuad_51 : decode cX15_isQuad 51 = .ok (.isub, 1) := by decide +kernel
theorem dX15_isQuad_52 : decode cX15_isQuad 52 = .ok (.istore 6, 2) := by decide +kernel
theorem dX15_isQuad_54 : decode cX15_isQuad 54 = .ok (.iinc 5 1, 3) := by decide +kernel
theorem dX15_isQuad_57 : decode cX15_isQuad 57 = .ok (.iload 5, 2) := by decide +kernel
theorem dX15_isQuad_59 : decode cX15_isQuad 59 = .ok (.iconst 3, 1) := by decide +kernel
theorem dX15_isQuad_60 : decode cX15_isQuad 60 = .ok (.if_icmp .le 58, 3) := by decide +kernel
theorem dX15_isQuad_63 : decode cX15_isQuad 63 = .ok (.iconst 0, 1) := by decide +kernel
theorem dX15_isQuad_64 : decode cX15_isQuad 64 = .ok (.ireturn, 1) := by decide +kernel
theorem dX15_isQuad_65 : decode cX15_isQuad 65 = .ok (.iload 7, 2) := by decide +kernel
theorem dX15_isQuad_67 : decode cX15_isQuad 67 = .ok (.iload_n 3, 1) := by decide +kernel
theorem dX15_isQuad_68 : decode cX15_isQuad 68 = .ok (.if_icmp .ge 12, 3) := by decide +kernel
theorem dX15_isQuad_71 : decode cX15_isQuad 71 = .ok (.aload_n 1, 1) := by decide +kernel
theorem dX15_isQuad_72 : decode cX15_isQuad 72 = .ok (.iload 7, 2) := by decide +kernel
theorem dX15_isQuad_74 : decode cX15_isQuad 74 = .ok (.baload, 1) := by decide +kernel
theorem dX15_isQuad_75 : decode cX15_isQuad 75 = .ok (.bipush 46, 2) := by decide +kernel
theorem dX15_isQuad_77 : decode cX15_isQuad 77 = .ok (.if_icmp .ne 16, 3) := by decide +kernel
theorem dX15_isQuad_80 : decode cX15_isQuad 80 = .ok (.iload 5, 2) := by decide +kernel
theorem dX15_isQuad_82 : decode cX15_isQuad 82 = .ok (.ifCond .eq 11, 3) := by decide +kernel
theorem dX15_isQuad_85 : decode cX15_isQuad 85 = .ok (.iload 6, 2) := by decide +kernel
theorem dX15_isQuad_87 : decode cX15_isQuad 87 = .ok (.sipush 255, 3) := by decide +kernel
theorem dX15_isQuad_90 : decode cX15_isQuad 90 = .ok (.if_icmp .le 5, 3) := by decide +kernel
theorem dX15_isQuad_93 : decode cX15_isQuad 93 = .ok (.iconst 0, 1) := by decide +kernel
theorem dX15_isQuad_94 : decode cX15_isQuad 94 = .ok (.ireturn, 1) := by decide +kernel
theorem dX15_isQuad_95 : decode cX15_isQuad 95 = .ok (.aload_n 0, 1) := by decide +kernel
theorem dX15_isQuad_96 : decode cX15_isQuad 96 = .ok (.aload_n 0, 1) := by decide +kernel
theorem dX15_isQuad_97 : decode cX15_isQuad 97 = .ok (.getfield 232, 3) := by decide +kernel
theorem dX15_isQuad_100 : decode cX15_isQuad 100 = .ok (.bipush 8, 2) := by decide +kernel
theorem dX15_isQuad_102 : decode cX15_isQuad 102 = .ok (.ishl, 1) := by decide +kernel
theorem dX15_isQuad_103 : decode cX15_isQuad 103 = .ok (.iload 6, 2) := by decide +kernel
theorem dX15_isQuad_105 : decode cX15_isQuad 105 = .ok (.ior, 1) := by decide +kernel
theorem dX15_isQuad_106 : decode cX15_isQuad 106 = .ok (.putfield 232, 3) := by decide +kernel
theorem dX15_isQuad_109 : decode cX15_isQuad 109 = .ok (.iinc 4 1, 3) := by decide +kernel
theorem dX15_isQuad_112 : decode cX15_isQuad 112 = .ok (.iconst 0, 1) := by decide +kernel
theorem dX15_isQuad_113 : decode cX15_isQuad 113 = .ok (.istore 5, 2) := by decide +kernel
theorem dX15_isQuad_115 : decode cX15_isQuad 115 = .ok (.iconst 0, 1) := by decide +kernel
theorem dX15_isQuad_116 : decode cX15_isQuad 116 = .ok (.istore 6, 2) := by decide +kernel
theorem dX15_isQuad_118 : decode cX15_isQuad 118 = .ok (.iinc 7 1, 3) := by decide +kernel
theorem dX15_isQuad_121 : decode cX15_isQuad 121 = .ok (.goto (-104), 3) := by decide +kernel
theorem dX15_isQuad_124 : decode cX15_isQuad 124 = .ok (.iload 4, 2) := by decide +kernel
theorem dX15_isQuad_126 : decode cX15_isQuad 126 = .ok (.iconst 4, 1) := by decide +kernel
theorem dX15_isQuad_127 : decode cX15_isQuad 127 = .ok (.if_icmp .ne 7, 3) := by decide +kernel
theorem dX15_isQuad_130 : decode cX15_isQuad 130 = .ok (.iconst 1, 1) := by decide +kernel
theorem dX15_isQuad_131 : decode cX15_isQuad 131 = .ok (.goto 4, 3) := by decide +kernel
theorem dX15_isQuad_134 : decode cX15_isQuad 134 = .ok (.iconst 0, 1) := by decide +kernel
theorem dX15_isQuad_135 : decode cX15_isQuad 135 = .ok (.ireturn, 1) := by decide +kernel
theorem dX15_readHost_0 : decode cX15_readHost 0 = .ok (.aload_n 1, 1) := by decide +kernel
theorem dX15_readHost_1 : decode cX15_readHost 1 = .ok (.iload_n 2, 1) := by decide +kernel
theorem dX15_readHost_2 : decode cX15_readHost 2 = .ok (.iload_n 3, 1) := by decide +kernel
theorem dX15_readHost_3 : decode cX15_readHost 3 = .ok (.invokestatic 265, 3) := by decide +kernel
theorem dX15_readHost_6 : decode cX15_readHost 6 = .ok (.istore 5, 2) := by decide +kernel
theorem dX15_readHost_8 : decode cX15_readHost 8 = .ok (.iload 5, 2) := by decide +kernel
theorem dX15_readHost_10 : decode cX15_readHost 10 = .ok (.iload_n 3, 1) := by decide +kernel
theorem dX15_readHost_11 : decode cX15_readHost 11 = .ok (.if_icmp .ge 16, 3) := by decide +kernel
theorem dX15_readHost_14 : decode cX15_readHost 14 = .ok (.aload_n 0, 1) := by decide +kernel
theorem dX15_readHost_15 : decode cX15_readHost 15 = .ok (.aload_n 1, 1) := by decide +kernel
theorem dX15_readHost_16 : decode cX15_readHost 16 = .ok (.iload 5, 2) := by decide +kernel
theorem dX15_readHost_18 : decode cX15_readHost 18 = .ok (.iconst 1, 1) := by decide +kernel
theorem dX15_readHost_19 : decode cX15_readHost 19 = .ok (.iadd, 1) := by decide +kernel
theorem dX15_readHost_20 : decode cX15_readHost 20 = .ok (.iload_n 3, 1) := by decide +kernel
theorem dX15_readHost_21 : decode cX15_readHost 21 = .ok (.invokestatic 268, 3) := by decide +kernel
theorem dX15_readHost_24 : decode cX15_readHost 24 = .ok (.putfield 247, 3) := by decide +kernel
theorem dX15_readHost_27 : decode cX15_readHost 27 = .ok (.aload_n 0, 1) := by decide +kernel
theorem dX15_readHost_28 : decode cX15_readHost 28 = .ok (.getfield 247, 3) := by decide +kernel
theorem dX15_readHost_31 : decode cX15_readHost 31 = .ok (.ifCond .ge 4, 3) := by decide +kernel
theorem dX15_readHost_34 : decode cX15_readHost 34 = .ok (.return_, 1) := by decide +kernel
theorem dX15_readHost_35 : decode cX15_readHost 35 = .ok (.iload 5, 2) := by decide +kernel
theorem dX15_readHost_37 : decode cX15_readHost 37 = .ok (.iload_n 2, 1) := by decide +kernel
theorem dX15_readHost_38 : decode cX15_readHost 38 = .ok (.if_icmp .le 41, 3) := by decide +kernel
theorem dX15_readHost_41 : decode cX15_readHost 41 = .ok (.aload_n 0, 1) := by decide +kernel
theorem dX15_readHost_42 : decode cX15_readHost 42 = .ok (.iload_n 2, 1) := by decide +kernel
theorem dX15_readHost_43 : decode cX15_readHost 43 = .ok (.iconst 1, 1) := by decide +kernel
theorem dX15_readHost_44 : decode cX15_readHost 44 = .ok (.iadd, 1) := by decide +kernel
theorem dX15_readHost_45 : decode cX15_readHost 45 = .ok (.putfield 241, 3) := by decide +kernel
theorem dX15_readHost_48 : decode cX15_readHost 48 = .ok (.aload_n 0, 1) := by decide +kernel
theorem dX15_readHost_49 : decode cX15_readHost 49 = .ok (.iload 5, 2) := by decide +kernel
theorem dX15_readHost_51 : decode cX15_readHost 51 = .ok (.putfield 244, 3) := by decide +kernel
theorem dX15_readHost_54 : decode cX15_readHost 54 = .ok (.aload_n 1, 1) := by decide +kernel
theorem dX15_readHost_55 : decode cX15_readHost 55 = .ok (.iload_n 2, 1) := by decide +kernel
theorem dX15_readHost_56 : decode cX15_readHost 56 = .ok (.baload, 1) := by decide +kernel
theorem dX15_readHost_57 : decode cX15_readHost 57 = .ok (.bipush 58, 2) := by decide +kernel
theorem dX15_readHost_59 : decode cX15_readHost 59 = .ok (.if_icmp .ne 19, 3) := by decide +kernel
theorem dX15_readHost_62 : decode cX15_readHost 62 = .ok (.aload_n 1, 1) := by decide +kernel
theorem dX15_readHost_63 : decode cX15_readHost 63 = .ok (.aload_n 0, 1) := by decide +kernel
theorem dX15_readHost_64 : decode cX15_readHost 64 = .ok (.getfield 241, 3) := by decide +kernel
theorem dX15_readHost_67 : decode cX15_readHost 67 = .ok (.aload_n 0, 1) := by decide +kernel
theorem dX15_readHost_68 : decode cX15_readHost 68 = .ok (.getfield 244, 3) := by decide +kernel
theorem dX15_readHost_71 : decode cX15_readHost 71 = .ok (.iconst 0, 1) := by decide +kernel
theorem dX15_readHost_72 : decode cX15_readHost 72 = .ok (.invokestatic 257, 3) := by decide +kernel
theorem dX15_readHost_75 : decode cX15_readHost 75 = .ok (.ifCond .ne 4, 3) := by decide +kernel
theorem dX15_readHost_78 : decode cX15_readHost 78 = .ok (.return_, 1) := by decide +kernel
theorem dX15_readHost_79 : decode cX15_readHost 79 = .ok (.aload_n 0, 1) := by decide +kernel
theorem dX15_readHost_80 : decode cX15_readHost 80 = .ok (.iload 4, 2) := by decide +kernel
theorem dX15_readHost_82 : decode cX15_readHost 82 = .ok (.putfield 238, 3) := by decide +kernel
theorem dX15_readHost_85 : decode cX15_readHost 85 = .ok (.return_, 1) := by decide +kernel
theorem dX15_readTerm_0 : decode cX15_readTerm 0 = .ok (.iload_n 2, 1) := by decide +kernel
theorem dX15_readTerm_1 : decode cX15_readTerm 1 = .ok (.istore 4, 2) := by decide +kernel
theorem dX15_readTerm_3 : decode cX15_readTerm 3 = .ok (.aload_n 0, 1) := by decide +kernel
theorem dX15_readTerm_4 : decode cX15_readTerm 4 = .ok (.bipush 43, 2) := by decide +kernel
theorem dX15_readTerm_6 : decode cX15_readTerm 6 = .ok (.putfield 235, 3) := by decide +kernel
theorem dX15_readTerm_9 : decode cX15_readTerm 9 = .ok (.aload_n 0, 1) := by decide +kernel
theorem dX15_readTerm_10 : decode cX15_readTerm 10 = .ok (.bipush 8, 2) := by decide +kernel
theorem dX15_readTerm_12 : decode cX15_readTerm 12 = .ok (.putfield 238, 3) := by decide +kernel
theorem dX15_readTerm_15 : decode cX15_readTerm 15 = .ok (.aload_n 0, 1) := by decide +kernel
theorem dX15_readTerm_16 : decode cX15_readTerm 16 = .ok (.iconst (-1), 1) := by decide +kernel
theorem dX15_readTerm_17 : decode cX15_readTerm 17 = .ok (.putfield 241, 3) := by decide +kernel
theorem dX15_readTerm_20 : decode cX15_readTerm 20 = .ok (.aload_n 0, 1) := by decide +kernel
theorem dX15_readTerm_21 : decode cX15_readTerm 21 = .ok (.iconst (-1), 1) := by decide +kernel
theorem dX15_readTerm_22 : decode cX15_readTerm 22 = .ok (.putfield 244, 3) := by decide +kernel
theorem dX15_readTerm_25 : decode cX15_readTerm 25 = .ok (.aload_n 0, 1) := by decide +kernel
theorem dX15_readTerm_26 : decode cX15_readTerm 26 = .ok (.bipush 32, 2) := by decide +kernel
theorem dX15_readTerm_28 : decode cX15_readTerm 28 = .ok (.putfield 247, 3) := by decide +kernel
theorem dX15_readTerm_31 : decode cX15_readTerm 31 = .ok (.aload_n 1, 1) := by decide +kernel
theorem dX15_readTerm_32 : decode cX15_readTerm 32 = .ok (.iload 4, 2) := by decide +kernel
theorem dX15_readTerm_34 : decode cX15_readTerm 34 = .ok (.baload, 1) := by decide +kernel
theorem dX15_readTerm_35 : decode cX15_readTerm 35 = .ok (.bipush 43, 2) := by decide +kernel
theorem dX15_readTerm_37 : decode cX15_readTerm 37 = .ok (.if_icmp .eq 30, 3) := by decide +kernel
theorem dX15_readTerm_40 : decode cX15_readTerm 40 = .ok (.aload_n 1, 1) := by decide +kernel
theorem dX15_readTerm_41 : decode cX15_readTerm 41 = .ok (.iload 4, 2) := by decide +kernel
theorem dX15_readTerm_43 : decode cX15_readTerm 43 = .ok (.baload, 1) := by decide +kernel
theorem dX15_readTerm_44 : decode cX15_readTerm 44 = .ok (.bipush 63, 2) := by decide +kernel
theorem dX15_readTerm_46 : decode cX15_readTerm 46 = .ok (.if_icmp .eq 21, 3) := by decide +kernel
theorem dX15_readTerm_49 : decode cX15_readTerm 49 = .ok (.aload_n 1, 1) := by decide +kernel
theorem dX15_readTerm_50 : decode cX15_readTerm 50 = .ok (.iload 4, 2) := by decide +kernel
theorem dX15_readTerm_52 : decode cX15_readTerm 52 = .ok (.baload, 1) := by decide +kernel
theorem dX15_readTerm_53 : decode cX15_readTerm 53 = .ok (.bipush 126, 2) := by decide +kernel
theorem dX15_readTerm_55 : decode cX15_readTerm 55 = .ok (.if_icmp .eq 12, 3) := by decide +kernel
theorem dX15_readTerm_58 : decode cX15_readTerm 58 = .ok (.aload_n 1, 1) := by decide +kernel
theorem dX15_readTerm_59 : decode cX15_readTerm 59 = .ok (.iload 4, 2) := by decide +kernel
theorem dX15_readTerm_61 : decode cX15_readTerm 61 = .ok (.baload, 1) := by decide +kernel
theorem dX15_readTerm_62 : decode cX15_readTerm 62 = .ok (.bipush 45, 2) := by decide +kernel
theorem dX15_readTerm_64 : decode cX15_readTerm 64 = .ok (.if_icmp .ne 7, 3) := by decide +kernel
theorem dX15_readTerm_67 : decode cX15_readTerm 67 = .ok (.iconst 1, 1) := by decide +kernel
theorem dX15_readTerm_68 : decode cX15_readTerm 68 = .ok (.goto 4, 3) := by decide +kernel
theorem dX15_readTerm_71 : decode cX15_readTerm 71 = .ok (.iconst 0, 1) := by decide +kernel
theorem dX15_readTerm_72 : decode cX15_readTerm 72 = .ok (.istore 5, 2) := by decide +kernel
theorem dX15_readTerm_74 : decode cX15_readTerm 74 = .ok (.iload 5, 2) := by decide +kernel
theorem dX15_readTerm_76 : decode cX15_readTerm 76 = .ok (.ifCond .eq 14, 3) := by decide +kernel
theorem dX15_readTerm_79 : decode cX15_readTerm 79 = .ok (.aload_n 0, 1) := by decide +kernel
theorem dX15_readTerm_80 : decode cX15_readTerm 80 = .ok (.aload_n 1, 1) := by decide +kernel
theorem dX15_readTerm_81 : decode cX15_readTerm 81 = .ok (.iload 4, 2) := by decide +kernel
theorem dX15_readTerm_83 : decode cX15_readTerm 83 = .ok (.baload, 1) := by decide +kernel
theorem dX15_readTerm_84 : decode cX15_readTerm 84 = .ok (.putfield 235, 3) := by decide +kernel
theorem dX15_readTerm_87 : decode cX15_readTerm 87 = .ok (.iinc 4 1, 3) := by decide +kernel
theorem dX15_readTerm_90 : decode cX15_readTerm 90 = .ok (.aload_n 1, 1) := by decide +kernel
theorem dX15_readTerm_91 : decode cX15_readTerm 91 = .ok (.iload 4, 2) := by decide +kernel
theorem dX15_readTerm_93 : decode cX15_readTerm 93 = .ok (.iload_n 3, 1) := by decide +kernel
theorem dX15_readTerm_94 : decode cX15_readTerm 94 = .ok (.ldc 250, 2) := by decide +kernel
theorem dX15_readTerm_96 : decode cX15_readTerm 96 = .ok (.invokestatic 17, 3) := by decide +kernel
theorem dX15_readTerm_99 : decode cX15_readTerm 99 = .ok (.ifCond .eq 11, 3) := by decide +kernel
theorem dX15_readTerm_102 : decode cX15_readTerm 102 = .ok (.aload_n 0, 1) := by decide +kernel
theorem dX15_readTerm_103 : decode cX15_readTerm 103 = .ok (.iconst 0, 1) := by decide +kernel
theorem dX15_readTerm_104 : decode cX15_readTerm 104 = .ok (.putfield 238, 3) := by decide +kernel
theorem dX15_readTerm_107 : decode cX15_readTerm 107 = .ok (.goto 285, 3) := by decide +kernel
theorem dX15_readTerm_110 : decode cX15_readTerm 110 = .ok (.aload_n 1, 1) := by decide +kernel
theorem dX15_readTerm_111 : decode cX15_readTerm 111 = .ok (.iload 4, 2) := by decide +kernel
theorem dX15_readTerm_113 : decode cX15_readTerm 113 = .ok (.iload_n 3, 1) := by decide +kernel
theorem dX15_readTerm_114 : decode cX15_readTerm 114 = .ok (.ldc 252, 2) := by decide +kernel
theorem dX15_readTerm_116 : decode cX15_readTerm 116 = .ok (.invokestatic 254, 3) := by decide +kernel
theorem dX15_readTerm_119 : decode cX15_readTerm 119 = .ok (.ifCond .eq 41, 3) := by decide +kernel
theorem dX15_readTerm_122 : decode cX15_readTerm 122 = .ok (.aload_n 0, 1) := by decide +kernel
theorem dX15_readTerm_123 : decode cX15_readTerm 123 = .ok (.iload 4, 2) := by decide +kernel
theorem dX15_readTerm_125 : decode cX15_readTerm 125 = .ok (.bipush 8, 2) := by decide +kernel
theorem dX15_readTerm_127 : decode cX15_readTerm 127 = .ok (.iadd, 1) := by decide +kernel
theorem dX15_readTerm_128 : decode cX15_readTerm 128 = .ok (.putfield 241, 3) := by decide +kernel
theorem dX15_readTerm_131 : decode cX15_readTerm 131 = .ok (.aload_n 0, 1) := by decide +kernel
theorem dX15_readTerm_132 : decode cX15_readTerm 132 = .ok (.iload_n 3, 1) := by decide +kernel
theorem dX15_readTerm_133 : decode cX15_readTerm 133 = .ok (.putfield 244, 3) := by decide +kernel
theorem dX15_readTerm_136 : decode cX15_readTerm 136 = .ok (.aload_n 1, 1) := by decide +kernel
theorem dX15_readTerm_137 : decode cX15_readTerm 137 = .ok (.aload_n 0, 1) := by decide +kernel
theorem dX15_readTerm_138 : decode cX15_readTerm 138 = .ok (.getfield 241, 3) := by decide +kernel
theorem dX15_readTerm_141 : decode cX15_readTerm 141 = .ok (.aload_n 0, 1) := by decide +kernel
theorem dX15_readTerm_142 : decode cX15_readTerm 142 = .ok (.getfield 244, 3) := by decide +kernel
theorem dX15_readTerm_145 : decode cX15_readTerm 145 = .ok (.iconst 1, 1) := by decide +kernel
theorem dX15_readTerm_146 : decode cX15_readTerm 146 = .ok (.invokestatic 257, 3) := by decide +kernel
theorem dX15_readTerm_149 : decode cX15_readTerm 149 = .ok (.ifCond .eq 243, 3) := by decide +kernel
theorem dX15_readTerm_152 : decode cX15_readTerm 152 = .ok (.aload_n 0, 1) := by decide +kernel
theorem dX15_readTerm_153 : decode cX15_readTerm 153 = .ok (.iconst 1, 1) := by decide +kernel
theorem dX15_readTerm_154 : decode cX15_readTerm 154 = .ok (.putfield 238, 3) := by decide +kernel
theorem dX15_readTerm_157 : decode cX15_readTerm 157 = .ok (.goto 235, 3) := by decide +kernel
theorem dX15_readTerm_160 : decode cX15_readTerm 160 = .ok (.aload_n 1, 1) := by decide +kernel
theorem dX15_readTerm_161 : decode cX15_readTerm 161 = .ok (.iload 4, 2) := by decide +kernel
theorem dX15_readTerm_163 : decode cX15_readTerm 163 = .ok (.iload_n 3, 1) := by decide +kernel
theorem dX15_readTerm_164 : decode cX15_readTerm 164 = .ok (.ldc_w 261, 3) := by decide +kernel
theorem dX15_readTerm_167 : decode cX15_readTerm 167 = .ok (.invokestatic 254, 3) := by decide +kernel
theorem dX15_readTerm_170 : decode cX15_readTerm 170 = .ok (.ifCond .eq 41, 3) := by decide +kernel
theorem dX15_readTerm_173 : decode cX15_readTerm 173 = .ok (.aload_n 0, 1) := by decide +kernel
theorem dX15_readTerm_174 : decode cX15_readTerm 174 = .ok (.iload 4, 2) := by decide +kernel
theorem dX15_readTerm_176 : decode cX15_readTerm 176 = .ok (.bipush 7, 2) := by decide +kernel
theorem dX15_readTerm_178 : decode cX15_readTerm 178 = .ok (.iadd, 1) := by decide +kernel
theorem dX15_readTerm_179 : decode cX15_readTerm 179 = .ok (.putfield 241, 3) := by decide +kernel
theorem dX15_readTerm_182 : decode cX15_readTerm 182 = .ok (.aload_n 0, 1) := by decide +kernel
theorem dX15_readTerm_183 : decode cX15_readTerm 183 = .ok (.iload_n 3, 1) := by decide +kernel
theorem dX15_readTerm_184 : decode cX15_readTerm 184 = .ok (.putfield 244, 3) := by decide +kernel
theorem dX15_readTerm_187 : decode cX15_readTerm 187 = .ok (.aload_n 1, 1) := by decide +kernel
theorem dX15_readTerm_188 : decode cX15_readTerm 188 = .ok (.aload_n 0, 1) := by decide +kernel
theorem dX15_readTerm_189 : decode cX15_readTerm 189 = .ok (.getfield 241, 3) := by decide +kernel
theorem dX15_readTerm_192 : decode cX15_readTerm 192 = .ok (.aload_n 0, 1) := by decide +kernel
theorem dX15_readTerm_193 : decode cX15_readTerm 193 = .ok (.getfield 244, 3) := by decide +kernel
theorem dX15_readTerm_196 : decode cX15_readTerm 196 = .ok (.iconst 1, 1) := by decide +kernel
theorem dX15_readTerm_197 : decode cX15_readTerm 197 = .ok (.invokestatic 257, 3) := by decide +kernel
theorem dX15_readTerm_200 : decode cX15_readTerm 200 = .ok (.ifCond .eq 192, 3) := by decide +kernel
theorem dX15_readTerm_203 : decode cX15_readTerm 203 = .ok (.aload_n 0, 1) := by decide +kernel
theorem dX15_readTerm_204 : decode cX15_readTerm 204 = .ok (.iconst 5, 1) := by decide +kernel
theorem dX15_readTerm_205 : decode cX15_readTerm 205 = .ok (.putfield 238, 3) := by decide +kernel
theorem dX15_readTerm_208 : decode cX15_readTerm 208 = .ok (.goto 184, 3) := by decide +kernel
theorem dX15_readTerm_211 : decode cX15_readTerm 211 = .ok (.aload_n 1, 1) := by decide +kernel
theorem dX15_readTerm_212 : decode cX15_readTerm 212 = .ok (.iload 4, 2) := by decide +kernel
theorem dX15_readTerm_214 : decode cX15_readTerm 214 = .ok (.iload_n 3, 1) := by decide +kernel
theorem dX15_readTerm_215 : decode cX15_readTerm 215 = .ok (.ldc_w 263, 3) := by decide +kernel
theorem dX15_readTerm_218 : decode cX15_readTerm 218 = .ok (.invokestatic 254, 3) := by decide +kernel
theorem dX15_readTerm_221 : decode cX15_readTerm 221 = .ok (.ifCond .eq 60, 3) := by decide +kernel
theorem dX15_readTerm_224 : decode cX15_readTerm 224 = .ok (.aload_n 1, 1) := by decide +kernel
theorem dX15_readTerm_225 : decode cX15_readTerm 225 = .ok (.iload 4, 2) := by decide +kernel
theorem dX15_readTerm_227 : decode cX15_readTerm 227 = .ok (.iload_n 3, 1) := by decide +kernel
theorem dX15_readTerm_228 : decode cX15_readTerm 228 = .ok (.invokestatic 265, 3) := by decide +kernel
theorem dX15_readTerm_231 : decode cX15_readTerm 231 = .ok (.istore 6, 2) := by decide +kernel
theorem dX15_readTerm_233 : decode cX15_readTerm 233 = .ok (.iload 6, 2) := by decide +kernel
theorem dX15_readTerm_235 : decode cX15_readTerm 235 = .ok (.iload_n 3, 1) := by decide +kernel
theorem dX15_readTerm_236 : decode cX15_readTerm 236 = .ok (.if_icmp .ge 16, 3) := by decide +kernel
theorem dX15_readTerm_239 : decode cX15_readTerm 239 = .ok (.aload_n 0, 1) := by decide +kernel
theorem dX15_readTerm_240 : decode cX15_readTerm 240 = .ok (.aload_n 1, 1) := by decide +kernel
theorem dX15_readTerm_241 : decode cX15_readTerm 241 = .ok (.iload 6, 2) := by decide +kernel
theorem dX15_readTerm_243 : decode cX15_readTerm 243 = .ok (.iconst 1, 1) := by decide +kernel
theorem dX15_readTerm_244 : decode cX15_readTerm 244 = .ok (.iadd, 1) := by decide +kernel
theorem dX15_readTerm_245 : decode cX15_readTerm 245 = .ok (.iload_n 3, 1) := by decide +kernel
theorem dX15_readTerm_246 : decode cX15_readTerm 246 = .ok (.invokestatic 268, 3) := by decide +kernel
theorem dX15_readTerm_249 : decode cX15_readTerm 249 = .ok (.putfield 247, 3) := by decide +kernel
theorem dX15_readTerm_252 : decode cX15_readTerm 252 = .ok (.aload_n 0, 1) := by decide +kernel
theorem dX15_readTerm_253 : decode cX15_readTerm 253 = .ok (.aload_n 1, 1) := by decide +kernel
theorem dX15_readTerm_254 : decode cX15_readTerm 254 = .ok (.iload 4, 2) := by decide +kernel
theorem dX15_readTerm_256 : decode cX15_readTerm 256 = .ok (.iconst 4, 1) := by decide +kernel
theorem dX15_readTerm_257 : decode cX15_readTerm 257 = .ok (.iadd, 1) := by decide +kernel
theorem dX15_readTerm_258 : decode cX15_readTerm 258 = .ok (.iload 6, 2) := by decide +kernel
theorem dX15_readTerm_260 : decode cX15_readTerm 260 = .ok (.invokevirtual 271, 3) := by decide +kernel
theorem dX15_readTerm_263 : decode cX15_readTerm 263 = .ok (.ifCond .eq 15, 3) := by decide +kernel
theorem dX15_readTerm_266 : decode cX15_readTerm 266 = .ok (.aload_n 0, 1) := by decide +kernel
theorem dX15_readTerm_267 : decode cX15_readTerm 267 = .ok (.getfield 247, 3) := by decide +kernel
theorem dX15_readTerm_270 : decode cX15_readTerm 270 = .ok (.ifCond .lt 8, 3) := by decide +kernel
theorem dX15_readTerm_273 : decode cX15_readTerm 273 = .ok (.aload_n 0, 1) := by decide +kernel
theorem dX15_readTerm_274 : decode cX15_readTerm 274 = .ok (.iconst 4, 1) := by decide +kernel
theorem dX15_readTerm_275 : decode cX15_readTerm 275 = .ok (.putfield 238, 3) := by decide +kernel
theorem dX15_readTerm_278 : decode cX15_readTerm 278 = .ok (.goto 114, 3) := by decide +kernel
theorem dX15_readTerm_281 : decode cX15_readTerm 281 = .ok (.aload_n 1, 1) := by decide +kernel
theorem dX15_readTerm_282 : decode cX15_readTerm 282 = .ok (.iload 4, 2) := by decide +kernel
theorem dX15_readTerm_284 : decode cX15_readTerm 284 = .ok (.iload_n 3, 1) := by decide +kernel
theorem dX15_readTerm_285 : decode cX15_readTerm 285 = .ok (.ldc_w 274, 3) := by decide +kernel
theorem dX15_readTerm_288 : decode cX15_readTerm 288 = .ok (.invokestatic 254, 3) := by decide +kernel
theorem dX15_readTerm_291 : decode cX15_readTerm 291 = .ok (.ifCond .eq 47, 3) := by decide +kernel
theorem dX15_readTerm_294 : decode cX15_readTerm 294 = .ok (.iload_n 3, 1) := by decide +kernel
theorem dX15_readTerm_295 : decode cX15_readTerm 295 = .ok (.iload 4, 2) := by decide +kernel
theorem dX15_readTerm_297 : decode cX15_readTerm 297 = .ok (.iconst 1, 1) := by decide +kernel
theorem dX15_readTerm_298 : decode cX15_readTerm 298 = .ok (.iadd, 1) := by decide +kernel
theorem dX15_readTerm_299 : decode cX15_readTerm 299 = .ok (.if_icmp .eq 25, 3) := by decide +kernel
theorem dX15_readTerm_302 : decode cX15_readTerm 302 = .ok (.aload_n 1, 1) := by decide +kernel
theorem dX15_readTerm_303 : decode cX15_readTerm 303 = .ok (.iload 4, 2) := by decide +kernel
theorem dX15_readTerm_305 : decode cX15_readTerm 305 = .ok (.iconst 1, 1) := by decide +kernel
theorem dX15_readTerm_306 : decode cX15_readTerm 306 = .ok (.iadd, 1) := by decide +kernel
theorem dX15_readTerm_307 : decode cX15_readTerm 307 = .ok (.baload, 1) := by decide +kernel
theorem dX15_readTerm_308 : decode cX15_readTerm 308 = .ok (.bipush 58, 2) := by decide +kernel
theorem dX15_readTerm_310 : decode cX15_readTerm 310 = .ok (.if_icmp .eq 14, 3) := by decide +kernel
theorem dX15_readTerm_313 : decode cX15_readTerm 313 = .ok (.aload_n 1, 1) := by decide +kernel
theorem dX15_readTerm_314 : decode cX15_readTerm 314 = .ok (.iload 4, 2) := by decide +kernel
theorem dX15_readTerm_316 : decode cX15_readTerm 316 = .ok (.iconst 1, 1) := by decide +kernel
theorem dX15_readTerm_317 : decode cX15_readTerm 317 = .ok (.iadd, 1) := by decide +kernel
theorem dX15_readTerm_318 : decode cX15_readTerm 318 = .ok (.baload, 1) := by decide +kernel
theorem dX15_readTerm_319 : decode cX15_readTerm 319 = .ok (.bipush 47, 2) := by decide +kernel
theorem dX15_readTerm_321 : decode cX15_readTerm 321 = .ok (.if_icmp .ne 17, 3) := by decide +kernel
theorem dX15_readTerm_324 : decode cX15_readTerm 324 = .ok (.aload_n 0, 1) := by decide +kernel
theorem dX15_readTerm_325 : decode cX15_readTerm 325 = .ok (.aload_n 1, 1) := by decide +kernel
theorem dX15_readTerm_326 : decode cX15_readTerm 326 = .ok (.iload 4, 2) := by decide +kernel
theorem dX15_readTerm_328 : decode cX15_readTerm 328 = .ok (.iconst 1, 1) := by decide +kernel
theorem dX15_readTerm_329 : decode cX15_readTerm 329 = .ok (.iadd, 1) := by decide +kernel
theorem dX15_readTerm_330 : decode cX15_readTerm 330 = .ok (.iload_n 3, 1) := by decide +kernel
theorem dX15_readTerm_331 : decode cX15_readTerm 331 = .ok (.iconst 2, 1) := by decide +kernel
theorem dX15_readTerm_332 : decode cX15_readTerm 332 = .ok (.invokevirtual 276, 3) := by decide +kernel
theorem dX15_readTerm_335 : decode cX15_readTerm 335 = .ok (.goto 57, 3) := by decide +kernel
theorem dX15_readTerm_338 : decode cX15_readTerm 338 = .ok (.aload_n 1, 1) := by decide +kernel
theorem dX15_readTerm_339 : decode cX15_readTerm 339 = .ok (.iload 4, 2) := by decide +kernel
theorem dX15_readTerm_341 : decode cX15_readTerm 341 = .ok (.iload_n 3, 1) := by decide +kernel
theorem dX15_readTerm_342 : decode cX15_readTerm 342 = .ok (.ldc_w 280, 3) := by decide +kernel
theorem dX15_readTerm_345 : decode cX15_readTerm 345 = .ok (.invokestatic 254, 3) := by decide +kernel
theorem dX15_readTerm_348 : decode cX15_readTerm 348 = .ok (.ifCond .eq 44, 3) := by decide +kernel
theorem dX15_readTerm_351 : decode cX15_readTerm 351 = .ok (.iload_n 3, 1) := by decide +kernel
theorem dX15_readTerm_352 : decode cX15_readTerm 352 = .ok (.iload 4, 2) := by decide +kernel
theorem dX15_readTerm_354 : decode cX15_readTerm 354 = .ok (.iconst 2, 1) := by decide +kernel
theorem dX15_readTerm_355 : decode cX15_readTerm 355 = .ok (.iadd, 1) := by decide +kernel
theorem dX15_readTerm_356 : decode cX15_readTerm 356 = .ok (.if_icmp .eq 25, 3) := by decide +kernel
theorem dX15_readTerm_359 : decode cX15_readTerm 359 = .ok (.aload_n 1, 1) := by decide +kernel
theorem dX15_readTerm_360 : decode cX15_readTerm 360 = .ok (.iload 4, 2) := by decide +kernel
theorem dX15_readTerm_362 : decode cX15_readTerm 362 = .ok (.iconst 2, 1) := by decide +kernel
theorem dX15_readTerm_363 : decode cX15_readTerm 363 = .ok (.iadd, 1) := by decide +kernel
theorem dX15_readTerm_364 : decode cX15_readTerm 364 = .ok (.baload, 1) := by decide +kernel
theorem dX15_readTerm_365 : decode cX15_readTerm 365 = .ok (.bipush 58, 2) := by decide +kernel
theorem dX15_readTerm_367 : decode cX15_readTerm 367 = .ok (.if_icmp .eq 14, 3) := by decide +kernel
theorem dX15_readTerm_370 : decode cX15_readTerm 370 = .ok (.aload_n 1, 1) := by decide +kernel
theorem dX15_readTerm_371 : decode cX15_readTerm 371 = .ok (.iload 4, 2) := by decide +kernel
theorem dX15_readTerm_373 : decode cX15_readTerm 373 = .ok (.iconst 2, 1) := by decide +kernel
theorem dX15_readTerm_374 : decode cX15_readTerm 374 = .ok (.iadd, 1) := by decide +kernel
theorem dX15_readTerm_375 : decode cX15_readTerm 375 = .ok (.baload, 1) := by decide +kernel
theorem dX15_readTerm_376 : decode cX15_readTerm 376 = .ok (.bipush 47, 2) := by decide +kernel
theorem dX15_readTerm_378 : decode cX15_readTerm 378 = .ok (.if_icmp .ne 14, 3) := by decide +kernel
theorem dX15_readTerm_381 : decode cX15_readTerm 381 = .ok (.aload_n 0, 1) := by decide +kernel
theorem dX15_readTerm_382 : decode cX15_readTerm 382 = .ok (.aload_n 1, 1) := by decide +kernel
theorem dX15_readTerm_383 : decode cX15_readTerm 383 = .ok (.iload 4, 2) := by decide +kernel
theorem dX15_readTerm_385 : decode cX15_readTerm 385 = .ok (.iconst 2, 1) := by decide +kernel
theorem dX15_readTerm_386 : decode cX15_readTerm 386 = .ok (.iadd, 1) := by decide +kernel
theorem dX15_readTerm_387 : decode cX15_readTerm 387 = .ok (.iload_n 3, 1) := by decide +kernel
theorem dX15_readTerm_388 : decode cX15_readTerm 388 = .ok (.iconst 3, 1) := by decide +kernel
theorem dX15_readTerm_389 : decode cX15_readTerm 389 = .ok (.invokevirtual 276, 3) := by decide +kernel
theorem dX15_readTerm_392 : decode cX15_readTerm 392 = .ok (.aload_n 0, 1) := by decide +kernel
theorem dX15_readTerm_393 : decode cX15_readTerm 393 = .ok (.getfield 238, 3) := by decide +kernel
theorem dX15_readTerm_396 : decode cX15_readTerm 396 = .ok (.bipush 8, 2) := by decide +kernel
theorem dX15_readTerm_398 : decode cX15_readTerm 398 = .ok (.if_icmp .ne 8, 3) := by decide +kernel
theorem dX15_readTerm_401 : decode cX15_readTerm 401 = .ok (.iload 5, 2) := by decide +kernel
theorem dX15_readTerm_403 : decode cX15_readTerm 403 = .ok (.ifCond .eq 4, 3) := by decide +kernel
theorem dX15_readTerm_406 : decode cX15_readTerm 406 = .ok (.return_, 1) := by decide +kernel
theorem dX15_readTerm_407 : decode cX15_readTerm 407 = .ok (.aload_n 1, 1) := by decide +kernel
theorem dX15_readTerm_408 : decode cX15_readTerm 408 = .ok (.iload 4, 2) := by decide +kernel
theorem dX15_readTerm_410 : decode cX15_readTerm 410 = .ok (.iload_n 3, 1) := by decide +kernel
theorem dX15_readTerm_411 : decode cX15_readTerm 411 = .ok (.ldc_w 282, 3) := by decide +kernel
theorem dX15_readTerm_414 : decode cX15_readTerm 414 = .ok (.invokestatic 254, 3) := by decide +kernel
theorem dX15_readTerm_417 : decode cX15_readTerm 417 = .ok (.ifCond .eq 40, 3) := by decide +kernel
theorem dX15_readTerm_420 : decode cX15_readTerm 420 = .ok (.aload_n 0, 1) := by decide +kernel
theorem dX15_readTerm_421 : decode cX15_readTerm 421 = .ok (.iload 4, 2) := by decide +kernel
theorem dX15_readTerm_423 : decode cX15_readTerm 423 = .ok (.bipush 9, 2) := by decide +kernel
theorem dX15_readTerm_425 : decode cX15_readTerm 425 = .ok (.iadd, 1) := by decide +kernel
theorem dX15_readTerm_426 : decode cX15_readTerm 426 = .ok (.putfield 241, 3) := by decide +kernel
theorem dX15_readTerm_429 : decode cX15_readTerm 429 = .ok (.aload_n 0, 1) := by decide +kernel
theorem dX15_readTerm_430 : decode cX15_readTerm 430 = .ok (.iload_n 3, 1) := by decide +kernel
theorem dX15_readTerm_431 : decode cX15_readTerm 431 = .ok (.putfield 244, 3) := by decide +kernel
theorem dX15_readTerm_434 : decode cX15_readTerm 434 = .ok (.aload_n 1, 1) := by decide +kernel
theorem dX15_readTerm_435 : decode cX15_readTerm 435 = .ok (.aload_n 0, 1) := by decide +kernel
theorem dX15_readTerm_436 : decode cX15_readTerm 436 = .ok (.getfield 241, 3) := by decide +kernel
theorem dX15_readTerm_439 : decode cX15_readTerm 439 = .ok (.aload_n 0, 1) := by decide +kernel
theorem dX15_readTerm_440 : decode cX15_readTerm 440 = .ok (.getfield 244, 3) := by decide +kernel
theorem dX15_readTerm_443 : decode cX15_readTerm 443 = .ok (.iconst 1, 1) := by decide +kernel
theorem dX15_readTerm_444 : decode cX15_readTerm 444 = .ok (.invokestatic 257, 3) := by decide +kernel
theorem dX15_readTerm_447 : decode cX15_readTerm 447 = .ok (.ifCond .eq 9, 3) := by decide +kernel
theorem dX15_readTerm_450 : decode cX15_readTerm 450 = .ok (.aload_n 0, 1) := by decide +kernel
theorem dX15_readTerm_451 : decode cX15_readTerm 451 = .ok (.bipush 6, 2) := by decide +kernel
theorem dX15_readTerm_453 : decode cX15_readTerm 453 = .ok (.putfield 238, 3) := by decide +kernel
theorem dX15_readTerm_456 : decode cX15_readTerm 456 = .ok (.return_, 1) := by decide +kernel
theorem dX15_readTerm_457 : decode cX15_readTerm 457 = .ok (.iload 4, 2) := by decide +kernel
theorem dX15_readTerm_459 : decode cX15_readTerm 459 = .ok (.istore 6, 2) := by decide +kernel
theorem dX15_readTerm_461 : decode cX15_readTerm 461 = .ok (.iload 6, 2) := by decide +kernel
theorem dX15_readTerm_463 : decode cX15_readTerm 463 = .ok (.iload_n 3, 1) := by decide +kernel
theorem dX15_readTerm_464 : decode cX15_readTerm 464 = .ok (.if_icmp .ge 63, 3) := by decide +kernel
theorem dX15_readTerm_467 : decode cX15_readTerm 467 = .ok (.aload_n 1, 1) := by decide +kernel
theorem dX15_readTerm_468 : decode cX15_readTerm 468 = .ok (.iload 6, 2) := by decide +kernel
theorem dX15_readTerm_470 : decode cX15_readTerm 470 = .ok (.baload, 1) := by decide +kernel
theorem dX15_readTerm_471 : decode cX15_readTerm 471 = .ok (.invokestatic 3, 3) := by decide +kernel
theorem dX15_readTerm_474 : decode cX15_readTerm 474 = .ok (.ifCond .ne 47, 3) := by decide +kernel
theorem dX15_readTerm_477 : decode cX15_readTerm 477 = .ok (.iload 6, 2) := by decide +kernel
theorem dX15_readTerm_479 : decode cX15_readTerm 479 = .ok (.iload 4, 2) := by decide +kernel
theorem dX15_readTerm_481 : decode cX15_readTerm 481 = .ok (.if_icmp .le 46, 3) := by decide +kernel
theorem dX15_readTerm_484 : decode cX15_readTerm 484 = .ok (.aload_n 1, 1) := by decide +kernel
theorem dX15_readTerm_485 : decode cX15_readTerm 485 = .ok (.iload 6, 2) := by decide +kernel
theorem dX15_readTerm_487 : decode cX15_readTerm 487 = .ok (.baload, 1) := by decide +kernel
theorem dX15_readTerm_488 : decode cX15_readTerm 488 = .ok (.invokestatic 202, 3) := by decide +kernel
theorem dX15_readTerm_491 : decode cX15_readTerm 491 = .ok (.ifCond .ne 30, 3) := by decide +kernel
theorem dX15_readTerm_494 : decode cX15_readTerm 494 = .ok (.aload_n 1, 1) := by decide +kernel
theorem dX15_readTerm_495 : decode cX15_readTerm 495 = .ok (.iload 6, 2) := by decide +kernel
theorem dX15_readTerm_497 : decode cX15_readTerm 497 = .ok (.baload, 1) := by decide +kernel
theorem dX15_readTerm_498 : decode cX15_readTerm 498 = .ok (.bipush 45, 2) := by decide +kernel
theorem dX15_readTerm_500 : decode cX15_readTerm 500 = .ok (.if_icmp .eq 21, 3) := by decide +kernel
theorem dX15_readTerm_503 : decode cX15_readTerm 503 = .ok (.aload_n 1, 1) := by decide +kernel
theorem dX15_readTerm_504 : decode cX15_readTerm 504 = .ok (.iload 6, 2) := by decide +kernel
theorem dX15_readTerm_506 : decode cX15_readTerm 506 = .ok (.baload, 1) := by decide +kernel
theorem dX15_readTerm_507 : decode cX15_readTerm 507 = .ok (.bipush 95, 2) := by decide +kernel
theorem dX15_readTerm_509 : decode cX15_readTerm 509 = .ok (.if_icmp .eq 12, 3) := by decide +kernel
theorem dX15_readTerm_512 : decode cX15_readTerm 512 = .ok (.aload_n 1, 1) := by decide +kernel
theorem dX15_readTerm_513 : decode cX15_readTerm 513 = .ok (.iload 6, 2) := by decide +kernel
theorem dX15_readTerm_515 : decode cX15_readTerm 515 = .ok (.baload, 1) := by decide +kernel
theorem dX15_readTerm_516 : decode cX15_readTerm 516 = .ok (.bipush 46, 2) := by decide +kernel
theorem dX15_readTerm_518 : decode cX15_readTerm 518 = .ok (.if_icmp .ne 9, 3) := by decide +kernel
theorem dX15_readTerm_521 : decode cX15_readTerm 521 = .ok (.iinc 6 1, 3) := by decide +kernel
theorem dX15_readTerm_524 : decode cX15_readTerm 524 = .ok (.goto (-63), 3) := by decide +kernel
theorem dX15_readTerm_527 : decode cX15_readTerm 527 = .ok (.iload 6, 2) := by decide +kernel
theorem dX15_readTerm_529 : decode cX15_readTerm 529 = .ok (.iload 4, 2) := by decide +kernel
theorem dX15_readTerm_531 : decode cX15_readTerm 531 = .ok (.if_icmp .le 24, 3) := by decide +kernel
theorem dX15_readTerm_534 : decode cX15_readTerm 534 = .ok (.iload 6, 2) := by decide +kernel
theorem dX15_readTerm_536 : decode cX15_readTerm 536 = .ok (.iload_n 3, 1) := by decide +kernel
theorem dX15_readTerm_537 : decode cX15_readTerm 537 = .ok (.if_icmp .ge 18, 3) := by decide +kernel
theorem dX15_readTerm_540 : decode cX15_readTerm 540 = .ok (.aload_n 1, 1) := by decide +kernel
theorem dX15_readTerm_541 : decode cX15_readTerm 541 = .ok (.iload 6, 2) := by decide +kernel
theorem dX15_readTerm_543 : decode cX15_readTerm 543 = .ok (.baload, 1) := by decide +kernel
theorem dX15_readTerm_544 : decode cX15_readTerm 544 = .ok (.bipush 61, 2) := by decide +kernel
theorem dX15_readTerm_546 : decode cX15_readTerm 546 = .ok (.if_icmp .ne 9, 3) := by decide +kernel
theorem dX15_readTerm_549 : decode cX15_readTerm 549 = .ok (.aload_n 0, 1) := by decide +kernel
theorem dX15_readTerm_550 : decode cX15_readTerm 550 = .ok (.bipush 7, 2) := by decide +kernel
theorem dX15_readTerm_552 : decode cX15_readTerm 552 = .ok (.putfield 238, 3) := by decide +kernel
theorem dX15_readTerm_555 : decode cX15_readTerm 555 = .ok (.return_, 1) := by decide +kernel
theorem kt_745 : Cond.fieldLink RX15 232 "PostGateModel" "quad" "I" ∈ tb := tb_at (i := 1311) (by decide +kernel) (by decide +kernel)
theorem kt_746 : Cond.code yX15_slashOf cX15_slashOf 4 (some .int) ∈ tb := tb_at (i := 1580) (by decide +kernel) (by decide +kernel)
theorem kt_747 : Cond.methodLink RX15 265 yX15_slashOf ∈ tb := tb_at (i := 1578) (by decide +kernel) (by decide +kernel)
theorem kt_748 : Cond.static yX15_slashOf ∈ tb := tb_at (i := 1579) (by decide +kernel) (by decide +kernel)
theorem kt_749 : Cond.fieldLink RX15 247 "PostGateModel" "width" "I" ∈ tb := tb_at (i := 1310) (by decide +kernel) (by decide +kernel)
theorem kt_750 : Cond.fieldLink RX15 238 "PostGateModel" "term" "I" ∈ tb := tb_at (i := 1306) (by decide +kernel) (by decide +kernel)
theorem kt_751 : Cond.fieldLink RX15 241 "PostGateModel" "dFrom" "I" ∈ tb := tb_at (i := 1308) (by decide +kernel) (by decide +kernel)
theorem kt_752 : Cond.fieldLink RX15 244 "PostGateModel" "dTo" "I" ∈ tb := tb_at (i := 1309) (by decide +kernel) (by decide +kernel)
theorem kt_753 : Cond.code yX15_isD cX15_isD 6 (some .boolean) ∈ tb := tb_at (i := 1570) (by decide +kernel) (by decide +kernel)
theorem kt_754 : Cond.methodLink RX15 257 yX15_isD ∈ tb := tb_at (i := 1568) (by decide +kernel) (by decide +kernel)
theorem kt_755 : Cond.static yX15_isD ∈ tb := tb_at (i := 1569) (by decide +kernel) (by decide +kernel)
theorem kt_756 : Cond.code yX15_bits cX15_bits 5 (some .int) ∈ tb := tb_at (i := 1583) (by decide +kernel) (by decide +kernel)
theorem kt_757 : Cond.methodLink RX15 268 yX15_bits ∈ tb := tb_at (i := 1581) (by decide +kernel) (by decide +kernel)
theorem kt_758 : Cond.static yX15_bits ∈ tb := tb_at (i := 1582) (by decide +kernel) (by decide +kernel)
theorem kt_759 : Cond.fieldLink RX15 235 "PostGateModel" "sign" "I" ∈ tb := tb_at (i := 1307) (by decide +kernel) (by decide +kernel)
theorem kt_760 : Cond.code yX15_readHost cX15_readHost 6 none ∈ tb := tb_at (i := 1593) (by decide +kernel) (by decide +kernel)
theorem kt_761 : Cond.methodLink RX15 276 yX15_readHost ∈ tb := tb_at (i := 1590) (by decide +kernel) (by decide +kernel)
theorem kt_762 : Cond.instanceMethod yX15_readHost ∈ tb := tb_at (i := 1592) (by decide +kernel) (by decide +kernel)
theorem kt_763 : Cond.selects RX15 yX15_readHost yX15_readHost ∈ tb := tb_at (i := 49) (by decide +kernel) (by decide +kernel)
theorem kt_764 : Cond.code yX15_isQuad cX15_isQuad 8 (some .boolean) ∈ tb := tb_at (i := 1588) (by decide +kernel) (by decide +kernel)
theorem kt_765 : Cond.methodLink RX15 271 yX15_isQuad ∈ tb := tb_at (i := 1585) (by decide +kernel) (by decide +kernel)
theorem kt_766 : Cond.instanceMethod yX15_isQuad ∈ tb := tb_at (i := 1587) (by decide +kernel) (by decide +kernel)
theorem kt_767 : Cond.selects RX15 yX15_isQuad yX15_isQuad ∈ tb := tb_at (i := 48) (by decide +kernel) (by decide +kernel)
theorem c0_ne {fv : Nat → Int32} {a kk n : Nat} {C : Nat → Int32} (h : ∀ i, i < n → fv (kk + i) = chv (C i)) (hn : 0 < n) (e : kk = a) (h9 : fv a = 114) (hc : chv (C 0) ≠ 114) : False := by
  have h1 := h 0 hn
  subst e
  exact hc (h1.symm.trans h9)
set_option maxHeartbeats 4000000 in
set_option maxRecDepth 100000 in
theorem s_X15_isQuad (l : Launch) (dC : Nat → ClassId) (dI : Nat → Nat → Nat) (cs : Nat → ClassId) (ty : TyM) (gm : Nat → Nat → Nat) (L : List Nat) (sz : Nat) (F : Nat → va_E) (h0 : Nat) (ρ : Nat) (ta : Nat) (ou : Nat) (so : Nat) (ad : Nat) (na : Nat) (va : Nat) (lc : Nat) (dm : Nat) (tg : Nat) (pe : Nat) (ml : Nat) (bg : Nat) (co : Nat) (sp : Nat) (nb0 : Nat) (nb1 : Nat) (nb2 : Nat) (pl : Nat) (se : Nat) (ke : Nat) (wi : Nat) (hs : Nat) (mo : Nat) (po : Nat) (nu : Nat) (pr : Nat) (sq : Nat) (xa : Nat) (sa : Nat) (n64 : Nat) (m64 : Nat) (ex : Nat) (wh : Nat) (sd : Nat) (tk : Nat) (hd : Nat) (ak : Nat) (ho : Nat) (ot : Nat) (sx : Nat) (s0 : Nat) (s1 : Nat) (s2 : Nat) (nf : Nat) (bd : Nat) (mm : Nat) (zo : Nat) (fm : Nat) (sn : Nat) (hg : Nat) (gc : Nat) (gv : Nat) (ze : Nat) (zt : Nat) (v14 : Int32) (v15 : Int32) (v17 : Int32) (v18 : Int32) (v19 : Int32) (v20 : Int32) (v21 : Int32) (v22 : Int32) (v33 : Int32) (v52 : Int32) (v53 : Int32) (v54 : Int32) (g1 : Nat) (μ : Nat) (fv : Nat → Int32) (a : Nat) (tt : Nat) (hW : WTm ty gm L) (hL_h0 : h0 ∈ L) (hT_h0 : ty h0 = (15, ρ, [ta, ou, so, ad, na, va, lc, dm, tg, pe, ml, bg, co, sp, nb0, nb1, nb2, pl, se, ke, wi, hs, mo, po, nu, pr, sq, xa, sa, n64, m64, ex, wh, sd, tk, hd, ak, ho, ot, sx, s0, s1, s2, nf, bd, mm, zo, fm, sn, hg, gc, gv, ze, zt])) (hL_g1 : g1 ∈ L) (hT_g1 : ty g1 = (17, μ, [700])) (hF0 : F h0 = .inr (15, (.ref ta) :: (.int (nI zt)) :: (.int (nI zo)) :: (.int (nI ze)) :: (.ref ou) :: (.ref so) :: (.ref ad) :: (.ref na) :: (.ref va) :: (.ref lc) :: (.ref dm) :: (.int (nI fm)) :: (.int (nI sn)) :: (.ref tg) :: (.int v14) :: (.int v15) :: (.ref pe) :: (.int v17) :: (.int v18) :: (.int v19) :: (.int v20) :: (.int v21) :: (.int v22) :: (.ref ml) :: (.ref bg) :: (.ref co) :: (.ref sp) :: (.ref nb0) :: (.ref nb1) :: (.ref nb2) :: (.int (nI nf)) :: (.int (nI bd)) :: (.int (nI mm)) :: (.int v33) :: (.ref pl) :: (.ref se) :: (.ref ke) :: (.ref wi) :: (.ref hs) :: (.ref mo) :: (.ref po) :: (.ref nu) :: (.ref pr) :: (.ref sq) :: (.ref xa) :: (.ref sa) :: (.ref n64) :: (.ref m64) :: (.ref ex) :: (.ref wh) :: (.ref sd) :: (.ref tk) :: (.int v52) :: (.int v53) :: (.int v54) :: (.ref hd) :: (.ref ak) :: (.ref ho) :: (.ref ot) :: [])) (hzo : zo ≤ 6000) (hze : ze ≤ 40) (h33 : ((v33 = 0 ∧ nf = 0) ∨ (v33 = 1 ∧ 1 ≤ nf))) (h54 : (v54 = 0 ∨ v54 = 1)) (hgf : (hg = 0 ∨ (v14 = nI gc ∧ v15 = nI gv))) (hFg : F g1 = .inl (cs 17, 700, .inl fv)) (hmu : ρ + 100 ≤ μ) (htn : tt ≤ 700) (ha : a ≤ 20000) : Met l yX15_isQuad (.code yX15_isQuad cX15_isQuad 8 (some .boolean) :: tb) ({ frames := 1, cells := 0, slots := 0, locals := 20 }) (va_Pc [.ref h0, .ref g1, .int (nI a), .int (nI tt)] (PTm (dC, dI) cs ty gm L F sz)) (va_Qi (fun (r : Int32) (_ : Unit) => (r = 0 ∨ r = 1)) (fun _ T9 => ∃ F2 : Nat → va_E, ∃ u22 : Int32, QTm (dC, dI) cs ty gm L [ρ] F F2 (va_A (va_pl L F) sz) T9 ∧ F2 h0 = .inr (15, (.ref ta) :: (.int (nI zt)) :: (.int (nI zo)) :: (.int (nI ze)) :: (.ref ou) :: (.ref so) :: (.ref ad) :: (.ref na) :: (.ref va) :: (.ref lc) :: (.ref dm) :: (.int (nI fm)) :: (.int (nI sn)) :: (.ref tg) :: (.int v14) :: (.int v15) :: (.ref pe) :: (.int v17) :: (.int v18) :: (.int v19) :: (.int v20) :: (.int v21) :: (.int u22) :: (.ref ml) :: (.ref bg) :: (.ref co) :: (.ref sp) :: (.ref nb0) :: (.ref nb1) :: (.ref nb2) :: (.int (nI nf)) :: (.int (nI bd)) :: (.int (nI mm)) :: (.int v33) :: (.ref pl) :: (.ref se) :: (.ref ke) :: (.ref wi) :: (.ref hs) :: (.ref mo) :: (.ref po) :: (.ref nu) :: (.ref pr) :: (.ref sq) :: (.ref xa) :: (.ref sa) :: (.ref n64) :: (.ref m64) :: (.ref ex) :: (.ref wh) :: (.ref sd) :: (.ref tk) :: (.int v52) :: (.int v53) :: (.int v54) :: (.ref hd) :: (.ref ak) :: (.ref ho) :: (.ref ot) :: [])) (va_A (va_pl L F) sz)) 0 0 (va_A (va_pl L F) sz) := by
  refine Met.ofW (cc := cX15_isQuad) (maxL := 8) (ret := (some .boolean)) (by decide) rfl ?_
  intro p e s m args below meth c s₁ B hml hv
  obtain ⟨rfl, hsz, hP, hK, hD0, hE, hO⟩ := hv
  have hx := B.exec
  have hb := B.bytes
  have hr := B.returns
  have hts : ∀ w ∈ tb, w.before _ s = true := fun w h => atoms_spec (ws := .code yX15_isQuad cX15_isQuad 8 (some .boolean) :: tb) B.pre w (List.mem_cons_of_mem _ h)
  have hown : s.vm.findClass RX15 = some m.cls := findClass_of_methodNamed B.named
  have hlocks := B.notSynchronized
  subst hsz
  have hD := hD0.self (sz := s.heap.size)
  generalize hAe : va_A (va_pl L F) s.heap.size = A at hD ⊢
  have hA : ∀ q : Nat, s.heap.size ≤ q → A q := fun q h => by rw [← hAe]; exact Or.inr h
  have hS : va_S A s.heap s.heap [] := va_S.rf
  have hR : FR ty [ρ] F F := FR.refl
  have hl := lv_entry ([.ref h0, .ref g1, .int (nI a), .int (nI tt)]) (n := 8) (Nat.le_of_ble_eq_true rfl)
  rw [lg_entry_eq]
  generalize (lg_sl ([.ref h0, .ref g1, .int (nI a), .int (nI tt)]) ++ List.replicate (8 - (lg_sl ([.ref h0, .ref g1, .int (nI a), .int (nI tt)])).length) Slot.unset).toArray = ls at hl ⊢
  have hl : lv_has ls 8 [(0, .ref h0), (1, .ref g1), (2, .int (nI a)), (3, .int (nI tt))] := hl
  refine lv_iconst (v := 0) hx hb dX15_isQuad_0 (by decide) ?_
  refine lv_istore (lv' := [(4, .int 0), (0, .ref h0), (1, .ref g1), (2, .int (nI a)), (3, .int (nI tt))]) hx hb dX15_isQuad_1 hl (by decide) rfl (fun ls hl => ?_)
  refine lv_iconst (v := 0) hx hb dX15_isQuad_3 (by decide) ?_
  refine lv_istore (lv' := [(5, .int 0), (4, .int 0), (0, .ref h0), (1, .ref g1), (2, .int (nI a)), (3, .int (nI tt))]) hx hb dX15_isQuad_4 hl (by decide) rfl (fun ls hl => ?_)
  refine lv_iconst (v := 0) hx hb dX15_isQuad_6 (by decide) ?_
  refine lv_istore (lv' := [(6, .int 0), (5, .int 0), (4, .int 0), (0, .ref h0), (1, .ref g1), (2, .int (nI a)), (3, .int (nI tt))]) hx hb dX15_isQuad_7 hl (by decide) rfl (fun ls hl => ?_)
  refine lv_aload_n hx hb dX15_isQuad_9 rfl (lv_at hl 3 rfl) ?_
  refine lv_iconst (v := 0) hx hb dX15_isQuad_10 (by decide) ?_
  obtain ⟨hq_23, hq_24, hq_25, hq_26, hq_27, hgO, hgA, hgB, hq_28⟩ := hW.sc hL_h0 hT_h0
  refine pg_put (ci := 15) (v := .int 0) (ty := .int) (C := RX15) (T := TX15) (N := 59) hx hb hts it_15 tyX15 tyX15_ok nmX15 hown hK hP hD hS hL_h0 hF0 rfl 22 (by decide) (hts _ kt_745) (fun _ h9 => h9) rfl (by decide +kernel) (rfl) (rfl) (Nat.le_of_ble_eq_true rfl) dX15_isQuad_11 (fun H locs hP hD hS => ?_)
  obtain ⟨F_29, he_30, hP, hD, hO, hR⟩ : ∃ G, G = va_up F h0 (.inr (15, (.ref ta) :: (.int (nI zt)) :: (.int (nI zo)) :: (.int (nI ze)) :: (.ref ou) :: (.ref so) :: (.ref ad) :: (.ref na) :: (.ref va) :: (.ref lc) :: (.ref dm) :: (.int (nI fm)) :: (.int (nI sn)) :: (.ref tg) :: (.int v14) :: (.int v15) :: (.ref pe) :: (.int v17) :: (.int v18) :: (.int v19) :: (.int v20) :: (.int v21) :: (.int 0) :: (.ref ml) :: (.ref bg) :: (.ref co) :: (.ref sp) :: (.ref nb0) :: (.ref nb1) :: (.ref nb2) :: (.int (nI nf)) :: (.int (nI bd)) :: (.int (nI mm)) :: (.int v33) :: (.ref pl) :: (.ref se) :: (.ref ke) :: (.ref wi) :: (.ref hs) :: (.ref mo) :: (.ref po) :: (.ref nu) :: (.ref pr) :: (.ref sq) :: (.ref xa) :: (.ref sa) :: (.ref n64) :: (.ref m64) :: (.ref ex) :: (.ref wh) :: (.ref sd) :: (.ref tk) :: (.int v52) :: (.int v53) :: (.int v54) :: (.ref hd) :: (.ref ak) :: (.ref ho) :: (.ref ot) :: [])) ∧ va_P (dC, dI) vwCl (va_pl L G) H ∧ va_D A (va_pl L G) ∧ OKm cs ty gm L G ∧ FR ty [ρ] F G := ⟨_, rfl, hP, hD, hO.up (shm.mod hT_h0 ⟨v14, v15, v17, v18, v19, v20, v21, 0, v33, v52, v53, v54, rfl, (by first | omega | assumption | exact Or.inl rfl | exact Or.inr rfl), (by first | omega | assumption | exact Or.inl rfl | exact Or.inr rfl), (by first | omega | assumption | exact Or.inl rfl | exact Or.inr rfl), (by first | omega | assumption | exact Or.inl rfl | exact Or.inr rfl), (by first | omega | assumption | exact Or.inl rfl | exact Or.inr rfl)⟩), hR.up hT_h0 (by simp)⟩
  have hF_31 : F_29 h0 = .inr (15, (.ref ta) :: (.int (nI zt)) :: (.int (nI zo)) :: (.int (nI ze)) :: (.ref ou) :: (.ref so) :: (.ref ad) :: (.ref na) :: (.ref va) :: (.ref lc) :: (.ref dm) :: (.int (nI fm)) :: (.int (nI sn)) :: (.ref tg) :: (.int v14) :: (.int v15) :: (.ref pe) :: (.int v17) :: (.int v18) :: (.int v19) :: (.int v20) :: (.int v21) :: (.int 0) :: (.ref ml) :: (.ref bg) :: (.ref co) :: (.ref sp) :: (.ref nb0) :: (.ref nb1) :: (.ref nb2) :: (.int (nI nf)) :: (.int (nI bd)) :: (.int (nI mm)) :: (.int v33) :: (.ref pl) :: (.ref se) :: (.ref ke) :: (.ref wi) :: (.ref hs) :: (.ref mo) :: (.ref po) :: (.ref nu) :: (.ref pr) :: (.ref sq) :: (.ref xa) :: (.ref sa) :: (.ref n64) :: (.ref m64) :: (.ref ex) :: (.ref wh) :: (.ref sd) :: (.ref tk) :: (.int v52) :: (.int v53) :: (.int v54) :: (.ref hd) :: (.ref ak) :: (.ref ho) :: (.ref ot) :: []) := by rw [he_30]; exact up_self
  have hF_32 : F_29 g1 = .inl (cs 17, 700, .inl fv) := by rw [he_30, up_ne (ne_ty hT_g1 hT_h0 (by simp))]; exact hFg
  refine lv_iload_n hx hb dX15_isQuad_14 rfl (lv_at hl 5 rfl) ?_
  refine lv_istore (lv' := [(7, .int (nI a)), (6, .int 0), (5, .int 0), (4, .int 0), (0, .ref h0), (1, .ref g1), (2, .int (nI a)), (3, .int (nI tt))]) hx hb dX15_isQuad_15 hl (by decide) rfl (fun ls hl => ?_)
  refine W.widen (k := 0) (n := 0) (by omega) (by omega) ?_
  have hF_34 : F g1 = .inl (cs 17, 700, .inl fv) := (hR g1 (by rw [hT_g1]; simp only [List.mem_cons, List.not_mem_nil, or_false]; omega)).symm.trans hF_32
  refine pl_loopm (σ := Nat × Int32 × Int32 × Int32 × Int32) A (dC, dI) cs ty gm L [ρ] F 17 8 (fun (j, w4, w5, w6, q22) => [(7, .int (nI j)), (6, .int w6), (5, .int w5), (4, .int w4), (0, .ref h0), (1, .ref g1), (2, .int (nI a)), (3, .int (nI tt))]) (fun (j, w4, w5, w6, q22) => []) (fun (j, w4, w5, w6, q22) FF => j ≤ 20001 ∧ FF h0 = .inr (15, (.ref ta) :: (.int (nI zt)) :: (.int (nI zo)) :: (.int (nI ze)) :: (.ref ou) :: (.ref so) :: (.ref ad) :: (.ref na) :: (.ref va) :: (.ref lc) :: (.ref dm) :: (.int (nI fm)) :: (.int (nI sn)) :: (.ref tg) :: (.int v14) :: (.int v15) :: (.ref pe) :: (.int v17) :: (.int v18) :: (.int v19) :: (.int v20) :: (.int v21) :: (.int q22) :: (.ref ml) :: (.ref bg) :: (.ref co) :: (.ref sp) :: (.ref nb0) :: (.ref nb1) :: (.ref nb2) :: (.int (nI nf)) :: (.int (nI bd)) :: (.int (nI mm)) :: (.int v33) :: (.ref pl) :: (.ref se) :: (.ref ke) :: (.ref wi) :: (.ref hs) :: (.ref mo) :: (.ref po) :: (.ref nu) :: (.ref pr) :: (.ref sq) :: (.ref xa) :: (.ref sa) :: (.ref n64) :: (.ref m64) :: (.ref ex) :: (.ref wh) :: (.ref sd) :: (.ref tk) :: (.int v52) :: (.int v53) :: (.int v54) :: (.ref hd) :: (.ref ak) :: (.ref ho) :: (.ref ot) :: [])) (fun (j, w4, w5, w6, q22) => 20001 - j) ?_ (a, 0, 0, 0, 0) F_29 (⟨by omega, hF_31⟩) hO hR _ _ hP hD hS ls (lv_sub hl [0, 1, 2, 3, 4, 5, 6, 7] rfl)
  rintro ⟨j, w4, w5, w6, q22⟩ F_33 hv_35 hO hR ih_36 H locs hP hD hS ls hl
  have hl : lv_has ls 8 [(7, .int (nI j)), (6, .int w6), (5, .int w5), (4, .int w4), (0, .ref h0), (1, .ref g1), (2, .int (nI a)), (3, .int (nI tt))] := hl
  have hv_35 : j ≤ 20001 ∧ F_33 h0 = .inr (15, (.ref ta) :: (.int (nI zt)) :: (.int (nI zo)) :: (.int (nI ze)) :: (.ref ou) :: (.ref so) :: (.ref ad) :: (.ref na) :: (.ref va) :: (.ref lc) :: (.ref dm) :: (.int (nI fm)) :: (.int (nI sn)) :: (.ref tg) :: (.int v14) :: (.int v15) :: (.ref pe) :: (.int v17) :: (.int v18) :: (.int v19) :: (.int v20) :: (.int v21) :: (.int q22) :: (.ref ml) :: (.ref bg) :: (.ref co) :: (.ref sp) :: (.ref nb0) :: (.ref nb1) :: (.ref nb2) :: (.int (nI nf)) :: (.int (nI bd)) :: (.int (nI mm)) :: (.int v33) :: (.ref pl) :: (.ref se) :: (.ref ke) :: (.ref wi) :: (.ref hs) :: (.ref mo) :: (.ref po) :: (.ref nu) :: (.ref pr) :: (.ref sq) :: (.ref xa) :: (.ref sa) :: (.ref n64) :: (.ref m64) :: (.ref ex) :: (.ref wh) :: (.ref sd) :: (.ref tk) :: (.int v52) :: (.int v53) :: (.int v54) :: (.ref hd) :: (.ref ak) :: (.ref ho) :: (.ref ot) :: []) := hv_35
  refine W.eq (g2 := F0 m 17 ls []) rfl ?_
  have hF_37 : F_33 g1 = .inl (cs 17, 700, .inl fv) := (hR g1 (by rw [hT_g1]; simp only [List.mem_cons, List.not_mem_nil, or_false]; omega)).trans hF_34
  obtain ⟨hv1, hv2⟩ := hv_35
  refine lv_iload hx hb dX15_isQuad_17 (lv_at hl 0 rfl) ?_
  refine lv_iload_n hx hb dX15_isQuad_19 rfl (lv_at hl 7 rfl) ?_
  refine lv_icmp_gt (tgt := 124) hx hb dX15_isQuad_20 (by decide) (fun c_38 => ?_) (fun c_38 => ?_)
  ·
    have hi_39 : tt < j := (nI_ltI (a := tt) (b := j) (by omega) (by omega)).mp c_38
    refine lv_iload hx hb dX15_isQuad_124 (lv_at hl 3 rfl) ?_
    refine lv_iconst (v := 4) hx hb dX15_isQuad_126 (by decide) ?_
    refine lv_icmp_ne (tgt := 134) hx hb dX15_isQuad_127 (by decide) (fun c_40 => ?_) (fun c_40 => ?_)
    ·
      refine lv_iconst (v := 0) hx hb dX15_isQuad_134 (by decide) ?_
      refine W.widen (k := 0) (n := 0) (by omega) (by omega) ?_
      exact W.zret (v := 0) (ty := .boolean) hx hb hr (by decide) (fun t ht hWm => ⟨⟨0, (), rfl, (by first | exact Or.inl rfl | exact Or.inr rfl), ⟨F_33, q22, QTm.mk ht hP hD hO hR, hv2⟩⟩, hS.F ht⟩) hS.2.2 dX15_isQuad_135
    ·
      refine lv_iconst (v := 1) hx hb dX15_isQuad_130 (by decide) ?_
      refine lv_goto (tgt := 135) hx hb dX15_isQuad_131 (by decide) ?_
      refine W.widen (k := 0) (n := 0) (by omega) (by omega) ?_
      exact W.zret (v := 1) (ty := .boolean) hx hb hr (by decide) (fun t ht hWm => ⟨⟨1, (), rfl, (by first | exact Or.inl rfl | exact Or.inr rfl), ⟨F_33, q22, QTm.mk ht hP hD hO hR, hv2⟩⟩, hS.F ht⟩) hS.2.2 dX15_isQuad_135
  ·
    have hi_41 : j ≤ tt := Nat.not_lt.mp (fun q => c_38 ((nI_ltI (a := tt) (b := j) (by omega) (by omega)).mpr q))
    refine lv_iload hx hb dX15_isQuad_23 (lv_at hl 0 rfl) ?_
    refine lv_iload_n hx hb dX15_isQuad_25 rfl (lv_at hl 7 rfl) ?_
    refine lv_icmp_ge (tgt := 65) hx hb dX15_isQuad_26 (by decide) (fun c_42 => ?_) (fun c_42 => ?_)
    ·
      have hi_43 : tt ≤ j := leN (N := tt) c_42
      refine lv_iload hx hb dX15_isQuad_65 (lv_at hl 0 rfl) ?_
      refine lv_iload_n hx hb dX15_isQuad_67 rfl (lv_at hl 7 rfl) ?_
      refine lv_icmp_ge (tgt := 80) hx hb dX15_isQuad_68 (by decide) (fun c_44 => ?_) (fun c_44 => ?_)
      ·
        have hi_45 : tt ≤ j := leN (N := tt) c_44
        refine lv_iload hx hb dX15_isQuad_80 (lv_at hl 2 rfl) ?_
        refine lv_if_eq (tgt := 93) hx hb dX15_isQuad_82 (by decide) (fun c_46 => ?_) (fun c_46 => ?_)
        ·
          refine lv_iconst (v := 0) hx hb dX15_isQuad_93 (by decide) ?_
          refine W.widen (k := 0) (n := 0) (by omega) (by omega) ?_
          exact W.zret (v := 0) (ty := .boolean) hx hb hr (by decide) (fun t ht hWm => ⟨⟨0, (), rfl, (by first | exact Or.inl rfl | exact Or.inr rfl), ⟨F_33, q22, QTm.mk ht hP hD hO hR, hv2⟩⟩, hS.F ht⟩) hS.2.2 dX15_isQuad_94
        ·
          refine lv_iload hx hb dX15_isQuad_85 (lv_at hl 1 rfl) ?_
          refine lv_sipush (v := 255) hx hb dX15_isQuad_87 (by decide) ?_
          refine lv_icmp_le (tgt := 95) hx hb dX15_isQuad_90 (by decide) (fun c_47 => ?_) (fun c_47 => ?_)
          ·
            refine lv_aload_n hx hb dX15_isQuad_95 rfl (lv_at hl 4 rfl) ?_
            refine lv_aload_n hx hb dX15_isQuad_96 rfl (lv_at hl 4 rfl) ?_
            refine pg_get (ci := 15) (v := .int q22) (C := RX15) (T := TX15) (N := 59) hx hb hts it_15 hown hK hP hL_h0 hv2 rfl 22 (by decide) (hts _ kt_745) (fun _ h9 => h9) rfl dX15_isQuad_97 ?_
            refine lv_bipush (v := 8) hx hb dX15_isQuad_100 (by decide) ?_
            refine lv_ishl hx hb dX15_isQuad_102 ?_
            refine lv_topi (fun x_48 _ => ?_)
            refine lv_iload hx hb dX15_isQuad_103 (lv_at hl 1 rfl) ?_
            refine lv_ior hx hb dX15_isQuad_105 ?_
            refine lv_topi (fun x_49 _ => ?_)
            refine pg_put (ci := 15) (v := .int x_49) (ty := .int) (C := RX15) (T := TX15) (N := 59) hx hb hts it_15 tyX15 tyX15_ok nmX15 hown hK hP hD hS hL_h0 hv2 rfl 22 (by decide) (hts _ kt_745) (fun _ h9 => h9) rfl (by decide +kernel) (rfl) (rfl) (Nat.le_of_ble_eq_true rfl) dX15_isQuad_106 (fun H locs hP hD hS => ?_)
            obtain ⟨F_50, he_51, hP, hD, hO, hR⟩ : ∃ G, G = va_up F_33 h0 (.inr (15, (.ref ta) :: (.int (nI zt)) :: (.int (nI zo)) :: (.int (nI ze)) :: (.ref ou) :: (.ref so) :: (.ref ad) :: (.ref na) :: (.ref va) :: (.ref lc) :: (.ref dm) :: (.int (nI fm)) :: (.int (nI sn)) :: (.ref tg) :: (.int v14) :: (.int v15) :: (.ref pe) :: (.int v17) :: (.int v18) :: (.int v19) :: (.int v20) :: (.int v21) :: (.int x_49) :: (.ref ml) :: (.ref bg) :: (.ref co) :: (.ref sp) :: (.ref nb0) :: (.ref nb1) :: (.ref nb2) :: (.int (nI nf)) :: (.int (nI bd)) :: (.int (nI mm)) :: (.int v33) :: (.ref pl) :: (.ref se) :: (.ref ke) :: (.ref wi) :: (.ref hs) :: (.ref mo) :: (.ref po) :: (.ref nu) :: (.ref pr) :: (.ref sq) :: (.ref xa) :: (.ref sa) :: (.ref n64) :: (.ref m64) :: (.ref ex) :: (.ref wh) :: (.ref sd) :: (.ref tk) :: (.int v52) :: (.int v53) :: (.int v54) :: (.ref hd) :: (.ref ak) :: (.ref ho) :: (.ref ot) :: [])) ∧ va_P (dC, dI) vwCl (va_pl L G) H ∧ va_D A (va_pl L G) ∧ OKm cs ty gm L G ∧ FR ty [ρ] F G := ⟨_, rfl, hP, hD, hO.up (shm.mod hT_h0 ⟨v14, v15, v17, v18, v19, v20, v21, x_49, v33, v52, v53, v54, rfl, (by first | omega | assumption | exact Or.inl rfl | exact Or.inr rfl), (by first | omega | assumption | exact Or.inl rfl | exact Or.inr rfl), (by first | omega | assumption | exact Or.inl rfl | exact Or.inr rfl), (by first | omega | assumption | exact Or.inl rfl | exact Or.inr rfl), (by first | omega | assumption | exact Or.inl rfl | exact Or.inr rfl)⟩), hR.up hT_h0 (by simp)⟩
            have hF_52 : F_50 h0 = .inr (15, (.ref ta) :: (.int (nI zt)) :: (.int (nI zo)) :: (.int (nI ze)) :: (.ref ou) :: (.ref so) :: (.ref ad) :: (.ref na) :: (.ref va) :: (.ref lc) :: (.ref dm) :: (.int (nI fm)) :: (.int (nI sn)) :: (.ref tg) :: (.int v14) :: (.int v15) :: (.ref pe) :: (.int v17) :: (.int v18) :: (.int v19) :: (.int v20) :: (.int v21) :: (.int x_49) :: (.ref ml) :: (.ref bg) :: (.ref co) :: (.ref sp) :: (.ref nb0) :: (.ref nb1) :: (.ref nb2) :: (.int (nI nf)) :: (.int (nI bd)) :: (.int (nI mm)) :: (.int v33) :: (.ref pl) :: (.ref se) :: (.ref ke) :: (.ref wi) :: (.ref hs) :: (.ref mo) :: (.ref po) :: (.ref nu) :: (.ref pr) :: (.ref sq) :: (.ref xa) :: (.ref sa) :: (.ref n64) :: (.ref m64) :: (.ref ex) :: (.ref wh) :: (.ref sd) :: (.ref tk) :: (.int v52) :: (.int v53) :: (.int v54) :: (.ref hd) :: (.ref ak) :: (.ref ho) :: (.ref ot) :: []) := by rw [he_51]; exact up_self
            have hF_53 : F_50 g1 = .inl (cs 17, 700, .inl fv) := by rw [he_51, up_ne (ne_ty hT_g1 hT_h0 (by simp))]; exact hF_37
            obtain ⟨x_54, ex_54⟩ : ∃ y : Int32, y = w4 + Int32.ofInt 1 := ⟨_, rfl⟩
            refine lv_iinc (v := x_54) (lv' := [(4, .int x_54), (7, .int (nI j)), (6, .int w6), (5, .int w5), (0, .ref h0), (1, .ref g1), (2, .int (nI a)), (3, .int (nI tt))]) hx hb dX15_isQuad_109 hl (k := 3) rfl (ex_54.symm) (by decide) rfl (fun ls hl => ?_)
            refine lv_iconst (v := 0) hx hb dX15_isQuad_112 (by decide) ?_
            refine lv_istore (lv' := [(5, .int 0), (4, .int x_54), (7, .int (nI j)), (6, .int w6), (0, .ref h0), (1, .ref g1), (2, .int (nI a)), (3, .int (nI tt))]) hx hb dX15_isQuad_113 hl (by decide) rfl (fun ls hl => ?_)
            refine lv_iconst (v := 0) hx hb dX15_isQuad_115 (by decide) ?_
            refine lv_istore (lv' := [(6, .int 0), (5, .int 0), (4, .int x_54), (7, .int (nI j)), (0, .ref h0), (1, .ref g1), (2, .int (nI a)), (3, .int (nI tt))]) hx hb dX15_isQuad_116 hl (by decide) rfl (fun ls hl => ?_)
            refine lv_iinc (v := (nI (j + 1))) (lv' := [(7, .int (nI (j + 1))), (6, .int 0), (5, .int 0), (4, .int x_54), (0, .ref h0), (1, .ref g1), (2, .int (nI a)), (3, .int (nI tt))]) hx hb dX15_isQuad_118 hl (k := 3) rfl (nI_1 _) (by decide) rfl (fun ls hl => ?_)
            refine lv_goto (tgt := 17) hx hb dX15_isQuad_121 (by decide) ?_
            refine W.widen (k := 0) (n := 0) (by omega) (by omega) ?_
            exact ih_36 ((j + 1), x_54, 0, 0, x_49) F_50 (⟨by omega, hF_52⟩) (by show 20001 - (j + 1) < 20001 - j; omega) hO hR _ _ hP hD hS ls (lv_sub hl [0, 1, 2, 3, 4, 5, 6, 7] rfl)
          ·
            refine lv_iconst (v := 0) hx hb dX15_isQuad_93 (by decide) ?_
            refine W.widen (k := 0) (n := 0) (by omega) (by omega) ?_
            exact W.zret (v := 0) (ty := .boolean) hx hb hr (by decide) (fun t ht hWm => ⟨⟨0, (), rfl, (by first | exact Or.inl rfl | exact Or.inr rfl), ⟨F_33, q22, QTm.mk ht hP hD hO hR, hv2⟩⟩, hS.F ht⟩) hS.2.2 dX15_isQuad_94
      ·
        have hi_55 : j < tt := ltN (N := tt) c_44
        refine lv_aload_n hx hb dX15_isQuad_71 rfl (lv_at hl 5 rfl) ?_
        refine lv_iload hx hb dX15_isQuad_72 (lv_at hl 0 rfl) ?_
        obtain ⟨hq_56, hq_57⟩ := hW.octs hL_g1 hT_g1
        refine pg_bald hx hb hK hP hL_g1 1 hF_37 rfl (vp_in_nI (by omega) (by omega)) dX15_isQuad_74 ?_
        refine lv_topi (fun x_58 ex_58 => ?_)
        obtain rfl : x_58 = fv j := ex_58.trans (congrArg fv (show ((nI j) : Int32).toNatClampNeg = j from nI_clamp (by omega)))
        refine lv_bipush (v := 46) hx hb dX15_isQuad_75 (by decide) ?_
        refine lv_icmp_ne (tgt := 93) hx hb dX15_isQuad_77 (by decide) (fun c_59 => ?_) (fun c_59 => ?_)
        ·
          refine lv_iconst (v := 0) hx hb dX15_isQuad_93 (by decide) ?_
          refine W.widen (k := 0) (n := 0) (by omega) (by omega) ?_
          exact W.zret (v := 0) (ty := .boolean) hx hb hr (by decide) (fun t ht hWm => ⟨⟨0, (), rfl, (by first | exact Or.inl rfl | exact Or.inr rfl), ⟨F_33, q22, QTm.mk ht hP hD hO hR, hv2⟩⟩, hS.F ht⟩) hS.2.2 dX15_isQuad_94
        ·
          refine lv_iload hx hb dX15_isQuad_80 (lv_at hl 2 rfl) ?_
          refine lv_if_eq (tgt := 93) hx hb dX15_isQuad_82 (by decide) (fun c_60 => ?_) (fun c_60 => ?_)
          ·
            refine lv_iconst (v := 0) hx hb dX15_isQuad_93 (by decide) ?_
            refine W.widen (k := 0) (n := 0) (by omega) (by omega) ?_
            exact W.zret (v := 0) (ty := .boolean) hx hb hr (by decide) (fun t ht hWm => ⟨⟨0, (), rfl, (by first | exact Or.inl rfl | exact Or.inr rfl), ⟨F_33, q22, QTm.mk ht hP hD hO hR, hv2⟩⟩, hS.F ht⟩) hS.2.2 dX15_isQuad_94
          ·
            refine lv_iload hx hb dX15_isQuad_85 (lv_at hl 1 rfl) ?_
            refine lv_sipush (v := 255) hx hb dX15_isQuad_87 (by decide) ?_
            refine lv_icmp_le (tgt := 95) hx hb dX15_isQuad_90 (by decide) (fun c_61 => ?_) (fun c_61 => ?_)
            ·
              refine lv_aload_n hx hb dX15_isQuad_95 rfl (lv_at hl 4 rfl) ?_
              refine lv_aload_n hx hb dX15_isQuad_96 rfl (lv_at hl 4 rfl) ?_
              refine pg_get (ci := 15) (v := .int q22) (C := RX15) (T := TX15) (N := 59) hx hb hts it_15 hown hK hP hL_h0 hv2 rfl 22 (by decide) (hts _ kt_745) (fun _ h9 => h9) rfl dX15_isQuad_97 ?_
              refine lv_bipush (v := 8) hx hb dX15_isQuad_100 (by decide) ?_
              refine lv_ishl hx hb dX15_isQuad_102 ?_
              refine lv_topi (fun x_62 _ => ?_)
              refine lv_iload hx hb dX15_isQuad_103 (lv_at hl 1 rfl) ?_
              refine lv_ior hx hb dX15_isQuad_105 ?_
              refine lv_topi (fun x_63 _ => ?_)
              refine pg_put (ci := 15) (v := .int x_63) (ty := .int) (C := RX15) (T := TX15) (N := 59) hx hb hts it_15 tyX15 tyX15_ok nmX15 hown hK hP hD hS hL_h0 hv2 rfl 22 (by decide) (hts _ kt_745) (fun _ h9 => h9) rfl (by decide +kernel) (rfl) (rfl) (Nat.le_of_ble_eq_true rfl) dX15_isQuad_106 (fun H locs hP hD hS => ?_)
              obtain ⟨F_64, he_65, hP, hD, hO, hR⟩ : ∃ G, G = va_up F_33 h0 (.inr (15, (.ref ta) :: (.int (nI zt)) :: (.int (nI zo)) :: (.int (nI ze)) :: (.ref ou) :: (.ref so) :: (.ref ad) :: (.ref na) :: (.ref va) :: (.ref lc) :: (.ref dm) :: (.int (nI fm)) :: (.int (nI sn)) :: (.ref tg) :: (.int v14) :: (.int v15) :: (.ref pe) :: (.int v17) :: (.int v18) :: (.int v19) :: (.int v20) :: (.int v21) :: (.int x_63) :: (.ref ml) :: (.ref bg) :: (.ref co) :: (.ref sp) :: (.ref nb0) :: (.ref nb1) :: (.ref nb2) :: (.int (nI nf)) :: (.int (nI bd)) :: (.int (nI mm)) :: (.int v33) :: (.ref pl) :: (.ref se) :: (.ref ke) :: (.ref wi) :: (.ref hs) :: (.ref mo) :: (.ref po) :: (.ref nu) :: (.ref pr) :: (.ref sq) :: (.ref xa) :: (.ref sa) :: (.ref n64) :: (.ref m64) :: (.ref ex) :: (.ref wh) :: (.ref sd) :: (.ref tk) :: (.int v52) :: (.int v53) :: (.int v54) :: (.ref hd) :: (.ref ak) :: (.ref ho) :: (.ref ot) :: [])) ∧ va_P (dC, dI) vwCl (va_pl L G) H ∧ va_D A (va_pl L G) ∧ OKm cs ty gm L G ∧ FR ty [ρ] F G := ⟨_, rfl, hP, hD, hO.up (shm.mod hT_h0 ⟨v14, v15, v17, v18, v19, v20, v21, x_63, v33, v52, v53, v54, rfl, (by first | omega | assumption | exact Or.inl rfl | exact Or.inr rfl), (by first | omega | assumption | exact Or.inl rfl | exact Or.inr rfl), (by first | omega | assumption | exact Or.inl rfl | exact Or.inr rfl), (by first | omega | assumption | exact Or.inl rfl | exact Or.inr rfl), (by first | omega | assumption | exact Or.inl rfl | exact Or.inr rfl)⟩), hR.up hT_h0 (by simp)⟩
              have hF_66 : F_64 h0 = .inr (15, (.ref ta) :: (.int (nI zt)) :: (.int (nI zo)) :: (.int (nI ze)) :: (.ref ou) :: (.ref so) :: (.ref ad) :: (.ref na) :: (.ref va) :: (.ref lc) :: (.ref dm) :: (.int (nI fm)) :: (.int (nI sn)) :: (.ref tg) :: (.int v14) :: (.int v15) :: (.ref pe) :: (.int v17) :: (.int v18) :: (.int v19) :: (.int v20) :: (.int v21) :: (.int x_63) :: (.ref ml) :: (.ref bg) :: (.ref co) :: (.ref sp) :: (.ref nb0) :: (.ref nb1) :: (.ref nb2) :: (.int (nI nf)) :: (.int (nI bd)) :: (.int (nI mm)) :: (.int v33) :: (.ref pl) :: (.ref se) :: (.ref ke) :: (.ref wi) :: (.ref hs) :: (.ref mo) :: (.ref po) :: (.ref nu) :: (.ref pr) :: (.ref sq) :: (.ref xa) :: (.ref sa) :: (.ref n64) :: (.ref m64) :: (.ref ex) :: (.ref wh) :: (.ref sd) :: (.ref tk) :: (.int v52) :: (.int v53) :: (.int v54) :: (.ref hd) :: (.ref ak) :: (.ref ho) :: (.ref ot) :: []) := by rw [he_65]; exact up_self
              have hF_67 : F_64 g1 = .inl (cs 17, 700, .inl fv) := by rw [he_65, up_ne (ne_ty hT_g1 hT_h0 (by simp))]; exact hF_37
              obtain ⟨x_68, ex_68⟩ : ∃ y : Int32, y = w4 + Int32.ofInt 1 := ⟨_, rfl⟩
              refine lv_iinc (v := x_68) (lv' := [(4, .int x_68), (7, .int (nI j)), (6, .int w6), (5, .int w5), (0, .ref h0), (1, .ref g1), (2, .int (nI a)), (3, .int (nI tt))]) hx hb dX15_isQuad_109 hl (k := 3) rfl (ex_68.symm) (by decide) rfl (fun ls hl => ?_)
              refine lv_iconst (v := 0) hx hb dX15_isQuad_112 (by decide) ?_
              refine lv_istore (lv' := [(5, .int 0), (4, .int x_68), (7, .int (nI j)), (6, .int w6), (0, .ref h0), (1, .ref g1), (2, .int (nI a)), (3, .int (nI tt))]) hx hb dX15_isQuad_113 hl (by decide) rfl (fun ls hl => ?_)
              refine lv_iconst (v := 0) hx hb dX15_isQuad_115 (by decide) ?_
              refine lv_istore (lv' := [(6, .int 0), (5, .int 0), (4, .int x_68), (7, .int (nI j)), (0, .ref h0), (1, .ref g1), (2, .int (nI a)), (3, .int (nI tt))]) hx hb dX15_isQuad_116 hl (by decide) rfl (fun ls hl => ?_)
              refine lv_iinc (v := (nI (j + 1))) (lv' := [(7, .int (nI (j + 1))), (6, .int 0), (5, .int 0), (4, .int x_68), (0, .ref h0), (1, .ref g1), (2, .int (nI a)), (3, .int (nI tt))]) hx hb dX15_isQuad_118 hl (k := 3) rfl (nI_1 _) (by decide) rfl (fun ls hl => ?_)
              refine lv_goto (tgt := 17) hx hb dX15_isQuad_121 (by decide) ?_
              refine W.widen (k := 0) (n := 0) (by omega) (by omega) ?_
              exact ih_36 ((j + 1), x_68, 0, 0, x_63) F_64 (⟨by omega, hF_66⟩) (by show 20001 - (j + 1) < 20001 - j; omega) hO hR _ _ hP hD hS ls (lv_sub hl [0, 1, 2, 3, 4, 5, 6, 7] rfl)
            ·
              refine lv_iconst (v := 0) hx hb dX15_isQuad_93 (by decide) ?_
              refine W.widen (k := 0) (n := 0) (by omega) (by omega) ?_
              exact W.zret (v := 0) (ty := .boolean) hx hb hr (by decide) (fun t ht hWm => ⟨⟨0, (), rfl, (by first | exact Or.inl rfl | exact Or.inr rfl), ⟨F_33, q22, QTm.mk ht hP hD hO hR, hv2⟩⟩, hS.F ht⟩) hS.2.2 dX15_isQuad_94
    ·
      have hi_69 : j < tt := ltN (N := tt) c_42
      refine lv_aload_n hx hb dX15_isQuad_29 rfl (lv_at hl 5 rfl) ?_
      refine lv_iload hx hb dX15_isQuad_30 (lv_at hl 0 rfl) ?_
      obtain ⟨hq_70, hq_71⟩ := hW.octs hL_g1 hT_g1
      refine pg_bald hx hb hK hP hL_g1 1 hF_37 rfl (vp_in_nI (by omega) (by omega)) dX15_isQuad_32 ?_
      refine lv_topi (fun x_72 ex_72 => ?_)
      obtain rfl : x_72 = fv j := ex_72.trans (congrArg fv (show ((nI j) : Int32).toNatClampNeg = j from nI_clamp (by omega)))
      have hFc := pg_free hD hS hA
      refine va_calli (va_runS (As := [.int (fv j)]) (rest := []) ⟨hx, hb, hml, hown, hts⟩ (s_X15_isDigit l dC dI cs ty gm L H.size F_33 (fv j) hW ) ⟨callB_of 1 hts (gi kt_687) rfl rfl rfl (hts _ kt_669) (hts _ kt_707) (by decide +kernel) ⟨Nat.le_of_ble_eq_true rfl, Nat.le_of_ble_eq_true rfl⟩, (hts _ kt_688)⟩ ⟨fun a U g mk q => ⟨q.1, PTm.calling q.2⟩, fun U hU hWm => ⟨rfl, PTm.mk hU hWm hP hK hD hE hO⟩⟩ rfl rfl hl.1 rfl (lv_room (Nat.le_of_ble_eq_true rfl)) dX15_isQuad_33 ⟨by show _ + 0 ≤ 0; omega, by show _ + 0 ≤ 0; omega⟩) hS (fun q _ h => hFc q h) hFc (fun r_73 u t H1 locs ht hvm hw hB hz1 hk1 hS => ?_)
      obtain ⟨F_74, hB1⟩ := hB
      obtain rfl : F_33 = F_74 := (funext (fun a => hB1.2.2.2 a List.not_mem_nil)).symm
      obtain ⟨hP, hD, hO, hR⟩ := QTm.back hB1 ht hFc hR (fun q h => absurd h List.not_mem_nil)
      generalize H1 = H at hP hS ⊢
      have hw : (r_73 = 0 ∨ r_73 = 1) := hw
      have hw_75 := hw
      refine lv_if_eq (tgt := 65) hx hb dX15_isQuad_36 (by decide) (fun c_76 => ?_) (fun c_76 => ?_)
      ·
        refine lv_iload hx hb dX15_isQuad_65 (lv_at hl 0 rfl) ?_
        refine lv_iload_n hx hb dX15_isQuad_67 rfl (lv_at hl 7 rfl) ?_
        refine lv_icmp_ge (tgt := 80) hx hb dX15_isQuad_68 (by decide) (fun c_77 => ?_) (fun c_77 => ?_)
        ·
          have hi_78 : tt ≤ j := leN (N := tt) c_77
          refine lv_iload hx hb dX15_isQuad_80 (lv_at hl 2 rfl) ?_
          refine lv_if_eq (tgt := 93) hx hb dX15_isQuad_82 (by decide) (fun c_79 => ?_) (fun c_79 => ?_)
          ·
            refine lv_iconst (v := 0) hx hb dX15_isQuad_93 (by decide) ?_
            refine W.widen (k := 0) (n := 0) (by omega) (by omega) ?_
            exact W.zret (v := 0) (ty := .boolean) hx hb hr (by decide) (fun t ht hWm => ⟨⟨0, (), rfl, (by first | exact Or.inl rfl | exact Or.inr rfl), ⟨F_33, q22, QTm.mk ht hP hD hO hR, hv2⟩⟩, hS.F ht⟩) hS.2.2 dX15_isQuad_94
          ·
            refine lv_iload hx hb dX15_isQuad_85 (lv_at hl 1 rfl) ?_
            refine lv_sipush (v := 255) hx hb dX15_isQuad_87 (by decide) ?_
            refine lv_icmp_le (tgt := 95) hx hb dX15_isQuad_90 (by decide) (fun c_80 => ?_) (fun c_80 => ?_)
            ·
              refine lv_aload_n hx hb dX15_isQuad_95 rfl (lv_at hl 4 rfl) ?_
              refine lv_aload_n hx hb dX15_isQuad_96 rfl (lv_at hl 4 rfl) ?_
              refine pg_get (ci := 15) (v := .int q22) (C := RX15) (T := TX15) (N := 59) hx hb hts it_15 hown hK hP hL_h0 hv2 rfl 22 (by decide) (hts _ kt_745) (fun _ h9 => h9) rfl dX15_isQuad_97 ?_
              refine lv_bipush (v := 8) hx hb dX15_isQuad_100 (by decide) ?_
              refine lv_ishl hx hb dX15_isQuad_102 ?_
              refine lv_topi (fun x_81 _ => ?_)
              refine lv_iload hx hb dX15_isQuad_103 (lv_at hl 1 rfl) ?_
              refine lv_ior hx hb dX15_isQuad_105 ?_
              refine lv_topi (fun x_82 _ => ?_)
              refine pg_put (ci := 15) (v := .int x_82) (ty := .int) (C := RX15) (T := TX15) (N := 59) hx hb hts it_15 tyX15 tyX15_ok nmX15 hown hK hP hD hS hL_h0 hv2 rfl 22 (by decide) (hts _ kt_745) (fun _ h9 => h9) rfl (by decide +kernel) (rfl) (rfl) (Nat.le_of_ble_eq_true rfl) dX15_isQuad_106 (fun H locs hP hD hS => ?_)
              obtain ⟨F_83, he_84, hP, hD, hO, hR⟩ : ∃ G, G = va_up F_33 h0 (.inr (15, (.ref ta) :: (.int (nI zt)) :: (.int (nI zo)) :: (.int (nI ze)) :: (.ref ou) :: (.ref so) :: (.ref ad) :: (.ref na) :: (.ref va) :: (.ref lc) :: (.ref dm) :: (.int (nI fm)) :: (.int (nI sn)) :: (.ref tg) :: (.int v14) :: (.int v15) :: (.ref pe) :: (.int v17) :: (.int v18) :: (.int v19) :: (.int v20) :: (.int v21) :: (.int x_82) :: (.ref ml) :: (.ref bg) :: (.ref co) :: (.ref sp) :: (.ref nb0) :: (.ref nb1) :: (.ref nb2) :: (.int (nI nf)) :: (.int (nI bd)) :: (.int (nI mm)) :: (.int v33) :: (.ref pl) :: (.ref se) :: (.ref ke) :: (.ref wi) :: (.ref hs) :: (.ref mo) :: (.ref po) :: (.ref nu) :: (.ref pr) :: (.ref sq) :: (.ref xa) :: (.ref sa) :: (.ref n64) :: (.ref m64) :: (.ref ex) :: (.ref wh) :: (.ref sd) :: (.ref tk) :: (.int v52) :: (.int v53) :: (.int v54) :: (.ref hd) :: (.ref ak) :: (.ref ho) :: (.ref ot) :: [])) ∧ va_P (dC, dI) vwCl (va_pl L G) H ∧ va_D A (va_pl L G) ∧ OKm cs ty gm L G ∧ FR ty [ρ] F G := ⟨_, rfl, hP, hD, hO.up (shm.mod hT_h0 ⟨v14, v15, v17, v18, v19, v20, v21, x_82, v33, v52, v53, v54, rfl, (by first | omega | assumption | exact Or.inl rfl | exact Or.inr rfl), (by first | omega | assumption | exact Or.inl rfl | exact Or.inr rfl), (by first | omega | assumption | exact Or.inl rfl | exact Or.inr rfl), (by first | omega | assumption | exact Or.inl rfl | exact Or.inr rfl), (by first | omega | assumption | exact Or.inl rfl | exact Or.inr rfl)⟩), hR.up hT_h0 (by simp)⟩
              have hF_85 : F_83 h0 = .inr (15, (.ref ta) :: (.int (nI zt)) :: (.int (nI zo)) :: (.int (nI ze)) :: (.ref ou) :: (.ref so) :: (.ref ad) :: (.ref na) :: (.ref va) :: (.ref lc) :: (.ref dm) :: (.int (nI fm)) :: (.int (nI sn)) :: (.ref tg) :: (.int v14) :: (.int v15) :: (.ref pe) :: (.int v17) :: (.int v18) :: (.int v19) :: (.int v20) :: (.int v21) :: (.int x_82) :: (.ref ml) :: (.ref bg) :: (.ref co) :: (.ref sp) :: (.ref nb0) :: (.ref nb1) :: (.ref nb2) :: (.int (nI nf)) :: (.int (nI bd)) :: (.int (nI mm)) :: (.int v33) :: (.ref pl) :: (.ref se) :: (.ref ke) :: (.ref wi) :: (.ref hs) :: (.ref mo) :: (.ref po) :: (.ref nu) :: (.ref pr) :: (.ref sq) :: (.ref xa) :: (.ref sa) :: (.ref n64) :: (.ref m64) :: (.ref ex) :: (.ref wh) :: (.ref sd) :: (.ref tk) :: (.int v52) :: (.int v53) :: (.int v54) :: (.ref hd) :: (.ref ak) :: (.ref ho) :: (.ref ot) :: []) := by rw [he_84]; exact up_self
              have hF_86 : F_83 g1 = .inl (cs 17, 700, .inl fv) := by rw [he_84, up_ne (ne_ty hT_g1 hT_h0 (by simp))]; exact hF_37
              obtain ⟨x_87, ex_87⟩ : ∃ y : Int32, y = w4 + Int32.ofInt 1 := ⟨_, rfl⟩
              refine lv_iinc (v := x_87) (lv' := [(4, .int x_87), (7, .int (nI j)), (6, .int w6), (5, .int w5), (0, .ref h0), (1, .ref g1), (2, .int (nI a)), (3, .int (nI tt))]) hx hb dX15_isQuad_109 hl (k := 3) rfl (ex_87.symm) (by decide) rfl (fun ls hl => ?_)
              refine lv_iconst (v := 0) hx hb dX15_isQuad_112 (by decide) ?_
              refine lv_istore (lv' := [(5, .int 0), (4, .int x_87), (7, .int (nI j)), (6, .int w6), (0, .ref h0), (1, .ref g1), (2, .int (nI a)), (3, .int (nI tt))]) hx hb dX15_isQuad_113 hl (by decide) rfl (fun ls hl => ?_)
              refine lv_iconst (v := 0) hx hb dX15_isQuad_115 (by decide) ?_
              refine lv_istore (lv' := [(6, .int 0), (5, .int 0), (4, .int x_87), (7, .int (nI j)), (0, .ref h0), (1, .ref g1), (2, .int (nI a)), (3, .int (nI tt))]) hx hb dX15_isQuad_116 hl (by decide) rfl (fun ls hl => ?_)
              refine lv_iinc (v := (nI (j + 1))) (lv' := [(7, .int (nI (j + 1))), (6, .int 0), (5, .int 0), (4, .int x_87), (0, .ref h0), (1, .ref g1), (2, .int (nI a)), (3, .int (nI tt))]) hx hb dX15_isQuad_118 hl (k := 3) rfl (nI_1 _) (by decide) rfl (fun ls hl => ?_)
              refine lv_goto (tgt := 17) hx hb dX15_isQuad_121 (by decide) ?_
              refine W.widen (k := 0) (n := 0) (by omega) (by omega) ?_
              exact ih_36 ((j + 1), x_87, 0, 0, x_82) F_83 (⟨by omega, hF_85⟩) (by show 20001 - (j + 1) < 20001 - j; omega) hO hR _ _ hP hD hS ls (lv_sub hl [0, 1, 2, 3, 4, 5, 6, 7] rfl)
            ·
              refine lv_iconst (v := 0) hx hb dX15_isQuad_93 (by decide) ?_
              refine W.widen (k := 0) (n := 0) (by omega) (by omega) ?_
              exact W.zret (v := 0) (ty := .boolean) hx hb hr (by decide) (fun t ht hWm => ⟨⟨0, (), rfl, (by first | exact Or.inl rfl | exact Or.inr rfl), ⟨F_33, q22, QTm.mk ht hP hD hO hR, hv2⟩⟩, hS.F ht⟩) hS.2.2 dX15_isQuad_94
        ·
          have hi_88 : j < tt := ltN (N := tt) c_77
          refine lv_aload_n hx hb dX15_isQuad_71 rfl (lv_at hl 5 rfl) ?_
          refine lv_iload hx hb dX15_isQuad_72 (lv_at hl 0 rfl) ?_
          refine pg_bald hx hb hK hP hL_g1 1 hF_37 rfl (vp_in_nI (by omega) (by omega)) dX15_isQuad_74 ?_
          refine lv_topi (fun x_89 ex_89 => ?_)
          obtain rfl : x_89 = fv j := ex_89.trans (congrArg fv (show ((nI j) : Int32).toNatClampNeg = j from nI_clamp (by omega)))
          refine lv_bipush (v := 46) hx hb dX15_isQuad_75 (by decide) ?_
          refine lv_icmp_ne (tgt := 93) hx hb dX15_isQuad_77 (by decide) (fun c_90 => ?_) (fun c_90 => ?_)
          ·
            refine lv_iconst (v := 0) hx hb dX15_isQuad_93 (by decide) ?_
            refine W.widen (k := 0) (n := 0) (by omega) (by omega) ?_
            exact W.zret (v := 0) (ty := .boolean) hx hb hr (by decide) (fun t ht hWm => ⟨⟨0, (), rfl, (by first | exact Or.inl rfl | exact Or.inr rfl), ⟨F_33, q22, QTm.mk ht hP hD hO hR, hv2⟩⟩, hS.F ht⟩) hS.2.2 dX15_isQuad_94
          ·
            refine lv_iload hx hb dX15_isQuad_80 (lv_at hl 2 rfl) ?_
            refine lv_if_eq (tgt := 93) hx hb dX15_isQuad_82 (by decide) (fun c_91 => ?_) (fun c_91 => ?_)
            ·
              refine lv_iconst (v := 0) hx hb dX15_isQuad_93 (by decide) ?_
              refine W.widen (k := 0) (n := 0) (by omega) (by omega) ?_
              exact W.zret (v := 0) (ty := .boolean) hx hb hr (by decide) (fun t ht hWm => ⟨⟨0, (), rfl, (by first | exact Or.inl rfl | exact Or.inr rfl), ⟨F_33, q22, QTm.mk ht hP hD hO hR, hv2⟩⟩, hS.F ht⟩) hS.2.2 dX15_isQuad_94
            ·
              refine lv_iload hx hb dX15_isQuad_85 (lv_at hl 1 rfl) ?_
              refine lv_sipush (v := 255) hx hb dX15_isQuad_87 (by decide) ?_
              refine lv_icmp_le (tgt := 95) hx hb dX15_isQuad_90 (by decide) (fun c_92 => ?_) (fun c_92 => ?_)
              ·
                refine lv_aload_n hx hb dX15_isQuad_95 rfl (lv_at hl 4 rfl) ?_
                refine lv_aload_n hx hb dX15_isQuad_96 rfl (lv_at hl 4 rfl) ?_
                refine pg_get (ci := 15) (v := .int q22) (C := RX15) (T := TX15) (N := 59) hx hb hts it_15 hown hK hP hL_h0 hv2 rfl 22 (by decide) (hts _ kt_745) (fun _ h9 => h9) rfl dX15_isQuad_97 ?_
                refine lv_bipush (v := 8) hx hb dX15_isQuad_100 (by decide) ?_
                refine lv_ishl hx hb dX15_isQuad_102 ?_
                refine lv_topi (fun x_93 _ => ?_)
                refine lv_iload hx hb dX15_isQuad_103 (lv_at hl 1 rfl) ?_
                refine lv_ior hx hb dX15_isQuad_105 ?_
                refine lv_topi (fun x_94 _ => ?_)
                refine pg_put (ci := 15) (v := .int x_94) (ty := .int) (C := RX15) (T := TX15) (N := 59) hx hb hts it_15 tyX15 tyX15_ok nmX15 hown hK hP hD hS hL_h0 hv2 rfl 22 (by decide) (hts _ kt_745) (fun _ h9 => h9) rfl (by decide +kernel) (rfl) (rfl) (Nat.le_of_ble_eq_true rfl) dX15_isQuad_106 (fun H locs hP hD hS => ?_)
                obtain ⟨F_95, he_96, hP, hD, hO, hR⟩ : ∃ G, G = va_up F_33 h0 (.inr (15, (.ref ta) :: (.int (nI zt)) :: (.int (nI zo)) :: (.int (nI ze)) :: (.ref ou) :: (.ref so) :: (.ref ad) :: (.ref na) :: (.ref va) :: (.ref lc) :: (.ref dm) :: (.int (nI fm)) :: (.int (nI sn)) :: (.ref tg) :: (.int v14) :: (.int v15) :: (.ref pe) :: (.int v17) :: (.int v18) :: (.int v19) :: (.int v20) :: (.int v21) :: (.int x_94) :: (.ref ml) :: (.ref bg) :: (.ref co) :: (.ref sp) :: (.ref nb0) :: (.ref nb1) :: (.ref nb2) :: (.int (nI nf)) :: (.int (nI bd)) :: (.int (nI mm)) :: (.int v33) :: (.ref pl) :: (.ref se) :: (.ref ke) :: (.ref wi) :: (.ref hs) :: (.ref mo) :: (.ref po) :: (.ref nu) :: (.ref pr) :: (.ref sq) :: (.ref xa) :: (.ref sa) :: (.ref n64) :: (.ref m64) :: (.ref ex) :: (.ref wh) :: (.ref sd) :: (.ref tk) :: (.int v52) :: (.int v53) :: (.int v54) :: (.ref hd) :: (.ref ak) :: (.ref ho) :: (.ref ot) :: [])) ∧ va_P (dC, dI) vwCl (va_pl L G) H ∧ va_D A (va_pl L G) ∧ OKm cs ty gm L G ∧ FR ty [ρ] F G := ⟨_, rfl, hP, hD, hO.up (shm.mod hT_h0 ⟨v14, v15, v17, v18, v19, v20, v21, x_94, v33, v52, v53, v54, rfl, (by first | omega | assumption | exact Or.inl rfl | exact Or.inr rfl), (by first | omega | assumption | exact Or.inl rfl | exact Or.inr rfl), (by first | omega | assumption | exact Or.inl rfl | exact Or.inr rfl), (by first | omega | assumption | exact Or.inl rfl | exact Or.inr rfl), (by first | omega | assumption | exact Or.inl rfl | exact Or.inr rfl)⟩), hR.up hT_h0 (by simp)⟩
                have hF_97 : F_95 h0 = .inr (15, (.ref ta) :: (.int (nI zt)) :: (.int (nI zo)) :: (.int (nI ze)) :: (.ref ou) :: (.ref so) :: (.ref ad) :: (.ref na) :: (.ref va) :: (.ref lc) :: (.ref dm) :: (.int (nI fm)) :: (.int (nI sn)) :: (.ref tg) :: (.int v14) :: (.int v15) :: (.ref pe) :: (.int v17) :: (.int v18) :: (.int v19) :: (.int v20) :: (.int v21) :: (.int x_94) :: (.ref ml) :: (.ref bg) :: (.ref co) :: (.ref sp) :: (.ref nb0) :: (.ref nb1) :: (.ref nb2) :: (.int (nI nf)) :: (.int (nI bd)) :: (.int (nI mm)) :: (.int v33) :: (.ref pl) :: (.ref se) :: (.ref ke) :: (.ref wi) :: (.ref hs) :: (.ref mo) :: (.ref po) :: (.ref nu) :: (.ref pr) :: (.ref sq) :: (.ref xa) :: (.ref sa) :: (.ref n64) :: (.ref m64) :: (.ref ex) :: (.ref wh) :: (.ref sd) :: (.ref tk) :: (.int v52) :: (.int v53) :: (.int v54) :: (.ref hd) :: (.ref ak) :: (.ref ho) :: (.ref ot) :: []) := by rw [he_96]; exact up_self
                have hF_98 : F_95 g1 = .inl (cs 17, 700, .inl fv) := by rw [he_96, up_ne (ne_ty hT_g1 hT_h0 (by simp))]; exact hF_37
                obtain ⟨x_99, ex_99⟩ : ∃ y : Int32, y = w4 + Int32.ofInt 1 := ⟨_, rfl⟩
                refine lv_iinc (v := x_99) (lv' := [(4, .int x_99), (7, .int (nI j)), (6, .int w6), (5, .int w5), (0, .ref h0), (1, .ref g1), (2, .int (nI a)), (3, .int (nI tt))]) hx hb dX15_isQuad_109 hl (k := 3) rfl (ex_99.symm) (by decide) rfl (fun ls hl => ?_)
                refine lv_iconst (v := 0) hx hb dX15_isQuad_112 (by decide) ?_
                refine lv_istore (lv' := [(5, .int 0), (4, .int x_99), (7, .int (nI j)), (6, .int w6), (0, .ref h0), (1, .ref g1), (2, .int (nI a)), (3, .int (nI tt))]) hx hb dX15_isQuad_113 hl (by decide) rfl (fun ls hl => ?_)
                refine lv_iconst (v := 0) hx hb dX15_isQuad_115 (by decide) ?_
                refine lv_istore (lv' := [(6, .int 0), (5, .int 0), (4, .int x_99), (7, .int (nI j)), (0, .ref h0), (1, .ref g1), (2, .int (nI a)), (3, .int (nI tt))]) hx hb dX15_isQuad_116 hl (by decide) rfl (fun ls hl => ?_)
                refine lv_iinc (v := (nI (j + 1))) (lv' := [(7, .int (nI (j + 1))), (6, .int 0), (5, .int 0), (4, .int x_99), (0, .ref h0), (1, .ref g1), (2, .int (nI a)), (3, .int (nI tt))]) hx hb dX15_isQuad_118 hl (k := 3) rfl (nI_1 _) (by decide) rfl (fun ls hl => ?_)
                refine lv_goto (tgt := 17) hx hb dX15_isQuad_121 (by decide) ?_
                refine W.widen (k := 0) (n := 0) (by omega) (by omega) ?_
                exact ih_36 ((j + 1), x_99, 0, 0, x_94) F_95 (⟨by omega, hF_97⟩) (by show 20001 - (j + 1) < 20001 - j; omega) hO hR _ _ hP hD hS ls (lv_sub hl [0, 1, 2, 3, 4, 5, 6, 7] rfl)
              ·
                refine lv_iconst (v := 0) hx hb dX15_isQuad_93 (by decide) ?_
                refine W.widen (k := 0) (n := 0) (by omega) (by omega) ?_
                exact W.zret (v := 0) (ty := .boolean) hx hb hr (by decide) (fun t ht hWm => ⟨⟨0, (), rfl, (by first | exact Or.inl rfl | exact Or.inr rfl), ⟨F_33, q22, QTm.mk ht hP hD hO hR, hv2⟩⟩, hS.F ht⟩) hS.2.2 dX15_isQuad_94
      ·
        refine lv_bipush (v := 10) hx hb dX15_isQuad_39 (by decide) ?_
        refine lv_iload hx hb dX15_isQuad_41 (lv_at hl 1 rfl) ?_
        refine lv_imul hx hb dX15_isQuad_43 ?_
        refine lv_topi (fun x_100 _ => ?_)
        refine lv_aload_n hx hb dX15_isQuad_44 rfl (lv_at hl 5 rfl) ?_
        refine lv_iload hx hb dX15_isQuad_45 (lv_at hl 0 rfl) ?_
        refine pg_bald hx hb hK hP hL_g1 1 hF_37 rfl (vp_in_nI (by omega) (by omega)) dX15_isQuad_47 ?_
        refine lv_topi (fun x_101 ex_101 => ?_)
        obtain rfl : x_101 = fv j := ex_101.trans (congrArg fv (show ((nI j) : Int32).toNatClampNeg = j from nI_clamp (by omega)))
        refine lv_iadd hx hb dX15_isQuad_48 ?_
        refine lv_topi (fun x_102 _ => ?_)
        refine lv_bipush (v := 48) hx hb dX15_isQuad_49 (by decide) ?_
        refine lv_isub hx hb dX15_isQuad_51 ?_
        refine lv_topi (fun x_103 ex_103 => ?_)
        obtain rfl : x_103 = (x_102 - 48) := ex_103.trans (rfl)
        refine lv_istore (lv' := [(6, .int (x_102 - 48)), (7, .int (nI j)), (5, .int w5), (4, .int w4), (0, .ref h0), (1, .ref g1), (2, .int (nI a)), (3, .int (nI tt))]) hx hb dX15_isQuad_52 hl (by decide) rfl (fun ls hl => ?_)
        obtain ⟨x_104, ex_104⟩ : ∃ y : Int32, y = w5 + Int32.ofInt 1 := ⟨_, rfl⟩
        refine lv_iinc (v := x_104) (lv' := [(5, .int x_104), (6, .int (x_102 - 48)), (7, .int (nI j)), (4, .int w4), (0, .ref h0), (1, .ref g1), (2, .int (nI a)), (3, .int (nI tt))]) hx hb dX15_isQuad_54 hl (k := 2) rfl (ex_104.symm) (by decide) rfl (fun ls hl => ?_)
        refine lv_iload hx hb dX15_isQuad_57 (lv_at hl 0 rfl) ?_
        refine lv_iconst (v := 3) hx hb dX15_isQuad_59 (by decide) ?_
        refine lv_icmp_le (tgt := 118) hx hb dX15_isQuad_60 (by decide) (fun c_105 => ?_) (fun c_105 => ?_)
        ·
          refine lv_iinc (v := (nI (j + 1))) (lv' := [(7, .int (nI (j + 1))), (5, .int x_104), (6, .int (x_102 - 48)), (4, .int w4), (0, .ref h0), (1, .ref g1), (2, .int (nI a)), (3, .int (nI tt))]) hx hb dX15_isQuad_118 hl (k := 2) rfl (nI_1 _) (by decide) rfl (fun ls hl => ?_)
          refine lv_goto (tgt := 17) hx hb dX15_isQuad_121 (by decide) ?_
          refine W.widen (k := 0) (n := 0) (by omega) (by omega) ?_
          exact ih_36 ((j + 1), w4, x_104, (x_102 - 48), q22) F_33 (⟨by omega, hv2⟩) (by show 20001 - (j + 1) < 20001 - j; omega) hO hR _ _ hP hD hS ls (lv_sub hl [0, 2, 1, 3, 4, 5, 6, 7] rfl)
        ·
          refine lv_iconst (v := 0) hx hb dX15_isQuad_63 (by decide) ?_
          refine W.widen (k := 0) (n := 0) (by omega) (by omega) ?_
          exact W.zret (v := 0) (ty := .boolean) hx hb hr (by decide) (fun t ht hWm => ⟨⟨0, (), rfl, (by first | exact Or.inl rfl | exact Or.inr rfl), ⟨F_33, q22, QTm.mk ht hP hD hO hR, hv2⟩⟩, hS.F ht⟩) hS.2.2 dX15_isQuad_64
set_option maxHeartbeats 4000000 in
set_option maxRecDepth 100000 in
theorem s_X15_readHost (l : Launch) (dC : Nat → ClassId) (dI : Nat → Nat → Nat) (cs : Nat → ClassId) (ty : TyM) (gm : Nat → Nat → Nat) (L : List Nat) (sz : Nat) (F : Nat → va_E) (h0 : Nat) (ρ : Nat) (ta : Nat) (ou : Nat) (so : Nat) (ad : Nat) (na : Nat) (va : Nat) (lc : Nat) (dm : Nat) (tg : Nat) (pe : Nat) (ml : Nat) (bg : Nat) (co : Nat) (sp : Nat) (nb0 : Nat) (nb1 : Nat) (nb2 : Nat) (pl : Nat) (se : Nat) (ke : Nat) (wi : Nat) (hs : Nat) (mo : Nat) (po : Nat) (nu : Nat) (pr : Nat) (sq : Nat) (xa : Nat) (sa : Nat) (n64 : Nat) (m64 : Nat) (ex : Nat) (wh : Nat) (sd : Nat) (tk : Nat) (hd : Nat) (ak : Nat) (ho : Nat) (ot : Nat) (sx : Nat) (s0 : Nat) (s1 : Nat) (s2 : Nat) (nf : Nat) (bd : Nat) (mm : Nat) (zo : Nat) (fm : Nat) (sn : Nat) (hg : Nat) (gc : Nat) (gv : Nat) (ze : Nat) (zt : Nat) (v14 : Int32) (v15 : Int32) (v17 : Int32) (v18 : Int32) (v19 : Int32) (v20 : Int32) (v21 : Int32) (v22 : Int32) (v33 : Int32) (v52 : Int32) (v53 : Int32) (v54 : Int32) (g1 : Nat) (μ : Nat) (fv : Nat → Int32) (a : Nat) (tt : Nat) (x4 : Int32) (hW : WTm ty gm L) (hL_h0 : h0 ∈ L) (hT_h0 : ty h0 = (15, ρ, [ta, ou, so, ad, na, va, lc, dm, tg, pe, ml, bg, co, sp, nb0, nb1, nb2, pl, se, ke, wi, hs, mo, po, nu, pr, sq, xa, sa, n64, m64, ex, wh, sd, tk, hd, ak, ho, ot, sx, s0, s1, s2, nf, bd, mm, zo, fm, sn, hg, gc, gv, ze, zt])) (hL_g1 : g1 ∈ L) (hT_g1 : ty g1 = (17, μ, [700])) (hF0 : F h0 = .inr (15, (.ref ta) :: (.int (nI zt)) :: (.int (nI zo)) :: (.int (nI ze)) :: (.ref ou) :: (.ref so) :: (.ref ad) :: (.ref na) :: (.ref va) :: (.ref lc) :: (.ref dm) :: (.int (nI fm)) :: (.int (nI sn)) :: (.ref tg) :: (.int v14) :: (.int v15) :: (.ref pe) :: (.int v17) :: (.int v18) :: (.int v19) :: (.int v20) :: (.int v21) :: (.int v22) :: (.ref ml) :: (.ref bg) :: (.ref co) :: (.ref sp) :: (.ref nb0) :: (.ref nb1) :: (.ref nb2) :: (.int (nI nf)) :: (.int (nI bd)) :: (.int (nI mm)) :: (.int v33) :: (.ref pl) :: (.ref se) :: (.ref ke) :: (.ref wi) :: (.ref hs) :: (.ref mo) :: (.ref po) :: (.ref nu) :: (.ref pr) :: (.ref sq) :: (.ref xa) :: (.ref sa) :: (.ref n64) :: (.ref m64) :: (.ref ex) :: (.ref wh) :: (.ref sd) :: (.ref tk) :: (.int v52) :: (.int v53) :: (.int v54) :: (.ref hd) :: (.ref ak) :: (.ref ho) :: (.ref ot) :: [])) (hzo : zo ≤ 6000) (hze : ze ≤ 40) (h33 : ((v33 = 0 ∧ nf = 0) ∨ (v33 = 1 ∧ 1 ≤ nf))) (h54 : (v54 = 0 ∨ v54 = 1)) (hgf : (hg = 0 ∨ (v14 = nI gc ∧ v15 = nI gv))) (hFg : F g1 = .inl (cs 17, 700, .inl fv)) (hmu : ρ + 100 ≤ μ) (htn : tt ≤ 700) (ha : a ≤ tt) (hm1 : v19 = (-1)) : Met l yX15_readHost (.code yX15_readHost cX15_readHost 6 none :: tb) ({ frames := 2, cells := 0, slots := 0, locals := 50 }) (va_Pc [.ref h0, .ref g1, .int (nI a), .int (nI tt), .int x4] (PTm (dC, dI) cs ty gm L F sz)) (va_Qv (fun _ : Unit => True) (fun _ T9 => ∃ F2 : Nat → va_E, ∃ u17 : Int32, ∃ u19 : Int32, ∃ u20 : Int32, ∃ u21 : Int32, QTm (dC, dI) cs ty gm L [ρ] F F2 (va_A (va_pl L F) sz) T9 ∧ F2 h0 = .inr (15, (.ref ta) :: (.int (nI zt)) :: (.int (nI zo)) :: (.int (nI ze)) :: (.ref ou) :: (.ref so) :: (.ref ad) :: (.ref na) :: (.ref va) :: (.ref lc) :: (.ref dm) :: (.int (nI fm)) :: (.int (nI sn)) :: (.ref tg) :: (.int v14) :: (.int v15) :: (.ref pe) :: (.int u17) :: (.int v18) :: (.int u19) :: (.int u20) :: (.int u21) :: (.int v22) :: (.ref ml) :: (.ref bg) :: (.ref co) :: (.ref sp) :: (.ref nb0) :: (.ref nb1) :: (.ref nb2) :: (.int (nI nf)) :: (.int (nI bd)) :: (.int (nI mm)) :: (.int v33) :: (.ref pl) :: (.ref se) :: (.ref ke) :: (.ref wi) :: (.ref hs) :: (.ref mo) :: (.ref po) :: (.ref nu) :: (.ref pr) :: (.ref sq) :: (.ref xa) :: (.ref sa) :: (.ref n64) :: (.ref m64) :: (.ref ex) :: (.ref wh) :: (.ref sd) :: (.ref tk) :: (.int v52) :: (.int v53) :: (.int v54) :: (.ref hd) :: (.ref ak) :: (.ref ho) :: (.ref ot) :: []) ∧ (u17 = v17 ∨ (u17 = x4 ∧ DOK fv tt u19 u20))) (va_A (va_pl L F) sz)) 0 0 (va_A (va_pl L F) sz) := by
  refine Met.ofW (cc := cX15_readHost) (maxL := 6) (ret := none) (by decide) rfl ?_
  intro p e s m args below meth c s₁ B hml hv
  obtain ⟨rfl, hsz, hP, hK, hD0, hE, hO⟩ := hv
  have hx := B.exec
  have hb := B.bytes
  have hr := B.returns
  have hts : ∀ w ∈ tb, w.before _ s = true := fun w h => atoms_spec (ws := .code yX15_readHost cX15_readHost 6 none :: tb) B.pre w (List.mem_cons_of_mem _ h)
  have hown : s.vm.findClass RX15 = some m.cls := findClass_of_methodNamed B.named
  have hlocks := B.notSynchronized
  subst hsz
  have hD := hD0.self (sz := s.heap.size)
  generalize hAe : va_A (va_pl L F) s.heap.size = A at hD ⊢
  have hA : ∀ q : Nat, s.heap.size ≤ q → A q := fun q h => by rw [← hAe]; exact Or.inr h
  have hS : va_S A s.heap s.heap [] := va_S.rf
  have hR : FR ty [ρ] F F := FR.refl
  have hl := lv_entry ([.ref h0, .ref g1, .int (nI a), .int (nI tt), .int x4]) (n := 6) (Nat.le_of_ble_eq_true rfl)
  rw [lg_entry_eq]
  generalize (lg_sl ([.ref h0, .ref g1, .int (nI a), .int (nI tt), .int x4]) ++ List.replicate (6 - (lg_sl ([.ref h0, .ref g1, .int (nI a), .int (nI tt), .int x4])).length) Slot.unset).toArray = ls at hl ⊢
  have hl : lv_has ls 6 [(0, .ref h0), (1, .ref g1), (2, .int (nI a)), (3, .int (nI tt)), (4, .int x4)] := hl
  refine lv_aload_n hx hb dX15_readHost_0 rfl (lv_at hl 1 rfl) ?_
  refine lv_iload_n hx hb dX15_readHost_1 rfl (lv_at hl 2 rfl) ?_
  refine lv_iload_n hx hb dX15_readHost_2 rfl (lv_at hl 3 rfl) ?_
  obtain ⟨hq_1, hq_2⟩ := hW.octs hL_g1 hT_g1
  have hFc := pg_free hD hS hA
  refine va_calli (va_runS (As := [.ref g1, .int (nI a), .int (nI tt)]) (rest := []) ⟨hx, hb, hml, hown, hts⟩ (s_X15_slashOf l dC dI cs ty gm L s.heap.size F g1 μ 700 a tt hW hL_g1 hT_g1 (by first | omega | assumption | exact Or.inl rfl) (by first | omega | assumption | exact Or.inl rfl)) ⟨callB_of 3 hts (gi kt_746) rfl rfl rfl (hts _ kt_669) (hts _ kt_747) (by decide +kernel) ⟨Nat.le_of_ble_eq_true rfl, Nat.le_of_ble_eq_true rfl⟩, (hts _ kt_748)⟩ ⟨fun a U g mk q => ⟨q.1, PTm.calling q.2⟩, fun U hU hWm => ⟨rfl, PTm.mk hU hWm hP hK hD hE hO⟩⟩ rfl rfl hl.1 rfl (lv_room (Nat.le_of_ble_eq_true rfl)) dX15_readHost_3 ⟨by show _ + 0 ≤ 0; omega, by show _ + 0 ≤ 0; omega⟩) hS (fun q _ h => hFc q h) hFc (fun r_3 u t H1 locs ht hvm hw hB hz1 hk1 hS => ?_)
  obtain ⟨F_4, hB1⟩ := hB
  obtain rfl : F = F_4 := (funext (fun a => hB1.2.2.2 a List.not_mem_nil)).symm
  obtain ⟨hP, hD, hO, hR⟩ := QTm.back hB1 ht hFc hR (fun q h => absurd h List.not_mem_nil)
  generalize H1 = H at hP hS ⊢
  have hw : (∃ k : Nat, a ≤ k ∧ k ≤ max a tt ∧ r_3 = nI k) := hw
  have hw_5 := hw
  obtain ⟨k_6, hk_6a, hk_6b, ek_6⟩ := hw_5
  subst ek_6
  refine lv_istore (lv' := [(5, .int (nI k_6)), (0, .ref h0), (1, .ref g1), (2, .int (nI a)), (3, .int (nI tt)), (4, .int x4)]) hx hb dX15_readHost_6 hl (by decide) rfl (fun ls hl => ?_)
  have hF_9 : F g1 = .inl (cs 17, 700, .inl fv) := (hR g1 (by rw [hT_g1]; simp only [List.mem_cons, List.not_mem_nil, or_false]; omega)).symm.trans hFg
  refine W.widen (k := 0) (n := 0) (by omega) (by omega) ?_
  refine pl_cutm (σ := Int32) A (dC, dI) cs ty gm L [ρ] F 27 6 (fun q21 => [(5, .int (nI k_6)), (0, .ref h0), (1, .ref g1), (2, .int (nI a)), (3, .int (nI tt)), (4, .int x4)]) (fun q21 => []) (fun q21 FF => FF h0 = .inr (15, (.ref ta) :: (.int (nI zt)) :: (.int (nI zo)) :: (.int (nI ze)) :: (.ref ou) :: (.ref so) :: (.ref ad) :: (.ref na) :: (.ref va) :: (.ref lc) :: (.ref dm) :: (.int (nI fm)) :: (.int (nI sn)) :: (.ref tg) :: (.int v14) :: (.int v15) :: (.ref pe) :: (.int v17) :: (.int v18) :: (.int v19) :: (.int v20) :: (.int q21) :: (.int v22) :: (.ref ml) :: (.ref bg) :: (.ref co) :: (.ref sp) :: (.ref nb0) :: (.ref nb1) :: (.ref nb2) :: (.int (nI nf)) :: (.int (nI bd)) :: (.int (nI mm)) :: (.int v33) :: (.ref pl) :: (.ref se) :: (.ref ke) :: (.ref wi) :: (.ref hs) :: (.ref mo) :: (.ref po) :: (.ref nu) :: (.ref pr) :: (.ref sq) :: (.ref xa) :: (.ref sa) :: (.ref n64) :: (.ref m64) :: (.ref ex) :: (.ref wh) :: (.ref sd) :: (.ref tk) :: (.int v52) :: (.int v53) :: (.int v54) :: (.ref hd) :: (.ref ak) :: (.ref ho) :: (.ref ot) :: [])) ?_ (fun jn_7 => ?_)
  ·
    rintro q21 F_8 hv_10 hO hR H locs hP hD hS ls hl
    have hl : lv_has ls 6 [(5, .int (nI k_6)), (0, .ref h0), (1, .ref g1), (2, .int (nI a)), (3, .int (nI tt)), (4, .int x4)] := hl
    have hv_10 : F_8 h0 = .inr (15, (.ref ta) :: (.int (nI zt)) :: (.int (nI zo)) :: (.int (nI ze)) :: (.ref ou) :: (.ref so) :: (.ref ad) :: (.ref na) :: (.ref va) :: (.ref lc) :: (.ref dm) :: (.int (nI fm)) :: (.int (nI sn)) :: (.ref tg) :: (.int v14) :: (.int v15) :: (.ref pe) :: (.int v17) :: (.int v18) :: (.int v19) :: (.int v20) :: (.int q21) :: (.int v22) :: (.ref ml) :: (.ref bg) :: (.ref co) :: (.ref sp) :: (.ref nb0) :: (.ref nb1) :: (.ref nb2) :: (.int (nI nf)) :: (.int (nI bd)) :: (.int (nI mm)) :: (.int v33) :: (.ref pl) :: (.ref se) :: (.ref ke) :: (.ref wi) :: (.ref hs) :: (.ref mo) :: (.ref po) :: (.ref nu) :: (.ref pr) :: (.ref sq) :: (.ref xa) :: (.ref sa) :: (.ref n64) :: (.ref m64) :: (.ref ex) :: (.ref wh) :: (.ref sd) :: (.ref tk) :: (.int v52) :: (.int v53) :: (.int v54) :: (.ref hd) :: (.ref ak) :: (.ref ho) :: (.ref ot) :: []) := hv_10
    refine W.eq (g2 := F0 m 27 ls []) rfl ?_
    have hF_11 : F_8 g1 = .inl (cs 17, 700, .inl fv) := (hR g1 (by rw [hT_g1]; simp only [List.mem_cons, List.not_mem_nil, or_false]; omega)).trans hF_9
    refine lv_aload_n hx hb dX15_readHost_27 rfl (lv_at hl 1 rfl) ?_
    obtain ⟨hq_34, hq_35, hq_36, hq_37, hq_38, hgO, hgA, hgB, hq_39⟩ := hW.sc hL_h0 hT_h0
    refine pg_get (ci := 15) (v := .int q21) (C := RX15) (T := TX15) (N := 59) hx hb hts it_15 hown hK hP hL_h0 hv_10 rfl 21 (by decide) (hts _ kt_749) (fun _ h9 => h9) rfl dX15_readHost_28 ?_
    refine lv_if_ge (tgt := 35) hx hb dX15_readHost_31 (by decide) (fun c_40 => ?_) (fun c_40 => ?_)
    ·
      refine lv_iload hx hb dX15_readHost_35 (lv_at hl 0 rfl) ?_
      refine lv_iload_n hx hb dX15_readHost_37 rfl (lv_at hl 3 rfl) ?_
      refine lv_icmp_le (tgt := 79) hx hb dX15_readHost_38 (by decide) (fun c_41 => ?_) (fun c_41 => ?_)
      ·
        have hi_42 : k_6 ≤ a := (nI_leI (a := k_6) (b := a) (by omega) (by omega)).mp c_41
        refine lv_aload_n hx hb dX15_readHost_79 rfl (lv_at hl 1 rfl) ?_
        refine lv_iload hx hb dX15_readHost_80 (lv_at hl 5 rfl) ?_
        refine pg_put (ci := 15) (v := .int x4) (ty := .int) (C := RX15) (T := TX15) (N := 59) hx hb hts it_15 tyX15 tyX15_ok nmX15 hown hK hP hD hS hL_h0 hv_10 rfl 17 (by decide) (hts _ kt_750) (fun _ h9 => h9) rfl (by decide +kernel) (rfl) (rfl) (Nat.le_of_ble_eq_true rfl) dX15_readHost_82 (fun H locs hP hD hS => ?_)
        obtain ⟨F_43, he_44, hP, hD, hO, hR⟩ : ∃ G, G = va_up F_8 h0 (.inr (15, (.ref ta) :: (.int (nI zt)) :: (.int (nI zo)) :: (.int (nI ze)) :: (.ref ou) :: (.ref so) :: (.ref ad) :: (.ref na) :: (.ref va) :: (.ref lc) :: (.ref dm) :: (.int (nI fm)) :: (.int (nI sn)) :: (.ref tg) :: (.int v14) :: (.int v15) :: (.ref pe) :: (.int x4) :: (.int v18) :: (.int v19) :: (.int v20) :: (.int q21) :: (.int v22) :: (.ref ml) :: (.ref bg) :: (.ref co) :: (.ref sp) :: (.ref nb0) :: (.ref nb1) :: (.ref nb2) :: (.int (nI nf)) :: (.int (nI bd)) :: (.int (nI mm)) :: (.int v33) :: (.ref pl) :: (.ref se) :: (.ref ke) :: (.ref wi) :: (.ref hs) :: (.ref mo) :: (.ref po) :: (.ref nu) :: (.ref pr) :: (.ref sq) :: (.ref xa) :: (.ref sa) :: (.ref n64) :: (.ref m64) :: (.ref ex) :: (.ref wh) :: (.ref sd) :: (.ref tk) :: (.int v52) :: (.int v53) :: (.int v54) :: (.ref hd) :: (.ref ak) :: (.ref ho) :: (.ref ot) :: [])) ∧ va_P (dC, dI) vwCl (va_pl L G) H ∧ va_D A (va_pl L G) ∧ OKm cs ty gm L G ∧ FR ty [ρ] F G := ⟨_, rfl, hP, hD, hO.up (shm.mod hT_h0 ⟨v14, v15, x4, v18, v19, v20, q21, v22, v33, v52, v53, v54, rfl, (by first | omega | assumption | exact Or.inl rfl | exact Or.inr rfl), (by first | omega | assumption | exact Or.inl rfl | exact Or.inr rfl), (by first | omega | assumption | exact Or.inl rfl | exact Or.inr rfl), (by first | omega | assumption | exact Or.inl rfl | exact Or.inr rfl), (by first | omega | assumption | exact Or.inl rfl | exact Or.inr rfl)⟩), hR.up hT_h0 (by simp)⟩
        have hF_45 : F_43 h0 = .inr (15, (.ref ta) :: (.int (nI zt)) :: (.int (nI zo)) :: (.int (nI ze)) :: (.ref ou) :: (.ref so) :: (.ref ad) :: (.ref na) :: (.ref va) :: (.ref lc) :: (.ref dm) :: (.int (nI fm)) :: (.int (nI sn)) :: (.ref tg) :: (.int v14) :: (.int v15) :: (.ref pe) :: (.int x4) :: (.int v18) :: (.int v19) :: (.int v20) :: (.int q21) :: (.int v22) :: (.ref ml) :: (.ref bg) :: (.ref co) :: (.ref sp) :: (.ref nb0) :: (.ref nb1) :: (.ref nb2) :: (.int (nI nf)) :: (.int (nI bd)) :: (.int (nI mm)) :: (.int v33) :: (.ref pl) :: (.ref se) :: (.ref ke) :: (.ref wi) :: (.ref hs) :: (.ref mo) :: (.ref po) :: (.ref nu) :: (.ref pr) :: (.ref sq) :: (.ref xa) :: (.ref sa) :: (.ref n64) :: (.ref m64) :: (.ref ex) :: (.ref wh) :: (.ref sd) :: (.ref tk) :: (.int v52) :: (.int v53) :: (.int v54) :: (.ref hd) :: (.ref ak) :: (.ref ho) :: (.ref ot) :: []) := by rw [he_44]; exact up_self
        have hF_46 : F_43 g1 = .inl (cs 17, 700, .inl fv) := by rw [he_44, up_ne (ne_ty hT_g1 hT_h0 (by simp))]; exact hF_11
        refine W.widen (k := 0) (n := 0) (by omega) (by omega) ?_
        exact W.vret hx hb hr (fun t ht hWm => ⟨⟨(), rfl, trivial, ⟨F_43, x4, v19, v20, q21, QTm.mk ht hP hD hO hR, hF_45, Or.inr ⟨rfl, Or.inl hm1⟩⟩⟩, hS.F ht⟩) hS.2.2 dX15_readHost_85
      ·
        have hi_47 : a < k_6 := Nat.not_le.mp (fun q => c_41 ((nI_leI (a := k_6) (b := a) (by omega) (by omega)).mpr q))
        refine lv_aload_n hx hb dX15_readHost_41 rfl (lv_at hl 1 rfl) ?_
        refine lv_iload_n hx hb dX15_readHost_42 rfl (lv_at hl 3 rfl) ?_
        refine lv_iconst (v := 1) hx hb dX15_readHost_43 (by decide) ?_
        refine lv_iadd hx hb dX15_readHost_44 ?_
        refine lv_topi (fun x_48 ex_48 => ?_)
        obtain rfl : x_48 = (nI (a + 1)) := ex_48.trans (nI_add a 1)
        refine pg_put (ci := 15) (v := .int (nI (a + 1))) (ty := .int) (C := RX15) (T := TX15) (N := 59) hx hb hts it_15 tyX15 tyX15_ok nmX15 hown hK hP hD hS hL_h0 hv_10 rfl 19 (by decide) (hts _ kt_751) (fun _ h9 => h9) rfl (by decide +kernel) (rfl) (rfl) (Nat.le_of_ble_eq_true rfl) dX15_readHost_45 (fun H locs hP hD hS => ?_)
        obtain ⟨F_49, he_50, hP, hD, hO, hR⟩ : ∃ G, G = va_up F_8 h0 (.inr (15, (.ref ta) :: (.int (nI zt)) :: (.int (nI zo)) :: (.int (nI ze)) :: (.ref ou) :: (.ref so) :: (.ref ad) :: (.ref na) :: (.ref va) :: (.ref lc) :: (.ref dm) :: (.int (nI fm)) :: (.int (nI sn)) :: (.ref tg) :: (.int v14) :: (.int v15) :: (.ref pe) :: (.int v17) :: (.int v18) :: (.int (nI (a + 1))) :: (.int v20) :: (.int q21) :: (.int v22) :: (.ref ml) :: (.ref bg) :: (.ref co) :: (.ref sp) :: (.ref nb0) :: (.ref nb1) :: (.ref nb2) :: (.int (nI nf)) :: (.int (nI bd)) :: (.int (nI mm)) :: (.int v33) :: (.ref pl) :: (.ref se) :: (.ref ke) :: (.ref wi) :: (.ref hs) :: (.ref mo) :: (.ref po) :: (.ref nu) :: (.ref pr) :: (.ref sq) :: (.ref xa) :: (.ref sa) :: (.ref n64) :: (.ref m64) :: (.ref ex) :: (.ref wh) :: (.ref sd) :: (.ref tk) :: (.int v52) :: (.int v53) :: (.int v54) :: (.ref hd) :: (.ref ak) :: (.ref ho) :: (.ref ot) :: [])) ∧ va_P (dC, dI) vwCl (va_pl L G) H ∧ va_D A (va_pl L G) ∧ OKm cs ty gm L G ∧ FR ty [ρ] F G := ⟨_, rfl, hP, hD, hO.up (shm.mod hT_h0 ⟨v14, v15, v17, v18, (nI (a + 1)), v20, q21, v22, v33, v52, v53, v54, rfl, (by first | omega | assumption | exact Or.inl rfl | exact Or.inr rfl), (by first | omega | assumption | exact Or.inl rfl | exact Or.inr rfl), (by first | omega | assumption | exact Or.inl rfl | exact Or.inr rfl), (by first | omega | assumption | exact Or.inl rfl | exact Or.inr rfl), (by first | omega | assumption | exact Or.inl rfl | exact Or.inr rfl)⟩), hR.up hT_h0 (by simp)⟩
        have hF_51 : F_49 h0 = .inr (15, (.ref ta) :: (.int (nI zt)) :: (.int (nI zo)) :: (.int (nI ze)) :: (.ref ou) :: (.ref so) :: (.ref ad) :: (.ref na) :: (.ref va) :: (.ref lc) :: (.ref dm) :: (.int (nI fm)) :: (.int (nI sn)) :: (.ref tg) :: (.int v14) :: (.int v15) :: (.ref pe) :: (.int v17) :: (.int v18) :: (.int (nI (a + 1))) :: (.int v20) :: (.int q21) :: (.int v22) :: (.ref ml) :: (.ref bg) :: (.ref co) :: (.ref sp) :: (.ref nb0) :: (.ref nb1) :: (.ref nb2) :: (.int (nI nf)) :: (.int (nI bd)) :: (.int (nI mm)) :: (.int v33) :: (.ref pl) :: (.ref se) :: (.ref ke) :: (.ref wi) :: (.ref hs) :: (.ref mo) :: (.ref po) :: (.ref nu) :: (.ref pr) :: (.ref sq) :: (.ref xa) :: (.ref sa) :: (.ref n64) :: (.ref m64) :: (.ref ex) :: (.ref wh) :: (.ref sd) :: (.ref tk) :: (.int v52) :: (.int v53) :: (.int v54) :: (.ref hd) :: (.ref ak) :: (.ref ho) :: (.ref ot) :: []) := by rw [he_50]; exact up_self
        have hF_52 : F_49 g1 = .inl (cs 17, 700, .inl fv) := by rw [he_50, up_ne (ne_ty hT_g1 hT_h0 (by simp))]; exact hF_11
        refine lv_aload_n hx hb dX15_readHost_48 rfl (lv_at hl 1 rfl) ?_
        refine lv_iload hx hb dX15_readHost_49 (lv_at hl 0 rfl) ?_
        refine pg_put (ci := 15) (v := .int (nI k_6)) (ty := .int) (C := RX15) (T := TX15) (N := 59) hx hb hts it_15 tyX15 tyX15_ok nmX15 hown hK hP hD hS hL_h0 hF_51 rfl 20 (by decide) (hts _ kt_752) (fun _ h9 => h9) rfl (by decide +kernel) (rfl) (rfl) (Nat.le_of_ble_eq_true rfl) dX15_readHost_51 (fun H locs hP hD hS => ?_)
        obtain ⟨F_53, he_54, hP, hD, hO, hR⟩ : ∃ G, G = va_up F_49 h0 (.inr (15, (.ref ta) :: (.int (nI zt)) :: (.int (nI zo)) :: (.int (nI ze)) :: (.ref ou) :: (.ref so) :: (.ref ad) :: (.ref na) :: (.ref va) :: (.ref lc) :: (.ref dm) :: (.int (nI fm)) :: (.int (nI sn)) :: (.ref tg) :: (.int v14) :: (.int v15) :: (.ref pe) :: (.int v17) :: (.int v18) :: (.int (nI (a + 1))) :: (.int (nI k_6)) :: (.int q21) :: (.int v22) :: (.ref ml) :: (.ref bg) :: (.ref co) :: (.ref sp) :: (.ref nb0) :: (.ref nb1) :: (.ref nb2) :: (.int (nI nf)) :: (.int (nI bd)) :: (.int (nI mm)) :: (.int v33) :: (.ref pl) :: (.ref se) :: (.ref ke) :: (.ref wi) :: (.ref hs) :: (.ref mo) :: (.ref po) :: (.ref nu) :: (.ref pr) :: (.ref sq) :: (.ref xa) :: (.ref sa) :: (.ref n64) :: (.ref m64) :: (.ref ex) :: (.ref wh) :: (.ref sd) :: (.ref tk) :: (.int v52) :: (.int v53) :: (.int v54) :: (.ref hd) :: (.ref ak) :: (.ref ho) :: (.ref ot) :: [])) ∧ va_P (dC, dI) vwCl (va_pl L G) H ∧ va_D A (va_pl L G) ∧ OKm cs ty gm L G ∧ FR ty [ρ] F G := ⟨_, rfl, hP, hD, hO.up (shm.mod hT_h0 ⟨v14, v15, v17, v18, (nI (a + 1)), (nI k_6), q21, v22, v33, v52, v53, v54, rfl, (by first | omega | assumption | exact Or.inl rfl | exact Or.inr rfl), (by first | omega | assumption | exact Or.inl rfl | exact Or.inr rfl), (by first | omega | assumption | exact Or.inl rfl | exact Or.inr rfl), (by first | omega | assumption | exact Or.inl rfl | exact Or.inr rfl), (by first | omega | assumption | exact Or.inl rfl | exact Or.inr rfl)⟩), hR.up hT_h0 (by simp)⟩
        have hF_55 : F_53 h0 = .inr (15, (.ref ta) :: (.int (nI zt)) :: (.int (nI zo)) :: (.int (nI ze)) :: (.ref ou) :: (.ref so) :: (.ref ad) :: (.ref na) :: (.ref va) :: (.ref lc) :: (.ref dm) :: (.int (nI fm)) :: (.int (nI sn)) :: (.ref tg) :: (.int v14) :: (.int v15) :: (.ref pe) :: (.int v17) :: (.int v18) :: (.int (nI (a + 1))) :: (.int (nI k_6)) :: (.int q21) :: (.int v22) :: (.ref ml) :: (.ref bg) :: (.ref co) :: (.ref sp) :: (.ref nb0) :: (.ref nb1) :: (.ref nb2) :: (.int (nI nf)) :: (.int (nI bd)) :: (.int (nI mm)) :: (.int v33) :: (.ref pl) :: (.ref se) :: (.ref ke) :: (.ref wi) :: (.ref hs) :: (.ref mo) :: (.ref po) :: (.ref nu) :: (.ref pr) :: (.ref sq) :: (.ref xa) :: (.ref sa) :: (.ref n64) :: (.ref m64) :: (.ref ex) :: (.ref wh) :: (.ref sd) :: (.ref tk) :: (.int v52) :: (.int v53) :: (.int v54) :: (.ref hd) :: (.ref ak) :: (.ref ho) :: (.ref ot) :: []) := by rw [he_54]; exact up_self
        have hF_56 : F_53 g1 = .inl (cs 17, 700, .inl fv) := by rw [he_54, up_ne (ne_ty hT_g1 hT_h0 (by simp))]; exact hF_52
        refine lv_aload_n hx hb dX15_readHost_54 rfl (lv_at hl 2 rfl) ?_
        refine lv_iload_n hx hb dX15_readHost_55 rfl (lv_at hl 3 rfl) ?_
        refine pg_bald hx hb hK hP hL_g1 1 hF_56 rfl (vp_in_nI (by omega) (by omega)) dX15_readHost_56 ?_
        refine lv_topi (fun x_57 ex_57 => ?_)
        obtain rfl : x_57 = fv a := ex_57.trans (congrArg fv (show ((nI a) : Int32).toNatClampNeg = a from nI_clamp (by omega)))
        refine lv_bipush (v := 58) hx hb dX15_readHost_57 (by decide) ?_
        refine lv_icmp_ne (tgt := 78) hx hb dX15_readHost_59 (by decide) (fun c_58 => ?_) (fun c_58 => ?_)
        ·
          refine W.widen (k := 0) (n := 0) (by omega) (by omega) ?_
          exact W.vret hx hb hr (fun t ht hWm => ⟨⟨(), rfl, trivial, ⟨F_53, v17, (nI (a + 1)), (nI k_6), q21, QTm.mk ht hP hD hO hR, hF_55, Or.inl rfl⟩⟩, hS.F ht⟩) hS.2.2 dX15_readHost_78
        ·
          refine lv_aload_n hx hb dX15_readHost_62 rfl (lv_at hl 2 rfl) ?_
          refine lv_aload_n hx hb dX15_readHost_63 rfl (lv_at hl 1 rfl) ?_
          refine pg_get (ci := 15) (v := .int (nI (a + 1))) (C := RX15) (T := TX15) (N := 59) hx hb hts it_15 hown hK hP hL_h0 hF_55 rfl 19 (by decide) (hts _ kt_751) (fun _ h9 => h9) rfl dX15_readHost_64 ?_
          refine lv_aload_n hx hb dX15_readHost_67 rfl (lv_at hl 1 rfl) ?_
          refine pg_get (ci := 15) (v := .int (nI k_6)) (C := RX15) (T := TX15) (N := 59) hx hb hts it_15 hown hK hP hL_h0 hF_55 rfl 20 (by decide) (hts _ kt_752) (fun _ h9 => h9) rfl dX15_readHost_68 ?_
          refine lv_iconst (v := 0) hx hb dX15_readHost_71 (by decide) ?_
          have hFc := pg_free hD hS hA
          refine va_calli (va_runS (As := [.ref g1, .int (nI (a + 1)), .int (nI k_6), .int 0]) (rest := []) ⟨hx, hb, hml, hown, hts⟩ (s_X15_isD l dC dI cs ty gm L H.size F_53 g1 μ 700 (a + 1) k_6 0 hW hL_g1 hT_g1 (by first | omega | assumption | exact Or.inl rfl) (by first | omega | assumption | exact Or.inl rfl)) ⟨callB_of 4 hts (gi kt_753) rfl rfl rfl (hts _ kt_669) (hts _ kt_754) (by decide +kernel) ⟨Nat.le_of_ble_eq_true rfl, Nat.le_of_ble_eq_true rfl⟩, (hts _ kt_755)⟩ ⟨fun a U g mk q => ⟨q.1, PTm.calling q.2⟩, fun U hU hWm => ⟨rfl, PTm.mk hU hWm hP hK hD hE hO⟩⟩ rfl rfl hl.1 rfl (lv_room (Nat.le_of_ble_eq_true rfl)) dX15_readHost_72 ⟨by show _ + 0 ≤ 0; omega, by show _ + 0 ≤ 0; omega⟩) hS (fun q _ h => hFc q h) hFc (fun r_59 u t H1 locs ht hvm hw hB hz1 hk1 hS => ?_)
          obtain ⟨F_60, hB1⟩ := hB
          obtain rfl : F_53 = F_60 := (funext (fun a => hB1.2.2.2 a List.not_mem_nil)).symm
          obtain ⟨hP, hD, hO, hR⟩ := QTm.back hB1 ht hFc hR (fun q h => absurd h List.not_mem_nil)
          generalize H1 = H at hP hS ⊢
          have hw : (r_59 = 0 ∨ (r_59 = 1 ∧ (a + 1) < k_6 ∧ ISD (gA (F_53 g1)) k_6 (a + 1))) := hw
          have hw_61 := hw
          refine lv_if_ne (tgt := 79) hx hb dX15_readHost_75 (by decide) (fun c_62 => ?_) (fun c_62 => ?_)
          ·
            refine lv_aload_n hx hb dX15_readHost_79 rfl (lv_at hl 1 rfl) ?_
            refine lv_iload hx hb dX15_readHost_80 (lv_at hl 5 rfl) ?_
            refine pg_put (ci := 15) (v := .int x4) (ty := .int) (C := RX15) (T := TX15) (N := 59) hx hb hts it_15 tyX15 tyX15_ok nmX15 hown hK hP hD hS hL_h0 hF_55 rfl 17 (by decide) (hts _ kt_750) (fun _ h9 => h9) rfl (by decide +kernel) (rfl) (rfl) (Nat.le_of_ble_eq_true rfl) dX15_readHost_82 (fun H locs hP hD hS => ?_)
            obtain ⟨F_63, he_64, hP, hD, hO, hR⟩ : ∃ G, G = va_up F_53 h0 (.inr (15, (.ref ta) :: (.int (nI zt)) :: (.int (nI zo)) :: (.int (nI ze)) :: (.ref ou) :: (.ref so) :: (.ref ad) :: (.ref na) :: (.ref va) :: (.ref lc) :: (.ref dm) :: (.int (nI fm)) :: (.int (nI sn)) :: (.ref tg) :: (.int v14) :: (.int v15) :: (.ref pe) :: (.int x4) :: (.int v18) :: (.int (nI (a + 1))) :: (.int (nI k_6)) :: (.int q21) :: (.int v22) :: (.ref ml) :: (.ref bg) :: (.ref co) :: (.ref sp) :: (.ref nb0) :: (.ref nb1) :: (.ref nb2) :: (.int (nI nf)) :: (.int (nI bd)) :: (.int (nI mm)) :: (.int v33) :: (.ref pl) :: (.ref se) :: (.ref ke) :: (.ref wi) :: (.ref hs) :: (.ref mo) :: (.ref po) :: (.ref nu) :: (.ref pr) :: (.ref sq) :: (.ref xa) :: (.ref sa) :: (.ref n64) :: (.ref m64) :: (.ref ex) :: (.ref wh) :: (.ref sd) :: (.ref tk) :: (.int v52) :: (.int v53) :: (.int v54) :: (.ref hd) :: (.ref ak) :: (.ref ho) :: (.ref ot) :: [])) ∧ va_P (dC, dI) vwCl (va_pl L G) H ∧ va_D A (va_pl L G) ∧ OKm cs ty gm L G ∧ FR ty [ρ] F G := ⟨_, rfl, hP, hD, hO.up (shm.mod hT_h0 ⟨v14, v15, x4, v18, (nI (a + 1)), (nI k_6), q21, v22, v33, v52, v53, v54, rfl, (by first | omega | assumption | exact Or.inl rfl | exact Or.inr rfl), (by first | omega | assumption | exact Or.inl rfl | exact Or.inr rfl), (by first | omega | assumption | exact Or.inl rfl | exact Or.inr rfl), (by first | omega | assumption | exact Or.inl rfl | exact Or.inr rfl), (by first | omega | assumption | exact Or.inl rfl | exact Or.inr rfl)⟩), hR.up hT_h0 (by simp)⟩
            have hF_65 : F_63 h0 = .inr (15, (.ref ta) :: (.int (nI zt)) :: (.int (nI zo)) :: (.int (nI ze)) :: (.ref ou) :: (.ref so) :: (.ref ad) :: (.ref na) :: (.ref va) :: (.ref lc) :: (.ref dm) :: (.int (nI fm)) :: (.int (nI sn)) :: (.ref tg) :: (.int v14) :: (.int v15) :: (.ref pe) :: (.int x4) :: (.int v18) :: (.int (nI (a + 1))) :: (.int (nI k_6)) :: (.int q21) :: (.int v22) :: (.ref ml) :: (.ref bg) :: (.ref co) :: (.ref sp) :: (.ref nb0) :: (.ref nb1) :: (.ref nb2) :: (.int (nI nf)) :: (.int (nI bd)) :: (.int (nI mm)) :: (.int v33) :: (.ref pl) :: (.ref se) :: (.ref ke) :: (.ref wi) :: (.ref hs) :: (.ref mo) :: (.ref po) :: (.ref nu) :: (.ref pr) :: (.ref sq) :: (.ref xa) :: (.ref sa) :: (.ref n64) :: (.ref m64) :: (.ref ex) :: (.ref wh) :: (.ref sd) :: (.ref tk) :: (.int v52) :: (.int v53) :: (.int v54) :: (.ref hd) :: (.ref ak) :: (.ref ho) :: (.ref ot) :: []) := by rw [he_64]; exact up_self
            have hF_66 : F_63 g1 = .inl (cs 17, 700, .inl fv) := by rw [he_64, up_ne (ne_ty hT_g1 hT_h0 (by simp))]; exact hF_56
            refine W.widen (k := 0) (n := 0) (by omega) (by omega) ?_
            exact W.vret hx hb hr (fun t ht hWm => ⟨⟨(), rfl, trivial, ⟨F_63, x4, (nI (a + 1)), (nI k_6), q21, QTm.mk ht hP hD hO hR, hF_65, Or.inr ⟨rfl, Or.inr ⟨a + 1, k_6, rfl, rfl, by omega, by omega, (by have h9 := (bit1 hw_61 c_62).2; rw [gA_fun hF_56] at h9; exact h9)⟩⟩⟩⟩, hS.F ht⟩) hS.2.2 dX15_readHost_85
          ·
            refine W.widen (k := 0) (n := 0) (by omega) (by omega) ?_
            exact W.vret hx hb hr (fun t ht hWm => ⟨⟨(), rfl, trivial, ⟨F_53, v17, (nI (a + 1)), (nI k_6), q21, QTm.mk ht hP hD hO hR, hF_55, Or.inl rfl⟩⟩, hS.F ht⟩) hS.2.2 dX15_readHost_78
    ·
      refine W.widen (k := 0) (n := 0) (by omega) (by omega) ?_
      exact W.vret hx hb hr (fun t ht hWm => ⟨⟨(), rfl, trivial, ⟨F_8, v17, v19, v20, q21, QTm.mk ht hP hD hO hR, hv_10, Or.inl rfl⟩⟩, hS.F ht⟩) hS.2.2 dX15_readHost_34
  ·
    refine lv_iload hx hb dX15_readHost_8 (lv_at hl 0 rfl) ?_
    refine lv_iload_n hx hb dX15_readHost_10 rfl (lv_at hl 4 rfl) ?_
    refine lv_icmp_ge (tgt := 27) hx hb dX15_readHost_11 (by decide) (fun c_67 => ?_) (fun c_67 => ?_)
    ·
      have hi_68 : tt ≤ k_6 := leN (N := tt) c_67
      obtain ⟨hq_91, hq_92, hq_93, hq_94, hq_95, hgO, hgA, hgB, hq_96⟩ := hW.sc hL_h0 hT_h0
      refine W.widen (k := 0) (n := 0) (by omega) (by omega) ?_
      exact jn_7 v21 F (hF0) hO hR _ _ hP hD hS ls (lv_sub hl [0, 1, 2, 3, 4, 5] rfl)
    ·
      have hi_97 : k_6 < tt := ltN (N := tt) c_67
      refine lv_aload_n hx hb dX15_readHost_14 rfl (lv_at hl 1 rfl) ?_
      refine lv_aload_n hx hb dX15_readHost_15 rfl (lv_at hl 2 rfl) ?_
      refine lv_iload hx hb dX15_readHost_16 (lv_at hl 0 rfl) ?_
      refine lv_iconst (v := 1) hx hb dX15_readHost_18 (by decide) ?_
      refine lv_iadd hx hb dX15_readHost_19 ?_
      refine lv_topi (fun x_98 ex_98 => ?_)
      obtain rfl : x_98 = (nI (k_6 + 1)) := ex_98.trans (nI_add k_6 1)
      refine lv_iload_n hx hb dX15_readHost_20 rfl (lv_at hl 4 rfl) ?_
      have hFc := pg_free hD hS hA
      refine va_calli (va_runS (As := [.ref g1, .int (nI (k_6 + 1)), .int (nI tt)]) (rest := [.ref h0]) ⟨hx, hb, hml, hown, hts⟩ (s_X15_bits l dC dI cs ty gm L H.size F g1 μ 700 (k_6 + 1) tt hW hL_g1 hT_g1 (by first | omega | assumption | exact Or.inl rfl) (by first | omega | assumption | exact Or.inl rfl)) ⟨callB_of 3 hts (gi kt_756) rfl rfl rfl (hts _ kt_669) (hts _ kt_757) (by decide +kernel) ⟨Nat.le_of_ble_eq_true rfl, Nat.le_of_ble_eq_true rfl⟩, (hts _ kt_758)⟩ ⟨fun a U g mk q => ⟨q.1, PTm.calling q.2⟩, fun U hU hWm => ⟨rfl, PTm.mk hU hWm hP hK hD hE hO⟩⟩ rfl rfl hl.1 rfl (lv_room (Nat.le_of_ble_eq_true rfl)) dX15_readHost_21 ⟨by show _ + 0 ≤ 0; omega, by show _ + 0 ≤ 0; omega⟩) hS (fun q _ h => hFc q h) hFc (fun r_99 u t H1 locs ht hvm hw hB hz1 hk1 hS => ?_)
      obtain ⟨F_100, hB1⟩ := hB
      obtain rfl : F = F_100 := (funext (fun a => hB1.2.2.2 a List.not_mem_nil)).symm
      obtain ⟨hP, hD, hO, hR⟩ := QTm.back hB1 ht hFc hR (fun q h => absurd h List.not_mem_nil)
      generalize H1 = H at hP hS ⊢
      have hw : True := hw
      have hw_101 := hw
      obtain ⟨hq_124, hq_125, hq_126, hq_127, hq_128, hgO, hgA, hgB, hq_129⟩ := hW.sc hL_h0 hT_h0
      refine pg_put (ci := 15) (v := .int r_99) (ty := .int) (C := RX15) (T := TX15) (N := 59) hx hb hts it_15 tyX15 tyX15_ok nmX15 hown hK hP hD hS hL_h0 hF0 rfl 21 (by decide) (hts _ kt_749) (fun _ h9 => h9) rfl (by decide +kernel) (rfl) (rfl) (Nat.le_of_ble_eq_true rfl) dX15_readHost_24 (fun H locs hP hD hS => ?_)
      obtain ⟨F_130, he_131, hP, hD, hO, hR⟩ : ∃ G, G = va_up F h0 (.inr (15, (.ref ta) :: (.int (nI zt)) :: (.int (nI zo)) :: (.int (nI ze)) :: (.ref ou) :: (.ref so) :: (.ref ad) :: (.ref na) :: (.ref va) :: (.ref lc) :: (.ref dm) :: (.int (nI fm)) :: (.int (nI sn)) :: (.ref tg) :: (.int v14) :: (.int v15) :: (.ref pe) :: (.int v17) :: (.int v18) :: (.int v19) :: (.int v20) :: (.int r_99) :: (.int v22) :: (.ref ml) :: (.ref bg) :: (.ref co) :: (.ref sp) :: (.ref nb0) :: (.ref nb1) :: (.ref nb2) :: (.int (nI nf)) :: (.int (nI bd)) :: (.int (nI mm)) :: (.int v33) :: (.ref pl) :: (.ref se) :: (.ref ke) :: (.ref wi) :: (.ref hs) :: (.ref mo) :: (.ref po) :: (.ref nu) :: (.ref pr) :: (.ref sq) :: (.ref xa) :: (.ref sa) :: (.ref n64) :: (.ref m64) :: (.ref ex) :: (.ref wh) :: (.ref sd) :: (.ref tk) :: (.int v52) :: (.int v53) :: (.int v54) :: (.ref hd) :: (.ref ak) :: (.ref ho) :: (.ref ot) :: [])) ∧ va_P (dC, dI) vwCl (va_pl L G) H ∧ va_D A (va_pl L G) ∧ OKm cs ty gm L G ∧ FR ty [ρ] F G := ⟨_, rfl, hP, hD, hO.up (shm.mod hT_h0 ⟨v14, v15, v17, v18, v19, v20, r_99, v22, v33, v52, v53, v54, rfl, (by first | omega | assumption | exact Or.inl rfl | exact Or.inr rfl), (by first | omega | assumption | exact Or.inl rfl | exact Or.inr rfl), (by first | omega | assumption | exact Or.inl rfl | exact Or.inr rfl), (by first | omega | assumption | exact Or.inl rfl | exact Or.inr rfl), (by first | omega | assumption | exact Or.inl rfl | exact Or.inr rfl)⟩), hR.up hT_h0 (by simp)⟩
      have hF_132 : F_130 h0 = .inr (15, (.ref ta) :: (.int (nI zt)) :: (.int (nI zo)) :: (.int (nI ze)) :: (.ref ou) :: (.ref so) :: (.ref ad) :: (.ref na) :: (.ref va) :: (.ref lc) :: (.ref dm) :: (.int (nI fm)) :: (.int (nI sn)) :: (.ref tg) :: (.int v14) :: (.int v15) :: (.ref pe) :: (.int v17) :: (.int v18) :: (.int v19) :: (.int v20) :: (.int r_99) :: (.int v22) :: (.ref ml) :: (.ref bg) :: (.ref co) :: (.ref sp) :: (.ref nb0) :: (.ref nb1) :: (.ref nb2) :: (.int (nI nf)) :: (.int (nI bd)) :: (.int (nI mm)) :: (.int v33) :: (.ref pl) :: (.ref se) :: (.ref ke) :: (.ref wi) :: (.ref hs) :: (.ref mo) :: (.ref po) :: (.ref nu) :: (.ref pr) :: (.ref sq) :: (.ref xa) :: (.ref sa) :: (.ref n64) :: (.ref m64) :: (.ref ex) :: (.ref wh) :: (.ref sd) :: (.ref tk) :: (.int v52) :: (.int v53) :: (.int v54) :: (.ref hd) :: (.ref ak) :: (.ref ho) :: (.ref ot) :: []) := by rw [he_131]; exact up_self
      have hF_133 : F_130 g1 = .inl (cs 17, 700, .inl fv) := by rw [he_131, up_ne (ne_ty hT_g1 hT_h0 (by simp))]; exact hFg
      refine W.widen (k := 0) (n := 0) (by omega) (by omega) ?_
      exact jn_7 r_99 F_130 (hF_132) hO hR _ _ hP hD hS ls (lv_sub hl [0, 1, 2, 3, 4, 5] rfl)
set_option maxHeartbeats 4000000 in
set_option maxRecDepth 100000 in
theorem s_X15_readTerm (l : Launch) (dC : Nat → ClassId) (dI : Nat → Nat → Nat) (cs : Nat → ClassId) (ty : TyM) (gm : Nat → Nat → Nat) (L : List Nat) (sz : Nat) (F : Nat → va_E) (h0 : Nat) (ρ : Nat) (ta : Nat) (ou : Nat) (so : Nat) (ad : Nat) (na : Nat) (va : Nat) (lc : Nat) (dm : Nat) (tg : Nat) (pe : Nat) (ml : Nat) (bg : Nat) (co : Nat) (sp : Nat) (nb0 : Nat) (nb1 : Nat) (nb2 : Nat) (pl : Nat) (se : Nat) (ke : Nat) (wi : Nat) (hs : Nat) (mo : Nat) (po : Nat) (nu : Nat) (pr : Nat) (sq : Nat) (xa : Nat) (sa : Nat) (n64 : Nat) (m64 : Nat) (ex : Nat) (wh : Nat) (sd : Nat) (tk : Nat) (hd : Nat) (ak : Nat) (ho : Nat) (ot : Nat) (sx : Nat) (s0 : Nat) (s1 : Nat) (s2 : Nat) (nf : Nat) (bd : Nat) (mm : Nat) (zo : Nat) (fm : Nat) (sn : Nat) (hg : Nat) (gc : Nat) (gv : Nat) (ze : Nat) (zt : Nat) (v14 : Int32) (v15 : Int32) (v17 : Int32) (v18 : Int32) (v19 : Int32) (v20 : Int32) (v21 : Int32) (v22 : Int32) (v33 : Int32) (v52 : Int32) (v53 : Int32) (v54 : Int32) (g1 : Nat) (μ : Nat) (fv : Nat → Int32) (a : Nat) (tt : Nat) (hW : WTm ty gm L) (hL_h0 : h0 ∈ L) (hT_h0 : ty h0 = (15, ρ, [ta, ou, so, ad, na, va, lc, dm, tg, pe, ml, bg, co, sp, nb0, nb1, nb2, pl, se, ke, wi, hs, mo, po, nu, pr, sq, xa, sa, n64, m64, ex, wh, sd, tk, hd, ak, ho, ot, sx, s0, s1, s2, nf, bd, mm, zo, fm, sn, hg, gc, gv, ze, zt])) (hL_g1 : g1 ∈ L) (hT_g1 : ty g1 = (17, μ, [700])) (hF0 : F h0 = .inr (15, (.ref ta) :: (.int (nI zt)) :: (.int (nI zo)) :: (.int (nI ze)) :: (.ref ou) :: (.ref so) :: (.ref ad) :: (.ref na) :: (.ref va) :: (.ref lc) :: (.ref dm) :: (.int (nI fm)) :: (.int (nI sn)) :: (.ref tg) :: (.int v14) :: (.int v15) :: (.ref pe) :: (.int v17) :: (.int v18) :: (.int v19) :: (.int v20) :: (.int v21) :: (.int v22) :: (.ref ml) :: (.ref bg) :: (.ref co) :: (.ref sp) :: (.ref nb0) :: (.ref nb1) :: (.ref nb2) :: (.int (nI nf)) :: (.int (nI bd)) :: (.int (nI mm)) :: (.int v33) :: (.ref pl) :: (.ref se) :: (.ref ke) :: (.ref wi) :: (.ref hs) :: (.ref mo) :: (.ref po) :: (.ref nu) :: (.ref pr) :: (.ref sq) :: (.ref xa) :: (.ref sa) :: (.ref n64) :: (.ref m64) :: (.ref ex) :: (.ref wh) :: (.ref sd) :: (.ref tk) :: (.int v52) :: (.int v53) :: (.int v54) :: (.ref hd) :: (.ref ak) :: (.ref ho) :: (.ref ot) :: [])) (hzo : zo ≤ 6000) (hze : ze ≤ 40) (h33 : ((v33 = 0 ∧ nf = 0) ∨ (v33 = 1 ∧ 1 ≤ nf))) (h54 : (v54 = 0 ∨ v54 = 1)) (hgf : (hg = 0 ∨ (v14 = nI gc ∧ v15 = nI gv))) (hFg : F g1 = .inl (cs 17, 700, .inl fv)) (hmu : ρ + 100 ≤ μ) (htn : tt ≤ 700) (ha : a < tt) : Met l yX15_readTerm (.code yX15_readTerm cX15_readTerm 7 none :: tb) ({ frames := 6, cells := 0, slots := 0, locals := 132 }) (va_Pc [.ref h0, .ref g1, .int (nI a), .int (nI tt)] (PTEm (dC, dI) cs ty gm L F sz [])) (va_Qv (fun _ : Unit => True) (fun _ T9 => ∃ F2 : Nat → va_E, ∃ u17 : Int32, ∃ u18 : Int32, ∃ u19 : Int32, ∃ u20 : Int32, ∃ u21 : Int32, ∃ u22 : Int32, QTm (dC, dI) cs ty gm L [ρ] F F2 (va_A (va_pl L F) sz) T9 ∧ F2 h0 = .inr (15, (.ref ta) :: (.int (nI zt)) :: (.int (nI zo)) :: (.int (nI ze)) :: (.ref ou) :: (.ref so) :: (.ref ad) :: (.ref na) :: (.ref va) :: (.ref lc) :: (.ref dm) :: (.int (nI fm)) :: (.int (nI sn)) :: (.ref tg) :: (.int v14) :: (.int v15) :: (.ref pe) :: (.int u17) :: (.int u18) :: (.int u19) :: (.int u20) :: (.int u21) :: (.int u22) :: (.ref ml) :: (.ref bg) :: (.ref co) :: (.ref sp) :: (.ref nb0) :: (.ref nb1) :: (.ref nb2) :: (.int (nI nf)) :: (.int (nI bd)) :: (.int (nI mm)) :: (.int v33) :: (.ref pl) :: (.ref se) :: (.ref ke) :: (.ref wi) :: (.ref hs) :: (.ref mo) :: (.ref po) :: (.ref nu) :: (.ref pr) :: (.ref sq) :: (.ref xa) :: (.ref sa) :: (.ref n64) :: (.ref m64) :: (.ref ex) :: (.ref wh) :: (.ref sd) :: (.ref tk) :: (.int v52) :: (.int v53) :: (.int v54) :: (.ref hd) :: (.ref ak) :: (.ref ho) :: (.ref ot) :: []) ∧ RTP fv a tt u17 u19 u20) (va_A (va_pl L F) sz)) 0 0 (va_A (va_pl L F) sz) := by
  refine Met.ofW (cc := cX15_readTerm) (maxL := 7) (ret := none) (by decide) rfl ?_
  intro p e s m args below meth c s₁ B hml hv
  obtain ⟨rfl, ⟨hsz, hP, hK, hD0, hE, hO⟩, hG, hX⟩ := hv
  have hx := B.exec
  have hb := B.bytes
  have hr := B.returns
  have hts : ∀ w ∈ tb, w.before _ s = true := fun w h => atoms_spec (ws := .code yX15_readTerm cX15_readTerm 7 none :: tb) B.pre w (List.mem_cons_of_mem _ h)
  have hown : s.vm.findClass RX15 = some m.cls := findClass_of_methodNamed B.named
  have hlocks := B.notSynchronized
  subst hsz
  have hD := hD0.self (sz := s.heap.size)
  generalize hAe : va_A (va_pl L F) s.heap.size = A at hD hG hX ⊢
  have hA : ∀ q : Nat, s.heap.size ≤ q → A q := fun q h => by rw [← hAe]; exact Or.inr h
  have hS : va_S A s.heap s.heap [] := va_S.rf
  have hR : FR ty [ρ] F F := FR.refl
  have hl := lv_entry ([.ref h0, .ref g1, .int (nI a), .int (nI tt)]) (n := 7) (Nat.le_of_ble_eq_true rfl)
  rw [lg_entry_eq]
  generalize (lg_sl ([.ref h0, .ref g1, .int (nI a), .int (nI tt)]) ++ List.replicate (7 - (lg_sl ([.ref h0, .ref g1, .int (nI a), .int (nI tt)])).length) Slot.unset).toArray = ls at hl ⊢
  have hl : lv_has ls 7 [(0, .ref h0), (1, .ref g1), (2, .int (nI a)), (3, .int (nI tt))] := hl
  refine lv_iload_n hx hb dX15_readTerm_0 rfl (lv_at hl 2 rfl) ?_
  refine lv_istore (lv' := [(4, .int (nI a)), (0, .ref h0), (1, .ref g1), (2, .int (nI a)), (3, .int (nI tt))]) hx hb dX15_readTerm_1 hl (by decide) rfl (fun ls hl => ?_)
  refine lv_aload_n hx hb dX15_readTerm_3 rfl (lv_at hl 1 rfl) ?_
  refine lv_bipush (v := 43) hx hb dX15_readTerm_4 (by decide) ?_
  obtain ⟨hq_23, hq_24, hq_25, hq_26, hq_27, hgO, hgA, hgB, hq_28⟩ := hW.sc hL_h0 hT_h0
  refine pg_put (ci := 15) (v := .int 43) (ty := .int) (C := RX15) (T := TX15) (N := 59) hx hb hts it_15 tyX15 tyX15_ok nmX15 hown hK hP hD hS hL_h0 hF0 rfl 18 (by decide) (hts _ kt_759) (fun _ h9 => h9) rfl (by decide +kernel) (rfl) (rfl) (Nat.le_of_ble_eq_true rfl) dX15_readTerm_6 (fun H locs hP hD hS => ?_)
  obtain ⟨F_29, he_30, hP, hD, hO, hR⟩ : ∃ G, G = va_up F h0 (.inr (15, (.ref ta) :: (.int (nI zt)) :: (.int (nI zo)) :: (.int (nI ze)) :: (.ref ou) :: (.ref so) :: (.ref ad) :: (.ref na) :: (.ref va) :: (.ref lc) :: (.ref dm) :: (.int (nI fm)) :: (.int (nI sn)) :: (.ref tg) :: (.int v14) :: (.int v15) :: (.ref pe) :: (.int v17) :: (.int 43) :: (.int v19) :: (.int v20) :: (.int v21) :: (.int v22) :: (.ref ml) :: (.ref bg) :: (.ref co) :: (.ref sp) :: (.ref nb0) :: (.ref nb1) :: (.ref nb2) :: (.int (nI nf)) :: (.int (nI bd)) :: (.int (nI mm)) :: (.int v33) :: (.ref pl) :: (.ref se) :: (.ref ke) :: (.ref wi) :: (.ref hs) :: (.ref mo) :: (.ref po) :: (.ref nu) :: (.ref pr) :: (.ref sq) :: (.ref xa) :: (.ref sa) :: (.ref n64) :: (.ref m64) :: (.ref ex) :: (.ref wh) :: (.ref sd) :: (.ref tk) :: (.int v52) :: (.int v53) :: (.int v54) :: (.ref hd) :: (.ref ak) :: (.ref ho) :: (.ref ot) :: [])) ∧ va_P (dC, dI) vwCl (va_pl L G) H ∧ va_D A (va_pl L G) ∧ OKm cs ty gm L G ∧ FR ty [ρ] F G := ⟨_, rfl, hP, hD, hO.up (shm.mod hT_h0 ⟨v14, v15, v17, 43, v19, v20, v21, v22, v33, v52, v53, v54, rfl, (by first | omega | assumption | exact Or.inl rfl | exact Or.inr rfl), (by first | omega | assumption | exact Or.inl rfl | exact Or.inr rfl), (by first | omega | assumption | exact Or.inl rfl | exact Or.inr rfl), (by first | omega | assumption | exact Or.inl rfl | exact Or.inr rfl), (by first | omega | assumption | exact Or.inl rfl | exact Or.inr rfl)⟩), hR.up hT_h0 (by simp)⟩
  have hF_31 : F_29 h0 = .inr (15, (.ref ta) :: (.int (nI zt)) :: (.int (nI zo)) :: (.int (nI ze)) :: (.ref ou) :: (.ref so) :: (.ref ad) :: (.ref na) :: (.ref va) :: (.ref lc) :: (.ref dm) :: (.int (nI fm)) :: (.int (nI sn)) :: (.ref tg) :: (.int v14) :: (.int v15) :: (.ref pe) :: (.int v17) :: (.int 43) :: (.int v19) :: (.int v20) :: (.int v21) :: (.int v22) :: (.ref ml) :: (.ref bg) :: (.ref co) :: (.ref sp) :: (.ref nb0) :: (.ref nb1) :: (.ref nb2) :: (.int (nI nf)) :: (.int (nI bd)) :: (.int (nI mm)) :: (.int v33) :: (.ref pl) :: (.ref se) :: (.ref ke) :: (.ref wi) :: (.ref hs) :: (.ref mo) :: (.ref po) :: (.ref nu) :: (.ref pr) :: (.ref sq) :: (.ref xa) :: (.ref sa) :: (.ref n64) :: (.ref m64) :: (.ref ex) :: (.ref wh) :: (.ref sd) :: (.ref tk) :: (.int v52) :: (.int v53) :: (.int v54) :: (.ref hd) :: (.ref ak) :: (.ref ho) :: (.ref ot) :: []) := by rw [he_30]; exact up_self
  have hF_32 : F_29 g1 = .inl (cs 17, 700, .inl fv) := by rw [he_30, up_ne (ne_ty hT_g1 hT_h0 (by simp))]; exact hFg
  refine lv_aload_n hx hb dX15_readTerm_9 rfl (lv_at hl 1 rfl) ?_
  refine lv_bipush (v := 8) hx hb dX15_readTerm_10 (by decide) ?_
  refine pg_put (ci := 15) (v := .int 8) (ty := .int) (C := RX15) (T := TX15) (N := 59) hx hb hts it_15 tyX15 tyX15_ok nmX15 hown hK hP hD hS hL_h0 hF_31 rfl 17 (by decide) (hts _ kt_750) (fun _ h9 => h9) rfl (by decide +kernel) (rfl) (rfl) (Nat.le_of_ble_eq_true rfl) dX15_readTerm_12 (fun H locs hP hD hS => ?_)
  obtain ⟨F_33, he_34, hP, hD, hO, hR⟩ : ∃ G, G = va_up F_29 h0 (.inr (15, (.ref ta) :: (.int (nI zt)) :: (.int (nI zo)) :: (.int (nI ze)) :: (.ref ou) :: (.ref so) :: (.ref ad) :: (.ref na) :: (.ref va) :: (.ref lc) :: (.ref dm) :: (.int (nI fm)) :: (.int (nI sn)) :: (.ref tg) :: (.int v14) :: (.int v15) :: (.ref pe) :: (.int 8) :: (.int 43) :: (.int v19) :: (.int v20) :: (.int v21) :: (.int v22) :: (.ref ml) :: (.ref bg) :: (.ref co) :: (.ref sp) :: (.ref nb0) :: (.ref nb1) :: (.ref nb2) :: (.int (nI nf)) :: (.int (nI bd)) :: (.int (nI mm)) :: (.int v33) :: (.ref pl) :: (.ref se) :: (.ref ke) :: (.ref wi) :: (.ref hs) :: (.ref mo) :: (.ref po) :: (.ref nu) :: (.ref pr) :: (.ref sq) :: (.ref xa) :: (.ref sa) :: (.ref n64) :: (.ref m64) :: (.ref ex) :: (.ref wh) :: (.ref sd) :: (.ref tk) :: (.int v52) :: (.int v53) :: (.int v54) :: (.ref hd) :: (.ref ak) :: (.ref ho) :: (.ref ot) :: [])) ∧ va_P (dC, dI) vwCl (va_pl L G) H ∧ va_D A (va_pl L G) ∧ OKm cs ty gm L G ∧ FR ty [ρ] F G := ⟨_, rfl, hP, hD, hO.up (shm.mod hT_h0 ⟨v14, v15, 8, 43, v19, v20, v21, v22, v33, v52, v53, v54, rfl, (by first | omega | assumption | exact Or.inl rfl | exact Or.inr rfl), (by first | omega | assumption | exact Or.inl rfl | exact Or.inr rfl), (by first | omega | assumption | exact Or.inl rfl | exact Or.inr rfl), (by first | omega | assumption | exact Or.inl rfl | exact Or.inr rfl), (by first | omega | assumption | exact Or.inl rfl | exact Or.inr rfl)⟩), hR.up hT_h0 (by simp)⟩
  have hF_35 : F_33 h0 = .inr (15, (.ref ta) :: (.int (nI zt)) :: (.int (nI zo)) :: (.int (nI ze)) :: (.ref ou) :: (.ref so) :: (.ref ad) :: (.ref na) :: (.ref va) :: (.ref lc) :: (.ref dm) :: (.int (nI fm)) :: (.int (nI sn)) :: (.ref tg) :: (.int v14) :: (.int v15) :: (.ref pe) :: (.int 8) :: (.int 43) :: (.int v19) :: (.int v20) :: (.int v21) :: (.int v22) :: (.ref ml) :: (.ref bg) :: (.ref co) :: (.ref sp) :: (.ref nb0) :: (.ref nb1) :: (.ref nb2) :: (.int (nI nf)) :: (.int (nI bd)) :: (.int (nI mm)) :: (.int v33) :: (.ref pl) :: (.ref se) :: (.ref ke) :: (.ref wi) :: (.ref hs) :: (.ref mo) :: (.ref po) :: (.ref nu) :: (.ref pr) :: (.ref sq) :: (.ref xa) :: (.ref sa) :: (.ref n64) :: (.ref m64) :: (.ref ex) :: (.ref wh) :: (.ref sd) :: (.ref tk) :: (.int v52) :: (.int v53) :: (.int v54) :: (.ref hd) :: (.ref ak) :: (.ref ho) :: (.ref ot) :: []) := by rw [he_34]; exact up_self
  have hF_36 : F_33 g1 = .inl (cs 17, 700, .inl fv) := by rw [he_34, up_ne (ne_ty hT_g1 hT_h0 (by simp))]; exact hF_32
  refine lv_aload_n hx hb dX15_readTerm_15 rfl (lv_at hl 1 rfl) ?_
  refine lv_iconst (v := (-1)) hx hb dX15_readTerm_16 (by decide) ?_
  refine pg_put (ci := 15) (v := .int (-1)) (ty := .int) (C := RX15) (T := TX15) (N := 59) hx hb hts it_15 tyX15 tyX15_ok nmX15 hown hK hP hD hS hL_h0 hF_35 rfl 19 (by decide) (hts _ kt_751) (fun _ h9 => h9) rfl (by decide +kernel) (rfl) (rfl) (Nat.le_of_ble_eq_true rfl) dX15_readTerm_17 (fun H locs hP hD hS => ?_)
  obtain ⟨F_37, he_38, hP, hD, hO, hR⟩ : ∃ G, G = va_up F_33 h0 (.inr (15, (.ref ta) :: (.int (nI zt)) :: (.int (nI zo)) :: (.int (nI ze)) :: (.ref ou) :: (.ref so) :: (.ref ad) :: (.ref na) :: (.ref va) :: (.ref lc) :: (.ref dm) :: (.int (nI fm)) :: (.int (nI sn)) :: (.ref tg) :: (.int v14) :: (.int v15) :: (.ref pe) :: (.int 8) :: (.int 43) :: (.int (-1)) :: (.int v20) :: (.int v21) :: (.int v22) :: (.ref ml) :: (.ref bg) :: (.ref co) :: (.ref sp) :: (.ref nb0) :: (.ref nb1) :: (.ref nb2) :: (.int (nI nf)) :: (.int (nI bd)) :: (.int (nI mm)) :: (.int v33) :: (.ref pl) :: (.ref se) :: (.ref ke) :: (.ref wi) :: (.ref hs) :: (.ref mo) :: (.ref po) :: (.ref nu) :: (.ref pr) :: (.ref sq) :: (.ref xa) :: (.ref sa) :: (.ref n64) :: (.ref m64) :: (.ref ex) :: (.ref wh) :: (.ref sd) :: (.ref tk) :: (.int v52) :: (.int v53) :: (.int v54) :: (.ref hd) :: (.ref ak) :: (.ref ho) :: (.ref ot) :: [])) ∧ va_P (dC, dI) vwCl (va_pl L G) H ∧ va_D A (va_pl L G) ∧ OKm cs ty gm L G ∧ FR ty [ρ] F G := ⟨_, rfl, hP, hD, hO.up (shm.mod hT_h0 ⟨v14, v15, 8, 43, (-1), v20, v21, v22, v33, v52, v53, v54, rfl, (by first | omega | assumption | exact Or.inl rfl | exact Or.inr rfl), (by first | omega | assumption | exact Or.inl rfl | exact Or.inr rfl), (by first | omega | assumption | exact Or.inl rfl | exact Or.inr rfl), (by first | omega | assumption | exact Or.inl rfl | exact Or.inr rfl), (by first | omega | assumption | exact Or.inl rfl | exact Or.inr rfl)⟩), hR.up hT_h0 (by simp)⟩
  have hF_39 : F_37 h0 = .inr (15, (.ref ta) :: (.int (nI zt)) :: (.int (nI zo)) :: (.int (nI ze)) :: (.ref ou) :: (.ref so) :: (.ref ad) :: (.ref na) :: (.ref va) :: (.ref lc) :: (.ref dm) :: (.int (nI fm)) :: (.int (nI sn)) :: (.ref tg) :: (.int v14) :: (.int v15) :: (.ref pe) :: (.int 8) :: (.int 43) :: (.int (-1)) :: (.int v20) :: (.int v21) :: (.int v22) :: (.ref ml) :: (.ref bg) :: (.ref co) :: (.ref sp) :: (.ref nb0) :: (.ref nb1) :: (.ref nb2) :: (.int (nI nf)) :: (.int (nI bd)) :: (.int (nI mm)) :: (.int v33) :: (.ref pl) :: (.ref se) :: (.ref ke) :: (.ref wi) :: (.ref hs) :: (.ref mo) :: (.ref po) :: (.ref nu) :: (.ref pr) :: (.ref sq) :: (.ref xa) :: (.ref sa) :: (.ref n64) :: (.ref m64) :: (.ref ex) :: (.ref wh) :: (.ref sd) :: (.ref tk) :: (.int v52) :: (.int v53) :: (.int v54) :: (.ref hd) :: (.ref ak) :: (.ref ho) :: (.ref ot) :: []) := by rw [he_38]; exact up_self
  have hF_40 : F_37 g1 = .inl (cs 17, 700, .inl fv) := by rw [he_38, up_ne (ne_ty hT_g1 hT_h0 (by simp))]; exact hF_36
  refine lv_aload_n hx hb dX15_readTerm_20 rfl (lv_at hl 1 rfl) ?_
  refine lv_iconst (v := (-1)) hx hb dX15_readTerm_21 (by decide) ?_
  refine pg_put (ci := 15) (v := .int (-1)) (ty := .int) (C := RX15) (T := TX15) (N := 59) hx hb hts it_15 tyX15 tyX15_ok nmX15 hown hK hP hD hS hL_h0 hF_39 rfl 20 (by decide) (hts _ kt_752) (fun _ h9 => h9) rfl (by decide +kernel) (rfl) (rfl) (Nat.le_of_ble_eq_true rfl) dX15_readTerm_22 (fun H locs hP hD hS => ?_)
  obtain ⟨F_41, he_42, hP, hD, hO, hR⟩ : ∃ G, G = va_up F_37 h0 (.inr (15, (.ref ta) :: (.int (nI zt)) :: (.int (nI zo)) :: (.int (nI ze)) :: (.ref ou) :: (.ref so) :: (.ref ad) :: (.ref na) :: (.ref va) :: (.ref lc) :: (.ref dm) :: (.int (nI fm)) :: (.int (nI sn)) :: (.ref tg) :: (.int v14) :: (.int v15) :: (.ref pe) :: (.int 8) :: (.int 43) :: (.int (-1)) :: (.int (-1)) :: (.int v21) :: (.int v22) :: (.ref ml) :: (.ref bg) :: (.ref co) :: (.ref sp) :: (.ref nb0) :: (.ref nb1) :: (.ref nb2) :: (.int (nI nf)) :: (.int (nI bd)) :: (.int (nI mm)) :: (.int v33) :: (.ref pl) :: (.ref se) :: (.ref ke) :: (.ref wi) :: (.ref hs) :: (.ref mo) :: (.ref po) :: (.ref nu) :: (.ref pr) :: (.ref sq) :: (.ref xa) :: (.ref sa) :: (.ref n64) :: (.ref m64) :: (.ref ex) :: (.ref wh) :: (.ref sd) :: (.ref tk) :: (.int v52) :: (.int v53) :: (.int v54) :: (.ref hd) :: (.ref ak) :: (.ref ho) :: (.ref ot) :: [])) ∧ va_P (dC, dI) vwCl (va_pl L G) H ∧ va_D A (va_pl L G) ∧ OKm cs ty gm L G ∧ FR ty [ρ] F G := ⟨_, rfl, hP, hD, hO.up (shm.mod hT_h0 ⟨v14, v15, 8, 43, (-1), (-1), v21, v22, v33, v52, v53, v54, rfl, (by first | omega | assumption | exact Or.inl rfl | exact Or.inr rfl), (by first | omega | assumption | exact Or.inl rfl | exact Or.inr rfl), (by first | omega | assumption | exact Or.inl rfl | exact Or.inr rfl), (by first | omega | assumption | exact Or.inl rfl | exact Or.inr rfl), (by first | omega | assumption | exact Or.inl rfl | exact Or.inr rfl)⟩), hR.up hT_h0 (by simp)⟩
  have hF_43 : F_41 h0 = .inr (15, (.ref ta) :: (.int (nI zt)) :: (.int (nI zo)) :: (.int (nI ze)) :: (.ref ou) :: (.ref so) :: (.ref ad) :: (.ref na) :: (.ref va) :: (.ref lc) :: (.ref dm) :: (.int (nI fm)) :: (.int (nI sn)) :: (.ref tg) :: (.int v14) :: (.int v15) :: (.ref pe) :: (.int 8) :: (.int 43) :: (.int (-1)) :: (.int (-1)) :: (.int v21) :: (.int v22) :: (.ref ml) :: (.ref bg) :: (.ref co) :: (.ref sp) :: (.ref nb0) :: (.ref nb1) :: (.ref nb2) :: (.int (nI nf)) :: (.int (nI bd)) :: (.int (nI mm)) :: (.int v33) :: (.ref pl) :: (.ref se) :: (.ref ke) :: (.ref wi) :: (.ref hs) :: (.ref mo) :: (.ref po) :: (.ref nu) :: (.ref pr) :: (.ref sq) :: (.ref xa) :: (.ref sa) :: (.ref n64) :: (.ref m64) :: (.ref ex) :: (.ref wh) :: (.ref sd) :: (.ref tk) :: (.int v52) :: (.int v53) :: (.int v54) :: (.ref hd) :: (.ref ak) :: (.ref ho) :: (.ref ot) :: []) := by rw [he_42]; exact up_self
  have hF_44 : F_41 g1 = .inl (cs 17, 700, .inl fv) := by rw [he_42, up_ne (ne_ty hT_g1 hT_h0 (by simp))]; exact hF_40
  refine lv_aload_n hx hb dX15_readTerm_25 rfl (lv_at hl 1 rfl) ?_
  refine lv_bipush (v := 32) hx hb dX15_readTerm_26 (by decide) ?_
  refine pg_put (ci := 15) (v := .int 32) (ty := .int) (C := RX15) (T := TX15) (N := 59) hx hb hts it_15 tyX15 tyX15_ok nmX15 hown hK hP hD hS hL_h0 hF_43 rfl 21 (by decide) (hts _ kt_749) (fun _ h9 => h9) rfl (by decide +kernel) (rfl) (rfl) (Nat.le_of_ble_eq_true rfl) dX15_readTerm_28 (fun H locs hP hD hS => ?_)
  obtain ⟨F_45, he_46, hP, hD, hO, hR⟩ : ∃ G, G = va_up F_41 h0 (.inr (15, (.ref ta) :: (.int (nI zt)) :: (.int (nI zo)) :: (.int (nI ze)) :: (.ref ou) :: (.ref so) :: (.ref ad) :: (.ref na) :: (.ref va) :: (.ref lc) :: (.ref dm) :: (.int (nI fm)) :: (.int (nI sn)) :: (.ref tg) :: (.int v14) :: (.int v15) :: (.ref pe) :: (.int 8) :: (.int 43) :: (.int (-1)) :: (.int (-1)) :: (.int 32) :: (.int v22) :: (.ref ml) :: (.ref bg) :: (.ref co) :: (.ref sp) :: (.ref nb0) :: (.ref nb1) :: (.ref nb2) :: (.int (nI nf)) :: (.int (nI bd)) :: (.int (nI mm)) :: (.int v33) :: (.ref pl) :: (.ref se) :: (.ref ke) :: (.ref wi) :: (.ref hs) :: (.ref mo) :: (.ref po) :: (.ref nu) :: (.ref pr) :: (.ref sq) :: (.ref xa) :: (.ref sa) :: (.ref n64) :: (.ref m64) :: (.ref ex) :: (.ref wh) :: (.ref sd) :: (.ref tk) :: (.int v52) :: (.int v53) :: (.int v54) :: (.ref hd) :: (.ref ak) :: (.ref ho) :: (.ref ot) :: [])) ∧ va_P (dC, dI) vwCl (va_pl L G) H ∧ va_D A (va_pl L G) ∧ OKm cs ty gm L G ∧ FR ty [ρ] F G := ⟨_, rfl, hP, hD, hO.up (shm.mod hT_h0 ⟨v14, v15, 8, 43, (-1), (-1), 32, v22, v33, v52, v53, v54, rfl, (by first | omega | assumption | exact Or.inl rfl | exact Or.inr rfl), (by first | omega | assumption | exact Or.inl rfl | exact Or.inr rfl), (by first | omega | assumption | exact Or.inl rfl | exact Or.inr rfl), (by first | omega | assumption | exact Or.inl rfl | exact Or.inr rfl), (by first | omega | assumption | exact Or.inl rfl | exact Or.inr rfl)⟩), hR.up hT_h0 (by simp)⟩
  have hF_47 : F_45 h0 = .inr (15, (.ref ta) :: (.int (nI zt)) :: (.int (nI zo)) :: (.int (nI ze)) :: (.ref ou) :: (.ref so) :: (.ref ad) :: (.ref na) :: (.ref va) :: (.ref lc) :: (.ref dm) :: (.int (nI fm)) :: (.int (nI sn)) :: (.ref tg) :: (.int v14) :: (.int v15) :: (.ref pe) :: (.int 8) :: (.int 43) :: (.int (-1)) :: (.int (-1)) :: (.int 32) :: (.int v22) :: (.ref ml) :: (.ref bg) :: (.ref co) :: (.ref sp) :: (.ref nb0) :: (.ref nb1) :: (.ref nb2) :: (.int (nI nf)) :: (.int (nI bd)) :: (.int (nI mm)) :: (.int v33) :: (.ref pl) :: (.ref se) :: (.ref ke) :: (.ref wi) :: (.ref hs) :: (.ref mo) :: (.ref po) :: (.ref nu) :: (.ref pr) :: (.ref sq) :: (.ref xa) :: (.ref sa) :: (.ref n64) :: (.ref m64) :: (.ref ex) :: (.ref wh) :: (.ref sd) :: (.ref tk) :: (.int v52) :: (.int v53) :: (.int v54) :: (.ref hd) :: (.ref ak) :: (.ref ho) :: (.ref ot) :: []) := by rw [he_46]; exact up_self
  have hF_48 : F_45 g1 = .inl (cs 17, 700, .inl fv) := by rw [he_46, up_ne (ne_ty hT_g1 hT_h0 (by simp))]; exact hF_44
  have hF_51 : F g1 = .inl (cs 17, 700, .inl fv) := (hR g1 (by rw [hT_g1]; simp only [List.mem_cons, List.not_mem_nil, or_false]; omega)).symm.trans hF_48
  refine W.widen (k := 0) (n := 0) (by omega) (by omega) ?_
  refine pl_cutm (σ := Int32) A (dC, dI) cs ty gm L [ρ] F 72 7 (fun s5 => [(4, .int (nI a)), (0, .ref h0), (1, .ref g1), (2, .int (nI a)), (3, .int (nI tt))]) (fun s5 => [.int s5]) (fun s5 FF => (s5 = 0 ∨ (s5 = 1 ∧ fv a ≠ 114)) ∧ FF h0 = .inr (15, (.ref ta) :: (.int (nI zt)) :: (.int (nI zo)) :: (.int (nI ze)) :: (.ref ou) :: (.ref so) :: (.ref ad) :: (.ref na) :: (.ref va) :: (.ref lc) :: (.ref dm) :: (.int (nI fm)) :: (.int (nI sn)) :: (.ref tg) :: (.int v14) :: (.int v15) :: (.ref pe) :: (.int 8) :: (.int 43) :: (.int (-1)) :: (.int (-1)) :: (.int 32) :: (.int v22) :: (.ref ml) :: (.ref bg) :: (.ref co) :: (.ref sp) :: (.ref nb0) :: (.ref nb1) :: (.ref nb2) :: (.int (nI nf)) :: (.int (nI bd)) :: (.int (nI mm)) :: (.int v33) :: (.ref pl) :: (.ref se) :: (.ref ke) :: (.ref wi) :: (.ref hs) :: (.ref mo) :: (.ref po) :: (.ref nu) :: (.ref pr) :: (.ref sq) :: (.ref xa) :: (.ref sa) :: (.ref n64) :: (.ref m64) :: (.ref ex) :: (.ref wh) :: (.ref sd) :: (.ref tk) :: (.int v52) :: (.int v53) :: (.int v54) :: (.ref hd) :: (.ref ak) :: (.ref ho) :: (.ref ot) :: [])) ?_ (fun jn_49 => ?_)
  ·
    rintro s5 F_50 hv_52 hO hR H locs hP hD hS ls hl
    have hl : lv_has ls 7 [(4, .int (nI a)), (0, .ref h0), (1, .ref g1), (2, .int (nI a)), (3, .int (nI tt))] := hl
    have hv_52 : (s5 = 0 ∨ (s5 = 1 ∧ fv a ≠ 114)) ∧ F_50 h0 = .inr (15, (.ref ta) :: (.int (nI zt)) :: (.int (nI zo)) :: (.int (nI ze)) :: (.ref ou) :: (.ref so) :: (.ref ad) :: (.ref na) :: (.ref va) :: (.ref lc) :: (.ref dm) :: (.int (nI fm)) :: (.int (nI sn)) :: (.ref tg) :: (.int v14) :: (.int v15) :: (.ref pe) :: (.int 8) :: (.int 43) :: (.int (-1)) :: (.int (-1)) :: (.int 32) :: (.int v22) :: (.ref ml) :: (.ref bg) :: (.ref co) :: (.ref sp) :: (.ref nb0) :: (.ref nb1) :: (.ref nb2) :: (.int (nI nf)) :: (.int (nI bd)) :: (.int (nI mm)) :: (.int v33) :: (.ref pl) :: (.ref se) :: (.ref ke) :: (.ref wi) :: (.ref hs) :: (.ref mo) :: (.ref po) :: (.ref nu) :: (.ref pr) :: (.ref sq) :: (.ref xa) :: (.ref sa) :: (.ref n64) :: (.ref m64) :: (.ref ex) :: (.ref wh) :: (.ref sd) :: (.ref tk) :: (.int v52) :: (.int v53) :: (.int v54) :: (.ref hd) :: (.ref ak) :: (.ref ho) :: (.ref ot) :: []) := hv_52
    refine W.eq (g2 := F0 m 72 ls [.int s5]) rfl ?_
    have hF_53 : F_50 g1 = .inl (cs 17, 700, .inl fv) := (hR g1 (by rw [hT_g1]; simp only [List.mem_cons, List.not_mem_nil, or_false]; omega)).trans hF_51
    obtain ⟨hs5, hs5h⟩ := hv_52
    refine lv_istore (lv' := [(5, .int s5), (4, .int (nI a)), (0, .ref h0), (1, .ref g1), (2, .int (nI a)), (3, .int (nI tt))]) hx hb dX15_readTerm_72 hl (by decide) rfl (fun ls hl => ?_)
    have hF_56 : F g1 = .inl (cs 17, 700, .inl fv) := (hR g1 (by rw [hT_g1]; simp only [List.mem_cons, List.not_mem_nil, or_false]; omega)).symm.trans hF_53
    refine W.widen (k := 0) (n := 0) (by omega) (by omega) ?_
    refine pl_cutm (σ := Int32 × Int32) A (dC, dI) cs ty gm L [ρ] F 90 7 (fun (k4, q18) => [(5, .int s5), (4, .int k4), (0, .ref h0), (1, .ref g1), (2, .int (nI a)), (3, .int (nI tt))]) (fun (k4, q18) => []) (fun (k4, q18) FF => (∃ kk : Nat, k4 = nI kk ∧ a ≤ kk ∧ kk ≤ tt ∧ (s5 = 0 → kk = a)) ∧ FF h0 = .inr (15, (.ref ta) :: (.int (nI zt)) :: (.int (nI zo)) :: (.int (nI ze)) :: (.ref ou) :: (.ref so) :: (.ref ad) :: (.ref na) :: (.ref va) :: (.ref lc) :: (.ref dm) :: (.int (nI fm)) :: (.int (nI sn)) :: (.ref tg) :: (.int v14) :: (.int v15) :: (.ref pe) :: (.int 8) :: (.int q18) :: (.int (-1)) :: (.int (-1)) :: (.int 32) :: (.int v22) :: (.ref ml) :: (.ref bg) :: (.ref co) :: (.ref sp) :: (.ref nb0) :: (.ref nb1) :: (.ref nb2) :: (.int (nI nf)) :: (.int (nI bd)) :: (.int (nI mm)) :: (.int v33) :: (.ref pl) :: (.ref se) :: (.ref ke) :: (.ref wi) :: (.ref hs) :: (.ref mo) :: (.ref po) :: (.ref nu) :: (.ref pr) :: (.ref sq) :: (.ref xa) :: (.ref sa) :: (.ref n64) :: (.ref m64) :: (.ref ex) :: (.ref wh) :: (.ref sd) :: (.ref tk) :: (.int v52) :: (.int v53) :: (.int v54) :: (.ref hd) :: (.ref ak) :: (.ref ho) :: (.ref ot) :: [])) ?_ (fun jn_54 => ?_)
    ·
      rintro ⟨k4, q18⟩ F_55 hv_57 hO hR H locs hP hD hS ls hl
      have hl : lv_has ls 7 [(5, .int s5), (4, .int k4), (0, .ref h0), (1, .ref g1), (2, .int (nI a)), (3, .int (nI tt))] := hl
      have hv_57 : (∃ kk : Nat, k4 = nI kk ∧ a ≤ kk ∧ kk ≤ tt ∧ (s5 = 0 → kk = a)) ∧ F_55 h0 = .inr (15, (.ref ta) :: (.int (nI zt)) :: (.int (nI zo)) :: (.int (nI ze)) :: (.ref ou) :: (.ref so) :: (.ref ad) :: (.ref na) :: (.ref va) :: (.ref lc) :: (.ref dm) :: (.int (nI fm)) :: (.int (nI sn)) :: (.ref tg) :: (.int v14) :: (.int v15) :: (.ref pe) :: (.int 8) :: (.int q18) :: (.int (-1)) :: (.int (-1)) :: (.int 32) :: (.int v22) :: (.ref ml) :: (.ref bg) :: (.ref co) :: (.ref sp) :: (.ref nb0) :: (.ref nb1) :: (.ref nb2) :: (.int (nI nf)) :: (.int (nI bd)) :: (.int (nI mm)) :: (.int v33) :: (.ref pl) :: (.ref se) :: (.ref ke) :: (.ref wi) :: (.ref hs) :: (.ref mo) :: (.ref po) :: (.ref nu) :: (.ref pr) :: (.ref sq) :: (.ref xa) :: (.ref sa) :: (.ref n64) :: (.ref m64) :: (.ref ex) :: (.ref wh) :: (.ref sd) :: (.ref tk) :: (.int v52) :: (.int v53) :: (.int v54) :: (.ref hd) :: (.ref ak) :: (.ref ho) :: (.ref ot) :: []) := hv_57
      refine W.eq (g2 := F0 m 90 ls []) rfl ?_
      have hF_58 : F_55 g1 = .inl (cs 17, 700, .inl fv) := (hR g1 (by rw [hT_g1]; simp only [List.mem_cons, List.not_mem_nil, or_false]; omega)).trans hF_56
      obtain ⟨⟨kk, ek, hk1a, hk2a, hk3a⟩, hk4a⟩ := hv_57
      subst ek
      have hF_61 : F g1 = .inl (cs 17, 700, .inl fv) := (hR g1 (by rw [hT_g1]; simp only [List.mem_cons, List.not_mem_nil, or_false]; omega)).symm.trans hF_58
      refine W.widen (k := 0) (n := 0) (by omega) (by omega) ?_
      refine pl_cutm (σ := Int32 × Int32 × Int32 × Int32 × Int32) A (dC, dI) cs ty gm L [ρ] F 392 7 (fun (q17, q19, q20, q21, q22) => [(5, .int s5), (4, .int (nI kk)), (0, .ref h0), (1, .ref g1), (2, .int (nI a)), (3, .int (nI tt))]) (fun (q17, q19, q20, q21, q22) => []) (fun (q17, q19, q20, q21, q22) FF => FF h0 = .inr (15, (.ref ta) :: (.int (nI zt)) :: (.int (nI zo)) :: (.int (nI ze)) :: (.ref ou) :: (.ref so) :: (.ref ad) :: (.ref na) :: (.ref va) :: (.ref lc) :: (.ref dm) :: (.int (nI fm)) :: (.int (nI sn)) :: (.ref tg) :: (.int v14) :: (.int v15) :: (.ref pe) :: (.int q17) :: (.int q18) :: (.int q19) :: (.int q20) :: (.int q21) :: (.int q22) :: (.ref ml) :: (.ref bg) :: (.ref co) :: (.ref sp) :: (.ref nb0) :: (.ref nb1) :: (.ref nb2) :: (.int (nI nf)) :: (.int (nI bd)) :: (.int (nI mm)) :: (.int v33) :: (.ref pl) :: (.ref se) :: (.ref ke) :: (.ref wi) :: (.ref hs) :: (.ref mo) :: (.ref po) :: (.ref nu) :: (.ref pr) :: (.ref sq) :: (.ref xa) :: (.ref sa) :: (.ref n64) :: (.ref m64) :: (.ref ex) :: (.ref wh) :: (.ref sd) :: (.ref tk) :: (.int v52) :: (.int v53) :: (.int v54) :: (.ref hd) :: (.ref ak) :: (.ref ho) :: (.ref ot) :: []) ∧ (q17 = 8 ∨ ((q17 = 0 ∨ q17 = 1 ∨ q17 = 2 ∨ q17 = 3 ∨ q17 = 4 ∨ q17 = 5) ∧ DOK fv tt q19 q20)) ∧ (s5 = 0 → fv a = 114 → q17 = 8)) ?_ (fun jn_59 => ?_)
      ·
        rintro ⟨q17, q19, q20, q21, q22⟩ F_60 hv_62 hO hR H locs hP hD hS ls hl
        have hl : lv_has ls 7 [(5, .int s5), (4, .int (nI kk)), (0, .ref h0), (1, .ref g1), (2, .int (nI a)), (3, .int (nI tt))] := hl
        have hv_62 : F_60 h0 = .inr (15, (.ref ta) :: (.int (nI zt)) :: (.int (nI zo)) :: (.int (nI ze)) :: (.ref ou) :: (.ref so) :: (.ref ad) :: (.ref na) :: (.ref va) :: (.ref lc) :: (.ref dm) :: (.int (nI fm)) :: (.int (nI sn)) :: (.ref tg) :: (.int v14) :: (.int v15) :: (.ref pe) :: (.int q17) :: (.int q18) :: (.int q19) :: (.int q20) :: (.int q21) :: (.int q22) :: (.ref ml) :: (.ref bg) :: (.ref co) :: (.ref sp) :: (.ref nb0) :: (.ref nb1) :: (.ref nb2) :: (.int (nI nf)) :: (.int (nI bd)) :: (.int (nI mm)) :: (.int v33) :: (.ref pl) :: (.ref se) :: (.ref ke) :: (.ref wi) :: (.ref hs) :: (.ref mo) :: (.ref po) :: (.ref nu) :: (.ref pr) :: (.ref sq) :: (.ref xa) :: (.ref sa) :: (.ref n64) :: (.ref m64) :: (.ref ex) :: (.ref wh) :: (.ref sd) :: (.ref tk) :: (.int v52) :: (.int v53) :: (.int v54) :: (.ref hd) :: (.ref ak) :: (.ref ho) :: (.ref ot) :: []) ∧ (q17 = 8 ∨ ((q17 = 0 ∨ q17 = 1 ∨ q17 = 2 ∨ q17 = 3 ∨ q17 = 4 ∨ q17 = 5) ∧ DOK fv tt q19 q20)) ∧ (s5 = 0 → fv a = 114 → q17 = 8) := hv_62
        refine W.eq (g2 := F0 m 392 ls []) rfl ?_
        have hF_63 : F_60 g1 = .inl (cs 17, 700, .inl fv) := (hR g1 (by rw [hT_g1]; simp only [List.mem_cons, List.not_mem_nil, or_false]; omega)).trans hF_61
        obtain ⟨hq1, hq2, hq3⟩ := hv_62
        refine lv_aload_n hx hb dX15_readTerm_392 rfl (lv_at hl 2 rfl) ?_
        refine pg_get (ci := 15) (v := .int q17) (C := RX15) (T := TX15) (N := 59) hx hb hts it_15 hown hK hP hL_h0 hq1 rfl 17 (by decide) (hts _ kt_750) (fun _ h9 => h9) rfl dX15_readTerm_393 ?_
        refine lv_bipush (v := 8) hx hb dX15_readTerm_396 (by decide) ?_
        refine lv_icmp_ne (tgt := 406) hx hb dX15_readTerm_398 (by decide) (fun c_64 => ?_) (fun c_64 => ?_)
        ·
          refine W.widen (k := 0) (n := 0) (by omega) (by omega) ?_
          exact W.vret hx hb hr (fun t ht hWm => ⟨⟨(), rfl, trivial, ⟨F_60, q17, q18, q19, q20, q21, q22, QTm.mk ht hP hD hO hR, hq1, ⟨(hq2.resolve_left c_64).2 |> fun h => Or.inr (Or.inr (Or.inr h)), fun h6 => absurd ((hq2.resolve_left c_64).1) (by rw [h6]; decide), fun h9 => (hs5.elim (fun h5 => absurd (hq3 h5 h9.c0) c_64) (fun h => absurd h9.c0 h.2))⟩⟩⟩, hS.F ht⟩) hS.2.2 dX15_readTerm_406
        ·
          refine lv_iload hx hb dX15_readTerm_401 (lv_at hl 0 rfl) ?_
          refine lv_if_eq (tgt := 407) hx hb dX15_readTerm_403 (by decide) (fun c_65 => ?_) (fun c_65 => ?_)
          ·
            have hs5z := c_65
            refine lv_aload_n hx hb dX15_readTerm_407 rfl (lv_at hl 3 rfl) ?_
            refine lv_iload hx hb dX15_readTerm_408 (lv_at hl 1 rfl) ?_
            refine lv_iload_n hx hb dX15_readTerm_410 rfl (lv_at hl 5 rfl) ?_
            obtain ⟨q_66, v_67, hr_q_66, hX_q_66⟩ := hG.2.2 ("PostGateModel", 282, "redirect=", [114, 101, 100, 105, 114, 101, 99, 116, 61]) (by decide +kernel)
            have hX_q_66 : SXc q_66 v_67 9 (cct [114, 101, 100, 105, 114, 101, 99, 116, 61]) A s s.heap := hX_q_66
            obtain ⟨xo_q_66, xc_q_66, xv_q_66, xt_q_66, xn_q_66⟩ := id hX_q_66
            have hr_q_66 : vk_R "PostGateModel" 282 "redirect=" q_66 s := hr_q_66
            refine va_ldcwS hx hb hown hr_q_66 dX15_readTerm_411 ?_
            obtain ⟨hq_68, hq_69⟩ := hW.octs hL_g1 hT_g1
            have hFc := pg_free hD hS hA
            refine va_calli (va_runS (As := [.ref g1, .int (nI kk), .int (nI tt), .ref q_66]) (rest := []) ⟨hx, hb, hml, hown, hts⟩ (s_X15_begins l dC dI cs ty gm L H.size F_60 g1 μ 700 q_66 v_67 9 (cct [114, 101, 100, 105, 114, 101, 99, 116, 61]) kk tt hW hL_g1 hT_g1 (by first | omega | assumption | exact Or.inl rfl) (by first | omega | assumption | exact Or.inl rfl)) ⟨callB_of 4 hts (gi kt_733) rfl rfl rfl (hts _ kt_669) (hts _ kt_734) (by decide +kernel) ⟨Nat.le_of_ble_eq_true rfl, Nat.le_of_ble_eq_true rfl⟩, (hts _ kt_735)⟩ ⟨fun a U g mk q => ⟨q.1, PTEm.calling q.2⟩, fun U hU hWm => ⟨rfl, PTEm.mk hU hWm hP hK hD hE hO hG (fun x hx => by rw [List.mem_singleton] at hx; subst hx; exact hX_q_66) hS hFc⟩⟩ rfl rfl hl.1 rfl (lv_room (Nat.le_of_ble_eq_true rfl)) dX15_readTerm_414 ⟨by show _ + 0 ≤ 0; omega, by show _ + 0 ≤ 0; omega⟩) hS (fun q _ h => hFc q h) hFc (fun r_70 u t H1 locs ht hvm hw hB hz1 hk1 hS => ?_)
            obtain ⟨F_71, hB1⟩ := hB
            obtain rfl : F_60 = F_71 := (funext (fun a => hB1.2.2.2 a List.not_mem_nil)).symm
            obtain ⟨hP, hD, hO, hR⟩ := QTm.back hB1 ht hFc hR (fun q h => absurd h List.not_mem_nil)
            generalize H1 = H at hP hS ⊢
            have hw : ((r_70 = 1 ∧ bgP (gA (F_60 g1)) kk tt (cct [114, 101, 100, 105, 114, 101, 99, 116, 61]) 9) ∨ (r_70 = 0 ∧ ¬ bgP (gA (F_60 g1)) kk tt (cct [114, 101, 100, 105, 114, 101, 99, 116, 61]) 9)) := hw
            have hw_72 := hw
            refine lv_if_eq (tgt := 457) hx hb dX15_readTerm_417 (by decide) (fun c_73 => ?_) (fun c_73 => ?_)
            ·
              refine lv_iload hx hb dX15_readTerm_457 (lv_at hl 1 rfl) ?_
              refine lv_istore (lv' := [(6, .int (nI kk)), (5, .int s5), (4, .int (nI kk)), (0, .ref h0), (1, .ref g1), (2, .int (nI a)), (3, .int (nI tt))]) hx hb dX15_readTerm_459 hl (by decide) rfl (fun ls hl => ?_)
              refine W.widen (k := 0) (n := 0) (by omega) (by omega) ?_
              have hF_75 : F g1 = .inl (cs 17, 700, .inl fv) := (hR g1 (by rw [hT_g1]; simp only [List.mem_cons, List.not_mem_nil, or_false]; omega)).symm.trans hF_63
              refine pl_loopm (σ := Nat) A (dC, dI) cs ty gm L [ρ] F 461 7 (fun j => [(6, .int (nI j)), (5, .int s5), (4, .int (nI kk)), (0, .ref h0), (1, .ref g1), (2, .int (nI a)), (3, .int (nI tt))]) (fun j => []) (fun j FF => kk ≤ j ∧ j ≤ tt ∧ FF h0 = .inr (15, (.ref ta) :: (.int (nI zt)) :: (.int (nI zo)) :: (.int (nI ze)) :: (.ref ou) :: (.ref so) :: (.ref ad) :: (.ref na) :: (.ref va) :: (.ref lc) :: (.ref dm) :: (.int (nI fm)) :: (.int (nI sn)) :: (.ref tg) :: (.int v14) :: (.int v15) :: (.ref pe) :: (.int q17) :: (.int q18) :: (.int q19) :: (.int q20) :: (.int q21) :: (.int q22) :: (.ref ml) :: (.ref bg) :: (.ref co) :: (.ref sp) :: (.ref nb0) :: (.ref nb1) :: (.ref nb2) :: (.int (nI nf)) :: (.int (nI bd)) :: (.int (nI mm)) :: (.int v33) :: (.ref pl) :: (.ref se) :: (.ref ke) :: (.ref wi) :: (.ref hs) :: (.ref mo) :: (.ref po) :: (.ref nu) :: (.ref pr) :: (.ref sq) :: (.ref xa) :: (.ref sa) :: (.ref n64) :: (.ref m64) :: (.ref ex) :: (.ref wh) :: (.ref sd) :: (.ref tk) :: (.int v52) :: (.int v53) :: (.int v54) :: (.ref hd) :: (.ref ak) :: (.ref ho) :: (.ref ot) :: [])) (fun j => tt - j) ?_ kk F_60 (⟨by omega, by omega, hq1⟩) hO hR _ _ hP hD hS ls (lv_sub hl [0, 1, 2, 3, 4, 5, 6] rfl)
              rintro j F_74 hv_76 hO hR ih_77 H locs hP hD hS ls hl
              have hl : lv_has ls 7 [(6, .int (nI j)), (5, .int s5), (4, .int (nI kk)), (0, .ref h0), (1, .ref g1), (2, .int (nI a)), (3, .int (nI tt))] := hl
              have hv_76 : kk ≤ j ∧ j ≤ tt ∧ F_74 h0 = .inr (15, (.ref ta) :: (.int (nI zt)) :: (.int (nI zo)) :: (.int (nI ze)) :: (.ref ou) :: (.ref so) :: (.ref ad) :: (.ref na) :: (.ref va) :: (.ref lc) :: (.ref dm) :: (.int (nI fm)) :: (.int (nI sn)) :: (.ref tg) :: (.int v14) :: (.int v15) :: (.ref pe) :: (.int q17) :: (.int q18) :: (.int q19) :: (.int q20) :: (.int q21) :: (.int q22) :: (.ref ml) :: (.ref bg) :: (.ref co) :: (.ref sp) :: (.ref nb0) :: (.ref nb1) :: (.ref nb2) :: (.int (nI nf)) :: (.int (nI bd)) :: (.int (nI mm)) :: (.int v33) :: (.ref pl) :: (.ref se) :: (.ref ke) :: (.ref wi) :: (.ref hs) :: (.ref mo) :: (.ref po) :: (.ref nu) :: (.ref pr) :: (.ref sq) :: (.ref xa) :: (.ref sa) :: (.ref n64) :: (.ref m64) :: (.ref ex) :: (.ref wh) :: (.ref sd) :: (.ref tk) :: (.int v52) :: (.int v53) :: (.int v54) :: (.ref hd) :: (.ref ak) :: (.ref ho) :: (.ref ot) :: []) := hv_76
              refine W.eq (g2 := F0 m 461 ls []) rfl ?_
              have hF_78 : F_74 g1 = .inl (cs 17, 700, .inl fv) := (hR g1 (by rw [hT_g1]; simp only [List.mem_cons, List.not_mem_nil, or_false]; omega)).trans hF_75
              obtain ⟨hv1, hv2, hv3⟩ := hv_76
              refine lv_iload hx hb dX15_readTerm_461 (lv_at hl 0 rfl) ?_
              refine lv_iload_n hx hb dX15_readTerm_463 rfl (lv_at hl 6 rfl) ?_
              refine lv_icmp_ge (tgt := 527) hx hb dX15_readTerm_464 (by decide) (fun c_79 => ?_) (fun c_79 => ?_)
              ·
                have hi_80 : tt ≤ j := leN (N := tt) c_79
                refine lv_iload hx hb dX15_readTerm_527 (lv_at hl 0 rfl) ?_
                refine lv_iload hx hb dX15_readTerm_529 (lv_at hl 2 rfl) ?_
                refine lv_icmp_le (tgt := 555) hx hb dX15_readTerm_531 (by decide) (fun c_81 => ?_) (fun c_81 => ?_)
                ·
                  have hi_82 : j ≤ kk := (nI_leI (a := j) (b := kk) (by omega) (by omega)).mp c_81
                  refine W.widen (k := 0) (n := 0) (by omega) (by omega) ?_
                  exact W.vret hx hb hr (fun t ht hWm => ⟨⟨(), rfl, trivial, ⟨F_74, q17, q18, q19, q20, q21, q22, QTm.mk ht hP hD hO hR, hv3, ⟨Or.inr (Or.inr (Or.inl c_64)), fun h6 => absurd (c_64.symm.trans h6) (by decide), fun h9 => absurd (by have h8 := h9.1; rw [← hk3a hs5z, ← gA_fun hF_63] at h8; exact h8) (nm0 hw_72 c_73)⟩⟩⟩, hS.F ht⟩) hS.2.2 dX15_readTerm_555
                ·
                  have hi_83 : kk < j := Nat.not_le.mp (fun q => c_81 ((nI_leI (a := j) (b := kk) (by omega) (by omega)).mpr q))
                  refine lv_iload hx hb dX15_readTerm_534 (lv_at hl 0 rfl) ?_
                  refine lv_iload_n hx hb dX15_readTerm_536 rfl (lv_at hl 6 rfl) ?_
                  refine lv_icmp_ge (tgt := 555) hx hb dX15_readTerm_537 (by decide) (fun c_84 => ?_) (fun c_84 => ?_)
                  ·
                    have hi_85 : tt ≤ j := leN (N := tt) c_84
                    refine W.widen (k := 0) (n := 0) (by omega) (by omega) ?_
                    exact W.vret hx hb hr (fun t ht hWm => ⟨⟨(), rfl, trivial, ⟨F_74, q17, q18, q19, q20, q21, q22, QTm.mk ht hP hD hO hR, hv3, ⟨Or.inr (Or.inr (Or.inl c_64)), fun h6 => absurd (c_64.symm.trans h6) (by decide), fun h9 => absurd (by have h8 := h9.1; rw [← hk3a hs5z, ← gA_fun hF_63] at h8; exact h8) (nm0 hw_72 c_73)⟩⟩⟩, hS.F ht⟩) hS.2.2 dX15_readTerm_555
                  ·
                    have hi_86 : j < tt := ltN (N := tt) c_84
                    refine lv_aload_n hx hb dX15_readTerm_540 rfl (lv_at hl 4 rfl) ?_
                    refine lv_iload hx hb dX15_readTerm_541 (lv_at hl 0 rfl) ?_
                    refine pg_bald hx hb hK hP hL_g1 1 hF_78 rfl (vp_in_nI (by omega) (by omega)) dX15_readTerm_543 ?_
                    refine lv_topi (fun x_87 ex_87 => ?_)
                    obtain rfl : x_87 = fv j := ex_87.trans (congrArg fv (show ((nI j) : Int32).toNatClampNeg = j from nI_clamp (by omega)))
                    refine lv_bipush (v := 61) hx hb dX15_readTerm_544 (by decide) ?_
                    refine lv_icmp_ne (tgt := 555) hx hb dX15_readTerm_546 (by decide) (fun c_88 => ?_) (fun c_88 => ?_)
                    ·
                      refine W.widen (k := 0) (n := 0) (by omega) (by omega) ?_
                      exact W.vret hx hb hr (fun t ht hWm => ⟨⟨(), rfl, trivial, ⟨F_74, q17, q18, q19, q20, q21, q22, QTm.mk ht hP hD hO hR, hv3, ⟨Or.inr (Or.inr (Or.inl c_64)), fun h6 => absurd (c_64.symm.trans h6) (by decide), fun h9 => absurd (by have h8 := h9.1; rw [← hk3a hs5z, ← gA_fun hF_63] at h8; exact h8) (nm0 hw_72 c_73)⟩⟩⟩, hS.F ht⟩) hS.2.2 dX15_readTerm_555
                    ·
                      refine lv_aload_n hx hb dX15_readTerm_549 rfl (lv_at hl 3 rfl) ?_
                      refine lv_bipush (v := 7) hx hb dX15_readTerm_550 (by decide) ?_
                      refine pg_put (ci := 15) (v := .int 7) (ty := .int) (C := RX15) (T := TX15) (N := 59) hx hb hts it_15 tyX15 tyX15_ok nmX15 hown hK hP hD hS hL_h0 hv3 rfl 17 (by decide) (hts _ kt_750) (fun _ h9 => h9) rfl (by decide +kernel) (rfl) (rfl) (Nat.le_of_ble_eq_true rfl) dX15_readTerm_552 (fun H locs hP hD hS => ?_)
                      obtain ⟨F_89, he_90, hP, hD, hO, hR⟩ : ∃ G, G = va_up F_74 h0 (.inr (15, (.ref ta) :: (.int (nI zt)) :: (.int (nI zo)) :: (.int (nI ze)) :: (.ref ou) :: (.ref so) :: (.ref ad) :: (.ref na) :: (.ref va) :: (.ref lc) :: (.ref dm) :: (.int (nI fm)) :: (.int (nI sn)) :: (.ref tg) :: (.int v14) :: (.int v15) :: (.ref pe) :: (.int 7) :: (.int q18) :: (.int q19) :: (.int q20) :: (.int q21) :: (.int q22) :: (.ref ml) :: (.ref bg) :: (.ref co) :: (.ref sp) :: (.ref nb0) :: (.ref nb1) :: (.ref nb2) :: (.int (nI nf)) :: (.int (nI bd)) :: (.int (nI mm)) :: (.int v33) :: (.ref pl) :: (.ref se) :: (.ref ke) :: (.ref wi) :: (.ref hs) :: (.ref mo) :: (.ref po) :: (.ref nu) :: (.ref pr) :: (.ref sq) :: (.ref xa) :: (.ref sa) :: (.ref n64) :: (.ref m64) :: (.ref ex) :: (.ref wh) :: (.ref sd) :: (.ref tk) :: (.int v52) :: (.int v53) :: (.int v54) :: (.ref hd) :: (.ref ak) :: (.ref ho) :: (.ref ot) :: [])) ∧ va_P (dC, dI) vwCl (va_pl L G) H ∧ va_D A (va_pl L G) ∧ OKm cs ty gm L G ∧ FR ty [ρ] F G := ⟨_, rfl, hP, hD, hO.up (shm.mod hT_h0 ⟨v14, v15, 7, q18, q19, q20, q21, q22, v33, v52, v53, v54, rfl, (by first | omega | assumption | exact Or.inl rfl | exact Or.inr rfl), (by first | omega | assumption | exact Or.inl rfl | exact Or.inr rfl), (by first | omega | assumption | exact Or.inl rfl | exact Or.inr rfl), (by first | omega | assumption | exact Or.inl rfl | exact Or.inr rfl), (by first | omega | assumption | exact Or.inl rfl | exact Or.inr rfl)⟩), hR.up hT_h0 (by simp)⟩
                      have hF_91 : F_89 h0 = .inr (15, (.ref ta) :: (.int (nI zt)) :: (.int (nI zo)) :: (.int (nI ze)) :: (.ref ou) :: (.ref so) :: (.ref ad) :: (.ref na) :: (.ref va) :: (.ref lc) :: (.ref dm) :: (.int (nI fm)) :: (.int (nI sn)) :: (.ref tg) :: (.int v14) :: (.int v15) :: (.ref pe) :: (.int 7) :: (.int q18) :: (.int q19) :: (.int q20) :: (.int q21) :: (.int q22) :: (.ref ml) :: (.ref bg) :: (.ref co) :: (.ref sp) :: (.ref nb0) :: (.ref nb1) :: (.ref nb2) :: (.int (nI nf)) :: (.int (nI bd)) :: (.int (nI mm)) :: (.int v33) :: (.ref pl) :: (.ref se) :: (.ref ke) :: (.ref wi) :: (.ref hs) :: (.ref mo) :: (.ref po) :: (.ref nu) :: (.ref pr) :: (.ref sq) :: (.ref xa) :: (.ref sa) :: (.ref n64) :: (.ref m64) :: (.ref ex) :: (.ref wh) :: (.ref sd) :: (.ref tk) :: (.int v52) :: (.int v53) :: (.int v54) :: (.ref hd) :: (.ref ak) :: (.ref ho) :: (.ref ot) :: []) := by rw [he_90]; exact up_self
                      have hF_92 : F_89 g1 = .inl (cs 17, 700, .inl fv) := by rw [he_90, up_ne (ne_ty hT_g1 hT_h0 (by simp))]; exact hF_78
                      refine W.widen (k := 0) (n := 0) (by omega) (by omega) ?_
                      exact W.vret hx hb hr (fun t ht hWm => ⟨⟨(), rfl, trivial, ⟨F_89, 7, q18, q19, q20, q21, q22, QTm.mk ht hP hD hO hR, hF_91, ⟨Or.inr (Or.inl rfl), fun h6 => absurd h6 (by decide), fun h9 => absurd (by have h8 := h9.1; rw [← hk3a hs5z, ← gA_fun hF_63] at h8; exact h8) (nm0 hw_72 c_73)⟩⟩⟩, hS.F ht⟩) hS.2.2 dX15_readTerm_555
              ·
                have hi_93 : j < tt := ltN (N := tt) c_79
                have hF_96 : F g1 = .inl (cs 17, 700, .inl fv) := (hR g1 (by rw [hT_g1]; simp only [List.mem_cons, List.not_mem_nil, or_false]; omega)).symm.trans hF_78
                refine W.widen (k := 0) (n := 0) (by omega) (by omega) ?_
                refine pl_cutm (σ := Unit) A (dC, dI) cs ty gm L [ρ] F 521 7 (fun u0 => [(6, .int (nI j)), (5, .int s5), (4, .int (nI kk)), (0, .ref h0), (1, .ref g1), (2, .int (nI a)), (3, .int (nI tt))]) (fun u0 => []) (fun u0 FF => FF h0 = .inr (15, (.ref ta) :: (.int (nI zt)) :: (.int (nI zo)) :: (.int (nI ze)) :: (.ref ou) :: (.ref so) :: (.ref ad) :: (.ref na) :: (.ref va) :: (.ref lc) :: (.ref dm) :: (.int (nI fm)) :: (.int (nI sn)) :: (.ref tg) :: (.int v14) :: (.int v15) :: (.ref pe) :: (.int q17) :: (.int q18) :: (.int q19) :: (.int q20) :: (.int q21) :: (.int q22) :: (.ref ml) :: (.ref bg) :: (.ref co) :: (.ref sp) :: (.ref nb0) :: (.ref nb1) :: (.ref nb2) :: (.int (nI nf)) :: (.int (nI bd)) :: (.int (nI mm)) :: (.int v33) :: (.ref pl) :: (.ref se) :: (.ref ke) :: (.ref wi) :: (.ref hs) :: (.ref mo) :: (.ref po) :: (.ref nu) :: (.ref pr) :: (.ref sq) :: (.ref xa) :: (.ref sa) :: (.ref n64) :: (.ref m64) :: (.ref ex) :: (.ref wh) :: (.ref sd) :: (.ref tk) :: (.int v52) :: (.int v53) :: (.int v54) :: (.ref hd) :: (.ref ak) :: (.ref ho) :: (.ref ot) :: [])) ?_ (fun jn_94 => ?_)
                ·
                  rintro u0 F_95 hv_97 hO hR H locs hP hD hS ls hl
                  have hl : lv_has ls 7 [(6, .int (nI j)), (5, .int s5), (4, .int (nI kk)), (0, .ref h0), (1, .ref g1), (2, .int (nI a)), (3, .int (nI tt))] := hl
                  have hv_97 : F_95 h0 = .inr (15, (.ref ta) :: (.int (nI zt)) :: (.int (nI zo)) :: (.int (nI ze)) :: (.ref ou) :: (.ref so) :: (.ref ad) :: (.ref na) :: (.ref va) :: (.ref lc) :: (.ref dm) :: (.int (nI fm)) :: (.int (nI sn)) :: (.ref tg) :: (.int v14) :: (.int v15) :: (.ref pe) :: (.int q17) :: (.int q18) :: (.int q19) :: (.int q20) :: (.int q21) :: (.int q22) :: (.ref ml) :: (.ref bg) :: (.ref co) :: (.ref sp) :: (.ref nb0) :: (.ref nb1) :: (.ref nb2) :: (.int (nI nf)) :: (.int (nI bd)) :: (.int (nI mm)) :: (.int v33) :: (.ref pl) :: (.ref se) :: (.ref ke) :: (.ref wi) :: (.ref hs) :: (.ref mo) :: (.ref po) :: (.ref nu) :: (.ref pr) :: (.ref sq) :: (.ref xa) :: (.ref sa) :: (.ref n64) :: (.ref m64) :: (.ref ex) :: (.ref wh) :: (.ref sd) :: (.ref tk) :: (.int v52) :: (.int v53) :: (.int v54) :: (.ref hd) :: (.ref ak) :: (.ref ho) :: (.ref ot) :: []) := hv_97
                  refine W.eq (g2 := F0 m 521 ls []) rfl ?_
                  have hF_98 : F_95 g1 = .inl (cs 17, 700, .inl fv) := (hR g1 (by rw [hT_g1]; simp only [List.mem_cons, List.not_mem_nil, or_false]; omega)).trans hF_96
                  refine lv_iinc (v := (nI (j + 1))) (lv' := [(6, .int (nI (j + 1))), (5, .int s5), (4, .int (nI kk)), (0, .ref h0), (1, .ref g1), (2, .int (nI a)), (3, .int (nI tt))]) hx hb dX15_readTerm_521 hl (k := 0) rfl (nI_1 _) (by decide) rfl (fun ls hl => ?_)
                  refine lv_goto (tgt := 461) hx hb dX15_readTerm_524 (by decide) ?_
                  refine W.widen (k := 0) (n := 0) (by omega) (by omega) ?_
                  exact ih_77 (j + 1) F_95 (⟨by omega, by omega, hv_97⟩) (by show tt - (j + 1) < tt - j; omega) hO hR _ _ hP hD hS ls (lv_sub hl [0, 1, 2, 3, 4, 5, 6] rfl)
                ·
                  refine lv_aload_n hx hb dX15_readTerm_467 rfl (lv_at hl 4 rfl) ?_
                  refine lv_iload hx hb dX15_readTerm_468 (lv_at hl 0 rfl) ?_
                  refine pg_bald hx hb hK hP hL_g1 1 hF_78 rfl (vp_in_nI (by omega) (by omega)) dX15_readTerm_470 ?_
                  refine lv_topi (fun x_99 ex_99 => ?_)
                  obtain rfl : x_99 = fv j := ex_99.trans (congrArg fv (show ((nI j) : Int32).toNatClampNeg = j from nI_clamp (by omega)))
                  have hFc := pg_free hD hS hA
                  refine va_calli (va_runS (As := [.int (fv j)]) (rest := []) ⟨hx, hb, hml, hown, hts⟩ (s_X15_isSmall l dC dI cs ty gm L H.size F_74 (fv j) hW ) ⟨callB_of 1 hts (gi kt_668) rfl rfl rfl (hts _ kt_669) (hts _ kt_670) (by decide +kernel) ⟨Nat.le_of_ble_eq_true rfl, Nat.le_of_ble_eq_true rfl⟩, (hts _ kt_671)⟩ ⟨fun a U g mk q => ⟨q.1, PTm.calling q.2⟩, fun U hU hWm => ⟨rfl, PTm.mk hU hWm hP hK hD hE hO⟩⟩ rfl rfl hl.1 rfl (lv_room (Nat.le_of_ble_eq_true rfl)) dX15_readTerm_471 ⟨by show _ + 0 ≤ 0; omega, by show _ + 0 ≤ 0; omega⟩) hS (fun q _ h => hFc q h) hFc (fun r_100 u t H1 locs ht hvm hw hB hz1 hk1 hS => ?_)
                  obtain ⟨F_101, hB1⟩ := hB
                  obtain rfl : F_74 = F_101 := (funext (fun a => hB1.2.2.2 a List.not_mem_nil)).symm
                  obtain ⟨hP, hD, hO, hR⟩ := QTm.back hB1 ht hFc hR (fun q h => absurd h List.not_mem_nil)
                  generalize H1 = H at hP hS ⊢
                  have hw : (r_100 = 0 ∨ r_100 = 1) := hw
                  have hw_102 := hw
                  refine lv_if_ne (tgt := 521) hx hb dX15_readTerm_474 (by decide) (fun c_103 => ?_) (fun c_103 => ?_)
                  ·
                    refine W.widen (k := 0) (n := 0) (by omega) (by omega) ?_
                    exact jn_94 () F_74 (hv3) hO hR _ _ hP hD hS ls (lv_sub hl [0, 1, 2, 3, 4, 5, 6] rfl)
                  ·
                    refine lv_iload hx hb dX15_readTerm_477 (lv_at hl 0 rfl) ?_
                    refine lv_iload hx hb dX15_readTerm_479 (lv_at hl 2 rfl) ?_
                    refine lv_icmp_le (tgt := 527) hx hb dX15_readTerm_481 (by decide) (fun c_104 => ?_) (fun c_104 => ?_)
                    ·
                      have hi_105 : j ≤ kk := (nI_leI (a := j) (b := kk) (by omega) (by omega)).mp c_104
                      refine lv_iload hx hb dX15_readTerm_527 (lv_at hl 0 rfl) ?_
                      refine lv_iload hx hb dX15_readTerm_529 (lv_at hl 2 rfl) ?_
                      refine lv_icmp_le (tgt := 555) hx hb dX15_readTerm_531 (by decide) (fun c_106 => ?_) (fun c_106 => ?_)
                      ·
                        have hi_107 : j ≤ kk := (nI_leI (a := j) (b := kk) (by omega) (by omega)).mp c_106
                        refine W.widen (k := 0) (n := 0) (by omega) (by omega) ?_
                        exact W.vret hx hb hr (fun t ht hWm => ⟨⟨(), rfl, trivial, ⟨F_74, q17, q18, q19, q20, q21, q22, QTm.mk ht hP hD hO hR, hv3, ⟨Or.inr (Or.inr (Or.inl c_64)), fun h6 => absurd (c_64.symm.trans h6) (by decide), fun h9 => absurd (by have h8 := h9.1; rw [← hk3a hs5z, ← gA_fun hF_63] at h8; exact h8) (nm0 hw_72 c_73)⟩⟩⟩, hS.F ht⟩) hS.2.2 dX15_readTerm_555
                      ·
                        have hi_108 : kk < j := Nat.not_le.mp (fun q => c_106 ((nI_leI (a := j) (b := kk) (by omega) (by omega)).mpr q))
                        refine lv_iload hx hb dX15_readTerm_534 (lv_at hl 0 rfl) ?_
                        refine lv_iload_n hx hb dX15_readTerm_536 rfl (lv_at hl 6 rfl) ?_
                        refine lv_icmp_ge (tgt := 555) hx hb dX15_readTerm_537 (by decide) (fun c_109 => ?_) (fun c_109 => ?_)
                        ·
                          have hi_110 : tt ≤ j := leN (N := tt) c_109
                          refine W.widen (k := 0) (n := 0) (by omega) (by omega) ?_
                          exact W.vret hx hb hr (fun t ht hWm => ⟨⟨(), rfl, trivial, ⟨F_74, q17, q18, q19, q20, q21, q22, QTm.mk ht hP hD hO hR, hv3, ⟨Or.inr (Or.inr (Or.inl c_64)), fun h6 => absurd (c_64.symm.trans h6) (by decide), fun h9 => absurd (by have h8 := h9.1; rw [← hk3a hs5z, ← gA_fun hF_63] at h8; exact h8) (nm0 hw_72 c_73)⟩⟩⟩, hS.F ht⟩) hS.2.2 dX15_readTerm_555
                        ·
                          have hi_111 : j < tt := ltN (N := tt) c_109
                          refine lv_aload_n hx hb dX15_readTerm_540 rfl (lv_at hl 4 rfl) ?_
                          refine lv_iload hx hb dX15_readTerm_541 (lv_at hl 0 rfl) ?_
                          refine pg_bald hx hb hK hP hL_g1 1 hF_78 rfl (vp_in_nI (by omega) (by omega)) dX15_readTerm_543 ?_
                          refine lv_topi (fun x_112 ex_112 => ?_)
                          obtain rfl : x_112 = fv j := ex_112.trans (congrArg fv (show ((nI j) : Int32).toNatClampNeg = j from nI_clamp (by omega)))
                          refine lv_bipush (v := 61) hx hb dX15_readTerm_544 (by decide) ?_
                          refine lv_icmp_ne (tgt := 555) hx hb dX15_readTerm_546 (by decide) (fun c_113 => ?_) (fun c_113 => ?_)
                          ·
                            refine W.widen (k := 0) (n := 0) (by omega) (by omega) ?_
                            exact W.vret hx hb hr (fun t ht hWm => ⟨⟨(), rfl, trivial, ⟨F_74, q17, q18, q19, q20, q21, q22, QTm.mk ht hP hD hO hR, hv3, ⟨Or.inr (Or.inr (Or.inl c_64)), fun h6 => absurd (c_64.symm.trans h6) (by decide), fun h9 => absurd (by have h8 := h9.1; rw [← hk3a hs5z, ← gA_fun hF_63] at h8; exact h8) (nm0 hw_72 c_73)⟩⟩⟩, hS.F ht⟩) hS.2.2 dX15_readTerm_555
                          ·
                            refine lv_aload_n hx hb dX15_readTerm_549 rfl (lv_at hl 3 rfl) ?_
                            refine lv_bipush (v := 7) hx hb dX15_readTerm_550 (by decide) ?_
                            refine pg_put (ci := 15) (v := .int 7) (ty := .int) (C := RX15) (T := TX15) (N := 59) hx hb hts it_15 tyX15 tyX15_ok nmX15 hown hK hP hD hS hL_h0 hv3 rfl 17 (by decide) (hts _ kt_750) (fun _ h9 => h9) rfl (by decide +kernel) (rfl) (rfl) (Nat.le_of_ble_eq_true rfl) dX15_readTerm_552 (fun H locs hP hD hS => ?_)
                            obtain ⟨F_114, he_115, hP, hD, hO, hR⟩ : ∃ G, G = va_up F_74 h0 (.inr (15, (.ref ta) :: (.int (nI zt)) :: (.int (nI zo)) :: (.int (nI ze)) :: (.ref ou) :: (.ref so) :: (.ref ad) :: (.ref na) :: (.ref va) :: (.ref lc) :: (.ref dm) :: (.int (nI fm)) :: (.int (nI sn)) :: (.ref tg) :: (.int v14) :: (.int v15) :: (.ref pe) :: (.int 7) :: (.int q18) :: (.int q19) :: (.int q20) :: (.int q21) :: (.int q22) :: (.ref ml) :: (.ref bg) :: (.ref co) :: (.ref sp) :: (.ref nb0) :: (.ref nb1) :: (.ref nb2) :: (.int (nI nf)) :: (.int (nI bd)) :: (.int (nI mm)) :: (.int v33) :: (.ref pl) :: (.ref se) :: (.ref ke) :: (.ref wi) :: (.ref hs) :: (.ref mo) :: (.ref po) :: (.ref nu) :: (.ref pr) :: (.ref sq) :: (.ref xa) :: (.ref sa) :: (.ref n64) :: (.ref m64) :: (.ref ex) :: (.ref wh) :: (.ref sd) :: (.ref tk) :: (.int v52) :: (.int v53) :: (.int v54) :: (.ref hd) :: (.ref ak) :: (.ref ho) :: (.ref ot) :: [])) ∧ va_P (dC, dI) vwCl (va_pl L G) H ∧ va_D A (va_pl L G) ∧ OKm cs ty gm L G ∧ FR ty [ρ] F G := ⟨_, rfl, hP, hD, hO.up (shm.mod hT_h0 ⟨v14, v15, 7, q18, q19, q20, q21, q22, v33, v52, v53, v54, rfl, (by first | omega | assumption | exact Or.inl rfl | exact Or.inr rfl), (by first | omega | assumption | exact Or.inl rfl | exact Or.inr rfl), (by first | omega | assumption | exact Or.inl rfl | exact Or.inr rfl), (by first | omega | assumption | exact Or.inl rfl | exact Or.inr rfl), (by first | omega | assumption | exact Or.inl rfl | exact Or.inr rfl)⟩), hR.up hT_h0 (by simp)⟩
                            have hF_116 : F_114 h0 = .inr (15, (.ref ta) :: (.int (nI zt)) :: (.int (nI zo)) :: (.int (nI ze)) :: (.ref ou) :: (.ref so) :: (.ref ad) :: (.ref na) :: (.ref va) :: (.ref lc) :: (.ref dm) :: (.int (nI fm)) :: (.int (nI sn)) :: (.ref tg) :: (.int v14) :: (.int v15) :: (.ref pe) :: (.int 7) :: (.int q18) :: (.int q19) :: (.int q20) :: (.int q21) :: (.int q22) :: (.ref ml) :: (.ref bg) :: (.ref co) :: (.ref sp) :: (.ref nb0) :: (.ref nb1) :: (.ref nb2) :: (.int (nI nf)) :: (.int (nI bd)) :: (.int (nI mm)) :: (.int v33) :: (.ref pl) :: (.ref se) :: (.ref ke) :: (.ref wi) :: (.ref hs) :: (.ref mo) :: (.ref po) :: (.ref nu) :: (.ref pr) :: (.ref sq) :: (.ref xa) :: (.ref sa) :: (.ref n64) :: (.ref m64) :: (.ref ex) :: (.ref wh) :: (.ref sd) :: (.ref tk) :: (.int v52) :: (.int v53) :: (.int v54) :: (.ref hd) :: (.ref ak) :: (.ref ho) :: (.ref ot) :: []) := by rw [he_115]; exact up_self
                            have hF_117 : F_114 g1 = .inl (cs 17, 700, .inl fv) := by rw [he_115, up_ne (ne_ty hT_g1 hT_h0 (by simp))]; exact hF_78
                            refine W.widen (k := 0) (n := 0) (by omega) (by omega) ?_
                            exact W.vret hx hb hr (fun t ht hWm => ⟨⟨(), rfl, trivial, ⟨F_114, 7, q18, q19, q20, q21, q22, QTm.mk ht hP hD hO hR, hF_116, ⟨Or.inr (Or.inl rfl), fun h6 => absurd h6 (by decide), fun h9 => absurd (by have h8 := h9.1; rw [← hk3a hs5z, ← gA_fun hF_63] at h8; exact h8) (nm0 hw_72 c_73)⟩⟩⟩, hS.F ht⟩) hS.2.2 dX15_readTerm_555
                    ·
                      have hi_118 : kk < j := Nat.not_le.mp (fun q => c_104 ((nI_leI (a := j) (b := kk) (by omega) (by omega)).mpr q))
                      refine lv_aload_n hx hb dX15_readTerm_484 rfl (lv_at hl 4 rfl) ?_
                      refine lv_iload hx hb dX15_readTerm_485 (lv_at hl 0 rfl) ?_
                      refine pg_bald hx hb hK hP hL_g1 1 hF_78 rfl (vp_in_nI (by omega) (by omega)) dX15_readTerm_487 ?_
                      refine lv_topi (fun x_119 ex_119 => ?_)
                      obtain rfl : x_119 = fv j := ex_119.trans (congrArg fv (show ((nI j) : Int32).toNatClampNeg = j from nI_clamp (by omega)))
                      have hFc := pg_free hD hS hA
                      refine va_calli (va_runS (As := [.int (fv j)]) (rest := []) ⟨hx, hb, hml, hown, hts⟩ (s_X15_isDigit l dC dI cs ty gm L H.size F_74 (fv j) hW ) ⟨callB_of 1 hts (gi kt_687) rfl rfl rfl (hts _ kt_669) (hts _ kt_707) (by decide +kernel) ⟨Nat.le_of_ble_eq_true rfl, Nat.le_of_ble_eq_true rfl⟩, (hts _ kt_688)⟩ ⟨fun a U g mk q => ⟨q.1, PTm.calling q.2⟩, fun U hU hWm => ⟨rfl, PTm.mk hU hWm hP hK hD hE hO⟩⟩ rfl rfl hl.1 rfl (lv_room (Nat.le_of_ble_eq_true rfl)) dX15_readTerm_488 ⟨by show _ + 0 ≤ 0; omega, by show _ + 0 ≤ 0; omega⟩) hS (fun q _ h => hFc q h) hFc (fun r_120 u t H1 locs ht hvm hw hB hz1 hk1 hS => ?_)
                      obtain ⟨F_121, hB1⟩ := hB
                      obtain rfl : F_74 = F_121 := (funext (fun a => hB1.2.2.2 a List.not_mem_nil)).symm
                      obtain ⟨hP, hD, hO, hR⟩ := QTm.back hB1 ht hFc hR (fun q h => absurd h List.not_mem_nil)
                      generalize H1 = H at hP hS ⊢
                      have hw : (r_120 = 0 ∨ r_120 = 1) := hw
                      have hw_122 := hw
                      refine lv_if_ne (tgt := 521) hx hb dX15_readTerm_491 (by decide) (fun c_123 => ?_) (fun c_123 => ?_)
                      ·
                        refine W.widen (k := 0) (n := 0) (by omega) (by omega) ?_
                        exact jn_94 () F_74 (hv3) hO hR _ _ hP hD hS ls (lv_sub hl [0, 1, 2, 3, 4, 5, 6] rfl)
                      ·
                        refine lv_aload_n hx hb dX15_readTerm_494 rfl (lv_at hl 4 rfl) ?_
                        refine lv_iload hx hb dX15_readTerm_495 (lv_at hl 0 rfl) ?_
                        refine pg_bald hx hb hK hP hL_g1 1 hF_78 rfl (vp_in_nI (by omega) (by omega)) dX15_readTerm_497 ?_
                        refine lv_topi (fun x_124 ex_124 => ?_)
                        obtain rfl : x_124 = fv j := ex_124.trans (congrArg fv (show ((nI j) : Int32).toNatClampNeg = j from nI_clamp (by omega)))
                        refine lv_bipush (v := 45) hx hb dX15_readTerm_498 (by decide) ?_
                        refine lv_icmp_eq (tgt := 521) hx hb dX15_readTerm_500 (by decide) (fun c_125 => ?_) (fun c_125 => ?_)
                        ·
                          refine W.widen (k := 0) (n := 0) (by omega) (by omega) ?_
                          exact jn_94 () F_74 (hv3) hO hR _ _ hP hD hS ls (lv_sub hl [0, 1, 2, 3, 4, 5, 6] rfl)
                        ·
                          refine lv_aload_n hx hb dX15_readTerm_503 rfl (lv_at hl 4 rfl) ?_
                          refine lv_iload hx hb dX15_readTerm_504 (lv_at hl 0 rfl) ?_
                          refine pg_bald hx hb hK hP hL_g1 1 hF_78 rfl (vp_in_nI (by omega) (by omega)) dX15_readTerm_506 ?_
                          refine lv_topi (fun x_126 ex_126 => ?_)
                          obtain rfl : x_126 = fv j := ex_126.trans (congrArg fv (show ((nI j) : Int32).toNatClampNeg = j from nI_clamp (by omega)))
                          refine lv_bipush (v := 95) hx hb dX15_readTerm_507 (by decide) ?_
                          refine lv_icmp_eq (tgt := 521) hx hb dX15_readTerm_509 (by decide) (fun c_127 => ?_) (fun c_127 => ?_)
                          ·
                            refine W.widen (k := 0) (n := 0) (by omega) (by omega) ?_
                            exact jn_94 () F_74 (hv3) hO hR _ _ hP hD hS ls (lv_sub hl [0, 1, 2, 3, 4, 5, 6] rfl)
                          ·
                            refine lv_aload_n hx hb dX15_readTerm_512 rfl (lv_at hl 4 rfl) ?_
                            refine lv_iload hx hb dX15_readTerm_513 (lv_at hl 0 rfl) ?_
                            refine pg_bald hx hb hK hP hL_g1 1 hF_78 rfl (vp_in_nI (by omega) (by omega)) dX15_readTerm_515 ?_
                            refine lv_topi (fun x_128 ex_128 => ?_)
                            obtain rfl : x_128 = fv j := ex_128.trans (congrArg fv (show ((nI j) : Int32).toNatClampNeg = j from nI_clamp (by omega)))
                            refine lv_bipush (v := 46) hx hb dX15_readTerm_516 (by decide) ?_
                            refine lv_icmp_ne (tgt := 527) hx hb dX15_readTerm_518 (by decide) (fun c_129 => ?_) (fun c_129 => ?_)
                            ·
                              refine lv_iload hx hb dX15_readTerm_527 (lv_at hl 0 rfl) ?_
                              refine lv_iload hx hb dX15_readTerm_529 (lv_at hl 2 rfl) ?_
                              refine lv_icmp_le (tgt := 555) hx hb dX15_readTerm_531 (by decide) (fun c_130 => ?_) (fun c_130 => ?_)
                              ·
                                have hi_131 : j ≤ kk := (nI_leI (a := j) (b := kk) (by omega) (by omega)).mp c_130
                                refine W.widen (k := 0) (n := 0) (by omega) (by omega) ?_
                                exact W.vret hx hb hr (fun t ht hWm => ⟨⟨(), rfl, trivial, ⟨F_74, q17, q18, q19, q20, q21, q22, QTm.mk ht hP hD hO hR, hv3, ⟨Or.inr (Or.inr (Or.inl c_64)), fun h6 => absurd (c_64.symm.trans h6) (by decide), fun h9 => absurd (by have h8 := h9.1; rw [← hk3a hs5z, ← gA_fun hF_63] at h8; exact h8) (nm0 hw_72 c_73)⟩⟩⟩, hS.F ht⟩) hS.2.2 dX15_readTerm_555
                              ·
                                have hi_132 : kk < j := Nat.not_le.mp (fun q => c_130 ((nI_leI (a := j) (b := kk) (by omega) (by omega)).mpr q))
                                refine lv_iload hx hb dX15_readTerm_534 (lv_at hl 0 rfl) ?_
                                refine lv_iload_n hx hb dX15_readTerm_536 rfl (lv_at hl 6 rfl) ?_
                                refine lv_icmp_ge (tgt := 555) hx hb dX15_readTerm_537 (by decide) (fun c_133 => ?_) (fun c_133 => ?_)
                                ·
                                  have hi_134 : tt ≤ j := leN (N := tt) c_133
                                  refine W.widen (k := 0) (n := 0) (by omega) (by omega) ?_
                                  exact W.vret hx hb hr (fun t ht hWm => ⟨⟨(), rfl, trivial, ⟨F_74, q17, q18, q19, q20, q21, q22, QTm.mk ht hP hD hO hR, hv3, ⟨Or.inr (Or.inr (Or.inl c_64)), fun h6 => absurd (c_64.symm.trans h6) (by decide), fun h9 => absurd (by have h8 := h9.1; rw [← hk3a hs5z, ← gA_fun hF_63] at h8; exact h8) (nm0 hw_72 c_73)⟩⟩⟩, hS.F ht⟩) hS.2.2 dX15_readTerm_555
                                ·
                                  have hi_135 : j < tt := ltN (N := tt) c_133
                                  refine lv_aload_n hx hb dX15_readTerm_540 rfl (lv_at hl 4 rfl) ?_
                                  refine lv_iload hx hb dX15_readTerm_541 (lv_at hl 0 rfl) ?_
                                  refine pg_bald hx hb hK hP hL_g1 1 hF_78 rfl (vp_in_nI (by omega) (by omega)) dX15_readTerm_543 ?_
                                  refine lv_topi (fun x_136 ex_136 => ?_)
                                  obtain rfl : x_136 = fv j := ex_136.trans (congrArg fv (show ((nI j) : Int32).toNatClampNeg = j from nI_clamp (by omega)))
                                  refine lv_bipush (v := 61) hx hb dX15_readTerm_544 (by decide) ?_
                                  refine lv_icmp_ne (tgt := 555) hx hb dX15_readTerm_546 (by decide) (fun c_137 => ?_) (fun c_137 => ?_)
                                  ·
                                    refine W.widen (k := 0) (n := 0) (by omega) (by omega) ?_
                                    exact W.vret hx hb hr (fun t ht hWm => ⟨⟨(), rfl, trivial, ⟨F_74, q17, q18, q19, q20, q21, q22, QTm.mk ht hP hD hO hR, hv3, ⟨Or.inr (Or.inr (Or.inl c_64)), fun h6 => absurd (c_64.symm.trans h6) (by decide), fun h9 => absurd (by have h8 := h9.1; rw [← hk3a hs5z, ← gA_fun hF_63] at h8; exact h8) (nm0 hw_72 c_73)⟩⟩⟩, hS.F ht⟩) hS.2.2 dX15_readTerm_555
                                  ·
                                    refine lv_aload_n hx hb dX15_readTerm_549 rfl (lv_at hl 3 rfl) ?_
                                    refine lv_bipush (v := 7) hx hb dX15_readTerm_550 (by decide) ?_
                                    refine pg_put (ci := 15) (v := .int 7) (ty := .int) (C := RX15) (T := TX15) (N := 59) hx hb hts it_15 tyX15 tyX15_ok nmX15 hown hK hP hD hS hL_h0 hv3 rfl 17 (by decide) (hts _ kt_750) (fun _ h9 => h9) rfl (by decide +kernel) (rfl) (rfl) (Nat.le_of_ble_eq_true rfl) dX15_readTerm_552 (fun H locs hP hD hS => ?_)
                                    obtain ⟨F_138, he_139, hP, hD, hO, hR⟩ : ∃ G, G = va_up F_74 h0 (.inr (15, (.ref ta) :: (.int (nI zt)) :: (.int (nI zo)) :: (.int (nI ze)) :: (.ref ou) :: (.ref so) :: (.ref ad) :: (.ref na) :: (.ref va) :: (.ref lc) :: (.ref dm) :: (.int (nI fm)) :: (.int (nI sn)) :: (.ref tg) :: (.int v14) :: (.int v15) :: (.ref pe) :: (.int 7) :: (.int q18) :: (.int q19) :: (.int q20) :: (.int q21) :: (.int q22) :: (.ref ml) :: (.ref bg) :: (.ref co) :: (.ref sp) :: (.ref nb0) :: (.ref nb1) :: (.ref nb2) :: (.int (nI nf)) :: (.int (nI bd)) :: (.int (nI mm)) :: (.int v33) :: (.ref pl) :: (.ref se) :: (.ref ke) :: (.ref wi) :: (.ref hs) :: (.ref mo) :: (.ref po) :: (.ref nu) :: (.ref pr) :: (.ref sq) :: (.ref xa) :: (.ref sa) :: (.ref n64) :: (.ref m64) :: (.ref ex) :: (.ref wh) :: (.ref sd) :: (.ref tk) :: (.int v52) :: (.int v53) :: (.int v54) :: (.ref hd) :: (.ref ak) :: (.ref ho) :: (.ref ot) :: [])) ∧ va_P (dC, dI) vwCl (va_pl L G) H ∧ va_D A (va_pl L G) ∧ OKm cs ty gm L G ∧ FR ty [ρ] F G := ⟨_, rfl, hP, hD, hO.up (shm.mod hT_h0 ⟨v14, v15, 7, q18, q19, q20, q21, q22, v33, v52, v53, v54, rfl, (by first | omega | assumption | exact Or.inl rfl | exact Or.inr rfl), (by first | omega | assumption | exact Or.inl rfl | exact Or.inr rfl), (by first | omega | assumption | exact Or.inl rfl | exact Or.inr rfl), (by first | omega | assumption | exact Or.inl rfl | exact Or.inr rfl), (by first | omega | assumption | exact Or.inl rfl | exact Or.inr rfl)⟩), hR.up hT_h0 (by simp)⟩
                                    have hF_140 : F_138 h0 = .inr (15, (.ref ta) :: (.int (nI zt)) :: (.int (nI zo)) :: (.int (nI ze)) :: (.ref ou) :: (.ref so) :: (.ref ad) :: (.ref na) :: (.ref va) :: (.ref lc) :: (.ref dm) :: (.int (nI fm)) :: (.int (nI sn)) :: (.ref tg) :: (.int v14) :: (.int v15) :: (.ref pe) :: (.int 7) :: (.int q18) :: (.int q19) :: (.int q20) :: (.int q21) :: (.int q22) :: (.ref ml) :: (.ref bg) :: (.ref co) :: (.ref sp) :: (.ref nb0) :: (.ref nb1) :: (.ref nb2) :: (.int (nI nf)) :: (.int (nI bd)) :: (.int (nI mm)) :: (.int v33) :: (.ref pl) :: (.ref se) :: (.ref ke) :: (.ref wi) :: (.ref hs) :: (.ref mo) :: (.ref po) :: (.ref nu) :: (.ref pr) :: (.ref sq) :: (.ref xa) :: (.ref sa) :: (.ref n64) :: (.ref m64) :: (.ref ex) :: (.ref wh) :: (.ref sd) :: (.ref tk) :: (.int v52) :: (.int v53) :: (.int v54) :: (.ref hd) :: (.ref ak) :: (.ref ho) :: (.ref ot) :: []) := by rw [he_139]; exact up_self
                                    have hF_141 : F_138 g1 = .inl (cs 17, 700, .inl fv) := by rw [he_139, up_ne (ne_ty hT_g1 hT_h0 (by simp))]; exact hF_78
                                    refine W.widen (k := 0) (n := 0) (by omega) (by omega) ?_
                                    exact W.vret hx hb hr (fun t ht hWm => ⟨⟨(), rfl, trivial, ⟨F_138, 7, q18, q19, q20, q21, q22, QTm.mk ht hP hD hO hR, hF_140, ⟨Or.inr (Or.inl rfl), fun h6 => absurd h6 (by decide), fun h9 => absurd (by have h8 := h9.1; rw [← hk3a hs5z, ← gA_fun hF_63] at h8; exact h8) (nm0 hw_72 c_73)⟩⟩⟩, hS.F ht⟩) hS.2.2 dX15_readTerm_555
                            ·
                              refine W.widen (k := 0) (n := 0) (by omega) (by omega) ?_
                              exact jn_94 () F_74 (hv3) hO hR _ _ hP hD hS ls (lv_sub hl [0, 1, 2, 3, 4, 5, 6] rfl)
            ·
              have hb414 := (nm1 hw_72 c_73).1
              refine lv_aload_n hx hb dX15_readTerm_420 rfl (lv_at hl 2 rfl) ?_
              refine lv_iload hx hb dX15_readTerm_421 (lv_at hl 1 rfl) ?_
              refine lv_bipush (v := 9) hx hb dX15_readTerm_423 (by decide) ?_
              refine lv_iadd hx hb dX15_readTerm_425 ?_
              refine lv_topi (fun x_142 ex_142 => ?_)
              obtain rfl : x_142 = (nI (kk + 9)) := ex_142.trans (nI_add kk 9)
              refine pg_put (ci := 15) (v := .int (nI (kk + 9))) (ty := .int) (C := RX15) (T := TX15) (N := 59) hx hb hts it_15 tyX15 tyX15_ok nmX15 hown hK hP hD hS hL_h0 hq1 rfl 19 (by decide) (hts _ kt_751) (fun _ h9 => h9) rfl (by decide +kernel) (rfl) (rfl) (Nat.le_of_ble_eq_true rfl) dX15_readTerm_426 (fun H locs hP hD hS => ?_)
              obtain ⟨F_143, he_144, hP, hD, hO, hR⟩ : ∃ G, G = va_up F_60 h0 (.inr (15, (.ref ta) :: (.int (nI zt)) :: (.int (nI zo)) :: (.int (nI ze)) :: (.ref ou) :: (.ref so) :: (.ref ad) :: (.ref na) :: (.ref va) :: (.ref lc) :: (.ref dm) :: (.int (nI fm)) :: (.int (nI sn)) :: (.ref tg) :: (.int v14) :: (.int v15) :: (.ref pe) :: (.int q17) :: (.int q18) :: (.int (nI (kk + 9))) :: (.int q20) :: (.int q21) :: (.int q22) :: (.ref ml) :: (.ref bg) :: (.ref co) :: (.ref sp) :: (.ref nb0) :: (.ref nb1) :: (.ref nb2) :: (.int (nI nf)) :: (.int (nI bd)) :: (.int (nI mm)) :: (.int v33) :: (.ref pl) :: (.ref se) :: (.ref ke) :: (.ref wi) :: (.ref hs) :: (.ref mo) :: (.ref po) :: (.ref nu) :: (.ref pr) :: (.ref sq) :: (.ref xa) :: (.ref sa) :: (.ref n64) :: (.ref m64) :: (.ref ex) :: (.ref wh) :: (.ref sd) :: (.ref tk) :: (.int v52) :: (.int v53) :: (.int v54) :: (.ref hd) :: (.ref ak) :: (.ref ho) :: (.ref ot) :: [])) ∧ va_P (dC, dI) vwCl (va_pl L G) H ∧ va_D A (va_pl L G) ∧ OKm cs ty gm L G ∧ FR ty [ρ] F G := ⟨_, rfl, hP, hD, hO.up (shm.mod hT_h0 ⟨v14, v15, q17, q18, (nI (kk + 9)), q20, q21, q22, v33, v52, v53, v54, rfl, (by first | omega | assumption | exact Or.inl rfl | exact Or.inr rfl), (by first | omega | assumption | exact Or.inl rfl | exact Or.inr rfl), (by first | omega | assumption | exact Or.inl rfl | exact Or.inr rfl), (by first | omega | assumption | exact Or.inl rfl | exact Or.inr rfl), (by first | omega | assumption | exact Or.inl rfl | exact Or.inr rfl)⟩), hR.up hT_h0 (by simp)⟩
              have hF_145 : F_143 h0 = .inr (15, (.ref ta) :: (.int (nI zt)) :: (.int (nI zo)) :: (.int (nI ze)) :: (.ref ou) :: (.ref so) :: (.ref ad) :: (.ref na) :: (.ref va) :: (.ref lc) :: (.ref dm) :: (.int (nI fm)) :: (.int (nI sn)) :: (.ref tg) :: (.int v14) :: (.int v15) :: (.ref pe) :: (.int q17) :: (.int q18) :: (.int (nI (kk + 9))) :: (.int q20) :: (.int q21) :: (.int q22) :: (.ref ml) :: (.ref bg) :: (.ref co) :: (.ref sp) :: (.ref nb0) :: (.ref nb1) :: (.ref nb2) :: (.int (nI nf)) :: (.int (nI bd)) :: (.int (nI mm)) :: (.int v33) :: (.ref pl) :: (.ref se) :: (.ref ke) :: (.ref wi) :: (.ref hs) :: (.ref mo) :: (.ref po) :: (.ref nu) :: (.ref pr) :: (.ref sq) :: (.ref xa) :: (.ref sa) :: (.ref n64) :: (.ref m64) :: (.ref ex) :: (.ref wh) :: (.ref sd) :: (.ref tk) :: (.int v52) :: (.int v53) :: (.int v54) :: (.ref hd) :: (.ref ak) :: (.ref ho) :: (.ref ot) :: []) := by rw [he_144]; exact up_self
              have hF_146 : F_143 g1 = .inl (cs 17, 700, .inl fv) := by rw [he_144, up_ne (ne_ty hT_g1 hT_h0 (by simp))]; exact hF_63
              refine lv_aload_n hx hb dX15_readTerm_429 rfl (lv_at hl 2 rfl) ?_
              refine lv_iload_n hx hb dX15_readTerm_430 rfl (lv_at hl 5 rfl) ?_
              refine pg_put (ci := 15) (v := .int (nI tt)) (ty := .int) (C := RX15) (T := TX15) (N := 59) hx hb hts it_15 tyX15 tyX15_ok nmX15 hown hK hP hD hS hL_h0 hF_145 rfl 20 (by decide) (hts _ kt_752) (fun _ h9 => h9) rfl (by decide +kernel) (rfl) (rfl) (Nat.le_of_ble_eq_true rfl) dX15_readTerm_431 (fun H locs hP hD hS => ?_)
              obtain ⟨F_147, he_148, hP, hD, hO, hR⟩ : ∃ G, G = va_up F_143 h0 (.inr (15, (.ref ta) :: (.int (nI zt)) :: (.int (nI zo)) :: (.int (nI ze)) :: (.ref ou) :: (.ref so) :: (.ref ad) :: (.ref na) :: (.ref va) :: (.ref lc) :: (.ref dm) :: (.int (nI fm)) :: (.int (nI sn)) :: (.ref tg) :: (.int v14) :: (.int v15) :: (.ref pe) :: (.int q17) :: (.int q18) :: (.int (nI (kk + 9))) :: (.int (nI tt)) :: (.int q21) :: (.int q22) :: (.ref ml) :: (.ref bg) :: (.ref co) :: (.ref sp) :: (.ref nb0) :: (.ref nb1) :: (.ref nb2) :: (.int (nI nf)) :: (.int (nI bd)) :: (.int (nI mm)) :: (.int v33) :: (.ref pl) :: (.ref se) :: (.ref ke) :: (.ref wi) :: (.ref hs) :: (.ref mo) :: (.ref po) :: (.ref nu) :: (.ref pr) :: (.ref sq) :: (.ref xa) :: (.ref sa) :: (.ref n64) :: (.ref m64) :: (.ref ex) :: (.ref wh) :: (.ref sd) :: (.ref tk) :: (.int v52) :: (.int v53) :: (.int v54) :: (.ref hd) :: (.ref ak) :: (.ref ho) :: (.ref ot) :: [])) ∧ va_P (dC, dI) vwCl (va_pl L G) H ∧ va_D A (va_pl L G) ∧ OKm cs ty gm L G ∧ FR ty [ρ] F G := ⟨_, rfl, hP, hD, hO.up (shm.mod hT_h0 ⟨v14, v15, q17, q18, (nI (kk + 9)), (nI tt), q21, q22, v33, v52, v53, v54, rfl, (by first | omega | assumption | exact Or.inl rfl | exact Or.inr rfl), (by first | omega | assumption | exact Or.inl rfl | exact Or.inr rfl), (by first | omega | assumption | exact Or.inl rfl | exact Or.inr rfl), (by first | omega | assumption | exact Or.inl rfl | exact Or.inr rfl), (by first | omega | assumption | exact Or.inl rfl | exact Or.inr rfl)⟩), hR.up hT_h0 (by simp)⟩
              have hF_149 : F_147 h0 = .inr (15, (.ref ta) :: (.int (nI zt)) :: (.int (nI zo)) :: (.int (nI ze)) :: (.ref ou) :: (.ref so) :: (.ref ad) :: (.ref na) :: (.ref va) :: (.ref lc) :: (.ref dm) :: (.int (nI fm)) :: (.int (nI sn)) :: (.ref tg) :: (.int v14) :: (.int v15) :: (.ref pe) :: (.int q17) :: (.int q18) :: (.int (nI (kk + 9))) :: (.int (nI tt)) :: (.int q21) :: (.int q22) :: (.ref ml) :: (.ref bg) :: (.ref co) :: (.ref sp) :: (.ref nb0) :: (.ref nb1) :: (.ref nb2) :: (.int (nI nf)) :: (.int (nI bd)) :: (.int (nI mm)) :: (.int v33) :: (.ref pl) :: (.ref se) :: (.ref ke) :: (.ref wi) :: (.ref hs) :: (.ref mo) :: (.ref po) :: (.ref nu) :: (.ref pr) :: (.ref sq) :: (.ref xa) :: (.ref sa) :: (.ref n64) :: (.ref m64) :: (.ref ex) :: (.ref wh) :: (.ref sd) :: (.ref tk) :: (.int v52) :: (.int v53) :: (.int v54) :: (.ref hd) :: (.ref ak) :: (.ref ho) :: (.ref ot) :: []) := by rw [he_148]; exact up_self
              have hF_150 : F_147 g1 = .inl (cs 17, 700, .inl fv) := by rw [he_148, up_ne (ne_ty hT_g1 hT_h0 (by simp))]; exact hF_146
              refine lv_aload_n hx hb dX15_readTerm_434 rfl (lv_at hl 3 rfl) ?_
              refine lv_aload_n hx hb dX15_readTerm_435 rfl (lv_at hl 2 rfl) ?_
              refine pg_get (ci := 15) (v := .int (nI (kk + 9))) (C := RX15) (T := TX15) (N := 59) hx hb hts it_15 hown hK hP hL_h0 hF_149 rfl 19 (by decide) (hts _ kt_751) (fun _ h9 => h9) rfl dX15_readTerm_436 ?_
              refine lv_aload_n hx hb dX15_readTerm_439 rfl (lv_at hl 2 rfl) ?_
              refine pg_get (ci := 15) (v := .int (nI tt)) (C := RX15) (T := TX15) (N := 59) hx hb hts it_15 hown hK hP hL_h0 hF_149 rfl 20 (by decide) (hts _ kt_752) (fun _ h9 => h9) rfl dX15_readTerm_440 ?_
              refine lv_iconst (v := 1) hx hb dX15_readTerm_443 (by decide) ?_
              have hFc := pg_free hD hS hA
              refine va_calli (va_runS (As := [.ref g1, .int (nI (kk + 9)), .int (nI tt), .int 1]) (rest := []) ⟨hx, hb, hml, hown, hts⟩ (s_X15_isD l dC dI cs ty gm L H.size F_147 g1 μ 700 (kk + 9) tt 1 hW hL_g1 hT_g1 (by first | omega | assumption | exact Or.inl rfl) (by first | omega | assumption | exact Or.inl rfl)) ⟨callB_of 4 hts (gi kt_753) rfl rfl rfl (hts _ kt_669) (hts _ kt_754) (by decide +kernel) ⟨Nat.le_of_ble_eq_true rfl, Nat.le_of_ble_eq_true rfl⟩, (hts _ kt_755)⟩ ⟨fun a U g mk q => ⟨q.1, PTm.calling q.2⟩, fun U hU hWm => ⟨rfl, PTm.mk hU hWm hP hK hD hE hO⟩⟩ rfl rfl hl.1 rfl (lv_room (Nat.le_of_ble_eq_true rfl)) dX15_readTerm_444 ⟨by show _ + 0 ≤ 0; omega, by show _ + 0 ≤ 0; omega⟩) hS (fun q _ h => hFc q h) hFc (fun r_151 u t H1 locs ht hvm hw hB hz1 hk1 hS => ?_)
              obtain ⟨F_152, hB1⟩ := hB
              obtain rfl : F_147 = F_152 := (funext (fun a => hB1.2.2.2 a List.not_mem_nil)).symm
              obtain ⟨hP, hD, hO, hR⟩ := QTm.back hB1 ht hFc hR (fun q h => absurd h List.not_mem_nil)
              generalize H1 = H at hP hS ⊢
              have hw : (r_151 = 0 ∨ (r_151 = 1 ∧ (kk + 9) < tt ∧ ISD (gA (F_147 g1)) tt (kk + 9))) := hw
              have hw_153 := hw
              refine lv_if_eq (tgt := 456) hx hb dX15_readTerm_447 (by decide) (fun c_154 => ?_) (fun c_154 => ?_)
              ·
                refine W.widen (k := 0) (n := 0) (by omega) (by omega) ?_
                exact W.vret hx hb hr (fun t ht hWm => ⟨⟨(), rfl, trivial, ⟨F_147, q17, q18, (nI (kk + 9)), (nI tt), q21, q22, QTm.mk ht hP hD hO hR, hF_149, ⟨Or.inr (Or.inr (Or.inl c_64)), fun h6 => absurd (c_64.symm.trans h6) (by decide), fun _ => ⟨by rw [hk3a hs5z], rfl⟩⟩⟩⟩, hS.F ht⟩) hS.2.2 dX15_readTerm_456
              ·
                refine lv_aload_n hx hb dX15_readTerm_450 rfl (lv_at hl 2 rfl) ?_
                refine lv_bipush (v := 6) hx hb dX15_readTerm_451 (by decide) ?_
                refine pg_put (ci := 15) (v := .int 6) (ty := .int) (C := RX15) (T := TX15) (N := 59) hx hb hts it_15 tyX15 tyX15_ok nmX15 hown hK hP hD hS hL_h0 hF_149 rfl 17 (by decide) (hts _ kt_750) (fun _ h9 => h9) rfl (by decide +kernel) (rfl) (rfl) (Nat.le_of_ble_eq_true rfl) dX15_readTerm_453 (fun H locs hP hD hS => ?_)
                obtain ⟨F_155, he_156, hP, hD, hO, hR⟩ : ∃ G, G = va_up F_147 h0 (.inr (15, (.ref ta) :: (.int (nI zt)) :: (.int (nI zo)) :: (.int (nI ze)) :: (.ref ou) :: (.ref so) :: (.ref ad) :: (.ref na) :: (.ref va) :: (.ref lc) :: (.ref dm) :: (.int (nI fm)) :: (.int (nI sn)) :: (.ref tg) :: (.int v14) :: (.int v15) :: (.ref pe) :: (.int 6) :: (.int q18) :: (.int (nI (kk + 9))) :: (.int (nI tt)) :: (.int q21) :: (.int q22) :: (.ref ml) :: (.ref bg) :: (.ref co) :: (.ref sp) :: (.ref nb0) :: (.ref nb1) :: (.ref nb2) :: (.int (nI nf)) :: (.int (nI bd)) :: (.int (nI mm)) :: (.int v33) :: (.ref pl) :: (.ref se) :: (.ref ke) :: (.ref wi) :: (.ref hs) :: (.ref mo) :: (.ref po) :: (.ref nu) :: (.ref pr) :: (.ref sq) :: (.ref xa) :: (.ref sa) :: (.ref n64) :: (.ref m64) :: (.ref ex) :: (.ref wh) :: (.ref sd) :: (.ref tk) :: (.int v52) :: (.int v53) :: (.int v54) :: (.ref hd) :: (.ref ak) :: (.ref ho) :: (.ref ot) :: [])) ∧ va_P (dC, dI) vwCl (va_pl L G) H ∧ va_D A (va_pl L G) ∧ OKm cs ty gm L G ∧ FR ty [ρ] F G := ⟨_, rfl, hP, hD, hO.up (shm.mod hT_h0 ⟨v14, v15, 6, q18, (nI (kk + 9)), (nI tt), q21, q22, v33, v52, v53, v54, rfl, (by first | omega | assumption | exact Or.inl rfl | exact Or.inr rfl), (by first | omega | assumption | exact Or.inl rfl | exact Or.inr rfl), (by first | omega | assumption | exact Or.inl rfl | exact Or.inr rfl), (by first | omega | assumption | exact Or.inl rfl | exact Or.inr rfl), (by first | omega | assumption | exact Or.inl rfl | exact Or.inr rfl)⟩), hR.up hT_h0 (by simp)⟩
                have hF_157 : F_155 h0 = .inr (15, (.ref ta) :: (.int (nI zt)) :: (.int (nI zo)) :: (.int (nI ze)) :: (.ref ou) :: (.ref so) :: (.ref ad) :: (.ref na) :: (.ref va) :: (.ref lc) :: (.ref dm) :: (.int (nI fm)) :: (.int (nI sn)) :: (.ref tg) :: (.int v14) :: (.int v15) :: (.ref pe) :: (.int 6) :: (.int q18) :: (.int (nI (kk + 9))) :: (.int (nI tt)) :: (.int q21) :: (.int q22) :: (.ref ml) :: (.ref bg) :: (.ref co) :: (.ref sp) :: (.ref nb0) :: (.ref nb1) :: (.ref nb2) :: (.int (nI nf)) :: (.int (nI bd)) :: (.int (nI mm)) :: (.int v33) :: (.ref pl) :: (.ref se) :: (.ref ke) :: (.ref wi) :: (.ref hs) :: (.ref mo) :: (.ref po) :: (.ref nu) :: (.ref pr) :: (.ref sq) :: (.ref xa) :: (.ref sa) :: (.ref n64) :: (.ref m64) :: (.ref ex) :: (.ref wh) :: (.ref sd) :: (.ref tk) :: (.int v52) :: (.int v53) :: (.int v54) :: (.ref hd) :: (.ref ak) :: (.ref ho) :: (.ref ot) :: []) := by rw [he_156]; exact up_self
                have hF_158 : F_155 g1 = .inl (cs 17, 700, .inl fv) := by rw [he_156, up_ne (ne_ty hT_g1 hT_h0 (by simp))]; exact hF_150
                refine W.widen (k := 0) (n := 0) (by omega) (by omega) ?_
                exact W.vret hx hb hr (fun t ht hWm => ⟨⟨(), rfl, trivial, ⟨F_155, 6, q18, (nI (kk + 9)), (nI tt), q21, q22, QTm.mk ht hP hD hO hR, hF_157, ⟨Or.inl rfl, fun _ => ⟨(by have h8 := nm1 hw_72 c_73; rw [gA_fun hF_63] at h8; rw [hk3a hs5z] at h8; exact h8), (by have h9 := (bit1 hw_153 c_154).2; rw [gA_fun hF_150] at h9; rw [hk3a hs5z] at h9; exact h9)⟩, fun _ => ⟨by rw [hk3a hs5z], rfl⟩⟩⟩⟩, hS.F ht⟩) hS.2.2 dX15_readTerm_456
          ·
            refine W.widen (k := 0) (n := 0) (by omega) (by omega) ?_
            exact W.vret hx hb hr (fun t ht hWm => ⟨⟨(), rfl, trivial, ⟨F_60, q17, q18, q19, q20, q21, q22, QTm.mk ht hP hD hO hR, hq1, ⟨Or.inr (Or.inr (Or.inl c_64)), fun h6 => absurd (c_64.symm.trans h6) (by decide), fun h9 => (hs5.elim (fun h5 => absurd h5 c_65) (fun h => absurd h9.c0 h.2))⟩⟩⟩, hS.F ht⟩) hS.2.2 dX15_readTerm_406
      ·
        refine lv_aload_n hx hb dX15_readTerm_90 rfl (lv_at hl 3 rfl) ?_
        refine lv_iload hx hb dX15_readTerm_91 (lv_at hl 1 rfl) ?_
        refine lv_iload_n hx hb dX15_readTerm_93 rfl (lv_at hl 5 rfl) ?_
        obtain ⟨q_159, v_160, hr_q_159, hX_q_159⟩ := hG.2.2 ("PostGateModel", 250, "all", [97, 108, 108]) (by decide +kernel)
        have hX_q_159 : SXc q_159 v_160 3 (cct [97, 108, 108]) A s s.heap := hX_q_159
        obtain ⟨xo_q_159, xc_q_159, xv_q_159, xt_q_159, xn_q_159⟩ := id hX_q_159
        have hr_q_159 : vk_R "PostGateModel" 250 "all" q_159 s := hr_q_159
        refine va_ldcS hx hb hown hr_q_159 dX15_readTerm_94 ?_
        obtain ⟨hq_161, hq_162⟩ := hW.octs hL_g1 hT_g1
        have hFc := pg_free hD hS hA
        refine va_calli (va_runS (As := [.ref g1, .int (nI kk), .int (nI tt), .ref q_159]) (rest := []) ⟨hx, hb, hml, hown, hts⟩ (s_X15_is l dC dI cs ty gm L H.size F_55 g1 μ 700 q_159 v_160 3 (cct [97, 108, 108]) kk tt hW hL_g1 hT_g1 (by first | omega | assumption | exact Or.inl rfl) (by first | omega | assumption | exact Or.inl rfl)) ⟨callB_of 4 hts (gi kt_694) rfl rfl rfl (hts _ kt_669) (hts _ kt_695) (by decide +kernel) ⟨Nat.le_of_ble_eq_true rfl, Nat.le_of_ble_eq_true rfl⟩, (hts _ kt_696)⟩ ⟨fun a U g mk q => ⟨q.1, PTEm.calling q.2⟩, fun U hU hWm => ⟨rfl, PTEm.mk hU hWm hP hK hD hE hO hG (fun x hx => by rw [List.mem_singleton] at hx; subst hx; exact hX_q_159) hS hFc⟩⟩ rfl rfl hl.1 rfl (lv_room (Nat.le_of_ble_eq_true rfl)) dX15_readTerm_96 ⟨by show _ + 0 ≤ 0; omega, by show _ + 0 ≤ 0; omega⟩) hS (fun q _ h => hFc q h) hFc (fun r_163 u t H1 locs ht hvm hw hB hz1 hk1 hS => ?_)
        obtain ⟨F_164, hB1⟩ := hB
        obtain rfl : F_55 = F_164 := (funext (fun a => hB1.2.2.2 a List.not_mem_nil)).symm
        obtain ⟨hP, hD, hO, hR⟩ := QTm.back hB1 ht hFc hR (fun q h => absurd h List.not_mem_nil)
        generalize H1 = H at hP hS ⊢
        have hw : ((r_163 = 1 ∧ isP (gA (F_55 g1)) kk tt (cct [97, 108, 108]) 3) ∨ (r_163 = 0 ∧ ¬ isP (gA (F_55 g1)) kk tt (cct [97, 108, 108]) 3)) := hw
        have hw_165 := hw
        refine lv_if_eq (tgt := 110) hx hb dX15_readTerm_99 (by decide) (fun c_166 => ?_) (fun c_166 => ?_)
        ·
          refine lv_aload_n hx hb dX15_readTerm_110 rfl (lv_at hl 3 rfl) ?_
          refine lv_iload hx hb dX15_readTerm_111 (lv_at hl 1 rfl) ?_
          refine lv_iload_n hx hb dX15_readTerm_113 rfl (lv_at hl 5 rfl) ?_
          obtain ⟨q_167, v_168, hr_q_167, hX_q_167⟩ := hG.2.2 ("PostGateModel", 252, "include:", [105, 110, 99, 108, 117, 100, 101, 58]) (by decide +kernel)
          have hX_q_167 : SXc q_167 v_168 8 (cct [105, 110, 99, 108, 117, 100, 101, 58]) A s s.heap := hX_q_167
          obtain ⟨xo_q_167, xc_q_167, xv_q_167, xt_q_167, xn_q_167⟩ := id hX_q_167
          have hr_q_167 : vk_R "PostGateModel" 252 "include:" q_167 s := hr_q_167
          refine va_ldcS hx hb hown hr_q_167 dX15_readTerm_114 ?_
          have hFc := pg_free hD hS hA
          refine va_calli (va_runS (As := [.ref g1, .int (nI kk), .int (nI tt), .ref q_167]) (rest := []) ⟨hx, hb, hml, hown, hts⟩ (s_X15_begins l dC dI cs ty gm L H.size F_55 g1 μ 700 q_167 v_168 8 (cct [105, 110, 99, 108, 117, 100, 101, 58]) kk tt hW hL_g1 hT_g1 (by first | omega | assumption | exact Or.inl rfl) (by first | omega | assumption | exact Or.inl rfl)) ⟨callB_of 4 hts (gi kt_733) rfl rfl rfl (hts _ kt_669) (hts _ kt_734) (by decide +kernel) ⟨Nat.le_of_ble_eq_true rfl, Nat.le_of_ble_eq_true rfl⟩, (hts _ kt_735)⟩ ⟨fun a U g mk q => ⟨q.1, PTEm.calling q.2⟩, fun U hU hWm => ⟨rfl, PTEm.mk hU hWm hP hK hD hE hO hG (fun x hx => by rw [List.mem_singleton] at hx; subst hx; exact hX_q_167) hS hFc⟩⟩ rfl rfl hl.1 rfl (lv_room (Nat.le_of_ble_eq_true rfl)) dX15_readTerm_116 ⟨by show _ + 0 ≤ 0; omega, by show _ + 0 ≤ 0; omega⟩) hS (fun q _ h => hFc q h) hFc (fun r_169 u t H1 locs ht hvm hw hB hz1 hk1 hS => ?_)
          obtain ⟨F_170, hB1⟩ := hB
          obtain rfl : F_55 = F_170 := (funext (fun a => hB1.2.2.2 a List.not_mem_nil)).symm
          obtain ⟨hP, hD, hO, hR⟩ := QTm.back hB1 ht hFc hR (fun q h => absurd h List.not_mem_nil)
          generalize H1 = H at hP hS ⊢
          have hw : ((r_169 = 1 ∧ bgP (gA (F_55 g1)) kk tt (cct [105, 110, 99, 108, 117, 100, 101, 58]) 8) ∨ (r_169 = 0 ∧ ¬ bgP (gA (F_55 g1)) kk tt (cct [105, 110, 99, 108, 117, 100, 101, 58]) 8)) := hw
          have hw_171 := hw
          refine lv_if_eq (tgt := 160) hx hb dX15_readTerm_119 (by decide) (fun c_172 => ?_) (fun c_172 => ?_)
          ·
            refine lv_aload_n hx hb dX15_readTerm_160 rfl (lv_at hl 3 rfl) ?_
            refine lv_iload hx hb dX15_readTerm_161 (lv_at hl 1 rfl) ?_
            refine lv_iload_n hx hb dX15_readTerm_163 rfl (lv_at hl 5 rfl) ?_
            obtain ⟨q_173, v_174, hr_q_173, hX_q_173⟩ := hG.2.2 ("PostGateModel", 261, "exists:", [101, 120, 105, 115, 116, 115, 58]) (by decide +kernel)
            have hX_q_173 : SXc q_173 v_174 7 (cct [101, 120, 105, 115, 116, 115, 58]) A s s.heap := hX_q_173
            obtain ⟨xo_q_173, xc_q_173, xv_q_173, xt_q_173, xn_q_173⟩ := id hX_q_173
            have hr_q_173 : vk_R "PostGateModel" 261 "exists:" q_173 s := hr_q_173
            refine va_ldcwS hx hb hown hr_q_173 dX15_readTerm_164 ?_
            have hFc := pg_free hD hS hA
            refine va_calli (va_runS (As := [.ref g1, .int (nI kk), .int (nI tt), .ref q_173]) (rest := []) ⟨hx, hb, hml, hown, hts⟩ (s_X15_begins l dC dI cs ty gm L H.size F_55 g1 μ 700 q_173 v_174 7 (cct [101, 120, 105, 115, 116, 115, 58]) kk tt hW hL_g1 hT_g1 (by first | omega | assumption | exact Or.inl rfl) (by first | omega | assumption | exact Or.inl rfl)) ⟨callB_of 4 hts (gi kt_733) rfl rfl rfl (hts _ kt_669) (hts _ kt_734) (by decide +kernel) ⟨Nat.le_of_ble_eq_true rfl, Nat.le_of_ble_eq_true rfl⟩, (hts _ kt_735)⟩ ⟨fun a U g mk q => ⟨q.1, PTEm.calling q.2⟩, fun U hU hWm => ⟨rfl, PTEm.mk hU hWm hP hK hD hE hO hG (fun x hx => by rw [List.mem_singleton] at hx; subst hx; exact hX_q_173) hS hFc⟩⟩ rfl rfl hl.1 rfl (lv_room (Nat.le_of_ble_eq_true rfl)) dX15_readTerm_167 ⟨by show _ + 0 ≤ 0; omega, by show _ + 0 ≤ 0; omega⟩) hS (fun q _ h => hFc q h) hFc (fun r_175 u t H1 locs ht hvm hw hB hz1 hk1 hS => ?_)
            obtain ⟨F_176, hB1⟩ := hB
            obtain rfl : F_55 = F_176 := (funext (fun a => hB1.2.2.2 a List.not_mem_nil)).symm
            obtain ⟨hP, hD, hO, hR⟩ := QTm.back hB1 ht hFc hR (fun q h => absurd h List.not_mem_nil)
            generalize H1 = H at hP hS ⊢
            have hw : ((r_175 = 1 ∧ bgP (gA (F_55 g1)) kk tt (cct [101, 120, 105, 115, 116, 115, 58]) 7) ∨ (r_175 = 0 ∧ ¬ bgP (gA (F_55 g1)) kk tt (cct [101, 120, 105, 115, 116, 115, 58]) 7)) := hw
            have hw_177 := hw
            refine lv_if_eq (tgt := 211) hx hb dX15_readTerm_170 (by decide) (fun c_178 => ?_) (fun c_178 => ?_)
            ·
              refine lv_aload_n hx hb dX15_readTerm_211 rfl (lv_at hl 3 rfl) ?_
              refine lv_iload hx hb dX15_readTerm_212 (lv_at hl 1 rfl) ?_
              refine lv_iload_n hx hb dX15_readTerm_214 rfl (lv_at hl 5 rfl) ?_
              obtain ⟨q_179, v_180, hr_q_179, hX_q_179⟩ := hG.2.2 ("PostGateModel", 263, "ip4:", [105, 112, 52, 58]) (by decide +kernel)
              have hX_q_179 : SXc q_179 v_180 4 (cct [105, 112, 52, 58]) A s s.heap := hX_q_179
              obtain ⟨xo_q_179, xc_q_179, xv_q_179, xt_q_179, xn_q_179⟩ := id hX_q_179
              have hr_q_179 : vk_R "PostGateModel" 263 "ip4:" q_179 s := hr_q_179
              refine va_ldcwS hx hb hown hr_q_179 dX15_readTerm_215 ?_
              have hFc := pg_free hD hS hA
              refine va_calli (va_runS (As := [.ref g1, .int (nI kk), .int (nI tt), .ref q_179]) (rest := []) ⟨hx, hb, hml, hown, hts⟩ (s_X15_begins l dC dI cs ty gm L H.size F_55 g1 μ 700 q_179 v_180 4 (cct [105, 112, 52, 58]) kk tt hW hL_g1 hT_g1 (by first | omega | assumption | exact Or.inl rfl) (by first | omega | assumption | exact Or.inl rfl)) ⟨callB_of 4 hts (gi kt_733) rfl rfl rfl (hts _ kt_669) (hts _ kt_734) (by decide +kernel) ⟨Nat.le_of_ble_eq_true rfl, Nat.le_of_ble_eq_true rfl⟩, (hts _ kt_735)⟩ ⟨fun a U g mk q => ⟨q.1, PTEm.calling q.2⟩, fun U hU hWm => ⟨rfl, PTEm.mk hU hWm hP hK hD hE hO hG (fun x hx => by rw [List.mem_singleton] at hx; subst hx; exact hX_q_179) hS hFc⟩⟩ rfl rfl hl.1 rfl (lv_room (Nat.le_of_ble_eq_true rfl)) dX15_readTerm_218 ⟨by show _ + 0 ≤ 0; omega, by show _ + 0 ≤ 0; omega⟩) hS (fun q _ h => hFc q h) hFc (fun r_181 u t H1 locs ht hvm hw hB hz1 hk1 hS => ?_)
              obtain ⟨F_182, hB1⟩ := hB
              obtain rfl : F_55 = F_182 := (funext (fun a => hB1.2.2.2 a List.not_mem_nil)).symm
              obtain ⟨hP, hD, hO, hR⟩ := QTm.back hB1 ht hFc hR (fun q h => absurd h List.not_mem_nil)
              generalize H1 = H at hP hS ⊢
              have hw : ((r_181 = 1 ∧ bgP (gA (F_55 g1)) kk tt (cct [105, 112, 52, 58]) 4) ∨ (r_181 = 0 ∧ ¬ bgP (gA (F_55 g1)) kk tt (cct [105, 112, 52, 58]) 4)) := hw
              have hw_183 := hw
              refine lv_if_eq (tgt := 281) hx hb dX15_readTerm_221 (by decide) (fun c_184 => ?_) (fun c_184 => ?_)
              ·
                refine lv_aload_n hx hb dX15_readTerm_281 rfl (lv_at hl 3 rfl) ?_
                refine lv_iload hx hb dX15_readTerm_282 (lv_at hl 1 rfl) ?_
                refine lv_iload_n hx hb dX15_readTerm_284 rfl (lv_at hl 5 rfl) ?_
                obtain ⟨q_185, v_186, hr_q_185, hX_q_185⟩ := hG.2.2 ("PostGateModel", 274, "a", [97]) (by decide +kernel)
                have hX_q_185 : SXc q_185 v_186 1 (cct [97]) A s s.heap := hX_q_185
                obtain ⟨xo_q_185, xc_q_185, xv_q_185, xt_q_185, xn_q_185⟩ := id hX_q_185
                have hr_q_185 : vk_R "PostGateModel" 274 "a" q_185 s := hr_q_185
                refine va_ldcwS hx hb hown hr_q_185 dX15_readTerm_285 ?_
                have hFc := pg_free hD hS hA
                refine va_calli (va_runS (As := [.ref g1, .int (nI kk), .int (nI tt), .ref q_185]) (rest := []) ⟨hx, hb, hml, hown, hts⟩ (s_X15_begins l dC dI cs ty gm L H.size F_55 g1 μ 700 q_185 v_186 1 (cct [97]) kk tt hW hL_g1 hT_g1 (by first | omega | assumption | exact Or.inl rfl) (by first | omega | assumption | exact Or.inl rfl)) ⟨callB_of 4 hts (gi kt_733) rfl rfl rfl (hts _ kt_669) (hts _ kt_734) (by decide +kernel) ⟨Nat.le_of_ble_eq_true rfl, Nat.le_of_ble_eq_true rfl⟩, (hts _ kt_735)⟩ ⟨fun a U g mk q => ⟨q.1, PTEm.calling q.2⟩, fun U hU hWm => ⟨rfl, PTEm.mk hU hWm hP hK hD hE hO hG (fun x hx => by rw [List.mem_singleton] at hx; subst hx; exact hX_q_185) hS hFc⟩⟩ rfl rfl hl.1 rfl (lv_room (Nat.le_of_ble_eq_true rfl)) dX15_readTerm_288 ⟨by show _ + 0 ≤ 0; omega, by show _ + 0 ≤ 0; omega⟩) hS (fun q _ h => hFc q h) hFc (fun r_187 u t H1 locs ht hvm hw hB hz1 hk1 hS => ?_)
                obtain ⟨F_188, hB1⟩ := hB
                obtain rfl : F_55 = F_188 := (funext (fun a => hB1.2.2.2 a List.not_mem_nil)).symm
                obtain ⟨hP, hD, hO, hR⟩ := QTm.back hB1 ht hFc hR (fun q h => absurd h List.not_mem_nil)
                generalize H1 = H at hP hS ⊢
                have hw : ((r_187 = 1 ∧ bgP (gA (F_55 g1)) kk tt (cct [97]) 1) ∨ (r_187 = 0 ∧ ¬ bgP (gA (F_55 g1)) kk tt (cct [97]) 1)) := hw
                have hw_189 := hw
                refine lv_if_eq (tgt := 338) hx hb dX15_readTerm_291 (by decide) (fun c_190 => ?_) (fun c_190 => ?_)
                ·
                  refine lv_aload_n hx hb dX15_readTerm_338 rfl (lv_at hl 3 rfl) ?_
                  refine lv_iload hx hb dX15_readTerm_339 (lv_at hl 1 rfl) ?_
                  refine lv_iload_n hx hb dX15_readTerm_341 rfl (lv_at hl 5 rfl) ?_
                  obtain ⟨q_191, v_192, hr_q_191, hX_q_191⟩ := hG.2.2 ("PostGateModel", 280, "mx", [109, 120]) (by decide +kernel)
                  have hX_q_191 : SXc q_191 v_192 2 (cct [109, 120]) A s s.heap := hX_q_191
                  obtain ⟨xo_q_191, xc_q_191, xv_q_191, xt_q_191, xn_q_191⟩ := id hX_q_191
                  have hr_q_191 : vk_R "PostGateModel" 280 "mx" q_191 s := hr_q_191
                  refine va_ldcwS hx hb hown hr_q_191 dX15_readTerm_342 ?_
                  have hFc := pg_free hD hS hA
                  refine va_calli (va_runS (As := [.ref g1, .int (nI kk), .int (nI tt), .ref q_191]) (rest := []) ⟨hx, hb, hml, hown, hts⟩ (s_X15_begins l dC dI cs ty gm L H.size F_55 g1 μ 700 q_191 v_192 2 (cct [109, 120]) kk tt hW hL_g1 hT_g1 (by first | omega | assumption | exact Or.inl rfl) (by first | omega | assumption | exact Or.inl rfl)) ⟨callB_of 4 hts (gi kt_733) rfl rfl rfl (hts _ kt_669) (hts _ kt_734) (by decide +kernel) ⟨Nat.le_of_ble_eq_true rfl, Nat.le_of_ble_eq_true rfl⟩, (hts _ kt_735)⟩ ⟨fun a U g mk q => ⟨q.1, PTEm.calling q.2⟩, fun U hU hWm => ⟨rfl, PTEm.mk hU hWm hP hK hD hE hO hG (fun x hx => by rw [List.mem_singleton] at hx; subst hx; exact hX_q_191) hS hFc⟩⟩ rfl rfl hl.1 rfl (lv_room (Nat.le_of_ble_eq_true rfl)) dX15_readTerm_345 ⟨by show _ + 0 ≤ 0; omega, by show _ + 0 ≤ 0; omega⟩) hS (fun q _ h => hFc q h) hFc (fun r_193 u t H1 locs ht hvm hw hB hz1 hk1 hS => ?_)
                  obtain ⟨F_194, hB1⟩ := hB
                  obtain rfl : F_55 = F_194 := (funext (fun a => hB1.2.2.2 a List.not_mem_nil)).symm
                  obtain ⟨hP, hD, hO, hR⟩ := QTm.back hB1 ht hFc hR (fun q h => absurd h List.not_mem_nil)
                  generalize H1 = H at hP hS ⊢
                  have hw : ((r_193 = 1 ∧ bgP (gA (F_55 g1)) kk tt (cct [109, 120]) 2) ∨ (r_193 = 0 ∧ ¬ bgP (gA (F_55 g1)) kk tt (cct [109, 120]) 2)) := hw
                  have hw_195 := hw
                  refine lv_if_eq (tgt := 392) hx hb dX15_readTerm_348 (by decide) (fun c_196 => ?_) (fun c_196 => ?_)
                  ·
                    refine W.widen (k := 0) (n := 0) (by omega) (by omega) ?_
                    exact jn_59 (8, (-1), (-1), 32, v22) F_55 (⟨hk4a, Or.inl rfl, fun _ _ => rfl⟩) hO hR _ _ hP hD hS ls (lv_sub hl [0, 1, 2, 3, 4, 5] rfl)
                  ·
                    have hb345 := (nm1 hw_195 c_196).1
                    refine lv_iload_n hx hb dX15_readTerm_351 rfl (lv_at hl 5 rfl) ?_
                    refine lv_iload hx hb dX15_readTerm_352 (lv_at hl 1 rfl) ?_
                    refine lv_iconst (v := 2) hx hb dX15_readTerm_354 (by decide) ?_
                    refine lv_iadd hx hb dX15_readTerm_355 ?_
                    refine lv_topi (fun x_197 ex_197 => ?_)
                    obtain rfl : x_197 = (nI (kk + 2)) := ex_197.trans (nI_add kk 2)
                    refine lv_icmp_eq (tgt := 381) hx hb dX15_readTerm_356 (by decide) (fun c_198 => ?_) (fun c_198 => ?_)
                    ·
                      have hi_199 : tt = (kk + 2) := (nI_eq (a := tt) (b := (kk + 2)) (by omega) (by omega)).mp c_198
                      refine lv_aload_n hx hb dX15_readTerm_381 rfl (lv_at hl 2 rfl) ?_
                      refine lv_aload_n hx hb dX15_readTerm_382 rfl (lv_at hl 3 rfl) ?_
                      refine lv_iload hx hb dX15_readTerm_383 (lv_at hl 1 rfl) ?_
                      refine lv_iconst (v := 2) hx hb dX15_readTerm_385 (by decide) ?_
                      refine lv_iadd hx hb dX15_readTerm_386 ?_
                      refine lv_topi (fun x_200 ex_200 => ?_)
                      obtain rfl : x_200 = (nI (kk + 2)) := ex_200.trans (nI_add kk 2)
                      refine lv_iload_n hx hb dX15_readTerm_387 rfl (lv_at hl 5 rfl) ?_
                      refine lv_iconst (v := 3) hx hb dX15_readTerm_388 (by decide) ?_
                      have hFc := pg_free hD hS hA
                      refine va_callv (va_runV (As := [.ref g1, .int (nI (kk + 2)), .int (nI tt), .int 3]) (rest := []) ⟨hx, hb, hml, hown, hts⟩ (s_X15_readHost l dC dI cs ty gm L H.size F_55 h0 ρ ta ou so ad na va lc dm tg pe ml bg co sp nb0 nb1 nb2 pl se ke wi hs mo po nu pr sq xa sa n64 m64 ex wh sd tk hd ak ho ot sx s0 s1 s2 nf bd mm zo fm sn hg gc gv ze zt v14 v15 8 q18 (-1) (-1) 32 v22 v33 v52 v53 v54 g1 μ fv (kk + 2) tt 3 hW hL_h0 hT_h0 hL_g1 hT_g1 hk4a (by first | omega | assumption | exact Or.inl rfl) (by first | omega | assumption | exact Or.inl rfl) (by first | omega | assumption | exact Or.inl rfl) (by first | omega | assumption | exact Or.inl rfl) (by first | omega | assumption | exact Or.inl rfl) hF_58 (by first | omega | assumption | exact Or.inl rfl) (by first | omega | assumption | exact Or.inl rfl) (by first | omega | assumption | exact Or.inl rfl) (rfl)) ⟨callB_of 4 hts (gi kt_760) rfl rfl rfl (hts _ kt_669) (hts _ kt_761) (by decide +kernel) ⟨Nat.le_of_ble_eq_true rfl, Nat.le_of_ble_eq_true rfl⟩, (hts _ kt_762), (hts _ kt_763)⟩ ⟨fun a U g mk q => ⟨q.1, PTm.calling q.2⟩, pg_recv hK hP hL_h0 hk4a (q := (RX15, TX15, 59)) rfl, fun U hU hWm => ⟨rfl, PTm.mk hU hWm hP hK hD hE hO⟩⟩ rfl rfl hl.1 rfl (lv_room (Nat.le_of_ble_eq_true rfl)) dX15_readTerm_389 ⟨by show _ + 0 ≤ 0; omega, by show _ + 0 ≤ 0; omega⟩) hS (fun q _ h => hFc q h) hFc (fun u t H1 locs ht hvm hw hB hz1 hk1 hS => ?_)
                      obtain ⟨F_202, u17_203, u19_204, u20_205, u21_206, hB1, hq_207, hq_208⟩ := hB
                      obtain ⟨hP, hD, hO, hR⟩ := QTm.back hB1 ht hFc hR (fun q h => by simp only [List.mem_cons, List.not_mem_nil, or_false] at h ⊢; omega)
                      have hF_209 : F_202 g1 = .inl (cs 17, 700, .inl fv) := (hB1.2.2.2 g1 (by rw [hT_g1]; simp only [List.mem_cons, List.not_mem_nil, or_false]; omega)).trans hF_58
                      generalize H1 = H at hP hS ⊢
                      refine W.widen (k := 0) (n := 0) (by omega) (by omega) ?_
                      exact jn_59 (u17_203, u19_204, u20_205, u21_206, v22) F_202 (⟨hq_207, hq_208.imp id (fun h => ⟨by rw [h.1]; decide, h.2⟩), fun h5 h9 => (c0_ne (by have h8 := (nm1 hw_195 c_196).2; rw [gA_fun hF_58] at h8; exact h8) (by omega) (hk3a h5) h9 (by decide)).elim⟩) hO hR _ _ hP hD hS ls (lv_sub hl [0, 1, 2, 3, 4, 5] rfl)
                    ·
                      have hi_210 : tt ≠ (kk + 2) := fun q => c_198 (by rw [q])
                      refine lv_aload_n hx hb dX15_readTerm_359 rfl (lv_at hl 3 rfl) ?_
                      refine lv_iload hx hb dX15_readTerm_360 (lv_at hl 1 rfl) ?_
                      refine lv_iconst (v := 2) hx hb dX15_readTerm_362 (by decide) ?_
                      refine lv_iadd hx hb dX15_readTerm_363 ?_
                      refine lv_topi (fun x_211 ex_211 => ?_)
                      obtain rfl : x_211 = (nI (kk + 2)) := ex_211.trans (nI_add kk 2)
                      refine pg_bald hx hb hK hP hL_g1 1 hF_58 rfl (vp_in_nI (by omega) (by omega)) dX15_readTerm_364 ?_
                      refine lv_topi (fun x_212 ex_212 => ?_)
                      obtain rfl : x_212 = fv (kk + 2) := ex_212.trans (congrArg fv (show ((nI (kk + 2)) : Int32).toNatClampNeg = (kk + 2) from nI_clamp (by omega)))
                      refine lv_bipush (v := 58) hx hb dX15_readTerm_365 (by decide) ?_
                      refine lv_icmp_eq (tgt := 381) hx hb dX15_readTerm_367 (by decide) (fun c_213 => ?_) (fun c_213 => ?_)
                      ·
                        refine lv_aload_n hx hb dX15_readTerm_381 rfl (lv_at hl 2 rfl) ?_
                        refine lv_aload_n hx hb dX15_readTerm_382 rfl (lv_at hl 3 rfl) ?_
                        refine lv_iload hx hb dX15_readTerm_383 (lv_at hl 1 rfl) ?_
                        refine lv_iconst (v := 2) hx hb dX15_readTerm_385 (by decide) ?_
                        refine lv_iadd hx hb dX15_readTerm_386 ?_
                        refine lv_topi (fun x_214 ex_214 => ?_)
                        obtain rfl : x_214 = (nI (kk + 2)) := ex_214.trans (nI_add kk 2)
                        refine lv_iload_n hx hb dX15_readTerm_387 rfl (lv_at hl 5 rfl) ?_
                        refine lv_iconst (v := 3) hx hb dX15_readTerm_388 (by decide) ?_
                        have hFc := pg_free hD hS hA
                        refine va_callv (va_runV (As := [.ref g1, .int (nI (kk + 2)), .int (nI tt), .int 3]) (rest := []) ⟨hx, hb, hml, hown, hts⟩ (s_X15_readHost l dC dI cs ty gm L H.size F_55 h0 ρ ta ou so ad na va lc dm tg pe ml bg co sp nb0 nb1 nb2 pl se ke wi hs mo po nu pr sq xa sa n64 m64 ex wh sd tk hd ak ho ot sx s0 s1 s2 nf bd mm zo fm sn hg gc gv ze zt v14 v15 8 q18 (-1) (-1) 32 v22 v33 v52 v53 v54 g1 μ fv (kk + 2) tt 3 hW hL_h0 hT_h0 hL_g1 hT_g1 hk4a (by first | omega | assumption | exact Or.inl rfl) (by first | omega | assumption | exact Or.inl rfl) (by first | omega | assumption | exact Or.inl rfl) (by first | omega | assumption | exact Or.inl rfl) (by first | omega | assumption | exact Or.inl rfl) hF_58 (by first | omega | assumption | exact Or.inl rfl) (by first | omega | assumption | exact Or.inl rfl) (by first | omega | assumption | exact Or.inl rfl) (rfl)) ⟨callB_of 4 hts (gi kt_760) rfl rfl rfl (hts _ kt_669) (hts _ kt_761) (by decide +kernel) ⟨Nat.le_of_ble_eq_true rfl, Nat.le_of_ble_eq_true rfl⟩, (hts _ kt_762), (hts _ kt_763)⟩ ⟨fun a U g mk q => ⟨q.1, PTm.calling q.2⟩, pg_recv hK hP hL_h0 hk4a (q := (RX15, TX15, 59)) rfl, fun U hU hWm => ⟨rfl, PTm.mk hU hWm hP hK hD hE hO⟩⟩ rfl rfl hl.1 rfl (lv_room (Nat.le_of_ble_eq_true rfl)) dX15_readTerm_389 ⟨by show _ + 0 ≤ 0; omega, by show _ + 0 ≤ 0; omega⟩) hS (fun q _ h => hFc q h) hFc (fun u t H1 locs ht hvm hw hB hz1 hk1 hS => ?_)
                        obtain ⟨F_216, u17_217, u19_218, u20_219, u21_220, hB1, hq_221, hq_222⟩ := hB
                        obtain ⟨hP, hD, hO, hR⟩ := QTm.back hB1 ht hFc hR (fun q h => by simp only [List.mem_cons, List.not_mem_nil, or_false] at h ⊢; omega)
                        have hF_223 : F_216 g1 = .inl (cs 17, 700, .inl fv) := (hB1.2.2.2 g1 (by rw [hT_g1]; simp only [List.mem_cons, List.not_mem_nil, or_false]; omega)).trans hF_58
                        generalize H1 = H at hP hS ⊢
                        refine W.widen (k := 0) (n := 0) (by omega) (by omega) ?_
                        exact jn_59 (u17_217, u19_218, u20_219, u21_220, v22) F_216 (⟨hq_221, hq_222.imp id (fun h => ⟨by rw [h.1]; decide, h.2⟩), fun h5 h9 => (c0_ne (by have h8 := (nm1 hw_195 c_196).2; rw [gA_fun hF_58] at h8; exact h8) (by omega) (hk3a h5) h9 (by decide)).elim⟩) hO hR _ _ hP hD hS ls (lv_sub hl [0, 1, 2, 3, 4, 5] rfl)
                      ·
                        refine lv_aload_n hx hb dX15_readTerm_370 rfl (lv_at hl 3 rfl) ?_
                        refine lv_iload hx hb dX15_readTerm_371 (lv_at hl 1 rfl) ?_
                        refine lv_iconst (v := 2) hx hb dX15_readTerm_373 (by decide) ?_
                        refine lv_iadd hx hb dX15_readTerm_374 ?_
                        refine lv_topi (fun x_224 ex_224 => ?_)
                        obtain rfl : x_224 = (nI (kk + 2)) := ex_224.trans (nI_add kk 2)
                        refine pg_bald hx hb hK hP hL_g1 1 hF_58 rfl (vp_in_nI (by omega) (by omega)) dX15_readTerm_375 ?_
                        refine lv_topi (fun x_225 ex_225 => ?_)
                        obtain rfl : x_225 = fv (kk + 2) := ex_225.trans (congrArg fv (show ((nI (kk + 2)) : Int32).toNatClampNeg = (kk + 2) from nI_clamp (by omega)))
                        refine lv_bipush (v := 47) hx hb dX15_readTerm_376 (by decide) ?_
                        refine lv_icmp_ne (tgt := 392) hx hb dX15_readTerm_378 (by decide) (fun c_226 => ?_) (fun c_226 => ?_)
                        ·
                          refine W.widen (k := 0) (n := 0) (by omega) (by omega) ?_
                          exact jn_59 (8, (-1), (-1), 32, v22) F_55 (⟨hk4a, Or.inl rfl, fun _ _ => rfl⟩) hO hR _ _ hP hD hS ls (lv_sub hl [0, 1, 2, 3, 4, 5] rfl)
                        ·
                          refine lv_aload_n hx hb dX15_readTerm_381 rfl (lv_at hl 2 rfl) ?_
                          refine lv_aload_n hx hb dX15_readTerm_382 rfl (lv_at hl 3 rfl) ?_
                          refine lv_iload hx hb dX15_readTerm_383 (lv_at hl 1 rfl) ?_
                          refine lv_iconst (v := 2) hx hb dX15_readTerm_385 (by decide) ?_
                          refine lv_iadd hx hb dX15_readTerm_386 ?_
                          refine lv_topi (fun x_227 ex_227 => ?_)
                          obtain rfl : x_227 = (nI (kk + 2)) := ex_227.trans (nI_add kk 2)
                          refine lv_iload_n hx hb dX15_readTerm_387 rfl (lv_at hl 5 rfl) ?_
                          refine lv_iconst (v := 3) hx hb dX15_readTerm_388 (by decide) ?_
                          have hFc := pg_free hD hS hA
                          refine va_callv (va_runV (As := [.ref g1, .int (nI (kk + 2)), .int (nI tt), .int 3]) (rest := []) ⟨hx, hb, hml, hown, hts⟩ (s_X15_readHost l dC dI cs ty gm L H.size F_55 h0 ρ ta ou so ad na va lc dm tg pe ml bg co sp nb0 nb1 nb2 pl se ke wi hs mo po nu pr sq xa sa n64 m64 ex wh sd tk hd ak ho ot sx s0 s1 s2 nf bd mm zo fm sn hg gc gv ze zt v14 v15 8 q18 (-1) (-1) 32 v22 v33 v52 v53 v54 g1 μ fv (kk + 2) tt 3 hW hL_h0 hT_h0 hL_g1 hT_g1 hk4a (by first | omega | assumption | exact Or.inl rfl) (by first | omega | assumption | exact Or.inl rfl) (by first | omega | assumption | exact Or.inl rfl) (by first | omega | assumption | exact Or.inl rfl) (by first | omega | assumption | exact Or.inl rfl) hF_58 (by first | omega | assumption | exact Or.inl rfl) (by first | omega | assumption | exact Or.inl rfl) (by first | omega | assumption | exact Or.inl rfl) (rfl)) ⟨callB_of 4 hts (gi kt_760) rfl rfl rfl (hts _ kt_669) (hts _ kt_761) (by decide +kernel) ⟨Nat.le_of_ble_eq_true rfl, Nat.le_of_ble_eq_true rfl⟩, (hts _ kt_762), (hts _ kt_763)⟩ ⟨fun a U g mk q => ⟨q.1, PTm.calling q.2⟩, pg_recv hK hP hL_h0 hk4a (q := (RX15, TX15, 59)) rfl, fun U hU hWm => ⟨rfl, PTm.mk hU hWm hP hK hD hE hO⟩⟩ rfl rfl hl.1 rfl (lv_room (Nat.le_of_ble_eq_true rfl)) dX15_readTerm_389 ⟨by show _ + 0 ≤ 0; omega, by show _ + 0 ≤ 0; omega⟩) hS (fun q _ h => hFc q h) hFc (fun u t H1 locs ht hvm hw hB hz1 hk1 hS => ?_)
                          obtain ⟨F_229, u17_230, u19_231, u20_232, u21_233, hB1, hq_234, hq_235⟩ := hB
                          obtain ⟨hP, hD, hO, hR⟩ := QTm.back hB1 ht hFc hR (fun q h => by simp only [List.mem_cons, List.not_mem_nil, or_false] at h ⊢; omega)
                          have hF_236 : F_229 g1 = .inl (cs 17, 700, .inl fv) := (hB1.2.2.2 g1 (by rw [hT_g1]; simp only [List.mem_cons, List.not_mem_nil, or_false]; omega)).trans hF_58
                          generalize H1 = H at hP hS ⊢
                          refine W.widen (k := 0) (n := 0) (by omega) (by omega) ?_
                          exact jn_59 (u17_230, u19_231, u20_232, u21_233, v22) F_229 (⟨hq_234, hq_235.imp id (fun h => ⟨by rw [h.1]; decide, h.2⟩), fun h5 h9 => (c0_ne (by have h8 := (nm1 hw_195 c_196).2; rw [gA_fun hF_58] at h8; exact h8) (by omega) (hk3a h5) h9 (by decide)).elim⟩) hO hR _ _ hP hD hS ls (lv_sub hl [0, 1, 2, 3, 4, 5] rfl)
                ·
                  have hb288 := (nm1 hw_189 c_190).1
                  refine lv_iload_n hx hb dX15_readTerm_294 rfl (lv_at hl 5 rfl) ?_
                  refine lv_iload hx hb dX15_readTerm_295 (lv_at hl 1 rfl) ?_
                  refine lv_iconst (v := 1) hx hb dX15_readTerm_297 (by decide) ?_
                  refine lv_iadd hx hb dX15_readTerm_298 ?_
                  refine lv_topi (fun x_237 ex_237 => ?_)
                  obtain rfl : x_237 = (nI (kk + 1)) := ex_237.trans (nI_add kk 1)
                  refine lv_icmp_eq (tgt := 324) hx hb dX15_readTerm_299 (by decide) (fun c_238 => ?_) (fun c_238 => ?_)
                  ·
                    have hi_239 : tt = (kk + 1) := (nI_eq (a := tt) (b := (kk + 1)) (by omega) (by omega)).mp c_238
                    refine lv_aload_n hx hb dX15_readTerm_324 rfl (lv_at hl 2 rfl) ?_
                    refine lv_aload_n hx hb dX15_readTerm_325 rfl (lv_at hl 3 rfl) ?_
                    refine lv_iload hx hb dX15_readTerm_326 (lv_at hl 1 rfl) ?_
                    refine lv_iconst (v := 1) hx hb dX15_readTerm_328 (by decide) ?_
                    refine lv_iadd hx hb dX15_readTerm_329 ?_
                    refine lv_topi (fun x_240 ex_240 => ?_)
                    obtain rfl : x_240 = (nI (kk + 1)) := ex_240.trans (nI_add kk 1)
                    refine lv_iload_n hx hb dX15_readTerm_330 rfl (lv_at hl 5 rfl) ?_
                    refine lv_iconst (v := 2) hx hb dX15_readTerm_331 (by decide) ?_
                    have hFc := pg_free hD hS hA
                    refine va_callv (va_runV (As := [.ref g1, .int (nI (kk + 1)), .int (nI tt), .int 2]) (rest := []) ⟨hx, hb, hml, hown, hts⟩ (s_X15_readHost l dC dI cs ty gm L H.size F_55 h0 ρ ta ou so ad na va lc dm tg pe ml bg co sp nb0 nb1 nb2 pl se ke wi hs mo po nu pr sq xa sa n64 m64 ex wh sd tk hd ak ho ot sx s0 s1 s2 nf bd mm zo fm sn hg gc gv ze zt v14 v15 8 q18 (-1) (-1) 32 v22 v33 v52 v53 v54 g1 μ fv (kk + 1) tt 2 hW hL_h0 hT_h0 hL_g1 hT_g1 hk4a (by first | omega | assumption | exact Or.inl rfl) (by first | omega | assumption | exact Or.inl rfl) (by first | omega | assumption | exact Or.inl rfl) (by first | omega | assumption | exact Or.inl rfl) (by first | omega | assumption | exact Or.inl rfl) hF_58 (by first | omega | assumption | exact Or.inl rfl) (by first | omega | assumption | exact Or.inl rfl) (by first | omega | assumption | exact Or.inl rfl) (rfl)) ⟨callB_of 4 hts (gi kt_760) rfl rfl rfl (hts _ kt_669) (hts _ kt_761) (by decide +kernel) ⟨Nat.le_of_ble_eq_true rfl, Nat.le_of_ble_eq_true rfl⟩, (hts _ kt_762), (hts _ kt_763)⟩ ⟨fun a U g mk q => ⟨q.1, PTm.calling q.2⟩, pg_recv hK hP hL_h0 hk4a (q := (RX15, TX15, 59)) rfl, fun U hU hWm => ⟨rfl, PTm.mk hU hWm hP hK hD hE hO⟩⟩ rfl rfl hl.1 rfl (lv_room (Nat.le_of_ble_eq_true rfl)) dX15_readTerm_332 ⟨by show _ + 0 ≤ 0; omega, by show _ + 0 ≤ 0; omega⟩) hS (fun q _ h => hFc q h) hFc (fun u t H1 locs ht hvm hw hB hz1 hk1 hS => ?_)
                    obtain ⟨F_242, u17_243, u19_244, u20_245, u21_246, hB1, hq_247, hq_248⟩ := hB
                    obtain ⟨hP, hD, hO, hR⟩ := QTm.back hB1 ht hFc hR (fun q h => by simp only [List.mem_cons, List.not_mem_nil, or_false] at h ⊢; omega)
                    have hF_249 : F_242 g1 = .inl (cs 17, 700, .inl fv) := (hB1.2.2.2 g1 (by rw [hT_g1]; simp only [List.mem_cons, List.not_mem_nil, or_false]; omega)).trans hF_58
                    generalize H1 = H at hP hS ⊢
                    refine lv_goto (tgt := 392) hx hb dX15_readTerm_335 (by decide) ?_
                    refine W.widen (k := 0) (n := 0) (by omega) (by omega) ?_
                    exact jn_59 (u17_243, u19_244, u20_245, u21_246, v22) F_242 (⟨hq_247, hq_248.imp id (fun h => ⟨by rw [h.1]; decide, h.2⟩), fun h5 h9 => (c0_ne (by have h8 := (nm1 hw_189 c_190).2; rw [gA_fun hF_58] at h8; exact h8) (by omega) (hk3a h5) h9 (by decide)).elim⟩) hO hR _ _ hP hD hS ls (lv_sub hl [0, 1, 2, 3, 4, 5] rfl)
                  ·
                    have hi_250 : tt ≠ (kk + 1) := fun q => c_238 (by rw [q])
                    refine lv_aload_n hx hb dX15_readTerm_302 rfl (lv_at hl 3 rfl) ?_
                    refine lv_iload hx hb dX15_readTerm_303 (lv_at hl 1 rfl) ?_
                    refine lv_iconst (v := 1) hx hb dX15_readTerm_305 (by decide) ?_
                    refine lv_iadd hx hb dX15_readTerm_306 ?_
                    refine lv_topi (fun x_251 ex_251 => ?_)
                    obtain rfl : x_251 = (nI (kk + 1)) := ex_251.trans (nI_add kk 1)
                    refine pg_bald hx hb hK hP hL_g1 1 hF_58 rfl (vp_in_nI (by omega) (by omega)) dX15_readTerm_307 ?_
                    refine lv_topi (fun x_252 ex_252 => ?_)
                    obtain rfl : x_252 = fv (kk + 1) := ex_252.trans (congrArg fv (show ((nI (kk + 1)) : Int32).toNatClampNeg = (kk + 1) from nI_clamp (by omega)))
                    refine lv_bipush (v := 58) hx hb dX15_readTerm_308 (by decide) ?_
                    refine lv_icmp_eq (tgt := 324) hx hb dX15_readTerm_310 (by decide) (fun c_253 => ?_) (fun c_253 => ?_)
                    ·
                      refine lv_aload_n hx hb dX15_readTerm_324 rfl (lv_at hl 2 rfl) ?_
                      refine lv_aload_n hx hb dX15_readTerm_325 rfl (lv_at hl 3 rfl) ?_
                      refine lv_iload hx hb dX15_readTerm_326 (lv_at hl 1 rfl) ?_
                      refine lv_iconst (v := 1) hx hb dX15_readTerm_328 (by decide) ?_
                      refine lv_iadd hx hb dX15_readTerm_329 ?_
                      refine lv_topi (fun x_254 ex_254 => ?_)
                      obtain rfl : x_254 = (nI (kk + 1)) := ex_254.trans (nI_add kk 1)
                      refine lv_iload_n hx hb dX15_readTerm_330 rfl (lv_at hl 5 rfl) ?_
                      refine lv_iconst (v := 2) hx hb dX15_readTerm_331 (by decide) ?_
                      have hFc := pg_free hD hS hA
                      refine va_callv (va_runV (As := [.ref g1, .int (nI (kk + 1)), .int (nI tt), .int 2]) (rest := []) ⟨hx, hb, hml, hown, hts⟩ (s_X15_readHost l dC dI cs ty gm L H.size F_55 h0 ρ ta ou so ad na va lc dm tg pe ml bg co sp nb0 nb1 nb2 pl se ke wi hs mo po nu pr sq xa sa n64 m64 ex wh sd tk hd ak ho ot sx s0 s1 s2 nf bd mm zo fm sn hg gc gv ze zt v14 v15 8 q18 (-1) (-1) 32 v22 v33 v52 v53 v54 g1 μ fv (kk + 1) tt 2 hW hL_h0 hT_h0 hL_g1 hT_g1 hk4a (by first | omega | assumption | exact Or.inl rfl) (by first | omega | assumption | exact Or.inl rfl) (by first | omega | assumption | exact Or.inl rfl) (by first | omega | assumption | exact Or.inl rfl) (by first | omega | assumption | exact Or.inl rfl) hF_58 (by first | omega | assumption | exact Or.inl rfl) (by first | omega | assumption | exact Or.inl rfl) (by first | omega | assumption | exact Or.inl rfl) (rfl)) ⟨callB_of 4 hts (gi kt_760) rfl rfl rfl (hts _ kt_669) (hts _ kt_761) (by decide +kernel) ⟨Nat.le_of_ble_eq_true rfl, Nat.le_of_ble_eq_true rfl⟩, (hts _ kt_762), (hts _ kt_763)⟩ ⟨fun a U g mk q => ⟨q.1, PTm.calling q.2⟩, pg_recv hK hP hL_h0 hk4a (q := (RX15, TX15, 59)) rfl, fun U hU hWm => ⟨rfl, PTm.mk hU hWm hP hK hD hE hO⟩⟩ rfl rfl hl.1 rfl (lv_room (Nat.le_of_ble_eq_true rfl)) dX15_readTerm_332 ⟨by show _ + 0 ≤ 0; omega, by show _ + 0 ≤ 0; omega⟩) hS (fun q _ h => hFc q h) hFc (fun u t H1 locs ht hvm hw hB hz1 hk1 hS => ?_)
                      obtain ⟨F_256, u17_257, u19_258, u20_259, u21_260, hB1, hq_261, hq_262⟩ := hB
                      obtain ⟨hP, hD, hO, hR⟩ := QTm.back hB1 ht hFc hR (fun q h => by simp only [List.mem_cons, List.not_mem_nil, or_false] at h ⊢; omega)
                      have hF_263 : F_256 g1 = .inl (cs 17, 700, .inl fv) := (hB1.2.2.2 g1 (by rw [hT_g1]; simp only [List.mem_cons, List.not_mem_nil, or_false]; omega)).trans hF_58
                      generalize H1 = H at hP hS ⊢
                      refine lv_goto (tgt := 392) hx hb dX15_readTerm_335 (by decide) ?_
                      refine W.widen (k := 0) (n := 0) (by omega) (by omega) ?_
                      exact jn_59 (u17_257, u19_258, u20_259, u21_260, v22) F_256 (⟨hq_261, hq_262.imp id (fun h => ⟨by rw [h.1]; decide, h.2⟩), fun h5 h9 => (c0_ne (by have h8 := (nm1 hw_189 c_190).2; rw [gA_fun hF_58] at h8; exact h8) (by omega) (hk3a h5) h9 (by decide)).elim⟩) hO hR _ _ hP hD hS ls (lv_sub hl [0, 1, 2, 3, 4, 5] rfl)
                    ·
                      refine lv_aload_n hx hb dX15_readTerm_313 rfl (lv_at hl 3 rfl) ?_
                      refine lv_iload hx hb dX15_readTerm_314 (lv_at hl 1 rfl) ?_
                      refine lv_iconst (v := 1) hx hb dX15_readTerm_316 (by decide) ?_
                      refine lv_iadd hx hb dX15_readTerm_317 ?_
                      refine lv_topi (fun x_264 ex_264 => ?_)
                      obtain rfl : x_264 = (nI (kk + 1)) := ex_264.trans (nI_add kk 1)
                      refine pg_bald hx hb hK hP hL_g1 1 hF_58 rfl (vp_in_nI (by omega) (by omega)) dX15_readTerm_318 ?_
                      refine lv_topi (fun x_265 ex_265 => ?_)
                      obtain rfl : x_265 = fv (kk + 1) := ex_265.trans (congrArg fv (show ((nI (kk + 1)) : Int32).toNatClampNeg = (kk + 1) from nI_clamp (by omega)))
                      refine lv_bipush (v := 47) hx hb dX15_readTerm_319 (by decide) ?_
                      refine lv_icmp_ne (tgt := 338) hx hb dX15_readTerm_321 (by decide) (fun c_266 => ?_) (fun c_266 => ?_)
                      ·
                        refine lv_aload_n hx hb dX15_readTerm_338 rfl (lv_at hl 3 rfl) ?_
                        refine lv_iload hx hb dX15_readTerm_339 (lv_at hl 1 rfl) ?_
                        refine lv_iload_n hx hb dX15_readTerm_341 rfl (lv_at hl 5 rfl) ?_
                        obtain ⟨q_267, v_268, hr_q_267, hX_q_267⟩ := hG.2.2 ("PostGateModel", 280, "mx", [109, 120]) (by decide +kernel)
                        have hX_q_267 : SXc q_267 v_268 2 (cct [109, 120]) A s s.heap := hX_q_267
                        obtain ⟨xo_q_267, xc_q_267, xv_q_267, xt_q_267, xn_q_267⟩ := id hX_q_267
                        have hr_q_267 : vk_R "PostGateModel" 280 "mx" q_267 s := hr_q_267
                        refine va_ldcwS hx hb hown hr_q_267 dX15_readTerm_342 ?_
                        have hFc := pg_free hD hS hA
                        refine va_calli (va_runS (As := [.ref g1, .int (nI kk), .int (nI tt), .ref q_267]) (rest := []) ⟨hx, hb, hml, hown, hts⟩ (s_X15_begins l dC dI cs ty gm L H.size F_55 g1 μ 700 q_267 v_268 2 (cct [109, 120]) kk tt hW hL_g1 hT_g1 (by first | omega | assumption | exact Or.inl rfl) (by first | omega | assumption | exact Or.inl rfl)) ⟨callB_of 4 hts (gi kt_733) rfl rfl rfl (hts _ kt_669) (hts _ kt_734) (by decide +kernel) ⟨Nat.le_of_ble_eq_true rfl, Nat.le_of_ble_eq_true rfl⟩, (hts _ kt_735)⟩ ⟨fun a U g mk q => ⟨q.1, PTEm.calling q.2⟩, fun U hU hWm => ⟨rfl, PTEm.mk hU hWm hP hK hD hE hO hG (fun x hx => by rw [List.mem_singleton] at hx; subst hx; exact hX_q_267) hS hFc⟩⟩ rfl rfl hl.1 rfl (lv_room (Nat.le_of_ble_eq_true rfl)) dX15_readTerm_345 ⟨by show _ + 0 ≤ 0; omega, by show _ + 0 ≤ 0; omega⟩) hS (fun q _ h => hFc q h) hFc (fun r_269 u t H1 locs ht hvm hw hB hz1 hk1 hS => ?_)
                        obtain ⟨F_270, hB1⟩ := hB
                        obtain rfl : F_55 = F_270 := (funext (fun a => hB1.2.2.2 a List.not_mem_nil)).symm
                        obtain ⟨hP, hD, hO, hR⟩ := QTm.back hB1 ht hFc hR (fun q h => absurd h List.not_mem_nil)
                        generalize H1 = H at hP hS ⊢
                        have hw : ((r_269 = 1 ∧ bgP (gA (F_55 g1)) kk tt (cct [109, 120]) 2) ∨ (r_269 = 0 ∧ ¬ bgP (gA (F_55 g1)) kk tt (cct [109, 120]) 2)) := hw
                        have hw_271 := hw
                        refine lv_if_eq (tgt := 392) hx hb dX15_readTerm_348 (by decide) (fun c_272 => ?_) (fun c_272 => ?_)
                        ·
                          refine W.widen (k := 0) (n := 0) (by omega) (by omega) ?_
                          exact jn_59 (8, (-1), (-1), 32, v22) F_55 (⟨hk4a, Or.inl rfl, fun _ _ => rfl⟩) hO hR _ _ hP hD hS ls (lv_sub hl [0, 1, 2, 3, 4, 5] rfl)
                        ·
                          have hb345 := (nm1 hw_271 c_272).1
                          refine lv_iload_n hx hb dX15_readTerm_351 rfl (lv_at hl 5 rfl) ?_
                          refine lv_iload hx hb dX15_readTerm_352 (lv_at hl 1 rfl) ?_
                          refine lv_iconst (v := 2) hx hb dX15_readTerm_354 (by decide) ?_
                          refine lv_iadd hx hb dX15_readTerm_355 ?_
                          refine lv_topi (fun x_273 ex_273 => ?_)
                          obtain rfl : x_273 = (nI (kk + 2)) := ex_273.trans (nI_add kk 2)
                          refine lv_icmp_eq (tgt := 381) hx hb dX15_readTerm_356 (by decide) (fun c_274 => ?_) (fun c_274 => ?_)
                          ·
                            have hi_275 : tt = (kk + 2) := (nI_eq (a := tt) (b := (kk + 2)) (by omega) (by omega)).mp c_274
                            refine lv_aload_n hx hb dX15_readTerm_381 rfl (lv_at hl 2 rfl) ?_
                            refine lv_aload_n hx hb dX15_readTerm_382 rfl (lv_at hl 3 rfl) ?_
                            refine lv_iload hx hb dX15_readTerm_383 (lv_at hl 1 rfl) ?_
                            refine lv_iconst (v := 2) hx hb dX15_readTerm_385 (by decide) ?_
                            refine lv_iadd hx hb dX15_readTerm_386 ?_
                            refine lv_topi (fun x_276 ex_276 => ?_)
                            obtain rfl : x_276 = (nI (kk + 2)) := ex_276.trans (nI_add kk 2)
                            refine lv_iload_n hx hb dX15_readTerm_387 rfl (lv_at hl 5 rfl) ?_
                            refine lv_iconst (v := 3) hx hb dX15_readTerm_388 (by decide) ?_
                            have hFc := pg_free hD hS hA
                            refine va_callv (va_runV (As := [.ref g1, .int (nI (kk + 2)), .int (nI tt), .int 3]) (rest := []) ⟨hx, hb, hml, hown, hts⟩ (s_X15_readHost l dC dI cs ty gm L H.size F_55 h0 ρ ta ou so ad na va lc dm tg pe ml bg co sp nb0 nb1 nb2 pl se ke wi hs mo po nu pr sq xa sa n64 m64 ex wh sd tk hd ak ho ot sx s0 s1 s2 nf bd mm zo fm sn hg gc gv ze zt v14 v15 8 q18 (-1) (-1) 32 v22 v33 v52 v53 v54 g1 μ fv (kk + 2) tt 3 hW hL_h0 hT_h0 hL_g1 hT_g1 hk4a (by first | omega | assumption | exact Or.inl rfl) (by first | omega | assumption | exact Or.inl rfl) (by first | omega | assumption | exact Or.inl rfl) (by first | omega | assumption | exact Or.inl rfl) (by first | omega | assumption | exact Or.inl rfl) hF_58 (by first | omega | assumption | exact Or.inl rfl) (by first | omega | assumption | exact Or.inl rfl) (by first | omega | assumption | exact Or.inl rfl) (rfl)) ⟨callB_of 4 hts (gi kt_760) rfl rfl rfl (hts _ kt_669) (hts _ kt_761) (by decide +kernel) ⟨Nat.le_of_ble_eq_true rfl, Nat.le_of_ble_eq_true rfl⟩, (hts _ kt_762), (hts _ kt_763)⟩ ⟨fun a U g mk q => ⟨q.1, PTm.calling q.2⟩, pg_recv hK hP hL_h0 hk4a (q := (RX15, TX15, 59)) rfl, fun U hU hWm => ⟨rfl, PTm.mk hU hWm hP hK hD hE hO⟩⟩ rfl rfl hl.1 rfl (lv_room (Nat.le_of_ble_eq_true rfl)) dX15_readTerm_389 ⟨by show _ + 0 ≤ 0; omega, by show _ + 0 ≤ 0; omega⟩) hS (fun q _ h => hFc q h) hFc (fun u t H1 locs ht hvm hw hB hz1 hk1 hS => ?_)
                            obtain ⟨F_278, u17_279, u19_280, u20_281, u21_282, hB1, hq_283, hq_284⟩ := hB
                            obtain ⟨hP, hD, hO, hR⟩ := QTm.back hB1 ht hFc hR (fun q h => by simp only [List.mem_cons, List.not_mem_nil, or_false] at h ⊢; omega)
                            have hF_285 : F_278 g1 = .inl (cs 17, 700, .inl fv) := (hB1.2.2.2 g1 (by rw [hT_g1]; simp only [List.mem_cons, List.not_mem_nil, or_false]; omega)).trans hF_58
                            generalize H1 = H at hP hS ⊢
                            refine W.widen (k := 0) (n := 0) (by omega) (by omega) ?_
                            exact jn_59 (u17_279, u19_280, u20_281, u21_282, v22) F_278 (⟨hq_283, hq_284.imp id (fun h => ⟨by rw [h.1]; decide, h.2⟩), fun h5 h9 => (c0_ne (by have h8 := (nm1 hw_271 c_272).2; rw [gA_fun hF_58] at h8; exact h8) (by omega) (hk3a h5) h9 (by decide)).elim⟩) hO hR _ _ hP hD hS ls (lv_sub hl [0, 1, 2, 3, 4, 5] rfl)
                          ·
                            have hi_286 : tt ≠ (kk + 2) := fun q => c_274 (by rw [q])
                            refine lv_aload_n hx hb dX15_readTerm_359 rfl (lv_at hl 3 rfl) ?_
                            refine lv_iload hx hb dX15_readTerm_360 (lv_at hl 1 rfl) ?_
                            refine lv_iconst (v := 2) hx hb dX15_readTerm_362 (by decide) ?_
                            refine lv_iadd hx hb dX15_readTerm_363 ?_
                            refine lv_topi (fun x_287 ex_287 => ?_)
                            obtain rfl : x_287 = (nI (kk + 2)) := ex_287.trans (nI_add kk 2)
                            refine pg_bald hx hb hK hP hL_g1 1 hF_58 rfl (vp_in_nI (by omega) (by omega)) dX15_readTerm_364 ?_
                            refine lv_topi (fun x_288 ex_288 => ?_)
                            obtain rfl : x_288 = fv (kk + 2) := ex_288.trans (congrArg fv (show ((nI (kk + 2)) : Int32).toNatClampNeg = (kk + 2) from nI_clamp (by omega)))
                            refine lv_bipush (v := 58) hx hb dX15_readTerm_365 (by decide) ?_
                            refine lv_icmp_eq (tgt := 381) hx hb dX15_readTerm_367 (by decide) (fun c_289 => ?_) (fun c_289 => ?_)
                            ·
                              refine lv_aload_n hx hb dX15_readTerm_381 rfl (lv_at hl 2 rfl) ?_
                              refine lv_aload_n hx hb dX15_readTerm_382 rfl (lv_at hl 3 rfl) ?_
                              refine lv_iload hx hb dX15_readTerm_383 (lv_at hl 1 rfl) ?_
                              refine lv_iconst (v := 2) hx hb dX15_readTerm_385 (by decide) ?_
                              refine lv_iadd hx hb dX15_readTerm_386 ?_
                              refine lv_topi (fun x_290 ex_290 => ?_)
                              obtain rfl : x_290 = (nI (kk + 2)) := ex_290.trans (nI_add kk 2)
                              refine lv_iload_n hx hb dX15_readTerm_387 rfl (lv_at hl 5 rfl) ?_
                              refine lv_iconst (v := 3) hx hb dX15_readTerm_388 (by decide) ?_
                              have hFc := pg_free hD hS hA
                              refine va_callv (va_runV (As := [.ref g1, .int (nI (kk + 2)), .int (nI tt), .int 3]) (rest := []) ⟨hx, hb, hml, hown, hts⟩ (s_X15_readHost l dC dI cs ty gm L H.size F_55 h0 ρ ta ou so ad na va lc dm tg pe ml bg co sp nb0 nb1 nb2 pl se ke wi hs mo po nu pr sq xa sa n64 m64 ex wh sd tk hd ak ho ot sx s0 s1 s2 nf bd mm zo fm sn hg gc gv ze zt v14 v15 8 q18 (-1) (-1) 32 v22 v33 v52 v53 v54 g1 μ fv (kk + 2) tt 3 hW hL_h0 hT_h0 hL_g1 hT_g1 hk4a (by first | omega | assumption | exact Or.inl rfl) (by first | omega | assumption | exact Or.inl rfl) (by first | omega | assumption | exact Or.inl rfl) (by first | omega | assumption | exact Or.inl rfl) (by first | omega | assumption | exact Or.inl rfl) hF_58 (by first | omega | assumption | exact Or.inl rfl) (by first | omega | assumption | exact Or.inl rfl) (by first | omega | assumption | exact Or.inl rfl) (rfl)) ⟨callB_of 4 hts (gi kt_760) rfl rfl rfl (hts _ kt_669) (hts _ kt_761) (by decide +kernel) ⟨Nat.le_of_ble_eq_true rfl, Nat.le_of_ble_eq_true rfl⟩, (hts _ kt_762), (hts _ kt_763)⟩ ⟨fun a U g mk q => ⟨q.1, PTm.calling q.2⟩, pg_recv hK hP hL_h0 hk4a (q := (RX15, TX15, 59)) rfl, fun U hU hWm => ⟨rfl, PTm.mk hU hWm hP hK hD hE hO⟩⟩ rfl rfl hl.1 rfl (lv_room (Nat.le_of_ble_eq_true rfl)) dX15_readTerm_389 ⟨by show _ + 0 ≤ 0; omega, by show _ + 0 ≤ 0; omega⟩) hS (fun q _ h => hFc q h) hFc (fun u t H1 locs ht hvm hw hB hz1 hk1 hS => ?_)
                              obtain ⟨F_292, u17_293, u19_294, u20_295, u21_296, hB1, hq_297, hq_298⟩ := hB
                              obtain ⟨hP, hD, hO, hR⟩ := QTm.back hB1 ht hFc hR (fun q h => by simp only [List.mem_cons, List.not_mem_nil, or_false] at h ⊢; omega)
                              have hF_299 : F_292 g1 = .inl (cs 17, 700, .inl fv) := (hB1.2.2.2 g1 (by rw [hT_g1]; simp only [List.mem_cons, List.not_mem_nil, or_false]; omega)).trans hF_58
                              generalize H1 = H at hP hS ⊢
                              refine W.widen (k := 0) (n := 0) (by omega) (by omega) ?_
                              exact jn_59 (u17_293, u19_294, u20_295, u21_296, v22) F_292 (⟨hq_297, hq_298.imp id (fun h => ⟨by rw [h.1]; decide, h.2⟩), fun h5 h9 => (c0_ne (by have h8 := (nm1 hw_271 c_272).2; rw [gA_fun hF_58] at h8; exact h8) (by omega) (hk3a h5) h9 (by decide)).elim⟩) hO hR _ _ hP hD hS ls (lv_sub hl [0, 1, 2, 3, 4, 5] rfl)
                            ·
                              refine lv_aload_n hx hb dX15_readTerm_370 rfl (lv_at hl 3 rfl) ?_
                              refine lv_iload hx hb dX15_readTerm_371 (lv_at hl 1 rfl) ?_
                              refine lv_iconst (v := 2) hx hb dX15_readTerm_373 (by decide) ?_
                              refine lv_iadd hx hb dX15_readTerm_374 ?_
                              refine lv_topi (fun x_300 ex_300 => ?_)
                              obtain rfl : x_300 = (nI (kk + 2)) := ex_300.trans (nI_add kk 2)
                              refine pg_bald hx hb hK hP hL_g1 1 hF_58 rfl (vp_in_nI (by omega) (by omega)) dX15_readTerm_375 ?_
                              refine lv_topi (fun x_301 ex_301 => ?_)
                              obtain rfl : x_301 = fv (kk + 2) := ex_301.trans (congrArg fv (show ((nI (kk + 2)) : Int32).toNatClampNeg = (kk + 2) from nI_clamp (by omega)))
                              refine lv_bipush (v := 47) hx hb dX15_readTerm_376 (by decide) ?_
                              refine lv_icmp_ne (tgt := 392) hx hb dX15_readTerm_378 (by decide) (fun c_302 => ?_) (fun c_302 => ?_)
                              ·
                                refine W.widen (k := 0) (n := 0) (by omega) (by omega) ?_
                                exact jn_59 (8, (-1), (-1), 32, v22) F_55 (⟨hk4a, Or.inl rfl, fun _ _ => rfl⟩) hO hR _ _ hP hD hS ls (lv_sub hl [0, 1, 2, 3, 4, 5] rfl)
                              ·
                                refine lv_aload_n hx hb dX15_readTerm_381 rfl (lv_at hl 2 rfl) ?_
                                refine lv_aload_n hx hb dX15_readTerm_382 rfl (lv_at hl 3 rfl) ?_
                                refine lv_iload hx hb dX15_readTerm_383 (lv_at hl 1 rfl) ?_
                                refine lv_iconst (v := 2) hx hb dX15_readTerm_385 (by decide) ?_
                                refine lv_iadd hx hb dX15_readTerm_386 ?_
                                refine lv_topi (fun x_303 ex_303 => ?_)
                                obtain rfl : x_303 = (nI (kk + 2)) := ex_303.trans (nI_add kk 2)
                                refine lv_iload_n hx hb dX15_readTerm_387 rfl (lv_at hl 5 rfl) ?_
                                refine lv_iconst (v := 3) hx hb dX15_readTerm_388 (by decide) ?_
                                have hFc := pg_free hD hS hA
                                refine va_callv (va_runV (As := [.ref g1, .int (nI (kk + 2)), .int (nI tt), .int 3]) (rest := []) ⟨hx, hb, hml, hown, hts⟩ (s_X15_readHost l dC dI cs ty gm L H.size F_55 h0 ρ ta ou so ad na va lc dm tg pe ml bg co sp nb0 nb1 nb2 pl se ke wi hs mo po nu pr sq xa sa n64 m64 ex wh sd tk hd ak ho ot sx s0 s1 s2 nf bd mm zo fm sn hg gc gv ze zt v14 v15 8 q18 (-1) (-1) 32 v22 v33 v52 v53 v54 g1 μ fv (kk + 2) tt 3 hW hL_h0 hT_h0 hL_g1 hT_g1 hk4a (by first | omega | assumption | exact Or.inl rfl) (by first | omega | assumption | exact Or.inl rfl) (by first | omega | assumption | exact Or.inl rfl) (by first | omega | assumption | exact Or.inl rfl) (by first | omega | assumption | exact Or.inl rfl) hF_58 (by first | omega | assumption | exact Or.inl rfl) (by first | omega | assumption | exact Or.inl rfl) (by first | omega | assumption | exact Or.inl rfl) (rfl)) ⟨callB_of 4 hts (gi kt_760) rfl rfl rfl (hts _ kt_669) (hts _ kt_761) (by decide +kernel) ⟨Nat.le_of_ble_eq_true rfl, Nat.le_of_ble_eq_true rfl⟩, (hts _ kt_762), (hts _ kt_763)⟩ ⟨fun a U g mk q => ⟨q.1, PTm.calling q.2⟩, pg_recv hK hP hL_h0 hk4a (q := (RX15, TX15, 59)) rfl, fun U hU hWm => ⟨rfl, PTm.mk hU hWm hP hK hD hE hO⟩⟩ rfl rfl hl.1 rfl (lv_room (Nat.le_of_ble_eq_true rfl)) dX15_readTerm_389 ⟨by show _ + 0 ≤ 0; omega, by show _ + 0 ≤ 0; omega⟩) hS (fun q _ h => hFc q h) hFc (fun u t H1 locs ht hvm hw hB hz1 hk1 hS => ?_)
                                obtain ⟨F_305, u17_306, u19_307, u20_308, u21_309, hB1, hq_310, hq_311⟩ := hB
                                obtain ⟨hP, hD, hO, hR⟩ := QTm.back hB1 ht hFc hR (fun q h => by simp only [List.mem_cons, List.not_mem_nil, or_false] at h ⊢; omega)
                                have hF_312 : F_305 g1 = .inl (cs 17, 700, .inl fv) := (hB1.2.2.2 g1 (by rw [hT_g1]; simp only [List.mem_cons, List.not_mem_nil, or_false]; omega)).trans hF_58
                                generalize H1 = H at hP hS ⊢
                                refine W.widen (k := 0) (n := 0) (by omega) (by omega) ?_
                                exact jn_59 (u17_306, u19_307, u20_308, u21_309, v22) F_305 (⟨hq_310, hq_311.imp id (fun h => ⟨by rw [h.1]; decide, h.2⟩), fun h5 h9 => (c0_ne (by have h8 := (nm1 hw_271 c_272).2; rw [gA_fun hF_58] at h8; exact h8) (by omega) (hk3a h5) h9 (by decide)).elim⟩) hO hR _ _ hP hD hS ls (lv_sub hl [0, 1, 2, 3, 4, 5] rfl)
                      ·
                        refine lv_aload_n hx hb dX15_readTerm_324 rfl (lv_at hl 2 rfl) ?_
                        refine lv_aload_n hx hb dX15_readTerm_325 rfl (lv_at hl 3 rfl) ?_
                        refine lv_iload hx hb dX15_readTerm_326 (lv_at hl 1 rfl) ?_
                        refine lv_iconst (v := 1) hx hb dX15_readTerm_328 (by decide) ?_
                        refine lv_iadd hx hb dX15_readTerm_329 ?_
                        refine lv_topi (fun x_313 ex_313 => ?_)
                        obtain rfl : x_313 = (nI (kk + 1)) := ex_313.trans (nI_add kk 1)
                        refine lv_iload_n hx hb dX15_readTerm_330 rfl (lv_at hl 5 rfl) ?_
                        refine lv_iconst (v := 2) hx hb dX15_readTerm_331 (by decide) ?_
                        have hFc := pg_free hD hS hA
                        refine va_callv (va_runV (As := [.ref g1, .int (nI (kk + 1)), .int (nI tt), .int 2]) (rest := []) ⟨hx, hb, hml, hown, hts⟩ (s_X15_readHost l dC dI cs ty gm L H.size F_55 h0 ρ ta ou so ad na va lc dm tg pe ml bg co sp nb0 nb1 nb2 pl se ke wi hs mo po nu pr sq xa sa n64 m64 ex wh sd tk hd ak ho ot sx s0 s1 s2 nf bd mm zo fm sn hg gc gv ze zt v14 v15 8 q18 (-1) (-1) 32 v22 v33 v52 v53 v54 g1 μ fv (kk + 1) tt 2 hW hL_h0 hT_h0 hL_g1 hT_g1 hk4a (by first | omega | assumption | exact Or.inl rfl) (by first | omega | assumption | exact Or.inl rfl) (by first | omega | assumption | exact Or.inl rfl) (by first | omega | assumption | exact Or.inl rfl) (by first | omega | assumption | exact Or.inl rfl) hF_58 (by first | omega | assumption | exact Or.inl rfl) (by first | omega | assumption | exact Or.inl rfl) (by first | omega | assumption | exact Or.inl rfl) (rfl)) ⟨callB_of 4 hts (gi kt_760) rfl rfl rfl (hts _ kt_669) (hts _ kt_761) (by decide +kernel) ⟨Nat.le_of_ble_eq_true rfl, Nat.le_of_ble_eq_true rfl⟩, (hts _ kt_762), (hts _ kt_763)⟩ ⟨fun a U g mk q => ⟨q.1, PTm.calling q.2⟩, pg_recv hK hP hL_h0 hk4a (q := (RX15, TX15, 59)) rfl, fun U hU hWm => ⟨rfl, PTm.mk hU hWm hP hK hD hE hO⟩⟩ rfl rfl hl.1 rfl (lv_room (Nat.le_of_ble_eq_true rfl)) dX15_readTerm_332 ⟨by show _ + 0 ≤ 0; omega, by show _ + 0 ≤ 0; omega⟩) hS (fun q _ h => hFc q h) hFc (fun u t H1 locs ht hvm hw hB hz1 hk1 hS => ?_)
                        obtain ⟨F_315, u17_316, u19_317, u20_318, u21_319, hB1, hq_320, hq_321⟩ := hB
                        obtain ⟨hP, hD, hO, hR⟩ := QTm.back hB1 ht hFc hR (fun q h => by simp only [List.mem_cons, List.not_mem_nil, or_false] at h ⊢; omega)
                        have hF_322 : F_315 g1 = .inl (cs 17, 700, .inl fv) := (hB1.2.2.2 g1 (by rw [hT_g1]; simp only [List.mem_cons, List.not_mem_nil, or_false]; omega)).trans hF_58
                        generalize H1 = H at hP hS ⊢
                        refine lv_goto (tgt := 392) hx hb dX15_readTerm_335 (by decide) ?_
                        refine W.widen (k := 0) (n := 0) (by omega) (by omega) ?_
                        exact jn_59 (u17_316, u19_317, u20_318, u21_319, v22) F_315 (⟨hq_320, hq_321.imp id (fun h => ⟨by rw [h.1]; decide, h.2⟩), fun h5 h9 => (c0_ne (by have h8 := (nm1 hw_189 c_190).2; rw [gA_fun hF_58] at h8; exact h8) (by omega) (hk3a h5) h9 (by decide)).elim⟩) hO hR _ _ hP hD hS ls (lv_sub hl [0, 1, 2, 3, 4, 5] rfl)
              ·
                have hb218 := (nm1 hw_183 c_184).1
                refine lv_aload_n hx hb dX15_readTerm_224 rfl (lv_at hl 3 rfl) ?_
                refine lv_iload hx hb dX15_readTerm_225 (lv_at hl 1 rfl) ?_
                refine lv_iload_n hx hb dX15_readTerm_227 rfl (lv_at hl 5 rfl) ?_
                have hFc := pg_free hD hS hA
                refine va_calli (va_runS (As := [.ref g1, .int (nI kk), .int (nI tt)]) (rest := []) ⟨hx, hb, hml, hown, hts⟩ (s_X15_slashOf l dC dI cs ty gm L H.size F_55 g1 μ 700 kk tt hW hL_g1 hT_g1 (by first | omega | assumption | exact Or.inl rfl) (by first | omega | assumption | exact Or.inl rfl)) ⟨callB_of 3 hts (gi kt_746) rfl rfl rfl (hts _ kt_669) (hts _ kt_747) (by decide +kernel) ⟨Nat.le_of_ble_eq_true rfl, Nat.le_of_ble_eq_true rfl⟩, (hts _ kt_748)⟩ ⟨fun a U g mk q => ⟨q.1, PTm.calling q.2⟩, fun U hU hWm => ⟨rfl, PTm.mk hU hWm hP hK hD hE hO⟩⟩ rfl rfl hl.1 rfl (lv_room (Nat.le_of_ble_eq_true rfl)) dX15_readTerm_228 ⟨by show _ + 0 ≤ 0; omega, by show _ + 0 ≤ 0; omega⟩) hS (fun q _ h => hFc q h) hFc (fun r_323 u t H1 locs ht hvm hw hB hz1 hk1 hS => ?_)
                obtain ⟨F_324, hB1⟩ := hB
                obtain rfl : F_55 = F_324 := (funext (fun a => hB1.2.2.2 a List.not_mem_nil)).symm
                obtain ⟨hP, hD, hO, hR⟩ := QTm.back hB1 ht hFc hR (fun q h => absurd h List.not_mem_nil)
                generalize H1 = H at hP hS ⊢
                have hw : (∃ k : Nat, kk ≤ k ∧ k ≤ max kk tt ∧ r_323 = nI k) := hw
                have hw_325 := hw
                obtain ⟨k_326, hk_326a, hk_326b, ek_326⟩ := hw_325
                subst ek_326
                refine lv_istore (lv' := [(6, .int (nI k_326)), (5, .int s5), (4, .int (nI kk)), (0, .ref h0), (1, .ref g1), (2, .int (nI a)), (3, .int (nI tt))]) hx hb dX15_readTerm_231 hl (by decide) rfl (fun ls hl => ?_)
                have hF_329 : F g1 = .inl (cs 17, 700, .inl fv) := (hR g1 (by rw [hT_g1]; simp only [List.mem_cons, List.not_mem_nil, or_false]; omega)).symm.trans hF_58
                refine W.widen (k := 0) (n := 0) (by omega) (by omega) ?_
                refine pl_cutm (σ := Int32) A (dC, dI) cs ty gm L [ρ] F 252 7 (fun y21 => [(6, .int (nI k_326)), (5, .int s5), (4, .int (nI kk)), (0, .ref h0), (1, .ref g1), (2, .int (nI a)), (3, .int (nI tt))]) (fun y21 => []) (fun y21 FF => FF h0 = .inr (15, (.ref ta) :: (.int (nI zt)) :: (.int (nI zo)) :: (.int (nI ze)) :: (.ref ou) :: (.ref so) :: (.ref ad) :: (.ref na) :: (.ref va) :: (.ref lc) :: (.ref dm) :: (.int (nI fm)) :: (.int (nI sn)) :: (.ref tg) :: (.int v14) :: (.int v15) :: (.ref pe) :: (.int 8) :: (.int q18) :: (.int (-1)) :: (.int (-1)) :: (.int y21) :: (.int v22) :: (.ref ml) :: (.ref bg) :: (.ref co) :: (.ref sp) :: (.ref nb0) :: (.ref nb1) :: (.ref nb2) :: (.int (nI nf)) :: (.int (nI bd)) :: (.int (nI mm)) :: (.int v33) :: (.ref pl) :: (.ref se) :: (.ref ke) :: (.ref wi) :: (.ref hs) :: (.ref mo) :: (.ref po) :: (.ref nu) :: (.ref pr) :: (.ref sq) :: (.ref xa) :: (.ref sa) :: (.ref n64) :: (.ref m64) :: (.ref ex) :: (.ref wh) :: (.ref sd) :: (.ref tk) :: (.int v52) :: (.int v53) :: (.int v54) :: (.ref hd) :: (.ref ak) :: (.ref ho) :: (.ref ot) :: [])) ?_ (fun jn_327 => ?_)
                ·
                  rintro y21 F_328 hv_330 hO hR H locs hP hD hS ls hl
                  have hl : lv_has ls 7 [(6, .int (nI k_326)), (5, .int s5), (4, .int (nI kk)), (0, .ref h0), (1, .ref g1), (2, .int (nI a)), (3, .int (nI tt))] := hl
                  have hv_330 : F_328 h0 = .inr (15, (.ref ta) :: (.int (nI zt)) :: (.int (nI zo)) :: (.int (nI ze)) :: (.ref ou) :: (.ref so) :: (.ref ad) :: (.ref na) :: (.ref va) :: (.ref lc) :: (.ref dm) :: (.int (nI fm)) :: (.int (nI sn)) :: (.ref tg) :: (.int v14) :: (.int v15) :: (.ref pe) :: (.int 8) :: (.int q18) :: (.int (-1)) :: (.int (-1)) :: (.int y21) :: (.int v22) :: (.ref ml) :: (.ref bg) :: (.ref co) :: (.ref sp) :: (.ref nb0) :: (.ref nb1) :: (.ref nb2) :: (.int (nI nf)) :: (.int (nI bd)) :: (.int (nI mm)) :: (.int v33) :: (.ref pl) :: (.ref se) :: (.ref ke) :: (.ref wi) :: (.ref hs) :: (.ref mo) :: (.ref po) :: (.ref nu) :: (.ref pr) :: (.ref sq) :: (.ref xa) :: (.ref sa) :: (.ref n64) :: (.ref m64) :: (.ref ex) :: (.ref wh) :: (.ref sd) :: (.ref tk) :: (.int v52) :: (.int v53) :: (.int v54) :: (.ref hd) :: (.ref ak) :: (.ref ho) :: (.ref ot) :: []) := hv_330
                  refine W.eq (g2 := F0 m 252 ls []) rfl ?_
                  have hF_331 : F_328 g1 = .inl (cs 17, 700, .inl fv) := (hR g1 (by rw [hT_g1]; simp only [List.mem_cons, List.not_mem_nil, or_false]; omega)).trans hF_329
                  refine lv_aload_n hx hb dX15_readTerm_252 rfl (lv_at hl 3 rfl) ?_
                  refine lv_aload_n hx hb dX15_readTerm_253 rfl (lv_at hl 4 rfl) ?_
                  refine lv_iload hx hb dX15_readTerm_254 (lv_at hl 2 rfl) ?_
                  refine lv_iconst (v := 4) hx hb dX15_readTerm_256 (by decide) ?_
                  refine lv_iadd hx hb dX15_readTerm_257 ?_
                  refine lv_topi (fun x_332 ex_332 => ?_)
                  obtain rfl : x_332 = (nI (kk + 4)) := ex_332.trans (nI_add kk 4)
                  refine lv_iload hx hb dX15_readTerm_258 (lv_at hl 0 rfl) ?_
                  have hFc := pg_free hD hS hA
                  refine va_calli (va_runV (As := [.ref g1, .int (nI (kk + 4)), .int (nI k_326)]) (rest := []) ⟨hx, hb, hml, hown, hts⟩ (s_X15_isQuad l dC dI cs ty gm L H.size F_328 h0 ρ ta ou so ad na va lc dm tg pe ml bg co sp nb0 nb1 nb2 pl se ke wi hs mo po nu pr sq xa sa n64 m64 ex wh sd tk hd ak ho ot sx s0 s1 s2 nf bd mm zo fm sn hg gc gv ze zt v14 v15 8 q18 (-1) (-1) y21 v22 v33 v52 v53 v54 g1 μ fv (kk + 4) k_326 hW hL_h0 hT_h0 hL_g1 hT_g1 hv_330 (by first | omega | assumption | exact Or.inl rfl) (by first | omega | assumption | exact Or.inl rfl) (by first | omega | assumption | exact Or.inl rfl) (by first | omega | assumption | exact Or.inl rfl) (by first | omega | assumption | exact Or.inl rfl) hF_331 (by first | omega | assumption | exact Or.inl rfl) (by first | omega | assumption | exact Or.inl rfl) (by first | omega | assumption | exact Or.inl rfl)) ⟨callB_of 3 hts (gi kt_764) rfl rfl rfl (hts _ kt_669) (hts _ kt_765) (by decide +kernel) ⟨Nat.le_of_ble_eq_true rfl, Nat.le_of_ble_eq_true rfl⟩, (hts _ kt_766), (hts _ kt_767)⟩ ⟨fun a U g mk q => ⟨q.1, PTm.calling q.2⟩, pg_recv hK hP hL_h0 hv_330 (q := (RX15, TX15, 59)) rfl, fun U hU hWm => ⟨rfl, PTm.mk hU hWm hP hK hD hE hO⟩⟩ rfl rfl hl.1 rfl (lv_room (Nat.le_of_ble_eq_true rfl)) dX15_readTerm_260 ⟨by show _ + 0 ≤ 0; omega, by show _ + 0 ≤ 0; omega⟩) hS (fun q _ h => hFc q h) hFc (fun r_333 u t H1 locs ht hvm hw hB hz1 hk1 hS => ?_)
                  obtain ⟨F_334, u22_335, hB1, hq_336⟩ := hB
                  obtain ⟨hP, hD, hO, hR⟩ := QTm.back hB1 ht hFc hR (fun q h => by simp only [List.mem_cons, List.not_mem_nil, or_false] at h ⊢; omega)
                  have hF_337 : F_334 g1 = .inl (cs 17, 700, .inl fv) := (hB1.2.2.2 g1 (by rw [hT_g1]; simp only [List.mem_cons, List.not_mem_nil, or_false]; omega)).trans hF_331
                  generalize H1 = H at hP hS ⊢
                  have hw : (r_333 = 0 ∨ r_333 = 1) := hw
                  have hw_338 := hw
                  refine lv_if_eq (tgt := 278) hx hb dX15_readTerm_263 (by decide) (fun c_339 => ?_) (fun c_339 => ?_)
                  ·
                    refine lv_goto (tgt := 392) hx hb dX15_readTerm_278 (by decide) ?_
                    refine W.widen (k := 0) (n := 0) (by omega) (by omega) ?_
                    exact jn_59 (8, (-1), (-1), y21, u22_335) F_334 (⟨hq_336, Or.inl rfl, fun _ _ => rfl⟩) hO hR _ _ hP hD hS ls (lv_sub hl [1, 2, 3, 4, 5, 6] rfl)
                  ·
                    refine lv_aload_n hx hb dX15_readTerm_266 rfl (lv_at hl 3 rfl) ?_
                    refine pg_get (ci := 15) (v := .int y21) (C := RX15) (T := TX15) (N := 59) hx hb hts it_15 hown hK hP hL_h0 hq_336 rfl 21 (by decide) (hts _ kt_749) (fun _ h9 => h9) rfl dX15_readTerm_267 ?_
                    refine lv_if_lt (tgt := 278) hx hb dX15_readTerm_270 (by decide) (fun c_340 => ?_) (fun c_340 => ?_)
                    ·
                      refine lv_goto (tgt := 392) hx hb dX15_readTerm_278 (by decide) ?_
                      refine W.widen (k := 0) (n := 0) (by omega) (by omega) ?_
                      exact jn_59 (8, (-1), (-1), y21, u22_335) F_334 (⟨hq_336, Or.inl rfl, fun _ _ => rfl⟩) hO hR _ _ hP hD hS ls (lv_sub hl [1, 2, 3, 4, 5, 6] rfl)
                    ·
                      refine lv_aload_n hx hb dX15_readTerm_273 rfl (lv_at hl 3 rfl) ?_
                      refine lv_iconst (v := 4) hx hb dX15_readTerm_274 (by decide) ?_
                      refine pg_put (ci := 15) (v := .int 4) (ty := .int) (C := RX15) (T := TX15) (N := 59) hx hb hts it_15 tyX15 tyX15_ok nmX15 hown hK hP hD hS hL_h0 hq_336 rfl 17 (by decide) (hts _ kt_750) (fun _ h9 => h9) rfl (by decide +kernel) (rfl) (rfl) (Nat.le_of_ble_eq_true rfl) dX15_readTerm_275 (fun H locs hP hD hS => ?_)
                      obtain ⟨F_341, he_342, hP, hD, hO, hR⟩ : ∃ G, G = va_up F_334 h0 (.inr (15, (.ref ta) :: (.int (nI zt)) :: (.int (nI zo)) :: (.int (nI ze)) :: (.ref ou) :: (.ref so) :: (.ref ad) :: (.ref na) :: (.ref va) :: (.ref lc) :: (.ref dm) :: (.int (nI fm)) :: (.int (nI sn)) :: (.ref tg) :: (.int v14) :: (.int v15) :: (.ref pe) :: (.int 4) :: (.int q18) :: (.int (-1)) :: (.int (-1)) :: (.int y21) :: (.int u22_335) :: (.ref ml) :: (.ref bg) :: (.ref co) :: (.ref sp) :: (.ref nb0) :: (.ref nb1) :: (.ref nb2) :: (.int (nI nf)) :: (.int (nI bd)) :: (.int (nI mm)) :: (.int v33) :: (.ref pl) :: (.ref se) :: (.ref ke) :: (.ref wi) :: (.ref hs) :: (.ref mo) :: (.ref po) :: (.ref nu) :: (.ref pr) :: (.ref sq) :: (.ref xa) :: (.ref sa) :: (.ref n64) :: (.ref m64) :: (.ref ex) :: (.ref wh) :: (.ref sd) :: (.ref tk) :: (.int v52) :: (.int v53) :: (.int v54) :: (.ref hd) :: (.ref ak) :: (.ref ho) :: (.ref ot) :: [])) ∧ va_P (dC, dI) vwCl (va_pl L G) H ∧ va_D A (va_pl L G) ∧ OKm cs ty gm L G ∧ FR ty [ρ] F G := ⟨_, rfl, hP, hD, hO.up (shm.mod hT_h0 ⟨v14, v15, 4, q18, (-1), (-1), y21, u22_335, v33, v52, v53, v54, rfl, (by first | omega | assumption | exact Or.inl rfl | exact Or.inr rfl), (by first | omega | assumption | exact Or.inl rfl | exact Or.inr rfl), (by first | omega | assumption | exact Or.inl rfl | exact Or.inr rfl), (by first | omega | assumption | exact Or.inl rfl | exact Or.inr rfl), (by first | omega | assumption | exact Or.inl rfl | exact Or.inr rfl)⟩), hR.up hT_h0 (by simp)⟩
                      have hF_343 : F_341 h0 = .inr (15, (.ref ta) :: (.int (nI zt)) :: (.int (nI zo)) :: (.int (nI ze)) :: (.ref ou) :: (.ref so) :: (.ref ad) :: (.ref na) :: (.ref va) :: (.ref lc) :: (.ref dm) :: (.int (nI fm)) :: (.int (nI sn)) :: (.ref tg) :: (.int v14) :: (.int v15) :: (.ref pe) :: (.int 4) :: (.int q18) :: (.int (-1)) :: (.int (-1)) :: (.int y21) :: (.int u22_335) :: (.ref ml) :: (.ref bg) :: (.ref co) :: (.ref sp) :: (.ref nb0) :: (.ref nb1) :: (.ref nb2) :: (.int (nI nf)) :: (.int (nI bd)) :: (.int (nI mm)) :: (.int v33) :: (.ref pl) :: (.ref se) :: (.ref ke) :: (.ref wi) :: (.ref hs) :: (.ref mo) :: (.ref po) :: (.ref nu) :: (.ref pr) :: (.ref sq) :: (.ref xa) :: (.ref sa) :: (.ref n64) :: (.ref m64) :: (.ref ex) :: (.ref wh) :: (.ref sd) :: (.ref tk) :: (.int v52) :: (.int v53) :: (.int v54) :: (.ref hd) :: (.ref ak) :: (.ref ho) :: (.ref ot) :: []) := by rw [he_342]; exact up_self
                      have hF_344 : F_341 g1 = .inl (cs 17, 700, .inl fv) := by rw [he_342, up_ne (ne_ty hT_g1 hT_h0 (by simp))]; exact hF_337
                      refine lv_goto (tgt := 392) hx hb dX15_readTerm_278 (by decide) ?_
                      refine W.widen (k := 0) (n := 0) (by omega) (by omega) ?_
                      exact jn_59 (4, (-1), (-1), y21, u22_335) F_341 (⟨hF_343, Or.inr ⟨(Or.inr (Or.inr (Or.inr (Or.inr (Or.inl rfl))))), Or.inl rfl⟩, fun h5 h9 => (c0_ne (by have h8 := (nm1 hw_183 c_184).2; rw [gA_fun hF_58] at h8; exact h8) (by omega) (hk3a h5) h9 (by decide)).elim⟩) hO hR _ _ hP hD hS ls (lv_sub hl [1, 2, 3, 4, 5, 6] rfl)
                ·
                  refine lv_iload hx hb dX15_readTerm_233 (lv_at hl 0 rfl) ?_
                  refine lv_iload_n hx hb dX15_readTerm_235 rfl (lv_at hl 6 rfl) ?_
                  refine lv_icmp_ge (tgt := 252) hx hb dX15_readTerm_236 (by decide) (fun c_345 => ?_) (fun c_345 => ?_)
                  ·
                    have hi_346 : tt ≤ k_326 := leN (N := tt) c_345
                    refine W.widen (k := 0) (n := 0) (by omega) (by omega) ?_
                    exact jn_327 32 F_55 (hk4a) hO hR _ _ hP hD hS ls (lv_sub hl [0, 1, 2, 3, 4, 5, 6] rfl)
                  ·
                    have hi_347 : k_326 < tt := ltN (N := tt) c_345
                    refine lv_aload_n hx hb dX15_readTerm_239 rfl (lv_at hl 3 rfl) ?_
                    refine lv_aload_n hx hb dX15_readTerm_240 rfl (lv_at hl 4 rfl) ?_
                    refine lv_iload hx hb dX15_readTerm_241 (lv_at hl 0 rfl) ?_
                    refine lv_iconst (v := 1) hx hb dX15_readTerm_243 (by decide) ?_
                    refine lv_iadd hx hb dX15_readTerm_244 ?_
                    refine lv_topi (fun x_348 ex_348 => ?_)
                    obtain rfl : x_348 = (nI (k_326 + 1)) := ex_348.trans (nI_add k_326 1)
                    refine lv_iload_n hx hb dX15_readTerm_245 rfl (lv_at hl 6 rfl) ?_
                    have hFc := pg_free hD hS hA
                    refine va_calli (va_runS (As := [.ref g1, .int (nI (k_326 + 1)), .int (nI tt)]) (rest := [.ref h0]) ⟨hx, hb, hml, hown, hts⟩ (s_X15_bits l dC dI cs ty gm L H.size F_55 g1 μ 700 (k_326 + 1) tt hW hL_g1 hT_g1 (by first | omega | assumption | exact Or.inl rfl) (by first | omega | assumption | exact Or.inl rfl)) ⟨callB_of 3 hts (gi kt_756) rfl rfl rfl (hts _ kt_669) (hts _ kt_757) (by decide +kernel) ⟨Nat.le_of_ble_eq_true rfl, Nat.le_of_ble_eq_true rfl⟩, (hts _ kt_758)⟩ ⟨fun a U g mk q => ⟨q.1, PTm.calling q.2⟩, fun U hU hWm => ⟨rfl, PTm.mk hU hWm hP hK hD hE hO⟩⟩ rfl rfl hl.1 rfl (lv_room (Nat.le_of_ble_eq_true rfl)) dX15_readTerm_246 ⟨by show _ + 0 ≤ 0; omega, by show _ + 0 ≤ 0; omega⟩) hS (fun q _ h => hFc q h) hFc (fun r_349 u t H1 locs ht hvm hw hB hz1 hk1 hS => ?_)
                    obtain ⟨F_350, hB1⟩ := hB
                    obtain rfl : F_55 = F_350 := (funext (fun a => hB1.2.2.2 a List.not_mem_nil)).symm
                    obtain ⟨hP, hD, hO, hR⟩ := QTm.back hB1 ht hFc hR (fun q h => absurd h List.not_mem_nil)
                    generalize H1 = H at hP hS ⊢
                    have hw : True := hw
                    have hw_351 := hw
                    refine pg_put (ci := 15) (v := .int r_349) (ty := .int) (C := RX15) (T := TX15) (N := 59) hx hb hts it_15 tyX15 tyX15_ok nmX15 hown hK hP hD hS hL_h0 hk4a rfl 21 (by decide) (hts _ kt_749) (fun _ h9 => h9) rfl (by decide +kernel) (rfl) (rfl) (Nat.le_of_ble_eq_true rfl) dX15_readTerm_249 (fun H locs hP hD hS => ?_)
                    obtain ⟨F_352, he_353, hP, hD, hO, hR⟩ : ∃ G, G = va_up F_55 h0 (.inr (15, (.ref ta) :: (.int (nI zt)) :: (.int (nI zo)) :: (.int (nI ze)) :: (.ref ou) :: (.ref so) :: (.ref ad) :: (.ref na) :: (.ref va) :: (.ref lc) :: (.ref dm) :: (.int (nI fm)) :: (.int (nI sn)) :: (.ref tg) :: (.int v14) :: (.int v15) :: (.ref pe) :: (.int 8) :: (.int q18) :: (.int (-1)) :: (.int (-1)) :: (.int r_349) :: (.int v22) :: (.ref ml) :: (.ref bg) :: (.ref co) :: (.ref sp) :: (.ref nb0) :: (.ref nb1) :: (.ref nb2) :: (.int (nI nf)) :: (.int (nI bd)) :: (.int (nI mm)) :: (.int v33) :: (.ref pl) :: (.ref se) :: (.ref ke) :: (.ref wi) :: (.ref hs) :: (.ref mo) :: (.ref po) :: (.ref nu) :: (.ref pr) :: (.ref sq) :: (.ref xa) :: (.ref sa) :: (.ref n64) :: (.ref m64) :: (.ref ex) :: (.ref wh) :: (.ref sd) :: (.ref tk) :: (.int v52) :: (.int v53) :: (.int v54) :: (.ref hd) :: (.ref ak) :: (.ref ho) :: (.ref ot) :: [])) ∧ va_P (dC, dI) vwCl (va_pl L G) H ∧ va_D A (va_pl L G) ∧ OKm cs ty gm L G ∧ FR ty [ρ] F G := ⟨_, rfl, hP, hD, hO.up (shm.mod hT_h0 ⟨v14, v15, 8, q18, (-1), (-1), r_349, v22, v33, v52, v53, v54, rfl, (by first | omega | assumption | exact Or.inl rfl | exact Or.inr rfl), (by first | omega | assumption | exact Or.inl rfl | exact Or.inr rfl), (by first | omega | assumption | exact Or.inl rfl | exact Or.inr rfl), (by first | omega | assumption | exact Or.inl rfl | exact Or.inr rfl), (by first | omega | assumption | exact Or.inl rfl | exact Or.inr rfl)⟩), hR.up hT_h0 (by simp)⟩
                    have hF_354 : F_352 h0 = .inr (15, (.ref ta) :: (.int (nI zt)) :: (.int (nI zo)) :: (.int (nI ze)) :: (.ref ou) :: (.ref so) :: (.ref ad) :: (.ref na) :: (.ref va) :: (.ref lc) :: (.ref dm) :: (.int (nI fm)) :: (.int (nI sn)) :: (.ref tg) :: (.int v14) :: (.int v15) :: (.ref pe) :: (.int 8) :: (.int q18) :: (.int (-1)) :: (.int (-1)) :: (.int r_349) :: (.int v22) :: (.ref ml) :: (.ref bg) :: (.ref co) :: (.ref sp) :: (.ref nb0) :: (.ref nb1) :: (.ref nb2) :: (.int (nI nf)) :: (.int (nI bd)) :: (.int (nI mm)) :: (.int v33) :: (.ref pl) :: (.ref se) :: (.ref ke) :: (.ref wi) :: (.ref hs) :: (.ref mo) :: (.ref po) :: (.ref nu) :: (.ref pr) :: (.ref sq) :: (.ref xa) :: (.ref sa) :: (.ref n64) :: (.ref m64) :: (.ref ex) :: (.ref wh) :: (.ref sd) :: (.ref tk) :: (.int v52) :: (.int v53) :: (.int v54) :: (.ref hd) :: (.ref ak) :: (.ref ho) :: (.ref ot) :: []) := by rw [he_353]; exact up_self
                    have hF_355 : F_352 g1 = .inl (cs 17, 700, .inl fv) := by rw [he_353, up_ne (ne_ty hT_g1 hT_h0 (by simp))]; exact hF_58
                    refine W.widen (k := 0) (n := 0) (by omega) (by omega) ?_
                    exact jn_327 r_349 F_352 (hF_354) hO hR _ _ hP hD hS ls (lv_sub hl [0, 1, 2, 3, 4, 5, 6] rfl)
            ·
              have hb167 := (nm1 hw_177 c_178).1
              refine lv_aload_n hx hb dX15_readTerm_173 rfl (lv_at hl 2 rfl) ?_
              refine lv_iload hx hb dX15_readTerm_174 (lv_at hl 1 rfl) ?_
              refine lv_bipush (v := 7) hx hb dX15_readTerm_176 (by decide) ?_
              refine lv_iadd hx hb dX15_readTerm_178 ?_
              refine lv_topi (fun x_356 ex_356 => ?_)
              obtain rfl : x_356 = (nI (kk + 7)) := ex_356.trans (nI_add kk 7)
              refine pg_put (ci := 15) (v := .int (nI (kk + 7))) (ty := .int) (C := RX15) (T := TX15) (N := 59) hx hb hts it_15 tyX15 tyX15_ok nmX15 hown hK hP hD hS hL_h0 hk4a rfl 19 (by decide) (hts _ kt_751) (fun _ h9 => h9) rfl (by decide +kernel) (rfl) (rfl) (Nat.le_of_ble_eq_true rfl) dX15_readTerm_179 (fun H locs hP hD hS => ?_)
              obtain ⟨F_357, he_358, hP, hD, hO, hR⟩ : ∃ G, G = va_up F_55 h0 (.inr (15, (.ref ta) :: (.int (nI zt)) :: (.int (nI zo)) :: (.int (nI ze)) :: (.ref ou) :: (.ref so) :: (.ref ad) :: (.ref na) :: (.ref va) :: (.ref lc) :: (.ref dm) :: (.int (nI fm)) :: (.int (nI sn)) :: (.ref tg) :: (.int v14) :: (.int v15) :: (.ref pe) :: (.int 8) :: (.int q18) :: (.int (nI (kk + 7))) :: (.int (-1)) :: (.int 32) :: (.int v22) :: (.ref ml) :: (.ref bg) :: (.ref co) :: (.ref sp) :: (.ref nb0) :: (.ref nb1) :: (.ref nb2) :: (.int (nI nf)) :: (.int (nI bd)) :: (.int (nI mm)) :: (.int v33) :: (.ref pl) :: (.ref se) :: (.ref ke) :: (.ref wi) :: (.ref hs) :: (.ref mo) :: (.ref po) :: (.ref nu) :: (.ref pr) :: (.ref sq) :: (.ref xa) :: (.ref sa) :: (.ref n64) :: (.ref m64) :: (.ref ex) :: (.ref wh) :: (.ref sd) :: (.ref tk) :: (.int v52) :: (.int v53) :: (.int v54) :: (.ref hd) :: (.ref ak) :: (.ref ho) :: (.ref ot) :: [])) ∧ va_P (dC, dI) vwCl (va_pl L G) H ∧ va_D A (va_pl L G) ∧ OKm cs ty gm L G ∧ FR ty [ρ] F G := ⟨_, rfl, hP, hD, hO.up (shm.mod hT_h0 ⟨v14, v15, 8, q18, (nI (kk + 7)), (-1), 32, v22, v33, v52, v53, v54, rfl, (by first | omega | assumption | exact Or.inl rfl | exact Or.inr rfl), (by first | omega | assumption | exact Or.inl rfl | exact Or.inr rfl), (by first | omega | assumption | exact Or.inl rfl | exact Or.inr rfl), (by first | omega | assumption | exact Or.inl rfl | exact Or.inr rfl), (by first | omega | assumption | exact Or.inl rfl | exact Or.inr rfl)⟩), hR.up hT_h0 (by simp)⟩
              have hF_359 : F_357 h0 = .inr (15, (.ref ta) :: (.int (nI zt)) :: (.int (nI zo)) :: (.int (nI ze)) :: (.ref ou) :: (.ref so) :: (.ref ad) :: (.ref na) :: (.ref va) :: (.ref lc) :: (.ref dm) :: (.int (nI fm)) :: (.int (nI sn)) :: (.ref tg) :: (.int v14) :: (.int v15) :: (.ref pe) :: (.int 8) :: (.int q18) :: (.int (nI (kk + 7))) :: (.int (-1)) :: (.int 32) :: (.int v22) :: (.ref ml) :: (.ref bg) :: (.ref co) :: (.ref sp) :: (.ref nb0) :: (.ref nb1) :: (.ref nb2) :: (.int (nI nf)) :: (.int (nI bd)) :: (.int (nI mm)) :: (.int v33) :: (.ref pl) :: (.ref se) :: (.ref ke) :: (.ref wi) :: (.ref hs) :: (.ref mo) :: (.ref po) :: (.ref nu) :: (.ref pr) :: (.ref sq) :: (.ref xa) :: (.ref sa) :: (.ref n64) :: (.ref m64) :: (.ref ex) :: (.ref wh) :: (.ref sd) :: (.ref tk) :: (.int v52) :: (.int v53) :: (.int v54) :: (.ref hd) :: (.ref ak) :: (.ref ho) :: (.ref ot) :: []) := by rw [he_358]; exact up_self
              have hF_360 : F_357 g1 = .inl (cs 17, 700, .inl fv) := by rw [he_358, up_ne (ne_ty hT_g1 hT_h0 (by simp))]; exact hF_58
              refine lv_aload_n hx hb dX15_readTerm_182 rfl (lv_at hl 2 rfl) ?_
              refine lv_iload_n hx hb dX15_readTerm_183 rfl (lv_at hl 5 rfl) ?_
              refine pg_put (ci := 15) (v := .int (nI tt)) (ty := .int) (C := RX15) (T := TX15) (N := 59) hx hb hts it_15 tyX15 tyX15_ok nmX15 hown hK hP hD hS hL_h0 hF_359 rfl 20 (by decide) (hts _ kt_752) (fun _ h9 => h9) rfl (by decide +kernel) (rfl) (rfl) (Nat.le_of_ble_eq_true rfl) dX15_readTerm_184 (fun H locs hP hD hS => ?_)
              obtain ⟨F_361, he_362, hP, hD, hO, hR⟩ : ∃ G, G = va_up F_357 h0 (.inr (15, (.ref ta) :: (.int (nI zt)) :: (.int (nI zo)) :: (.int (nI ze)) :: (.ref ou) :: (.ref so) :: (.ref ad) :: (.ref na) :: (.ref va) :: (.ref lc) :: (.ref dm) :: (.int (nI fm)) :: (.int (nI sn)) :: (.ref tg) :: (.int v14) :: (.int v15) :: (.ref pe) :: (.int 8) :: (.int q18) :: (.int (nI (kk + 7))) :: (.int (nI tt)) :: (.int 32) :: (.int v22) :: (.ref ml) :: (.ref bg) :: (.ref co) :: (.ref sp) :: (.ref nb0) :: (.ref nb1) :: (.ref nb2) :: (.int (nI nf)) :: (.int (nI bd)) :: (.int (nI mm)) :: (.int v33) :: (.ref pl) :: (.ref se) :: (.ref ke) :: (.ref wi) :: (.ref hs) :: (.ref mo) :: (.ref po) :: (.ref nu) :: (.ref pr) :: (.ref sq) :: (.ref xa) :: (.ref sa) :: (.ref n64) :: (.ref m64) :: (.ref ex) :: (.ref wh) :: (.ref sd) :: (.ref tk) :: (.int v52) :: (.int v53) :: (.int v54) :: (.ref hd) :: (.ref ak) :: (.ref ho) :: (.ref ot) :: [])) ∧ va_P (dC, dI) vwCl (va_pl L G) H ∧ va_D A (va_pl L G) ∧ OKm cs ty gm L G ∧ FR ty [ρ] F G := ⟨_, rfl, hP, hD, hO.up (shm.mod hT_h0 ⟨v14, v15, 8, q18, (nI (kk + 7)), (nI tt), 32, v22, v33, v52, v53, v54, rfl, (by first | omega | assumption | exact Or.inl rfl | exact Or.inr rfl), (by first | omega | assumption | exact Or.inl rfl | exact Or.inr rfl), (by first | omega | assumption | exact Or.inl rfl | exact Or.inr rfl), (by first | omega | assumption | exact Or.inl rfl | exact Or.inr rfl), (by first | omega | assumption | exact Or.inl rfl | exact Or.inr rfl)⟩), hR.up hT_h0 (by simp)⟩
              have hF_363 : F_361 h0 = .inr (15, (.ref ta) :: (.int (nI zt)) :: (.int (nI zo)) :: (.int (nI ze)) :: (.ref ou) :: (.ref so) :: (.ref ad) :: (.ref na) :: (.ref va) :: (.ref lc) :: (.ref dm) :: (.int (nI fm)) :: (.int (nI sn)) :: (.ref tg) :: (.int v14) :: (.int v15) :: (.ref pe) :: (.int 8) :: (.int q18) :: (.int (nI (kk + 7))) :: (.int (nI tt)) :: (.int 32) :: (.int v22) :: (.ref ml) :: (.ref bg) :: (.ref co) :: (.ref sp) :: (.ref nb0) :: (.ref nb1) :: (.ref nb2) :: (.int (nI nf)) :: (.int (nI bd)) :: (.int (nI mm)) :: (.int v33) :: (.ref pl) :: (.ref se) :: (.ref ke) :: (.ref wi) :: (.ref hs) :: (.ref mo) :: (.ref po) :: (.ref nu) :: (.ref pr) :: (.ref sq) :: (.ref xa) :: (.ref sa) :: (.ref n64) :: (.ref m64) :: (.ref ex) :: (.ref wh) :: (.ref sd) :: (.ref tk) :: (.int v52) :: (.int v53) :: (.int v54) :: (.ref hd) :: (.ref ak) :: (.ref ho) :: (.ref ot) :: []) := by rw [he_362]; exact up_self
              have hF_364 : F_361 g1 = .inl (cs 17, 700, .inl fv) := by rw [he_362, up_ne (ne_ty hT_g1 hT_h0 (by simp))]; exact hF_360
              refine lv_aload_n hx hb dX15_readTerm_187 rfl (lv_at hl 3 rfl) ?_
              refine lv_aload_n hx hb dX15_readTerm_188 rfl (lv_at hl 2 rfl) ?_
              refine pg_get (ci := 15) (v := .int (nI (kk + 7))) (C := RX15) (T := TX15) (N := 59) hx hb hts it_15 hown hK hP hL_h0 hF_363 rfl 19 (by decide) (hts _ kt_751) (fun _ h9 => h9) rfl dX15_readTerm_189 ?_
              refine lv_aload_n hx hb dX15_readTerm_192 rfl (lv_at hl 2 rfl) ?_
              refine pg_get (ci := 15) (v := .int (nI tt)) (C := RX15) (T := TX15) (N := 59) hx hb hts it_15 hown hK hP hL_h0 hF_363 rfl 20 (by decide) (hts _ kt_752) (fun _ h9 => h9) rfl dX15_readTerm_193 ?_
              refine lv_iconst (v := 1) hx hb dX15_readTerm_196 (by decide) ?_
              have hFc := pg_free hD hS hA
              refine va_calli (va_runS (As := [.ref g1, .int (nI (kk + 7)), .int (nI tt), .int 1]) (rest := []) ⟨hx, hb, hml, hown, hts⟩ (s_X15_isD l dC dI cs ty gm L H.size F_361 g1 μ 700 (kk + 7) tt 1 hW hL_g1 hT_g1 (by first | omega | assumption | exact Or.inl rfl) (by first | omega | assumption | exact Or.inl rfl)) ⟨callB_of 4 hts (gi kt_753) rfl rfl rfl (hts _ kt_669) (hts _ kt_754) (by decide +kernel) ⟨Nat.le_of_ble_eq_true rfl, Nat.le_of_ble_eq_true rfl⟩, (hts _ kt_755)⟩ ⟨fun a U g mk q => ⟨q.1, PTm.calling q.2⟩, fun U hU hWm => ⟨rfl, PTm.mk hU hWm hP hK hD hE hO⟩⟩ rfl rfl hl.1 rfl (lv_room (Nat.le_of_ble_eq_true rfl)) dX15_readTerm_197 ⟨by show _ + 0 ≤ 0; omega, by show _ + 0 ≤ 0; omega⟩) hS (fun q _ h => hFc q h) hFc (fun r_365 u t H1 locs ht hvm hw hB hz1 hk1 hS => ?_)
              obtain ⟨F_366, hB1⟩ := hB
              obtain rfl : F_361 = F_366 := (funext (fun a => hB1.2.2.2 a List.not_mem_nil)).symm
              obtain ⟨hP, hD, hO, hR⟩ := QTm.back hB1 ht hFc hR (fun q h => absurd h List.not_mem_nil)
              generalize H1 = H at hP hS ⊢
              have hw : (r_365 = 0 ∨ (r_365 = 1 ∧ (kk + 7) < tt ∧ ISD (gA (F_361 g1)) tt (kk + 7))) := hw
              have hw_367 := hw
              refine lv_if_eq (tgt := 392) hx hb dX15_readTerm_200 (by decide) (fun c_368 => ?_) (fun c_368 => ?_)
              ·
                refine W.widen (k := 0) (n := 0) (by omega) (by omega) ?_
                exact jn_59 (8, (nI (kk + 7)), (nI tt), 32, v22) F_361 (⟨hF_363, Or.inl rfl, fun _ _ => rfl⟩) hO hR _ _ hP hD hS ls (lv_sub hl [0, 1, 2, 3, 4, 5] rfl)
              ·
                refine lv_aload_n hx hb dX15_readTerm_203 rfl (lv_at hl 2 rfl) ?_
                refine lv_iconst (v := 5) hx hb dX15_readTerm_204 (by decide) ?_
                refine pg_put (ci := 15) (v := .int 5) (ty := .int) (C := RX15) (T := TX15) (N := 59) hx hb hts it_15 tyX15 tyX15_ok nmX15 hown hK hP hD hS hL_h0 hF_363 rfl 17 (by decide) (hts _ kt_750) (fun _ h9 => h9) rfl (by decide +kernel) (rfl) (rfl) (Nat.le_of_ble_eq_true rfl) dX15_readTerm_205 (fun H locs hP hD hS => ?_)
                obtain ⟨F_369, he_370, hP, hD, hO, hR⟩ : ∃ G, G = va_up F_361 h0 (.inr (15, (.ref ta) :: (.int (nI zt)) :: (.int (nI zo)) :: (.int (nI ze)) :: (.ref ou) :: (.ref so) :: (.ref ad) :: (.ref na) :: (.ref va) :: (.ref lc) :: (.ref dm) :: (.int (nI fm)) :: (.int (nI sn)) :: (.ref tg) :: (.int v14) :: (.int v15) :: (.ref pe) :: (.int 5) :: (.int q18) :: (.int (nI (kk + 7))) :: (.int (nI tt)) :: (.int 32) :: (.int v22) :: (.ref ml) :: (.ref bg) :: (.ref co) :: (.ref sp) :: (.ref nb0) :: (.ref nb1) :: (.ref nb2) :: (.int (nI nf)) :: (.int (nI bd)) :: (.int (nI mm)) :: (.int v33) :: (.ref pl) :: (.ref se) :: (.ref ke) :: (.ref wi) :: (.ref hs) :: (.ref mo) :: (.ref po) :: (.ref nu) :: (.ref pr) :: (.ref sq) :: (.ref xa) :: (.ref sa) :: (.ref n64) :: (.ref m64) :: (.ref ex) :: (.ref wh) :: (.ref sd) :: (.ref tk) :: (.int v52) :: (.int v53) :: (.int v54) :: (.ref hd) :: (.ref ak) :: (.ref ho) :: (.ref ot) :: [])) ∧ va_P (dC, dI) vwCl (va_pl L G) H ∧ va_D A (va_pl L G) ∧ OKm cs ty gm L G ∧ FR ty [ρ] F G := ⟨_, rfl, hP, hD, hO.up (shm.mod hT_h0 ⟨v14, v15, 5, q18, (nI (kk + 7)), (nI tt), 32, v22, v33, v52, v53, v54, rfl, (by first | omega | assumption | exact Or.inl rfl | exact Or.inr rfl), (by first | omega | assumption | exact Or.inl rfl | exact Or.inr rfl), (by first | omega | assumption | exact Or.inl rfl | exact Or.inr rfl), (by first | omega | assumption | exact Or.inl rfl | exact Or.inr rfl), (by first | omega | assumption | exact Or.inl rfl | exact Or.inr rfl)⟩), hR.up hT_h0 (by simp)⟩
                have hF_371 : F_369 h0 = .inr (15, (.ref ta) :: (.int (nI zt)) :: (.int (nI zo)) :: (.int (nI ze)) :: (.ref ou) :: (.ref so) :: (.ref ad) :: (.ref na) :: (.ref va) :: (.ref lc) :: (.ref dm) :: (.int (nI fm)) :: (.int (nI sn)) :: (.ref tg) :: (.int v14) :: (.int v15) :: (.ref pe) :: (.int 5) :: (.int q18) :: (.int (nI (kk + 7))) :: (.int (nI tt)) :: (.int 32) :: (.int v22) :: (.ref ml) :: (.ref bg) :: (.ref co) :: (.ref sp) :: (.ref nb0) :: (.ref nb1) :: (.ref nb2) :: (.int (nI nf)) :: (.int (nI bd)) :: (.int (nI mm)) :: (.int v33) :: (.ref pl) :: (.ref se) :: (.ref ke) :: (.ref wi) :: (.ref hs) :: (.ref mo) :: (.ref po) :: (.ref nu) :: (.ref pr) :: (.ref sq) :: (.ref xa) :: (.ref sa) :: (.ref n64) :: (.ref m64) :: (.ref ex) :: (.ref wh) :: (.ref sd) :: (.ref tk) :: (.int v52) :: (.int v53) :: (.int v54) :: (.ref hd) :: (.ref ak) :: (.ref ho) :: (.ref ot) :: []) := by rw [he_370]; exact up_self
                have hF_372 : F_369 g1 = .inl (cs 17, 700, .inl fv) := by rw [he_370, up_ne (ne_ty hT_g1 hT_h0 (by simp))]; exact hF_364
                refine lv_goto (tgt := 392) hx hb dX15_readTerm_208 (by decide) ?_
                refine W.widen (k := 0) (n := 0) (by omega) (by omega) ?_
                exact jn_59 (5, (nI (kk + 7)), (nI tt), 32, v22) F_369 (⟨hF_371, Or.inr ⟨(Or.inr (Or.inr (Or.inr (Or.inr (Or.inr rfl))))), Or.inr ⟨_, _, rfl, rfl, Nat.le_of_lt (bit1 hw_367 c_368).1, by omega, (by have h9 := (bit1 hw_367 c_368).2; rw [gA_fun hF_364] at h9; exact h9)⟩⟩, fun h5 h9 => (c0_ne (by have h8 := (nm1 hw_177 c_178).2; rw [gA_fun hF_58] at h8; exact h8) (by omega) (hk3a h5) h9 (by decide)).elim⟩) hO hR _ _ hP hD hS ls (lv_sub hl [0, 1, 2, 3, 4, 5] rfl)
          ·
            have hb116 := (nm1 hw_171 c_172).1
            refine lv_aload_n hx hb dX15_readTerm_122 rfl (lv_at hl 2 rfl) ?_
            refine lv_iload hx hb dX15_readTerm_123 (lv_at hl 1 rfl) ?_
            refine lv_bipush (v := 8) hx hb dX15_readTerm_125 (by decide) ?_
            refine lv_iadd hx hb dX15_readTerm_127 ?_
            refine lv_topi (fun x_373 ex_373 => ?_)
            obtain rfl : x_373 = (nI (kk + 8)) := ex_373.trans (nI_add kk 8)
            refine pg_put (ci := 15) (v := .int (nI (kk + 8))) (ty := .int) (C := RX15) (T := TX15) (N := 59) hx hb hts it_15 tyX15 tyX15_ok nmX15 hown hK hP hD hS hL_h0 hk4a rfl 19 (by decide) (hts _ kt_751) (fun _ h9 => h9) rfl (by decide +kernel) (rfl) (rfl) (Nat.le_of_ble_eq_true rfl) dX15_readTerm_128 (fun H locs hP hD hS => ?_)
            obtain ⟨F_374, he_375, hP, hD, hO, hR⟩ : ∃ G, G = va_up F_55 h0 (.inr (15, (.ref ta) :: (.int (nI zt)) :: (.int (nI zo)) :: (.int (nI ze)) :: (.ref ou) :: (.ref so) :: (.ref ad) :: (.ref na) :: (.ref va) :: (.ref lc) :: (.ref dm) :: (.int (nI fm)) :: (.int (nI sn)) :: (.ref tg) :: (.int v14) :: (.int v15) :: (.ref pe) :: (.int 8) :: (.int q18) :: (.int (nI (kk + 8))) :: (.int (-1)) :: (.int 32) :: (.int v22) :: (.ref ml) :: (.ref bg) :: (.ref co) :: (.ref sp) :: (.ref nb0) :: (.ref nb1) :: (.ref nb2) :: (.int (nI nf)) :: (.int (nI bd)) :: (.int (nI mm)) :: (.int v33) :: (.ref pl) :: (.ref se) :: (.ref ke) :: (.ref wi) :: (.ref hs) :: (.ref mo) :: (.ref po) :: (.ref nu) :: (.ref pr) :: (.ref sq) :: (.ref xa) :: (.ref sa) :: (.ref n64) :: (.ref m64) :: (.ref ex) :: (.ref wh) :: (.ref sd) :: (.ref tk) :: (.int v52) :: (.int v53) :: (.int v54) :: (.ref hd) :: (.ref ak) :: (.ref ho) :: (.ref ot) :: [])) ∧ va_P (dC, dI) vwCl (va_pl L G) H ∧ va_D A (va_pl L G) ∧ OKm cs ty gm L G ∧ FR ty [ρ] F G := ⟨_, rfl, hP, hD, hO.up (shm.mod hT_h0 ⟨v14, v15, 8, q18, (nI (kk + 8)), (-1), 32, v22, v33, v52, v53, v54, rfl, (by first | omega | assumption | exact Or.inl rfl | exact Or.inr rfl), (by first | omega | assumption | exact Or.inl rfl | exact Or.inr rfl), (by first | omega | assumption | exact Or.inl rfl | exact Or.inr rfl), (by first | omega | assumption | exact Or.inl rfl | exact Or.inr rfl), (by first | omega | assumption | exact Or.inl rfl | exact Or.inr rfl)⟩), hR.up hT_h0 (by simp)⟩
            have hF_376 : F_374 h0 = .inr (15, (.ref ta) :: (.int (nI zt)) :: (.int (nI zo)) :: (.int (nI ze)) :: (.ref ou) :: (.ref so) :: (.ref ad) :: (.ref na) :: (.ref va) :: (.ref lc) :: (.ref dm) :: (.int (nI fm)) :: (.int (nI sn)) :: (.ref tg) :: (.int v14) :: (.int v15) :: (.ref pe) :: (.int 8) :: (.int q18) :: (.int (nI (kk + 8))) :: (.int (-1)) :: (.int 32) :: (.int v22) :: (.ref ml) :: (.ref bg) :: (.ref co) :: (.ref sp) :: (.ref nb0) :: (.ref nb1) :: (.ref nb2) :: (.int (nI nf)) :: (.int (nI bd)) :: (.int (nI mm)) :: (.int v33) :: (.ref pl) :: (.ref se) :: (.ref ke) :: (.ref wi) :: (.ref hs) :: (.ref mo) :: (.ref po) :: (.ref nu) :: (.ref pr) :: (.ref sq) :: (.ref xa) :: (.ref sa) :: (.ref n64) :: (.ref m64) :: (.ref ex) :: (.ref wh) :: (.ref sd) :: (.ref tk) :: (.int v52) :: (.int v53) :: (.int v54) :: (.ref hd) :: (.ref ak) :: (.ref ho) :: (.ref ot) :: []) := by rw [he_375]; exact up_self
            have hF_377 : F_374 g1 = .inl (cs 17, 700, .inl fv) := by rw [he_375, up_ne (ne_ty hT_g1 hT_h0 (by simp))]; exact hF_58
            refine lv_aload_n hx hb dX15_readTerm_131 rfl (lv_at hl 2 rfl) ?_
            refine lv_iload_n hx hb dX15_readTerm_132 rfl (lv_at hl 5 rfl) ?_
            refine pg_put (ci := 15) (v := .int (nI tt)) (ty := .int) (C := RX15) (T := TX15) (N := 59) hx hb hts it_15 tyX15 tyX15_ok nmX15 hown hK hP hD hS hL_h0 hF_376 rfl 20 (by decide) (hts _ kt_752) (fun _ h9 => h9) rfl (by decide +kernel) (rfl) (rfl) (Nat.le_of_ble_eq_true rfl) dX15_readTerm_133 (fun H locs hP hD hS => ?_)
            obtain ⟨F_378, he_379, hP, hD, hO, hR⟩ : ∃ G, G = va_up F_374 h0 (.inr (15, (.ref ta) :: (.int (nI zt)) :: (.int (nI zo)) :: (.int (nI ze)) :: (.ref ou) :: (.ref so) :: (.ref ad) :: (.ref na) :: (.ref va) :: (.ref lc) :: (.ref dm) :: (.int (nI fm)) :: (.int (nI sn)) :: (.ref tg) :: (.int v14) :: (.int v15) :: (.ref pe) :: (.int 8) :: (.int q18) :: (.int (nI (kk + 8))) :: (.int (nI tt)) :: (.int 32) :: (.int v22) :: (.ref ml) :: (.ref bg) :: (.ref co) :: (.ref sp) :: (.ref nb0) :: (.ref nb1) :: (.ref nb2) :: (.int (nI nf)) :: (.int (nI bd)) :: (.int (nI mm)) :: (.int v33) :: (.ref pl) :: (.ref se) :: (.ref ke) :: (.ref wi) :: (.ref hs) :: (.ref mo) :: (.ref po) :: (.ref nu) :: (.ref pr) :: (.ref sq) :: (.ref xa) :: (.ref sa) :: (.ref n64) :: (.ref m64) :: (.ref ex) :: (.ref wh) :: (.ref sd) :: (.ref tk) :: (.int v52) :: (.int v53) :: (.int v54) :: (.ref hd) :: (.ref ak) :: (.ref ho) :: (.ref ot) :: [])) ∧ va_P (dC, dI) vwCl (va_pl L G) H ∧ va_D A (va_pl L G) ∧ OKm cs ty gm L G ∧ FR ty [ρ] F G := ⟨_, rfl, hP, hD, hO.up (shm.mod hT_h0 ⟨v14, v15, 8, q18, (nI (kk + 8)), (nI tt), 32, v22, v33, v52, v53, v54, rfl, (by first | omega | assumption | exact Or.inl rfl | exact Or.inr rfl), (by first | omega | assumption | exact Or.inl rfl | exact Or.inr rfl), (by first | omega | assumption | exact Or.inl rfl | exact Or.inr rfl), (by first | omega | assumption | exact Or.inl rfl | exact Or.inr rfl), (by first | omega | assumption | exact Or.inl rfl | exact Or.inr rfl)⟩), hR.up hT_h0 (by simp)⟩
            have hF_380 : F_378 h0 = .inr (15, (.ref ta) :: (.int (nI zt)) :: (.int (nI zo)) :: (.int (nI ze)) :: (.ref ou) :: (.ref so) :: (.ref ad) :: (.ref na) :: (.ref va) :: (.ref lc) :: (.ref dm) :: (.int (nI fm)) :: (.int (nI sn)) :: (.ref tg) :: (.int v14) :: (.int v15) :: (.ref pe) :: (.int 8) :: (.int q18) :: (.int (nI (kk + 8))) :: (.int (nI tt)) :: (.int 32) :: (.int v22) :: (.ref ml) :: (.ref bg) :: (.ref co) :: (.ref sp) :: (.ref nb0) :: (.ref nb1) :: (.ref nb2) :: (.int (nI nf)) :: (.int (nI bd)) :: (.int (nI mm)) :: (.int v33) :: (.ref pl) :: (.ref se) :: (.ref ke) :: (.ref wi) :: (.ref hs) :: (.ref mo) :: (.ref po) :: (.ref nu) :: (.ref pr) :: (.ref sq) :: (.ref xa) :: (.ref sa) :: (.ref n64) :: (.ref m64) :: (.ref ex) :: (.ref wh) :: (.ref sd) :: (.ref tk) :: (.int v52) :: (.int v53) :: (.int v54) :: (.ref hd) :: (.ref ak) :: (.ref ho) :: (.ref ot) :: []) := by rw [he_379]; exact up_self
            have hF_381 : F_378 g1 = .inl (cs 17, 700, .inl fv) := by rw [he_379, up_ne (ne_ty hT_g1 hT_h0 (by simp))]; exact hF_377
            refine lv_aload_n hx hb dX15_readTerm_136 rfl (lv_at hl 3 rfl) ?_
            refine lv_aload_n hx hb dX15_readTerm_137 rfl (lv_at hl 2 rfl) ?_
            refine pg_get (ci := 15) (v := .int (nI (kk + 8))) (C := RX15) (T := TX15) (N := 59) hx hb hts it_15 hown hK hP hL_h0 hF_380 rfl 19 (by decide) (hts _ kt_751) (fun _ h9 => h9) rfl dX15_readTerm_138 ?_
            refine lv_aload_n hx hb dX15_readTerm_141 rfl (lv_at hl 2 rfl) ?_
            refine pg_get (ci := 15) (v := .int (nI tt)) (C := RX15) (T := TX15) (N := 59) hx hb hts it_15 hown hK hP hL_h0 hF_380 rfl 20 (by decide) (hts _ kt_752) (fun _ h9 => h9) rfl dX15_readTerm_142 ?_
            refine lv_iconst (v := 1) hx hb dX15_readTerm_145 (by decide) ?_
            have hFc := pg_free hD hS hA
            refine va_calli (va_runS (As := [.ref g1, .int (nI (kk + 8)), .int (nI tt), .int 1]) (rest := []) ⟨hx, hb, hml, hown, hts⟩ (s_X15_isD l dC dI cs ty gm L H.size F_378 g1 μ 700 (kk + 8) tt 1 hW hL_g1 hT_g1 (by first | omega | assumption | exact Or.inl rfl) (by first | omega | assumption | exact Or.inl rfl)) ⟨callB_of 4 hts (gi kt_753) rfl rfl rfl (hts _ kt_669) (hts _ kt_754) (by decide +kernel) ⟨Nat.le_of_ble_eq_true rfl, Nat.le_of_ble_eq_true rfl⟩, (hts _ kt_755)⟩ ⟨fun a U g mk q => ⟨q.1, PTm.calling q.2⟩, fun U hU hWm => ⟨rfl, PTm.mk hU hWm hP hK hD hE hO⟩⟩ rfl rfl hl.1 rfl (lv_room (Nat.le_of_ble_eq_true rfl)) dX15_readTerm_146 ⟨by show _ + 0 ≤ 0; omega, by show _ + 0 ≤ 0; omega⟩) hS (fun q _ h => hFc q h) hFc (fun r_382 u t H1 locs ht hvm hw hB hz1 hk1 hS => ?_)
            obtain ⟨F_383, hB1⟩ := hB
            obtain rfl : F_378 = F_383 := (funext (fun a => hB1.2.2.2 a List.not_mem_nil)).symm
            obtain ⟨hP, hD, hO, hR⟩ := QTm.back hB1 ht hFc hR (fun q h => absurd h List.not_mem_nil)
            generalize H1 = H at hP hS ⊢
            have hw : (r_382 = 0 ∨ (r_382 = 1 ∧ (kk + 8) < tt ∧ ISD (gA (F_378 g1)) tt (kk + 8))) := hw
            have hw_384 := hw
            refine lv_if_eq (tgt := 392) hx hb dX15_readTerm_149 (by decide) (fun c_385 => ?_) (fun c_385 => ?_)
            ·
              refine W.widen (k := 0) (n := 0) (by omega) (by omega) ?_
              exact jn_59 (8, (nI (kk + 8)), (nI tt), 32, v22) F_378 (⟨hF_380, Or.inl rfl, fun _ _ => rfl⟩) hO hR _ _ hP hD hS ls (lv_sub hl [0, 1, 2, 3, 4, 5] rfl)
            ·
              refine lv_aload_n hx hb dX15_readTerm_152 rfl (lv_at hl 2 rfl) ?_
              refine lv_iconst (v := 1) hx hb dX15_readTerm_153 (by decide) ?_
              refine pg_put (ci := 15) (v := .int 1) (ty := .int) (C := RX15) (T := TX15) (N := 59) hx hb hts it_15 tyX15 tyX15_ok nmX15 hown hK hP hD hS hL_h0 hF_380 rfl 17 (by decide) (hts _ kt_750) (fun _ h9 => h9) rfl (by decide +kernel) (rfl) (rfl) (Nat.le_of_ble_eq_true rfl) dX15_readTerm_154 (fun H locs hP hD hS => ?_)
              obtain ⟨F_386, he_387, hP, hD, hO, hR⟩ : ∃ G, G = va_up F_378 h0 (.inr (15, (.ref ta) :: (.int (nI zt)) :: (.int (nI zo)) :: (.int (nI ze)) :: (.ref ou) :: (.ref so) :: (.ref ad) :: (.ref na) :: (.ref va) :: (.ref lc) :: (.ref dm) :: (.int (nI fm)) :: (.int (nI sn)) :: (.ref tg) :: (.int v14) :: (.int v15) :: (.ref pe) :: (.int 1) :: (.int q18) :: (.int (nI (kk + 8))) :: (.int (nI tt)) :: (.int 32) :: (.int v22) :: (.ref ml) :: (.ref bg) :: (.ref co) :: (.ref sp) :: (.ref nb0) :: (.ref nb1) :: (.ref nb2) :: (.int (nI nf)) :: (.int (nI bd)) :: (.int (nI mm)) :: (.int v33) :: (.ref pl) :: (.ref se) :: (.ref ke) :: (.ref wi) :: (.ref hs) :: (.ref mo) :: (.ref po) :: (.ref nu) :: (.ref pr) :: (.ref sq) :: (.ref xa) :: (.ref sa) :: (.ref n64) :: (.ref m64) :: (.ref ex) :: (.ref wh) :: (.ref sd) :: (.ref tk) :: (.int v52) :: (.int v53) :: (.int v54) :: (.ref hd) :: (.ref ak) :: (.ref ho) :: (.ref ot) :: [])) ∧ va_P (dC, dI) vwCl (va_pl L G) H ∧ va_D A (va_pl L G) ∧ OKm cs ty gm L G ∧ FR ty [ρ] F G := ⟨_, rfl, hP, hD, hO.up (shm.mod hT_h0 ⟨v14, v15, 1, q18, (nI (kk + 8)), (nI tt), 32, v22, v33, v52, v53, v54, rfl, (by first | omega | assumption | exact Or.inl rfl | exact Or.inr rfl), (by first | omega | assumption | exact Or.inl rfl | exact Or.inr rfl), (by first | omega | assumption | exact Or.inl rfl | exact Or.inr rfl), (by first | omega | assumption | exact Or.inl rfl | exact Or.inr rfl), (by first | omega | assumption | exact Or.inl rfl | exact Or.inr rfl)⟩), hR.up hT_h0 (by simp)⟩
              have hF_388 : F_386 h0 = .inr (15, (.ref ta) :: (.int (nI zt)) :: (.int (nI zo)) :: (.int (nI ze)) :: (.ref ou) :: (.ref so) :: (.ref ad) :: (.ref na) :: (.ref va) :: (.ref lc) :: (.ref dm) :: (.int (nI fm)) :: (.int (nI sn)) :: (.ref tg) :: (.int v14) :: (.int v15) :: (.ref pe) :: (.int 1) :: (.int q18) :: (.int (nI (kk + 8))) :: (.int (nI tt)) :: (.int 32) :: (.int v22) :: (.ref ml) :: (.ref bg) :: (.ref co) :: (.ref sp) :: (.ref nb0) :: (.ref nb1) :: (.ref nb2) :: (.int (nI nf)) :: (.int (nI bd)) :: (.int (nI mm)) :: (.int v33) :: (.ref pl) :: (.ref se) :: (.ref ke) :: (.ref wi) :: (.ref hs) :: (.ref mo) :: (.ref po) :: (.ref nu) :: (.ref pr) :: (.ref sq) :: (.ref xa) :: (.ref sa) :: (.ref n64) :: (.ref m64) :: (.ref ex) :: (.ref wh) :: (.ref sd) :: (.ref tk) :: (.int v52) :: (.int v53) :: (.int v54) :: (.ref hd) :: (.ref ak) :: (.ref ho) :: (.ref ot) :: []) := by rw [he_387]; exact up_self
              have hF_389 : F_386 g1 = .inl (cs 17, 700, .inl fv) := by rw [he_387, up_ne (ne_ty hT_g1 hT_h0 (by simp))]; exact hF_381
              refine lv_goto (tgt := 392) hx hb dX15_readTerm_157 (by decide) ?_
              refine W.widen (k := 0) (n := 0) (by omega) (by omega) ?_
              exact jn_59 (1, (nI (kk + 8)), (nI tt), 32, v22) F_386 (⟨hF_388, Or.inr ⟨(Or.inr (Or.inl rfl)), Or.inr ⟨_, _, rfl, rfl, Nat.le_of_lt (bit1 hw_384 c_385).1, by omega, (by have h9 := (bit1 hw_384 c_385).2; rw [gA_fun hF_381] at h9; exact h9)⟩⟩, fun h5 h9 => (c0_ne (by have h8 := (nm1 hw_171 c_172).2; rw [gA_fun hF_58] at h8; exact h8) (by omega) (hk3a h5) h9 (by decide)).elim⟩) hO hR _ _ hP hD hS ls (lv_sub hl [0, 1, 2, 3, 4, 5] rfl)
        ·
          refine lv_aload_n hx hb dX15_readTerm_102 rfl (lv_at hl 2 rfl) ?_
          refine lv_iconst (v := 0) hx hb dX15_readTerm_103 (by decide) ?_
          refine pg_put (ci := 15) (v := .int 0) (ty := .int) (C := RX15) (T := TX15) (N := 59) hx hb hts it_15 tyX15 tyX15_ok nmX15 hown hK hP hD hS hL_h0 hk4a rfl 17 (by decide) (hts _ kt_750) (fun _ h9 => h9) rfl (by decide +kernel) (rfl) (rfl) (Nat.le_of_ble_eq_true rfl) dX15_readTerm_104 (fun H locs hP hD hS => ?_)
          obtain ⟨F_390, he_391, hP, hD, hO, hR⟩ : ∃ G, G = va_up F_55 h0 (.inr (15, (.ref ta) :: (.int (nI zt)) :: (.int (nI zo)) :: (.int (nI ze)) :: (.ref ou) :: (.ref so) :: (.ref ad) :: (.ref na) :: (.ref va) :: (.ref lc) :: (.ref dm) :: (.int (nI fm)) :: (.int (nI sn)) :: (.ref tg) :: (.int v14) :: (.int v15) :: (.ref pe) :: (.int 0) :: (.int q18) :: (.int (-1)) :: (.int (-1)) :: (.int 32) :: (.int v22) :: (.ref ml) :: (.ref bg) :: (.ref co) :: (.ref sp) :: (.ref nb0) :: (.ref nb1) :: (.ref nb2) :: (.int (nI nf)) :: (.int (nI bd)) :: (.int (nI mm)) :: (.int v33) :: (.ref pl) :: (.ref se) :: (.ref ke) :: (.ref wi) :: (.ref hs) :: (.ref mo) :: (.ref po) :: (.ref nu) :: (.ref pr) :: (.ref sq) :: (.ref xa) :: (.ref sa) :: (.ref n64) :: (.ref m64) :: (.ref ex) :: (.ref wh) :: (.ref sd) :: (.ref tk) :: (.int v52) :: (.int v53) :: (.int v54) :: (.ref hd) :: (.ref ak) :: (.ref ho) :: (.ref ot) :: [])) ∧ va_P (dC, dI) vwCl (va_pl L G) H ∧ va_D A (va_pl L G) ∧ OKm cs ty gm L G ∧ FR ty [ρ] F G := ⟨_, rfl, hP, hD, hO.up (shm.mod hT_h0 ⟨v14, v15, 0, q18, (-1), (-1), 32, v22, v33, v52, v53, v54, rfl, (by first | omega | assumption | exact Or.inl rfl | exact Or.inr rfl), (by first | omega | assumption | exact Or.inl rfl | exact Or.inr rfl), (by first | omega | assumption | exact Or.inl rfl | exact Or.inr rfl), (by first | omega | assumption | exact Or.inl rfl | exact Or.inr rfl), (by first | omega | assumption | exact Or.inl rfl | exact Or.inr rfl)⟩), hR.up hT_h0 (by simp)⟩
          have hF_392 : F_390 h0 = .inr (15, (.ref ta) :: (.int (nI zt)) :: (.int (nI zo)) :: (.int (nI ze)) :: (.ref ou) :: (.ref so) :: (.ref ad) :: (.ref na) :: (.ref va) :: (.ref lc) :: (.ref dm) :: (.int (nI fm)) :: (.int (nI sn)) :: (.ref tg) :: (.int v14) :: (.int v15) :: (.ref pe) :: (.int 0) :: (.int q18) :: (.int (-1)) :: (.int (-1)) :: (.int 32) :: (.int v22) :: (.ref ml) :: (.ref bg) :: (.ref co) :: (.ref sp) :: (.ref nb0) :: (.ref nb1) :: (.ref nb2) :: (.int (nI nf)) :: (.int (nI bd)) :: (.int (nI mm)) :: (.int v33) :: (.ref pl) :: (.ref se) :: (.ref ke) :: (.ref wi) :: (.ref hs) :: (.ref mo) :: (.ref po) :: (.ref nu) :: (.ref pr) :: (.ref sq) :: (.ref xa) :: (.ref sa) :: (.ref n64) :: (.ref m64) :: (.ref ex) :: (.ref wh) :: (.ref sd) :: (.ref tk) :: (.int v52) :: (.int v53) :: (.int v54) :: (.ref hd) :: (.ref ak) :: (.ref ho) :: (.ref ot) :: []) := by rw [he_391]; exact up_self
          have hF_393 : F_390 g1 = .inl (cs 17, 700, .inl fv) := by rw [he_391, up_ne (ne_ty hT_g1 hT_h0 (by simp))]; exact hF_58
          refine lv_goto (tgt := 392) hx hb dX15_readTerm_107 (by decide) ?_
          refine W.widen (k := 0) (n := 0) (by omega) (by omega) ?_
          exact jn_59 (0, (-1), (-1), 32, v22) F_390 (⟨hF_392, Or.inr ⟨(Or.inl rfl), Or.inl rfl⟩, fun h5 h9 => (c0_ne (by have h8 := (nm1 hw_165 c_166).2; rw [gA_fun hF_58] at h8; exact h8) (by omega) (hk3a h5) h9 (by decide)).elim⟩) hO hR _ _ hP hD hS ls (lv_sub hl [0, 1, 2, 3, 4, 5] rfl)
    ·
      refine lv_iload hx hb dX15_readTerm_74 (lv_at hl 0 rfl) ?_
      refine lv_if_eq (tgt := 90) hx hb dX15_readTerm_76 (by decide) (fun c_394 => ?_) (fun c_394 => ?_)
      ·
        refine W.widen (k := 0) (n := 0) (by omega) (by omega) ?_
        exact jn_54 ((nI a), 43) F_50 (⟨⟨a, rfl, by omega, by omega, fun _ => rfl⟩, hs5h⟩) hO hR _ _ hP hD hS ls (lv_sub hl [0, 1, 2, 3, 4, 5] rfl)
      ·
        refine lv_aload_n hx hb dX15_readTerm_79 rfl (lv_at hl 2 rfl) ?_
        refine lv_aload_n hx hb dX15_readTerm_80 rfl (lv_at hl 3 rfl) ?_
        refine lv_iload hx hb dX15_readTerm_81 (lv_at hl 1 rfl) ?_
        obtain ⟨hq_395, hq_396⟩ := hW.octs hL_g1 hT_g1
        refine pg_bald hx hb hK hP hL_g1 1 hF_53 rfl (vp_in_nI (by omega) (by omega)) dX15_readTerm_83 ?_
        refine lv_topi (fun x_397 ex_397 => ?_)
        obtain rfl : x_397 = fv a := ex_397.trans (congrArg fv (show ((nI a) : Int32).toNatClampNeg = a from nI_clamp (by omega)))
        refine pg_put (ci := 15) (v := .int (fv a)) (ty := .int) (C := RX15) (T := TX15) (N := 59) hx hb hts it_15 tyX15 tyX15_ok nmX15 hown hK hP hD hS hL_h0 hs5h rfl 18 (by decide) (hts _ kt_759) (fun _ h9 => h9) rfl (by decide +kernel) (rfl) (rfl) (Nat.le_of_ble_eq_true rfl) dX15_readTerm_84 (fun H locs hP hD hS => ?_)
        obtain ⟨F_398, he_399, hP, hD, hO, hR⟩ : ∃ G, G = va_up F_50 h0 (.inr (15, (.ref ta) :: (.int (nI zt)) :: (.int (nI zo)) :: (.int (nI ze)) :: (.ref ou) :: (.ref so) :: (.ref ad) :: (.ref na) :: (.ref va) :: (.ref lc) :: (.ref dm) :: (.int (nI fm)) :: (.int (nI sn)) :: (.ref tg) :: (.int v14) :: (.int v15) :: (.ref pe) :: (.int 8) :: (.int (fv a)) :: (.int (-1)) :: (.int (-1)) :: (.int 32) :: (.int v22) :: (.ref ml) :: (.ref bg) :: (.ref co) :: (.ref sp) :: (.ref nb0) :: (.ref nb1) :: (.ref nb2) :: (.int (nI nf)) :: (.int (nI bd)) :: (.int (nI mm)) :: (.int v33) :: (.ref pl) :: (.ref se) :: (.ref ke) :: (.ref wi) :: (.ref hs) :: (.ref mo) :: (.ref po) :: (.ref nu) :: (.ref pr) :: (.ref sq) :: (.ref xa) :: (.ref sa) :: (.ref n64) :: (.ref m64) :: (.ref ex) :: (.ref wh) :: (.ref sd) :: (.ref tk) :: (.int v52) :: (.int v53) :: (.int v54) :: (.ref hd) :: (.ref ak) :: (.ref ho) :: (.ref ot) :: [])) ∧ va_P (dC, dI) vwCl (va_pl L G) H ∧ va_D A (va_pl L G) ∧ OKm cs ty gm L G ∧ FR ty [ρ] F G := ⟨_, rfl, hP, hD, hO.up (shm.mod hT_h0 ⟨v14, v15, 8, (fv a), (-1), (-1), 32, v22, v33, v52, v53, v54, rfl, (by first | omega | assumption | exact Or.inl rfl | exact Or.inr rfl), (by first | omega | assumption | exact Or.inl rfl | exact Or.inr rfl), (by first | omega | assumption | exact Or.inl rfl | exact Or.inr rfl), (by first | omega | assumption | exact Or.inl rfl | exact Or.inr rfl), (by first | omega | assumption | exact Or.inl rfl | exact Or.inr rfl)⟩), hR.up hT_h0 (by simp)⟩
        have hF_400 : F_398 h0 = .inr (15, (.ref ta) :: (.int (nI zt)) :: (.int (nI zo)) :: (.int (nI ze)) :: (.ref ou) :: (.ref so) :: (.ref ad) :: (.ref na) :: (.ref va) :: (.ref lc) :: (.ref dm) :: (.int (nI fm)) :: (.int (nI sn)) :: (.ref tg) :: (.int v14) :: (.int v15) :: (.ref pe) :: (.int 8) :: (.int (fv a)) :: (.int (-1)) :: (.int (-1)) :: (.int 32) :: (.int v22) :: (.ref ml) :: (.ref bg) :: (.ref co) :: (.ref sp) :: (.ref nb0) :: (.ref nb1) :: (.ref nb2) :: (.int (nI nf)) :: (.int (nI bd)) :: (.int (nI mm)) :: (.int v33) :: (.ref pl) :: (.ref se) :: (.ref ke) :: (.ref wi) :: (.ref hs) :: (.ref mo) :: (.ref po) :: (.ref nu) :: (.ref pr) :: (.ref sq) :: (.ref xa) :: (.ref sa) :: (.ref n64) :: (.ref m64) :: (.ref ex) :: (.ref wh) :: (.ref sd) :: (.ref tk) :: (.int v52) :: (.int v53) :: (.int v54) :: (.ref hd) :: (.ref ak) :: (.ref ho) :: (.ref ot) :: []) := by rw [he_399]; exact up_self
        have hF_401 : F_398 g1 = .inl (cs 17, 700, .inl fv) := by rw [he_399, up_ne (ne_ty hT_g1 hT_h0 (by simp))]; exact hF_53
        refine lv_iinc (v := (nI (a + 1))) (lv' := [(4, .int (nI (a + 1))), (5, .int s5), (0, .ref h0), (1, .ref g1), (2, .int (nI a)), (3, .int (nI tt))]) hx hb dX15_readTerm_87 hl (k := 1) rfl (nI_1 _) (by decide) rfl (fun ls hl => ?_)
        refine W.widen (k := 0) (n := 0) (by omega) (by omega) ?_
        exact jn_54 ((nI (a + 1)), (fv a)) F_398 (⟨⟨a + 1, rfl, by omega, by omega, fun h => absurd h c_394⟩, hF_400⟩) hO hR _ _ hP hD hS ls (lv_sub hl [1, 0, 2, 3, 4, 5] rfl)
  ·
    refine lv_aload_n hx hb dX15_readTerm_31 rfl (lv_at hl 2 rfl) ?_
    refine lv_iload hx hb dX15_readTerm_32 (lv_at hl 0 rfl) ?_
    obtain ⟨hq_402, hq_403⟩ := hW.octs hL_g1 hT_g1
    refine pg_bald hx hb hK hP hL_g1 1 hF_48 rfl (vp_in_nI (by omega) (by omega)) dX15_readTerm_34 ?_
    refine lv_topi (fun x_404 ex_404 => ?_)
    obtain rfl : x_404 = fv a := ex_404.trans (congrArg fv (show ((nI a) : Int32).toNatClampNeg = a from nI_clamp (by omega)))
    refine lv_bipush (v := 43) hx hb dX15_readTerm_35 (by decide) ?_
    refine lv_icmp_eq (tgt := 67) hx hb dX15_readTerm_37 (by decide) (fun c_405 => ?_) (fun c_405 => ?_)
    ·
      refine lv_iconst (v := 1) hx hb dX15_readTerm_67 (by decide) ?_
      refine lv_goto (tgt := 72) hx hb dX15_readTerm_68 (by decide) ?_
      refine W.widen (k := 0) (n := 0) (by omega) (by omega) ?_
      exact jn_49 1 F_45 (⟨Or.inr ⟨rfl, by rw [c_405]; decide⟩, hF_47⟩) hO hR _ _ hP hD hS ls (lv_sub hl [0, 1, 2, 3, 4] rfl)
    ·
      refine lv_aload_n hx hb dX15_readTerm_40 rfl (lv_at hl 2 rfl) ?_
      refine lv_iload hx hb dX15_readTerm_41 (lv_at hl 0 rfl) ?_
      refine pg_bald hx hb hK hP hL_g1 1 hF_48 rfl (vp_in_nI (by omega) (by omega)) dX15_readTerm_43 ?_
      refine lv_topi (fun x_406 ex_406 => ?_)
      obtain rfl : x_406 = fv a := ex_406.trans (congrArg fv (show ((nI a) : Int32).toNatClampNeg = a from nI_clamp (by omega)))
      refine lv_bipush (v := 63) hx hb dX15_readTerm_44 (by decide) ?_
      refine lv_icmp_eq (tgt := 67) hx hb dX15_readTerm_46 (by decide) (fun c_407 => ?_) (fun c_407 => ?_)
      ·
        refine lv_iconst (v := 1) hx hb dX15_readTerm_67 (by decide) ?_
        refine lv_goto (tgt := 72) hx hb dX15_readTerm_68 (by decide) ?_
        refine W.widen (k := 0) (n := 0) (by omega) (by omega) ?_
        exact jn_49 1 F_45 (⟨Or.inr ⟨rfl, by rw [c_407]; decide⟩, hF_47⟩) hO hR _ _ hP hD hS ls (lv_sub hl [0, 1, 2, 3, 4] rfl)
      ·
        refine lv_aload_n hx hb dX15_readTerm_49 rfl (lv_at hl 2 rfl) ?_
        refine lv_iload hx hb dX15_readTerm_50 (lv_at hl 0 rfl) ?_
        refine pg_bald hx hb hK hP hL_g1 1 hF_48 rfl (vp_in_nI (by omega) (by omega)) dX15_readTerm_52 ?_
        refine lv_topi (fun x_408 ex_408 => ?_)
        obtain rfl : x_408 = fv a := ex_408.trans (congrArg fv (show ((nI a) : Int32).toNatClampNeg = a from nI_clamp (by omega)))
        refine lv_bipush (v := 126) hx hb dX15_readTerm_53 (by decide) ?_
        refine lv_icmp_eq (tgt := 67) hx hb dX15_readTerm_55 (by decide) (fun c_409 => ?_) (fun c_409 => ?_)
        ·
          refine lv_iconst (v := 1) hx hb dX15_readTerm_67 (by decide) ?_
          refine lv_goto (tgt := 72) hx hb dX15_readTerm_68 (by decide) ?_
          refine W.widen (k := 0) (n := 0) (by omega) (by omega) ?_
          exact jn_49 1 F_45 (⟨Or.inr ⟨rfl, by rw [c_409]; decide⟩, hF_47⟩) hO hR _ _ hP hD hS ls (lv_sub hl [0, 1, 2, 3, 4] rfl)
        ·
          refine lv_aload_n hx hb dX15_readTerm_58 rfl (lv_at hl 2 rfl) ?_
          refine lv_iload hx hb dX15_readTerm_59 (lv_at hl 0 rfl) ?_
          refine pg_bald hx hb hK hP hL_g1 1 hF_48 rfl (vp_in_nI (by omega) (by omega)) dX15_readTerm_61 ?_
          refine lv_topi (fun x_410 ex_410 => ?_)
          obtain rfl : x_410 = fv a := ex_410.trans (congrArg fv (show ((nI a) : Int32).toNatClampNeg = a from nI_clamp (by omega)))
          refine lv_bipush (v := 45) hx hb dX15_readTerm_62 (by decide) ?_
          refine lv_icmp_ne (tgt := 71) hx hb dX15_readTerm_64 (by decide) (fun c_411 => ?_) (fun c_411 => ?_)
          ·
            refine lv_iconst (v := 0) hx hb dX15_readTerm_71 (by decide) ?_
            refine W.widen (k := 0) (n := 0) (by omega) (by omega) ?_
            exact jn_49 0 F_45 (⟨Or.inl rfl, hF_47⟩) hO hR _ _ hP hD hS ls (lv_sub hl [0, 1, 2, 3, 4] rfl)
          ·
            refine lv_iconst (v := 1) hx hb dX15_readTerm_67 (by decide) ?_
            refine lv_goto (tgt := 72) hx hb dX15_readTerm_68 (by decide) ?_
            refine W.widen (k := 0) (n := 0) (by omega) (by omega) ?_
            exact jn_49 1 F_45 (⟨Or.inr ⟨rfl, by rw [c_411]; decide⟩, hF_47⟩) hO hR _ _ hP hD hS ls (lv_sub hl [0, 1, 2, 3, 4] rfl)
