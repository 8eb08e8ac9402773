theorem dX15_isQuad_0 : decode cX15_isQuad 0 = .ok (.iconst 0, 1) := by decide +kernel
theorem dX15_isQuad_1 : decode cX15_isQuad 1 = .ok (.istore 4, 2) := by decide +kernel
theorem dX15_isQuad_3 : decode cX15_isQuad 3 = .ok (.iconst 0, 1) := by decide +kernel
theorem dX15_isQuad_4 : decode cX15_isQuad 4 = .ok (.istore 5, 2) := by decide +kernel
theorem dX15_isQuad_6 : decode cX15_isQuad 6 = .ok (.iconst 0, 1) := by decide +kernel
theorem dX15_isQuad_7 : decode cX15_isQuad 7 = .ok (.istore 6, 2) := by decide +kernel
theorem dX15_isQuad_9 : decode cX15_isQuad 9 = .ok (.aload_n 0, 1) := by decide +kernel
theorem dX15_isQuad_10 : decode cX15_isQuad 10 = .ok (.iconst 0, 1) := by decide +kernel
theorem dX15_isQuad_11 : decode cX15_isQuad 11 = .ok (.putfield 232, 3) := by decide +kernel
theorem dX15_isQuad_14 : decode cX15_isQuad 14 = .ok (.iload_n 2, 1) := by decide +kernel
theorem dX15_isQuad_15 : decode cX15_isQuad 15 = .ok (.istore 7, 2) := by decide +kernel
theorem dX15_isQuad_17 : decode cX15_isQuad 17 = .ok (.iload 7, 2) := by decide +kernel
theorem dX15_isQuad_19 : decode cX15_isQuad 19 = .ok (.iload_n 3, 1) := by decide +kernel
theorem dX15_isQuad_20 : decode cX15_isQuad 20 = .ok (.if_icmp .gt 104, 3) := by decide +kernel
theorem dX15_isQuad_23 : decode cX15_isQuad 23 = .ok (.iload 7, 2) := by decide +kernel
theorem dX15_isQuad_25 : decode cX15_isQuad 25 = .ok (.iload_n 3, 1) := by decide +kernel
theorem dX15_isQuad_26 : decode cX15_isQuad 26 = .ok (.if_icmp .ge 39, 3) := by decide +kernel
theorem dX15_isQuad_29 : decode cX15_isQuad 29 = .ok (.aload_n 1, 1) := by decide +kernel
theorem dX15_isQuad_30 : decode cX15_isQuad 30 = .ok (.iload 7, 2) := by decide +kernel
theorem dX15_isQuad_32 : decode cX15_isQuad 32 = .ok (.baload, 1) := by decide +kernel
theorem dX15_isQuad_33 : decode cX15_isQuad 33 = .ok (.invokestatic 202, 3) := by decide +kernel
theorem dX15_isQuad_36 : decode cX15_isQuad 36 = .ok (.ifCond .eq 29, 3) := by decide +kernel
theorem dX15_isQuad_39 : decode cX15_isQuad 39 = .ok (.bipush 10, 2) := by decide +kernel
theorem dX15_isQuad_41 : decode cX15_isQuad 41 = .ok (.iload 6, 2) := by decide +kernel
theorem dX15_isQuad_43 : decode cX15_isQuad 43 = .ok (.imul, 1) := by decide +kernel
theorem dX15_isQuad_44 : decode cX15_isQuad 44 = .ok (.aload_n 1, 1) := by decide +kernel
theorem dX15_isQuad_45 : decode cX15_isQuad 45 = .ok (.iload 7, 2) := by decide +kernel
theorem dX15_isQuad_47 : decode cX15_isQuad 47 = .ok (.baload, 1) := by decide +kernel
theorem dX15_isQuad_48 : decode cX15_isQuad 48 = .ok (.iadd, 1) := by decide +kernel
theorem dX15_isQuad_49 : decode cX15_isQuad 49 = .ok (.bipush 48, 2) := by decide +kernel
theorem dX15_isQuad_51 : decode cX15_isQuad 51 = .ok (.isub, 1) := by decide +kernel
theorem dX15_isQuad_52 : decode cX15_isQuad 52 = .ok (.istore 6, 2) := by decide +kernel
theorem dX15_isQuad_54 : decode cX15_isQuad 54 = .ok (.iinc 5 1, 3) := by decide +kernel
theorem dX15_isQuad_57 : decode cX15_isQuad 57 = .ok (.iload 5, 2) := by decide +kernel
theorem dX15_isQuad_59 : decode cX15_isQuad 59 = .ok (.iconst 3, 1) := by decide +kernel
theorem dX15_isQuad_60 : decode cX15_isQuad 60 = .ok (.if_icmp .le 58, 3) := by decide +kernel
theorem dX15_isQuad_63 : decode cX15_isQuad 63 = .ok (.iconst 0, 1) := by decide +kernel
theorem dX15_isQuad_64 : decode cX15_isQuad 64 = .ok (.ireturn, 1) := by decide +kernel
theorem dX15_isQuad_65 : decode cX15_isQuad 65 = .ok (.iload 7, 2) := by decide +kernel
theorem dX15_isQuad_67 : decode cX15_isQuad 67 = .ok (.iload_n 3, 1) := by decide +kernel
theorem dX15_isQuad_68 : decode cX15_isQuad 68 = .ok (.if_icmp .ge 12, 3) := by decide +kernel
theorem dX15_isQuad_71 : decode cX15_isQuad 71 = .ok (.aload_n 1, 1) := by decide +kernel
theorem dX15_isQuad_72 : decode cX15_isQuad 72 = .ok (.iload 7, 2) := by decide +kernel
theorem dX15_isQuad_74 : decode cX15_isQuad 74 = .ok (.baload, 1) := by decide +kernel
theorem dX15_isQuad_75 : decode cX15_isQuad 75 = .ok (.bipush 46, 2) := by decide +kernel
theorem dX15_isQuad_77 : decode cX15_isQuad 77 = .ok (.if_icmp .ne 16, 3) := by decide +kernel
theorem dX15_isQuad_80 : decode cX15_isQuad 80 = .ok (.iload 5, 2) := by decide +kernel
theorem dX15_isQuad_82 : decode cX15_isQuad 82 = .ok (.ifCond .eq 11, 3) := by decide +kernel
theorem dX15_isQuad_85 : decode cX15_isQuad 85 = .ok (.iload 6, 2) := by decide +kernel
theorem dX15_isQuad_87 : decode cX15_isQuad 87 = .ok (.sipush 255, 3) := by decide +kernel
theorem dX15_isQuad_90 : decode cX15_isQuad 90 = .ok (.if_icmp .le 5, 3) := by decide +kernel
theorem dX15_isQuad_93 : decode cX15_isQuad 93 = .ok (.iconst 0, 1) := by decide +kernel
theorem dX15_isQuad_94 : decode cX15_isQuad 94 = .ok (.ireturn, 1) := by decide +kernel
theorem dX15_isQuad_95 : decode cX15_isQuad 95 = .ok (.aload_n 0, 1) := by decide +kernel
theorem dX15_isQuad_96 : decode cX15_isQuad 96 = .ok (.aload_n 0, 1) := by decide +kernel
theorem dX15_isQuad_97 : decode cX15_isQuad 97 = .ok (.getfield 232, 3) := by decide +kernel
theorem dX15_isQuad_100 : decode cX15_isQuad 100 = .ok (.bipush 8, 2) := by decide +kernel
theorem dX15_isQuad_102 : decode cX15_isQuad 102 = .ok (.ishl, 1) := by decide +kernel
theorem dX15_isQuad_103 : decode cX15_isQuad 103 = .ok (.iload 6, 2) := by decide +kernel
theorem dX15_isQuad_105 : decode cX15_isQuad 105 = .ok (.ior, 1) := by decide +kernel
theorem dX15_isQuad_106 : decode cX15_isQuad 106 = .ok (.putfield 232, 3) := by decide +kernel
theorem dX15_isQuad_109 : decode cX15_isQuad 109 = .ok (.iinc 4 1, 3) := by decide +kernel
theorem dX15_isQuad_112 : decode cX15_isQuad 112 = .ok (.iconst 0, 1) := by decide +kernel
theorem dX15_isQuad_113 : decode cX15_isQuad 113 = .ok (.istore 5, 2) := by decide +kernel
theorem dX15_isQuad_115 : decode cX15_isQuad 115 = .ok (.iconst 0, 1) := by decide +kernel
theorem dX15_isQuad_116 : decode cX15_isQuad 116 = .ok (.istore 6, 2) := by decide +kernel
theorem dX15_isQuad_118 : decode cX15_isQuad 118 = .ok (.iinc 7 1, 3) := by decide +kernel
theorem dX15_isQuad_121 : decode cX15_isQuad 121 = .ok (.goto (-104), 3) := by decide +kernel
theorem dX15_isQuad_124 : decode cX15_isQuad 124 = .ok (.iload 4, 2) := by decide +kernel
theorem dX15_isQuad_126 : decode cX15_isQuad 126 = .ok (.iconst 4, 1) := by decide +kernel
theorem dX15_isQuad_127 : decode cX15_isQuad 127 = .ok (.if_icmp .ne 7, 3) := by decide +kernel
theorem dX15_isQuad_130 : decode cX15_isQuad 130 = .ok (.iconst 1, 1) := by decide +kernel
theorem dX15_isQuad_131 : decode cX15_isQuad 131 = .ok (.goto 4, 3) := by decide +kernel
theorem dX15_isQuad_134 : decode cX15_isQuad 134 = .ok (.iconst 0, 1) := by decide +kernel
theorem dX15_isQuad_135 : decode cX15_isQuad 135 = .ok (.ireturn, 1) := by decide +kernel
theorem dX15_readHost_0 : decode cX15_readHost 0 = .ok (.aload_n 1, 1) := by decide +kernel
theorem dX15_readHost_1 : decode cX15_readHost 1 = .ok (.iload_n 2, 1) := by decide +kernel
theorem dX15_readHost_2 : decode cX15_readHost 2 = .ok (.iload_n 3, 1) := by decide +kernel
theorem dX15_readHost_3 : decode cX15_readHost 3 = .ok (.invokestatic 265, 3) := by decide +kernel
theorem dX15_readHost_6 : decode cX15_readHost 6 = .ok (.istore 5, 2) := by decide +kernel
theorem dX15_readHost_8 : decode cX15_readHost 8 = .ok (.iload 5, 2) := by decide +kernel
theorem dX15_readHost_10 : decode cX15_readHost 10 = .ok (.iload_n 3, 1) := by decide +kernel
theorem dX15_readHost_11 : decode cX15_readHost 11 = .ok (.if_icmp .ge 16, 3) := by decide +kernel
theorem dX15_readHost_14 : decode cX15_readHost 14 = .ok (.aload_n 0, 1) := by decide +kernel
theorem dX15_readHost_15 : decode cX15_readHost 15 = .ok (.aload_n 1, 1) := by decide +kernel
theorem dX15_readHost_16 : decode cX15_readHost 16 = .ok (.iload 5, 2) := by decide +kernel
theorem dX15_readHost_18 : decode cX15_readHost 18 = .ok (.iconst 1, 1) := by decide +kernel
theorem dX15_readHost_19 : decode cX15_readHost 19 = .ok (.iadd, 1) := by decide +kernel
theorem dX15_readHost_20 : decode cX15_readHost 20 = .ok (.iload_n 3, 1) := by decide +kernel
theorem dX15_readHost_21 : decode cX15_readHost 21 = .ok (.invokestatic 268, 3) := by decide +kernel
theorem dX15_readHost_24 : decode cX15_readHost 24 = .ok (.putfield 247, 3) := by decide +kernel
theorem dX15_readHost_27 : decode cX15_readHost 27 = .ok (.aload_n 0, 1) := by decide +kernel
theorem dX15_readHost_28 : decode cX15_readHost 28 = .ok (.getfield 247, 3) := by decide +kernel
theorem dX15_readHost_31 : decode cX15_readHost 31 = .ok (.ifCond .ge 4, 3) := by decide +kernel
theorem dX15_readHost_34 : decode cX15_readHost 34 = .ok (.return_, 1) := by decide +kernel
theorem dX15_readHost_35 : decode cX15_readHost 35 = .ok (.iload 5, 2) := by decide +kernel
theorem dX15_readHost_37 : decode cX15_readHost 37 = .ok (.iload_n 2, 1) := by decide +kernel
theorem dX15_readHost_38 : decode cX15_readHost 38 = .ok (.if_icmp .le 41, 3) := by decide +kernel
theorem dX15_readHost_41 : decode cX15_readHost 41 = .ok (.aload_n 0, 1) := by decide +kernel
theorem dX15_readHost_42 : decode cX15_readHost 42 = .ok (.iload_n 2, 1) := by decide +kernel
theorem dX15_readHost_43 : decode cX15_readHost 43 = .ok (.iconst 1, 1) := by decide +kernel
theorem dX15_readHost_44 : decode cX15_readHost 44 = .ok (.iadd, 1) := by decide +kernel
theorem dX15_readHost_45 : decode cX15_readHost 45 = .ok (.putfield 241, 3) := by decide +kernel
theorem dX15_readHost_48 : decode cX15_readHost 48 = .ok (.aload_n 0, 1) := by decide +kernel
theorem dX15_readHost_49 : decode cX15_readHost 49 = .ok (.iload 5, 2) := by decide +kernel
theorem dX15_readHost_51 : decode cX15_readHost 51 = .ok (.putfield 244, 3) := by decide +kernel
theorem dX15_readHost_54 : decode cX15_readHost 54 = .ok (.aload_n 1, 1) := by decide +kernel
theorem dX15_readHost_55 : decode cX15_readHost 55 = .ok (.iload_n 2, 1) := by decide +kernel
theorem dX15_readHost_56 : decode cX15_readHost 56 = .ok (.baload, 1) := by decide +kernel
theorem dX15_readHost_57 : decode cX15_readHost 57 = .ok (.bipush 58, 2) := by decide +kernel
theorem dX15_readHost_59 : decode cX15_readHost 59 = .ok (.if_icmp .ne 19, 3) := by decide +kernel
theorem dX15_readHost_62 : decode cX15_readHost 62 = .ok (.aload_n 1, 1) := by decide +kernel
theorem dX15_readHost_63 : decode cX15_readHost 63 = .ok (.aload_n 0, 1) := by decide +kernel
theorem dX15_readHost_64 : decode cX15_readHost 64 = .ok (.getfield 241, 3) := by decide +kernel
theorem dX15_readHost_67 : decode cX15_readHost 67 = .ok (.aload_n 0, 1) := by decide +kernel
theorem dX15_readHost_68 : decode cX15_readHost 68 = .ok (.getfield 244, 3) := by decide +kernel
theorem dX15_readHost_71 : decode cX15_readHost 71 = .ok (.iconst 0, 1) := by decide +kernel
theorem dX15_readHost_72 : decode cX15_readHost 72 = .ok (.invokestatic 257, 3) := by decide +kernel
theorem dX15_readHost_75 : decode cX15_readHost 75 = .ok (.ifCond .ne 4, 3) := by decide +kernel
theorem dX15_readHost_78 : decode cX15_readHost 78 = .ok (.return_, 1) := by decide +kernel
theorem dX15_readHost_79 : decode cX15_readHost 79 = .ok (.aload_n 0, 1) := by decide +kernel
theorem dX15_readHost_80 : decode cX15_readHost 80 = .ok (.iload 4, 2) := by decide +kernel
theorem dX15_readHost_82 : decode cX15_readHost 82 = .ok (.putfield 238, 3) := by decide +kernel
theorem dX15_readHost_85 : decode cX15_readHost 85 = .ok (.return_, 1) := by decide +kernel
theorem dX15_readTerm_0 : decode cX15_readTerm 0 = .ok (.iload_n 2, 1) := by decide +kernel
theorem dX15_readTerm_1 : decode cX15_readTerm 1 = .ok (.istore 4, 2) := by decide +kernel
theorem dX15_readTerm_3 : decode cX15_readTerm 3 = .ok (.aload_n 0, 1) := by decide +kernel
theorem dX15_readTerm_4 : decode cX15_readTerm 4 = .ok (.bipush 43, 2) := by decide +kernel
theorem dX15_readTerm_6 : decode cX15_readTerm 6 = .ok (.putfield 235, 3) := by decide +kernel
theorem dX15_readTerm_9 : decode cX15_readTerm 9 = .ok (.aload_n 0, 1) := by decide +kernel
theorem dX15_readTerm_10 : decode cX15_readTerm 10 = .ok (.bipush 8, 2) := by decide +kernel
theorem dX15_readTerm_12 : decode cX15_readTerm 12 = .ok (.putfield 238, 3) := by decide +kernel
theorem dX15_readTerm_15 : decode cX15_readTerm 15 = .ok (.aload_n 0, 1) := by decide +kernel
theorem dX15_readTerm_16 : decode cX15_readTerm 16 = .ok (.iconst (-1), 1) := by decide +kernel
theorem dX15_readTerm_17 : decode cX15_readTerm 17 = .ok (.putfield 241, 3) := by decide +kernel
theorem dX15_readTerm_20 : decode cX15_readTerm 20 = .ok (.aload_n 0, 1) := by decide +kernel
theorem dX15_readTerm_21 : decode cX15_readTerm 21 = .ok (.iconst (-1), 1) := by decide +kernel
theorem dX15_readTerm_22 : decode cX15_readTerm 22 = .ok (.putfield 244, 3) := by decide +kernel
theorem dX15_readTerm_25 : decode cX15_readTerm 25 = .ok (.aload_n 0, 1) := by decide +kernel
theorem dX15_readTerm_26 : decode cX15_readTerm 26 = .ok (.bipush 32, 2) := by decide +kernel
theorem dX15_readTerm_28 : decode cX15_readTerm 28 = .ok (.putfield 247, 3) := by decide +kernel
theorem dX15_readTerm_31 : decode cX15_readTerm 31 = .ok (.aload_n 1, 1) := by decide +kernel
theorem dX15_readTerm_32 : decode cX15_readTerm 32 = .ok (.iload 4, 2) := by decide +kernel
theorem dX15_readTerm_34 : decode cX15_readTerm 34 = .ok (.baload, 1) := by decide +kernel
theorem dX15_readTerm_35 : decode cX15_readTerm 35 = .ok (.bipush 43, 2) := by decide +kernel
theorem dX15_readTerm_37 : decode cX15_readTerm 37 = .ok (.if_icmp .eq 30, 3) := by decide +kernel
theorem dX15_readTerm_40 : decode cX15_readTerm 40 = .ok (.aload_n 1, 1) := by decide +kernel
theorem dX15_readTerm_41 : decode cX15_readTerm 41 = .ok (.iload 4, 2) := by decide +kernel
theorem dX15_readTerm_43 : decode cX15_readTerm 43 = .ok (.baload, 1) := by decide +kernel
theorem dX15_readTerm_44 : decode cX15_readTerm 44 = .ok (.bipush 63, 2) := by decide +kernel
theorem dX15_readTerm_46 : decode cX15_readTerm 46 = .ok (.if_icmp .eq 21, 3) := by decide +kernel
theorem dX15_readTerm_49 : decode cX15_readTerm 49 = .ok (.aload_n 1, 1) := by decide +kernel
theorem dX15_readTerm_50 : decode cX15_readTerm 50 = .ok (.iload 4, 2) := by decide +kernel
theorem dX15_readTerm_52 : decode cX15_readTerm 52 = .ok (.baload, 1) := by decide +kernel
theorem dX15_readTerm_53 : decode cX15_readTerm 53 = .ok (.bipush 126, 2) := by decide +kernel
theorem dX15_readTerm_55 : decode cX15_readTerm 55 = .ok (.if_icmp .eq 12, 3) := by decide +kernel
theorem dX15_readTerm_58 : decode cX15_readTerm 58 = .ok (.aload_n 1, 1) := by decide +kernel
theorem dX15_readTerm_59 : decode cX15_readTerm 59 = .ok (.iload 4, 2) := by decide +kernel
theorem dX15_readTerm_61 : decode cX15_readTerm 61 = .ok (.baload, 1) := by decide +kernel
theorem dX15_readTerm_62 : decode cX15_readTerm 62 = .ok (.bipush 45, 2) := by decide +kernel
theorem dX15_readTerm_64 : decode cX15_readTerm 64 = .ok (.if_icmp .ne 7, 3) := by decide +kernel
theorem dX15_readTerm_67 : decode cX15_readTerm 67 = .ok (.iconst 1, 1) := by decide +kernel
theorem dX15_readTerm_68 : decode cX15_readTerm 68 = .ok (.goto 4, 3) := by decide +kernel
theorem dX15_readTerm_71 : decode cX15_readTerm 71 = .ok (.iconst 0, 1) := by decide +kernel
theorem dX15_readTerm_72 : decode cX15_readTerm 72 = .ok (.istore 5, 2) := by decide +kernel
theorem dX15_readTerm_74 : decode cX15_readTerm 74 = .ok (.iload 5, 2) := by decide +kernel
theorem dX15_readTerm_76 : decode cX15_readTerm 76 = .ok (.ifCond .eq 14, 3) := by decide +kernel
theorem dX15_readTerm_79 : decode cX15_readTerm 79 = .ok (.aload_n 0, 1) := by decide +kernel
theorem dX15_readTerm_80 : decode cX15_readTerm 80 = .ok (.aload_n 1, 1) := by decide +kernel
theorem dX15_readTerm_81 : decode cX15_readTerm 81 = .ok (.iload 4, 2) := by decide +kernel
theorem dX15_readTerm_83 : decode cX15_readTerm 83 = .ok (.baload, 1) := by decide +kernel
theorem dX15_readTerm_84 : decode cX15_readTerm 84 = .ok (.putfield 235, 3) := by decide +kernel
theorem dX15_readTerm_87 : decode cX15_readTerm 87 = .ok (.iinc 4 1, 3) := by decide +kernel
theorem dX15_readTerm_90 : decode cX15_readTerm 90 = .ok (.aload_n 1, 1) := by decide +kernel
theorem dX15_readTerm_91 : decode cX15_readTerm 91 = .ok (.iload 4, 2) := by decide +kernel
theorem dX15_readTerm_93 : decode cX15_readTerm 93 = .ok (.iload_n 3, 1) := by decide +kernel
theorem dX15_readTerm_94 : decode cX15_readTerm 94 = .ok (.ldc 250, 2) := by decide +kernel
theorem dX15_readTerm_96 : decode cX15_readTerm 96 = .ok (.invokestatic 17, 3) := by decide +kernel
theorem dX15_readTerm_99 : decode cX15_readTerm 99 = .ok (.ifCond .eq 11, 3) := by decide +kernel
theorem dX15_readTerm_102 : decode cX15_readTerm 102 = .ok (.aload_n 0, 1) := by decide +kernel
theorem dX15_readTerm_103 : decode cX15_readTerm 103 = .ok (.iconst 0, 1) := by decide +kernel
theorem dX15_readTerm_104 : decode cX15_readTerm 104 = .ok (.putfield 238, 3) := by decide +kernel
theorem dX15_readTerm_107 : decode cX15_readTerm 107 = .ok (.goto 285, 3) := by decide +kernel
theorem dX15_readTerm_110 : decode cX15_readTerm 110 = .ok (.aload_n 1, 1) := by decide +kernel
theorem dX15_readTerm_111 : decode cX15_readTerm 111 = .ok (.iload 4, 2) := by decide +kernel
theorem dX15_readTerm_113 : decode cX15_readTerm 113 = .ok (.iload_n 3, 1) := by decide +kernel
theorem dX15_readTerm_114 : decode cX15_readTerm 114 = .ok (.ldc 252, 2) := by decide +kernel
theorem dX15_readTerm_116 : decode cX15_readTerm 116 = .ok (.invokestatic 254, 3) := by decide +kernel
theorem dX15_readTerm_119 : decode cX15_readTerm 119 = .ok (.ifCond .eq 41, 3) := by decide +kernel
theorem dX15_readTerm_122 : decode cX15_readTerm 122 = .ok (.aload_n 0, 1) := by decide +kernel
theorem dX15_readTerm_123 : decode cX15_readTerm 123 = .ok (.iload 4, 2) := by decide +kernel
theorem dX15_readTerm_125 : decode cX15_readTerm 125 = .ok (.bipush 8, 2) := by decide +kernel
theorem dX15_readTerm_127 : decode cX15_readTerm 127 = .ok (.iadd, 1) := by decide +kernel
theorem dX15_readTerm_128 : decode cX15_readTerm 128 = .ok (.putfield 241, 3) := by decide +kernel
theorem dX15_readTerm_131 : decode cX15_readTerm 131 = .ok (.aload_n 0, 1) := by decide +kernel
theorem dX15_readTerm_132 : decode cX15_readTerm 132 = .ok (.iload_n 3, 1) := by decide +kernel
theorem dX15_readTerm_133 : decode cX15_readTerm 133 = .ok (.putfield 244, 3) := by decide +kernel
theorem dX15_readTerm_136 : decode cX15_readTerm 136 = .ok (.aload_n 1, 1) := by decide +kernel
theorem dX15_readTerm_137 : decode cX15_readTerm 137 = .ok (.aload_n 0, 1) := by decide +kernel
theorem dX15_readTerm_138 : decode cX15_readTerm 138 = .ok (.getfield 241, 3) := by decide +kernel
theorem dX15_readTerm_141 : decode cX15_readTerm 141 = .ok (.aload_n 0, 1) := by decide +kernel
theorem dX15_readTerm_142 : decode cX15_readTerm 142 = .ok (.getfield 244, 3) := by decide +kernel
theorem dX15_readTerm_145 : decode cX15_readTerm 145 = .ok (.iconst 1, 1) := by decide +kernel
theorem dX15_readTerm_146 : decode cX15_readTerm 146 = .ok (.invokestatic 257, 3) := by decide +kernel
theorem dX15_readTerm_149 : decode cX15_readTerm 149 = .ok (.ifCond .eq 243, 3) := by decide +kernel
theorem dX15_readTerm_152 : decode cX15_readTerm 152 = .ok (.aload_n 0, 1) := by decide +kernel
theorem dX15_readTerm_153 : decode cX15_readTerm 153 = .ok (.iconst 1, 1) := by decide +kernel
theorem dX15_readTerm_154 : decode cX15_readTerm 154 = .ok (.putfield 238, 3) := by decide +kernel
theorem dX15_readTerm_157 : decode cX15_readTerm 157 = .ok (.goto 235, 3) := by decide +kernel
theorem dX15_readTerm_160 : decode cX15_readTerm 160 = .ok (.aload_n 1, 1) := by decide +kernel
theorem dX15_readTerm_161 : decode cX15_readTerm 161 = .ok (.iload 4, 2) := by decide +kernel
theorem dX15_readTerm_163 : decode cX15_readTerm 163 = .ok (.iload_n 3, 1) := by decide +kernel
theorem dX15_readTerm_164 : decode cX15_readTerm 164 = .ok (.ldc_w 261, 3) := by decide +kernel
theorem dX15_readTerm_167 : decode cX15_readTerm 167 = .ok (.invokestatic 254, 3) := by decide +kernel
theorem dX15_readTerm_170 : decode cX15_readTerm 170 = .ok (.ifCond .eq 41, 3) := by decide +kernel
theorem dX15_readTerm_173 : decode cX15_readTerm 173 = .ok (.aload_n 0, 1) := by decide +kernel
theorem dX15_readTerm_174 : decode cX15_readTerm 174 = .ok (.iload 4, 2) := by decide +kernel
theorem dX15_readTerm_176 : decode cX15_readTerm 176 = .ok (.bipush 7, 2) := by decide +kernel
theorem dX15_readTerm_178 : decode cX15_readTerm 178 = .ok (.iadd, 1) := by decide +kernel
theorem dX15_readTerm_179 : decode cX15_readTerm 179 = .ok (.putfield 241, 3) := by decide +kernel
theorem dX15_readTerm_182 : decode cX15_readTerm 182 = .ok (.aload_n 0, 1) := by decide +kernel
theorem dX15_readTerm_183 : decode cX15_readTerm 183 = .ok (.iload_n 3, 1) := by decide +kernel
theorem dX15_readTerm_184 : decode cX15_readTerm 184 = .ok (.putfield 244, 3) := by decide +kernel
theorem dX15_readTerm_187 : decode cX15_readTerm 187 = .ok (.aload_n 1, 1) := by decide +kernel
theorem dX15_readTerm_188 : decode cX15_readTerm 188 = .ok (.aload_n 0, 1) := by decide +kernel
theorem dX15_readTerm_189 : decode cX15_readTerm 189 = .ok (.getfield 241, 3) := by decide +kernel
theorem dX15_readTerm_192 : decode cX15_readTerm 192 = .ok (.aload_n 0, 1) := by decide +kernel
theorem dX15_readTerm_193 : decode cX15_readTerm 193 = .ok (.getfield 244, 3) := by decide +kernel
theorem dX15_readTerm_196 : decode cX15_readTerm 196 = .ok (.iconst 1, 1) := by decide +kernel
theorem dX15_readTerm_197 : decode cX15_readTerm 197 = .ok (.invokestatic 257, 3) := by decide +kernel
theorem dX15_readTerm_200 : decode cX15_readTerm 200 = .ok (.ifCond .eq 192, 3) := by decide +kernel
theorem dX15_readTerm_203 : decode cX15_readTerm 203 = .ok (.aload_n 0, 1) := by decide +kernel
theorem dX15_readTerm_204 : decode cX15_readTerm 204 = .ok (.iconst 5, 1) := by decide +kernel
theorem dX15_readTerm_205 : decode cX15_readTerm 205 = .ok (.putfield 238, 3) := by decide +kernel
theorem dX15_readTerm_208 : decode cX15_readTerm 208 = .ok (.goto 184, 3) := by decide +kernel
theorem dX15_readTerm_211 : decode cX15_readTerm 211 = .ok (.aload_n 1, 1) := by decide +kernel
theorem dX15_readTerm_212 : decode cX15_readTerm 212 = .ok (.iload 4, 2) := by decide +kernel
theorem dX15_readTerm_214 : decode cX15_readTerm 214 = .ok (.iload_n 3, 1) := by decide +kernel
theorem dX15_readTerm_215 : decode cX15_readTerm 215 = .ok (.ldc_w 263, 3) := by decide +kernel
theorem dX15_readTerm_218 : decode cX15_readTerm 218 = .ok (.invokestatic 254, 3) := by decide +kernel
theorem dX15_readTerm_221 : decode cX15_readTerm 221 = .ok (.ifCond .eq 60, 3) := by decide +kernel
theorem dX15_readTerm_224 : decode cX15_readTerm 224 = .ok (.aload_n 1, 1) := by decide +kernel
theorem dX15_readTerm_225 : decode cX15_readTerm 225 = .ok (.iload 4, 2) := by decide +kernel
theorem dX15_readTerm_227 : decode cX15_readTerm 227 = .ok (.iload_n 3, 1) := by decide +kernel
theorem dX15_readTerm_228 : decode cX15_readTerm 228 = .ok (.invokestatic 265, 3) := by decide +kernel
theorem dX15_readTerm_231 : decode cX15_readTerm 231 = .ok (.istore 6, 2) := by decide +kernel
theorem dX15_readTerm_233 : decode cX15_readTerm 233 = .ok (.iload 6, 2) := by decide +kernel
theorem dX15_readTerm_235 : decode cX15_readTerm 235 = .ok (.iload_n 3, 1) := by decide +kernel
theorem dX15_readTerm_236 : decode cX15_readTerm 236 = .ok (.if_icmp .ge 16, 3) := by decide +kernel
theorem dX15_readTerm_239 : decode cX15_readTerm 239 = .ok (.aload_n 0, 1) := by decide +kernel
theorem dX15_readTerm_240 : decode cX15_readTerm 240 = .ok (.aload_n 1, 1) := by decide +kernel
theorem dX15_readTerm_241 : decode cX15_readTerm 241 = .ok (.iload 6, 2) := by decide +kernel
theorem dX15_readTerm_243 : decode cX15_readTerm 243 = .ok (.iconst 1, 1) := by decide +kernel
theorem dX15_readTerm_244 : decode cX15_readTerm 244 = .ok (.iadd, 1) := by decide +kernel
theorem dX15_readTerm_245 : decode cX15_readTerm 245 = .ok (.iload_n 3, 1) := by decide +kernel
theorem dX15_readTerm_246 : decode cX15_readTerm 246 = .ok (.invokestatic 268, 3) := by decide +kernel
theorem dX15_readTerm_249 : decode cX15_readTerm 249 = .ok (.putfield 247, 3) := by decide +kernel
theorem dX15_readTerm_252 : decode cX15_readTerm 252 = .ok (.aload_n 0, 1) := by decide +kernel
theorem dX15_readTerm_253 : decode cX15_readTerm 253 = .ok (.aload_n 1, 1) := by decide +kernel
theorem dX15_readTerm_254 : decode cX15_readTerm 254 = .ok (.iload 4, 2) := by decide +kernel
theorem dX15_readTerm_256 : decode cX15_readTerm 256 = .ok (.iconst 4, 1) := by decide +kernel
theorem dX15_readTerm_257 : decode cX15_readTerm 257 = .ok (.iadd, 1) := by decide +kernel
theorem dX15_readTerm_258 : decode cX15_readTerm 258 = .ok (.iload 6, 2) := by decide +kernel
theorem dX15_readTerm_260 : decode cX15_readTerm 260 = .ok (.invokevirtual 271, 3) := by decide +kernel
theorem dX15_readTerm_263 : decode cX15_readTerm 263 = .ok (.ifCond .eq 15, 3) := by decide +kernel
theorem dX15_readTerm_266 : decode cX15_readTerm 266 = .ok (.aload_n 0, 1) := by decide +kernel
theorem dX15_readTerm_267 : decode cX15_readTerm 267 = .ok (.getfield 247, 3) := by decide +kernel
theorem dX15_readTerm_270 : decode cX15_readTerm 270 = .ok (.ifCond .lt 8, 3) := by decide +kernel
theorem dX15_readTerm_273 : decode cX15_readTerm 273 = .ok (.aload_n 0, 1) := by decide +kernel
theorem dX15_readTerm_274 : decode cX15_readTerm 274 = .ok (.iconst 4, 1) := by decide +kernel
theorem dX15_readTerm_275 : decode cX15_readTerm 275 = .ok (.putfield 238, 3) := by decide +kernel
theorem dX15_readTerm_278 : decode cX15_readTerm 278 = .ok (.goto 114, 3) := by decide +kernel
theorem dX15_readTerm_281 : decode cX15_readTerm 281 = .ok (.aload_n 1, 1) := by decide +kernel
theorem dX15_readTerm_282 : decode cX15_readTerm 282 = .ok (.iload 4, 2) := by decide +kernel
theorem dX15_readTerm_284 : decode cX15_readTerm 284 = .ok (.iload_n 3, 1) := by decide +kernel
theorem dX15_readTerm_285 : decode cX15_readTerm 285 = .ok (.ldc_w 274, 3) := by decide +kernel
theorem dX15_readTerm_288 : decode cX15_readTerm 288 = .ok (.invokestatic 254, 3) := by decide +kernel
theorem dX15_readTerm_291 : decode cX15_readTerm 291 = .ok (.ifCond .eq 47, 3) := by decide +kernel
theorem dX15_readTerm_294 : decode cX15_readTerm 294 = .ok (.iload_n 3, 1) := by decide +kernel
theorem dX15_readTerm_295 : decode cX15_readTerm 295 = .ok (.iload 4, 2) := by decide +kernel
theorem dX15_readTerm_297 : decode cX15_readTerm 297 = .ok (.iconst 1, 1) := by decide +kernel
theorem dX15_readTerm_298 : decode cX15_readTerm 298 = .ok (.iadd, 1) := by decide +kernel
theorem dX15_readTerm_299 : decode cX15_readTerm 299 = .ok (.if_icmp .eq 25, 3) := by decide +kernel
theorem dX15_readTerm_302 : decode cX15_readTerm 302 = .ok (.aload_n 1, 1) := by decide +kernel
theorem dX15_readTerm_303 : decode cX15_readTerm 303 = .ok (.iload 4, 2) := by decide +kernel
theorem dX15_readTerm_305 : decode cX15_readTerm 305 = .ok (.iconst 1, 1) := by decide +kernel
theorem dX15_readTerm_306 : decode cX15_readTerm 306 = .ok (.iadd, 1) := by decide +kernel
theorem dX15_readTerm_307 : decode cX15_readTerm 307 = .ok (.baload, 1) := by decide +kernel
theorem dX15_readTerm_308 : decode cX15_readTerm 308 = .ok (.bipush 58, 2) := by decide +kernel
theorem dX15_readTerm_310 : decode cX15_readTerm 310 = .ok (.if_icmp .eq 14, 3) := by decide +kernel
theorem dX15_readTerm_313 : decode cX15_readTerm 313 = .ok (.aload_n 1, 1) := by decide +kernel
theorem dX15_readTerm_314 : decode cX15_readTerm 314 = .ok (.iload 4, 2) := by decide +kernel
theorem dX15_readTerm_316 : decode cX15_readTerm 316 = .ok (.iconst 1, 1) := by decide +kernel
theorem dX15_readTerm_317 : decode cX15_readTerm 317 = .ok (.iadd, 1) := by decide +kernel
theorem dX15_readTerm_318 : decode cX15_readTerm 318 = .ok (.baload, 1) := by decide +kernel
theorem dX15_readTerm_319 : decode cX15_readTerm 319 = .ok (.bipush 47, 2) := by decide +kernel
theorem dX15_readTerm_321 : decode cX15_readTerm 321 = .ok (.if_icmp .ne 17, 3) := by decide +kernel
theorem dX15_readTerm_324 : decode cX15_readTerm 324 = .ok (.aload_n 0, 1) := by decide +kernel
theorem dX15_readTerm_325 : decode cX15_readTerm 325 = .ok (.aload_n 1, 1) := by decide +kernel
theorem dX15_readTerm_326 : decode cX15_readTerm 326 = .ok (.iload 4, 2) := by decide +kernel
theorem dX15_readTerm_328 : decode cX15_readTerm 328 = .ok (.iconst 1, 1) := by decide +kernel
theorem dX15_readTerm_329 : decode cX15_readTerm 329 = .ok (.iadd, 1) := by decide +kernel
theorem dX15_readTerm_330 : decode cX15_readTerm 330 = .ok (.iload_n 3, 1) := by decide +kernel
theorem dX15_readTerm_331 : decode cX15_readTerm 331 = .ok (.iconst 2, 1) := by decide +kernel
theorem dX15_readTerm_332 : decode cX15_readTerm 332 = .ok (.invokevirtual 276, 3) := by decide +kernel
theorem dX15_readTerm_335 : decode cX15_readTerm 335 = .ok (.goto 57, 3) := by decide +kernel
theorem dX15_readTerm_338 : decode cX15_readTerm 338 = .ok (.aload_n 1, 1) := by decide +kernel
theorem dX15_readTerm_339 : decode cX15_readTerm 339 = .ok (.iload 4, 2) := by decide +kernel
theorem dX15_readTerm_341 : decode cX15_readTerm 341 = .ok (.iload_n 3, 1) := by decide +kernel
theorem dX15_readTerm_342 : decode cX15_readTerm 342 = .ok (.ldc_w 280, 3) := by decide +kernel
theorem dX15_readTerm_345 : decode cX15_readTerm 345 = .ok (.invokestatic 254, 3) := by decide +kernel
theorem dX15_readTerm_348 : decode cX15_readTerm 348 = .ok (.ifCond .eq 44, 3) := by decide +kernel
theorem dX15_readTerm_351 : decode cX15_readTerm 351 = .ok (.iload_n 3, 1) := by decide +kernel
theorem dX15_readTerm_352 : decode cX15_readTerm 352 = .ok (.iload 4, 2) := by decide +kernel
theorem dX15_readTerm_354 : decode cX15_readTerm 354 = .ok (.iconst 2, 1) := by decide +kernel
theorem dX15_readTerm_355 : decode cX15_readTerm 355 = .ok (.iadd, 1) := by decide +kernel
theorem dX15_readTerm_356 : decode cX15_readTerm 356 = .ok (.if_icmp .eq 25, 3) := by decide +kernel
theorem dX15_readTerm_359 : decode cX15_readTerm 359 = .ok (.aload_n 1, 1) := by decide +kernel
theorem dX15_readTerm_360 : decode cX15_readTerm 360 = .ok (.iload 4, 2) := by decide +kernel
theorem dX15_readTerm_362 : decode cX15_readTerm 362 = .ok (.iconst 2, 1) := by decide +kernel
theorem dX15_readTerm_363 : decode cX15_readTerm 363 = .ok (.iadd, 1) := by decide +kernel
theorem dX15_readTerm_364 : decode cX15_readTerm 364 = .ok (.baload, 1) := by decide +kernel
theorem dX15_readTerm_365 : decode cX15_readTerm 365 = .ok (.bipush 58, 2) := by decide +kernel
theorem dX15_readTerm_367 : decode cX15_readTerm 367 = .ok (.if_icmp .eq 14, 3) := by decide +kernel
theorem dX15_readTerm_370 : decode cX15_readTerm 370 = .ok (.aload_n 1, 1) := by decide +kernel
theorem dX15_readTerm_371 : decode cX15_readTerm 371 = .ok (.iload 4, 2) := by decide +kernel
theorem dX15_readTerm_373 : decode cX15_readTerm 373 = .ok (.iconst 2, 1) := by decide +kernel
theorem dX15_readTerm_374 : decode cX15_readTerm 374 = .ok (.iadd, 1) := by decide +kernel
theorem dX15_readTerm_375 : decode cX15_readTerm 375 = .ok (.baload, 1) := by decide +kernel
theorem dX15_readTerm_376 : decode cX15_readTerm 376 = .ok (.bipush 47, 2) := by decide +kernel
theorem dX15_readTerm_378 : decode cX15_readTerm 378 = .ok (.if_icmp .ne 14, 3) := by decide +kernel
theorem dX15_readTerm_381 : decode cX15_readTerm 381 = .ok (.aload_n 0, 1) := by decide +kernel
theorem dX15_readTerm_382 : decode cX15_readTerm 382 = .ok (.aload_n 1, 1) := by decide +kernel
theorem dX15_readTerm_383 : decode cX15_readTerm 383 = .ok (.iload 4, 2) := by decide +kernel
theorem dX15_readTerm_385 : decode cX15_readTerm 385 = .ok (.iconst 2, 1) := by decide +kernel
theorem dX15_readTerm_386 : decode cX15_readTerm 386 = .ok (.iadd, 1) := by decide +kernel
theorem dX15_readTerm_387 : decode cX15_readTerm 387 = .ok (.iload_n 3, 1) := by decide +kernel
theorem dX15_readTerm_388 : decode cX15_readTerm 388 = .ok (.iconst 3, 1) := by decide +kernel
theorem dX15_readTerm_389 : decode cX15_readTerm 389 = .ok (.invokevirtual 276, 3) := by decide +kernel
theorem dX15_readTerm_392 : decode cX15_readTerm 392 = .ok (.aload_n 0, 1) := by decide +kernel
theorem dX15_readTerm_393 : decode cX15_readTerm 393 = .ok (.getfield 238, 3) := by decide +kernel
theorem dX15_readTerm_396 : decode cX15_readTerm 396 = .ok (.bipush 8, 2) := by decide +kernel
theorem dX15_readTerm_398 : decode cX15_readTerm 398 = .ok (.if_icmp .ne 8, 3) := by decide +kernel
theorem dX15_readTerm_401 : decode cX15_readTerm 401 = .ok (.iload 5, 2) := by decide +kernel
theorem dX15_readTerm_403 : decode cX15_readTerm 403 = .ok (.ifCond .eq 4, 3) := by decide +kernel
theorem dX15_readTerm_406 : decode cX15_readTerm 406 = .ok (.return_, 1) := by decide +kernel
theorem dX15_readTerm_407 : decode cX15_readTerm 407 = .ok (.aload_n 1, 1) := by decide +kernel
theorem dX15_readTerm_408 : decode cX15_readTerm 408 = .ok (.iload 4, 2) := by decide +kernel
theorem dX15_readTerm_410 : decode cX15_readTerm 410 = .ok (.iload_n 3, 1) := by decide +kernel
theorem dX15_readTerm_411 : decode cX15_readTerm 411 = .ok (.ldc_w 282, 3) := by decide +kernel
theorem dX15_readTerm_414 : decode cX15_readTerm 414 = .ok (.invokestatic 254, 3) := by decide +kernel
theorem dX15_readTerm_417 : decode cX15_readTerm 417 = .ok (.ifCond .eq 40, 3) := by decide +kernel
theorem dX15_readTerm_420 : decode cX15_readTerm 420 = .ok (.aload_n 0, 1) := by decide +kernel
theorem dX15_readTerm_421 : decode cX15_readTerm 421 = .ok (.iload 4, 2) := by decide +kernel
theorem dX15_readTerm_423 : decode cX15_readTerm 423 = .ok (.bipush 9, 2) := by decide +kernel
theorem dX15_readTerm_425 : decode cX15_readTerm 425 = .ok (.iadd, 1) := by decide +kernel
theorem dX15_readTerm_426 : decode cX15_readTerm 426 = .ok (.putfield 241, 3) := by decide +kernel
theorem dX15_readTerm_429 : decode cX15_readTerm 429 = .ok (.aload_n 0, 1) := by decide +kernel
theorem dX15_readTerm_430 : decode cX15_readTerm 430 = .ok (.iload_n 3, 1) := by decide +kernel
theorem dX15_readTerm_431 : decode cX15_readTerm 431 = .ok (.putfield 244, 3) := by decide +kernel
theorem dX15_readTerm_434 : decode cX15_readTerm 434 = .ok (.aload_n 1, 1) := by decide +kernel
theorem dX15_readTerm_435 : decode cX15_readTerm 435 = .ok (.aload_n 0, 1) := by decide +kernel
theorem dX15_readTerm_436 : decode cX15_readTerm 436 = .ok (.getfield 241, 3) := by decide +kernel
theorem dX15_readTerm_439 : decode cX15_readTerm 439 = .ok (.aload_n 0, 1) := by decide +kernel
theorem dX15_readTerm_440 : decode cX15_readTerm 440 = .ok (.getfield 244, 3) := by decide +kernel
theorem dX15_readTerm_443 : decode cX15_readTerm 443 = .ok (.iconst 1, 1) := by decide +kernel
theorem dX15_readTerm_444 : decode cX15_readTerm 444 = .ok (.invokestatic 257, 3) := by decide +kernel
theorem dX15_readTerm_447 : decode cX15_readTerm 447 = .ok (.ifCond .eq 9, 3) := by decide +kernel
theorem dX15_readTerm_450 : decode cX15_readTerm 450 = .ok (.aload_n 0, 1) := by decide +kernel
theorem dX15_readTerm_451 : decode cX15_readTerm 451 = .ok (.bipush 6, 2) := by decide +kernel
theorem dX15_readTerm_453 : decode cX15_readTerm 453 = .ok (.putfield 238, 3) := by decide +kernel
theorem dX15_readTerm_456 : decode cX15_readTerm 456 = .ok (.return_, 1) := by decide +kernel
theorem dX15_readTerm_457 : decode cX15_readTerm 457 = .ok (.iload 4, 2) := by decide +kernel
theorem dX15_readTerm_459 : decode cX15_readTerm 459 = .ok (.istore 6, 2) := by decide +kernel
theorem dX15_readTerm_461 : decode cX15_readTerm 461 = .ok (.iload 6, 2) := by decide +kernel
theorem dX15_readTerm_463 : decode cX15_readTerm 463 = .ok (.iload_n 3, 1) := by decide +kernel
theorem dX15_readTerm_464 : decode cX15_readTerm 464 = .ok (.if_icmp .ge 63, 3) := by decide +kernel
theorem dX15_readTerm_467 : decode cX15_readTerm 467 = .ok (.aload_n 1, 1) := by decide +kernel
theorem dX15_readTerm_468 : decode cX15_readTerm 468 = .ok (.iload 6, 2) := by decide +kernel
theorem dX15_readTerm_470 : decode cX15_readTerm 470 = .ok (.baload, 1) := by decide +kernel
theorem dX15_readTerm_471 : decode cX15_readTerm 471 = .ok (.invokestatic 3, 3) := by decide +kernel
theorem dX15_readTerm_474 : decode cX15_readTerm 474 = .ok (.ifCond .ne 47, 3) := by decide +kernel
theorem dX15_readTerm_477 : decode cX15_readTerm 477 = .ok (.iload 6, 2) := by decide +kernel
theorem dX15_readTerm_479 : decode cX15_readTerm 479 = .ok (.iload 4, 2) := by decide +kernel
theorem dX15_readTerm_481 : decode cX15_readTerm 481 = .ok (.if_icmp .le 46, 3) := by decide +kernel
theorem dX15_readTerm_484 : decode cX15_readTerm 484 = .ok (.aload_n 1, 1) := by decide +kernel
theorem dX15_readTerm_485 : decode cX15_readTerm 485 = .ok (.iload 6, 2) := by decide +kernel
theorem dX15_readTerm_487 : decode cX15_readTerm 487 = .ok (.baload, 1) := by decide +kernel
theorem dX15_readTerm_488 : decode cX15_readTerm 488 = .ok (.invokestatic 202, 3) := by decide +kernel
theorem dX15_readTerm_491 : decode cX15_readTerm 491 = .ok (.ifCond .ne 30, 3) := by decide +kernel
theorem dX15_readTerm_494 : decode cX15_readTerm 494 = .ok (.aload_n 1, 1) := by decide +kernel
theorem dX15_readTerm_495 : decode cX15_readTerm 495 = .ok (.iload 6, 2) := by decide +kernel
theorem dX15_readTerm_497 : decode cX15_readTerm 497 = .ok (.baload, 1) := by decide +kernel
theorem dX15_readTerm_498 : decode cX15_readTerm 498 = .ok (.bipush 45, 2) := by decide +kernel
theorem dX15_readTerm_500 : decode cX15_readTerm 500 = .ok (.if_icmp .eq 21, 3) := by decide +kernel
theorem dX15_readTerm_503 : decode cX15_readTerm 503 = .ok (.aload_n 1, 1) := by decide +kernel
theorem dX15_readTerm_504 : decode cX15_readTerm 504 = .ok (.iload 6, 2) := by decide +kernel
theorem dX15_readTerm_506 : decode cX15_readTerm 506 = .ok (.baload, 1) := by decide +kernel
theorem dX15_readTerm_507 : decode cX15_readTerm 507 = .ok (.bipush 95, 2) := by decide +kernel
theorem dX15_readTerm_509 : decode cX15_readTerm 509 = .ok (.if_icmp .eq 12, 3) := by decide +kernel
theorem dX15_readTerm_512 : decode cX15_readTerm 512 = .ok (.aload_n 1, 1) := by decide +kernel
theorem dX15_readTerm_513 : decode cX15_readTerm 513 = .ok (.iload 6, 2) := by decide +kernel
theorem dX15_readTerm_515 : decode cX15_readTerm 515 = .ok (.baload, 1) := by decide +kernel
theorem dX15_readTerm_516 : decode cX15_readTerm 516 = .ok (.bipush 46, 2) := by decide +kernel
theorem dX15_readTerm_518 : decode cX15_readTerm 518 = .ok (.if_icmp .ne 9, 3) := by decide +kernel
theorem dX15_readTerm_521 : decode cX15_readTerm 521 = .ok (.iinc 6 1, 3) := by decide +kernel
theorem dX15_readTerm_524 : decode cX15_readTerm 524 = .ok (.goto (-63), 3) := by decide +kernel
theorem dX15_readTerm_527 : decode cX15_readTerm 527 = .ok (.iload 6, 2) := by decide +kernel
theorem dX15_readTerm_529 : decode cX15_readTerm 529 = .ok (.iload 4, 2) := by decide +kernel
theorem dX15_readTerm_531 : decode cX15_readTerm 531 = .ok (.if_icmp .le 24, 3) := by decide +kernel
theorem dX15_readTerm_534 : decode cX15_readTerm 534 = .ok (.iload 6, 2) := by decide +kernel
theorem dX15_readTerm_536 : decode cX15_readTerm 536 = .ok (.iload_n 3, 1) := by decide +kernel
theorem dX15_readTerm_537 : decode cX15_readTerm 537 = .ok (.if_icmp .ge 18, 3) := by decide +kernel
theorem dX15_readTerm_540 : decode cX15_readTerm 540 = .ok (.aload_n 1, 1) := by decide +kernel
theorem dX15_readTerm_541 : decode cX15_readTerm 541 = .ok (.iload 6, 2) := by decide +kernel
theorem dX15_readTerm_543 : decode cX15_readTerm 543 = .ok (.baload, 1) := by decide +kernel
theorem dX15_readTerm_544 : decode cX15_readTerm 544 = .ok (.bipush 61, 2) := by decide +kernel
theorem dX15_readTerm_546 : decode cX15_readTerm 546 = .ok (.if_icmp .ne 9, 3) := by decide +kernel
theorem dX15_readTerm_549 : decode cX15_readTerm 549 = .ok (.aload_n 0, 1) := by decide +kernel
theorem dX15_readTerm_550 : decode cX15_readTerm 550 = .ok (.bipush 7, 2) := by decide +kernel
theorem dX15_readTerm_552 : decode cX15_readTerm 552 = .ok (.putfield 238, 3) := by decide +kernel
theorem dX15_readTerm_555 : decode cX15_readTerm 555 = .ok (.return_, 1) := by decide +kernel
theorem kt_735 : Cond.fieldLink RX15 232 "PostGateModel" "quad" "I" ∈ tb := tb_at (i := 1311) (by decide +kernel) (by decide +kernel)
theorem kt_736 : Cond.code yX15_slashOf cX15_slashOf 4 (some .int) ∈ tb := tb_at (i := 1580) (by decide +kernel) (by decide +kernel)
theorem kt_737 : Cond.methodLink RX15 265 yX15_slashOf ∈ tb := tb_at (i := 1578) (by decide +kernel) (by decide +kernel)
theorem kt_738 : Cond.static yX15_slashOf ∈ tb := tb_at (i := 1579) (by decide +kernel) (by decide +kernel)
theorem kt_739 : Cond.fieldLink RX15 247 "PostGateModel" "width" "I" ∈ tb := tb_at (i := 1310) (by decide +kernel) (by decide +kernel)
theorem kt_740 : Cond.fieldLink RX15 238 "PostGateModel" "term" "I" ∈ tb := tb_at (i := 1306) (by decide +kernel) (by decide +kernel)
theorem kt_741 : Cond.fieldLink RX15 241 "PostGateModel" "dFrom" "I" ∈ tb := tb_at (i := 1308) (by decide +kernel) (by decide +kernel)
theorem kt_742 : Cond.fieldLink RX15 244 "PostGateModel" "dTo" "I" ∈ tb := tb_at (i := 1309) (by decide +kernel) (by decide +kernel)
theorem kt_743 : Cond.code yX15_isD cX15_isD 6 (some .boolean) ∈ tb := tb_at (i := 1570) (by decide +kernel) (by decide +kernel)
theorem kt_744 : Cond.methodLink RX15 257 yX15_isD ∈ tb := tb_at (i := 1568) (by decide +kernel) (by decide +kernel)
theorem kt_745 : Cond.static yX15_isD ∈ tb := tb_at (i := 1569) (by decide +kernel) (by decide +kernel)
theorem kt_746 : Cond.code yX15_bits cX15_bits 5 (some .int) ∈ tb := tb_at (i := 1583) (by decide +kernel) (by decide +kernel)
theorem kt_747 : Cond.methodLink RX15 268 yX15_bits ∈ tb := tb_at (i := 1581) (by decide +kernel) (by decide +kernel)
theorem kt_748 : Cond.static yX15_bits ∈ tb := tb_at (i := 1582) (by decide +kernel) (by decide +kernel)
theorem kt_749 : Cond.fieldLink RX15 235 "PostGateModel" "sign" "I" ∈ tb := tb_at (i := 1307) (by decide +kernel) (by decide +kernel)
theorem kt_750 : Cond.code yX15_readHost cX15_readHost 6 none ∈ tb := tb_at (i := 1593) (by decide +kernel) (by decide +kernel)
theorem kt_751 : Cond.methodLink RX15 276 yX15_readHost ∈ tb := tb_at (i := 1590) (by decide +kernel) (by decide +kernel)
theorem kt_752 : Cond.instanceMethod yX15_readHost ∈ tb := tb_at (i := 1592) (by decide +kernel) (by decide +kernel)
theorem kt_753 : Cond.selects RX15 yX15_readHost yX15_readHost ∈ tb := tb_at (i := 49) (by decide +kernel) (by decide +kernel)
theorem kt_754 : Cond.code yX15_isQuad cX15_isQuad 8 (some .boolean) ∈ tb := tb_at (i := 1588) (by decide +kernel) (by decide +kernel)
theorem kt_755 : Cond.methodLink RX15 271 yX15_isQuad ∈ tb := tb_at (i := 1585) (by decide +kernel) (by decide +kernel)
theorem kt_756 : Cond.instanceMethod yX15_isQuad ∈ tb := tb_at (i := 1587) (by decide +kernel) (by decide +kernel)
theorem kt_757 : Cond.selects RX15 yX15_isQuad yX15_isQuad ∈ tb := tb_at (i := 48) (by decide +kernel) (by decide +kernel)
theorem c0_ne {fv : Nat → Int32} {a kk n : Nat} {C : Nat → Int32} (h : ∀ i, i < n → fv (kk + i) = chv (C i)) (hn : 0 < n) (e : kk = a) (h9 : fv a = 114) (hc : chv (C 0) ≠ 114) : False := by
  have h1 := h 0 hn
  subst e
  exact hc (h1.symm.trans h9)
set_option maxHeartbeats 4000000 in
set_option maxRecDepth 100000 in
theorem s_X15_isQuad (l : Launch) (dC : Nat → ClassId) (dI : Nat → Nat → Nat) (cs : Nat → ClassId) (ty : TyM) (gm : Nat → Nat → Nat) (L : List Nat) (sz : Nat) (F : Nat → va_E) (h0 : Nat) (ρ : Nat) (ta : Nat) (ou : Nat) (so : Nat) (ad : Nat) (na : Nat) (va : Nat) (lc : Nat) (dm : Nat) (tg : Nat) (pe : Nat) (ml : Nat) (bg : Nat) (co : Nat) (sp : Nat) (nb0 : Nat) (nb1 : Nat) (nb2 : Nat) (pl : Nat) (se : Nat) (ke : Nat) (wi : Nat) (hs : Nat) (mo : Nat) (po : Nat) (nu : Nat) (pr : Nat) (sq : Nat) (xa : Nat) (sa : Nat) (n64 : Nat) (m64 : Nat) (ex : Nat) (wh : Nat) (sd : Nat) (tk : Nat) (hd : Nat) (ak : Nat) (ho : Nat) (ot : Nat) (sx : Nat) (s0 : Nat) (s1 : Nat) (s2 : Nat) (nf : Nat) (bd : Nat) (mm : Nat) (zo : Nat) (ze : Nat) (zt : Nat) (v11 : Int32) (v12 : Int32) (v14 : Int32) (v15 : Int32) (v17 : Int32) (v18 : Int32) (v19 : Int32) (v20 : Int32) (v21 : Int32) (v22 : Int32) (v33 : Int32) (v52 : Int32) (v53 : Int32) (v54 : Int32) (g1 : Nat) (μ : Nat) (fv : Nat → Int32) (a : Nat) (tt : Nat) (hW : WTm ty gm L) (hL_h0 : h0 ∈ L) (hT_h0 : ty h0 = (15, ρ, [ta, ou, so, ad, na, va, lc, dm, tg, pe, ml, bg, co, sp, nb0, nb1, nb2, pl, se, ke, wi, hs, mo, po, nu, pr, sq, xa, sa, n64, m64, ex, wh, sd, tk, hd, ak, ho, ot, sx, s0, s1, s2, nf, bd, mm, zo, ze, zt])) (hL_g1 : g1 ∈ L) (hT_g1 : ty g1 = (17, μ, [700])) (hF0 : F h0 = .inr (15, (.ref ta) :: (.int (nI zt)) :: (.int (nI zo)) :: (.int (nI ze)) :: (.ref ou) :: (.ref so) :: (.ref ad) :: (.ref na) :: (.ref va) :: (.ref lc) :: (.ref dm) :: (.int v11) :: (.int v12) :: (.ref tg) :: (.int v14) :: (.int v15) :: (.ref pe) :: (.int v17) :: (.int v18) :: (.int v19) :: (.int v20) :: (.int v21) :: (.int v22) :: (.ref ml) :: (.ref bg) :: (.ref co) :: (.ref sp) :: (.ref nb0) :: (.ref nb1) :: (.ref nb2) :: (.int (nI nf)) :: (.int (nI bd)) :: (.int (nI mm)) :: (.int v33) :: (.ref pl) :: (.ref se) :: (.ref ke) :: (.ref wi) :: (.ref hs) :: (.ref mo) :: (.ref po) :: (.ref nu) :: (.ref pr) :: (.ref sq) :: (.ref xa) :: (.ref sa) :: (.ref n64) :: (.ref m64) :: (.ref ex) :: (.ref wh) :: (.ref sd) :: (.ref tk) :: (.int v52) :: (.int v53) :: (.int v54) :: (.ref hd) :: (.ref ak) :: (.ref ho) :: (.ref ot) :: [])) (hzo : zo ≤ 6000) (hze : ze ≤ 40) (h33 : ((v33 = 0 ∧ nf = 0) ∨ (v33 = 1 ∧ 1 ≤ nf))) (h54 : (v54 = 0 ∨ v54 = 1)) (hFg : F g1 = .inl (cs 17, 700, .inl fv)) (hmu : ρ + 100 ≤ μ) (htn : tt ≤ 700) (ha : a ≤ 20000) : Met l yX15_isQuad (.code yX15_isQuad cX15_isQuad 8 (some .boolean) :: tb) ({ frames := 1, cells := 0, slots := 0, locals := 20 }) (va_Pc [.ref h0, .ref g1, .int (nI a), .int (nI tt)] (PTm (dC, dI) cs ty gm L F sz)) (va_Qi (fun (r : Int32) (_ : Unit) => (r = 0 ∨ r = 1)) (fun _ T9 => ∃ F2 : Nat → va_E, ∃ u22 : Int32, QTm (dC, dI) cs ty gm L [ρ] F F2 (va_A (va_pl L F) sz) T9 ∧ F2 h0 = .inr (15, (.ref ta) :: (.int (nI zt)) :: (.int (nI zo)) :: (.int (nI ze)) :: (.ref ou) :: (.ref so) :: (.ref ad) :: (.ref na) :: (.ref va) :: (.ref lc) :: (.ref dm) :: (.int v11) :: (.int v12) :: (.ref tg) :: (.int v14) :: (.int v15) :: (.ref pe) :: (.int v17) :: (.int v18) :: (.int v19) :: (.int v20) :: (.int v21) :: (.int u22) :: (.ref ml) :: (.ref bg) :: (.ref co) :: (.ref sp) :: (.ref nb0) :: (.ref nb1) :: (.ref nb2) :: (.int (nI nf)) :: (.int (nI bd)) :: (.int (nI mm)) :: (.int v33) :: (.ref pl) :: (.ref se) :: (.ref ke) :: (.ref wi) :: (.ref hs) :: (.ref mo) :: (.ref po) :: (.ref nu) :: (.ref pr) :: (.ref sq) :: (.ref xa) :: (.ref sa) :: (.ref n64) :: (.ref m64) :: (.ref ex) :: (.ref wh) :: (.ref sd) :: (.ref tk) :: (.int v52) :: (.int v53) :: (.int v54) :: (.ref hd) :: (.ref ak) :: (.ref ho) :: (.ref ot) :: [])) (va_A (va_pl L F) sz)) 0 0 (va_A (va_pl L F) sz) := by
  refine Met.ofW (cc := cX15_isQuad) (maxL := 8) (ret := (some .boolean)) (by decide) rfl ?_
  intro p e s m args below meth c s₁ B hml hv
  obtain ⟨rfl, hsz, hP, hK, hD0, hE, hO⟩ := hv
  have hx := B.exec
  have hb := B.bytes
  have hr := B.returns
  have hts : ∀ w ∈ tb, w.before _ s = true := fun w h => atoms_spec (ws := .code yX15_isQuad cX15_isQuad 8 (some .boolean) :: tb) B.pre w (List.mem_cons_of_mem _ h)
  have hown : s.vm.findClass RX15 = some m.cls := findClass_of_methodNamed B.named
  have hlocks := B.notSynchronized
  subst hsz
  have hD := hD0.self (sz := s.heap.size)
  generalize hAe : va_A (va_pl L F) s.heap.size = A at hD ⊢
  have hA : ∀ q : Nat, s.heap.size ≤ q → A q := fun q h => by rw [← hAe]; exact Or.inr h
  have hS : va_S A s.heap s.heap [] := va_S.rf
  have hR : FR ty [ρ] F F := FR.refl
  have hl := lv_entry ([.ref h0, .ref g1, .int (nI a), .int (nI tt)]) (n := 8) (Nat.le_of_ble_eq_true rfl)
  rw [lg_entry_eq]
  generalize (lg_sl ([.ref h0, .ref g1, .int (nI a), .int (nI tt)]) ++ List.replicate (8 - (lg_sl ([.ref h0, .ref g1, .int (nI a), .int (nI tt)])).length) Slot.unset).toArray = ls at hl ⊢
  have hl : lv_has ls 8 [(0, .ref h0), (1, .ref g1), (2, .int (nI a)), (3, .int (nI tt))] := hl
  refine lv_iconst (v := 0) hx hb dX15_isQuad_0 (by decide) ?_
  refine lv_istore (lv' := [(4, .int 0), (0, .ref h0), (1, .ref g1), (2, .int (nI a)), (3, .int (nI tt))]) hx hb dX15_isQuad_1 hl (by decide) rfl (fun ls hl => ?_)
  refine lv_iconst (v := 0) hx hb dX15_isQuad_3 (by decide) ?_
  refine lv_istore (lv' := [(5, .int 0), (4, .int 0), (0, .ref h0), (1, .ref g1), (2, .int (nI a)), (3, .int (nI tt))]) hx hb dX15_isQuad_4 hl (by decide) rfl (fun ls hl => ?_)
  refine lv_iconst (v := 0) hx hb dX15_isQuad_6 (by decide) ?_
  refine lv_istore (lv' := [(6, .int 0), (5, .int 0), (4, .int 0), (0, .ref h0), (1, .ref g1), (2, .int (nI a)), (3, .int (nI tt))]) hx hb dX15_isQuad_7 hl (by decide) rfl (fun ls hl => ?_)
  refine lv_aload_n hx hb dX15_isQuad_9 rfl (lv_at hl 3 rfl) ?_
  refine lv_iconst (v := 0) hx hb dX15_isQuad_10 (by decide) ?_
  obtain ⟨hq_23, hq_24, hq_25, hq_26, hq_27, hgO, hgA, hgB⟩ := hW.sc hL_h0 hT_h0
  refine pg_put (ci := 15) (v := .int 0) (ty := .int) (C := RX15) (T := TX15) (N := 59) hx hb hts it_15 tyX15 tyX15_ok nmX15 hown hK hP hD hS hL_h0 hF0 rfl 22 (by decide) (hts _ kt_735) (fun _ h9 => h9) rfl (by decide +kernel) (rfl) (rfl) (Nat.le_of_ble_eq_true rfl) dX15_isQuad_11 (fun H locs hP hD hS => ?_)
  obtain ⟨F_28, he_29, hP, hD, hO, hR⟩ : ∃ G, G = va_up F h0 (.inr (15, (.ref ta) :: (.int (nI zt)) :: (.int (nI zo)) :: (.int (nI ze)) :: (.ref ou) :: (.ref so) :: (.ref ad) :: (.ref na) :: (.ref va) :: (.ref lc) :: (.ref dm) :: (.int v11) :: (.int v12) :: (.ref tg) :: (.int v14) :: (.int v15) :: (.ref pe) :: (.int v17) :: (.int v18) :: (.int v19) :: (.int v20) :: (.int v21) :: (.int 0) :: (.ref ml) :: (.ref bg) :: (.ref co) :: (.ref sp) :: (.ref nb0) :: (.ref nb1) :: (.ref nb2) :: (.int (nI nf)) :: (.int (nI bd)) :: (.int (nI mm)) :: (.int v33) :: (.ref pl) :: (.ref se) :: (.ref ke) :: (.ref wi) :: (.ref hs) :: (.ref mo) :: (.ref po) :: (.ref nu) :: (.ref pr) :: (.ref sq) :: (.ref xa) :: (.ref sa) :: (.ref n64) :: (.ref m64) :: (.ref ex) :: (.ref wh) :: (.ref sd) :: (.ref tk) :: (.int v52) :: (.int v53) :: (.int v54) :: (.ref hd) :: (.ref ak) :: (.ref ho) :: (.ref ot) :: [])) ∧ va_P (dC, dI) vwCl (va_pl L G) H ∧ va_D A (va_pl L G) ∧ OKm cs ty gm L G ∧ FR ty [ρ] F G := ⟨_, rfl, hP, hD, hO.up (shm.mod hT_h0 ⟨v11, v12, v14, v15, v17, v18, v19, v20, v21, 0, v33, v52, v53, v54, rfl, (by first | omega | assumption | exact Or.inl rfl | exact Or.inr rfl), (by first | omega | assumption | exact Or.inl rfl | exact Or.inr rfl), (by first | omega | assumption | exact Or.inl rfl | exact Or.inr rfl), (by first | omega | assumption | exact Or.inl rfl | exact Or.inr rfl)⟩), hR.up hT_h0 (by simp)⟩
  have hF_30 : F_28 h0 = .inr (15, (.ref ta) :: (.int (nI zt)) :: (.int (nI zo)) :: (.int (nI ze)) :: (.ref ou) :: (.ref so) :: (.ref ad) :: (.ref na) :: (.ref va) :: (.ref lc) :: (.ref dm) :: (.int v11) :: (.int v12) :: (.ref tg) :: (.int v14) :: (.int v15) :: (.ref pe) :: (.int v17) :: (.int v18) :: (.int v19) :: (.int v20) :: (.int v21) :: (.int 0) :: (.ref ml) :: (.ref bg) :: (.ref co) :: (.ref sp) :: (.ref nb0) :: (.ref nb1) :: (.ref nb2) :: (.int (nI nf)) :: (.int (nI bd)) :: (.int (nI mm)) :: (.int v33) :: (.ref pl) :: (.ref se) :: (.ref ke) :: (.ref wi) :: (.ref hs) :: (.ref mo) :: (.ref po) :: (.ref nu) :: (.ref pr) :: (.ref sq) :: (.ref xa) :: (.ref sa) :: (.ref n64) :: (.ref m64) :: (.ref ex) :: (.ref wh) :: (.ref sd) :: (.ref tk) :: (.int v52) :: (.int v53) :: (.int v54) :: (.ref hd) :: (.ref ak) :: (.ref ho) :: (.ref ot) :: []) := by rw [he_29]; exact up_self
  have hF_31 : F_28 g1 = .inl (cs 17, 700, .inl fv) := by rw [he_29, up_ne (ne_ty hT_g1 hT_h0 (by simp))]; exact hFg
  refine lv_iload_n hx hb dX15_isQuad_14 rfl (lv_at hl 5 rfl) ?_
  refine lv_istore (lv' := [(7, .int (nI a)), (6, .int 0), (5, .int 0), (4, .int 0), (0, .ref h0), (1, .ref g1), (2, .int (nI a)), (3, .int (nI tt))]) hx hb dX15_isQuad_15 hl (by decide) rfl (fun ls hl => ?_)
  refine W.widen (k := 0) (n := 0) (by omega) (by omega) ?_
  have hF_33 : F g1 = .inl (cs 17, 700, .inl fv) := (hR g1 (by rw [hT_g1]; simp only [List.mem_cons, List.not_mem_nil, or_false]; omega)).symm.trans hF_31
  refine pl_loopm (σ := Nat × Int32 × Int32 × Int32 × Int32) A (dC, dI) cs ty gm L [ρ] F 17 8 (fun (j, w4, w5, w6, q22) => [(7, .int (nI j)), (6, .int w6), (5, .int w5), (4, .int w4), (0, .ref h0), (1, .ref g1), (2, .int (nI a)), (3, .int (nI tt))]) (fun (j, w4, w5, w6, q22) => []) (fun (j, w4, w5, w6, q22) FF => j ≤ 20001 ∧ FF h0 = .inr (15, (.ref ta) :: (.int (nI zt)) :: (.int (nI zo)) :: (.int (nI ze)) :: (.ref ou) :: (.ref so) :: (.ref ad) :: (.ref na) :: (.ref va) :: (.ref lc) :: (.ref dm) :: (.int v11) :: (.int v12) :: (.ref tg) :: (.int v14) :: (.int v15) :: (.ref pe) :: (.int v17) :: (.int v18) :: (.int v19) :: (.int v20) :: (.int v21) :: (.int q22) :: (.ref ml) :: (.ref bg) :: (.ref co) :: (.ref sp) :: (.ref nb0) :: (.ref nb1) :: (.ref nb2) :: (.int (nI nf)) :: (.int (nI bd)) :: (.int (nI mm)) :: (.int v33) :: (.ref pl) :: (.ref se) :: (.ref ke) :: (.ref wi) :: (.ref hs) :: (.ref mo) :: (.ref po) :: (.ref nu) :: (.ref pr) :: (.ref sq) :: (.ref xa) :: (.ref sa) :: (.ref n64) :: (.ref m64) :: (.ref ex) :: (.ref wh) :: (.ref sd) :: (.ref tk) :: (.int v52) :: (.int v53) :: (.int v54) :: (.ref hd) :: (.ref ak) :: (.ref ho) :: (.ref ot) :: [])) (fun (j, w4, w5, w6, q22) => 20001 - j) ?_ (a, 0, 0, 0, 0) F_28 (⟨by omega, hF_30⟩) hO hR _ _ hP hD hS ls (lv_sub hl [0, 1, 2, 3, 4, 5, 6, 7] rfl)
  rintro ⟨j, w4, w5, w6, q22⟩ F_32 hv_34 hO hR ih_35 H locs hP hD hS ls hl
  have hl : lv_has ls 8 [(7, .int (nI j)), (6, .int w6), (5, .int w5), (4, .int w4), (0, .ref h0), (1, .ref g1), (2, .int (nI a)), (3, .int (nI tt))] := hl
  have hv_34 : j ≤ 20001 ∧ F_32 h0 = .inr (15, (.ref ta) :: (.int (nI zt)) :: (.int (nI zo)) :: (.int (nI ze)) :: (.ref ou) :: (.ref so) :: (.ref ad) :: (.ref na) :: (.ref va) :: (.ref lc) :: (.ref dm) :: (.int v11) :: (.int v12) :: (.ref tg) :: (.int v14) :: (.int v15) :: (.ref pe) :: (.int v17) :: (.int v18) :: (.int v19) :: (.int v20) :: (.int v21) :: (.int q22) :: (.ref ml) :: (.ref bg) :: (.ref co) :: (.ref sp) :: (.ref nb0) :: (.ref nb1) :: (.ref nb2) :: (.int (nI nf)) :: (.int (nI bd)) :: (.int (nI mm)) :: (.int v33) :: (.ref pl) :: (.ref se) :: (.ref ke) :: (.ref wi) :: (.ref hs) :: (.ref mo) :: (.ref po) :: (.ref nu) :: (.ref pr) :: (.ref sq) :: (.ref xa) :: (.ref sa) :: (.ref n64) :: (.ref m64) :: (.ref ex) :: (.ref wh) :: (.ref sd) :: (.ref tk) :: (.int v52) :: (.int v53) :: (.int v54) :: (.ref hd) :: (.ref ak) :: (.ref ho) :: (.ref ot) :: []) := hv_34
  refine W.eq (g2 := F0 m 17 ls []) rfl ?_
  have hF_36 : F_32 g1 = .inl (cs 17, 700, .inl fv) := (hR g1 (by rw [hT_g1]; simp only [List.mem_cons, List.not_mem_nil, or_false]; omega)).trans hF_33
  obtain ⟨hv1, hv2⟩ := hv_34
  refine lv_iload hx hb dX15_isQuad_17 (lv_at hl 0 rfl) ?_
  refine lv_iload_n hx hb dX15_isQuad_19 rfl (lv_at hl 7 rfl) ?_
  refine lv_icmp_gt (tgt := 124) hx hb dX15_isQuad_20 (by decide) (fun c_37 => ?_) (fun c_37 => ?_)
  ·
    have hi_38 : tt < j := (nI_ltI (a := tt) (b := j) (by omega) (by omega)).mp c_37
    refine lv_iload hx hb dX15_isQuad_124 (lv_at hl 3 rfl) ?_
    refine lv_iconst (v := 4) hx hb dX15_isQuad_126 (by decide) ?_
    refine lv_icmp_ne (tgt := 134) hx hb dX15_isQuad_127 (by decide) (fun c_39 => ?_) (fun c_39 => ?_)
    ·
      refine lv_iconst (v := 0) hx hb dX15_isQuad_134 (by decide) ?_
      refine W.widen (k := 0) (n := 0) (by omega) (by omega) ?_
      exact W.zret (v := 0) (ty := .boolean) hx hb hr (by decide) (fun t ht hWm => ⟨⟨0, (), rfl, (by first | exact Or.inl rfl | exact Or.inr rfl), ⟨F_32, q22, QTm.mk ht hP hD hO hR, hv2⟩⟩, hS.F ht⟩) hS.2.2 dX15_isQuad_135
    ·
      refine lv_iconst (v := 1) hx hb dX15_isQuad_130 (by decide) ?_
      refine lv_goto (tgt := 135) hx hb dX15_isQuad_131 (by decide) ?_
      refine W.widen (k := 0) (n := 0) (by omega) (by omega) ?_
      exact W.zret (v := 1) (ty := .boolean) hx hb hr (by decide) (fun t ht hWm => ⟨⟨1, (), rfl, (by first | exact Or.inl rfl | exact Or.inr rfl), ⟨F_32, q22, QTm.mk ht hP hD hO hR, hv2⟩⟩, hS.F ht⟩) hS.2.2 dX15_isQuad_135
  ·
    have hi_40 : j ≤ tt := Nat.not_lt.mp (fun q => c_37 ((nI_ltI (a := tt) (b := j) (by omega) (by omega)).mpr q))
    refine lv_iload hx hb dX15_isQuad_23 (lv_at hl 0 rfl) ?_
    refine lv_iload_n hx hb dX15_isQuad_25 rfl (lv_at hl 7 rfl) ?_
    refine lv_icmp_ge (tgt := 65) hx hb dX15_isQuad_26 (by decide) (fun c_41 => ?_) (fun c_41 => ?_)
    ·
      have hi_42 : tt ≤ j := leN (N := tt) c_41
      refine lv_iload hx hb dX15_isQuad_65 (lv_at hl 0 rfl) ?_
      refine lv_iload_n hx hb dX15_isQuad_67 rfl (lv_at hl 7 rfl) ?_
      refine lv_icmp_ge (tgt := 80) hx hb dX15_isQuad_68 (by decide) (fun c_43 => ?_) (fun c_43 => ?_)
      ·
        have hi_44 : tt ≤ j := leN (N := tt) c_43
        refine lv_iload hx hb dX15_isQuad_80 (lv_at hl 2 rfl) ?_
        refine lv_if_eq (tgt := 93) hx hb dX15_isQuad_82 (by decide) (fun c_45 => ?_) (fun c_45 => ?_)
        ·
          refine lv_iconst (v := 0) hx hb dX15_isQuad_93 (by decide) ?_
          refine W.widen (k := 0) (n := 0) (by omega) (by omega) ?_
          exact W.zret (v := 0) (ty := .boolean) hx hb hr (by decide) (fun t ht hWm => ⟨⟨0, (), rfl, (by first | exact Or.inl rfl | exact Or.inr rfl), ⟨F_32, q22, QTm.mk ht hP hD hO hR, hv2⟩⟩, hS.F ht⟩) hS.2.2 dX15_isQuad_94
        ·
          refine lv_iload hx hb dX15_isQuad_85 (lv_at hl 1 rfl) ?_
          refine lv_sipush (v := 255) hx hb dX15_isQuad_87 (by decide) ?_
          refine lv_icmp_le (tgt := 95) hx hb dX15_isQuad_90 (by decide) (fun c_46 => ?_) (fun c_46 => ?_)
          ·
            refine lv_aload_n hx hb dX15_isQuad_95 rfl (lv_at hl 4 rfl) ?_
            refine lv_aload_n hx hb dX15_isQuad_96 rfl (lv_at hl 4 rfl) ?_
            refine pg_get (ci := 15) (v := .int q22) (C := RX15) (T := TX15) (N := 59) hx hb hts it_15 hown hK hP hL_h0 hv2 rfl 22 (by decide) (hts _ kt_735) (fun _ h9 => h9) rfl dX15_isQuad_97 ?_
            refine lv_bipush (v := 8) hx hb dX15_isQuad_100 (by decide) ?_
            refine lv_ishl hx hb dX15_isQuad_102 ?_
            refine lv_topi (fun x_47 _ => ?_)
            refine lv_iload hx hb dX15_isQuad_103 (lv_at hl 1 rfl) ?_
            refine lv_ior hx hb dX15_isQuad_105 ?_
            refine lv_topi (fun x_48 _ => ?_)
            refine pg_put (ci := 15) (v := .int x_48) (ty := .int) (C := RX15) (T := TX15) (N := 59) hx hb hts it_15 tyX15 tyX15_ok nmX15 hown hK hP hD hS hL_h0 hv2 rfl 22 (by decide) (hts _ kt_735) (fun _ h9 => h9) rfl (by decide +kernel) (rfl) (rfl) (Nat.le_of_ble_eq_true rfl) dX15_isQuad_106 (fun H locs hP hD hS => ?_)
            obtain ⟨F_49, he_50, hP, hD, hO, hR⟩ : ∃ G, G = va_up F_32 h0 (.inr (15, (.ref ta) :: (.int (nI zt)) :: (.int (nI zo)) :: (.int (nI ze)) :: (.ref ou) :: (.ref so) :: (.ref ad) :: (.ref na) :: (.ref va) :: (.ref lc) :: (.ref dm) :: (.int v11) :: (.int v12) :: (.ref tg) :: (.int v14) :: (.int v15) :: (.ref pe) :: (.int v17) :: (.int v18) :: (.int v19) :: (.int v20) :: (.int v21) :: (.int x_48) :: (.ref ml) :: (.ref bg) :: (.ref co) :: (.ref sp) :: (.ref nb0) :: (.ref nb1) :: (.ref nb2) :: (.int (nI nf)) :: (.int (nI bd)) :: (.int (nI mm)) :: (.int v33) :: (.ref pl) :: (.ref se) :: (.ref ke) :: (.ref wi) :: (.ref hs) :: (.ref mo) :: (.ref po) :: (.ref nu) :: (.ref pr) :: (.ref sq) :: (.ref xa) :: (.ref sa) :: (.ref n64) :: (.ref m64) :: (.ref ex) :: (.ref wh) :: (.ref sd) :: (.ref tk) :: (.int v52) :: (.int v53) :: (.int v54) :: (.ref hd) :: (.ref ak) :: (.ref ho) :: (.ref ot) :: [])) ∧ va_P (dC, dI) vwCl (va_pl L G) H ∧ va_D A (va_pl L G) ∧ OKm cs ty gm L G ∧ FR ty [ρ] F G := ⟨_, rfl, hP, hD, hO.up (shm.mod hT_h0 ⟨v11, v12, v14, v15, v17, v18, v19, v20, v21, x_48, v33, v52, v53, v54, rfl, (by first | omega | assumption | exact Or.inl rfl | exact Or.inr rfl), (by first | omega | assumption | exact Or.inl rfl | exact Or.inr rfl), (by first | omega | assumption | exact Or.inl rfl | exact Or.inr rfl), (by first | omega | assumption | exact Or.inl rfl | exact Or.inr rfl)⟩), hR.up hT_h0 (by simp)⟩
            have hF_51 : F_49 h0 = .inr (15, (.ref ta) :: (.int (nI zt)) :: (.int (nI zo)) :: (.int (nI ze)) :: (.ref ou) :: (.ref so) :: (.ref ad) :: (.ref na) :: (.ref va) :: (.ref lc) :: (.ref dm) :: (.int v11) :: (.int v12) :: (.ref tg) :: (.int v14) :: (.int v15) :: (.ref pe) :: (.int v17) :: (.int v18) :: (.int v19) :: (.int v20) :: (.int v21) :: (.int x_48) :: (.ref ml) :: (.ref bg) :: (.ref co) :: (.ref sp) :: (.ref nb0) :: (.ref nb1) :: (.ref nb2) :: (.int (nI nf)) :: (.int (nI bd)) :: (.int (nI mm)) :: (.int v33) :: (.ref pl) :: (.ref se) :: (.ref ke) :: (.ref wi) :: (.ref hs) :: (.ref mo) :: (.ref po) :: (.ref nu) :: (.ref pr) :: (.ref sq) :: (.ref xa) :: (.ref sa) :: (.ref n64) :: (.ref m64) :: (.ref ex) :: (.ref wh) :: (.ref sd) :: (.ref tk) :: (.int v52) :: (.int v53) :: (.int v54) :: (.ref hd) :: (.ref ak) :: (.ref ho) :: (.ref ot) :: []) := by rw [he_50]; exact up_self
            have hF_52 : F_49 g1 = .inl (cs 17, 700, .inl fv) := by rw [he_50, up_ne (ne_ty hT_g1 hT_h0 (by simp))]; exact hF_36
            obtain ⟨x_53, ex_53⟩ : ∃ y : Int32, y = w4 + Int32.ofInt 1 := ⟨_, rfl⟩
            refine lv_iinc (v := x_53) (lv' := [(4, .int x_53), (7, .int (nI j)), (6, .int w6), (5, .int w5), (0, .ref h0), (1, .ref g1), (2, .int (nI a)), (3, .int (nI tt))]) hx hb dX15_isQuad_109 hl (k := 3) rfl (ex_53.symm) (by decide) rfl (fun ls hl => ?_)
            refine lv_iconst (v := 0) hx hb dX15_isQuad_112 (by decide) ?_
            refine lv_istore (lv' := [(5, .int 0), (4, .int x_53), (7, .int (nI j)), (6, .int w6), (0, .ref h0), (1, .ref g1), (2, .int (nI a)), (3, .int (nI tt))]) hx hb dX15_isQuad_113 hl (by decide) rfl (fun ls hl => ?_)
            refine lv_iconst (v := 0) hx hb dX15_isQuad_115 (by decide) ?_
            refine lv_istore (lv' := [(6, .int 0), (5, .int 0), (4, .int x_53), (7, .int (nI j)), (0, .ref h0), (1, .ref g1), (2, .int (nI a)), (3, .int (nI tt))]) hx hb dX15_isQuad_116 hl (by decide) rfl (fun ls hl => ?_)
            refine lv_iinc (v := (nI (j + 1))) (lv' := [(7, .int (nI (j + 1))), (6, .int 0), (5, .int 0), (4, .int x_53), (0, .ref h0), (1, .ref g1), (2, .int (nI a)), (3, .int (nI tt))]) hx hb dX15_isQuad_118 hl (k := 3) rfl (nI_1 _) (by decide) rfl (fun ls hl => ?_)
            refine lv_goto (tgt := 17) hx hb dX15_isQuad_121 (by decide) ?_
            refine W.widen (k := 0) (n := 0) (by omega) (by omega) ?_
            exact ih_35 ((j + 1), x_53, 0, 0, x_48) F_49 (⟨by omega, hF_51⟩) (by show 20001 - (j + 1) < 20001 - j; omega) hO hR _ _ hP hD hS ls (lv_sub hl [0, 1, 2, 3, 4, 5, 6, 7] rfl)
          ·
            refine lv_iconst (v := 0) hx hb dX15_isQuad_93 (by decide) ?_
            refine W.widen (k := 0) (n := 0) (by omega) (by omega) ?_
            exact W.zret (v := 0) (ty := .boolean) hx hb hr (by decide) (fun t ht hWm => ⟨⟨0, (), rfl, (by first | exact Or.inl rfl | exact Or.inr rfl), ⟨F_32, q22, QTm.mk ht hP hD hO hR, hv2⟩⟩, hS.F ht⟩) hS.2.2 dX15_isQuad_94
      ·
        have hi_54 : j < tt := ltN (N := tt) c_43
        refine lv_aload_n hx hb dX15_isQuad_71 rfl (lv_at hl 5 rfl) ?_
        refine lv_iload hx hb dX15_isQuad_72 (lv_at hl 0 rfl) ?_
        obtain ⟨hq_55, hq_56⟩ := hW.octs hL_g1 hT_g1
        refine pg_bald hx hb hK hP hL_g1 1 hF_36 rfl (vp_in_nI (by omega) (by omega)) dX15_isQuad_74 ?_
        refine lv_topi (fun x_57 ex_57 => ?_)
        obtain rfl : x_57 = fv j := ex_57.trans (congrArg fv (show ((nI j) : Int32).toNatClampNeg = j from nI_clamp (by omega)))
        refine lv_bipush (v := 46) hx hb dX15_isQuad_75 (by decide) ?_
        refine lv_icmp_ne (tgt := 93) hx hb dX15_isQuad_77 (by decide) (fun c_58 => ?_) (fun c_58 => ?_)
        ·
          refine lv_iconst (v := 0) hx hb dX15_isQuad_93 (by decide) ?_
          refine W.widen (k := 0) (n := 0) (by omega) (by omega) ?_
          exact W.zret (v := 0) (ty := .boolean) hx hb hr (by decide) (fun t ht hWm => ⟨⟨0, (), rfl, (by first | exact Or.inl rfl | exact Or.inr rfl), ⟨F_32, q22, QTm.mk ht hP hD hO hR, hv2⟩⟩, hS.F ht⟩) hS.2.2 dX15_isQuad_94
        ·
          refine lv_iload hx hb dX15_isQuad_80 (lv_at hl 2 rfl) ?_
          refine lv_if_eq (tgt := 93) hx hb dX15_isQuad_82 (by decide) (fun c_59 => ?_) (fun c_59 => ?_)
          ·
            refine lv_iconst (v := 0) hx hb dX15_isQuad_93 (by decide) ?_
            refine W.widen (k := 0) (n := 0) (by omega) (by omega) ?_
            exact W.zret (v := 0) (ty := .boolean) hx hb hr (by decide) (fun t ht hWm => ⟨⟨0, (), rfl, (by first | exact Or.inl rfl | exact Or.inr rfl), ⟨F_32, q22, QTm.mk ht hP hD hO hR, hv2⟩⟩, hS.F ht⟩) hS.2.2 dX15_isQuad_94
          ·
            refine lv_iload hx hb dX15_isQuad_85 (lv_at hl 1 rfl) ?_
            refine lv_sipush (v := 255) hx hb dX15_isQuad_87 (by decide) ?_
            refine lv_icmp_le (tgt := 95) hx hb dX15_isQuad_90 (by decide) (fun c_60 => ?_) (fun c_60 => ?_)
            ·
              refine lv_aload_n hx hb dX15_isQuad_95 rfl (lv_at hl 4 rfl) ?_
              refine lv_aload_n hx hb dX15_isQuad_96 rfl (lv_at hl 4 rfl) ?_
              refine pg_get (ci := 15) (v := .int q22) (C := RX15) (T := TX15) (N := 59) hx hb hts it_15 hown hK hP hL_h0 hv2 rfl 22 (by decide) (hts _ kt_735) (fun _ h9 => h9) rfl dX15_isQuad_97 ?_
              refine lv_bipush (v := 8) hx hb dX15_isQuad_100 (by decide) ?_
              refine lv_ishl hx hb dX15_isQuad_102 ?_
              refine lv_topi (fun x_61 _ => ?_)
              refine lv_iload hx hb dX15_isQuad_103 (lv_at hl 1 rfl) ?_
              refine lv_ior hx hb dX15_isQuad_105 ?_
              refine lv_topi (fun x_62 _ => ?_)
              refine pg_put (ci := 15) (v := .int x_62) (ty := .int) (C := RX15) (T := TX15) (N := 59) hx hb hts it_15 tyX15 tyX15_ok nmX15 hown hK hP hD hS hL_h0 hv2 rfl 22 (by decide) (hts _ kt_735) (fun _ h9 => h9) rfl (by decide +kernel) (rfl) (rfl) (Nat.le_of_ble_eq_true rfl) dX15_isQuad_106 (fun H locs hP hD hS => ?_)
              obtain ⟨F_63, he_64, hP, hD, hO, hR⟩ : ∃ G, G = va_up F_32 h0 (.inr (15, (.ref ta) :: (.int (nI zt)) :: (.int (nI zo)) :: (.int (nI ze)) :: (.ref ou) :: (.ref so) :: (.ref ad) :: (.ref na) :: (.ref va) :: (.ref lc) :: (.ref dm) :: (.int v11) :: (.int v12) :: (.ref tg) :: (.int v14) :: (.int v15) :: (.ref pe) :: (.int v17) :: (.int v18) :: (.int v19) :: (.int v20) :: (.int v21) :: (.int x_62) :: (.ref ml) :: (.ref bg) :: (.ref co) :: (.ref sp) :: (.ref nb0) :: (.ref nb1) :: (.ref nb2) :: (.int (nI nf)) :: (.int (nI bd)) :: (.int (nI mm)) :: (.int v33) :: (.ref pl) :: (.ref se) :: (.ref ke) :: (.ref wi) :: (.ref hs) :: (.ref mo) :: (.ref po) :: (.ref nu) :: (.ref pr) :: (.ref sq) :: (.ref xa) :: (.ref sa) :: (.ref n64) :: (.ref m64) :: (.ref ex) :: (.ref wh) :: (.ref sd) :: (.ref tk) :: (.int v52) :: (.int v53) :: (.int v54) :: (.ref hd) :: (.ref ak) :: (.ref ho) :: (.ref ot) :: [])) ∧ va_P (dC, dI) vwCl (va_pl L G) H ∧ va_D A (va_pl L G) ∧ OKm cs ty gm L G ∧ FR ty [ρ] F G := ⟨_, rfl, hP, hD, hO.up (shm.mod hT_h0 ⟨v11, v12, v14, v15, v17, v18, v19, v20, v21, x_62, v33, v52, v53, v54, rfl, (by first | omega | assumption | exact Or.inl rfl | exact Or.inr rfl), (by first | omega | assumption | exact Or.inl rfl | exact Or.inr rfl), (by first | omega | assumption | exact Or.inl rfl | exact Or.inr rfl), (by first | omega | assumption | exact Or.inl rfl | exact Or.inr rfl)⟩), hR.up hT_h0 (by simp)⟩
              have hF_65 : F_63 h0 = .inr (15, (.ref ta) :: (.int (nI zt)) :: (.int (nI zo)) :: (.int (nI ze)) :: (.ref ou) :: (.ref so) :: (.ref ad) :: (.ref na) :: (.ref va) :: (.ref lc) :: (.ref dm) :: (.int v11) :: (.int v12) :: (.ref tg) :: (.int v14) :: (.int v15) :: (.ref pe) :: (.int v17) :: (.int v18) :: (.int v19) :: (.int v20) :: (.int v21) :: (.int x_62) :: (.ref ml) :: (.ref bg) :: (.ref co) :: (.ref sp) :: (.ref nb0) :: (.ref nb1) :: (.ref nb2) :: (.int (nI nf)) :: (.int (nI bd)) :: (.int (nI mm)) :: (.int v33) :: (.ref pl) :: (.ref se) :: (.ref ke) :: (.ref wi) :: (.ref hs) :: (.ref mo) :: (.ref po) :: (.ref nu) :: (.ref pr) :: (.ref sq) :: (.ref xa) :: (.ref sa) :: (.ref n64) :: (.ref m64) :: (.ref ex) :: (.ref wh) :: (.ref sd) :: (.ref tk) :: (.int v52) :: (.int v53) :: (.int v54) :: (.ref hd) :: (.ref ak) :: (.ref ho) :: (.ref ot) :: []) := by rw [he_64]; exact up_self
              have hF_66 : F_63 g1 = .inl (cs 17, 700, .inl fv) := by rw [he_64, up_ne (ne_ty hT_g1 hT_h0 (by simp))]; exact hF_36
              obtain ⟨x_67, ex_67⟩ : ∃ y : Int32, y = w4 + Int32.ofInt 1 := ⟨_, rfl⟩
              refine lv_iinc (v := x_67) (lv' := [(4, .int x_67), (7, .int (nI j)), (6, .int w6), (5, .int w5), (0, .ref h0), (1, .ref g1), (2, .int (nI a)), (3, .int (nI tt))]) hx hb dX15_isQuad_109 hl (k := 3) rfl (ex_67.symm) (by decide) rfl (fun ls hl => ?_)
              refine lv_iconst (v := 0) hx hb dX15_isQuad_112 (by decide) ?_
              refine lv_istore (lv' := [(5, .int 0), (4, .int x_67), (7, .int (nI j)), (6, .int w6), (0, .ref h0), (1, .ref g1), (2, .int (nI a)), (3, .int (nI tt))]) hx hb dX15_isQuad_113 hl (by decide) rfl (fun ls hl => ?_)
              refine lv_iconst (v := 0) hx hb dX15_isQuad_115 (by decide) ?_
              refine lv_istore (lv' := [(6, .int 0), (5, .int 0), (4, .int x_67), (7, .int (nI j)), (0, .ref h0), (1, .ref g1), (2, .int (nI a)), (3, .int (nI tt))]) hx hb dX15_isQuad_116 hl (by decide) rfl (fun ls hl => ?_)
              refine lv_iinc (v := (nI (j + 1))) (lv' := [(7, .int (nI (j + 1))), (6, .int 0), (5, .int 0), (4, .int x_67), (0, .ref h0), (1, .ref g1), (2, .int (nI a)), (3, .int (nI tt))]) hx hb dX15_isQuad_118 hl (k := 3) rfl (nI_1 _) (by decide) rfl (fun ls hl => ?_)
              refine lv_goto (tgt := 17) hx hb dX15_isQuad_121 (by decide) ?_
              refine W.widen (k := 0) (n := 0) (by omega) (by omega) ?_
              exact ih_35 ((j + 1), x_67, 0, 0, x_62) F_63 (⟨by omega, hF_65⟩) (by show 20001 - (j + 1) < 20001 - j; omega) hO hR _ _ hP hD hS ls (lv_sub hl [0, 1, 2, 3, 4, 5, 6, 7] rfl)
            ·
              refine lv_iconst (v := 0) hx hb dX15_isQuad_93 (by decide) ?_
              refine W.widen (k := 0) (n := 0) (by omega) (by omega) ?_
              exact W.zret (v := 0) (ty := .boolean) hx hb hr (by decide) (fun t ht hWm => ⟨⟨0, (), rfl, (by first | exact Or.inl rfl | exact Or.inr rfl), ⟨F_32, q22, QTm.mk ht hP hD hO hR, hv2⟩⟩, hS.F ht⟩) hS.2.2 dX15_isQuad_94
    ·
      have hi_68 : j < tt := ltN (N := tt) c_41
      refine lv_aload_n hx hb dX15_isQuad_29 rfl (lv_at hl 5 rfl) ?_
      refine lv_iload hx hb dX15_isQuad_30 (lv_at hl 0 rfl) ?_
      obtain ⟨hq_69, hq_70⟩ := hW.octs hL_g1 hT_g1
      refine pg_bald hx hb hK hP hL_g1 1 hF_36 rfl (vp_in_nI (by omega) (by omega)) dX15_isQuad_32 ?_
      refine lv_topi (fun x_71 ex_71 => ?_)
      obtain rfl : x_71 = fv j := ex_71.trans (congrArg fv (show ((nI j) : Int32).toNatClampNeg = j from nI_clamp (by omega)))
      have hFc := pg_free hD hS hA
      refine va_calli (va_runS (As := [.int (fv j)]) (rest := []) ⟨hx, hb, hml, hown, hts⟩ (s_X15_isDigit l dC dI cs ty gm L H.size F_32 (fv j) hW ) ⟨callB_of 1 hts (gi kt_677) rfl rfl rfl (hts _ kt_659) (hts _ kt_697) (by decide +kernel) ⟨Nat.le_of_ble_eq_true rfl, Nat.le_of_ble_eq_true rfl⟩, (hts _ kt_678)⟩ ⟨fun a U g mk q => ⟨q.1, PTm.calling q.2⟩, fun U hU hWm => ⟨rfl, PTm.mk hU hWm hP hK hD hE hO⟩⟩ rfl rfl hl.1 rfl (lv_room (Nat.le_of_ble_eq_true rfl)) dX15_isQuad_33 ⟨by show _ + 0 ≤ 0; omega, by show _ + 0 ≤ 0; omega⟩) hS (fun q _ h => hFc q h) hFc (fun r_72 u t H1 locs ht hvm hw hB hz1 hk1 hS => ?_)
      obtain ⟨F_73, hB1⟩ := hB
      obtain rfl : F_32 = F_73 := (funext (fun a => hB1.2.2.2 a List.not_mem_nil)).symm
      obtain ⟨hP, hD, hO, hR⟩ := QTm.back hB1 ht hFc hR (fun q h => absurd h List.not_mem_nil)
      generalize H1 = H at hP hS ⊢
      have hw : (r_72 = 0 ∨ r_72 = 1) := hw
      have hw_74 := hw
      refine lv_if_eq (tgt := 65) hx hb dX15_isQuad_36 (by decide) (fun c_75 => ?_) (fun c_75 => ?_)
      ·
        refine lv_iload hx hb dX15_isQuad_65 (lv_at hl 0 rfl) ?_
        refine lv_iload_n hx hb dX15_isQuad_67 rfl (lv_at hl 7 rfl) ?_
        refine lv_icmp_ge (tgt := 80) hx hb dX15_isQuad_68 (by decide) (fun c_76 => ?_) (fun c_76 => ?_)
        ·
          have hi_77 : tt ≤ j := leN (N := tt) c_76
          refine lv_iload hx hb dX15_isQuad_80 (lv_at hl 2 rfl) ?_
          refine lv_if_eq (tgt := 93) hx hb dX15_isQuad_82 (by decide) (fun c_78 => ?_) (fun c_78 => ?_)
          ·
            refine lv_iconst (v := 0) hx hb dX15_isQuad_93 (by decide) ?_
            refine W.widen (k := 0) (n := 0) (by omega) (by omega) ?_
            exact W.zret (v := 0) (ty := .boolean) hx hb hr (by decide) (fun t ht hWm => ⟨⟨0, (), rfl, (by first | exact Or.inl rfl | exact Or.inr rfl), ⟨F_32, q22, QTm.mk ht hP hD hO hR, hv2⟩⟩, hS.F ht⟩) hS.2.2 dX15_isQuad_94
          ·
            refine lv_iload hx hb dX15_isQuad_85 (lv_at hl 1 rfl) ?_
            refine lv_sipush (v := 255) hx hb dX15_isQuad_87 (by decide) ?_
            refine lv_icmp_le (tgt := 95) hx hb dX15_isQuad_90 (by decide) (fun c_79 => ?_) (fun c_79 => ?_)
            ·
              refine lv_aload_n hx hb dX15_isQuad_95 rfl (lv_at hl 4 rfl) ?_
              refine lv_aload_n hx hb dX15_isQuad_96 rfl (lv_at hl 4 rfl) ?_
              refine pg_get (ci := 15) (v := .int q22) (C := RX15) (T := TX15) (N := 59) hx hb hts it_15 hown hK hP hL_h0 hv2 rfl 22 (by decide) (hts _ kt_735) (fun _ h9 => h9) rfl dX15_isQuad_97 ?_
              refine lv_bipush (v := 8) hx hb dX15_isQuad_100 (by decide) ?_
              refine lv_ishl hx hb dX15_isQuad_102 ?_
              refine lv_topi (fun x_80 _ => ?_)
              refine lv_iload hx hb dX15_isQuad_103 (lv_at hl 1 rfl) ?_
              refine lv_ior hx hb dX15_isQuad_105 ?_
              refine lv_topi (fun x_81 _ => ?_)
              refine pg_put (ci := 15) (v := .int x_81) (ty := .int) (C := RX15) (T := TX15) (N := 59) hx hb hts it_15 tyX15 tyX15_ok nmX15 hown hK hP hD hS hL_h0 hv2 rfl 22 (by decide) (hts _ kt_735) (fun _ h9 => h9) rfl (by decide +kernel) (rfl) (rfl) (Nat.le_of_ble_eq_true rfl) dX15_isQuad_106 (fun H locs hP hD hS => ?_)
              obtain ⟨F_82, he_83, hP, hD, hO, hR⟩ : ∃ G, G = va_up F_32 h0 (.inr (15, (.ref ta) :: (.int (nI zt)) :: (.int (nI zo)) :: (.int (nI ze)) :: (.ref ou) :: (.ref so) :: (.ref ad) :: (.ref na) :: (.ref va) :: (.ref lc) :: (.ref dm) :: (.int v11) :: (.int v12) :: (.ref tg) :: (.int v14) :: (.int v15) :: (.ref pe) :: (.int v17) :: (.int v18) :: (.int v19) :: (.int v20) :: (.int v21) :: (.int x_81) :: (.ref ml) :: (.ref bg) :: (.ref co) :: (.ref sp) :: (.ref nb0) :: (.ref nb1) :: (.ref nb2) :: (.int (nI nf)) :: (.int (nI bd)) :: (.int (nI mm)) :: (.int v33) :: (.ref pl) :: (.ref se) :: (.ref ke) :: (.ref wi) :: (.ref hs) :: (.ref mo) :: (.ref po) :: (.ref nu) :: (.ref pr) :: (.ref sq) :: (.ref xa) :: (.ref sa) :: (.ref n64) :: (.ref m64) :: (.ref ex) :: (.ref wh) :: (.ref sd) :: (.ref tk) :: (.int v52) :: (.int v53) :: (.int v54) :: (.ref hd) :: (.ref ak) :: (.ref ho) :: (.ref ot) :: [])) ∧ va_P (dC, dI) vwCl (va_pl L G) H ∧ va_D A (va_pl L G) ∧ OKm cs ty gm L G ∧ FR ty [ρ] F G := ⟨_, rfl, hP, hD, hO.up (shm.mod hT_h0 ⟨v11, v12, v14, v15, v17, v18, v19, v20, v21, x_81, v33, v52, v53, v54, rfl, (by first | omega | assumption | exact Or.inl rfl | exact Or.inr rfl), (by first | omega | assumption | exact Or.inl rfl | exact Or.inr rfl), (by first | omega | assumption | exact Or.inl rfl | exact Or.inr rfl), (by first | omega | assumption | exact Or.inl rfl | exact Or.inr rfl)⟩), hR.up hT_h0 (by simp)⟩
              have hF_84 : F_82 h0 = .inr (15, (.ref ta) :: (.int (nI zt)) :: (.int (nI zo)) :: (.int (nI ze)) :: (.ref ou) :: (.ref so) :: (.ref ad) :: (.ref na) :: (.ref va) :: (.ref lc) :: (.ref dm) :: (.int v11) :: (.int v12) :: (.ref tg) :: (.int v14) :: (.int v15) :: (.ref pe) :: (.int v17) :: (.int v18) :: (.int v19) :: (.int v20) :: (.int v21) :: (.int x_81) :: (.ref ml) :: (.ref bg) :: (.ref co) :: (.ref sp) :: (.ref nb0) :: (.ref nb1) :: (.ref nb2) :: (.int (nI nf)) :: (.int (nI bd)) :: (.int (nI mm)) :: (.int v33) :: (.ref pl) :: (.ref se) :: (.ref ke) :: (.ref wi) :: (.ref hs) :: (.ref mo) :: (.ref po) :: (.ref nu) :: (.ref pr) :: (.ref sq) :: (.ref xa) :: (.ref sa) :: (.ref n64) :: (.ref m64) :: (.ref ex) :: (.ref wh) :: (.ref sd) :: (.ref tk) :: (.int v52) :: (.int v53) :: (.int v54) :: (.ref hd) :: (.ref ak) :: (.ref ho) :: (.ref ot) :: []) := by rw [he_83]; exact up_self
              have hF_85 : F_82 g1 = .inl (cs 17, 700, .inl fv) := by rw [he_83, up_ne (ne_ty hT_g1 hT_h0 (by simp))]; exact hF_36
              obtain ⟨x_86, ex_86⟩ : ∃ y : Int32, y = w4 + Int32.ofInt 1 := ⟨_, rfl⟩
              refine lv_iinc (v := x_86) (lv' := [(4, .int x_86), (7, .int (nI j)), (6, .int w6), (5, .int w5), (0, .ref h0), (1, .ref g1), (2, .int (nI a)), (3, .int (nI tt))]) hx hb dX15_isQuad_109 hl (k := 3) rfl (ex_86.symm) (by decide) rfl (fun ls hl => ?_)
              refine lv_iconst (v := 0) hx hb dX15_isQuad_112 (by decide) ?_
              refine lv_istore (lv' := [(5, .int 0), (4, .int x_86), (7, .int (nI j)), (6, .int w6), (0, .ref h0), (1, .ref g1), (2, .int (nI a)), (3, .int (nI tt))]) hx hb dX15_isQuad_113 hl (by decide) rfl (fun ls hl => ?_)
              refine lv_iconst (v := 0) hx hb dX15_isQuad_115 (by decide) ?_
              refine lv_istore (lv' := [(6, .int 0), (5, .int 0), (4, .int x_86), (7, .int (nI j)), (0, .ref h0), (1, .ref g1), (2, .int (nI a)), (3, .int (nI tt))]) hx hb dX15_isQuad_116 hl (by decide) rfl (fun ls hl => ?_)
              refine lv_iinc (v := (nI (j + 1))) (lv' := [(7, .int (nI (j + 1))), (6, .int 0), (5, .int 0), (4, .int x_86), (0, .ref h0), (1, .ref g1), (2, .int (nI a)), (3, .int (nI tt))]) hx hb dX15_isQuad_118 hl (k := 3) rfl (nI_1 _) (by decide) rfl (fun ls hl => ?_)
              refine lv_goto (tgt := 17) hx hb dX15_isQuad_121 (by decide) ?_
              refine W.widen (k := 0) (n := 0) (by omega) (by omega) ?_
              exact ih_35 ((j + 1), x_86, 0, 0, x_81) F_82 (⟨by omega, hF_84⟩) (by show 20001 - (j + 1) < 20001 - j; omega) hO hR _ _ hP hD hS ls (lv_sub hl [0, 1, 2, 3, 4, 5, 6, 7] rfl)
            ·
              refine lv_iconst (v := 0) hx hb dX15_isQuad_93 (by decide) ?_
              refine W.widen (k := 0) (n := 0) (by omega) (by omega) ?_
              exact W.zret (v := 0) (ty := .boolean) hx hb hr (by decide) (fun t ht hWm => ⟨⟨0, (), rfl, (by first | exact Or.inl rfl | exact Or.inr rfl), ⟨F_32, q22, QTm.mk ht hP hD hO hR, hv2⟩⟩, hS.F ht⟩) hS.2.2 dX15_isQuad_94
        ·
          have hi_87 : j < tt := ltN (N := tt) c_76
          refine lv_aload_n hx hb dX15_isQuad_71 rfl (lv_at hl 5 rfl) ?_
          refine lv_iload hx hb dX15_isQuad_72 (lv_at hl 0 rfl) ?_
          refine pg_bald hx hb hK hP hL_g1 1 hF_36 rfl (vp_in_nI (by omega) (by omega)) dX15_isQuad_74 ?_
          refine lv_topi (fun x_88 ex_88 => ?_)
          obtain rfl : x_88 = fv j := ex_88.trans (congrArg fv (show ((nI j) : Int32).toNatClampNeg = j from nI_clamp (by omega)))
          refine lv_bipush (v := 46) hx hb dX15_isQuad_75 (by decide) ?_
          refine lv_icmp_ne (tgt := 93) hx hb dX15_isQuad_77 (by decide) (fun c_89 => ?_) (fun c_89 => ?_)
          ·
            refine lv_iconst (v := 0) hx hb dX15_isQuad_93 (by decide) ?_
            refine W.widen (k := 0) (n := 0) (by omega) (by omega) ?_
            exact W.zret (v := 0) (ty := .boolean) hx hb hr (by decide) (fun t ht hWm => ⟨⟨0, (), rfl, (by first | exact Or.inl rfl | exact Or.inr rfl), ⟨F_32, q22, QTm.mk ht hP hD hO hR, hv2⟩⟩, hS.F ht⟩) hS.2.2 dX15_isQuad_94
          ·
            refine lv_iload hx hb dX15_isQuad_80 (lv_at hl 2 rfl) ?_
            refine lv_if_eq (tgt := 93) hx hb dX15_isQuad_82 (by decide) (fun c_90 => ?_) (fun c_90 => ?_)
            ·
              refine lv_iconst (v := 0) hx hb dX15_isQuad_93 (by decide) ?_
              refine W.widen (k := 0) (n := 0) (by omega) (by omega) ?_
              exact W.zret (v := 0) (ty := .boolean) hx hb hr (by decide) (fun t ht hWm => ⟨⟨0, (), rfl, (by first | exact Or.inl rfl | exact Or.inr rfl), ⟨F_32, q22, QTm.mk ht hP hD hO hR, hv2⟩⟩, hS.F ht⟩) hS.2.2 dX15_isQuad_94
            ·
              refine lv_iload hx hb dX15_isQuad_85 (lv_at hl 1 rfl) ?_
              refine lv_sipush (v := 255) hx hb dX15_isQuad_87 (by decide) ?_
              refine lv_icmp_le (tgt := 95) hx hb dX15_isQuad_90 (by decide) (fun c_91 => ?_) (fun c_91 => ?_)
              ·
                refine lv_aload_n hx hb dX15_isQuad_95 rfl (lv_at hl 4 rfl) ?_
                refine lv_aload_n hx hb dX15_isQuad_96 rfl (lv_at hl 4 rfl) ?_
                refine pg_get (ci := 15) (v := .int q22) (C := RX15) (T := TX15) (N := 59) hx hb hts it_15 hown hK hP hL_h0 hv2 rfl 22 (by decide) (hts _ kt_735) (fun _ h9 => h9) rfl dX15_isQuad_97 ?_
                refine lv_bipush (v := 8) hx hb dX15_isQuad_100 (by decide) ?_
                refine lv_ishl hx hb dX15_isQuad_102 ?_
                refine lv_topi (fun x_92 _ => ?_)
                refine lv_iload hx hb dX15_isQuad_103 (lv_at hl 1 rfl) ?_
                refine lv_ior hx hb dX15_isQuad_105 ?_
                refine lv_topi (fun x_93 _ => ?_)
                refine pg_put (ci := 15) (v := .int x_93) (ty := .int) (C := RX15) (T := TX15) (N := 59) hx hb hts it_15 tyX15 tyX15_ok nmX15 hown hK hP hD hS hL_h0 hv2 rfl 22 (by decide) (hts _ kt_735) (fun _ h9 => h9) rfl (by decide +kernel) (rfl) (rfl) (Nat.le_of_ble_eq_true rfl) dX15_isQuad_106 (fun H locs hP hD hS => ?_)
                obtain ⟨F_94, he_95, hP, hD, hO, hR⟩ : ∃ G, G = va_up F_32 h0 (.inr (15, (.ref ta) :: (.int (nI zt)) :: (.int (nI zo)) :: (.int (nI ze)) :: (.ref ou) :: (.ref so) :: (.ref ad) :: (.ref na) :: (.ref va) :: (.ref lc) :: (.ref dm) :: (.int v11) :: (.int v12) :: (.ref tg) :: (.int v14) :: (.int v15) :: (.ref pe) :: (.int v17) :: (.int v18) :: (.int v19) :: (.int v20) :: (.int v21) :: (.int x_93) :: (.ref ml) :: (.ref bg) :: (.ref co) :: (.ref sp) :: (.ref nb0) :: (.ref nb1) :: (.ref nb2) :: (.int (nI nf)) :: (.int (nI bd)) :: (.int (nI mm)) :: (.int v33) :: (.ref pl) :: (.ref se) :: (.ref ke) :: (.ref wi) :: (.ref hs) :: (.ref mo) :: (.ref po) :: (.ref nu) :: (.ref pr) :: (.ref sq) :: (.ref xa) :: (.ref sa) :: (.ref n64) :: (.ref m64) :: (.ref ex) :: (.ref wh) :: (.ref sd) :: (.ref tk) :: (.int v52) :: (.int v53) :: (.int v54) :: (.ref hd) :: (.ref ak) :: (.ref ho) :: (.ref ot) :: [])) ∧ va_P (dC, dI) vwCl (va_pl L G) H ∧ va_D A (va_pl L G) ∧ OKm cs ty gm L G ∧ FR ty [ρ] F G := ⟨_, rfl, hP, hD, hO.up (shm.mod hT_h0 ⟨v11, v12, v14, v15, v17, v18, v19, v20, v21, x_93, v33, v52, v53, v54, rfl, (by first | omega | assumption | exact Or.inl rfl | exact Or.inr rfl), (by first | omega | assumption | exact Or.inl rfl | exact Or.inr rfl), (by first | omega | assumption | exact Or.inl rfl | exact Or.inr rfl), (by first | omega | assumption | exact Or.inl rfl | exact Or.inr rfl)⟩), hR.up hT_h0 (by simp)⟩
                have hF_96 : F_94 h0 = .inr (15, (.ref ta) :: (.int (nI zt)) :: (.int (nI zo)) :: (.int (nI ze)) :: (.ref ou) :: (.ref so) :: (.ref ad) :: (.ref na) :: (.ref va) :: (.ref lc) :: (.ref dm) :: (.int v11) :: (.int v12) :: (.ref tg) :: (.int v14) :: (.int v15) :: (.ref pe) :: (.int v17) :: (.int v18) :: (.int v19) :: (.int v20) :: (.int v21) :: (.int x_93) :: (.ref ml) :: (.ref bg) :: (.ref co) :: (.ref sp) :: (.ref nb0) :: (.ref nb1) :: (.ref nb2) :: (.int (nI nf)) :: (.int (nI bd)) :: (.int (nI mm)) :: (.int v33) :: (.ref pl) :: (.ref se) :: (.ref ke) :: (.ref wi) :: (.ref hs) :: (.ref mo) :: (.ref po) :: (.ref nu) :: (.ref pr) :: (.ref sq) :: (.ref xa) :: (.ref sa) :: (.ref n64) :: (.ref m64) :: (.ref ex) :: (.ref wh) :: (.ref sd) :: (.ref tk) :: (.int v52) :: (.int v53) :: (.int v54) :: (.ref hd) :: (.ref ak) :: (.ref ho) :: (.ref ot) :: []) := by rw [he_95]; exact up_self
                have hF_97 : F_94 g1 = .inl (cs 17, 700, .inl fv) := by rw [he_95, up_ne (ne_ty hT_g1 hT_h0 (by simp))]; exact hF_36
                obtain ⟨x_98, ex_98⟩ : ∃ y : Int32, y = w4 + Int32.ofInt 1 := ⟨_, rfl⟩
                refine lv_iinc (v := x_98) (lv' := [(4, .int x_98), (7, .int (nI j)), (6, .int w6), (5, .int w5), (0, .ref h0), (1, .ref g1), (2, .int (nI a)), (3, .int (nI tt))]) hx hb dX15_isQuad_109 hl (k := 3) rfl (ex_98.symm) (by decide) rfl (fun ls hl => ?_)
                refine lv_iconst (v := 0) hx hb dX15_isQuad_112 (by decide) ?_
                refine lv_istore (lv' := [(5, .int 0), (4, .int x_98), (7, .int (nI j)), (6, .int w6), (0, .ref h0), (1, .ref g1), (2, .int (nI a)), (3, .int (nI tt))]) hx hb dX15_isQuad_113 hl (by decide) rfl (fun ls hl => ?_)
                refine lv_iconst (v := 0) hx hb dX15_isQuad_115 (by decide) ?_
                refine lv_istore (lv' := [(6, .int 0), (5, .int 0), (4, .int x_98), (7, .int (nI j)), (0, .ref h0), (1, .ref g1), (2, .int (nI a)), (3, .int (nI tt))]) hx hb dX15_isQuad_116 hl (by decide) rfl (fun ls hl => ?_)
                refine lv_iinc (v := (nI (j + 1))) (lv' := [(7, .int (nI (j + 1))), (6, .int 0), (5, .int 0), (4, .int x_98), (0, .ref h0), (1, .ref g1), (2, .int (nI a)), (3, .int (nI tt))]) hx hb dX15_isQuad_118 hl (k := 3) rfl (nI_1 _) (by decide) rfl (fun ls hl => ?_)
                refine lv_goto (tgt := 17) hx hb dX15_isQuad_121 (by decide) ?_
                refine W.widen (k := 0) (n := 0) (by omega) (by omega) ?_
                exact ih_35 ((j + 1), x_98, 0, 0, x_93) F_94 (⟨by omega, hF_96⟩) (by show 20001 - (j + 1) < 20001 - j; omega) hO hR _ _ hP hD hS ls (lv_sub hl [0, 1, 2, 3, 4, 5, 6, 7] rfl)
              ·
                refine lv_iconst (v := 0) hx hb dX15_isQuad_93 (by decide) ?_
                refine W.widen (k := 0) (n := 0) (by omega) (by omega) ?_
                exact W.zret (v := 0) (ty := .boolean) hx hb hr (by decide) (fun t ht hWm => ⟨⟨0, (), rfl, (by first | exact Or.inl rfl | exact Or.inr rfl), ⟨F_32, q22, QTm.mk ht hP hD hO hR, hv2⟩⟩, hS.F ht⟩) hS.2.2 dX15_isQuad_94
      ·
        refine lv_bipush (v := 10) hx hb dX15_isQuad_39 (by decide) ?_
        refine lv_iload hx hb dX15_isQuad_41 (lv_at hl 1 rfl) ?_
        refine lv_imul hx hb dX15_isQuad_43 ?_
        refine lv_topi (fun x_99 _ => ?_)
        refine lv_aload_n hx hb dX15_isQuad_44 rfl (lv_at hl 5 rfl) ?_
        refine lv_iload hx hb dX15_isQuad_45 (lv_at hl 0 rfl) ?_
        refine pg_bald hx hb hK hP hL_g1 1 hF_36 rfl (vp_in_nI (by omega) (by omega)) dX15_isQuad_47 ?_
        refine lv_topi (fun x_100 ex_100 => ?_)
        obtain rfl : x_100 = fv j := ex_100.trans (congrArg fv (show ((nI j) : Int32).toNatClampNeg = j from nI_clamp (by omega)))
        refine lv_iadd hx hb dX15_isQuad_48 ?_
        refine lv_topi (fun x_101 _ => ?_)
        refine lv_bipush (v := 48) hx hb dX15_isQuad_49 (by decide) ?_
        refine lv_isub hx hb dX15_isQuad_51 ?_
        refine lv_topi (fun x_102 ex_102 => ?_)
        obtain rfl : x_102 = (x_101 - 48) := ex_102.trans (rfl)
        refine lv_istore (lv' := [(6, .int (x_101 - 48)), (7, .int (nI j)), (5, .int w5), (4, .int w4), (0, .ref h0), (1, .ref g1), (2, .int (nI a)), (3, .int (nI tt))]) hx hb dX15_isQuad_52 hl (by decide) rfl (fun ls hl => ?_)
        obtain ⟨x_103, ex_103⟩ : ∃ y : Int32, y = w5 + Int32.ofInt 1 := ⟨_, rfl⟩
        refine lv_iinc (v := x_103) (lv' := [(5, .int x_103), (6, .int (x_101 - 48)), (7, .int (nI j)), (4, .int w4), (0, .ref h0), (1, .ref g1), (2, .int (nI a)), (3, .int (nI tt))]) hx hb dX15_isQuad_54 hl (k := 2) rfl (ex_103.symm) (by decide) rfl (fun ls hl => ?_)
        refine lv_iload hx hb dX15_isQuad_57 (lv_at hl 0 rfl) ?_
        refine lv_iconst (v := 3) hx hb dX15_isQuad_59 (by decide) ?_
        refine lv_icmp_le (tgt := 118) hx hb dX15_isQuad_60 (by decide) (fun c_104 => ?_) (fun c_104 => ?_)
        ·
          refine lv_iinc (v := (nI (j + 1))) (lv' := [(7, .int (nI (j + 1))), (5, .int x_103), (6, .int (x_101 - 48)), (4, .int w4), (0, .ref h0), (1, .ref g1), (2, .int (nI a)), (3, .int (nI tt))]) hx hb dX15_isQuad_118 hl (k := 2) rfl (nI_1 _) (by decide) rfl (fun ls hl => ?_)
          refine lv_goto (tgt := 17) hx hb dX15_isQuad_121 (by decide) ?_
          refine W.widen (k := 0) (n := 0) (by omega) (by omega) ?_
          exact ih_35 ((j + 1), w4, x_103, (x_101 - 48), q22) F_32 (⟨by omega, hv2⟩) (by show 20001 - (j + 1) < 20001 - j; omega) hO hR _ _ hP hD hS ls (lv_sub hl [0, 2, 1, 3, 4, 5, 6, 7] rfl)
        ·
          refine lv_iconst (v := 0) hx hb dX15_isQuad_63 (by decide) ?_
          refine W.widen (k := 0) (n := 0) (by omega) (by omega) ?_
          exact W.zret (v := 0) (ty := .boolean) hx hb hr (by decide) (fun t ht hWm => ⟨⟨0, (), rfl, (by first | exact Or.inl rfl | exact Or.inr rfl), ⟨F_32, q22, QTm.mk ht hP hD hO hR, hv2⟩⟩, hS.F ht⟩) hS.2.2 dX15_isQuad_64
set_option maxHeartbeats 4000000 in
set_option maxRecDepth 100000 in
theorem s_X15_readHost (l : Launch) (dC : Nat → ClassId) (dI : Nat → Nat → Nat) (cs : Nat → ClassId) (ty : TyM) (gm : Nat → Nat → Nat) (L : List Nat) (sz : Nat) (F : Nat → va_E) (h0 : Nat) (ρ : Nat) (ta : Nat) (ou : Nat) (so : Nat) (ad : Nat) (na : Nat) (va : Nat) (lc : Nat) (dm : Nat) (tg : Nat) (pe : Nat) (ml : Nat) (bg : Nat) (co : Nat) (sp : Nat) (nb0 : Nat) (nb1 : Nat) (nb2 : Nat) (pl : Nat) (se : Nat) (ke : Nat) (wi : Nat) (hs : Nat) (mo : Nat) (po : Nat) (nu : Nat) (pr : Nat) (sq : Nat) (xa : Nat) (sa : Nat) (n64 : Nat) (m64 : Nat) (ex : Nat) (wh : Nat) (sd : Nat) (tk : Nat) (hd : Nat) (ak : Nat) (ho : Nat) (ot : Nat) (sx : Nat) (s0 : Nat) (s1 : Nat) (s2 : Nat) (nf : Nat) (bd : Nat) (mm : Nat) (zo : Nat) (ze : Nat) (zt : Nat) (v11 : Int32) (v12 : Int32) (v14 : Int32) (v15 : Int32) (v17 : Int32) (v18 : Int32) (v19 : Int32) (v20 : Int32) (v21 : Int32) (v22 : Int32) (v33 : Int32) (v52 : Int32) (v53 : Int32) (v54 : Int32) (g1 : Nat) (μ : Nat) (fv : Nat → Int32) (a : Nat) (tt : Nat) (x4 : Int32) (hW : WTm ty gm L) (hL_h0 : h0 ∈ L) (hT_h0 : ty h0 = (15, ρ, [ta, ou, so, ad, na, va, lc, dm, tg, pe, ml, bg, co, sp, nb0, nb1, nb2, pl, se, ke, wi, hs, mo, po, nu, pr, sq, xa, sa, n64, m64, ex, wh, sd, tk, hd, ak, ho, ot, sx, s0, s1, s2, nf, bd, mm, zo, ze, zt])) (hL_g1 : g1 ∈ L) (hT_g1 : ty g1 = (17, μ, [700])) (hF0 : F h0 = .inr (15, (.ref ta) :: (.int (nI zt)) :: (.int (nI zo)) :: (.int (nI ze)) :: (.ref ou) :: (.ref so) :: (.ref ad) :: (.ref na) :: (.ref va) :: (.ref lc) :: (.ref dm) :: (.int v11) :: (.int v12) :: (.ref tg) :: (.int v14) :: (.int v15) :: (.ref pe) :: (.int v17) :: (.int v18) :: (.int v19) :: (.int v20) :: (.int v21) :: (.int v22) :: (.ref ml) :: (.ref bg) :: (.ref co) :: (.ref sp) :: (.ref nb0) :: (.ref nb1) :: (.ref nb2) :: (.int (nI nf)) :: (.int (nI bd)) :: (.int (nI mm)) :: (.int v33) :: (.ref pl) :: (.ref se) :: (.ref ke) :: (.ref wi) :: (.ref hs) :: (.ref mo) :: (.ref po) :: (.ref nu) :: (.ref pr) :: (.ref sq) :: (.ref xa) :: (.ref sa) :: (.ref n64) :: (.ref m64) :: (.ref ex) :: (.ref wh) :: (.ref sd) :: (.ref tk) :: (.int v52) :: (.int v53) :: (.int v54) :: (.ref hd) :: (.ref ak) :: (.ref ho) :: (.ref ot) :: [])) (hzo : zo ≤ 6000) (hze : ze ≤ 40) (h33 : ((v33 = 0 ∧ nf = 0) ∨ (v33 = 1 ∧ 1 ≤ nf))) (h54 : (v54 = 0 ∨ v54 = 1)) (hFg : F g1 = .inl (cs 17, 700, .inl fv)) (hmu : ρ + 100 ≤ μ) (htn : tt ≤ 700) (ha : a ≤ tt) (hm1 : v19 = (-1)) : Met l yX15_readHost (.code yX15_readHost cX15_readHost 6 none :: tb) ({ frames := 2, cells := 0, slots := 0, locals := 50 }) (va_Pc [.ref h0, .ref g1, .int (nI a), .int (nI tt), .int x4] (PTm (dC, dI) cs ty gm L F sz)) (va_Qv (fun _ : Unit => True) (fun _ T9 => ∃ F2 : Nat → va_E, ∃ u17 : Int32, ∃ u19 : Int32, ∃ u20 : Int32, ∃ u21 : Int32, QTm (dC, dI) cs ty gm L [ρ] F F2 (va_A (va_pl L F) sz) T9 ∧ F2 h0 = .inr (15, (.ref ta) :: (.int (nI zt)) :: (.int (nI zo)) :: (.int (nI ze)) :: (.ref ou) :: (.ref so) :: (.ref ad) :: (.ref na) :: (.ref va) :: (.ref lc) :: (.ref dm) :: (.int v11) :: (.int v12) :: (.ref tg) :: (.int v14) :: (.int v15) :: (.ref pe) :: (.int u17) :: (.int v18) :: (.int u19) :: (.int u20) :: (.int u21) :: (.int v22) :: (.ref ml) :: (.ref bg) :: (.ref co) :: (.ref sp) :: (.ref nb0) :: (.ref nb1) :: (.ref nb2) :: (.int (nI nf)) :: (.int (nI bd)) :: (.int (nI mm)) :: (.int v33) :: (.ref pl) :: (.ref se) :: (.ref ke) :: (.ref wi) :: (.ref hs) :: (.ref mo) :: (.ref po) :: (.ref nu) :: (.ref pr) :: (.ref sq) :: (.ref xa) :: (.ref sa) :: (.ref n64) :: (.ref m64) :: (.ref ex) :: (.ref wh) :: (.ref sd) :: (.ref tk) :: (.int v52) :: (.int v53) :: (.int v54) :: (.ref hd) :: (.ref ak) :: (.ref ho) :: (.ref ot) :: []) ∧ (u17 = v17 ∨ (u17 = x4 ∧ DOK fv tt u19 u20))) (va_A (va_pl L F) sz)) 0 0 (va_A (va_pl L F) sz) := by
  refine Met.ofW (cc := cX15_readHost) (maxL := 6) (ret := none) (by decide) rfl ?_
  intro p e s m args below meth c s₁ B hml hv
  obtain ⟨rfl, hsz, hP, hK, hD0, hE, hO⟩ := hv
  have hx := B.exec
  have hb := B.bytes
  have hr := B.returns
  have hts : ∀ w ∈ tb, w.before _ s = true := fun w h => atoms_spec (ws := .code yX15_readHost cX15_readHost 6 none :: tb) B.pre w (List.mem_cons_of_mem _ h)
  have hown : s.vm.findClass RX15 = some m.cls := findClass_of_methodNamed B.named
  have hlocks := B.notSynchronized
  subst hsz
  have hD := hD0.self (sz := s.heap.size)
  generalize hAe : va_A (va_pl L F) s.heap.size = A at hD ⊢
  have hA : ∀ q : Nat, s.heap.size ≤ q → A q := fun q h => by rw [← hAe]; exact Or.inr h
  have hS : va_S A s.heap s.heap [] := va_S.rf
  have hR : FR ty [ρ] F F := FR.refl
  have hl := lv_entry ([.ref h0, .ref g1, .int (nI a), .int (nI tt), .int x4]) (n := 6) (Nat.le_of_ble_eq_true rfl)
  rw [lg_entry_eq]
  generalize (lg_sl ([.ref h0, .ref g1, .int (nI a), .int (nI tt), .int x4]) ++ List.replicate (6 - (lg_sl ([.ref h0, .ref g1, .int (nI a), .int (nI tt), .int x4])).length) Slot.unset).toArray = ls at hl ⊢
  have hl : lv_has ls 6 [(0, .ref h0), (1, .ref g1), (2, .int (nI a)), (3, .int (nI tt)), (4, .int x4)] := hl
  refine lv_aload_n hx hb dX15_readHost_0 rfl (lv_at hl 1 rfl) ?_
  refine lv_iload_n hx hb dX15_readHost_1 rfl (lv_at hl 2 rfl) ?_
  refine lv_iload_n hx hb dX15_readHost_2 rfl (lv_at hl 3 rfl) ?_
  obtain ⟨hq_1, hq_2⟩ := hW.octs hL_g1 hT_g1
  have hFc := pg_free hD hS hA
  refine va_calli (va_runS (As := [.ref g1, .int (nI a), .int (nI tt)]) (rest := []) ⟨hx, hb, hml, hown, hts⟩ (s_X15_slashOf l dC dI cs ty gm L s.heap.size F g1 μ 700 a tt hW hL_g1 hT_g1 (by first | omega | assumption) (by first | omega | assumption)) ⟨callB_of 3 hts (gi kt_736) rfl rfl rfl (hts _ kt_659) (hts _ kt_737) (by decide +kernel) ⟨Nat.le_of_ble_eq_true rfl, Nat.le_of_ble_eq_true rfl⟩, (hts _ kt_738)⟩ ⟨fun a U g mk q => ⟨q.1, PTm.calling q.2⟩, fun U hU hWm => ⟨rfl, PTm.mk hU hWm hP hK hD hE hO⟩⟩ rfl rfl hl.1 rfl (lv_room (Nat.le_of_ble_eq_true rfl)) dX15_readHost_3 ⟨by show _ + 0 ≤ 0; omega, by show _ + 0 ≤ 0; omega⟩) hS (fun q _ h => hFc q h) hFc (fun r_3 u t H1 locs ht hvm hw hB hz1 hk1 hS => ?_)
  obtain ⟨F_4, hB1⟩ := hB
  obtain rfl : F = F_4 := (funext (fun a => hB1.2.2.2 a List.not_mem_nil)).symm
  obtain ⟨hP, hD, hO, hR⟩ := QTm.back hB1 ht hFc hR (fun q h => absurd h List.not_mem_nil)
  generalize H1 = H at hP hS ⊢
  have hw : (∃ k : Nat, a ≤ k ∧ k ≤ max a tt ∧ r_3 = nI k) := hw
  have hw_5 := hw
  obtain ⟨k_6, hk_6a, hk_6b, ek_6⟩ := hw_5
  subst ek_6
  refine lv_istore (lv' := [(5, .int (nI k_6)), (0, .ref h0), (1, .ref g1), (2, .int (nI a)), (3, .int (nI tt)), (4, .int x4)]) hx hb dX15_readHost_6 hl (by decide) rfl (fun ls hl => ?_)
  have hF_9 : F g1 = .inl (cs 17, 700, .inl fv) := (hR g1 (by rw [hT_g1]; simp only [List.mem_cons, List.not_mem_nil, or_false]; omega)).symm.trans hFg
  refine W.widen (k := 0) (n := 0) (by omega) (by omega) ?_
  refine pl_cutm (σ := Int32) A (dC, dI) cs ty gm L [ρ] F 27 6 (fun q21 => [(5, .int (nI k_6)), (0, .ref h0), (1, .ref g1), (2, .int (nI a)), (3, .int (nI tt)), (4, .int x4)]) (fun q21 => []) (fun q21 FF => FF h0 = .inr (15, (.ref ta) :: (.int (nI zt)) :: (.int (nI zo)) :: (.int (nI ze)) :: (.ref ou) :: (.ref so) :: (.ref ad) :: (.ref na) :: (.ref va) :: (.ref lc) :: (.ref dm) :: (.int v11) :: (.int v12) :: (.ref tg) :: (.int v14) :: (.int v15) :: (.ref pe) :: (.int v17) :: (.int v18) :: (.int v19) :: (.int v20) :: (.int q21) :: (.int v22) :: (.ref ml) :: (.ref bg) :: (.ref co) :: (.ref sp) :: (.ref nb0) :: (.ref nb1) :: (.ref nb2) :: (.int (nI nf)) :: (.int (nI bd)) :: (.int (nI mm)) :: (.int v33) :: (.ref pl) :: (.ref se) :: (.ref ke) :: (.ref wi) :: (.ref hs) :: (.ref mo) :: (.ref po) :: (.ref nu) :: (.ref pr) :: (.ref sq) :: (.ref xa) :: (.ref sa) :: (.ref n64) :: (.ref m64) :: (.ref ex) :: (.ref wh) :: (.ref sd) :: (.ref tk) :: (.int v52) :: (.int v53) :: (.int v54) :: (.ref hd) :: (.ref ak) :: (.ref ho) :: (.ref ot) :: [])) ?_ (fun jn_7 => ?_)
  ·
    rintro q21 F_8 hv_10 hO hR H locs hP hD hS ls hl
    have hl : lv_has ls 6 [(5, .int (nI k_6)), (0, .ref h0), (1, .ref g1), (2, .int (nI a)), (3, .int (nI tt)), (4, .int x4)] := hl
    have hv_10 : F_8 h0 = .inr (15, (.ref ta) :: (.int (nI zt)) :: (.int (nI zo)) :: (.int (nI ze)) :: (.ref ou) :: (.ref so) :: (.ref ad) :: (.ref na) :: (.ref va) :: (.ref lc) :: (.ref dm) :: (.int v11) :: (.int v12) :: (.ref tg) :: (.int v14) :: (.int v15) :: (.ref pe) :: (.int v17) :: (.int v18) :: (.int v19) :: (.int v20) :: (.int q21) :: (.int v22) :: (.ref ml) :: (.ref bg) :: (.ref co) :: (.ref sp) :: (.ref nb0) :: (.ref nb1) :: (.ref nb2) :: (.int (nI nf)) :: (.int (nI bd)) :: (.int (nI mm)) :: (.int v33) :: (.ref pl) :: (.ref se) :: (.ref ke) :: (.ref wi) :: (.ref hs) :: (.ref mo) :: (.ref po) :: (.ref nu) :: (.ref pr) :: (.ref sq) :: (.ref xa) :: (.ref sa) :: (.ref n64) :: (.ref m64) :: (.ref ex) :: (.ref wh) :: (.ref sd) :: (.ref tk) :: (.int v52) :: (.int v53) :: (.int v54) :: (.ref hd) :: (.ref ak) :: (.ref ho) :: (.ref ot) :: []) := hv_10
    refine W.eq (g2 := F0 m 27 ls []) rfl ?_
    have hF_11 : F_8 g1 = .inl (cs 17, 700, .inl fv) := (hR g1 (by rw [hT_g1]; simp only [List.mem_cons, List.not_mem_nil, or_false]; omega)).trans hF_9
    refine lv_aload_n hx hb dX15_readHost_27 rfl (lv_at hl 1 rfl) ?_
    obtain ⟨hq_34, hq_35, hq_36, hq_37, hq_38, hgO, hgA, hgB⟩ := hW.sc hL_h0 hT_h0
    refine pg_get (ci := 15) (v := .int q21) (C := RX15) (T := TX15) (N := 59) hx hb hts it_15 hown hK hP hL_h0 hv_10 rfl 21 (by decide) (hts _ kt_739) (fun _ h9 => h9) rfl dX15_readHost_28 ?_
    refine lv_if_ge (tgt := 35) hx hb dX15_readHost_31 (by decide) (fun c_39 => ?_) (fun c_39 => ?_)
    ·
      refine lv_iload hx hb dX15_readHost_35 (lv_at hl 0 rfl) ?_
      refine lv_iload_n hx hb dX15_readHost_37 rfl (lv_at hl 3 rfl) ?_
      refine lv_icmp_le (tgt := 79) hx hb dX15_readHost_38 (by decide) (fun c_40 => ?_) (fun c_40 => ?_)
      ·
        have hi_41 : k_6 ≤ a := (nI_leI (a := k_6) (b := a) (by omega) (by omega)).mp c_40
        refine lv_aload_n hx hb dX15_readHost_79 rfl (lv_at hl 1 rfl) ?_
        refine lv_iload hx hb dX15_readHost_80 (lv_at hl 5 rfl) ?_
        refine pg_put (ci := 15) (v := .int x4) (ty := .int) (C := RX15) (T := TX15) (N := 59) hx hb hts it_15 tyX15 tyX15_ok nmX15 hown hK hP hD hS hL_h0 hv_10 rfl 17 (by decide) (hts _ kt_740) (fun _ h9 => h9) rfl (by decide +kernel) (rfl) (rfl) (Nat.le_of_ble_eq_true rfl) dX15_readHost_82 (fun H locs hP hD hS => ?_)
        obtain ⟨F_42, he_43, hP, hD, hO, hR⟩ : ∃ G, G = va_up F_8 h0 (.inr (15, (.ref ta) :: (.int (nI zt)) :: (.int (nI zo)) :: (.int (nI ze)) :: (.ref ou) :: (.ref so) :: (.ref ad) :: (.ref na) :: (.ref va) :: (.ref lc) :: (.ref dm) :: (.int v11) :: (.int v12) :: (.ref tg) :: (.int v14) :: (.int v15) :: (.ref pe) :: (.int x4) :: (.int v18) :: (.int v19) :: (.int v20) :: (.int q21) :: (.int v22) :: (.ref ml) :: (.ref bg) :: (.ref co) :: (.ref sp) :: (.ref nb0) :: (.ref nb1) :: (.ref nb2) :: (.int (nI nf)) :: (.int (nI bd)) :: (.int (nI mm)) :: (.int v33) :: (.ref pl) :: (.ref se) :: (.ref ke) :: (.ref wi) :: (.ref hs) :: (.ref mo) :: (.ref po) :: (.ref nu) :: (.ref pr) :: (.ref sq) :: (.ref xa) :: (.ref sa) :: (.ref n64) :: (.ref m64) :: (.ref ex) :: (.ref wh) :: (.ref sd) :: (.ref tk) :: (.int v52) :: (.int v53) :: (.int v54) :: (.ref hd) :: (.ref ak) :: (.ref ho) :: (.ref ot) :: [])) ∧ va_P (dC, dI) vwCl (va_pl L G) H ∧ va_D A (va_pl L G) ∧ OKm cs ty gm L G ∧ FR ty [ρ] F G := ⟨_, rfl, hP, hD, hO.up (shm.mod hT_h0 ⟨v11, v12, v14, v15, x4, v18, v19, v20, q21, v22, v33, v52, v53, v54, rfl, (by first | omega | assumption | exact Or.inl rfl | exact Or.inr rfl), (by first | omega | assumption | exact Or.inl rfl | exact Or.inr rfl), (by first | omega | assumption | exact Or.inl rfl | exact Or.inr rfl), (by first | omega | assumption | exact Or.inl rfl | exact Or.inr rfl)⟩), hR.up hT_h0 (by simp)⟩
        have hF_44 : F_42 h0 = .inr (15, (.ref ta) :: (.int (nI zt)) :: (.int (nI zo)) :: (.int (nI ze)) :: (.ref ou) :: (.ref so) :: (.ref ad) :: (.ref na) :: (.ref va) :: (.ref lc) :: (.ref dm) :: (.int v11) :: (.int v12) :: (.ref tg) :: (.int v14) :: (.int v15) :: (.ref pe) :: (.int x4) :: (.int v18) :: (.int v19) :: (.int v20) :: (.int q21) :: (.int v22) :: (.ref ml) :: (.ref bg) :: (.ref co) :: (.ref sp) :: (.ref nb0) :: (.ref nb1) :: (.ref nb2) :: (.int (nI nf)) :: (.int (nI bd)) :: (.int (nI mm)) :: (.int v33) :: (.ref pl) :: (.ref se) :: (.ref ke) :: (.ref wi) :: (.ref hs) :: (.ref mo) :: (.ref po) :: (.ref nu) :: (.ref pr) :: (.ref sq) :: (.ref xa) :: (.ref sa) :: (.ref n64) :: (.ref m64) :: (.ref ex) :: (.ref wh) :: (.ref sd) :: (.ref tk) :: (.int v52) :: (.int v53) :: (.int v54) :: (.ref hd) :: (.ref ak) :: (.ref ho) :: (.ref ot) :: []) := by rw [he_43]; exact up_self
        have hF_45 : F_42 g1 = .inl (cs 17, 700, .inl fv) := by rw [he_43, up_ne (ne_ty hT_g1 hT_h0 (by simp))]; exact hF_11
        refine W.widen (k := 0) (n := 0) (by omega) (by omega) ?_
        exact W.vret hx hb hr (fun t ht hWm => ⟨⟨(), rfl, trivial, ⟨F_42, x4, v19, v20, q21, QTm.mk ht hP hD hO hR, hF_44, Or.inr ⟨rfl, Or.inl hm1⟩⟩⟩, hS.F ht⟩) hS.2.2 dX15_readHost_85
      ·
        have hi_46 : a < k_6 := Nat.not_le.mp (fun q => c_40 ((nI_leI (a := k_6) (b := a) (by omega) (by omega)).mpr q))
        refine lv_aload_n hx hb dX15_readHost_41 rfl (lv_at hl 1 rfl) ?_
        refine lv_iload_n hx hb dX15_readHost_42 rfl (lv_at hl 3 rfl) ?_
        refine lv_iconst (v := 1) hx hb dX15_readHost_43 (by decide) ?_
        refine lv_iadd hx hb dX15_readHost_44 ?_
        refine lv_topi (fun x_47 ex_47 => ?_)
        obtain rfl : x_47 = (nI (a + 1)) := ex_47.trans (nI_add a 1)
        refine pg_put (ci := 15) (v := .int (nI (a + 1))) (ty := .int) (C := RX15) (T := TX15) (N := 59) hx hb hts it_15 tyX15 tyX15_ok nmX15 hown hK hP hD hS hL_h0 hv_10 rfl 19 (by decide) (hts _ kt_741) (fun _ h9 => h9) rfl (by decide +kernel) (rfl) (rfl) (Nat.le_of_ble_eq_true rfl) dX15_readHost_45 (fun H locs hP hD hS => ?_)
        obtain ⟨F_48, he_49, hP, hD, hO, hR⟩ : ∃ G, G = va_up F_8 h0 (.inr (15, (.ref ta) :: (.int (nI zt)) :: (.int (nI zo)) :: (.int (nI ze)) :: (.ref ou) :: (.ref so) :: (.ref ad) :: (.ref na) :: (.ref va) :: (.ref lc) :: (.ref dm) :: (.int v11) :: (.int v12) :: (.ref tg) :: (.int v14) :: (.int v15) :: (.ref pe) :: (.int v17) :: (.int v18) :: (.int (nI (a + 1))) :: (.int v20) :: (.int q21) :: (.int v22) :: (.ref ml) :: (.ref bg) :: (.ref co) :: (.ref sp) :: (.ref nb0) :: (.ref nb1) :: (.ref nb2) :: (.int (nI nf)) :: (.int (nI bd)) :: (.int (nI mm)) :: (.int v33) :: (.ref pl) :: (.ref se) :: (.ref ke) :: (.ref wi) :: (.ref hs) :: (.ref mo) :: (.ref po) :: (.ref nu) :: (.ref pr) :: (.ref sq) :: (.ref xa) :: (.ref sa) :: (.ref n64) :: (.ref m64) :: (.ref ex) :: (.ref wh) :: (.ref sd) :: (.ref tk) :: (.int v52) :: (.int v53) :: (.int v54) :: (.ref hd) :: (.ref ak) :: (.ref ho) :: (.ref ot) :: [])) ∧ va_P (dC, dI) vwCl (va_pl L G) H ∧ va_D A (va_pl L G) ∧ OKm cs ty gm L G ∧ FR ty [ρ] F G := ⟨_, rfl, hP, hD, hO.up (shm.mod hT_h0 ⟨v11, v12, v14, v15, v17, v18, (nI (a + 1)), v20, q21, v22, v33, v52, v53, v54, rfl, (by first | omega | assumption | exact Or.inl rfl | exact Or.inr rfl), (by first | omega | assumption | exact Or.inl rfl | exact Or.inr rfl), (by first | omega | assumption | exact Or.inl rfl | exact Or.inr rfl), (by first | omega | assumption | exact Or.inl rfl | exact Or.inr rfl)⟩), hR.up hT_h0 (by simp)⟩
        have hF_50 : F_48 h0 = .inr (15, (.ref ta) :: (.int (nI zt)) :: (.int (nI zo)) :: (.int (nI ze)) :: (.ref ou) :: (.ref so) :: (.ref ad) :: (.ref na) :: (.ref va) :: (.ref lc) :: (.ref dm) :: (.int v11) :: (.int v12) :: (.ref tg) :: (.int v14) :: (.int v15) :: (.ref pe) :: (.int v17) :: (.int v18) :: (.int (nI (a + 1))) :: (.int v20) :: (.int q21) :: (.int v22) :: (.ref ml) :: (.ref bg) :: (.ref co) :: (.ref sp) :: (.ref nb0) :: (.ref nb1) :: (.ref nb2) :: (.int (nI nf)) :: (.int (nI bd)) :: (.int (nI mm)) :: (.int v33) :: (.ref pl) :: (.ref se) :: (.ref ke) :: (.ref wi) :: (.ref hs) :: (.ref mo) :: (.ref po) :: (.ref nu) :: (.ref pr) :: (.ref sq) :: (.ref xa) :: (.ref sa) :: (.ref n64) :: (.ref m64) :: (.ref ex) :: (.ref wh) :: (.ref sd) :: (.ref tk) :: (.int v52) :: (.int v53) :: (.int v54) :: (.ref hd) :: (.ref ak) :: (.ref ho) :: (.ref ot) :: []) := by rw [he_49]; exact up_self
        have hF_51 : F_48 g1 = .inl (cs 17, 700, .inl fv) := by rw [he_49, up_ne (ne_ty hT_g1 hT_h0 (by simp))]; exact hF_11
        refine lv_aload_n hx hb dX15_readHost_48 rfl (lv_at hl 1 rfl) ?_
        refine lv_iload hx hb dX15_readHost_49 (lv_at hl 0 rfl) ?_
        refine pg_put (ci := 15) (v := .int (nI k_6)) (ty := .int) (C := RX15) (T := TX15) (N := 59) hx hb hts it_15 tyX15 tyX15_ok nmX15 hown hK hP hD hS hL_h0 hF_50 rfl 20 (by decide) (hts _ kt_742) (fun _ h9 => h9) rfl (by decide +kernel) (rfl) (rfl) (Nat.le_of_ble_eq_true rfl) dX15_readHost_51 (fun H locs hP hD hS => ?_)
        obtain ⟨F_52, he_53, hP, hD, hO, hR⟩ : ∃ G, G = va_up F_48 h0 (.inr (15, (.ref ta) :: (.int (nI zt)) :: (.int (nI zo)) :: (.int (nI ze)) :: (.ref ou) :: (.ref so) :: (.ref ad) :: (.ref na) :: (.ref va) :: (.ref lc) :: (.ref dm) :: (.int v11) :: (.int v12) :: (.ref tg) :: (.int v14) :: (.int v15) :: (.ref pe) :: (.int v17) :: (.int v18) :: (.int (nI (a + 1))) :: (.int (nI k_6)) :: (.int q21) :: (.int v22) :: (.ref ml) :: (.ref bg) :: (.ref co) :: (.ref sp) :: (.ref nb0) :: (.ref nb1) :: (.ref nb2) :: (.int (nI nf)) :: (.int (nI bd)) :: (.int (nI mm)) :: (.int v33) :: (.ref pl) :: (.ref se) :: (.ref ke) :: (.ref wi) :: (.ref hs) :: (.ref mo) :: (.ref po) :: (.ref nu) :: (.ref pr) :: (.ref sq) :: (.ref xa) :: (.ref sa) :: (.ref n64) :: (.ref m64) :: (.ref ex) :: (.ref wh) :: (.ref sd) :: (.ref tk) :: (.int v52) :: (.int v53) :: (.int v54) :: (.ref hd) :: (.ref ak) :: (.ref ho) :: (.ref ot) :: [])) ∧ va_P (dC, dI) vwCl (va_pl L G) H ∧ va_D A (va_pl L G) ∧ OKm cs ty gm L G ∧ FR ty [ρ] F G := ⟨_, rfl, hP, hD, hO.up (shm.mod hT_h0 ⟨v11, v12, v14, v15, v17, v18, (nI (a + 1)), (nI k_6), q21, v22, v33, v52, v53, v54, rfl, (by first | omega | assumption | exact Or.inl rfl | exact Or.inr rfl), (by first | omega | assumption | exact Or.inl rfl | exact Or.inr rfl), (by first | omega | assumption | exact Or.inl rfl | exact Or.inr rfl), (by first | omega | assumption | exact Or.inl rfl | exact Or.inr rfl)⟩), hR.up hT_h0 (by simp)⟩
        have hF_54 : F_52 h0 = .inr (15, (.ref ta) :: (.int (nI zt)) :: (.int (nI zo)) :: (.int (nI ze)) :: (.ref ou) :: (.ref so) :: (.ref ad) :: (.ref na) :: (.ref va) :: (.ref lc) :: (.ref dm) :: (.int v11) :: (.int v12) :: (.ref tg) :: (.int v14) :: (.int v15) :: (.ref pe) :: (.int v17) :: (.int v18) :: (.int (nI (a + 1))) :: (.int (nI k_6)) :: (.int q21) :: (.int v22) :: (.ref ml) :: (.ref bg) :: (.ref co) :: (.ref sp) :: (.ref nb0) :: (.ref nb1) :: (.ref nb2) :: (.int (nI nf)) :: (.int (nI bd)) :: (.int (nI mm)) :: (.int v33) :: (.ref pl) :: (.ref se) :: (.ref ke) :: (.ref wi) :: (.ref hs) :: (.ref mo) :: (.ref po) :: (.ref nu) :: (.ref pr) :: (.ref sq) :: (.ref xa) :: (.ref sa) :: (.ref n64) :: (.ref m64) :: (.ref ex) :: (.ref wh) :: (.ref sd) :: (.ref tk) :: (.int v52) :: (.int v53) :: (.int v54) :: (.ref hd) :: (.ref ak) :: (.ref ho) :: (.ref ot) :: []) := by rw [he_53]; exact up_self
        have hF_55 : F_52 g1 = .inl (cs 17, 700, .inl fv) := by rw [he_53, up_ne (ne_ty hT_g1 hT_h0 (by simp))]; exact hF_51
        refine lv_aload_n hx hb dX15_readHost_54 rfl (lv_at hl 2 rfl) ?_
        refine lv_iload_n hx hb dX15_readHost_55 rfl (lv_at hl 3 rfl) ?_
        refine pg_bald hx hb hK hP hL_g1 1 hF_55 rfl (vp_in_nI (by omega) (by omega)) dX15_readHost_56 ?_
        refine lv_topi (fun x_56 ex_56 => ?_)
        obtain rfl : x_56 = fv a := ex_56.trans (congrArg fv (show ((nI a) : Int32).toNatClampNeg = a from nI_clamp (by omega)))
        refine lv_bipush (v := 58) hx hb dX15_readHost_57 (by decide) ?_
        refine lv_icmp_ne (tgt := 78) hx hb dX15_readHost_59 (by decide) (fun c_57 => ?_) (fun c_57 => ?_)
        ·
          refine W.widen (k := 0) (n := 0) (by omega) (by omega) ?_
          exact W.vret hx hb hr (fun t ht hWm => ⟨⟨(), rfl, trivial, ⟨F_52, v17, (nI (a + 1)), (nI k_6), q21, QTm.mk ht hP hD hO hR, hF_54, Or.inl rfl⟩⟩, hS.F ht⟩) hS.2.2 dX15_readHost_78
        ·
          refine lv_aload_n hx hb dX15_readHost_62 rfl (lv_at hl 2 rfl) ?_
          refine lv_aload_n hx hb dX15_readHost_63 rfl (lv_at hl 1 rfl) ?_
          refine pg_get (ci := 15) (v := .int (nI (a + 1))) (C := RX15) (T := TX15) (N := 59) hx hb hts it_15 hown hK hP hL_h0 hF_54 rfl 19 (by decide) (hts _ kt_741) (fun _ h9 => h9) rfl dX15_readHost_64 ?_
          refine lv_aload_n hx hb dX15_readHost_67 rfl (lv_at hl 1 rfl) ?_
          refine pg_get (ci := 15) (v := .int (nI k_6)) (C := RX15) (T := TX15) (N := 59) hx hb hts it_15 hown hK hP hL_h0 hF_54 rfl 20 (by decide) (hts _ kt_742) (fun _ h9 => h9) rfl dX15_readHost_68 ?_
          refine lv_iconst (v := 0) hx hb dX15_readHost_71 (by decide) ?_
          have hFc := pg_free hD hS hA
          refine va_calli (va_runS (As := [.ref g1, .int (nI (a + 1)), .int (nI k_6), .int 0]) (rest := []) ⟨hx, hb, hml, hown, hts⟩ (s_X15_isD l dC dI cs ty gm L H.size F_52 g1 μ 700 (a + 1) k_6 0 hW hL_g1 hT_g1 (by first | omega | assumption) (by first | omega | assumption)) ⟨callB_of 4 hts (gi kt_743) rfl rfl rfl (hts _ kt_659) (hts _ kt_744) (by decide +kernel) ⟨Nat.le_of_ble_eq_true rfl, Nat.le_of_ble_eq_true rfl⟩, (hts _ kt_745)⟩ ⟨fun a U g mk q => ⟨q.1, PTm.calling q.2⟩, fun U hU hWm => ⟨rfl, PTm.mk hU hWm hP hK hD hE hO⟩⟩ rfl rfl hl.1 rfl (lv_room (Nat.le_of_ble_eq_true rfl)) dX15_readHost_72 ⟨by show _ + 0 ≤ 0; omega, by show _ + 0 ≤ 0; omega⟩) hS (fun q _ h => hFc q h) hFc (fun r_58 u t H1 locs ht hvm hw hB hz1 hk1 hS => ?_)
          obtain ⟨F_59, hB1⟩ := hB
          obtain rfl : F_52 = F_59 := (funext (fun a => hB1.2.2.2 a List.not_mem_nil)).symm
          obtain ⟨hP, hD, hO, hR⟩ := QTm.back hB1 ht hFc hR (fun q h => absurd h List.not_mem_nil)
          generalize H1 = H at hP hS ⊢
          have hw : (r_58 = 0 ∨ (r_58 = 1 ∧ (a + 1) < k_6 ∧ ISD (gA (F_52 g1)) k_6 (a + 1))) := hw
          have hw_60 := hw
          refine lv_if_ne (tgt := 79) hx hb dX15_readHost_75 (by decide) (fun c_61 => ?_) (fun c_61 => ?_)
          ·
            refine lv_aload_n hx hb dX15_readHost_79 rfl (lv_at hl 1 rfl) ?_
            refine lv_iload hx hb dX15_readHost_80 (lv_at hl 5 rfl) ?_
            refine pg_put (ci := 15) (v := .int x4) (ty := .int) (C := RX15) (T := TX15) (N := 59) hx hb hts it_15 tyX15 tyX15_ok nmX15 hown hK hP hD hS hL_h0 hF_54 rfl 17 (by decide) (hts _ kt_740) (fun _ h9 => h9) rfl (by decide +kernel) (rfl) (rfl) (Nat.le_of_ble_eq_true rfl) dX15_readHost_82 (fun H locs hP hD hS => ?_)
            obtain ⟨F_62, he_63, hP, hD, hO, hR⟩ : ∃ G, G = va_up F_52 h0 (.inr (15, (.ref ta) :: (.int (nI zt)) :: (.int (nI zo)) :: (.int (nI ze)) :: (.ref ou) :: (.ref so) :: (.ref ad) :: (.ref na) :: (.ref va) :: (.ref lc) :: (.ref dm) :: (.int v11) :: (.int v12) :: (.ref tg) :: (.int v14) :: (.int v15) :: (.ref pe) :: (.int x4) :: (.int v18) :: (.int (nI (a + 1))) :: (.int (nI k_6)) :: (.int q21) :: (.int v22) :: (.ref ml) :: (.ref bg) :: (.ref co) :: (.ref sp) :: (.ref nb0) :: (.ref nb1) :: (.ref nb2) :: (.int (nI nf)) :: (.int (nI bd)) :: (.int (nI mm)) :: (.int v33) :: (.ref pl) :: (.ref se) :: (.ref ke) :: (.ref wi) :: (.ref hs) :: (.ref mo) :: (.ref po) :: (.ref nu) :: (.ref pr) :: (.ref sq) :: (.ref xa) :: (.ref sa) :: (.ref n64) :: (.ref m64) :: (.ref ex) :: (.ref wh) :: (.ref sd) :: (.ref tk) :: (.int v52) :: (.int v53) :: (.int v54) :: (.ref hd) :: (.ref ak) :: (.ref ho) :: (.ref ot) :: [])) ∧ va_P (dC, dI) vwCl (va_pl L G) H ∧ va_D A (va_pl L G) ∧ OKm cs ty gm L G ∧ FR ty [ρ] F G := ⟨_, rfl, hP, hD, hO.up (shm.mod hT_h0 ⟨v11, v12, v14, v15, x4, v18, (nI (a + 1)), (nI k_6), q21, v22, v33, v52, v53, v54, rfl, (by first | omega | assumption | exact Or.inl rfl | exact Or.inr rfl), (by first | omega | assumption | exact Or.inl rfl | exact Or.inr rfl), (by first | omega | assumption | exact Or.inl rfl | exact Or.inr rfl), (by first | omega | assumption | exact Or.inl rfl | exact Or.inr rfl)⟩), hR.up hT_h0 (by simp)⟩
            have hF_64 : F_62 h0 = .inr (15, (.ref ta) :: (.int (nI zt)) :: (.int (nI zo)) :: (.int (nI ze)) :: (.ref ou) :: (.ref so) :: (.ref ad) :: (.ref na) :: (.ref va) :: (.ref lc) :: (.ref dm) :: (.int v11) :: (.int v12) :: (.ref tg) :: (.int v14) :: (.int v15) :: (.ref pe) :: (.int x4) :: (.int v18) :: (.int (nI (a + 1))) :: (.int (nI k_6)) :: (.int q21) :: (.int v22) :: (.ref ml) :: (.ref bg) :: (.ref co) :: (.ref sp) :: (.ref nb0) :: (.ref nb1) :: (.ref nb2) :: (.int (nI nf)) :: (.int (nI bd)) :: (.int (nI mm)) :: (.int v33) :: (.ref pl) :: (.ref se) :: (.ref ke) :: (.ref wi) :: (.ref hs) :: (.ref mo) :: (.ref po) :: (.ref nu) :: (.ref pr) :: (.ref sq) :: (.ref xa) :: (.ref sa) :: (.ref n64) :: (.ref m64) :: (.ref ex) :: (.ref wh) :: (.ref sd) :: (.ref tk) :: (.int v52) :: (.int v53) :: (.int v54) :: (.ref hd) :: (.ref ak) :: (.ref ho) :: (.ref ot) :: []) := by rw [he_63]; exact up_self
            have hF_65 : F_62 g1 = .inl (cs 17, 700, .inl fv) := by rw [he_63, up_ne (ne_ty hT_g1 hT_h0 (by simp))]; exact hF_55
            refine W.widen (k := 0) (n := 0) (by omega) (by omega) ?_
            exact W.vret hx hb hr (fun t ht hWm => ⟨⟨(), rfl, trivial, ⟨F_62, x4, (nI (a + 1)), (nI k_6), q21, QTm.mk ht hP hD hO hR, hF_64, Or.inr ⟨rfl, Or.inr ⟨a + 1, k_6, rfl, rfl, by omega, by omega, (by have h9 := (bit1 hw_60 c_61).2; rw [gA_fun hF_55] at h9; exact h9)⟩⟩⟩⟩, hS.F ht⟩) hS.2.2 dX15_readHost_85
          ·
            refine W.widen (k := 0) (n := 0) (by omega) (by omega) ?_
            exact W.vret hx hb hr (fun t ht hWm => ⟨⟨(), rfl, trivial, ⟨F_52, v17, (nI (a + 1)), (nI k_6), q21, QTm.mk ht hP hD hO hR, hF_54, Or.inl rfl⟩⟩, hS.F ht⟩) hS.2.2 dX15_readHost_78
    ·
      refine W.widen (k := 0) (n := 0) (by omega) (by omega) ?_
      exact W.vret hx hb hr (fun t ht hWm => ⟨⟨(), rfl, trivial, ⟨F_8, v17, v19, v20, q21, QTm.mk ht hP hD hO hR, hv_10, Or.inl rfl⟩⟩, hS.F ht⟩) hS.2.2 dX15_readHost_34
  ·
    refine lv_iload hx hb dX15_readHost_8 (lv_at hl 0 rfl) ?_
    refine lv_iload_n hx hb dX15_readHost_10 rfl (lv_at hl 4 rfl) ?_
    refine lv_icmp_ge (tgt := 27) hx hb dX15_readHost_11 (by decide) (fun c_66 => ?_) (fun c_66 => ?_)
    ·
      have hi_67 : tt ≤ k_6 := leN (N := tt) c_66
      obtain ⟨hq_90, hq_91, hq_92, hq_93, hq_94, hgO, hgA, hgB⟩ := hW.sc hL_h0 hT_h0
      refine W.widen (k := 0) (n := 0) (by omega) (by omega) ?_
      exact jn_7 v21 F (hF0) hO hR _ _ hP hD hS ls (lv_sub hl [0, 1, 2, 3, 4, 5] rfl)
    ·
      have hi_95 : k_6 < tt := ltN (N := tt) c_66
      refine lv_aload_n hx hb dX15_readHost_14 rfl (lv_at hl 1 rfl) ?_
      refine lv_aload_n hx hb dX15_readHost_15 rfl (lv_at hl 2 rfl) ?_
      refine lv_iload hx hb dX15_readHost_16 (lv_at hl 0 rfl) ?_
      refine lv_iconst (v := 1) hx hb dX15_readHost_18 (by decide) ?_
      refine lv_iadd hx hb dX15_readHost_19 ?_
      refine lv_topi (fun x_96 ex_96 => ?_)
      obtain rfl : x_96 = (nI (k_6 + 1)) := ex_96.trans (nI_add k_6 1)
      refine lv_iload_n hx hb dX15_readHost_20 rfl (lv_at hl 4 rfl) ?_
      have hFc := pg_free hD hS hA
      refine va_calli (va_runS (As := [.ref g1, .int (nI (k_6 + 1)), .int (nI tt)]) (rest := [.ref h0]) ⟨hx, hb, hml, hown, hts⟩ (s_X15_bits l dC dI cs ty gm L H.size F g1 μ 700 (k_6 + 1) tt hW hL_g1 hT_g1 (by first | omega | assumption) (by first | omega | assumption)) ⟨callB_of 3 hts (gi kt_746) rfl rfl rfl (hts _ kt_659) (hts _ kt_747) (by decide +kernel) ⟨Nat.le_of_ble_eq_true rfl, Nat.le_of_ble_eq_true rfl⟩, (hts _ kt_748)⟩ ⟨fun a U g mk q => ⟨q.1, PTm.calling q.2⟩, fun U hU hWm => ⟨rfl, PTm.mk hU hWm hP hK hD hE hO⟩⟩ rfl rfl hl.1 rfl (lv_room (Nat.le_of_ble_eq_true rfl)) dX15_readHost_21 ⟨by show _ + 0 ≤ 0; omega, by show _ + 0 ≤ 0; omega⟩) hS (fun q _ h => hFc q h) hFc (fun r_97 u t H1 locs ht hvm hw hB hz1 hk1 hS => ?_)
      obtain ⟨F_98, hB1⟩ := hB
      obtain rfl : F = F_98 := (funext (fun a => hB1.2.2.2 a List.not_mem_nil)).symm
      obtain ⟨hP, hD, hO, hR⟩ := QTm.back hB1 ht hFc hR (fun q h => absurd h List.not_mem_nil)
      generalize H1 = H at hP hS ⊢
      have hw : True := hw
      have hw_99 := hw
      obtain ⟨hq_122, hq_123, hq_124, hq_125, hq_126, hgO, hgA, hgB⟩ := hW.sc hL_h0 hT_h0
      refine pg_put (ci := 15) (v := .int r_97) (ty := .int) (C := RX15) (T := TX15) (N := 59) hx hb hts it_15 tyX15 tyX15_ok nmX15 hown hK hP hD hS hL_h0 hF0 rfl 21 (by decide) (hts _ kt_739) (fun _ h9 => h9) rfl (by decide +kernel) (rfl) (rfl) (Nat.le_of_ble_eq_true rfl) dX15_readHost_24 (fun H locs hP hD hS => ?_)
      obtain ⟨F_127, he_128, hP, hD, hO, hR⟩ : ∃ G, G = va_up F h0 (.inr (15, (.ref ta) :: (.int (nI zt)) :: (.int (nI zo)) :: (.int (nI ze)) :: (.ref ou) :: (.ref so) :: (.ref ad) :: (.ref na) :: (.ref va) :: (.ref lc) :: (.ref dm) :: (.int v11) :: (.int v12) :: (.ref tg) :: (.int v14) :: (.int v15) :: (.ref pe) :: (.int v17) :: (.int v18) :: (.int v19) :: (.int v20) :: (.int r_97) :: (.int v22) :: (.ref ml) :: (.ref bg) :: (.ref co) :: (.ref sp) :: (.ref nb0) :: (.ref nb1) :: (.ref nb2) :: (.int (nI nf)) :: (.int (nI bd)) :: (.int (nI mm)) :: (.int v33) :: (.ref pl) :: (.ref se) :: (.ref ke) :: (.ref wi) :: (.ref hs) :: (.ref mo) :: (.ref po) :: (.ref nu) :: (.ref pr) :: (.ref sq) :: (.ref xa) :: (.ref sa) :: (.ref n64) :: (.ref m64) :: (.ref ex) :: (.ref wh) :: (.ref sd) :: (.ref tk) :: (.int v52) :: (.int v53) :: (.int v54) :: (.ref hd) :: (.ref ak) :: (.ref ho) :: (.ref ot) :: [])) ∧ va_P (dC, dI) vwCl (va_pl L G) H ∧ va_D A (va_pl L G) ∧ OKm cs ty gm L G ∧ FR ty [ρ] F G := ⟨_, rfl, hP, hD, hO.up (shm.mod hT_h0 ⟨v11, v12, v14, v15, v17, v18, v19, v20, r_97, v22, v33, v52, v53, v54, rfl, (by first | omega | assumption | exact Or.inl rfl | exact Or.inr rfl), (by first | omega | assumption | exact Or.inl rfl | exact Or.inr rfl), (by first | omega | assumption | exact Or.inl rfl | exact Or.inr rfl), (by first | omega | assumption | exact Or.inl rfl | exact Or.inr rfl)⟩), hR.up hT_h0 (by simp)⟩
      have hF_129 : F_127 h0 = .inr (15, (.ref ta) :: (.int (nI zt)) :: (.int (nI zo)) :: (.int (nI ze)) :: (.ref ou) :: (.ref so) :: (.ref ad) :: (.ref na) :: (.ref va) :: (.ref lc) :: (.ref dm) :: (.int v11) :: (.int v12) :: (.ref tg) :: (.int v14) :: (.int v15) :: (.ref pe) :: (.int v17) :: (.int v18) :: (.int v19) :: (.int v20) :: (.int r_97) :: (.int v22) :: (.ref ml) :: (.ref bg) :: (.ref co) :: (.ref sp) :: (.ref nb0) :: (.ref nb1) :: (.ref nb2) :: (.int (nI nf)) :: (.int (nI bd)) :: (.int (nI mm)) :: (.int v33) :: (.ref pl) :: (.ref se) :: (.ref ke) :: (.ref wi) :: (.ref hs) :: (.ref mo) :: (.ref po) :: (.ref nu) :: (.ref pr) :: (.ref sq) :: (.ref xa) :: (.ref sa) :: (.ref n64) :: (.ref m64) :: (.ref ex) :: (.ref wh) :: (.ref sd) :: (.ref tk) :: (.int v52) :: (.int v53) :: (.int v54) :: (.ref hd) :: (.ref ak) :: (.ref ho) :: (.ref ot) :: []) := by rw [he_128]; exact up_self
      have hF_130 : F_127 g1 = .inl (cs 17, 700, .inl fv) := by rw [he_128, up_ne (ne_ty hT_g1 hT_h0 (by simp))]; exact hFg
      refine W.widen (k := 0) (n := 0) (by omega) (by omega) ?_
      exact jn_7 r_97 F_127 (hF_129) hO hR _ _ hP hD hS ls (lv_sub hl [0, 1, 2, 3, 4, 5] rfl)
set_option maxHeartbeats 4000000 in
set_option maxRecDepth 100000 in
theorem s_X15_readTerm (l : Launch) (dC : Nat → ClassId) (dI : Nat → Nat → Nat) (cs : Nat → ClassId) (ty : TyM) (gm : Nat → Nat → Nat) (L : List Nat) (sz : Nat) (F : Nat → va_E) (h0 : Nat) (ρ : Nat) (ta : Nat) (ou : Nat) (so : Nat) (ad : Nat) (na : Nat) (va : Nat) (lc : Nat) (dm : Nat) (tg : Nat) (pe : Nat) (ml : Nat) (bg : Nat) (co : Nat) (sp : Nat) (nb0 : Nat) (nb1 : Nat) (nb2 : Nat) (pl : Nat) (se : Nat) (ke : Nat) (wi : Nat) (hs : Nat) (mo : Nat) (po : Nat) (nu : Nat) (pr : Nat) (sq : Nat) (xa : Nat) (sa : Nat) (n64 : Nat) (m64 : Nat) (ex : Nat) (wh : Nat) (sd : Nat) (tk : Nat) (hd : Nat) (ak : Nat) (ho : Nat) (ot : Nat) (sx : Nat) (s0 : Nat) (s1 : Nat) (s2 : Nat) (nf : Nat) (bd : Nat) (mm : Nat) (zo : Nat) (ze : Nat) (zt : Nat) (v11 : Int32) (v12 : Int32) (v14 : Int32) (v15 : Int32) (v17 : Int32) (v18 : Int32) (v19 : Int32) (v20 : Int32) (v21 : Int32) (v22 : Int32) (v33 : Int32) (v52 : Int32) (v53 : Int32) (v54 : Int32) (g1 : Nat) (μ : Nat) (fv : Nat → Int32) (a : Nat) (tt : Nat) (hW : WTm ty gm L) (hL_h0 : h0 ∈ L) (hT_h0 : ty h0 = (15, ρ, [ta, ou, so, ad, na, va, lc, dm, tg, pe, ml, bg, co, sp, nb0, nb1, nb2, pl, se, ke, wi, hs, mo, po, nu, pr, sq, xa, sa, n64, m64, ex, wh, sd, tk, hd, ak, ho, ot, sx, s0, s1, s2, nf, bd, mm, zo, ze, zt])) (hL_g1 : g1 ∈ L) (hT_g1 : ty g1 = (17, μ, [700])) (hF0 : F h0 = .inr (15, (.ref ta) :: (.int (nI zt)) :: (.int (nI zo)) :: (.int (nI ze)) :: (.ref ou) :: (.ref so) :: (.ref ad) :: (.ref na) :: (.ref va) :: (.ref lc) :: (.ref dm) :: (.int v11) :: (.int v12) :: (.ref tg) :: (.int v14) :: (.int v15) :: (.ref pe) :: (.int v17) :: (.int v18) :: (.int v19) :: (.int v20) :: (.int v21) :: (.int v22) :: (.ref ml) :: (.ref bg) :: (.ref co) :: (.ref sp) :: (.ref nb0) :: (.ref nb1) :: (.ref nb2) :: (.int (nI nf)) :: (.int (nI bd)) :: (.int (nI mm)) :: (.int v33) :: (.ref pl) :: (.ref se) :: (.ref ke) :: (.ref wi) :: (.ref hs) :: (.ref mo) :: (.ref po) :: (.ref nu) :: (.ref pr) :: (.ref sq) :: (.ref xa) :: (.ref sa) :: (.ref n64) :: (.ref m64) :: (.ref ex) :: (.ref wh) :: (.ref sd) :: (.ref tk) :: (.int v52) :: (.int v53) :: (.int v54) :: (.ref hd) :: (.ref ak) :: (.ref ho) :: (.ref ot) :: [])) (hzo : zo ≤ 6000) (hze : ze ≤ 40) (h33 : ((v33 = 0 ∧ nf = 0) ∨ (v33 = 1 ∧ 1 ≤ nf))) (h54 : (v54 = 0 ∨ v54 = 1)) (hFg : F g1 = .inl (cs 17, 700, .inl fv)) (hmu : ρ + 100 ≤ μ) (htn : tt ≤ 700) (ha : a < tt) : Met l yX15_readTerm (.code yX15_readTerm cX15_readTerm 7 none :: tb) ({ frames := 6, cells := 0, slots := 0, locals := 132 }) (va_Pc [.ref h0, .ref g1, .int (nI a), .int (nI tt)] (PTEm (dC, dI) cs ty gm L F sz [])) (va_Qv (fun _ : Unit => True) (fun _ T9 => ∃ F2 : Nat → va_E, ∃ u17 : Int32, ∃ u18 : Int32, ∃ u19 : Int32, ∃ u20 : Int32, ∃ u21 : Int32, ∃ u22 : Int32, QTm (dC, dI) cs ty gm L [ρ] F F2 (va_A (va_pl L F) sz) T9 ∧ F2 h0 = .inr (15, (.ref ta) :: (.int (nI zt)) :: (.int (nI zo)) :: (.int (nI ze)) :: (.ref ou) :: (.ref so) :: (.ref ad) :: (.ref na) :: (.ref va) :: (.ref lc) :: (.ref dm) :: (.int v11) :: (.int v12) :: (.ref tg) :: (.int v14) :: (.int v15) :: (.ref pe) :: (.int u17) :: (.int u18) :: (.int u19) :: (.int u20) :: (.int u21) :: (.int u22) :: (.ref ml) :: (.ref bg) :: (.ref co) :: (.ref sp) :: (.ref nb0) :: (.ref nb1) :: (.ref nb2) :: (.int (nI nf)) :: (.int (nI bd)) :: (.int (nI mm)) :: (.int v33) :: (.ref pl) :: (.ref se) :: (.ref ke) :: (.ref wi) :: (.ref hs) :: (.ref mo) :: (.ref po) :: (.ref nu) :: (.ref pr) :: (.ref sq) :: (.ref xa) :: (.ref sa) :: (.ref n64) :: (.ref m64) :: (.ref ex) :: (.ref wh) :: (.ref sd) :: (.ref tk) :: (.int v52) :: (.int v53) :: (.int v54) :: (.ref hd) :: (.ref ak) :: (.ref ho) :: (.ref ot) :: []) ∧ RTP fv a tt u17 u19 u20) (va_A (va_pl L F) sz)) 0 0 (va_A (va_pl L F) sz) := by
  refine Met.ofW (cc := cX15_readTerm) (maxL := 7) (ret := none) (by decide) rfl ?_
  intro p e s m args below meth c s₁ B hml hv
  obtain ⟨rfl, ⟨hsz, hP, hK, hD0, hE, hO⟩, hG, hX⟩ := hv
  have hx := B.exec
  have hb := B.bytes
  have hr := B.returns
  have hts : ∀ w ∈ tb, w.before _ s = true := fun w h => atoms_spec (ws := .code yX15_readTerm cX15_readTerm 7 none :: tb) B.pre w (List.mem_cons_of_mem _ h)
  have hown : s.vm.findClass RX15 = some m.cls := findClass_of_methodNamed B.named
  have hlocks := B.notSynchronized
  subst hsz
  have hD := hD0.self (sz := s.heap.size)
  generalize hAe : va_A (va_pl L F) s.heap.size = A at hD hG hX ⊢
  have hA : ∀ q : Nat, s.heap.size ≤ q → A q := fun q h => by rw [← hAe]; exact Or.inr h
  have hS : va_S A s.heap s.heap [] := va_S.rf
  have hR : FR ty [ρ] F F := FR.refl
  have hl := lv_entry ([.ref h0, .ref g1, .int (nI a), .int (nI tt)]) (n := 7) (Nat.le_of_ble_eq_true rfl)
  rw [lg_entry_eq]
  generalize (lg_sl ([.ref h0, .ref g1, .int (nI a), .int (nI tt)]) ++ List.replicate (7 - (lg_sl ([.ref h0, .ref g1, .int (nI a), .int (nI tt)])).length) Slot.unset).toArray = ls at hl ⊢
  have hl : lv_has ls 7 [(0, .ref h0), (1, .ref g1), (2, .int (nI a)), (3, .int (nI tt))] := hl
  refine lv_iload_n hx hb dX15_readTerm_0 rfl (lv_at hl 2 rfl) ?_
  refine lv_istore (lv' := [(4, .int (nI a)), (0, .ref h0), (1, .ref g1), (2, .int (nI a)), (3, .int (nI tt))]) hx hb dX15_readTerm_1 hl (by decide) rfl (fun ls hl => ?_)
  refine lv_aload_n hx hb dX15_readTerm_3 rfl (lv_at hl 1 rfl) ?_
  refine lv_bipush (v := 43) hx hb dX15_readTerm_4 (by decide) ?_
  obtain ⟨hq_23, hq_24, hq_25, hq_26, hq_27, hgO, hgA, hgB⟩ := hW.sc hL_h0 hT_h0
  refine pg_put (ci := 15) (v := .int 43) (ty := .int) (C := RX15) (T := TX15) (N := 59) hx hb hts it_15 tyX15 tyX15_ok nmX15 hown hK hP hD hS hL_h0 hF0 rfl 18 (by decide) (hts _ kt_749) (fun _ h9 => h9) rfl (by decide +kernel) (rfl) (rfl) (Nat.le_of_ble_eq_true rfl) dX15_readTerm_6 (fun H locs hP hD hS => ?_)
  obtain ⟨F_28, he_29, hP, hD, hO, hR⟩ : ∃ G, G = va_up F h0 (.inr (15, (.ref ta) :: (.int (nI zt)) :: (.int (nI zo)) :: (.int (nI ze)) :: (.ref ou) :: (.ref so) :: (.ref ad) :: (.ref na) :: (.ref va) :: (.ref lc) :: (.ref dm) :: (.int v11) :: (.int v12) :: (.ref tg) :: (.int v14) :: (.int v15) :: (.ref pe) :: (.int v17) :: (.int 43) :: (.int v19) :: (.int v20) :: (.int v21) :: (.int v22) :: (.ref ml) :: (.ref bg) :: (.ref co) :: (.ref sp) :: (.ref nb0) :: (.ref nb1) :: (.ref nb2) :: (.int (nI nf)) :: (.int (nI bd)) :: (.int (nI mm)) :: (.int v33) :: (.ref pl) :: (.ref se) :: (.ref ke) :: (.ref wi) :: (.ref hs) :: (.ref mo) :: (.ref po) :: (.ref nu) :: (.ref pr) :: (.ref sq) :: (.ref xa) :: (.ref sa) :: (.ref n64) :: (.ref m64) :: (.ref ex) :: (.ref wh) :: (.ref sd) :: (.ref tk) :: (.int v52) :: (.int v53) :: (.int v54) :: (.ref hd) :: (.ref ak) :: (.ref ho) :: (.ref ot) :: [])) ∧ va_P (dC, dI) vwCl (va_pl L G) H ∧ va_D A (va_pl L G) ∧ OKm cs ty gm L G ∧ FR ty [ρ] F G := ⟨_, rfl, hP, hD, hO.up (shm.mod hT_h0 ⟨v11, v12, v14, v15, v17, 43, v19, v20, v21, v22, v33, v52, v53, v54, rfl, (by first | omega | assumption | exact Or.inl rfl | exact Or.inr rfl), (by first | omega | assumption | exact Or.inl rfl | exact Or.inr rfl), (by first | omega | assumption | exact Or.inl rfl | exact Or.inr rfl), (by first | omega | assumption | exact Or.inl rfl | exact Or.inr rfl)⟩), hR.up hT_h0 (by simp)⟩
  have hF_30 : F_28 h0 = .inr (15, (.ref ta) :: (.int (nI zt)) :: (.int (nI zo)) :: (.int (nI ze)) :: (.ref ou) :: (.ref so) :: (.ref ad) :: (.ref na) :: (.ref va) :: (.ref lc) :: (.ref dm) :: (.int v11) :: (.int v12) :: (.ref tg) :: (.int v14) :: (.int v15) :: (.ref pe) :: (.int v17) :: (.int 43) :: (.int v19) :: (.int v20) :: (.int v21) :: (.int v22) :: (.ref ml) :: (.ref bg) :: (.ref co) :: (.ref sp) :: (.ref nb0) :: (.ref nb1) :: (.ref nb2) :: (.int (nI nf)) :: (.int (nI bd)) :: (.int (nI mm)) :: (.int v33) :: (.ref pl) :: (.ref se) :: (.ref ke) :: (.ref wi) :: (.ref hs) :: (.ref mo) :: (.ref po) :: (.ref nu) :: (.ref pr) :: (.ref sq) :: (.ref xa) :: (.ref sa) :: (.ref n64) :: (.ref m64) :: (.ref ex) :: (.ref wh) :: (.ref sd) :: (.ref tk) :: (.int v52) :: (.int v53) :: (.int v54) :: (.ref hd) :: (.ref ak) :: (.ref ho) :: (.ref ot) :: []) := by rw [he_29]; exact up_self
  have hF_31 : F_28 g1 = .inl (cs 17, 700, .inl fv) := by rw [he_29, up_ne (ne_ty hT_g1 hT_h0 (by simp))]; exact hFg
  refine lv_aload_n hx hb dX15_readTerm_9 rfl (lv_at hl 1 rfl) ?_
  refine lv_bipush (v := 8) hx hb dX15_readTerm_10 (by decide) ?_
  refine pg_put (ci := 15) (v := .int 8) (ty := .int) (C := RX15) (T := TX15) (N := 59) hx hb hts it_15 tyX15 tyX15_ok nmX15 hown hK hP hD hS hL_h0 hF_30 rfl 17 (by decide) (hts _ kt_740) (fun _ h9 => h9) rfl (by decide +kernel) (rfl) (rfl) (Nat.le_of_ble_eq_true rfl) dX15_readTerm_12 (fun H locs hP hD hS => ?_)
  obtain ⟨F_32, he_33, hP, hD, hO, hR⟩ : ∃ G, G = va_up F_28 h0 (.inr (15, (.ref ta) :: (.int (nI zt)) :: (.int (nI zo)) :: (.int (nI ze)) :: (.ref ou) :: (.ref so) :: (.ref ad) :: (.ref na) :: (.ref va) :: (.ref lc) :: (.ref dm) :: (.int v11) :: (.int v12) :: (.ref tg) :: (.int v14) :: (.int v15) :: (.ref pe) :: (.int 8) :: (.int 43) :: (.int v19) :: (.int v20) :: (.int v21) :: (.int v22) :: (.ref ml) :: (.ref bg) :: (.ref co) :: (.ref sp) :: (.ref nb0) :: (.ref nb1) :: (.ref nb2) :: (.int (nI nf)) :: (.int (nI bd)) :: (.int (nI mm)) :: (.int v33) :: (.ref pl) :: (.ref se) :: (.ref ke) :: (.ref wi) :: (.ref hs) :: (.ref mo) :: (.ref po) :: (.ref nu) :: (.ref pr) :: (.ref sq) :: (.ref xa) :: (.ref sa) :: (.ref n64) :: (.ref m64) :: (.ref ex) :: (.ref wh) :: (.ref sd) :: (.ref tk) :: (.int v52) :: (.int v53) :: (.int v54) :: (.ref hd) :: (.ref ak) :: (.ref ho) :: (.ref ot) :: [])) ∧ va_P (dC, dI) vwCl (va_pl L G) H ∧ va_D A (va_pl L G) ∧ OKm cs ty gm L G ∧ FR ty [ρ] F G := ⟨_, rfl, hP, hD, hO.up (shm.mod hT_h0 ⟨v11, v12, v14, v15, 8, 43, v19, v20, v21, v22, v33, v52, v53, v54, rfl, (by first | omega | assumption | exact Or.inl rfl | exact Or.inr rfl), (by first | omega | assumption | exact Or.inl rfl | exact Or.inr rfl), (by first | omega | assumption | exact Or.inl rfl | exact Or.inr rfl), (by first | omega | assumption | exact Or.inl rfl | exact Or.inr rfl)⟩), hR.up hT_h0 (by simp)⟩
  have hF_34 : F_32 h0 = .inr (15, (.ref ta) :: (.int (nI zt)) :: (.int (nI zo)) :: (.int (nI ze)) :: (.ref ou) :: (.ref so) :: (.ref ad) :: (.ref na) :: (.ref va) :: (.ref lc) :: (.ref dm) :: (.int v11) :: (.int v12) :: (.ref tg) :: (.int v14) :: (.int v15) :: (.ref pe) :: (.int 8) :: (.int 43) :: (.int v19) :: (.int v20) :: (.int v21) :: (.int v22) :: (.ref ml) :: (.ref bg) :: (.ref co) :: (.ref sp) :: (.ref nb0) :: (.ref nb1) :: (.ref nb2) :: (.int (nI nf)) :: (.int (nI bd)) :: (.int (nI mm)) :: (.int v33) :: (.ref pl) :: (.ref se) :: (.ref ke) :: (.ref wi) :: (.ref hs) :: (.ref mo) :: (.ref po) :: (.ref nu) :: (.ref pr) :: (.ref sq) :: (.ref xa) :: (.ref sa) :: (.ref n64) :: (.ref m64) :: (.ref ex) :: (.ref wh) :: (.ref sd) :: (.ref tk) :: (.int v52) :: (.int v53) :: (.int v54) :: (.ref hd) :: (.ref ak) :: (.ref ho) :: (.ref ot) :: []) := by rw [he_33]; exact up_self
  have hF_35 : F_32 g1 = .inl (cs 17, 700, .inl fv) := by rw [he_33, up_ne (ne_ty hT_g1 hT_h0 (by simp))]; exact hF_31
  refine lv_aload_n hx hb dX15_readTerm_15 rfl (lv_at hl 1 rfl) ?_
  refine lv_iconst (v := (-1)) hx hb dX15_readTerm_16 (by decide) ?_
  refine pg_put (ci := 15) (v := .int (-1)) (ty := .int) (C := RX15) (T := TX15) (N := 59) hx hb hts it_15 tyX15 tyX15_ok nmX15 hown hK hP hD hS hL_h0 hF_34 rfl 19 (by decide) (hts _ kt_741) (fun _ h9 => h9) rfl (by decide +kernel) (rfl) (rfl) (Nat.le_of_ble_eq_true rfl) dX15_readTerm_17 (fun H locs hP hD hS => ?_)
  obtain ⟨F_36, he_37, hP, hD, hO, hR⟩ : ∃ G, G = va_up F_32 h0 (.inr (15, (.ref ta) :: (.int (nI zt)) :: (.int (nI zo)) :: (.int (nI ze)) :: (.ref ou) :: (.ref so) :: (.ref ad) :: (.ref na) :: (.ref va) :: (.ref lc) :: (.ref dm) :: (.int v11) :: (.int v12) :: (.ref tg) :: (.int v14) :: (.int v15) :: (.ref pe) :: (.int 8) :: (.int 43) :: (.int (-1)) :: (.int v20) :: (.int v21) :: (.int v22) :: (.ref ml) :: (.ref bg) :: (.ref co) :: (.ref sp) :: (.ref nb0) :: (.ref nb1) :: (.ref nb2) :: (.int (nI nf)) :: (.int (nI bd)) :: (.int (nI mm)) :: (.int v33) :: (.ref pl) :: (.ref se) :: (.ref ke) :: (.ref wi) :: (.ref hs) :: (.ref mo) :: (.ref po) :: (.ref nu) :: (.ref pr) :: (.ref sq) :: (.ref xa) :: (.ref sa) :: (.ref n64) :: (.ref m64) :: (.ref ex) :: (.ref wh) :: (.ref sd) :: (.ref tk) :: (.int v52) :: (.int v53) :: (.int v54) :: (.ref hd) :: (.ref ak) :: (.ref ho) :: (.ref ot) :: [])) ∧ va_P (dC, dI) vwCl (va_pl L G) H ∧ va_D A (va_pl L G) ∧ OKm cs ty gm L G ∧ FR ty [ρ] F G := ⟨_, rfl, hP, hD, hO.up (shm.mod hT_h0 ⟨v11, v12, v14, v15, 8, 43, (-1), v20, v21, v22, v33, v52, v53, v54, rfl, (by first | omega | assumption | exact Or.inl rfl | exact Or.inr rfl), (by first | omega | assumption | exact Or.inl rfl | exact Or.inr rfl), (by first | omega | assumption | exact Or.inl rfl | exact Or.inr rfl), (by first | omega | assumption | exact Or.inl rfl | exact Or.inr rfl)⟩), hR.up hT_h0 (by simp)⟩
  have hF_38 : F_36 h0 = .inr (15, (.ref ta) :: (.int (nI zt)) :: (.int (nI zo)) :: (.int (nI ze)) :: (.ref ou) :: (.ref so) :: (.ref ad) :: (.ref na) :: (.ref va) :: (.ref lc) :: (.ref dm) :: (.int v11) :: (.int v12) :: (.ref tg) :: (.int v14) :: (.int v15) :: (.ref pe) :: (.int 8) :: (.int 43) :: (.int (-1)) :: (.int v20) :: (.int v21) :: (.int v22) :: (.ref ml) :: (.ref bg) :: (.ref co) :: (.ref sp) :: (.ref nb0) :: (.ref nb1) :: (.ref nb2) :: (.int (nI nf)) :: (.int (nI bd)) :: (.int (nI mm)) :: (.int v33) :: (.ref pl) :: (.ref se) :: (.ref ke) :: (.ref wi) :: (.ref hs) :: (.ref mo) :: (.ref po) :: (.ref nu) :: (.ref pr) :: (.ref sq) :: (.ref xa) :: (.ref sa) :: (.ref n64) :: (.ref m64) :: (.ref ex) :: (.ref wh) :: (.ref sd) :: (.ref tk) :: (.int v52) :: (.int v53) :: (.int v54) :: (.ref hd) :: (.ref ak) :: (.ref ho) :: (.ref ot) :: []) := by rw [he_37]; exact up_self
  have hF_39 : F_36 g1 = .inl (cs 17, 700, .inl fv) := by rw [he_37, up_ne (ne_ty hT_g1 hT_h0 (by simp))]; exact hF_35
  refine lv_aload_n hx hb dX15_readTerm_20 rfl (lv_at hl 1 rfl) ?_
  refine lv_iconst (v := (-1)) hx hb dX15_readTerm_21 (by decide) ?_
  refine pg_put (ci := 15) (v := .int (-1)) (ty := .int) (C := RX15) (T := TX15) (N := 59) hx hb hts it_15 tyX15 tyX15_ok nmX15 hown hK hP hD hS hL_h0 hF_38 rfl 20 (by decide) (hts _ kt_742) (fun _ h9 => h9) rfl (by decide +kernel) (rfl) (rfl) (Nat.le_of_ble_eq_true rfl) dX15_readTerm_22 (fun H locs hP hD hS => ?_)
  obtain ⟨F_40, he_41, hP, hD, hO, hR⟩ : ∃ G, G = va_up F_36 h0 (.inr (15, (.ref ta) :: (.int (nI zt)) :: (.int (nI zo)) :: (.int (nI ze)) :: (.ref ou) :: (.ref so) :: (.ref ad) :: (.ref na) :: (.ref va) :: (.ref lc) :: (.ref dm) :: (.int v11) :: (.int v12) :: (.ref tg) :: (.int v14) :: (.int v15) :: (.ref pe) :: (.int 8) :: (.int 43) :: (.int (-1)) :: (.int (-1)) :: (.int v21) :: (.int v22) :: (.ref ml) :: (.ref bg) :: (.ref co) :: (.ref sp) :: (.ref nb0) :: (.ref nb1) :: (.ref nb2) :: (.int (nI nf)) :: (.int (nI bd)) :: (.int (nI mm)) :: (.int v33) :: (.ref pl) :: (.ref se) :: (.ref ke) :: (.ref wi) :: (.ref hs) :: (.ref mo) :: (.ref po) :: (.ref nu) :: (.ref pr) :: (.ref sq) :: (.ref xa) :: (.ref sa) :: (.ref n64) :: (.ref m64) :: (.ref ex) :: (.ref wh) :: (.ref sd) :: (.ref tk) :: (.int v52) :: (.int v53) :: (.int v54) :: (.ref hd) :: (.ref ak) :: (.ref ho) :: (.ref ot) :: [])) ∧ va_P (dC, dI) vwCl (va_pl L G) H ∧ va_D A (va_pl L G) ∧ OKm cs ty gm L G ∧ FR ty [ρ] F G := ⟨_, rfl, hP, hD, hO.up (shm.mod hT_h0 ⟨v11, v12, v14, v15, 8, 43, (-1), (-1), v21, v22, v33, v52, v53, v54, rfl, (by first | omega | assumption | exact Or.inl rfl | exact Or.inr rfl), (by first | omega | assumption | exact Or.inl rfl | exact Or.inr rfl), (by first | omega | assumption | exact Or.inl rfl | exact Or.inr rfl), (by first | omega | assumption | exact Or.inl rfl | exact Or.inr rfl)⟩), hR.up hT_h0 (by simp)⟩
  have hF_42 : F_40 h0 = .inr (15, (.ref ta) :: (.int (nI zt)) :: (.int (nI zo)) :: (.int (nI ze)) :: (.ref ou) :: (.ref so) :: (.ref ad) :: (.ref na) :: (.ref va) :: (.ref lc) :: (.ref dm) :: (.int v11) :: (.int v12) :: (.ref tg) :: (.int v14) :: (.int v15) :: (.ref pe) :: (.int 8) :: (.int 43) :: (.int (-1)) :: (.int (-1)) :: (.int v21) :: (.int v22) :: (.ref ml) :: (.ref bg) :: (.ref co) :: (.ref sp) :: (.ref nb0) :: (.ref nb1) :: (.ref nb2) :: (.int (nI nf)) :: (.int (nI bd)) :: (.int (nI mm)) :: (.int v33) :: (.ref pl) :: (.ref se) :: (.ref ke) :: (.ref wi) :: (.ref hs) :: (.ref mo) :: (.ref po) :: (.ref nu) :: (.ref pr) :: (.ref sq) :: (.ref xa) :: (.ref sa) :: (.ref n64) :: (.ref m64) :: (.ref ex) :: (.ref wh) :: (.ref sd) :: (.ref tk) :: (.int v52) :: (.int v53) :: (.int v54) :: (.ref hd) :: (.ref ak) :: (.ref ho) :: (.ref ot) :: []) := by rw [he_41]; exact up_self
  have hF_43 : F_40 g1 = .inl (cs 17, 700, .inl fv) := by rw [he_41, up_ne (ne_ty hT_g1 hT_h0 (by simp))]; exact hF_39
  refine lv_aload_n hx hb dX15_readTerm_25 rfl (lv_at hl 1 rfl) ?_
  refine lv_bipush (v := 32) hx hb dX15_readTerm_26 (by decide) ?_
  refine pg_put (ci := 15) (v := .int 32) (ty := .int) (C := RX15) (T := TX15) (N := 59) hx hb hts it_15 tyX15 tyX15_ok nmX15 hown hK hP hD hS hL_h0 hF_42 rfl 21 (by decide) (hts _ kt_739) (fun _ h9 => h9) rfl (by decide +kernel) (rfl) (rfl) (Nat.le_of_ble_eq_true rfl) dX15_readTerm_28 (fun H locs hP hD hS => ?_)
  obtain ⟨F_44, he_45, hP, hD, hO, hR⟩ : ∃ G, G = va_up F_40 h0 (.inr (15, (.ref ta) :: (.int (nI zt)) :: (.int (nI zo)) :: (.int (nI ze)) :: (.ref ou) :: (.ref so) :: (.ref ad) :: (.ref na) :: (.ref va) :: (.ref lc) :: (.ref dm) :: (.int v11) :: (.int v12) :: (.ref tg) :: (.int v14) :: (.int v15) :: (.ref pe) :: (.int 8) :: (.int 43) :: (.int (-1)) :: (.int (-1)) :: (.int 32) :: (.int v22) :: (.ref ml) :: (.ref bg) :: (.ref co) :: (.ref sp) :: (.ref nb0) :: (.ref nb1) :: (.ref nb2) :: (.int (nI nf)) :: (.int (nI bd)) :: (.int (nI mm)) :: (.int v33) :: (.ref pl) :: (.ref se) :: (.ref ke) :: (.ref wi) :: (.ref hs) :: (.ref mo) :: (.ref po) :: (.ref nu) :: (.ref pr) :: (.ref sq) :: (.ref xa) :: (.ref sa) :: (.ref n64) :: (.ref m64) :: (.ref ex) :: (.ref wh) :: (.ref sd) :: (.ref tk) :: (.int v52) :: (.int v53) :: (.int v54) :: (.ref hd) :: (.ref ak) :: (.ref ho) :: (.ref ot) :: [])) ∧ va_P (dC, dI) vwCl (va_pl L G) H ∧ va_D A (va_pl L G) ∧ OKm cs ty gm L G ∧ FR ty [ρ] F G := ⟨_, rfl, hP, hD, hO.up (shm.mod hT_h0 ⟨v11, v12, v14, v15, 8, 43, (-1), (-1), 32, v22, v33, v52, v53, v54, rfl, (by first | omega | assumption | exact Or.inl rfl | exact Or.inr rfl), (by first | omega | assumption | exact Or.inl rfl | exact Or.inr rfl), (by first | omega | assumption | exact Or.inl rfl | exact Or.inr rfl), (by first | omega | assumption | exact Or.inl rfl | exact Or.inr rfl)⟩), hR.up hT_h0 (by simp)⟩
  have hF_46 : F_44 h0 = .inr (15, (.ref ta) :: (.int (nI zt)) :: (.int (nI zo)) :: (.int (nI ze)) :: (.ref ou) :: (.ref so) :: (.ref ad) :: (.ref na) :: (.ref va) :: (.ref lc) :: (.ref dm) :: (.int v11) :: (.int v12) :: (.ref tg) :: (.int v14) :: (.int v15) :: (.ref pe) :: (.int 8) :: (.int 43) :: (.int (-1)) :: (.int (-1)) :: (.int 32) :: (.int v22) :: (.ref ml) :: (.ref bg) :: (.ref co) :: (.ref sp) :: (.ref nb0) :: (.ref nb1) :: (.ref nb2) :: (.int (nI nf)) :: (.int (nI bd)) :: (.int (nI mm)) :: (.int v33) :: (.ref pl) :: (.ref se) :: (.ref ke) :: (.ref wi) :: (.ref hs) :: (.ref mo) :: (.ref po) :: (.ref nu) :: (.ref pr) :: (.ref sq) :: (.ref xa) :: (.ref sa) :: (.ref n64) :: (.ref m64) :: (.ref ex) :: (.ref wh) :: (.ref sd) :: (.ref tk) :: (.int v52) :: (.int v53) :: (.int v54) :: (.ref hd) :: (.ref ak) :: (.ref ho) :: (.ref ot) :: []) := by rw [he_45]; exact up_self
  have hF_47 : F_44 g1 = .inl (cs 17, 700, .inl fv) := by rw [he_45, up_ne (ne_ty hT_g1 hT_h0 (by simp))]; exact hF_43
  have hF_50 : F g1 = .inl (cs 17, 700, .inl fv) := (hR g1 (by rw [hT_g1]; simp only [List.mem_cons, List.not_mem_nil, or_false]; omega)).symm.trans hF_47
  refine W.widen (k := 0) (n := 0) (by omega) (by omega) ?_
  refine pl_cutm (σ := Int32) A (dC, dI) cs ty gm L [ρ] F 72 7 (fun s5 => [(4, .int (nI a)), (0, .ref h0), (1, .ref g1), (2, .int (nI a)), (3, .int (nI tt))]) (fun s5 => [.int s5]) (fun s5 FF => (s5 = 0 ∨ (s5 = 1 ∧ fv a ≠ 114)) ∧ FF h0 = .inr (15, (.ref ta) :: (.int (nI zt)) :: (.int (nI zo)) :: (.int (nI ze)) :: (.ref ou) :: (.ref so) :: (.ref ad) :: (.ref na) :: (.ref va) :: (.ref lc) :: (.ref dm) :: (.int v11) :: (.int v12) :: (.ref tg) :: (.int v14) :: (.int v15) :: (.ref pe) :: (.int 8) :: (.int 43) :: (.int (-1)) :: (.int (-1)) :: (.int 32) :: (.int v22) :: (.ref ml) :: (.ref bg) :: (.ref co) :: (.ref sp) :: (.ref nb0) :: (.ref nb1) :: (.ref nb2) :: (.int (nI nf)) :: (.int (nI bd)) :: (.int (nI mm)) :: (.int v33) :: (.ref pl) :: (.ref se) :: (.ref ke) :: (.ref wi) :: (.ref hs) :: (.ref mo) :: (.ref po) :: (.ref nu) :: (.ref pr) :: (.ref sq) :: (.ref xa) :: (.ref sa) :: (.ref n64) :: (.ref m64) :: (.ref ex) :: (.ref wh) :: (.ref sd) :: (.ref tk) :: (.int v52) :: (.int v53) :: (.int v54) :: (.ref hd) :: (.ref ak) :: (.ref ho) :: (.ref ot) :: [])) ?_ (fun jn_48 => ?_)
  ·
    rintro s5 F_49 hv_51 hO hR H locs hP hD hS ls hl
    have hl : lv_has ls 7 [(4, .int (nI a)), (0, .ref h0), (1, .ref g1), (2, .int (nI a)), (3, .int (nI tt))] := hl
    have hv_51 : (s5 = 0 ∨ (s5 = 1 ∧ fv a ≠ 114)) ∧ F_49 h0 = .inr (15, (.ref ta) :: (.int (nI zt)) :: (.int (nI zo)) :: (.int (nI ze)) :: (.ref ou) :: (.ref so) :: (.ref ad) :: (.ref na) :: (.ref va) :: (.ref lc) :: (.ref dm) :: (.int v11) :: (.int v12) :: (.ref tg) :: (.int v14) :: (.int v15) :: (.ref pe) :: (.int 8) :: (.int 43) :: (.int (-1)) :: (.int (-1)) :: (.int 32) :: (.int v22) :: (.ref ml) :: (.ref bg) :: (.ref co) :: (.ref sp) :: (.ref nb0) :: (.ref nb1) :: (.ref nb2) :: (.int (nI nf)) :: (.int (nI bd)) :: (.int (nI mm)) :: (.int v33) :: (.ref pl) :: (.ref se) :: (.ref ke) :: (.ref wi) :: (.ref hs) :: (.ref mo) :: (.ref po) :: (.ref nu) :: (.ref pr) :: (.ref sq) :: (.ref xa) :: (.ref sa) :: (.ref n64) :: (.ref m64) :: (.ref ex) :: (.ref wh) :: (.ref sd) :: (.ref tk) :: (.int v52) :: (.int v53) :: (.int v54) :: (.ref hd) :: (.ref ak) :: (.ref ho) :: (.ref ot) :: []) := hv_51
    refine W.eq (g2 := F0 m 72 ls [.int s5]) rfl ?_
    have hF_52 : F_49 g1 = .inl (cs 17, 700, .inl fv) := (hR g1 (by rw [hT_g1]; simp only [List.mem_cons, List.not_mem_nil, or_false]; omega)).trans hF_50
    obtain ⟨hs5, hs5h⟩ := hv_51
    refine lv_istore (lv' := [(5, .int s5), (4, .int (nI a)), (0, .ref h0), (1, .ref g1), (2, .int (nI a)), (3, .int (nI tt))]) hx hb dX15_readTerm_72 hl (by decide) rfl (fun ls hl => ?_)
    have hF_55 : F g1 = .inl (cs 17, 700, .inl fv) := (hR g1 (by rw [hT_g1]; simp only [List.mem_cons, List.not_mem_nil, or_false]; omega)).symm.trans hF_52
    refine W.widen (k := 0) (n := 0) (by omega) (by omega) ?_
    refine pl_cutm (σ := Int32 × Int32) A (dC, dI) cs ty gm L [ρ] F 90 7 (fun (k4, q18) => [(5, .int s5), (4, .int k4), (0, .ref h0), (1, .ref g1), (2, .int (nI a)), (3, .int (nI tt))]) (fun (k4, q18) => []) (fun (k4, q18) FF => (∃ kk : Nat, k4 = nI kk ∧ a ≤ kk ∧ kk ≤ tt ∧ (s5 = 0 → kk = a)) ∧ FF h0 = .inr (15, (.ref ta) :: (.int (nI zt)) :: (.int (nI zo)) :: (.int (nI ze)) :: (.ref ou) :: (.ref so) :: (.ref ad) :: (.ref na) :: (.ref va) :: (.ref lc) :: (.ref dm) :: (.int v11) :: (.int v12) :: (.ref tg) :: (.int v14) :: (.int v15) :: (.ref pe) :: (.int 8) :: (.int q18) :: (.int (-1)) :: (.int (-1)) :: (.int 32) :: (.int v22) :: (.ref ml) :: (.ref bg) :: (.ref co) :: (.ref sp) :: (.ref nb0) :: (.ref nb1) :: (.ref nb2) :: (.int (nI nf)) :: (.int (nI bd)) :: (.int (nI mm)) :: (.int v33) :: (.ref pl) :: (.ref se) :: (.ref ke) :: (.ref wi) :: (.ref hs) :: (.ref mo) :: (.ref po) :: (.ref nu) :: (.ref pr) :: (.ref sq) :: (.ref xa) :: (.ref sa) :: (.ref n64) :: (.ref m64) :: (.ref ex) :: (.ref wh) :: (.ref sd) :: (.ref tk) :: (.int v52) :: (.int v53) :: (.int v54) :: (.ref hd) :: (.ref ak) :: (.ref ho) :: (.ref ot) :: [])) ?_ (fun jn_53 => ?_)
    ·
      rintro ⟨k4, q18⟩ F_54 hv_56 hO hR H locs hP hD hS ls hl
      have hl : lv_has ls 7 [(5, .int s5), (4, .int k4), (0, .ref h0), (1, .ref g1), (2, .int (nI a)), (3, .int (nI tt))] := hl
      have hv_56 : (∃ kk : Nat, k4 = nI kk ∧ a ≤ kk ∧ kk ≤ tt ∧ (s5 = 0 → kk = a)) ∧ F_54 h0 = .inr (15, (.ref ta) :: (.int (nI zt)) :: (.int (nI zo)) :: (.int (nI ze)) :: (.ref ou) :: (.ref so) :: (.ref ad) :: (.ref na) :: (.ref va) :: (.ref lc) :: (.ref dm) :: (.int v11) :: (.int v12) :: (.ref tg) :: (.int v14) :: (.int v15) :: (.ref pe) :: (.int 8) :: (.int q18) :: (.int (-1)) :: (.int (-1)) :: (.int 32) :: (.int v22) :: (.ref ml) :: (.ref bg) :: (.ref co) :: (.ref sp) :: (.ref nb0) :: (.ref nb1) :: (.ref nb2) :: (.int (nI nf)) :: (.int (nI bd)) :: (.int (nI mm)) :: (.int v33) :: (.ref pl) :: (.ref se) :: (.ref ke) :: (.ref wi) :: (.ref hs) :: (.ref mo) :: (.ref po) :: (.ref nu) :: (.ref pr) :: (.ref sq) :: (.ref xa) :: (.ref sa) :: (.ref n64) :: (.ref m64) :: (.ref ex) :: (.ref wh) :: (.ref sd) :: (.ref tk) :: (.int v52) :: (.int v53) :: (.int v54) :: (.ref hd) :: (.ref ak) :: (.ref ho) :: (.ref ot) :: []) := hv_56
      refine W.eq (g2 := F0 m 90 ls []) rfl ?_
      have hF_57 : F_54 g1 = .inl (cs 17, 700, .inl fv) := (hR g1 (by rw [hT_g1]; simp only [List.mem_cons, List.not_mem_nil, or_false]; omega)).trans hF_55
      obtain ⟨⟨kk, ek, hk1a, hk2a, hk3a⟩, hk4a⟩ := hv_56
      subst ek
      have hF_60 : F g1 = .inl (cs 17, 700, .inl fv) := (hR g1 (by rw [hT_g1]; simp only [List.mem_cons, List.not_mem_nil, or_false]; omega)).symm.trans hF_57
      refine W.widen (k := 0) (n := 0) (by omega) (by omega) ?_
      refine pl_cutm (σ := Int32 × Int32 × Int32 × Int32 × Int32) A (dC, dI) cs ty gm L [ρ] F 392 7 (fun (q17, q19, q20, q21, q22) => [(5, .int s5), (4, .int (nI kk)), (0, .ref h0), (1, .ref g1), (2, .int (nI a)), (3, .int (nI tt))]) (fun (q17, q19, q20, q21, q22) => []) (fun (q17, q19, q20, q21, q22) FF => FF h0 = .inr (15, (.ref ta) :: (.int (nI zt)) :: (.int (nI zo)) :: (.int (nI ze)) :: (.ref ou) :: (.ref so) :: (.ref ad) :: (.ref na) :: (.ref va) :: (.ref lc) :: (.ref dm) :: (.int v11) :: (.int v12) :: (.ref tg) :: (.int v14) :: (.int v15) :: (.ref pe) :: (.int q17) :: (.int q18) :: (.int q19) :: (.int q20) :: (.int q21) :: (.int q22) :: (.ref ml) :: (.ref bg) :: (.ref co) :: (.ref sp) :: (.ref nb0) :: (.ref nb1) :: (.ref nb2) :: (.int (nI nf)) :: (.int (nI bd)) :: (.int (nI mm)) :: (.int v33) :: (.ref pl) :: (.ref se) :: (.ref ke) :: (.ref wi) :: (.ref hs) :: (.ref mo) :: (.ref po) :: (.ref nu) :: (.ref pr) :: (.ref sq) :: (.ref xa) :: (.ref sa) :: (.ref n64) :: (.ref m64) :: (.ref ex) :: (.ref wh) :: (.ref sd) :: (.ref tk) :: (.int v52) :: (.int v53) :: (.int v54) :: (.ref hd) :: (.ref ak) :: (.ref ho) :: (.ref ot) :: []) ∧ (q17 = 8 ∨ ((q17 = 0 ∨ q17 = 1 ∨ q17 = 2 ∨ q17 = 3 ∨ q17 = 4 ∨ q17 = 5) ∧ DOK fv tt q19 q20)) ∧ (s5 = 0 → fv a = 114 → q17 = 8)) ?_ (fun jn_58 => ?_)
      ·
        rintro ⟨q17, q19, q20, q21, q22⟩ F_59 hv_61 hO hR H locs hP hD hS ls hl
        have hl : lv_has ls 7 [(5, .int s5), (4, .int (nI kk)), (0, .ref h0), (1, .ref g1), (2, .int (nI a)), (3, .int (nI tt))] := hl
        have hv_61 : F_59 h0 = .inr (15, (.ref ta) :: (.int (nI zt)) :: (.int (nI zo)) :: (.int (nI ze)) :: (.ref ou) :: (.ref so) :: (.ref ad) :: (.ref na) :: (.ref va) :: (.ref lc) :: (.ref dm) :: (.int v11) :: (.int v12) :: (.ref tg) :: (.int v14) :: (.int v15) :: (.ref pe) :: (.int q17) :: (.int q18) :: (.int q19) :: (.int q20) :: (.int q21) :: (.int q22) :: (.ref ml) :: (.ref bg) :: (.ref co) :: (.ref sp) :: (.ref nb0) :: (.ref nb1) :: (.ref nb2) :: (.int (nI nf)) :: (.int (nI bd)) :: (.int (nI mm)) :: (.int v33) :: (.ref pl) :: (.ref se) :: (.ref ke) :: (.ref wi) :: (.ref hs) :: (.ref mo) :: (.ref po) :: (.ref nu) :: (.ref pr) :: (.ref sq) :: (.ref xa) :: (.ref sa) :: (.ref n64) :: (.ref m64) :: (.ref ex) :: (.ref wh) :: (.ref sd) :: (.ref tk) :: (.int v52) :: (.int v53) :: (.int v54) :: (.ref hd) :: (.ref ak) :: (.ref ho) :: (.ref ot) :: []) ∧ (q17 = 8 ∨ ((q17 = 0 ∨ q17 = 1 ∨ q17 = 2 ∨ q17 = 3 ∨ q17 = 4 ∨ q17 = 5) ∧ DOK fv tt q19 q20)) ∧ (s5 = 0 → fv a = 114 → q17 = 8) := hv_61
        refine W.eq (g2 := F0 m 392 ls []) rfl ?_
        have hF_62 : F_59 g1 = .inl (cs 17, 700, .inl fv) := (hR g1 (by rw [hT_g1]; simp only [List.mem_cons, List.not_mem_nil, or_false]; omega)).trans hF_60
        obtain ⟨hq1, hq2, hq3⟩ := hv_61
        refine lv_aload_n hx hb dX15_readTerm_392 rfl (lv_at hl 2 rfl) ?_
        refine pg_get (ci := 15) (v := .int q17) (C := RX15) (T := TX15) (N := 59) hx hb hts it_15 hown hK hP hL_h0 hq1 rfl 17 (by decide) (hts _ kt_740) (fun _ h9 => h9) rfl dX15_readTerm_393 ?_
        refine lv_bipush (v := 8) hx hb dX15_readTerm_396 (by decide) ?_
        refine lv_icmp_ne (tgt := 406) hx hb dX15_readTerm_398 (by decide) (fun c_63 => ?_) (fun c_63 => ?_)
        ·
          refine W.widen (k := 0) (n := 0) (by omega) (by omega) ?_
          exact W.vret hx hb hr (fun t ht hWm => ⟨⟨(), rfl, trivial, ⟨F_59, q17, q18, q19, q20, q21, q22, QTm.mk ht hP hD hO hR, hq1, ⟨(hq2.resolve_left c_63).2 |> fun h => Or.inr (Or.inr (Or.inr h)), fun h6 => absurd ((hq2.resolve_left c_63).1) (by rw [h6]; decide), fun h9 => (hs5.elim (fun h5 => absurd (hq3 h5 h9.c0) c_63) (fun h => absurd h9.c0 h.2))⟩⟩⟩, hS.F ht⟩) hS.2.2 dX15_readTerm_406
        ·
          refine lv_iload hx hb dX15_readTerm_401 (lv_at hl 0 rfl) ?_
          refine lv_if_eq (tgt := 407) hx hb dX15_readTerm_403 (by decide) (fun c_64 => ?_) (fun c_64 => ?_)
          ·
            have hs5z := c_64
            refine lv_aload_n hx hb dX15_readTerm_407 rfl (lv_at hl 3 rfl) ?_
            refine lv_iload hx hb dX15_readTerm_408 (lv_at hl 1 rfl) ?_
            refine lv_iload_n hx hb dX15_readTerm_410 rfl (lv_at hl 5 rfl) ?_
            obtain ⟨q_65, v_66, hr_q_65, hX_q_65⟩ := hG.2.2 ("PostGateModel", 282, "redirect=", [114, 101, 100, 105, 114, 101, 99, 116, 61]) (by decide +kernel)
            have hX_q_65 : SXc q_65 v_66 9 (cct [114, 101, 100, 105, 114, 101, 99, 116, 61]) A s s.heap := hX_q_65
            obtain ⟨xo_q_65, xc_q_65, xv_q_65, xt_q_65, xn_q_65⟩ := id hX_q_65
            have hr_q_65 : vk_R "PostGateModel" 282 "redirect=" q_65 s := hr_q_65
            refine va_ldcwS hx hb hown hr_q_65 dX15_readTerm_411 ?_
            obtain ⟨hq_67, hq_68⟩ := hW.octs hL_g1 hT_g1
            have hFc := pg_free hD hS hA
            refine va_calli (va_runS (As := [.ref g1, .int (nI kk), .int (nI tt), .ref q_65]) (rest := []) ⟨hx, hb, hml, hown, hts⟩ (s_X15_begins l dC dI cs ty gm L H.size F_59 g1 μ 700 q_65 v_66 9 (cct [114, 101, 100, 105, 114, 101, 99, 116, 61]) kk tt hW hL_g1 hT_g1 (by first | omega | assumption) (by first | omega | assumption)) ⟨callB_of 4 hts (gi kt_723) rfl rfl rfl (hts _ kt_659) (hts _ kt_724) (by decide +kernel) ⟨Nat.le_of_ble_eq_true rfl, Nat.le_of_ble_eq_true rfl⟩, (hts _ kt_725)⟩ ⟨fun a U g mk q => ⟨q.1, PTEm.calling q.2⟩, fun U hU hWm => ⟨rfl, PTEm.mk hU hWm hP hK hD hE hO hG (fun x hx => by rw [List.mem_singleton] at hx; subst hx; exact hX_q_65) hS hFc⟩⟩ rfl rfl hl.1 rfl (lv_room (Nat.le_of_ble_eq_true rfl)) dX15_readTerm_414 ⟨by show _ + 0 ≤ 0; omega, by show _ + 0 ≤ 0; omega⟩) hS (fun q _ h => hFc q h) hFc (fun r_69 u t H1 locs ht hvm hw hB hz1 hk1 hS => ?_)
            obtain ⟨F_70, hB1⟩ := hB
            obtain rfl : F_59 = F_70 := (funext (fun a => hB1.2.2.2 a List.not_mem_nil)).symm
            obtain ⟨hP, hD, hO, hR⟩ := QTm.back hB1 ht hFc hR (fun q h => absurd h List.not_mem_nil)
            generalize H1 = H at hP hS ⊢
            have hw : ((r_69 = 1 ∧ bgP (gA (F_59 g1)) kk tt (cct [114, 101, 100, 105, 114, 101, 99, 116, 61]) 9) ∨ (r_69 = 0 ∧ ¬ bgP (gA (F_59 g1)) kk tt (cct [114, 101, 100, 105, 114, 101, 99, 116, 61]) 9)) := hw
            have hw_71 := hw
            refine lv_if_eq (tgt := 457) hx hb dX15_readTerm_417 (by decide) (fun c_72 => ?_) (fun c_72 => ?_)
            ·
              refine lv_iload hx hb dX15_readTerm_457 (lv_at hl 1 rfl) ?_
              refine lv_istore (lv' := [(6, .int (nI kk)), (5, .int s5), (4, .int (nI kk)), (0, .ref h0), (1, .ref g1), (2, .int (nI a)), (3, .int (nI tt))]) hx hb dX15_readTerm_459 hl (by decide) rfl (fun ls hl => ?_)
              refine W.widen (k := 0) (n := 0) (by omega) (by omega) ?_
              have hF_74 : F g1 = .inl (cs 17, 700, .inl fv) := (hR g1 (by rw [hT_g1]; simp only [List.mem_cons, List.not_mem_nil, or_false]; omega)).symm.trans hF_62
              refine pl_loopm (σ := Nat) A (dC, dI) cs ty gm L [ρ] F 461 7 (fun j => [(6, .int (nI j)), (5, .int s5), (4, .int (nI kk)), (0, .ref h0), (1, .ref g1), (2, .int (nI a)), (3, .int (nI tt))]) (fun j => []) (fun j FF => kk ≤ j ∧ j ≤ tt ∧ FF h0 = .inr (15, (.ref ta) :: (.int (nI zt)) :: (.int (nI zo)) :: (.int (nI ze)) :: (.ref ou) :: (.ref so) :: (.ref ad) :: (.ref na) :: (.ref va) :: (.ref lc) :: (.ref dm) :: (.int v11) :: (.int v12) :: (.ref tg) :: (.int v14) :: (.int v15) :: (.ref pe) :: (.int q17) :: (.int q18) :: (.int q19) :: (.int q20) :: (.int q21) :: (.int q22) :: (.ref ml) :: (.ref bg) :: (.ref co) :: (.ref sp) :: (.ref nb0) :: (.ref nb1) :: (.ref nb2) :: (.int (nI nf)) :: (.int (nI bd)) :: (.int (nI mm)) :: (.int v33) :: (.ref pl) :: (.ref se) :: (.ref ke) :: (.ref wi) :: (.ref hs) :: (.ref mo) :: (.ref po) :: (.ref nu) :: (.ref pr) :: (.ref sq) :: (.ref xa) :: (.ref sa) :: (.ref n64) :: (.ref m64) :: (.ref ex) :: (.ref wh) :: (.ref sd) :: (.ref tk) :: (.int v52) :: (.int v53) :: (.int v54) :: (.ref hd) :: (.ref ak) :: (.ref ho) :: (.ref ot) :: [])) (fun j => tt - j) ?_ kk F_59 (⟨by omega, by omega, hq1⟩) hO hR _ _ hP hD hS ls (lv_sub hl [0, 1, 2, 3, 4, 5, 6] rfl)
              rintro j F_73 hv_75 hO hR ih_76 H locs hP hD hS ls hl
              have hl : lv_has ls 7 [(6, .int (nI j)), (5, .int s5), (4, .int (nI kk)), (0, .ref h0), (1, .ref g1), (2, .int (nI a)), (3, .int (nI tt))] := hl
              have hv_75 : kk ≤ j ∧ j ≤ tt ∧ F_73 h0 = .inr (15, (.ref ta) :: (.int (nI zt)) :: (.int (nI zo)) :: (.int (nI ze)) :: (.ref ou) :: (.ref so) :: (.ref ad) :: (.ref na) :: (.ref va) :: (.ref lc) :: (.ref dm) :: (.int v11) :: (.int v12) :: (.ref tg) :: (.int v14) :: (.int v15) :: (.ref pe) :: (.int q17) :: (.int q18) :: (.int q19) :: (.int q20) :: (.int q21) :: (.int q22) :: (.ref ml) :: (.ref bg) :: (.ref co) :: (.ref sp) :: (.ref nb0) :: (.ref nb1) :: (.ref nb2) :: (.int (nI nf)) :: (.int (nI bd)) :: (.int (nI mm)) :: (.int v33) :: (.ref pl) :: (.ref se) :: (.ref ke) :: (.ref wi) :: (.ref hs) :: (.ref mo) :: (.ref po) :: (.ref nu) :: (.ref pr) :: (.ref sq) :: (.ref xa) :: (.ref sa) :: (.ref n64) :: (.ref m64) :: (.ref ex) :: (.ref wh) :: (.ref sd) :: (.ref tk) :: (.int v52) :: (.int v53) :: (.int v54) :: (.ref hd) :: (.ref ak) :: (.ref ho) :: (.ref ot) :: []) := hv_75
              refine W.eq (g2 := F0 m 461 ls []) rfl ?_
              have hF_77 : F_73 g1 = .inl (cs 17, 700, .inl fv) := (hR g1 (by rw [hT_g1]; simp only [List.mem_cons, List.not_mem_nil, or_false]; omega)).trans hF_74
              obtain ⟨hv1, hv2, hv3⟩ := hv_75
              refine lv_iload hx hb dX15_readTerm_461 (lv_at hl 0 rfl) ?_
              refine lv_iload_n hx hb dX15_readTerm_463 rfl (lv_at hl 6 rfl) ?_
              refine lv_icmp_ge (tgt := 527) hx hb dX15_readTerm_464 (by decide) (fun c_78 => ?_) (fun c_78 => ?_)
              ·
                have hi_79 : tt ≤ j := leN (N := tt) c_78
                refine lv_iload hx hb dX15_readTerm_527 (lv_at hl 0 rfl) ?_
                refine lv_iload hx hb dX15_readTerm_529 (lv_at hl 2 rfl) ?_
                refine lv_icmp_le (tgt := 555) hx hb dX15_readTerm_531 (by decide) (fun c_80 => ?_) (fun c_80 => ?_)
                ·
                  have hi_81 : j ≤ kk := (nI_leI (a := j) (b := kk) (by omega) (by omega)).mp c_80
                  refine W.widen (k := 0) (n := 0) (by omega) (by omega) ?_
                  exact W.vret hx hb hr (fun t ht hWm => ⟨⟨(), rfl, trivial, ⟨F_73, q17, q18, q19, q20, q21, q22, QTm.mk ht hP hD hO hR, hv3, ⟨Or.inr (Or.inr (Or.inl c_63)), fun h6 => absurd (c_63.symm.trans h6) (by decide), fun h9 => absurd (by have h8 := h9.1; rw [← hk3a hs5z, ← gA_fun hF_62] at h8; exact h8) (nm0 hw_71 c_72)⟩⟩⟩, hS.F ht⟩) hS.2.2 dX15_readTerm_555
                ·
                  have hi_82 : kk < j := Nat.not_le.mp (fun q => c_80 ((nI_leI (a := j) (b := kk) (by omega) (by omega)).mpr q))
                  refine lv_iload hx hb dX15_readTerm_534 (lv_at hl 0 rfl) ?_
                  refine lv_iload_n hx hb dX15_readTerm_536 rfl (lv_at hl 6 rfl) ?_
                  refine lv_icmp_ge (tgt := 555) hx hb dX15_readTerm_537 (by decide) (fun c_83 => ?_) (fun c_83 => ?_)
                  ·
                    have hi_84 : tt ≤ j := leN (N := tt) c_83
                    refine W.widen (k := 0) (n := 0) (by omega) (by omega) ?_
                    exact W.vret hx hb hr (fun t ht hWm => ⟨⟨(), rfl, trivial, ⟨F_73, q17, q18, q19, q20, q21, q22, QTm.mk ht hP hD hO hR, hv3, ⟨Or.inr (Or.inr (Or.inl c_63)), fun h6 => absurd (c_63.symm.trans h6) (by decide), fun h9 => absurd (by have h8 := h9.1; rw [← hk3a hs5z, ← gA_fun hF_62] at h8; exact h8) (nm0 hw_71 c_72)⟩⟩⟩, hS.F ht⟩) hS.2.2 dX15_readTerm_555
                  ·
                    have hi_85 : j < tt := ltN (N := tt) c_83
                    refine lv_aload_n hx hb dX15_readTerm_540 rfl (lv_at hl 4 rfl) ?_
                    refine lv_iload hx hb dX15_readTerm_541 (lv_at hl 0 rfl) ?_
                    refine pg_bald hx hb hK hP hL_g1 1 hF_77 rfl (vp_in_nI (by omega) (by omega)) dX15_readTerm_543 ?_
                    refine lv_topi (fun x_86 ex_86 => ?_)
                    obtain rfl : x_86 = fv j := ex_86.trans (congrArg fv (show ((nI j) : Int32).toNatClampNeg = j from nI_clamp (by omega)))
                    refine lv_bipush (v := 61) hx hb dX15_readTerm_544 (by decide) ?_
                    refine lv_icmp_ne (tgt := 555) hx hb dX15_readTerm_546 (by decide) (fun c_87 => ?_) (fun c_87 => ?_)
                    ·
                      refine W.widen (k := 0) (n := 0) (by omega) (by omega) ?_
                      exact W.vret hx hb hr (fun t ht hWm => ⟨⟨(), rfl, trivial, ⟨F_73, q17, q18, q19, q20, q21, q22, QTm.mk ht hP hD hO hR, hv3, ⟨Or.inr (Or.inr (Or.inl c_63)), fun h6 => absurd (c_63.symm.trans h6) (by decide), fun h9 => absurd (by have h8 := h9.1; rw [← hk3a hs5z, ← gA_fun hF_62] at h8; exact h8) (nm0 hw_71 c_72)⟩⟩⟩, hS.F ht⟩) hS.2.2 dX15_readTerm_555
                    ·
                      refine lv_aload_n hx hb dX15_readTerm_549 rfl (lv_at hl 3 rfl) ?_
                      refine lv_bipush (v := 7) hx hb dX15_readTerm_550 (by decide) ?_
                      refine pg_put (ci := 15) (v := .int 7) (ty := .int) (C := RX15) (T := TX15) (N := 59) hx hb hts it_15 tyX15 tyX15_ok nmX15 hown hK hP hD hS hL_h0 hv3 rfl 17 (by decide) (hts _ kt_740) (fun _ h9 => h9) rfl (by decide +kernel) (rfl) (rfl) (Nat.le_of_ble_eq_true rfl) dX15_readTerm_552 (fun H locs hP hD hS => ?_)
                      obtain ⟨F_88, he_89, hP, hD, hO, hR⟩ : ∃ G, G = va_up F_73 h0 (.inr (15, (.ref ta) :: (.int (nI zt)) :: (.int (nI zo)) :: (.int (nI ze)) :: (.ref ou) :: (.ref so) :: (.ref ad) :: (.ref na) :: (.ref va) :: (.ref lc) :: (.ref dm) :: (.int v11) :: (.int v12) :: (.ref tg) :: (.int v14) :: (.int v15) :: (.ref pe) :: (.int 7) :: (.int q18) :: (.int q19) :: (.int q20) :: (.int q21) :: (.int q22) :: (.ref ml) :: (.ref bg) :: (.ref co) :: (.ref sp) :: (.ref nb0) :: (.ref nb1) :: (.ref nb2) :: (.int (nI nf)) :: (.int (nI bd)) :: (.int (nI mm)) :: (.int v33) :: (.ref pl) :: (.ref se) :: (.ref ke) :: (.ref wi) :: (.ref hs) :: (.ref mo) :: (.ref po) :: (.ref nu) :: (.ref pr) :: (.ref sq) :: (.ref xa) :: (.ref sa) :: (.ref n64) :: (.ref m64) :: (.ref ex) :: (.ref wh) :: (.ref sd) :: (.ref tk) :: (.int v52) :: (.int v53) :: (.int v54) :: (.ref hd) :: (.ref ak) :: (.ref ho) :: (.ref ot) :: [])) ∧ va_P (dC, dI) vwCl (va_pl L G) H ∧ va_D A (va_pl L G) ∧ OKm cs ty gm L G ∧ FR ty [ρ] F G := ⟨_, rfl, hP, hD, hO.up (shm.mod hT_h0 ⟨v11, v12, v14, v15, 7, q18, q19, q20, q21, q22, v33, v52, v53, v54, rfl, (by first | omega | assumption | exact Or.inl rfl | exact Or.inr rfl), (by first | omega | assumption | exact Or.inl rfl | exact Or.inr rfl), (by first | omega | assumption | exact Or.inl rfl | exact Or.inr rfl), (by first | omega | assumption | exact Or.inl rfl | exact Or.inr rfl)⟩), hR.up hT_h0 (by simp)⟩
                      have hF_90 : F_88 h0 = .inr (15, (.ref ta) :: (.int (nI zt)) :: (.int (nI zo)) :: (.int (nI ze)) :: (.ref ou) :: (.ref so) :: (.ref ad) :: (.ref na) :: (.ref va) :: (.ref lc) :: (.ref dm) :: (.int v11) :: (.int v12) :: (.ref tg) :: (.int v14) :: (.int v15) :: (.ref pe) :: (.int 7) :: (.int q18) :: (.int q19) :: (.int q20) :: (.int q21) :: (.int q22) :: (.ref ml) :: (.ref bg) :: (.ref co) :: (.ref sp) :: (.ref nb0) :: (.ref nb1) :: (.ref nb2) :: (.int (nI nf)) :: (.int (nI bd)) :: (.int (nI mm)) :: (.int v33) :: (.ref pl) :: (.ref se) :: (.ref ke) :: (.ref wi) :: (.ref hs) :: (.ref mo) :: (.ref po) :: (.ref nu) :: (.ref pr) :: (.ref sq) :: (.ref xa) :: (.ref sa) :: (.ref n64) :: (.ref m64) :: (.ref ex) :: (.ref wh) :: (.ref sd) :: (.ref tk) :: (.int v52) :: (.int v53) :: (.int v54) :: (.ref hd) :: (.ref ak) :: (.ref ho) :: (.ref ot) :: []) := by rw [he_89]; exact up_self
                      have hF_91 : F_88 g1 = .inl (cs 17, 700, .inl fv) := by rw [he_89, up_ne (ne_ty hT_g1 hT_h0 (by simp))]; exact hF_77
                      refine W.widen (k := 0) (n := 0) (by omega) (by omega) ?_
                      exact W.vret hx hb hr (fun t ht hWm => ⟨⟨(), rfl, trivial, ⟨F_88, 7, q18, q19, q20, q21, q22, QTm.mk ht hP hD hO hR, hF_90, ⟨Or.inr (Or.inl rfl), fun h6 => absurd h6 (by decide), fun h9 => absurd (by have h8 := h9.1; rw [← hk3a hs5z, ← gA_fun hF_62] at h8; exact h8) (nm0 hw_71 c_72)⟩⟩⟩, hS.F ht⟩) hS.2.2 dX15_readTerm_555
              ·
                have hi_92 : j < tt := ltN (N := tt) c_78
                have hF_95 : F g1 = .inl (cs 17, 700, .inl fv) := (hR g1 (by rw [hT_g1]; simp only [List.mem_cons, List.not_mem_nil, or_false]; omega)).symm.trans hF_77
                refine W.widen (k := 0) (n := 0) (by omega) (by omega) ?_
                refine pl_cutm (σ := Unit) A (dC, dI) cs ty gm L [ρ] F 521 7 (fun u0 => [(6, .int (nI j)), (5, .int s5), (4, .int (nI kk)), (0, .ref h0), (1, .ref g1), (2, .int (nI a)), (3, .int (nI tt))]) (fun u0 => []) (fun u0 FF => FF h0 = .inr (15, (.ref ta) :: (.int (nI zt)) :: (.int (nI zo)) :: (.int (nI ze)) :: (.ref ou) :: (.ref so) :: (.ref ad) :: (.ref na) :: (.ref va) :: (.ref lc) :: (.ref dm) :: (.int v11) :: (.int v12) :: (.ref tg) :: (.int v14) :: (.int v15) :: (.ref pe) :: (.int q17) :: (.int q18) :: (.int q19) :: (.int q20) :: (.int q21) :: (.int q22) :: (.ref ml) :: (.ref bg) :: (.ref co) :: (.ref sp) :: (.ref nb0) :: (.ref nb1) :: (.ref nb2) :: (.int (nI nf)) :: (.int (nI bd)) :: (.int (nI mm)) :: (.int v33) :: (.ref pl) :: (.ref se) :: (.ref ke) :: (.ref wi) :: (.ref hs) :: (.ref mo) :: (.ref po) :: (.ref nu) :: (.ref pr) :: (.ref sq) :: (.ref xa) :: (.ref sa) :: (.ref n64) :: (.ref m64) :: (.ref ex) :: (.ref wh) :: (.ref sd) :: (.ref tk) :: (.int v52) :: (.int v53) :: (.int v54) :: (.ref hd) :: (.ref ak) :: (.ref ho) :: (.ref ot) :: [])) ?_ (fun jn_93 => ?_)
                ·
                  rintro u0 F_94 hv_96 hO hR H locs hP hD hS ls hl
                  have hl : lv_has ls 7 [(6, .int (nI j)), (5, .int s5), (4, .int (nI kk)), (0, .ref h0), (1, .ref g1), (2, .int (nI a)), (3, .int (nI tt))] := hl
                  have hv_96 : F_94 h0 = .inr (15, (.ref ta) :: (.int (nI zt)) :: (.int (nI zo)) :: (.int (nI ze)) :: (.ref ou) :: (.ref so) :: (.ref ad) :: (.ref na) :: (.ref va) :: (.ref lc) :: (.ref dm) :: (.int v11) :: (.int v12) :: (.ref tg) :: (.int v14) :: (.int v15) :: (.ref pe) :: (.int q17) :: (.int q18) :: (.int q19) :: (.int q20) :: (.int q21) :: (.int q22) :: (.ref ml) :: (.ref bg) :: (.ref co) :: (.ref sp) :: (.ref nb0) :: (.ref nb1) :: (.ref nb2) :: (.int (nI nf)) :: (.int (nI bd)) :: (.int (nI mm)) :: (.int v33) :: (.ref pl) :: (.ref se) :: (.ref ke) :: (.ref wi) :: (.ref hs) :: (.ref mo) :: (.ref po) :: (.ref nu) :: (.ref pr) :: (.ref sq) :: (.ref xa) :: (.ref sa) :: (.ref n64) :: (.ref m64) :: (.ref ex) :: (.ref wh) :: (.ref sd) :: (.ref tk) :: (.int v52) :: (.int v53) :: (.int v54) :: (.ref hd) :: (.ref ak) :: (.ref ho) :: (.ref ot) :: []) := hv_96
                  refine W.eq (g2 := F0 m 521 ls []) rfl ?_
                  have hF_97 : F_94 g1 = .inl (cs 17, 700, .inl fv) := (hR g1 (by rw [hT_g1]; simp only [List.mem_cons, List.not_mem_nil, or_false]; omega)).trans hF_95
                  refine lv_iinc (v := (nI (j + 1))) (lv' := [(6, .int (nI (j + 1))), (5, .int s5), (4, .int (nI kk)), (0, .ref h0), (1, .ref g1), (2, .int (nI a)), (3, .int (nI tt))]) hx hb dX15_readTerm_521 hl (k := 0) rfl (nI_1 _) (by decide) rfl (fun ls hl => ?_)
                  refine lv_goto (tgt := 461) hx hb dX15_readTerm_524 (by decide) ?_
                  refine W.widen (k := 0) (n := 0) (by omega) (by omega) ?_
                  exact ih_76 (j + 1) F_94 (⟨by omega, by omega, hv_96⟩) (by show tt - (j + 1) < tt - j; omega) hO hR _ _ hP hD hS ls (lv_sub hl [0, 1, 2, 3, 4, 5, 6] rfl)
                ·
                  refine lv_aload_n hx hb dX15_readTerm_467 rfl (lv_at hl 4 rfl) ?_
                  refine lv_iload hx hb dX15_readTerm_468 (lv_at hl 0 rfl) ?_
                  refine pg_bald hx hb hK hP hL_g1 1 hF_77 rfl (vp_in_nI (by omega) (by omega)) dX15_readTerm_470 ?_
                  refine lv_topi (fun x_98 ex_98 => ?_)
                  obtain rfl : x_98 = fv j := ex_98.trans (congrArg fv (show ((nI j) : Int32).toNatClampNeg = j from nI_clamp (by omega)))
                  have hFc := pg_free hD hS hA
                  refine va_calli (va_runS (As := [.int (fv j)]) (rest := []) ⟨hx, hb, hml, hown, hts⟩ (s_X15_isSmall l dC dI cs ty gm L H.size F_73 (fv j) hW ) ⟨callB_of 1 hts (gi kt_658) rfl rfl rfl (hts _ kt_659) (hts _ kt_660) (by decide +kernel) ⟨Nat.le_of_ble_eq_true rfl, Nat.le_of_ble_eq_true rfl⟩, (hts _ kt_661)⟩ ⟨fun a U g mk q => ⟨q.1, PTm.calling q.2⟩, fun U hU hWm => ⟨rfl, PTm.mk hU hWm hP hK hD hE hO⟩⟩ rfl rfl hl.1 rfl (lv_room (Nat.le_of_ble_eq_true rfl)) dX15_readTerm_471 ⟨by show _ + 0 ≤ 0; omega, by show _ + 0 ≤ 0; omega⟩) hS (fun q _ h => hFc q h) hFc (fun r_99 u t H1 locs ht hvm hw hB hz1 hk1 hS => ?_)
                  obtain ⟨F_100, hB1⟩ := hB
                  obtain rfl : F_73 = F_100 := (funext (fun a => hB1.2.2.2 a List.not_mem_nil)).symm
                  obtain ⟨hP, hD, hO, hR⟩ := QTm.back hB1 ht hFc hR (fun q h => absurd h List.not_mem_nil)
                  generalize H1 = H at hP hS ⊢
                  have hw : (r_99 = 0 ∨ r_99 = 1) := hw
                  have hw_101 := hw
                  refine lv_if_ne (tgt := 521) hx hb dX15_readTerm_474 (by decide) (fun c_102 => ?_) (fun c_102 => ?_)
                  ·
                    refine W.widen (k := 0) (n := 0) (by omega) (by omega) ?_
                    exact jn_93 () F_73 (hv3) hO hR _ _ hP hD hS ls (lv_sub hl [0, 1, 2, 3, 4, 5, 6] rfl)
                  ·
                    refine lv_iload hx hb dX15_readTerm_477 (lv_at hl 0 rfl) ?_
                    refine lv_iload hx hb dX15_readTerm_479 (lv_at hl 2 rfl) ?_
                    refine lv_icmp_le (tgt := 527) hx hb dX15_readTerm_481 (by decide) (fun c_103 => ?_) (fun c_103 => ?_)
                    ·
                      have hi_104 : j ≤ kk := (nI_leI (a := j) (b := kk) (by omega) (by omega)).mp c_103
                      refine lv_iload hx hb dX15_readTerm_527 (lv_at hl 0 rfl) ?_
                      refine lv_iload hx hb dX15_readTerm_529 (lv_at hl 2 rfl) ?_
                      refine lv_icmp_le (tgt := 555) hx hb dX15_readTerm_531 (by decide) (fun c_105 => ?_) (fun c_105 => ?_)
                      ·
                        have hi_106 : j ≤ kk := (nI_leI (a := j) (b := kk) (by omega) (by omega)).mp c_105
                        refine W.widen (k := 0) (n := 0) (by omega) (by omega) ?_
                        exact W.vret hx hb hr (fun t ht hWm => ⟨⟨(), rfl, trivial, ⟨F_73, q17, q18, q19, q20, q21, q22, QTm.mk ht hP hD hO hR, hv3, ⟨Or.inr (Or.inr (Or.inl c_63)), fun h6 => absurd (c_63.symm.trans h6) (by decide), fun h9 => absurd (by have h8 := h9.1; rw [← hk3a hs5z, ← gA_fun hF_62] at h8; exact h8) (nm0 hw_71 c_72)⟩⟩⟩, hS.F ht⟩) hS.2.2 dX15_readTerm_555
                      ·
                        have hi_107 : kk < j := Nat.not_le.mp (fun q => c_105 ((nI_leI (a := j) (b := kk) (by omega) (by omega)).mpr q))
                        refine lv_iload hx hb dX15_readTerm_534 (lv_at hl 0 rfl) ?_
                        refine lv_iload_n hx hb dX15_readTerm_536 rfl (lv_at hl 6 rfl) ?_
                        refine lv_icmp_ge (tgt := 555) hx hb dX15_readTerm_537 (by decide) (fun c_108 => ?_) (fun c_108 => ?_)
                        ·
                          have hi_109 : tt ≤ j := leN (N := tt) c_108
                          refine W.widen (k := 0) (n := 0) (by omega) (by omega) ?_
                          exact W.vret hx hb hr (fun t ht hWm => ⟨⟨(), rfl, trivial, ⟨F_73, q17, q18, q19, q20, q21, q22, QTm.mk ht hP hD hO hR, hv3, ⟨Or.inr (Or.inr (Or.inl c_63)), fun h6 => absurd (c_63.symm.trans h6) (by decide), fun h9 => absurd (by have h8 := h9.1; rw [← hk3a hs5z, ← gA_fun hF_62] at h8; exact h8) (nm0 hw_71 c_72)⟩⟩⟩, hS.F ht⟩) hS.2.2 dX15_readTerm_555
                        ·
                          have hi_110 : j < tt := ltN (N := tt) c_108
                          refine lv_aload_n hx hb dX15_readTerm_540 rfl (lv_at hl 4 rfl) ?_
                          refine lv_iload hx hb dX15_readTerm_541 (lv_at hl 0 rfl) ?_
                          refine pg_bald hx hb hK hP hL_g1 1 hF_77 rfl (vp_in_nI (by omega) (by omega)) dX15_readTerm_543 ?_
                          refine lv_topi (fun x_111 ex_111 => ?_)
                          obtain rfl : x_111 = fv j := ex_111.trans (congrArg fv (show ((nI j) : Int32).toNatClampNeg = j from nI_clamp (by omega)))
                          refine lv_bipush (v := 61) hx hb dX15_readTerm_544 (by decide) ?_
                          refine lv_icmp_ne (tgt := 555) hx hb dX15_readTerm_546 (by decide) (fun c_112 => ?_) (fun c_112 => ?_)
                          ·
                            refine W.widen (k := 0) (n := 0) (by omega) (by omega) ?_
                            exact W.vret hx hb hr (fun t ht hWm => ⟨⟨(), rfl, trivial, ⟨F_73, q17, q18, q19, q20, q21, q22, QTm.mk ht hP hD hO hR, hv3, ⟨Or.inr (Or.inr (Or.inl c_63)), fun h6 => absurd (c_63.symm.trans h6) (by decide), fun h9 => absurd (by have h8 := h9.1; rw [← hk3a hs5z, ← gA_fun hF_62] at h8; exact h8) (nm0 hw_71 c_72)⟩⟩⟩, hS.F ht⟩) hS.2.2 dX15_readTerm_555
                          ·
                            refine lv_aload_n hx hb dX15_readTerm_549 rfl (lv_at hl 3 rfl) ?_
                            refine lv_bipush (v := 7) hx hb dX15_readTerm_550 (by decide) ?_
                            refine pg_put (ci := 15) (v := .int 7) (ty := .int) (C := RX15) (T := TX15) (N := 59) hx hb hts it_15 tyX15 tyX15_ok nmX15 hown hK hP hD hS hL_h0 hv3 rfl 17 (by decide) (hts _ kt_740) (fun _ h9 => h9) rfl (by decide +kernel) (rfl) (rfl) (Nat.le_of_ble_eq_true rfl) dX15_readTerm_552 (fun H locs hP hD hS => ?_)
                            obtain ⟨F_113, he_114, hP, hD, hO, hR⟩ : ∃ G, G = va_up F_73 h0 (.inr (15, (.ref ta) :: (.int (nI zt)) :: (.int (nI zo)) :: (.int (nI ze)) :: (.ref ou) :: (.ref so) :: (.ref ad) :: (.ref na) :: (.ref va) :: (.ref lc) :: (.ref dm) :: (.int v11) :: (.int v12) :: (.ref tg) :: (.int v14) :: (.int v15) :: (.ref pe) :: (.int 7) :: (.int q18) :: (.int q19) :: (.int q20) :: (.int q21) :: (.int q22) :: (.ref ml) :: (.ref bg) :: (.ref co) :: (.ref sp) :: (.ref nb0) :: (.ref nb1) :: (.ref nb2) :: (.int (nI nf)) :: (.int (nI bd)) :: (.int (nI mm)) :: (.int v33) :: (.ref pl) :: (.ref se) :: (.ref ke) :: (.ref wi) :: (.ref hs) :: (.ref mo) :: (.ref po) :: (.ref nu) :: (.ref pr) :: (.ref sq) :: (.ref xa) :: (.ref sa) :: (.ref n64) :: (.ref m64) :: (.ref ex) :: (.ref wh) :: (.ref sd) :: (.ref tk) :: (.int v52) :: (.int v53) :: (.int v54) :: (.ref hd) :: (.ref ak) :: (.ref ho) :: (.ref ot) :: [])) ∧ va_P (dC, dI) vwCl (va_pl L G) H ∧ va_D A (va_pl L G) ∧ OKm cs ty gm L G ∧ FR ty [ρ] F G := ⟨_, rfl, hP, hD, hO.up (shm.mod hT_h0 ⟨v11, v12, v14, v15, 7, q18, q19, q20, q21, q22, v33, v52, v53, v54, rfl, (by first | omega | assumption | exact Or.inl rfl | exact Or.inr rfl), (by first | omega | assumption | exact Or.inl rfl | exact Or.inr rfl), (by first | omega | assumption | exact Or.inl rfl | exact Or.inr rfl), (by first | omega | assumption | exact Or.inl rfl | exact Or.inr rfl)⟩), hR.up hT_h0 (by simp)⟩
                            have hF_115 : F_113 h0 = .inr (15, (.ref ta) :: (.int (nI zt)) :: (.int (nI zo)) :: (.int (nI ze)) :: (.ref ou) :: (.ref so) :: (.ref ad) :: (.ref na) :: (.ref va) :: (.ref lc) :: (.ref dm) :: (.int v11) :: (.int v12) :: (.ref tg) :: (.int v14) :: (.int v15) :: (.ref pe) :: (.int 7) :: (.int q18) :: (.int q19) :: (.int q20) :: (.int q21) :: (.int q22) :: (.ref ml) :: (.ref bg) :: (.ref co) :: (.ref sp) :: (.ref nb0) :: (.ref nb1) :: (.ref nb2) :: (.int (nI nf)) :: (.int (nI bd)) :: (.int (nI mm)) :: (.int v33) :: (.ref pl) :: (.ref se) :: (.ref ke) :: (.ref wi) :: (.ref hs) :: (.ref mo) :: (.ref po) :: (.ref nu) :: (.ref pr) :: (.ref sq) :: (.ref xa) :: (.ref sa) :: (.ref n64) :: (.ref m64) :: (.ref ex) :: (.ref wh) :: (.ref sd) :: (.ref tk) :: (.int v52) :: (.int v53) :: (.int v54) :: (.ref hd) :: (.ref ak) :: (.ref ho) :: (.ref ot) :: []) := by rw [he_114]; exact up_self
                            have hF_116 : F_113 g1 = .inl (cs 17, 700, .inl fv) := by rw [he_114, up_ne (ne_ty hT_g1 hT_h0 (by simp))]; exact hF_77
                            refine W.widen (k := 0) (n := 0) (by omega) (by omega) ?_
                            exact W.vret hx hb hr (fun t ht hWm => ⟨⟨(), rfl, trivial, ⟨F_113, 7, q18, q19, q20, q21, q22, QTm.mk ht hP hD hO hR, hF_115, ⟨Or.inr (Or.inl rfl), fun h6 => absurd h6 (by decide), fun h9 => absurd (by have h8 := h9.1; rw [← hk3a hs5z, ← gA_fun hF_62] at h8; exact h8) (nm0 hw_71 c_72)⟩⟩⟩, hS.F ht⟩) hS.2.2 dX15_readTerm_555
                    ·
                      have hi_117 : kk < j := Nat.not_le.mp (fun q => c_103 ((nI_leI (a := j) (b := kk) (by omega) (by omega)).mpr q))
                      refine lv_aload_n hx hb dX15_readTerm_484 rfl (lv_at hl 4 rfl) ?_
                      refine lv_iload hx hb dX15_readTerm_485 (lv_at hl 0 rfl) ?_
                      refine pg_bald hx hb hK hP hL_g1 1 hF_77 rfl (vp_in_nI (by omega) (by omega)) dX15_readTerm_487 ?_
                      refine lv_topi (fun x_118 ex_118 => ?_)
                      obtain rfl : x_118 = fv j := ex_118.trans (congrArg fv (show ((nI j) : Int32).toNatClampNeg = j from nI_clamp (by omega)))
                      have hFc := pg_free hD hS hA
                      refine va_calli (va_runS (As := [.int (fv j)]) (rest := []) ⟨hx, hb, hml, hown, hts⟩ (s_X15_isDigit l dC dI cs ty gm L H.size F_73 (fv j) hW ) ⟨callB_of 1 hts (gi kt_677) rfl rfl rfl (hts _ kt_659) (hts _ kt_697) (by decide +kernel) ⟨Nat.le_of_ble_eq_true rfl, Nat.le_of_ble_eq_true rfl⟩, (hts _ kt_678)⟩ ⟨fun a U g mk q => ⟨q.1, PTm.calling q.2⟩, fun U hU hWm => ⟨rfl, PTm.mk hU hWm hP hK hD hE hO⟩⟩ rfl rfl hl.1 rfl (lv_room (Nat.le_of_ble_eq_true rfl)) dX15_readTerm_488 ⟨by show _ + 0 ≤ 0; omega, by show _ + 0 ≤ 0; omega⟩) hS (fun q _ h => hFc q h) hFc (fun r_119 u t H1 locs ht hvm hw hB hz1 hk1 hS => ?_)
                      obtain ⟨F_120, hB1⟩ := hB
                      obtain rfl : F_73 = F_120 := (funext (fun a => hB1.2.2.2 a List.not_mem_nil)).symm
                      obtain ⟨hP, hD, hO, hR⟩ := QTm.back hB1 ht hFc hR (fun q h => absurd h List.not_mem_nil)
                      generalize H1 = H at hP hS ⊢
                      have hw : (r_119 = 0 ∨ r_119 = 1) := hw
                      have hw_121 := hw
                      refine lv_if_ne (tgt := 521) hx hb dX15_readTerm_491 (by decide) (fun c_122 => ?_) (fun c_122 => ?_)
                      ·
                        refine W.widen (k := 0) (n := 0) (by omega) (by omega) ?_
                        exact jn_93 () F_73 (hv3) hO hR _ _ hP hD hS ls (lv_sub hl [0, 1, 2, 3, 4, 5, 6] rfl)
                      ·
                        refine lv_aload_n hx hb dX15_readTerm_494 rfl (lv_at hl 4 rfl) ?_
                        refine lv_iload hx hb dX15_readTerm_495 (lv_at hl 0 rfl) ?_
                        refine pg_bald hx hb hK hP hL_g1 1 hF_77 rfl (vp_in_nI (by omega) (by omega)) dX15_readTerm_497 ?_
                        refine lv_topi (fun x_123 ex_123 => ?_)
                        obtain rfl : x_123 = fv j := ex_123.trans (congrArg fv (show ((nI j) : Int32).toNatClampNeg = j from nI_clamp (by omega)))
                        refine lv_bipush (v := 45) hx hb dX15_readTerm_498 (by decide) ?_
                        refine lv_icmp_eq (tgt := 521) hx hb dX15_readTerm_500 (by decide) (fun c_124 => ?_) (fun c_124 => ?_)
                        ·
                          refine W.widen (k := 0) (n := 0) (by omega) (by omega) ?_
                          exact jn_93 () F_73 (hv3) hO hR _ _ hP hD hS ls (lv_sub hl [0, 1, 2, 3, 4, 5, 6] rfl)
                        ·
                          refine lv_aload_n hx hb dX15_readTerm_503 rfl (lv_at hl 4 rfl) ?_
                          refine lv_iload hx hb dX15_readTerm_504 (lv_at hl 0 rfl) ?_
                          refine pg_bald hx hb hK hP hL_g1 1 hF_77 rfl (vp_in_nI (by omega) (by omega)) dX15_readTerm_506 ?_
                          refine lv_topi (fun x_125 ex_125 => ?_)
                          obtain rfl : x_125 = fv j := ex_125.trans (congrArg fv (show ((nI j) : Int32).toNatClampNeg = j from nI_clamp (by omega)))
                          refine lv_bipush (v := 95) hx hb dX15_readTerm_507 (by decide) ?_
                          refine lv_icmp_eq (tgt := 521) hx hb dX15_readTerm_509 (by decide) (fun c_126 => ?_) (fun c_126 => ?_)
                          ·
                            refine W.widen (k := 0) (n := 0) (by omega) (by omega) ?_
                            exact jn_93 () F_73 (hv3) hO hR _ _ hP hD hS ls (lv_sub hl [0, 1, 2, 3, 4, 5, 6] rfl)
                          ·
                            refine lv_aload_n hx hb dX15_readTerm_512 rfl (lv_at hl 4 rfl) ?_
                            refine lv_iload hx hb dX15_readTerm_513 (lv_at hl 0 rfl) ?_
                            refine pg_bald hx hb hK hP hL_g1 1 hF_77 rfl (vp_in_nI (by omega) (by omega)) dX15_readTerm_515 ?_
                            refine lv_topi (fun x_127 ex_127 => ?_)
                            obtain rfl : x_127 = fv j := ex_127.trans (congrArg fv (show ((nI j) : Int32).toNatClampNeg = j from nI_clamp (by omega)))
                            refine lv_bipush (v := 46) hx hb dX15_readTerm_516 (by decide) ?_
                            refine lv_icmp_ne (tgt := 527) hx hb dX15_readTerm_518 (by decide) (fun c_128 => ?_) (fun c_128 => ?_)
                            ·
                              refine lv_iload hx hb dX15_readTerm_527 (lv_at hl 0 rfl) ?_
                              refine lv_iload hx hb dX15_readTerm_529 (lv_at hl 2 rfl) ?_
                              refine lv_icmp_le (tgt := 555) hx hb dX15_readTerm_531 (by decide) (fun c_129 => ?_) (fun c_129 => ?_)
                              ·
                                have hi_130 : j ≤ kk := (nI_leI (a := j) (b := kk) (by omega) (by omega)).mp c_129
                                refine W.widen (k := 0) (n := 0) (by omega) (by omega) ?_
                                exact W.vret hx hb hr (fun t ht hWm => ⟨⟨(), rfl, trivial, ⟨F_73, q17, q18, q19, q20, q21, q22, QTm.mk ht hP hD hO hR, hv3, ⟨Or.inr (Or.inr (Or.inl c_63)), fun h6 => absurd (c_63.symm.trans h6) (by decide), fun h9 => absurd (by have h8 := h9.1; rw [← hk3a hs5z, ← gA_fun hF_62] at h8; exact h8) (nm0 hw_71 c_72)⟩⟩⟩, hS.F ht⟩) hS.2.2 dX15_readTerm_555
                              ·
                                have hi_131 : kk < j := Nat.not_le.mp (fun q => c_129 ((nI_leI (a := j) (b := kk) (by omega) (by omega)).mpr q))
                                refine lv_iload hx hb dX15_readTerm_534 (lv_at hl 0 rfl) ?_
                                refine lv_iload_n hx hb dX15_readTerm_536 rfl (lv_at hl 6 rfl) ?_
                                refine lv_icmp_ge (tgt := 555) hx hb dX15_readTerm_537 (by decide) (fun c_132 => ?_) (fun c_132 => ?_)
                                ·
                                  have hi_133 : tt ≤ j := leN (N := tt) c_132
                                  refine W.widen (k := 0) (n := 0) (by omega) (by omega) ?_
                                  exact W.vret hx hb hr (fun t ht hWm => ⟨⟨(), rfl, trivial, ⟨F_73, q17, q18, q19, q20, q21, q22, QTm.mk ht hP hD hO hR, hv3, ⟨Or.inr (Or.inr (Or.inl c_63)), fun h6 => absurd (c_63.symm.trans h6) (by decide), fun h9 => absurd (by have h8 := h9.1; rw [← hk3a hs5z, ← gA_fun hF_62] at h8; exact h8) (nm0 hw_71 c_72)⟩⟩⟩, hS.F ht⟩) hS.2.2 dX15_readTerm_555
                                ·
                                  have hi_134 : j < tt := ltN (N := tt) c_132
                                  refine lv_aload_n hx hb dX15_readTerm_540 rfl (lv_at hl 4 rfl) ?_
                                  refine lv_iload hx hb dX15_readTerm_541 (lv_at hl 0 rfl) ?_
                                  refine pg_bald hx hb hK hP hL_g1 1 hF_77 rfl (vp_in_nI (by omega) (by omega)) dX15_readTerm_543 ?_
                                  refine lv_topi (fun x_135 ex_135 => ?_)
                                  obtain rfl : x_135 = fv j := ex_135.trans (congrArg fv (show ((nI j) : Int32).toNatClampNeg = j from nI_clamp (by omega)))
                                  refine lv_bipush (v := 61) hx hb dX15_readTerm_544 (by decide) ?_
                                  refine lv_icmp_ne (tgt := 555) hx hb dX15_readTerm_546 (by decide) (fun c_136 => ?_) (fun c_136 => ?_)
                                  ·
                                    refine W.widen (k := 0) (n := 0) (by omega) (by omega) ?_
                                    exact W.vret hx hb hr (fun t ht hWm => ⟨⟨(), rfl, trivial, ⟨F_73, q17, q18, q19, q20, q21, q22, QTm.mk ht hP hD hO hR, hv3, ⟨Or.inr (Or.inr (Or.inl c_63)), fun h6 => absurd (c_63.symm.trans h6) (by decide), fun h9 => absurd (by have h8 := h9.1; rw [← hk3a hs5z, ← gA_fun hF_62] at h8; exact h8) (nm0 hw_71 c_72)⟩⟩⟩, hS.F ht⟩) hS.2.2 dX15_readTerm_555
                                  ·
                                    refine lv_aload_n hx hb dX15_readTerm_549 rfl (lv_at hl 3 rfl) ?_
                                    refine lv_bipush (v := 7) hx hb dX15_readTerm_550 (by decide) ?_
                                    refine pg_put (ci := 15) (v := .int 7) (ty := .int) (C := RX15) (T := TX15) (N := 59) hx hb hts it_15 tyX15 tyX15_ok nmX15 hown hK hP hD hS hL_h0 hv3 rfl 17 (by decide) (hts _ kt_740) (fun _ h9 => h9) rfl (by decide +kernel) (rfl) (rfl) (Nat.le_of_ble_eq_true rfl) dX15_readTerm_552 (fun H locs hP hD hS => ?_)
                                    obtain ⟨F_137, he_138, hP, hD, hO, hR⟩ : ∃ G, G = va_up F_73 h0 (.inr (15, (.ref ta) :: (.int (nI zt)) :: (.int (nI zo)) :: (.int (nI ze)) :: (.ref ou) :: (.ref so) :: (.ref ad) :: (.ref na) :: (.ref va) :: (.ref lc) :: (.ref dm) :: (.int v11) :: (.int v12) :: (.ref tg) :: (.int v14) :: (.int v15) :: (.ref pe) :: (.int 7) :: (.int q18) :: (.int q19) :: (.int q20) :: (.int q21) :: (.int q22) :: (.ref ml) :: (.ref bg) :: (.ref co) :: (.ref sp) :: (.ref nb0) :: (.ref nb1) :: (.ref nb2) :: (.int (nI nf)) :: (.int (nI bd)) :: (.int (nI mm)) :: (.int v33) :: (.ref pl) :: (.ref se) :: (.ref ke) :: (.ref wi) :: (.ref hs) :: (.ref mo) :: (.ref po) :: (.ref nu) :: (.ref pr) :: (.ref sq) :: (.ref xa) :: (.ref sa) :: (.ref n64) :: (.ref m64) :: (.ref ex) :: (.ref wh) :: (.ref sd) :: (.ref tk) :: (.int v52) :: (.int v53) :: (.int v54) :: (.ref hd) :: (.ref ak) :: (.ref ho) :: (.ref ot) :: [])) ∧ va_P (dC, dI) vwCl (va_pl L G) H ∧ va_D A (va_pl L G) ∧ OKm cs ty gm L G ∧ FR ty [ρ] F G := ⟨_, rfl, hP, hD, hO.up (shm.mod hT_h0 ⟨v11, v12, v14, v15, 7, q18, q19, q20, q21, q22, v33, v52, v53, v54, rfl, (by first | omega | assumption | exact Or.inl rfl | exact Or.inr rfl), (by first | omega | assumption | exact Or.inl rfl | exact Or.inr rfl), (by first | omega | assumption | exact Or.inl rfl | exact Or.inr rfl), (by first | omega | assumption | exact Or.inl rfl | exact Or.inr rfl)⟩), hR.up hT_h0 (by simp)⟩
                                    have hF_139 : F_137 h0 = .inr (15, (.ref ta) :: (.int (nI zt)) :: (.int (nI zo)) :: (.int (nI ze)) :: (.ref ou) :: (.ref so) :: (.ref ad) :: (.ref na) :: (.ref va) :: (.ref lc) :: (.ref dm) :: (.int v11) :: (.int v12) :: (.ref tg) :: (.int v14) :: (.int v15) :: (.ref pe) :: (.int 7) :: (.int q18) :: (.int q19) :: (.int q20) :: (.int q21) :: (.int q22) :: (.ref ml) :: (.ref bg) :: (.ref co) :: (.ref sp) :: (.ref nb0) :: (.ref nb1) :: (.ref nb2) :: (.int (nI nf)) :: (.int (nI bd)) :: (.int (nI mm)) :: (.int v33) :: (.ref pl) :: (.ref se) :: (.ref ke) :: (.ref wi) :: (.ref hs) :: (.ref mo) :: (.ref po) :: (.ref nu) :: (.ref pr) :: (.ref sq) :: (.ref xa) :: (.ref sa) :: (.ref n64) :: (.ref m64) :: (.ref ex) :: (.ref wh) :: (.ref sd) :: (.ref tk) :: (.int v52) :: (.int v53) :: (.int v54) :: (.ref hd) :: (.ref ak) :: (.ref ho) :: (.ref ot) :: []) := by rw [he_138]; exact up_self
                                    have hF_140 : F_137 g1 = .inl (cs 17, 700, .inl fv) := by rw [he_138, up_ne (ne_ty hT_g1 hT_h0 (by simp))]; exact hF_77
                                    refine W.widen (k := 0) (n := 0) (by omega) (by omega) ?_
                                    exact W.vret hx hb hr (fun t ht hWm => ⟨⟨(), rfl, trivial, ⟨F_137, 7, q18, q19, q20, q21, q22, QTm.mk ht hP hD hO hR, hF_139, ⟨Or.inr (Or.inl rfl), fun h6 => absurd h6 (by decide), fun h9 => absurd (by have h8 := h9.1; rw [← hk3a hs5z, ← gA_fun hF_62] at h8; exact h8) (nm0 hw_71 c_72)⟩⟩⟩, hS.F ht⟩) hS.2.2 dX15_readTerm_555
                            ·
                              refine W.widen (k := 0) (n := 0) (by omega) (by omega) ?_
                              exact jn_93 () F_73 (hv3) hO hR _ _ hP hD hS ls (lv_sub hl [0, 1, 2, 3, 4, 5, 6] rfl)
            ·
              have hb414 := (nm1 hw_71 c_72).1
              refine lv_aload_n hx hb dX15_readTerm_420 rfl (lv_at hl 2 rfl) ?_
              refine lv_iload hx hb dX15_readTerm_421 (lv_at hl 1 rfl) ?_
              refine lv_bipush (v := 9) hx hb dX15_readTerm_423 (by decide) ?_
              refine lv_iadd hx hb dX15_readTerm_425 ?_
              refine lv_topi (fun x_141 ex_141 => ?_)
              obtain rfl : x_141 = (nI (kk + 9)) := ex_141.trans (nI_add kk 9)
              refine pg_put (ci := 15) (v := .int (nI (kk + 9))) (ty := .int) (C := RX15) (T := TX15) (N := 59) hx hb hts it_15 tyX15 tyX15_ok nmX15 hown hK hP hD hS hL_h0 hq1 rfl 19 (by decide) (hts _ kt_741) (fun _ h9 => h9) rfl (by decide +kernel) (rfl) (rfl) (Nat.le_of_ble_eq_true rfl) dX15_readTerm_426 (fun H locs hP hD hS => ?_)
              obtain ⟨F_142, he_143, hP, hD, hO, hR⟩ : ∃ G, G = va_up F_59 h0 (.inr (15, (.ref ta) :: (.int (nI zt)) :: (.int (nI zo)) :: (.int (nI ze)) :: (.ref ou) :: (.ref so) :: (.ref ad) :: (.ref na) :: (.ref va) :: (.ref lc) :: (.ref dm) :: (.int v11) :: (.int v12) :: (.ref tg) :: (.int v14) :: (.int v15) :: (.ref pe) :: (.int q17) :: (.int q18) :: (.int (nI (kk + 9))) :: (.int q20) :: (.int q21) :: (.int q22) :: (.ref ml) :: (.ref bg) :: (.ref co) :: (.ref sp) :: (.ref nb0) :: (.ref nb1) :: (.ref nb2) :: (.int (nI nf)) :: (.int (nI bd)) :: (.int (nI mm)) :: (.int v33) :: (.ref pl) :: (.ref se) :: (.ref ke) :: (.ref wi) :: (.ref hs) :: (.ref mo) :: (.ref po) :: (.ref nu) :: (.ref pr) :: (.ref sq) :: (.ref xa) :: (.ref sa) :: (.ref n64) :: (.ref m64) :: (.ref ex) :: (.ref wh) :: (.ref sd) :: (.ref tk) :: (.int v52) :: (.int v53) :: (.int v54) :: (.ref hd) :: (.ref ak) :: (.ref ho) :: (.ref ot) :: [])) ∧ va_P (dC, dI) vwCl (va_pl L G) H ∧ va_D A (va_pl L G) ∧ OKm cs ty gm L G ∧ FR ty [ρ] F G := ⟨_, rfl, hP, hD, hO.up (shm.mod hT_h0 ⟨v11, v12, v14, v15, q17, q18, (nI (kk + 9)), q20, q21, q22, v33, v52, v53, v54, rfl, (by first | omega | assumption | exact Or.inl rfl | exact Or.inr rfl), (by first | omega | assumption | exact Or.inl rfl | exact Or.inr rfl), (by first | omega | assumption | exact Or.inl rfl | exact Or.inr rfl), (by first | omega | assumption | exact Or.inl rfl | exact Or.inr rfl)⟩), hR.up hT_h0 (by simp)⟩
              have hF_144 : F_142 h0 = .inr (15, (.ref ta) :: (.int (nI zt)) :: (.int (nI zo)) :: (.int (nI ze)) :: (.ref ou) :: (.ref so) :: (.ref ad) :: (.ref na) :: (.ref va) :: (.ref lc) :: (.ref dm) :: (.int v11) :: (.int v12) :: (.ref tg) :: (.int v14) :: (.int v15) :: (.ref pe) :: (.int q17) :: (.int q18) :: (.int (nI (kk + 9))) :: (.int q20) :: (.int q21) :: (.int q22) :: (.ref ml) :: (.ref bg) :: (.ref co) :: (.ref sp) :: (.ref nb0) :: (.ref nb1) :: (.ref nb2) :: (.int (nI nf)) :: (.int (nI bd)) :: (.int (nI mm)) :: (.int v33) :: (.ref pl) :: (.ref se) :: (.ref ke) :: (.ref wi) :: (.ref hs) :: (.ref mo) :: (.ref po) :: (.ref nu) :: (.ref pr) :: (.ref sq) :: (.ref xa) :: (.ref sa) :: (.ref n64) :: (.ref m64) :: (.ref ex) :: (.ref wh) :: (.ref sd) :: (.ref tk) :: (.int v52) :: (.int v53) :: (.int v54) :: (.ref hd) :: (.ref ak) :: (.ref ho) :: (.ref ot) :: []) := by rw [he_143]; exact up_self
              have hF_145 : F_142 g1 = .inl (cs 17, 700, .inl fv) := by rw [he_143, up_ne (ne_ty hT_g1 hT_h0 (by simp))]; exact hF_62
              refine lv_aload_n hx hb dX15_readTerm_429 rfl (lv_at hl 2 rfl) ?_
              refine lv_iload_n hx hb dX15_readTerm_430 rfl (lv_at hl 5 rfl) ?_
              refine pg_put (ci := 15) (v := .int (nI tt)) (ty := .int) (C := RX15) (T := TX15) (N := 59) hx hb hts it_15 tyX15 tyX15_ok nmX15 hown hK hP hD hS hL_h0 hF_144 rfl 20 (by decide) (hts _ kt_742) (fun _ h9 => h9) rfl (by decide +kernel) (rfl) (rfl) (Nat.le_of_ble_eq_true rfl) dX15_readTerm_431 (fun H locs hP hD hS => ?_)
              obtain ⟨F_146, he_147, hP, hD, hO, hR⟩ : ∃ G, G = va_up F_142 h0 (.inr (15, (.ref ta) :: (.int (nI zt)) :: (.int (nI zo)) :: (.int (nI ze)) :: (.ref ou) :: (.ref so) :: (.ref ad) :: (.ref na) :: (.ref va) :: (.ref lc) :: (.ref dm) :: (.int v11) :: (.int v12) :: (.ref tg) :: (.int v14) :: (.int v15) :: (.ref pe) :: (.int q17) :: (.int q18) :: (.int (nI (kk + 9))) :: (.int (nI tt)) :: (.int q21) :: (.int q22) :: (.ref ml) :: (.ref bg) :: (.ref co) :: (.ref sp) :: (.ref nb0) :: (.ref nb1) :: (.ref nb2) :: (.int (nI nf)) :: (.int (nI bd)) :: (.int (nI mm)) :: (.int v33) :: (.ref pl) :: (.ref se) :: (.ref ke) :: (.ref wi) :: (.ref hs) :: (.ref mo) :: (.ref po) :: (.ref nu) :: (.ref pr) :: (.ref sq) :: (.ref xa) :: (.ref sa) :: (.ref n64) :: (.ref m64) :: (.ref ex) :: (.ref wh) :: (.ref sd) :: (.ref tk) :: (.int v52) :: (.int v53) :: (.int v54) :: (.ref hd) :: (.ref ak) :: (.ref ho) :: (.ref ot) :: [])) ∧ va_P (dC, dI) vwCl (va_pl L G) H ∧ va_D A (va_pl L G) ∧ OKm cs ty gm L G ∧ FR ty [ρ] F G := ⟨_, rfl, hP, hD, hO.up (shm.mod hT_h0 ⟨v11, v12, v14, v15, q17, q18, (nI (kk + 9)), (nI tt), q21, q22, v33, v52, v53, v54, rfl, (by first | omega | assumption | exact Or.inl rfl | exact Or.inr rfl), (by first | omega | assumption | exact Or.inl rfl | exact Or.inr rfl), (by first | omega | assumption | exact Or.inl rfl | exact Or.inr rfl), (by first | omega | assumption | exact Or.inl rfl | exact Or.inr rfl)⟩), hR.up hT_h0 (by simp)⟩
              have hF_148 : F_146 h0 = .inr (15, (.ref ta) :: (.int (nI zt)) :: (.int (nI zo)) :: (.int (nI ze)) :: (.ref ou) :: (.ref so) :: (.ref ad) :: (.ref na) :: (.ref va) :: (.ref lc) :: (.ref dm) :: (.int v11) :: (.int v12) :: (.ref tg) :: (.int v14) :: (.int v15) :: (.ref pe) :: (.int q17) :: (.int q18) :: (.int (nI (kk + 9))) :: (.int (nI tt)) :: (.int q21) :: (.int q22) :: (.ref ml) :: (.ref bg) :: (.ref co) :: (.ref sp) :: (.ref nb0) :: (.ref nb1) :: (.ref nb2) :: (.int (nI nf)) :: (.int (nI bd)) :: (.int (nI mm)) :: (.int v33) :: (.ref pl) :: (.ref se) :: (.ref ke) :: (.ref wi) :: (.ref hs) :: (.ref mo) :: (.ref po) :: (.ref nu) :: (.ref pr) :: (.ref sq) :: (.ref xa) :: (.ref sa) :: (.ref n64) :: (.ref m64) :: (.ref ex) :: (.ref wh) :: (.ref sd) :: (.ref tk) :: (.int v52) :: (.int v53) :: (.int v54) :: (.ref hd) :: (.ref ak) :: (.ref ho) :: (.ref ot) :: []) := by rw [he_147]; exact up_self
              have hF_149 : F_146 g1 = .inl (cs 17, 700, .inl fv) := by rw [he_147, up_ne (ne_ty hT_g1 hT_h0 (by simp))]; exact hF_145
              refine lv_aload_n hx hb dX15_readTerm_434 rfl (lv_at hl 3 rfl) ?_
              refine lv_aload_n hx hb dX15_readTerm_435 rfl (lv_at hl 2 rfl) ?_
              refine pg_get (ci := 15) (v := .int (nI (kk + 9))) (C := RX15) (T := TX15) (N := 59) hx hb hts it_15 hown hK hP hL_h0 hF_148 rfl 19 (by decide) (hts _ kt_741) (fun _ h9 => h9) rfl dX15_readTerm_436 ?_
              refine lv_aload_n hx hb dX15_readTerm_439 rfl (lv_at hl 2 rfl) ?_
              refine pg_get (ci := 15) (v := .int (nI tt)) (C := RX15) (T := TX15) (N := 59) hx hb hts it_15 hown hK hP hL_h0 hF_148 rfl 20 (by decide) (hts _ kt_742) (fun _ h9 => h9) rfl dX15_readTerm_440 ?_
              refine lv_iconst (v := 1) hx hb dX15_readTerm_443 (by decide) ?_
              have hFc := pg_free hD hS hA
              refine va_calli (va_runS (As := [.ref g1, .int (nI (kk + 9)), .int (nI tt), .int 1]) (rest := []) ⟨hx, hb, hml, hown, hts⟩ (s_X15_isD l dC dI cs ty gm L H.size F_146 g1 μ 700 (kk + 9) tt 1 hW hL_g1 hT_g1 (by first | omega | assumption) (by first | omega | assumption)) ⟨callB_of 4 hts (gi kt_743) rfl rfl rfl (hts _ kt_659) (hts _ kt_744) (by decide +kernel) ⟨Nat.le_of_ble_eq_true rfl, Nat.le_of_ble_eq_true rfl⟩, (hts _ kt_745)⟩ ⟨fun a U g mk q => ⟨q.1, PTm.calling q.2⟩, fun U hU hWm => ⟨rfl, PTm.mk hU hWm hP hK hD hE hO⟩⟩ rfl rfl hl.1 rfl (lv_room (Nat.le_of_ble_eq_true rfl)) dX15_readTerm_444 ⟨by show _ + 0 ≤ 0; omega, by show _ + 0 ≤ 0; omega⟩) hS (fun q _ h => hFc q h) hFc (fun r_150 u t H1 locs ht hvm hw hB hz1 hk1 hS => ?_)
              obtain ⟨F_151, hB1⟩ := hB
              obtain rfl : F_146 = F_151 := (funext (fun a => hB1.2.2.2 a List.not_mem_nil)).symm
              obtain ⟨hP, hD, hO, hR⟩ := QTm.back hB1 ht hFc hR (fun q h => absurd h List.not_mem_nil)
              generalize H1 = H at hP hS ⊢
              have hw : (r_150 = 0 ∨ (r_150 = 1 ∧ (kk + 9) < tt ∧ ISD (gA (F_146 g1)) tt (kk + 9))) := hw
              have hw_152 := hw
              refine lv_if_eq (tgt := 456) hx hb dX15_readTerm_447 (by decide) (fun c_153 => ?_) (fun c_153 => ?_)
              ·
                refine W.widen (k := 0) (n := 0) (by omega) (by omega) ?_
                exact W.vret hx hb hr (fun t ht hWm => ⟨⟨(), rfl, trivial, ⟨F_146, q17, q18, (nI (kk + 9)), (nI tt), q21, q22, QTm.mk ht hP hD hO hR, hF_148, ⟨Or.inr (Or.inr (Or.inl c_63)), fun h6 => absurd (c_63.symm.trans h6) (by decide), fun _ => ⟨by rw [hk3a hs5z], rfl⟩⟩⟩⟩, hS.F ht⟩) hS.2.2 dX15_readTerm_456
              ·
                refine lv_aload_n hx hb dX15_readTerm_450 rfl (lv_at hl 2 rfl) ?_
                refine lv_bipush (v := 6) hx hb dX15_readTerm_451 (by decide) ?_
                refine pg_put (ci := 15) (v := .int 6) (ty := .int) (C := RX15) (T := TX15) (N := 59) hx hb hts it_15 tyX15 tyX15_ok nmX15 hown hK hP hD hS hL_h0 hF_148 rfl 17 (by decide) (hts _ kt_740) (fun _ h9 => h9) rfl (by decide +kernel) (rfl) (rfl) (Nat.le_of_ble_eq_true rfl) dX15_readTerm_453 (fun H locs hP hD hS => ?_)
                obtain ⟨F_154, he_155, hP, hD, hO, hR⟩ : ∃ G, G = va_up F_146 h0 (.inr (15, (.ref ta) :: (.int (nI zt)) :: (.int (nI zo)) :: (.int (nI ze)) :: (.ref ou) :: (.ref so) :: (.ref ad) :: (.ref na) :: (.ref va) :: (.ref lc) :: (.ref dm) :: (.int v11) :: (.int v12) :: (.ref tg) :: (.int v14) :: (.int v15) :: (.ref pe) :: (.int 6) :: (.int q18) :: (.int (nI (kk + 9))) :: (.int (nI tt)) :: (.int q21) :: (.int q22) :: (.ref ml) :: (.ref bg) :: (.ref co) :: (.ref sp) :: (.ref nb0) :: (.ref nb1) :: (.ref nb2) :: (.int (nI nf)) :: (.int (nI bd)) :: (.int (nI mm)) :: (.int v33) :: (.ref pl) :: (.ref se) :: (.ref ke) :: (.ref wi) :: (.ref hs) :: (.ref mo) :: (.ref po) :: (.ref nu) :: (.ref pr) :: (.ref sq) :: (.ref xa) :: (.ref sa) :: (.ref n64) :: (.ref m64) :: (.ref ex) :: (.ref wh) :: (.ref sd) :: (.ref tk) :: (.int v52) :: (.int v53) :: (.int v54) :: (.ref hd) :: (.ref ak) :: (.ref ho) :: (.ref ot) :: [])) ∧ va_P (dC, dI) vwCl (va_pl L G) H ∧ va_D A (va_pl L G) ∧ OKm cs ty gm L G ∧ FR ty [ρ] F G := ⟨_, rfl, hP, hD, hO.up (shm.mod hT_h0 ⟨v11, v12, v14, v15, 6, q18, (nI (kk + 9)), (nI tt), q21, q22, v33, v52, v53, v54, rfl, (by first | omega | assumption | exact Or.inl rfl | exact Or.inr rfl), (by first | omega | assumption | exact Or.inl rfl | exact Or.inr rfl), (by first | omega | assumption | exact Or.inl rfl | exact Or.inr rfl), (by first | omega | assumption | exact Or.inl rfl | exact Or.inr rfl)⟩), hR.up hT_h0 (by simp)⟩
                have hF_156 : F_154 h0 = .inr (15, (.ref ta) :: (.int (nI zt)) :: (.int (nI zo)) :: (.int (nI ze)) :: (.ref ou) :: (.ref so) :: (.ref ad) :: (.ref na) :: (.ref va) :: (.ref lc) :: (.ref dm) :: (.int v11) :: (.int v12) :: (.ref tg) :: (.int v14) :: (.int v15) :: (.ref pe) :: (.int 6) :: (.int q18) :: (.int (nI (kk + 9))) :: (.int (nI tt)) :: (.int q21) :: (.int q22) :: (.ref ml) :: (.ref bg) :: (.ref co) :: (.ref sp) :: (.ref nb0) :: (.ref nb1) :: (.ref nb2) :: (.int (nI nf)) :: (.int (nI bd)) :: (.int (nI mm)) :: (.int v33) :: (.ref pl) :: (.ref se) :: (.ref ke) :: (.ref wi) :: (.ref hs) :: (.ref mo) :: (.ref po) :: (.ref nu) :: (.ref pr) :: (.ref sq) :: (.ref xa) :: (.ref sa) :: (.ref n64) :: (.ref m64) :: (.ref ex) :: (.ref wh) :: (.ref sd) :: (.ref tk) :: (.int v52) :: (.int v53) :: (.int v54) :: (.ref hd) :: (.ref ak) :: (.ref ho) :: (.ref ot) :: []) := by rw [he_155]; exact up_self
                have hF_157 : F_154 g1 = .inl (cs 17, 700, .inl fv) := by rw [he_155, up_ne (ne_ty hT_g1 hT_h0 (by simp))]; exact hF_149
                refine W.widen (k := 0) (n := 0) (by omega) (by omega) ?_
                exact W.vret hx hb hr (fun t ht hWm => ⟨⟨(), rfl, trivial, ⟨F_154, 6, q18, (nI (kk + 9)), (nI tt), q21, q22, QTm.mk ht hP hD hO hR, hF_156, ⟨Or.inl rfl, fun _ => ⟨(by have h8 := nm1 hw_71 c_72; rw [gA_fun hF_62] at h8; rw [hk3a hs5z] at h8; exact h8), (by have h9 := (bit1 hw_152 c_153).2; rw [gA_fun hF_149] at h9; rw [hk3a hs5z] at h9; exact h9)⟩, fun _ => ⟨by rw [hk3a hs5z], rfl⟩⟩⟩⟩, hS.F ht⟩) hS.2.2 dX15_readTerm_456
          ·
            refine W.widen (k := 0) (n := 0) (by omega) (by omega) ?_
            exact W.vret hx hb hr (fun t ht hWm => ⟨⟨(), rfl, trivial, ⟨F_59, q17, q18, q19, q20, q21, q22, QTm.mk ht hP hD hO hR, hq1, ⟨Or.inr (Or.inr (Or.inl c_63)), fun h6 => absurd (c_63.symm.trans h6) (by decide), fun h9 => (hs5.elim (fun h5 => absurd h5 c_64) (fun h => absurd h9.c0 h.2))⟩⟩⟩, hS.F ht⟩) hS.2.2 dX15_readTerm_406
      ·
        refine lv_aload_n hx hb dX15_readTerm_90 rfl (lv_at hl 3 rfl) ?_
        refine lv_iload hx hb dX15_readTerm_91 (lv_at hl 1 rfl) ?_
        refine lv_iload_n hx hb dX15_readTerm_93 rfl (lv_at hl 5 rfl) ?_
        obtain ⟨q_158, v_159, hr_q_158, hX_q_158⟩ := hG.2.2 ("PostGateModel", 250, "all", [97, 108, 108]) (by decide +kernel)
        have hX_q_158 : SXc q_158 v_159 3 (cct [97, 108, 108]) A s s.heap := hX_q_158
        obtain ⟨xo_q_158, xc_q_158, xv_q_158, xt_q_158, xn_q_158⟩ := id hX_q_158
        have hr_q_158 : vk_R "PostGateModel" 250 "all" q_158 s := hr_q_158
        refine va_ldcS hx hb hown hr_q_158 dX15_readTerm_94 ?_
        obtain ⟨hq_160, hq_161⟩ := hW.octs hL_g1 hT_g1
        have hFc := pg_free hD hS hA
        refine va_calli (va_runS (As := [.ref g1, .int (nI kk), .int (nI tt), .ref q_158]) (rest := []) ⟨hx, hb, hml, hown, hts⟩ (s_X15_is l dC dI cs ty gm L H.size F_54 g1 μ 700 q_158 v_159 3 (cct [97, 108, 108]) kk tt hW hL_g1 hT_g1 (by first | omega | assumption) (by first | omega | assumption)) ⟨callB_of 4 hts (gi kt_684) rfl rfl rfl (hts _ kt_659) (hts _ kt_685) (by decide +kernel) ⟨Nat.le_of_ble_eq_true rfl, Nat.le_of_ble_eq_true rfl⟩, (hts _ kt_686)⟩ ⟨fun a U g mk q => ⟨q.1, PTEm.calling q.2⟩, fun U hU hWm => ⟨rfl, PTEm.mk hU hWm hP hK hD hE hO hG (fun x hx => by rw [List.mem_singleton] at hx; subst hx; exact hX_q_158) hS hFc⟩⟩ rfl rfl hl.1 rfl (lv_room (Nat.le_of_ble_eq_true rfl)) dX15_readTerm_96 ⟨by show _ + 0 ≤ 0; omega, by show _ + 0 ≤ 0; omega⟩) hS (fun q _ h => hFc q h) hFc (fun r_162 u t H1 locs ht hvm hw hB hz1 hk1 hS => ?_)
        obtain ⟨F_163, hB1⟩ := hB
        obtain rfl : F_54 = F_163 := (funext (fun a => hB1.2.2.2 a List.not_mem_nil)).symm
        obtain ⟨hP, hD, hO, hR⟩ := QTm.back hB1 ht hFc hR (fun q h => absurd h List.not_mem_nil)
        generalize H1 = H at hP hS ⊢
        have hw : ((r_162 = 1 ∧ isP (gA (F_54 g1)) kk tt (cct [97, 108, 108]) 3) ∨ (r_162 = 0 ∧ ¬ isP (gA (F_54 g1)) kk tt (cct [97, 108, 108]) 3)) := hw
        have hw_164 := hw
        refine lv_if_eq (tgt := 110) hx hb dX15_readTerm_99 (by decide) (fun c_165 => ?_) (fun c_165 => ?_)
        ·
          refine lv_aload_n hx hb dX15_readTerm_110 rfl (lv_at hl 3 rfl) ?_
          refine lv_iload hx hb dX15_readTerm_111 (lv_at hl 1 rfl) ?_
          refine lv_iload_n hx hb dX15_readTerm_113 rfl (lv_at hl 5 rfl) ?_
          obtain ⟨q_166, v_167, hr_q_166, hX_q_166⟩ := hG.2.2 ("PostGateModel", 252, "include:", [105, 110, 99, 108, 117, 100, 101, 58]) (by decide +kernel)
          have hX_q_166 : SXc q_166 v_167 8 (cct [105, 110, 99, 108, 117, 100, 101, 58]) A s s.heap := hX_q_166
          obtain ⟨xo_q_166, xc_q_166, xv_q_166, xt_q_166, xn_q_166⟩ := id hX_q_166
          have hr_q_166 : vk_R "PostGateModel" 252 "include:" q_166 s := hr_q_166
          refine va_ldcS hx hb hown hr_q_166 dX15_readTerm_114 ?_
          have hFc := pg_free hD hS hA
          refine va_calli (va_runS (As := [.ref g1, .int (nI kk), .int (nI tt), .ref q_166]) (rest := []) ⟨hx, hb, hml, hown, hts⟩ (s_X15_begins l dC dI cs ty gm L H.size F_54 g1 μ 700 q_166 v_167 8 (cct [105, 110, 99, 108, 117, 100, 101, 58]) kk tt hW hL_g1 hT_g1 (by first | omega | assumption) (by first | omega | assumption)) ⟨callB_of 4 hts (gi kt_723) rfl rfl rfl (hts _ kt_659) (hts _ kt_724) (by decide +kernel) ⟨Nat.le_of_ble_eq_true rfl, Nat.le_of_ble_eq_true rfl⟩, (hts _ kt_725)⟩ ⟨fun a U g mk q => ⟨q.1, PTEm.calling q.2⟩, fun U hU hWm => ⟨rfl, PTEm.mk hU hWm hP hK hD hE hO hG (fun x hx => by rw [List.mem_singleton] at hx; subst hx; exact hX_q_166) hS hFc⟩⟩ rfl rfl hl.1 rfl (lv_room (Nat.le_of_ble_eq_true rfl)) dX15_readTerm_116 ⟨by show _ + 0 ≤ 0; omega, by show _ + 0 ≤ 0; omega⟩) hS (fun q _ h => hFc q h) hFc (fun r_168 u t H1 locs ht hvm hw hB hz1 hk1 hS => ?_)
          obtain ⟨F_169, hB1⟩ := hB
          obtain rfl : F_54 = F_169 := (funext (fun a => hB1.2.2.2 a List.not_mem_nil)).symm
          obtain ⟨hP, hD, hO, hR⟩ := QTm.back hB1 ht hFc hR (fun q h => absurd h List.not_mem_nil)
          generalize H1 = H at hP hS ⊢
          have hw : ((r_168 = 1 ∧ bgP (gA (F_54 g1)) kk tt (cct [105, 110, 99, 108, 117, 100, 101, 58]) 8) ∨ (r_168 = 0 ∧ ¬ bgP (gA (F_54 g1)) kk tt (cct [105, 110, 99, 108, 117, 100, 101, 58]) 8)) := hw
          have hw_170 := hw
          refine lv_if_eq (tgt := 160) hx hb dX15_readTerm_119 (by decide) (fun c_171 => ?_) (fun c_171 => ?_)
          ·
            refine lv_aload_n hx hb dX15_readTerm_160 rfl (lv_at hl 3 rfl) ?_
            refine lv_iload hx hb dX15_readTerm_161 (lv_at hl 1 rfl) ?_
            refine lv_iload_n hx hb dX15_readTerm_163 rfl (lv_at hl 5 rfl) ?_
            obtain ⟨q_172, v_173, hr_q_172, hX_q_172⟩ := hG.2.2 ("PostGateModel", 261, "exists:", [101, 120, 105, 115, 116, 115, 58]) (by decide +kernel)
            have hX_q_172 : SXc q_172 v_173 7 (cct [101, 120, 105, 115, 116, 115, 58]) A s s.heap := hX_q_172
            obtain ⟨xo_q_172, xc_q_172, xv_q_172, xt_q_172, xn_q_172⟩ := id hX_q_172
            have hr_q_172 : vk_R "PostGateModel" 261 "exists:" q_172 s := hr_q_172
            refine va_ldcwS hx hb hown hr_q_172 dX15_readTerm_164 ?_
            have hFc := pg_free hD hS hA
            refine va_calli (va_runS (As := [.ref g1, .int (nI kk), .int (nI tt), .ref q_172]) (rest := []) ⟨hx, hb, hml, hown, hts⟩ (s_X15_begins l dC dI cs ty gm L H.size F_54 g1 μ 700 q_172 v_173 7 (cct [101, 120, 105, 115, 116, 115, 58]) kk tt hW hL_g1 hT_g1 (by first | omega | assumption) (by first | omega | assumption)) ⟨callB_of 4 hts (gi kt_723) rfl rfl rfl (hts _ kt_659) (hts _ kt_724) (by decide +kernel) ⟨Nat.le_of_ble_eq_true rfl, Nat.le_of_ble_eq_true rfl⟩, (hts _ kt_725)⟩ ⟨fun a U g mk q => ⟨q.1, PTEm.calling q.2⟩, fun U hU hWm => ⟨rfl, PTEm.mk hU hWm hP hK hD hE hO hG (fun x hx => by rw [List.mem_singleton] at hx; subst hx; exact hX_q_172) hS hFc⟩⟩ rfl rfl hl.1 rfl (lv_room (Nat.le_of_ble_eq_true rfl)) dX15_readTerm_167 ⟨by show _ + 0 ≤ 0; omega, by show _ + 0 ≤ 0; omega⟩) hS (fun q _ h => hFc q h) hFc (fun r_174 u t H1 locs ht hvm hw hB hz1 hk1 hS => ?_)
            obtain ⟨F_175, hB1⟩ := hB
            obtain rfl : F_54 = F_175 := (funext (fun a => hB1.2.2.2 a List.not_mem_nil)).symm
            obtain ⟨hP, hD, hO, hR⟩ := QTm.back hB1 ht hFc hR (fun q h => absurd h List.not_mem_nil)
            generalize H1 = H at hP hS ⊢
            have hw : ((r_174 = 1 ∧ bgP (gA (F_54 g1)) kk tt (cct [101, 120, 105, 115, 116, 115, 58]) 7) ∨ (r_174 = 0 ∧ ¬ bgP (gA (F_54 g1)) kk tt (cct [101, 120, 105, 115, 116, 115, 58]) 7)) := hw
            have hw_176 := hw
            refine lv_if_eq (tgt := 211) hx hb dX15_readTerm_170 (by decide) (fun c_177 => ?_) (fun c_177 => ?_)
            ·
              refine lv_aload_n hx hb dX15_readTerm_211 rfl (lv_at hl 3 rfl) ?_
              refine lv_iload hx hb dX15_readTerm_212 (lv_at hl 1 rfl) ?_
              refine lv_iload_n hx hb dX15_readTerm_214 rfl (lv_at hl 5 rfl) ?_
              obtain ⟨q_178, v_179, hr_q_178, hX_q_178⟩ := hG.2.2 ("PostGateModel", 263, "ip4:", [105, 112, 52, 58]) (by decide +kernel)
              have hX_q_178 : SXc q_178 v_179 4 (cct [105, 112, 52, 58]) A s s.heap := hX_q_178
              obtain ⟨xo_q_178, xc_q_178, xv_q_178, xt_q_178, xn_q_178⟩ := id hX_q_178
              have hr_q_178 : vk_R "PostGateModel" 263 "ip4:" q_178 s := hr_q_178
              refine va_ldcwS hx hb hown hr_q_178 dX15_readTerm_215 ?_
              have hFc := pg_free hD hS hA
              refine va_calli (va_runS (As := [.ref g1, .int (nI kk), .int (nI tt), .ref q_178]) (rest := []) ⟨hx, hb, hml, hown, hts⟩ (s_X15_begins l dC dI cs ty gm L H.size F_54 g1 μ 700 q_178 v_179 4 (cct [105, 112, 52, 58]) kk tt hW hL_g1 hT_g1 (by first | omega | assumption) (by first | omega | assumption)) ⟨callB_of 4 hts (gi kt_723) rfl rfl rfl (hts _ kt_659) (hts _ kt_724) (by decide +kernel) ⟨Nat.le_of_ble_eq_true rfl, Nat.le_of_ble_eq_true rfl⟩, (hts _ kt_725)⟩ ⟨fun a U g mk q => ⟨q.1, PTEm.calling q.2⟩, fun U hU hWm => ⟨rfl, PTEm.mk hU hWm hP hK hD hE hO hG (fun x hx => by rw [List.mem_singleton] at hx; subst hx; exact hX_q_178) hS hFc⟩⟩ rfl rfl hl.1 rfl (lv_room (Nat.le_of_ble_eq_true rfl)) dX15_readTerm_218 ⟨by show _ + 0 ≤ 0; omega, by show _ + 0 ≤ 0; omega⟩) hS (fun q _ h => hFc q h) hFc (fun r_180 u t H1 locs ht hvm hw hB hz1 hk1 hS => ?_)
              obtain ⟨F_181, hB1⟩ := hB
              obtain rfl : F_54 = F_181 := (funext (fun a => hB1.2.2.2 a List.not_mem_nil)).symm
              obtain ⟨hP, hD, hO, hR⟩ := QTm.back hB1 ht hFc hR (fun q h => absurd h List.not_mem_nil)
              generalize H1 = H at hP hS ⊢
              have hw : ((r_180 = 1 ∧ bgP (gA (F_54 g1)) kk tt (cct [105, 112, 52, 58]) 4) ∨ (r_180 = 0 ∧ ¬ bgP (gA (F_54 g1)) kk tt (cct [105, 112, 52, 58]) 4)) := hw
              have hw_182 := hw
              refine lv_if_eq (tgt := 281) hx hb dX15_readTerm_221 (by decide) (fun c_183 => ?_) (fun c_183 => ?_)
              ·
                refine lv_aload_n hx hb dX15_readTerm_281 rfl (lv_at hl 3 rfl) ?_
                refine lv_iload hx hb dX15_readTerm_282 (lv_at hl 1 rfl) ?_
                refine lv_iload_n hx hb dX15_readTerm_284 rfl (lv_at hl 5 rfl) ?_
                obtain ⟨q_184, v_185, hr_q_184, hX_q_184⟩ := hG.2.2 ("PostGateModel", 274, "a", [97]) (by decide +kernel)
                have hX_q_184 : SXc q_184 v_185 1 (cct [97]) A s s.heap := hX_q_184
                obtain ⟨xo_q_184, xc_q_184, xv_q_184, xt_q_184, xn_q_184⟩ := id hX_q_184
                have hr_q_184 : vk_R "PostGateModel" 274 "a" q_184 s := hr_q_184
                refine va_ldcwS hx hb hown hr_q_184 dX15_readTerm_285 ?_
                have hFc := pg_free hD hS hA
                refine va_calli (va_runS (As := [.ref g1, .int (nI kk), .int (nI tt), .ref q_184]) (rest := []) ⟨hx, hb, hml, hown, hts⟩ (s_X15_begins l dC dI cs ty gm L H.size F_54 g1 μ 700 q_184 v_185 1 (cct [97]) kk tt hW hL_g1 hT_g1 (by first | omega | assumption) (by first | omega | assumption)) ⟨callB_of 4 hts (gi kt_723) rfl rfl rfl (hts _ kt_659) (hts _ kt_724) (by decide +kernel) ⟨Nat.le_of_ble_eq_true rfl, Nat.le_of_ble_eq_true rfl⟩, (hts _ kt_725)⟩ ⟨fun a U g mk q => ⟨q.1, PTEm.calling q.2⟩, fun U hU hWm => ⟨rfl, PTEm.mk hU hWm hP hK hD hE hO hG (fun x hx => by rw [List.mem_singleton] at hx; subst hx; exact hX_q_184) hS hFc⟩⟩ rfl rfl hl.1 rfl (lv_room (Nat.le_of_ble_eq_true rfl)) dX15_readTerm_288 ⟨by show _ + 0 ≤ 0; omega, by show _ + 0 ≤ 0; omega⟩) hS (fun q _ h => hFc q h) hFc (fun r_186 u t H1 locs ht hvm hw hB hz1 hk1 hS => ?_)
                obtain ⟨F_187, hB1⟩ := hB
                obtain rfl : F_54 = F_187 := (funext (fun a => hB1.2.2.2 a List.not_mem_nil)).symm
                obtain ⟨hP, hD, hO, hR⟩ := QTm.back hB1 ht hFc hR (fun q h => absurd h List.not_mem_nil)
                generalize H1 = H at hP hS ⊢
                have hw : ((r_186 = 1 ∧ bgP (gA (F_54 g1)) kk tt (cct [97]) 1) ∨ (r_186 = 0 ∧ ¬ bgP (gA (F_54 g1)) kk tt (cct [97]) 1)) := hw
                have hw_188 := hw
                refine lv_if_eq (tgt := 338) hx hb dX15_readTerm_291 (by decide) (fun c_189 => ?_) (fun c_189 => ?_)
                ·
                  refine lv_aload_n hx hb dX15_readTerm_338 rfl (lv_at hl 3 rfl) ?_
                  refine lv_iload hx hb dX15_readTerm_339 (lv_at hl 1 rfl) ?_
                  refine lv_iload_n hx hb dX15_readTerm_341 rfl (lv_at hl 5 rfl) ?_
                  obtain ⟨q_190, v_191, hr_q_190, hX_q_190⟩ := hG.2.2 ("PostGateModel", 280, "mx", [109, 120]) (by decide +kernel)
                  have hX_q_190 : SXc q_190 v_191 2 (cct [109, 120]) A s s.heap := hX_q_190
                  obtain ⟨xo_q_190, xc_q_190, xv_q_190, xt_q_190, xn_q_190⟩ := id hX_q_190
                  have hr_q_190 : vk_R "PostGateModel" 280 "mx" q_190 s := hr_q_190
                  refine va_ldcwS hx hb hown hr_q_190 dX15_readTerm_342 ?_
                  have hFc := pg_free hD hS hA
                  refine va_calli (va_runS (As := [.ref g1, .int (nI kk), .int (nI tt), .ref q_190]) (rest := []) ⟨hx, hb, hml, hown, hts⟩ (s_X15_begins l dC dI cs ty gm L H.size F_54 g1 μ 700 q_190 v_191 2 (cct [109, 120]) kk tt hW hL_g1 hT_g1 (by first | omega | assumption) (by first | omega | assumption)) ⟨callB_of 4 hts (gi kt_723) rfl rfl rfl (hts _ kt_659) (hts _ kt_724) (by decide +kernel) ⟨Nat.le_of_ble_eq_true rfl, Nat.le_of_ble_eq_true rfl⟩, (hts _ kt_725)⟩ ⟨fun a U g mk q => ⟨q.1, PTEm.calling q.2⟩, fun U hU hWm => ⟨rfl, PTEm.mk hU hWm hP hK hD hE hO hG (fun x hx => by rw [List.mem_singleton] at hx; subst hx; exact hX_q_190) hS hFc⟩⟩ rfl rfl hl.1 rfl (lv_room (Nat.le_of_ble_eq_true rfl)) dX15_readTerm_345 ⟨by show _ + 0 ≤ 0; omega, by show _ + 0 ≤ 0; omega⟩) hS (fun q _ h => hFc q h) hFc (fun r_192 u t H1 locs ht hvm hw hB hz1 hk1 hS => ?_)
                  obtain ⟨F_193, hB1⟩ := hB
                  obtain rfl : F_54 = F_193 := (funext (fun a => hB1.2.2.2 a List.not_mem_nil)).symm
                  obtain ⟨hP, hD, hO, hR⟩ := QTm.back hB1 ht hFc hR (fun q h => absurd h List.not_mem_nil)
                  generalize H1 = H at hP hS ⊢
                  have hw : ((r_192 = 1 ∧ bgP (gA (F_54 g1)) kk tt (cct [109, 120]) 2) ∨ (r_192 = 0 ∧ ¬ bgP (gA (F_54 g1)) kk tt (cct [109, 120]) 2)) := hw
                  have hw_194 := hw
                  refine lv_if_eq (tgt := 392) hx hb dX15_readTerm_348 (by decide) (fun c_195 => ?_) (fun c_195 => ?_)
                  ·
                    refine W.widen (k := 0) (n := 0) (by omega) (by omega) ?_
                    exact jn_58 (8, (-1), (-1), 32, v22) F_54 (⟨hk4a, Or.inl rfl, fun _ _ => rfl⟩) hO hR _ _ hP hD hS ls (lv_sub hl [0, 1, 2, 3, 4, 5] rfl)
                  ·
                    have hb345 := (nm1 hw_194 c_195).1
                    refine lv_iload_n hx hb dX15_readTerm_351 rfl (lv_at hl 5 rfl) ?_
                    refine lv_iload hx hb dX15_readTerm_352 (lv_at hl 1 rfl) ?_
                    refine lv_iconst (v := 2) hx hb dX15_readTerm_354 (by decide) ?_
                    refine lv_iadd hx hb dX15_readTerm_355 ?_
                    refine lv_topi (fun x_196 ex_196 => ?_)
                    obtain rfl : x_196 = (nI (kk + 2)) := ex_196.trans (nI_add kk 2)
                    refine lv_icmp_eq (tgt := 381) hx hb dX15_readTerm_356 (by decide) (fun c_197 => ?_) (fun c_197 => ?_)
                    ·
                      have hi_198 : tt = (kk + 2) := (nI_eq (a := tt) (b := (kk + 2)) (by omega) (by omega)).mp c_197
                      refine lv_aload_n hx hb dX15_readTerm_381 rfl (lv_at hl 2 rfl) ?_
                      refine lv_aload_n hx hb dX15_readTerm_382 rfl (lv_at hl 3 rfl) ?_
                      refine lv_iload hx hb dX15_readTerm_383 (lv_at hl 1 rfl) ?_
                      refine lv_iconst (v := 2) hx hb dX15_readTerm_385 (by decide) ?_
                      refine lv_iadd hx hb dX15_readTerm_386 ?_
                      refine lv_topi (fun x_199 ex_199 => ?_)
                      obtain rfl : x_199 = (nI (kk + 2)) := ex_199.trans (nI_add kk 2)
                      refine lv_iload_n hx hb dX15_readTerm_387 rfl (lv_at hl 5 rfl) ?_
                      refine lv_iconst (v := 3) hx hb dX15_readTerm_388 (by decide) ?_
                      have hFc := pg_free hD hS hA
                      refine va_callv (va_runV (As := [.ref g1, .int (nI (kk + 2)), .int (nI tt), .int 3]) (rest := []) ⟨hx, hb, hml, hown, hts⟩ (s_X15_readHost l dC dI cs ty gm L H.size F_54 h0 ρ ta ou so ad na va lc dm tg pe ml bg co sp nb0 nb1 nb2 pl se ke wi hs mo po nu pr sq xa sa n64 m64 ex wh sd tk hd ak ho ot sx s0 s1 s2 nf bd mm zo ze zt v11 v12 v14 v15 8 q18 (-1) (-1) 32 v22 v33 v52 v53 v54 g1 μ fv (kk + 2) tt 3 hW hL_h0 hT_h0 hL_g1 hT_g1 hk4a (by first | omega | assumption) (by first | omega | assumption) (by first | omega | assumption) (by first | omega | assumption) hF_57 (by first | omega | assumption) (by first | omega | assumption) (by first | omega | assumption) (rfl)) ⟨callB_of 4 hts (gi kt_750) rfl rfl rfl (hts _ kt_659) (hts _ kt_751) (by decide +kernel) ⟨Nat.le_of_ble_eq_true rfl, Nat.le_of_ble_eq_true rfl⟩, (hts _ kt_752), (hts _ kt_753)⟩ ⟨fun a U g mk q => ⟨q.1, PTm.calling q.2⟩, pg_recv hK hP hL_h0 hk4a (q := (RX15, TX15, 59)) rfl, fun U hU hWm => ⟨rfl, PTm.mk hU hWm hP hK hD hE hO⟩⟩ rfl rfl hl.1 rfl (lv_room (Nat.le_of_ble_eq_true rfl)) dX15_readTerm_389 ⟨by show _ + 0 ≤ 0; omega, by show _ + 0 ≤ 0; omega⟩) hS (fun q _ h => hFc q h) hFc (fun u t H1 locs ht hvm hw hB hz1 hk1 hS => ?_)
                      obtain ⟨F_201, u17_202, u19_203, u20_204, u21_205, hB1, hq_206, hq_207⟩ := hB
                      obtain ⟨hP, hD, hO, hR⟩ := QTm.back hB1 ht hFc hR (fun q h => by simp only [List.mem_cons, List.not_mem_nil, or_false] at h ⊢; omega)
                      have hF_208 : F_201 g1 = .inl (cs 17, 700, .inl fv) := (hB1.2.2.2 g1 (by rw [hT_g1]; simp only [List.mem_cons, List.not_mem_nil, or_false]; omega)).trans hF_57
                      generalize H1 = H at hP hS ⊢
                      refine W.widen (k := 0) (n := 0) (by omega) (by omega) ?_
                      exact jn_58 (u17_202, u19_203, u20_204, u21_205, v22) F_201 (⟨hq_206, hq_207.imp id (fun h => ⟨by rw [h.1]; decide, h.2⟩), fun h5 h9 => (c0_ne (by have h8 := (nm1 hw_194 c_195).2; rw [gA_fun hF_57] at h8; exact h8) (by omega) (hk3a h5) h9 (by decide)).elim⟩) hO hR _ _ hP hD hS ls (lv_sub hl [0, 1, 2, 3, 4, 5] rfl)
                    ·
                      have hi_209 : tt ≠ (kk + 2) := fun q => c_197 (by rw [q])
                      refine lv_aload_n hx hb dX15_readTerm_359 rfl (lv_at hl 3 rfl) ?_
                      refine lv_iload hx hb dX15_readTerm_360 (lv_at hl 1 rfl) ?_
                      refine lv_iconst (v := 2) hx hb dX15_readTerm_362 (by decide) ?_
                      refine lv_iadd hx hb dX15_readTerm_363 ?_
                      refine lv_topi (fun x_210 ex_210 => ?_)
                      obtain rfl : x_210 = (nI (kk + 2)) := ex_210.trans (nI_add kk 2)
                      refine pg_bald hx hb hK hP hL_g1 1 hF_57 rfl (vp_in_nI (by omega) (by omega)) dX15_readTerm_364 ?_
                      refine lv_topi (fun x_211 ex_211 => ?_)
                      obtain rfl : x_211 = fv (kk + 2) := ex_211.trans (congrArg fv (show ((nI (kk + 2)) : Int32).toNatClampNeg = (kk + 2) from nI_clamp (by omega)))
                      refine lv_bipush (v := 58) hx hb dX15_readTerm_365 (by decide) ?_
                      refine lv_icmp_eq (tgt := 381) hx hb dX15_readTerm_367 (by decide) (fun c_212 => ?_) (fun c_212 => ?_)
                      ·
                        refine lv_aload_n hx hb dX15_readTerm_381 rfl (lv_at hl 2 rfl) ?_
                        refine lv_aload_n hx hb dX15_readTerm_382 rfl (lv_at hl 3 rfl) ?_
                        refine lv_iload hx hb dX15_readTerm_383 (lv_at hl 1 rfl) ?_
                        refine lv_iconst (v := 2) hx hb dX15_readTerm_385 (by decide) ?_
                        refine lv_iadd hx hb dX15_readTerm_386 ?_
                        refine lv_topi (fun x_213 ex_213 => ?_)
                        obtain rfl : x_213 = (nI (kk + 2)) := ex_213.trans (nI_add kk 2)
                        refine lv_iload_n hx hb dX15_readTerm_387 rfl (lv_at hl 5 rfl) ?_
                        refine lv_iconst (v := 3) hx hb dX15_readTerm_388 (by decide) ?_
                        have hFc := pg_free hD hS hA
                        refine va_callv (va_runV (As := [.ref g1, .int (nI (kk + 2)), .int (nI tt), .int 3]) (rest := []) ⟨hx, hb, hml, hown, hts⟩ (s_X15_readHost l dC dI cs ty gm L H.size F_54 h0 ρ ta ou so ad na va lc dm tg pe ml bg co sp nb0 nb1 nb2 pl se ke wi hs mo po nu pr sq xa sa n64 m64 ex wh sd tk hd ak ho ot sx s0 s1 s2 nf bd mm zo ze zt v11 v12 v14 v15 8 q18 (-1) (-1) 32 v22 v33 v52 v53 v54 g1 μ fv (kk + 2) tt 3 hW hL_h0 hT_h0 hL_g1 hT_g1 hk4a (by first | omega | assumption) (by first | omega | assumption) (by first | omega | assumption) (by first | omega | assumption) hF_57 (by first | omega | assumption) (by first | omega | assumption) (by first | omega | assumption) (rfl)) ⟨callB_of 4 hts (gi kt_750) rfl rfl rfl (hts _ kt_659) (hts _ kt_751) (by decide +kernel) ⟨Nat.le_of_ble_eq_true rfl, Nat.le_of_ble_eq_true rfl⟩, (hts _ kt_752), (hts _ kt_753)⟩ ⟨fun a U g mk q => ⟨q.1, PTm.calling q.2⟩, pg_recv hK hP hL_h0 hk4a (q := (RX15, TX15, 59)) rfl, fun U hU hWm => ⟨rfl, PTm.mk hU hWm hP hK hD hE hO⟩⟩ rfl rfl hl.1 rfl (lv_room (Nat.le_of_ble_eq_true rfl)) dX15_readTerm_389 ⟨by show _ + 0 ≤ 0; omega, by show _ + 0 ≤ 0; omega⟩) hS (fun q _ h => hFc q h) hFc (fun u t H1 locs ht hvm hw hB hz1 hk1 hS => ?_)
                        obtain ⟨F_215, u17_216, u19_217, u20_218, u21_219, hB1, hq_220, hq_221⟩ := hB
                        obtain ⟨hP, hD, hO, hR⟩ := QTm.back hB1 ht hFc hR (fun q h => by simp only [List.mem_cons, List.not_mem_nil, or_false] at h ⊢; omega)
                        have hF_222 : F_215 g1 = .inl (cs 17, 700, .inl fv) := (hB1.2.2.2 g1 (by rw [hT_g1]; simp only [List.mem_cons, List.not_mem_nil, or_false]; omega)).trans hF_57
                        generalize H1 = H at hP hS ⊢
                        refine W.widen (k := 0) (n := 0) (by omega) (by omega) ?_
                        exact jn_58 (u17_216, u19_217, u20_218, u21_219, v22) F_215 (⟨hq_220, hq_221.imp id (fun h => ⟨by rw [h.1]; decide, h.2⟩), fun h5 h9 => (c0_ne (by have h8 := (nm1 hw_194 c_195).2; rw [gA_fun hF_57] at h8; exact h8) (by omega) (hk3a h5) h9 (by decide)).elim⟩) hO hR _ _ hP hD hS ls (lv_sub hl [0, 1, 2, 3, 4, 5] rfl)
                      ·
                        refine lv_aload_n hx hb dX15_readTerm_370 rfl (lv_at hl 3 rfl) ?_
                        refine lv_iload hx hb dX15_readTerm_371 (lv_at hl 1 rfl) ?_
                        refine lv_iconst (v := 2) hx hb dX15_readTerm_373 (by decide) ?_
                        refine lv_iadd hx hb dX15_readTerm_374 ?_
                        refine lv_topi (fun x_223 ex_223 => ?_)
                        obtain rfl : x_223 = (nI (kk + 2)) := ex_223.trans (nI_add kk 2)
                        refine pg_bald hx hb hK hP hL_g1 1 hF_57 rfl (vp_in_nI (by omega) (by omega)) dX15_readTerm_375 ?_
                        refine lv_topi (fun x_224 ex_224 => ?_)
                        obtain rfl : x_224 = fv (kk + 2) := ex_224.trans (congrArg fv (show ((nI (kk + 2)) : Int32).toNatClampNeg = (kk + 2) from nI_clamp (by omega)))
                        refine lv_bipush (v := 47) hx hb dX15_readTerm_376 (by decide) ?_
                        refine lv_icmp_ne (tgt := 392) hx hb dX15_readTerm_378 (by decide) (fun c_225 => ?_) (fun c_225 => ?_)
                        ·
                          refine W.widen (k := 0) (n := 0) (by omega) (by omega) ?_
                          exact jn_58 (8, (-1), (-1), 32, v22) F_54 (⟨hk4a, Or.inl rfl, fun _ _ => rfl⟩) hO hR _ _ hP hD hS ls (lv_sub hl [0, 1, 2, 3, 4, 5] rfl)
                        ·
                          refine lv_aload_n hx hb dX15_readTerm_381 rfl (lv_at hl 2 rfl) ?_
                          refine lv_aload_n hx hb dX15_readTerm_382 rfl (lv_at hl 3 rfl) ?_
                          refine lv_iload hx hb dX15_readTerm_383 (lv_at hl 1 rfl) ?_
                          refine lv_iconst (v := 2) hx hb dX15_readTerm_385 (by decide) ?_
                          refine lv_iadd hx hb dX15_readTerm_386 ?_
                          refine lv_topi (fun x_226 ex_226 => ?_)
                          obtain rfl : x_226 = (nI (kk + 2)) := ex_226.trans (nI_add kk 2)
                          refine lv_iload_n hx hb dX15_readTerm_387 rfl (lv_at hl 5 rfl) ?_
                          refine lv_iconst (v := 3) hx hb dX15_readTerm_388 (by decide) ?_
                          have hFc := pg_free hD hS hA
                          refine va_callv (va_runV (As := [.ref g1, .int (nI (kk + 2)), .int (nI tt), .int 3]) (rest := []) ⟨hx, hb, hml, hown, hts⟩ (s_X15_readHost l dC dI cs ty gm L H.size F_54 h0 ρ ta ou so ad na va lc dm tg pe ml bg co sp nb0 nb1 nb2 pl se ke wi hs mo po nu pr sq xa sa n64 m64 ex wh sd tk hd ak ho ot sx s0 s1 s2 nf bd mm zo ze zt v11 v12 v14 v15 8 q18 (-1) (-1) 32 v22 v33 v52 v53 v54 g1 μ fv (kk + 2) tt 3 hW hL_h0 hT_h0 hL_g1 hT_g1 hk4a (by first | omega | assumption) (by first | omega | assumption) (by first | omega | assumption) (by first | omega | assumption) hF_57 (by first | omega | assumption) (by first | omega | assumption) (by first | omega | assumption) (rfl)) ⟨callB_of 4 hts (gi kt_750) rfl rfl rfl (hts _ kt_659) (hts _ kt_751) (by decide +kernel) ⟨Nat.le_of_ble_eq_true rfl, Nat.le_of_ble_eq_true rfl⟩, (hts _ kt_752), (hts _ kt_753)⟩ ⟨fun a U g mk q => ⟨q.1, PTm.calling q.2⟩, pg_recv hK hP hL_h0 hk4a (q := (RX15, TX15, 59)) rfl, fun U hU hWm => ⟨rfl, PTm.mk hU hWm hP hK hD hE hO⟩⟩ rfl rfl hl.1 rfl (lv_room (Nat.le_of_ble_eq_true rfl)) dX15_readTerm_389 ⟨by show _ + 0 ≤ 0; omega, by show _ + 0 ≤ 0; omega⟩) hS (fun q _ h => hFc q h) hFc (fun u t H1 locs ht hvm hw hB hz1 hk1 hS => ?_)
                          obtain ⟨F_228, u17_229, u19_230, u20_231, u21_232, hB1, hq_233, hq_234⟩ := hB
                          obtain ⟨hP, hD, hO, hR⟩ := QTm.back hB1 ht hFc hR (fun q h => by simp only [List.mem_cons, List.not_mem_nil, or_false] at h ⊢; omega)
                          have hF_235 : F_228 g1 = .inl (cs 17, 700, .inl fv) := (hB1.2.2.2 g1 (by rw [hT_g1]; simp only [List.mem_cons, List.not_mem_nil, or_false]; omega)).trans hF_57
                          generalize H1 = H at hP hS ⊢
                          refine W.widen (k := 0) (n := 0) (by omega) (by omega) ?_
                          exact jn_58 (u17_229, u19_230, u20_231, u21_232, v22) F_228 (⟨hq_233, hq_234.imp id (fun h => ⟨by rw [h.1]; decide, h.2⟩), fun h5 h9 => (c0_ne (by have h8 := (nm1 hw_194 c_195).2; rw [gA_fun hF_57] at h8; exact h8) (by omega) (hk3a h5) h9 (by decide)).elim⟩) hO hR _ _ hP hD hS ls (lv_sub hl [0, 1, 2, 3, 4, 5] rfl)
                ·
                  have hb288 := (nm1 hw_188 c_189).1
                  refine lv_iload_n hx hb dX15_readTerm_294 rfl (lv_at hl 5 rfl) ?_
                  refine lv_iload hx hb dX15_readTerm_295 (lv_at hl 1 rfl) ?_
                  refine lv_iconst (v := 1) hx hb dX15_readTerm_297 (by decide) ?_
                  refine lv_iadd hx hb dX15_readTerm_298 ?_
                  refine lv_topi (fun x_236 ex_236 => ?_)
                  obtain rfl : x_236 = (nI (kk + 1)) := ex_236.trans (nI_add kk 1)
                  refine lv_icmp_eq (tgt := 324) hx hb dX15_readTerm_299 (by decide) (fun c_237 => ?_) (fun c_237 => ?_)
                  ·
                    have hi_238 : tt = (kk + 1) := (nI_eq (a := tt) (b := (kk + 1)) (by omega) (by omega)).mp c_237
                    refine lv_aload_n hx hb dX15_readTerm_324 rfl (lv_at hl 2 rfl) ?_
                    refine lv_aload_n hx hb dX15_readTerm_325 rfl (lv_at hl 3 rfl) ?_
                    refine lv_iload hx hb dX15_readTerm_326 (lv_at hl 1 rfl) ?_
                    refine lv_iconst (v := 1) hx hb dX15_readTerm_328 (by decide) ?_
                    refine lv_iadd hx hb dX15_readTerm_329 ?_
                    refine lv_topi (fun x_239 ex_239 => ?_)
                    obtain rfl : x_239 = (nI (kk + 1)) := ex_239.trans (nI_add kk 1)
                    refine lv_iload_n hx hb dX15_readTerm_330 rfl (lv_at hl 5 rfl) ?_
                    refine lv_iconst (v := 2) hx hb dX15_readTerm_331 (by decide) ?_
                    have hFc := pg_free hD hS hA
                    refine va_callv (va_runV (As := [.ref g1, .int (nI (kk + 1)), .int (nI tt), .int 2]) (rest := []) ⟨hx, hb, hml, hown, hts⟩ (s_X15_readHost l dC dI cs ty gm L H.size F_54 h0 ρ ta ou so ad na va lc dm tg pe ml bg co sp nb0 nb1 nb2 pl se ke wi hs mo po nu pr sq xa sa n64 m64 ex wh sd tk hd ak ho ot sx s0 s1 s2 nf bd mm zo ze zt v11 v12 v14 v15 8 q18 (-1) (-1) 32 v22 v33 v52 v53 v54 g1 μ fv (kk + 1) tt 2 hW hL_h0 hT_h0 hL_g1 hT_g1 hk4a (by first | omega | assumption) (by first | omega | assumption) (by first | omega | assumption) (by first | omega | assumption) hF_57 (by first | omega | assumption) (by first | omega | assumption) (by first | omega | assumption) (rfl)) ⟨callB_of 4 hts (gi kt_750) rfl rfl rfl (hts _ kt_659) (hts _ kt_751) (by decide +kernel) ⟨Nat.le_of_ble_eq_true rfl, Nat.le_of_ble_eq_true rfl⟩, (hts _ kt_752), (hts _ kt_753)⟩ ⟨fun a U g mk q => ⟨q.1, PTm.calling q.2⟩, pg_recv hK hP hL_h0 hk4a (q := (RX15, TX15, 59)) rfl, fun U hU hWm => ⟨rfl, PTm.mk hU hWm hP hK hD hE hO⟩⟩ rfl rfl hl.1 rfl (lv_room (Nat.le_of_ble_eq_true rfl)) dX15_readTerm_332 ⟨by show _ + 0 ≤ 0; omega, by show _ + 0 ≤ 0; omega⟩) hS (fun q _ h => hFc q h) hFc (fun u t H1 locs ht hvm hw hB hz1 hk1 hS => ?_)
                    obtain ⟨F_241, u17_242, u19_243, u20_244, u21_245, hB1, hq_246, hq_247⟩ := hB
                    obtain ⟨hP, hD, hO, hR⟩ := QTm.back hB1 ht hFc hR (fun q h => by simp only [List.mem_cons, List.not_mem_nil, or_false] at h ⊢; omega)
                    have hF_248 : F_241 g1 = .inl (cs 17, 700, .inl fv) := (hB1.2.2.2 g1 (by rw [hT_g1]; simp only [List.mem_cons, List.not_mem_nil, or_false]; omega)).trans hF_57
                    generalize H1 = H at hP hS ⊢
                    refine lv_goto (tgt := 392) hx hb dX15_readTerm_335 (by decide) ?_
                    refine W.widen (k := 0) (n := 0) (by omega) (by omega) ?_
                    exact jn_58 (u17_242, u19_243, u20_244, u21_245, v22) F_241 (⟨hq_246, hq_247.imp id (fun h => ⟨by rw [h.1]; decide, h.2⟩), fun h5 h9 => (c0_ne (by have h8 := (nm1 hw_188 c_189).2; rw [gA_fun hF_57] at h8; exact h8) (by omega) (hk3a h5) h9 (by decide)).elim⟩) hO hR _ _ hP hD hS ls (lv_sub hl [0, 1, 2, 3, 4, 5] rfl)
                  ·
                    have hi_249 : tt ≠ (kk + 1) := fun q => c_237 (by rw [q])
                    refine lv_aload_n hx hb dX15_readTerm_302 rfl (lv_at hl 3 rfl) ?_
                    refine lv_iload hx hb dX15_readTerm_303 (lv_at hl 1 rfl) ?_
                    refine lv_iconst (v := 1) hx hb dX15_readTerm_305 (by decide) ?_
                    refine lv_iadd hx hb dX15_readTerm_306 ?_
                    refine lv_topi (fun x_250 ex_250 => ?_)
                    obtain rfl : x_250 = (nI (kk + 1)) := ex_250.trans (nI_add kk 1)
                    refine pg_bald hx hb hK hP hL_g1 1 hF_57 rfl (vp_in_nI (by omega) (by omega)) dX15_readTerm_307 ?_
                    refine lv_topi (fun x_251 ex_251 => ?_)
                    obtain rfl : x_251 = fv (kk + 1) := ex_251.trans (congrArg fv (show ((nI (kk + 1)) : Int32).toNatClampNeg = (kk + 1) from nI_clamp (by omega)))
                    refine lv_bipush (v := 58) hx hb dX15_readTerm_308 (by decide) ?_
                    refine lv_icmp_eq (tgt := 324) hx hb dX15_readTerm_310 (by decide) (fun c_252 => ?_) (fun c_252 => ?_)
                    ·
                      refine lv_aload_n hx hb dX15_readTerm_324 rfl (lv_at hl 2 rfl) ?_
                      refine lv_aload_n hx hb dX15_readTerm_325 rfl (lv_at hl 3 rfl) ?_
                      refine lv_iload hx hb dX15_readTerm_326 (lv_at hl 1 rfl) ?_
                      refine lv_iconst (v := 1) hx hb dX15_readTerm_328 (by decide) ?_
                      refine lv_iadd hx hb dX15_readTerm_329 ?_
                      refine lv_topi (fun x_253 ex_253 => ?_)
                      obtain rfl : x_253 = (nI (kk + 1)) := ex_253.trans (nI_add kk 1)
                      refine lv_iload_n hx hb dX15_readTerm_330 rfl (lv_at hl 5 rfl) ?_
                      refine lv_iconst (v := 2) hx hb dX15_readTerm_331 (by decide) ?_
                      have hFc := pg_free hD hS hA
                      refine va_callv (va_runV (As := [.ref g1, .int (nI (kk + 1)), .int (nI tt), .int 2]) (rest := []) ⟨hx, hb, hml, hown, hts⟩ (s_X15_readHost l dC dI cs ty gm L H.size F_54 h0 ρ ta ou so ad na va lc dm tg pe ml bg co sp nb0 nb1 nb2 pl se ke wi hs mo po nu pr sq xa sa n64 m64 ex wh sd tk hd ak ho ot sx s0 s1 s2 nf bd mm zo ze zt v11 v12 v14 v15 8 q18 (-1) (-1) 32 v22 v33 v52 v53 v54 g1 μ fv (kk + 1) tt 2 hW hL_h0 hT_h0 hL_g1 hT_g1 hk4a (by first | omega | assumption) (by first | omega | assumption) (by first | omega | assumption) (by first | omega | assumption) hF_57 (by first | omega | assumption) (by first | omega | assumption) (by first | omega | assumption) (rfl)) ⟨callB_of 4 hts (gi kt_750) rfl rfl rfl (hts _ kt_659) (hts _ kt_751) (by decide +kernel) ⟨Nat.le_of_ble_eq_true rfl, Nat.le_of_ble_eq_true rfl⟩, (hts _ kt_752), (hts _ kt_753)⟩ ⟨fun a U g mk q => ⟨q.1, PTm.calling q.2⟩, pg_recv hK hP hL_h0 hk4a (q := (RX15, TX15, 59)) rfl, fun U hU hWm => ⟨rfl, PTm.mk hU hWm hP hK hD hE hO⟩⟩ rfl rfl hl.1 rfl (lv_room (Nat.le_of_ble_eq_true rfl)) dX15_readTerm_332 ⟨by show _ + 0 ≤ 0; omega, by show _ + 0 ≤ 0; omega⟩) hS (fun q _ h => hFc q h) hFc (fun u t H1 locs ht hvm hw hB hz1 hk1 hS => ?_)
                      obtain ⟨F_255, u17_256, u19_257, u20_258, u21_259, hB1, hq_260, hq_261⟩ := hB
                      obtain ⟨hP, hD, hO, hR⟩ := QTm.back hB1 ht hFc hR (fun q h => by simp only [List.mem_cons, List.not_mem_nil, or_false] at h ⊢; omega)
                      have hF_262 : F_255 g1 = .inl (cs 17, 700, .inl fv) := (hB1.2.2.2 g1 (by rw [hT_g1]; simp only [List.mem_cons, List.not_mem_nil, or_false]; omega)).trans hF_57
                      generalize H1 = H at hP hS ⊢
                      refine lv_goto (tgt := 392) hx hb dX15_readTerm_335 (by decide) ?_
                      refine W.widen (k := 0) (n := 0) (by omega) (by omega) ?_
                      exact jn_58 (u17_256, u19_257, u20_258, u21_259, v22) F_255 (⟨hq_260, hq_261.imp id (fun h => ⟨by rw [h.1]; decide, h.2⟩), fun h5 h9 => (c0_ne (by have h8 := (nm1 hw_188 c_189).2; rw [gA_fun hF_57] at h8; exact h8) (by omega) (hk3a h5) h9 (by decide)).elim⟩) hO hR _ _ hP hD hS ls (lv_sub hl [0, 1, 2, 3, 4, 5] rfl)
                    ·
                      refine lv_aload_n hx hb dX15_readTerm_313 rfl (lv_at hl 3 rfl) ?_
                      refine lv_iload hx hb dX15_readTerm_314 (lv_at hl 1 rfl) ?_
                      refine lv_iconst (v := 1) hx hb dX15_readTerm_316 (by decide) ?_
                      refine lv_iadd hx hb dX15_readTerm_317 ?_
                      refine lv_topi (fun x_263 ex_263 => ?_)
                      obtain rfl : x_263 = (nI (kk + 1)) := ex_263.trans (nI_add kk 1)
                      refine pg_bald hx hb hK hP hL_g1 1 hF_57 rfl (vp_in_nI (by omega) (by omega)) dX15_readTerm_318 ?_
                      refine lv_topi (fun x_264 ex_264 => ?_)
                      obtain rfl : x_264 = fv (kk + 1) := ex_264.trans (congrArg fv (show ((nI (kk + 1)) : Int32).toNatClampNeg = (kk + 1) from nI_clamp (by omega)))
                      refine lv_bipush (v := 47) hx hb dX15_readTerm_319 (by decide) ?_
                      refine lv_icmp_ne (tgt := 338) hx hb dX15_readTerm_321 (by decide) (fun c_265 => ?_) (fun c_265 => ?_)
                      ·
                        refine lv_aload_n hx hb dX15_readTerm_338 rfl (lv_at hl 3 rfl) ?_
                        refine lv_iload hx hb dX15_readTerm_339 (lv_at hl 1 rfl) ?_
                        refine lv_iload_n hx hb dX15_readTerm_341 rfl (lv_at hl 5 rfl) ?_
                        obtain ⟨q_266, v_267, hr_q_266, hX_q_266⟩ := hG.2.2 ("PostGateModel", 280, "mx", [109, 120]) (by decide +kernel)
                        have hX_q_266 : SXc q_266 v_267 2 (cct [109, 120]) A s s.heap := hX_q_266
                        obtain ⟨xo_q_266, xc_q_266, xv_q_266, xt_q_266, xn_q_266⟩ := id hX_q_266
                        have hr_q_266 : vk_R "PostGateModel" 280 "mx" q_266 s := hr_q_266
                        refine va_ldcwS hx hb hown hr_q_266 dX15_readTerm_342 ?_
                        have hFc := pg_free hD hS hA
                        refine va_calli (va_runS (As := [.ref g1, .int (nI kk), .int (nI tt), .ref q_266]) (rest := []) ⟨hx, hb, hml, hown, hts⟩ (s_X15_begins l dC dI cs ty gm L H.size F_54 g1 μ 700 q_266 v_267 2 (cct [109, 120]) kk tt hW hL_g1 hT_g1 (by first | omega | assumption) (by first | omega | assumption)) ⟨callB_of 4 hts (gi kt_723) rfl rfl rfl (hts _ kt_659) (hts _ kt_724) (by decide +kernel) ⟨Nat.le_of_ble_eq_true rfl, Nat.le_of_ble_eq_true rfl⟩, (hts _ kt_725)⟩ ⟨fun a U g mk q => ⟨q.1, PTEm.calling q.2⟩, fun U hU hWm => ⟨rfl, PTEm.mk hU hWm hP hK hD hE hO hG (fun x hx => by rw [List.mem_singleton] at hx; subst hx; exact hX_q_266) hS hFc⟩⟩ rfl rfl hl.1 rfl (lv_room (Nat.le_of_ble_eq_true rfl)) dX15_readTerm_345 ⟨by show _ + 0 ≤ 0; omega, by show _ + 0 ≤ 0; omega⟩) hS (fun q _ h => hFc q h) hFc (fun r_268 u t H1 locs ht hvm hw hB hz1 hk1 hS => ?_)
                        obtain ⟨F_269, hB1⟩ := hB
                        obtain rfl : F_54 = F_269 := (funext (fun a => hB1.2.2.2 a List.not_mem_nil)).symm
                        obtain ⟨hP, hD, hO, hR⟩ := QTm.back hB1 ht hFc hR (fun q h => absurd h List.not_mem_nil)
                        generalize H1 = H at hP hS ⊢
                        have hw : ((r_268 = 1 ∧ bgP (gA (F_54 g1)) kk tt (cct [109, 120]) 2) ∨ (r_268 = 0 ∧ ¬ bgP (gA (F_54 g1)) kk tt (cct [109, 120]) 2)) := hw
                        have hw_270 := hw
                        refine lv_if_eq (tgt := 392) hx hb dX15_readTerm_348 (by decide) (fun c_271 => ?_) (fun c_271 => ?_)
                        ·
                          refine W.widen (k := 0) (n := 0) (by omega) (by omega) ?_
                          exact jn_58 (8, (-1), (-1), 32, v22) F_54 (⟨hk4a, Or.inl rfl, fun _ _ => rfl⟩) hO hR _ _ hP hD hS ls (lv_sub hl [0, 1, 2, 3, 4, 5] rfl)
                        ·
                          have hb345 := (nm1 hw_270 c_271).1
                          refine lv_iload_n hx hb dX15_readTerm_351 rfl (lv_at hl 5 rfl) ?_
                          refine lv_iload hx hb dX15_readTerm_352 (lv_at hl 1 rfl) ?_
                          refine lv_iconst (v := 2) hx hb dX15_readTerm_354 (by decide) ?_
                          refine lv_iadd hx hb dX15_readTerm_355 ?_
                          refine lv_topi (fun x_272 ex_272 => ?_)
                          obtain rfl : x_272 = (nI (kk + 2)) := ex_272.trans (nI_add kk 2)
                          refine lv_icmp_eq (tgt := 381) hx hb dX15_readTerm_356 (by decide) (fun c_273 => ?_) (fun c_273 => ?_)
                          ·
                            have hi_274 : tt = (kk + 2) := (nI_eq (a := tt) (b := (kk + 2)) (by omega) (by omega)).mp c_273
                            refine lv_aload_n hx hb dX15_readTerm_381 rfl (lv_at hl 2 rfl) ?_
                            refine lv_aload_n hx hb dX15_readTerm_382 rfl (lv_at hl 3 rfl) ?_
                            refine lv_iload hx hb dX15_readTerm_383 (lv_at hl 1 rfl) ?_
                            refine lv_iconst (v := 2) hx hb dX15_readTerm_385 (by decide) ?_
                            refine lv_iadd hx hb dX15_readTerm_386 ?_
                            refine lv_topi (fun x_275 ex_275 => ?_)
                            obtain rfl : x_275 = (nI (kk + 2)) := ex_275.trans (nI_add kk 2)
                            refine lv_iload_n hx hb dX15_readTerm_387 rfl (lv_at hl 5 rfl) ?_
                            refine lv_iconst (v := 3) hx hb dX15_readTerm_388 (by decide) ?_
                            have hFc := pg_free hD hS hA
                            refine va_callv (va_runV (As := [.ref g1, .int (nI (kk + 2)), .int (nI tt), .int 3]) (rest := []) ⟨hx, hb, hml, hown, hts⟩ (s_X15_readHost l dC dI cs ty gm L H.size F_54 h0 ρ ta ou so ad na va lc dm tg pe ml bg co sp nb0 nb1 nb2 pl se ke wi hs mo po nu pr sq xa sa n64 m64 ex wh sd tk hd ak ho ot sx s0 s1 s2 nf bd mm zo ze zt v11 v12 v14 v15 8 q18 (-1) (-1) 32 v22 v33 v52 v53 v54 g1 μ fv (kk + 2) tt 3 hW hL_h0 hT_h0 hL_g1 hT_g1 hk4a (by first | omega | assumption) (by first | omega | assumption) (by first | omega | assumption) (by first | omega | assumption) hF_57 (by first | omega | assumption) (by first | omega | assumption) (by first | omega | assumption) (rfl)) ⟨callB_of 4 hts (gi kt_750) rfl rfl rfl (hts _ kt_659) (hts _ kt_751) (by decide +kernel) ⟨Nat.le_of_ble_eq_true rfl, Nat.le_of_ble_eq_true rfl⟩, (hts _ kt_752), (hts _ kt_753)⟩ ⟨fun a U g mk q => ⟨q.1, PTm.calling q.2⟩, pg_recv hK hP hL_h0 hk4a (q := (RX15, TX15, 59)) rfl, fun U hU hWm => ⟨rfl, PTm.mk hU hWm hP hK hD hE hO⟩⟩ rfl rfl hl.1 rfl (lv_room (Nat.le_of_ble_eq_true rfl)) dX15_readTerm_389 ⟨by show _ + 0 ≤ 0; omega, by show _ + 0 ≤ 0; omega⟩) hS (fun q _ h => hFc q h) hFc (fun u t H1 locs ht hvm hw hB hz1 hk1 hS => ?_)
                            obtain ⟨F_277, u17_278, u19_279, u20_280, u21_281, hB1, hq_282, hq_283⟩ := hB
                            obtain ⟨hP, hD, hO, hR⟩ := QTm.back hB1 ht hFc hR (fun q h => by simp only [List.mem_cons, List.not_mem_nil, or_false] at h ⊢; omega)
                            have hF_284 : F_277 g1 = .inl (cs 17, 700, .inl fv) := (hB1.2.2.2 g1 (by rw [hT_g1]; simp only [List.mem_cons, List.not_mem_nil, or_false]; omega)).trans hF_57
                            generalize H1 = H at hP hS ⊢
                            refine W.widen (k := 0) (n := 0) (by omega) (by omega) ?_
                            exact jn_58 (u17_278, u19_279, u20_280, u21_281, v22) F_277 (⟨hq_282, hq_283.imp id (fun h => ⟨by rw [h.1]; decide, h.2⟩), fun h5 h9 => (c0_ne (by have h8 := (nm1 hw_270 c_271).2; rw [gA_fun hF_57] at h8; exact h8) (by omega) (hk3a h5) h9 (by decide)).elim⟩) hO hR _ _ hP hD hS ls (lv_sub hl [0, 1, 2, 3, 4, 5] rfl)
                          ·
                            have hi_285 : tt ≠ (kk + 2) := fun q => c_273 (by rw [q])
                            refine lv_aload_n hx hb dX15_readTerm_359 rfl (lv_at hl 3 rfl) ?_
                            refine lv_iload hx hb dX15_readTerm_360 (lv_at hl 1 rfl) ?_
                            refine lv_iconst (v := 2) hx hb dX15_readTerm_362 (by decide) ?_
                            refine lv_iadd hx hb dX15_readTerm_363 ?_
                            refine lv_topi (fun x_286 ex_286 => ?_)
                            obtain rfl : x_286 = (nI (kk + 2)) := ex_286.trans (nI_add kk 2)
                            refine pg_bald hx hb hK hP hL_g1 1 hF_57 rfl (vp_in_nI (by omega) (by omega)) dX15_readTerm_364 ?_
                            refine lv_topi (fun x_287 ex_287 => ?_)
                            obtain rfl : x_287 = fv (kk + 2) := ex_287.trans (congrArg fv (show ((nI (kk + 2)) : Int32).toNatClampNeg = (kk + 2) from nI_clamp (by omega)))
                            refine lv_bipush (v := 58) hx hb dX15_readTerm_365 (by decide) ?_
                            refine lv_icmp_eq (tgt := 381) hx hb dX15_readTerm_367 (by decide) (fun c_288 => ?_) (fun c_288 => ?_)
                            ·
                              refine lv_aload_n hx hb dX15_readTerm_381 rfl (lv_at hl 2 rfl) ?_
                              refine lv_aload_n hx hb dX15_readTerm_382 rfl (lv_at hl 3 rfl) ?_
                              refine lv_iload hx hb dX15_readTerm_383 (lv_at hl 1 rfl) ?_
                              refine lv_iconst (v := 2) hx hb dX15_readTerm_385 (by decide) ?_
                              refine lv_iadd hx hb dX15_readTerm_386 ?_
                              refine lv_topi (fun x_289 ex_289 => ?_)
                              obtain rfl : x_289 = (nI (kk + 2)) := ex_289.trans (nI_add kk 2)
                              refine lv_iload_n hx hb dX15_readTerm_387 rfl (lv_at hl 5 rfl) ?_
                              refine lv_iconst (v := 3) hx hb dX15_readTerm_388 (by decide) ?_
                              have hFc := pg_free hD hS hA
                              refine va_callv (va_runV (As := [.ref g1, .int (nI (kk + 2)), .int (nI tt), .int 3]) (rest := []) ⟨hx, hb, hml, hown, hts⟩ (s_X15_readHost l dC dI cs ty gm L H.size F_54 h0 ρ ta ou so ad na va lc dm tg pe ml bg co sp nb0 nb1 nb2 pl se ke wi hs mo po nu pr sq xa sa n64 m64 ex wh sd tk hd ak ho ot sx s0 s1 s2 nf bd mm zo ze zt v11 v12 v14 v15 8 q18 (-1) (-1) 32 v22 v33 v52 v53 v54 g1 μ fv (kk + 2) tt 3 hW hL_h0 hT_h0 hL_g1 hT_g1 hk4a (by first | omega | assumption) (by first | omega | assumption) (by first | omega | assumption) (by first | omega | assumption) hF_57 (by first | omega | assumption) (by first | omega | assumption) (by first | omega | assumption) (rfl)) ⟨callB_of 4 hts (gi kt_750) rfl rfl rfl (hts _ kt_659) (hts _ kt_751) (by decide +kernel) ⟨Nat.le_of_ble_eq_true rfl, Nat.le_of_ble_eq_true rfl⟩, (hts _ kt_752), (hts _ kt_753)⟩ ⟨fun a U g mk q => ⟨q.1, PTm.calling q.2⟩, pg_recv hK hP hL_h0 hk4a (q := (RX15, TX15, 59)) rfl, fun U hU hWm => ⟨rfl, PTm.mk hU hWm hP hK hD hE hO⟩⟩ rfl rfl hl.1 rfl (lv_room (Nat.le_of_ble_eq_true rfl)) dX15_readTerm_389 ⟨by show _ + 0 ≤ 0; omega, by show _ + 0 ≤ 0; omega⟩) hS (fun q _ h => hFc q h) hFc (fun u t H1 locs ht hvm hw hB hz1 hk1 hS => ?_)
                              obtain ⟨F_291, u17_292, u19_293, u20_294, u21_295, hB1, hq_296, hq_297⟩ := hB
                              obtain ⟨hP, hD, hO, hR⟩ := QTm.back hB1 ht hFc hR (fun q h => by simp only [List.mem_cons, List.not_mem_nil, or_false] at h ⊢; omega)
                              have hF_298 : F_291 g1 = .inl (cs 17, 700, .inl fv) := (hB1.2.2.2 g1 (by rw [hT_g1]; simp only [List.mem_cons, List.not_mem_nil, or_false]; omega)).trans hF_57
                              generalize H1 = H at hP hS ⊢
                              refine W.widen (k := 0) (n := 0) (by omega) (by omega) ?_
                              exact jn_58 (u17_292, u19_293, u20_294, u21_295, v22) F_291 (⟨hq_296, hq_297.imp id (fun h => ⟨by rw [h.1]; decide, h.2⟩), fun h5 h9 => (c0_ne (by have h8 := (nm1 hw_270 c_271).2; rw [gA_fun hF_57] at h8; exact h8) (by omega) (hk3a h5) h9 (by decide)).elim⟩) hO hR _ _ hP hD hS ls (lv_sub hl [0, 1, 2, 3, 4, 5] rfl)
                            ·
                              refine lv_aload_n hx hb dX15_readTerm_370 rfl (lv_at hl 3 rfl) ?_
                              refine lv_iload hx hb dX15_readTerm_371 (lv_at hl 1 rfl) ?_
                              refine lv_iconst (v := 2) hx hb dX15_readTerm_373 (by decide) ?_
                              refine lv_iadd hx hb dX15_readTerm_374 ?_
                              refine lv_topi (fun x_299 ex_299 => ?_)
                              obtain rfl : x_299 = (nI (kk + 2)) := ex_299.trans (nI_add kk 2)
                              refine pg_bald hx hb hK hP hL_g1 1 hF_57 rfl (vp_in_nI (by omega) (by omega)) dX15_readTerm_375 ?_
                              refine lv_topi (fun x_300 ex_300 => ?_)
                              obtain rfl : x_300 = fv (kk + 2) := ex_300.trans (congrArg fv (show ((nI (kk + 2)) : Int32).toNatClampNeg = (kk + 2) from nI_clamp (by omega)))
                              refine lv_bipush (v := 47) hx hb dX15_readTerm_376 (by decide) ?_
                              refine lv_icmp_ne (tgt := 392) hx hb dX15_readTerm_378 (by decide) (fun c_301 => ?_) (fun c_301 => ?_)
                              ·
                                refine W.widen (k := 0) (n := 0) (by omega) (by omega) ?_
                                exact jn_58 (8, (-1), (-1), 32, v22) F_54 (⟨hk4a, Or.inl rfl, fun _ _ => rfl⟩) hO hR _ _ hP hD hS ls (lv_sub hl [0, 1, 2, 3, 4, 5] rfl)
                              ·
                                refine lv_aload_n hx hb dX15_readTerm_381 rfl (lv_at hl 2 rfl) ?_
                                refine lv_aload_n hx hb dX15_readTerm_382 rfl (lv_at hl 3 rfl) ?_
                                refine lv_iload hx hb dX15_readTerm_383 (lv_at hl 1 rfl) ?_
                                refine lv_iconst (v := 2) hx hb dX15_readTerm_385 (by decide) ?_
                                refine lv_iadd hx hb dX15_readTerm_386 ?_
                                refine lv_topi (fun x_302 ex_302 => ?_)
                                obtain rfl : x_302 = (nI (kk + 2)) := ex_302.trans (nI_add kk 2)
                                refine lv_iload_n hx hb dX15_readTerm_387 rfl (lv_at hl 5 rfl) ?_
                                refine lv_iconst (v := 3) hx hb dX15_readTerm_388 (by decide) ?_
                                have hFc := pg_free hD hS hA
                                refine va_callv (va_runV (As := [.ref g1, .int (nI (kk + 2)), .int (nI tt), .int 3]) (rest := []) ⟨hx, hb, hml, hown, hts⟩ (s_X15_readHost l dC dI cs ty gm L H.size F_54 h0 ρ ta ou so ad na va lc dm tg pe ml bg co sp nb0 nb1 nb2 pl se ke wi hs mo po nu pr sq xa sa n64 m64 ex wh sd tk hd ak ho ot sx s0 s1 s2 nf bd mm zo ze zt v11 v12 v14 v15 8 q18 (-1) (-1) 32 v22 v33 v52 v53 v54 g1 μ fv (kk + 2) tt 3 hW hL_h0 hT_h0 hL_g1 hT_g1 hk4a (by first | omega | assumption) (by first | omega | assumption) (by first | omega | assumption) (by first | omega | assumption) hF_57 (by first | omega | assumption) (by first | omega | assumption) (by first | omega | assumption) (rfl)) ⟨callB_of 4 hts (gi kt_750) rfl rfl rfl (hts _ kt_659) (hts _ kt_751) (by decide +kernel) ⟨Nat.le_of_ble_eq_true rfl, Nat.le_of_ble_eq_true rfl⟩, (hts _ kt_752), (hts _ kt_753)⟩ ⟨fun a U g mk q => ⟨q.1, PTm.calling q.2⟩, pg_recv hK hP hL_h0 hk4a (q := (RX15, TX15, 59)) rfl, fun U hU hWm => ⟨rfl, PTm.mk hU hWm hP hK hD hE hO⟩⟩ rfl rfl hl.1 rfl (lv_room (Nat.le_of_ble_eq_true rfl)) dX15_readTerm_389 ⟨by show _ + 0 ≤ 0; omega, by show _ + 0 ≤ 0; omega⟩) hS (fun q _ h => hFc q h) hFc (fun u t H1 locs ht hvm hw hB hz1 hk1 hS => ?_)
                                obtain ⟨F_304, u17_305, u19_306, u20_307, u21_308, hB1, hq_309, hq_310⟩ := hB
                                obtain ⟨hP, hD, hO, hR⟩ := QTm.back hB1 ht hFc hR (fun q h => by simp only [List.mem_cons, List.not_mem_nil, or_false] at h ⊢; omega)
                                have hF_311 : F_304 g1 = .inl (cs 17, 700, .inl fv) := (hB1.2.2.2 g1 (by rw [hT_g1]; simp only [List.mem_cons, List.not_mem_nil, or_false]; omega)).trans hF_57
                                generalize H1 = H at hP hS ⊢
                                refine W.widen (k := 0) (n := 0) (by omega) (by omega) ?_
                                exact jn_58 (u17_305, u19_306, u20_307, u21_308, v22) F_304 (⟨hq_309, hq_310.imp id (fun h => ⟨by rw [h.1]; decide, h.2⟩), fun h5 h9 => (c0_ne (by have h8 := (nm1 hw_270 c_271).2; rw [gA_fun hF_57] at h8; exact h8) (by omega) (hk3a h5) h9 (by decide)).elim⟩) hO hR _ _ hP hD hS ls (lv_sub hl [0, 1, 2, 3, 4, 5] rfl)
                      ·
                        refine lv_aload_n hx hb dX15_readTerm_324 rfl (lv_at hl 2 rfl) ?_
                        refine lv_aload_n hx hb dX15_readTerm_325 rfl (lv_at hl 3 rfl) ?_
                        refine lv_iload hx hb dX15_readTerm_326 (lv_at hl 1 rfl) ?_
                        refine lv_iconst (v := 1) hx hb dX15_readTerm_328 (by decide) ?_
                        refine lv_iadd hx hb dX15_readTerm_329 ?_
                        refine lv_topi (fun x_312 ex_312 => ?_)
                        obtain rfl : x_312 = (nI (kk + 1)) := ex_312.trans (nI_add kk 1)
                        refine lv_iload_n hx hb dX15_readTerm_330 rfl (lv_at hl 5 rfl) ?_
                        refine lv_iconst (v := 2) hx hb dX15_readTerm_331 (by decide) ?_
                        have hFc := pg_free hD hS hA
                        refine va_callv (va_runV (As := [.ref g1, .int (nI (kk + 1)), .int (nI tt), .int 2]) (rest := []) ⟨hx, hb, hml, hown, hts⟩ (s_X15_readHost l dC dI cs ty gm L H.size F_54 h0 ρ ta ou so ad na va lc dm tg pe ml bg co sp nb0 nb1 nb2 pl se ke wi hs mo po nu pr sq xa sa n64 m64 ex wh sd tk hd ak ho ot sx s0 s1 s2 nf bd mm zo ze zt v11 v12 v14 v15 8 q18 (-1) (-1) 32 v22 v33 v52 v53 v54 g1 μ fv (kk + 1) tt 2 hW hL_h0 hT_h0 hL_g1 hT_g1 hk4a (by first | omega | assumption) (by first | omega | assumption) (by first | omega | assumption) (by first | omega | assumption) hF_57 (by first | omega | assumption) (by first | omega | assumption) (by first | omega | assumption) (rfl)) ⟨callB_of 4 hts (gi kt_750) rfl rfl rfl (hts _ kt_659) (hts _ kt_751) (by decide +kernel) ⟨Nat.le_of_ble_eq_true rfl, Nat.le_of_ble_eq_true rfl⟩, (hts _ kt_752), (hts _ kt_753)⟩ ⟨fun a U g mk q => ⟨q.1, PTm.calling q.2⟩, pg_recv hK hP hL_h0 hk4a (q := (RX15, TX15, 59)) rfl, fun U hU hWm => ⟨rfl, PTm.mk hU hWm hP hK hD hE hO⟩⟩ rfl rfl hl.1 rfl (lv_room (Nat.le_of_ble_eq_true rfl)) dX15_readTerm_332 ⟨by show _ + 0 ≤ 0; omega, by show _ + 0 ≤ 0; omega⟩) hS (fun q _ h => hFc q h) hFc (fun u t H1 locs ht hvm hw hB hz1 hk1 hS => ?_)
                        obtain ⟨F_314, u17_315, u19_316, u20_317, u21_318, hB1, hq_319, hq_320⟩ := hB
                        obtain ⟨hP, hD, hO, hR⟩ := QTm.back hB1 ht hFc hR (fun q h => by simp only [List.mem_cons, List.not_mem_nil, or_false] at h ⊢; omega)
                        have hF_321 : F_314 g1 = .inl (cs 17, 700, .inl fv) := (hB1.2.2.2 g1 (by rw [hT_g1]; simp only [List.mem_cons, List.not_mem_nil, or_false]; omega)).trans hF_57
                        generalize H1 = H at hP hS ⊢
                        refine lv_goto (tgt := 392) hx hb dX15_readTerm_335 (by decide) ?_
                        refine W.widen (k := 0) (n := 0) (by omega) (by omega) ?_
                        exact jn_58 (u17_315, u19_316, u20_317, u21_318, v22) F_314 (⟨hq_319, hq_320.imp id (fun h => ⟨by rw [h.1]; decide, h.2⟩), fun h5 h9 => (c0_ne (by have h8 := (nm1 hw_188 c_189).2; rw [gA_fun hF_57] at h8; exact h8) (by omega) (hk3a h5) h9 (by decide)).elim⟩) hO hR _ _ hP hD hS ls (lv_sub hl [0, 1, 2, 3, 4, 5] rfl)
              ·
                have hb218 := (nm1 hw_182 c_183).1
                refine lv_aload_n hx hb dX15_readTerm_224 rfl (lv_at hl 3 rfl) ?_
                refine lv_iload hx hb dX15_readTerm_225 (lv_at hl 1 rfl) ?_
                refine lv_iload_n hx hb dX15_readTerm_227 rfl (lv_at hl 5 rfl) ?_
                have hFc := pg_free hD hS hA
                refine va_calli (va_runS (As := [.ref g1, .int (nI kk), .int (nI tt)]) (rest := []) ⟨hx, hb, hml, hown, hts⟩ (s_X15_slashOf l dC dI cs ty gm L H.size F_54 g1 μ 700 kk tt hW hL_g1 hT_g1 (by first | omega | assumption) (by first | omega | assumption)) ⟨callB_of 3 hts (gi kt_736) rfl rfl rfl (hts _ kt_659) (hts _ kt_737) (by decide +kernel) ⟨Nat.le_of_ble_eq_true rfl, Nat.le_of_ble_eq_true rfl⟩, (hts _ kt_738)⟩ ⟨fun a U g mk q => ⟨q.1, PTm.calling q.2⟩, fun U hU hWm => ⟨rfl, PTm.mk hU hWm hP hK hD hE hO⟩⟩ rfl rfl hl.1 rfl (lv_room (Nat.le_of_ble_eq_true rfl)) dX15_readTerm_228 ⟨by show _ + 0 ≤ 0; omega, by show _ + 0 ≤ 0; omega⟩) hS (fun q _ h => hFc q h) hFc (fun r_322 u t H1 locs ht hvm hw hB hz1 hk1 hS => ?_)
                obtain ⟨F_323, hB1⟩ := hB
                obtain rfl : F_54 = F_323 := (funext (fun a => hB1.2.2.2 a List.not_mem_nil)).symm
                obtain ⟨hP, hD, hO, hR⟩ := QTm.back hB1 ht hFc hR (fun q h => absurd h List.not_mem_nil)
                generalize H1 = H at hP hS ⊢
                have hw : (∃ k : Nat, kk ≤ k ∧ k ≤ max kk tt ∧ r_322 = nI k) := hw
                have hw_324 := hw
                obtain ⟨k_325, hk_325a, hk_325b, ek_325⟩ := hw_324
                subst ek_325
                refine lv_istore (lv' := [(6, .int (nI k_325)), (5, .int s5), (4, .int (nI kk)), (0, .ref h0), (1, .ref g1), (2, .int (nI a)), (3, .int (nI tt))]) hx hb dX15_readTerm_231 hl (by decide) rfl (fun ls hl => ?_)
                have hF_328 : F g1 = .inl (cs 17, 700, .inl fv) := (hR g1 (by rw [hT_g1]; simp only [List.mem_cons, List.not_mem_nil, or_false]; omega)).symm.trans hF_57
                refine W.widen (k := 0) (n := 0) (by omega) (by omega) ?_
                refine pl_cutm (σ := Int32) A (dC, dI) cs ty gm L [ρ] F 252 7 (fun y21 => [(6, .int (nI k_325)), (5, .int s5), (4, .int (nI kk)), (0, .ref h0), (1, .ref g1), (2, .int (nI a)), (3, .int (nI tt))]) (fun y21 => []) (fun y21 FF => FF h0 = .inr (15, (.ref ta) :: (.int (nI zt)) :: (.int (nI zo)) :: (.int (nI ze)) :: (.ref ou) :: (.ref so) :: (.ref ad) :: (.ref na) :: (.ref va) :: (.ref lc) :: (.ref dm) :: (.int v11) :: (.int v12) :: (.ref tg) :: (.int v14) :: (.int v15) :: (.ref pe) :: (.int 8) :: (.int q18) :: (.int (-1)) :: (.int (-1)) :: (.int y21) :: (.int v22) :: (.ref ml) :: (.ref bg) :: (.ref co) :: (.ref sp) :: (.ref nb0) :: (.ref nb1) :: (.ref nb2) :: (.int (nI nf)) :: (.int (nI bd)) :: (.int (nI mm)) :: (.int v33) :: (.ref pl) :: (.ref se) :: (.ref ke) :: (.ref wi) :: (.ref hs) :: (.ref mo) :: (.ref po) :: (.ref nu) :: (.ref pr) :: (.ref sq) :: (.ref xa) :: (.ref sa) :: (.ref n64) :: (.ref m64) :: (.ref ex) :: (.ref wh) :: (.ref sd) :: (.ref tk) :: (.int v52) :: (.int v53) :: (.int v54) :: (.ref hd) :: (.ref ak) :: (.ref ho) :: (.ref ot) :: [])) ?_ (fun jn_326 => ?_)
                ·
                  rintro y21 F_327 hv_329 hO hR H locs hP hD hS ls hl
                  have hl : lv_has ls 7 [(6, .int (nI k_325)), (5, .int s5), (4, .int (nI kk)), (0, .ref h0), (1, .ref g1), (2, .int (nI a)), (3, .int (nI tt))] := hl
                  have hv_329 : F_327 h0 = .inr (15, (.ref ta) :: (.int (nI zt)) :: (.int (nI zo)) :: (.int (nI ze)) :: (.ref ou) :: (.ref so) :: (.ref ad) :: (.ref na) :: (.ref va) :: (.ref lc) :: (.ref dm) :: (.int v11) :: (.int v12) :: (.ref tg) :: (.int v14) :: (.int v15) :: (.ref pe) :: (.int 8) :: (.int q18) :: (.int (-1)) :: (.int (-1)) :: (.int y21) :: (.int v22) :: (.ref ml) :: (.ref bg) :: (.ref co) :: (.ref sp) :: (.ref nb0) :: (.ref nb1) :: (.ref nb2) :: (.int (nI nf)) :: (.int (nI bd)) :: (.int (nI mm)) :: (.int v33) :: (.ref pl) :: (.ref se) :: (.ref ke) :: (.ref wi) :: (.ref hs) :: (.ref mo) :: (.ref po) :: (.ref nu) :: (.ref pr) :: (.ref sq) :: (.ref xa) :: (.ref sa) :: (.ref n64) :: (.ref m64) :: (.ref ex) :: (.ref wh) :: (.ref sd) :: (.ref tk) :: (.int v52) :: (.int v53) :: (.int v54) :: (.ref hd) :: (.ref ak) :: (.ref ho) :: (.ref ot) :: []) := hv_329
                  refine W.eq (g2 := F0 m 252 ls []) rfl ?_
                  have hF_330 : F_327 g1 = .inl (cs 17, 700, .inl fv) := (hR g1 (by rw [hT_g1]; simp only [List.mem_cons, List.not_mem_nil, or_false]; omega)).trans hF_328
                  refine lv_aload_n hx hb dX15_readTerm_252 rfl (lv_at hl 3 rfl) ?_
                  refine lv_aload_n hx hb dX15_readTerm_253 rfl (lv_at hl 4 rfl) ?_
                  refine lv_iload hx hb dX15_readTerm_254 (lv_at hl 2 rfl) ?_
                  refine lv_iconst (v := 4) hx hb dX15_readTerm_256 (by decide) ?_
                  refine lv_iadd hx hb dX15_readTerm_257 ?_
                  refine lv_topi (fun x_331 ex_331 => ?_)
                  obtain rfl : x_331 = (nI (kk + 4)) := ex_331.trans (nI_add kk 4)
                  refine lv_iload hx hb dX15_readTerm_258 (lv_at hl 0 rfl) ?_
                  have hFc := pg_free hD hS hA
                  refine va_calli (va_runV (As := [.ref g1, .int (nI (kk + 4)), .int (nI k_325)]) (rest := []) ⟨hx, hb, hml, hown, hts⟩ (s_X15_isQuad l dC dI cs ty gm L H.size F_327 h0 ρ ta ou so ad na va lc dm tg pe ml bg co sp nb0 nb1 nb2 pl se ke wi hs mo po nu pr sq xa sa n64 m64 ex wh sd tk hd ak ho ot sx s0 s1 s2 nf bd mm zo ze zt v11 v12 v14 v15 8 q18 (-1) (-1) y21 v22 v33 v52 v53 v54 g1 μ fv (kk + 4) k_325 hW hL_h0 hT_h0 hL_g1 hT_g1 hv_329 (by first | omega | assumption) (by first | omega | assumption) (by first | omega | assumption) (by first | omega | assumption) hF_330 (by first | omega | assumption) (by first | omega | assumption) (by first | omega | assumption)) ⟨callB_of 3 hts (gi kt_754) rfl rfl rfl (hts _ kt_659) (hts _ kt_755) (by decide +kernel) ⟨Nat.le_of_ble_eq_true rfl, Nat.le_of_ble_eq_true rfl⟩, (hts _ kt_756), (hts _ kt_757)⟩ ⟨fun a U g mk q => ⟨q.1, PTm.calling q.2⟩, pg_recv hK hP hL_h0 hv_329 (q := (RX15, TX15, 59)) rfl, fun U hU hWm => ⟨rfl, PTm.mk hU hWm hP hK hD hE hO⟩⟩ rfl rfl hl.1 rfl (lv_room (Nat.le_of_ble_eq_true rfl)) dX15_readTerm_260 ⟨by show _ + 0 ≤ 0; omega, by show _ + 0 ≤ 0; omega⟩) hS (fun q _ h => hFc q h) hFc (fun r_332 u t H1 locs ht hvm hw hB hz1 hk1 hS => ?_)
                  obtain ⟨F_333, u22_334, hB1, hq_335⟩ := hB
                  obtain ⟨hP, hD, hO, hR⟩ := QTm.back hB1 ht hFc hR (fun q h => by simp only [List.mem_cons, List.not_mem_nil, or_false] at h ⊢; omega)
                  have hF_336 : F_333 g1 = .inl (cs 17, 700, .inl fv) := (hB1.2.2.2 g1 (by rw [hT_g1]; simp only [List.mem_cons, List.not_mem_nil, or_false]; omega)).trans hF_330
                  generalize H1 = H at hP hS ⊢
                  have hw : (r_332 = 0 ∨ r_332 = 1) := hw
                  have hw_337 := hw
                  refine lv_if_eq (tgt := 278) hx hb dX15_readTerm_263 (by decide) (fun c_338 => ?_) (fun c_338 => ?_)
                  ·
                    refine lv_goto (tgt := 392) hx hb dX15_readTerm_278 (by decide) ?_
                    refine W.widen (k := 0) (n := 0) (by omega) (by omega) ?_
                    exact jn_58 (8, (-1), (-1), y21, u22_334) F_333 (⟨hq_335, Or.inl rfl, fun _ _ => rfl⟩) hO hR _ _ hP hD hS ls (lv_sub hl [1, 2, 3, 4, 5, 6] rfl)
                  ·
                    refine lv_aload_n hx hb dX15_readTerm_266 rfl (lv_at hl 3 rfl) ?_
                    refine pg_get (ci := 15) (v := .int y21) (C := RX15) (T := TX15) (N := 59) hx hb hts it_15 hown hK hP hL_h0 hq_335 rfl 21 (by decide) (hts _ kt_739) (fun _ h9 => h9) rfl dX15_readTerm_267 ?_
                    refine lv_if_lt (tgt := 278) hx hb dX15_readTerm_270 (by decide) (fun c_339 => ?_) (fun c_339 => ?_)
                    ·
                      refine lv_goto (tgt := 392) hx hb dX15_readTerm_278 (by decide) ?_
                      refine W.widen (k := 0) (n := 0) (by omega) (by omega) ?_
                      exact jn_58 (8, (-1), (-1), y21, u22_334) F_333 (⟨hq_335, Or.inl rfl, fun _ _ => rfl⟩) hO hR _ _ hP hD hS ls (lv_sub hl [1, 2, 3, 4, 5, 6] rfl)
                    ·
                      refine lv_aload_n hx hb dX15_readTerm_273 rfl (lv_at hl 3 rfl) ?_
                      refine lv_iconst (v := 4) hx hb dX15_readTerm_274 (by decide) ?_
                      refine pg_put (ci := 15) (v := .int 4) (ty := .int) (C := RX15) (T := TX15) (N := 59) hx hb hts it_15 tyX15 tyX15_ok nmX15 hown hK hP hD hS hL_h0 hq_335 rfl 17 (by decide) (hts _ kt_740) (fun _ h9 => h9) rfl (by decide +kernel) (rfl) (rfl) (Nat.le_of_ble_eq_true rfl) dX15_readTerm_275 (fun H locs hP hD hS => ?_)
                      obtain ⟨F_340, he_341, hP, hD, hO, hR⟩ : ∃ G, G = va_up F_333 h0 (.inr (15, (.ref ta) :: (.int (nI zt)) :: (.int (nI zo)) :: (.int (nI ze)) :: (.ref ou) :: (.ref so) :: (.ref ad) :: (.ref na) :: (.ref va) :: (.ref lc) :: (.ref dm) :: (.int v11) :: (.int v12) :: (.ref tg) :: (.int v14) :: (.int v15) :: (.ref pe) :: (.int 4) :: (.int q18) :: (.int (-1)) :: (.int (-1)) :: (.int y21) :: (.int u22_334) :: (.ref ml) :: (.ref bg) :: (.ref co) :: (.ref sp) :: (.ref nb0) :: (.ref nb1) :: (.ref nb2) :: (.int (nI nf)) :: (.int (nI bd)) :: (.int (nI mm)) :: (.int v33) :: (.ref pl) :: (.ref se) :: (.ref ke) :: (.ref wi) :: (.ref hs) :: (.ref mo) :: (.ref po) :: (.ref nu) :: (.ref pr) :: (.ref sq) :: (.ref xa) :: (.ref sa) :: (.ref n64) :: (.ref m64) :: (.ref ex) :: (.ref wh) :: (.ref sd) :: (.ref tk) :: (.int v52) :: (.int v53) :: (.int v54) :: (.ref hd) :: (.ref ak) :: (.ref ho) :: (.ref ot) :: [])) ∧ va_P (dC, dI) vwCl (va_pl L G) H ∧ va_D A (va_pl L G) ∧ OKm cs ty gm L G ∧ FR ty [ρ] F G := ⟨_, rfl, hP, hD, hO.up (shm.mod hT_h0 ⟨v11, v12, v14, v15, 4, q18, (-1), (-1), y21, u22_334, v33, v52, v53, v54, rfl, (by first | omega | assumption | exact Or.inl rfl | exact Or.inr rfl), (by first | omega | assumption | exact Or.inl rfl | exact Or.inr rfl), (by first | omega | assumption | exact Or.inl rfl | exact Or.inr rfl), (by first | omega | assumption | exact Or.inl rfl | exact Or.inr rfl)⟩), hR.up hT_h0 (by simp)⟩
                      have hF_342 : F_340 h0 = .inr (15, (.ref ta) :: (.int (nI zt)) :: (.int (nI zo)) :: (.int (nI ze)) :: (.ref ou) :: (.ref so) :: (.ref ad) :: (.ref na) :: (.ref va) :: (.ref lc) :: (.ref dm) :: (.int v11) :: (.int v12) :: (.ref tg) :: (.int v14) :: (.int v15) :: (.ref pe) :: (.int 4) :: (.int q18) :: (.int (-1)) :: (.int (-1)) :: (.int y21) :: (.int u22_334) :: (.ref ml) :: (.ref bg) :: (.ref co) :: (.ref sp) :: (.ref nb0) :: (.ref nb1) :: (.ref nb2) :: (.int (nI nf)) :: (.int (nI bd)) :: (.int (nI mm)) :: (.int v33) :: (.ref pl) :: (.ref se) :: (.ref ke) :: (.ref wi) :: (.ref hs) :: (.ref mo) :: (.ref po) :: (.ref nu) :: (.ref pr) :: (.ref sq) :: (.ref xa) :: (.ref sa) :: (.ref n64) :: (.ref m64) :: (.ref ex) :: (.ref wh) :: (.ref sd) :: (.ref tk) :: (.int v52) :: (.int v53) :: (.int v54) :: (.ref hd) :: (.ref ak) :: (.ref ho) :: (.ref ot) :: []) := by rw [he_341]; exact up_self
                      have hF_343 : F_340 g1 = .inl (cs 17, 700, .inl fv) := by rw [he_341, up_ne (ne_ty hT_g1 hT_h0 (by simp))]; exact hF_336
                      refine lv_goto (tgt := 392) hx hb dX15_readTerm_278 (by decide) ?_
                      refine W.widen (k := 0) (n := 0) (by omega) (by omega) ?_
                      exact jn_58 (4, (-1), (-1), y21, u22_334) F_340 (⟨hF_342, Or.inr ⟨(Or.inr (Or.inr (Or.inr (Or.inr (Or.inl rfl))))), Or.inl rfl⟩, fun h5 h9 => (c0_ne (by have h8 := (nm1 hw_182 c_183).2; rw [gA_fun hF_57] at h8; exact h8) (by omega) (hk3a h5) h9 (by decide)).elim⟩) hO hR _ _ hP hD hS ls (lv_sub hl [1, 2, 3, 4, 5, 6] rfl)
                ·
                  refine lv_iload hx hb dX15_readTerm_233 (lv_at hl 0 rfl) ?_
                  refine lv_iload_n hx hb dX15_readTerm_235 rfl (lv_at hl 6 rfl) ?_
                  refine lv_icmp_ge (tgt := 252) hx hb dX15_readTerm_236 (by decide) (fun c_344 => ?_) (fun c_344 => ?_)
                  ·
                    have hi_345 : tt ≤ k_325 := leN (N := tt) c_344
                    refine W.widen (k := 0) (n := 0) (by omega) (by omega) ?_
                    exact jn_326 32 F_54 (hk4a) hO hR _ _ hP hD hS ls (lv_sub hl [0, 1, 2, 3, 4, 5, 6] rfl)
                  ·
                    have hi_346 : k_325 < tt := ltN (N := tt) c_344
                    refine lv_aload_n hx hb dX15_readTerm_239 rfl (lv_at hl 3 rfl) ?_
                    refine lv_aload_n hx hb dX15_readTerm_240 rfl (lv_at hl 4 rfl) ?_
                    refine lv_iload hx hb dX15_readTerm_241 (lv_at hl 0 rfl) ?_
                    refine lv_iconst (v := 1) hx hb dX15_readTerm_243 (by decide) ?_
                    refine lv_iadd hx hb dX15_readTerm_244 ?_
                    refine lv_topi (fun x_347 ex_347 => ?_)
                    obtain rfl : x_347 = (nI (k_325 + 1)) := ex_347.trans (nI_add k_325 1)
                    refine lv_iload_n hx hb dX15_readTerm_245 rfl (lv_at hl 6 rfl) ?_
                    have hFc := pg_free hD hS hA
                    refine va_calli (va_runS (As := [.ref g1, .int (nI (k_325 + 1)), .int (nI tt)]) (rest := [.ref h0]) ⟨hx, hb, hml, hown, hts⟩ (s_X15_bits l dC dI cs ty gm L H.size F_54 g1 μ 700 (k_325 + 1) tt hW hL_g1 hT_g1 (by first | omega | assumption) (by first | omega | assumption)) ⟨callB_of 3 hts (gi kt_746) rfl rfl rfl (hts _ kt_659) (hts _ kt_747) (by decide +kernel) ⟨Nat.le_of_ble_eq_true rfl, Nat.le_of_ble_eq_true rfl⟩, (hts _ kt_748)⟩ ⟨fun a U g mk q => ⟨q.1, PTm.calling q.2⟩, fun U hU hWm => ⟨rfl, PTm.mk hU hWm hP hK hD hE hO⟩⟩ rfl rfl hl.1 rfl (lv_room (Nat.le_of_ble_eq_true rfl)) dX15_readTerm_246 ⟨by show _ + 0 ≤ 0; omega, by show _ + 0 ≤ 0; omega⟩) hS (fun q _ h => hFc q h) hFc (fun r_348 u t H1 locs ht hvm hw hB hz1 hk1 hS => ?_)
                    obtain ⟨F_349, hB1⟩ := hB
                    obtain rfl : F_54 = F_349 := (funext (fun a => hB1.2.2.2 a List.not_mem_nil)).symm
                    obtain ⟨hP, hD, hO, hR⟩ := QTm.back hB1 ht hFc hR (fun q h => absurd h List.not_mem_nil)
                    generalize H1 = H at hP hS ⊢
                    have hw : True := hw
                    have hw_350 := hw
                    refine pg_put (ci := 15) (v := .int r_348) (ty := .int) (C := RX15) (T := TX15) (N := 59) hx hb hts it_15 tyX15 tyX15_ok nmX15 hown hK hP hD hS hL_h0 hk4a rfl 21 (by decide) (hts _ kt_739) (fun _ h9 => h9) rfl (by decide +kernel) (rfl) (rfl) (Nat.le_of_ble_eq_true rfl) dX15_readTerm_249 (fun H locs hP hD hS => ?_)
                    obtain ⟨F_351, he_352, hP, hD, hO, hR⟩ : ∃ G, G = va_up F_54 h0 (.inr (15, (.ref ta) :: (.int (nI zt)) :: (.int (nI zo)) :: (.int (nI ze)) :: (.ref ou) :: (.ref so) :: (.ref ad) :: (.ref na) :: (.ref va) :: (.ref lc) :: (.ref dm) :: (.int v11) :: (.int v12) :: (.ref tg) :: (.int v14) :: (.int v15) :: (.ref pe) :: (.int 8) :: (.int q18) :: (.int (-1)) :: (.int (-1)) :: (.int r_348) :: (.int v22) :: (.ref ml) :: (.ref bg) :: (.ref co) :: (.ref sp) :: (.ref nb0) :: (.ref nb1) :: (.ref nb2) :: (.int (nI nf)) :: (.int (nI bd)) :: (.int (nI mm)) :: (.int v33) :: (.ref pl) :: (.ref se) :: (.ref ke) :: (.ref wi) :: (.ref hs) :: (.ref mo) :: (.ref po) :: (.ref nu) :: (.ref pr) :: (.ref sq) :: (.ref xa) :: (.ref sa) :: (.ref n64) :: (.ref m64) :: (.ref ex) :: (.ref wh) :: (.ref sd) :: (.ref tk) :: (.int v52) :: (.int v53) :: (.int v54) :: (.ref hd) :: (.ref ak) :: (.ref ho) :: (.ref ot) :: [])) ∧ va_P (dC, dI) vwCl (va_pl L G) H ∧ va_D A (va_pl L G) ∧ OKm cs ty gm L G ∧ FR ty [ρ] F G := ⟨_, rfl, hP, hD, hO.up (shm.mod hT_h0 ⟨v11, v12, v14, v15, 8, q18, (-1), (-1), r_348, v22, v33, v52, v53, v54, rfl, (by first | omega | assumption | exact Or.inl rfl | exact Or.inr rfl), (by first | omega | assumption | exact Or.inl rfl | exact Or.inr rfl), (by first | omega | assumption | exact Or.inl rfl | exact Or.inr rfl), (by first | omega | assumption | exact Or.inl rfl | exact Or.inr rfl)⟩), hR.up hT_h0 (by simp)⟩
                    have hF_353 : F_351 h0 = .inr (15, (.ref ta) :: (.int (nI zt)) :: (.int (nI zo)) :: (.int (nI ze)) :: (.ref ou) :: (.ref so) :: (.ref ad) :: (.ref na) :: (.ref va) :: (.ref lc) :: (.ref dm) :: (.int v11) :: (.int v12) :: (.ref tg) :: (.int v14) :: (.int v15) :: (.ref pe) :: (.int 8) :: (.int q18) :: (.int (-1)) :: (.int (-1)) :: (.int r_348) :: (.int v22) :: (.ref ml) :: (.ref bg) :: (.ref co) :: (.ref sp) :: (.ref nb0) :: (.ref nb1) :: (.ref nb2) :: (.int (nI nf)) :: (.int (nI bd)) :: (.int (nI mm)) :: (.int v33) :: (.ref pl) :: (.ref se) :: (.ref ke) :: (.ref wi) :: (.ref hs) :: (.ref mo) :: (.ref po) :: (.ref nu) :: (.ref pr) :: (.ref sq) :: (.ref xa) :: (.ref sa) :: (.ref n64) :: (.ref m64) :: (.ref ex) :: (.ref wh) :: (.ref sd) :: (.ref tk) :: (.int v52) :: (.int v53) :: (.int v54) :: (.ref hd) :: (.ref ak) :: (.ref ho) :: (.ref ot) :: []) := by rw [he_352]; exact up_self
                    have hF_354 : F_351 g1 = .inl (cs 17, 700, .inl fv) := by rw [he_352, up_ne (ne_ty hT_g1 hT_h0 (by simp))]; exact hF_57
                    refine W.widen (k := 0) (n := 0) (by omega) (by omega) ?_
                    exact jn_326 r_348 F_351 (hF_353) hO hR _ _ hP hD hS ls (lv_sub hl [0, 1, 2, 3, 4, 5, 6] rfl)
            ·
              have hb167 := (nm1 hw_176 c_177).1
              refine lv_aload_n hx hb dX15_readTerm_173 rfl (lv_at hl 2 rfl) ?_
              refine lv_iload hx hb dX15_readTerm_174 (lv_at hl 1 rfl) ?_
              refine lv_bipush (v := 7) hx hb dX15_readTerm_176 (by decide) ?_
              refine lv_iadd hx hb dX15_readTerm_178 ?_
              refine lv_topi (fun x_355 ex_355 => ?_)
              obtain rfl : x_355 = (nI (kk + 7)) := ex_355.trans (nI_add kk 7)
              refine pg_put (ci := 15) (v := .int (nI (kk + 7))) (ty := .int) (C := RX15) (T := TX15) (N := 59) hx hb hts it_15 tyX15 tyX15_ok nmX15 hown hK hP hD hS hL_h0 hk4a rfl 19 (by decide) (hts _ kt_741) (fun _ h9 => h9) rfl (by decide +kernel) (rfl) (rfl) (Nat.le_of_ble_eq_true rfl) dX15_readTerm_179 (fun H locs hP hD hS => ?_)
              obtain ⟨F_356, he_357, hP, hD, hO, hR⟩ : ∃ G, G = va_up F_54 h0 (.inr (15, (.ref ta) :: (.int (nI zt)) :: (.int (nI zo)) :: (.int (nI ze)) :: (.ref ou) :: (.ref so) :: (.ref ad) :: (.ref na) :: (.ref va) :: (.ref lc) :: (.ref dm) :: (.int v11) :: (.int v12) :: (.ref tg) :: (.int v14) :: (.int v15) :: (.ref pe) :: (.int 8) :: (.int q18) :: (.int (nI (kk + 7))) :: (.int (-1)) :: (.int 32) :: (.int v22) :: (.ref ml) :: (.ref bg) :: (.ref co) :: (.ref sp) :: (.ref nb0) :: (.ref nb1) :: (.ref nb2) :: (.int (nI nf)) :: (.int (nI bd)) :: (.int (nI mm)) :: (.int v33) :: (.ref pl) :: (.ref se) :: (.ref ke) :: (.ref wi) :: (.ref hs) :: (.ref mo) :: (.ref po) :: (.ref nu) :: (.ref pr) :: (.ref sq) :: (.ref xa) :: (.ref sa) :: (.ref n64) :: (.ref m64) :: (.ref ex) :: (.ref wh) :: (.ref sd) :: (.ref tk) :: (.int v52) :: (.int v53) :: (.int v54) :: (.ref hd) :: (.ref ak) :: (.ref ho) :: (.ref ot) :: [])) ∧ va_P (dC, dI) vwCl (va_pl L G) H ∧ va_D A (va_pl L G) ∧ OKm cs ty gm L G ∧ FR ty [ρ] F G := ⟨_, rfl, hP, hD, hO.up (shm.mod hT_h0 ⟨v11, v12, v14, v15, 8, q18, (nI (kk + 7)), (-1), 32, v22, v33, v52, v53, v54, rfl, (by first | omega | assumption | exact Or.inl rfl | exact Or.inr rfl), (by first | omega | assumption | exact Or.inl rfl | exact Or.inr rfl), (by first | omega | assumption | exact Or.inl rfl | exact Or.inr rfl), (by first | omega | assumption | exact Or.inl rfl | exact Or.inr rfl)⟩), hR.up hT_h0 (by simp)⟩
              have hF_358 : F_356 h0 = .inr (15, (.ref ta) :: (.int (nI zt)) :: (.int (nI zo)) :: (.int (nI ze)) :: (.ref ou) :: (.ref so) :: (.ref ad) :: (.ref na) :: (.ref va) :: (.ref lc) :: (.ref dm) :: (.int v11) :: (.int v12) :: (.ref tg) :: (.int v14) :: (.int v15) :: (.ref pe) :: (.int 8) :: (.int q18) :: (.int (nI (kk + 7))) :: (.int (-1)) :: (.int 32) :: (.int v22) :: (.ref ml) :: (.ref bg) :: (.ref co) :: (.ref sp) :: (.ref nb0) :: (.ref nb1) :: (.ref nb2) :: (.int (nI nf)) :: (.int (nI bd)) :: (.int (nI mm)) :: (.int v33) :: (.ref pl) :: (.ref se) :: (.ref ke) :: (.ref wi) :: (.ref hs) :: (.ref mo) :: (.ref po) :: (.ref nu) :: (.ref pr) :: (.ref sq) :: (.ref xa) :: (.ref sa) :: (.ref n64) :: (.ref m64) :: (.ref ex) :: (.ref wh) :: (.ref sd) :: (.ref tk) :: (.int v52) :: (.int v53) :: (.int v54) :: (.ref hd) :: (.ref ak) :: (.ref ho) :: (.ref ot) :: []) := by rw [he_357]; exact up_self
              have hF_359 : F_356 g1 = .inl (cs 17, 700, .inl fv) := by rw [he_357, up_ne (ne_ty hT_g1 hT_h0 (by simp))]; exact hF_57
              refine lv_aload_n hx hb dX15_readTerm_182 rfl (lv_at hl 2 rfl) ?_
              refine lv_iload_n hx hb dX15_readTerm_183 rfl (lv_at hl 5 rfl) ?_
              refine pg_put (ci := 15) (v := .int (nI tt)) (ty := .int) (C := RX15) (T := TX15) (N := 59) hx hb hts it_15 tyX15 tyX15_ok nmX15 hown hK hP hD hS hL_h0 hF_358 rfl 20 (by decide) (hts _ kt_742) (fun _ h9 => h9) rfl (by decide +kernel) (rfl) (rfl) (Nat.le_of_ble_eq_true rfl) dX15_readTerm_184 (fun H locs hP hD hS => ?_)
              obtain ⟨F_360, he_361, hP, hD, hO, hR⟩ : ∃ G, G = va_up F_356 h0 (.inr (15, (.ref ta) :: (.int (nI zt)) :: (.int (nI zo)) :: (.int (nI ze)) :: (.ref ou) :: (.ref so) :: (.ref ad) :: (.ref na) :: (.ref va) :: (.ref lc) :: (.ref dm) :: (.int v11) :: (.int v12) :: (.ref tg) :: (.int v14) :: (.int v15) :: (.ref pe) :: (.int 8) :: (.int q18) :: (.int (nI (kk + 7))) :: (.int (nI tt)) :: (.int 32) :: (.int v22) :: (.ref ml) :: (.ref bg) :: (.ref co) :: (.ref sp) :: (.ref nb0) :: (.ref nb1) :: (.ref nb2) :: (.int (nI nf)) :: (.int (nI bd)) :: (.int (nI mm)) :: (.int v33) :: (.ref pl) :: (.ref se) :: (.ref ke) :: (.ref wi) :: (.ref hs) :: (.ref mo) :: (.ref po) :: (.ref nu) :: (.ref pr) :: (.ref sq) :: (.ref xa) :: (.ref sa) :: (.ref n64) :: (.ref m64) :: (.ref ex) :: (.ref wh) :: (.ref sd) :: (.ref tk) :: (.int v52) :: (.int v53) :: (.int v54) :: (.ref hd) :: (.ref ak) :: (.ref ho) :: (.ref ot) :: [])) ∧ va_P (dC, dI) vwCl (va_pl L G) H ∧ va_D A (va_pl L G) ∧ OKm cs ty gm L G ∧ FR ty [ρ] F G := ⟨_, rfl, hP, hD, hO.up (shm.mod hT_h0 ⟨v11, v12, v14, v15, 8, q18, (nI (kk + 7)), (nI tt), 32, v22, v33, v52, v53, v54, rfl, (by first | omega | assumption | exact Or.inl rfl | exact Or.inr rfl), (by first | omega | assumption | exact Or.inl rfl | exact Or.inr rfl), (by first | omega | assumption | exact Or.inl rfl | exact Or.inr rfl), (by first | omega | assumption | exact Or.inl rfl | exact Or.inr rfl)⟩), hR.up hT_h0 (by simp)⟩
              have hF_362 : F_360 h0 = .inr (15, (.ref ta) :: (.int (nI zt)) :: (.int (nI zo)) :: (.int (nI ze)) :: (.ref ou) :: (.ref so) :: (.ref ad) :: (.ref na) :: (.ref va) :: (.ref lc) :: (.ref dm) :: (.int v11) :: (.int v12) :: (.ref tg) :: (.int v14) :: (.int v15) :: (.ref pe) :: (.int 8) :: (.int q18) :: (.int (nI (kk + 7))) :: (.int (nI tt)) :: (.int 32) :: (.int v22) :: (.ref ml) :: (.ref bg) :: (.ref co) :: (.ref sp) :: (.ref nb0) :: (.ref nb1) :: (.ref nb2) :: (.int (nI nf)) :: (.int (nI bd)) :: (.int (nI mm)) :: (.int v33) :: (.ref pl) :: (.ref se) :: (.ref ke) :: (.ref wi) :: (.ref hs) :: (.ref mo) :: (.ref po) :: (.ref nu) :: (.ref pr) :: (.ref sq) :: (.ref xa) :: (.ref sa) :: (.ref n64) :: (.ref m64) :: (.ref ex) :: (.ref wh) :: (.ref sd) :: (.ref tk) :: (.int v52) :: (.int v53) :: (.int v54) :: (.ref hd) :: (.ref ak) :: (.ref ho) :: (.ref ot) :: []) := by rw [he_361]; exact up_self
              have hF_363 : F_360 g1 = .inl (cs 17, 700, .inl fv) := by rw [he_361, up_ne (ne_ty hT_g1 hT_h0 (by simp))]; exact hF_359
              refine lv_aload_n hx hb dX15_readTerm_187 rfl (lv_at hl 3 rfl) ?_
              refine lv_aload_n hx hb dX15_readTerm_188 rfl (lv_at hl 2 rfl) ?_
              refine pg_get (ci := 15) (v := .int (nI (kk + 7))) (C := RX15) (T := TX15) (N := 59) hx hb hts it_15 hown hK hP hL_h0 hF_362 rfl 19 (by decide) (hts _ kt_741) (fun _ h9 => h9) rfl dX15_readTerm_189 ?_
              refine lv_aload_n hx hb dX15_readTerm_192 rfl (lv_at hl 2 rfl) ?_
              refine pg_get (ci := 15) (v := .int (nI tt)) (C := RX15) (T := TX15) (N := 59) hx hb hts it_15 hown hK hP hL_h0 hF_362 rfl 20 (by decide) (hts _ kt_742) (fun _ h9 => h9) rfl dX15_readTerm_193 ?_
              refine lv_iconst (v := 1) hx hb dX15_readTerm_196 (by decide) ?_
              have hFc := pg_free hD hS hA
              refine va_calli (va_runS (As := [.ref g1, .int (nI (kk + 7)), .int (nI tt), .int 1]) (rest := []) ⟨hx, hb, hml, hown, hts⟩ (s_X15_isD l dC dI cs ty gm L H.size F_360 g1 μ 700 (kk + 7) tt 1 hW hL_g1 hT_g1 (by first | omega | assumption) (by first | omega | assumption)) ⟨callB_of 4 hts (gi kt_743) rfl rfl rfl (hts _ kt_659) (hts _ kt_744) (by decide +kernel) ⟨Nat.le_of_ble_eq_true rfl, Nat.le_of_ble_eq_true rfl⟩, (hts _ kt_745)⟩ ⟨fun a U g mk q => ⟨q.1, PTm.calling q.2⟩, fun U hU hWm => ⟨rfl, PTm.mk hU hWm hP hK hD hE hO⟩⟩ rfl rfl hl.1 rfl (lv_room (Nat.le_of_ble_eq_true rfl)) dX15_readTerm_197 ⟨by show _ + 0 ≤ 0; omega, by show _ + 0 ≤ 0; omega⟩) hS (fun q _ h => hFc q h) hFc (fun r_364 u t H1 locs ht hvm hw hB hz1 hk1 hS => ?_)
              obtain ⟨F_365, hB1⟩ := hB
              obtain rfl : F_360 = F_365 := (funext (fun a => hB1.2.2.2 a List.not_mem_nil)).symm
              obtain ⟨hP, hD, hO, hR⟩ := QTm.back hB1 ht hFc hR (fun q h => absurd h List.not_mem_nil)
              generalize H1 = H at hP hS ⊢
              have hw : (r_364 = 0 ∨ (r_364 = 1 ∧ (kk + 7) < tt ∧ ISD (gA (F_360 g1)) tt (kk + 7))) := hw
              have hw_366 := hw
              refine lv_if_eq (tgt := 392) hx hb dX15_readTerm_200 (by decide) (fun c_367 => ?_) (fun c_367 => ?_)
              ·
                refine W.widen (k := 0) (n := 0) (by omega) (by omega) ?_
                exact jn_58 (8, (nI (kk + 7)), (nI tt), 32, v22) F_360 (⟨hF_362, Or.inl rfl, fun _ _ => rfl⟩) hO hR _ _ hP hD hS ls (lv_sub hl [0, 1, 2, 3, 4, 5] rfl)
              ·
                refine lv_aload_n hx hb dX15_readTerm_203 rfl (lv_at hl 2 rfl) ?_
                refine lv_iconst (v := 5) hx hb dX15_readTerm_204 (by decide) ?_
                refine pg_put (ci := 15) (v := .int 5) (ty := .int) (C := RX15) (T := TX15) (N := 59) hx hb hts it_15 tyX15 tyX15_ok nmX15 hown hK hP hD hS hL_h0 hF_362 rfl 17 (by decide) (hts _ kt_740) (fun _ h9 => h9) rfl (by decide +kernel) (rfl) (rfl) (Nat.le_of_ble_eq_true rfl) dX15_readTerm_205 (fun H locs hP hD hS => ?_)
                obtain ⟨F_368, he_369, hP, hD, hO, hR⟩ : ∃ G, G = va_up F_360 h0 (.inr (15, (.ref ta) :: (.int (nI zt)) :: (.int (nI zo)) :: (.int (nI ze)) :: (.ref ou) :: (.ref so) :: (.ref ad) :: (.ref na) :: (.ref va) :: (.ref lc) :: (.ref dm) :: (.int v11) :: (.int v12) :: (.ref tg) :: (.int v14) :: (.int v15) :: (.ref pe) :: (.int 5) :: (.int q18) :: (.int (nI (kk + 7))) :: (.int (nI tt)) :: (.int 32) :: (.int v22) :: (.ref ml) :: (.ref bg) :: (.ref co) :: (.ref sp) :: (.ref nb0) :: (.ref nb1) :: (.ref nb2) :: (.int (nI nf)) :: (.int (nI bd)) :: (.int (nI mm)) :: (.int v33) :: (.ref pl) :: (.ref se) :: (.ref ke) :: (.ref wi) :: (.ref hs) :: (.ref mo) :: (.ref po) :: (.ref nu) :: (.ref pr) :: (.ref sq) :: (.ref xa) :: (.ref sa) :: (.ref n64) :: (.ref m64) :: (.ref ex) :: (.ref wh) :: (.ref sd) :: (.ref tk) :: (.int v52) :: (.int v53) :: (.int v54) :: (.ref hd) :: (.ref ak) :: (.ref ho) :: (.ref ot) :: [])) ∧ va_P (dC, dI) vwCl (va_pl L G) H ∧ va_D A (va_pl L G) ∧ OKm cs ty gm L G ∧ FR ty [ρ] F G := ⟨_, rfl, hP, hD, hO.up (shm.mod hT_h0 ⟨v11, v12, v14, v15, 5, q18, (nI (kk + 7)), (nI tt), 32, v22, v33, v52, v53, v54, rfl, (by first | omega | assumption | exact Or.inl rfl | exact Or.inr rfl), (by first | omega | assumption | exact Or.inl rfl | exact Or.inr rfl), (by first | omega | assumption | exact Or.inl rfl | exact Or.inr rfl), (by first | omega | assumption | exact Or.inl rfl | exact Or.inr rfl)⟩), hR.up hT_h0 (by simp)⟩
                have hF_370 : F_368 h0 = .inr (15, (.ref ta) :: (.int (nI zt)) :: (.int (nI zo)) :: (.int (nI ze)) :: (.ref ou) :: (.ref so) :: (.ref ad) :: (.ref na) :: (.ref va) :: (.ref lc) :: (.ref dm) :: (.int v11) :: (.int v12) :: (.ref tg) :: (.int v14) :: (.int v15) :: (.ref pe) :: (.int 5) :: (.int q18) :: (.int (nI (kk + 7))) :: (.int (nI tt)) :: (.int 32) :: (.int v22) :: (.ref ml) :: (.ref bg) :: (.ref co) :: (.ref sp) :: (.ref nb0) :: (.ref nb1) :: (.ref nb2) :: (.int (nI nf)) :: (.int (nI bd)) :: (.int (nI mm)) :: (.int v33) :: (.ref pl) :: (.ref se) :: (.ref ke) :: (.ref wi) :: (.ref hs) :: (.ref mo) :: (.ref po) :: (.ref nu) :: (.ref pr) :: (.ref sq) :: (.ref xa) :: (.ref sa) :: (.ref n64) :: (.ref m64) :: (.ref ex) :: (.ref wh) :: (.ref sd) :: (.ref tk) :: (.int v52) :: (.int v53) :: (.int v54) :: (.ref hd) :: (.ref ak) :: (.ref ho) :: (.ref ot) :: []) := by rw [he_369]; exact up_self
                have hF_371 : F_368 g1 = .inl (cs 17, 700, .inl fv) := by rw [he_369, up_ne (ne_ty hT_g1 hT_h0 (by simp))]; exact hF_363
                refine lv_goto (tgt := 392) hx hb dX15_readTerm_208 (by decide) ?_
                refine W.widen (k := 0) (n := 0) (by omega) (by omega) ?_
                exact jn_58 (5, (nI (kk + 7)), (nI tt), 32, v22) F_368 (⟨hF_370, Or.inr ⟨(Or.inr (Or.inr (Or.inr (Or.inr (Or.inr rfl))))), Or.inr ⟨_, _, rfl, rfl, Nat.le_of_lt (bit1 hw_366 c_367).1, by omega, (by have h9 := (bit1 hw_366 c_367).2; rw [gA_fun hF_363] at h9; exact h9)⟩⟩, fun h5 h9 => (c0_ne (by have h8 := (nm1 hw_176 c_177).2; rw [gA_fun hF_57] at h8; exact h8) (by omega) (hk3a h5) h9 (by decide)).elim⟩) hO hR _ _ hP hD hS ls (lv_sub hl [0, 1, 2, 3, 4, 5] rfl)
          ·
            have hb116 := (nm1 hw_170 c_171).1
            refine lv_aload_n hx hb dX15_readTerm_122 rfl (lv_at hl 2 rfl) ?_
            refine lv_iload hx hb dX15_readTerm_123 (lv_at hl 1 rfl) ?_
            refine lv_bipush (v := 8) hx hb dX15_readTerm_125 (by decide) ?_
            refine lv_iadd hx hb dX15_readTerm_127 ?_
            refine lv_topi (fun x_372 ex_372 => ?_)
            obtain rfl : x_372 = (nI (kk + 8)) := ex_372.trans (nI_add kk 8)
            refine pg_put (ci := 15) (v := .int (nI (kk + 8))) (ty := .int) (C := RX15) (T := TX15) (N := 59) hx hb hts it_15 tyX15 tyX15_ok nmX15 hown hK hP hD hS hL_h0 hk4a rfl 19 (by decide) (hts _ kt_741) (fun _ h9 => h9) rfl (by decide +kernel) (rfl) (rfl) (Nat.le_of_ble_eq_true rfl) dX15_readTerm_128 (fun H locs hP hD hS => ?_)
            obtain ⟨F_373, he_374, hP, hD, hO, hR⟩ : ∃ G, G = va_up F_54 h0 (.inr (15, (.ref ta) :: (.int (nI zt)) :: (.int (nI zo)) :: (.int (nI ze)) :: (.ref ou) :: (.ref so) :: (.ref ad) :: (.ref na) :: (.ref va) :: (.ref lc) :: (.ref dm) :: (.int v11) :: (.int v12) :: (.ref tg) :: (.int v14) :: (.int v15) :: (.ref pe) :: (.int 8) :: (.int q18) :: (.int (nI (kk + 8))) :: (.int (-1)) :: (.int 32) :: (.int v22) :: (.ref ml) :: (.ref bg) :: (.ref co) :: (.ref sp) :: (.ref nb0) :: (.ref nb1) :: (.ref nb2) :: (.int (nI nf)) :: (.int (nI bd)) :: (.int (nI mm)) :: (.int v33) :: (.ref pl) :: (.ref se) :: (.ref ke) :: (.ref wi) :: (.ref hs) :: (.ref mo) :: (.ref po) :: (.ref nu) :: (.ref pr) :: (.ref sq) :: (.ref xa) :: (.ref sa) :: (.ref n64) :: (.ref m64) :: (.ref ex) :: (.ref wh) :: (.ref sd) :: (.ref tk) :: (.int v52) :: (.int v53) :: (.int v54) :: (.ref hd) :: (.ref ak) :: (.ref ho) :: (.ref ot) :: [])) ∧ va_P (dC, dI) vwCl (va_pl L G) H ∧ va_D A (va_pl L G) ∧ OKm cs ty gm L G ∧ FR ty [ρ] F G := ⟨_, rfl, hP, hD, hO.up (shm.mod hT_h0 ⟨v11, v12, v14, v15, 8, q18, (nI (kk + 8)), (-1), 32, v22, v33, v52, v53, v54, rfl, (by first | omega | assumption | exact Or.inl rfl | exact Or.inr rfl), (by first | omega | assumption | exact Or.inl rfl | exact Or.inr rfl), (by first | omega | assumption | exact Or.inl rfl | exact Or.inr rfl), (by first | omega | assumption | exact Or.inl rfl | exact Or.inr rfl)⟩), hR.up hT_h0 (by simp)⟩
            have hF_375 : F_373 h0 = .inr (15, (.ref ta) :: (.int (nI zt)) :: (.int (nI zo)) :: (.int (nI ze)) :: (.ref ou) :: (.ref so) :: (.ref ad) :: (.ref na) :: (.ref va) :: (.ref lc) :: (.ref dm) :: (.int v11) :: (.int v12) :: (.ref tg) :: (.int v14) :: (.int v15) :: (.ref pe) :: (.int 8) :: (.int q18) :: (.int (nI (kk + 8))) :: (.int (-1)) :: (.int 32) :: (.int v22) :: (.ref ml) :: (.ref bg) :: (.ref co) :: (.ref sp) :: (.ref nb0) :: (.ref nb1) :: (.ref nb2) :: (.int (nI nf)) :: (.int (nI bd)) :: (.int (nI mm)) :: (.int v33) :: (.ref pl) :: (.ref se) :: (.ref ke) :: (.ref wi) :: (.ref hs) :: (.ref mo) :: (.ref po) :: (.ref nu) :: (.ref pr) :: (.ref sq) :: (.ref xa) :: (.ref sa) :: (.ref n64) :: (.ref m64) :: (.ref ex) :: (.ref wh) :: (.ref sd) :: (.ref tk) :: (.int v52) :: (.int v53) :: (.int v54) :: (.ref hd) :: (.ref ak) :: (.ref ho) :: (.ref ot) :: []) := by rw [he_374]; exact up_self
            have hF_376 : F_373 g1 = .inl (cs 17, 700, .inl fv) := by rw [he_374, up_ne (ne_ty hT_g1 hT_h0 (by simp))]; exact hF_57
            refine lv_aload_n hx hb dX15_readTerm_131 rfl (lv_at hl 2 rfl) ?_
            refine lv_iload_n hx hb dX15_readTerm_132 rfl (lv_at hl 5 rfl) ?_
            refine pg_put (ci := 15) (v := .int (nI tt)) (ty := .int) (C := RX15) (T := TX15) (N := 59) hx hb hts it_15 tyX15 tyX15_ok nmX15 hown hK hP hD hS hL_h0 hF_375 rfl 20 (by decide) (hts _ kt_742) (fun _ h9 => h9) rfl (by decide +kernel) (rfl) (rfl) (Nat.le_of_ble_eq_true rfl) dX15_readTerm_133 (fun H locs hP hD hS => ?_)
            obtain ⟨F_377, he_378, hP, hD, hO, hR⟩ : ∃ G, G = va_up F_373 h0 (.inr (15, (.ref ta) :: (.int (nI zt)) :: (.int (nI zo)) :: (.int (nI ze)) :: (.ref ou) :: (.ref so) :: (.ref ad) :: (.ref na) :: (.ref va) :: (.ref lc) :: (.ref dm) :: (.int v11) :: (.int v12) :: (.ref tg) :: (.int v14) :: (.int v15) :: (.ref pe) :: (.int 8) :: (.int q18) :: (.int (nI (kk + 8))) :: (.int (nI tt)) :: (.int 32) :: (.int v22) :: (.ref ml) :: (.ref bg) :: (.ref co) :: (.ref sp) :: (.ref nb0) :: (.ref nb1) :: (.ref nb2) :: (.int (nI nf)) :: (.int (nI bd)) :: (.int (nI mm)) :: (.int v33) :: (.ref pl) :: (.ref se) :: (.ref ke) :: (.ref wi) :: (.ref hs) :: (.ref mo) :: (.ref po) :: (.ref nu) :: (.ref pr) :: (.ref sq) :: (.ref xa) :: (.ref sa) :: (.ref n64) :: (.ref m64) :: (.ref ex) :: (.ref wh) :: (.ref sd) :: (.ref tk) :: (.int v52) :: (.int v53) :: (.int v54) :: (.ref hd) :: (.ref ak) :: (.ref ho) :: (.ref ot) :: [])) ∧ va_P (dC, dI) vwCl (va_pl L G) H ∧ va_D A (va_pl L G) ∧ OKm cs ty gm L G ∧ FR ty [ρ] F G := ⟨_, rfl, hP, hD, hO.up (shm.mod hT_h0 ⟨v11, v12, v14, v15, 8, q18, (nI (kk + 8)), (nI tt), 32, v22, v33, v52, v53, v54, rfl, (by first | omega | assumption | exact Or.inl rfl | exact Or.inr rfl), (by first | omega | assumption | exact Or.inl rfl | exact Or.inr rfl), (by first | omega | assumption | exact Or.inl rfl | exact Or.inr rfl), (by first | omega | assumption | exact Or.inl rfl | exact Or.inr rfl)⟩), hR.up hT_h0 (by simp)⟩
            have hF_379 : F_377 h0 = .inr (15, (.ref ta) :: (.int (nI zt)) :: (.int (nI zo)) :: (.int (nI ze)) :: (.ref ou) :: (.ref so) :: (.ref ad) :: (.ref na) :: (.ref va) :: (.ref lc) :: (.ref dm) :: (.int v11) :: (.int v12) :: (.ref tg) :: (.int v14) :: (.int v15) :: (.ref pe) :: (.int 8) :: (.int q18) :: (.int (nI (kk + 8))) :: (.int (nI tt)) :: (.int 32) :: (.int v22) :: (.ref ml) :: (.ref bg) :: (.ref co) :: (.ref sp) :: (.ref nb0) :: (.ref nb1) :: (.ref nb2) :: (.int (nI nf)) :: (.int (nI bd)) :: (.int (nI mm)) :: (.int v33) :: (.ref pl) :: (.ref se) :: (.ref ke) :: (.ref wi) :: (.ref hs) :: (.ref mo) :: (.ref po) :: (.ref nu) :: (.ref pr) :: (.ref sq) :: (.ref xa) :: (.ref sa) :: (.ref n64) :: (.ref m64) :: (.ref ex) :: (.ref wh) :: (.ref sd) :: (.ref tk) :: (.int v52) :: (.int v53) :: (.int v54) :: (.ref hd) :: (.ref ak) :: (.ref ho) :: (.ref ot) :: []) := by rw [he_378]; exact up_self
            have hF_380 : F_377 g1 = .inl (cs 17, 700, .inl fv) := by rw [he_378, up_ne (ne_ty hT_g1 hT_h0 (by simp))]; exact hF_376
            refine lv_aload_n hx hb dX15_readTerm_136 rfl (lv_at hl 3 rfl) ?_
            refine lv_aload_n hx hb dX15_readTerm_137 rfl (lv_at hl 2 rfl) ?_
            refine pg_get (ci := 15) (v := .int (nI (kk + 8))) (C := RX15) (T := TX15) (N := 59) hx hb hts it_15 hown hK hP hL_h0 hF_379 rfl 19 (by decide) (hts _ kt_741) (fun _ h9 => h9) rfl dX15_readTerm_138 ?_
            refine lv_aload_n hx hb dX15_readTerm_141 rfl (lv_at hl 2 rfl) ?_
            refine pg_get (ci := 15) (v := .int (nI tt)) (C := RX15) (T := TX15) (N := 59) hx hb hts it_15 hown hK hP hL_h0 hF_379 rfl 20 (by decide) (hts _ kt_742) (fun _ h9 => h9) rfl dX15_readTerm_142 ?_
            refine lv_iconst (v := 1) hx hb dX15_readTerm_145 (by decide) ?_
            have hFc := pg_free hD hS hA
            refine va_calli (va_runS (As := [.ref g1, .int (nI (kk + 8)), .int (nI tt), .int 1]) (rest := []) ⟨hx, hb, hml, hown, hts⟩ (s_X15_isD l dC dI cs ty gm L H.size F_377 g1 μ 700 (kk + 8) tt 1 hW hL_g1 hT_g1 (by first | omega | assumption) (by first | omega | assumption)) ⟨callB_of 4 hts (gi kt_743) rfl rfl rfl (hts _ kt_659) (hts _ kt_744) (by decide +kernel) ⟨Nat.le_of_ble_eq_true rfl, Nat.le_of_ble_eq_true rfl⟩, (hts _ kt_745)⟩ ⟨fun a U g mk q => ⟨q.1, PTm.calling q.2⟩, fun U hU hWm => ⟨rfl, PTm.mk hU hWm hP hK hD hE hO⟩⟩ rfl rfl hl.1 rfl (lv_room (Nat.le_of_ble_eq_true rfl)) dX15_readTerm_146 ⟨by show _ + 0 ≤ 0; omega, by show _ + 0 ≤ 0; omega⟩) hS (fun q _ h => hFc q h) hFc (fun r_381 u t H1 locs ht hvm hw hB hz1 hk1 hS => ?_)
            obtain ⟨F_382, hB1⟩ := hB
            obtain rfl : F_377 = F_382 := (funext (fun a => hB1.2.2.2 a List.not_mem_nil)).symm
            obtain ⟨hP, hD, hO, hR⟩ := QTm.back hB1 ht hFc hR (fun q h => absurd h List.not_mem_nil)
            generalize H1 = H at hP hS ⊢
            have hw : (r_381 = 0 ∨ (r_381 = 1 ∧ (kk + 8) < tt ∧ ISD (gA (F_377 g1)) tt (kk + 8))) := hw
            have hw_383 := hw
            refine lv_if_eq (tgt := 392) hx hb dX15_readTerm_149 (by decide) (fun c_384 => ?_) (fun c_384 => ?_)
            ·
              refine W.widen (k := 0) (n := 0) (by omega) (by omega) ?_
              exact jn_58 (8, (nI (kk + 8)), (nI tt), 32, v22) F_377 (⟨hF_379, Or.inl rfl, fun _ _ => rfl⟩) hO hR _ _ hP hD hS ls (lv_sub hl [0, 1, 2, 3, 4, 5] rfl)
            ·
              refine lv_aload_n hx hb dX15_readTerm_152 rfl (lv_at hl 2 rfl) ?_
              refine lv_iconst (v := 1) hx hb dX15_readTerm_153 (by decide) ?_
              refine pg_put (ci := 15) (v := .int 1) (ty := .int) (C := RX15) (T := TX15) (N := 59) hx hb hts it_15 tyX15 tyX15_ok nmX15 hown hK hP hD hS hL_h0 hF_379 rfl 17 (by decide) (hts _ kt_740) (fun _ h9 => h9) rfl (by decide +kernel) (rfl) (rfl) (Nat.le_of_ble_eq_true rfl) dX15_readTerm_154 (fun H locs hP hD hS => ?_)
              obtain ⟨F_385, he_386, hP, hD, hO, hR⟩ : ∃ G, G = va_up F_377 h0 (.inr (15, (.ref ta) :: (.int (nI zt)) :: (.int (nI zo)) :: (.int (nI ze)) :: (.ref ou) :: (.ref so) :: (.ref ad) :: (.ref na) :: (.ref va) :: (.ref lc) :: (.ref dm) :: (.int v11) :: (.int v12) :: (.ref tg) :: (.int v14) :: (.int v15) :: (.ref pe) :: (.int 1) :: (.int q18) :: (.int (nI (kk + 8))) :: (.int (nI tt)) :: (.int 32) :: (.int v22) :: (.ref ml) :: (.ref bg) :: (.ref co) :: (.ref sp) :: (.ref nb0) :: (.ref nb1) :: (.ref nb2) :: (.int (nI nf)) :: (.int (nI bd)) :: (.int (nI mm)) :: (.int v33) :: (.ref pl) :: (.ref se) :: (.ref ke) :: (.ref wi) :: (.ref hs) :: (.ref mo) :: (.ref po) :: (.ref nu) :: (.ref pr) :: (.ref sq) :: (.ref xa) :: (.ref sa) :: (.ref n64) :: (.ref m64) :: (.ref ex) :: (.ref wh) :: (.ref sd) :: (.ref tk) :: (.int v52) :: (.int v53) :: (.int v54) :: (.ref hd) :: (.ref ak) :: (.ref ho) :: (.ref ot) :: [])) ∧ va_P (dC, dI) vwCl (va_pl L G) H ∧ va_D A (va_pl L G) ∧ OKm cs ty gm L G ∧ FR ty [ρ] F G := ⟨_, rfl, hP, hD, hO.up (shm.mod hT_h0 ⟨v11, v12, v14, v15, 1, q18, (nI (kk + 8)), (nI tt), 32, v22, v33, v52, v53, v54, rfl, (by first | omega | assumption | exact Or.inl rfl | exact Or.inr rfl), (by first | omega | assumption | exact Or.inl rfl | exact Or.inr rfl), (by first | omega | assumption | exact Or.inl rfl | exact Or.inr rfl), (by first | omega | assumption | exact Or.inl rfl | exact Or.inr rfl)⟩), hR.up hT_h0 (by simp)⟩
              have hF_387 : F_385 h0 = .inr (15, (.ref ta) :: (.int (nI zt)) :: (.int (nI zo)) :: (.int (nI ze)) :: (.ref ou) :: (.ref so) :: (.ref ad) :: (.ref na) :: (.ref va) :: (.ref lc) :: (.ref dm) :: (.int v11) :: (.int v12) :: (.ref tg) :: (.int v14) :: (.int v15) :: (.ref pe) :: (.int 1) :: (.int q18) :: (.int (nI (kk + 8))) :: (.int (nI tt)) :: (.int 32) :: (.int v22) :: (.ref ml) :: (.ref bg) :: (.ref co) :: (.ref sp) :: (.ref nb0) :: (.ref nb1) :: (.ref nb2) :: (.int (nI nf)) :: (.int (nI bd)) :: (.int (nI mm)) :: (.int v33) :: (.ref pl) :: (.ref se) :: (.ref ke) :: (.ref wi) :: (.ref hs) :: (.ref mo) :: (.ref po) :: (.ref nu) :: (.ref pr) :: (.ref sq) :: (.ref xa) :: (.ref sa) :: (.ref n64) :: (.ref m64) :: (.ref ex) :: (.ref wh) :: (.ref sd) :: (.ref tk) :: (.int v52) :: (.int v53) :: (.int v54) :: (.ref hd) :: (.ref ak) :: (.ref ho) :: (.ref ot) :: []) := by rw [he_386]; exact up_self
              have hF_388 : F_385 g1 = .inl (cs 17, 700, .inl fv) := by rw [he_386, up_ne (ne_ty hT_g1 hT_h0 (by simp))]; exact hF_380
              refine lv_goto (tgt := 392) hx hb dX15_readTerm_157 (by decide) ?_
              refine W.widen (k := 0) (n := 0) (by omega) (by omega) ?_
              exact jn_58 (1, (nI (kk + 8)), (nI tt), 32, v22) F_385 (⟨hF_387, Or.inr ⟨(Or.inr (Or.inl rfl)), Or.inr ⟨_, _, rfl, rfl, Nat.le_of_lt (bit1 hw_383 c_384).1, by omega, (by have h9 := (bit1 hw_383 c_384).2; rw [gA_fun hF_380] at h9; exact h9)⟩⟩, fun h5 h9 => (c0_ne (by have h8 := (nm1 hw_170 c_171).2; rw [gA_fun hF_57] at h8; exact h8) (by omega) (hk3a h5) h9 (by decide)).elim⟩) hO hR _ _ hP hD hS ls (lv_sub hl [0, 1, 2, 3, 4, 5] rfl)
        ·
          refine lv_aload_n hx hb dX15_readTerm_102 rfl (lv_at hl 2 rfl) ?_
          refine lv_iconst (v := 0) hx hb dX15_readTerm_103 (by decide) ?_
          refine pg_put (ci := 15) (v := .int 0) (ty := .int) (C := RX15) (T := TX15) (N := 59) hx hb hts it_15 tyX15 tyX15_ok nmX15 hown hK hP hD hS hL_h0 hk4a rfl 17 (by decide) (hts _ kt_740) (fun _ h9 => h9) rfl (by decide +kernel) (rfl) (rfl) (Nat.le_of_ble_eq_true rfl) dX15_readTerm_104 (fun H locs hP hD hS => ?_)
          obtain ⟨F_389, he_390, hP, hD, hO, hR⟩ : ∃ G, G = va_up F_54 h0 (.inr (15, (.ref ta) :: (.int (nI zt)) :: (.int (nI zo)) :: (.int (nI ze)) :: (.ref ou) :: (.ref so) :: (.ref ad) :: (.ref na) :: (.ref va) :: (.ref lc) :: (.ref dm) :: (.int v11) :: (.int v12) :: (.ref tg) :: (.int v14) :: (.int v15) :: (.ref pe) :: (.int 0) :: (.int q18) :: (.int (-1)) :: (.int (-1)) :: (.int 32) :: (.int v22) :: (.ref ml) :: (.ref bg) :: (.ref co) :: (.ref sp) :: (.ref nb0) :: (.ref nb1) :: (.ref nb2) :: (.int (nI nf)) :: (.int (nI bd)) :: (.int (nI mm)) :: (.int v33) :: (.ref pl) :: (.ref se) :: (.ref ke) :: (.ref wi) :: (.ref hs) :: (.ref mo) :: (.ref po) :: (.ref nu) :: (.ref pr) :: (.ref sq) :: (.ref xa) :: (.ref sa) :: (.ref n64) :: (.ref m64) :: (.ref ex) :: (.ref wh) :: (.ref sd) :: (.ref tk) :: (.int v52) :: (.int v53) :: (.int v54) :: (.ref hd) :: (.ref ak) :: (.ref ho) :: (.ref ot) :: [])) ∧ va_P (dC, dI) vwCl (va_pl L G) H ∧ va_D A (va_pl L G) ∧ OKm cs ty gm L G ∧ FR ty [ρ] F G := ⟨_, rfl, hP, hD, hO.up (shm.mod hT_h0 ⟨v11, v12, v14, v15, 0, q18, (-1), (-1), 32, v22, v33, v52, v53, v54, rfl, (by first | omega | assumption | exact Or.inl rfl | exact Or.inr rfl), (by first | omega | assumption | exact Or.inl rfl | exact Or.inr rfl), (by first | omega | assumption | exact Or.inl rfl | exact Or.inr rfl), (by first | omega | assumption | exact Or.inl rfl | exact Or.inr rfl)⟩), hR.up hT_h0 (by simp)⟩
          have hF_391 : F_389 h0 = .inr (15, (.ref ta) :: (.int (nI zt)) :: (.int (nI zo)) :: (.int (nI ze)) :: (.ref ou) :: (.ref so) :: (.ref ad) :: (.ref na) :: (.ref va) :: (.ref lc) :: (.ref dm) :: (.int v11) :: (.int v12) :: (.ref tg) :: (.int v14) :: (.int v15) :: (.ref pe) :: (.int 0) :: (.int q18) :: (.int (-1)) :: (.int (-1)) :: (.int 32) :: (.int v22) :: (.ref ml) :: (.ref bg) :: (.ref co) :: (.ref sp) :: (.ref nb0) :: (.ref nb1) :: (.ref nb2) :: (.int (nI nf)) :: (.int (nI bd)) :: (.int (nI mm)) :: (.int v33) :: (.ref pl) :: (.ref se) :: (.ref ke) :: (.ref wi) :: (.ref hs) :: (.ref mo) :: (.ref po) :: (.ref nu) :: (.ref pr) :: (.ref sq) :: (.ref xa) :: (.ref sa) :: (.ref n64) :: (.ref m64) :: (.ref ex) :: (.ref wh) :: (.ref sd) :: (.ref tk) :: (.int v52) :: (.int v53) :: (.int v54) :: (.ref hd) :: (.ref ak) :: (.ref ho) :: (.ref ot) :: []) := by rw [he_390]; exact up_self
          have hF_392 : F_389 g1 = .inl (cs 17, 700, .inl fv) := by rw [he_390, up_ne (ne_ty hT_g1 hT_h0 (by simp))]; exact hF_57
          refine lv_goto (tgt := 392) hx hb dX15_readTerm_107 (by decide) ?_
          refine W.widen (k := 0) (n := 0) (by omega) (by omega) ?_
          exact jn_58 (0, (-1), (-1), 32, v22) F_389 (⟨hF_391, Or.inr ⟨(Or.inl rfl), Or.inl rfl⟩, fun h5 h9 => (c0_ne (by have h8 := (nm1 hw_164 c_165).2; rw [gA_fun hF_57] at h8; exact h8) (by omega) (hk3a h5) h9 (by decide)).elim⟩) hO hR _ _ hP hD hS ls (lv_sub hl [0, 1, 2, 3, 4, 5] rfl)
    ·
      refine lv_iload hx hb dX15_readTerm_74 (lv_at hl 0 rfl) ?_
      refine lv_if_eq (tgt := 90) hx hb dX15_readTerm_76 (by decide) (fun c_393 => ?_) (fun c_393 => ?_)
      ·
        refine W.widen (k := 0) (n := 0) (by omega) (by omega) ?_
        exact jn_53 ((nI a), 43) F_49 (⟨⟨a, rfl, by omega, by omega, fun _ => rfl⟩, hs5h⟩) hO hR _ _ hP hD hS ls (lv_sub hl [0, 1, 2, 3, 4, 5] rfl)
      ·
        refine lv_aload_n hx hb dX15_readTerm_79 rfl (lv_at hl 2 rfl) ?_
        refine lv_aload_n hx hb dX15_readTerm_80 rfl (lv_at hl 3 rfl) ?_
        refine lv_iload hx hb dX15_readTerm_81 (lv_at hl 1 rfl) ?_
        obtain ⟨hq_394, hq_395⟩ := hW.octs hL_g1 hT_g1
        refine pg_bald hx hb hK hP hL_g1 1 hF_52 rfl (vp_in_nI (by omega) (by omega)) dX15_readTerm_83 ?_
        refine lv_topi (fun x_396 ex_396 => ?_)
        obtain rfl : x_396 = fv a := ex_396.trans (congrArg fv (show ((nI a) : Int32).toNatClampNeg = a from nI_clamp (by omega)))
        refine pg_put (ci := 15) (v := .int (fv a)) (ty := .int) (C := RX15) (T := TX15) (N := 59) hx hb hts it_15 tyX15 tyX15_ok nmX15 hown hK hP hD hS hL_h0 hs5h rfl 18 (by decide) (hts _ kt_749) (fun _ h9 => h9) rfl (by decide +kernel) (rfl) (rfl) (Nat.le_of_ble_eq_true rfl) dX15_readTerm_84 (fun H locs hP hD hS => ?_)
        obtain ⟨F_397, he_398, hP, hD, hO, hR⟩ : ∃ G, G = va_up F_49 h0 (.inr (15, (.ref ta) :: (.int (nI zt)) :: (.int (nI zo)) :: (.int (nI ze)) :: (.ref ou) :: (.ref so) :: (.ref ad) :: (.ref na) :: (.ref va) :: (.ref lc) :: (.ref dm) :: (.int v11) :: (.int v12) :: (.ref tg) :: (.int v14) :: (.int v15) :: (.ref pe) :: (.int 8) :: (.int (fv a)) :: (.int (-1)) :: (.int (-1)) :: (.int 32) :: (.int v22) :: (.ref ml) :: (.ref bg) :: (.ref co) :: (.ref sp) :: (.ref nb0) :: (.ref nb1) :: (.ref nb2) :: (.int (nI nf)) :: (.int (nI bd)) :: (.int (nI mm)) :: (.int v33) :: (.ref pl) :: (.ref se) :: (.ref ke) :: (.ref wi) :: (.ref hs) :: (.ref mo) :: (.ref po) :: (.ref nu) :: (.ref pr) :: (.ref sq) :: (.ref xa) :: (.ref sa) :: (.ref n64) :: (.ref m64) :: (.ref ex) :: (.ref wh) :: (.ref sd) :: (.ref tk) :: (.int v52) :: (.int v53) :: (.int v54) :: (.ref hd) :: (.ref ak) :: (.ref ho) :: (.ref ot) :: [])) ∧ va_P (dC, dI) vwCl (va_pl L G) H ∧ va_D A (va_pl L G) ∧ OKm cs ty gm L G ∧ FR ty [ρ] F G := ⟨_, rfl, hP, hD, hO.up (shm.mod hT_h0 ⟨v11, v12, v14, v15, 8, (fv a), (-1), (-1), 32, v22, v33, v52, v53, v54, rfl, (by first | omega | assumption | exact Or.inl rfl | exact Or.inr rfl), (by first | omega | assumption | exact Or.inl rfl | exact Or.inr rfl), (by first | omega | assumption | exact Or.inl rfl | exact Or.inr rfl), (by first | omega | assumption | exact Or.inl rfl | exact Or.inr rfl)⟩), hR.up hT_h0 (by simp)⟩
        have hF_399 : F_397 h0 = .inr (15, (.ref ta) :: (.int (nI zt)) :: (.int (nI zo)) :: (.int (nI ze)) :: (.ref ou) :: (.ref so) :: (.ref ad) :: (.ref na) :: (.ref va) :: (.ref lc) :: (.ref dm) :: (.int v11) :: (.int v12) :: (.ref tg) :: (.int v14) :: (.int v15) :: (.ref pe) :: (.int 8) :: (.int (fv a)) :: (.int (-1)) :: (.int (-1)) :: (.int 32) :: (.int v22) :: (.ref ml) :: (.ref bg) :: (.ref co) :: (.ref sp) :: (.ref nb0) :: (.ref nb1) :: (.ref nb2) :: (.int (nI nf)) :: (.int (nI bd)) :: (.int (nI mm)) :: (.int v33) :: (.ref pl) :: (.ref se) :: (.ref ke) :: (.ref wi) :: (.ref hs) :: (.ref mo) :: (.ref po) :: (.ref nu) :: (.ref pr) :: (.ref sq) :: (.ref xa) :: (.ref sa) :: (.ref n64) :: (.ref m64) :: (.ref ex) :: (.ref wh) :: (.ref sd) :: (.ref tk) :: (.int v52) :: (.int v53) :: (.int v54) :: (.ref hd) :: (.ref ak) :: (.ref ho) :: (.ref ot) :: []) := by rw [he_398]; exact up_self
        have hF_400 : F_397 g1 = .inl (cs 17, 700, .inl fv) := by rw [he_398, up_ne (ne_ty hT_g1 hT_h0 (by simp))]; exact hF_52
        refine lv_iinc (v := (nI (a + 1))) (lv' := [(4, .int (nI (a + 1))), (5, .int s5), (0, .ref h0), (1, .ref g1), (2, .int (nI a)), (3, .int (nI tt))]) hx hb dX15_readTerm_87 hl (k := 1) rfl (nI_1 _) (by decide) rfl (fun ls hl => ?_)
        refine W.widen (k := 0) (n := 0) (by omega) (by omega) ?_
        exact jn_53 ((nI (a + 1)), (fv a)) F_397 (⟨⟨a + 1, rfl, by omega, by omega, fun h => absurd h c_393⟩, hF_399⟩) hO hR _ _ hP hD hS ls (lv_sub hl [1, 0, 2, 3, 4, 5] rfl)
  ·
    refine lv_aload_n hx hb dX15_readTerm_31 rfl (lv_at hl 2 rfl) ?_
    refine lv_iload hx hb dX15_readTerm_32 (lv_at hl 0 rfl) ?_
    obtain ⟨hq_401, hq_402⟩ := hW.octs hL_g1 hT_g1
    refine pg_bald hx hb hK hP hL_g1 1 hF_47 rfl (vp_in_nI (by omega) (by omega)) dX15_readTerm_34 ?_
    refine lv_topi (fun x_403 ex_403 => ?_)
    obtain rfl : x_403 = fv a := ex_403.trans (congrArg fv (show ((nI a) : Int32).toNatClampNeg = a from nI_clamp (by omega)))
    refine lv_bipush (v := 43) hx hb dX15_readTerm_35 (by decide) ?_
    refine lv_icmp_eq (tgt := 67) hx hb dX15_readTerm_37 (by decide) (fun c_404 => ?_) (fun c_404 => ?_)
    ·
      refine lv_iconst (v := 1) hx hb dX15_readTerm_67 (by decide) ?_
      refine lv_goto (tgt := 72) hx hb dX15_readTerm_68 (by decide) ?_
      refine W.widen (k := 0) (n := 0) (by omega) (by omega) ?_
      exact jn_48 1 F_44 (⟨Or.inr ⟨rfl, by rw [c_404]; decide⟩, hF_46⟩) hO hR _ _ hP hD hS ls (lv_sub hl [0, 1, 2, 3, 4] rfl)
    ·
      refine lv_aload_n hx hb dX15_readTerm_40 rfl (lv_at hl 2 rfl) ?_
      refine lv_iload hx hb dX15_readTerm_41 (lv_at hl 0 rfl) ?_
      refine pg_bald hx hb hK hP hL_g1 1 hF_47 rfl (vp_in_nI (by omega) (by omega)) dX15_readTerm_43 ?_
      refine lv_topi (fun x_405 ex_405 => ?_)
      obtain rfl : x_405 = fv a := ex_405.trans (congrArg fv (show ((nI a) : Int32).toNatClampNeg = a from nI_clamp (by omega)))
      refine lv_bipush (v := 63) hx hb dX15_readTerm_44 (by decide) ?_
      refine lv_icmp_eq (tgt := 67) hx hb dX15_readTerm_46 (by decide) (fun c_406 => ?_) (fun c_406 => ?_)
      ·
        refine lv_iconst (v := 1) hx hb dX15_readTerm_67 (by decide) ?_
        refine lv_goto (tgt := 72) hx hb dX15_readTerm_68 (by decide) ?_
        refine W.widen (k := 0) (n := 0) (by omega) (by omega) ?_
        exact jn_48 1 F_44 (⟨Or.inr ⟨rfl, by rw [c_406]; decide⟩, hF_46⟩) hO hR _ _ hP hD hS ls (lv_sub hl [0, 1, 2, 3, 4] rfl)
      ·
        refine lv_aload_n hx hb dX15_readTerm_49 rfl (lv_at hl 2 rfl) ?_
        refine lv_iload hx hb dX15_readTerm_50 (lv_at hl 0 rfl) ?_
        refine pg_bald hx hb hK hP hL_g1 1 hF_47 rfl (vp_in_nI (by omega) (by omega)) dX15_readTerm_52 ?_
        refine lv_topi (fun x_407 ex_407 => ?_)
        obtain rfl : x_407 = fv a := ex_407.trans (congrArg fv (show ((nI a) : Int32).toNatClampNeg = a from nI_clamp (by omega)))
        refine lv_bipush (v := 126) hx hb dX15_readTerm_53 (by decide) ?_
        refine lv_icmp_eq (tgt := 67) hx hb dX15_readTerm_55 (by decide) (fun c_408 => ?_) (fun c_408 => ?_)
        ·
          refine lv_iconst (v := 1) hx hb dX15_readTerm_67 (by decide) ?_
          refine lv_goto (tgt := 72) hx hb dX15_readTerm_68 (by decide) ?_
          refine W.widen (k := 0) (n := 0) (by omega) (by omega) ?_
          exact jn_48 1 F_44 (⟨Or.inr ⟨rfl, by rw [c_408]; decide⟩, hF_46⟩) hO hR _ _ hP hD hS ls (lv_sub hl [0, 1, 2, 3, 4] rfl)
        ·
          refine lv_aload_n hx hb dX15_readTerm_58 rfl (lv_at hl 2 rfl) ?_
          refine lv_iload hx hb dX15_readTerm_59 (lv_at hl 0 rfl) ?_
          refine pg_bald hx hb hK hP hL_g1 1 hF_47 rfl (vp_in_nI (by omega) (by omega)) dX15_readTerm_61 ?_
          refine lv_topi (fun x_409 ex_409 => ?_)
          obtain rfl : x_409 = fv a := ex_409.trans (congrArg fv (show ((nI a) : Int32).toNatClampNeg = a from nI_clamp (by omega)))
          refine lv_bipush (v := 45) hx hb dX15_readTerm_62 (by decide) ?_
          refine lv_icmp_ne (tgt := 71) hx hb dX15_readTerm_64 (by decide) (fun c_410 => ?_) (fun c_410 => ?_)
          ·
            refine lv_iconst (v := 0) hx hb dX15_readTerm_71 (by decide) ?_
            refine W.widen (k := 0) (n := 0) (by omega) (by omega) ?_
            exact jn_48 0 F_44 (⟨Or.inl rfl, hF_46⟩) hO hR _ _ hP hD hS ls (lv_sub hl [0, 1, 2, 3, 4] rfl)
          ·
            refine lv_iconst (v := 1) hx hb dX15_readTerm_67 (by decide) ?_
            refine lv_goto (tgt := 72) hx hb dX15_readTerm_68 (by decide) ?_
            refine W.widen (k := 0) (n := 0) (by omega) (by omega) ?_
            exact jn_48 1 F_44 (⟨Or.inr ⟨rfl, by rw [c_410]; decide⟩, hF_46⟩) hO hR _ _ hP hD hS ls (lv_sub hl [0, 1, 2, 3, 4] rfl)
