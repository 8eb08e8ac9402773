theorem dX15_isQuad_0 : decode cX15_isQuad 0 = .ok (.iconst 0, 1) := by decide +kernel
theorem dX15_isQuad_1 : decode cX15_isQuad 1 = .ok (.istore 4, 2) := by decide +kernel
theorem dX15_isQuad_3 : decode cX15_isQuad 3 = .ok (.iconst 0, 1) := by decide +kernel
theorem dX15_isQuad_4 : decode cX15_isQuad 4 = .ok (.istore 5, 2) := by decide +kernel
theorem dX15_isQuad_6 : decode cX15_isQuad 6 = .ok (.iconst 0, 1) := by decide +kernel
theorem dX15_isQuad_7 : decode cX15_isQuad 7 = .ok (.istore 6, 2) := by decide +kernel
theorem dX15_isQuad_9 : decode cX15_isQuad 9 = .ok (.aload_n 0, 1) := by decide +kernel
theorem dX15_isQuad_10 : decode cX15_isQuad 10 = .ok (.iconst 0, 1) := by decide +kernel
theorem dX15_isQuad_11 : decode cX15_isQuad 11 = .ok (.putfield 232, 3) := by decide +kernel
theorem dX15_isQuad_14 : decode cX15_isQuad 14 = .ok (.iload_n 2, 1) := by decide +kernel
theorem dX15_isQuad_15 : decode cX15_isQuad 15 = .ok (.istore 7, 2) := by decide +kernel
theorem dX15_isQuad_17 : decode cX15_isQuad 17 = .ok (.iload 7, 2) := by decide +kernel
theorem dX15_isQuad_19 : decode cX15_isQuad 19 = .ok (.iload_n 3, 1) := by decide +kernel
theorem dX15_isQuad_20 : decode cX15_isQuad 20 = .ok (.if_icmp .gt 104, 3) := by decide +kernel
theorem dX15_isQuad_23 : decode cX15_isQuad 23 = .ok (.iload 7, 2) := by decide +kernel
theorem dX15_isQuad_25 : decode cX15_isQuad 25 = .ok (.iload_n 3, 1) := by decide +kernel
theorem dX15_isQuad_26 : decode cX15_isQuad 26 = .ok (.if_icmp .ge 39, 3) := by decide +kernel
theorem dX15_isQuad_29 : decode cX15_isQuad 29 = .ok (.aload_n 1, 1) := by decide +kernel
theorem dX15_isQuad_30 : decode cX15_isQuad 30 = .ok (.iload 7, 2) := by decide +kernel
theorem dX15_isQuad_32 : decode cX15_isQuad 32 = .ok (.baload, 1) := by decide +kernel
theorem dX15_isQuad_33 : decode cX15_isQuad 33 = .ok (.invokestatic 202, 3) := by decide +kernel
theorem dX15_isQuad_36 : decode cX15_isQuad 36 = .ok (.ifCond .eq 29, 3) := by decide +kernel
theorem dX15_isQuad_39 : decode cX15_isQuad 39 = .ok (.bipush 10, 2) := by decide +kernel
theorem dX15_isQuad_41 : decode cX15_isQuad 41 = .ok (.iload 6, 2) := by decide +kernel
theorem dX15_isQuad_43 : decode cX15_isQuad 43 = .ok (.imul, 1) := by decide +kernel
theorem dX15_isQuad_44 : decode cX15_isQuad 44 = .ok (.aload_n 1, 1) := by decide +kernel
theorem dX15_isQuad_45 : decode cX15_isQuad 45 = .ok (.iload 7, 2) := by decide +kernel
theorem dX15_isQuad_47 : decode cX15_isQuad 47 = .ok (.baload, 1) := by decide +kernel
theorem dX15_isQuad_48 : decode cX15_isQuad 48 = .ok (.iadd, 1) := by decide +kernel
theorem dX15_isQuad_49 : decode cX15_isQuad 49 = .ok (.bipush 48, 2) := by decide +kernel
theorem dX15_isQuad_51 : decode cX15_isQuad 51 = .ok (.isub, 1) := by decide +kernel
theorem dX15_isQuad_52 : decode cX15_isQuad 52 = .ok (.istore 6, 2) := by decide +kernel
theorem dX15_isQuad_54 : decode cX15_isQuad 54 = .ok (.iinc 5 1, 3) := by decide +kernel
theorem dX15_isQuad_57 : decode cX15_isQuad 57 = .ok (.iload 5, 2) := by decide +kernel
theorem dX15_isQuad_59 : decode cX15_isQuad 59 = .ok (.iconst 3, 1) := by decide +kernel
theorem dX15_isQuad_60 : decode cX15_isQuad 60 = .ok (.if_icmp .le 58, 3) := by decide +kernel
theorem dX15_isQuad_63 : decode cX15_isQuad 63 = .ok (.iconst 0, 1) := by decide +kernel
theorem dX15_isQuad_64 : decode cX15_isQuad 64 = .ok (.ireturn, 1) := by decide +kernel
theorem dX15_isQuad_65 : decode cX15_isQuad 65 = .ok (.iload 7, 2) := by decide +kernel
theorem dX15_isQuad_67 : decode cX15_isQuad 67 = .ok (.iload_n 3, 1) := by decide +kernel
theorem dX15_isQuad_68 : decode cX15_isQuad 68 = .ok (.if_icmp .ge 12, 3) := by decide +kernel
theorem dX15_isQuad_71 : decode cX15_isQuad 71 = .ok (.aload_n 1, 1) := by decide +kernel
theorem dX15_isQuad_72 : decode cX15_isQuad 72 = .ok (.iload 7, 2) := by decide +kernel
theorem dX15_isQuad_74 : decode cX15_isQuad 74 = .ok (.baload, 1) := by decide +kernel
theorem dX15_isQuad_75 : decode cX15_isQuad 75 = .ok (.bipush 46, 2) := by decide +kernel
theorem dX15_isQuad_77 : decode cX15_isQuad 77 = .ok (.if_icmp .ne 16, 3) := by decide +kernel
theorem dX15_isQuad_80 : decode cX15_isQuad 80 = .ok (.iload 5, 2) := by decide +kernel
theorem dX15_isQuad_82 : decode cX15_isQuad 82 = .ok (.ifCond .eq 11, 3) := by decide +kernel
theorem dX15_isQuad_85 : decode cX15_isQuad 85 = .ok (.iload 6, 2) := by decide +kernel
theorem dX15_isQuad_87 : decode cX15_isQuad 87 = .ok (.sipush 255, 3) := by decide +kernel
theorem dX15_isQuad_90 : decode cX15_isQuad 90 = .ok (.if_icmp .le 5, 3) := by decide +kernel
theorem dX15_isQuad_93 : decode cX15_isQuad 93 = .ok (.iconst 0, 1) := by decide +kernel
theorem dX15_isQuad_94 : decode cX15_isQuad 94 = .ok (.ireturn, 1) := by decide +kernel
theorem dX15_isQuad_95 : decode cX15_isQuad 95 = .ok (.aload_n 0, 1) := by decide +kernel
theorem dX15_isQuad_96 : decode cX15_isQuad 96 = .ok (.aload_n 0, 1) := by decide +kernel
theorem dX15_isQuad_97 : decode cX15_isQuad 97 = .ok (.getfield 232, 3) := by decide +kernel
theorem dX15_isQuad_100 : decode cX15_isQuad 100 = .ok (.bipush 8, 2) := by decide +kernel
theorem dX15_isQuad_102 : decode cX15_isQuad 102 = .ok (.ishl, 1) := by decide +kernel
theorem dX15_isQuad_103 : decode cX15_isQuad 103 = .ok (.iload 6, 2) := by decide +kernel
theorem dX15_isQuad_105 : decode cX15_isQuad 105 = .ok (.ior, 1) := by decide +kernel
theorem dX15_isQuad_106 : decode cX15_isQuad 106 = .ok (.putfield 232, 3) := by decide +kernel
theorem dX15_isQuad_109 : decode cX15_isQuad 109 = .ok (.iinc 4 1, 3) := by decide +kernel
theorem dX15_isQuad_112 : decode cX15_isQuad 112 = .ok (.iconst 0, 1) := by decide +kernel
theorem dX15_isQuad_113 : decode cX15_isQuad 113 = .ok (.istore 5, 2) := by decide +kernel
theorem dX15_isQuad_115 : decode cX15_isQuad 115 = .ok (.iconst 0, 1) := by decide +kernel
theorem dX15_isQuad_116 : decode cX15_isQuad 116 = .ok (.istore 6, 2) := by decide +kernel
theorem dX15_isQuad_118 : decode cX15_isQuad 118 = .ok (.iinc 7 1, 3) := by decide +kernel
theorem dX15_isQuad_121 : decode cX15_isQuad 121 = .ok (.goto (-104), 3) := by decide +kernel
theorem dX15_isQuad_124 : decode cX15_isQuad 124 = .ok (.iload 4, 2) := by decide +kernel
theorem dX15_isQuad_126 : decode cX15_isQuad 126 = .ok (.iconst 4, 1) := by decide +kernel
theorem dX15_isQuad_127 : decode cX15_isQuad 127 = .ok (.if_icmp .ne 7, 3) := by decide +kernel
theorem dX15_isQuad_130 : decode cX15_isQuad 130 = .ok (.iconst 1, 1) := by decide +kernel
theorem dX15_isQuad_131 : decode cX15_isQuad 131 = .ok (.goto 4, 3) := by decide +kernel
theorem dX15_isQuad_134 : decode cX15_isQuad 134 = .ok (.iconst 0, 1) := by decide +kernel
theorem dX15_isQuad_135 : decode cX15_isQuad 135 = .ok (.ireturn, 1) := by decide +kernel
theorem dX15_readHost_0 : decode cX15_readHost 0 = .ok (.aload_n 1, 1) := by decide +kernel
theorem dX15_readHost_1 : decode cX15_readHost 1 = .ok (.iload_n 2, 1) := by decide +kernel
theorem dX15_readHost_2 : decode cX15_readHost 2 = .ok (.iload_n 3, 1) := by decide +kernel
theorem dX15_readHost_3 : decode cX15_readHost 3 = .ok (.invokestatic 265, 3) := by decide +kernel
theorem dX15_readHost_6 : decode cX15_readHost 6 = .ok (.istore 5, 2) := by decide +kernel
theorem dX15_readHost_8 : decode cX15_readHost 8 = .ok (.iload 5, 2) := by decide +kernel
theorem dX15_readHost_10 : decode cX15_readHost 10 = .ok (.iload_n 3, 1) := by decide +kernel
theorem dX15_readHost_11 : decode cX15_readHost 11 = .ok (.if_icmp .ge 16, 3) := by decide +kernel
theorem dX15_readHost_14 : decode cX15_readHost 14 = .ok (.aload_n 0, 1) := by decide +kernel
theorem dX15_readHost_15 : decode cX15_readHost 15 = .ok (.aload_n 1, 1) := by decide +kernel
theorem dX15_readHost_16 : decode cX15_readHost 16 = .ok (.iload 5, 2) := by decide +kernel
theorem dX15_readHost_18 : decode cX15_readHost 18 = .ok (.iconst 1, 1) := by decide +kernel
theorem dX15_readHost_19 : decode cX15_readHost 19 = .ok (.iadd, 1) := by decide +kernel
theorem dX15_readHost_20 : decode cX15_readHost 20 = .ok (.iload_n 3, 1) := by decide +kernel
theorem dX15_readHost_21 : decode cX15_readHost 21 = .ok (.invokestatic 268, 3) := by decide +kernel
theorem dX15_readHost_24 : decode cX15_readHost 24 = .ok (.putfield 247, 3) := by decide +kernel
theorem dX15_readHost_27 : decode cX15_readHost 27 = .ok (.aload_n 0, 1) := by decide +kernel
theorem dX15_readHost_28 : decode cX15_readHost 28 = .ok (.getfield 247, 3) := by decide +kernel
theorem dX15_readHost_31 : decode cX15_readHost 31 = .ok (.ifCond .ge 4, 3) := by decide +kernel
theorem dX15_readHost_34 : decode cX15_readHost 34 = .ok (.return_, 1) := by decide +kernel
theorem dX15_readHost_35 : decode cX15_readHost 35 = .ok (.iload 5, 2) := by decide +kernel
theorem dX15_readHost_37 : decode cX15_readHost 37 = .ok (.iload_n 2, 1) := by decide +kernel
theorem dX15_readHost_38 : decode cX15_readHost 38 = .ok (.if_icmp .le 41, 3) := by decide +kernel
theorem dX15_readHost_41 : decode cX15_readHost 41 = .ok (.aload_n 0, 1) := by decide +kernel
theorem dX15_readHost_42 : decode cX15_readHost 42 = .ok (.iload_n 2, 1) := by decide +kernel
theorem dX15_readHost_43 : decode cX15_readHost 43 = .ok (.iconst 1, 1) := by decide +kernel
theorem dX15_readHost_44 : decode cX15_readHost 44 = .ok (.iadd, 1) := by decide +kernel
theorem dX15_readHost_45 : decode cX15_readHost 45 = .ok (.putfield 241, 3) := by decide +kernel
theorem dX15_readHost_48 : decode cX15_readHost 48 = .ok (.aload_n 0, 1) := by decide +kernel
theorem dX15_readHost_49 : decode cX15_readHost 49 = .ok (.iload 5, 2) := by decide +kernel
theorem dX15_readHost_51 : decode cX15_readHost 51 = .ok (.putfield 244, 3) := by decide +kernel
theorem dX15_readHost_54 : decode cX15_readHost 54 = .ok (.aload_n 1, 1) := by decide +kernel
theorem dX15_readHost_55 : decode cX15_readHost 55 = .ok (.iload_n 2, 1) := by decide +kernel
theorem dX15_readHost_56 : decode cX15_readHost 56 = .ok (.baload, 1) := by decide +kernel
theorem dX15_readHost_57 : decode cX15_readHost 57 = .ok (.bipush 58, 2) := by decide +kernel
theorem dX15_readHost_59 : decode cX15_readHost 59 = .ok (.if_icmp .ne 19, 3) := by decide +kernel
theorem dX15_readHost_62 : decode cX15_readHost 62 = .ok (.aload_n 1, 1) := by decide +kernel
theorem dX15_readHost_63 : decode cX15_readHost 63 = .ok (.aload_n 0, 1) := by decide +kernel
theorem dX15_readHost_64 : decode cX15_readHost 64 = .ok (.getfield 241, 3) := by decide +kernel
theorem dX15_readHost_67 : decode cX15_readHost 67 = .ok (.aload_n 0, 1) := by decide +kernel
theorem dX15_readHost_68 : decode cX15_readHost 68 = .ok (.getfield 244, 3) := by decide +kernel
theorem dX15_readHost_71 : decode cX15_readHost 71 = .ok (.iconst 0, 1) := by decide +kernel
theorem dX15_readHost_72 : decode cX15_readHost 72 = .ok (.invokestatic 257, 3) := by decide +kernel
theorem dX15_readHost_75 : decode cX15_readHost 75 = .ok (.ifCond .ne 4, 3) := by decide +kernel
theorem dX15_readHost_78 : decode cX15_readHost 78 = .ok (.return_, 1) := by decide +kernel
theorem dX15_readHost_79 : decode cX15_readHost 79 = .ok (.aload_n 0, 1) := by decide +kernel
theorem dX15_readHost_80 : decode cX15_readHost 80 = .ok (.iload 4, 2) := by decide +kernel
theorem dX15_readHost_82 : decode cX15_readHost 82 = .ok (.putfield 238, 3) := by decide +kernel
theorem dX15_readHost_85 : decode cX15_readHost 85 = .ok (.return_, 1) := by decide +kernel
theorem dX15_readTerm_0 : decode cX15_readTerm 0 = .ok (.iload_n 2, 1) := by decide +kernel
theorem dX15_readTerm_1 : decode cX15_readTerm 1 = .ok (.istore 4, 2) := by decide +kernel
theorem dX15_readTerm_3 : decode cX15_readTerm 3 = .ok (.aload_n 0, 1) := by decide +kernel
theorem dX15_readTerm_4 : decode cX15_readTerm 4 = .ok (.bipush 43, 2) := by decide +kernel
theorem dX15_readTerm_6 : decode cX15_readTerm 6 = .ok (.putfield 235, 3) := by decide +kernel
theorem dX15_readTerm_9 : decode cX15_readTerm 9 = .ok (.aload_n 0, 1) := by decide +kernel
theorem dX15_readTerm_10 : decode cX15_readTerm 10 = .ok (.bipush 8, 2) := by decide +kernel
theorem dX15_readTerm_12 : decode cX15_readTerm 12 = .ok (.putfield 238, 3) := by decide +kernel
theorem dX15_readTerm_15 : decode cX15_readTerm 15 = .ok (.aload_n 0, 1) := by decide +kernel
theorem dX15_readTerm_16 : decode cX15_readTerm 16 = .ok (.iconst (-1), 1) := by decide +kernel
theorem dX15_readTerm_17 : decode cX15_readTerm 17 = .ok (.putfield 241, 3) := by decide +kernel
theorem dX15_readTerm_20 : decode cX15_readTerm 20 = .ok (.aload_n 0, 1) := by decide +kernel
theorem dX15_readTerm_21 : decode cX15_readTerm 21 = .ok (.iconst (-1), 1) := by decide +kernel
theorem dX15_readTerm_22 : decode cX15_readTerm 22 = .ok (.putfield 244, 3) := by decide +kernel
theorem dX15_readTerm_25 : decode cX15_readTerm 25 = .ok (.aload_n 0, 1) := by decide +kernel
theorem dX15_readTerm_26 : decode cX15_readTerm 26 = .ok (.bipush 32, 2) := by decide +kernel
theorem dX15_readTerm_28 : decode cX15_readTerm 28 = .ok (.putfield 247, 3) := by decide +kernel
theorem dX15_readTerm_31 : decode cX15_readTerm 31 = .ok (.aload_n 1, 1) := by decide +kernel
theorem dX15_readTerm_32 : decode cX15_readTerm 32 = .ok (.iload 4, 2) := by decide +kernel
theorem dX15_readTerm_34 : decode cX15_readTerm 34 = .ok (.baload, 1) := by decide +kernel
theorem dX15_readTerm_35 : decode cX15_readTerm 35 = .ok (.bipush 43, 2) := by decide +kernel
theorem dX15_readTerm_37 : decode cX15_readTerm 37 = .ok (.if_icmp .eq 30, 3) := by decide +kernel
theorem dX15_readTerm_40 : decode cX15_readTerm 40 = .ok (.aload_n 1, 1) := by decide +kernel
theorem dX15_readTerm_41 : decode cX15_readTerm 41 = .ok (.iload 4, 2) := by decide +kernel
theorem dX15_readTerm_43 : decode cX15_readTerm 43 = .ok (.baload, 1) := by decide +kernel
theorem dX15_readTerm_44 : decode cX15_readTerm 44 = .ok (.bipush 63, 2) := by decide +kernel
theorem dX15_readTerm_46 : decode cX15_readTerm 46 = .ok (.if_icmp .eq 21, 3) := by decide +kernel
theorem dX15_readTerm_49 : decode cX15_readTerm 49 = .ok (.aload_n 1, 1) := by decide +kernel
theorem dX15_readTerm_50 : decode cX15_readTerm 50 = .ok (.iload 4, 2) := by decide +kernel
theorem dX15_readTerm_52 : decode cX15_readTerm 52 = .ok (.baload, 1) := by decide +kernel
theorem dX15_readTerm_53 : decode cX15_readTerm 53 = .ok (.bipush 126, 2) := by decide +kernel
theorem dX15_readTerm_55 : decode cX15_readTerm 55 = .ok (.if_icmp .eq 12, 3) := by decide +kernel
theorem dX15_readTerm_58 : decode cX15_readTerm 58 = .ok (.aload_n 1, 1) := by decide +kernel
theorem dX15_readTerm_59 : decode cX15_readTerm 59 = .ok (.iload 4, 2) := by decide +kernel
theorem dX15_readTerm_61 : decode cX15_readTerm 61 = .ok (.baload, 1) := by decide +kernel
theorem dX15_readTerm_62 : decode cX15_readTerm 62 = .ok (.bipush 45, 2) := by decide +kernel
theorem dX15_readTerm_64 : decode cX15_readTerm 64 = .ok (.if_icmp .ne 7, 3) := by decide +kernel
theorem dX15_readTerm_67 : decode cX15_readTerm 67 = .ok (.iconst 1, 1) := by decide +kernel
theorem dX15_readTerm_68 : decode cX15_readTerm 68 = .ok (.goto 4, 3) := by decide +kernel
theorem dX15_readTerm_71 : decode cX15_readTerm 71 = .ok (.iconst 0, 1) := by decide +kernel
theorem dX15_readTerm_72 : decode cX15_readTerm 72 = .ok (.istore 5, 2) := by decide +kernel
theorem dX15_readTerm_74 : decode cX15_readTerm 74 = .ok (.iload 5, 2) := by decide +kernel
theorem dX15_readTerm_76 : decode cX15_readTerm 76 = .ok (.ifCond .eq 14, 3) := by decide +kernel
theorem dX15_readTerm_79 : decode cX15_readTerm 79 = .ok (.aload_n 0, 1) := by decide +kernel
theorem dX15_readTerm_80 : decode cX15_readTerm 80 = .ok (.aload_n 1, 1) := by decide +kernel
theorem dX15_readTerm_81 : decode cX15_readTerm 81 = .ok (.iload 4, 2) := by decide +kernel
theorem dX15_readTerm_83 : decode cX15_readTerm 83 = .ok (.baload, 1) := by decide +kernel
theorem dX15_readTerm_84 : decode cX15_readTerm 84 = .ok (.putfield 235, 3) := by decide +kernel
theorem dX15_readTerm_87 : decode cX15_readTerm 87 = .ok (.iinc 4 1, 3) := by decide +kernel
theorem dX15_readTerm_90 : decode cX15_readTerm 90 = .ok (.aload_n 1, 1) := by decide +kernel
theorem dX15_readTerm_91 : decode cX15_readTerm 91 = .ok (.iload 4, 2) := by decide +kernel
theorem dX15_readTerm_93 : decode cX15_readTerm 93 = .ok (.iload_n 3, 1) := by decide +kernel
theorem dX15_readTerm_94 : decode cX15_readTerm 94 = .ok (.ldc 250, 2) := by decide +kernel
theorem dX15_readTerm_96 : decode cX15_readTerm 96 = .ok (.invokestatic 17, 3) := by decide +kernel
theorem dX15_readTerm_99 : decode cX15_readTerm 99 = .ok (.ifCond .eq 11, 3) := by decide +kernel
theorem dX15_readTerm_102 : decode cX15_readTerm 102 = .ok (.aload_n 0, 1) := by decide +kernel
theorem dX15_readTerm_103 : decode cX15_readTerm 103 = .ok (.iconst 0, 1) := by decide +kernel
theorem dX15_readTerm_104 : decode cX15_readTerm 104 = .ok (.putfield 238, 3) := by decide +kernel
theorem dX15_readTerm_107 : decode cX15_readTerm 107 = .ok (.goto 285, 3) := by decide +kernel
theorem dX15_readTerm_110 : decode cX15_readTerm 110 = .ok (.aload_n 1, 1) := by decide +kernel
theorem dX15_readTerm_111 : decode cX15_readTerm 111 = .ok (.iload 4, 2) := by decide +kernel
theorem dX15_readTerm_113 : decode cX15_readTerm 113 = .ok (.iload_n 3, 1) := by decide +kernel
theorem dX15_readTerm_114 : decode cX15_readTerm 114 = .ok (.ldc 252, 2) := by decide +kernel
theorem dX15_readTerm_116 : decode cX15_readTerm 116 = .ok (.invokestatic 254, 3) := by decide +kernel
theorem dX15_readTerm_119 : decode cX15_readTerm 119 = .ok (.ifCond .eq 41, 3) := by decide +kernel
theorem dX15_readTerm_122 : decode cX15_readTerm 122 = .ok (.aload_n 0, 1) := by decide +kernel
theorem dX15_readTerm_123 : decode cX15_readTerm 123 = .ok (.iload 4, 2) := by decide +kernel
theorem dX15_readTerm_125 : decode cX15_readTerm 125 = .ok (.bipush 8, 2) := by decide +kernel
theorem dX15_readTerm_127 : decode cX15_readTerm 127 = .ok (.iadd, 1) := by decide +kernel
theorem dX15_readTerm_128 : decode cX15_readTerm 128 = .ok (.putfield 241, 3) := by decide +kernel
theorem dX15_readTerm_131 : decode cX15_readTerm 131 = .ok (.aload_n 0, 1) := by decide +kernel
theorem dX15_readTerm_132 : decode cX15_readTerm 132 = .ok (.iload_n 3, 1) := by decide +kernel
theorem dX15_readTerm_133 : decode cX15_readTerm 133 = .ok (.putfield 244, 3) := by decide +kernel
theorem dX15_readTerm_136 : decode cX15_readTerm 136 = .ok (.aload_n 1, 1) := by decide +kernel
theorem dX15_readTerm_137 : decode cX15_readTerm 137 = .ok (.aload_n 0, 1) := by decide +kernel
theorem dX15_readTerm_138 : decode cX15_readTerm 138 = .ok (.getfield 241, 3) := by decide +kernel
theorem dX15_readTerm_141 : decode cX15_readTerm 141 = .ok (.aload_n 0, 1) := by decide +kernel
theorem dX15_readTerm_142 : decode cX15_readTerm 142 = .ok (.getfield 244, 3) := by decide +kernel
theorem dX15_readTerm_145 : decode cX15_readTerm 145 = .ok (.iconst 1, 1) := by decide +kernel
theorem dX15_readTerm_146 : decode cX15_readTerm 146 = .ok (.invokestatic 257, 3) := by decide +kernel
theorem dX15_readTerm_149 : decode cX15_readTerm 149 = .ok (.ifCond .eq 243, 3) := by decide +kernel
theorem dX15_readTerm_152 : decode cX15_readTerm 152 = .ok (.aload_n 0, 1) := by decide +kernel
theorem dX15_readTerm_153 : decode cX15_readTerm 153 = .ok (.iconst 1, 1) := by decide +kernel
theorem dX15_readTerm_154 : decode cX15_readTerm 154 = .ok (.putfield 238, 3) := by decide +kernel
theorem dX15_readTerm_157 : decode cX15_readTerm 157 = .ok (.goto 235, 3) := by decide +kernel
theorem dX15_readTerm_160 : decode cX15_readTerm 160 = .ok (.aload_n 1, 1) := by decide +kernel
theorem dX15_readTerm_161 : decode cX15_readTerm 161 = .ok (.iload 4, 2) := by decide +kernel
theorem dX15_readTerm_163 : decode cX15_readTerm 163 = .ok (.iload_n 3, 1) := by decide +kernel
theorem dX15_readTerm_164 : decode cX15_readTerm 164 = .ok (.ldc_w 261, 3) := by decide +kernel
theorem dX15_readTerm_167 : decode cX15_readTerm 167 = .ok (.invokestatic 254, 3) := by decide +kernel
theorem dX15_readTerm_170 : decode cX15_readTerm 170 = .ok (.ifCond .eq 41, 3) := by decide +kernel
theorem dX15_readTerm_173 : decode cX15_readTerm 173 = .ok (.aload_n 0, 1) := by decide +kernel
theorem dX15_readTerm_174 : decode cX15_readTerm 174 = .ok (.iload 4, 2) := by decide +kernel
theorem dX15_readTerm_176 : decode cX15_readTerm 176 = .ok (.bipush 7, 2) := by decide +kernel
theorem dX15_readTerm_178 : decode cX15_readTerm 178 = .ok (.iadd, 1) := by decide +kernel
theorem dX15_readTerm_179 : decode cX15_readTerm 179 = .ok (.putfield 241, 3) := by decide +kernel
theorem dX15_readTerm_182 : decode cX15_readTerm 182 = .ok (.aload_n 0, 1) := by decide +kernel
theorem dX15_readTerm_183 : decode cX15_readTerm 183 = .ok (.iload_n 3, 1) := by decide +kernel
theorem dX15_readTerm_184 : decode cX15_readTerm 184 = .ok (.putfield 244, 3) := by decide +kernel
theorem dX15_readTerm_187 : decode cX15_readTerm 187 = .ok (.aload_n 1, 1) := by decide +kernel
theorem dX15_readTerm_188 : decode cX15_readTerm 188 = .ok (.aload_n 0, 1) := by decide +kernel
theorem dX15_readTerm_189 : decode cX15_readTerm 189 = .ok (.getfield 241, 3) := by decide +kernel
theorem dX15_readTerm_192 : decode cX15_readTerm 192 = .ok (.aload_n 0, 1) := by decide +kernel
theorem dX15_readTerm_193 : decode cX15_readTerm 193 = .ok (.getfield 244, 3) := by decide +kernel
theorem dX15_readTerm_196 : decode cX15_readTerm 196 = .ok (.iconst 1, 1) := by decide +kernel
theorem dX15_readTerm_197 : decode cX15_readTerm 197 = .ok (.invokestatic 257, 3) := by decide +kernel
theorem dX15_readTerm_200 : decode cX15_readTerm 200 = .ok (.ifCond .eq 192, 3) := by decide +kernel
theorem dX15_readTerm_203 : decode cX15_readTerm 203 = .ok (.aload_n 0, 1) := by decide +kernel
theorem dX15_readTerm_204 : decode cX15_readTerm 204 = .ok (.iconst 5, 1) := by decide +kernel
theorem dX15_readTerm_205 : decode cX15_readTerm 205 = .ok (.putfield 238, 3) := by decide +kernel
theorem dX15_readTerm_208 : decode cX15_readTerm 208 = .ok (.goto 184, 3) := by decide +kernel
theorem dX15_readTerm_211 : decode cX15_readTerm 211 = .ok (.aload_n 1, 1) := by decide +kernel
theorem dX15_readTerm_212 : decode cX15_readTerm 212 = .ok (.iload 4, 2) := by decide +kernel
theorem dX15_readTerm_214 : decode cX15_readTerm 214 = .ok (.iload_n 3, 1) := by decide +kernel
theorem dX15_readTerm_215 : decode cX15_readTerm 215 = .ok (.ldc_w 263, 3) := by decide +kernel
theorem dX15_readTerm_218 : decode cX15_readTerm 218 = .ok (.invokestatic 254, 3) := by decide +kernel
theorem dX15_readTerm_221 : decode cX15_readTerm 221 = .ok (.ifCond .eq 60, 3) := by decide +kernel
theorem dX15_readTerm_224 : decode cX15_readTerm 224 = .ok (.aload_n 1, 1) := by decide +kernel
theorem dX15_readTerm_225 : decode cX15_readTerm 225 = .ok (.iload 4, 2) := by decide +kernel
theorem dX15_readTerm_227 : decode cX15_readTerm 227 = .ok (.iload_n 3, 1) := by decide +kernel
theorem dX15_readTerm_228 : decode cX15_readTerm 228 = .ok (.invokestatic 265, 3) := by decide +kernel
theorem dX15_readTerm_231 : decode cX15_readTerm 231 = .ok (.istore 6, 2) := by decide +kernel
theorem dX15_readTerm_233 : decode cX15_readTerm 233 = .ok (.iload 6, 2) := by decide +kernel
theorem dX15_readTerm_235 : decode cX15_readTerm 235 = .ok (.iload_n 3, 1) := by decide +kernel
theorem dX15_readTerm_236 : decode cX15_readTerm 236 = .ok (.if_icmp .ge 16, 3) := by decide +kernel
theorem dX15_readTerm_239 : decode cX15_readTerm 239 = .ok (.aload_n 0, 1) := by decide +kernel
theorem dX15_readTerm_240 : decode cX15_readTerm 240 = .ok (.aload_n 1, 1) := by decide +kernel
theorem dX15_readTerm_241 : decode cX15_readTerm 241 = .ok (.iload 6, 2) := by decide +kernel
theorem dX15_readTerm_243 : decode cX15_readTerm 243 = .ok (.iconst 1, 1) := by decide +kernel
theorem dX15_readTerm_244 : decode cX15_readTerm 244 = .ok (.iadd, 1) := by decide +kernel
theorem dX15_readTerm_245 : decode cX15_readTerm 245 = .ok (.iload_n 3, 1) := by decide +kernel
theorem dX15_readTerm_246 : decode cX15_readTerm 246 = .ok (.invokestatic 268, 3) := by decide +kernel
theorem dX15_readTerm_249 : decode cX15_readTerm 249 = .ok (.putfield 247, 3) := by decide +kernel
theorem dX15_readTerm_252 : decode cX15_readTerm 252 = .ok (.aload_n 0, 1) := by decide +kernel
theorem dX15_readTerm_253 : decode cX15_readTerm 253 = .ok (.aload_n 1, 1) := by decide +kernel
theorem dX15_readTerm_254 : decode cX15_readTerm 254 = .ok (.iload 4, 2) := by decide +kernel
theorem dX15_readTerm_256 : decode cX15_readTerm 256 = .ok (.iconst 4, 1) := by decide +kernel
theorem dX15_readTerm_257 : decode cX15_readTerm 257 = .ok (.iadd, 1) := by decide +kernel
theorem dX15_readTerm_258 : decode cX15_readTerm 258 = .ok (.iload 6, 2) := by decide +kernel
theorem dX15_readTerm_260 : decode cX15_readTerm 260 = .ok (.invokevirtual 271, 3) := by decide +kernel
theorem dX15_readTerm_263 : decode cX15_readTerm 263 = .ok (.ifCond .eq 15, 3) := by decide +kernel
theorem dX15_readTerm_266 : decode cX15_readTerm 266 = .ok (.aload_n 0, 1) := by decide +kernel
theorem dX15_readTerm_267 : decode cX15_readTerm 267 = .ok (.getfield 247, 3) := by decide +kernel
theorem dX15_readTerm_270 : decode cX15_readTerm 270 = .ok (.ifCond .lt 8, 3) := by decide +kernel
theorem dX15_readTerm_273 : decode cX15_readTerm 273 = .ok (.aload_n 0, 1) := by decide +kernel
theorem dX15_readTerm_274 : decode cX15_readTerm 274 = .ok (.iconst 4, 1) := by decide +kernel
theorem dX15_readTerm_275 : decode cX15_readTerm 275 = .ok (.putfield 238, 3) := by decide +kernel
theorem dX15_readTerm_278 : decode cX15_readTerm 278 = .ok (.goto 114, 3) := by decide +kernel
theorem dX15_readTerm_281 : decode cX15_readTerm 281 = .ok (.aload_n 1, 1) := by decide +kernel
theorem dX15_readTerm_282 : decode cX15_readTerm 282 = .ok (.iload 4, 2) := by decide +kernel
theorem dX15_readTerm_284 : decode cX15_readTerm 284 = .ok (.iload_n 3, 1) := by decide +kernel
theorem dX15_readTerm_285 : decode cX15_readTerm 285 = .ok (.ldc_w 274, 3) := by decide +kernel
theorem dX15_readTerm_288 : decode cX15_readTerm 288 = .ok (.invokestatic 254, 3) := by decide +kernel
theorem dX15_readTerm_291 : decode cX15_readTerm 291 = .ok (.ifCond .eq 47, 3) := by decide +kernel
theorem dX15_readTerm_294 : decode cX15_readTerm 294 = .ok (.iload_n 3, 1) := by decide +kernel
theorem dX15_readTerm_295 : decode cX15_readTerm 295 = .ok (.iload 4, 2) := by decide +kernel
theorem dX15_readTerm_297 : decode cX15_readTerm 297 = .ok (.iconst 1, 1) := by decide +kernel
theorem dX15_readTerm_298 : decode cX15_readTerm 298 = .ok (.iadd, 1) := by decide +kernel
theorem dX15_readTerm_299 : decode cX15_readTerm 299 = .ok (.if_icmp .eq 25, 3) := by decide +kernel
theorem dX15_readTerm_302 : decode cX15_readTerm 302 = .ok (.aload_n 1, 1) := by decide +kernel
theorem dX15_readTerm_303 : decode cX15_readTerm 303 = .ok (.iload 4, 2) := by decide +kernel
theorem dX15_readTerm_305 : decode cX15_readTerm 305 = .ok (.iconst 1, 1) := by decide +kernel
theorem dX15_readTerm_306 : decode cX15_readTerm 306 = .ok (.iadd, 1) := by decide +kernel
theorem dX15_readTerm_307 : decode cX15_readTerm 307 = .ok (.baload, 1) := by decide +kernel
theorem dX15_readTerm_308 : decode cX15_readTerm 308 = .ok (.bipush 58, 2) := by decide +kernel
theorem dX15_readTerm_310 : decode cX15_readTerm 310 = .ok (.if_icmp .eq 14, 3) := by decide +kernel
theorem dX15_readTerm_313 : decode cX15_readTerm 313 = .ok (.aload_n 1, 1) := by decide +kernel
theorem dX15_readTerm_314 : decode cX15_readTerm 314 = .ok (.iload 4, 2) := by decide +kernel
theorem dX15_readTerm_316 : decode cX15_readTerm 316 = .ok (.iconst 1, 1) := by decide +kernel
theorem dX15_readTerm_317 : decode cX15_readTerm 317 = .ok (.iadd, 1) := by decide +kernel
theorem dX15_readTerm_318 : decode cX15_readTerm 318 = .ok (.baload, 1) := by decide +kernel
theorem dX15_readTerm_319 : decode cX15_readTerm 319 = .ok (.bipush 47, 2) := by decide +kernel
theorem dX15_readTerm_321 : decode cX15_readTerm 321 = .ok (.if_icmp .ne 17, 3) := by decide +kernel
theorem dX15_readTerm_324 : decode cX15_readTerm 324 = .ok (.aload_n 0, 1) := by decide +kernel
theorem dX15_readTerm_325 : decode cX15_readTerm 325 = .ok (.aload_n 1, 1) := by decide +kernel
theorem dX15_readTerm_326 : decode cX15_readTerm 326 = .ok (.iload 4, 2) := by decide +kernel
theorem dX15_readTerm_328 : decode cX15_readTerm 328 = .ok (.iconst 1, 1) := by decide +kernel
theorem dX15_readTerm_329 : decode cX15_readTerm 329 = .ok (.iadd, 1) := by decide +kernel
theorem dX15_readTerm_330 : decode cX15_readTerm 330 = .ok (.iload_n 3, 1) := by decide +kernel
theorem dX15_readTerm_331 : decode cX15_readTerm 331 = .ok (.iconst 2, 1) := by decide +kernel
theorem dX15_readTerm_332 : decode cX15_readTerm 332 = .ok (.invokevirtual 276, 3) := by decide +kernel
theorem dX15_readTerm_335 : decode cX15_readTerm 335 = .ok (.goto 57, 3) := by decide +kernel
theorem dX15_readTerm_338 : decode cX15_readTerm 338 = .ok (.aload_n 1, 1) := by decide +kernel
theorem dX15_readTerm_339 : decode cX15_readTerm 339 = .ok (.iload 4, 2) := by decide +kernel
theorem dX15_readTerm_341 : decode cX15_readTerm 341 = .ok (.iload_n 3, 1) := by decide +kernel
theorem dX15_readTerm_342 : decode cX15_readTerm 342 = .ok (.ldc_w 280, 3) := by decide +kernel
theorem dX15_readTerm_345 : decode cX15_readTerm 345 = .ok (.invokestatic 254, 3) := by decide +kernel
theorem dX15_readTerm_348 : decode cX15_readTerm 348 = .ok (.ifCond .eq 44, 3) := by decide +kernel
theorem dX15_readTerm_351 : decode cX15_readTerm 351 = .ok (.iload_n 3, 1) := by decide +kernel
theorem dX15_readTerm_352 : decode cX15_readTerm 352 = .ok (.iload 4, 2) := by decide +kernel
theorem dX15_readTerm_354 : decode cX15_readTerm 354 = .ok (.iconst 2, 1) := by decide +kernel
theorem dX15_readTerm_355 : decode cX15_readTerm 355 = .ok (.iadd, 1) := by decide +kernel
theorem dX15_readTerm_356 : decode cX15_readTerm 356 = .ok (.if_icmp .eq 25, 3) := by decide +kernel
theorem dX15_readTerm_359 : decode cX15_readTerm 359 = .ok (.aload_n 1, 1) := by decide +kernel
theorem dX15_readTerm_360 : decode cX15_readTerm 360 = .ok (.iload 4, 2) := by decide +kernel
theorem dX15_readTerm_362 : decode cX15_readTerm 362 = .ok (.iconst 2, 1) := by decide +kernel
theorem dX15_readTerm_363 : decode cX15_readTerm 363 = .ok (.iadd, 1) := by decide +kernel
theorem dX15_readTerm_364 : decode cX15_readTerm 364 = .ok (.baload, 1) := by decide +kernel
theorem dX15_readTerm_365 : decode cX15_readTerm 365 = .ok (.bipush 58, 2) := by decide +kernel
theorem dX15_readTerm_367 : decode cX15_readTerm 367 = .ok (.if_icmp .eq 14, 3) := by decide +kernel
theorem dX15_readTerm_370 : decode cX15_readTerm 370 = .ok (.aload_n 1, 1) := by decide +kernel
theorem dX15_readTerm_371 : decode cX15_readTerm 371 = .ok (.iload 4, 2) := by decide +kernel
theorem dX15_readTerm_373 : decode cX15_readTerm 373 = .ok (.iconst 2, 1) := by decide +kernel
theorem dX15_readTerm_374 : decode cX15_readTerm 374 = .ok (.iadd, 1) := by decide +kernel
theorem dX15_readTerm_375 : decode cX15_readTerm 375 = .ok (.baload, 1) := by decide +kernel
theorem dX15_readTerm_376 : decode cX15_readTerm 376 = .ok (.bipush 47, 2) := by decide +kernel
theorem dX15_readTerm_378 : decode cX15_readTerm 378 = .ok (.if_icmp .ne 14, 3) := by decide +kernel
theorem dX15_readTerm_381 : decode cX15_readTerm 381 = .ok (.aload_n 0, 1) := by decide +kernel
theorem dX15_readTerm_382 : decode cX15_readTerm 382 = .ok (.aload_n 1, 1) := by decide +kernel
theorem dX15_readTerm_383 : decode cX15_readTerm 383 = .ok (.iload 4, 2) := by decide +kernel
theorem dX15_readTerm_385 : decode cX15_readTerm 385 = .ok (.iconst 2, 1) := by decide +kernel
theorem dX15_readTerm_386 : decode cX15_readTerm 386 = .ok (.iadd, 1) := by decide +kernel
theorem dX15_readTerm_387 : decode cX15_readTerm 387 = .ok (.iload_n 3, 1) := by decide +kernel
theorem dX15_readTerm_388 : decode cX15_readTerm 388 = .ok (.iconst 3, 1) := by decide +kernel
theorem dX15_readTerm_389 : decode cX15_readTerm 389 = .ok (.invokevirtual 276, 3) := by decide +kernel
theorem dX15_readTerm_392 : decode cX15_readTerm 392 = .ok (.aload_n 0, 1) := by decide +kernel
theorem dX15_readTerm_393 : decode cX15_readTerm 393 = .ok (.getfield 238, 3) := by decide +kernel
theorem dX15_readTerm_396 : decode cX15_readTerm 396 = .ok (.bipush 8, 2) := by decide +kernel
theorem dX15_readTerm_398 : decode cX15_readTerm 398 = .ok (.if_icmp .ne 8, 3) := by decide +kernel
theorem dX15_readTerm_401 : decode cX15_readTerm 401 = .ok (.iload 5, 2) := by decide +kernel
theorem dX15_readTerm_403 : decode cX15_readTerm 403 = .ok (.ifCond .eq 4, 3) := by decide +kernel
theorem dX15_readTerm_406 : decode cX15_readTerm 406 = .ok (.return_, 1) := by decide +kernel
theorem dX15_readTerm_407 : decode cX15_readTerm 407 = .ok (.aload_n 1, 1) := by decide +kernel
theorem dX15_readTerm_408 : decode cX15_readTerm 408 = .ok (.iload 4, 2) := by decide +kernel
theorem dX15_readTerm_410 : decode cX15_readTerm 410 = .ok (.iload_n 3, 1) := by decide +kernel
theorem dX15_readTerm_411 : decode cX15_readTerm 411 = .ok (.ldc_w 282, 3) := by decide +kernel
theorem dX15_readTerm_414 : decode cX15_readTerm 414 = .ok (.invokestatic 254, 3) := by decide +kernel
theorem dX15_readTerm_417 : decode cX15_readTerm 417 = .ok (.ifCond .eq 40, 3) := by decide +kernel
theorem dX15_readTerm_420 : decode cX15_readTerm 420 = .ok (.aload_n 0, 1) := by decide +kernel
theorem dX15_readTerm_421 : decode cX15_readTerm 421 = .ok (.iload 4, 2) := by decide +kernel
theorem dX15_readTerm_423 : decode cX15_readTerm 423 = .ok (.bipush 9, 2) := by decide +kernel
theorem dX15_readTerm_425 : decode cX15_readTerm 425 = .ok (.iadd, 1) := by decide +kernel
theorem dX15_readTerm_426 : decode cX15_readTerm 426 = .ok (.putfield 241, 3) := by decide +kernel
theorem dX15_readTerm_429 : decode cX15_readTerm 429 = .ok (.aload_n 0, 1) := by decide +kernel
theorem dX15_readTerm_430 : decode cX15_readTerm 430 = .ok (.iload_n 3, 1) := by decide +kernel
theorem dX15_readTerm_431 : decode cX15_readTerm 431 = .ok (.putfield 244, 3) := by decide +kernel
theorem dX15_readTerm_434 : decode cX15_readTerm 434 = .ok (.aload_n 1, 1) := by decide +kernel
theorem dX15_readTerm_435 : decode cX15_readTerm 435 = .ok (.aload_n 0, 1) := by decide +kernel
theorem dX15_readTerm_436 : decode cX15_readTerm 436 = .ok (.getfield 241, 3) := by decide +kernel
theorem dX15_readTerm_439 : decode cX15_readTerm 439 = .ok (.aload_n 0, 1) := by decide +kernel
theorem dX15_readTerm_440 : decode cX15_readTerm 440 = .ok (.getfield 244, 3) := by decide +kernel
theorem dX15_readTerm_443 : decode cX15_readTerm 443 = .ok (.iconst 1, 1) := by decide +kernel
theorem dX15_readTerm_444 : decode cX15_readTerm 444 = .ok (.invokestatic 257, 3) := by decide +kernel
theorem dX15_readTerm_447 : decode cX15_readTerm 447 = .ok (.ifCond .eq 9, 3) := by decide +kernel
theorem dX15_readTerm_450 : decode cX15_readTerm 450 = .ok (.aload_n 0, 1) := by decide +kernel
theorem dX15_readTerm_451 : decode cX15_readTerm 451 = .ok (.bipush 6, 2) := by decide +kernel
theorem dX15_readTerm_453 : decode cX15_readTerm 453 = .ok (.putfield 238, 3) := by decide +kernel
theorem dX15_readTerm_456 : decode cX15_readTerm 456 = .ok (.return_, 1) := by decide +kernel
theorem dX15_readTerm_457 : decode cX15_readTerm 457 = .ok (.iload 4, 2) := by decide +kernel
theorem dX15_readTerm_459 : decode cX15_readTerm 459 = .ok (.istore 6, 2) := by decide +kernel
theorem dX15_readTerm_461 : decode cX15_readTerm 461 = .ok (.iload 6, 2) := by decide +kernel
theorem dX15_readTerm_463 : decode cX15_readTerm 463 = .ok (.iload_n 3, 1) := by decide +kernel
theorem dX15_readTerm_464 : decode cX15_readTerm 464 = .ok (.if_icmp .ge 63, 3) := by decide +kernel
theorem dX15_readTerm_467 : decode cX15_readTerm 467 = .ok (.aload_n 1, 1) := by decide +kernel
theorem dX15_readTerm_468 : decode cX15_readTerm 468 = .ok (.iload 6, 2) := by decide +kernel
theorem dX15_readTerm_470 : decode cX15_readTerm 470 = .ok (.baload, 1) := by decide +kernel
theorem dX15_readTerm_471 : decode cX15_readTerm 471 = .ok (.invokestatic 3, 3) := by decide +kernel
theorem dX15_readTerm_474 : decode cX15_readTerm 474 = .ok (.ifCond .ne 47, 3) := by decide +kernel
theorem dX15_readTerm_477 : decode cX15_readTerm 477 = .ok (.iload 6, 2) := by decide +kernel
theorem dX15_readTerm_479 : decode cX15_readTerm 479 = .ok (.iload 4, 2) := by decide +kernel
theorem dX15_readTerm_481 : decode cX15_readTerm 481 = .ok (.if_icmp .le 46, 3) := by decide +kernel
theorem dX15_readTerm_484 : decode cX15_readTerm 484 = .ok (.aload_n 1, 1) := by decide +kernel
theorem dX15_readTerm_485 : decode cX15_readTerm 485 = .ok (.iload 6, 2) := by decide +kernel
theorem dX15_readTerm_487 : decode cX15_readTerm 487 = .ok (.baload, 1) := by decide +kernel
theorem dX15_readTerm_488 : decode cX15_readTerm 488 = .ok (.invokestatic 202, 3) := by decide +kernel
theorem dX15_readTerm_491 : decode cX15_readTerm 491 = .ok (.ifCond .ne 30, 3) := by decide +kernel
theorem dX15_readTerm_494 : decode cX15_readTerm 494 = .ok (.aload_n 1, 1) := by decide +kernel
theorem dX15_readTerm_495 : decode cX15_readTerm 495 = .ok (.iload 6, 2) := by decide +kernel
theorem dX15_readTerm_497 : decode cX15_readTerm 497 = .ok (.baload, 1) := by decide +kernel
theorem dX15_readTerm_498 : decode cX15_readTerm 498 = .ok (.bipush 45, 2) := by decide +kernel
theorem dX15_readTerm_500 : decode cX15_readTerm 500 = .ok (.if_icmp .eq 21, 3) := by decide +kernel
theorem dX15_readTerm_503 : decode cX15_readTerm 503 = .ok (.aload_n 1, 1) := by decide +kernel
theorem dX15_readTerm_504 : decode cX15_readTerm 504 = .ok (.iload 6, 2) := by decide +kernel
theorem dX15_readTerm_506 : decode cX15_readTerm 506 = .ok (.baload, 1) := by decide +kernel
theorem dX15_readTerm_507 : decode cX15_readTerm 507 = .ok (.bipush 95, 2) := by decide +kernel
theorem dX15_readTerm_509 : decode cX15_readTerm 509 = .ok (.if_icmp .eq 12, 3) := by decide +kernel
theorem dX15_readTerm_512 : decode cX15_readTerm 512 = .ok (.aload_n 1, 1) := by decide +kernel
theorem dX15_readTerm_513 : decode cX15_readTerm 513 = .ok (.iload 6, 2) := by decide +kernel
theorem dX15_readTerm_515 : decode cX15_readTerm 515 = .ok (.baload, 1) := by decide +kernel
theorem dX15_readTerm_516 : decode cX15_readTerm 516 = .ok (.bipush 46, 2) := by decide +kernel
theorem dX15_readTerm_518 : decode cX15_readTerm 518 = .ok (.if_icmp .ne 9, 3) := by decide +kernel
theorem dX15_readTerm_521 : decode cX15_readTerm 521 = .ok (.iinc 6 1, 3) := by decide +kernel
theorem dX15_readTerm_524 : decode cX15_readTerm 524 = .ok (.goto (-63), 3) := by decide +kernel
theorem dX15_readTerm_527 : decode cX15_readTerm 527 = .ok (.iload 6, 2) := by decide +kernel
theorem dX15_readTerm_529 : decode cX15_readTerm 529 = .ok (.iload 4, 2) := by decide +kernel
theorem dX15_readTerm_531 : decode cX15_readTerm 531 = .ok (.if_icmp .le 24, 3) := by decide +kernel
theorem dX15_readTerm_534 : decode cX15_readTerm 534 = .ok (.iload 6, 2) := by decide +kernel
theorem dX15_readTerm_536 : decode cX15_readTerm 536 = .ok (.iload_n 3, 1) := by decide +kernel
theorem dX15_readTerm_537 : decode cX15_readTerm 537 = .ok (.if_icmp .ge 18, 3) := by decide +kernel
theorem dX15_readTerm_540 : decode cX15_readTerm 540 = .ok (.aload_n 1, 1) := by decide +kernel
theorem dX15_readTerm_541 : decode cX15_readTerm 541 = .ok (.iload 6, 2) := by decide +kernel
theorem dX15_readTerm_543 : decode cX15_readTerm 543 = .ok (.baload, 1) := by decide +kernel
theorem dX15_readTerm_544 : decode cX15_readTerm 544 = .ok (.bipush 61, 2) := by decide +kernel
theorem dX15_readTerm_546 : decode cX15_readTerm 546 = .ok (.if_icmp .ne 9, 3) := by decide +kernel
theorem dX15_readTerm_549 : decode cX15_readTerm 549 = .ok (.aload_n 0, 1) := by decide +kernel
theorem dX15_readTerm_550 : decode cX15_readTerm 550 = .ok (.bipush 7, 2) := by decide +kernel
theorem dX15_readTerm_552 : decode cX15_readTerm 552 = .ok (.putfield 238, 3) := by decide +kernel
theorem dX15_readTerm_555 : decode cX15_readTerm 555 = .ok (.return_, 1) := by decide +kernel
theorem kt_745 : Cond.fieldLink RX15 232 "PostGateModel" "quad" "I" ∈ tb := tb_at (i := 1311) (by decide +kernel) (by decide +kernel)
theorem kt_746 : Cond.code yX15_slashOf cX15_slashOf 4 (some .int) ∈ tb := tb_at (i := 1580) (by decide +kernel) (by decide +kernel)
theorem kt_747 : Cond.methodLink RX15 265 yX15_slashOf ∈ tb := tb_at (i := 1578) (by decide +kernel) (by decide +kernel)
theorem kt_748 : Cond.static yX15_slashOf ∈ tb := tb_at (i := 1579) (by decide +kernel) (by decide +kernel)
theorem kt_749 : Cond.fieldLink RX15 247 "PostGateModel" "width" "I" ∈ tb := tb_at (i := 1310) (by decide +kernel) (by decide +kernel)
theorem kt_750 : Cond.fieldLink RX15 238 "PostGateModel" "term" "I" ∈ tb := tb_at (i := 1306) (by decide +kernel) (by decide +kernel)
theorem kt_751 : Cond.fieldLink RX15 241 "PostGateModel" "dFrom" "I" ∈ tb := tb_at (i := 1308) (by decide +kernel) (by decide +kernel)
theorem kt_752 : Cond.fieldLink RX15 244 "PostGateModel" "dTo" "I" ∈ tb := tb_at (i := 1309) (by decide +kernel) (by decide +kernel)
theorem kt_753 : Cond.code yX15_isD cX15_isD 6 (some .boolean) ∈ tb := tb_at (i := 1570) (by decide +kernel) (by decide +kernel)
theorem kt_754 : Cond.methodLink RX15 257 yX15_isD ∈ tb := tb_at (i := 1568) (by decide +kernel) (by decide +kernel)
theorem kt_755 : Cond.static yX15_isD ∈ tb := tb_at (i := 1569) (by decide +kernel) (by decide +kernel)
theorem kt_756 : Cond.code yX15_bits cX15_bits 5 (some .int) ∈ tb := tb_at (i := 1583) (by decide +kernel) (by decide +kernel)
theorem kt_757 : Cond.methodLink RX15 268 yX15_bits ∈ tb := tb_at (i := 1581) (by decide +kernel) (by decide +kernel)
theorem kt_758 : Cond.static yX15_bits ∈ tb := tb_at (i := 1582) (by decide +kernel) (by decide +kernel)
theorem kt_759 : Cond.fieldLink RX15 235 "PostGateModel" "sign" "I" ∈ tb := tb_at (i := 1307) (by decide +kernel) (by decide +kernel)
theorem kt_760 : Cond.code yX15_readHost cX15_readHost 6 none ∈ tb := tb_at (i := 1593) (by decide +kernel) (by decide +kernel)
theorem kt_761 : Cond.methodLink RX15 276 yX15_readHost ∈ tb := tb_at (i := 1590) (by decide +kernel) (by decide +kernel)
theorem kt_762 : Cond.instanceMethod yX15_readHost ∈ tb := tb_at (i := 1592) (by decide +kernel) (by decide +kernel)
theorem kt_763 : Cond.selects RX15 yX15_readHost yX15_readHost ∈ tb := tb_at (i := 49) (by decide +kernel) (by decide +kernel)
theorem kt_764 : Cond.code yX15_isQuad cX15_isQuad 8 (some .boolean) ∈ tb := tb_at (i := 1588) (by decide +kernel) (by decide +kernel)
theorem kt_765 : Cond.methodLink RX15 271 yX15_isQuad ∈ tb := tb_at (i := 1585) (by decide +kernel) (by decide +kernel)
theorem kt_766 : Cond.instanceMethod yX15_isQuad ∈ tb := tb_at (i := 1587) (by decide +kernel) (by decide +kernel)
theorem kt_767 : Cond.selects RX15 yX15_isQuad yX15_isQuad ∈ tb := tb_at (i := 48) (by decide +kernel) (by decide +kernel)
theorem c0_ne {fv : Nat → Int32} {a kk n : Nat} {C : Nat → Int32} (h : ∀ i, i < n → fv (kk + i) = chv (C i)) (hn : 0 < n) (e : kk = a) (h9 : fv a = 114) (hc : chv (C 0) ≠ 114) : False := by
  have h1 := h 0 hn
  subst e
  exact hc (h1.symm.trans h9)
set_option maxHeartbeats 4000000 in
set_option maxRecDepth 100000 in
theorem s_X15_isQuad (l : Launch) (dC : Nat → ClassId) (dI : Nat → Nat → Nat) (cs : Nat → ClassId) (ty : TyM) (gm : Nat → Nat → Nat) (L : List Nat) (sz : Nat) (F : Nat → va_E) (h0 : Nat) (ρ : Nat) (ta : Nat) (ou : Nat) (so : Nat) (ad : Nat) (na : Nat) (va : Nat) (lc : Nat) (dm : Nat) (tg : Nat) (pe : Nat) (ml : Nat) (bg : Nat) (co : Nat) (sp : Nat) (nb0 : Nat) (nb1 : Nat) (nb2 : Nat) (pl : Nat) (se : Nat) (ke : Nat) (wi : Nat) (hs : Nat) (mo : Nat) (po : Nat) (nu : Nat) (pr : Nat) (sq : Nat) (xa : Nat) (sa : Nat) (n64 : Nat) (m64 : Nat) (ex : Nat) (wh : Nat) (sd : Nat) (tk : Nat) (hd : Nat) (ak : Nat) (ho : Nat) (ot : Nat) (sx : Nat) (s0 : Nat) (s1 : Nat) (s2 : Nat) (nf : Nat) (bd : Nat) (mm : Nat) (zt : Nat) (zo : Nat) (ze : Nat) (v11 : Int32) (v12 : Int32) (v14 : Int32) (v15 : Int32) (v17 : Int32) (v18 : Int32) (v19 : Int32) (v20 : Int32) (v21 : Int32) (v22 : Int32) (v33 : Int32) (v52 : Int32) (v53 : Int32) (v54 : Int32) (g1 : Nat) (fv : Nat → Int32) (a : Nat) (tt : Nat) (hW : WTm ty gm L) (hL_h0 : h0 ∈ L) (hT_h0 : ty h0 = (15, ρ, [ta, ou, so, ad, na, va, lc, dm, tg, pe, ml, bg, co, sp, nb0, nb1, nb2, pl, se, ke, wi, hs, mo, po, nu, pr, sq, xa, sa, n64, m64, ex, wh, sd, tk, hd, ak, ho, ot, sx, s0, s1, s2, nf, bd, mm, zt])) (hL_g1 : g1 ∈ L) (hT_g1 : ty g1 = (17, ρ + 31, [700])) (hF0 : F h0 = .inr (15, (.ref ta) :: (.int (nI zt)) :: (.int (nI zo)) :: (.int (nI ze)) :: (.ref ou) :: (.ref so) :: (.ref ad) :: (.ref na) :: (.ref va) :: (.ref lc) :: (.ref dm) :: (.int v11) :: (.int v12) :: (.ref tg) :: (.int v14) :: (.int v15) :: (.ref pe) :: (.int v17) :: (.int v18) :: (.int v19) :: (.int v20) :: (.int v21) :: (.int v22) :: (.ref ml) :: (.ref bg) :: (.ref co) :: (.ref sp) :: (.ref nb0) :: (.ref nb1) :: (.ref nb2) :: (.int (nI nf)) :: (.int (nI bd)) :: (.int (nI mm)) :: (.int v33) :: (.ref pl) :: (.ref se) :: (.ref ke) :: (.ref wi) :: (.ref hs) :: (.ref mo) :: (.ref po) :: (.ref nu) :: (.ref pr) :: (.ref sq) :: (.ref xa) :: (.ref sa) :: (.ref n64) :: (.ref m64) :: (.ref ex) :: (.ref wh) :: (.ref sd) :: (.ref tk) :: (.int v52) :: (.int v53) :: (.int v54) :: (.ref hd) :: (.ref ak) :: (.ref ho) :: (.ref ot) :: [])) (hzo : zo ≤ 6000) (hze : ze ≤ 40) (h33 : (v33 = 0 ∨ 1 ≤ nf)) (h54 : (v54 = 0 ∨ v54 = 1)) (hFg : F g1 = .inl (cs 17, 700, .inl fv)) (htn : tt ≤ 700) (ha : a ≤ 20000) : Met l yX15_isQuad (.code yX15_isQuad cX15_isQuad 8 (some .boolean) :: tb) ({ frames := 1, cells := 0, slots := 0, locals := 20 }) (va_Pc [.ref h0, .ref g1, .int (nI a), .int (nI tt)] (PTm (dC, dI) cs ty gm L F sz)) (va_Qi (fun (r : Int32) (_ : Unit) => (r = 0 ∨ r = 1)) (fun _ T9 => ∃ F2 : Nat → va_E, ∃ u22 : Int32, QTm (dC, dI) cs ty gm L [ρ] F F2 (va_A (va_pl L F) sz) T9 ∧ F2 h0 = .inr (15, (.ref ta) :: (.int (nI zt)) :: (.int (nI zo)) :: (.int (nI ze)) :: (.ref ou) :: (.ref so) :: (.ref ad) :: (.ref na) :: (.ref va) :: (.ref lc) :: (.ref dm) :: (.int v11) :: (.int v12) :: (.ref tg) :: (.int v14) :: (.int v15) :: (.ref pe) :: (.int v17) :: (.int v18) :: (.int v19) :: (.int v20) :: (.int v21) :: (.int u22) :: (.ref ml) :: (.ref bg) :: (.ref co) :: (.ref sp) :: (.ref nb0) :: (.ref nb1) :: (.ref nb2) :: (.int (nI nf)) :: (.int (nI bd)) :: (.int (nI mm)) :: (.int v33) :: (.ref pl) :: (.ref se) :: (.ref ke) :: (.ref wi) :: (.ref hs) :: (.ref mo) :: (.ref po) :: (.ref nu) :: (.ref pr) :: (.ref sq) :: (.ref xa) :: (.ref sa) :: (.ref n64) :: (.ref m64) :: (.ref ex) :: (.ref wh) :: (.ref sd) :: (.ref tk) :: (.int v52) :: (.int v53) :: (.int v54) :: (.ref hd) :: (.ref ak) :: (.ref ho) :: (.ref ot) :: [])) (va_A (va_pl L F) sz)) 0 0 (va_A (va_pl L F) sz) := by
  refine Met.ofW (cc := cX15_isQuad) (maxL := 8) (ret := (some .boolean)) (by decide) rfl ?_
  intro p e s m args below meth c s₁ B hml hv
  obtain ⟨rfl, hsz, hP, hK, hD0, hE, hO⟩ := hv
  have hx := B.exec
  have hb := B.bytes
  have hr := B.returns
  have hts : ∀ w ∈ tb, w.before _ s = true := fun w h => atoms_spec (ws := .code yX15_isQuad cX15_isQuad 8 (some .boolean) :: tb) B.pre w (List.mem_cons_of_mem _ h)
  have hown : s.vm.findClass RX15 = some m.cls := findClass_of_methodNamed B.named
  have hlocks := B.notSynchronized
  subst hsz
  have hD := hD0.self (sz := s.heap.size)
  generalize hAe : va_A (va_pl L F) s.heap.size = A at hD ⊢
  have hA : ∀ q : Nat, s.heap.size ≤ q → A q := fun q h => by rw [← hAe]; exact Or.inr h
  have hS : va_S A s.heap s.heap [] := va_S.rf
  have hR : FR ty [ρ] F F := FR.refl
  have hl := lv_entry ([.ref h0, .ref g1, .int (nI a), .int (nI tt)]) (n := 8) (Nat.le_of_ble_eq_true rfl)
  rw [lg_entry_eq]
  generalize (lg_sl ([.ref h0, .ref g1, .int (nI a), .int (nI tt)]) ++ List.replicate (8 - (lg_sl ([.ref h0, .ref g1, .int (nI a), .int (nI tt)])).length) Slot.unset).toArray = ls at hl ⊢
  have hl : lv_has ls 8 [(0, .ref h0), (1, .ref g1), (2, .int (nI a)), (3, .int (nI tt))] := hl
  refine lv_iconst (v := 0) hx hb dX15_isQuad_0 (by decide) ?_
  refine lv_istore (lv' := [(4, .int 0), (0, .ref h0), (1, .ref g1), (2, .int (nI a)), (3, .int (nI tt))]) hx hb dX15_isQuad_1 hl (by decide) rfl (fun ls hl => ?_)
  refine lv_iconst (v := 0) hx hb dX15_isQuad_3 (by decide) ?_
  refine lv_istore (lv' := [(5, .int 0), (4, .int 0), (0, .ref h0), (1, .ref g1), (2, .int (nI a)), (3, .int (nI tt))]) hx hb dX15_isQuad_4 hl (by decide) rfl (fun ls hl => ?_)
  refine lv_iconst (v := 0) hx hb dX15_isQuad_6 (by decide) ?_
  refine lv_istore (lv' := [(6, .int 0), (5, .int 0), (4, .int 0), (0, .ref h0), (1, .ref g1), (2, .int (nI a)), (3, .int (nI tt))]) hx hb dX15_isQuad_7 hl (by decide) rfl (fun ls hl => ?_)
  refine lv_aload_n hx hb dX15_isQuad_9 rfl (lv_at hl 3 rfl) ?_
  refine lv_iconst (v := 0) hx hb dX15_isQuad_10 (by decide) ?_
  obtain ⟨hi_1, ht_2, hi_3, ht_4, hi_5, ht_6, hi_7, ht_8, hi_9, ht_10, hi_11, ht_12, hi_13, ⟨r_14, ht_15⟩, hi_16, ⟨r_17, ht_18⟩, hi_19, ht_20, hi_21, ⟨r_22, ht_23⟩, hi_24, ht_25, hi_26, ht_27, hi_28, ht_29, hi_30, ht_31, hi_32, ht_33, hi_34, ht_35, hi_36, ht_37, hi_38, ⟨r_39, ht_40⟩, hi_41, ht_42, hi_43, ⟨x_44, y0_45, y1_46, y2_47, ht_48⟩, hi_49, ⟨x_50, y0_51, y1_52, y2_53, ht_54⟩, hi_55, ⟨x_56, y_57, w_58, u_59, bl_60, ht_61⟩, hi_62, ht_63, hi_64, ht_65, hi_66, ht_67, hi_68, ht_69, hi_70, ht_71, hi_72, ht_73, hi_74, ht_75, hi_76, ht_77, hi_78, ht_79, hi_80, ht_81, hi_82, ⟨r_83, ht_84⟩, hi_85, ⟨r_86, ht_87⟩, hi_88, ht_89, hi_90, ht_91, hi_92, ⟨r_93, ht_94⟩, hi_95, ⟨r_96, ht_97⟩, hi_98, ⟨r_99, ht_100⟩, hq_101, hq_102, hq_103, hq_104, hq_105, hgO, hgA, hgB⟩ := hW.mod hL_h0 hT_h0
  refine pg_put (ci := 15) (v := .int 0) (ty := .int) (C := RX15) (T := TX15) (N := 59) hx hb hts it_15 tyX15 tyX15_ok nmX15 hown hK hP hD hS hL_h0 hF0 rfl 22 (by decide) (hts _ kt_745) (fun _ h9 => h9) rfl (by decide +kernel) (rfl) (rfl) (Nat.le_of_ble_eq_true rfl) dX15_isQuad_11 (fun H locs hP hD hS => ?_)
  obtain ⟨F_106, he_107, hP, hD, hO, hR⟩ : ∃ G, G = va_up F h0 (.inr (15, (.ref ta) :: (.int (nI zt)) :: (.int (nI zo)) :: (.int (nI ze)) :: (.ref ou) :: (.ref so) :: (.ref ad) :: (.ref na) :: (.ref va) :: (.ref lc) :: (.ref dm) :: (.int v11) :: (.int v12) :: (.ref tg) :: (.int v14) :: (.int v15) :: (.ref pe) :: (.int v17) :: (.int v18) :: (.int v19) :: (.int v20) :: (.int v21) :: (.int 0) :: (.ref ml) :: (.ref bg) :: (.ref co) :: (.ref sp) :: (.ref nb0) :: (.ref nb1) :: (.ref nb2) :: (.int (nI nf)) :: (.int (nI bd)) :: (.int (nI mm)) :: (.int v33) :: (.ref pl) :: (.ref se) :: (.ref ke) :: (.ref wi) :: (.ref hs) :: (.ref mo) :: (.ref po) :: (.ref nu) :: (.ref pr) :: (.ref sq) :: (.ref xa) :: (.ref sa) :: (.ref n64) :: (.ref m64) :: (.ref ex) :: (.ref wh) :: (.ref sd) :: (.ref tk) :: (.int v52) :: (.int v53) :: (.int v54) :: (.ref hd) :: (.ref ak) :: (.ref ho) :: (.ref ot) :: [])) ∧ va_P (dC, dI) vwCl (va_pl L G) H ∧ va_D A (va_pl L G) ∧ OKm cs ty gm L G ∧ FR ty [ρ] F G := ⟨_, rfl, hP, hD, hO.up (shm.mod hT_h0 ⟨zo, ze, v11, v12, v14, v15, v17, v18, v19, v20, v21, 0, v33, v52, v53, v54, rfl, (by first | omega | assumption | exact Or.inl rfl | exact Or.inr rfl), (by first | omega | assumption | exact Or.inl rfl | exact Or.inr rfl), (by first | omega | assumption | exact Or.inl rfl | exact Or.inr rfl), (by first | omega | assumption | exact Or.inl rfl | exact Or.inr rfl)⟩), hR.up hT_h0 (by simp)⟩
  have hF_108 : F_106 h0 = .inr (15, (.ref ta) :: (.int (nI zt)) :: (.int (nI zo)) :: (.int (nI ze)) :: (.ref ou) :: (.ref so) :: (.ref ad) :: (.ref na) :: (.ref va) :: (.ref lc) :: (.ref dm) :: (.int v11) :: (.int v12) :: (.ref tg) :: (.int v14) :: (.int v15) :: (.ref pe) :: (.int v17) :: (.int v18) :: (.int v19) :: (.int v20) :: (.int v21) :: (.int 0) :: (.ref ml) :: (.ref bg) :: (.ref co) :: (.ref sp) :: (.ref nb0) :: (.ref nb1) :: (.ref nb2) :: (.int (nI nf)) :: (.int (nI bd)) :: (.int (nI mm)) :: (.int v33) :: (.ref pl) :: (.ref se) :: (.ref ke) :: (.ref wi) :: (.ref hs) :: (.ref mo) :: (.ref po) :: (.ref nu) :: (.ref pr) :: (.ref sq) :: (.ref xa) :: (.ref sa) :: (.ref n64) :: (.ref m64) :: (.ref ex) :: (.ref wh) :: (.ref sd) :: (.ref tk) :: (.int v52) :: (.int v53) :: (.int v54) :: (.ref hd) :: (.ref ak) :: (.ref ho) :: (.ref ot) :: []) := by rw [he_107]; exact up_self
  have hF_109 : F_106 g1 = .inl (cs 17, 700, .inl fv) := by rw [he_107, up_ne (ne_ty hT_g1 hT_h0 (by simp))]; exact hFg
  refine lv_iload_n hx hb dX15_isQuad_14 rfl (lv_at hl 5 rfl) ?_
  refine lv_istore (lv' := [(7, .int (nI a)), (6, .int 0), (5, .int 0), (4, .int 0), (0, .ref h0), (1, .ref g1), (2, .int (nI a)), (3, .int (nI tt))]) hx hb dX15_isQuad_15 hl (by decide) rfl (fun ls hl => ?_)
  refine W.widen (k := 0) (n := 0) (by omega) (by omega) ?_
  have hF_111 : F g1 = .inl (cs 17, 700, .inl fv) := (hR g1 (by rw [hT_g1]; simp)).symm.trans hF_109
  refine pl_loopm (σ := Nat × Int32 × Int32 × Int32 × Int32) A (dC, dI) cs ty gm L [ρ] F 17 8 (fun (j, w4, w5, w6, q22) => [(7, .int (nI j)), (6, .int w6), (5, .int w5), (4, .int w4), (0, .ref h0), (1, .ref g1), (2, .int (nI a)), (3, .int (nI tt))]) (fun (j, w4, w5, w6, q22) => []) (fun (j, w4, w5, w6, q22) FF => j ≤ 20001 ∧ FF h0 = .inr (15, (.ref ta) :: (.int (nI zt)) :: (.int (nI zo)) :: (.int (nI ze)) :: (.ref ou) :: (.ref so) :: (.ref ad) :: (.ref na) :: (.ref va) :: (.ref lc) :: (.ref dm) :: (.int v11) :: (.int v12) :: (.ref tg) :: (.int v14) :: (.int v15) :: (.ref pe) :: (.int v17) :: (.int v18) :: (.int v19) :: (.int v20) :: (.int v21) :: (.int q22) :: (.ref ml) :: (.ref bg) :: (.ref co) :: (.ref sp) :: (.ref nb0) :: (.ref nb1) :: (.ref nb2) :: (.int (nI nf)) :: (.int (nI bd)) :: (.int (nI mm)) :: (.int v33) :: (.ref pl) :: (.ref se) :: (.ref ke) :: (.ref wi) :: (.ref hs) :: (.ref mo) :: (.ref po) :: (.ref nu) :: (.ref pr) :: (.ref sq) :: (.ref xa) :: (.ref sa) :: (.ref n64) :: (.ref m64) :: (.ref ex) :: (.ref wh) :: (.ref sd) :: (.ref tk) :: (.int v52) :: (.int v53) :: (.int v54) :: (.ref hd) :: (.ref ak) :: (.ref ho) :: (.ref ot) :: [])) (fun (j, w4, w5, w6, q22) => 20001 - j) ?_ (a, 0, 0, 0, 0) F_106 (⟨by omega, hF_108⟩) hO hR _ _ hP hD hS ls (lv_sub hl [0, 1, 2, 3, 4, 5, 6, 7] rfl)
  rintro ⟨j, w4, w5, w6, q22⟩ F_110 hv_112 hO hR ih_113 H locs hP hD hS ls hl
  have hl : lv_has ls 8 [(7, .int (nI j)), (6, .int w6), (5, .int w5), (4, .int w4), (0, .ref h0), (1, .ref g1), (2, .int (nI a)), (3, .int (nI tt))] := hl
  have hv_112 : j ≤ 20001 ∧ F_110 h0 = .inr (15, (.ref ta) :: (.int (nI zt)) :: (.int (nI zo)) :: (.int (nI ze)) :: (.ref ou) :: (.ref so) :: (.ref ad) :: (.ref na) :: (.ref va) :: (.ref lc) :: (.ref dm) :: (.int v11) :: (.int v12) :: (.ref tg) :: (.int v14) :: (.int v15) :: (.ref pe) :: (.int v17) :: (.int v18) :: (.int v19) :: (.int v20) :: (.int v21) :: (.int q22) :: (.ref ml) :: (.ref bg) :: (.ref co) :: (.ref sp) :: (.ref nb0) :: (.ref nb1) :: (.ref nb2) :: (.int (nI nf)) :: (.int (nI bd)) :: (.int (nI mm)) :: (.int v33) :: (.ref pl) :: (.ref se) :: (.ref ke) :: (.ref wi) :: (.ref hs) :: (.ref mo) :: (.ref po) :: (.ref nu) :: (.ref pr) :: (.ref sq) :: (.ref xa) :: (.ref sa) :: (.ref n64) :: (.ref m64) :: (.ref ex) :: (.ref wh) :: (.ref sd) :: (.ref tk) :: (.int v52) :: (.int v53) :: (.int v54) :: (.ref hd) :: (.ref ak) :: (.ref ho) :: (.ref ot) :: []) := hv_112
  refine W.eq (g2 := F0 m 17 ls []) rfl ?_
  have hF_114 : F_110 g1 = .inl (cs 17, 700, .inl fv) := (hR g1 (by rw [hT_g1]; simp)).trans hF_111
  obtain ⟨hv1, hv2⟩ := hv_112
  refine lv_iload hx hb dX15_isQuad_17 (lv_at hl 0 rfl) ?_
  refine lv_iload_n hx hb dX15_isQuad_19 rfl (lv_at hl 7 rfl) ?_
  refine lv_icmp_gt (tgt := 124) hx hb dX15_isQuad_20 (by decide) (fun c_115 => ?_) (fun c_115 => ?_)
  ·
    have hi_116 : tt < j := (nI_ltI (a := tt) (b := j) (by omega) (by omega)).mp c_115
    refine lv_iload hx hb dX15_isQuad_124 (lv_at hl 3 rfl) ?_
    refine lv_iconst (v := 4) hx hb dX15_isQuad_126 (by decide) ?_
    refine lv_icmp_ne (tgt := 134) hx hb dX15_isQuad_127 (by decide) (fun c_117 => ?_) (fun c_117 => ?_)
    ·
      refine lv_iconst (v := 0) hx hb dX15_isQuad_134 (by decide) ?_
      refine W.widen (k := 0) (n := 0) (by omega) (by omega) ?_
      exact W.zret (v := 0) (ty := .boolean) hx hb hr (by decide) (fun t ht hWm => ⟨⟨0, (), rfl, (by first | exact Or.inl rfl | exact Or.inr rfl), ⟨F_110, q22, QTm.mk ht hP hD hO hR, hv2⟩⟩, hS.F ht⟩) hS.2.2 dX15_isQuad_135
    ·
      refine lv_iconst (v := 1) hx hb dX15_isQuad_130 (by decide) ?_
      refine lv_goto (tgt := 135) hx hb dX15_isQuad_131 (by decide) ?_
      refine W.widen (k := 0) (n := 0) (by omega) (by omega) ?_
      exact W.zret (v := 1) (ty := .boolean) hx hb hr (by decide) (fun t ht hWm => ⟨⟨1, (), rfl, (by first | exact Or.inl rfl | exact Or.inr rfl), ⟨F_110, q22, QTm.mk ht hP hD hO hR, hv2⟩⟩, hS.F ht⟩) hS.2.2 dX15_isQuad_135
  ·
    have hi_118 : j ≤ tt := Nat.not_lt.mp (fun q => c_115 ((nI_ltI (a := tt) (b := j) (by omega) (by omega)).mpr q))
    refine lv_iload hx hb dX15_isQuad_23 (lv_at hl 0 rfl) ?_
    refine lv_iload_n hx hb dX15_isQuad_25 rfl (lv_at hl 7 rfl) ?_
    refine lv_icmp_ge (tgt := 65) hx hb dX15_isQuad_26 (by decide) (fun c_119 => ?_) (fun c_119 => ?_)
    ·
      have hi_120 : tt ≤ j := leN (N := tt) c_119
      refine lv_iload hx hb dX15_isQuad_65 (lv_at hl 0 rfl) ?_
      refine lv_iload_n hx hb dX15_isQuad_67 rfl (lv_at hl 7 rfl) ?_
      refine lv_icmp_ge (tgt := 80) hx hb dX15_isQuad_68 (by decide) (fun c_121 => ?_) (fun c_121 => ?_)
      ·
        have hi_122 : tt ≤ j := leN (N := tt) c_121
        refine lv_iload hx hb dX15_isQuad_80 (lv_at hl 2 rfl) ?_
        refine lv_if_eq (tgt := 93) hx hb dX15_isQuad_82 (by decide) (fun c_123 => ?_) (fun c_123 => ?_)
        ·
          refine lv_iconst (v := 0) hx hb dX15_isQuad_93 (by decide) ?_
          refine W.widen (k := 0) (n := 0) (by omega) (by omega) ?_
          exact W.zret (v := 0) (ty := .boolean) hx hb hr (by decide) (fun t ht hWm => ⟨⟨0, (), rfl, (by first | exact Or.inl rfl | exact Or.inr rfl), ⟨F_110, q22, QTm.mk ht hP hD hO hR, hv2⟩⟩, hS.F ht⟩) hS.2.2 dX15_isQuad_94
        ·
          refine lv_iload hx hb dX15_isQuad_85 (lv_at hl 1 rfl) ?_
          refine lv_sipush (v := 255) hx hb dX15_isQuad_87 (by decide) ?_
          refine lv_icmp_le (tgt := 95) hx hb dX15_isQuad_90 (by decide) (fun c_124 => ?_) (fun c_124 => ?_)
          ·
            refine lv_aload_n hx hb dX15_isQuad_95 rfl (lv_at hl 4 rfl) ?_
            refine lv_aload_n hx hb dX15_isQuad_96 rfl (lv_at hl 4 rfl) ?_
            refine pg_get (ci := 15) (v := .int q22) (C := RX15) (T := TX15) (N := 59) hx hb hts it_15 hown hK hP hL_h0 hv2 rfl 22 (by decide) (hts _ kt_745) (fun _ h9 => h9) rfl dX15_isQuad_97 ?_
            refine lv_bipush (v := 8) hx hb dX15_isQuad_100 (by decide) ?_
            refine lv_ishl hx hb dX15_isQuad_102 ?_
            refine lv_topi (fun x_125 _ => ?_)
            refine lv_iload hx hb dX15_isQuad_103 (lv_at hl 1 rfl) ?_
            refine lv_ior hx hb dX15_isQuad_105 ?_
            refine lv_topi (fun x_126 _ => ?_)
            refine pg_put (ci := 15) (v := .int x_126) (ty := .int) (C := RX15) (T := TX15) (N := 59) hx hb hts it_15 tyX15 tyX15_ok nmX15 hown hK hP hD hS hL_h0 hv2 rfl 22 (by decide) (hts _ kt_745) (fun _ h9 => h9) rfl (by decide +kernel) (rfl) (rfl) (Nat.le_of_ble_eq_true rfl) dX15_isQuad_106 (fun H locs hP hD hS => ?_)
            obtain ⟨F_127, he_128, hP, hD, hO, hR⟩ : ∃ G, G = va_up F_110 h0 (.inr (15, (.ref ta) :: (.int (nI zt)) :: (.int (nI zo)) :: (.int (nI ze)) :: (.ref ou) :: (.ref so) :: (.ref ad) :: (.ref na) :: (.ref va) :: (.ref lc) :: (.ref dm) :: (.int v11) :: (.int v12) :: (.ref tg) :: (.int v14) :: (.int v15) :: (.ref pe) :: (.int v17) :: (.int v18) :: (.int v19) :: (.int v20) :: (.int v21) :: (.int x_126) :: (.ref ml) :: (.ref bg) :: (.ref co) :: (.ref sp) :: (.ref nb0) :: (.ref nb1) :: (.ref nb2) :: (.int (nI nf)) :: (.int (nI bd)) :: (.int (nI mm)) :: (.int v33) :: (.ref pl) :: (.ref se) :: (.ref ke) :: (.ref wi) :: (.ref hs) :: (.ref mo) :: (.ref po) :: (.ref nu) :: (.ref pr) :: (.ref sq) :: (.ref xa) :: (.ref sa) :: (.ref n64) :: (.ref m64) :: (.ref ex) :: (.ref wh) :: (.ref sd) :: (.ref tk) :: (.int v52) :: (.int v53) :: (.int v54) :: (.ref hd) :: (.ref ak) :: (.ref ho) :: (.ref ot) :: [])) ∧ va_P (dC, dI) vwCl (va_pl L G) H ∧ va_D A (va_pl L G) ∧ OKm cs ty gm L G ∧ FR ty [ρ] F G := ⟨_, rfl, hP, hD, hO.up (shm.mod hT_h0 ⟨zo, ze, v11, v12, v14, v15, v17, v18, v19, v20, v21, x_126, v33, v52, v53, v54, rfl, (by first | omega | assumption | exact Or.inl rfl | exact Or.inr rfl), (by first | omega | assumption | exact Or.inl rfl | exact Or.inr rfl), (by first | omega | assumption | exact Or.inl rfl | exact Or.inr rfl), (by first | omega | assumption | exact Or.inl rfl | exact Or.inr rfl)⟩), hR.up hT_h0 (by simp)⟩
            have hF_129 : F_127 h0 = .inr (15, (.ref ta) :: (.int (nI zt)) :: (.int (nI zo)) :: (.int (nI ze)) :: (.ref ou) :: (.ref so) :: (.ref ad) :: (.ref na) :: (.ref va) :: (.ref lc) :: (.ref dm) :: (.int v11) :: (.int v12) :: (.ref tg) :: (.int v14) :: (.int v15) :: (.ref pe) :: (.int v17) :: (.int v18) :: (.int v19) :: (.int v20) :: (.int v21) :: (.int x_126) :: (.ref ml) :: (.ref bg) :: (.ref co) :: (.ref sp) :: (.ref nb0) :: (.ref nb1) :: (.ref nb2) :: (.int (nI nf)) :: (.int (nI bd)) :: (.int (nI mm)) :: (.int v33) :: (.ref pl) :: (.ref se) :: (.ref ke) :: (.ref wi) :: (.ref hs) :: (.ref mo) :: (.ref po) :: (.ref nu) :: (.ref pr) :: (.ref sq) :: (.ref xa) :: (.ref sa) :: (.ref n64) :: (.ref m64) :: (.ref ex) :: (.ref wh) :: (.ref sd) :: (.ref tk) :: (.int v52) :: (.int v53) :: (.int v54) :: (.ref hd) :: (.ref ak) :: (.ref ho) :: (.ref ot) :: []) := by rw [he_128]; exact up_self
            have hF_130 : F_127 g1 = .inl (cs 17, 700, .inl fv) := by rw [he_128, up_ne (ne_ty hT_g1 hT_h0 (by simp))]; exact hF_114
            obtain ⟨x_131, ex_131⟩ : ∃ y : Int32, y = w4 + Int32.ofInt 1 := ⟨_, rfl⟩
            refine lv_iinc (v := x_131) (lv' := [(4, .int x_131), (7, .int (nI j)), (6, .int w6), (5, .int w5), (0, .ref h0), (1, .ref g1), (2, .int (nI a)), (3, .int (nI tt))]) hx hb dX15_isQuad_109 hl (k := 3) rfl (ex_131.symm) (by decide) rfl (fun ls hl => ?_)
            refine lv_iconst (v := 0) hx hb dX15_isQuad_112 (by decide) ?_
            refine lv_istore (lv' := [(5, .int 0), (4, .int x_131), (7, .int (nI j)), (6, .int w6), (0, .ref h0), (1, .ref g1), (2, .int (nI a)), (3, .int (nI tt))]) hx hb dX15_isQuad_113 hl (by decide) rfl (fun ls hl => ?_)
            refine lv_iconst (v := 0) hx hb dX15_isQuad_115 (by decide) ?_
            refine lv_istore (lv' := [(6, .int 0), (5, .int 0), (4, .int x_131), (7, .int (nI j)), (0, .ref h0), (1, .ref g1), (2, .int (nI a)), (3, .int (nI tt))]) hx hb dX15_isQuad_116 hl (by decide) rfl (fun ls hl => ?_)
            refine lv_iinc (v := (nI (j + 1))) (lv' := [(7, .int (nI (j + 1))), (6, .int 0), (5, .int 0), (4, .int x_131), (0, .ref h0), (1, .ref g1), (2, .int (nI a)), (3, .int (nI tt))]) hx hb dX15_isQuad_118 hl (k := 3) rfl (nI_1 _) (by decide) rfl (fun ls hl => ?_)
            refine lv_goto (tgt := 17) hx hb dX15_isQuad_121 (by decide) ?_
            refine W.widen (k := 0) (n := 0) (by omega) (by omega) ?_
            exact ih_113 ((j + 1), x_131, 0, 0, x_126) F_127 (⟨by omega, hF_129⟩) (by show 20001 - (j + 1) < 20001 - j; omega) hO hR _ _ hP hD hS ls (lv_sub hl [0, 1, 2, 3, 4, 5, 6, 7] rfl)
          ·
            refine lv_iconst (v := 0) hx hb dX15_isQuad_93 (by decide) ?_
            refine W.widen (k := 0) (n := 0) (by omega) (by omega) ?_
            exact W.zret (v := 0) (ty := .boolean) hx hb hr (by decide) (fun t ht hWm => ⟨⟨0, (), rfl, (by first | exact Or.inl rfl | exact Or.inr rfl), ⟨F_110, q22, QTm.mk ht hP hD hO hR, hv2⟩⟩, hS.F ht⟩) hS.2.2 dX15_isQuad_94
      ·
        have hi_132 : j < tt := ltN (N := tt) c_121
        refine lv_aload_n hx hb dX15_isQuad_71 rfl (lv_at hl 5 rfl) ?_
        refine lv_iload hx hb dX15_isQuad_72 (lv_at hl 0 rfl) ?_
        obtain ⟨hq_133, hq_134⟩ := hW.octs hL_g1 hT_g1
        refine pg_bald hx hb hK hP hL_g1 1 hF_114 rfl (vp_in_nI (by omega) (by omega)) dX15_isQuad_74 ?_
        refine lv_topi (fun x_135 ex_135 => ?_)
        obtain rfl : x_135 = fv j := ex_135.trans (congrArg fv (show ((nI j) : Int32).toNatClampNeg = j from nI_clamp (by omega)))
        refine lv_bipush (v := 46) hx hb dX15_isQuad_75 (by decide) ?_
        refine lv_icmp_ne (tgt := 93) hx hb dX15_isQuad_77 (by decide) (fun c_136 => ?_) (fun c_136 => ?_)
        ·
          refine lv_iconst (v := 0) hx hb dX15_isQuad_93 (by decide) ?_
          refine W.widen (k := 0) (n := 0) (by omega) (by omega) ?_
          exact W.zret (v := 0) (ty := .boolean) hx hb hr (by decide) (fun t ht hWm => ⟨⟨0, (), rfl, (by first | exact Or.inl rfl | exact Or.inr rfl), ⟨F_110, q22, QTm.mk ht hP hD hO hR, hv2⟩⟩, hS.F ht⟩) hS.2.2 dX15_isQuad_94
        ·
          refine lv_iload hx hb dX15_isQuad_80 (lv_at hl 2 rfl) ?_
          refine lv_if_eq (tgt := 93) hx hb dX15_isQuad_82 (by decide) (fun c_137 => ?_) (fun c_137 => ?_)
          ·
            refine lv_iconst (v := 0) hx hb dX15_isQuad_93 (by decide) ?_
            refine W.widen (k := 0) (n := 0) (by omega) (by omega) ?_
            exact W.zret (v := 0) (ty := .boolean) hx hb hr (by decide) (fun t ht hWm => ⟨⟨0, (), rfl, (by first | exact Or.inl rfl | exact Or.inr rfl), ⟨F_110, q22, QTm.mk ht hP hD hO hR, hv2⟩⟩, hS.F ht⟩) hS.2.2 dX15_isQuad_94
          ·
            refine lv_iload hx hb dX15_isQuad_85 (lv_at hl 1 rfl) ?_
            refine lv_sipush (v := 255) hx hb dX15_isQuad_87 (by decide) ?_
            refine lv_icmp_le (tgt := 95) hx hb dX15_isQuad_90 (by decide) (fun c_138 => ?_) (fun c_138 => ?_)
            ·
              refine lv_aload_n hx hb dX15_isQuad_95 rfl (lv_at hl 4 rfl) ?_
              refine lv_aload_n hx hb dX15_isQuad_96 rfl (lv_at hl 4 rfl) ?_
              refine pg_get (ci := 15) (v := .int q22) (C := RX15) (T := TX15) (N := 59) hx hb hts it_15 hown hK hP hL_h0 hv2 rfl 22 (by decide) (hts _ kt_745) (fun _ h9 => h9) rfl dX15_isQuad_97 ?_
              refine lv_bipush (v := 8) hx hb dX15_isQuad_100 (by decide) ?_
              refine lv_ishl hx hb dX15_isQuad_102 ?_
              refine lv_topi (fun x_139 _ => ?_)
              refine lv_iload hx hb dX15_isQuad_103 (lv_at hl 1 rfl) ?_
              refine lv_ior hx hb dX15_isQuad_105 ?_
              refine lv_topi (fun x_140 _ => ?_)
              refine pg_put (ci := 15) (v := .int x_140) (ty := .int) (C := RX15) (T := TX15) (N := 59) hx hb hts it_15 tyX15 tyX15_ok nmX15 hown hK hP hD hS hL_h0 hv2 rfl 22 (by decide) (hts _ kt_745) (fun _ h9 => h9) rfl (by decide +kernel) (rfl) (rfl) (Nat.le_of_ble_eq_true rfl) dX15_isQuad_106 (fun H locs hP hD hS => ?_)
              obtain ⟨F_141, he_142, hP, hD, hO, hR⟩ : ∃ G, G = va_up F_110 h0 (.inr (15, (.ref ta) :: (.int (nI zt)) :: (.int (nI zo)) :: (.int (nI ze)) :: (.ref ou) :: (.ref so) :: (.ref ad) :: (.ref na) :: (.ref va) :: (.ref lc) :: (.ref dm) :: (.int v11) :: (.int v12) :: (.ref tg) :: (.int v14) :: (.int v15) :: (.ref pe) :: (.int v17) :: (.int v18) :: (.int v19) :: (.int v20) :: (.int v21) :: (.int x_140) :: (.ref ml) :: (.ref bg) :: (.ref co) :: (.ref sp) :: (.ref nb0) :: (.ref nb1) :: (.ref nb2) :: (.int (nI nf)) :: (.int (nI bd)) :: (.int (nI mm)) :: (.int v33) :: (.ref pl) :: (.ref se) :: (.ref ke) :: (.ref wi) :: (.ref hs) :: (.ref mo) :: (.ref po) :: (.ref nu) :: (.ref pr) :: (.ref sq) :: (.ref xa) :: (.ref sa) :: (.ref n64) :: (.ref m64) :: (.ref ex) :: (.ref wh) :: (.ref sd) :: (.ref tk) :: (.int v52) :: (.int v53) :: (.int v54) :: (.ref hd) :: (.ref ak) :: (.ref ho) :: (.ref ot) :: [])) ∧ va_P (dC, dI) vwCl (va_pl L G) H ∧ va_D A (va_pl L G) ∧ OKm cs ty gm L G ∧ FR ty [ρ] F G := ⟨_, rfl, hP, hD, hO.up (shm.mod hT_h0 ⟨zo, ze, v11, v12, v14, v15, v17, v18, v19, v20, v21, x_140, v33, v52, v53, v54, rfl, (by first | omega | assumption | exact Or.inl rfl | exact Or.inr rfl), (by first | omega | assumption | exact Or.inl rfl | exact Or.inr rfl), (by first | omega | assumption | exact Or.inl rfl | exact Or.inr rfl), (by first | omega | assumption | exact Or.inl rfl | exact Or.inr rfl)⟩), hR.up hT_h0 (by simp)⟩
              have hF_143 : F_141 h0 = .inr (15, (.ref ta) :: (.int (nI zt)) :: (.int (nI zo)) :: (.int (nI ze)) :: (.ref ou) :: (.ref so) :: (.ref ad) :: (.ref na) :: (.ref va) :: (.ref lc) :: (.ref dm) :: (.int v11) :: (.int v12) :: (.ref tg) :: (.int v14) :: (.int v15) :: (.ref pe) :: (.int v17) :: (.int v18) :: (.int v19) :: (.int v20) :: (.int v21) :: (.int x_140) :: (.ref ml) :: (.ref bg) :: (.ref co) :: (.ref sp) :: (.ref nb0) :: (.ref nb1) :: (.ref nb2) :: (.int (nI nf)) :: (.int (nI bd)) :: (.int (nI mm)) :: (.int v33) :: (.ref pl) :: (.ref se) :: (.ref ke) :: (.ref wi) :: (.ref hs) :: (.ref mo) :: (.ref po) :: (.ref nu) :: (.ref pr) :: (.ref sq) :: (.ref xa) :: (.ref sa) :: (.ref n64) :: (.ref m64) :: (.ref ex) :: (.ref wh) :: (.ref sd) :: (.ref tk) :: (.int v52) :: (.int v53) :: (.int v54) :: (.ref hd) :: (.ref ak) :: (.ref ho) :: (.ref ot) :: []) := by rw [he_142]; exact up_self
              have hF_144 : F_141 g1 = .inl (cs 17, 700, .inl fv) := by rw [he_142, up_ne (ne_ty hT_g1 hT_h0 (by simp))]; exact hF_114
              obtain ⟨x_145, ex_145⟩ : ∃ y : Int32, y = w4 + Int32.ofInt 1 := ⟨_, rfl⟩
              refine lv_iinc (v := x_145) (lv' := [(4, .int x_145), (7, .int (nI j)), (6, .int w6), (5, .int w5), (0, .ref h0), (1, .ref g1), (2, .int (nI a)), (3, .int (nI tt))]) hx hb dX15_isQuad_109 hl (k := 3) rfl (ex_145.symm) (by decide) rfl (fun ls hl => ?_)
              refine lv_iconst (v := 0) hx hb dX15_isQuad_112 (by decide) ?_
              refine lv_istore (lv' := [(5, .int 0), (4, .int x_145), (7, .int (nI j)), (6, .int w6), (0, .ref h0), (1, .ref g1), (2, .int (nI a)), (3, .int (nI tt))]) hx hb dX15_isQuad_113 hl (by decide) rfl (fun ls hl => ?_)
              refine lv_iconst (v := 0) hx hb dX15_isQuad_115 (by decide) ?_
              refine lv_istore (lv' := [(6, .int 0), (5, .int 0), (4, .int x_145), (7, .int (nI j)), (0, .ref h0), (1, .ref g1), (2, .int (nI a)), (3, .int (nI tt))]) hx hb dX15_isQuad_116 hl (by decide) rfl (fun ls hl => ?_)
              refine lv_iinc (v := (nI (j + 1))) (lv' := [(7, .int (nI (j + 1))), (6, .int 0), (5, .int 0), (4, .int x_145), (0, .ref h0), (1, .ref g1), (2, .int (nI a)), (3, .int (nI tt))]) hx hb dX15_isQuad_118 hl (k := 3) rfl (nI_1 _) (by decide) rfl (fun ls hl => ?_)
              refine lv_goto (tgt := 17) hx hb dX15_isQuad_121 (by decide) ?_
              refine W.widen (k := 0) (n := 0) (by omega) (by omega) ?_
              exact ih_113 ((j + 1), x_145, 0, 0, x_140) F_141 (⟨by omega, hF_143⟩) (by show 20001 - (j + 1) < 20001 - j; omega) hO hR _ _ hP hD hS ls (lv_sub hl [0, 1, 2, 3, 4, 5, 6, 7] rfl)
            ·
              refine lv_iconst (v := 0) hx hb dX15_isQuad_93 (by decide) ?_
              refine W.widen (k := 0) (n := 0) (by omega) (by omega) ?_
              exact W.zret (v := 0) (ty := .boolean) hx hb hr (by decide) (fun t ht hWm => ⟨⟨0, (), rfl, (by first | exact Or.inl rfl | exact Or.inr rfl), ⟨F_110, q22, QTm.mk ht hP hD hO hR, hv2⟩⟩, hS.F ht⟩) hS.2.2 dX15_isQuad_94
    ·
      have hi_146 : j < tt := ltN (N := tt) c_119
      refine lv_aload_n hx hb dX15_isQuad_29 rfl (lv_at hl 5 rfl) ?_
      refine lv_iload hx hb dX15_isQuad_30 (lv_at hl 0 rfl) ?_
      obtain ⟨hq_147, hq_148⟩ := hW.octs hL_g1 hT_g1
      refine pg_bald hx hb hK hP hL_g1 1 hF_114 rfl (vp_in_nI (by omega) (by omega)) dX15_isQuad_32 ?_
      refine lv_topi (fun x_149 ex_149 => ?_)
      obtain rfl : x_149 = fv j := ex_149.trans (congrArg fv (show ((nI j) : Int32).toNatClampNeg = j from nI_clamp (by omega)))
      have hFc := pg_free hD hS hA
      refine va_calli (va_runS (As := [.int (fv j)]) (rest := []) ⟨hx, hb, hml, hown, hts⟩ (s_X15_isDigit l dC dI cs ty gm L H.size F_110 (fv j) hW ) ⟨callB_of 1 hts (gi kt_687) rfl rfl rfl (hts _ kt_669) (hts _ kt_707) (by decide +kernel) ⟨Nat.le_of_ble_eq_true rfl, Nat.le_of_ble_eq_true rfl⟩, (hts _ kt_688)⟩ ⟨fun a U g mk q => ⟨q.1, PTm.calling q.2⟩, fun U hU hWm => ⟨rfl, PTm.mk hU hWm hP hK hD hE hO⟩⟩ rfl rfl hl.1 rfl (lv_room (Nat.le_of_ble_eq_true rfl)) dX15_isQuad_33 ⟨by show _ + 0 ≤ 0; omega, by show _ + 0 ≤ 0; omega⟩) hS (fun q _ h => hFc q h) hFc (fun r_150 u t H1 locs ht hvm hw hB hz1 hk1 hS => ?_)
      obtain ⟨F_151, hB1⟩ := hB
      obtain rfl : F_110 = F_151 := (funext (fun a => hB1.2.2.2 a List.not_mem_nil)).symm
      obtain ⟨hP, hD, hO, hR⟩ := QTm.back hB1 ht hFc hR (fun q h => absurd h List.not_mem_nil)
      generalize H1 = H at hP hS ⊢
      have hw : (r_150 = 0 ∨ r_150 = 1) := hw
      have hw_152 := hw
      refine lv_if_eq (tgt := 65) hx hb dX15_isQuad_36 (by decide) (fun c_153 => ?_) (fun c_153 => ?_)
      ·
        refine lv_iload hx hb dX15_isQuad_65 (lv_at hl 0 rfl) ?_
        refine lv_iload_n hx hb dX15_isQuad_67 rfl (lv_at hl 7 rfl) ?_
        refine lv_icmp_ge (tgt := 80) hx hb dX15_isQuad_68 (by decide) (fun c_154 => ?_) (fun c_154 => ?_)
        ·
          have hi_155 : tt ≤ j := leN (N := tt) c_154
          refine lv_iload hx hb dX15_isQuad_80 (lv_at hl 2 rfl) ?_
          refine lv_if_eq (tgt := 93) hx hb dX15_isQuad_82 (by decide) (fun c_156 => ?_) (fun c_156 => ?_)
          ·
            refine lv_iconst (v := 0) hx hb dX15_isQuad_93 (by decide) ?_
            refine W.widen (k := 0) (n := 0) (by omega) (by omega) ?_
            exact W.zret (v := 0) (ty := .boolean) hx hb hr (by decide) (fun t ht hWm => ⟨⟨0, (), rfl, (by first | exact Or.inl rfl | exact Or.inr rfl), ⟨F_110, q22, QTm.mk ht hP hD hO hR, hv2⟩⟩, hS.F ht⟩) hS.2.2 dX15_isQuad_94
          ·
            refine lv_iload hx hb dX15_isQuad_85 (lv_at hl 1 rfl) ?_
            refine lv_sipush (v := 255) hx hb dX15_isQuad_87 (by decide) ?_
            refine lv_icmp_le (tgt := 95) hx hb dX15_isQuad_90 (by decide) (fun c_157 => ?_) (fun c_157 => ?_)
            ·
              refine lv_aload_n hx hb dX15_isQuad_95 rfl (lv_at hl 4 rfl) ?_
              refine lv_aload_n hx hb dX15_isQuad_96 rfl (lv_at hl 4 rfl) ?_
              refine pg_get (ci := 15) (v := .int q22) (C := RX15) (T := TX15) (N := 59) hx hb hts it_15 hown hK hP hL_h0 hv2 rfl 22 (by decide) (hts _ kt_745) (fun _ h9 => h9) rfl dX15_isQuad_97 ?_
              refine lv_bipush (v := 8) hx hb dX15_isQuad_100 (by decide) ?_
              refine lv_ishl hx hb dX15_isQuad_102 ?_
              refine lv_topi (fun x_158 _ => ?_)
              refine lv_iload hx hb dX15_isQuad_103 (lv_at hl 1 rfl) ?_
              refine lv_ior hx hb dX15_isQuad_105 ?_
              refine lv_topi (fun x_159 _ => ?_)
              refine pg_put (ci := 15) (v := .int x_159) (ty := .int) (C := RX15) (T := TX15) (N := 59) hx hb hts it_15 tyX15 tyX15_ok nmX15 hown hK hP hD hS hL_h0 hv2 rfl 22 (by decide) (hts _ kt_745) (fun _ h9 => h9) rfl (by decide +kernel) (rfl) (rfl) (Nat.le_of_ble_eq_true rfl) dX15_isQuad_106 (fun H locs hP hD hS => ?_)
              obtain ⟨F_160, he_161, hP, hD, hO, hR⟩ : ∃ G, G = va_up F_110 h0 (.inr (15, (.ref ta) :: (.int (nI zt)) :: (.int (nI zo)) :: (.int (nI ze)) :: (.ref ou) :: (.ref so) :: (.ref ad) :: (.ref na) :: (.ref va) :: (.ref lc) :: (.ref dm) :: (.int v11) :: (.int v12) :: (.ref tg) :: (.int v14) :: (.int v15) :: (.ref pe) :: (.int v17) :: (.int v18) :: (.int v19) :: (.int v20) :: (.int v21) :: (.int x_159) :: (.ref ml) :: (.ref bg) :: (.ref co) :: (.ref sp) :: (.ref nb0) :: (.ref nb1) :: (.ref nb2) :: (.int (nI nf)) :: (.int (nI bd)) :: (.int (nI mm)) :: (.int v33) :: (.ref pl) :: (.ref se) :: (.ref ke) :: (.ref wi) :: (.ref hs) :: (.ref mo) :: (.ref po) :: (.ref nu) :: (.ref pr) :: (.ref sq) :: (.ref xa) :: (.ref sa) :: (.ref n64) :: (.ref m64) :: (.ref ex) :: (.ref wh) :: (.ref sd) :: (.ref tk) :: (.int v52) :: (.int v53) :: (.int v54) :: (.ref hd) :: (.ref ak) :: (.ref ho) :: (.ref ot) :: [])) ∧ va_P (dC, dI) vwCl (va_pl L G) H ∧ va_D A (va_pl L G) ∧ OKm cs ty gm L G ∧ FR ty [ρ] F G := ⟨_, rfl, hP, hD, hO.up (shm.mod hT_h0 ⟨zo, ze, v11, v12, v14, v15, v17, v18, v19, v20, v21, x_159, v33, v52, v53, v54, rfl, (by first | omega | assumption | exact Or.inl rfl | exact Or.inr rfl), (by first | omega | assumption | exact Or.inl rfl | exact Or.inr rfl), (by first | omega | assumption | exact Or.inl rfl | exact Or.inr rfl), (by first | omega | assumption | exact Or.inl rfl | exact Or.inr rfl)⟩), hR.up hT_h0 (by simp)⟩
              have hF_162 : F_160 h0 = .inr (15, (.ref ta) :: (.int (nI zt)) :: (.int (nI zo)) :: (.int (nI ze)) :: (.ref ou) :: (.ref so) :: (.ref ad) :: (.ref na) :: (.ref va) :: (.ref lc) :: (.ref dm) :: (.int v11) :: (.int v12) :: (.ref tg) :: (.int v14) :: (.int v15) :: (.ref pe) :: (.int v17) :: (.int v18) :: (.int v19) :: (.int v20) :: (.int v21) :: (.int x_159) :: (.ref ml) :: (.ref bg) :: (.ref co) :: (.ref sp) :: (.ref nb0) :: (.ref nb1) :: (.ref nb2) :: (.int (nI nf)) :: (.int (nI bd)) :: (.int (nI mm)) :: (.int v33) :: (.ref pl) :: (.ref se) :: (.ref ke) :: (.ref wi) :: (.ref hs) :: (.ref mo) :: (.ref po) :: (.ref nu) :: (.ref pr) :: (.ref sq) :: (.ref xa) :: (.ref sa) :: (.ref n64) :: (.ref m64) :: (.ref ex) :: (.ref wh) :: (.ref sd) :: (.ref tk) :: (.int v52) :: (.int v53) :: (.int v54) :: (.ref hd) :: (.ref ak) :: (.ref ho) :: (.ref ot) :: []) := by rw [he_161]; exact up_self
              have hF_163 : F_160 g1 = .inl (cs 17, 700, .inl fv) := by rw [he_161, up_ne (ne_ty hT_g1 hT_h0 (by simp))]; exact hF_114
              obtain ⟨x_164, ex_164⟩ : ∃ y : Int32, y = w4 + Int32.ofInt 1 := ⟨_, rfl⟩
              refine lv_iinc (v := x_164) (lv' := [(4, .int x_164), (7, .int (nI j)), (6, .int w6), (5, .int w5), (0, .ref h0), (1, .ref g1), (2, .int (nI a)), (3, .int (nI tt))]) hx hb dX15_isQuad_109 hl (k := 3) rfl (ex_164.symm) (by decide) rfl (fun ls hl => ?_)
              refine lv_iconst (v := 0) hx hb dX15_isQuad_112 (by decide) ?_
              refine lv_istore (lv' := [(5, .int 0), (4, .int x_164), (7, .int (nI j)), (6, .int w6), (0, .ref h0), (1, .ref g1), (2, .int (nI a)), (3, .int (nI tt))]) hx hb dX15_isQuad_113 hl (by decide) rfl (fun ls hl => ?_)
              refine lv_iconst (v := 0) hx hb dX15_isQuad_115 (by decide) ?_
              refine lv_istore (lv' := [(6, .int 0), (5, .int 0), (4, .int x_164), (7, .int (nI j)), (0, .ref h0), (1, .ref g1), (2, .int (nI a)), (3, .int (nI tt))]) hx hb dX15_isQuad_116 hl (by decide) rfl (fun ls hl => ?_)
              refine lv_iinc (v := (nI (j + 1))) (lv' := [(7, .int (nI (j + 1))), (6, .int 0), (5, .int 0), (4, .int x_164), (0, .ref h0), (1, .ref g1), (2, .int (nI a)), (3, .int (nI tt))]) hx hb dX15_isQuad_118 hl (k := 3) rfl (nI_1 _) (by decide) rfl (fun ls hl => ?_)
              refine lv_goto (tgt := 17) hx hb dX15_isQuad_121 (by decide) ?_
              refine W.widen (k := 0) (n := 0) (by omega) (by omega) ?_
              exact ih_113 ((j + 1), x_164, 0, 0, x_159) F_160 (⟨by omega, hF_162⟩) (by show 20001 - (j + 1) < 20001 - j; omega) hO hR _ _ hP hD hS ls (lv_sub hl [0, 1, 2, 3, 4, 5, 6, 7] rfl)
            ·
              refine lv_iconst (v := 0) hx hb dX15_isQuad_93 (by decide) ?_
              refine W.widen (k := 0) (n := 0) (by omega) (by omega) ?_
              exact W.zret (v := 0) (ty := .boolean) hx hb hr (by decide) (fun t ht hWm => ⟨⟨0, (), rfl, (by first | exact Or.inl rfl | exact Or.inr rfl), ⟨F_110, q22, QTm.mk ht hP hD hO hR, hv2⟩⟩, hS.F ht⟩) hS.2.2 dX15_isQuad_94
        ·
          have hi_165 : j < tt := ltN (N := tt) c_154
          refine lv_aload_n hx hb dX15_isQuad_71 rfl (lv_at hl 5 rfl) ?_
          refine lv_iload hx hb dX15_isQuad_72 (lv_at hl 0 rfl) ?_
          refine pg_bald hx hb hK hP hL_g1 1 hF_114 rfl (vp_in_nI (by omega) (by omega)) dX15_isQuad_74 ?_
          refine lv_topi (fun x_166 ex_166 => ?_)
          obtain rfl : x_166 = fv j := ex_166.trans (congrArg fv (show ((nI j) : Int32).toNatClampNeg = j from nI_clamp (by omega)))
          refine lv_bipush (v := 46) hx hb dX15_isQuad_75 (by decide) ?_
          refine lv_icmp_ne (tgt := 93) hx hb dX15_isQuad_77 (by decide) (fun c_167 => ?_) (fun c_167 => ?_)
          ·
            refine lv_iconst (v := 0) hx hb dX15_isQuad_93 (by decide) ?_
            refine W.widen (k := 0) (n := 0) (by omega) (by omega) ?_
            exact W.zret (v := 0) (ty := .boolean) hx hb hr (by decide) (fun t ht hWm => ⟨⟨0, (), rfl, (by first | exact Or.inl rfl | exact Or.inr rfl), ⟨F_110, q22, QTm.mk ht hP hD hO hR, hv2⟩⟩, hS.F ht⟩) hS.2.2 dX15_isQuad_94
          ·
            refine lv_iload hx hb dX15_isQuad_80 (lv_at hl 2 rfl) ?_
            refine lv_if_eq (tgt := 93) hx hb dX15_isQuad_82 (by decide) (fun c_168 => ?_) (fun c_168 => ?_)
            ·
              refine lv_iconst (v := 0) hx hb dX15_isQuad_93 (by decide) ?_
              refine W.widen (k := 0) (n := 0) (by omega) (by omega) ?_
              exact W.zret (v := 0) (ty := .boolean) hx hb hr (by decide) (fun t ht hWm => ⟨⟨0, (), rfl, (by first | exact Or.inl rfl | exact Or.inr rfl), ⟨F_110, q22, QTm.mk ht hP hD hO hR, hv2⟩⟩, hS.F ht⟩) hS.2.2 dX15_isQuad_94
            ·
              refine lv_iload hx hb dX15_isQuad_85 (lv_at hl 1 rfl) ?_
              refine lv_sipush (v := 255) hx hb dX15_isQuad_87 (by decide) ?_
              refine lv_icmp_le (tgt := 95) hx hb dX15_isQuad_90 (by decide) (fun c_169 => ?_) (fun c_169 => ?_)
              ·
                refine lv_aload_n hx hb dX15_isQuad_95 rfl (lv_at hl 4 rfl) ?_
                refine lv_aload_n hx hb dX15_isQuad_96 rfl (lv_at hl 4 rfl) ?_
                refine pg_get (ci := 15) (v := .int q22) (C := RX15) (T := TX15) (N := 59) hx hb hts it_15 hown hK hP hL_h0 hv2 rfl 22 (by decide) (hts _ kt_745) (fun _ h9 => h9) rfl dX15_isQuad_97 ?_
                refine lv_bipush (v := 8) hx hb dX15_isQuad_100 (by decide) ?_
                refine lv_ishl hx hb dX15_isQuad_102 ?_
                refine lv_topi (fun x_170 _ => ?_)
                refine lv_iload hx hb dX15_isQuad_103 (lv_at hl 1 rfl) ?_
                refine lv_ior hx hb dX15_isQuad_105 ?_
                refine lv_topi (fun x_171 _ => ?_)
                refine pg_put (ci := 15) (v := .int x_171) (ty := .int) (C := RX15) (T := TX15) (N := 59) hx hb hts it_15 tyX15 tyX15_ok nmX15 hown hK hP hD hS hL_h0 hv2 rfl 22 (by decide) (hts _ kt_745) (fun _ h9 => h9) rfl (by decide +kernel) (rfl) (rfl) (Nat.le_of_ble_eq_true rfl) dX15_isQuad_106 (fun H locs hP hD hS => ?_)
                obtain ⟨F_172, he_173, hP, hD, hO, hR⟩ : ∃ G, G = va_up F_110 h0 (.inr (15, (.ref ta) :: (.int (nI zt)) :: (.int (nI zo)) :: (.int (nI ze)) :: (.ref ou) :: (.ref so) :: (.ref ad) :: (.ref na) :: (.ref va) :: (.ref lc) :: (.ref dm) :: (.int v11) :: (.int v12) :: (.ref tg) :: (.int v14) :: (.int v15) :: (.ref pe) :: (.int v17) :: (.int v18) :: (.int v19) :: (.int v20) :: (.int v21) :: (.int x_171) :: (.ref ml) :: (.ref bg) :: (.ref co) :: (.ref sp) :: (.ref nb0) :: (.ref nb1) :: (.ref nb2) :: (.int (nI nf)) :: (.int (nI bd)) :: (.int (nI mm)) :: (.int v33) :: (.ref pl) :: (.ref se) :: (.ref ke) :: (.ref wi) :: (.ref hs) :: (.ref mo) :: (.ref po) :: (.ref nu) :: (.ref pr) :: (.ref sq) :: (.ref xa) :: (.ref sa) :: (.ref n64) :: (.ref m64) :: (.ref ex) :: (.ref wh) :: (.ref sd) :: (.ref tk) :: (.int v52) :: (.int v53) :: (.int v54) :: (.ref hd) :: (.ref ak) :: (.ref ho) :: (.ref ot) :: [])) ∧ va_P (dC, dI) vwCl (va_pl L G) H ∧ va_D A (va_pl L G) ∧ OKm cs ty gm L G ∧ FR ty [ρ] F G := ⟨_, rfl, hP, hD, hO.up (shm.mod hT_h0 ⟨zo, ze, v11, v12, v14, v15, v17, v18, v19, v20, v21, x_171, v33, v52, v53, v54, rfl, (by first | omega | assumption | exact Or.inl rfl | exact Or.inr rfl), (by first | omega | assumption | exact Or.inl rfl | exact Or.inr rfl), (by first | omega | assumption | exact Or.inl rfl | exact Or.inr rfl), (by first | omega | assumption | exact Or.inl rfl | exact Or.inr rfl)⟩), hR.up hT_h0 (by simp)⟩
                have hF_174 : F_172 h0 = .inr (15, (.ref ta) :: (.int (nI zt)) :: (.int (nI zo)) :: (.int (nI ze)) :: (.ref ou) :: (.ref so) :: (.ref ad) :: (.ref na) :: (.ref va) :: (.ref lc) :: (.ref dm) :: (.int v11) :: (.int v12) :: (.ref tg) :: (.int v14) :: (.int v15) :: (.ref pe) :: (.int v17) :: (.int v18) :: (.int v19) :: (.int v20) :: (.int v21) :: (.int x_171) :: (.ref ml) :: (.ref bg) :: (.ref co) :: (.ref sp) :: (.ref nb0) :: (.ref nb1) :: (.ref nb2) :: (.int (nI nf)) :: (.int (nI bd)) :: (.int (nI mm)) :: (.int v33) :: (.ref pl) :: (.ref se) :: (.ref ke) :: (.ref wi) :: (.ref hs) :: (.ref mo) :: (.ref po) :: (.ref nu) :: (.ref pr) :: (.ref sq) :: (.ref xa) :: (.ref sa) :: (.ref n64) :: (.ref m64) :: (.ref ex) :: (.ref wh) :: (.ref sd) :: (.ref tk) :: (.int v52) :: (.int v53) :: (.int v54) :: (.ref hd) :: (.ref ak) :: (.ref ho) :: (.ref ot) :: []) := by rw [he_173]; exact up_self
                have hF_175 : F_172 g1 = .inl (cs 17, 700, .inl fv) := by rw [he_173, up_ne (ne_ty hT_g1 hT_h0 (by simp))]; exact hF_114
                obtain ⟨x_176, ex_176⟩ : ∃ y : Int32, y = w4 + Int32.ofInt 1 := ⟨_, rfl⟩
                refine lv_iinc (v := x_176) (lv' := [(4, .int x_176), (7, .int (nI j)), (6, .int w6), (5, .int w5), (0, .ref h0), (1, .ref g1), (2, .int (nI a)), (3, .int (nI tt))]) hx hb dX15_isQuad_109 hl (k := 3) rfl (ex_176.symm) (by decide) rfl (fun ls hl => ?_)
                refine lv_iconst (v := 0) hx hb dX15_isQuad_112 (by decide) ?_
                refine lv_istore (lv' := [(5, .int 0), (4, .int x_176), (7, .int (nI j)), (6, .int w6), (0, .ref h0), (1, .ref g1), (2, .int (nI a)), (3, .int (nI tt))]) hx hb dX15_isQuad_113 hl (by decide) rfl (fun ls hl => ?_)
                refine lv_iconst (v := 0) hx hb dX15_isQuad_115 (by decide) ?_
                refine lv_istore (lv' := [(6, .int 0), (5, .int 0), (4, .int x_176), (7, .int (nI j)), (0, .ref h0), (1, .ref g1), (2, .int (nI a)), (3, .int (nI tt))]) hx hb dX15_isQuad_116 hl (by decide) rfl (fun ls hl => ?_)
                refine lv_iinc (v := (nI (j + 1))) (lv' := [(7, .int (nI (j + 1))), (6, .int 0), (5, .int 0), (4, .int x_176), (0, .ref h0), (1, .ref g1), (2, .int (nI a)), (3, .int (nI tt))]) hx hb dX15_isQuad_118 hl (k := 3) rfl (nI_1 _) (by decide) rfl (fun ls hl => ?_)
                refine lv_goto (tgt := 17) hx hb dX15_isQuad_121 (by decide) ?_
                refine W.widen (k := 0) (n := 0) (by omega) (by omega) ?_
                exact ih_113 ((j + 1), x_176, 0, 0, x_171) F_172 (⟨by omega, hF_174⟩) (by show 20001 - (j + 1) < 20001 - j; omega) hO hR _ _ hP hD hS ls (lv_sub hl [0, 1, 2, 3, 4, 5, 6, 7] rfl)
              ·
                refine lv_iconst (v := 0) hx hb dX15_isQuad_93 (by decide) ?_
                refine W.widen (k := 0) (n := 0) (by omega) (by omega) ?_
                exact W.zret (v := 0) (ty := .boolean) hx hb hr (by decide) (fun t ht hWm => ⟨⟨0, (), rfl, (by first | exact Or.inl rfl | exact Or.inr rfl), ⟨F_110, q22, QTm.mk ht hP hD hO hR, hv2⟩⟩, hS.F ht⟩) hS.2.2 dX15_isQuad_94
      ·
        refine lv_bipush (v := 10) hx hb dX15_isQuad_39 (by decide) ?_
        refine lv_iload hx hb dX15_isQuad_41 (lv_at hl 1 rfl) ?_
        refine lv_imul hx hb dX15_isQuad_43 ?_
        refine lv_topi (fun x_177 _ => ?_)
        refine lv_aload_n hx hb dX15_isQuad_44 rfl (lv_at hl 5 rfl) ?_
        refine lv_iload hx hb dX15_isQuad_45 (lv_at hl 0 rfl) ?_
        refine pg_bald hx hb hK hP hL_g1 1 hF_114 rfl (vp_in_nI (by omega) (by omega)) dX15_isQuad_47 ?_
        refine lv_topi (fun x_178 ex_178 => ?_)
        obtain rfl : x_178 = fv j := ex_178.trans (congrArg fv (show ((nI j) : Int32).toNatClampNeg = j from nI_clamp (by omega)))
        refine lv_iadd hx hb dX15_isQuad_48 ?_
        refine lv_topi (fun x_179 _ => ?_)
        refine lv_bipush (v := 48) hx hb dX15_isQuad_49 (by decide) ?_
        refine lv_isub hx hb dX15_isQuad_51 ?_
        refine lv_topi (fun x_180 ex_180 => ?_)
        obtain rfl : x_180 = (x_179 - 48) := ex_180.trans (rfl)
        refine lv_istore (lv' := [(6, .int (x_179 - 48)), (7, .int (nI j)), (5, .int w5), (4, .int w4), (0, .ref h0), (1, .ref g1), (2, .int (nI a)), (3, .int (nI tt))]) hx hb dX15_isQuad_52 hl (by decide) rfl (fun ls hl => ?_)
        obtain ⟨x_181, ex_181⟩ : ∃ y : Int32, y = w5 + Int32.ofInt 1 := ⟨_, rfl⟩
        refine lv_iinc (v := x_181) (lv' := [(5, .int x_181), (6, .int (x_179 - 48)), (7, .int (nI j)), (4, .int w4), (0, .ref h0), (1, .ref g1), (2, .int (nI a)), (3, .int (nI tt))]) hx hb dX15_isQuad_54 hl (k := 2) rfl (ex_181.symm) (by decide) rfl (fun ls hl => ?_)
        refine lv_iload hx hb dX15_isQuad_57 (lv_at hl 0 rfl) ?_
        refine lv_iconst (v := 3) hx hb dX15_isQuad_59 (by decide) ?_
        refine lv_icmp_le (tgt := 118) hx hb dX15_isQuad_60 (by decide) (fun c_182 => ?_) (fun c_182 => ?_)
        ·
          refine lv_iinc (v := (nI (j + 1))) (lv' := [(7, .int (nI (j + 1))), (5, .int x_181), (6, .int (x_179 - 48)), (4, .int w4), (0, .ref h0), (1, .ref g1), (2, .int (nI a)), (3, .int (nI tt))]) hx hb dX15_isQuad_118 hl (k := 2) rfl (nI_1 _) (by decide) rfl (fun ls hl => ?_)
          refine lv_goto (tgt := 17) hx hb dX15_isQuad_121 (by decide) ?_
          refine W.widen (k := 0) (n := 0) (by omega) (by omega) ?_
          exact ih_113 ((j + 1), w4, x_181, (x_179 - 48), q22) F_110 (⟨by omega, hv2⟩) (by show 20001 - (j + 1) < 20001 - j; omega) hO hR _ _ hP hD hS ls (lv_sub hl [0, 2, 1, 3, 4, 5, 6, 7] rfl)
        ·
          refine lv_iconst (v := 0) hx hb dX15_isQuad_63 (by decide) ?_
          refine W.widen (k := 0) (n := 0) (by omega) (by omega) ?_
          exact W.zret (v := 0) (ty := .boolean) hx hb hr (by decide) (fun t ht hWm => ⟨⟨0, (), rfl, (by first | exact Or.inl rfl | exact Or.inr rfl), ⟨F_110, q22, QTm.mk ht hP hD hO hR, hv2⟩⟩, hS.F ht⟩) hS.2.2 dX15_isQuad_64
set_option maxHeartbeats 4000000 in
set_option maxRecDepth 100000 in
theorem s_X15_readHost (l : Launch) (dC : Nat → ClassId) (dI : Nat → Nat → Nat) (cs : Nat → ClassId) (ty : TyM) (gm : Nat → Nat → Nat) (L : List Nat) (sz : Nat) (F : Nat → va_E) (h0 : Nat) (ρ : Nat) (ta : Nat) (ou : Nat) (so : Nat) (ad : Nat) (na : Nat) (va : Nat) (lc : Nat) (dm : Nat) (tg : Nat) (pe : Nat) (ml : Nat) (bg : Nat) (co : Nat) (sp : Nat) (nb0 : Nat) (nb1 : Nat) (nb2 : Nat) (pl : Nat) (se : Nat) (ke : Nat) (wi : Nat) (hs : Nat) (mo : Nat) (po : Nat) (nu : Nat) (pr : Nat) (sq : Nat) (xa : Nat) (sa : Nat) (n64 : Nat) (m64 : Nat) (ex : Nat) (wh : Nat) (sd : Nat) (tk : Nat) (hd : Nat) (ak : Nat) (ho : Nat) (ot : Nat) (sx : Nat) (s0 : Nat) (s1 : Nat) (s2 : Nat) (nf : Nat) (bd : Nat) (mm : Nat) (zt : Nat) (zo : Nat) (ze : Nat) (v11 : Int32) (v12 : Int32) (v14 : Int32) (v15 : Int32) (v17 : Int32) (v18 : Int32) (v19 : Int32) (v20 : Int32) (v21 : Int32) (v22 : Int32) (v33 : Int32) (v52 : Int32) (v53 : Int32) (v54 : Int32) (g1 : Nat) (fv : Nat → Int32) (a : Nat) (tt : Nat) (x4 : Int32) (hW : WTm ty gm L) (hL_h0 : h0 ∈ L) (hT_h0 : ty h0 = (15, ρ, [ta, ou, so, ad, na, va, lc, dm, tg, pe, ml, bg, co, sp, nb0, nb1, nb2, pl, se, ke, wi, hs, mo, po, nu, pr, sq, xa, sa, n64, m64, ex, wh, sd, tk, hd, ak, ho, ot, sx, s0, s1, s2, nf, bd, mm, zt])) (hL_g1 : g1 ∈ L) (hT_g1 : ty g1 = (17, ρ + 31, [700])) (hF0 : F h0 = .inr (15, (.ref ta) :: (.int (nI zt)) :: (.int (nI zo)) :: (.int (nI ze)) :: (.ref ou) :: (.ref so) :: (.ref ad) :: (.ref na) :: (.ref va) :: (.ref lc) :: (.ref dm) :: (.int v11) :: (.int v12) :: (.ref tg) :: (.int v14) :: (.int v15) :: (.ref pe) :: (.int v17) :: (.int v18) :: (.int v19) :: (.int v20) :: (.int v21) :: (.int v22) :: (.ref ml) :: (.ref bg) :: (.ref co) :: (.ref sp) :: (.ref nb0) :: (.ref nb1) :: (.ref nb2) :: (.int (nI nf)) :: (.int (nI bd)) :: (.int (nI mm)) :: (.int v33) :: (.ref pl) :: (.ref se) :: (.ref ke) :: (.ref wi) :: (.ref hs) :: (.ref mo) :: (.ref po) :: (.ref nu) :: (.ref pr) :: (.ref sq) :: (.ref xa) :: (.ref sa) :: (.ref n64) :: (.ref m64) :: (.ref ex) :: (.ref wh) :: (.ref sd) :: (.ref tk) :: (.int v52) :: (.int v53) :: (.int v54) :: (.ref hd) :: (.ref ak) :: (.ref ho) :: (.ref ot) :: [])) (hzo : zo ≤ 6000) (hze : ze ≤ 40) (h33 : (v33 = 0 ∨ 1 ≤ nf)) (h54 : (v54 = 0 ∨ v54 = 1)) (hFg : F g1 = .inl (cs 17, 700, .inl fv)) (htn : tt ≤ 700) (ha : a ≤ tt) (hm1 : v19 = (-1)) : Met l yX15_readHost (.code yX15_readHost cX15_readHost 6 none :: tb) ({ frames := 2, cells := 0, slots := 0, locals := 50 }) (va_Pc [.ref h0, .ref g1, .int (nI a), .int (nI tt), .int x4] (PTm (dC, dI) cs ty gm L F sz)) (va_Qv (fun _ : Unit => True) (fun _ T9 => ∃ F2 : Nat → va_E, ∃ u17 : Int32, ∃ u19 : Int32, ∃ u20 : Int32, ∃ u21 : Int32, QTm (dC, dI) cs ty gm L [ρ] F F2 (va_A (va_pl L F) sz) T9 ∧ F2 h0 = .inr (15, (.ref ta) :: (.int (nI zt)) :: (.int (nI zo)) :: (.int (nI ze)) :: (.ref ou) :: (.ref so) :: (.ref ad) :: (.ref na) :: (.ref va) :: (.ref lc) :: (.ref dm) :: (.int v11) :: (.int v12) :: (.ref tg) :: (.int v14) :: (.int v15) :: (.ref pe) :: (.int u17) :: (.int v18) :: (.int u19) :: (.int u20) :: (.int u21) :: (.int v22) :: (.ref ml) :: (.ref bg) :: (.ref co) :: (.ref sp) :: (.ref nb0) :: (.ref nb1) :: (.ref nb2) :: (.int (nI nf)) :: (.int (nI bd)) :: (.int (nI mm)) :: (.int v33) :: (.ref pl) :: (.ref se) :: (.ref ke) :: (.ref wi) :: (.ref hs) :: (.ref mo) :: (.ref po) :: (.ref nu) :: (.ref pr) :: (.ref sq) :: (.ref xa) :: (.ref sa) :: (.ref n64) :: (.ref m64) :: (.ref ex) :: (.ref wh) :: (.ref sd) :: (.ref tk) :: (.int v52) :: (.int v53) :: (.int v54) :: (.ref hd) :: (.ref ak) :: (.ref ho) :: (.ref ot) :: []) ∧ (u17 = v17 ∨ (u17 = x4 ∧ DOK fv tt u19 u20))) (va_A (va_pl L F) sz)) 0 0 (va_A (va_pl L F) sz) := by
  refine Met.ofW (cc := cX15_readHost) (maxL := 6) (ret := none) (by decide) rfl ?_
  intro p e s m args below meth c s₁ B hml hv
  obtain ⟨rfl, hsz, hP, hK, hD0, hE, hO⟩ := hv
  have hx := B.exec
  have hb := B.bytes
  have hr := B.returns
  have hts : ∀ w ∈ tb, w.before _ s = true := fun w h => atoms_spec (ws := .code yX15_readHost cX15_readHost 6 none :: tb) B.pre w (List.mem_cons_of_mem _ h)
  have hown : s.vm.findClass RX15 = some m.cls := findClass_of_methodNamed B.named
  have hlocks := B.notSynchronized
  subst hsz
  have hD := hD0.self (sz := s.heap.size)
  generalize hAe : va_A (va_pl L F) s.heap.size = A at hD ⊢
  have hA : ∀ q : Nat, s.heap.size ≤ q → A q := fun q h => by rw [← hAe]; exact Or.inr h
  have hS : va_S A s.heap s.heap [] := va_S.rf
  have hR : FR ty [ρ] F F := FR.refl
  have hl := lv_entry ([.ref h0, .ref g1, .int (nI a), .int (nI tt), .int x4]) (n := 6) (Nat.le_of_ble_eq_true rfl)
  rw [lg_entry_eq]
  generalize (lg_sl ([.ref h0, .ref g1, .int (nI a), .int (nI tt), .int x4]) ++ List.replicate (6 - (lg_sl ([.ref h0, .ref g1, .int (nI a), .int (nI tt), .int x4])).length) Slot.unset).toArray = ls at hl ⊢
  have hl : lv_has ls 6 [(0, .ref h0), (1, .ref g1), (2, .int (nI a)), (3, .int (nI tt)), (4, .int x4)] := hl
  refine lv_aload_n hx hb dX15_readHost_0 rfl (lv_at hl 1 rfl) ?_
  refine lv_iload_n hx hb dX15_readHost_1 rfl (lv_at hl 2 rfl) ?_
  refine lv_iload_n hx hb dX15_readHost_2 rfl (lv_at hl 3 rfl) ?_
  obtain ⟨hq_1, hq_2⟩ := hW.octs hL_g1 hT_g1
  have hFc := pg_free hD hS hA
  refine va_calli (va_runS (As := [.ref g1, .int (nI a), .int (nI tt)]) (rest := []) ⟨hx, hb, hml, hown, hts⟩ (s_X15_slashOf l dC dI cs ty gm L s.heap.size F g1 (ρ + 31) 700 a tt hW hL_g1 hT_g1 (by first | omega | assumption) (by first | omega | assumption)) ⟨callB_of 3 hts (gi kt_746) rfl rfl rfl (hts _ kt_669) (hts _ kt_747) (by decide +kernel) ⟨Nat.le_of_ble_eq_true rfl, Nat.le_of_ble_eq_true rfl⟩, (hts _ kt_748)⟩ ⟨fun a U g mk q => ⟨q.1, PTm.calling q.2⟩, fun U hU hWm => ⟨rfl, PTm.mk hU hWm hP hK hD hE hO⟩⟩ rfl rfl hl.1 rfl (lv_room (Nat.le_of_ble_eq_true rfl)) dX15_readHost_3 ⟨by show _ + 0 ≤ 0; omega, by show _ + 0 ≤ 0; omega⟩) hS (fun q _ h => hFc q h) hFc (fun r_3 u t H1 locs ht hvm hw hB hz1 hk1 hS => ?_)
  obtain ⟨F_4, hB1⟩ := hB
  obtain rfl : F = F_4 := (funext (fun a => hB1.2.2.2 a List.not_mem_nil)).symm
  obtain ⟨hP, hD, hO, hR⟩ := QTm.back hB1 ht hFc hR (fun q h => absurd h List.not_mem_nil)
  generalize H1 = H at hP hS ⊢
  have hw : (∃ k : Nat, a ≤ k ∧ k ≤ max a tt ∧ r_3 = nI k) := hw
  have hw_5 := hw
  obtain ⟨k_6, hk_6a, hk_6b, ek_6⟩ := hw_5
  subst ek_6
  refine lv_istore (lv' := [(5, .int (nI k_6)), (0, .ref h0), (1, .ref g1), (2, .int (nI a)), (3, .int (nI tt)), (4, .int x4)]) hx hb dX15_readHost_6 hl (by decide) rfl (fun ls hl => ?_)
  have hF_9 : F g1 = .inl (cs 17, 700, .inl fv) := (hR g1 (by rw [hT_g1]; simp)).symm.trans hFg
  refine W.widen (k := 0) (n := 0) (by omega) (by omega) ?_
  refine pl_cutm (σ := Int32) A (dC, dI) cs ty gm L [ρ] F 27 6 (fun q21 => [(5, .int (nI k_6)), (0, .ref h0), (1, .ref g1), (2, .int (nI a)), (3, .int (nI tt)), (4, .int x4)]) (fun q21 => []) (fun q21 FF => FF h0 = .inr (15, (.ref ta) :: (.int (nI zt)) :: (.int (nI zo)) :: (.int (nI ze)) :: (.ref ou) :: (.ref so) :: (.ref ad) :: (.ref na) :: (.ref va) :: (.ref lc) :: (.ref dm) :: (.int v11) :: (.int v12) :: (.ref tg) :: (.int v14) :: (.int v15) :: (.ref pe) :: (.int v17) :: (.int v18) :: (.int v19) :: (.int v20) :: (.int q21) :: (.int v22) :: (.ref ml) :: (.ref bg) :: (.ref co) :: (.ref sp) :: (.ref nb0) :: (.ref nb1) :: (.ref nb2) :: (.int (nI nf)) :: (.int (nI bd)) :: (.int (nI mm)) :: (.int v33) :: (.ref pl) :: (.ref se) :: (.ref ke) :: (.ref wi) :: (.ref hs) :: (.ref mo) :: (.ref po) :: (.ref nu) :: (.ref pr) :: (.ref sq) :: (.ref xa) :: (.ref sa) :: (.ref n64) :: (.ref m64) :: (.ref ex) :: (.ref wh) :: (.ref sd) :: (.ref tk) :: (.int v52) :: (.int v53) :: (.int v54) :: (.ref hd) :: (.ref ak) :: (.ref ho) :: (.ref ot) :: [])) ?_ (fun jn_7 => ?_)
  ·
    rintro q21 F_8 hv_10 hO hR H locs hP hD hS ls hl
    have hl : lv_has ls 6 [(5, .int (nI k_6)), (0, .ref h0), (1, .ref g1), (2, .int (nI a)), (3, .int (nI tt)), (4, .int x4)] := hl
    have hv_10 : F_8 h0 = .inr (15, (.ref ta) :: (.int (nI zt)) :: (.int (nI zo)) :: (.int (nI ze)) :: (.ref ou) :: (.ref so) :: (.ref ad) :: (.ref na) :: (.ref va) :: (.ref lc) :: (.ref dm) :: (.int v11) :: (.int v12) :: (.ref tg) :: (.int v14) :: (.int v15) :: (.ref pe) :: (.int v17) :: (.int v18) :: (.int v19) :: (.int v20) :: (.int q21) :: (.int v22) :: (.ref ml) :: (.ref bg) :: (.ref co) :: (.ref sp) :: (.ref nb0) :: (.ref nb1) :: (.ref nb2) :: (.int (nI nf)) :: (.int (nI bd)) :: (.int (nI mm)) :: (.int v33) :: (.ref pl) :: (.ref se) :: (.ref ke) :: (.ref wi) :: (.ref hs) :: (.ref mo) :: (.ref po) :: (.ref nu) :: (.ref pr) :: (.ref sq) :: (.ref xa) :: (.ref sa) :: (.ref n64) :: (.ref m64) :: (.ref ex) :: (.ref wh) :: (.ref sd) :: (.ref tk) :: (.int v52) :: (.int v53) :: (.int v54) :: (.ref hd) :: (.ref ak) :: (.ref ho) :: (.ref ot) :: []) := hv_10
    refine W.eq (g2 := F0 m 27 ls []) rfl ?_
    have hF_11 : F_8 g1 = .inl (cs 17, 700, .inl fv) := (hR g1 (by rw [hT_g1]; simp)).trans hF_9
    refine lv_aload_n hx hb dX15_readHost_27 rfl (lv_at hl 1 rfl) ?_
    obtain ⟨hi_12, ht_13, hi_14, ht_15, hi_16, ht_17, hi_18, ht_19, hi_20, ht_21, hi_22, ht_23, hi_24, ⟨r_25, ht_26⟩, hi_27, ⟨r_28, ht_29⟩, hi_30, ht_31, hi_32, ⟨r_33, ht_34⟩, hi_35, ht_36, hi_37, ht_38, hi_39, ht_40, hi_41, ht_42, hi_43, ht_44, hi_45, ht_46, hi_47, ht_48, hi_49, ⟨r_50, ht_51⟩, hi_52, ht_53, hi_54, ⟨x_55, y0_56, y1_57, y2_58, ht_59⟩, hi_60, ⟨x_61, y0_62, y1_63, y2_64, ht_65⟩, hi_66, ⟨x_67, y_68, w_69, u_70, bl_71, ht_72⟩, hi_73, ht_74, hi_75, ht_76, hi_77, ht_78, hi_79, ht_80, hi_81, ht_82, hi_83, ht_84, hi_85, ht_86, hi_87, ht_88, hi_89, ht_90, hi_91, ht_92, hi_93, ⟨r_94, ht_95⟩, hi_96, ⟨r_97, ht_98⟩, hi_99, ht_100, hi_101, ht_102, hi_103, ⟨r_104, ht_105⟩, hi_106, ⟨r_107, ht_108⟩, hi_109, ⟨r_110, ht_111⟩, hq_112, hq_113, hq_114, hq_115, hq_116, hgO, hgA, hgB⟩ := hW.mod hL_h0 hT_h0
    refine pg_get (ci := 15) (v := .int q21) (C := RX15) (T := TX15) (N := 59) hx hb hts it_15 hown hK hP hL_h0 hv_10 rfl 21 (by decide) (hts _ kt_749) (fun _ h9 => h9) rfl dX15_readHost_28 ?_
    refine lv_if_ge (tgt := 35) hx hb dX15_readHost_31 (by decide) (fun c_117 => ?_) (fun c_117 => ?_)
    ·
      refine lv_iload hx hb dX15_readHost_35 (lv_at hl 0 rfl) ?_
      refine lv_iload_n hx hb dX15_readHost_37 rfl (lv_at hl 3 rfl) ?_
      refine lv_icmp_le (tgt := 79) hx hb dX15_readHost_38 (by decide) (fun c_118 => ?_) (fun c_118 => ?_)
      ·
        have hi_119 : k_6 ≤ a := (nI_leI (a := k_6) (b := a) (by omega) (by omega)).mp c_118
        refine lv_aload_n hx hb dX15_readHost_79 rfl (lv_at hl 1 rfl) ?_
        refine lv_iload hx hb dX15_readHost_80 (lv_at hl 5 rfl) ?_
        refine pg_put (ci := 15) (v := .int x4) (ty := .int) (C := RX15) (T := TX15) (N := 59) hx hb hts it_15 tyX15 tyX15_ok nmX15 hown hK hP hD hS hL_h0 hv_10 rfl 17 (by decide) (hts _ kt_750) (fun _ h9 => h9) rfl (by decide +kernel) (rfl) (rfl) (Nat.le_of_ble_eq_true rfl) dX15_readHost_82 (fun H locs hP hD hS => ?_)
        obtain ⟨F_120, he_121, hP, hD, hO, hR⟩ : ∃ G, G = va_up F_8 h0 (.inr (15, (.ref ta) :: (.int (nI zt)) :: (.int (nI zo)) :: (.int (nI ze)) :: (.ref ou) :: (.ref so) :: (.ref ad) :: (.ref na) :: (.ref va) :: (.ref lc) :: (.ref dm) :: (.int v11) :: (.int v12) :: (.ref tg) :: (.int v14) :: (.int v15) :: (.ref pe) :: (.int x4) :: (.int v18) :: (.int v19) :: (.int v20) :: (.int q21) :: (.int v22) :: (.ref ml) :: (.ref bg) :: (.ref co) :: (.ref sp) :: (.ref nb0) :: (.ref nb1) :: (.ref nb2) :: (.int (nI nf)) :: (.int (nI bd)) :: (.int (nI mm)) :: (.int v33) :: (.ref pl) :: (.ref se) :: (.ref ke) :: (.ref wi) :: (.ref hs) :: (.ref mo) :: (.ref po) :: (.ref nu) :: (.ref pr) :: (.ref sq) :: (.ref xa) :: (.ref sa) :: (.ref n64) :: (.ref m64) :: (.ref ex) :: (.ref wh) :: (.ref sd) :: (.ref tk) :: (.int v52) :: (.int v53) :: (.int v54) :: (.ref hd) :: (.ref ak) :: (.ref ho) :: (.ref ot) :: [])) ∧ va_P (dC, dI) vwCl (va_pl L G) H ∧ va_D A (va_pl L G) ∧ OKm cs ty gm L G ∧ FR ty [ρ] F G := ⟨_, rfl, hP, hD, hO.up (shm.mod hT_h0 ⟨zo, ze, v11, v12, v14, v15, x4, v18, v19, v20, q21, v22, v33, v52, v53, v54, rfl, (by first | omega | assumption | exact Or.inl rfl | exact Or.inr rfl), (by first | omega | assumption | exact Or.inl rfl | exact Or.inr rfl), (by first | omega | assumption | exact Or.inl rfl | exact Or.inr rfl), (by first | omega | assumption | exact Or.inl rfl | exact Or.inr rfl)⟩), hR.up hT_h0 (by simp)⟩
        have hF_122 : F_120 h0 = .inr (15, (.ref ta) :: (.int (nI zt)) :: (.int (nI zo)) :: (.int (nI ze)) :: (.ref ou) :: (.ref so) :: (.ref ad) :: (.ref na) :: (.ref va) :: (.ref lc) :: (.ref dm) :: (.int v11) :: (.int v12) :: (.ref tg) :: (.int v14) :: (.int v15) :: (.ref pe) :: (.int x4) :: (.int v18) :: (.int v19) :: (.int v20) :: (.int q21) :: (.int v22) :: (.ref ml) :: (.ref bg) :: (.ref co) :: (.ref sp) :: (.ref nb0) :: (.ref nb1) :: (.ref nb2) :: (.int (nI nf)) :: (.int (nI bd)) :: (.int (nI mm)) :: (.int v33) :: (.ref pl) :: (.ref se) :: (.ref ke) :: (.ref wi) :: (.ref hs) :: (.ref mo) :: (.ref po) :: (.ref nu) :: (.ref pr) :: (.ref sq) :: (.ref xa) :: (.ref sa) :: (.ref n64) :: (.ref m64) :: (.ref ex) :: (.ref wh) :: (.ref sd) :: (.ref tk) :: (.int v52) :: (.int v53) :: (.int v54) :: (.ref hd) :: (.ref ak) :: (.ref ho) :: (.ref ot) :: []) := by rw [he_121]; exact up_self
        have hF_123 : F_120 g1 = .inl (cs 17, 700, .inl fv) := by rw [he_121, up_ne (ne_ty hT_g1 hT_h0 (by simp))]; exact hF_11
        refine W.widen (k := 0) (n := 0) (by omega) (by omega) ?_
        exact W.vret hx hb hr (fun t ht hWm => ⟨⟨(), rfl, trivial, ⟨F_120, x4, v19, v20, q21, QTm.mk ht hP hD hO hR, hF_122, Or.inr ⟨rfl, Or.inl hm1⟩⟩⟩, hS.F ht⟩) hS.2.2 dX15_readHost_85
      ·
        have hi_124 : a < k_6 := Nat.not_le.mp (fun q => c_118 ((nI_leI (a := k_6) (b := a) (by omega) (by omega)).mpr q))
        refine lv_aload_n hx hb dX15_readHost_41 rfl (lv_at hl 1 rfl) ?_
        refine lv_iload_n hx hb dX15_readHost_42 rfl (lv_at hl 3 rfl) ?_
        refine lv_iconst (v := 1) hx hb dX15_readHost_43 (by decide) ?_
        refine lv_iadd hx hb dX15_readHost_44 ?_
        refine lv_topi (fun x_125 ex_125 => ?_)
        obtain rfl : x_125 = (nI (a + 1)) := ex_125.trans (nI_add a 1)
        refine pg_put (ci := 15) (v := .int (nI (a + 1))) (ty := .int) (C := RX15) (T := TX15) (N := 59) hx hb hts it_15 tyX15 tyX15_ok nmX15 hown hK hP hD hS hL_h0 hv_10 rfl 19 (by decide) (hts _ kt_751) (fun _ h9 => h9) rfl (by decide +kernel) (rfl) (rfl) (Nat.le_of_ble_eq_true rfl) dX15_readHost_45 (fun H locs hP hD hS => ?_)
        obtain ⟨F_126, he_127, hP, hD, hO, hR⟩ : ∃ G, G = va_up F_8 h0 (.inr (15, (.ref ta) :: (.int (nI zt)) :: (.int (nI zo)) :: (.int (nI ze)) :: (.ref ou) :: (.ref so) :: (.ref ad) :: (.ref na) :: (.ref va) :: (.ref lc) :: (.ref dm) :: (.int v11) :: (.int v12) :: (.ref tg) :: (.int v14) :: (.int v15) :: (.ref pe) :: (.int v17) :: (.int v18) :: (.int (nI (a + 1))) :: (.int v20) :: (.int q21) :: (.int v22) :: (.ref ml) :: (.ref bg) :: (.ref co) :: (.ref sp) :: (.ref nb0) :: (.ref nb1) :: (.ref nb2) :: (.int (nI nf)) :: (.int (nI bd)) :: (.int (nI mm)) :: (.int v33) :: (.ref pl) :: (.ref se) :: (.ref ke) :: (.ref wi) :: (.ref hs) :: (.ref mo) :: (.ref po) :: (.ref nu) :: (.ref pr) :: (.ref sq) :: (.ref xa) :: (.ref sa) :: (.ref n64) :: (.ref m64) :: (.ref ex) :: (.ref wh) :: (.ref sd) :: (.ref tk) :: (.int v52) :: (.int v53) :: (.int v54) :: (.ref hd) :: (.ref ak) :: (.ref ho) :: (.ref ot) :: [])) ∧ va_P (dC, dI) vwCl (va_pl L G) H ∧ va_D A (va_pl L G) ∧ OKm cs ty gm L G ∧ FR ty [ρ] F G := ⟨_, rfl, hP, hD, hO.up (shm.mod hT_h0 ⟨zo, ze, v11, v12, v14, v15, v17, v18, (nI (a + 1)), v20, q21, v22, v33, v52, v53, v54, rfl, (by first | omega | assumption | exact Or.inl rfl | exact Or.inr rfl), (by first | omega | assumption | exact Or.inl rfl | exact Or.inr rfl), (by first | omega | assumption | exact Or.inl rfl | exact Or.inr rfl), (by first | omega | assumption | exact Or.inl rfl | exact Or.inr rfl)⟩), hR.up hT_h0 (by simp)⟩
        have hF_128 : F_126 h0 = .inr (15, (.ref ta) :: (.int (nI zt)) :: (.int (nI zo)) :: (.int (nI ze)) :: (.ref ou) :: (.ref so) :: (.ref ad) :: (.ref na) :: (.ref va) :: (.ref lc) :: (.ref dm) :: (.int v11) :: (.int v12) :: (.ref tg) :: (.int v14) :: (.int v15) :: (.ref pe) :: (.int v17) :: (.int v18) :: (.int (nI (a + 1))) :: (.int v20) :: (.int q21) :: (.int v22) :: (.ref ml) :: (.ref bg) :: (.ref co) :: (.ref sp) :: (.ref nb0) :: (.ref nb1) :: (.ref nb2) :: (.int (nI nf)) :: (.int (nI bd)) :: (.int (nI mm)) :: (.int v33) :: (.ref pl) :: (.ref se) :: (.ref ke) :: (.ref wi) :: (.ref hs) :: (.ref mo) :: (.ref po) :: (.ref nu) :: (.ref pr) :: (.ref sq) :: (.ref xa) :: (.ref sa) :: (.ref n64) :: (.ref m64) :: (.ref ex) :: (.ref wh) :: (.ref sd) :: (.ref tk) :: (.int v52) :: (.int v53) :: (.int v54) :: (.ref hd) :: (.ref ak) :: (.ref ho) :: (.ref ot) :: []) := by rw [he_127]; exact up_self
        have hF_129 : F_126 g1 = .inl (cs 17, 700, .inl fv) := by rw [he_127, up_ne (ne_ty hT_g1 hT_h0 (by simp))]; exact hF_11
        refine lv_aload_n hx hb dX15_readHost_48 rfl (lv_at hl 1 rfl) ?_
        refine lv_iload hx hb dX15_readHost_49 (lv_at hl 0 rfl) ?_
        refine pg_put (ci := 15) (v := .int (nI k_6)) (ty := .int) (C := RX15) (T := TX15) (N := 59) hx hb hts it_15 tyX15 tyX15_ok nmX15 hown hK hP hD hS hL_h0 hF_128 rfl 20 (by decide) (hts _ kt_752) (fun _ h9 => h9) rfl (by decide +kernel) (rfl) (rfl) (Nat.le_of_ble_eq_true rfl) dX15_readHost_51 (fun H locs hP hD hS => ?_)
        obtain ⟨F_130, he_131, hP, hD, hO, hR⟩ : ∃ G, G = va_up F_126 h0 (.inr (15, (.ref ta) :: (.int (nI zt)) :: (.int (nI zo)) :: (.int (nI ze)) :: (.ref ou) :: (.ref so) :: (.ref ad) :: (.ref na) :: (.ref va) :: (.ref lc) :: (.ref dm) :: (.int v11) :: (.int v12) :: (.ref tg) :: (.int v14) :: (.int v15) :: (.ref pe) :: (.int v17) :: (.int v18) :: (.int (nI (a + 1))) :: (.int (nI k_6)) :: (.int q21) :: (.int v22) :: (.ref ml) :: (.ref bg) :: (.ref co) :: (.ref sp) :: (.ref nb0) :: (.ref nb1) :: (.ref nb2) :: (.int (nI nf)) :: (.int (nI bd)) :: (.int (nI mm)) :: (.int v33) :: (.ref pl) :: (.ref se) :: (.ref ke) :: (.ref wi) :: (.ref hs) :: (.ref mo) :: (.ref po) :: (.ref nu) :: (.ref pr) :: (.ref sq) :: (.ref xa) :: (.ref sa) :: (.ref n64) :: (.ref m64) :: (.ref ex) :: (.ref wh) :: (.ref sd) :: (.ref tk) :: (.int v52) :: (.int v53) :: (.int v54) :: (.ref hd) :: (.ref ak) :: (.ref ho) :: (.ref ot) :: [])) ∧ va_P (dC, dI) vwCl (va_pl L G) H ∧ va_D A (va_pl L G) ∧ OKm cs ty gm L G ∧ FR ty [ρ] F G := ⟨_, rfl, hP, hD, hO.up (shm.mod hT_h0 ⟨zo, ze, v11, v12, v14, v15, v17, v18, (nI (a + 1)), (nI k_6), q21, v22, v33, v52, v53, v54, rfl, (by first | omega | assumption | exact Or.inl rfl | exact Or.inr rfl), (by first | omega | assumption | exact Or.inl rfl | exact Or.inr rfl), (by first | omega | assumption | exact Or.inl rfl | exact Or.inr rfl), (by first | omega | assumption | exact Or.inl rfl | exact Or.inr rfl)⟩), hR.up hT_h0 (by simp)⟩
        have hF_132 : F_130 h0 = .inr (15, (.ref ta) :: (.int (nI zt)) :: (.int (nI zo)) :: (.int (nI ze)) :: (.ref ou) :: (.ref so) :: (.ref ad) :: (.ref na) :: (.ref va) :: (.ref lc) :: (.ref dm) :: (.int v11) :: (.int v12) :: (.ref tg) :: (.int v14) :: (.int v15) :: (.ref pe) :: (.int v17) :: (.int v18) :: (.int (nI (a + 1))) :: (.int (nI k_6)) :: (.int q21) :: (.int v22) :: (.ref ml) :: (.ref bg) :: (.ref co) :: (.ref sp) :: (.ref nb0) :: (.ref nb1) :: (.ref nb2) :: (.int (nI nf)) :: (.int (nI bd)) :: (.int (nI mm)) :: (.int v33) :: (.ref pl) :: (.ref se) :: (.ref ke) :: (.ref wi) :: (.ref hs) :: (.ref mo) :: (.ref po) :: (.ref nu) :: (.ref pr) :: (.ref sq) :: (.ref xa) :: (.ref sa) :: (.ref n64) :: (.ref m64) :: (.ref ex) :: (.ref wh) :: (.ref sd) :: (.ref tk) :: (.int v52) :: (.int v53) :: (.int v54) :: (.ref hd) :: (.ref ak) :: (.ref ho) :: (.ref ot) :: []) := by rw [he_131]; exact up_self
        have hF_133 : F_130 g1 = .inl (cs 17, 700, .inl fv) := by rw [he_131, up_ne (ne_ty hT_g1 hT_h0 (by simp))]; exact hF_129
        refine lv_aload_n hx hb dX15_readHost_54 rfl (lv_at hl 2 rfl) ?_
        refine lv_iload_n hx hb dX15_readHost_55 rfl (lv_at hl 3 rfl) ?_
        refine pg_bald hx hb hK hP hL_g1 1 hF_133 rfl (vp_in_nI (by omega) (by omega)) dX15_readHost_56 ?_
        refine lv_topi (fun x_134 ex_134 => ?_)
        obtain rfl : x_134 = fv a := ex_134.trans (congrArg fv (show ((nI a) : Int32).toNatClampNeg = a from nI_clamp (by omega)))
        refine lv_bipush (v := 58) hx hb dX15_readHost_57 (by decide) ?_
        refine lv_icmp_ne (tgt := 78) hx hb dX15_readHost_59 (by decide) (fun c_135 => ?_) (fun c_135 => ?_)
        ·
          refine W.widen (k := 0) (n := 0) (by omega) (by omega) ?_
          exact W.vret hx hb hr (fun t ht hWm => ⟨⟨(), rfl, trivial, ⟨F_130, v17, (nI (a + 1)), (nI k_6), q21, QTm.mk ht hP hD hO hR, hF_132, Or.inl rfl⟩⟩, hS.F ht⟩) hS.2.2 dX15_readHost_78
        ·
          refine lv_aload_n hx hb dX15_readHost_62 rfl (lv_at hl 2 rfl) ?_
          refine lv_aload_n hx hb dX15_readHost_63 rfl (lv_at hl 1 rfl) ?_
          refine pg_get (ci := 15) (v := .int (nI (a + 1))) (C := RX15) (T := TX15) (N := 59) hx hb hts it_15 hown hK hP hL_h0 hF_132 rfl 19 (by decide) (hts _ kt_751) (fun _ h9 => h9) rfl dX15_readHost_64 ?_
          refine lv_aload_n hx hb dX15_readHost_67 rfl (lv_at hl 1 rfl) ?_
          refine pg_get (ci := 15) (v := .int (nI k_6)) (C := RX15) (T := TX15) (N := 59) hx hb hts it_15 hown hK hP hL_h0 hF_132 rfl 20 (by decide) (hts _ kt_752) (fun _ h9 => h9) rfl dX15_readHost_68 ?_
          refine lv_iconst (v := 0) hx hb dX15_readHost_71 (by decide) ?_
          have hFc := pg_free hD hS hA
          refine va_calli (va_runS (As := [.ref g1, .int (nI (a + 1)), .int (nI k_6), .int 0]) (rest := []) ⟨hx, hb, hml, hown, hts⟩ (s_X15_isD l dC dI cs ty gm L H.size F_130 g1 (ρ + 31) 700 (a + 1) k_6 0 hW hL_g1 hT_g1 (by first | omega | assumption) (by first | omega | assumption)) ⟨callB_of 4 hts (gi kt_753) rfl rfl rfl (hts _ kt_669) (hts _ kt_754) (by decide +kernel) ⟨Nat.le_of_ble_eq_true rfl, Nat.le_of_ble_eq_true rfl⟩, (hts _ kt_755)⟩ ⟨fun a U g mk q => ⟨q.1, PTm.calling q.2⟩, fun U hU hWm => ⟨rfl, PTm.mk hU hWm hP hK hD hE hO⟩⟩ rfl rfl hl.1 rfl (lv_room (Nat.le_of_ble_eq_true rfl)) dX15_readHost_72 ⟨by show _ + 0 ≤ 0; omega, by show _ + 0 ≤ 0; omega⟩) hS (fun q _ h => hFc q h) hFc (fun r_136 u t H1 locs ht hvm hw hB hz1 hk1 hS => ?_)
          obtain ⟨F_137, hB1⟩ := hB
          obtain rfl : F_130 = F_137 := (funext (fun a => hB1.2.2.2 a List.not_mem_nil)).symm
          obtain ⟨hP, hD, hO, hR⟩ := QTm.back hB1 ht hFc hR (fun q h => absurd h List.not_mem_nil)
          generalize H1 = H at hP hS ⊢
          have hw : (r_136 = 0 ∨ (r_136 = 1 ∧ (a + 1) < k_6 ∧ ISD (gA (F_130 g1)) k_6 (a + 1))) := hw
          have hw_138 := hw
          refine lv_if_ne (tgt := 79) hx hb dX15_readHost_75 (by decide) (fun c_139 => ?_) (fun c_139 => ?_)
          ·
            refine lv_aload_n hx hb dX15_readHost_79 rfl (lv_at hl 1 rfl) ?_
            refine lv_iload hx hb dX15_readHost_80 (lv_at hl 5 rfl) ?_
            refine pg_put (ci := 15) (v := .int x4) (ty := .int) (C := RX15) (T := TX15) (N := 59) hx hb hts it_15 tyX15 tyX15_ok nmX15 hown hK hP hD hS hL_h0 hF_132 rfl 17 (by decide) (hts _ kt_750) (fun _ h9 => h9) rfl (by decide +kernel) (rfl) (rfl) (Nat.le_of_ble_eq_true rfl) dX15_readHost_82 (fun H locs hP hD hS => ?_)
            obtain ⟨F_140, he_141, hP, hD, hO, hR⟩ : ∃ G, G = va_up F_130 h0 (.inr (15, (.ref ta) :: (.int (nI zt)) :: (.int (nI zo)) :: (.int (nI ze)) :: (.ref ou) :: (.ref so) :: (.ref ad) :: (.ref na) :: (.ref va) :: (.ref lc) :: (.ref dm) :: (.int v11) :: (.int v12) :: (.ref tg) :: (.int v14) :: (.int v15) :: (.ref pe) :: (.int x4) :: (.int v18) :: (.int (nI (a + 1))) :: (.int (nI k_6)) :: (.int q21) :: (.int v22) :: (.ref ml) :: (.ref bg) :: (.ref co) :: (.ref sp) :: (.ref nb0) :: (.ref nb1) :: (.ref nb2) :: (.int (nI nf)) :: (.int (nI bd)) :: (.int (nI mm)) :: (.int v33) :: (.ref pl) :: (.ref se) :: (.ref ke) :: (.ref wi) :: (.ref hs) :: (.ref mo) :: (.ref po) :: (.ref nu) :: (.ref pr) :: (.ref sq) :: (.ref xa) :: (.ref sa) :: (.ref n64) :: (.ref m64) :: (.ref ex) :: (.ref wh) :: (.ref sd) :: (.ref tk) :: (.int v52) :: (.int v53) :: (.int v54) :: (.ref hd) :: (.ref ak) :: (.ref ho) :: (.ref ot) :: [])) ∧ va_P (dC, dI) vwCl (va_pl L G) H ∧ va_D A (va_pl L G) ∧ OKm cs ty gm L G ∧ FR ty [ρ] F G := ⟨_, rfl, hP, hD, hO.up (shm.mod hT_h0 ⟨zo, ze, v11, v12, v14, v15, x4, v18, (nI (a + 1)), (nI k_6), q21, v22, v33, v52, v53, v54, rfl, (by first | omega | assumption | exact Or.inl rfl | exact Or.inr rfl), (by first | omega | assumption | exact Or.inl rfl | exact Or.inr rfl), (by first | omega | assumption | exact Or.inl rfl | exact Or.inr rfl), (by first | omega | assumption | exact Or.inl rfl | exact Or.inr rfl)⟩), hR.up hT_h0 (by simp)⟩
            have hF_142 : F_140 h0 = .inr (15, (.ref ta) :: (.int (nI zt)) :: (.int (nI zo)) :: (.int (nI ze)) :: (.ref ou) :: (.ref so) :: (.ref ad) :: (.ref na) :: (.ref va) :: (.ref lc) :: (.ref dm) :: (.int v11) :: (.int v12) :: (.ref tg) :: (.int v14) :: (.int v15) :: (.ref pe) :: (.int x4) :: (.int v18) :: (.int (nI (a + 1))) :: (.int (nI k_6)) :: (.int q21) :: (.int v22) :: (.ref ml) :: (.ref bg) :: (.ref co) :: (.ref sp) :: (.ref nb0) :: (.ref nb1) :: (.ref nb2) :: (.int (nI nf)) :: (.int (nI bd)) :: (.int (nI mm)) :: (.int v33) :: (.ref pl) :: (.ref se) :: (.ref ke) :: (.ref wi) :: (.ref hs) :: (.ref mo) :: (.ref po) :: (.ref nu) :: (.ref pr) :: (.ref sq) :: (.ref xa) :: (.ref sa) :: (.ref n64) :: (.ref m64) :: (.ref ex) :: (.ref wh) :: (.ref sd) :: (.ref tk) :: (.int v52) :: (.int v53) :: (.int v54) :: (.ref hd) :: (.ref ak) :: (.ref ho) :: (.ref ot) :: []) := by rw [he_141]; exact up_self
            have hF_143 : F_140 g1 = .inl (cs 17, 700, .inl fv) := by rw [he_141, up_ne (ne_ty hT_g1 hT_h0 (by simp))]; exact hF_133
            refine W.widen (k := 0) (n := 0) (by omega) (by omega) ?_
            exact W.vret hx hb hr (fun t ht hWm => ⟨⟨(), rfl, trivial, ⟨F_140, x4, (nI (a + 1)), (nI k_6), q21, QTm.mk ht hP hD hO hR, hF_142, Or.inr ⟨rfl, Or.inr ⟨a + 1, k_6, rfl, rfl, by omega, by omega, (by have h9 := (bit1 hw_138 c_139).2; rw [gA_fun hF_133] at h9; exact h9)⟩⟩⟩⟩, hS.F ht⟩) hS.2.2 dX15_readHost_85
          ·
            refine W.widen (k := 0) (n := 0) (by omega) (by omega) ?_
            exact W.vret hx hb hr (fun t ht hWm => ⟨⟨(), rfl, trivial, ⟨F_130, v17, (nI (a + 1)), (nI k_6), q21, QTm.mk ht hP hD hO hR, hF_132, Or.inl rfl⟩⟩, hS.F ht⟩) hS.2.2 dX15_readHost_78
    ·
      refine W.widen (k := 0) (n := 0) (by omega) (by omega) ?_
      exact W.vret hx hb hr (fun t ht hWm => ⟨⟨(), rfl, trivial, ⟨F_8, v17, v19, v20, q21, QTm.mk ht hP hD hO hR, hv_10, Or.inl rfl⟩⟩, hS.F ht⟩) hS.2.2 dX15_readHost_34
  ·
    refine lv_iload hx hb dX15_readHost_8 (lv_at hl 0 rfl) ?_
    refine lv_iload_n hx hb dX15_readHost_10 rfl (lv_at hl 4 rfl) ?_
    refine lv_icmp_ge (tgt := 27) hx hb dX15_readHost_11 (by decide) (fun c_144 => ?_) (fun c_144 => ?_)
    ·
      have hi_145 : tt ≤ k_6 := leN (N := tt) c_144
      obtain ⟨hi_146, ht_147, hi_148, ht_149, hi_150, ht_151, hi_152, ht_153, hi_154, ht_155, hi_156, ht_157, hi_158, ⟨r_159, ht_160⟩, hi_161, ⟨r_162, ht_163⟩, hi_164, ht_165, hi_166, ⟨r_167, ht_168⟩, hi_169, ht_170, hi_171, ht_172, hi_173, ht_174, hi_175, ht_176, hi_177, ht_178, hi_179, ht_180, hi_181, ht_182, hi_183, ⟨r_184, ht_185⟩, hi_186, ht_187, hi_188, ⟨x_189, y0_190, y1_191, y2_192, ht_193⟩, hi_194, ⟨x_195, y0_196, y1_197, y2_198, ht_199⟩, hi_200, ⟨x_201, y_202, w_203, u_204, bl_205, ht_206⟩, hi_207, ht_208, hi_209, ht_210, hi_211, ht_212, hi_213, ht_214, hi_215, ht_216, hi_217, ht_218, hi_219, ht_220, hi_221, ht_222, hi_223, ht_224, hi_225, ht_226, hi_227, ⟨r_228, ht_229⟩, hi_230, ⟨r_231, ht_232⟩, hi_233, ht_234, hi_235, ht_236, hi_237, ⟨r_238, ht_239⟩, hi_240, ⟨r_241, ht_242⟩, hi_243, ⟨r_244, ht_245⟩, hq_246, hq_247, hq_248, hq_249, hq_250, hgO, hgA, hgB⟩ := hW.mod hL_h0 hT_h0
      refine W.widen (k := 0) (n := 0) (by omega) (by omega) ?_
      exact jn_7 v21 F (hF0) hO hR _ _ hP hD hS ls (lv_sub hl [0, 1, 2, 3, 4, 5] rfl)
    ·
      have hi_251 : k_6 < tt := ltN (N := tt) c_144
      refine lv_aload_n hx hb dX15_readHost_14 rfl (lv_at hl 1 rfl) ?_
      refine lv_aload_n hx hb dX15_readHost_15 rfl (lv_at hl 2 rfl) ?_
      refine lv_iload hx hb dX15_readHost_16 (lv_at hl 0 rfl) ?_
      refine lv_iconst (v := 1) hx hb dX15_readHost_18 (by decide) ?_
      refine lv_iadd hx hb dX15_readHost_19 ?_
      refine lv_topi (fun x_252 ex_252 => ?_)
      obtain rfl : x_252 = (nI (k_6 + 1)) := ex_252.trans (nI_add k_6 1)
      refine lv_iload_n hx hb dX15_readHost_20 rfl (lv_at hl 4 rfl) ?_
      have hFc := pg_free hD hS hA
      refine va_calli (va_runS (As := [.ref g1, .int (nI (k_6 + 1)), .int (nI tt)]) (rest := [.ref h0]) ⟨hx, hb, hml, hown, hts⟩ (s_X15_bits l dC dI cs ty gm L H.size F g1 (ρ + 31) 700 (k_6 + 1) tt hW hL_g1 hT_g1 (by first | omega | assumption) (by first | omega | assumption)) ⟨callB_of 3 hts (gi kt_756) rfl rfl rfl (hts _ kt_669) (hts _ kt_757) (by decide +kernel) ⟨Nat.le_of_ble_eq_true rfl, Nat.le_of_ble_eq_true rfl⟩, (hts _ kt_758)⟩ ⟨fun a U g mk q => ⟨q.1, PTm.calling q.2⟩, fun U hU hWm => ⟨rfl, PTm.mk hU hWm hP hK hD hE hO⟩⟩ rfl rfl hl.1 rfl (lv_room (Nat.le_of_ble_eq_true rfl)) dX15_readHost_21 ⟨by show _ + 0 ≤ 0; omega, by show _ + 0 ≤ 0; omega⟩) hS (fun q _ h => hFc q h) hFc (fun r_253 u t H1 locs ht hvm hw hB hz1 hk1 hS => ?_)
      obtain ⟨F_254, hB1⟩ := hB
      obtain rfl : F = F_254 := (funext (fun a => hB1.2.2.2 a List.not_mem_nil)).symm
      obtain ⟨hP, hD, hO, hR⟩ := QTm.back hB1 ht hFc hR (fun q h => absurd h List.not_mem_nil)
      generalize H1 = H at hP hS ⊢
      have hw : True := hw
      have hw_255 := hw
      obtain ⟨hi_256, ht_257, hi_258, ht_259, hi_260, ht_261, hi_262, ht_263, hi_264, ht_265, hi_266, ht_267, hi_268, ⟨r_269, ht_270⟩, hi_271, ⟨r_272, ht_273⟩, hi_274, ht_275, hi_276, ⟨r_277, ht_278⟩, hi_279, ht_280, hi_281, ht_282, hi_283, ht_284, hi_285, ht_286, hi_287, ht_288, hi_289, ht_290, hi_291, ht_292, hi_293, ⟨r_294, ht_295⟩, hi_296, ht_297, hi_298, ⟨x_299, y0_300, y1_301, y2_302, ht_303⟩, hi_304, ⟨x_305, y0_306, y1_307, y2_308, ht_309⟩, hi_310, ⟨x_311, y_312, w_313, u_314, bl_315, ht_316⟩, hi_317, ht_318, hi_319, ht_320, hi_321, ht_322, hi_323, ht_324, hi_325, ht_326, hi_327, ht_328, hi_329, ht_330, hi_331, ht_332, hi_333, ht_334, hi_335, ht_336, hi_337, ⟨r_338, ht_339⟩, hi_340, ⟨r_341, ht_342⟩, hi_343, ht_344, hi_345, ht_346, hi_347, ⟨r_348, ht_349⟩, hi_350, ⟨r_351, ht_352⟩, hi_353, ⟨r_354, ht_355⟩, hq_356, hq_357, hq_358, hq_359, hq_360, hgO, hgA, hgB⟩ := hW.mod hL_h0 hT_h0
      refine pg_put (ci := 15) (v := .int r_253) (ty := .int) (C := RX15) (T := TX15) (N := 59) hx hb hts it_15 tyX15 tyX15_ok nmX15 hown hK hP hD hS hL_h0 hF0 rfl 21 (by decide) (hts _ kt_749) (fun _ h9 => h9) rfl (by decide +kernel) (rfl) (rfl) (Nat.le_of_ble_eq_true rfl) dX15_readHost_24 (fun H locs hP hD hS => ?_)
      obtain ⟨F_361, he_362, hP, hD, hO, hR⟩ : ∃ G, G = va_up F h0 (.inr (15, (.ref ta) :: (.int (nI zt)) :: (.int (nI zo)) :: (.int (nI ze)) :: (.ref ou) :: (.ref so) :: (.ref ad) :: (.ref na) :: (.ref va) :: (.ref lc) :: (.ref dm) :: (.int v11) :: (.int v12) :: (.ref tg) :: (.int v14) :: (.int v15) :: (.ref pe) :: (.int v17) :: (.int v18) :: (.int v19) :: (.int v20) :: (.int r_253) :: (.int v22) :: (.ref ml) :: (.ref bg) :: (.ref co) :: (.ref sp) :: (.ref nb0) :: (.ref nb1) :: (.ref nb2) :: (.int (nI nf)) :: (.int (nI bd)) :: (.int (nI mm)) :: (.int v33) :: (.ref pl) :: (.ref se) :: (.ref ke) :: (.ref wi) :: (.ref hs) :: (.ref mo) :: (.ref po) :: (.ref nu) :: (.ref pr) :: (.ref sq) :: (.ref xa) :: (.ref sa) :: (.ref n64) :: (.ref m64) :: (.ref ex) :: (.ref wh) :: (.ref sd) :: (.ref tk) :: (.int v52) :: (.int v53) :: (.int v54) :: (.ref hd) :: (.ref ak) :: (.ref ho) :: (.ref ot) :: [])) ∧ va_P (dC, dI) vwCl (va_pl L G) H ∧ va_D A (va_pl L G) ∧ OKm cs ty gm L G ∧ FR ty [ρ] F G := ⟨_, rfl, hP, hD, hO.up (shm.mod hT_h0 ⟨zo, ze, v11, v12, v14, v15, v17, v18, v19, v20, r_253, v22, v33, v52, v53, v54, rfl, (by first | omega | assumption | exact Or.inl rfl | exact Or.inr rfl), (by first | omega | assumption | exact Or.inl rfl | exact Or.inr rfl), (by first | omega | assumption | exact Or.inl rfl | exact Or.inr rfl), (by first | omega | assumption | exact Or.inl rfl | exact Or.inr rfl)⟩), hR.up hT_h0 (by simp)⟩
      have hF_363 : F_361 h0 = .inr (15, (.ref ta) :: (.int (nI zt)) :: (.int (nI zo)) :: (.int (nI ze)) :: (.ref ou) :: (.ref so) :: (.ref ad) :: (.ref na) :: (.ref va) :: (.ref lc) :: (.ref dm) :: (.int v11) :: (.int v12) :: (.ref tg) :: (.int v14) :: (.int v15) :: (.ref pe) :: (.int v17) :: (.int v18) :: (.int v19) :: (.int v20) :: (.int r_253) :: (.int v22) :: (.ref ml) :: (.ref bg) :: (.ref co) :: (.ref sp) :: (.ref nb0) :: (.ref nb1) :: (.ref nb2) :: (.int (nI nf)) :: (.int (nI bd)) :: (.int (nI mm)) :: (.int v33) :: (.ref pl) :: (.ref se) :: (.ref ke) :: (.ref wi) :: (.ref hs) :: (.ref mo) :: (.ref po) :: (.ref nu) :: (.ref pr) :: (.ref sq) :: (.ref xa) :: (.ref sa) :: (.ref n64) :: (.ref m64) :: (.ref ex) :: (.ref wh) :: (.ref sd) :: (.ref tk) :: (.int v52) :: (.int v53) :: (.int v54) :: (.ref hd) :: (.ref ak) :: (.ref ho) :: (.ref ot) :: []) := by rw [he_362]; exact up_self
      have hF_364 : F_361 g1 = .inl (cs 17, 700, .inl fv) := by rw [he_362, up_ne (ne_ty hT_g1 hT_h0 (by simp))]; exact hFg
      refine W.widen (k := 0) (n := 0) (by omega) (by omega) ?_
      exact jn_7 r_253 F_361 (hF_363) hO hR _ _ hP hD hS ls (lv_sub hl [0, 1, 2, 3, 4, 5] rfl)
set_option maxHeartbeats 4000000 in
set_option maxRecDepth 100000 in
theorem s_X15_readTerm (l : Launch) (dC : Nat → ClassId) (dI : Nat → Nat → Nat) (cs : Nat → ClassId) (ty : TyM) (gm : Nat → Nat → Nat) (L : List Nat) (sz : Nat) (F : Nat → va_E) (h0 : Nat) (ρ : Nat) (ta : Nat) (ou : Nat) (so : Nat) (ad : Nat) (na : Nat) (va : Nat) (lc : Nat) (dm : Nat) (tg : Nat) (pe : Nat) (ml : Nat) (bg : Nat) (co : Nat) (sp : Nat) (nb0 : Nat) (nb1 : Nat) (nb2 : Nat) (pl : Nat) (se : Nat) (ke : Nat) (wi : Nat) (hs : Nat) (mo : Nat) (po : Nat) (nu : Nat) (pr : Nat) (sq : Nat) (xa : Nat) (sa : Nat) (n64 : Nat) (m64 : Nat) (ex : Nat) (wh : Nat) (sd : Nat) (tk : Nat) (hd : Nat) (ak : Nat) (ho : Nat) (ot : Nat) (sx : Nat) (s0 : Nat) (s1 : Nat) (s2 : Nat) (nf : Nat) (bd : Nat) (mm : Nat) (zt : Nat) (zo : Nat) (ze : Nat) (v11 : Int32) (v12 : Int32) (v14 : Int32) (v15 : Int32) (v17 : Int32) (v18 : Int32) (v19 : Int32) (v20 : Int32) (v21 : Int32) (v22 : Int32) (v33 : Int32) (v52 : Int32) (v53 : Int32) (v54 : Int32) (g1 : Nat) (fv : Nat → Int32) (a : Nat) (tt : Nat) (hW : WTm ty gm L) (hL_h0 : h0 ∈ L) (hT_h0 : ty h0 = (15, ρ, [ta, ou, so, ad, na, va, lc, dm, tg, pe, ml, bg, co, sp, nb0, nb1, nb2, pl, se, ke, wi, hs, mo, po, nu, pr, sq, xa, sa, n64, m64, ex, wh, sd, tk, hd, ak, ho, ot, sx, s0, s1, s2, nf, bd, mm, zt])) (hL_g1 : g1 ∈ L) (hT_g1 : ty g1 = (17, ρ + 31, [700])) (hF0 : F h0 = .inr (15, (.ref ta) :: (.int (nI zt)) :: (.int (nI zo)) :: (.int (nI ze)) :: (.ref ou) :: (.ref so) :: (.ref ad) :: (.ref na) :: (.ref va) :: (.ref lc) :: (.ref dm) :: (.int v11) :: (.int v12) :: (.ref tg) :: (.int v14) :: (.int v15) :: (.ref pe) :: (.int v17) :: (.int v18) :: (.int v19) :: (.int v20) :: (.int v21) :: (.int v22) :: (.ref ml) :: (.ref bg) :: (.ref co) :: (.ref sp) :: (.ref nb0) :: (.ref nb1) :: (.ref nb2) :: (.int (nI nf)) :: (.int (nI bd)) :: (.int (nI mm)) :: (.int v33) :: (.ref pl) :: (.ref se) :: (.ref ke) :: (.ref wi) :: (.ref hs) :: (.ref mo) :: (.ref po) :: (.ref nu) :: (.ref pr) :: (.ref sq) :: (.ref xa) :: (.ref sa) :: (.ref n64) :: (.ref m64) :: (.ref ex) :: (.ref wh) :: (.ref sd) :: (.ref tk) :: (.int v52) :: (.int v53) :: (.int v54) :: (.ref hd) :: (.ref ak) :: (.ref ho) :: (.ref ot) :: [])) (hzo : zo ≤ 6000) (hze : ze ≤ 40) (h33 : (v33 = 0 ∨ 1 ≤ nf)) (h54 : (v54 = 0 ∨ v54 = 1)) (hFg : F g1 = .inl (cs 17, 700, .inl fv)) (htn : tt ≤ 700) (ha : a < tt) : Met l yX15_readTerm (.code yX15_readTerm cX15_readTerm 7 none :: tb) ({ frames := 6, cells := 0, slots := 0, locals := 132 }) (va_Pc [.ref h0, .ref g1, .int (nI a), .int (nI tt)] (PTEm (dC, dI) cs ty gm L F sz [])) (va_Qv (fun _ : Unit => True) (fun _ T9 => ∃ F2 : Nat → va_E, ∃ u17 : Int32, ∃ u18 : Int32, ∃ u19 : Int32, ∃ u20 : Int32, ∃ u21 : Int32, ∃ u22 : Int32, QTm (dC, dI) cs ty gm L [ρ] F F2 (va_A (va_pl L F) sz) T9 ∧ F2 h0 = .inr (15, (.ref ta) :: (.int (nI zt)) :: (.int (nI zo)) :: (.int (nI ze)) :: (.ref ou) :: (.ref so) :: (.ref ad) :: (.ref na) :: (.ref va) :: (.ref lc) :: (.ref dm) :: (.int v11) :: (.int v12) :: (.ref tg) :: (.int v14) :: (.int v15) :: (.ref pe) :: (.int u17) :: (.int u18) :: (.int u19) :: (.int u20) :: (.int u21) :: (.int u22) :: (.ref ml) :: (.ref bg) :: (.ref co) :: (.ref sp) :: (.ref nb0) :: (.ref nb1) :: (.ref nb2) :: (.int (nI nf)) :: (.int (nI bd)) :: (.int (nI mm)) :: (.int v33) :: (.ref pl) :: (.ref se) :: (.ref ke) :: (.ref wi) :: (.ref hs) :: (.ref mo) :: (.ref po) :: (.ref nu) :: (.ref pr) :: (.ref sq) :: (.ref xa) :: (.ref sa) :: (.ref n64) :: (.ref m64) :: (.ref ex) :: (.ref wh) :: (.ref sd) :: (.ref tk) :: (.int v52) :: (.int v53) :: (.int v54) :: (.ref hd) :: (.ref ak) :: (.ref ho) :: (.ref ot) :: []) ∧ RTP fv a tt u17 u19 u20) (va_A (va_pl L F) sz)) 0 0 (va_A (va_pl L F) sz) := by
  refine Met.ofW (cc := cX15_readTerm) (maxL := 7) (ret := none) (by decide) rfl ?_
  intro p e s m args below meth c s₁ B hml hv
  obtain ⟨rfl, ⟨hsz, hP, hK, hD0, hE, hO⟩, hG, hX⟩ := hv
  have hx := B.exec
  have hb := B.bytes
  have hr := B.returns
  have hts : ∀ w ∈ tb, w.before _ s = true := fun w h => atoms_spec (ws := .code yX15_readTerm cX15_readTerm 7 none :: tb) B.pre w (List.mem_cons_of_mem _ h)
  have hown : s.vm.findClass RX15 = some m.cls := findClass_of_methodNamed B.named
  have hlocks := B.notSynchronized
  subst hsz
  have hD := hD0.self (sz := s.heap.size)
  generalize hAe : va_A (va_pl L F) s.heap.size = A at hD hG hX ⊢
  have hA : ∀ q : Nat, s.heap.size ≤ q → A q := fun q h => by rw [← hAe]; exact Or.inr h
  have hS : va_S A s.heap s.heap [] := va_S.rf
  have hR : FR ty [ρ] F F := FR.refl
  have hl := lv_entry ([.ref h0, .ref g1, .int (nI a), .int (nI tt)]) (n := 7) (Nat.le_of_ble_eq_true rfl)
  rw [lg_entry_eq]
  generalize (lg_sl ([.ref h0, .ref g1, .int (nI a), .int (nI tt)]) ++ List.replicate (7 - (lg_sl ([.ref h0, .ref g1, .int (nI a), .int (nI tt)])).length) Slot.unset).toArray = ls at hl ⊢
  have hl : lv_has ls 7 [(0, .ref h0), (1, .ref g1), (2, .int (nI a)), (3, .int (nI tt))] := hl
  refine lv_iload_n hx hb dX15_readTerm_0 rfl (lv_at hl 2 rfl) ?_
  refine lv_istore (lv' := [(4, .int (nI a)), (0, .ref h0), (1, .ref g1), (2, .int (nI a)), (3, .int (nI tt))]) hx hb dX15_readTerm_1 hl (by decide) rfl (fun ls hl => ?_)
  refine lv_aload_n hx hb dX15_readTerm_3 rfl (lv_at hl 1 rfl) ?_
  refine lv_bipush (v := 43) hx hb dX15_readTerm_4 (by decide) ?_
  obtain ⟨hi_1, ht_2, hi_3, ht_4, hi_5, ht_6, hi_7, ht_8, hi_9, ht_10, hi_11, ht_12, hi_13, ⟨r_14, ht_15⟩, hi_16, ⟨r_17, ht_18⟩, hi_19, ht_20, hi_21, ⟨r_22, ht_23⟩, hi_24, ht_25, hi_26, ht_27, hi_28, ht_29, hi_30, ht_31, hi_32, ht_33, hi_34, ht_35, hi_36, ht_37, hi_38, ⟨r_39, ht_40⟩, hi_41, ht_42, hi_43, ⟨x_44, y0_45, y1_46, y2_47, ht_48⟩, hi_49, ⟨x_50, y0_51, y1_52, y2_53, ht_54⟩, hi_55, ⟨x_56, y_57, w_58, u_59, bl_60, ht_61⟩, hi_62, ht_63, hi_64, ht_65, hi_66, ht_67, hi_68, ht_69, hi_70, ht_71, hi_72, ht_73, hi_74, ht_75, hi_76, ht_77, hi_78, ht_79, hi_80, ht_81, hi_82, ⟨r_83, ht_84⟩, hi_85, ⟨r_86, ht_87⟩, hi_88, ht_89, hi_90, ht_91, hi_92, ⟨r_93, ht_94⟩, hi_95, ⟨r_96, ht_97⟩, hi_98, ⟨r_99, ht_100⟩, hq_101, hq_102, hq_103, hq_104, hq_105, hgO, hgA, hgB⟩ := hW.mod hL_h0 hT_h0
  refine pg_put (ci := 15) (v := .int 43) (ty := .int) (C := RX15) (T := TX15) (N := 59) hx hb hts it_15 tyX15 tyX15_ok nmX15 hown hK hP hD hS hL_h0 hF0 rfl 18 (by decide) (hts _ kt_759) (fun _ h9 => h9) rfl (by decide +kernel) (rfl) (rfl) (Nat.le_of_ble_eq_true rfl) dX15_readTerm_6 (fun H locs hP hD hS => ?_)
  obtain ⟨F_106, he_107, hP, hD, hO, hR⟩ : ∃ G, G = va_up F h0 (.inr (15, (.ref ta) :: (.int (nI zt)) :: (.int (nI zo)) :: (.int (nI ze)) :: (.ref ou) :: (.ref so) :: (.ref ad) :: (.ref na) :: (.ref va) :: (.ref lc) :: (.ref dm) :: (.int v11) :: (.int v12) :: (.ref tg) :: (.int v14) :: (.int v15) :: (.ref pe) :: (.int v17) :: (.int 43) :: (.int v19) :: (.int v20) :: (.int v21) :: (.int v22) :: (.ref ml) :: (.ref bg) :: (.ref co) :: (.ref sp) :: (.ref nb0) :: (.ref nb1) :: (.ref nb2) :: (.int (nI nf)) :: (.int (nI bd)) :: (.int (nI mm)) :: (.int v33) :: (.ref pl) :: (.ref se) :: (.ref ke) :: (.ref wi) :: (.ref hs) :: (.ref mo) :: (.ref po) :: (.ref nu) :: (.ref pr) :: (.ref sq) :: (.ref xa) :: (.ref sa) :: (.ref n64) :: (.ref m64) :: (.ref ex) :: (.ref wh) :: (.ref sd) :: (.ref tk) :: (.int v52) :: (.int v53) :: (.int v54) :: (.ref hd) :: (.ref ak) :: (.ref ho) :: (.ref ot) :: [])) ∧ va_P (dC, dI) vwCl (va_pl L G) H ∧ va_D A (va_pl L G) ∧ OKm cs ty gm L G ∧ FR ty [ρ] F G := ⟨_, rfl, hP, hD, hO.up (shm.mod hT_h0 ⟨zo, ze, v11, v12, v14, v15, v17, 43, v19, v20, v21, v22, v33, v52, v53, v54, rfl, (by first | omega | assumption | exact Or.inl rfl | exact Or.inr rfl), (by first | omega | assumption | exact Or.inl rfl | exact Or.inr rfl), (by first | omega | assumption | exact Or.inl rfl | exact Or.inr rfl), (by first | omega | assumption | exact Or.inl rfl | exact Or.inr rfl)⟩), hR.up hT_h0 (by simp)⟩
  have hF_108 : F_106 h0 = .inr (15, (.ref ta) :: (.int (nI zt)) :: (.int (nI zo)) :: (.int (nI ze)) :: (.ref ou) :: (.ref so) :: (.ref ad) :: (.ref na) :: (.ref va) :: (.ref lc) :: (.ref dm) :: (.int v11) :: (.int v12) :: (.ref tg) :: (.int v14) :: (.int v15) :: (.ref pe) :: (.int v17) :: (.int 43) :: (.int v19) :: (.int v20) :: (.int v21) :: (.int v22) :: (.ref ml) :: (.ref bg) :: (.ref co) :: (.ref sp) :: (.ref nb0) :: (.ref nb1) :: (.ref nb2) :: (.int (nI nf)) :: (.int (nI bd)) :: (.int (nI mm)) :: (.int v33) :: (.ref pl) :: (.ref se) :: (.ref ke) :: (.ref wi) :: (.ref hs) :: (.ref mo) :: (.ref po) :: (.ref nu) :: (.ref pr) :: (.ref sq) :: (.ref xa) :: (.ref sa) :: (.ref n64) :: (.ref m64) :: (.ref ex) :: (.ref wh) :: (.ref sd) :: (.ref tk) :: (.int v52) :: (.int v53) :: (.int v54) :: (.ref hd) :: (.ref ak) :: (.ref ho) :: (.ref ot) :: []) := by rw [he_107]; exact up_self
  have hF_109 : F_106 g1 = .inl (cs 17, 700, .inl fv) := by rw [he_107, up_ne (ne_ty hT_g1 hT_h0 (by simp))]; exact hFg
  refine lv_aload_n hx hb dX15_readTerm_9 rfl (lv_at hl 1 rfl) ?_
  refine lv_bipush (v := 8) hx hb dX15_readTerm_10 (by decide) ?_
  refine pg_put (ci := 15) (v := .int 8) (ty := .int) (C := RX15) (T := TX15) (N := 59) hx hb hts it_15 tyX15 tyX15_ok nmX15 hown hK hP hD hS hL_h0 hF_108 rfl 17 (by decide) (hts _ kt_750) (fun _ h9 => h9) rfl (by decide +kernel) (rfl) (rfl) (Nat.le_of_ble_eq_true rfl) dX15_readTerm_12 (fun H locs hP hD hS => ?_)
  obtain ⟨F_110, he_111, hP, hD, hO, hR⟩ : ∃ G, G = va_up F_106 h0 (.inr (15, (.ref ta) :: (.int (nI zt)) :: (.int (nI zo)) :: (.int (nI ze)) :: (.ref ou) :: (.ref so) :: (.ref ad) :: (.ref na) :: (.ref va) :: (.ref lc) :: (.ref dm) :: (.int v11) :: (.int v12) :: (.ref tg) :: (.int v14) :: (.int v15) :: (.ref pe) :: (.int 8) :: (.int 43) :: (.int v19) :: (.int v20) :: (.int v21) :: (.int v22) :: (.ref ml) :: (.ref bg) :: (.ref co) :: (.ref sp) :: (.ref nb0) :: (.ref nb1) :: (.ref nb2) :: (.int (nI nf)) :: (.int (nI bd)) :: (.int (nI mm)) :: (.int v33) :: (.ref pl) :: (.ref se) :: (.ref ke) :: (.ref wi) :: (.ref hs) :: (.ref mo) :: (.ref po) :: (.ref nu) :: (.ref pr) :: (.ref sq) :: (.ref xa) :: (.ref sa) :: (.ref n64) :: (.ref m64) :: (.ref ex) :: (.ref wh) :: (.ref sd) :: (.ref tk) :: (.int v52) :: (.int v53) :: (.int v54) :: (.ref hd) :: (.ref ak) :: (.ref ho) :: (.ref ot) :: [])) ∧ va_P (dC, dI) vwCl (va_pl L G) H ∧ va_D A (va_pl L G) ∧ OKm cs ty gm L G ∧ FR ty [ρ] F G := ⟨_, rfl, hP, hD, hO.up (shm.mod hT_h0 ⟨zo, ze, v11, v12, v14, v15, 8, 43, v19, v20, v21, v22, v33, v52, v53, v54, rfl, (by first | omega | assumption | exact Or.inl rfl | exact Or.inr rfl), (by first | omega | assumption | exact Or.inl rfl | exact Or.inr rfl), (by first | omega | assumption | exact Or.inl rfl | exact Or.inr rfl), (by first | omega | assumption | exact Or.inl rfl | exact Or.inr rfl)⟩), hR.up hT_h0 (by simp)⟩
  have hF_112 : F_110 h0 = .inr (15, (.ref ta) :: (.int (nI zt)) :: (.int (nI zo)) :: (.int (nI ze)) :: (.ref ou) :: (.ref so) :: (.ref ad) :: (.ref na) :: (.ref va) :: (.ref lc) :: (.ref dm) :: (.int v11) :: (.int v12) :: (.ref tg) :: (.int v14) :: (.int v15) :: (.ref pe) :: (.int 8) :: (.int 43) :: (.int v19) :: (.int v20) :: (.int v21) :: (.int v22) :: (.ref ml) :: (.ref bg) :: (.ref co) :: (.ref sp) :: (.ref nb0) :: (.ref nb1) :: (.ref nb2) :: (.int (nI nf)) :: (.int (nI bd)) :: (.int (nI mm)) :: (.int v33) :: (.ref pl) :: (.ref se) :: (.ref ke) :: (.ref wi) :: (.ref hs) :: (.ref mo) :: (.ref po) :: (.ref nu) :: (.ref pr) :: (.ref sq) :: (.ref xa) :: (.ref sa) :: (.ref n64) :: (.ref m64) :: (.ref ex) :: (.ref wh) :: (.ref sd) :: (.ref tk) :: (.int v52) :: (.int v53) :: (.int v54) :: (.ref hd) :: (.ref ak) :: (.ref ho) :: (.ref ot) :: []) := by rw [he_111]; exact up_self
  have hF_113 : F_110 g1 = .inl (cs 17, 700, .inl fv) := by rw [he_111, up_ne (ne_ty hT_g1 hT_h0 (by simp))]; exact hF_109
  refine lv_aload_n hx hb dX15_readTerm_15 rfl (lv_at hl 1 rfl) ?_
  refine lv_iconst (v := (-1)) hx hb dX15_readTerm_16 (by decide) ?_
  refine pg_put (ci := 15) (v := .int (-1)) (ty := .int) (C := RX15) (T := TX15) (N := 59) hx hb hts it_15 tyX15 tyX15_ok nmX15 hown hK hP hD hS hL_h0 hF_112 rfl 19 (by decide) (hts _ kt_751) (fun _ h9 => h9) rfl (by decide +kernel) (rfl) (rfl) (Nat.le_of_ble_eq_true rfl) dX15_readTerm_17 (fun H locs hP hD hS => ?_)
  obtain ⟨F_114, he_115, hP, hD, hO, hR⟩ : ∃ G, G = va_up F_110 h0 (.inr (15, (.ref ta) :: (.int (nI zt)) :: (.int (nI zo)) :: (.int (nI ze)) :: (.ref ou) :: (.ref so) :: (.ref ad) :: (.ref na) :: (.ref va) :: (.ref lc) :: (.ref dm) :: (.int v11) :: (.int v12) :: (.ref tg) :: (.int v14) :: (.int v15) :: (.ref pe) :: (.int 8) :: (.int 43) :: (.int (-1)) :: (.int v20) :: (.int v21) :: (.int v22) :: (.ref ml) :: (.ref bg) :: (.ref co) :: (.ref sp) :: (.ref nb0) :: (.ref nb1) :: (.ref nb2) :: (.int (nI nf)) :: (.int (nI bd)) :: (.int (nI mm)) :: (.int v33) :: (.ref pl) :: (.ref se) :: (.ref ke) :: (.ref wi) :: (.ref hs) :: (.ref mo) :: (.ref po) :: (.ref nu) :: (.ref pr) :: (.ref sq) :: (.ref xa) :: (.ref sa) :: (.ref n64) :: (.ref m64) :: (.ref ex) :: (.ref wh) :: (.ref sd) :: (.ref tk) :: (.int v52) :: (.int v53) :: (.int v54) :: (.ref hd) :: (.ref ak) :: (.ref ho) :: (.ref ot) :: [])) ∧ va_P (dC, dI) vwCl (va_pl L G) H ∧ va_D A (va_pl L G) ∧ OKm cs ty gm L G ∧ FR ty [ρ] F G := ⟨_, rfl, hP, hD, hO.up (shm.mod hT_h0 ⟨zo, ze, v11, v12, v14, v15, 8, 43, (-1), v20, v21, v22, v33, v52, v53, v54, rfl, (by first | omega | assumption | exact Or.inl rfl | exact Or.inr rfl), (by first | omega | assumption | exact Or.inl rfl | exact Or.inr rfl), (by first | omega | assumption | exact Or.inl rfl | exact Or.inr rfl), (by first | omega | assumption | exact Or.inl rfl | exact Or.inr rfl)⟩), hR.up hT_h0 (by simp)⟩
  have hF_116 : F_114 h0 = .inr (15, (.ref ta) :: (.int (nI zt)) :: (.int (nI zo)) :: (.int (nI ze)) :: (.ref ou) :: (.ref so) :: (.ref ad) :: (.ref na) :: (.ref va) :: (.ref lc) :: (.ref dm) :: (.int v11) :: (.int v12) :: (.ref tg) :: (.int v14) :: (.int v15) :: (.ref pe) :: (.int 8) :: (.int 43) :: (.int (-1)) :: (.int v20) :: (.int v21) :: (.int v22) :: (.ref ml) :: (.ref bg) :: (.ref co) :: (.ref sp) :: (.ref nb0) :: (.ref nb1) :: (.ref nb2) :: (.int (nI nf)) :: (.int (nI bd)) :: (.int (nI mm)) :: (.int v33) :: (.ref pl) :: (.ref se) :: (.ref ke) :: (.ref wi) :: (.ref hs) :: (.ref mo) :: (.ref po) :: (.ref nu) :: (.ref pr) :: (.ref sq) :: (.ref xa) :: (.ref sa) :: (.ref n64) :: (.ref m64) :: (.ref ex) :: (.ref wh) :: (.ref sd) :: (.ref tk) :: (.int v52) :: (.int v53) :: (.int v54) :: (.ref hd) :: (.ref ak) :: (.ref ho) :: (.ref ot) :: []) := by rw [he_115]; exact up_self
  have hF_117 : F_114 g1 = .inl (cs 17, 700, .inl fv) := by rw [he_115, up_ne (ne_ty hT_g1 hT_h0 (by simp))]; exact hF_113
  refine lv_aload_n hx hb dX15_readTerm_20 rfl (lv_at hl 1 rfl) ?_
  refine lv_iconst (v := (-1)) hx hb dX15_readTerm_21 (by decide) ?_
  refine pg_put (ci := 15) (v := .int (-1)) (ty := .int) (C := RX15) (T := TX15) (N := 59) hx hb hts it_15 tyX15 tyX15_ok nmX15 hown hK hP hD hS hL_h0 hF_116 rfl 20 (by decide) (hts _ kt_752) (fun _ h9 => h9) rfl (by decide +kernel) (rfl) (rfl) (Nat.le_of_ble_eq_true rfl) dX15_readTerm_22 (fun H locs hP hD hS => ?_)
  obtain ⟨F_118, he_119, hP, hD, hO, hR⟩ : ∃ G, G = va_up F_114 h0 (.inr (15, (.ref ta) :: (.int (nI zt)) :: (.int (nI zo)) :: (.int (nI ze)) :: (.ref ou) :: (.ref so) :: (.ref ad) :: (.ref na) :: (.ref va) :: (.ref lc) :: (.ref dm) :: (.int v11) :: (.int v12) :: (.ref tg) :: (.int v14) :: (.int v15) :: (.ref pe) :: (.int 8) :: (.int 43) :: (.int (-1)) :: (.int (-1)) :: (.int v21) :: (.int v22) :: (.ref ml) :: (.ref bg) :: (.ref co) :: (.ref sp) :: (.ref nb0) :: (.ref nb1) :: (.ref nb2) :: (.int (nI nf)) :: (.int (nI bd)) :: (.int (nI mm)) :: (.int v33) :: (.ref pl) :: (.ref se) :: (.ref ke) :: (.ref wi) :: (.ref hs) :: (.ref mo) :: (.ref po) :: (.ref nu) :: (.ref pr) :: (.ref sq) :: (.ref xa) :: (.ref sa) :: (.ref n64) :: (.ref m64) :: (.ref ex) :: (.ref wh) :: (.ref sd) :: (.ref tk) :: (.int v52) :: (.int v53) :: (.int v54) :: (.ref hd) :: (.ref ak) :: (.ref ho) :: (.ref ot) :: [])) ∧ va_P (dC, dI) vwCl (va_pl L G) H ∧ va_D A (va_pl L G) ∧ OKm cs ty gm L G ∧ FR ty [ρ] F G := ⟨_, rfl, hP, hD, hO.up (shm.mod hT_h0 ⟨zo, ze, v11, v12, v14, v15, 8, 43, (-1), (-1), v21, v22, v33, v52, v53, v54, rfl, (by first | omega | assumption | exact Or.inl rfl | exact Or.inr rfl), (by first | omega | assumption | exact Or.inl rfl | exact Or.inr rfl), (by first | omega | assumption | exact Or.inl rfl | exact Or.inr rfl), (by first | omega | assumption | exact Or.inl rfl | exact Or.inr rfl)⟩), hR.up hT_h0 (by simp)⟩
  have hF_120 : F_118 h0 = .inr (15, (.ref ta) :: (.int (nI zt)) :: (.int (nI zo)) :: (.int (nI ze)) :: (.ref ou) :: (.ref so) :: (.ref ad) :: (.ref na) :: (.ref va) :: (.ref lc) :: (.ref dm) :: (.int v11) :: (.int v12) :: (.ref tg) :: (.int v14) :: (.int v15) :: (.ref pe) :: (.int 8) :: (.int 43) :: (.int (-1)) :: (.int (-1)) :: (.int v21) :: (.int v22) :: (.ref ml) :: (.ref bg) :: (.ref co) :: (.ref sp) :: (.ref nb0) :: (.ref nb1) :: (.ref nb2) :: (.int (nI nf)) :: (.int (nI bd)) :: (.int (nI mm)) :: (.int v33) :: (.ref pl) :: (.ref se) :: (.ref ke) :: (.ref wi) :: (.ref hs) :: (.ref mo) :: (.ref po) :: (.ref nu) :: (.ref pr) :: (.ref sq) :: (.ref xa) :: (.ref sa) :: (.ref n64) :: (.ref m64) :: (.ref ex) :: (.ref wh) :: (.ref sd) :: (.ref tk) :: (.int v52) :: (.int v53) :: (.int v54) :: (.ref hd) :: (.ref ak) :: (.ref ho) :: (.ref ot) :: []) := by rw [he_119]; exact up_self
  have hF_121 : F_118 g1 = .inl (cs 17, 700, .inl fv) := by rw [he_119, up_ne (ne_ty hT_g1 hT_h0 (by simp))]; exact hF_117
  refine lv_aload_n hx hb dX15_readTerm_25 rfl (lv_at hl 1 rfl) ?_
  refine lv_bipush (v := 32) hx hb dX15_readTerm_26 (by decide) ?_
  refine pg_put (ci := 15) (v := .int 32) (ty := .int) (C := RX15) (T := TX15) (N := 59) hx hb hts it_15 tyX15 tyX15_ok nmX15 hown hK hP hD hS hL_h0 hF_120 rfl 21 (by decide) (hts _ kt_749) (fun _ h9 => h9) rfl (by decide +kernel) (rfl) (rfl) (Nat.le_of_ble_eq_true rfl) dX15_readTerm_28 (fun H locs hP hD hS => ?_)
  obtain ⟨F_122, he_123, hP, hD, hO, hR⟩ : ∃ G, G = va_up F_118 h0 (.inr (15, (.ref ta) :: (.int (nI zt)) :: (.int (nI zo)) :: (.int (nI ze)) :: (.ref ou) :: (.ref so) :: (.ref ad) :: (.ref na) :: (.ref va) :: (.ref lc) :: (.ref dm) :: (.int v11) :: (.int v12) :: (.ref tg) :: (.int v14) :: (.int v15) :: (.ref pe) :: (.int 8) :: (.int 43) :: (.int (-1)) :: (.int (-1)) :: (.int 32) :: (.int v22) :: (.ref ml) :: (.ref bg) :: (.ref co) :: (.ref sp) :: (.ref nb0) :: (.ref nb1) :: (.ref nb2) :: (.int (nI nf)) :: (.int (nI bd)) :: (.int (nI mm)) :: (.int v33) :: (.ref pl) :: (.ref se) :: (.ref ke) :: (.ref wi) :: (.ref hs) :: (.ref mo) :: (.ref po) :: (.ref nu) :: (.ref pr) :: (.ref sq) :: (.ref xa) :: (.ref sa) :: (.ref n64) :: (.ref m64) :: (.ref ex) :: (.ref wh) :: (.ref sd) :: (.ref tk) :: (.int v52) :: (.int v53) :: (.int v54) :: (.ref hd) :: (.ref ak) :: (.ref ho) :: (.ref ot) :: [])) ∧ va_P (dC, dI) vwCl (va_pl L G) H ∧ va_D A (va_pl L G) ∧ OKm cs ty gm L G ∧ FR ty [ρ] F G := ⟨_, rfl, hP, hD, hO.up (shm.mod hT_h0 ⟨zo, ze, v11, v12, v14, v15, 8, 43, (-1), (-1), 32, v22, v33, v52, v53, v54, rfl, (by first | omega | assumption | exact Or.inl rfl | exact Or.inr rfl), (by first | omega | assumption | exact Or.inl rfl | exact Or.inr rfl), (by first | omega | assumption | exact Or.inl rfl | exact Or.inr rfl), (by first | omega | assumption | exact Or.inl rfl | exact Or.inr rfl)⟩), hR.up hT_h0 (by simp)⟩
  have hF_124 : F_122 h0 = .inr (15, (.ref ta) :: (.int (nI zt)) :: (.int (nI zo)) :: (.int (nI ze)) :: (.ref ou) :: (.ref so) :: (.ref ad) :: (.ref na) :: (.ref va) :: (.ref lc) :: (.ref dm) :: (.int v11) :: (.int v12) :: (.ref tg) :: (.int v14) :: (.int v15) :: (.ref pe) :: (.int 8) :: (.int 43) :: (.int (-1)) :: (.int (-1)) :: (.int 32) :: (.int v22) :: (.ref ml) :: (.ref bg) :: (.ref co) :: (.ref sp) :: (.ref nb0) :: (.ref nb1) :: (.ref nb2) :: (.int (nI nf)) :: (.int (nI bd)) :: (.int (nI mm)) :: (.int v33) :: (.ref pl) :: (.ref se) :: (.ref ke) :: (.ref wi) :: (.ref hs) :: (.ref mo) :: (.ref po) :: (.ref nu) :: (.ref pr) :: (.ref sq) :: (.ref xa) :: (.ref sa) :: (.ref n64) :: (.ref m64) :: (.ref ex) :: (.ref wh) :: (.ref sd) :: (.ref tk) :: (.int v52) :: (.int v53) :: (.int v54) :: (.ref hd) :: (.ref ak) :: (.ref ho) :: (.ref ot) :: []) := by rw [he_123]; exact up_self
  have hF_125 : F_122 g1 = .inl (cs 17, 700, .inl fv) := by rw [he_123, up_ne (ne_ty hT_g1 hT_h0 (by simp))]; exact hF_121
  have hF_128 : F g1 = .inl (cs 17, 700, .inl fv) := (hR g1 (by rw [hT_g1]; simp)).symm.trans hF_125
  refine W.widen (k := 0) (n := 0) (by omega) (by omega) ?_
  refine pl_cutm (σ := Int32) A (dC, dI) cs ty gm L [ρ] F 72 7 (fun s5 => [(4, .int (nI a)), (0, .ref h0), (1, .ref g1), (2, .int (nI a)), (3, .int (nI tt))]) (fun s5 => [.int s5]) (fun s5 FF => (s5 = 0 ∨ (s5 = 1 ∧ fv a ≠ 114)) ∧ FF h0 = .inr (15, (.ref ta) :: (.int (nI zt)) :: (.int (nI zo)) :: (.int (nI ze)) :: (.ref ou) :: (.ref so) :: (.ref ad) :: (.ref na) :: (.ref va) :: (.ref lc) :: (.ref dm) :: (.int v11) :: (.int v12) :: (.ref tg) :: (.int v14) :: (.int v15) :: (.ref pe) :: (.int 8) :: (.int 43) :: (.int (-1)) :: (.int (-1)) :: (.int 32) :: (.int v22) :: (.ref ml) :: (.ref bg) :: (.ref co) :: (.ref sp) :: (.ref nb0) :: (.ref nb1) :: (.ref nb2) :: (.int (nI nf)) :: (.int (nI bd)) :: (.int (nI mm)) :: (.int v33) :: (.ref pl) :: (.ref se) :: (.ref ke) :: (.ref wi) :: (.ref hs) :: (.ref mo) :: (.ref po) :: (.ref nu) :: (.ref pr) :: (.ref sq) :: (.ref xa) :: (.ref sa) :: (.ref n64) :: (.ref m64) :: (.ref ex) :: (.ref wh) :: (.ref sd) :: (.ref tk) :: (.int v52) :: (.int v53) :: (.int v54) :: (.ref hd) :: (.ref ak) :: (.ref ho) :: (.ref ot) :: [])) ?_ (fun jn_126 => ?_)
  ·
    rintro s5 F_127 hv_129 hO hR H locs hP hD hS ls hl
    have hl : lv_has ls 7 [(4, .int (nI a)), (0, .ref h0), (1, .ref g1), (2, .int (nI a)), (3, .int (nI tt))] := hl
    have hv_129 : (s5 = 0 ∨ (s5 = 1 ∧ fv a ≠ 114)) ∧ F_127 h0 = .inr (15, (.ref ta) :: (.int (nI zt)) :: (.int (nI zo)) :: (.int (nI ze)) :: (.ref ou) :: (.ref so) :: (.ref ad) :: (.ref na) :: (.ref va) :: (.ref lc) :: (.ref dm) :: (.int v11) :: (.int v12) :: (.ref tg) :: (.int v14) :: (.int v15) :: (.ref pe) :: (.int 8) :: (.int 43) :: (.int (-1)) :: (.int (-1)) :: (.int 32) :: (.int v22) :: (.ref ml) :: (.ref bg) :: (.ref co) :: (.ref sp) :: (.ref nb0) :: (.ref nb1) :: (.ref nb2) :: (.int (nI nf)) :: (.int (nI bd)) :: (.int (nI mm)) :: (.int v33) :: (.ref pl) :: (.ref se) :: (.ref ke) :: (.ref wi) :: (.ref hs) :: (.ref mo) :: (.ref po) :: (.ref nu) :: (.ref pr) :: (.ref sq) :: (.ref xa) :: (.ref sa) :: (.ref n64) :: (.ref m64) :: (.ref ex) :: (.ref wh) :: (.ref sd) :: (.ref tk) :: (.int v52) :: (.int v53) :: (.int v54) :: (.ref hd) :: (.ref ak) :: (.ref ho) :: (.ref ot) :: []) := hv_129
    refine W.eq (g2 := F0 m 72 ls [.int s5]) rfl ?_
    have hF_130 : F_127 g1 = .inl (cs 17, 700, .inl fv) := (hR g1 (by rw [hT_g1]; simp)).trans hF_128
    obtain ⟨hs5, hs5h⟩ := hv_129
    refine lv_istore (lv' := [(5, .int s5), (4, .int (nI a)), (0, .ref h0), (1, .ref g1), (2, .int (nI a)), (3, .int (nI tt))]) hx hb dX15_readTerm_72 hl (by decide) rfl (fun ls hl => ?_)
    have hF_133 : F g1 = .inl (cs 17, 700, .inl fv) := (hR g1 (by rw [hT_g1]; simp)).symm.trans hF_130
    refine W.widen (k := 0) (n := 0) (by omega) (by omega) ?_
    refine pl_cutm (σ := Int32 × Int32) A (dC, dI) cs ty gm L [ρ] F 90 7 (fun (k4, q18) => [(5, .int s5), (4, .int k4), (0, .ref h0), (1, .ref g1), (2, .int (nI a)), (3, .int (nI tt))]) (fun (k4, q18) => []) (fun (k4, q18) FF => (∃ kk : Nat, k4 = nI kk ∧ a ≤ kk ∧ kk ≤ tt ∧ (s5 = 0 → kk = a)) ∧ FF h0 = .inr (15, (.ref ta) :: (.int (nI zt)) :: (.int (nI zo)) :: (.int (nI ze)) :: (.ref ou) :: (.ref so) :: (.ref ad) :: (.ref na) :: (.ref va) :: (.ref lc) :: (.ref dm) :: (.int v11) :: (.int v12) :: (.ref tg) :: (.int v14) :: (.int v15) :: (.ref pe) :: (.int 8) :: (.int q18) :: (.int (-1)) :: (.int (-1)) :: (.int 32) :: (.int v22) :: (.ref ml) :: (.ref bg) :: (.ref co) :: (.ref sp) :: (.ref nb0) :: (.ref nb1) :: (.ref nb2) :: (.int (nI nf)) :: (.int (nI bd)) :: (.int (nI mm)) :: (.int v33) :: (.ref pl) :: (.ref se) :: (.ref ke) :: (.ref wi) :: (.ref hs) :: (.ref mo) :: (.ref po) :: (.ref nu) :: (.ref pr) :: (.ref sq) :: (.ref xa) :: (.ref sa) :: (.ref n64) :: (.ref m64) :: (.ref ex) :: (.ref wh) :: (.ref sd) :: (.ref tk) :: (.int v52) :: (.int v53) :: (.int v54) :: (.ref hd) :: (.ref ak) :: (.ref ho) :: (.ref ot) :: [])) ?_ (fun jn_131 => ?_)
    ·
      rintro ⟨k4, q18⟩ F_132 hv_134 hO hR H locs hP hD hS ls hl
      have hl : lv_has ls 7 [(5, .int s5), (4, .int k4), (0, .ref h0), (1, .ref g1), (2, .int (nI a)), (3, .int (nI tt))] := hl
      have hv_134 : (∃ kk : Nat, k4 = nI kk ∧ a ≤ kk ∧ kk ≤ tt ∧ (s5 = 0 → kk = a)) ∧ F_132 h0 = .inr (15, (.ref ta) :: (.int (nI zt)) :: (.int (nI zo)) :: (.int (nI ze)) :: (.ref ou) :: (.ref so) :: (.ref ad) :: (.ref na) :: (.ref va) :: (.ref lc) :: (.ref dm) :: (.int v11) :: (.int v12) :: (.ref tg) :: (.int v14) :: (.int v15) :: (.ref pe) :: (.int 8) :: (.int q18) :: (.int (-1)) :: (.int (-1)) :: (.int 32) :: (.int v22) :: (.ref ml) :: (.ref bg) :: (.ref co) :: (.ref sp) :: (.ref nb0) :: (.ref nb1) :: (.ref nb2) :: (.int (nI nf)) :: (.int (nI bd)) :: (.int (nI mm)) :: (.int v33) :: (.ref pl) :: (.ref se) :: (.ref ke) :: (.ref wi) :: (.ref hs) :: (.ref mo) :: (.ref po) :: (.ref nu) :: (.ref pr) :: (.ref sq) :: (.ref xa) :: (.ref sa) :: (.ref n64) :: (.ref m64) :: (.ref ex) :: (.ref wh) :: (.ref sd) :: (.ref tk) :: (.int v52) :: (.int v53) :: (.int v54) :: (.ref hd) :: (.ref ak) :: (.ref ho) :: (.ref ot) :: []) := hv_134
      refine W.eq (g2 := F0 m 90 ls []) rfl ?_
      have hF_135 : F_132 g1 = .inl (cs 17, 700, .inl fv) := (hR g1 (by rw [hT_g1]; simp)).trans hF_133
      obtain ⟨⟨kk, ek, hk1a, hk2a, hk3a⟩, hk4a⟩ := hv_134
      subst ek
      have hF_138 : F g1 = .inl (cs 17, 700, .inl fv) := (hR g1 (by rw [hT_g1]; simp)).symm.trans hF_135
      refine W.widen (k := 0) (n := 0) (by omega) (by omega) ?_
      refine pl_cutm (σ := Int32 × Int32 × Int32 × Int32 × Int32) A (dC, dI) cs ty gm L [ρ] F 392 7 (fun (q17, q19, q20, q21, q22) => [(5, .int s5), (4, .int (nI kk)), (0, .ref h0), (1, .ref g1), (2, .int (nI a)), (3, .int (nI tt))]) (fun (q17, q19, q20, q21, q22) => []) (fun (q17, q19, q20, q21, q22) FF => FF h0 = .inr (15, (.ref ta) :: (.int (nI zt)) :: (.int (nI zo)) :: (.int (nI ze)) :: (.ref ou) :: (.ref so) :: (.ref ad) :: (.ref na) :: (.ref va) :: (.ref lc) :: (.ref dm) :: (.int v11) :: (.int v12) :: (.ref tg) :: (.int v14) :: (.int v15) :: (.ref pe) :: (.int q17) :: (.int q18) :: (.int q19) :: (.int q20) :: (.int q21) :: (.int q22) :: (.ref ml) :: (.ref bg) :: (.ref co) :: (.ref sp) :: (.ref nb0) :: (.ref nb1) :: (.ref nb2) :: (.int (nI nf)) :: (.int (nI bd)) :: (.int (nI mm)) :: (.int v33) :: (.ref pl) :: (.ref se) :: (.ref ke) :: (.ref wi) :: (.ref hs) :: (.ref mo) :: (.ref po) :: (.ref nu) :: (.ref pr) :: (.ref sq) :: (.ref xa) :: (.ref sa) :: (.ref n64) :: (.ref m64) :: (.ref ex) :: (.ref wh) :: (.ref sd) :: (.ref tk) :: (.int v52) :: (.int v53) :: (.int v54) :: (.ref hd) :: (.ref ak) :: (.ref ho) :: (.ref ot) :: []) ∧ (q17 = 8 ∨ ((q17 = 0 ∨ q17 = 1 ∨ q17 = 2 ∨ q17 = 3 ∨ q17 = 4 ∨ q17 = 5) ∧ DOK fv tt q19 q20)) ∧ (s5 = 0 → fv a = 114 → q17 = 8)) ?_ (fun jn_136 => ?_)
      ·
        rintro ⟨q17, q19, q20, q21, q22⟩ F_137 hv_139 hO hR H locs hP hD hS ls hl
        have hl : lv_has ls 7 [(5, .int s5), (4, .int (nI kk)), (0, .ref h0), (1, .ref g1), (2, .int (nI a)), (3, .int (nI tt))] := hl
        have hv_139 : F_137 h0 = .inr (15, (.ref ta) :: (.int (nI zt)) :: (.int (nI zo)) :: (.int (nI ze)) :: (.ref ou) :: (.ref so) :: (.ref ad) :: (.ref na) :: (.ref va) :: (.ref lc) :: (.ref dm) :: (.int v11) :: (.int v12) :: (.ref tg) :: (.int v14) :: (.int v15) :: (.ref pe) :: (.int q17) :: (.int q18) :: (.int q19) :: (.int q20) :: (.int q21) :: (.int q22) :: (.ref ml) :: (.ref bg) :: (.ref co) :: (.ref sp) :: (.ref nb0) :: (.ref nb1) :: (.ref nb2) :: (.int (nI nf)) :: (.int (nI bd)) :: (.int (nI mm)) :: (.int v33) :: (.ref pl) :: (.ref se) :: (.ref ke) :: (.ref wi) :: (.ref hs) :: (.ref mo) :: (.ref po) :: (.ref nu) :: (.ref pr) :: (.ref sq) :: (.ref xa) :: (.ref sa) :: (.ref n64) :: (.ref m64) :: (.ref ex) :: (.ref wh) :: (.ref sd) :: (.ref tk) :: (.int v52) :: (.int v53) :: (.int v54) :: (.ref hd) :: (.ref ak) :: (.ref ho) :: (.ref ot) :: []) ∧ (q17 = 8 ∨ ((q17 = 0 ∨ q17 = 1 ∨ q17 = 2 ∨ q17 = 3 ∨ q17 = 4 ∨ q17 = 5) ∧ DOK fv tt q19 q20)) ∧ (s5 = 0 → fv a = 114 → q17 = 8) := hv_139
        refine W.eq (g2 := F0 m 392 ls []) rfl ?_
        have hF_140 : F_137 g1 = .inl (cs 17, 700, .inl fv) := (hR g1 (by rw [hT_g1]; simp)).trans hF_138
        obtain ⟨hq1, hq2, hq3⟩ := hv_139
        refine lv_aload_n hx hb dX15_readTerm_392 rfl (lv_at hl 2 rfl) ?_
        refine pg_get (ci := 15) (v := .int q17) (C := RX15) (T := TX15) (N := 59) hx hb hts it_15 hown hK hP hL_h0 hq1 rfl 17 (by decide) (hts _ kt_750) (fun _ h9 => h9) rfl dX15_readTerm_393 ?_
        refine lv_bipush (v := 8) hx hb dX15_readTerm_396 (by decide) ?_
        refine lv_icmp_ne (tgt := 406) hx hb dX15_readTerm_398 (by decide) (fun c_141 => ?_) (fun c_141 => ?_)
        ·
          refine W.widen (k := 0) (n := 0) (by omega) (by omega) ?_
          exact W.vret hx hb hr (fun t ht hWm => ⟨⟨(), rfl, trivial, ⟨F_137, q17, q18, q19, q20, q21, q22, QTm.mk ht hP hD hO hR, hq1, ⟨(hq2.resolve_left c_141).2 |> fun h => Or.inr (Or.inr (Or.inr h)), fun h6 => absurd ((hq2.resolve_left c_141).1) (by rw [h6]; decide), fun h9 => (hs5.elim (fun h5 => absurd (hq3 h5 h9.c0) c_141) (fun h => absurd h9.c0 h.2))⟩⟩⟩, hS.F ht⟩) hS.2.2 dX15_readTerm_406
        ·
          refine lv_iload hx hb dX15_readTerm_401 (lv_at hl 0 rfl) ?_
          refine lv_if_eq (tgt := 407) hx hb dX15_readTerm_403 (by decide) (fun c_142 => ?_) (fun c_142 => ?_)
          ·
            have hs5z := c_142
            refine lv_aload_n hx hb dX15_readTerm_407 rfl (lv_at hl 3 rfl) ?_
            refine lv_iload hx hb dX15_readTerm_408 (lv_at hl 1 rfl) ?_
            refine lv_iload_n hx hb dX15_readTerm_410 rfl (lv_at hl 5 rfl) ?_
            obtain ⟨q_143, v_144, hr_q_143, hX_q_143⟩ := hG.2.2 ("PostGateModel", 282, "redirect=", [114, 101, 100, 105, 114, 101, 99, 116, 61]) (by decide +kernel)
            have hX_q_143 : SXc q_143 v_144 9 (cct [114, 101, 100, 105, 114, 101, 99, 116, 61]) A s s.heap := hX_q_143
            obtain ⟨xo_q_143, xc_q_143, xv_q_143, xt_q_143, xn_q_143⟩ := id hX_q_143
            have hr_q_143 : vk_R "PostGateModel" 282 "redirect=" q_143 s := hr_q_143
            refine va_ldcwS hx hb hown hr_q_143 dX15_readTerm_411 ?_
            obtain ⟨hq_145, hq_146⟩ := hW.octs hL_g1 hT_g1
            have hFc := pg_free hD hS hA
            refine va_calli (va_runS (As := [.ref g1, .int (nI kk), .int (nI tt), .ref q_143]) (rest := []) ⟨hx, hb, hml, hown, hts⟩ (s_X15_begins l dC dI cs ty gm L H.size F_137 g1 (ρ + 31) 700 q_143 v_144 9 (cct [114, 101, 100, 105, 114, 101, 99, 116, 61]) kk tt hW hL_g1 hT_g1 (by first | omega | assumption) (by first | omega | assumption)) ⟨callB_of 4 hts (gi kt_733) rfl rfl rfl (hts _ kt_669) (hts _ kt_734) (by decide +kernel) ⟨Nat.le_of_ble_eq_true rfl, Nat.le_of_ble_eq_true rfl⟩, (hts _ kt_735)⟩ ⟨fun a U g mk q => ⟨q.1, PTEm.calling q.2⟩, fun U hU hWm => ⟨rfl, PTEm.mk hU hWm hP hK hD hE hO hG (fun x hx => by rw [List.mem_singleton] at hx; subst hx; exact hX_q_143) hS hFc⟩⟩ rfl rfl hl.1 rfl (lv_room (Nat.le_of_ble_eq_true rfl)) dX15_readTerm_414 ⟨by show _ + 0 ≤ 0; omega, by show _ + 0 ≤ 0; omega⟩) hS (fun q _ h => hFc q h) hFc (fun r_147 u t H1 locs ht hvm hw hB hz1 hk1 hS => ?_)
            obtain ⟨F_148, hB1⟩ := hB
            obtain rfl : F_137 = F_148 := (funext (fun a => hB1.2.2.2 a List.not_mem_nil)).symm
            obtain ⟨hP, hD, hO, hR⟩ := QTm.back hB1 ht hFc hR (fun q h => absurd h List.not_mem_nil)
            generalize H1 = H at hP hS ⊢
            have hw : ((r_147 = 1 ∧ bgP (gA (F_137 g1)) kk tt (cct [114, 101, 100, 105, 114, 101, 99, 116, 61]) 9) ∨ (r_147 = 0 ∧ ¬ bgP (gA (F_137 g1)) kk tt (cct [114, 101, 100, 105, 114, 101, 99, 116, 61]) 9)) := hw
            have hw_149 := hw
            refine lv_if_eq (tgt := 457) hx hb dX15_readTerm_417 (by decide) (fun c_150 => ?_) (fun c_150 => ?_)
            ·
              refine lv_iload hx hb dX15_readTerm_457 (lv_at hl 1 rfl) ?_
              refine lv_istore (lv' := [(6, .int (nI kk)), (5, .int s5), (4, .int (nI kk)), (0, .ref h0), (1, .ref g1), (2, .int (nI a)), (3, .int (nI tt))]) hx hb dX15_readTerm_459 hl (by decide) rfl (fun ls hl => ?_)
              refine W.widen (k := 0) (n := 0) (by omega) (by omega) ?_
              have hF_152 : F g1 = .inl (cs 17, 700, .inl fv) := (hR g1 (by rw [hT_g1]; simp)).symm.trans hF_140
              refine pl_loopm (σ := Nat) A (dC, dI) cs ty gm L [ρ] F 461 7 (fun j => [(6, .int (nI j)), (5, .int s5), (4, .int (nI kk)), (0, .ref h0), (1, .ref g1), (2, .int (nI a)), (3, .int (nI tt))]) (fun j => []) (fun j FF => kk ≤ j ∧ j ≤ tt ∧ FF h0 = .inr (15, (.ref ta) :: (.int (nI zt)) :: (.int (nI zo)) :: (.int (nI ze)) :: (.ref ou) :: (.ref so) :: (.ref ad) :: (.ref na) :: (.ref va) :: (.ref lc) :: (.ref dm) :: (.int v11) :: (.int v12) :: (.ref tg) :: (.int v14) :: (.int v15) :: (.ref pe) :: (.int q17) :: (.int q18) :: (.int q19) :: (.int q20) :: (.int q21) :: (.int q22) :: (.ref ml) :: (.ref bg) :: (.ref co) :: (.ref sp) :: (.ref nb0) :: (.ref nb1) :: (.ref nb2) :: (.int (nI nf)) :: (.int (nI bd)) :: (.int (nI mm)) :: (.int v33) :: (.ref pl) :: (.ref se) :: (.ref ke) :: (.ref wi) :: (.ref hs) :: (.ref mo) :: (.ref po) :: (.ref nu) :: (.ref pr) :: (.ref sq) :: (.ref xa) :: (.ref sa) :: (.ref n64) :: (.ref m64) :: (.ref ex) :: (.ref wh) :: (.ref sd) :: (.ref tk) :: (.int v52) :: (.int v53) :: (.int v54) :: (.ref hd) :: (.ref ak) :: (.ref ho) :: (.ref ot) :: [])) (fun j => tt - j) ?_ kk F_137 (⟨by omega, by omega, hq1⟩) hO hR _ _ hP hD hS ls (lv_sub hl [0, 1, 2, 3, 4, 5, 6] rfl)
              rintro j F_151 hv_153 hO hR ih_154 H locs hP hD hS ls hl
              have hl : lv_has ls 7 [(6, .int (nI j)), (5, .int s5), (4, .int (nI kk)), (0, .ref h0), (1, .ref g1), (2, .int (nI a)), (3, .int (nI tt))] := hl
              have hv_153 : kk ≤ j ∧ j ≤ tt ∧ F_151 h0 = .inr (15, (.ref ta) :: (.int (nI zt)) :: (.int (nI zo)) :: (.int (nI ze)) :: (.ref ou) :: (.ref so) :: (.ref ad) :: (.ref na) :: (.ref va) :: (.ref lc) :: (.ref dm) :: (.int v11) :: (.int v12) :: (.ref tg) :: (.int v14) :: (.int v15) :: (.ref pe) :: (.int q17) :: (.int q18) :: (.int q19) :: (.int q20) :: (.int q21) :: (.int q22) :: (.ref ml) :: (.ref bg) :: (.ref co) :: (.ref sp) :: (.ref nb0) :: (.ref nb1) :: (.ref nb2) :: (.int (nI nf)) :: (.int (nI bd)) :: (.int (nI mm)) :: (.int v33) :: (.ref pl) :: (.ref se) :: (.ref ke) :: (.ref wi) :: (.ref hs) :: (.ref mo) :: (.ref po) :: (.ref nu) :: (.ref pr) :: (.ref sq) :: (.ref xa) :: (.ref sa) :: (.ref n64) :: (.ref m64) :: (.ref ex) :: (.ref wh) :: (.ref sd) :: (.ref tk) :: (.int v52) :: (.int v53) :: (.int v54) :: (.ref hd) :: (.ref ak) :: (.ref ho) :: (.ref ot) :: []) := hv_153
              refine W.eq (g2 := F0 m 461 ls []) rfl ?_
              have hF_155 : F_151 g1 = .inl (cs 17, 700, .inl fv) := (hR g1 (by rw [hT_g1]; simp)).trans hF_152
              obtain ⟨hv1, hv2, hv3⟩ := hv_153
              refine lv_iload hx hb dX15_readTerm_461 (lv_at hl 0 rfl) ?_
              refine lv_iload_n hx hb dX15_readTerm_463 rfl (lv_at hl 6 rfl) ?_
              refine lv_icmp_ge (tgt := 527) hx hb dX15_readTerm_464 (by decide) (fun c_156 => ?_) (fun c_156 => ?_)
              ·
                have hi_157 : tt ≤ j := leN (N := tt) c_156
                refine lv_iload hx hb dX15_readTerm_527 (lv_at hl 0 rfl) ?_
                refine lv_iload hx hb dX15_readTerm_529 (lv_at hl 2 rfl) ?_
                refine lv_icmp_le (tgt := 555) hx hb dX15_readTerm_531 (by decide) (fun c_158 => ?_) (fun c_158 => ?_)
                ·
                  have hi_159 : j ≤ kk := (nI_leI (a := j) (b := kk) (by omega) (by omega)).mp c_158
                  refine W.widen (k := 0) (n := 0) (by omega) (by omega) ?_
                  exact W.vret hx hb hr (fun t ht hWm => ⟨⟨(), rfl, trivial, ⟨F_151, q17, q18, q19, q20, q21, q22, QTm.mk ht hP hD hO hR, hv3, ⟨Or.inr (Or.inr (Or.inl c_141)), fun h6 => absurd (c_141.symm.trans h6) (by decide), fun h9 => absurd (by have h8 := h9.1; rw [← hk3a hs5z, ← gA_fun hF_140] at h8; exact h8) (nm0 hw_149 c_150)⟩⟩⟩, hS.F ht⟩) hS.2.2 dX15_readTerm_555
                ·
                  have hi_160 : kk < j := Nat.not_le.mp (fun q => c_158 ((nI_leI (a := j) (b := kk) (by omega) (by omega)).mpr q))
                  refine lv_iload hx hb dX15_readTerm_534 (lv_at hl 0 rfl) ?_
                  refine lv_iload_n hx hb dX15_readTerm_536 rfl (lv_at hl 6 rfl) ?_
                  refine lv_icmp_ge (tgt := 555) hx hb dX15_readTerm_537 (by decide) (fun c_161 => ?_) (fun c_161 => ?_)
                  ·
                    have hi_162 : tt ≤ j := leN (N := tt) c_161
                    refine W.widen (k := 0) (n := 0) (by omega) (by omega) ?_
                    exact W.vret hx hb hr (fun t ht hWm => ⟨⟨(), rfl, trivial, ⟨F_151, q17, q18, q19, q20, q21, q22, QTm.mk ht hP hD hO hR, hv3, ⟨Or.inr (Or.inr (Or.inl c_141)), fun h6 => absurd (c_141.symm.trans h6) (by decide), fun h9 => absurd (by have h8 := h9.1; rw [← hk3a hs5z, ← gA_fun hF_140] at h8; exact h8) (nm0 hw_149 c_150)⟩⟩⟩, hS.F ht⟩) hS.2.2 dX15_readTerm_555
                  ·
                    have hi_163 : j < tt := ltN (N := tt) c_161
                    refine lv_aload_n hx hb dX15_readTerm_540 rfl (lv_at hl 4 rfl) ?_
                    refine lv_iload hx hb dX15_readTerm_541 (lv_at hl 0 rfl) ?_
                    refine pg_bald hx hb hK hP hL_g1 1 hF_155 rfl (vp_in_nI (by omega) (by omega)) dX15_readTerm_543 ?_
                    refine lv_topi (fun x_164 ex_164 => ?_)
                    obtain rfl : x_164 = fv j := ex_164.trans (congrArg fv (show ((nI j) : Int32).toNatClampNeg = j from nI_clamp (by omega)))
                    refine lv_bipush (v := 61) hx hb dX15_readTerm_544 (by decide) ?_
                    refine lv_icmp_ne (tgt := 555) hx hb dX15_readTerm_546 (by decide) (fun c_165 => ?_) (fun c_165 => ?_)
                    ·
                      refine W.widen (k := 0) (n := 0) (by omega) (by omega) ?_
                      exact W.vret hx hb hr (fun t ht hWm => ⟨⟨(), rfl, trivial, ⟨F_151, q17, q18, q19, q20, q21, q22, QTm.mk ht hP hD hO hR, hv3, ⟨Or.inr (Or.inr (Or.inl c_141)), fun h6 => absurd (c_141.symm.trans h6) (by decide), fun h9 => absurd (by have h8 := h9.1; rw [← hk3a hs5z, ← gA_fun hF_140] at h8; exact h8) (nm0 hw_149 c_150)⟩⟩⟩, hS.F ht⟩) hS.2.2 dX15_readTerm_555
                    ·
                      refine lv_aload_n hx hb dX15_readTerm_549 rfl (lv_at hl 3 rfl) ?_
                      refine lv_bipush (v := 7) hx hb dX15_readTerm_550 (by decide) ?_
                      refine pg_put (ci := 15) (v := .int 7) (ty := .int) (C := RX15) (T := TX15) (N := 59) hx hb hts it_15 tyX15 tyX15_ok nmX15 hown hK hP hD hS hL_h0 hv3 rfl 17 (by decide) (hts _ kt_750) (fun _ h9 => h9) rfl (by decide +kernel) (rfl) (rfl) (Nat.le_of_ble_eq_true rfl) dX15_readTerm_552 (fun H locs hP hD hS => ?_)
                      obtain ⟨F_166, he_167, hP, hD, hO, hR⟩ : ∃ G, G = va_up F_151 h0 (.inr (15, (.ref ta) :: (.int (nI zt)) :: (.int (nI zo)) :: (.int (nI ze)) :: (.ref ou) :: (.ref so) :: (.ref ad) :: (.ref na) :: (.ref va) :: (.ref lc) :: (.ref dm) :: (.int v11) :: (.int v12) :: (.ref tg) :: (.int v14) :: (.int v15) :: (.ref pe) :: (.int 7) :: (.int q18) :: (.int q19) :: (.int q20) :: (.int q21) :: (.int q22) :: (.ref ml) :: (.ref bg) :: (.ref co) :: (.ref sp) :: (.ref nb0) :: (.ref nb1) :: (.ref nb2) :: (.int (nI nf)) :: (.int (nI bd)) :: (.int (nI mm)) :: (.int v33) :: (.ref pl) :: (.ref se) :: (.ref ke) :: (.ref wi) :: (.ref hs) :: (.ref mo) :: (.ref po) :: (.ref nu) :: (.ref pr) :: (.ref sq) :: (.ref xa) :: (.ref sa) :: (.ref n64) :: (.ref m64) :: (.ref ex) :: (.ref wh) :: (.ref sd) :: (.ref tk) :: (.int v52) :: (.int v53) :: (.int v54) :: (.ref hd) :: (.ref ak) :: (.ref ho) :: (.ref ot) :: [])) ∧ va_P (dC, dI) vwCl (va_pl L G) H ∧ va_D A (va_pl L G) ∧ OKm cs ty gm L G ∧ FR ty [ρ] F G := ⟨_, rfl, hP, hD, hO.up (shm.mod hT_h0 ⟨zo, ze, v11, v12, v14, v15, 7, q18, q19, q20, q21, q22, v33, v52, v53, v54, rfl, (by first | omega | assumption | exact Or.inl rfl | exact Or.inr rfl), (by first | omega | assumption | exact Or.inl rfl | exact Or.inr rfl), (by first | omega | assumption | exact Or.inl rfl | exact Or.inr rfl), (by first | omega | assumption | exact Or.inl rfl | exact Or.inr rfl)⟩), hR.up hT_h0 (by simp)⟩
                      have hF_168 : F_166 h0 = .inr (15, (.ref ta) :: (.int (nI zt)) :: (.int (nI zo)) :: (.int (nI ze)) :: (.ref ou) :: (.ref so) :: (.ref ad) :: (.ref na) :: (.ref va) :: (.ref lc) :: (.ref dm) :: (.int v11) :: (.int v12) :: (.ref tg) :: (.int v14) :: (.int v15) :: (.ref pe) :: (.int 7) :: (.int q18) :: (.int q19) :: (.int q20) :: (.int q21) :: (.int q22) :: (.ref ml) :: (.ref bg) :: (.ref co) :: (.ref sp) :: (.ref nb0) :: (.ref nb1) :: (.ref nb2) :: (.int (nI nf)) :: (.int (nI bd)) :: (.int (nI mm)) :: (.int v33) :: (.ref pl) :: (.ref se) :: (.ref ke) :: (.ref wi) :: (.ref hs) :: (.ref mo) :: (.ref po) :: (.ref nu) :: (.ref pr) :: (.ref sq) :: (.ref xa) :: (.ref sa) :: (.ref n64) :: (.ref m64) :: (.ref ex) :: (.ref wh) :: (.ref sd) :: (.ref tk) :: (.int v52) :: (.int v53) :: (.int v54) :: (.ref hd) :: (.ref ak) :: (.ref ho) :: (.ref ot) :: []) := by rw [he_167]; exact up_self
                      have hF_169 : F_166 g1 = .inl (cs 17, 700, .inl fv) := by rw [he_167, up_ne (ne_ty hT_g1 hT_h0 (by simp))]; exact hF_155
                      refine W.widen (k := 0) (n := 0) (by omega) (by omega) ?_
                      exact W.vret hx hb hr (fun t ht hWm => ⟨⟨(), rfl, trivial, ⟨F_166, 7, q18, q19, q20, q21, q22, QTm.mk ht hP hD hO hR, hF_168, ⟨Or.inr (Or.inl rfl), fun h6 => absurd h6 (by decide), fun h9 => absurd (by have h8 := h9.1; rw [← hk3a hs5z, ← gA_fun hF_140] at h8; exact h8) (nm0 hw_149 c_150)⟩⟩⟩, hS.F ht⟩) hS.2.2 dX15_readTerm_555
              ·
                have hi_170 : j < tt := ltN (N := tt) c_156
                have hF_173 : F g1 = .inl (cs 17, 700, .inl fv) := (hR g1 (by rw [hT_g1]; simp)).symm.trans hF_155
                refine W.widen (k := 0) (n := 0) (by omega) (by omega) ?_
                refine pl_cutm (σ := Unit) A (dC, dI) cs ty gm L [ρ] F 521 7 (fun u0 => [(6, .int (nI j)), (5, .int s5), (4, .int (nI kk)), (0, .ref h0), (1, .ref g1), (2, .int (nI a)), (3, .int (nI tt))]) (fun u0 => []) (fun u0 FF => FF h0 = .inr (15, (.ref ta) :: (.int (nI zt)) :: (.int (nI zo)) :: (.int (nI ze)) :: (.ref ou) :: (.ref so) :: (.ref ad) :: (.ref na) :: (.ref va) :: (.ref lc) :: (.ref dm) :: (.int v11) :: (.int v12) :: (.ref tg) :: (.int v14) :: (.int v15) :: (.ref pe) :: (.int q17) :: (.int q18) :: (.int q19) :: (.int q20) :: (.int q21) :: (.int q22) :: (.ref ml) :: (.ref bg) :: (.ref co) :: (.ref sp) :: (.ref nb0) :: (.ref nb1) :: (.ref nb2) :: (.int (nI nf)) :: (.int (nI bd)) :: (.int (nI mm)) :: (.int v33) :: (.ref pl) :: (.ref se) :: (.ref ke) :: (.ref wi) :: (.ref hs) :: (.ref mo) :: (.ref po) :: (.ref nu) :: (.ref pr) :: (.ref sq) :: (.ref xa) :: (.ref sa) :: (.ref n64) :: (.ref m64) :: (.ref ex) :: (.ref wh) :: (.ref sd) :: (.ref tk) :: (.int v52) :: (.int v53) :: (.int v54) :: (.ref hd) :: (.ref ak) :: (.ref ho) :: (.ref ot) :: [])) ?_ (fun jn_171 => ?_)
                ·
                  rintro u0 F_172 hv_174 hO hR H locs hP hD hS ls hl
                  have hl : lv_has ls 7 [(6, .int (nI j)), (5, .int s5), (4, .int (nI kk)), (0, .ref h0), (1, .ref g1), (2, .int (nI a)), (3, .int (nI tt))] := hl
                  have hv_174 : F_172 h0 = .inr (15, (.ref ta) :: (.int (nI zt)) :: (.int (nI zo)) :: (.int (nI ze)) :: (.ref ou) :: (.ref so) :: (.ref ad) :: (.ref na) :: (.ref va) :: (.ref lc) :: (.ref dm) :: (.int v11) :: (.int v12) :: (.ref tg) :: (.int v14) :: (.int v15) :: (.ref pe) :: (.int q17) :: (.int q18) :: (.int q19) :: (.int q20) :: (.int q21) :: (.int q22) :: (.ref ml) :: (.ref bg) :: (.ref co) :: (.ref sp) :: (.ref nb0) :: (.ref nb1) :: (.ref nb2) :: (.int (nI nf)) :: (.int (nI bd)) :: (.int (nI mm)) :: (.int v33) :: (.ref pl) :: (.ref se) :: (.ref ke) :: (.ref wi) :: (.ref hs) :: (.ref mo) :: (.ref po) :: (.ref nu) :: (.ref pr) :: (.ref sq) :: (.ref xa) :: (.ref sa) :: (.ref n64) :: (.ref m64) :: (.ref ex) :: (.ref wh) :: (.ref sd) :: (.ref tk) :: (.int v52) :: (.int v53) :: (.int v54) :: (.ref hd) :: (.ref ak) :: (.ref ho) :: (.ref ot) :: []) := hv_174
                  refine W.eq (g2 := F0 m 521 ls []) rfl ?_
                  have hF_175 : F_172 g1 = .inl (cs 17, 700, .inl fv) := (hR g1 (by rw [hT_g1]; simp)).trans hF_173
                  refine lv_iinc (v := (nI (j + 1))) (lv' := [(6, .int (nI (j + 1))), (5, .int s5), (4, .int (nI kk)), (0, .ref h0), (1, .ref g1), (2, .int (nI a)), (3, .int (nI tt))]) hx hb dX15_readTerm_521 hl (k := 0) rfl (nI_1 _) (by decide) rfl (fun ls hl => ?_)
                  refine lv_goto (tgt := 461) hx hb dX15_readTerm_524 (by decide) ?_
                  refine W.widen (k := 0) (n := 0) (by omega) (by omega) ?_
                  exact ih_154 (j + 1) F_172 (⟨by omega, by omega, hv_174⟩) (by show tt - (j + 1) < tt - j; omega) hO hR _ _ hP hD hS ls (lv_sub hl [0, 1, 2, 3, 4, 5, 6] rfl)
                ·
                  refine lv_aload_n hx hb dX15_readTerm_467 rfl (lv_at hl 4 rfl) ?_
                  refine lv_iload hx hb dX15_readTerm_468 (lv_at hl 0 rfl) ?_
                  refine pg_bald hx hb hK hP hL_g1 1 hF_155 rfl (vp_in_nI (by omega) (by omega)) dX15_readTerm_470 ?_
                  refine lv_topi (fun x_176 ex_176 => ?_)
                  obtain rfl : x_176 = fv j := ex_176.trans (congrArg fv (show ((nI j) : Int32).toNatClampNeg = j from nI_clamp (by omega)))
                  have hFc := pg_free hD hS hA
                  refine va_calli (va_runS (As := [.int (fv j)]) (rest := []) ⟨hx, hb, hml, hown, hts⟩ (s_X15_isSmall l dC dI cs ty gm L H.size F_151 (fv j) hW ) ⟨callB_of 1 hts (gi kt_668) rfl rfl rfl (hts _ kt_669) (hts _ kt_670) (by decide +kernel) ⟨Nat.le_of_ble_eq_true rfl, Nat.le_of_ble_eq_true rfl⟩, (hts _ kt_671)⟩ ⟨fun a U g mk q => ⟨q.1, PTm.calling q.2⟩, fun U hU hWm => ⟨rfl, PTm.mk hU hWm hP hK hD hE hO⟩⟩ rfl rfl hl.1 rfl (lv_room (Nat.le_of_ble_eq_true rfl)) dX15_readTerm_471 ⟨by show _ + 0 ≤ 0; omega, by show _ + 0 ≤ 0; omega⟩) hS (fun q _ h => hFc q h) hFc (fun r_177 u t H1 locs ht hvm hw hB hz1 hk1 hS => ?_)
                  obtain ⟨F_178, hB1⟩ := hB
                  obtain rfl : F_151 = F_178 := (funext (fun a => hB1.2.2.2 a List.not_mem_nil)).symm
                  obtain ⟨hP, hD, hO, hR⟩ := QTm.back hB1 ht hFc hR (fun q h => absurd h List.not_mem_nil)
                  generalize H1 = H at hP hS ⊢
                  have hw : (r_177 = 0 ∨ r_177 = 1) := hw
                  have hw_179 := hw
                  refine lv_if_ne (tgt := 521) hx hb dX15_readTerm_474 (by decide) (fun c_180 => ?_) (fun c_180 => ?_)
                  ·
                    refine W.widen (k := 0) (n := 0) (by omega) (by omega) ?_
                    exact jn_171 () F_151 (hv3) hO hR _ _ hP hD hS ls (lv_sub hl [0, 1, 2, 3, 4, 5, 6] rfl)
                  ·
                    refine lv_iload hx hb dX15_readTerm_477 (lv_at hl 0 rfl) ?_
                    refine lv_iload hx hb dX15_readTerm_479 (lv_at hl 2 rfl) ?_
                    refine lv_icmp_le (tgt := 527) hx hb dX15_readTerm_481 (by decide) (fun c_181 => ?_) (fun c_181 => ?_)
                    ·
                      have hi_182 : j ≤ kk := (nI_leI (a := j) (b := kk) (by omega) (by omega)).mp c_181
                      refine lv_iload hx hb dX15_readTerm_527 (lv_at hl 0 rfl) ?_
                      refine lv_iload hx hb dX15_readTerm_529 (lv_at hl 2 rfl) ?_
                      refine lv_icmp_le (tgt := 555) hx hb dX15_readTerm_531 (by decide) (fun c_183 => ?_) (fun c_183 => ?_)
                      ·
                        have hi_184 : j ≤ kk := (nI_leI (a := j) (b := kk) (by omega) (by omega)).mp c_183
                        refine W.widen (k := 0) (n := 0) (by omega) (by omega) ?_
                        exact W.vret hx hb hr (fun t ht hWm => ⟨⟨(), rfl, trivial, ⟨F_151, q17, q18, q19, q20, q21, q22, QTm.mk ht hP hD hO hR, hv3, ⟨Or.inr (Or.inr (Or.inl c_141)), fun h6 => absurd (c_141.symm.trans h6) (by decide), fun h9 => absurd (by have h8 := h9.1; rw [← hk3a hs5z, ← gA_fun hF_140] at h8; exact h8) (nm0 hw_149 c_150)⟩⟩⟩, hS.F ht⟩) hS.2.2 dX15_readTerm_555
                      ·
                        have hi_185 : kk < j := Nat.not_le.mp (fun q => c_183 ((nI_leI (a := j) (b := kk) (by omega) (by omega)).mpr q))
                        refine lv_iload hx hb dX15_readTerm_534 (lv_at hl 0 rfl) ?_
                        refine lv_iload_n hx hb dX15_readTerm_536 rfl (lv_at hl 6 rfl) ?_
                        refine lv_icmp_ge (tgt := 555) hx hb dX15_readTerm_537 (by decide) (fun c_186 => ?_) (fun c_186 => ?_)
                        ·
                          have hi_187 : tt ≤ j := leN (N := tt) c_186
                          refine W.widen (k := 0) (n := 0) (by omega) (by omega) ?_
                          exact W.vret hx hb hr (fun t ht hWm => ⟨⟨(), rfl, trivial, ⟨F_151, q17, q18, q19, q20, q21, q22, QTm.mk ht hP hD hO hR, hv3, ⟨Or.inr (Or.inr (Or.inl c_141)), fun h6 => absurd (c_141.symm.trans h6) (by decide), fun h9 => absurd (by have h8 := h9.1; rw [← hk3a hs5z, ← gA_fun hF_140] at h8; exact h8) (nm0 hw_149 c_150)⟩⟩⟩, hS.F ht⟩) hS.2.2 dX15_readTerm_555
                        ·
                          have hi_188 : j < tt := ltN (N := tt) c_186
                          refine lv_aload_n hx hb dX15_readTerm_540 rfl (lv_at hl 4 rfl) ?_
                          refine lv_iload hx hb dX15_readTerm_541 (lv_at hl 0 rfl) ?_
                          refine pg_bald hx hb hK hP hL_g1 1 hF_155 rfl (vp_in_nI (by omega) (by omega)) dX15_readTerm_543 ?_
                          refine lv_topi (fun x_189 ex_189 => ?_)
                          obtain rfl : x_189 = fv j := ex_189.trans (congrArg fv (show ((nI j) : Int32).toNatClampNeg = j from nI_clamp (by omega)))
                          refine lv_bipush (v := 61) hx hb dX15_readTerm_544 (by decide) ?_
                          refine lv_icmp_ne (tgt := 555) hx hb dX15_readTerm_546 (by decide) (fun c_190 => ?_) (fun c_190 => ?_)
                          ·
                            refine W.widen (k := 0) (n := 0) (by omega) (by omega) ?_
                            exact W.vret hx hb hr (fun t ht hWm => ⟨⟨(), rfl, trivial, ⟨F_151, q17, q18, q19, q20, q21, q22, QTm.mk ht hP hD hO hR, hv3, ⟨Or.inr (Or.inr (Or.inl c_141)), fun h6 => absurd (c_141.symm.trans h6) (by decide), fun h9 => absurd (by have h8 := h9.1; rw [← hk3a hs5z, ← gA_fun hF_140] at h8; exact h8) (nm0 hw_149 c_150)⟩⟩⟩, hS.F ht⟩) hS.2.2 dX15_readTerm_555
                          ·
                            refine lv_aload_n hx hb dX15_readTerm_549 rfl (lv_at hl 3 rfl) ?_
                            refine lv_bipush (v := 7) hx hb dX15_readTerm_550 (by decide) ?_
                            refine pg_put (ci := 15) (v := .int 7) (ty := .int) (C := RX15) (T := TX15) (N := 59) hx hb hts it_15 tyX15 tyX15_ok nmX15 hown hK hP hD hS hL_h0 hv3 rfl 17 (by decide) (hts _ kt_750) (fun _ h9 => h9) rfl (by decide +kernel) (rfl) (rfl) (Nat.le_of_ble_eq_true rfl) dX15_readTerm_552 (fun H locs hP hD hS => ?_)
                            obtain ⟨F_191, he_192, hP, hD, hO, hR⟩ : ∃ G, G = va_up F_151 h0 (.inr (15, (.ref ta) :: (.int (nI zt)) :: (.int (nI zo)) :: (.int (nI ze)) :: (.ref ou) :: (.ref so) :: (.ref ad) :: (.ref na) :: (.ref va) :: (.ref lc) :: (.ref dm) :: (.int v11) :: (.int v12) :: (.ref tg) :: (.int v14) :: (.int v15) :: (.ref pe) :: (.int 7) :: (.int q18) :: (.int q19) :: (.int q20) :: (.int q21) :: (.int q22) :: (.ref ml) :: (.ref bg) :: (.ref co) :: (.ref sp) :: (.ref nb0) :: (.ref nb1) :: (.ref nb2) :: (.int (nI nf)) :: (.int (nI bd)) :: (.int (nI mm)) :: (.int v33) :: (.ref pl) :: (.ref se) :: (.ref ke) :: (.ref wi) :: (.ref hs) :: (.ref mo) :: (.ref po) :: (.ref nu) :: (.ref pr) :: (.ref sq) :: (.ref xa) :: (.ref sa) :: (.ref n64) :: (.ref m64) :: (.ref ex) :: (.ref wh) :: (.ref sd) :: (.ref tk) :: (.int v52) :: (.int v53) :: (.int v54) :: (.ref hd) :: (.ref ak) :: (.ref ho) :: (.ref ot) :: [])) ∧ va_P (dC, dI) vwCl (va_pl L G) H ∧ va_D A (va_pl L G) ∧ OKm cs ty gm L G ∧ FR ty [ρ] F G := ⟨_, rfl, hP, hD, hO.up (shm.mod hT_h0 ⟨zo, ze, v11, v12, v14, v15, 7, q18, q19, q20, q21, q22, v33, v52, v53, v54, rfl, (by first | omega | assumption | exact Or.inl rfl | exact Or.inr rfl), (by first | omega | assumption | exact Or.inl rfl | exact Or.inr rfl), (by first | omega | assumption | exact Or.inl rfl | exact Or.inr rfl), (by first | omega | assumption | exact Or.inl rfl | exact Or.inr rfl)⟩), hR.up hT_h0 (by simp)⟩
                            have hF_193 : F_191 h0 = .inr (15, (.ref ta) :: (.int (nI zt)) :: (.int (nI zo)) :: (.int (nI ze)) :: (.ref ou) :: (.ref so) :: (.ref ad) :: (.ref na) :: (.ref va) :: (.ref lc) :: (.ref dm) :: (.int v11) :: (.int v12) :: (.ref tg) :: (.int v14) :: (.int v15) :: (.ref pe) :: (.int 7) :: (.int q18) :: (.int q19) :: (.int q20) :: (.int q21) :: (.int q22) :: (.ref ml) :: (.ref bg) :: (.ref co) :: (.ref sp) :: (.ref nb0) :: (.ref nb1) :: (.ref nb2) :: (.int (nI nf)) :: (.int (nI bd)) :: (.int (nI mm)) :: (.int v33) :: (.ref pl) :: (.ref se) :: (.ref ke) :: (.ref wi) :: (.ref hs) :: (.ref mo) :: (.ref po) :: (.ref nu) :: (.ref pr) :: (.ref sq) :: (.ref xa) :: (.ref sa) :: (.ref n64) :: (.ref m64) :: (.ref ex) :: (.ref wh) :: (.ref sd) :: (.ref tk) :: (.int v52) :: (.int v53) :: (.int v54) :: (.ref hd) :: (.ref ak) :: (.ref ho) :: (.ref ot) :: []) := by rw [he_192]; exact up_self
                            have hF_194 : F_191 g1 = .inl (cs 17, 700, .inl fv) := by rw [he_192, up_ne (ne_ty hT_g1 hT_h0 (by simp))]; exact hF_155
                            refine W.widen (k := 0) (n := 0) (by omega) (by omega) ?_
                            exact W.vret hx hb hr (fun t ht hWm => ⟨⟨(), rfl, trivial, ⟨F_191, 7, q18, q19, q20, q21, q22, QTm.mk ht hP hD hO hR, hF_193, ⟨Or.inr (Or.inl rfl), fun h6 => absurd h6 (by decide), fun h9 => absurd (by have h8 := h9.1; rw [← hk3a hs5z, ← gA_fun hF_140] at h8; exact h8) (nm0 hw_149 c_150)⟩⟩⟩, hS.F ht⟩) hS.2.2 dX15_readTerm_555
                    ·
                      have hi_195 : kk < j := Nat.not_le.mp (fun q => c_181 ((nI_leI (a := j) (b := kk) (by omega) (by omega)).mpr q))
                      refine lv_aload_n hx hb dX15_readTerm_484 rfl (lv_at hl 4 rfl) ?_
                      refine lv_iload hx hb dX15_readTerm_485 (lv_at hl 0 rfl) ?_
                      refine pg_bald hx hb hK hP hL_g1 1 hF_155 rfl (vp_in_nI (by omega) (by omega)) dX15_readTerm_487 ?_
                      refine lv_topi (fun x_196 ex_196 => ?_)
                      obtain rfl : x_196 = fv j := ex_196.trans (congrArg fv (show ((nI j) : Int32).toNatClampNeg = j from nI_clamp (by omega)))
                      have hFc := pg_free hD hS hA
                      refine va_calli (va_runS (As := [.int (fv j)]) (rest := []) ⟨hx, hb, hml, hown, hts⟩ (s_X15_isDigit l dC dI cs ty gm L H.size F_151 (fv j) hW ) ⟨callB_of 1 hts (gi kt_687) rfl rfl rfl (hts _ kt_669) (hts _ kt_707) (by decide +kernel) ⟨Nat.le_of_ble_eq_true rfl, Nat.le_of_ble_eq_true rfl⟩, (hts _ kt_688)⟩ ⟨fun a U g mk q => ⟨q.1, PTm.calling q.2⟩, fun U hU hWm => ⟨rfl, PTm.mk hU hWm hP hK hD hE hO⟩⟩ rfl rfl hl.1 rfl (lv_room (Nat.le_of_ble_eq_true rfl)) dX15_readTerm_488 ⟨by show _ + 0 ≤ 0; omega, by show _ + 0 ≤ 0; omega⟩) hS (fun q _ h => hFc q h) hFc (fun r_197 u t H1 locs ht hvm hw hB hz1 hk1 hS => ?_)
                      obtain ⟨F_198, hB1⟩ := hB
                      obtain rfl : F_151 = F_198 := (funext (fun a => hB1.2.2.2 a List.not_mem_nil)).symm
                      obtain ⟨hP, hD, hO, hR⟩ := QTm.back hB1 ht hFc hR (fun q h => absurd h List.not_mem_nil)
                      generalize H1 = H at hP hS ⊢
                      have hw : (r_197 = 0 ∨ r_197 = 1) := hw
                      have hw_199 := hw
                      refine lv_if_ne (tgt := 521) hx hb dX15_readTerm_491 (by decide) (fun c_200 => ?_) (fun c_200 => ?_)
                      ·
                        refine W.widen (k := 0) (n := 0) (by omega) (by omega) ?_
                        exact jn_171 () F_151 (hv3) hO hR _ _ hP hD hS ls (lv_sub hl [0, 1, 2, 3, 4, 5, 6] rfl)
                      ·
                        refine lv_aload_n hx hb dX15_readTerm_494 rfl (lv_at hl 4 rfl) ?_
                        refine lv_iload hx hb dX15_readTerm_495 (lv_at hl 0 rfl) ?_
                        refine pg_bald hx hb hK hP hL_g1 1 hF_155 rfl (vp_in_nI (by omega) (by omega)) dX15_readTerm_497 ?_
                        refine lv_topi (fun x_201 ex_201 => ?_)
                        obtain rfl : x_201 = fv j := ex_201.trans (congrArg fv (show ((nI j) : Int32).toNatClampNeg = j from nI_clamp (by omega)))
                        refine lv_bipush (v := 45) hx hb dX15_readTerm_498 (by decide) ?_
                        refine lv_icmp_eq (tgt := 521) hx hb dX15_readTerm_500 (by decide) (fun c_202 => ?_) (fun c_202 => ?_)
                        ·
                          refine W.widen (k := 0) (n := 0) (by omega) (by omega) ?_
                          exact jn_171 () F_151 (hv3) hO hR _ _ hP hD hS ls (lv_sub hl [0, 1, 2, 3, 4, 5, 6] rfl)
                        ·
                          refine lv_aload_n hx hb dX15_readTerm_503 rfl (lv_at hl 4 rfl) ?_
                          refine lv_iload hx hb dX15_readTerm_504 (lv_at hl 0 rfl) ?_
                          refine pg_bald hx hb hK hP hL_g1 1 hF_155 rfl (vp_in_nI (by omega) (by omega)) dX15_readTerm_506 ?_
                          refine lv_topi (fun x_203 ex_203 => ?_)
                          obtain rfl : x_203 = fv j := ex_203.trans (congrArg fv (show ((nI j) : Int32).toNatClampNeg = j from nI_clamp (by omega)))
                          refine lv_bipush (v := 95) hx hb dX15_readTerm_507 (by decide) ?_
                          refine lv_icmp_eq (tgt := 521) hx hb dX15_readTerm_509 (by decide) (fun c_204 => ?_) (fun c_204 => ?_)
                          ·
                            refine W.widen (k := 0) (n := 0) (by omega) (by omega) ?_
                            exact jn_171 () F_151 (hv3) hO hR _ _ hP hD hS ls (lv_sub hl [0, 1, 2, 3, 4, 5, 6] rfl)
                          ·
                            refine lv_aload_n hx hb dX15_readTerm_512 rfl (lv_at hl 4 rfl) ?_
                            refine lv_iload hx hb dX15_readTerm_513 (lv_at hl 0 rfl) ?_
                            refine pg_bald hx hb hK hP hL_g1 1 hF_155 rfl (vp_in_nI (by omega) (by omega)) dX15_readTerm_515 ?_
                            refine lv_topi (fun x_205 ex_205 => ?_)
                            obtain rfl : x_205 = fv j := ex_205.trans (congrArg fv (show ((nI j) : Int32).toNatClampNeg = j from nI_clamp (by omega)))
                            refine lv_bipush (v := 46) hx hb dX15_readTerm_516 (by decide) ?_
                            refine lv_icmp_ne (tgt := 527) hx hb dX15_readTerm_518 (by decide) (fun c_206 => ?_) (fun c_206 => ?_)
                            ·
                              refine lv_iload hx hb dX15_readTerm_527 (lv_at hl 0 rfl) ?_
                              refine lv_iload hx hb dX15_readTerm_529 (lv_at hl 2 rfl) ?_
                              refine lv_icmp_le (tgt := 555) hx hb dX15_readTerm_531 (by decide) (fun c_207 => ?_) (fun c_207 => ?_)
                              ·
                                have hi_208 : j ≤ kk := (nI_leI (a := j) (b := kk) (by omega) (by omega)).mp c_207
                                refine W.widen (k := 0) (n := 0) (by omega) (by omega) ?_
                                exact W.vret hx hb hr (fun t ht hWm => ⟨⟨(), rfl, trivial, ⟨F_151, q17, q18, q19, q20, q21, q22, QTm.mk ht hP hD hO hR, hv3, ⟨Or.inr (Or.inr (Or.inl c_141)), fun h6 => absurd (c_141.symm.trans h6) (by decide), fun h9 => absurd (by have h8 := h9.1; rw [← hk3a hs5z, ← gA_fun hF_140] at h8; exact h8) (nm0 hw_149 c_150)⟩⟩⟩, hS.F ht⟩) hS.2.2 dX15_readTerm_555
                              ·
                                have hi_209 : kk < j := Nat.not_le.mp (fun q => c_207 ((nI_leI (a := j) (b := kk) (by omega) (by omega)).mpr q))
                                refine lv_iload hx hb dX15_readTerm_534 (lv_at hl 0 rfl) ?_
                                refine lv_iload_n hx hb dX15_readTerm_536 rfl (lv_at hl 6 rfl) ?_
                                refine lv_icmp_ge (tgt := 555) hx hb dX15_readTerm_537 (by decide) (fun c_210 => ?_) (fun c_210 => ?_)
                                ·
                                  have hi_211 : tt ≤ j := leN (N := tt) c_210
                                  refine W.widen (k := 0) (n := 0) (by omega) (by omega) ?_
                                  exact W.vret hx hb hr (fun t ht hWm => ⟨⟨(), rfl, trivial, ⟨F_151, q17, q18, q19, q20, q21, q22, QTm.mk ht hP hD hO hR, hv3, ⟨Or.inr (Or.inr (Or.inl c_141)), fun h6 => absurd (c_141.symm.trans h6) (by decide), fun h9 => absurd (by have h8 := h9.1; rw [← hk3a hs5z, ← gA_fun hF_140] at h8; exact h8) (nm0 hw_149 c_150)⟩⟩⟩, hS.F ht⟩) hS.2.2 dX15_readTerm_555
                                ·
                                  have hi_212 : j < tt := ltN (N := tt) c_210
                                  refine lv_aload_n hx hb dX15_readTerm_540 rfl (lv_at hl 4 rfl) ?_
                                  refine lv_iload hx hb dX15_readTerm_541 (lv_at hl 0 rfl) ?_
                                  refine pg_bald hx hb hK hP hL_g1 1 hF_155 rfl (vp_in_nI (by omega) (by omega)) dX15_readTerm_543 ?_
                                  refine lv_topi (fun x_213 ex_213 => ?_)
                                  obtain rfl : x_213 = fv j := ex_213.trans (congrArg fv (show ((nI j) : Int32).toNatClampNeg = j from nI_clamp (by omega)))
                                  refine lv_bipush (v := 61) hx hb dX15_readTerm_544 (by decide) ?_
                                  refine lv_icmp_ne (tgt := 555) hx hb dX15_readTerm_546 (by decide) (fun c_214 => ?_) (fun c_214 => ?_)
                                  ·
                                    refine W.widen (k := 0) (n := 0) (by omega) (by omega) ?_
                                    exact W.vret hx hb hr (fun t ht hWm => ⟨⟨(), rfl, trivial, ⟨F_151, q17, q18, q19, q20, q21, q22, QTm.mk ht hP hD hO hR, hv3, ⟨Or.inr (Or.inr (Or.inl c_141)), fun h6 => absurd (c_141.symm.trans h6) (by decide), fun h9 => absurd (by have h8 := h9.1; rw [← hk3a hs5z, ← gA_fun hF_140] at h8; exact h8) (nm0 hw_149 c_150)⟩⟩⟩, hS.F ht⟩) hS.2.2 dX15_readTerm_555
                                  ·
                                    refine lv_aload_n hx hb dX15_readTerm_549 rfl (lv_at hl 3 rfl) ?_
                                    refine lv_bipush (v := 7) hx hb dX15_readTerm_550 (by decide) ?_
                                    refine pg_put (ci := 15) (v := .int 7) (ty := .int) (C := RX15) (T := TX15) (N := 59) hx hb hts it_15 tyX15 tyX15_ok nmX15 hown hK hP hD hS hL_h0 hv3 rfl 17 (by decide) (hts _ kt_750) (fun _ h9 => h9) rfl (by decide +kernel) (rfl) (rfl) (Nat.le_of_ble_eq_true rfl) dX15_readTerm_552 (fun H locs hP hD hS => ?_)
                                    obtain ⟨F_215, he_216, hP, hD, hO, hR⟩ : ∃ G, G = va_up F_151 h0 (.inr (15, (.ref ta) :: (.int (nI zt)) :: (.int (nI zo)) :: (.int (nI ze)) :: (.ref ou) :: (.ref so) :: (.ref ad) :: (.ref na) :: (.ref va) :: (.ref lc) :: (.ref dm) :: (.int v11) :: (.int v12) :: (.ref tg) :: (.int v14) :: (.int v15) :: (.ref pe) :: (.int 7) :: (.int q18) :: (.int q19) :: (.int q20) :: (.int q21) :: (.int q22) :: (.ref ml) :: (.ref bg) :: (.ref co) :: (.ref sp) :: (.ref nb0) :: (.ref nb1) :: (.ref nb2) :: (.int (nI nf)) :: (.int (nI bd)) :: (.int (nI mm)) :: (.int v33) :: (.ref pl) :: (.ref se) :: (.ref ke) :: (.ref wi) :: (.ref hs) :: (.ref mo) :: (.ref po) :: (.ref nu) :: (.ref pr) :: (.ref sq) :: (.ref xa) :: (.ref sa) :: (.ref n64) :: (.ref m64) :: (.ref ex) :: (.ref wh) :: (.ref sd) :: (.ref tk) :: (.int v52) :: (.int v53) :: (.int v54) :: (.ref hd) :: (.ref ak) :: (.ref ho) :: (.ref ot) :: [])) ∧ va_P (dC, dI) vwCl (va_pl L G) H ∧ va_D A (va_pl L G) ∧ OKm cs ty gm L G ∧ FR ty [ρ] F G := ⟨_, rfl, hP, hD, hO.up (shm.mod hT_h0 ⟨zo, ze, v11, v12, v14, v15, 7, q18, q19, q20, q21, q22, v33, v52, v53, v54, rfl, (by first | omega | assumption | exact Or.inl rfl | exact Or.inr rfl), (by first | omega | assumption | exact Or.inl rfl | exact Or.inr rfl), (by first | omega | assumption | exact Or.inl rfl | exact Or.inr rfl), (by first | omega | assumption | exact Or.inl rfl | exact Or.inr rfl)⟩), hR.up hT_h0 (by simp)⟩
                                    have hF_217 : F_215 h0 = .inr (15, (.ref ta) :: (.int (nI zt)) :: (.int (nI zo)) :: (.int (nI ze)) :: (.ref ou) :: (.ref so) :: (.ref ad) :: (.ref na) :: (.ref va) :: (.ref lc) :: (.ref dm) :: (.int v11) :: (.int v12) :: (.ref tg) :: (.int v14) :: (.int v15) :: (.ref pe) :: (.int 7) :: (.int q18) :: (.int q19) :: (.int q20) :: (.int q21) :: (.int q22) :: (.ref ml) :: (.ref bg) :: (.ref co) :: (.ref sp) :: (.ref nb0) :: (.ref nb1) :: (.ref nb2) :: (.int (nI nf)) :: (.int (nI bd)) :: (.int (nI mm)) :: (.int v33) :: (.ref pl) :: (.ref se) :: (.ref ke) :: (.ref wi) :: (.ref hs) :: (.ref mo) :: (.ref po) :: (.ref nu) :: (.ref pr) :: (.ref sq) :: (.ref xa) :: (.ref sa) :: (.ref n64) :: (.ref m64) :: (.ref ex) :: (.ref wh) :: (.ref sd) :: (.ref tk) :: (.int v52) :: (.int v53) :: (.int v54) :: (.ref hd) :: (.ref ak) :: (.ref ho) :: (.ref ot) :: []) := by rw [he_216]; exact up_self
                                    have hF_218 : F_215 g1 = .inl (cs 17, 700, .inl fv) := by rw [he_216, up_ne (ne_ty hT_g1 hT_h0 (by simp))]; exact hF_155
                                    refine W.widen (k := 0) (n := 0) (by omega) (by omega) ?_
                                    exact W.vret hx hb hr (fun t ht hWm => ⟨⟨(), rfl, trivial, ⟨F_215, 7, q18, q19, q20, q21, q22, QTm.mk ht hP hD hO hR, hF_217, ⟨Or.inr (Or.inl rfl), fun h6 => absurd h6 (by decide), fun h9 => absurd (by have h8 := h9.1; rw [← hk3a hs5z, ← gA_fun hF_140] at h8; exact h8) (nm0 hw_149 c_150)⟩⟩⟩, hS.F ht⟩) hS.2.2 dX15_readTerm_555
                            ·
                              refine W.widen (k := 0) (n := 0) (by omega) (by omega) ?_
                              exact jn_171 () F_151 (hv3) hO hR _ _ hP hD hS ls (lv_sub hl [0, 1, 2, 3, 4, 5, 6] rfl)
            ·
              have hb414 := (nm1 hw_149 c_150).1
              refine lv_aload_n hx hb dX15_readTerm_420 rfl (lv_at hl 2 rfl) ?_
              refine lv_iload hx hb dX15_readTerm_421 (lv_at hl 1 rfl) ?_
              refine lv_bipush (v := 9) hx hb dX15_readTerm_423 (by decide) ?_
              refine lv_iadd hx hb dX15_readTerm_425 ?_
              refine lv_topi (fun x_219 ex_219 => ?_)
              obtain rfl : x_219 = (nI (kk + 9)) := ex_219.trans (nI_add kk 9)
              refine pg_put (ci := 15) (v := .int (nI (kk + 9))) (ty := .int) (C := RX15) (T := TX15) (N := 59) hx hb hts it_15 tyX15 tyX15_ok nmX15 hown hK hP hD hS hL_h0 hq1 rfl 19 (by decide) (hts _ kt_751) (fun _ h9 => h9) rfl (by decide +kernel) (rfl) (rfl) (Nat.le_of_ble_eq_true rfl) dX15_readTerm_426 (fun H locs hP hD hS => ?_)
              obtain ⟨F_220, he_221, hP, hD, hO, hR⟩ : ∃ G, G = va_up F_137 h0 (.inr (15, (.ref ta) :: (.int (nI zt)) :: (.int (nI zo)) :: (.int (nI ze)) :: (.ref ou) :: (.ref so) :: (.ref ad) :: (.ref na) :: (.ref va) :: (.ref lc) :: (.ref dm) :: (.int v11) :: (.int v12) :: (.ref tg) :: (.int v14) :: (.int v15) :: (.ref pe) :: (.int q17) :: (.int q18) :: (.int (nI (kk + 9))) :: (.int q20) :: (.int q21) :: (.int q22) :: (.ref ml) :: (.ref bg) :: (.ref co) :: (.ref sp) :: (.ref nb0) :: (.ref nb1) :: (.ref nb2) :: (.int (nI nf)) :: (.int (nI bd)) :: (.int (nI mm)) :: (.int v33) :: (.ref pl) :: (.ref se) :: (.ref ke) :: (.ref wi) :: (.ref hs) :: (.ref mo) :: (.ref po) :: (.ref nu) :: (.ref pr) :: (.ref sq) :: (.ref xa) :: (.ref sa) :: (.ref n64) :: (.ref m64) :: (.ref ex) :: (.ref wh) :: (.ref sd) :: (.ref tk) :: (.int v52) :: (.int v53) :: (.int v54) :: (.ref hd) :: (.ref ak) :: (.ref ho) :: (.ref ot) :: [])) ∧ va_P (dC, dI) vwCl (va_pl L G) H ∧ va_D A (va_pl L G) ∧ OKm cs ty gm L G ∧ FR ty [ρ] F G := ⟨_, rfl, hP, hD, hO.up (shm.mod hT_h0 ⟨zo, ze, v11, v12, v14, v15, q17, q18, (nI (kk + 9)), q20, q21, q22, v33, v52, v53, v54, rfl, (by first | omega | assumption | exact Or.inl rfl | exact Or.inr rfl), (by first | omega | assumption | exact Or.inl rfl | exact Or.inr rfl), (by first | omega | assumption | exact Or.inl rfl | exact Or.inr rfl), (by first | omega | assumption | exact Or.inl rfl | exact Or.inr rfl)⟩), hR.up hT_h0 (by simp)⟩
              have hF_222 : F_220 h0 = .inr (15, (.ref ta) :: (.int (nI zt)) :: (.int (nI zo)) :: (.int (nI ze)) :: (.ref ou) :: (.ref so) :: (.ref ad) :: (.ref na) :: (.ref va) :: (.ref lc) :: (.ref dm) :: (.int v11) :: (.int v12) :: (.ref tg) :: (.int v14) :: (.int v15) :: (.ref pe) :: (.int q17) :: (.int q18) :: (.int (nI (kk + 9))) :: (.int q20) :: (.int q21) :: (.int q22) :: (.ref ml) :: (.ref bg) :: (.ref co) :: (.ref sp) :: (.ref nb0) :: (.ref nb1) :: (.ref nb2) :: (.int (nI nf)) :: (.int (nI bd)) :: (.int (nI mm)) :: (.int v33) :: (.ref pl) :: (.ref se) :: (.ref ke) :: (.ref wi) :: (.ref hs) :: (.ref mo) :: (.ref po) :: (.ref nu) :: (.ref pr) :: (.ref sq) :: (.ref xa) :: (.ref sa) :: (.ref n64) :: (.ref m64) :: (.ref ex) :: (.ref wh) :: (.ref sd) :: (.ref tk) :: (.int v52) :: (.int v53) :: (.int v54) :: (.ref hd) :: (.ref ak) :: (.ref ho) :: (.ref ot) :: []) := by rw [he_221]; exact up_self
              have hF_223 : F_220 g1 = .inl (cs 17, 700, .inl fv) := by rw [he_221, up_ne (ne_ty hT_g1 hT_h0 (by simp))]; exact hF_140
              refine lv_aload_n hx hb dX15_readTerm_429 rfl (lv_at hl 2 rfl) ?_
              refine lv_iload_n hx hb dX15_readTerm_430 rfl (lv_at hl 5 rfl) ?_
              refine pg_put (ci := 15) (v := .int (nI tt)) (ty := .int) (C := RX15) (T := TX15) (N := 59) hx hb hts it_15 tyX15 tyX15_ok nmX15 hown hK hP hD hS hL_h0 hF_222 rfl 20 (by decide) (hts _ kt_752) (fun _ h9 => h9) rfl (by decide +kernel) (rfl) (rfl) (Nat.le_of_ble_eq_true rfl) dX15_readTerm_431 (fun H locs hP hD hS => ?_)
              obtain ⟨F_224, he_225, hP, hD, hO, hR⟩ : ∃ G, G = va_up F_220 h0 (.inr (15, (.ref ta) :: (.int (nI zt)) :: (.int (nI zo)) :: (.int (nI ze)) :: (.ref ou) :: (.ref so) :: (.ref ad) :: (.ref na) :: (.ref va) :: (.ref lc) :: (.ref dm) :: (.int v11) :: (.int v12) :: (.ref tg) :: (.int v14) :: (.int v15) :: (.ref pe) :: (.int q17) :: (.int q18) :: (.int (nI (kk + 9))) :: (.int (nI tt)) :: (.int q21) :: (.int q22) :: (.ref ml) :: (.ref bg) :: (.ref co) :: (.ref sp) :: (.ref nb0) :: (.ref nb1) :: (.ref nb2) :: (.int (nI nf)) :: (.int (nI bd)) :: (.int (nI mm)) :: (.int v33) :: (.ref pl) :: (.ref se) :: (.ref ke) :: (.ref wi) :: (.ref hs) :: (.ref mo) :: (.ref po) :: (.ref nu) :: (.ref pr) :: (.ref sq) :: (.ref xa) :: (.ref sa) :: (.ref n64) :: (.ref m64) :: (.ref ex) :: (.ref wh) :: (.ref sd) :: (.ref tk) :: (.int v52) :: (.int v53) :: (.int v54) :: (.ref hd) :: (.ref ak) :: (.ref ho) :: (.ref ot) :: [])) ∧ va_P (dC, dI) vwCl (va_pl L G) H ∧ va_D A (va_pl L G) ∧ OKm cs ty gm L G ∧ FR ty [ρ] F G := ⟨_, rfl, hP, hD, hO.up (shm.mod hT_h0 ⟨zo, ze, v11, v12, v14, v15, q17, q18, (nI (kk + 9)), (nI tt), q21, q22, v33, v52, v53, v54, rfl, (by first | omega | assumption | exact Or.inl rfl | exact Or.inr rfl), (by first | omega | assumption | exact Or.inl rfl | exact Or.inr rfl), (by first | omega | assumption | exact Or.inl rfl | exact Or.inr rfl), (by first | omega | assumption | exact Or.inl rfl | exact Or.inr rfl)⟩), hR.up hT_h0 (by simp)⟩
              have hF_226 : F_224 h0 = .inr (15, (.ref ta) :: (.int (nI zt)) :: (.int (nI zo)) :: (.int (nI ze)) :: (.ref ou) :: (.ref so) :: (.ref ad) :: (.ref na) :: (.ref va) :: (.ref lc) :: (.ref dm) :: (.int v11) :: (.int v12) :: (.ref tg) :: (.int v14) :: (.int v15) :: (.ref pe) :: (.int q17) :: (.int q18) :: (.int (nI (kk + 9))) :: (.int (nI tt)) :: (.int q21) :: (.int q22) :: (.ref ml) :: (.ref bg) :: (.ref co) :: (.ref sp) :: (.ref nb0) :: (.ref nb1) :: (.ref nb2) :: (.int (nI nf)) :: (.int (nI bd)) :: (.int (nI mm)) :: (.int v33) :: (.ref pl) :: (.ref se) :: (.ref ke) :: (.ref wi) :: (.ref hs) :: (.ref mo) :: (.ref po) :: (.ref nu) :: (.ref pr) :: (.ref sq) :: (.ref xa) :: (.ref sa) :: (.ref n64) :: (.ref m64) :: (.ref ex) :: (.ref wh) :: (.ref sd) :: (.ref tk) :: (.int v52) :: (.int v53) :: (.int v54) :: (.ref hd) :: (.ref ak) :: (.ref ho) :: (.ref ot) :: []) := by rw [he_225]; exact up_self
              have hF_227 : F_224 g1 = .inl (cs 17, 700, .inl fv) := by rw [he_225, up_ne (ne_ty hT_g1 hT_h0 (by simp))]; exact hF_223
              refine lv_aload_n hx hb dX15_readTerm_434 rfl (lv_at hl 3 rfl) ?_
              refine lv_aload_n hx hb dX15_readTerm_435 rfl (lv_at hl 2 rfl) ?_
              refine pg_get (ci := 15) (v := .int (nI (kk + 9))) (C := RX15) (T := TX15) (N := 59) hx hb hts it_15 hown hK hP hL_h0 hF_226 rfl 19 (by decide) (hts _ kt_751) (fun _ h9 => h9) rfl dX15_readTerm_436 ?_
              refine lv_aload_n hx hb dX15_readTerm_439 rfl (lv_at hl 2 rfl) ?_
              refine pg_get (ci := 15) (v := .int (nI tt)) (C := RX15) (T := TX15) (N := 59) hx hb hts it_15 hown hK hP hL_h0 hF_226 rfl 20 (by decide) (hts _ kt_752) (fun _ h9 => h9) rfl dX15_readTerm_440 ?_
              refine lv_iconst (v := 1) hx hb dX15_readTerm_443 (by decide) ?_
              have hFc := pg_free hD hS hA
              refine va_calli (va_runS (As := [.ref g1, .int (nI (kk + 9)), .int (nI tt), .int 1]) (rest := []) ⟨hx, hb, hml, hown, hts⟩ (s_X15_isD l dC dI cs ty gm L H.size F_224 g1 (ρ + 31) 700 (kk + 9) tt 1 hW hL_g1 hT_g1 (by first | omega | assumption) (by first | omega | assumption)) ⟨callB_of 4 hts (gi kt_753) rfl rfl rfl (hts _ kt_669) (hts _ kt_754) (by decide +kernel) ⟨Nat.le_of_ble_eq_true rfl, Nat.le_of_ble_eq_true rfl⟩, (hts _ kt_755)⟩ ⟨fun a U g mk q => ⟨q.1, PTm.calling q.2⟩, fun U hU hWm => ⟨rfl, PTm.mk hU hWm hP hK hD hE hO⟩⟩ rfl rfl hl.1 rfl (lv_room (Nat.le_of_ble_eq_true rfl)) dX15_readTerm_444 ⟨by show _ + 0 ≤ 0; omega, by show _ + 0 ≤ 0; omega⟩) hS (fun q _ h => hFc q h) hFc (fun r_228 u t H1 locs ht hvm hw hB hz1 hk1 hS => ?_)
              obtain ⟨F_229, hB1⟩ := hB
              obtain rfl : F_224 = F_229 := (funext (fun a => hB1.2.2.2 a List.not_mem_nil)).symm
              obtain ⟨hP, hD, hO, hR⟩ := QTm.back hB1 ht hFc hR (fun q h => absurd h List.not_mem_nil)
              generalize H1 = H at hP hS ⊢
              have hw : (r_228 = 0 ∨ (r_228 = 1 ∧ (kk + 9) < tt ∧ ISD (gA (F_224 g1)) tt (kk + 9))) := hw
              have hw_230 := hw
              refine lv_if_eq (tgt := 456) hx hb dX15_readTerm_447 (by decide) (fun c_231 => ?_) (fun c_231 => ?_)
              ·
                refine W.widen (k := 0) (n := 0) (by omega) (by omega) ?_
                exact W.vret hx hb hr (fun t ht hWm => ⟨⟨(), rfl, trivial, ⟨F_224, q17, q18, (nI (kk + 9)), (nI tt), q21, q22, QTm.mk ht hP hD hO hR, hF_226, ⟨Or.inr (Or.inr (Or.inl c_141)), fun h6 => absurd (c_141.symm.trans h6) (by decide), fun _ => ⟨by rw [hk3a hs5z], rfl⟩⟩⟩⟩, hS.F ht⟩) hS.2.2 dX15_readTerm_456
              ·
                refine lv_aload_n hx hb dX15_readTerm_450 rfl (lv_at hl 2 rfl) ?_
                refine lv_bipush (v := 6) hx hb dX15_readTerm_451 (by decide) ?_
                refine pg_put (ci := 15) (v := .int 6) (ty := .int) (C := RX15) (T := TX15) (N := 59) hx hb hts it_15 tyX15 tyX15_ok nmX15 hown hK hP hD hS hL_h0 hF_226 rfl 17 (by decide) (hts _ kt_750) (fun _ h9 => h9) rfl (by decide +kernel) (rfl) (rfl) (Nat.le_of_ble_eq_true rfl) dX15_readTerm_453 (fun H locs hP hD hS => ?_)
                obtain ⟨F_232, he_233, hP, hD, hO, hR⟩ : ∃ G, G = va_up F_224 h0 (.inr (15, (.ref ta) :: (.int (nI zt)) :: (.int (nI zo)) :: (.int (nI ze)) :: (.ref ou) :: (.ref so) :: (.ref ad) :: (.ref na) :: (.ref va) :: (.ref lc) :: (.ref dm) :: (.int v11) :: (.int v12) :: (.ref tg) :: (.int v14) :: (.int v15) :: (.ref pe) :: (.int 6) :: (.int q18) :: (.int (nI (kk + 9))) :: (.int (nI tt)) :: (.int q21) :: (.int q22) :: (.ref ml) :: (.ref bg) :: (.ref co) :: (.ref sp) :: (.ref nb0) :: (.ref nb1) :: (.ref nb2) :: (.int (nI nf)) :: (.int (nI bd)) :: (.int (nI mm)) :: (.int v33) :: (.ref pl) :: (.ref se) :: (.ref ke) :: (.ref wi) :: (.ref hs) :: (.ref mo) :: (.ref po) :: (.ref nu) :: (.ref pr) :: (.ref sq) :: (.ref xa) :: (.ref sa) :: (.ref n64) :: (.ref m64) :: (.ref ex) :: (.ref wh) :: (.ref sd) :: (.ref tk) :: (.int v52) :: (.int v53) :: (.int v54) :: (.ref hd) :: (.ref ak) :: (.ref ho) :: (.ref ot) :: [])) ∧ va_P (dC, dI) vwCl (va_pl L G) H ∧ va_D A (va_pl L G) ∧ OKm cs ty gm L G ∧ FR ty [ρ] F G := ⟨_, rfl, hP, hD, hO.up (shm.mod hT_h0 ⟨zo, ze, v11, v12, v14, v15, 6, q18, (nI (kk + 9)), (nI tt), q21, q22, v33, v52, v53, v54, rfl, (by first | omega | assumption | exact Or.inl rfl | exact Or.inr rfl), (by first | omega | assumption | exact Or.inl rfl | exact Or.inr rfl), (by first | omega | assumption | exact Or.inl rfl | exact Or.inr rfl), (by first | omega | assumption | exact Or.inl rfl | exact Or.inr rfl)⟩), hR.up hT_h0 (by simp)⟩
                have hF_234 : F_232 h0 = .inr (15, (.ref ta) :: (.int (nI zt)) :: (.int (nI zo)) :: (.int (nI ze)) :: (.ref ou) :: (.ref so) :: (.ref ad) :: (.ref na) :: (.ref va) :: (.ref lc) :: (.ref dm) :: (.int v11) :: (.int v12) :: (.ref tg) :: (.int v14) :: (.int v15) :: (.ref pe) :: (.int 6) :: (.int q18) :: (.int (nI (kk + 9))) :: (.int (nI tt)) :: (.int q21) :: (.int q22) :: (.ref ml) :: (.ref bg) :: (.ref co) :: (.ref sp) :: (.ref nb0) :: (.ref nb1) :: (.ref nb2) :: (.int (nI nf)) :: (.int (nI bd)) :: (.int (nI mm)) :: (.int v33) :: (.ref pl) :: (.ref se) :: (.ref ke) :: (.ref wi) :: (.ref hs) :: (.ref mo) :: (.ref po) :: (.ref nu) :: (.ref pr) :: (.ref sq) :: (.ref xa) :: (.ref sa) :: (.ref n64) :: (.ref m64) :: (.ref ex) :: (.ref wh) :: (.ref sd) :: (.ref tk) :: (.int v52) :: (.int v53) :: (.int v54) :: (.ref hd) :: (.ref ak) :: (.ref ho) :: (.ref ot) :: []) := by rw [he_233]; exact up_self
                have hF_235 : F_232 g1 = .inl (cs 17, 700, .inl fv) := by rw [he_233, up_ne (ne_ty hT_g1 hT_h0 (by simp))]; exact hF_227
                refine W.widen (k := 0) (n := 0) (by omega) (by omega) ?_
                exact W.vret hx hb hr (fun t ht hWm => ⟨⟨(), rfl, trivial, ⟨F_232, 6, q18, (nI (kk + 9)), (nI tt), q21, q22, QTm.mk ht hP hD hO hR, hF_234, ⟨Or.inl rfl, fun _ => ⟨(by have h8 := nm1 hw_149 c_150; rw [gA_fun hF_140] at h8; rw [hk3a hs5z] at h8; exact h8), (by have h9 := (bit1 hw_230 c_231).2; rw [gA_fun hF_227] at h9; rw [hk3a hs5z] at h9; exact h9)⟩, fun _ => ⟨by rw [hk3a hs5z], rfl⟩⟩⟩⟩, hS.F ht⟩) hS.2.2 dX15_readTerm_456
          ·
            refine W.widen (k := 0) (n := 0) (by omega) (by omega) ?_
            exact W.vret hx hb hr (fun t ht hWm => ⟨⟨(), rfl, trivial, ⟨F_137, q17, q18, q19, q20, q21, q22, QTm.mk ht hP hD hO hR, hq1, ⟨Or.inr (Or.inr (Or.inl c_141)), fun h6 => absurd (c_141.symm.trans h6) (by decide), fun h9 => (hs5.elim (fun h5 => absurd h5 c_142) (fun h => absurd h9.c0 h.2))⟩⟩⟩, hS.F ht⟩) hS.2.2 dX15_readTerm_406
      ·
        refine lv_aload_n hx hb dX15_readTerm_90 rfl (lv_at hl 3 rfl) ?_
        refine lv_iload hx hb dX15_readTerm_91 (lv_at hl 1 rfl) ?_
        refine lv_iload_n hx hb dX15_readTerm_93 rfl (lv_at hl 5 rfl) ?_
        obtain ⟨q_236, v_237, hr_q_236, hX_q_236⟩ := hG.2.2 ("PostGateModel", 250, "all", [97, 108, 108]) (by decide +kernel)
        have hX_q_236 : SXc q_236 v_237 3 (cct [97, 108, 108]) A s s.heap := hX_q_236
        obtain ⟨xo_q_236, xc_q_236, xv_q_236, xt_q_236, xn_q_236⟩ := id hX_q_236
        have hr_q_236 : vk_R "PostGateModel" 250 "all" q_236 s := hr_q_236
        refine va_ldcS hx hb hown hr_q_236 dX15_readTerm_94 ?_
        obtain ⟨hq_238, hq_239⟩ := hW.octs hL_g1 hT_g1
        have hFc := pg_free hD hS hA
        refine va_calli (va_runS (As := [.ref g1, .int (nI kk), .int (nI tt), .ref q_236]) (rest := []) ⟨hx, hb, hml, hown, hts⟩ (s_X15_is l dC dI cs ty gm L H.size F_132 g1 (ρ + 31) 700 q_236 v_237 3 (cct [97, 108, 108]) kk tt hW hL_g1 hT_g1 (by first | omega | assumption) (by first | omega | assumption)) ⟨callB_of 4 hts (gi kt_694) rfl rfl rfl (hts _ kt_669) (hts _ kt_695) (by decide +kernel) ⟨Nat.le_of_ble_eq_true rfl, Nat.le_of_ble_eq_true rfl⟩, (hts _ kt_696)⟩ ⟨fun a U g mk q => ⟨q.1, PTEm.calling q.2⟩, fun U hU hWm => ⟨rfl, PTEm.mk hU hWm hP hK hD hE hO hG (fun x hx => by rw [List.mem_singleton] at hx; subst hx; exact hX_q_236) hS hFc⟩⟩ rfl rfl hl.1 rfl (lv_room (Nat.le_of_ble_eq_true rfl)) dX15_readTerm_96 ⟨by show _ + 0 ≤ 0; omega, by show _ + 0 ≤ 0; omega⟩) hS (fun q _ h => hFc q h) hFc (fun r_240 u t H1 locs ht hvm hw hB hz1 hk1 hS => ?_)
        obtain ⟨F_241, hB1⟩ := hB
        obtain rfl : F_132 = F_241 := (funext (fun a => hB1.2.2.2 a List.not_mem_nil)).symm
        obtain ⟨hP, hD, hO, hR⟩ := QTm.back hB1 ht hFc hR (fun q h => absurd h List.not_mem_nil)
        generalize H1 = H at hP hS ⊢
        have hw : ((r_240 = 1 ∧ isP (gA (F_132 g1)) kk tt (cct [97, 108, 108]) 3) ∨ (r_240 = 0 ∧ ¬ isP (gA (F_132 g1)) kk tt (cct [97, 108, 108]) 3)) := hw
        have hw_242 := hw
        refine lv_if_eq (tgt := 110) hx hb dX15_readTerm_99 (by decide) (fun c_243 => ?_) (fun c_243 => ?_)
        ·
          refine lv_aload_n hx hb dX15_readTerm_110 rfl (lv_at hl 3 rfl) ?_
          refine lv_iload hx hb dX15_readTerm_111 (lv_at hl 1 rfl) ?_
          refine lv_iload_n hx hb dX15_readTerm_113 rfl (lv_at hl 5 rfl) ?_
          obtain ⟨q_244, v_245, hr_q_244, hX_q_244⟩ := hG.2.2 ("PostGateModel", 252, "include:", [105, 110, 99, 108, 117, 100, 101, 58]) (by decide +kernel)
          have hX_q_244 : SXc q_244 v_245 8 (cct [105, 110, 99, 108, 117, 100, 101, 58]) A s s.heap := hX_q_244
          obtain ⟨xo_q_244, xc_q_244, xv_q_244, xt_q_244, xn_q_244⟩ := id hX_q_244
          have hr_q_244 : vk_R "PostGateModel" 252 "include:" q_244 s := hr_q_244
          refine va_ldcS hx hb hown hr_q_244 dX15_readTerm_114 ?_
          have hFc := pg_free hD hS hA
          refine va_calli (va_runS (As := [.ref g1, .int (nI kk), .int (nI tt), .ref q_244]) (rest := []) ⟨hx, hb, hml, hown, hts⟩ (s_X15_begins l dC dI cs ty gm L H.size F_132 g1 (ρ + 31) 700 q_244 v_245 8 (cct [105, 110, 99, 108, 117, 100, 101, 58]) kk tt hW hL_g1 hT_g1 (by first | omega | assumption) (by first | omega | assumption)) ⟨callB_of 4 hts (gi kt_733) rfl rfl rfl (hts _ kt_669) (hts _ kt_734) (by decide +kernel) ⟨Nat.le_of_ble_eq_true rfl, Nat.le_of_ble_eq_true rfl⟩, (hts _ kt_735)⟩ ⟨fun a U g mk q => ⟨q.1, PTEm.calling q.2⟩, fun U hU hWm => ⟨rfl, PTEm.mk hU hWm hP hK hD hE hO hG (fun x hx => by rw [List.mem_singleton] at hx; subst hx; exact hX_q_244) hS hFc⟩⟩ rfl rfl hl.1 rfl (lv_room (Nat.le_of_ble_eq_true rfl)) dX15_readTerm_116 ⟨by show _ + 0 ≤ 0; omega, by show _ + 0 ≤ 0; omega⟩) hS (fun q _ h => hFc q h) hFc (fun r_246 u t H1 locs ht hvm hw hB hz1 hk1 hS => ?_)
          obtain ⟨F_247, hB1⟩ := hB
          obtain rfl : F_132 = F_247 := (funext (fun a => hB1.2.2.2 a List.not_mem_nil)).symm
          obtain ⟨hP, hD, hO, hR⟩ := QTm.back hB1 ht hFc hR (fun q h => absurd h List.not_mem_nil)
          generalize H1 = H at hP hS ⊢
          have hw : ((r_246 = 1 ∧ bgP (gA (F_132 g1)) kk tt (cct [105, 110, 99, 108, 117, 100, 101, 58]) 8) ∨ (r_246 = 0 ∧ ¬ bgP (gA (F_132 g1)) kk tt (cct [105, 110, 99, 108, 117, 100, 101, 58]) 8)) := hw
          have hw_248 := hw
          refine lv_if_eq (tgt := 160) hx hb dX15_readTerm_119 (by decide) (fun c_249 => ?_) (fun c_249 => ?_)
          ·
            refine lv_aload_n hx hb dX15_readTerm_160 rfl (lv_at hl 3 rfl) ?_
            refine lv_iload hx hb dX15_readTerm_161 (lv_at hl 1 rfl) ?_
            refine lv_iload_n hx hb dX15_readTerm_163 rfl (lv_at hl 5 rfl) ?_
            obtain ⟨q_250, v_251, hr_q_250, hX_q_250⟩ := hG.2.2 ("PostGateModel", 261, "exists:", [101, 120, 105, 115, 116, 115, 58]) (by decide +kernel)
            have hX_q_250 : SXc q_250 v_251 7 (cct [101, 120, 105, 115, 116, 115, 58]) A s s.heap := hX_q_250
            obtain ⟨xo_q_250, xc_q_250, xv_q_250, xt_q_250, xn_q_250⟩ := id hX_q_250
            have hr_q_250 : vk_R "PostGateModel" 261 "exists:" q_250 s := hr_q_250
            refine va_ldcwS hx hb hown hr_q_250 dX15_readTerm_164 ?_
            have hFc := pg_free hD hS hA
            refine va_calli (va_runS (As := [.ref g1, .int (nI kk), .int (nI tt), .ref q_250]) (rest := []) ⟨hx, hb, hml, hown, hts⟩ (s_X15_begins l dC dI cs ty gm L H.size F_132 g1 (ρ + 31) 700 q_250 v_251 7 (cct [101, 120, 105, 115, 116, 115, 58]) kk tt hW hL_g1 hT_g1 (by first | omega | assumption) (by first | omega | assumption)) ⟨callB_of 4 hts (gi kt_733) rfl rfl rfl (hts _ kt_669) (hts _ kt_734) (by decide +kernel) ⟨Nat.le_of_ble_eq_true rfl, Nat.le_of_ble_eq_true rfl⟩, (hts _ kt_735)⟩ ⟨fun a U g mk q => ⟨q.1, PTEm.calling q.2⟩, fun U hU hWm => ⟨rfl, PTEm.mk hU hWm hP hK hD hE hO hG (fun x hx => by rw [List.mem_singleton] at hx; subst hx; exact hX_q_250) hS hFc⟩⟩ rfl rfl hl.1 rfl (lv_room (Nat.le_of_ble_eq_true rfl)) dX15_readTerm_167 ⟨by show _ + 0 ≤ 0; omega, by show _ + 0 ≤ 0; omega⟩) hS (fun q _ h => hFc q h) hFc (fun r_252 u t H1 locs ht hvm hw hB hz1 hk1 hS => ?_)
            obtain ⟨F_253, hB1⟩ := hB
            obtain rfl : F_132 = F_253 := (funext (fun a => hB1.2.2.2 a List.not_mem_nil)).symm
            obtain ⟨hP, hD, hO, hR⟩ := QTm.back hB1 ht hFc hR (fun q h => absurd h List.not_mem_nil)
            generalize H1 = H at hP hS ⊢
            have hw : ((r_252 = 1 ∧ bgP (gA (F_132 g1)) kk tt (cct [101, 120, 105, 115, 116, 115, 58]) 7) ∨ (r_252 = 0 ∧ ¬ bgP (gA (F_132 g1)) kk tt (cct [101, 120, 105, 115, 116, 115, 58]) 7)) := hw
            have hw_254 := hw
            refine lv_if_eq (tgt := 211) hx hb dX15_readTerm_170 (by decide) (fun c_255 => ?_) (fun c_255 => ?_)
            ·
              refine lv_aload_n hx hb dX15_readTerm_211 rfl (lv_at hl 3 rfl) ?_
              refine lv_iload hx hb dX15_readTerm_212 (lv_at hl 1 rfl) ?_
              refine lv_iload_n hx hb dX15_readTerm_214 rfl (lv_at hl 5 rfl) ?_
              obtain ⟨q_256, v_257, hr_q_256, hX_q_256⟩ := hG.2.2 ("PostGateModel", 263, "ip4:", [105, 112, 52, 58]) (by decide +kernel)
              have hX_q_256 : SXc q_256 v_257 4 (cct [105, 112, 52, 58]) A s s.heap := hX_q_256
              obtain ⟨xo_q_256, xc_q_256, xv_q_256, xt_q_256, xn_q_256⟩ := id hX_q_256
              have hr_q_256 : vk_R "PostGateModel" 263 "ip4:" q_256 s := hr_q_256
              refine va_ldcwS hx hb hown hr_q_256 dX15_readTerm_215 ?_
              have hFc := pg_free hD hS hA
              refine va_calli (va_runS (As := [.ref g1, .int (nI kk), .int (nI tt), .ref q_256]) (rest := []) ⟨hx, hb, hml, hown, hts⟩ (s_X15_begins l dC dI cs ty gm L H.size F_132 g1 (ρ + 31) 700 q_256 v_257 4 (cct [105, 112, 52, 58]) kk tt hW hL_g1 hT_g1 (by first | omega | assumption) (by first | omega | assumption)) ⟨callB_of 4 hts (gi kt_733) rfl rfl rfl (hts _ kt_669) (hts _ kt_734) (by decide +kernel) ⟨Nat.le_of_ble_eq_true rfl, Nat.le_of_ble_eq_true rfl⟩, (hts _ kt_735)⟩ ⟨fun a U g mk q => ⟨q.1, PTEm.calling q.2⟩, fun U hU hWm => ⟨rfl, PTEm.mk hU hWm hP hK hD hE hO hG (fun x hx => by rw [List.mem_singleton] at hx; subst hx; exact hX_q_256) hS hFc⟩⟩ rfl rfl hl.1 rfl (lv_room (Nat.le_of_ble_eq_true rfl)) dX15_readTerm_218 ⟨by show _ + 0 ≤ 0; omega, by show _ + 0 ≤ 0; omega⟩) hS (fun q _ h => hFc q h) hFc (fun r_258 u t H1 locs ht hvm hw hB hz1 hk1 hS => ?_)
              obtain ⟨F_259, hB1⟩ := hB
              obtain rfl : F_132 = F_259 := (funext (fun a => hB1.2.2.2 a List.not_mem_nil)).symm
              obtain ⟨hP, hD, hO, hR⟩ := QTm.back hB1 ht hFc hR (fun q h => absurd h List.not_mem_nil)
              generalize H1 = H at hP hS ⊢
              have hw : ((r_258 = 1 ∧ bgP (gA (F_132 g1)) kk tt (cct [105, 112, 52, 58]) 4) ∨ (r_258 = 0 ∧ ¬ bgP (gA (F_132 g1)) kk tt (cct [105, 112, 52, 58]) 4)) := hw
              have hw_260 := hw
              refine lv_if_eq (tgt := 281) hx hb dX15_readTerm_221 (by decide) (fun c_261 => ?_) (fun c_261 => ?_)
              ·
                refine lv_aload_n hx hb dX15_readTerm_281 rfl (lv_at hl 3 rfl) ?_
                refine lv_iload hx hb dX15_readTerm_282 (lv_at hl 1 rfl) ?_
                refine lv_iload_n hx hb dX15_readTerm_284 rfl (lv_at hl 5 rfl) ?_
                obtain ⟨q_262, v_263, hr_q_262, hX_q_262⟩ := hG.2.2 ("PostGateModel", 274, "a", [97]) (by decide +kernel)
                have hX_q_262 : SXc q_262 v_263 1 (cct [97]) A s s.heap := hX_q_262
                obtain ⟨xo_q_262, xc_q_262, xv_q_262, xt_q_262, xn_q_262⟩ := id hX_q_262
                have hr_q_262 : vk_R "PostGateModel" 274 "a" q_262 s := hr_q_262
                refine va_ldcwS hx hb hown hr_q_262 dX15_readTerm_285 ?_
                have hFc := pg_free hD hS hA
                refine va_calli (va_runS (As := [.ref g1, .int (nI kk), .int (nI tt), .ref q_262]) (rest := []) ⟨hx, hb, hml, hown, hts⟩ (s_X15_begins l dC dI cs ty gm L H.size F_132 g1 (ρ + 31) 700 q_262 v_263 1 (cct [97]) kk tt hW hL_g1 hT_g1 (by first | omega | assumption) (by first | omega | assumption)) ⟨callB_of 4 hts (gi kt_733) rfl rfl rfl (hts _ kt_669) (hts _ kt_734) (by decide +kernel) ⟨Nat.le_of_ble_eq_true rfl, Nat.le_of_ble_eq_true rfl⟩, (hts _ kt_735)⟩ ⟨fun a U g mk q => ⟨q.1, PTEm.calling q.2⟩, fun U hU hWm => ⟨rfl, PTEm.mk hU hWm hP hK hD hE hO hG (fun x hx => by rw [List.mem_singleton] at hx; subst hx; exact hX_q_262) hS hFc⟩⟩ rfl rfl hl.1 rfl (lv_room (Nat.le_of_ble_eq_true rfl)) dX15_readTerm_288 ⟨by show _ + 0 ≤ 0; omega, by show _ + 0 ≤ 0; omega⟩) hS (fun q _ h => hFc q h) hFc (fun r_264 u t H1 locs ht hvm hw hB hz1 hk1 hS => ?_)
                obtain ⟨F_265, hB1⟩ := hB
                obtain rfl : F_132 = F_265 := (funext (fun a => hB1.2.2.2 a List.not_mem_nil)).symm
                obtain ⟨hP, hD, hO, hR⟩ := QTm.back hB1 ht hFc hR (fun q h => absurd h List.not_mem_nil)
                generalize H1 = H at hP hS ⊢
                have hw : ((r_264 = 1 ∧ bgP (gA (F_132 g1)) kk tt (cct [97]) 1) ∨ (r_264 = 0 ∧ ¬ bgP (gA (F_132 g1)) kk tt (cct [97]) 1)) := hw
                have hw_266 := hw
                refine lv_if_eq (tgt := 338) hx hb dX15_readTerm_291 (by decide) (fun c_267 => ?_) (fun c_267 => ?_)
                ·
                  refine lv_aload_n hx hb dX15_readTerm_338 rfl (lv_at hl 3 rfl) ?_
                  refine lv_iload hx hb dX15_readTerm_339 (lv_at hl 1 rfl) ?_
                  refine lv_iload_n hx hb dX15_readTerm_341 rfl (lv_at hl 5 rfl) ?_
                  obtain ⟨q_268, v_269, hr_q_268, hX_q_268⟩ := hG.2.2 ("PostGateModel", 280, "mx", [109, 120]) (by decide +kernel)
                  have hX_q_268 : SXc q_268 v_269 2 (cct [109, 120]) A s s.heap := hX_q_268
                  obtain ⟨xo_q_268, xc_q_268, xv_q_268, xt_q_268, xn_q_268⟩ := id hX_q_268
                  have hr_q_268 : vk_R "PostGateModel" 280 "mx" q_268 s := hr_q_268
                  refine va_ldcwS hx hb hown hr_q_268 dX15_readTerm_342 ?_
                  have hFc := pg_free hD hS hA
                  refine va_calli (va_runS (As := [.ref g1, .int (nI kk), .int (nI tt), .ref q_268]) (rest := []) ⟨hx, hb, hml, hown, hts⟩ (s_X15_begins l dC dI cs ty gm L H.size F_132 g1 (ρ + 31) 700 q_268 v_269 2 (cct [109, 120]) kk tt hW hL_g1 hT_g1 (by first | omega | assumption) (by first | omega | assumption)) ⟨callB_of 4 hts (gi kt_733) rfl rfl rfl (hts _ kt_669) (hts _ kt_734) (by decide +kernel) ⟨Nat.le_of_ble_eq_true rfl, Nat.le_of_ble_eq_true rfl⟩, (hts _ kt_735)⟩ ⟨fun a U g mk q => ⟨q.1, PTEm.calling q.2⟩, fun U hU hWm => ⟨rfl, PTEm.mk hU hWm hP hK hD hE hO hG (fun x hx => by rw [List.mem_singleton] at hx; subst hx; exact hX_q_268) hS hFc⟩⟩ rfl rfl hl.1 rfl (lv_room (Nat.le_of_ble_eq_true rfl)) dX15_readTerm_345 ⟨by show _ + 0 ≤ 0; omega, by show _ + 0 ≤ 0; omega⟩) hS (fun q _ h => hFc q h) hFc (fun r_270 u t H1 locs ht hvm hw hB hz1 hk1 hS => ?_)
                  obtain ⟨F_271, hB1⟩ := hB
                  obtain rfl : F_132 = F_271 := (funext (fun a => hB1.2.2.2 a List.not_mem_nil)).symm
                  obtain ⟨hP, hD, hO, hR⟩ := QTm.back hB1 ht hFc hR (fun q h => absurd h List.not_mem_nil)
                  generalize H1 = H at hP hS ⊢
                  have hw : ((r_270 = 1 ∧ bgP (gA (F_132 g1)) kk tt (cct [109, 120]) 2) ∨ (r_270 = 0 ∧ ¬ bgP (gA (F_132 g1)) kk tt (cct [109, 120]) 2)) := hw
                  have hw_272 := hw
                  refine lv_if_eq (tgt := 392) hx hb dX15_readTerm_348 (by decide) (fun c_273 => ?_) (fun c_273 => ?_)
                  ·
                    refine W.widen (k := 0) (n := 0) (by omega) (by omega) ?_
                    exact jn_136 (8, (-1), (-1), 32, v22) F_132 (⟨hk4a, Or.inl rfl, fun _ _ => rfl⟩) hO hR _ _ hP hD hS ls (lv_sub hl [0, 1, 2, 3, 4, 5] rfl)
                  ·
                    have hb345 := (nm1 hw_272 c_273).1
                    refine lv_iload_n hx hb dX15_readTerm_351 rfl (lv_at hl 5 rfl) ?_
                    refine lv_iload hx hb dX15_readTerm_352 (lv_at hl 1 rfl) ?_
                    refine lv_iconst (v := 2) hx hb dX15_readTerm_354 (by decide) ?_
                    refine lv_iadd hx hb dX15_readTerm_355 ?_
                    refine lv_topi (fun x_274 ex_274 => ?_)
                    obtain rfl : x_274 = (nI (kk + 2)) := ex_274.trans (nI_add kk 2)
                    refine lv_icmp_eq (tgt := 381) hx hb dX15_readTerm_356 (by decide) (fun c_275 => ?_) (fun c_275 => ?_)
                    ·
                      have hi_276 : tt = (kk + 2) := (nI_eq (a := tt) (b := (kk + 2)) (by omega) (by omega)).mp c_275
                      refine lv_aload_n hx hb dX15_readTerm_381 rfl (lv_at hl 2 rfl) ?_
                      refine lv_aload_n hx hb dX15_readTerm_382 rfl (lv_at hl 3 rfl) ?_
                      refine lv_iload hx hb dX15_readTerm_383 (lv_at hl 1 rfl) ?_
                      refine lv_iconst (v := 2) hx hb dX15_readTerm_385 (by decide) ?_
                      refine lv_iadd hx hb dX15_readTerm_386 ?_
                      refine lv_topi (fun x_277 ex_277 => ?_)
                      obtain rfl : x_277 = (nI (kk + 2)) := ex_277.trans (nI_add kk 2)
                      refine lv_iload_n hx hb dX15_readTerm_387 rfl (lv_at hl 5 rfl) ?_
                      refine lv_iconst (v := 3) hx hb dX15_readTerm_388 (by decide) ?_
                      have hFc := pg_free hD hS hA
                      refine va_callv (va_runV (As := [.ref g1, .int (nI (kk + 2)), .int (nI tt), .int 3]) (rest := []) ⟨hx, hb, hml, hown, hts⟩ (s_X15_readHost l dC dI cs ty gm L H.size F_132 h0 ρ ta ou so ad na va lc dm tg pe ml bg co sp nb0 nb1 nb2 pl se ke wi hs mo po nu pr sq xa sa n64 m64 ex wh sd tk hd ak ho ot sx s0 s1 s2 nf bd mm zt zo ze v11 v12 v14 v15 8 q18 (-1) (-1) 32 v22 v33 v52 v53 v54 g1 fv (kk + 2) tt 3 hW hL_h0 hT_h0 hL_g1 hT_g1 hk4a (by first | omega | assumption) (by first | omega | assumption) (by first | omega | assumption) (by first | omega | assumption) hF_135 (by first | omega | assumption) (by first | omega | assumption) (rfl)) ⟨callB_of 4 hts (gi kt_760) rfl rfl rfl (hts _ kt_669) (hts _ kt_761) (by decide +kernel) ⟨Nat.le_of_ble_eq_true rfl, Nat.le_of_ble_eq_true rfl⟩, (hts _ kt_762), (hts _ kt_763)⟩ ⟨fun a U g mk q => ⟨q.1, PTm.calling q.2⟩, pg_recv hK hP hL_h0 hk4a (q := (RX15, TX15, 59)) rfl, fun U hU hWm => ⟨rfl, PTm.mk hU hWm hP hK hD hE hO⟩⟩ rfl rfl hl.1 rfl (lv_room (Nat.le_of_ble_eq_true rfl)) dX15_readTerm_389 ⟨by show _ + 0 ≤ 0; omega, by show _ + 0 ≤ 0; omega⟩) hS (fun q _ h => hFc q h) hFc (fun u t H1 locs ht hvm hw hB hz1 hk1 hS => ?_)
                      obtain ⟨F_279, u17_280, u19_281, u20_282, u21_283, hB1, hq_284, hq_285⟩ := hB
                      obtain ⟨hP, hD, hO, hR⟩ := QTm.back hB1 ht hFc hR (fun q h => by simp only [List.mem_cons, List.not_mem_nil, or_false] at h ⊢; omega)
                      have hF_286 : F_279 g1 = .inl (cs 17, 700, .inl fv) := (hB1.2.2.2 g1 (by rw [hT_g1]; simp)).trans hF_135
                      generalize H1 = H at hP hS ⊢
                      refine W.widen (k := 0) (n := 0) (by omega) (by omega) ?_
                      exact jn_136 (u17_280, u19_281, u20_282, u21_283, v22) F_279 (⟨hq_284, hq_285.imp id (fun h => ⟨by rw [h.1]; decide, h.2⟩), fun h5 h9 => (c0_ne (by have h8 := (nm1 hw_272 c_273).2; rw [gA_fun hF_135] at h8; exact h8) (by omega) (hk3a h5) h9 (by decide)).elim⟩) hO hR _ _ hP hD hS ls (lv_sub hl [0, 1, 2, 3, 4, 5] rfl)
                    ·
                      have hi_287 : tt ≠ (kk + 2) := fun q => c_275 (by rw [q])
                      refine lv_aload_n hx hb dX15_readTerm_359 rfl (lv_at hl 3 rfl) ?_
                      refine lv_iload hx hb dX15_readTerm_360 (lv_at hl 1 rfl) ?_
                      refine lv_iconst (v := 2) hx hb dX15_readTerm_362 (by decide) ?_
                      refine lv_iadd hx hb dX15_readTerm_363 ?_
                      refine lv_topi (fun x_288 ex_288 => ?_)
                      obtain rfl : x_288 = (nI (kk + 2)) := ex_288.trans (nI_add kk 2)
                      refine pg_bald hx hb hK hP hL_g1 1 hF_135 rfl (vp_in_nI (by omega) (by omega)) dX15_readTerm_364 ?_
                      refine lv_topi (fun x_289 ex_289 => ?_)
                      obtain rfl : x_289 = fv (kk + 2) := ex_289.trans (congrArg fv (show ((nI (kk + 2)) : Int32).toNatClampNeg = (kk + 2) from nI_clamp (by omega)))
                      refine lv_bipush (v := 58) hx hb dX15_readTerm_365 (by decide) ?_
                      refine lv_icmp_eq (tgt := 381) hx hb dX15_readTerm_367 (by decide) (fun c_290 => ?_) (fun c_290 => ?_)
                      ·
                        refine lv_aload_n hx hb dX15_readTerm_381 rfl (lv_at hl 2 rfl) ?_
                        refine lv_aload_n hx hb dX15_readTerm_382 rfl (lv_at hl 3 rfl) ?_
                        refine lv_iload hx hb dX15_readTerm_383 (lv_at hl 1 rfl) ?_
                        refine lv_iconst (v := 2) hx hb dX15_readTerm_385 (by decide) ?_
                        refine lv_iadd hx hb dX15_readTerm_386 ?_
                        refine lv_topi (fun x_291 ex_291 => ?_)
                        obtain rfl : x_291 = (nI (kk + 2)) := ex_291.trans (nI_add kk 2)
                        refine lv_iload_n hx hb dX15_readTerm_387 rfl (lv_at hl 5 rfl) ?_
                        refine lv_iconst (v := 3) hx hb dX15_readTerm_388 (by decide) ?_
                        have hFc := pg_free hD hS hA
                        refine va_callv (va_runV (As := [.ref g1, .int (nI (kk + 2)), .int (nI tt), .int 3]) (rest := []) ⟨hx, hb, hml, hown, hts⟩ (s_X15_readHost l dC dI cs ty gm L H.size F_132 h0 ρ ta ou so ad na va lc dm tg pe ml bg co sp nb0 nb1 nb2 pl se ke wi hs mo po nu pr sq xa sa n64 m64 ex wh sd tk hd ak ho ot sx s0 s1 s2 nf bd mm zt zo ze v11 v12 v14 v15 8 q18 (-1) (-1) 32 v22 v33 v52 v53 v54 g1 fv (kk + 2) tt 3 hW hL_h0 hT_h0 hL_g1 hT_g1 hk4a (by first | omega | assumption) (by first | omega | assumption) (by first | omega | assumption) (by first | omega | assumption) hF_135 (by first | omega | assumption) (by first | omega | assumption) (rfl)) ⟨callB_of 4 hts (gi kt_760) rfl rfl rfl (hts _ kt_669) (hts _ kt_761) (by decide +kernel) ⟨Nat.le_of_ble_eq_true rfl, Nat.le_of_ble_eq_true rfl⟩, (hts _ kt_762), (hts _ kt_763)⟩ ⟨fun a U g mk q => ⟨q.1, PTm.calling q.2⟩, pg_recv hK hP hL_h0 hk4a (q := (RX15, TX15, 59)) rfl, fun U hU hWm => ⟨rfl, PTm.mk hU hWm hP hK hD hE hO⟩⟩ rfl rfl hl.1 rfl (lv_room (Nat.le_of_ble_eq_true rfl)) dX15_readTerm_389 ⟨by show _ + 0 ≤ 0; omega, by show _ + 0 ≤ 0; omega⟩) hS (fun q _ h => hFc q h) hFc (fun u t H1 locs ht hvm hw hB hz1 hk1 hS => ?_)
                        obtain ⟨F_293, u17_294, u19_295, u20_296, u21_297, hB1, hq_298, hq_299⟩ := hB
                        obtain ⟨hP, hD, hO, hR⟩ := QTm.back hB1 ht hFc hR (fun q h => by simp only [List.mem_cons, List.not_mem_nil, or_false] at h ⊢; omega)
                        have hF_300 : F_293 g1 = .inl (cs 17, 700, .inl fv) := (hB1.2.2.2 g1 (by rw [hT_g1]; simp)).trans hF_135
                        generalize H1 = H at hP hS ⊢
                        refine W.widen (k := 0) (n := 0) (by omega) (by omega) ?_
                        exact jn_136 (u17_294, u19_295, u20_296, u21_297, v22) F_293 (⟨hq_298, hq_299.imp id (fun h => ⟨by rw [h.1]; decide, h.2⟩), fun h5 h9 => (c0_ne (by have h8 := (nm1 hw_272 c_273).2; rw [gA_fun hF_135] at h8; exact h8) (by omega) (hk3a h5) h9 (by decide)).elim⟩) hO hR _ _ hP hD hS ls (lv_sub hl [0, 1, 2, 3, 4, 5] rfl)
                      ·
                        refine lv_aload_n hx hb dX15_readTerm_370 rfl (lv_at hl 3 rfl) ?_
                        refine lv_iload hx hb dX15_readTerm_371 (lv_at hl 1 rfl) ?_
                        refine lv_iconst (v := 2) hx hb dX15_readTerm_373 (by decide) ?_
                        refine lv_iadd hx hb dX15_readTerm_374 ?_
                        refine lv_topi (fun x_301 ex_301 => ?_)
                        obtain rfl : x_301 = (nI (kk + 2)) := ex_301.trans (nI_add kk 2)
                        refine pg_bald hx hb hK hP hL_g1 1 hF_135 rfl (vp_in_nI (by omega) (by omega)) dX15_readTerm_375 ?_
                        refine lv_topi (fun x_302 ex_302 => ?_)
                        obtain rfl : x_302 = fv (kk + 2) := ex_302.trans (congrArg fv (show ((nI (kk + 2)) : Int32).toNatClampNeg = (kk + 2) from nI_clamp (by omega)))
                        refine lv_bipush (v := 47) hx hb dX15_readTerm_376 (by decide) ?_
                        refine lv_icmp_ne (tgt := 392) hx hb dX15_readTerm_378 (by decide) (fun c_303 => ?_) (fun c_303 => ?_)
                        ·
                          refine W.widen (k := 0) (n := 0) (by omega) (by omega) ?_
                          exact jn_136 (8, (-1), (-1), 32, v22) F_132 (⟨hk4a, Or.inl rfl, fun _ _ => rfl⟩) hO hR _ _ hP hD hS ls (lv_sub hl [0, 1, 2, 3, 4, 5] rfl)
                        ·
                          refine lv_aload_n hx hb dX15_readTerm_381 rfl (lv_at hl 2 rfl) ?_
                          refine lv_aload_n hx hb dX15_readTerm_382 rfl (lv_at hl 3 rfl) ?_
                          refine lv_iload hx hb dX15_readTerm_383 (lv_at hl 1 rfl) ?_
                          refine lv_iconst (v := 2) hx hb dX15_readTerm_385 (by decide) ?_
                          refine lv_iadd hx hb dX15_readTerm_386 ?_
                          refine lv_topi (fun x_304 ex_304 => ?_)
                          obtain rfl : x_304 = (nI (kk + 2)) := ex_304.trans (nI_add kk 2)
                          refine lv_iload_n hx hb dX15_readTerm_387 rfl (lv_at hl 5 rfl) ?_
                          refine lv_iconst (v := 3) hx hb dX15_readTerm_388 (by decide) ?_
                          have hFc := pg_free hD hS hA
                          refine va_callv (va_runV (As := [.ref g1, .int (nI (kk + 2)), .int (nI tt), .int 3]) (rest := []) ⟨hx, hb, hml, hown, hts⟩ (s_X15_readHost l dC dI cs ty gm L H.size F_132 h0 ρ ta ou so ad na va lc dm tg pe ml bg co sp nb0 nb1 nb2 pl se ke wi hs mo po nu pr sq xa sa n64 m64 ex wh sd tk hd ak ho ot sx s0 s1 s2 nf bd mm zt zo ze v11 v12 v14 v15 8 q18 (-1) (-1) 32 v22 v33 v52 v53 v54 g1 fv (kk + 2) tt 3 hW hL_h0 hT_h0 hL_g1 hT_g1 hk4a (by first | omega | assumption) (by first | omega | assumption) (by first | omega | assumption) (by first | omega | assumption) hF_135 (by first | omega | assumption) (by first | omega | assumption) (rfl)) ⟨callB_of 4 hts (gi kt_760) rfl rfl rfl (hts _ kt_669) (hts _ kt_761) (by decide +kernel) ⟨Nat.le_of_ble_eq_true rfl, Nat.le_of_ble_eq_true rfl⟩, (hts _ kt_762), (hts _ kt_763)⟩ ⟨fun a U g mk q => ⟨q.1, PTm.calling q.2⟩, pg_recv hK hP hL_h0 hk4a (q := (RX15, TX15, 59)) rfl, fun U hU hWm => ⟨rfl, PTm.mk hU hWm hP hK hD hE hO⟩⟩ rfl rfl hl.1 rfl (lv_room (Nat.le_of_ble_eq_true rfl)) dX15_readTerm_389 ⟨by show _ + 0 ≤ 0; omega, by show _ + 0 ≤ 0; omega⟩) hS (fun q _ h => hFc q h) hFc (fun u t H1 locs ht hvm hw hB hz1 hk1 hS => ?_)
                          obtain ⟨F_306, u17_307, u19_308, u20_309, u21_310, hB1, hq_311, hq_312⟩ := hB
                          obtain ⟨hP, hD, hO, hR⟩ := QTm.back hB1 ht hFc hR (fun q h => by simp only [List.mem_cons, List.not_mem_nil, or_false] at h ⊢; omega)
                          have hF_313 : F_306 g1 = .inl (cs 17, 700, .inl fv) := (hB1.2.2.2 g1 (by rw [hT_g1]; simp)).trans hF_135
                          generalize H1 = H at hP hS ⊢
                          refine W.widen (k := 0) (n := 0) (by omega) (by omega) ?_
                          exact jn_136 (u17_307, u19_308, u20_309, u21_310, v22) F_306 (⟨hq_311, hq_312.imp id (fun h => ⟨by rw [h.1]; decide, h.2⟩), fun h5 h9 => (c0_ne (by have h8 := (nm1 hw_272 c_273).2; rw [gA_fun hF_135] at h8; exact h8) (by omega) (hk3a h5) h9 (by decide)).elim⟩) hO hR _ _ hP hD hS ls (lv_sub hl [0, 1, 2, 3, 4, 5] rfl)
                ·
                  have hb288 := (nm1 hw_266 c_267).1
                  refine lv_iload_n hx hb dX15_readTerm_294 rfl (lv_at hl 5 rfl) ?_
                  refine lv_iload hx hb dX15_readTerm_295 (lv_at hl 1 rfl) ?_
                  refine lv_iconst (v := 1) hx hb dX15_readTerm_297 (by decide) ?_
                  refine lv_iadd hx hb dX15_readTerm_298 ?_
                  refine lv_topi (fun x_314 ex_314 => ?_)
                  obtain rfl : x_314 = (nI (kk + 1)) := ex_314.trans (nI_add kk 1)
                  refine lv_icmp_eq (tgt := 324) hx hb dX15_readTerm_299 (by decide) (fun c_315 => ?_) (fun c_315 => ?_)
                  ·
                    have hi_316 : tt = (kk + 1) := (nI_eq (a := tt) (b := (kk + 1)) (by omega) (by omega)).mp c_315
                    refine lv_aload_n hx hb dX15_readTerm_324 rfl (lv_at hl 2 rfl) ?_
                    refine lv_aload_n hx hb dX15_readTerm_325 rfl (lv_at hl 3 rfl) ?_
                    refine lv_iload hx hb dX15_readTerm_326 (lv_at hl 1 rfl) ?_
                    refine lv_iconst (v := 1) hx hb dX15_readTerm_328 (by decide) ?_
                    refine lv_iadd hx hb dX15_readTerm_329 ?_
                    refine lv_topi (fun x_317 ex_317 => ?_)
                    obtain rfl : x_317 = (nI (kk + 1)) := ex_317.trans (nI_add kk 1)
                    refine lv_iload_n hx hb dX15_readTerm_330 rfl (lv_at hl 5 rfl) ?_
                    refine lv_iconst (v := 2) hx hb dX15_readTerm_331 (by decide) ?_
                    have hFc := pg_free hD hS hA
                    refine va_callv (va_runV (As := [.ref g1, .int (nI (kk + 1)), .int (nI tt), .int 2]) (rest := []) ⟨hx, hb, hml, hown, hts⟩ (s_X15_readHost l dC dI cs ty gm L H.size F_132 h0 ρ ta ou so ad na va lc dm tg pe ml bg co sp nb0 nb1 nb2 pl se ke wi hs mo po nu pr sq xa sa n64 m64 ex wh sd tk hd ak ho ot sx s0 s1 s2 nf bd mm zt zo ze v11 v12 v14 v15 8 q18 (-1) (-1) 32 v22 v33 v52 v53 v54 g1 fv (kk + 1) tt 2 hW hL_h0 hT_h0 hL_g1 hT_g1 hk4a (by first | omega | assumption) (by first | omega | assumption) (by first | omega | assumption) (by first | omega | assumption) hF_135 (by first | omega | assumption) (by first | omega | assumption) (rfl)) ⟨callB_of 4 hts (gi kt_760) rfl rfl rfl (hts _ kt_669) (hts _ kt_761) (by decide +kernel) ⟨Nat.le_of_ble_eq_true rfl, Nat.le_of_ble_eq_true rfl⟩, (hts _ kt_762), (hts _ kt_763)⟩ ⟨fun a U g mk q => ⟨q.1, PTm.calling q.2⟩, pg_recv hK hP hL_h0 hk4a (q := (RX15, TX15, 59)) rfl, fun U hU hWm => ⟨rfl, PTm.mk hU hWm hP hK hD hE hO⟩⟩ rfl rfl hl.1 rfl (lv_room (Nat.le_of_ble_eq_true rfl)) dX15_readTerm_332 ⟨by show _ + 0 ≤ 0; omega, by show _ + 0 ≤ 0; omega⟩) hS (fun q _ h => hFc q h) hFc (fun u t H1 locs ht hvm hw hB hz1 hk1 hS => ?_)
                    obtain ⟨F_319, u17_320, u19_321, u20_322, u21_323, hB1, hq_324, hq_325⟩ := hB
                    obtain ⟨hP, hD, hO, hR⟩ := QTm.back hB1 ht hFc hR (fun q h => by simp only [List.mem_cons, List.not_mem_nil, or_false] at h ⊢; omega)
                    have hF_326 : F_319 g1 = .inl (cs 17, 700, .inl fv) := (hB1.2.2.2 g1 (by rw [hT_g1]; simp)).trans hF_135
                    generalize H1 = H at hP hS ⊢
                    refine lv_goto (tgt := 392) hx hb dX15_readTerm_335 (by decide) ?_
                    refine W.widen (k := 0) (n := 0) (by omega) (by omega) ?_
                    exact jn_136 (u17_320, u19_321, u20_322, u21_323, v22) F_319 (⟨hq_324, hq_325.imp id (fun h => ⟨by rw [h.1]; decide, h.2⟩), fun h5 h9 => (c0_ne (by have h8 := (nm1 hw_266 c_267).2; rw [gA_fun hF_135] at h8; exact h8) (by omega) (hk3a h5) h9 (by decide)).elim⟩) hO hR _ _ hP hD hS ls (lv_sub hl [0, 1, 2, 3, 4, 5] rfl)
                  ·
                    have hi_327 : tt ≠ (kk + 1) := fun q => c_315 (by rw [q])
                    refine lv_aload_n hx hb dX15_readTerm_302 rfl (lv_at hl 3 rfl) ?_
                    refine lv_iload hx hb dX15_readTerm_303 (lv_at hl 1 rfl) ?_
                    refine lv_iconst (v := 1) hx hb dX15_readTerm_305 (by decide) ?_
                    refine lv_iadd hx hb dX15_readTerm_306 ?_
                    refine lv_topi (fun x_328 ex_328 => ?_)
                    obtain rfl : x_328 = (nI (kk + 1)) := ex_328.trans (nI_add kk 1)
                    refine pg_bald hx hb hK hP hL_g1 1 hF_135 rfl (vp_in_nI (by omega) (by omega)) dX15_readTerm_307 ?_
                    refine lv_topi (fun x_329 ex_329 => ?_)
                    obtain rfl : x_329 = fv (kk + 1) := ex_329.trans (congrArg fv (show ((nI (kk + 1)) : Int32).toNatClampNeg = (kk + 1) from nI_clamp (by omega)))
                    refine lv_bipush (v := 58) hx hb dX15_readTerm_308 (by decide) ?_
                    refine lv_icmp_eq (tgt := 324) hx hb dX15_readTerm_310 (by decide) (fun c_330 => ?_) (fun c_330 => ?_)
                    ·
                      refine lv_aload_n hx hb dX15_readTerm_324 rfl (lv_at hl 2 rfl) ?_
                      refine lv_aload_n hx hb dX15_readTerm_325 rfl (lv_at hl 3 rfl) ?_
                      refine lv_iload hx hb dX15_readTerm_326 (lv_at hl 1 rfl) ?_
                      refine lv_iconst (v := 1) hx hb dX15_readTerm_328 (by decide) ?_
                      refine lv_iadd hx hb dX15_readTerm_329 ?_
                      refine lv_topi (fun x_331 ex_331 => ?_)
                      obtain rfl : x_331 = (nI (kk + 1)) := ex_331.trans (nI_add kk 1)
                      refine lv_iload_n hx hb dX15_readTerm_330 rfl (lv_at hl 5 rfl) ?_
                      refine lv_iconst (v := 2) hx hb dX15_readTerm_331 (by decide) ?_
                      have hFc := pg_free hD hS hA
                      refine va_callv (va_runV (As := [.ref g1, .int (nI (kk + 1)), .int (nI tt), .int 2]) (rest := []) ⟨hx, hb, hml, hown, hts⟩ (s_X15_readHost l dC dI cs ty gm L H.size F_132 h0 ρ ta ou so ad na va lc dm tg pe ml bg co sp nb0 nb1 nb2 pl se ke wi hs mo po nu pr sq xa sa n64 m64 ex wh sd tk hd ak ho ot sx s0 s1 s2 nf bd mm zt zo ze v11 v12 v14 v15 8 q18 (-1) (-1) 32 v22 v33 v52 v53 v54 g1 fv (kk + 1) tt 2 hW hL_h0 hT_h0 hL_g1 hT_g1 hk4a (by first | omega | assumption) (by first | omega | assumption) (by first | omega | assumption) (by first | omega | assumption) hF_135 (by first | omega | assumption) (by first | omega | assumption) (rfl)) ⟨callB_of 4 hts (gi kt_760) rfl rfl rfl (hts _ kt_669) (hts _ kt_761) (by decide +kernel) ⟨Nat.le_of_ble_eq_true rfl, Nat.le_of_ble_eq_true rfl⟩, (hts _ kt_762), (hts _ kt_763)⟩ ⟨fun a U g mk q => ⟨q.1, PTm.calling q.2⟩, pg_recv hK hP hL_h0 hk4a (q := (RX15, TX15, 59)) rfl, fun U hU hWm => ⟨rfl, PTm.mk hU hWm hP hK hD hE hO⟩⟩ rfl rfl hl.1 rfl (lv_room (Nat.le_of_ble_eq_true rfl)) dX15_readTerm_332 ⟨by show _ + 0 ≤ 0; omega, by show _ + 0 ≤ 0; omega⟩) hS (fun q _ h => hFc q h) hFc (fun u t H1 locs ht hvm hw hB hz1 hk1 hS => ?_)
                      obtain ⟨F_333, u17_334, u19_335, u20_336, u21_337, hB1, hq_338, hq_339⟩ := hB
                      obtain ⟨hP, hD, hO, hR⟩ := QTm.back hB1 ht hFc hR (fun q h => by simp only [List.mem_cons, List.not_mem_nil, or_false] at h ⊢; omega)
                      have hF_340 : F_333 g1 = .inl (cs 17, 700, .inl fv) := (hB1.2.2.2 g1 (by rw [hT_g1]; simp)).trans hF_135
                      generalize H1 = H at hP hS ⊢
                      refine lv_goto (tgt := 392) hx hb dX15_readTerm_335 (by decide) ?_
                      refine W.widen (k := 0) (n := 0) (by omega) (by omega) ?_
                      exact jn_136 (u17_334, u19_335, u20_336, u21_337, v22) F_333 (⟨hq_338, hq_339.imp id (fun h => ⟨by rw [h.1]; decide, h.2⟩), fun h5 h9 => (c0_ne (by have h8 := (nm1 hw_266 c_267).2; rw [gA_fun hF_135] at h8; exact h8) (by omega) (hk3a h5) h9 (by decide)).elim⟩) hO hR _ _ hP hD hS ls (lv_sub hl [0, 1, 2, 3, 4, 5] rfl)
                    ·
                      refine lv_aload_n hx hb dX15_readTerm_313 rfl (lv_at hl 3 rfl) ?_
                      refine lv_iload hx hb dX15_readTerm_314 (lv_at hl 1 rfl) ?_
                      refine lv_iconst (v := 1) hx hb dX15_readTerm_316 (by decide) ?_
                      refine lv_iadd hx hb dX15_readTerm_317 ?_
                      refine lv_topi (fun x_341 ex_341 => ?_)
                      obtain rfl : x_341 = (nI (kk + 1)) := ex_341.trans (nI_add kk 1)
                      refine pg_bald hx hb hK hP hL_g1 1 hF_135 rfl (vp_in_nI (by omega) (by omega)) dX15_readTerm_318 ?_
                      refine lv_topi (fun x_342 ex_342 => ?_)
                      obtain rfl : x_342 = fv (kk + 1) := ex_342.trans (congrArg fv (show ((nI (kk + 1)) : Int32).toNatClampNeg = (kk + 1) from nI_clamp (by omega)))
                      refine lv_bipush (v := 47) hx hb dX15_readTerm_319 (by decide) ?_
                      refine lv_icmp_ne (tgt := 338) hx hb dX15_readTerm_321 (by decide) (fun c_343 => ?_) (fun c_343 => ?_)
                      ·
                        refine lv_aload_n hx hb dX15_readTerm_338 rfl (lv_at hl 3 rfl) ?_
                        refine lv_iload hx hb dX15_readTerm_339 (lv_at hl 1 rfl) ?_
                        refine lv_iload_n hx hb dX15_readTerm_341 rfl (lv_at hl 5 rfl) ?_
                        obtain ⟨q_344, v_345, hr_q_344, hX_q_344⟩ := hG.2.2 ("PostGateModel", 280, "mx", [109, 120]) (by decide +kernel)
                        have hX_q_344 : SXc q_344 v_345 2 (cct [109, 120]) A s s.heap := hX_q_344
                        obtain ⟨xo_q_344, xc_q_344, xv_q_344, xt_q_344, xn_q_344⟩ := id hX_q_344
                        have hr_q_344 : vk_R "PostGateModel" 280 "mx" q_344 s := hr_q_344
                        refine va_ldcwS hx hb hown hr_q_344 dX15_readTerm_342 ?_
                        have hFc := pg_free hD hS hA
                        refine va_calli (va_runS (As := [.ref g1, .int (nI kk), .int (nI tt), .ref q_344]) (rest := []) ⟨hx, hb, hml, hown, hts⟩ (s_X15_begins l dC dI cs ty gm L H.size F_132 g1 (ρ + 31) 700 q_344 v_345 2 (cct [109, 120]) kk tt hW hL_g1 hT_g1 (by first | omega | assumption) (by first | omega | assumption)) ⟨callB_of 4 hts (gi kt_733) rfl rfl rfl (hts _ kt_669) (hts _ kt_734) (by decide +kernel) ⟨Nat.le_of_ble_eq_true rfl, Nat.le_of_ble_eq_true rfl⟩, (hts _ kt_735)⟩ ⟨fun a U g mk q => ⟨q.1, PTEm.calling q.2⟩, fun U hU hWm => ⟨rfl, PTEm.mk hU hWm hP hK hD hE hO hG (fun x hx => by rw [List.mem_singleton] at hx; subst hx; exact hX_q_344) hS hFc⟩⟩ rfl rfl hl.1 rfl (lv_room (Nat.le_of_ble_eq_true rfl)) dX15_readTerm_345 ⟨by show _ + 0 ≤ 0; omega, by show _ + 0 ≤ 0; omega⟩) hS (fun q _ h => hFc q h) hFc (fun r_346 u t H1 locs ht hvm hw hB hz1 hk1 hS => ?_)
                        obtain ⟨F_347, hB1⟩ := hB
                        obtain rfl : F_132 = F_347 := (funext (fun a => hB1.2.2.2 a List.not_mem_nil)).symm
                        obtain ⟨hP, hD, hO, hR⟩ := QTm.back hB1 ht hFc hR (fun q h => absurd h List.not_mem_nil)
                        generalize H1 = H at hP hS ⊢
                        have hw : ((r_346 = 1 ∧ bgP (gA (F_132 g1)) kk tt (cct [109, 120]) 2) ∨ (r_346 = 0 ∧ ¬ bgP (gA (F_132 g1)) kk tt (cct [109, 120]) 2)) := hw
                        have hw_348 := hw
                        refine lv_if_eq (tgt := 392) hx hb dX15_readTerm_348 (by decide) (fun c_349 => ?_) (fun c_349 => ?_)
                        ·
                          refine W.widen (k := 0) (n := 0) (by omega) (by omega) ?_
                          exact jn_136 (8, (-1), (-1), 32, v22) F_132 (⟨hk4a, Or.inl rfl, fun _ _ => rfl⟩) hO hR _ _ hP hD hS ls (lv_sub hl [0, 1, 2, 3, 4, 5] rfl)
                        ·
                          have hb345 := (nm1 hw_348 c_349).1
                          refine lv_iload_n hx hb dX15_readTerm_351 rfl (lv_at hl 5 rfl) ?_
                          refine lv_iload hx hb dX15_readTerm_352 (lv_at hl 1 rfl) ?_
                          refine lv_iconst (v := 2) hx hb dX15_readTerm_354 (by decide) ?_
                          refine lv_iadd hx hb dX15_readTerm_355 ?_
                          refine lv_topi (fun x_350 ex_350 => ?_)
                          obtain rfl : x_350 = (nI (kk + 2)) := ex_350.trans (nI_add kk 2)
                          refine lv_icmp_eq (tgt := 381) hx hb dX15_readTerm_356 (by decide) (fun c_351 => ?_) (fun c_351 => ?_)
                          ·
                            have hi_352 : tt = (kk + 2) := (nI_eq (a := tt) (b := (kk + 2)) (by omega) (by omega)).mp c_351
                            refine lv_aload_n hx hb dX15_readTerm_381 rfl (lv_at hl 2 rfl) ?_
                            refine lv_aload_n hx hb dX15_readTerm_382 rfl (lv_at hl 3 rfl) ?_
                            refine lv_iload hx hb dX15_readTerm_383 (lv_at hl 1 rfl) ?_
                            refine lv_iconst (v := 2) hx hb dX15_readTerm_385 (by decide) ?_
                            refine lv_iadd hx hb dX15_readTerm_386 ?_
                            refine lv_topi (fun x_353 ex_353 => ?_)
                            obtain rfl : x_353 = (nI (kk + 2)) := ex_353.trans (nI_add kk 2)
                            refine lv_iload_n hx hb dX15_readTerm_387 rfl (lv_at hl 5 rfl) ?_
                            refine lv_iconst (v := 3) hx hb dX15_readTerm_388 (by decide) ?_
                            have hFc := pg_free hD hS hA
                            refine va_callv (va_runV (As := [.ref g1, .int (nI (kk + 2)), .int (nI tt), .int 3]) (rest := []) ⟨hx, hb, hml, hown, hts⟩ (s_X15_readHost l dC dI cs ty gm L H.size F_132 h0 ρ ta ou so ad na va lc dm tg pe ml bg co sp nb0 nb1 nb2 pl se ke wi hs mo po nu pr sq xa sa n64 m64 ex wh sd tk hd ak ho ot sx s0 s1 s2 nf bd mm zt zo ze v11 v12 v14 v15 8 q18 (-1) (-1) 32 v22 v33 v52 v53 v54 g1 fv (kk + 2) tt 3 hW hL_h0 hT_h0 hL_g1 hT_g1 hk4a (by first | omega | assumption) (by first | omega | assumption) (by first | omega | assumption) (by first | omega | assumption) hF_135 (by first | omega | assumption) (by first | omega | assumption) (rfl)) ⟨callB_of 4 hts (gi kt_760) rfl rfl rfl (hts _ kt_669) (hts _ kt_761) (by decide +kernel) ⟨Nat.le_of_ble_eq_true rfl, Nat.le_of_ble_eq_true rfl⟩, (hts _ kt_762), (hts _ kt_763)⟩ ⟨fun a U g mk q => ⟨q.1, PTm.calling q.2⟩, pg_recv hK hP hL_h0 hk4a (q := (RX15, TX15, 59)) rfl, fun U hU hWm => ⟨rfl, PTm.mk hU hWm hP hK hD hE hO⟩⟩ rfl rfl hl.1 rfl (lv_room (Nat.le_of_ble_eq_true rfl)) dX15_readTerm_389 ⟨by show _ + 0 ≤ 0; omega, by show _ + 0 ≤ 0; omega⟩) hS (fun q _ h => hFc q h) hFc (fun u t H1 locs ht hvm hw hB hz1 hk1 hS => ?_)
                            obtain ⟨F_355, u17_356, u19_357, u20_358, u21_359, hB1, hq_360, hq_361⟩ := hB
                            obtain ⟨hP, hD, hO, hR⟩ := QTm.back hB1 ht hFc hR (fun q h => by simp only [List.mem_cons, List.not_mem_nil, or_false] at h ⊢; omega)
                            have hF_362 : F_355 g1 = .inl (cs 17, 700, .inl fv) := (hB1.2.2.2 g1 (by rw [hT_g1]; simp)).trans hF_135
                            generalize H1 = H at hP hS ⊢
                            refine W.widen (k := 0) (n := 0) (by omega) (by omega) ?_
                            exact jn_136 (u17_356, u19_357, u20_358, u21_359, v22) F_355 (⟨hq_360, hq_361.imp id (fun h => ⟨by rw [h.1]; decide, h.2⟩), fun h5 h9 => (c0_ne (by have h8 := (nm1 hw_348 c_349).2; rw [gA_fun hF_135] at h8; exact h8) (by omega) (hk3a h5) h9 (by decide)).elim⟩) hO hR _ _ hP hD hS ls (lv_sub hl [0, 1, 2, 3, 4, 5] rfl)
                          ·
                            have hi_363 : tt ≠ (kk + 2) := fun q => c_351 (by rw [q])
                            refine lv_aload_n hx hb dX15_readTerm_359 rfl (lv_at hl 3 rfl) ?_
                            refine lv_iload hx hb dX15_readTerm_360 (lv_at hl 1 rfl) ?_
                            refine lv_iconst (v := 2) hx hb dX15_readTerm_362 (by decide) ?_
                            refine lv_iadd hx hb dX15_readTerm_363 ?_
                            refine lv_topi (fun x_364 ex_364 => ?_)
                            obtain rfl : x_364 = (nI (kk + 2)) := ex_364.trans (nI_add kk 2)
                            refine pg_bald hx hb hK hP hL_g1 1 hF_135 rfl (vp_in_nI (by omega) (by omega)) dX15_readTerm_364 ?_
                            refine lv_topi (fun x_365 ex_365 => ?_)
                            obtain rfl : x_365 = fv (kk + 2) := ex_365.trans (congrArg fv (show ((nI (kk + 2)) : Int32).toNatClampNeg = (kk + 2) from nI_clamp (by omega)))
                            refine lv_bipush (v := 58) hx hb dX15_readTerm_365 (by decide) ?_
                            refine lv_icmp_eq (tgt := 381) hx hb dX15_readTerm_367 (by decide) (fun c_366 => ?_) (fun c_366 => ?_)
                            ·
                              refine lv_aload_n hx hb dX15_readTerm_381 rfl (lv_at hl 2 rfl) ?_
                              refine lv_aload_n hx hb dX15_readTerm_382 rfl (lv_at hl 3 rfl) ?_
                              refine lv_iload hx hb dX15_readTerm_383 (lv_at hl 1 rfl) ?_
                              refine lv_iconst (v := 2) hx hb dX15_readTerm_385 (by decide) ?_
                              refine lv_iadd hx hb dX15_readTerm_386 ?_
                              refine lv_topi (fun x_367 ex_367 => ?_)
                              obtain rfl : x_367 = (nI (kk + 2)) := ex_367.trans (nI_add kk 2)
                              refine lv_iload_n hx hb dX15_readTerm_387 rfl (lv_at hl 5 rfl) ?_
                              refine lv_iconst (v := 3) hx hb dX15_readTerm_388 (by decide) ?_
                              have hFc := pg_free hD hS hA
                              refine va_callv (va_runV (As := [.ref g1, .int (nI (kk + 2)), .int (nI tt), .int 3]) (rest := []) ⟨hx, hb, hml, hown, hts⟩ (s_X15_readHost l dC dI cs ty gm L H.size F_132 h0 ρ ta ou so ad na va lc dm tg pe ml bg co sp nb0 nb1 nb2 pl se ke wi hs mo po nu pr sq xa sa n64 m64 ex wh sd tk hd ak ho ot sx s0 s1 s2 nf bd mm zt zo ze v11 v12 v14 v15 8 q18 (-1) (-1) 32 v22 v33 v52 v53 v54 g1 fv (kk + 2) tt 3 hW hL_h0 hT_h0 hL_g1 hT_g1 hk4a (by first | omega | assumption) (by first | omega | assumption) (by first | omega | assumption) (by first | omega | assumption) hF_135 (by first | omega | assumption) (by first | omega | assumption) (rfl)) ⟨callB_of 4 hts (gi kt_760) rfl rfl rfl (hts _ kt_669) (hts _ kt_761) (by decide +kernel) ⟨Nat.le_of_ble_eq_true rfl, Nat.le_of_ble_eq_true rfl⟩, (hts _ kt_762), (hts _ kt_763)⟩ ⟨fun a U g mk q => ⟨q.1, PTm.calling q.2⟩, pg_recv hK hP hL_h0 hk4a (q := (RX15, TX15, 59)) rfl, fun U hU hWm => ⟨rfl, PTm.mk hU hWm hP hK hD hE hO⟩⟩ rfl rfl hl.1 rfl (lv_room (Nat.le_of_ble_eq_true rfl)) dX15_readTerm_389 ⟨by show _ + 0 ≤ 0; omega, by show _ + 0 ≤ 0; omega⟩) hS (fun q _ h => hFc q h) hFc (fun u t H1 locs ht hvm hw hB hz1 hk1 hS => ?_)
                              obtain ⟨F_369, u17_370, u19_371, u20_372, u21_373, hB1, hq_374, hq_375⟩ := hB
                              obtain ⟨hP, hD, hO, hR⟩ := QTm.back hB1 ht hFc hR (fun q h => by simp only [List.mem_cons, List.not_mem_nil, or_false] at h ⊢; omega)
                              have hF_376 : F_369 g1 = .inl (cs 17, 700, .inl fv) := (hB1.2.2.2 g1 (by rw [hT_g1]; simp)).trans hF_135
                              generalize H1 = H at hP hS ⊢
                              refine W.widen (k := 0) (n := 0) (by omega) (by omega) ?_
                              exact jn_136 (u17_370, u19_371, u20_372, u21_373, v22) F_369 (⟨hq_374, hq_375.imp id (fun h => ⟨by rw [h.1]; decide, h.2⟩), fun h5 h9 => (c0_ne (by have h8 := (nm1 hw_348 c_349).2; rw [gA_fun hF_135] at h8; exact h8) (by omega) (hk3a h5) h9 (by decide)).elim⟩) hO hR _ _ hP hD hS ls (lv_sub hl [0, 1, 2, 3, 4, 5] rfl)
                            ·
                              refine lv_aload_n hx hb dX15_readTerm_370 rfl (lv_at hl 3 rfl) ?_
                              refine lv_iload hx hb dX15_readTerm_371 (lv_at hl 1 rfl) ?_
                              refine lv_iconst (v := 2) hx hb dX15_readTerm_373 (by decide) ?_
                              refine lv_iadd hx hb dX15_readTerm_374 ?_
                              refine lv_topi (fun x_377 ex_377 => ?_)
                              obtain rfl : x_377 = (nI (kk + 2)) := ex_377.trans (nI_add kk 2)
                              refine pg_bald hx hb hK hP hL_g1 1 hF_135 rfl (vp_in_nI (by omega) (by omega)) dX15_readTerm_375 ?_
                              refine lv_topi (fun x_378 ex_378 => ?_)
                              obtain rfl : x_378 = fv (kk + 2) := ex_378.trans (congrArg fv (show ((nI (kk + 2)) : Int32).toNatClampNeg = (kk + 2) from nI_clamp (by omega)))
                              refine lv_bipush (v := 47) hx hb dX15_readTerm_376 (by decide) ?_
                              refine lv_icmp_ne (tgt := 392) hx hb dX15_readTerm_378 (by decide) (fun c_379 => ?_) (fun c_379 => ?_)
                              ·
                                refine W.widen (k := 0) (n := 0) (by omega) (by omega) ?_
                                exact jn_136 (8, (-1), (-1), 32, v22) F_132 (⟨hk4a, Or.inl rfl, fun _ _ => rfl⟩) hO hR _ _ hP hD hS ls (lv_sub hl [0, 1, 2, 3, 4, 5] rfl)
                              ·
                                refine lv_aload_n hx hb dX15_readTerm_381 rfl (lv_at hl 2 rfl) ?_
                                refine lv_aload_n hx hb dX15_readTerm_382 rfl (lv_at hl 3 rfl) ?_
                                refine lv_iload hx hb dX15_readTerm_383 (lv_at hl 1 rfl) ?_
                                refine lv_iconst (v := 2) hx hb dX15_readTerm_385 (by decide) ?_
                                refine lv_iadd hx hb dX15_readTerm_386 ?_
                                refine lv_topi (fun x_380 ex_380 => ?_)
                                obtain rfl : x_380 = (nI (kk + 2)) := ex_380.trans (nI_add kk 2)
                                refine lv_iload_n hx hb dX15_readTerm_387 rfl (lv_at hl 5 rfl) ?_
                                refine lv_iconst (v := 3) hx hb dX15_readTerm_388 (by decide) ?_
                                have hFc := pg_free hD hS hA
                                refine va_callv (va_runV (As := [.ref g1, .int (nI (kk + 2)), .int (nI tt), .int 3]) (rest := []) ⟨hx, hb, hml, hown, hts⟩ (s_X15_readHost l dC dI cs ty gm L H.size F_132 h0 ρ ta ou so ad na va lc dm tg pe ml bg co sp nb0 nb1 nb2 pl se ke wi hs mo po nu pr sq xa sa n64 m64 ex wh sd tk hd ak ho ot sx s0 s1 s2 nf bd mm zt zo ze v11 v12 v14 v15 8 q18 (-1) (-1) 32 v22 v33 v52 v53 v54 g1 fv (kk + 2) tt 3 hW hL_h0 hT_h0 hL_g1 hT_g1 hk4a (by first | omega | assumption) (by first | omega | assumption) (by first | omega | assumption) (by first | omega | assumption) hF_135 (by first | omega | assumption) (by first | omega | assumption) (rfl)) ⟨callB_of 4 hts (gi kt_760) rfl rfl rfl (hts _ kt_669) (hts _ kt_761) (by decide +kernel) ⟨Nat.le_of_ble_eq_true rfl, Nat.le_of_ble_eq_true rfl⟩, (hts _ kt_762), (hts _ kt_763)⟩ ⟨fun a U g mk q => ⟨q.1, PTm.calling q.2⟩, pg_recv hK hP hL_h0 hk4a (q := (RX15, TX15, 59)) rfl, fun U hU hWm => ⟨rfl, PTm.mk hU hWm hP hK hD hE hO⟩⟩ rfl rfl hl.1 rfl (lv_room (Nat.le_of_ble_eq_true rfl)) dX15_readTerm_389 ⟨by show _ + 0 ≤ 0; omega, by show _ + 0 ≤ 0; omega⟩) hS (fun q _ h => hFc q h) hFc (fun u t H1 locs ht hvm hw hB hz1 hk1 hS => ?_)
                                obtain ⟨F_382, u17_383, u19_384, u20_385, u21_386, hB1, hq_387, hq_388⟩ := hB
                                obtain ⟨hP, hD, hO, hR⟩ := QTm.back hB1 ht hFc hR (fun q h => by simp only [List.mem_cons, List.not_mem_nil, or_false] at h ⊢; omega)
                                have hF_389 : F_382 g1 = .inl (cs 17, 700, .inl fv) := (hB1.2.2.2 g1 (by rw [hT_g1]; simp)).trans hF_135
                                generalize H1 = H at hP hS ⊢
                                refine W.widen (k := 0) (n := 0) (by omega) (by omega) ?_
                                exact jn_136 (u17_383, u19_384, u20_385, u21_386, v22) F_382 (⟨hq_387, hq_388.imp id (fun h => ⟨by rw [h.1]; decide, h.2⟩), fun h5 h9 => (c0_ne (by have h8 := (nm1 hw_348 c_349).2; rw [gA_fun hF_135] at h8; exact h8) (by omega) (hk3a h5) h9 (by decide)).elim⟩) hO hR _ _ hP hD hS ls (lv_sub hl [0, 1, 2, 3, 4, 5] rfl)
                      ·
                        refine lv_aload_n hx hb dX15_readTerm_324 rfl (lv_at hl 2 rfl) ?_
                        refine lv_aload_n hx hb dX15_readTerm_325 rfl (lv_at hl 3 rfl) ?_
                        refine lv_iload hx hb dX15_readTerm_326 (lv_at hl 1 rfl) ?_
                        refine lv_iconst (v := 1) hx hb dX15_readTerm_328 (by decide) ?_
                        refine lv_iadd hx hb dX15_readTerm_329 ?_
                        refine lv_topi (fun x_390 ex_390 => ?_)
                        obtain rfl : x_390 = (nI (kk + 1)) := ex_390.trans (nI_add kk 1)
                        refine lv_iload_n hx hb dX15_readTerm_330 rfl (lv_at hl 5 rfl) ?_
                        refine lv_iconst (v := 2) hx hb dX15_readTerm_331 (by decide) ?_
                        have hFc := pg_free hD hS hA
                        refine va_callv (va_runV (As := [.ref g1, .int (nI (kk + 1)), .int (nI tt), .int 2]) (rest := []) ⟨hx, hb, hml, hown, hts⟩ (s_X15_readHost l dC dI cs ty gm L H.size F_132 h0 ρ ta ou so ad na va lc dm tg pe ml bg co sp nb0 nb1 nb2 pl se ke wi hs mo po nu pr sq xa sa n64 m64 ex wh sd tk hd ak ho ot sx s0 s1 s2 nf bd mm zt zo ze v11 v12 v14 v15 8 q18 (-1) (-1) 32 v22 v33 v52 v53 v54 g1 fv (kk + 1) tt 2 hW hL_h0 hT_h0 hL_g1 hT_g1 hk4a (by first | omega | assumption) (by first | omega | assumption) (by first | omega | assumption) (by first | omega | assumption) hF_135 (by first | omega | assumption) (by first | omega | assumption) (rfl)) ⟨callB_of 4 hts (gi kt_760) rfl rfl rfl (hts _ kt_669) (hts _ kt_761) (by decide +kernel) ⟨Nat.le_of_ble_eq_true rfl, Nat.le_of_ble_eq_true rfl⟩, (hts _ kt_762), (hts _ kt_763)⟩ ⟨fun a U g mk q => ⟨q.1, PTm.calling q.2⟩, pg_recv hK hP hL_h0 hk4a (q := (RX15, TX15, 59)) rfl, fun U hU hWm => ⟨rfl, PTm.mk hU hWm hP hK hD hE hO⟩⟩ rfl rfl hl.1 rfl (lv_room (Nat.le_of_ble_eq_true rfl)) dX15_readTerm_332 ⟨by show _ + 0 ≤ 0; omega, by show _ + 0 ≤ 0; omega⟩) hS (fun q _ h => hFc q h) hFc (fun u t H1 locs ht hvm hw hB hz1 hk1 hS => ?_)
                        obtain ⟨F_392, u17_393, u19_394, u20_395, u21_396, hB1, hq_397, hq_398⟩ := hB
                        obtain ⟨hP, hD, hO, hR⟩ := QTm.back hB1 ht hFc hR (fun q h => by simp only [List.mem_cons, List.not_mem_nil, or_false] at h ⊢; omega)
                        have hF_399 : F_392 g1 = .inl (cs 17, 700, .inl fv) := (hB1.2.2.2 g1 (by rw [hT_g1]; simp)).trans hF_135
                        generalize H1 = H at hP hS ⊢
                        refine lv_goto (tgt := 392) hx hb dX15_readTerm_335 (by decide) ?_
                        refine W.widen (k := 0) (n := 0) (by omega) (by omega) ?_
                        exact jn_136 (u17_393, u19_394, u20_395, u21_396, v22) F_392 (⟨hq_397, hq_398.imp id (fun h => ⟨by rw [h.1]; decide, h.2⟩), fun h5 h9 => (c0_ne (by have h8 := (nm1 hw_266 c_267).2; rw [gA_fun hF_135] at h8; exact h8) (by omega) (hk3a h5) h9 (by decide)).elim⟩) hO hR _ _ hP hD hS ls (lv_sub hl [0, 1, 2, 3, 4, 5] rfl)
              ·
                have hb218 := (nm1 hw_260 c_261).1
                refine lv_aload_n hx hb dX15_readTerm_224 rfl (lv_at hl 3 rfl) ?_
                refine lv_iload hx hb dX15_readTerm_225 (lv_at hl 1 rfl) ?_
                refine lv_iload_n hx hb dX15_readTerm_227 rfl (lv_at hl 5 rfl) ?_
                have hFc := pg_free hD hS hA
                refine va_calli (va_runS (As := [.ref g1, .int (nI kk), .int (nI tt)]) (rest := []) ⟨hx, hb, hml, hown, hts⟩ (s_X15_slashOf l dC dI cs ty gm L H.size F_132 g1 (ρ + 31) 700 kk tt hW hL_g1 hT_g1 (by first | omega | assumption) (by first | omega | assumption)) ⟨callB_of 3 hts (gi kt_746) rfl rfl rfl (hts _ kt_669) (hts _ kt_747) (by decide +kernel) ⟨Nat.le_of_ble_eq_true rfl, Nat.le_of_ble_eq_true rfl⟩, (hts _ kt_748)⟩ ⟨fun a U g mk q => ⟨q.1, PTm.calling q.2⟩, fun U hU hWm => ⟨rfl, PTm.mk hU hWm hP hK hD hE hO⟩⟩ rfl rfl hl.1 rfl (lv_room (Nat.le_of_ble_eq_true rfl)) dX15_readTerm_228 ⟨by show _ + 0 ≤ 0; omega, by show _ + 0 ≤ 0; omega⟩) hS (fun q _ h => hFc q h) hFc (fun r_400 u t H1 locs ht hvm hw hB hz1 hk1 hS => ?_)
                obtain ⟨F_401, hB1⟩ := hB
                obtain rfl : F_132 = F_401 := (funext (fun a => hB1.2.2.2 a List.not_mem_nil)).symm
                obtain ⟨hP, hD, hO, hR⟩ := QTm.back hB1 ht hFc hR (fun q h => absurd h List.not_mem_nil)
                generalize H1 = H at hP hS ⊢
                have hw : (∃ k : Nat, kk ≤ k ∧ k ≤ max kk tt ∧ r_400 = nI k) := hw
                have hw_402 := hw
                obtain ⟨k_403, hk_403a, hk_403b, ek_403⟩ := hw_402
                subst ek_403
                refine lv_istore (lv' := [(6, .int (nI k_403)), (5, .int s5), (4, .int (nI kk)), (0, .ref h0), (1, .ref g1), (2, .int (nI a)), (3, .int (nI tt))]) hx hb dX15_readTerm_231 hl (by decide) rfl (fun ls hl => ?_)
                have hF_406 : F g1 = .inl (cs 17, 700, .inl fv) := (hR g1 (by rw [hT_g1]; simp)).symm.trans hF_135
                refine W.widen (k := 0) (n := 0) (by omega) (by omega) ?_
                refine pl_cutm (σ := Int32) A (dC, dI) cs ty gm L [ρ] F 252 7 (fun y21 => [(6, .int (nI k_403)), (5, .int s5), (4, .int (nI kk)), (0, .ref h0), (1, .ref g1), (2, .int (nI a)), (3, .int (nI tt))]) (fun y21 => []) (fun y21 FF => FF h0 = .inr (15, (.ref ta) :: (.int (nI zt)) :: (.int (nI zo)) :: (.int (nI ze)) :: (.ref ou) :: (.ref so) :: (.ref ad) :: (.ref na) :: (.ref va) :: (.ref lc) :: (.ref dm) :: (.int v11) :: (.int v12) :: (.ref tg) :: (.int v14) :: (.int v15) :: (.ref pe) :: (.int 8) :: (.int q18) :: (.int (-1)) :: (.int (-1)) :: (.int y21) :: (.int v22) :: (.ref ml) :: (.ref bg) :: (.ref co) :: (.ref sp) :: (.ref nb0) :: (.ref nb1) :: (.ref nb2) :: (.int (nI nf)) :: (.int (nI bd)) :: (.int (nI mm)) :: (.int v33) :: (.ref pl) :: (.ref se) :: (.ref ke) :: (.ref wi) :: (.ref hs) :: (.ref mo) :: (.ref po) :: (.ref nu) :: (.ref pr) :: (.ref sq) :: (.ref xa) :: (.ref sa) :: (.ref n64) :: (.ref m64) :: (.ref ex) :: (.ref wh) :: (.ref sd) :: (.ref tk) :: (.int v52) :: (.int v53) :: (.int v54) :: (.ref hd) :: (.ref ak) :: (.ref ho) :: (.ref ot) :: [])) ?_ (fun jn_404 => ?_)
                ·
                  rintro y21 F_405 hv_407 hO hR H locs hP hD hS ls hl
                  have hl : lv_has ls 7 [(6, .int (nI k_403)), (5, .int s5), (4, .int (nI kk)), (0, .ref h0), (1, .ref g1), (2, .int (nI a)), (3, .int (nI tt))] := hl
                  have hv_407 : F_405 h0 = .inr (15, (.ref ta) :: (.int (nI zt)) :: (.int (nI zo)) :: (.int (nI ze)) :: (.ref ou) :: (.ref so) :: (.ref ad) :: (.ref na) :: (.ref va) :: (.ref lc) :: (.ref dm) :: (.int v11) :: (.int v12) :: (.ref tg) :: (.int v14) :: (.int v15) :: (.ref pe) :: (.int 8) :: (.int q18) :: (.int (-1)) :: (.int (-1)) :: (.int y21) :: (.int v22) :: (.ref ml) :: (.ref bg) :: (.ref co) :: (.ref sp) :: (.ref nb0) :: (.ref nb1) :: (.ref nb2) :: (.int (nI nf)) :: (.int (nI bd)) :: (.int (nI mm)) :: (.int v33) :: (.ref pl) :: (.ref se) :: (.ref ke) :: (.ref wi) :: (.ref hs) :: (.ref mo) :: (.ref po) :: (.ref nu) :: (.ref pr) :: (.ref sq) :: (.ref xa) :: (.ref sa) :: (.ref n64) :: (.ref m64) :: (.ref ex) :: (.ref wh) :: (.ref sd) :: (.ref tk) :: (.int v52) :: (.int v53) :: (.int v54) :: (.ref hd) :: (.ref ak) :: (.ref ho) :: (.ref ot) :: []) := hv_407
                  refine W.eq (g2 := F0 m 252 ls []) rfl ?_
                  have hF_408 : F_405 g1 = .inl (cs 17, 700, .inl fv) := (hR g1 (by rw [hT_g1]; simp)).trans hF_406
                  refine lv_aload_n hx hb dX15_readTerm_252 rfl (lv_at hl 3 rfl) ?_
                  refine lv_aload_n hx hb dX15_readTerm_253 rfl (lv_at hl 4 rfl) ?_
                  refine lv_iload hx hb dX15_readTerm_254 (lv_at hl 2 rfl) ?_
                  refine lv_iconst (v := 4) hx hb dX15_readTerm_256 (by decide) ?_
                  refine lv_iadd hx hb dX15_readTerm_257 ?_
                  refine lv_topi (fun x_409 ex_409 => ?_)
                  obtain rfl : x_409 = (nI (kk + 4)) := ex_409.trans (nI_add kk 4)
                  refine lv_iload hx hb dX15_readTerm_258 (lv_at hl 0 rfl) ?_
                  have hFc := pg_free hD hS hA
                  refine va_calli (va_runV (As := [.ref g1, .int (nI (kk + 4)), .int (nI k_403)]) (rest := []) ⟨hx, hb, hml, hown, hts⟩ (s_X15_isQuad l dC dI cs ty gm L H.size F_405 h0 ρ ta ou so ad na va lc dm tg pe ml bg co sp nb0 nb1 nb2 pl se ke wi hs mo po nu pr sq xa sa n64 m64 ex wh sd tk hd ak ho ot sx s0 s1 s2 nf bd mm zt zo ze v11 v12 v14 v15 8 q18 (-1) (-1) y21 v22 v33 v52 v53 v54 g1 fv (kk + 4) k_403 hW hL_h0 hT_h0 hL_g1 hT_g1 hv_407 (by first | omega | assumption) (by first | omega | assumption) (by first | omega | assumption) (by first | omega | assumption) hF_408 (by first | omega | assumption) (by first | omega | assumption)) ⟨callB_of 3 hts (gi kt_764) rfl rfl rfl (hts _ kt_669) (hts _ kt_765) (by decide +kernel) ⟨Nat.le_of_ble_eq_true rfl, Nat.le_of_ble_eq_true rfl⟩, (hts _ kt_766), (hts _ kt_767)⟩ ⟨fun a U g mk q => ⟨q.1, PTm.calling q.2⟩, pg_recv hK hP hL_h0 hv_407 (q := (RX15, TX15, 59)) rfl, fun U hU hWm => ⟨rfl, PTm.mk hU hWm hP hK hD hE hO⟩⟩ rfl rfl hl.1 rfl (lv_room (Nat.le_of_ble_eq_true rfl)) dX15_readTerm_260 ⟨by show _ + 0 ≤ 0; omega, by show _ + 0 ≤ 0; omega⟩) hS (fun q _ h => hFc q h) hFc (fun r_410 u t H1 locs ht hvm hw hB hz1 hk1 hS => ?_)
                  obtain ⟨F_411, u22_412, hB1, hq_413⟩ := hB
                  obtain ⟨hP, hD, hO, hR⟩ := QTm.back hB1 ht hFc hR (fun q h => by simp only [List.mem_cons, List.not_mem_nil, or_false] at h ⊢; omega)
                  have hF_414 : F_411 g1 = .inl (cs 17, 700, .inl fv) := (hB1.2.2.2 g1 (by rw [hT_g1]; simp)).trans hF_408
                  generalize H1 = H at hP hS ⊢
                  have hw : (r_410 = 0 ∨ r_410 = 1) := hw
                  have hw_415 := hw
                  refine lv_if_eq (tgt := 278) hx hb dX15_readTerm_263 (by decide) (fun c_416 => ?_) (fun c_416 => ?_)
                  ·
                    refine lv_goto (tgt := 392) hx hb dX15_readTerm_278 (by decide) ?_
                    refine W.widen (k := 0) (n := 0) (by omega) (by omega) ?_
                    exact jn_136 (8, (-1), (-1), y21, u22_412) F_411 (⟨hq_413, Or.inl rfl, fun _ _ => rfl⟩) hO hR _ _ hP hD hS ls (lv_sub hl [1, 2, 3, 4, 5, 6] rfl)
                  ·
                    refine lv_aload_n hx hb dX15_readTerm_266 rfl (lv_at hl 3 rfl) ?_
                    refine pg_get (ci := 15) (v := .int y21) (C := RX15) (T := TX15) (N := 59) hx hb hts it_15 hown hK hP hL_h0 hq_413 rfl 21 (by decide) (hts _ kt_749) (fun _ h9 => h9) rfl dX15_readTerm_267 ?_
                    refine lv_if_lt (tgt := 278) hx hb dX15_readTerm_270 (by decide) (fun c_417 => ?_) (fun c_417 => ?_)
                    ·
                      refine lv_goto (tgt := 392) hx hb dX15_readTerm_278 (by decide) ?_
                      refine W.widen (k := 0) (n := 0) (by omega) (by omega) ?_
                      exact jn_136 (8, (-1), (-1), y21, u22_412) F_411 (⟨hq_413, Or.inl rfl, fun _ _ => rfl⟩) hO hR _ _ hP hD hS ls (lv_sub hl [1, 2, 3, 4, 5, 6] rfl)
                    ·
                      refine lv_aload_n hx hb dX15_readTerm_273 rfl (lv_at hl 3 rfl) ?_
                      refine lv_iconst (v := 4) hx hb dX15_readTerm_274 (by decide) ?_
                      refine pg_put (ci := 15) (v := .int 4) (ty := .int) (C := RX15) (T := TX15) (N := 59) hx hb hts it_15 tyX15 tyX15_ok nmX15 hown hK hP hD hS hL_h0 hq_413 rfl 17 (by decide) (hts _ kt_750) (fun _ h9 => h9) rfl (by decide +kernel) (rfl) (rfl) (Nat.le_of_ble_eq_true rfl) dX15_readTerm_275 (fun H locs hP hD hS => ?_)
                      obtain ⟨F_418, he_419, hP, hD, hO, hR⟩ : ∃ G, G = va_up F_411 h0 (.inr (15, (.ref ta) :: (.int (nI zt)) :: (.int (nI zo)) :: (.int (nI ze)) :: (.ref ou) :: (.ref so) :: (.ref ad) :: (.ref na) :: (.ref va) :: (.ref lc) :: (.ref dm) :: (.int v11) :: (.int v12) :: (.ref tg) :: (.int v14) :: (.int v15) :: (.ref pe) :: (.int 4) :: (.int q18) :: (.int (-1)) :: (.int (-1)) :: (.int y21) :: (.int u22_412) :: (.ref ml) :: (.ref bg) :: (.ref co) :: (.ref sp) :: (.ref nb0) :: (.ref nb1) :: (.ref nb2) :: (.int (nI nf)) :: (.int (nI bd)) :: (.int (nI mm)) :: (.int v33) :: (.ref pl) :: (.ref se) :: (.ref ke) :: (.ref wi) :: (.ref hs) :: (.ref mo) :: (.ref po) :: (.ref nu) :: (.ref pr) :: (.ref sq) :: (.ref xa) :: (.ref sa) :: (.ref n64) :: (.ref m64) :: (.ref ex) :: (.ref wh) :: (.ref sd) :: (.ref tk) :: (.int v52) :: (.int v53) :: (.int v54) :: (.ref hd) :: (.ref ak) :: (.ref ho) :: (.ref ot) :: [])) ∧ va_P (dC, dI) vwCl (va_pl L G) H ∧ va_D A (va_pl L G) ∧ OKm cs ty gm L G ∧ FR ty [ρ] F G := ⟨_, rfl, hP, hD, hO.up (shm.mod hT_h0 ⟨zo, ze, v11, v12, v14, v15, 4, q18, (-1), (-1), y21, u22_412, v33, v52, v53, v54, rfl, (by first | omega | assumption | exact Or.inl rfl | exact Or.inr rfl), (by first | omega | assumption | exact Or.inl rfl | exact Or.inr rfl), (by first | omega | assumption | exact Or.inl rfl | exact Or.inr rfl), (by first | omega | assumption | exact Or.inl rfl | exact Or.inr rfl)⟩), hR.up hT_h0 (by simp)⟩
                      have hF_420 : F_418 h0 = .inr (15, (.ref ta) :: (.int (nI zt)) :: (.int (nI zo)) :: (.int (nI ze)) :: (.ref ou) :: (.ref so) :: (.ref ad) :: (.ref na) :: (.ref va) :: (.ref lc) :: (.ref dm) :: (.int v11) :: (.int v12) :: (.ref tg) :: (.int v14) :: (.int v15) :: (.ref pe) :: (.int 4) :: (.int q18) :: (.int (-1)) :: (.int (-1)) :: (.int y21) :: (.int u22_412) :: (.ref ml) :: (.ref bg) :: (.ref co) :: (.ref sp) :: (.ref nb0) :: (.ref nb1) :: (.ref nb2) :: (.int (nI nf)) :: (.int (nI bd)) :: (.int (nI mm)) :: (.int v33) :: (.ref pl) :: (.ref se) :: (.ref ke) :: (.ref wi) :: (.ref hs) :: (.ref mo) :: (.ref po) :: (.ref nu) :: (.ref pr) :: (.ref sq) :: (.ref xa) :: (.ref sa) :: (.ref n64) :: (.ref m64) :: (.ref ex) :: (.ref wh) :: (.ref sd) :: (.ref tk) :: (.int v52) :: (.int v53) :: (.int v54) :: (.ref hd) :: (.ref ak) :: (.ref ho) :: (.ref ot) :: []) := by rw [he_419]; exact up_self
                      have hF_421 : F_418 g1 = .inl (cs 17, 700, .inl fv) := by rw [he_419, up_ne (ne_ty hT_g1 hT_h0 (by simp))]; exact hF_414
                      refine lv_goto (tgt := 392) hx hb dX15_readTerm_278 (by decide) ?_
                      refine W.widen (k := 0) (n := 0) (by omega) (by omega) ?_
                      exact jn_136 (4, (-1), (-1), y21, u22_412) F_418 (⟨hF_420, Or.inr ⟨(Or.inr (Or.inr (Or.inr (Or.inr (Or.inl rfl))))), Or.inl rfl⟩, fun h5 h9 => (c0_ne (by have h8 := (nm1 hw_260 c_261).2; rw [gA_fun hF_135] at h8; exact h8) (by omega) (hk3a h5) h9 (by decide)).elim⟩) hO hR _ _ hP hD hS ls (lv_sub hl [1, 2, 3, 4, 5, 6] rfl)
                ·
                  refine lv_iload hx hb dX15_readTerm_233 (lv_at hl 0 rfl) ?_
                  refine lv_iload_n hx hb dX15_readTerm_235 rfl (lv_at hl 6 rfl) ?_
                  refine lv_icmp_ge (tgt := 252) hx hb dX15_readTerm_236 (by decide) (fun c_422 => ?_) (fun c_422 => ?_)
                  ·
                    have hi_423 : tt ≤ k_403 := leN (N := tt) c_422
                    refine W.widen (k := 0) (n := 0) (by omega) (by omega) ?_
                    exact jn_404 32 F_132 (hk4a) hO hR _ _ hP hD hS ls (lv_sub hl [0, 1, 2, 3, 4, 5, 6] rfl)
                  ·
                    have hi_424 : k_403 < tt := ltN (N := tt) c_422
                    refine lv_aload_n hx hb dX15_readTerm_239 rfl (lv_at hl 3 rfl) ?_
                    refine lv_aload_n hx hb dX15_readTerm_240 rfl (lv_at hl 4 rfl) ?_
                    refine lv_iload hx hb dX15_readTerm_241 (lv_at hl 0 rfl) ?_
                    refine lv_iconst (v := 1) hx hb dX15_readTerm_243 (by decide) ?_
                    refine lv_iadd hx hb dX15_readTerm_244 ?_
                    refine lv_topi (fun x_425 ex_425 => ?_)
                    obtain rfl : x_425 = (nI (k_403 + 1)) := ex_425.trans (nI_add k_403 1)
                    refine lv_iload_n hx hb dX15_readTerm_245 rfl (lv_at hl 6 rfl) ?_
                    have hFc := pg_free hD hS hA
                    refine va_calli (va_runS (As := [.ref g1, .int (nI (k_403 + 1)), .int (nI tt)]) (rest := [.ref h0]) ⟨hx, hb, hml, hown, hts⟩ (s_X15_bits l dC dI cs ty gm L H.size F_132 g1 (ρ + 31) 700 (k_403 + 1) tt hW hL_g1 hT_g1 (by first | omega | assumption) (by first | omega | assumption)) ⟨callB_of 3 hts (gi kt_756) rfl rfl rfl (hts _ kt_669) (hts _ kt_757) (by decide +kernel) ⟨Nat.le_of_ble_eq_true rfl, Nat.le_of_ble_eq_true rfl⟩, (hts _ kt_758)⟩ ⟨fun a U g mk q => ⟨q.1, PTm.calling q.2⟩, fun U hU hWm => ⟨rfl, PTm.mk hU hWm hP hK hD hE hO⟩⟩ rfl rfl hl.1 rfl (lv_room (Nat.le_of_ble_eq_true rfl)) dX15_readTerm_246 ⟨by show _ + 0 ≤ 0; omega, by show _ + 0 ≤ 0; omega⟩) hS (fun q _ h => hFc q h) hFc (fun r_426 u t H1 locs ht hvm hw hB hz1 hk1 hS => ?_)
                    obtain ⟨F_427, hB1⟩ := hB
                    obtain rfl : F_132 = F_427 := (funext (fun a => hB1.2.2.2 a List.not_mem_nil)).symm
                    obtain ⟨hP, hD, hO, hR⟩ := QTm.back hB1 ht hFc hR (fun q h => absurd h List.not_mem_nil)
                    generalize H1 = H at hP hS ⊢
                    have hw : True := hw
                    have hw_428 := hw
                    refine pg_put (ci := 15) (v := .int r_426) (ty := .int) (C := RX15) (T := TX15) (N := 59) hx hb hts it_15 tyX15 tyX15_ok nmX15 hown hK hP hD hS hL_h0 hk4a rfl 21 (by decide) (hts _ kt_749) (fun _ h9 => h9) rfl (by decide +kernel) (rfl) (rfl) (Nat.le_of_ble_eq_true rfl) dX15_readTerm_249 (fun H locs hP hD hS => ?_)
                    obtain ⟨F_429, he_430, hP, hD, hO, hR⟩ : ∃ G, G = va_up F_132 h0 (.inr (15, (.ref ta) :: (.int (nI zt)) :: (.int (nI zo)) :: (.int (nI ze)) :: (.ref ou) :: (.ref so) :: (.ref ad) :: (.ref na) :: (.ref va) :: (.ref lc) :: (.ref dm) :: (.int v11) :: (.int v12) :: (.ref tg) :: (.int v14) :: (.int v15) :: (.ref pe) :: (.int 8) :: (.int q18) :: (.int (-1)) :: (.int (-1)) :: (.int r_426) :: (.int v22) :: (.ref ml) :: (.ref bg) :: (.ref co) :: (.ref sp) :: (.ref nb0) :: (.ref nb1) :: (.ref nb2) :: (.int (nI nf)) :: (.int (nI bd)) :: (.int (nI mm)) :: (.int v33) :: (.ref pl) :: (.ref se) :: (.ref ke) :: (.ref wi) :: (.ref hs) :: (.ref mo) :: (.ref po) :: (.ref nu) :: (.ref pr) :: (.ref sq) :: (.ref xa) :: (.ref sa) :: (.ref n64) :: (.ref m64) :: (.ref ex) :: (.ref wh) :: (.ref sd) :: (.ref tk) :: (.int v52) :: (.int v53) :: (.int v54) :: (.ref hd) :: (.ref ak) :: (.ref ho) :: (.ref ot) :: [])) ∧ va_P (dC, dI) vwCl (va_pl L G) H ∧ va_D A (va_pl L G) ∧ OKm cs ty gm L G ∧ FR ty [ρ] F G := ⟨_, rfl, hP, hD, hO.up (shm.mod hT_h0 ⟨zo, ze, v11, v12, v14, v15, 8, q18, (-1), (-1), r_426, v22, v33, v52, v53, v54, rfl, (by first | omega | assumption | exact Or.inl rfl | exact Or.inr rfl), (by first | omega | assumption | exact Or.inl rfl | exact Or.inr rfl), (by first | omega | assumption | exact Or.inl rfl | exact Or.inr rfl), (by first | omega | assumption | exact Or.inl rfl | exact Or.inr rfl)⟩), hR.up hT_h0 (by simp)⟩
                    have hF_431 : F_429 h0 = .inr (15, (.ref ta) :: (.int (nI zt)) :: (.int (nI zo)) :: (.int (nI ze)) :: (.ref ou) :: (.ref so) :: (.ref ad) :: (.ref na) :: (.ref va) :: (.ref lc) :: (.ref dm) :: (.int v11) :: (.int v12) :: (.ref tg) :: (.int v14) :: (.int v15) :: (.ref pe) :: (.int 8) :: (.int q18) :: (.int (-1)) :: (.int (-1)) :: (.int r_426) :: (.int v22) :: (.ref ml) :: (.ref bg) :: (.ref co) :: (.ref sp) :: (.ref nb0) :: (.ref nb1) :: (.ref nb2) :: (.int (nI nf)) :: (.int (nI bd)) :: (.int (nI mm)) :: (.int v33) :: (.ref pl) :: (.ref se) :: (.ref ke) :: (.ref wi) :: (.ref hs) :: (.ref mo) :: (.ref po) :: (.ref nu) :: (.ref pr) :: (.ref sq) :: (.ref xa) :: (.ref sa) :: (.ref n64) :: (.ref m64) :: (.ref ex) :: (.ref wh) :: (.ref sd) :: (.ref tk) :: (.int v52) :: (.int v53) :: (.int v54) :: (.ref hd) :: (.ref ak) :: (.ref ho) :: (.ref ot) :: []) := by rw [he_430]; exact up_self
                    have hF_432 : F_429 g1 = .inl (cs 17, 700, .inl fv) := by rw [he_430, up_ne (ne_ty hT_g1 hT_h0 (by simp))]; exact hF_135
                    refine W.widen (k := 0) (n := 0) (by omega) (by omega) ?_
                    exact jn_404 r_426 F_429 (hF_431) hO hR _ _ hP hD hS ls (lv_sub hl [0, 1, 2, 3, 4, 5, 6] rfl)
            ·
              have hb167 := (nm1 hw_254 c_255).1
              refine lv_aload_n hx hb dX15_readTerm_173 rfl (lv_at hl 2 rfl) ?_
              refine lv_iload hx hb dX15_readTerm_174 (lv_at hl 1 rfl) ?_
              refine lv_bipush (v := 7) hx hb dX15_readTerm_176 (by decide) ?_
              refine lv_iadd hx hb dX15_readTerm_178 ?_
              refine lv_topi (fun x_433 ex_433 => ?_)
              obtain rfl : x_433 = (nI (kk + 7)) := ex_433.trans (nI_add kk 7)
              refine pg_put (ci := 15) (v := .int (nI (kk + 7))) (ty := .int) (C := RX15) (T := TX15) (N := 59) hx hb hts it_15 tyX15 tyX15_ok nmX15 hown hK hP hD hS hL_h0 hk4a rfl 19 (by decide) (hts _ kt_751) (fun _ h9 => h9) rfl (by decide +kernel) (rfl) (rfl) (Nat.le_of_ble_eq_true rfl) dX15_readTerm_179 (fun H locs hP hD hS => ?_)
              obtain ⟨F_434, he_435, hP, hD, hO, hR⟩ : ∃ G, G = va_up F_132 h0 (.inr (15, (.ref ta) :: (.int (nI zt)) :: (.int (nI zo)) :: (.int (nI ze)) :: (.ref ou) :: (.ref so) :: (.ref ad) :: (.ref na) :: (.ref va) :: (.ref lc) :: (.ref dm) :: (.int v11) :: (.int v12) :: (.ref tg) :: (.int v14) :: (.int v15) :: (.ref pe) :: (.int 8) :: (.int q18) :: (.int (nI (kk + 7))) :: (.int (-1)) :: (.int 32) :: (.int v22) :: (.ref ml) :: (.ref bg) :: (.ref co) :: (.ref sp) :: (.ref nb0) :: (.ref nb1) :: (.ref nb2) :: (.int (nI nf)) :: (.int (nI bd)) :: (.int (nI mm)) :: (.int v33) :: (.ref pl) :: (.ref se) :: (.ref ke) :: (.ref wi) :: (.ref hs) :: (.ref mo) :: (.ref po) :: (.ref nu) :: (.ref pr) :: (.ref sq) :: (.ref xa) :: (.ref sa) :: (.ref n64) :: (.ref m64) :: (.ref ex) :: (.ref wh) :: (.ref sd) :: (.ref tk) :: (.int v52) :: (.int v53) :: (.int v54) :: (.ref hd) :: (.ref ak) :: (.ref ho) :: (.ref ot) :: [])) ∧ va_P (dC, dI) vwCl (va_pl L G) H ∧ va_D A (va_pl L G) ∧ OKm cs ty gm L G ∧ FR ty [ρ] F G := ⟨_, rfl, hP, hD, hO.up (shm.mod hT_h0 ⟨zo, ze, v11, v12, v14, v15, 8, q18, (nI (kk + 7)), (-1), 32, v22, v33, v52, v53, v54, rfl, (by first | omega | assumption | exact Or.inl rfl | exact Or.inr rfl), (by first | omega | assumption | exact Or.inl rfl | exact Or.inr rfl), (by first | omega | assumption | exact Or.inl rfl | exact Or.inr rfl), (by first | omega | assumption | exact Or.inl rfl | exact Or.inr rfl)⟩), hR.up hT_h0 (by simp)⟩
              have hF_436 : F_434 h0 = .inr (15, (.ref ta) :: (.int (nI zt)) :: (.int (nI zo)) :: (.int (nI ze)) :: (.ref ou) :: (.ref so) :: (.ref ad) :: (.ref na) :: (.ref va) :: (.ref lc) :: (.ref dm) :: (.int v11) :: (.int v12) :: (.ref tg) :: (.int v14) :: (.int v15) :: (.ref pe) :: (.int 8) :: (.int q18) :: (.int (nI (kk + 7))) :: (.int (-1)) :: (.int 32) :: (.int v22) :: (.ref ml) :: (.ref bg) :: (.ref co) :: (.ref sp) :: (.ref nb0) :: (.ref nb1) :: (.ref nb2) :: (.int (nI nf)) :: (.int (nI bd)) :: (.int (nI mm)) :: (.int v33) :: (.ref pl) :: (.ref se) :: (.ref ke) :: (.ref wi) :: (.ref hs) :: (.ref mo) :: (.ref po) :: (.ref nu) :: (.ref pr) :: (.ref sq) :: (.ref xa) :: (.ref sa) :: (.ref n64) :: (.ref m64) :: (.ref ex) :: (.ref wh) :: (.ref sd) :: (.ref tk) :: (.int v52) :: (.int v53) :: (.int v54) :: (.ref hd) :: (.ref ak) :: (.ref ho) :: (.ref ot) :: []) := by rw [he_435]; exact up_self
              have hF_437 : F_434 g1 = .inl (cs 17, 700, .inl fv) := by rw [he_435, up_ne (ne_ty hT_g1 hT_h0 (by simp))]; exact hF_135
              refine lv_aload_n hx hb dX15_readTerm_182 rfl (lv_at hl 2 rfl) ?_
              refine lv_iload_n hx hb dX15_readTerm_183 rfl (lv_at hl 5 rfl) ?_
              refine pg_put (ci := 15) (v := .int (nI tt)) (ty := .int) (C := RX15) (T := TX15) (N := 59) hx hb hts it_15 tyX15 tyX15_ok nmX15 hown hK hP hD hS hL_h0 hF_436 rfl 20 (by decide) (hts _ kt_752) (fun _ h9 => h9) rfl (by decide +kernel) (rfl) (rfl) (Nat.le_of_ble_eq_true rfl) dX15_readTerm_184 (fun H locs hP hD hS => ?_)
              obtain ⟨F_438, he_439, hP, hD, hO, hR⟩ : ∃ G, G = va_up F_434 h0 (.inr (15, (.ref ta) :: (.int (nI zt)) :: (.int (nI zo)) :: (.int (nI ze)) :: (.ref ou) :: (.ref so) :: (.ref ad) :: (.ref na) :: (.ref va) :: (.ref lc) :: (.ref dm) :: (.int v11) :: (.int v12) :: (.ref tg) :: (.int v14) :: (.int v15) :: (.ref pe) :: (.int 8) :: (.int q18) :: (.int (nI (kk + 7))) :: (.int (nI tt)) :: (.int 32) :: (.int v22) :: (.ref ml) :: (.ref bg) :: (.ref co) :: (.ref sp) :: (.ref nb0) :: (.ref nb1) :: (.ref nb2) :: (.int (nI nf)) :: (.int (nI bd)) :: (.int (nI mm)) :: (.int v33) :: (.ref pl) :: (.ref se) :: (.ref ke) :: (.ref wi) :: (.ref hs) :: (.ref mo) :: (.ref po) :: (.ref nu) :: (.ref pr) :: (.ref sq) :: (.ref xa) :: (.ref sa) :: (.ref n64) :: (.ref m64) :: (.ref ex) :: (.ref wh) :: (.ref sd) :: (.ref tk) :: (.int v52) :: (.int v53) :: (.int v54) :: (.ref hd) :: (.ref ak) :: (.ref ho) :: (.ref ot) :: [])) ∧ va_P (dC, dI) vwCl (va_pl L G) H ∧ va_D A (va_pl L G) ∧ OKm cs ty gm L G ∧ FR ty [ρ] F G := ⟨_, rfl, hP, hD, hO.up (shm.mod hT_h0 ⟨zo, ze, v11, v12, v14, v15, 8, q18, (nI (kk + 7)), (nI tt), 32, v22, v33, v52, v53, v54, rfl, (by first | omega | assumption | exact Or.inl rfl | exact Or.inr rfl), (by first | omega | assumption | exact Or.inl rfl | exact Or.inr rfl), (by first | omega | assumption | exact Or.inl rfl | exact Or.inr rfl), (by first | omega | assumption | exact Or.inl rfl | exact Or.inr rfl)⟩), hR.up hT_h0 (by simp)⟩
              have hF_440 : F_438 h0 = .inr (15, (.ref ta) :: (.int (nI zt)) :: (.int (nI zo)) :: (.int (nI ze)) :: (.ref ou) :: (.ref so) :: (.ref ad) :: (.ref na) :: (.ref va) :: (.ref lc) :: (.ref dm) :: (.int v11) :: (.int v12) :: (.ref tg) :: (.int v14) :: (.int v15) :: (.ref pe) :: (.int 8) :: (.int q18) :: (.int (nI (kk + 7))) :: (.int (nI tt)) :: (.int 32) :: (.int v22) :: (.ref ml) :: (.ref bg) :: (.ref co) :: (.ref sp) :: (.ref nb0) :: (.ref nb1) :: (.ref nb2) :: (.int (nI nf)) :: (.int (nI bd)) :: (.int (nI mm)) :: (.int v33) :: (.ref pl) :: (.ref se) :: (.ref ke) :: (.ref wi) :: (.ref hs) :: (.ref mo) :: (.ref po) :: (.ref nu) :: (.ref pr) :: (.ref sq) :: (.ref xa) :: (.ref sa) :: (.ref n64) :: (.ref m64) :: (.ref ex) :: (.ref wh) :: (.ref sd) :: (.ref tk) :: (.int v52) :: (.int v53) :: (.int v54) :: (.ref hd) :: (.ref ak) :: (.ref ho) :: (.ref ot) :: []) := by rw [he_439]; exact up_self
              have hF_441 : F_438 g1 = .inl (cs 17, 700, .inl fv) := by rw [he_439, up_ne (ne_ty hT_g1 hT_h0 (by simp))]; exact hF_437
              refine lv_aload_n hx hb dX15_readTerm_187 rfl (lv_at hl 3 rfl) ?_
              refine lv_aload_n hx hb dX15_readTerm_188 rfl (lv_at hl 2 rfl) ?_
              refine pg_get (ci := 15) (v := .int (nI (kk + 7))) (C := RX15) (T := TX15) (N := 59) hx hb hts it_15 hown hK hP hL_h0 hF_440 rfl 19 (by decide) (hts _ kt_751) (fun _ h9 => h9) rfl dX15_readTerm_189 ?_
              refine lv_aload_n hx hb dX15_readTerm_192 rfl (lv_at hl 2 rfl) ?_
              refine pg_get (ci := 15) (v := .int (nI tt)) (C := RX15) (T := TX15) (N := 59) hx hb hts it_15 hown hK hP hL_h0 hF_440 rfl 20 (by decide) (hts _ kt_752) (fun _ h9 => h9) rfl dX15_readTerm_193 ?_
              refine lv_iconst (v := 1) hx hb dX15_readTerm_196 (by decide) ?_
              have hFc := pg_free hD hS hA
              refine va_calli (va_runS (As := [.ref g1, .int (nI (kk + 7)), .int (nI tt), .int 1]) (rest := []) ⟨hx, hb, hml, hown, hts⟩ (s_X15_isD l dC dI cs ty gm L H.size F_438 g1 (ρ + 31) 700 (kk + 7) tt 1 hW hL_g1 hT_g1 (by first | omega | assumption) (by first | omega | assumption)) ⟨callB_of 4 hts (gi kt_753) rfl rfl rfl (hts _ kt_669) (hts _ kt_754) (by decide +kernel) ⟨Nat.le_of_ble_eq_true rfl, Nat.le_of_ble_eq_true rfl⟩, (hts _ kt_755)⟩ ⟨fun a U g mk q => ⟨q.1, PTm.calling q.2⟩, fun U hU hWm => ⟨rfl, PTm.mk hU hWm hP hK hD hE hO⟩⟩ rfl rfl hl.1 rfl (lv_room (Nat.le_of_ble_eq_true rfl)) dX15_readTerm_197 ⟨by show _ + 0 ≤ 0; omega, by show _ + 0 ≤ 0; omega⟩) hS (fun q _ h => hFc q h) hFc (fun r_442 u t H1 locs ht hvm hw hB hz1 hk1 hS => ?_)
              obtain ⟨F_443, hB1⟩ := hB
              obtain rfl : F_438 = F_443 := (funext (fun a => hB1.2.2.2 a List.not_mem_nil)).symm
              obtain ⟨hP, hD, hO, hR⟩ := QTm.back hB1 ht hFc hR (fun q h => absurd h List.not_mem_nil)
              generalize H1 = H at hP hS ⊢
              have hw : (r_442 = 0 ∨ (r_442 = 1 ∧ (kk + 7) < tt ∧ ISD (gA (F_438 g1)) tt (kk + 7))) := hw
              have hw_444 := hw
              refine lv_if_eq (tgt := 392) hx hb dX15_readTerm_200 (by decide) (fun c_445 => ?_) (fun c_445 => ?_)
              ·
                refine W.widen (k := 0) (n := 0) (by omega) (by omega) ?_
                exact jn_136 (8, (nI (kk + 7)), (nI tt), 32, v22) F_438 (⟨hF_440, Or.inl rfl, fun _ _ => rfl⟩) hO hR _ _ hP hD hS ls (lv_sub hl [0, 1, 2, 3, 4, 5] rfl)
              ·
                refine lv_aload_n hx hb dX15_readTerm_203 rfl (lv_at hl 2 rfl) ?_
                refine lv_iconst (v := 5) hx hb dX15_readTerm_204 (by decide) ?_
                refine pg_put (ci := 15) (v := .int 5) (ty := .int) (C := RX15) (T := TX15) (N := 59) hx hb hts it_15 tyX15 tyX15_ok nmX15 hown hK hP hD hS hL_h0 hF_440 rfl 17 (by decide) (hts _ kt_750) (fun _ h9 => h9) rfl (by decide +kernel) (rfl) (rfl) (Nat.le_of_ble_eq_true rfl) dX15_readTerm_205 (fun H locs hP hD hS => ?_)
                obtain ⟨F_446, he_447, hP, hD, hO, hR⟩ : ∃ G, G = va_up F_438 h0 (.inr (15, (.ref ta) :: (.int (nI zt)) :: (.int (nI zo)) :: (.int (nI ze)) :: (.ref ou) :: (.ref so) :: (.ref ad) :: (.ref na) :: (.ref va) :: (.ref lc) :: (.ref dm) :: (.int v11) :: (.int v12) :: (.ref tg) :: (.int v14) :: (.int v15) :: (.ref pe) :: (.int 5) :: (.int q18) :: (.int (nI (kk + 7))) :: (.int (nI tt)) :: (.int 32) :: (.int v22) :: (.ref ml) :: (.ref bg) :: (.ref co) :: (.ref sp) :: (.ref nb0) :: (.ref nb1) :: (.ref nb2) :: (.int (nI nf)) :: (.int (nI bd)) :: (.int (nI mm)) :: (.int v33) :: (.ref pl) :: (.ref se) :: (.ref ke) :: (.ref wi) :: (.ref hs) :: (.ref mo) :: (.ref po) :: (.ref nu) :: (.ref pr) :: (.ref sq) :: (.ref xa) :: (.ref sa) :: (.ref n64) :: (.ref m64) :: (.ref ex) :: (.ref wh) :: (.ref sd) :: (.ref tk) :: (.int v52) :: (.int v53) :: (.int v54) :: (.ref hd) :: (.ref ak) :: (.ref ho) :: (.ref ot) :: [])) ∧ va_P (dC, dI) vwCl (va_pl L G) H ∧ va_D A (va_pl L G) ∧ OKm cs ty gm L G ∧ FR ty [ρ] F G := ⟨_, rfl, hP, hD, hO.up (shm.mod hT_h0 ⟨zo, ze, v11, v12, v14, v15, 5, q18, (nI (kk + 7)), (nI tt), 32, v22, v33, v52, v53, v54, rfl, (by first | omega | assumption | exact Or.inl rfl | exact Or.inr rfl), (by first | omega | assumption | exact Or.inl rfl | exact Or.inr rfl), (by first | omega | assumption | exact Or.inl rfl | exact Or.inr rfl), (by first | omega | assumption | exact Or.inl rfl | exact Or.inr rfl)⟩), hR.up hT_h0 (by simp)⟩
                have hF_448 : F_446 h0 = .inr (15, (.ref ta) :: (.int (nI zt)) :: (.int (nI zo)) :: (.int (nI ze)) :: (.ref ou) :: (.ref so) :: (.ref ad) :: (.ref na) :: (.ref va) :: (.ref lc) :: (.ref dm) :: (.int v11) :: (.int v12) :: (.ref tg) :: (.int v14) :: (.int v15) :: (.ref pe) :: (.int 5) :: (.int q18) :: (.int (nI (kk + 7))) :: (.int (nI tt)) :: (.int 32) :: (.int v22) :: (.ref ml) :: (.ref bg) :: (.ref co) :: (.ref sp) :: (.ref nb0) :: (.ref nb1) :: (.ref nb2) :: (.int (nI nf)) :: (.int (nI bd)) :: (.int (nI mm)) :: (.int v33) :: (.ref pl) :: (.ref se) :: (.ref ke) :: (.ref wi) :: (.ref hs) :: (.ref mo) :: (.ref po) :: (.ref nu) :: (.ref pr) :: (.ref sq) :: (.ref xa) :: (.ref sa) :: (.ref n64) :: (.ref m64) :: (.ref ex) :: (.ref wh) :: (.ref sd) :: (.ref tk) :: (.int v52) :: (.int v53) :: (.int v54) :: (.ref hd) :: (.ref ak) :: (.ref ho) :: (.ref ot) :: []) := by rw [he_447]; exact up_self
                have hF_449 : F_446 g1 = .inl (cs 17, 700, .inl fv) := by rw [he_447, up_ne (ne_ty hT_g1 hT_h0 (by simp))]; exact hF_441
                refine lv_goto (tgt := 392) hx hb dX15_readTerm_208 (by decide) ?_
                refine W.widen (k := 0) (n := 0) (by omega) (by omega) ?_
                exact jn_136 (5, (nI (kk + 7)), (nI tt), 32, v22) F_446 (⟨hF_448, Or.inr ⟨(Or.inr (Or.inr (Or.inr (Or.inr (Or.inr rfl))))), Or.inr ⟨_, _, rfl, rfl, Nat.le_of_lt (bit1 hw_444 c_445).1, by omega, (by have h9 := (bit1 hw_444 c_445).2; rw [gA_fun hF_441] at h9; exact h9)⟩⟩, fun h5 h9 => (c0_ne (by have h8 := (nm1 hw_254 c_255).2; rw [gA_fun hF_135] at h8; exact h8) (by omega) (hk3a h5) h9 (by decide)).elim⟩) hO hR _ _ hP hD hS ls (lv_sub hl [0, 1, 2, 3, 4, 5] rfl)
          ·
            have hb116 := (nm1 hw_248 c_249).1
            refine lv_aload_n hx hb dX15_readTerm_122 rfl (lv_at hl 2 rfl) ?_
            refine lv_iload hx hb dX15_readTerm_123 (lv_at hl 1 rfl) ?_
            refine lv_bipush (v := 8) hx hb dX15_readTerm_125 (by decide) ?_
            refine lv_iadd hx hb dX15_readTerm_127 ?_
            refine lv_topi (fun x_450 ex_450 => ?_)
            obtain rfl : x_450 = (nI (kk + 8)) := ex_450.trans (nI_add kk 8)
            refine pg_put (ci := 15) (v := .int (nI (kk + 8))) (ty := .int) (C := RX15) (T := TX15) (N := 59) hx hb hts it_15 tyX15 tyX15_ok nmX15 hown hK hP hD hS hL_h0 hk4a rfl 19 (by decide) (hts _ kt_751) (fun _ h9 => h9) rfl (by decide +kernel) (rfl) (rfl) (Nat.le_of_ble_eq_true rfl) dX15_readTerm_128 (fun H locs hP hD hS => ?_)
            obtain ⟨F_451, he_452, hP, hD, hO, hR⟩ : ∃ G, G = va_up F_132 h0 (.inr (15, (.ref ta) :: (.int (nI zt)) :: (.int (nI zo)) :: (.int (nI ze)) :: (.ref ou) :: (.ref so) :: (.ref ad) :: (.ref na) :: (.ref va) :: (.ref lc) :: (.ref dm) :: (.int v11) :: (.int v12) :: (.ref tg) :: (.int v14) :: (.int v15) :: (.ref pe) :: (.int 8) :: (.int q18) :: (.int (nI (kk + 8))) :: (.int (-1)) :: (.int 32) :: (.int v22) :: (.ref ml) :: (.ref bg) :: (.ref co) :: (.ref sp) :: (.ref nb0) :: (.ref nb1) :: (.ref nb2) :: (.int (nI nf)) :: (.int (nI bd)) :: (.int (nI mm)) :: (.int v33) :: (.ref pl) :: (.ref se) :: (.ref ke) :: (.ref wi) :: (.ref hs) :: (.ref mo) :: (.ref po) :: (.ref nu) :: (.ref pr) :: (.ref sq) :: (.ref xa) :: (.ref sa) :: (.ref n64) :: (.ref m64) :: (.ref ex) :: (.ref wh) :: (.ref sd) :: (.ref tk) :: (.int v52) :: (.int v53) :: (.int v54) :: (.ref hd) :: (.ref ak) :: (.ref ho) :: (.ref ot) :: [])) ∧ va_P (dC, dI) vwCl (va_pl L G) H ∧ va_D A (va_pl L G) ∧ OKm cs ty gm L G ∧ FR ty [ρ] F G := ⟨_, rfl, hP, hD, hO.up (shm.mod hT_h0 ⟨zo, ze, v11, v12, v14, v15, 8, q18, (nI (kk + 8)), (-1), 32, v22, v33, v52, v53, v54, rfl, (by first | omega | assumption | exact Or.inl rfl | exact Or.inr rfl), (by first | omega | assumption | exact Or.inl rfl | exact Or.inr rfl), (by first | omega | assumption | exact Or.inl rfl | exact Or.inr rfl), (by first | omega | assumption | exact Or.inl rfl | exact Or.inr rfl)⟩), hR.up hT_h0 (by simp)⟩
            have hF_453 : F_451 h0 = .inr (15, (.ref ta) :: (.int (nI zt)) :: (.int (nI zo)) :: (.int (nI ze)) :: (.ref ou) :: (.ref so) :: (.ref ad) :: (.ref na) :: (.ref va) :: (.ref lc) :: (.ref dm) :: (.int v11) :: (.int v12) :: (.ref tg) :: (.int v14) :: (.int v15) :: (.ref pe) :: (.int 8) :: (.int q18) :: (.int (nI (kk + 8))) :: (.int (-1)) :: (.int 32) :: (.int v22) :: (.ref ml) :: (.ref bg) :: (.ref co) :: (.ref sp) :: (.ref nb0) :: (.ref nb1) :: (.ref nb2) :: (.int (nI nf)) :: (.int (nI bd)) :: (.int (nI mm)) :: (.int v33) :: (.ref pl) :: (.ref se) :: (.ref ke) :: (.ref wi) :: (.ref hs) :: (.ref mo) :: (.ref po) :: (.ref nu) :: (.ref pr) :: (.ref sq) :: (.ref xa) :: (.ref sa) :: (.ref n64) :: (.ref m64) :: (.ref ex) :: (.ref wh) :: (.ref sd) :: (.ref tk) :: (.int v52) :: (.int v53) :: (.int v54) :: (.ref hd) :: (.ref ak) :: (.ref ho) :: (.ref ot) :: []) := by rw [he_452]; exact up_self
            have hF_454 : F_451 g1 = .inl (cs 17, 700, .inl fv) := by rw [he_452, up_ne (ne_ty hT_g1 hT_h0 (by simp))]; exact hF_135
            refine lv_aload_n hx hb dX15_readTerm_131 rfl (lv_at hl 2 rfl) ?_
            refine lv_iload_n hx hb dX15_readTerm_132 rfl (lv_at hl 5 rfl) ?_
            refine pg_put (ci := 15) (v := .int (nI tt)) (ty := .int) (C := RX15) (T := TX15) (N := 59) hx hb hts it_15 tyX15 tyX15_ok nmX15 hown hK hP hD hS hL_h0 hF_453 rfl 20 (by decide) (hts _ kt_752) (fun _ h9 => h9) rfl (by decide +kernel) (rfl) (rfl) (Nat.le_of_ble_eq_true rfl) dX15_readTerm_133 (fun H locs hP hD hS => ?_)
            obtain ⟨F_455, he_456, hP, hD, hO, hR⟩ : ∃ G, G = va_up F_451 h0 (.inr (15, (.ref ta) :: (.int (nI zt)) :: (.int (nI zo)) :: (.int (nI ze)) :: (.ref ou) :: (.ref so) :: (.ref ad) :: (.ref na) :: (.ref va) :: (.ref lc) :: (.ref dm) :: (.int v11) :: (.int v12) :: (.ref tg) :: (.int v14) :: (.int v15) :: (.ref pe) :: (.int 8) :: (.int q18) :: (.int (nI (kk + 8))) :: (.int (nI tt)) :: (.int 32) :: (.int v22) :: (.ref ml) :: (.ref bg) :: (.ref co) :: (.ref sp) :: (.ref nb0) :: (.ref nb1) :: (.ref nb2) :: (.int (nI nf)) :: (.int (nI bd)) :: (.int (nI mm)) :: (.int v33) :: (.ref pl) :: (.ref se) :: (.ref ke) :: (.ref wi) :: (.ref hs) :: (.ref mo) :: (.ref po) :: (.ref nu) :: (.ref pr) :: (.ref sq) :: (.ref xa) :: (.ref sa) :: (.ref n64) :: (.ref m64) :: (.ref ex) :: (.ref wh) :: (.ref sd) :: (.ref tk) :: (.int v52) :: (.int v53) :: (.int v54) :: (.ref hd) :: (.ref ak) :: (.ref ho) :: (.ref ot) :: [])) ∧ va_P (dC, dI) vwCl (va_pl L G) H ∧ va_D A (va_pl L G) ∧ OKm cs ty gm L G ∧ FR ty [ρ] F G := ⟨_, rfl, hP, hD, hO.up (shm.mod hT_h0 ⟨zo, ze, v11, v12, v14, v15, 8, q18, (nI (kk + 8)), (nI tt), 32, v22, v33, v52, v53, v54, rfl, (by first | omega | assumption | exact Or.inl rfl | exact Or.inr rfl), (by first | omega | assumption | exact Or.inl rfl | exact Or.inr rfl), (by first | omega | assumption | exact Or.inl rfl | exact Or.inr rfl), (by first | omega | assumption | exact Or.inl rfl | exact Or.inr rfl)⟩), hR.up hT_h0 (by simp)⟩
            have hF_457 : F_455 h0 = .inr (15, (.ref ta) :: (.int (nI zt)) :: (.int (nI zo)) :: (.int (nI ze)) :: (.ref ou) :: (.ref so) :: (.ref ad) :: (.ref na) :: (.ref va) :: (.ref lc) :: (.ref dm) :: (.int v11) :: (.int v12) :: (.ref tg) :: (.int v14) :: (.int v15) :: (.ref pe) :: (.int 8) :: (.int q18) :: (.int (nI (kk + 8))) :: (.int (nI tt)) :: (.int 32) :: (.int v22) :: (.ref ml) :: (.ref bg) :: (.ref co) :: (.ref sp) :: (.ref nb0) :: (.ref nb1) :: (.ref nb2) :: (.int (nI nf)) :: (.int (nI bd)) :: (.int (nI mm)) :: (.int v33) :: (.ref pl) :: (.ref se) :: (.ref ke) :: (.ref wi) :: (.ref hs) :: (.ref mo) :: (.ref po) :: (.ref nu) :: (.ref pr) :: (.ref sq) :: (.ref xa) :: (.ref sa) :: (.ref n64) :: (.ref m64) :: (.ref ex) :: (.ref wh) :: (.ref sd) :: (.ref tk) :: (.int v52) :: (.int v53) :: (.int v54) :: (.ref hd) :: (.ref ak) :: (.ref ho) :: (.ref ot) :: []) := by rw [he_456]; exact up_self
            have hF_458 : F_455 g1 = .inl (cs 17, 700, .inl fv) := by rw [he_456, up_ne (ne_ty hT_g1 hT_h0 (by simp))]; exact hF_454
            refine lv_aload_n hx hb dX15_readTerm_136 rfl (lv_at hl 3 rfl) ?_
            refine lv_aload_n hx hb dX15_readTerm_137 rfl (lv_at hl 2 rfl) ?_
            refine pg_get (ci := 15) (v := .int (nI (kk + 8))) (C := RX15) (T := TX15) (N := 59) hx hb hts it_15 hown hK hP hL_h0 hF_457 rfl 19 (by decide) (hts _ kt_751) (fun _ h9 => h9) rfl dX15_readTerm_138 ?_
            refine lv_aload_n hx hb dX15_readTerm_141 rfl (lv_at hl 2 rfl) ?_
            refine pg_get (ci := 15) (v := .int (nI tt)) (C := RX15) (T := TX15) (N := 59) hx hb hts it_15 hown hK hP hL_h0 hF_457 rfl 20 (by decide) (hts _ kt_752) (fun _ h9 => h9) rfl dX15_readTerm_142 ?_
            refine lv_iconst (v := 1) hx hb dX15_readTerm_145 (by decide) ?_
            have hFc := pg_free hD hS hA
            refine va_calli (va_runS (As := [.ref g1, .int (nI (kk + 8)), .int (nI tt), .int 1]) (rest := []) ⟨hx, hb, hml, hown, hts⟩ (s_X15_isD l dC dI cs ty gm L H.size F_455 g1 (ρ + 31) 700 (kk + 8) tt 1 hW hL_g1 hT_g1 (by first | omega | assumption) (by first | omega | assumption)) ⟨callB_of 4 hts (gi kt_753) rfl rfl rfl (hts _ kt_669) (hts _ kt_754) (by decide +kernel) ⟨Nat.le_of_ble_eq_true rfl, Nat.le_of_ble_eq_true rfl⟩, (hts _ kt_755)⟩ ⟨fun a U g mk q => ⟨q.1, PTm.calling q.2⟩, fun U hU hWm => ⟨rfl, PTm.mk hU hWm hP hK hD hE hO⟩⟩ rfl rfl hl.1 rfl (lv_room (Nat.le_of_ble_eq_true rfl)) dX15_readTerm_146 ⟨by show _ + 0 ≤ 0; omega, by show _ + 0 ≤ 0; omega⟩) hS (fun q _ h => hFc q h) hFc (fun r_459 u t H1 locs ht hvm hw hB hz1 hk1 hS => ?_)
            obtain ⟨F_460, hB1⟩ := hB
            obtain rfl : F_455 = F_460 := (funext (fun a => hB1.2.2.2 a List.not_mem_nil)).symm
            obtain ⟨hP, hD, hO, hR⟩ := QTm.back hB1 ht hFc hR (fun q h => absurd h List.not_mem_nil)
            generalize H1 = H at hP hS ⊢
            have hw : (r_459 = 0 ∨ (r_459 = 1 ∧ (kk + 8) < tt ∧ ISD (gA (F_455 g1)) tt (kk + 8))) := hw
            have hw_461 := hw
            refine lv_if_eq (tgt := 392) hx hb dX15_readTerm_149 (by decide) (fun c_462 => ?_) (fun c_462 => ?_)
            ·
              refine W.widen (k := 0) (n := 0) (by omega) (by omega) ?_
              exact jn_136 (8, (nI (kk + 8)), (nI tt), 32, v22) F_455 (⟨hF_457, Or.inl rfl, fun _ _ => rfl⟩) hO hR _ _ hP hD hS ls (lv_sub hl [0, 1, 2, 3, 4, 5] rfl)
            ·
              refine lv_aload_n hx hb dX15_readTerm_152 rfl (lv_at hl 2 rfl) ?_
              refine lv_iconst (v := 1) hx hb dX15_readTerm_153 (by decide) ?_
              refine pg_put (ci := 15) (v := .int 1) (ty := .int) (C := RX15) (T := TX15) (N := 59) hx hb hts it_15 tyX15 tyX15_ok nmX15 hown hK hP hD hS hL_h0 hF_457 rfl 17 (by decide) (hts _ kt_750) (fun _ h9 => h9) rfl (by decide +kernel) (rfl) (rfl) (Nat.le_of_ble_eq_true rfl) dX15_readTerm_154 (fun H locs hP hD hS => ?_)
              obtain ⟨F_463, he_464, hP, hD, hO, hR⟩ : ∃ G, G = va_up F_455 h0 (.inr (15, (.ref ta) :: (.int (nI zt)) :: (.int (nI zo)) :: (.int (nI ze)) :: (.ref ou) :: (.ref so) :: (.ref ad) :: (.ref na) :: (.ref va) :: (.ref lc) :: (.ref dm) :: (.int v11) :: (.int v12) :: (.ref tg) :: (.int v14) :: (.int v15) :: (.ref pe) :: (.int 1) :: (.int q18) :: (.int (nI (kk + 8))) :: (.int (nI tt)) :: (.int 32) :: (.int v22) :: (.ref ml) :: (.ref bg) :: (.ref co) :: (.ref sp) :: (.ref nb0) :: (.ref nb1) :: (.ref nb2) :: (.int (nI nf)) :: (.int (nI bd)) :: (.int (nI mm)) :: (.int v33) :: (.ref pl) :: (.ref se) :: (.ref ke) :: (.ref wi) :: (.ref hs) :: (.ref mo) :: (.ref po) :: (.ref nu) :: (.ref pr) :: (.ref sq) :: (.ref xa) :: (.ref sa) :: (.ref n64) :: (.ref m64) :: (.ref ex) :: (.ref wh) :: (.ref sd) :: (.ref tk) :: (.int v52) :: (.int v53) :: (.int v54) :: (.ref hd) :: (.ref ak) :: (.ref ho) :: (.ref ot) :: [])) ∧ va_P (dC, dI) vwCl (va_pl L G) H ∧ va_D A (va_pl L G) ∧ OKm cs ty gm L G ∧ FR ty [ρ] F G := ⟨_, rfl, hP, hD, hO.up (shm.mod hT_h0 ⟨zo, ze, v11, v12, v14, v15, 1, q18, (nI (kk + 8)), (nI tt), 32, v22, v33, v52, v53, v54, rfl, (by first | omega | assumption | exact Or.inl rfl | exact Or.inr rfl), (by first | omega | assumption | exact Or.inl rfl | exact Or.inr rfl), (by first | omega | assumption | exact Or.inl rfl | exact Or.inr rfl), (by first | omega | assumption | exact Or.inl rfl | exact Or.inr rfl)⟩), hR.up hT_h0 (by simp)⟩
              have hF_465 : F_463 h0 = .inr (15, (.ref ta) :: (.int (nI zt)) :: (.int (nI zo)) :: (.int (nI ze)) :: (.ref ou) :: (.ref so) :: (.ref ad) :: (.ref na) :: (.ref va) :: (.ref lc) :: (.ref dm) :: (.int v11) :: (.int v12) :: (.ref tg) :: (.int v14) :: (.int v15) :: (.ref pe) :: (.int 1) :: (.int q18) :: (.int (nI (kk + 8))) :: (.int (nI tt)) :: (.int 32) :: (.int v22) :: (.ref ml) :: (.ref bg) :: (.ref co) :: (.ref sp) :: (.ref nb0) :: (.ref nb1) :: (.ref nb2) :: (.int (nI nf)) :: (.int (nI bd)) :: (.int (nI mm)) :: (.int v33) :: (.ref pl) :: (.ref se) :: (.ref ke) :: (.ref wi) :: (.ref hs) :: (.ref mo) :: (.ref po) :: (.ref nu) :: (.ref pr) :: (.ref sq) :: (.ref xa) :: (.ref sa) :: (.ref n64) :: (.ref m64) :: (.ref ex) :: (.ref wh) :: (.ref sd) :: (.ref tk) :: (.int v52) :: (.int v53) :: (.int v54) :: (.ref hd) :: (.ref ak) :: (.ref ho) :: (.ref ot) :: []) := by rw [he_464]; exact up_self
              have hF_466 : F_463 g1 = .inl (cs 17, 700, .inl fv) := by rw [he_464, up_ne (ne_ty hT_g1 hT_h0 (by simp))]; exact hF_458
              refine lv_goto (tgt := 392) hx hb dX15_readTerm_157 (by decide) ?_
              refine W.widen (k := 0) (n := 0) (by omega) (by omega) ?_
              exact jn_136 (1, (nI (kk + 8)), (nI tt), 32, v22) F_463 (⟨hF_465, Or.inr ⟨(Or.inr (Or.inl rfl)), Or.inr ⟨_, _, rfl, rfl, Nat.le_of_lt (bit1 hw_461 c_462).1, by omega, (by have h9 := (bit1 hw_461 c_462).2; rw [gA_fun hF_458] at h9; exact h9)⟩⟩, fun h5 h9 => (c0_ne (by have h8 := (nm1 hw_248 c_249).2; rw [gA_fun hF_135] at h8; exact h8) (by omega) (hk3a h5) h9 (by decide)).elim⟩) hO hR _ _ hP hD hS ls (lv_sub hl [0, 1, 2, 3, 4, 5] rfl)
        ·
          refine lv_aload_n hx hb dX15_readTerm_102 rfl (lv_at hl 2 rfl) ?_
          refine lv_iconst (v := 0) hx hb dX15_readTerm_103 (by decide) ?_
          refine pg_put (ci := 15) (v := .int 0) (ty := .int) (C := RX15) (T := TX15) (N := 59) hx hb hts it_15 tyX15 tyX15_ok nmX15 hown hK hP hD hS hL_h0 hk4a rfl 17 (by decide) (hts _ kt_750) (fun _ h9 => h9) rfl (by decide +kernel) (rfl) (rfl) (Nat.le_of_ble_eq_true rfl) dX15_readTerm_104 (fun H locs hP hD hS => ?_)
          obtain ⟨F_467, he_468, hP, hD, hO, hR⟩ : ∃ G, G = va_up F_132 h0 (.inr (15, (.ref ta) :: (.int (nI zt)) :: (.int (nI zo)) :: (.int (nI ze)) :: (.ref ou) :: (.ref so) :: (.ref ad) :: (.ref na) :: (.ref va) :: (.ref lc) :: (.ref dm) :: (.int v11) :: (.int v12) :: (.ref tg) :: (.int v14) :: (.int v15) :: (.ref pe) :: (.int 0) :: (.int q18) :: (.int (-1)) :: (.int (-1)) :: (.int 32) :: (.int v22) :: (.ref ml) :: (.ref bg) :: (.ref co) :: (.ref sp) :: (.ref nb0) :: (.ref nb1) :: (.ref nb2) :: (.int (nI nf)) :: (.int (nI bd)) :: (.int (nI mm)) :: (.int v33) :: (.ref pl) :: (.ref se) :: (.ref ke) :: (.ref wi) :: (.ref hs) :: (.ref mo) :: (.ref po) :: (.ref nu) :: (.ref pr) :: (.ref sq) :: (.ref xa) :: (.ref sa) :: (.ref n64) :: (.ref m64) :: (.ref ex) :: (.ref wh) :: (.ref sd) :: (.ref tk) :: (.int v52) :: (.int v53) :: (.int v54) :: (.ref hd) :: (.ref ak) :: (.ref ho) :: (.ref ot) :: [])) ∧ va_P (dC, dI) vwCl (va_pl L G) H ∧ va_D A (va_pl L G) ∧ OKm cs ty gm L G ∧ FR ty [ρ] F G := ⟨_, rfl, hP, hD, hO.up (shm.mod hT_h0 ⟨zo, ze, v11, v12, v14, v15, 0, q18, (-1), (-1), 32, v22, v33, v52, v53, v54, rfl, (by first | omega | assumption | exact Or.inl rfl | exact Or.inr rfl), (by first | omega | assumption | exact Or.inl rfl | exact Or.inr rfl), (by first | omega | assumption | exact Or.inl rfl | exact Or.inr rfl), (by first | omega | assumption | exact Or.inl rfl | exact Or.inr rfl)⟩), hR.up hT_h0 (by simp)⟩
          have hF_469 : F_467 h0 = .inr (15, (.ref ta) :: (.int (nI zt)) :: (.int (nI zo)) :: (.int (nI ze)) :: (.ref ou) :: (.ref so) :: (.ref ad) :: (.ref na) :: (.ref va) :: (.ref lc) :: (.ref dm) :: (.int v11) :: (.int v12) :: (.ref tg) :: (.int v14) :: (.int v15) :: (.ref pe) :: (.int 0) :: (.int q18) :: (.int (-1)) :: (.int (-1)) :: (.int 32) :: (.int v22) :: (.ref ml) :: (.ref bg) :: (.ref co) :: (.ref sp) :: (.ref nb0) :: (.ref nb1) :: (.ref nb2) :: (.int (nI nf)) :: (.int (nI bd)) :: (.int (nI mm)) :: (.int v33) :: (.ref pl) :: (.ref se) :: (.ref ke) :: (.ref wi) :: (.ref hs) :: (.ref mo) :: (.ref po) :: (.ref nu) :: (.ref pr) :: (.ref sq) :: (.ref xa) :: (.ref sa) :: (.ref n64) :: (.ref m64) :: (.ref ex) :: (.ref wh) :: (.ref sd) :: (.ref tk) :: (.int v52) :: (.int v53) :: (.int v54) :: (.ref hd) :: (.ref ak) :: (.ref ho) :: (.ref ot) :: []) := by rw [he_468]; exact up_self
          have hF_470 : F_467 g1 = .inl (cs 17, 700, .inl fv) := by rw [he_468, up_ne (ne_ty hT_g1 hT_h0 (by simp))]; exact hF_135
          refine lv_goto (tgt := 392) hx hb dX15_readTerm_107 (by decide) ?_
          refine W.widen (k := 0) (n := 0) (by omega) (by omega) ?_
          exact jn_136 (0, (-1), (-1), 32, v22) F_467 (⟨hF_469, Or.inr ⟨(Or.inl rfl), Or.inl rfl⟩, fun h5 h9 => (c0_ne (by have h8 := (nm1 hw_242 c_243).2; rw [gA_fun hF_135] at h8; exact h8) (by omega) (hk3a h5) h9 (by decide)).elim⟩) hO hR _ _ hP hD hS ls (lv_sub hl [0, 1, 2, 3, 4, 5] rfl)
    ·
      refine lv_iload hx hb dX15_readTerm_74 (lv_at hl 0 rfl) ?_
      refine lv_if_eq (tgt := 90) hx hb dX15_readTerm_76 (by decide) (fun c_471 => ?_) (fun c_471 => ?_)
      ·
        refine W.widen (k := 0) (n := 0) (by omega) (by omega) ?_
        exact jn_131 ((nI a), 43) F_127 (⟨⟨a, rfl, by omega, by omega, fun _ => rfl⟩, hs5h⟩) hO hR _ _ hP hD hS ls (lv_sub hl [0, 1, 2, 3, 4, 5] rfl)
      ·
        refine lv_aload_n hx hb dX15_readTerm_79 rfl (lv_at hl 2 rfl) ?_
        refine lv_aload_n hx hb dX15_readTerm_80 rfl (lv_at hl 3 rfl) ?_
        refine lv_iload hx hb dX15_readTerm_81 (lv_at hl 1 rfl) ?_
        obtain ⟨hq_472, hq_473⟩ := hW.octs hL_g1 hT_g1
        refine pg_bald hx hb hK hP hL_g1 1 hF_130 rfl (vp_in_nI (by omega) (by omega)) dX15_readTerm_83 ?_
        refine lv_topi (fun x_474 ex_474 => ?_)
        obtain rfl : x_474 = fv a := ex_474.trans (congrArg fv (show ((nI a) : Int32).toNatClampNeg = a from nI_clamp (by omega)))
        refine pg_put (ci := 15) (v := .int (fv a)) (ty := .int) (C := RX15) (T := TX15) (N := 59) hx hb hts it_15 tyX15 tyX15_ok nmX15 hown hK hP hD hS hL_h0 hs5h rfl 18 (by decide) (hts _ kt_759) (fun _ h9 => h9) rfl (by decide +kernel) (rfl) (rfl) (Nat.le_of_ble_eq_true rfl) dX15_readTerm_84 (fun H locs hP hD hS => ?_)
        obtain ⟨F_475, he_476, hP, hD, hO, hR⟩ : ∃ G, G = va_up F_127 h0 (.inr (15, (.ref ta) :: (.int (nI zt)) :: (.int (nI zo)) :: (.int (nI ze)) :: (.ref ou) :: (.ref so) :: (.ref ad) :: (.ref na) :: (.ref va) :: (.ref lc) :: (.ref dm) :: (.int v11) :: (.int v12) :: (.ref tg) :: (.int v14) :: (.int v15) :: (.ref pe) :: (.int 8) :: (.int (fv a)) :: (.int (-1)) :: (.int (-1)) :: (.int 32) :: (.int v22) :: (.ref ml) :: (.ref bg) :: (.ref co) :: (.ref sp) :: (.ref nb0) :: (.ref nb1) :: (.ref nb2) :: (.int (nI nf)) :: (.int (nI bd)) :: (.int (nI mm)) :: (.int v33) :: (.ref pl) :: (.ref se) :: (.ref ke) :: (.ref wi) :: (.ref hs) :: (.ref mo) :: (.ref po) :: (.ref nu) :: (.ref pr) :: (.ref sq) :: (.ref xa) :: (.ref sa) :: (.ref n64) :: (.ref m64) :: (.ref ex) :: (.ref wh) :: (.ref sd) :: (.ref tk) :: (.int v52) :: (.int v53) :: (.int v54) :: (.ref hd) :: (.ref ak) :: (.ref ho) :: (.ref ot) :: [])) ∧ va_P (dC, dI) vwCl (va_pl L G) H ∧ va_D A (va_pl L G) ∧ OKm cs ty gm L G ∧ FR ty [ρ] F G := ⟨_, rfl, hP, hD, hO.up (shm.mod hT_h0 ⟨zo, ze, v11, v12, v14, v15, 8, (fv a), (-1), (-1), 32, v22, v33, v52, v53, v54, rfl, (by first | omega | assumption | exact Or.inl rfl | exact Or.inr rfl), (by first | omega | assumption | exact Or.inl rfl | exact Or.inr rfl), (by first | omega | assumption | exact Or.inl rfl | exact Or.inr rfl), (by first | omega | assumption | exact Or.inl rfl | exact Or.inr rfl)⟩), hR.up hT_h0 (by simp)⟩
        have hF_477 : F_475 h0 = .inr (15, (.ref ta) :: (.int (nI zt)) :: (.int (nI zo)) :: (.int (nI ze)) :: (.ref ou) :: (.ref so) :: (.ref ad) :: (.ref na) :: (.ref va) :: (.ref lc) :: (.ref dm) :: (.int v11) :: (.int v12) :: (.ref tg) :: (.int v14) :: (.int v15) :: (.ref pe) :: (.int 8) :: (.int (fv a)) :: (.int (-1)) :: (.int (-1)) :: (.int 32) :: (.int v22) :: (.ref ml) :: (.ref bg) :: (.ref co) :: (.ref sp) :: (.ref nb0) :: (.ref nb1) :: (.ref nb2) :: (.int (nI nf)) :: (.int (nI bd)) :: (.int (nI mm)) :: (.int v33) :: (.ref pl) :: (.ref se) :: (.ref ke) :: (.ref wi) :: (.ref hs) :: (.ref mo) :: (.ref po) :: (.ref nu) :: (.ref pr) :: (.ref sq) :: (.ref xa) :: (.ref sa) :: (.ref n64) :: (.ref m64) :: (.ref ex) :: (.ref wh) :: (.ref sd) :: (.ref tk) :: (.int v52) :: (.int v53) :: (.int v54) :: (.ref hd) :: (.ref ak) :: (.ref ho) :: (.ref ot) :: []) := by rw [he_476]; exact up_self
        have hF_478 : F_475 g1 = .inl (cs 17, 700, .inl fv) := by rw [he_476, up_ne (ne_ty hT_g1 hT_h0 (by simp))]; exact hF_130
        refine lv_iinc (v := (nI (a + 1))) (lv' := [(4, .int (nI (a + 1))), (5, .int s5), (0, .ref h0), (1, .ref g1), (2, .int (nI a)), (3, .int (nI tt))]) hx hb dX15_readTerm_87 hl (k := 1) rfl (nI_1 _) (by decide) rfl (fun ls hl => ?_)
        refine W.widen (k := 0) (n := 0) (by omega) (by omega) ?_
        exact jn_131 ((nI (a + 1)), (fv a)) F_475 (⟨⟨a + 1, rfl, by omega, by omega, fun h => absurd h c_471⟩, hF_477⟩) hO hR _ _ hP hD hS ls (lv_sub hl [1, 0, 2, 3, 4, 5] rfl)
  ·
    refine lv_aload_n hx hb dX15_readTerm_31 rfl (lv_at hl 2 rfl) ?_
    refine lv_iload hx hb dX15_readTerm_32 (lv_at hl 0 rfl) ?_
    obtain ⟨hq_479, hq_480⟩ := hW.octs hL_g1 hT_g1
    refine pg_bald hx hb hK hP hL_g1 1 hF_125 rfl (vp_in_nI (by omega) (by omega)) dX15_readTerm_34 ?_
    refine lv_topi (fun x_481 ex_481 => ?_)
    obtain rfl : x_481 = fv a := ex_481.trans (congrArg fv (show ((nI a) : Int32).toNatClampNeg = a from nI_clamp (by omega)))
    refine lv_bipush (v := 43) hx hb dX15_readTerm_35 (by decide) ?_
    refine lv_icmp_eq (tgt := 67) hx hb dX15_readTerm_37 (by decide) (fun c_482 => ?_) (fun c_482 => ?_)
    ·
      refine lv_iconst (v := 1) hx hb dX15_readTerm_67 (by decide) ?_
      refine lv_goto (tgt := 72) hx hb dX15_readTerm_68 (by decide) ?_
      refine W.widen (k := 0) (n := 0) (by omega) (by omega) ?_
      exact jn_126 1 F_122 (⟨Or.inr ⟨rfl, by rw [c_482]; decide⟩, hF_124⟩) hO hR _ _ hP hD hS ls (lv_sub hl [0, 1, 2, 3, 4] rfl)
    ·
      refine lv_aload_n hx hb dX15_readTerm_40 rfl (lv_at hl 2 rfl) ?_
      refine lv_iload hx hb dX15_readTerm_41 (lv_at hl 0 rfl) ?_
      refine pg_bald hx hb hK hP hL_g1 1 hF_125 rfl (vp_in_nI (by omega) (by omega)) dX15_readTerm_43 ?_
      refine lv_topi (fun x_483 ex_483 => ?_)
      obtain rfl : x_483 = fv a := ex_483.trans (congrArg fv (show ((nI a) : Int32).toNatClampNeg = a from nI_clamp (by omega)))
      refine lv_bipush (v := 63) hx hb dX15_readTerm_44 (by decide) ?_
      refine lv_icmp_eq (tgt := 67) hx hb dX15_readTerm_46 (by decide) (fun c_484 => ?_) (fun c_484 => ?_)
      ·
        refine lv_iconst (v := 1) hx hb dX15_readTerm_67 (by decide) ?_
        refine lv_goto (tgt := 72) hx hb dX15_readTerm_68 (by decide) ?_
        refine W.widen (k := 0) (n := 0) (by omega) (by omega) ?_
        exact jn_126 1 F_122 (⟨Or.inr ⟨rfl, by rw [c_484]; decide⟩, hF_124⟩) hO hR _ _ hP hD hS ls (lv_sub hl [0, 1, 2, 3, 4] rfl)
      ·
        refine lv_aload_n hx hb dX15_readTerm_49 rfl (lv_at hl 2 rfl) ?_
        refine lv_iload hx hb dX15_readTerm_50 (lv_at hl 0 rfl) ?_
        refine pg_bald hx hb hK hP hL_g1 1 hF_125 rfl (vp_in_nI (by omega) (by omega)) dX15_readTerm_52 ?_
        refine lv_topi (fun x_485 ex_485 => ?_)
        obtain rfl : x_485 = fv a := ex_485.trans (congrArg fv (show ((nI a) : Int32).toNatClampNeg = a from nI_clamp (by omega)))
        refine lv_bipush (v := 126) hx hb dX15_readTerm_53 (by decide) ?_
        refine lv_icmp_eq (tgt := 67) hx hb dX15_readTerm_55 (by decide) (fun c_486 => ?_) (fun c_486 => ?_)
        ·
          refine lv_iconst (v := 1) hx hb dX15_readTerm_67 (by decide) ?_
          refine lv_goto (tgt := 72) hx hb dX15_readTerm_68 (by decide) ?_
          refine W.widen (k := 0) (n := 0) (by omega) (by omega) ?_
          exact jn_126 1 F_122 (⟨Or.inr ⟨rfl, by rw [c_486]; decide⟩, hF_124⟩) hO hR _ _ hP hD hS ls (lv_sub hl [0, 1, 2, 3, 4] rfl)
        ·
          refine lv_aload_n hx hb dX15_readTerm_58 rfl (lv_at hl 2 rfl) ?_
          refine lv_iload hx hb dX15_readTerm_59 (lv_at hl 0 rfl) ?_
          refine pg_bald hx hb hK hP hL_g1 1 hF_125 rfl (vp_in_nI (by omega) (by omega)) dX15_readTerm_61 ?_
          refine lv_topi (fun x_487 ex_487 => ?_)
          obtain rfl : x_487 = fv a := ex_487.trans (congrArg fv (show ((nI a) : Int32).toNatClampNeg = a from nI_clamp (by omega)))
          refine lv_bipush (v := 45) hx hb dX15_readTerm_62 (by decide) ?_
          refine lv_icmp_ne (tgt := 71) hx hb dX15_readTerm_64 (by decide) (fun c_488 => ?_) (fun c_488 => ?_)
          ·
            refine lv_iconst (v := 0) hx hb dX15_readTerm_71 (by decide) ?_
            refine W.widen (k := 0) (n := 0) (by omega) (by omega) ?_
            exact jn_126 0 F_122 (⟨Or.inl rfl, hF_124⟩) hO hR _ _ hP hD hS ls (lv_sub hl [0, 1, 2, 3, 4] rfl)
          ·
            refine lv_iconst (v := 1) hx hb dX15_readTerm_67 (by decide) ?_
            refine lv_goto (tgt := 72) hx hb dX15_readTerm_68 (by decide) ?_
            refine W.widen (k := 0) (n := 0) (by omega) (by omega) ?_
            exact jn_126 1 F_122 (⟨Or.inr ⟨rfl, by rw [c_488]; decide⟩, hF_124⟩) hO hR _ _ hP hD hS ls (lv_sub hl [0, 1, 2, 3, 4] rfl)
