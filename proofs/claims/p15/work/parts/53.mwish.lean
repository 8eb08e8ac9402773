theorem dX15_houseOf_0 : decode cX15_houseOf 0 = .ok (.iconst (-1), 1) := by decide +kernel
theorem dX15_houseOf_1 : decode cX15_houseOf 1 = .ok (.istore_n 3, 1) := by decide +kernel
theorem dX15_houseOf_2 : decode cX15_houseOf 2 = .ok (.iconst 0, 1) := by decide +kernel
theorem dX15_houseOf_3 : decode cX15_houseOf 3 = .ok (.istore 4, 2) := by decide +kernel
theorem dX15_houseOf_5 : decode cX15_houseOf 5 = .ok (.iload 4, 2) := by decide +kernel
theorem dX15_houseOf_7 : decode cX15_houseOf 7 = .ok (.aload_n 0, 1) := by decide +kernel
theorem dX15_houseOf_8 : decode cX15_houseOf 8 = .ok (.getfield 177, 3) := by decide +kernel
theorem dX15_houseOf_11 : decode cX15_houseOf 11 = .ok (.if_icmp .ge 49, 3) := by decide +kernel
theorem dX15_houseOf_14 : decode cX15_houseOf 14 = .ok (.aload_n 0, 1) := by decide +kernel
theorem dX15_houseOf_15 : decode cX15_houseOf 15 = .ok (.getfield 38, 3) := by decide +kernel
theorem dX15_houseOf_18 : decode cX15_houseOf 18 = .ok (.iload 4, 2) := by decide +kernel
theorem dX15_houseOf_20 : decode cX15_houseOf 20 = .ok (.iaload, 1) := by decide +kernel
theorem dX15_houseOf_21 : decode cX15_houseOf 21 = .ok (.iconst 4, 1) := by decide +kernel
theorem dX15_houseOf_22 : decode cX15_houseOf 22 = .ok (.if_icmp .ne 32, 3) := by decide +kernel
theorem dX15_houseOf_25 : decode cX15_houseOf 25 = .ok (.aload_n 1, 1) := by decide +kernel
theorem dX15_houseOf_26 : decode cX15_houseOf 26 = .ok (.aload_n 0, 1) := by decide +kernel
theorem dX15_houseOf_27 : decode cX15_houseOf 27 = .ok (.getfield 47, 3) := by decide +kernel
theorem dX15_houseOf_30 : decode cX15_houseOf 30 = .ok (.iload 4, 2) := by decide +kernel
theorem dX15_houseOf_32 : decode cX15_houseOf 32 = .ok (.aaload, 1) := by decide +kernel
theorem dX15_houseOf_33 : decode cX15_houseOf 33 = .ok (.invokevirtual 559, 3) := by decide +kernel
theorem dX15_houseOf_36 : decode cX15_houseOf 36 = .ok (.ifCond .eq 18, 3) := by decide +kernel
theorem dX15_houseOf_39 : decode cX15_houseOf 39 = .ok (.iload_n 3, 1) := by decide +kernel
theorem dX15_houseOf_40 : decode cX15_houseOf 40 = .ok (.aload_n 0, 1) := by decide +kernel
theorem dX15_houseOf_41 : decode cX15_houseOf 41 = .ok (.getfield 47, 3) := by decide +kernel
theorem dX15_houseOf_44 : decode cX15_houseOf 44 = .ok (.iload 4, 2) := by decide +kernel
theorem dX15_houseOf_46 : decode cX15_houseOf 46 = .ok (.aaload, 1) := by decide +kernel
theorem dX15_houseOf_47 : decode cX15_houseOf 47 = .ok (.getfield 190, 3) := by decide +kernel
theorem dX15_houseOf_50 : decode cX15_houseOf 50 = .ok (.invokestatic 562, 3) := by decide +kernel
theorem dX15_houseOf_53 : decode cX15_houseOf 53 = .ok (.istore_n 3, 1) := by decide +kernel
theorem dX15_houseOf_54 : decode cX15_houseOf 54 = .ok (.iinc 4 1, 3) := by decide +kernel
theorem dX15_houseOf_57 : decode cX15_houseOf 57 = .ok (.goto (-52), 3) := by decide +kernel
theorem dX15_houseOf_60 : decode cX15_houseOf 60 = .ok (.iload_n 3, 1) := by decide +kernel
theorem dX15_houseOf_61 : decode cX15_houseOf 61 = .ok (.ifCond .ge 10, 3) := by decide +kernel
theorem dX15_houseOf_64 : decode cX15_houseOf 64 = .ok (.aload_n 1, 1) := by decide +kernel
theorem dX15_houseOf_65 : decode cX15_houseOf 65 = .ok (.getfield 190, 3) := by decide +kernel
theorem dX15_houseOf_68 : decode cX15_houseOf 68 = .ok (.goto 11, 3) := by decide +kernel
theorem dX15_houseOf_71 : decode cX15_houseOf 71 = .ok (.aload_n 1, 1) := by decide +kernel
theorem dX15_houseOf_72 : decode cX15_houseOf 72 = .ok (.getfield 190, 3) := by decide +kernel
theorem dX15_houseOf_75 : decode cX15_houseOf 75 = .ok (.iload_n 3, 1) := by decide +kernel
theorem dX15_houseOf_76 : decode cX15_houseOf 76 = .ok (.isub, 1) := by decide +kernel
theorem dX15_houseOf_77 : decode cX15_houseOf 77 = .ok (.iconst 1, 1) := by decide +kernel
theorem dX15_houseOf_78 : decode cX15_houseOf 78 = .ok (.isub, 1) := by decide +kernel
theorem dX15_houseOf_79 : decode cX15_houseOf 79 = .ok (.istore 4, 2) := by decide +kernel
theorem dX15_houseOf_81 : decode cX15_houseOf 81 = .ok (.iload_n 3, 1) := by decide +kernel
theorem dX15_houseOf_82 : decode cX15_houseOf 82 = .ok (.ifCond .ge 7, 3) := by decide +kernel
theorem dX15_houseOf_85 : decode cX15_houseOf 85 = .ok (.iconst 2, 1) := by decide +kernel
theorem dX15_houseOf_86 : decode cX15_houseOf 86 = .ok (.goto 4, 3) := by decide +kernel
theorem dX15_houseOf_89 : decode cX15_houseOf 89 = .ok (.iconst 1, 1) := by decide +kernel
theorem dX15_houseOf_90 : decode cX15_houseOf 90 = .ok (.istore 5, 2) := by decide +kernel
theorem dX15_houseOf_92 : decode cX15_houseOf 92 = .ok (.iload_n 3, 1) := by decide +kernel
theorem dX15_houseOf_93 : decode cX15_houseOf 93 = .ok (.aload_n 1, 1) := by decide +kernel
theorem dX15_houseOf_94 : decode cX15_houseOf 94 = .ok (.getfield 190, 3) := by decide +kernel
theorem dX15_houseOf_97 : decode cX15_houseOf 97 = .ok (.if_icmp .ne 6, 3) := by decide +kernel
theorem dX15_houseOf_100 : decode cX15_houseOf 100 = .ok (.iconst 0, 1) := by decide +kernel
theorem dX15_houseOf_101 : decode cX15_houseOf 101 = .ok (.istore 4, 2) := by decide +kernel
theorem dX15_houseOf_103 : decode cX15_houseOf 103 = .ok (.iload 4, 2) := by decide +kernel
theorem dX15_houseOf_105 : decode cX15_houseOf 105 = .ok (.ifCond .le 35, 3) := by decide +kernel
theorem dX15_houseOf_108 : decode cX15_houseOf 108 = .ok (.iinc 4 (-1), 3) := by decide +kernel
theorem dX15_houseOf_111 : decode cX15_houseOf 111 = .ok (.aload_n 1, 1) := by decide +kernel
theorem dX15_houseOf_112 : decode cX15_houseOf 112 = .ok (.getfield 295, 3) := by decide +kernel
theorem dX15_houseOf_115 : decode cX15_houseOf 115 = .ok (.iload 4, 2) := by decide +kernel
theorem dX15_houseOf_117 : decode cX15_houseOf 117 = .ok (.baload, 1) := by decide +kernel
theorem dX15_houseOf_118 : decode cX15_houseOf 118 = .ok (.bipush 46, 2) := by decide +kernel
theorem dX15_houseOf_120 : decode cX15_houseOf 120 = .ok (.if_icmp .eq 6, 3) := by decide +kernel
theorem dX15_houseOf_123 : decode cX15_houseOf 123 = .ok (.goto (-20), 3) := by decide +kernel
theorem dX15_houseOf_126 : decode cX15_houseOf 126 = .ok (.iinc 5 (-1), 3) := by decide +kernel
theorem dX15_houseOf_129 : decode cX15_houseOf 129 = .ok (.iload 5, 2) := by decide +kernel
theorem dX15_houseOf_131 : decode cX15_houseOf 131 = .ok (.ifCond .ne (-28), 3) := by decide +kernel
theorem dX15_houseOf_134 : decode cX15_houseOf 134 = .ok (.iinc 4 1, 3) := by decide +kernel
theorem dX15_houseOf_137 : decode cX15_houseOf 137 = .ok (.goto 3, 3) := by decide +kernel
theorem dX15_houseOf_140 : decode cX15_houseOf 140 = .ok (.aload_n 2, 1) := by decide +kernel
theorem dX15_houseOf_141 : decode cX15_houseOf 141 = .ok (.aload_n 1, 1) := by decide +kernel
theorem dX15_houseOf_142 : decode cX15_houseOf 142 = .ok (.getfield 295, 3) := by decide +kernel
theorem dX15_houseOf_145 : decode cX15_houseOf 145 = .ok (.iload 4, 2) := by decide +kernel
theorem dX15_houseOf_147 : decode cX15_houseOf 147 = .ok (.aload_n 1, 1) := by decide +kernel
theorem dX15_houseOf_148 : decode cX15_houseOf 148 = .ok (.getfield 190, 3) := by decide +kernel
theorem dX15_houseOf_151 : decode cX15_houseOf 151 = .ok (.invokevirtual 186, 3) := by decide +kernel
theorem dX15_houseOf_154 : decode cX15_houseOf 154 = .ok (.return_, 1) := by decide +kernel
theorem dX15_isAligned_0 : decode cX15_isAligned 0 = .ok (.iload_n 3, 1) := by decide +kernel
theorem dX15_isAligned_1 : decode cX15_isAligned 1 = .ok (.ifCond .eq 9, 3) := by decide +kernel
theorem dX15_isAligned_4 : decode cX15_isAligned 4 = .ok (.aload_n 1, 1) := by decide +kernel
theorem dX15_isAligned_5 : decode cX15_isAligned 5 = .ok (.aload_n 2, 1) := by decide +kernel
theorem dX15_isAligned_6 : decode cX15_isAligned 6 = .ok (.invokevirtual 193, 3) := by decide +kernel
theorem dX15_isAligned_9 : decode cX15_isAligned 9 = .ok (.ireturn, 1) := by decide +kernel
theorem dX15_isAligned_10 : decode cX15_isAligned 10 = .ok (.aload_n 0, 1) := by decide +kernel
theorem dX15_isAligned_11 : decode cX15_isAligned 11 = .ok (.aload_n 1, 1) := by decide +kernel
theorem dX15_isAligned_12 : decode cX15_isAligned 12 = .ok (.aload_n 0, 1) := by decide +kernel
theorem dX15_isAligned_13 : decode cX15_isAligned 13 = .ok (.getfield 160, 3) := by decide +kernel
theorem dX15_isAligned_16 : decode cX15_isAligned 16 = .ok (.invokevirtual 565, 3) := by decide +kernel
theorem dX15_isAligned_19 : decode cX15_isAligned 19 = .ok (.aload_n 0, 1) := by decide +kernel
theorem dX15_isAligned_20 : decode cX15_isAligned 20 = .ok (.aload_n 2, 1) := by decide +kernel
theorem dX15_isAligned_21 : decode cX15_isAligned 21 = .ok (.aload_n 0, 1) := by decide +kernel
theorem dX15_isAligned_22 : decode cX15_isAligned 22 = .ok (.getfield 163, 3) := by decide +kernel
theorem dX15_isAligned_25 : decode cX15_isAligned 25 = .ok (.invokevirtual 565, 3) := by decide +kernel
theorem dX15_isAligned_28 : decode cX15_isAligned 28 = .ok (.aload_n 0, 1) := by decide +kernel
theorem dX15_isAligned_29 : decode cX15_isAligned 29 = .ok (.getfield 160, 3) := by decide +kernel
theorem dX15_isAligned_32 : decode cX15_isAligned 32 = .ok (.aload_n 0, 1) := by decide +kernel
theorem dX15_isAligned_33 : decode cX15_isAligned 33 = .ok (.getfield 163, 3) := by decide +kernel
theorem dX15_isAligned_36 : decode cX15_isAligned 36 = .ok (.invokevirtual 193, 3) := by decide +kernel
theorem dX15_isAligned_39 : decode cX15_isAligned 39 = .ok (.ireturn, 1) := by decide +kernel
theorem dX15_wanted_0 : decode cX15_wanted 0 = .ok (.aload_n 0, 1) := by decide +kernel
theorem dX15_wanted_1 : decode cX15_wanted 1 = .ok (.aload_n 1, 1) := by decide +kernel
theorem dX15_wanted_2 : decode cX15_wanted 2 = .ok (.ldc_w 573, 3) := by decide +kernel
theorem dX15_wanted_5 : decode cX15_wanted 5 = .ok (.invokevirtual 448, 3) := by decide +kernel
theorem dX15_wanted_8 : decode cX15_wanted 8 = .ok (.ifCond .eq 8, 3) := by decide +kernel
theorem dX15_wanted_11 : decode cX15_wanted 11 = .ok (.bipush 7, 2) := by decide +kernel
theorem dX15_wanted_13 : decode cX15_wanted 13 = .ok (.goto 37, 3) := by decide +kernel
theorem dX15_wanted_16 : decode cX15_wanted 16 = .ok (.aload_n 0, 1) := by decide +kernel
theorem dX15_wanted_17 : decode cX15_wanted 17 = .ok (.aload_n 1, 1) := by decide +kernel
theorem dX15_wanted_18 : decode cX15_wanted 18 = .ok (.ldc_w 575, 3) := by decide +kernel
theorem dX15_wanted_21 : decode cX15_wanted 21 = .ok (.invokevirtual 448, 3) := by decide +kernel
theorem dX15_wanted_24 : decode cX15_wanted 24 = .ok (.ifCond .eq 8, 3) := by decide +kernel
theorem dX15_wanted_27 : decode cX15_wanted 27 = .ok (.bipush 8, 2) := by decide +kernel
theorem dX15_wanted_29 : decode cX15_wanted 29 = .ok (.goto 21, 3) := by decide +kernel
theorem dX15_wanted_32 : decode cX15_wanted 32 = .ok (.aload_n 0, 1) := by decide +kernel
theorem dX15_wanted_33 : decode cX15_wanted 33 = .ok (.aload_n 1, 1) := by decide +kernel
theorem dX15_wanted_34 : decode cX15_wanted 34 = .ok (.ldc_w 577, 3) := by decide +kernel
theorem dX15_wanted_37 : decode cX15_wanted 37 = .ok (.invokevirtual 448, 3) := by decide +kernel
theorem dX15_wanted_40 : decode cX15_wanted 40 = .ok (.ifCond .eq 8, 3) := by decide +kernel
theorem dX15_wanted_43 : decode cX15_wanted 43 = .ok (.bipush 9, 2) := by decide +kernel
theorem dX15_wanted_45 : decode cX15_wanted 45 = .ok (.goto 5, 3) := by decide +kernel
theorem dX15_wanted_48 : decode cX15_wanted 48 = .ok (.bipush 6, 2) := by decide +kernel
theorem dX15_wanted_50 : decode cX15_wanted 50 = .ok (.ireturn, 1) := by decide +kernel
theorem dX15_wantedOf_0 : decode cX15_wantedOf 0 = .ok (.aload_n 0, 1) := by decide +kernel
theorem dX15_wantedOf_1 : decode cX15_wantedOf 1 = .ok (.getfield 144, 3) := by decide +kernel
theorem dX15_wantedOf_4 : decode cX15_wantedOf 4 = .ok (.iconst 0, 1) := by decide +kernel
theorem dX15_wantedOf_5 : decode cX15_wantedOf 5 = .ok (.putfield 190, 3) := by decide +kernel
theorem dX15_wantedOf_8 : decode cX15_wantedOf 8 = .ok (.iconst 0, 1) := by decide +kernel
theorem dX15_wantedOf_9 : decode cX15_wantedOf 9 = .ok (.istore_n 2, 1) := by decide +kernel
theorem dX15_wantedOf_10 : decode cX15_wantedOf 10 = .ok (.iload_n 2, 1) := by decide +kernel
theorem dX15_wantedOf_11 : decode cX15_wantedOf 11 = .ok (.bipush 7, 2) := by decide +kernel
theorem dX15_wantedOf_13 : decode cX15_wantedOf 13 = .ok (.if_icmp .ge 23, 3) := by decide +kernel
theorem dX15_wantedOf_16 : decode cX15_wantedOf 16 = .ok (.aload_n 0, 1) := by decide +kernel
theorem dX15_wantedOf_17 : decode cX15_wantedOf 17 = .ok (.getfield 144, 3) := by decide +kernel
theorem dX15_wantedOf_20 : decode cX15_wantedOf 20 = .ok (.ldc_w 569, 3) := by decide +kernel
theorem dX15_wantedOf_23 : decode cX15_wantedOf 23 = .ok (.iload_n 2, 1) := by decide +kernel
theorem dX15_wantedOf_24 : decode cX15_wantedOf 24 = .ok (.invokevirtual 13, 3) := by decide +kernel
theorem dX15_wantedOf_27 : decode cX15_wantedOf 27 = .ok (.invokevirtual 292, 3) := by decide +kernel
theorem dX15_wantedOf_30 : decode cX15_wantedOf 30 = .ok (.iinc 2 1, 3) := by decide +kernel
theorem dX15_wantedOf_33 : decode cX15_wantedOf 33 = .ok (.goto (-23), 3) := by decide +kernel
theorem dX15_wantedOf_36 : decode cX15_wantedOf 36 = .ok (.aload_n 0, 1) := by decide +kernel
theorem dX15_wantedOf_37 : decode cX15_wantedOf 37 = .ok (.getfield 144, 3) := by decide +kernel
theorem dX15_wantedOf_40 : decode cX15_wantedOf 40 = .ok (.aload_n 1, 1) := by decide +kernel
theorem dX15_wantedOf_41 : decode cX15_wantedOf 41 = .ok (.getfield 295, 3) := by decide +kernel
theorem dX15_wantedOf_44 : decode cX15_wantedOf 44 = .ok (.iconst 0, 1) := by decide +kernel
theorem dX15_wantedOf_45 : decode cX15_wantedOf 45 = .ok (.aload_n 1, 1) := by decide +kernel
theorem dX15_wantedOf_46 : decode cX15_wantedOf 46 = .ok (.getfield 190, 3) := by decide +kernel
theorem dX15_wantedOf_49 : decode cX15_wantedOf 49 = .ok (.invokevirtual 298, 3) := by decide +kernel
theorem dX15_wantedOf_52 : decode cX15_wantedOf 52 = .ok (.aload_n 0, 1) := by decide +kernel
theorem dX15_wantedOf_53 : decode cX15_wantedOf 53 = .ok (.aload_n 0, 1) := by decide +kernel
theorem dX15_wantedOf_54 : decode cX15_wantedOf 54 = .ok (.getfield 144, 3) := by decide +kernel
theorem dX15_wantedOf_57 : decode cX15_wantedOf 57 = .ok (.invokevirtual 308, 3) := by decide +kernel
theorem dX15_wantedOf_60 : decode cX15_wantedOf 60 = .ok (.ifCond .eq 6, 3) := by decide +kernel
theorem dX15_wantedOf_63 : decode cX15_wantedOf 63 = .ok (.bipush (-2), 2) := by decide +kernel
theorem dX15_wantedOf_65 : decode cX15_wantedOf 65 = .ok (.ireturn, 1) := by decide +kernel
theorem dX15_wantedOf_66 : decode cX15_wantedOf 66 = .ok (.iconst (-1), 1) := by decide +kernel
theorem dX15_wantedOf_67 : decode cX15_wantedOf 67 = .ok (.istore_n 2, 1) := by decide +kernel
theorem dX15_wantedOf_68 : decode cX15_wantedOf 68 = .ok (.iconst 0, 1) := by decide +kernel
theorem dX15_wantedOf_69 : decode cX15_wantedOf 69 = .ok (.istore_n 3, 1) := by decide +kernel
theorem dX15_wantedOf_70 : decode cX15_wantedOf 70 = .ok (.iconst 0, 1) := by decide +kernel
theorem dX15_wantedOf_71 : decode cX15_wantedOf 71 = .ok (.istore 4, 2) := by decide +kernel
theorem dX15_wantedOf_73 : decode cX15_wantedOf 73 = .ok (.iload 4, 2) := by decide +kernel
theorem dX15_wantedOf_75 : decode cX15_wantedOf 75 = .ok (.aload_n 0, 1) := by decide +kernel
theorem dX15_wantedOf_76 : decode cX15_wantedOf 76 = .ok (.getfield 177, 3) := by decide +kernel
theorem dX15_wantedOf_79 : decode cX15_wantedOf 79 = .ok (.if_icmp .ge 62, 3) := by decide +kernel
theorem dX15_wantedOf_82 : decode cX15_wantedOf 82 = .ok (.aload_n 0, 1) := by decide +kernel
theorem dX15_wantedOf_83 : decode cX15_wantedOf 83 = .ok (.iload 4, 2) := by decide +kernel
theorem dX15_wantedOf_85 : decode cX15_wantedOf 85 = .ok (.iconst 0, 1) := by decide +kernel
theorem dX15_wantedOf_86 : decode cX15_wantedOf 86 = .ok (.aload_n 0, 1) := by decide +kernel
theorem dX15_wantedOf_87 : decode cX15_wantedOf 87 = .ok (.getfield 144, 3) := by decide +kernel
theorem dX15_wantedOf_90 : decode cX15_wantedOf 90 = .ok (.invokevirtual 196, 3) := by decide +kernel
theorem dX15_wantedOf_93 : decode cX15_wantedOf 93 = .ok (.ifCond .eq 42, 3) := by decide +kernel
theorem dX15_wantedOf_96 : decode cX15_wantedOf 96 = .ok (.aload_n 0, 1) := by decide +kernel
theorem dX15_wantedOf_97 : decode cX15_wantedOf 97 = .ok (.getfield 51, 3) := by decide +kernel
theorem dX15_wantedOf_100 : decode cX15_wantedOf 100 = .ok (.iload 4, 2) := by decide +kernel
theorem dX15_wantedOf_102 : decode cX15_wantedOf 102 = .ok (.aaload, 1) := by decide +kernel
theorem dX15_wantedOf_103 : decode cX15_wantedOf 103 = .ok (.getfield 295, 3) := by decide +kernel
theorem dX15_wantedOf_106 : decode cX15_wantedOf 106 = .ok (.iconst 0, 1) := by decide +kernel
theorem dX15_wantedOf_107 : decode cX15_wantedOf 107 = .ok (.aload_n 0, 1) := by decide +kernel
theorem dX15_wantedOf_108 : decode cX15_wantedOf 108 = .ok (.getfield 51, 3) := by decide +kernel
theorem dX15_wantedOf_111 : decode cX15_wantedOf 111 = .ok (.iload 4, 2) := by decide +kernel
theorem dX15_wantedOf_113 : decode cX15_wantedOf 113 = .ok (.aaload, 1) := by decide +kernel
theorem dX15_wantedOf_114 : decode cX15_wantedOf 114 = .ok (.getfield 190, 3) := by decide +kernel
theorem dX15_wantedOf_117 : decode cX15_wantedOf 117 = .ok (.ldc_w 571, 3) := by decide +kernel
theorem dX15_wantedOf_120 : decode cX15_wantedOf 120 = .ok (.invokestatic 254, 3) := by decide +kernel
theorem dX15_wantedOf_123 : decode cX15_wantedOf 123 = .ok (.ifCond .ne 6, 3) := by decide +kernel
theorem dX15_wantedOf_126 : decode cX15_wantedOf 126 = .ok (.goto 9, 3) := by decide +kernel
theorem dX15_wantedOf_129 : decode cX15_wantedOf 129 = .ok (.iload 4, 2) := by decide +kernel
theorem dX15_wantedOf_131 : decode cX15_wantedOf 131 = .ok (.istore_n 2, 1) := by decide +kernel
theorem dX15_wantedOf_132 : decode cX15_wantedOf 132 = .ok (.iinc 3 1, 3) := by decide +kernel
theorem dX15_wantedOf_135 : decode cX15_wantedOf 135 = .ok (.iinc 4 1, 3) := by decide +kernel
theorem dX15_wantedOf_138 : decode cX15_wantedOf 138 = .ok (.goto (-65), 3) := by decide +kernel
theorem dX15_wantedOf_141 : decode cX15_wantedOf 141 = .ok (.iload_n 3, 1) := by decide +kernel
theorem dX15_wantedOf_142 : decode cX15_wantedOf 142 = .ok (.iconst 1, 1) := by decide +kernel
theorem dX15_wantedOf_143 : decode cX15_wantedOf 143 = .ok (.if_icmp .ne 7, 3) := by decide +kernel
theorem dX15_wantedOf_146 : decode cX15_wantedOf 146 = .ok (.iload_n 2, 1) := by decide +kernel
theorem dX15_wantedOf_147 : decode cX15_wantedOf 147 = .ok (.goto 4, 3) := by decide +kernel
theorem dX15_wantedOf_150 : decode cX15_wantedOf 150 = .ok (.iconst (-1), 1) := by decide +kernel
theorem dX15_wantedOf_151 : decode cX15_wantedOf 151 = .ok (.ireturn, 1) := by decide +kernel
theorem kt_941 : Cond.code yX14_set cX14_set 4 none ∈ tb := tb_at (i := 1501) (by decide +kernel) (by decide +kernel)
theorem kt_942 : Cond.methodLink RX15 186 yX14_set ∈ tb := tb_at (i := 1498) (by decide +kernel) (by decide +kernel)
theorem kt_943 : Cond.instanceMethod yX14_set ∈ tb := tb_at (i := 1499) (by decide +kernel) (by decide +kernel)
theorem kt_944 : Cond.selects RX14 yX14_set yX14_set ∈ tb := tb_at (i := 1500) (by decide +kernel) (by decide +kernel)
theorem kt_945 : Cond.code yX14_isUnder cX14_isUnder 3 (some .boolean) ∈ tb := tb_at (i := 1859) (by decide +kernel) (by decide +kernel)
theorem kt_946 : Cond.methodLink RX15 559 yX14_isUnder ∈ tb := tb_at (i := 1856) (by decide +kernel) (by decide +kernel)
theorem kt_947 : Cond.instanceMethod yX14_isUnder ∈ tb := tb_at (i := 1857) (by decide +kernel) (by decide +kernel)
theorem kt_948 : Cond.selects RX14 yX14_isUnder yX14_isUnder ∈ tb := tb_at (i := 1858) (by decide +kernel) (by decide +kernel)
theorem kt_949 : Cond.methodLink RX15 562 Lib.Math.max.name ∈ tb := tb_at (i := 1860) (by decide +kernel) (by decide +kernel)
theorem kt_950 : Cond.fieldLink RX15 160 "PostGateModel" "house" "LPostGateModel$Text;" ∈ tb := tb_at (i := 1346) (by decide +kernel) (by decide +kernel)
theorem kt_951 : Cond.code yX15_houseOf cX15_houseOf 6 none ∈ tb := tb_at (i := 1855) (by decide +kernel) (by decide +kernel)
theorem kt_952 : Cond.methodLink RX15 565 yX15_houseOf ∈ tb := tb_at (i := 1852) (by decide +kernel) (by decide +kernel)
theorem kt_953 : Cond.instanceMethod yX15_houseOf ∈ tb := tb_at (i := 1854) (by decide +kernel) (by decide +kernel)
theorem kt_954 : Cond.selects RX15 yX15_houseOf yX15_houseOf ∈ tb := tb_at (i := 76) (by decide +kernel) (by decide +kernel)
theorem kt_955 : Cond.fieldLink RX15 163 "PostGateModel" "other" "LPostGateModel$Text;" ∈ tb := tb_at (i := 1347) (by decide +kernel) (by decide +kernel)
theorem kt_956 : Cond.methodLink RX15 298 yX14_add_ ∈ tb := tb_at (i := 1619) (by decide +kernel) (by decide +kernel)
set_option maxHeartbeats 4000000 in
set_option maxRecDepth 100000 in
theorem s_X15_wanted (l : Launch) (dC : Nat → ClassId) (dI : Nat → Nat → Nat) (cs : Nat → ClassId) (ty : TyM) (gm : Nat → Nat → Nat) (L : List Nat) (sz : Nat) (F : Nat → va_E) (g0 : Nat) (σ : Nat) (tx : Nat) (n : Nat) (Bn : Nat) (y0 : Nat) (y1 : Nat) (y2 : Nat) (tbx : Nat) (z : Nat) (q : Nat) (v : Nat) (k0 : Nat) (C : Nat → Int32) (hW : WTm ty gm L) (hL_g0 : g0 ∈ L) (hT_g0 : ty g0 = (13, σ, [tx, n, Bn, y0, y1, y2])) (hL_tx : tx ∈ L) (hT_tx : ty tx = (14, σ + 1, [tbx, n])) (hF0 : F g0 = .inr (13, [.ref tx, .ref y0, .ref y1, .ref y2, .int (nI z)])) (hz40 : z ≤ 40) : Met l yX15_wanted (.code yX15_wanted cX15_wanted 2 (some .int) :: tb) ({ frames := 7, cells := 0, slots := 0, locals := 154 }) (va_Pc [.ref g0, .ref q] (PTEm (dC, dI) cs ty gm L F sz [(q, v, k0, C)])) (va_Qi (fun (r : Int32) (_ : Unit) => True) (fun _ T9 => ∃ F2 : Nat → va_E, QTm (dC, dI) cs ty gm L [] F F2 (va_A (va_pl L F) sz) T9) (va_A (va_pl L F) sz)) 0 0 (va_A (va_pl L F) sz) := by
  refine Met.ofW (cc := cX15_wanted) (maxL := 2) (ret := (some .int)) (by decide) rfl ?_
  intro p e s m args below meth c s₁ B hml hv
  obtain ⟨rfl, ⟨hsz, hP, hK, hD0, hE, hO⟩, hG, hX⟩ := hv
  have hx := B.exec
  have hb := B.bytes
  have hr := B.returns
  have hts : ∀ w ∈ tb, w.before _ s = true := fun w h => atoms_spec (ws := .code yX15_wanted cX15_wanted 2 (some .int) :: tb) B.pre w (List.mem_cons_of_mem _ h)
  have hown : s.vm.findClass RX15 = some m.cls := findClass_of_methodNamed B.named
  have hlocks := B.notSynchronized
  subst hsz
  have hD := hD0.self (sz := s.heap.size)
  generalize hAe : va_A (va_pl L F) s.heap.size = A at hD hG hX ⊢
  have hX_q : SXc q v k0 C A s s.heap := hX (q, v, k0, C) (by simp)
  obtain ⟨xo_q, xc_q, xv_q, xt_q, xn_q⟩ := id hX_q
  have hA : ∀ q : Nat, s.heap.size ≤ q → A q := fun q h => by rw [← hAe]; exact Or.inr h
  have hS : va_S A s.heap s.heap [] := va_S.rf
  have hR : FR ty [] F F := FR.refl
  have hl := lv_entry ([.ref g0, .ref q]) (n := 2) (Nat.le_of_ble_eq_true rfl)
  rw [lg_entry_eq]
  generalize (lg_sl ([.ref g0, .ref q]) ++ List.replicate (2 - (lg_sl ([.ref g0, .ref q])).length) Slot.unset).toArray = ls at hl ⊢
  have hl : lv_has ls 2 [(0, .ref g0), (1, .ref q)] := hl
  refine lv_aload_n hx hb dX15_wanted_0 rfl (lv_at hl 0 rfl) ?_
  refine lv_aload_n hx hb dX15_wanted_1 rfl (lv_at hl 1 rfl) ?_
  obtain ⟨q_1, v_2, hr_q_1, hX_q_1⟩ := hG.2.2 ("PostGateModel", 573, "none", [110, 111, 110, 101]) (by decide +kernel)
  have hX_q_1 : SXc q_1 v_2 4 (cct [110, 111, 110, 101]) A s s.heap := hX_q_1
  obtain ⟨xo_q_1, xc_q_1, xv_q_1, xt_q_1, xn_q_1⟩ := id hX_q_1
  have hr_q_1 : vk_R "PostGateModel" 573 "none" q_1 s := hr_q_1
  refine va_ldcwS hx hb hown hr_q_1 dX15_wanted_2 ?_
  obtain ⟨_, hi_3, hi_4, hi_5, _, ht_6, ht_7, ht_8, hq_9, hq_10⟩ := hW.tags hL_g0 hT_g0
  obtain ⟨hi_11, ht_12, hq_13⟩ := hW.txt hL_tx hT_tx
  have hFc := pg_free hD hS hA
  refine va_calli (va_runV (As := [.ref q, .ref q_1]) (rest := []) ⟨hx, hb, hml, hown, hts⟩ (s_X13_has l dC dI cs ty gm L s.heap.size F g0 σ tx n Bn y0 y1 y2 tbx z q v k0 C q_1 v_2 4 (cct [110, 111, 110, 101]) hW hL_g0 hT_g0 hL_tx hT_tx hF0 (by first | omega | assumption | exact Or.inl rfl)) ⟨callB_of 2 hts (gi kt_863) rfl rfl rfl (hts _ kt_829) (hts _ kt_864) (by decide +kernel) ⟨Nat.le_of_ble_eq_true rfl, Nat.le_of_ble_eq_true rfl⟩, (hts _ kt_865), (hts _ kt_866)⟩ ⟨fun a U g mk q => ⟨q.1, PTEm.calling q.2⟩, pg_recv hK hP hL_g0 hF0 (q := (RX13, TX13, 5)) rfl, fun U hU hWm => ⟨rfl, PTEm.mk hU hWm hP hK hD hE hO hG (fun x hx => by simp only [List.mem_cons, List.not_mem_nil, or_false] at hx; rcases hx with hx | hx <;> subst hx <;> first | exact hX_q | exact hX_q_1) hS hFc⟩⟩ rfl rfl hl.1 rfl (lv_room (Nat.le_of_ble_eq_true rfl)) dX15_wanted_5 ⟨by show _ + 0 ≤ 0; omega, by show _ + 0 ≤ 0; omega⟩) hS (fun q _ h => hFc q h) hFc (fun r_14 u t H1 locs ht hvm hw hB hz1 hk1 hS => ?_)
  obtain ⟨F_15, hB1⟩ := hB
  obtain rfl : F = F_15 := (funext (fun a => hB1.2.2.2 a List.not_mem_nil)).symm
  obtain ⟨hP, hD, hO, hR⟩ := QTm.back hB1 ht hFc hR (fun q h => absurd h List.not_mem_nil)
  generalize H1 = H at hP hS ⊢
  have hw : (r_14 = 0 ∨ r_14 = 1) := hw
  have hw_16 := hw
  refine lv_if_eq (tgt := 16) hx hb dX15_wanted_8 (by decide) (fun c_17 => ?_) (fun c_17 => ?_)
  ·
    refine lv_aload_n hx hb dX15_wanted_16 rfl (lv_at hl 0 rfl) ?_
    refine lv_aload_n hx hb dX15_wanted_17 rfl (lv_at hl 1 rfl) ?_
    obtain ⟨q_18, v_19, hr_q_18, hX_q_18⟩ := hG.2.2 ("PostGateModel", 575, "quarantine", [113, 117, 97, 114, 97, 110, 116, 105, 110, 101]) (by decide +kernel)
    have hX_q_18 : SXc q_18 v_19 10 (cct [113, 117, 97, 114, 97, 110, 116, 105, 110, 101]) A s s.heap := hX_q_18
    obtain ⟨xo_q_18, xc_q_18, xv_q_18, xt_q_18, xn_q_18⟩ := id hX_q_18
    have hr_q_18 : vk_R "PostGateModel" 575 "quarantine" q_18 s := hr_q_18
    refine va_ldcwS hx hb hown hr_q_18 dX15_wanted_18 ?_
    have hFc := pg_free hD hS hA
    refine va_calli (va_runV (As := [.ref q, .ref q_18]) (rest := []) ⟨hx, hb, hml, hown, hts⟩ (s_X13_has l dC dI cs ty gm L H.size F g0 σ tx n Bn y0 y1 y2 tbx z q v k0 C q_18 v_19 10 (cct [113, 117, 97, 114, 97, 110, 116, 105, 110, 101]) hW hL_g0 hT_g0 hL_tx hT_tx hF0 (by first | omega | assumption | exact Or.inl rfl)) ⟨callB_of 2 hts (gi kt_863) rfl rfl rfl (hts _ kt_829) (hts _ kt_864) (by decide +kernel) ⟨Nat.le_of_ble_eq_true rfl, Nat.le_of_ble_eq_true rfl⟩, (hts _ kt_865), (hts _ kt_866)⟩ ⟨fun a U g mk q => ⟨q.1, PTEm.calling q.2⟩, pg_recv hK hP hL_g0 hF0 (q := (RX13, TX13, 5)) rfl, fun U hU hWm => ⟨rfl, PTEm.mk hU hWm hP hK hD hE hO hG (fun x hx => by simp only [List.mem_cons, List.not_mem_nil, or_false] at hx; rcases hx with hx | hx <;> subst hx <;> first | exact hX_q | exact hX_q_18) hS hFc⟩⟩ rfl rfl hl.1 rfl (lv_room (Nat.le_of_ble_eq_true rfl)) dX15_wanted_21 ⟨by show _ + 0 ≤ 0; omega, by show _ + 0 ≤ 0; omega⟩) hS (fun q _ h => hFc q h) hFc (fun r_20 u t H1 locs ht hvm hw hB hz1 hk1 hS => ?_)
    obtain ⟨F_21, hB1⟩ := hB
    obtain rfl : F = F_21 := (funext (fun a => hB1.2.2.2 a List.not_mem_nil)).symm
    obtain ⟨hP, hD, hO, hR⟩ := QTm.back hB1 ht hFc hR (fun q h => absurd h List.not_mem_nil)
    generalize H1 = H at hP hS ⊢
    have hw : (r_20 = 0 ∨ r_20 = 1) := hw
    have hw_22 := hw
    refine lv_if_eq (tgt := 32) hx hb dX15_wanted_24 (by decide) (fun c_23 => ?_) (fun c_23 => ?_)
    ·
      refine lv_aload_n hx hb dX15_wanted_32 rfl (lv_at hl 0 rfl) ?_
      refine lv_aload_n hx hb dX15_wanted_33 rfl (lv_at hl 1 rfl) ?_
      obtain ⟨q_24, v_25, hr_q_24, hX_q_24⟩ := hG.2.2 ("PostGateModel", 577, "reject", [114, 101, 106, 101, 99, 116]) (by decide +kernel)
      have hX_q_24 : SXc q_24 v_25 6 (cct [114, 101, 106, 101, 99, 116]) A s s.heap := hX_q_24
      obtain ⟨xo_q_24, xc_q_24, xv_q_24, xt_q_24, xn_q_24⟩ := id hX_q_24
      have hr_q_24 : vk_R "PostGateModel" 577 "reject" q_24 s := hr_q_24
      refine va_ldcwS hx hb hown hr_q_24 dX15_wanted_34 ?_
      have hFc := pg_free hD hS hA
      refine va_calli (va_runV (As := [.ref q, .ref q_24]) (rest := []) ⟨hx, hb, hml, hown, hts⟩ (s_X13_has l dC dI cs ty gm L H.size F g0 σ tx n Bn y0 y1 y2 tbx z q v k0 C q_24 v_25 6 (cct [114, 101, 106, 101, 99, 116]) hW hL_g0 hT_g0 hL_tx hT_tx hF0 (by first | omega | assumption | exact Or.inl rfl)) ⟨callB_of 2 hts (gi kt_863) rfl rfl rfl (hts _ kt_829) (hts _ kt_864) (by decide +kernel) ⟨Nat.le_of_ble_eq_true rfl, Nat.le_of_ble_eq_true rfl⟩, (hts _ kt_865), (hts _ kt_866)⟩ ⟨fun a U g mk q => ⟨q.1, PTEm.calling q.2⟩, pg_recv hK hP hL_g0 hF0 (q := (RX13, TX13, 5)) rfl, fun U hU hWm => ⟨rfl, PTEm.mk hU hWm hP hK hD hE hO hG (fun x hx => by simp only [List.mem_cons, List.not_mem_nil, or_false] at hx; rcases hx with hx | hx <;> subst hx <;> first | exact hX_q | exact hX_q_24) hS hFc⟩⟩ rfl rfl hl.1 rfl (lv_room (Nat.le_of_ble_eq_true rfl)) dX15_wanted_37 ⟨by show _ + 0 ≤ 0; omega, by show _ + 0 ≤ 0; omega⟩) hS (fun q _ h => hFc q h) hFc (fun r_26 u t H1 locs ht hvm hw hB hz1 hk1 hS => ?_)
      obtain ⟨F_27, hB1⟩ := hB
      obtain rfl : F = F_27 := (funext (fun a => hB1.2.2.2 a List.not_mem_nil)).symm
      obtain ⟨hP, hD, hO, hR⟩ := QTm.back hB1 ht hFc hR (fun q h => absurd h List.not_mem_nil)
      generalize H1 = H at hP hS ⊢
      have hw : (r_26 = 0 ∨ r_26 = 1) := hw
      have hw_28 := hw
      refine lv_if_eq (tgt := 48) hx hb dX15_wanted_40 (by decide) (fun c_29 => ?_) (fun c_29 => ?_)
      ·
        refine lv_bipush (v := 6) hx hb dX15_wanted_48 (by decide) ?_
        refine W.widen (k := 0) (n := 0) (by omega) (by omega) ?_
        exact W.iret (v := 6) hx hb hr (fun t ht hWm => ⟨⟨6, (), rfl, trivial, ⟨F, QTm.mk ht hP hD hO hR⟩⟩, hS.F ht⟩) hS.2.2 dX15_wanted_50
      ·
        refine lv_bipush (v := 9) hx hb dX15_wanted_43 (by decide) ?_
        refine lv_goto (tgt := 50) hx hb dX15_wanted_45 (by decide) ?_
        refine W.widen (k := 0) (n := 0) (by omega) (by omega) ?_
        exact W.iret (v := 9) hx hb hr (fun t ht hWm => ⟨⟨9, (), rfl, trivial, ⟨F, QTm.mk ht hP hD hO hR⟩⟩, hS.F ht⟩) hS.2.2 dX15_wanted_50
    ·
      refine lv_bipush (v := 8) hx hb dX15_wanted_27 (by decide) ?_
      refine lv_goto (tgt := 50) hx hb dX15_wanted_29 (by decide) ?_
      refine W.widen (k := 0) (n := 0) (by omega) (by omega) ?_
      exact W.iret (v := 8) hx hb hr (fun t ht hWm => ⟨⟨8, (), rfl, trivial, ⟨F, QTm.mk ht hP hD hO hR⟩⟩, hS.F ht⟩) hS.2.2 dX15_wanted_50
  ·
    refine lv_bipush (v := 7) hx hb dX15_wanted_11 (by decide) ?_
    refine lv_goto (tgt := 50) hx hb dX15_wanted_13 (by decide) ?_
    refine W.widen (k := 0) (n := 0) (by omega) (by omega) ?_
    exact W.iret (v := 7) hx hb hr (fun t ht hWm => ⟨⟨7, (), rfl, trivial, ⟨F, QTm.mk ht hP hD hO hR⟩⟩, hS.F ht⟩) hS.2.2 dX15_wanted_50
theorem mxN {x : Int32} {b zd : Nat} (h : x = (-1) ∨ ∃ k : Nat, k ≤ zd ∧ x = nI k) (hb : b ≤ zd) (hz : zd ≤ 10000) : ∃ k : Nat, k ≤ zd ∧ (if x < nI b then nI b else x) = nI k := by
  rcases h with h | ⟨k, hk, h⟩
  · refine ⟨b, hb, ?_⟩
    rw [h]
    rw [if_pos]
    rw [Int32.lt_iff_toInt_lt, nI_toInt (by omega), show ((-1) : Int32).toInt = -1 from by decide]
    omega
  · rw [h]
    split
    · exact ⟨b, hb, rfl⟩
    · exact ⟨k, hk, rfl⟩
set_option maxHeartbeats 4000000 in
set_option maxRecDepth 100000 in
theorem s_X15_houseOf (l : Launch) (dC : Nat → ClassId) (dI : Nat → Nat → Nat) (cs : Nat → ClassId) (ty : TyM) (gm : Nat → Nat → Nat) (L : List Nat) (sz : Nat) (F : Nat → va_E) (h0 : Nat) (ρ : Nat) (ta : Nat) (ou : Nat) (so : Nat) (ad : Nat) (na : Nat) (va : Nat) (lc : Nat) (dm : Nat) (tg : Nat) (pe : Nat) (ml : Nat) (bg : Nat) (co : Nat) (sp : Nat) (nb0 : Nat) (nb1 : Nat) (nb2 : Nat) (pl : Nat) (se : Nat) (ke : Nat) (wi : Nat) (hs : Nat) (mo : Nat) (po : Nat) (nu : Nat) (pr : Nat) (sq : Nat) (xa : Nat) (sa : Nat) (n64 : Nat) (m64 : Nat) (ex : Nat) (wh : Nat) (sd : Nat) (tk : Nat) (hd : Nat) (ak : Nat) (ho : Nat) (ot : Nat) (sx : Nat) (s0 : Nat) (s1 : Nat) (s2 : Nat) (nf : Nat) (bd : Nat) (mm : Nat) (zo : Nat) (fm : Nat) (sn : Nat) (hg : Nat) (gc : Nat) (gv : Nat) (ze : Nat) (zt : Nat) (dt : Nat) (σ : Nat) (rd : Nat) (nd : Nat) (gt : Nat) (τ : Nat) (rt : Nat) (nt : Nat) (zd : Nat) (hW : WTm ty gm L) (hL_h0 : h0 ∈ L) (hT_h0 : ty h0 = (15, ρ, [ta, ou, so, ad, na, va, lc, dm, tg, pe, ml, bg, co, sp, nb0, nb1, nb2, pl, se, ke, wi, hs, mo, po, nu, pr, sq, xa, sa, n64, m64, ex, wh, sd, tk, hd, ak, ho, ot, sx, s0, s1, s2, nf, bd, mm, zo, fm, sn, hg, gc, gv, ze, zt])) (hL_dt : dt ∈ L) (hT_dt : ty dt = (14, σ, [rd, nd])) (hL_gt : gt ∈ L) (hT_gt : ty gt = (14, τ, [rt, nt])) (hFd : F dt = .inr (14, [.ref rd, .int (nI zd)])) (hzd : zd ≤ nd) (hnt : nd ≤ nt) : Met l yX15_houseOf (.code yX15_houseOf cX15_houseOf 6 none :: tb) ({ frames := 3, cells := 0, slots := 0, locals := 94 }) (va_Pc [.ref h0, .ref dt, .ref gt] (PTm (dC, dI) cs ty gm L F sz)) (va_Qv (fun _ : Unit => True) (fun _ T9 => ∃ F2 : Nat → va_E, ∃ y2 : Nat, QTm (dC, dI) cs ty gm L [τ] F F2 (va_A (va_pl L F) sz) T9 ∧ F2 gt = .inr (14, [.ref rt, .int (nI y2)]) ∧ y2 ≤ zd) (va_A (va_pl L F) sz)) 0 0 (va_A (va_pl L F) sz) := by
  refine Met.ofW (cc := cX15_houseOf) (maxL := 6) (ret := none) (by decide) rfl ?_
  intro p e s m args below meth c s₁ B hml hv
  obtain ⟨rfl, hsz, hP, hK, hD0, hE, hO⟩ := hv
  have hx := B.exec
  have hb := B.bytes
  have hr := B.returns
  have hts : ∀ w ∈ tb, w.before _ s = true := fun w h => atoms_spec (ws := .code yX15_houseOf cX15_houseOf 6 none :: tb) B.pre w (List.mem_cons_of_mem _ h)
  have hown : s.vm.findClass RX15 = some m.cls := findClass_of_methodNamed B.named
  have hlocks := B.notSynchronized
  subst hsz
  have hD := hD0.self (sz := s.heap.size)
  generalize hAe : va_A (va_pl L F) s.heap.size = A at hD ⊢
  have hA : ∀ q : Nat, s.heap.size ≤ q → A q := fun q h => by rw [← hAe]; exact Or.inr h
  have hS : va_S A s.heap s.heap [] := va_S.rf
  have hR : FR ty [τ] F F := FR.refl
  have hl := lv_entry ([.ref h0, .ref dt, .ref gt]) (n := 6) (Nat.le_of_ble_eq_true rfl)
  rw [lg_entry_eq]
  generalize (lg_sl ([.ref h0, .ref dt, .ref gt]) ++ List.replicate (6 - (lg_sl ([.ref h0, .ref dt, .ref gt])).length) Slot.unset).toArray = ls at hl ⊢
  have hl : lv_has ls 6 [(0, .ref h0), (1, .ref dt), (2, .ref gt)] := hl
  obtain ⟨hq_23, hq_24, hq_25, hq_26, hq_27, hgO, hgA, hgB, hq_28⟩ := hW.sc hL_h0 hT_h0
  obtain ⟨hi_29, ht_30, hq_31⟩ := hW.txt hL_dt hT_dt
  obtain ⟨hi_32, ht_33, hq_34⟩ := hW.txt hL_gt hT_gt
  refine lv_iconst (v := (-1)) hx hb dX15_houseOf_0 (by decide) ?_
  refine lv_istore_n (lv' := [(3, .int (-1)), (0, .ref h0), (1, .ref dt), (2, .ref gt)]) hx hb dX15_houseOf_1 rfl hl (by decide) rfl (fun ls hl => ?_)
  refine lv_iconst (v := 0) hx hb dX15_houseOf_2 (by decide) ?_
  refine lv_istore (lv' := [(4, .int 0), (3, .int (-1)), (0, .ref h0), (1, .ref dt), (2, .ref gt)]) hx hb dX15_houseOf_3 hl (by decide) rfl (fun ls hl => ?_)
  refine W.widen (k := 0) (n := 0) (by omega) (by omega) ?_
  refine pl_loopm (σ := Nat × Int32) A (dC, dI) cs ty gm L [τ] F 5 6 (fun (j, w3) => [(4, .int (nI j)), (3, .int w3), (0, .ref h0), (1, .ref dt), (2, .ref gt)]) (fun (j, w3) => []) (fun (j, w3) FF => j ≤ 40 ∧ (w3 = (-1) ∨ ∃ k : Nat, k ≤ zd ∧ w3 = nI k) ∧ FF dt = .inr (14, [.ref rd, .int (nI zd)])) (fun (j, w3) => 40 - j) ?_ (0, (-1)) F (⟨by omega, Or.inl rfl, hFd⟩) hO hR _ _ hP hD hS ls (lv_sub hl [0, 1, 2, 3, 4] rfl)
  rintro ⟨j, w3⟩ F_35 hv_36 hO hR ih_37 H locs hP hD hS ls hl
  have hl : lv_has ls 6 [(4, .int (nI j)), (3, .int w3), (0, .ref h0), (1, .ref dt), (2, .ref gt)] := hl
  have hv_36 : j ≤ 40 ∧ (w3 = (-1) ∨ ∃ k : Nat, k ≤ zd ∧ w3 = nI k) ∧ F_35 dt = .inr (14, [.ref rd, .int (nI zd)]) := hv_36
  refine W.eq (g2 := F0 m 5 ls []) rfl ?_
  obtain ⟨ha1, ha2, ha3⟩ := hv_36
  refine lv_iload hx hb dX15_houseOf_5 (lv_at hl 0 rfl) ?_
  refine lv_aload_n hx hb dX15_houseOf_7 rfl (lv_at hl 2 rfl) ?_
  obtain ⟨v14_38, v15_39, v17_40, v18_41, v19_42, v20_43, v21_44, v22_45, v33_46, v52_47, v53_48, v54_49, hF_50, hq_51, hq_52, hq_53, hq_54, hq_55⟩ := hO.mod hL_h0 hT_h0
  refine pg_get (ci := 15) (v := .int (nI ze)) (C := RX15) (T := TX15) (N := 59) hx hb hts it_15 hown hK hP hL_h0 hF_50 rfl 3 (by decide) (hts _ kt_724) (fun _ h9 => h9) rfl dX15_houseOf_8 ?_
  refine lv_icmp_ge (tgt := 60) hx hb dX15_houseOf_11 (by decide) (fun c_56 => ?_) (fun c_56 => ?_)
  ·
    have hi_57 : ze ≤ j := leN (N := ze) c_56
    refine lv_iload_n hx hb dX15_houseOf_60 rfl (lv_at hl 1 rfl) ?_
    refine lv_if_ge (tgt := 71) hx hb dX15_houseOf_61 (by decide) (fun c_58 => ?_) (fun c_58 => ?_)
    ·
      obtain ⟨kl, hkl, ekl⟩ := ha2.resolve_left (fun h => absurd (h ▸ c_58) (by decide))
      subst ekl
      refine lv_aload_n hx hb dX15_houseOf_71 rfl (lv_at hl 3 rfl) ?_
      refine pg_get (ci := 14) (v := .int (nI zd)) (C := RX14) (T := TX14) (N := 2) hx hb hts it_14 hown hK hP hL_dt ha3 rfl 1 (by decide) (hts _ kt_709) (fun _ h9 => h9) rfl dX15_houseOf_72 ?_
      refine lv_iload_n hx hb dX15_houseOf_75 rfl (lv_at hl 1 rfl) ?_
      refine lv_isub hx hb dX15_houseOf_76 ?_
      refine lv_topi (fun x_59 ex_59 => ?_)
      obtain rfl : x_59 = (nI (zd - kl)) := ex_59.trans (pk_sub (by omega))
      refine lv_iconst (v := 1) hx hb dX15_houseOf_77 (by decide) ?_
      refine lv_isub hx hb dX15_houseOf_78 ?_
      refine lv_topi (fun x_60 ex_60 => ?_)
      obtain rfl : x_60 = (nI (zd - kl) - 1) := ex_60.trans (rfl)
      refine lv_istore (lv' := [(4, .int (nI (zd - kl) - 1)), (3, .int (nI kl)), (0, .ref h0), (1, .ref dt), (2, .ref gt)]) hx hb dX15_houseOf_79 hl (by decide) rfl (fun ls hl => ?_)
      refine lv_iload_n hx hb dX15_houseOf_81 rfl (lv_at hl 1 rfl) ?_
      refine lv_if_ge (tgt := 89) hx hb dX15_houseOf_82 (by decide) (fun c_61 => ?_) (fun c_61 => absurd (Int32.not_lt.mp (nI_pos (by omega))) c_61)
      refine lv_iconst (v := 1) hx hb dX15_houseOf_89 (by decide) ?_
      refine lv_istore (lv' := [(5, .int 1), (4, .int (nI (zd - kl) - 1)), (3, .int (nI kl)), (0, .ref h0), (1, .ref dt), (2, .ref gt)]) hx hb dX15_houseOf_90 hl (by decide) rfl (fun ls hl => ?_)
      refine lv_iload_n hx hb dX15_houseOf_92 rfl (lv_at hl 2 rfl) ?_
      refine lv_aload_n hx hb dX15_houseOf_93 rfl (lv_at hl 4 rfl) ?_
      refine pg_get (ci := 14) (v := .int (nI zd)) (C := RX14) (T := TX14) (N := 2) hx hb hts it_14 hown hK hP hL_dt ha3 rfl 1 (by decide) (hts _ kt_709) (fun _ h9 => h9) rfl dX15_houseOf_94 ?_
      refine lv_icmp_ne (tgt := 103) hx hb dX15_houseOf_97 (by decide) (fun c_62 => ?_) (fun c_62 => ?_)
      ·
        have hi_63 : kl ≠ zd := fun q => c_62 (by rw [q])
        have hne : kl ≠ zd := by
          intro q
          exact c_62 (by rw [q])
        have e76 : nI (zd - kl) - 1 = nI (zd - kl - 1) := pk_sub (b := 1) (by omega)
        have hl : lv_has ls 6 [(5, .int 1), (4, .int (nI (zd - kl - 1))), (3, .int (nI kl)), (0, .ref h0), (1, .ref dt), (2, .ref gt)] := by have h9 := hl; rw [e76] at h9; exact h9
        refine W.widen (k := 0) (n := 0) (by omega) (by omega) ?_
        refine pl_loopm (σ := Nat × Int32) A (dC, dI) cs ty gm L [τ] F 103 6 (fun (i, w5) => [(5, .int w5), (4, .int (nI i)), (0, .ref h0), (1, .ref dt), (2, .ref gt)]) (fun (i, w5) => []) (fun (i, w5) FF => i ≤ zd ∧ FF dt = .inr (14, [.ref rd, .int (nI zd)])) (fun (i, w5) => i) ?_ ((zd - kl - 1), 1) F_35 (⟨by omega, ha3⟩) hO hR _ _ hP hD hS ls (lv_sub hl [0, 1, 3, 4, 5] rfl)
        rintro ⟨i, w5⟩ F_64 hv_65 hO hR ih_66 H locs hP hD hS ls hl
        have hl : lv_has ls 6 [(5, .int w5), (4, .int (nI i)), (0, .ref h0), (1, .ref dt), (2, .ref gt)] := hl
        have hv_65 : i ≤ zd ∧ F_64 dt = .inr (14, [.ref rd, .int (nI zd)]) := hv_65
        refine W.eq (g2 := F0 m 103 ls []) rfl ?_
        obtain ⟨hb1, hb2⟩ := hv_65
        refine lv_iload hx hb dX15_houseOf_103 (lv_at hl 1 rfl) ?_
        refine lv_if_le (tgt := 140) hx hb dX15_houseOf_105 (by decide) (fun c_67 => ?_) (fun c_67 => ?_)
        ·
          have hi_68 : i ≤ 0 := (nI_leI (a := i) (b := 0) (by omega) (by omega)).mp c_67
          refine lv_aload_n hx hb dX15_houseOf_140 rfl (lv_at hl 4 rfl) ?_
          refine lv_aload_n hx hb dX15_houseOf_141 rfl (lv_at hl 3 rfl) ?_
          refine pg_get (ci := 14) (v := .ref rd) (C := RX14) (T := TX14) (N := 2) hx hb hts it_14 hown hK hP hL_dt hb2 rfl 0 (by decide) (hts _ kt_710) (fun _ h9 => h9) rfl dX15_houseOf_142 ?_
          refine lv_iload hx hb dX15_houseOf_145 (lv_at hl 1 rfl) ?_
          refine lv_aload_n hx hb dX15_houseOf_147 rfl (lv_at hl 3 rfl) ?_
          refine pg_get (ci := 14) (v := .int (nI zd)) (C := RX14) (T := TX14) (N := 2) hx hb hts it_14 hown hK hP hL_dt hb2 rfl 1 (by decide) (hts _ kt_709) (fun _ h9 => h9) rfl dX15_houseOf_148 ?_
          obtain ⟨hq_69, hq_70⟩ := hW.octs hi_29 ht_30
          have hFc := pg_free hD hS hA
          obtain ⟨z_71, hF_72, hq_73⟩ := hO.txt hL_gt hT_gt
          refine va_callv (va_runV (As := [.ref rd, .int (nI i), .int (nI zd)]) (rest := []) ⟨hx, hb, hml, hown, hts⟩ (s_X14_set l dC dI cs ty gm L H.size F_64 gt τ rt nt rd σ nd i zd hW hL_gt hT_gt hi_29 ht_30 (by omega) (by omega) (by omega)) ⟨callB_of 3 hts (gi kt_941) rfl rfl rfl (hts _ kt_676) (hts _ kt_942) (by decide +kernel) ⟨Nat.le_of_ble_eq_true rfl, Nat.le_of_ble_eq_true rfl⟩, (hts _ kt_943), (hts _ kt_944)⟩ ⟨fun a U g mk q => ⟨q.1, PTm.calling q.2⟩, pg_recv hK hP hL_gt hF_72 (q := (RX14, TX14, 2)) rfl, fun U hU hWm => ⟨rfl, PTm.mk hU hWm hP hK hD hE hO⟩⟩ rfl rfl hl.1 rfl (lv_room (Nat.le_of_ble_eq_true rfl)) dX15_houseOf_151 ⟨by show _ + 0 ≤ 0; omega, by show _ + 0 ≤ 0; omega⟩) hS (fun q _ h => hFc q h) hFc (fun u t H1 locs ht hvm hw hB hz1 hk1 hS => ?_)
          obtain ⟨F_75, hB1, hq_76⟩ := hB
          obtain ⟨hP, hD, hO, hR⟩ := QTm.back hB1 ht hFc hR (fun q h => by simp only [List.mem_cons, List.not_mem_nil, or_false] at h ⊢; omega)
          generalize H1 = H at hP hS ⊢
          refine W.widen (k := 0) (n := 0) (by omega) (by omega) ?_
          exact W.vret hx hb hr (fun t ht hWm => ⟨⟨(), rfl, trivial, ⟨F_75, (zd - i), QTm.mk ht hP hD hO hR, hq_76, by omega⟩⟩, hS.F ht⟩) hS.2.2 dX15_houseOf_154
        ·
          have hi_77 : 0 < i := Nat.not_le.mp (fun q => c_67 ((nI_leI (a := i) (b := 0) (by omega) (by omega)).mpr q))
          have hi1 := posN c_67
          refine lv_iinc (v := (nI (i - 1))) (lv' := [(4, .int (nI (i - 1))), (5, .int w5), (0, .ref h0), (1, .ref dt), (2, .ref gt)]) hx hb dX15_houseOf_108 hl (k := 1) rfl (m1N (by omega)) (by decide) rfl (fun ls hl => ?_)
          refine lv_aload_n hx hb dX15_houseOf_111 rfl (lv_at hl 3 rfl) ?_
          refine pg_get (ci := 14) (v := .ref rd) (C := RX14) (T := TX14) (N := 2) hx hb hts it_14 hown hK hP hL_dt hb2 rfl 0 (by decide) (hts _ kt_710) (fun _ h9 => h9) rfl dX15_houseOf_112 ?_
          refine lv_iload hx hb dX15_houseOf_115 (lv_at hl 0 rfl) ?_
          obtain ⟨hq_78, hq_79⟩ := hW.octs hi_29 ht_30
          obtain ⟨f_80, hF_81, hq_82⟩ := hO.octs hi_29 ht_30
          refine pg_bald hx hb hK hP hi_29 1 hF_81 rfl (vp_in_nI (by omega) (by omega)) dX15_houseOf_117 ?_
          refine lv_topi (fun x_83 ex_83 => ?_)
          obtain rfl : x_83 = f_80 (i - 1) := ex_83.trans (congrArg f_80 (show ((nI (i - 1)) : Int32).toNatClampNeg = (i - 1) from nI_clamp (by omega)))
          refine lv_bipush (v := 46) hx hb dX15_houseOf_118 (by decide) ?_
          refine lv_icmp_eq (tgt := 126) hx hb dX15_houseOf_120 (by decide) (fun c_84 => ?_) (fun c_84 => ?_)
          ·
            obtain ⟨x_85, ex_85⟩ : ∃ y : Int32, y = w5 + Int32.ofInt (-1) := ⟨_, rfl⟩
            refine lv_iinc (v := x_85) (lv' := [(5, .int x_85), (4, .int (nI (i - 1))), (0, .ref h0), (1, .ref dt), (2, .ref gt)]) hx hb dX15_houseOf_126 hl (k := 1) rfl (ex_85.symm) (by decide) rfl (fun ls hl => ?_)
            refine lv_iload hx hb dX15_houseOf_129 (lv_at hl 0 rfl) ?_
            refine lv_if_ne (tgt := 103) hx hb dX15_houseOf_131 (by decide) (fun c_86 => ?_) (fun c_86 => ?_)
            ·
              refine W.widen (k := 0) (n := 0) (by omega) (by omega) ?_
              exact ih_66 ((i - 1), x_85) F_64 (⟨by omega, hb2⟩) (by show (i - 1) < i; omega) hO hR _ _ hP hD hS ls (lv_sub hl [0, 1, 2, 3, 4] rfl)
            ·
              refine lv_iinc (v := (nI (i - 1 + 1))) (lv' := [(4, .int (nI (i - 1 + 1))), (5, .int x_85), (0, .ref h0), (1, .ref dt), (2, .ref gt)]) hx hb dX15_houseOf_134 hl (k := 1) rfl (nI_1 (i - 1)) (by decide) rfl (fun ls hl => ?_)
              refine lv_goto (tgt := 140) hx hb dX15_houseOf_137 (by decide) ?_
              refine lv_aload_n hx hb dX15_houseOf_140 rfl (lv_at hl 4 rfl) ?_
              refine lv_aload_n hx hb dX15_houseOf_141 rfl (lv_at hl 3 rfl) ?_
              refine pg_get (ci := 14) (v := .ref rd) (C := RX14) (T := TX14) (N := 2) hx hb hts it_14 hown hK hP hL_dt hb2 rfl 0 (by decide) (hts _ kt_710) (fun _ h9 => h9) rfl dX15_houseOf_142 ?_
              refine lv_iload hx hb dX15_houseOf_145 (lv_at hl 0 rfl) ?_
              refine lv_aload_n hx hb dX15_houseOf_147 rfl (lv_at hl 3 rfl) ?_
              refine pg_get (ci := 14) (v := .int (nI zd)) (C := RX14) (T := TX14) (N := 2) hx hb hts it_14 hown hK hP hL_dt hb2 rfl 1 (by decide) (hts _ kt_709) (fun _ h9 => h9) rfl dX15_houseOf_148 ?_
              have hFc := pg_free hD hS hA
              obtain ⟨z_87, hF_88, hq_89⟩ := hO.txt hL_gt hT_gt
              refine va_callv (va_runV (As := [.ref rd, .int (nI (i - 1 + 1)), .int (nI zd)]) (rest := []) ⟨hx, hb, hml, hown, hts⟩ (s_X14_set l dC dI cs ty gm L H.size F_64 gt τ rt nt rd σ nd (i - 1 + 1) zd hW hL_gt hT_gt hi_29 ht_30 (by omega) (by omega) (by omega)) ⟨callB_of 3 hts (gi kt_941) rfl rfl rfl (hts _ kt_676) (hts _ kt_942) (by decide +kernel) ⟨Nat.le_of_ble_eq_true rfl, Nat.le_of_ble_eq_true rfl⟩, (hts _ kt_943), (hts _ kt_944)⟩ ⟨fun a U g mk q => ⟨q.1, PTm.calling q.2⟩, pg_recv hK hP hL_gt hF_88 (q := (RX14, TX14, 2)) rfl, fun U hU hWm => ⟨rfl, PTm.mk hU hWm hP hK hD hE hO⟩⟩ rfl rfl hl.1 rfl (lv_room (Nat.le_of_ble_eq_true rfl)) dX15_houseOf_151 ⟨by show _ + 0 ≤ 0; omega, by show _ + 0 ≤ 0; omega⟩) hS (fun q _ h => hFc q h) hFc (fun u t H1 locs ht hvm hw hB hz1 hk1 hS => ?_)
              obtain ⟨F_91, hB1, hq_92⟩ := hB
              obtain ⟨hP, hD, hO, hR⟩ := QTm.back hB1 ht hFc hR (fun q h => by simp only [List.mem_cons, List.not_mem_nil, or_false] at h ⊢; omega)
              generalize H1 = H at hP hS ⊢
              refine W.widen (k := 0) (n := 0) (by omega) (by omega) ?_
              exact W.vret hx hb hr (fun t ht hWm => ⟨⟨(), rfl, trivial, ⟨F_91, (zd - (i - 1 + 1)), QTm.mk ht hP hD hO hR, hq_92, by omega⟩⟩, hS.F ht⟩) hS.2.2 dX15_houseOf_154
          ·
            refine lv_goto (tgt := 103) hx hb dX15_houseOf_123 (by decide) ?_
            refine W.widen (k := 0) (n := 0) (by omega) (by omega) ?_
            exact ih_66 ((i - 1), w5) F_64 (⟨by omega, hb2⟩) (by show (i - 1) < i; omega) hO hR _ _ hP hD hS ls (lv_sub hl [1, 0, 2, 3, 4] rfl)
      ·
        have hi_93 : kl = zd := (nI_eq (a := kl) (b := zd) (by omega) (by omega)).mp c_62
        refine lv_iconst (v := 0) hx hb dX15_houseOf_100 (by decide) ?_
        refine lv_istore (lv' := [(4, .int 0), (5, .int 1), (3, .int (nI kl)), (0, .ref h0), (1, .ref dt), (2, .ref gt)]) hx hb dX15_houseOf_101 hl (by decide) rfl (fun ls hl => ?_)
        refine W.widen (k := 0) (n := 0) (by omega) (by omega) ?_
        refine pl_loopm (σ := Nat × Int32) A (dC, dI) cs ty gm L [τ] F 103 6 (fun (i, w5) => [(4, .int (nI i)), (5, .int w5), (0, .ref h0), (1, .ref dt), (2, .ref gt)]) (fun (i, w5) => []) (fun (i, w5) FF => i ≤ zd ∧ FF dt = .inr (14, [.ref rd, .int (nI zd)])) (fun (i, w5) => i) ?_ (0, 1) F_35 (⟨by omega, ha3⟩) hO hR _ _ hP hD hS ls (lv_sub hl [0, 1, 3, 4, 5] rfl)
        rintro ⟨i, w5⟩ F_94 hv_95 hO hR ih_96 H locs hP hD hS ls hl
        have hl : lv_has ls 6 [(4, .int (nI i)), (5, .int w5), (0, .ref h0), (1, .ref dt), (2, .ref gt)] := hl
        have hv_95 : i ≤ zd ∧ F_94 dt = .inr (14, [.ref rd, .int (nI zd)]) := hv_95
        refine W.eq (g2 := F0 m 103 ls []) rfl ?_
        obtain ⟨hb1, hb2⟩ := hv_95
        refine lv_iload hx hb dX15_houseOf_103 (lv_at hl 0 rfl) ?_
        refine lv_if_le (tgt := 140) hx hb dX15_houseOf_105 (by decide) (fun c_97 => ?_) (fun c_97 => ?_)
        ·
          have hi_98 : i ≤ 0 := (nI_leI (a := i) (b := 0) (by omega) (by omega)).mp c_97
          refine lv_aload_n hx hb dX15_houseOf_140 rfl (lv_at hl 4 rfl) ?_
          refine lv_aload_n hx hb dX15_houseOf_141 rfl (lv_at hl 3 rfl) ?_
          refine pg_get (ci := 14) (v := .ref rd) (C := RX14) (T := TX14) (N := 2) hx hb hts it_14 hown hK hP hL_dt hb2 rfl 0 (by decide) (hts _ kt_710) (fun _ h9 => h9) rfl dX15_houseOf_142 ?_
          refine lv_iload hx hb dX15_houseOf_145 (lv_at hl 0 rfl) ?_
          refine lv_aload_n hx hb dX15_houseOf_147 rfl (lv_at hl 3 rfl) ?_
          refine pg_get (ci := 14) (v := .int (nI zd)) (C := RX14) (T := TX14) (N := 2) hx hb hts it_14 hown hK hP hL_dt hb2 rfl 1 (by decide) (hts _ kt_709) (fun _ h9 => h9) rfl dX15_houseOf_148 ?_
          obtain ⟨hq_99, hq_100⟩ := hW.octs hi_29 ht_30
          have hFc := pg_free hD hS hA
          obtain ⟨z_101, hF_102, hq_103⟩ := hO.txt hL_gt hT_gt
          refine va_callv (va_runV (As := [.ref rd, .int (nI i), .int (nI zd)]) (rest := []) ⟨hx, hb, hml, hown, hts⟩ (s_X14_set l dC dI cs ty gm L H.size F_94 gt τ rt nt rd σ nd i zd hW hL_gt hT_gt hi_29 ht_30 (by omega) (by omega) (by omega)) ⟨callB_of 3 hts (gi kt_941) rfl rfl rfl (hts _ kt_676) (hts _ kt_942) (by decide +kernel) ⟨Nat.le_of_ble_eq_true rfl, Nat.le_of_ble_eq_true rfl⟩, (hts _ kt_943), (hts _ kt_944)⟩ ⟨fun a U g mk q => ⟨q.1, PTm.calling q.2⟩, pg_recv hK hP hL_gt hF_102 (q := (RX14, TX14, 2)) rfl, fun U hU hWm => ⟨rfl, PTm.mk hU hWm hP hK hD hE hO⟩⟩ rfl rfl hl.1 rfl (lv_room (Nat.le_of_ble_eq_true rfl)) dX15_houseOf_151 ⟨by show _ + 0 ≤ 0; omega, by show _ + 0 ≤ 0; omega⟩) hS (fun q _ h => hFc q h) hFc (fun u t H1 locs ht hvm hw hB hz1 hk1 hS => ?_)
          obtain ⟨F_105, hB1, hq_106⟩ := hB
          obtain ⟨hP, hD, hO, hR⟩ := QTm.back hB1 ht hFc hR (fun q h => by simp only [List.mem_cons, List.not_mem_nil, or_false] at h ⊢; omega)
          generalize H1 = H at hP hS ⊢
          refine W.widen (k := 0) (n := 0) (by omega) (by omega) ?_
          exact W.vret hx hb hr (fun t ht hWm => ⟨⟨(), rfl, trivial, ⟨F_105, (zd - i), QTm.mk ht hP hD hO hR, hq_106, by omega⟩⟩, hS.F ht⟩) hS.2.2 dX15_houseOf_154
        ·
          have hi_107 : 0 < i := Nat.not_le.mp (fun q => c_97 ((nI_leI (a := i) (b := 0) (by omega) (by omega)).mpr q))
          have hi1 := posN c_97
          refine lv_iinc (v := (nI (i - 1))) (lv' := [(4, .int (nI (i - 1))), (5, .int w5), (0, .ref h0), (1, .ref dt), (2, .ref gt)]) hx hb dX15_houseOf_108 hl (k := 0) rfl (m1N (by omega)) (by decide) rfl (fun ls hl => ?_)
          refine lv_aload_n hx hb dX15_houseOf_111 rfl (lv_at hl 3 rfl) ?_
          refine pg_get (ci := 14) (v := .ref rd) (C := RX14) (T := TX14) (N := 2) hx hb hts it_14 hown hK hP hL_dt hb2 rfl 0 (by decide) (hts _ kt_710) (fun _ h9 => h9) rfl dX15_houseOf_112 ?_
          refine lv_iload hx hb dX15_houseOf_115 (lv_at hl 0 rfl) ?_
          obtain ⟨hq_108, hq_109⟩ := hW.octs hi_29 ht_30
          obtain ⟨f_110, hF_111, hq_112⟩ := hO.octs hi_29 ht_30
          refine pg_bald hx hb hK hP hi_29 1 hF_111 rfl (vp_in_nI (by omega) (by omega)) dX15_houseOf_117 ?_
          refine lv_topi (fun x_113 ex_113 => ?_)
          obtain rfl : x_113 = f_110 (i - 1) := ex_113.trans (congrArg f_110 (show ((nI (i - 1)) : Int32).toNatClampNeg = (i - 1) from nI_clamp (by omega)))
          refine lv_bipush (v := 46) hx hb dX15_houseOf_118 (by decide) ?_
          refine lv_icmp_eq (tgt := 126) hx hb dX15_houseOf_120 (by decide) (fun c_114 => ?_) (fun c_114 => ?_)
          ·
            obtain ⟨x_115, ex_115⟩ : ∃ y : Int32, y = w5 + Int32.ofInt (-1) := ⟨_, rfl⟩
            refine lv_iinc (v := x_115) (lv' := [(5, .int x_115), (4, .int (nI (i - 1))), (0, .ref h0), (1, .ref dt), (2, .ref gt)]) hx hb dX15_houseOf_126 hl (k := 1) rfl (ex_115.symm) (by decide) rfl (fun ls hl => ?_)
            refine lv_iload hx hb dX15_houseOf_129 (lv_at hl 0 rfl) ?_
            refine lv_if_ne (tgt := 103) hx hb dX15_houseOf_131 (by decide) (fun c_116 => ?_) (fun c_116 => ?_)
            ·
              refine W.widen (k := 0) (n := 0) (by omega) (by omega) ?_
              exact ih_96 ((i - 1), x_115) F_94 (⟨by omega, hb2⟩) (by show (i - 1) < i; omega) hO hR _ _ hP hD hS ls (lv_sub hl [1, 0, 2, 3, 4] rfl)
            ·
              refine lv_iinc (v := (nI (i - 1 + 1))) (lv' := [(4, .int (nI (i - 1 + 1))), (5, .int x_115), (0, .ref h0), (1, .ref dt), (2, .ref gt)]) hx hb dX15_houseOf_134 hl (k := 1) rfl (nI_1 (i - 1)) (by decide) rfl (fun ls hl => ?_)
              refine lv_goto (tgt := 140) hx hb dX15_houseOf_137 (by decide) ?_
              refine lv_aload_n hx hb dX15_houseOf_140 rfl (lv_at hl 4 rfl) ?_
              refine lv_aload_n hx hb dX15_houseOf_141 rfl (lv_at hl 3 rfl) ?_
              refine pg_get (ci := 14) (v := .ref rd) (C := RX14) (T := TX14) (N := 2) hx hb hts it_14 hown hK hP hL_dt hb2 rfl 0 (by decide) (hts _ kt_710) (fun _ h9 => h9) rfl dX15_houseOf_142 ?_
              refine lv_iload hx hb dX15_houseOf_145 (lv_at hl 0 rfl) ?_
              refine lv_aload_n hx hb dX15_houseOf_147 rfl (lv_at hl 3 rfl) ?_
              refine pg_get (ci := 14) (v := .int (nI zd)) (C := RX14) (T := TX14) (N := 2) hx hb hts it_14 hown hK hP hL_dt hb2 rfl 1 (by decide) (hts _ kt_709) (fun _ h9 => h9) rfl dX15_houseOf_148 ?_
              have hFc := pg_free hD hS hA
              obtain ⟨z_117, hF_118, hq_119⟩ := hO.txt hL_gt hT_gt
              refine va_callv (va_runV (As := [.ref rd, .int (nI (i - 1 + 1)), .int (nI zd)]) (rest := []) ⟨hx, hb, hml, hown, hts⟩ (s_X14_set l dC dI cs ty gm L H.size F_94 gt τ rt nt rd σ nd (i - 1 + 1) zd hW hL_gt hT_gt hi_29 ht_30 (by omega) (by omega) (by omega)) ⟨callB_of 3 hts (gi kt_941) rfl rfl rfl (hts _ kt_676) (hts _ kt_942) (by decide +kernel) ⟨Nat.le_of_ble_eq_true rfl, Nat.le_of_ble_eq_true rfl⟩, (hts _ kt_943), (hts _ kt_944)⟩ ⟨fun a U g mk q => ⟨q.1, PTm.calling q.2⟩, pg_recv hK hP hL_gt hF_118 (q := (RX14, TX14, 2)) rfl, fun U hU hWm => ⟨rfl, PTm.mk hU hWm hP hK hD hE hO⟩⟩ rfl rfl hl.1 rfl (lv_room (Nat.le_of_ble_eq_true rfl)) dX15_houseOf_151 ⟨by show _ + 0 ≤ 0; omega, by show _ + 0 ≤ 0; omega⟩) hS (fun q _ h => hFc q h) hFc (fun u t H1 locs ht hvm hw hB hz1 hk1 hS => ?_)
              obtain ⟨F_121, hB1, hq_122⟩ := hB
              obtain ⟨hP, hD, hO, hR⟩ := QTm.back hB1 ht hFc hR (fun q h => by simp only [List.mem_cons, List.not_mem_nil, or_false] at h ⊢; omega)
              generalize H1 = H at hP hS ⊢
              refine W.widen (k := 0) (n := 0) (by omega) (by omega) ?_
              exact W.vret hx hb hr (fun t ht hWm => ⟨⟨(), rfl, trivial, ⟨F_121, (zd - (i - 1 + 1)), QTm.mk ht hP hD hO hR, hq_122, by omega⟩⟩, hS.F ht⟩) hS.2.2 dX15_houseOf_154
          ·
            refine lv_goto (tgt := 103) hx hb dX15_houseOf_123 (by decide) ?_
            refine W.widen (k := 0) (n := 0) (by omega) (by omega) ?_
            exact ih_96 ((i - 1), w5) F_94 (⟨by omega, hb2⟩) (by show (i - 1) < i; omega) hO hR _ _ hP hD hS ls (lv_sub hl [0, 1, 2, 3, 4] rfl)
    ·
      refine lv_aload_n hx hb dX15_houseOf_64 rfl (lv_at hl 3 rfl) ?_
      refine pg_get (ci := 14) (v := .int (nI zd)) (C := RX14) (T := TX14) (N := 2) hx hb hts it_14 hown hK hP hL_dt ha3 rfl 1 (by decide) (hts _ kt_709) (fun _ h9 => h9) rfl dX15_houseOf_65 ?_
      refine lv_goto (tgt := 79) hx hb dX15_houseOf_68 (by decide) ?_
      refine lv_istore (lv' := [(4, .int (nI zd)), (3, .int w3), (0, .ref h0), (1, .ref dt), (2, .ref gt)]) hx hb dX15_houseOf_79 hl (by decide) rfl (fun ls hl => ?_)
      refine lv_iload_n hx hb dX15_houseOf_81 rfl (lv_at hl 1 rfl) ?_
      refine lv_if_ge (tgt := 89) hx hb dX15_houseOf_82 (by decide) (fun c_123 => absurd c_123 (c_58)) (fun c_123 => ?_)
      refine lv_iconst (v := 2) hx hb dX15_houseOf_85 (by decide) ?_
      refine lv_goto (tgt := 90) hx hb dX15_houseOf_86 (by decide) ?_
      refine lv_istore (lv' := [(5, .int 2), (4, .int (nI zd)), (3, .int w3), (0, .ref h0), (1, .ref dt), (2, .ref gt)]) hx hb dX15_houseOf_90 hl (by decide) rfl (fun ls hl => ?_)
      refine lv_iload_n hx hb dX15_houseOf_92 rfl (lv_at hl 2 rfl) ?_
      refine lv_aload_n hx hb dX15_houseOf_93 rfl (lv_at hl 4 rfl) ?_
      refine pg_get (ci := 14) (v := .int (nI zd)) (C := RX14) (T := TX14) (N := 2) hx hb hts it_14 hown hK hP hL_dt ha3 rfl 1 (by decide) (hts _ kt_709) (fun _ h9 => h9) rfl dX15_houseOf_94 ?_
      refine lv_icmp_ne (tgt := 103) hx hb dX15_houseOf_97 (by decide) (fun c_124 => ?_) (fun c_124 => ?_)
      ·
        refine W.widen (k := 0) (n := 0) (by omega) (by omega) ?_
        refine pl_loopm (σ := Nat × Int32) A (dC, dI) cs ty gm L [τ] F 103 6 (fun (i, w5) => [(5, .int w5), (4, .int (nI i)), (0, .ref h0), (1, .ref dt), (2, .ref gt)]) (fun (i, w5) => []) (fun (i, w5) FF => i ≤ zd ∧ FF dt = .inr (14, [.ref rd, .int (nI zd)])) (fun (i, w5) => i) ?_ (zd, 2) F_35 (⟨by omega, ha3⟩) hO hR _ _ hP hD hS ls (lv_sub hl [0, 1, 3, 4, 5] rfl)
        rintro ⟨i, w5⟩ F_125 hv_126 hO hR ih_127 H locs hP hD hS ls hl
        have hl : lv_has ls 6 [(5, .int w5), (4, .int (nI i)), (0, .ref h0), (1, .ref dt), (2, .ref gt)] := hl
        have hv_126 : i ≤ zd ∧ F_125 dt = .inr (14, [.ref rd, .int (nI zd)]) := hv_126
        refine W.eq (g2 := F0 m 103 ls []) rfl ?_
        obtain ⟨hb1, hb2⟩ := hv_126
        refine lv_iload hx hb dX15_houseOf_103 (lv_at hl 1 rfl) ?_
        refine lv_if_le (tgt := 140) hx hb dX15_houseOf_105 (by decide) (fun c_128 => ?_) (fun c_128 => ?_)
        ·
          have hi_129 : i ≤ 0 := (nI_leI (a := i) (b := 0) (by omega) (by omega)).mp c_128
          refine lv_aload_n hx hb dX15_houseOf_140 rfl (lv_at hl 4 rfl) ?_
          refine lv_aload_n hx hb dX15_houseOf_141 rfl (lv_at hl 3 rfl) ?_
          refine pg_get (ci := 14) (v := .ref rd) (C := RX14) (T := TX14) (N := 2) hx hb hts it_14 hown hK hP hL_dt hb2 rfl 0 (by decide) (hts _ kt_710) (fun _ h9 => h9) rfl dX15_houseOf_142 ?_
          refine lv_iload hx hb dX15_houseOf_145 (lv_at hl 1 rfl) ?_
          refine lv_aload_n hx hb dX15_houseOf_147 rfl (lv_at hl 3 rfl) ?_
          refine pg_get (ci := 14) (v := .int (nI zd)) (C := RX14) (T := TX14) (N := 2) hx hb hts it_14 hown hK hP hL_dt hb2 rfl 1 (by decide) (hts _ kt_709) (fun _ h9 => h9) rfl dX15_houseOf_148 ?_
          obtain ⟨hq_130, hq_131⟩ := hW.octs hi_29 ht_30
          have hFc := pg_free hD hS hA
          obtain ⟨z_132, hF_133, hq_134⟩ := hO.txt hL_gt hT_gt
          refine va_callv (va_runV (As := [.ref rd, .int (nI i), .int (nI zd)]) (rest := []) ⟨hx, hb, hml, hown, hts⟩ (s_X14_set l dC dI cs ty gm L H.size F_125 gt τ rt nt rd σ nd i zd hW hL_gt hT_gt hi_29 ht_30 (by omega) (by omega) (by omega)) ⟨callB_of 3 hts (gi kt_941) rfl rfl rfl (hts _ kt_676) (hts _ kt_942) (by decide +kernel) ⟨Nat.le_of_ble_eq_true rfl, Nat.le_of_ble_eq_true rfl⟩, (hts _ kt_943), (hts _ kt_944)⟩ ⟨fun a U g mk q => ⟨q.1, PTm.calling q.2⟩, pg_recv hK hP hL_gt hF_133 (q := (RX14, TX14, 2)) rfl, fun U hU hWm => ⟨rfl, PTm.mk hU hWm hP hK hD hE hO⟩⟩ rfl rfl hl.1 rfl (lv_room (Nat.le_of_ble_eq_true rfl)) dX15_houseOf_151 ⟨by show _ + 0 ≤ 0; omega, by show _ + 0 ≤ 0; omega⟩) hS (fun q _ h => hFc q h) hFc (fun u t H1 locs ht hvm hw hB hz1 hk1 hS => ?_)
          obtain ⟨F_136, hB1, hq_137⟩ := hB
          obtain ⟨hP, hD, hO, hR⟩ := QTm.back hB1 ht hFc hR (fun q h => by simp only [List.mem_cons, List.not_mem_nil, or_false] at h ⊢; omega)
          generalize H1 = H at hP hS ⊢
          refine W.widen (k := 0) (n := 0) (by omega) (by omega) ?_
          exact W.vret hx hb hr (fun t ht hWm => ⟨⟨(), rfl, trivial, ⟨F_136, (zd - i), QTm.mk ht hP hD hO hR, hq_137, by omega⟩⟩, hS.F ht⟩) hS.2.2 dX15_houseOf_154
        ·
          have hi_138 : 0 < i := Nat.not_le.mp (fun q => c_128 ((nI_leI (a := i) (b := 0) (by omega) (by omega)).mpr q))
          have hi1 := posN c_128
          refine lv_iinc (v := (nI (i - 1))) (lv' := [(4, .int (nI (i - 1))), (5, .int w5), (0, .ref h0), (1, .ref dt), (2, .ref gt)]) hx hb dX15_houseOf_108 hl (k := 1) rfl (m1N (by omega)) (by decide) rfl (fun ls hl => ?_)
          refine lv_aload_n hx hb dX15_houseOf_111 rfl (lv_at hl 3 rfl) ?_
          refine pg_get (ci := 14) (v := .ref rd) (C := RX14) (T := TX14) (N := 2) hx hb hts it_14 hown hK hP hL_dt hb2 rfl 0 (by decide) (hts _ kt_710) (fun _ h9 => h9) rfl dX15_houseOf_112 ?_
          refine lv_iload hx hb dX15_houseOf_115 (lv_at hl 0 rfl) ?_
          obtain ⟨hq_139, hq_140⟩ := hW.octs hi_29 ht_30
          obtain ⟨f_141, hF_142, hq_143⟩ := hO.octs hi_29 ht_30
          refine pg_bald hx hb hK hP hi_29 1 hF_142 rfl (vp_in_nI (by omega) (by omega)) dX15_houseOf_117 ?_
          refine lv_topi (fun x_144 ex_144 => ?_)
          obtain rfl : x_144 = f_141 (i - 1) := ex_144.trans (congrArg f_141 (show ((nI (i - 1)) : Int32).toNatClampNeg = (i - 1) from nI_clamp (by omega)))
          refine lv_bipush (v := 46) hx hb dX15_houseOf_118 (by decide) ?_
          refine lv_icmp_eq (tgt := 126) hx hb dX15_houseOf_120 (by decide) (fun c_145 => ?_) (fun c_145 => ?_)
          ·
            obtain ⟨x_146, ex_146⟩ : ∃ y : Int32, y = w5 + Int32.ofInt (-1) := ⟨_, rfl⟩
            refine lv_iinc (v := x_146) (lv' := [(5, .int x_146), (4, .int (nI (i - 1))), (0, .ref h0), (1, .ref dt), (2, .ref gt)]) hx hb dX15_houseOf_126 hl (k := 1) rfl (ex_146.symm) (by decide) rfl (fun ls hl => ?_)
            refine lv_iload hx hb dX15_houseOf_129 (lv_at hl 0 rfl) ?_
            refine lv_if_ne (tgt := 103) hx hb dX15_houseOf_131 (by decide) (fun c_147 => ?_) (fun c_147 => ?_)
            ·
              refine W.widen (k := 0) (n := 0) (by omega) (by omega) ?_
              exact ih_127 ((i - 1), x_146) F_125 (⟨by omega, hb2⟩) (by show (i - 1) < i; omega) hO hR _ _ hP hD hS ls (lv_sub hl [0, 1, 2, 3, 4] rfl)
            ·
              refine lv_iinc (v := (nI (i - 1 + 1))) (lv' := [(4, .int (nI (i - 1 + 1))), (5, .int x_146), (0, .ref h0), (1, .ref dt), (2, .ref gt)]) hx hb dX15_houseOf_134 hl (k := 1) rfl (nI_1 (i - 1)) (by decide) rfl (fun ls hl => ?_)
              refine lv_goto (tgt := 140) hx hb dX15_houseOf_137 (by decide) ?_
              refine lv_aload_n hx hb dX15_houseOf_140 rfl (lv_at hl 4 rfl) ?_
              refine lv_aload_n hx hb dX15_houseOf_141 rfl (lv_at hl 3 rfl) ?_
              refine pg_get (ci := 14) (v := .ref rd) (C := RX14) (T := TX14) (N := 2) hx hb hts it_14 hown hK hP hL_dt hb2 rfl 0 (by decide) (hts _ kt_710) (fun _ h9 => h9) rfl dX15_houseOf_142 ?_
              refine lv_iload hx hb dX15_houseOf_145 (lv_at hl 0 rfl) ?_
              refine lv_aload_n hx hb dX15_houseOf_147 rfl (lv_at hl 3 rfl) ?_
              refine pg_get (ci := 14) (v := .int (nI zd)) (C := RX14) (T := TX14) (N := 2) hx hb hts it_14 hown hK hP hL_dt hb2 rfl 1 (by decide) (hts _ kt_709) (fun _ h9 => h9) rfl dX15_houseOf_148 ?_
              have hFc := pg_free hD hS hA
              obtain ⟨z_148, hF_149, hq_150⟩ := hO.txt hL_gt hT_gt
              refine va_callv (va_runV (As := [.ref rd, .int (nI (i - 1 + 1)), .int (nI zd)]) (rest := []) ⟨hx, hb, hml, hown, hts⟩ (s_X14_set l dC dI cs ty gm L H.size F_125 gt τ rt nt rd σ nd (i - 1 + 1) zd hW hL_gt hT_gt hi_29 ht_30 (by omega) (by omega) (by omega)) ⟨callB_of 3 hts (gi kt_941) rfl rfl rfl (hts _ kt_676) (hts _ kt_942) (by decide +kernel) ⟨Nat.le_of_ble_eq_true rfl, Nat.le_of_ble_eq_true rfl⟩, (hts _ kt_943), (hts _ kt_944)⟩ ⟨fun a U g mk q => ⟨q.1, PTm.calling q.2⟩, pg_recv hK hP hL_gt hF_149 (q := (RX14, TX14, 2)) rfl, fun U hU hWm => ⟨rfl, PTm.mk hU hWm hP hK hD hE hO⟩⟩ rfl rfl hl.1 rfl (lv_room (Nat.le_of_ble_eq_true rfl)) dX15_houseOf_151 ⟨by show _ + 0 ≤ 0; omega, by show _ + 0 ≤ 0; omega⟩) hS (fun q _ h => hFc q h) hFc (fun u t H1 locs ht hvm hw hB hz1 hk1 hS => ?_)
              obtain ⟨F_152, hB1, hq_153⟩ := hB
              obtain ⟨hP, hD, hO, hR⟩ := QTm.back hB1 ht hFc hR (fun q h => by simp only [List.mem_cons, List.not_mem_nil, or_false] at h ⊢; omega)
              generalize H1 = H at hP hS ⊢
              refine W.widen (k := 0) (n := 0) (by omega) (by omega) ?_
              exact W.vret hx hb hr (fun t ht hWm => ⟨⟨(), rfl, trivial, ⟨F_152, (zd - (i - 1 + 1)), QTm.mk ht hP hD hO hR, hq_153, by omega⟩⟩, hS.F ht⟩) hS.2.2 dX15_houseOf_154
          ·
            refine lv_goto (tgt := 103) hx hb dX15_houseOf_123 (by decide) ?_
            refine W.widen (k := 0) (n := 0) (by omega) (by omega) ?_
            exact ih_127 ((i - 1), w5) F_125 (⟨by omega, hb2⟩) (by show (i - 1) < i; omega) hO hR _ _ hP hD hS ls (lv_sub hl [1, 0, 2, 3, 4] rfl)
      ·
        refine lv_iconst (v := 0) hx hb dX15_houseOf_100 (by decide) ?_
        refine lv_istore (lv' := [(4, .int 0), (5, .int 2), (3, .int w3), (0, .ref h0), (1, .ref dt), (2, .ref gt)]) hx hb dX15_houseOf_101 hl (by decide) rfl (fun ls hl => ?_)
        refine W.widen (k := 0) (n := 0) (by omega) (by omega) ?_
        refine pl_loopm (σ := Nat × Int32) A (dC, dI) cs ty gm L [τ] F 103 6 (fun (i, w5) => [(4, .int (nI i)), (5, .int w5), (0, .ref h0), (1, .ref dt), (2, .ref gt)]) (fun (i, w5) => []) (fun (i, w5) FF => i ≤ zd ∧ FF dt = .inr (14, [.ref rd, .int (nI zd)])) (fun (i, w5) => i) ?_ (0, 2) F_35 (⟨by omega, ha3⟩) hO hR _ _ hP hD hS ls (lv_sub hl [0, 1, 3, 4, 5] rfl)
        rintro ⟨i, w5⟩ F_154 hv_155 hO hR ih_156 H locs hP hD hS ls hl
        have hl : lv_has ls 6 [(4, .int (nI i)), (5, .int w5), (0, .ref h0), (1, .ref dt), (2, .ref gt)] := hl
        have hv_155 : i ≤ zd ∧ F_154 dt = .inr (14, [.ref rd, .int (nI zd)]) := hv_155
        refine W.eq (g2 := F0 m 103 ls []) rfl ?_
        obtain ⟨hb1, hb2⟩ := hv_155
        refine lv_iload hx hb dX15_houseOf_103 (lv_at hl 0 rfl) ?_
        refine lv_if_le (tgt := 140) hx hb dX15_houseOf_105 (by decide) (fun c_157 => ?_) (fun c_157 => ?_)
        ·
          have hi_158 : i ≤ 0 := (nI_leI (a := i) (b := 0) (by omega) (by omega)).mp c_157
          refine lv_aload_n hx hb dX15_houseOf_140 rfl (lv_at hl 4 rfl) ?_
          refine lv_aload_n hx hb dX15_houseOf_141 rfl (lv_at hl 3 rfl) ?_
          refine pg_get (ci := 14) (v := .ref rd) (C := RX14) (T := TX14) (N := 2) hx hb hts it_14 hown hK hP hL_dt hb2 rfl 0 (by decide) (hts _ kt_710) (fun _ h9 => h9) rfl dX15_houseOf_142 ?_
          refine lv_iload hx hb dX15_houseOf_145 (lv_at hl 0 rfl) ?_
          refine lv_aload_n hx hb dX15_houseOf_147 rfl (lv_at hl 3 rfl) ?_
          refine pg_get (ci := 14) (v := .int (nI zd)) (C := RX14) (T := TX14) (N := 2) hx hb hts it_14 hown hK hP hL_dt hb2 rfl 1 (by decide) (hts _ kt_709) (fun _ h9 => h9) rfl dX15_houseOf_148 ?_
          obtain ⟨hq_159, hq_160⟩ := hW.octs hi_29 ht_30
          have hFc := pg_free hD hS hA
          obtain ⟨z_161, hF_162, hq_163⟩ := hO.txt hL_gt hT_gt
          refine va_callv (va_runV (As := [.ref rd, .int (nI i), .int (nI zd)]) (rest := []) ⟨hx, hb, hml, hown, hts⟩ (s_X14_set l dC dI cs ty gm L H.size F_154 gt τ rt nt rd σ nd i zd hW hL_gt hT_gt hi_29 ht_30 (by omega) (by omega) (by omega)) ⟨callB_of 3 hts (gi kt_941) rfl rfl rfl (hts _ kt_676) (hts _ kt_942) (by decide +kernel) ⟨Nat.le_of_ble_eq_true rfl, Nat.le_of_ble_eq_true rfl⟩, (hts _ kt_943), (hts _ kt_944)⟩ ⟨fun a U g mk q => ⟨q.1, PTm.calling q.2⟩, pg_recv hK hP hL_gt hF_162 (q := (RX14, TX14, 2)) rfl, fun U hU hWm => ⟨rfl, PTm.mk hU hWm hP hK hD hE hO⟩⟩ rfl rfl hl.1 rfl (lv_room (Nat.le_of_ble_eq_true rfl)) dX15_houseOf_151 ⟨by show _ + 0 ≤ 0; omega, by show _ + 0 ≤ 0; omega⟩) hS (fun q _ h => hFc q h) hFc (fun u t H1 locs ht hvm hw hB hz1 hk1 hS => ?_)
          obtain ⟨F_165, hB1, hq_166⟩ := hB
          obtain ⟨hP, hD, hO, hR⟩ := QTm.back hB1 ht hFc hR (fun q h => by simp only [List.mem_cons, List.not_mem_nil, or_false] at h ⊢; omega)
          generalize H1 = H at hP hS ⊢
          refine W.widen (k := 0) (n := 0) (by omega) (by omega) ?_
          exact W.vret hx hb hr (fun t ht hWm => ⟨⟨(), rfl, trivial, ⟨F_165, (zd - i), QTm.mk ht hP hD hO hR, hq_166, by omega⟩⟩, hS.F ht⟩) hS.2.2 dX15_houseOf_154
        ·
          have hi_167 : 0 < i := Nat.not_le.mp (fun q => c_157 ((nI_leI (a := i) (b := 0) (by omega) (by omega)).mpr q))
          have hi1 := posN c_157
          refine lv_iinc (v := (nI (i - 1))) (lv' := [(4, .int (nI (i - 1))), (5, .int w5), (0, .ref h0), (1, .ref dt), (2, .ref gt)]) hx hb dX15_houseOf_108 hl (k := 0) rfl (m1N (by omega)) (by decide) rfl (fun ls hl => ?_)
          refine lv_aload_n hx hb dX15_houseOf_111 rfl (lv_at hl 3 rfl) ?_
          refine pg_get (ci := 14) (v := .ref rd) (C := RX14) (T := TX14) (N := 2) hx hb hts it_14 hown hK hP hL_dt hb2 rfl 0 (by decide) (hts _ kt_710) (fun _ h9 => h9) rfl dX15_houseOf_112 ?_
          refine lv_iload hx hb dX15_houseOf_115 (lv_at hl 0 rfl) ?_
          obtain ⟨hq_168, hq_169⟩ := hW.octs hi_29 ht_30
          obtain ⟨f_170, hF_171, hq_172⟩ := hO.octs hi_29 ht_30
          refine pg_bald hx hb hK hP hi_29 1 hF_171 rfl (vp_in_nI (by omega) (by omega)) dX15_houseOf_117 ?_
          refine lv_topi (fun x_173 ex_173 => ?_)
          obtain rfl : x_173 = f_170 (i - 1) := ex_173.trans (congrArg f_170 (show ((nI (i - 1)) : Int32).toNatClampNeg = (i - 1) from nI_clamp (by omega)))
          refine lv_bipush (v := 46) hx hb dX15_houseOf_118 (by decide) ?_
          refine lv_icmp_eq (tgt := 126) hx hb dX15_houseOf_120 (by decide) (fun c_174 => ?_) (fun c_174 => ?_)
          ·
            obtain ⟨x_175, ex_175⟩ : ∃ y : Int32, y = w5 + Int32.ofInt (-1) := ⟨_, rfl⟩
            refine lv_iinc (v := x_175) (lv' := [(5, .int x_175), (4, .int (nI (i - 1))), (0, .ref h0), (1, .ref dt), (2, .ref gt)]) hx hb dX15_houseOf_126 hl (k := 1) rfl (ex_175.symm) (by decide) rfl (fun ls hl => ?_)
            refine lv_iload hx hb dX15_houseOf_129 (lv_at hl 0 rfl) ?_
            refine lv_if_ne (tgt := 103) hx hb dX15_houseOf_131 (by decide) (fun c_176 => ?_) (fun c_176 => ?_)
            ·
              refine W.widen (k := 0) (n := 0) (by omega) (by omega) ?_
              exact ih_156 ((i - 1), x_175) F_154 (⟨by omega, hb2⟩) (by show (i - 1) < i; omega) hO hR _ _ hP hD hS ls (lv_sub hl [1, 0, 2, 3, 4] rfl)
            ·
              refine lv_iinc (v := (nI (i - 1 + 1))) (lv' := [(4, .int (nI (i - 1 + 1))), (5, .int x_175), (0, .ref h0), (1, .ref dt), (2, .ref gt)]) hx hb dX15_houseOf_134 hl (k := 1) rfl (nI_1 (i - 1)) (by decide) rfl (fun ls hl => ?_)
              refine lv_goto (tgt := 140) hx hb dX15_houseOf_137 (by decide) ?_
              refine lv_aload_n hx hb dX15_houseOf_140 rfl (lv_at hl 4 rfl) ?_
              refine lv_aload_n hx hb dX15_houseOf_141 rfl (lv_at hl 3 rfl) ?_
              refine pg_get (ci := 14) (v := .ref rd) (C := RX14) (T := TX14) (N := 2) hx hb hts it_14 hown hK hP hL_dt hb2 rfl 0 (by decide) (hts _ kt_710) (fun _ h9 => h9) rfl dX15_houseOf_142 ?_
              refine lv_iload hx hb dX15_houseOf_145 (lv_at hl 0 rfl) ?_
              refine lv_aload_n hx hb dX15_houseOf_147 rfl (lv_at hl 3 rfl) ?_
              refine pg_get (ci := 14) (v := .int (nI zd)) (C := RX14) (T := TX14) (N := 2) hx hb hts it_14 hown hK hP hL_dt hb2 rfl 1 (by decide) (hts _ kt_709) (fun _ h9 => h9) rfl dX15_houseOf_148 ?_
              have hFc := pg_free hD hS hA
              obtain ⟨z_177, hF_178, hq_179⟩ := hO.txt hL_gt hT_gt
              refine va_callv (va_runV (As := [.ref rd, .int (nI (i - 1 + 1)), .int (nI zd)]) (rest := []) ⟨hx, hb, hml, hown, hts⟩ (s_X14_set l dC dI cs ty gm L H.size F_154 gt τ rt nt rd σ nd (i - 1 + 1) zd hW hL_gt hT_gt hi_29 ht_30 (by omega) (by omega) (by omega)) ⟨callB_of 3 hts (gi kt_941) rfl rfl rfl (hts _ kt_676) (hts _ kt_942) (by decide +kernel) ⟨Nat.le_of_ble_eq_true rfl, Nat.le_of_ble_eq_true rfl⟩, (hts _ kt_943), (hts _ kt_944)⟩ ⟨fun a U g mk q => ⟨q.1, PTm.calling q.2⟩, pg_recv hK hP hL_gt hF_178 (q := (RX14, TX14, 2)) rfl, fun U hU hWm => ⟨rfl, PTm.mk hU hWm hP hK hD hE hO⟩⟩ rfl rfl hl.1 rfl (lv_room (Nat.le_of_ble_eq_true rfl)) dX15_houseOf_151 ⟨by show _ + 0 ≤ 0; omega, by show _ + 0 ≤ 0; omega⟩) hS (fun q _ h => hFc q h) hFc (fun u t H1 locs ht hvm hw hB hz1 hk1 hS => ?_)
              obtain ⟨F_181, hB1, hq_182⟩ := hB
              obtain ⟨hP, hD, hO, hR⟩ := QTm.back hB1 ht hFc hR (fun q h => by simp only [List.mem_cons, List.not_mem_nil, or_false] at h ⊢; omega)
              generalize H1 = H at hP hS ⊢
              refine W.widen (k := 0) (n := 0) (by omega) (by omega) ?_
              exact W.vret hx hb hr (fun t ht hWm => ⟨⟨(), rfl, trivial, ⟨F_181, (zd - (i - 1 + 1)), QTm.mk ht hP hD hO hR, hq_182, by omega⟩⟩, hS.F ht⟩) hS.2.2 dX15_houseOf_154
          ·
            refine lv_goto (tgt := 103) hx hb dX15_houseOf_123 (by decide) ?_
            refine W.widen (k := 0) (n := 0) (by omega) (by omega) ?_
            exact ih_156 ((i - 1), w5) F_154 (⟨by omega, hb2⟩) (by show (i - 1) < i; omega) hO hR _ _ hP hD hS ls (lv_sub hl [0, 1, 2, 3, 4] rfl)
  ·
    have hi_183 : j < ze := ltN (N := ze) c_56
    refine lv_aload_n hx hb dX15_houseOf_14 rfl (lv_at hl 2 rfl) ?_
    refine pg_get (ci := 15) (v := .ref so) (C := RX15) (T := TX15) (N := 59) hx hb hts it_15 hown hK hP hL_h0 hF_50 rfl 5 (by decide) (hts _ kt_718) (fun _ h9 => h9) rfl dX15_houseOf_15 ?_
    refine lv_iload hx hb dX15_houseOf_18 (lv_at hl 0 rfl) ?_
    obtain ⟨hi_184, ht_185⟩ := hW.f_so hL_h0 hT_h0
    obtain ⟨hq_186, hq_187⟩ := hW.ints hi_184 ht_185
    obtain ⟨f_188, hF_189⟩ := hO.ints hi_184 ht_185
    refine pg_iald hx hb hK hP hi_184 0 hF_189 rfl (vp_in_nI (by omega) (by omega)) dX15_houseOf_20 ?_
    refine lv_topi (fun x_190 _ => ?_)
    refine lv_iconst (v := 4) hx hb dX15_houseOf_21 (by decide) ?_
    refine lv_icmp_ne (tgt := 54) hx hb dX15_houseOf_22 (by decide) (fun c_191 => ?_) (fun c_191 => ?_)
    ·
      refine lv_iinc (v := (nI (j + 1))) (lv' := [(4, .int (nI (j + 1))), (3, .int w3), (0, .ref h0), (1, .ref dt), (2, .ref gt)]) hx hb dX15_houseOf_54 hl (k := 0) rfl (nI_1 _) (by decide) rfl (fun ls hl => ?_)
      refine lv_goto (tgt := 5) hx hb dX15_houseOf_57 (by decide) ?_
      refine W.widen (k := 0) (n := 0) (by omega) (by omega) ?_
      exact ih_37 ((j + 1), w3) F_35 (⟨by omega, ha2, ha3⟩) (by show 40 - (j + 1) < 40 - j; omega) hO hR _ _ hP hD hS ls (lv_sub hl [0, 1, 2, 3, 4] rfl)
    ·
      refine lv_aload_n hx hb dX15_houseOf_25 rfl (lv_at hl 3 rfl) ?_
      refine lv_aload_n hx hb dX15_houseOf_26 rfl (lv_at hl 2 rfl) ?_
      refine pg_get (ci := 15) (v := .ref na) (C := RX15) (T := TX15) (N := 59) hx hb hts it_15 hown hK hP hL_h0 hF_50 rfl 7 (by decide) (hts _ kt_719) (fun _ h9 => h9) rfl dX15_houseOf_27 ?_
      refine lv_iload hx hb dX15_houseOf_30 (lv_at hl 0 rfl) ?_
      obtain ⟨hi_192, ht_193⟩ := hW.f_na hL_h0 hT_h0
      obtain ⟨f_194, hF_195, hq_196⟩ := hO.rtxj hi_192 ht_193
      obtain ⟨b_197, r_198, hbf_199, hi_200, ht_201⟩ := hq_196 j (by omega)
      refine pg_aald (r := b_197) hx hb hK hP hi_192 7 hF_195 rfl (vp_in_nI (by omega) (by omega)) (show f_194 ((nI j) : Int32).toNatClampNeg = _ from by rw [show ((nI j) : Int32) = nI j from rfl, nI_clamp (by omega)]; exact hbf_199) dX15_houseOf_32 ?_
      obtain ⟨hi_202, ht_203, hq_204⟩ := hW.txt hi_200 ht_201
      obtain ⟨z_205, hF_206, hq_207⟩ := hO.txt hi_200 ht_201
      have hFc := pg_free hD hS hA
      refine va_calli (va_runV (As := [.ref b_197]) (rest := []) ⟨hx, hb, hml, hown, hts⟩ (s_X14_isUnder l dC dI cs ty gm L H.size F_35 dt σ rd nd b_197 (ρ + 4 + j + 100) r_198 60 zd z_205 hW hL_dt hT_dt hi_200 ht_201 ha3 hF_206 (by first | omega | assumption | exact Or.inl rfl) (by first | omega | assumption | exact Or.inl rfl)) ⟨callB_of 1 hts (gi kt_945) rfl rfl rfl (hts _ kt_676) (hts _ kt_946) (by decide +kernel) ⟨Nat.le_of_ble_eq_true rfl, Nat.le_of_ble_eq_true rfl⟩, (hts _ kt_947), (hts _ kt_948)⟩ ⟨fun a U g mk q => ⟨q.1, PTm.calling q.2⟩, pg_recv hK hP hL_dt ha3 (q := (RX14, TX14, 2)) rfl, fun U hU hWm => ⟨rfl, PTm.mk hU hWm hP hK hD hE hO⟩⟩ rfl rfl hl.1 rfl (lv_room (Nat.le_of_ble_eq_true rfl)) dX15_houseOf_33 ⟨by show _ + 0 ≤ 0; omega, by show _ + 0 ≤ 0; omega⟩) hS (fun q _ h => hFc q h) hFc (fun r_208 u t H1 locs ht hvm hw hB hz1 hk1 hS => ?_)
      obtain ⟨F_209, hB1⟩ := hB
      obtain rfl : F_35 = F_209 := (funext (fun a => hB1.2.2.2 a List.not_mem_nil)).symm
      obtain ⟨hP, hD, hO, hR⟩ := QTm.back hB1 ht hFc hR (fun q h => absurd h List.not_mem_nil)
      generalize H1 = H at hP hS ⊢
      have hw : (r_208 = 0 ∨ (r_208 = 1 ∧ z_205 ≤ zd)) := hw
      have hw_210 := hw
      refine lv_if_eq (tgt := 54) hx hb dX15_houseOf_36 (by decide) (fun c_211 => ?_) (fun c_211 => ?_)
      ·
        refine lv_iinc (v := (nI (j + 1))) (lv' := [(4, .int (nI (j + 1))), (3, .int w3), (0, .ref h0), (1, .ref dt), (2, .ref gt)]) hx hb dX15_houseOf_54 hl (k := 0) rfl (nI_1 _) (by decide) rfl (fun ls hl => ?_)
        refine lv_goto (tgt := 5) hx hb dX15_houseOf_57 (by decide) ?_
        refine W.widen (k := 0) (n := 0) (by omega) (by omega) ?_
        exact ih_37 ((j + 1), w3) F_35 (⟨by omega, ha2, ha3⟩) (by show 40 - (j + 1) < 40 - j; omega) hO hR _ _ hP hD hS ls (lv_sub hl [0, 1, 2, 3, 4] rfl)
      ·
        have hun := bit1 hw_210 c_211
        refine lv_iload_n hx hb dX15_houseOf_39 rfl (lv_at hl 1 rfl) ?_
        refine lv_aload_n hx hb dX15_houseOf_40 rfl (lv_at hl 2 rfl) ?_
        refine pg_get (ci := 15) (v := .ref na) (C := RX15) (T := TX15) (N := 59) hx hb hts it_15 hown hK hP hL_h0 hF_50 rfl 7 (by decide) (hts _ kt_719) (fun _ h9 => h9) rfl dX15_houseOf_41 ?_
        refine lv_iload hx hb dX15_houseOf_44 (lv_at hl 0 rfl) ?_
        refine pg_aald (r := b_197) hx hb hK hP hi_192 7 hF_195 rfl (vp_in_nI (by omega) (by omega)) (show f_194 ((nI j) : Int32).toNatClampNeg = _ from by rw [show ((nI j) : Int32) = nI j from rfl, nI_clamp (by omega)]; exact hbf_199) dX15_houseOf_46 ?_
        refine pg_get (ci := 14) (v := .int (nI z_205)) (C := RX14) (T := TX14) (N := 2) hx hb hts it_14 hown hK hP hi_200 hF_206 rfl 1 (by decide) (hts _ kt_709) (fun _ h9 => h9) rfl dX15_houseOf_47 ?_
        refine va_mmax hx hb (by rw [hml]; exact hl.1.symm) hown (hts _ kt_949) (hts _ kt_18) (hts _ kt_19) (hts _ kt_20) (Nat.le_of_ble_eq_true rfl) (Nat.le_of_ble_eq_true rfl) (by show _ ≤ 0; omega) (by show _ ≤ 0; omega) dX15_houseOf_50 ?_
        obtain ⟨km, hkm, ekm⟩ := mxN (b := z_205) ha2 (by omega) (by omega)
        refine lv_topi (fun x_212 ex_212 => ?_)
        obtain rfl : x_212 = (nI km) := ex_212.trans (ekm)
        refine lv_istore_n (lv' := [(3, .int (nI km)), (4, .int (nI j)), (0, .ref h0), (1, .ref dt), (2, .ref gt)]) hx hb dX15_houseOf_53 rfl hl (by decide) rfl (fun ls hl => ?_)
        refine lv_iinc (v := (nI (j + 1))) (lv' := [(4, .int (nI (j + 1))), (3, .int (nI km)), (0, .ref h0), (1, .ref dt), (2, .ref gt)]) hx hb dX15_houseOf_54 hl (k := 1) rfl (nI_1 _) (by decide) rfl (fun ls hl => ?_)
        refine lv_goto (tgt := 5) hx hb dX15_houseOf_57 (by decide) ?_
        refine W.widen (k := 0) (n := 0) (by omega) (by omega) ?_
        exact ih_37 ((j + 1), (nI km)) F_35 (⟨by omega, Or.inr ⟨km, hkm, rfl⟩, ha3⟩) (by show 40 - (j + 1) < 40 - j; omega) hO hR _ _ hP hD hS ls (lv_sub hl [0, 1, 2, 3, 4] rfl)
set_option maxHeartbeats 4000000 in
set_option maxRecDepth 100000 in
theorem s_X15_isAligned (l : Launch) (dC : Nat → ClassId) (dI : Nat → Nat → Nat) (cs : Nat → ClassId) (ty : TyM) (gm : Nat → Nat → Nat) (L : List Nat) (sz : Nat) (F : Nat → va_E) (h0 : Nat) (ρ : Nat) (ta : Nat) (ou : Nat) (so : Nat) (ad : Nat) (na : Nat) (va : Nat) (lc : Nat) (dm : Nat) (tg : Nat) (pe : Nat) (ml : Nat) (bg : Nat) (co : Nat) (sp : Nat) (nb0 : Nat) (nb1 : Nat) (nb2 : Nat) (pl : Nat) (se : Nat) (ke : Nat) (wi : Nat) (hs : Nat) (mo : Nat) (po : Nat) (nu : Nat) (pr : Nat) (sq : Nat) (xa : Nat) (sa : Nat) (n64 : Nat) (m64 : Nat) (ex : Nat) (wh : Nat) (sd : Nat) (tk : Nat) (hd : Nat) (ak : Nat) (ho : Nat) (ot : Nat) (sx : Nat) (s0 : Nat) (s1 : Nat) (s2 : Nat) (nf : Nat) (bd : Nat) (mm : Nat) (zo : Nat) (fm : Nat) (sn : Nat) (hg : Nat) (gc : Nat) (gv : Nat) (ze : Nat) (zt : Nat) (dt : Nat) (σ : Nat) (rd : Nat) (nd : Nat) (du : Nat) (υ : Nat) (ru : Nat) (nu_ : Nat) (x3 : Int32) (hW : WTm ty gm L) (hL_h0 : h0 ∈ L) (hT_h0 : ty h0 = (15, ρ, [ta, ou, so, ad, na, va, lc, dm, tg, pe, ml, bg, co, sp, nb0, nb1, nb2, pl, se, ke, wi, hs, mo, po, nu, pr, sq, xa, sa, n64, m64, ex, wh, sd, tk, hd, ak, ho, ot, sx, s0, s1, s2, nf, bd, mm, zo, fm, sn, hg, gc, gv, ze, zt])) (hL_dt : dt ∈ L) (hT_dt : ty dt = (14, σ, [rd, nd])) (hL_du : du ∈ L) (hT_du : ty du = (14, υ, [ru, nu_])) (hnd : nd ≤ 6000) (hnu : nu_ ≤ 6000) : Met l yX15_isAligned (.code yX15_isAligned cX15_isAligned 4 (some .boolean) :: tb) ({ frames := 4, cells := 0, slots := 0, locals := 119 }) (va_Pc [.ref h0, .ref dt, .ref du, .int x3] (PTm (dC, dI) cs ty gm L F sz)) (va_Qi (fun (r : Int32) (_ : Unit) => (r = 0 ∨ r = 1)) (fun _ T9 => ∃ F2 : Nat → va_E, QTm (dC, dI) cs ty gm L [ρ + 29, ρ + 30] F F2 (va_A (va_pl L F) sz) T9) (va_A (va_pl L F) sz)) 0 0 (va_A (va_pl L F) sz) := by
  refine Met.ofW (cc := cX15_isAligned) (maxL := 4) (ret := (some .boolean)) (by decide) rfl ?_
  intro p e s m args below meth c s₁ B hml hv
  obtain ⟨rfl, hsz, hP, hK, hD0, hE, hO⟩ := hv
  have hx := B.exec
  have hb := B.bytes
  have hr := B.returns
  have hts : ∀ w ∈ tb, w.before _ s = true := fun w h => atoms_spec (ws := .code yX15_isAligned cX15_isAligned 4 (some .boolean) :: tb) B.pre w (List.mem_cons_of_mem _ h)
  have hown : s.vm.findClass RX15 = some m.cls := findClass_of_methodNamed B.named
  have hlocks := B.notSynchronized
  subst hsz
  have hD := hD0.self (sz := s.heap.size)
  generalize hAe : va_A (va_pl L F) s.heap.size = A at hD ⊢
  have hA : ∀ q : Nat, s.heap.size ≤ q → A q := fun q h => by rw [← hAe]; exact Or.inr h
  have hS : va_S A s.heap s.heap [] := va_S.rf
  have hR : FR ty [ρ + 29, ρ + 30] F F := FR.refl
  have hl := lv_entry ([.ref h0, .ref dt, .ref du, .int x3]) (n := 4) (Nat.le_of_ble_eq_true rfl)
  rw [lg_entry_eq]
  generalize (lg_sl ([.ref h0, .ref dt, .ref du, .int x3]) ++ List.replicate (4 - (lg_sl ([.ref h0, .ref dt, .ref du, .int x3])).length) Slot.unset).toArray = ls at hl ⊢
  have hl : lv_has ls 4 [(0, .ref h0), (1, .ref dt), (2, .ref du), (3, .int x3)] := hl
  obtain ⟨hq_23, hq_24, hq_25, hq_26, hq_27, hgO, hgA, hgB, hq_28⟩ := hW.sc hL_h0 hT_h0
  obtain ⟨hi_29, ht_30, hq_31⟩ := hW.txt hL_dt hT_dt
  obtain ⟨hi_32, ht_33, hq_34⟩ := hW.txt hL_du hT_du
  obtain ⟨hi_35, r_21, ht_36⟩ := hW.f_ho hL_h0 hT_h0
  obtain ⟨hi_37, ht_38, hq_39⟩ := hW.txt hi_35 ht_36
  obtain ⟨hi_40, r_22, ht_41⟩ := hW.f_ot hL_h0 hT_h0
  obtain ⟨hi_42, ht_43, hq_44⟩ := hW.txt hi_40 ht_41
  refine lv_iload_n hx hb dX15_isAligned_0 rfl (lv_at hl 3 rfl) ?_
  refine lv_if_eq (tgt := 10) hx hb dX15_isAligned_1 (by decide) (fun c_45 => ?_) (fun c_45 => ?_)
  ·
    refine lv_aload_n hx hb dX15_isAligned_10 rfl (lv_at hl 0 rfl) ?_
    refine lv_aload_n hx hb dX15_isAligned_11 rfl (lv_at hl 1 rfl) ?_
    refine lv_aload_n hx hb dX15_isAligned_12 rfl (lv_at hl 0 rfl) ?_
    obtain ⟨v14_46, v15_47, v17_48, v18_49, v19_50, v20_51, v21_52, v22_53, v33_54, v52_55, v53_56, v54_57, hF_58, hq_59, hq_60, hq_61, hq_62, hq_63⟩ := hO.mod hL_h0 hT_h0
    refine pg_get (ci := 15) (v := .ref ho) (C := RX15) (T := TX15) (N := 59) hx hb hts it_15 hown hK hP hL_h0 hF_58 rfl 57 (by decide) (hts _ kt_950) (fun _ h9 => h9) rfl dX15_isAligned_13 ?_
    obtain ⟨z_64, hF_65, hq_66⟩ := hO.txt hL_dt hT_dt
    have hFc := pg_free hD hS hA
    refine va_callv (va_runV (As := [.ref dt, .ref ho]) (rest := []) ⟨hx, hb, hml, hown, hts⟩ (s_X15_houseOf l dC dI cs ty gm L s.heap.size F h0 ρ ta ou so ad na va lc dm tg pe ml bg co sp nb0 nb1 nb2 pl se ke wi hs mo po nu pr sq xa sa n64 m64 ex wh sd tk hd ak ho ot sx s0 s1 s2 nf bd mm zo fm sn hg gc gv ze zt dt σ rd nd ho (ρ + 29) r_21 6000 z_64 hW hL_h0 hT_h0 hL_dt hT_dt hi_35 ht_36 hF_65 (by first | omega | assumption | exact Or.inl rfl) (by first | omega | assumption | exact Or.inl rfl)) ⟨callB_of 2 hts (gi kt_951) rfl rfl rfl (hts _ kt_669) (hts _ kt_952) (by decide +kernel) ⟨Nat.le_of_ble_eq_true rfl, Nat.le_of_ble_eq_true rfl⟩, (hts _ kt_953), (hts _ kt_954)⟩ ⟨fun a U g mk q => ⟨q.1, PTm.calling q.2⟩, pg_recv hK hP hL_h0 hF_58 (q := (RX15, TX15, 59)) rfl, fun U hU hWm => ⟨rfl, PTm.mk hU hWm hP hK hD hE hO⟩⟩ rfl rfl hl.1 rfl (lv_room (Nat.le_of_ble_eq_true rfl)) dX15_isAligned_16 ⟨by show _ + 0 ≤ 0; omega, by show _ + 0 ≤ 0; omega⟩) hS (fun q _ h => hFc q h) hFc (fun u t H1 locs ht hvm hw hB hz1 hk1 hS => ?_)
    obtain ⟨F_68, y2_69, hB1, hq_70, hq_71⟩ := hB
    obtain ⟨hP, hD, hO, hR⟩ := QTm.back hB1 ht hFc hR (fun q h => by simp only [List.mem_cons, List.not_mem_nil, or_false] at h ⊢; omega)
    have hF_72 : F_68 h0 = .inr (15, (.ref ta) :: (.int (nI zt)) :: (.int (nI zo)) :: (.int (nI ze)) :: (.ref ou) :: (.ref so) :: (.ref ad) :: (.ref na) :: (.ref va) :: (.ref lc) :: (.ref dm) :: (.int (nI fm)) :: (.int (nI sn)) :: (.ref tg) :: (.int v14_46) :: (.int v15_47) :: (.ref pe) :: (.int v17_48) :: (.int v18_49) :: (.int v19_50) :: (.int v20_51) :: (.int v21_52) :: (.int v22_53) :: (.ref ml) :: (.ref bg) :: (.ref co) :: (.ref sp) :: (.ref nb0) :: (.ref nb1) :: (.ref nb2) :: (.int (nI nf)) :: (.int (nI bd)) :: (.int (nI mm)) :: (.int v33_54) :: (.ref pl) :: (.ref se) :: (.ref ke) :: (.ref wi) :: (.ref hs) :: (.ref mo) :: (.ref po) :: (.ref nu) :: (.ref pr) :: (.ref sq) :: (.ref xa) :: (.ref sa) :: (.ref n64) :: (.ref m64) :: (.ref ex) :: (.ref wh) :: (.ref sd) :: (.ref tk) :: (.int v52_55) :: (.int v53_56) :: (.int v54_57) :: (.ref hd) :: (.ref ak) :: (.ref ho) :: (.ref ot) :: []) := (hB1.2.2.2 h0 (by rw [hT_h0]; simp)).trans hF_58
    generalize H1 = H at hP hS ⊢
    refine lv_aload_n hx hb dX15_isAligned_19 rfl (lv_at hl 0 rfl) ?_
    refine lv_aload_n hx hb dX15_isAligned_20 rfl (lv_at hl 2 rfl) ?_
    refine lv_aload_n hx hb dX15_isAligned_21 rfl (lv_at hl 0 rfl) ?_
    refine pg_get (ci := 15) (v := .ref ot) (C := RX15) (T := TX15) (N := 59) hx hb hts it_15 hown hK hP hL_h0 hF_72 rfl 58 (by decide) (hts _ kt_955) (fun _ h9 => h9) rfl dX15_isAligned_22 ?_
    obtain ⟨z_73, hF_74, hq_75⟩ := hO.txt hL_du hT_du
    have hFc := pg_free hD hS hA
    refine va_callv (va_runV (As := [.ref du, .ref ot]) (rest := []) ⟨hx, hb, hml, hown, hts⟩ (s_X15_houseOf l dC dI cs ty gm L H.size F_68 h0 ρ ta ou so ad na va lc dm tg pe ml bg co sp nb0 nb1 nb2 pl se ke wi hs mo po nu pr sq xa sa n64 m64 ex wh sd tk hd ak ho ot sx s0 s1 s2 nf bd mm zo fm sn hg gc gv ze zt du υ ru nu_ ot (ρ + 30) r_22 6000 z_73 hW hL_h0 hT_h0 hL_du hT_du hi_40 ht_41 hF_74 (by first | omega | assumption | exact Or.inl rfl) (by first | omega | assumption | exact Or.inl rfl)) ⟨callB_of 2 hts (gi kt_951) rfl rfl rfl (hts _ kt_669) (hts _ kt_952) (by decide +kernel) ⟨Nat.le_of_ble_eq_true rfl, Nat.le_of_ble_eq_true rfl⟩, (hts _ kt_953), (hts _ kt_954)⟩ ⟨fun a U g mk q => ⟨q.1, PTm.calling q.2⟩, pg_recv hK hP hL_h0 hF_72 (q := (RX15, TX15, 59)) rfl, fun U hU hWm => ⟨rfl, PTm.mk hU hWm hP hK hD hE hO⟩⟩ rfl rfl hl.1 rfl (lv_room (Nat.le_of_ble_eq_true rfl)) dX15_isAligned_25 ⟨by show _ + 0 ≤ 0; omega, by show _ + 0 ≤ 0; omega⟩) hS (fun q _ h => hFc q h) hFc (fun u t H1 locs ht hvm hw hB hz1 hk1 hS => ?_)
    obtain ⟨F_77, y2_78, hB1, hq_79, hq_80⟩ := hB
    obtain ⟨hP, hD, hO, hR⟩ := QTm.back hB1 ht hFc hR (fun q h => by simp only [List.mem_cons, List.not_mem_nil, or_false] at h ⊢; omega)
    have hF_81 : F_77 h0 = .inr (15, (.ref ta) :: (.int (nI zt)) :: (.int (nI zo)) :: (.int (nI ze)) :: (.ref ou) :: (.ref so) :: (.ref ad) :: (.ref na) :: (.ref va) :: (.ref lc) :: (.ref dm) :: (.int (nI fm)) :: (.int (nI sn)) :: (.ref tg) :: (.int v14_46) :: (.int v15_47) :: (.ref pe) :: (.int v17_48) :: (.int v18_49) :: (.int v19_50) :: (.int v20_51) :: (.int v21_52) :: (.int v22_53) :: (.ref ml) :: (.ref bg) :: (.ref co) :: (.ref sp) :: (.ref nb0) :: (.ref nb1) :: (.ref nb2) :: (.int (nI nf)) :: (.int (nI bd)) :: (.int (nI mm)) :: (.int v33_54) :: (.ref pl) :: (.ref se) :: (.ref ke) :: (.ref wi) :: (.ref hs) :: (.ref mo) :: (.ref po) :: (.ref nu) :: (.ref pr) :: (.ref sq) :: (.ref xa) :: (.ref sa) :: (.ref n64) :: (.ref m64) :: (.ref ex) :: (.ref wh) :: (.ref sd) :: (.ref tk) :: (.int v52_55) :: (.int v53_56) :: (.int v54_57) :: (.ref hd) :: (.ref ak) :: (.ref ho) :: (.ref ot) :: []) := (hB1.2.2.2 h0 (by rw [hT_h0]; simp)).trans hF_72
    have hF_82 : F_77 ho = .inr (14, [.ref r_21, .int (nI y2_69)]) := (hB1.2.2.2 ho (by rw [ht_36]; simp)).trans hq_70
    generalize H1 = H at hP hS ⊢
    refine lv_aload_n hx hb dX15_isAligned_28 rfl (lv_at hl 0 rfl) ?_
    refine pg_get (ci := 15) (v := .ref ho) (C := RX15) (T := TX15) (N := 59) hx hb hts it_15 hown hK hP hL_h0 hF_81 rfl 57 (by decide) (hts _ kt_950) (fun _ h9 => h9) rfl dX15_isAligned_29 ?_
    refine lv_aload_n hx hb dX15_isAligned_32 rfl (lv_at hl 0 rfl) ?_
    refine pg_get (ci := 15) (v := .ref ot) (C := RX15) (T := TX15) (N := 59) hx hb hts it_15 hown hK hP hL_h0 hF_81 rfl 58 (by decide) (hts _ kt_955) (fun _ h9 => h9) rfl dX15_isAligned_33 ?_
    have hFc := pg_free hD hS hA
    refine va_calli (va_runV (As := [.ref ot]) (rest := []) ⟨hx, hb, hml, hown, hts⟩ (s_X14_is_ l dC dI cs ty gm L H.size F_77 ho (ρ + 29) r_21 6000 ot (ρ + 30) r_22 6000 hW hi_35 ht_36 hi_40 ht_41) ⟨callB_of 1 hts (gi kt_720) rfl rfl rfl (hts _ kt_676) (hts _ kt_721) (by decide +kernel) ⟨Nat.le_of_ble_eq_true rfl, Nat.le_of_ble_eq_true rfl⟩, (hts _ kt_722), (hts _ kt_723)⟩ ⟨fun a U g mk q => ⟨q.1, PTm.calling q.2⟩, pg_recv hK hP hi_35 hF_82 (q := (RX14, TX14, 2)) rfl, fun U hU hWm => ⟨rfl, PTm.mk hU hWm hP hK hD hE hO⟩⟩ rfl rfl hl.1 rfl (lv_room (Nat.le_of_ble_eq_true rfl)) dX15_isAligned_36 ⟨by show _ + 0 ≤ 0; omega, by show _ + 0 ≤ 0; omega⟩) hS (fun q _ h => hFc q h) hFc (fun r_83 u t H1 locs ht hvm hw hB hz1 hk1 hS => ?_)
    obtain ⟨F_84, hB1⟩ := hB
    obtain rfl : F_77 = F_84 := (funext (fun a => hB1.2.2.2 a List.not_mem_nil)).symm
    obtain ⟨hP, hD, hO, hR⟩ := QTm.back hB1 ht hFc hR (fun q h => absurd h List.not_mem_nil)
    generalize H1 = H at hP hS ⊢
    have hw : (r_83 = 0 ∨ r_83 = 1) := hw
    have hw_85 := hw
    refine W.widen (k := 0) (n := 0) (by omega) (by omega) ?_
    exact W.zret (v := r_83) (ty := .boolean) hx hb hr (bitN hw_85) (fun t ht hWm => ⟨⟨r_83, (), rfl, hw_85, ⟨F_77, QTm.mk ht hP hD hO hR⟩⟩, hS.F ht⟩) hS.2.2 dX15_isAligned_39
  ·
    refine lv_aload_n hx hb dX15_isAligned_4 rfl (lv_at hl 1 rfl) ?_
    refine lv_aload_n hx hb dX15_isAligned_5 rfl (lv_at hl 2 rfl) ?_
    have hFc := pg_free hD hS hA
    obtain ⟨z_86, hF_87, hq_88⟩ := hO.txt hL_dt hT_dt
    refine va_calli (va_runV (As := [.ref du]) (rest := []) ⟨hx, hb, hml, hown, hts⟩ (s_X14_is_ l dC dI cs ty gm L s.heap.size F dt σ rd nd du υ ru nu_ hW hL_dt hT_dt hL_du hT_du) ⟨callB_of 1 hts (gi kt_720) rfl rfl rfl (hts _ kt_676) (hts _ kt_721) (by decide +kernel) ⟨Nat.le_of_ble_eq_true rfl, Nat.le_of_ble_eq_true rfl⟩, (hts _ kt_722), (hts _ kt_723)⟩ ⟨fun a U g mk q => ⟨q.1, PTm.calling q.2⟩, pg_recv hK hP hL_dt hF_87 (q := (RX14, TX14, 2)) rfl, fun U hU hWm => ⟨rfl, PTm.mk hU hWm hP hK hD hE hO⟩⟩ rfl rfl hl.1 rfl (lv_room (Nat.le_of_ble_eq_true rfl)) dX15_isAligned_6 ⟨by show _ + 0 ≤ 0; omega, by show _ + 0 ≤ 0; omega⟩) hS (fun q _ h => hFc q h) hFc (fun r_89 u t H1 locs ht hvm hw hB hz1 hk1 hS => ?_)
    obtain ⟨F_90, hB1⟩ := hB
    obtain rfl : F = F_90 := (funext (fun a => hB1.2.2.2 a List.not_mem_nil)).symm
    obtain ⟨hP, hD, hO, hR⟩ := QTm.back hB1 ht hFc hR (fun q h => absurd h List.not_mem_nil)
    generalize H1 = H at hP hS ⊢
    have hw : (r_89 = 0 ∨ r_89 = 1) := hw
    have hw_91 := hw
    refine W.widen (k := 0) (n := 0) (by omega) (by omega) ?_
    exact W.zret (v := r_89) (ty := .boolean) hx hb hr (bitN hw_91) (fun t ht hWm => ⟨⟨r_89, (), rfl, hw_91, ⟨F, QTm.mk ht hP hD hO hR⟩⟩, hS.F ht⟩) hS.2.2 dX15_isAligned_9
set_option maxHeartbeats 4000000 in
set_option maxRecDepth 100000 in
theorem s_X15_wantedOf (l : Launch) (dC : Nat → ClassId) (dI : Nat → Nat → Nat) (cs : Nat → ClassId) (ty : TyM) (gm : Nat → Nat → Nat) (L : List Nat) (sz : Nat) (F : Nat → va_E) (h0 : Nat) (ρ : Nat) (ta : Nat) (ou : Nat) (so : Nat) (ad : Nat) (na : Nat) (va : Nat) (lc : Nat) (dm : Nat) (tg : Nat) (pe : Nat) (ml : Nat) (bg : Nat) (co : Nat) (sp : Nat) (nb0 : Nat) (nb1 : Nat) (nb2 : Nat) (pl : Nat) (se : Nat) (ke : Nat) (wi : Nat) (hs : Nat) (mo : Nat) (po : Nat) (nu : Nat) (pr : Nat) (sq : Nat) (xa : Nat) (sa : Nat) (n64 : Nat) (m64 : Nat) (ex : Nat) (wh : Nat) (sd : Nat) (tk : Nat) (hd : Nat) (ak : Nat) (ho : Nat) (ot : Nat) (sx : Nat) (s0 : Nat) (s1 : Nat) (s2 : Nat) (nf : Nat) (bd : Nat) (mm : Nat) (zo : Nat) (fm : Nat) (sn : Nat) (hg : Nat) (gc : Nat) (gv : Nat) (ze : Nat) (zt : Nat) (dt : Nat) (σ : Nat) (rd : Nat) (nd : Nat) (zd : Nat) (hW : WTm ty gm L) (hL_h0 : h0 ∈ L) (hT_h0 : ty h0 = (15, ρ, [ta, ou, so, ad, na, va, lc, dm, tg, pe, ml, bg, co, sp, nb0, nb1, nb2, pl, se, ke, wi, hs, mo, po, nu, pr, sq, xa, sa, n64, m64, ex, wh, sd, tk, hd, ak, ho, ot, sx, s0, s1, s2, nf, bd, mm, zo, fm, sn, hg, gc, gv, ze, zt])) (hL_dt : dt ∈ L) (hT_dt : ty dt = (14, σ, [rd, nd])) (hFd : F dt = .inr (14, [.ref rd, .int (nI zd)])) (hzd : zd ≤ 5000) (hzn : zd ≤ nd) (hsr : σ ≠ ρ + 24) : Met l yX15_wantedOf (.code yX15_wantedOf cX15_wantedOf 5 (some .int) :: tb) ({ frames := 6, cells := 0, slots := 0, locals := 132 }) (va_Pc [.ref h0, .ref dt] (PTEm (dC, dI) cs ty gm L F sz [])) (va_Qi (fun (r : Int32) (_ : Unit) => (r = (-1) ∨ r = (-2) ∨ ∃ j : Nat, j < 40 ∧ r = nI j)) (fun _ T9 => ∃ F2 : Nat → va_E, QTm (dC, dI) cs ty gm L [ρ + 24] F F2 (va_A (va_pl L F) sz) T9) (va_A (va_pl L F) sz)) 0 0 (va_A (va_pl L F) sz) := by
  refine Met.ofW (cc := cX15_wantedOf) (maxL := 5) (ret := (some .int)) (by decide) rfl ?_
  intro p e s m args below meth c s₁ B hml hv
  obtain ⟨rfl, ⟨hsz, hP, hK, hD0, hE, hO⟩, hG, hX⟩ := hv
  have hx := B.exec
  have hb := B.bytes
  have hr := B.returns
  have hts : ∀ w ∈ tb, w.before _ s = true := fun w h => atoms_spec (ws := .code yX15_wantedOf cX15_wantedOf 5 (some .int) :: tb) B.pre w (List.mem_cons_of_mem _ h)
  have hown : s.vm.findClass RX15 = some m.cls := findClass_of_methodNamed B.named
  have hlocks := B.notSynchronized
  subst hsz
  have hD := hD0.self (sz := s.heap.size)
  generalize hAe : va_A (va_pl L F) s.heap.size = A at hD hG hX ⊢
  have hA : ∀ q : Nat, s.heap.size ≤ q → A q := fun q h => by rw [← hAe]; exact Or.inr h
  have hS : va_S A s.heap s.heap [] := va_S.rf
  have hR : FR ty [ρ + 24] F F := FR.refl
  have hl := lv_entry ([.ref h0, .ref dt]) (n := 5) (Nat.le_of_ble_eq_true rfl)
  rw [lg_entry_eq]
  generalize (lg_sl ([.ref h0, .ref dt]) ++ List.replicate (5 - (lg_sl ([.ref h0, .ref dt])).length) Slot.unset).toArray = ls at hl ⊢
  have hl : lv_has ls 5 [(0, .ref h0), (1, .ref dt)] := hl
  obtain ⟨hq_23, hq_24, hq_25, hq_26, hq_27, hgO, hgA, hgB, hq_28⟩ := hW.sc hL_h0 hT_h0
  obtain ⟨hi_29, ht_30, hq_31⟩ := hW.txt hL_dt hT_dt
  obtain ⟨hi_32, r_18, ht_33⟩ := hW.f_wh hL_h0 hT_h0
  obtain ⟨hi_34, ht_35, hq_36⟩ := hW.txt hi_32 ht_33
  refine lv_aload_n hx hb dX15_wantedOf_0 rfl (lv_at hl 0 rfl) ?_
  obtain ⟨v14_37, v15_38, v17_39, v18_40, v19_41, v20_42, v21_43, v22_44, v33_45, v52_46, v53_47, v54_48, hF_49, hq_50, hq_51, hq_52, hq_53, hq_54⟩ := hO.mod hL_h0 hT_h0
  refine pg_get (ci := 15) (v := .ref wh) (C := RX15) (T := TX15) (N := 59) hx hb hts it_15 hown hK hP hL_h0 hF_49 rfl 49 (by decide) (hts _ kt_924) (fun _ h9 => h9) rfl dX15_wantedOf_1 ?_
  refine lv_iconst (v := 0) hx hb dX15_wantedOf_4 (by decide) ?_
  obtain ⟨z_55, hF_56, hq_57⟩ := hO.txt hi_32 ht_33
  refine pg_put (ci := 14) (v := .int 0) (ty := .int) (C := RX14) (T := TX14) (N := 2) hx hb hts it_14 tyX14 tyX14_ok nmX14 hown hK hP hD hS hi_32 hF_56 rfl 1 (by decide) (hts _ kt_709) (fun _ h9 => h9) rfl (by decide +kernel) (rfl) (rfl) (Nat.le_of_ble_eq_true rfl) dX15_wantedOf_5 (fun H locs hP hD hS => ?_)
  obtain ⟨F_58, he_59, hP, hD, hO, hR⟩ : ∃ G, G = va_up F wh (.inr (14, [.ref r_18, .int 0])) ∧ va_P (dC, dI) vwCl (va_pl L G) H ∧ va_D A (va_pl L G) ∧ OKm cs ty gm L G ∧ FR ty [ρ + 24] F G := ⟨_, rfl, hP, hD, hO.up (shm.txt ht_33 ⟨0, rfl, (by first | omega | assumption | exact Or.inl rfl | exact Or.inr rfl)⟩), hR.up ht_33 (by simp)⟩
  have hF_60 : F_58 wh = .inr (14, [.ref r_18, .int 0]) := by rw [he_59]; exact up_self
  have hF_61 : F_58 h0 = .inr (15, (.ref ta) :: (.int (nI zt)) :: (.int (nI zo)) :: (.int (nI ze)) :: (.ref ou) :: (.ref so) :: (.ref ad) :: (.ref na) :: (.ref va) :: (.ref lc) :: (.ref dm) :: (.int (nI fm)) :: (.int (nI sn)) :: (.ref tg) :: (.int v14_37) :: (.int v15_38) :: (.ref pe) :: (.int v17_39) :: (.int v18_40) :: (.int v19_41) :: (.int v20_42) :: (.int v21_43) :: (.int v22_44) :: (.ref ml) :: (.ref bg) :: (.ref co) :: (.ref sp) :: (.ref nb0) :: (.ref nb1) :: (.ref nb2) :: (.int (nI nf)) :: (.int (nI bd)) :: (.int (nI mm)) :: (.int v33_45) :: (.ref pl) :: (.ref se) :: (.ref ke) :: (.ref wi) :: (.ref hs) :: (.ref mo) :: (.ref po) :: (.ref nu) :: (.ref pr) :: (.ref sq) :: (.ref xa) :: (.ref sa) :: (.ref n64) :: (.ref m64) :: (.ref ex) :: (.ref wh) :: (.ref sd) :: (.ref tk) :: (.int v52_46) :: (.int v53_47) :: (.int v54_48) :: (.ref hd) :: (.ref ak) :: (.ref ho) :: (.ref ot) :: []) := by rw [he_59, up_ne (ne_ty hT_h0 ht_33 (by simp))]; exact hF_49
  refine lv_iconst (v := 0) hx hb dX15_wantedOf_8 (by decide) ?_
  refine lv_istore_n (lv' := [(2, .int 0), (0, .ref h0), (1, .ref dt)]) hx hb dX15_wantedOf_9 rfl hl (by decide) rfl (fun ls hl => ?_)
  refine W.widen (k := 0) (n := 0) (by omega) (by omega) ?_
  have hF_63 : F h0 = .inr (15, (.ref ta) :: (.int (nI zt)) :: (.int (nI zo)) :: (.int (nI ze)) :: (.ref ou) :: (.ref so) :: (.ref ad) :: (.ref na) :: (.ref va) :: (.ref lc) :: (.ref dm) :: (.int (nI fm)) :: (.int (nI sn)) :: (.ref tg) :: (.int v14_37) :: (.int v15_38) :: (.ref pe) :: (.int v17_39) :: (.int v18_40) :: (.int v19_41) :: (.int v20_42) :: (.int v21_43) :: (.int v22_44) :: (.ref ml) :: (.ref bg) :: (.ref co) :: (.ref sp) :: (.ref nb0) :: (.ref nb1) :: (.ref nb2) :: (.int (nI nf)) :: (.int (nI bd)) :: (.int (nI mm)) :: (.int v33_45) :: (.ref pl) :: (.ref se) :: (.ref ke) :: (.ref wi) :: (.ref hs) :: (.ref mo) :: (.ref po) :: (.ref nu) :: (.ref pr) :: (.ref sq) :: (.ref xa) :: (.ref sa) :: (.ref n64) :: (.ref m64) :: (.ref ex) :: (.ref wh) :: (.ref sd) :: (.ref tk) :: (.int v52_46) :: (.int v53_47) :: (.int v54_48) :: (.ref hd) :: (.ref ak) :: (.ref ho) :: (.ref ot) :: []) := (hR h0 (by rw [hT_h0]; simp)).symm.trans hF_61
  refine pl_loopm (σ := Nat) A (dC, dI) cs ty gm L [ρ + 24] F 10 5 (fun j => [(2, .int (nI j)), (0, .ref h0), (1, .ref dt)]) (fun j => []) (fun j FF => j ≤ 7 ∧ FF wh = .inr (14, [.ref r_18, .int (nI j)])) (fun j => 7 - j) ?_ 0 F_58 (⟨by omega, hF_60⟩) hO hR _ _ hP hD hS ls (lv_sub hl [0, 1, 2] rfl)
  rintro j F_62 hv_64 hO hR ih_65 H locs hP hD hS ls hl
  have hl : lv_has ls 5 [(2, .int (nI j)), (0, .ref h0), (1, .ref dt)] := hl
  have hv_64 : j ≤ 7 ∧ F_62 wh = .inr (14, [.ref r_18, .int (nI j)]) := hv_64
  refine W.eq (g2 := F0 m 10 ls []) rfl ?_
  have hF_66 : F_62 h0 = .inr (15, (.ref ta) :: (.int (nI zt)) :: (.int (nI zo)) :: (.int (nI ze)) :: (.ref ou) :: (.ref so) :: (.ref ad) :: (.ref na) :: (.ref va) :: (.ref lc) :: (.ref dm) :: (.int (nI fm)) :: (.int (nI sn)) :: (.ref tg) :: (.int v14_37) :: (.int v15_38) :: (.ref pe) :: (.int v17_39) :: (.int v18_40) :: (.int v19_41) :: (.int v20_42) :: (.int v21_43) :: (.int v22_44) :: (.ref ml) :: (.ref bg) :: (.ref co) :: (.ref sp) :: (.ref nb0) :: (.ref nb1) :: (.ref nb2) :: (.int (nI nf)) :: (.int (nI bd)) :: (.int (nI mm)) :: (.int v33_45) :: (.ref pl) :: (.ref se) :: (.ref ke) :: (.ref wi) :: (.ref hs) :: (.ref mo) :: (.ref po) :: (.ref nu) :: (.ref pr) :: (.ref sq) :: (.ref xa) :: (.ref sa) :: (.ref n64) :: (.ref m64) :: (.ref ex) :: (.ref wh) :: (.ref sd) :: (.ref tk) :: (.int v52_46) :: (.int v53_47) :: (.int v54_48) :: (.ref hd) :: (.ref ak) :: (.ref ho) :: (.ref ot) :: []) := (hR h0 (by rw [hT_h0]; simp)).trans hF_63
  obtain ⟨ha1, ha2⟩ := hv_64
  have hFd2 : F_62 dt = .inr (14, [.ref rd, .int (nI zd)]) := (hR dt (by rw [hT_dt]; simp; exact hsr)).trans hFd
  refine lv_iload_n hx hb dX15_wantedOf_10 rfl (lv_at hl 0 rfl) ?_
  refine lv_bipush (v := 7) hx hb dX15_wantedOf_11 (by decide) ?_
  refine lv_icmp_ge (tgt := 36) hx hb dX15_wantedOf_13 (by decide) (fun c_67 => ?_) (fun c_67 => ?_)
  ·
    have hi_68 : 7 ≤ j := leN (N := 7) c_67
    refine lv_aload_n hx hb dX15_wantedOf_36 rfl (lv_at hl 1 rfl) ?_
    refine pg_get (ci := 15) (v := .ref wh) (C := RX15) (T := TX15) (N := 59) hx hb hts it_15 hown hK hP hL_h0 hF_66 rfl 49 (by decide) (hts _ kt_924) (fun _ h9 => h9) rfl dX15_wantedOf_37 ?_
    refine lv_aload_n hx hb dX15_wantedOf_40 rfl (lv_at hl 2 rfl) ?_
    refine pg_get (ci := 14) (v := .ref rd) (C := RX14) (T := TX14) (N := 2) hx hb hts it_14 hown hK hP hL_dt hFd2 rfl 0 (by decide) (hts _ kt_710) (fun _ h9 => h9) rfl dX15_wantedOf_41 ?_
    refine lv_iconst (v := 0) hx hb dX15_wantedOf_44 (by decide) ?_
    refine lv_aload_n hx hb dX15_wantedOf_45 rfl (lv_at hl 2 rfl) ?_
    refine pg_get (ci := 14) (v := .int (nI zd)) (C := RX14) (T := TX14) (N := 2) hx hb hts it_14 hown hK hP hL_dt hFd2 rfl 1 (by decide) (hts _ kt_709) (fun _ h9 => h9) rfl dX15_wantedOf_46 ?_
    refine W.eq (g2 := F0 m 49 ls [.int (nI zd), .int (nI 0), .ref rd, .ref wh]) rfl ?_
    obtain ⟨hq_69, hq_70⟩ := hW.octs hi_29 ht_30
    have hFc := pg_free hD hS hA
    refine va_callv (va_runV (As := [.ref rd, .int (nI 0), .int (nI zd)]) (rest := []) ⟨hx, hb, hml, hown, hts⟩ (s_X14_add_ l dC dI cs ty gm L H.size F_62 wh (ρ + 24) r_18 6000 rd σ nd j 0 zd hW hi_32 ht_33 hi_29 ht_30 ha2 (by first | omega | assumption | exact Or.inl rfl) (by first | omega | assumption | exact Or.inl rfl) (by first | omega | assumption | exact Or.inl rfl)) ⟨callB_of 3 hts (gi kt_675) rfl rfl rfl (hts _ kt_676) (hts _ kt_956) (by decide +kernel) ⟨Nat.le_of_ble_eq_true rfl, Nat.le_of_ble_eq_true rfl⟩, (hts _ kt_678), (hts _ kt_679)⟩ ⟨fun a U g mk q => ⟨q.1, PTm.calling q.2⟩, pg_recv hK hP hi_32 ha2 (q := (RX14, TX14, 2)) rfl, fun U hU hWm => ⟨rfl, PTm.mk hU hWm hP hK hD hE hO⟩⟩ rfl rfl hl.1 rfl (lv_room (Nat.le_of_ble_eq_true rfl)) dX15_wantedOf_49 ⟨by show _ + 0 ≤ 0; omega, by show _ + 0 ≤ 0; omega⟩) hS (fun q _ h => hFc q h) hFc (fun u t H1 locs ht hvm hw hB hz1 hk1 hS => ?_)
    obtain ⟨F_72, hB1, hq_73⟩ := hB
    obtain ⟨hP, hD, hO, hR⟩ := QTm.back hB1 ht hFc hR (fun q h => by simp only [List.mem_cons, List.not_mem_nil, or_false] at h ⊢; omega)
    have hF_74 : F_72 h0 = .inr (15, (.ref ta) :: (.int (nI zt)) :: (.int (nI zo)) :: (.int (nI ze)) :: (.ref ou) :: (.ref so) :: (.ref ad) :: (.ref na) :: (.ref va) :: (.ref lc) :: (.ref dm) :: (.int (nI fm)) :: (.int (nI sn)) :: (.ref tg) :: (.int v14_37) :: (.int v15_38) :: (.ref pe) :: (.int v17_39) :: (.int v18_40) :: (.int v19_41) :: (.int v20_42) :: (.int v21_43) :: (.int v22_44) :: (.ref ml) :: (.ref bg) :: (.ref co) :: (.ref sp) :: (.ref nb0) :: (.ref nb1) :: (.ref nb2) :: (.int (nI nf)) :: (.int (nI bd)) :: (.int (nI mm)) :: (.int v33_45) :: (.ref pl) :: (.ref se) :: (.ref ke) :: (.ref wi) :: (.ref hs) :: (.ref mo) :: (.ref po) :: (.ref nu) :: (.ref pr) :: (.ref sq) :: (.ref xa) :: (.ref sa) :: (.ref n64) :: (.ref m64) :: (.ref ex) :: (.ref wh) :: (.ref sd) :: (.ref tk) :: (.int v52_46) :: (.int v53_47) :: (.int v54_48) :: (.ref hd) :: (.ref ak) :: (.ref ho) :: (.ref ot) :: []) := (hB1.2.2.2 h0 (by rw [hT_h0]; simp)).trans hF_66
    generalize H1 = H at hP hS ⊢
    refine lv_aload_n hx hb dX15_wantedOf_52 rfl (lv_at hl 1 rfl) ?_
    refine lv_aload_n hx hb dX15_wantedOf_53 rfl (lv_at hl 1 rfl) ?_
    refine pg_get (ci := 15) (v := .ref wh) (C := RX15) (T := TX15) (N := 59) hx hb hts it_15 hown hK hP hL_h0 hF_74 rfl 49 (by decide) (hts _ kt_924) (fun _ h9 => h9) rfl dX15_wantedOf_54 ?_
    have hFc := pg_free hD hS hA
    refine va_calli (va_runV (As := [.ref wh]) (rest := []) ⟨hx, hb, hml, hown, hts⟩ (s_X15_isTrouble l dC dI cs ty gm L H.size F_72 h0 ρ ta ou so ad na va lc dm tg pe ml bg co sp nb0 nb1 nb2 pl se ke wi hs mo po nu pr sq xa sa n64 m64 ex wh sd tk hd ak ho ot sx s0 s1 s2 nf bd mm zo fm sn hg gc gv ze zt wh (ρ + 24) r_18 6000 hW hL_h0 hT_h0 hi_32 ht_33) ⟨callB_of 1 hts (gi kt_736) rfl rfl rfl (hts _ kt_669) (hts _ kt_737) (by decide +kernel) ⟨Nat.le_of_ble_eq_true rfl, Nat.le_of_ble_eq_true rfl⟩, (hts _ kt_738), (hts _ kt_739)⟩ ⟨fun a U g mk q => ⟨q.1, PTm.calling q.2⟩, pg_recv hK hP hL_h0 hF_74 (q := (RX15, TX15, 59)) rfl, fun U hU hWm => ⟨rfl, PTm.mk hU hWm hP hK hD hE hO⟩⟩ rfl rfl hl.1 rfl (lv_room (Nat.le_of_ble_eq_true rfl)) dX15_wantedOf_57 ⟨by show _ + 0 ≤ 0; omega, by show _ + 0 ≤ 0; omega⟩) hS (fun q _ h => hFc q h) hFc (fun r_75 u t H1 locs ht hvm hw hB hz1 hk1 hS => ?_)
    obtain ⟨F_76, hB1⟩ := hB
    obtain rfl : F_72 = F_76 := (funext (fun a => hB1.2.2.2 a List.not_mem_nil)).symm
    obtain ⟨hP, hD, hO, hR⟩ := QTm.back hB1 ht hFc hR (fun q h => absurd h List.not_mem_nil)
    generalize H1 = H at hP hS ⊢
    have hw : (r_75 = 0 ∨ r_75 = 1) := hw
    have hw_77 := hw
    refine lv_if_eq (tgt := 66) hx hb dX15_wantedOf_60 (by decide) (fun c_78 => ?_) (fun c_78 => ?_)
    ·
      refine lv_iconst (v := (-1)) hx hb dX15_wantedOf_66 (by decide) ?_
      refine lv_istore_n (lv' := [(2, .int (-1)), (0, .ref h0), (1, .ref dt)]) hx hb dX15_wantedOf_67 rfl hl (by decide) rfl (fun ls hl => ?_)
      refine lv_iconst (v := 0) hx hb dX15_wantedOf_68 (by decide) ?_
      refine lv_istore_n (lv' := [(3, .int 0), (2, .int (-1)), (0, .ref h0), (1, .ref dt)]) hx hb dX15_wantedOf_69 rfl hl (by decide) rfl (fun ls hl => ?_)
      refine lv_iconst (v := 0) hx hb dX15_wantedOf_70 (by decide) ?_
      refine lv_istore (lv' := [(4, .int 0), (3, .int 0), (2, .int (-1)), (0, .ref h0), (1, .ref dt)]) hx hb dX15_wantedOf_71 hl (by decide) rfl (fun ls hl => ?_)
      refine W.widen (k := 0) (n := 0) (by omega) (by omega) ?_
      have hF_80 : F h0 = .inr (15, (.ref ta) :: (.int (nI zt)) :: (.int (nI zo)) :: (.int (nI ze)) :: (.ref ou) :: (.ref so) :: (.ref ad) :: (.ref na) :: (.ref va) :: (.ref lc) :: (.ref dm) :: (.int (nI fm)) :: (.int (nI sn)) :: (.ref tg) :: (.int v14_37) :: (.int v15_38) :: (.ref pe) :: (.int v17_39) :: (.int v18_40) :: (.int v19_41) :: (.int v20_42) :: (.int v21_43) :: (.int v22_44) :: (.ref ml) :: (.ref bg) :: (.ref co) :: (.ref sp) :: (.ref nb0) :: (.ref nb1) :: (.ref nb2) :: (.int (nI nf)) :: (.int (nI bd)) :: (.int (nI mm)) :: (.int v33_45) :: (.ref pl) :: (.ref se) :: (.ref ke) :: (.ref wi) :: (.ref hs) :: (.ref mo) :: (.ref po) :: (.ref nu) :: (.ref pr) :: (.ref sq) :: (.ref xa) :: (.ref sa) :: (.ref n64) :: (.ref m64) :: (.ref ex) :: (.ref wh) :: (.ref sd) :: (.ref tk) :: (.int v52_46) :: (.int v53_47) :: (.int v54_48) :: (.ref hd) :: (.ref ak) :: (.ref ho) :: (.ref ot) :: []) := (hR h0 (by rw [hT_h0]; simp)).symm.trans hF_74
      refine pl_loopm (σ := Nat × Int32 × Int32) A (dC, dI) cs ty gm L [ρ + 24] F 73 5 (fun (k, w2, w3) => [(4, .int (nI k)), (3, .int w3), (2, .int w2), (0, .ref h0), (1, .ref dt)]) (fun (k, w2, w3) => []) (fun (k, w2, w3) _ => k ≤ 40 ∧ (w2 = (-1) ∨ ∃ i : Nat, i < 40 ∧ w2 = nI i)) (fun (k, w2, w3) => 40 - k) ?_ (0, (-1), 0) F_72 (⟨by omega, Or.inl rfl⟩) hO hR _ _ hP hD hS ls (lv_sub hl [0, 1, 2, 3, 4] rfl)
      rintro ⟨k, w2, w3⟩ F_79 hv_81 hO hR ih_82 H locs hP hD hS ls hl
      have hl : lv_has ls 5 [(4, .int (nI k)), (3, .int w3), (2, .int w2), (0, .ref h0), (1, .ref dt)] := hl
      have hv_81 : k ≤ 40 ∧ (w2 = (-1) ∨ ∃ i : Nat, i < 40 ∧ w2 = nI i) := hv_81
      refine W.eq (g2 := F0 m 73 ls []) rfl ?_
      have hF_83 : F_79 h0 = .inr (15, (.ref ta) :: (.int (nI zt)) :: (.int (nI zo)) :: (.int (nI ze)) :: (.ref ou) :: (.ref so) :: (.ref ad) :: (.ref na) :: (.ref va) :: (.ref lc) :: (.ref dm) :: (.int (nI fm)) :: (.int (nI sn)) :: (.ref tg) :: (.int v14_37) :: (.int v15_38) :: (.ref pe) :: (.int v17_39) :: (.int v18_40) :: (.int v19_41) :: (.int v20_42) :: (.int v21_43) :: (.int v22_44) :: (.ref ml) :: (.ref bg) :: (.ref co) :: (.ref sp) :: (.ref nb0) :: (.ref nb1) :: (.ref nb2) :: (.int (nI nf)) :: (.int (nI bd)) :: (.int (nI mm)) :: (.int v33_45) :: (.ref pl) :: (.ref se) :: (.ref ke) :: (.ref wi) :: (.ref hs) :: (.ref mo) :: (.ref po) :: (.ref nu) :: (.ref pr) :: (.ref sq) :: (.ref xa) :: (.ref sa) :: (.ref n64) :: (.ref m64) :: (.ref ex) :: (.ref wh) :: (.ref sd) :: (.ref tk) :: (.int v52_46) :: (.int v53_47) :: (.int v54_48) :: (.ref hd) :: (.ref ak) :: (.ref ho) :: (.ref ot) :: []) := (hR h0 (by rw [hT_h0]; simp)).trans hF_80
      obtain ⟨hv1, hv2⟩ := hv_81
      refine lv_iload hx hb dX15_wantedOf_73 (lv_at hl 0 rfl) ?_
      refine lv_aload_n hx hb dX15_wantedOf_75 rfl (lv_at hl 3 rfl) ?_
      refine pg_get (ci := 15) (v := .int (nI ze)) (C := RX15) (T := TX15) (N := 59) hx hb hts it_15 hown hK hP hL_h0 hF_83 rfl 3 (by decide) (hts _ kt_724) (fun _ h9 => h9) rfl dX15_wantedOf_76 ?_
      refine lv_icmp_ge (tgt := 141) hx hb dX15_wantedOf_79 (by decide) (fun c_84 => ?_) (fun c_84 => ?_)
      ·
        have hi_85 : ze ≤ k := leN (N := ze) c_84
        refine lv_iload_n hx hb dX15_wantedOf_141 rfl (lv_at hl 1 rfl) ?_
        refine lv_iconst (v := 1) hx hb dX15_wantedOf_142 (by decide) ?_
        refine lv_icmp_ne (tgt := 150) hx hb dX15_wantedOf_143 (by decide) (fun c_86 => ?_) (fun c_86 => ?_)
        ·
          refine lv_iconst (v := (-1)) hx hb dX15_wantedOf_150 (by decide) ?_
          refine W.widen (k := 0) (n := 0) (by omega) (by omega) ?_
          exact W.iret (v := (-1)) hx hb hr (fun t ht hWm => ⟨⟨(-1), (), rfl, Or.inl rfl, ⟨F_79, QTm.mk ht hP hD hO hR⟩⟩, hS.F ht⟩) hS.2.2 dX15_wantedOf_151
        ·
          refine lv_iload_n hx hb dX15_wantedOf_146 rfl (lv_at hl 2 rfl) ?_
          refine lv_goto (tgt := 151) hx hb dX15_wantedOf_147 (by decide) ?_
          refine W.widen (k := 0) (n := 0) (by omega) (by omega) ?_
          exact W.iret (v := w2) hx hb hr (fun t ht hWm => ⟨⟨w2, (), rfl, (hv2.imp id Or.inr), ⟨F_79, QTm.mk ht hP hD hO hR⟩⟩, hS.F ht⟩) hS.2.2 dX15_wantedOf_151
      ·
        have hi_87 : k < ze := ltN (N := ze) c_84
        refine lv_aload_n hx hb dX15_wantedOf_82 rfl (lv_at hl 3 rfl) ?_
        refine lv_iload hx hb dX15_wantedOf_83 (lv_at hl 0 rfl) ?_
        refine lv_iconst (v := 0) hx hb dX15_wantedOf_85 (by decide) ?_
        refine lv_aload_n hx hb dX15_wantedOf_86 rfl (lv_at hl 3 rfl) ?_
        refine pg_get (ci := 15) (v := .ref wh) (C := RX15) (T := TX15) (N := 59) hx hb hts it_15 hown hK hP hL_h0 hF_83 rfl 49 (by decide) (hts _ kt_924) (fun _ h9 => h9) rfl dX15_wantedOf_87 ?_
        have hFc := pg_free hD hS hA
        refine va_calli (va_runV (As := [.int (nI k), .int 0, .ref wh]) (rest := []) ⟨hx, hb, hml, hown, hts⟩ (s_X15_isOf l dC dI cs ty gm L H.size F_79 h0 ρ ta ou so ad na va lc dm tg pe ml bg co sp nb0 nb1 nb2 pl se ke wi hs mo po nu pr sq xa sa n64 m64 ex wh sd tk hd ak ho ot sx s0 s1 s2 nf bd mm zo fm sn hg gc gv ze zt k wh (ρ + 24) r_18 6000 0 hW hL_h0 hT_h0 hi_32 ht_33 (by first | omega | assumption | exact Or.inl rfl)) ⟨callB_of 3 hts (gi kt_725) rfl rfl rfl (hts _ kt_669) (hts _ kt_726) (by decide +kernel) ⟨Nat.le_of_ble_eq_true rfl, Nat.le_of_ble_eq_true rfl⟩, (hts _ kt_727), (hts _ kt_728)⟩ ⟨fun a U g mk q => ⟨q.1, PTm.calling q.2⟩, pg_recv hK hP hL_h0 hF_83 (q := (RX15, TX15, 59)) rfl, fun U hU hWm => ⟨rfl, PTm.mk hU hWm hP hK hD hE hO⟩⟩ rfl rfl hl.1 rfl (lv_room (Nat.le_of_ble_eq_true rfl)) dX15_wantedOf_90 ⟨by show _ + 0 ≤ 0; omega, by show _ + 0 ≤ 0; omega⟩) hS (fun q _ h => hFc q h) hFc (fun r_88 u t H1 locs ht hvm hw hB hz1 hk1 hS => ?_)
        obtain ⟨F_89, hB1⟩ := hB
        obtain rfl : F_79 = F_89 := (funext (fun a => hB1.2.2.2 a List.not_mem_nil)).symm
        obtain ⟨hP, hD, hO, hR⟩ := QTm.back hB1 ht hFc hR (fun q h => absurd h List.not_mem_nil)
        generalize H1 = H at hP hS ⊢
        have hw : (r_88 = 0 ∨ r_88 = 1) := hw
        have hw_90 := hw
        refine lv_if_eq (tgt := 135) hx hb dX15_wantedOf_93 (by decide) (fun c_91 => ?_) (fun c_91 => ?_)
        ·
          refine lv_iinc (v := (nI (k + 1))) (lv' := [(4, .int (nI (k + 1))), (3, .int w3), (2, .int w2), (0, .ref h0), (1, .ref dt)]) hx hb dX15_wantedOf_135 hl (k := 0) rfl (nI_1 _) (by decide) rfl (fun ls hl => ?_)
          refine lv_goto (tgt := 73) hx hb dX15_wantedOf_138 (by decide) ?_
          refine W.widen (k := 0) (n := 0) (by omega) (by omega) ?_
          exact ih_82 ((k + 1), w2, w3) F_79 (⟨by omega, hv2⟩) (by show 40 - (k + 1) < 40 - k; omega) hO hR _ _ hP hD hS ls (lv_sub hl [0, 1, 2, 3, 4] rfl)
        ·
          refine lv_aload_n hx hb dX15_wantedOf_96 rfl (lv_at hl 3 rfl) ?_
          refine pg_get (ci := 15) (v := .ref va) (C := RX15) (T := TX15) (N := 59) hx hb hts it_15 hown hK hP hL_h0 hF_83 rfl 8 (by decide) (hts _ kt_732) (fun _ h9 => h9) rfl dX15_wantedOf_97 ?_
          refine lv_iload hx hb dX15_wantedOf_100 (lv_at hl 0 rfl) ?_
          obtain ⟨hi_92, ht_93⟩ := hW.f_va hL_h0 hT_h0
          obtain ⟨f_94, hF_95, hq_96⟩ := hO.rtxj hi_92 ht_93
          obtain ⟨b_97, r_98, hbf_99, hi_100, ht_101⟩ := hq_96 k (by omega)
          refine pg_aald (r := b_97) hx hb hK hP hi_92 7 hF_95 rfl (vp_in_nI (by omega) (by omega)) (show f_94 ((nI k) : Int32).toNatClampNeg = _ from by rw [show ((nI k) : Int32) = nI k from rfl, nI_clamp (by omega)]; exact hbf_99) dX15_wantedOf_102 ?_
          obtain ⟨hi_102, ht_103, hq_104⟩ := hW.txt hi_100 ht_101
          obtain ⟨z_105, hF_106, hq_107⟩ := hO.txt hi_100 ht_101
          refine pg_get (ci := 14) (v := .ref r_98) (C := RX14) (T := TX14) (N := 2) hx hb hts it_14 hown hK hP hi_100 hF_106 rfl 0 (by decide) (hts _ kt_710) (fun _ h9 => h9) rfl dX15_wantedOf_103 ?_
          refine lv_iconst (v := 0) hx hb dX15_wantedOf_106 (by decide) ?_
          refine lv_aload_n hx hb dX15_wantedOf_107 rfl (lv_at hl 3 rfl) ?_
          refine pg_get (ci := 15) (v := .ref va) (C := RX15) (T := TX15) (N := 59) hx hb hts it_15 hown hK hP hL_h0 hF_83 rfl 8 (by decide) (hts _ kt_732) (fun _ h9 => h9) rfl dX15_wantedOf_108 ?_
          refine lv_iload hx hb dX15_wantedOf_111 (lv_at hl 0 rfl) ?_
          obtain ⟨b_108, r_109, hbf_110, hi_111, ht_112⟩ := hq_96 k (by omega)
          refine pg_aald (r := b_108) hx hb hK hP hi_92 7 hF_95 rfl (vp_in_nI (by omega) (by omega)) (show f_94 ((nI k) : Int32).toNatClampNeg = _ from by rw [show ((nI k) : Int32) = nI k from rfl, nI_clamp (by omega)]; exact hbf_110) dX15_wantedOf_113 ?_
          obtain ⟨hi_113, ht_114, hq_115⟩ := hW.txt hi_111 ht_112
          obtain ⟨z_116, hF_117, hq_118⟩ := hO.txt hi_111 ht_112
          refine pg_get (ci := 14) (v := .int (nI z_116)) (C := RX14) (T := TX14) (N := 2) hx hb hts it_14 hown hK hP hi_111 hF_117 rfl 1 (by decide) (hts _ kt_709) (fun _ h9 => h9) rfl dX15_wantedOf_114 ?_
          obtain ⟨q_119, v_120, hr_q_119, hX_q_119⟩ := hG.2.2 ("PostGateModel", 571, "v=DMARC1", [118, 61, 68, 77, 65, 82, 67, 49]) (by decide +kernel)
          have hX_q_119 : SXc q_119 v_120 8 (cct [118, 61, 68, 77, 65, 82, 67, 49]) A s s.heap := hX_q_119
          obtain ⟨xo_q_119, xc_q_119, xv_q_119, xt_q_119, xn_q_119⟩ := id hX_q_119
          have hr_q_119 : vk_R "PostGateModel" 571 "v=DMARC1" q_119 s := hr_q_119
          refine va_ldcwS hx hb hown hr_q_119 dX15_wantedOf_117 ?_
          refine W.eq (g2 := F0 m 120 ls [.ref q_119, .int (nI z_116), .int (nI 0), .ref r_98]) rfl ?_
          obtain ⟨hq_121, hq_122⟩ := hW.octs hi_102 ht_103
          have hFc := pg_free hD hS hA
          refine va_calli (va_runS (As := [.ref r_98, .int (nI 0), .int (nI z_116), .ref q_119]) (rest := []) ⟨hx, hb, hml, hown, hts⟩ (s_X15_begins l dC dI cs ty gm L H.size F_79 r_98 (ρ + 50 + k + 100) 700 q_119 v_120 8 (cct [118, 61, 68, 77, 65, 82, 67, 49]) 0 z_116 hW hi_102 ht_103 (by first | omega | assumption | exact Or.inl rfl) (by first | omega | assumption | exact Or.inl rfl)) ⟨callB_of 4 hts (gi kt_733) rfl rfl rfl (hts _ kt_669) (hts _ kt_734) (by decide +kernel) ⟨Nat.le_of_ble_eq_true rfl, Nat.le_of_ble_eq_true rfl⟩, (hts _ kt_735)⟩ ⟨fun a U g mk q => ⟨q.1, PTEm.calling q.2⟩, fun U hU hWm => ⟨rfl, PTEm.mk hU hWm hP hK hD hE hO hG (fun x hx => by rw [List.mem_singleton] at hx; subst hx; exact hX_q_119) hS hFc⟩⟩ rfl rfl hl.1 rfl (lv_room (Nat.le_of_ble_eq_true rfl)) dX15_wantedOf_120 ⟨by show _ + 0 ≤ 0; omega, by show _ + 0 ≤ 0; omega⟩) hS (fun q _ h => hFc q h) hFc (fun r_123 u t H1 locs ht hvm hw hB hz1 hk1 hS => ?_)
          obtain ⟨F_124, hB1⟩ := hB
          obtain rfl : F_79 = F_124 := (funext (fun a => hB1.2.2.2 a List.not_mem_nil)).symm
          obtain ⟨hP, hD, hO, hR⟩ := QTm.back hB1 ht hFc hR (fun q h => absurd h List.not_mem_nil)
          generalize H1 = H at hP hS ⊢
          have hw : ((r_123 = 1 ∧ bgP (gA (F_79 r_98)) 0 z_116 (cct [118, 61, 68, 77, 65, 82, 67, 49]) 8) ∨ (r_123 = 0 ∧ ¬ bgP (gA (F_79 r_98)) 0 z_116 (cct [118, 61, 68, 77, 65, 82, 67, 49]) 8)) := hw
          have hw_125 := hw
          refine lv_if_ne (tgt := 129) hx hb dX15_wantedOf_123 (by decide) (fun c_126 => ?_) (fun c_126 => ?_)
          ·
            refine lv_iload hx hb dX15_wantedOf_129 (lv_at hl 0 rfl) ?_
            refine lv_istore_n (lv' := [(2, .int (nI k)), (4, .int (nI k)), (3, .int w3), (0, .ref h0), (1, .ref dt)]) hx hb dX15_wantedOf_131 rfl hl (by decide) rfl (fun ls hl => ?_)
            obtain ⟨x_127, ex_127⟩ : ∃ y : Int32, y = w3 + Int32.ofInt 1 := ⟨_, rfl⟩
            refine lv_iinc (v := x_127) (lv' := [(3, .int x_127), (2, .int (nI k)), (4, .int (nI k)), (0, .ref h0), (1, .ref dt)]) hx hb dX15_wantedOf_132 hl (k := 2) rfl (ex_127.symm) (by decide) rfl (fun ls hl => ?_)
            refine lv_iinc (v := (nI (k + 1))) (lv' := [(4, .int (nI (k + 1))), (3, .int x_127), (2, .int (nI k)), (0, .ref h0), (1, .ref dt)]) hx hb dX15_wantedOf_135 hl (k := 2) rfl (nI_1 _) (by decide) rfl (fun ls hl => ?_)
            refine lv_goto (tgt := 73) hx hb dX15_wantedOf_138 (by decide) ?_
            refine W.widen (k := 0) (n := 0) (by omega) (by omega) ?_
            exact ih_82 ((k + 1), (nI k), x_127) F_79 (⟨by omega, Or.inr ⟨k, by omega, rfl⟩⟩) (by show 40 - (k + 1) < 40 - k; omega) hO hR _ _ hP hD hS ls (lv_sub hl [0, 1, 2, 3, 4] rfl)
          ·
            refine lv_goto (tgt := 135) hx hb dX15_wantedOf_126 (by decide) ?_
            refine lv_iinc (v := (nI (k + 1))) (lv' := [(4, .int (nI (k + 1))), (3, .int w3), (2, .int w2), (0, .ref h0), (1, .ref dt)]) hx hb dX15_wantedOf_135 hl (k := 0) rfl (nI_1 _) (by decide) rfl (fun ls hl => ?_)
            refine lv_goto (tgt := 73) hx hb dX15_wantedOf_138 (by decide) ?_
            refine W.widen (k := 0) (n := 0) (by omega) (by omega) ?_
            exact ih_82 ((k + 1), w2, w3) F_79 (⟨by omega, hv2⟩) (by show 40 - (k + 1) < 40 - k; omega) hO hR _ _ hP hD hS ls (lv_sub hl [0, 1, 2, 3, 4] rfl)
    ·
      refine lv_bipush (v := (-2)) hx hb dX15_wantedOf_63 (by decide) ?_
      refine W.widen (k := 0) (n := 0) (by omega) (by omega) ?_
      exact W.iret (v := (-2)) hx hb hr (fun t ht hWm => ⟨⟨(-2), (), rfl, Or.inr (Or.inl rfl), ⟨F_72, QTm.mk ht hP hD hO hR⟩⟩, hS.F ht⟩) hS.2.2 dX15_wantedOf_65
  ·
    have hi_128 : j < 7 := ltN (N := 7) c_67
    refine lv_aload_n hx hb dX15_wantedOf_16 rfl (lv_at hl 1 rfl) ?_
    refine pg_get (ci := 15) (v := .ref wh) (C := RX15) (T := TX15) (N := 59) hx hb hts it_15 hown hK hP hL_h0 hF_66 rfl 49 (by decide) (hts _ kt_924) (fun _ h9 => h9) rfl dX15_wantedOf_17 ?_
    obtain ⟨q_129, v_130, hr_q_129, hX_q_129⟩ := hG.2.2 ("PostGateModel", 569, "_dmarc.", [95, 100, 109, 97, 114, 99, 46]) (by decide +kernel)
    have hX_q_129 : SXc q_129 v_130 7 (cct [95, 100, 109, 97, 114, 99, 46]) A s s.heap := hX_q_129
    obtain ⟨xo_q_129, xc_q_129, xv_q_129, xt_q_129, xn_q_129⟩ := id hX_q_129
    have hr_q_129 : vk_R "PostGateModel" 569 "_dmarc." q_129 s := hr_q_129
    refine va_ldcwS hx hb hown hr_q_129 dX15_wantedOf_20 ?_
    refine lv_iload_n hx hb dX15_wantedOf_23 rfl (lv_at hl 0 rfl) ?_
    have hFc := pg_free hD hS hA
    refine va_calli (va_runV (As := [.int (nI j)]) (rest := [.ref wh]) ⟨hx, hb, hml, hown, hts⟩ (m_J0_charAt_5068e l dC dI cs ty gm L H.size F_62 q_129 v_130 7 (cct [95, 100, 109, 97, 114, 99, 46]) j hW (by first | omega | assumption | exact Or.inl rfl)) ⟨callB_of 1 hts (gi kt_75) rfl rfl rfl (hts _ kt_51) (hts _ kt_693) (by decide +kernel) ⟨Nat.le_of_ble_eq_true rfl, Nat.le_of_ble_eq_true rfl⟩, (hts _ kt_77), (hts _ kt_78)⟩ ⟨fun a U g mk q => ⟨q.1, PTEm.calling q.2⟩, sx_recv hX_q_129.sx hS, fun U hU hWm => ⟨rfl, PTEm.mk hU hWm hP hK hD hE hO hG (fun x hx => by rw [List.mem_singleton] at hx; subst hx; exact hX_q_129) hS hFc⟩⟩ rfl rfl hl.1 rfl (lv_room (Nat.le_of_ble_eq_true rfl)) dX15_wantedOf_24 ⟨by show _ + 0 ≤ 0; omega, by show _ + 0 ≤ 0; omega⟩) hS (fun q _ h => hFc q h) hFc (fun r_131 u t H1 locs ht hvm hw hB hz1 hk1 hS => ?_)
    obtain ⟨F_132, hB1⟩ := hB
    obtain rfl : F_62 = F_132 := (funext (fun a => hB1.2.2.2 a List.not_mem_nil)).symm
    obtain ⟨hP, hD, hO, hR⟩ := QTm.back hB1 ht hFc hR (fun q h => absurd h List.not_mem_nil)
    generalize H1 = H at hP hS ⊢
    have hw : r_131 = chv ((cct [95, 100, 109, 97, 114, 99, 46]) j) := hw
    subst hw
    have hFc := pg_free hD hS hA
    refine va_callv (va_runV (As := [.int (chv ((cct [95, 100, 109, 97, 114, 99, 46]) j))]) (rest := []) ⟨hx, hb, hml, hown, hts⟩ (s_X14_add l dC dI cs ty gm L H.size F_62 wh (ρ + 24) r_18 6000 j (chv ((cct [95, 100, 109, 97, 114, 99, 46]) j)) hW hi_32 ht_33 ha2 (by first | omega | assumption | exact Or.inl rfl)) ⟨callB_of 1 hts (gi kt_711) rfl rfl rfl (hts _ kt_676) (hts _ kt_712) (by decide +kernel) ⟨Nat.le_of_ble_eq_true rfl, Nat.le_of_ble_eq_true rfl⟩, (hts _ kt_713), (hts _ kt_714)⟩ ⟨fun a U g mk q => ⟨q.1, PTm.calling q.2⟩, pg_recv hK hP hi_32 ha2 (q := (RX14, TX14, 2)) rfl, fun U hU hWm => ⟨rfl, PTm.mk hU hWm hP hK hD hE hO⟩⟩ rfl rfl hl.1 rfl (lv_room (Nat.le_of_ble_eq_true rfl)) dX15_wantedOf_27 ⟨by show _ + 0 ≤ 0; omega, by show _ + 0 ≤ 0; omega⟩) hS (fun q _ h => hFc q h) hFc (fun u t H1 locs ht hvm hw hB hz1 hk1 hS => ?_)
    obtain ⟨F_134, hB1, hq_135⟩ := hB
    obtain ⟨hP, hD, hO, hR⟩ := QTm.back hB1 ht hFc hR (fun q h => by simp only [List.mem_cons, List.not_mem_nil, or_false] at h ⊢; omega)
    have hF_136 : F_134 h0 = .inr (15, (.ref ta) :: (.int (nI zt)) :: (.int (nI zo)) :: (.int (nI ze)) :: (.ref ou) :: (.ref so) :: (.ref ad) :: (.ref na) :: (.ref va) :: (.ref lc) :: (.ref dm) :: (.int (nI fm)) :: (.int (nI sn)) :: (.ref tg) :: (.int v14_37) :: (.int v15_38) :: (.ref pe) :: (.int v17_39) :: (.int v18_40) :: (.int v19_41) :: (.int v20_42) :: (.int v21_43) :: (.int v22_44) :: (.ref ml) :: (.ref bg) :: (.ref co) :: (.ref sp) :: (.ref nb0) :: (.ref nb1) :: (.ref nb2) :: (.int (nI nf)) :: (.int (nI bd)) :: (.int (nI mm)) :: (.int v33_45) :: (.ref pl) :: (.ref se) :: (.ref ke) :: (.ref wi) :: (.ref hs) :: (.ref mo) :: (.ref po) :: (.ref nu) :: (.ref pr) :: (.ref sq) :: (.ref xa) :: (.ref sa) :: (.ref n64) :: (.ref m64) :: (.ref ex) :: (.ref wh) :: (.ref sd) :: (.ref tk) :: (.int v52_46) :: (.int v53_47) :: (.int v54_48) :: (.ref hd) :: (.ref ak) :: (.ref ho) :: (.ref ot) :: []) := (hB1.2.2.2 h0 (by rw [hT_h0]; simp)).trans hF_66
    generalize H1 = H at hP hS ⊢
    refine lv_iinc (v := (nI (j + 1))) (lv' := [(2, .int (nI (j + 1))), (0, .ref h0), (1, .ref dt)]) hx hb dX15_wantedOf_30 hl (k := 0) rfl (nI_1 _) (by decide) rfl (fun ls hl => ?_)
    refine lv_goto (tgt := 10) hx hb dX15_wantedOf_33 (by decide) ?_
    refine W.widen (k := 0) (n := 0) (by omega) (by omega) ?_
    exact ih_65 (j + 1) F_134 (⟨by omega, hq_135⟩) (by show 7 - (j + 1) < 7 - j; omega) hO hR _ _ hP hD hS ls (lv_sub hl [0, 1, 2] rfl)
