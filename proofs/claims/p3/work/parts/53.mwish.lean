theorem dX15_houseOf_0 : decode cX15_houseOf 0 = .ok (.iconst (-1), 1) := by decide +kernel
theorem dX15_houseOf_1 : decode cX15_houseOf 1 = .ok (.istore_n 3, 1) := by decide +kernel
theorem dX15_houseOf_2 : decode cX15_houseOf 2 = .ok (.iconst 0, 1) := by decide +kernel
theorem dX15_houseOf_3 : decode cX15_houseOf 3 = .ok (.istore 4, 2) := by decide +kernel
theorem dX15_houseOf_5 : decode cX15_houseOf 5 = .ok (.iload 4, 2) := by decide +kernel
theorem dX15_houseOf_7 : decode cX15_houseOf 7 = .ok (.aload_n 0, 1) := by decide +kernel
theorem dX15_houseOf_8 : decode cX15_houseOf 8 = .ok (.getfield 177, 3) := by decide +kernel
theorem dX15_houseOf_11 : decode cX15_houseOf 11 = .ok (.if_icmp .ge 49, 3) := by decide +kernel
theorem dX15_houseOf_14 : decode cX15_houseOf 14 = .ok (.aload_n 0, 1) := by decide +kernel
theorem dX15_houseOf_15 : decode cX15_houseOf 15 = .ok (.getfield 38, 3) := by decide +kernel
theorem dX15_houseOf_18 : decode cX15_houseOf 18 = .ok (.iload 4, 2) := by decide +kernel
theorem dX15_houseOf_20 : decode cX15_houseOf 20 = .ok (.iaload, 1) := by decide +kernel
theorem dX15_houseOf_21 : decode cX15_houseOf 21 = .ok (.iconst 4, 1) := by decide +kernel
theorem dX15_houseOf_22 : decode cX15_houseOf 22 = .ok (.if_icmp .ne 32, 3) := by decide +kernel
theorem dX15_houseOf_25 : decode cX15_houseOf 25 = .ok (.aload_n 1, 1) := by decide +kernel
theorem dX15_houseOf_26 : decode cX15_houseOf 26 = .ok (.aload_n 0, 1) := by decide +kernel
theorem dX15_houseOf_27 : decode cX15_houseOf 27 = .ok (.getfield 47, 3) := by decide +kernel
theorem dX15_houseOf_30 : decode cX15_houseOf 30 = .ok (.iload 4, 2) := by decide +kernel
theorem dX15_houseOf_32 : decode cX15_houseOf 32 = .ok (.aaload, 1) := by decide +kernel
theorem dX15_houseOf_33 : decode cX15_houseOf 33 = .ok (.invokevirtual 559, 3) := by decide +kernel
theorem dX15_houseOf_36 : decode cX15_houseOf 36 = .ok (.ifCond .eq 18, 3) := by decide +kernel
theorem dX15_houseOf_39 : decode cX15_houseOf 39 = .ok (.iload_n 3, 1) := by decide +kernel
theorem dX15_houseOf_40 : decode cX15_houseOf 40 = .ok (.aload_n 0, 1) := by decide +kernel
theorem dX15_houseOf_41 : decode cX15_houseOf 41 = .ok (.getfield 47, 3) := by decide +kernel
theorem dX15_houseOf_44 : decode cX15_houseOf 44 = .ok (.iload 4, 2) := by decide +kernel
theorem dX15_houseOf_46 : decode cX15_houseOf 46 = .ok (.aaload, 1) := by decide +kernel
theorem dX15_houseOf_47 : decode cX15_houseOf 47 = .ok (.getfield 190, 3) := by decide +kernel
theorem dX15_houseOf_50 : decode cX15_houseOf 50 = .ok (.invokestatic 562, 3) := by decide +kernel
theorem dX15_houseOf_53 : decode cX15_houseOf 53 = .ok (.istore_n 3, 1) := by decide +kernel
theorem dX15_houseOf_54 : decode cX15_houseOf 54 = .ok (.iinc 4 1, 3) := by decide +kernel
theorem dX15_houseOf_57 : decode cX15_houseOf 57 = .ok (.goto (-52), 3) := by decide +kernel
theorem dX15_houseOf_60 : decode cX15_houseOf 60 = .ok (.iload_n 3, 1) := by decide +kernel
theorem dX15_houseOf_61 : decode cX15_houseOf 61 = .ok (.ifCond .ge 10, 3) := by decide +kernel
theorem dX15_houseOf_64 : decode cX15_houseOf 64 = .ok (.aload_n 1, 1) := by decide +kernel
theorem dX15_houseOf_65 : decode cX15_houseOf 65 = .ok (.getfield 190, 3) := by decide +kernel
theorem dX15_houseOf_68 : decode cX15_houseOf 68 = .ok (.goto 11, 3) := by decide +kernel
theorem dX15_houseOf_71 : decode cX15_houseOf 71 = .ok (.aload_n 1, 1) := by decide +kernel
theorem dX15_houseOf_72 : decode cX15_houseOf 72 = .ok (.getfield 190, 3) := by decide +kernel
theorem dX15_houseOf_75 : decode cX15_houseOf 75 = .ok (.iload_n 3, 1) := by decide +kernel
theorem dX15_houseOf_76 : decode cX15_houseOf 76 = .ok (.isub, 1) := by decide +kernel
theorem dX15_houseOf_77 : decode cX15_houseOf 77 = .ok (.iconst 1, 1) := by decide +kernel
theorem dX15_houseOf_78 : decode cX15_houseOf 78 = .ok (.isub, 1) := by decide +kernel
theorem dX15_houseOf_79 : decode cX15_houseOf 79 = .ok (.istore 4, 2) := by decide +kernel
theorem dX15_houseOf_81 : decode cX15_houseOf 81 = .ok (.iload_n 3, 1) := by decide +kernel
theorem dX15_houseOf_82 : decode cX15_houseOf 82 = .ok (.ifCond .ge 7, 3) := by decide +kernel
theorem dX15_houseOf_85 : decode cX15_houseOf 85 = .ok (.iconst 2, 1) := by decide +kernel
theorem dX15_houseOf_86 : decode cX15_houseOf 86 = .ok (.goto 4, 3) := by decide +kernel
theorem dX15_houseOf_89 : decode cX15_houseOf 89 = .ok (.iconst 1, 1) := by decide +kernel
theorem dX15_houseOf_90 : decode cX15_houseOf 90 = .ok (.istore 5, 2) := by decide +kernel
theorem dX15_houseOf_92 : decode cX15_houseOf 92 = .ok (.iload_n 3, 1) := by decide +kernel
theorem dX15_houseOf_93 : decode cX15_houseOf 93 = .ok (.aload_n 1, 1) := by decide +kernel
theorem dX15_houseOf_94 : decode cX15_houseOf 94 = .ok (.getfield 190, 3) := by decide +kernel
theorem dX15_houseOf_97 : decode cX15_houseOf 97 = .ok (.if_icmp .ne 6, 3) := by decide +kernel
theorem dX15_houseOf_100 : decode cX15_houseOf 100 = .ok (.iconst 0, 1) := by decide +kernel
theorem dX15_houseOf_101 : decode cX15_houseOf 101 = .ok (.istore 4, 2) := by decide +kernel
theorem dX15_houseOf_103 : decode cX15_houseOf 103 = .ok (.iload 4, 2) := by decide +kernel
theorem dX15_houseOf_105 : decode cX15_houseOf 105 = .ok (.ifCond .le 35, 3) := by decide +kernel
theorem dX15_houseOf_108 : decode cX15_houseOf 108 = .ok (.iinc 4 (-1), 3) := by decide +kernel
theorem dX15_houseOf_111 : decode cX15_houseOf 111 = .ok (.aload_n 1, 1) := by decide +kernel
theorem dX15_houseOf_112 : decode cX15_houseOf 112 = .ok (.getfield 295, 3) := by decide +kernel
theorem dX15_houseOf_115 : decode cX15_houseOf 115 = .ok (.iload 4, 2) := by decide +kernel
theorem dX15_houseOf_117 : decode cX15_houseOf 117 = .ok (.baload, 1) := by decide +kernel
theorem dX15_houseOf_118 : decode cX15_houseOf 118 = .ok (.bipush 46, 2) := by decide +kernel
theorem dX15_houseOf_120 : decode cX15_houseOf 120 = .ok (.if_icmp .eq 6, 3) := by decide +kernel
theorem dX15_houseOf_123 : decode cX15_houseOf 123 = .ok (.goto (-20), 3) := by decide +kernel
theorem dX15_houseOf_126 : decode cX15_houseOf 126 = .ok (.iinc 5 (-1), 3) := by decide +kernel
theorem dX15_houseOf_129 : decode cX15_houseOf 129 = .ok (.iload 5, 2) := by decide +kernel
theorem dX15_houseOf_131 : decode cX15_houseOf 131 = .ok (.ifCond .ne (-28), 3) := by decide +kernel
theorem dX15_houseOf_134 : decode cX15_houseOf 134 = .ok (.iinc 4 1, 3) := by decide +kernel
theorem dX15_houseOf_137 : decode cX15_houseOf 137 = .ok (.goto 3, 3) := by decide +kernel
theorem dX15_houseOf_140 : decode cX15_houseOf 140 = .ok (.aload_n 2, 1) := by decide +kernel
theorem dX15_houseOf_141 : decode cX15_houseOf 141 = .ok (.aload_n 1, 1) := by decide +kernel
theorem dX15_houseOf_142 : decode cX15_houseOf 142 = .ok (.getfield 295, 3) := by decide +kernel
theorem dX15_houseOf_145 : decode cX15_houseOf 145 = .ok (.iload 4, 2) := by decide +kernel
theorem dX15_houseOf_147 : decode cX15_houseOf 147 = .ok (.aload_n 1, 1) := by decide +kernel
theorem dX15_houseOf_148 : decode cX15_houseOf 148 = .ok (.getfield 190, 3) := by decide +kernel
theorem dX15_houseOf_151 : decode cX15_houseOf 151 = .ok (.invokevirtual 186, 3) := by decide +kernel
theorem dX15_houseOf_154 : decode cX15_houseOf 154 = .ok (.return_, 1) := by decide +kernel
theorem dX15_isAligned_0 : decode cX15_isAligned 0 = .ok (.iload_n 3, 1) := by decide +kernel
theorem dX15_isAligned_1 : decode cX15_isAligned 1 = .ok (.ifCond .eq 9, 3) := by decide +kernel
theorem dX15_isAligned_4 : decode cX15_isAligned 4 = .ok (.aload_n 1, 1) := by decide +kernel
theorem dX15_isAligned_5 : decode cX15_isAligned 5 = .ok (.aload_n 2, 1) := by decide +kernel
theorem dX15_isAligned_6 : decode cX15_isAligned 6 = .ok (.invokevirtual 193, 3) := by decide +kernel
theorem dX15_isAligned_9 : decode cX15_isAligned 9 = .ok (.ireturn, 1) := by decide +kernel
theorem dX15_isAligned_10 : decode cX15_isAligned 10 = .ok (.aload_n 0, 1) := by decide +kernel
theorem dX15_isAligned_11 : decode cX15_isAligned 11 = .ok (.aload_n 1, 1) := by decide +kernel
theorem dX15_isAligned_12 : decode cX15_isAligned 12 = .ok (.aload_n 0, 1) := by decide +kernel
theorem dX15_isAligned_13 : decode cX15_isAligned 13 = .ok (.getfield 160, 3) := by decide +kernel
theorem dX15_isAligned_16 : decode cX15_isAligned 16 = .ok (.invokevirtual 565, 3) := by decide +kernel
theorem dX15_isAligned_19 : decode cX15_isAligned 19 = .ok (.aload_n 0, 1) := by decide +kernel
theorem dX15_isAligned_20 : decode cX15_isAligned 20 = .ok (.aload_n 2, 1) := by decide +kernel
theorem dX15_isAligned_21 : decode cX15_isAligned 21 = .ok (.aload_n 0, 1) := by decide +kernel
theorem dX15_isAligned_22 : decode cX15_isAligned 22 = .ok (.getfield 163, 3) := by decide +kernel
theorem dX15_isAligned_25 : decode cX15_isAligned 25 = .ok (.invokevirtual 565, 3) := by decide +kernel
theorem dX15_isAligned_28 : decode cX15_isAligned 28 = .ok (.aload_n 0, 1) := by decide +kernel
theorem dX15_isAligned_29 : decode cX15_isAligned 29 = .ok (.getfield 160, 3) := by decide +kernel
theorem dX15_isAligned_32 : decode cX15_isAligned 32 = .ok (.aload_n 0, 1) := by decide +kernel
theorem dX15_isAligned_33 : decode cX15_isAligned 33 = .ok (.getfield 163, 3) := by decide +kernel
theorem dX15_isAligned_36 : decode cX15_isAligned 36 = .ok (.invokevirtual 193, 3) := by decide +kernel
theorem dX15_isAligned_39 : decode cX15_isAligned 39 = .ok (.ireturn, 1) := by decide +kernel
theorem dX15_permission_0 : decode cX15_permission 0 = .ok (.aload_n 0, 1) := by decide +kernel
theorem dX15_permission_1 : decode cX15_permission 1 = .ok (.getfield 208, 3) := by decide +kernel
theorem dX15_permission_4 : decode cX15_permission 4 = .ok (.ifCond .ne 5, 3) := by decide +kernel
theorem dX15_permission_7 : decode cX15_permission 7 = .ok (.iconst (-1), 1) := by decide +kernel
theorem dX15_permission_8 : decode cX15_permission 8 = .ok (.ireturn, 1) := by decide +kernel
theorem dX15_permission_9 : decode cX15_permission 9 = .ok (.aload_n 0, 1) := by decide +kernel
theorem dX15_permission_10 : decode cX15_permission 10 = .ok (.iconst 0, 1) := by decide +kernel
theorem dX15_permission_11 : decode cX15_permission 11 = .ok (.putfield 212, 3) := by decide +kernel
theorem dX15_permission_14 : decode cX15_permission 14 = .ok (.aload_n 0, 1) := by decide +kernel
theorem dX15_permission_15 : decode cX15_permission 15 = .ok (.iconst 0, 1) := by decide +kernel
theorem dX15_permission_16 : decode cX15_permission 16 = .ok (.putfield 215, 3) := by decide +kernel
theorem dX15_permission_19 : decode cX15_permission 19 = .ok (.aload_n 0, 1) := by decide +kernel
theorem dX15_permission_20 : decode cX15_permission 20 = .ok (.aload_n 0, 1) := by decide +kernel
theorem dX15_permission_21 : decode cX15_permission 21 = .ok (.getfield 61, 3) := by decide +kernel
theorem dX15_permission_24 : decode cX15_permission 24 = .ok (.iconst 0, 1) := by decide +kernel
theorem dX15_permission_25 : decode cX15_permission 25 = .ok (.invokevirtual 218, 3) := by decide +kernel
theorem dX15_permission_28 : decode cX15_permission 28 = .ok (.ireturn, 1) := by decide +kernel
theorem dX15_wanted_0 : decode cX15_wanted 0 = .ok (.aload_n 0, 1) := by decide +kernel
theorem dX15_wanted_1 : decode cX15_wanted 1 = .ok (.aload_n 1, 1) := by decide +kernel
theorem dX15_wanted_2 : decode cX15_wanted 2 = .ok (.ldc_w 573, 3) := by decide +kernel
theorem dX15_wanted_5 : decode cX15_wanted 5 = .ok (.invokevirtual 448, 3) := by decide +kernel
theorem dX15_wanted_8 : decode cX15_wanted 8 = .ok (.ifCond .eq 8, 3) := by decide +kernel
theorem dX15_wanted_11 : decode cX15_wanted 11 = .ok (.bipush 7, 2) := by decide +kernel
theorem dX15_wanted_13 : decode cX15_wanted 13 = .ok (.goto 37, 3) := by decide +kernel
theorem dX15_wanted_16 : decode cX15_wanted 16 = .ok (.aload_n 0, 1) := by decide +kernel
theorem dX15_wanted_17 : decode cX15_wanted 17 = .ok (.aload_n 1, 1) := by decide +kernel
theorem dX15_wanted_18 : decode cX15_wanted 18 = .ok (.ldc_w 575, 3) := by decide +kernel
theorem dX15_wanted_21 : decode cX15_wanted 21 = .ok (.invokevirtual 448, 3) := by decide +kernel
theorem dX15_wanted_24 : decode cX15_wanted 24 = .ok (.ifCond .eq 8, 3) := by decide +kernel
theorem dX15_wanted_27 : decode cX15_wanted 27 = .ok (.bipush 8, 2) := by decide +kernel
theorem dX15_wanted_29 : decode cX15_wanted 29 = .ok (.goto 21, 3) := by decide +kernel
theorem dX15_wanted_32 : decode cX15_wanted 32 = .ok (.aload_n 0, 1) := by decide +kernel
theorem dX15_wanted_33 : decode cX15_wanted 33 = .ok (.aload_n 1, 1) := by decide +kernel
theorem dX15_wanted_34 : decode cX15_wanted 34 = .ok (.ldc_w 577, 3) := by decide +kernel
theorem dX15_wanted_37 : decode cX15_wanted 37 = .ok (.invokevirtual 448, 3) := by decide +kernel
theorem dX15_wanted_40 : decode cX15_wanted 40 = .ok (.ifCond .eq 8, 3) := by decide +kernel
theorem dX15_wanted_43 : decode cX15_wanted 43 = .ok (.bipush 9, 2) := by decide +kernel
theorem dX15_wanted_45 : decode cX15_wanted 45 = .ok (.goto 5, 3) := by decide +kernel
theorem dX15_wanted_48 : decode cX15_wanted 48 = .ok (.bipush 6, 2) := by decide +kernel
theorem dX15_wanted_50 : decode cX15_wanted 50 = .ok (.ireturn, 1) := by decide +kernel
theorem dX15_wantedOf_0 : decode cX15_wantedOf 0 = .ok (.aload_n 0, 1) := by decide +kernel
theorem dX15_wantedOf_1 : decode cX15_wantedOf 1 = .ok (.getfield 144, 3) := by decide +kernel
theorem dX15_wantedOf_4 : decode cX15_wantedOf 4 = .ok (.iconst 0, 1) := by decide +kernel
theorem dX15_wantedOf_5 : decode cX15_wantedOf 5 = .ok (.putfield 190, 3) := by decide +kernel
theorem dX15_wantedOf_8 : decode cX15_wantedOf 8 = .ok (.iconst 0, 1) := by decide +kernel
theorem dX15_wantedOf_9 : decode cX15_wantedOf 9 = .ok (.istore_n 2, 1) := by decide +kernel
theorem dX15_wantedOf_10 : decode cX15_wantedOf 10 = .ok (.iload_n 2, 1) := by decide +kernel
theorem dX15_wantedOf_11 : decode cX15_wantedOf 11 = .ok (.bipush 7, 2) := by decide +kernel
theorem dX15_wantedOf_13 : decode cX15_wantedOf 13 = .ok (.if_icmp .ge 23, 3) := by decide +kernel
theorem dX15_wantedOf_16 : decode cX15_wantedOf 16 = .ok (.aload_n 0, 1) := by decide +kernel
theorem dX15_wantedOf_17 : decode cX15_wantedOf 17 = .ok (.getfield 144, 3) := by decide +kernel
theorem dX15_wantedOf_20 : decode cX15_wantedOf 20 = .ok (.ldc_w 569, 3) := by decide +kernel
theorem dX15_wantedOf_23 : decode cX15_wantedOf 23 = .ok (.iload_n 2, 1) := by decide +kernel
theorem dX15_wantedOf_24 : decode cX15_wantedOf 24 = .ok (.invokevirtual 13, 3) := by decide +kernel
theorem dX15_wantedOf_27 : decode cX15_wantedOf 27 = .ok (.invokevirtual 292, 3) := by decide +kernel
theorem dX15_wantedOf_30 : decode cX15_wantedOf 30 = .ok (.iinc 2 1, 3) := by decide +kernel
theorem dX15_wantedOf_33 : decode cX15_wantedOf 33 = .ok (.goto (-23), 3) := by decide +kernel
theorem dX15_wantedOf_36 : decode cX15_wantedOf 36 = .ok (.aload_n 0, 1) := by decide +kernel
theorem dX15_wantedOf_37 : decode cX15_wantedOf 37 = .ok (.getfield 144, 3) := by decide +kernel
theorem dX15_wantedOf_40 : decode cX15_wantedOf 40 = .ok (.aload_n 1, 1) := by decide +kernel
theorem dX15_wantedOf_41 : decode cX15_wantedOf 41 = .ok (.getfield 295, 3) := by decide +kernel
theorem dX15_wantedOf_44 : decode cX15_wantedOf 44 = .ok (.iconst 0, 1) := by decide +kernel
theorem dX15_wantedOf_45 : decode cX15_wantedOf 45 = .ok (.aload_n 1, 1) := by decide +kernel
theorem dX15_wantedOf_46 : decode cX15_wantedOf 46 = .ok (.getfield 190, 3) := by decide +kernel
theorem dX15_wantedOf_49 : decode cX15_wantedOf 49 = .ok (.invokevirtual 298, 3) := by decide +kernel
theorem dX15_wantedOf_52 : decode cX15_wantedOf 52 = .ok (.aload_n 0, 1) := by decide +kernel
theorem dX15_wantedOf_53 : decode cX15_wantedOf 53 = .ok (.aload_n 0, 1) := by decide +kernel
theorem dX15_wantedOf_54 : decode cX15_wantedOf 54 = .ok (.getfield 144, 3) := by decide +kernel
theorem dX15_wantedOf_57 : decode cX15_wantedOf 57 = .ok (.invokevirtual 308, 3) := by decide +kernel
theorem dX15_wantedOf_60 : decode cX15_wantedOf 60 = .ok (.ifCond .eq 6, 3) := by decide +kernel
theorem dX15_wantedOf_63 : decode cX15_wantedOf 63 = .ok (.bipush (-2), 2) := by decide +kernel
theorem dX15_wantedOf_65 : decode cX15_wantedOf 65 = .ok (.ireturn, 1) := by decide +kernel
theorem dX15_wantedOf_66 : decode cX15_wantedOf 66 = .ok (.iconst (-1), 1) := by decide +kernel
theorem dX15_wantedOf_67 : decode cX15_wantedOf 67 = .ok (.istore_n 2, 1) := by decide +kernel
theorem dX15_wantedOf_68 : decode cX15_wantedOf 68 = .ok (.iconst 0, 1) := by decide +kernel
theorem dX15_wantedOf_69 : decode cX15_wantedOf 69 = .ok (.istore_n 3, 1) := by decide +kernel
theorem dX15_wantedOf_70 : decode cX15_wantedOf 70 = .ok (.iconst 0, 1) := by decide +kernel
theorem dX15_wantedOf_71 : decode cX15_wantedOf 71 = .ok (.istore 4, 2) := by decide +kernel
theorem dX15_wantedOf_73 : decode cX15_wantedOf 73 = .ok (.iload 4, 2) := by decide +kernel
theorem dX15_wantedOf_75 : decode cX15_wantedOf 75 = .ok (.aload_n 0, 1) := by decide +kernel
theorem dX15_wantedOf_76 : decode cX15_wantedOf 76 = .ok (.getfield 177, 3) := by decide +kernel
theorem dX15_wantedOf_79 : decode cX15_wantedOf 79 = .ok (.if_icmp .ge 62, 3) := by decide +kernel
theorem dX15_wantedOf_82 : decode cX15_wantedOf 82 = .ok (.aload_n 0, 1) := by decide +kernel
theorem dX15_wantedOf_83 : decode cX15_wantedOf 83 = .ok (.iload 4, 2) := by decide +kernel
theorem dX15_wantedOf_85 : decode cX15_wantedOf 85 = .ok (.iconst 0, 1) := by decide +kernel
theorem dX15_wantedOf_86 : decode cX15_wantedOf 86 = .ok (.aload_n 0, 1) := by decide +kernel
theorem dX15_wantedOf_87 : decode cX15_wantedOf 87 = .ok (.getfield 144, 3) := by decide +kernel
theorem dX15_wantedOf_90 : decode cX15_wantedOf 90 = .ok (.invokevirtual 196, 3) := by decide +kernel
theorem dX15_wantedOf_93 : decode cX15_wantedOf 93 = .ok (.ifCond .eq 42, 3) := by decide +kernel
theorem dX15_wantedOf_96 : decode cX15_wantedOf 96 = .ok (.aload_n 0, 1) := by decide +kernel
theorem dX15_wantedOf_97 : decode cX15_wantedOf 97 = .ok (.getfield 51, 3) := by decide +kernel
theorem dX15_wantedOf_100 : decode cX15_wantedOf 100 = .ok (.iload 4, 2) := by decide +kernel
theorem dX15_wantedOf_102 : decode cX15_wantedOf 102 = .ok (.aaload, 1) := by decide +kernel
theorem dX15_wantedOf_103 : decode cX15_wantedOf 103 = .ok (.getfield 295, 3) := by decide +kernel
theorem dX15_wantedOf_106 : decode cX15_wantedOf 106 = .ok (.iconst 0, 1) := by decide +kernel
theorem dX15_wantedOf_107 : decode cX15_wantedOf 107 = .ok (.aload_n 0, 1) := by decide +kernel
theorem dX15_wantedOf_108 : decode cX15_wantedOf 108 = .ok (.getfield 51, 3) := by decide +kernel
theorem dX15_wantedOf_111 : decode cX15_wantedOf 111 = .ok (.iload 4, 2) := by decide +kernel
theorem dX15_wantedOf_113 : decode cX15_wantedOf 113 = .ok (.aaload, 1) := by decide +kernel
theorem dX15_wantedOf_114 : decode cX15_wantedOf 114 = .ok (.getfield 190, 3) := by decide +kernel
theorem dX15_wantedOf_117 : decode cX15_wantedOf 117 = .ok (.ldc_w 571, 3) := by decide +kernel
theorem dX15_wantedOf_120 : decode cX15_wantedOf 120 = .ok (.invokestatic 254, 3) := by decide +kernel
theorem dX15_wantedOf_123 : decode cX15_wantedOf 123 = .ok (.ifCond .ne 6, 3) := by decide +kernel
theorem dX15_wantedOf_126 : decode cX15_wantedOf 126 = .ok (.goto 9, 3) := by decide +kernel
theorem dX15_wantedOf_129 : decode cX15_wantedOf 129 = .ok (.iload 4, 2) := by decide +kernel
theorem dX15_wantedOf_131 : decode cX15_wantedOf 131 = .ok (.istore_n 2, 1) := by decide +kernel
theorem dX15_wantedOf_132 : decode cX15_wantedOf 132 = .ok (.iinc 3 1, 3) := by decide +kernel
theorem dX15_wantedOf_135 : decode cX15_wantedOf 135 = .ok (.iinc 4 1, 3) := by decide +kernel
theorem dX15_wantedOf_138 : decode cX15_wantedOf 138 = .ok (.goto (-65), 3) := by decide +kernel
theorem dX15_wantedOf_141 : decode cX15_wantedOf 141 = .ok (.iload_n 3, 1) := by decide +kernel
theorem dX15_wantedOf_142 : decode cX15_wantedOf 142 = .ok (.iconst 1, 1) := by decide +kernel
theorem dX15_wantedOf_143 : decode cX15_wantedOf 143 = .ok (.if_icmp .ne 7, 3) := by decide +kernel
theorem dX15_wantedOf_146 : decode cX15_wantedOf 146 = .ok (.iload_n 2, 1) := by decide +kernel
theorem dX15_wantedOf_147 : decode cX15_wantedOf 147 = .ok (.goto 4, 3) := by decide +kernel
theorem dX15_wantedOf_150 : decode cX15_wantedOf 150 = .ok (.iconst (-1), 1) := by decide +kernel
theorem dX15_wantedOf_151 : decode cX15_wantedOf 151 = .ok (.ireturn, 1) := by decide +kernel
theorem kt_1001 : Cond.fieldLink RX15 208 "PostGateModel" "sent" "Z" ∈ tb := tb_at (i := 1301) (by decide +kernel) (by decide +kernel)
theorem kt_1002 : Cond.code yX14_isUnder cX14_isUnder 3 (some .boolean) ∈ tb := tb_at (i := 1859) (by decide +kernel) (by decide +kernel)
theorem kt_1003 : Cond.methodLink RX15 559 yX14_isUnder ∈ tb := tb_at (i := 1856) (by decide +kernel) (by decide +kernel)
theorem kt_1004 : Cond.instanceMethod yX14_isUnder ∈ tb := tb_at (i := 1857) (by decide +kernel) (by decide +kernel)
theorem kt_1005 : Cond.selects RX14 yX14_isUnder yX14_isUnder ∈ tb := tb_at (i := 1858) (by decide +kernel) (by decide +kernel)
theorem kt_1006 : Cond.methodLink RX15 562 Lib.Math.max.name ∈ tb := tb_at (i := 1860) (by decide +kernel) (by decide +kernel)
theorem kt_1007 : Cond.fieldLink RX15 160 "PostGateModel" "house" "LPostGateModel$Text;" ∈ tb := tb_at (i := 1346) (by decide +kernel) (by decide +kernel)
theorem kt_1008 : Cond.code yX15_houseOf cX15_houseOf 6 none ∈ tb := tb_at (i := 1855) (by decide +kernel) (by decide +kernel)
theorem kt_1009 : Cond.methodLink RX15 565 yX15_houseOf ∈ tb := tb_at (i := 1852) (by decide +kernel) (by decide +kernel)
theorem kt_1010 : Cond.instanceMethod yX15_houseOf ∈ tb := tb_at (i := 1854) (by decide +kernel) (by decide +kernel)
theorem kt_1011 : Cond.selects RX15 yX15_houseOf yX15_houseOf ∈ tb := tb_at (i := 76) (by decide +kernel) (by decide +kernel)
theorem kt_1012 : Cond.fieldLink RX15 163 "PostGateModel" "other" "LPostGateModel$Text;" ∈ tb := tb_at (i := 1347) (by decide +kernel) (by decide +kernel)
theorem mchk_rec (l : Launch) (dC : Nat → ClassId) (dI : Nat → Nat → Nat) (cs : Nat → ClassId) (ty : TyM) (gm : Nat → Nat → Nat) (L : List Nat) (h0 ρ ta ou so ad na va lc dm tg pe ml bg co sp nb0 nb1 nb2 pl se ke wi hs mo po nu pr sq xa sa n64 m64 ex wh sd tk hd ak ho ot sx s0 s1 s2 nf bd mm zt rp : Nat) (hW : WTm ty gm L) (hL_h0 : h0 ∈ L) (hT_h0 : ty h0 = (15, ρ, [ta, ou, so, ad, na, va, lc, dm, tg, pe, ml, bg, co, sp, nb0, nb1, nb2, pl, se, ke, wi, hs, mo, po, nu, pr, sq, xa, sa, n64, m64, ex, wh, sd, tk, hd, ak, ho, ot, sx, s0, s1, s2, nf, bd, mm, zt])) (hL_pe : pe ∈ L) (hT_pe : ty pe = (14, ρ + 7, [rp, 100])) : ∀ (k cn : Nat), 10 ≤ cn + k → ∀ (sz : Nat) (F : Nat → va_E) (zo : Nat) (ze : Nat) (v11 : Int32) (v12 : Int32) (v15 : Int32) (v17 : Int32) (v18 : Int32) (v19 : Int32) (v20 : Int32) (v21 : Int32) (v22 : Int32) (v33 : Int32) (v52 : Int32) (v53 : Int32) (v54 : Int32) (dd : Nat) (τ : Nat) (rd : Nat) (nd : Nat) (lv : Nat), dd ∈ L → ty dd = (14, τ, [rd, nd]) → (F h0 = .inr (15, (.ref ta) :: (.int (nI zt)) :: (.int (nI zo)) :: (.int (nI ze)) :: (.ref ou) :: (.ref so) :: (.ref ad) :: (.ref na) :: (.ref va) :: (.ref lc) :: (.ref dm) :: (.int v11) :: (.int v12) :: (.ref tg) :: (.int (nI cn)) :: (.int v15) :: (.ref pe) :: (.int v17) :: (.int v18) :: (.int v19) :: (.int v20) :: (.int v21) :: (.int v22) :: (.ref ml) :: (.ref bg) :: (.ref co) :: (.ref sp) :: (.ref nb0) :: (.ref nb1) :: (.ref nb2) :: (.int (nI nf)) :: (.int (nI bd)) :: (.int (nI mm)) :: (.int v33) :: (.ref pl) :: (.ref se) :: (.ref ke) :: (.ref wi) :: (.ref hs) :: (.ref mo) :: (.ref po) :: (.ref nu) :: (.ref pr) :: (.ref sq) :: (.ref xa) :: (.ref sa) :: (.ref n64) :: (.ref m64) :: (.ref ex) :: (.ref wh) :: (.ref sd) :: (.ref tk) :: (.int v52) :: (.int v53) :: (.int v54) :: (.ref hd) :: (.ref ak) :: (.ref ho) :: (.ref ot) :: [])) → (zo ≤ 6000) → (ze ≤ 40) → ((v33 = 0 ∨ 1 ≤ nf)) → ((v54 = 0 ∨ v54 = 1)) → (lv ≤ cn) → (cn ≤ 10) → (nd ≤ 61) → Met l yX15_check (.code yX15_check cX15_check 10 (some .int) :: tb) ({ frames := 7 * (k + 1), cells := 0, slots := 0, locals := 158 * (k + 1) }) (va_Pc [.ref h0, .ref dd, .int (nI lv)] (PTEm (dC, dI) cs ty gm L F sz [])) (va_Qi (fun (r : Int32) (cu : Nat) => (cu = 11 → r = 6)) (fun (cu : Nat) T9 => ∃ F2 : Nat → va_E, ∃ u15 : Int32, ∃ u17 : Int32, ∃ u18 : Int32, ∃ u19 : Int32, ∃ u20 : Int32, ∃ u21 : Int32, ∃ u22 : Int32, QTm (dC, dI) cs ty gm L [ρ, ρ + 6, ρ + 7] F F2 (va_A (va_pl L F) sz) T9 ∧ F2 h0 = .inr (15, (.ref ta) :: (.int (nI zt)) :: (.int (nI zo)) :: (.int (nI ze)) :: (.ref ou) :: (.ref so) :: (.ref ad) :: (.ref na) :: (.ref va) :: (.ref lc) :: (.ref dm) :: (.int v11) :: (.int v12) :: (.ref tg) :: (.int (nI cu)) :: (.int u15) :: (.ref pe) :: (.int u17) :: (.int u18) :: (.int u19) :: (.int u20) :: (.int u21) :: (.int u22) :: (.ref ml) :: (.ref bg) :: (.ref co) :: (.ref sp) :: (.ref nb0) :: (.ref nb1) :: (.ref nb2) :: (.int (nI nf)) :: (.int (nI bd)) :: (.int (nI mm)) :: (.int v33) :: (.ref pl) :: (.ref se) :: (.ref ke) :: (.ref wi) :: (.ref hs) :: (.ref mo) :: (.ref po) :: (.ref nu) :: (.ref pr) :: (.ref sq) :: (.ref xa) :: (.ref sa) :: (.ref n64) :: (.ref m64) :: (.ref ex) :: (.ref wh) :: (.ref sd) :: (.ref tk) :: (.int v52) :: (.int v53) :: (.int v54) :: (.ref hd) :: (.ref ak) :: (.ref ho) :: (.ref ot) :: []) ∧ cn ≤ cu ∧ cu ≤ 11) (va_A (va_pl L F) sz)) 0 0 (va_A (va_pl L F) sz) := by
  intro k
  induction k with
  | zero => intro cn hk sz F zo ze v11 v12 v15 v17 v18 v19 v20 v21 v22 v33 v52 v53 v54 dd τ rd nd lv hd1 hd2 a1 a2 a3 a4 a5 a6 a7 a8; exact s_X15_check l dC dI cs ty gm L sz F h0 ρ ta ou so ad na va lc dm tg pe ml bg co sp nb0 nb1 nb2 pl se ke wi hs mo po nu pr sq xa sa n64 m64 ex wh sd tk hd ak ho ot sx s0 s1 s2 nf bd mm zt rp zo ze v11 v12 v15 v17 v18 v19 v20 v21 v22 v33 v52 v53 v54 dd τ rd nd lv cn 0 0 hW hL_h0 hT_h0 hL_pe hT_pe hd1 hd2 a1 a2 a3 a4 a5 a6 a7 a8 (fun c1 h1 => by intros; omega)
  | succ k ih => intro cn hk sz F zo ze v11 v12 v15 v17 v18 v19 v20 v21 v22 v33 v52 v53 v54 dd τ rd nd lv hd1 hd2 a1 a2 a3 a4 a5 a6 a7 a8; exact s_X15_check l dC dI cs ty gm L sz F h0 ρ ta ou so ad na va lc dm tg pe ml bg co sp nb0 nb1 nb2 pl se ke wi hs mo po nu pr sq xa sa n64 m64 ex wh sd tk hd ak ho ot sx s0 s1 s2 nf bd mm zt rp zo ze v11 v12 v15 v17 v18 v19 v20 v21 v22 v33 v52 v53 v54 dd τ rd nd lv cn (7 * (k + 1)) (158 * (k + 1)) hW hL_h0 hT_h0 hL_pe hT_pe hd1 hd2 a1 a2 a3 a4 a5 a6 a7 a8 (fun c1 h1 => ih c1 (by omega))
theorem s_X15_check0 (l : Launch) (dC : Nat → ClassId) (dI : Nat → Nat → Nat) (cs : Nat → ClassId) (ty : TyM) (gm : Nat → Nat → Nat) (L : List Nat) (sz : Nat) (F : Nat → va_E) (h0 : Nat) (ρ : Nat) (ta : Nat) (ou : Nat) (so : Nat) (ad : Nat) (na : Nat) (va : Nat) (lc : Nat) (dm : Nat) (tg : Nat) (pe : Nat) (ml : Nat) (bg : Nat) (co : Nat) (sp : Nat) (nb0 : Nat) (nb1 : Nat) (nb2 : Nat) (pl : Nat) (se : Nat) (ke : Nat) (wi : Nat) (hs : Nat) (mo : Nat) (po : Nat) (nu : Nat) (pr : Nat) (sq : Nat) (xa : Nat) (sa : Nat) (n64 : Nat) (m64 : Nat) (ex : Nat) (wh : Nat) (sd : Nat) (tk : Nat) (hd : Nat) (ak : Nat) (ho : Nat) (ot : Nat) (sx : Nat) (s0 : Nat) (s1 : Nat) (s2 : Nat) (nf : Nat) (bd : Nat) (mm : Nat) (zt : Nat) (rp : Nat) (zo : Nat) (ze : Nat) (v11 : Int32) (v12 : Int32) (v15 : Int32) (v17 : Int32) (v18 : Int32) (v19 : Int32) (v20 : Int32) (v21 : Int32) (v22 : Int32) (v33 : Int32) (v52 : Int32) (v53 : Int32) (v54 : Int32) (dd : Nat) (τ : Nat) (rd : Nat) (nd : Nat) (hW : WTm ty gm L) (hL_h0 : h0 ∈ L) (hT_h0 : ty h0 = (15, ρ, [ta, ou, so, ad, na, va, lc, dm, tg, pe, ml, bg, co, sp, nb0, nb1, nb2, pl, se, ke, wi, hs, mo, po, nu, pr, sq, xa, sa, n64, m64, ex, wh, sd, tk, hd, ak, ho, ot, sx, s0, s1, s2, nf, bd, mm, zt])) (hL_pe : pe ∈ L) (hT_pe : ty pe = (14, ρ + 7, [rp, 100])) (hL_dd : dd ∈ L) (hT_dd : ty dd = (14, τ, [rd, nd])) (hF0 : F h0 = .inr (15, (.ref ta) :: (.int (nI zt)) :: (.int (nI zo)) :: (.int (nI ze)) :: (.ref ou) :: (.ref so) :: (.ref ad) :: (.ref na) :: (.ref va) :: (.ref lc) :: (.ref dm) :: (.int v11) :: (.int v12) :: (.ref tg) :: (.int 0) :: (.int v15) :: (.ref pe) :: (.int v17) :: (.int v18) :: (.int v19) :: (.int v20) :: (.int v21) :: (.int v22) :: (.ref ml) :: (.ref bg) :: (.ref co) :: (.ref sp) :: (.ref nb0) :: (.ref nb1) :: (.ref nb2) :: (.int (nI nf)) :: (.int (nI bd)) :: (.int (nI mm)) :: (.int v33) :: (.ref pl) :: (.ref se) :: (.ref ke) :: (.ref wi) :: (.ref hs) :: (.ref mo) :: (.ref po) :: (.ref nu) :: (.ref pr) :: (.ref sq) :: (.ref xa) :: (.ref sa) :: (.ref n64) :: (.ref m64) :: (.ref ex) :: (.ref wh) :: (.ref sd) :: (.ref tk) :: (.int v52) :: (.int v53) :: (.int v54) :: (.ref hd) :: (.ref ak) :: (.ref ho) :: (.ref ot) :: [])) (hzo : zo ≤ 6000) (hze : ze ≤ 40) (h33 : (v33 = 0 ∨ 1 ≤ nf)) (h54 : (v54 = 0 ∨ v54 = 1)) (hnd : nd ≤ 61) : Met l yX15_check (.code yX15_check cX15_check 10 (some .int) :: tb) ({ frames := 77, cells := 0, slots := 0, locals := 1738 }) (va_Pc [.ref h0, .ref dd, .int 0] (PTEm (dC, dI) cs ty gm L F sz [])) (va_Qi (fun (r : Int32) (cu : Nat) => (cu = 11 → r = 6)) (fun (cu : Nat) T9 => ∃ F2 : Nat → va_E, ∃ u15 : Int32, ∃ u17 : Int32, ∃ u18 : Int32, ∃ u19 : Int32, ∃ u20 : Int32, ∃ u21 : Int32, ∃ u22 : Int32, QTm (dC, dI) cs ty gm L [ρ, ρ + 6, ρ + 7] F F2 (va_A (va_pl L F) sz) T9 ∧ F2 h0 = .inr (15, (.ref ta) :: (.int (nI zt)) :: (.int (nI zo)) :: (.int (nI ze)) :: (.ref ou) :: (.ref so) :: (.ref ad) :: (.ref na) :: (.ref va) :: (.ref lc) :: (.ref dm) :: (.int v11) :: (.int v12) :: (.ref tg) :: (.int (nI cu)) :: (.int u15) :: (.ref pe) :: (.int u17) :: (.int u18) :: (.int u19) :: (.int u20) :: (.int u21) :: (.int u22) :: (.ref ml) :: (.ref bg) :: (.ref co) :: (.ref sp) :: (.ref nb0) :: (.ref nb1) :: (.ref nb2) :: (.int (nI nf)) :: (.int (nI bd)) :: (.int (nI mm)) :: (.int v33) :: (.ref pl) :: (.ref se) :: (.ref ke) :: (.ref wi) :: (.ref hs) :: (.ref mo) :: (.ref po) :: (.ref nu) :: (.ref pr) :: (.ref sq) :: (.ref xa) :: (.ref sa) :: (.ref n64) :: (.ref m64) :: (.ref ex) :: (.ref wh) :: (.ref sd) :: (.ref tk) :: (.int v52) :: (.int v53) :: (.int v54) :: (.ref hd) :: (.ref ak) :: (.ref ho) :: (.ref ot) :: []) ∧ 0 ≤ cu ∧ cu ≤ 11) (va_A (va_pl L F) sz)) 0 0 (va_A (va_pl L F) sz) := mchk_rec l dC dI cs ty gm L h0 ρ ta ou so ad na va lc dm tg pe ml bg co sp nb0 nb1 nb2 pl se ke wi hs mo po nu pr sq xa sa n64 m64 ex wh sd tk hd ak ho ot sx s0 s1 s2 nf bd mm zt rp hW hL_h0 hT_h0 hL_pe hT_pe 10 0 (by omega) sz F zo ze v11 v12 v15 v17 v18 v19 v20 v21 v22 v33 v52 v53 v54 dd τ rd nd 0 hL_dd hT_dd hF0 hzo hze h33 h54 (Nat.le_refl _) (Nat.zero_le _) hnd
set_option maxHeartbeats 4000000 in
set_option maxRecDepth 100000 in
theorem s_X15_permission (l : Launch) (dC : Nat → ClassId) (dI : Nat → Nat → Nat) (cs : Nat → ClassId) (ty : TyM) (gm : Nat → Nat → Nat) (L : List Nat) (sz : Nat) (F : Nat → va_E) (h0 : Nat) (ρ : Nat) (ta : Nat) (ou : Nat) (so : Nat) (ad : Nat) (na : Nat) (va : Nat) (lc : Nat) (dm : Nat) (tg : Nat) (pe : Nat) (ml : Nat) (bg : Nat) (co : Nat) (sp : Nat) (nb0 : Nat) (nb1 : Nat) (nb2 : Nat) (pl : Nat) (se : Nat) (ke : Nat) (wi : Nat) (hs : Nat) (mo : Nat) (po : Nat) (nu : Nat) (pr : Nat) (sq : Nat) (xa : Nat) (sa : Nat) (n64 : Nat) (m64 : Nat) (ex : Nat) (wh : Nat) (sd : Nat) (tk : Nat) (hd : Nat) (ak : Nat) (ho : Nat) (ot : Nat) (sx : Nat) (s0 : Nat) (s1 : Nat) (s2 : Nat) (nf : Nat) (bd : Nat) (mm : Nat) (zt : Nat) (rp : Nat) (hW : WTm ty gm L) (hL_h0 : h0 ∈ L) (hT_h0 : ty h0 = (15, ρ, [ta, ou, so, ad, na, va, lc, dm, tg, pe, ml, bg, co, sp, nb0, nb1, nb2, pl, se, ke, wi, hs, mo, po, nu, pr, sq, xa, sa, n64, m64, ex, wh, sd, tk, hd, ak, ho, ot, sx, s0, s1, s2, nf, bd, mm, zt])) (hL_pe : pe ∈ L) (hT_pe : ty pe = (14, ρ + 7, [rp, 100])) : Met l yX15_permission (.code yX15_permission cX15_permission 1 (some .int) :: tb) ({ frames := 78, cells := 0, slots := 0, locals := 1767 }) (va_Pc [.ref h0] (PTEm (dC, dI) cs ty gm L F sz [])) (va_Qi (fun (r : Int32) (_ : Unit) => True) (fun _ T9 => ∃ F2 : Nat → va_E, QTm (dC, dI) cs ty gm L [ρ, ρ + 6, ρ + 7] F F2 (va_A (va_pl L F) sz) T9) (va_A (va_pl L F) sz)) 0 0 (va_A (va_pl L F) sz) := by
  refine Met.ofW (cc := cX15_permission) (maxL := 1) (ret := (some .int)) (by decide) rfl ?_
  intro p e s m args below meth c s₁ B hml hv
  obtain ⟨rfl, ⟨hsz, hP, hK, hD0, hE, hO⟩, hG, hX⟩ := hv
  have hx := B.exec
  have hb := B.bytes
  have hr := B.returns
  have hts : ∀ w ∈ tb, w.before _ s = true := fun w h => atoms_spec (ws := .code yX15_permission cX15_permission 1 (some .int) :: tb) B.pre w (List.mem_cons_of_mem _ h)
  have hown : s.vm.findClass RX15 = some m.cls := findClass_of_methodNamed B.named
  have hlocks := B.notSynchronized
  subst hsz
  have hD := hD0.self (sz := s.heap.size)
  generalize hAe : va_A (va_pl L F) s.heap.size = A at hD hG hX ⊢
  have hA : ∀ q : Nat, s.heap.size ≤ q → A q := fun q h => by rw [← hAe]; exact Or.inr h
  have hS : va_S A s.heap s.heap [] := va_S.rf
  have hR : FR ty [ρ, ρ + 6, ρ + 7] F F := FR.refl
  have hl := lv_entry ([.ref h0]) (n := 1) (Nat.le_of_ble_eq_true rfl)
  rw [lg_entry_eq]
  generalize (lg_sl ([.ref h0]) ++ List.replicate (1 - (lg_sl ([.ref h0])).length) Slot.unset).toArray = ls at hl ⊢
  have hl : lv_has ls 1 [(0, .ref h0)] := hl
  obtain ⟨hi_1, ht_2, hi_3, ht_4, hi_5, ht_6, hi_7, ht_8, hi_9, ht_10, hi_11, ht_12, hi_13, ⟨r_14, ht_15⟩, hi_16, ⟨r_17, ht_18⟩, hi_19, ht_20, _, _, hi_21, ht_22, hi_23, ht_24, hi_25, ht_26, hi_27, ht_28, hi_29, ht_30, hi_31, ht_32, hi_33, ht_34, hi_35, ⟨r_36, ht_37⟩, hi_38, ht_39, hi_40, ⟨x_41, y0_42, y1_43, y2_44, ht_45⟩, hi_46, ⟨x_47, y0_48, y1_49, y2_50, ht_51⟩, hi_52, ⟨x_53, y_54, w_55, u_56, bl_57, ht_58⟩, hi_59, ht_60, hi_61, ht_62, hi_63, ht_64, hi_65, ht_66, hi_67, ht_68, hi_69, ht_70, hi_71, ht_72, hi_73, ht_74, hi_75, ht_76, hi_77, ht_78, hi_79, ⟨r_80, ht_81⟩, hi_82, ⟨r_83, ht_84⟩, hi_85, ht_86, hi_87, ht_88, hi_89, ⟨r_90, ht_91⟩, hi_92, ⟨r_93, ht_94⟩, hi_95, ⟨r_96, ht_97⟩, hq_98, hq_99, hq_100, hq_101, hq_102, hgO, hgA, hgB⟩ := hW.mod hL_h0 hT_h0
  obtain ⟨hi_103, ht_104, hq_105⟩ := hW.txt hL_pe hT_pe
  refine lv_aload_n hx hb dX15_permission_0 rfl (lv_at hl 0 rfl) ?_
  obtain ⟨zo_106, ze_107, v11_108, v12_109, v14_110, v15_111, v17_112, v18_113, v19_114, v20_115, v21_116, v22_117, v33_118, v52_119, v53_120, v54_121, hF_122, hq_123, hq_124, hq_125, hq_126⟩ := hO.mod hL_h0 hT_h0
  refine pg_get (ci := 15) (v := .int v12_109) (C := RX15) (T := TX15) (N := 59) hx hb hts it_15 hown hK hP hL_h0 hF_122 rfl 12 (by decide) (hts _ kt_1001) (fun _ h9 => h9) rfl dX15_permission_1 ?_
  refine lv_if_ne (tgt := 9) hx hb dX15_permission_4 (by decide) (fun c_127 => ?_) (fun c_127 => ?_)
  ·
    refine lv_aload_n hx hb dX15_permission_9 rfl (lv_at hl 0 rfl) ?_
    refine lv_iconst (v := 0) hx hb dX15_permission_10 (by decide) ?_
    refine pg_put (ci := 15) (v := .int 0) (ty := .int) (C := RX15) (T := TX15) (N := 59) hx hb hts it_15 tyX15 tyX15_ok nmX15 hown hK hP hD hS hL_h0 hF_122 rfl 14 (by decide) (hts _ kt_731) (fun _ h9 => h9) rfl (by decide +kernel) (rfl) (rfl) (Nat.le_of_ble_eq_true rfl) dX15_permission_11 (fun H locs hP hD hS => ?_)
    obtain ⟨F_128, he_129, hP, hD, hO, hR⟩ : ∃ G, G = va_up F h0 (.inr (15, (.ref ta) :: (.int (nI zt)) :: (.int (nI zo_106)) :: (.int (nI ze_107)) :: (.ref ou) :: (.ref so) :: (.ref ad) :: (.ref na) :: (.ref va) :: (.ref lc) :: (.ref dm) :: (.int v11_108) :: (.int v12_109) :: (.ref tg) :: (.int 0) :: (.int v15_111) :: (.ref pe) :: (.int v17_112) :: (.int v18_113) :: (.int v19_114) :: (.int v20_115) :: (.int v21_116) :: (.int v22_117) :: (.ref ml) :: (.ref bg) :: (.ref co) :: (.ref sp) :: (.ref nb0) :: (.ref nb1) :: (.ref nb2) :: (.int (nI nf)) :: (.int (nI bd)) :: (.int (nI mm)) :: (.int v33_118) :: (.ref pl) :: (.ref se) :: (.ref ke) :: (.ref wi) :: (.ref hs) :: (.ref mo) :: (.ref po) :: (.ref nu) :: (.ref pr) :: (.ref sq) :: (.ref xa) :: (.ref sa) :: (.ref n64) :: (.ref m64) :: (.ref ex) :: (.ref wh) :: (.ref sd) :: (.ref tk) :: (.int v52_119) :: (.int v53_120) :: (.int v54_121) :: (.ref hd) :: (.ref ak) :: (.ref ho) :: (.ref ot) :: [])) ∧ va_P (dC, dI) vwCl (va_pl L G) H ∧ va_D A (va_pl L G) ∧ OKm cs ty gm L G ∧ FR ty [ρ, ρ + 6, ρ + 7] F G := ⟨_, rfl, hP, hD, hO.up (shm.mod hT_h0 ⟨zo_106, ze_107, v11_108, v12_109, 0, v15_111, v17_112, v18_113, v19_114, v20_115, v21_116, v22_117, v33_118, v52_119, v53_120, v54_121, rfl, (by first | omega | assumption | exact Or.inl rfl | exact Or.inr rfl), (by first | omega | assumption | exact Or.inl rfl | exact Or.inr rfl), (by first | omega | assumption | exact Or.inl rfl | exact Or.inr rfl), (by first | omega | assumption | exact Or.inl rfl | exact Or.inr rfl)⟩), hR.up hT_h0 (by simp)⟩
    have hF_130 : F_128 h0 = .inr (15, (.ref ta) :: (.int (nI zt)) :: (.int (nI zo_106)) :: (.int (nI ze_107)) :: (.ref ou) :: (.ref so) :: (.ref ad) :: (.ref na) :: (.ref va) :: (.ref lc) :: (.ref dm) :: (.int v11_108) :: (.int v12_109) :: (.ref tg) :: (.int 0) :: (.int v15_111) :: (.ref pe) :: (.int v17_112) :: (.int v18_113) :: (.int v19_114) :: (.int v20_115) :: (.int v21_116) :: (.int v22_117) :: (.ref ml) :: (.ref bg) :: (.ref co) :: (.ref sp) :: (.ref nb0) :: (.ref nb1) :: (.ref nb2) :: (.int (nI nf)) :: (.int (nI bd)) :: (.int (nI mm)) :: (.int v33_118) :: (.ref pl) :: (.ref se) :: (.ref ke) :: (.ref wi) :: (.ref hs) :: (.ref mo) :: (.ref po) :: (.ref nu) :: (.ref pr) :: (.ref sq) :: (.ref xa) :: (.ref sa) :: (.ref n64) :: (.ref m64) :: (.ref ex) :: (.ref wh) :: (.ref sd) :: (.ref tk) :: (.int v52_119) :: (.int v53_120) :: (.int v54_121) :: (.ref hd) :: (.ref ak) :: (.ref ho) :: (.ref ot) :: []) := by rw [he_129]; exact up_self
    refine lv_aload_n hx hb dX15_permission_14 rfl (lv_at hl 0 rfl) ?_
    refine lv_iconst (v := 0) hx hb dX15_permission_15 (by decide) ?_
    refine pg_put (ci := 15) (v := .int 0) (ty := .int) (C := RX15) (T := TX15) (N := 59) hx hb hts it_15 tyX15 tyX15_ok nmX15 hown hK hP hD hS hL_h0 hF_130 rfl 15 (by decide) (hts _ kt_730) (fun _ h9 => h9) rfl (by decide +kernel) (rfl) (rfl) (Nat.le_of_ble_eq_true rfl) dX15_permission_16 (fun H locs hP hD hS => ?_)
    obtain ⟨F_131, he_132, hP, hD, hO, hR⟩ : ∃ G, G = va_up F_128 h0 (.inr (15, (.ref ta) :: (.int (nI zt)) :: (.int (nI zo_106)) :: (.int (nI ze_107)) :: (.ref ou) :: (.ref so) :: (.ref ad) :: (.ref na) :: (.ref va) :: (.ref lc) :: (.ref dm) :: (.int v11_108) :: (.int v12_109) :: (.ref tg) :: (.int 0) :: (.int 0) :: (.ref pe) :: (.int v17_112) :: (.int v18_113) :: (.int v19_114) :: (.int v20_115) :: (.int v21_116) :: (.int v22_117) :: (.ref ml) :: (.ref bg) :: (.ref co) :: (.ref sp) :: (.ref nb0) :: (.ref nb1) :: (.ref nb2) :: (.int (nI nf)) :: (.int (nI bd)) :: (.int (nI mm)) :: (.int v33_118) :: (.ref pl) :: (.ref se) :: (.ref ke) :: (.ref wi) :: (.ref hs) :: (.ref mo) :: (.ref po) :: (.ref nu) :: (.ref pr) :: (.ref sq) :: (.ref xa) :: (.ref sa) :: (.ref n64) :: (.ref m64) :: (.ref ex) :: (.ref wh) :: (.ref sd) :: (.ref tk) :: (.int v52_119) :: (.int v53_120) :: (.int v54_121) :: (.ref hd) :: (.ref ak) :: (.ref ho) :: (.ref ot) :: [])) ∧ va_P (dC, dI) vwCl (va_pl L G) H ∧ va_D A (va_pl L G) ∧ OKm cs ty gm L G ∧ FR ty [ρ, ρ + 6, ρ + 7] F G := ⟨_, rfl, hP, hD, hO.up (shm.mod hT_h0 ⟨zo_106, ze_107, v11_108, v12_109, 0, 0, v17_112, v18_113, v19_114, v20_115, v21_116, v22_117, v33_118, v52_119, v53_120, v54_121, rfl, (by first | omega | assumption | exact Or.inl rfl | exact Or.inr rfl), (by first | omega | assumption | exact Or.inl rfl | exact Or.inr rfl), (by first | omega | assumption | exact Or.inl rfl | exact Or.inr rfl), (by first | omega | assumption | exact Or.inl rfl | exact Or.inr rfl)⟩), hR.up hT_h0 (by simp)⟩
    have hF_133 : F_131 h0 = .inr (15, (.ref ta) :: (.int (nI zt)) :: (.int (nI zo_106)) :: (.int (nI ze_107)) :: (.ref ou) :: (.ref so) :: (.ref ad) :: (.ref na) :: (.ref va) :: (.ref lc) :: (.ref dm) :: (.int v11_108) :: (.int v12_109) :: (.ref tg) :: (.int 0) :: (.int 0) :: (.ref pe) :: (.int v17_112) :: (.int v18_113) :: (.int v19_114) :: (.int v20_115) :: (.int v21_116) :: (.int v22_117) :: (.ref ml) :: (.ref bg) :: (.ref co) :: (.ref sp) :: (.ref nb0) :: (.ref nb1) :: (.ref nb2) :: (.int (nI nf)) :: (.int (nI bd)) :: (.int (nI mm)) :: (.int v33_118) :: (.ref pl) :: (.ref se) :: (.ref ke) :: (.ref wi) :: (.ref hs) :: (.ref mo) :: (.ref po) :: (.ref nu) :: (.ref pr) :: (.ref sq) :: (.ref xa) :: (.ref sa) :: (.ref n64) :: (.ref m64) :: (.ref ex) :: (.ref wh) :: (.ref sd) :: (.ref tk) :: (.int v52_119) :: (.int v53_120) :: (.int v54_121) :: (.ref hd) :: (.ref ak) :: (.ref ho) :: (.ref ot) :: []) := by rw [he_132]; exact up_self
    refine lv_aload_n hx hb dX15_permission_19 rfl (lv_at hl 0 rfl) ?_
    refine lv_aload_n hx hb dX15_permission_20 rfl (lv_at hl 0 rfl) ?_
    refine pg_get (ci := 15) (v := .ref dm) (C := RX15) (T := TX15) (N := 59) hx hb hts it_15 hown hK hP hL_h0 hF_133 rfl 10 (by decide) (hts _ kt_777) (fun _ h9 => h9) rfl dX15_permission_21 ?_
    refine lv_iconst (v := 0) hx hb dX15_permission_24 (by decide) ?_
    obtain ⟨hi_134, ht_135, hq_136⟩ := hW.txt hi_16 ht_18
    have hFc := pg_free hD hS hA
    refine va_calli (va_runV (As := [.ref dm, .int 0]) (rest := []) ⟨hx, hb, hml, hown, hts⟩ (s_X15_check0 l dC dI cs ty gm L H.size F_131 h0 ρ ta ou so ad na va lc dm tg pe ml bg co sp nb0 nb1 nb2 pl se ke wi hs mo po nu pr sq xa sa n64 m64 ex wh sd tk hd ak ho ot sx s0 s1 s2 nf bd mm zt rp zo_106 ze_107 v11_108 v12_109 0 v17_112 v18_113 v19_114 v20_115 v21_116 v22_117 v33_118 v52_119 v53_120 v54_121 dm (ρ + 5) r_17 60 hW hL_h0 hT_h0 hL_pe hT_pe hi_16 ht_18 hF_133 (by first | omega | assumption) (by first | omega | assumption) (by first | omega | assumption) (by first | omega | assumption) (by first | omega | assumption)) ⟨callB_of 2 hts (gi kt_971) rfl rfl rfl (hts _ kt_669) (hts _ kt_972) (by decide +kernel) ⟨Nat.le_of_ble_eq_true rfl, Nat.le_of_ble_eq_true rfl⟩, (hts _ kt_973), (hts _ kt_974)⟩ ⟨fun a U g mk q => ⟨q.1, PTEm.calling q.2⟩, pg_recv hK hP hL_h0 hF_133 (q := (RX15, TX15, 59)) rfl, fun U hU hWm => ⟨rfl, PTEm.mk hU hWm hP hK hD hE hO hG (fun x hx => absurd hx List.not_mem_nil) hS hFc⟩⟩ rfl rfl hl.1 rfl (lv_room (Nat.le_of_ble_eq_true rfl)) dX15_permission_25 ⟨by show _ + 0 ≤ 0; omega, by show _ + 0 ≤ 0; omega⟩) hS (fun q _ h => hFc q h) hFc (fun r_138 cu_137 t H1 locs ht hvm hw hB hz1 hk1 hS => ?_)
    obtain ⟨F_139, u15_140, u17_141, u18_142, u19_143, u20_144, u21_145, u22_146, hB1, hq_147, hq_148, hq_149⟩ := hB
    obtain ⟨hP, hD, hO, hR⟩ := QTm.back hB1 ht hFc hR (fun q h => by simp only [List.mem_cons, List.not_mem_nil, or_false] at h ⊢; omega)
    generalize H1 = H at hP hS ⊢
    have hw : (cu_137 = 11 → r_138 = 6) := hw
    have hw_150 := hw
    refine W.widen (k := 0) (n := 0) (by omega) (by omega) ?_
    exact W.iret (v := r_138) hx hb hr (fun t ht hWm => ⟨⟨r_138, (), rfl, trivial, ⟨F_139, QTm.mk ht hP hD hO hR⟩⟩, hS.F ht⟩) hS.2.2 dX15_permission_28
  ·
    refine lv_iconst (v := (-1)) hx hb dX15_permission_7 (by decide) ?_
    refine W.widen (k := 0) (n := 0) (by omega) (by omega) ?_
    exact W.iret (v := (-1)) hx hb hr (fun t ht hWm => ⟨⟨(-1), (), rfl, trivial, ⟨F, QTm.mk ht hP hD hO hR⟩⟩, hS.F ht⟩) hS.2.2 dX15_permission_8
set_option maxHeartbeats 4000000 in
set_option maxRecDepth 100000 in
theorem s_X15_wanted (l : Launch) (dC : Nat → ClassId) (dI : Nat → Nat → Nat) (cs : Nat → ClassId) (ty : TyM) (gm : Nat → Nat → Nat) (L : List Nat) (sz : Nat) (F : Nat → va_E) (g0 : Nat) (σ : Nat) (tx : Nat) (n : Nat) (Bn : Nat) (y0 : Nat) (y1 : Nat) (y2 : Nat) (tbx : Nat) (z : Nat) (q : Nat) (v : Nat) (k0 : Nat) (C : Nat → Int32) (hW : WTm ty gm L) (hL_g0 : g0 ∈ L) (hT_g0 : ty g0 = (13, σ, [tx, n, Bn, y0, y1, y2])) (hL_tx : tx ∈ L) (hT_tx : ty tx = (14, σ + 1, [tbx, n])) (hF0 : F g0 = .inr (13, [.ref tx, .ref y0, .ref y1, .ref y2, .int (nI z)])) (hz40 : z ≤ 40) : Met l yX15_wanted (.code yX15_wanted cX15_wanted 2 (some .int) :: tb) ({ frames := 7, cells := 0, slots := 0, locals := 154 }) (va_Pc [.ref g0, .ref q] (PTEm (dC, dI) cs ty gm L F sz [(q, v, k0, C)])) (va_Qi (fun (r : Int32) (_ : Unit) => True) (fun _ T9 => ∃ F2 : Nat → va_E, QTm (dC, dI) cs ty gm L [] F F2 (va_A (va_pl L F) sz) T9) (va_A (va_pl L F) sz)) 0 0 (va_A (va_pl L F) sz) := by
  refine Met.ofW (cc := cX15_wanted) (maxL := 2) (ret := (some .int)) (by decide) rfl ?_
  intro p e s m args below meth c s₁ B hml hv
  obtain ⟨rfl, ⟨hsz, hP, hK, hD0, hE, hO⟩, hG, hX⟩ := hv
  have hx := B.exec
  have hb := B.bytes
  have hr := B.returns
  have hts : ∀ w ∈ tb, w.before _ s = true := fun w h => atoms_spec (ws := .code yX15_wanted cX15_wanted 2 (some .int) :: tb) B.pre w (List.mem_cons_of_mem _ h)
  have hown : s.vm.findClass RX15 = some m.cls := findClass_of_methodNamed B.named
  have hlocks := B.notSynchronized
  subst hsz
  have hD := hD0.self (sz := s.heap.size)
  generalize hAe : va_A (va_pl L F) s.heap.size = A at hD hG hX ⊢
  have hX_q : SXc q v k0 C A s s.heap := hX (q, v, k0, C) (by simp)
  obtain ⟨xo_q, xc_q, xv_q, xt_q, xn_q⟩ := id hX_q
  have hA : ∀ q : Nat, s.heap.size ≤ q → A q := fun q h => by rw [← hAe]; exact Or.inr h
  have hS : va_S A s.heap s.heap [] := va_S.rf
  have hR : FR ty [] F F := FR.refl
  have hl := lv_entry ([.ref g0, .ref q]) (n := 2) (Nat.le_of_ble_eq_true rfl)
  rw [lg_entry_eq]
  generalize (lg_sl ([.ref g0, .ref q]) ++ List.replicate (2 - (lg_sl ([.ref g0, .ref q])).length) Slot.unset).toArray = ls at hl ⊢
  have hl : lv_has ls 2 [(0, .ref g0), (1, .ref q)] := hl
  refine lv_aload_n hx hb dX15_wanted_0 rfl (lv_at hl 0 rfl) ?_
  refine lv_aload_n hx hb dX15_wanted_1 rfl (lv_at hl 1 rfl) ?_
  obtain ⟨q_1, v_2, hr_q_1, hX_q_1⟩ := hG.2.2 ("PostGateModel", 573, "none", [110, 111, 110, 101]) (by decide +kernel)
  have hX_q_1 : SXc q_1 v_2 4 (cct [110, 111, 110, 101]) A s s.heap := hX_q_1
  obtain ⟨xo_q_1, xc_q_1, xv_q_1, xt_q_1, xn_q_1⟩ := id hX_q_1
  have hr_q_1 : vk_R "PostGateModel" 573 "none" q_1 s := hr_q_1
  refine va_ldcwS hx hb hown hr_q_1 dX15_wanted_2 ?_
  obtain ⟨_, hi_3, hi_4, hi_5, _, ht_6, ht_7, ht_8, hq_9, hq_10⟩ := hW.tags hL_g0 hT_g0
  obtain ⟨hi_11, ht_12, hq_13⟩ := hW.txt hL_tx hT_tx
  have hFc := pg_free hD hS hA
  refine va_calli (va_runV (As := [.ref q, .ref q_1]) (rest := []) ⟨hx, hb, hml, hown, hts⟩ (s_X13_has l dC dI cs ty gm L s.heap.size F g0 σ tx n Bn y0 y1 y2 tbx z q v k0 C q_1 v_2 4 (cct [110, 111, 110, 101]) hW hL_g0 hT_g0 hL_tx hT_tx hF0 (by first | omega | assumption)) ⟨callB_of 2 hts (gi kt_878) rfl rfl rfl (hts _ kt_844) (hts _ kt_879) (by decide +kernel) ⟨Nat.le_of_ble_eq_true rfl, Nat.le_of_ble_eq_true rfl⟩, (hts _ kt_880), (hts _ kt_881)⟩ ⟨fun a U g mk q => ⟨q.1, PTEm.calling q.2⟩, pg_recv hK hP hL_g0 hF0 (q := (RX13, TX13, 5)) rfl, fun U hU hWm => ⟨rfl, PTEm.mk hU hWm hP hK hD hE hO hG (fun x hx => by simp only [List.mem_cons, List.not_mem_nil, or_false] at hx; rcases hx with hx | hx <;> subst hx <;> first | exact hX_q | exact hX_q_1) hS hFc⟩⟩ rfl rfl hl.1 rfl (lv_room (Nat.le_of_ble_eq_true rfl)) dX15_wanted_5 ⟨by show _ + 0 ≤ 0; omega, by show _ + 0 ≤ 0; omega⟩) hS (fun q _ h => hFc q h) hFc (fun r_14 u t H1 locs ht hvm hw hB hz1 hk1 hS => ?_)
  obtain ⟨F_15, hB1⟩ := hB
  obtain rfl : F = F_15 := (funext (fun a => hB1.2.2.2 a List.not_mem_nil)).symm
  obtain ⟨hP, hD, hO, hR⟩ := QTm.back hB1 ht hFc hR (fun q h => absurd h List.not_mem_nil)
  generalize H1 = H at hP hS ⊢
  have hw : (r_14 = 0 ∨ r_14 = 1) := hw
  have hw_16 := hw
  refine lv_if_eq (tgt := 16) hx hb dX15_wanted_8 (by decide) (fun c_17 => ?_) (fun c_17 => ?_)
  ·
    refine lv_aload_n hx hb dX15_wanted_16 rfl (lv_at hl 0 rfl) ?_
    refine lv_aload_n hx hb dX15_wanted_17 rfl (lv_at hl 1 rfl) ?_
    obtain ⟨q_18, v_19, hr_q_18, hX_q_18⟩ := hG.2.2 ("PostGateModel", 575, "quarantine", [113, 117, 97, 114, 97, 110, 116, 105, 110, 101]) (by decide +kernel)
    have hX_q_18 : SXc q_18 v_19 10 (cct [113, 117, 97, 114, 97, 110, 116, 105, 110, 101]) A s s.heap := hX_q_18
    obtain ⟨xo_q_18, xc_q_18, xv_q_18, xt_q_18, xn_q_18⟩ := id hX_q_18
    have hr_q_18 : vk_R "PostGateModel" 575 "quarantine" q_18 s := hr_q_18
    refine va_ldcwS hx hb hown hr_q_18 dX15_wanted_18 ?_
    have hFc := pg_free hD hS hA
    refine va_calli (va_runV (As := [.ref q, .ref q_18]) (rest := []) ⟨hx, hb, hml, hown, hts⟩ (s_X13_has l dC dI cs ty gm L H.size F g0 σ tx n Bn y0 y1 y2 tbx z q v k0 C q_18 v_19 10 (cct [113, 117, 97, 114, 97, 110, 116, 105, 110, 101]) hW hL_g0 hT_g0 hL_tx hT_tx hF0 (by first | omega | assumption)) ⟨callB_of 2 hts (gi kt_878) rfl rfl rfl (hts _ kt_844) (hts _ kt_879) (by decide +kernel) ⟨Nat.le_of_ble_eq_true rfl, Nat.le_of_ble_eq_true rfl⟩, (hts _ kt_880), (hts _ kt_881)⟩ ⟨fun a U g mk q => ⟨q.1, PTEm.calling q.2⟩, pg_recv hK hP hL_g0 hF0 (q := (RX13, TX13, 5)) rfl, fun U hU hWm => ⟨rfl, PTEm.mk hU hWm hP hK hD hE hO hG (fun x hx => by simp only [List.mem_cons, List.not_mem_nil, or_false] at hx; rcases hx with hx | hx <;> subst hx <;> first | exact hX_q | exact hX_q_18) hS hFc⟩⟩ rfl rfl hl.1 rfl (lv_room (Nat.le_of_ble_eq_true rfl)) dX15_wanted_21 ⟨by show _ + 0 ≤ 0; omega, by show _ + 0 ≤ 0; omega⟩) hS (fun q _ h => hFc q h) hFc (fun r_20 u t H1 locs ht hvm hw hB hz1 hk1 hS => ?_)
    obtain ⟨F_21, hB1⟩ := hB
    obtain rfl : F = F_21 := (funext (fun a => hB1.2.2.2 a List.not_mem_nil)).symm
    obtain ⟨hP, hD, hO, hR⟩ := QTm.back hB1 ht hFc hR (fun q h => absurd h List.not_mem_nil)
    generalize H1 = H at hP hS ⊢
    have hw : (r_20 = 0 ∨ r_20 = 1) := hw
    have hw_22 := hw
    refine lv_if_eq (tgt := 32) hx hb dX15_wanted_24 (by decide) (fun c_23 => ?_) (fun c_23 => ?_)
    ·
      refine lv_aload_n hx hb dX15_wanted_32 rfl (lv_at hl 0 rfl) ?_
      refine lv_aload_n hx hb dX15_wanted_33 rfl (lv_at hl 1 rfl) ?_
      obtain ⟨q_24, v_25, hr_q_24, hX_q_24⟩ := hG.2.2 ("PostGateModel", 577, "reject", [114, 101, 106, 101, 99, 116]) (by decide +kernel)
      have hX_q_24 : SXc q_24 v_25 6 (cct [114, 101, 106, 101, 99, 116]) A s s.heap := hX_q_24
      obtain ⟨xo_q_24, xc_q_24, xv_q_24, xt_q_24, xn_q_24⟩ := id hX_q_24
      have hr_q_24 : vk_R "PostGateModel" 577 "reject" q_24 s := hr_q_24
      refine va_ldcwS hx hb hown hr_q_24 dX15_wanted_34 ?_
      have hFc := pg_free hD hS hA
      refine va_calli (va_runV (As := [.ref q, .ref q_24]) (rest := []) ⟨hx, hb, hml, hown, hts⟩ (s_X13_has l dC dI cs ty gm L H.size F g0 σ tx n Bn y0 y1 y2 tbx z q v k0 C q_24 v_25 6 (cct [114, 101, 106, 101, 99, 116]) hW hL_g0 hT_g0 hL_tx hT_tx hF0 (by first | omega | assumption)) ⟨callB_of 2 hts (gi kt_878) rfl rfl rfl (hts _ kt_844) (hts _ kt_879) (by decide +kernel) ⟨Nat.le_of_ble_eq_true rfl, Nat.le_of_ble_eq_true rfl⟩, (hts _ kt_880), (hts _ kt_881)⟩ ⟨fun a U g mk q => ⟨q.1, PTEm.calling q.2⟩, pg_recv hK hP hL_g0 hF0 (q := (RX13, TX13, 5)) rfl, fun U hU hWm => ⟨rfl, PTEm.mk hU hWm hP hK hD hE hO hG (fun x hx => by simp only [List.mem_cons, List.not_mem_nil, or_false] at hx; rcases hx with hx | hx <;> subst hx <;> first | exact hX_q | exact hX_q_24) hS hFc⟩⟩ rfl rfl hl.1 rfl (lv_room (Nat.le_of_ble_eq_true rfl)) dX15_wanted_37 ⟨by show _ + 0 ≤ 0; omega, by show _ + 0 ≤ 0; omega⟩) hS (fun q _ h => hFc q h) hFc (fun r_26 u t H1 locs ht hvm hw hB hz1 hk1 hS => ?_)
      obtain ⟨F_27, hB1⟩ := hB
      obtain rfl : F = F_27 := (funext (fun a => hB1.2.2.2 a List.not_mem_nil)).symm
      obtain ⟨hP, hD, hO, hR⟩ := QTm.back hB1 ht hFc hR (fun q h => absurd h List.not_mem_nil)
      generalize H1 = H at hP hS ⊢
      have hw : (r_26 = 0 ∨ r_26 = 1) := hw
      have hw_28 := hw
      refine lv_if_eq (tgt := 48) hx hb dX15_wanted_40 (by decide) (fun c_29 => ?_) (fun c_29 => ?_)
      ·
        refine lv_bipush (v := 6) hx hb dX15_wanted_48 (by decide) ?_
        refine W.widen (k := 0) (n := 0) (by omega) (by omega) ?_
        exact W.iret (v := 6) hx hb hr (fun t ht hWm => ⟨⟨6, (), rfl, trivial, ⟨F, QTm.mk ht hP hD hO hR⟩⟩, hS.F ht⟩) hS.2.2 dX15_wanted_50
      ·
        refine lv_bipush (v := 9) hx hb dX15_wanted_43 (by decide) ?_
        refine lv_goto (tgt := 50) hx hb dX15_wanted_45 (by decide) ?_
        refine W.widen (k := 0) (n := 0) (by omega) (by omega) ?_
        exact W.iret (v := 9) hx hb hr (fun t ht hWm => ⟨⟨9, (), rfl, trivial, ⟨F, QTm.mk ht hP hD hO hR⟩⟩, hS.F ht⟩) hS.2.2 dX15_wanted_50
    ·
      refine lv_bipush (v := 8) hx hb dX15_wanted_27 (by decide) ?_
      refine lv_goto (tgt := 50) hx hb dX15_wanted_29 (by decide) ?_
      refine W.widen (k := 0) (n := 0) (by omega) (by omega) ?_
      exact W.iret (v := 8) hx hb hr (fun t ht hWm => ⟨⟨8, (), rfl, trivial, ⟨F, QTm.mk ht hP hD hO hR⟩⟩, hS.F ht⟩) hS.2.2 dX15_wanted_50
  ·
    refine lv_bipush (v := 7) hx hb dX15_wanted_11 (by decide) ?_
    refine lv_goto (tgt := 50) hx hb dX15_wanted_13 (by decide) ?_
    refine W.widen (k := 0) (n := 0) (by omega) (by omega) ?_
    exact W.iret (v := 7) hx hb hr (fun t ht hWm => ⟨⟨7, (), rfl, trivial, ⟨F, QTm.mk ht hP hD hO hR⟩⟩, hS.F ht⟩) hS.2.2 dX15_wanted_50
theorem mxN {x : Int32} {b zd : Nat} (h : x = (-1) ∨ ∃ k : Nat, k ≤ zd ∧ x = nI k) (hb : b ≤ zd) (hz : zd ≤ 10000) : ∃ k : Nat, k ≤ zd ∧ (if x < nI b then nI b else x) = nI k := by
  rcases h with h | ⟨k, hk, h⟩
  · refine ⟨b, hb, ?_⟩
    rw [h]
    rw [if_pos]
    rw [Int32.lt_iff_toInt_lt, nI_toInt (by omega), show ((-1) : Int32).toInt = -1 from by decide]
    omega
  · rw [h]
    split
    · exact ⟨b, hb, rfl⟩
    · exact ⟨k, hk, rfl⟩
set_option maxHeartbeats 4000000 in
set_option maxRecDepth 100000 in
theorem s_X15_houseOf (l : Launch) (dC : Nat → ClassId) (dI : Nat → Nat → Nat) (cs : Nat → ClassId) (ty : TyM) (gm : Nat → Nat → Nat) (L : List Nat) (sz : Nat) (F : Nat → va_E) (h0 : Nat) (ρ : Nat) (ta : Nat) (ou : Nat) (so : Nat) (ad : Nat) (na : Nat) (va : Nat) (lc : Nat) (dm : Nat) (tg : Nat) (pe : Nat) (ml : Nat) (bg : Nat) (co : Nat) (sp : Nat) (nb0 : Nat) (nb1 : Nat) (nb2 : Nat) (pl : Nat) (se : Nat) (ke : Nat) (wi : Nat) (hs : Nat) (mo : Nat) (po : Nat) (nu : Nat) (pr : Nat) (sq : Nat) (xa : Nat) (sa : Nat) (n64 : Nat) (m64 : Nat) (ex : Nat) (wh : Nat) (sd : Nat) (tk : Nat) (hd : Nat) (ak : Nat) (ho : Nat) (ot : Nat) (sx : Nat) (s0 : Nat) (s1 : Nat) (s2 : Nat) (nf : Nat) (bd : Nat) (mm : Nat) (zt : Nat) (dt : Nat) (σ : Nat) (rd : Nat) (nd : Nat) (gt : Nat) (τ : Nat) (rt : Nat) (nt : Nat) (zd : Nat) (hW : WTm ty gm L) (hL_h0 : h0 ∈ L) (hT_h0 : ty h0 = (15, ρ, [ta, ou, so, ad, na, va, lc, dm, tg, pe, ml, bg, co, sp, nb0, nb1, nb2, pl, se, ke, wi, hs, mo, po, nu, pr, sq, xa, sa, n64, m64, ex, wh, sd, tk, hd, ak, ho, ot, sx, s0, s1, s2, nf, bd, mm, zt])) (hL_dt : dt ∈ L) (hT_dt : ty dt = (14, σ, [rd, nd])) (hL_gt : gt ∈ L) (hT_gt : ty gt = (14, τ, [rt, nt])) (hFd : F dt = .inr (14, [.ref rd, .int (nI zd)])) (hzd : zd ≤ nd) (hnt : nd ≤ nt) : Met l yX15_houseOf (.code yX15_houseOf cX15_houseOf 6 none :: tb) ({ frames := 3, cells := 0, slots := 0, locals := 94 }) (va_Pc [.ref h0, .ref dt, .ref gt] (PTm (dC, dI) cs ty gm L F sz)) (va_Qv (fun _ : Unit => True) (fun _ T9 => ∃ F2 : Nat → va_E, ∃ y2 : Nat, QTm (dC, dI) cs ty gm L [τ] F F2 (va_A (va_pl L F) sz) T9 ∧ F2 gt = .inr (14, [.ref rt, .int (nI y2)]) ∧ y2 ≤ zd) (va_A (va_pl L F) sz)) 0 0 (va_A (va_pl L F) sz) := by
  refine Met.ofW (cc := cX15_houseOf) (maxL := 6) (ret := none) (by decide) rfl ?_
  intro p e s m args below meth c s₁ B hml hv
  obtain ⟨rfl, hsz, hP, hK, hD0, hE, hO⟩ := hv
  have hx := B.exec
  have hb := B.bytes
  have hr := B.returns
  have hts : ∀ w ∈ tb, w.before _ s = true := fun w h => atoms_spec (ws := .code yX15_houseOf cX15_houseOf 6 none :: tb) B.pre w (List.mem_cons_of_mem _ h)
  have hown : s.vm.findClass RX15 = some m.cls := findClass_of_methodNamed B.named
  have hlocks := B.notSynchronized
  subst hsz
  have hD := hD0.self (sz := s.heap.size)
  generalize hAe : va_A (va_pl L F) s.heap.size = A at hD ⊢
  have hA : ∀ q : Nat, s.heap.size ≤ q → A q := fun q h => by rw [← hAe]; exact Or.inr h
  have hS : va_S A s.heap s.heap [] := va_S.rf
  have hR : FR ty [τ] F F := FR.refl
  have hl := lv_entry ([.ref h0, .ref dt, .ref gt]) (n := 6) (Nat.le_of_ble_eq_true rfl)
  rw [lg_entry_eq]
  generalize (lg_sl ([.ref h0, .ref dt, .ref gt]) ++ List.replicate (6 - (lg_sl ([.ref h0, .ref dt, .ref gt])).length) Slot.unset).toArray = ls at hl ⊢
  have hl : lv_has ls 6 [(0, .ref h0), (1, .ref dt), (2, .ref gt)] := hl
  obtain ⟨hi_1, ht_2, hi_3, ht_4, hi_5, ht_6, hi_7, ht_8, hi_9, ht_10, hi_11, ht_12, hi_13, ⟨r_14, ht_15⟩, hi_16, ⟨r_17, ht_18⟩, hi_19, ht_20, hi_21, ⟨r_22, ht_23⟩, hi_24, ht_25, hi_26, ht_27, hi_28, ht_29, hi_30, ht_31, hi_32, ht_33, hi_34, ht_35, hi_36, ht_37, hi_38, ⟨r_39, ht_40⟩, hi_41, ht_42, hi_43, ⟨x_44, y0_45, y1_46, y2_47, ht_48⟩, hi_49, ⟨x_50, y0_51, y1_52, y2_53, ht_54⟩, hi_55, ⟨x_56, y_57, w_58, u_59, bl_60, ht_61⟩, hi_62, ht_63, hi_64, ht_65, hi_66, ht_67, hi_68, ht_69, hi_70, ht_71, hi_72, ht_73, hi_74, ht_75, hi_76, ht_77, hi_78, ht_79, hi_80, ht_81, hi_82, ⟨r_83, ht_84⟩, hi_85, ⟨r_86, ht_87⟩, hi_88, ht_89, hi_90, ht_91, hi_92, ⟨r_93, ht_94⟩, hi_95, ⟨r_96, ht_97⟩, hi_98, ⟨r_99, ht_100⟩, hq_101, hq_102, hq_103, hq_104, hq_105, hgO, hgA, hgB⟩ := hW.mod hL_h0 hT_h0
  obtain ⟨hi_106, ht_107, hq_108⟩ := hW.txt hL_dt hT_dt
  obtain ⟨hi_109, ht_110, hq_111⟩ := hW.txt hL_gt hT_gt
  refine lv_iconst (v := (-1)) hx hb dX15_houseOf_0 (by decide) ?_
  refine lv_istore_n (lv' := [(3, .int (-1)), (0, .ref h0), (1, .ref dt), (2, .ref gt)]) hx hb dX15_houseOf_1 rfl hl (by decide) rfl (fun ls hl => ?_)
  refine lv_iconst (v := 0) hx hb dX15_houseOf_2 (by decide) ?_
  refine lv_istore (lv' := [(4, .int 0), (3, .int (-1)), (0, .ref h0), (1, .ref dt), (2, .ref gt)]) hx hb dX15_houseOf_3 hl (by decide) rfl (fun ls hl => ?_)
  refine W.widen (k := 0) (n := 0) (by omega) (by omega) ?_
  refine pl_loopm (σ := Nat × Int32) A (dC, dI) cs ty gm L [τ] F 5 6 (fun (j, w3) => [(4, .int (nI j)), (3, .int w3), (0, .ref h0), (1, .ref dt), (2, .ref gt)]) (fun (j, w3) => []) (fun (j, w3) FF => j ≤ 40 ∧ (w3 = (-1) ∨ ∃ k : Nat, k ≤ zd ∧ w3 = nI k) ∧ FF dt = .inr (14, [.ref rd, .int (nI zd)])) (fun (j, w3) => 40 - j) ?_ (0, (-1)) F (⟨by omega, Or.inl rfl, hFd⟩) hO hR _ _ hP hD hS ls (lv_sub hl [0, 1, 2, 3, 4] rfl)
  rintro ⟨j, w3⟩ F_112 hv_113 hO hR ih_114 H locs hP hD hS ls hl
  have hl : lv_has ls 6 [(4, .int (nI j)), (3, .int w3), (0, .ref h0), (1, .ref dt), (2, .ref gt)] := hl
  have hv_113 : j ≤ 40 ∧ (w3 = (-1) ∨ ∃ k : Nat, k ≤ zd ∧ w3 = nI k) ∧ F_112 dt = .inr (14, [.ref rd, .int (nI zd)]) := hv_113
  refine W.eq (g2 := F0 m 5 ls []) rfl ?_
  obtain ⟨ha1, ha2, ha3⟩ := hv_113
  refine lv_iload hx hb dX15_houseOf_5 (lv_at hl 0 rfl) ?_
  refine lv_aload_n hx hb dX15_houseOf_7 rfl (lv_at hl 2 rfl) ?_
  obtain ⟨zo_115, ze_116, v11_117, v12_118, v14_119, v15_120, v17_121, v18_122, v19_123, v20_124, v21_125, v22_126, v33_127, v52_128, v53_129, v54_130, hF_131, hq_132, hq_133, hq_134, hq_135⟩ := hO.mod hL_h0 hT_h0
  refine pg_get (ci := 15) (v := .int (nI ze_116)) (C := RX15) (T := TX15) (N := 59) hx hb hts it_15 hown hK hP hL_h0 hF_131 rfl 3 (by decide) (hts _ kt_724) (fun _ h9 => h9) rfl dX15_houseOf_8 ?_
  refine lv_icmp_ge (tgt := 60) hx hb dX15_houseOf_11 (by decide) (fun c_136 => ?_) (fun c_136 => ?_)
  ·
    have hi_137 : ze_116 ≤ j := leN (N := ze_116) c_136
    refine lv_iload_n hx hb dX15_houseOf_60 rfl (lv_at hl 1 rfl) ?_
    refine lv_if_ge (tgt := 71) hx hb dX15_houseOf_61 (by decide) (fun c_138 => ?_) (fun c_138 => ?_)
    ·
      obtain ⟨kl, hkl, ekl⟩ := ha2.resolve_left (fun h => absurd (h ▸ c_138) (by decide))
      subst ekl
      refine lv_aload_n hx hb dX15_houseOf_71 rfl (lv_at hl 3 rfl) ?_
      refine pg_get (ci := 14) (v := .int (nI zd)) (C := RX14) (T := TX14) (N := 2) hx hb hts it_14 hown hK hP hL_dt ha3 rfl 1 (by decide) (hts _ kt_709) (fun _ h9 => h9) rfl dX15_houseOf_72 ?_
      refine lv_iload_n hx hb dX15_houseOf_75 rfl (lv_at hl 1 rfl) ?_
      refine lv_isub hx hb dX15_houseOf_76 ?_
      refine lv_topi (fun x_139 ex_139 => ?_)
      obtain rfl : x_139 = (nI (zd - kl)) := ex_139.trans (pk_sub (by omega))
      refine lv_iconst (v := 1) hx hb dX15_houseOf_77 (by decide) ?_
      refine lv_isub hx hb dX15_houseOf_78 ?_
      refine lv_topi (fun x_140 ex_140 => ?_)
      obtain rfl : x_140 = (nI (zd - kl) - 1) := ex_140.trans (rfl)
      refine lv_istore (lv' := [(4, .int (nI (zd - kl) - 1)), (3, .int (nI kl)), (0, .ref h0), (1, .ref dt), (2, .ref gt)]) hx hb dX15_houseOf_79 hl (by decide) rfl (fun ls hl => ?_)
      refine lv_iload_n hx hb dX15_houseOf_81 rfl (lv_at hl 1 rfl) ?_
      refine lv_if_ge (tgt := 89) hx hb dX15_houseOf_82 (by decide) (fun c_141 => ?_) (fun c_141 => absurd (Int32.not_lt.mp (nI_pos (by omega))) c_141)
      refine lv_iconst (v := 1) hx hb dX15_houseOf_89 (by decide) ?_
      refine lv_istore (lv' := [(5, .int 1), (4, .int (nI (zd - kl) - 1)), (3, .int (nI kl)), (0, .ref h0), (1, .ref dt), (2, .ref gt)]) hx hb dX15_houseOf_90 hl (by decide) rfl (fun ls hl => ?_)
      refine lv_iload_n hx hb dX15_houseOf_92 rfl (lv_at hl 2 rfl) ?_
      refine lv_aload_n hx hb dX15_houseOf_93 rfl (lv_at hl 4 rfl) ?_
      refine pg_get (ci := 14) (v := .int (nI zd)) (C := RX14) (T := TX14) (N := 2) hx hb hts it_14 hown hK hP hL_dt ha3 rfl 1 (by decide) (hts _ kt_709) (fun _ h9 => h9) rfl dX15_houseOf_94 ?_
      refine lv_icmp_ne (tgt := 103) hx hb dX15_houseOf_97 (by decide) (fun c_142 => ?_) (fun c_142 => ?_)
      ·
        have hi_143 : kl ≠ zd := fun q => c_142 (by rw [q])
        have hne : kl ≠ zd := by
          intro q
          exact c_142 (by rw [q])
        have e76 : nI (zd - kl) - 1 = nI (zd - kl - 1) := pk_sub (b := 1) (by omega)
        have hl : lv_has ls 6 [(5, .int 1), (4, .int (nI (zd - kl - 1))), (3, .int (nI kl)), (0, .ref h0), (1, .ref dt), (2, .ref gt)] := by have h9 := hl; rw [e76] at h9; exact h9
        refine W.widen (k := 0) (n := 0) (by omega) (by omega) ?_
        refine pl_loopm (σ := Nat × Int32) A (dC, dI) cs ty gm L [τ] F 103 6 (fun (i, w5) => [(5, .int w5), (4, .int (nI i)), (0, .ref h0), (1, .ref dt), (2, .ref gt)]) (fun (i, w5) => []) (fun (i, w5) FF => i ≤ zd ∧ FF dt = .inr (14, [.ref rd, .int (nI zd)])) (fun (i, w5) => i) ?_ ((zd - kl - 1), 1) F_112 (⟨by omega, ha3⟩) hO hR _ _ hP hD hS ls (lv_sub hl [0, 1, 3, 4, 5] rfl)
        rintro ⟨i, w5⟩ F_144 hv_145 hO hR ih_146 H locs hP hD hS ls hl
        have hl : lv_has ls 6 [(5, .int w5), (4, .int (nI i)), (0, .ref h0), (1, .ref dt), (2, .ref gt)] := hl
        have hv_145 : i ≤ zd ∧ F_144 dt = .inr (14, [.ref rd, .int (nI zd)]) := hv_145
        refine W.eq (g2 := F0 m 103 ls []) rfl ?_
        obtain ⟨hb1, hb2⟩ := hv_145
        refine lv_iload hx hb dX15_houseOf_103 (lv_at hl 1 rfl) ?_
        refine lv_if_le (tgt := 140) hx hb dX15_houseOf_105 (by decide) (fun c_147 => ?_) (fun c_147 => ?_)
        ·
          have hi_148 : i ≤ 0 := (nI_leI (a := i) (b := 0) (by omega) (by omega)).mp c_147
          refine lv_aload_n hx hb dX15_houseOf_140 rfl (lv_at hl 4 rfl) ?_
          refine lv_aload_n hx hb dX15_houseOf_141 rfl (lv_at hl 3 rfl) ?_
          refine pg_get (ci := 14) (v := .ref rd) (C := RX14) (T := TX14) (N := 2) hx hb hts it_14 hown hK hP hL_dt hb2 rfl 0 (by decide) (hts _ kt_710) (fun _ h9 => h9) rfl dX15_houseOf_142 ?_
          refine lv_iload hx hb dX15_houseOf_145 (lv_at hl 1 rfl) ?_
          refine lv_aload_n hx hb dX15_houseOf_147 rfl (lv_at hl 3 rfl) ?_
          refine pg_get (ci := 14) (v := .int (nI zd)) (C := RX14) (T := TX14) (N := 2) hx hb hts it_14 hown hK hP hL_dt hb2 rfl 1 (by decide) (hts _ kt_709) (fun _ h9 => h9) rfl dX15_houseOf_148 ?_
          obtain ⟨hq_149, hq_150⟩ := hW.octs hi_106 ht_107
          have hFc := pg_free hD hS hA
          obtain ⟨z_151, hF_152, hq_153⟩ := hO.txt hL_gt hT_gt
          refine va_callv (va_runV (As := [.ref rd, .int (nI i), .int (nI zd)]) (rest := []) ⟨hx, hb, hml, hown, hts⟩ (s_X14_set l dC dI cs ty gm L H.size F_144 gt τ rt nt rd σ nd i zd hW hL_gt hT_gt hi_106 ht_107 (by omega) (by omega) (by omega)) ⟨callB_of 3 hts (gi kt_979) rfl rfl rfl (hts _ kt_676) (hts _ kt_980) (by decide +kernel) ⟨Nat.le_of_ble_eq_true rfl, Nat.le_of_ble_eq_true rfl⟩, (hts _ kt_981), (hts _ kt_982)⟩ ⟨fun a U g mk q => ⟨q.1, PTm.calling q.2⟩, pg_recv hK hP hL_gt hF_152 (q := (RX14, TX14, 2)) rfl, fun U hU hWm => ⟨rfl, PTm.mk hU hWm hP hK hD hE hO⟩⟩ rfl rfl hl.1 rfl (lv_room (Nat.le_of_ble_eq_true rfl)) dX15_houseOf_151 ⟨by show _ + 0 ≤ 0; omega, by show _ + 0 ≤ 0; omega⟩) hS (fun q _ h => hFc q h) hFc (fun u t H1 locs ht hvm hw hB hz1 hk1 hS => ?_)
          obtain ⟨F_155, hB1, hq_156⟩ := hB
          obtain ⟨hP, hD, hO, hR⟩ := QTm.back hB1 ht hFc hR (fun q h => by simp only [List.mem_cons, List.not_mem_nil, or_false] at h ⊢; omega)
          generalize H1 = H at hP hS ⊢
          refine W.widen (k := 0) (n := 0) (by omega) (by omega) ?_
          exact W.vret hx hb hr (fun t ht hWm => ⟨⟨(), rfl, trivial, ⟨F_155, (zd - i), QTm.mk ht hP hD hO hR, hq_156, by omega⟩⟩, hS.F ht⟩) hS.2.2 dX15_houseOf_154
        ·
          have hi_157 : 0 < i := Nat.not_le.mp (fun q => c_147 ((nI_leI (a := i) (b := 0) (by omega) (by omega)).mpr q))
          have hi1 := posN c_147
          refine lv_iinc (v := (nI (i - 1))) (lv' := [(4, .int (nI (i - 1))), (5, .int w5), (0, .ref h0), (1, .ref dt), (2, .ref gt)]) hx hb dX15_houseOf_108 hl (k := 1) rfl (m1N (by omega)) (by decide) rfl (fun ls hl => ?_)
          refine lv_aload_n hx hb dX15_houseOf_111 rfl (lv_at hl 3 rfl) ?_
          refine pg_get (ci := 14) (v := .ref rd) (C := RX14) (T := TX14) (N := 2) hx hb hts it_14 hown hK hP hL_dt hb2 rfl 0 (by decide) (hts _ kt_710) (fun _ h9 => h9) rfl dX15_houseOf_112 ?_
          refine lv_iload hx hb dX15_houseOf_115 (lv_at hl 0 rfl) ?_
          obtain ⟨hq_158, hq_159⟩ := hW.octs hi_106 ht_107
          obtain ⟨f_160, hF_161, hq_162⟩ := hO.octs hi_106 ht_107
          refine pg_bald hx hb hK hP hi_106 1 hF_161 rfl (vp_in_nI (by omega) (by omega)) dX15_houseOf_117 ?_
          refine lv_topi (fun x_163 ex_163 => ?_)
          obtain rfl : x_163 = f_160 (i - 1) := ex_163.trans (congrArg f_160 (show ((nI (i - 1)) : Int32).toNatClampNeg = (i - 1) from nI_clamp (by omega)))
          refine lv_bipush (v := 46) hx hb dX15_houseOf_118 (by decide) ?_
          refine lv_icmp_eq (tgt := 126) hx hb dX15_houseOf_120 (by decide) (fun c_164 => ?_) (fun c_164 => ?_)
          ·
            obtain ⟨x_165, ex_165⟩ : ∃ y : Int32, y = w5 + Int32.ofInt (-1) := ⟨_, rfl⟩
            refine lv_iinc (v := x_165) (lv' := [(5, .int x_165), (4, .int (nI (i - 1))), (0, .ref h0), (1, .ref dt), (2, .ref gt)]) hx hb dX15_houseOf_126 hl (k := 1) rfl (ex_165.symm) (by decide) rfl (fun ls hl => ?_)
            refine lv_iload hx hb dX15_houseOf_129 (lv_at hl 0 rfl) ?_
            refine lv_if_ne (tgt := 103) hx hb dX15_houseOf_131 (by decide) (fun c_166 => ?_) (fun c_166 => ?_)
            ·
              refine W.widen (k := 0) (n := 0) (by omega) (by omega) ?_
              exact ih_146 ((i - 1), x_165) F_144 (⟨by omega, hb2⟩) (by show (i - 1) < i; omega) hO hR _ _ hP hD hS ls (lv_sub hl [0, 1, 2, 3, 4] rfl)
            ·
              refine lv_iinc (v := (nI (i - 1 + 1))) (lv' := [(4, .int (nI (i - 1 + 1))), (5, .int x_165), (0, .ref h0), (1, .ref dt), (2, .ref gt)]) hx hb dX15_houseOf_134 hl (k := 1) rfl (nI_1 (i - 1)) (by decide) rfl (fun ls hl => ?_)
              refine lv_goto (tgt := 140) hx hb dX15_houseOf_137 (by decide) ?_
              refine lv_aload_n hx hb dX15_houseOf_140 rfl (lv_at hl 4 rfl) ?_
              refine lv_aload_n hx hb dX15_houseOf_141 rfl (lv_at hl 3 rfl) ?_
              refine pg_get (ci := 14) (v := .ref rd) (C := RX14) (T := TX14) (N := 2) hx hb hts it_14 hown hK hP hL_dt hb2 rfl 0 (by decide) (hts _ kt_710) (fun _ h9 => h9) rfl dX15_houseOf_142 ?_
              refine lv_iload hx hb dX15_houseOf_145 (lv_at hl 0 rfl) ?_
              refine lv_aload_n hx hb dX15_houseOf_147 rfl (lv_at hl 3 rfl) ?_
              refine pg_get (ci := 14) (v := .int (nI zd)) (C := RX14) (T := TX14) (N := 2) hx hb hts it_14 hown hK hP hL_dt hb2 rfl 1 (by decide) (hts _ kt_709) (fun _ h9 => h9) rfl dX15_houseOf_148 ?_
              have hFc := pg_free hD hS hA
              obtain ⟨z_167, hF_168, hq_169⟩ := hO.txt hL_gt hT_gt
              refine va_callv (va_runV (As := [.ref rd, .int (nI (i - 1 + 1)), .int (nI zd)]) (rest := []) ⟨hx, hb, hml, hown, hts⟩ (s_X14_set l dC dI cs ty gm L H.size F_144 gt τ rt nt rd σ nd (i - 1 + 1) zd hW hL_gt hT_gt hi_106 ht_107 (by omega) (by omega) (by omega)) ⟨callB_of 3 hts (gi kt_979) rfl rfl rfl (hts _ kt_676) (hts _ kt_980) (by decide +kernel) ⟨Nat.le_of_ble_eq_true rfl, Nat.le_of_ble_eq_true rfl⟩, (hts _ kt_981), (hts _ kt_982)⟩ ⟨fun a U g mk q => ⟨q.1, PTm.calling q.2⟩, pg_recv hK hP hL_gt hF_168 (q := (RX14, TX14, 2)) rfl, fun U hU hWm => ⟨rfl, PTm.mk hU hWm hP hK hD hE hO⟩⟩ rfl rfl hl.1 rfl (lv_room (Nat.le_of_ble_eq_true rfl)) dX15_houseOf_151 ⟨by show _ + 0 ≤ 0; omega, by show _ + 0 ≤ 0; omega⟩) hS (fun q _ h => hFc q h) hFc (fun u t H1 locs ht hvm hw hB hz1 hk1 hS => ?_)
              obtain ⟨F_171, hB1, hq_172⟩ := hB
              obtain ⟨hP, hD, hO, hR⟩ := QTm.back hB1 ht hFc hR (fun q h => by simp only [List.mem_cons, List.not_mem_nil, or_false] at h ⊢; omega)
              generalize H1 = H at hP hS ⊢
              refine W.widen (k := 0) (n := 0) (by omega) (by omega) ?_
              exact W.vret hx hb hr (fun t ht hWm => ⟨⟨(), rfl, trivial, ⟨F_171, (zd - (i - 1 + 1)), QTm.mk ht hP hD hO hR, hq_172, by omega⟩⟩, hS.F ht⟩) hS.2.2 dX15_houseOf_154
          ·
            refine lv_goto (tgt := 103) hx hb dX15_houseOf_123 (by decide) ?_
            refine W.widen (k := 0) (n := 0) (by omega) (by omega) ?_
            exact ih_146 ((i - 1), w5) F_144 (⟨by omega, hb2⟩) (by show (i - 1) < i; omega) hO hR _ _ hP hD hS ls (lv_sub hl [1, 0, 2, 3, 4] rfl)
      ·
        have hi_173 : kl = zd := (nI_eq (a := kl) (b := zd) (by omega) (by omega)).mp c_142
        refine lv_iconst (v := 0) hx hb dX15_houseOf_100 (by decide) ?_
        refine lv_istore (lv' := [(4, .int 0), (5, .int 1), (3, .int (nI kl)), (0, .ref h0), (1, .ref dt), (2, .ref gt)]) hx hb dX15_houseOf_101 hl (by decide) rfl (fun ls hl => ?_)
        refine W.widen (k := 0) (n := 0) (by omega) (by omega) ?_
        refine pl_loopm (σ := Nat × Int32) A (dC, dI) cs ty gm L [τ] F 103 6 (fun (i, w5) => [(4, .int (nI i)), (5, .int w5), (0, .ref h0), (1, .ref dt), (2, .ref gt)]) (fun (i, w5) => []) (fun (i, w5) FF => i ≤ zd ∧ FF dt = .inr (14, [.ref rd, .int (nI zd)])) (fun (i, w5) => i) ?_ (0, 1) F_112 (⟨by omega, ha3⟩) hO hR _ _ hP hD hS ls (lv_sub hl [0, 1, 3, 4, 5] rfl)
        rintro ⟨i, w5⟩ F_174 hv_175 hO hR ih_176 H locs hP hD hS ls hl
        have hl : lv_has ls 6 [(4, .int (nI i)), (5, .int w5), (0, .ref h0), (1, .ref dt), (2, .ref gt)] := hl
        have hv_175 : i ≤ zd ∧ F_174 dt = .inr (14, [.ref rd, .int (nI zd)]) := hv_175
        refine W.eq (g2 := F0 m 103 ls []) rfl ?_
        obtain ⟨hb1, hb2⟩ := hv_175
        refine lv_iload hx hb dX15_houseOf_103 (lv_at hl 0 rfl) ?_
        refine lv_if_le (tgt := 140) hx hb dX15_houseOf_105 (by decide) (fun c_177 => ?_) (fun c_177 => ?_)
        ·
          have hi_178 : i ≤ 0 := (nI_leI (a := i) (b := 0) (by omega) (by omega)).mp c_177
          refine lv_aload_n hx hb dX15_houseOf_140 rfl (lv_at hl 4 rfl) ?_
          refine lv_aload_n hx hb dX15_houseOf_141 rfl (lv_at hl 3 rfl) ?_
          refine pg_get (ci := 14) (v := .ref rd) (C := RX14) (T := TX14) (N := 2) hx hb hts it_14 hown hK hP hL_dt hb2 rfl 0 (by decide) (hts _ kt_710) (fun _ h9 => h9) rfl dX15_houseOf_142 ?_
          refine lv_iload hx hb dX15_houseOf_145 (lv_at hl 0 rfl) ?_
          refine lv_aload_n hx hb dX15_houseOf_147 rfl (lv_at hl 3 rfl) ?_
          refine pg_get (ci := 14) (v := .int (nI zd)) (C := RX14) (T := TX14) (N := 2) hx hb hts it_14 hown hK hP hL_dt hb2 rfl 1 (by decide) (hts _ kt_709) (fun _ h9 => h9) rfl dX15_houseOf_148 ?_
          obtain ⟨hq_179, hq_180⟩ := hW.octs hi_106 ht_107
          have hFc := pg_free hD hS hA
          obtain ⟨z_181, hF_182, hq_183⟩ := hO.txt hL_gt hT_gt
          refine va_callv (va_runV (As := [.ref rd, .int (nI i), .int (nI zd)]) (rest := []) ⟨hx, hb, hml, hown, hts⟩ (s_X14_set l dC dI cs ty gm L H.size F_174 gt τ rt nt rd σ nd i zd hW hL_gt hT_gt hi_106 ht_107 (by omega) (by omega) (by omega)) ⟨callB_of 3 hts (gi kt_979) rfl rfl rfl (hts _ kt_676) (hts _ kt_980) (by decide +kernel) ⟨Nat.le_of_ble_eq_true rfl, Nat.le_of_ble_eq_true rfl⟩, (hts _ kt_981), (hts _ kt_982)⟩ ⟨fun a U g mk q => ⟨q.1, PTm.calling q.2⟩, pg_recv hK hP hL_gt hF_182 (q := (RX14, TX14, 2)) rfl, fun U hU hWm => ⟨rfl, PTm.mk hU hWm hP hK hD hE hO⟩⟩ rfl rfl hl.1 rfl (lv_room (Nat.le_of_ble_eq_true rfl)) dX15_houseOf_151 ⟨by show _ + 0 ≤ 0; omega, by show _ + 0 ≤ 0; omega⟩) hS (fun q _ h => hFc q h) hFc (fun u t H1 locs ht hvm hw hB hz1 hk1 hS => ?_)
          obtain ⟨F_185, hB1, hq_186⟩ := hB
          obtain ⟨hP, hD, hO, hR⟩ := QTm.back hB1 ht hFc hR (fun q h => by simp only [List.mem_cons, List.not_mem_nil, or_false] at h ⊢; omega)
          generalize H1 = H at hP hS ⊢
          refine W.widen (k := 0) (n := 0) (by omega) (by omega) ?_
          exact W.vret hx hb hr (fun t ht hWm => ⟨⟨(), rfl, trivial, ⟨F_185, (zd - i), QTm.mk ht hP hD hO hR, hq_186, by omega⟩⟩, hS.F ht⟩) hS.2.2 dX15_houseOf_154
        ·
          have hi_187 : 0 < i := Nat.not_le.mp (fun q => c_177 ((nI_leI (a := i) (b := 0) (by omega) (by omega)).mpr q))
          have hi1 := posN c_177
          refine lv_iinc (v := (nI (i - 1))) (lv' := [(4, .int (nI (i - 1))), (5, .int w5), (0, .ref h0), (1, .ref dt), (2, .ref gt)]) hx hb dX15_houseOf_108 hl (k := 0) rfl (m1N (by omega)) (by decide) rfl (fun ls hl => ?_)
          refine lv_aload_n hx hb dX15_houseOf_111 rfl (lv_at hl 3 rfl) ?_
          refine pg_get (ci := 14) (v := .ref rd) (C := RX14) (T := TX14) (N := 2) hx hb hts it_14 hown hK hP hL_dt hb2 rfl 0 (by decide) (hts _ kt_710) (fun _ h9 => h9) rfl dX15_houseOf_112 ?_
          refine lv_iload hx hb dX15_houseOf_115 (lv_at hl 0 rfl) ?_
          obtain ⟨hq_188, hq_189⟩ := hW.octs hi_106 ht_107
          obtain ⟨f_190, hF_191, hq_192⟩ := hO.octs hi_106 ht_107
          refine pg_bald hx hb hK hP hi_106 1 hF_191 rfl (vp_in_nI (by omega) (by omega)) dX15_houseOf_117 ?_
          refine lv_topi (fun x_193 ex_193 => ?_)
          obtain rfl : x_193 = f_190 (i - 1) := ex_193.trans (congrArg f_190 (show ((nI (i - 1)) : Int32).toNatClampNeg = (i - 1) from nI_clamp (by omega)))
          refine lv_bipush (v := 46) hx hb dX15_houseOf_118 (by decide) ?_
          refine lv_icmp_eq (tgt := 126) hx hb dX15_houseOf_120 (by decide) (fun c_194 => ?_) (fun c_194 => ?_)
          ·
            obtain ⟨x_195, ex_195⟩ : ∃ y : Int32, y = w5 + Int32.ofInt (-1) := ⟨_, rfl⟩
            refine lv_iinc (v := x_195) (lv' := [(5, .int x_195), (4, .int (nI (i - 1))), (0, .ref h0), (1, .ref dt), (2, .ref gt)]) hx hb dX15_houseOf_126 hl (k := 1) rfl (ex_195.symm) (by decide) rfl (fun ls hl => ?_)
            refine lv_iload hx hb dX15_houseOf_129 (lv_at hl 0 rfl) ?_
            refine lv_if_ne (tgt := 103) hx hb dX15_houseOf_131 (by decide) (fun c_196 => ?_) (fun c_196 => ?_)
            ·
              refine W.widen (k := 0) (n := 0) (by omega) (by omega) ?_
              exact ih_176 ((i - 1), x_195) F_174 (⟨by omega, hb2⟩) (by show (i - 1) < i; omega) hO hR _ _ hP hD hS ls (lv_sub hl [1, 0, 2, 3, 4] rfl)
            ·
              refine lv_iinc (v := (nI (i - 1 + 1))) (lv' := [(4, .int (nI (i - 1 + 1))), (5, .int x_195), (0, .ref h0), (1, .ref dt), (2, .ref gt)]) hx hb dX15_houseOf_134 hl (k := 1) rfl (nI_1 (i - 1)) (by decide) rfl (fun ls hl => ?_)
              refine lv_goto (tgt := 140) hx hb dX15_houseOf_137 (by decide) ?_
              refine lv_aload_n hx hb dX15_houseOf_140 rfl (lv_at hl 4 rfl) ?_
              refine lv_aload_n hx hb dX15_houseOf_141 rfl (lv_at hl 3 rfl) ?_
              refine pg_get (ci := 14) (v := .ref rd) (C := RX14) (T := TX14) (N := 2) hx hb hts it_14 hown hK hP hL_dt hb2 rfl 0 (by decide) (hts _ kt_710) (fun _ h9 => h9) rfl dX15_houseOf_142 ?_
              refine lv_iload hx hb dX15_houseOf_145 (lv_at hl 0 rfl) ?_
              refine lv_aload_n hx hb dX15_houseOf_147 rfl (lv_at hl 3 rfl) ?_
              refine pg_get (ci := 14) (v := .int (nI zd)) (C := RX14) (T := TX14) (N := 2) hx hb hts it_14 hown hK hP hL_dt hb2 rfl 1 (by decide) (hts _ kt_709) (fun _ h9 => h9) rfl dX15_houseOf_148 ?_
              have hFc := pg_free hD hS hA
              obtain ⟨z_197, hF_198, hq_199⟩ := hO.txt hL_gt hT_gt
              refine va_callv (va_runV (As := [.ref rd, .int (nI (i - 1 + 1)), .int (nI zd)]) (rest := []) ⟨hx, hb, hml, hown, hts⟩ (s_X14_set l dC dI cs ty gm L H.size F_174 gt τ rt nt rd σ nd (i - 1 + 1) zd hW hL_gt hT_gt hi_106 ht_107 (by omega) (by omega) (by omega)) ⟨callB_of 3 hts (gi kt_979) rfl rfl rfl (hts _ kt_676) (hts _ kt_980) (by decide +kernel) ⟨Nat.le_of_ble_eq_true rfl, Nat.le_of_ble_eq_true rfl⟩, (hts _ kt_981), (hts _ kt_982)⟩ ⟨fun a U g mk q => ⟨q.1, PTm.calling q.2⟩, pg_recv hK hP hL_gt hF_198 (q := (RX14, TX14, 2)) rfl, fun U hU hWm => ⟨rfl, PTm.mk hU hWm hP hK hD hE hO⟩⟩ rfl rfl hl.1 rfl (lv_room (Nat.le_of_ble_eq_true rfl)) dX15_houseOf_151 ⟨by show _ + 0 ≤ 0; omega, by show _ + 0 ≤ 0; omega⟩) hS (fun q _ h => hFc q h) hFc (fun u t H1 locs ht hvm hw hB hz1 hk1 hS => ?_)
              obtain ⟨F_201, hB1, hq_202⟩ := hB
              obtain ⟨hP, hD, hO, hR⟩ := QTm.back hB1 ht hFc hR (fun q h => by simp only [List.mem_cons, List.not_mem_nil, or_false] at h ⊢; omega)
              generalize H1 = H at hP hS ⊢
              refine W.widen (k := 0) (n := 0) (by omega) (by omega) ?_
              exact W.vret hx hb hr (fun t ht hWm => ⟨⟨(), rfl, trivial, ⟨F_201, (zd - (i - 1 + 1)), QTm.mk ht hP hD hO hR, hq_202, by omega⟩⟩, hS.F ht⟩) hS.2.2 dX15_houseOf_154
          ·
            refine lv_goto (tgt := 103) hx hb dX15_houseOf_123 (by decide) ?_
            refine W.widen (k := 0) (n := 0) (by omega) (by omega) ?_
            exact ih_176 ((i - 1), w5) F_174 (⟨by omega, hb2⟩) (by show (i - 1) < i; omega) hO hR _ _ hP hD hS ls (lv_sub hl [0, 1, 2, 3, 4] rfl)
    ·
      refine lv_aload_n hx hb dX15_houseOf_64 rfl (lv_at hl 3 rfl) ?_
      refine pg_get (ci := 14) (v := .int (nI zd)) (C := RX14) (T := TX14) (N := 2) hx hb hts it_14 hown hK hP hL_dt ha3 rfl 1 (by decide) (hts _ kt_709) (fun _ h9 => h9) rfl dX15_houseOf_65 ?_
      refine lv_goto (tgt := 79) hx hb dX15_houseOf_68 (by decide) ?_
      refine lv_istore (lv' := [(4, .int (nI zd)), (3, .int w3), (0, .ref h0), (1, .ref dt), (2, .ref gt)]) hx hb dX15_houseOf_79 hl (by decide) rfl (fun ls hl => ?_)
      refine lv_iload_n hx hb dX15_houseOf_81 rfl (lv_at hl 1 rfl) ?_
      refine lv_if_ge (tgt := 89) hx hb dX15_houseOf_82 (by decide) (fun c_203 => absurd c_203 (c_138)) (fun c_203 => ?_)
      refine lv_iconst (v := 2) hx hb dX15_houseOf_85 (by decide) ?_
      refine lv_goto (tgt := 90) hx hb dX15_houseOf_86 (by decide) ?_
      refine lv_istore (lv' := [(5, .int 2), (4, .int (nI zd)), (3, .int w3), (0, .ref h0), (1, .ref dt), (2, .ref gt)]) hx hb dX15_houseOf_90 hl (by decide) rfl (fun ls hl => ?_)
      refine lv_iload_n hx hb dX15_houseOf_92 rfl (lv_at hl 2 rfl) ?_
      refine lv_aload_n hx hb dX15_houseOf_93 rfl (lv_at hl 4 rfl) ?_
      refine pg_get (ci := 14) (v := .int (nI zd)) (C := RX14) (T := TX14) (N := 2) hx hb hts it_14 hown hK hP hL_dt ha3 rfl 1 (by decide) (hts _ kt_709) (fun _ h9 => h9) rfl dX15_houseOf_94 ?_
      refine lv_icmp_ne (tgt := 103) hx hb dX15_houseOf_97 (by decide) (fun c_204 => ?_) (fun c_204 => ?_)
      ·
        refine W.widen (k := 0) (n := 0) (by omega) (by omega) ?_
        refine pl_loopm (σ := Nat × Int32) A (dC, dI) cs ty gm L [τ] F 103 6 (fun (i, w5) => [(5, .int w5), (4, .int (nI i)), (0, .ref h0), (1, .ref dt), (2, .ref gt)]) (fun (i, w5) => []) (fun (i, w5) FF => i ≤ zd ∧ FF dt = .inr (14, [.ref rd, .int (nI zd)])) (fun (i, w5) => i) ?_ (zd, 2) F_112 (⟨by omega, ha3⟩) hO hR _ _ hP hD hS ls (lv_sub hl [0, 1, 3, 4, 5] rfl)
        rintro ⟨i, w5⟩ F_205 hv_206 hO hR ih_207 H locs hP hD hS ls hl
        have hl : lv_has ls 6 [(5, .int w5), (4, .int (nI i)), (0, .ref h0), (1, .ref dt), (2, .ref gt)] := hl
        have hv_206 : i ≤ zd ∧ F_205 dt = .inr (14, [.ref rd, .int (nI zd)]) := hv_206
        refine W.eq (g2 := F0 m 103 ls []) rfl ?_
        obtain ⟨hb1, hb2⟩ := hv_206
        refine lv_iload hx hb dX15_houseOf_103 (lv_at hl 1 rfl) ?_
        refine lv_if_le (tgt := 140) hx hb dX15_houseOf_105 (by decide) (fun c_208 => ?_) (fun c_208 => ?_)
        ·
          have hi_209 : i ≤ 0 := (nI_leI (a := i) (b := 0) (by omega) (by omega)).mp c_208
          refine lv_aload_n hx hb dX15_houseOf_140 rfl (lv_at hl 4 rfl) ?_
          refine lv_aload_n hx hb dX15_houseOf_141 rfl (lv_at hl 3 rfl) ?_
          refine pg_get (ci := 14) (v := .ref rd) (C := RX14) (T := TX14) (N := 2) hx hb hts it_14 hown hK hP hL_dt hb2 rfl 0 (by decide) (hts _ kt_710) (fun _ h9 => h9) rfl dX15_houseOf_142 ?_
          refine lv_iload hx hb dX15_houseOf_145 (lv_at hl 1 rfl) ?_
          refine lv_aload_n hx hb dX15_houseOf_147 rfl (lv_at hl 3 rfl) ?_
          refine pg_get (ci := 14) (v := .int (nI zd)) (C := RX14) (T := TX14) (N := 2) hx hb hts it_14 hown hK hP hL_dt hb2 rfl 1 (by decide) (hts _ kt_709) (fun _ h9 => h9) rfl dX15_houseOf_148 ?_
          obtain ⟨hq_210, hq_211⟩ := hW.octs hi_106 ht_107
          have hFc := pg_free hD hS hA
          obtain ⟨z_212, hF_213, hq_214⟩ := hO.txt hL_gt hT_gt
          refine va_callv (va_runV (As := [.ref rd, .int (nI i), .int (nI zd)]) (rest := []) ⟨hx, hb, hml, hown, hts⟩ (s_X14_set l dC dI cs ty gm L H.size F_205 gt τ rt nt rd σ nd i zd hW hL_gt hT_gt hi_106 ht_107 (by omega) (by omega) (by omega)) ⟨callB_of 3 hts (gi kt_979) rfl rfl rfl (hts _ kt_676) (hts _ kt_980) (by decide +kernel) ⟨Nat.le_of_ble_eq_true rfl, Nat.le_of_ble_eq_true rfl⟩, (hts _ kt_981), (hts _ kt_982)⟩ ⟨fun a U g mk q => ⟨q.1, PTm.calling q.2⟩, pg_recv hK hP hL_gt hF_213 (q := (RX14, TX14, 2)) rfl, fun U hU hWm => ⟨rfl, PTm.mk hU hWm hP hK hD hE hO⟩⟩ rfl rfl hl.1 rfl (lv_room (Nat.le_of_ble_eq_true rfl)) dX15_houseOf_151 ⟨by show _ + 0 ≤ 0; omega, by show _ + 0 ≤ 0; omega⟩) hS (fun q _ h => hFc q h) hFc (fun u t H1 locs ht hvm hw hB hz1 hk1 hS => ?_)
          obtain ⟨F_216, hB1, hq_217⟩ := hB
          obtain ⟨hP, hD, hO, hR⟩ := QTm.back hB1 ht hFc hR (fun q h => by simp only [List.mem_cons, List.not_mem_nil, or_false] at h ⊢; omega)
          generalize H1 = H at hP hS ⊢
          refine W.widen (k := 0) (n := 0) (by omega) (by omega) ?_
          exact W.vret hx hb hr (fun t ht hWm => ⟨⟨(), rfl, trivial, ⟨F_216, (zd - i), QTm.mk ht hP hD hO hR, hq_217, by omega⟩⟩, hS.F ht⟩) hS.2.2 dX15_houseOf_154
        ·
          have hi_218 : 0 < i := Nat.not_le.mp (fun q => c_208 ((nI_leI (a := i) (b := 0) (by omega) (by omega)).mpr q))
          have hi1 := posN c_208
          refine lv_iinc (v := (nI (i - 1))) (lv' := [(4, .int (nI (i - 1))), (5, .int w5), (0, .ref h0), (1, .ref dt), (2, .ref gt)]) hx hb dX15_houseOf_108 hl (k := 1) rfl (m1N (by omega)) (by decide) rfl (fun ls hl => ?_)
          refine lv_aload_n hx hb dX15_houseOf_111 rfl (lv_at hl 3 rfl) ?_
          refine pg_get (ci := 14) (v := .ref rd) (C := RX14) (T := TX14) (N := 2) hx hb hts it_14 hown hK hP hL_dt hb2 rfl 0 (by decide) (hts _ kt_710) (fun _ h9 => h9) rfl dX15_houseOf_112 ?_
          refine lv_iload hx hb dX15_houseOf_115 (lv_at hl 0 rfl) ?_
          obtain ⟨hq_219, hq_220⟩ := hW.octs hi_106 ht_107
          obtain ⟨f_221, hF_222, hq_223⟩ := hO.octs hi_106 ht_107
          refine pg_bald hx hb hK hP hi_106 1 hF_222 rfl (vp_in_nI (by omega) (by omega)) dX15_houseOf_117 ?_
          refine lv_topi (fun x_224 ex_224 => ?_)
          obtain rfl : x_224 = f_221 (i - 1) := ex_224.trans (congrArg f_221 (show ((nI (i - 1)) : Int32).toNatClampNeg = (i - 1) from nI_clamp (by omega)))
          refine lv_bipush (v := 46) hx hb dX15_houseOf_118 (by decide) ?_
          refine lv_icmp_eq (tgt := 126) hx hb dX15_houseOf_120 (by decide) (fun c_225 => ?_) (fun c_225 => ?_)
          ·
            obtain ⟨x_226, ex_226⟩ : ∃ y : Int32, y = w5 + Int32.ofInt (-1) := ⟨_, rfl⟩
            refine lv_iinc (v := x_226) (lv' := [(5, .int x_226), (4, .int (nI (i - 1))), (0, .ref h0), (1, .ref dt), (2, .ref gt)]) hx hb dX15_houseOf_126 hl (k := 1) rfl (ex_226.symm) (by decide) rfl (fun ls hl => ?_)
            refine lv_iload hx hb dX15_houseOf_129 (lv_at hl 0 rfl) ?_
            refine lv_if_ne (tgt := 103) hx hb dX15_houseOf_131 (by decide) (fun c_227 => ?_) (fun c_227 => ?_)
            ·
              refine W.widen (k := 0) (n := 0) (by omega) (by omega) ?_
              exact ih_207 ((i - 1), x_226) F_205 (⟨by omega, hb2⟩) (by show (i - 1) < i; omega) hO hR _ _ hP hD hS ls (lv_sub hl [0, 1, 2, 3, 4] rfl)
            ·
              refine lv_iinc (v := (nI (i - 1 + 1))) (lv' := [(4, .int (nI (i - 1 + 1))), (5, .int x_226), (0, .ref h0), (1, .ref dt), (2, .ref gt)]) hx hb dX15_houseOf_134 hl (k := 1) rfl (nI_1 (i - 1)) (by decide) rfl (fun ls hl => ?_)
              refine lv_goto (tgt := 140) hx hb dX15_houseOf_137 (by decide) ?_
              refine lv_aload_n hx hb dX15_houseOf_140 rfl (lv_at hl 4 rfl) ?_
              refine lv_aload_n hx hb dX15_houseOf_141 rfl (lv_at hl 3 rfl) ?_
              refine pg_get (ci := 14) (v := .ref rd) (C := RX14) (T := TX14) (N := 2) hx hb hts it_14 hown hK hP hL_dt hb2 rfl 0 (by decide) (hts _ kt_710) (fun _ h9 => h9) rfl dX15_houseOf_142 ?_
              refine lv_iload hx hb dX15_houseOf_145 (lv_at hl 0 rfl) ?_
              refine lv_aload_n hx hb dX15_houseOf_147 rfl (lv_at hl 3 rfl) ?_
              refine pg_get (ci := 14) (v := .int (nI zd)) (C := RX14) (T := TX14) (N := 2) hx hb hts it_14 hown hK hP hL_dt hb2 rfl 1 (by decide) (hts _ kt_709) (fun _ h9 => h9) rfl dX15_houseOf_148 ?_
              have hFc := pg_free hD hS hA
              obtain ⟨z_228, hF_229, hq_230⟩ := hO.txt hL_gt hT_gt
              refine va_callv (va_runV (As := [.ref rd, .int (nI (i - 1 + 1)), .int (nI zd)]) (rest := []) ⟨hx, hb, hml, hown, hts⟩ (s_X14_set l dC dI cs ty gm L H.size F_205 gt τ rt nt rd σ nd (i - 1 + 1) zd hW hL_gt hT_gt hi_106 ht_107 (by omega) (by omega) (by omega)) ⟨callB_of 3 hts (gi kt_979) rfl rfl rfl (hts _ kt_676) (hts _ kt_980) (by decide +kernel) ⟨Nat.le_of_ble_eq_true rfl, Nat.le_of_ble_eq_true rfl⟩, (hts _ kt_981), (hts _ kt_982)⟩ ⟨fun a U g mk q => ⟨q.1, PTm.calling q.2⟩, pg_recv hK hP hL_gt hF_229 (q := (RX14, TX14, 2)) rfl, fun U hU hWm => ⟨rfl, PTm.mk hU hWm hP hK hD hE hO⟩⟩ rfl rfl hl.1 rfl (lv_room (Nat.le_of_ble_eq_true rfl)) dX15_houseOf_151 ⟨by show _ + 0 ≤ 0; omega, by show _ + 0 ≤ 0; omega⟩) hS (fun q _ h => hFc q h) hFc (fun u t H1 locs ht hvm hw hB hz1 hk1 hS => ?_)
              obtain ⟨F_232, hB1, hq_233⟩ := hB
              obtain ⟨hP, hD, hO, hR⟩ := QTm.back hB1 ht hFc hR (fun q h => by simp only [List.mem_cons, List.not_mem_nil, or_false] at h ⊢; omega)
              generalize H1 = H at hP hS ⊢
              refine W.widen (k := 0) (n := 0) (by omega) (by omega) ?_
              exact W.vret hx hb hr (fun t ht hWm => ⟨⟨(), rfl, trivial, ⟨F_232, (zd - (i - 1 + 1)), QTm.mk ht hP hD hO hR, hq_233, by omega⟩⟩, hS.F ht⟩) hS.2.2 dX15_houseOf_154
          ·
            refine lv_goto (tgt := 103) hx hb dX15_houseOf_123 (by decide) ?_
            refine W.widen (k := 0) (n := 0) (by omega) (by omega) ?_
            exact ih_207 ((i - 1), w5) F_205 (⟨by omega, hb2⟩) (by show (i - 1) < i; omega) hO hR _ _ hP hD hS ls (lv_sub hl [1, 0, 2, 3, 4] rfl)
      ·
        refine lv_iconst (v := 0) hx hb dX15_houseOf_100 (by decide) ?_
        refine lv_istore (lv' := [(4, .int 0), (5, .int 2), (3, .int w3), (0, .ref h0), (1, .ref dt), (2, .ref gt)]) hx hb dX15_houseOf_101 hl (by decide) rfl (fun ls hl => ?_)
        refine W.widen (k := 0) (n := 0) (by omega) (by omega) ?_
        refine pl_loopm (σ := Nat × Int32) A (dC, dI) cs ty gm L [τ] F 103 6 (fun (i, w5) => [(4, .int (nI i)), (5, .int w5), (0, .ref h0), (1, .ref dt), (2, .ref gt)]) (fun (i, w5) => []) (fun (i, w5) FF => i ≤ zd ∧ FF dt = .inr (14, [.ref rd, .int (nI zd)])) (fun (i, w5) => i) ?_ (0, 2) F_112 (⟨by omega, ha3⟩) hO hR _ _ hP hD hS ls (lv_sub hl [0, 1, 3, 4, 5] rfl)
        rintro ⟨i, w5⟩ F_234 hv_235 hO hR ih_236 H locs hP hD hS ls hl
        have hl : lv_has ls 6 [(4, .int (nI i)), (5, .int w5), (0, .ref h0), (1, .ref dt), (2, .ref gt)] := hl
        have hv_235 : i ≤ zd ∧ F_234 dt = .inr (14, [.ref rd, .int (nI zd)]) := hv_235
        refine W.eq (g2 := F0 m 103 ls []) rfl ?_
        obtain ⟨hb1, hb2⟩ := hv_235
        refine lv_iload hx hb dX15_houseOf_103 (lv_at hl 0 rfl) ?_
        refine lv_if_le (tgt := 140) hx hb dX15_houseOf_105 (by decide) (fun c_237 => ?_) (fun c_237 => ?_)
        ·
          have hi_238 : i ≤ 0 := (nI_leI (a := i) (b := 0) (by omega) (by omega)).mp c_237
          refine lv_aload_n hx hb dX15_houseOf_140 rfl (lv_at hl 4 rfl) ?_
          refine lv_aload_n hx hb dX15_houseOf_141 rfl (lv_at hl 3 rfl) ?_
          refine pg_get (ci := 14) (v := .ref rd) (C := RX14) (T := TX14) (N := 2) hx hb hts it_14 hown hK hP hL_dt hb2 rfl 0 (by decide) (hts _ kt_710) (fun _ h9 => h9) rfl dX15_houseOf_142 ?_
          refine lv_iload hx hb dX15_houseOf_145 (lv_at hl 0 rfl) ?_
          refine lv_aload_n hx hb dX15_houseOf_147 rfl (lv_at hl 3 rfl) ?_
          refine pg_get (ci := 14) (v := .int (nI zd)) (C := RX14) (T := TX14) (N := 2) hx hb hts it_14 hown hK hP hL_dt hb2 rfl 1 (by decide) (hts _ kt_709) (fun _ h9 => h9) rfl dX15_houseOf_148 ?_
          obtain ⟨hq_239, hq_240⟩ := hW.octs hi_106 ht_107
          have hFc := pg_free hD hS hA
          obtain ⟨z_241, hF_242, hq_243⟩ := hO.txt hL_gt hT_gt
          refine va_callv (va_runV (As := [.ref rd, .int (nI i), .int (nI zd)]) (rest := []) ⟨hx, hb, hml, hown, hts⟩ (s_X14_set l dC dI cs ty gm L H.size F_234 gt τ rt nt rd σ nd i zd hW hL_gt hT_gt hi_106 ht_107 (by omega) (by omega) (by omega)) ⟨callB_of 3 hts (gi kt_979) rfl rfl rfl (hts _ kt_676) (hts _ kt_980) (by decide +kernel) ⟨Nat.le_of_ble_eq_true rfl, Nat.le_of_ble_eq_true rfl⟩, (hts _ kt_981), (hts _ kt_982)⟩ ⟨fun a U g mk q => ⟨q.1, PTm.calling q.2⟩, pg_recv hK hP hL_gt hF_242 (q := (RX14, TX14, 2)) rfl, fun U hU hWm => ⟨rfl, PTm.mk hU hWm hP hK hD hE hO⟩⟩ rfl rfl hl.1 rfl (lv_room (Nat.le_of_ble_eq_true rfl)) dX15_houseOf_151 ⟨by show _ + 0 ≤ 0; omega, by show _ + 0 ≤ 0; omega⟩) hS (fun q _ h => hFc q h) hFc (fun u t H1 locs ht hvm hw hB hz1 hk1 hS => ?_)
          obtain ⟨F_245, hB1, hq_246⟩ := hB
          obtain ⟨hP, hD, hO, hR⟩ := QTm.back hB1 ht hFc hR (fun q h => by simp only [List.mem_cons, List.not_mem_nil, or_false] at h ⊢; omega)
          generalize H1 = H at hP hS ⊢
          refine W.widen (k := 0) (n := 0) (by omega) (by omega) ?_
          exact W.vret hx hb hr (fun t ht hWm => ⟨⟨(), rfl, trivial, ⟨F_245, (zd - i), QTm.mk ht hP hD hO hR, hq_246, by omega⟩⟩, hS.F ht⟩) hS.2.2 dX15_houseOf_154
        ·
          have hi_247 : 0 < i := Nat.not_le.mp (fun q => c_237 ((nI_leI (a := i) (b := 0) (by omega) (by omega)).mpr q))
          have hi1 := posN c_237
          refine lv_iinc (v := (nI (i - 1))) (lv' := [(4, .int (nI (i - 1))), (5, .int w5), (0, .ref h0), (1, .ref dt), (2, .ref gt)]) hx hb dX15_houseOf_108 hl (k := 0) rfl (m1N (by omega)) (by decide) rfl (fun ls hl => ?_)
          refine lv_aload_n hx hb dX15_houseOf_111 rfl (lv_at hl 3 rfl) ?_
          refine pg_get (ci := 14) (v := .ref rd) (C := RX14) (T := TX14) (N := 2) hx hb hts it_14 hown hK hP hL_dt hb2 rfl 0 (by decide) (hts _ kt_710) (fun _ h9 => h9) rfl dX15_houseOf_112 ?_
          refine lv_iload hx hb dX15_houseOf_115 (lv_at hl 0 rfl) ?_
          obtain ⟨hq_248, hq_249⟩ := hW.octs hi_106 ht_107
          obtain ⟨f_250, hF_251, hq_252⟩ := hO.octs hi_106 ht_107
          refine pg_bald hx hb hK hP hi_106 1 hF_251 rfl (vp_in_nI (by omega) (by omega)) dX15_houseOf_117 ?_
          refine lv_topi (fun x_253 ex_253 => ?_)
          obtain rfl : x_253 = f_250 (i - 1) := ex_253.trans (congrArg f_250 (show ((nI (i - 1)) : Int32).toNatClampNeg = (i - 1) from nI_clamp (by omega)))
          refine lv_bipush (v := 46) hx hb dX15_houseOf_118 (by decide) ?_
          refine lv_icmp_eq (tgt := 126) hx hb dX15_houseOf_120 (by decide) (fun c_254 => ?_) (fun c_254 => ?_)
          ·
            obtain ⟨x_255, ex_255⟩ : ∃ y : Int32, y = w5 + Int32.ofInt (-1) := ⟨_, rfl⟩
            refine lv_iinc (v := x_255) (lv' := [(5, .int x_255), (4, .int (nI (i - 1))), (0, .ref h0), (1, .ref dt), (2, .ref gt)]) hx hb dX15_houseOf_126 hl (k := 1) rfl (ex_255.symm) (by decide) rfl (fun ls hl => ?_)
            refine lv_iload hx hb dX15_houseOf_129 (lv_at hl 0 rfl) ?_
            refine lv_if_ne (tgt := 103) hx hb dX15_houseOf_131 (by decide) (fun c_256 => ?_) (fun c_256 => ?_)
            ·
              refine W.widen (k := 0) (n := 0) (by omega) (by omega) ?_
              exact ih_236 ((i - 1), x_255) F_234 (⟨by omega, hb2⟩) (by show (i - 1) < i; omega) hO hR _ _ hP hD hS ls (lv_sub hl [1, 0, 2, 3, 4] rfl)
            ·
              refine lv_iinc (v := (nI (i - 1 + 1))) (lv' := [(4, .int (nI (i - 1 + 1))), (5, .int x_255), (0, .ref h0), (1, .ref dt), (2, .ref gt)]) hx hb dX15_houseOf_134 hl (k := 1) rfl (nI_1 (i - 1)) (by decide) rfl (fun ls hl => ?_)
              refine lv_goto (tgt := 140) hx hb dX15_houseOf_137 (by decide) ?_
              refine lv_aload_n hx hb dX15_houseOf_140 rfl (lv_at hl 4 rfl) ?_
              refine lv_aload_n hx hb dX15_houseOf_141 rfl (lv_at hl 3 rfl) ?_
              refine pg_get (ci := 14) (v := .ref rd) (C := RX14) (T := TX14) (N := 2) hx hb hts it_14 hown hK hP hL_dt hb2 rfl 0 (by decide) (hts _ kt_710) (fun _ h9 => h9) rfl dX15_houseOf_142 ?_
              refine lv_iload hx hb dX15_houseOf_145 (lv_at hl 0 rfl) ?_
              refine lv_aload_n hx hb dX15_houseOf_147 rfl (lv_at hl 3 rfl) ?_
              refine pg_get (ci := 14) (v := .int (nI zd)) (C := RX14) (T := TX14) (N := 2) hx hb hts it_14 hown hK hP hL_dt hb2 rfl 1 (by decide) (hts _ kt_709) (fun _ h9 => h9) rfl dX15_houseOf_148 ?_
              have hFc := pg_free hD hS hA
              obtain ⟨z_257, hF_258, hq_259⟩ := hO.txt hL_gt hT_gt
              refine va_callv (va_runV (As := [.ref rd, .int (nI (i - 1 + 1)), .int (nI zd)]) (rest := []) ⟨hx, hb, hml, hown, hts⟩ (s_X14_set l dC dI cs ty gm L H.size F_234 gt τ rt nt rd σ nd (i - 1 + 1) zd hW hL_gt hT_gt hi_106 ht_107 (by omega) (by omega) (by omega)) ⟨callB_of 3 hts (gi kt_979) rfl rfl rfl (hts _ kt_676) (hts _ kt_980) (by decide +kernel) ⟨Nat.le_of_ble_eq_true rfl, Nat.le_of_ble_eq_true rfl⟩, (hts _ kt_981), (hts _ kt_982)⟩ ⟨fun a U g mk q => ⟨q.1, PTm.calling q.2⟩, pg_recv hK hP hL_gt hF_258 (q := (RX14, TX14, 2)) rfl, fun U hU hWm => ⟨rfl, PTm.mk hU hWm hP hK hD hE hO⟩⟩ rfl rfl hl.1 rfl (lv_room (Nat.le_of_ble_eq_true rfl)) dX15_houseOf_151 ⟨by show _ + 0 ≤ 0; omega, by show _ + 0 ≤ 0; omega⟩) hS (fun q _ h => hFc q h) hFc (fun u t H1 locs ht hvm hw hB hz1 hk1 hS => ?_)
              obtain ⟨F_261, hB1, hq_262⟩ := hB
              obtain ⟨hP, hD, hO, hR⟩ := QTm.back hB1 ht hFc hR (fun q h => by simp only [List.mem_cons, List.not_mem_nil, or_false] at h ⊢; omega)
              generalize H1 = H at hP hS ⊢
              refine W.widen (k := 0) (n := 0) (by omega) (by omega) ?_
              exact W.vret hx hb hr (fun t ht hWm => ⟨⟨(), rfl, trivial, ⟨F_261, (zd - (i - 1 + 1)), QTm.mk ht hP hD hO hR, hq_262, by omega⟩⟩, hS.F ht⟩) hS.2.2 dX15_houseOf_154
          ·
            refine lv_goto (tgt := 103) hx hb dX15_houseOf_123 (by decide) ?_
            refine W.widen (k := 0) (n := 0) (by omega) (by omega) ?_
            exact ih_236 ((i - 1), w5) F_234 (⟨by omega, hb2⟩) (by show (i - 1) < i; omega) hO hR _ _ hP hD hS ls (lv_sub hl [0, 1, 2, 3, 4] rfl)
  ·
    have hi_263 : j < ze_116 := ltN (N := ze_116) c_136
    refine lv_aload_n hx hb dX15_houseOf_14 rfl (lv_at hl 2 rfl) ?_
    refine pg_get (ci := 15) (v := .ref so) (C := RX15) (T := TX15) (N := 59) hx hb hts it_15 hown hK hP hL_h0 hF_131 rfl 5 (by decide) (hts _ kt_718) (fun _ h9 => h9) rfl dX15_houseOf_15 ?_
    refine lv_iload hx hb dX15_houseOf_18 (lv_at hl 0 rfl) ?_
    obtain ⟨hq_264, hq_265⟩ := hW.ints hi_5 ht_6
    obtain ⟨f_266, hF_267⟩ := hO.ints hi_5 ht_6
    refine pg_iald hx hb hK hP hi_5 0 hF_267 rfl (vp_in_nI (by omega) (by omega)) dX15_houseOf_20 ?_
    refine lv_topi (fun x_268 _ => ?_)
    refine lv_iconst (v := 4) hx hb dX15_houseOf_21 (by decide) ?_
    refine lv_icmp_ne (tgt := 54) hx hb dX15_houseOf_22 (by decide) (fun c_269 => ?_) (fun c_269 => ?_)
    ·
      refine lv_iinc (v := (nI (j + 1))) (lv' := [(4, .int (nI (j + 1))), (3, .int w3), (0, .ref h0), (1, .ref dt), (2, .ref gt)]) hx hb dX15_houseOf_54 hl (k := 0) rfl (nI_1 _) (by decide) rfl (fun ls hl => ?_)
      refine lv_goto (tgt := 5) hx hb dX15_houseOf_57 (by decide) ?_
      refine W.widen (k := 0) (n := 0) (by omega) (by omega) ?_
      exact ih_114 ((j + 1), w3) F_112 (⟨by omega, ha2, ha3⟩) (by show 40 - (j + 1) < 40 - j; omega) hO hR _ _ hP hD hS ls (lv_sub hl [0, 1, 2, 3, 4] rfl)
    ·
      refine lv_aload_n hx hb dX15_houseOf_25 rfl (lv_at hl 3 rfl) ?_
      refine lv_aload_n hx hb dX15_houseOf_26 rfl (lv_at hl 2 rfl) ?_
      refine pg_get (ci := 15) (v := .ref na) (C := RX15) (T := TX15) (N := 59) hx hb hts it_15 hown hK hP hL_h0 hF_131 rfl 7 (by decide) (hts _ kt_719) (fun _ h9 => h9) rfl dX15_houseOf_27 ?_
      refine lv_iload hx hb dX15_houseOf_30 (lv_at hl 0 rfl) ?_
      obtain ⟨f_270, hF_271, hq_272⟩ := hO.rtxt hi_9 ht_10
      obtain ⟨b_273, r_274, hbf_275, hi_276, ht_277⟩ := hq_272 j (by omega)
      refine pg_aald (r := b_273) hx hb hK hP hi_9 7 hF_271 rfl (vp_in_nI (by omega) (by omega)) (show f_270 ((nI j) : Int32).toNatClampNeg = _ from by rw [show ((nI j) : Int32) = nI j from rfl, nI_clamp (by omega)]; exact hbf_275) dX15_houseOf_32 ?_
      obtain ⟨hi_278, ht_279, hq_280⟩ := hW.txt hi_276 ht_277
      obtain ⟨z_281, hF_282, hq_283⟩ := hO.txt hi_276 ht_277
      have hFc := pg_free hD hS hA
      refine va_calli (va_runV (As := [.ref b_273]) (rest := []) ⟨hx, hb, hml, hown, hts⟩ (s_X14_isUnder l dC dI cs ty gm L H.size F_112 dt σ rd nd b_273 (ρ + 4) r_274 60 zd z_281 hW hL_dt hT_dt hi_276 ht_277 ha3 hF_282 (by first | omega | assumption) (by first | omega | assumption)) ⟨callB_of 1 hts (gi kt_1002) rfl rfl rfl (hts _ kt_676) (hts _ kt_1003) (by decide +kernel) ⟨Nat.le_of_ble_eq_true rfl, Nat.le_of_ble_eq_true rfl⟩, (hts _ kt_1004), (hts _ kt_1005)⟩ ⟨fun a U g mk q => ⟨q.1, PTm.calling q.2⟩, pg_recv hK hP hL_dt ha3 (q := (RX14, TX14, 2)) rfl, fun U hU hWm => ⟨rfl, PTm.mk hU hWm hP hK hD hE hO⟩⟩ rfl rfl hl.1 rfl (lv_room (Nat.le_of_ble_eq_true rfl)) dX15_houseOf_33 ⟨by show _ + 0 ≤ 0; omega, by show _ + 0 ≤ 0; omega⟩) hS (fun q _ h => hFc q h) hFc (fun r_284 u t H1 locs ht hvm hw hB hz1 hk1 hS => ?_)
      obtain ⟨F_285, hB1⟩ := hB
      obtain rfl : F_112 = F_285 := (funext (fun a => hB1.2.2.2 a List.not_mem_nil)).symm
      obtain ⟨hP, hD, hO, hR⟩ := QTm.back hB1 ht hFc hR (fun q h => absurd h List.not_mem_nil)
      generalize H1 = H at hP hS ⊢
      have hw : (r_284 = 0 ∨ (r_284 = 1 ∧ z_281 ≤ zd)) := hw
      have hw_286 := hw
      refine lv_if_eq (tgt := 54) hx hb dX15_houseOf_36 (by decide) (fun c_287 => ?_) (fun c_287 => ?_)
      ·
        refine lv_iinc (v := (nI (j + 1))) (lv' := [(4, .int (nI (j + 1))), (3, .int w3), (0, .ref h0), (1, .ref dt), (2, .ref gt)]) hx hb dX15_houseOf_54 hl (k := 0) rfl (nI_1 _) (by decide) rfl (fun ls hl => ?_)
        refine lv_goto (tgt := 5) hx hb dX15_houseOf_57 (by decide) ?_
        refine W.widen (k := 0) (n := 0) (by omega) (by omega) ?_
        exact ih_114 ((j + 1), w3) F_112 (⟨by omega, ha2, ha3⟩) (by show 40 - (j + 1) < 40 - j; omega) hO hR _ _ hP hD hS ls (lv_sub hl [0, 1, 2, 3, 4] rfl)
      ·
        have hun := bit1 hw_286 c_287
        refine lv_iload_n hx hb dX15_houseOf_39 rfl (lv_at hl 1 rfl) ?_
        refine lv_aload_n hx hb dX15_houseOf_40 rfl (lv_at hl 2 rfl) ?_
        refine pg_get (ci := 15) (v := .ref na) (C := RX15) (T := TX15) (N := 59) hx hb hts it_15 hown hK hP hL_h0 hF_131 rfl 7 (by decide) (hts _ kt_719) (fun _ h9 => h9) rfl dX15_houseOf_41 ?_
        refine lv_iload hx hb dX15_houseOf_44 (lv_at hl 0 rfl) ?_
        refine pg_aald (r := b_273) hx hb hK hP hi_9 7 hF_271 rfl (vp_in_nI (by omega) (by omega)) (show f_270 ((nI j) : Int32).toNatClampNeg = _ from by rw [show ((nI j) : Int32) = nI j from rfl, nI_clamp (by omega)]; exact hbf_275) dX15_houseOf_46 ?_
        refine pg_get (ci := 14) (v := .int (nI z_281)) (C := RX14) (T := TX14) (N := 2) hx hb hts it_14 hown hK hP hi_276 hF_282 rfl 1 (by decide) (hts _ kt_709) (fun _ h9 => h9) rfl dX15_houseOf_47 ?_
        refine va_mmax hx hb (by rw [hml]; exact hl.1.symm) hown (hts _ kt_1006) (hts _ kt_18) (hts _ kt_19) (hts _ kt_20) (Nat.le_of_ble_eq_true rfl) (Nat.le_of_ble_eq_true rfl) (by show _ ≤ 0; omega) (by show _ ≤ 0; omega) dX15_houseOf_50 ?_
        obtain ⟨km, hkm, ekm⟩ := mxN (b := z_281) ha2 (by omega) (by omega)
        refine lv_topi (fun x_288 ex_288 => ?_)
        obtain rfl : x_288 = (nI km) := ex_288.trans (ekm)
        refine lv_istore_n (lv' := [(3, .int (nI km)), (4, .int (nI j)), (0, .ref h0), (1, .ref dt), (2, .ref gt)]) hx hb dX15_houseOf_53 rfl hl (by decide) rfl (fun ls hl => ?_)
        refine lv_iinc (v := (nI (j + 1))) (lv' := [(4, .int (nI (j + 1))), (3, .int (nI km)), (0, .ref h0), (1, .ref dt), (2, .ref gt)]) hx hb dX15_houseOf_54 hl (k := 1) rfl (nI_1 _) (by decide) rfl (fun ls hl => ?_)
        refine lv_goto (tgt := 5) hx hb dX15_houseOf_57 (by decide) ?_
        refine W.widen (k := 0) (n := 0) (by omega) (by omega) ?_
        exact ih_114 ((j + 1), (nI km)) F_112 (⟨by omega, Or.inr ⟨km, hkm, rfl⟩, ha3⟩) (by show 40 - (j + 1) < 40 - j; omega) hO hR _ _ hP hD hS ls (lv_sub hl [0, 1, 2, 3, 4] rfl)
set_option maxHeartbeats 4000000 in
set_option maxRecDepth 100000 in
theorem s_X15_isAligned (l : Launch) (dC : Nat → ClassId) (dI : Nat → Nat → Nat) (cs : Nat → ClassId) (ty : TyM) (gm : Nat → Nat → Nat) (L : List Nat) (sz : Nat) (F : Nat → va_E) (h0 : Nat) (ρ : Nat) (ta : Nat) (ou : Nat) (so : Nat) (ad : Nat) (na : Nat) (va : Nat) (lc : Nat) (dm : Nat) (tg : Nat) (pe : Nat) (ml : Nat) (bg : Nat) (co : Nat) (sp : Nat) (nb0 : Nat) (nb1 : Nat) (nb2 : Nat) (pl : Nat) (se : Nat) (ke : Nat) (wi : Nat) (hs : Nat) (mo : Nat) (po : Nat) (nu : Nat) (pr : Nat) (sq : Nat) (xa : Nat) (sa : Nat) (n64 : Nat) (m64 : Nat) (ex : Nat) (wh : Nat) (sd : Nat) (tk : Nat) (hd : Nat) (ak : Nat) (ho : Nat) (ot : Nat) (sx : Nat) (s0 : Nat) (s1 : Nat) (s2 : Nat) (nf : Nat) (bd : Nat) (mm : Nat) (zt : Nat) (dt : Nat) (σ : Nat) (rd : Nat) (nd : Nat) (du : Nat) (υ : Nat) (ru : Nat) (nu_ : Nat) (x3 : Int32) (hW : WTm ty gm L) (hL_h0 : h0 ∈ L) (hT_h0 : ty h0 = (15, ρ, [ta, ou, so, ad, na, va, lc, dm, tg, pe, ml, bg, co, sp, nb0, nb1, nb2, pl, se, ke, wi, hs, mo, po, nu, pr, sq, xa, sa, n64, m64, ex, wh, sd, tk, hd, ak, ho, ot, sx, s0, s1, s2, nf, bd, mm, zt])) (hL_dt : dt ∈ L) (hT_dt : ty dt = (14, σ, [rd, nd])) (hL_du : du ∈ L) (hT_du : ty du = (14, υ, [ru, nu_])) (hnd : nd ≤ 6000) (hnu : nu_ ≤ 6000) : Met l yX15_isAligned (.code yX15_isAligned cX15_isAligned 4 (some .boolean) :: tb) ({ frames := 4, cells := 0, slots := 0, locals := 119 }) (va_Pc [.ref h0, .ref dt, .ref du, .int x3] (PTm (dC, dI) cs ty gm L F sz)) (va_Qi (fun (r : Int32) (_ : Unit) => (r = 0 ∨ r = 1)) (fun _ T9 => ∃ F2 : Nat → va_E, QTm (dC, dI) cs ty gm L [ρ + 29, ρ + 30] F F2 (va_A (va_pl L F) sz) T9) (va_A (va_pl L F) sz)) 0 0 (va_A (va_pl L F) sz) := by
  refine Met.ofW (cc := cX15_isAligned) (maxL := 4) (ret := (some .boolean)) (by decide) rfl ?_
  intro p e s m args below meth c s₁ B hml hv
  obtain ⟨rfl, hsz, hP, hK, hD0, hE, hO⟩ := hv
  have hx := B.exec
  have hb := B.bytes
  have hr := B.returns
  have hts : ∀ w ∈ tb, w.before _ s = true := fun w h => atoms_spec (ws := .code yX15_isAligned cX15_isAligned 4 (some .boolean) :: tb) B.pre w (List.mem_cons_of_mem _ h)
  have hown : s.vm.findClass RX15 = some m.cls := findClass_of_methodNamed B.named
  have hlocks := B.notSynchronized
  subst hsz
  have hD := hD0.self (sz := s.heap.size)
  generalize hAe : va_A (va_pl L F) s.heap.size = A at hD ⊢
  have hA : ∀ q : Nat, s.heap.size ≤ q → A q := fun q h => by rw [← hAe]; exact Or.inr h
  have hS : va_S A s.heap s.heap [] := va_S.rf
  have hR : FR ty [ρ + 29, ρ + 30] F F := FR.refl
  have hl := lv_entry ([.ref h0, .ref dt, .ref du, .int x3]) (n := 4) (Nat.le_of_ble_eq_true rfl)
  rw [lg_entry_eq]
  generalize (lg_sl ([.ref h0, .ref dt, .ref du, .int x3]) ++ List.replicate (4 - (lg_sl ([.ref h0, .ref dt, .ref du, .int x3])).length) Slot.unset).toArray = ls at hl ⊢
  have hl : lv_has ls 4 [(0, .ref h0), (1, .ref dt), (2, .ref du), (3, .int x3)] := hl
  obtain ⟨hi_1, ht_2, hi_3, ht_4, hi_5, ht_6, hi_7, ht_8, hi_9, ht_10, hi_11, ht_12, hi_13, ⟨r_14, ht_15⟩, hi_16, ⟨r_17, ht_18⟩, hi_19, ht_20, hi_21, ⟨r_22, ht_23⟩, hi_24, ht_25, hi_26, ht_27, hi_28, ht_29, hi_30, ht_31, hi_32, ht_33, hi_34, ht_35, hi_36, ht_37, hi_38, ⟨r_39, ht_40⟩, hi_41, ht_42, hi_43, ⟨x_44, y0_45, y1_46, y2_47, ht_48⟩, hi_49, ⟨x_50, y0_51, y1_52, y2_53, ht_54⟩, hi_55, ⟨x_56, y_57, w_58, u_59, bl_60, ht_61⟩, hi_62, ht_63, hi_64, ht_65, hi_66, ht_67, hi_68, ht_69, hi_70, ht_71, hi_72, ht_73, hi_74, ht_75, hi_76, ht_77, hi_78, ht_79, hi_80, ht_81, hi_82, ⟨r_83, ht_84⟩, hi_85, ⟨r_86, ht_87⟩, hi_88, ht_89, hi_90, ht_91, hi_92, ⟨r_93, ht_94⟩, hi_95, ⟨r_96, ht_97⟩, hi_98, ⟨r_99, ht_100⟩, hq_101, hq_102, hq_103, hq_104, hq_105, hgO, hgA, hgB⟩ := hW.mod hL_h0 hT_h0
  obtain ⟨hi_106, ht_107, hq_108⟩ := hW.txt hL_dt hT_dt
  obtain ⟨hi_109, ht_110, hq_111⟩ := hW.txt hL_du hT_du
  obtain ⟨hi_112, ht_113, hq_114⟩ := hW.txt hi_95 ht_97
  obtain ⟨hi_115, ht_116, hq_117⟩ := hW.txt hi_98 ht_100
  refine lv_iload_n hx hb dX15_isAligned_0 rfl (lv_at hl 3 rfl) ?_
  refine lv_if_eq (tgt := 10) hx hb dX15_isAligned_1 (by decide) (fun c_118 => ?_) (fun c_118 => ?_)
  ·
    refine lv_aload_n hx hb dX15_isAligned_10 rfl (lv_at hl 0 rfl) ?_
    refine lv_aload_n hx hb dX15_isAligned_11 rfl (lv_at hl 1 rfl) ?_
    refine lv_aload_n hx hb dX15_isAligned_12 rfl (lv_at hl 0 rfl) ?_
    obtain ⟨zo_119, ze_120, v11_121, v12_122, v14_123, v15_124, v17_125, v18_126, v19_127, v20_128, v21_129, v22_130, v33_131, v52_132, v53_133, v54_134, hF_135, hq_136, hq_137, hq_138, hq_139⟩ := hO.mod hL_h0 hT_h0
    refine pg_get (ci := 15) (v := .ref ho) (C := RX15) (T := TX15) (N := 59) hx hb hts it_15 hown hK hP hL_h0 hF_135 rfl 57 (by decide) (hts _ kt_1007) (fun _ h9 => h9) rfl dX15_isAligned_13 ?_
    obtain ⟨z_140, hF_141, hq_142⟩ := hO.txt hL_dt hT_dt
    have hFc := pg_free hD hS hA
    refine va_callv (va_runV (As := [.ref dt, .ref ho]) (rest := []) ⟨hx, hb, hml, hown, hts⟩ (s_X15_houseOf l dC dI cs ty gm L s.heap.size F h0 ρ ta ou so ad na va lc dm tg pe ml bg co sp nb0 nb1 nb2 pl se ke wi hs mo po nu pr sq xa sa n64 m64 ex wh sd tk hd ak ho ot sx s0 s1 s2 nf bd mm zt dt σ rd nd ho (ρ + 29) r_96 6000 z_140 hW hL_h0 hT_h0 hL_dt hT_dt hi_95 ht_97 hF_141 (by first | omega | assumption) (by first | omega | assumption)) ⟨callB_of 2 hts (gi kt_1008) rfl rfl rfl (hts _ kt_669) (hts _ kt_1009) (by decide +kernel) ⟨Nat.le_of_ble_eq_true rfl, Nat.le_of_ble_eq_true rfl⟩, (hts _ kt_1010), (hts _ kt_1011)⟩ ⟨fun a U g mk q => ⟨q.1, PTm.calling q.2⟩, pg_recv hK hP hL_h0 hF_135 (q := (RX15, TX15, 59)) rfl, fun U hU hWm => ⟨rfl, PTm.mk hU hWm hP hK hD hE hO⟩⟩ rfl rfl hl.1 rfl (lv_room (Nat.le_of_ble_eq_true rfl)) dX15_isAligned_16 ⟨by show _ + 0 ≤ 0; omega, by show _ + 0 ≤ 0; omega⟩) hS (fun q _ h => hFc q h) hFc (fun u t H1 locs ht hvm hw hB hz1 hk1 hS => ?_)
    obtain ⟨F_144, y2_145, hB1, hq_146, hq_147⟩ := hB
    obtain ⟨hP, hD, hO, hR⟩ := QTm.back hB1 ht hFc hR (fun q h => by simp only [List.mem_cons, List.not_mem_nil, or_false] at h ⊢; omega)
    have hF_148 : F_144 h0 = .inr (15, (.ref ta) :: (.int (nI zt)) :: (.int (nI zo_119)) :: (.int (nI ze_120)) :: (.ref ou) :: (.ref so) :: (.ref ad) :: (.ref na) :: (.ref va) :: (.ref lc) :: (.ref dm) :: (.int v11_121) :: (.int v12_122) :: (.ref tg) :: (.int v14_123) :: (.int v15_124) :: (.ref pe) :: (.int v17_125) :: (.int v18_126) :: (.int v19_127) :: (.int v20_128) :: (.int v21_129) :: (.int v22_130) :: (.ref ml) :: (.ref bg) :: (.ref co) :: (.ref sp) :: (.ref nb0) :: (.ref nb1) :: (.ref nb2) :: (.int (nI nf)) :: (.int (nI bd)) :: (.int (nI mm)) :: (.int v33_131) :: (.ref pl) :: (.ref se) :: (.ref ke) :: (.ref wi) :: (.ref hs) :: (.ref mo) :: (.ref po) :: (.ref nu) :: (.ref pr) :: (.ref sq) :: (.ref xa) :: (.ref sa) :: (.ref n64) :: (.ref m64) :: (.ref ex) :: (.ref wh) :: (.ref sd) :: (.ref tk) :: (.int v52_132) :: (.int v53_133) :: (.int v54_134) :: (.ref hd) :: (.ref ak) :: (.ref ho) :: (.ref ot) :: []) := (hB1.2.2.2 h0 (by rw [hT_h0]; simp)).trans hF_135
    generalize H1 = H at hP hS ⊢
    refine lv_aload_n hx hb dX15_isAligned_19 rfl (lv_at hl 0 rfl) ?_
    refine lv_aload_n hx hb dX15_isAligned_20 rfl (lv_at hl 2 rfl) ?_
    refine lv_aload_n hx hb dX15_isAligned_21 rfl (lv_at hl 0 rfl) ?_
    refine pg_get (ci := 15) (v := .ref ot) (C := RX15) (T := TX15) (N := 59) hx hb hts it_15 hown hK hP hL_h0 hF_148 rfl 58 (by decide) (hts _ kt_1012) (fun _ h9 => h9) rfl dX15_isAligned_22 ?_
    obtain ⟨z_149, hF_150, hq_151⟩ := hO.txt hL_du hT_du
    have hFc := pg_free hD hS hA
    refine va_callv (va_runV (As := [.ref du, .ref ot]) (rest := []) ⟨hx, hb, hml, hown, hts⟩ (s_X15_houseOf l dC dI cs ty gm L H.size F_144 h0 ρ ta ou so ad na va lc dm tg pe ml bg co sp nb0 nb1 nb2 pl se ke wi hs mo po nu pr sq xa sa n64 m64 ex wh sd tk hd ak ho ot sx s0 s1 s2 nf bd mm zt du υ ru nu_ ot (ρ + 30) r_99 6000 z_149 hW hL_h0 hT_h0 hL_du hT_du hi_98 ht_100 hF_150 (by first | omega | assumption) (by first | omega | assumption)) ⟨callB_of 2 hts (gi kt_1008) rfl rfl rfl (hts _ kt_669) (hts _ kt_1009) (by decide +kernel) ⟨Nat.le_of_ble_eq_true rfl, Nat.le_of_ble_eq_true rfl⟩, (hts _ kt_1010), (hts _ kt_1011)⟩ ⟨fun a U g mk q => ⟨q.1, PTm.calling q.2⟩, pg_recv hK hP hL_h0 hF_148 (q := (RX15, TX15, 59)) rfl, fun U hU hWm => ⟨rfl, PTm.mk hU hWm hP hK hD hE hO⟩⟩ rfl rfl hl.1 rfl (lv_room (Nat.le_of_ble_eq_true rfl)) dX15_isAligned_25 ⟨by show _ + 0 ≤ 0; omega, by show _ + 0 ≤ 0; omega⟩) hS (fun q _ h => hFc q h) hFc (fun u t H1 locs ht hvm hw hB hz1 hk1 hS => ?_)
    obtain ⟨F_153, y2_154, hB1, hq_155, hq_156⟩ := hB
    obtain ⟨hP, hD, hO, hR⟩ := QTm.back hB1 ht hFc hR (fun q h => by simp only [List.mem_cons, List.not_mem_nil, or_false] at h ⊢; omega)
    have hF_157 : F_153 h0 = .inr (15, (.ref ta) :: (.int (nI zt)) :: (.int (nI zo_119)) :: (.int (nI ze_120)) :: (.ref ou) :: (.ref so) :: (.ref ad) :: (.ref na) :: (.ref va) :: (.ref lc) :: (.ref dm) :: (.int v11_121) :: (.int v12_122) :: (.ref tg) :: (.int v14_123) :: (.int v15_124) :: (.ref pe) :: (.int v17_125) :: (.int v18_126) :: (.int v19_127) :: (.int v20_128) :: (.int v21_129) :: (.int v22_130) :: (.ref ml) :: (.ref bg) :: (.ref co) :: (.ref sp) :: (.ref nb0) :: (.ref nb1) :: (.ref nb2) :: (.int (nI nf)) :: (.int (nI bd)) :: (.int (nI mm)) :: (.int v33_131) :: (.ref pl) :: (.ref se) :: (.ref ke) :: (.ref wi) :: (.ref hs) :: (.ref mo) :: (.ref po) :: (.ref nu) :: (.ref pr) :: (.ref sq) :: (.ref xa) :: (.ref sa) :: (.ref n64) :: (.ref m64) :: (.ref ex) :: (.ref wh) :: (.ref sd) :: (.ref tk) :: (.int v52_132) :: (.int v53_133) :: (.int v54_134) :: (.ref hd) :: (.ref ak) :: (.ref ho) :: (.ref ot) :: []) := (hB1.2.2.2 h0 (by rw [hT_h0]; simp)).trans hF_148
    have hF_158 : F_153 ho = .inr (14, [.ref r_96, .int (nI y2_145)]) := (hB1.2.2.2 ho (by rw [ht_97]; simp)).trans hq_146
    generalize H1 = H at hP hS ⊢
    refine lv_aload_n hx hb dX15_isAligned_28 rfl (lv_at hl 0 rfl) ?_
    refine pg_get (ci := 15) (v := .ref ho) (C := RX15) (T := TX15) (N := 59) hx hb hts it_15 hown hK hP hL_h0 hF_157 rfl 57 (by decide) (hts _ kt_1007) (fun _ h9 => h9) rfl dX15_isAligned_29 ?_
    refine lv_aload_n hx hb dX15_isAligned_32 rfl (lv_at hl 0 rfl) ?_
    refine pg_get (ci := 15) (v := .ref ot) (C := RX15) (T := TX15) (N := 59) hx hb hts it_15 hown hK hP hL_h0 hF_157 rfl 58 (by decide) (hts _ kt_1012) (fun _ h9 => h9) rfl dX15_isAligned_33 ?_
    have hFc := pg_free hD hS hA
    refine va_calli (va_runV (As := [.ref ot]) (rest := []) ⟨hx, hb, hml, hown, hts⟩ (s_X14_is_ l dC dI cs ty gm L H.size F_153 ho (ρ + 29) r_96 6000 ot (ρ + 30) r_99 6000 hW hi_95 ht_97 hi_98 ht_100) ⟨callB_of 1 hts (gi kt_720) rfl rfl rfl (hts _ kt_676) (hts _ kt_721) (by decide +kernel) ⟨Nat.le_of_ble_eq_true rfl, Nat.le_of_ble_eq_true rfl⟩, (hts _ kt_722), (hts _ kt_723)⟩ ⟨fun a U g mk q => ⟨q.1, PTm.calling q.2⟩, pg_recv hK hP hi_95 hF_158 (q := (RX14, TX14, 2)) rfl, fun U hU hWm => ⟨rfl, PTm.mk hU hWm hP hK hD hE hO⟩⟩ rfl rfl hl.1 rfl (lv_room (Nat.le_of_ble_eq_true rfl)) dX15_isAligned_36 ⟨by show _ + 0 ≤ 0; omega, by show _ + 0 ≤ 0; omega⟩) hS (fun q _ h => hFc q h) hFc (fun r_159 u t H1 locs ht hvm hw hB hz1 hk1 hS => ?_)
    obtain ⟨F_160, hB1⟩ := hB
    obtain rfl : F_153 = F_160 := (funext (fun a => hB1.2.2.2 a List.not_mem_nil)).symm
    obtain ⟨hP, hD, hO, hR⟩ := QTm.back hB1 ht hFc hR (fun q h => absurd h List.not_mem_nil)
    generalize H1 = H at hP hS ⊢
    have hw : (r_159 = 0 ∨ r_159 = 1) := hw
    have hw_161 := hw
    refine W.widen (k := 0) (n := 0) (by omega) (by omega) ?_
    exact W.zret (v := r_159) (ty := .boolean) hx hb hr (bitN hw_161) (fun t ht hWm => ⟨⟨r_159, (), rfl, hw_161, ⟨F_153, QTm.mk ht hP hD hO hR⟩⟩, hS.F ht⟩) hS.2.2 dX15_isAligned_39
  ·
    refine lv_aload_n hx hb dX15_isAligned_4 rfl (lv_at hl 1 rfl) ?_
    refine lv_aload_n hx hb dX15_isAligned_5 rfl (lv_at hl 2 rfl) ?_
    have hFc := pg_free hD hS hA
    obtain ⟨z_162, hF_163, hq_164⟩ := hO.txt hL_dt hT_dt
    refine va_calli (va_runV (As := [.ref du]) (rest := []) ⟨hx, hb, hml, hown, hts⟩ (s_X14_is_ l dC dI cs ty gm L s.heap.size F dt σ rd nd du υ ru nu_ hW hL_dt hT_dt hL_du hT_du) ⟨callB_of 1 hts (gi kt_720) rfl rfl rfl (hts _ kt_676) (hts _ kt_721) (by decide +kernel) ⟨Nat.le_of_ble_eq_true rfl, Nat.le_of_ble_eq_true rfl⟩, (hts _ kt_722), (hts _ kt_723)⟩ ⟨fun a U g mk q => ⟨q.1, PTm.calling q.2⟩, pg_recv hK hP hL_dt hF_163 (q := (RX14, TX14, 2)) rfl, fun U hU hWm => ⟨rfl, PTm.mk hU hWm hP hK hD hE hO⟩⟩ rfl rfl hl.1 rfl (lv_room (Nat.le_of_ble_eq_true rfl)) dX15_isAligned_6 ⟨by show _ + 0 ≤ 0; omega, by show _ + 0 ≤ 0; omega⟩) hS (fun q _ h => hFc q h) hFc (fun r_165 u t H1 locs ht hvm hw hB hz1 hk1 hS => ?_)
    obtain ⟨F_166, hB1⟩ := hB
    obtain rfl : F = F_166 := (funext (fun a => hB1.2.2.2 a List.not_mem_nil)).symm
    obtain ⟨hP, hD, hO, hR⟩ := QTm.back hB1 ht hFc hR (fun q h => absurd h List.not_mem_nil)
    generalize H1 = H at hP hS ⊢
    have hw : (r_165 = 0 ∨ r_165 = 1) := hw
    have hw_167 := hw
    refine W.widen (k := 0) (n := 0) (by omega) (by omega) ?_
    exact W.zret (v := r_165) (ty := .boolean) hx hb hr (bitN hw_167) (fun t ht hWm => ⟨⟨r_165, (), rfl, hw_167, ⟨F, QTm.mk ht hP hD hO hR⟩⟩, hS.F ht⟩) hS.2.2 dX15_isAligned_9
set_option maxHeartbeats 4000000 in
set_option maxRecDepth 100000 in
theorem s_X15_wantedOf (l : Launch) (dC : Nat → ClassId) (dI : Nat → Nat → Nat) (cs : Nat → ClassId) (ty : TyM) (gm : Nat → Nat → Nat) (L : List Nat) (sz : Nat) (F : Nat → va_E) (h0 : Nat) (ρ : Nat) (ta : Nat) (ou : Nat) (so : Nat) (ad : Nat) (na : Nat) (va : Nat) (lc : Nat) (dm : Nat) (tg : Nat) (pe : Nat) (ml : Nat) (bg : Nat) (co : Nat) (sp : Nat) (nb0 : Nat) (nb1 : Nat) (nb2 : Nat) (pl : Nat) (se : Nat) (ke : Nat) (wi : Nat) (hs : Nat) (mo : Nat) (po : Nat) (nu : Nat) (pr : Nat) (sq : Nat) (xa : Nat) (sa : Nat) (n64 : Nat) (m64 : Nat) (ex : Nat) (wh : Nat) (sd : Nat) (tk : Nat) (hd : Nat) (ak : Nat) (ho : Nat) (ot : Nat) (sx : Nat) (s0 : Nat) (s1 : Nat) (s2 : Nat) (nf : Nat) (bd : Nat) (mm : Nat) (zt : Nat) (dt : Nat) (σ : Nat) (rd : Nat) (nd : Nat) (zd : Nat) (hW : WTm ty gm L) (hL_h0 : h0 ∈ L) (hT_h0 : ty h0 = (15, ρ, [ta, ou, so, ad, na, va, lc, dm, tg, pe, ml, bg, co, sp, nb0, nb1, nb2, pl, se, ke, wi, hs, mo, po, nu, pr, sq, xa, sa, n64, m64, ex, wh, sd, tk, hd, ak, ho, ot, sx, s0, s1, s2, nf, bd, mm, zt])) (hL_dt : dt ∈ L) (hT_dt : ty dt = (14, σ, [rd, nd])) (hFd : F dt = .inr (14, [.ref rd, .int (nI zd)])) (hzd : zd ≤ 5000) (hzn : zd ≤ nd) (hsr : σ ≠ ρ + 24) : Met l yX15_wantedOf (.code yX15_wantedOf cX15_wantedOf 5 (some .int) :: tb) ({ frames := 6, cells := 0, slots := 0, locals := 132 }) (va_Pc [.ref h0, .ref dt] (PTEm (dC, dI) cs ty gm L F sz [])) (va_Qi (fun (r : Int32) (_ : Unit) => (r = (-1) ∨ r = (-2) ∨ ∃ j : Nat, j < 40 ∧ r = nI j)) (fun _ T9 => ∃ F2 : Nat → va_E, QTm (dC, dI) cs ty gm L [ρ + 24] F F2 (va_A (va_pl L F) sz) T9) (va_A (va_pl L F) sz)) 0 0 (va_A (va_pl L F) sz) := by
  refine Met.ofW (cc := cX15_wantedOf) (maxL := 5) (ret := (some .int)) (by decide) rfl ?_
  intro p e s m args below meth c s₁ B hml hv
  obtain ⟨rfl, ⟨hsz, hP, hK, hD0, hE, hO⟩, hG, hX⟩ := hv
  have hx := B.exec
  have hb := B.bytes
  have hr := B.returns
  have hts : ∀ w ∈ tb, w.before _ s = true := fun w h => atoms_spec (ws := .code yX15_wantedOf cX15_wantedOf 5 (some .int) :: tb) B.pre w (List.mem_cons_of_mem _ h)
  have hown : s.vm.findClass RX15 = some m.cls := findClass_of_methodNamed B.named
  have hlocks := B.notSynchronized
  subst hsz
  have hD := hD0.self (sz := s.heap.size)
  generalize hAe : va_A (va_pl L F) s.heap.size = A at hD hG hX ⊢
  have hA : ∀ q : Nat, s.heap.size ≤ q → A q := fun q h => by rw [← hAe]; exact Or.inr h
  have hS : va_S A s.heap s.heap [] := va_S.rf
  have hR : FR ty [ρ + 24] F F := FR.refl
  have hl := lv_entry ([.ref h0, .ref dt]) (n := 5) (Nat.le_of_ble_eq_true rfl)
  rw [lg_entry_eq]
  generalize (lg_sl ([.ref h0, .ref dt]) ++ List.replicate (5 - (lg_sl ([.ref h0, .ref dt])).length) Slot.unset).toArray = ls at hl ⊢
  have hl : lv_has ls 5 [(0, .ref h0), (1, .ref dt)] := hl
  obtain ⟨hi_1, ht_2, hi_3, ht_4, hi_5, ht_6, hi_7, ht_8, hi_9, ht_10, hi_11, ht_12, hi_13, ⟨r_14, ht_15⟩, hi_16, ⟨r_17, ht_18⟩, hi_19, ht_20, hi_21, ⟨r_22, ht_23⟩, hi_24, ht_25, hi_26, ht_27, hi_28, ht_29, hi_30, ht_31, hi_32, ht_33, hi_34, ht_35, hi_36, ht_37, hi_38, ⟨r_39, ht_40⟩, hi_41, ht_42, hi_43, ⟨x_44, y0_45, y1_46, y2_47, ht_48⟩, hi_49, ⟨x_50, y0_51, y1_52, y2_53, ht_54⟩, hi_55, ⟨x_56, y_57, w_58, u_59, bl_60, ht_61⟩, hi_62, ht_63, hi_64, ht_65, hi_66, ht_67, hi_68, ht_69, hi_70, ht_71, hi_72, ht_73, hi_74, ht_75, hi_76, ht_77, hi_78, ht_79, hi_80, ht_81, hi_82, ⟨r_83, ht_84⟩, hi_85, ⟨r_86, ht_87⟩, hi_88, ht_89, hi_90, ht_91, hi_92, ⟨r_93, ht_94⟩, hi_95, ⟨r_96, ht_97⟩, hi_98, ⟨r_99, ht_100⟩, hq_101, hq_102, hq_103, hq_104, hq_105, hgO, hgA, hgB⟩ := hW.mod hL_h0 hT_h0
  obtain ⟨hi_106, ht_107, hq_108⟩ := hW.txt hL_dt hT_dt
  obtain ⟨hi_109, ht_110, hq_111⟩ := hW.txt hi_82 ht_84
  refine lv_aload_n hx hb dX15_wantedOf_0 rfl (lv_at hl 0 rfl) ?_
  obtain ⟨zo_112, ze_113, v11_114, v12_115, v14_116, v15_117, v17_118, v18_119, v19_120, v20_121, v21_122, v22_123, v33_124, v52_125, v53_126, v54_127, hF_128, hq_129, hq_130, hq_131, hq_132⟩ := hO.mod hL_h0 hT_h0
  refine pg_get (ci := 15) (v := .ref wh) (C := RX15) (T := TX15) (N := 59) hx hb hts it_15 hown hK hP hL_h0 hF_128 rfl 49 (by decide) (hts _ kt_953) (fun _ h9 => h9) rfl dX15_wantedOf_1 ?_
  refine lv_iconst (v := 0) hx hb dX15_wantedOf_4 (by decide) ?_
  obtain ⟨z_133, hF_134, hq_135⟩ := hO.txt hi_82 ht_84
  refine pg_put (ci := 14) (v := .int 0) (ty := .int) (C := RX14) (T := TX14) (N := 2) hx hb hts it_14 tyX14 tyX14_ok nmX14 hown hK hP hD hS hi_82 hF_134 rfl 1 (by decide) (hts _ kt_709) (fun _ h9 => h9) rfl (by decide +kernel) (rfl) (rfl) (Nat.le_of_ble_eq_true rfl) dX15_wantedOf_5 (fun H locs hP hD hS => ?_)
  obtain ⟨F_136, he_137, hP, hD, hO, hR⟩ : ∃ G, G = va_up F wh (.inr (14, [.ref r_83, .int 0])) ∧ va_P (dC, dI) vwCl (va_pl L G) H ∧ va_D A (va_pl L G) ∧ OKm cs ty gm L G ∧ FR ty [ρ + 24] F G := ⟨_, rfl, hP, hD, hO.up (shm.txt ht_84 ⟨0, rfl, (by first | omega | assumption | exact Or.inl rfl | exact Or.inr rfl)⟩), hR.up ht_84 (by simp)⟩
  have hF_138 : F_136 wh = .inr (14, [.ref r_83, .int 0]) := by rw [he_137]; exact up_self
  have hF_139 : F_136 h0 = .inr (15, (.ref ta) :: (.int (nI zt)) :: (.int (nI zo_112)) :: (.int (nI ze_113)) :: (.ref ou) :: (.ref so) :: (.ref ad) :: (.ref na) :: (.ref va) :: (.ref lc) :: (.ref dm) :: (.int v11_114) :: (.int v12_115) :: (.ref tg) :: (.int v14_116) :: (.int v15_117) :: (.ref pe) :: (.int v17_118) :: (.int v18_119) :: (.int v19_120) :: (.int v20_121) :: (.int v21_122) :: (.int v22_123) :: (.ref ml) :: (.ref bg) :: (.ref co) :: (.ref sp) :: (.ref nb0) :: (.ref nb1) :: (.ref nb2) :: (.int (nI nf)) :: (.int (nI bd)) :: (.int (nI mm)) :: (.int v33_124) :: (.ref pl) :: (.ref se) :: (.ref ke) :: (.ref wi) :: (.ref hs) :: (.ref mo) :: (.ref po) :: (.ref nu) :: (.ref pr) :: (.ref sq) :: (.ref xa) :: (.ref sa) :: (.ref n64) :: (.ref m64) :: (.ref ex) :: (.ref wh) :: (.ref sd) :: (.ref tk) :: (.int v52_125) :: (.int v53_126) :: (.int v54_127) :: (.ref hd) :: (.ref ak) :: (.ref ho) :: (.ref ot) :: []) := by rw [he_137, up_ne (ne_ty hT_h0 ht_84 (by simp))]; exact hF_128
  refine lv_iconst (v := 0) hx hb dX15_wantedOf_8 (by decide) ?_
  refine lv_istore_n (lv' := [(2, .int 0), (0, .ref h0), (1, .ref dt)]) hx hb dX15_wantedOf_9 rfl hl (by decide) rfl (fun ls hl => ?_)
  refine W.widen (k := 0) (n := 0) (by omega) (by omega) ?_
  have hF_141 : F h0 = .inr (15, (.ref ta) :: (.int (nI zt)) :: (.int (nI zo_112)) :: (.int (nI ze_113)) :: (.ref ou) :: (.ref so) :: (.ref ad) :: (.ref na) :: (.ref va) :: (.ref lc) :: (.ref dm) :: (.int v11_114) :: (.int v12_115) :: (.ref tg) :: (.int v14_116) :: (.int v15_117) :: (.ref pe) :: (.int v17_118) :: (.int v18_119) :: (.int v19_120) :: (.int v20_121) :: (.int v21_122) :: (.int v22_123) :: (.ref ml) :: (.ref bg) :: (.ref co) :: (.ref sp) :: (.ref nb0) :: (.ref nb1) :: (.ref nb2) :: (.int (nI nf)) :: (.int (nI bd)) :: (.int (nI mm)) :: (.int v33_124) :: (.ref pl) :: (.ref se) :: (.ref ke) :: (.ref wi) :: (.ref hs) :: (.ref mo) :: (.ref po) :: (.ref nu) :: (.ref pr) :: (.ref sq) :: (.ref xa) :: (.ref sa) :: (.ref n64) :: (.ref m64) :: (.ref ex) :: (.ref wh) :: (.ref sd) :: (.ref tk) :: (.int v52_125) :: (.int v53_126) :: (.int v54_127) :: (.ref hd) :: (.ref ak) :: (.ref ho) :: (.ref ot) :: []) := (hR h0 (by rw [hT_h0]; simp)).symm.trans hF_139
  refine pl_loopm (σ := Nat) A (dC, dI) cs ty gm L [ρ + 24] F 10 5 (fun j => [(2, .int (nI j)), (0, .ref h0), (1, .ref dt)]) (fun j => []) (fun j FF => j ≤ 7 ∧ FF wh = .inr (14, [.ref r_83, .int (nI j)])) (fun j => 7 - j) ?_ 0 F_136 (⟨by omega, hF_138⟩) hO hR _ _ hP hD hS ls (lv_sub hl [0, 1, 2] rfl)
  rintro j F_140 hv_142 hO hR ih_143 H locs hP hD hS ls hl
  have hl : lv_has ls 5 [(2, .int (nI j)), (0, .ref h0), (1, .ref dt)] := hl
  have hv_142 : j ≤ 7 ∧ F_140 wh = .inr (14, [.ref r_83, .int (nI j)]) := hv_142
  refine W.eq (g2 := F0 m 10 ls []) rfl ?_
  have hF_144 : F_140 h0 = .inr (15, (.ref ta) :: (.int (nI zt)) :: (.int (nI zo_112)) :: (.int (nI ze_113)) :: (.ref ou) :: (.ref so) :: (.ref ad) :: (.ref na) :: (.ref va) :: (.ref lc) :: (.ref dm) :: (.int v11_114) :: (.int v12_115) :: (.ref tg) :: (.int v14_116) :: (.int v15_117) :: (.ref pe) :: (.int v17_118) :: (.int v18_119) :: (.int v19_120) :: (.int v20_121) :: (.int v21_122) :: (.int v22_123) :: (.ref ml) :: (.ref bg) :: (.ref co) :: (.ref sp) :: (.ref nb0) :: (.ref nb1) :: (.ref nb2) :: (.int (nI nf)) :: (.int (nI bd)) :: (.int (nI mm)) :: (.int v33_124) :: (.ref pl) :: (.ref se) :: (.ref ke) :: (.ref wi) :: (.ref hs) :: (.ref mo) :: (.ref po) :: (.ref nu) :: (.ref pr) :: (.ref sq) :: (.ref xa) :: (.ref sa) :: (.ref n64) :: (.ref m64) :: (.ref ex) :: (.ref wh) :: (.ref sd) :: (.ref tk) :: (.int v52_125) :: (.int v53_126) :: (.int v54_127) :: (.ref hd) :: (.ref ak) :: (.ref ho) :: (.ref ot) :: []) := (hR h0 (by rw [hT_h0]; simp)).trans hF_141
  obtain ⟨ha1, ha2⟩ := hv_142
  have hFd2 : F_140 dt = .inr (14, [.ref rd, .int (nI zd)]) := (hR dt (by rw [hT_dt]; simp; exact hsr)).trans hFd
  refine lv_iload_n hx hb dX15_wantedOf_10 rfl (lv_at hl 0 rfl) ?_
  refine lv_bipush (v := 7) hx hb dX15_wantedOf_11 (by decide) ?_
  refine lv_icmp_ge (tgt := 36) hx hb dX15_wantedOf_13 (by decide) (fun c_145 => ?_) (fun c_145 => ?_)
  ·
    have hi_146 : 7 ≤ j := leN (N := 7) c_145
    refine lv_aload_n hx hb dX15_wantedOf_36 rfl (lv_at hl 1 rfl) ?_
    refine pg_get (ci := 15) (v := .ref wh) (C := RX15) (T := TX15) (N := 59) hx hb hts it_15 hown hK hP hL_h0 hF_144 rfl 49 (by decide) (hts _ kt_953) (fun _ h9 => h9) rfl dX15_wantedOf_37 ?_
    refine lv_aload_n hx hb dX15_wantedOf_40 rfl (lv_at hl 2 rfl) ?_
    refine pg_get (ci := 14) (v := .ref rd) (C := RX14) (T := TX14) (N := 2) hx hb hts it_14 hown hK hP hL_dt hFd2 rfl 0 (by decide) (hts _ kt_710) (fun _ h9 => h9) rfl dX15_wantedOf_41 ?_
    refine lv_iconst (v := 0) hx hb dX15_wantedOf_44 (by decide) ?_
    refine lv_aload_n hx hb dX15_wantedOf_45 rfl (lv_at hl 2 rfl) ?_
    refine pg_get (ci := 14) (v := .int (nI zd)) (C := RX14) (T := TX14) (N := 2) hx hb hts it_14 hown hK hP hL_dt hFd2 rfl 1 (by decide) (hts _ kt_709) (fun _ h9 => h9) rfl dX15_wantedOf_46 ?_
    refine W.eq (g2 := F0 m 49 ls [.int (nI zd), .int (nI 0), .ref rd, .ref wh]) rfl ?_
    obtain ⟨hq_147, hq_148⟩ := hW.octs hi_106 ht_107
    have hFc := pg_free hD hS hA
    refine va_callv (va_runV (As := [.ref rd, .int (nI 0), .int (nI zd)]) (rest := []) ⟨hx, hb, hml, hown, hts⟩ (s_X14_add_ l dC dI cs ty gm L H.size F_140 wh (ρ + 24) r_83 6000 rd σ nd j 0 zd hW hi_82 ht_84 hi_106 ht_107 ha2 (by first | omega | assumption) (by first | omega | assumption) (by first | omega | assumption)) ⟨callB_of 3 hts (gi kt_675) rfl rfl rfl (hts _ kt_676) (hts _ kt_776) (by decide +kernel) ⟨Nat.le_of_ble_eq_true rfl, Nat.le_of_ble_eq_true rfl⟩, (hts _ kt_678), (hts _ kt_679)⟩ ⟨fun a U g mk q => ⟨q.1, PTm.calling q.2⟩, pg_recv hK hP hi_82 ha2 (q := (RX14, TX14, 2)) rfl, fun U hU hWm => ⟨rfl, PTm.mk hU hWm hP hK hD hE hO⟩⟩ rfl rfl hl.1 rfl (lv_room (Nat.le_of_ble_eq_true rfl)) dX15_wantedOf_49 ⟨by show _ + 0 ≤ 0; omega, by show _ + 0 ≤ 0; omega⟩) hS (fun q _ h => hFc q h) hFc (fun u t H1 locs ht hvm hw hB hz1 hk1 hS => ?_)
    obtain ⟨F_150, hB1, hq_151⟩ := hB
    obtain ⟨hP, hD, hO, hR⟩ := QTm.back hB1 ht hFc hR (fun q h => by simp only [List.mem_cons, List.not_mem_nil, or_false] at h ⊢; omega)
    have hF_152 : F_150 h0 = .inr (15, (.ref ta) :: (.int (nI zt)) :: (.int (nI zo_112)) :: (.int (nI ze_113)) :: (.ref ou) :: (.ref so) :: (.ref ad) :: (.ref na) :: (.ref va) :: (.ref lc) :: (.ref dm) :: (.int v11_114) :: (.int v12_115) :: (.ref tg) :: (.int v14_116) :: (.int v15_117) :: (.ref pe) :: (.int v17_118) :: (.int v18_119) :: (.int v19_120) :: (.int v20_121) :: (.int v21_122) :: (.int v22_123) :: (.ref ml) :: (.ref bg) :: (.ref co) :: (.ref sp) :: (.ref nb0) :: (.ref nb1) :: (.ref nb2) :: (.int (nI nf)) :: (.int (nI bd)) :: (.int (nI mm)) :: (.int v33_124) :: (.ref pl) :: (.ref se) :: (.ref ke) :: (.ref wi) :: (.ref hs) :: (.ref mo) :: (.ref po) :: (.ref nu) :: (.ref pr) :: (.ref sq) :: (.ref xa) :: (.ref sa) :: (.ref n64) :: (.ref m64) :: (.ref ex) :: (.ref wh) :: (.ref sd) :: (.ref tk) :: (.int v52_125) :: (.int v53_126) :: (.int v54_127) :: (.ref hd) :: (.ref ak) :: (.ref ho) :: (.ref ot) :: []) := (hB1.2.2.2 h0 (by rw [hT_h0]; simp)).trans hF_144
    generalize H1 = H at hP hS ⊢
    refine lv_aload_n hx hb dX15_wantedOf_52 rfl (lv_at hl 1 rfl) ?_
    refine lv_aload_n hx hb dX15_wantedOf_53 rfl (lv_at hl 1 rfl) ?_
    refine pg_get (ci := 15) (v := .ref wh) (C := RX15) (T := TX15) (N := 59) hx hb hts it_15 hown hK hP hL_h0 hF_152 rfl 49 (by decide) (hts _ kt_953) (fun _ h9 => h9) rfl dX15_wantedOf_54 ?_
    have hFc := pg_free hD hS hA
    refine va_calli (va_runV (As := [.ref wh]) (rest := []) ⟨hx, hb, hml, hown, hts⟩ (s_X15_isTrouble l dC dI cs ty gm L H.size F_150 h0 ρ ta ou so ad na va lc dm tg pe ml bg co sp nb0 nb1 nb2 pl se ke wi hs mo po nu pr sq xa sa n64 m64 ex wh sd tk hd ak ho ot sx s0 s1 s2 nf bd mm zt wh (ρ + 24) r_83 6000 hW hL_h0 hT_h0 hi_82 ht_84) ⟨callB_of 1 hts (gi kt_736) rfl rfl rfl (hts _ kt_669) (hts _ kt_737) (by decide +kernel) ⟨Nat.le_of_ble_eq_true rfl, Nat.le_of_ble_eq_true rfl⟩, (hts _ kt_738), (hts _ kt_739)⟩ ⟨fun a U g mk q => ⟨q.1, PTm.calling q.2⟩, pg_recv hK hP hL_h0 hF_152 (q := (RX15, TX15, 59)) rfl, fun U hU hWm => ⟨rfl, PTm.mk hU hWm hP hK hD hE hO⟩⟩ rfl rfl hl.1 rfl (lv_room (Nat.le_of_ble_eq_true rfl)) dX15_wantedOf_57 ⟨by show _ + 0 ≤ 0; omega, by show _ + 0 ≤ 0; omega⟩) hS (fun q _ h => hFc q h) hFc (fun r_153 u t H1 locs ht hvm hw hB hz1 hk1 hS => ?_)
    obtain ⟨F_154, hB1⟩ := hB
    obtain rfl : F_150 = F_154 := (funext (fun a => hB1.2.2.2 a List.not_mem_nil)).symm
    obtain ⟨hP, hD, hO, hR⟩ := QTm.back hB1 ht hFc hR (fun q h => absurd h List.not_mem_nil)
    generalize H1 = H at hP hS ⊢
    have hw : (r_153 = 0 ∨ r_153 = 1) := hw
    have hw_155 := hw
    refine lv_if_eq (tgt := 66) hx hb dX15_wantedOf_60 (by decide) (fun c_156 => ?_) (fun c_156 => ?_)
    ·
      refine lv_iconst (v := (-1)) hx hb dX15_wantedOf_66 (by decide) ?_
      refine lv_istore_n (lv' := [(2, .int (-1)), (0, .ref h0), (1, .ref dt)]) hx hb dX15_wantedOf_67 rfl hl (by decide) rfl (fun ls hl => ?_)
      refine lv_iconst (v := 0) hx hb dX15_wantedOf_68 (by decide) ?_
      refine lv_istore_n (lv' := [(3, .int 0), (2, .int (-1)), (0, .ref h0), (1, .ref dt)]) hx hb dX15_wantedOf_69 rfl hl (by decide) rfl (fun ls hl => ?_)
      refine lv_iconst (v := 0) hx hb dX15_wantedOf_70 (by decide) ?_
      refine lv_istore (lv' := [(4, .int 0), (3, .int 0), (2, .int (-1)), (0, .ref h0), (1, .ref dt)]) hx hb dX15_wantedOf_71 hl (by decide) rfl (fun ls hl => ?_)
      refine W.widen (k := 0) (n := 0) (by omega) (by omega) ?_
      have hF_158 : F h0 = .inr (15, (.ref ta) :: (.int (nI zt)) :: (.int (nI zo_112)) :: (.int (nI ze_113)) :: (.ref ou) :: (.ref so) :: (.ref ad) :: (.ref na) :: (.ref va) :: (.ref lc) :: (.ref dm) :: (.int v11_114) :: (.int v12_115) :: (.ref tg) :: (.int v14_116) :: (.int v15_117) :: (.ref pe) :: (.int v17_118) :: (.int v18_119) :: (.int v19_120) :: (.int v20_121) :: (.int v21_122) :: (.int v22_123) :: (.ref ml) :: (.ref bg) :: (.ref co) :: (.ref sp) :: (.ref nb0) :: (.ref nb1) :: (.ref nb2) :: (.int (nI nf)) :: (.int (nI bd)) :: (.int (nI mm)) :: (.int v33_124) :: (.ref pl) :: (.ref se) :: (.ref ke) :: (.ref wi) :: (.ref hs) :: (.ref mo) :: (.ref po) :: (.ref nu) :: (.ref pr) :: (.ref sq) :: (.ref xa) :: (.ref sa) :: (.ref n64) :: (.ref m64) :: (.ref ex) :: (.ref wh) :: (.ref sd) :: (.ref tk) :: (.int v52_125) :: (.int v53_126) :: (.int v54_127) :: (.ref hd) :: (.ref ak) :: (.ref ho) :: (.ref ot) :: []) := (hR h0 (by rw [hT_h0]; simp)).symm.trans hF_152
      refine pl_loopm (σ := Nat × Int32 × Int32) A (dC, dI) cs ty gm L [ρ + 24] F 73 5 (fun (k, w2, w3) => [(4, .int (nI k)), (3, .int w3), (2, .int w2), (0, .ref h0), (1, .ref dt)]) (fun (k, w2, w3) => []) (fun (k, w2, w3) _ => k ≤ 40 ∧ (w2 = (-1) ∨ ∃ i : Nat, i < 40 ∧ w2 = nI i)) (fun (k, w2, w3) => 40 - k) ?_ (0, (-1), 0) F_150 (⟨by omega, Or.inl rfl⟩) hO hR _ _ hP hD hS ls (lv_sub hl [0, 1, 2, 3, 4] rfl)
      rintro ⟨k, w2, w3⟩ F_157 hv_159 hO hR ih_160 H locs hP hD hS ls hl
      have hl : lv_has ls 5 [(4, .int (nI k)), (3, .int w3), (2, .int w2), (0, .ref h0), (1, .ref dt)] := hl
      have hv_159 : k ≤ 40 ∧ (w2 = (-1) ∨ ∃ i : Nat, i < 40 ∧ w2 = nI i) := hv_159
      refine W.eq (g2 := F0 m 73 ls []) rfl ?_
      have hF_161 : F_157 h0 = .inr (15, (.ref ta) :: (.int (nI zt)) :: (.int (nI zo_112)) :: (.int (nI ze_113)) :: (.ref ou) :: (.ref so) :: (.ref ad) :: (.ref na) :: (.ref va) :: (.ref lc) :: (.ref dm) :: (.int v11_114) :: (.int v12_115) :: (.ref tg) :: (.int v14_116) :: (.int v15_117) :: (.ref pe) :: (.int v17_118) :: (.int v18_119) :: (.int v19_120) :: (.int v20_121) :: (.int v21_122) :: (.int v22_123) :: (.ref ml) :: (.ref bg) :: (.ref co) :: (.ref sp) :: (.ref nb0) :: (.ref nb1) :: (.ref nb2) :: (.int (nI nf)) :: (.int (nI bd)) :: (.int (nI mm)) :: (.int v33_124) :: (.ref pl) :: (.ref se) :: (.ref ke) :: (.ref wi) :: (.ref hs) :: (.ref mo) :: (.ref po) :: (.ref nu) :: (.ref pr) :: (.ref sq) :: (.ref xa) :: (.ref sa) :: (.ref n64) :: (.ref m64) :: (.ref ex) :: (.ref wh) :: (.ref sd) :: (.ref tk) :: (.int v52_125) :: (.int v53_126) :: (.int v54_127) :: (.ref hd) :: (.ref ak) :: (.ref ho) :: (.ref ot) :: []) := (hR h0 (by rw [hT_h0]; simp)).trans hF_158
      obtain ⟨hv1, hv2⟩ := hv_159
      refine lv_iload hx hb dX15_wantedOf_73 (lv_at hl 0 rfl) ?_
      refine lv_aload_n hx hb dX15_wantedOf_75 rfl (lv_at hl 3 rfl) ?_
      refine pg_get (ci := 15) (v := .int (nI ze_113)) (C := RX15) (T := TX15) (N := 59) hx hb hts it_15 hown hK hP hL_h0 hF_161 rfl 3 (by decide) (hts _ kt_724) (fun _ h9 => h9) rfl dX15_wantedOf_76 ?_
      refine lv_icmp_ge (tgt := 141) hx hb dX15_wantedOf_79 (by decide) (fun c_162 => ?_) (fun c_162 => ?_)
      ·
        have hi_163 : ze_113 ≤ k := leN (N := ze_113) c_162
        refine lv_iload_n hx hb dX15_wantedOf_141 rfl (lv_at hl 1 rfl) ?_
        refine lv_iconst (v := 1) hx hb dX15_wantedOf_142 (by decide) ?_
        refine lv_icmp_ne (tgt := 150) hx hb dX15_wantedOf_143 (by decide) (fun c_164 => ?_) (fun c_164 => ?_)
        ·
          refine lv_iconst (v := (-1)) hx hb dX15_wantedOf_150 (by decide) ?_
          refine W.widen (k := 0) (n := 0) (by omega) (by omega) ?_
          exact W.iret (v := (-1)) hx hb hr (fun t ht hWm => ⟨⟨(-1), (), rfl, Or.inl rfl, ⟨F_157, QTm.mk ht hP hD hO hR⟩⟩, hS.F ht⟩) hS.2.2 dX15_wantedOf_151
        ·
          refine lv_iload_n hx hb dX15_wantedOf_146 rfl (lv_at hl 2 rfl) ?_
          refine lv_goto (tgt := 151) hx hb dX15_wantedOf_147 (by decide) ?_
          refine W.widen (k := 0) (n := 0) (by omega) (by omega) ?_
          exact W.iret (v := w2) hx hb hr (fun t ht hWm => ⟨⟨w2, (), rfl, (hv2.imp id Or.inr), ⟨F_157, QTm.mk ht hP hD hO hR⟩⟩, hS.F ht⟩) hS.2.2 dX15_wantedOf_151
      ·
        have hi_165 : k < ze_113 := ltN (N := ze_113) c_162
        refine lv_aload_n hx hb dX15_wantedOf_82 rfl (lv_at hl 3 rfl) ?_
        refine lv_iload hx hb dX15_wantedOf_83 (lv_at hl 0 rfl) ?_
        refine lv_iconst (v := 0) hx hb dX15_wantedOf_85 (by decide) ?_
        refine lv_aload_n hx hb dX15_wantedOf_86 rfl (lv_at hl 3 rfl) ?_
        refine pg_get (ci := 15) (v := .ref wh) (C := RX15) (T := TX15) (N := 59) hx hb hts it_15 hown hK hP hL_h0 hF_161 rfl 49 (by decide) (hts _ kt_953) (fun _ h9 => h9) rfl dX15_wantedOf_87 ?_
        have hFc := pg_free hD hS hA
        refine va_calli (va_runV (As := [.int (nI k), .int 0, .ref wh]) (rest := []) ⟨hx, hb, hml, hown, hts⟩ (s_X15_isOf l dC dI cs ty gm L H.size F_157 h0 ρ ta ou so ad na va lc dm tg pe ml bg co sp nb0 nb1 nb2 pl se ke wi hs mo po nu pr sq xa sa n64 m64 ex wh sd tk hd ak ho ot sx s0 s1 s2 nf bd mm zt k wh (ρ + 24) r_83 6000 0 hW hL_h0 hT_h0 hi_82 ht_84 (by first | omega | assumption)) ⟨callB_of 3 hts (gi kt_725) rfl rfl rfl (hts _ kt_669) (hts _ kt_726) (by decide +kernel) ⟨Nat.le_of_ble_eq_true rfl, Nat.le_of_ble_eq_true rfl⟩, (hts _ kt_727), (hts _ kt_728)⟩ ⟨fun a U g mk q => ⟨q.1, PTm.calling q.2⟩, pg_recv hK hP hL_h0 hF_161 (q := (RX15, TX15, 59)) rfl, fun U hU hWm => ⟨rfl, PTm.mk hU hWm hP hK hD hE hO⟩⟩ rfl rfl hl.1 rfl (lv_room (Nat.le_of_ble_eq_true rfl)) dX15_wantedOf_90 ⟨by show _ + 0 ≤ 0; omega, by show _ + 0 ≤ 0; omega⟩) hS (fun q _ h => hFc q h) hFc (fun r_166 u t H1 locs ht hvm hw hB hz1 hk1 hS => ?_)
        obtain ⟨F_167, hB1⟩ := hB
        obtain rfl : F_157 = F_167 := (funext (fun a => hB1.2.2.2 a List.not_mem_nil)).symm
        obtain ⟨hP, hD, hO, hR⟩ := QTm.back hB1 ht hFc hR (fun q h => absurd h List.not_mem_nil)
        generalize H1 = H at hP hS ⊢
        have hw : (r_166 = 0 ∨ r_166 = 1) := hw
        have hw_168 := hw
        refine lv_if_eq (tgt := 135) hx hb dX15_wantedOf_93 (by decide) (fun c_169 => ?_) (fun c_169 => ?_)
        ·
          refine lv_iinc (v := (nI (k + 1))) (lv' := [(4, .int (nI (k + 1))), (3, .int w3), (2, .int w2), (0, .ref h0), (1, .ref dt)]) hx hb dX15_wantedOf_135 hl (k := 0) rfl (nI_1 _) (by decide) rfl (fun ls hl => ?_)
          refine lv_goto (tgt := 73) hx hb dX15_wantedOf_138 (by decide) ?_
          refine W.widen (k := 0) (n := 0) (by omega) (by omega) ?_
          exact ih_160 ((k + 1), w2, w3) F_157 (⟨by omega, hv2⟩) (by show 40 - (k + 1) < 40 - k; omega) hO hR _ _ hP hD hS ls (lv_sub hl [0, 1, 2, 3, 4] rfl)
        ·
          refine lv_aload_n hx hb dX15_wantedOf_96 rfl (lv_at hl 3 rfl) ?_
          refine pg_get (ci := 15) (v := .ref va) (C := RX15) (T := TX15) (N := 59) hx hb hts it_15 hown hK hP hL_h0 hF_161 rfl 8 (by decide) (hts _ kt_732) (fun _ h9 => h9) rfl dX15_wantedOf_97 ?_
          refine lv_iload hx hb dX15_wantedOf_100 (lv_at hl 0 rfl) ?_
          obtain ⟨f_170, hF_171, hq_172⟩ := hO.rtxt hi_11 ht_12
          obtain ⟨b_173, r_174, hbf_175, hi_176, ht_177⟩ := hq_172 k (by omega)
          refine pg_aald (r := b_173) hx hb hK hP hi_11 7 hF_171 rfl (vp_in_nI (by omega) (by omega)) (show f_170 ((nI k) : Int32).toNatClampNeg = _ from by rw [show ((nI k) : Int32) = nI k from rfl, nI_clamp (by omega)]; exact hbf_175) dX15_wantedOf_102 ?_
          obtain ⟨hi_178, ht_179, hq_180⟩ := hW.txt hi_176 ht_177
          obtain ⟨z_181, hF_182, hq_183⟩ := hO.txt hi_176 ht_177
          refine pg_get (ci := 14) (v := .ref r_174) (C := RX14) (T := TX14) (N := 2) hx hb hts it_14 hown hK hP hi_176 hF_182 rfl 0 (by decide) (hts _ kt_710) (fun _ h9 => h9) rfl dX15_wantedOf_103 ?_
          refine lv_iconst (v := 0) hx hb dX15_wantedOf_106 (by decide) ?_
          refine lv_aload_n hx hb dX15_wantedOf_107 rfl (lv_at hl 3 rfl) ?_
          refine pg_get (ci := 15) (v := .ref va) (C := RX15) (T := TX15) (N := 59) hx hb hts it_15 hown hK hP hL_h0 hF_161 rfl 8 (by decide) (hts _ kt_732) (fun _ h9 => h9) rfl dX15_wantedOf_108 ?_
          refine lv_iload hx hb dX15_wantedOf_111 (lv_at hl 0 rfl) ?_
          obtain ⟨b_184, r_185, hbf_186, hi_187, ht_188⟩ := hq_172 k (by omega)
          refine pg_aald (r := b_184) hx hb hK hP hi_11 7 hF_171 rfl (vp_in_nI (by omega) (by omega)) (show f_170 ((nI k) : Int32).toNatClampNeg = _ from by rw [show ((nI k) : Int32) = nI k from rfl, nI_clamp (by omega)]; exact hbf_186) dX15_wantedOf_113 ?_
          obtain ⟨hi_189, ht_190, hq_191⟩ := hW.txt hi_187 ht_188
          obtain ⟨z_192, hF_193, hq_194⟩ := hO.txt hi_187 ht_188
          refine pg_get (ci := 14) (v := .int (nI z_192)) (C := RX14) (T := TX14) (N := 2) hx hb hts it_14 hown hK hP hi_187 hF_193 rfl 1 (by decide) (hts _ kt_709) (fun _ h9 => h9) rfl dX15_wantedOf_114 ?_
          obtain ⟨q_195, v_196, hr_q_195, hX_q_195⟩ := hG.2.2 ("PostGateModel", 571, "v=DMARC1", [118, 61, 68, 77, 65, 82, 67, 49]) (by decide +kernel)
          have hX_q_195 : SXc q_195 v_196 8 (cct [118, 61, 68, 77, 65, 82, 67, 49]) A s s.heap := hX_q_195
          obtain ⟨xo_q_195, xc_q_195, xv_q_195, xt_q_195, xn_q_195⟩ := id hX_q_195
          have hr_q_195 : vk_R "PostGateModel" 571 "v=DMARC1" q_195 s := hr_q_195
          refine va_ldcwS hx hb hown hr_q_195 dX15_wantedOf_117 ?_
          refine W.eq (g2 := F0 m 120 ls [.ref q_195, .int (nI z_192), .int (nI 0), .ref r_174]) rfl ?_
          obtain ⟨hq_197, hq_198⟩ := hW.octs hi_178 ht_179
          have hFc := pg_free hD hS hA
          refine va_calli (va_runS (As := [.ref r_174, .int (nI 0), .int (nI z_192), .ref q_195]) (rest := []) ⟨hx, hb, hml, hown, hts⟩ (s_X15_begins l dC dI cs ty gm L H.size F_157 r_174 (ρ + 31) 700 q_195 v_196 8 (cct [118, 61, 68, 77, 65, 82, 67, 49]) 0 z_192 hW hi_178 ht_179 (by first | omega | assumption) (by first | omega | assumption)) ⟨callB_of 4 hts (gi kt_733) rfl rfl rfl (hts _ kt_669) (hts _ kt_734) (by decide +kernel) ⟨Nat.le_of_ble_eq_true rfl, Nat.le_of_ble_eq_true rfl⟩, (hts _ kt_735)⟩ ⟨fun a U g mk q => ⟨q.1, PTEm.calling q.2⟩, fun U hU hWm => ⟨rfl, PTEm.mk hU hWm hP hK hD hE hO hG (fun x hx => by rw [List.mem_singleton] at hx; subst hx; exact hX_q_195) hS hFc⟩⟩ rfl rfl hl.1 rfl (lv_room (Nat.le_of_ble_eq_true rfl)) dX15_wantedOf_120 ⟨by show _ + 0 ≤ 0; omega, by show _ + 0 ≤ 0; omega⟩) hS (fun q _ h => hFc q h) hFc (fun r_199 u t H1 locs ht hvm hw hB hz1 hk1 hS => ?_)
          obtain ⟨F_200, hB1⟩ := hB
          obtain rfl : F_157 = F_200 := (funext (fun a => hB1.2.2.2 a List.not_mem_nil)).symm
          obtain ⟨hP, hD, hO, hR⟩ := QTm.back hB1 ht hFc hR (fun q h => absurd h List.not_mem_nil)
          generalize H1 = H at hP hS ⊢
          have hw : ((r_199 = 1 ∧ bgP (gA (F_157 r_174)) 0 z_192 (cct [118, 61, 68, 77, 65, 82, 67, 49]) 8) ∨ (r_199 = 0 ∧ ¬ bgP (gA (F_157 r_174)) 0 z_192 (cct [118, 61, 68, 77, 65, 82, 67, 49]) 8)) := hw
          have hw_201 := hw
          refine lv_if_ne (tgt := 129) hx hb dX15_wantedOf_123 (by decide) (fun c_202 => ?_) (fun c_202 => ?_)
          ·
            refine lv_iload hx hb dX15_wantedOf_129 (lv_at hl 0 rfl) ?_
            refine lv_istore_n (lv' := [(2, .int (nI k)), (4, .int (nI k)), (3, .int w3), (0, .ref h0), (1, .ref dt)]) hx hb dX15_wantedOf_131 rfl hl (by decide) rfl (fun ls hl => ?_)
            obtain ⟨x_203, ex_203⟩ : ∃ y : Int32, y = w3 + Int32.ofInt 1 := ⟨_, rfl⟩
            refine lv_iinc (v := x_203) (lv' := [(3, .int x_203), (2, .int (nI k)), (4, .int (nI k)), (0, .ref h0), (1, .ref dt)]) hx hb dX15_wantedOf_132 hl (k := 2) rfl (ex_203.symm) (by decide) rfl (fun ls hl => ?_)
            refine lv_iinc (v := (nI (k + 1))) (lv' := [(4, .int (nI (k + 1))), (3, .int x_203), (2, .int (nI k)), (0, .ref h0), (1, .ref dt)]) hx hb dX15_wantedOf_135 hl (k := 2) rfl (nI_1 _) (by decide) rfl (fun ls hl => ?_)
            refine lv_goto (tgt := 73) hx hb dX15_wantedOf_138 (by decide) ?_
            refine W.widen (k := 0) (n := 0) (by omega) (by omega) ?_
            exact ih_160 ((k + 1), (nI k), x_203) F_157 (⟨by omega, Or.inr ⟨k, by omega, rfl⟩⟩) (by show 40 - (k + 1) < 40 - k; omega) hO hR _ _ hP hD hS ls (lv_sub hl [0, 1, 2, 3, 4] rfl)
          ·
            refine lv_goto (tgt := 135) hx hb dX15_wantedOf_126 (by decide) ?_
            refine lv_iinc (v := (nI (k + 1))) (lv' := [(4, .int (nI (k + 1))), (3, .int w3), (2, .int w2), (0, .ref h0), (1, .ref dt)]) hx hb dX15_wantedOf_135 hl (k := 0) rfl (nI_1 _) (by decide) rfl (fun ls hl => ?_)
            refine lv_goto (tgt := 73) hx hb dX15_wantedOf_138 (by decide) ?_
            refine W.widen (k := 0) (n := 0) (by omega) (by omega) ?_
            exact ih_160 ((k + 1), w2, w3) F_157 (⟨by omega, hv2⟩) (by show 40 - (k + 1) < 40 - k; omega) hO hR _ _ hP hD hS ls (lv_sub hl [0, 1, 2, 3, 4] rfl)
    ·
      refine lv_bipush (v := (-2)) hx hb dX15_wantedOf_63 (by decide) ?_
      refine W.widen (k := 0) (n := 0) (by omega) (by omega) ?_
      exact W.iret (v := (-2)) hx hb hr (fun t ht hWm => ⟨⟨(-2), (), rfl, Or.inr (Or.inl rfl), ⟨F_150, QTm.mk ht hP hD hO hR⟩⟩, hS.F ht⟩) hS.2.2 dX15_wantedOf_65
  ·
    have hi_204 : j < 7 := ltN (N := 7) c_145
    refine lv_aload_n hx hb dX15_wantedOf_16 rfl (lv_at hl 1 rfl) ?_
    refine pg_get (ci := 15) (v := .ref wh) (C := RX15) (T := TX15) (N := 59) hx hb hts it_15 hown hK hP hL_h0 hF_144 rfl 49 (by decide) (hts _ kt_953) (fun _ h9 => h9) rfl dX15_wantedOf_17 ?_
    obtain ⟨q_205, v_206, hr_q_205, hX_q_205⟩ := hG.2.2 ("PostGateModel", 569, "_dmarc.", [95, 100, 109, 97, 114, 99, 46]) (by decide +kernel)
    have hX_q_205 : SXc q_205 v_206 7 (cct [95, 100, 109, 97, 114, 99, 46]) A s s.heap := hX_q_205
    obtain ⟨xo_q_205, xc_q_205, xv_q_205, xt_q_205, xn_q_205⟩ := id hX_q_205
    have hr_q_205 : vk_R "PostGateModel" 569 "_dmarc." q_205 s := hr_q_205
    refine va_ldcwS hx hb hown hr_q_205 dX15_wantedOf_20 ?_
    refine lv_iload_n hx hb dX15_wantedOf_23 rfl (lv_at hl 0 rfl) ?_
    have hFc := pg_free hD hS hA
    refine va_calli (va_runV (As := [.int (nI j)]) (rest := [.ref wh]) ⟨hx, hb, hml, hown, hts⟩ (m_J0_charAt_5068e l dC dI cs ty gm L H.size F_140 q_205 v_206 7 (cct [95, 100, 109, 97, 114, 99, 46]) j hW (by first | omega | assumption)) ⟨callB_of 1 hts (gi kt_75) rfl rfl rfl (hts _ kt_51) (hts _ kt_693) (by decide +kernel) ⟨Nat.le_of_ble_eq_true rfl, Nat.le_of_ble_eq_true rfl⟩, (hts _ kt_77), (hts _ kt_78)⟩ ⟨fun a U g mk q => ⟨q.1, PTEm.calling q.2⟩, sx_recv hX_q_205.sx hS, fun U hU hWm => ⟨rfl, PTEm.mk hU hWm hP hK hD hE hO hG (fun x hx => by rw [List.mem_singleton] at hx; subst hx; exact hX_q_205) hS hFc⟩⟩ rfl rfl hl.1 rfl (lv_room (Nat.le_of_ble_eq_true rfl)) dX15_wantedOf_24 ⟨by show _ + 0 ≤ 0; omega, by show _ + 0 ≤ 0; omega⟩) hS (fun q _ h => hFc q h) hFc (fun r_207 u t H1 locs ht hvm hw hB hz1 hk1 hS => ?_)
    obtain ⟨F_208, hB1⟩ := hB
    obtain rfl : F_140 = F_208 := (funext (fun a => hB1.2.2.2 a List.not_mem_nil)).symm
    obtain ⟨hP, hD, hO, hR⟩ := QTm.back hB1 ht hFc hR (fun q h => absurd h List.not_mem_nil)
    generalize H1 = H at hP hS ⊢
    have hw : r_207 = chv ((cct [95, 100, 109, 97, 114, 99, 46]) j) := hw
    subst hw
    have hFc := pg_free hD hS hA
    refine va_callv (va_runV (As := [.int (chv ((cct [95, 100, 109, 97, 114, 99, 46]) j))]) (rest := []) ⟨hx, hb, hml, hown, hts⟩ (s_X14_add l dC dI cs ty gm L H.size F_140 wh (ρ + 24) r_83 6000 j (chv ((cct [95, 100, 109, 97, 114, 99, 46]) j)) hW hi_82 ht_84 ha2 (by first | omega | assumption)) ⟨callB_of 1 hts (gi kt_711) rfl rfl rfl (hts _ kt_676) (hts _ kt_712) (by decide +kernel) ⟨Nat.le_of_ble_eq_true rfl, Nat.le_of_ble_eq_true rfl⟩, (hts _ kt_713), (hts _ kt_714)⟩ ⟨fun a U g mk q => ⟨q.1, PTm.calling q.2⟩, pg_recv hK hP hi_82 ha2 (q := (RX14, TX14, 2)) rfl, fun U hU hWm => ⟨rfl, PTm.mk hU hWm hP hK hD hE hO⟩⟩ rfl rfl hl.1 rfl (lv_room (Nat.le_of_ble_eq_true rfl)) dX15_wantedOf_27 ⟨by show _ + 0 ≤ 0; omega, by show _ + 0 ≤ 0; omega⟩) hS (fun q _ h => hFc q h) hFc (fun u t H1 locs ht hvm hw hB hz1 hk1 hS => ?_)
    obtain ⟨F_210, hB1, hq_211⟩ := hB
    obtain ⟨hP, hD, hO, hR⟩ := QTm.back hB1 ht hFc hR (fun q h => by simp only [List.mem_cons, List.not_mem_nil, or_false] at h ⊢; omega)
    have hF_212 : F_210 h0 = .inr (15, (.ref ta) :: (.int (nI zt)) :: (.int (nI zo_112)) :: (.int (nI ze_113)) :: (.ref ou) :: (.ref so) :: (.ref ad) :: (.ref na) :: (.ref va) :: (.ref lc) :: (.ref dm) :: (.int v11_114) :: (.int v12_115) :: (.ref tg) :: (.int v14_116) :: (.int v15_117) :: (.ref pe) :: (.int v17_118) :: (.int v18_119) :: (.int v19_120) :: (.int v20_121) :: (.int v21_122) :: (.int v22_123) :: (.ref ml) :: (.ref bg) :: (.ref co) :: (.ref sp) :: (.ref nb0) :: (.ref nb1) :: (.ref nb2) :: (.int (nI nf)) :: (.int (nI bd)) :: (.int (nI mm)) :: (.int v33_124) :: (.ref pl) :: (.ref se) :: (.ref ke) :: (.ref wi) :: (.ref hs) :: (.ref mo) :: (.ref po) :: (.ref nu) :: (.ref pr) :: (.ref sq) :: (.ref xa) :: (.ref sa) :: (.ref n64) :: (.ref m64) :: (.ref ex) :: (.ref wh) :: (.ref sd) :: (.ref tk) :: (.int v52_125) :: (.int v53_126) :: (.int v54_127) :: (.ref hd) :: (.ref ak) :: (.ref ho) :: (.ref ot) :: []) := (hB1.2.2.2 h0 (by rw [hT_h0]; simp)).trans hF_144
    generalize H1 = H at hP hS ⊢
    refine lv_iinc (v := (nI (j + 1))) (lv' := [(2, .int (nI (j + 1))), (0, .ref h0), (1, .ref dt)]) hx hb dX15_wantedOf_30 hl (k := 0) rfl (nI_1 _) (by decide) rfl (fun ls hl => ?_)
    refine lv_goto (tgt := 10) hx hb dX15_wantedOf_33 (by decide) ?_
    refine W.widen (k := 0) (n := 0) (by omega) (by omega) ?_
    exact ih_143 (j + 1) F_210 (⟨by omega, hq_211⟩) (by show 7 - (j + 1) < 7 - j; omega) hO hR _ _ hP hD hS ls (lv_sub hl [0, 1, 2] rfl)
