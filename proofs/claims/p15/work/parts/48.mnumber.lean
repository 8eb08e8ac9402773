theorem dJ7_fill_031fb_0 : decode cJ7_fill_031fb 0 = .ok (.iconst 0, 1) := by decide +kernel
theorem dJ7_fill_031fb_1 : decode cJ7_fill_031fb 1 = .ok (.istore_n 2, 1) := by decide +kernel
theorem dJ7_fill_031fb_2 : decode cJ7_fill_031fb 2 = .ok (.aload_n 0, 1) := by decide +kernel
theorem dJ7_fill_031fb_3 : decode cJ7_fill_031fb 3 = .ok (.arraylength, 1) := by decide +kernel
theorem dJ7_fill_031fb_4 : decode cJ7_fill_031fb 4 = .ok (.istore_n 3, 1) := by decide +kernel
theorem dJ7_fill_031fb_5 : decode cJ7_fill_031fb 5 = .ok (.iload_n 2, 1) := by decide +kernel
theorem dJ7_fill_031fb_6 : decode cJ7_fill_031fb 6 = .ok (.iload_n 3, 1) := by decide +kernel
theorem dJ7_fill_031fb_7 : decode cJ7_fill_031fb 7 = .ok (.if_icmp .ge 13, 3) := by decide +kernel
theorem dJ7_fill_031fb_10 : decode cJ7_fill_031fb 10 = .ok (.aload_n 0, 1) := by decide +kernel
theorem dJ7_fill_031fb_11 : decode cJ7_fill_031fb 11 = .ok (.iload_n 2, 1) := by decide +kernel
theorem dJ7_fill_031fb_12 : decode cJ7_fill_031fb 12 = .ok (.iload_n 1, 1) := by decide +kernel
theorem dJ7_fill_031fb_13 : decode cJ7_fill_031fb 13 = .ok (.bastore, 1) := by decide +kernel
theorem dJ7_fill_031fb_14 : decode cJ7_fill_031fb 14 = .ok (.iinc 2 1, 3) := by decide +kernel
theorem dJ7_fill_031fb_17 : decode cJ7_fill_031fb 17 = .ok (.goto (-12), 3) := by decide +kernel
theorem dJ7_fill_031fb_20 : decode cJ7_fill_031fb 20 = .ok (.return_, 1) := by decide +kernel
theorem dJ7_fill_49daa_0 : decode cJ7_fill_49daa 0 = .ok (.iconst 0, 1) := by decide +kernel
theorem dJ7_fill_49daa_1 : decode cJ7_fill_49daa 1 = .ok (.istore_n 2, 1) := by decide +kernel
theorem dJ7_fill_49daa_2 : decode cJ7_fill_49daa 2 = .ok (.aload_n 0, 1) := by decide +kernel
theorem dJ7_fill_49daa_3 : decode cJ7_fill_49daa 3 = .ok (.arraylength, 1) := by decide +kernel
theorem dJ7_fill_49daa_4 : decode cJ7_fill_49daa 4 = .ok (.istore_n 3, 1) := by decide +kernel
theorem dJ7_fill_49daa_5 : decode cJ7_fill_49daa 5 = .ok (.iload_n 2, 1) := by decide +kernel
theorem dJ7_fill_49daa_6 : decode cJ7_fill_49daa 6 = .ok (.iload_n 3, 1) := by decide +kernel
theorem dJ7_fill_49daa_7 : decode cJ7_fill_49daa 7 = .ok (.if_icmp .ge 13, 3) := by decide +kernel
theorem dJ7_fill_49daa_10 : decode cJ7_fill_49daa 10 = .ok (.aload_n 0, 1) := by decide +kernel
theorem dJ7_fill_49daa_11 : decode cJ7_fill_49daa 11 = .ok (.iload_n 2, 1) := by decide +kernel
theorem dJ7_fill_49daa_12 : decode cJ7_fill_49daa 12 = .ok (.iload_n 1, 1) := by decide +kernel
theorem dJ7_fill_49daa_13 : decode cJ7_fill_49daa 13 = .ok (.bastore, 1) := by decide +kernel
theorem dJ7_fill_49daa_14 : decode cJ7_fill_49daa 14 = .ok (.iinc 2 1, 3) := by decide +kernel
theorem dJ7_fill_49daa_17 : decode cJ7_fill_49daa 17 = .ok (.goto (-12), 3) := by decide +kernel
theorem dJ7_fill_49daa_20 : decode cJ7_fill_49daa 20 = .ok (.return_, 1) := by decide +kernel
theorem dJ7_fill_53178_0 : decode cJ7_fill_53178 0 = .ok (.iconst 0, 1) := by decide +kernel
theorem dJ7_fill_53178_1 : decode cJ7_fill_53178 1 = .ok (.istore_n 2, 1) := by decide +kernel
theorem dJ7_fill_53178_2 : decode cJ7_fill_53178 2 = .ok (.aload_n 0, 1) := by decide +kernel
theorem dJ7_fill_53178_3 : decode cJ7_fill_53178 3 = .ok (.arraylength, 1) := by decide +kernel
theorem dJ7_fill_53178_4 : decode cJ7_fill_53178 4 = .ok (.istore_n 3, 1) := by decide +kernel
theorem dJ7_fill_53178_5 : decode cJ7_fill_53178 5 = .ok (.iload_n 2, 1) := by decide +kernel
theorem dJ7_fill_53178_6 : decode cJ7_fill_53178 6 = .ok (.iload_n 3, 1) := by decide +kernel
theorem dJ7_fill_53178_7 : decode cJ7_fill_53178 7 = .ok (.if_icmp .ge 13, 3) := by decide +kernel
theorem dJ7_fill_53178_10 : decode cJ7_fill_53178 10 = .ok (.aload_n 0, 1) := by decide +kernel
theorem dJ7_fill_53178_11 : decode cJ7_fill_53178 11 = .ok (.iload_n 2, 1) := by decide +kernel
theorem dJ7_fill_53178_12 : decode cJ7_fill_53178 12 = .ok (.iload_n 1, 1) := by decide +kernel
theorem dJ7_fill_53178_13 : decode cJ7_fill_53178 13 = .ok (.iastore, 1) := by decide +kernel
theorem dJ7_fill_53178_14 : decode cJ7_fill_53178 14 = .ok (.iinc 2 1, 3) := by decide +kernel
theorem dJ7_fill_53178_17 : decode cJ7_fill_53178 17 = .ok (.goto (-12), 3) := by decide +kernel
theorem dJ7_fill_53178_20 : decode cJ7_fill_53178 20 = .ok (.return_, 1) := by decide +kernel
theorem dX15_digits_0 : decode cX15_digits 0 = .ok (.aload_n 1, 1) := by decide +kernel
theorem dX15_digits_1 : decode cX15_digits 1 = .ok (.iconst 0, 1) := by decide +kernel
theorem dX15_digits_2 : decode cX15_digits 2 = .ok (.invokestatic 424, 3) := by decide +kernel
theorem dX15_digits_5 : decode cX15_digits 5 = .ok (.iconst 0, 1) := by decide +kernel
theorem dX15_digits_6 : decode cX15_digits 6 = .ok (.istore_n 2, 1) := by decide +kernel
theorem dX15_digits_7 : decode cX15_digits 7 = .ok (.iload_n 2, 1) := by decide +kernel
theorem dX15_digits_8 : decode cX15_digits 8 = .ok (.bipush 64, 2) := by decide +kernel
theorem dX15_digits_10 : decode cX15_digits 10 = .ok (.if_icmp .ge 37, 3) := by decide +kernel
theorem dX15_digits_13 : decode cX15_digits 13 = .ok (.aload_n 1, 1) := by decide +kernel
theorem dX15_digits_14 : decode cX15_digits 14 = .ok (.bipush 63, 2) := by decide +kernel
theorem dX15_digits_16 : decode cX15_digits 16 = .ok (.iload_n 2, 1) := by decide +kernel
theorem dX15_digits_17 : decode cX15_digits 17 = .ok (.isub, 1) := by decide +kernel
theorem dX15_digits_18 : decode cX15_digits 18 = .ok (.iconst 2, 1) := by decide +kernel
theorem dX15_digits_19 : decode cX15_digits 19 = .ok (.idiv, 1) := by decide +kernel
theorem dX15_digits_20 : decode cX15_digits 20 = .ok (.dup2, 1) := by decide +kernel
theorem dX15_digits_21 : decode cX15_digits 21 = .ok (.iaload, 1) := by decide +kernel
theorem dX15_digits_22 : decode cX15_digits 22 = .ok (.aload_n 0, 1) := by decide +kernel
theorem dX15_digits_23 : decode cX15_digits 23 = .ok (.iload_n 2, 1) := by decide +kernel
theorem dX15_digits_24 : decode cX15_digits 24 = .ok (.baload, 1) := by decide +kernel
theorem dX15_digits_25 : decode cX15_digits 25 = .ok (.sipush 255, 3) := by decide +kernel
theorem dX15_digits_28 : decode cX15_digits 28 = .ok (.iand, 1) := by decide +kernel
theorem dX15_digits_29 : decode cX15_digits 29 = .ok (.bipush 8, 2) := by decide +kernel
theorem dX15_digits_31 : decode cX15_digits 31 = .ok (.bipush 63, 2) := by decide +kernel
theorem dX15_digits_33 : decode cX15_digits 33 = .ok (.iload_n 2, 1) := by decide +kernel
theorem dX15_digits_34 : decode cX15_digits 34 = .ok (.isub, 1) := by decide +kernel
theorem dX15_digits_35 : decode cX15_digits 35 = .ok (.iconst 2, 1) := by decide +kernel
theorem dX15_digits_36 : decode cX15_digits 36 = .ok (.irem, 1) := by decide +kernel
theorem dX15_digits_37 : decode cX15_digits 37 = .ok (.imul, 1) := by decide +kernel
theorem dX15_digits_38 : decode cX15_digits 38 = .ok (.ishl, 1) := by decide +kernel
theorem dX15_digits_39 : decode cX15_digits 39 = .ok (.ior, 1) := by decide +kernel
theorem dX15_digits_40 : decode cX15_digits 40 = .ok (.iastore, 1) := by decide +kernel
theorem dX15_digits_41 : decode cX15_digits 41 = .ok (.iinc 2 1, 3) := by decide +kernel
theorem dX15_digits_44 : decode cX15_digits 44 = .ok (.goto (-37), 3) := by decide +kernel
theorem dX15_digits_47 : decode cX15_digits 47 = .ok (.return_, 1) := by decide +kernel
theorem dX15_isBelow_0 : decode cX15_isBelow 0 = .ok (.bipush 32, 2) := by decide +kernel
theorem dX15_isBelow_2 : decode cX15_isBelow 2 = .ok (.istore_n 2, 1) := by decide +kernel
theorem dX15_isBelow_3 : decode cX15_isBelow 3 = .ok (.iload_n 2, 1) := by decide +kernel
theorem dX15_isBelow_4 : decode cX15_isBelow 4 = .ok (.ifCond .lt 33, 3) := by decide +kernel
theorem dX15_isBelow_7 : decode cX15_isBelow 7 = .ok (.aload_n 0, 1) := by decide +kernel
theorem dX15_isBelow_8 : decode cX15_isBelow 8 = .ok (.iload_n 2, 1) := by decide +kernel
theorem dX15_isBelow_9 : decode cX15_isBelow 9 = .ok (.iaload, 1) := by decide +kernel
theorem dX15_isBelow_10 : decode cX15_isBelow 10 = .ok (.aload_n 1, 1) := by decide +kernel
theorem dX15_isBelow_11 : decode cX15_isBelow 11 = .ok (.iload_n 2, 1) := by decide +kernel
theorem dX15_isBelow_12 : decode cX15_isBelow 12 = .ok (.iaload, 1) := by decide +kernel
theorem dX15_isBelow_13 : decode cX15_isBelow 13 = .ok (.if_icmp .eq 18, 3) := by decide +kernel
theorem dX15_isBelow_16 : decode cX15_isBelow 16 = .ok (.aload_n 0, 1) := by decide +kernel
theorem dX15_isBelow_17 : decode cX15_isBelow 17 = .ok (.iload_n 2, 1) := by decide +kernel
theorem dX15_isBelow_18 : decode cX15_isBelow 18 = .ok (.iaload, 1) := by decide +kernel
theorem dX15_isBelow_19 : decode cX15_isBelow 19 = .ok (.aload_n 1, 1) := by decide +kernel
theorem dX15_isBelow_20 : decode cX15_isBelow 20 = .ok (.iload_n 2, 1) := by decide +kernel
theorem dX15_isBelow_21 : decode cX15_isBelow 21 = .ok (.iaload, 1) := by decide +kernel
theorem dX15_isBelow_22 : decode cX15_isBelow 22 = .ok (.if_icmp .ge 7, 3) := by decide +kernel
theorem dX15_isBelow_25 : decode cX15_isBelow 25 = .ok (.iconst 1, 1) := by decide +kernel
theorem dX15_isBelow_26 : decode cX15_isBelow 26 = .ok (.goto 4, 3) := by decide +kernel
theorem dX15_isBelow_29 : decode cX15_isBelow 29 = .ok (.iconst 0, 1) := by decide +kernel
theorem dX15_isBelow_30 : decode cX15_isBelow 30 = .ok (.ireturn, 1) := by decide +kernel
theorem dX15_isBelow_31 : decode cX15_isBelow 31 = .ok (.iinc 2 (-1), 3) := by decide +kernel
theorem dX15_isBelow_34 : decode cX15_isBelow 34 = .ok (.goto (-31), 3) := by decide +kernel
theorem dX15_isBelow_37 : decode cX15_isBelow 37 = .ok (.iconst 0, 1) := by decide +kernel
theorem dX15_isBelow_38 : decode cX15_isBelow 38 = .ok (.ireturn, 1) := by decide +kernel
theorem dX15_remainder_0 : decode cX15_remainder 0 = .ok (.aload_n 3, 1) := by decide +kernel
theorem dX15_remainder_1 : decode cX15_remainder 1 = .ok (.iconst 0, 1) := by decide +kernel
theorem dX15_remainder_2 : decode cX15_remainder 2 = .ok (.invokestatic 424, 3) := by decide +kernel
theorem dX15_remainder_5 : decode cX15_remainder 5 = .ok (.bipush 16, 2) := by decide +kernel
theorem dX15_remainder_7 : decode cX15_remainder 7 = .ok (.iload_n 2, 1) := by decide +kernel
theorem dX15_remainder_8 : decode cX15_remainder 8 = .ok (.imul, 1) := by decide +kernel
theorem dX15_remainder_9 : decode cX15_remainder 9 = .ok (.iconst 1, 1) := by decide +kernel
theorem dX15_remainder_10 : decode cX15_remainder 10 = .ok (.isub, 1) := by decide +kernel
theorem dX15_remainder_11 : decode cX15_remainder 11 = .ok (.istore 4, 2) := by decide +kernel
theorem dX15_remainder_13 : decode cX15_remainder 13 = .ok (.iload 4, 2) := by decide +kernel
theorem dX15_remainder_15 : decode cX15_remainder 15 = .ok (.ifCond .lt 142, 3) := by decide +kernel
theorem dX15_remainder_18 : decode cX15_remainder 18 = .ok (.aload_n 1, 1) := by decide +kernel
theorem dX15_remainder_19 : decode cX15_remainder 19 = .ok (.iload 4, 2) := by decide +kernel
theorem dX15_remainder_21 : decode cX15_remainder 21 = .ok (.bipush 16, 2) := by decide +kernel
theorem dX15_remainder_23 : decode cX15_remainder 23 = .ok (.idiv, 1) := by decide +kernel
theorem dX15_remainder_24 : decode cX15_remainder 24 = .ok (.iaload, 1) := by decide +kernel
theorem dX15_remainder_25 : decode cX15_remainder 25 = .ok (.iload 4, 2) := by decide +kernel
theorem dX15_remainder_27 : decode cX15_remainder 27 = .ok (.bipush 16, 2) := by decide +kernel
theorem dX15_remainder_29 : decode cX15_remainder 29 = .ok (.irem, 1) := by decide +kernel
theorem dX15_remainder_30 : decode cX15_remainder 30 = .ok (.ishr, 1) := by decide +kernel
theorem dX15_remainder_31 : decode cX15_remainder 31 = .ok (.iconst 1, 1) := by decide +kernel
theorem dX15_remainder_32 : decode cX15_remainder 32 = .ok (.iand, 1) := by decide +kernel
theorem dX15_remainder_33 : decode cX15_remainder 33 = .ok (.istore 5, 2) := by decide +kernel
theorem dX15_remainder_35 : decode cX15_remainder 35 = .ok (.iconst 0, 1) := by decide +kernel
theorem dX15_remainder_36 : decode cX15_remainder 36 = .ok (.istore 6, 2) := by decide +kernel
theorem dX15_remainder_38 : decode cX15_remainder 38 = .ok (.iload 6, 2) := by decide +kernel
theorem dX15_remainder_40 : decode cX15_remainder 40 = .ok (.bipush 33, 2) := by decide +kernel
theorem dX15_remainder_42 : decode cX15_remainder 42 = .ok (.if_icmp .ge 37, 3) := by decide +kernel
theorem dX15_remainder_45 : decode cX15_remainder 45 = .ok (.aload_n 3, 1) := by decide +kernel
theorem dX15_remainder_46 : decode cX15_remainder 46 = .ok (.iload 6, 2) := by decide +kernel
theorem dX15_remainder_48 : decode cX15_remainder 48 = .ok (.iaload, 1) := by decide +kernel
theorem dX15_remainder_49 : decode cX15_remainder 49 = .ok (.iconst 1, 1) := by decide +kernel
theorem dX15_remainder_50 : decode cX15_remainder 50 = .ok (.ishl, 1) := by decide +kernel
theorem dX15_remainder_51 : decode cX15_remainder 51 = .ok (.iload 5, 2) := by decide +kernel
theorem dX15_remainder_53 : decode cX15_remainder 53 = .ok (.ior, 1) := by decide +kernel
theorem dX15_remainder_54 : decode cX15_remainder 54 = .ok (.istore 7, 2) := by decide +kernel
theorem dX15_remainder_56 : decode cX15_remainder 56 = .ok (.aload_n 3, 1) := by decide +kernel
theorem dX15_remainder_57 : decode cX15_remainder 57 = .ok (.iload 6, 2) := by decide +kernel
theorem dX15_remainder_59 : decode cX15_remainder 59 = .ok (.iload 7, 2) := by decide +kernel
theorem dX15_remainder_61 : decode cX15_remainder 61 = .ok (.ldc_w 430, 3) := by decide +kernel
theorem dX15_remainder_64 : decode cX15_remainder 64 = .ok (.iand, 1) := by decide +kernel
theorem dX15_remainder_65 : decode cX15_remainder 65 = .ok (.iastore, 1) := by decide +kernel
theorem dX15_remainder_66 : decode cX15_remainder 66 = .ok (.iload 7, 2) := by decide +kernel
theorem dX15_remainder_68 : decode cX15_remainder 68 = .ok (.bipush 16, 2) := by decide +kernel
theorem dX15_remainder_70 : decode cX15_remainder 70 = .ok (.ishr, 1) := by decide +kernel
theorem dX15_remainder_71 : decode cX15_remainder 71 = .ok (.istore 5, 2) := by decide +kernel
theorem dX15_remainder_73 : decode cX15_remainder 73 = .ok (.iinc 6 1, 3) := by decide +kernel
theorem dX15_remainder_76 : decode cX15_remainder 76 = .ok (.goto (-38), 3) := by decide +kernel
theorem dX15_remainder_79 : decode cX15_remainder 79 = .ok (.aload_n 3, 1) := by decide +kernel
theorem dX15_remainder_80 : decode cX15_remainder 80 = .ok (.aload_n 0, 1) := by decide +kernel
theorem dX15_remainder_81 : decode cX15_remainder 81 = .ok (.getfield 114, 3) := by decide +kernel
theorem dX15_remainder_84 : decode cX15_remainder 84 = .ok (.invokestatic 431, 3) := by decide +kernel
theorem dX15_remainder_87 : decode cX15_remainder 87 = .ok (.ifCond .eq 6, 3) := by decide +kernel
theorem dX15_remainder_90 : decode cX15_remainder 90 = .ok (.goto 61, 3) := by decide +kernel
theorem dX15_remainder_93 : decode cX15_remainder 93 = .ok (.iconst 0, 1) := by decide +kernel
theorem dX15_remainder_94 : decode cX15_remainder 94 = .ok (.istore 6, 2) := by decide +kernel
theorem dX15_remainder_96 : decode cX15_remainder 96 = .ok (.iconst 0, 1) := by decide +kernel
theorem dX15_remainder_97 : decode cX15_remainder 97 = .ok (.istore 7, 2) := by decide +kernel
theorem dX15_remainder_99 : decode cX15_remainder 99 = .ok (.iload 7, 2) := by decide +kernel
theorem dX15_remainder_101 : decode cX15_remainder 101 = .ok (.bipush 33, 2) := by decide +kernel
theorem dX15_remainder_103 : decode cX15_remainder 103 = .ok (.if_icmp .ge 48, 3) := by decide +kernel
theorem dX15_remainder_106 : decode cX15_remainder 106 = .ok (.aload_n 3, 1) := by decide +kernel
theorem dX15_remainder_107 : decode cX15_remainder 107 = .ok (.iload 7, 2) := by decide +kernel
theorem dX15_remainder_109 : decode cX15_remainder 109 = .ok (.iaload, 1) := by decide +kernel
theorem dX15_remainder_110 : decode cX15_remainder 110 = .ok (.aload_n 0, 1) := by decide +kernel
theorem dX15_remainder_111 : decode cX15_remainder 111 = .ok (.getfield 114, 3) := by decide +kernel
theorem dX15_remainder_114 : decode cX15_remainder 114 = .ok (.iload 7, 2) := by decide +kernel
theorem dX15_remainder_116 : decode cX15_remainder 116 = .ok (.iaload, 1) := by decide +kernel
theorem dX15_remainder_117 : decode cX15_remainder 117 = .ok (.isub, 1) := by decide +kernel
theorem dX15_remainder_118 : decode cX15_remainder 118 = .ok (.iload 6, 2) := by decide +kernel
theorem dX15_remainder_120 : decode cX15_remainder 120 = .ok (.isub, 1) := by decide +kernel
theorem dX15_remainder_121 : decode cX15_remainder 121 = .ok (.istore 8, 2) := by decide +kernel
theorem dX15_remainder_123 : decode cX15_remainder 123 = .ok (.aload_n 3, 1) := by decide +kernel
theorem dX15_remainder_124 : decode cX15_remainder 124 = .ok (.iload 7, 2) := by decide +kernel
theorem dX15_remainder_126 : decode cX15_remainder 126 = .ok (.iload 8, 2) := by decide +kernel
theorem dX15_remainder_128 : decode cX15_remainder 128 = .ok (.ldc_w 430, 3) := by decide +kernel
theorem dX15_remainder_131 : decode cX15_remainder 131 = .ok (.iand, 1) := by decide +kernel
theorem dX15_remainder_132 : decode cX15_remainder 132 = .ok (.iastore, 1) := by decide +kernel
theorem dX15_remainder_133 : decode cX15_remainder 133 = .ok (.iload 8, 2) := by decide +kernel
theorem dX15_remainder_135 : decode cX15_remainder 135 = .ok (.ifCond .ge 7, 3) := by decide +kernel
theorem dX15_remainder_138 : decode cX15_remainder 138 = .ok (.iconst 1, 1) := by decide +kernel
theorem dX15_remainder_139 : decode cX15_remainder 139 = .ok (.goto 4, 3) := by decide +kernel
theorem dX15_remainder_142 : decode cX15_remainder 142 = .ok (.iconst 0, 1) := by decide +kernel
theorem dX15_remainder_143 : decode cX15_remainder 143 = .ok (.istore 6, 2) := by decide +kernel
theorem dX15_remainder_145 : decode cX15_remainder 145 = .ok (.iinc 7 1, 3) := by decide +kernel
theorem dX15_remainder_148 : decode cX15_remainder 148 = .ok (.goto (-49), 3) := by decide +kernel
theorem dX15_remainder_151 : decode cX15_remainder 151 = .ok (.iinc 4 (-1), 3) := by decide +kernel
theorem dX15_remainder_154 : decode cX15_remainder 154 = .ok (.goto (-141), 3) := by decide +kernel
theorem dX15_remainder_157 : decode cX15_remainder 157 = .ok (.return_, 1) := by decide +kernel
theorem dX15_times_0 : decode cX15_times 0 = .ok (.aload_n 0, 1) := by decide +kernel
theorem dX15_times_1 : decode cX15_times 1 = .ok (.getfield 123, 3) := by decide +kernel
theorem dX15_times_4 : decode cX15_times 4 = .ok (.iconst 0, 1) := by decide +kernel
theorem dX15_times_5 : decode cX15_times 5 = .ok (.invokestatic 424, 3) := by decide +kernel
theorem dX15_times_8 : decode cX15_times 8 = .ok (.iconst 0, 1) := by decide +kernel
theorem dX15_times_9 : decode cX15_times 9 = .ok (.istore_n 2, 1) := by decide +kernel
theorem dX15_times_10 : decode cX15_times 10 = .ok (.iload_n 2, 1) := by decide +kernel
theorem dX15_times_11 : decode cX15_times 11 = .ok (.bipush 32, 2) := by decide +kernel
theorem dX15_times_13 : decode cX15_times 13 = .ok (.if_icmp .ge 88, 3) := by decide +kernel
theorem dX15_times_16 : decode cX15_times 16 = .ok (.lconst 0, 1) := by decide +kernel
theorem dX15_times_17 : decode cX15_times 17 = .ok (.lstore_n 3, 1) := by decide +kernel
theorem dX15_times_18 : decode cX15_times 18 = .ok (.iconst 0, 1) := by decide +kernel
theorem dX15_times_19 : decode cX15_times 19 = .ok (.istore 5, 2) := by decide +kernel
theorem dX15_times_21 : decode cX15_times 21 = .ok (.iload 5, 2) := by decide +kernel
theorem dX15_times_23 : decode cX15_times 23 = .ok (.bipush 33, 2) := by decide +kernel
theorem dX15_times_25 : decode cX15_times 25 = .ok (.if_icmp .ge 56, 3) := by decide +kernel
theorem dX15_times_28 : decode cX15_times 28 = .ok (.lload_n 3, 1) := by decide +kernel
theorem dX15_times_29 : decode cX15_times 29 = .ok (.aload_n 0, 1) := by decide +kernel
theorem dX15_times_30 : decode cX15_times 30 = .ok (.getfield 123, 3) := by decide +kernel
theorem dX15_times_33 : decode cX15_times 33 = .ok (.iload_n 2, 1) := by decide +kernel
theorem dX15_times_34 : decode cX15_times 34 = .ok (.iload 5, 2) := by decide +kernel
theorem dX15_times_36 : decode cX15_times 36 = .ok (.iadd, 1) := by decide +kernel
theorem dX15_times_37 : decode cX15_times 37 = .ok (.iaload, 1) := by decide +kernel
theorem dX15_times_38 : decode cX15_times 38 = .ok (.i2l, 1) := by decide +kernel
theorem dX15_times_39 : decode cX15_times 39 = .ok (.aload_n 0, 1) := by decide +kernel
theorem dX15_times_40 : decode cX15_times 40 = .ok (.getfield 117, 3) := by decide +kernel
theorem dX15_times_43 : decode cX15_times 43 = .ok (.iload_n 2, 1) := by decide +kernel
theorem dX15_times_44 : decode cX15_times 44 = .ok (.iaload, 1) := by decide +kernel
theorem dX15_times_45 : decode cX15_times 45 = .ok (.i2l, 1) := by decide +kernel
theorem dX15_times_46 : decode cX15_times 46 = .ok (.aload_n 1, 1) := by decide +kernel
theorem dX15_times_47 : decode cX15_times 47 = .ok (.iload 5, 2) := by decide +kernel
theorem dX15_times_49 : decode cX15_times 49 = .ok (.iaload, 1) := by decide +kernel
theorem dX15_times_50 : decode cX15_times 50 = .ok (.i2l, 1) := by decide +kernel
theorem dX15_times_51 : decode cX15_times 51 = .ok (.lmul, 1) := by decide +kernel
theorem dX15_times_52 : decode cX15_times 52 = .ok (.ladd, 1) := by decide +kernel
theorem dX15_times_53 : decode cX15_times 53 = .ok (.ladd, 1) := by decide +kernel
theorem dX15_times_54 : decode cX15_times 54 = .ok (.lstore_n 3, 1) := by decide +kernel
theorem dX15_times_55 : decode cX15_times 55 = .ok (.aload_n 0, 1) := by decide +kernel
theorem dX15_times_56 : decode cX15_times 56 = .ok (.getfield 123, 3) := by decide +kernel
theorem dX15_times_59 : decode cX15_times 59 = .ok (.iload_n 2, 1) := by decide +kernel
theorem dX15_times_60 : decode cX15_times 60 = .ok (.iload 5, 2) := by decide +kernel
theorem dX15_times_62 : decode cX15_times 62 = .ok (.iadd, 1) := by decide +kernel
theorem dX15_times_63 : decode cX15_times 63 = .ok (.lload_n 3, 1) := by decide +kernel
theorem dX15_times_64 : decode cX15_times 64 = .ok (.ldc2_w 435, 3) := by decide +kernel
theorem dX15_times_67 : decode cX15_times 67 = .ok (.land, 1) := by decide +kernel
theorem dX15_times_68 : decode cX15_times 68 = .ok (.l2i, 1) := by decide +kernel
theorem dX15_times_69 : decode cX15_times 69 = .ok (.iastore, 1) := by decide +kernel
theorem dX15_times_70 : decode cX15_times 70 = .ok (.lload_n 3, 1) := by decide +kernel
theorem dX15_times_71 : decode cX15_times 71 = .ok (.bipush 16, 2) := by decide +kernel
theorem dX15_times_73 : decode cX15_times 73 = .ok (.lshr, 1) := by decide +kernel
theorem dX15_times_74 : decode cX15_times 74 = .ok (.lstore_n 3, 1) := by decide +kernel
theorem dX15_times_75 : decode cX15_times 75 = .ok (.iinc 5 1, 3) := by decide +kernel
theorem dX15_times_78 : decode cX15_times 78 = .ok (.goto (-57), 3) := by decide +kernel
theorem dX15_times_81 : decode cX15_times 81 = .ok (.aload_n 0, 1) := by decide +kernel
theorem dX15_times_82 : decode cX15_times 82 = .ok (.getfield 123, 3) := by decide +kernel
theorem dX15_times_85 : decode cX15_times 85 = .ok (.iload_n 2, 1) := by decide +kernel
theorem dX15_times_86 : decode cX15_times 86 = .ok (.bipush 33, 2) := by decide +kernel
theorem dX15_times_88 : decode cX15_times 88 = .ok (.iadd, 1) := by decide +kernel
theorem dX15_times_89 : decode cX15_times 89 = .ok (.dup2, 1) := by decide +kernel
theorem dX15_times_90 : decode cX15_times 90 = .ok (.iaload, 1) := by decide +kernel
theorem dX15_times_91 : decode cX15_times 91 = .ok (.lload_n 3, 1) := by decide +kernel
theorem dX15_times_92 : decode cX15_times 92 = .ok (.l2i, 1) := by decide +kernel
theorem dX15_times_93 : decode cX15_times 93 = .ok (.iadd, 1) := by decide +kernel
theorem dX15_times_94 : decode cX15_times 94 = .ok (.iastore, 1) := by decide +kernel
theorem dX15_times_95 : decode cX15_times 95 = .ok (.iinc 2 1, 3) := by decide +kernel
theorem dX15_times_98 : decode cX15_times 98 = .ok (.goto (-88), 3) := by decide +kernel
theorem dX15_times_101 : decode cX15_times 101 = .ok (.aload_n 0, 1) := by decide +kernel
theorem dX15_times_102 : decode cX15_times 102 = .ok (.aload_n 0, 1) := by decide +kernel
theorem dX15_times_103 : decode cX15_times 103 = .ok (.getfield 123, 3) := by decide +kernel
theorem dX15_times_106 : decode cX15_times 106 = .ok (.bipush 64, 2) := by decide +kernel
theorem dX15_times_108 : decode cX15_times 108 = .ok (.aload_n 0, 1) := by decide +kernel
theorem dX15_times_109 : decode cX15_times 109 = .ok (.getfield 117, 3) := by decide +kernel
theorem dX15_times_112 : decode cX15_times 112 = .ok (.invokevirtual 437, 3) := by decide +kernel
theorem dX15_times_115 : decode cX15_times 115 = .ok (.return_, 1) := by decide +kernel
theorem kt_807 : Cond.code yJ7_fill_53178 cJ7_fill_53178 4 none ∈ tb := tb_at (i := 1827) (by decide +kernel) (by decide +kernel)
theorem kt_808 : Cond.initialized RJ7 ∈ tb := tb_at (i := 104) (by decide +kernel) (by decide +kernel)
theorem kt_809 : Cond.methodLink RX15 424 yJ7_fill_53178 ∈ tb := tb_at (i := 1825) (by decide +kernel) (by decide +kernel)
theorem kt_810 : Cond.static yJ7_fill_53178 ∈ tb := tb_at (i := 1826) (by decide +kernel) (by decide +kernel)
theorem kt_811 : Cond.fieldLink RX15 114 "PostGateModel" "modulus" "[I" ∈ tb := tb_at (i := 1328) (by decide +kernel) (by decide +kernel)
theorem kt_812 : Cond.code yX15_isBelow cX15_isBelow 3 (some .boolean) ∈ tb := tb_at (i := 1835) (by decide +kernel) (by decide +kernel)
theorem kt_813 : Cond.methodLink RX15 431 yX15_isBelow ∈ tb := tb_at (i := 1833) (by decide +kernel) (by decide +kernel)
theorem kt_814 : Cond.static yX15_isBelow ∈ tb := tb_at (i := 1834) (by decide +kernel) (by decide +kernel)
theorem kt_815 : Cond.constant RX15 430 65535 ∈ tb := tb_at (i := 1832) (by decide +kernel) (by decide +kernel)
theorem kt_816 : Cond.fieldLink RX15 123 "PostGateModel" "product" "[I" ∈ tb := tb_at (i := 1331) (by decide +kernel) (by decide +kernel)
theorem kt_817 : Cond.fieldLink RX15 117 "PostGateModel" "power" "[I" ∈ tb := tb_at (i := 1329) (by decide +kernel) (by decide +kernel)
theorem kt_818 : Cond.code yX15_remainder cX15_remainder 9 none ∈ tb := tb_at (i := 1831) (by decide +kernel) (by decide +kernel)
theorem kt_819 : Cond.methodLink RX15 437 yX15_remainder ∈ tb := tb_at (i := 1828) (by decide +kernel) (by decide +kernel)
theorem kt_820 : Cond.instanceMethod yX15_remainder ∈ tb := tb_at (i := 1830) (by decide +kernel) (by decide +kernel)
theorem kt_821 : Cond.selects RX15 yX15_remainder yX15_remainder ∈ tb := tb_at (i := 74) (by decide +kernel) (by decide +kernel)
theorem kt_822 : Cond.constantLong RX15 435 65535 ∈ tb := tb_at (i := 1840) (by decide +kernel) (by decide +kernel)
theorem dn_st8 (k : Nat) : nI k + Int32.ofInt (-1) = nI k - 1 := dn_st k
theorem pk_remL {a d : Nat} (ha : a < 2 ^ 31) (h0 : 0 < d) (hd : d < 2 ^ 31) : nI a - nI a / nI d * nI d = nI (a % d) := pk_rem ha h0 hd
set_option maxHeartbeats 4000000 in
set_option maxRecDepth 100000 in
theorem m_J7_fill_53178 (l : Launch) (dC : Nat → ClassId) (dI : Nat → Nat → Nat) (cs : Nat → ClassId) (ty : TyM) (gm : Nat → Nat → Nat) (L : List Nat) (sz : Nat) (F : Nat → va_E) (gf : Nat) (τ : Nat) (nq : Nat) (x1 : Int32) (hW : WTm ty gm L) (hL_gf : gf ∈ L) (hT_gf : ty gf = (16, τ, [nq])) (hnq : nq ≤ 10000) : Met l yJ7_fill_53178 (.code yJ7_fill_53178 cJ7_fill_53178 4 none :: tb) ({ frames := 0, cells := 0, slots := 0, locals := 0 }) (va_Pc [.ref gf, .int x1] (PTm (dC, dI) cs ty gm L F sz)) (va_Qv (fun _ : Unit => True) (fun _ T9 => ∃ F2 : Nat → va_E, QTm (dC, dI) cs ty gm L [τ] F F2 (va_A (va_pl L F) sz) T9) (va_A (va_pl L F) sz)) 0 0 (va_A (va_pl L F) sz) := by
  refine Met.ofW (cc := cJ7_fill_53178) (maxL := 4) (ret := none) (by decide) rfl ?_
  intro p e s m args below meth c s₁ B hml hv
  obtain ⟨rfl, hsz, hP, hK, hD0, hE, hO⟩ := hv
  have hx := B.exec
  have hb := B.bytes
  have hr := B.returns
  have hts : ∀ w ∈ tb, w.before _ s = true := fun w h => atoms_spec (ws := .code yJ7_fill_53178 cJ7_fill_53178 4 none :: tb) B.pre w (List.mem_cons_of_mem _ h)
  have hown : s.vm.findClass RJ7 = some m.cls := findClass_of_methodNamed B.named
  have hlocks := B.notSynchronized
  subst hsz
  have hD := hD0.self (sz := s.heap.size)
  generalize hAe : va_A (va_pl L F) s.heap.size = A at hD ⊢
  have hA : ∀ q : Nat, s.heap.size ≤ q → A q := fun q h => by rw [← hAe]; exact Or.inr h
  have hS : va_S A s.heap s.heap [] := va_S.rf
  have hR : FR ty [τ] F F := FR.refl
  have hl := lv_entry ([.ref gf, .int x1]) (n := 4) (Nat.le_of_ble_eq_true rfl)
  rw [lg_entry_eq]
  generalize (lg_sl ([.ref gf, .int x1]) ++ List.replicate (4 - (lg_sl ([.ref gf, .int x1])).length) Slot.unset).toArray = ls at hl ⊢
  have hl : lv_has ls 4 [(0, .ref gf), (1, .int x1)] := hl
  refine lv_iconst (v := 0) hx hb dJ7_fill_53178_0 (by decide) ?_
  refine lv_istore_n (lv' := [(2, .int 0), (0, .ref gf), (1, .int x1)]) hx hb dJ7_fill_53178_1 rfl hl (by decide) rfl (fun ls hl => ?_)
  refine lv_aload_n hx hb dJ7_fill_53178_2 rfl (lv_at hl 1 rfl) ?_
  obtain ⟨hq_1, hq_2⟩ := hW.ints hL_gf hT_gf
  obtain ⟨f_3, hF_4⟩ := hO.ints hL_gf hT_gf
  refine pg_alen (v := (nI nq)) hx hb hK hP hL_gf 0 hF_4 rfl rfl dJ7_fill_53178_3 ?_
  refine lv_istore_n (lv' := [(3, .int (nI nq)), (2, .int 0), (0, .ref gf), (1, .int x1)]) hx hb dJ7_fill_53178_4 rfl hl (by decide) rfl (fun ls hl => ?_)
  refine W.widen (k := 0) (n := 0) (by omega) (by omega) ?_
  refine pl_loopm (σ := Nat) A (dC, dI) cs ty gm L [τ] F 5 4 (fun j => [(3, .int (nI nq)), (2, .int (nI j)), (0, .ref gf), (1, .int x1)]) (fun j => []) (fun j _ => j ≤ nq) (fun j => nq - j) ?_ 0 F (by omega) hO hR _ _ hP hD hS ls (lv_sub hl [0, 1, 2, 3] rfl)
  rintro j F_5 hv_6 hO hR ih_7 H locs hP hD hS ls hl
  have hl : lv_has ls 4 [(3, .int (nI nq)), (2, .int (nI j)), (0, .ref gf), (1, .int x1)] := hl
  have hv_6 : j ≤ nq := hv_6
  refine W.eq (g2 := F0 m 5 ls []) rfl ?_
  refine lv_iload_n hx hb dJ7_fill_53178_5 rfl (lv_at hl 1 rfl) ?_
  refine lv_iload_n hx hb dJ7_fill_53178_6 rfl (lv_at hl 0 rfl) ?_
  refine lv_icmp_ge (tgt := 20) hx hb dJ7_fill_53178_7 (by decide) (fun c_8 => ?_) (fun c_8 => ?_)
  ·
    have hi_9 : nq ≤ j := leN (N := nq) c_8
    refine W.widen (k := 0) (n := 0) (by omega) (by omega) ?_
    exact W.vret hx hb hr (fun t ht hWm => ⟨⟨(), rfl, trivial, ⟨F_5, QTm.mk ht hP hD hO hR⟩⟩, hS.F ht⟩) hS.2.2 dJ7_fill_53178_20
  ·
    have hi_10 : j < nq := ltN (N := nq) c_8
    refine lv_aload_n hx hb dJ7_fill_53178_10 rfl (lv_at hl 2 rfl) ?_
    refine lv_iload_n hx hb dJ7_fill_53178_11 rfl (lv_at hl 1 rfl) ?_
    refine lv_iload_n hx hb dJ7_fill_53178_12 rfl (lv_at hl 3 rfl) ?_
    obtain ⟨f_11, hF_12⟩ := hO.ints hL_gf hT_gf
    refine pg_iast hx hb hK hP hD hS hL_gf 0 hF_12 rfl (vp_in_nI (by omega) (by omega)) dJ7_fill_53178_13 (fun H locs hP hD hS => ?_)
    obtain ⟨F_13, he_14, hP, hD, hO, hR⟩ : ∃ G, G = va_up F_5 gf (.inl (cs 16, nq, .inl (upd f_11 ((nI j)).toNatClampNeg (x1)))) ∧ va_P (dC, dI) vwCl (va_pl L G) H ∧ va_D A (va_pl L G) ∧ OKm cs ty gm L G ∧ FR ty [τ] F G := ⟨_, rfl, hP, hD, hO.up (shm.ints hT_gf ⟨_, rfl⟩), hR.up hT_gf (by simp)⟩
    have hF_15 : F_13 gf = .inl (cs 16, nq, .inl (upd f_11 ((nI j)).toNatClampNeg (x1))) := by rw [he_14]; exact up_self
    obtain ⟨f_16, hF_15⟩ : ∃ f : Nat → Int32, F_13 gf = .inl (cs 16, nq, .inl f) := ⟨_, hF_15⟩
    refine lv_iinc (v := (nI (j + 1))) (lv' := [(2, .int (nI (j + 1))), (3, .int (nI nq)), (0, .ref gf), (1, .int x1)]) hx hb dJ7_fill_53178_14 hl (k := 1) rfl (nI_1 _) (by decide) rfl (fun ls hl => ?_)
    refine lv_goto (tgt := 5) hx hb dJ7_fill_53178_17 (by decide) ?_
    refine W.widen (k := 0) (n := 0) (by omega) (by omega) ?_
    exact ih_7 (j + 1) F_13 (by first | omega | exact ⟨by omega, by omega⟩ | trivial) (by show nq - (j + 1) < nq - j; omega) hO hR _ _ hP hD hS ls (lv_sub hl [1, 0, 2, 3] rfl)
set_option maxHeartbeats 4000000 in
set_option maxRecDepth 100000 in
theorem m_J7_fill_031fb (l : Launch) (dC : Nat → ClassId) (dI : Nat → Nat → Nat) (cs : Nat → ClassId) (ty : TyM) (gm : Nat → Nat → Nat) (L : List Nat) (sz : Nat) (F : Nat → va_E) (gf : Nat) (τ : Nat) (nq : Nat) (x1 : Int32) (hW : WTm ty gm L) (hL_gf : gf ∈ L) (hT_gf : ty gf = (17, τ, [nq])) (hnq : nq ≤ 10000) : Met l yJ7_fill_031fb (.code yJ7_fill_031fb cJ7_fill_031fb 4 none :: tb) ({ frames := 0, cells := 0, slots := 0, locals := 0 }) (va_Pc [.ref gf, .int x1] (PTm (dC, dI) cs ty gm L F sz)) (va_Qv (fun _ : Unit => True) (fun _ T9 => ∃ F2 : Nat → va_E, QTm (dC, dI) cs ty gm L [τ] F F2 (va_A (va_pl L F) sz) T9) (va_A (va_pl L F) sz)) 0 0 (va_A (va_pl L F) sz) := by
  refine Met.ofW (cc := cJ7_fill_031fb) (maxL := 4) (ret := none) (by decide) rfl ?_
  intro p e s m args below meth c s₁ B hml hv
  obtain ⟨rfl, hsz, hP, hK, hD0, hE, hO⟩ := hv
  have hx := B.exec
  have hb := B.bytes
  have hr := B.returns
  have hts : ∀ w ∈ tb, w.before _ s = true := fun w h => atoms_spec (ws := .code yJ7_fill_031fb cJ7_fill_031fb 4 none :: tb) B.pre w (List.mem_cons_of_mem _ h)
  have hown : s.vm.findClass RJ7 = some m.cls := findClass_of_methodNamed B.named
  have hlocks := B.notSynchronized
  subst hsz
  have hD := hD0.self (sz := s.heap.size)
  generalize hAe : va_A (va_pl L F) s.heap.size = A at hD ⊢
  have hA : ∀ q : Nat, s.heap.size ≤ q → A q := fun q h => by rw [← hAe]; exact Or.inr h
  have hS : va_S A s.heap s.heap [] := va_S.rf
  have hR : FR ty [τ] F F := FR.refl
  have hl := lv_entry ([.ref gf, .int x1]) (n := 4) (Nat.le_of_ble_eq_true rfl)
  rw [lg_entry_eq]
  generalize (lg_sl ([.ref gf, .int x1]) ++ List.replicate (4 - (lg_sl ([.ref gf, .int x1])).length) Slot.unset).toArray = ls at hl ⊢
  have hl : lv_has ls 4 [(0, .ref gf), (1, .int x1)] := hl
  refine lv_iconst (v := 0) hx hb dJ7_fill_031fb_0 (by decide) ?_
  refine lv_istore_n (lv' := [(2, .int 0), (0, .ref gf), (1, .int x1)]) hx hb dJ7_fill_031fb_1 rfl hl (by decide) rfl (fun ls hl => ?_)
  refine lv_aload_n hx hb dJ7_fill_031fb_2 rfl (lv_at hl 1 rfl) ?_
  obtain ⟨hq_1, hq_2⟩ := hW.octs hL_gf hT_gf
  obtain ⟨f_3, hF_4, hq_5⟩ := hO.octs hL_gf hT_gf
  refine pg_alen (v := (nI nq)) hx hb hK hP hL_gf 1 hF_4 rfl rfl dJ7_fill_031fb_3 ?_
  refine lv_istore_n (lv' := [(3, .int (nI nq)), (2, .int 0), (0, .ref gf), (1, .int x1)]) hx hb dJ7_fill_031fb_4 rfl hl (by decide) rfl (fun ls hl => ?_)
  refine W.widen (k := 0) (n := 0) (by omega) (by omega) ?_
  refine pl_loopm (σ := Nat) A (dC, dI) cs ty gm L [τ] F 5 4 (fun j => [(3, .int (nI nq)), (2, .int (nI j)), (0, .ref gf), (1, .int x1)]) (fun j => []) (fun j _ => j ≤ nq) (fun j => nq - j) ?_ 0 F (by omega) hO hR _ _ hP hD hS ls (lv_sub hl [0, 1, 2, 3] rfl)
  rintro j F_6 hv_7 hO hR ih_8 H locs hP hD hS ls hl
  have hl : lv_has ls 4 [(3, .int (nI nq)), (2, .int (nI j)), (0, .ref gf), (1, .int x1)] := hl
  have hv_7 : j ≤ nq := hv_7
  refine W.eq (g2 := F0 m 5 ls []) rfl ?_
  refine lv_iload_n hx hb dJ7_fill_031fb_5 rfl (lv_at hl 1 rfl) ?_
  refine lv_iload_n hx hb dJ7_fill_031fb_6 rfl (lv_at hl 0 rfl) ?_
  refine lv_icmp_ge (tgt := 20) hx hb dJ7_fill_031fb_7 (by decide) (fun c_9 => ?_) (fun c_9 => ?_)
  ·
    have hi_10 : nq ≤ j := leN (N := nq) c_9
    refine W.widen (k := 0) (n := 0) (by omega) (by omega) ?_
    exact W.vret hx hb hr (fun t ht hWm => ⟨⟨(), rfl, trivial, ⟨F_6, QTm.mk ht hP hD hO hR⟩⟩, hS.F ht⟩) hS.2.2 dJ7_fill_031fb_20
  ·
    have hi_11 : j < nq := ltN (N := nq) c_9
    refine lv_aload_n hx hb dJ7_fill_031fb_10 rfl (lv_at hl 2 rfl) ?_
    refine lv_iload_n hx hb dJ7_fill_031fb_11 rfl (lv_at hl 1 rfl) ?_
    refine lv_iload_n hx hb dJ7_fill_031fb_12 rfl (lv_at hl 3 rfl) ?_
    obtain ⟨f_12, hF_13, hq_14⟩ := hO.octs hL_gf hT_gf
    refine pg_bast hx hb hK hP hD hS hL_gf 1 hF_13 rfl (vp_in_nI (by omega) (by omega)) dJ7_fill_031fb_13 (fun H locs hP hD hS => ?_)
    obtain ⟨F_15, he_16, hP, hD, hO, hR⟩ : ∃ G, G = va_up F_6 gf (.inl (cs 17, nq, .inl (upd f_12 ((nI j)).toNatClampNeg (vp_nar .byte (x1))))) ∧ va_P (dC, dI) vwCl (va_pl L G) H ∧ va_D A (va_pl L G) ∧ OKm cs ty gm L G ∧ FR ty [τ] F G := ⟨_, rfl, hP, hD, hO.up (shm.octs hT_gf ⟨_, rfl, bfm_upd hq_14 _ _⟩), hR.up hT_gf (by simp)⟩
    have hF_17 : F_15 gf = .inl (cs 17, nq, .inl (upd f_12 ((nI j)).toNatClampNeg (vp_nar .byte (x1)))) := by rw [he_16]; exact up_self
    obtain ⟨f_18, hF_17, hq_19⟩ : ∃ f : Nat → Int32, F_15 gf = .inl (cs 17, nq, .inl f) ∧ BFm f := ⟨_, hF_17, bfm_upd hq_14 _ _⟩
    refine lv_iinc (v := (nI (j + 1))) (lv' := [(2, .int (nI (j + 1))), (3, .int (nI nq)), (0, .ref gf), (1, .int x1)]) hx hb dJ7_fill_031fb_14 hl (k := 1) rfl (nI_1 _) (by decide) rfl (fun ls hl => ?_)
    refine lv_goto (tgt := 5) hx hb dJ7_fill_031fb_17 (by decide) ?_
    refine W.widen (k := 0) (n := 0) (by omega) (by omega) ?_
    exact ih_8 (j + 1) F_15 (by first | omega | exact ⟨by omega, by omega⟩ | trivial) (by show nq - (j + 1) < nq - j; omega) hO hR _ _ hP hD hS ls (lv_sub hl [1, 0, 2, 3] rfl)
theorem upd_all {f : Nat → Int32} {j : Nat} (h : ∀ i, i < j → f i = 0) : ∀ i, i < j + 1 → upd f j (vp_nar .boolean 0) i = 0 := by
  intro i hi
  show (if i = j then vp_nar .boolean 0 else f i) = 0
  split
  · decide
  · exact h i (by omega)
set_option maxHeartbeats 4000000 in
set_option maxRecDepth 100000 in
theorem m_J7_fill_49daa (l : Launch) (dC : Nat → ClassId) (dI : Nat → Nat → Nat) (cs : Nat → ClassId) (ty : TyM) (gm : Nat → Nat → Nat) (L : List Nat) (sz : Nat) (F : Nat → va_E) (gf : Nat) (τ : Nat) (nq : Nat) (hW : WTm ty gm L) (hL_gf : gf ∈ L) (hT_gf : ty gf = (18, τ, [nq])) (hnq : nq ≤ 10000) : Met l yJ7_fill_49daa (.code yJ7_fill_49daa cJ7_fill_49daa 4 none :: tb) ({ frames := 0, cells := 0, slots := 0, locals := 0 }) (va_Pc [.ref gf, .int 0] (PTm (dC, dI) cs ty gm L F sz)) (va_Qv (fun _ : Unit => True) (fun _ T9 => ∃ F2 : Nat → va_E, ∃ f2 : Nat → Int32, QTm (dC, dI) cs ty gm L [τ] F F2 (va_A (va_pl L F) sz) T9 ∧ F2 gf = .inl (cs 18, nq, .inl f2) ∧ (∀ i, i < nq → f2 i = 0)) (va_A (va_pl L F) sz)) 0 0 (va_A (va_pl L F) sz) := by
  refine Met.ofW (cc := cJ7_fill_49daa) (maxL := 4) (ret := none) (by decide) rfl ?_
  intro p e s m args below meth c s₁ B hml hv
  obtain ⟨rfl, hsz, hP, hK, hD0, hE, hO⟩ := hv
  have hx := B.exec
  have hb := B.bytes
  have hr := B.returns
  have hts : ∀ w ∈ tb, w.before _ s = true := fun w h => atoms_spec (ws := .code yJ7_fill_49daa cJ7_fill_49daa 4 none :: tb) B.pre w (List.mem_cons_of_mem _ h)
  have hown : s.vm.findClass RJ7 = some m.cls := findClass_of_methodNamed B.named
  have hlocks := B.notSynchronized
  subst hsz
  have hD := hD0.self (sz := s.heap.size)
  generalize hAe : va_A (va_pl L F) s.heap.size = A at hD ⊢
  have hA : ∀ q : Nat, s.heap.size ≤ q → A q := fun q h => by rw [← hAe]; exact Or.inr h
  have hS : va_S A s.heap s.heap [] := va_S.rf
  have hR : FR ty [τ] F F := FR.refl
  have hl := lv_entry ([.ref gf, .int 0]) (n := 4) (Nat.le_of_ble_eq_true rfl)
  rw [lg_entry_eq]
  generalize (lg_sl ([.ref gf, .int 0]) ++ List.replicate (4 - (lg_sl ([.ref gf, .int 0])).length) Slot.unset).toArray = ls at hl ⊢
  have hl : lv_has ls 4 [(0, .ref gf), (1, .int 0)] := hl
  refine lv_iconst (v := 0) hx hb dJ7_fill_49daa_0 (by decide) ?_
  refine lv_istore_n (lv' := [(2, .int 0), (0, .ref gf), (1, .int 0)]) hx hb dJ7_fill_49daa_1 rfl hl (by decide) rfl (fun ls hl => ?_)
  refine lv_aload_n hx hb dJ7_fill_49daa_2 rfl (lv_at hl 1 rfl) ?_
  obtain ⟨f_1, hF_2⟩ := hO.bits hL_gf hT_gf
  refine pg_alen (v := (nI nq)) hx hb hK hP hL_gf 2 hF_2 rfl rfl dJ7_fill_49daa_3 ?_
  refine lv_istore_n (lv' := [(3, .int (nI nq)), (2, .int 0), (0, .ref gf), (1, .int 0)]) hx hb dJ7_fill_49daa_4 rfl hl (by decide) rfl (fun ls hl => ?_)
  refine W.widen (k := 0) (n := 0) (by omega) (by omega) ?_
  refine pl_loopm (σ := Nat × (Nat → Int32)) A (dC, dI) cs ty gm L [τ] F 5 4 (fun (j, ff) => [(3, .int (nI nq)), (2, .int (nI j)), (0, .ref gf), (1, .int 0)]) (fun (j, ff) => []) (fun (j, ff) FF => j ≤ nq ∧ (∀ i, i < j → ff i = 0) ∧ FF gf = .inl (cs 18, nq, .inl ff)) (fun (j, ff) => nq - j) ?_ (0, f_1) F (⟨by omega, fun i hi => absurd hi (Nat.not_lt_zero _), hF_2⟩) hO hR _ _ hP hD hS ls (lv_sub hl [0, 1, 2, 3] rfl)
  rintro ⟨j, ff⟩ F_3 hv_4 hO hR ih_5 H locs hP hD hS ls hl
  have hl : lv_has ls 4 [(3, .int (nI nq)), (2, .int (nI j)), (0, .ref gf), (1, .int 0)] := hl
  have hv_4 : j ≤ nq ∧ (∀ i, i < j → ff i = 0) ∧ F_3 gf = .inl (cs 18, nq, .inl ff) := hv_4
  refine W.eq (g2 := F0 m 5 ls []) rfl ?_
  obtain ⟨hv1, hv2, hv3⟩ := hv_4
  refine lv_iload_n hx hb dJ7_fill_49daa_5 rfl (lv_at hl 1 rfl) ?_
  refine lv_iload_n hx hb dJ7_fill_49daa_6 rfl (lv_at hl 0 rfl) ?_
  refine lv_icmp_ge (tgt := 20) hx hb dJ7_fill_49daa_7 (by decide) (fun c_6 => ?_) (fun c_6 => ?_)
  ·
    have hi_7 : nq ≤ j := leN (N := nq) c_6
    refine W.widen (k := 0) (n := 0) (by omega) (by omega) ?_
    exact W.vret hx hb hr (fun t ht hWm => ⟨⟨(), rfl, trivial, ⟨F_3, ff, QTm.mk ht hP hD hO hR, hv3, fun i hi => hv2 i (by omega)⟩⟩, hS.F ht⟩) hS.2.2 dJ7_fill_49daa_20
  ·
    have hi_8 : j < nq := ltN (N := nq) c_6
    refine lv_aload_n hx hb dJ7_fill_49daa_10 rfl (lv_at hl 2 rfl) ?_
    refine lv_iload_n hx hb dJ7_fill_49daa_11 rfl (lv_at hl 1 rfl) ?_
    refine lv_iload_n hx hb dJ7_fill_49daa_12 rfl (lv_at hl 3 rfl) ?_
    refine pg_zast hx hb hK hP hD hS hL_gf 2 hv3 rfl (vp_in_nI (by omega) (by omega)) dJ7_fill_49daa_13 (fun H locs hP hD hS => ?_)
    obtain ⟨F_9, he_10, hP, hD, hO, hR⟩ : ∃ G, G = va_up F_3 gf (.inl (cs 18, nq, .inl (upd ff ((nI j)).toNatClampNeg (vp_nar .boolean (0))))) ∧ va_P (dC, dI) vwCl (va_pl L G) H ∧ va_D A (va_pl L G) ∧ OKm cs ty gm L G ∧ FR ty [τ] F G := ⟨_, rfl, hP, hD, hO.up (shm.bits hT_gf ⟨_, rfl⟩), hR.up hT_gf (by simp)⟩
    have hF_11 : F_9 gf = .inl (cs 18, nq, .inl (upd ff ((nI j)).toNatClampNeg (vp_nar .boolean (0)))) := by rw [he_10]; exact up_self
    obtain ⟨f_12, hF_11, hfe_13⟩ : ∃ f : Nat → Int32, F_9 gf = .inl (cs 18, nq, .inl f) ∧ f = upd ff ((nI j)).toNatClampNeg (vp_nar .boolean (0)) := ⟨_, hF_11, rfl⟩
    refine lv_iinc (v := (nI (j + 1))) (lv' := [(2, .int (nI (j + 1))), (3, .int (nI nq)), (0, .ref gf), (1, .int 0)]) hx hb dJ7_fill_49daa_14 hl (k := 1) rfl (nI_1 _) (by decide) rfl (fun ls hl => ?_)
    refine lv_goto (tgt := 5) hx hb dJ7_fill_49daa_17 (by decide) ?_
    refine W.widen (k := 0) (n := 0) (by omega) (by omega) ?_
    exact ih_5 ((j + 1), f_12) F_9 (⟨by omega, by rw [hfe_13, nI_clamp (by omega)]; exact upd_all hv2, hF_11⟩) (by show nq - (j + 1) < nq - j; omega) hO hR _ _ hP hD hS ls (lv_sub hl [1, 0, 2, 3] rfl)
set_option maxHeartbeats 4000000 in
set_option maxRecDepth 100000 in
theorem s_X15_digits (l : Launch) (dC : Nat → ClassId) (dI : Nat → Nat → Nat) (cs : Nat → ClassId) (ty : TyM) (gm : Nat → Nat → Nat) (L : List Nat) (sz : Nat) (F : Nat → va_E) (g1 : Nat) (σ : Nat) (gq : Nat) (τ : Nat) (hW : WTm ty gm L) (hL_g1 : g1 ∈ L) (hT_g1 : ty g1 = (17, σ, [64])) (hL_gq : gq ∈ L) (hT_gq : ty gq = (16, τ, [33])) : Met l yX15_digits (.code yX15_digits cX15_digits 3 none :: tb) ({ frames := 1, cells := 0, slots := 0, locals := 23 }) (va_Pc [.ref g1, .ref gq] (PTm (dC, dI) cs ty gm L F sz)) (va_Qv (fun _ : Unit => True) (fun _ T9 => ∃ F2 : Nat → va_E, QTm (dC, dI) cs ty gm L [τ] F F2 (va_A (va_pl L F) sz) T9) (va_A (va_pl L F) sz)) 0 0 (va_A (va_pl L F) sz) := by
  refine Met.ofW (cc := cX15_digits) (maxL := 3) (ret := none) (by decide) rfl ?_
  intro p e s m args below meth c s₁ B hml hv
  obtain ⟨rfl, hsz, hP, hK, hD0, hE, hO⟩ := hv
  have hx := B.exec
  have hb := B.bytes
  have hr := B.returns
  have hts : ∀ w ∈ tb, w.before _ s = true := fun w h => atoms_spec (ws := .code yX15_digits cX15_digits 3 none :: tb) B.pre w (List.mem_cons_of_mem _ h)
  have hown : s.vm.findClass RX15 = some m.cls := findClass_of_methodNamed B.named
  have hlocks := B.notSynchronized
  subst hsz
  have hD := hD0.self (sz := s.heap.size)
  generalize hAe : va_A (va_pl L F) s.heap.size = A at hD ⊢
  have hA : ∀ q : Nat, s.heap.size ≤ q → A q := fun q h => by rw [← hAe]; exact Or.inr h
  have hS : va_S A s.heap s.heap [] := va_S.rf
  have hR : FR ty [τ] F F := FR.refl
  have hl := lv_entry ([.ref g1, .ref gq]) (n := 3) (Nat.le_of_ble_eq_true rfl)
  rw [lg_entry_eq]
  generalize (lg_sl ([.ref g1, .ref gq]) ++ List.replicate (3 - (lg_sl ([.ref g1, .ref gq])).length) Slot.unset).toArray = ls at hl ⊢
  have hl : lv_has ls 3 [(0, .ref g1), (1, .ref gq)] := hl
  refine lv_aload_n hx hb dX15_digits_0 rfl (lv_at hl 1 rfl) ?_
  refine lv_iconst (v := 0) hx hb dX15_digits_1 (by decide) ?_
  obtain ⟨hq_1, hq_2⟩ := hW.ints hL_gq hT_gq
  have hFc := pg_free hD hS hA
  refine va_callv (va_runS (As := [.ref gq, .int 0]) (rest := []) ⟨hx, hb, hml, hown, hts⟩ (m_J7_fill_53178 l dC dI cs ty gm L s.heap.size F gq τ 33 0 hW hL_gq hT_gq (by first | omega | assumption | exact Or.inl rfl)) ⟨callB_of 2 hts (gi kt_807) rfl rfl rfl (hts _ kt_808) (hts _ kt_809) (by decide +kernel) ⟨Nat.le_of_ble_eq_true rfl, Nat.le_of_ble_eq_true rfl⟩, (hts _ kt_810)⟩ ⟨fun a U g mk q => ⟨q.1, PTm.calling q.2⟩, fun U hU hWm => ⟨rfl, PTm.mk hU hWm hP hK hD hE hO⟩⟩ rfl rfl hl.1 rfl (lv_room (Nat.le_of_ble_eq_true rfl)) dX15_digits_2 ⟨by show _ + 0 ≤ 0; omega, by show _ + 0 ≤ 0; omega⟩) hS (fun q _ h => hFc q h) hFc (fun u t H1 locs ht hvm hw hB hz1 hk1 hS => ?_)
  obtain ⟨F_4, hB1⟩ := hB
  obtain ⟨hP, hD, hO, hR⟩ := QTm.back hB1 ht hFc hR (fun q h => by simp only [List.mem_cons, List.not_mem_nil, or_false] at h ⊢; omega)
  generalize H1 = H at hP hS ⊢
  refine lv_iconst (v := 0) hx hb dX15_digits_5 (by decide) ?_
  refine lv_istore_n (lv' := [(2, .int 0), (0, .ref g1), (1, .ref gq)]) hx hb dX15_digits_6 rfl hl (by decide) rfl (fun ls hl => ?_)
  refine W.widen (k := 0) (n := 0) (by omega) (by omega) ?_
  refine pl_loopm (σ := Nat) A (dC, dI) cs ty gm L [τ] F 7 3 (fun j => [(2, .int (nI j)), (0, .ref g1), (1, .ref gq)]) (fun j => []) (fun j _ => j ≤ 64) (fun j => 64 - j) ?_ 0 F_4 (by omega) hO hR _ _ hP hD hS ls (lv_sub hl [0, 1, 2] rfl)
  rintro j F_5 hv_6 hO hR ih_7 H locs hP hD hS ls hl
  have hl : lv_has ls 3 [(2, .int (nI j)), (0, .ref g1), (1, .ref gq)] := hl
  have hv_6 : j ≤ 64 := hv_6
  refine W.eq (g2 := F0 m 7 ls []) rfl ?_
  refine lv_iload_n hx hb dX15_digits_7 rfl (lv_at hl 0 rfl) ?_
  refine lv_bipush (v := 64) hx hb dX15_digits_8 (by decide) ?_
  refine lv_icmp_ge (tgt := 47) hx hb dX15_digits_10 (by decide) (fun c_8 => ?_) (fun c_8 => ?_)
  ·
    have hi_9 : 64 ≤ j := leN (N := 64) c_8
    refine W.widen (k := 0) (n := 0) (by omega) (by omega) ?_
    exact W.vret hx hb hr (fun t ht hWm => ⟨⟨(), rfl, trivial, ⟨F_5, QTm.mk ht hP hD hO hR⟩⟩, hS.F ht⟩) hS.2.2 dX15_digits_47
  ·
    have hi_10 : j < 64 := ltN (N := 64) c_8
    refine lv_aload_n hx hb dX15_digits_13 rfl (lv_at hl 2 rfl) ?_
    refine lv_bipush (v := 63) hx hb dX15_digits_14 (by decide) ?_
    refine lv_iload_n hx hb dX15_digits_16 rfl (lv_at hl 0 rfl) ?_
    refine lv_isub hx hb dX15_digits_17 ?_
    refine lv_topi (fun x_11 ex_11 => ?_)
    obtain rfl : x_11 = (nI (63 - j)) := ex_11.trans (pk_sub (a := 63) (b := j) (by omega))
    refine lv_iconst (v := 2) hx hb dX15_digits_18 (by decide) ?_
    refine lv_idiv hx hb dX15_digits_19 (by decide) ?_
    refine lv_topi (fun x_12 ex_12 => ?_)
    obtain rfl : x_12 = (nI ((63 - j) / 2)) := ex_12.trans (pk_div (d := 2) (by omega) (by omega) (by omega))
    refine lv_dup2_11 hx hb dX15_digits_20 rfl rfl ?_
    obtain ⟨f_13, hF_14⟩ := hO.ints hL_gq hT_gq
    refine pg_iald hx hb hK hP hL_gq 0 hF_14 rfl (vp_in_nI (by omega) (by omega)) dX15_digits_21 ?_
    refine lv_topi (fun x_15 _ => ?_)
    refine lv_aload_n hx hb dX15_digits_22 rfl (lv_at hl 1 rfl) ?_
    refine lv_iload_n hx hb dX15_digits_23 rfl (lv_at hl 0 rfl) ?_
    obtain ⟨hq_16, hq_17⟩ := hW.octs hL_g1 hT_g1
    obtain ⟨f_18, hF_19, hq_20⟩ := hO.octs hL_g1 hT_g1
    refine pg_bald hx hb hK hP hL_g1 1 hF_19 rfl (vp_in_nI (by omega) (by omega)) dX15_digits_24 ?_
    refine lv_topi (fun x_21 ex_21 => ?_)
    obtain rfl : x_21 = f_18 j := ex_21.trans (congrArg f_18 (show ((nI j) : Int32).toNatClampNeg = j from nI_clamp (by omega)))
    refine lv_sipush (v := 255) hx hb dX15_digits_25 (by decide) ?_
    refine lv_iand hx hb dX15_digits_28 ?_
    refine lv_topi (fun x_22 _ => ?_)
    refine lv_bipush (v := 8) hx hb dX15_digits_29 (by decide) ?_
    refine lv_bipush (v := 63) hx hb dX15_digits_31 (by decide) ?_
    refine lv_iload_n hx hb dX15_digits_33 rfl (lv_at hl 0 rfl) ?_
    refine lv_isub hx hb dX15_digits_34 ?_
    refine lv_topi (fun x_23 ex_23 => ?_)
    obtain rfl : x_23 = (nI (63 - j)) := ex_23.trans (pk_sub (a := 63) (b := j) (by omega))
    refine lv_iconst (v := 2) hx hb dX15_digits_35 (by decide) ?_
    refine lv_irem hx hb dX15_digits_36 (by decide) ?_
    refine lv_topi (fun x_24 ex_24 => ?_)
    refine lv_imul hx hb dX15_digits_37 ?_
    refine lv_topi (fun x_25 ex_25 => ?_)
    refine lv_ishl hx hb dX15_digits_38 ?_
    refine lv_topi (fun x_26 _ => ?_)
    refine lv_ior hx hb dX15_digits_39 ?_
    refine lv_topi (fun x_27 _ => ?_)
    refine pg_iast hx hb hK hP hD hS hL_gq 0 hF_14 rfl (vp_in_nI (by omega) (by omega)) dX15_digits_40 (fun H locs hP hD hS => ?_)
    obtain ⟨F_28, he_29, hP, hD, hO, hR⟩ : ∃ G, G = va_up F_5 gq (.inl (cs 16, 33, .inl (upd f_13 ((nI ((63 - j) / 2))).toNatClampNeg (x_27)))) ∧ va_P (dC, dI) vwCl (va_pl L G) H ∧ va_D A (va_pl L G) ∧ OKm cs ty gm L G ∧ FR ty [τ] F G := ⟨_, rfl, hP, hD, hO.up (shm.ints hT_gq ⟨_, rfl⟩), hR.up hT_gq (by simp)⟩
    have hF_30 : F_28 gq = .inl (cs 16, 33, .inl (upd f_13 ((nI ((63 - j) / 2))).toNatClampNeg (x_27))) := by rw [he_29]; exact up_self
    have hF_31 : F_28 g1 = .inl (cs 17, 64, .inl f_18) := by rw [he_29, up_ne (ne_ty hT_g1 hT_gq (by simp))]; exact hF_19
    obtain ⟨f_32, hF_30⟩ : ∃ f : Nat → Int32, F_28 gq = .inl (cs 16, 33, .inl f) := ⟨_, hF_30⟩
    refine lv_iinc (v := (nI (j + 1))) (lv' := [(2, .int (nI (j + 1))), (0, .ref g1), (1, .ref gq)]) hx hb dX15_digits_41 hl (k := 0) rfl (nI_1 _) (by decide) rfl (fun ls hl => ?_)
    refine lv_goto (tgt := 7) hx hb dX15_digits_44 (by decide) ?_
    refine W.widen (k := 0) (n := 0) (by omega) (by omega) ?_
    exact ih_7 (j + 1) F_28 (by first | omega | exact ⟨by omega, by omega⟩ | trivial) (by show 64 - (j + 1) < 64 - j; omega) hO hR _ _ hP hD hS ls (lv_sub hl [0, 1, 2] rfl)
set_option maxHeartbeats 4000000 in
set_option maxRecDepth 100000 in
theorem s_X15_isBelow (l : Launch) (dC : Nat → ClassId) (dI : Nat → Nat → Nat) (cs : Nat → ClassId) (ty : TyM) (gm : Nat → Nat → Nat) (L : List Nat) (sz : Nat) (F : Nat → va_E) (g1 : Nat) (σ : Nat) (g2 : Nat) (τ : Nat) (hW : WTm ty gm L) (hL_g1 : g1 ∈ L) (hT_g1 : ty g1 = (16, σ, [33])) (hL_g2 : g2 ∈ L) (hT_g2 : ty g2 = (16, τ, [33])) : Met l yX15_isBelow (.code yX15_isBelow cX15_isBelow 3 (some .boolean) :: tb) ({ frames := 0, cells := 0, slots := 0, locals := 0 }) (va_Pc [.ref g1, .ref g2] (PTm (dC, dI) cs ty gm L F sz)) (va_Qi (fun (r : Int32) (_ : Unit) => (r = 0 ∨ r = 1)) (fun _ T9 => ∃ F2 : Nat → va_E, QTm (dC, dI) cs ty gm L [] F F2 (va_A (va_pl L F) sz) T9) (va_A (va_pl L F) sz)) 0 0 (va_A (va_pl L F) sz) := by
  refine Met.ofW (cc := cX15_isBelow) (maxL := 3) (ret := (some .boolean)) (by decide) rfl ?_
  intro p e s m args below meth c s₁ B hml hv
  obtain ⟨rfl, hsz, hP, hK, hD0, hE, hO⟩ := hv
  have hx := B.exec
  have hb := B.bytes
  have hr := B.returns
  have hts : ∀ w ∈ tb, w.before _ s = true := fun w h => atoms_spec (ws := .code yX15_isBelow cX15_isBelow 3 (some .boolean) :: tb) B.pre w (List.mem_cons_of_mem _ h)
  have hown : s.vm.findClass RX15 = some m.cls := findClass_of_methodNamed B.named
  have hlocks := B.notSynchronized
  subst hsz
  have hD := hD0.self (sz := s.heap.size)
  generalize hAe : va_A (va_pl L F) s.heap.size = A at hD ⊢
  have hA : ∀ q : Nat, s.heap.size ≤ q → A q := fun q h => by rw [← hAe]; exact Or.inr h
  have hS : va_S A s.heap s.heap [] := va_S.rf
  have hR : FR ty [] F F := FR.refl
  have hl := lv_entry ([.ref g1, .ref g2]) (n := 3) (Nat.le_of_ble_eq_true rfl)
  rw [lg_entry_eq]
  generalize (lg_sl ([.ref g1, .ref g2]) ++ List.replicate (3 - (lg_sl ([.ref g1, .ref g2])).length) Slot.unset).toArray = ls at hl ⊢
  have hl : lv_has ls 3 [(0, .ref g1), (1, .ref g2)] := hl
  refine lv_bipush (v := 32) hx hb dX15_isBelow_0 (by decide) ?_
  refine lv_istore_n (lv' := [(2, .int 32), (0, .ref g1), (1, .ref g2)]) hx hb dX15_isBelow_2 rfl hl (by decide) rfl (fun ls hl => ?_)
  refine W.widen (k := 0) (n := 0) (by omega) (by omega) ?_
  refine pl_loopm (σ := Int32) A (dC, dI) cs ty gm L [] F 3 3 (fun i1 => [(2, .int i1), (0, .ref g1), (1, .ref g2)]) (fun i1 => []) (fun i1 _ => (∃ j : Nat, j ≤ 33 ∧ i1 = nI j - 1)) (fun i1 => (i1.toInt + 1).toNat) ?_ 32 F (⟨33, by omega, by decide⟩) hO hR _ _ hP hD hS ls (lv_sub hl [0, 1, 2] rfl)
  rintro i1 F_1 hv_2 hO hR ih_3 H locs hP hD hS ls hl
  have hl : lv_has ls 3 [(2, .int i1), (0, .ref g1), (1, .ref g2)] := hl
  have hv_2 : (∃ j : Nat, j ≤ 33 ∧ i1 = nI j - 1) := hv_2
  refine W.eq (g2 := F0 m 3 ls []) rfl ?_
  obtain rfl : F = F_1 := (funext (fun a => hR a List.not_mem_nil)).symm
  have hd9 := hv_2
  refine lv_iload_n hx hb dX15_isBelow_3 rfl (lv_at hl 0 rfl) ?_
  refine lv_if_lt (tgt := 37) hx hb dX15_isBelow_4 (by decide) (fun c_4 => ?_) (fun c_4 => ?_)
  ·
    refine lv_iconst (v := 0) hx hb dX15_isBelow_37 (by decide) ?_
    refine W.widen (k := 0) (n := 0) (by omega) (by omega) ?_
    exact W.zret (v := 0) (ty := .boolean) hx hb hr (by decide) (fun t ht hWm => ⟨⟨0, (), rfl, (by first | exact Or.inl rfl | exact Or.inr rfl), ⟨F, QTm.mk ht hP hD hO hR⟩⟩, hS.F ht⟩) hS.2.2 dX15_isBelow_38
  ·
    obtain ⟨k, hkz, rfl⟩ := dn_pos hd9 c_4
    refine lv_aload_n hx hb dX15_isBelow_7 rfl (lv_at hl 1 rfl) ?_
    refine lv_iload_n hx hb dX15_isBelow_8 rfl (lv_at hl 0 rfl) ?_
    obtain ⟨hq_5, hq_6⟩ := hW.ints hL_g1 hT_g1
    obtain ⟨f_7, hF_8⟩ := hO.ints hL_g1 hT_g1
    refine pg_iald hx hb hK hP hL_g1 0 hF_8 rfl (vp_in_nI (by omega) (by omega)) dX15_isBelow_9 ?_
    refine lv_topi (fun x_9 _ => ?_)
    refine lv_aload_n hx hb dX15_isBelow_10 rfl (lv_at hl 2 rfl) ?_
    refine lv_iload_n hx hb dX15_isBelow_11 rfl (lv_at hl 0 rfl) ?_
    obtain ⟨hq_10, hq_11⟩ := hW.ints hL_g2 hT_g2
    obtain ⟨f_12, hF_13⟩ := hO.ints hL_g2 hT_g2
    refine pg_iald hx hb hK hP hL_g2 0 hF_13 rfl (vp_in_nI (by omega) (by omega)) dX15_isBelow_12 ?_
    refine lv_topi (fun x_14 _ => ?_)
    refine lv_icmp_eq (tgt := 31) hx hb dX15_isBelow_13 (by decide) (fun c_15 => ?_) (fun c_15 => ?_)
    ·
      refine lv_iinc (v := (nI k + Int32.ofInt (-1))) (lv' := [(2, .int (nI k + Int32.ofInt (-1))), (0, .ref g1), (1, .ref g2)]) hx hb dX15_isBelow_31 hl (k := 0) rfl (rfl) (by decide) rfl (fun ls hl => ?_)
      refine lv_goto (tgt := 3) hx hb dX15_isBelow_34 (by decide) ?_
      refine W.widen (k := 0) (n := 0) (by omega) (by omega) ?_
      exact ih_3 (nI k + Int32.ofInt (-1)) F (⟨k, by omega, dn_st k⟩) (by show ((nI k + Int32.ofInt (-1)).toInt + 1).toNat < ((nI k).toInt + 1).toNat; exact dn_mu (by omega)) hO hR _ _ hP hD hS ls (lv_sub hl [0, 1, 2] rfl)
    ·
      refine lv_aload_n hx hb dX15_isBelow_16 rfl (lv_at hl 1 rfl) ?_
      refine lv_iload_n hx hb dX15_isBelow_17 rfl (lv_at hl 0 rfl) ?_
      refine pg_iald hx hb hK hP hL_g1 0 hF_8 rfl (vp_in_nI (by omega) (by omega)) dX15_isBelow_18 ?_
      refine lv_topi (fun x_16 _ => ?_)
      refine lv_aload_n hx hb dX15_isBelow_19 rfl (lv_at hl 2 rfl) ?_
      refine lv_iload_n hx hb dX15_isBelow_20 rfl (lv_at hl 0 rfl) ?_
      refine pg_iald hx hb hK hP hL_g2 0 hF_13 rfl (vp_in_nI (by omega) (by omega)) dX15_isBelow_21 ?_
      refine lv_topi (fun x_17 _ => ?_)
      refine lv_icmp_ge (tgt := 29) hx hb dX15_isBelow_22 (by decide) (fun c_18 => ?_) (fun c_18 => ?_)
      ·
        refine lv_iconst (v := 0) hx hb dX15_isBelow_29 (by decide) ?_
        refine W.widen (k := 0) (n := 0) (by omega) (by omega) ?_
        exact W.zret (v := 0) (ty := .boolean) hx hb hr (by decide) (fun t ht hWm => ⟨⟨0, (), rfl, (by first | exact Or.inl rfl | exact Or.inr rfl), ⟨F, QTm.mk ht hP hD hO hR⟩⟩, hS.F ht⟩) hS.2.2 dX15_isBelow_30
      ·
        refine lv_iconst (v := 1) hx hb dX15_isBelow_25 (by decide) ?_
        refine lv_goto (tgt := 30) hx hb dX15_isBelow_26 (by decide) ?_
        refine W.widen (k := 0) (n := 0) (by omega) (by omega) ?_
        exact W.zret (v := 1) (ty := .boolean) hx hb hr (by decide) (fun t ht hWm => ⟨⟨1, (), rfl, (by first | exact Or.inl rfl | exact Or.inr rfl), ⟨F, QTm.mk ht hP hD hO hR⟩⟩, hS.F ht⟩) hS.2.2 dX15_isBelow_30
set_option maxHeartbeats 4000000 in
set_option maxRecDepth 100000 in
theorem s_X15_remainder_32 (l : Launch) (dC : Nat → ClassId) (dI : Nat → Nat → Nat) (cs : Nat → ClassId) (ty : TyM) (gm : Nat → Nat → Nat) (L : List Nat) (sz : Nat) (F : Nat → va_E) (h0 : Nat) (ρ : Nat) (ta : Nat) (ou : Nat) (so : Nat) (ad : Nat) (na : Nat) (va : Nat) (lc : Nat) (dm : Nat) (tg : Nat) (pe : Nat) (ml : Nat) (bg : Nat) (co : Nat) (sp : Nat) (nb0 : Nat) (nb1 : Nat) (nb2 : Nat) (pl : Nat) (se : Nat) (ke : Nat) (wi : Nat) (hs : Nat) (mo : Nat) (po : Nat) (nu : Nat) (pr : Nat) (sq : Nat) (xa : Nat) (sa : Nat) (n64 : Nat) (m64 : Nat) (ex : Nat) (wh : Nat) (sd : Nat) (tk : Nat) (hd : Nat) (ak : Nat) (ho : Nat) (ot : Nat) (sx : Nat) (s0 : Nat) (s1 : Nat) (s2 : Nat) (nf : Nat) (bd : Nat) (mm : Nat) (zo : Nat) (fm : Nat) (sn : Nat) (hg : Nat) (gc : Nat) (gv : Nat) (ze : Nat) (zt : Nat) (g1 : Nat) (σ : Nat) (gq : Nat) (τ : Nat) (hW : WTm ty gm L) (hL_h0 : h0 ∈ L) (hT_h0 : ty h0 = (15, ρ, [ta, ou, so, ad, na, va, lc, dm, tg, pe, ml, bg, co, sp, nb0, nb1, nb2, pl, se, ke, wi, hs, mo, po, nu, pr, sq, xa, sa, n64, m64, ex, wh, sd, tk, hd, ak, ho, ot, sx, s0, s1, s2, nf, bd, mm, zo, fm, sn, hg, gc, gv, ze, zt])) (hL_g1 : g1 ∈ L) (hT_g1 : ty g1 = (16, σ, [33])) (hL_gq : gq ∈ L) (hT_gq : ty gq = (16, τ, [33])) : Met l yX15_remainder (.code yX15_remainder cX15_remainder 9 none :: tb) ({ frames := 1, cells := 0, slots := 0, locals := 23 }) (va_Pc [.ref h0, .ref g1, .int 32, .ref gq] (PTm (dC, dI) cs ty gm L F sz)) (va_Qv (fun _ : Unit => True) (fun _ T9 => ∃ F2 : Nat → va_E, QTm (dC, dI) cs ty gm L [τ] F F2 (va_A (va_pl L F) sz) T9) (va_A (va_pl L F) sz)) 0 0 (va_A (va_pl L F) sz) := by
  refine Met.ofW (cc := cX15_remainder) (maxL := 9) (ret := none) (by decide) rfl ?_
  intro p e s m args below meth c s₁ B hml hv
  obtain ⟨rfl, hsz, hP, hK, hD0, hE, hO⟩ := hv
  have hx := B.exec
  have hb := B.bytes
  have hr := B.returns
  have hts : ∀ w ∈ tb, w.before _ s = true := fun w h => atoms_spec (ws := .code yX15_remainder cX15_remainder 9 none :: tb) B.pre w (List.mem_cons_of_mem _ h)
  have hown : s.vm.findClass RX15 = some m.cls := findClass_of_methodNamed B.named
  have hlocks := B.notSynchronized
  subst hsz
  have hD := hD0.self (sz := s.heap.size)
  generalize hAe : va_A (va_pl L F) s.heap.size = A at hD ⊢
  have hA : ∀ q : Nat, s.heap.size ≤ q → A q := fun q h => by rw [← hAe]; exact Or.inr h
  have hS : va_S A s.heap s.heap [] := va_S.rf
  have hR : FR ty [τ] F F := FR.refl
  have hl := lv_entry ([.ref h0, .ref g1, .int 32, .ref gq]) (n := 9) (Nat.le_of_ble_eq_true rfl)
  rw [lg_entry_eq]
  generalize (lg_sl ([.ref h0, .ref g1, .int 32, .ref gq]) ++ List.replicate (9 - (lg_sl ([.ref h0, .ref g1, .int 32, .ref gq])).length) Slot.unset).toArray = ls at hl ⊢
  have hl : lv_has ls 9 [(0, .ref h0), (1, .ref g1), (2, .int 32), (3, .ref gq)] := hl
  refine lv_aload_n hx hb dX15_remainder_0 rfl (lv_at hl 3 rfl) ?_
  refine lv_iconst (v := 0) hx hb dX15_remainder_1 (by decide) ?_
  obtain ⟨hq_1, hq_2⟩ := hW.ints hL_gq hT_gq
  have hFc := pg_free hD hS hA
  refine va_callv (va_runS (As := [.ref gq, .int 0]) (rest := []) ⟨hx, hb, hml, hown, hts⟩ (m_J7_fill_53178 l dC dI cs ty gm L s.heap.size F gq τ 33 0 hW hL_gq hT_gq (by first | omega | assumption | exact Or.inl rfl)) ⟨callB_of 2 hts (gi kt_807) rfl rfl rfl (hts _ kt_808) (hts _ kt_809) (by decide +kernel) ⟨Nat.le_of_ble_eq_true rfl, Nat.le_of_ble_eq_true rfl⟩, (hts _ kt_810)⟩ ⟨fun a U g mk q => ⟨q.1, PTm.calling q.2⟩, fun U hU hWm => ⟨rfl, PTm.mk hU hWm hP hK hD hE hO⟩⟩ rfl rfl hl.1 rfl (lv_room (Nat.le_of_ble_eq_true rfl)) dX15_remainder_2 ⟨by show _ + 0 ≤ 0; omega, by show _ + 0 ≤ 0; omega⟩) hS (fun q _ h => hFc q h) hFc (fun u t H1 locs ht hvm hw hB hz1 hk1 hS => ?_)
  obtain ⟨F_4, hB1⟩ := hB
  obtain ⟨hP, hD, hO, hR⟩ := QTm.back hB1 ht hFc hR (fun q h => by simp only [List.mem_cons, List.not_mem_nil, or_false] at h ⊢; omega)
  generalize H1 = H at hP hS ⊢
  refine lv_bipush (v := 16) hx hb dX15_remainder_5 (by decide) ?_
  refine lv_iload_n hx hb dX15_remainder_7 rfl (lv_at hl 2 rfl) ?_
  refine lv_imul hx hb dX15_remainder_8 ?_
  refine lv_topi (fun x_5 ex_5 => ?_)
  obtain rfl : x_5 = 512 := ex_5.trans (by decide)
  refine lv_iconst (v := 1) hx hb dX15_remainder_9 (by decide) ?_
  refine lv_isub hx hb dX15_remainder_10 ?_
  refine lv_topi (fun x_6 ex_6 => ?_)
  obtain rfl : x_6 = 511 := ex_6.trans (by decide)
  refine lv_istore (lv' := [(4, .int 511), (0, .ref h0), (1, .ref g1), (2, .int 32), (3, .ref gq)]) hx hb dX15_remainder_11 hl (by decide) rfl (fun ls hl => ?_)
  refine W.widen (k := 0) (n := 0) (by omega) (by omega) ?_
  refine pl_loopm (σ := Int32) A (dC, dI) cs ty gm L [τ] F 13 9 (fun i1 => [(4, .int i1), (0, .ref h0), (1, .ref g1), (2, .int 32), (3, .ref gq)]) (fun i1 => []) (fun i1 _ => (∃ j : Nat, j ≤ 512 ∧ i1 = nI j - 1)) (fun i1 => (i1.toInt + 1).toNat) ?_ 511 F_4 (⟨512, by omega, by decide⟩) hO hR _ _ hP hD hS ls (lv_sub hl [0, 1, 2, 3, 4] rfl)
  rintro i1 F_7 hv_8 hO hR ih_9 H locs hP hD hS ls hl
  have hl : lv_has ls 9 [(4, .int i1), (0, .ref h0), (1, .ref g1), (2, .int 32), (3, .ref gq)] := hl
  have hv_8 : (∃ j : Nat, j ≤ 512 ∧ i1 = nI j - 1) := hv_8
  refine W.eq (g2 := F0 m 13 ls []) rfl ?_
  have hd9 := hv_8
  refine lv_iload hx hb dX15_remainder_13 (lv_at hl 0 rfl) ?_
  refine lv_if_lt (tgt := 157) hx hb dX15_remainder_15 (by decide) (fun c_10 => ?_) (fun c_10 => ?_)
  ·
    refine W.widen (k := 0) (n := 0) (by omega) (by omega) ?_
    exact W.vret hx hb hr (fun t ht hWm => ⟨⟨(), rfl, trivial, ⟨F_7, QTm.mk ht hP hD hO hR⟩⟩, hS.F ht⟩) hS.2.2 dX15_remainder_157
  ·
    obtain ⟨k, hkz, rfl⟩ := dn_pos hd9 c_10
    refine lv_aload_n hx hb dX15_remainder_18 rfl (lv_at hl 2 rfl) ?_
    refine lv_iload hx hb dX15_remainder_19 (lv_at hl 0 rfl) ?_
    refine lv_bipush (v := 16) hx hb dX15_remainder_21 (by decide) ?_
    refine lv_idiv hx hb dX15_remainder_23 (by decide) ?_
    refine lv_topi (fun x_11 ex_11 => ?_)
    obtain rfl : x_11 = (nI (k / 16)) := ex_11.trans (pk_div (d := 16) (by omega) (by omega) (by omega))
    obtain ⟨hq_12, hq_13⟩ := hW.ints hL_g1 hT_g1
    obtain ⟨f_14, hF_15⟩ := hO.ints hL_g1 hT_g1
    refine pg_iald hx hb hK hP hL_g1 0 hF_15 rfl (vp_in_nI (by omega) (by omega)) dX15_remainder_24 ?_
    refine lv_topi (fun x_16 _ => ?_)
    refine lv_iload hx hb dX15_remainder_25 (lv_at hl 0 rfl) ?_
    refine lv_bipush (v := 16) hx hb dX15_remainder_27 (by decide) ?_
    refine lv_irem hx hb dX15_remainder_29 (by decide) ?_
    refine lv_topi (fun x_17 ex_17 => ?_)
    refine lv_ishr hx hb dX15_remainder_30 ?_
    refine lv_topi (fun x_18 _ => ?_)
    refine lv_iconst (v := 1) hx hb dX15_remainder_31 (by decide) ?_
    refine lv_iand hx hb dX15_remainder_32 ?_
    refine lv_topi (fun x_19 _ => ?_)
    refine lv_istore (lv' := [(5, .int x_19), (4, .int (nI k)), (0, .ref h0), (1, .ref g1), (2, .int 32), (3, .ref gq)]) hx hb dX15_remainder_33 hl (by decide) rfl (fun ls hl => ?_)
    refine lv_iconst (v := 0) hx hb dX15_remainder_35 (by decide) ?_
    refine lv_istore (lv' := [(6, .int 0), (5, .int x_19), (4, .int (nI k)), (0, .ref h0), (1, .ref g1), (2, .int 32), (3, .ref gq)]) hx hb dX15_remainder_36 hl (by decide) rfl (fun ls hl => ?_)
    refine W.widen (k := 0) (n := 0) (by omega) (by omega) ?_
    refine pl_loopm (σ := Nat × Int32) A (dC, dI) cs ty gm L [τ] F 38 9 (fun (j, w5) => [(6, .int (nI j)), (5, .int w5), (4, .int (nI k)), (0, .ref h0), (1, .ref g1), (2, .int 32), (3, .ref gq)]) (fun (j, w5) => []) (fun (j, w5) _ => j ≤ 33) (fun (j, w5) => 33 - j) ?_ (0, x_19) F_7 (by omega) hO hR _ _ hP hD hS ls (lv_sub hl [0, 1, 2, 3, 4, 5, 6] rfl)
    rintro ⟨j, w5⟩ F_20 hv_21 hO hR ih_22 H locs hP hD hS ls hl
    have hl : lv_has ls 9 [(6, .int (nI j)), (5, .int w5), (4, .int (nI k)), (0, .ref h0), (1, .ref g1), (2, .int 32), (3, .ref gq)] := hl
    have hv_21 : j ≤ 33 := hv_21
    refine W.eq (g2 := F0 m 38 ls []) rfl ?_
    refine lv_iload hx hb dX15_remainder_38 (lv_at hl 0 rfl) ?_
    refine lv_bipush (v := 33) hx hb dX15_remainder_40 (by decide) ?_
    refine lv_icmp_ge (tgt := 79) hx hb dX15_remainder_42 (by decide) (fun c_23 => ?_) (fun c_23 => ?_)
    ·
      have hi_24 : 33 ≤ j := leN (N := 33) c_23
      refine lv_aload_n hx hb dX15_remainder_79 rfl (lv_at hl 6 rfl) ?_
      refine lv_aload_n hx hb dX15_remainder_80 rfl (lv_at hl 3 rfl) ?_
      obtain ⟨hq_47, hq_48, hq_49, hq_50, hq_51, hgO, hgA, hgB, hq_52⟩ := hW.sc hL_h0 hT_h0
      obtain ⟨v14_53, v15_54, v17_55, v18_56, v19_57, v20_58, v21_59, v22_60, v33_61, v52_62, v53_63, v54_64, hF_65, hq_66, hq_67, hq_68, hq_69, hq_70⟩ := hO.mod hL_h0 hT_h0
      refine pg_get (ci := 15) (v := .ref mo) (C := RX15) (T := TX15) (N := 59) hx hb hts it_15 hown hK hP hL_h0 hF_65 rfl 39 (by decide) (hts _ kt_811) (fun _ h9 => h9) rfl dX15_remainder_81 ?_
      obtain ⟨hi_71, ht_72⟩ := hW.f_mo hL_h0 hT_h0
      obtain ⟨hq_73, hq_74⟩ := hW.ints hi_71 ht_72
      have hFc := pg_free hD hS hA
      refine va_calli (va_runS (As := [.ref gq, .ref mo]) (rest := []) ⟨hx, hb, hml, hown, hts⟩ (s_X15_isBelow l dC dI cs ty gm L H.size F_20 gq τ mo (ρ + 18) hW hL_gq hT_gq hi_71 ht_72) ⟨callB_of 2 hts (gi kt_812) rfl rfl rfl (hts _ kt_669) (hts _ kt_813) (by decide +kernel) ⟨Nat.le_of_ble_eq_true rfl, Nat.le_of_ble_eq_true rfl⟩, (hts _ kt_814)⟩ ⟨fun a U g mk q => ⟨q.1, PTm.calling q.2⟩, fun U hU hWm => ⟨rfl, PTm.mk hU hWm hP hK hD hE hO⟩⟩ rfl rfl hl.1 rfl (lv_room (Nat.le_of_ble_eq_true rfl)) dX15_remainder_84 ⟨by show _ + 0 ≤ 0; omega, by show _ + 0 ≤ 0; omega⟩) hS (fun q _ h => hFc q h) hFc (fun r_75 u t H1 locs ht hvm hw hB hz1 hk1 hS => ?_)
      obtain ⟨F_76, hB1⟩ := hB
      obtain rfl : F_20 = F_76 := (funext (fun a => hB1.2.2.2 a List.not_mem_nil)).symm
      obtain ⟨hP, hD, hO, hR⟩ := QTm.back hB1 ht hFc hR (fun q h => absurd h List.not_mem_nil)
      generalize H1 = H at hP hS ⊢
      have hw : (r_75 = 0 ∨ r_75 = 1) := hw
      have hw_77 := hw
      refine lv_if_eq (tgt := 93) hx hb dX15_remainder_87 (by decide) (fun c_78 => ?_) (fun c_78 => ?_)
      ·
        refine lv_iconst (v := 0) hx hb dX15_remainder_93 (by decide) ?_
        refine lv_istore (lv' := [(6, .int 0), (5, .int w5), (4, .int (nI k)), (0, .ref h0), (1, .ref g1), (2, .int 32), (3, .ref gq)]) hx hb dX15_remainder_94 hl (by decide) rfl (fun ls hl => ?_)
        refine lv_iconst (v := 0) hx hb dX15_remainder_96 (by decide) ?_
        refine lv_istore (lv' := [(7, .int 0), (6, .int 0), (5, .int w5), (4, .int (nI k)), (0, .ref h0), (1, .ref g1), (2, .int 32), (3, .ref gq)]) hx hb dX15_remainder_97 hl (by decide) rfl (fun ls hl => ?_)
        refine W.widen (k := 0) (n := 0) (by omega) (by omega) ?_
        refine pl_loopm (σ := Nat × Int32) A (dC, dI) cs ty gm L [τ] F 99 9 (fun (j2, w6) => [(7, .int (nI j2)), (6, .int w6), (4, .int (nI k)), (0, .ref h0), (1, .ref g1), (2, .int 32), (3, .ref gq)]) (fun (j2, w6) => []) (fun (j2, w6) _ => j2 ≤ 33) (fun (j2, w6) => 33 - j2) ?_ (0, 0) F_20 (by omega) hO hR _ _ hP hD hS ls (lv_sub hl [0, 1, 3, 4, 5, 6, 7] rfl)
        rintro ⟨j2, w6⟩ F_79 hv_80 hO hR ih_81 H locs hP hD hS ls hl
        have hl : lv_has ls 9 [(7, .int (nI j2)), (6, .int w6), (4, .int (nI k)), (0, .ref h0), (1, .ref g1), (2, .int 32), (3, .ref gq)] := hl
        have hv_80 : j2 ≤ 33 := hv_80
        refine W.eq (g2 := F0 m 99 ls []) rfl ?_
        refine lv_iload hx hb dX15_remainder_99 (lv_at hl 0 rfl) ?_
        refine lv_bipush (v := 33) hx hb dX15_remainder_101 (by decide) ?_
        refine lv_icmp_ge (tgt := 151) hx hb dX15_remainder_103 (by decide) (fun c_82 => ?_) (fun c_82 => ?_)
        ·
          have hi_83 : 33 ≤ j2 := leN (N := 33) c_82
          refine lv_iinc (v := (nI k + Int32.ofInt (-1))) (lv' := [(4, .int (nI k + Int32.ofInt (-1))), (7, .int (nI j2)), (6, .int w6), (0, .ref h0), (1, .ref g1), (2, .int 32), (3, .ref gq)]) hx hb dX15_remainder_151 hl (k := 2) rfl (rfl) (by decide) rfl (fun ls hl => ?_)
          refine lv_goto (tgt := 13) hx hb dX15_remainder_154 (by decide) ?_
          refine W.widen (k := 0) (n := 0) (by omega) (by omega) ?_
          exact ih_9 (nI k + Int32.ofInt (-1)) F_79 (⟨k, by omega, dn_st k⟩) (by show ((nI k + Int32.ofInt (-1)).toInt + 1).toNat < ((nI k).toInt + 1).toNat; exact dn_mu (by omega)) hO hR _ _ hP hD hS ls (lv_sub hl [0, 3, 4, 5, 6] rfl)
        ·
          have hi_84 : j2 < 33 := ltN (N := 33) c_82
          refine lv_aload_n hx hb dX15_remainder_106 rfl (lv_at hl 6 rfl) ?_
          refine lv_iload hx hb dX15_remainder_107 (lv_at hl 0 rfl) ?_
          obtain ⟨f_85, hF_86⟩ := hO.ints hL_gq hT_gq
          refine pg_iald hx hb hK hP hL_gq 0 hF_86 rfl (vp_in_nI (by omega) (by omega)) dX15_remainder_109 ?_
          refine lv_topi (fun x_87 _ => ?_)
          refine lv_aload_n hx hb dX15_remainder_110 rfl (lv_at hl 3 rfl) ?_
          obtain ⟨v14_88, v15_89, v17_90, v18_91, v19_92, v20_93, v21_94, v22_95, v33_96, v52_97, v53_98, v54_99, hF_100, hq_101, hq_102, hq_103, hq_104, hq_105⟩ := hO.mod hL_h0 hT_h0
          refine pg_get (ci := 15) (v := .ref mo) (C := RX15) (T := TX15) (N := 59) hx hb hts it_15 hown hK hP hL_h0 hF_100 rfl 39 (by decide) (hts _ kt_811) (fun _ h9 => h9) rfl dX15_remainder_111 ?_
          refine lv_iload hx hb dX15_remainder_114 (lv_at hl 0 rfl) ?_
          obtain ⟨f_106, hF_107⟩ := hO.ints hi_71 ht_72
          refine pg_iald hx hb hK hP hi_71 0 hF_107 rfl (vp_in_nI (by omega) (by omega)) dX15_remainder_116 ?_
          refine lv_topi (fun x_108 _ => ?_)
          refine lv_isub hx hb dX15_remainder_117 ?_
          refine lv_topi (fun x_109 ex_109 => ?_)
          refine lv_iload hx hb dX15_remainder_118 (lv_at hl 1 rfl) ?_
          refine lv_isub hx hb dX15_remainder_120 ?_
          refine lv_topi (fun x_110 ex_110 => ?_)
          refine lv_istore (lv' := [(8, .int x_110), (7, .int (nI j2)), (6, .int w6), (4, .int (nI k)), (0, .ref h0), (1, .ref g1), (2, .int 32), (3, .ref gq)]) hx hb dX15_remainder_121 hl (by decide) rfl (fun ls hl => ?_)
          refine lv_aload_n hx hb dX15_remainder_123 rfl (lv_at hl 7 rfl) ?_
          refine lv_iload hx hb dX15_remainder_124 (lv_at hl 1 rfl) ?_
          refine lv_iload hx hb dX15_remainder_126 (lv_at hl 0 rfl) ?_
          refine lv_ldcw (v := 65535) hx hb hown (hts _ kt_815) dX15_remainder_128 ?_
          refine lv_iand hx hb dX15_remainder_131 ?_
          refine lv_topi (fun x_111 _ => ?_)
          refine pg_iast hx hb hK hP hD hS hL_gq 0 hF_86 rfl (vp_in_nI (by omega) (by omega)) dX15_remainder_132 (fun H locs hP hD hS => ?_)
          obtain ⟨F_112, he_113, hP, hD, hO, hR⟩ : ∃ G, G = va_up F_79 gq (.inl (cs 16, 33, .inl (upd f_85 ((nI j2)).toNatClampNeg (x_111)))) ∧ va_P (dC, dI) vwCl (va_pl L G) H ∧ va_D A (va_pl L G) ∧ OKm cs ty gm L G ∧ FR ty [τ] F G := ⟨_, rfl, hP, hD, hO.up (shm.ints hT_gq ⟨_, rfl⟩), hR.up hT_gq (by simp)⟩
          have hF_114 : F_112 gq = .inl (cs 16, 33, .inl (upd f_85 ((nI j2)).toNatClampNeg (x_111))) := by rw [he_113]; exact up_self
          have hF_115 : F_112 h0 = .inr (15, (.ref ta) :: (.int (nI zt)) :: (.int (nI zo)) :: (.int (nI ze)) :: (.ref ou) :: (.ref so) :: (.ref ad) :: (.ref na) :: (.ref va) :: (.ref lc) :: (.ref dm) :: (.int (nI fm)) :: (.int (nI sn)) :: (.ref tg) :: (.int v14_88) :: (.int v15_89) :: (.ref pe) :: (.int v17_90) :: (.int v18_91) :: (.int v19_92) :: (.int v20_93) :: (.int v21_94) :: (.int v22_95) :: (.ref ml) :: (.ref bg) :: (.ref co) :: (.ref sp) :: (.ref nb0) :: (.ref nb1) :: (.ref nb2) :: (.int (nI nf)) :: (.int (nI bd)) :: (.int (nI mm)) :: (.int v33_96) :: (.ref pl) :: (.ref se) :: (.ref ke) :: (.ref wi) :: (.ref hs) :: (.ref mo) :: (.ref po) :: (.ref nu) :: (.ref pr) :: (.ref sq) :: (.ref xa) :: (.ref sa) :: (.ref n64) :: (.ref m64) :: (.ref ex) :: (.ref wh) :: (.ref sd) :: (.ref tk) :: (.int v52_97) :: (.int v53_98) :: (.int v54_99) :: (.ref hd) :: (.ref ak) :: (.ref ho) :: (.ref ot) :: []) := by rw [he_113, up_ne (ne_ty hT_h0 hT_gq (by simp))]; exact hF_100
          obtain ⟨f_116, hF_114⟩ : ∃ f : Nat → Int32, F_112 gq = .inl (cs 16, 33, .inl f) := ⟨_, hF_114⟩
          refine lv_iload hx hb dX15_remainder_133 (lv_at hl 0 rfl) ?_
          refine lv_if_ge (tgt := 142) hx hb dX15_remainder_135 (by decide) (fun c_117 => ?_) (fun c_117 => ?_)
          ·
            refine lv_iconst (v := 0) hx hb dX15_remainder_142 (by decide) ?_
            refine lv_istore (lv' := [(6, .int 0), (8, .int x_110), (7, .int (nI j2)), (4, .int (nI k)), (0, .ref h0), (1, .ref g1), (2, .int 32), (3, .ref gq)]) hx hb dX15_remainder_143 hl (by decide) rfl (fun ls hl => ?_)
            refine lv_iinc (v := (nI (j2 + 1))) (lv' := [(7, .int (nI (j2 + 1))), (6, .int 0), (8, .int x_110), (4, .int (nI k)), (0, .ref h0), (1, .ref g1), (2, .int 32), (3, .ref gq)]) hx hb dX15_remainder_145 hl (k := 2) rfl (nI_1 _) (by decide) rfl (fun ls hl => ?_)
            refine lv_goto (tgt := 99) hx hb dX15_remainder_148 (by decide) ?_
            refine W.widen (k := 0) (n := 0) (by omega) (by omega) ?_
            exact ih_81 ((j2 + 1), 0) F_112 (by first | omega | exact ⟨by omega, by omega⟩ | trivial) (by show 33 - (j2 + 1) < 33 - j2; omega) hO hR _ _ hP hD hS ls (lv_sub hl [0, 1, 3, 4, 5, 6, 7] rfl)
          ·
            refine lv_iconst (v := 1) hx hb dX15_remainder_138 (by decide) ?_
            refine lv_goto (tgt := 143) hx hb dX15_remainder_139 (by decide) ?_
            refine lv_istore (lv' := [(6, .int 1), (8, .int x_110), (7, .int (nI j2)), (4, .int (nI k)), (0, .ref h0), (1, .ref g1), (2, .int 32), (3, .ref gq)]) hx hb dX15_remainder_143 hl (by decide) rfl (fun ls hl => ?_)
            refine lv_iinc (v := (nI (j2 + 1))) (lv' := [(7, .int (nI (j2 + 1))), (6, .int 1), (8, .int x_110), (4, .int (nI k)), (0, .ref h0), (1, .ref g1), (2, .int 32), (3, .ref gq)]) hx hb dX15_remainder_145 hl (k := 2) rfl (nI_1 _) (by decide) rfl (fun ls hl => ?_)
            refine lv_goto (tgt := 99) hx hb dX15_remainder_148 (by decide) ?_
            refine W.widen (k := 0) (n := 0) (by omega) (by omega) ?_
            exact ih_81 ((j2 + 1), 1) F_112 (by first | omega | exact ⟨by omega, by omega⟩ | trivial) (by show 33 - (j2 + 1) < 33 - j2; omega) hO hR _ _ hP hD hS ls (lv_sub hl [0, 1, 3, 4, 5, 6, 7] rfl)
      ·
        refine lv_goto (tgt := 151) hx hb dX15_remainder_90 (by decide) ?_
        refine lv_iinc (v := (nI k + Int32.ofInt (-1))) (lv' := [(4, .int (nI k + Int32.ofInt (-1))), (6, .int (nI j)), (5, .int w5), (0, .ref h0), (1, .ref g1), (2, .int 32), (3, .ref gq)]) hx hb dX15_remainder_151 hl (k := 2) rfl (rfl) (by decide) rfl (fun ls hl => ?_)
        refine lv_goto (tgt := 13) hx hb dX15_remainder_154 (by decide) ?_
        refine W.widen (k := 0) (n := 0) (by omega) (by omega) ?_
        exact ih_9 (nI k + Int32.ofInt (-1)) F_20 (⟨k, by omega, dn_st k⟩) (by show ((nI k + Int32.ofInt (-1)).toInt + 1).toNat < ((nI k).toInt + 1).toNat; exact dn_mu (by omega)) hO hR _ _ hP hD hS ls (lv_sub hl [0, 3, 4, 5, 6] rfl)
    ·
      have hi_118 : j < 33 := ltN (N := 33) c_23
      refine lv_aload_n hx hb dX15_remainder_45 rfl (lv_at hl 6 rfl) ?_
      refine lv_iload hx hb dX15_remainder_46 (lv_at hl 0 rfl) ?_
      obtain ⟨f_119, hF_120⟩ := hO.ints hL_gq hT_gq
      refine pg_iald hx hb hK hP hL_gq 0 hF_120 rfl (vp_in_nI (by omega) (by omega)) dX15_remainder_48 ?_
      refine lv_topi (fun x_121 _ => ?_)
      refine lv_iconst (v := 1) hx hb dX15_remainder_49 (by decide) ?_
      refine lv_ishl hx hb dX15_remainder_50 ?_
      refine lv_topi (fun x_122 _ => ?_)
      refine lv_iload hx hb dX15_remainder_51 (lv_at hl 1 rfl) ?_
      refine lv_ior hx hb dX15_remainder_53 ?_
      refine lv_topi (fun x_123 _ => ?_)
      refine lv_istore (lv' := [(7, .int x_123), (6, .int (nI j)), (5, .int w5), (4, .int (nI k)), (0, .ref h0), (1, .ref g1), (2, .int 32), (3, .ref gq)]) hx hb dX15_remainder_54 hl (by decide) rfl (fun ls hl => ?_)
      refine lv_aload_n hx hb dX15_remainder_56 rfl (lv_at hl 7 rfl) ?_
      refine lv_iload hx hb dX15_remainder_57 (lv_at hl 1 rfl) ?_
      refine lv_iload hx hb dX15_remainder_59 (lv_at hl 0 rfl) ?_
      refine lv_ldcw (v := 65535) hx hb hown (hts _ kt_815) dX15_remainder_61 ?_
      refine lv_iand hx hb dX15_remainder_64 ?_
      refine lv_topi (fun x_124 _ => ?_)
      refine pg_iast hx hb hK hP hD hS hL_gq 0 hF_120 rfl (vp_in_nI (by omega) (by omega)) dX15_remainder_65 (fun H locs hP hD hS => ?_)
      obtain ⟨F_125, he_126, hP, hD, hO, hR⟩ : ∃ G, G = va_up F_20 gq (.inl (cs 16, 33, .inl (upd f_119 ((nI j)).toNatClampNeg (x_124)))) ∧ va_P (dC, dI) vwCl (va_pl L G) H ∧ va_D A (va_pl L G) ∧ OKm cs ty gm L G ∧ FR ty [τ] F G := ⟨_, rfl, hP, hD, hO.up (shm.ints hT_gq ⟨_, rfl⟩), hR.up hT_gq (by simp)⟩
      have hF_127 : F_125 gq = .inl (cs 16, 33, .inl (upd f_119 ((nI j)).toNatClampNeg (x_124))) := by rw [he_126]; exact up_self
      obtain ⟨f_128, hF_127⟩ : ∃ f : Nat → Int32, F_125 gq = .inl (cs 16, 33, .inl f) := ⟨_, hF_127⟩
      refine lv_iload hx hb dX15_remainder_66 (lv_at hl 0 rfl) ?_
      refine lv_bipush (v := 16) hx hb dX15_remainder_68 (by decide) ?_
      refine lv_ishr hx hb dX15_remainder_70 ?_
      refine lv_topi (fun x_129 _ => ?_)
      refine lv_istore (lv' := [(5, .int x_129), (7, .int x_123), (6, .int (nI j)), (4, .int (nI k)), (0, .ref h0), (1, .ref g1), (2, .int 32), (3, .ref gq)]) hx hb dX15_remainder_71 hl (by decide) rfl (fun ls hl => ?_)
      refine lv_iinc (v := (nI (j + 1))) (lv' := [(6, .int (nI (j + 1))), (5, .int x_129), (7, .int x_123), (4, .int (nI k)), (0, .ref h0), (1, .ref g1), (2, .int 32), (3, .ref gq)]) hx hb dX15_remainder_73 hl (k := 2) rfl (nI_1 _) (by decide) rfl (fun ls hl => ?_)
      refine lv_goto (tgt := 38) hx hb dX15_remainder_76 (by decide) ?_
      refine W.widen (k := 0) (n := 0) (by omega) (by omega) ?_
      exact ih_22 ((j + 1), x_129) F_125 (by first | omega | exact ⟨by omega, by omega⟩ | trivial) (by show 33 - (j + 1) < 33 - j; omega) hO hR _ _ hP hD hS ls (lv_sub hl [0, 1, 3, 4, 5, 6, 7] rfl)
set_option maxHeartbeats 4000000 in
set_option maxRecDepth 100000 in
theorem s_X15_remainder_64 (l : Launch) (dC : Nat → ClassId) (dI : Nat → Nat → Nat) (cs : Nat → ClassId) (ty : TyM) (gm : Nat → Nat → Nat) (L : List Nat) (sz : Nat) (F : Nat → va_E) (h0 : Nat) (ρ : Nat) (ta : Nat) (ou : Nat) (so : Nat) (ad : Nat) (na : Nat) (va : Nat) (lc : Nat) (dm : Nat) (tg : Nat) (pe : Nat) (ml : Nat) (bg : Nat) (co : Nat) (sp : Nat) (nb0 : Nat) (nb1 : Nat) (nb2 : Nat) (pl : Nat) (se : Nat) (ke : Nat) (wi : Nat) (hs : Nat) (mo : Nat) (po : Nat) (nu : Nat) (pr : Nat) (sq : Nat) (xa : Nat) (sa : Nat) (n64 : Nat) (m64 : Nat) (ex : Nat) (wh : Nat) (sd : Nat) (tk : Nat) (hd : Nat) (ak : Nat) (ho : Nat) (ot : Nat) (sx : Nat) (s0 : Nat) (s1 : Nat) (s2 : Nat) (nf : Nat) (bd : Nat) (mm : Nat) (zo : Nat) (fm : Nat) (sn : Nat) (hg : Nat) (gc : Nat) (gv : Nat) (ze : Nat) (zt : Nat) (g1 : Nat) (σ : Nat) (gq : Nat) (τ : Nat) (hW : WTm ty gm L) (hL_h0 : h0 ∈ L) (hT_h0 : ty h0 = (15, ρ, [ta, ou, so, ad, na, va, lc, dm, tg, pe, ml, bg, co, sp, nb0, nb1, nb2, pl, se, ke, wi, hs, mo, po, nu, pr, sq, xa, sa, n64, m64, ex, wh, sd, tk, hd, ak, ho, ot, sx, s0, s1, s2, nf, bd, mm, zo, fm, sn, hg, gc, gv, ze, zt])) (hL_g1 : g1 ∈ L) (hT_g1 : ty g1 = (16, σ, [66])) (hL_gq : gq ∈ L) (hT_gq : ty gq = (16, τ, [33])) : Met l yX15_remainder (.code yX15_remainder cX15_remainder 9 none :: tb) ({ frames := 1, cells := 0, slots := 0, locals := 23 }) (va_Pc [.ref h0, .ref g1, .int 64, .ref gq] (PTm (dC, dI) cs ty gm L F sz)) (va_Qv (fun _ : Unit => True) (fun _ T9 => ∃ F2 : Nat → va_E, QTm (dC, dI) cs ty gm L [τ] F F2 (va_A (va_pl L F) sz) T9) (va_A (va_pl L F) sz)) 0 0 (va_A (va_pl L F) sz) := by
  refine Met.ofW (cc := cX15_remainder) (maxL := 9) (ret := none) (by decide) rfl ?_
  intro p e s m args below meth c s₁ B hml hv
  obtain ⟨rfl, hsz, hP, hK, hD0, hE, hO⟩ := hv
  have hx := B.exec
  have hb := B.bytes
  have hr := B.returns
  have hts : ∀ w ∈ tb, w.before _ s = true := fun w h => atoms_spec (ws := .code yX15_remainder cX15_remainder 9 none :: tb) B.pre w (List.mem_cons_of_mem _ h)
  have hown : s.vm.findClass RX15 = some m.cls := findClass_of_methodNamed B.named
  have hlocks := B.notSynchronized
  subst hsz
  have hD := hD0.self (sz := s.heap.size)
  generalize hAe : va_A (va_pl L F) s.heap.size = A at hD ⊢
  have hA : ∀ q : Nat, s.heap.size ≤ q → A q := fun q h => by rw [← hAe]; exact Or.inr h
  have hS : va_S A s.heap s.heap [] := va_S.rf
  have hR : FR ty [τ] F F := FR.refl
  have hl := lv_entry ([.ref h0, .ref g1, .int 64, .ref gq]) (n := 9) (Nat.le_of_ble_eq_true rfl)
  rw [lg_entry_eq]
  generalize (lg_sl ([.ref h0, .ref g1, .int 64, .ref gq]) ++ List.replicate (9 - (lg_sl ([.ref h0, .ref g1, .int 64, .ref gq])).length) Slot.unset).toArray = ls at hl ⊢
  have hl : lv_has ls 9 [(0, .ref h0), (1, .ref g1), (2, .int 64), (3, .ref gq)] := hl
  refine lv_aload_n hx hb dX15_remainder_0 rfl (lv_at hl 3 rfl) ?_
  refine lv_iconst (v := 0) hx hb dX15_remainder_1 (by decide) ?_
  obtain ⟨hq_1, hq_2⟩ := hW.ints hL_gq hT_gq
  have hFc := pg_free hD hS hA
  refine va_callv (va_runS (As := [.ref gq, .int 0]) (rest := []) ⟨hx, hb, hml, hown, hts⟩ (m_J7_fill_53178 l dC dI cs ty gm L s.heap.size F gq τ 33 0 hW hL_gq hT_gq (by first | omega | assumption | exact Or.inl rfl)) ⟨callB_of 2 hts (gi kt_807) rfl rfl rfl (hts _ kt_808) (hts _ kt_809) (by decide +kernel) ⟨Nat.le_of_ble_eq_true rfl, Nat.le_of_ble_eq_true rfl⟩, (hts _ kt_810)⟩ ⟨fun a U g mk q => ⟨q.1, PTm.calling q.2⟩, fun U hU hWm => ⟨rfl, PTm.mk hU hWm hP hK hD hE hO⟩⟩ rfl rfl hl.1 rfl (lv_room (Nat.le_of_ble_eq_true rfl)) dX15_remainder_2 ⟨by show _ + 0 ≤ 0; omega, by show _ + 0 ≤ 0; omega⟩) hS (fun q _ h => hFc q h) hFc (fun u t H1 locs ht hvm hw hB hz1 hk1 hS => ?_)
  obtain ⟨F_4, hB1⟩ := hB
  obtain ⟨hP, hD, hO, hR⟩ := QTm.back hB1 ht hFc hR (fun q h => by simp only [List.mem_cons, List.not_mem_nil, or_false] at h ⊢; omega)
  generalize H1 = H at hP hS ⊢
  refine lv_bipush (v := 16) hx hb dX15_remainder_5 (by decide) ?_
  refine lv_iload_n hx hb dX15_remainder_7 rfl (lv_at hl 2 rfl) ?_
  refine lv_imul hx hb dX15_remainder_8 ?_
  refine lv_topi (fun x_5 ex_5 => ?_)
  obtain rfl : x_5 = 1024 := ex_5.trans (by decide)
  refine lv_iconst (v := 1) hx hb dX15_remainder_9 (by decide) ?_
  refine lv_isub hx hb dX15_remainder_10 ?_
  refine lv_topi (fun x_6 ex_6 => ?_)
  obtain rfl : x_6 = 1023 := ex_6.trans (by decide)
  refine lv_istore (lv' := [(4, .int 1023), (0, .ref h0), (1, .ref g1), (2, .int 64), (3, .ref gq)]) hx hb dX15_remainder_11 hl (by decide) rfl (fun ls hl => ?_)
  refine W.widen (k := 0) (n := 0) (by omega) (by omega) ?_
  refine pl_loopm (σ := Int32) A (dC, dI) cs ty gm L [τ] F 13 9 (fun i1 => [(4, .int i1), (0, .ref h0), (1, .ref g1), (2, .int 64), (3, .ref gq)]) (fun i1 => []) (fun i1 _ => (∃ j : Nat, j ≤ 1024 ∧ i1 = nI j - 1)) (fun i1 => (i1.toInt + 1).toNat) ?_ 1023 F_4 (⟨1024, by omega, by decide⟩) hO hR _ _ hP hD hS ls (lv_sub hl [0, 1, 2, 3, 4] rfl)
  rintro i1 F_7 hv_8 hO hR ih_9 H locs hP hD hS ls hl
  have hl : lv_has ls 9 [(4, .int i1), (0, .ref h0), (1, .ref g1), (2, .int 64), (3, .ref gq)] := hl
  have hv_8 : (∃ j : Nat, j ≤ 1024 ∧ i1 = nI j - 1) := hv_8
  refine W.eq (g2 := F0 m 13 ls []) rfl ?_
  have hd9 := hv_8
  refine lv_iload hx hb dX15_remainder_13 (lv_at hl 0 rfl) ?_
  refine lv_if_lt (tgt := 157) hx hb dX15_remainder_15 (by decide) (fun c_10 => ?_) (fun c_10 => ?_)
  ·
    refine W.widen (k := 0) (n := 0) (by omega) (by omega) ?_
    exact W.vret hx hb hr (fun t ht hWm => ⟨⟨(), rfl, trivial, ⟨F_7, QTm.mk ht hP hD hO hR⟩⟩, hS.F ht⟩) hS.2.2 dX15_remainder_157
  ·
    obtain ⟨k, hkz, rfl⟩ := dn_pos hd9 c_10
    refine lv_aload_n hx hb dX15_remainder_18 rfl (lv_at hl 2 rfl) ?_
    refine lv_iload hx hb dX15_remainder_19 (lv_at hl 0 rfl) ?_
    refine lv_bipush (v := 16) hx hb dX15_remainder_21 (by decide) ?_
    refine lv_idiv hx hb dX15_remainder_23 (by decide) ?_
    refine lv_topi (fun x_11 ex_11 => ?_)
    obtain rfl : x_11 = (nI (k / 16)) := ex_11.trans (pk_div (d := 16) (by omega) (by omega) (by omega))
    obtain ⟨hq_12, hq_13⟩ := hW.ints hL_g1 hT_g1
    obtain ⟨f_14, hF_15⟩ := hO.ints hL_g1 hT_g1
    refine pg_iald hx hb hK hP hL_g1 0 hF_15 rfl (vp_in_nI (by omega) (by omega)) dX15_remainder_24 ?_
    refine lv_topi (fun x_16 _ => ?_)
    refine lv_iload hx hb dX15_remainder_25 (lv_at hl 0 rfl) ?_
    refine lv_bipush (v := 16) hx hb dX15_remainder_27 (by decide) ?_
    refine lv_irem hx hb dX15_remainder_29 (by decide) ?_
    refine lv_topi (fun x_17 ex_17 => ?_)
    refine lv_ishr hx hb dX15_remainder_30 ?_
    refine lv_topi (fun x_18 _ => ?_)
    refine lv_iconst (v := 1) hx hb dX15_remainder_31 (by decide) ?_
    refine lv_iand hx hb dX15_remainder_32 ?_
    refine lv_topi (fun x_19 _ => ?_)
    refine lv_istore (lv' := [(5, .int x_19), (4, .int (nI k)), (0, .ref h0), (1, .ref g1), (2, .int 64), (3, .ref gq)]) hx hb dX15_remainder_33 hl (by decide) rfl (fun ls hl => ?_)
    refine lv_iconst (v := 0) hx hb dX15_remainder_35 (by decide) ?_
    refine lv_istore (lv' := [(6, .int 0), (5, .int x_19), (4, .int (nI k)), (0, .ref h0), (1, .ref g1), (2, .int 64), (3, .ref gq)]) hx hb dX15_remainder_36 hl (by decide) rfl (fun ls hl => ?_)
    refine W.widen (k := 0) (n := 0) (by omega) (by omega) ?_
    refine pl_loopm (σ := Nat × Int32) A (dC, dI) cs ty gm L [τ] F 38 9 (fun (j, w5) => [(6, .int (nI j)), (5, .int w5), (4, .int (nI k)), (0, .ref h0), (1, .ref g1), (2, .int 64), (3, .ref gq)]) (fun (j, w5) => []) (fun (j, w5) _ => j ≤ 33) (fun (j, w5) => 33 - j) ?_ (0, x_19) F_7 (by omega) hO hR _ _ hP hD hS ls (lv_sub hl [0, 1, 2, 3, 4, 5, 6] rfl)
    rintro ⟨j, w5⟩ F_20 hv_21 hO hR ih_22 H locs hP hD hS ls hl
    have hl : lv_has ls 9 [(6, .int (nI j)), (5, .int w5), (4, .int (nI k)), (0, .ref h0), (1, .ref g1), (2, .int 64), (3, .ref gq)] := hl
    have hv_21 : j ≤ 33 := hv_21
    refine W.eq (g2 := F0 m 38 ls []) rfl ?_
    refine lv_iload hx hb dX15_remainder_38 (lv_at hl 0 rfl) ?_
    refine lv_bipush (v := 33) hx hb dX15_remainder_40 (by decide) ?_
    refine lv_icmp_ge (tgt := 79) hx hb dX15_remainder_42 (by decide) (fun c_23 => ?_) (fun c_23 => ?_)
    ·
      have hi_24 : 33 ≤ j := leN (N := 33) c_23
      refine lv_aload_n hx hb dX15_remainder_79 rfl (lv_at hl 6 rfl) ?_
      refine lv_aload_n hx hb dX15_remainder_80 rfl (lv_at hl 3 rfl) ?_
      obtain ⟨hq_47, hq_48, hq_49, hq_50, hq_51, hgO, hgA, hgB, hq_52⟩ := hW.sc hL_h0 hT_h0
      obtain ⟨v14_53, v15_54, v17_55, v18_56, v19_57, v20_58, v21_59, v22_60, v33_61, v52_62, v53_63, v54_64, hF_65, hq_66, hq_67, hq_68, hq_69, hq_70⟩ := hO.mod hL_h0 hT_h0
      refine pg_get (ci := 15) (v := .ref mo) (C := RX15) (T := TX15) (N := 59) hx hb hts it_15 hown hK hP hL_h0 hF_65 rfl 39 (by decide) (hts _ kt_811) (fun _ h9 => h9) rfl dX15_remainder_81 ?_
      obtain ⟨hi_71, ht_72⟩ := hW.f_mo hL_h0 hT_h0
      obtain ⟨hq_73, hq_74⟩ := hW.ints hi_71 ht_72
      have hFc := pg_free hD hS hA
      refine va_calli (va_runS (As := [.ref gq, .ref mo]) (rest := []) ⟨hx, hb, hml, hown, hts⟩ (s_X15_isBelow l dC dI cs ty gm L H.size F_20 gq τ mo (ρ + 18) hW hL_gq hT_gq hi_71 ht_72) ⟨callB_of 2 hts (gi kt_812) rfl rfl rfl (hts _ kt_669) (hts _ kt_813) (by decide +kernel) ⟨Nat.le_of_ble_eq_true rfl, Nat.le_of_ble_eq_true rfl⟩, (hts _ kt_814)⟩ ⟨fun a U g mk q => ⟨q.1, PTm.calling q.2⟩, fun U hU hWm => ⟨rfl, PTm.mk hU hWm hP hK hD hE hO⟩⟩ rfl rfl hl.1 rfl (lv_room (Nat.le_of_ble_eq_true rfl)) dX15_remainder_84 ⟨by show _ + 0 ≤ 0; omega, by show _ + 0 ≤ 0; omega⟩) hS (fun q _ h => hFc q h) hFc (fun r_75 u t H1 locs ht hvm hw hB hz1 hk1 hS => ?_)
      obtain ⟨F_76, hB1⟩ := hB
      obtain rfl : F_20 = F_76 := (funext (fun a => hB1.2.2.2 a List.not_mem_nil)).symm
      obtain ⟨hP, hD, hO, hR⟩ := QTm.back hB1 ht hFc hR (fun q h => absurd h List.not_mem_nil)
      generalize H1 = H at hP hS ⊢
      have hw : (r_75 = 0 ∨ r_75 = 1) := hw
      have hw_77 := hw
      refine lv_if_eq (tgt := 93) hx hb dX15_remainder_87 (by decide) (fun c_78 => ?_) (fun c_78 => ?_)
      ·
        refine lv_iconst (v := 0) hx hb dX15_remainder_93 (by decide) ?_
        refine lv_istore (lv' := [(6, .int 0), (5, .int w5), (4, .int (nI k)), (0, .ref h0), (1, .ref g1), (2, .int 64), (3, .ref gq)]) hx hb dX15_remainder_94 hl (by decide) rfl (fun ls hl => ?_)
        refine lv_iconst (v := 0) hx hb dX15_remainder_96 (by decide) ?_
        refine lv_istore (lv' := [(7, .int 0), (6, .int 0), (5, .int w5), (4, .int (nI k)), (0, .ref h0), (1, .ref g1), (2, .int 64), (3, .ref gq)]) hx hb dX15_remainder_97 hl (by decide) rfl (fun ls hl => ?_)
        refine W.widen (k := 0) (n := 0) (by omega) (by omega) ?_
        refine pl_loopm (σ := Nat × Int32) A (dC, dI) cs ty gm L [τ] F 99 9 (fun (j2, w6) => [(7, .int (nI j2)), (6, .int w6), (4, .int (nI k)), (0, .ref h0), (1, .ref g1), (2, .int 64), (3, .ref gq)]) (fun (j2, w6) => []) (fun (j2, w6) _ => j2 ≤ 33) (fun (j2, w6) => 33 - j2) ?_ (0, 0) F_20 (by omega) hO hR _ _ hP hD hS ls (lv_sub hl [0, 1, 3, 4, 5, 6, 7] rfl)
        rintro ⟨j2, w6⟩ F_79 hv_80 hO hR ih_81 H locs hP hD hS ls hl
        have hl : lv_has ls 9 [(7, .int (nI j2)), (6, .int w6), (4, .int (nI k)), (0, .ref h0), (1, .ref g1), (2, .int 64), (3, .ref gq)] := hl
        have hv_80 : j2 ≤ 33 := hv_80
        refine W.eq (g2 := F0 m 99 ls []) rfl ?_
        refine lv_iload hx hb dX15_remainder_99 (lv_at hl 0 rfl) ?_
        refine lv_bipush (v := 33) hx hb dX15_remainder_101 (by decide) ?_
        refine lv_icmp_ge (tgt := 151) hx hb dX15_remainder_103 (by decide) (fun c_82 => ?_) (fun c_82 => ?_)
        ·
          have hi_83 : 33 ≤ j2 := leN (N := 33) c_82
          refine lv_iinc (v := (nI k + Int32.ofInt (-1))) (lv' := [(4, .int (nI k + Int32.ofInt (-1))), (7, .int (nI j2)), (6, .int w6), (0, .ref h0), (1, .ref g1), (2, .int 64), (3, .ref gq)]) hx hb dX15_remainder_151 hl (k := 2) rfl (rfl) (by decide) rfl (fun ls hl => ?_)
          refine lv_goto (tgt := 13) hx hb dX15_remainder_154 (by decide) ?_
          refine W.widen (k := 0) (n := 0) (by omega) (by omega) ?_
          exact ih_9 (nI k + Int32.ofInt (-1)) F_79 (⟨k, by omega, dn_st k⟩) (by show ((nI k + Int32.ofInt (-1)).toInt + 1).toNat < ((nI k).toInt + 1).toNat; exact dn_mu (by omega)) hO hR _ _ hP hD hS ls (lv_sub hl [0, 3, 4, 5, 6] rfl)
        ·
          have hi_84 : j2 < 33 := ltN (N := 33) c_82
          refine lv_aload_n hx hb dX15_remainder_106 rfl (lv_at hl 6 rfl) ?_
          refine lv_iload hx hb dX15_remainder_107 (lv_at hl 0 rfl) ?_
          obtain ⟨f_85, hF_86⟩ := hO.ints hL_gq hT_gq
          refine pg_iald hx hb hK hP hL_gq 0 hF_86 rfl (vp_in_nI (by omega) (by omega)) dX15_remainder_109 ?_
          refine lv_topi (fun x_87 _ => ?_)
          refine lv_aload_n hx hb dX15_remainder_110 rfl (lv_at hl 3 rfl) ?_
          obtain ⟨v14_88, v15_89, v17_90, v18_91, v19_92, v20_93, v21_94, v22_95, v33_96, v52_97, v53_98, v54_99, hF_100, hq_101, hq_102, hq_103, hq_104, hq_105⟩ := hO.mod hL_h0 hT_h0
          refine pg_get (ci := 15) (v := .ref mo) (C := RX15) (T := TX15) (N := 59) hx hb hts it_15 hown hK hP hL_h0 hF_100 rfl 39 (by decide) (hts _ kt_811) (fun _ h9 => h9) rfl dX15_remainder_111 ?_
          refine lv_iload hx hb dX15_remainder_114 (lv_at hl 0 rfl) ?_
          obtain ⟨f_106, hF_107⟩ := hO.ints hi_71 ht_72
          refine pg_iald hx hb hK hP hi_71 0 hF_107 rfl (vp_in_nI (by omega) (by omega)) dX15_remainder_116 ?_
          refine lv_topi (fun x_108 _ => ?_)
          refine lv_isub hx hb dX15_remainder_117 ?_
          refine lv_topi (fun x_109 ex_109 => ?_)
          refine lv_iload hx hb dX15_remainder_118 (lv_at hl 1 rfl) ?_
          refine lv_isub hx hb dX15_remainder_120 ?_
          refine lv_topi (fun x_110 ex_110 => ?_)
          refine lv_istore (lv' := [(8, .int x_110), (7, .int (nI j2)), (6, .int w6), (4, .int (nI k)), (0, .ref h0), (1, .ref g1), (2, .int 64), (3, .ref gq)]) hx hb dX15_remainder_121 hl (by decide) rfl (fun ls hl => ?_)
          refine lv_aload_n hx hb dX15_remainder_123 rfl (lv_at hl 7 rfl) ?_
          refine lv_iload hx hb dX15_remainder_124 (lv_at hl 1 rfl) ?_
          refine lv_iload hx hb dX15_remainder_126 (lv_at hl 0 rfl) ?_
          refine lv_ldcw (v := 65535) hx hb hown (hts _ kt_815) dX15_remainder_128 ?_
          refine lv_iand hx hb dX15_remainder_131 ?_
          refine lv_topi (fun x_111 _ => ?_)
          refine pg_iast hx hb hK hP hD hS hL_gq 0 hF_86 rfl (vp_in_nI (by omega) (by omega)) dX15_remainder_132 (fun H locs hP hD hS => ?_)
          obtain ⟨F_112, he_113, hP, hD, hO, hR⟩ : ∃ G, G = va_up F_79 gq (.inl (cs 16, 33, .inl (upd f_85 ((nI j2)).toNatClampNeg (x_111)))) ∧ va_P (dC, dI) vwCl (va_pl L G) H ∧ va_D A (va_pl L G) ∧ OKm cs ty gm L G ∧ FR ty [τ] F G := ⟨_, rfl, hP, hD, hO.up (shm.ints hT_gq ⟨_, rfl⟩), hR.up hT_gq (by simp)⟩
          have hF_114 : F_112 gq = .inl (cs 16, 33, .inl (upd f_85 ((nI j2)).toNatClampNeg (x_111))) := by rw [he_113]; exact up_self
          have hF_115 : F_112 h0 = .inr (15, (.ref ta) :: (.int (nI zt)) :: (.int (nI zo)) :: (.int (nI ze)) :: (.ref ou) :: (.ref so) :: (.ref ad) :: (.ref na) :: (.ref va) :: (.ref lc) :: (.ref dm) :: (.int (nI fm)) :: (.int (nI sn)) :: (.ref tg) :: (.int v14_88) :: (.int v15_89) :: (.ref pe) :: (.int v17_90) :: (.int v18_91) :: (.int v19_92) :: (.int v20_93) :: (.int v21_94) :: (.int v22_95) :: (.ref ml) :: (.ref bg) :: (.ref co) :: (.ref sp) :: (.ref nb0) :: (.ref nb1) :: (.ref nb2) :: (.int (nI nf)) :: (.int (nI bd)) :: (.int (nI mm)) :: (.int v33_96) :: (.ref pl) :: (.ref se) :: (.ref ke) :: (.ref wi) :: (.ref hs) :: (.ref mo) :: (.ref po) :: (.ref nu) :: (.ref pr) :: (.ref sq) :: (.ref xa) :: (.ref sa) :: (.ref n64) :: (.ref m64) :: (.ref ex) :: (.ref wh) :: (.ref sd) :: (.ref tk) :: (.int v52_97) :: (.int v53_98) :: (.int v54_99) :: (.ref hd) :: (.ref ak) :: (.ref ho) :: (.ref ot) :: []) := by rw [he_113, up_ne (ne_ty hT_h0 hT_gq (by simp))]; exact hF_100
          obtain ⟨f_116, hF_114⟩ : ∃ f : Nat → Int32, F_112 gq = .inl (cs 16, 33, .inl f) := ⟨_, hF_114⟩
          refine lv_iload hx hb dX15_remainder_133 (lv_at hl 0 rfl) ?_
          refine lv_if_ge (tgt := 142) hx hb dX15_remainder_135 (by decide) (fun c_117 => ?_) (fun c_117 => ?_)
          ·
            refine lv_iconst (v := 0) hx hb dX15_remainder_142 (by decide) ?_
            refine lv_istore (lv' := [(6, .int 0), (8, .int x_110), (7, .int (nI j2)), (4, .int (nI k)), (0, .ref h0), (1, .ref g1), (2, .int 64), (3, .ref gq)]) hx hb dX15_remainder_143 hl (by decide) rfl (fun ls hl => ?_)
            refine lv_iinc (v := (nI (j2 + 1))) (lv' := [(7, .int (nI (j2 + 1))), (6, .int 0), (8, .int x_110), (4, .int (nI k)), (0, .ref h0), (1, .ref g1), (2, .int 64), (3, .ref gq)]) hx hb dX15_remainder_145 hl (k := 2) rfl (nI_1 _) (by decide) rfl (fun ls hl => ?_)
            refine lv_goto (tgt := 99) hx hb dX15_remainder_148 (by decide) ?_
            refine W.widen (k := 0) (n := 0) (by omega) (by omega) ?_
            exact ih_81 ((j2 + 1), 0) F_112 (by first | omega | exact ⟨by omega, by omega⟩ | trivial) (by show 33 - (j2 + 1) < 33 - j2; omega) hO hR _ _ hP hD hS ls (lv_sub hl [0, 1, 3, 4, 5, 6, 7] rfl)
          ·
            refine lv_iconst (v := 1) hx hb dX15_remainder_138 (by decide) ?_
            refine lv_goto (tgt := 143) hx hb dX15_remainder_139 (by decide) ?_
            refine lv_istore (lv' := [(6, .int 1), (8, .int x_110), (7, .int (nI j2)), (4, .int (nI k)), (0, .ref h0), (1, .ref g1), (2, .int 64), (3, .ref gq)]) hx hb dX15_remainder_143 hl (by decide) rfl (fun ls hl => ?_)
            refine lv_iinc (v := (nI (j2 + 1))) (lv' := [(7, .int (nI (j2 + 1))), (6, .int 1), (8, .int x_110), (4, .int (nI k)), (0, .ref h0), (1, .ref g1), (2, .int 64), (3, .ref gq)]) hx hb dX15_remainder_145 hl (k := 2) rfl (nI_1 _) (by decide) rfl (fun ls hl => ?_)
            refine lv_goto (tgt := 99) hx hb dX15_remainder_148 (by decide) ?_
            refine W.widen (k := 0) (n := 0) (by omega) (by omega) ?_
            exact ih_81 ((j2 + 1), 1) F_112 (by first | omega | exact ⟨by omega, by omega⟩ | trivial) (by show 33 - (j2 + 1) < 33 - j2; omega) hO hR _ _ hP hD hS ls (lv_sub hl [0, 1, 3, 4, 5, 6, 7] rfl)
      ·
        refine lv_goto (tgt := 151) hx hb dX15_remainder_90 (by decide) ?_
        refine lv_iinc (v := (nI k + Int32.ofInt (-1))) (lv' := [(4, .int (nI k + Int32.ofInt (-1))), (6, .int (nI j)), (5, .int w5), (0, .ref h0), (1, .ref g1), (2, .int 64), (3, .ref gq)]) hx hb dX15_remainder_151 hl (k := 2) rfl (rfl) (by decide) rfl (fun ls hl => ?_)
        refine lv_goto (tgt := 13) hx hb dX15_remainder_154 (by decide) ?_
        refine W.widen (k := 0) (n := 0) (by omega) (by omega) ?_
        exact ih_9 (nI k + Int32.ofInt (-1)) F_20 (⟨k, by omega, dn_st k⟩) (by show ((nI k + Int32.ofInt (-1)).toInt + 1).toNat < ((nI k).toInt + 1).toNat; exact dn_mu (by omega)) hO hR _ _ hP hD hS ls (lv_sub hl [0, 3, 4, 5, 6] rfl)
    ·
      have hi_118 : j < 33 := ltN (N := 33) c_23
      refine lv_aload_n hx hb dX15_remainder_45 rfl (lv_at hl 6 rfl) ?_
      refine lv_iload hx hb dX15_remainder_46 (lv_at hl 0 rfl) ?_
      obtain ⟨f_119, hF_120⟩ := hO.ints hL_gq hT_gq
      refine pg_iald hx hb hK hP hL_gq 0 hF_120 rfl (vp_in_nI (by omega) (by omega)) dX15_remainder_48 ?_
      refine lv_topi (fun x_121 _ => ?_)
      refine lv_iconst (v := 1) hx hb dX15_remainder_49 (by decide) ?_
      refine lv_ishl hx hb dX15_remainder_50 ?_
      refine lv_topi (fun x_122 _ => ?_)
      refine lv_iload hx hb dX15_remainder_51 (lv_at hl 1 rfl) ?_
      refine lv_ior hx hb dX15_remainder_53 ?_
      refine lv_topi (fun x_123 _ => ?_)
      refine lv_istore (lv' := [(7, .int x_123), (6, .int (nI j)), (5, .int w5), (4, .int (nI k)), (0, .ref h0), (1, .ref g1), (2, .int 64), (3, .ref gq)]) hx hb dX15_remainder_54 hl (by decide) rfl (fun ls hl => ?_)
      refine lv_aload_n hx hb dX15_remainder_56 rfl (lv_at hl 7 rfl) ?_
      refine lv_iload hx hb dX15_remainder_57 (lv_at hl 1 rfl) ?_
      refine lv_iload hx hb dX15_remainder_59 (lv_at hl 0 rfl) ?_
      refine lv_ldcw (v := 65535) hx hb hown (hts _ kt_815) dX15_remainder_61 ?_
      refine lv_iand hx hb dX15_remainder_64 ?_
      refine lv_topi (fun x_124 _ => ?_)
      refine pg_iast hx hb hK hP hD hS hL_gq 0 hF_120 rfl (vp_in_nI (by omega) (by omega)) dX15_remainder_65 (fun H locs hP hD hS => ?_)
      obtain ⟨F_125, he_126, hP, hD, hO, hR⟩ : ∃ G, G = va_up F_20 gq (.inl (cs 16, 33, .inl (upd f_119 ((nI j)).toNatClampNeg (x_124)))) ∧ va_P (dC, dI) vwCl (va_pl L G) H ∧ va_D A (va_pl L G) ∧ OKm cs ty gm L G ∧ FR ty [τ] F G := ⟨_, rfl, hP, hD, hO.up (shm.ints hT_gq ⟨_, rfl⟩), hR.up hT_gq (by simp)⟩
      have hF_127 : F_125 gq = .inl (cs 16, 33, .inl (upd f_119 ((nI j)).toNatClampNeg (x_124))) := by rw [he_126]; exact up_self
      obtain ⟨f_128, hF_127⟩ : ∃ f : Nat → Int32, F_125 gq = .inl (cs 16, 33, .inl f) := ⟨_, hF_127⟩
      refine lv_iload hx hb dX15_remainder_66 (lv_at hl 0 rfl) ?_
      refine lv_bipush (v := 16) hx hb dX15_remainder_68 (by decide) ?_
      refine lv_ishr hx hb dX15_remainder_70 ?_
      refine lv_topi (fun x_129 _ => ?_)
      refine lv_istore (lv' := [(5, .int x_129), (7, .int x_123), (6, .int (nI j)), (4, .int (nI k)), (0, .ref h0), (1, .ref g1), (2, .int 64), (3, .ref gq)]) hx hb dX15_remainder_71 hl (by decide) rfl (fun ls hl => ?_)
      refine lv_iinc (v := (nI (j + 1))) (lv' := [(6, .int (nI (j + 1))), (5, .int x_129), (7, .int x_123), (4, .int (nI k)), (0, .ref h0), (1, .ref g1), (2, .int 64), (3, .ref gq)]) hx hb dX15_remainder_73 hl (k := 2) rfl (nI_1 _) (by decide) rfl (fun ls hl => ?_)
      refine lv_goto (tgt := 38) hx hb dX15_remainder_76 (by decide) ?_
      refine W.widen (k := 0) (n := 0) (by omega) (by omega) ?_
      exact ih_22 ((j + 1), x_129) F_125 (by first | omega | exact ⟨by omega, by omega⟩ | trivial) (by show 33 - (j + 1) < 33 - j; omega) hO hR _ _ hP hD hS ls (lv_sub hl [0, 1, 3, 4, 5, 6, 7] rfl)
set_option maxHeartbeats 4000000 in
set_option maxRecDepth 100000 in
theorem s_X15_times (l : Launch) (dC : Nat → ClassId) (dI : Nat → Nat → Nat) (cs : Nat → ClassId) (ty : TyM) (gm : Nat → Nat → Nat) (L : List Nat) (sz : Nat) (F : Nat → va_E) (h0 : Nat) (ρ : Nat) (ta : Nat) (ou : Nat) (so : Nat) (ad : Nat) (na : Nat) (va : Nat) (lc : Nat) (dm : Nat) (tg : Nat) (pe : Nat) (ml : Nat) (bg : Nat) (co : Nat) (sp : Nat) (nb0 : Nat) (nb1 : Nat) (nb2 : Nat) (pl : Nat) (se : Nat) (ke : Nat) (wi : Nat) (hs : Nat) (mo : Nat) (po : Nat) (nu : Nat) (pr : Nat) (sq : Nat) (xa : Nat) (sa : Nat) (n64 : Nat) (m64 : Nat) (ex : Nat) (wh : Nat) (sd : Nat) (tk : Nat) (hd : Nat) (ak : Nat) (ho : Nat) (ot : Nat) (sx : Nat) (s0 : Nat) (s1 : Nat) (s2 : Nat) (nf : Nat) (bd : Nat) (mm : Nat) (zo : Nat) (fm : Nat) (sn : Nat) (hg : Nat) (gc : Nat) (gv : Nat) (ze : Nat) (zt : Nat) (g1 : Nat) (σ : Nat) (hW : WTm ty gm L) (hL_h0 : h0 ∈ L) (hT_h0 : ty h0 = (15, ρ, [ta, ou, so, ad, na, va, lc, dm, tg, pe, ml, bg, co, sp, nb0, nb1, nb2, pl, se, ke, wi, hs, mo, po, nu, pr, sq, xa, sa, n64, m64, ex, wh, sd, tk, hd, ak, ho, ot, sx, s0, s1, s2, nf, bd, mm, zo, fm, sn, hg, gc, gv, ze, zt])) (hL_g1 : g1 ∈ L) (hT_g1 : ty g1 = (16, σ, [33])) : Met l yX15_times (.code yX15_times cX15_times 6 none :: tb) ({ frames := 2, cells := 0, slots := 0, locals := 51 }) (va_Pc [.ref h0, .ref g1] (PTm (dC, dI) cs ty gm L F sz)) (va_Qv (fun _ : Unit => True) (fun _ T9 => ∃ F2 : Nat → va_E, QTm (dC, dI) cs ty gm L [ρ + 18, ρ + 87, ρ + 88, ρ + 89, ρ + 90] F F2 (va_A (va_pl L F) sz) T9) (va_A (va_pl L F) sz)) 0 0 (va_A (va_pl L F) sz) := by
  refine Met.ofW (cc := cX15_times) (maxL := 6) (ret := none) (by decide) rfl ?_
  intro p e s m args below meth c s₁ B hml hv
  obtain ⟨rfl, hsz, hP, hK, hD0, hE, hO⟩ := hv
  have hx := B.exec
  have hb := B.bytes
  have hr := B.returns
  have hts : ∀ w ∈ tb, w.before _ s = true := fun w h => atoms_spec (ws := .code yX15_times cX15_times 6 none :: tb) B.pre w (List.mem_cons_of_mem _ h)
  have hown : s.vm.findClass RX15 = some m.cls := findClass_of_methodNamed B.named
  have hlocks := B.notSynchronized
  subst hsz
  have hD := hD0.self (sz := s.heap.size)
  generalize hAe : va_A (va_pl L F) s.heap.size = A at hD ⊢
  have hA : ∀ q : Nat, s.heap.size ≤ q → A q := fun q h => by rw [← hAe]; exact Or.inr h
  have hS : va_S A s.heap s.heap [] := va_S.rf
  have hR : FR ty [ρ + 18, ρ + 87, ρ + 88, ρ + 89, ρ + 90] F F := FR.refl
  have hl := lv_entry ([.ref h0, .ref g1]) (n := 6) (Nat.le_of_ble_eq_true rfl)
  rw [lg_entry_eq]
  generalize (lg_sl ([.ref h0, .ref g1]) ++ List.replicate (6 - (lg_sl ([.ref h0, .ref g1])).length) Slot.unset).toArray = ls at hl ⊢
  have hl : lv_has ls 6 [(0, .ref h0), (1, .ref g1)] := hl
  refine lv_aload_n hx hb dX15_times_0 rfl (lv_at hl 0 rfl) ?_
  obtain ⟨hq_23, hq_24, hq_25, hq_26, hq_27, hgO, hgA, hgB, hq_28⟩ := hW.sc hL_h0 hT_h0
  obtain ⟨v14_29, v15_30, v17_31, v18_32, v19_33, v20_34, v21_35, v22_36, v33_37, v52_38, v53_39, v54_40, hF_41, hq_42, hq_43, hq_44, hq_45, hq_46⟩ := hO.mod hL_h0 hT_h0
  refine pg_get (ci := 15) (v := .ref pr) (C := RX15) (T := TX15) (N := 59) hx hb hts it_15 hown hK hP hL_h0 hF_41 rfl 42 (by decide) (hts _ kt_816) (fun _ h9 => h9) rfl dX15_times_1 ?_
  refine lv_iconst (v := 0) hx hb dX15_times_4 (by decide) ?_
  obtain ⟨hi_47, ht_48⟩ := hW.f_pr hL_h0 hT_h0
  obtain ⟨hq_49, hq_50⟩ := hW.ints hi_47 ht_48
  have hFc := pg_free hD hS hA
  refine va_callv (va_runS (As := [.ref pr, .int 0]) (rest := []) ⟨hx, hb, hml, hown, hts⟩ (m_J7_fill_53178 l dC dI cs ty gm L s.heap.size F pr (ρ + 89) 66 0 hW hi_47 ht_48 (by first | omega | assumption | exact Or.inl rfl)) ⟨callB_of 2 hts (gi kt_807) rfl rfl rfl (hts _ kt_808) (hts _ kt_809) (by decide +kernel) ⟨Nat.le_of_ble_eq_true rfl, Nat.le_of_ble_eq_true rfl⟩, (hts _ kt_810)⟩ ⟨fun a U g mk q => ⟨q.1, PTm.calling q.2⟩, fun U hU hWm => ⟨rfl, PTm.mk hU hWm hP hK hD hE hO⟩⟩ rfl rfl hl.1 rfl (lv_room (Nat.le_of_ble_eq_true rfl)) dX15_times_5 ⟨by show _ + 0 ≤ 0; omega, by show _ + 0 ≤ 0; omega⟩) hS (fun q _ h => hFc q h) hFc (fun u t H1 locs ht hvm hw hB hz1 hk1 hS => ?_)
  obtain ⟨F_52, hB1⟩ := hB
  obtain ⟨hP, hD, hO, hR⟩ := QTm.back hB1 ht hFc hR (fun q h => by simp only [List.mem_cons, List.not_mem_nil, or_false] at h ⊢; omega)
  have hF_53 : F_52 h0 = .inr (15, (.ref ta) :: (.int (nI zt)) :: (.int (nI zo)) :: (.int (nI ze)) :: (.ref ou) :: (.ref so) :: (.ref ad) :: (.ref na) :: (.ref va) :: (.ref lc) :: (.ref dm) :: (.int (nI fm)) :: (.int (nI sn)) :: (.ref tg) :: (.int v14_29) :: (.int v15_30) :: (.ref pe) :: (.int v17_31) :: (.int v18_32) :: (.int v19_33) :: (.int v20_34) :: (.int v21_35) :: (.int v22_36) :: (.ref ml) :: (.ref bg) :: (.ref co) :: (.ref sp) :: (.ref nb0) :: (.ref nb1) :: (.ref nb2) :: (.int (nI nf)) :: (.int (nI bd)) :: (.int (nI mm)) :: (.int v33_37) :: (.ref pl) :: (.ref se) :: (.ref ke) :: (.ref wi) :: (.ref hs) :: (.ref mo) :: (.ref po) :: (.ref nu) :: (.ref pr) :: (.ref sq) :: (.ref xa) :: (.ref sa) :: (.ref n64) :: (.ref m64) :: (.ref ex) :: (.ref wh) :: (.ref sd) :: (.ref tk) :: (.int v52_38) :: (.int v53_39) :: (.int v54_40) :: (.ref hd) :: (.ref ak) :: (.ref ho) :: (.ref ot) :: []) := (hB1.2.2.2 h0 (by rw [hT_h0]; simp)).trans hF_41
  generalize H1 = H at hP hS ⊢
  refine lv_iconst (v := 0) hx hb dX15_times_8 (by decide) ?_
  refine lv_istore_n (lv' := [(2, .int 0), (0, .ref h0), (1, .ref g1)]) hx hb dX15_times_9 rfl hl (by decide) rfl (fun ls hl => ?_)
  refine W.widen (k := 0) (n := 0) (by omega) (by omega) ?_
  have hF_55 : F h0 = .inr (15, (.ref ta) :: (.int (nI zt)) :: (.int (nI zo)) :: (.int (nI ze)) :: (.ref ou) :: (.ref so) :: (.ref ad) :: (.ref na) :: (.ref va) :: (.ref lc) :: (.ref dm) :: (.int (nI fm)) :: (.int (nI sn)) :: (.ref tg) :: (.int v14_29) :: (.int v15_30) :: (.ref pe) :: (.int v17_31) :: (.int v18_32) :: (.int v19_33) :: (.int v20_34) :: (.int v21_35) :: (.int v22_36) :: (.ref ml) :: (.ref bg) :: (.ref co) :: (.ref sp) :: (.ref nb0) :: (.ref nb1) :: (.ref nb2) :: (.int (nI nf)) :: (.int (nI bd)) :: (.int (nI mm)) :: (.int v33_37) :: (.ref pl) :: (.ref se) :: (.ref ke) :: (.ref wi) :: (.ref hs) :: (.ref mo) :: (.ref po) :: (.ref nu) :: (.ref pr) :: (.ref sq) :: (.ref xa) :: (.ref sa) :: (.ref n64) :: (.ref m64) :: (.ref ex) :: (.ref wh) :: (.ref sd) :: (.ref tk) :: (.int v52_38) :: (.int v53_39) :: (.int v54_40) :: (.ref hd) :: (.ref ak) :: (.ref ho) :: (.ref ot) :: []) := (hR h0 (by rw [hT_h0]; simp)).symm.trans hF_53
  refine pl_loopm (σ := Nat) A (dC, dI) cs ty gm L [ρ + 18, ρ + 87, ρ + 88, ρ + 89, ρ + 90] F 10 6 (fun j => [(2, .int (nI j)), (0, .ref h0), (1, .ref g1)]) (fun j => []) (fun j _ => j ≤ 32) (fun j => 32 - j) ?_ 0 F_52 (by omega) hO hR _ _ hP hD hS ls (lv_sub hl [0, 1, 2] rfl)
  rintro j F_54 hv_56 hO hR ih_57 H locs hP hD hS ls hl
  have hl : lv_has ls 6 [(2, .int (nI j)), (0, .ref h0), (1, .ref g1)] := hl
  have hv_56 : j ≤ 32 := hv_56
  refine W.eq (g2 := F0 m 10 ls []) rfl ?_
  have hF_58 : F_54 h0 = .inr (15, (.ref ta) :: (.int (nI zt)) :: (.int (nI zo)) :: (.int (nI ze)) :: (.ref ou) :: (.ref so) :: (.ref ad) :: (.ref na) :: (.ref va) :: (.ref lc) :: (.ref dm) :: (.int (nI fm)) :: (.int (nI sn)) :: (.ref tg) :: (.int v14_29) :: (.int v15_30) :: (.ref pe) :: (.int v17_31) :: (.int v18_32) :: (.int v19_33) :: (.int v20_34) :: (.int v21_35) :: (.int v22_36) :: (.ref ml) :: (.ref bg) :: (.ref co) :: (.ref sp) :: (.ref nb0) :: (.ref nb1) :: (.ref nb2) :: (.int (nI nf)) :: (.int (nI bd)) :: (.int (nI mm)) :: (.int v33_37) :: (.ref pl) :: (.ref se) :: (.ref ke) :: (.ref wi) :: (.ref hs) :: (.ref mo) :: (.ref po) :: (.ref nu) :: (.ref pr) :: (.ref sq) :: (.ref xa) :: (.ref sa) :: (.ref n64) :: (.ref m64) :: (.ref ex) :: (.ref wh) :: (.ref sd) :: (.ref tk) :: (.int v52_38) :: (.int v53_39) :: (.int v54_40) :: (.ref hd) :: (.ref ak) :: (.ref ho) :: (.ref ot) :: []) := (hR h0 (by rw [hT_h0]; simp)).trans hF_55
  refine lv_iload_n hx hb dX15_times_10 rfl (lv_at hl 0 rfl) ?_
  refine lv_bipush (v := 32) hx hb dX15_times_11 (by decide) ?_
  refine lv_icmp_ge (tgt := 101) hx hb dX15_times_13 (by decide) (fun c_59 => ?_) (fun c_59 => ?_)
  ·
    have hi_60 : 32 ≤ j := leN (N := 32) c_59
    refine lv_aload_n hx hb dX15_times_101 rfl (lv_at hl 1 rfl) ?_
    refine lv_aload_n hx hb dX15_times_102 rfl (lv_at hl 1 rfl) ?_
    refine pg_get (ci := 15) (v := .ref pr) (C := RX15) (T := TX15) (N := 59) hx hb hts it_15 hown hK hP hL_h0 hF_58 rfl 42 (by decide) (hts _ kt_816) (fun _ h9 => h9) rfl dX15_times_103 ?_
    refine lv_bipush (v := 64) hx hb dX15_times_106 (by decide) ?_
    refine lv_aload_n hx hb dX15_times_108 rfl (lv_at hl 1 rfl) ?_
    refine pg_get (ci := 15) (v := .ref po) (C := RX15) (T := TX15) (N := 59) hx hb hts it_15 hown hK hP hL_h0 hF_58 rfl 40 (by decide) (hts _ kt_817) (fun _ h9 => h9) rfl dX15_times_109 ?_
    obtain ⟨hi_61, ht_62⟩ := hW.f_po hL_h0 hT_h0
    obtain ⟨hq_63, hq_64⟩ := hW.ints hi_61 ht_62
    have hFc := pg_free hD hS hA
    refine va_callv (va_runV (As := [.ref pr, .int 64, .ref po]) (rest := []) ⟨hx, hb, hml, hown, hts⟩ (s_X15_remainder_64 l dC dI cs ty gm L H.size F_54 h0 ρ ta ou so ad na va lc dm tg pe ml bg co sp nb0 nb1 nb2 pl se ke wi hs mo po nu pr sq xa sa n64 m64 ex wh sd tk hd ak ho ot sx s0 s1 s2 nf bd mm zo fm sn hg gc gv ze zt pr (ρ + 89) po (ρ + 87) hW hL_h0 hT_h0 hi_47 ht_48 hi_61 ht_62) ⟨callB_of 3 hts (gi kt_818) rfl rfl rfl (hts _ kt_669) (hts _ kt_819) (by decide +kernel) ⟨Nat.le_of_ble_eq_true rfl, Nat.le_of_ble_eq_true rfl⟩, (hts _ kt_820), (hts _ kt_821)⟩ ⟨fun a U g mk q => ⟨q.1, PTm.calling q.2⟩, pg_recv hK hP hL_h0 hF_58 (q := (RX15, TX15, 59)) rfl, fun U hU hWm => ⟨rfl, PTm.mk hU hWm hP hK hD hE hO⟩⟩ rfl rfl hl.1 rfl (lv_room (Nat.le_of_ble_eq_true rfl)) dX15_times_112 ⟨by show _ + 0 ≤ 0; omega, by show _ + 0 ≤ 0; omega⟩) hS (fun q _ h => hFc q h) hFc (fun u t H1 locs ht hvm hw hB hz1 hk1 hS => ?_)
    obtain ⟨F_66, hB1⟩ := hB
    obtain ⟨hP, hD, hO, hR⟩ := QTm.back hB1 ht hFc hR (fun q h => by simp only [List.mem_cons, List.not_mem_nil, or_false] at h ⊢; omega)
    have hF_67 : F_66 h0 = .inr (15, (.ref ta) :: (.int (nI zt)) :: (.int (nI zo)) :: (.int (nI ze)) :: (.ref ou) :: (.ref so) :: (.ref ad) :: (.ref na) :: (.ref va) :: (.ref lc) :: (.ref dm) :: (.int (nI fm)) :: (.int (nI sn)) :: (.ref tg) :: (.int v14_29) :: (.int v15_30) :: (.ref pe) :: (.int v17_31) :: (.int v18_32) :: (.int v19_33) :: (.int v20_34) :: (.int v21_35) :: (.int v22_36) :: (.ref ml) :: (.ref bg) :: (.ref co) :: (.ref sp) :: (.ref nb0) :: (.ref nb1) :: (.ref nb2) :: (.int (nI nf)) :: (.int (nI bd)) :: (.int (nI mm)) :: (.int v33_37) :: (.ref pl) :: (.ref se) :: (.ref ke) :: (.ref wi) :: (.ref hs) :: (.ref mo) :: (.ref po) :: (.ref nu) :: (.ref pr) :: (.ref sq) :: (.ref xa) :: (.ref sa) :: (.ref n64) :: (.ref m64) :: (.ref ex) :: (.ref wh) :: (.ref sd) :: (.ref tk) :: (.int v52_38) :: (.int v53_39) :: (.int v54_40) :: (.ref hd) :: (.ref ak) :: (.ref ho) :: (.ref ot) :: []) := (hB1.2.2.2 h0 (by rw [hT_h0]; simp)).trans hF_58
    generalize H1 = H at hP hS ⊢
    refine W.widen (k := 0) (n := 0) (by omega) (by omega) ?_
    exact W.vret hx hb hr (fun t ht hWm => ⟨⟨(), rfl, trivial, ⟨F_66, QTm.mk ht hP hD hO hR⟩⟩, hS.F ht⟩) hS.2.2 dX15_times_115
  ·
    have hi_68 : j < 32 := ltN (N := 32) c_59
    refine lv_lconst (v := 0) hx hb dX15_times_16 (by decide) ?_
    refine lv_lstore_n (lv' := [(3, .long 0), (2, .int (nI j)), (0, .ref h0), (1, .ref g1)]) hx hb dX15_times_17 rfl hl (by decide) rfl (fun ls hl => ?_)
    refine lv_iconst (v := 0) hx hb dX15_times_18 (by decide) ?_
    refine lv_istore (lv' := [(5, .int 0), (3, .long 0), (2, .int (nI j)), (0, .ref h0), (1, .ref g1)]) hx hb dX15_times_19 hl (by decide) rfl (fun ls hl => ?_)
    refine W.widen (k := 0) (n := 0) (by omega) (by omega) ?_
    have hF_70 : F h0 = .inr (15, (.ref ta) :: (.int (nI zt)) :: (.int (nI zo)) :: (.int (nI ze)) :: (.ref ou) :: (.ref so) :: (.ref ad) :: (.ref na) :: (.ref va) :: (.ref lc) :: (.ref dm) :: (.int (nI fm)) :: (.int (nI sn)) :: (.ref tg) :: (.int v14_29) :: (.int v15_30) :: (.ref pe) :: (.int v17_31) :: (.int v18_32) :: (.int v19_33) :: (.int v20_34) :: (.int v21_35) :: (.int v22_36) :: (.ref ml) :: (.ref bg) :: (.ref co) :: (.ref sp) :: (.ref nb0) :: (.ref nb1) :: (.ref nb2) :: (.int (nI nf)) :: (.int (nI bd)) :: (.int (nI mm)) :: (.int v33_37) :: (.ref pl) :: (.ref se) :: (.ref ke) :: (.ref wi) :: (.ref hs) :: (.ref mo) :: (.ref po) :: (.ref nu) :: (.ref pr) :: (.ref sq) :: (.ref xa) :: (.ref sa) :: (.ref n64) :: (.ref m64) :: (.ref ex) :: (.ref wh) :: (.ref sd) :: (.ref tk) :: (.int v52_38) :: (.int v53_39) :: (.int v54_40) :: (.ref hd) :: (.ref ak) :: (.ref ho) :: (.ref ot) :: []) := (hR h0 (by rw [hT_h0]; simp)).symm.trans hF_58
    refine pl_loopm (σ := Nat × Int64) A (dC, dI) cs ty gm L [ρ + 18, ρ + 87, ρ + 88, ρ + 89, ρ + 90] F 21 6 (fun (i, w3) => [(5, .int (nI i)), (3, .long w3), (2, .int (nI j)), (0, .ref h0), (1, .ref g1)]) (fun (i, w3) => []) (fun (i, w3) _ => i ≤ 33) (fun (i, w3) => 33 - i) ?_ (0, 0) F_54 (by omega) hO hR _ _ hP hD hS ls (lv_sub hl [0, 1, 2, 3, 4] rfl)
    rintro ⟨i, w3⟩ F_69 hv_71 hO hR ih_72 H locs hP hD hS ls hl
    have hl : lv_has ls 6 [(5, .int (nI i)), (3, .long w3), (2, .int (nI j)), (0, .ref h0), (1, .ref g1)] := hl
    have hv_71 : i ≤ 33 := hv_71
    refine W.eq (g2 := F0 m 21 ls []) rfl ?_
    have hF_73 : F_69 h0 = .inr (15, (.ref ta) :: (.int (nI zt)) :: (.int (nI zo)) :: (.int (nI ze)) :: (.ref ou) :: (.ref so) :: (.ref ad) :: (.ref na) :: (.ref va) :: (.ref lc) :: (.ref dm) :: (.int (nI fm)) :: (.int (nI sn)) :: (.ref tg) :: (.int v14_29) :: (.int v15_30) :: (.ref pe) :: (.int v17_31) :: (.int v18_32) :: (.int v19_33) :: (.int v20_34) :: (.int v21_35) :: (.int v22_36) :: (.ref ml) :: (.ref bg) :: (.ref co) :: (.ref sp) :: (.ref nb0) :: (.ref nb1) :: (.ref nb2) :: (.int (nI nf)) :: (.int (nI bd)) :: (.int (nI mm)) :: (.int v33_37) :: (.ref pl) :: (.ref se) :: (.ref ke) :: (.ref wi) :: (.ref hs) :: (.ref mo) :: (.ref po) :: (.ref nu) :: (.ref pr) :: (.ref sq) :: (.ref xa) :: (.ref sa) :: (.ref n64) :: (.ref m64) :: (.ref ex) :: (.ref wh) :: (.ref sd) :: (.ref tk) :: (.int v52_38) :: (.int v53_39) :: (.int v54_40) :: (.ref hd) :: (.ref ak) :: (.ref ho) :: (.ref ot) :: []) := (hR h0 (by rw [hT_h0]; simp)).trans hF_70
    refine lv_iload hx hb dX15_times_21 (lv_at hl 0 rfl) ?_
    refine lv_bipush (v := 33) hx hb dX15_times_23 (by decide) ?_
    refine lv_icmp_ge (tgt := 81) hx hb dX15_times_25 (by decide) (fun c_74 => ?_) (fun c_74 => ?_)
    ·
      have hi_75 : 33 ≤ i := leN (N := 33) c_74
      refine lv_aload_n hx hb dX15_times_81 rfl (lv_at hl 3 rfl) ?_
      refine pg_get (ci := 15) (v := .ref pr) (C := RX15) (T := TX15) (N := 59) hx hb hts it_15 hown hK hP hL_h0 hF_73 rfl 42 (by decide) (hts _ kt_816) (fun _ h9 => h9) rfl dX15_times_82 ?_
      refine lv_iload_n hx hb dX15_times_85 rfl (lv_at hl 2 rfl) ?_
      refine lv_bipush (v := 33) hx hb dX15_times_86 (by decide) ?_
      refine lv_iadd hx hb dX15_times_88 ?_
      refine lv_topi (fun x_76 ex_76 => ?_)
      obtain rfl : x_76 = (nI (j + 33)) := ex_76.trans (nI_add j 33)
      refine lv_dup2_11 hx hb dX15_times_89 rfl rfl ?_
      obtain ⟨f_77, hF_78⟩ := hO.ints hi_47 ht_48
      refine pg_iald hx hb hK hP hi_47 0 hF_78 rfl (vp_in_nI (by omega) (by omega)) dX15_times_90 ?_
      refine lv_topi (fun x_79 _ => ?_)
      refine lv_lload_n hx hb dX15_times_91 rfl (lv_at hl 1 rfl) ?_
      refine lv_l2i hx hb dX15_times_92 rfl ?_
      refine lv_topi (fun x_80 _ => ?_)
      refine lv_iadd hx hb dX15_times_93 ?_
      refine lv_topi (fun x_81 ex_81 => ?_)
      refine pg_iast hx hb hK hP hD hS hi_47 0 hF_78 rfl (vp_in_nI (by omega) (by omega)) dX15_times_94 (fun H locs hP hD hS => ?_)
      obtain ⟨F_82, he_83, hP, hD, hO, hR⟩ : ∃ G, G = va_up F_69 pr (.inl (cs 16, 66, .inl (upd f_77 ((nI (j + 33))).toNatClampNeg (x_81)))) ∧ va_P (dC, dI) vwCl (va_pl L G) H ∧ va_D A (va_pl L G) ∧ OKm cs ty gm L G ∧ FR ty [ρ + 18, ρ + 87, ρ + 88, ρ + 89, ρ + 90] F G := ⟨_, rfl, hP, hD, hO.up (shm.ints ht_48 ⟨_, rfl⟩), hR.up ht_48 (by simp)⟩
      have hF_84 : F_82 pr = .inl (cs 16, 66, .inl (upd f_77 ((nI (j + 33))).toNatClampNeg (x_81))) := by rw [he_83]; exact up_self
      have hF_85 : F_82 h0 = .inr (15, (.ref ta) :: (.int (nI zt)) :: (.int (nI zo)) :: (.int (nI ze)) :: (.ref ou) :: (.ref so) :: (.ref ad) :: (.ref na) :: (.ref va) :: (.ref lc) :: (.ref dm) :: (.int (nI fm)) :: (.int (nI sn)) :: (.ref tg) :: (.int v14_29) :: (.int v15_30) :: (.ref pe) :: (.int v17_31) :: (.int v18_32) :: (.int v19_33) :: (.int v20_34) :: (.int v21_35) :: (.int v22_36) :: (.ref ml) :: (.ref bg) :: (.ref co) :: (.ref sp) :: (.ref nb0) :: (.ref nb1) :: (.ref nb2) :: (.int (nI nf)) :: (.int (nI bd)) :: (.int (nI mm)) :: (.int v33_37) :: (.ref pl) :: (.ref se) :: (.ref ke) :: (.ref wi) :: (.ref hs) :: (.ref mo) :: (.ref po) :: (.ref nu) :: (.ref pr) :: (.ref sq) :: (.ref xa) :: (.ref sa) :: (.ref n64) :: (.ref m64) :: (.ref ex) :: (.ref wh) :: (.ref sd) :: (.ref tk) :: (.int v52_38) :: (.int v53_39) :: (.int v54_40) :: (.ref hd) :: (.ref ak) :: (.ref ho) :: (.ref ot) :: []) := by rw [he_83, up_ne (ne_ty hT_h0 ht_48 (by simp))]; exact hF_73
      obtain ⟨f_86, hF_84⟩ : ∃ f : Nat → Int32, F_82 pr = .inl (cs 16, 66, .inl f) := ⟨_, hF_84⟩
      refine lv_iinc (v := (nI (j + 1))) (lv' := [(2, .int (nI (j + 1))), (5, .int (nI i)), (3, .long w3), (0, .ref h0), (1, .ref g1)]) hx hb dX15_times_95 hl (k := 2) rfl (nI_1 _) (by decide) rfl (fun ls hl => ?_)
      refine lv_goto (tgt := 10) hx hb dX15_times_98 (by decide) ?_
      refine W.widen (k := 0) (n := 0) (by omega) (by omega) ?_
      exact ih_57 (j + 1) F_82 (by first | omega | exact ⟨by omega, by omega⟩ | trivial) (by show 32 - (j + 1) < 32 - j; omega) hO hR _ _ hP hD hS ls (lv_sub hl [0, 3, 4] rfl)
    ·
      have hi_87 : i < 33 := ltN (N := 33) c_74
      refine lv_lload_n hx hb dX15_times_28 rfl (lv_at hl 1 rfl) ?_
      refine lv_aload_n hx hb dX15_times_29 rfl (lv_at hl 3 rfl) ?_
      refine pg_get (ci := 15) (v := .ref pr) (C := RX15) (T := TX15) (N := 59) hx hb hts it_15 hown hK hP hL_h0 hF_73 rfl 42 (by decide) (hts _ kt_816) (fun _ h9 => h9) rfl dX15_times_30 ?_
      refine lv_iload_n hx hb dX15_times_33 rfl (lv_at hl 2 rfl) ?_
      refine lv_iload hx hb dX15_times_34 (lv_at hl 0 rfl) ?_
      refine lv_iadd hx hb dX15_times_36 ?_
      refine lv_topi (fun x_88 ex_88 => ?_)
      obtain rfl : x_88 = (nI (j + i)) := ex_88.trans (nI_add j i)
      obtain ⟨f_89, hF_90⟩ := hO.ints hi_47 ht_48
      refine pg_iald hx hb hK hP hi_47 0 hF_90 rfl (vp_in_nI (by omega) (by omega)) dX15_times_37 ?_
      refine lv_topi (fun x_91 _ => ?_)
      refine lv_i2l (v := x_91.toInt64) hx hb dX15_times_38 rfl ?_
      refine lv_aload_n hx hb dX15_times_39 rfl (lv_at hl 3 rfl) ?_
      refine pg_get (ci := 15) (v := .ref po) (C := RX15) (T := TX15) (N := 59) hx hb hts it_15 hown hK hP hL_h0 hF_73 rfl 40 (by decide) (hts _ kt_817) (fun _ h9 => h9) rfl dX15_times_40 ?_
      refine lv_iload_n hx hb dX15_times_43 rfl (lv_at hl 2 rfl) ?_
      obtain ⟨hi_92, ht_93⟩ := hW.f_po hL_h0 hT_h0
      obtain ⟨hq_94, hq_95⟩ := hW.ints hi_92 ht_93
      obtain ⟨f_96, hF_97⟩ := hO.ints hi_92 ht_93
      refine pg_iald hx hb hK hP hi_92 0 hF_97 rfl (vp_in_nI (by omega) (by omega)) dX15_times_44 ?_
      refine lv_topi (fun x_98 _ => ?_)
      refine lv_i2l (v := x_98.toInt64) hx hb dX15_times_45 rfl ?_
      refine lv_aload_n hx hb dX15_times_46 rfl (lv_at hl 4 rfl) ?_
      refine lv_iload hx hb dX15_times_47 (lv_at hl 0 rfl) ?_
      obtain ⟨hq_99, hq_100⟩ := hW.ints hL_g1 hT_g1
      obtain ⟨f_101, hF_102⟩ := hO.ints hL_g1 hT_g1
      refine pg_iald hx hb hK hP hL_g1 0 hF_102 rfl (vp_in_nI (by omega) (by omega)) dX15_times_49 ?_
      refine lv_topi (fun x_103 _ => ?_)
      refine lv_i2l (v := x_103.toInt64) hx hb dX15_times_50 rfl ?_
      refine lv_lmul hx hb dX15_times_51 ?_
      refine lv_topl (fun x_104 _ => ?_)
      refine lv_ladd hx hb dX15_times_52 ?_
      refine lv_topl (fun x_105 _ => ?_)
      refine lv_ladd hx hb dX15_times_53 ?_
      refine lv_topl (fun x_106 _ => ?_)
      refine lv_lstore_n (lv' := [(3, .long x_106), (5, .int (nI i)), (2, .int (nI j)), (0, .ref h0), (1, .ref g1)]) hx hb dX15_times_54 rfl hl (by decide) rfl (fun ls hl => ?_)
      refine lv_aload_n hx hb dX15_times_55 rfl (lv_at hl 3 rfl) ?_
      refine pg_get (ci := 15) (v := .ref pr) (C := RX15) (T := TX15) (N := 59) hx hb hts it_15 hown hK hP hL_h0 hF_73 rfl 42 (by decide) (hts _ kt_816) (fun _ h9 => h9) rfl dX15_times_56 ?_
      refine lv_iload_n hx hb dX15_times_59 rfl (lv_at hl 2 rfl) ?_
      refine lv_iload hx hb dX15_times_60 (lv_at hl 1 rfl) ?_
      refine lv_iadd hx hb dX15_times_62 ?_
      refine lv_topi (fun x_107 ex_107 => ?_)
      obtain rfl : x_107 = (nI (j + i)) := ex_107.trans (nI_add j i)
      refine lv_lload_n hx hb dX15_times_63 rfl (lv_at hl 0 rfl) ?_
      refine lv_ldc2 (v := 65535) hx hb hown (hts _ kt_822) dX15_times_64 ?_
      refine lv_land hx hb dX15_times_67 ?_
      refine lv_topl (fun x_108 _ => ?_)
      refine lv_l2i hx hb dX15_times_68 rfl ?_
      refine lv_topi (fun x_109 _ => ?_)
      refine pg_iast hx hb hK hP hD hS hi_47 0 hF_90 rfl (vp_in_nI (by omega) (by omega)) dX15_times_69 (fun H locs hP hD hS => ?_)
      obtain ⟨F_110, he_111, hP, hD, hO, hR⟩ : ∃ G, G = va_up F_69 pr (.inl (cs 16, 66, .inl (upd f_89 ((nI (j + i))).toNatClampNeg (x_109)))) ∧ va_P (dC, dI) vwCl (va_pl L G) H ∧ va_D A (va_pl L G) ∧ OKm cs ty gm L G ∧ FR ty [ρ + 18, ρ + 87, ρ + 88, ρ + 89, ρ + 90] F G := ⟨_, rfl, hP, hD, hO.up (shm.ints ht_48 ⟨_, rfl⟩), hR.up ht_48 (by simp)⟩
      have hF_112 : F_110 pr = .inl (cs 16, 66, .inl (upd f_89 ((nI (j + i))).toNatClampNeg (x_109))) := by rw [he_111]; exact up_self
      have hF_113 : F_110 h0 = .inr (15, (.ref ta) :: (.int (nI zt)) :: (.int (nI zo)) :: (.int (nI ze)) :: (.ref ou) :: (.ref so) :: (.ref ad) :: (.ref na) :: (.ref va) :: (.ref lc) :: (.ref dm) :: (.int (nI fm)) :: (.int (nI sn)) :: (.ref tg) :: (.int v14_29) :: (.int v15_30) :: (.ref pe) :: (.int v17_31) :: (.int v18_32) :: (.int v19_33) :: (.int v20_34) :: (.int v21_35) :: (.int v22_36) :: (.ref ml) :: (.ref bg) :: (.ref co) :: (.ref sp) :: (.ref nb0) :: (.ref nb1) :: (.ref nb2) :: (.int (nI nf)) :: (.int (nI bd)) :: (.int (nI mm)) :: (.int v33_37) :: (.ref pl) :: (.ref se) :: (.ref ke) :: (.ref wi) :: (.ref hs) :: (.ref mo) :: (.ref po) :: (.ref nu) :: (.ref pr) :: (.ref sq) :: (.ref xa) :: (.ref sa) :: (.ref n64) :: (.ref m64) :: (.ref ex) :: (.ref wh) :: (.ref sd) :: (.ref tk) :: (.int v52_38) :: (.int v53_39) :: (.int v54_40) :: (.ref hd) :: (.ref ak) :: (.ref ho) :: (.ref ot) :: []) := by rw [he_111, up_ne (ne_ty hT_h0 ht_48 (by simp))]; exact hF_73
      have hF_114 : F_110 po = .inl (cs 16, 33, .inl f_96) := by rw [he_111, up_ne (ne_ty2 ht_93 ht_48 (by simp))]; exact hF_97
      have hF_115 : F_110 g1 = .inl (cs 16, 33, .inl f_101) := by rw [he_111, up_ne (ne_ty2 hT_g1 ht_48 (by simp))]; exact hF_102
      obtain ⟨f_116, hF_112⟩ : ∃ f : Nat → Int32, F_110 pr = .inl (cs 16, 66, .inl f) := ⟨_, hF_112⟩
      refine lv_lload_n hx hb dX15_times_70 rfl (lv_at hl 0 rfl) ?_
      refine lv_bipush (v := 16) hx hb dX15_times_71 (by decide) ?_
      refine lv_lshr hx hb dX15_times_73 rfl ?_
      refine lv_topl (fun x_118 _ => ?_)
      refine lv_lstore_n (lv' := [(3, .long x_118), (5, .int (nI i)), (2, .int (nI j)), (0, .ref h0), (1, .ref g1)]) hx hb dX15_times_74 rfl hl (by decide) rfl (fun ls hl => ?_)
      refine lv_iinc (v := (nI (i + 1))) (lv' := [(5, .int (nI (i + 1))), (3, .long x_118), (2, .int (nI j)), (0, .ref h0), (1, .ref g1)]) hx hb dX15_times_75 hl (k := 1) rfl (nI_1 _) (by decide) rfl (fun ls hl => ?_)
      refine lv_goto (tgt := 21) hx hb dX15_times_78 (by decide) ?_
      refine W.widen (k := 0) (n := 0) (by omega) (by omega) ?_
      exact ih_72 ((i + 1), x_118) F_110 (by first | omega | exact ⟨by omega, by omega⟩ | trivial) (by show 33 - (i + 1) < 33 - i; omega) hO hR _ _ hP hD hS ls (lv_sub hl [0, 1, 2, 3, 4] rfl)
