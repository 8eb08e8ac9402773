theorem dX9_decode_0 : decode cX9_decode 0 = .ok (.aload_n 2, 1) := by decide +kernel
theorem dX9_decode_1 : decode cX9_decode 1 = .ok (.aload_n 0, 1) := by decide +kernel
theorem dX9_decode_2 : decode cX9_decode 2 = .ok (.getfield 28, 3) := by decide +kernel
theorem dX9_decode_5 : decode cX9_decode 5 = .ok (.aload_n 0, 1) := by decide +kernel
theorem dX9_decode_6 : decode cX9_decode 6 = .ok (.aload_n 1, 1) := by decide +kernel
theorem dX9_decode_7 : decode cX9_decode 7 = .ok (.invokevirtual 71, 3) := by decide +kernel
theorem dX9_decode_10 : decode cX9_decode 10 = .ok (.aload_n 0, 1) := by decide +kernel
theorem dX9_decode_11 : decode cX9_decode 11 = .ok (.aload_n 1, 1) := by decide +kernel
theorem dX9_decode_12 : decode cX9_decode 12 = .ok (.invokevirtual 74, 3) := by decide +kernel
theorem dX9_decode_15 : decode cX9_decode 15 = .ok (.iload_n 3, 1) := by decide +kernel
theorem dX9_decode_16 : decode cX9_decode 16 = .ok (.invokevirtual 86, 3) := by decide +kernel
theorem dX9_decode_19 : decode cX9_decode 19 = .ok (.ireturn, 1) := by decide +kernel
theorem dX9_isKnown_0 : decode cX9_isKnown 0 = .ok (.iconst 0, 1) := by decide +kernel
theorem dX9_isKnown_1 : decode cX9_isKnown 1 = .ok (.istore_n 3, 1) := by decide +kernel
theorem dX9_isKnown_2 : decode cX9_isKnown 2 = .ok (.iload_n 3, 1) := by decide +kernel
theorem dX9_isKnown_3 : decode cX9_isKnown 3 = .ok (.aload_n 0, 1) := by decide +kernel
theorem dX9_isKnown_4 : decode cX9_isKnown 4 = .ok (.getfield 19, 3) := by decide +kernel
theorem dX9_isKnown_7 : decode cX9_isKnown 7 = .ok (.if_icmp .ge 101, 3) := by decide +kernel
theorem dX9_isKnown_10 : decode cX9_isKnown 10 = .ok (.aload_n 0, 1) := by decide +kernel
theorem dX9_isKnown_11 : decode cX9_isKnown 11 = .ok (.getfield 13, 3) := by decide +kernel
theorem dX9_isKnown_14 : decode cX9_isKnown 14 = .ok (.iload_n 3, 1) := by decide +kernel
theorem dX9_isKnown_15 : decode cX9_isKnown 15 = .ok (.iaload, 1) := by decide +kernel
theorem dX9_isKnown_16 : decode cX9_isKnown 16 = .ok (.aload_n 0, 1) := by decide +kernel
theorem dX9_isKnown_17 : decode cX9_isKnown 17 = .ok (.getfield 9, 3) := by decide +kernel
theorem dX9_isKnown_20 : decode cX9_isKnown 20 = .ok (.iload_n 3, 1) := by decide +kernel
theorem dX9_isKnown_21 : decode cX9_isKnown 21 = .ok (.iaload, 1) := by decide +kernel
theorem dX9_isKnown_22 : decode cX9_isKnown 22 = .ok (.isub, 1) := by decide +kernel
theorem dX9_isKnown_23 : decode cX9_isKnown 23 = .ok (.iload_n 2, 1) := by decide +kernel
theorem dX9_isKnown_24 : decode cX9_isKnown 24 = .ok (.iload_n 1, 1) := by decide +kernel
theorem dX9_isKnown_25 : decode cX9_isKnown 25 = .ok (.isub, 1) := by decide +kernel
theorem dX9_isKnown_26 : decode cX9_isKnown 26 = .ok (.if_icmp .ne 7, 3) := by decide +kernel
theorem dX9_isKnown_29 : decode cX9_isKnown 29 = .ok (.iconst 1, 1) := by decide +kernel
theorem dX9_isKnown_30 : decode cX9_isKnown 30 = .ok (.goto 4, 3) := by decide +kernel
theorem dX9_isKnown_33 : decode cX9_isKnown 33 = .ok (.iconst 0, 1) := by decide +kernel
theorem dX9_isKnown_34 : decode cX9_isKnown 34 = .ok (.istore 4, 2) := by decide +kernel
theorem dX9_isKnown_36 : decode cX9_isKnown 36 = .ok (.iconst 0, 1) := by decide +kernel
theorem dX9_isKnown_37 : decode cX9_isKnown 37 = .ok (.istore 5, 2) := by decide +kernel
theorem dX9_isKnown_39 : decode cX9_isKnown 39 = .ok (.iload 4, 2) := by decide +kernel
theorem dX9_isKnown_41 : decode cX9_isKnown 41 = .ok (.ifCond .eq 54, 3) := by decide +kernel
theorem dX9_isKnown_44 : decode cX9_isKnown 44 = .ok (.iload 5, 2) := by decide +kernel
theorem dX9_isKnown_46 : decode cX9_isKnown 46 = .ok (.iload_n 2, 1) := by decide +kernel
theorem dX9_isKnown_47 : decode cX9_isKnown 47 = .ok (.iload_n 1, 1) := by decide +kernel
theorem dX9_isKnown_48 : decode cX9_isKnown 48 = .ok (.isub, 1) := by decide +kernel
theorem dX9_isKnown_49 : decode cX9_isKnown 49 = .ok (.if_icmp .ge 46, 3) := by decide +kernel
theorem dX9_isKnown_52 : decode cX9_isKnown 52 = .ok (.aload_n 0, 1) := by decide +kernel
theorem dX9_isKnown_53 : decode cX9_isKnown 53 = .ok (.getfield 28, 3) := by decide +kernel
theorem dX9_isKnown_56 : decode cX9_isKnown 56 = .ok (.aload_n 0, 1) := by decide +kernel
theorem dX9_isKnown_57 : decode cX9_isKnown 57 = .ok (.getfield 9, 3) := by decide +kernel
theorem dX9_isKnown_60 : decode cX9_isKnown 60 = .ok (.iload_n 3, 1) := by decide +kernel
theorem dX9_isKnown_61 : decode cX9_isKnown 61 = .ok (.iaload, 1) := by decide +kernel
theorem dX9_isKnown_62 : decode cX9_isKnown 62 = .ok (.iload 5, 2) := by decide +kernel
theorem dX9_isKnown_64 : decode cX9_isKnown 64 = .ok (.iadd, 1) := by decide +kernel
theorem dX9_isKnown_65 : decode cX9_isKnown 65 = .ok (.invokevirtual 35, 3) := by decide +kernel
theorem dX9_isKnown_68 : decode cX9_isKnown 68 = .ok (.aload_n 0, 1) := by decide +kernel
theorem dX9_isKnown_69 : decode cX9_isKnown 69 = .ok (.getfield 28, 3) := by decide +kernel
theorem dX9_isKnown_72 : decode cX9_isKnown 72 = .ok (.iload_n 1, 1) := by decide +kernel
theorem dX9_isKnown_73 : decode cX9_isKnown 73 = .ok (.iload 5, 2) := by decide +kernel
theorem dX9_isKnown_75 : decode cX9_isKnown 75 = .ok (.iadd, 1) := by decide +kernel
theorem dX9_isKnown_76 : decode cX9_isKnown 76 = .ok (.invokevirtual 35, 3) := by decide +kernel
theorem dX9_isKnown_79 : decode cX9_isKnown 79 = .ok (.if_icmp .ne 7, 3) := by decide +kernel
theorem dX9_isKnown_82 : decode cX9_isKnown 82 = .ok (.iconst 1, 1) := by decide +kernel
theorem dX9_isKnown_83 : decode cX9_isKnown 83 = .ok (.goto 4, 3) := by decide +kernel
theorem dX9_isKnown_86 : decode cX9_isKnown 86 = .ok (.iconst 0, 1) := by decide +kernel
theorem dX9_isKnown_87 : decode cX9_isKnown 87 = .ok (.istore 4, 2) := by decide +kernel
theorem dX9_isKnown_89 : decode cX9_isKnown 89 = .ok (.iinc 5 1, 3) := by decide +kernel
theorem dX9_isKnown_92 : decode cX9_isKnown 92 = .ok (.goto (-53), 3) := by decide +kernel
theorem dX9_isKnown_95 : decode cX9_isKnown 95 = .ok (.iload 4, 2) := by decide +kernel
theorem dX9_isKnown_97 : decode cX9_isKnown 97 = .ok (.ifCond .eq 5, 3) := by decide +kernel
theorem dX9_isKnown_100 : decode cX9_isKnown 100 = .ok (.iconst 1, 1) := by decide +kernel
theorem dX9_isKnown_101 : decode cX9_isKnown 101 = .ok (.ireturn, 1) := by decide +kernel
theorem dX9_isKnown_102 : decode cX9_isKnown 102 = .ok (.iinc 3 1, 3) := by decide +kernel
theorem dX9_isKnown_105 : decode cX9_isKnown 105 = .ok (.goto (-103), 3) := by decide +kernel
theorem dX9_isKnown_108 : decode cX9_isKnown 108 = .ok (.iconst 0, 1) := by decide +kernel
theorem dX9_isKnown_109 : decode cX9_isKnown 109 = .ok (.ireturn, 1) := by decide +kernel
theorem dX9_isNameAt_0 : decode cX9_isNameAt 0 = .ok (.aload_n 0, 1) := by decide +kernel
theorem dX9_isNameAt_1 : decode cX9_isNameAt 1 = .ok (.getfield 28, 3) := by decide +kernel
theorem dX9_isNameAt_4 : decode cX9_isNameAt 4 = .ok (.aload_n 0, 1) := by decide +kernel
theorem dX9_isNameAt_5 : decode cX9_isNameAt 5 = .ok (.aload_n 1, 1) := by decide +kernel
theorem dX9_isNameAt_6 : decode cX9_isNameAt 6 = .ok (.invokevirtual 71, 3) := by decide +kernel
theorem dX9_isNameAt_9 : decode cX9_isNameAt 9 = .ok (.aload_n 0, 1) := by decide +kernel
theorem dX9_isNameAt_10 : decode cX9_isNameAt 10 = .ok (.aload_n 1, 1) := by decide +kernel
theorem dX9_isNameAt_11 : decode cX9_isNameAt 11 = .ok (.invokevirtual 74, 3) := by decide +kernel
theorem dX9_isNameAt_14 : decode cX9_isNameAt 14 = .ok (.invokevirtual 77, 3) := by decide +kernel
theorem dX9_isNameAt_17 : decode cX9_isNameAt 17 = .ok (.ireturn, 1) := by decide +kernel
theorem dX9_read_0 : decode cX9_read 0 = .ok (.aload_n 0, 1) := by decide +kernel
theorem dX9_read_1 : decode cX9_read 1 = .ok (.getfield 28, 3) := by decide +kernel
theorem dX9_read_4 : decode cX9_read 4 = .ok (.invokevirtual 32, 3) := by decide +kernel
theorem dX9_read_7 : decode cX9_read 7 = .ok (.iload_n 2, 1) := by decide +kernel
theorem dX9_read_8 : decode cX9_read 8 = .ok (.istore 4, 2) := by decide +kernel
theorem dX9_read_10 : decode cX9_read 10 = .ok (.iload 4, 2) := by decide +kernel
theorem dX9_read_12 : decode cX9_read 12 = .ok (.iload_n 3, 1) := by decide +kernel
theorem dX9_read_13 : decode cX9_read 13 = .ok (.if_icmp .ge 41, 3) := by decide +kernel
theorem dX9_read_16 : decode cX9_read 16 = .ok (.aload_n 1, 1) := by decide +kernel
theorem dX9_read_17 : decode cX9_read 17 = .ok (.iload 4, 2) := by decide +kernel
theorem dX9_read_19 : decode cX9_read 19 = .ok (.invokevirtual 35, 3) := by decide +kernel
theorem dX9_read_22 : decode cX9_read 22 = .ok (.istore 5, 2) := by decide +kernel
theorem dX9_read_24 : decode cX9_read 24 = .ok (.iload 5, 2) := by decide +kernel
theorem dX9_read_26 : decode cX9_read 26 = .ok (.invokestatic 39, 3) := by decide +kernel
theorem dX9_read_29 : decode cX9_read 29 = .ok (.ifCond .ne 19, 3) := by decide +kernel
theorem dX9_read_32 : decode cX9_read 32 = .ok (.iload 5, 2) := by decide +kernel
theorem dX9_read_34 : decode cX9_read 34 = .ok (.bipush 10, 2) := by decide +kernel
theorem dX9_read_36 : decode cX9_read 36 = .ok (.if_icmp .eq 12, 3) := by decide +kernel
theorem dX9_read_39 : decode cX9_read 39 = .ok (.aload_n 0, 1) := by decide +kernel
theorem dX9_read_40 : decode cX9_read 40 = .ok (.getfield 28, 3) := by decide +kernel
theorem dX9_read_43 : decode cX9_read 43 = .ok (.iload 5, 2) := by decide +kernel
theorem dX9_read_45 : decode cX9_read 45 = .ok (.invokevirtual 43, 3) := by decide +kernel
theorem dX9_read_48 : decode cX9_read 48 = .ok (.iinc 4 1, 3) := by decide +kernel
theorem dX9_read_51 : decode cX9_read 51 = .ok (.goto (-41), 3) := by decide +kernel
theorem dX9_read_54 : decode cX9_read 54 = .ok (.aload_n 0, 1) := by decide +kernel
theorem dX9_read_55 : decode cX9_read 55 = .ok (.iconst 0, 1) := by decide +kernel
theorem dX9_read_56 : decode cX9_read 56 = .ok (.putfield 19, 3) := by decide +kernel
theorem dX9_read_59 : decode cX9_read 59 = .ok (.iconst 0, 1) := by decide +kernel
theorem dX9_read_60 : decode cX9_read 60 = .ok (.istore 4, 2) := by decide +kernel
theorem dX9_read_62 : decode cX9_read 62 = .ok (.iconst 0, 1) := by decide +kernel
theorem dX9_read_63 : decode cX9_read 63 = .ok (.istore 5, 2) := by decide +kernel
theorem dX9_read_65 : decode cX9_read 65 = .ok (.iload 5, 2) := by decide +kernel
theorem dX9_read_67 : decode cX9_read 67 = .ok (.aload_n 0, 1) := by decide +kernel
theorem dX9_read_68 : decode cX9_read 68 = .ok (.getfield 28, 3) := by decide +kernel
theorem dX9_read_71 : decode cX9_read 71 = .ok (.getfield 46, 3) := by decide +kernel
theorem dX9_read_74 : decode cX9_read 74 = .ok (.if_icmp .ge 83, 3) := by decide +kernel
theorem dX9_read_77 : decode cX9_read 77 = .ok (.aload_n 0, 1) := by decide +kernel
theorem dX9_read_78 : decode cX9_read 78 = .ok (.getfield 28, 3) := by decide +kernel
theorem dX9_read_81 : decode cX9_read 81 = .ok (.iload 5, 2) := by decide +kernel
theorem dX9_read_83 : decode cX9_read 83 = .ok (.invokevirtual 35, 3) := by decide +kernel
theorem dX9_read_86 : decode cX9_read 86 = .ok (.bipush 59, 2) := by decide +kernel
theorem dX9_read_88 : decode cX9_read 88 = .ok (.if_icmp .ne 7, 3) := by decide +kernel
theorem dX9_read_91 : decode cX9_read 91 = .ok (.iconst 1, 1) := by decide +kernel
theorem dX9_read_92 : decode cX9_read 92 = .ok (.goto 4, 3) := by decide +kernel
theorem dX9_read_95 : decode cX9_read 95 = .ok (.iconst 0, 1) := by decide +kernel
theorem dX9_read_96 : decode cX9_read 96 = .ok (.istore 6, 2) := by decide +kernel
theorem dX9_read_98 : decode cX9_read 98 = .ok (.iload 6, 2) := by decide +kernel
theorem dX9_read_100 : decode cX9_read 100 = .ok (.ifCond .ne 20, 3) := by decide +kernel
theorem dX9_read_103 : decode cX9_read 103 = .ok (.iload 5, 2) := by decide +kernel
theorem dX9_read_105 : decode cX9_read 105 = .ok (.iconst 1, 1) := by decide +kernel
theorem dX9_read_106 : decode cX9_read 106 = .ok (.iadd, 1) := by decide +kernel
theorem dX9_read_107 : decode cX9_read 107 = .ok (.aload_n 0, 1) := by decide +kernel
theorem dX9_read_108 : decode cX9_read 108 = .ok (.getfield 28, 3) := by decide +kernel
theorem dX9_read_111 : decode cX9_read 111 = .ok (.getfield 46, 3) := by decide +kernel
theorem dX9_read_114 : decode cX9_read 114 = .ok (.if_icmp .ge 6, 3) := by decide +kernel
theorem dX9_read_117 : decode cX9_read 117 = .ok (.goto 34, 3) := by decide +kernel
theorem dX9_read_120 : decode cX9_read 120 = .ok (.aload_n 0, 1) := by decide +kernel
theorem dX9_read_121 : decode cX9_read 121 = .ok (.iload 4, 2) := by decide +kernel
theorem dX9_read_123 : decode cX9_read 123 = .ok (.iload 6, 2) := by decide +kernel
theorem dX9_read_125 : decode cX9_read 125 = .ok (.ifCond .eq 8, 3) := by decide +kernel
theorem dX9_read_128 : decode cX9_read 128 = .ok (.iload 5, 2) := by decide +kernel
theorem dX9_read_130 : decode cX9_read 130 = .ok (.goto 7, 3) := by decide +kernel
theorem dX9_read_133 : decode cX9_read 133 = .ok (.iload 5, 2) := by decide +kernel
theorem dX9_read_135 : decode cX9_read 135 = .ok (.iconst 1, 1) := by decide +kernel
theorem dX9_read_136 : decode cX9_read 136 = .ok (.iadd, 1) := by decide +kernel
theorem dX9_read_137 : decode cX9_read 137 = .ok (.invokevirtual 49, 3) := by decide +kernel
theorem dX9_read_140 : decode cX9_read 140 = .ok (.ifCond .ne 5, 3) := by decide +kernel
theorem dX9_read_143 : decode cX9_read 143 = .ok (.iconst 0, 1) := by decide +kernel
theorem dX9_read_144 : decode cX9_read 144 = .ok (.ireturn, 1) := by decide +kernel
theorem dX9_read_145 : decode cX9_read 145 = .ok (.iload 5, 2) := by decide +kernel
theorem dX9_read_147 : decode cX9_read 147 = .ok (.iconst 1, 1) := by decide +kernel
theorem dX9_read_148 : decode cX9_read 148 = .ok (.iadd, 1) := by decide +kernel
theorem dX9_read_149 : decode cX9_read 149 = .ok (.istore 4, 2) := by decide +kernel
theorem dX9_read_151 : decode cX9_read 151 = .ok (.iinc 5 1, 3) := by decide +kernel
theorem dX9_read_154 : decode cX9_read 154 = .ok (.goto (-89), 3) := by decide +kernel
theorem dX9_read_157 : decode cX9_read 157 = .ok (.iconst 1, 1) := by decide +kernel
theorem dX9_read_158 : decode cX9_read 158 = .ok (.ireturn, 1) := by decide +kernel
theorem dX9_take_0 : decode cX9_take 0 = .ok (.aload_n 0, 1) := by decide +kernel
theorem dX9_take_1 : decode cX9_take 1 = .ok (.getfield 28, 3) := by decide +kernel
theorem dX9_take_4 : decode cX9_take 4 = .ok (.bipush 61, 2) := by decide +kernel
theorem dX9_take_6 : decode cX9_take 6 = .ok (.iload_n 1, 1) := by decide +kernel
theorem dX9_take_7 : decode cX9_take 7 = .ok (.iload_n 2, 1) := by decide +kernel
theorem dX9_take_8 : decode cX9_take 8 = .ok (.invokevirtual 53, 3) := by decide +kernel
theorem dX9_take_11 : decode cX9_take 11 = .ok (.istore_n 3, 1) := by decide +kernel
theorem dX9_take_12 : decode cX9_take 12 = .ok (.aload_n 0, 1) := by decide +kernel
theorem dX9_take_13 : decode cX9_take 13 = .ok (.getfield 19, 3) := by decide +kernel
theorem dX9_take_16 : decode cX9_take 16 = .ok (.bipush 40, 2) := by decide +kernel
theorem dX9_take_18 : decode cX9_take 18 = .ok (.if_icmp .eq 23, 3) := by decide +kernel
theorem dX9_take_21 : decode cX9_take 21 = .ok (.iload_n 3, 1) := by decide +kernel
theorem dX9_take_22 : decode cX9_take 22 = .ok (.iload_n 2, 1) := by decide +kernel
theorem dX9_take_23 : decode cX9_take 23 = .ok (.if_icmp .eq 18, 3) := by decide +kernel
theorem dX9_take_26 : decode cX9_take 26 = .ok (.iload_n 3, 1) := by decide +kernel
theorem dX9_take_27 : decode cX9_take 27 = .ok (.iload_n 1, 1) := by decide +kernel
theorem dX9_take_28 : decode cX9_take 28 = .ok (.isub, 1) := by decide +kernel
theorem dX9_take_29 : decode cX9_take 29 = .ok (.iconst 1, 1) := by decide +kernel
theorem dX9_take_30 : decode cX9_take 30 = .ok (.if_icmp .lt 11, 3) := by decide +kernel
theorem dX9_take_33 : decode cX9_take 33 = .ok (.iload_n 3, 1) := by decide +kernel
theorem dX9_take_34 : decode cX9_take 34 = .ok (.iload_n 1, 1) := by decide +kernel
theorem dX9_take_35 : decode cX9_take 35 = .ok (.isub, 1) := by decide +kernel
theorem dX9_take_36 : decode cX9_take 36 = .ok (.bipush 8, 2) := by decide +kernel
theorem dX9_take_38 : decode cX9_take 38 = .ok (.if_icmp .le 5, 3) := by decide +kernel
theorem dX9_take_41 : decode cX9_take 41 = .ok (.iconst 0, 1) := by decide +kernel
theorem dX9_take_42 : decode cX9_take 42 = .ok (.ireturn, 1) := by decide +kernel
theorem dX9_take_43 : decode cX9_take 43 = .ok (.iload_n 1, 1) := by decide +kernel
theorem dX9_take_44 : decode cX9_take 44 = .ok (.istore 4, 2) := by decide +kernel
theorem dX9_take_46 : decode cX9_take 46 = .ok (.iload 4, 2) := by decide +kernel
theorem dX9_take_48 : decode cX9_take 48 = .ok (.iload_n 3, 1) := by decide +kernel
theorem dX9_take_49 : decode cX9_take 49 = .ok (.if_icmp .ge 26, 3) := by decide +kernel
theorem dX9_take_52 : decode cX9_take 52 = .ok (.aload_n 0, 1) := by decide +kernel
theorem dX9_take_53 : decode cX9_take 53 = .ok (.getfield 28, 3) := by decide +kernel
theorem dX9_take_56 : decode cX9_take 56 = .ok (.iload 4, 2) := by decide +kernel
theorem dX9_take_58 : decode cX9_take 58 = .ok (.invokevirtual 35, 3) := by decide +kernel
theorem dX9_take_61 : decode cX9_take 61 = .ok (.invokestatic 57, 3) := by decide +kernel
theorem dX9_take_64 : decode cX9_take 64 = .ok (.ifCond .ne 5, 3) := by decide +kernel
theorem dX9_take_67 : decode cX9_take 67 = .ok (.iconst 0, 1) := by decide +kernel
theorem dX9_take_68 : decode cX9_take 68 = .ok (.ireturn, 1) := by decide +kernel
theorem dX9_take_69 : decode cX9_take 69 = .ok (.iinc 4 1, 3) := by decide +kernel
theorem dX9_take_72 : decode cX9_take 72 = .ok (.goto (-26), 3) := by decide +kernel
theorem dX9_take_75 : decode cX9_take 75 = .ok (.aload_n 0, 1) := by decide +kernel
theorem dX9_take_76 : decode cX9_take 76 = .ok (.iload_n 1, 1) := by decide +kernel
theorem dX9_take_77 : decode cX9_take 77 = .ok (.iload_n 3, 1) := by decide +kernel
theorem dX9_take_78 : decode cX9_take 78 = .ok (.invokevirtual 60, 3) := by decide +kernel
theorem dX9_take_81 : decode cX9_take 81 = .ok (.ifCond .eq 5, 3) := by decide +kernel
theorem dX9_take_84 : decode cX9_take 84 = .ok (.iconst 0, 1) := by decide +kernel
theorem dX9_take_85 : decode cX9_take 85 = .ok (.ireturn, 1) := by decide +kernel
theorem dX9_take_86 : decode cX9_take 86 = .ok (.aload_n 0, 1) := by decide +kernel
theorem dX9_take_87 : decode cX9_take 87 = .ok (.getfield 9, 3) := by decide +kernel
theorem dX9_take_90 : decode cX9_take 90 = .ok (.aload_n 0, 1) := by decide +kernel
theorem dX9_take_91 : decode cX9_take 91 = .ok (.getfield 19, 3) := by decide +kernel
theorem dX9_take_94 : decode cX9_take 94 = .ok (.iload_n 1, 1) := by decide +kernel
theorem dX9_take_95 : decode cX9_take 95 = .ok (.iastore, 1) := by decide +kernel
theorem dX9_take_96 : decode cX9_take 96 = .ok (.aload_n 0, 1) := by decide +kernel
theorem dX9_take_97 : decode cX9_take 97 = .ok (.getfield 13, 3) := by decide +kernel
theorem dX9_take_100 : decode cX9_take 100 = .ok (.aload_n 0, 1) := by decide +kernel
theorem dX9_take_101 : decode cX9_take 101 = .ok (.getfield 19, 3) := by decide +kernel
theorem dX9_take_104 : decode cX9_take 104 = .ok (.iload_n 3, 1) := by decide +kernel
theorem dX9_take_105 : decode cX9_take 105 = .ok (.iastore, 1) := by decide +kernel
theorem dX9_take_106 : decode cX9_take 106 = .ok (.aload_n 0, 1) := by decide +kernel
theorem dX9_take_107 : decode cX9_take 107 = .ok (.getfield 16, 3) := by decide +kernel
theorem dX9_take_110 : decode cX9_take 110 = .ok (.aload_n 0, 1) := by decide +kernel
theorem dX9_take_111 : decode cX9_take 111 = .ok (.getfield 19, 3) := by decide +kernel
theorem dX9_take_114 : decode cX9_take 114 = .ok (.iload_n 2, 1) := by decide +kernel
theorem dX9_take_115 : decode cX9_take 115 = .ok (.iastore, 1) := by decide +kernel
theorem dX9_take_116 : decode cX9_take 116 = .ok (.aload_n 0, 1) := by decide +kernel
theorem dX9_take_117 : decode cX9_take 117 = .ok (.dup, 1) := by decide +kernel
theorem dX9_take_118 : decode cX9_take 118 = .ok (.getfield 19, 3) := by decide +kernel
theorem dX9_take_121 : decode cX9_take 121 = .ok (.iconst 1, 1) := by decide +kernel
theorem dX9_take_122 : decode cX9_take 122 = .ok (.iadd, 1) := by decide +kernel
theorem dX9_take_123 : decode cX9_take 123 = .ok (.putfield 19, 3) := by decide +kernel
theorem dX9_take_126 : decode cX9_take 126 = .ok (.iconst 1, 1) := by decide +kernel
theorem dX9_take_127 : decode cX9_take 127 = .ok (.ireturn, 1) := by decide +kernel
theorem kt_170 : Cond.code yX9_startOf cX9_startOf 3 (some .int) ∈ tb := tb_at (i := 889) (by decide +kernel) (by decide +kernel)
theorem kt_171 : Cond.methodLink RX9 71 yX9_startOf ∈ tb := tb_at (i := 886) (by decide +kernel) (by decide +kernel)
theorem kt_172 : Cond.instanceMethod yX9_startOf ∈ tb := tb_at (i := 887) (by decide +kernel) (by decide +kernel)
theorem kt_173 : Cond.selects RX9 yX9_startOf yX9_startOf ∈ tb := tb_at (i := 888) (by decide +kernel) (by decide +kernel)
theorem kt_174 : Cond.code yX9_endOf cX9_endOf 3 (some .int) ∈ tb := tb_at (i := 893) (by decide +kernel) (by decide +kernel)
theorem kt_175 : Cond.methodLink RX9 74 yX9_endOf ∈ tb := tb_at (i := 890) (by decide +kernel) (by decide +kernel)
theorem kt_176 : Cond.instanceMethod yX9_endOf ∈ tb := tb_at (i := 891) (by decide +kernel) (by decide +kernel)
theorem kt_177 : Cond.selects RX9 yX9_endOf yX9_endOf ∈ tb := tb_at (i := 892) (by decide +kernel) (by decide +kernel)
theorem kt_178 : Cond.methodLink RX9 77 yX0_isName ∈ tb := tb_at (i := 894) (by decide +kernel) (by decide +kernel)
theorem kt_179 : Cond.code yX0_decode cX0_decode 10 (some .boolean) ∈ tb := tb_at (i := 904) (by decide +kernel) (by decide +kernel)
theorem kt_180 : Cond.methodLink RX9 86 yX0_decode ∈ tb := tb_at (i := 901) (by decide +kernel) (by decide +kernel)
theorem kt_181 : Cond.instanceMethod yX0_decode ∈ tb := tb_at (i := 902) (by decide +kernel) (by decide +kernel)
theorem kt_182 : Cond.selects RX0 yX0_decode yX0_decode ∈ tb := tb_at (i := 903) (by decide +kernel) (by decide +kernel)
theorem kt_183 : Cond.methodLink RX9 35 yX0_at ∈ tb := tb_at (i := 855) (by decide +kernel) (by decide +kernel)
theorem kt_184 : Cond.methodLink RX9 53 yX0_find ∈ tb := tb_at (i := 862) (by decide +kernel) (by decide +kernel)
theorem kt_185 : Cond.code yX9_isKnown cX9_isKnown 6 (some .boolean) ∈ tb := tb_at (i := 867) (by decide +kernel) (by decide +kernel)
theorem kt_186 : Cond.methodLink RX9 60 yX9_isKnown ∈ tb := tb_at (i := 864) (by decide +kernel) (by decide +kernel)
theorem kt_187 : Cond.instanceMethod yX9_isKnown ∈ tb := tb_at (i := 866) (by decide +kernel) (by decide +kernel)
theorem kt_188 : Cond.selects RX9 yX9_isKnown yX9_isKnown ∈ tb := tb_at (i := 16) (by decide +kernel) (by decide +kernel)
theorem kt_189 : Cond.methodLink RX9 57 yX0_isSmall ∈ tb := tb_at (i := 863) (by decide +kernel) (by decide +kernel)
theorem kt_190 : Cond.methodLink RX9 32 yX0_clear ∈ tb := tb_at (i := 854) (by decide +kernel) (by decide +kernel)
theorem kt_191 : Cond.code yX9_take cX9_take 5 (some .boolean) ∈ tb := tb_at (i := 861) (by decide +kernel) (by decide +kernel)
theorem kt_192 : Cond.methodLink RX9 49 yX9_take ∈ tb := tb_at (i := 858) (by decide +kernel) (by decide +kernel)
theorem kt_193 : Cond.instanceMethod yX9_take ∈ tb := tb_at (i := 860) (by decide +kernel) (by decide +kernel)
theorem kt_194 : Cond.selects RX9 yX9_take yX9_take ∈ tb := tb_at (i := 15) (by decide +kernel) (by decide +kernel)
theorem kt_195 : Cond.code yX0_isWhite cX0_isWhite 1 (some .boolean) ∈ tb := tb_at (i := 807) (by decide +kernel) (by decide +kernel)
theorem kt_196 : Cond.methodLink RX9 39 yX0_isWhite ∈ tb := tb_at (i := 856) (by decide +kernel) (by decide +kernel)
theorem kt_197 : Cond.static yX0_isWhite ∈ tb := tb_at (i := 806) (by decide +kernel) (by decide +kernel)
theorem kt_198 : Cond.methodLink RX9 43 yX0_add ∈ tb := tb_at (i := 857) (by decide +kernel) (by decide +kernel)
theorem kn_5 : Cond.fieldLinkNest RX9 46 "PostGate$Bytes" "size" "I" "PostGate" ∈ nw := nw_at (i := 45) (by decide +kernel) rfl
set_option maxHeartbeats 4000000 in
set_option maxRecDepth 100000 in
theorem s_X9_isNameAt (l : Launch) (dC : Nat → ClassId) (dI : Nat → Nat → Nat) (cs : Nat → ClassId) (ty : TyM) (L : List Nat) (sz : Nat) (F : Nat → va_E) (h0 : Nat) (ρ : Nat) (tx : Nat) (n : Nat) (y0 : Nat) (y1 : Nat) (y2 : Nat) (q : Nat) (v : Nat) (k0 : Nat) (hW : WT ty L) (hL_h0 : h0 ∈ L) (hT_h0 : ty h0 = (9, ρ, [tx, n, y0, y1, y2])) : Met l yX9_isNameAt (.code yX9_isNameAt cX9_isNameAt 2 (some .boolean) :: tb) ({ frames := 7, cells := 0, slots := 0, locals := 153 }) (va_Pc [.ref h0, .ref q] (PTE (dC, dI) cs ty L F sz [(q, v, k0)])) (va_Qi (fun (r : Int32) (_ : Unit) => (r = 0 ∨ r = 1)) (fun _ T9 => ∃ F2 : Nat → va_E, QT (dC, dI) cs ty L [] F F2 (va_A (va_pl L F) sz) T9) (va_A (va_pl L F) sz)) 0 0 (va_A (va_pl L F) sz) := by
  refine Met.ofW (cc := cX9_isNameAt) (maxL := 2) (ret := (some .boolean)) (by decide) rfl ?_
  intro p e s m args below meth c s₁ B hml hv
  obtain ⟨rfl, ⟨hsz, hP, hK, hD0, hE, hO⟩, hG, hX⟩ := hv
  have hx := B.exec
  have hb := B.bytes
  have hr := B.returns
  have hts : ∀ w ∈ tb, w.before _ s = true := fun w h => atoms_spec (ws := .code yX9_isNameAt cX9_isNameAt 2 (some .boolean) :: tb) B.pre w (List.mem_cons_of_mem _ h)
  have hown : s.vm.findClass RX9 = some m.cls := findClass_of_methodNamed B.named
  have hlocks := B.notSynchronized
  subst hsz
  have hD := hD0.self (sz := s.heap.size)
  generalize hAe : va_A (va_pl L F) s.heap.size = A at hD hG hX ⊢
  have hX_q : SX q v k0 A s s.heap := hX (q, v, k0) (by simp)
  obtain ⟨xo_q, xc_q, xv_q, xf_q, xt_q, xn_q⟩ := id hX_q
  have hA : ∀ q : Nat, s.heap.size ≤ q → A q := fun q h => by rw [← hAe]; exact Or.inr h
  have hS : va_S A s.heap s.heap [] := va_S.rf
  have hR : FR ty [] F F := FR.refl
  have hl := lv_entry ([.ref h0, .ref q]) (n := 2) (Nat.le_of_ble_eq_true rfl)
  rw [lg_entry_eq]
  generalize (lg_sl ([.ref h0, .ref q]) ++ List.replicate (2 - (lg_sl ([.ref h0, .ref q])).length) Slot.unset).toArray = ls at hl ⊢
  have hl : lv_has ls 2 [(0, .ref h0), (1, .ref q)] := hl
  refine lv_aload_n hx hb dX9_isNameAt_0 rfl (lv_at hl 0 rfl) ?_
  obtain ⟨hi_1, hi_2, hi_3, hi_4, ⟨r_5, ht_6⟩, ht_7, ht_8, ht_9⟩ := hW.tags hL_h0 hT_h0
  obtain ⟨z_10, hF_11, hq_12⟩ := hO.tags hL_h0 hT_h0
  refine pg_get (ci := 9) (v := .ref tx) (C := RX9) (T := TX9) (N := 5) hx hb hts it_9 hown hK hP hL_h0 hF_11 rfl 0 (by decide) (hts _ kt_159) (fun _ h9 => h9) rfl dX9_isNameAt_1 ?_
  refine lv_aload_n hx hb dX9_isNameAt_4 rfl (lv_at hl 0 rfl) ?_
  refine lv_aload_n hx hb dX9_isNameAt_5 rfl (lv_at hl 1 rfl) ?_
  have hFc := pg_free hD hS hA
  refine va_calli (va_runV (As := [.ref q]) (rest := [.ref tx]) ⟨hx, hb, hml, hown, hts⟩ (s_X9_startOf l dC dI cs ty L s.heap.size F h0 ρ tx n y0 y1 y2 q v k0 hW hL_h0 hT_h0) ⟨callB_of 1 hts (gi kt_170) rfl rfl rfl (hts _ kt_164) (hts _ kt_171) (by decide +kernel) ⟨Nat.le_of_ble_eq_true rfl, Nat.le_of_ble_eq_true rfl⟩, (hts _ kt_172), (hts _ kt_173)⟩ ⟨fun a U g mk q => ⟨q.1, PTE.calling q.2⟩, pg_recv hK hP hL_h0 hF_11 (q := (RX9, TX9, 5)) rfl, fun U hU hWm => ⟨rfl, PTE.mk hU hWm hP hK hD hE hO hG (fun x hx => by rw [List.mem_singleton] at hx; subst hx; exact hX_q) hS hFc⟩⟩ rfl rfl hl.1 rfl (lv_room (Nat.le_of_ble_eq_true rfl)) dX9_isNameAt_6 ⟨by show _ + 0 ≤ 0; omega, by show _ + 0 ≤ 0; omega⟩) hS (fun q _ h => hFc q h) hFc (fun r_13 u t H1 locs ht hvm hw hB hz1 hk1 hS => ?_)
  obtain ⟨F_14, hB1⟩ := hB
  obtain ⟨hP, hD, hO, hR⟩ := QT.back hB1 ht hFc hR (fun q h => absurd h List.not_mem_nil)
  have hF_15 : F_14 h0 = .inr (9, [.ref tx, .ref y0, .ref y1, .ref y2, .int (nI z_10)]) := (hB1.2.2.2 h0 List.not_mem_nil).trans hF_11
  generalize H1 = H at hP hS ⊢
  have hw : (∃ k : Nat, k ≤ 10002 ∧ r_13 = nI k) := hw
  have hw_16 := hw
  refine lv_aload_n hx hb dX9_isNameAt_9 rfl (lv_at hl 0 rfl) ?_
  refine lv_aload_n hx hb dX9_isNameAt_10 rfl (lv_at hl 1 rfl) ?_
  have hFc := pg_free hD hS hA
  refine va_calli (va_runV (As := [.ref q]) (rest := [.int r_13, .ref tx]) ⟨hx, hb, hml, hown, hts⟩ (s_X9_endOf l dC dI cs ty L H.size F_14 h0 ρ tx n y0 y1 y2 q v k0 hW hL_h0 hT_h0) ⟨callB_of 1 hts (gi kt_174) rfl rfl rfl (hts _ kt_164) (hts _ kt_175) (by decide +kernel) ⟨Nat.le_of_ble_eq_true rfl, Nat.le_of_ble_eq_true rfl⟩, (hts _ kt_176), (hts _ kt_177)⟩ ⟨fun a U g mk q => ⟨q.1, PTE.calling q.2⟩, pg_recv hK hP hL_h0 hF_15 (q := (RX9, TX9, 5)) rfl, fun U hU hWm => ⟨rfl, PTE.mk hU hWm hP hK hD hE hO hG (fun x hx => by rw [List.mem_singleton] at hx; subst hx; exact hX_q) hS hFc⟩⟩ rfl rfl hl.1 rfl (lv_room (Nat.le_of_ble_eq_true rfl)) dX9_isNameAt_11 ⟨by show _ + 0 ≤ 0; omega, by show _ + 0 ≤ 0; omega⟩) hS (fun q _ h => hFc q h) hFc (fun r_17 u t H1 locs ht hvm hw hB hz1 hk1 hS => ?_)
  obtain ⟨F_18, hB1⟩ := hB
  obtain ⟨hP, hD, hO, hR⟩ := QT.back hB1 ht hFc hR (fun q h => absurd h List.not_mem_nil)
  have hF_19 : F_18 h0 = .inr (9, [.ref tx, .ref y0, .ref y1, .ref y2, .int (nI z_10)]) := (hB1.2.2.2 h0 List.not_mem_nil).trans hF_15
  generalize H1 = H at hP hS ⊢
  have hw : (∃ k : Nat, k ≤ 10002 ∧ r_17 = nI k) := hw
  have hw_20 := hw
  have hFc := pg_free hD hS hA
  obtain ⟨hi_21, ht_22, hq_23⟩ := hW.bytes hi_1 ht_6
  obtain ⟨z_24, o_25, hF_26, hq_27, hq_28⟩ := hO.bytes hi_1 ht_6
  refine va_calli (va_runV (As := [.int r_13, .int r_17]) (rest := []) ⟨hx, hb, hml, hown, hts⟩ (s_X0_isName l dC dI cs ty L H.size F_18 tx (ρ + 1) r_5 n r_13 r_17 hW hi_1 ht_6) ⟨callB_of 2 hts (gi kt_108) rfl rfl rfl (hts _ kt_1) (hts _ kt_178) (by decide +kernel) ⟨Nat.le_of_ble_eq_true rfl, Nat.le_of_ble_eq_true rfl⟩, (hts _ kt_110), (hts _ kt_111)⟩ ⟨fun a U g mk q => ⟨q.1, PT.calling q.2⟩, pg_recv hK hP hi_1 hF_26 (q := (RX0, TX0, 3)) rfl, fun U hU hWm => ⟨rfl, PT.mk hU hWm hP hK hD hE hO⟩⟩ rfl rfl hl.1 rfl (lv_room (Nat.le_of_ble_eq_true rfl)) dX9_isNameAt_14 ⟨by show _ + 0 ≤ 0; omega, by show _ + 0 ≤ 0; omega⟩) hS (fun q _ h => hFc q h) hFc (fun r_29 u t H1 locs ht hvm hw hB hz1 hk1 hS => ?_)
  obtain ⟨F_30, hB1⟩ := hB
  obtain ⟨hP, hD, hO, hR⟩ := QT.back hB1 ht hFc hR (fun q h => absurd h List.not_mem_nil)
  have hF_31 : F_30 h0 = .inr (9, [.ref tx, .ref y0, .ref y1, .ref y2, .int (nI z_10)]) := (hB1.2.2.2 h0 List.not_mem_nil).trans hF_19
  have hF_32 : F_30 tx = .inr (0, [.ref r_5, .int (nI z_24), .int o_25]) := (hB1.2.2.2 tx List.not_mem_nil).trans hF_26
  generalize H1 = H at hP hS ⊢
  have hw : (r_29 = 0 ∨ r_29 = 1) := hw
  have hw_33 := hw
  refine W.widen (k := 0) (n := 0) (by omega) (by omega) ?_
  exact W.zret (v := r_29) (ty := .boolean) hx hb hr (bitN hw_33) (fun t ht hWm => ⟨⟨r_29, (), rfl, hw_33, ⟨F_30, QT.mk ht hP hD hO hR⟩⟩, hS.F ht⟩) hS.2.2 dX9_isNameAt_17
set_option maxHeartbeats 4000000 in
set_option maxRecDepth 100000 in
theorem s_X9_decode (l : Launch) (dC : Nat → ClassId) (dI : Nat → Nat → Nat) (cs : Nat → ClassId) (ty : TyM) (L : List Nat) (sz : Nat) (F : Nat → va_E) (h0 : Nat) (ρ : Nat) (tx : Nat) (n : Nat) (y0 : Nat) (y1 : Nat) (y2 : Nat) (q : Nat) (v : Nat) (k0 : Nat) (g1 : Nat) (σ : Nat) (r1 : Nat) (n1 : Nat) (x3 : Int32) (hW : WT ty L) (hL_h0 : h0 ∈ L) (hT_h0 : ty h0 = (9, ρ, [tx, n, y0, y1, y2])) (hL_g1 : g1 ∈ L) (hT_g1 : ty g1 = (0, σ, [r1, n1])) : Met l yX9_decode (.code yX9_decode cX9_decode 4 (some .boolean) :: tb) ({ frames := 7, cells := 0, slots := 0, locals := 153 }) (va_Pc [.ref h0, .ref q, .ref g1, .int x3] (PTE (dC, dI) cs ty L F sz [(q, v, k0)])) (va_Qi (fun (r : Int32) (_ : Unit) => (r = 0 ∨ r = 1)) (fun _ T9 => ∃ F2 : Nat → va_E, QT (dC, dI) cs ty L [σ] F F2 (va_A (va_pl L F) sz) T9) (va_A (va_pl L F) sz)) 0 0 (va_A (va_pl L F) sz) := by
  refine Met.ofW (cc := cX9_decode) (maxL := 4) (ret := (some .boolean)) (by decide) rfl ?_
  intro p e s m args below meth c s₁ B hml hv
  obtain ⟨rfl, ⟨hsz, hP, hK, hD0, hE, hO⟩, hG, hX⟩ := hv
  have hx := B.exec
  have hb := B.bytes
  have hr := B.returns
  have hts : ∀ w ∈ tb, w.before _ s = true := fun w h => atoms_spec (ws := .code yX9_decode cX9_decode 4 (some .boolean) :: tb) B.pre w (List.mem_cons_of_mem _ h)
  have hown : s.vm.findClass RX9 = some m.cls := findClass_of_methodNamed B.named
  have hlocks := B.notSynchronized
  subst hsz
  have hD := hD0.self (sz := s.heap.size)
  generalize hAe : va_A (va_pl L F) s.heap.size = A at hD hG hX ⊢
  have hX_q : SX q v k0 A s s.heap := hX (q, v, k0) (by simp)
  obtain ⟨xo_q, xc_q, xv_q, xf_q, xt_q, xn_q⟩ := id hX_q
  have hA : ∀ q : Nat, s.heap.size ≤ q → A q := fun q h => by rw [← hAe]; exact Or.inr h
  have hS : va_S A s.heap s.heap [] := va_S.rf
  have hR : FR ty [σ] F F := FR.refl
  have hl := lv_entry ([.ref h0, .ref q, .ref g1, .int x3]) (n := 4) (Nat.le_of_ble_eq_true rfl)
  rw [lg_entry_eq]
  generalize (lg_sl ([.ref h0, .ref q, .ref g1, .int x3]) ++ List.replicate (4 - (lg_sl ([.ref h0, .ref q, .ref g1, .int x3])).length) Slot.unset).toArray = ls at hl ⊢
  have hl : lv_has ls 4 [(0, .ref h0), (1, .ref q), (2, .ref g1), (3, .int x3)] := hl
  refine lv_aload_n hx hb dX9_decode_0 rfl (lv_at hl 2 rfl) ?_
  refine lv_aload_n hx hb dX9_decode_1 rfl (lv_at hl 0 rfl) ?_
  obtain ⟨hi_1, hi_2, hi_3, hi_4, ⟨r_5, ht_6⟩, ht_7, ht_8, ht_9⟩ := hW.tags hL_h0 hT_h0
  obtain ⟨z_10, hF_11, hq_12⟩ := hO.tags hL_h0 hT_h0
  refine pg_get (ci := 9) (v := .ref tx) (C := RX9) (T := TX9) (N := 5) hx hb hts it_9 hown hK hP hL_h0 hF_11 rfl 0 (by decide) (hts _ kt_159) (fun _ h9 => h9) rfl dX9_decode_2 ?_
  refine lv_aload_n hx hb dX9_decode_5 rfl (lv_at hl 0 rfl) ?_
  refine lv_aload_n hx hb dX9_decode_6 rfl (lv_at hl 1 rfl) ?_
  have hFc := pg_free hD hS hA
  refine va_calli (va_runV (As := [.ref q]) (rest := [.ref tx, .ref g1]) ⟨hx, hb, hml, hown, hts⟩ (s_X9_startOf l dC dI cs ty L s.heap.size F h0 ρ tx n y0 y1 y2 q v k0 hW hL_h0 hT_h0) ⟨callB_of 1 hts (gi kt_170) rfl rfl rfl (hts _ kt_164) (hts _ kt_171) (by decide +kernel) ⟨Nat.le_of_ble_eq_true rfl, Nat.le_of_ble_eq_true rfl⟩, (hts _ kt_172), (hts _ kt_173)⟩ ⟨fun a U g mk q => ⟨q.1, PTE.calling q.2⟩, pg_recv hK hP hL_h0 hF_11 (q := (RX9, TX9, 5)) rfl, fun U hU hWm => ⟨rfl, PTE.mk hU hWm hP hK hD hE hO hG (fun x hx => by rw [List.mem_singleton] at hx; subst hx; exact hX_q) hS hFc⟩⟩ rfl rfl hl.1 rfl (lv_room (Nat.le_of_ble_eq_true rfl)) dX9_decode_7 ⟨by show _ + 0 ≤ 0; omega, by show _ + 0 ≤ 0; omega⟩) hS (fun q _ h => hFc q h) hFc (fun r_13 u t H1 locs ht hvm hw hB hz1 hk1 hS => ?_)
  obtain ⟨F_14, hB1⟩ := hB
  obtain ⟨hP, hD, hO, hR⟩ := QT.back hB1 ht hFc hR (fun q h => absurd h List.not_mem_nil)
  have hF_15 : F_14 h0 = .inr (9, [.ref tx, .ref y0, .ref y1, .ref y2, .int (nI z_10)]) := (hB1.2.2.2 h0 List.not_mem_nil).trans hF_11
  generalize H1 = H at hP hS ⊢
  have hw : (∃ k : Nat, k ≤ 10002 ∧ r_13 = nI k) := hw
  have hw_16 := hw
  refine lv_aload_n hx hb dX9_decode_10 rfl (lv_at hl 0 rfl) ?_
  refine lv_aload_n hx hb dX9_decode_11 rfl (lv_at hl 1 rfl) ?_
  have hFc := pg_free hD hS hA
  refine va_calli (va_runV (As := [.ref q]) (rest := [.int r_13, .ref tx, .ref g1]) ⟨hx, hb, hml, hown, hts⟩ (s_X9_endOf l dC dI cs ty L H.size F_14 h0 ρ tx n y0 y1 y2 q v k0 hW hL_h0 hT_h0) ⟨callB_of 1 hts (gi kt_174) rfl rfl rfl (hts _ kt_164) (hts _ kt_175) (by decide +kernel) ⟨Nat.le_of_ble_eq_true rfl, Nat.le_of_ble_eq_true rfl⟩, (hts _ kt_176), (hts _ kt_177)⟩ ⟨fun a U g mk q => ⟨q.1, PTE.calling q.2⟩, pg_recv hK hP hL_h0 hF_15 (q := (RX9, TX9, 5)) rfl, fun U hU hWm => ⟨rfl, PTE.mk hU hWm hP hK hD hE hO hG (fun x hx => by rw [List.mem_singleton] at hx; subst hx; exact hX_q) hS hFc⟩⟩ rfl rfl hl.1 rfl (lv_room (Nat.le_of_ble_eq_true rfl)) dX9_decode_12 ⟨by show _ + 0 ≤ 0; omega, by show _ + 0 ≤ 0; omega⟩) hS (fun q _ h => hFc q h) hFc (fun r_17 u t H1 locs ht hvm hw hB hz1 hk1 hS => ?_)
  obtain ⟨F_18, hB1⟩ := hB
  obtain ⟨hP, hD, hO, hR⟩ := QT.back hB1 ht hFc hR (fun q h => absurd h List.not_mem_nil)
  have hF_19 : F_18 h0 = .inr (9, [.ref tx, .ref y0, .ref y1, .ref y2, .int (nI z_10)]) := (hB1.2.2.2 h0 List.not_mem_nil).trans hF_15
  generalize H1 = H at hP hS ⊢
  have hw : (∃ k : Nat, k ≤ 10002 ∧ r_17 = nI k) := hw
  have hw_20 := hw
  refine lv_iload_n hx hb dX9_decode_15 rfl (lv_at hl 3 rfl) ?_
  have hFc := pg_free hD hS hA
  obtain ⟨hi_21, ht_22, hq_23⟩ := hW.bytes hL_g1 hT_g1
  obtain ⟨z_24, o_25, hF_26, hq_27, hq_28⟩ := hO.bytes hL_g1 hT_g1
  refine va_calli (va_runV (As := [.ref tx, .int r_13, .int r_17, .int x3]) (rest := []) ⟨hx, hb, hml, hown, hts⟩ (s_X0_decode l dC dI cs ty L H.size F_18 g1 σ r1 n1 tx (ρ + 1) r_5 n r_13 r_17 x3 hW hL_g1 hT_g1 hi_1 ht_6) ⟨callB_of 4 hts (gi kt_179) rfl rfl rfl (hts _ kt_1) (hts _ kt_180) (by decide +kernel) ⟨Nat.le_of_ble_eq_true rfl, Nat.le_of_ble_eq_true rfl⟩, (hts _ kt_181), (hts _ kt_182)⟩ ⟨fun a U g mk q => ⟨q.1, PT.calling q.2⟩, pg_recv hK hP hL_g1 hF_26 (q := (RX0, TX0, 3)) rfl, fun U hU hWm => ⟨rfl, PT.mk hU hWm hP hK hD hE hO⟩⟩ rfl rfl hl.1 rfl (lv_room (Nat.le_of_ble_eq_true rfl)) dX9_decode_16 ⟨by show _ + 0 ≤ 0; omega, by show _ + 0 ≤ 0; omega⟩) hS (fun q _ h => hFc q h) hFc (fun r_29 u t H1 locs ht hvm hw hB hz1 hk1 hS => ?_)
  obtain ⟨F_30, hB1⟩ := hB
  obtain ⟨hP, hD, hO, hR⟩ := QT.back hB1 ht hFc hR (fun q h => by simp only [List.mem_cons, List.not_mem_nil, or_false] at h ⊢; omega)
  generalize H1 = H at hP hS ⊢
  have hw : (r_29 = 0 ∨ r_29 = 1) := hw
  have hw_31 := hw
  refine W.widen (k := 0) (n := 0) (by omega) (by omega) ?_
  exact W.zret (v := r_29) (ty := .boolean) hx hb hr (bitN hw_31) (fun t ht hWm => ⟨⟨r_29, (), rfl, hw_31, ⟨F_30, QT.mk ht hP hD hO hR⟩⟩, hS.F ht⟩) hS.2.2 dX9_decode_19
set_option maxHeartbeats 4000000 in
set_option maxRecDepth 100000 in
theorem s_X9_isKnown (l : Launch) (dC : Nat → ClassId) (dI : Nat → Nat → Nat) (cs : Nat → ClassId) (ty : TyM) (L : List Nat) (sz : Nat) (F : Nat → va_E) (h0 : Nat) (ρ : Nat) (tx : Nat) (n : Nat) (y0 : Nat) (y1 : Nat) (y2 : Nat) (x1 : Int32) (x2 : Int32) (hW : WT ty L) (hL_h0 : h0 ∈ L) (hT_h0 : ty h0 = (9, ρ, [tx, n, y0, y1, y2])) : Met l yX9_isKnown (.code yX9_isKnown cX9_isKnown 6 (some .boolean) :: tb) ({ frames := 1, cells := 0, slots := 0, locals := 21 }) (va_Pc [.ref h0, .int x1, .int x2] (PT (dC, dI) cs ty L F sz)) (va_Qi (fun (r : Int32) (_ : Unit) => (r = 0 ∨ r = 1)) (fun _ T9 => ∃ F2 : Nat → va_E, QT (dC, dI) cs ty L [] F F2 (va_A (va_pl L F) sz) T9) (va_A (va_pl L F) sz)) 0 0 (va_A (va_pl L F) sz) := by
  refine Met.ofW (cc := cX9_isKnown) (maxL := 6) (ret := (some .boolean)) (by decide) rfl ?_
  intro p e s m args below meth c s₁ B hml hv
  obtain ⟨rfl, hsz, hP, hK, hD0, hE, hO⟩ := hv
  have hx := B.exec
  have hb := B.bytes
  have hr := B.returns
  have hts : ∀ w ∈ tb, w.before _ s = true := fun w h => atoms_spec (ws := .code yX9_isKnown cX9_isKnown 6 (some .boolean) :: tb) B.pre w (List.mem_cons_of_mem _ h)
  have hown : s.vm.findClass RX9 = some m.cls := findClass_of_methodNamed B.named
  have hlocks := B.notSynchronized
  subst hsz
  have hD := hD0.self (sz := s.heap.size)
  generalize hAe : va_A (va_pl L F) s.heap.size = A at hD ⊢
  have hA : ∀ q : Nat, s.heap.size ≤ q → A q := fun q h => by rw [← hAe]; exact Or.inr h
  have hS : va_S A s.heap s.heap [] := va_S.rf
  have hR : FR ty [] F F := FR.refl
  have hl := lv_entry ([.ref h0, .int x1, .int x2]) (n := 6) (Nat.le_of_ble_eq_true rfl)
  rw [lg_entry_eq]
  generalize (lg_sl ([.ref h0, .int x1, .int x2]) ++ List.replicate (6 - (lg_sl ([.ref h0, .int x1, .int x2])).length) Slot.unset).toArray = ls at hl ⊢
  have hl : lv_has ls 6 [(0, .ref h0), (1, .int x1), (2, .int x2)] := hl
  refine lv_iconst (v := 0) hx hb dX9_isKnown_0 (by decide) ?_
  refine lv_istore_n (lv' := [(3, .int 0), (0, .ref h0), (1, .int x1), (2, .int x2)]) hx hb dX9_isKnown_1 rfl hl (by decide) rfl (fun ls hl => ?_)
  refine W.widen (k := 0) (n := 0) (by omega) (by omega) ?_
  refine pl_loop (σ := Nat) A (dC, dI) cs ty L [] F 2 6 (fun j => [(3, .int (nI j)), (0, .ref h0), (1, .int x1), (2, .int x2)]) (fun j => []) (fun j _ => j ≤ 40) (fun j => 40 - j) ?_ 0 F (by omega) hO hR _ _ hP hD hS ls (lv_sub hl [0, 1, 2, 3] rfl)
  rintro j F_1 hv_2 hO hR ih_3 H locs hP hD hS ls hl
  have hl : lv_has ls 6 [(3, .int (nI j)), (0, .ref h0), (1, .int x1), (2, .int x2)] := hl
  have hv_2 : j ≤ 40 := hv_2
  refine W.eq (g2 := F0 m 2 ls []) rfl ?_
  refine lv_iload_n hx hb dX9_isKnown_2 rfl (lv_at hl 0 rfl) ?_
  refine lv_aload_n hx hb dX9_isKnown_3 rfl (lv_at hl 1 rfl) ?_
  obtain ⟨hi_4, hi_5, hi_6, hi_7, ⟨r_8, ht_9⟩, ht_10, ht_11, ht_12⟩ := hW.tags hL_h0 hT_h0
  obtain ⟨z_13, hF_14, hq_15⟩ := hO.tags hL_h0 hT_h0
  refine pg_get (ci := 9) (v := .int (nI z_13)) (C := RX9) (T := TX9) (N := 5) hx hb hts it_9 hown hK hP hL_h0 hF_14 rfl 4 (by decide) (hts _ kt_158) (fun _ h9 => h9) rfl dX9_isKnown_4 ?_
  refine lv_icmp_ge (tgt := 108) hx hb dX9_isKnown_7 (by decide) (fun c_16 => ?_) (fun c_16 => ?_)
  ·
    have hi_17 : z_13 ≤ j := leN (N := z_13) c_16
    refine lv_iconst (v := 0) hx hb dX9_isKnown_108 (by decide) ?_
    refine W.widen (k := 0) (n := 0) (by omega) (by omega) ?_
    exact W.zret (v := 0) (ty := .boolean) hx hb hr (by decide) (fun t ht hWm => ⟨⟨0, (), rfl, (by first | exact Or.inl rfl | exact Or.inr rfl), ⟨F_1, QT.mk ht hP hD hO hR⟩⟩, hS.F ht⟩) hS.2.2 dX9_isKnown_109
  ·
    have hi_18 : j < z_13 := ltN (N := z_13) c_16
    have hjz : j < z_13 := ltI (by omega) c_16
    refine W.widen (k := 0) (n := 0) (by omega) (by omega) ?_
    refine pl_cut (σ := Int32) A (dC, dI) cs ty L [] F 34 6 (fun s0 => [(3, .int (nI j)), (0, .ref h0), (1, .int x1), (2, .int x2)]) (fun s0 => [.int s0]) (fun s0 _ => True) ?_ (fun jn_19 => ?_)
    ·
      rintro s0 F_20 hv_21 hO hR H locs hP hD hS ls hl
      have hl : lv_has ls 6 [(3, .int (nI j)), (0, .ref h0), (1, .int x1), (2, .int x2)] := hl
      have hv_21 : True := hv_21
      refine W.eq (g2 := F0 m 34 ls [.int s0]) rfl ?_
      refine lv_istore (lv' := [(4, .int s0), (3, .int (nI j)), (0, .ref h0), (1, .int x1), (2, .int x2)]) hx hb dX9_isKnown_34 hl (by decide) rfl (fun ls hl => ?_)
      refine lv_iconst (v := 0) hx hb dX9_isKnown_36 (by decide) ?_
      refine lv_istore (lv' := [(5, .int 0), (4, .int s0), (3, .int (nI j)), (0, .ref h0), (1, .int x1), (2, .int x2)]) hx hb dX9_isKnown_37 hl (by decide) rfl (fun ls hl => ?_)
      refine W.widen (k := 0) (n := 0) (by omega) (by omega) ?_
      refine pl_loop (σ := Int32 × Int32) A (dC, dI) cs ty L [] F 39 6 (fun (i1, w4) => [(5, .int i1), (4, .int w4), (3, .int (nI j)), (0, .ref h0), (1, .int x1), (2, .int x2)]) (fun (i1, w4) => []) (fun (i1, w4) _ => True) (fun (i1, w4) => ((x2 - x1).toInt - i1.toInt).toNat) ?_ (0, s0) F_20 (trivial) hO hR _ _ hP hD hS ls (lv_sub hl [0, 1, 2, 3, 4, 5] rfl)
      rintro ⟨i1, w4⟩ F_22 hv_23 hO hR ih_24 H locs hP hD hS ls hl
      have hl : lv_has ls 6 [(5, .int i1), (4, .int w4), (3, .int (nI j)), (0, .ref h0), (1, .int x1), (2, .int x2)] := hl
      have hv_23 : True := hv_23
      refine W.eq (g2 := F0 m 39 ls []) rfl ?_
      refine lv_iload hx hb dX9_isKnown_39 (lv_at hl 1 rfl) ?_
      refine lv_if_eq (tgt := 95) hx hb dX9_isKnown_41 (by decide) (fun c_25 => ?_) (fun c_25 => ?_)
      ·
        refine lv_iload hx hb dX9_isKnown_95 (lv_at hl 1 rfl) ?_
        refine lv_if_eq (tgt := 102) hx hb dX9_isKnown_97 (by decide) (fun c_26 => ?_) (fun c_26 => ?_)
        ·
          refine lv_iinc (v := (nI (j + 1))) (lv' := [(3, .int (nI (j + 1))), (5, .int i1), (4, .int w4), (0, .ref h0), (1, .int x1), (2, .int x2)]) hx hb dX9_isKnown_102 hl (k := 2) rfl (nI_1 _) (by decide) rfl (fun ls hl => ?_)
          refine lv_goto (tgt := 2) hx hb dX9_isKnown_105 (by decide) ?_
          refine W.widen (k := 0) (n := 0) (by omega) (by omega) ?_
          exact ih_3 (j + 1) F_22 (by first | omega | exact ⟨by omega, by omega⟩ | trivial) (by show 40 - (j + 1) < 40 - j; omega) hO hR _ _ hP hD hS ls (lv_sub hl [0, 3, 4, 5] rfl)
        ·
          refine lv_iconst (v := 1) hx hb dX9_isKnown_100 (by decide) ?_
          refine W.widen (k := 0) (n := 0) (by omega) (by omega) ?_
          exact W.zret (v := 1) (ty := .boolean) hx hb hr (by decide) (fun t ht hWm => ⟨⟨1, (), rfl, (by first | exact Or.inl rfl | exact Or.inr rfl), ⟨F_22, QT.mk ht hP hD hO hR⟩⟩, hS.F ht⟩) hS.2.2 dX9_isKnown_101
      ·
        refine lv_iload hx hb dX9_isKnown_44 (lv_at hl 0 rfl) ?_
        refine lv_iload_n hx hb dX9_isKnown_46 rfl (lv_at hl 5 rfl) ?_
        refine lv_iload_n hx hb dX9_isKnown_47 rfl (lv_at hl 4 rfl) ?_
        refine lv_isub hx hb dX9_isKnown_48 ?_
        refine lv_topi (fun x_27 ex_27 => ?_)
        obtain rfl : x_27 = (x2 - x1) := ex_27.trans (rfl)
        refine lv_icmp_ge (tgt := 95) hx hb dX9_isKnown_49 (by decide) (fun c_28 => ?_) (fun c_28 => ?_)
        ·
          refine lv_iload hx hb dX9_isKnown_95 (lv_at hl 1 rfl) ?_
          refine lv_if_eq (tgt := 102) hx hb dX9_isKnown_97 (by decide) (fun c_29 => ?_) (fun c_29 => ?_)
          ·
            refine lv_iinc (v := (nI (j + 1))) (lv' := [(3, .int (nI (j + 1))), (5, .int i1), (4, .int w4), (0, .ref h0), (1, .int x1), (2, .int x2)]) hx hb dX9_isKnown_102 hl (k := 2) rfl (nI_1 _) (by decide) rfl (fun ls hl => ?_)
            refine lv_goto (tgt := 2) hx hb dX9_isKnown_105 (by decide) ?_
            refine W.widen (k := 0) (n := 0) (by omega) (by omega) ?_
            exact ih_3 (j + 1) F_22 (by first | omega | exact ⟨by omega, by omega⟩ | trivial) (by show 40 - (j + 1) < 40 - j; omega) hO hR _ _ hP hD hS ls (lv_sub hl [0, 3, 4, 5] rfl)
          ·
            refine lv_iconst (v := 1) hx hb dX9_isKnown_100 (by decide) ?_
            refine W.widen (k := 0) (n := 0) (by omega) (by omega) ?_
            exact W.zret (v := 1) (ty := .boolean) hx hb hr (by decide) (fun t ht hWm => ⟨⟨1, (), rfl, (by first | exact Or.inl rfl | exact Or.inr rfl), ⟨F_22, QT.mk ht hP hD hO hR⟩⟩, hS.F ht⟩) hS.2.2 dX9_isKnown_101
        ·
          refine lv_aload_n hx hb dX9_isKnown_52 rfl (lv_at hl 3 rfl) ?_
          obtain ⟨z_30, hF_31, hq_32⟩ := hO.tags hL_h0 hT_h0
          refine pg_get (ci := 9) (v := .ref tx) (C := RX9) (T := TX9) (N := 5) hx hb hts it_9 hown hK hP hL_h0 hF_31 rfl 0 (by decide) (hts _ kt_159) (fun _ h9 => h9) rfl dX9_isKnown_53 ?_
          refine lv_aload_n hx hb dX9_isKnown_56 rfl (lv_at hl 3 rfl) ?_
          refine pg_get (ci := 9) (v := .ref y0) (C := RX9) (T := TX9) (N := 5) hx hb hts it_9 hown hK hP hL_h0 hF_31 rfl 1 (by decide) (hts _ kt_160) (fun _ h9 => h9) rfl dX9_isKnown_57 ?_
          refine lv_iload_n hx hb dX9_isKnown_60 rfl (lv_at hl 2 rfl) ?_
          obtain ⟨f_33, hF_34, hq_35⟩ := hO.idx hi_5 ht_10
          refine pg_iald hx hb hK hP hi_5 0 hF_34 rfl (vp_in_nI (by omega) (by omega)) dX9_isKnown_61 ?_
          obtain ⟨k_36, hk_37, ek_38⟩ := hq_35 ((nI j) : Int32).toNatClampNeg
          refine lv_topi (fun x_39 ex_39 => ?_)
          obtain rfl : x_39 = nI k_36 := ex_39.trans ek_38
          refine lv_iload hx hb dX9_isKnown_62 (lv_at hl 0 rfl) ?_
          refine lv_iadd hx hb dX9_isKnown_64 ?_
          refine lv_topi (fun x_40 _ => ?_)
          have hFc := pg_free hD hS hA
          obtain ⟨hi_41, ht_42, hq_43⟩ := hW.bytes hi_4 ht_9
          obtain ⟨z_44, o_45, hF_46, hq_47, hq_48⟩ := hO.bytes hi_4 ht_9
          refine va_calli (va_runV (As := [.int x_40]) (rest := []) ⟨hx, hb, hml, hown, hts⟩ (s_X0_at l dC dI cs ty L H.size F_22 tx (ρ + 1) r_8 n x_40 hW hi_4 ht_9) ⟨callB_of 1 hts (gi kt_21) rfl rfl rfl (hts _ kt_1) (hts _ kt_183) (by decide +kernel) ⟨Nat.le_of_ble_eq_true rfl, Nat.le_of_ble_eq_true rfl⟩, (hts _ kt_23), (hts _ kt_24)⟩ ⟨fun a U g mk q => ⟨q.1, PT.calling q.2⟩, pg_recv hK hP hi_4 hF_46 (q := (RX0, TX0, 3)) rfl, fun U hU hWm => ⟨rfl, PT.mk hU hWm hP hK hD hE hO⟩⟩ rfl rfl hl.1 rfl (lv_room (Nat.le_of_ble_eq_true rfl)) dX9_isKnown_65 ⟨by show _ + 0 ≤ 0; omega, by show _ + 0 ≤ 0; omega⟩) hS (fun q _ h => hFc q h) hFc (fun r_49 u t H1 locs ht hvm hw hB hz1 hk1 hS => ?_)
          obtain ⟨F_50, hB1⟩ := hB
          obtain ⟨hP, hD, hO, hR⟩ := QT.back hB1 ht hFc hR (fun q h => absurd h List.not_mem_nil)
          have hF_51 : F_50 h0 = .inr (9, [.ref tx, .ref y0, .ref y1, .ref y2, .int (nI z_30)]) := (hB1.2.2.2 h0 List.not_mem_nil).trans hF_31
          have hF_52 : F_50 y0 = .inl (cs 16, 40, .inl f_33) := (hB1.2.2.2 y0 List.not_mem_nil).trans hF_34
          have hF_53 : F_50 tx = .inr (0, [.ref r_8, .int (nI z_44), .int o_45]) := (hB1.2.2.2 tx List.not_mem_nil).trans hF_46
          generalize H1 = H at hP hS ⊢
          have hw : True := hw
          have hw_54 := hw
          refine lv_aload_n hx hb dX9_isKnown_68 rfl (lv_at hl 3 rfl) ?_
          refine pg_get (ci := 9) (v := .ref tx) (C := RX9) (T := TX9) (N := 5) hx hb hts it_9 hown hK hP hL_h0 hF_51 rfl 0 (by decide) (hts _ kt_159) (fun _ h9 => h9) rfl dX9_isKnown_69 ?_
          refine lv_iload_n hx hb dX9_isKnown_72 rfl (lv_at hl 4 rfl) ?_
          refine lv_iload hx hb dX9_isKnown_73 (lv_at hl 0 rfl) ?_
          refine lv_iadd hx hb dX9_isKnown_75 ?_
          refine lv_topi (fun x_55 _ => ?_)
          have hFc := pg_free hD hS hA
          refine va_calli (va_runV (As := [.int x_55]) (rest := [.int r_49]) ⟨hx, hb, hml, hown, hts⟩ (s_X0_at l dC dI cs ty L H.size F_50 tx (ρ + 1) r_8 n x_55 hW hi_4 ht_9) ⟨callB_of 1 hts (gi kt_21) rfl rfl rfl (hts _ kt_1) (hts _ kt_183) (by decide +kernel) ⟨Nat.le_of_ble_eq_true rfl, Nat.le_of_ble_eq_true rfl⟩, (hts _ kt_23), (hts _ kt_24)⟩ ⟨fun a U g mk q => ⟨q.1, PT.calling q.2⟩, pg_recv hK hP hi_4 hF_53 (q := (RX0, TX0, 3)) rfl, fun U hU hWm => ⟨rfl, PT.mk hU hWm hP hK hD hE hO⟩⟩ rfl rfl hl.1 rfl (lv_room (Nat.le_of_ble_eq_true rfl)) dX9_isKnown_76 ⟨by show _ + 0 ≤ 0; omega, by show _ + 0 ≤ 0; omega⟩) hS (fun q _ h => hFc q h) hFc (fun r_56 u t H1 locs ht hvm hw hB hz1 hk1 hS => ?_)
          obtain ⟨F_57, hB1⟩ := hB
          obtain ⟨hP, hD, hO, hR⟩ := QT.back hB1 ht hFc hR (fun q h => absurd h List.not_mem_nil)
          have hF_58 : F_57 h0 = .inr (9, [.ref tx, .ref y0, .ref y1, .ref y2, .int (nI z_30)]) := (hB1.2.2.2 h0 List.not_mem_nil).trans hF_51
          have hF_59 : F_57 y0 = .inl (cs 16, 40, .inl f_33) := (hB1.2.2.2 y0 List.not_mem_nil).trans hF_52
          have hF_60 : F_57 tx = .inr (0, [.ref r_8, .int (nI z_44), .int o_45]) := (hB1.2.2.2 tx List.not_mem_nil).trans hF_53
          generalize H1 = H at hP hS ⊢
          have hw : True := hw
          have hw_61 := hw
          refine lv_icmp_ne (tgt := 86) hx hb dX9_isKnown_79 (by decide) (fun c_62 => ?_) (fun c_62 => ?_)
          ·
            refine lv_iconst (v := 0) hx hb dX9_isKnown_86 (by decide) ?_
            refine lv_istore (lv' := [(4, .int 0), (5, .int i1), (3, .int (nI j)), (0, .ref h0), (1, .int x1), (2, .int x2)]) hx hb dX9_isKnown_87 hl (by decide) rfl (fun ls hl => ?_)
            obtain ⟨x_63, ex_63⟩ : ∃ y : Int32, y = i1 + Int32.ofInt 1 := ⟨_, rfl⟩
            refine lv_iinc (v := x_63) (lv' := [(5, .int x_63), (4, .int 0), (3, .int (nI j)), (0, .ref h0), (1, .int x1), (2, .int x2)]) hx hb dX9_isKnown_89 hl (k := 1) rfl (ex_63.symm) (by decide) rfl (fun ls hl => ?_)
            refine lv_goto (tgt := 39) hx hb dX9_isKnown_92 (by decide) ?_
            refine W.widen (k := 0) (n := 0) (by omega) (by omega) ?_
            exact ih_24 (x_63, 0) F_57 (trivial) (by show ((x2 - x1).toInt - x_63.toInt).toNat < ((x2 - x1).toInt - i1.toInt).toNat; exact incN ex_63 c_28) hO hR _ _ hP hD hS ls (lv_sub hl [0, 1, 2, 3, 4, 5] rfl)
          ·
            refine lv_iconst (v := 1) hx hb dX9_isKnown_82 (by decide) ?_
            refine lv_goto (tgt := 87) hx hb dX9_isKnown_83 (by decide) ?_
            refine lv_istore (lv' := [(4, .int 1), (5, .int i1), (3, .int (nI j)), (0, .ref h0), (1, .int x1), (2, .int x2)]) hx hb dX9_isKnown_87 hl (by decide) rfl (fun ls hl => ?_)
            obtain ⟨x_64, ex_64⟩ : ∃ y : Int32, y = i1 + Int32.ofInt 1 := ⟨_, rfl⟩
            refine lv_iinc (v := x_64) (lv' := [(5, .int x_64), (4, .int 1), (3, .int (nI j)), (0, .ref h0), (1, .int x1), (2, .int x2)]) hx hb dX9_isKnown_89 hl (k := 1) rfl (ex_64.symm) (by decide) rfl (fun ls hl => ?_)
            refine lv_goto (tgt := 39) hx hb dX9_isKnown_92 (by decide) ?_
            refine W.widen (k := 0) (n := 0) (by omega) (by omega) ?_
            exact ih_24 (x_64, 1) F_57 (trivial) (by show ((x2 - x1).toInt - x_64.toInt).toNat < ((x2 - x1).toInt - i1.toInt).toNat; exact incN ex_64 c_28) hO hR _ _ hP hD hS ls (lv_sub hl [0, 1, 2, 3, 4, 5] rfl)
    ·
      refine lv_aload_n hx hb dX9_isKnown_10 rfl (lv_at hl 1 rfl) ?_
      refine pg_get (ci := 9) (v := .ref y1) (C := RX9) (T := TX9) (N := 5) hx hb hts it_9 hown hK hP hL_h0 hF_14 rfl 2 (by decide) (hts _ kt_161) (fun _ h9 => h9) rfl dX9_isKnown_11 ?_
      refine lv_iload_n hx hb dX9_isKnown_14 rfl (lv_at hl 0 rfl) ?_
      obtain ⟨f_65, hF_66, hq_67⟩ := hO.idx hi_6 ht_11
      refine pg_iald hx hb hK hP hi_6 0 hF_66 rfl (vp_in_nI (by omega) (by omega)) dX9_isKnown_15 ?_
      obtain ⟨k_68, hk_69, ek_70⟩ := hq_67 ((nI j) : Int32).toNatClampNeg
      refine lv_topi (fun x_71 ex_71 => ?_)
      obtain rfl : x_71 = nI k_68 := ex_71.trans ek_70
      refine lv_aload_n hx hb dX9_isKnown_16 rfl (lv_at hl 1 rfl) ?_
      refine pg_get (ci := 9) (v := .ref y0) (C := RX9) (T := TX9) (N := 5) hx hb hts it_9 hown hK hP hL_h0 hF_14 rfl 1 (by decide) (hts _ kt_160) (fun _ h9 => h9) rfl dX9_isKnown_17 ?_
      refine lv_iload_n hx hb dX9_isKnown_20 rfl (lv_at hl 0 rfl) ?_
      obtain ⟨f_72, hF_73, hq_74⟩ := hO.idx hi_5 ht_10
      refine pg_iald hx hb hK hP hi_5 0 hF_73 rfl (vp_in_nI (by omega) (by omega)) dX9_isKnown_21 ?_
      obtain ⟨k_75, hk_76, ek_77⟩ := hq_74 ((nI j) : Int32).toNatClampNeg
      refine lv_topi (fun x_78 ex_78 => ?_)
      obtain rfl : x_78 = nI k_75 := ex_78.trans ek_77
      refine lv_isub hx hb dX9_isKnown_22 ?_
      refine lv_topi (fun x_79 _ => ?_)
      refine lv_iload_n hx hb dX9_isKnown_23 rfl (lv_at hl 3 rfl) ?_
      refine lv_iload_n hx hb dX9_isKnown_24 rfl (lv_at hl 2 rfl) ?_
      refine lv_isub hx hb dX9_isKnown_25 ?_
      refine lv_topi (fun x_80 _ => ?_)
      refine lv_icmp_ne (tgt := 33) hx hb dX9_isKnown_26 (by decide) (fun c_81 => ?_) (fun c_81 => ?_)
      ·
        refine lv_iconst (v := 0) hx hb dX9_isKnown_33 (by decide) ?_
        refine W.widen (k := 0) (n := 0) (by omega) (by omega) ?_
        exact jn_19 0 F_1 (trivial) hO hR _ _ hP hD hS ls (lv_sub hl [0, 1, 2, 3] rfl)
      ·
        refine lv_iconst (v := 1) hx hb dX9_isKnown_29 (by decide) ?_
        refine lv_goto (tgt := 34) hx hb dX9_isKnown_30 (by decide) ?_
        refine W.widen (k := 0) (n := 0) (by omega) (by omega) ?_
        exact jn_19 1 F_1 (trivial) hO hR _ _ hP hD hS ls (lv_sub hl [0, 1, 2, 3] rfl)
set_option maxHeartbeats 4000000 in
set_option maxRecDepth 100000 in
theorem s_X9_take (l : Launch) (dC : Nat → ClassId) (dI : Nat → Nat → Nat) (cs : Nat → ClassId) (ty : TyM) (L : List Nat) (sz : Nat) (F : Nat → va_E) (h0 : Nat) (ρ : Nat) (tx : Nat) (n : Nat) (y0 : Nat) (y1 : Nat) (y2 : Nat) (a1 : Nat) (b1 : Nat) (hW : WT ty L) (hL_h0 : h0 ∈ L) (hT_h0 : ty h0 = (9, ρ, [tx, n, y0, y1, y2])) (ha1 : a1 ≤ 10000) (hb1 : b1 ≤ 10000) : Met l yX9_take (.code yX9_take cX9_take 5 (some .boolean) :: tb) ({ frames := 2, cells := 0, slots := 0, locals := 46 }) (va_Pc [.ref h0, .int (nI a1), .int (nI b1)] (PT (dC, dI) cs ty L F sz)) (va_Qi (fun (r : Int32) (_ : Unit) => (r = 0 ∨ r = 1)) (fun _ T9 => ∃ F2 : Nat → va_E, QT (dC, dI) cs ty L [ρ, ρ + 70, ρ + 71] F F2 (va_A (va_pl L F) sz) T9) (va_A (va_pl L F) sz)) 0 0 (va_A (va_pl L F) sz) := by
  refine Met.ofW (cc := cX9_take) (maxL := 5) (ret := (some .boolean)) (by decide) rfl ?_
  intro p e s m args below meth c s₁ B hml hv
  obtain ⟨rfl, hsz, hP, hK, hD0, hE, hO⟩ := hv
  have hx := B.exec
  have hb := B.bytes
  have hr := B.returns
  have hts : ∀ w ∈ tb, w.before _ s = true := fun w h => atoms_spec (ws := .code yX9_take cX9_take 5 (some .boolean) :: tb) B.pre w (List.mem_cons_of_mem _ h)
  have hown : s.vm.findClass RX9 = some m.cls := findClass_of_methodNamed B.named
  have hlocks := B.notSynchronized
  subst hsz
  have hD := hD0.self (sz := s.heap.size)
  generalize hAe : va_A (va_pl L F) s.heap.size = A at hD ⊢
  have hA : ∀ q : Nat, s.heap.size ≤ q → A q := fun q h => by rw [← hAe]; exact Or.inr h
  have hS : va_S A s.heap s.heap [] := va_S.rf
  have hR : FR ty [ρ, ρ + 70, ρ + 71] F F := FR.refl
  have hl := lv_entry ([.ref h0, .int (nI a1), .int (nI b1)]) (n := 5) (Nat.le_of_ble_eq_true rfl)
  rw [lg_entry_eq]
  generalize (lg_sl ([.ref h0, .int (nI a1), .int (nI b1)]) ++ List.replicate (5 - (lg_sl ([.ref h0, .int (nI a1), .int (nI b1)])).length) Slot.unset).toArray = ls at hl ⊢
  have hl : lv_has ls 5 [(0, .ref h0), (1, .int (nI a1)), (2, .int (nI b1))] := hl
  refine lv_aload_n hx hb dX9_take_0 rfl (lv_at hl 0 rfl) ?_
  obtain ⟨hi_1, hi_2, hi_3, hi_4, ⟨r_5, ht_6⟩, ht_7, ht_8, ht_9⟩ := hW.tags hL_h0 hT_h0
  obtain ⟨z_10, hF_11, hq_12⟩ := hO.tags hL_h0 hT_h0
  refine pg_get (ci := 9) (v := .ref tx) (C := RX9) (T := TX9) (N := 5) hx hb hts it_9 hown hK hP hL_h0 hF_11 rfl 0 (by decide) (hts _ kt_159) (fun _ h9 => h9) rfl dX9_take_1 ?_
  refine lv_bipush (v := 61) hx hb dX9_take_4 (by decide) ?_
  refine lv_iload_n hx hb dX9_take_6 rfl (lv_at hl 1 rfl) ?_
  refine lv_iload_n hx hb dX9_take_7 rfl (lv_at hl 2 rfl) ?_
  have hFc := pg_free hD hS hA
  obtain ⟨hi_13, ht_14, hq_15⟩ := hW.bytes hi_1 ht_6
  obtain ⟨z_16, o_17, hF_18, hq_19, hq_20⟩ := hO.bytes hi_1 ht_6
  refine va_calli (va_runV (As := [.int 61, .int (nI a1), .int (nI b1)]) (rest := []) ⟨hx, hb, hml, hown, hts⟩ (s_X0_find l dC dI cs ty L s.heap.size F tx (ρ + 1) r_5 n 61 (nI a1) (nI b1) hW hi_1 ht_6) ⟨callB_of 3 hts (gi kt_122) rfl rfl rfl (hts _ kt_1) (hts _ kt_184) (by decide +kernel) ⟨Nat.le_of_ble_eq_true rfl, Nat.le_of_ble_eq_true rfl⟩, (hts _ kt_124), (hts _ kt_125)⟩ ⟨fun a U g mk q => ⟨q.1, PT.calling q.2⟩, pg_recv hK hP hi_1 hF_18 (q := (RX0, TX0, 3)) rfl, fun U hU hWm => ⟨rfl, PT.mk hU hWm hP hK hD hE hO⟩⟩ rfl rfl hl.1 rfl (lv_room (Nat.le_of_ble_eq_true rfl)) dX9_take_8 ⟨by show _ + 0 ≤ 0; omega, by show _ + 0 ≤ 0; omega⟩) hS (fun q _ h => hFc q h) hFc (fun r_21 u t H1 locs ht hvm hw hB hz1 hk1 hS => ?_)
  obtain ⟨F_22, hB1⟩ := hB
  obtain ⟨hP, hD, hO, hR⟩ := QT.back hB1 ht hFc hR (fun q h => absurd h List.not_mem_nil)
  have hF_23 : F_22 h0 = .inr (9, [.ref tx, .ref y0, .ref y1, .ref y2, .int (nI z_10)]) := (hB1.2.2.2 h0 List.not_mem_nil).trans hF_11
  have hF_24 : F_22 tx = .inr (0, [.ref r_5, .int (nI z_16), .int o_17]) := (hB1.2.2.2 tx List.not_mem_nil).trans hF_18
  generalize H1 = H at hP hS ⊢
  have hw : (r_21 = (nI b1) ∨ ∃ j : Nat, j < n ∧ r_21 = nI j) := hw
  have hw_25 := hw
  obtain ⟨t_26, ht_26, et_26⟩ := fnd hw_25 hb1 (by omega)
  subst et_26
  refine lv_istore_n (lv' := [(3, .int (nI t_26)), (0, .ref h0), (1, .int (nI a1)), (2, .int (nI b1))]) hx hb dX9_take_11 rfl hl (by decide) rfl (fun ls hl => ?_)
  refine lv_aload_n hx hb dX9_take_12 rfl (lv_at hl 1 rfl) ?_
  refine pg_get (ci := 9) (v := .int (nI z_10)) (C := RX9) (T := TX9) (N := 5) hx hb hts it_9 hown hK hP hL_h0 hF_23 rfl 4 (by decide) (hts _ kt_158) (fun _ h9 => h9) rfl dX9_take_13 ?_
  refine lv_bipush (v := 40) hx hb dX9_take_16 (by decide) ?_
  refine lv_icmp_eq (tgt := 41) hx hb dX9_take_18 (by decide) (fun c_27 => ?_) (fun c_27 => ?_)
  ·
    refine lv_iconst (v := 0) hx hb dX9_take_41 (by decide) ?_
    refine W.widen (k := 0) (n := 0) (by omega) (by omega) ?_
    exact W.zret (v := 0) (ty := .boolean) hx hb hr (by decide) (fun t ht hWm => ⟨⟨0, (), rfl, (by first | exact Or.inl rfl | exact Or.inr rfl), ⟨F_22, QT.mk ht hP hD hO hR⟩⟩, hS.F ht⟩) hS.2.2 dX9_take_42
  ·
    have hc40 : z_10 ≠ 40 := fun h => c_27 (by rw [h]; rfl)
    refine lv_iload_n hx hb dX9_take_21 rfl (lv_at hl 0 rfl) ?_
    refine lv_iload_n hx hb dX9_take_22 rfl (lv_at hl 3 rfl) ?_
    refine lv_icmp_eq (tgt := 41) hx hb dX9_take_23 (by decide) (fun c_30 => ?_) (fun c_30 => ?_)
    ·
      refine lv_iconst (v := 0) hx hb dX9_take_41 (by decide) ?_
      refine W.widen (k := 0) (n := 0) (by omega) (by omega) ?_
      exact W.zret (v := 0) (ty := .boolean) hx hb hr (by decide) (fun t ht hWm => ⟨⟨0, (), rfl, (by first | exact Or.inl rfl | exact Or.inr rfl), ⟨F_22, QT.mk ht hP hD hO hR⟩⟩, hS.F ht⟩) hS.2.2 dX9_take_42
    ·
      refine lv_iload_n hx hb dX9_take_26 rfl (lv_at hl 0 rfl) ?_
      refine lv_iload_n hx hb dX9_take_27 rfl (lv_at hl 2 rfl) ?_
      refine lv_isub hx hb dX9_take_28 ?_
      refine lv_topi (fun x_33 _ => ?_)
      refine lv_iconst (v := 1) hx hb dX9_take_29 (by decide) ?_
      refine lv_icmp_lt (tgt := 41) hx hb dX9_take_30 (by decide) (fun c_34 => ?_) (fun c_34 => ?_)
      ·
        refine lv_iconst (v := 0) hx hb dX9_take_41 (by decide) ?_
        refine W.widen (k := 0) (n := 0) (by omega) (by omega) ?_
        exact W.zret (v := 0) (ty := .boolean) hx hb hr (by decide) (fun t ht hWm => ⟨⟨0, (), rfl, (by first | exact Or.inl rfl | exact Or.inr rfl), ⟨F_22, QT.mk ht hP hD hO hR⟩⟩, hS.F ht⟩) hS.2.2 dX9_take_42
      ·
        refine lv_iload_n hx hb dX9_take_33 rfl (lv_at hl 0 rfl) ?_
        refine lv_iload_n hx hb dX9_take_34 rfl (lv_at hl 2 rfl) ?_
        refine lv_isub hx hb dX9_take_35 ?_
        refine lv_topi (fun x_35 _ => ?_)
        refine lv_bipush (v := 8) hx hb dX9_take_36 (by decide) ?_
        refine lv_icmp_le (tgt := 43) hx hb dX9_take_38 (by decide) (fun c_36 => ?_) (fun c_36 => ?_)
        ·
          refine lv_iload_n hx hb dX9_take_43 rfl (lv_at hl 2 rfl) ?_
          refine lv_istore (lv' := [(4, .int (nI a1)), (3, .int (nI t_26)), (0, .ref h0), (1, .int (nI a1)), (2, .int (nI b1))]) hx hb dX9_take_44 hl (by decide) rfl (fun ls hl => ?_)
          refine W.widen (k := 0) (n := 0) (by omega) (by omega) ?_
          refine pl_loop (σ := Int32) A (dC, dI) cs ty L [ρ, ρ + 70, ρ + 71] F 46 5 (fun i1 => [(4, .int i1), (3, .int (nI t_26)), (0, .ref h0), (1, .int (nI a1)), (2, .int (nI b1))]) (fun i1 => []) (fun i1 FF => FF h0 = .inr (9, [.ref tx, .ref y0, .ref y1, .ref y2, .int (nI z_10)])) (fun i1 => ((nI t_26).toInt - i1.toInt).toNat) ?_ (nI a1) F_22 (hF_23) hO hR _ _ hP hD hS ls (lv_sub hl [0, 1, 2, 3, 4] rfl)
          rintro i1 F_37 hv_38 hO hR ih_39 H locs hP hD hS ls hl
          have hl : lv_has ls 5 [(4, .int i1), (3, .int (nI t_26)), (0, .ref h0), (1, .int (nI a1)), (2, .int (nI b1))] := hl
          have hv_38 : F_37 h0 = .inr (9, [.ref tx, .ref y0, .ref y1, .ref y2, .int (nI z_10)]) := hv_38
          refine W.eq (g2 := F0 m 46 ls []) rfl ?_
          refine lv_iload hx hb dX9_take_46 (lv_at hl 0 rfl) ?_
          refine lv_iload_n hx hb dX9_take_48 rfl (lv_at hl 1 rfl) ?_
          refine lv_icmp_ge (tgt := 75) hx hb dX9_take_49 (by decide) (fun c_40 => ?_) (fun c_40 => ?_)
          ·
            refine lv_aload_n hx hb dX9_take_75 rfl (lv_at hl 2 rfl) ?_
            refine lv_iload_n hx hb dX9_take_76 rfl (lv_at hl 3 rfl) ?_
            refine lv_iload_n hx hb dX9_take_77 rfl (lv_at hl 1 rfl) ?_
            have hFc := pg_free hD hS hA
            refine va_calli (va_runV (As := [.int (nI a1), .int (nI t_26)]) (rest := []) ⟨hx, hb, hml, hown, hts⟩ (s_X9_isKnown l dC dI cs ty L H.size F_37 h0 ρ tx n y0 y1 y2 (nI a1) (nI t_26) hW hL_h0 hT_h0) ⟨callB_of 2 hts (gi kt_185) rfl rfl rfl (hts _ kt_164) (hts _ kt_186) (by decide +kernel) ⟨Nat.le_of_ble_eq_true rfl, Nat.le_of_ble_eq_true rfl⟩, (hts _ kt_187), (hts _ kt_188)⟩ ⟨fun a U g mk q => ⟨q.1, PT.calling q.2⟩, pg_recv hK hP hL_h0 hv_38 (q := (RX9, TX9, 5)) rfl, fun U hU hWm => ⟨rfl, PT.mk hU hWm hP hK hD hE hO⟩⟩ rfl rfl hl.1 rfl (lv_room (Nat.le_of_ble_eq_true rfl)) dX9_take_78 ⟨by show _ + 0 ≤ 0; omega, by show _ + 0 ≤ 0; omega⟩) hS (fun q _ h => hFc q h) hFc (fun r_41 u t H1 locs ht hvm hw hB hz1 hk1 hS => ?_)
            obtain ⟨F_42, hB1⟩ := hB
            obtain ⟨hP, hD, hO, hR⟩ := QT.back hB1 ht hFc hR (fun q h => absurd h List.not_mem_nil)
            have hF_43 : F_42 h0 = .inr (9, [.ref tx, .ref y0, .ref y1, .ref y2, .int (nI z_10)]) := (hB1.2.2.2 h0 List.not_mem_nil).trans hv_38
            generalize H1 = H at hP hS ⊢
            have hw : (r_41 = 0 ∨ r_41 = 1) := hw
            have hw_44 := hw
            refine lv_if_eq (tgt := 86) hx hb dX9_take_81 (by decide) (fun c_45 => ?_) (fun c_45 => ?_)
            ·
              refine lv_aload_n hx hb dX9_take_86 rfl (lv_at hl 2 rfl) ?_
              refine pg_get (ci := 9) (v := .ref y0) (C := RX9) (T := TX9) (N := 5) hx hb hts it_9 hown hK hP hL_h0 hF_43 rfl 1 (by decide) (hts _ kt_160) (fun _ h9 => h9) rfl dX9_take_87 ?_
              refine lv_aload_n hx hb dX9_take_90 rfl (lv_at hl 2 rfl) ?_
              refine pg_get (ci := 9) (v := .int (nI z_10)) (C := RX9) (T := TX9) (N := 5) hx hb hts it_9 hown hK hP hL_h0 hF_43 rfl 4 (by decide) (hts _ kt_158) (fun _ h9 => h9) rfl dX9_take_91 ?_
              refine lv_iload_n hx hb dX9_take_94 rfl (lv_at hl 3 rfl) ?_
              obtain ⟨f_46, hF_47, hq_48⟩ := hO.idx hi_2 ht_7
              refine pg_iast hx hb hK hP hD hS hi_2 0 hF_47 rfl (vp_in_nI (by omega) (by omega)) dX9_take_95 (fun H locs hP hD hS => ?_)
              obtain ⟨F_49, he_50, hP, hD, hO, hR⟩ : ∃ G, G = va_up F_42 y0 (.inl (cs 16, 40, .inl (upd f_46 ((nI z_10)).toNatClampNeg ((nI a1))))) ∧ va_P (dC, dI) vwCl (va_pl L G) H ∧ va_D A (va_pl L G) ∧ OK cs ty L G ∧ FR ty [ρ, ρ + 70, ρ + 71] F G := ⟨_, rfl, hP, hD, hO.up (sh.idx ht_7 ⟨_, rfl, ix_upd hq_48 _ _ (by omega)⟩), hR.up ht_7 (by simp)⟩
              have hF_51 : F_49 y0 = .inl (cs 16, 40, .inl (upd f_46 ((nI z_10)).toNatClampNeg ((nI a1)))) := by rw [he_50]; exact up_self
              have hF_52 : F_49 h0 = .inr (9, [.ref tx, .ref y0, .ref y1, .ref y2, .int (nI z_10)]) := by rw [he_50, up_ne (ne_ty hT_h0 ht_7 (by simp))]; exact hF_43
              obtain ⟨f_53, hF_51, hq_54⟩ : ∃ f : Nat → Int32, F_49 y0 = .inl (cs 16, 40, .inl f) ∧ IX f := ⟨_, hF_51, ix_upd hq_48 _ _ (by omega)⟩
              refine lv_aload_n hx hb dX9_take_96 rfl (lv_at hl 2 rfl) ?_
              refine pg_get (ci := 9) (v := .ref y1) (C := RX9) (T := TX9) (N := 5) hx hb hts it_9 hown hK hP hL_h0 hF_52 rfl 2 (by decide) (hts _ kt_161) (fun _ h9 => h9) rfl dX9_take_97 ?_
              refine lv_aload_n hx hb dX9_take_100 rfl (lv_at hl 2 rfl) ?_
              refine pg_get (ci := 9) (v := .int (nI z_10)) (C := RX9) (T := TX9) (N := 5) hx hb hts it_9 hown hK hP hL_h0 hF_52 rfl 4 (by decide) (hts _ kt_158) (fun _ h9 => h9) rfl dX9_take_101 ?_
              refine lv_iload_n hx hb dX9_take_104 rfl (lv_at hl 1 rfl) ?_
              obtain ⟨f_55, hF_56, hq_57⟩ := hO.idx hi_3 ht_8
              refine pg_iast hx hb hK hP hD hS hi_3 0 hF_56 rfl (vp_in_nI (by omega) (by omega)) dX9_take_105 (fun H locs hP hD hS => ?_)
              obtain ⟨F_58, he_59, hP, hD, hO, hR⟩ : ∃ G, G = va_up F_49 y1 (.inl (cs 16, 40, .inl (upd f_55 ((nI z_10)).toNatClampNeg ((nI t_26))))) ∧ va_P (dC, dI) vwCl (va_pl L G) H ∧ va_D A (va_pl L G) ∧ OK cs ty L G ∧ FR ty [ρ, ρ + 70, ρ + 71] F G := ⟨_, rfl, hP, hD, hO.up (sh.idx ht_8 ⟨_, rfl, ix_upd hq_57 _ _ (by omega)⟩), hR.up ht_8 (by simp)⟩
              have hF_60 : F_58 y1 = .inl (cs 16, 40, .inl (upd f_55 ((nI z_10)).toNatClampNeg ((nI t_26)))) := by rw [he_59]; exact up_self
              have hF_61 : F_58 y0 = .inl (cs 16, 40, .inl f_53) := by rw [he_59, up_ne (ne_ty3 ht_7 ht_8 (by show ρ ≠ ρ + 70; omega))]; exact hF_51
              have hF_62 : F_58 h0 = .inr (9, [.ref tx, .ref y0, .ref y1, .ref y2, .int (nI z_10)]) := by rw [he_59, up_ne (ne_ty hT_h0 ht_8 (by simp))]; exact hF_52
              obtain ⟨f_63, hF_60, hq_64⟩ : ∃ f : Nat → Int32, F_58 y1 = .inl (cs 16, 40, .inl f) ∧ IX f := ⟨_, hF_60, ix_upd hq_57 _ _ (by omega)⟩
              refine lv_aload_n hx hb dX9_take_106 rfl (lv_at hl 2 rfl) ?_
              refine pg_get (ci := 9) (v := .ref y2) (C := RX9) (T := TX9) (N := 5) hx hb hts it_9 hown hK hP hL_h0 hF_62 rfl 3 (by decide) (hts _ kt_168) (fun _ h9 => h9) rfl dX9_take_107 ?_
              refine lv_aload_n hx hb dX9_take_110 rfl (lv_at hl 2 rfl) ?_
              refine pg_get (ci := 9) (v := .int (nI z_10)) (C := RX9) (T := TX9) (N := 5) hx hb hts it_9 hown hK hP hL_h0 hF_62 rfl 4 (by decide) (hts _ kt_158) (fun _ h9 => h9) rfl dX9_take_111 ?_
              refine lv_iload_n hx hb dX9_take_114 rfl (lv_at hl 4 rfl) ?_
              obtain ⟨f_65, hF_66, hq_67⟩ := hO.idx hi_4 ht_9
              refine pg_iast hx hb hK hP hD hS hi_4 0 hF_66 rfl (vp_in_nI (by omega) (by omega)) dX9_take_115 (fun H locs hP hD hS => ?_)
              obtain ⟨F_68, he_69, hP, hD, hO, hR⟩ : ∃ G, G = va_up F_58 y2 (.inl (cs 16, 40, .inl (upd f_65 ((nI z_10)).toNatClampNeg ((nI b1))))) ∧ va_P (dC, dI) vwCl (va_pl L G) H ∧ va_D A (va_pl L G) ∧ OK cs ty L G ∧ FR ty [ρ, ρ + 70, ρ + 71] F G := ⟨_, rfl, hP, hD, hO.up (sh.idx ht_9 ⟨_, rfl, ix_upd hq_67 _ _ (by omega)⟩), hR.up ht_9 (by simp)⟩
              have hF_70 : F_68 y2 = .inl (cs 16, 40, .inl (upd f_65 ((nI z_10)).toNatClampNeg ((nI b1)))) := by rw [he_69]; exact up_self
              have hF_71 : F_68 y1 = .inl (cs 16, 40, .inl f_63) := by rw [he_69, up_ne (ne_ty3 ht_8 ht_9 (by show ρ + 70 ≠ ρ + 71; omega))]; exact hF_60
              have hF_72 : F_68 y0 = .inl (cs 16, 40, .inl f_53) := by rw [he_69, up_ne (ne_ty3 ht_7 ht_9 (by show ρ ≠ ρ + 71; omega))]; exact hF_61
              have hF_73 : F_68 h0 = .inr (9, [.ref tx, .ref y0, .ref y1, .ref y2, .int (nI z_10)]) := by rw [he_69, up_ne (ne_ty hT_h0 ht_9 (by simp))]; exact hF_62
              obtain ⟨f_74, hF_70, hq_75⟩ : ∃ f : Nat → Int32, F_68 y2 = .inl (cs 16, 40, .inl f) ∧ IX f := ⟨_, hF_70, ix_upd hq_67 _ _ (by omega)⟩
              refine lv_aload_n hx hb dX9_take_116 rfl (lv_at hl 2 rfl) ?_
              refine lv_dup hx hb dX9_take_117 rfl ?_
              refine pg_get (ci := 9) (v := .int (nI z_10)) (C := RX9) (T := TX9) (N := 5) hx hb hts it_9 hown hK hP hL_h0 hF_73 rfl 4 (by decide) (hts _ kt_158) (fun _ h9 => h9) rfl dX9_take_118 ?_
              refine lv_iconst (v := 1) hx hb dX9_take_121 (by decide) ?_
              refine lv_iadd hx hb dX9_take_122 ?_
              refine lv_topi (fun x_76 ex_76 => ?_)
              obtain rfl : x_76 = (nI (z_10 + 1)) := ex_76.trans (nI_1 _)
              refine pg_put (ci := 9) (v := .int (nI (z_10 + 1))) (ty := .int) (C := RX9) (T := TX9) (N := 5) hx hb hts it_9 tyX9 tyX9_ok nmX9 hown hK hP hD hS hL_h0 hF_73 rfl 4 (by decide) (hts _ kt_158) (fun _ h9 => h9) rfl (by decide +kernel) (rfl) (rfl) (Nat.le_of_ble_eq_true rfl) dX9_take_123 (fun H locs hP hD hS => ?_)
              obtain ⟨F_77, he_78, hP, hD, hO, hR⟩ : ∃ G, G = va_up F_68 h0 (.inr (9, [.ref tx, .ref y0, .ref y1, .ref y2, .int (nI (z_10 + 1))])) ∧ va_P (dC, dI) vwCl (va_pl L G) H ∧ va_D A (va_pl L G) ∧ OK cs ty L G ∧ FR ty [ρ, ρ + 70, ρ + 71] F G := ⟨_, rfl, hP, hD, hO.up (sh.tags hT_h0 ⟨(z_10 + 1), rfl, (by first | omega | assumption | exact Or.inl rfl | exact Or.inr rfl)⟩), hR.up hT_h0 (by simp)⟩
              have hF_79 : F_77 h0 = .inr (9, [.ref tx, .ref y0, .ref y1, .ref y2, .int (nI (z_10 + 1))]) := by rw [he_78]; exact up_self
              have hF_80 : F_77 y2 = .inl (cs 16, 40, .inl f_74) := by rw [he_78, up_ne (ne_ty ht_9 hT_h0 (by simp))]; exact hF_70
              have hF_81 : F_77 y1 = .inl (cs 16, 40, .inl f_63) := by rw [he_78, up_ne (ne_ty ht_8 hT_h0 (by simp))]; exact hF_71
              have hF_82 : F_77 y0 = .inl (cs 16, 40, .inl f_53) := by rw [he_78, up_ne (ne_ty ht_7 hT_h0 (by simp))]; exact hF_72
              refine lv_iconst (v := 1) hx hb dX9_take_126 (by decide) ?_
              refine W.widen (k := 0) (n := 0) (by omega) (by omega) ?_
              exact W.zret (v := 1) (ty := .boolean) hx hb hr (by decide) (fun t ht hWm => ⟨⟨1, (), rfl, (by first | exact Or.inl rfl | exact Or.inr rfl), ⟨F_77, QT.mk ht hP hD hO hR⟩⟩, hS.F ht⟩) hS.2.2 dX9_take_127
            ·
              refine lv_iconst (v := 0) hx hb dX9_take_84 (by decide) ?_
              refine W.widen (k := 0) (n := 0) (by omega) (by omega) ?_
              exact W.zret (v := 0) (ty := .boolean) hx hb hr (by decide) (fun t ht hWm => ⟨⟨0, (), rfl, (by first | exact Or.inl rfl | exact Or.inr rfl), ⟨F_42, QT.mk ht hP hD hO hR⟩⟩, hS.F ht⟩) hS.2.2 dX9_take_85
          ·
            refine lv_aload_n hx hb dX9_take_52 rfl (lv_at hl 2 rfl) ?_
            refine pg_get (ci := 9) (v := .ref tx) (C := RX9) (T := TX9) (N := 5) hx hb hts it_9 hown hK hP hL_h0 hv_38 rfl 0 (by decide) (hts _ kt_159) (fun _ h9 => h9) rfl dX9_take_53 ?_
            refine lv_iload hx hb dX9_take_56 (lv_at hl 0 rfl) ?_
            have hFc := pg_free hD hS hA
            obtain ⟨z_83, o_84, hF_85, hq_86, hq_87⟩ := hO.bytes hi_1 ht_6
            refine va_calli (va_runV (As := [.int i1]) (rest := []) ⟨hx, hb, hml, hown, hts⟩ (s_X0_at l dC dI cs ty L H.size F_37 tx (ρ + 1) r_5 n i1 hW hi_1 ht_6) ⟨callB_of 1 hts (gi kt_21) rfl rfl rfl (hts _ kt_1) (hts _ kt_183) (by decide +kernel) ⟨Nat.le_of_ble_eq_true rfl, Nat.le_of_ble_eq_true rfl⟩, (hts _ kt_23), (hts _ kt_24)⟩ ⟨fun a U g mk q => ⟨q.1, PT.calling q.2⟩, pg_recv hK hP hi_1 hF_85 (q := (RX0, TX0, 3)) rfl, fun U hU hWm => ⟨rfl, PT.mk hU hWm hP hK hD hE hO⟩⟩ rfl rfl hl.1 rfl (lv_room (Nat.le_of_ble_eq_true rfl)) dX9_take_58 ⟨by show _ + 0 ≤ 0; omega, by show _ + 0 ≤ 0; omega⟩) hS (fun q _ h => hFc q h) hFc (fun r_88 u t H1 locs ht hvm hw hB hz1 hk1 hS => ?_)
            obtain ⟨F_89, hB1⟩ := hB
            obtain ⟨hP, hD, hO, hR⟩ := QT.back hB1 ht hFc hR (fun q h => absurd h List.not_mem_nil)
            have hF_90 : F_89 h0 = .inr (9, [.ref tx, .ref y0, .ref y1, .ref y2, .int (nI z_10)]) := (hB1.2.2.2 h0 List.not_mem_nil).trans hv_38
            have hF_91 : F_89 tx = .inr (0, [.ref r_5, .int (nI z_83), .int o_84]) := (hB1.2.2.2 tx List.not_mem_nil).trans hF_85
            generalize H1 = H at hP hS ⊢
            have hw : True := hw
            have hw_92 := hw
            have hFc := pg_free hD hS hA
            refine va_calli (va_runS (As := [.int r_88]) (rest := []) ⟨hx, hb, hml, hown, hts⟩ (s_X0_isSmall l dC dI cs ty L H.size F_89 r_88 hW ) ⟨callB_of 1 hts (gi kt_4) rfl rfl rfl (hts _ kt_1) (hts _ kt_189) (by decide +kernel) ⟨Nat.le_of_ble_eq_true rfl, Nat.le_of_ble_eq_true rfl⟩, (hts _ kt_6)⟩ ⟨fun a U g mk q => ⟨q.1, PT.calling q.2⟩, fun U hU hWm => ⟨rfl, PT.mk hU hWm hP hK hD hE hO⟩⟩ rfl rfl hl.1 rfl (lv_room (Nat.le_of_ble_eq_true rfl)) dX9_take_61 ⟨by show _ + 0 ≤ 0; omega, by show _ + 0 ≤ 0; omega⟩) hS (fun q _ h => hFc q h) hFc (fun r_93 u t H1 locs ht hvm hw hB hz1 hk1 hS => ?_)
            obtain ⟨F_94, hB1⟩ := hB
            obtain ⟨hP, hD, hO, hR⟩ := QT.back hB1 ht hFc hR (fun q h => absurd h List.not_mem_nil)
            have hF_95 : F_94 h0 = .inr (9, [.ref tx, .ref y0, .ref y1, .ref y2, .int (nI z_10)]) := (hB1.2.2.2 h0 List.not_mem_nil).trans hF_90
            have hF_96 : F_94 tx = .inr (0, [.ref r_5, .int (nI z_83), .int o_84]) := (hB1.2.2.2 tx List.not_mem_nil).trans hF_91
            generalize H1 = H at hP hS ⊢
            have hw : (r_93 = 0 ∨ r_93 = 1) := hw
            have hw_97 := hw
            refine lv_if_ne (tgt := 69) hx hb dX9_take_64 (by decide) (fun c_98 => ?_) (fun c_98 => ?_)
            ·
              obtain ⟨x_99, ex_99⟩ : ∃ y : Int32, y = i1 + Int32.ofInt 1 := ⟨_, rfl⟩
              refine lv_iinc (v := x_99) (lv' := [(4, .int x_99), (3, .int (nI t_26)), (0, .ref h0), (1, .int (nI a1)), (2, .int (nI b1))]) hx hb dX9_take_69 hl (k := 0) rfl (ex_99.symm) (by decide) rfl (fun ls hl => ?_)
              refine lv_goto (tgt := 46) hx hb dX9_take_72 (by decide) ?_
              refine W.widen (k := 0) (n := 0) (by omega) (by omega) ?_
              exact ih_39 x_99 F_94 (hF_95) (by show ((nI t_26).toInt - x_99.toInt).toNat < ((nI t_26).toInt - i1.toInt).toNat; exact incN ex_99 c_40) hO hR _ _ hP hD hS ls (lv_sub hl [0, 1, 2, 3, 4] rfl)
            ·
              refine lv_iconst (v := 0) hx hb dX9_take_67 (by decide) ?_
              refine W.widen (k := 0) (n := 0) (by omega) (by omega) ?_
              exact W.zret (v := 0) (ty := .boolean) hx hb hr (by decide) (fun t ht hWm => ⟨⟨0, (), rfl, (by first | exact Or.inl rfl | exact Or.inr rfl), ⟨F_94, QT.mk ht hP hD hO hR⟩⟩, hS.F ht⟩) hS.2.2 dX9_take_68
        ·
          refine lv_iconst (v := 0) hx hb dX9_take_41 (by decide) ?_
          refine W.widen (k := 0) (n := 0) (by omega) (by omega) ?_
          exact W.zret (v := 0) (ty := .boolean) hx hb hr (by decide) (fun t ht hWm => ⟨⟨0, (), rfl, (by first | exact Or.inl rfl | exact Or.inr rfl), ⟨F_22, QT.mk ht hP hD hO hR⟩⟩, hS.F ht⟩) hS.2.2 dX9_take_42
set_option maxHeartbeats 4000000 in
set_option maxRecDepth 100000 in
theorem s_X9_read (l : Launch) (dC : Nat → ClassId) (dI : Nat → Nat → Nat) (cs : Nat → ClassId) (ty : TyM) (L : List Nat) (sz : Nat) (F : Nat → va_E) (h0 : Nat) (ρ : Nat) (tx : Nat) (n : Nat) (y0 : Nat) (y1 : Nat) (y2 : Nat) (g1 : Nat) (σ : Nat) (r1 : Nat) (n1 : Nat) (x2 : Int32) (x3 : Int32) (hW : WT ty L) (hL_h0 : h0 ∈ L) (hT_h0 : ty h0 = (9, ρ, [tx, n, y0, y1, y2])) (hL_g1 : g1 ∈ L) (hT_g1 : ty g1 = (0, σ, [r1, n1])) : Met l yX9_read (.code yX9_read cX9_read 7 (some .boolean) :: tb) ({ frames := 3, cells := 0, slots := 0, locals := 70 }) (va_Pc [.ref h0, .ref g1, .int x2, .int x3] (PT (dC, dI) cs ty L F sz)) (va_Qi (fun (r : Int32) (_ : Unit) => (r = 0 ∨ r = 1)) (fun _ T9 => ∃ F2 : Nat → va_E, QT (dC, dI) cs ty L [ρ, ρ + 1, ρ + 70, ρ + 71] F F2 (va_A (va_pl L F) sz) T9) (va_A (va_pl L F) sz)) 0 0 (va_A (va_pl L F) sz) := by
  refine Met.ofW (cc := cX9_read) (maxL := 7) (ret := (some .boolean)) (by decide) rfl ?_
  intro p e s m args below meth c s₁ B hml hv
  obtain ⟨rfl, hsz, hP, hK, hD0, hE, hO⟩ := hv
  have hx := B.exec
  have hb := B.bytes
  have hr := B.returns
  have hts : ∀ w ∈ tb, w.before _ s = true := fun w h => atoms_spec (ws := .code yX9_read cX9_read 7 (some .boolean) :: tb) B.pre w (List.mem_cons_of_mem _ h)
  have hown : s.vm.findClass RX9 = some m.cls := findClass_of_methodNamed B.named
  have hlocks := B.notSynchronized
  subst hsz
  have hD := hD0.self (sz := s.heap.size)
  generalize hAe : va_A (va_pl L F) s.heap.size = A at hD ⊢
  have hA : ∀ q : Nat, s.heap.size ≤ q → A q := fun q h => by rw [← hAe]; exact Or.inr h
  have hS : va_S A s.heap s.heap [] := va_S.rf
  have hR : FR ty [ρ, ρ + 1, ρ + 70, ρ + 71] F F := FR.refl
  have hl := lv_entry ([.ref h0, .ref g1, .int x2, .int x3]) (n := 7) (Nat.le_of_ble_eq_true rfl)
  rw [lg_entry_eq]
  generalize (lg_sl ([.ref h0, .ref g1, .int x2, .int x3]) ++ List.replicate (7 - (lg_sl ([.ref h0, .ref g1, .int x2, .int x3])).length) Slot.unset).toArray = ls at hl ⊢
  have hl : lv_has ls 7 [(0, .ref h0), (1, .ref g1), (2, .int x2), (3, .int x3)] := hl
  refine lv_aload_n hx hb dX9_read_0 rfl (lv_at hl 0 rfl) ?_
  obtain ⟨hi_1, hi_2, hi_3, hi_4, ⟨r_5, ht_6⟩, ht_7, ht_8, ht_9⟩ := hW.tags hL_h0 hT_h0
  obtain ⟨z_10, hF_11, hq_12⟩ := hO.tags hL_h0 hT_h0
  refine pg_get (ci := 9) (v := .ref tx) (C := RX9) (T := TX9) (N := 5) hx hb hts it_9 hown hK hP hL_h0 hF_11 rfl 0 (by decide) (hts _ kt_159) (fun _ h9 => h9) rfl dX9_read_1 ?_
  have hFc := pg_free hD hS hA
  obtain ⟨hi_13, ht_14, hq_15⟩ := hW.bytes hi_1 ht_6
  obtain ⟨z_16, o_17, hF_18, hq_19, hq_20⟩ := hO.bytes hi_1 ht_6
  refine va_callv (va_runV (As := []) (rest := []) ⟨hx, hb, hml, hown, hts⟩ (s_X0_clear l dC dI cs ty L s.heap.size F tx (ρ + 1) r_5 n hW hi_1 ht_6) ⟨callB_of 0 hts (gi kt_32) rfl rfl rfl (hts _ kt_1) (hts _ kt_190) (by decide +kernel) ⟨Nat.le_of_ble_eq_true rfl, Nat.le_of_ble_eq_true rfl⟩, (hts _ kt_34), (hts _ kt_35)⟩ ⟨fun a U g mk q => ⟨q.1, PT.calling q.2⟩, pg_recv hK hP hi_1 hF_18 (q := (RX0, TX0, 3)) rfl, fun U hU hWm => ⟨rfl, PT.mk hU hWm hP hK hD hE hO⟩⟩ rfl rfl hl.1 rfl (lv_room (Nat.le_of_ble_eq_true rfl)) dX9_read_4 ⟨by show _ + 0 ≤ 0; omega, by show _ + 0 ≤ 0; omega⟩) hS (fun q _ h => hFc q h) hFc (fun u t H1 locs ht hvm hw hB hz1 hk1 hS => ?_)
  obtain ⟨F_22, hB1, hq_23⟩ := hB
  obtain ⟨hP, hD, hO, hR⟩ := QT.back hB1 ht hFc hR (fun q h => by simp only [List.mem_cons, List.not_mem_nil, or_false] at h ⊢; omega)
  have hF_24 : F_22 h0 = .inr (9, [.ref tx, .ref y0, .ref y1, .ref y2, .int (nI z_10)]) := (hB1.2.2.2 h0 (by rw [hT_h0]; simp)).trans hF_11
  generalize H1 = H at hP hS ⊢
  refine lv_iload_n hx hb dX9_read_7 rfl (lv_at hl 2 rfl) ?_
  refine lv_istore (lv' := [(4, .int x2), (0, .ref h0), (1, .ref g1), (2, .int x2), (3, .int x3)]) hx hb dX9_read_8 hl (by decide) rfl (fun ls hl => ?_)
  refine W.widen (k := 0) (n := 0) (by omega) (by omega) ?_
  refine pl_loop (σ := Int32) A (dC, dI) cs ty L [ρ, ρ + 1, ρ + 70, ρ + 71] F 10 7 (fun i1 => [(4, .int i1), (0, .ref h0), (1, .ref g1), (2, .int x2), (3, .int x3)]) (fun i1 => []) (fun i1 _ => True) (fun i1 => ((x3).toInt - i1.toInt).toNat) ?_ x2 F_22 (trivial) hO hR _ _ hP hD hS ls (lv_sub hl [0, 1, 2, 3, 4] rfl)
  rintro i1 F_25 hv_26 hO hR ih_27 H locs hP hD hS ls hl
  have hl : lv_has ls 7 [(4, .int i1), (0, .ref h0), (1, .ref g1), (2, .int x2), (3, .int x3)] := hl
  have hv_26 : True := hv_26
  refine W.eq (g2 := F0 m 10 ls []) rfl ?_
  refine lv_iload hx hb dX9_read_10 (lv_at hl 0 rfl) ?_
  refine lv_iload_n hx hb dX9_read_12 rfl (lv_at hl 4 rfl) ?_
  refine lv_icmp_ge (tgt := 54) hx hb dX9_read_13 (by decide) (fun c_28 => ?_) (fun c_28 => ?_)
  ·
    refine lv_aload_n hx hb dX9_read_54 rfl (lv_at hl 1 rfl) ?_
    refine lv_iconst (v := 0) hx hb dX9_read_55 (by decide) ?_
    obtain ⟨z_29, hF_30, hq_31⟩ := hO.tags hL_h0 hT_h0
    refine pg_put (ci := 9) (v := .int 0) (ty := .int) (C := RX9) (T := TX9) (N := 5) hx hb hts it_9 tyX9 tyX9_ok nmX9 hown hK hP hD hS hL_h0 hF_30 rfl 4 (by decide) (hts _ kt_158) (fun _ h9 => h9) rfl (by decide +kernel) (rfl) (rfl) (Nat.le_of_ble_eq_true rfl) dX9_read_56 (fun H locs hP hD hS => ?_)
    obtain ⟨F_32, he_33, hP, hD, hO, hR⟩ : ∃ G, G = va_up F_25 h0 (.inr (9, [.ref tx, .ref y0, .ref y1, .ref y2, .int 0])) ∧ va_P (dC, dI) vwCl (va_pl L G) H ∧ va_D A (va_pl L G) ∧ OK cs ty L G ∧ FR ty [ρ, ρ + 1, ρ + 70, ρ + 71] F G := ⟨_, rfl, hP, hD, hO.up (sh.tags hT_h0 ⟨0, rfl, (by first | omega | assumption | exact Or.inl rfl | exact Or.inr rfl)⟩), hR.up hT_h0 (by simp)⟩
    have hF_34 : F_32 h0 = .inr (9, [.ref tx, .ref y0, .ref y1, .ref y2, .int 0]) := by rw [he_33]; exact up_self
    refine lv_iconst (v := 0) hx hb dX9_read_59 (by decide) ?_
    refine lv_istore (lv' := [(4, .int 0), (0, .ref h0), (1, .ref g1), (2, .int x2), (3, .int x3)]) hx hb dX9_read_60 hl (by decide) rfl (fun ls hl => ?_)
    refine lv_iconst (v := 0) hx hb dX9_read_62 (by decide) ?_
    refine lv_istore (lv' := [(5, .int 0), (4, .int 0), (0, .ref h0), (1, .ref g1), (2, .int x2), (3, .int x3)]) hx hb dX9_read_63 hl (by decide) rfl (fun ls hl => ?_)
    refine W.widen (k := 0) (n := 0) (by omega) (by omega) ?_
    refine pl_loop (σ := Nat × Nat) A (dC, dI) cs ty L [ρ, ρ + 1, ρ + 70, ρ + 71] F 65 7 (fun (j, w4) => [(5, .int (nI j)), (4, .int (nI w4)), (0, .ref h0), (1, .ref g1), (2, .int x2), (3, .int x3)]) (fun (j, w4) => []) (fun (j, w4) _ => j ≤ 10000 ∧ w4 ≤ 10000) (fun (j, w4) => 10000 - j) ?_ (0, 0) F_32 (⟨by omega, by omega⟩) hO hR _ _ hP hD hS ls (lv_sub hl [0, 1, 2, 3, 4, 5] rfl)
    rintro ⟨j, w4⟩ F_35 hv_36 hO hR ih_37 H locs hP hD hS ls hl
    have hl : lv_has ls 7 [(5, .int (nI j)), (4, .int (nI w4)), (0, .ref h0), (1, .ref g1), (2, .int x2), (3, .int x3)] := hl
    have hv_36 : j ≤ 10000 ∧ w4 ≤ 10000 := hv_36
    refine W.eq (g2 := F0 m 65 ls []) rfl ?_
    obtain ⟨hv1, hv2⟩ := hv_36
    refine lv_iload hx hb dX9_read_65 (lv_at hl 0 rfl) ?_
    refine lv_aload_n hx hb dX9_read_67 rfl (lv_at hl 2 rfl) ?_
    obtain ⟨z_38, hF_39, hq_40⟩ := hO.tags hL_h0 hT_h0
    refine pg_get (ci := 9) (v := .ref tx) (C := RX9) (T := TX9) (N := 5) hx hb hts it_9 hown hK hP hL_h0 hF_39 rfl 0 (by decide) (hts _ kt_159) (fun _ h9 => h9) rfl dX9_read_68 ?_
    obtain ⟨z_41, o_42, hF_43, hq_44, hq_45⟩ := hO.bytes hi_1 ht_6
    refine pg_getN (ci := 0) (v := .int (nI z_41)) (C := RX0) (T := TX0) (N := 3) hx hb hts it_0 hown hK hP hi_1 hF_43 rfl 1 (by decide) (hE.nest kn_5) (fun _ h9 => h9) rfl dX9_read_71 ?_
    refine lv_icmp_ge (tgt := 157) hx hb dX9_read_74 (by decide) (fun c_46 => ?_) (fun c_46 => ?_)
    ·
      have hi_47 : z_41 ≤ j := leN (N := z_41) c_46
      refine lv_iconst (v := 1) hx hb dX9_read_157 (by decide) ?_
      refine W.widen (k := 0) (n := 0) (by omega) (by omega) ?_
      exact W.zret (v := 1) (ty := .boolean) hx hb hr (by decide) (fun t ht hWm => ⟨⟨1, (), rfl, (by first | exact Or.inl rfl | exact Or.inr rfl), ⟨F_35, QT.mk ht hP hD hO hR⟩⟩, hS.F ht⟩) hS.2.2 dX9_read_158
    ·
      have hi_48 : j < z_41 := ltN (N := z_41) c_46
      have hjz : j < z_41 := ltI (by omega) c_46
      refine lv_aload_n hx hb dX9_read_77 rfl (lv_at hl 2 rfl) ?_
      refine pg_get (ci := 9) (v := .ref tx) (C := RX9) (T := TX9) (N := 5) hx hb hts it_9 hown hK hP hL_h0 hF_39 rfl 0 (by decide) (hts _ kt_159) (fun _ h9 => h9) rfl dX9_read_78 ?_
      refine lv_iload hx hb dX9_read_81 (lv_at hl 0 rfl) ?_
      have hFc := pg_free hD hS hA
      refine va_calli (va_runV (As := [.int (nI j)]) (rest := []) ⟨hx, hb, hml, hown, hts⟩ (s_X0_at l dC dI cs ty L H.size F_35 tx (ρ + 1) r_5 n (nI j) hW hi_1 ht_6) ⟨callB_of 1 hts (gi kt_21) rfl rfl rfl (hts _ kt_1) (hts _ kt_183) (by decide +kernel) ⟨Nat.le_of_ble_eq_true rfl, Nat.le_of_ble_eq_true rfl⟩, (hts _ kt_23), (hts _ kt_24)⟩ ⟨fun a U g mk q => ⟨q.1, PT.calling q.2⟩, pg_recv hK hP hi_1 hF_43 (q := (RX0, TX0, 3)) rfl, fun U hU hWm => ⟨rfl, PT.mk hU hWm hP hK hD hE hO⟩⟩ rfl rfl hl.1 rfl (lv_room (Nat.le_of_ble_eq_true rfl)) dX9_read_83 ⟨by show _ + 0 ≤ 0; omega, by show _ + 0 ≤ 0; omega⟩) hS (fun q _ h => hFc q h) hFc (fun r_49 u t H1 locs ht hvm hw hB hz1 hk1 hS => ?_)
      obtain ⟨F_50, hB1⟩ := hB
      obtain ⟨hP, hD, hO, hR⟩ := QT.back hB1 ht hFc hR (fun q h => absurd h List.not_mem_nil)
      have hF_51 : F_50 h0 = .inr (9, [.ref tx, .ref y0, .ref y1, .ref y2, .int (nI z_38)]) := (hB1.2.2.2 h0 List.not_mem_nil).trans hF_39
      have hF_52 : F_50 tx = .inr (0, [.ref r_5, .int (nI z_41), .int o_42]) := (hB1.2.2.2 tx List.not_mem_nil).trans hF_43
      generalize H1 = H at hP hS ⊢
      have hw : True := hw
      have hw_53 := hw
      refine lv_bipush (v := 59) hx hb dX9_read_86 (by decide) ?_
      refine lv_icmp_ne (tgt := 95) hx hb dX9_read_88 (by decide) (fun c_54 => ?_) (fun c_54 => ?_)
      ·
        refine lv_iconst (v := 0) hx hb dX9_read_95 (by decide) ?_
        refine lv_istore (lv' := [(6, .int 0), (5, .int (nI j)), (4, .int (nI w4)), (0, .ref h0), (1, .ref g1), (2, .int x2), (3, .int x3)]) hx hb dX9_read_96 hl (by decide) rfl (fun ls hl => ?_)
        refine lv_iload hx hb dX9_read_98 (lv_at hl 0 rfl) ?_
        refine lv_if_ne (tgt := 120) hx hb dX9_read_100 (by decide) (fun c_55 => absurd (by decide) c_55) (fun c_55 => ?_)
        refine lv_iload hx hb dX9_read_103 (lv_at hl 1 rfl) ?_
        refine lv_iconst (v := 1) hx hb dX9_read_105 (by decide) ?_
        refine lv_iadd hx hb dX9_read_106 ?_
        refine lv_topi (fun x_56 _ => ?_)
        refine lv_aload_n hx hb dX9_read_107 rfl (lv_at hl 3 rfl) ?_
        refine pg_get (ci := 9) (v := .ref tx) (C := RX9) (T := TX9) (N := 5) hx hb hts it_9 hown hK hP hL_h0 hF_51 rfl 0 (by decide) (hts _ kt_159) (fun _ h9 => h9) rfl dX9_read_108 ?_
        refine pg_getN (ci := 0) (v := .int (nI z_41)) (C := RX0) (T := TX0) (N := 3) hx hb hts it_0 hown hK hP hi_1 hF_52 rfl 1 (by decide) (hE.nest kn_5) (fun _ h9 => h9) rfl dX9_read_111 ?_
        refine lv_icmp_ge (tgt := 120) hx hb dX9_read_114 (by decide) (fun c_57 => ?_) (fun c_57 => ?_)
        ·
          refine lv_aload_n hx hb dX9_read_120 rfl (lv_at hl 3 rfl) ?_
          refine lv_iload hx hb dX9_read_121 (lv_at hl 2 rfl) ?_
          refine lv_iload hx hb dX9_read_123 (lv_at hl 0 rfl) ?_
          refine lv_if_eq (tgt := 133) hx hb dX9_read_125 (by decide) (fun c_58 => ?_) (fun c_58 => absurd (by decide) c_58)
          refine lv_iload hx hb dX9_read_133 (lv_at hl 1 rfl) ?_
          refine lv_iconst (v := 1) hx hb dX9_read_135 (by decide) ?_
          refine lv_iadd hx hb dX9_read_136 ?_
          refine lv_topi (fun x_59 ex_59 => ?_)
          obtain rfl : x_59 = (nI (j + 1)) := ex_59.trans (nI_1 j)
          have hFc := pg_free hD hS hA
          refine va_calli (va_runV (As := [.int (nI w4), .int (nI (j + 1))]) (rest := []) ⟨hx, hb, hml, hown, hts⟩ (s_X9_take l dC dI cs ty L H.size F_50 h0 ρ tx n y0 y1 y2 w4 (j + 1) hW hL_h0 hT_h0 (by omega) (by omega)) ⟨callB_of 2 hts (gi kt_191) rfl rfl rfl (hts _ kt_164) (hts _ kt_192) (by decide +kernel) ⟨Nat.le_of_ble_eq_true rfl, Nat.le_of_ble_eq_true rfl⟩, (hts _ kt_193), (hts _ kt_194)⟩ ⟨fun a U g mk q => ⟨q.1, PT.calling q.2⟩, pg_recv hK hP hL_h0 hF_51 (q := (RX9, TX9, 5)) rfl, fun U hU hWm => ⟨rfl, PT.mk hU hWm hP hK hD hE hO⟩⟩ rfl rfl hl.1 rfl (lv_room (Nat.le_of_ble_eq_true rfl)) dX9_read_137 ⟨by show _ + 0 ≤ 0; omega, by show _ + 0 ≤ 0; omega⟩) hS (fun q _ h => hFc q h) hFc (fun r_60 u t H1 locs ht hvm hw hB hz1 hk1 hS => ?_)
          obtain ⟨F_61, hB1⟩ := hB
          obtain ⟨hP, hD, hO, hR⟩ := QT.back hB1 ht hFc hR (fun q h => by simp only [List.mem_cons, List.not_mem_nil, or_false] at h ⊢; omega)
          have hF_62 : F_61 tx = .inr (0, [.ref r_5, .int (nI z_41), .int o_42]) := (hB1.2.2.2 tx (by rw [ht_6]; simp)).trans hF_52
          generalize H1 = H at hP hS ⊢
          have hw : (r_60 = 0 ∨ r_60 = 1) := hw
          have hw_63 := hw
          refine lv_if_ne (tgt := 145) hx hb dX9_read_140 (by decide) (fun c_64 => ?_) (fun c_64 => ?_)
          ·
            refine lv_iload hx hb dX9_read_145 (lv_at hl 1 rfl) ?_
            refine lv_iconst (v := 1) hx hb dX9_read_147 (by decide) ?_
            refine lv_iadd hx hb dX9_read_148 ?_
            refine lv_topi (fun x_65 ex_65 => ?_)
            obtain rfl : x_65 = (nI (j + 1)) := ex_65.trans (nI_1 j)
            refine lv_istore (lv' := [(4, .int (nI (j + 1))), (6, .int 0), (5, .int (nI j)), (0, .ref h0), (1, .ref g1), (2, .int x2), (3, .int x3)]) hx hb dX9_read_149 hl (by decide) rfl (fun ls hl => ?_)
            refine lv_iinc (v := (nI (j + 1))) (lv' := [(5, .int (nI (j + 1))), (4, .int (nI (j + 1))), (6, .int 0), (0, .ref h0), (1, .ref g1), (2, .int x2), (3, .int x3)]) hx hb dX9_read_151 hl (k := 2) rfl (nI_1 _) (by decide) rfl (fun ls hl => ?_)
            refine lv_goto (tgt := 65) hx hb dX9_read_154 (by decide) ?_
            refine W.widen (k := 0) (n := 0) (by omega) (by omega) ?_
            exact ih_37 ((j + 1), (j + 1)) F_61 (⟨by omega, by omega⟩) (by show 10000 - (j + 1) < 10000 - j; omega) hO hR _ _ hP hD hS ls (lv_sub hl [0, 1, 3, 4, 5, 6] rfl)
          ·
            refine lv_iconst (v := 0) hx hb dX9_read_143 (by decide) ?_
            refine W.widen (k := 0) (n := 0) (by omega) (by omega) ?_
            exact W.zret (v := 0) (ty := .boolean) hx hb hr (by decide) (fun t ht hWm => ⟨⟨0, (), rfl, (by first | exact Or.inl rfl | exact Or.inr rfl), ⟨F_61, QT.mk ht hP hD hO hR⟩⟩, hS.F ht⟩) hS.2.2 dX9_read_144
        ·
          refine lv_goto (tgt := 151) hx hb dX9_read_117 (by decide) ?_
          refine lv_iinc (v := (nI (j + 1))) (lv' := [(5, .int (nI (j + 1))), (6, .int 0), (4, .int (nI w4)), (0, .ref h0), (1, .ref g1), (2, .int x2), (3, .int x3)]) hx hb dX9_read_151 hl (k := 1) rfl (nI_1 _) (by decide) rfl (fun ls hl => ?_)
          refine lv_goto (tgt := 65) hx hb dX9_read_154 (by decide) ?_
          refine W.widen (k := 0) (n := 0) (by omega) (by omega) ?_
          exact ih_37 ((j + 1), w4) F_50 (⟨by omega, by omega⟩) (by show 10000 - (j + 1) < 10000 - j; omega) hO hR _ _ hP hD hS ls (lv_sub hl [0, 2, 3, 4, 5, 6] rfl)
      ·
        refine lv_iconst (v := 1) hx hb dX9_read_91 (by decide) ?_
        refine lv_goto (tgt := 96) hx hb dX9_read_92 (by decide) ?_
        refine lv_istore (lv' := [(6, .int 1), (5, .int (nI j)), (4, .int (nI w4)), (0, .ref h0), (1, .ref g1), (2, .int x2), (3, .int x3)]) hx hb dX9_read_96 hl (by decide) rfl (fun ls hl => ?_)
        refine lv_iload hx hb dX9_read_98 (lv_at hl 0 rfl) ?_
        refine lv_if_ne (tgt := 120) hx hb dX9_read_100 (by decide) (fun c_66 => ?_) (fun c_66 => absurd c_66 (by decide))
        refine lv_aload_n hx hb dX9_read_120 rfl (lv_at hl 3 rfl) ?_
        refine lv_iload hx hb dX9_read_121 (lv_at hl 2 rfl) ?_
        refine lv_iload hx hb dX9_read_123 (lv_at hl 0 rfl) ?_
        refine lv_if_eq (tgt := 133) hx hb dX9_read_125 (by decide) (fun c_67 => absurd c_67 (by decide)) (fun c_67 => ?_)
        refine lv_iload hx hb dX9_read_128 (lv_at hl 1 rfl) ?_
        refine lv_goto (tgt := 137) hx hb dX9_read_130 (by decide) ?_
        have hFc := pg_free hD hS hA
        refine va_calli (va_runV (As := [.int (nI w4), .int (nI j)]) (rest := []) ⟨hx, hb, hml, hown, hts⟩ (s_X9_take l dC dI cs ty L H.size F_50 h0 ρ tx n y0 y1 y2 w4 j hW hL_h0 hT_h0 (by omega) (by omega)) ⟨callB_of 2 hts (gi kt_191) rfl rfl rfl (hts _ kt_164) (hts _ kt_192) (by decide +kernel) ⟨Nat.le_of_ble_eq_true rfl, Nat.le_of_ble_eq_true rfl⟩, (hts _ kt_193), (hts _ kt_194)⟩ ⟨fun a U g mk q => ⟨q.1, PT.calling q.2⟩, pg_recv hK hP hL_h0 hF_51 (q := (RX9, TX9, 5)) rfl, fun U hU hWm => ⟨rfl, PT.mk hU hWm hP hK hD hE hO⟩⟩ rfl rfl hl.1 rfl (lv_room (Nat.le_of_ble_eq_true rfl)) dX9_read_137 ⟨by show _ + 0 ≤ 0; omega, by show _ + 0 ≤ 0; omega⟩) hS (fun q _ h => hFc q h) hFc (fun r_68 u t H1 locs ht hvm hw hB hz1 hk1 hS => ?_)
        obtain ⟨F_69, hB1⟩ := hB
        obtain ⟨hP, hD, hO, hR⟩ := QT.back hB1 ht hFc hR (fun q h => by simp only [List.mem_cons, List.not_mem_nil, or_false] at h ⊢; omega)
        have hF_70 : F_69 tx = .inr (0, [.ref r_5, .int (nI z_41), .int o_42]) := (hB1.2.2.2 tx (by rw [ht_6]; simp)).trans hF_52
        generalize H1 = H at hP hS ⊢
        have hw : (r_68 = 0 ∨ r_68 = 1) := hw
        have hw_71 := hw
        refine lv_if_ne (tgt := 145) hx hb dX9_read_140 (by decide) (fun c_72 => ?_) (fun c_72 => ?_)
        ·
          refine lv_iload hx hb dX9_read_145 (lv_at hl 1 rfl) ?_
          refine lv_iconst (v := 1) hx hb dX9_read_147 (by decide) ?_
          refine lv_iadd hx hb dX9_read_148 ?_
          refine lv_topi (fun x_73 ex_73 => ?_)
          obtain rfl : x_73 = (nI (j + 1)) := ex_73.trans (nI_1 j)
          refine lv_istore (lv' := [(4, .int (nI (j + 1))), (6, .int 1), (5, .int (nI j)), (0, .ref h0), (1, .ref g1), (2, .int x2), (3, .int x3)]) hx hb dX9_read_149 hl (by decide) rfl (fun ls hl => ?_)
          refine lv_iinc (v := (nI (j + 1))) (lv' := [(5, .int (nI (j + 1))), (4, .int (nI (j + 1))), (6, .int 1), (0, .ref h0), (1, .ref g1), (2, .int x2), (3, .int x3)]) hx hb dX9_read_151 hl (k := 2) rfl (nI_1 _) (by decide) rfl (fun ls hl => ?_)
          refine lv_goto (tgt := 65) hx hb dX9_read_154 (by decide) ?_
          refine W.widen (k := 0) (n := 0) (by omega) (by omega) ?_
          exact ih_37 ((j + 1), (j + 1)) F_69 (⟨by omega, by omega⟩) (by show 10000 - (j + 1) < 10000 - j; omega) hO hR _ _ hP hD hS ls (lv_sub hl [0, 1, 3, 4, 5, 6] rfl)
        ·
          refine lv_iconst (v := 0) hx hb dX9_read_143 (by decide) ?_
          refine W.widen (k := 0) (n := 0) (by omega) (by omega) ?_
          exact W.zret (v := 0) (ty := .boolean) hx hb hr (by decide) (fun t ht hWm => ⟨⟨0, (), rfl, (by first | exact Or.inl rfl | exact Or.inr rfl), ⟨F_69, QT.mk ht hP hD hO hR⟩⟩, hS.F ht⟩) hS.2.2 dX9_read_144
  ·
    refine lv_aload_n hx hb dX9_read_16 rfl (lv_at hl 2 rfl) ?_
    refine lv_iload hx hb dX9_read_17 (lv_at hl 0 rfl) ?_
    have hFc := pg_free hD hS hA
    obtain ⟨hi_74, ht_75, hq_76⟩ := hW.bytes hL_g1 hT_g1
    obtain ⟨z_77, o_78, hF_79, hq_80, hq_81⟩ := hO.bytes hL_g1 hT_g1
    refine va_calli (va_runV (As := [.int i1]) (rest := []) ⟨hx, hb, hml, hown, hts⟩ (s_X0_at l dC dI cs ty L H.size F_25 g1 σ r1 n1 i1 hW hL_g1 hT_g1) ⟨callB_of 1 hts (gi kt_21) rfl rfl rfl (hts _ kt_1) (hts _ kt_183) (by decide +kernel) ⟨Nat.le_of_ble_eq_true rfl, Nat.le_of_ble_eq_true rfl⟩, (hts _ kt_23), (hts _ kt_24)⟩ ⟨fun a U g mk q => ⟨q.1, PT.calling q.2⟩, pg_recv hK hP hL_g1 hF_79 (q := (RX0, TX0, 3)) rfl, fun U hU hWm => ⟨rfl, PT.mk hU hWm hP hK hD hE hO⟩⟩ rfl rfl hl.1 rfl (lv_room (Nat.le_of_ble_eq_true rfl)) dX9_read_19 ⟨by show _ + 0 ≤ 0; omega, by show _ + 0 ≤ 0; omega⟩) hS (fun q _ h => hFc q h) hFc (fun r_82 u t H1 locs ht hvm hw hB hz1 hk1 hS => ?_)
    obtain ⟨F_83, hB1⟩ := hB
    obtain ⟨hP, hD, hO, hR⟩ := QT.back hB1 ht hFc hR (fun q h => absurd h List.not_mem_nil)
    have hF_84 : F_83 g1 = .inr (0, [.ref r1, .int (nI z_77), .int o_78]) := (hB1.2.2.2 g1 List.not_mem_nil).trans hF_79
    generalize H1 = H at hP hS ⊢
    have hw : True := hw
    have hw_85 := hw
    refine lv_istore (lv' := [(5, .int r_82), (4, .int i1), (0, .ref h0), (1, .ref g1), (2, .int x2), (3, .int x3)]) hx hb dX9_read_22 hl (by decide) rfl (fun ls hl => ?_)
    refine lv_iload hx hb dX9_read_24 (lv_at hl 0 rfl) ?_
    have hFc := pg_free hD hS hA
    refine va_calli (va_runS (As := [.int r_82]) (rest := []) ⟨hx, hb, hml, hown, hts⟩ (s_X0_isWhite l dC dI cs ty L H.size F_83 r_82 hW ) ⟨callB_of 1 hts (gi kt_195) rfl rfl rfl (hts _ kt_1) (hts _ kt_196) (by decide +kernel) ⟨Nat.le_of_ble_eq_true rfl, Nat.le_of_ble_eq_true rfl⟩, (hts _ kt_197)⟩ ⟨fun a U g mk q => ⟨q.1, PT.calling q.2⟩, fun U hU hWm => ⟨rfl, PT.mk hU hWm hP hK hD hE hO⟩⟩ rfl rfl hl.1 rfl (lv_room (Nat.le_of_ble_eq_true rfl)) dX9_read_26 ⟨by show _ + 0 ≤ 0; omega, by show _ + 0 ≤ 0; omega⟩) hS (fun q _ h => hFc q h) hFc (fun r_86 u t H1 locs ht hvm hw hB hz1 hk1 hS => ?_)
    obtain ⟨F_87, hB1⟩ := hB
    obtain ⟨hP, hD, hO, hR⟩ := QT.back hB1 ht hFc hR (fun q h => absurd h List.not_mem_nil)
    have hF_88 : F_87 g1 = .inr (0, [.ref r1, .int (nI z_77), .int o_78]) := (hB1.2.2.2 g1 List.not_mem_nil).trans hF_84
    generalize H1 = H at hP hS ⊢
    have hw : (r_86 = 0 ∨ r_86 = 1) := hw
    have hw_89 := hw
    refine lv_if_ne (tgt := 48) hx hb dX9_read_29 (by decide) (fun c_90 => ?_) (fun c_90 => ?_)
    ·
      obtain ⟨x_91, ex_91⟩ : ∃ y : Int32, y = i1 + Int32.ofInt 1 := ⟨_, rfl⟩
      refine lv_iinc (v := x_91) (lv' := [(4, .int x_91), (5, .int r_82), (0, .ref h0), (1, .ref g1), (2, .int x2), (3, .int x3)]) hx hb dX9_read_48 hl (k := 1) rfl (ex_91.symm) (by decide) rfl (fun ls hl => ?_)
      refine lv_goto (tgt := 10) hx hb dX9_read_51 (by decide) ?_
      refine W.widen (k := 0) (n := 0) (by omega) (by omega) ?_
      exact ih_27 x_91 F_87 (trivial) (by show ((x3).toInt - x_91.toInt).toNat < ((x3).toInt - i1.toInt).toNat; exact incN ex_91 c_28) hO hR _ _ hP hD hS ls (lv_sub hl [0, 2, 3, 4, 5] rfl)
    ·
      refine lv_iload hx hb dX9_read_32 (lv_at hl 0 rfl) ?_
      refine lv_bipush (v := 10) hx hb dX9_read_34 (by decide) ?_
      refine lv_icmp_eq (tgt := 48) hx hb dX9_read_36 (by decide) (fun c_92 => ?_) (fun c_92 => ?_)
      ·
        obtain ⟨x_93, ex_93⟩ : ∃ y : Int32, y = i1 + Int32.ofInt 1 := ⟨_, rfl⟩
        refine lv_iinc (v := x_93) (lv' := [(4, .int x_93), (5, .int r_82), (0, .ref h0), (1, .ref g1), (2, .int x2), (3, .int x3)]) hx hb dX9_read_48 hl (k := 1) rfl (ex_93.symm) (by decide) rfl (fun ls hl => ?_)
        refine lv_goto (tgt := 10) hx hb dX9_read_51 (by decide) ?_
        refine W.widen (k := 0) (n := 0) (by omega) (by omega) ?_
        exact ih_27 x_93 F_87 (trivial) (by show ((x3).toInt - x_93.toInt).toNat < ((x3).toInt - i1.toInt).toNat; exact incN ex_93 c_28) hO hR _ _ hP hD hS ls (lv_sub hl [0, 2, 3, 4, 5] rfl)
      ·
        refine lv_aload_n hx hb dX9_read_39 rfl (lv_at hl 2 rfl) ?_
        obtain ⟨z_94, hF_95, hq_96⟩ := hO.tags hL_h0 hT_h0
        refine pg_get (ci := 9) (v := .ref tx) (C := RX9) (T := TX9) (N := 5) hx hb hts it_9 hown hK hP hL_h0 hF_95 rfl 0 (by decide) (hts _ kt_159) (fun _ h9 => h9) rfl dX9_read_40 ?_
        refine lv_iload hx hb dX9_read_43 (lv_at hl 0 rfl) ?_
        have hFc := pg_free hD hS hA
        obtain ⟨z_97, o_98, hF_99, hq_100, hq_101⟩ := hO.bytes hi_1 ht_6
        refine va_callv (va_runV (As := [.int r_82]) (rest := []) ⟨hx, hb, hml, hown, hts⟩ (s_X0_add l dC dI cs ty L H.size F_87 tx (ρ + 1) r_5 n r_82 hW hi_1 ht_6) ⟨callB_of 1 hts (gi kt_13) rfl rfl rfl (hts _ kt_1) (hts _ kt_198) (by decide +kernel) ⟨Nat.le_of_ble_eq_true rfl, Nat.le_of_ble_eq_true rfl⟩, (hts _ kt_15), (hts _ kt_16)⟩ ⟨fun a U g mk q => ⟨q.1, PT.calling q.2⟩, pg_recv hK hP hi_1 hF_99 (q := (RX0, TX0, 3)) rfl, fun U hU hWm => ⟨rfl, PT.mk hU hWm hP hK hD hE hO⟩⟩ rfl rfl hl.1 rfl (lv_room (Nat.le_of_ble_eq_true rfl)) dX9_read_45 ⟨by show _ + 0 ≤ 0; omega, by show _ + 0 ≤ 0; omega⟩) hS (fun q _ h => hFc q h) hFc (fun u t H1 locs ht hvm hw hB hz1 hk1 hS => ?_)
        obtain ⟨F_103, hB1⟩ := hB
        obtain ⟨hP, hD, hO, hR⟩ := QT.back hB1 ht hFc hR (fun q h => by simp only [List.mem_cons, List.not_mem_nil, or_false] at h ⊢; omega)
        have hF_104 : F_103 h0 = .inr (9, [.ref tx, .ref y0, .ref y1, .ref y2, .int (nI z_94)]) := (hB1.2.2.2 h0 (by rw [hT_h0]; simp)).trans hF_95
        generalize H1 = H at hP hS ⊢
        obtain ⟨x_105, ex_105⟩ : ∃ y : Int32, y = i1 + Int32.ofInt 1 := ⟨_, rfl⟩
        refine lv_iinc (v := x_105) (lv' := [(4, .int x_105), (5, .int r_82), (0, .ref h0), (1, .ref g1), (2, .int x2), (3, .int x3)]) hx hb dX9_read_48 hl (k := 1) rfl (ex_105.symm) (by decide) rfl (fun ls hl => ?_)
        refine lv_goto (tgt := 10) hx hb dX9_read_51 (by decide) ?_
        refine W.widen (k := 0) (n := 0) (by omega) (by omega) ?_
        exact ih_27 x_105 F_103 (trivial) (by show ((x3).toInt - x_105.toInt).toNat < ((x3).toInt - i1.toInt).toNat; exact incN ex_105 c_28) hO hR _ _ hP hD hS ls (lv_sub hl [0, 2, 3, 4, 5] rfl)
