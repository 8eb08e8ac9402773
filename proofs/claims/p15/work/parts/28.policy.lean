theorem dX5_isAligned_0 : decode cX5_isAligned 0 = .ok (.iload_n 2, 1) := by decide +kernel
theorem dX5_isAligned_1 : decode cX5_isAligned 1 = .ok (.ifCond .eq 14, 3) := by decide +kernel
theorem dX5_isAligned_4 : decode cX5_isAligned 4 = .ok (.aload_n 1, 1) := by decide +kernel
theorem dX5_isAligned_5 : decode cX5_isAligned 5 = .ok (.aload_n 0, 1) := by decide +kernel
theorem dX5_isAligned_6 : decode cX5_isAligned 6 = .ok (.getfield 14, 3) := by decide +kernel
theorem dX5_isAligned_9 : decode cX5_isAligned 9 = .ok (.invokevirtual 166, 3) := by decide +kernel
theorem dX5_isAligned_12 : decode cX5_isAligned 12 = .ok (.goto 15, 3) := by decide +kernel
theorem dX5_isAligned_15 : decode cX5_isAligned 15 = .ok (.aload_n 0, 1) := by decide +kernel
theorem dX5_isAligned_16 : decode cX5_isAligned 16 = .ok (.getfield 41, 3) := by decide +kernel
theorem dX5_isAligned_19 : decode cX5_isAligned 19 = .ok (.aload_n 1, 1) := by decide +kernel
theorem dX5_isAligned_20 : decode cX5_isAligned 20 = .ok (.aload_n 0, 1) := by decide +kernel
theorem dX5_isAligned_21 : decode cX5_isAligned 21 = .ok (.getfield 14, 3) := by decide +kernel
theorem dX5_isAligned_24 : decode cX5_isAligned 24 = .ok (.invokevirtual 170, 3) := by decide +kernel
theorem dX5_isAligned_27 : decode cX5_isAligned 27 = .ok (.ireturn, 1) := by decide +kernel
theorem dX5_read_0 : decode cX5_read 0 = .ok (.aload_n 1, 1) := by decide +kernel
theorem dX5_read_1 : decode cX5_read 1 = .ok (.ldc 45, 2) := by decide +kernel
theorem dX5_read_3 : decode cX5_read 3 = .ok (.invokevirtual 47, 3) := by decide +kernel
theorem dX5_read_6 : decode cX5_read 6 = .ok (.iconst 1, 1) := by decide +kernel
theorem dX5_read_7 : decode cX5_read 7 = .ok (.if_icmp .ne 18, 3) := by decide +kernel
theorem dX5_read_10 : decode cX5_read 10 = .ok (.aload_n 0, 1) := by decide +kernel
theorem dX5_read_11 : decode cX5_read 11 = .ok (.aload_n 1, 1) := by decide +kernel
theorem dX5_read_12 : decode cX5_read 12 = .ok (.aload_n 1, 1) := by decide +kernel
theorem dX5_read_13 : decode cX5_read 13 = .ok (.ldc 45, 2) := by decide +kernel
theorem dX5_read_15 : decode cX5_read 15 = .ok (.iconst 0, 1) := by decide +kernel
theorem dX5_read_16 : decode cX5_read 16 = .ok (.invokevirtual 53, 3) := by decide +kernel
theorem dX5_read_19 : decode cX5_read 19 = .ok (.invokevirtual 57, 3) := by decide +kernel
theorem dX5_read_22 : decode cX5_read 22 = .ok (.ifCond .ne 5, 3) := by decide +kernel
theorem dX5_read_25 : decode cX5_read 25 = .ok (.iconst 1, 1) := by decide +kernel
theorem dX5_read_26 : decode cX5_read 26 = .ok (.ireturn, 1) := by decide +kernel
theorem dX5_read_27 : decode cX5_read 27 = .ok (.aload_n 0, 1) := by decide +kernel
theorem dX5_read_28 : decode cX5_read 28 = .ok (.iconst 0, 1) := by decide +kernel
theorem dX5_read_29 : decode cX5_read 29 = .ok (.invokevirtual 61, 3) := by decide +kernel
theorem dX5_read_32 : decode cX5_read 32 = .ok (.aload_n 0, 1) := by decide +kernel
theorem dX5_read_33 : decode cX5_read 33 = .ok (.getfield 41, 3) := by decide +kernel
theorem dX5_read_36 : decode cX5_read 36 = .ok (.iconst 3, 1) := by decide +kernel
theorem dX5_read_37 : decode cX5_read 37 = .ok (.aload_n 0, 1) := by decide +kernel
theorem dX5_read_38 : decode cX5_read 38 = .ok (.getfield 20, 3) := by decide +kernel
theorem dX5_read_41 : decode cX5_read 41 = .ok (.invokevirtual 66, 3) := by decide +kernel
theorem dX5_read_44 : decode cX5_read 44 = .ok (.ifCond .eq 5, 3) := by decide +kernel
theorem dX5_read_47 : decode cX5_read 47 = .ok (.iconst 5, 1) := by decide +kernel
theorem dX5_read_48 : decode cX5_read 48 = .ok (.ireturn, 1) := by decide +kernel
theorem dX5_read_49 : decode cX5_read 49 = .ok (.aload_n 0, 1) := by decide +kernel
theorem dX5_read_50 : decode cX5_read 50 = .ok (.getfield 41, 3) := by decide +kernel
theorem dX5_read_53 : decode cX5_read 53 = .ok (.aload_n 0, 1) := by decide +kernel
theorem dX5_read_54 : decode cX5_read 54 = .ok (.getfield 20, 3) := by decide +kernel
theorem dX5_read_57 : decode cX5_read 57 = .ok (.ldc 70, 2) := by decide +kernel
theorem dX5_read_59 : decode cX5_read 59 = .ok (.iconst 0, 1) := by decide +kernel
theorem dX5_read_60 : decode cX5_read 60 = .ok (.invokevirtual 72, 3) := by decide +kernel
theorem dX5_read_63 : decode cX5_read 63 = .ok (.istore_n 2, 1) := by decide +kernel
theorem dX5_read_64 : decode cX5_read 64 = .ok (.iload_n 2, 1) := by decide +kernel
theorem dX5_read_65 : decode cX5_read 65 = .ok (.ifCond .lt 7, 3) := by decide +kernel
theorem dX5_read_68 : decode cX5_read 68 = .ok (.iconst 1, 1) := by decide +kernel
theorem dX5_read_69 : decode cX5_read 69 = .ok (.goto 4, 3) := by decide +kernel
theorem dX5_read_72 : decode cX5_read 72 = .ok (.iconst 0, 1) := by decide +kernel
theorem dX5_read_73 : decode cX5_read 73 = .ok (.istore_n 3, 1) := by decide +kernel
theorem dX5_read_74 : decode cX5_read 74 = .ok (.iload_n 3, 1) := by decide +kernel
theorem dX5_read_75 : decode cX5_read 75 = .ok (.ifCond .ne 50, 3) := by decide +kernel
theorem dX5_read_78 : decode cX5_read 78 = .ok (.aload_n 0, 1) := by decide +kernel
theorem dX5_read_79 : decode cX5_read 79 = .ok (.aload_n 0, 1) := by decide +kernel
theorem dX5_read_80 : decode cX5_read 80 = .ok (.getfield 41, 3) := by decide +kernel
theorem dX5_read_83 : decode cX5_read 83 = .ok (.aload_n 0, 1) := by decide +kernel
theorem dX5_read_84 : decode cX5_read 84 = .ok (.getfield 14, 3) := by decide +kernel
theorem dX5_read_87 : decode cX5_read 87 = .ok (.invokevirtual 76, 3) := by decide +kernel
theorem dX5_read_90 : decode cX5_read 90 = .ok (.invokevirtual 61, 3) := by decide +kernel
theorem dX5_read_93 : decode cX5_read 93 = .ok (.aload_n 0, 1) := by decide +kernel
theorem dX5_read_94 : decode cX5_read 94 = .ok (.getfield 41, 3) := by decide +kernel
theorem dX5_read_97 : decode cX5_read 97 = .ok (.iconst 3, 1) := by decide +kernel
theorem dX5_read_98 : decode cX5_read 98 = .ok (.aload_n 0, 1) := by decide +kernel
theorem dX5_read_99 : decode cX5_read 99 = .ok (.getfield 20, 3) := by decide +kernel
theorem dX5_read_102 : decode cX5_read 102 = .ok (.invokevirtual 66, 3) := by decide +kernel
theorem dX5_read_105 : decode cX5_read 105 = .ok (.ifCond .eq 5, 3) := by decide +kernel
theorem dX5_read_108 : decode cX5_read 108 = .ok (.iconst 5, 1) := by decide +kernel
theorem dX5_read_109 : decode cX5_read 109 = .ok (.ireturn, 1) := by decide +kernel
theorem dX5_read_110 : decode cX5_read 110 = .ok (.aload_n 0, 1) := by decide +kernel
theorem dX5_read_111 : decode cX5_read 111 = .ok (.getfield 41, 3) := by decide +kernel
theorem dX5_read_114 : decode cX5_read 114 = .ok (.aload_n 0, 1) := by decide +kernel
theorem dX5_read_115 : decode cX5_read 115 = .ok (.getfield 20, 3) := by decide +kernel
theorem dX5_read_118 : decode cX5_read 118 = .ok (.ldc 70, 2) := by decide +kernel
theorem dX5_read_120 : decode cX5_read 120 = .ok (.iconst 0, 1) := by decide +kernel
theorem dX5_read_121 : decode cX5_read 121 = .ok (.invokevirtual 72, 3) := by decide +kernel
theorem dX5_read_124 : decode cX5_read 124 = .ok (.istore_n 2, 1) := by decide +kernel
theorem dX5_read_125 : decode cX5_read 125 = .ok (.iload_n 2, 1) := by decide +kernel
theorem dX5_read_126 : decode cX5_read 126 = .ok (.ifCond .ge 7, 3) := by decide +kernel
theorem dX5_read_129 : decode cX5_read 129 = .ok (.iconst 0, 1) := by decide +kernel
theorem dX5_read_130 : decode cX5_read 130 = .ok (.goto 16, 3) := by decide +kernel
theorem dX5_read_133 : decode cX5_read 133 = .ok (.aload_n 0, 1) := by decide +kernel
theorem dX5_read_134 : decode cX5_read 134 = .ok (.aload_n 0, 1) := by decide +kernel
theorem dX5_read_135 : decode cX5_read 135 = .ok (.getfield 41, 3) := by decide +kernel
theorem dX5_read_138 : decode cX5_read 138 = .ok (.iload_n 2, 1) := by decide +kernel
theorem dX5_read_139 : decode cX5_read 139 = .ok (.invokevirtual 80, 3) := by decide +kernel
theorem dX5_read_142 : decode cX5_read 142 = .ok (.iload_n 3, 1) := by decide +kernel
theorem dX5_read_143 : decode cX5_read 143 = .ok (.invokevirtual 84, 3) := by decide +kernel
theorem dX5_read_146 : decode cX5_read 146 = .ok (.ireturn, 1) := by decide +kernel
theorem dX5_readDomain_0 : decode cX5_readDomain 0 = .ok (.aload_n 1, 1) := by decide +kernel
theorem dX5_readDomain_1 : decode cX5_readDomain 1 = .ok (.getfield 88, 3) := by decide +kernel
theorem dX5_readDomain_4 : decode cX5_readDomain 4 = .ok (.iload_n 2, 1) := by decide +kernel
theorem dX5_readDomain_5 : decode cX5_readDomain 5 = .ok (.iaload, 1) := by decide +kernel
theorem dX5_readDomain_6 : decode cX5_readDomain 6 = .ok (.istore_n 3, 1) := by decide +kernel
theorem dX5_readDomain_7 : decode cX5_readDomain 7 = .ok (.aload_n 1, 1) := by decide +kernel
theorem dX5_readDomain_8 : decode cX5_readDomain 8 = .ok (.getfield 92, 3) := by decide +kernel
theorem dX5_readDomain_11 : decode cX5_readDomain 11 = .ok (.bipush 64, 2) := by decide +kernel
theorem dX5_readDomain_13 : decode cX5_readDomain 13 = .ok (.aload_n 1, 1) := by decide +kernel
theorem dX5_readDomain_14 : decode cX5_readDomain 14 = .ok (.getfield 95, 3) := by decide +kernel
theorem dX5_readDomain_17 : decode cX5_readDomain 17 = .ok (.iload_n 2, 1) := by decide +kernel
theorem dX5_readDomain_18 : decode cX5_readDomain 18 = .ok (.iaload, 1) := by decide +kernel
theorem dX5_readDomain_19 : decode cX5_readDomain 19 = .ok (.iconst 1, 1) := by decide +kernel
theorem dX5_readDomain_20 : decode cX5_readDomain 20 = .ok (.iadd, 1) := by decide +kernel
theorem dX5_readDomain_21 : decode cX5_readDomain 21 = .ok (.iload_n 3, 1) := by decide +kernel
theorem dX5_readDomain_22 : decode cX5_readDomain 22 = .ok (.invokevirtual 98, 3) := by decide +kernel
theorem dX5_readDomain_25 : decode cX5_readDomain 25 = .ok (.istore 4, 2) := by decide +kernel
theorem dX5_readDomain_27 : decode cX5_readDomain 27 = .ok (.aload_n 0, 1) := by decide +kernel
theorem dX5_readDomain_28 : decode cX5_readDomain 28 = .ok (.getfield 14, 3) := by decide +kernel
theorem dX5_readDomain_31 : decode cX5_readDomain 31 = .ok (.invokevirtual 102, 3) := by decide +kernel
theorem dX5_readDomain_34 : decode cX5_readDomain 34 = .ok (.aload_n 1, 1) := by decide +kernel
theorem dX5_readDomain_35 : decode cX5_readDomain 35 = .ok (.getfield 92, 3) := by decide +kernel
theorem dX5_readDomain_38 : decode cX5_readDomain 38 = .ok (.iload 4, 2) := by decide +kernel
theorem dX5_readDomain_40 : decode cX5_readDomain 40 = .ok (.invokevirtual 105, 3) := by decide +kernel
theorem dX5_readDomain_43 : decode cX5_readDomain 43 = .ok (.bipush 64, 2) := by decide +kernel
theorem dX5_readDomain_45 : decode cX5_readDomain 45 = .ok (.if_icmp .eq 5, 3) := by decide +kernel
theorem dX5_readDomain_48 : decode cX5_readDomain 48 = .ok (.iconst 0, 1) := by decide +kernel
theorem dX5_readDomain_49 : decode cX5_readDomain 49 = .ok (.ireturn, 1) := by decide +kernel
theorem dX5_readDomain_50 : decode cX5_readDomain 50 = .ok (.iload 4, 2) := by decide +kernel
theorem dX5_readDomain_52 : decode cX5_readDomain 52 = .ok (.iconst 1, 1) := by decide +kernel
theorem dX5_readDomain_53 : decode cX5_readDomain 53 = .ok (.iadd, 1) := by decide +kernel
theorem dX5_readDomain_54 : decode cX5_readDomain 54 = .ok (.istore 5, 2) := by decide +kernel
theorem dX5_readDomain_56 : decode cX5_readDomain 56 = .ok (.iload 5, 2) := by decide +kernel
theorem dX5_readDomain_58 : decode cX5_readDomain 58 = .ok (.iload_n 3, 1) := by decide +kernel
theorem dX5_readDomain_59 : decode cX5_readDomain 59 = .ok (.if_icmp .ge 57, 3) := by decide +kernel
theorem dX5_readDomain_62 : decode cX5_readDomain 62 = .ok (.aload_n 1, 1) := by decide +kernel
theorem dX5_readDomain_63 : decode cX5_readDomain 63 = .ok (.getfield 92, 3) := by decide +kernel
theorem dX5_readDomain_66 : decode cX5_readDomain 66 = .ok (.iload 5, 2) := by decide +kernel
theorem dX5_readDomain_68 : decode cX5_readDomain 68 = .ok (.invokevirtual 105, 3) := by decide +kernel
theorem dX5_readDomain_71 : decode cX5_readDomain 71 = .ok (.istore 6, 2) := by decide +kernel
theorem dX5_readDomain_73 : decode cX5_readDomain 73 = .ok (.iload 6, 2) := by decide +kernel
theorem dX5_readDomain_75 : decode cX5_readDomain 75 = .ok (.invokestatic 109, 3) := by decide +kernel
theorem dX5_readDomain_78 : decode cX5_readDomain 78 = .ok (.ifCond .ne 38, 3) := by decide +kernel
theorem dX5_readDomain_81 : decode cX5_readDomain 81 = .ok (.iload 6, 2) := by decide +kernel
theorem dX5_readDomain_83 : decode cX5_readDomain 83 = .ok (.bipush 62, 2) := by decide +kernel
theorem dX5_readDomain_85 : decode cX5_readDomain 85 = .ok (.if_icmp .eq 31, 3) := by decide +kernel
theorem dX5_readDomain_88 : decode cX5_readDomain 88 = .ok (.iload 6, 2) := by decide +kernel
theorem dX5_readDomain_90 : decode cX5_readDomain 90 = .ok (.bipush 10, 2) := by decide +kernel
theorem dX5_readDomain_92 : decode cX5_readDomain 92 = .ok (.if_icmp .ne 6, 3) := by decide +kernel
theorem dX5_readDomain_95 : decode cX5_readDomain 95 = .ok (.goto 21, 3) := by decide +kernel
theorem dX5_readDomain_98 : decode cX5_readDomain 98 = .ok (.aload_n 0, 1) := by decide +kernel
theorem dX5_readDomain_99 : decode cX5_readDomain 99 = .ok (.getfield 14, 3) := by decide +kernel
theorem dX5_readDomain_102 : decode cX5_readDomain 102 = .ok (.iload 6, 2) := by decide +kernel
theorem dX5_readDomain_104 : decode cX5_readDomain 104 = .ok (.invokestatic 113, 3) := by decide +kernel
theorem dX5_readDomain_107 : decode cX5_readDomain 107 = .ok (.invokevirtual 116, 3) := by decide +kernel
theorem dX5_readDomain_110 : decode cX5_readDomain 110 = .ok (.iinc 5 1, 3) := by decide +kernel
theorem dX5_readDomain_113 : decode cX5_readDomain 113 = .ok (.goto (-57), 3) := by decide +kernel
theorem dX5_readDomain_116 : decode cX5_readDomain 116 = .ok (.aload_n 0, 1) := by decide +kernel
theorem dX5_readDomain_117 : decode cX5_readDomain 117 = .ok (.getfield 14, 3) := by decide +kernel
theorem dX5_readDomain_120 : decode cX5_readDomain 120 = .ok (.iconst 0, 1) := by decide +kernel
theorem dX5_readDomain_121 : decode cX5_readDomain 121 = .ok (.aload_n 0, 1) := by decide +kernel
theorem dX5_readDomain_122 : decode cX5_readDomain 122 = .ok (.getfield 14, 3) := by decide +kernel
theorem dX5_readDomain_125 : decode cX5_readDomain 125 = .ok (.getfield 119, 3) := by decide +kernel
theorem dX5_readDomain_128 : decode cX5_readDomain 128 = .ok (.invokevirtual 122, 3) := by decide +kernel
theorem dX5_readDomain_131 : decode cX5_readDomain 131 = .ok (.ireturn, 1) := by decide +kernel
theorem dX5_readRecord_0 : decode cX5_readRecord 0 = .ok (.aload_n 0, 1) := by decide +kernel
theorem dX5_readRecord_1 : decode cX5_readRecord 1 = .ok (.getfield 26, 3) := by decide +kernel
theorem dX5_readRecord_4 : decode cX5_readRecord 4 = .ok (.aload_n 1, 1) := by decide +kernel
theorem dX5_readRecord_5 : decode cX5_readRecord 5 = .ok (.iconst 0, 1) := by decide +kernel
theorem dX5_readRecord_6 : decode cX5_readRecord 6 = .ok (.aload_n 1, 1) := by decide +kernel
theorem dX5_readRecord_7 : decode cX5_readRecord 7 = .ok (.getfield 119, 3) := by decide +kernel
theorem dX5_readRecord_10 : decode cX5_readRecord 10 = .ok (.invokevirtual 136, 3) := by decide +kernel
theorem dX5_readRecord_13 : decode cX5_readRecord 13 = .ok (.ifCond .ne 6, 3) := by decide +kernel
theorem dX5_readRecord_16 : decode cX5_readRecord 16 = .ok (.bipush 6, 2) := by decide +kernel
theorem dX5_readRecord_18 : decode cX5_readRecord 18 = .ok (.ireturn, 1) := by decide +kernel
theorem dX5_readRecord_19 : decode cX5_readRecord 19 = .ok (.aload_n 0, 1) := by decide +kernel
theorem dX5_readRecord_20 : decode cX5_readRecord 20 = .ok (.aload_n 0, 1) := by decide +kernel
theorem dX5_readRecord_21 : decode cX5_readRecord 21 = .ok (.ldc 140, 2) := by decide +kernel
theorem dX5_readRecord_23 : decode cX5_readRecord 23 = .ok (.invokevirtual 142, 3) := by decide +kernel
theorem dX5_readRecord_26 : decode cX5_readRecord 26 = .ok (.putfield 30, 3) := by decide +kernel
theorem dX5_readRecord_29 : decode cX5_readRecord 29 = .ok (.aload_n 0, 1) := by decide +kernel
theorem dX5_readRecord_30 : decode cX5_readRecord 30 = .ok (.getfield 30, 3) := by decide +kernel
theorem dX5_readRecord_33 : decode cX5_readRecord 33 = .ok (.bipush 6, 2) := by decide +kernel
theorem dX5_readRecord_35 : decode cX5_readRecord 35 = .ok (.if_icmp .eq 29, 3) := by decide +kernel
theorem dX5_readRecord_38 : decode cX5_readRecord 38 = .ok (.iload_n 2, 1) := by decide +kernel
theorem dX5_readRecord_39 : decode cX5_readRecord 39 = .ok (.ifCond .ne 25, 3) := by decide +kernel
theorem dX5_readRecord_42 : decode cX5_readRecord 42 = .ok (.aload_n 0, 1) := by decide +kernel
theorem dX5_readRecord_43 : decode cX5_readRecord 43 = .ok (.getfield 26, 3) := by decide +kernel
theorem dX5_readRecord_46 : decode cX5_readRecord 46 = .ok (.ldc 145, 2) := by decide +kernel
theorem dX5_readRecord_48 : decode cX5_readRecord 48 = .ok (.invokevirtual 147, 3) := by decide +kernel
theorem dX5_readRecord_51 : decode cX5_readRecord 51 = .ok (.ifCond .eq 13, 3) := by decide +kernel
theorem dX5_readRecord_54 : decode cX5_readRecord 54 = .ok (.aload_n 0, 1) := by decide +kernel
theorem dX5_readRecord_55 : decode cX5_readRecord 55 = .ok (.aload_n 0, 1) := by decide +kernel
theorem dX5_readRecord_56 : decode cX5_readRecord 56 = .ok (.ldc 145, 2) := by decide +kernel
theorem dX5_readRecord_58 : decode cX5_readRecord 58 = .ok (.invokevirtual 142, 3) := by decide +kernel
theorem dX5_readRecord_61 : decode cX5_readRecord 61 = .ok (.putfield 30, 3) := by decide +kernel
theorem dX5_readRecord_64 : decode cX5_readRecord 64 = .ok (.aload_n 0, 1) := by decide +kernel
theorem dX5_readRecord_65 : decode cX5_readRecord 65 = .ok (.aload_n 0, 1) := by decide +kernel
theorem dX5_readRecord_66 : decode cX5_readRecord 66 = .ok (.getfield 26, 3) := by decide +kernel
theorem dX5_readRecord_69 : decode cX5_readRecord 69 = .ok (.ldc 150, 2) := by decide +kernel
theorem dX5_readRecord_71 : decode cX5_readRecord 71 = .ok (.ldc 152, 2) := by decide +kernel
theorem dX5_readRecord_73 : decode cX5_readRecord 73 = .ok (.invokevirtual 154, 3) := by decide +kernel
theorem dX5_readRecord_76 : decode cX5_readRecord 76 = .ok (.putfield 34, 3) := by decide +kernel
theorem dX5_readRecord_79 : decode cX5_readRecord 79 = .ok (.aload_n 0, 1) := by decide +kernel
theorem dX5_readRecord_80 : decode cX5_readRecord 80 = .ok (.aload_n 0, 1) := by decide +kernel
theorem dX5_readRecord_81 : decode cX5_readRecord 81 = .ok (.getfield 26, 3) := by decide +kernel
theorem dX5_readRecord_84 : decode cX5_readRecord 84 = .ok (.ldc 158, 2) := by decide +kernel
theorem dX5_readRecord_86 : decode cX5_readRecord 86 = .ok (.ldc 152, 2) := by decide +kernel
theorem dX5_readRecord_88 : decode cX5_readRecord 88 = .ok (.invokevirtual 154, 3) := by decide +kernel
theorem dX5_readRecord_91 : decode cX5_readRecord 91 = .ok (.putfield 38, 3) := by decide +kernel
theorem dX5_readRecord_94 : decode cX5_readRecord 94 = .ok (.aload_n 0, 1) := by decide +kernel
theorem dX5_readRecord_95 : decode cX5_readRecord 95 = .ok (.getfield 30, 3) := by decide +kernel
theorem dX5_readRecord_98 : decode cX5_readRecord 98 = .ok (.bipush 6, 2) := by decide +kernel
theorem dX5_readRecord_100 : decode cX5_readRecord 100 = .ok (.if_icmp .ne 8, 3) := by decide +kernel
theorem dX5_readRecord_103 : decode cX5_readRecord 103 = .ok (.bipush 6, 2) := by decide +kernel
theorem dX5_readRecord_105 : decode cX5_readRecord 105 = .ok (.goto 4, 3) := by decide +kernel
theorem dX5_readRecord_108 : decode cX5_readRecord 108 = .ok (.iconst (-1), 1) := by decide +kernel
theorem dX5_readRecord_109 : decode cX5_readRecord 109 = .ok (.ireturn, 1) := by decide +kernel
theorem dX5_setPlace_0 : decode cX5_setPlace 0 = .ok (.aload_n 0, 1) := by decide +kernel
theorem dX5_setPlace_1 : decode cX5_setPlace 1 = .ok (.getfield 20, 3) := by decide +kernel
theorem dX5_setPlace_4 : decode cX5_setPlace 4 = .ok (.invokevirtual 102, 3) := by decide +kernel
theorem dX5_setPlace_7 : decode cX5_setPlace 7 = .ok (.aload_n 0, 1) := by decide +kernel
theorem dX5_setPlace_8 : decode cX5_setPlace 8 = .ok (.getfield 20, 3) := by decide +kernel
theorem dX5_setPlace_11 : decode cX5_setPlace 11 = .ok (.ldc 126, 2) := by decide +kernel
theorem dX5_setPlace_13 : decode cX5_setPlace 13 = .ok (.invokevirtual 128, 3) := by decide +kernel
theorem dX5_setPlace_16 : decode cX5_setPlace 16 = .ok (.aload_n 0, 1) := by decide +kernel
theorem dX5_setPlace_17 : decode cX5_setPlace 17 = .ok (.getfield 20, 3) := by decide +kernel
theorem dX5_setPlace_20 : decode cX5_setPlace 20 = .ok (.aload_n 0, 1) := by decide +kernel
theorem dX5_setPlace_21 : decode cX5_setPlace 21 = .ok (.getfield 14, 3) := by decide +kernel
theorem dX5_setPlace_24 : decode cX5_setPlace 24 = .ok (.iload_n 1, 1) := by decide +kernel
theorem dX5_setPlace_25 : decode cX5_setPlace 25 = .ok (.aload_n 0, 1) := by decide +kernel
theorem dX5_setPlace_26 : decode cX5_setPlace 26 = .ok (.getfield 14, 3) := by decide +kernel
theorem dX5_setPlace_29 : decode cX5_setPlace 29 = .ok (.getfield 119, 3) := by decide +kernel
theorem dX5_setPlace_32 : decode cX5_setPlace 32 = .ok (.invokevirtual 132, 3) := by decide +kernel
theorem dX5_setPlace_35 : decode cX5_setPlace 35 = .ok (.return_, 1) := by decide +kernel
theorem dX5_wantOf_0 : decode cX5_wantOf 0 = .ok (.aload_n 0, 1) := by decide +kernel
theorem dX5_wantOf_1 : decode cX5_wantOf 1 = .ok (.getfield 26, 3) := by decide +kernel
theorem dX5_wantOf_4 : decode cX5_wantOf 4 = .ok (.aload_n 1, 1) := by decide +kernel
theorem dX5_wantOf_5 : decode cX5_wantOf 5 = .ok (.ldc 160, 2) := by decide +kernel
theorem dX5_wantOf_7 : decode cX5_wantOf 7 = .ok (.invokevirtual 154, 3) := by decide +kernel
theorem dX5_wantOf_10 : decode cX5_wantOf 10 = .ok (.ifCond .eq 6, 3) := by decide +kernel
theorem dX5_wantOf_13 : decode cX5_wantOf 13 = .ok (.bipush 7, 2) := by decide +kernel
theorem dX5_wantOf_15 : decode cX5_wantOf 15 = .ok (.ireturn, 1) := by decide +kernel
theorem dX5_wantOf_16 : decode cX5_wantOf 16 = .ok (.aload_n 0, 1) := by decide +kernel
theorem dX5_wantOf_17 : decode cX5_wantOf 17 = .ok (.getfield 26, 3) := by decide +kernel
theorem dX5_wantOf_20 : decode cX5_wantOf 20 = .ok (.aload_n 1, 1) := by decide +kernel
theorem dX5_wantOf_21 : decode cX5_wantOf 21 = .ok (.ldc 162, 2) := by decide +kernel
theorem dX5_wantOf_23 : decode cX5_wantOf 23 = .ok (.invokevirtual 154, 3) := by decide +kernel
theorem dX5_wantOf_26 : decode cX5_wantOf 26 = .ok (.ifCond .eq 6, 3) := by decide +kernel
theorem dX5_wantOf_29 : decode cX5_wantOf 29 = .ok (.bipush 8, 2) := by decide +kernel
theorem dX5_wantOf_31 : decode cX5_wantOf 31 = .ok (.ireturn, 1) := by decide +kernel
theorem dX5_wantOf_32 : decode cX5_wantOf 32 = .ok (.aload_n 0, 1) := by decide +kernel
theorem dX5_wantOf_33 : decode cX5_wantOf 33 = .ok (.getfield 26, 3) := by decide +kernel
theorem dX5_wantOf_36 : decode cX5_wantOf 36 = .ok (.aload_n 1, 1) := by decide +kernel
theorem dX5_wantOf_37 : decode cX5_wantOf 37 = .ok (.ldc 164, 2) := by decide +kernel
theorem dX5_wantOf_39 : decode cX5_wantOf 39 = .ok (.invokevirtual 154, 3) := by decide +kernel
theorem dX5_wantOf_42 : decode cX5_wantOf 42 = .ok (.ifCond .eq 8, 3) := by decide +kernel
theorem dX5_wantOf_45 : decode cX5_wantOf 45 = .ok (.bipush 9, 2) := by decide +kernel
theorem dX5_wantOf_47 : decode cX5_wantOf 47 = .ok (.goto 5, 3) := by decide +kernel
theorem dX5_wantOf_50 : decode cX5_wantOf 50 = .ok (.bipush 6, 2) := by decide +kernel
theorem dX5_wantOf_52 : decode cX5_wantOf 52 = .ok (.ireturn, 1) := by decide +kernel
theorem kt_456 : Cond.fieldLink RX5 26 "PostGate$Policy" "record" "LPostGate$Tags;" ∈ tb := tb_at (i := 398) (by decide +kernel) (by decide +kernel)
theorem kt_457 : Cond.methodLink RX5 154 yX9_is ∈ tb := tb_at (i := 1161) (by decide +kernel) (by decide +kernel)
theorem kt_458 : Cond.fieldLink RX5 20 "PostGate$Policy" "place" "LPostGate$Bytes;" ∈ tb := tb_at (i := 397) (by decide +kernel) (by decide +kernel)
theorem kt_459 : Cond.methodLink RX5 102 yX0_clear ∈ tb := tb_at (i := 1132) (by decide +kernel) (by decide +kernel)
theorem kt_460 : Cond.methodLink RX5 128 yX0_addText ∈ tb := tb_at (i := 1143) (by decide +kernel) (by decide +kernel)
theorem kt_461 : Cond.fieldLink RX5 14 "PostGate$Policy" "domain" "LPostGate$Bytes;" ∈ tb := tb_at (i := 396) (by decide +kernel) (by decide +kernel)
theorem kt_462 : Cond.methodLink RX5 132 yX0_addRange ∈ tb := tb_at (i := 1144) (by decide +kernel) (by decide +kernel)
theorem kt_463 : Cond.fieldLink RX5 41 "PostGate$Policy" "directory" "LPostGate$Directory;" ∈ tb := tb_at (i := 395) (by decide +kernel) (by decide +kernel)
theorem kt_464 : Cond.code yX2_isSameHouse cX2_isSameHouse 4 (some .boolean) ∈ tb := tb_at (i := 1177) (by decide +kernel) (by decide +kernel)
theorem kt_465 : Cond.methodLink RX5 170 yX2_isSameHouse ∈ tb := tb_at (i := 1174) (by decide +kernel) (by decide +kernel)
theorem kt_466 : Cond.instanceMethod yX2_isSameHouse ∈ tb := tb_at (i := 1175) (by decide +kernel) (by decide +kernel)
theorem kt_467 : Cond.selects RX2 yX2_isSameHouse yX2_isSameHouse ∈ tb := tb_at (i := 1176) (by decide +kernel) (by decide +kernel)
theorem kt_468 : Cond.methodLink RX5 166 yX0_same ∈ tb := tb_at (i := 1173) (by decide +kernel) (by decide +kernel)
theorem kt_469 : Cond.methodLink RX5 136 yX9_read ∈ tb := tb_at (i := 1154) (by decide +kernel) (by decide +kernel)
theorem kt_470 : Cond.code yX5_wantOf cX5_wantOf 2 (some .int) ∈ tb := tb_at (i := 1159) (by decide +kernel) (by decide +kernel)
theorem kt_471 : Cond.initialized RX5 ∈ tb := tb_at (i := 91) (by decide +kernel) (by decide +kernel)
theorem kt_472 : Cond.methodLink RX5 142 yX5_wantOf ∈ tb := tb_at (i := 1156) (by decide +kernel) (by decide +kernel)
theorem kt_473 : Cond.instanceMethod yX5_wantOf ∈ tb := tb_at (i := 1158) (by decide +kernel) (by decide +kernel)
theorem kt_474 : Cond.selects RX5 yX5_wantOf yX5_wantOf ∈ tb := tb_at (i := 40) (by decide +kernel) (by decide +kernel)
theorem kt_475 : Cond.fieldLink RX5 30 "PostGate$Policy" "wanted" "I" ∈ tb := tb_at (i := 399) (by decide +kernel) (by decide +kernel)
theorem kt_476 : Cond.fieldLink RX5 34 "PostGate$Policy" "strictSender" "Z" ∈ tb := tb_at (i := 401) (by decide +kernel) (by decide +kernel)
theorem kt_477 : Cond.fieldLink RX5 38 "PostGate$Policy" "strictSeal" "Z" ∈ tb := tb_at (i := 403) (by decide +kernel) (by decide +kernel)
theorem kt_478 : Cond.methodLink RX5 147 yX9_has ∈ tb := tb_at (i := 1165) (by decide +kernel) (by decide +kernel)
theorem kt_479 : Cond.methodLink RX5 98 yX0_findLast ∈ tb := tb_at (i := 1131) (by decide +kernel) (by decide +kernel)
theorem kt_480 : Cond.methodLink RX5 105 yX0_at ∈ tb := tb_at (i := 1133) (by decide +kernel) (by decide +kernel)
theorem kt_481 : Cond.methodLink RX5 122 yX0_isName ∈ tb := tb_at (i := 1137) (by decide +kernel) (by decide +kernel)
theorem kt_482 : Cond.methodLink RX5 109 yX0_isWhite ∈ tb := tb_at (i := 1134) (by decide +kernel) (by decide +kernel)
theorem kt_483 : Cond.methodLink RX5 113 yX0_smallOf ∈ tb := tb_at (i := 1135) (by decide +kernel) (by decide +kernel)
theorem kt_484 : Cond.methodLink RX5 116 yX0_add ∈ tb := tb_at (i := 1136) (by decide +kernel) (by decide +kernel)
theorem kt_485 : Cond.methodLink RX5 47 yX4_countOf ∈ tb := tb_at (i := 1125) (by decide +kernel) (by decide +kernel)
theorem kt_486 : Cond.code yX4_fieldOf cX4_fieldOf 5 (some .int) ∈ tb := tb_at (i := 841) (by decide +kernel) (by decide +kernel)
theorem kt_487 : Cond.methodLink RX5 53 yX4_fieldOf ∈ tb := tb_at (i := 1126) (by decide +kernel) (by decide +kernel)
theorem kt_488 : Cond.instanceMethod yX4_fieldOf ∈ tb := tb_at (i := 839) (by decide +kernel) (by decide +kernel)
theorem kt_489 : Cond.selects RX4 yX4_fieldOf yX4_fieldOf ∈ tb := tb_at (i := 840) (by decide +kernel) (by decide +kernel)
theorem kt_490 : Cond.code yX5_readDomain cX5_readDomain 7 (some .boolean) ∈ tb := tb_at (i := 1130) (by decide +kernel) (by decide +kernel)
theorem kt_491 : Cond.methodLink RX5 57 yX5_readDomain ∈ tb := tb_at (i := 1127) (by decide +kernel) (by decide +kernel)
theorem kt_492 : Cond.instanceMethod yX5_readDomain ∈ tb := tb_at (i := 1129) (by decide +kernel) (by decide +kernel)
theorem kt_493 : Cond.selects RX5 yX5_readDomain yX5_readDomain ∈ tb := tb_at (i := 37) (by decide +kernel) (by decide +kernel)
theorem kt_494 : Cond.code yX5_setPlace cX5_setPlace 2 none ∈ tb := tb_at (i := 1141) (by decide +kernel) (by decide +kernel)
theorem kt_495 : Cond.methodLink RX5 61 yX5_setPlace ∈ tb := tb_at (i := 1138) (by decide +kernel) (by decide +kernel)
theorem kt_496 : Cond.instanceMethod yX5_setPlace ∈ tb := tb_at (i := 1140) (by decide +kernel) (by decide +kernel)
theorem kt_497 : Cond.selects RX5 yX5_setPlace yX5_setPlace ∈ tb := tb_at (i := 38) (by decide +kernel) (by decide +kernel)
theorem kt_498 : Cond.methodLink RX5 66 yX2_has ∈ tb := tb_at (i := 1145) (by decide +kernel) (by decide +kernel)
theorem kt_499 : Cond.code yX2_onlyText cX2_onlyText 7 (some .int) ∈ tb := tb_at (i := 613) (by decide +kernel) (by decide +kernel)
theorem kt_500 : Cond.methodLink RX5 72 yX2_onlyText ∈ tb := tb_at (i := 1147) (by decide +kernel) (by decide +kernel)
theorem kt_501 : Cond.instanceMethod yX2_onlyText ∈ tb := tb_at (i := 611) (by decide +kernel) (by decide +kernel)
theorem kt_502 : Cond.selects RX2 yX2_onlyText yX2_onlyText ∈ tb := tb_at (i := 612) (by decide +kernel) (by decide +kernel)
theorem kt_503 : Cond.methodLink RX5 80 yX2_valueAt ∈ tb := tb_at (i := 1149) (by decide +kernel) (by decide +kernel)
theorem kt_504 : Cond.code yX5_readRecord cX5_readRecord 3 (some .int) ∈ tb := tb_at (i := 1153) (by decide +kernel) (by decide +kernel)
theorem kt_505 : Cond.methodLink RX5 84 yX5_readRecord ∈ tb := tb_at (i := 1150) (by decide +kernel) (by decide +kernel)
theorem kt_506 : Cond.instanceMethod yX5_readRecord ∈ tb := tb_at (i := 1152) (by decide +kernel) (by decide +kernel)
theorem kt_507 : Cond.selects RX5 yX5_readRecord yX5_readRecord ∈ tb := tb_at (i := 39) (by decide +kernel) (by decide +kernel)
theorem kt_508 : Cond.methodLink RX5 76 yX2_houseStart ∈ tb := tb_at (i := 1148) (by decide +kernel) (by decide +kernel)
theorem kn_13 : Cond.fieldLinkNest RX5 119 "PostGate$Bytes" "size" "I" "PostGate" ∈ nw := nw_at (i := 46) (by decide +kernel) rfl
theorem kn_14 : Cond.fieldLinkNest RX5 88 "PostGate$Message" "ends" "[I" "PostGate" ∈ nw := nw_at (i := 358) (by decide +kernel) rfl
theorem kn_15 : Cond.fieldLinkNest RX5 92 "PostGate$Message" "text" "LPostGate$Bytes;" "PostGate" ∈ nw := nw_at (i := 352) (by decide +kernel) rfl
theorem kn_16 : Cond.fieldLinkNest RX5 95 "PostGate$Message" "colons" "[I" "PostGate" ∈ nw := nw_at (i := 356) (by decide +kernel) rfl
set_option maxHeartbeats 4000000 in
set_option maxRecDepth 100000 in
theorem s_X5_wantOf (l : Launch) (dC : Nat → ClassId) (dI : Nat → Nat → Nat) (cs : Nat → ClassId) (ty : TyM) (L : List Nat) (sz : Nat) (F : Nat → va_E) (h0 : Nat) (ρ : Nat) (d : Nat) (δ : Nat) (ea : Nat) (w0 : Nat) (w1 : Nat) (rc : Nat) (rx : Nat) (ry0 : Nat) (ry1 : Nat) (ry2 : Nat) (q : Nat) (v : Nat) (k0 : Nat) (hW : WT ty L) (hL_h0 : h0 ∈ L) (hT_h0 : ty h0 = (5, ρ, [d, δ, ea, w0, w1, rc, rx, ry0, ry1, ry2])) : Met l yX5_wantOf (.code yX5_wantOf cX5_wantOf 2 (some .int) :: tb) ({ frames := 7, cells := 0, slots := 0, locals := 154 }) (va_Pc [.ref h0, .ref q] (PTE (dC, dI) cs ty L F sz [(q, v, k0)])) (va_Qi (fun (r : Int32) (_ : Unit) => True) (fun _ T9 => ∃ F2 : Nat → va_E, QT (dC, dI) cs ty L [] F F2 (va_A (va_pl L F) sz) T9) (va_A (va_pl L F) sz)) 0 0 (va_A (va_pl L F) sz) := by
  refine Met.ofW (cc := cX5_wantOf) (maxL := 2) (ret := (some .int)) (by decide) rfl ?_
  intro p e s m args below meth c s₁ B hml hv
  obtain ⟨rfl, ⟨hsz, hP, hK, hD0, hE, hO⟩, hG, hX⟩ := hv
  have hx := B.exec
  have hb := B.bytes
  have hr := B.returns
  have hts : ∀ w ∈ tb, w.before _ s = true := fun w h => atoms_spec (ws := .code yX5_wantOf cX5_wantOf 2 (some .int) :: tb) B.pre w (List.mem_cons_of_mem _ h)
  have hown : s.vm.findClass RX5 = some m.cls := findClass_of_methodNamed B.named
  have hlocks := B.notSynchronized
  subst hsz
  have hD := hD0.self (sz := s.heap.size)
  generalize hAe : va_A (va_pl L F) s.heap.size = A at hD hG hX ⊢
  have hX_q : SX q v k0 A s s.heap := hX (q, v, k0) (by simp)
  obtain ⟨xo_q, xc_q, xv_q, xf_q, xt_q, xn_q⟩ := id hX_q
  have hA : ∀ q : Nat, s.heap.size ≤ q → A q := fun q h => by rw [← hAe]; exact Or.inr h
  have hS : va_S A s.heap s.heap [] := va_S.rf
  have hR : FR ty [] F F := FR.refl
  have hl := lv_entry ([.ref h0, .ref q]) (n := 2) (Nat.le_of_ble_eq_true rfl)
  rw [lg_entry_eq]
  generalize (lg_sl ([.ref h0, .ref q]) ++ List.replicate (2 - (lg_sl ([.ref h0, .ref q])).length) Slot.unset).toArray = ls at hl ⊢
  have hl : lv_has ls 2 [(0, .ref h0), (1, .ref q)] := hl
  refine lv_aload_n hx hb dX5_wantOf_0 rfl (lv_at hl 0 rfl) ?_
  obtain ⟨hi_1, ht_2, hi_3, ⟨r_4, ht_5⟩, hi_6, ⟨r_7, ht_8⟩, hi_9, ht_10⟩ := hW.pol hL_h0 hT_h0
  obtain ⟨v0_11, v1_12, v2_13, hF_14⟩ := hO.pol hL_h0 hT_h0
  refine pg_get (ci := 5) (v := .ref rc) (C := RX5) (T := TX5) (N := 7) hx hb hts it_5 hown hK hP hL_h0 hF_14 rfl 3 (by decide) (hts _ kt_456) (fun _ h9 => h9) rfl dX5_wantOf_1 ?_
  refine lv_aload_n hx hb dX5_wantOf_4 rfl (lv_at hl 1 rfl) ?_
  obtain ⟨q_15, v_16, hr_q_15, hXc_q_15⟩ := hG.2.2.2.2 ("PostGate$Policy", 160, "none", [110, 111, 110, 101]) (by decide +kernel)
  have hXc_q_15 : SXc q_15 v_16 4 (cct [110, 111, 110, 101]) A s s.heap := hXc_q_15
  have hX_q_15 : SX q_15 v_16 4 A s s.heap := hXc_q_15.sx
  obtain ⟨xo_q_15, xc_q_15, xv_q_15, xt_q_15, xn_q_15⟩ := id hXc_q_15
  have hr_q_15 : vk_R "PostGate$Policy" 160 "none" q_15 s := hr_q_15
  refine va_ldcS hx hb hown hr_q_15 dX5_wantOf_5 ?_
  have hFc := pg_free hD hS hA
  obtain ⟨hi_17, hi_18, hi_19, hi_20, ⟨r_21, ht_22⟩, ht_23, ht_24, ht_25⟩ := hW.tags hi_9 ht_10
  have ht_22 : ty rx = (0, ρ + 3, [r_21, 700]) := ht_22
  have ht_24 : ty ry1 = (24, ρ + 72, [40]) := ht_24
  have ht_25 : ty ry2 = (24, ρ + 73, [40]) := ht_25
  obtain ⟨z_26, hF_27, hq_28⟩ := hO.tags hi_9 ht_10
  refine va_calli (va_runV (As := [.ref q, .ref q_15]) (rest := []) ⟨hx, hb, hml, hown, hts⟩ (s_X9_is l dC dI cs ty L s.heap.size F rc (ρ + 2) rx 700 ry0 ry1 ry2 q v k0 q_15 v_16 4 hW hi_9 ht_10) ⟨callB_of 2 hts (gi kt_334) rfl rfl rfl (hts _ kt_164) (hts _ kt_457) (by decide +kernel) ⟨Nat.le_of_ble_eq_true rfl, Nat.le_of_ble_eq_true rfl⟩, (hts _ kt_336), (hts _ kt_337)⟩ ⟨fun a U g mk q => ⟨q.1, PTE.calling q.2⟩, pg_recv hK hP hi_9 hF_27 (q := (RX9, TX9, 5)) rfl, fun U hU hWm => ⟨rfl, PTE.mk hU hWm hP hK hD hE hO hG (fun x hx => by simp only [List.mem_cons, List.not_mem_nil, or_false] at hx; rcases hx with hx | hx <;> subst hx <;> first | exact hX_q | exact hX_q_15) hS hFc⟩⟩ rfl rfl hl.1 rfl (lv_room (Nat.le_of_ble_eq_true rfl)) dX5_wantOf_7 ⟨by show _ + 0 ≤ 0; omega, by show _ + 0 ≤ 0; omega⟩) hS (fun q _ h => hFc q h) hFc (fun r_29 u t H1 locs ht hvm hw hB hz1 hk1 hS => ?_)
  obtain ⟨F_30, hB1⟩ := hB
  obtain rfl : F = F_30 := (funext (fun a => hB1.2.2.2 a List.not_mem_nil)).symm
  obtain ⟨hP, hD, hO, hR⟩ := QT.back hB1 ht hFc hR (fun q h => absurd h List.not_mem_nil)
  generalize H1 = H at hP hS ⊢
  have hw : (r_29 = 0 ∨ r_29 = 1) := hw
  have hw_31 := hw
  refine lv_if_eq (tgt := 16) hx hb dX5_wantOf_10 (by decide) (fun c_32 => ?_) (fun c_32 => ?_)
  ·
    refine lv_aload_n hx hb dX5_wantOf_16 rfl (lv_at hl 0 rfl) ?_
    refine pg_get (ci := 5) (v := .ref rc) (C := RX5) (T := TX5) (N := 7) hx hb hts it_5 hown hK hP hL_h0 hF_14 rfl 3 (by decide) (hts _ kt_456) (fun _ h9 => h9) rfl dX5_wantOf_17 ?_
    refine lv_aload_n hx hb dX5_wantOf_20 rfl (lv_at hl 1 rfl) ?_
    obtain ⟨q_33, v_34, hr_q_33, hXc_q_33⟩ := hG.2.2.2.2 ("PostGate$Policy", 162, "quarantine", [113, 117, 97, 114, 97, 110, 116, 105, 110, 101]) (by decide +kernel)
    have hXc_q_33 : SXc q_33 v_34 10 (cct [113, 117, 97, 114, 97, 110, 116, 105, 110, 101]) A s s.heap := hXc_q_33
    have hX_q_33 : SX q_33 v_34 10 A s s.heap := hXc_q_33.sx
    obtain ⟨xo_q_33, xc_q_33, xv_q_33, xt_q_33, xn_q_33⟩ := id hXc_q_33
    have hr_q_33 : vk_R "PostGate$Policy" 162 "quarantine" q_33 s := hr_q_33
    refine va_ldcS hx hb hown hr_q_33 dX5_wantOf_21 ?_
    have hFc := pg_free hD hS hA
    refine va_calli (va_runV (As := [.ref q, .ref q_33]) (rest := []) ⟨hx, hb, hml, hown, hts⟩ (s_X9_is l dC dI cs ty L H.size F rc (ρ + 2) rx 700 ry0 ry1 ry2 q v k0 q_33 v_34 10 hW hi_9 ht_10) ⟨callB_of 2 hts (gi kt_334) rfl rfl rfl (hts _ kt_164) (hts _ kt_457) (by decide +kernel) ⟨Nat.le_of_ble_eq_true rfl, Nat.le_of_ble_eq_true rfl⟩, (hts _ kt_336), (hts _ kt_337)⟩ ⟨fun a U g mk q => ⟨q.1, PTE.calling q.2⟩, pg_recv hK hP hi_9 hF_27 (q := (RX9, TX9, 5)) rfl, fun U hU hWm => ⟨rfl, PTE.mk hU hWm hP hK hD hE hO hG (fun x hx => by simp only [List.mem_cons, List.not_mem_nil, or_false] at hx; rcases hx with hx | hx <;> subst hx <;> first | exact hX_q | exact hX_q_33) hS hFc⟩⟩ rfl rfl hl.1 rfl (lv_room (Nat.le_of_ble_eq_true rfl)) dX5_wantOf_23 ⟨by show _ + 0 ≤ 0; omega, by show _ + 0 ≤ 0; omega⟩) hS (fun q _ h => hFc q h) hFc (fun r_35 u t H1 locs ht hvm hw hB hz1 hk1 hS => ?_)
    obtain ⟨F_36, hB1⟩ := hB
    obtain rfl : F = F_36 := (funext (fun a => hB1.2.2.2 a List.not_mem_nil)).symm
    obtain ⟨hP, hD, hO, hR⟩ := QT.back hB1 ht hFc hR (fun q h => absurd h List.not_mem_nil)
    generalize H1 = H at hP hS ⊢
    have hw : (r_35 = 0 ∨ r_35 = 1) := hw
    have hw_37 := hw
    refine lv_if_eq (tgt := 32) hx hb dX5_wantOf_26 (by decide) (fun c_38 => ?_) (fun c_38 => ?_)
    ·
      refine lv_aload_n hx hb dX5_wantOf_32 rfl (lv_at hl 0 rfl) ?_
      refine pg_get (ci := 5) (v := .ref rc) (C := RX5) (T := TX5) (N := 7) hx hb hts it_5 hown hK hP hL_h0 hF_14 rfl 3 (by decide) (hts _ kt_456) (fun _ h9 => h9) rfl dX5_wantOf_33 ?_
      refine lv_aload_n hx hb dX5_wantOf_36 rfl (lv_at hl 1 rfl) ?_
      obtain ⟨q_39, v_40, hr_q_39, hXc_q_39⟩ := hG.2.2.2.2 ("PostGate$Policy", 164, "reject", [114, 101, 106, 101, 99, 116]) (by decide +kernel)
      have hXc_q_39 : SXc q_39 v_40 6 (cct [114, 101, 106, 101, 99, 116]) A s s.heap := hXc_q_39
      have hX_q_39 : SX q_39 v_40 6 A s s.heap := hXc_q_39.sx
      obtain ⟨xo_q_39, xc_q_39, xv_q_39, xt_q_39, xn_q_39⟩ := id hXc_q_39
      have hr_q_39 : vk_R "PostGate$Policy" 164 "reject" q_39 s := hr_q_39
      refine va_ldcS hx hb hown hr_q_39 dX5_wantOf_37 ?_
      have hFc := pg_free hD hS hA
      refine va_calli (va_runV (As := [.ref q, .ref q_39]) (rest := []) ⟨hx, hb, hml, hown, hts⟩ (s_X9_is l dC dI cs ty L H.size F rc (ρ + 2) rx 700 ry0 ry1 ry2 q v k0 q_39 v_40 6 hW hi_9 ht_10) ⟨callB_of 2 hts (gi kt_334) rfl rfl rfl (hts _ kt_164) (hts _ kt_457) (by decide +kernel) ⟨Nat.le_of_ble_eq_true rfl, Nat.le_of_ble_eq_true rfl⟩, (hts _ kt_336), (hts _ kt_337)⟩ ⟨fun a U g mk q => ⟨q.1, PTE.calling q.2⟩, pg_recv hK hP hi_9 hF_27 (q := (RX9, TX9, 5)) rfl, fun U hU hWm => ⟨rfl, PTE.mk hU hWm hP hK hD hE hO hG (fun x hx => by simp only [List.mem_cons, List.not_mem_nil, or_false] at hx; rcases hx with hx | hx <;> subst hx <;> first | exact hX_q | exact hX_q_39) hS hFc⟩⟩ rfl rfl hl.1 rfl (lv_room (Nat.le_of_ble_eq_true rfl)) dX5_wantOf_39 ⟨by show _ + 0 ≤ 0; omega, by show _ + 0 ≤ 0; omega⟩) hS (fun q _ h => hFc q h) hFc (fun r_41 u t H1 locs ht hvm hw hB hz1 hk1 hS => ?_)
      obtain ⟨F_42, hB1⟩ := hB
      obtain rfl : F = F_42 := (funext (fun a => hB1.2.2.2 a List.not_mem_nil)).symm
      obtain ⟨hP, hD, hO, hR⟩ := QT.back hB1 ht hFc hR (fun q h => absurd h List.not_mem_nil)
      generalize H1 = H at hP hS ⊢
      have hw : (r_41 = 0 ∨ r_41 = 1) := hw
      have hw_43 := hw
      refine lv_if_eq (tgt := 50) hx hb dX5_wantOf_42 (by decide) (fun c_44 => ?_) (fun c_44 => ?_)
      ·
        refine lv_bipush (v := 6) hx hb dX5_wantOf_50 (by decide) ?_
        refine W.widen (k := 0) (n := 0) (by omega) (by omega) ?_
        exact W.iret (v := 6) hx hb hr (fun t ht hWm => ⟨⟨6, (), rfl, trivial, ⟨F, QT.mk ht hP hD hO hR⟩⟩, hS.F ht⟩) hS.2.2 dX5_wantOf_52
      ·
        refine lv_bipush (v := 9) hx hb dX5_wantOf_45 (by decide) ?_
        refine lv_goto (tgt := 52) hx hb dX5_wantOf_47 (by decide) ?_
        refine W.widen (k := 0) (n := 0) (by omega) (by omega) ?_
        exact W.iret (v := 9) hx hb hr (fun t ht hWm => ⟨⟨9, (), rfl, trivial, ⟨F, QT.mk ht hP hD hO hR⟩⟩, hS.F ht⟩) hS.2.2 dX5_wantOf_52
    ·
      refine lv_bipush (v := 8) hx hb dX5_wantOf_29 (by decide) ?_
      refine W.widen (k := 0) (n := 0) (by omega) (by omega) ?_
      exact W.iret (v := 8) hx hb hr (fun t ht hWm => ⟨⟨8, (), rfl, trivial, ⟨F, QT.mk ht hP hD hO hR⟩⟩, hS.F ht⟩) hS.2.2 dX5_wantOf_31
  ·
    refine lv_bipush (v := 7) hx hb dX5_wantOf_13 (by decide) ?_
    refine W.widen (k := 0) (n := 0) (by omega) (by omega) ?_
    exact W.iret (v := 7) hx hb hr (fun t ht hWm => ⟨⟨7, (), rfl, trivial, ⟨F, QT.mk ht hP hD hO hR⟩⟩, hS.F ht⟩) hS.2.2 dX5_wantOf_15
set_option maxHeartbeats 4000000 in
set_option maxRecDepth 100000 in
theorem s_X5_setPlace (l : Launch) (dC : Nat → ClassId) (dI : Nat → Nat → Nat) (cs : Nat → ClassId) (ty : TyM) (L : List Nat) (sz : Nat) (F : Nat → va_E) (h0 : Nat) (ρ : Nat) (d : Nat) (δ : Nat) (ea : Nat) (w0 : Nat) (w1 : Nat) (rc : Nat) (rx : Nat) (ry0 : Nat) (ry1 : Nat) (ry2 : Nat) (x1 : Int32) (hW : WT ty L) (hL_h0 : h0 ∈ L) (hT_h0 : ty h0 = (5, ρ, [d, δ, ea, w0, w1, rc, rx, ry0, ry1, ry2])) : Met l yX5_setPlace (.code yX5_setPlace cX5_setPlace 2 none :: tb) ({ frames := 5, cells := 0, slots := 0, locals := 107 }) (va_Pc [.ref h0, .int x1] (PTE (dC, dI) cs ty L F sz [])) (va_Qv (fun _ : Unit => True) (fun _ T9 => ∃ F2 : Nat → va_E, QT (dC, dI) cs ty L [ρ + 9] F F2 (va_A (va_pl L F) sz) T9) (va_A (va_pl L F) sz)) 0 0 (va_A (va_pl L F) sz) := by
  refine Met.ofW (cc := cX5_setPlace) (maxL := 2) (ret := none) (by decide) rfl ?_
  intro p e s m args below meth c s₁ B hml hv
  obtain ⟨rfl, ⟨hsz, hP, hK, hD0, hE, hO⟩, hG, hX⟩ := hv
  have hx := B.exec
  have hb := B.bytes
  have hr := B.returns
  have hts : ∀ w ∈ tb, w.before _ s = true := fun w h => atoms_spec (ws := .code yX5_setPlace cX5_setPlace 2 none :: tb) B.pre w (List.mem_cons_of_mem _ h)
  have hown : s.vm.findClass RX5 = some m.cls := findClass_of_methodNamed B.named
  have hlocks := B.notSynchronized
  subst hsz
  have hD := hD0.self (sz := s.heap.size)
  generalize hAe : va_A (va_pl L F) s.heap.size = A at hD hG hX ⊢
  have hA : ∀ q : Nat, s.heap.size ≤ q → A q := fun q h => by rw [← hAe]; exact Or.inr h
  have hS : va_S A s.heap s.heap [] := va_S.rf
  have hR : FR ty [ρ + 9] F F := FR.refl
  have hl := lv_entry ([.ref h0, .int x1]) (n := 2) (Nat.le_of_ble_eq_true rfl)
  rw [lg_entry_eq]
  generalize (lg_sl ([.ref h0, .int x1]) ++ List.replicate (2 - (lg_sl ([.ref h0, .int x1])).length) Slot.unset).toArray = ls at hl ⊢
  have hl : lv_has ls 2 [(0, .ref h0), (1, .int x1)] := hl
  refine lv_aload_n hx hb dX5_setPlace_0 rfl (lv_at hl 0 rfl) ?_
  obtain ⟨hi_1, ht_2, hi_3, ⟨r_4, ht_5⟩, hi_6, ⟨r_7, ht_8⟩, hi_9, ht_10⟩ := hW.pol hL_h0 hT_h0
  obtain ⟨v0_11, v1_12, v2_13, hF_14⟩ := hO.pol hL_h0 hT_h0
  refine pg_get (ci := 5) (v := .ref w1) (C := RX5) (T := TX5) (N := 7) hx hb hts it_5 hown hK hP hL_h0 hF_14 rfl 2 (by decide) (hts _ kt_458) (fun _ h9 => h9) rfl dX5_setPlace_1 ?_
  have hFc := pg_free hD hS hA
  obtain ⟨hi_15, ht_16, hq_17⟩ := hW.bytes hi_6 ht_8
  obtain ⟨z_18, o_19, hF_20, hq_21, hq_22⟩ := hO.bytes hi_6 ht_8
  refine va_callv (va_runV (As := []) (rest := []) ⟨hx, hb, hml, hown, hts⟩ (s_X0_clear l dC dI cs ty L s.heap.size F w1 (ρ + 9) r_7 60 hW hi_6 ht_8) ⟨callB_of 0 hts (gi kt_32) rfl rfl rfl (hts _ kt_1) (hts _ kt_459) (by decide +kernel) ⟨Nat.le_of_ble_eq_true rfl, Nat.le_of_ble_eq_true rfl⟩, (hts _ kt_34), (hts _ kt_35)⟩ ⟨fun a U g mk q => ⟨q.1, PT.calling q.2⟩, pg_recv hK hP hi_6 hF_20 (q := (RX0, TX0, 3)) rfl, fun U hU hWm => ⟨rfl, PT.mk hU hWm hP hK hD hE hO⟩⟩ rfl rfl hl.1 rfl (lv_room (Nat.le_of_ble_eq_true rfl)) dX5_setPlace_4 ⟨by show _ + 0 ≤ 0; omega, by show _ + 0 ≤ 0; omega⟩) hS (fun q _ h => hFc q h) hFc (fun u t H1 locs ht hvm hw hB hz1 hk1 hS => ?_)
  obtain ⟨F_24, hB1, hq_25⟩ := hB
  obtain ⟨hP, hD, hO, hR⟩ := QT.back hB1 ht hFc hR (fun q h => by simp only [List.mem_cons, List.not_mem_nil, or_false] at h ⊢; omega)
  have hF_26 : F_24 h0 = .inr (5, [.ref d, .ref w0, .ref w1, .ref rc, .int v0_11, .int v1_12, .int v2_13]) := (hB1.2.2.2 h0 (by rw [hT_h0]; simp)).trans hF_14
  generalize H1 = H at hP hS ⊢
  refine lv_aload_n hx hb dX5_setPlace_7 rfl (lv_at hl 0 rfl) ?_
  refine pg_get (ci := 5) (v := .ref w1) (C := RX5) (T := TX5) (N := 7) hx hb hts it_5 hown hK hP hL_h0 hF_26 rfl 2 (by decide) (hts _ kt_458) (fun _ h9 => h9) rfl dX5_setPlace_8 ?_
  obtain ⟨q_27, v_28, hr_q_27, hXc_q_27⟩ := hG.2.2.2.2 ("PostGate$Policy", 126, "_dmarc.", [95, 100, 109, 97, 114, 99, 46]) (by decide +kernel)
  have hXc_q_27 : SXc q_27 v_28 7 (cct [95, 100, 109, 97, 114, 99, 46]) A s s.heap := hXc_q_27
  have hX_q_27 : SX q_27 v_28 7 A s s.heap := hXc_q_27.sx
  obtain ⟨xo_q_27, xc_q_27, xv_q_27, xt_q_27, xn_q_27⟩ := id hXc_q_27
  have hr_q_27 : vk_R "PostGate$Policy" 126 "_dmarc." q_27 s := hr_q_27
  refine va_ldcS hx hb hown hr_q_27 dX5_setPlace_11 ?_
  have hFc := pg_free hD hS hA
  refine va_callv (va_runV (As := [.ref q_27]) (rest := []) ⟨hx, hb, hml, hown, hts⟩ (s_X0_addText l dC dI cs ty L H.size F_24 w1 (ρ + 9) r_7 60 q_27 v_28 7 hW hi_6 ht_8) ⟨callB_of 1 hts (gi kt_367) rfl rfl rfl (hts _ kt_1) (hts _ kt_460) (by decide +kernel) ⟨Nat.le_of_ble_eq_true rfl, Nat.le_of_ble_eq_true rfl⟩, (hts _ kt_369), (hts _ kt_370)⟩ ⟨fun a U g mk q => ⟨q.1, PTE.calling q.2⟩, pg_recv hK hP hi_6 hq_25 (q := (RX0, TX0, 3)) rfl, fun U hU hWm => ⟨rfl, PTE.mk hU hWm hP hK hD hE hO hG (fun x hx => by rw [List.mem_singleton] at hx; subst hx; exact hX_q_27) hS hFc⟩⟩ rfl rfl hl.1 rfl (lv_room (Nat.le_of_ble_eq_true rfl)) dX5_setPlace_13 ⟨by show _ + 0 ≤ 0; omega, by show _ + 0 ≤ 0; omega⟩) hS (fun q _ h => hFc q h) hFc (fun u t H1 locs ht hvm hw hB hz1 hk1 hS => ?_)
  obtain ⟨F_30, hB1⟩ := hB
  obtain ⟨hP, hD, hO, hR⟩ := QT.back hB1 ht hFc hR (fun q h => by simp only [List.mem_cons, List.not_mem_nil, or_false] at h ⊢; omega)
  have hF_31 : F_30 h0 = .inr (5, [.ref d, .ref w0, .ref w1, .ref rc, .int v0_11, .int v1_12, .int v2_13]) := (hB1.2.2.2 h0 (by rw [hT_h0]; simp)).trans hF_26
  generalize H1 = H at hP hS ⊢
  refine lv_aload_n hx hb dX5_setPlace_16 rfl (lv_at hl 0 rfl) ?_
  refine pg_get (ci := 5) (v := .ref w1) (C := RX5) (T := TX5) (N := 7) hx hb hts it_5 hown hK hP hL_h0 hF_31 rfl 2 (by decide) (hts _ kt_458) (fun _ h9 => h9) rfl dX5_setPlace_17 ?_
  refine lv_aload_n hx hb dX5_setPlace_20 rfl (lv_at hl 0 rfl) ?_
  refine pg_get (ci := 5) (v := .ref w0) (C := RX5) (T := TX5) (N := 7) hx hb hts it_5 hown hK hP hL_h0 hF_31 rfl 1 (by decide) (hts _ kt_461) (fun _ h9 => h9) rfl dX5_setPlace_21 ?_
  refine lv_iload_n hx hb dX5_setPlace_24 rfl (lv_at hl 1 rfl) ?_
  refine lv_aload_n hx hb dX5_setPlace_25 rfl (lv_at hl 0 rfl) ?_
  refine pg_get (ci := 5) (v := .ref w0) (C := RX5) (T := TX5) (N := 7) hx hb hts it_5 hown hK hP hL_h0 hF_31 rfl 1 (by decide) (hts _ kt_461) (fun _ h9 => h9) rfl dX5_setPlace_26 ?_
  obtain ⟨hi_32, ht_33, hq_34⟩ := hW.bytes hi_3 ht_5
  obtain ⟨z_35, o_36, hF_37, hq_38, hq_39⟩ := hO.bytes hi_3 ht_5
  refine pg_getN (ci := 0) (v := .int (nI z_35)) (C := RX0) (T := TX0) (N := 3) hx hb hts it_0 hown hK hP hi_3 hF_37 rfl 1 (by decide) (hE.nest kn_13) (fun _ h9 => h9) rfl dX5_setPlace_29 ?_
  have hFc := pg_free hD hS hA
  obtain ⟨z_40, o_41, hF_42, hq_43, hq_44⟩ := hO.bytes hi_6 ht_8
  refine va_callv (va_runV (As := [.ref w0, .int x1, .int (nI z_35)]) (rest := []) ⟨hx, hb, hml, hown, hts⟩ (s_X0_addRange l dC dI cs ty L H.size F_30 w1 (ρ + 9) r_7 60 w0 (ρ + 1) r_4 60 x1 (nI z_35) hW hi_6 ht_8 hi_3 ht_5 (nI_pos (by omega))) ⟨callB_of 3 hts (gi kt_36) rfl rfl rfl (hts _ kt_1) (hts _ kt_462) (by decide +kernel) ⟨Nat.le_of_ble_eq_true rfl, Nat.le_of_ble_eq_true rfl⟩, (hts _ kt_38), (hts _ kt_39)⟩ ⟨fun a U g mk q => ⟨q.1, PT.calling q.2⟩, pg_recv hK hP hi_6 hF_42 (q := (RX0, TX0, 3)) rfl, fun U hU hWm => ⟨rfl, PT.mk hU hWm hP hK hD hE hO⟩⟩ rfl rfl hl.1 rfl (lv_room (Nat.le_of_ble_eq_true rfl)) dX5_setPlace_32 ⟨by show _ + 0 ≤ 0; omega, by show _ + 0 ≤ 0; omega⟩) hS (fun q _ h => hFc q h) hFc (fun u t H1 locs ht hvm hw hB hz1 hk1 hS => ?_)
  obtain ⟨F_46, hB1⟩ := hB
  obtain ⟨hP, hD, hO, hR⟩ := QT.back hB1 ht hFc hR (fun q h => by simp only [List.mem_cons, List.not_mem_nil, or_false] at h ⊢; omega)
  have hF_47 : F_46 h0 = .inr (5, [.ref d, .ref w0, .ref w1, .ref rc, .int v0_11, .int v1_12, .int v2_13]) := (hB1.2.2.2 h0 (by rw [hT_h0]; simp)).trans hF_31
  have hF_48 : F_46 w0 = .inr (0, [.ref r_4, .int (nI z_35), .int o_36]) := (hB1.2.2.2 w0 (by rw [ht_5]; simp)).trans hF_37
  generalize H1 = H at hP hS ⊢
  refine W.widen (k := 0) (n := 0) (by omega) (by omega) ?_
  exact W.vret hx hb hr (fun t ht hWm => ⟨⟨(), rfl, trivial, ⟨F_46, QT.mk ht hP hD hO hR⟩⟩, hS.F ht⟩) hS.2.2 dX5_setPlace_35
set_option maxHeartbeats 4000000 in
set_option maxRecDepth 100000 in
theorem s_X5_isAligned (l : Launch) (dC : Nat → ClassId) (dI : Nat → Nat → Nat) (cs : Nat → ClassId) (ty : TyM) (L : List Nat) (sz : Nat) (F : Nat → va_E) (h0 : Nat) (ρ : Nat) (d : Nat) (δ : Nat) (ea : Nat) (w0 : Nat) (w1 : Nat) (rc : Nat) (rx : Nat) (ry0 : Nat) (ry1 : Nat) (ry2 : Nat) (g1 : Nat) (σ : Nat) (r1 : Nat) (n1 : Nat) (x2 : Int32) (hW : WT ty L) (hL_h0 : h0 ∈ L) (hT_h0 : ty h0 = (5, ρ, [d, δ, ea, w0, w1, rc, rx, ry0, ry1, ry2])) (hL_g1 : g1 ∈ L) (hT_g1 : ty g1 = (0, σ, [r1, n1])) : Met l yX5_isAligned (.code yX5_isAligned cX5_isAligned 3 (some .boolean) :: tb) ({ frames := 4, cells := 0, slots := 0, locals := 91 }) (va_Pc [.ref h0, .ref g1, .int x2] (PT (dC, dI) cs ty L F sz)) (va_Qi (fun (r : Int32) (_ : Unit) => (r = 0 ∨ r = 1)) (fun _ T9 => ∃ F2 : Nat → va_E, QT (dC, dI) cs ty L [] F F2 (va_A (va_pl L F) sz) T9) (va_A (va_pl L F) sz)) 0 0 (va_A (va_pl L F) sz) := by
  refine Met.ofW (cc := cX5_isAligned) (maxL := 3) (ret := (some .boolean)) (by decide) rfl ?_
  intro p e s m args below meth c s₁ B hml hv
  obtain ⟨rfl, hsz, hP, hK, hD0, hE, hO⟩ := hv
  have hx := B.exec
  have hb := B.bytes
  have hr := B.returns
  have hts : ∀ w ∈ tb, w.before _ s = true := fun w h => atoms_spec (ws := .code yX5_isAligned cX5_isAligned 3 (some .boolean) :: tb) B.pre w (List.mem_cons_of_mem _ h)
  have hown : s.vm.findClass RX5 = some m.cls := findClass_of_methodNamed B.named
  have hlocks := B.notSynchronized
  subst hsz
  have hD := hD0.self (sz := s.heap.size)
  generalize hAe : va_A (va_pl L F) s.heap.size = A at hD ⊢
  have hA : ∀ q : Nat, s.heap.size ≤ q → A q := fun q h => by rw [← hAe]; exact Or.inr h
  have hS : va_S A s.heap s.heap [] := va_S.rf
  have hR : FR ty [] F F := FR.refl
  have hl := lv_entry ([.ref h0, .ref g1, .int x2]) (n := 3) (Nat.le_of_ble_eq_true rfl)
  rw [lg_entry_eq]
  generalize (lg_sl ([.ref h0, .ref g1, .int x2]) ++ List.replicate (3 - (lg_sl ([.ref h0, .ref g1, .int x2])).length) Slot.unset).toArray = ls at hl ⊢
  have hl : lv_has ls 3 [(0, .ref h0), (1, .ref g1), (2, .int x2)] := hl
  refine lv_iload_n hx hb dX5_isAligned_0 rfl (lv_at hl 2 rfl) ?_
  refine lv_if_eq (tgt := 15) hx hb dX5_isAligned_1 (by decide) (fun c_1 => ?_) (fun c_1 => ?_)
  ·
    refine lv_aload_n hx hb dX5_isAligned_15 rfl (lv_at hl 0 rfl) ?_
    obtain ⟨hi_2, ht_3, hi_4, ⟨r_5, ht_6⟩, hi_7, ⟨r_8, ht_9⟩, hi_10, ht_11⟩ := hW.pol hL_h0 hT_h0
    obtain ⟨v0_12, v1_13, v2_14, hF_15⟩ := hO.pol hL_h0 hT_h0
    refine pg_get (ci := 5) (v := .ref d) (C := RX5) (T := TX5) (N := 7) hx hb hts it_5 hown hK hP hL_h0 hF_15 rfl 0 (by decide) (hts _ kt_463) (fun _ h9 => h9) rfl dX5_isAligned_16 ?_
    refine lv_aload_n hx hb dX5_isAligned_19 rfl (lv_at hl 1 rfl) ?_
    refine lv_aload_n hx hb dX5_isAligned_20 rfl (lv_at hl 0 rfl) ?_
    refine pg_get (ci := 5) (v := .ref w0) (C := RX5) (T := TX5) (N := 7) hx hb hts it_5 hown hK hP hL_h0 hF_15 rfl 1 (by decide) (hts _ kt_461) (fun _ h9 => h9) rfl dX5_isAligned_21 ?_
    have hFc := pg_free hD hS hA
    obtain ⟨hi_16, ht_17⟩ := hW.dir hi_2 ht_3
    obtain ⟨z_18, hF_19, hq_20⟩ := hO.dir hi_2 ht_3
    refine va_calli (va_runV (As := [.ref g1, .ref w0]) (rest := []) ⟨hx, hb, hml, hown, hts⟩ (s_X2_isSameHouse l dC dI cs ty L s.heap.size F d δ ea g1 σ r1 n1 w0 (ρ + 1) r_5 60 hW hi_2 ht_3 hL_g1 hT_g1 hi_4 ht_6) ⟨callB_of 2 hts (gi kt_464) rfl rfl rfl (hts _ kt_103) (hts _ kt_465) (by decide +kernel) ⟨Nat.le_of_ble_eq_true rfl, Nat.le_of_ble_eq_true rfl⟩, (hts _ kt_466), (hts _ kt_467)⟩ ⟨fun a U g mk q => ⟨q.1, PT.calling q.2⟩, pg_recv hK hP hi_2 hF_19 (q := (RX2, TX2, 2)) rfl, fun U hU hWm => ⟨rfl, PT.mk hU hWm hP hK hD hE hO⟩⟩ rfl rfl hl.1 rfl (lv_room (Nat.le_of_ble_eq_true rfl)) dX5_isAligned_24 ⟨by show _ + 0 ≤ 0; omega, by show _ + 0 ≤ 0; omega⟩) hS (fun q _ h => hFc q h) hFc (fun r_21 u t H1 locs ht hvm hw hB hz1 hk1 hS => ?_)
    obtain ⟨F_22, hB1⟩ := hB
    obtain rfl : F = F_22 := (funext (fun a => hB1.2.2.2 a List.not_mem_nil)).symm
    obtain ⟨hP, hD, hO, hR⟩ := QT.back hB1 ht hFc hR (fun q h => absurd h List.not_mem_nil)
    generalize H1 = H at hP hS ⊢
    have hw : (r_21 = 0 ∨ r_21 = 1) := hw
    have hw_23 := hw
    refine W.widen (k := 0) (n := 0) (by omega) (by omega) ?_
    exact W.zret (v := r_21) (ty := .boolean) hx hb hr (bitN hw_23) (fun t ht hWm => ⟨⟨r_21, (), rfl, hw_23, ⟨F, QT.mk ht hP hD hO hR⟩⟩, hS.F ht⟩) hS.2.2 dX5_isAligned_27
  ·
    refine lv_aload_n hx hb dX5_isAligned_4 rfl (lv_at hl 1 rfl) ?_
    refine lv_aload_n hx hb dX5_isAligned_5 rfl (lv_at hl 0 rfl) ?_
    obtain ⟨hi_24, ht_25, hi_26, ⟨r_27, ht_28⟩, hi_29, ⟨r_30, ht_31⟩, hi_32, ht_33⟩ := hW.pol hL_h0 hT_h0
    obtain ⟨v0_34, v1_35, v2_36, hF_37⟩ := hO.pol hL_h0 hT_h0
    refine pg_get (ci := 5) (v := .ref w0) (C := RX5) (T := TX5) (N := 7) hx hb hts it_5 hown hK hP hL_h0 hF_37 rfl 1 (by decide) (hts _ kt_461) (fun _ h9 => h9) rfl dX5_isAligned_6 ?_
    have hFc := pg_free hD hS hA
    obtain ⟨hi_38, ht_39, hq_40⟩ := hW.bytes hL_g1 hT_g1
    obtain ⟨z_41, o_42, hF_43, hq_44, hq_45⟩ := hO.bytes hL_g1 hT_g1
    refine va_calli (va_runV (As := [.ref w0]) (rest := []) ⟨hx, hb, hml, hown, hts⟩ (s_X0_same l dC dI cs ty L s.heap.size F g1 σ r1 n1 w0 (ρ + 1) r_27 60 hW hL_g1 hT_g1 hi_26 ht_28) ⟨callB_of 1 hts (gi kt_85) rfl rfl rfl (hts _ kt_1) (hts _ kt_468) (by decide +kernel) ⟨Nat.le_of_ble_eq_true rfl, Nat.le_of_ble_eq_true rfl⟩, (hts _ kt_87), (hts _ kt_88)⟩ ⟨fun a U g mk q => ⟨q.1, PT.calling q.2⟩, pg_recv hK hP hL_g1 hF_43 (q := (RX0, TX0, 3)) rfl, fun U hU hWm => ⟨rfl, PT.mk hU hWm hP hK hD hE hO⟩⟩ rfl rfl hl.1 rfl (lv_room (Nat.le_of_ble_eq_true rfl)) dX5_isAligned_9 ⟨by show _ + 0 ≤ 0; omega, by show _ + 0 ≤ 0; omega⟩) hS (fun q _ h => hFc q h) hFc (fun r_46 u t H1 locs ht hvm hw hB hz1 hk1 hS => ?_)
    obtain ⟨F_47, hB1⟩ := hB
    obtain rfl : F = F_47 := (funext (fun a => hB1.2.2.2 a List.not_mem_nil)).symm
    obtain ⟨hP, hD, hO, hR⟩ := QT.back hB1 ht hFc hR (fun q h => absurd h List.not_mem_nil)
    generalize H1 = H at hP hS ⊢
    have hw : (r_46 = 0 ∨ r_46 = 1) := hw
    have hw_48 := hw
    refine lv_goto (tgt := 27) hx hb dX5_isAligned_12 (by decide) ?_
    refine W.widen (k := 0) (n := 0) (by omega) (by omega) ?_
    exact W.zret (v := r_46) (ty := .boolean) hx hb hr (bitN hw_48) (fun t ht hWm => ⟨⟨r_46, (), rfl, hw_48, ⟨F, QT.mk ht hP hD hO hR⟩⟩, hS.F ht⟩) hS.2.2 dX5_isAligned_27
set_option maxHeartbeats 4000000 in
set_option maxRecDepth 100000 in
theorem s_X5_readRecord (l : Launch) (dC : Nat → ClassId) (dI : Nat → Nat → Nat) (cs : Nat → ClassId) (ty : TyM) (L : List Nat) (sz : Nat) (F : Nat → va_E) (h0 : Nat) (ρ : Nat) (d : Nat) (δ : Nat) (ea : Nat) (w0 : Nat) (w1 : Nat) (rc : Nat) (rx : Nat) (ry0 : Nat) (ry1 : Nat) (ry2 : Nat) (g1 : Nat) (σ : Nat) (r1 : Nat) (n1 : Nat) (x2 : Int32) (hW : WT ty L) (hL_h0 : h0 ∈ L) (hT_h0 : ty h0 = (5, ρ, [d, δ, ea, w0, w1, rc, rx, ry0, ry1, ry2])) (hL_g1 : g1 ∈ L) (hT_g1 : ty g1 = (0, σ, [r1, n1])) : Met l yX5_readRecord (.code yX5_readRecord cX5_readRecord 3 (some .int) :: tb) ({ frames := 8, cells := 0, slots := 0, locals := 175 }) (va_Pc [.ref h0, .ref g1, .int x2] (PTE (dC, dI) cs ty L F sz [])) (va_Qi (fun (r : Int32) (_ : Unit) => True) (fun _ T9 => ∃ F2 : Nat → va_E, QT (dC, dI) cs ty L [ρ, ρ + 2, ρ + 3, ρ + 72, ρ + 73] F F2 (va_A (va_pl L F) sz) T9) (va_A (va_pl L F) sz)) 0 0 (va_A (va_pl L F) sz) := by
  refine Met.ofW (cc := cX5_readRecord) (maxL := 3) (ret := (some .int)) (by decide) rfl ?_
  intro p e s m args below meth c s₁ B hml hv
  obtain ⟨rfl, ⟨hsz, hP, hK, hD0, hE, hO⟩, hG, hX⟩ := hv
  have hx := B.exec
  have hb := B.bytes
  have hr := B.returns
  have hts : ∀ w ∈ tb, w.before _ s = true := fun w h => atoms_spec (ws := .code yX5_readRecord cX5_readRecord 3 (some .int) :: tb) B.pre w (List.mem_cons_of_mem _ h)
  have hown : s.vm.findClass RX5 = some m.cls := findClass_of_methodNamed B.named
  have hlocks := B.notSynchronized
  subst hsz
  have hD := hD0.self (sz := s.heap.size)
  generalize hAe : va_A (va_pl L F) s.heap.size = A at hD hG hX ⊢
  have hA : ∀ q : Nat, s.heap.size ≤ q → A q := fun q h => by rw [← hAe]; exact Or.inr h
  have hS : va_S A s.heap s.heap [] := va_S.rf
  have hR : FR ty [ρ, ρ + 2, ρ + 3, ρ + 72, ρ + 73] F F := FR.refl
  have hl := lv_entry ([.ref h0, .ref g1, .int x2]) (n := 3) (Nat.le_of_ble_eq_true rfl)
  rw [lg_entry_eq]
  generalize (lg_sl ([.ref h0, .ref g1, .int x2]) ++ List.replicate (3 - (lg_sl ([.ref h0, .ref g1, .int x2])).length) Slot.unset).toArray = ls at hl ⊢
  have hl : lv_has ls 3 [(0, .ref h0), (1, .ref g1), (2, .int x2)] := hl
  refine lv_aload_n hx hb dX5_readRecord_0 rfl (lv_at hl 0 rfl) ?_
  obtain ⟨hi_1, ht_2, hi_3, ⟨r_4, ht_5⟩, hi_6, ⟨r_7, ht_8⟩, hi_9, ht_10⟩ := hW.pol hL_h0 hT_h0
  obtain ⟨v0_11, v1_12, v2_13, hF_14⟩ := hO.pol hL_h0 hT_h0
  refine pg_get (ci := 5) (v := .ref rc) (C := RX5) (T := TX5) (N := 7) hx hb hts it_5 hown hK hP hL_h0 hF_14 rfl 3 (by decide) (hts _ kt_456) (fun _ h9 => h9) rfl dX5_readRecord_1 ?_
  refine lv_aload_n hx hb dX5_readRecord_4 rfl (lv_at hl 1 rfl) ?_
  refine lv_iconst (v := 0) hx hb dX5_readRecord_5 (by decide) ?_
  refine lv_aload_n hx hb dX5_readRecord_6 rfl (lv_at hl 1 rfl) ?_
  obtain ⟨hi_15, ht_16, hq_17⟩ := hW.bytes hL_g1 hT_g1
  obtain ⟨z_18, o_19, hF_20, hq_21, hq_22⟩ := hO.bytes hL_g1 hT_g1
  refine pg_getN (ci := 0) (v := .int (nI z_18)) (C := RX0) (T := TX0) (N := 3) hx hb hts it_0 hown hK hP hL_g1 hF_20 rfl 1 (by decide) (hE.nest kn_13) (fun _ h9 => h9) rfl dX5_readRecord_7 ?_
  have hFc := pg_free hD hS hA
  obtain ⟨hi_23, hi_24, hi_25, hi_26, ⟨r_27, ht_28⟩, ht_29, ht_30, ht_31⟩ := hW.tags hi_9 ht_10
  have ht_28 : ty rx = (0, ρ + 3, [r_27, 700]) := ht_28
  have ht_30 : ty ry1 = (24, ρ + 72, [40]) := ht_30
  have ht_31 : ty ry2 = (24, ρ + 73, [40]) := ht_31
  obtain ⟨z_32, hF_33, hq_34⟩ := hO.tags hi_9 ht_10
  refine va_calli (va_runV (As := [.ref g1, .int 0, .int (nI z_18)]) (rest := []) ⟨hx, hb, hml, hown, hts⟩ (s_X9_read l dC dI cs ty L s.heap.size F rc (ρ + 2) rx 700 ry0 ry1 ry2 g1 σ r1 n1 0 (nI z_18) hW hi_9 ht_10 hL_g1 hT_g1) ⟨callB_of 3 hts (gi kt_330) rfl rfl rfl (hts _ kt_164) (hts _ kt_469) (by decide +kernel) ⟨Nat.le_of_ble_eq_true rfl, Nat.le_of_ble_eq_true rfl⟩, (hts _ kt_332), (hts _ kt_333)⟩ ⟨fun a U g mk q => ⟨q.1, PT.calling q.2⟩, pg_recv hK hP hi_9 hF_33 (q := (RX9, TX9, 5)) rfl, fun U hU hWm => ⟨rfl, PT.mk hU hWm hP hK hD hE hO⟩⟩ rfl rfl hl.1 rfl (lv_room (Nat.le_of_ble_eq_true rfl)) dX5_readRecord_10 ⟨by show _ + 0 ≤ 0; omega, by show _ + 0 ≤ 0; omega⟩) hS (fun q _ h => hFc q h) hFc (fun r_35 u t H1 locs ht hvm hw hB hz1 hk1 hS => ?_)
  obtain ⟨F_36, hB1⟩ := hB
  obtain ⟨hP, hD, hO, hR⟩ := QT.back hB1 ht hFc hR (fun q h => by simp only [List.mem_cons, List.not_mem_nil, or_false] at h ⊢; omega)
  have hF_37 : F_36 h0 = .inr (5, [.ref d, .ref w0, .ref w1, .ref rc, .int v0_11, .int v1_12, .int v2_13]) := (hB1.2.2.2 h0 (by rw [hT_h0]; simp <;> omega)).trans hF_14
  generalize H1 = H at hP hS ⊢
  have hw : (r_35 = 0 ∨ r_35 = 1) := hw
  have hw_38 := hw
  refine lv_if_ne (tgt := 19) hx hb dX5_readRecord_13 (by decide) (fun c_39 => ?_) (fun c_39 => ?_)
  ·
    refine lv_aload_n hx hb dX5_readRecord_19 rfl (lv_at hl 0 rfl) ?_
    refine lv_aload_n hx hb dX5_readRecord_20 rfl (lv_at hl 0 rfl) ?_
    obtain ⟨q_40, v_41, hr_q_40, hXc_q_40⟩ := hG.2.2.2.2 ("PostGate$Policy", 140, "p", [112]) (by decide +kernel)
    have hXc_q_40 : SXc q_40 v_41 1 (cct [112]) A s s.heap := hXc_q_40
    have hX_q_40 : SX q_40 v_41 1 A s s.heap := hXc_q_40.sx
    obtain ⟨xo_q_40, xc_q_40, xv_q_40, xt_q_40, xn_q_40⟩ := id hXc_q_40
    have hr_q_40 : vk_R "PostGate$Policy" 140 "p" q_40 s := hr_q_40
    refine va_ldcS hx hb hown hr_q_40 dX5_readRecord_21 ?_
    have hFc := pg_free hD hS hA
    refine va_calli (va_runV (As := [.ref q_40]) (rest := [.ref h0]) ⟨hx, hb, hml, hown, hts⟩ (s_X5_wantOf l dC dI cs ty L H.size F_36 h0 ρ d δ ea w0 w1 rc rx ry0 ry1 ry2 q_40 v_41 1 hW hL_h0 hT_h0) ⟨callB_of 1 hts (gi kt_470) rfl rfl rfl (hts _ kt_471) (hts _ kt_472) (by decide +kernel) ⟨Nat.le_of_ble_eq_true rfl, Nat.le_of_ble_eq_true rfl⟩, (hts _ kt_473), (hts _ kt_474)⟩ ⟨fun a U g mk q => ⟨q.1, PTE.calling q.2⟩, pg_recv hK hP hL_h0 hF_37 (q := (RX5, TX5, 7)) rfl, fun U hU hWm => ⟨rfl, PTE.mk hU hWm hP hK hD hE hO hG (fun x hx => by rw [List.mem_singleton] at hx; subst hx; exact hX_q_40) hS hFc⟩⟩ rfl rfl hl.1 rfl (lv_room (Nat.le_of_ble_eq_true rfl)) dX5_readRecord_23 ⟨by show _ + 0 ≤ 0; omega, by show _ + 0 ≤ 0; omega⟩) hS (fun q _ h => hFc q h) hFc (fun r_42 u t H1 locs ht hvm hw hB hz1 hk1 hS => ?_)
    obtain ⟨F_43, hB1⟩ := hB
    obtain rfl : F_36 = F_43 := (funext (fun a => hB1.2.2.2 a List.not_mem_nil)).symm
    obtain ⟨hP, hD, hO, hR⟩ := QT.back hB1 ht hFc hR (fun q h => absurd h List.not_mem_nil)
    generalize H1 = H at hP hS ⊢
    have hw : True := hw
    have hw_44 := hw
    refine pg_put (ci := 5) (v := .int r_42) (ty := .int) (C := RX5) (T := TX5) (N := 7) hx hb hts it_5 tyX5 tyX5_ok nmX5 hown hK hP hD hS hL_h0 hF_37 rfl 4 (by decide) (hts _ kt_475) (fun _ h9 => h9) rfl (by decide +kernel) (rfl) (rfl) (Nat.le_of_ble_eq_true rfl) dX5_readRecord_26 (fun H locs hP hD hS => ?_)
    obtain ⟨F_45, he_46, hP, hD, hO, hR⟩ : ∃ G, G = va_up F_36 h0 (.inr (5, [.ref d, .ref w0, .ref w1, .ref rc, .int r_42, .int v1_12, .int v2_13])) ∧ va_P (dC, dI) vwCl (va_pl L G) H ∧ va_D A (va_pl L G) ∧ OK cs ty L G ∧ FR ty [ρ, ρ + 2, ρ + 3, ρ + 72, ρ + 73] F G := ⟨_, rfl, hP, hD, hO.up (sh.pol hT_h0 ⟨r_42, v1_12, v2_13, rfl⟩), hR.up hT_h0 (by simp)⟩
    have hF_47 : F_45 h0 = .inr (5, [.ref d, .ref w0, .ref w1, .ref rc, .int r_42, .int v1_12, .int v2_13]) := by rw [he_46]; exact up_self
    refine W.widen (k := 0) (n := 0) (by omega) (by omega) ?_
    refine pl_cut (σ := Unit) A (dC, dI) cs ty L [ρ, ρ + 2, ρ + 3, ρ + 72, ρ + 73] F 64 3 (fun u0 => [(0, .ref h0), (1, .ref g1), (2, .int x2)]) (fun u0 => []) (fun u0 _ => True) ?_ (fun jn_48 => ?_)
    ·
      rintro u0 F_49 hv_50 hO hR H locs hP hD hS ls hl
      have hl : lv_has ls 3 [(0, .ref h0), (1, .ref g1), (2, .int x2)] := hl
      have hv_50 : True := hv_50
      refine W.eq (g2 := F0 m 64 ls []) rfl ?_
      refine lv_aload_n hx hb dX5_readRecord_64 rfl (lv_at hl 0 rfl) ?_
      refine lv_aload_n hx hb dX5_readRecord_65 rfl (lv_at hl 0 rfl) ?_
      obtain ⟨v0_51, v1_52, v2_53, hF_54⟩ := hO.pol hL_h0 hT_h0
      refine pg_get (ci := 5) (v := .ref rc) (C := RX5) (T := TX5) (N := 7) hx hb hts it_5 hown hK hP hL_h0 hF_54 rfl 3 (by decide) (hts _ kt_456) (fun _ h9 => h9) rfl dX5_readRecord_66 ?_
      obtain ⟨q_55, v_56, hr_q_55, hXc_q_55⟩ := hG.2.2.2.2 ("PostGate$Policy", 150, "aspf", [97, 115, 112, 102]) (by decide +kernel)
      have hXc_q_55 : SXc q_55 v_56 4 (cct [97, 115, 112, 102]) A s s.heap := hXc_q_55
      have hX_q_55 : SX q_55 v_56 4 A s s.heap := hXc_q_55.sx
      obtain ⟨xo_q_55, xc_q_55, xv_q_55, xt_q_55, xn_q_55⟩ := id hXc_q_55
      have hr_q_55 : vk_R "PostGate$Policy" 150 "aspf" q_55 s := hr_q_55
      refine va_ldcS hx hb hown hr_q_55 dX5_readRecord_69 ?_
      obtain ⟨q_57, v_58, hr_q_57, hXc_q_57⟩ := hG.2.2.2.2 ("PostGate$Policy", 152, "s", [115]) (by decide +kernel)
      have hXc_q_57 : SXc q_57 v_58 1 (cct [115]) A s s.heap := hXc_q_57
      have hX_q_57 : SX q_57 v_58 1 A s s.heap := hXc_q_57.sx
      obtain ⟨xo_q_57, xc_q_57, xv_q_57, xt_q_57, xn_q_57⟩ := id hXc_q_57
      have hr_q_57 : vk_R "PostGate$Policy" 152 "s" q_57 s := hr_q_57
      refine va_ldcS hx hb hown hr_q_57 dX5_readRecord_71 ?_
      have hFc := pg_free hD hS hA
      obtain ⟨z_59, hF_60, hq_61⟩ := hO.tags hi_9 ht_10
      refine va_calli (va_runV (As := [.ref q_55, .ref q_57]) (rest := [.ref h0]) ⟨hx, hb, hml, hown, hts⟩ (s_X9_is l dC dI cs ty L H.size F_49 rc (ρ + 2) rx 700 ry0 ry1 ry2 q_55 v_56 4 q_57 v_58 1 hW hi_9 ht_10) ⟨callB_of 2 hts (gi kt_334) rfl rfl rfl (hts _ kt_164) (hts _ kt_457) (by decide +kernel) ⟨Nat.le_of_ble_eq_true rfl, Nat.le_of_ble_eq_true rfl⟩, (hts _ kt_336), (hts _ kt_337)⟩ ⟨fun a U g mk q => ⟨q.1, PTE.calling q.2⟩, pg_recv hK hP hi_9 hF_60 (q := (RX9, TX9, 5)) rfl, fun U hU hWm => ⟨rfl, PTE.mk hU hWm hP hK hD hE hO hG (fun x hx => by simp only [List.mem_cons, List.not_mem_nil, or_false] at hx; rcases hx with hx | hx <;> subst hx <;> first | exact hX_q_55 | exact hX_q_57) hS hFc⟩⟩ rfl rfl hl.1 rfl (lv_room (Nat.le_of_ble_eq_true rfl)) dX5_readRecord_73 ⟨by show _ + 0 ≤ 0; omega, by show _ + 0 ≤ 0; omega⟩) hS (fun q _ h => hFc q h) hFc (fun r_62 u t H1 locs ht hvm hw hB hz1 hk1 hS => ?_)
      obtain ⟨F_63, hB1⟩ := hB
      obtain rfl : F_49 = F_63 := (funext (fun a => hB1.2.2.2 a List.not_mem_nil)).symm
      obtain ⟨hP, hD, hO, hR⟩ := QT.back hB1 ht hFc hR (fun q h => absurd h List.not_mem_nil)
      generalize H1 = H at hP hS ⊢
      have hw : (r_62 = 0 ∨ r_62 = 1) := hw
      have hw_64 := hw
      refine pg_put (ci := 5) (v := .int r_62) (ty := .boolean) (C := RX5) (T := TX5) (N := 7) hx hb hts it_5 tyX5 tyX5_ok nmX5 hown hK hP hD hS hL_h0 hF_54 rfl 5 (by decide) (hts _ kt_476) (fun _ h9 => h9) rfl (by decide +kernel) (bitN hw_64) (bitF hw_64) (Nat.le_of_ble_eq_true rfl) dX5_readRecord_76 (fun H locs hP hD hS => ?_)
      obtain ⟨F_65, he_66, hP, hD, hO, hR⟩ : ∃ G, G = va_up F_49 h0 (.inr (5, [.ref d, .ref w0, .ref w1, .ref rc, .int v0_51, .int r_62, .int v2_53])) ∧ va_P (dC, dI) vwCl (va_pl L G) H ∧ va_D A (va_pl L G) ∧ OK cs ty L G ∧ FR ty [ρ, ρ + 2, ρ + 3, ρ + 72, ρ + 73] F G := ⟨_, rfl, hP, hD, hO.up (sh.pol hT_h0 ⟨v0_51, r_62, v2_53, rfl⟩), hR.up hT_h0 (by simp)⟩
      have hF_67 : F_65 h0 = .inr (5, [.ref d, .ref w0, .ref w1, .ref rc, .int v0_51, .int r_62, .int v2_53]) := by rw [he_66]; exact up_self
      have hF_68 : F_65 rc = .inr (9, [.ref rx, .ref ry0, .ref ry1, .ref ry2, .int (nI z_59)]) := by rw [he_66, up_ne (ne_ty ht_10 hT_h0 (by simp))]; exact hF_60
      refine lv_aload_n hx hb dX5_readRecord_79 rfl (lv_at hl 0 rfl) ?_
      refine lv_aload_n hx hb dX5_readRecord_80 rfl (lv_at hl 0 rfl) ?_
      refine pg_get (ci := 5) (v := .ref rc) (C := RX5) (T := TX5) (N := 7) hx hb hts it_5 hown hK hP hL_h0 hF_67 rfl 3 (by decide) (hts _ kt_456) (fun _ h9 => h9) rfl dX5_readRecord_81 ?_
      obtain ⟨q_69, v_70, hr_q_69, hXc_q_69⟩ := hG.2.2.2.2 ("PostGate$Policy", 158, "adkim", [97, 100, 107, 105, 109]) (by decide +kernel)
      have hXc_q_69 : SXc q_69 v_70 5 (cct [97, 100, 107, 105, 109]) A s s.heap := hXc_q_69
      have hX_q_69 : SX q_69 v_70 5 A s s.heap := hXc_q_69.sx
      obtain ⟨xo_q_69, xc_q_69, xv_q_69, xt_q_69, xn_q_69⟩ := id hXc_q_69
      have hr_q_69 : vk_R "PostGate$Policy" 158 "adkim" q_69 s := hr_q_69
      refine va_ldcS hx hb hown hr_q_69 dX5_readRecord_84 ?_
      refine va_ldcS hx hb hown hr_q_57 dX5_readRecord_86 ?_
      have hFc := pg_free hD hS hA
      refine va_calli (va_runV (As := [.ref q_69, .ref q_57]) (rest := [.ref h0]) ⟨hx, hb, hml, hown, hts⟩ (s_X9_is l dC dI cs ty L H.size F_65 rc (ρ + 2) rx 700 ry0 ry1 ry2 q_69 v_70 5 q_57 v_58 1 hW hi_9 ht_10) ⟨callB_of 2 hts (gi kt_334) rfl rfl rfl (hts _ kt_164) (hts _ kt_457) (by decide +kernel) ⟨Nat.le_of_ble_eq_true rfl, Nat.le_of_ble_eq_true rfl⟩, (hts _ kt_336), (hts _ kt_337)⟩ ⟨fun a U g mk q => ⟨q.1, PTE.calling q.2⟩, pg_recv hK hP hi_9 hF_68 (q := (RX9, TX9, 5)) rfl, fun U hU hWm => ⟨rfl, PTE.mk hU hWm hP hK hD hE hO hG (fun x hx => by simp only [List.mem_cons, List.not_mem_nil, or_false] at hx; rcases hx with hx | hx <;> subst hx <;> first | exact hX_q_69 | exact hX_q_57) hS hFc⟩⟩ rfl rfl hl.1 rfl (lv_room (Nat.le_of_ble_eq_true rfl)) dX5_readRecord_88 ⟨by show _ + 0 ≤ 0; omega, by show _ + 0 ≤ 0; omega⟩) hS (fun q _ h => hFc q h) hFc (fun r_71 u t H1 locs ht hvm hw hB hz1 hk1 hS => ?_)
      obtain ⟨F_72, hB1⟩ := hB
      obtain rfl : F_65 = F_72 := (funext (fun a => hB1.2.2.2 a List.not_mem_nil)).symm
      obtain ⟨hP, hD, hO, hR⟩ := QT.back hB1 ht hFc hR (fun q h => absurd h List.not_mem_nil)
      generalize H1 = H at hP hS ⊢
      have hw : (r_71 = 0 ∨ r_71 = 1) := hw
      have hw_73 := hw
      refine pg_put (ci := 5) (v := .int r_71) (ty := .boolean) (C := RX5) (T := TX5) (N := 7) hx hb hts it_5 tyX5 tyX5_ok nmX5 hown hK hP hD hS hL_h0 hF_67 rfl 6 (by decide) (hts _ kt_477) (fun _ h9 => h9) rfl (by decide +kernel) (bitN hw_73) (bitF hw_73) (Nat.le_of_ble_eq_true rfl) dX5_readRecord_91 (fun H locs hP hD hS => ?_)
      obtain ⟨F_74, he_75, hP, hD, hO, hR⟩ : ∃ G, G = va_up F_65 h0 (.inr (5, [.ref d, .ref w0, .ref w1, .ref rc, .int v0_51, .int r_62, .int r_71])) ∧ va_P (dC, dI) vwCl (va_pl L G) H ∧ va_D A (va_pl L G) ∧ OK cs ty L G ∧ FR ty [ρ, ρ + 2, ρ + 3, ρ + 72, ρ + 73] F G := ⟨_, rfl, hP, hD, hO.up (sh.pol hT_h0 ⟨v0_51, r_62, r_71, rfl⟩), hR.up hT_h0 (by simp)⟩
      have hF_76 : F_74 h0 = .inr (5, [.ref d, .ref w0, .ref w1, .ref rc, .int v0_51, .int r_62, .int r_71]) := by rw [he_75]; exact up_self
      have hF_77 : F_74 rc = .inr (9, [.ref rx, .ref ry0, .ref ry1, .ref ry2, .int (nI z_59)]) := by rw [he_75, up_ne (ne_ty ht_10 hT_h0 (by simp))]; exact hF_68
      refine lv_aload_n hx hb dX5_readRecord_94 rfl (lv_at hl 0 rfl) ?_
      refine pg_get (ci := 5) (v := .int v0_51) (C := RX5) (T := TX5) (N := 7) hx hb hts it_5 hown hK hP hL_h0 hF_76 rfl 4 (by decide) (hts _ kt_475) (fun _ h9 => h9) rfl dX5_readRecord_95 ?_
      refine lv_bipush (v := 6) hx hb dX5_readRecord_98 (by decide) ?_
      refine lv_icmp_ne (tgt := 108) hx hb dX5_readRecord_100 (by decide) (fun c_78 => ?_) (fun c_78 => ?_)
      ·
        refine lv_iconst (v := (-1)) hx hb dX5_readRecord_108 (by decide) ?_
        refine W.widen (k := 0) (n := 0) (by omega) (by omega) ?_
        exact W.iret (v := (-1)) hx hb hr (fun t ht hWm => ⟨⟨(-1), (), rfl, trivial, ⟨F_74, QT.mk ht hP hD hO hR⟩⟩, hS.F ht⟩) hS.2.2 dX5_readRecord_109
      ·
        refine lv_bipush (v := 6) hx hb dX5_readRecord_103 (by decide) ?_
        refine lv_goto (tgt := 109) hx hb dX5_readRecord_105 (by decide) ?_
        refine W.widen (k := 0) (n := 0) (by omega) (by omega) ?_
        exact W.iret (v := 6) hx hb hr (fun t ht hWm => ⟨⟨6, (), rfl, trivial, ⟨F_74, QT.mk ht hP hD hO hR⟩⟩, hS.F ht⟩) hS.2.2 dX5_readRecord_109
    ·
      refine lv_aload_n hx hb dX5_readRecord_29 rfl (lv_at hl 0 rfl) ?_
      refine pg_get (ci := 5) (v := .int r_42) (C := RX5) (T := TX5) (N := 7) hx hb hts it_5 hown hK hP hL_h0 hF_47 rfl 4 (by decide) (hts _ kt_475) (fun _ h9 => h9) rfl dX5_readRecord_30 ?_
      refine lv_bipush (v := 6) hx hb dX5_readRecord_33 (by decide) ?_
      refine lv_icmp_eq (tgt := 64) hx hb dX5_readRecord_35 (by decide) (fun c_79 => ?_) (fun c_79 => ?_)
      ·
        refine W.widen (k := 0) (n := 0) (by omega) (by omega) ?_
        exact jn_48 () F_45 (trivial) hO hR _ _ hP hD hS ls (lv_sub hl [0, 1, 2] rfl)
      ·
        refine lv_iload_n hx hb dX5_readRecord_38 rfl (lv_at hl 2 rfl) ?_
        refine lv_if_ne (tgt := 64) hx hb dX5_readRecord_39 (by decide) (fun c_80 => ?_) (fun c_80 => ?_)
        ·
          refine W.widen (k := 0) (n := 0) (by omega) (by omega) ?_
          exact jn_48 () F_45 (trivial) hO hR _ _ hP hD hS ls (lv_sub hl [0, 1, 2] rfl)
        ·
          refine lv_aload_n hx hb dX5_readRecord_42 rfl (lv_at hl 0 rfl) ?_
          refine pg_get (ci := 5) (v := .ref rc) (C := RX5) (T := TX5) (N := 7) hx hb hts it_5 hown hK hP hL_h0 hF_47 rfl 3 (by decide) (hts _ kt_456) (fun _ h9 => h9) rfl dX5_readRecord_43 ?_
          obtain ⟨q_81, v_82, hr_q_81, hXc_q_81⟩ := hG.2.2.2.2 ("PostGate$Policy", 145, "sp", [115, 112]) (by decide +kernel)
          have hXc_q_81 : SXc q_81 v_82 2 (cct [115, 112]) A s s.heap := hXc_q_81
          have hX_q_81 : SX q_81 v_82 2 A s s.heap := hXc_q_81.sx
          obtain ⟨xo_q_81, xc_q_81, xv_q_81, xt_q_81, xn_q_81⟩ := id hXc_q_81
          have hr_q_81 : vk_R "PostGate$Policy" 145 "sp" q_81 s := hr_q_81
          refine va_ldcS hx hb hown hr_q_81 dX5_readRecord_46 ?_
          have hFc := pg_free hD hS hA
          obtain ⟨z_83, hF_84, hq_85⟩ := hO.tags hi_9 ht_10
          refine va_calli (va_runV (As := [.ref q_81]) (rest := []) ⟨hx, hb, hml, hown, hts⟩ (s_X9_has l dC dI cs ty L H.size F_45 rc (ρ + 2) rx 700 ry0 ry1 ry2 q_81 v_82 2 hW hi_9 ht_10) ⟨callB_of 1 hts (gi kt_308) rfl rfl rfl (hts _ kt_164) (hts _ kt_478) (by decide +kernel) ⟨Nat.le_of_ble_eq_true rfl, Nat.le_of_ble_eq_true rfl⟩, (hts _ kt_310), (hts _ kt_311)⟩ ⟨fun a U g mk q => ⟨q.1, PTE.calling q.2⟩, pg_recv hK hP hi_9 hF_84 (q := (RX9, TX9, 5)) rfl, fun U hU hWm => ⟨rfl, PTE.mk hU hWm hP hK hD hE hO hG (fun x hx => by rw [List.mem_singleton] at hx; subst hx; exact hX_q_81) hS hFc⟩⟩ rfl rfl hl.1 rfl (lv_room (Nat.le_of_ble_eq_true rfl)) dX5_readRecord_48 ⟨by show _ + 0 ≤ 0; omega, by show _ + 0 ≤ 0; omega⟩) hS (fun q _ h => hFc q h) hFc (fun r_86 u t H1 locs ht hvm hw hB hz1 hk1 hS => ?_)
          obtain ⟨F_87, hB1⟩ := hB
          obtain rfl : F_45 = F_87 := (funext (fun a => hB1.2.2.2 a List.not_mem_nil)).symm
          obtain ⟨hP, hD, hO, hR⟩ := QT.back hB1 ht hFc hR (fun q h => absurd h List.not_mem_nil)
          generalize H1 = H at hP hS ⊢
          have hw : (r_86 = 0 ∨ r_86 = 1) := hw
          have hw_88 := hw
          refine lv_if_eq (tgt := 64) hx hb dX5_readRecord_51 (by decide) (fun c_89 => ?_) (fun c_89 => ?_)
          ·
            refine W.widen (k := 0) (n := 0) (by omega) (by omega) ?_
            exact jn_48 () F_45 (trivial) hO hR _ _ hP hD hS ls (lv_sub hl [0, 1, 2] rfl)
          ·
            refine lv_aload_n hx hb dX5_readRecord_54 rfl (lv_at hl 0 rfl) ?_
            refine lv_aload_n hx hb dX5_readRecord_55 rfl (lv_at hl 0 rfl) ?_
            refine va_ldcS hx hb hown hr_q_81 dX5_readRecord_56 ?_
            have hFc := pg_free hD hS hA
            refine va_calli (va_runV (As := [.ref q_81]) (rest := [.ref h0]) ⟨hx, hb, hml, hown, hts⟩ (s_X5_wantOf l dC dI cs ty L H.size F_45 h0 ρ d δ ea w0 w1 rc rx ry0 ry1 ry2 q_81 v_82 2 hW hL_h0 hT_h0) ⟨callB_of 1 hts (gi kt_470) rfl rfl rfl (hts _ kt_471) (hts _ kt_472) (by decide +kernel) ⟨Nat.le_of_ble_eq_true rfl, Nat.le_of_ble_eq_true rfl⟩, (hts _ kt_473), (hts _ kt_474)⟩ ⟨fun a U g mk q => ⟨q.1, PTE.calling q.2⟩, pg_recv hK hP hL_h0 hF_47 (q := (RX5, TX5, 7)) rfl, fun U hU hWm => ⟨rfl, PTE.mk hU hWm hP hK hD hE hO hG (fun x hx => by rw [List.mem_singleton] at hx; subst hx; exact hX_q_81) hS hFc⟩⟩ rfl rfl hl.1 rfl (lv_room (Nat.le_of_ble_eq_true rfl)) dX5_readRecord_58 ⟨by show _ + 0 ≤ 0; omega, by show _ + 0 ≤ 0; omega⟩) hS (fun q _ h => hFc q h) hFc (fun r_90 u t H1 locs ht hvm hw hB hz1 hk1 hS => ?_)
            obtain ⟨F_91, hB1⟩ := hB
            obtain rfl : F_45 = F_91 := (funext (fun a => hB1.2.2.2 a List.not_mem_nil)).symm
            obtain ⟨hP, hD, hO, hR⟩ := QT.back hB1 ht hFc hR (fun q h => absurd h List.not_mem_nil)
            generalize H1 = H at hP hS ⊢
            have hw : True := hw
            have hw_92 := hw
            refine pg_put (ci := 5) (v := .int r_90) (ty := .int) (C := RX5) (T := TX5) (N := 7) hx hb hts it_5 tyX5 tyX5_ok nmX5 hown hK hP hD hS hL_h0 hF_47 rfl 4 (by decide) (hts _ kt_475) (fun _ h9 => h9) rfl (by decide +kernel) (rfl) (rfl) (Nat.le_of_ble_eq_true rfl) dX5_readRecord_61 (fun H locs hP hD hS => ?_)
            obtain ⟨F_93, he_94, hP, hD, hO, hR⟩ : ∃ G, G = va_up F_45 h0 (.inr (5, [.ref d, .ref w0, .ref w1, .ref rc, .int r_90, .int v1_12, .int v2_13])) ∧ va_P (dC, dI) vwCl (va_pl L G) H ∧ va_D A (va_pl L G) ∧ OK cs ty L G ∧ FR ty [ρ, ρ + 2, ρ + 3, ρ + 72, ρ + 73] F G := ⟨_, rfl, hP, hD, hO.up (sh.pol hT_h0 ⟨r_90, v1_12, v2_13, rfl⟩), hR.up hT_h0 (by simp)⟩
            have hF_95 : F_93 h0 = .inr (5, [.ref d, .ref w0, .ref w1, .ref rc, .int r_90, .int v1_12, .int v2_13]) := by rw [he_94]; exact up_self
            have hF_96 : F_93 rc = .inr (9, [.ref rx, .ref ry0, .ref ry1, .ref ry2, .int (nI z_83)]) := by rw [he_94, up_ne (ne_ty ht_10 hT_h0 (by simp))]; exact hF_84
            refine W.widen (k := 0) (n := 0) (by omega) (by omega) ?_
            exact jn_48 () F_93 (trivial) hO hR _ _ hP hD hS ls (lv_sub hl [0, 1, 2] rfl)
  ·
    refine lv_bipush (v := 6) hx hb dX5_readRecord_16 (by decide) ?_
    refine W.widen (k := 0) (n := 0) (by omega) (by omega) ?_
    exact W.iret (v := 6) hx hb hr (fun t ht hWm => ⟨⟨6, (), rfl, trivial, ⟨F_36, QT.mk ht hP hD hO hR⟩⟩, hS.F ht⟩) hS.2.2 dX5_readRecord_18
set_option maxHeartbeats 4000000 in
set_option maxRecDepth 100000 in
theorem s_X5_readDomain (l : Launch) (dC : Nat → ClassId) (dI : Nat → Nat → Nat) (cs : Nat → ClassId) (ty : TyM) (L : List Nat) (sz : Nat) (F : Nat → va_E) (h0 : Nat) (ρ : Nat) (d : Nat) (δ : Nat) (ea : Nat) (w0 : Nat) (w1 : Nat) (rc : Nat) (rx : Nat) (ry0 : Nat) (ry1 : Nat) (ry2 : Nat) (mg : Nat) (μ : Nat) (mx : Nat) (m0 : Nat) (m1 : Nat) (m2 : Nat) (jf : Nat) (hW : WT ty L) (hL_h0 : h0 ∈ L) (hT_h0 : ty h0 = (5, ρ, [d, δ, ea, w0, w1, rc, rx, ry0, ry1, ry2])) (hL_mg : mg ∈ L) (hT_mg : ty mg = (4, μ, [mx, m0, m1, m2])) (hjf : jf < 20) : Met l yX5_readDomain (.code yX5_readDomain cX5_readDomain 7 (some .boolean) :: tb) ({ frames := 2, cells := 0, slots := 0, locals := 47 }) (va_Pc [.ref h0, .ref mg, .int (nI jf)] (PT (dC, dI) cs ty L F sz)) (va_Qi (fun (r : Int32) (_ : Unit) => (r = 0 ∨ r = 1)) (fun _ T9 => ∃ F2 : Nat → va_E, QT (dC, dI) cs ty L [ρ + 1] F F2 (va_A (va_pl L F) sz) T9) (va_A (va_pl L F) sz)) 0 0 (va_A (va_pl L F) sz) := by
  refine Met.ofW (cc := cX5_readDomain) (maxL := 7) (ret := (some .boolean)) (by decide) rfl ?_
  intro p e s m args below meth c s₁ B hml hv
  obtain ⟨rfl, hsz, hP, hK, hD0, hE, hO⟩ := hv
  have hx := B.exec
  have hb := B.bytes
  have hr := B.returns
  have hts : ∀ w ∈ tb, w.before _ s = true := fun w h => atoms_spec (ws := .code yX5_readDomain cX5_readDomain 7 (some .boolean) :: tb) B.pre w (List.mem_cons_of_mem _ h)
  have hown : s.vm.findClass RX5 = some m.cls := findClass_of_methodNamed B.named
  have hlocks := B.notSynchronized
  subst hsz
  have hD := hD0.self (sz := s.heap.size)
  generalize hAe : va_A (va_pl L F) s.heap.size = A at hD ⊢
  have hA : ∀ q : Nat, s.heap.size ≤ q → A q := fun q h => by rw [← hAe]; exact Or.inr h
  have hS : va_S A s.heap s.heap [] := va_S.rf
  have hR : FR ty [ρ + 1] F F := FR.refl
  have hl := lv_entry ([.ref h0, .ref mg, .int (nI jf)]) (n := 7) (Nat.le_of_ble_eq_true rfl)
  rw [lg_entry_eq]
  generalize (lg_sl ([.ref h0, .ref mg, .int (nI jf)]) ++ List.replicate (7 - (lg_sl ([.ref h0, .ref mg, .int (nI jf)])).length) Slot.unset).toArray = ls at hl ⊢
  have hl : lv_has ls 7 [(0, .ref h0), (1, .ref mg), (2, .int (nI jf))] := hl
  refine lv_aload_n hx hb dX5_readDomain_0 rfl (lv_at hl 1 rfl) ?_
  obtain ⟨hi_1, hi_2, hi_3, hi_4, ⟨r_5, ht_6⟩, ht_7, ht_8, ht_9⟩ := hW.msg hL_mg hT_mg
  obtain ⟨z_10, v0_11, hF_12, hq_13⟩ := hO.msg hL_mg hT_mg
  refine pg_getN (ci := 4) (v := .ref m2) (C := RX4) (T := TX4) (N := 6) hx hb hts it_4 hown hK hP hL_mg hF_12 rfl 3 (by decide) (hE.nest kn_14) (fun _ h9 => h9) rfl dX5_readDomain_1 ?_
  refine lv_iload_n hx hb dX5_readDomain_4 rfl (lv_at hl 2 rfl) ?_
  obtain ⟨f_14, hF_15, hq_16⟩ := hO.idx hi_4 ht_9
  refine pg_iald hx hb hK hP hi_4 0 hF_15 rfl (vp_in_nI (by omega) (by omega)) dX5_readDomain_5 ?_
  obtain ⟨k_17, hk_18, ek_19⟩ := hq_16 ((nI jf) : Int32).toNatClampNeg
  refine lv_topi (fun x_20 ex_20 => ?_)
  obtain rfl : x_20 = nI k_17 := ex_20.trans ek_19
  refine lv_istore_n (lv' := [(3, .int (nI k_17)), (0, .ref h0), (1, .ref mg), (2, .int (nI jf))]) hx hb dX5_readDomain_6 rfl hl (by decide) rfl (fun ls hl => ?_)
  refine lv_aload_n hx hb dX5_readDomain_7 rfl (lv_at hl 2 rfl) ?_
  refine pg_getN (ci := 4) (v := .ref mx) (C := RX4) (T := TX4) (N := 6) hx hb hts it_4 hown hK hP hL_mg hF_12 rfl 0 (by decide) (hE.nest kn_15) (fun _ h9 => h9) rfl dX5_readDomain_8 ?_
  refine lv_bipush (v := 64) hx hb dX5_readDomain_11 (by decide) ?_
  refine lv_aload_n hx hb dX5_readDomain_13 rfl (lv_at hl 2 rfl) ?_
  refine pg_getN (ci := 4) (v := .ref m1) (C := RX4) (T := TX4) (N := 6) hx hb hts it_4 hown hK hP hL_mg hF_12 rfl 2 (by decide) (hE.nest kn_16) (fun _ h9 => h9) rfl dX5_readDomain_14 ?_
  refine lv_iload_n hx hb dX5_readDomain_17 rfl (lv_at hl 3 rfl) ?_
  obtain ⟨f_21, hF_22, hq_23⟩ := hO.idx hi_3 ht_8
  refine pg_iald hx hb hK hP hi_3 0 hF_22 rfl (vp_in_nI (by omega) (by omega)) dX5_readDomain_18 ?_
  obtain ⟨k_24, hk_25, ek_26⟩ := hq_23 ((nI jf) : Int32).toNatClampNeg
  refine lv_topi (fun x_27 ex_27 => ?_)
  obtain rfl : x_27 = nI k_24 := ex_27.trans ek_26
  refine lv_iconst (v := 1) hx hb dX5_readDomain_19 (by decide) ?_
  refine lv_iadd hx hb dX5_readDomain_20 ?_
  refine lv_topi (fun x_28 ex_28 => ?_)
  obtain rfl : x_28 = (nI (k_24 + 1)) := ex_28.trans (nI_1 _)
  refine lv_iload_n hx hb dX5_readDomain_21 rfl (lv_at hl 0 rfl) ?_
  have hFc := pg_free hD hS hA
  obtain ⟨hi_29, ht_30, hq_31⟩ := hW.bytes hi_1 ht_6
  obtain ⟨z_32, o_33, hF_34, hq_35, hq_36⟩ := hO.bytes hi_1 ht_6
  refine va_calli (va_runV (As := [.int 64, .int (nI (k_24 + 1)), .int (nI k_17)]) (rest := []) ⟨hx, hb, hml, hown, hts⟩ (s_X0_findLast l dC dI cs ty L s.heap.size F mx (μ + 1) r_5 3000 64 (nI (k_24 + 1)) (nI k_17) hW hi_1 ht_6 (nI_pos (by omega))) ⟨callB_of 3 hts (gi kt_93) rfl rfl rfl (hts _ kt_1) (hts _ kt_479) (by decide +kernel) ⟨Nat.le_of_ble_eq_true rfl, Nat.le_of_ble_eq_true rfl⟩, (hts _ kt_95), (hts _ kt_96)⟩ ⟨fun a U g mk q => ⟨q.1, PT.calling q.2⟩, pg_recv hK hP hi_1 hF_34 (q := (RX0, TX0, 3)) rfl, fun U hU hWm => ⟨rfl, PT.mk hU hWm hP hK hD hE hO⟩⟩ rfl rfl hl.1 rfl (lv_room (Nat.le_of_ble_eq_true rfl)) dX5_readDomain_22 ⟨by show _ + 0 ≤ 0; omega, by show _ + 0 ≤ 0; omega⟩) hS (fun q _ h => hFc q h) hFc (fun r_37 u t H1 locs ht hvm hw hB hz1 hk1 hS => ?_)
  obtain ⟨F_38, hB1⟩ := hB
  obtain rfl : F = F_38 := (funext (fun a => hB1.2.2.2 a List.not_mem_nil)).symm
  obtain ⟨hP, hD, hO, hR⟩ := QT.back hB1 ht hFc hR (fun q h => absurd h List.not_mem_nil)
  generalize H1 = H at hP hS ⊢
  have hw : True := hw
  have hw_39 := hw
  refine lv_istore (lv' := [(4, .int r_37), (3, .int (nI k_17)), (0, .ref h0), (1, .ref mg), (2, .int (nI jf))]) hx hb dX5_readDomain_25 hl (by decide) rfl (fun ls hl => ?_)
  refine lv_aload_n hx hb dX5_readDomain_27 rfl (lv_at hl 2 rfl) ?_
  obtain ⟨hi_40, ht_41, hi_42, ⟨r_43, ht_44⟩, hi_45, ⟨r_46, ht_47⟩, hi_48, ht_49⟩ := hW.pol hL_h0 hT_h0
  obtain ⟨v0_50, v1_51, v2_52, hF_53⟩ := hO.pol hL_h0 hT_h0
  refine pg_get (ci := 5) (v := .ref w0) (C := RX5) (T := TX5) (N := 7) hx hb hts it_5 hown hK hP hL_h0 hF_53 rfl 1 (by decide) (hts _ kt_461) (fun _ h9 => h9) rfl dX5_readDomain_28 ?_
  have hFc := pg_free hD hS hA
  obtain ⟨hi_54, ht_55, hq_56⟩ := hW.bytes hi_42 ht_44
  obtain ⟨z_57, o_58, hF_59, hq_60, hq_61⟩ := hO.bytes hi_42 ht_44
  refine va_callv (va_runV (As := []) (rest := []) ⟨hx, hb, hml, hown, hts⟩ (s_X0_clear l dC dI cs ty L H.size F w0 (ρ + 1) r_43 60 hW hi_42 ht_44) ⟨callB_of 0 hts (gi kt_32) rfl rfl rfl (hts _ kt_1) (hts _ kt_459) (by decide +kernel) ⟨Nat.le_of_ble_eq_true rfl, Nat.le_of_ble_eq_true rfl⟩, (hts _ kt_34), (hts _ kt_35)⟩ ⟨fun a U g mk q => ⟨q.1, PT.calling q.2⟩, pg_recv hK hP hi_42 hF_59 (q := (RX0, TX0, 3)) rfl, fun U hU hWm => ⟨rfl, PT.mk hU hWm hP hK hD hE hO⟩⟩ rfl rfl hl.1 rfl (lv_room (Nat.le_of_ble_eq_true rfl)) dX5_readDomain_31 ⟨by show _ + 0 ≤ 0; omega, by show _ + 0 ≤ 0; omega⟩) hS (fun q _ h => hFc q h) hFc (fun u t H1 locs ht hvm hw hB hz1 hk1 hS => ?_)
  obtain ⟨F_63, hB1, hq_64⟩ := hB
  obtain ⟨hP, hD, hO, hR⟩ := QT.back hB1 ht hFc hR (fun q h => by simp only [List.mem_cons, List.not_mem_nil, or_false] at h ⊢; omega)
  have hF_65 : F_63 h0 = .inr (5, [.ref d, .ref w0, .ref w1, .ref rc, .int v0_50, .int v1_51, .int v2_52]) := (hB1.2.2.2 h0 (by rw [hT_h0]; simp)).trans hF_53
  generalize H1 = H at hP hS ⊢
  refine lv_aload_n hx hb dX5_readDomain_34 rfl (lv_at hl 3 rfl) ?_
  obtain ⟨z_66, v0_67, hF_68, hq_69⟩ := hO.msg hL_mg hT_mg
  refine pg_getN (ci := 4) (v := .ref mx) (C := RX4) (T := TX4) (N := 6) hx hb hts it_4 hown hK hP hL_mg hF_68 rfl 0 (by decide) (hE.nest kn_15) (fun _ h9 => h9) rfl dX5_readDomain_35 ?_
  refine lv_iload hx hb dX5_readDomain_38 (lv_at hl 0 rfl) ?_
  have hFc := pg_free hD hS hA
  obtain ⟨z_70, o_71, hF_72, hq_73, hq_74⟩ := hO.bytes hi_1 ht_6
  refine va_calli (va_runV (As := [.int r_37]) (rest := []) ⟨hx, hb, hml, hown, hts⟩ (s_X0_at l dC dI cs ty L H.size F_63 mx (μ + 1) r_5 3000 r_37 hW hi_1 ht_6) ⟨callB_of 1 hts (gi kt_21) rfl rfl rfl (hts _ kt_1) (hts _ kt_480) (by decide +kernel) ⟨Nat.le_of_ble_eq_true rfl, Nat.le_of_ble_eq_true rfl⟩, (hts _ kt_23), (hts _ kt_24)⟩ ⟨fun a U g mk q => ⟨q.1, PT.calling q.2⟩, pg_recv hK hP hi_1 hF_72 (q := (RX0, TX0, 3)) rfl, fun U hU hWm => ⟨rfl, PT.mk hU hWm hP hK hD hE hO⟩⟩ rfl rfl hl.1 rfl (lv_room (Nat.le_of_ble_eq_true rfl)) dX5_readDomain_40 ⟨by show _ + 0 ≤ 0; omega, by show _ + 0 ≤ 0; omega⟩) hS (fun q _ h => hFc q h) hFc (fun r_75 u t H1 locs ht hvm hw hB hz1 hk1 hS => ?_)
  obtain ⟨F_76, hB1⟩ := hB
  obtain rfl : F_63 = F_76 := (funext (fun a => hB1.2.2.2 a List.not_mem_nil)).symm
  obtain ⟨hP, hD, hO, hR⟩ := QT.back hB1 ht hFc hR (fun q h => absurd h List.not_mem_nil)
  generalize H1 = H at hP hS ⊢
  have hw : True := hw
  have hw_77 := hw
  refine lv_bipush (v := 64) hx hb dX5_readDomain_43 (by decide) ?_
  refine lv_icmp_eq (tgt := 50) hx hb dX5_readDomain_45 (by decide) (fun c_78 => ?_) (fun c_78 => ?_)
  ·
    refine lv_iload hx hb dX5_readDomain_50 (lv_at hl 0 rfl) ?_
    refine lv_iconst (v := 1) hx hb dX5_readDomain_52 (by decide) ?_
    refine lv_iadd hx hb dX5_readDomain_53 ?_
    refine lv_topi (fun x_79 _ => ?_)
    refine lv_istore (lv' := [(5, .int x_79), (4, .int r_37), (3, .int (nI k_17)), (0, .ref h0), (1, .ref mg), (2, .int (nI jf))]) hx hb dX5_readDomain_54 hl (by decide) rfl (fun ls hl => ?_)
    refine W.widen (k := 0) (n := 0) (by omega) (by omega) ?_
    refine pl_loop (σ := Int32) A (dC, dI) cs ty L [ρ + 1] F 56 7 (fun i1 => [(5, .int i1), (4, .int r_37), (3, .int (nI k_17)), (0, .ref h0), (1, .ref mg), (2, .int (nI jf))]) (fun i1 => []) (fun i1 _ => True) (fun i1 => ((nI k_17).toInt - i1.toInt).toNat) ?_ x_79 F_63 (trivial) hO hR _ _ hP hD hS ls (lv_sub hl [0, 1, 2, 3, 4, 5] rfl)
    rintro i1 F_80 hv_81 hO hR ih_82 H locs hP hD hS ls hl
    have hl : lv_has ls 7 [(5, .int i1), (4, .int r_37), (3, .int (nI k_17)), (0, .ref h0), (1, .ref mg), (2, .int (nI jf))] := hl
    have hv_81 : True := hv_81
    refine W.eq (g2 := F0 m 56 ls []) rfl ?_
    refine lv_iload hx hb dX5_readDomain_56 (lv_at hl 0 rfl) ?_
    refine lv_iload_n hx hb dX5_readDomain_58 rfl (lv_at hl 2 rfl) ?_
    refine lv_icmp_ge (tgt := 116) hx hb dX5_readDomain_59 (by decide) (fun c_83 => ?_) (fun c_83 => ?_)
    ·
      refine lv_aload_n hx hb dX5_readDomain_116 rfl (lv_at hl 3 rfl) ?_
      obtain ⟨v0_84, v1_85, v2_86, hF_87⟩ := hO.pol hL_h0 hT_h0
      refine pg_get (ci := 5) (v := .ref w0) (C := RX5) (T := TX5) (N := 7) hx hb hts it_5 hown hK hP hL_h0 hF_87 rfl 1 (by decide) (hts _ kt_461) (fun _ h9 => h9) rfl dX5_readDomain_117 ?_
      refine lv_iconst (v := 0) hx hb dX5_readDomain_120 (by decide) ?_
      refine lv_aload_n hx hb dX5_readDomain_121 rfl (lv_at hl 3 rfl) ?_
      refine pg_get (ci := 5) (v := .ref w0) (C := RX5) (T := TX5) (N := 7) hx hb hts it_5 hown hK hP hL_h0 hF_87 rfl 1 (by decide) (hts _ kt_461) (fun _ h9 => h9) rfl dX5_readDomain_122 ?_
      obtain ⟨z_88, o_89, hF_90, hq_91, hq_92⟩ := hO.bytes hi_42 ht_44
      refine pg_getN (ci := 0) (v := .int (nI z_88)) (C := RX0) (T := TX0) (N := 3) hx hb hts it_0 hown hK hP hi_42 hF_90 rfl 1 (by decide) (hE.nest kn_13) (fun _ h9 => h9) rfl dX5_readDomain_125 ?_
      have hFc := pg_free hD hS hA
      refine va_calli (va_runV (As := [.int 0, .int (nI z_88)]) (rest := []) ⟨hx, hb, hml, hown, hts⟩ (s_X0_isName l dC dI cs ty L H.size F_80 w0 (ρ + 1) r_43 60 0 (nI z_88) hW hi_42 ht_44) ⟨callB_of 2 hts (gi kt_108) rfl rfl rfl (hts _ kt_1) (hts _ kt_481) (by decide +kernel) ⟨Nat.le_of_ble_eq_true rfl, Nat.le_of_ble_eq_true rfl⟩, (hts _ kt_110), (hts _ kt_111)⟩ ⟨fun a U g mk q => ⟨q.1, PT.calling q.2⟩, pg_recv hK hP hi_42 hF_90 (q := (RX0, TX0, 3)) rfl, fun U hU hWm => ⟨rfl, PT.mk hU hWm hP hK hD hE hO⟩⟩ rfl rfl hl.1 rfl (lv_room (Nat.le_of_ble_eq_true rfl)) dX5_readDomain_128 ⟨by show _ + 0 ≤ 0; omega, by show _ + 0 ≤ 0; omega⟩) hS (fun q _ h => hFc q h) hFc (fun r_93 u t H1 locs ht hvm hw hB hz1 hk1 hS => ?_)
      obtain ⟨F_94, hB1⟩ := hB
      obtain rfl : F_80 = F_94 := (funext (fun a => hB1.2.2.2 a List.not_mem_nil)).symm
      obtain ⟨hP, hD, hO, hR⟩ := QT.back hB1 ht hFc hR (fun q h => absurd h List.not_mem_nil)
      generalize H1 = H at hP hS ⊢
      have hw : (r_93 = 0 ∨ r_93 = 1) := hw
      have hw_95 := hw
      refine W.widen (k := 0) (n := 0) (by omega) (by omega) ?_
      exact W.zret (v := r_93) (ty := .boolean) hx hb hr (bitN hw_95) (fun t ht hWm => ⟨⟨r_93, (), rfl, hw_95, ⟨F_80, QT.mk ht hP hD hO hR⟩⟩, hS.F ht⟩) hS.2.2 dX5_readDomain_131
    ·
      refine lv_aload_n hx hb dX5_readDomain_62 rfl (lv_at hl 4 rfl) ?_
      obtain ⟨z_96, v0_97, hF_98, hq_99⟩ := hO.msg hL_mg hT_mg
      refine pg_getN (ci := 4) (v := .ref mx) (C := RX4) (T := TX4) (N := 6) hx hb hts it_4 hown hK hP hL_mg hF_98 rfl 0 (by decide) (hE.nest kn_15) (fun _ h9 => h9) rfl dX5_readDomain_63 ?_
      refine lv_iload hx hb dX5_readDomain_66 (lv_at hl 0 rfl) ?_
      have hFc := pg_free hD hS hA
      obtain ⟨z_100, o_101, hF_102, hq_103, hq_104⟩ := hO.bytes hi_1 ht_6
      refine va_calli (va_runV (As := [.int i1]) (rest := []) ⟨hx, hb, hml, hown, hts⟩ (s_X0_at l dC dI cs ty L H.size F_80 mx (μ + 1) r_5 3000 i1 hW hi_1 ht_6) ⟨callB_of 1 hts (gi kt_21) rfl rfl rfl (hts _ kt_1) (hts _ kt_480) (by decide +kernel) ⟨Nat.le_of_ble_eq_true rfl, Nat.le_of_ble_eq_true rfl⟩, (hts _ kt_23), (hts _ kt_24)⟩ ⟨fun a U g mk q => ⟨q.1, PT.calling q.2⟩, pg_recv hK hP hi_1 hF_102 (q := (RX0, TX0, 3)) rfl, fun U hU hWm => ⟨rfl, PT.mk hU hWm hP hK hD hE hO⟩⟩ rfl rfl hl.1 rfl (lv_room (Nat.le_of_ble_eq_true rfl)) dX5_readDomain_68 ⟨by show _ + 0 ≤ 0; omega, by show _ + 0 ≤ 0; omega⟩) hS (fun q _ h => hFc q h) hFc (fun r_105 u t H1 locs ht hvm hw hB hz1 hk1 hS => ?_)
      obtain ⟨F_106, hB1⟩ := hB
      obtain rfl : F_80 = F_106 := (funext (fun a => hB1.2.2.2 a List.not_mem_nil)).symm
      obtain ⟨hP, hD, hO, hR⟩ := QT.back hB1 ht hFc hR (fun q h => absurd h List.not_mem_nil)
      generalize H1 = H at hP hS ⊢
      have hw : True := hw
      have hw_107 := hw
      refine lv_istore (lv' := [(6, .int r_105), (5, .int i1), (4, .int r_37), (3, .int (nI k_17)), (0, .ref h0), (1, .ref mg), (2, .int (nI jf))]) hx hb dX5_readDomain_71 hl (by decide) rfl (fun ls hl => ?_)
      refine lv_iload hx hb dX5_readDomain_73 (lv_at hl 0 rfl) ?_
      have hFc := pg_free hD hS hA
      refine va_calli (va_runS (As := [.int r_105]) (rest := []) ⟨hx, hb, hml, hown, hts⟩ (s_X0_isWhite l dC dI cs ty L H.size F_80 r_105 hW ) ⟨callB_of 1 hts (gi kt_195) rfl rfl rfl (hts _ kt_1) (hts _ kt_482) (by decide +kernel) ⟨Nat.le_of_ble_eq_true rfl, Nat.le_of_ble_eq_true rfl⟩, (hts _ kt_197)⟩ ⟨fun a U g mk q => ⟨q.1, PT.calling q.2⟩, fun U hU hWm => ⟨rfl, PT.mk hU hWm hP hK hD hE hO⟩⟩ rfl rfl hl.1 rfl (lv_room (Nat.le_of_ble_eq_true rfl)) dX5_readDomain_75 ⟨by show _ + 0 ≤ 0; omega, by show _ + 0 ≤ 0; omega⟩) hS (fun q _ h => hFc q h) hFc (fun r_108 u t H1 locs ht hvm hw hB hz1 hk1 hS => ?_)
      obtain ⟨F_109, hB1⟩ := hB
      obtain rfl : F_80 = F_109 := (funext (fun a => hB1.2.2.2 a List.not_mem_nil)).symm
      obtain ⟨hP, hD, hO, hR⟩ := QT.back hB1 ht hFc hR (fun q h => absurd h List.not_mem_nil)
      generalize H1 = H at hP hS ⊢
      have hw : (r_108 = 0 ∨ r_108 = 1) := hw
      have hw_110 := hw
      refine lv_if_ne (tgt := 116) hx hb dX5_readDomain_78 (by decide) (fun c_111 => ?_) (fun c_111 => ?_)
      ·
        refine lv_aload_n hx hb dX5_readDomain_116 rfl (lv_at hl 4 rfl) ?_
        obtain ⟨v0_112, v1_113, v2_114, hF_115⟩ := hO.pol hL_h0 hT_h0
        refine pg_get (ci := 5) (v := .ref w0) (C := RX5) (T := TX5) (N := 7) hx hb hts it_5 hown hK hP hL_h0 hF_115 rfl 1 (by decide) (hts _ kt_461) (fun _ h9 => h9) rfl dX5_readDomain_117 ?_
        refine lv_iconst (v := 0) hx hb dX5_readDomain_120 (by decide) ?_
        refine lv_aload_n hx hb dX5_readDomain_121 rfl (lv_at hl 4 rfl) ?_
        refine pg_get (ci := 5) (v := .ref w0) (C := RX5) (T := TX5) (N := 7) hx hb hts it_5 hown hK hP hL_h0 hF_115 rfl 1 (by decide) (hts _ kt_461) (fun _ h9 => h9) rfl dX5_readDomain_122 ?_
        obtain ⟨z_116, o_117, hF_118, hq_119, hq_120⟩ := hO.bytes hi_42 ht_44
        refine pg_getN (ci := 0) (v := .int (nI z_116)) (C := RX0) (T := TX0) (N := 3) hx hb hts it_0 hown hK hP hi_42 hF_118 rfl 1 (by decide) (hE.nest kn_13) (fun _ h9 => h9) rfl dX5_readDomain_125 ?_
        have hFc := pg_free hD hS hA
        refine va_calli (va_runV (As := [.int 0, .int (nI z_116)]) (rest := []) ⟨hx, hb, hml, hown, hts⟩ (s_X0_isName l dC dI cs ty L H.size F_80 w0 (ρ + 1) r_43 60 0 (nI z_116) hW hi_42 ht_44) ⟨callB_of 2 hts (gi kt_108) rfl rfl rfl (hts _ kt_1) (hts _ kt_481) (by decide +kernel) ⟨Nat.le_of_ble_eq_true rfl, Nat.le_of_ble_eq_true rfl⟩, (hts _ kt_110), (hts _ kt_111)⟩ ⟨fun a U g mk q => ⟨q.1, PT.calling q.2⟩, pg_recv hK hP hi_42 hF_118 (q := (RX0, TX0, 3)) rfl, fun U hU hWm => ⟨rfl, PT.mk hU hWm hP hK hD hE hO⟩⟩ rfl rfl hl.1 rfl (lv_room (Nat.le_of_ble_eq_true rfl)) dX5_readDomain_128 ⟨by show _ + 0 ≤ 0; omega, by show _ + 0 ≤ 0; omega⟩) hS (fun q _ h => hFc q h) hFc (fun r_121 u t H1 locs ht hvm hw hB hz1 hk1 hS => ?_)
        obtain ⟨F_122, hB1⟩ := hB
        obtain rfl : F_80 = F_122 := (funext (fun a => hB1.2.2.2 a List.not_mem_nil)).symm
        obtain ⟨hP, hD, hO, hR⟩ := QT.back hB1 ht hFc hR (fun q h => absurd h List.not_mem_nil)
        generalize H1 = H at hP hS ⊢
        have hw : (r_121 = 0 ∨ r_121 = 1) := hw
        have hw_123 := hw
        refine W.widen (k := 0) (n := 0) (by omega) (by omega) ?_
        exact W.zret (v := r_121) (ty := .boolean) hx hb hr (bitN hw_123) (fun t ht hWm => ⟨⟨r_121, (), rfl, hw_123, ⟨F_80, QT.mk ht hP hD hO hR⟩⟩, hS.F ht⟩) hS.2.2 dX5_readDomain_131
      ·
        refine lv_iload hx hb dX5_readDomain_81 (lv_at hl 0 rfl) ?_
        refine lv_bipush (v := 62) hx hb dX5_readDomain_83 (by decide) ?_
        refine lv_icmp_eq (tgt := 116) hx hb dX5_readDomain_85 (by decide) (fun c_124 => ?_) (fun c_124 => ?_)
        ·
          refine lv_aload_n hx hb dX5_readDomain_116 rfl (lv_at hl 4 rfl) ?_
          obtain ⟨v0_125, v1_126, v2_127, hF_128⟩ := hO.pol hL_h0 hT_h0
          refine pg_get (ci := 5) (v := .ref w0) (C := RX5) (T := TX5) (N := 7) hx hb hts it_5 hown hK hP hL_h0 hF_128 rfl 1 (by decide) (hts _ kt_461) (fun _ h9 => h9) rfl dX5_readDomain_117 ?_
          refine lv_iconst (v := 0) hx hb dX5_readDomain_120 (by decide) ?_
          refine lv_aload_n hx hb dX5_readDomain_121 rfl (lv_at hl 4 rfl) ?_
          refine pg_get (ci := 5) (v := .ref w0) (C := RX5) (T := TX5) (N := 7) hx hb hts it_5 hown hK hP hL_h0 hF_128 rfl 1 (by decide) (hts _ kt_461) (fun _ h9 => h9) rfl dX5_readDomain_122 ?_
          obtain ⟨z_129, o_130, hF_131, hq_132, hq_133⟩ := hO.bytes hi_42 ht_44
          refine pg_getN (ci := 0) (v := .int (nI z_129)) (C := RX0) (T := TX0) (N := 3) hx hb hts it_0 hown hK hP hi_42 hF_131 rfl 1 (by decide) (hE.nest kn_13) (fun _ h9 => h9) rfl dX5_readDomain_125 ?_
          have hFc := pg_free hD hS hA
          refine va_calli (va_runV (As := [.int 0, .int (nI z_129)]) (rest := []) ⟨hx, hb, hml, hown, hts⟩ (s_X0_isName l dC dI cs ty L H.size F_80 w0 (ρ + 1) r_43 60 0 (nI z_129) hW hi_42 ht_44) ⟨callB_of 2 hts (gi kt_108) rfl rfl rfl (hts _ kt_1) (hts _ kt_481) (by decide +kernel) ⟨Nat.le_of_ble_eq_true rfl, Nat.le_of_ble_eq_true rfl⟩, (hts _ kt_110), (hts _ kt_111)⟩ ⟨fun a U g mk q => ⟨q.1, PT.calling q.2⟩, pg_recv hK hP hi_42 hF_131 (q := (RX0, TX0, 3)) rfl, fun U hU hWm => ⟨rfl, PT.mk hU hWm hP hK hD hE hO⟩⟩ rfl rfl hl.1 rfl (lv_room (Nat.le_of_ble_eq_true rfl)) dX5_readDomain_128 ⟨by show _ + 0 ≤ 0; omega, by show _ + 0 ≤ 0; omega⟩) hS (fun q _ h => hFc q h) hFc (fun r_134 u t H1 locs ht hvm hw hB hz1 hk1 hS => ?_)
          obtain ⟨F_135, hB1⟩ := hB
          obtain rfl : F_80 = F_135 := (funext (fun a => hB1.2.2.2 a List.not_mem_nil)).symm
          obtain ⟨hP, hD, hO, hR⟩ := QT.back hB1 ht hFc hR (fun q h => absurd h List.not_mem_nil)
          generalize H1 = H at hP hS ⊢
          have hw : (r_134 = 0 ∨ r_134 = 1) := hw
          have hw_136 := hw
          refine W.widen (k := 0) (n := 0) (by omega) (by omega) ?_
          exact W.zret (v := r_134) (ty := .boolean) hx hb hr (bitN hw_136) (fun t ht hWm => ⟨⟨r_134, (), rfl, hw_136, ⟨F_80, QT.mk ht hP hD hO hR⟩⟩, hS.F ht⟩) hS.2.2 dX5_readDomain_131
        ·
          refine lv_iload hx hb dX5_readDomain_88 (lv_at hl 0 rfl) ?_
          refine lv_bipush (v := 10) hx hb dX5_readDomain_90 (by decide) ?_
          refine lv_icmp_ne (tgt := 98) hx hb dX5_readDomain_92 (by decide) (fun c_137 => ?_) (fun c_137 => ?_)
          ·
            refine lv_aload_n hx hb dX5_readDomain_98 rfl (lv_at hl 4 rfl) ?_
            obtain ⟨v0_138, v1_139, v2_140, hF_141⟩ := hO.pol hL_h0 hT_h0
            refine pg_get (ci := 5) (v := .ref w0) (C := RX5) (T := TX5) (N := 7) hx hb hts it_5 hown hK hP hL_h0 hF_141 rfl 1 (by decide) (hts _ kt_461) (fun _ h9 => h9) rfl dX5_readDomain_99 ?_
            refine lv_iload hx hb dX5_readDomain_102 (lv_at hl 0 rfl) ?_
            have hFc := pg_free hD hS hA
            refine va_calli (va_runS (As := [.int r_105]) (rest := [.ref w0]) ⟨hx, hb, hml, hown, hts⟩ (s_X0_smallOf l dC dI cs ty L H.size F_80 r_105 hW ) ⟨callB_of 1 hts (gi kt_0) rfl rfl rfl (hts _ kt_1) (hts _ kt_483) (by decide +kernel) ⟨Nat.le_of_ble_eq_true rfl, Nat.le_of_ble_eq_true rfl⟩, (hts _ kt_3)⟩ ⟨fun a U g mk q => ⟨q.1, PT.calling q.2⟩, fun U hU hWm => ⟨rfl, PT.mk hU hWm hP hK hD hE hO⟩⟩ rfl rfl hl.1 rfl (lv_room (Nat.le_of_ble_eq_true rfl)) dX5_readDomain_104 ⟨by show _ + 0 ≤ 0; omega, by show _ + 0 ≤ 0; omega⟩) hS (fun q _ h => hFc q h) hFc (fun r_142 u t H1 locs ht hvm hw hB hz1 hk1 hS => ?_)
            obtain ⟨F_143, hB1⟩ := hB
            obtain rfl : F_80 = F_143 := (funext (fun a => hB1.2.2.2 a List.not_mem_nil)).symm
            obtain ⟨hP, hD, hO, hR⟩ := QT.back hB1 ht hFc hR (fun q h => absurd h List.not_mem_nil)
            generalize H1 = H at hP hS ⊢
            have hw : True := hw
            have hw_144 := hw
            have hFc := pg_free hD hS hA
            obtain ⟨z_145, o_146, hF_147, hq_148, hq_149⟩ := hO.bytes hi_42 ht_44
            refine va_callv (va_runV (As := [.int r_142]) (rest := []) ⟨hx, hb, hml, hown, hts⟩ (s_X0_add l dC dI cs ty L H.size F_80 w0 (ρ + 1) r_43 60 r_142 hW hi_42 ht_44) ⟨callB_of 1 hts (gi kt_13) rfl rfl rfl (hts _ kt_1) (hts _ kt_484) (by decide +kernel) ⟨Nat.le_of_ble_eq_true rfl, Nat.le_of_ble_eq_true rfl⟩, (hts _ kt_15), (hts _ kt_16)⟩ ⟨fun a U g mk q => ⟨q.1, PT.calling q.2⟩, pg_recv hK hP hi_42 hF_147 (q := (RX0, TX0, 3)) rfl, fun U hU hWm => ⟨rfl, PT.mk hU hWm hP hK hD hE hO⟩⟩ rfl rfl hl.1 rfl (lv_room (Nat.le_of_ble_eq_true rfl)) dX5_readDomain_107 ⟨by show _ + 0 ≤ 0; omega, by show _ + 0 ≤ 0; omega⟩) hS (fun q _ h => hFc q h) hFc (fun u t H1 locs ht hvm hw hB hz1 hk1 hS => ?_)
            obtain ⟨F_151, hB1⟩ := hB
            obtain ⟨hP, hD, hO, hR⟩ := QT.back hB1 ht hFc hR (fun q h => by simp only [List.mem_cons, List.not_mem_nil, or_false] at h ⊢; omega)
            have hF_152 : F_151 h0 = .inr (5, [.ref d, .ref w0, .ref w1, .ref rc, .int v0_138, .int v1_139, .int v2_140]) := (hB1.2.2.2 h0 (by rw [hT_h0]; simp)).trans hF_141
            generalize H1 = H at hP hS ⊢
            obtain ⟨x_153, ex_153⟩ : ∃ y : Int32, y = i1 + Int32.ofInt 1 := ⟨_, rfl⟩
            refine lv_iinc (v := x_153) (lv' := [(5, .int x_153), (6, .int r_105), (4, .int r_37), (3, .int (nI k_17)), (0, .ref h0), (1, .ref mg), (2, .int (nI jf))]) hx hb dX5_readDomain_110 hl (k := 1) rfl (ex_153.symm) (by decide) rfl (fun ls hl => ?_)
            refine lv_goto (tgt := 56) hx hb dX5_readDomain_113 (by decide) ?_
            refine W.widen (k := 0) (n := 0) (by omega) (by omega) ?_
            exact ih_82 x_153 F_151 (trivial) (by show ((nI k_17).toInt - x_153.toInt).toNat < ((nI k_17).toInt - i1.toInt).toNat; exact incN ex_153 c_83) hO hR _ _ hP hD hS ls (lv_sub hl [0, 2, 3, 4, 5, 6] rfl)
          ·
            refine lv_goto (tgt := 116) hx hb dX5_readDomain_95 (by decide) ?_
            refine lv_aload_n hx hb dX5_readDomain_116 rfl (lv_at hl 4 rfl) ?_
            obtain ⟨v0_154, v1_155, v2_156, hF_157⟩ := hO.pol hL_h0 hT_h0
            refine pg_get (ci := 5) (v := .ref w0) (C := RX5) (T := TX5) (N := 7) hx hb hts it_5 hown hK hP hL_h0 hF_157 rfl 1 (by decide) (hts _ kt_461) (fun _ h9 => h9) rfl dX5_readDomain_117 ?_
            refine lv_iconst (v := 0) hx hb dX5_readDomain_120 (by decide) ?_
            refine lv_aload_n hx hb dX5_readDomain_121 rfl (lv_at hl 4 rfl) ?_
            refine pg_get (ci := 5) (v := .ref w0) (C := RX5) (T := TX5) (N := 7) hx hb hts it_5 hown hK hP hL_h0 hF_157 rfl 1 (by decide) (hts _ kt_461) (fun _ h9 => h9) rfl dX5_readDomain_122 ?_
            obtain ⟨z_158, o_159, hF_160, hq_161, hq_162⟩ := hO.bytes hi_42 ht_44
            refine pg_getN (ci := 0) (v := .int (nI z_158)) (C := RX0) (T := TX0) (N := 3) hx hb hts it_0 hown hK hP hi_42 hF_160 rfl 1 (by decide) (hE.nest kn_13) (fun _ h9 => h9) rfl dX5_readDomain_125 ?_
            have hFc := pg_free hD hS hA
            refine va_calli (va_runV (As := [.int 0, .int (nI z_158)]) (rest := []) ⟨hx, hb, hml, hown, hts⟩ (s_X0_isName l dC dI cs ty L H.size F_80 w0 (ρ + 1) r_43 60 0 (nI z_158) hW hi_42 ht_44) ⟨callB_of 2 hts (gi kt_108) rfl rfl rfl (hts _ kt_1) (hts _ kt_481) (by decide +kernel) ⟨Nat.le_of_ble_eq_true rfl, Nat.le_of_ble_eq_true rfl⟩, (hts _ kt_110), (hts _ kt_111)⟩ ⟨fun a U g mk q => ⟨q.1, PT.calling q.2⟩, pg_recv hK hP hi_42 hF_160 (q := (RX0, TX0, 3)) rfl, fun U hU hWm => ⟨rfl, PT.mk hU hWm hP hK hD hE hO⟩⟩ rfl rfl hl.1 rfl (lv_room (Nat.le_of_ble_eq_true rfl)) dX5_readDomain_128 ⟨by show _ + 0 ≤ 0; omega, by show _ + 0 ≤ 0; omega⟩) hS (fun q _ h => hFc q h) hFc (fun r_163 u t H1 locs ht hvm hw hB hz1 hk1 hS => ?_)
            obtain ⟨F_164, hB1⟩ := hB
            obtain rfl : F_80 = F_164 := (funext (fun a => hB1.2.2.2 a List.not_mem_nil)).symm
            obtain ⟨hP, hD, hO, hR⟩ := QT.back hB1 ht hFc hR (fun q h => absurd h List.not_mem_nil)
            generalize H1 = H at hP hS ⊢
            have hw : (r_163 = 0 ∨ r_163 = 1) := hw
            have hw_165 := hw
            refine W.widen (k := 0) (n := 0) (by omega) (by omega) ?_
            exact W.zret (v := r_163) (ty := .boolean) hx hb hr (bitN hw_165) (fun t ht hWm => ⟨⟨r_163, (), rfl, hw_165, ⟨F_80, QT.mk ht hP hD hO hR⟩⟩, hS.F ht⟩) hS.2.2 dX5_readDomain_131
  ·
    refine lv_iconst (v := 0) hx hb dX5_readDomain_48 (by decide) ?_
    refine W.widen (k := 0) (n := 0) (by omega) (by omega) ?_
    exact W.zret (v := 0) (ty := .boolean) hx hb hr (by decide) (fun t ht hWm => ⟨⟨0, (), rfl, (by first | exact Or.inl rfl | exact Or.inr rfl), ⟨F_63, QT.mk ht hP hD hO hR⟩⟩, hS.F ht⟩) hS.2.2 dX5_readDomain_49
set_option maxHeartbeats 4000000 in
set_option maxRecDepth 100000 in
theorem s_X5_read (l : Launch) (dC : Nat → ClassId) (dI : Nat → Nat → Nat) (cs : Nat → ClassId) (ty : TyM) (L : List Nat) (sz : Nat) (F : Nat → va_E) (h0 : Nat) (ρ : Nat) (d : Nat) (δ : Nat) (ea : Nat) (w0 : Nat) (w1 : Nat) (rc : Nat) (rx : Nat) (ry0 : Nat) (ry1 : Nat) (ry2 : Nat) (mg : Nat) (μ : Nat) (mx : Nat) (m0 : Nat) (m1 : Nat) (m2 : Nat) (hW : WT ty L) (hL_h0 : h0 ∈ L) (hT_h0 : ty h0 = (5, ρ, [d, δ, ea, w0, w1, rc, rx, ry0, ry1, ry2])) (hL_mg : mg ∈ L) (hT_mg : ty mg = (4, μ, [mx, m0, m1, m2])) : Met l yX5_read (.code yX5_read cX5_read 4 (some .int) :: tb) ({ frames := 9, cells := 0, slots := 0, locals := 197 }) (va_Pc [.ref h0, .ref mg] (PTE (dC, dI) cs ty L F sz [])) (va_Qi (fun (r : Int32) (_ : Unit) => True) (fun _ T9 => ∃ F2 : Nat → va_E, QT (dC, dI) cs ty L [ρ, ρ + 1, ρ + 2, ρ + 3, ρ + 9, ρ + 72, ρ + 73] F F2 (va_A (va_pl L F) sz) T9) (va_A (va_pl L F) sz)) 0 0 (va_A (va_pl L F) sz) := by
  refine Met.ofW (cc := cX5_read) (maxL := 4) (ret := (some .int)) (by decide) rfl ?_
  intro p e s m args below meth c s₁ B hml hv
  obtain ⟨rfl, ⟨hsz, hP, hK, hD0, hE, hO⟩, hG, hX⟩ := hv
  have hx := B.exec
  have hb := B.bytes
  have hr := B.returns
  have hts : ∀ w ∈ tb, w.before _ s = true := fun w h => atoms_spec (ws := .code yX5_read cX5_read 4 (some .int) :: tb) B.pre w (List.mem_cons_of_mem _ h)
  have hown : s.vm.findClass RX5 = some m.cls := findClass_of_methodNamed B.named
  have hlocks := B.notSynchronized
  subst hsz
  have hD := hD0.self (sz := s.heap.size)
  generalize hAe : va_A (va_pl L F) s.heap.size = A at hD hG hX ⊢
  have hA : ∀ q : Nat, s.heap.size ≤ q → A q := fun q h => by rw [← hAe]; exact Or.inr h
  have hS : va_S A s.heap s.heap [] := va_S.rf
  have hR : FR ty [ρ, ρ + 1, ρ + 2, ρ + 3, ρ + 9, ρ + 72, ρ + 73] F F := FR.refl
  have hl := lv_entry ([.ref h0, .ref mg]) (n := 4) (Nat.le_of_ble_eq_true rfl)
  rw [lg_entry_eq]
  generalize (lg_sl ([.ref h0, .ref mg]) ++ List.replicate (4 - (lg_sl ([.ref h0, .ref mg])).length) Slot.unset).toArray = ls at hl ⊢
  have hl : lv_has ls 4 [(0, .ref h0), (1, .ref mg)] := hl
  refine lv_aload_n hx hb dX5_read_0 rfl (lv_at hl 1 rfl) ?_
  obtain ⟨q_1, v_2, hr_q_1, hXc_q_1⟩ := hG.2.2.2.2 ("PostGate$Policy", 45, "from", [102, 114, 111, 109]) (by decide +kernel)
  have hXc_q_1 : SXc q_1 v_2 4 (cct [102, 114, 111, 109]) A s s.heap := hXc_q_1
  have hX_q_1 : SX q_1 v_2 4 A s s.heap := hXc_q_1.sx
  obtain ⟨xo_q_1, xc_q_1, xv_q_1, xt_q_1, xn_q_1⟩ := id hXc_q_1
  have hr_q_1 : vk_R "PostGate$Policy" 45 "from" q_1 s := hr_q_1
  refine va_ldcS hx hb hown hr_q_1 dX5_read_1 ?_
  obtain ⟨hi_3, hi_4, hi_5, hi_6, ⟨r_7, ht_8⟩, ht_9, ht_10, ht_11⟩ := hW.msg hL_mg hT_mg
  obtain ⟨z_12, v0_13, hF_14, hq_15⟩ := hO.msg hL_mg hT_mg
  have hFc := pg_free hD hS hA
  refine va_calli (va_runV (As := [.ref q_1]) (rest := []) ⟨hx, hb, hml, hown, hts⟩ (s_X4_countOf_x l dC dI cs ty L s.heap.size F mg μ mx m0 m1 m2 q_1 v_2 4 (cct [102, 114, 111, 109]) z_12 v0_13 hW hL_mg hT_mg hF_14 (by omega)) ⟨callB_of 1 hts (gi kt_432) rfl rfl rfl (hts _ kt_211) (hts _ kt_485) (by decide +kernel) ⟨Nat.le_of_ble_eq_true rfl, Nat.le_of_ble_eq_true rfl⟩, (hts _ kt_434), (hts _ kt_435)⟩ ⟨fun a U g mk q => ⟨q.1, PTC.calling q.2⟩, pg_recv hK hP hL_mg hF_14 (q := (RX4, TX4, 6)) rfl, fun U hU hWm => ⟨rfl, PTC.mk hU hWm hP hK hD hE hO hG hXc_q_1 hS hFc⟩⟩ rfl rfl hl.1 rfl (lv_room (Nat.le_of_ble_eq_true rfl)) dX5_read_3 ⟨by show _ + 0 ≤ 0; omega, by show _ + 0 ≤ 0; omega⟩) hS (fun q _ h => hFc q h) hFc (fun r_16 u t H1 locs ht hvm hw hB hz1 hk1 hS => ?_)
  obtain ⟨F_17, hB1⟩ := hB
  obtain rfl : F = F_17 := (funext (fun a => hB1.2.2.2 a List.not_mem_nil)).symm
  obtain ⟨hP, hD, hO, hR⟩ := QT.back hB1 ht hFc hR (fun q h => absurd h List.not_mem_nil)
  generalize H1 = H at hP hS ⊢
  have hw : (r_16 = 0 ∨ (∃ i, i < z_12 ∧ nmd F mx m0 m1 (cct [102, 114, 111, 109]) 4 i)) := hw
  have hw_18 := hw
  refine lv_iconst (v := 1) hx hb dX5_read_6 (by decide) ?_
  refine lv_icmp_ne (tgt := 25) hx hb dX5_read_7 (by decide) (fun c_19 => ?_) (fun c_19 => ?_)
  ·
    refine lv_iconst (v := 1) hx hb dX5_read_25 (by decide) ?_
    refine W.widen (k := 0) (n := 0) (by omega) (by omega) ?_
    exact W.iret (v := 1) hx hb hr (fun t ht hWm => ⟨⟨1, (), rfl, trivial, ⟨F, QT.mk ht hP hD hO hR⟩⟩, hS.F ht⟩) hS.2.2 dX5_read_26
  ·
    have hex9 := hw_18.resolve_left (by rw [c_19]; decide)
    refine lv_aload_n hx hb dX5_read_10 rfl (lv_at hl 0 rfl) ?_
    refine lv_aload_n hx hb dX5_read_11 rfl (lv_at hl 1 rfl) ?_
    refine lv_aload_n hx hb dX5_read_12 rfl (lv_at hl 1 rfl) ?_
    refine va_ldcS hx hb hown hr_q_1 dX5_read_13 ?_
    refine lv_iconst (v := 0) hx hb dX5_read_15 (by decide) ?_
    have hFc := pg_free hD hS hA
    refine va_calli (va_runV (As := [.ref q_1, .int 0]) (rest := [.ref mg, .ref h0]) ⟨hx, hb, hml, hown, hts⟩ (s_X4_fieldOf_x l dC dI cs ty L H.size F mg μ mx m0 m1 m2 q_1 v_2 4 (cct [102, 114, 111, 109]) z_12 v0_13 hW hL_mg hT_mg hF_14 (by omega) (hex9)) ⟨callB_of 2 hts (gi kt_486) rfl rfl rfl (hts _ kt_211) (hts _ kt_487) (by decide +kernel) ⟨Nat.le_of_ble_eq_true rfl, Nat.le_of_ble_eq_true rfl⟩, (hts _ kt_488), (hts _ kt_489)⟩ ⟨fun a U g mk q => ⟨q.1, PTC.calling q.2⟩, pg_recv hK hP hL_mg hF_14 (q := (RX4, TX4, 6)) rfl, fun U hU hWm => ⟨rfl, PTC.mk hU hWm hP hK hD hE hO hG hXc_q_1 hS hFc⟩⟩ rfl rfl hl.1 rfl (lv_room (Nat.le_of_ble_eq_true rfl)) dX5_read_16 ⟨by show _ + 0 ≤ 0; omega, by show _ + 0 ≤ 0; omega⟩) hS (fun q _ h => hFc q h) hFc (fun r_20 u t H1 locs ht hvm hw hB hz1 hk1 hS => ?_)
    obtain ⟨F_21, hB1⟩ := hB
    obtain rfl : F = F_21 := (funext (fun a => hB1.2.2.2 a List.not_mem_nil)).symm
    obtain ⟨hP, hD, hO, hR⟩ := QT.back hB1 ht hFc hR (fun q h => absurd h List.not_mem_nil)
    generalize H1 = H at hP hS ⊢
    have hw : (∃ j : Nat, j < 20 ∧ r_20 = nI j) := hw
    have hw_22 := hw
    obtain ⟨k_23, hk_23, ek_23⟩ := hw_22
    subst ek_23
    have hFc := pg_free hD hS hA
    obtain ⟨hi_24, ht_25, hi_26, ⟨r_27, ht_28⟩, hi_29, ⟨r_30, ht_31⟩, hi_32, ht_33⟩ := hW.pol hL_h0 hT_h0
    obtain ⟨v0_34, v1_35, v2_36, hF_37⟩ := hO.pol hL_h0 hT_h0
    refine va_calli (va_runV (As := [.ref mg, .int (nI k_23)]) (rest := []) ⟨hx, hb, hml, hown, hts⟩ (s_X5_readDomain l dC dI cs ty L H.size F h0 ρ d δ ea w0 w1 rc rx ry0 ry1 ry2 mg μ mx m0 m1 m2 k_23 hW hL_h0 hT_h0 hL_mg hT_mg (by omega)) ⟨callB_of 2 hts (gi kt_490) rfl rfl rfl (hts _ kt_471) (hts _ kt_491) (by decide +kernel) ⟨Nat.le_of_ble_eq_true rfl, Nat.le_of_ble_eq_true rfl⟩, (hts _ kt_492), (hts _ kt_493)⟩ ⟨fun a U g mk q => ⟨q.1, PT.calling q.2⟩, pg_recv hK hP hL_h0 hF_37 (q := (RX5, TX5, 7)) rfl, fun U hU hWm => ⟨rfl, PT.mk hU hWm hP hK hD hE hO⟩⟩ rfl rfl hl.1 rfl (lv_room (Nat.le_of_ble_eq_true rfl)) dX5_read_19 ⟨by show _ + 0 ≤ 0; omega, by show _ + 0 ≤ 0; omega⟩) hS (fun q _ h => hFc q h) hFc (fun r_38 u t H1 locs ht hvm hw hB hz1 hk1 hS => ?_)
    obtain ⟨F_39, hB1⟩ := hB
    obtain ⟨hP, hD, hO, hR⟩ := QT.back hB1 ht hFc hR (fun q h => by simp only [List.mem_cons, List.not_mem_nil, or_false] at h ⊢; omega)
    have hF_40 : F_39 h0 = .inr (5, [.ref d, .ref w0, .ref w1, .ref rc, .int v0_34, .int v1_35, .int v2_36]) := (hB1.2.2.2 h0 (by rw [hT_h0]; simp)).trans hF_37
    generalize H1 = H at hP hS ⊢
    have hw : (r_38 = 0 ∨ r_38 = 1) := hw
    have hw_41 := hw
    refine lv_if_ne (tgt := 27) hx hb dX5_read_22 (by decide) (fun c_42 => ?_) (fun c_42 => ?_)
    ·
      refine lv_aload_n hx hb dX5_read_27 rfl (lv_at hl 0 rfl) ?_
      refine lv_iconst (v := 0) hx hb dX5_read_28 (by decide) ?_
      have hFc := pg_free hD hS hA
      refine va_callv (va_runV (As := [.int 0]) (rest := []) ⟨hx, hb, hml, hown, hts⟩ (s_X5_setPlace l dC dI cs ty L H.size F_39 h0 ρ d δ ea w0 w1 rc rx ry0 ry1 ry2 0 hW hL_h0 hT_h0) ⟨callB_of 1 hts (gi kt_494) rfl rfl rfl (hts _ kt_471) (hts _ kt_495) (by decide +kernel) ⟨Nat.le_of_ble_eq_true rfl, Nat.le_of_ble_eq_true rfl⟩, (hts _ kt_496), (hts _ kt_497)⟩ ⟨fun a U g mk q => ⟨q.1, PTE.calling q.2⟩, pg_recv hK hP hL_h0 hF_40 (q := (RX5, TX5, 7)) rfl, fun U hU hWm => ⟨rfl, PTE.mk hU hWm hP hK hD hE hO hG (fun x hx => absurd hx List.not_mem_nil) hS hFc⟩⟩ rfl rfl hl.1 rfl (lv_room (Nat.le_of_ble_eq_true rfl)) dX5_read_29 ⟨by show _ + 0 ≤ 0; omega, by show _ + 0 ≤ 0; omega⟩) hS (fun q _ h => hFc q h) hFc (fun u t H1 locs ht hvm hw hB hz1 hk1 hS => ?_)
      obtain ⟨F_44, hB1⟩ := hB
      obtain ⟨hP, hD, hO, hR⟩ := QT.back hB1 ht hFc hR (fun q h => by simp only [List.mem_cons, List.not_mem_nil, or_false] at h ⊢; omega)
      have hF_45 : F_44 h0 = .inr (5, [.ref d, .ref w0, .ref w1, .ref rc, .int v0_34, .int v1_35, .int v2_36]) := (hB1.2.2.2 h0 (by rw [hT_h0]; simp)).trans hF_40
      generalize H1 = H at hP hS ⊢
      refine lv_aload_n hx hb dX5_read_32 rfl (lv_at hl 0 rfl) ?_
      refine pg_get (ci := 5) (v := .ref d) (C := RX5) (T := TX5) (N := 7) hx hb hts it_5 hown hK hP hL_h0 hF_45 rfl 0 (by decide) (hts _ kt_463) (fun _ h9 => h9) rfl dX5_read_33 ?_
      refine lv_iconst (v := 3) hx hb dX5_read_36 (by decide) ?_
      refine lv_aload_n hx hb dX5_read_37 rfl (lv_at hl 0 rfl) ?_
      refine pg_get (ci := 5) (v := .ref w1) (C := RX5) (T := TX5) (N := 7) hx hb hts it_5 hown hK hP hL_h0 hF_45 rfl 2 (by decide) (hts _ kt_458) (fun _ h9 => h9) rfl dX5_read_38 ?_
      have hFc := pg_free hD hS hA
      obtain ⟨hi_46, ht_47⟩ := hW.dir hi_24 ht_25
      obtain ⟨z_48, hF_49, hq_50⟩ := hO.dir hi_24 ht_25
      refine va_calli (va_runV (As := [.int 3, .ref w1]) (rest := []) ⟨hx, hb, hml, hown, hts⟩ (s_X2_has l dC dI cs ty L H.size F_44 d δ ea w1 (ρ + 9) r_30 60 3 hW hi_24 ht_25 hi_29 ht_31) ⟨callB_of 2 hts (gi kt_373) rfl rfl rfl (hts _ kt_103) (hts _ kt_498) (by decide +kernel) ⟨Nat.le_of_ble_eq_true rfl, Nat.le_of_ble_eq_true rfl⟩, (hts _ kt_375), (hts _ kt_376)⟩ ⟨fun a U g mk q => ⟨q.1, PT.calling q.2⟩, pg_recv hK hP hi_24 hF_49 (q := (RX2, TX2, 2)) rfl, fun U hU hWm => ⟨rfl, PT.mk hU hWm hP hK hD hE hO⟩⟩ rfl rfl hl.1 rfl (lv_room (Nat.le_of_ble_eq_true rfl)) dX5_read_41 ⟨by show _ + 0 ≤ 0; omega, by show _ + 0 ≤ 0; omega⟩) hS (fun q _ h => hFc q h) hFc (fun r_51 u t H1 locs ht hvm hw hB hz1 hk1 hS => ?_)
      obtain ⟨F_52, hB1⟩ := hB
      obtain rfl : F_44 = F_52 := (funext (fun a => hB1.2.2.2 a List.not_mem_nil)).symm
      obtain ⟨hP, hD, hO, hR⟩ := QT.back hB1 ht hFc hR (fun q h => absurd h List.not_mem_nil)
      generalize H1 = H at hP hS ⊢
      have hw : (r_51 = 0 ∨ r_51 = 1) := hw
      have hw_53 := hw
      refine lv_if_eq (tgt := 49) hx hb dX5_read_44 (by decide) (fun c_54 => ?_) (fun c_54 => ?_)
      ·
        refine lv_aload_n hx hb dX5_read_49 rfl (lv_at hl 0 rfl) ?_
        refine pg_get (ci := 5) (v := .ref d) (C := RX5) (T := TX5) (N := 7) hx hb hts it_5 hown hK hP hL_h0 hF_45 rfl 0 (by decide) (hts _ kt_463) (fun _ h9 => h9) rfl dX5_read_50 ?_
        refine lv_aload_n hx hb dX5_read_53 rfl (lv_at hl 0 rfl) ?_
        refine pg_get (ci := 5) (v := .ref w1) (C := RX5) (T := TX5) (N := 7) hx hb hts it_5 hown hK hP hL_h0 hF_45 rfl 2 (by decide) (hts _ kt_458) (fun _ h9 => h9) rfl dX5_read_54 ?_
        obtain ⟨q_55, v_56, hr_q_55, hXc_q_55⟩ := hG.2.2.2.2 ("PostGate$Policy", 70, "v=DMARC1", [118, 61, 68, 77, 65, 82, 67, 49]) (by decide +kernel)
        have hXc_q_55 : SXc q_55 v_56 8 (cct [118, 61, 68, 77, 65, 82, 67, 49]) A s s.heap := hXc_q_55
        have hX_q_55 : SX q_55 v_56 8 A s s.heap := hXc_q_55.sx
        obtain ⟨xo_q_55, xc_q_55, xv_q_55, xt_q_55, xn_q_55⟩ := id hXc_q_55
        have hr_q_55 : vk_R "PostGate$Policy" 70 "v=DMARC1" q_55 s := hr_q_55
        refine va_ldcS hx hb hown hr_q_55 dX5_read_57 ?_
        refine lv_iconst (v := 0) hx hb dX5_read_59 (by decide) ?_
        have hFc := pg_free hD hS hA
        refine va_calli (va_runV (As := [.ref w1, .ref q_55, .int 0]) (rest := []) ⟨hx, hb, hml, hown, hts⟩ (s_X2_onlyText l dC dI cs ty L H.size F_44 d δ ea w1 (ρ + 9) r_30 60 q_55 v_56 8 0 hW hi_24 ht_25 hi_29 ht_31) ⟨callB_of 3 hts (gi kt_499) rfl rfl rfl (hts _ kt_103) (hts _ kt_500) (by decide +kernel) ⟨Nat.le_of_ble_eq_true rfl, Nat.le_of_ble_eq_true rfl⟩, (hts _ kt_501), (hts _ kt_502)⟩ ⟨fun a U g mk q => ⟨q.1, PTE.calling q.2⟩, pg_recv hK hP hi_24 hF_49 (q := (RX2, TX2, 2)) rfl, fun U hU hWm => ⟨rfl, PTE.mk hU hWm hP hK hD hE hO hG (fun x hx => by rw [List.mem_singleton] at hx; subst hx; exact hX_q_55) hS hFc⟩⟩ rfl rfl hl.1 rfl (lv_room (Nat.le_of_ble_eq_true rfl)) dX5_read_60 ⟨by show _ + 0 ≤ 0; omega, by show _ + 0 ≤ 0; omega⟩) hS (fun q _ h => hFc q h) hFc (fun r_57 u t H1 locs ht hvm hw hB hz1 hk1 hS => ?_)
        obtain ⟨F_58, hB1⟩ := hB
        obtain rfl : F_44 = F_58 := (funext (fun a => hB1.2.2.2 a List.not_mem_nil)).symm
        obtain ⟨hP, hD, hO, hR⟩ := QT.back hB1 ht hFc hR (fun q h => absurd h List.not_mem_nil)
        generalize H1 = H at hP hS ⊢
        have hw : True := hw
        have hw_59 := hw
        refine lv_istore_n (lv' := [(2, .int r_57), (0, .ref h0), (1, .ref mg)]) hx hb dX5_read_63 rfl hl (by decide) rfl (fun ls hl => ?_)
        refine lv_iload_n hx hb dX5_read_64 rfl (lv_at hl 0 rfl) ?_
        refine lv_if_lt (tgt := 72) hx hb dX5_read_65 (by decide) (fun c_60 => ?_) (fun c_60 => ?_)
        ·
          refine lv_iconst (v := 0) hx hb dX5_read_72 (by decide) ?_
          refine lv_istore_n (lv' := [(3, .int 0), (2, .int r_57), (0, .ref h0), (1, .ref mg)]) hx hb dX5_read_73 rfl hl (by decide) rfl (fun ls hl => ?_)
          refine lv_iload_n hx hb dX5_read_74 rfl (lv_at hl 0 rfl) ?_
          refine lv_if_ne (tgt := 125) hx hb dX5_read_75 (by decide) (fun c_61 => absurd (by decide) c_61) (fun c_61 => ?_)
          refine W.widen (k := 0) (n := 0) (by omega) (by omega) ?_
          refine pl_cut (σ := Int32) A (dC, dI) cs ty L [ρ, ρ + 1, ρ + 2, ρ + 3, ρ + 9, ρ + 72, ρ + 73] F 125 4 (fun s2 => [(3, .int 0), (2, .int s2), (0, .ref h0), (1, .ref mg)]) (fun s2 => []) (fun s2 _ => True) ?_ (fun jn_62 => ?_)
          ·
            rintro s2 F_63 hv_64 hO hR H locs hP hD hS ls hl
            have hl : lv_has ls 4 [(3, .int 0), (2, .int s2), (0, .ref h0), (1, .ref mg)] := hl
            have hv_64 : True := hv_64
            refine W.eq (g2 := F0 m 125 ls []) rfl ?_
            refine lv_iload_n hx hb dX5_read_125 rfl (lv_at hl 1 rfl) ?_
            refine lv_if_ge (tgt := 133) hx hb dX5_read_126 (by decide) (fun c_65 => ?_) (fun c_65 => ?_)
            ·
              refine lv_aload_n hx hb dX5_read_133 rfl (lv_at hl 2 rfl) ?_
              refine lv_aload_n hx hb dX5_read_134 rfl (lv_at hl 2 rfl) ?_
              obtain ⟨v0_66, v1_67, v2_68, hF_69⟩ := hO.pol hL_h0 hT_h0
              refine pg_get (ci := 5) (v := .ref d) (C := RX5) (T := TX5) (N := 7) hx hb hts it_5 hown hK hP hL_h0 hF_69 rfl 0 (by decide) (hts _ kt_463) (fun _ h9 => h9) rfl dX5_read_135 ?_
              refine lv_iload_n hx hb dX5_read_138 rfl (lv_at hl 1 rfl) ?_
              have hFc := pg_free hD hS hA
              obtain ⟨z_70, hF_71, hq_72⟩ := hO.dir hi_24 ht_25
              refine va_callr (va_runV (As := [.int s2]) (rest := [.ref h0]) ⟨hx, hb, hml, hown, hts⟩ (s_X2_valueAt l dC dI cs ty L H.size F_63 d δ ea s2 hW hi_24 ht_25) ⟨callB_of 1 hts (gi kt_381) rfl rfl rfl (hts _ kt_103) (hts _ kt_503) (by decide +kernel) ⟨Nat.le_of_ble_eq_true rfl, Nat.le_of_ble_eq_true rfl⟩, (hts _ kt_383), (hts _ kt_384)⟩ ⟨fun a U g mk q => ⟨q.1, PT.calling q.2⟩, pg_recv hK hP hi_24 hF_71 (q := (RX2, TX2, 2)) rfl, fun U hU hWm => ⟨rfl, PT.mk hU hWm hP hK hD hE hO⟩⟩ rfl rfl hl.1 rfl (lv_room (Nat.le_of_ble_eq_true rfl)) dX5_read_139 ⟨by show _ + 0 ≤ 0; omega, by show _ + 0 ≤ 0; omega⟩) hS (fun q _ h => hFc q h) hFc (fun u r_73 t H1 locs ht hvm hw hB hz1 hk1 hS => ?_)
              obtain ⟨F_74, vr_75, μ_76, hB1, hq_77, hq_78⟩ := hB
              obtain rfl : F_63 = F_74 := (funext (fun a => hB1.2.2.2 a List.not_mem_nil)).symm
              obtain ⟨hP, hD, hO, hR⟩ := QT.back hB1 ht hFc hR (fun q h => absurd h List.not_mem_nil)
              generalize H1 = H at hP hS ⊢
              refine lv_iload_n hx hb dX5_read_142 rfl (lv_at hl 0 rfl) ?_
              have hFc := pg_free hD hS hA
              refine va_calli (va_runV (As := [.ref r_73, .int 0]) (rest := []) ⟨hx, hb, hml, hown, hts⟩ (s_X5_readRecord l dC dI cs ty L H.size F_63 h0 ρ d δ ea w0 w1 rc rx ry0 ry1 ry2 r_73 μ_76 vr_75 700 0 hW hL_h0 hT_h0 hq_77 hq_78) ⟨callB_of 2 hts (gi kt_504) rfl rfl rfl (hts _ kt_471) (hts _ kt_505) (by decide +kernel) ⟨Nat.le_of_ble_eq_true rfl, Nat.le_of_ble_eq_true rfl⟩, (hts _ kt_506), (hts _ kt_507)⟩ ⟨fun a U g mk q => ⟨q.1, PTE.calling q.2⟩, pg_recv hK hP hL_h0 hF_69 (q := (RX5, TX5, 7)) rfl, fun U hU hWm => ⟨rfl, PTE.mk hU hWm hP hK hD hE hO hG (fun x hx => absurd hx List.not_mem_nil) hS hFc⟩⟩ rfl rfl hl.1 rfl (lv_room (Nat.le_of_ble_eq_true rfl)) dX5_read_143 ⟨by show _ + 0 ≤ 0; omega, by show _ + 0 ≤ 0; omega⟩) hS (fun q _ h => hFc q h) hFc (fun r_79 u t H1 locs ht hvm hw hB hz1 hk1 hS => ?_)
              obtain ⟨F_80, hB1⟩ := hB
              obtain ⟨hP, hD, hO, hR⟩ := QT.back hB1 ht hFc hR (fun q h => by simp only [List.mem_cons, List.not_mem_nil, or_false] at h ⊢; omega)
              generalize H1 = H at hP hS ⊢
              have hw : True := hw
              have hw_81 := hw
              refine W.widen (k := 0) (n := 0) (by omega) (by omega) ?_
              exact W.iret (v := r_79) hx hb hr (fun t ht hWm => ⟨⟨r_79, (), rfl, trivial, ⟨F_80, QT.mk ht hP hD hO hR⟩⟩, hS.F ht⟩) hS.2.2 dX5_read_146
            ·
              refine lv_iconst (v := 0) hx hb dX5_read_129 (by decide) ?_
              refine lv_goto (tgt := 146) hx hb dX5_read_130 (by decide) ?_
              refine W.widen (k := 0) (n := 0) (by omega) (by omega) ?_
              exact W.iret (v := 0) hx hb hr (fun t ht hWm => ⟨⟨0, (), rfl, trivial, ⟨F_63, QT.mk ht hP hD hO hR⟩⟩, hS.F ht⟩) hS.2.2 dX5_read_146
          ·
            refine lv_aload_n hx hb dX5_read_78 rfl (lv_at hl 2 rfl) ?_
            refine lv_aload_n hx hb dX5_read_79 rfl (lv_at hl 2 rfl) ?_
            refine pg_get (ci := 5) (v := .ref d) (C := RX5) (T := TX5) (N := 7) hx hb hts it_5 hown hK hP hL_h0 hF_45 rfl 0 (by decide) (hts _ kt_463) (fun _ h9 => h9) rfl dX5_read_80 ?_
            refine lv_aload_n hx hb dX5_read_83 rfl (lv_at hl 2 rfl) ?_
            refine pg_get (ci := 5) (v := .ref w0) (C := RX5) (T := TX5) (N := 7) hx hb hts it_5 hown hK hP hL_h0 hF_45 rfl 1 (by decide) (hts _ kt_461) (fun _ h9 => h9) rfl dX5_read_84 ?_
            have hFc := pg_free hD hS hA
            refine va_calli (va_runV (As := [.ref w0]) (rest := [.ref h0]) ⟨hx, hb, hml, hown, hts⟩ (s_X2_houseStart l dC dI cs ty L H.size F_44 d δ ea w0 (ρ + 1) r_27 60 hW hi_24 ht_25 hi_26 ht_28) ⟨callB_of 1 hts (gi kt_102) rfl rfl rfl (hts _ kt_103) (hts _ kt_508) (by decide +kernel) ⟨Nat.le_of_ble_eq_true rfl, Nat.le_of_ble_eq_true rfl⟩, (hts _ kt_105), (hts _ kt_106)⟩ ⟨fun a U g mk q => ⟨q.1, PT.calling q.2⟩, pg_recv hK hP hi_24 hF_49 (q := (RX2, TX2, 2)) rfl, fun U hU hWm => ⟨rfl, PT.mk hU hWm hP hK hD hE hO⟩⟩ rfl rfl hl.1 rfl (lv_room (Nat.le_of_ble_eq_true rfl)) dX5_read_87 ⟨by show _ + 0 ≤ 0; omega, by show _ + 0 ≤ 0; omega⟩) hS (fun q _ h => hFc q h) hFc (fun r_82 u t H1 locs ht hvm hw hB hz1 hk1 hS => ?_)
            obtain ⟨F_83, hB1⟩ := hB
            obtain rfl : F_44 = F_83 := (funext (fun a => hB1.2.2.2 a List.not_mem_nil)).symm
            obtain ⟨hP, hD, hO, hR⟩ := QT.back hB1 ht hFc hR (fun q h => absurd h List.not_mem_nil)
            generalize H1 = H at hP hS ⊢
            have hw : True := hw
            have hw_84 := hw
            have hFc := pg_free hD hS hA
            refine va_callv (va_runV (As := [.int r_82]) (rest := []) ⟨hx, hb, hml, hown, hts⟩ (s_X5_setPlace l dC dI cs ty L H.size F_44 h0 ρ d δ ea w0 w1 rc rx ry0 ry1 ry2 r_82 hW hL_h0 hT_h0) ⟨callB_of 1 hts (gi kt_494) rfl rfl rfl (hts _ kt_471) (hts _ kt_495) (by decide +kernel) ⟨Nat.le_of_ble_eq_true rfl, Nat.le_of_ble_eq_true rfl⟩, (hts _ kt_496), (hts _ kt_497)⟩ ⟨fun a U g mk q => ⟨q.1, PTE.calling q.2⟩, pg_recv hK hP hL_h0 hF_45 (q := (RX5, TX5, 7)) rfl, fun U hU hWm => ⟨rfl, PTE.mk hU hWm hP hK hD hE hO hG (fun x hx => absurd hx List.not_mem_nil) hS hFc⟩⟩ rfl rfl hl.1 rfl (lv_room (Nat.le_of_ble_eq_true rfl)) dX5_read_90 ⟨by show _ + 0 ≤ 0; omega, by show _ + 0 ≤ 0; omega⟩) hS (fun q _ h => hFc q h) hFc (fun u t H1 locs ht hvm hw hB hz1 hk1 hS => ?_)
            obtain ⟨F_86, hB1⟩ := hB
            obtain ⟨hP, hD, hO, hR⟩ := QT.back hB1 ht hFc hR (fun q h => by simp only [List.mem_cons, List.not_mem_nil, or_false] at h ⊢; omega)
            have hF_87 : F_86 h0 = .inr (5, [.ref d, .ref w0, .ref w1, .ref rc, .int v0_34, .int v1_35, .int v2_36]) := (hB1.2.2.2 h0 (by rw [hT_h0]; simp)).trans hF_45
            generalize H1 = H at hP hS ⊢
            refine lv_aload_n hx hb dX5_read_93 rfl (lv_at hl 2 rfl) ?_
            refine pg_get (ci := 5) (v := .ref d) (C := RX5) (T := TX5) (N := 7) hx hb hts it_5 hown hK hP hL_h0 hF_87 rfl 0 (by decide) (hts _ kt_463) (fun _ h9 => h9) rfl dX5_read_94 ?_
            refine lv_iconst (v := 3) hx hb dX5_read_97 (by decide) ?_
            refine lv_aload_n hx hb dX5_read_98 rfl (lv_at hl 2 rfl) ?_
            refine pg_get (ci := 5) (v := .ref w1) (C := RX5) (T := TX5) (N := 7) hx hb hts it_5 hown hK hP hL_h0 hF_87 rfl 2 (by decide) (hts _ kt_458) (fun _ h9 => h9) rfl dX5_read_99 ?_
            have hFc := pg_free hD hS hA
            obtain ⟨z_88, hF_89, hq_90⟩ := hO.dir hi_24 ht_25
            refine va_calli (va_runV (As := [.int 3, .ref w1]) (rest := []) ⟨hx, hb, hml, hown, hts⟩ (s_X2_has l dC dI cs ty L H.size F_86 d δ ea w1 (ρ + 9) r_30 60 3 hW hi_24 ht_25 hi_29 ht_31) ⟨callB_of 2 hts (gi kt_373) rfl rfl rfl (hts _ kt_103) (hts _ kt_498) (by decide +kernel) ⟨Nat.le_of_ble_eq_true rfl, Nat.le_of_ble_eq_true rfl⟩, (hts _ kt_375), (hts _ kt_376)⟩ ⟨fun a U g mk q => ⟨q.1, PT.calling q.2⟩, pg_recv hK hP hi_24 hF_89 (q := (RX2, TX2, 2)) rfl, fun U hU hWm => ⟨rfl, PT.mk hU hWm hP hK hD hE hO⟩⟩ rfl rfl hl.1 rfl (lv_room (Nat.le_of_ble_eq_true rfl)) dX5_read_102 ⟨by show _ + 0 ≤ 0; omega, by show _ + 0 ≤ 0; omega⟩) hS (fun q _ h => hFc q h) hFc (fun r_91 u t H1 locs ht hvm hw hB hz1 hk1 hS => ?_)
            obtain ⟨F_92, hB1⟩ := hB
            obtain rfl : F_86 = F_92 := (funext (fun a => hB1.2.2.2 a List.not_mem_nil)).symm
            obtain ⟨hP, hD, hO, hR⟩ := QT.back hB1 ht hFc hR (fun q h => absurd h List.not_mem_nil)
            generalize H1 = H at hP hS ⊢
            have hw : (r_91 = 0 ∨ r_91 = 1) := hw
            have hw_93 := hw
            refine lv_if_eq (tgt := 110) hx hb dX5_read_105 (by decide) (fun c_94 => ?_) (fun c_94 => ?_)
            ·
              refine lv_aload_n hx hb dX5_read_110 rfl (lv_at hl 2 rfl) ?_
              refine pg_get (ci := 5) (v := .ref d) (C := RX5) (T := TX5) (N := 7) hx hb hts it_5 hown hK hP hL_h0 hF_87 rfl 0 (by decide) (hts _ kt_463) (fun _ h9 => h9) rfl dX5_read_111 ?_
              refine lv_aload_n hx hb dX5_read_114 rfl (lv_at hl 2 rfl) ?_
              refine pg_get (ci := 5) (v := .ref w1) (C := RX5) (T := TX5) (N := 7) hx hb hts it_5 hown hK hP hL_h0 hF_87 rfl 2 (by decide) (hts _ kt_458) (fun _ h9 => h9) rfl dX5_read_115 ?_
              refine va_ldcS hx hb hown hr_q_55 dX5_read_118 ?_
              refine lv_iconst (v := 0) hx hb dX5_read_120 (by decide) ?_
              have hFc := pg_free hD hS hA
              refine va_calli (va_runV (As := [.ref w1, .ref q_55, .int 0]) (rest := []) ⟨hx, hb, hml, hown, hts⟩ (s_X2_onlyText l dC dI cs ty L H.size F_86 d δ ea w1 (ρ + 9) r_30 60 q_55 v_56 8 0 hW hi_24 ht_25 hi_29 ht_31) ⟨callB_of 3 hts (gi kt_499) rfl rfl rfl (hts _ kt_103) (hts _ kt_500) (by decide +kernel) ⟨Nat.le_of_ble_eq_true rfl, Nat.le_of_ble_eq_true rfl⟩, (hts _ kt_501), (hts _ kt_502)⟩ ⟨fun a U g mk q => ⟨q.1, PTE.calling q.2⟩, pg_recv hK hP hi_24 hF_89 (q := (RX2, TX2, 2)) rfl, fun U hU hWm => ⟨rfl, PTE.mk hU hWm hP hK hD hE hO hG (fun x hx => by rw [List.mem_singleton] at hx; subst hx; exact hX_q_55) hS hFc⟩⟩ rfl rfl hl.1 rfl (lv_room (Nat.le_of_ble_eq_true rfl)) dX5_read_121 ⟨by show _ + 0 ≤ 0; omega, by show _ + 0 ≤ 0; omega⟩) hS (fun q _ h => hFc q h) hFc (fun r_95 u t H1 locs ht hvm hw hB hz1 hk1 hS => ?_)
              obtain ⟨F_96, hB1⟩ := hB
              obtain rfl : F_86 = F_96 := (funext (fun a => hB1.2.2.2 a List.not_mem_nil)).symm
              obtain ⟨hP, hD, hO, hR⟩ := QT.back hB1 ht hFc hR (fun q h => absurd h List.not_mem_nil)
              generalize H1 = H at hP hS ⊢
              have hw : True := hw
              have hw_97 := hw
              refine lv_istore_n (lv' := [(2, .int r_95), (3, .int 0), (0, .ref h0), (1, .ref mg)]) hx hb dX5_read_124 rfl hl (by decide) rfl (fun ls hl => ?_)
              refine W.widen (k := 0) (n := 0) (by omega) (by omega) ?_
              exact jn_62 r_95 F_86 (trivial) hO hR _ _ hP hD hS ls (lv_sub hl [1, 0, 2, 3] rfl)
            ·
              refine lv_iconst (v := 5) hx hb dX5_read_108 (by decide) ?_
              refine W.widen (k := 0) (n := 0) (by omega) (by omega) ?_
              exact W.iret (v := 5) hx hb hr (fun t ht hWm => ⟨⟨5, (), rfl, trivial, ⟨F_86, QT.mk ht hP hD hO hR⟩⟩, hS.F ht⟩) hS.2.2 dX5_read_109
        ·
          refine lv_iconst (v := 1) hx hb dX5_read_68 (by decide) ?_
          refine lv_goto (tgt := 73) hx hb dX5_read_69 (by decide) ?_
          refine lv_istore_n (lv' := [(3, .int 1), (2, .int r_57), (0, .ref h0), (1, .ref mg)]) hx hb dX5_read_73 rfl hl (by decide) rfl (fun ls hl => ?_)
          refine lv_iload_n hx hb dX5_read_74 rfl (lv_at hl 0 rfl) ?_
          refine lv_if_ne (tgt := 125) hx hb dX5_read_75 (by decide) (fun c_98 => ?_) (fun c_98 => absurd c_98 (by decide))
          refine lv_iload_n hx hb dX5_read_125 rfl (lv_at hl 1 rfl) ?_
          refine lv_if_ge (tgt := 133) hx hb dX5_read_126 (by decide) (fun c_99 => ?_) (fun c_99 => ?_)
          ·
            refine lv_aload_n hx hb dX5_read_133 rfl (lv_at hl 2 rfl) ?_
            refine lv_aload_n hx hb dX5_read_134 rfl (lv_at hl 2 rfl) ?_
            refine pg_get (ci := 5) (v := .ref d) (C := RX5) (T := TX5) (N := 7) hx hb hts it_5 hown hK hP hL_h0 hF_45 rfl 0 (by decide) (hts _ kt_463) (fun _ h9 => h9) rfl dX5_read_135 ?_
            refine lv_iload_n hx hb dX5_read_138 rfl (lv_at hl 1 rfl) ?_
            have hFc := pg_free hD hS hA
            refine va_callr (va_runV (As := [.int r_57]) (rest := [.ref h0]) ⟨hx, hb, hml, hown, hts⟩ (s_X2_valueAt l dC dI cs ty L H.size F_44 d δ ea r_57 hW hi_24 ht_25) ⟨callB_of 1 hts (gi kt_381) rfl rfl rfl (hts _ kt_103) (hts _ kt_503) (by decide +kernel) ⟨Nat.le_of_ble_eq_true rfl, Nat.le_of_ble_eq_true rfl⟩, (hts _ kt_383), (hts _ kt_384)⟩ ⟨fun a U g mk q => ⟨q.1, PT.calling q.2⟩, pg_recv hK hP hi_24 hF_49 (q := (RX2, TX2, 2)) rfl, fun U hU hWm => ⟨rfl, PT.mk hU hWm hP hK hD hE hO⟩⟩ rfl rfl hl.1 rfl (lv_room (Nat.le_of_ble_eq_true rfl)) dX5_read_139 ⟨by show _ + 0 ≤ 0; omega, by show _ + 0 ≤ 0; omega⟩) hS (fun q _ h => hFc q h) hFc (fun u r_100 t H1 locs ht hvm hw hB hz1 hk1 hS => ?_)
            obtain ⟨F_101, vr_102, μ_103, hB1, hq_104, hq_105⟩ := hB
            obtain rfl : F_44 = F_101 := (funext (fun a => hB1.2.2.2 a List.not_mem_nil)).symm
            obtain ⟨hP, hD, hO, hR⟩ := QT.back hB1 ht hFc hR (fun q h => absurd h List.not_mem_nil)
            generalize H1 = H at hP hS ⊢
            refine lv_iload_n hx hb dX5_read_142 rfl (lv_at hl 0 rfl) ?_
            have hFc := pg_free hD hS hA
            refine va_calli (va_runV (As := [.ref r_100, .int 1]) (rest := []) ⟨hx, hb, hml, hown, hts⟩ (s_X5_readRecord l dC dI cs ty L H.size F_44 h0 ρ d δ ea w0 w1 rc rx ry0 ry1 ry2 r_100 μ_103 vr_102 700 1 hW hL_h0 hT_h0 hq_104 hq_105) ⟨callB_of 2 hts (gi kt_504) rfl rfl rfl (hts _ kt_471) (hts _ kt_505) (by decide +kernel) ⟨Nat.le_of_ble_eq_true rfl, Nat.le_of_ble_eq_true rfl⟩, (hts _ kt_506), (hts _ kt_507)⟩ ⟨fun a U g mk q => ⟨q.1, PTE.calling q.2⟩, pg_recv hK hP hL_h0 hF_45 (q := (RX5, TX5, 7)) rfl, fun U hU hWm => ⟨rfl, PTE.mk hU hWm hP hK hD hE hO hG (fun x hx => absurd hx List.not_mem_nil) hS hFc⟩⟩ rfl rfl hl.1 rfl (lv_room (Nat.le_of_ble_eq_true rfl)) dX5_read_143 ⟨by show _ + 0 ≤ 0; omega, by show _ + 0 ≤ 0; omega⟩) hS (fun q _ h => hFc q h) hFc (fun r_106 u t H1 locs ht hvm hw hB hz1 hk1 hS => ?_)
            obtain ⟨F_107, hB1⟩ := hB
            obtain ⟨hP, hD, hO, hR⟩ := QT.back hB1 ht hFc hR (fun q h => by simp only [List.mem_cons, List.not_mem_nil, or_false] at h ⊢; omega)
            generalize H1 = H at hP hS ⊢
            have hw : True := hw
            have hw_108 := hw
            refine W.widen (k := 0) (n := 0) (by omega) (by omega) ?_
            exact W.iret (v := r_106) hx hb hr (fun t ht hWm => ⟨⟨r_106, (), rfl, trivial, ⟨F_107, QT.mk ht hP hD hO hR⟩⟩, hS.F ht⟩) hS.2.2 dX5_read_146
          ·
            refine lv_iconst (v := 0) hx hb dX5_read_129 (by decide) ?_
            refine lv_goto (tgt := 146) hx hb dX5_read_130 (by decide) ?_
            refine W.widen (k := 0) (n := 0) (by omega) (by omega) ?_
            exact W.iret (v := 0) hx hb hr (fun t ht hWm => ⟨⟨0, (), rfl, trivial, ⟨F_44, QT.mk ht hP hD hO hR⟩⟩, hS.F ht⟩) hS.2.2 dX5_read_146
      ·
        refine lv_iconst (v := 5) hx hb dX5_read_47 (by decide) ?_
        refine W.widen (k := 0) (n := 0) (by omega) (by omega) ?_
        exact W.iret (v := 5) hx hb hr (fun t ht hWm => ⟨⟨5, (), rfl, trivial, ⟨F_44, QT.mk ht hP hD hO hR⟩⟩, hS.F ht⟩) hS.2.2 dX5_read_48
    ·
      refine lv_iconst (v := 1) hx hb dX5_read_25 (by decide) ?_
      refine W.widen (k := 0) (n := 0) (by omega) (by omega) ?_
      exact W.iret (v := 1) hx hb hr (fun t ht hWm => ⟨⟨1, (), rfl, trivial, ⟨F_39, QT.mk ht hP hD hO hR⟩⟩, hS.F ht⟩) hS.2.2 dX5_read_26
