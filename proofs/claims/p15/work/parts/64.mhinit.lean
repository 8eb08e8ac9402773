theorem dJ9_multiplyHigh_f86c9_0 : decode cJ9_multiplyHigh_f86c9 0 = .ok (.lload_n 0, 1) := by decide +kernel
theorem dJ9_multiplyHigh_f86c9_1 : decode cJ9_multiplyHigh_f86c9 1 = .ok (.bipush 32, 2) := by decide +kernel
theorem dJ9_multiplyHigh_f86c9_3 : decode cJ9_multiplyHigh_f86c9 3 = .ok (.lshr, 1) := by decide +kernel
theorem dJ9_multiplyHigh_f86c9_4 : decode cJ9_multiplyHigh_f86c9 4 = .ok (.lstore 4, 2) := by decide +kernel
theorem dJ9_multiplyHigh_f86c9_6 : decode cJ9_multiplyHigh_f86c9 6 = .ok (.lload_n 0, 1) := by decide +kernel
theorem dJ9_multiplyHigh_f86c9_7 : decode cJ9_multiplyHigh_f86c9 7 = .ok (.ldc2_w 138, 3) := by decide +kernel
theorem dJ9_multiplyHigh_f86c9_10 : decode cJ9_multiplyHigh_f86c9 10 = .ok (.land, 1) := by decide +kernel
theorem dJ9_multiplyHigh_f86c9_11 : decode cJ9_multiplyHigh_f86c9 11 = .ok (.lstore 6, 2) := by decide +kernel
theorem dJ9_multiplyHigh_f86c9_13 : decode cJ9_multiplyHigh_f86c9 13 = .ok (.lload_n 2, 1) := by decide +kernel
theorem dJ9_multiplyHigh_f86c9_14 : decode cJ9_multiplyHigh_f86c9 14 = .ok (.bipush 32, 2) := by decide +kernel
theorem dJ9_multiplyHigh_f86c9_16 : decode cJ9_multiplyHigh_f86c9 16 = .ok (.lshr, 1) := by decide +kernel
theorem dJ9_multiplyHigh_f86c9_17 : decode cJ9_multiplyHigh_f86c9 17 = .ok (.lstore 8, 2) := by decide +kernel
theorem dJ9_multiplyHigh_f86c9_19 : decode cJ9_multiplyHigh_f86c9 19 = .ok (.lload_n 2, 1) := by decide +kernel
theorem dJ9_multiplyHigh_f86c9_20 : decode cJ9_multiplyHigh_f86c9 20 = .ok (.ldc2_w 138, 3) := by decide +kernel
theorem dJ9_multiplyHigh_f86c9_23 : decode cJ9_multiplyHigh_f86c9 23 = .ok (.land, 1) := by decide +kernel
theorem dJ9_multiplyHigh_f86c9_24 : decode cJ9_multiplyHigh_f86c9 24 = .ok (.lstore 10, 2) := by decide +kernel
theorem dJ9_multiplyHigh_f86c9_26 : decode cJ9_multiplyHigh_f86c9 26 = .ok (.lload 6, 2) := by decide +kernel
theorem dJ9_multiplyHigh_f86c9_28 : decode cJ9_multiplyHigh_f86c9 28 = .ok (.lload 10, 2) := by decide +kernel
theorem dJ9_multiplyHigh_f86c9_30 : decode cJ9_multiplyHigh_f86c9 30 = .ok (.lmul, 1) := by decide +kernel
theorem dJ9_multiplyHigh_f86c9_31 : decode cJ9_multiplyHigh_f86c9 31 = .ok (.lstore 12, 2) := by decide +kernel
theorem dJ9_multiplyHigh_f86c9_33 : decode cJ9_multiplyHigh_f86c9 33 = .ok (.lload 4, 2) := by decide +kernel
theorem dJ9_multiplyHigh_f86c9_35 : decode cJ9_multiplyHigh_f86c9 35 = .ok (.lload 10, 2) := by decide +kernel
theorem dJ9_multiplyHigh_f86c9_37 : decode cJ9_multiplyHigh_f86c9 37 = .ok (.lmul, 1) := by decide +kernel
theorem dJ9_multiplyHigh_f86c9_38 : decode cJ9_multiplyHigh_f86c9 38 = .ok (.lload 12, 2) := by decide +kernel
theorem dJ9_multiplyHigh_f86c9_40 : decode cJ9_multiplyHigh_f86c9 40 = .ok (.bipush 32, 2) := by decide +kernel
theorem dJ9_multiplyHigh_f86c9_42 : decode cJ9_multiplyHigh_f86c9 42 = .ok (.lushr, 1) := by decide +kernel
theorem dJ9_multiplyHigh_f86c9_43 : decode cJ9_multiplyHigh_f86c9 43 = .ok (.ladd, 1) := by decide +kernel
theorem dJ9_multiplyHigh_f86c9_44 : decode cJ9_multiplyHigh_f86c9 44 = .ok (.lstore 14, 2) := by decide +kernel
theorem dJ9_multiplyHigh_f86c9_46 : decode cJ9_multiplyHigh_f86c9 46 = .ok (.lload 14, 2) := by decide +kernel
theorem dJ9_multiplyHigh_f86c9_48 : decode cJ9_multiplyHigh_f86c9 48 = .ok (.ldc2_w 138, 3) := by decide +kernel
theorem dJ9_multiplyHigh_f86c9_51 : decode cJ9_multiplyHigh_f86c9 51 = .ok (.land, 1) := by decide +kernel
theorem dJ9_multiplyHigh_f86c9_52 : decode cJ9_multiplyHigh_f86c9 52 = .ok (.lstore 16, 2) := by decide +kernel
theorem dJ9_multiplyHigh_f86c9_54 : decode cJ9_multiplyHigh_f86c9 54 = .ok (.lload 14, 2) := by decide +kernel
theorem dJ9_multiplyHigh_f86c9_56 : decode cJ9_multiplyHigh_f86c9 56 = .ok (.bipush 32, 2) := by decide +kernel
theorem dJ9_multiplyHigh_f86c9_58 : decode cJ9_multiplyHigh_f86c9 58 = .ok (.lshr, 1) := by decide +kernel
theorem dJ9_multiplyHigh_f86c9_59 : decode cJ9_multiplyHigh_f86c9 59 = .ok (.lstore 18, 2) := by decide +kernel
theorem dJ9_multiplyHigh_f86c9_61 : decode cJ9_multiplyHigh_f86c9 61 = .ok (.lload 16, 2) := by decide +kernel
theorem dJ9_multiplyHigh_f86c9_63 : decode cJ9_multiplyHigh_f86c9 63 = .ok (.lload 6, 2) := by decide +kernel
theorem dJ9_multiplyHigh_f86c9_65 : decode cJ9_multiplyHigh_f86c9 65 = .ok (.lload 8, 2) := by decide +kernel
theorem dJ9_multiplyHigh_f86c9_67 : decode cJ9_multiplyHigh_f86c9 67 = .ok (.lmul, 1) := by decide +kernel
theorem dJ9_multiplyHigh_f86c9_68 : decode cJ9_multiplyHigh_f86c9 68 = .ok (.ladd, 1) := by decide +kernel
theorem dJ9_multiplyHigh_f86c9_69 : decode cJ9_multiplyHigh_f86c9 69 = .ok (.lstore 16, 2) := by decide +kernel
theorem dJ9_multiplyHigh_f86c9_71 : decode cJ9_multiplyHigh_f86c9 71 = .ok (.lload 4, 2) := by decide +kernel
theorem dJ9_multiplyHigh_f86c9_73 : decode cJ9_multiplyHigh_f86c9 73 = .ok (.lload 8, 2) := by decide +kernel
theorem dJ9_multiplyHigh_f86c9_75 : decode cJ9_multiplyHigh_f86c9 75 = .ok (.lmul, 1) := by decide +kernel
theorem dJ9_multiplyHigh_f86c9_76 : decode cJ9_multiplyHigh_f86c9 76 = .ok (.lload 18, 2) := by decide +kernel
theorem dJ9_multiplyHigh_f86c9_78 : decode cJ9_multiplyHigh_f86c9 78 = .ok (.ladd, 1) := by decide +kernel
theorem dJ9_multiplyHigh_f86c9_79 : decode cJ9_multiplyHigh_f86c9 79 = .ok (.lload 16, 2) := by decide +kernel
theorem dJ9_multiplyHigh_f86c9_81 : decode cJ9_multiplyHigh_f86c9 81 = .ok (.bipush 32, 2) := by decide +kernel
theorem dJ9_multiplyHigh_f86c9_83 : decode cJ9_multiplyHigh_f86c9 83 = .ok (.lshr, 1) := by decide +kernel
theorem dJ9_multiplyHigh_f86c9_84 : decode cJ9_multiplyHigh_f86c9 84 = .ok (.ladd, 1) := by decide +kernel
theorem dJ9_multiplyHigh_f86c9_85 : decode cJ9_multiplyHigh_f86c9 85 = .ok (.lreturn, 1) := by decide +kernel
theorem dX12_init_0 : decode cX12_init 0 = .ok (.aload_n 0, 1) := by decide +kernel
theorem dX12_init_1 : decode cX12_init 1 = .ok (.invokespecial 1, 3) := by decide +kernel
theorem dX12_init_4 : decode cX12_init 4 = .ok (.aload_n 0, 1) := by decide +kernel
theorem dX12_init_5 : decode cX12_init 5 = .ok (.bipush 8, 2) := by decide +kernel
theorem dX12_init_7 : decode cX12_init 7 = .ok (.newarray .int, 2) := by decide +kernel
theorem dX12_init_9 : decode cX12_init 9 = .ok (.putfield 9, 3) := by decide +kernel
theorem dX12_init_12 : decode cX12_init 12 = .ok (.aload_n 0, 1) := by decide +kernel
theorem dX12_init_13 : decode cX12_init 13 = .ok (.bipush 8, 2) := by decide +kernel
theorem dX12_init_15 : decode cX12_init 15 = .ok (.newarray .int, 2) := by decide +kernel
theorem dX12_init_17 : decode cX12_init 17 = .ok (.putfield 13, 3) := by decide +kernel
theorem dX12_init_20 : decode cX12_init 20 = .ok (.aload_n 0, 1) := by decide +kernel
theorem dX12_init_21 : decode cX12_init 21 = .ok (.bipush 64, 2) := by decide +kernel
theorem dX12_init_23 : decode cX12_init 23 = .ok (.newarray .int, 2) := by decide +kernel
theorem dX12_init_25 : decode cX12_init 25 = .ok (.putfield 16, 3) := by decide +kernel
theorem dX12_init_28 : decode cX12_init 28 = .ok (.aload_n 0, 1) := by decide +kernel
theorem dX12_init_29 : decode cX12_init 29 = .ok (.bipush 64, 2) := by decide +kernel
theorem dX12_init_31 : decode cX12_init 31 = .ok (.newarray .int, 2) := by decide +kernel
theorem dX12_init_33 : decode cX12_init 33 = .ok (.putfield 19, 3) := by decide +kernel
theorem dX12_init_36 : decode cX12_init 36 = .ok (.aload_n 0, 1) := by decide +kernel
theorem dX12_init_37 : decode cX12_init 37 = .ok (.bipush 64, 2) := by decide +kernel
theorem dX12_init_39 : decode cX12_init 39 = .ok (.newarray .byte, 2) := by decide +kernel
theorem dX12_init_41 : decode cX12_init 41 = .ok (.putfield 22, 3) := by decide +kernel
theorem dX12_init_44 : decode cX12_init 44 = .ok (.iconst 0, 1) := by decide +kernel
theorem dX12_init_45 : decode cX12_init 45 = .ok (.istore_n 1, 1) := by decide +kernel
theorem dX12_init_46 : decode cX12_init 46 = .ok (.iconst 2, 1) := by decide +kernel
theorem dX12_init_47 : decode cX12_init 47 = .ok (.istore_n 2, 1) := by decide +kernel
theorem dX12_init_48 : decode cX12_init 48 = .ok (.iload_n 1, 1) := by decide +kernel
theorem dX12_init_49 : decode cX12_init 49 = .ok (.bipush 64, 2) := by decide +kernel
theorem dX12_init_51 : decode cX12_init 51 = .ok (.if_icmp .ge 50, 3) := by decide +kernel
theorem dX12_init_54 : decode cX12_init 54 = .ok (.iload_n 2, 1) := by decide +kernel
theorem dX12_init_55 : decode cX12_init 55 = .ok (.invokestatic 26, 3) := by decide +kernel
theorem dX12_init_58 : decode cX12_init 58 = .ok (.ifCond .ne 6, 3) := by decide +kernel
theorem dX12_init_61 : decode cX12_init 61 = .ok (.goto 34, 3) := by decide +kernel
theorem dX12_init_64 : decode cX12_init 64 = .ok (.aload_n 0, 1) := by decide +kernel
theorem dX12_init_65 : decode cX12_init 65 = .ok (.getfield 19, 3) := by decide +kernel
theorem dX12_init_68 : decode cX12_init 68 = .ok (.iload_n 1, 1) := by decide +kernel
theorem dX12_init_69 : decode cX12_init 69 = .ok (.iload_n 2, 1) := by decide +kernel
theorem dX12_init_70 : decode cX12_init 70 = .ok (.iconst 3, 1) := by decide +kernel
theorem dX12_init_71 : decode cX12_init 71 = .ok (.invokestatic 30, 3) := by decide +kernel
theorem dX12_init_74 : decode cX12_init 74 = .ok (.iastore, 1) := by decide +kernel
theorem dX12_init_75 : decode cX12_init 75 = .ok (.iload_n 1, 1) := by decide +kernel
theorem dX12_init_76 : decode cX12_init 76 = .ok (.bipush 8, 2) := by decide +kernel
theorem dX12_init_78 : decode cX12_init 78 = .ok (.if_icmp .ge 14, 3) := by decide +kernel
theorem dX12_init_81 : decode cX12_init 81 = .ok (.aload_n 0, 1) := by decide +kernel
theorem dX12_init_82 : decode cX12_init 82 = .ok (.getfield 9, 3) := by decide +kernel
theorem dX12_init_85 : decode cX12_init 85 = .ok (.iload_n 1, 1) := by decide +kernel
theorem dX12_init_86 : decode cX12_init 86 = .ok (.iload_n 2, 1) := by decide +kernel
theorem dX12_init_87 : decode cX12_init 87 = .ok (.iconst 2, 1) := by decide +kernel
theorem dX12_init_88 : decode cX12_init 88 = .ok (.invokestatic 30, 3) := by decide +kernel
theorem dX12_init_91 : decode cX12_init 91 = .ok (.iastore, 1) := by decide +kernel
theorem dX12_init_92 : decode cX12_init 92 = .ok (.iinc 1 1, 3) := by decide +kernel
theorem dX12_init_95 : decode cX12_init 95 = .ok (.iinc 2 1, 3) := by decide +kernel
theorem dX12_init_98 : decode cX12_init 98 = .ok (.goto (-50), 3) := by decide +kernel
theorem dX12_init_101 : decode cX12_init 101 = .ok (.return_, 1) := by decide +kernel
theorem dX12_isAtMost_0 : decode cX12_isAtMost 0 = .ok (.lload_n 0, 1) := by decide +kernel
theorem dX12_isAtMost_1 : decode cX12_isAtMost 1 = .ok (.lload_n 0, 1) := by decide +kernel
theorem dX12_isAtMost_2 : decode cX12_isAtMost 2 = .ok (.invokestatic 40, 3) := by decide +kernel
theorem dX12_isAtMost_5 : decode cX12_isAtMost 5 = .ok (.lstore 4, 2) := by decide +kernel
theorem dX12_isAtMost_7 : decode cX12_isAtMost 7 = .ok (.lload_n 0, 1) := by decide +kernel
theorem dX12_isAtMost_8 : decode cX12_isAtMost 8 = .ok (.lload_n 0, 1) := by decide +kernel
theorem dX12_isAtMost_9 : decode cX12_isAtMost 9 = .ok (.lmul, 1) := by decide +kernel
theorem dX12_isAtMost_10 : decode cX12_isAtMost 10 = .ok (.lstore 6, 2) := by decide +kernel
theorem dX12_isAtMost_12 : decode cX12_isAtMost 12 = .ok (.iload_n 2, 1) := by decide +kernel
theorem dX12_isAtMost_13 : decode cX12_isAtMost 13 = .ok (.iconst 2, 1) := by decide +kernel
theorem dX12_isAtMost_14 : decode cX12_isAtMost 14 = .ok (.if_icmp .ne 32, 3) := by decide +kernel
theorem dX12_isAtMost_17 : decode cX12_isAtMost 17 = .ok (.lload 4, 2) := by decide +kernel
theorem dX12_isAtMost_19 : decode cX12_isAtMost 19 = .ok (.iload_n 3, 1) := by decide +kernel
theorem dX12_isAtMost_20 : decode cX12_isAtMost 20 = .ok (.i2l, 1) := by decide +kernel
theorem dX12_isAtMost_21 : decode cX12_isAtMost 21 = .ok (.lcmp, 1) := by decide +kernel
theorem dX12_isAtMost_22 : decode cX12_isAtMost 22 = .ok (.ifCond .lt 18, 3) := by decide +kernel
theorem dX12_isAtMost_25 : decode cX12_isAtMost 25 = .ok (.lload 4, 2) := by decide +kernel
theorem dX12_isAtMost_27 : decode cX12_isAtMost 27 = .ok (.iload_n 3, 1) := by decide +kernel
theorem dX12_isAtMost_28 : decode cX12_isAtMost 28 = .ok (.i2l, 1) := by decide +kernel
theorem dX12_isAtMost_29 : decode cX12_isAtMost 29 = .ok (.lcmp, 1) := by decide +kernel
theorem dX12_isAtMost_30 : decode cX12_isAtMost 30 = .ok (.ifCond .ne 14, 3) := by decide +kernel
theorem dX12_isAtMost_33 : decode cX12_isAtMost 33 = .ok (.lload 6, 2) := by decide +kernel
theorem dX12_isAtMost_35 : decode cX12_isAtMost 35 = .ok (.lconst 0, 1) := by decide +kernel
theorem dX12_isAtMost_36 : decode cX12_isAtMost 36 = .ok (.lcmp, 1) := by decide +kernel
theorem dX12_isAtMost_37 : decode cX12_isAtMost 37 = .ok (.ifCond .ne 7, 3) := by decide +kernel
theorem dX12_isAtMost_40 : decode cX12_isAtMost 40 = .ok (.iconst 1, 1) := by decide +kernel
theorem dX12_isAtMost_41 : decode cX12_isAtMost 41 = .ok (.goto 4, 3) := by decide +kernel
theorem dX12_isAtMost_44 : decode cX12_isAtMost 44 = .ok (.iconst 0, 1) := by decide +kernel
theorem dX12_isAtMost_45 : decode cX12_isAtMost 45 = .ok (.ireturn, 1) := by decide +kernel
theorem dX12_isAtMost_46 : decode cX12_isAtMost 46 = .ok (.lload 6, 2) := by decide +kernel
theorem dX12_isAtMost_48 : decode cX12_isAtMost 48 = .ok (.ldc2_w 46, 3) := by decide +kernel
theorem dX12_isAtMost_51 : decode cX12_isAtMost 51 = .ok (.land, 1) := by decide +kernel
theorem dX12_isAtMost_52 : decode cX12_isAtMost 52 = .ok (.lstore 8, 2) := by decide +kernel
theorem dX12_isAtMost_54 : decode cX12_isAtMost 54 = .ok (.lload 6, 2) := by decide +kernel
theorem dX12_isAtMost_56 : decode cX12_isAtMost 56 = .ok (.bipush 32, 2) := by decide +kernel
theorem dX12_isAtMost_58 : decode cX12_isAtMost 58 = .ok (.lushr, 1) := by decide +kernel
theorem dX12_isAtMost_59 : decode cX12_isAtMost 59 = .ok (.lstore 10, 2) := by decide +kernel
theorem dX12_isAtMost_61 : decode cX12_isAtMost 61 = .ok (.lload 4, 2) := by decide +kernel
theorem dX12_isAtMost_63 : decode cX12_isAtMost 63 = .ok (.lstore 12, 2) := by decide +kernel
theorem dX12_isAtMost_65 : decode cX12_isAtMost 65 = .ok (.lload 8, 2) := by decide +kernel
theorem dX12_isAtMost_67 : decode cX12_isAtMost 67 = .ok (.lload_n 0, 1) := by decide +kernel
theorem dX12_isAtMost_68 : decode cX12_isAtMost 68 = .ok (.ldc2_w 46, 3) := by decide +kernel
theorem dX12_isAtMost_71 : decode cX12_isAtMost 71 = .ok (.land, 1) := by decide +kernel
theorem dX12_isAtMost_72 : decode cX12_isAtMost 72 = .ok (.lmul, 1) := by decide +kernel
theorem dX12_isAtMost_73 : decode cX12_isAtMost 73 = .ok (.lstore 14, 2) := by decide +kernel
theorem dX12_isAtMost_75 : decode cX12_isAtMost 75 = .ok (.lload 14, 2) := by decide +kernel
theorem dX12_isAtMost_77 : decode cX12_isAtMost 77 = .ok (.bipush 32, 2) := by decide +kernel
theorem dX12_isAtMost_79 : decode cX12_isAtMost 79 = .ok (.lushr, 1) := by decide +kernel
theorem dX12_isAtMost_80 : decode cX12_isAtMost 80 = .ok (.lstore 16, 2) := by decide +kernel
theorem dX12_isAtMost_82 : decode cX12_isAtMost 82 = .ok (.lload 10, 2) := by decide +kernel
theorem dX12_isAtMost_84 : decode cX12_isAtMost 84 = .ok (.lload_n 0, 1) := by decide +kernel
theorem dX12_isAtMost_85 : decode cX12_isAtMost 85 = .ok (.ldc2_w 46, 3) := by decide +kernel
theorem dX12_isAtMost_88 : decode cX12_isAtMost 88 = .ok (.land, 1) := by decide +kernel
theorem dX12_isAtMost_89 : decode cX12_isAtMost 89 = .ok (.lmul, 1) := by decide +kernel
theorem dX12_isAtMost_90 : decode cX12_isAtMost 90 = .ok (.lload 16, 2) := by decide +kernel
theorem dX12_isAtMost_92 : decode cX12_isAtMost 92 = .ok (.ladd, 1) := by decide +kernel
theorem dX12_isAtMost_93 : decode cX12_isAtMost 93 = .ok (.lstore 18, 2) := by decide +kernel
theorem dX12_isAtMost_95 : decode cX12_isAtMost 95 = .ok (.lload 8, 2) := by decide +kernel
theorem dX12_isAtMost_97 : decode cX12_isAtMost 97 = .ok (.lload_n 0, 1) := by decide +kernel
theorem dX12_isAtMost_98 : decode cX12_isAtMost 98 = .ok (.bipush 32, 2) := by decide +kernel
theorem dX12_isAtMost_100 : decode cX12_isAtMost 100 = .ok (.lushr, 1) := by decide +kernel
theorem dX12_isAtMost_101 : decode cX12_isAtMost 101 = .ok (.lmul, 1) := by decide +kernel
theorem dX12_isAtMost_102 : decode cX12_isAtMost 102 = .ok (.lload 18, 2) := by decide +kernel
theorem dX12_isAtMost_104 : decode cX12_isAtMost 104 = .ok (.ldc2_w 46, 3) := by decide +kernel
theorem dX12_isAtMost_107 : decode cX12_isAtMost 107 = .ok (.land, 1) := by decide +kernel
theorem dX12_isAtMost_108 : decode cX12_isAtMost 108 = .ok (.ladd, 1) := by decide +kernel
theorem dX12_isAtMost_109 : decode cX12_isAtMost 109 = .ok (.lstore 20, 2) := by decide +kernel
theorem dX12_isAtMost_111 : decode cX12_isAtMost 111 = .ok (.lload 20, 2) := by decide +kernel
theorem dX12_isAtMost_113 : decode cX12_isAtMost 113 = .ok (.ldc2_w 46, 3) := by decide +kernel
theorem dX12_isAtMost_116 : decode cX12_isAtMost 116 = .ok (.land, 1) := by decide +kernel
theorem dX12_isAtMost_117 : decode cX12_isAtMost 117 = .ok (.lstore 22, 2) := by decide +kernel
theorem dX12_isAtMost_119 : decode cX12_isAtMost 119 = .ok (.lload 14, 2) := by decide +kernel
theorem dX12_isAtMost_121 : decode cX12_isAtMost 121 = .ok (.ldc2_w 46, 3) := by decide +kernel
theorem dX12_isAtMost_124 : decode cX12_isAtMost 124 = .ok (.land, 1) := by decide +kernel
theorem dX12_isAtMost_125 : decode cX12_isAtMost 125 = .ok (.lstore 24, 2) := by decide +kernel
theorem dX12_isAtMost_127 : decode cX12_isAtMost 127 = .ok (.lload 18, 2) := by decide +kernel
theorem dX12_isAtMost_129 : decode cX12_isAtMost 129 = .ok (.bipush 32, 2) := by decide +kernel
theorem dX12_isAtMost_131 : decode cX12_isAtMost 131 = .ok (.lushr, 1) := by decide +kernel
theorem dX12_isAtMost_132 : decode cX12_isAtMost 132 = .ok (.lload 20, 2) := by decide +kernel
theorem dX12_isAtMost_134 : decode cX12_isAtMost 134 = .ok (.bipush 32, 2) := by decide +kernel
theorem dX12_isAtMost_136 : decode cX12_isAtMost 136 = .ok (.lushr, 1) := by decide +kernel
theorem dX12_isAtMost_137 : decode cX12_isAtMost 137 = .ok (.ladd, 1) := by decide +kernel
theorem dX12_isAtMost_138 : decode cX12_isAtMost 138 = .ok (.lload 10, 2) := by decide +kernel
theorem dX12_isAtMost_140 : decode cX12_isAtMost 140 = .ok (.lload_n 0, 1) := by decide +kernel
theorem dX12_isAtMost_141 : decode cX12_isAtMost 141 = .ok (.bipush 32, 2) := by decide +kernel
theorem dX12_isAtMost_143 : decode cX12_isAtMost 143 = .ok (.lushr, 1) := by decide +kernel
theorem dX12_isAtMost_144 : decode cX12_isAtMost 144 = .ok (.lmul, 1) := by decide +kernel
theorem dX12_isAtMost_145 : decode cX12_isAtMost 145 = .ok (.ladd, 1) := by decide +kernel
theorem dX12_isAtMost_146 : decode cX12_isAtMost 146 = .ok (.lload 12, 2) := by decide +kernel
theorem dX12_isAtMost_148 : decode cX12_isAtMost 148 = .ok (.lload_n 0, 1) := by decide +kernel
theorem dX12_isAtMost_149 : decode cX12_isAtMost 149 = .ok (.ldc2_w 46, 3) := by decide +kernel
theorem dX12_isAtMost_152 : decode cX12_isAtMost 152 = .ok (.land, 1) := by decide +kernel
theorem dX12_isAtMost_153 : decode cX12_isAtMost 153 = .ok (.lmul, 1) := by decide +kernel
theorem dX12_isAtMost_154 : decode cX12_isAtMost 154 = .ok (.ladd, 1) := by decide +kernel
theorem dX12_isAtMost_155 : decode cX12_isAtMost 155 = .ok (.lload 12, 2) := by decide +kernel
theorem dX12_isAtMost_157 : decode cX12_isAtMost 157 = .ok (.lload_n 0, 1) := by decide +kernel
theorem dX12_isAtMost_158 : decode cX12_isAtMost 158 = .ok (.bipush 32, 2) := by decide +kernel
theorem dX12_isAtMost_160 : decode cX12_isAtMost 160 = .ok (.lushr, 1) := by decide +kernel
theorem dX12_isAtMost_161 : decode cX12_isAtMost 161 = .ok (.lmul, 1) := by decide +kernel
theorem dX12_isAtMost_162 : decode cX12_isAtMost 162 = .ok (.bipush 32, 2) := by decide +kernel
theorem dX12_isAtMost_164 : decode cX12_isAtMost 164 = .ok (.lshl, 1) := by decide +kernel
theorem dX12_isAtMost_165 : decode cX12_isAtMost 165 = .ok (.ladd, 1) := by decide +kernel
theorem dX12_isAtMost_166 : decode cX12_isAtMost 166 = .ok (.lstore 26, 2) := by decide +kernel
theorem dX12_isAtMost_168 : decode cX12_isAtMost 168 = .ok (.lload 26, 2) := by decide +kernel
theorem dX12_isAtMost_170 : decode cX12_isAtMost 170 = .ok (.iload_n 3, 1) := by decide +kernel
theorem dX12_isAtMost_171 : decode cX12_isAtMost 171 = .ok (.i2l, 1) := by decide +kernel
theorem dX12_isAtMost_172 : decode cX12_isAtMost 172 = .ok (.bipush 32, 2) := by decide +kernel
theorem dX12_isAtMost_174 : decode cX12_isAtMost 174 = .ok (.lshl, 1) := by decide +kernel
theorem dX12_isAtMost_175 : decode cX12_isAtMost 175 = .ok (.lcmp, 1) := by decide +kernel
theorem dX12_isAtMost_176 : decode cX12_isAtMost 176 = .ok (.ifCond .lt 28, 3) := by decide +kernel
theorem dX12_isAtMost_179 : decode cX12_isAtMost 179 = .ok (.lload 26, 2) := by decide +kernel
theorem dX12_isAtMost_181 : decode cX12_isAtMost 181 = .ok (.iload_n 3, 1) := by decide +kernel
theorem dX12_isAtMost_182 : decode cX12_isAtMost 182 = .ok (.i2l, 1) := by decide +kernel
theorem dX12_isAtMost_183 : decode cX12_isAtMost 183 = .ok (.bipush 32, 2) := by decide +kernel
theorem dX12_isAtMost_185 : decode cX12_isAtMost 185 = .ok (.lshl, 1) := by decide +kernel
theorem dX12_isAtMost_186 : decode cX12_isAtMost 186 = .ok (.lcmp, 1) := by decide +kernel
theorem dX12_isAtMost_187 : decode cX12_isAtMost 187 = .ok (.ifCond .ne 21, 3) := by decide +kernel
theorem dX12_isAtMost_190 : decode cX12_isAtMost 190 = .ok (.lload 22, 2) := by decide +kernel
theorem dX12_isAtMost_192 : decode cX12_isAtMost 192 = .ok (.lconst 0, 1) := by decide +kernel
theorem dX12_isAtMost_193 : decode cX12_isAtMost 193 = .ok (.lcmp, 1) := by decide +kernel
theorem dX12_isAtMost_194 : decode cX12_isAtMost 194 = .ok (.ifCond .ne 14, 3) := by decide +kernel
theorem dX12_isAtMost_197 : decode cX12_isAtMost 197 = .ok (.lload 24, 2) := by decide +kernel
theorem dX12_isAtMost_199 : decode cX12_isAtMost 199 = .ok (.lconst 0, 1) := by decide +kernel
theorem dX12_isAtMost_200 : decode cX12_isAtMost 200 = .ok (.lcmp, 1) := by decide +kernel
theorem dX12_isAtMost_201 : decode cX12_isAtMost 201 = .ok (.ifCond .ne 7, 3) := by decide +kernel
theorem dX12_isAtMost_204 : decode cX12_isAtMost 204 = .ok (.iconst 1, 1) := by decide +kernel
theorem dX12_isAtMost_205 : decode cX12_isAtMost 205 = .ok (.goto 4, 3) := by decide +kernel
theorem dX12_isAtMost_208 : decode cX12_isAtMost 208 = .ok (.iconst 0, 1) := by decide +kernel
theorem dX12_isAtMost_209 : decode cX12_isAtMost 209 = .ok (.ireturn, 1) := by decide +kernel
theorem dX12_isPrime_0 : decode cX12_isPrime 0 = .ok (.iconst 2, 1) := by decide +kernel
theorem dX12_isPrime_1 : decode cX12_isPrime 1 = .ok (.istore_n 1, 1) := by decide +kernel
theorem dX12_isPrime_2 : decode cX12_isPrime 2 = .ok (.iload_n 1, 1) := by decide +kernel
theorem dX12_isPrime_3 : decode cX12_isPrime 3 = .ok (.iload_n 1, 1) := by decide +kernel
theorem dX12_isPrime_4 : decode cX12_isPrime 4 = .ok (.imul, 1) := by decide +kernel
theorem dX12_isPrime_5 : decode cX12_isPrime 5 = .ok (.iload_n 0, 1) := by decide +kernel
theorem dX12_isPrime_6 : decode cX12_isPrime 6 = .ok (.if_icmp .gt 17, 3) := by decide +kernel
theorem dX12_isPrime_9 : decode cX12_isPrime 9 = .ok (.iload_n 0, 1) := by decide +kernel
theorem dX12_isPrime_10 : decode cX12_isPrime 10 = .ok (.iload_n 1, 1) := by decide +kernel
theorem dX12_isPrime_11 : decode cX12_isPrime 11 = .ok (.irem, 1) := by decide +kernel
theorem dX12_isPrime_12 : decode cX12_isPrime 12 = .ok (.ifCond .ne 5, 3) := by decide +kernel
theorem dX12_isPrime_15 : decode cX12_isPrime 15 = .ok (.iconst 0, 1) := by decide +kernel
theorem dX12_isPrime_16 : decode cX12_isPrime 16 = .ok (.ireturn, 1) := by decide +kernel
theorem dX12_isPrime_17 : decode cX12_isPrime 17 = .ok (.iinc 1 1, 3) := by decide +kernel
theorem dX12_isPrime_20 : decode cX12_isPrime 20 = .ok (.goto (-18), 3) := by decide +kernel
theorem dX12_isPrime_23 : decode cX12_isPrime 23 = .ok (.iconst 1, 1) := by decide +kernel
theorem dX12_isPrime_24 : decode cX12_isPrime 24 = .ok (.ireturn, 1) := by decide +kernel
theorem dX12_rootOf_0 : decode cX12_rootOf 0 = .ok (.lconst 0, 1) := by decide +kernel
theorem dX12_rootOf_1 : decode cX12_rootOf 1 = .ok (.lstore_n 2, 1) := by decide +kernel
theorem dX12_rootOf_2 : decode cX12_rootOf 2 = .ok (.ldc2_w 34, 3) := by decide +kernel
theorem dX12_rootOf_5 : decode cX12_rootOf 5 = .ok (.lstore 4, 2) := by decide +kernel
theorem dX12_rootOf_7 : decode cX12_rootOf 7 = .ok (.lload 4, 2) := by decide +kernel
theorem dX12_rootOf_9 : decode cX12_rootOf 9 = .ok (.lconst 0, 1) := by decide +kernel
theorem dX12_rootOf_10 : decode cX12_rootOf 10 = .ok (.lcmp, 1) := by decide +kernel
theorem dX12_rootOf_11 : decode cX12_rootOf 11 = .ok (.ifCond .le 29, 3) := by decide +kernel
theorem dX12_rootOf_14 : decode cX12_rootOf 14 = .ok (.lload_n 2, 1) := by decide +kernel
theorem dX12_rootOf_15 : decode cX12_rootOf 15 = .ok (.lload 4, 2) := by decide +kernel
theorem dX12_rootOf_17 : decode cX12_rootOf 17 = .ok (.ladd, 1) := by decide +kernel
theorem dX12_rootOf_18 : decode cX12_rootOf 18 = .ok (.iload_n 1, 1) := by decide +kernel
theorem dX12_rootOf_19 : decode cX12_rootOf 19 = .ok (.iload_n 0, 1) := by decide +kernel
theorem dX12_rootOf_20 : decode cX12_rootOf 20 = .ok (.invokestatic 36, 3) := by decide +kernel
theorem dX12_rootOf_23 : decode cX12_rootOf 23 = .ok (.ifCond .eq 8, 3) := by decide +kernel
theorem dX12_rootOf_26 : decode cX12_rootOf 26 = .ok (.lload_n 2, 1) := by decide +kernel
theorem dX12_rootOf_27 : decode cX12_rootOf 27 = .ok (.lload 4, 2) := by decide +kernel
theorem dX12_rootOf_29 : decode cX12_rootOf 29 = .ok (.ladd, 1) := by decide +kernel
theorem dX12_rootOf_30 : decode cX12_rootOf 30 = .ok (.lstore_n 2, 1) := by decide +kernel
theorem dX12_rootOf_31 : decode cX12_rootOf 31 = .ok (.lload 4, 2) := by decide +kernel
theorem dX12_rootOf_33 : decode cX12_rootOf 33 = .ok (.iconst 1, 1) := by decide +kernel
theorem dX12_rootOf_34 : decode cX12_rootOf 34 = .ok (.lshr, 1) := by decide +kernel
theorem dX12_rootOf_35 : decode cX12_rootOf 35 = .ok (.lstore 4, 2) := by decide +kernel
theorem dX12_rootOf_37 : decode cX12_rootOf 37 = .ok (.goto (-30), 3) := by decide +kernel
theorem dX12_rootOf_40 : decode cX12_rootOf 40 = .ok (.lload_n 2, 1) := by decide +kernel
theorem dX12_rootOf_41 : decode cX12_rootOf 41 = .ok (.l2i, 1) := by decide +kernel
theorem dX12_rootOf_42 : decode cX12_rootOf 42 = .ok (.ireturn, 1) := by decide +kernel
theorem kt_1102 : Cond.constantLong RJ9 138 4294967295 ∈ tb := tb_at (i := 1265) (by decide +kernel) (by decide +kernel)
theorem kt_1103 : Cond.code yJ9_multiplyHigh_f86c9 cJ9_multiplyHigh_f86c9 20 (some .long) ∈ tb := tb_at (i := 1264) (by decide +kernel) (by decide +kernel)
theorem kt_1104 : Cond.initialized RJ9 ∈ tb := tb_at (i := 97) (by decide +kernel) (by decide +kernel)
theorem kt_1105 : Cond.methodLink RX12 40 yJ9_multiplyHigh_f86c9 ∈ tb := tb_at (i := 1262) (by decide +kernel) (by decide +kernel)
theorem kt_1106 : Cond.static yJ9_multiplyHigh_f86c9 ∈ tb := tb_at (i := 1263) (by decide +kernel) (by decide +kernel)
theorem kt_1107 : Cond.constantLong RX12 46 4294967295 ∈ tb := tb_at (i := 1266) (by decide +kernel) (by decide +kernel)
theorem kt_1108 : Cond.constantLong RX12 34 68719476736 ∈ tb := tb_at (i := 1258) (by decide +kernel) (by decide +kernel)
theorem kt_1109 : Cond.code yX12_isAtMost cX12_isAtMost 28 (some .boolean) ∈ tb := tb_at (i := 1261) (by decide +kernel) (by decide +kernel)
theorem kt_1110 : Cond.methodLink RX12 36 yX12_isAtMost ∈ tb := tb_at (i := 1259) (by decide +kernel) (by decide +kernel)
theorem kt_1111 : Cond.static yX12_isAtMost ∈ tb := tb_at (i := 1260) (by decide +kernel) (by decide +kernel)
theorem kt_1112 : Cond.methodLink RX12 1 objectInit ∈ tb := tb_at (i := 1251) (by decide +kernel) (by decide +kernel)
theorem kt_1113 : Cond.code yX12_isPrime cX12_isPrime 2 (some .boolean) ∈ tb := tb_at (i := 1254) (by decide +kernel) (by decide +kernel)
theorem kt_1114 : Cond.methodLink RX12 26 yX12_isPrime ∈ tb := tb_at (i := 1252) (by decide +kernel) (by decide +kernel)
theorem kt_1115 : Cond.static yX12_isPrime ∈ tb := tb_at (i := 1253) (by decide +kernel) (by decide +kernel)
theorem kt_1116 : Cond.code yX12_rootOf cX12_rootOf 6 (some .int) ∈ tb := tb_at (i := 1257) (by decide +kernel) (by decide +kernel)
theorem kt_1117 : Cond.methodLink RX12 30 yX12_rootOf ∈ tb := tb_at (i := 1255) (by decide +kernel) (by decide +kernel)
theorem kt_1118 : Cond.static yX12_rootOf ∈ tb := tb_at (i := 1256) (by decide +kernel) (by decide +kernel)
/-- the entry of a method of a class of which some methods are run by the machine itself, but not this one -/
theorem mt_ofWF {l : Launch} {y : MethodName} {ws ws' : List Cond} {rm : Room} {Pc : Array Value → State → Prop} {Qc : Array Value → State → Outcome → State → Prop} {mc ms : Nat} {free : Addr → Prop} {cc : ByteArray} {maxL : Nat} {ret : Option FieldType}
    (hy : plainFor y = true) (hw : ws = Cond.code y cc maxL ret :: ws')
    (body : ∀ p e s m args below meth c s₁, BodyLoose p l y (headSpec ws rm) cc maxL ret e s m args below meth c s₁ → c.maxLocals = maxL → Pc args s →
      W p l e (headSpec ws rm).room s m args below meth c s.heap [] 0 0 (MQ below Qc args s mc ms free) (entryFrame m args maxL)) : Met l y ws rm Pc Qc mc ms free := by
  refine MetFree.of_bodySF (code := cc) (maxLocals := maxL) (ret := ret) hy ?_ ?_
  · intro args s m h hn
    obtain ⟨meth, c, h1, h2, h3, h4, h5, h6, -, -⟩ := Cond.code_spec hn (atoms_spec (ws := ws) h _ (by rw [hw]; exact List.mem_cons_self))
    exact ⟨meth, c, h1, h2, h3, h4, h5, h6⟩
  · intro p e s m args below meth c s₁ B hml hP _
    have hh0 : s₁.heap = s.heap := by rw [B.state]; rfl
    obtain ⟨t, a1, o, b1, b2, b3⟩ := body p e s m args below meth c s₁ B hml hP s₁ hh0 (Stand.of_body B)
    exact ⟨t, o, a1, b1, b2, ⟨b3.1, b3.2⟩⟩
def mh1 (x y : Int64) : Int64 := lsr x 32 * (y &&& 4294967295) + lus ((x &&& 4294967295) * (y &&& 4294967295)) 32
def mhi (x y : Int64) : Int64 := lsr x 32 * lsr y 32 + lsr (mh1 x y) 32 + lsr ((mh1 x y &&& 4294967295) + (x &&& 4294967295) * lsr y 32) 32
def lw9 (r : Int64) : Int64 := (r * r) &&& 4294967295
def hw9 (r : Int64) : Int64 := lus (r * r) 32
def xw9 (r : Int64) : Int64 := lw9 r * (r &&& 4294967295)
def yw9 (r : Int64) : Int64 := hw9 r * (r &&& 4294967295) + lus (xw9 r) 32
def zw9 (r : Int64) : Int64 := lw9 r * lus r 32 + (yw9 r &&& 4294967295)
def rs9 (r : Int64) : Int64 := lus (yw9 r) 32 + lus (zw9 r) 32 + hw9 r * lus r 32 + mhi r r * (r &&& 4294967295) + lsl (mhi r r * lus r 32) 32
def iam (r : Int64) (pw p : Int32) : Int32 := if pw = 2 then (if lg_cmp (mhi r r) p.toInt64 < 0 then 1 else if lg_cmp (mhi r r) p.toInt64 = 0 then (if lg_cmp (r * r) 0 = 0 then 1 else 0) else 0) else (if lg_cmp (rs9 r) (lsl p.toInt64 32) < 0 then 1 else if lg_cmp (rs9 r) (lsl p.toInt64 32) = 0 then (if lg_cmp (zw9 r &&& 4294967295) 0 = 0 then (if lg_cmp (xw9 r &&& 4294967295) 0 = 0 then 1 else 0) else 0) else 0)
set_option maxHeartbeats 4000000 in
set_option maxRecDepth 100000 in
theorem m_J9_multiplyHigh_f86c9 (l : Launch) (dC : Nat → ClassId) (dI : Nat → Nat → Nat) (cs : Nat → ClassId) (ty : TyM) (gm : Nat → Nat → Nat) (L : List Nat) (sz : Nat) (F : Nat → va_E) (x1 : Int64) (x2 : Int64) (hW : WTm ty gm L) : Met l yJ9_multiplyHigh_f86c9 (.code yJ9_multiplyHigh_f86c9 cJ9_multiplyHigh_f86c9 20 (some .long) :: tb) ({ frames := 0, cells := 0, slots := 0, locals := 0 }) (va_Pc [.long x1, .long x2] (PTm (dC, dI) cs ty gm L F sz)) (va_Ql (fun (r : Int64) (_ : Unit) => r = mhi x1 x2) (fun _ T9 => ∃ F2 : Nat → va_E, QTm (dC, dI) cs ty gm L [] F F2 (va_A (va_pl L F) sz) T9) (va_A (va_pl L F) sz)) 0 0 (va_A (va_pl L F) sz) := by
  refine mt_ofWF (cc := cJ9_multiplyHigh_f86c9) (maxL := 20) (ret := (some .long)) (by decide +kernel) rfl ?_
  intro p e s m args below meth c s₁ B hml hv
  obtain ⟨rfl, hsz, hP, hK, hD0, hE, hO⟩ := hv
  have hx := B.exec
  have hb := B.bytes
  have hr := B.returns
  have hts : ∀ w ∈ tb, w.before _ s = true := fun w h => atoms_spec (ws := .code yJ9_multiplyHigh_f86c9 cJ9_multiplyHigh_f86c9 20 (some .long) :: tb) B.pre w (List.mem_cons_of_mem _ h)
  have hown : s.vm.findClass RJ9 = some m.cls := findClass_of_methodNamed B.named
  have hlocks := B.notSynchronized
  subst hsz
  have hD := hD0.self (sz := s.heap.size)
  generalize hAe : va_A (va_pl L F) s.heap.size = A at hD ⊢
  have hA : ∀ q : Nat, s.heap.size ≤ q → A q := fun q h => by rw [← hAe]; exact Or.inr h
  have hS : va_S A s.heap s.heap [] := va_S.rf
  have hR : FR ty [] F F := FR.refl
  have hl := lv_entry ([.long x1, .long x2]) (n := 20) (Nat.le_of_ble_eq_true rfl)
  rw [lg_entry_eq]
  generalize (lg_sl ([.long x1, .long x2]) ++ List.replicate (20 - (lg_sl ([.long x1, .long x2])).length) Slot.unset).toArray = ls at hl ⊢
  have hl : lv_has ls 20 [(0, .long x1), (2, .long x2)] := hl
  refine lv_lload_n hx hb dJ9_multiplyHigh_f86c9_0 rfl (lv_at hl 0 rfl) ?_
  refine lv_bipush (v := 32) hx hb dJ9_multiplyHigh_f86c9_1 (by decide) ?_
  refine lv_lshr hx hb dJ9_multiplyHigh_f86c9_3 rfl ?_
  refine lv_topl (fun x_2 ex_2 => ?_)
  obtain rfl : x_2 = (lsr x1 32) := ex_2.trans (rfl)
  refine lv_lstore (lv' := [(4, .long (lsr x1 32)), (0, .long x1), (2, .long x2)]) hx hb dJ9_multiplyHigh_f86c9_4 hl (by decide) rfl (fun ls hl => ?_)
  refine lv_lload_n hx hb dJ9_multiplyHigh_f86c9_6 rfl (lv_at hl 1 rfl) ?_
  refine lv_ldc2 (v := 4294967295) hx hb hown (hts _ kt_1102) dJ9_multiplyHigh_f86c9_7 ?_
  refine lv_land hx hb dJ9_multiplyHigh_f86c9_10 ?_
  refine lv_topl (fun x_3 ex_3 => ?_)
  obtain rfl : x_3 = (x1 &&& 4294967295) := ex_3.trans (rfl)
  refine lv_lstore (lv' := [(6, .long (x1 &&& 4294967295)), (4, .long (lsr x1 32)), (0, .long x1), (2, .long x2)]) hx hb dJ9_multiplyHigh_f86c9_11 hl (by decide) rfl (fun ls hl => ?_)
  refine lv_lload_n hx hb dJ9_multiplyHigh_f86c9_13 rfl (lv_at hl 3 rfl) ?_
  refine lv_bipush (v := 32) hx hb dJ9_multiplyHigh_f86c9_14 (by decide) ?_
  refine lv_lshr hx hb dJ9_multiplyHigh_f86c9_16 rfl ?_
  refine lv_topl (fun x_5 ex_5 => ?_)
  obtain rfl : x_5 = (lsr x2 32) := ex_5.trans (rfl)
  refine lv_lstore (lv' := [(8, .long (lsr x2 32)), (6, .long (x1 &&& 4294967295)), (4, .long (lsr x1 32)), (0, .long x1), (2, .long x2)]) hx hb dJ9_multiplyHigh_f86c9_17 hl (by decide) rfl (fun ls hl => ?_)
  refine lv_lload_n hx hb dJ9_multiplyHigh_f86c9_19 rfl (lv_at hl 4 rfl) ?_
  refine lv_ldc2 (v := 4294967295) hx hb hown (hts _ kt_1102) dJ9_multiplyHigh_f86c9_20 ?_
  refine lv_land hx hb dJ9_multiplyHigh_f86c9_23 ?_
  refine lv_topl (fun x_6 ex_6 => ?_)
  obtain rfl : x_6 = (x2 &&& 4294967295) := ex_6.trans (rfl)
  refine lv_lstore (lv' := [(10, .long (x2 &&& 4294967295)), (8, .long (lsr x2 32)), (6, .long (x1 &&& 4294967295)), (4, .long (lsr x1 32)), (0, .long x1), (2, .long x2)]) hx hb dJ9_multiplyHigh_f86c9_24 hl (by decide) rfl (fun ls hl => ?_)
  refine lv_lload hx hb dJ9_multiplyHigh_f86c9_26 (lv_at hl 2 rfl) ?_
  refine lv_lload hx hb dJ9_multiplyHigh_f86c9_28 (lv_at hl 0 rfl) ?_
  refine lv_lmul hx hb dJ9_multiplyHigh_f86c9_30 ?_
  refine lv_topl (fun x_7 ex_7 => ?_)
  obtain rfl : x_7 = ((x1 &&& 4294967295) * (x2 &&& 4294967295)) := ex_7.trans (rfl)
  refine lv_lstore (lv' := [(12, .long ((x1 &&& 4294967295) * (x2 &&& 4294967295))), (10, .long (x2 &&& 4294967295)), (8, .long (lsr x2 32)), (6, .long (x1 &&& 4294967295)), (4, .long (lsr x1 32)), (0, .long x1), (2, .long x2)]) hx hb dJ9_multiplyHigh_f86c9_31 hl (by decide) rfl (fun ls hl => ?_)
  refine lv_lload hx hb dJ9_multiplyHigh_f86c9_33 (lv_at hl 4 rfl) ?_
  refine lv_lload hx hb dJ9_multiplyHigh_f86c9_35 (lv_at hl 1 rfl) ?_
  refine lv_lmul hx hb dJ9_multiplyHigh_f86c9_37 ?_
  refine lv_topl (fun x_8 ex_8 => ?_)
  obtain rfl : x_8 = ((lsr x1 32) * (x2 &&& 4294967295)) := ex_8.trans (rfl)
  refine lv_lload hx hb dJ9_multiplyHigh_f86c9_38 (lv_at hl 0 rfl) ?_
  refine lv_bipush (v := 32) hx hb dJ9_multiplyHigh_f86c9_40 (by decide) ?_
  refine lv_lushr hx hb dJ9_multiplyHigh_f86c9_42 rfl ?_
  refine lv_topl (fun x_10 ex_10 => ?_)
  obtain rfl : x_10 = (lus ((x1 &&& 4294967295) * (x2 &&& 4294967295)) 32) := ex_10.trans (rfl)
  refine lv_ladd hx hb dJ9_multiplyHigh_f86c9_43 ?_
  refine lv_topl (fun x_11 ex_11 => ?_)
  obtain rfl : x_11 = (mh1 x1 x2) := ex_11.trans (rfl)
  refine lv_lstore (lv' := [(14, .long (mh1 x1 x2)), (12, .long ((x1 &&& 4294967295) * (x2 &&& 4294967295))), (10, .long (x2 &&& 4294967295)), (8, .long (lsr x2 32)), (6, .long (x1 &&& 4294967295)), (4, .long (lsr x1 32)), (0, .long x1), (2, .long x2)]) hx hb dJ9_multiplyHigh_f86c9_44 hl (by decide) rfl (fun ls hl => ?_)
  refine lv_lload hx hb dJ9_multiplyHigh_f86c9_46 (lv_at hl 0 rfl) ?_
  refine lv_ldc2 (v := 4294967295) hx hb hown (hts _ kt_1102) dJ9_multiplyHigh_f86c9_48 ?_
  refine lv_land hx hb dJ9_multiplyHigh_f86c9_51 ?_
  refine lv_topl (fun x_12 ex_12 => ?_)
  obtain rfl : x_12 = ((mh1 x1 x2) &&& 4294967295) := ex_12.trans (rfl)
  refine lv_lstore (lv' := [(16, .long ((mh1 x1 x2) &&& 4294967295)), (14, .long (mh1 x1 x2)), (12, .long ((x1 &&& 4294967295) * (x2 &&& 4294967295))), (10, .long (x2 &&& 4294967295)), (8, .long (lsr x2 32)), (6, .long (x1 &&& 4294967295)), (4, .long (lsr x1 32)), (0, .long x1), (2, .long x2)]) hx hb dJ9_multiplyHigh_f86c9_52 hl (by decide) rfl (fun ls hl => ?_)
  refine lv_lload hx hb dJ9_multiplyHigh_f86c9_54 (lv_at hl 1 rfl) ?_
  refine lv_bipush (v := 32) hx hb dJ9_multiplyHigh_f86c9_56 (by decide) ?_
  refine lv_lshr hx hb dJ9_multiplyHigh_f86c9_58 rfl ?_
  refine lv_topl (fun x_14 ex_14 => ?_)
  obtain rfl : x_14 = (lsr (mh1 x1 x2) 32) := ex_14.trans (rfl)
  refine lv_lstore (lv' := [(18, .long (lsr (mh1 x1 x2) 32)), (16, .long ((mh1 x1 x2) &&& 4294967295)), (14, .long (mh1 x1 x2)), (12, .long ((x1 &&& 4294967295) * (x2 &&& 4294967295))), (10, .long (x2 &&& 4294967295)), (8, .long (lsr x2 32)), (6, .long (x1 &&& 4294967295)), (4, .long (lsr x1 32)), (0, .long x1), (2, .long x2)]) hx hb dJ9_multiplyHigh_f86c9_59 hl (by decide) rfl (fun ls hl => ?_)
  refine lv_lload hx hb dJ9_multiplyHigh_f86c9_61 (lv_at hl 1 rfl) ?_
  refine lv_lload hx hb dJ9_multiplyHigh_f86c9_63 (lv_at hl 6 rfl) ?_
  refine lv_lload hx hb dJ9_multiplyHigh_f86c9_65 (lv_at hl 5 rfl) ?_
  refine lv_lmul hx hb dJ9_multiplyHigh_f86c9_67 ?_
  refine lv_topl (fun x_15 ex_15 => ?_)
  obtain rfl : x_15 = ((x1 &&& 4294967295) * (lsr x2 32)) := ex_15.trans (rfl)
  refine lv_ladd hx hb dJ9_multiplyHigh_f86c9_68 ?_
  refine lv_topl (fun x_16 ex_16 => ?_)
  obtain rfl : x_16 = (((mh1 x1 x2) &&& 4294967295) + ((x1 &&& 4294967295) * (lsr x2 32))) := ex_16.trans (rfl)
  refine lv_lstore (lv' := [(16, .long (((mh1 x1 x2) &&& 4294967295) + ((x1 &&& 4294967295) * (lsr x2 32)))), (18, .long (lsr (mh1 x1 x2) 32)), (14, .long (mh1 x1 x2)), (12, .long ((x1 &&& 4294967295) * (x2 &&& 4294967295))), (10, .long (x2 &&& 4294967295)), (8, .long (lsr x2 32)), (6, .long (x1 &&& 4294967295)), (4, .long (lsr x1 32)), (0, .long x1), (2, .long x2)]) hx hb dJ9_multiplyHigh_f86c9_69 hl (by decide) rfl (fun ls hl => ?_)
  refine lv_lload hx hb dJ9_multiplyHigh_f86c9_71 (lv_at hl 7 rfl) ?_
  refine lv_lload hx hb dJ9_multiplyHigh_f86c9_73 (lv_at hl 5 rfl) ?_
  refine lv_lmul hx hb dJ9_multiplyHigh_f86c9_75 ?_
  refine lv_topl (fun x_17 ex_17 => ?_)
  obtain rfl : x_17 = ((lsr x1 32) * (lsr x2 32)) := ex_17.trans (rfl)
  refine lv_lload hx hb dJ9_multiplyHigh_f86c9_76 (lv_at hl 1 rfl) ?_
  refine lv_ladd hx hb dJ9_multiplyHigh_f86c9_78 ?_
  refine lv_topl (fun x_18 ex_18 => ?_)
  obtain rfl : x_18 = (((lsr x1 32) * (lsr x2 32)) + (lsr (mh1 x1 x2) 32)) := ex_18.trans (rfl)
  refine lv_lload hx hb dJ9_multiplyHigh_f86c9_79 (lv_at hl 0 rfl) ?_
  refine lv_bipush (v := 32) hx hb dJ9_multiplyHigh_f86c9_81 (by decide) ?_
  refine lv_lshr hx hb dJ9_multiplyHigh_f86c9_83 rfl ?_
  refine lv_topl (fun x_20 ex_20 => ?_)
  obtain rfl : x_20 = (lsr (((mh1 x1 x2) &&& 4294967295) + ((x1 &&& 4294967295) * (lsr x2 32))) 32) := ex_20.trans (rfl)
  refine lv_ladd hx hb dJ9_multiplyHigh_f86c9_84 ?_
  refine lv_topl (fun x_21 ex_21 => ?_)
  obtain rfl : x_21 = ((((lsr x1 32) * (lsr x2 32)) + (lsr (mh1 x1 x2) 32)) + (lsr (((mh1 x1 x2) &&& 4294967295) + ((x1 &&& 4294967295) * (lsr x2 32))) 32)) := ex_21.trans (rfl)
  refine W.widen (k := 0) (n := 0) (by omega) (by omega) ?_
  exact W.lret (v := ((((lsr x1 32) * (lsr x2 32)) + (lsr (mh1 x1 x2) 32)) + (lsr (((mh1 x1 x2) &&& 4294967295) + ((x1 &&& 4294967295) * (lsr x2 32))) 32))) hx hb hr (fun t ht hWm => ⟨⟨((((lsr x1 32) * (lsr x2 32)) + (lsr (mh1 x1 x2) 32)) + (lsr (((mh1 x1 x2) &&& 4294967295) + ((x1 &&& 4294967295) * (lsr x2 32))) 32)), (), rfl, rfl, ⟨F, QTm.mk ht hP hD hO hR⟩⟩, hS.F ht⟩) hS.2.2 dJ9_multiplyHigh_f86c9_85
set_option maxHeartbeats 4000000 in
set_option maxRecDepth 100000 in
theorem s_X12_isAtMost (l : Launch) (dC : Nat → ClassId) (dI : Nat → Nat → Nat) (cs : Nat → ClassId) (ty : TyM) (gm : Nat → Nat → Nat) (L : List Nat) (sz : Nat) (F : Nat → va_E) (x1 : Int64) (x2 : Int32) (x3 : Int32) (hW : WTm ty gm L) : Met l yX12_isAtMost (.code yX12_isAtMost cX12_isAtMost 28 (some .boolean) :: tb) ({ frames := 1, cells := 0, slots := 0, locals := 39 }) (va_Pc [.long x1, .int x2, .int x3] (PTm (dC, dI) cs ty gm L F sz)) (va_Qi (fun (r : Int32) (_ : Unit) => r = iam x1 x2 x3) (fun _ T9 => ∃ F2 : Nat → va_E, QTm (dC, dI) cs ty gm L [] F F2 (va_A (va_pl L F) sz) T9) (va_A (va_pl L F) sz)) 0 0 (va_A (va_pl L F) sz) := by
  refine Met.ofW (cc := cX12_isAtMost) (maxL := 28) (ret := (some .boolean)) (by decide) rfl ?_
  intro p e s m args below meth c s₁ B hml hv
  obtain ⟨rfl, hsz, hP, hK, hD0, hE, hO⟩ := hv
  have hx := B.exec
  have hb := B.bytes
  have hr := B.returns
  have hts : ∀ w ∈ tb, w.before _ s = true := fun w h => atoms_spec (ws := .code yX12_isAtMost cX12_isAtMost 28 (some .boolean) :: tb) B.pre w (List.mem_cons_of_mem _ h)
  have hown : s.vm.findClass RX12 = some m.cls := findClass_of_methodNamed B.named
  have hlocks := B.notSynchronized
  subst hsz
  have hD := hD0.self (sz := s.heap.size)
  generalize hAe : va_A (va_pl L F) s.heap.size = A at hD ⊢
  have hA : ∀ q : Nat, s.heap.size ≤ q → A q := fun q h => by rw [← hAe]; exact Or.inr h
  have hS : va_S A s.heap s.heap [] := va_S.rf
  have hR : FR ty [] F F := FR.refl
  have hl := lv_entry ([.long x1, .int x2, .int x3]) (n := 28) (Nat.le_of_ble_eq_true rfl)
  rw [lg_entry_eq]
  generalize (lg_sl ([.long x1, .int x2, .int x3]) ++ List.replicate (28 - (lg_sl ([.long x1, .int x2, .int x3])).length) Slot.unset).toArray = ls at hl ⊢
  have hl : lv_has ls 28 [(0, .long x1), (2, .int x2), (3, .int x3)] := hl
  refine lv_lload_n hx hb dX12_isAtMost_0 rfl (lv_at hl 0 rfl) ?_
  refine lv_lload_n hx hb dX12_isAtMost_1 rfl (lv_at hl 0 rfl) ?_
  have hFc := pg_free hD hS hA
  refine va_calll (va_runS (As := [.long x1, .long x1]) (rest := []) ⟨hx, hb, hml, hown, hts⟩ (m_J9_multiplyHigh_f86c9 l dC dI cs ty gm L s.heap.size F x1 x1 hW ) ⟨callB_of 2 hts (gi kt_1103) rfl rfl rfl (hts _ kt_1104) (hts _ kt_1105) (by decide +kernel) ⟨Nat.le_of_ble_eq_true rfl, Nat.le_of_ble_eq_true rfl⟩, (hts _ kt_1106)⟩ ⟨fun a U g mk q => ⟨q.1, PTm.calling q.2⟩, fun U hU hWm => ⟨rfl, PTm.mk hU hWm hP hK hD hE hO⟩⟩ rfl rfl hl.1 rfl (lv_room (Nat.le_of_ble_eq_true rfl)) dX12_isAtMost_2 ⟨by show _ + 0 ≤ 0; omega, by show _ + 0 ≤ 0; omega⟩) hS (fun q _ h => hFc q h) hFc (fun r_1 u t H1 locs ht hvm hw hB hz1 hk1 hS => ?_)
  obtain ⟨F_2, hB1⟩ := hB
  obtain rfl : F = F_2 := (funext (fun a => hB1.2.2.2 a List.not_mem_nil)).symm
  obtain ⟨hP, hD, hO, hR⟩ := QTm.back hB1 ht hFc hR (fun q h => absurd h List.not_mem_nil)
  generalize H1 = H at hP hS ⊢
  have hw : r_1 = mhi x1 x1 := hw
  subst hw
  refine lv_lstore (lv' := [(4, .long (mhi x1 x1)), (0, .long x1), (2, .int x2), (3, .int x3)]) hx hb dX12_isAtMost_5 hl (by decide) rfl (fun ls hl => ?_)
  refine lv_lload_n hx hb dX12_isAtMost_7 rfl (lv_at hl 1 rfl) ?_
  refine lv_lload_n hx hb dX12_isAtMost_8 rfl (lv_at hl 1 rfl) ?_
  refine lv_lmul hx hb dX12_isAtMost_9 ?_
  refine lv_topl (fun x_3 ex_3 => ?_)
  obtain rfl : x_3 = (x1 * x1) := ex_3.trans (rfl)
  refine lv_lstore (lv' := [(6, .long (x1 * x1)), (4, .long (mhi x1 x1)), (0, .long x1), (2, .int x2), (3, .int x3)]) hx hb dX12_isAtMost_10 hl (by decide) rfl (fun ls hl => ?_)
  refine lv_iload_n hx hb dX12_isAtMost_12 rfl (lv_at hl 3 rfl) ?_
  refine lv_iconst (v := 2) hx hb dX12_isAtMost_13 (by decide) ?_
  refine lv_icmp_ne (tgt := 46) hx hb dX12_isAtMost_14 (by decide) (fun c_4 => ?_) (fun c_4 => ?_)
  ·
    refine lv_lload hx hb dX12_isAtMost_46 (lv_at hl 0 rfl) ?_
    refine lv_ldc2 (v := 4294967295) hx hb hown (hts _ kt_1107) dX12_isAtMost_48 ?_
    refine lv_land hx hb dX12_isAtMost_51 ?_
    refine lv_topl (fun x_5 ex_5 => ?_)
    have hlw9 : x_5 = lw9 x1 := by rw [ex_5]; rfl
    clear ex_5
    refine lv_lstore (lv' := [(8, .long x_5), (6, .long (x1 * x1)), (4, .long (mhi x1 x1)), (0, .long x1), (2, .int x2), (3, .int x3)]) hx hb dX12_isAtMost_52 hl (by decide) rfl (fun ls hl => ?_)
    refine lv_lload hx hb dX12_isAtMost_54 (lv_at hl 1 rfl) ?_
    refine lv_bipush (v := 32) hx hb dX12_isAtMost_56 (by decide) ?_
    refine lv_lushr hx hb dX12_isAtMost_58 rfl ?_
    refine lv_topl (fun x_7 ex_7 => ?_)
    have hhw9 : x_7 = hw9 x1 := by rw [ex_7]; rfl
    clear ex_7
    refine lv_lstore (lv' := [(10, .long x_7), (8, .long x_5), (6, .long (x1 * x1)), (4, .long (mhi x1 x1)), (0, .long x1), (2, .int x2), (3, .int x3)]) hx hb dX12_isAtMost_59 hl (by decide) rfl (fun ls hl => ?_)
    refine lv_lload hx hb dX12_isAtMost_61 (lv_at hl 3 rfl) ?_
    refine lv_lstore (lv' := [(12, .long (mhi x1 x1)), (10, .long x_7), (8, .long x_5), (6, .long (x1 * x1)), (4, .long (mhi x1 x1)), (0, .long x1), (2, .int x2), (3, .int x3)]) hx hb dX12_isAtMost_63 hl (by decide) rfl (fun ls hl => ?_)
    refine lv_lload hx hb dX12_isAtMost_65 (lv_at hl 2 rfl) ?_
    refine lv_lload_n hx hb dX12_isAtMost_67 rfl (lv_at hl 5 rfl) ?_
    refine lv_ldc2 (v := 4294967295) hx hb hown (hts _ kt_1107) dX12_isAtMost_68 ?_
    refine lv_land hx hb dX12_isAtMost_71 ?_
    refine lv_topl (fun x_8 ex_8 => ?_)
    obtain rfl : x_8 = (x1 &&& 4294967295) := ex_8.trans (rfl)
    refine lv_lmul hx hb dX12_isAtMost_72 ?_
    refine lv_topl (fun x_9 ex_9 => ?_)
    have hxw9 : x_9 = xw9 x1 := by rw [ex_9, hlw9]; rfl
    clear ex_9
    refine lv_lstore (lv' := [(14, .long x_9), (12, .long (mhi x1 x1)), (10, .long x_7), (8, .long x_5), (6, .long (x1 * x1)), (4, .long (mhi x1 x1)), (0, .long x1), (2, .int x2), (3, .int x3)]) hx hb dX12_isAtMost_73 hl (by decide) rfl (fun ls hl => ?_)
    refine lv_lload hx hb dX12_isAtMost_75 (lv_at hl 0 rfl) ?_
    refine lv_bipush (v := 32) hx hb dX12_isAtMost_77 (by decide) ?_
    refine lv_lushr hx hb dX12_isAtMost_79 rfl ?_
    refine lv_topl (fun x_11 ex_11 => ?_)
    obtain rfl : x_11 = (lus x_9 32) := ex_11.trans (rfl)
    refine lv_lstore (lv' := [(16, .long (lus x_9 32)), (14, .long x_9), (12, .long (mhi x1 x1)), (10, .long x_7), (8, .long x_5), (6, .long (x1 * x1)), (4, .long (mhi x1 x1)), (0, .long x1), (2, .int x2), (3, .int x3)]) hx hb dX12_isAtMost_80 hl (by decide) rfl (fun ls hl => ?_)
    refine lv_lload hx hb dX12_isAtMost_82 (lv_at hl 3 rfl) ?_
    refine lv_lload_n hx hb dX12_isAtMost_84 rfl (lv_at hl 7 rfl) ?_
    refine lv_ldc2 (v := 4294967295) hx hb hown (hts _ kt_1107) dX12_isAtMost_85 ?_
    refine lv_land hx hb dX12_isAtMost_88 ?_
    refine lv_topl (fun x_12 ex_12 => ?_)
    obtain rfl : x_12 = (x1 &&& 4294967295) := ex_12.trans (rfl)
    refine lv_lmul hx hb dX12_isAtMost_89 ?_
    refine lv_topl (fun x_13 ex_13 => ?_)
    obtain rfl : x_13 = (x_7 * (x1 &&& 4294967295)) := ex_13.trans (rfl)
    refine lv_lload hx hb dX12_isAtMost_90 (lv_at hl 0 rfl) ?_
    refine lv_ladd hx hb dX12_isAtMost_92 ?_
    refine lv_topl (fun x_14 ex_14 => ?_)
    have hyw9 : x_14 = yw9 x1 := by rw [ex_14, hhw9, hxw9]; rfl
    clear ex_14
    refine lv_lstore (lv' := [(18, .long x_14), (16, .long (lus x_9 32)), (14, .long x_9), (12, .long (mhi x1 x1)), (10, .long x_7), (8, .long x_5), (6, .long (x1 * x1)), (4, .long (mhi x1 x1)), (0, .long x1), (2, .int x2), (3, .int x3)]) hx hb dX12_isAtMost_93 hl (by decide) rfl (fun ls hl => ?_)
    refine lv_lload hx hb dX12_isAtMost_95 (lv_at hl 5 rfl) ?_
    refine lv_lload_n hx hb dX12_isAtMost_97 rfl (lv_at hl 8 rfl) ?_
    refine lv_bipush (v := 32) hx hb dX12_isAtMost_98 (by decide) ?_
    refine lv_lushr hx hb dX12_isAtMost_100 rfl ?_
    refine lv_topl (fun x_16 ex_16 => ?_)
    obtain rfl : x_16 = (lus x1 32) := ex_16.trans (rfl)
    refine lv_lmul hx hb dX12_isAtMost_101 ?_
    refine lv_topl (fun x_17 ex_17 => ?_)
    obtain rfl : x_17 = (x_5 * (lus x1 32)) := ex_17.trans (rfl)
    refine lv_lload hx hb dX12_isAtMost_102 (lv_at hl 0 rfl) ?_
    refine lv_ldc2 (v := 4294967295) hx hb hown (hts _ kt_1107) dX12_isAtMost_104 ?_
    refine lv_land hx hb dX12_isAtMost_107 ?_
    refine lv_topl (fun x_18 ex_18 => ?_)
    obtain rfl : x_18 = (x_14 &&& 4294967295) := ex_18.trans (rfl)
    refine lv_ladd hx hb dX12_isAtMost_108 ?_
    refine lv_topl (fun x_19 ex_19 => ?_)
    have hzw9 : x_19 = zw9 x1 := by rw [ex_19, hlw9, hyw9]; rfl
    clear ex_19
    refine lv_lstore (lv' := [(20, .long x_19), (18, .long x_14), (16, .long (lus x_9 32)), (14, .long x_9), (12, .long (mhi x1 x1)), (10, .long x_7), (8, .long x_5), (6, .long (x1 * x1)), (4, .long (mhi x1 x1)), (0, .long x1), (2, .int x2), (3, .int x3)]) hx hb dX12_isAtMost_109 hl (by decide) rfl (fun ls hl => ?_)
    refine lv_lload hx hb dX12_isAtMost_111 (lv_at hl 0 rfl) ?_
    refine lv_ldc2 (v := 4294967295) hx hb hown (hts _ kt_1107) dX12_isAtMost_113 ?_
    refine lv_land hx hb dX12_isAtMost_116 ?_
    refine lv_topl (fun x_20 ex_20 => ?_)
    obtain rfl : x_20 = (x_19 &&& 4294967295) := ex_20.trans (rfl)
    refine lv_lstore (lv' := [(22, .long (x_19 &&& 4294967295)), (20, .long x_19), (18, .long x_14), (16, .long (lus x_9 32)), (14, .long x_9), (12, .long (mhi x1 x1)), (10, .long x_7), (8, .long x_5), (6, .long (x1 * x1)), (4, .long (mhi x1 x1)), (0, .long x1), (2, .int x2), (3, .int x3)]) hx hb dX12_isAtMost_117 hl (by decide) rfl (fun ls hl => ?_)
    refine lv_lload hx hb dX12_isAtMost_119 (lv_at hl 4 rfl) ?_
    refine lv_ldc2 (v := 4294967295) hx hb hown (hts _ kt_1107) dX12_isAtMost_121 ?_
    refine lv_land hx hb dX12_isAtMost_124 ?_
    refine lv_topl (fun x_21 ex_21 => ?_)
    obtain rfl : x_21 = (x_9 &&& 4294967295) := ex_21.trans (rfl)
    refine lv_lstore (lv' := [(24, .long (x_9 &&& 4294967295)), (22, .long (x_19 &&& 4294967295)), (20, .long x_19), (18, .long x_14), (16, .long (lus x_9 32)), (14, .long x_9), (12, .long (mhi x1 x1)), (10, .long x_7), (8, .long x_5), (6, .long (x1 * x1)), (4, .long (mhi x1 x1)), (0, .long x1), (2, .int x2), (3, .int x3)]) hx hb dX12_isAtMost_125 hl (by decide) rfl (fun ls hl => ?_)
    refine lv_lload hx hb dX12_isAtMost_127 (lv_at hl 3 rfl) ?_
    refine lv_bipush (v := 32) hx hb dX12_isAtMost_129 (by decide) ?_
    refine lv_lushr hx hb dX12_isAtMost_131 rfl ?_
    refine lv_topl (fun x_23 ex_23 => ?_)
    obtain rfl : x_23 = (lus x_14 32) := ex_23.trans (rfl)
    refine lv_lload hx hb dX12_isAtMost_132 (lv_at hl 2 rfl) ?_
    refine lv_bipush (v := 32) hx hb dX12_isAtMost_134 (by decide) ?_
    refine lv_lushr hx hb dX12_isAtMost_136 rfl ?_
    refine lv_topl (fun x_25 ex_25 => ?_)
    obtain rfl : x_25 = (lus x_19 32) := ex_25.trans (rfl)
    refine lv_ladd hx hb dX12_isAtMost_137 ?_
    refine lv_topl (fun x_26 ex_26 => ?_)
    obtain rfl : x_26 = ((lus x_14 32) + (lus x_19 32)) := ex_26.trans (rfl)
    refine lv_lload hx hb dX12_isAtMost_138 (lv_at hl 7 rfl) ?_
    refine lv_lload_n hx hb dX12_isAtMost_140 rfl (lv_at hl 11 rfl) ?_
    refine lv_bipush (v := 32) hx hb dX12_isAtMost_141 (by decide) ?_
    refine lv_lushr hx hb dX12_isAtMost_143 rfl ?_
    refine lv_topl (fun x_28 ex_28 => ?_)
    obtain rfl : x_28 = (lus x1 32) := ex_28.trans (rfl)
    refine lv_lmul hx hb dX12_isAtMost_144 ?_
    refine lv_topl (fun x_29 ex_29 => ?_)
    obtain rfl : x_29 = (x_7 * (lus x1 32)) := ex_29.trans (rfl)
    refine lv_ladd hx hb dX12_isAtMost_145 ?_
    refine lv_topl (fun x_30 ex_30 => ?_)
    obtain rfl : x_30 = (((lus x_14 32) + (lus x_19 32)) + (x_7 * (lus x1 32))) := ex_30.trans (rfl)
    refine lv_lload hx hb dX12_isAtMost_146 (lv_at hl 6 rfl) ?_
    refine lv_lload_n hx hb dX12_isAtMost_148 rfl (lv_at hl 11 rfl) ?_
    refine lv_ldc2 (v := 4294967295) hx hb hown (hts _ kt_1107) dX12_isAtMost_149 ?_
    refine lv_land hx hb dX12_isAtMost_152 ?_
    refine lv_topl (fun x_31 ex_31 => ?_)
    obtain rfl : x_31 = (x1 &&& 4294967295) := ex_31.trans (rfl)
    refine lv_lmul hx hb dX12_isAtMost_153 ?_
    refine lv_topl (fun x_32 ex_32 => ?_)
    obtain rfl : x_32 = ((mhi x1 x1) * (x1 &&& 4294967295)) := ex_32.trans (rfl)
    refine lv_ladd hx hb dX12_isAtMost_154 ?_
    refine lv_topl (fun x_33 ex_33 => ?_)
    obtain rfl : x_33 = ((((lus x_14 32) + (lus x_19 32)) + (x_7 * (lus x1 32))) + ((mhi x1 x1) * (x1 &&& 4294967295))) := ex_33.trans (rfl)
    refine lv_lload hx hb dX12_isAtMost_155 (lv_at hl 6 rfl) ?_
    refine lv_lload_n hx hb dX12_isAtMost_157 rfl (lv_at hl 11 rfl) ?_
    refine lv_bipush (v := 32) hx hb dX12_isAtMost_158 (by decide) ?_
    refine lv_lushr hx hb dX12_isAtMost_160 rfl ?_
    refine lv_topl (fun x_35 ex_35 => ?_)
    obtain rfl : x_35 = (lus x1 32) := ex_35.trans (rfl)
    refine lv_lmul hx hb dX12_isAtMost_161 ?_
    refine lv_topl (fun x_36 ex_36 => ?_)
    obtain rfl : x_36 = ((mhi x1 x1) * (lus x1 32)) := ex_36.trans (rfl)
    refine lv_bipush (v := 32) hx hb dX12_isAtMost_162 (by decide) ?_
    refine lv_lshl hx hb dX12_isAtMost_164 rfl ?_
    refine lv_topl (fun x_38 ex_38 => ?_)
    obtain rfl : x_38 = (lsl ((mhi x1 x1) * (lus x1 32)) 32) := ex_38.trans (rfl)
    refine lv_ladd hx hb dX12_isAtMost_165 ?_
    refine lv_topl (fun x_39 ex_39 => ?_)
    have hrs9 : x_39 = rs9 x1 := by rw [ex_39, hyw9, hzw9, hhw9]; rfl
    clear ex_39
    refine lv_lstore (lv' := [(26, .long x_39), (24, .long (x_9 &&& 4294967295)), (22, .long (x_19 &&& 4294967295)), (20, .long x_19), (18, .long x_14), (16, .long (lus x_9 32)), (14, .long x_9), (12, .long (mhi x1 x1)), (10, .long x_7), (8, .long x_5), (6, .long (x1 * x1)), (4, .long (mhi x1 x1)), (0, .long x1), (2, .int x2), (3, .int x3)]) hx hb dX12_isAtMost_166 hl (by decide) rfl (fun ls hl => ?_)
    refine lv_lload hx hb dX12_isAtMost_168 (lv_at hl 0 rfl) ?_
    refine lv_iload_n hx hb dX12_isAtMost_170 rfl (lv_at hl 14 rfl) ?_
    refine lv_i2l (v := x3.toInt64) hx hb dX12_isAtMost_171 rfl ?_
    refine lv_bipush (v := 32) hx hb dX12_isAtMost_172 (by decide) ?_
    refine lv_lshl hx hb dX12_isAtMost_174 rfl ?_
    refine lv_topl (fun x_41 ex_41 => ?_)
    obtain rfl : x_41 = (lsl x3.toInt64 32) := ex_41.trans (rfl)
    refine W.lcmp hx hb dX12_isAtMost_175 ?_
    refine lv_topi (fun x_42 ex_42 => ?_)
    obtain rfl : x_42 = (lg_cmp x_39 (lsl x3.toInt64 32)) := ex_42.trans (rfl)
    refine lv_if_lt (tgt := 204) hx hb dX12_isAtMost_176 (by decide) (fun c_43 => ?_) (fun c_43 => ?_)
    ·
      refine lv_iconst (v := 1) hx hb dX12_isAtMost_204 (by decide) ?_
      refine lv_goto (tgt := 209) hx hb dX12_isAtMost_205 (by decide) ?_
      refine W.widen (k := 0) (n := 0) (by omega) (by omega) ?_
      exact W.zret (v := 1) (ty := .boolean) hx hb hr (by decide) (fun t ht hWm => ⟨⟨1, (), rfl, (by unfold iam; rw [← hrs9, ← hzw9, ← hxw9, if_neg c_4, if_pos c_43]), ⟨F, QTm.mk ht hP hD hO hR⟩⟩, hS.F ht⟩) hS.2.2 dX12_isAtMost_209
    ·
      refine lv_lload hx hb dX12_isAtMost_179 (lv_at hl 0 rfl) ?_
      refine lv_iload_n hx hb dX12_isAtMost_181 rfl (lv_at hl 14 rfl) ?_
      refine lv_i2l (v := x3.toInt64) hx hb dX12_isAtMost_182 rfl ?_
      refine lv_bipush (v := 32) hx hb dX12_isAtMost_183 (by decide) ?_
      refine lv_lshl hx hb dX12_isAtMost_185 rfl ?_
      refine lv_topl (fun x_45 ex_45 => ?_)
      obtain rfl : x_45 = (lsl x3.toInt64 32) := ex_45.trans (rfl)
      refine W.lcmp hx hb dX12_isAtMost_186 ?_
      refine lv_topi (fun x_46 ex_46 => ?_)
      obtain rfl : x_46 = (lg_cmp x_39 (lsl x3.toInt64 32)) := ex_46.trans (rfl)
      refine lv_if_ne (tgt := 208) hx hb dX12_isAtMost_187 (by decide) (fun c_47 => ?_) (fun c_47 => ?_)
      ·
        refine lv_iconst (v := 0) hx hb dX12_isAtMost_208 (by decide) ?_
        refine W.widen (k := 0) (n := 0) (by omega) (by omega) ?_
        exact W.zret (v := 0) (ty := .boolean) hx hb hr (by decide) (fun t ht hWm => ⟨⟨0, (), rfl, (by unfold iam; rw [← hrs9, ← hzw9, ← hxw9, if_neg c_4, if_neg c_43, if_neg c_47]), ⟨F, QTm.mk ht hP hD hO hR⟩⟩, hS.F ht⟩) hS.2.2 dX12_isAtMost_209
      ·
        refine lv_lload hx hb dX12_isAtMost_190 (lv_at hl 2 rfl) ?_
        refine lv_lconst (v := 0) hx hb dX12_isAtMost_192 (by decide) ?_
        refine W.lcmp hx hb dX12_isAtMost_193 ?_
        refine lv_topi (fun x_48 ex_48 => ?_)
        obtain rfl : x_48 = (lg_cmp (x_19 &&& 4294967295) 0) := ex_48.trans (rfl)
        refine lv_if_ne (tgt := 208) hx hb dX12_isAtMost_194 (by decide) (fun c_49 => ?_) (fun c_49 => ?_)
        ·
          refine lv_iconst (v := 0) hx hb dX12_isAtMost_208 (by decide) ?_
          refine W.widen (k := 0) (n := 0) (by omega) (by omega) ?_
          exact W.zret (v := 0) (ty := .boolean) hx hb hr (by decide) (fun t ht hWm => ⟨⟨0, (), rfl, (by unfold iam; rw [← hrs9, ← hzw9, ← hxw9, if_neg c_4, if_neg c_43, if_pos c_47, if_neg c_49]), ⟨F, QTm.mk ht hP hD hO hR⟩⟩, hS.F ht⟩) hS.2.2 dX12_isAtMost_209
        ·
          refine lv_lload hx hb dX12_isAtMost_197 (lv_at hl 1 rfl) ?_
          refine lv_lconst (v := 0) hx hb dX12_isAtMost_199 (by decide) ?_
          refine W.lcmp hx hb dX12_isAtMost_200 ?_
          refine lv_topi (fun x_50 ex_50 => ?_)
          obtain rfl : x_50 = (lg_cmp (x_9 &&& 4294967295) 0) := ex_50.trans (rfl)
          refine lv_if_ne (tgt := 208) hx hb dX12_isAtMost_201 (by decide) (fun c_51 => ?_) (fun c_51 => ?_)
          ·
            refine lv_iconst (v := 0) hx hb dX12_isAtMost_208 (by decide) ?_
            refine W.widen (k := 0) (n := 0) (by omega) (by omega) ?_
            exact W.zret (v := 0) (ty := .boolean) hx hb hr (by decide) (fun t ht hWm => ⟨⟨0, (), rfl, (by unfold iam; rw [← hrs9, ← hzw9, ← hxw9, if_neg c_4, if_neg c_43, if_pos c_47, if_pos c_49, if_neg c_51]), ⟨F, QTm.mk ht hP hD hO hR⟩⟩, hS.F ht⟩) hS.2.2 dX12_isAtMost_209
          ·
            refine lv_iconst (v := 1) hx hb dX12_isAtMost_204 (by decide) ?_
            refine lv_goto (tgt := 209) hx hb dX12_isAtMost_205 (by decide) ?_
            refine W.widen (k := 0) (n := 0) (by omega) (by omega) ?_
            exact W.zret (v := 1) (ty := .boolean) hx hb hr (by decide) (fun t ht hWm => ⟨⟨1, (), rfl, (by unfold iam; rw [← hrs9, ← hzw9, ← hxw9, if_neg c_4, if_neg c_43, if_pos c_47, if_pos c_49, if_pos c_51]), ⟨F, QTm.mk ht hP hD hO hR⟩⟩, hS.F ht⟩) hS.2.2 dX12_isAtMost_209
  ·
    refine lv_lload hx hb dX12_isAtMost_17 (lv_at hl 1 rfl) ?_
    refine lv_iload_n hx hb dX12_isAtMost_19 rfl (lv_at hl 4 rfl) ?_
    refine lv_i2l (v := x3.toInt64) hx hb dX12_isAtMost_20 rfl ?_
    refine W.lcmp hx hb dX12_isAtMost_21 ?_
    refine lv_topi (fun x_52 ex_52 => ?_)
    obtain rfl : x_52 = (lg_cmp (mhi x1 x1) x3.toInt64) := ex_52.trans (rfl)
    refine lv_if_lt (tgt := 40) hx hb dX12_isAtMost_22 (by decide) (fun c_53 => ?_) (fun c_53 => ?_)
    ·
      refine lv_iconst (v := 1) hx hb dX12_isAtMost_40 (by decide) ?_
      refine lv_goto (tgt := 45) hx hb dX12_isAtMost_41 (by decide) ?_
      refine W.widen (k := 0) (n := 0) (by omega) (by omega) ?_
      exact W.zret (v := 1) (ty := .boolean) hx hb hr (by decide) (fun t ht hWm => ⟨⟨1, (), rfl, (by unfold iam; rw [if_pos c_4, if_pos c_53]), ⟨F, QTm.mk ht hP hD hO hR⟩⟩, hS.F ht⟩) hS.2.2 dX12_isAtMost_45
    ·
      refine lv_lload hx hb dX12_isAtMost_25 (lv_at hl 1 rfl) ?_
      refine lv_iload_n hx hb dX12_isAtMost_27 rfl (lv_at hl 4 rfl) ?_
      refine lv_i2l (v := x3.toInt64) hx hb dX12_isAtMost_28 rfl ?_
      refine W.lcmp hx hb dX12_isAtMost_29 ?_
      refine lv_topi (fun x_54 ex_54 => ?_)
      obtain rfl : x_54 = (lg_cmp (mhi x1 x1) x3.toInt64) := ex_54.trans (rfl)
      refine lv_if_ne (tgt := 44) hx hb dX12_isAtMost_30 (by decide) (fun c_55 => ?_) (fun c_55 => ?_)
      ·
        refine lv_iconst (v := 0) hx hb dX12_isAtMost_44 (by decide) ?_
        refine W.widen (k := 0) (n := 0) (by omega) (by omega) ?_
        exact W.zret (v := 0) (ty := .boolean) hx hb hr (by decide) (fun t ht hWm => ⟨⟨0, (), rfl, (by unfold iam; rw [if_pos c_4, if_neg c_53, if_neg c_55]), ⟨F, QTm.mk ht hP hD hO hR⟩⟩, hS.F ht⟩) hS.2.2 dX12_isAtMost_45
      ·
        refine lv_lload hx hb dX12_isAtMost_33 (lv_at hl 0 rfl) ?_
        refine lv_lconst (v := 0) hx hb dX12_isAtMost_35 (by decide) ?_
        refine W.lcmp hx hb dX12_isAtMost_36 ?_
        refine lv_topi (fun x_56 ex_56 => ?_)
        obtain rfl : x_56 = (lg_cmp (x1 * x1) 0) := ex_56.trans (rfl)
        refine lv_if_ne (tgt := 44) hx hb dX12_isAtMost_37 (by decide) (fun c_57 => ?_) (fun c_57 => ?_)
        ·
          refine lv_iconst (v := 0) hx hb dX12_isAtMost_44 (by decide) ?_
          refine W.widen (k := 0) (n := 0) (by omega) (by omega) ?_
          exact W.zret (v := 0) (ty := .boolean) hx hb hr (by decide) (fun t ht hWm => ⟨⟨0, (), rfl, (by unfold iam; rw [if_pos c_4, if_neg c_53, if_pos c_55, if_neg c_57]), ⟨F, QTm.mk ht hP hD hO hR⟩⟩, hS.F ht⟩) hS.2.2 dX12_isAtMost_45
        ·
          refine lv_iconst (v := 1) hx hb dX12_isAtMost_40 (by decide) ?_
          refine lv_goto (tgt := 45) hx hb dX12_isAtMost_41 (by decide) ?_
          refine W.widen (k := 0) (n := 0) (by omega) (by omega) ?_
          exact W.zret (v := 1) (ty := .boolean) hx hb hr (by decide) (fun t ht hWm => ⟨⟨1, (), rfl, (by unfold iam; rw [if_pos c_4, if_neg c_53, if_pos c_55, if_pos c_57]), ⟨F, QTm.mk ht hP hD hO hR⟩⟩, hS.F ht⟩) hS.2.2 dX12_isAtMost_45
def bt (j : Nat) : Int64 := lN (2 ^ j / 2)
theorem bt_s : ∀ j, j < 38 → 0 < j → bt j >>> ((1 : Int32).toInt64 &&& 63) = bt (j - 1) := by decide +kernel
theorem bt_p {j : Nat} {x : Int32} (ex : x = lg_cmp (bt j) 0) (c : ¬ x ≤ 0) : 0 < j := by
  rcases Nat.eq_zero_or_pos j with h | h
  · subst h
    exact absurd (by rw [ex]; decide) c
  · exact h
def rtwq (p pw : Int32) : Nat → Int64 → Int64
  | 0, v => v
  | j + 1, v => rtwq p pw j (if iam (v + bt (j + 1)) pw p = 0 then v else v + bt (j + 1))
def rtv (p pw : Int32) : Int32 := (rtwq p pw 37 0).toInt32
theorem bt_z0 : ∀ j, j < 38 → lg_cmp (bt j) 0 ≤ 0 → j = 0 := by decide +kernel
theorem bt_z {j : Nat} {x : Int32} (hj : j ≤ 37) (ex : x = lg_cmp (bt j) 0) (h : x ≤ 0) : j = 0 := bt_z0 j (by omega) (by rw [← ex]; exact h)
theorem rtwq_y {p pw : Int32} {j : Nat} {v : Int64} (hj : 0 < j) (h : ¬ iam (v + bt j) pw p = 0) : rtwq p pw (j - 1) (v + bt j) = rtwq p pw j v := by
  obtain ⟨k, rfl⟩ : ∃ k, j = k + 1 := ⟨j - 1, by omega⟩
  show _ = rtwq p pw k (if iam (v + bt (k + 1)) pw p = 0 then v else v + bt (k + 1))
  rw [if_neg h, Nat.add_sub_cancel]
theorem rtwq_n {p pw : Int32} {j : Nat} {v : Int64} (hj : 0 < j) (h : iam (v + bt j) pw p = 0) : rtwq p pw (j - 1) v = rtwq p pw j v := by
  obtain ⟨k, rfl⟩ : ∃ k, j = k + 1 := ⟨j - 1, by omega⟩
  show _ = rtwq p pw k (if iam (v + bt (k + 1)) pw p = 0 then v else v + bt (k + 1))
  rw [if_pos h, Nat.add_sub_cancel]
set_option maxHeartbeats 4000000 in
set_option maxRecDepth 100000 in
theorem s_X12_rootOf (l : Launch) (dC : Nat → ClassId) (dI : Nat → Nat → Nat) (cs : Nat → ClassId) (ty : TyM) (gm : Nat → Nat → Nat) (L : List Nat) (sz : Nat) (F : Nat → va_E) (x1 : Int32) (x2 : Int32) (hW : WTm ty gm L) : Met l yX12_rootOf (.code yX12_rootOf cX12_rootOf 6 (some .int) :: tb) ({ frames := 2, cells := 0, slots := 0, locals := 86 }) (va_Pc [.int x1, .int x2] (PTm (dC, dI) cs ty gm L F sz)) (va_Qi (fun (r : Int32) (_ : Unit) => r = rtv x1 x2) (fun _ T9 => ∃ F2 : Nat → va_E, QTm (dC, dI) cs ty gm L [] F F2 (va_A (va_pl L F) sz) T9) (va_A (va_pl L F) sz)) 0 0 (va_A (va_pl L F) sz) := by
  refine Met.ofW (cc := cX12_rootOf) (maxL := 6) (ret := (some .int)) (by decide) rfl ?_
  intro p e s m args below meth c s₁ B hml hv
  obtain ⟨rfl, hsz, hP, hK, hD0, hE, hO⟩ := hv
  have hx := B.exec
  have hb := B.bytes
  have hr := B.returns
  have hts : ∀ w ∈ tb, w.before _ s = true := fun w h => atoms_spec (ws := .code yX12_rootOf cX12_rootOf 6 (some .int) :: tb) B.pre w (List.mem_cons_of_mem _ h)
  have hown : s.vm.findClass RX12 = some m.cls := findClass_of_methodNamed B.named
  have hlocks := B.notSynchronized
  subst hsz
  have hD := hD0.self (sz := s.heap.size)
  generalize hAe : va_A (va_pl L F) s.heap.size = A at hD ⊢
  have hA : ∀ q : Nat, s.heap.size ≤ q → A q := fun q h => by rw [← hAe]; exact Or.inr h
  have hS : va_S A s.heap s.heap [] := va_S.rf
  have hR : FR ty [] F F := FR.refl
  have hl := lv_entry ([.int x1, .int x2]) (n := 6) (Nat.le_of_ble_eq_true rfl)
  rw [lg_entry_eq]
  generalize (lg_sl ([.int x1, .int x2]) ++ List.replicate (6 - (lg_sl ([.int x1, .int x2])).length) Slot.unset).toArray = ls at hl ⊢
  have hl : lv_has ls 6 [(0, .int x1), (1, .int x2)] := hl
  refine lv_lconst (v := 0) hx hb dX12_rootOf_0 (by decide) ?_
  refine lv_lstore_n (lv' := [(2, .long 0), (0, .int x1), (1, .int x2)]) hx hb dX12_rootOf_1 rfl hl (by decide) rfl (fun ls hl => ?_)
  refine lv_ldc2 (v := 68719476736) hx hb hown (hts _ kt_1108) dX12_rootOf_2 ?_
  refine W.eq (g2 := F0 m 5 ls [.long (bt 37)]) rfl ?_
  refine lv_lstore (lv' := [(4, .long (bt 37)), (2, .long 0), (0, .int x1), (1, .int x2)]) hx hb dX12_rootOf_5 hl (by decide) rfl (fun ls hl => ?_)
  refine W.widen (k := 0) (n := 0) (by omega) (by omega) ?_
  refine pl_loopm (σ := Nat × Int64) A (dC, dI) cs ty gm L [] F 7 6 (fun (j1, rv) => [(4, .long (bt j1)), (2, .long rv), (0, .int x1), (1, .int x2)]) (fun (j1, rv) => []) (fun (j1, rv) _ => j1 ≤ 37 ∧ rtwq x1 x2 j1 rv = rtwq x1 x2 37 0) (fun (j1, rv) => j1) ?_ (37, 0) F (⟨by omega, rfl⟩) hO hR _ _ hP hD hS ls (lv_sub hl [0, 1, 2, 3] rfl)
  rintro ⟨j1, rv⟩ F_1 hv_2 hO hR ih_3 H locs hP hD hS ls hl
  have hl : lv_has ls 6 [(4, .long (bt j1)), (2, .long rv), (0, .int x1), (1, .int x2)] := hl
  have hv_2 : j1 ≤ 37 ∧ rtwq x1 x2 j1 rv = rtwq x1 x2 37 0 := hv_2
  refine W.eq (g2 := F0 m 7 ls []) rfl ?_
  obtain rfl : F = F_1 := (funext (fun a => hR a List.not_mem_nil)).symm
  obtain ⟨hv1, hv2⟩ := id hv_2
  refine lv_lload hx hb dX12_rootOf_7 (lv_at hl 0 rfl) ?_
  refine lv_lconst (v := 0) hx hb dX12_rootOf_9 (by decide) ?_
  refine W.lcmp hx hb dX12_rootOf_10 ?_
  refine lv_topi (fun x_4 ex_4 => ?_)
  refine lv_if_le (tgt := 40) hx hb dX12_rootOf_11 (by decide) (fun c_5 => ?_) (fun c_5 => ?_)
  ·
    have hj0 : j1 = 0 := bt_z hv1 ex_4 c_5
    refine lv_lload_n hx hb dX12_rootOf_40 rfl (lv_at hl 1 rfl) ?_
    refine lv_l2i hx hb dX12_rootOf_41 rfl ?_
    refine lv_topi (fun x_6 ex_6 => ?_)
    obtain rfl : x_6 = (rv).toInt32 := ex_6.trans (rfl)
    refine W.widen (k := 0) (n := 0) (by omega) (by omega) ?_
    exact W.iret (v := (rv).toInt32) hx hb hr (fun t ht hWm => ⟨⟨(rv).toInt32, (), rfl, (by unfold rtv; rw [← hv2, hj0]; rfl), ⟨F, QTm.mk ht hP hD hO hR⟩⟩, hS.F ht⟩) hS.2.2 dX12_rootOf_42
  ·
    have hj : 0 < j1 := bt_p ex_4 c_5
    refine lv_lload_n hx hb dX12_rootOf_14 rfl (lv_at hl 1 rfl) ?_
    refine lv_lload hx hb dX12_rootOf_15 (lv_at hl 0 rfl) ?_
    refine lv_ladd hx hb dX12_rootOf_17 ?_
    refine lv_topl (fun x_7 ex_7 => ?_)
    obtain rfl : x_7 = (rv + (bt j1)) := ex_7.trans (rfl)
    refine lv_iload_n hx hb dX12_rootOf_18 rfl (lv_at hl 3 rfl) ?_
    refine lv_iload_n hx hb dX12_rootOf_19 rfl (lv_at hl 2 rfl) ?_
    have hFc := pg_free hD hS hA
    refine va_calli (va_runS (As := [.long (rv + (bt j1)), .int x2, .int x1]) (rest := []) ⟨hx, hb, hml, hown, hts⟩ (s_X12_isAtMost l dC dI cs ty gm L H.size F (rv + (bt j1)) x2 x1 hW ) ⟨callB_of 3 hts (gi kt_1109) rfl rfl rfl (hts _ kt_779) (hts _ kt_1110) (by decide +kernel) ⟨Nat.le_of_ble_eq_true rfl, Nat.le_of_ble_eq_true rfl⟩, (hts _ kt_1111)⟩ ⟨fun a U g mk q => ⟨q.1, PTm.calling q.2⟩, fun U hU hWm => ⟨rfl, PTm.mk hU hWm hP hK hD hE hO⟩⟩ rfl rfl hl.1 rfl (lv_room (Nat.le_of_ble_eq_true rfl)) dX12_rootOf_20 ⟨by show _ + 0 ≤ 0; omega, by show _ + 0 ≤ 0; omega⟩) hS (fun q _ h => hFc q h) hFc (fun r_8 u t H1 locs ht hvm hw hB hz1 hk1 hS => ?_)
    obtain ⟨F_9, hB1⟩ := hB
    obtain rfl : F = F_9 := (funext (fun a => hB1.2.2.2 a List.not_mem_nil)).symm
    obtain ⟨hP, hD, hO, hR⟩ := QTm.back hB1 ht hFc hR (fun q h => absurd h List.not_mem_nil)
    generalize H1 = H at hP hS ⊢
    have hw : r_8 = iam (rv + (bt j1)) x2 x1 := hw
    subst hw
    refine lv_if_eq (tgt := 31) hx hb dX12_rootOf_23 (by decide) (fun c_10 => ?_) (fun c_10 => ?_)
    ·
      refine lv_lload hx hb dX12_rootOf_31 (lv_at hl 0 rfl) ?_
      refine lv_iconst (v := 1) hx hb dX12_rootOf_33 (by decide) ?_
      refine lv_lshr hx hb dX12_rootOf_34 rfl ?_
      refine lv_topl (fun x_12 ex_12 => ?_)
      obtain rfl : x_12 = (bt (j1 - 1)) := ex_12.trans (bt_s j1 (by omega) hj)
      refine lv_lstore (lv' := [(4, .long (bt (j1 - 1))), (2, .long rv), (0, .int x1), (1, .int x2)]) hx hb dX12_rootOf_35 hl (by decide) rfl (fun ls hl => ?_)
      refine lv_goto (tgt := 7) hx hb dX12_rootOf_37 (by decide) ?_
      refine W.widen (k := 0) (n := 0) (by omega) (by omega) ?_
      exact ih_3 ((j1 - 1), rv) F (⟨by omega, (rtwq_n hj c_10).trans hv2⟩) (by show (j1 - 1) < j1; omega) hO hR _ _ hP hD hS ls (lv_sub hl [0, 1, 2, 3] rfl)
    ·
      refine lv_lload_n hx hb dX12_rootOf_26 rfl (lv_at hl 1 rfl) ?_
      refine lv_lload hx hb dX12_rootOf_27 (lv_at hl 0 rfl) ?_
      refine lv_ladd hx hb dX12_rootOf_29 ?_
      refine lv_topl (fun x_13 ex_13 => ?_)
      obtain rfl : x_13 = (rv + (bt j1)) := ex_13.trans (rfl)
      refine lv_lstore_n (lv' := [(2, .long (rv + (bt j1))), (4, .long (bt j1)), (0, .int x1), (1, .int x2)]) hx hb dX12_rootOf_30 rfl hl (by decide) rfl (fun ls hl => ?_)
      refine lv_lload hx hb dX12_rootOf_31 (lv_at hl 1 rfl) ?_
      refine lv_iconst (v := 1) hx hb dX12_rootOf_33 (by decide) ?_
      refine lv_lshr hx hb dX12_rootOf_34 rfl ?_
      refine lv_topl (fun x_15 ex_15 => ?_)
      obtain rfl : x_15 = (bt (j1 - 1)) := ex_15.trans (bt_s j1 (by omega) hj)
      refine lv_lstore (lv' := [(4, .long (bt (j1 - 1))), (2, .long (rv + (bt j1))), (0, .int x1), (1, .int x2)]) hx hb dX12_rootOf_35 hl (by decide) rfl (fun ls hl => ?_)
      refine lv_goto (tgt := 7) hx hb dX12_rootOf_37 (by decide) ?_
      refine W.widen (k := 0) (n := 0) (by omega) (by omega) ?_
      exact ih_3 ((j1 - 1), (rv + (bt j1))) F (⟨by omega, (rtwq_y hj c_10).trans hv2⟩) (by show (j1 - 1) < j1; omega) hO hR _ _ hP hD hS ls (lv_sub hl [0, 1, 2, 3] rfl)
def pf : Nat → Nat → Nat → Nat
  | 0, _, _ => 1
  | k + 1, d, p => if p < d * d then 1 else if p % d = 0 then 0 else pf k (d + 1) p
def cnt : Nat → Nat
  | 0 => 0
  | p + 1 => cnt p + (if 2 ≤ p then pf 30 2 p else 0)
theorem pf01 : ∀ k d p, pf k d p = 0 ∨ pf k d p = 1 := by
  intro k
  induction k with
  | zero => intro d p; exact Or.inr rfl
  | succ k ih =>
    intro d p
    unfold pf
    split
    · exact Or.inr rfl
    · split
      · exact Or.inl rfl
      · exact ih _ _
theorem sq20 {d p : Nat} (h : d * d ≤ p) (hp : p ≤ 400) : d ≤ 20 := Nat.le_of_not_lt (fun q => by have := Nat.mul_le_mul q q; omega)
theorem pfa {d p : Nat} (hv : 2 ≤ d ∧ d ≤ 30 ∧ pf (32 - d) d p = pf 30 2 p) : ∃ k, 32 - d = k + 1 ∧ pf 30 2 p = (if p < d * d then 1 else if p % d = 0 then 0 else pf k (d + 1) p) := by
  obtain ⟨h1, h2, h3⟩ := hv
  refine ⟨31 - d, by omega, ?_⟩
  rw [← h3, show 32 - d = (31 - d) + 1 by omega]
  rfl
theorem pr0 {d p : Nat} (hv : 2 ≤ d ∧ d ≤ 30 ∧ pf (32 - d) d p = pf 30 2 p) (h1 : d * d ≤ p) (hp : p ≤ 400) (h2 : nI (p % d) = 0) : (0 : Int32) = nI (pf 30 2 p) := by
  obtain ⟨k, -, e⟩ := pfa hv
  have h3 : p % d = 0 := (nI_eq (Nat.lt_of_le_of_lt (Nat.mod_le _ _) (by omega)) (by omega)).mp (h2.trans nI_0.symm)
  rw [e, if_neg (Nat.not_lt.mpr h1), if_pos h3]
  rfl
theorem pr1 {d p : Nat} (hv : 2 ≤ d ∧ d ≤ 30 ∧ pf (32 - d) d p = pf 30 2 p) (h1 : p < d * d) : (1 : Int32) = nI (pf 30 2 p) := by
  obtain ⟨k, -, e⟩ := pfa hv
  rw [e, if_pos h1]
  rfl
theorem prs {d p : Nat} (hv : 2 ≤ d ∧ d ≤ 30 ∧ pf (32 - d) d p = pf 30 2 p) (h1 : d * d ≤ p) (hp : p ≤ 400) (h2 : ¬ nI (p % d) = 0) : 2 ≤ d + 1 ∧ d + 1 ≤ 30 ∧ pf (32 - (d + 1)) (d + 1) p = pf 30 2 p := by
  obtain ⟨k, hk, e⟩ := pfa hv
  have h3 : ¬ p % d = 0 := fun h => h2 (by rw [h]; rfl)
  have := sq20 h1 hp
  refine ⟨by omega, by omega, ?_⟩
  rw [e, if_neg (Nat.not_lt.mpr h1), if_neg h3, show 32 - (d + 1) = k by omega]
theorem cnt_e : cnt 312 = 64 := by decide +kernel
theorem cn0 {p n : Nat} {r : Int32} (h : 2 ≤ p ∧ p ≤ 312 ∧ n = cnt p) (hn : n < 64) (hr : r = nI (pf 30 2 p)) (c : r = 0) : 2 ≤ p + 1 ∧ p + 1 ≤ 312 ∧ n = cnt (p + 1) := by
  obtain ⟨h1, h2, h3⟩ := h
  have hp : p ≠ 312 := fun q => by subst q; rw [cnt_e] at h3; omega
  refine ⟨by omega, by omega, ?_⟩
  rw [cnt, if_pos h1]
  rcases pf01 30 2 p with q | q
  · omega
  · rw [hr, q] at c
    exact absurd c (by decide)
theorem cn1 {p n : Nat} {r : Int32} (h : 2 ≤ p ∧ p ≤ 312 ∧ n = cnt p) (hn : n < 64) (hr : r = nI (pf 30 2 p)) (c : ¬ r = 0) : 2 ≤ p + 1 ∧ p + 1 ≤ 312 ∧ n + 1 = cnt (p + 1) := by
  obtain ⟨h1, h2, h3⟩ := h
  have hp : p ≠ 312 := fun q => by subst q; rw [cnt_e] at h3; omega
  refine ⟨by omega, by omega, ?_⟩
  rw [cnt, if_pos h1]
  rcases pf01 30 2 p with q | q
  · rw [hr, q] at c
    exact absurd rfl c
  · omega
theorem cnx {p n : Nat} (h : 2 ≤ p ∧ p ≤ 312 ∧ n = cnt p) (hn : n < 64) : p < 312 := by
  obtain ⟨h1, h2, h3⟩ := h
  have hp : p ≠ 312 := fun q => by subst q; rw [cnt_e] at h3; omega
  omega
theorem cnt_le (p : Nat) : cnt p ≤ p := by
  induction p with
  | zero => exact Nat.le_refl 0
  | succ p ih =>
    rw [cnt]
    split
    · rcases pf01 30 2 p with q | q <;> omega
    · omega
set_option maxHeartbeats 4000000 in
set_option maxRecDepth 100000 in
theorem s_X12_isPrime (l : Launch) (dC : Nat → ClassId) (dI : Nat → Nat → Nat) (cs : Nat → ClassId) (ty : TyM) (gm : Nat → Nat → Nat) (L : List Nat) (sz : Nat) (F : Nat → va_E) (p1 : Nat) (hW : WTm ty gm L) (hp1 : 2 ≤ p1) (hp2 : p1 ≤ 400) : Met l yX12_isPrime (.code yX12_isPrime cX12_isPrime 2 (some .boolean) :: tb) ({ frames := 0, cells := 0, slots := 0, locals := 0 }) (va_Pc [.int (nI p1)] (PTm (dC, dI) cs ty gm L F sz)) (va_Qi (fun (r : Int32) (_ : Unit) => r = nI (pf 30 2 p1) ∧ True) (fun _ T9 => ∃ F2 : Nat → va_E, QTm (dC, dI) cs ty gm L [] F F2 (va_A (va_pl L F) sz) T9) (va_A (va_pl L F) sz)) 0 0 (va_A (va_pl L F) sz) := by
  refine Met.ofW (cc := cX12_isPrime) (maxL := 2) (ret := (some .boolean)) (by decide) rfl ?_
  intro p e s m args below meth c s₁ B hml hv
  obtain ⟨rfl, hsz, hP, hK, hD0, hE, hO⟩ := hv
  have hx := B.exec
  have hb := B.bytes
  have hr := B.returns
  have hts : ∀ w ∈ tb, w.before _ s = true := fun w h => atoms_spec (ws := .code yX12_isPrime cX12_isPrime 2 (some .boolean) :: tb) B.pre w (List.mem_cons_of_mem _ h)
  have hown : s.vm.findClass RX12 = some m.cls := findClass_of_methodNamed B.named
  have hlocks := B.notSynchronized
  subst hsz
  have hD := hD0.self (sz := s.heap.size)
  generalize hAe : va_A (va_pl L F) s.heap.size = A at hD ⊢
  have hA : ∀ q : Nat, s.heap.size ≤ q → A q := fun q h => by rw [← hAe]; exact Or.inr h
  have hS : va_S A s.heap s.heap [] := va_S.rf
  have hR : FR ty [] F F := FR.refl
  have hl := lv_entry ([.int (nI p1)]) (n := 2) (Nat.le_of_ble_eq_true rfl)
  rw [lg_entry_eq]
  generalize (lg_sl ([.int (nI p1)]) ++ List.replicate (2 - (lg_sl ([.int (nI p1)])).length) Slot.unset).toArray = ls at hl ⊢
  have hl : lv_has ls 2 [(0, .int (nI p1))] := hl
  refine lv_iconst (v := 2) hx hb dX12_isPrime_0 (by decide) ?_
  refine lv_istore_n (lv' := [(1, .int 2), (0, .int (nI p1))]) hx hb dX12_isPrime_1 rfl hl (by decide) rfl (fun ls hl => ?_)
  refine W.widen (k := 0) (n := 0) (by omega) (by omega) ?_
  refine pl_loopm (σ := Nat) A (dC, dI) cs ty gm L [] F 2 2 (fun d1 => [(1, .int (nI d1)), (0, .int (nI p1))]) (fun d1 => []) (fun d1 _ => 2 ≤ d1 ∧ d1 ≤ 30 ∧ pf (32 - d1) d1 p1 = pf 30 2 p1) (fun d1 => 30 - d1) ?_ 2 F (⟨by omega, by omega, rfl⟩) hO hR _ _ hP hD hS ls (lv_sub hl [0, 1] rfl)
  rintro d1 F_1 hv_2 hO hR ih_3 H locs hP hD hS ls hl
  have hl : lv_has ls 2 [(1, .int (nI d1)), (0, .int (nI p1))] := hl
  have hv_2 : 2 ≤ d1 ∧ d1 ≤ 30 ∧ pf (32 - d1) d1 p1 = pf 30 2 p1 := hv_2
  refine W.eq (g2 := F0 m 2 ls []) rfl ?_
  obtain rfl : F = F_1 := (funext (fun a => hR a List.not_mem_nil)).symm
  obtain ⟨hv1, hv2, -⟩ := id hv_2
  have hdd : d1 * d1 ≤ 30 * 30 := Nat.mul_le_mul hv2 hv2
  have hmm : p1 % d1 ≤ p1 := Nat.mod_le _ _
  refine lv_iload_n hx hb dX12_isPrime_2 rfl (lv_at hl 0 rfl) ?_
  refine lv_iload_n hx hb dX12_isPrime_3 rfl (lv_at hl 0 rfl) ?_
  refine lv_imul hx hb dX12_isPrime_4 ?_
  refine lv_topi (fun x_4 ex_4 => ?_)
  obtain rfl : x_4 = (nI (d1 * d1)) := ex_4.trans (pk_mul d1 d1)
  refine lv_iload_n hx hb dX12_isPrime_5 rfl (lv_at hl 1 rfl) ?_
  refine lv_icmp_gt (tgt := 23) hx hb dX12_isPrime_6 (by decide) (fun c_5 => ?_) (fun c_5 => ?_)
  ·
    have hi_6 : p1 < (d1 * d1) := (nI_ltI (a := p1) (b := (d1 * d1)) (by omega) (by omega)).mp c_5
    refine lv_iconst (v := 1) hx hb dX12_isPrime_23 (by decide) ?_
    refine W.widen (k := 0) (n := 0) (by omega) (by omega) ?_
    exact W.zret (v := 1) (ty := .boolean) hx hb hr (by decide) (fun t ht hWm => ⟨⟨1, (), rfl, ⟨pr1 hv_2 (by omega), trivial⟩, ⟨F, QTm.mk ht hP hD hO hR⟩⟩, hS.F ht⟩) hS.2.2 dX12_isPrime_24
  ·
    have hi_7 : (d1 * d1) ≤ p1 := Nat.not_lt.mp (fun q => c_5 ((nI_ltI (a := p1) (b := (d1 * d1)) (by omega) (by omega)).mpr q))
    refine lv_iload_n hx hb dX12_isPrime_9 rfl (lv_at hl 1 rfl) ?_
    refine lv_iload_n hx hb dX12_isPrime_10 rfl (lv_at hl 0 rfl) ?_
    refine lv_irem hx hb dX12_isPrime_11 (nI_ne0 (by omega) (by omega)) ?_
    refine lv_topi (fun x_8 ex_8 => ?_)
    obtain rfl : x_8 = (nI (p1 % d1)) := ex_8.trans (pk_rem (by omega) (by omega) (by omega))
    refine lv_if_ne (tgt := 17) hx hb dX12_isPrime_12 (by decide) (fun c_9 => ?_) (fun c_9 => ?_)
    ·
      have hi_10 : (p1 % d1) ≠ 0 := fun q => c_9 (by rw [q]; rfl)
      refine lv_iinc (v := (nI (d1 + 1))) (lv' := [(1, .int (nI (d1 + 1))), (0, .int (nI p1))]) hx hb dX12_isPrime_17 hl (k := 0) rfl (nI_1 _) (by decide) rfl (fun ls hl => ?_)
      refine lv_goto (tgt := 2) hx hb dX12_isPrime_20 (by decide) ?_
      refine W.widen (k := 0) (n := 0) (by omega) (by omega) ?_
      exact ih_3 (d1 + 1) F (prs hv_2 (by omega) hp2 c_9) (by show 30 - (d1 + 1) < 30 - d1; have := sq20 (d := d1) (p := p1) (by omega) hp2; omega) hO hR _ _ hP hD hS ls (lv_sub hl [0, 1] rfl)
    ·
      have hi_11 : (p1 % d1) = 0 := (nI_eq (a := (p1 % d1)) (b := 0) (by omega) (by omega)).mp c_9
      refine lv_iconst (v := 0) hx hb dX12_isPrime_15 (by decide) ?_
      refine W.widen (k := 0) (n := 0) (by omega) (by omega) ?_
      exact W.zret (v := 0) (ty := .boolean) hx hb hr (by decide) (fun t ht hWm => ⟨⟨0, (), rfl, ⟨pr0 hv_2 (by omega) hp2 c_9, trivial⟩, ⟨F, QTm.mk ht hP hD hO hR⟩⟩, hS.F ht⟩) hS.2.2 dX12_isPrime_16
theorem root3 : ∀ p, p < 312 → 2 ≤ p → pf 30 2 p = 1 → cnt p < 64 → rtv (nI p) 3 = shF (cnt p) := by decide +kernel
theorem root2 : ∀ p, p < 312 → 2 ≤ p → pf 30 2 p = 1 → cnt p < 8 → rtv (nI p) 2 = shB (cnt p) := by decide +kernel
theorem rk_up {f : Nat → Int32} {n : Nat} {v : Int32} (h : ∀ j, j < n → f j = shF j) (hn : n < 64) (hv : v = shF n) : ∀ j, j < n + 1 → upd f (nI n).toNatClampNeg v j = shF j := by
  intro j hj
  rw [nI_clamp (by omega)]
  by_cases c : j = n
  · rw [c, hv]
    exact if_pos rfl
  · exact (if_neg c).trans (h j (by omega))
theorem rb_up {f : Nat → Int32} {n : Nat} {v : Int32} (h : ∀ j, j < 8 → j < n → f j = shB j) (hn : n < 8) (hv : v = shB n) : ∀ j, j < 8 → j < n + 1 → upd f (nI n).toNatClampNeg v j = shB j := by
  intro j h8 hj
  rw [nI_clamp (by omega)]
  by_cases c : j = n
  · rw [c, hv]
    exact if_pos rfl
  · exact (if_neg c).trans (h j h8 (by omega))
set_option maxHeartbeats 4000000 in
set_option maxRecDepth 100000 in
theorem k_X12_init (l : Launch) (dC : Nat → ClassId) (dI : Nat → Nat → Nat) (cs : Nat → ClassId) (gm : Nat → Nat → Nat) (sz : Nat) (h0 : Nat) (ρ : Nat) : Met l yX12_init (.code yX12_init cX12_init 3 none :: tb) ({ frames := 3, cells := 5, slots := 208, locals := 111 }) (va_Pc [.ref h0] (PTm (dC, dI) cs RAWT gm [h0] (fun _ => .inr (12, [.null, .null, .null, .null, .null, .int 0, .long 0])) sz)) (va_Qv (fun _ : Unit => True) (fun _ T9 => ∃ (L2 : List Nat) (F2 : Nat → va_E) (ty2 : TyM), ∃ x : Nat, ∃ y : Nat, ∃ w : Nat, ∃ u9 : Nat, ∃ bl : Nat, NEWm (dC, dI) cs ty2 gm L2 F2 (va_A (va_pl [h0] (fun _ => .inr (12, [.null, .null, .null, .null, .null, .int 0, .long 0]))) sz) T9.heap ∧ h0 ∈ L2 ∧ ty2 h0 = (12, ρ, [x, y, w, u9, bl])) (va_A (va_pl [h0] (fun _ => .inr (12, [.null, .null, .null, .null, .null, .int 0, .long 0]))) sz)) 5 208 (va_A (va_pl [h0] (fun _ => .inr (12, [.null, .null, .null, .null, .null, .int 0, .long 0]))) sz) := by
  refine Met.ofW (cc := cX12_init) (maxL := 3) (ret := none) (by decide) rfl ?_
  intro p e s m args below meth c s₁ B hml hv
  obtain ⟨rfl, hsz, hP, hK, hD0, hE, hO⟩ := hv
  have hx := B.exec
  have hb := B.bytes
  have hr := B.returns
  have hts : ∀ w ∈ tb, w.before _ s = true := fun w h => atoms_spec (ws := .code yX12_init cX12_init 3 none :: tb) B.pre w (List.mem_cons_of_mem _ h)
  have hown : s.vm.findClass RX12 = some m.cls := findClass_of_methodNamed B.named
  have hin : meth.name = "<init>" := (name_of_methodNamed B.named B.method).1
  have hlocks := B.notSynchronized
  subst hsz
  have hD := hD0.self (sz := s.heap.size)
  generalize hAe : va_A (va_pl [h0] (fun _ => .inr (12, [.null, .null, .null, .null, .null, .int 0, .long 0]))) s.heap.size = A at hD ⊢
  have hA : ∀ q : Nat, s.heap.size ≤ q → A q := fun q h => by rw [← hAe]; exact Or.inr h
  have hS : va_S A s.heap s.heap [] := va_S.rf
  have hl := lv_entry ([.ref h0]) (n := 3) (Nat.le_of_ble_eq_true rfl)
  rw [lg_entry_eq]
  generalize (lg_sl ([.ref h0]) ++ List.replicate (3 - (lg_sl ([.ref h0])).length) Slot.unset).toArray = ls at hl ⊢
  have hl : lv_has ls 3 [(0, .ref h0)] := hl
  obtain ⟨L, ty, F, hN, hL_h0, hT_h0, hF_h0⟩ : ∃ (L : List Nat) (t9 : TyM) (F : Nat → va_E), NEWm (dC, dI) cs t9 gm L F A s.heap ∧ h0 ∈ L ∧ t9 h0 = (99, 0, []) ∧ F h0 = .inr (12, [.null, .null, .null, .null, .null, .int 0, .long 0]) := ⟨[h0], RAWT, fun _ => .inr (12, [.null, .null, .null, .null, .null, .int 0, .long 0]), ⟨hP, hD, hO, fun a _ => wtam_raw rfl⟩, List.mem_singleton.mpr rfl, rfl, rfl⟩
  obtain ⟨hP, hD, hO, hW⟩ := hN
  have hfs : ∀ p ∈ ([] : List (Nat × TyE)), p.1 ∈ L ∧ ty p.1 = p.2 := fun p h => absurd h List.not_mem_nil
  refine lv_aload_n hx hb dX12_init_0 rfl (lv_at hl 0 rfl) ?_
  refine W.objInit hx hb hown (hts _ kt_1112) (hts _ kt_1009) (hts _ kt_1010) rfl (by rw [hml]; exact hl.1) rfl dX12_init_1 (Nat.le_of_ble_eq_true rfl) (Nat.le_of_ble_eq_true rfl) ?_
  refine W.eq (g2 := F0 m 4 ls []) rfl ?_
  refine lv_aload_n hx hb dX12_init_4 rfl (lv_at hl 0 rfl) ?_
  refine lv_bipush (v := 8) hx hb dX12_init_5 (by decide) ?_
  refine va_newa (atype := .int) (ty := .int) (a0 := (8, .inl (fun _ => 0))) (N' := 8) hx hb (hts _ kt_1007) rfl hK hP hD hS hA (fun _ => rfl) (by decide) (by decide) (by show _ * 4 ≤ _; omega) (by show _ + 1 ≤ 5; omega) (by show _ + 8 ≤ 208; omega) dX12_init_7 (fun q_1 cA H hKn hPa hDa hS => ?_)
  obtain rfl := cid_int hK hKn
  obtain ⟨L, ty, F_2, hN9, hold, holdF, hL_q_1, hT_q_1, hF_q_1⟩ := grow1m (e := (99, 0, [])) hPa hDa hO hW (shm.raw rtf_self) (wtam_raw rtf_self)
  obtain ⟨hP, hD, hO, hW⟩ := hN9
  have hT_h0 := (hold _ hL_h0).2.trans hT_h0
  have hF_h0 := (holdF _ hL_h0).1.trans hF_h0
  have hne_h0_q_1 := (holdF _ hL_h0).2
  have hL_h0 := (hold _ hL_h0).1
  have hfs := gr_keep hold hfs
  refine pg_putF (ci := 12) (v := .ref q_1) (ty := .array .int) (C := RX12) (T := TX12) (N := 7) hx hb hts it_12 tyX12 tyX12_ok nmX12 hown hK hP hD hS hL_h0 hF_h0 rfl 0 (by decide) (hts _ kt_783) (fun _ h9 => h9) rfl hin rfl (by decide +kernel) (rfl) (rfl) (Nat.le_of_ble_eq_true rfl) dX12_init_9 (fun H locs hP hD hS => ?_)
  obtain ⟨F_3, he_4, hP, hD, hO⟩ : ∃ G, G = va_up F_2 h0 (.inr (12, [.ref q_1, .null, .null, .null, .null, .int 0, .long 0])) ∧ va_P (dC, dI) vwCl (va_pl L G) H ∧ va_D A (va_pl L G) ∧ OKm cs ty gm L G := ⟨_, rfl, hP, hD, hO.up (shm.raw hT_h0)⟩
  have hF_5 : F_3 h0 = .inr (12, [.ref q_1, .null, .null, .null, .null, .int 0, .long 0]) := by rw [he_4]; exact up_self
  have hF_6 : F_3 q_1 = .inl (cs 16, 8, .inl (fun _ => 0)) := by rw [he_4, up_ne hne_h0_q_1.symm]; exact hF_q_1
  refine lv_aload_n hx hb dX12_init_12 rfl (lv_at hl 0 rfl) ?_
  refine lv_bipush (v := 8) hx hb dX12_init_13 (by decide) ?_
  refine va_newa (atype := .int) (ty := .int) (a0 := (8, .inl (fun _ => 0))) (N' := 8) hx hb (hts _ kt_1007) rfl hK hP hD hS hA (fun _ => rfl) (by decide) (by decide) (by show _ * 4 ≤ _; omega) (by show _ + 1 ≤ 5; omega) (by show _ + 8 ≤ 208; omega) dX12_init_15 (fun q_7 cA H hKn hPa hDa hS => ?_)
  obtain rfl := cid_int hK hKn
  obtain ⟨L, ty, F_8, hN9, hold, holdF, hL_q_7, hT_q_7, hF_q_7⟩ := grow1m (e := (16, ρ, [8])) hPa hDa hO hW (shm.ints rtf_self ⟨_, rfl⟩) (wtam_ints rtf_self ⟨by omega, by omega⟩)
  obtain ⟨hP, hD, hO, hW⟩ := hN9
  have hT_h0 := (hold _ hL_h0).2.trans hT_h0
  have hF_h0 := (holdF _ hL_h0).1.trans hF_5
  have hne_h0_q_7 := (holdF _ hL_h0).2
  have hL_h0 := (hold _ hL_h0).1
  have hT_q_1 := (hold _ hL_q_1).2.trans hT_q_1
  have hF_q_1 := (holdF _ hL_q_1).1.trans hF_6
  have hne_q_1_q_7 := (holdF _ hL_q_1).2
  have hL_q_1 := (hold _ hL_q_1).1
  have hfs := gr_cons hold hfs hL_q_7 hT_q_7
  refine pg_putF (ci := 12) (v := .ref q_7) (ty := .array .int) (C := RX12) (T := TX12) (N := 7) hx hb hts it_12 tyX12 tyX12_ok nmX12 hown hK hP hD hS hL_h0 hF_h0 rfl 1 (by decide) (hts _ kt_768) (fun _ h9 => h9) rfl hin rfl (by decide +kernel) (rfl) (rfl) (Nat.le_of_ble_eq_true rfl) dX12_init_17 (fun H locs hP hD hS => ?_)
  obtain ⟨F_9, he_10, hP, hD, hO⟩ : ∃ G, G = va_up F_8 h0 (.inr (12, [.ref q_1, .ref q_7, .null, .null, .null, .int 0, .long 0])) ∧ va_P (dC, dI) vwCl (va_pl L G) H ∧ va_D A (va_pl L G) ∧ OKm cs ty gm L G := ⟨_, rfl, hP, hD, hO.up (shm.raw hT_h0)⟩
  have hF_11 : F_9 h0 = .inr (12, [.ref q_1, .ref q_7, .null, .null, .null, .int 0, .long 0]) := by rw [he_10]; exact up_self
  have hF_12 : F_9 q_1 = .inl (cs 16, 8, .inl (fun _ => 0)) := by rw [he_10, up_ne hne_h0_q_1.symm]; exact hF_q_1
  refine lv_aload_n hx hb dX12_init_20 rfl (lv_at hl 0 rfl) ?_
  refine lv_bipush (v := 64) hx hb dX12_init_21 (by decide) ?_
  refine va_newa (atype := .int) (ty := .int) (a0 := (64, .inl (fun _ => 0))) (N' := 64) hx hb (hts _ kt_1007) rfl hK hP hD hS hA (fun _ => rfl) (by decide) (by decide) (by show _ * 4 ≤ _; omega) (by show _ + 1 ≤ 5; omega) (by show _ + 64 ≤ 208; omega) dX12_init_23 (fun q_13 cA H hKn hPa hDa hS => ?_)
  obtain rfl := cid_int hK hKn
  obtain ⟨L, ty, F_14, hN9, hold, holdF, hL_q_13, hT_q_13, hF_q_13⟩ := grow1m (e := (16, ρ, [64])) hPa hDa hO hW (shm.ints rtf_self ⟨_, rfl⟩) (wtam_ints rtf_self ⟨by omega, by omega⟩)
  obtain ⟨hP, hD, hO, hW⟩ := hN9
  have hT_h0 := (hold _ hL_h0).2.trans hT_h0
  have hF_h0 := (holdF _ hL_h0).1.trans hF_11
  have hne_h0_q_13 := (holdF _ hL_h0).2
  have hL_h0 := (hold _ hL_h0).1
  have hT_q_1 := (hold _ hL_q_1).2.trans hT_q_1
  have hF_q_1 := (holdF _ hL_q_1).1.trans hF_12
  have hne_q_1_q_13 := (holdF _ hL_q_1).2
  have hL_q_1 := (hold _ hL_q_1).1
  have hfs := gr_cons hold hfs hL_q_13 hT_q_13
  refine pg_putF (ci := 12) (v := .ref q_13) (ty := .array .int) (C := RX12) (T := TX12) (N := 7) hx hb hts it_12 tyX12 tyX12_ok nmX12 hown hK hP hD hS hL_h0 hF_h0 rfl 2 (by decide) (hts _ kt_774) (fun _ h9 => h9) rfl hin rfl (by decide +kernel) (rfl) (rfl) (Nat.le_of_ble_eq_true rfl) dX12_init_25 (fun H locs hP hD hS => ?_)
  obtain ⟨F_15, he_16, hP, hD, hO⟩ : ∃ G, G = va_up F_14 h0 (.inr (12, [.ref q_1, .ref q_7, .ref q_13, .null, .null, .int 0, .long 0])) ∧ va_P (dC, dI) vwCl (va_pl L G) H ∧ va_D A (va_pl L G) ∧ OKm cs ty gm L G := ⟨_, rfl, hP, hD, hO.up (shm.raw hT_h0)⟩
  have hF_17 : F_15 h0 = .inr (12, [.ref q_1, .ref q_7, .ref q_13, .null, .null, .int 0, .long 0]) := by rw [he_16]; exact up_self
  have hF_18 : F_15 q_1 = .inl (cs 16, 8, .inl (fun _ => 0)) := by rw [he_16, up_ne hne_h0_q_1.symm]; exact hF_q_1
  refine lv_aload_n hx hb dX12_init_28 rfl (lv_at hl 0 rfl) ?_
  refine lv_bipush (v := 64) hx hb dX12_init_29 (by decide) ?_
  refine va_newa (atype := .int) (ty := .int) (a0 := (64, .inl (fun _ => 0))) (N' := 64) hx hb (hts _ kt_1007) rfl hK hP hD hS hA (fun _ => rfl) (by decide) (by decide) (by show _ * 4 ≤ _; omega) (by show _ + 1 ≤ 5; omega) (by show _ + 64 ≤ 208; omega) dX12_init_31 (fun q_19 cA H hKn hPa hDa hS => ?_)
  obtain rfl := cid_int hK hKn
  obtain ⟨L, ty, F_20, hN9, hold, holdF, hL_q_19, hT_q_19, hF_q_19⟩ := grow1m (e := (99, 0, [])) hPa hDa hO hW (shm.raw rtf_self) (wtam_raw rtf_self)
  obtain ⟨hP, hD, hO, hW⟩ := hN9
  have hT_h0 := (hold _ hL_h0).2.trans hT_h0
  have hF_h0 := (holdF _ hL_h0).1.trans hF_17
  have hne_h0_q_19 := (holdF _ hL_h0).2
  have hL_h0 := (hold _ hL_h0).1
  have hT_q_1 := (hold _ hL_q_1).2.trans hT_q_1
  have hF_q_1 := (holdF _ hL_q_1).1.trans hF_18
  have hne_q_1_q_19 := (holdF _ hL_q_1).2
  have hL_q_1 := (hold _ hL_q_1).1
  have hfs := gr_keep hold hfs
  refine pg_putF (ci := 12) (v := .ref q_19) (ty := .array .int) (C := RX12) (T := TX12) (N := 7) hx hb hts it_12 tyX12 tyX12_ok nmX12 hown hK hP hD hS hL_h0 hF_h0 rfl 3 (by decide) (hts _ kt_773) (fun _ h9 => h9) rfl hin rfl (by decide +kernel) (rfl) (rfl) (Nat.le_of_ble_eq_true rfl) dX12_init_33 (fun H locs hP hD hS => ?_)
  obtain ⟨F_21, he_22, hP, hD, hO⟩ : ∃ G, G = va_up F_20 h0 (.inr (12, [.ref q_1, .ref q_7, .ref q_13, .ref q_19, .null, .int 0, .long 0])) ∧ va_P (dC, dI) vwCl (va_pl L G) H ∧ va_D A (va_pl L G) ∧ OKm cs ty gm L G := ⟨_, rfl, hP, hD, hO.up (shm.raw hT_h0)⟩
  have hF_23 : F_21 h0 = .inr (12, [.ref q_1, .ref q_7, .ref q_13, .ref q_19, .null, .int 0, .long 0]) := by rw [he_22]; exact up_self
  have hF_24 : F_21 q_1 = .inl (cs 16, 8, .inl (fun _ => 0)) := by rw [he_22, up_ne hne_h0_q_1.symm]; exact hF_q_1
  have hF_25 : F_21 q_19 = .inl (cs 16, 64, .inl (fun _ => 0)) := by rw [he_22, up_ne hne_h0_q_19.symm]; exact hF_q_19
  refine lv_aload_n hx hb dX12_init_36 rfl (lv_at hl 0 rfl) ?_
  refine lv_bipush (v := 64) hx hb dX12_init_37 (by decide) ?_
  refine va_newa (atype := .byte) (ty := .byte) (a0 := (64, .inl (fun _ => 0))) (N' := 64) hx hb (hts _ kt_1032) rfl hK hP hD hS hA (fun _ => rfl) (by decide) (by decide) (by show _ * 1 ≤ _; omega) (by show _ + 1 ≤ 5; omega) (by show _ + 64 ≤ 208; omega) dX12_init_39 (fun q_26 cA H hKn hPa hDa hS => ?_)
  obtain rfl := cid_byte hK hKn
  obtain ⟨L, ty, F_27, hN9, hold, holdF, hL_q_26, hT_q_26, hF_q_26⟩ := grow1m (e := (17, ρ, [64])) hPa hDa hO hW (shm.octs rtf_self ⟨_, rfl, fun _ => rfl⟩) (wtam_octs rtf_self ⟨by omega, by omega⟩)
  obtain ⟨hP, hD, hO, hW⟩ := hN9
  have hT_h0 := (hold _ hL_h0).2.trans hT_h0
  have hF_h0 := (holdF _ hL_h0).1.trans hF_23
  have hne_h0_q_26 := (holdF _ hL_h0).2
  have hL_h0 := (hold _ hL_h0).1
  have hT_q_1 := (hold _ hL_q_1).2.trans hT_q_1
  have hF_q_1 := (holdF _ hL_q_1).1.trans hF_24
  have hne_q_1_q_26 := (holdF _ hL_q_1).2
  have hL_q_1 := (hold _ hL_q_1).1
  have hT_q_19 := (hold _ hL_q_19).2.trans hT_q_19
  have hF_q_19 := (holdF _ hL_q_19).1.trans hF_25
  have hne_q_19_q_26 := (holdF _ hL_q_19).2
  have hL_q_19 := (hold _ hL_q_19).1
  have hfs := gr_cons hold hfs hL_q_26 hT_q_26
  refine pg_putF (ci := 12) (v := .ref q_26) (ty := .array .byte) (C := RX12) (T := TX12) (N := 7) hx hb hts it_12 tyX12 tyX12_ok nmX12 hown hK hP hD hS hL_h0 hF_h0 rfl 4 (by decide) (hts _ kt_775) (fun _ h9 => h9) rfl hin rfl (by decide +kernel) (rfl) (rfl) (Nat.le_of_ble_eq_true rfl) dX12_init_41 (fun H locs hP hD hS => ?_)
  obtain ⟨F_28, he_29, hP, hD, hO⟩ : ∃ G, G = va_up F_27 h0 (.inr (12, [.ref q_1, .ref q_7, .ref q_13, .ref q_19, .ref q_26, .int 0, .long 0])) ∧ va_P (dC, dI) vwCl (va_pl L G) H ∧ va_D A (va_pl L G) ∧ OKm cs ty gm L G := ⟨_, rfl, hP, hD, hO.up (shm.raw hT_h0)⟩
  have hF_30 : F_28 h0 = .inr (12, [.ref q_1, .ref q_7, .ref q_13, .ref q_19, .ref q_26, .int 0, .long 0]) := by rw [he_29]; exact up_self
  have hF_31 : F_28 q_1 = .inl (cs 16, 8, .inl (fun _ => 0)) := by rw [he_29, up_ne hne_h0_q_1.symm]; exact hF_q_1
  have hF_32 : F_28 q_19 = .inl (cs 16, 64, .inl (fun _ => 0)) := by rw [he_29, up_ne hne_h0_q_19.symm]; exact hF_q_19
  refine lv_iconst (v := 0) hx hb dX12_init_44 (by decide) ?_
  refine lv_istore_n (lv' := [(1, .int 0), (0, .ref h0)]) hx hb dX12_init_45 rfl hl (by decide) rfl (fun ls hl => ?_)
  refine lv_iconst (v := 2) hx hb dX12_init_46 (by decide) ?_
  refine lv_istore_n (lv' := [(2, .int 2), (1, .int 0), (0, .ref h0)]) hx hb dX12_init_47 rfl hl (by decide) rfl (fun ls hl => ?_)
  refine W.widen (k := 5) (n := 208) (by omega) (by omega) ?_
  refine gr_loopm (σ := Nat × Nat × (Nat → Int32) × (Nat → Int32)) A (dC, dI) cs gm 48 3 (fun (n1, p1, fa, fk) => [(2, .int (nI p1)), (1, .int (nI n1)), (0, .ref h0)]) (fun (n1, p1, fa, fk) => []) (fun (n1, p1, fa, fk) => 5) (fun (n1, p1, fa, fk) => 208) (fun (n1, p1, fa, fk) ty L FF => (2 ≤ p1 ∧ p1 ≤ 312 ∧ n1 = cnt p1 ∧ (∀ j, j < n1 → fk j = shF j) ∧ (∀ j, j < 8 → j < n1 → fa j = shB j)) ∧ h0 ∈ L ∧ ty h0 = (99, 0, []) ∧ FF h0 = .inr (12, [.ref q_1, .ref q_7, .ref q_13, .ref q_19, .ref q_26, .int 0, .long 0]) ∧ q_1 ∈ L ∧ ty q_1 = (99, 0, []) ∧ FF q_1 = .inl (cs 16, 8, .inl fa) ∧ q_19 ∈ L ∧ ty q_19 = (99, 0, []) ∧ FF q_19 = .inl (cs 16, 64, .inl fk) ∧ (∀ p ∈ ([(q_26, (17, ρ, [64])), (q_13, (16, ρ, [64])), (q_7, (16, ρ, [8]))] : List (Nat × TyE)), p.1 ∈ L ∧ ty p.1 = p.2)) (fun (n1, p1, fa, fk) => 312 - p1) ?_ (0, 2, (fun _ => 0), (fun _ => 0)) ty L F_28 ⟨⟨by omega, by omega, by decide +kernel, fun j hj => absurd hj (Nat.not_lt_zero _), fun j _ hj => absurd hj (Nat.not_lt_zero _)⟩, hL_h0, hT_h0, hF_30, hL_q_1, hT_q_1, hF_31, hL_q_19, hT_q_19, hF_32, hfs⟩ _ _ ⟨hP, hD, hO, hW⟩ hS ls (lv_sub hl [0, 1, 2] rfl)
  rintro ⟨n1, p1, fa, fk⟩ ty L F_33 hv_34 ih_35 H locs hN9 hS ls hl
  have hl : lv_has ls 3 [(2, .int (nI p1)), (1, .int (nI n1)), (0, .ref h0)] := hl
  obtain ⟨hu, hL_h0, hT_h0, hF_h0, hL_q_1, hT_q_1, hF_q_1, hL_q_19, hT_q_19, hF_q_19, hfs⟩ := hv_34
  have hu : 2 ≤ p1 ∧ p1 ≤ 312 ∧ n1 = cnt p1 ∧ (∀ j, j < n1 → fk j = shF j) ∧ (∀ j, j < 8 → j < n1 → fa j = shB j) := hu
  obtain ⟨hP, hD, hO, hW⟩ := hN9
  refine W.eq (g2 := F0 m 48 ls []) rfl ?_
  refine W.widen (k := 5) (n := 208) (Nat.le_refl _) (Nat.le_refl _) ?_
  obtain ⟨hv1, hv2, hv3, hv4, hv5⟩ := id hu
  have hu3 : 2 ≤ p1 ∧ p1 ≤ 312 ∧ n1 = cnt p1 := ⟨hv1, hv2, hv3⟩
  have hn9 : n1 < 2 ^ 31 := by rw [hv3]; exact Nat.lt_of_le_of_lt (cnt_le p1) (by omega)
  refine lv_iload_n hx hb dX12_init_48 rfl (lv_at hl 1 rfl) ?_
  refine lv_bipush (v := 64) hx hb dX12_init_49 (by decide) ?_
  refine lv_icmp_ge (tgt := 101) hx hb dX12_init_51 (by decide) (fun c_36 => ?_) (fun c_36 => ?_)
  ·
    have hi_37 : 64 ≤ n1 := leN (N := 64) c_36
    have hr9 : (ty q_1).1 = 99 := by rw [hT_q_1]
    have hN9 : NEWm (dC, dI) cs (rtf ty q_1 (28, ρ, [8])) gm L F_33 A H := NEWm.into ⟨hP, hD, hO, hW⟩ hr9 (by rw [hF_q_1]; exact shm.kst rtf_self ⟨_, rfl, fun j hj => hv5 j hj (by omega)⟩) (wtam_kst rtf_self trivial)
    obtain ⟨ty, hty9, hN9, hfs, hT_h0, hT_q_19⟩ : ∃ t9 : TyM, t9 = rtf ty q_1 (28, ρ, [8]) ∧ NEWm (dC, dI) cs t9 gm L F_33 A H ∧ (∀ p ∈ ((q_1, (28, ρ, [8])) :: [(q_26, (17, ρ, [64])), (q_13, (16, ρ, [64])), (q_7, (16, ρ, [8]))] : List (Nat × TyE)), p.1 ∈ L ∧ t9 p.1 = p.2) ∧ t9 h0 = (99, 0, []) ∧ t9 q_19 = (99, 0, []) := ⟨_, rfl, hN9, into_fs hr9 hfs (by simp) hL_q_1, (rtf_ne hne_h0_q_1).trans hT_h0, (rtf_ne hne_q_1_q_19.symm).trans hT_q_19⟩
    obtain ⟨hP, hD, hO, hW⟩ := hN9
    have hr9 : (ty q_19).1 = 99 := by rw [hT_q_19]
    have hN9 : NEWm (dC, dI) cs (rtf ty q_19 (28, ρ, [64])) gm L F_33 A H := NEWm.into ⟨hP, hD, hO, hW⟩ hr9 (by rw [hF_q_19]; exact shm.kst rtf_self ⟨_, rfl, fun j hj => hv4 j (by omega)⟩) (wtam_kst rtf_self trivial)
    obtain ⟨ty, hty9, hN9, hfs, hT_h0⟩ : ∃ t9 : TyM, t9 = rtf ty q_19 (28, ρ, [64]) ∧ NEWm (dC, dI) cs t9 gm L F_33 A H ∧ (∀ p ∈ ((q_19, (28, ρ, [64])) :: [(q_1, (28, ρ, [8])), (q_26, (17, ρ, [64])), (q_13, (16, ρ, [64])), (q_7, (16, ρ, [8]))] : List (Nat × TyE)), p.1 ∈ L ∧ t9 p.1 = p.2) ∧ t9 h0 = (99, 0, []) := ⟨_, rfl, hN9, into_fs hr9 hfs (by simp) hL_q_19, (rtf_ne hne_h0_q_19).trans hT_h0⟩
    obtain ⟨hP, hD, hO, hW⟩ := hN9
    have hr9 : (ty h0).1 = 99 := by rw [hT_h0]
    have hN9 : NEWm (dC, dI) cs (rtf ty h0 (12, ρ, [q_1, q_7, q_13, q_19, q_26])) gm L F_33 A H := NEWm.into ⟨hP, hD, hO, hW⟩ hr9 (by rw [hF_h0]; exact shm.hash rtf_self ⟨0, 0, rfl, (by first | omega | assumption | exact Or.inl rfl | exact Or.inr rfl)⟩) (wtam_hash rtf_self ⟨(hfs _ (List.mem_cons_of_mem _ (List.mem_cons_self))).1, (hfs _ (List.mem_cons_of_mem _ (List.mem_cons_of_mem _ (List.mem_cons_of_mem _ (List.mem_cons_of_mem _ (List.mem_cons_self)))))).1, (hfs _ (List.mem_cons_of_mem _ (List.mem_cons_of_mem _ (List.mem_cons_of_mem _ (List.mem_cons_self))))).1, (hfs _ (List.mem_cons_self)).1, (hfs _ (List.mem_cons_of_mem _ (List.mem_cons_of_mem _ (List.mem_cons_self)))).1, rtf_old hr9 (hfs _ (List.mem_cons_of_mem _ (List.mem_cons_self))).2 (by decide), rtf_old hr9 (hfs _ (List.mem_cons_of_mem _ (List.mem_cons_of_mem _ (List.mem_cons_of_mem _ (List.mem_cons_of_mem _ (List.mem_cons_self)))))).2 (by decide), rtf_old hr9 (hfs _ (List.mem_cons_of_mem _ (List.mem_cons_of_mem _ (List.mem_cons_of_mem _ (List.mem_cons_self))))).2 (by decide), rtf_old hr9 (hfs _ (List.mem_cons_self)).2 (by decide), rtf_old hr9 (hfs _ (List.mem_cons_of_mem _ (List.mem_cons_of_mem _ (List.mem_cons_self)))).2 (by decide)⟩)
    refine W.widen (k := 5) (n := 208) (by omega) (by omega) ?_
    exact W.vret hx hb hr (fun t ht hWm => ⟨⟨(), rfl, trivial, ⟨L, F_33, rtf ty h0 (12, ρ, [q_1, q_7, q_13, q_19, q_26]), q_1, q_7, q_13, q_19, q_26, (by rw [ht]; exact hN9), hL_h0, rtf_self⟩⟩, hS.F ht⟩) hS.2.2 dX12_init_101
  ·
    have hi_38 : n1 < 64 := ltN (N := 64) c_36
    refine lv_iload_n hx hb dX12_init_54 rfl (lv_at hl 0 rfl) ?_
    have hR : FR ty [] F_33 F_33 := FR.refl
    have hFc := pg_free hD hS hA
    refine va_calli (va_runS (As := [.int (nI p1)]) (rest := []) ⟨hx, hb, hml, hown, hts⟩ (s_X12_isPrime l dC dI cs ty gm L H.size F_33 p1 hW (by first | omega | assumption | exact Or.inl rfl) (by first | omega | assumption | exact Or.inl rfl)) ⟨callB_of 1 hts (gi kt_1113) rfl rfl rfl (hts _ kt_779) (hts _ kt_1114) (by decide +kernel) ⟨Nat.le_of_ble_eq_true rfl, Nat.le_of_ble_eq_true rfl⟩, (hts _ kt_1115)⟩ ⟨fun a U g mk q => ⟨q.1, PTm.calling q.2⟩, fun U hU hWm => ⟨rfl, PTm.mk hU hWm hP hK hD hE hO⟩⟩ rfl rfl hl.1 rfl (lv_room (Nat.le_of_ble_eq_true rfl)) dX12_init_55 ⟨by show _ + 0 ≤ 5; omega, by show _ + 0 ≤ 208; omega⟩) hS (fun q _ h => hFc q h) hFc (fun r_39 u t H1 locs ht hvm hw hB hz1 hk1 hS => ?_)
    obtain ⟨F_40, hB1⟩ := hB
    obtain rfl : F_33 = F_40 := (funext (fun a => hB1.2.2.2 a List.not_mem_nil)).symm
    obtain ⟨hP, hD, hO, hR⟩ := QTm.back hB1 ht hFc hR (fun q h => absurd h List.not_mem_nil)
    generalize H1 = H at hP hS ⊢
    have hw : r_39 = nI (pf 30 2 p1) ∧ True := hw
    have hw_41 := hw
    refine lv_if_ne (tgt := 64) hx hb dX12_init_58 (by decide) (fun c_42 => ?_) (fun c_42 => ?_)
    ·
      have hpf : pf 30 2 p1 = 1 := (pf01 30 2 p1).resolve_left (fun q => c_42 (by rw [hw_41.1, q]; rfl))
      refine lv_aload_n hx hb dX12_init_64 rfl (lv_at hl 2 rfl) ?_
      refine pg_get (ci := 12) (v := .ref q_19) (C := RX12) (T := TX12) (N := 7) hx hb hts it_12 hown hK hP hL_h0 hF_h0 rfl 3 (by decide) (hts _ kt_773) (fun _ h9 => h9) rfl dX12_init_65 ?_
      refine lv_iload_n hx hb dX12_init_68 rfl (lv_at hl 1 rfl) ?_
      refine lv_iload_n hx hb dX12_init_69 rfl (lv_at hl 0 rfl) ?_
      refine lv_iconst (v := 3) hx hb dX12_init_70 (by decide) ?_
      have hR : FR ty [] F_33 F_33 := FR.refl
      have hFc := pg_free hD hS hA
      refine va_calli (va_runS (As := [.int (nI p1), .int 3]) (rest := [.int (nI n1), .ref q_19]) ⟨hx, hb, hml, hown, hts⟩ (s_X12_rootOf l dC dI cs ty gm L H.size F_33 (nI p1) 3 hW ) ⟨callB_of 2 hts (gi kt_1116) rfl rfl rfl (hts _ kt_779) (hts _ kt_1117) (by decide +kernel) ⟨Nat.le_of_ble_eq_true rfl, Nat.le_of_ble_eq_true rfl⟩, (hts _ kt_1118)⟩ ⟨fun a U g mk q => ⟨q.1, PTm.calling q.2⟩, fun U hU hWm => ⟨rfl, PTm.mk hU hWm hP hK hD hE hO⟩⟩ rfl rfl hl.1 rfl (lv_room (Nat.le_of_ble_eq_true rfl)) dX12_init_71 ⟨by show _ + 0 ≤ 5; omega, by show _ + 0 ≤ 208; omega⟩) hS (fun q _ h => hFc q h) hFc (fun r_43 u t H1 locs ht hvm hw hB hz1 hk1 hS => ?_)
      obtain ⟨F_44, hB1⟩ := hB
      obtain rfl : F_33 = F_44 := (funext (fun a => hB1.2.2.2 a List.not_mem_nil)).symm
      obtain ⟨hP, hD, hO, hR⟩ := QTm.back hB1 ht hFc hR (fun q h => absurd h List.not_mem_nil)
      generalize H1 = H at hP hS ⊢
      have hw : r_43 = rtv (nI p1) 3 := hw
      subst hw
      refine pg_iast hx hb hK hP hD hS hL_q_19 0 hF_q_19 rfl (vp_in_nI (by omega) (by omega)) dX12_init_74 (fun H locs hP hD hS => ?_)
      obtain ⟨F_45, he_46, hP, hD, hO⟩ : ∃ G, G = va_up F_33 q_19 (.inl (cs 16, 64, .inl (upd fk ((nI n1)).toNatClampNeg (rtv (nI p1) 3)))) ∧ va_P (dC, dI) vwCl (va_pl L G) H ∧ va_D A (va_pl L G) ∧ OKm cs ty gm L G := ⟨_, rfl, hP, hD, hO.up (shm.raw hT_q_19)⟩
      have hF_47 : F_45 q_19 = .inl (cs 16, 64, .inl (upd fk ((nI n1)).toNatClampNeg (rtv (nI p1) 3))) := by rw [he_46]; exact up_self
      have hF_48 : F_45 h0 = .inr (12, [.ref q_1, .ref q_7, .ref q_13, .ref q_19, .ref q_26, .int 0, .long 0]) := by rw [he_46, up_ne hne_h0_q_19]; exact hF_h0
      have hF_49 : F_45 q_1 = .inl (cs 16, 8, .inl fa) := by rw [he_46, up_ne hne_q_1_q_19]; exact hF_q_1
      refine lv_iload_n hx hb dX12_init_75 rfl (lv_at hl 1 rfl) ?_
      refine lv_bipush (v := 8) hx hb dX12_init_76 (by decide) ?_
      refine lv_icmp_ge (tgt := 92) hx hb dX12_init_78 (by decide) (fun c_50 => ?_) (fun c_50 => ?_)
      ·
        have hi_51 : 8 ≤ n1 := leN (N := 8) c_50
        refine lv_iinc (v := (nI (n1 + 1))) (lv' := [(1, .int (nI (n1 + 1))), (2, .int (nI p1)), (0, .ref h0)]) hx hb dX12_init_92 hl (k := 1) rfl (nI_1 _) (by decide) rfl (fun ls hl => ?_)
        refine lv_iinc (v := (nI (p1 + 1))) (lv' := [(2, .int (nI (p1 + 1))), (1, .int (nI (n1 + 1))), (0, .ref h0)]) hx hb dX12_init_95 hl (k := 1) rfl (nI_1 _) (by decide) rfl (fun ls hl => ?_)
        refine lv_goto (tgt := 48) hx hb dX12_init_98 (by decide) ?_
        have hcn := cn1 hu3 (by omega) hw_41.1 c_42
        refine W.widen (k := 5) (n := 208) (by omega) (by omega) ?_
        exact ih_35 ((n1 + 1), (p1 + 1), fa, (upd fk ((nI n1)).toNatClampNeg (rtv (nI p1) 3))) ty L F_45 ⟨⟨hcn.1, hcn.2.1, hcn.2.2, rk_up hv4 (by omega) (by rw [hv3]; exact root3 p1 (cnx hu3 (by omega)) hv1 hpf (by omega)), fun j h8 hj => hv5 j h8 (by omega)⟩, hL_h0, hT_h0, hF_48, hL_q_1, hT_q_1, hF_49, hL_q_19, hT_q_19, hF_47, hfs⟩ (by show 312 - (p1 + 1) < 312 - p1; have := cnx hu3 (by omega); omega) _ _ ⟨hP, hD, hO, hW⟩ hS ls (lv_sub hl [0, 1, 2] rfl)
      ·
        have hi_52 : n1 < 8 := ltN (N := 8) c_50
        refine lv_aload_n hx hb dX12_init_81 rfl (lv_at hl 2 rfl) ?_
        refine pg_get (ci := 12) (v := .ref q_1) (C := RX12) (T := TX12) (N := 7) hx hb hts it_12 hown hK hP hL_h0 hF_48 rfl 0 (by decide) (hts _ kt_783) (fun _ h9 => h9) rfl dX12_init_82 ?_
        refine lv_iload_n hx hb dX12_init_85 rfl (lv_at hl 1 rfl) ?_
        refine lv_iload_n hx hb dX12_init_86 rfl (lv_at hl 0 rfl) ?_
        refine lv_iconst (v := 2) hx hb dX12_init_87 (by decide) ?_
        have hR : FR ty [] F_45 F_45 := FR.refl
        have hFc := pg_free hD hS hA
        refine va_calli (va_runS (As := [.int (nI p1), .int 2]) (rest := [.int (nI n1), .ref q_1]) ⟨hx, hb, hml, hown, hts⟩ (s_X12_rootOf l dC dI cs ty gm L H.size F_45 (nI p1) 2 hW ) ⟨callB_of 2 hts (gi kt_1116) rfl rfl rfl (hts _ kt_779) (hts _ kt_1117) (by decide +kernel) ⟨Nat.le_of_ble_eq_true rfl, Nat.le_of_ble_eq_true rfl⟩, (hts _ kt_1118)⟩ ⟨fun a U g mk q => ⟨q.1, PTm.calling q.2⟩, fun U hU hWm => ⟨rfl, PTm.mk hU hWm hP hK hD hE hO⟩⟩ rfl rfl hl.1 rfl (lv_room (Nat.le_of_ble_eq_true rfl)) dX12_init_88 ⟨by show _ + 0 ≤ 5; omega, by show _ + 0 ≤ 208; omega⟩) hS (fun q _ h => hFc q h) hFc (fun r_53 u t H1 locs ht hvm hw hB hz1 hk1 hS => ?_)
        obtain ⟨F_54, hB1⟩ := hB
        obtain rfl : F_45 = F_54 := (funext (fun a => hB1.2.2.2 a List.not_mem_nil)).symm
        obtain ⟨hP, hD, hO, hR⟩ := QTm.back hB1 ht hFc hR (fun q h => absurd h List.not_mem_nil)
        generalize H1 = H at hP hS ⊢
        have hw : r_53 = rtv (nI p1) 2 := hw
        subst hw
        refine pg_iast hx hb hK hP hD hS hL_q_1 0 hF_49 rfl (vp_in_nI (by omega) (by omega)) dX12_init_91 (fun H locs hP hD hS => ?_)
        obtain ⟨F_55, he_56, hP, hD, hO⟩ : ∃ G, G = va_up F_45 q_1 (.inl (cs 16, 8, .inl (upd fa ((nI n1)).toNatClampNeg (rtv (nI p1) 2)))) ∧ va_P (dC, dI) vwCl (va_pl L G) H ∧ va_D A (va_pl L G) ∧ OKm cs ty gm L G := ⟨_, rfl, hP, hD, hO.up (shm.raw hT_q_1)⟩
        have hF_57 : F_55 q_1 = .inl (cs 16, 8, .inl (upd fa ((nI n1)).toNatClampNeg (rtv (nI p1) 2))) := by rw [he_56]; exact up_self
        have hF_58 : F_55 q_19 = .inl (cs 16, 64, .inl (upd fk ((nI n1)).toNatClampNeg (rtv (nI p1) 3))) := by rw [he_56, up_ne hne_q_1_q_19.symm]; exact hF_47
        have hF_59 : F_55 h0 = .inr (12, [.ref q_1, .ref q_7, .ref q_13, .ref q_19, .ref q_26, .int 0, .long 0]) := by rw [he_56, up_ne hne_h0_q_1]; exact hF_48
        refine lv_iinc (v := (nI (n1 + 1))) (lv' := [(1, .int (nI (n1 + 1))), (2, .int (nI p1)), (0, .ref h0)]) hx hb dX12_init_92 hl (k := 1) rfl (nI_1 _) (by decide) rfl (fun ls hl => ?_)
        refine lv_iinc (v := (nI (p1 + 1))) (lv' := [(2, .int (nI (p1 + 1))), (1, .int (nI (n1 + 1))), (0, .ref h0)]) hx hb dX12_init_95 hl (k := 1) rfl (nI_1 _) (by decide) rfl (fun ls hl => ?_)
        refine lv_goto (tgt := 48) hx hb dX12_init_98 (by decide) ?_
        have hcn := cn1 hu3 (by omega) hw_41.1 c_42
        refine W.widen (k := 5) (n := 208) (by omega) (by omega) ?_
        exact ih_35 ((n1 + 1), (p1 + 1), (upd fa ((nI n1)).toNatClampNeg (rtv (nI p1) 2)), (upd fk ((nI n1)).toNatClampNeg (rtv (nI p1) 3))) ty L F_55 ⟨⟨hcn.1, hcn.2.1, hcn.2.2, rk_up hv4 (by omega) (by rw [hv3]; exact root3 p1 (cnx hu3 (by omega)) hv1 hpf (by omega)), rb_up hv5 (by omega) (by rw [hv3]; exact root2 p1 (cnx hu3 (by omega)) hv1 hpf (by omega))⟩, hL_h0, hT_h0, hF_59, hL_q_1, hT_q_1, hF_57, hL_q_19, hT_q_19, hF_58, hfs⟩ (by show 312 - (p1 + 1) < 312 - p1; have := cnx hu3 (by omega); omega) _ _ ⟨hP, hD, hO, hW⟩ hS ls (lv_sub hl [0, 1, 2] rfl)
    ·
      refine lv_goto (tgt := 95) hx hb dX12_init_61 (by decide) ?_
      refine lv_iinc (v := (nI (p1 + 1))) (lv' := [(2, .int (nI (p1 + 1))), (1, .int (nI n1)), (0, .ref h0)]) hx hb dX12_init_95 hl (k := 0) rfl (nI_1 _) (by decide) rfl (fun ls hl => ?_)
      refine lv_goto (tgt := 48) hx hb dX12_init_98 (by decide) ?_
      have hcn := cn0 hu3 (by omega) hw_41.1 c_42
      refine W.widen (k := 5) (n := 208) (by omega) (by omega) ?_
      exact ih_35 (n1, (p1 + 1), fa, fk) ty L F_33 ⟨⟨hcn.1, hcn.2.1, hcn.2.2, hv4, hv5⟩, hL_h0, hT_h0, hF_h0, hL_q_1, hT_q_1, hF_q_1, hL_q_19, hT_q_19, hF_q_19, hfs⟩ (by show 312 - (p1 + 1) < 312 - p1; have := cnx hu3 (by omega); omega) _ _ ⟨hP, hD, hO, hW⟩ hS ls (lv_sub hl [0, 1, 2] rfl)
