theorem dX11_init_0 : decode cX11_init 0 = .ok (.aload_n 0, 1) := by decide +kernel
theorem dX11_init_1 : decode cX11_init 1 = .ok (.invokespecial 1, 3) := by decide +kernel
theorem dX11_init_4 : decode cX11_init 4 = .ok (.aload_n 0, 1) := by decide +kernel
theorem dX11_init_5 : decode cX11_init 5 = .ok (.new 7, 3) := by decide +kernel
theorem dX11_init_8 : decode cX11_init 8 = .ok (.dup, 1) := by decide +kernel
theorem dX11_init_9 : decode cX11_init 9 = .ok (.sipush 3000, 3) := by decide +kernel
theorem dX11_init_12 : decode cX11_init 12 = .ok (.invokespecial 11, 3) := by decide +kernel
theorem dX11_init_15 : decode cX11_init 15 = .ok (.putfield 14, 3) := by decide +kernel
theorem dX11_init_18 : decode cX11_init 18 = .ok (.aload_n 0, 1) := by decide +kernel
theorem dX11_init_19 : decode cX11_init 19 = .ok (.new 7, 3) := by decide +kernel
theorem dX11_init_22 : decode cX11_init 22 = .ok (.dup, 1) := by decide +kernel
theorem dX11_init_23 : decode cX11_init 23 = .ok (.sipush 3000, 3) := by decide +kernel
theorem dX11_init_26 : decode cX11_init 26 = .ok (.invokespecial 11, 3) := by decide +kernel
theorem dX11_init_29 : decode cX11_init 29 = .ok (.putfield 18, 3) := by decide +kernel
theorem dX11_init_32 : decode cX11_init 32 = .ok (.aload_n 0, 1) := by decide +kernel
theorem dX11_init_33 : decode cX11_init 33 = .ok (.new 21, 3) := by decide +kernel
theorem dX11_init_36 : decode cX11_init 36 = .ok (.dup, 1) := by decide +kernel
theorem dX11_init_37 : decode cX11_init 37 = .ok (.invokespecial 23, 3) := by decide +kernel
theorem dX11_init_40 : decode cX11_init 40 = .ok (.putfield 24, 3) := by decide +kernel
theorem dX11_init_43 : decode cX11_init 43 = .ok (.aload_n 0, 1) := by decide +kernel
theorem dX11_init_44 : decode cX11_init 44 = .ok (.new 28, 3) := by decide +kernel
theorem dX11_init_47 : decode cX11_init 47 = .ok (.dup, 1) := by decide +kernel
theorem dX11_init_48 : decode cX11_init 48 = .ok (.aload_n 0, 1) := by decide +kernel
theorem dX11_init_49 : decode cX11_init 49 = .ok (.getfield 24, 3) := by decide +kernel
theorem dX11_init_52 : decode cX11_init 52 = .ok (.invokespecial 30, 3) := by decide +kernel
theorem dX11_init_55 : decode cX11_init 55 = .ok (.putfield 33, 3) := by decide +kernel
theorem dX11_init_58 : decode cX11_init 58 = .ok (.aload_n 0, 1) := by decide +kernel
theorem dX11_init_59 : decode cX11_init 59 = .ok (.new 37, 3) := by decide +kernel
theorem dX11_init_62 : decode cX11_init 62 = .ok (.dup, 1) := by decide +kernel
theorem dX11_init_63 : decode cX11_init 63 = .ok (.aload_n 0, 1) := by decide +kernel
theorem dX11_init_64 : decode cX11_init 64 = .ok (.getfield 24, 3) := by decide +kernel
theorem dX11_init_67 : decode cX11_init 67 = .ok (.invokespecial 39, 3) := by decide +kernel
theorem dX11_init_70 : decode cX11_init 70 = .ok (.putfield 40, 3) := by decide +kernel
theorem dX11_init_73 : decode cX11_init 73 = .ok (.aload_n 0, 1) := by decide +kernel
theorem dX11_init_74 : decode cX11_init 74 = .ok (.new 44, 3) := by decide +kernel
theorem dX11_init_77 : decode cX11_init 77 = .ok (.dup, 1) := by decide +kernel
theorem dX11_init_78 : decode cX11_init 78 = .ok (.aload_n 0, 1) := by decide +kernel
theorem dX11_init_79 : decode cX11_init 79 = .ok (.getfield 24, 3) := by decide +kernel
theorem dX11_init_82 : decode cX11_init 82 = .ok (.invokespecial 46, 3) := by decide +kernel
theorem dX11_init_85 : decode cX11_init 85 = .ok (.putfield 47, 3) := by decide +kernel
theorem dX11_init_88 : decode cX11_init 88 = .ok (.aload_n 0, 1) := by decide +kernel
theorem dX11_init_89 : decode cX11_init 89 = .ok (.new 51, 3) := by decide +kernel
theorem dX11_init_92 : decode cX11_init 92 = .ok (.dup, 1) := by decide +kernel
theorem dX11_init_93 : decode cX11_init 93 = .ok (.invokespecial 53, 3) := by decide +kernel
theorem dX11_init_96 : decode cX11_init 96 = .ok (.putfield 54, 3) := by decide +kernel
theorem dX11_init_99 : decode cX11_init 99 = .ok (.aload_n 0, 1) := by decide +kernel
theorem dX11_init_100 : decode cX11_init 100 = .ok (.new 58, 3) := by decide +kernel
theorem dX11_init_103 : decode cX11_init 103 = .ok (.dup, 1) := by decide +kernel
theorem dX11_init_104 : decode cX11_init 104 = .ok (.invokespecial 60, 3) := by decide +kernel
theorem dX11_init_107 : decode cX11_init 107 = .ok (.putfield 61, 3) := by decide +kernel
theorem dX11_init_110 : decode cX11_init 110 = .ok (.aload_n 0, 1) := by decide +kernel
theorem dX11_init_111 : decode cX11_init 111 = .ok (.new 58, 3) := by decide +kernel
theorem dX11_init_114 : decode cX11_init 114 = .ok (.dup, 1) := by decide +kernel
theorem dX11_init_115 : decode cX11_init 115 = .ok (.invokespecial 60, 3) := by decide +kernel
theorem dX11_init_118 : decode cX11_init 118 = .ok (.putfield 65, 3) := by decide +kernel
theorem dX11_init_121 : decode cX11_init 121 = .ok (.return_, 1) := by decide +kernel
theorem dX1_init_0 : decode cX1_init 0 = .ok (.aload_n 0, 1) := by decide +kernel
theorem dX1_init_1 : decode cX1_init 1 = .ok (.invokespecial 5, 3) := by decide +kernel
theorem dX1_init_4 : decode cX1_init 4 = .ok (.aload_n 0, 1) := by decide +kernel
theorem dX1_init_5 : decode cX1_init 5 = .ok (.new 11, 3) := by decide +kernel
theorem dX1_init_8 : decode cX1_init 8 = .ok (.dup, 1) := by decide +kernel
theorem dX1_init_9 : decode cX1_init 9 = .ok (.bipush 91, 2) := by decide +kernel
theorem dX1_init_11 : decode cX1_init 11 = .ok (.invokespecial 13, 3) := by decide +kernel
theorem dX1_init_14 : decode cX1_init 14 = .ok (.putfield 16, 3) := by decide +kernel
theorem dX1_init_17 : decode cX1_init 17 = .ok (.aload_n 0, 1) := by decide +kernel
theorem dX1_init_18 : decode cX1_init 18 = .ok (.new 11, 3) := by decide +kernel
theorem dX1_init_21 : decode cX1_init 21 = .ok (.dup, 1) := by decide +kernel
theorem dX1_init_22 : decode cX1_init 22 = .ok (.bipush 30, 2) := by decide +kernel
theorem dX1_init_24 : decode cX1_init 24 = .ok (.invokespecial 13, 3) := by decide +kernel
theorem dX1_init_27 : decode cX1_init 27 = .ok (.putfield 20, 3) := by decide +kernel
theorem dX1_init_30 : decode cX1_init 30 = .ok (.aload_n 0, 1) := by decide +kernel
theorem dX1_init_31 : decode cX1_init 31 = .ok (.new 11, 3) := by decide +kernel
theorem dX1_init_34 : decode cX1_init 34 = .ok (.dup, 1) := by decide +kernel
theorem dX1_init_35 : decode cX1_init 35 = .ok (.bipush 60, 2) := by decide +kernel
theorem dX1_init_37 : decode cX1_init 37 = .ok (.invokespecial 13, 3) := by decide +kernel
theorem dX1_init_40 : decode cX1_init 40 = .ok (.putfield 23, 3) := by decide +kernel
theorem dX1_init_43 : decode cX1_init 43 = .ok (.aload_n 0, 1) := by decide +kernel
theorem dX1_init_44 : decode cX1_init 44 = .ok (.new 11, 3) := by decide +kernel
theorem dX1_init_47 : decode cX1_init 47 = .ok (.dup, 1) := by decide +kernel
theorem dX1_init_48 : decode cX1_init 48 = .ok (.bipush 15, 2) := by decide +kernel
theorem dX1_init_50 : decode cX1_init 50 = .ok (.invokespecial 13, 3) := by decide +kernel
theorem dX1_init_53 : decode cX1_init 53 = .ok (.putfield 26, 3) := by decide +kernel
theorem dX1_init_56 : decode cX1_init 56 = .ok (.aload_n 0, 1) := by decide +kernel
theorem dX1_init_57 : decode cX1_init 57 = .ok (.bipush 12, 2) := by decide +kernel
theorem dX1_init_59 : decode cX1_init 59 = .ok (.anewarray 11, 3) := by decide +kernel
theorem dX1_init_62 : decode cX1_init 62 = .ok (.putfield 29, 3) := by decide +kernel
theorem dX1_init_65 : decode cX1_init 65 = .ok (.aload_n 0, 1) := by decide +kernel
theorem dX1_init_66 : decode cX1_init 66 = .ok (.bipush 11, 2) := by decide +kernel
theorem dX1_init_68 : decode cX1_init 68 = .ok (.anewarray 33, 3) := by decide +kernel
theorem dX1_init_71 : decode cX1_init 71 = .ok (.putfield 35, 3) := by decide +kernel
theorem dX1_init_74 : decode cX1_init 74 = .ok (.aload_n 0, 1) := by decide +kernel
theorem dX1_init_75 : decode cX1_init 75 = .ok (.iconst 0, 1) := by decide +kernel
theorem dX1_init_76 : decode cX1_init 76 = .ok (.putfield 39, 3) := by decide +kernel
theorem dX1_init_79 : decode cX1_init 79 = .ok (.aload_n 0, 1) := by decide +kernel
theorem dX1_init_80 : decode cX1_init 80 = .ok (.iconst 0, 1) := by decide +kernel
theorem dX1_init_81 : decode cX1_init 81 = .ok (.putfield 43, 3) := by decide +kernel
theorem dX1_init_84 : decode cX1_init 84 = .ok (.aload_n 0, 1) := by decide +kernel
theorem dX1_init_85 : decode cX1_init 85 = .ok (.iconst 0, 1) := by decide +kernel
theorem dX1_init_86 : decode cX1_init 86 = .ok (.putfield 47, 3) := by decide +kernel
theorem dX1_init_89 : decode cX1_init 89 = .ok (.aload_n 0, 1) := by decide +kernel
theorem dX1_init_90 : decode cX1_init 90 = .ok (.iconst 0, 1) := by decide +kernel
theorem dX1_init_91 : decode cX1_init 91 = .ok (.putfield 50, 3) := by decide +kernel
theorem dX1_init_94 : decode cX1_init 94 = .ok (.aload_n 0, 1) := by decide +kernel
theorem dX1_init_95 : decode cX1_init 95 = .ok (.aload_n 1, 1) := by decide +kernel
theorem dX1_init_96 : decode cX1_init 96 = .ok (.putfield 53, 3) := by decide +kernel
theorem dX1_init_99 : decode cX1_init 99 = .ok (.iconst 0, 1) := by decide +kernel
theorem dX1_init_100 : decode cX1_init 100 = .ok (.istore_n 2, 1) := by decide +kernel
theorem dX1_init_101 : decode cX1_init 101 = .ok (.iload_n 2, 1) := by decide +kernel
theorem dX1_init_102 : decode cX1_init 102 = .ok (.bipush 11, 2) := by decide +kernel
theorem dX1_init_104 : decode cX1_init 104 = .ok (.if_icmp .ge 37, 3) := by decide +kernel
theorem dX1_init_107 : decode cX1_init 107 = .ok (.aload_n 0, 1) := by decide +kernel
theorem dX1_init_108 : decode cX1_init 108 = .ok (.getfield 29, 3) := by decide +kernel
theorem dX1_init_111 : decode cX1_init 111 = .ok (.iload_n 2, 1) := by decide +kernel
theorem dX1_init_112 : decode cX1_init 112 = .ok (.new 11, 3) := by decide +kernel
theorem dX1_init_115 : decode cX1_init 115 = .ok (.dup, 1) := by decide +kernel
theorem dX1_init_116 : decode cX1_init 116 = .ok (.bipush 60, 2) := by decide +kernel
theorem dX1_init_118 : decode cX1_init 118 = .ok (.invokespecial 13, 3) := by decide +kernel
theorem dX1_init_121 : decode cX1_init 121 = .ok (.aastore, 1) := by decide +kernel
theorem dX1_init_122 : decode cX1_init 122 = .ok (.aload_n 0, 1) := by decide +kernel
theorem dX1_init_123 : decode cX1_init 123 = .ok (.getfield 35, 3) := by decide +kernel
theorem dX1_init_126 : decode cX1_init 126 = .ok (.iload_n 2, 1) := by decide +kernel
theorem dX1_init_127 : decode cX1_init 127 = .ok (.new 33, 3) := by decide +kernel
theorem dX1_init_130 : decode cX1_init 130 = .ok (.dup, 1) := by decide +kernel
theorem dX1_init_131 : decode cX1_init 131 = .ok (.invokespecial 57, 3) := by decide +kernel
theorem dX1_init_134 : decode cX1_init 134 = .ok (.aastore, 1) := by decide +kernel
theorem dX1_init_135 : decode cX1_init 135 = .ok (.iinc 2 1, 3) := by decide +kernel
theorem dX1_init_138 : decode cX1_init 138 = .ok (.goto (-37), 3) := by decide +kernel
theorem dX1_init_141 : decode cX1_init 141 = .ok (.aload_n 0, 1) := by decide +kernel
theorem dX1_init_142 : decode cX1_init 142 = .ok (.getfield 29, 3) := by decide +kernel
theorem dX1_init_145 : decode cX1_init 145 = .ok (.bipush 11, 2) := by decide +kernel
theorem dX1_init_147 : decode cX1_init 147 = .ok (.new 11, 3) := by decide +kernel
theorem dX1_init_150 : decode cX1_init 150 = .ok (.dup, 1) := by decide +kernel
theorem dX1_init_151 : decode cX1_init 151 = .ok (.bipush 60, 2) := by decide +kernel
theorem dX1_init_153 : decode cX1_init 153 = .ok (.invokespecial 13, 3) := by decide +kernel
theorem dX1_init_156 : decode cX1_init 156 = .ok (.aastore, 1) := by decide +kernel
theorem dX1_init_157 : decode cX1_init 157 = .ok (.return_, 1) := by decide +kernel
theorem dX5_init_0 : decode cX5_init 0 = .ok (.aload_n 0, 1) := by decide +kernel
theorem dX5_init_1 : decode cX5_init 1 = .ok (.invokespecial 3, 3) := by decide +kernel
theorem dX5_init_4 : decode cX5_init 4 = .ok (.aload_n 0, 1) := by decide +kernel
theorem dX5_init_5 : decode cX5_init 5 = .ok (.new 9, 3) := by decide +kernel
theorem dX5_init_8 : decode cX5_init 8 = .ok (.dup, 1) := by decide +kernel
theorem dX5_init_9 : decode cX5_init 9 = .ok (.bipush 60, 2) := by decide +kernel
theorem dX5_init_11 : decode cX5_init 11 = .ok (.invokespecial 11, 3) := by decide +kernel
theorem dX5_init_14 : decode cX5_init 14 = .ok (.putfield 14, 3) := by decide +kernel
theorem dX5_init_17 : decode cX5_init 17 = .ok (.aload_n 0, 1) := by decide +kernel
theorem dX5_init_18 : decode cX5_init 18 = .ok (.new 9, 3) := by decide +kernel
theorem dX5_init_21 : decode cX5_init 21 = .ok (.dup, 1) := by decide +kernel
theorem dX5_init_22 : decode cX5_init 22 = .ok (.bipush 60, 2) := by decide +kernel
theorem dX5_init_24 : decode cX5_init 24 = .ok (.invokespecial 11, 3) := by decide +kernel
theorem dX5_init_27 : decode cX5_init 27 = .ok (.putfield 20, 3) := by decide +kernel
theorem dX5_init_30 : decode cX5_init 30 = .ok (.aload_n 0, 1) := by decide +kernel
theorem dX5_init_31 : decode cX5_init 31 = .ok (.new 23, 3) := by decide +kernel
theorem dX5_init_34 : decode cX5_init 34 = .ok (.dup, 1) := by decide +kernel
theorem dX5_init_35 : decode cX5_init 35 = .ok (.sipush 700, 3) := by decide +kernel
theorem dX5_init_38 : decode cX5_init 38 = .ok (.invokespecial 25, 3) := by decide +kernel
theorem dX5_init_41 : decode cX5_init 41 = .ok (.putfield 26, 3) := by decide +kernel
theorem dX5_init_44 : decode cX5_init 44 = .ok (.aload_n 0, 1) := by decide +kernel
theorem dX5_init_45 : decode cX5_init 45 = .ok (.iconst 0, 1) := by decide +kernel
theorem dX5_init_46 : decode cX5_init 46 = .ok (.putfield 30, 3) := by decide +kernel
theorem dX5_init_49 : decode cX5_init 49 = .ok (.aload_n 0, 1) := by decide +kernel
theorem dX5_init_50 : decode cX5_init 50 = .ok (.iconst 0, 1) := by decide +kernel
theorem dX5_init_51 : decode cX5_init 51 = .ok (.putfield 34, 3) := by decide +kernel
theorem dX5_init_54 : decode cX5_init 54 = .ok (.aload_n 0, 1) := by decide +kernel
theorem dX5_init_55 : decode cX5_init 55 = .ok (.iconst 0, 1) := by decide +kernel
theorem dX5_init_56 : decode cX5_init 56 = .ok (.putfield 38, 3) := by decide +kernel
theorem dX5_init_59 : decode cX5_init 59 = .ok (.aload_n 0, 1) := by decide +kernel
theorem dX5_init_60 : decode cX5_init 60 = .ok (.aload_n 1, 1) := by decide +kernel
theorem dX5_init_61 : decode cX5_init 61 = .ok (.putfield 41, 3) := by decide +kernel
theorem dX5_init_64 : decode cX5_init 64 = .ok (.return_, 1) := by decide +kernel
theorem dX7_init_0 : decode cX7_init 0 = .ok (.aload_n 0, 1) := by decide +kernel
theorem dX7_init_1 : decode cX7_init 1 = .ok (.invokespecial 3, 3) := by decide +kernel
theorem dX7_init_4 : decode cX7_init 4 = .ok (.aload_n 0, 1) := by decide +kernel
theorem dX7_init_5 : decode cX7_init 5 = .ok (.new 9, 3) := by decide +kernel
theorem dX7_init_8 : decode cX7_init 8 = .ok (.dup, 1) := by decide +kernel
theorem dX7_init_9 : decode cX7_init 9 = .ok (.sipush 3000, 3) := by decide +kernel
theorem dX7_init_12 : decode cX7_init 12 = .ok (.invokespecial 11, 3) := by decide +kernel
theorem dX7_init_15 : decode cX7_init 15 = .ok (.putfield 14, 3) := by decide +kernel
theorem dX7_init_18 : decode cX7_init 18 = .ok (.aload_n 0, 1) := by decide +kernel
theorem dX7_init_19 : decode cX7_init 19 = .ok (.new 9, 3) := by decide +kernel
theorem dX7_init_22 : decode cX7_init 22 = .ok (.dup, 1) := by decide +kernel
theorem dX7_init_23 : decode cX7_init 23 = .ok (.sipush 700, 3) := by decide +kernel
theorem dX7_init_26 : decode cX7_init 26 = .ok (.invokespecial 11, 3) := by decide +kernel
theorem dX7_init_29 : decode cX7_init 29 = .ok (.putfield 20, 3) := by decide +kernel
theorem dX7_init_32 : decode cX7_init 32 = .ok (.aload_n 0, 1) := by decide +kernel
theorem dX7_init_33 : decode cX7_init 33 = .ok (.new 23, 3) := by decide +kernel
theorem dX7_init_36 : decode cX7_init 36 = .ok (.dup, 1) := by decide +kernel
theorem dX7_init_37 : decode cX7_init 37 = .ok (.bipush 60, 2) := by decide +kernel
theorem dX7_init_39 : decode cX7_init 39 = .ok (.invokespecial 25, 3) := by decide +kernel
theorem dX7_init_42 : decode cX7_init 42 = .ok (.putfield 26, 3) := by decide +kernel
theorem dX7_init_45 : decode cX7_init 45 = .ok (.aload_n 0, 1) := by decide +kernel
theorem dX7_init_46 : decode cX7_init 46 = .ok (.new 23, 3) := by decide +kernel
theorem dX7_init_49 : decode cX7_init 49 = .ok (.dup, 1) := by decide +kernel
theorem dX7_init_50 : decode cX7_init 50 = .ok (.bipush 60, 2) := by decide +kernel
theorem dX7_init_52 : decode cX7_init 52 = .ok (.invokespecial 25, 3) := by decide +kernel
theorem dX7_init_55 : decode cX7_init 55 = .ok (.putfield 30, 3) := by decide +kernel
theorem dX7_init_58 : decode cX7_init 58 = .ok (.aload_n 0, 1) := by decide +kernel
theorem dX7_init_59 : decode cX7_init 59 = .ok (.new 23, 3) := by decide +kernel
theorem dX7_init_62 : decode cX7_init 62 = .ok (.dup, 1) := by decide +kernel
theorem dX7_init_63 : decode cX7_init 63 = .ok (.bipush 32, 2) := by decide +kernel
theorem dX7_init_65 : decode cX7_init 65 = .ok (.invokespecial 25, 3) := by decide +kernel
theorem dX7_init_68 : decode cX7_init 68 = .ok (.putfield 33, 3) := by decide +kernel
theorem dX7_init_71 : decode cX7_init 71 = .ok (.aload_n 0, 1) := by decide +kernel
theorem dX7_init_72 : decode cX7_init 72 = .ok (.new 23, 3) := by decide +kernel
theorem dX7_init_75 : decode cX7_init 75 = .ok (.dup, 1) := by decide +kernel
theorem dX7_init_76 : decode cX7_init 76 = .ok (.bipush 64, 2) := by decide +kernel
theorem dX7_init_78 : decode cX7_init 78 = .ok (.invokespecial 25, 3) := by decide +kernel
theorem dX7_init_81 : decode cX7_init 81 = .ok (.putfield 36, 3) := by decide +kernel
theorem dX7_init_84 : decode cX7_init 84 = .ok (.aload_n 0, 1) := by decide +kernel
theorem dX7_init_85 : decode cX7_init 85 = .ok (.new 23, 3) := by decide +kernel
theorem dX7_init_88 : decode cX7_init 88 = .ok (.dup, 1) := by decide +kernel
theorem dX7_init_89 : decode cX7_init 89 = .ok (.bipush 64, 2) := by decide +kernel
theorem dX7_init_91 : decode cX7_init 91 = .ok (.invokespecial 25, 3) := by decide +kernel
theorem dX7_init_94 : decode cX7_init 94 = .ok (.putfield 39, 3) := by decide +kernel
theorem dX7_init_97 : decode cX7_init 97 = .ok (.aload_n 0, 1) := by decide +kernel
theorem dX7_init_98 : decode cX7_init 98 = .ok (.new 23, 3) := by decide +kernel
theorem dX7_init_101 : decode cX7_init 101 = .ok (.dup, 1) := by decide +kernel
theorem dX7_init_102 : decode cX7_init 102 = .ok (.bipush 32, 2) := by decide +kernel
theorem dX7_init_104 : decode cX7_init 104 = .ok (.invokespecial 25, 3) := by decide +kernel
theorem dX7_init_107 : decode cX7_init 107 = .ok (.putfield 42, 3) := by decide +kernel
theorem dX7_init_110 : decode cX7_init 110 = .ok (.aload_n 0, 1) := by decide +kernel
theorem dX7_init_111 : decode cX7_init 111 = .ok (.new 23, 3) := by decide +kernel
theorem dX7_init_114 : decode cX7_init 114 = .ok (.dup, 1) := by decide +kernel
theorem dX7_init_115 : decode cX7_init 115 = .ok (.bipush 64, 2) := by decide +kernel
theorem dX7_init_117 : decode cX7_init 117 = .ok (.invokespecial 25, 3) := by decide +kernel
theorem dX7_init_120 : decode cX7_init 120 = .ok (.putfield 45, 3) := by decide +kernel
theorem dX7_init_123 : decode cX7_init 123 = .ok (.aload_n 0, 1) := by decide +kernel
theorem dX7_init_124 : decode cX7_init 124 = .ok (.new 23, 3) := by decide +kernel
theorem dX7_init_127 : decode cX7_init 127 = .ok (.dup, 1) := by decide +kernel
theorem dX7_init_128 : decode cX7_init 128 = .ok (.bipush 64, 2) := by decide +kernel
theorem dX7_init_130 : decode cX7_init 130 = .ok (.invokespecial 25, 3) := by decide +kernel
theorem dX7_init_133 : decode cX7_init 133 = .ok (.putfield 48, 3) := by decide +kernel
theorem dX7_init_136 : decode cX7_init 136 = .ok (.aload_n 0, 1) := by decide +kernel
theorem dX7_init_137 : decode cX7_init 137 = .ok (.new 23, 3) := by decide +kernel
theorem dX7_init_140 : decode cX7_init 140 = .ok (.dup, 1) := by decide +kernel
theorem dX7_init_141 : decode cX7_init 141 = .ok (.sipush 6100, 3) := by decide +kernel
theorem dX7_init_144 : decode cX7_init 144 = .ok (.invokespecial 25, 3) := by decide +kernel
theorem dX7_init_147 : decode cX7_init 147 = .ok (.putfield 51, 3) := by decide +kernel
theorem dX7_init_150 : decode cX7_init 150 = .ok (.aload_n 0, 1) := by decide +kernel
theorem dX7_init_151 : decode cX7_init 151 = .ok (.bipush 20, 2) := by decide +kernel
theorem dX7_init_153 : decode cX7_init 153 = .ok (.newarray .boolean, 2) := by decide +kernel
theorem dX7_init_155 : decode cX7_init 155 = .ok (.putfield 56, 3) := by decide +kernel
theorem dX7_init_158 : decode cX7_init 158 = .ok (.aload_n 0, 1) := by decide +kernel
theorem dX7_init_159 : decode cX7_init 159 = .ok (.new 60, 3) := by decide +kernel
theorem dX7_init_162 : decode cX7_init 162 = .ok (.dup, 1) := by decide +kernel
theorem dX7_init_163 : decode cX7_init 163 = .ok (.invokespecial 62, 3) := by decide +kernel
theorem dX7_init_166 : decode cX7_init 166 = .ok (.putfield 63, 3) := by decide +kernel
theorem dX7_init_169 : decode cX7_init 169 = .ok (.aload_n 0, 1) := by decide +kernel
theorem dX7_init_170 : decode cX7_init 170 = .ok (.new 67, 3) := by decide +kernel
theorem dX7_init_173 : decode cX7_init 173 = .ok (.dup, 1) := by decide +kernel
theorem dX7_init_174 : decode cX7_init 174 = .ok (.invokespecial 69, 3) := by decide +kernel
theorem dX7_init_177 : decode cX7_init 177 = .ok (.putfield 70, 3) := by decide +kernel
theorem dX7_init_180 : decode cX7_init 180 = .ok (.aload_n 0, 1) := by decide +kernel
theorem dX7_init_181 : decode cX7_init 181 = .ok (.iconst 0, 1) := by decide +kernel
theorem dX7_init_182 : decode cX7_init 182 = .ok (.putfield 74, 3) := by decide +kernel
theorem dX7_init_185 : decode cX7_init 185 = .ok (.aload_n 0, 1) := by decide +kernel
theorem dX7_init_186 : decode cX7_init 186 = .ok (.iconst 0, 1) := by decide +kernel
theorem dX7_init_187 : decode cX7_init 187 = .ok (.putfield 78, 3) := by decide +kernel
theorem dX7_init_190 : decode cX7_init 190 = .ok (.aload_n 0, 1) := by decide +kernel
theorem dX7_init_191 : decode cX7_init 191 = .ok (.aload_n 1, 1) := by decide +kernel
theorem dX7_init_192 : decode cX7_init 192 = .ok (.putfield 81, 3) := by decide +kernel
theorem dX7_init_195 : decode cX7_init 195 = .ok (.return_, 1) := by decide +kernel
theorem kt_61 : Cond.methodLink RX1 5 objectInit ∈ tb := tb_at (i := 185) (by decide +kernel) (by decide +kernel)
theorem kt_62 : Cond.classLink RX1 11 RX0 ∈ tb := tb_at (i := 186) (by decide +kernel) (by decide +kernel)
theorem kt_63 : Cond.methodLink RX1 13 yX0_init ∈ tb := tb_at (i := 187) (by decide +kernel) (by decide +kernel)
theorem kt_64 : Cond.fieldLink RX1 16 "PostGate$Checker" "whole" "LPostGate$Bytes;" ∈ tb := tb_at (i := 222) (by decide +kernel) (by decide +kernel)
theorem kt_65 : Cond.fieldLink RX1 20 "PostGate$Checker" "local" "LPostGate$Bytes;" ∈ tb := tb_at (i := 223) (by decide +kernel) (by decide +kernel)
theorem kt_66 : Cond.fieldLink RX1 23 "PostGate$Checker" "domain" "LPostGate$Bytes;" ∈ tb := tb_at (i := 224) (by decide +kernel) (by decide +kernel)
theorem kt_67 : Cond.fieldLink RX1 26 "PostGate$Checker" "quad" "LPostGate$Bytes;" ∈ tb := tb_at (i := 226) (by decide +kernel) (by decide +kernel)
theorem kt_68 : Cond.fieldLink RX1 29 "PostGate$Checker" "names" "[LPostGate$Bytes;" ∈ tb := tb_at (i := 227) (by decide +kernel) (by decide +kernel)
theorem kt_69 : Cond.classLink RX1 33 RX10 ∈ tb := tb_at (i := 189) (by decide +kernel) (by decide +kernel)
theorem kt_70 : Cond.fieldLink RX1 35 "PostGate$Checker" "terms" "[LPostGate$Term;" ∈ tb := tb_at (i := 228) (by decide +kernel) (by decide +kernel)
theorem kt_71 : Cond.fieldLink RX1 39 "PostGate$Checker" "address" "I" ∈ tb := tb_at (i := 229) (by decide +kernel) (by decide +kernel)
theorem kt_72 : Cond.fieldLink RX1 43 "PostGate$Checker" "isReady" "Z" ∈ tb := tb_at (i := 230) (by decide +kernel) (by decide +kernel)
theorem kt_73 : Cond.fieldLink RX1 47 "PostGate$Checker" "counted" "I" ∈ tb := tb_at (i := 232) (by decide +kernel) (by decide +kernel)
theorem kt_74 : Cond.fieldLink RX1 50 "PostGate$Checker" "voids" "I" ∈ tb := tb_at (i := 234) (by decide +kernel) (by decide +kernel)
theorem kt_75 : Cond.fieldLink RX1 53 "PostGate$Checker" "directory" "LPostGate$Directory;" ∈ tb := tb_at (i := 221) (by decide +kernel) (by decide +kernel)
theorem kt_76 : Cond.instantiable RX10 6 ∈ tb := tb_at (i := 191) (by decide +kernel) (by decide +kernel)
theorem kt_77 : Cond.initialized RX10 ∈ tb := tb_at (i := 86) (by decide +kernel) (by decide +kernel)
theorem kt_78 : Cond.code yX10_init cX10_init 1 none ∈ tb := tb_at (i := 194) (by decide +kernel) (by decide +kernel)
theorem kt_79 : Cond.instanceMethod yX10_init ∈ tb := tb_at (i := 193) (by decide +kernel) (by decide +kernel)
theorem kt_80 : Cond.methodLink RX5 3 objectInit ∈ tb := tb_at (i := 390) (by decide +kernel) (by decide +kernel)
theorem kt_81 : Cond.classLink RX5 9 RX0 ∈ tb := tb_at (i := 391) (by decide +kernel) (by decide +kernel)
theorem kt_82 : Cond.methodLink RX5 11 yX0_init ∈ tb := tb_at (i := 392) (by decide +kernel) (by decide +kernel)
theorem kt_83 : Cond.fieldLink RX5 14 "PostGate$Policy" "domain" "LPostGate$Bytes;" ∈ tb := tb_at (i := 396) (by decide +kernel) (by decide +kernel)
theorem kt_84 : Cond.fieldLink RX5 20 "PostGate$Policy" "place" "LPostGate$Bytes;" ∈ tb := tb_at (i := 397) (by decide +kernel) (by decide +kernel)
theorem kt_85 : Cond.classLink RX5 23 RX9 ∈ tb := tb_at (i := 393) (by decide +kernel) (by decide +kernel)
theorem kt_86 : Cond.instantiable RX9 5 ∈ tb := tb_at (i := 266) (by decide +kernel) (by decide +kernel)
theorem kt_87 : Cond.initialized RX9 ∈ tb := tb_at (i := 88) (by decide +kernel) (by decide +kernel)
theorem kt_88 : Cond.code yX9_init cX9_init 2 none ∈ tb := tb_at (i := 269) (by decide +kernel) (by decide +kernel)
theorem kt_89 : Cond.methodLink RX5 25 yX9_init ∈ tb := tb_at (i := 394) (by decide +kernel) (by decide +kernel)
theorem kt_90 : Cond.instanceMethod yX9_init ∈ tb := tb_at (i := 268) (by decide +kernel) (by decide +kernel)
theorem kt_91 : Cond.fieldLink RX5 26 "PostGate$Policy" "record" "LPostGate$Tags;" ∈ tb := tb_at (i := 398) (by decide +kernel) (by decide +kernel)
theorem kt_92 : Cond.fieldLink RX5 30 "PostGate$Policy" "wanted" "I" ∈ tb := tb_at (i := 399) (by decide +kernel) (by decide +kernel)
theorem kt_93 : Cond.fieldLink RX5 34 "PostGate$Policy" "strictSender" "Z" ∈ tb := tb_at (i := 401) (by decide +kernel) (by decide +kernel)
theorem kt_94 : Cond.fieldLink RX5 38 "PostGate$Policy" "strictSeal" "Z" ∈ tb := tb_at (i := 403) (by decide +kernel) (by decide +kernel)
theorem kt_95 : Cond.fieldLink RX5 41 "PostGate$Policy" "directory" "LPostGate$Directory;" ∈ tb := tb_at (i := 395) (by decide +kernel) (by decide +kernel)
theorem kt_96 : Cond.methodLink RX7 3 objectInit ∈ tb := tb_at (i := 264) (by decide +kernel) (by decide +kernel)
theorem kt_97 : Cond.classLink RX7 9 RX9 ∈ tb := tb_at (i := 265) (by decide +kernel) (by decide +kernel)
theorem kt_98 : Cond.methodLink RX7 11 yX9_init ∈ tb := tb_at (i := 267) (by decide +kernel) (by decide +kernel)
theorem kt_99 : Cond.fieldLink RX7 14 "PostGate$Sealer" "seal" "LPostGate$Tags;" ∈ tb := tb_at (i := 333) (by decide +kernel) (by decide +kernel)
theorem kt_100 : Cond.fieldLink RX7 20 "PostGate$Sealer" "key" "LPostGate$Tags;" ∈ tb := tb_at (i := 334) (by decide +kernel) (by decide +kernel)
theorem kt_101 : Cond.classLink RX7 23 RX0 ∈ tb := tb_at (i := 290) (by decide +kernel) (by decide +kernel)
theorem kt_102 : Cond.methodLink RX7 25 yX0_init ∈ tb := tb_at (i := 291) (by decide +kernel) (by decide +kernel)
theorem kt_103 : Cond.fieldLink RX7 26 "PostGate$Sealer" "domain" "LPostGate$Bytes;" ∈ tb := tb_at (i := 335) (by decide +kernel) (by decide +kernel)
theorem kt_104 : Cond.fieldLink RX7 30 "PostGate$Sealer" "keyName" "LPostGate$Bytes;" ∈ tb := tb_at (i := 337) (by decide +kernel) (by decide +kernel)
theorem kt_105 : Cond.fieldLink RX7 33 "PostGate$Sealer" "bodySum" "LPostGate$Bytes;" ∈ tb := tb_at (i := 338) (by decide +kernel) (by decide +kernel)
theorem kt_106 : Cond.fieldLink RX7 36 "PostGate$Sealer" "signature" "LPostGate$Bytes;" ∈ tb := tb_at (i := 339) (by decide +kernel) (by decide +kernel)
theorem kt_107 : Cond.fieldLink RX7 39 "PostGate$Sealer" "modulus" "LPostGate$Bytes;" ∈ tb := tb_at (i := 340) (by decide +kernel) (by decide +kernel)
theorem kt_108 : Cond.fieldLink RX7 42 "PostGate$Sealer" "sum" "LPostGate$Bytes;" ∈ tb := tb_at (i := 341) (by decide +kernel) (by decide +kernel)
theorem kt_109 : Cond.fieldLink RX7 45 "PostGate$Sealer" "power" "LPostGate$Bytes;" ∈ tb := tb_at (i := 342) (by decide +kernel) (by decide +kernel)
theorem kt_110 : Cond.fieldLink RX7 48 "PostGate$Sealer" "due" "LPostGate$Bytes;" ∈ tb := tb_at (i := 343) (by decide +kernel) (by decide +kernel)
theorem kt_111 : Cond.fieldLink RX7 51 "PostGate$Sealer" "work" "LPostGate$Bytes;" ∈ tb := tb_at (i := 344) (by decide +kernel) (by decide +kernel)
theorem kt_112 : Cond.arrayClass .boolean ∈ tb := tb_at (i := 308) (by decide +kernel) (by decide +kernel)
theorem kt_113 : Cond.fieldLink RX7 56 "PostGate$Sealer" "taken" "[Z" ∈ tb := tb_at (i := 345) (by decide +kernel) (by decide +kernel)
theorem kt_114 : Cond.classLink RX7 60 RX8 ∈ tb := tb_at (i := 292) (by decide +kernel) (by decide +kernel)
theorem kt_115 : Cond.instantiable RX8 3 ∈ tb := tb_at (i := 293) (by decide +kernel) (by decide +kernel)
theorem kt_116 : Cond.initialized RX8 ∈ tb := tb_at (i := 89) (by decide +kernel) (by decide +kernel)
theorem kt_117 : Cond.code yX8_init cX8_init 1 none ∈ tb := tb_at (i := 296) (by decide +kernel) (by decide +kernel)
theorem kt_118 : Cond.instanceMethod yX8_init ∈ tb := tb_at (i := 295) (by decide +kernel) (by decide +kernel)
theorem kt_119 : Cond.fieldLink RX7 63 "PostGate$Sealer" "sha" "LPostGate$Sha;" ∈ tb := tb_at (i := 346) (by decide +kernel) (by decide +kernel)
theorem kt_120 : Cond.classLink RX7 67 RX6 ∈ tb := tb_at (i := 309) (by decide +kernel) (by decide +kernel)
theorem kt_121 : Cond.instantiable RX6 5 ∈ tb := tb_at (i := 310) (by decide +kernel) (by decide +kernel)
theorem kt_122 : Cond.initialized RX6 ∈ tb := tb_at (i := 90) (by decide +kernel) (by decide +kernel)
theorem kt_123 : Cond.code yX6_init cX6_init 1 none ∈ tb := tb_at (i := 313) (by decide +kernel) (by decide +kernel)
theorem kt_124 : Cond.instanceMethod yX6_init ∈ tb := tb_at (i := 312) (by decide +kernel) (by decide +kernel)
theorem kt_125 : Cond.fieldLink RX7 70 "PostGate$Sealer" "powers" "LPostGate$Power;" ∈ tb := tb_at (i := 347) (by decide +kernel) (by decide +kernel)
theorem kt_126 : Cond.fieldLink RX7 74 "PostGate$Sealer" "fieldRelaxed" "Z" ∈ tb := tb_at (i := 348) (by decide +kernel) (by decide +kernel)
theorem kt_127 : Cond.fieldLink RX7 78 "PostGate$Sealer" "bodyRelaxed" "Z" ∈ tb := tb_at (i := 349) (by decide +kernel) (by decide +kernel)
theorem kt_128 : Cond.fieldLink RX7 81 "PostGate$Sealer" "directory" "LPostGate$Directory;" ∈ tb := tb_at (i := 332) (by decide +kernel) (by decide +kernel)
theorem kt_129 : Cond.methodLink RX11 1 objectInit ∈ tb := tb_at (i := 110) (by decide +kernel) (by decide +kernel)
theorem kt_130 : Cond.classLink RX11 7 RX0 ∈ tb := tb_at (i := 113) (by decide +kernel) (by decide +kernel)
theorem kt_131 : Cond.methodLink RX11 11 yX0_init ∈ tb := tb_at (i := 115) (by decide +kernel) (by decide +kernel)
theorem kt_132 : Cond.fieldLink RX11 14 "PostGate" "tape" "LPostGate$Bytes;" ∈ tb := tb_at (i := 457) (by decide +kernel) (by decide +kernel)
theorem kt_133 : Cond.fieldLink RX11 18 "PostGate" "out" "LPostGate$Bytes;" ∈ tb := tb_at (i := 458) (by decide +kernel) (by decide +kernel)
theorem kt_134 : Cond.classLink RX11 21 RX2 ∈ tb := tb_at (i := 137) (by decide +kernel) (by decide +kernel)
theorem kt_135 : Cond.instantiable RX2 2 ∈ tb := tb_at (i := 138) (by decide +kernel) (by decide +kernel)
theorem kt_136 : Cond.initialized RX2 ∈ tb := tb_at (i := 83) (by decide +kernel) (by decide +kernel)
theorem kt_137 : Cond.code yX2_init cX2_init 2 none ∈ tb := tb_at (i := 141) (by decide +kernel) (by decide +kernel)
theorem kt_138 : Cond.methodLink RX11 23 yX2_init ∈ tb := tb_at (i := 139) (by decide +kernel) (by decide +kernel)
theorem kt_139 : Cond.instanceMethod yX2_init ∈ tb := tb_at (i := 140) (by decide +kernel) (by decide +kernel)
theorem kt_140 : Cond.fieldLink RX11 24 "PostGate" "directory" "LPostGate$Directory;" ∈ tb := tb_at (i := 459) (by decide +kernel) (by decide +kernel)
theorem kt_141 : Cond.classLink RX11 28 RX1 ∈ tb := tb_at (i := 180) (by decide +kernel) (by decide +kernel)
theorem kt_142 : Cond.instantiable RX1 11 ∈ tb := tb_at (i := 181) (by decide +kernel) (by decide +kernel)
theorem kt_143 : Cond.initialized RX1 ∈ tb := tb_at (i := 85) (by decide +kernel) (by decide +kernel)
theorem kt_144 : Cond.code yX1_init cX1_init 3 none ∈ tb := tb_at (i := 184) (by decide +kernel) (by decide +kernel)
theorem kt_145 : Cond.methodLink RX11 30 yX1_init ∈ tb := tb_at (i := 182) (by decide +kernel) (by decide +kernel)
theorem kt_146 : Cond.instanceMethod yX1_init ∈ tb := tb_at (i := 183) (by decide +kernel) (by decide +kernel)
theorem kt_147 : Cond.fieldLink RX11 33 "PostGate" "checker" "LPostGate$Checker;" ∈ tb := tb_at (i := 460) (by decide +kernel) (by decide +kernel)
theorem kt_148 : Cond.classLink RX11 37 RX7 ∈ tb := tb_at (i := 259) (by decide +kernel) (by decide +kernel)
theorem kt_149 : Cond.instantiable RX7 17 ∈ tb := tb_at (i := 260) (by decide +kernel) (by decide +kernel)
theorem kt_150 : Cond.initialized RX7 ∈ tb := tb_at (i := 87) (by decide +kernel) (by decide +kernel)
theorem kt_151 : Cond.code yX7_init cX7_init 2 none ∈ tb := tb_at (i := 263) (by decide +kernel) (by decide +kernel)
theorem kt_152 : Cond.methodLink RX11 39 yX7_init ∈ tb := tb_at (i := 261) (by decide +kernel) (by decide +kernel)
theorem kt_153 : Cond.instanceMethod yX7_init ∈ tb := tb_at (i := 262) (by decide +kernel) (by decide +kernel)
theorem kt_154 : Cond.fieldLink RX11 40 "PostGate" "sealer" "LPostGate$Sealer;" ∈ tb := tb_at (i := 461) (by decide +kernel) (by decide +kernel)
theorem kt_155 : Cond.classLink RX11 44 RX5 ∈ tb := tb_at (i := 385) (by decide +kernel) (by decide +kernel)
theorem kt_156 : Cond.instantiable RX5 7 ∈ tb := tb_at (i := 386) (by decide +kernel) (by decide +kernel)
theorem kt_157 : Cond.initialized RX5 ∈ tb := tb_at (i := 91) (by decide +kernel) (by decide +kernel)
theorem kt_158 : Cond.code yX5_init cX5_init 2 none ∈ tb := tb_at (i := 389) (by decide +kernel) (by decide +kernel)
theorem kt_159 : Cond.methodLink RX11 46 yX5_init ∈ tb := tb_at (i := 387) (by decide +kernel) (by decide +kernel)
theorem kt_160 : Cond.instanceMethod yX5_init ∈ tb := tb_at (i := 388) (by decide +kernel) (by decide +kernel)
theorem kt_161 : Cond.fieldLink RX11 47 "PostGate" "policy" "LPostGate$Policy;" ∈ tb := tb_at (i := 462) (by decide +kernel) (by decide +kernel)
theorem kt_162 : Cond.classLink RX11 51 RX8 ∈ tb := tb_at (i := 420) (by decide +kernel) (by decide +kernel)
theorem kt_163 : Cond.fieldLink RX11 54 "PostGate" "sha" "LPostGate$Sha;" ∈ tb := tb_at (i := 463) (by decide +kernel) (by decide +kernel)
theorem kt_164 : Cond.classLink RX11 58 RX4 ∈ tb := tb_at (i := 422) (by decide +kernel) (by decide +kernel)
theorem kt_165 : Cond.instantiable RX4 6 ∈ tb := tb_at (i := 423) (by decide +kernel) (by decide +kernel)
theorem kt_166 : Cond.initialized RX4 ∈ tb := tb_at (i := 92) (by decide +kernel) (by decide +kernel)
theorem kt_167 : Cond.code yX4_init cX4_init 1 none ∈ tb := tb_at (i := 426) (by decide +kernel) (by decide +kernel)
theorem kt_168 : Cond.instanceMethod yX4_init ∈ tb := tb_at (i := 425) (by decide +kernel) (by decide +kernel)
theorem kt_169 : Cond.fieldLink RX11 61 "PostGate" "letter" "LPostGate$Message;" ∈ tb := tb_at (i := 464) (by decide +kernel) (by decide +kernel)
theorem kt_170 : Cond.fieldLink RX11 65 "PostGate" "spare" "LPostGate$Message;" ∈ tb := tb_at (i := 465) (by decide +kernel) (by decide +kernel)
theorem kn_1 : Cond.methodLinkNest RX1 57 yX10_init "PostGate" ∈ nw := nw_at (i := 112) (by decide +kernel) rfl
theorem kn_2 : Cond.methodLinkNest RX7 62 yX8_init "PostGate" ∈ nw := nw_at (i := 214) (by decide +kernel) rfl
theorem kn_3 : Cond.methodLinkNest RX7 69 yX6_init "PostGate" ∈ nw := nw_at (i := 231) (by decide +kernel) rfl
theorem kn_4 : Cond.methodLinkNest RX11 53 yX8_init "PostGate" ∈ nw := nw_at (i := 341) (by decide +kernel) rfl
theorem kn_5 : Cond.methodLinkNest RX11 60 yX4_init "PostGate" ∈ nw := nw_at (i := 344) (by decide +kernel) rfl
set_option maxHeartbeats 4000000 in
set_option maxRecDepth 100000 in
theorem c_X1_init (l : Launch) (dC : Nat → ClassId) (dI : Nat → Nat → Nat) (sz : Nat) (h0 : Nat) (qd : Nat) : Met l yX1_init (.code yX1_init cX1_init 3 none :: tb) ({ frames := 2, cells := 45, slots := 1053, locals := 33 }) (va_Pc [.ref h0, .ref qd] (PW (dC, dI) sz [(h0, .inr (1, [.null, .null, .null, .null, .null, .null, .null, .int 0, .int 0, .int 0, .int 0]))] [])) (va_Qv (fun _ : Unit => True) (fun _ T9 => ∃ (q1 : Nat) (q2 : Nat) (q3 : Nat) (q4 : Nat) (q5 : Nat) (q6 : Nat), QW (dC, dI) (va_A [(h0, .inr (1, [.null, .null, .null, .null, .null, .null, .null, .int 0, .int 0, .int 0, .int 0]))] sz) [(h0, .inr (1, [.ref qd, .ref q1, .ref q2, .ref q3, .ref q4, .ref q5, .ref q6, .int 0, .int 0, .int 0, .int 0]))] [] T9) (va_A [(h0, .inr (1, [.null, .null, .null, .null, .null, .null, .null, .int 0, .int 0, .int 0, .int 0]))] sz)) 45 1053 (va_A [(h0, .inr (1, [.null, .null, .null, .null, .null, .null, .null, .int 0, .int 0, .int 0, .int 0]))] sz) := by
  refine Met.ofW (cc := cX1_init) (maxL := 3) (ret := none) (by decide) rfl ?_
  intro p e s m args below meth c s₁ B hml hv
  obtain ⟨rfl, hsz, hP, hK, hD0, hE⟩ := hv
  have hx := B.exec
  have hb := B.bytes
  have hr := B.returns
  have hts : ∀ w ∈ tb, w.before _ s = true := fun w h => atoms_spec (ws := .code yX1_init cX1_init 3 none :: tb) B.pre w (List.mem_cons_of_mem _ h)
  have hown : s.vm.findClass RX1 = some m.cls := findClass_of_methodNamed B.named
  have hlocks := B.notSynchronized
  have hin : meth.name = "<init>" := (name_of_methodNamed B.named B.method).1
  subst hsz
  have hD := hD0.self (sz := s.heap.size)
  generalize hAe : va_A [(h0, .inr (1, [.null, .null, .null, .null, .null, .null, .null, .int 0, .int 0, .int 0, .int 0]))] s.heap.size = A at hD ⊢
  have hA : ∀ q : Nat, s.heap.size ≤ q → A q := fun q h => by rw [← hAe]; exact Or.inr h
  have hS : va_S A s.heap s.heap [] := va_S.rf
  have hP : va_P (dC, dI) vwCl [(h0, .inr (1, [.null, .null, .null, .null, .null, .null, .null, .int 0, .int 0, .int 0, .int 0]))] s.heap := hP
  have hl := lv_entry ([.ref h0, .ref qd]) (n := 3) (Nat.le_of_ble_eq_true rfl)
  rw [lg_entry_eq]
  generalize (lg_sl ([.ref h0, .ref qd]) ++ List.replicate (3 - (lg_sl ([.ref h0, .ref qd])).length) Slot.unset).toArray = ls at hl ⊢
  have hl : lv_has ls 3 [(0, .ref h0), (1, .ref qd)] := hl
  refine lv_aload_n hx hb dX1_init_0 rfl (lv_at hl 0 rfl) ?_
  refine W.objInit hx hb hown (hts _ kt_61) (hts _ kt_1) (hts _ kt_2) rfl (by rw [hml]; exact hl.1) rfl dX1_init_1 (Nat.le_of_ble_eq_true rfl) (Nat.le_of_ble_eq_true rfl) ?_
  refine W.eq (g2 := F0 m 4 ls []) rfl ?_
  refine lv_aload_n hx hb dX1_init_4 rfl (lv_at hl 0 rfl) ?_
  refine va_new (ci := 0) (fs := [.null, .int 0, .int 0]) (C := RX0) (T := TX0) (N := 3) hx hb hts it_0 tyX0 tyX0_ok hown (hts _ kt_62) (hts _ kt_9) (hts _ kt_10) hK hP hD hS hA rfl df_0 (by show _ + 1 ≤ 45; omega) (by show _ + 3 ≤ 1053; omega) dX1_init_5 (fun q_1 H hP hD hS => ?_)
  have hP : va_P (dC, dI) vwCl [(h0, .inr (1, [.null, .null, .null, .null, .null, .null, .null, .int 0, .int 0, .int 0, .int 0])), (q_1, .inr (0, [.null, .int 0, .int 0]))] H := hP
  have hD : va_D A [(h0, .inr (1, [.null, .null, .null, .null, .null, .null, .null, .int 0, .int 0, .int 0, .int 0])), (q_1, .inr (0, [.null, .int 0, .int 0]))] := hD
  refine lv_dup hx hb dX1_init_8 rfl ?_
  refine lv_bipush (v := 91) hx hb dX1_init_9 (by decide) ?_
  refine lv_topi (fun x ex => ?_)
  obtain rfl : x = nI 91 := ex.trans (by decide)
  have hPc := hP.sub (ws' := [(q_1, .inr (0, [.null, .int 0, .int 0]))]) [1] rfl
  have hDc := hD.sub (ws' := [(q_1, .inr (0, [.null, .int 0, .int 0]))]) [1] (by decide) rfl
  have hKc := hK.sub (tys' := []) [] rfl
  have hFc := va_free (wc := [(q_1, .inr (0, [.null, .int 0, .int 0]))]) hD hS hA [1] rfl
  refine va_callv (va_runI (As := [.int (nI 91)]) (rest := [.ref q_1, .ref h0]) ⟨hx, hb, hml, hown, hts⟩ (c_X0_init l dC dI H.size q_1 91 (by omega)) ⟨callB_of 1 hts (gi kt_11) rfl rfl rfl (hts _ kt_10) (hts _ kt_63) (by decide +kernel) ⟨Nat.le_of_ble_eq_true rfl, Nat.le_of_ble_eq_true rfl⟩, rfl, (hts _ kt_13)⟩ ⟨fun a U g mk q => ⟨q.1, PW.calling q.2⟩, fun U hU hW => ⟨rfl, PW.mk hU hW hPc hKc hDc hE⟩⟩ rfl rfl hl.1 rfl (lv_room (Nat.le_of_ble_eq_true rfl)) dX1_init_11 ⟨by show _ + 1 ≤ 45; omega, by show _ + 91 ≤ 1053; omega⟩) hS (fun q _ h => hFc q h) hFc (fun u t H1 locs ht hvm hw hB hz1 hk1 hS => ?_)
  obtain ⟨q_3, cA_4, hB1⟩ := hB
  obtain ⟨hP, hD, hK⟩ := QW.join (wr := [(h0, .inr (1, [.null, .null, .null, .null, .null, .null, .null, .int 0, .int 0, .int 0, .int 0]))]) hP hD hK [1] [0] rfl rfl (by decide) (by decide) hk1 hFc ht hvm hB1
  generalize H1 = H at hP hS ⊢
  have hK : va_K (dC, dI) vwCl [(cA_4, .int)] s := hK.sub [0] rfl
  have hP : va_P (dC, dI) vwCl [(h0, .inr (1, [.null, .null, .null, .null, .null, .null, .null, .int 0, .int 0, .int 0, .int 0])), (q_1, .inr (0, [.ref q_3, .int 0, .int 0])), (q_3, .inl (cA_4, 91, .inl (fun _ => 0)))] H := hP
  have hD : va_D A [(h0, .inr (1, [.null, .null, .null, .null, .null, .null, .null, .int 0, .int 0, .int 0, .int 0])), (q_1, .inr (0, [.ref q_3, .int 0, .int 0])), (q_3, .inl (cA_4, 91, .inl (fun _ => 0)))] := hD
  refine va_putF (D := (dC, dI)) (ci := 1) (v := .ref q_1) (ty := .object "PostGate$Bytes") (C := RX1) (T := TX1) (N := 11) hx hb hts it_1 tyX1 tyX1_ok nmX1 hown hK hP hD hS 0 rfl rfl 1 (by decide) (hts _ kt_64) (fun _ h9 => h9) rfl hin rfl (by decide +kernel) rfl rfl (Nat.le_of_ble_eq_true rfl) dX1_init_14 (fun H locs hP hD hS => ?_)
  have hP : va_P (dC, dI) vwCl [(h0, .inr (1, [.null, .ref q_1, .null, .null, .null, .null, .null, .int 0, .int 0, .int 0, .int 0])), (q_1, .inr (0, [.ref q_3, .int 0, .int 0])), (q_3, .inl (cA_4, 91, .inl (fun _ => 0)))] H := hP
  have hD : va_D A [(h0, .inr (1, [.null, .ref q_1, .null, .null, .null, .null, .null, .int 0, .int 0, .int 0, .int 0])), (q_1, .inr (0, [.ref q_3, .int 0, .int 0])), (q_3, .inl (cA_4, 91, .inl (fun _ => 0)))] := hD
  refine lv_aload_n hx hb dX1_init_17 rfl (lv_at hl 0 rfl) ?_
  refine va_new (ci := 0) (fs := [.null, .int 0, .int 0]) (C := RX0) (T := TX0) (N := 3) hx hb hts it_0 tyX0 tyX0_ok hown (hts _ kt_62) (hts _ kt_9) (hts _ kt_10) hK hP hD hS hA rfl df_0 (by show _ + 1 ≤ 45; omega) (by show _ + 3 ≤ 1053; omega) dX1_init_18 (fun q_5 H hP hD hS => ?_)
  have hP : va_P (dC, dI) vwCl [(h0, .inr (1, [.null, .ref q_1, .null, .null, .null, .null, .null, .int 0, .int 0, .int 0, .int 0])), (q_1, .inr (0, [.ref q_3, .int 0, .int 0])), (q_3, .inl (cA_4, 91, .inl (fun _ => 0))), (q_5, .inr (0, [.null, .int 0, .int 0]))] H := hP
  have hD : va_D A [(h0, .inr (1, [.null, .ref q_1, .null, .null, .null, .null, .null, .int 0, .int 0, .int 0, .int 0])), (q_1, .inr (0, [.ref q_3, .int 0, .int 0])), (q_3, .inl (cA_4, 91, .inl (fun _ => 0))), (q_5, .inr (0, [.null, .int 0, .int 0]))] := hD
  refine lv_dup hx hb dX1_init_21 rfl ?_
  refine lv_bipush (v := 30) hx hb dX1_init_22 (by decide) ?_
  refine lv_topi (fun x ex => ?_)
  obtain rfl : x = nI 30 := ex.trans (by decide)
  have hPc := hP.sub (ws' := [(q_5, .inr (0, [.null, .int 0, .int 0]))]) [3] rfl
  have hDc := hD.sub (ws' := [(q_5, .inr (0, [.null, .int 0, .int 0]))]) [3] (by decide) rfl
  have hKc := hK.sub (tys' := []) [] rfl
  have hFc := va_free (wc := [(q_5, .inr (0, [.null, .int 0, .int 0]))]) hD hS hA [3] rfl
  refine va_callv (va_runI (As := [.int (nI 30)]) (rest := [.ref q_5, .ref h0]) ⟨hx, hb, hml, hown, hts⟩ (c_X0_init l dC dI H.size q_5 30 (by omega)) ⟨callB_of 1 hts (gi kt_11) rfl rfl rfl (hts _ kt_10) (hts _ kt_63) (by decide +kernel) ⟨Nat.le_of_ble_eq_true rfl, Nat.le_of_ble_eq_true rfl⟩, rfl, (hts _ kt_13)⟩ ⟨fun a U g mk q => ⟨q.1, PW.calling q.2⟩, fun U hU hW => ⟨rfl, PW.mk hU hW hPc hKc hDc hE⟩⟩ rfl rfl hl.1 rfl (lv_room (Nat.le_of_ble_eq_true rfl)) dX1_init_24 ⟨by show _ + 1 ≤ 45; omega, by show _ + 30 ≤ 1053; omega⟩) hS (fun q _ h => hFc q h) hFc (fun u t H1 locs ht hvm hw hB hz1 hk1 hS => ?_)
  obtain ⟨q_7, cA_8, hB1⟩ := hB
  obtain ⟨hP, hD, hK⟩ := QW.join (wr := [(h0, .inr (1, [.null, .ref q_1, .null, .null, .null, .null, .null, .int 0, .int 0, .int 0, .int 0])), (q_1, .inr (0, [.ref q_3, .int 0, .int 0])), (q_3, .inl (cA_4, 91, .inl (fun _ => 0)))]) hP hD hK [3] [0, 1, 2] rfl rfl (by decide) (by decide) hk1 hFc ht hvm hB1
  generalize H1 = H at hP hS ⊢
  have hK : va_K (dC, dI) vwCl [(cA_4, .int), (cA_8, .int)] s := hK.sub [0, 1] rfl
  have hP : va_P (dC, dI) vwCl [(h0, .inr (1, [.null, .ref q_1, .null, .null, .null, .null, .null, .int 0, .int 0, .int 0, .int 0])), (q_1, .inr (0, [.ref q_3, .int 0, .int 0])), (q_3, .inl (cA_4, 91, .inl (fun _ => 0))), (q_5, .inr (0, [.ref q_7, .int 0, .int 0])), (q_7, .inl (cA_8, 30, .inl (fun _ => 0)))] H := hP
  have hD : va_D A [(h0, .inr (1, [.null, .ref q_1, .null, .null, .null, .null, .null, .int 0, .int 0, .int 0, .int 0])), (q_1, .inr (0, [.ref q_3, .int 0, .int 0])), (q_3, .inl (cA_4, 91, .inl (fun _ => 0))), (q_5, .inr (0, [.ref q_7, .int 0, .int 0])), (q_7, .inl (cA_8, 30, .inl (fun _ => 0)))] := hD
  refine va_putF (D := (dC, dI)) (ci := 1) (v := .ref q_5) (ty := .object "PostGate$Bytes") (C := RX1) (T := TX1) (N := 11) hx hb hts it_1 tyX1 tyX1_ok nmX1 hown hK hP hD hS 0 rfl rfl 2 (by decide) (hts _ kt_65) (fun _ h9 => h9) rfl hin rfl (by decide +kernel) rfl rfl (Nat.le_of_ble_eq_true rfl) dX1_init_27 (fun H locs hP hD hS => ?_)
  have hP : va_P (dC, dI) vwCl [(h0, .inr (1, [.null, .ref q_1, .ref q_5, .null, .null, .null, .null, .int 0, .int 0, .int 0, .int 0])), (q_1, .inr (0, [.ref q_3, .int 0, .int 0])), (q_3, .inl (cA_4, 91, .inl (fun _ => 0))), (q_5, .inr (0, [.ref q_7, .int 0, .int 0])), (q_7, .inl (cA_8, 30, .inl (fun _ => 0)))] H := hP
  have hD : va_D A [(h0, .inr (1, [.null, .ref q_1, .ref q_5, .null, .null, .null, .null, .int 0, .int 0, .int 0, .int 0])), (q_1, .inr (0, [.ref q_3, .int 0, .int 0])), (q_3, .inl (cA_4, 91, .inl (fun _ => 0))), (q_5, .inr (0, [.ref q_7, .int 0, .int 0])), (q_7, .inl (cA_8, 30, .inl (fun _ => 0)))] := hD
  refine lv_aload_n hx hb dX1_init_30 rfl (lv_at hl 0 rfl) ?_
  refine va_new (ci := 0) (fs := [.null, .int 0, .int 0]) (C := RX0) (T := TX0) (N := 3) hx hb hts it_0 tyX0 tyX0_ok hown (hts _ kt_62) (hts _ kt_9) (hts _ kt_10) hK hP hD hS hA rfl df_0 (by show _ + 1 ≤ 45; omega) (by show _ + 3 ≤ 1053; omega) dX1_init_31 (fun q_9 H hP hD hS => ?_)
  have hP : va_P (dC, dI) vwCl [(h0, .inr (1, [.null, .ref q_1, .ref q_5, .null, .null, .null, .null, .int 0, .int 0, .int 0, .int 0])), (q_1, .inr (0, [.ref q_3, .int 0, .int 0])), (q_3, .inl (cA_4, 91, .inl (fun _ => 0))), (q_5, .inr (0, [.ref q_7, .int 0, .int 0])), (q_7, .inl (cA_8, 30, .inl (fun _ => 0))), (q_9, .inr (0, [.null, .int 0, .int 0]))] H := hP
  have hD : va_D A [(h0, .inr (1, [.null, .ref q_1, .ref q_5, .null, .null, .null, .null, .int 0, .int 0, .int 0, .int 0])), (q_1, .inr (0, [.ref q_3, .int 0, .int 0])), (q_3, .inl (cA_4, 91, .inl (fun _ => 0))), (q_5, .inr (0, [.ref q_7, .int 0, .int 0])), (q_7, .inl (cA_8, 30, .inl (fun _ => 0))), (q_9, .inr (0, [.null, .int 0, .int 0]))] := hD
  refine lv_dup hx hb dX1_init_34 rfl ?_
  refine lv_bipush (v := 60) hx hb dX1_init_35 (by decide) ?_
  refine lv_topi (fun x ex => ?_)
  obtain rfl : x = nI 60 := ex.trans (by decide)
  have hPc := hP.sub (ws' := [(q_9, .inr (0, [.null, .int 0, .int 0]))]) [5] rfl
  have hDc := hD.sub (ws' := [(q_9, .inr (0, [.null, .int 0, .int 0]))]) [5] (by decide) rfl
  have hKc := hK.sub (tys' := []) [] rfl
  have hFc := va_free (wc := [(q_9, .inr (0, [.null, .int 0, .int 0]))]) hD hS hA [5] rfl
  refine va_callv (va_runI (As := [.int (nI 60)]) (rest := [.ref q_9, .ref h0]) ⟨hx, hb, hml, hown, hts⟩ (c_X0_init l dC dI H.size q_9 60 (by omega)) ⟨callB_of 1 hts (gi kt_11) rfl rfl rfl (hts _ kt_10) (hts _ kt_63) (by decide +kernel) ⟨Nat.le_of_ble_eq_true rfl, Nat.le_of_ble_eq_true rfl⟩, rfl, (hts _ kt_13)⟩ ⟨fun a U g mk q => ⟨q.1, PW.calling q.2⟩, fun U hU hW => ⟨rfl, PW.mk hU hW hPc hKc hDc hE⟩⟩ rfl rfl hl.1 rfl (lv_room (Nat.le_of_ble_eq_true rfl)) dX1_init_37 ⟨by show _ + 1 ≤ 45; omega, by show _ + 60 ≤ 1053; omega⟩) hS (fun q _ h => hFc q h) hFc (fun u t H1 locs ht hvm hw hB hz1 hk1 hS => ?_)
  obtain ⟨q_11, cA_12, hB1⟩ := hB
  obtain ⟨hP, hD, hK⟩ := QW.join (wr := [(h0, .inr (1, [.null, .ref q_1, .ref q_5, .null, .null, .null, .null, .int 0, .int 0, .int 0, .int 0])), (q_1, .inr (0, [.ref q_3, .int 0, .int 0])), (q_3, .inl (cA_4, 91, .inl (fun _ => 0))), (q_5, .inr (0, [.ref q_7, .int 0, .int 0])), (q_7, .inl (cA_8, 30, .inl (fun _ => 0)))]) hP hD hK [5] [0, 1, 2, 3, 4] rfl rfl (by decide) (by decide) hk1 hFc ht hvm hB1
  generalize H1 = H at hP hS ⊢
  have hK : va_K (dC, dI) vwCl [(cA_4, .int), (cA_8, .int), (cA_12, .int)] s := hK.sub [0, 1, 2] rfl
  have hP : va_P (dC, dI) vwCl [(h0, .inr (1, [.null, .ref q_1, .ref q_5, .null, .null, .null, .null, .int 0, .int 0, .int 0, .int 0])), (q_1, .inr (0, [.ref q_3, .int 0, .int 0])), (q_3, .inl (cA_4, 91, .inl (fun _ => 0))), (q_5, .inr (0, [.ref q_7, .int 0, .int 0])), (q_7, .inl (cA_8, 30, .inl (fun _ => 0))), (q_9, .inr (0, [.ref q_11, .int 0, .int 0])), (q_11, .inl (cA_12, 60, .inl (fun _ => 0)))] H := hP
  have hD : va_D A [(h0, .inr (1, [.null, .ref q_1, .ref q_5, .null, .null, .null, .null, .int 0, .int 0, .int 0, .int 0])), (q_1, .inr (0, [.ref q_3, .int 0, .int 0])), (q_3, .inl (cA_4, 91, .inl (fun _ => 0))), (q_5, .inr (0, [.ref q_7, .int 0, .int 0])), (q_7, .inl (cA_8, 30, .inl (fun _ => 0))), (q_9, .inr (0, [.ref q_11, .int 0, .int 0])), (q_11, .inl (cA_12, 60, .inl (fun _ => 0)))] := hD
  refine va_putF (D := (dC, dI)) (ci := 1) (v := .ref q_9) (ty := .object "PostGate$Bytes") (C := RX1) (T := TX1) (N := 11) hx hb hts it_1 tyX1 tyX1_ok nmX1 hown hK hP hD hS 0 rfl rfl 3 (by decide) (hts _ kt_66) (fun _ h9 => h9) rfl hin rfl (by decide +kernel) rfl rfl (Nat.le_of_ble_eq_true rfl) dX1_init_40 (fun H locs hP hD hS => ?_)
  have hP : va_P (dC, dI) vwCl [(h0, .inr (1, [.null, .ref q_1, .ref q_5, .ref q_9, .null, .null, .null, .int 0, .int 0, .int 0, .int 0])), (q_1, .inr (0, [.ref q_3, .int 0, .int 0])), (q_3, .inl (cA_4, 91, .inl (fun _ => 0))), (q_5, .inr (0, [.ref q_7, .int 0, .int 0])), (q_7, .inl (cA_8, 30, .inl (fun _ => 0))), (q_9, .inr (0, [.ref q_11, .int 0, .int 0])), (q_11, .inl (cA_12, 60, .inl (fun _ => 0)))] H := hP
  have hD : va_D A [(h0, .inr (1, [.null, .ref q_1, .ref q_5, .ref q_9, .null, .null, .null, .int 0, .int 0, .int 0, .int 0])), (q_1, .inr (0, [.ref q_3, .int 0, .int 0])), (q_3, .inl (cA_4, 91, .inl (fun _ => 0))), (q_5, .inr (0, [.ref q_7, .int 0, .int 0])), (q_7, .inl (cA_8, 30, .inl (fun _ => 0))), (q_9, .inr (0, [.ref q_11, .int 0, .int 0])), (q_11, .inl (cA_12, 60, .inl (fun _ => 0)))] := hD
  refine lv_aload_n hx hb dX1_init_43 rfl (lv_at hl 0 rfl) ?_
  refine va_new (ci := 0) (fs := [.null, .int 0, .int 0]) (C := RX0) (T := TX0) (N := 3) hx hb hts it_0 tyX0 tyX0_ok hown (hts _ kt_62) (hts _ kt_9) (hts _ kt_10) hK hP hD hS hA rfl df_0 (by show _ + 1 ≤ 45; omega) (by show _ + 3 ≤ 1053; omega) dX1_init_44 (fun q_13 H hP hD hS => ?_)
  have hP : va_P (dC, dI) vwCl [(h0, .inr (1, [.null, .ref q_1, .ref q_5, .ref q_9, .null, .null, .null, .int 0, .int 0, .int 0, .int 0])), (q_1, .inr (0, [.ref q_3, .int 0, .int 0])), (q_3, .inl (cA_4, 91, .inl (fun _ => 0))), (q_5, .inr (0, [.ref q_7, .int 0, .int 0])), (q_7, .inl (cA_8, 30, .inl (fun _ => 0))), (q_9, .inr (0, [.ref q_11, .int 0, .int 0])), (q_11, .inl (cA_12, 60, .inl (fun _ => 0))), (q_13, .inr (0, [.null, .int 0, .int 0]))] H := hP
  have hD : va_D A [(h0, .inr (1, [.null, .ref q_1, .ref q_5, .ref q_9, .null, .null, .null, .int 0, .int 0, .int 0, .int 0])), (q_1, .inr (0, [.ref q_3, .int 0, .int 0])), (q_3, .inl (cA_4, 91, .inl (fun _ => 0))), (q_5, .inr (0, [.ref q_7, .int 0, .int 0])), (q_7, .inl (cA_8, 30, .inl (fun _ => 0))), (q_9, .inr (0, [.ref q_11, .int 0, .int 0])), (q_11, .inl (cA_12, 60, .inl (fun _ => 0))), (q_13, .inr (0, [.null, .int 0, .int 0]))] := hD
  refine lv_dup hx hb dX1_init_47 rfl ?_
  refine lv_bipush (v := 15) hx hb dX1_init_48 (by decide) ?_
  refine lv_topi (fun x ex => ?_)
  obtain rfl : x = nI 15 := ex.trans (by decide)
  have hPc := hP.sub (ws' := [(q_13, .inr (0, [.null, .int 0, .int 0]))]) [7] rfl
  have hDc := hD.sub (ws' := [(q_13, .inr (0, [.null, .int 0, .int 0]))]) [7] (by decide) rfl
  have hKc := hK.sub (tys' := []) [] rfl
  have hFc := va_free (wc := [(q_13, .inr (0, [.null, .int 0, .int 0]))]) hD hS hA [7] rfl
  refine va_callv (va_runI (As := [.int (nI 15)]) (rest := [.ref q_13, .ref h0]) ⟨hx, hb, hml, hown, hts⟩ (c_X0_init l dC dI H.size q_13 15 (by omega)) ⟨callB_of 1 hts (gi kt_11) rfl rfl rfl (hts _ kt_10) (hts _ kt_63) (by decide +kernel) ⟨Nat.le_of_ble_eq_true rfl, Nat.le_of_ble_eq_true rfl⟩, rfl, (hts _ kt_13)⟩ ⟨fun a U g mk q => ⟨q.1, PW.calling q.2⟩, fun U hU hW => ⟨rfl, PW.mk hU hW hPc hKc hDc hE⟩⟩ rfl rfl hl.1 rfl (lv_room (Nat.le_of_ble_eq_true rfl)) dX1_init_50 ⟨by show _ + 1 ≤ 45; omega, by show _ + 15 ≤ 1053; omega⟩) hS (fun q _ h => hFc q h) hFc (fun u t H1 locs ht hvm hw hB hz1 hk1 hS => ?_)
  obtain ⟨q_15, cA_16, hB1⟩ := hB
  obtain ⟨hP, hD, hK⟩ := QW.join (wr := [(h0, .inr (1, [.null, .ref q_1, .ref q_5, .ref q_9, .null, .null, .null, .int 0, .int 0, .int 0, .int 0])), (q_1, .inr (0, [.ref q_3, .int 0, .int 0])), (q_3, .inl (cA_4, 91, .inl (fun _ => 0))), (q_5, .inr (0, [.ref q_7, .int 0, .int 0])), (q_7, .inl (cA_8, 30, .inl (fun _ => 0))), (q_9, .inr (0, [.ref q_11, .int 0, .int 0])), (q_11, .inl (cA_12, 60, .inl (fun _ => 0)))]) hP hD hK [7] [0, 1, 2, 3, 4, 5, 6] rfl rfl (by decide) (by decide) hk1 hFc ht hvm hB1
  generalize H1 = H at hP hS ⊢
  have hK : va_K (dC, dI) vwCl [(cA_4, .int), (cA_8, .int), (cA_12, .int), (cA_16, .int)] s := hK.sub [0, 1, 2, 3] rfl
  have hP : va_P (dC, dI) vwCl [(h0, .inr (1, [.null, .ref q_1, .ref q_5, .ref q_9, .null, .null, .null, .int 0, .int 0, .int 0, .int 0])), (q_1, .inr (0, [.ref q_3, .int 0, .int 0])), (q_3, .inl (cA_4, 91, .inl (fun _ => 0))), (q_5, .inr (0, [.ref q_7, .int 0, .int 0])), (q_7, .inl (cA_8, 30, .inl (fun _ => 0))), (q_9, .inr (0, [.ref q_11, .int 0, .int 0])), (q_11, .inl (cA_12, 60, .inl (fun _ => 0))), (q_13, .inr (0, [.ref q_15, .int 0, .int 0])), (q_15, .inl (cA_16, 15, .inl (fun _ => 0)))] H := hP
  have hD : va_D A [(h0, .inr (1, [.null, .ref q_1, .ref q_5, .ref q_9, .null, .null, .null, .int 0, .int 0, .int 0, .int 0])), (q_1, .inr (0, [.ref q_3, .int 0, .int 0])), (q_3, .inl (cA_4, 91, .inl (fun _ => 0))), (q_5, .inr (0, [.ref q_7, .int 0, .int 0])), (q_7, .inl (cA_8, 30, .inl (fun _ => 0))), (q_9, .inr (0, [.ref q_11, .int 0, .int 0])), (q_11, .inl (cA_12, 60, .inl (fun _ => 0))), (q_13, .inr (0, [.ref q_15, .int 0, .int 0])), (q_15, .inl (cA_16, 15, .inl (fun _ => 0)))] := hD
  refine va_putF (D := (dC, dI)) (ci := 1) (v := .ref q_13) (ty := .object "PostGate$Bytes") (C := RX1) (T := TX1) (N := 11) hx hb hts it_1 tyX1 tyX1_ok nmX1 hown hK hP hD hS 0 rfl rfl 4 (by decide) (hts _ kt_67) (fun _ h9 => h9) rfl hin rfl (by decide +kernel) rfl rfl (Nat.le_of_ble_eq_true rfl) dX1_init_53 (fun H locs hP hD hS => ?_)
  have hP : va_P (dC, dI) vwCl [(h0, .inr (1, [.null, .ref q_1, .ref q_5, .ref q_9, .ref q_13, .null, .null, .int 0, .int 0, .int 0, .int 0])), (q_1, .inr (0, [.ref q_3, .int 0, .int 0])), (q_3, .inl (cA_4, 91, .inl (fun _ => 0))), (q_5, .inr (0, [.ref q_7, .int 0, .int 0])), (q_7, .inl (cA_8, 30, .inl (fun _ => 0))), (q_9, .inr (0, [.ref q_11, .int 0, .int 0])), (q_11, .inl (cA_12, 60, .inl (fun _ => 0))), (q_13, .inr (0, [.ref q_15, .int 0, .int 0])), (q_15, .inl (cA_16, 15, .inl (fun _ => 0)))] H := hP
  have hD : va_D A [(h0, .inr (1, [.null, .ref q_1, .ref q_5, .ref q_9, .ref q_13, .null, .null, .int 0, .int 0, .int 0, .int 0])), (q_1, .inr (0, [.ref q_3, .int 0, .int 0])), (q_3, .inl (cA_4, 91, .inl (fun _ => 0))), (q_5, .inr (0, [.ref q_7, .int 0, .int 0])), (q_7, .inl (cA_8, 30, .inl (fun _ => 0))), (q_9, .inr (0, [.ref q_11, .int 0, .int 0])), (q_11, .inl (cA_12, 60, .inl (fun _ => 0))), (q_13, .inr (0, [.ref q_15, .int 0, .int 0])), (q_15, .inl (cA_16, 15, .inl (fun _ => 0)))] := hD
  refine lv_aload_n hx hb dX1_init_56 rfl (lv_at hl 0 rfl) ?_
  refine lv_bipush (v := 12) hx hb dX1_init_57 (by decide) ?_
  refine va_newq (N' := 12) hx hb hown (hts _ kt_62) (hE.ao0) hK hP hD hS hA (by decide) (by decide) (by decide) (by show _ + 1 ≤ 45; omega) (by show _ + 12 ≤ 1053; omega) dX1_init_59 (fun q_17 cA_18 H hK hP hD hS => ?_)
  have hK : va_K (dC, dI) vwCl [(cA_4, .int), (cA_8, .int), (cA_12, .int), (cA_16, .int), (cA_18, .object RX0)] s := hK
  have hP : va_P (dC, dI) vwCl [(h0, .inr (1, [.null, .ref q_1, .ref q_5, .ref q_9, .ref q_13, .null, .null, .int 0, .int 0, .int 0, .int 0])), (q_1, .inr (0, [.ref q_3, .int 0, .int 0])), (q_3, .inl (cA_4, 91, .inl (fun _ => 0))), (q_5, .inr (0, [.ref q_7, .int 0, .int 0])), (q_7, .inl (cA_8, 30, .inl (fun _ => 0))), (q_9, .inr (0, [.ref q_11, .int 0, .int 0])), (q_11, .inl (cA_12, 60, .inl (fun _ => 0))), (q_13, .inr (0, [.ref q_15, .int 0, .int 0])), (q_15, .inl (cA_16, 15, .inl (fun _ => 0))), (q_17, .inl (cA_18, 12, .inr (.inr (.inr (.inr (fun _ => none))))))] H := hP
  have hD : va_D A [(h0, .inr (1, [.null, .ref q_1, .ref q_5, .ref q_9, .ref q_13, .null, .null, .int 0, .int 0, .int 0, .int 0])), (q_1, .inr (0, [.ref q_3, .int 0, .int 0])), (q_3, .inl (cA_4, 91, .inl (fun _ => 0))), (q_5, .inr (0, [.ref q_7, .int 0, .int 0])), (q_7, .inl (cA_8, 30, .inl (fun _ => 0))), (q_9, .inr (0, [.ref q_11, .int 0, .int 0])), (q_11, .inl (cA_12, 60, .inl (fun _ => 0))), (q_13, .inr (0, [.ref q_15, .int 0, .int 0])), (q_15, .inl (cA_16, 15, .inl (fun _ => 0))), (q_17, .inl (cA_18, 12, .inr (.inr (.inr (.inr (fun _ => none))))))] := hD
  refine va_putF (D := (dC, dI)) (ci := 1) (v := .ref q_17) (ty := .array (.object "PostGate$Bytes")) (C := RX1) (T := TX1) (N := 11) hx hb hts it_1 tyX1 tyX1_ok nmX1 hown hK hP hD hS 0 rfl rfl 5 (by decide) (hts _ kt_68) (fun _ h9 => h9) rfl hin rfl (by decide +kernel) rfl rfl (Nat.le_of_ble_eq_true rfl) dX1_init_62 (fun H locs hP hD hS => ?_)
  have hP : va_P (dC, dI) vwCl [(h0, .inr (1, [.null, .ref q_1, .ref q_5, .ref q_9, .ref q_13, .ref q_17, .null, .int 0, .int 0, .int 0, .int 0])), (q_1, .inr (0, [.ref q_3, .int 0, .int 0])), (q_3, .inl (cA_4, 91, .inl (fun _ => 0))), (q_5, .inr (0, [.ref q_7, .int 0, .int 0])), (q_7, .inl (cA_8, 30, .inl (fun _ => 0))), (q_9, .inr (0, [.ref q_11, .int 0, .int 0])), (q_11, .inl (cA_12, 60, .inl (fun _ => 0))), (q_13, .inr (0, [.ref q_15, .int 0, .int 0])), (q_15, .inl (cA_16, 15, .inl (fun _ => 0))), (q_17, .inl (cA_18, 12, .inr (.inr (.inr (.inr (fun _ => none))))))] H := hP
  have hD : va_D A [(h0, .inr (1, [.null, .ref q_1, .ref q_5, .ref q_9, .ref q_13, .ref q_17, .null, .int 0, .int 0, .int 0, .int 0])), (q_1, .inr (0, [.ref q_3, .int 0, .int 0])), (q_3, .inl (cA_4, 91, .inl (fun _ => 0))), (q_5, .inr (0, [.ref q_7, .int 0, .int 0])), (q_7, .inl (cA_8, 30, .inl (fun _ => 0))), (q_9, .inr (0, [.ref q_11, .int 0, .int 0])), (q_11, .inl (cA_12, 60, .inl (fun _ => 0))), (q_13, .inr (0, [.ref q_15, .int 0, .int 0])), (q_15, .inl (cA_16, 15, .inl (fun _ => 0))), (q_17, .inl (cA_18, 12, .inr (.inr (.inr (.inr (fun _ => none))))))] := hD
  refine lv_aload_n hx hb dX1_init_65 rfl (lv_at hl 0 rfl) ?_
  refine lv_bipush (v := 11) hx hb dX1_init_66 (by decide) ?_
  refine va_newq (N' := 11) hx hb hown (hts _ kt_69) (hE.ao10) hK hP hD hS hA (by decide) (by decide) (by decide) (by show _ + 1 ≤ 45; omega) (by show _ + 11 ≤ 1053; omega) dX1_init_68 (fun q_19 cA_20 H hK hP hD hS => ?_)
  have hK : va_K (dC, dI) vwCl [(cA_4, .int), (cA_8, .int), (cA_12, .int), (cA_16, .int), (cA_18, .object RX0), (cA_20, .object RX10)] s := hK
  have hP : va_P (dC, dI) vwCl [(h0, .inr (1, [.null, .ref q_1, .ref q_5, .ref q_9, .ref q_13, .ref q_17, .null, .int 0, .int 0, .int 0, .int 0])), (q_1, .inr (0, [.ref q_3, .int 0, .int 0])), (q_3, .inl (cA_4, 91, .inl (fun _ => 0))), (q_5, .inr (0, [.ref q_7, .int 0, .int 0])), (q_7, .inl (cA_8, 30, .inl (fun _ => 0))), (q_9, .inr (0, [.ref q_11, .int 0, .int 0])), (q_11, .inl (cA_12, 60, .inl (fun _ => 0))), (q_13, .inr (0, [.ref q_15, .int 0, .int 0])), (q_15, .inl (cA_16, 15, .inl (fun _ => 0))), (q_17, .inl (cA_18, 12, .inr (.inr (.inr (.inr (fun _ => none)))))), (q_19, .inl (cA_20, 11, .inr (.inr (.inr (.inr (fun _ => none))))))] H := hP
  have hD : va_D A [(h0, .inr (1, [.null, .ref q_1, .ref q_5, .ref q_9, .ref q_13, .ref q_17, .null, .int 0, .int 0, .int 0, .int 0])), (q_1, .inr (0, [.ref q_3, .int 0, .int 0])), (q_3, .inl (cA_4, 91, .inl (fun _ => 0))), (q_5, .inr (0, [.ref q_7, .int 0, .int 0])), (q_7, .inl (cA_8, 30, .inl (fun _ => 0))), (q_9, .inr (0, [.ref q_11, .int 0, .int 0])), (q_11, .inl (cA_12, 60, .inl (fun _ => 0))), (q_13, .inr (0, [.ref q_15, .int 0, .int 0])), (q_15, .inl (cA_16, 15, .inl (fun _ => 0))), (q_17, .inl (cA_18, 12, .inr (.inr (.inr (.inr (fun _ => none)))))), (q_19, .inl (cA_20, 11, .inr (.inr (.inr (.inr (fun _ => none))))))] := hD
  refine va_putF (D := (dC, dI)) (ci := 1) (v := .ref q_19) (ty := .array (.object "PostGate$Term")) (C := RX1) (T := TX1) (N := 11) hx hb hts it_1 tyX1 tyX1_ok nmX1 hown hK hP hD hS 0 rfl rfl 6 (by decide) (hts _ kt_70) (fun _ h9 => h9) rfl hin rfl (by decide +kernel) rfl rfl (Nat.le_of_ble_eq_true rfl) dX1_init_71 (fun H locs hP hD hS => ?_)
  have hP : va_P (dC, dI) vwCl [(h0, .inr (1, [.null, .ref q_1, .ref q_5, .ref q_9, .ref q_13, .ref q_17, .ref q_19, .int 0, .int 0, .int 0, .int 0])), (q_1, .inr (0, [.ref q_3, .int 0, .int 0])), (q_3, .inl (cA_4, 91, .inl (fun _ => 0))), (q_5, .inr (0, [.ref q_7, .int 0, .int 0])), (q_7, .inl (cA_8, 30, .inl (fun _ => 0))), (q_9, .inr (0, [.ref q_11, .int 0, .int 0])), (q_11, .inl (cA_12, 60, .inl (fun _ => 0))), (q_13, .inr (0, [.ref q_15, .int 0, .int 0])), (q_15, .inl (cA_16, 15, .inl (fun _ => 0))), (q_17, .inl (cA_18, 12, .inr (.inr (.inr (.inr (fun _ => none)))))), (q_19, .inl (cA_20, 11, .inr (.inr (.inr (.inr (fun _ => none))))))] H := hP
  have hD : va_D A [(h0, .inr (1, [.null, .ref q_1, .ref q_5, .ref q_9, .ref q_13, .ref q_17, .ref q_19, .int 0, .int 0, .int 0, .int 0])), (q_1, .inr (0, [.ref q_3, .int 0, .int 0])), (q_3, .inl (cA_4, 91, .inl (fun _ => 0))), (q_5, .inr (0, [.ref q_7, .int 0, .int 0])), (q_7, .inl (cA_8, 30, .inl (fun _ => 0))), (q_9, .inr (0, [.ref q_11, .int 0, .int 0])), (q_11, .inl (cA_12, 60, .inl (fun _ => 0))), (q_13, .inr (0, [.ref q_15, .int 0, .int 0])), (q_15, .inl (cA_16, 15, .inl (fun _ => 0))), (q_17, .inl (cA_18, 12, .inr (.inr (.inr (.inr (fun _ => none)))))), (q_19, .inl (cA_20, 11, .inr (.inr (.inr (.inr (fun _ => none))))))] := hD
  refine lv_aload_n hx hb dX1_init_74 rfl (lv_at hl 0 rfl) ?_
  refine lv_iconst (v := 0) hx hb dX1_init_75 (by decide) ?_
  refine va_put (D := (dC, dI)) (ci := 1) (v := .int 0) (ty := .int) (C := RX1) (T := TX1) (N := 11) hx hb hts it_1 tyX1 tyX1_ok nmX1 hown hK hP hD hS 0 rfl rfl 7 (by decide) (hts _ kt_71) (fun _ h9 => h9) rfl (by decide +kernel) rfl rfl (Nat.le_of_ble_eq_true rfl) dX1_init_76 (fun H locs hP hD hS => ?_)
  have hP : va_P (dC, dI) vwCl [(h0, .inr (1, [.null, .ref q_1, .ref q_5, .ref q_9, .ref q_13, .ref q_17, .ref q_19, .int 0, .int 0, .int 0, .int 0])), (q_1, .inr (0, [.ref q_3, .int 0, .int 0])), (q_3, .inl (cA_4, 91, .inl (fun _ => 0))), (q_5, .inr (0, [.ref q_7, .int 0, .int 0])), (q_7, .inl (cA_8, 30, .inl (fun _ => 0))), (q_9, .inr (0, [.ref q_11, .int 0, .int 0])), (q_11, .inl (cA_12, 60, .inl (fun _ => 0))), (q_13, .inr (0, [.ref q_15, .int 0, .int 0])), (q_15, .inl (cA_16, 15, .inl (fun _ => 0))), (q_17, .inl (cA_18, 12, .inr (.inr (.inr (.inr (fun _ => none)))))), (q_19, .inl (cA_20, 11, .inr (.inr (.inr (.inr (fun _ => none))))))] H := hP
  have hD : va_D A [(h0, .inr (1, [.null, .ref q_1, .ref q_5, .ref q_9, .ref q_13, .ref q_17, .ref q_19, .int 0, .int 0, .int 0, .int 0])), (q_1, .inr (0, [.ref q_3, .int 0, .int 0])), (q_3, .inl (cA_4, 91, .inl (fun _ => 0))), (q_5, .inr (0, [.ref q_7, .int 0, .int 0])), (q_7, .inl (cA_8, 30, .inl (fun _ => 0))), (q_9, .inr (0, [.ref q_11, .int 0, .int 0])), (q_11, .inl (cA_12, 60, .inl (fun _ => 0))), (q_13, .inr (0, [.ref q_15, .int 0, .int 0])), (q_15, .inl (cA_16, 15, .inl (fun _ => 0))), (q_17, .inl (cA_18, 12, .inr (.inr (.inr (.inr (fun _ => none)))))), (q_19, .inl (cA_20, 11, .inr (.inr (.inr (.inr (fun _ => none))))))] := hD
  refine lv_aload_n hx hb dX1_init_79 rfl (lv_at hl 0 rfl) ?_
  refine lv_iconst (v := 0) hx hb dX1_init_80 (by decide) ?_
  refine va_put (D := (dC, dI)) (ci := 1) (v := .int 0) (ty := .boolean) (C := RX1) (T := TX1) (N := 11) hx hb hts it_1 tyX1 tyX1_ok nmX1 hown hK hP hD hS 0 rfl rfl 8 (by decide) (hts _ kt_72) (fun _ h9 => h9) rfl (by decide +kernel) rfl rfl (Nat.le_of_ble_eq_true rfl) dX1_init_81 (fun H locs hP hD hS => ?_)
  have hP : va_P (dC, dI) vwCl [(h0, .inr (1, [.null, .ref q_1, .ref q_5, .ref q_9, .ref q_13, .ref q_17, .ref q_19, .int 0, .int 0, .int 0, .int 0])), (q_1, .inr (0, [.ref q_3, .int 0, .int 0])), (q_3, .inl (cA_4, 91, .inl (fun _ => 0))), (q_5, .inr (0, [.ref q_7, .int 0, .int 0])), (q_7, .inl (cA_8, 30, .inl (fun _ => 0))), (q_9, .inr (0, [.ref q_11, .int 0, .int 0])), (q_11, .inl (cA_12, 60, .inl (fun _ => 0))), (q_13, .inr (0, [.ref q_15, .int 0, .int 0])), (q_15, .inl (cA_16, 15, .inl (fun _ => 0))), (q_17, .inl (cA_18, 12, .inr (.inr (.inr (.inr (fun _ => none)))))), (q_19, .inl (cA_20, 11, .inr (.inr (.inr (.inr (fun _ => none))))))] H := hP
  have hD : va_D A [(h0, .inr (1, [.null, .ref q_1, .ref q_5, .ref q_9, .ref q_13, .ref q_17, .ref q_19, .int 0, .int 0, .int 0, .int 0])), (q_1, .inr (0, [.ref q_3, .int 0, .int 0])), (q_3, .inl (cA_4, 91, .inl (fun _ => 0))), (q_5, .inr (0, [.ref q_7, .int 0, .int 0])), (q_7, .inl (cA_8, 30, .inl (fun _ => 0))), (q_9, .inr (0, [.ref q_11, .int 0, .int 0])), (q_11, .inl (cA_12, 60, .inl (fun _ => 0))), (q_13, .inr (0, [.ref q_15, .int 0, .int 0])), (q_15, .inl (cA_16, 15, .inl (fun _ => 0))), (q_17, .inl (cA_18, 12, .inr (.inr (.inr (.inr (fun _ => none)))))), (q_19, .inl (cA_20, 11, .inr (.inr (.inr (.inr (fun _ => none))))))] := hD
  refine lv_aload_n hx hb dX1_init_84 rfl (lv_at hl 0 rfl) ?_
  refine lv_iconst (v := 0) hx hb dX1_init_85 (by decide) ?_
  refine va_put (D := (dC, dI)) (ci := 1) (v := .int 0) (ty := .int) (C := RX1) (T := TX1) (N := 11) hx hb hts it_1 tyX1 tyX1_ok nmX1 hown hK hP hD hS 0 rfl rfl 9 (by decide) (hts _ kt_73) (fun _ h9 => h9) rfl (by decide +kernel) rfl rfl (Nat.le_of_ble_eq_true rfl) dX1_init_86 (fun H locs hP hD hS => ?_)
  have hP : va_P (dC, dI) vwCl [(h0, .inr (1, [.null, .ref q_1, .ref q_5, .ref q_9, .ref q_13, .ref q_17, .ref q_19, .int 0, .int 0, .int 0, .int 0])), (q_1, .inr (0, [.ref q_3, .int 0, .int 0])), (q_3, .inl (cA_4, 91, .inl (fun _ => 0))), (q_5, .inr (0, [.ref q_7, .int 0, .int 0])), (q_7, .inl (cA_8, 30, .inl (fun _ => 0))), (q_9, .inr (0, [.ref q_11, .int 0, .int 0])), (q_11, .inl (cA_12, 60, .inl (fun _ => 0))), (q_13, .inr (0, [.ref q_15, .int 0, .int 0])), (q_15, .inl (cA_16, 15, .inl (fun _ => 0))), (q_17, .inl (cA_18, 12, .inr (.inr (.inr (.inr (fun _ => none)))))), (q_19, .inl (cA_20, 11, .inr (.inr (.inr (.inr (fun _ => none))))))] H := hP
  have hD : va_D A [(h0, .inr (1, [.null, .ref q_1, .ref q_5, .ref q_9, .ref q_13, .ref q_17, .ref q_19, .int 0, .int 0, .int 0, .int 0])), (q_1, .inr (0, [.ref q_3, .int 0, .int 0])), (q_3, .inl (cA_4, 91, .inl (fun _ => 0))), (q_5, .inr (0, [.ref q_7, .int 0, .int 0])), (q_7, .inl (cA_8, 30, .inl (fun _ => 0))), (q_9, .inr (0, [.ref q_11, .int 0, .int 0])), (q_11, .inl (cA_12, 60, .inl (fun _ => 0))), (q_13, .inr (0, [.ref q_15, .int 0, .int 0])), (q_15, .inl (cA_16, 15, .inl (fun _ => 0))), (q_17, .inl (cA_18, 12, .inr (.inr (.inr (.inr (fun _ => none)))))), (q_19, .inl (cA_20, 11, .inr (.inr (.inr (.inr (fun _ => none))))))] := hD
  refine lv_aload_n hx hb dX1_init_89 rfl (lv_at hl 0 rfl) ?_
  refine lv_iconst (v := 0) hx hb dX1_init_90 (by decide) ?_
  refine va_put (D := (dC, dI)) (ci := 1) (v := .int 0) (ty := .int) (C := RX1) (T := TX1) (N := 11) hx hb hts it_1 tyX1 tyX1_ok nmX1 hown hK hP hD hS 0 rfl rfl 10 (by decide) (hts _ kt_74) (fun _ h9 => h9) rfl (by decide +kernel) rfl rfl (Nat.le_of_ble_eq_true rfl) dX1_init_91 (fun H locs hP hD hS => ?_)
  have hP : va_P (dC, dI) vwCl [(h0, .inr (1, [.null, .ref q_1, .ref q_5, .ref q_9, .ref q_13, .ref q_17, .ref q_19, .int 0, .int 0, .int 0, .int 0])), (q_1, .inr (0, [.ref q_3, .int 0, .int 0])), (q_3, .inl (cA_4, 91, .inl (fun _ => 0))), (q_5, .inr (0, [.ref q_7, .int 0, .int 0])), (q_7, .inl (cA_8, 30, .inl (fun _ => 0))), (q_9, .inr (0, [.ref q_11, .int 0, .int 0])), (q_11, .inl (cA_12, 60, .inl (fun _ => 0))), (q_13, .inr (0, [.ref q_15, .int 0, .int 0])), (q_15, .inl (cA_16, 15, .inl (fun _ => 0))), (q_17, .inl (cA_18, 12, .inr (.inr (.inr (.inr (fun _ => none)))))), (q_19, .inl (cA_20, 11, .inr (.inr (.inr (.inr (fun _ => none))))))] H := hP
  have hD : va_D A [(h0, .inr (1, [.null, .ref q_1, .ref q_5, .ref q_9, .ref q_13, .ref q_17, .ref q_19, .int 0, .int 0, .int 0, .int 0])), (q_1, .inr (0, [.ref q_3, .int 0, .int 0])), (q_3, .inl (cA_4, 91, .inl (fun _ => 0))), (q_5, .inr (0, [.ref q_7, .int 0, .int 0])), (q_7, .inl (cA_8, 30, .inl (fun _ => 0))), (q_9, .inr (0, [.ref q_11, .int 0, .int 0])), (q_11, .inl (cA_12, 60, .inl (fun _ => 0))), (q_13, .inr (0, [.ref q_15, .int 0, .int 0])), (q_15, .inl (cA_16, 15, .inl (fun _ => 0))), (q_17, .inl (cA_18, 12, .inr (.inr (.inr (.inr (fun _ => none)))))), (q_19, .inl (cA_20, 11, .inr (.inr (.inr (.inr (fun _ => none))))))] := hD
  refine lv_aload_n hx hb dX1_init_94 rfl (lv_at hl 0 rfl) ?_
  refine lv_aload_n hx hb dX1_init_95 rfl (lv_at hl 1 rfl) ?_
  refine va_putF (D := (dC, dI)) (ci := 1) (v := .ref qd) (ty := .object "PostGate$Directory") (C := RX1) (T := TX1) (N := 11) hx hb hts it_1 tyX1 tyX1_ok nmX1 hown hK hP hD hS 0 rfl rfl 0 (by decide) (hts _ kt_75) (fun _ h9 => h9) rfl hin rfl (by decide +kernel) rfl rfl (Nat.le_of_ble_eq_true rfl) dX1_init_96 (fun H locs hP hD hS => ?_)
  have hP : va_P (dC, dI) vwCl [(h0, .inr (1, [.ref qd, .ref q_1, .ref q_5, .ref q_9, .ref q_13, .ref q_17, .ref q_19, .int 0, .int 0, .int 0, .int 0])), (q_1, .inr (0, [.ref q_3, .int 0, .int 0])), (q_3, .inl (cA_4, 91, .inl (fun _ => 0))), (q_5, .inr (0, [.ref q_7, .int 0, .int 0])), (q_7, .inl (cA_8, 30, .inl (fun _ => 0))), (q_9, .inr (0, [.ref q_11, .int 0, .int 0])), (q_11, .inl (cA_12, 60, .inl (fun _ => 0))), (q_13, .inr (0, [.ref q_15, .int 0, .int 0])), (q_15, .inl (cA_16, 15, .inl (fun _ => 0))), (q_17, .inl (cA_18, 12, .inr (.inr (.inr (.inr (fun _ => none)))))), (q_19, .inl (cA_20, 11, .inr (.inr (.inr (.inr (fun _ => none))))))] H := hP
  have hD : va_D A [(h0, .inr (1, [.ref qd, .ref q_1, .ref q_5, .ref q_9, .ref q_13, .ref q_17, .ref q_19, .int 0, .int 0, .int 0, .int 0])), (q_1, .inr (0, [.ref q_3, .int 0, .int 0])), (q_3, .inl (cA_4, 91, .inl (fun _ => 0))), (q_5, .inr (0, [.ref q_7, .int 0, .int 0])), (q_7, .inl (cA_8, 30, .inl (fun _ => 0))), (q_9, .inr (0, [.ref q_11, .int 0, .int 0])), (q_11, .inl (cA_12, 60, .inl (fun _ => 0))), (q_13, .inr (0, [.ref q_15, .int 0, .int 0])), (q_15, .inl (cA_16, 15, .inl (fun _ => 0))), (q_17, .inl (cA_18, 12, .inr (.inr (.inr (.inr (fun _ => none)))))), (q_19, .inl (cA_20, 11, .inr (.inr (.inr (.inr (fun _ => none))))))] := hD
  refine lv_iconst (v := 0) hx hb dX1_init_99 (by decide) ?_
  refine lv_istore_n (lv' := [(2, .int 0), (0, .ref h0), (1, .ref qd)]) hx hb dX1_init_100 rfl hl (by decide) rfl (fun ls hl => ?_)
  refine W.widen (k := 10 + 3 * 0) (n := 231 + 69 * 0) (by omega) (by omega) ?_
  refine wl_loop (σ := Nat × (Nat → Option Nat) × (Nat → Option Nat)) A (dC, dI) 101 3 (fun (i, f, k) => [(h0, .inr (1, [.ref qd, .ref q_1, .ref q_5, .ref q_9, .ref q_13, .ref q_17, .ref q_19, .int 0, .int 0, .int 0, .int 0])), (q_17, .inl (cA_18, 12, .inr (.inr (.inr (.inr f))))), (q_19, .inl (cA_20, 11, .inr (.inr (.inr (.inr k)))))]) (fun (i, f, k) => [(2, .int (nI i)), (0, .ref h0), (1, .ref qd)]) (fun (i, f, k) => []) (fun (i, f, k) => 10 + 3 * i) (fun (i, f, k) => 231 + 69 * i) (fun (i, f, k) => i ≤ 11) (fun (i, f, k) => 11 - i) ?_ (0, (fun _ => none), (fun _ => none)) (by first | omega | exact ⟨by omega, by omega⟩) _ _ (hP.sub [0, 9, 10] rfl) (hD.sub [0, 9, 10] (by decide) rfl) hS ls (lv_sub hl [0, 1, 2] rfl)
  rintro ⟨i, f, k⟩ hv_21 ih_22 H locs hP hD hS ls hl
  have hP : va_P (dC, dI) vwCl [(h0, .inr (1, [.ref qd, .ref q_1, .ref q_5, .ref q_9, .ref q_13, .ref q_17, .ref q_19, .int 0, .int 0, .int 0, .int 0])), (q_17, .inl (cA_18, 12, .inr (.inr (.inr (.inr f))))), (q_19, .inl (cA_20, 11, .inr (.inr (.inr (.inr k)))))] H := hP
  have hD : va_D A [(h0, .inr (1, [.ref qd, .ref q_1, .ref q_5, .ref q_9, .ref q_13, .ref q_17, .ref q_19, .int 0, .int 0, .int 0, .int 0])), (q_17, .inl (cA_18, 12, .inr (.inr (.inr (.inr f))))), (q_19, .inl (cA_20, 11, .inr (.inr (.inr (.inr k)))))] := hD
  have hl : lv_has ls 3 [(2, .int (nI i)), (0, .ref h0), (1, .ref qd)] := hl
  have hv_21 : i ≤ 11 := hv_21
  refine W.widen (k := 10 + 3 * i) (n := 231 + 69 * i) (Nat.le_refl _) (Nat.le_refl _) ?_
  refine W.eq (g2 := F0 m 101 ls []) rfl ?_
  refine lv_iload_n hx hb dX1_init_101 rfl (lv_at hl 0 rfl) ?_
  refine lv_bipush (v := 11) hx hb dX1_init_102 (by decide) ?_
  refine lv_icmp_ge (tgt := 141) hx hb dX1_init_104 (by decide) (fun c_23 => ?_) (fun c_23 => ?_)
  ·
    have hi_24 : 11 ≤ i := leN (N := 11) c_23
    refine lv_aload_n hx hb dX1_init_141 rfl (lv_at hl 1 rfl) ?_
    refine va_get (D := (dC, dI)) (ci := 1) (v := .ref q_17) (C := RX1) (T := TX1) (N := 11) hx hb hts it_1 hown hK hP 0 rfl rfl 5 (by decide) (hts _ kt_68) (fun _ h9 => h9) rfl dX1_init_142 ?_
    refine lv_bipush (v := 11) hx hb dX1_init_145 (by decide) ?_
    refine va_new (ci := 0) (fs := [.null, .int 0, .int 0]) (C := RX0) (T := TX0) (N := 3) hx hb hts it_0 tyX0 tyX0_ok hown (hts _ kt_62) (hts _ kt_9) (hts _ kt_10) hK hP hD hS hA rfl df_0 (by show _ + 1 ≤ 45; omega) (by show _ + 3 ≤ 1053; omega) dX1_init_147 (fun q_25 H hP hD hS => ?_)
    have hP : va_P (dC, dI) vwCl [(h0, .inr (1, [.ref qd, .ref q_1, .ref q_5, .ref q_9, .ref q_13, .ref q_17, .ref q_19, .int 0, .int 0, .int 0, .int 0])), (q_17, .inl (cA_18, 12, .inr (.inr (.inr (.inr f))))), (q_19, .inl (cA_20, 11, .inr (.inr (.inr (.inr k))))), (q_25, .inr (0, [.null, .int 0, .int 0]))] H := hP
    have hD : va_D A [(h0, .inr (1, [.ref qd, .ref q_1, .ref q_5, .ref q_9, .ref q_13, .ref q_17, .ref q_19, .int 0, .int 0, .int 0, .int 0])), (q_17, .inl (cA_18, 12, .inr (.inr (.inr (.inr f))))), (q_19, .inl (cA_20, 11, .inr (.inr (.inr (.inr k))))), (q_25, .inr (0, [.null, .int 0, .int 0]))] := hD
    refine lv_dup hx hb dX1_init_150 rfl ?_
    refine lv_bipush (v := 60) hx hb dX1_init_151 (by decide) ?_
    refine lv_topi (fun x ex => ?_)
    obtain rfl : x = nI 60 := ex.trans (by decide)
    have hPc := hP.sub (ws' := [(q_25, .inr (0, [.null, .int 0, .int 0]))]) [3] rfl
    have hDc := hD.sub (ws' := [(q_25, .inr (0, [.null, .int 0, .int 0]))]) [3] (by decide) rfl
    have hKc := hK.sub (tys' := []) [] rfl
    have hFc := va_free (wc := [(q_25, .inr (0, [.null, .int 0, .int 0]))]) hD hS hA [3] rfl
    refine va_callv (va_runI (As := [.int (nI 60)]) (rest := [.ref q_25, .int 11, .ref q_17]) ⟨hx, hb, hml, hown, hts⟩ (c_X0_init l dC dI H.size q_25 60 (by omega)) ⟨callB_of 1 hts (gi kt_11) rfl rfl rfl (hts _ kt_10) (hts _ kt_63) (by decide +kernel) ⟨Nat.le_of_ble_eq_true rfl, Nat.le_of_ble_eq_true rfl⟩, rfl, (hts _ kt_13)⟩ ⟨fun a U g mk q => ⟨q.1, PW.calling q.2⟩, fun U hU hW => ⟨rfl, PW.mk hU hW hPc hKc hDc hE⟩⟩ rfl rfl hl.1 rfl (lv_room (Nat.le_of_ble_eq_true rfl)) dX1_init_153 ⟨by show _ + 1 ≤ 45; omega, by show _ + 60 ≤ 1053; omega⟩) hS (fun q _ h => hFc q h) hFc (fun u t H1 locs ht hvm hw hB hz1 hk1 hS => ?_)
    obtain ⟨q_27, cA_28, hB1⟩ := hB
    obtain ⟨hP, hD, hK⟩ := QW.join (wr := [(h0, .inr (1, [.ref qd, .ref q_1, .ref q_5, .ref q_9, .ref q_13, .ref q_17, .ref q_19, .int 0, .int 0, .int 0, .int 0])), (q_17, .inl (cA_18, 12, .inr (.inr (.inr (.inr f))))), (q_19, .inl (cA_20, 11, .inr (.inr (.inr (.inr k)))))]) hP hD hK [3] [0, 1, 2] rfl rfl (by decide) (by decide) hk1 hFc ht hvm hB1
    generalize H1 = H at hP hS ⊢
    have hK : va_K (dC, dI) vwCl [(cA_4, .int), (cA_8, .int), (cA_12, .int), (cA_16, .int), (cA_18, .object RX0), (cA_20, .object RX10), (cA_28, .int)] s := hK.sub [0, 1, 2, 3, 4, 5, 6] rfl
    have hP : va_P (dC, dI) vwCl [(h0, .inr (1, [.ref qd, .ref q_1, .ref q_5, .ref q_9, .ref q_13, .ref q_17, .ref q_19, .int 0, .int 0, .int 0, .int 0])), (q_17, .inl (cA_18, 12, .inr (.inr (.inr (.inr f))))), (q_19, .inl (cA_20, 11, .inr (.inr (.inr (.inr k))))), (q_25, .inr (0, [.ref q_27, .int 0, .int 0])), (q_27, .inl (cA_28, 60, .inl (fun _ => 0)))] H := hP
    have hD : va_D A [(h0, .inr (1, [.ref qd, .ref q_1, .ref q_5, .ref q_9, .ref q_13, .ref q_17, .ref q_19, .int 0, .int 0, .int 0, .int 0])), (q_17, .inl (cA_18, 12, .inr (.inr (.inr (.inr f))))), (q_19, .inl (cA_20, 11, .inr (.inr (.inr (.inr k))))), (q_25, .inr (0, [.ref q_27, .int 0, .int 0])), (q_27, .inl (cA_28, 60, .inl (fun _ => 0)))] := hD
    refine va_astq (r := (RX0, TX0, 3)) hx hb hK hP hD hS 1 4 3 0 rfl rfl rfl rfl (show vp_in (11 : Int32) 12 from (show vp_in (nI 11) 12 from vp_in_nI (by omega) (by omega))) dX1_init_156 (fun H locs hP hD hS => ?_)
    obtain ⟨f_29, hP, hD⟩ : ∃ f_29 : Nat → Option Nat, va_P (dC, dI) vwCl [(h0, .inr (1, [.ref qd, .ref q_1, .ref q_5, .ref q_9, .ref q_13, .ref q_17, .ref q_19, .int 0, .int 0, .int 0, .int 0])), (q_17, .inl (cA_18, 12, .inr (.inr (.inr (.inr f_29))))), (q_19, .inl (cA_20, 11, .inr (.inr (.inr (.inr k))))), (q_25, .inr (0, [.ref q_27, .int 0, .int 0])), (q_27, .inl (cA_28, 60, .inl (fun _ => 0)))] H ∧ va_D A [(h0, .inr (1, [.ref qd, .ref q_1, .ref q_5, .ref q_9, .ref q_13, .ref q_17, .ref q_19, .int 0, .int 0, .int 0, .int 0])), (q_17, .inl (cA_18, 12, .inr (.inr (.inr (.inr f_29))))), (q_19, .inl (cA_20, 11, .inr (.inr (.inr (.inr k))))), (q_25, .inr (0, [.ref q_27, .int 0, .int 0])), (q_27, .inl (cA_28, 60, .inl (fun _ => 0)))] := ⟨_, hP, hD⟩
    have hP9 := hP.sub (ws' := [(h0, .inr (1, [.ref qd, .ref q_1, .ref q_5, .ref q_9, .ref q_13, .ref q_17, .ref q_19, .int 0, .int 0, .int 0, .int 0]))]) [0] rfl
    have hD9 := hD.sub (ws' := [(h0, .inr (1, [.ref qd, .ref q_1, .ref q_5, .ref q_9, .ref q_13, .ref q_17, .ref q_19, .int 0, .int 0, .int 0, .int 0]))]) [0] (by decide) rfl
    have hK9 := hK.sub (tys' := []) [] rfl
    refine W.widen (k := 45) (n := 1053) (by omega) (by omega) ?_
    exact W.vret hx hb hr (fun t ht hW => ⟨⟨(), rfl, trivial, ⟨q_1, q_5, q_9, q_13, q_17, q_19, QW.mk ht hW hP9 hK9 hD9⟩⟩, hS.F ht⟩) hS.2.2 dX1_init_157
  ·
    have hi_30 : i < 11 := ltN (N := 11) c_23
    refine lv_aload_n hx hb dX1_init_107 rfl (lv_at hl 1 rfl) ?_
    refine va_get (D := (dC, dI)) (ci := 1) (v := .ref q_17) (C := RX1) (T := TX1) (N := 11) hx hb hts it_1 hown hK hP 0 rfl rfl 5 (by decide) (hts _ kt_68) (fun _ h9 => h9) rfl dX1_init_108 ?_
    refine lv_iload_n hx hb dX1_init_111 rfl (lv_at hl 0 rfl) ?_
    refine va_new (ci := 0) (fs := [.null, .int 0, .int 0]) (C := RX0) (T := TX0) (N := 3) hx hb hts it_0 tyX0 tyX0_ok hown (hts _ kt_62) (hts _ kt_9) (hts _ kt_10) hK hP hD hS hA rfl df_0 (by show _ + 1 ≤ 45; omega) (by show _ + 3 ≤ 1053; omega) dX1_init_112 (fun q_31 H hP hD hS => ?_)
    have hP : va_P (dC, dI) vwCl [(h0, .inr (1, [.ref qd, .ref q_1, .ref q_5, .ref q_9, .ref q_13, .ref q_17, .ref q_19, .int 0, .int 0, .int 0, .int 0])), (q_17, .inl (cA_18, 12, .inr (.inr (.inr (.inr f))))), (q_19, .inl (cA_20, 11, .inr (.inr (.inr (.inr k))))), (q_31, .inr (0, [.null, .int 0, .int 0]))] H := hP
    have hD : va_D A [(h0, .inr (1, [.ref qd, .ref q_1, .ref q_5, .ref q_9, .ref q_13, .ref q_17, .ref q_19, .int 0, .int 0, .int 0, .int 0])), (q_17, .inl (cA_18, 12, .inr (.inr (.inr (.inr f))))), (q_19, .inl (cA_20, 11, .inr (.inr (.inr (.inr k))))), (q_31, .inr (0, [.null, .int 0, .int 0]))] := hD
    refine lv_dup hx hb dX1_init_115 rfl ?_
    refine lv_bipush (v := 60) hx hb dX1_init_116 (by decide) ?_
    refine lv_topi (fun x ex => ?_)
    obtain rfl : x = nI 60 := ex.trans (by decide)
    have hPc := hP.sub (ws' := [(q_31, .inr (0, [.null, .int 0, .int 0]))]) [3] rfl
    have hDc := hD.sub (ws' := [(q_31, .inr (0, [.null, .int 0, .int 0]))]) [3] (by decide) rfl
    have hKc := hK.sub (tys' := []) [] rfl
    have hFc := va_free (wc := [(q_31, .inr (0, [.null, .int 0, .int 0]))]) hD hS hA [3] rfl
    refine va_callv (va_runI (As := [.int (nI 60)]) (rest := [.ref q_31, .int (nI i), .ref q_17]) ⟨hx, hb, hml, hown, hts⟩ (c_X0_init l dC dI H.size q_31 60 (by omega)) ⟨callB_of 1 hts (gi kt_11) rfl rfl rfl (hts _ kt_10) (hts _ kt_63) (by decide +kernel) ⟨Nat.le_of_ble_eq_true rfl, Nat.le_of_ble_eq_true rfl⟩, rfl, (hts _ kt_13)⟩ ⟨fun a U g mk q => ⟨q.1, PW.calling q.2⟩, fun U hU hW => ⟨rfl, PW.mk hU hW hPc hKc hDc hE⟩⟩ rfl rfl hl.1 rfl (lv_room (Nat.le_of_ble_eq_true rfl)) dX1_init_118 ⟨by show _ + 1 ≤ 45; omega, by show _ + 60 ≤ 1053; omega⟩) hS (fun q _ h => hFc q h) hFc (fun u t H1 locs ht hvm hw hB hz1 hk1 hS => ?_)
    obtain ⟨q_33, cA_34, hB1⟩ := hB
    obtain ⟨hP, hD, hK⟩ := QW.join (wr := [(h0, .inr (1, [.ref qd, .ref q_1, .ref q_5, .ref q_9, .ref q_13, .ref q_17, .ref q_19, .int 0, .int 0, .int 0, .int 0])), (q_17, .inl (cA_18, 12, .inr (.inr (.inr (.inr f))))), (q_19, .inl (cA_20, 11, .inr (.inr (.inr (.inr k)))))]) hP hD hK [3] [0, 1, 2] rfl rfl (by decide) (by decide) hk1 hFc ht hvm hB1
    generalize H1 = H at hP hS ⊢
    have hK : va_K (dC, dI) vwCl [(cA_4, .int), (cA_8, .int), (cA_12, .int), (cA_16, .int), (cA_18, .object RX0), (cA_20, .object RX10), (cA_34, .int)] s := hK.sub [0, 1, 2, 3, 4, 5, 6] rfl
    have hP : va_P (dC, dI) vwCl [(h0, .inr (1, [.ref qd, .ref q_1, .ref q_5, .ref q_9, .ref q_13, .ref q_17, .ref q_19, .int 0, .int 0, .int 0, .int 0])), (q_17, .inl (cA_18, 12, .inr (.inr (.inr (.inr f))))), (q_19, .inl (cA_20, 11, .inr (.inr (.inr (.inr k))))), (q_31, .inr (0, [.ref q_33, .int 0, .int 0])), (q_33, .inl (cA_34, 60, .inl (fun _ => 0)))] H := hP
    have hD : va_D A [(h0, .inr (1, [.ref qd, .ref q_1, .ref q_5, .ref q_9, .ref q_13, .ref q_17, .ref q_19, .int 0, .int 0, .int 0, .int 0])), (q_17, .inl (cA_18, 12, .inr (.inr (.inr (.inr f))))), (q_19, .inl (cA_20, 11, .inr (.inr (.inr (.inr k))))), (q_31, .inr (0, [.ref q_33, .int 0, .int 0])), (q_33, .inl (cA_34, 60, .inl (fun _ => 0)))] := hD
    refine va_astq (r := (RX0, TX0, 3)) hx hb hK hP hD hS 1 4 3 0 rfl rfl rfl rfl (vp_in_nI (by omega) (by omega)) dX1_init_121 (fun H locs hP hD hS => ?_)
    obtain ⟨f_35, hP, hD⟩ : ∃ f_35 : Nat → Option Nat, va_P (dC, dI) vwCl [(h0, .inr (1, [.ref qd, .ref q_1, .ref q_5, .ref q_9, .ref q_13, .ref q_17, .ref q_19, .int 0, .int 0, .int 0, .int 0])), (q_17, .inl (cA_18, 12, .inr (.inr (.inr (.inr f_35))))), (q_19, .inl (cA_20, 11, .inr (.inr (.inr (.inr k))))), (q_31, .inr (0, [.ref q_33, .int 0, .int 0])), (q_33, .inl (cA_34, 60, .inl (fun _ => 0)))] H ∧ va_D A [(h0, .inr (1, [.ref qd, .ref q_1, .ref q_5, .ref q_9, .ref q_13, .ref q_17, .ref q_19, .int 0, .int 0, .int 0, .int 0])), (q_17, .inl (cA_18, 12, .inr (.inr (.inr (.inr f_35))))), (q_19, .inl (cA_20, 11, .inr (.inr (.inr (.inr k))))), (q_31, .inr (0, [.ref q_33, .int 0, .int 0])), (q_33, .inl (cA_34, 60, .inl (fun _ => 0)))] := ⟨_, hP, hD⟩
    refine lv_aload_n hx hb dX1_init_122 rfl (lv_at hl 1 rfl) ?_
    refine va_get (D := (dC, dI)) (ci := 1) (v := .ref q_19) (C := RX1) (T := TX1) (N := 11) hx hb hts it_1 hown hK hP 0 rfl rfl 6 (by decide) (hts _ kt_70) (fun _ h9 => h9) rfl dX1_init_123 ?_
    refine lv_iload_n hx hb dX1_init_126 rfl (lv_at hl 0 rfl) ?_
    refine va_new (ci := 10) (fs := [.int 0, .int 0, .int 0, .int 0, .int 0, .int 0]) (C := RX10) (T := TX10) (N := 6) hx hb hts it_10 tyX10 tyX10_ok hown (hts _ kt_69) (hts _ kt_76) (hts _ kt_77) hK hP hD hS hA rfl df_10 (by show _ + 1 ≤ 45; omega) (by show _ + 6 ≤ 1053; omega) dX1_init_127 (fun q_36 H hP hD hS => ?_)
    have hP : va_P (dC, dI) vwCl [(h0, .inr (1, [.ref qd, .ref q_1, .ref q_5, .ref q_9, .ref q_13, .ref q_17, .ref q_19, .int 0, .int 0, .int 0, .int 0])), (q_17, .inl (cA_18, 12, .inr (.inr (.inr (.inr f_35))))), (q_19, .inl (cA_20, 11, .inr (.inr (.inr (.inr k))))), (q_31, .inr (0, [.ref q_33, .int 0, .int 0])), (q_33, .inl (cA_34, 60, .inl (fun _ => 0))), (q_36, .inr (10, [.int 0, .int 0, .int 0, .int 0, .int 0, .int 0]))] H := hP
    have hD : va_D A [(h0, .inr (1, [.ref qd, .ref q_1, .ref q_5, .ref q_9, .ref q_13, .ref q_17, .ref q_19, .int 0, .int 0, .int 0, .int 0])), (q_17, .inl (cA_18, 12, .inr (.inr (.inr (.inr f_35))))), (q_19, .inl (cA_20, 11, .inr (.inr (.inr (.inr k))))), (q_31, .inr (0, [.ref q_33, .int 0, .int 0])), (q_33, .inl (cA_34, 60, .inl (fun _ => 0))), (q_36, .inr (10, [.int 0, .int 0, .int 0, .int 0, .int 0, .int 0]))] := hD
    refine lv_dup hx hb dX1_init_130 rfl ?_
    have hPc := hP.sub (ws' := [(q_36, .inr (10, [.int 0, .int 0, .int 0, .int 0, .int 0, .int 0]))]) [5] rfl
    have hDc := hD.sub (ws' := [(q_36, .inr (10, [.int 0, .int 0, .int 0, .int 0, .int 0, .int 0]))]) [5] (by decide) rfl
    have hKc := hK.sub (tys' := []) [] rfl
    have hFc := va_free (wc := [(q_36, .inr (10, [.int 0, .int 0, .int 0, .int 0, .int 0, .int 0]))]) hD hS hA [5] rfl
    refine va_callv (va_runIN (As := []) (rest := [.ref q_36, .int (nI i), .ref q_19]) ⟨hx, hb, hml, hown, hts⟩ (c_X10_init l dC dI H.size q_36 ) ⟨va_cnB 0 hts (gi kt_78) rfl rfl rfl (hE.nestw kn_1) (hts _ kt_77) (by decide +kernel) ⟨Nat.le_of_ble_eq_true rfl, Nat.le_of_ble_eq_true rfl⟩, rfl, (hts _ kt_79)⟩ ⟨fun a U g mk q => ⟨q.1, PW.calling q.2⟩, fun U hU hW => ⟨rfl, PW.mk hU hW hPc hKc hDc hE⟩⟩ rfl rfl hl.1 rfl (lv_room (Nat.le_of_ble_eq_true rfl)) dX1_init_131 ⟨by show _ + 0 ≤ 45; omega, by show _ + 0 ≤ 1053; omega⟩) hS (fun q _ h => hFc q h) hFc (fun u t H1 locs ht hvm hw hB hz1 hk1 hS => ?_)
    have hB1 := hB
    obtain ⟨hP, hD, hK⟩ := QW.join (wr := [(h0, .inr (1, [.ref qd, .ref q_1, .ref q_5, .ref q_9, .ref q_13, .ref q_17, .ref q_19, .int 0, .int 0, .int 0, .int 0])), (q_17, .inl (cA_18, 12, .inr (.inr (.inr (.inr f_35))))), (q_19, .inl (cA_20, 11, .inr (.inr (.inr (.inr k))))), (q_31, .inr (0, [.ref q_33, .int 0, .int 0])), (q_33, .inl (cA_34, 60, .inl (fun _ => 0)))]) hP hD hK [5] [0, 1, 2, 3, 4] rfl rfl (by decide) (by decide) hk1 hFc ht hvm hB1
    generalize H1 = H at hP hS ⊢
    have hK : va_K (dC, dI) vwCl [(cA_4, .int), (cA_8, .int), (cA_12, .int), (cA_16, .int), (cA_18, .object RX0), (cA_20, .object RX10), (cA_34, .int)] s := hK.sub [0, 1, 2, 3, 4, 5, 6] rfl
    have hP : va_P (dC, dI) vwCl [(h0, .inr (1, [.ref qd, .ref q_1, .ref q_5, .ref q_9, .ref q_13, .ref q_17, .ref q_19, .int 0, .int 0, .int 0, .int 0])), (q_17, .inl (cA_18, 12, .inr (.inr (.inr (.inr f_35))))), (q_19, .inl (cA_20, 11, .inr (.inr (.inr (.inr k))))), (q_31, .inr (0, [.ref q_33, .int 0, .int 0])), (q_33, .inl (cA_34, 60, .inl (fun _ => 0))), (q_36, .inr (10, [.int 0, .int 43, .int 0, .int 0, .int 32, .int 0]))] H := hP
    have hD : va_D A [(h0, .inr (1, [.ref qd, .ref q_1, .ref q_5, .ref q_9, .ref q_13, .ref q_17, .ref q_19, .int 0, .int 0, .int 0, .int 0])), (q_17, .inl (cA_18, 12, .inr (.inr (.inr (.inr f_35))))), (q_19, .inl (cA_20, 11, .inr (.inr (.inr (.inr k))))), (q_31, .inr (0, [.ref q_33, .int 0, .int 0])), (q_33, .inl (cA_34, 60, .inl (fun _ => 0))), (q_36, .inr (10, [.int 0, .int 43, .int 0, .int 0, .int 32, .int 0]))] := hD
    refine va_astq (r := (RX10, TX10, 6)) hx hb hK hP hD hS 2 5 5 10 rfl rfl rfl rfl (vp_in_nI (by omega) (by omega)) dX1_init_134 (fun H locs hP hD hS => ?_)
    obtain ⟨f_38, hP, hD⟩ : ∃ f_38 : Nat → Option Nat, va_P (dC, dI) vwCl [(h0, .inr (1, [.ref qd, .ref q_1, .ref q_5, .ref q_9, .ref q_13, .ref q_17, .ref q_19, .int 0, .int 0, .int 0, .int 0])), (q_17, .inl (cA_18, 12, .inr (.inr (.inr (.inr f_35))))), (q_19, .inl (cA_20, 11, .inr (.inr (.inr (.inr f_38))))), (q_31, .inr (0, [.ref q_33, .int 0, .int 0])), (q_33, .inl (cA_34, 60, .inl (fun _ => 0))), (q_36, .inr (10, [.int 0, .int 43, .int 0, .int 0, .int 32, .int 0]))] H ∧ va_D A [(h0, .inr (1, [.ref qd, .ref q_1, .ref q_5, .ref q_9, .ref q_13, .ref q_17, .ref q_19, .int 0, .int 0, .int 0, .int 0])), (q_17, .inl (cA_18, 12, .inr (.inr (.inr (.inr f_35))))), (q_19, .inl (cA_20, 11, .inr (.inr (.inr (.inr f_38))))), (q_31, .inr (0, [.ref q_33, .int 0, .int 0])), (q_33, .inl (cA_34, 60, .inl (fun _ => 0))), (q_36, .inr (10, [.int 0, .int 43, .int 0, .int 0, .int 32, .int 0]))] := ⟨_, hP, hD⟩
    refine lv_iinc (v := (nI (i + 1))) (lv' := [(2, .int (nI (i + 1))), (0, .ref h0), (1, .ref qd)]) hx hb dX1_init_135 hl (k := 0) rfl (nI_1 _) (by decide) rfl (fun ls hl => ?_)
    refine lv_goto (tgt := 101) hx hb dX1_init_138 (by decide) ?_
    refine W.widen (k := 10 + 3 * (i + 1)) (n := 231 + 69 * (i + 1)) (by omega) (by omega) ?_
    exact ih_22 ((i + 1), f_35, f_38) (by first | omega | exact ⟨by omega, by omega⟩) (by show 11 - (i + 1) < 11 - i; omega) _ _ (hP.sub [0, 1, 2] rfl) (hD.sub [0, 1, 2] (by decide) rfl) hS ls (lv_sub hl [0, 1, 2] rfl)
set_option maxHeartbeats 4000000 in
set_option maxRecDepth 100000 in
theorem c_X5_init (l : Launch) (dC : Nat → ClassId) (dI : Nat → Nat → Nat) (sz : Nat) (h0 : Nat) (qd : Nat) : Met l yX5_init (.code yX5_init cX5_init 2 none :: tb) ({ frames := 3, cells := 10, slots := 954, locals := 54 }) (va_Pc [.ref h0, .ref qd] (PW (dC, dI) sz [(h0, .inr (5, [.null, .null, .null, .null, .int 0, .int 0, .int 0]))] [])) (va_Qv (fun _ : Unit => True) (fun _ T9 => QW (dC, dI) (va_A [(h0, .inr (5, [.null, .null, .null, .null, .int 0, .int 0, .int 0]))] sz) [] [] T9) (va_A [(h0, .inr (5, [.null, .null, .null, .null, .int 0, .int 0, .int 0]))] sz)) 10 954 (va_A [(h0, .inr (5, [.null, .null, .null, .null, .int 0, .int 0, .int 0]))] sz) := by
  refine Met.ofW (cc := cX5_init) (maxL := 2) (ret := none) (by decide) rfl ?_
  intro p e s m args below meth c s₁ B hml hv
  obtain ⟨rfl, hsz, hP, hK, hD0, hE⟩ := hv
  have hx := B.exec
  have hb := B.bytes
  have hr := B.returns
  have hts : ∀ w ∈ tb, w.before _ s = true := fun w h => atoms_spec (ws := .code yX5_init cX5_init 2 none :: tb) B.pre w (List.mem_cons_of_mem _ h)
  have hown : s.vm.findClass RX5 = some m.cls := findClass_of_methodNamed B.named
  have hlocks := B.notSynchronized
  have hin : meth.name = "<init>" := (name_of_methodNamed B.named B.method).1
  subst hsz
  have hD := hD0.self (sz := s.heap.size)
  generalize hAe : va_A [(h0, .inr (5, [.null, .null, .null, .null, .int 0, .int 0, .int 0]))] s.heap.size = A at hD ⊢
  have hA : ∀ q : Nat, s.heap.size ≤ q → A q := fun q h => by rw [← hAe]; exact Or.inr h
  have hS : va_S A s.heap s.heap [] := va_S.rf
  have hP : va_P (dC, dI) vwCl [(h0, .inr (5, [.null, .null, .null, .null, .int 0, .int 0, .int 0]))] s.heap := hP
  have hl := lv_entry ([.ref h0, .ref qd]) (n := 2) (Nat.le_of_ble_eq_true rfl)
  rw [lg_entry_eq]
  generalize (lg_sl ([.ref h0, .ref qd]) ++ List.replicate (2 - (lg_sl ([.ref h0, .ref qd])).length) Slot.unset).toArray = ls at hl ⊢
  have hl : lv_has ls 2 [(0, .ref h0), (1, .ref qd)] := hl
  refine lv_aload_n hx hb dX5_init_0 rfl (lv_at hl 0 rfl) ?_
  refine W.objInit hx hb hown (hts _ kt_80) (hts _ kt_1) (hts _ kt_2) rfl (by rw [hml]; exact hl.1) rfl dX5_init_1 (Nat.le_of_ble_eq_true rfl) (Nat.le_of_ble_eq_true rfl) ?_
  refine W.eq (g2 := F0 m 4 ls []) rfl ?_
  refine lv_aload_n hx hb dX5_init_4 rfl (lv_at hl 0 rfl) ?_
  refine va_new (ci := 0) (fs := [.null, .int 0, .int 0]) (C := RX0) (T := TX0) (N := 3) hx hb hts it_0 tyX0 tyX0_ok hown (hts _ kt_81) (hts _ kt_9) (hts _ kt_10) hK hP hD hS hA rfl df_0 (by show _ + 1 ≤ 10; omega) (by show _ + 3 ≤ 954; omega) dX5_init_5 (fun q_1 H hP hD hS => ?_)
  have hP : va_P (dC, dI) vwCl [(h0, .inr (5, [.null, .null, .null, .null, .int 0, .int 0, .int 0])), (q_1, .inr (0, [.null, .int 0, .int 0]))] H := hP
  have hD : va_D A [(h0, .inr (5, [.null, .null, .null, .null, .int 0, .int 0, .int 0])), (q_1, .inr (0, [.null, .int 0, .int 0]))] := hD
  refine lv_dup hx hb dX5_init_8 rfl ?_
  refine lv_bipush (v := 60) hx hb dX5_init_9 (by decide) ?_
  refine lv_topi (fun x ex => ?_)
  obtain rfl : x = nI 60 := ex.trans (by decide)
  have hPc := hP.sub (ws' := [(q_1, .inr (0, [.null, .int 0, .int 0]))]) [1] rfl
  have hDc := hD.sub (ws' := [(q_1, .inr (0, [.null, .int 0, .int 0]))]) [1] (by decide) rfl
  have hKc := hK.sub (tys' := []) [] rfl
  have hFc := va_free (wc := [(q_1, .inr (0, [.null, .int 0, .int 0]))]) hD hS hA [1] rfl
  refine va_callv (va_runI (As := [.int (nI 60)]) (rest := [.ref q_1, .ref h0]) ⟨hx, hb, hml, hown, hts⟩ (c_X0_init l dC dI H.size q_1 60 (by omega)) ⟨callB_of 1 hts (gi kt_11) rfl rfl rfl (hts _ kt_10) (hts _ kt_82) (by decide +kernel) ⟨Nat.le_of_ble_eq_true rfl, Nat.le_of_ble_eq_true rfl⟩, rfl, (hts _ kt_13)⟩ ⟨fun a U g mk q => ⟨q.1, PW.calling q.2⟩, fun U hU hW => ⟨rfl, PW.mk hU hW hPc hKc hDc hE⟩⟩ rfl rfl hl.1 rfl (lv_room (Nat.le_of_ble_eq_true rfl)) dX5_init_11 ⟨by show _ + 1 ≤ 10; omega, by show _ + 60 ≤ 954; omega⟩) hS (fun q _ h => hFc q h) hFc (fun u t H1 locs ht hvm hw hB hz1 hk1 hS => ?_)
  obtain ⟨q_3, cA_4, hB1⟩ := hB
  obtain ⟨hP, hD, hK⟩ := QW.join (wr := [(h0, .inr (5, [.null, .null, .null, .null, .int 0, .int 0, .int 0]))]) hP hD hK [1] [0] rfl rfl (by decide) (by decide) hk1 hFc ht hvm hB1
  generalize H1 = H at hP hS ⊢
  have hK : va_K (dC, dI) vwCl [(cA_4, .int)] s := hK.sub [0] rfl
  have hP : va_P (dC, dI) vwCl [(h0, .inr (5, [.null, .null, .null, .null, .int 0, .int 0, .int 0])), (q_1, .inr (0, [.ref q_3, .int 0, .int 0])), (q_3, .inl (cA_4, 60, .inl (fun _ => 0)))] H := hP
  have hD : va_D A [(h0, .inr (5, [.null, .null, .null, .null, .int 0, .int 0, .int 0])), (q_1, .inr (0, [.ref q_3, .int 0, .int 0])), (q_3, .inl (cA_4, 60, .inl (fun _ => 0)))] := hD
  refine va_putF (D := (dC, dI)) (ci := 5) (v := .ref q_1) (ty := .object "PostGate$Bytes") (C := RX5) (T := TX5) (N := 7) hx hb hts it_5 tyX5 tyX5_ok nmX5 hown hK hP hD hS 0 rfl rfl 1 (by decide) (hts _ kt_83) (fun _ h9 => h9) rfl hin rfl (by decide +kernel) rfl rfl (Nat.le_of_ble_eq_true rfl) dX5_init_14 (fun H locs hP hD hS => ?_)
  have hP : va_P (dC, dI) vwCl [(h0, .inr (5, [.null, .ref q_1, .null, .null, .int 0, .int 0, .int 0])), (q_1, .inr (0, [.ref q_3, .int 0, .int 0])), (q_3, .inl (cA_4, 60, .inl (fun _ => 0)))] H := hP
  have hD : va_D A [(h0, .inr (5, [.null, .ref q_1, .null, .null, .int 0, .int 0, .int 0])), (q_1, .inr (0, [.ref q_3, .int 0, .int 0])), (q_3, .inl (cA_4, 60, .inl (fun _ => 0)))] := hD
  refine lv_aload_n hx hb dX5_init_17 rfl (lv_at hl 0 rfl) ?_
  refine va_new (ci := 0) (fs := [.null, .int 0, .int 0]) (C := RX0) (T := TX0) (N := 3) hx hb hts it_0 tyX0 tyX0_ok hown (hts _ kt_81) (hts _ kt_9) (hts _ kt_10) hK hP hD hS hA rfl df_0 (by show _ + 1 ≤ 10; omega) (by show _ + 3 ≤ 954; omega) dX5_init_18 (fun q_5 H hP hD hS => ?_)
  have hP : va_P (dC, dI) vwCl [(h0, .inr (5, [.null, .ref q_1, .null, .null, .int 0, .int 0, .int 0])), (q_1, .inr (0, [.ref q_3, .int 0, .int 0])), (q_3, .inl (cA_4, 60, .inl (fun _ => 0))), (q_5, .inr (0, [.null, .int 0, .int 0]))] H := hP
  have hD : va_D A [(h0, .inr (5, [.null, .ref q_1, .null, .null, .int 0, .int 0, .int 0])), (q_1, .inr (0, [.ref q_3, .int 0, .int 0])), (q_3, .inl (cA_4, 60, .inl (fun _ => 0))), (q_5, .inr (0, [.null, .int 0, .int 0]))] := hD
  refine lv_dup hx hb dX5_init_21 rfl ?_
  refine lv_bipush (v := 60) hx hb dX5_init_22 (by decide) ?_
  refine lv_topi (fun x ex => ?_)
  obtain rfl : x = nI 60 := ex.trans (by decide)
  have hPc := hP.sub (ws' := [(q_5, .inr (0, [.null, .int 0, .int 0]))]) [3] rfl
  have hDc := hD.sub (ws' := [(q_5, .inr (0, [.null, .int 0, .int 0]))]) [3] (by decide) rfl
  have hKc := hK.sub (tys' := []) [] rfl
  have hFc := va_free (wc := [(q_5, .inr (0, [.null, .int 0, .int 0]))]) hD hS hA [3] rfl
  refine va_callv (va_runI (As := [.int (nI 60)]) (rest := [.ref q_5, .ref h0]) ⟨hx, hb, hml, hown, hts⟩ (c_X0_init l dC dI H.size q_5 60 (by omega)) ⟨callB_of 1 hts (gi kt_11) rfl rfl rfl (hts _ kt_10) (hts _ kt_82) (by decide +kernel) ⟨Nat.le_of_ble_eq_true rfl, Nat.le_of_ble_eq_true rfl⟩, rfl, (hts _ kt_13)⟩ ⟨fun a U g mk q => ⟨q.1, PW.calling q.2⟩, fun U hU hW => ⟨rfl, PW.mk hU hW hPc hKc hDc hE⟩⟩ rfl rfl hl.1 rfl (lv_room (Nat.le_of_ble_eq_true rfl)) dX5_init_24 ⟨by show _ + 1 ≤ 10; omega, by show _ + 60 ≤ 954; omega⟩) hS (fun q _ h => hFc q h) hFc (fun u t H1 locs ht hvm hw hB hz1 hk1 hS => ?_)
  obtain ⟨q_7, cA_8, hB1⟩ := hB
  obtain ⟨hP, hD, hK⟩ := QW.join (wr := [(h0, .inr (5, [.null, .ref q_1, .null, .null, .int 0, .int 0, .int 0])), (q_1, .inr (0, [.ref q_3, .int 0, .int 0])), (q_3, .inl (cA_4, 60, .inl (fun _ => 0)))]) hP hD hK [3] [0, 1, 2] rfl rfl (by decide) (by decide) hk1 hFc ht hvm hB1
  generalize H1 = H at hP hS ⊢
  have hK : va_K (dC, dI) vwCl [(cA_4, .int), (cA_8, .int)] s := hK.sub [0, 1] rfl
  have hP : va_P (dC, dI) vwCl [(h0, .inr (5, [.null, .ref q_1, .null, .null, .int 0, .int 0, .int 0])), (q_1, .inr (0, [.ref q_3, .int 0, .int 0])), (q_3, .inl (cA_4, 60, .inl (fun _ => 0))), (q_5, .inr (0, [.ref q_7, .int 0, .int 0])), (q_7, .inl (cA_8, 60, .inl (fun _ => 0)))] H := hP
  have hD : va_D A [(h0, .inr (5, [.null, .ref q_1, .null, .null, .int 0, .int 0, .int 0])), (q_1, .inr (0, [.ref q_3, .int 0, .int 0])), (q_3, .inl (cA_4, 60, .inl (fun _ => 0))), (q_5, .inr (0, [.ref q_7, .int 0, .int 0])), (q_7, .inl (cA_8, 60, .inl (fun _ => 0)))] := hD
  refine va_putF (D := (dC, dI)) (ci := 5) (v := .ref q_5) (ty := .object "PostGate$Bytes") (C := RX5) (T := TX5) (N := 7) hx hb hts it_5 tyX5 tyX5_ok nmX5 hown hK hP hD hS 0 rfl rfl 2 (by decide) (hts _ kt_84) (fun _ h9 => h9) rfl hin rfl (by decide +kernel) rfl rfl (Nat.le_of_ble_eq_true rfl) dX5_init_27 (fun H locs hP hD hS => ?_)
  have hP : va_P (dC, dI) vwCl [(h0, .inr (5, [.null, .ref q_1, .ref q_5, .null, .int 0, .int 0, .int 0])), (q_1, .inr (0, [.ref q_3, .int 0, .int 0])), (q_3, .inl (cA_4, 60, .inl (fun _ => 0))), (q_5, .inr (0, [.ref q_7, .int 0, .int 0])), (q_7, .inl (cA_8, 60, .inl (fun _ => 0)))] H := hP
  have hD : va_D A [(h0, .inr (5, [.null, .ref q_1, .ref q_5, .null, .int 0, .int 0, .int 0])), (q_1, .inr (0, [.ref q_3, .int 0, .int 0])), (q_3, .inl (cA_4, 60, .inl (fun _ => 0))), (q_5, .inr (0, [.ref q_7, .int 0, .int 0])), (q_7, .inl (cA_8, 60, .inl (fun _ => 0)))] := hD
  refine lv_aload_n hx hb dX5_init_30 rfl (lv_at hl 0 rfl) ?_
  refine va_new (ci := 9) (fs := [.null, .null, .null, .null, .int 0]) (C := RX9) (T := TX9) (N := 5) hx hb hts it_9 tyX9 tyX9_ok hown (hts _ kt_85) (hts _ kt_86) (hts _ kt_87) hK hP hD hS hA rfl df_9 (by show _ + 1 ≤ 10; omega) (by show _ + 5 ≤ 954; omega) dX5_init_31 (fun q_9 H hP hD hS => ?_)
  have hP : va_P (dC, dI) vwCl [(h0, .inr (5, [.null, .ref q_1, .ref q_5, .null, .int 0, .int 0, .int 0])), (q_1, .inr (0, [.ref q_3, .int 0, .int 0])), (q_3, .inl (cA_4, 60, .inl (fun _ => 0))), (q_5, .inr (0, [.ref q_7, .int 0, .int 0])), (q_7, .inl (cA_8, 60, .inl (fun _ => 0))), (q_9, .inr (9, [.null, .null, .null, .null, .int 0]))] H := hP
  have hD : va_D A [(h0, .inr (5, [.null, .ref q_1, .ref q_5, .null, .int 0, .int 0, .int 0])), (q_1, .inr (0, [.ref q_3, .int 0, .int 0])), (q_3, .inl (cA_4, 60, .inl (fun _ => 0))), (q_5, .inr (0, [.ref q_7, .int 0, .int 0])), (q_7, .inl (cA_8, 60, .inl (fun _ => 0))), (q_9, .inr (9, [.null, .null, .null, .null, .int 0]))] := hD
  refine lv_dup hx hb dX5_init_34 rfl ?_
  refine lv_sipush (v := 700) hx hb dX5_init_35 (by decide) ?_
  refine lv_topi (fun x ex => ?_)
  obtain rfl : x = nI 700 := ex.trans (by decide)
  have hPc := hP.sub (ws' := [(q_9, .inr (9, [.null, .null, .null, .null, .int 0]))]) [5] rfl
  have hDc := hD.sub (ws' := [(q_9, .inr (9, [.null, .null, .null, .null, .int 0]))]) [5] (by decide) rfl
  have hKc := hK.sub (tys' := []) [] rfl
  have hFc := va_free (wc := [(q_9, .inr (9, [.null, .null, .null, .null, .int 0]))]) hD hS hA [5] rfl
  refine va_callv (va_runI (As := [.int (nI 700)]) (rest := [.ref q_9, .ref h0]) ⟨hx, hb, hml, hown, hts⟩ (c_X9_init l dC dI H.size q_9 700 (by omega)) ⟨callB_of 1 hts (gi kt_88) rfl rfl rfl (hts _ kt_87) (hts _ kt_89) (by decide +kernel) ⟨Nat.le_of_ble_eq_true rfl, Nat.le_of_ble_eq_true rfl⟩, rfl, (hts _ kt_90)⟩ ⟨fun a U g mk q => ⟨q.1, PW.calling q.2⟩, fun U hU hW => ⟨rfl, PW.mk hU hW hPc hKc hDc hE⟩⟩ rfl rfl hl.1 rfl (lv_room (Nat.le_of_ble_eq_true rfl)) dX5_init_38 ⟨by show _ + 5 ≤ 10; omega, by show _ + (700 + 123) ≤ 954; omega⟩) hS (fun q _ h => hFc q h) hFc (fun u t H1 locs ht hvm hw hB hz1 hk1 hS => ?_)
  have hB1 := hB
  obtain ⟨hP, hD, hK⟩ := QW.join (wr := [(h0, .inr (5, [.null, .ref q_1, .ref q_5, .null, .int 0, .int 0, .int 0])), (q_1, .inr (0, [.ref q_3, .int 0, .int 0])), (q_3, .inl (cA_4, 60, .inl (fun _ => 0))), (q_5, .inr (0, [.ref q_7, .int 0, .int 0])), (q_7, .inl (cA_8, 60, .inl (fun _ => 0)))]) hP hD hK [5] [0, 1, 2, 3, 4] rfl rfl (by decide) (by decide) hk1 hFc ht hvm hB1
  generalize H1 = H at hP hS ⊢
  have hK : va_K (dC, dI) vwCl [(cA_4, .int), (cA_8, .int)] s := hK.sub [0, 1] rfl
  have hP : va_P (dC, dI) vwCl [(h0, .inr (5, [.null, .ref q_1, .ref q_5, .null, .int 0, .int 0, .int 0])), (q_1, .inr (0, [.ref q_3, .int 0, .int 0])), (q_3, .inl (cA_4, 60, .inl (fun _ => 0))), (q_5, .inr (0, [.ref q_7, .int 0, .int 0])), (q_7, .inl (cA_8, 60, .inl (fun _ => 0)))] H := hP
  have hD : va_D A [(h0, .inr (5, [.null, .ref q_1, .ref q_5, .null, .int 0, .int 0, .int 0])), (q_1, .inr (0, [.ref q_3, .int 0, .int 0])), (q_3, .inl (cA_4, 60, .inl (fun _ => 0))), (q_5, .inr (0, [.ref q_7, .int 0, .int 0])), (q_7, .inl (cA_8, 60, .inl (fun _ => 0)))] := hD
  refine va_putF (D := (dC, dI)) (ci := 5) (v := .ref q_9) (ty := .object "PostGate$Tags") (C := RX5) (T := TX5) (N := 7) hx hb hts it_5 tyX5 tyX5_ok nmX5 hown hK hP hD hS 0 rfl rfl 3 (by decide) (hts _ kt_91) (fun _ h9 => h9) rfl hin rfl (by decide +kernel) rfl rfl (Nat.le_of_ble_eq_true rfl) dX5_init_41 (fun H locs hP hD hS => ?_)
  have hP : va_P (dC, dI) vwCl [(h0, .inr (5, [.null, .ref q_1, .ref q_5, .ref q_9, .int 0, .int 0, .int 0])), (q_1, .inr (0, [.ref q_3, .int 0, .int 0])), (q_3, .inl (cA_4, 60, .inl (fun _ => 0))), (q_5, .inr (0, [.ref q_7, .int 0, .int 0])), (q_7, .inl (cA_8, 60, .inl (fun _ => 0)))] H := hP
  have hD : va_D A [(h0, .inr (5, [.null, .ref q_1, .ref q_5, .ref q_9, .int 0, .int 0, .int 0])), (q_1, .inr (0, [.ref q_3, .int 0, .int 0])), (q_3, .inl (cA_4, 60, .inl (fun _ => 0))), (q_5, .inr (0, [.ref q_7, .int 0, .int 0])), (q_7, .inl (cA_8, 60, .inl (fun _ => 0)))] := hD
  refine lv_aload_n hx hb dX5_init_44 rfl (lv_at hl 0 rfl) ?_
  refine lv_iconst (v := 0) hx hb dX5_init_45 (by decide) ?_
  refine va_put (D := (dC, dI)) (ci := 5) (v := .int 0) (ty := .int) (C := RX5) (T := TX5) (N := 7) hx hb hts it_5 tyX5 tyX5_ok nmX5 hown hK hP hD hS 0 rfl rfl 4 (by decide) (hts _ kt_92) (fun _ h9 => h9) rfl (by decide +kernel) rfl rfl (Nat.le_of_ble_eq_true rfl) dX5_init_46 (fun H locs hP hD hS => ?_)
  have hP : va_P (dC, dI) vwCl [(h0, .inr (5, [.null, .ref q_1, .ref q_5, .ref q_9, .int 0, .int 0, .int 0])), (q_1, .inr (0, [.ref q_3, .int 0, .int 0])), (q_3, .inl (cA_4, 60, .inl (fun _ => 0))), (q_5, .inr (0, [.ref q_7, .int 0, .int 0])), (q_7, .inl (cA_8, 60, .inl (fun _ => 0)))] H := hP
  have hD : va_D A [(h0, .inr (5, [.null, .ref q_1, .ref q_5, .ref q_9, .int 0, .int 0, .int 0])), (q_1, .inr (0, [.ref q_3, .int 0, .int 0])), (q_3, .inl (cA_4, 60, .inl (fun _ => 0))), (q_5, .inr (0, [.ref q_7, .int 0, .int 0])), (q_7, .inl (cA_8, 60, .inl (fun _ => 0)))] := hD
  refine lv_aload_n hx hb dX5_init_49 rfl (lv_at hl 0 rfl) ?_
  refine lv_iconst (v := 0) hx hb dX5_init_50 (by decide) ?_
  refine va_put (D := (dC, dI)) (ci := 5) (v := .int 0) (ty := .boolean) (C := RX5) (T := TX5) (N := 7) hx hb hts it_5 tyX5 tyX5_ok nmX5 hown hK hP hD hS 0 rfl rfl 5 (by decide) (hts _ kt_93) (fun _ h9 => h9) rfl (by decide +kernel) rfl rfl (Nat.le_of_ble_eq_true rfl) dX5_init_51 (fun H locs hP hD hS => ?_)
  have hP : va_P (dC, dI) vwCl [(h0, .inr (5, [.null, .ref q_1, .ref q_5, .ref q_9, .int 0, .int 0, .int 0])), (q_1, .inr (0, [.ref q_3, .int 0, .int 0])), (q_3, .inl (cA_4, 60, .inl (fun _ => 0))), (q_5, .inr (0, [.ref q_7, .int 0, .int 0])), (q_7, .inl (cA_8, 60, .inl (fun _ => 0)))] H := hP
  have hD : va_D A [(h0, .inr (5, [.null, .ref q_1, .ref q_5, .ref q_9, .int 0, .int 0, .int 0])), (q_1, .inr (0, [.ref q_3, .int 0, .int 0])), (q_3, .inl (cA_4, 60, .inl (fun _ => 0))), (q_5, .inr (0, [.ref q_7, .int 0, .int 0])), (q_7, .inl (cA_8, 60, .inl (fun _ => 0)))] := hD
  refine lv_aload_n hx hb dX5_init_54 rfl (lv_at hl 0 rfl) ?_
  refine lv_iconst (v := 0) hx hb dX5_init_55 (by decide) ?_
  refine va_put (D := (dC, dI)) (ci := 5) (v := .int 0) (ty := .boolean) (C := RX5) (T := TX5) (N := 7) hx hb hts it_5 tyX5 tyX5_ok nmX5 hown hK hP hD hS 0 rfl rfl 6 (by decide) (hts _ kt_94) (fun _ h9 => h9) rfl (by decide +kernel) rfl rfl (Nat.le_of_ble_eq_true rfl) dX5_init_56 (fun H locs hP hD hS => ?_)
  have hP : va_P (dC, dI) vwCl [(h0, .inr (5, [.null, .ref q_1, .ref q_5, .ref q_9, .int 0, .int 0, .int 0])), (q_1, .inr (0, [.ref q_3, .int 0, .int 0])), (q_3, .inl (cA_4, 60, .inl (fun _ => 0))), (q_5, .inr (0, [.ref q_7, .int 0, .int 0])), (q_7, .inl (cA_8, 60, .inl (fun _ => 0)))] H := hP
  have hD : va_D A [(h0, .inr (5, [.null, .ref q_1, .ref q_5, .ref q_9, .int 0, .int 0, .int 0])), (q_1, .inr (0, [.ref q_3, .int 0, .int 0])), (q_3, .inl (cA_4, 60, .inl (fun _ => 0))), (q_5, .inr (0, [.ref q_7, .int 0, .int 0])), (q_7, .inl (cA_8, 60, .inl (fun _ => 0)))] := hD
  refine lv_aload_n hx hb dX5_init_59 rfl (lv_at hl 0 rfl) ?_
  refine lv_aload_n hx hb dX5_init_60 rfl (lv_at hl 1 rfl) ?_
  refine va_putF (D := (dC, dI)) (ci := 5) (v := .ref qd) (ty := .object "PostGate$Directory") (C := RX5) (T := TX5) (N := 7) hx hb hts it_5 tyX5 tyX5_ok nmX5 hown hK hP hD hS 0 rfl rfl 0 (by decide) (hts _ kt_95) (fun _ h9 => h9) rfl hin rfl (by decide +kernel) rfl rfl (Nat.le_of_ble_eq_true rfl) dX5_init_61 (fun H locs hP hD hS => ?_)
  have hP : va_P (dC, dI) vwCl [(h0, .inr (5, [.ref qd, .ref q_1, .ref q_5, .ref q_9, .int 0, .int 0, .int 0])), (q_1, .inr (0, [.ref q_3, .int 0, .int 0])), (q_3, .inl (cA_4, 60, .inl (fun _ => 0))), (q_5, .inr (0, [.ref q_7, .int 0, .int 0])), (q_7, .inl (cA_8, 60, .inl (fun _ => 0)))] H := hP
  have hD : va_D A [(h0, .inr (5, [.ref qd, .ref q_1, .ref q_5, .ref q_9, .int 0, .int 0, .int 0])), (q_1, .inr (0, [.ref q_3, .int 0, .int 0])), (q_3, .inl (cA_4, 60, .inl (fun _ => 0))), (q_5, .inr (0, [.ref q_7, .int 0, .int 0])), (q_7, .inl (cA_8, 60, .inl (fun _ => 0)))] := hD
  have hP9 := hP.sub (ws' := []) [] rfl
  have hD9 := hD.sub (ws' := []) [] (by decide) rfl
  have hK9 := hK.sub (tys' := []) [] rfl
  refine W.widen (k := 10) (n := 954) (by omega) (by omega) ?_
  exact W.vret hx hb hr (fun t ht hW => ⟨⟨(), rfl, trivial, QW.mk ht hW hP9 hK9 hD9⟩, hS.F ht⟩) hS.2.2 dX5_init_64
set_option maxHeartbeats 4000000 in
set_option maxRecDepth 100000 in
theorem c_X7_init (l : Launch) (dC : Nat → ClassId) (dI : Nat → Nat → Nat) (sz : Nat) (h0 : Nat) (qd : Nat) : Met l yX7_init (.code yX7_init cX7_init 2 none :: tb) ({ frames := 3, cells := 40, slots := 10697, locals := 54 }) (va_Pc [.ref h0, .ref qd] (PW (dC, dI) sz [(h0, .inr (7, [.null, .null, .null, .null, .null, .null, .null, .null, .null, .null, .null, .null, .null, .null, .null, .int 0, .int 0]))] [])) (va_Qv (fun _ : Unit => True) (fun _ T9 => QW (dC, dI) (va_A [(h0, .inr (7, [.null, .null, .null, .null, .null, .null, .null, .null, .null, .null, .null, .null, .null, .null, .null, .int 0, .int 0]))] sz) [] [] T9) (va_A [(h0, .inr (7, [.null, .null, .null, .null, .null, .null, .null, .null, .null, .null, .null, .null, .null, .null, .null, .int 0, .int 0]))] sz)) 40 10697 (va_A [(h0, .inr (7, [.null, .null, .null, .null, .null, .null, .null, .null, .null, .null, .null, .null, .null, .null, .null, .int 0, .int 0]))] sz) := by
  refine Met.ofW (cc := cX7_init) (maxL := 2) (ret := none) (by decide) rfl ?_
  intro p e s m args below meth c s₁ B hml hv
  obtain ⟨rfl, hsz, hP, hK, hD0, hE⟩ := hv
  have hx := B.exec
  have hb := B.bytes
  have hr := B.returns
  have hts : ∀ w ∈ tb, w.before _ s = true := fun w h => atoms_spec (ws := .code yX7_init cX7_init 2 none :: tb) B.pre w (List.mem_cons_of_mem _ h)
  have hown : s.vm.findClass RX7 = some m.cls := findClass_of_methodNamed B.named
  have hlocks := B.notSynchronized
  have hin : meth.name = "<init>" := (name_of_methodNamed B.named B.method).1
  subst hsz
  have hD := hD0.self (sz := s.heap.size)
  generalize hAe : va_A [(h0, .inr (7, [.null, .null, .null, .null, .null, .null, .null, .null, .null, .null, .null, .null, .null, .null, .null, .int 0, .int 0]))] s.heap.size = A at hD ⊢
  have hA : ∀ q : Nat, s.heap.size ≤ q → A q := fun q h => by rw [← hAe]; exact Or.inr h
  have hS : va_S A s.heap s.heap [] := va_S.rf
  have hP : va_P (dC, dI) vwCl [(h0, .inr (7, [.null, .null, .null, .null, .null, .null, .null, .null, .null, .null, .null, .null, .null, .null, .null, .int 0, .int 0]))] s.heap := hP
  have hl := lv_entry ([.ref h0, .ref qd]) (n := 2) (Nat.le_of_ble_eq_true rfl)
  rw [lg_entry_eq]
  generalize (lg_sl ([.ref h0, .ref qd]) ++ List.replicate (2 - (lg_sl ([.ref h0, .ref qd])).length) Slot.unset).toArray = ls at hl ⊢
  have hl : lv_has ls 2 [(0, .ref h0), (1, .ref qd)] := hl
  refine lv_aload_n hx hb dX7_init_0 rfl (lv_at hl 0 rfl) ?_
  refine W.objInit hx hb hown (hts _ kt_96) (hts _ kt_1) (hts _ kt_2) rfl (by rw [hml]; exact hl.1) rfl dX7_init_1 (Nat.le_of_ble_eq_true rfl) (Nat.le_of_ble_eq_true rfl) ?_
  refine W.eq (g2 := F0 m 4 ls []) rfl ?_
  refine lv_aload_n hx hb dX7_init_4 rfl (lv_at hl 0 rfl) ?_
  refine va_new (ci := 9) (fs := [.null, .null, .null, .null, .int 0]) (C := RX9) (T := TX9) (N := 5) hx hb hts it_9 tyX9 tyX9_ok hown (hts _ kt_97) (hts _ kt_86) (hts _ kt_87) hK hP hD hS hA rfl df_9 (by show _ + 1 ≤ 40; omega) (by show _ + 5 ≤ 10697; omega) dX7_init_5 (fun q_1 H hP hD hS => ?_)
  have hP : va_P (dC, dI) vwCl [(h0, .inr (7, [.null, .null, .null, .null, .null, .null, .null, .null, .null, .null, .null, .null, .null, .null, .null, .int 0, .int 0])), (q_1, .inr (9, [.null, .null, .null, .null, .int 0]))] H := hP
  have hD : va_D A [(h0, .inr (7, [.null, .null, .null, .null, .null, .null, .null, .null, .null, .null, .null, .null, .null, .null, .null, .int 0, .int 0])), (q_1, .inr (9, [.null, .null, .null, .null, .int 0]))] := hD
  refine lv_dup hx hb dX7_init_8 rfl ?_
  refine lv_sipush (v := 3000) hx hb dX7_init_9 (by decide) ?_
  refine lv_topi (fun x ex => ?_)
  obtain rfl : x = nI 3000 := ex.trans (by decide)
  have hPc := hP.sub (ws' := [(q_1, .inr (9, [.null, .null, .null, .null, .int 0]))]) [1] rfl
  have hDc := hD.sub (ws' := [(q_1, .inr (9, [.null, .null, .null, .null, .int 0]))]) [1] (by decide) rfl
  have hKc := hK.sub (tys' := []) [] rfl
  have hFc := va_free (wc := [(q_1, .inr (9, [.null, .null, .null, .null, .int 0]))]) hD hS hA [1] rfl
  refine va_callv (va_runI (As := [.int (nI 3000)]) (rest := [.ref q_1, .ref h0]) ⟨hx, hb, hml, hown, hts⟩ (c_X9_init l dC dI H.size q_1 3000 (by omega)) ⟨callB_of 1 hts (gi kt_88) rfl rfl rfl (hts _ kt_87) (hts _ kt_98) (by decide +kernel) ⟨Nat.le_of_ble_eq_true rfl, Nat.le_of_ble_eq_true rfl⟩, rfl, (hts _ kt_90)⟩ ⟨fun a U g mk q => ⟨q.1, PW.calling q.2⟩, fun U hU hW => ⟨rfl, PW.mk hU hW hPc hKc hDc hE⟩⟩ rfl rfl hl.1 rfl (lv_room (Nat.le_of_ble_eq_true rfl)) dX7_init_12 ⟨by show _ + 5 ≤ 40; omega, by show _ + (3000 + 123) ≤ 10697; omega⟩) hS (fun q _ h => hFc q h) hFc (fun u t H1 locs ht hvm hw hB hz1 hk1 hS => ?_)
  have hB1 := hB
  obtain ⟨hP, hD, hK⟩ := QW.join (wr := [(h0, .inr (7, [.null, .null, .null, .null, .null, .null, .null, .null, .null, .null, .null, .null, .null, .null, .null, .int 0, .int 0]))]) hP hD hK [1] [0] rfl rfl (by decide) (by decide) hk1 hFc ht hvm hB1
  generalize H1 = H at hP hS ⊢
  have hK : va_K (dC, dI) vwCl [] s := hK.sub [] rfl
  have hP : va_P (dC, dI) vwCl [(h0, .inr (7, [.null, .null, .null, .null, .null, .null, .null, .null, .null, .null, .null, .null, .null, .null, .null, .int 0, .int 0]))] H := hP
  have hD : va_D A [(h0, .inr (7, [.null, .null, .null, .null, .null, .null, .null, .null, .null, .null, .null, .null, .null, .null, .null, .int 0, .int 0]))] := hD
  have hP := hP.sub (ws' := [(h0, .inr (7, [.null, .null, .null, .null, .null, .null, .null, .null, .null, .null, .null, .null, .null, .null, .null, .int 0, .int 0]))]) [0] rfl
  have hD := hD.sub (ws' := [(h0, .inr (7, [.null, .null, .null, .null, .null, .null, .null, .null, .null, .null, .null, .null, .null, .null, .null, .int 0, .int 0]))]) [0] (by decide) rfl
  have hK := hK.sub (tys' := []) [] rfl
  refine va_putF (D := (dC, dI)) (ci := 7) (v := .ref q_1) (ty := .object "PostGate$Tags") (C := RX7) (T := TX7) (N := 17) hx hb hts it_7 tyX7 tyX7_ok nmX7 hown hK hP hD hS 0 rfl rfl 1 (by decide) (hts _ kt_99) (fun _ h9 => h9) rfl hin rfl (by decide +kernel) rfl rfl (Nat.le_of_ble_eq_true rfl) dX7_init_15 (fun H locs hP hD hS => ?_)
  have hP : va_P (dC, dI) vwCl [(h0, .inr (7, [.null, .ref q_1, .null, .null, .null, .null, .null, .null, .null, .null, .null, .null, .null, .null, .null, .int 0, .int 0]))] H := hP
  have hD : va_D A [(h0, .inr (7, [.null, .ref q_1, .null, .null, .null, .null, .null, .null, .null, .null, .null, .null, .null, .null, .null, .int 0, .int 0]))] := hD
  refine lv_aload_n hx hb dX7_init_18 rfl (lv_at hl 0 rfl) ?_
  refine va_new (ci := 9) (fs := [.null, .null, .null, .null, .int 0]) (C := RX9) (T := TX9) (N := 5) hx hb hts it_9 tyX9 tyX9_ok hown (hts _ kt_97) (hts _ kt_86) (hts _ kt_87) hK hP hD hS hA rfl df_9 (by show _ + 1 ≤ 40; omega) (by show _ + 5 ≤ 10697; omega) dX7_init_19 (fun q_3 H hP hD hS => ?_)
  have hP : va_P (dC, dI) vwCl [(h0, .inr (7, [.null, .ref q_1, .null, .null, .null, .null, .null, .null, .null, .null, .null, .null, .null, .null, .null, .int 0, .int 0])), (q_3, .inr (9, [.null, .null, .null, .null, .int 0]))] H := hP
  have hD : va_D A [(h0, .inr (7, [.null, .ref q_1, .null, .null, .null, .null, .null, .null, .null, .null, .null, .null, .null, .null, .null, .int 0, .int 0])), (q_3, .inr (9, [.null, .null, .null, .null, .int 0]))] := hD
  refine lv_dup hx hb dX7_init_22 rfl ?_
  refine lv_sipush (v := 700) hx hb dX7_init_23 (by decide) ?_
  refine lv_topi (fun x ex => ?_)
  obtain rfl : x = nI 700 := ex.trans (by decide)
  have hPc := hP.sub (ws' := [(q_3, .inr (9, [.null, .null, .null, .null, .int 0]))]) [1] rfl
  have hDc := hD.sub (ws' := [(q_3, .inr (9, [.null, .null, .null, .null, .int 0]))]) [1] (by decide) rfl
  have hKc := hK.sub (tys' := []) [] rfl
  have hFc := va_free (wc := [(q_3, .inr (9, [.null, .null, .null, .null, .int 0]))]) hD hS hA [1] rfl
  refine va_callv (va_runI (As := [.int (nI 700)]) (rest := [.ref q_3, .ref h0]) ⟨hx, hb, hml, hown, hts⟩ (c_X9_init l dC dI H.size q_3 700 (by omega)) ⟨callB_of 1 hts (gi kt_88) rfl rfl rfl (hts _ kt_87) (hts _ kt_98) (by decide +kernel) ⟨Nat.le_of_ble_eq_true rfl, Nat.le_of_ble_eq_true rfl⟩, rfl, (hts _ kt_90)⟩ ⟨fun a U g mk q => ⟨q.1, PW.calling q.2⟩, fun U hU hW => ⟨rfl, PW.mk hU hW hPc hKc hDc hE⟩⟩ rfl rfl hl.1 rfl (lv_room (Nat.le_of_ble_eq_true rfl)) dX7_init_26 ⟨by show _ + 5 ≤ 40; omega, by show _ + (700 + 123) ≤ 10697; omega⟩) hS (fun q _ h => hFc q h) hFc (fun u t H1 locs ht hvm hw hB hz1 hk1 hS => ?_)
  have hB1 := hB
  obtain ⟨hP, hD, hK⟩ := QW.join (wr := [(h0, .inr (7, [.null, .ref q_1, .null, .null, .null, .null, .null, .null, .null, .null, .null, .null, .null, .null, .null, .int 0, .int 0]))]) hP hD hK [1] [0] rfl rfl (by decide) (by decide) hk1 hFc ht hvm hB1
  generalize H1 = H at hP hS ⊢
  have hK : va_K (dC, dI) vwCl [] s := hK.sub [] rfl
  have hP : va_P (dC, dI) vwCl [(h0, .inr (7, [.null, .ref q_1, .null, .null, .null, .null, .null, .null, .null, .null, .null, .null, .null, .null, .null, .int 0, .int 0]))] H := hP
  have hD : va_D A [(h0, .inr (7, [.null, .ref q_1, .null, .null, .null, .null, .null, .null, .null, .null, .null, .null, .null, .null, .null, .int 0, .int 0]))] := hD
  have hP := hP.sub (ws' := [(h0, .inr (7, [.null, .ref q_1, .null, .null, .null, .null, .null, .null, .null, .null, .null, .null, .null, .null, .null, .int 0, .int 0]))]) [0] rfl
  have hD := hD.sub (ws' := [(h0, .inr (7, [.null, .ref q_1, .null, .null, .null, .null, .null, .null, .null, .null, .null, .null, .null, .null, .null, .int 0, .int 0]))]) [0] (by decide) rfl
  have hK := hK.sub (tys' := []) [] rfl
  refine va_putF (D := (dC, dI)) (ci := 7) (v := .ref q_3) (ty := .object "PostGate$Tags") (C := RX7) (T := TX7) (N := 17) hx hb hts it_7 tyX7 tyX7_ok nmX7 hown hK hP hD hS 0 rfl rfl 2 (by decide) (hts _ kt_100) (fun _ h9 => h9) rfl hin rfl (by decide +kernel) rfl rfl (Nat.le_of_ble_eq_true rfl) dX7_init_29 (fun H locs hP hD hS => ?_)
  have hP : va_P (dC, dI) vwCl [(h0, .inr (7, [.null, .ref q_1, .ref q_3, .null, .null, .null, .null, .null, .null, .null, .null, .null, .null, .null, .null, .int 0, .int 0]))] H := hP
  have hD : va_D A [(h0, .inr (7, [.null, .ref q_1, .ref q_3, .null, .null, .null, .null, .null, .null, .null, .null, .null, .null, .null, .null, .int 0, .int 0]))] := hD
  refine lv_aload_n hx hb dX7_init_32 rfl (lv_at hl 0 rfl) ?_
  refine va_new (ci := 0) (fs := [.null, .int 0, .int 0]) (C := RX0) (T := TX0) (N := 3) hx hb hts it_0 tyX0 tyX0_ok hown (hts _ kt_101) (hts _ kt_9) (hts _ kt_10) hK hP hD hS hA rfl df_0 (by show _ + 1 ≤ 40; omega) (by show _ + 3 ≤ 10697; omega) dX7_init_33 (fun q_5 H hP hD hS => ?_)
  have hP : va_P (dC, dI) vwCl [(h0, .inr (7, [.null, .ref q_1, .ref q_3, .null, .null, .null, .null, .null, .null, .null, .null, .null, .null, .null, .null, .int 0, .int 0])), (q_5, .inr (0, [.null, .int 0, .int 0]))] H := hP
  have hD : va_D A [(h0, .inr (7, [.null, .ref q_1, .ref q_3, .null, .null, .null, .null, .null, .null, .null, .null, .null, .null, .null, .null, .int 0, .int 0])), (q_5, .inr (0, [.null, .int 0, .int 0]))] := hD
  refine lv_dup hx hb dX7_init_36 rfl ?_
  refine lv_bipush (v := 60) hx hb dX7_init_37 (by decide) ?_
  refine lv_topi (fun x ex => ?_)
  obtain rfl : x = nI 60 := ex.trans (by decide)
  have hPc := hP.sub (ws' := [(q_5, .inr (0, [.null, .int 0, .int 0]))]) [1] rfl
  have hDc := hD.sub (ws' := [(q_5, .inr (0, [.null, .int 0, .int 0]))]) [1] (by decide) rfl
  have hKc := hK.sub (tys' := []) [] rfl
  have hFc := va_free (wc := [(q_5, .inr (0, [.null, .int 0, .int 0]))]) hD hS hA [1] rfl
  refine va_callv (va_runI (As := [.int (nI 60)]) (rest := [.ref q_5, .ref h0]) ⟨hx, hb, hml, hown, hts⟩ (c_X0_init l dC dI H.size q_5 60 (by omega)) ⟨callB_of 1 hts (gi kt_11) rfl rfl rfl (hts _ kt_10) (hts _ kt_102) (by decide +kernel) ⟨Nat.le_of_ble_eq_true rfl, Nat.le_of_ble_eq_true rfl⟩, rfl, (hts _ kt_13)⟩ ⟨fun a U g mk q => ⟨q.1, PW.calling q.2⟩, fun U hU hW => ⟨rfl, PW.mk hU hW hPc hKc hDc hE⟩⟩ rfl rfl hl.1 rfl (lv_room (Nat.le_of_ble_eq_true rfl)) dX7_init_39 ⟨by show _ + 1 ≤ 40; omega, by show _ + 60 ≤ 10697; omega⟩) hS (fun q _ h => hFc q h) hFc (fun u t H1 locs ht hvm hw hB hz1 hk1 hS => ?_)
  obtain ⟨q_7, cA_8, hB1⟩ := hB
  obtain ⟨hP, hD, hK⟩ := QW.join (wr := [(h0, .inr (7, [.null, .ref q_1, .ref q_3, .null, .null, .null, .null, .null, .null, .null, .null, .null, .null, .null, .null, .int 0, .int 0]))]) hP hD hK [1] [0] rfl rfl (by decide) (by decide) hk1 hFc ht hvm hB1
  generalize H1 = H at hP hS ⊢
  have hK : va_K (dC, dI) vwCl [(cA_8, .int)] s := hK.sub [0] rfl
  have hP : va_P (dC, dI) vwCl [(h0, .inr (7, [.null, .ref q_1, .ref q_3, .null, .null, .null, .null, .null, .null, .null, .null, .null, .null, .null, .null, .int 0, .int 0])), (q_5, .inr (0, [.ref q_7, .int 0, .int 0])), (q_7, .inl (cA_8, 60, .inl (fun _ => 0)))] H := hP
  have hD : va_D A [(h0, .inr (7, [.null, .ref q_1, .ref q_3, .null, .null, .null, .null, .null, .null, .null, .null, .null, .null, .null, .null, .int 0, .int 0])), (q_5, .inr (0, [.ref q_7, .int 0, .int 0])), (q_7, .inl (cA_8, 60, .inl (fun _ => 0)))] := hD
  have hP := hP.sub (ws' := [(h0, .inr (7, [.null, .ref q_1, .ref q_3, .null, .null, .null, .null, .null, .null, .null, .null, .null, .null, .null, .null, .int 0, .int 0]))]) [0] rfl
  have hD := hD.sub (ws' := [(h0, .inr (7, [.null, .ref q_1, .ref q_3, .null, .null, .null, .null, .null, .null, .null, .null, .null, .null, .null, .null, .int 0, .int 0]))]) [0] (by decide) rfl
  have hK := hK.sub (tys' := []) [] rfl
  refine va_putF (D := (dC, dI)) (ci := 7) (v := .ref q_5) (ty := .object "PostGate$Bytes") (C := RX7) (T := TX7) (N := 17) hx hb hts it_7 tyX7 tyX7_ok nmX7 hown hK hP hD hS 0 rfl rfl 3 (by decide) (hts _ kt_103) (fun _ h9 => h9) rfl hin rfl (by decide +kernel) rfl rfl (Nat.le_of_ble_eq_true rfl) dX7_init_42 (fun H locs hP hD hS => ?_)
  have hP : va_P (dC, dI) vwCl [(h0, .inr (7, [.null, .ref q_1, .ref q_3, .ref q_5, .null, .null, .null, .null, .null, .null, .null, .null, .null, .null, .null, .int 0, .int 0]))] H := hP
  have hD : va_D A [(h0, .inr (7, [.null, .ref q_1, .ref q_3, .ref q_5, .null, .null, .null, .null, .null, .null, .null, .null, .null, .null, .null, .int 0, .int 0]))] := hD
  refine lv_aload_n hx hb dX7_init_45 rfl (lv_at hl 0 rfl) ?_
  refine va_new (ci := 0) (fs := [.null, .int 0, .int 0]) (C := RX0) (T := TX0) (N := 3) hx hb hts it_0 tyX0 tyX0_ok hown (hts _ kt_101) (hts _ kt_9) (hts _ kt_10) hK hP hD hS hA rfl df_0 (by show _ + 1 ≤ 40; omega) (by show _ + 3 ≤ 10697; omega) dX7_init_46 (fun q_9 H hP hD hS => ?_)
  have hP : va_P (dC, dI) vwCl [(h0, .inr (7, [.null, .ref q_1, .ref q_3, .ref q_5, .null, .null, .null, .null, .null, .null, .null, .null, .null, .null, .null, .int 0, .int 0])), (q_9, .inr (0, [.null, .int 0, .int 0]))] H := hP
  have hD : va_D A [(h0, .inr (7, [.null, .ref q_1, .ref q_3, .ref q_5, .null, .null, .null, .null, .null, .null, .null, .null, .null, .null, .null, .int 0, .int 0])), (q_9, .inr (0, [.null, .int 0, .int 0]))] := hD
  refine lv_dup hx hb dX7_init_49 rfl ?_
  refine lv_bipush (v := 60) hx hb dX7_init_50 (by decide) ?_
  refine lv_topi (fun x ex => ?_)
  obtain rfl : x = nI 60 := ex.trans (by decide)
  have hPc := hP.sub (ws' := [(q_9, .inr (0, [.null, .int 0, .int 0]))]) [1] rfl
  have hDc := hD.sub (ws' := [(q_9, .inr (0, [.null, .int 0, .int 0]))]) [1] (by decide) rfl
  have hKc := hK.sub (tys' := []) [] rfl
  have hFc := va_free (wc := [(q_9, .inr (0, [.null, .int 0, .int 0]))]) hD hS hA [1] rfl
  refine va_callv (va_runI (As := [.int (nI 60)]) (rest := [.ref q_9, .ref h0]) ⟨hx, hb, hml, hown, hts⟩ (c_X0_init l dC dI H.size q_9 60 (by omega)) ⟨callB_of 1 hts (gi kt_11) rfl rfl rfl (hts _ kt_10) (hts _ kt_102) (by decide +kernel) ⟨Nat.le_of_ble_eq_true rfl, Nat.le_of_ble_eq_true rfl⟩, rfl, (hts _ kt_13)⟩ ⟨fun a U g mk q => ⟨q.1, PW.calling q.2⟩, fun U hU hW => ⟨rfl, PW.mk hU hW hPc hKc hDc hE⟩⟩ rfl rfl hl.1 rfl (lv_room (Nat.le_of_ble_eq_true rfl)) dX7_init_52 ⟨by show _ + 1 ≤ 40; omega, by show _ + 60 ≤ 10697; omega⟩) hS (fun q _ h => hFc q h) hFc (fun u t H1 locs ht hvm hw hB hz1 hk1 hS => ?_)
  obtain ⟨q_11, cA_12, hB1⟩ := hB
  obtain ⟨hP, hD, hK⟩ := QW.join (wr := [(h0, .inr (7, [.null, .ref q_1, .ref q_3, .ref q_5, .null, .null, .null, .null, .null, .null, .null, .null, .null, .null, .null, .int 0, .int 0]))]) hP hD hK [1] [0] rfl rfl (by decide) (by decide) hk1 hFc ht hvm hB1
  generalize H1 = H at hP hS ⊢
  have hK : va_K (dC, dI) vwCl [(cA_12, .int)] s := hK.sub [0] rfl
  have hP : va_P (dC, dI) vwCl [(h0, .inr (7, [.null, .ref q_1, .ref q_3, .ref q_5, .null, .null, .null, .null, .null, .null, .null, .null, .null, .null, .null, .int 0, .int 0])), (q_9, .inr (0, [.ref q_11, .int 0, .int 0])), (q_11, .inl (cA_12, 60, .inl (fun _ => 0)))] H := hP
  have hD : va_D A [(h0, .inr (7, [.null, .ref q_1, .ref q_3, .ref q_5, .null, .null, .null, .null, .null, .null, .null, .null, .null, .null, .null, .int 0, .int 0])), (q_9, .inr (0, [.ref q_11, .int 0, .int 0])), (q_11, .inl (cA_12, 60, .inl (fun _ => 0)))] := hD
  have hP := hP.sub (ws' := [(h0, .inr (7, [.null, .ref q_1, .ref q_3, .ref q_5, .null, .null, .null, .null, .null, .null, .null, .null, .null, .null, .null, .int 0, .int 0]))]) [0] rfl
  have hD := hD.sub (ws' := [(h0, .inr (7, [.null, .ref q_1, .ref q_3, .ref q_5, .null, .null, .null, .null, .null, .null, .null, .null, .null, .null, .null, .int 0, .int 0]))]) [0] (by decide) rfl
  have hK := hK.sub (tys' := []) [] rfl
  refine va_putF (D := (dC, dI)) (ci := 7) (v := .ref q_9) (ty := .object "PostGate$Bytes") (C := RX7) (T := TX7) (N := 17) hx hb hts it_7 tyX7 tyX7_ok nmX7 hown hK hP hD hS 0 rfl rfl 4 (by decide) (hts _ kt_104) (fun _ h9 => h9) rfl hin rfl (by decide +kernel) rfl rfl (Nat.le_of_ble_eq_true rfl) dX7_init_55 (fun H locs hP hD hS => ?_)
  have hP : va_P (dC, dI) vwCl [(h0, .inr (7, [.null, .ref q_1, .ref q_3, .ref q_5, .ref q_9, .null, .null, .null, .null, .null, .null, .null, .null, .null, .null, .int 0, .int 0]))] H := hP
  have hD : va_D A [(h0, .inr (7, [.null, .ref q_1, .ref q_3, .ref q_5, .ref q_9, .null, .null, .null, .null, .null, .null, .null, .null, .null, .null, .int 0, .int 0]))] := hD
  refine lv_aload_n hx hb dX7_init_58 rfl (lv_at hl 0 rfl) ?_
  refine va_new (ci := 0) (fs := [.null, .int 0, .int 0]) (C := RX0) (T := TX0) (N := 3) hx hb hts it_0 tyX0 tyX0_ok hown (hts _ kt_101) (hts _ kt_9) (hts _ kt_10) hK hP hD hS hA rfl df_0 (by show _ + 1 ≤ 40; omega) (by show _ + 3 ≤ 10697; omega) dX7_init_59 (fun q_13 H hP hD hS => ?_)
  have hP : va_P (dC, dI) vwCl [(h0, .inr (7, [.null, .ref q_1, .ref q_3, .ref q_5, .ref q_9, .null, .null, .null, .null, .null, .null, .null, .null, .null, .null, .int 0, .int 0])), (q_13, .inr (0, [.null, .int 0, .int 0]))] H := hP
  have hD : va_D A [(h0, .inr (7, [.null, .ref q_1, .ref q_3, .ref q_5, .ref q_9, .null, .null, .null, .null, .null, .null, .null, .null, .null, .null, .int 0, .int 0])), (q_13, .inr (0, [.null, .int 0, .int 0]))] := hD
  refine lv_dup hx hb dX7_init_62 rfl ?_
  refine lv_bipush (v := 32) hx hb dX7_init_63 (by decide) ?_
  refine lv_topi (fun x ex => ?_)
  obtain rfl : x = nI 32 := ex.trans (by decide)
  have hPc := hP.sub (ws' := [(q_13, .inr (0, [.null, .int 0, .int 0]))]) [1] rfl
  have hDc := hD.sub (ws' := [(q_13, .inr (0, [.null, .int 0, .int 0]))]) [1] (by decide) rfl
  have hKc := hK.sub (tys' := []) [] rfl
  have hFc := va_free (wc := [(q_13, .inr (0, [.null, .int 0, .int 0]))]) hD hS hA [1] rfl
  refine va_callv (va_runI (As := [.int (nI 32)]) (rest := [.ref q_13, .ref h0]) ⟨hx, hb, hml, hown, hts⟩ (c_X0_init l dC dI H.size q_13 32 (by omega)) ⟨callB_of 1 hts (gi kt_11) rfl rfl rfl (hts _ kt_10) (hts _ kt_102) (by decide +kernel) ⟨Nat.le_of_ble_eq_true rfl, Nat.le_of_ble_eq_true rfl⟩, rfl, (hts _ kt_13)⟩ ⟨fun a U g mk q => ⟨q.1, PW.calling q.2⟩, fun U hU hW => ⟨rfl, PW.mk hU hW hPc hKc hDc hE⟩⟩ rfl rfl hl.1 rfl (lv_room (Nat.le_of_ble_eq_true rfl)) dX7_init_65 ⟨by show _ + 1 ≤ 40; omega, by show _ + 32 ≤ 10697; omega⟩) hS (fun q _ h => hFc q h) hFc (fun u t H1 locs ht hvm hw hB hz1 hk1 hS => ?_)
  obtain ⟨q_15, cA_16, hB1⟩ := hB
  obtain ⟨hP, hD, hK⟩ := QW.join (wr := [(h0, .inr (7, [.null, .ref q_1, .ref q_3, .ref q_5, .ref q_9, .null, .null, .null, .null, .null, .null, .null, .null, .null, .null, .int 0, .int 0]))]) hP hD hK [1] [0] rfl rfl (by decide) (by decide) hk1 hFc ht hvm hB1
  generalize H1 = H at hP hS ⊢
  have hK : va_K (dC, dI) vwCl [(cA_16, .int)] s := hK.sub [0] rfl
  have hP : va_P (dC, dI) vwCl [(h0, .inr (7, [.null, .ref q_1, .ref q_3, .ref q_5, .ref q_9, .null, .null, .null, .null, .null, .null, .null, .null, .null, .null, .int 0, .int 0])), (q_13, .inr (0, [.ref q_15, .int 0, .int 0])), (q_15, .inl (cA_16, 32, .inl (fun _ => 0)))] H := hP
  have hD : va_D A [(h0, .inr (7, [.null, .ref q_1, .ref q_3, .ref q_5, .ref q_9, .null, .null, .null, .null, .null, .null, .null, .null, .null, .null, .int 0, .int 0])), (q_13, .inr (0, [.ref q_15, .int 0, .int 0])), (q_15, .inl (cA_16, 32, .inl (fun _ => 0)))] := hD
  have hP := hP.sub (ws' := [(h0, .inr (7, [.null, .ref q_1, .ref q_3, .ref q_5, .ref q_9, .null, .null, .null, .null, .null, .null, .null, .null, .null, .null, .int 0, .int 0]))]) [0] rfl
  have hD := hD.sub (ws' := [(h0, .inr (7, [.null, .ref q_1, .ref q_3, .ref q_5, .ref q_9, .null, .null, .null, .null, .null, .null, .null, .null, .null, .null, .int 0, .int 0]))]) [0] (by decide) rfl
  have hK := hK.sub (tys' := []) [] rfl
  refine va_putF (D := (dC, dI)) (ci := 7) (v := .ref q_13) (ty := .object "PostGate$Bytes") (C := RX7) (T := TX7) (N := 17) hx hb hts it_7 tyX7 tyX7_ok nmX7 hown hK hP hD hS 0 rfl rfl 5 (by decide) (hts _ kt_105) (fun _ h9 => h9) rfl hin rfl (by decide +kernel) rfl rfl (Nat.le_of_ble_eq_true rfl) dX7_init_68 (fun H locs hP hD hS => ?_)
  have hP : va_P (dC, dI) vwCl [(h0, .inr (7, [.null, .ref q_1, .ref q_3, .ref q_5, .ref q_9, .ref q_13, .null, .null, .null, .null, .null, .null, .null, .null, .null, .int 0, .int 0]))] H := hP
  have hD : va_D A [(h0, .inr (7, [.null, .ref q_1, .ref q_3, .ref q_5, .ref q_9, .ref q_13, .null, .null, .null, .null, .null, .null, .null, .null, .null, .int 0, .int 0]))] := hD
  refine lv_aload_n hx hb dX7_init_71 rfl (lv_at hl 0 rfl) ?_
  refine va_new (ci := 0) (fs := [.null, .int 0, .int 0]) (C := RX0) (T := TX0) (N := 3) hx hb hts it_0 tyX0 tyX0_ok hown (hts _ kt_101) (hts _ kt_9) (hts _ kt_10) hK hP hD hS hA rfl df_0 (by show _ + 1 ≤ 40; omega) (by show _ + 3 ≤ 10697; omega) dX7_init_72 (fun q_17 H hP hD hS => ?_)
  have hP : va_P (dC, dI) vwCl [(h0, .inr (7, [.null, .ref q_1, .ref q_3, .ref q_5, .ref q_9, .ref q_13, .null, .null, .null, .null, .null, .null, .null, .null, .null, .int 0, .int 0])), (q_17, .inr (0, [.null, .int 0, .int 0]))] H := hP
  have hD : va_D A [(h0, .inr (7, [.null, .ref q_1, .ref q_3, .ref q_5, .ref q_9, .ref q_13, .null, .null, .null, .null, .null, .null, .null, .null, .null, .int 0, .int 0])), (q_17, .inr (0, [.null, .int 0, .int 0]))] := hD
  refine lv_dup hx hb dX7_init_75 rfl ?_
  refine lv_bipush (v := 64) hx hb dX7_init_76 (by decide) ?_
  refine lv_topi (fun x ex => ?_)
  obtain rfl : x = nI 64 := ex.trans (by decide)
  have hPc := hP.sub (ws' := [(q_17, .inr (0, [.null, .int 0, .int 0]))]) [1] rfl
  have hDc := hD.sub (ws' := [(q_17, .inr (0, [.null, .int 0, .int 0]))]) [1] (by decide) rfl
  have hKc := hK.sub (tys' := []) [] rfl
  have hFc := va_free (wc := [(q_17, .inr (0, [.null, .int 0, .int 0]))]) hD hS hA [1] rfl
  refine va_callv (va_runI (As := [.int (nI 64)]) (rest := [.ref q_17, .ref h0]) ⟨hx, hb, hml, hown, hts⟩ (c_X0_init l dC dI H.size q_17 64 (by omega)) ⟨callB_of 1 hts (gi kt_11) rfl rfl rfl (hts _ kt_10) (hts _ kt_102) (by decide +kernel) ⟨Nat.le_of_ble_eq_true rfl, Nat.le_of_ble_eq_true rfl⟩, rfl, (hts _ kt_13)⟩ ⟨fun a U g mk q => ⟨q.1, PW.calling q.2⟩, fun U hU hW => ⟨rfl, PW.mk hU hW hPc hKc hDc hE⟩⟩ rfl rfl hl.1 rfl (lv_room (Nat.le_of_ble_eq_true rfl)) dX7_init_78 ⟨by show _ + 1 ≤ 40; omega, by show _ + 64 ≤ 10697; omega⟩) hS (fun q _ h => hFc q h) hFc (fun u t H1 locs ht hvm hw hB hz1 hk1 hS => ?_)
  obtain ⟨q_19, cA_20, hB1⟩ := hB
  obtain ⟨hP, hD, hK⟩ := QW.join (wr := [(h0, .inr (7, [.null, .ref q_1, .ref q_3, .ref q_5, .ref q_9, .ref q_13, .null, .null, .null, .null, .null, .null, .null, .null, .null, .int 0, .int 0]))]) hP hD hK [1] [0] rfl rfl (by decide) (by decide) hk1 hFc ht hvm hB1
  generalize H1 = H at hP hS ⊢
  have hK : va_K (dC, dI) vwCl [(cA_20, .int)] s := hK.sub [0] rfl
  have hP : va_P (dC, dI) vwCl [(h0, .inr (7, [.null, .ref q_1, .ref q_3, .ref q_5, .ref q_9, .ref q_13, .null, .null, .null, .null, .null, .null, .null, .null, .null, .int 0, .int 0])), (q_17, .inr (0, [.ref q_19, .int 0, .int 0])), (q_19, .inl (cA_20, 64, .inl (fun _ => 0)))] H := hP
  have hD : va_D A [(h0, .inr (7, [.null, .ref q_1, .ref q_3, .ref q_5, .ref q_9, .ref q_13, .null, .null, .null, .null, .null, .null, .null, .null, .null, .int 0, .int 0])), (q_17, .inr (0, [.ref q_19, .int 0, .int 0])), (q_19, .inl (cA_20, 64, .inl (fun _ => 0)))] := hD
  have hP := hP.sub (ws' := [(h0, .inr (7, [.null, .ref q_1, .ref q_3, .ref q_5, .ref q_9, .ref q_13, .null, .null, .null, .null, .null, .null, .null, .null, .null, .int 0, .int 0]))]) [0] rfl
  have hD := hD.sub (ws' := [(h0, .inr (7, [.null, .ref q_1, .ref q_3, .ref q_5, .ref q_9, .ref q_13, .null, .null, .null, .null, .null, .null, .null, .null, .null, .int 0, .int 0]))]) [0] (by decide) rfl
  have hK := hK.sub (tys' := []) [] rfl
  refine va_putF (D := (dC, dI)) (ci := 7) (v := .ref q_17) (ty := .object "PostGate$Bytes") (C := RX7) (T := TX7) (N := 17) hx hb hts it_7 tyX7 tyX7_ok nmX7 hown hK hP hD hS 0 rfl rfl 6 (by decide) (hts _ kt_106) (fun _ h9 => h9) rfl hin rfl (by decide +kernel) rfl rfl (Nat.le_of_ble_eq_true rfl) dX7_init_81 (fun H locs hP hD hS => ?_)
  have hP : va_P (dC, dI) vwCl [(h0, .inr (7, [.null, .ref q_1, .ref q_3, .ref q_5, .ref q_9, .ref q_13, .ref q_17, .null, .null, .null, .null, .null, .null, .null, .null, .int 0, .int 0]))] H := hP
  have hD : va_D A [(h0, .inr (7, [.null, .ref q_1, .ref q_3, .ref q_5, .ref q_9, .ref q_13, .ref q_17, .null, .null, .null, .null, .null, .null, .null, .null, .int 0, .int 0]))] := hD
  refine lv_aload_n hx hb dX7_init_84 rfl (lv_at hl 0 rfl) ?_
  refine va_new (ci := 0) (fs := [.null, .int 0, .int 0]) (C := RX0) (T := TX0) (N := 3) hx hb hts it_0 tyX0 tyX0_ok hown (hts _ kt_101) (hts _ kt_9) (hts _ kt_10) hK hP hD hS hA rfl df_0 (by show _ + 1 ≤ 40; omega) (by show _ + 3 ≤ 10697; omega) dX7_init_85 (fun q_21 H hP hD hS => ?_)
  have hP : va_P (dC, dI) vwCl [(h0, .inr (7, [.null, .ref q_1, .ref q_3, .ref q_5, .ref q_9, .ref q_13, .ref q_17, .null, .null, .null, .null, .null, .null, .null, .null, .int 0, .int 0])), (q_21, .inr (0, [.null, .int 0, .int 0]))] H := hP
  have hD : va_D A [(h0, .inr (7, [.null, .ref q_1, .ref q_3, .ref q_5, .ref q_9, .ref q_13, .ref q_17, .null, .null, .null, .null, .null, .null, .null, .null, .int 0, .int 0])), (q_21, .inr (0, [.null, .int 0, .int 0]))] := hD
  refine lv_dup hx hb dX7_init_88 rfl ?_
  refine lv_bipush (v := 64) hx hb dX7_init_89 (by decide) ?_
  refine lv_topi (fun x ex => ?_)
  obtain rfl : x = nI 64 := ex.trans (by decide)
  have hPc := hP.sub (ws' := [(q_21, .inr (0, [.null, .int 0, .int 0]))]) [1] rfl
  have hDc := hD.sub (ws' := [(q_21, .inr (0, [.null, .int 0, .int 0]))]) [1] (by decide) rfl
  have hKc := hK.sub (tys' := []) [] rfl
  have hFc := va_free (wc := [(q_21, .inr (0, [.null, .int 0, .int 0]))]) hD hS hA [1] rfl
  refine va_callv (va_runI (As := [.int (nI 64)]) (rest := [.ref q_21, .ref h0]) ⟨hx, hb, hml, hown, hts⟩ (c_X0_init l dC dI H.size q_21 64 (by omega)) ⟨callB_of 1 hts (gi kt_11) rfl rfl rfl (hts _ kt_10) (hts _ kt_102) (by decide +kernel) ⟨Nat.le_of_ble_eq_true rfl, Nat.le_of_ble_eq_true rfl⟩, rfl, (hts _ kt_13)⟩ ⟨fun a U g mk q => ⟨q.1, PW.calling q.2⟩, fun U hU hW => ⟨rfl, PW.mk hU hW hPc hKc hDc hE⟩⟩ rfl rfl hl.1 rfl (lv_room (Nat.le_of_ble_eq_true rfl)) dX7_init_91 ⟨by show _ + 1 ≤ 40; omega, by show _ + 64 ≤ 10697; omega⟩) hS (fun q _ h => hFc q h) hFc (fun u t H1 locs ht hvm hw hB hz1 hk1 hS => ?_)
  obtain ⟨q_23, cA_24, hB1⟩ := hB
  obtain ⟨hP, hD, hK⟩ := QW.join (wr := [(h0, .inr (7, [.null, .ref q_1, .ref q_3, .ref q_5, .ref q_9, .ref q_13, .ref q_17, .null, .null, .null, .null, .null, .null, .null, .null, .int 0, .int 0]))]) hP hD hK [1] [0] rfl rfl (by decide) (by decide) hk1 hFc ht hvm hB1
  generalize H1 = H at hP hS ⊢
  have hK : va_K (dC, dI) vwCl [(cA_24, .int)] s := hK.sub [0] rfl
  have hP : va_P (dC, dI) vwCl [(h0, .inr (7, [.null, .ref q_1, .ref q_3, .ref q_5, .ref q_9, .ref q_13, .ref q_17, .null, .null, .null, .null, .null, .null, .null, .null, .int 0, .int 0])), (q_21, .inr (0, [.ref q_23, .int 0, .int 0])), (q_23, .inl (cA_24, 64, .inl (fun _ => 0)))] H := hP
  have hD : va_D A [(h0, .inr (7, [.null, .ref q_1, .ref q_3, .ref q_5, .ref q_9, .ref q_13, .ref q_17, .null, .null, .null, .null, .null, .null, .null, .null, .int 0, .int 0])), (q_21, .inr (0, [.ref q_23, .int 0, .int 0])), (q_23, .inl (cA_24, 64, .inl (fun _ => 0)))] := hD
  have hP := hP.sub (ws' := [(h0, .inr (7, [.null, .ref q_1, .ref q_3, .ref q_5, .ref q_9, .ref q_13, .ref q_17, .null, .null, .null, .null, .null, .null, .null, .null, .int 0, .int 0]))]) [0] rfl
  have hD := hD.sub (ws' := [(h0, .inr (7, [.null, .ref q_1, .ref q_3, .ref q_5, .ref q_9, .ref q_13, .ref q_17, .null, .null, .null, .null, .null, .null, .null, .null, .int 0, .int 0]))]) [0] (by decide) rfl
  have hK := hK.sub (tys' := []) [] rfl
  refine va_putF (D := (dC, dI)) (ci := 7) (v := .ref q_21) (ty := .object "PostGate$Bytes") (C := RX7) (T := TX7) (N := 17) hx hb hts it_7 tyX7 tyX7_ok nmX7 hown hK hP hD hS 0 rfl rfl 7 (by decide) (hts _ kt_107) (fun _ h9 => h9) rfl hin rfl (by decide +kernel) rfl rfl (Nat.le_of_ble_eq_true rfl) dX7_init_94 (fun H locs hP hD hS => ?_)
  have hP : va_P (dC, dI) vwCl [(h0, .inr (7, [.null, .ref q_1, .ref q_3, .ref q_5, .ref q_9, .ref q_13, .ref q_17, .ref q_21, .null, .null, .null, .null, .null, .null, .null, .int 0, .int 0]))] H := hP
  have hD : va_D A [(h0, .inr (7, [.null, .ref q_1, .ref q_3, .ref q_5, .ref q_9, .ref q_13, .ref q_17, .ref q_21, .null, .null, .null, .null, .null, .null, .null, .int 0, .int 0]))] := hD
  refine lv_aload_n hx hb dX7_init_97 rfl (lv_at hl 0 rfl) ?_
  refine va_new (ci := 0) (fs := [.null, .int 0, .int 0]) (C := RX0) (T := TX0) (N := 3) hx hb hts it_0 tyX0 tyX0_ok hown (hts _ kt_101) (hts _ kt_9) (hts _ kt_10) hK hP hD hS hA rfl df_0 (by show _ + 1 ≤ 40; omega) (by show _ + 3 ≤ 10697; omega) dX7_init_98 (fun q_25 H hP hD hS => ?_)
  have hP : va_P (dC, dI) vwCl [(h0, .inr (7, [.null, .ref q_1, .ref q_3, .ref q_5, .ref q_9, .ref q_13, .ref q_17, .ref q_21, .null, .null, .null, .null, .null, .null, .null, .int 0, .int 0])), (q_25, .inr (0, [.null, .int 0, .int 0]))] H := hP
  have hD : va_D A [(h0, .inr (7, [.null, .ref q_1, .ref q_3, .ref q_5, .ref q_9, .ref q_13, .ref q_17, .ref q_21, .null, .null, .null, .null, .null, .null, .null, .int 0, .int 0])), (q_25, .inr (0, [.null, .int 0, .int 0]))] := hD
  refine lv_dup hx hb dX7_init_101 rfl ?_
  refine lv_bipush (v := 32) hx hb dX7_init_102 (by decide) ?_
  refine lv_topi (fun x ex => ?_)
  obtain rfl : x = nI 32 := ex.trans (by decide)
  have hPc := hP.sub (ws' := [(q_25, .inr (0, [.null, .int 0, .int 0]))]) [1] rfl
  have hDc := hD.sub (ws' := [(q_25, .inr (0, [.null, .int 0, .int 0]))]) [1] (by decide) rfl
  have hKc := hK.sub (tys' := []) [] rfl
  have hFc := va_free (wc := [(q_25, .inr (0, [.null, .int 0, .int 0]))]) hD hS hA [1] rfl
  refine va_callv (va_runI (As := [.int (nI 32)]) (rest := [.ref q_25, .ref h0]) ⟨hx, hb, hml, hown, hts⟩ (c_X0_init l dC dI H.size q_25 32 (by omega)) ⟨callB_of 1 hts (gi kt_11) rfl rfl rfl (hts _ kt_10) (hts _ kt_102) (by decide +kernel) ⟨Nat.le_of_ble_eq_true rfl, Nat.le_of_ble_eq_true rfl⟩, rfl, (hts _ kt_13)⟩ ⟨fun a U g mk q => ⟨q.1, PW.calling q.2⟩, fun U hU hW => ⟨rfl, PW.mk hU hW hPc hKc hDc hE⟩⟩ rfl rfl hl.1 rfl (lv_room (Nat.le_of_ble_eq_true rfl)) dX7_init_104 ⟨by show _ + 1 ≤ 40; omega, by show _ + 32 ≤ 10697; omega⟩) hS (fun q _ h => hFc q h) hFc (fun u t H1 locs ht hvm hw hB hz1 hk1 hS => ?_)
  obtain ⟨q_27, cA_28, hB1⟩ := hB
  obtain ⟨hP, hD, hK⟩ := QW.join (wr := [(h0, .inr (7, [.null, .ref q_1, .ref q_3, .ref q_5, .ref q_9, .ref q_13, .ref q_17, .ref q_21, .null, .null, .null, .null, .null, .null, .null, .int 0, .int 0]))]) hP hD hK [1] [0] rfl rfl (by decide) (by decide) hk1 hFc ht hvm hB1
  generalize H1 = H at hP hS ⊢
  have hK : va_K (dC, dI) vwCl [(cA_28, .int)] s := hK.sub [0] rfl
  have hP : va_P (dC, dI) vwCl [(h0, .inr (7, [.null, .ref q_1, .ref q_3, .ref q_5, .ref q_9, .ref q_13, .ref q_17, .ref q_21, .null, .null, .null, .null, .null, .null, .null, .int 0, .int 0])), (q_25, .inr (0, [.ref q_27, .int 0, .int 0])), (q_27, .inl (cA_28, 32, .inl (fun _ => 0)))] H := hP
  have hD : va_D A [(h0, .inr (7, [.null, .ref q_1, .ref q_3, .ref q_5, .ref q_9, .ref q_13, .ref q_17, .ref q_21, .null, .null, .null, .null, .null, .null, .null, .int 0, .int 0])), (q_25, .inr (0, [.ref q_27, .int 0, .int 0])), (q_27, .inl (cA_28, 32, .inl (fun _ => 0)))] := hD
  have hP := hP.sub (ws' := [(h0, .inr (7, [.null, .ref q_1, .ref q_3, .ref q_5, .ref q_9, .ref q_13, .ref q_17, .ref q_21, .null, .null, .null, .null, .null, .null, .null, .int 0, .int 0]))]) [0] rfl
  have hD := hD.sub (ws' := [(h0, .inr (7, [.null, .ref q_1, .ref q_3, .ref q_5, .ref q_9, .ref q_13, .ref q_17, .ref q_21, .null, .null, .null, .null, .null, .null, .null, .int 0, .int 0]))]) [0] (by decide) rfl
  have hK := hK.sub (tys' := []) [] rfl
  refine va_putF (D := (dC, dI)) (ci := 7) (v := .ref q_25) (ty := .object "PostGate$Bytes") (C := RX7) (T := TX7) (N := 17) hx hb hts it_7 tyX7 tyX7_ok nmX7 hown hK hP hD hS 0 rfl rfl 8 (by decide) (hts _ kt_108) (fun _ h9 => h9) rfl hin rfl (by decide +kernel) rfl rfl (Nat.le_of_ble_eq_true rfl) dX7_init_107 (fun H locs hP hD hS => ?_)
  have hP : va_P (dC, dI) vwCl [(h0, .inr (7, [.null, .ref q_1, .ref q_3, .ref q_5, .ref q_9, .ref q_13, .ref q_17, .ref q_21, .ref q_25, .null, .null, .null, .null, .null, .null, .int 0, .int 0]))] H := hP
  have hD : va_D A [(h0, .inr (7, [.null, .ref q_1, .ref q_3, .ref q_5, .ref q_9, .ref q_13, .ref q_17, .ref q_21, .ref q_25, .null, .null, .null, .null, .null, .null, .int 0, .int 0]))] := hD
  refine lv_aload_n hx hb dX7_init_110 rfl (lv_at hl 0 rfl) ?_
  refine va_new (ci := 0) (fs := [.null, .int 0, .int 0]) (C := RX0) (T := TX0) (N := 3) hx hb hts it_0 tyX0 tyX0_ok hown (hts _ kt_101) (hts _ kt_9) (hts _ kt_10) hK hP hD hS hA rfl df_0 (by show _ + 1 ≤ 40; omega) (by show _ + 3 ≤ 10697; omega) dX7_init_111 (fun q_29 H hP hD hS => ?_)
  have hP : va_P (dC, dI) vwCl [(h0, .inr (7, [.null, .ref q_1, .ref q_3, .ref q_5, .ref q_9, .ref q_13, .ref q_17, .ref q_21, .ref q_25, .null, .null, .null, .null, .null, .null, .int 0, .int 0])), (q_29, .inr (0, [.null, .int 0, .int 0]))] H := hP
  have hD : va_D A [(h0, .inr (7, [.null, .ref q_1, .ref q_3, .ref q_5, .ref q_9, .ref q_13, .ref q_17, .ref q_21, .ref q_25, .null, .null, .null, .null, .null, .null, .int 0, .int 0])), (q_29, .inr (0, [.null, .int 0, .int 0]))] := hD
  refine lv_dup hx hb dX7_init_114 rfl ?_
  refine lv_bipush (v := 64) hx hb dX7_init_115 (by decide) ?_
  refine lv_topi (fun x ex => ?_)
  obtain rfl : x = nI 64 := ex.trans (by decide)
  have hPc := hP.sub (ws' := [(q_29, .inr (0, [.null, .int 0, .int 0]))]) [1] rfl
  have hDc := hD.sub (ws' := [(q_29, .inr (0, [.null, .int 0, .int 0]))]) [1] (by decide) rfl
  have hKc := hK.sub (tys' := []) [] rfl
  have hFc := va_free (wc := [(q_29, .inr (0, [.null, .int 0, .int 0]))]) hD hS hA [1] rfl
  refine va_callv (va_runI (As := [.int (nI 64)]) (rest := [.ref q_29, .ref h0]) ⟨hx, hb, hml, hown, hts⟩ (c_X0_init l dC dI H.size q_29 64 (by omega)) ⟨callB_of 1 hts (gi kt_11) rfl rfl rfl (hts _ kt_10) (hts _ kt_102) (by decide +kernel) ⟨Nat.le_of_ble_eq_true rfl, Nat.le_of_ble_eq_true rfl⟩, rfl, (hts _ kt_13)⟩ ⟨fun a U g mk q => ⟨q.1, PW.calling q.2⟩, fun U hU hW => ⟨rfl, PW.mk hU hW hPc hKc hDc hE⟩⟩ rfl rfl hl.1 rfl (lv_room (Nat.le_of_ble_eq_true rfl)) dX7_init_117 ⟨by show _ + 1 ≤ 40; omega, by show _ + 64 ≤ 10697; omega⟩) hS (fun q _ h => hFc q h) hFc (fun u t H1 locs ht hvm hw hB hz1 hk1 hS => ?_)
  obtain ⟨q_31, cA_32, hB1⟩ := hB
  obtain ⟨hP, hD, hK⟩ := QW.join (wr := [(h0, .inr (7, [.null, .ref q_1, .ref q_3, .ref q_5, .ref q_9, .ref q_13, .ref q_17, .ref q_21, .ref q_25, .null, .null, .null, .null, .null, .null, .int 0, .int 0]))]) hP hD hK [1] [0] rfl rfl (by decide) (by decide) hk1 hFc ht hvm hB1
  generalize H1 = H at hP hS ⊢
  have hK : va_K (dC, dI) vwCl [(cA_32, .int)] s := hK.sub [0] rfl
  have hP : va_P (dC, dI) vwCl [(h0, .inr (7, [.null, .ref q_1, .ref q_3, .ref q_5, .ref q_9, .ref q_13, .ref q_17, .ref q_21, .ref q_25, .null, .null, .null, .null, .null, .null, .int 0, .int 0])), (q_29, .inr (0, [.ref q_31, .int 0, .int 0])), (q_31, .inl (cA_32, 64, .inl (fun _ => 0)))] H := hP
  have hD : va_D A [(h0, .inr (7, [.null, .ref q_1, .ref q_3, .ref q_5, .ref q_9, .ref q_13, .ref q_17, .ref q_21, .ref q_25, .null, .null, .null, .null, .null, .null, .int 0, .int 0])), (q_29, .inr (0, [.ref q_31, .int 0, .int 0])), (q_31, .inl (cA_32, 64, .inl (fun _ => 0)))] := hD
  have hP := hP.sub (ws' := [(h0, .inr (7, [.null, .ref q_1, .ref q_3, .ref q_5, .ref q_9, .ref q_13, .ref q_17, .ref q_21, .ref q_25, .null, .null, .null, .null, .null, .null, .int 0, .int 0]))]) [0] rfl
  have hD := hD.sub (ws' := [(h0, .inr (7, [.null, .ref q_1, .ref q_3, .ref q_5, .ref q_9, .ref q_13, .ref q_17, .ref q_21, .ref q_25, .null, .null, .null, .null, .null, .null, .int 0, .int 0]))]) [0] (by decide) rfl
  have hK := hK.sub (tys' := []) [] rfl
  refine va_putF (D := (dC, dI)) (ci := 7) (v := .ref q_29) (ty := .object "PostGate$Bytes") (C := RX7) (T := TX7) (N := 17) hx hb hts it_7 tyX7 tyX7_ok nmX7 hown hK hP hD hS 0 rfl rfl 9 (by decide) (hts _ kt_109) (fun _ h9 => h9) rfl hin rfl (by decide +kernel) rfl rfl (Nat.le_of_ble_eq_true rfl) dX7_init_120 (fun H locs hP hD hS => ?_)
  have hP : va_P (dC, dI) vwCl [(h0, .inr (7, [.null, .ref q_1, .ref q_3, .ref q_5, .ref q_9, .ref q_13, .ref q_17, .ref q_21, .ref q_25, .ref q_29, .null, .null, .null, .null, .null, .int 0, .int 0]))] H := hP
  have hD : va_D A [(h0, .inr (7, [.null, .ref q_1, .ref q_3, .ref q_5, .ref q_9, .ref q_13, .ref q_17, .ref q_21, .ref q_25, .ref q_29, .null, .null, .null, .null, .null, .int 0, .int 0]))] := hD
  refine lv_aload_n hx hb dX7_init_123 rfl (lv_at hl 0 rfl) ?_
  refine va_new (ci := 0) (fs := [.null, .int 0, .int 0]) (C := RX0) (T := TX0) (N := 3) hx hb hts it_0 tyX0 tyX0_ok hown (hts _ kt_101) (hts _ kt_9) (hts _ kt_10) hK hP hD hS hA rfl df_0 (by show _ + 1 ≤ 40; omega) (by show _ + 3 ≤ 10697; omega) dX7_init_124 (fun q_33 H hP hD hS => ?_)
  have hP : va_P (dC, dI) vwCl [(h0, .inr (7, [.null, .ref q_1, .ref q_3, .ref q_5, .ref q_9, .ref q_13, .ref q_17, .ref q_21, .ref q_25, .ref q_29, .null, .null, .null, .null, .null, .int 0, .int 0])), (q_33, .inr (0, [.null, .int 0, .int 0]))] H := hP
  have hD : va_D A [(h0, .inr (7, [.null, .ref q_1, .ref q_3, .ref q_5, .ref q_9, .ref q_13, .ref q_17, .ref q_21, .ref q_25, .ref q_29, .null, .null, .null, .null, .null, .int 0, .int 0])), (q_33, .inr (0, [.null, .int 0, .int 0]))] := hD
  refine lv_dup hx hb dX7_init_127 rfl ?_
  refine lv_bipush (v := 64) hx hb dX7_init_128 (by decide) ?_
  refine lv_topi (fun x ex => ?_)
  obtain rfl : x = nI 64 := ex.trans (by decide)
  have hPc := hP.sub (ws' := [(q_33, .inr (0, [.null, .int 0, .int 0]))]) [1] rfl
  have hDc := hD.sub (ws' := [(q_33, .inr (0, [.null, .int 0, .int 0]))]) [1] (by decide) rfl
  have hKc := hK.sub (tys' := []) [] rfl
  have hFc := va_free (wc := [(q_33, .inr (0, [.null, .int 0, .int 0]))]) hD hS hA [1] rfl
  refine va_callv (va_runI (As := [.int (nI 64)]) (rest := [.ref q_33, .ref h0]) ⟨hx, hb, hml, hown, hts⟩ (c_X0_init l dC dI H.size q_33 64 (by omega)) ⟨callB_of 1 hts (gi kt_11) rfl rfl rfl (hts _ kt_10) (hts _ kt_102) (by decide +kernel) ⟨Nat.le_of_ble_eq_true rfl, Nat.le_of_ble_eq_true rfl⟩, rfl, (hts _ kt_13)⟩ ⟨fun a U g mk q => ⟨q.1, PW.calling q.2⟩, fun U hU hW => ⟨rfl, PW.mk hU hW hPc hKc hDc hE⟩⟩ rfl rfl hl.1 rfl (lv_room (Nat.le_of_ble_eq_true rfl)) dX7_init_130 ⟨by show _ + 1 ≤ 40; omega, by show _ + 64 ≤ 10697; omega⟩) hS (fun q _ h => hFc q h) hFc (fun u t H1 locs ht hvm hw hB hz1 hk1 hS => ?_)
  obtain ⟨q_35, cA_36, hB1⟩ := hB
  obtain ⟨hP, hD, hK⟩ := QW.join (wr := [(h0, .inr (7, [.null, .ref q_1, .ref q_3, .ref q_5, .ref q_9, .ref q_13, .ref q_17, .ref q_21, .ref q_25, .ref q_29, .null, .null, .null, .null, .null, .int 0, .int 0]))]) hP hD hK [1] [0] rfl rfl (by decide) (by decide) hk1 hFc ht hvm hB1
  generalize H1 = H at hP hS ⊢
  have hK : va_K (dC, dI) vwCl [(cA_36, .int)] s := hK.sub [0] rfl
  have hP : va_P (dC, dI) vwCl [(h0, .inr (7, [.null, .ref q_1, .ref q_3, .ref q_5, .ref q_9, .ref q_13, .ref q_17, .ref q_21, .ref q_25, .ref q_29, .null, .null, .null, .null, .null, .int 0, .int 0])), (q_33, .inr (0, [.ref q_35, .int 0, .int 0])), (q_35, .inl (cA_36, 64, .inl (fun _ => 0)))] H := hP
  have hD : va_D A [(h0, .inr (7, [.null, .ref q_1, .ref q_3, .ref q_5, .ref q_9, .ref q_13, .ref q_17, .ref q_21, .ref q_25, .ref q_29, .null, .null, .null, .null, .null, .int 0, .int 0])), (q_33, .inr (0, [.ref q_35, .int 0, .int 0])), (q_35, .inl (cA_36, 64, .inl (fun _ => 0)))] := hD
  have hP := hP.sub (ws' := [(h0, .inr (7, [.null, .ref q_1, .ref q_3, .ref q_5, .ref q_9, .ref q_13, .ref q_17, .ref q_21, .ref q_25, .ref q_29, .null, .null, .null, .null, .null, .int 0, .int 0]))]) [0] rfl
  have hD := hD.sub (ws' := [(h0, .inr (7, [.null, .ref q_1, .ref q_3, .ref q_5, .ref q_9, .ref q_13, .ref q_17, .ref q_21, .ref q_25, .ref q_29, .null, .null, .null, .null, .null, .int 0, .int 0]))]) [0] (by decide) rfl
  have hK := hK.sub (tys' := []) [] rfl
  refine va_putF (D := (dC, dI)) (ci := 7) (v := .ref q_33) (ty := .object "PostGate$Bytes") (C := RX7) (T := TX7) (N := 17) hx hb hts it_7 tyX7 tyX7_ok nmX7 hown hK hP hD hS 0 rfl rfl 10 (by decide) (hts _ kt_110) (fun _ h9 => h9) rfl hin rfl (by decide +kernel) rfl rfl (Nat.le_of_ble_eq_true rfl) dX7_init_133 (fun H locs hP hD hS => ?_)
  have hP : va_P (dC, dI) vwCl [(h0, .inr (7, [.null, .ref q_1, .ref q_3, .ref q_5, .ref q_9, .ref q_13, .ref q_17, .ref q_21, .ref q_25, .ref q_29, .ref q_33, .null, .null, .null, .null, .int 0, .int 0]))] H := hP
  have hD : va_D A [(h0, .inr (7, [.null, .ref q_1, .ref q_3, .ref q_5, .ref q_9, .ref q_13, .ref q_17, .ref q_21, .ref q_25, .ref q_29, .ref q_33, .null, .null, .null, .null, .int 0, .int 0]))] := hD
  refine lv_aload_n hx hb dX7_init_136 rfl (lv_at hl 0 rfl) ?_
  refine va_new (ci := 0) (fs := [.null, .int 0, .int 0]) (C := RX0) (T := TX0) (N := 3) hx hb hts it_0 tyX0 tyX0_ok hown (hts _ kt_101) (hts _ kt_9) (hts _ kt_10) hK hP hD hS hA rfl df_0 (by show _ + 1 ≤ 40; omega) (by show _ + 3 ≤ 10697; omega) dX7_init_137 (fun q_37 H hP hD hS => ?_)
  have hP : va_P (dC, dI) vwCl [(h0, .inr (7, [.null, .ref q_1, .ref q_3, .ref q_5, .ref q_9, .ref q_13, .ref q_17, .ref q_21, .ref q_25, .ref q_29, .ref q_33, .null, .null, .null, .null, .int 0, .int 0])), (q_37, .inr (0, [.null, .int 0, .int 0]))] H := hP
  have hD : va_D A [(h0, .inr (7, [.null, .ref q_1, .ref q_3, .ref q_5, .ref q_9, .ref q_13, .ref q_17, .ref q_21, .ref q_25, .ref q_29, .ref q_33, .null, .null, .null, .null, .int 0, .int 0])), (q_37, .inr (0, [.null, .int 0, .int 0]))] := hD
  refine lv_dup hx hb dX7_init_140 rfl ?_
  refine lv_sipush (v := 6100) hx hb dX7_init_141 (by decide) ?_
  refine lv_topi (fun x ex => ?_)
  obtain rfl : x = nI 6100 := ex.trans (by decide)
  have hPc := hP.sub (ws' := [(q_37, .inr (0, [.null, .int 0, .int 0]))]) [1] rfl
  have hDc := hD.sub (ws' := [(q_37, .inr (0, [.null, .int 0, .int 0]))]) [1] (by decide) rfl
  have hKc := hK.sub (tys' := []) [] rfl
  have hFc := va_free (wc := [(q_37, .inr (0, [.null, .int 0, .int 0]))]) hD hS hA [1] rfl
  refine va_callv (va_runI (As := [.int (nI 6100)]) (rest := [.ref q_37, .ref h0]) ⟨hx, hb, hml, hown, hts⟩ (c_X0_init l dC dI H.size q_37 6100 (by omega)) ⟨callB_of 1 hts (gi kt_11) rfl rfl rfl (hts _ kt_10) (hts _ kt_102) (by decide +kernel) ⟨Nat.le_of_ble_eq_true rfl, Nat.le_of_ble_eq_true rfl⟩, rfl, (hts _ kt_13)⟩ ⟨fun a U g mk q => ⟨q.1, PW.calling q.2⟩, fun U hU hW => ⟨rfl, PW.mk hU hW hPc hKc hDc hE⟩⟩ rfl rfl hl.1 rfl (lv_room (Nat.le_of_ble_eq_true rfl)) dX7_init_144 ⟨by show _ + 1 ≤ 40; omega, by show _ + 6100 ≤ 10697; omega⟩) hS (fun q _ h => hFc q h) hFc (fun u t H1 locs ht hvm hw hB hz1 hk1 hS => ?_)
  obtain ⟨q_39, cA_40, hB1⟩ := hB
  obtain ⟨hP, hD, hK⟩ := QW.join (wr := [(h0, .inr (7, [.null, .ref q_1, .ref q_3, .ref q_5, .ref q_9, .ref q_13, .ref q_17, .ref q_21, .ref q_25, .ref q_29, .ref q_33, .null, .null, .null, .null, .int 0, .int 0]))]) hP hD hK [1] [0] rfl rfl (by decide) (by decide) hk1 hFc ht hvm hB1
  generalize H1 = H at hP hS ⊢
  have hK : va_K (dC, dI) vwCl [(cA_40, .int)] s := hK.sub [0] rfl
  have hP : va_P (dC, dI) vwCl [(h0, .inr (7, [.null, .ref q_1, .ref q_3, .ref q_5, .ref q_9, .ref q_13, .ref q_17, .ref q_21, .ref q_25, .ref q_29, .ref q_33, .null, .null, .null, .null, .int 0, .int 0])), (q_37, .inr (0, [.ref q_39, .int 0, .int 0])), (q_39, .inl (cA_40, 6100, .inl (fun _ => 0)))] H := hP
  have hD : va_D A [(h0, .inr (7, [.null, .ref q_1, .ref q_3, .ref q_5, .ref q_9, .ref q_13, .ref q_17, .ref q_21, .ref q_25, .ref q_29, .ref q_33, .null, .null, .null, .null, .int 0, .int 0])), (q_37, .inr (0, [.ref q_39, .int 0, .int 0])), (q_39, .inl (cA_40, 6100, .inl (fun _ => 0)))] := hD
  have hP := hP.sub (ws' := [(h0, .inr (7, [.null, .ref q_1, .ref q_3, .ref q_5, .ref q_9, .ref q_13, .ref q_17, .ref q_21, .ref q_25, .ref q_29, .ref q_33, .null, .null, .null, .null, .int 0, .int 0]))]) [0] rfl
  have hD := hD.sub (ws' := [(h0, .inr (7, [.null, .ref q_1, .ref q_3, .ref q_5, .ref q_9, .ref q_13, .ref q_17, .ref q_21, .ref q_25, .ref q_29, .ref q_33, .null, .null, .null, .null, .int 0, .int 0]))]) [0] (by decide) rfl
  have hK := hK.sub (tys' := []) [] rfl
  refine va_putF (D := (dC, dI)) (ci := 7) (v := .ref q_37) (ty := .object "PostGate$Bytes") (C := RX7) (T := TX7) (N := 17) hx hb hts it_7 tyX7 tyX7_ok nmX7 hown hK hP hD hS 0 rfl rfl 11 (by decide) (hts _ kt_111) (fun _ h9 => h9) rfl hin rfl (by decide +kernel) rfl rfl (Nat.le_of_ble_eq_true rfl) dX7_init_147 (fun H locs hP hD hS => ?_)
  have hP : va_P (dC, dI) vwCl [(h0, .inr (7, [.null, .ref q_1, .ref q_3, .ref q_5, .ref q_9, .ref q_13, .ref q_17, .ref q_21, .ref q_25, .ref q_29, .ref q_33, .ref q_37, .null, .null, .null, .int 0, .int 0]))] H := hP
  have hD : va_D A [(h0, .inr (7, [.null, .ref q_1, .ref q_3, .ref q_5, .ref q_9, .ref q_13, .ref q_17, .ref q_21, .ref q_25, .ref q_29, .ref q_33, .ref q_37, .null, .null, .null, .int 0, .int 0]))] := hD
  refine lv_aload_n hx hb dX7_init_150 rfl (lv_at hl 0 rfl) ?_
  refine lv_bipush (v := 20) hx hb dX7_init_151 (by decide) ?_
  refine va_newa (atype := .boolean) (ty := .boolean) (a0 := (20, .inl (fun _ => 0))) (N' := 20) hx hb (hts _ kt_112) rfl hK hP hD hS hA (fun _ => rfl) (by decide) (by decide) (by show _ * 1 ≤ _; omega) (by show _ + 1 ≤ 40; omega) (by show _ + 20 ≤ 10697; omega) dX7_init_153 (fun q_41 cA_42 H hK hP hD hS => ?_)
  have hK : va_K (dC, dI) vwCl [(cA_42, .boolean)] s := hK
  have hP : va_P (dC, dI) vwCl [(h0, .inr (7, [.null, .ref q_1, .ref q_3, .ref q_5, .ref q_9, .ref q_13, .ref q_17, .ref q_21, .ref q_25, .ref q_29, .ref q_33, .ref q_37, .null, .null, .null, .int 0, .int 0])), (q_41, .inl (cA_42, 20, .inl (fun _ => 0)))] H := hP
  have hD : va_D A [(h0, .inr (7, [.null, .ref q_1, .ref q_3, .ref q_5, .ref q_9, .ref q_13, .ref q_17, .ref q_21, .ref q_25, .ref q_29, .ref q_33, .ref q_37, .null, .null, .null, .int 0, .int 0])), (q_41, .inl (cA_42, 20, .inl (fun _ => 0)))] := hD
  refine va_putF (D := (dC, dI)) (ci := 7) (v := .ref q_41) (ty := .array .boolean) (C := RX7) (T := TX7) (N := 17) hx hb hts it_7 tyX7 tyX7_ok nmX7 hown hK hP hD hS 0 rfl rfl 12 (by decide) (hts _ kt_113) (fun _ h9 => h9) rfl hin rfl (by decide +kernel) rfl rfl (Nat.le_of_ble_eq_true rfl) dX7_init_155 (fun H locs hP hD hS => ?_)
  have hP : va_P (dC, dI) vwCl [(h0, .inr (7, [.null, .ref q_1, .ref q_3, .ref q_5, .ref q_9, .ref q_13, .ref q_17, .ref q_21, .ref q_25, .ref q_29, .ref q_33, .ref q_37, .ref q_41, .null, .null, .int 0, .int 0])), (q_41, .inl (cA_42, 20, .inl (fun _ => 0)))] H := hP
  have hD : va_D A [(h0, .inr (7, [.null, .ref q_1, .ref q_3, .ref q_5, .ref q_9, .ref q_13, .ref q_17, .ref q_21, .ref q_25, .ref q_29, .ref q_33, .ref q_37, .ref q_41, .null, .null, .int 0, .int 0])), (q_41, .inl (cA_42, 20, .inl (fun _ => 0)))] := hD
  refine lv_aload_n hx hb dX7_init_158 rfl (lv_at hl 0 rfl) ?_
  refine va_new (ci := 8) (fs := [.null, .null, .null]) (C := RX8) (T := TX8) (N := 3) hx hb hts it_8 tyX8 tyX8_ok hown (hts _ kt_114) (hts _ kt_115) (hts _ kt_116) hK hP hD hS hA rfl df_8 (by show _ + 1 ≤ 40; omega) (by show _ + 3 ≤ 10697; omega) dX7_init_159 (fun q_43 H hP hD hS => ?_)
  have hP : va_P (dC, dI) vwCl [(h0, .inr (7, [.null, .ref q_1, .ref q_3, .ref q_5, .ref q_9, .ref q_13, .ref q_17, .ref q_21, .ref q_25, .ref q_29, .ref q_33, .ref q_37, .ref q_41, .null, .null, .int 0, .int 0])), (q_41, .inl (cA_42, 20, .inl (fun _ => 0))), (q_43, .inr (8, [.null, .null, .null]))] H := hP
  have hD : va_D A [(h0, .inr (7, [.null, .ref q_1, .ref q_3, .ref q_5, .ref q_9, .ref q_13, .ref q_17, .ref q_21, .ref q_25, .ref q_29, .ref q_33, .ref q_37, .ref q_41, .null, .null, .int 0, .int 0])), (q_41, .inl (cA_42, 20, .inl (fun _ => 0))), (q_43, .inr (8, [.null, .null, .null]))] := hD
  refine lv_dup hx hb dX7_init_162 rfl ?_
  have hPc := hP.sub (ws' := [(q_43, .inr (8, [.null, .null, .null]))]) [2] rfl
  have hDc := hD.sub (ws' := [(q_43, .inr (8, [.null, .null, .null]))]) [2] (by decide) rfl
  have hKc := hK.sub (tys' := []) [] rfl
  have hFc := va_free (wc := [(q_43, .inr (8, [.null, .null, .null]))]) hD hS hA [2] rfl
  refine va_callv (va_runIN (As := []) (rest := [.ref q_43, .ref h0]) ⟨hx, hb, hml, hown, hts⟩ (c_X8_init l dC dI H.size q_43 ) ⟨va_cnB 0 hts (gi kt_117) rfl rfl rfl (hE.nestw kn_2) (hts _ kt_116) (by decide +kernel) ⟨Nat.le_of_ble_eq_true rfl, Nat.le_of_ble_eq_true rfl⟩, rfl, (hts _ kt_118)⟩ ⟨fun a U g mk q => ⟨q.1, PW.calling q.2⟩, fun U hU hW => ⟨rfl, PW.mk hU hW hPc hKc hDc hE⟩⟩ rfl rfl hl.1 rfl (lv_room (Nat.le_of_ble_eq_true rfl)) dX7_init_163 ⟨by show _ + 3 ≤ 40; omega, by show _ + 80 ≤ 10697; omega⟩) hS (fun q _ h => hFc q h) hFc (fun u t H1 locs ht hvm hw hB hz1 hk1 hS => ?_)
  obtain ⟨qw_45, qs_46, qt_47, cw_48, cs_49, ct_50, hB1⟩ := hB
  obtain ⟨hP, hD, hK⟩ := QW.join (wr := [(h0, .inr (7, [.null, .ref q_1, .ref q_3, .ref q_5, .ref q_9, .ref q_13, .ref q_17, .ref q_21, .ref q_25, .ref q_29, .ref q_33, .ref q_37, .ref q_41, .null, .null, .int 0, .int 0])), (q_41, .inl (cA_42, 20, .inl (fun _ => 0)))]) hP hD hK [2] [0, 1] rfl rfl (by decide) (by decide) hk1 hFc ht hvm hB1
  generalize H1 = H at hP hS ⊢
  have hK : va_K (dC, dI) vwCl [(cA_42, .boolean), (cw_48, .int), (cs_49, .int), (ct_50, .int)] s := hK.sub [0, 1, 2, 3] rfl
  have hP : va_P (dC, dI) vwCl [(h0, .inr (7, [.null, .ref q_1, .ref q_3, .ref q_5, .ref q_9, .ref q_13, .ref q_17, .ref q_21, .ref q_25, .ref q_29, .ref q_33, .ref q_37, .ref q_41, .null, .null, .int 0, .int 0])), (q_41, .inl (cA_42, 20, .inl (fun _ => 0))), (q_43, .inr (8, [.ref qw_45, .ref qs_46, .ref qt_47])), (qw_45, .inl (cw_48, 64, .inl (fun _ => 0))), (qs_46, .inl (cs_49, 8, .inl (fun _ => 0))), (qt_47, .inl (ct_50, 8, .inl (fun _ => 0)))] H := hP
  have hD : va_D A [(h0, .inr (7, [.null, .ref q_1, .ref q_3, .ref q_5, .ref q_9, .ref q_13, .ref q_17, .ref q_21, .ref q_25, .ref q_29, .ref q_33, .ref q_37, .ref q_41, .null, .null, .int 0, .int 0])), (q_41, .inl (cA_42, 20, .inl (fun _ => 0))), (q_43, .inr (8, [.ref qw_45, .ref qs_46, .ref qt_47])), (qw_45, .inl (cw_48, 64, .inl (fun _ => 0))), (qs_46, .inl (cs_49, 8, .inl (fun _ => 0))), (qt_47, .inl (ct_50, 8, .inl (fun _ => 0)))] := hD
  have hP := hP.sub (ws' := [(h0, .inr (7, [.null, .ref q_1, .ref q_3, .ref q_5, .ref q_9, .ref q_13, .ref q_17, .ref q_21, .ref q_25, .ref q_29, .ref q_33, .ref q_37, .ref q_41, .null, .null, .int 0, .int 0]))]) [0] rfl
  have hD := hD.sub (ws' := [(h0, .inr (7, [.null, .ref q_1, .ref q_3, .ref q_5, .ref q_9, .ref q_13, .ref q_17, .ref q_21, .ref q_25, .ref q_29, .ref q_33, .ref q_37, .ref q_41, .null, .null, .int 0, .int 0]))]) [0] (by decide) rfl
  have hK := hK.sub (tys' := []) [] rfl
  refine va_putF (D := (dC, dI)) (ci := 7) (v := .ref q_43) (ty := .object "PostGate$Sha") (C := RX7) (T := TX7) (N := 17) hx hb hts it_7 tyX7 tyX7_ok nmX7 hown hK hP hD hS 0 rfl rfl 13 (by decide) (hts _ kt_119) (fun _ h9 => h9) rfl hin rfl (by decide +kernel) rfl rfl (Nat.le_of_ble_eq_true rfl) dX7_init_166 (fun H locs hP hD hS => ?_)
  have hP : va_P (dC, dI) vwCl [(h0, .inr (7, [.null, .ref q_1, .ref q_3, .ref q_5, .ref q_9, .ref q_13, .ref q_17, .ref q_21, .ref q_25, .ref q_29, .ref q_33, .ref q_37, .ref q_41, .ref q_43, .null, .int 0, .int 0]))] H := hP
  have hD : va_D A [(h0, .inr (7, [.null, .ref q_1, .ref q_3, .ref q_5, .ref q_9, .ref q_13, .ref q_17, .ref q_21, .ref q_25, .ref q_29, .ref q_33, .ref q_37, .ref q_41, .ref q_43, .null, .int 0, .int 0]))] := hD
  refine lv_aload_n hx hb dX7_init_169 rfl (lv_at hl 0 rfl) ?_
  refine va_new (ci := 6) (fs := [.null, .null, .null, .null, .long 0]) (C := RX6) (T := TX6) (N := 5) hx hb hts it_6 tyX6 tyX6_ok hown (hts _ kt_120) (hts _ kt_121) (hts _ kt_122) hK hP hD hS hA rfl df_6 (by show _ + 1 ≤ 40; omega) (by show _ + 5 ≤ 10697; omega) dX7_init_170 (fun q_51 H hP hD hS => ?_)
  have hP : va_P (dC, dI) vwCl [(h0, .inr (7, [.null, .ref q_1, .ref q_3, .ref q_5, .ref q_9, .ref q_13, .ref q_17, .ref q_21, .ref q_25, .ref q_29, .ref q_33, .ref q_37, .ref q_41, .ref q_43, .null, .int 0, .int 0])), (q_51, .inr (6, [.null, .null, .null, .null, .long 0]))] H := hP
  have hD : va_D A [(h0, .inr (7, [.null, .ref q_1, .ref q_3, .ref q_5, .ref q_9, .ref q_13, .ref q_17, .ref q_21, .ref q_25, .ref q_29, .ref q_33, .ref q_37, .ref q_41, .ref q_43, .null, .int 0, .int 0])), (q_51, .inr (6, [.null, .null, .null, .null, .long 0]))] := hD
  refine lv_dup hx hb dX7_init_173 rfl ?_
  have hPc := hP.sub (ws' := [(q_51, .inr (6, [.null, .null, .null, .null, .long 0]))]) [1] rfl
  have hDc := hD.sub (ws' := [(q_51, .inr (6, [.null, .null, .null, .null, .long 0]))]) [1] (by decide) rfl
  have hKc := hK.sub (tys' := []) [] rfl
  have hFc := va_free (wc := [(q_51, .inr (6, [.null, .null, .null, .null, .long 0]))]) hD hS hA [1] rfl
  refine va_callv (va_runIN (As := []) (rest := [.ref q_51, .ref h0]) ⟨hx, hb, hml, hown, hts⟩ (c_X6_init l dC dI H.size q_51 ) ⟨va_cnB 0 hts (gi kt_123) rfl rfl rfl (hE.nestw kn_3) (hts _ kt_122) (by decide +kernel) ⟨Nat.le_of_ble_eq_true rfl, Nat.le_of_ble_eq_true rfl⟩, rfl, (hts _ kt_124)⟩ ⟨fun a U g mk q => ⟨q.1, PW.calling q.2⟩, fun U hU hW => ⟨rfl, PW.mk hU hW hPc hKc hDc hE⟩⟩ rfl rfl hl.1 rfl (lv_room (Nat.le_of_ble_eq_true rfl)) dX7_init_174 ⟨by show _ + 4 ≤ 40; omega, by show _ + 66 ≤ 10697; omega⟩) hS (fun q _ h => hFc q h) hFc (fun u t H1 locs ht hvm hw hB hz1 hk1 hS => ?_)
  have hB1 := hB
  obtain ⟨hP, hD, hK⟩ := QW.join (wr := [(h0, .inr (7, [.null, .ref q_1, .ref q_3, .ref q_5, .ref q_9, .ref q_13, .ref q_17, .ref q_21, .ref q_25, .ref q_29, .ref q_33, .ref q_37, .ref q_41, .ref q_43, .null, .int 0, .int 0]))]) hP hD hK [1] [0] rfl rfl (by decide) (by decide) hk1 hFc ht hvm hB1
  generalize H1 = H at hP hS ⊢
  have hK : va_K (dC, dI) vwCl [] s := hK.sub [] rfl
  have hP : va_P (dC, dI) vwCl [(h0, .inr (7, [.null, .ref q_1, .ref q_3, .ref q_5, .ref q_9, .ref q_13, .ref q_17, .ref q_21, .ref q_25, .ref q_29, .ref q_33, .ref q_37, .ref q_41, .ref q_43, .null, .int 0, .int 0]))] H := hP
  have hD : va_D A [(h0, .inr (7, [.null, .ref q_1, .ref q_3, .ref q_5, .ref q_9, .ref q_13, .ref q_17, .ref q_21, .ref q_25, .ref q_29, .ref q_33, .ref q_37, .ref q_41, .ref q_43, .null, .int 0, .int 0]))] := hD
  have hP := hP.sub (ws' := [(h0, .inr (7, [.null, .ref q_1, .ref q_3, .ref q_5, .ref q_9, .ref q_13, .ref q_17, .ref q_21, .ref q_25, .ref q_29, .ref q_33, .ref q_37, .ref q_41, .ref q_43, .null, .int 0, .int 0]))]) [0] rfl
  have hD := hD.sub (ws' := [(h0, .inr (7, [.null, .ref q_1, .ref q_3, .ref q_5, .ref q_9, .ref q_13, .ref q_17, .ref q_21, .ref q_25, .ref q_29, .ref q_33, .ref q_37, .ref q_41, .ref q_43, .null, .int 0, .int 0]))]) [0] (by decide) rfl
  have hK := hK.sub (tys' := []) [] rfl
  refine va_putF (D := (dC, dI)) (ci := 7) (v := .ref q_51) (ty := .object "PostGate$Power") (C := RX7) (T := TX7) (N := 17) hx hb hts it_7 tyX7 tyX7_ok nmX7 hown hK hP hD hS 0 rfl rfl 14 (by decide) (hts _ kt_125) (fun _ h9 => h9) rfl hin rfl (by decide +kernel) rfl rfl (Nat.le_of_ble_eq_true rfl) dX7_init_177 (fun H locs hP hD hS => ?_)
  have hP : va_P (dC, dI) vwCl [(h0, .inr (7, [.null, .ref q_1, .ref q_3, .ref q_5, .ref q_9, .ref q_13, .ref q_17, .ref q_21, .ref q_25, .ref q_29, .ref q_33, .ref q_37, .ref q_41, .ref q_43, .ref q_51, .int 0, .int 0]))] H := hP
  have hD : va_D A [(h0, .inr (7, [.null, .ref q_1, .ref q_3, .ref q_5, .ref q_9, .ref q_13, .ref q_17, .ref q_21, .ref q_25, .ref q_29, .ref q_33, .ref q_37, .ref q_41, .ref q_43, .ref q_51, .int 0, .int 0]))] := hD
  refine lv_aload_n hx hb dX7_init_180 rfl (lv_at hl 0 rfl) ?_
  refine lv_iconst (v := 0) hx hb dX7_init_181 (by decide) ?_
  refine va_put (D := (dC, dI)) (ci := 7) (v := .int 0) (ty := .boolean) (C := RX7) (T := TX7) (N := 17) hx hb hts it_7 tyX7 tyX7_ok nmX7 hown hK hP hD hS 0 rfl rfl 15 (by decide) (hts _ kt_126) (fun _ h9 => h9) rfl (by decide +kernel) rfl rfl (Nat.le_of_ble_eq_true rfl) dX7_init_182 (fun H locs hP hD hS => ?_)
  have hP : va_P (dC, dI) vwCl [(h0, .inr (7, [.null, .ref q_1, .ref q_3, .ref q_5, .ref q_9, .ref q_13, .ref q_17, .ref q_21, .ref q_25, .ref q_29, .ref q_33, .ref q_37, .ref q_41, .ref q_43, .ref q_51, .int 0, .int 0]))] H := hP
  have hD : va_D A [(h0, .inr (7, [.null, .ref q_1, .ref q_3, .ref q_5, .ref q_9, .ref q_13, .ref q_17, .ref q_21, .ref q_25, .ref q_29, .ref q_33, .ref q_37, .ref q_41, .ref q_43, .ref q_51, .int 0, .int 0]))] := hD
  refine lv_aload_n hx hb dX7_init_185 rfl (lv_at hl 0 rfl) ?_
  refine lv_iconst (v := 0) hx hb dX7_init_186 (by decide) ?_
  refine va_put (D := (dC, dI)) (ci := 7) (v := .int 0) (ty := .boolean) (C := RX7) (T := TX7) (N := 17) hx hb hts it_7 tyX7 tyX7_ok nmX7 hown hK hP hD hS 0 rfl rfl 16 (by decide) (hts _ kt_127) (fun _ h9 => h9) rfl (by decide +kernel) rfl rfl (Nat.le_of_ble_eq_true rfl) dX7_init_187 (fun H locs hP hD hS => ?_)
  have hP : va_P (dC, dI) vwCl [(h0, .inr (7, [.null, .ref q_1, .ref q_3, .ref q_5, .ref q_9, .ref q_13, .ref q_17, .ref q_21, .ref q_25, .ref q_29, .ref q_33, .ref q_37, .ref q_41, .ref q_43, .ref q_51, .int 0, .int 0]))] H := hP
  have hD : va_D A [(h0, .inr (7, [.null, .ref q_1, .ref q_3, .ref q_5, .ref q_9, .ref q_13, .ref q_17, .ref q_21, .ref q_25, .ref q_29, .ref q_33, .ref q_37, .ref q_41, .ref q_43, .ref q_51, .int 0, .int 0]))] := hD
  refine lv_aload_n hx hb dX7_init_190 rfl (lv_at hl 0 rfl) ?_
  refine lv_aload_n hx hb dX7_init_191 rfl (lv_at hl 1 rfl) ?_
  refine va_putF (D := (dC, dI)) (ci := 7) (v := .ref qd) (ty := .object "PostGate$Directory") (C := RX7) (T := TX7) (N := 17) hx hb hts it_7 tyX7 tyX7_ok nmX7 hown hK hP hD hS 0 rfl rfl 0 (by decide) (hts _ kt_128) (fun _ h9 => h9) rfl hin rfl (by decide +kernel) rfl rfl (Nat.le_of_ble_eq_true rfl) dX7_init_192 (fun H locs hP hD hS => ?_)
  have hP : va_P (dC, dI) vwCl [(h0, .inr (7, [.ref qd, .ref q_1, .ref q_3, .ref q_5, .ref q_9, .ref q_13, .ref q_17, .ref q_21, .ref q_25, .ref q_29, .ref q_33, .ref q_37, .ref q_41, .ref q_43, .ref q_51, .int 0, .int 0]))] H := hP
  have hD : va_D A [(h0, .inr (7, [.ref qd, .ref q_1, .ref q_3, .ref q_5, .ref q_9, .ref q_13, .ref q_17, .ref q_21, .ref q_25, .ref q_29, .ref q_33, .ref q_37, .ref q_41, .ref q_43, .ref q_51, .int 0, .int 0]))] := hD
  have hP9 := hP.sub (ws' := []) [] rfl
  have hD9 := hD.sub (ws' := []) [] (by decide) rfl
  have hK9 := hK.sub (tys' := []) [] rfl
  refine W.widen (k := 40) (n := 10697) (by omega) (by omega) ?_
  exact W.vret hx hb hr (fun t ht hW => ⟨⟨(), rfl, trivial, QW.mk ht hW hP9 hK9 hD9⟩, hS.F ht⟩) hS.2.2 dX7_init_195
set_option maxHeartbeats 4000000 in
set_option maxRecDepth 100000 in
theorem c_X11_init (l : Launch) (dC : Nat → ClassId) (dI : Nat → Nat → Nat) (sz : Nat) (h0 : Nat) : Met l yX11_init (.code yX11_init cX11_init 1 none :: tb) ({ frames := 4, cells := 320, slots := 55808, locals := 75 }) (va_Pc [.ref h0] (PW (dC, dI) sz [(h0, .inr (11, [.null, .null, .null, .null, .null, .null, .null, .null, .null]))] [])) (va_Qv (fun _ : Unit => True) (fun _ T9 => ∃ (t : Nat) (o : Nat) (d : Nat) (ck : Nat) (se : Nat) (po : Nat) (sh : Nat) (le : Nat) (sp : Nat) (tr : Nat) (orw : Nat) (de : Nat) (k1 : Nat) (k2 : Nat) (k3 : Nat) (k4 : Nat) (k5 : Nat) (k6 : Nat) (sw : Nat) (ss : Nat) (st : Nat) (l0 : Nat) (l1 : Nat) (l2 : Nat) (l3 : Nat) (px : Nat) (p1 : Nat) (p2 : Nat) (p3 : Nat) (pr : Nat) (ct : ClassId) (co : ClassId) (cw : ClassId) (cs : ClassId) (cst : ClassId) (cp : ClassId), QW (dC, dI) (va_A [(h0, .inr (11, [.null, .null, .null, .null, .null, .null, .null, .null, .null]))] sz) [(h0, .inr (11, [.ref t, .ref o, .ref d, .ref ck, .ref se, .ref po, .ref sh, .ref le, .ref sp])), (t, .inr (0, [.ref tr, .int 0, .int 0])), (tr, .inl (ct, 3000, .inl (fun _ => 0))), (o, .inr (0, [.ref orw, .int 0, .int 0])), (orw, .inl (co, 3000, .inl (fun _ => 0))), (d, .inr (2, [.ref de, .int 0])), (ck, .inr (1, [.ref d, .ref k1, .ref k2, .ref k3, .ref k4, .ref k5, .ref k6, .int 0, .int 0, .int 0, .int 0])), (sh, .inr (8, [.ref sw, .ref ss, .ref st])), (sw, .inl (cw, 64, .inl (fun _ => 0))), (ss, .inl (cs, 8, .inl (fun _ => 0))), (st, .inl (cst, 8, .inl (fun _ => 0))), (le, .inr (4, [.ref l0, .ref l1, .ref l2, .ref l3, .int 0, .int 0])), (sp, .inr (4, [.ref px, .ref p1, .ref p2, .ref p3, .int 0, .int 0])), (px, .inr (0, [.ref pr, .int 0, .int 0])), (pr, .inl (cp, 3000, .inl (fun _ => 0)))] [(ct, .int), (co, .int), (cw, .int), (cs, .int), (cst, .int), (cp, .int)] T9) (va_A [(h0, .inr (11, [.null, .null, .null, .null, .null, .null, .null, .null, .null]))] sz)) 320 55808 (va_A [(h0, .inr (11, [.null, .null, .null, .null, .null, .null, .null, .null, .null]))] sz) := by
  refine Met.ofW (cc := cX11_init) (maxL := 1) (ret := none) (by decide) rfl ?_
  intro p e s m args below meth c s₁ B hml hv
  obtain ⟨rfl, hsz, hP, hK, hD0, hE⟩ := hv
  have hx := B.exec
  have hb := B.bytes
  have hr := B.returns
  have hts : ∀ w ∈ tb, w.before _ s = true := fun w h => atoms_spec (ws := .code yX11_init cX11_init 1 none :: tb) B.pre w (List.mem_cons_of_mem _ h)
  have hown : s.vm.findClass RX11 = some m.cls := findClass_of_methodNamed B.named
  have hlocks := B.notSynchronized
  have hin : meth.name = "<init>" := (name_of_methodNamed B.named B.method).1
  subst hsz
  have hD := hD0.self (sz := s.heap.size)
  generalize hAe : va_A [(h0, .inr (11, [.null, .null, .null, .null, .null, .null, .null, .null, .null]))] s.heap.size = A at hD ⊢
  have hA : ∀ q : Nat, s.heap.size ≤ q → A q := fun q h => by rw [← hAe]; exact Or.inr h
  have hS : va_S A s.heap s.heap [] := va_S.rf
  have hP : va_P (dC, dI) vwCl [(h0, .inr (11, [.null, .null, .null, .null, .null, .null, .null, .null, .null]))] s.heap := hP
  have hl := lv_entry ([.ref h0]) (n := 1) (Nat.le_of_ble_eq_true rfl)
  rw [lg_entry_eq]
  generalize (lg_sl ([.ref h0]) ++ List.replicate (1 - (lg_sl ([.ref h0])).length) Slot.unset).toArray = ls at hl ⊢
  have hl : lv_has ls 1 [(0, .ref h0)] := hl
  refine lv_aload_n hx hb dX11_init_0 rfl (lv_at hl 0 rfl) ?_
  refine W.objInit hx hb hown (hts _ kt_129) (hts _ kt_1) (hts _ kt_2) rfl (by rw [hml]; exact hl.1) rfl dX11_init_1 (Nat.le_of_ble_eq_true rfl) (Nat.le_of_ble_eq_true rfl) ?_
  refine W.eq (g2 := F0 m 4 ls []) rfl ?_
  refine lv_aload_n hx hb dX11_init_4 rfl (lv_at hl 0 rfl) ?_
  refine va_new (ci := 0) (fs := [.null, .int 0, .int 0]) (C := RX0) (T := TX0) (N := 3) hx hb hts it_0 tyX0 tyX0_ok hown (hts _ kt_130) (hts _ kt_9) (hts _ kt_10) hK hP hD hS hA rfl df_0 (by show _ + 1 ≤ 320; omega) (by show _ + 3 ≤ 55808; omega) dX11_init_5 (fun q_1 H hP hD hS => ?_)
  have hP : va_P (dC, dI) vwCl [(h0, .inr (11, [.null, .null, .null, .null, .null, .null, .null, .null, .null])), (q_1, .inr (0, [.null, .int 0, .int 0]))] H := hP
  have hD : va_D A [(h0, .inr (11, [.null, .null, .null, .null, .null, .null, .null, .null, .null])), (q_1, .inr (0, [.null, .int 0, .int 0]))] := hD
  refine lv_dup hx hb dX11_init_8 rfl ?_
  refine lv_sipush (v := 3000) hx hb dX11_init_9 (by decide) ?_
  refine lv_topi (fun x ex => ?_)
  obtain rfl : x = nI 3000 := ex.trans (by decide)
  have hPc := hP.sub (ws' := [(q_1, .inr (0, [.null, .int 0, .int 0]))]) [1] rfl
  have hDc := hD.sub (ws' := [(q_1, .inr (0, [.null, .int 0, .int 0]))]) [1] (by decide) rfl
  have hKc := hK.sub (tys' := []) [] rfl
  have hFc := va_free (wc := [(q_1, .inr (0, [.null, .int 0, .int 0]))]) hD hS hA [1] rfl
  refine va_callv (va_runI (As := [.int (nI 3000)]) (rest := [.ref q_1, .ref h0]) ⟨hx, hb, hml, hown, hts⟩ (c_X0_init l dC dI H.size q_1 3000 (by omega)) ⟨callB_of 1 hts (gi kt_11) rfl rfl rfl (hts _ kt_10) (hts _ kt_131) (by decide +kernel) ⟨Nat.le_of_ble_eq_true rfl, Nat.le_of_ble_eq_true rfl⟩, rfl, (hts _ kt_13)⟩ ⟨fun a U g mk q => ⟨q.1, PW.calling q.2⟩, fun U hU hW => ⟨rfl, PW.mk hU hW hPc hKc hDc hE⟩⟩ rfl rfl hl.1 rfl (lv_room (Nat.le_of_ble_eq_true rfl)) dX11_init_12 ⟨by show _ + 1 ≤ 320; omega, by show _ + 3000 ≤ 55808; omega⟩) hS (fun q _ h => hFc q h) hFc (fun u t H1 locs ht hvm hw hB hz1 hk1 hS => ?_)
  obtain ⟨q_3, cA_4, hB1⟩ := hB
  obtain ⟨hP, hD, hK⟩ := QW.join (wr := [(h0, .inr (11, [.null, .null, .null, .null, .null, .null, .null, .null, .null]))]) hP hD hK [1] [0] rfl rfl (by decide) (by decide) hk1 hFc ht hvm hB1
  generalize H1 = H at hP hS ⊢
  have hK : va_K (dC, dI) vwCl [(cA_4, .int)] s := hK.sub [0] rfl
  have hP : va_P (dC, dI) vwCl [(h0, .inr (11, [.null, .null, .null, .null, .null, .null, .null, .null, .null])), (q_1, .inr (0, [.ref q_3, .int 0, .int 0])), (q_3, .inl (cA_4, 3000, .inl (fun _ => 0)))] H := hP
  have hD : va_D A [(h0, .inr (11, [.null, .null, .null, .null, .null, .null, .null, .null, .null])), (q_1, .inr (0, [.ref q_3, .int 0, .int 0])), (q_3, .inl (cA_4, 3000, .inl (fun _ => 0)))] := hD
  refine va_putF (D := (dC, dI)) (ci := 11) (v := .ref q_1) (ty := .object "PostGate$Bytes") (C := RX11) (T := TX11) (N := 9) hx hb hts it_11 tyX11 tyX11_ok nmX11 hown hK hP hD hS 0 rfl rfl 0 (by decide) (hts _ kt_132) (fun _ h9 => h9) rfl hin rfl (by decide +kernel) rfl rfl (Nat.le_of_ble_eq_true rfl) dX11_init_15 (fun H locs hP hD hS => ?_)
  have hP : va_P (dC, dI) vwCl [(h0, .inr (11, [.ref q_1, .null, .null, .null, .null, .null, .null, .null, .null])), (q_1, .inr (0, [.ref q_3, .int 0, .int 0])), (q_3, .inl (cA_4, 3000, .inl (fun _ => 0)))] H := hP
  have hD : va_D A [(h0, .inr (11, [.ref q_1, .null, .null, .null, .null, .null, .null, .null, .null])), (q_1, .inr (0, [.ref q_3, .int 0, .int 0])), (q_3, .inl (cA_4, 3000, .inl (fun _ => 0)))] := hD
  refine lv_aload_n hx hb dX11_init_18 rfl (lv_at hl 0 rfl) ?_
  refine va_new (ci := 0) (fs := [.null, .int 0, .int 0]) (C := RX0) (T := TX0) (N := 3) hx hb hts it_0 tyX0 tyX0_ok hown (hts _ kt_130) (hts _ kt_9) (hts _ kt_10) hK hP hD hS hA rfl df_0 (by show _ + 1 ≤ 320; omega) (by show _ + 3 ≤ 55808; omega) dX11_init_19 (fun q_5 H hP hD hS => ?_)
  have hP : va_P (dC, dI) vwCl [(h0, .inr (11, [.ref q_1, .null, .null, .null, .null, .null, .null, .null, .null])), (q_1, .inr (0, [.ref q_3, .int 0, .int 0])), (q_3, .inl (cA_4, 3000, .inl (fun _ => 0))), (q_5, .inr (0, [.null, .int 0, .int 0]))] H := hP
  have hD : va_D A [(h0, .inr (11, [.ref q_1, .null, .null, .null, .null, .null, .null, .null, .null])), (q_1, .inr (0, [.ref q_3, .int 0, .int 0])), (q_3, .inl (cA_4, 3000, .inl (fun _ => 0))), (q_5, .inr (0, [.null, .int 0, .int 0]))] := hD
  refine lv_dup hx hb dX11_init_22 rfl ?_
  refine lv_sipush (v := 3000) hx hb dX11_init_23 (by decide) ?_
  refine lv_topi (fun x ex => ?_)
  obtain rfl : x = nI 3000 := ex.trans (by decide)
  have hPc := hP.sub (ws' := [(q_5, .inr (0, [.null, .int 0, .int 0]))]) [3] rfl
  have hDc := hD.sub (ws' := [(q_5, .inr (0, [.null, .int 0, .int 0]))]) [3] (by decide) rfl
  have hKc := hK.sub (tys' := []) [] rfl
  have hFc := va_free (wc := [(q_5, .inr (0, [.null, .int 0, .int 0]))]) hD hS hA [3] rfl
  refine va_callv (va_runI (As := [.int (nI 3000)]) (rest := [.ref q_5, .ref h0]) ⟨hx, hb, hml, hown, hts⟩ (c_X0_init l dC dI H.size q_5 3000 (by omega)) ⟨callB_of 1 hts (gi kt_11) rfl rfl rfl (hts _ kt_10) (hts _ kt_131) (by decide +kernel) ⟨Nat.le_of_ble_eq_true rfl, Nat.le_of_ble_eq_true rfl⟩, rfl, (hts _ kt_13)⟩ ⟨fun a U g mk q => ⟨q.1, PW.calling q.2⟩, fun U hU hW => ⟨rfl, PW.mk hU hW hPc hKc hDc hE⟩⟩ rfl rfl hl.1 rfl (lv_room (Nat.le_of_ble_eq_true rfl)) dX11_init_26 ⟨by show _ + 1 ≤ 320; omega, by show _ + 3000 ≤ 55808; omega⟩) hS (fun q _ h => hFc q h) hFc (fun u t H1 locs ht hvm hw hB hz1 hk1 hS => ?_)
  obtain ⟨q_7, cA_8, hB1⟩ := hB
  obtain ⟨hP, hD, hK⟩ := QW.join (wr := [(h0, .inr (11, [.ref q_1, .null, .null, .null, .null, .null, .null, .null, .null])), (q_1, .inr (0, [.ref q_3, .int 0, .int 0])), (q_3, .inl (cA_4, 3000, .inl (fun _ => 0)))]) hP hD hK [3] [0, 1, 2] rfl rfl (by decide) (by decide) hk1 hFc ht hvm hB1
  generalize H1 = H at hP hS ⊢
  have hK : va_K (dC, dI) vwCl [(cA_4, .int), (cA_8, .int)] s := hK.sub [0, 1] rfl
  have hP : va_P (dC, dI) vwCl [(h0, .inr (11, [.ref q_1, .null, .null, .null, .null, .null, .null, .null, .null])), (q_1, .inr (0, [.ref q_3, .int 0, .int 0])), (q_3, .inl (cA_4, 3000, .inl (fun _ => 0))), (q_5, .inr (0, [.ref q_7, .int 0, .int 0])), (q_7, .inl (cA_8, 3000, .inl (fun _ => 0)))] H := hP
  have hD : va_D A [(h0, .inr (11, [.ref q_1, .null, .null, .null, .null, .null, .null, .null, .null])), (q_1, .inr (0, [.ref q_3, .int 0, .int 0])), (q_3, .inl (cA_4, 3000, .inl (fun _ => 0))), (q_5, .inr (0, [.ref q_7, .int 0, .int 0])), (q_7, .inl (cA_8, 3000, .inl (fun _ => 0)))] := hD
  refine va_putF (D := (dC, dI)) (ci := 11) (v := .ref q_5) (ty := .object "PostGate$Bytes") (C := RX11) (T := TX11) (N := 9) hx hb hts it_11 tyX11 tyX11_ok nmX11 hown hK hP hD hS 0 rfl rfl 1 (by decide) (hts _ kt_133) (fun _ h9 => h9) rfl hin rfl (by decide +kernel) rfl rfl (Nat.le_of_ble_eq_true rfl) dX11_init_29 (fun H locs hP hD hS => ?_)
  have hP : va_P (dC, dI) vwCl [(h0, .inr (11, [.ref q_1, .ref q_5, .null, .null, .null, .null, .null, .null, .null])), (q_1, .inr (0, [.ref q_3, .int 0, .int 0])), (q_3, .inl (cA_4, 3000, .inl (fun _ => 0))), (q_5, .inr (0, [.ref q_7, .int 0, .int 0])), (q_7, .inl (cA_8, 3000, .inl (fun _ => 0)))] H := hP
  have hD : va_D A [(h0, .inr (11, [.ref q_1, .ref q_5, .null, .null, .null, .null, .null, .null, .null])), (q_1, .inr (0, [.ref q_3, .int 0, .int 0])), (q_3, .inl (cA_4, 3000, .inl (fun _ => 0))), (q_5, .inr (0, [.ref q_7, .int 0, .int 0])), (q_7, .inl (cA_8, 3000, .inl (fun _ => 0)))] := hD
  refine lv_aload_n hx hb dX11_init_32 rfl (lv_at hl 0 rfl) ?_
  refine va_new (ci := 2) (fs := [.null, .int 0]) (C := RX2) (T := TX2) (N := 2) hx hb hts it_2 tyX2 tyX2_ok hown (hts _ kt_134) (hts _ kt_135) (hts _ kt_136) hK hP hD hS hA rfl df_2 (by show _ + 1 ≤ 320; omega) (by show _ + 2 ≤ 55808; omega) dX11_init_33 (fun q_9 H hP hD hS => ?_)
  have hP : va_P (dC, dI) vwCl [(h0, .inr (11, [.ref q_1, .ref q_5, .null, .null, .null, .null, .null, .null, .null])), (q_1, .inr (0, [.ref q_3, .int 0, .int 0])), (q_3, .inl (cA_4, 3000, .inl (fun _ => 0))), (q_5, .inr (0, [.ref q_7, .int 0, .int 0])), (q_7, .inl (cA_8, 3000, .inl (fun _ => 0))), (q_9, .inr (2, [.null, .int 0]))] H := hP
  have hD : va_D A [(h0, .inr (11, [.ref q_1, .ref q_5, .null, .null, .null, .null, .null, .null, .null])), (q_1, .inr (0, [.ref q_3, .int 0, .int 0])), (q_3, .inl (cA_4, 3000, .inl (fun _ => 0))), (q_5, .inr (0, [.ref q_7, .int 0, .int 0])), (q_7, .inl (cA_8, 3000, .inl (fun _ => 0))), (q_9, .inr (2, [.null, .int 0]))] := hD
  refine lv_dup hx hb dX11_init_36 rfl ?_
  have hPc := hP.sub (ws' := [(q_9, .inr (2, [.null, .int 0]))]) [5] rfl
  have hDc := hD.sub (ws' := [(q_9, .inr (2, [.null, .int 0]))]) [5] (by decide) rfl
  have hKc := hK.sub (tys' := []) [] rfl
  have hFc := va_free (wc := [(q_9, .inr (2, [.null, .int 0]))]) hD hS hA [5] rfl
  refine va_callv (va_runI (As := []) (rest := [.ref q_9, .ref h0]) ⟨hx, hb, hml, hown, hts⟩ (c_X2_init l dC dI H.size q_9 ) ⟨callB_of 0 hts (gi kt_137) rfl rfl rfl (hts _ kt_136) (hts _ kt_138) (by decide +kernel) ⟨Nat.le_of_ble_eq_true rfl, Nat.le_of_ble_eq_true rfl⟩, rfl, (hts _ kt_139)⟩ ⟨fun a U g mk q => ⟨q.1, PW.calling q.2⟩, fun U hU hW => ⟨rfl, PW.mk hU hW hPc hKc hDc hE⟩⟩ rfl rfl hl.1 rfl (lv_room (Nat.le_of_ble_eq_true rfl)) dX11_init_37 ⟨by show _ + 201 ≤ 320; omega, by show _ + 30840 ≤ 55808; omega⟩) hS (fun q _ h => hFc q h) hFc (fun u t H1 locs ht hvm hw hB hz1 hk1 hS => ?_)
  obtain ⟨q_11, hB1⟩ := hB
  obtain ⟨hP, hD, hK⟩ := QW.join (wr := [(h0, .inr (11, [.ref q_1, .ref q_5, .null, .null, .null, .null, .null, .null, .null])), (q_1, .inr (0, [.ref q_3, .int 0, .int 0])), (q_3, .inl (cA_4, 3000, .inl (fun _ => 0))), (q_5, .inr (0, [.ref q_7, .int 0, .int 0])), (q_7, .inl (cA_8, 3000, .inl (fun _ => 0)))]) hP hD hK [5] [0, 1, 2, 3, 4] rfl rfl (by decide) (by decide) hk1 hFc ht hvm hB1
  generalize H1 = H at hP hS ⊢
  have hK : va_K (dC, dI) vwCl [(cA_4, .int), (cA_8, .int)] s := hK.sub [0, 1] rfl
  have hP : va_P (dC, dI) vwCl [(h0, .inr (11, [.ref q_1, .ref q_5, .null, .null, .null, .null, .null, .null, .null])), (q_1, .inr (0, [.ref q_3, .int 0, .int 0])), (q_3, .inl (cA_4, 3000, .inl (fun _ => 0))), (q_5, .inr (0, [.ref q_7, .int 0, .int 0])), (q_7, .inl (cA_8, 3000, .inl (fun _ => 0))), (q_9, .inr (2, [.ref q_11, .int 0]))] H := hP
  have hD : va_D A [(h0, .inr (11, [.ref q_1, .ref q_5, .null, .null, .null, .null, .null, .null, .null])), (q_1, .inr (0, [.ref q_3, .int 0, .int 0])), (q_3, .inl (cA_4, 3000, .inl (fun _ => 0))), (q_5, .inr (0, [.ref q_7, .int 0, .int 0])), (q_7, .inl (cA_8, 3000, .inl (fun _ => 0))), (q_9, .inr (2, [.ref q_11, .int 0]))] := hD
  refine va_putF (D := (dC, dI)) (ci := 11) (v := .ref q_9) (ty := .object "PostGate$Directory") (C := RX11) (T := TX11) (N := 9) hx hb hts it_11 tyX11 tyX11_ok nmX11 hown hK hP hD hS 0 rfl rfl 2 (by decide) (hts _ kt_140) (fun _ h9 => h9) rfl hin rfl (by decide +kernel) rfl rfl (Nat.le_of_ble_eq_true rfl) dX11_init_40 (fun H locs hP hD hS => ?_)
  have hP : va_P (dC, dI) vwCl [(h0, .inr (11, [.ref q_1, .ref q_5, .ref q_9, .null, .null, .null, .null, .null, .null])), (q_1, .inr (0, [.ref q_3, .int 0, .int 0])), (q_3, .inl (cA_4, 3000, .inl (fun _ => 0))), (q_5, .inr (0, [.ref q_7, .int 0, .int 0])), (q_7, .inl (cA_8, 3000, .inl (fun _ => 0))), (q_9, .inr (2, [.ref q_11, .int 0]))] H := hP
  have hD : va_D A [(h0, .inr (11, [.ref q_1, .ref q_5, .ref q_9, .null, .null, .null, .null, .null, .null])), (q_1, .inr (0, [.ref q_3, .int 0, .int 0])), (q_3, .inl (cA_4, 3000, .inl (fun _ => 0))), (q_5, .inr (0, [.ref q_7, .int 0, .int 0])), (q_7, .inl (cA_8, 3000, .inl (fun _ => 0))), (q_9, .inr (2, [.ref q_11, .int 0]))] := hD
  refine lv_aload_n hx hb dX11_init_43 rfl (lv_at hl 0 rfl) ?_
  refine va_new (ci := 1) (fs := [.null, .null, .null, .null, .null, .null, .null, .int 0, .int 0, .int 0, .int 0]) (C := RX1) (T := TX1) (N := 11) hx hb hts it_1 tyX1 tyX1_ok hown (hts _ kt_141) (hts _ kt_142) (hts _ kt_143) hK hP hD hS hA rfl df_1 (by show _ + 1 ≤ 320; omega) (by show _ + 11 ≤ 55808; omega) dX11_init_44 (fun q_12 H hP hD hS => ?_)
  have hP : va_P (dC, dI) vwCl [(h0, .inr (11, [.ref q_1, .ref q_5, .ref q_9, .null, .null, .null, .null, .null, .null])), (q_1, .inr (0, [.ref q_3, .int 0, .int 0])), (q_3, .inl (cA_4, 3000, .inl (fun _ => 0))), (q_5, .inr (0, [.ref q_7, .int 0, .int 0])), (q_7, .inl (cA_8, 3000, .inl (fun _ => 0))), (q_9, .inr (2, [.ref q_11, .int 0])), (q_12, .inr (1, [.null, .null, .null, .null, .null, .null, .null, .int 0, .int 0, .int 0, .int 0]))] H := hP
  have hD : va_D A [(h0, .inr (11, [.ref q_1, .ref q_5, .ref q_9, .null, .null, .null, .null, .null, .null])), (q_1, .inr (0, [.ref q_3, .int 0, .int 0])), (q_3, .inl (cA_4, 3000, .inl (fun _ => 0))), (q_5, .inr (0, [.ref q_7, .int 0, .int 0])), (q_7, .inl (cA_8, 3000, .inl (fun _ => 0))), (q_9, .inr (2, [.ref q_11, .int 0])), (q_12, .inr (1, [.null, .null, .null, .null, .null, .null, .null, .int 0, .int 0, .int 0, .int 0]))] := hD
  refine lv_dup hx hb dX11_init_47 rfl ?_
  refine lv_aload_n hx hb dX11_init_48 rfl (lv_at hl 0 rfl) ?_
  refine va_get (D := (dC, dI)) (ci := 11) (v := .ref q_9) (C := RX11) (T := TX11) (N := 9) hx hb hts it_11 hown hK hP 0 rfl rfl 2 (by decide) (hts _ kt_140) (fun _ h9 => h9) rfl dX11_init_49 ?_
  have hPc := hP.sub (ws' := [(q_12, .inr (1, [.null, .null, .null, .null, .null, .null, .null, .int 0, .int 0, .int 0, .int 0]))]) [6] rfl
  have hDc := hD.sub (ws' := [(q_12, .inr (1, [.null, .null, .null, .null, .null, .null, .null, .int 0, .int 0, .int 0, .int 0]))]) [6] (by decide) rfl
  have hKc := hK.sub (tys' := []) [] rfl
  have hFc := va_free (wc := [(q_12, .inr (1, [.null, .null, .null, .null, .null, .null, .null, .int 0, .int 0, .int 0, .int 0]))]) hD hS hA [6] rfl
  refine va_callv (va_runI (As := [.ref q_9]) (rest := [.ref q_12, .ref h0]) ⟨hx, hb, hml, hown, hts⟩ (c_X1_init l dC dI H.size q_12 q_9 ) ⟨callB_of 1 hts (gi kt_144) rfl rfl rfl (hts _ kt_143) (hts _ kt_145) (by decide +kernel) ⟨Nat.le_of_ble_eq_true rfl, Nat.le_of_ble_eq_true rfl⟩, rfl, (hts _ kt_146)⟩ ⟨fun a U g mk q => ⟨q.1, PW.calling q.2⟩, fun U hU hW => ⟨rfl, PW.mk hU hW hPc hKc hDc hE⟩⟩ rfl rfl hl.1 rfl (lv_room (Nat.le_of_ble_eq_true rfl)) dX11_init_52 ⟨by show _ + 45 ≤ 320; omega, by show _ + 1053 ≤ 55808; omega⟩) hS (fun q _ h => hFc q h) hFc (fun u t H1 locs ht hvm hw hB hz1 hk1 hS => ?_)
  obtain ⟨q1_14, q2_15, q3_16, q4_17, q5_18, q6_19, hB1⟩ := hB
  obtain ⟨hP, hD, hK⟩ := QW.join (wr := [(h0, .inr (11, [.ref q_1, .ref q_5, .ref q_9, .null, .null, .null, .null, .null, .null])), (q_1, .inr (0, [.ref q_3, .int 0, .int 0])), (q_3, .inl (cA_4, 3000, .inl (fun _ => 0))), (q_5, .inr (0, [.ref q_7, .int 0, .int 0])), (q_7, .inl (cA_8, 3000, .inl (fun _ => 0))), (q_9, .inr (2, [.ref q_11, .int 0]))]) hP hD hK [6] [0, 1, 2, 3, 4, 5] rfl rfl (by decide) (by decide) hk1 hFc ht hvm hB1
  generalize H1 = H at hP hS ⊢
  have hK : va_K (dC, dI) vwCl [(cA_4, .int), (cA_8, .int)] s := hK.sub [0, 1] rfl
  have hP : va_P (dC, dI) vwCl [(h0, .inr (11, [.ref q_1, .ref q_5, .ref q_9, .null, .null, .null, .null, .null, .null])), (q_1, .inr (0, [.ref q_3, .int 0, .int 0])), (q_3, .inl (cA_4, 3000, .inl (fun _ => 0))), (q_5, .inr (0, [.ref q_7, .int 0, .int 0])), (q_7, .inl (cA_8, 3000, .inl (fun _ => 0))), (q_9, .inr (2, [.ref q_11, .int 0])), (q_12, .inr (1, [.ref q_9, .ref q1_14, .ref q2_15, .ref q3_16, .ref q4_17, .ref q5_18, .ref q6_19, .int 0, .int 0, .int 0, .int 0]))] H := hP
  have hD : va_D A [(h0, .inr (11, [.ref q_1, .ref q_5, .ref q_9, .null, .null, .null, .null, .null, .null])), (q_1, .inr (0, [.ref q_3, .int 0, .int 0])), (q_3, .inl (cA_4, 3000, .inl (fun _ => 0))), (q_5, .inr (0, [.ref q_7, .int 0, .int 0])), (q_7, .inl (cA_8, 3000, .inl (fun _ => 0))), (q_9, .inr (2, [.ref q_11, .int 0])), (q_12, .inr (1, [.ref q_9, .ref q1_14, .ref q2_15, .ref q3_16, .ref q4_17, .ref q5_18, .ref q6_19, .int 0, .int 0, .int 0, .int 0]))] := hD
  refine va_putF (D := (dC, dI)) (ci := 11) (v := .ref q_12) (ty := .object "PostGate$Checker") (C := RX11) (T := TX11) (N := 9) hx hb hts it_11 tyX11 tyX11_ok nmX11 hown hK hP hD hS 0 rfl rfl 3 (by decide) (hts _ kt_147) (fun _ h9 => h9) rfl hin rfl (by decide +kernel) rfl rfl (Nat.le_of_ble_eq_true rfl) dX11_init_55 (fun H locs hP hD hS => ?_)
  have hP : va_P (dC, dI) vwCl [(h0, .inr (11, [.ref q_1, .ref q_5, .ref q_9, .ref q_12, .null, .null, .null, .null, .null])), (q_1, .inr (0, [.ref q_3, .int 0, .int 0])), (q_3, .inl (cA_4, 3000, .inl (fun _ => 0))), (q_5, .inr (0, [.ref q_7, .int 0, .int 0])), (q_7, .inl (cA_8, 3000, .inl (fun _ => 0))), (q_9, .inr (2, [.ref q_11, .int 0])), (q_12, .inr (1, [.ref q_9, .ref q1_14, .ref q2_15, .ref q3_16, .ref q4_17, .ref q5_18, .ref q6_19, .int 0, .int 0, .int 0, .int 0]))] H := hP
  have hD : va_D A [(h0, .inr (11, [.ref q_1, .ref q_5, .ref q_9, .ref q_12, .null, .null, .null, .null, .null])), (q_1, .inr (0, [.ref q_3, .int 0, .int 0])), (q_3, .inl (cA_4, 3000, .inl (fun _ => 0))), (q_5, .inr (0, [.ref q_7, .int 0, .int 0])), (q_7, .inl (cA_8, 3000, .inl (fun _ => 0))), (q_9, .inr (2, [.ref q_11, .int 0])), (q_12, .inr (1, [.ref q_9, .ref q1_14, .ref q2_15, .ref q3_16, .ref q4_17, .ref q5_18, .ref q6_19, .int 0, .int 0, .int 0, .int 0]))] := hD
  refine lv_aload_n hx hb dX11_init_58 rfl (lv_at hl 0 rfl) ?_
  refine va_new (ci := 7) (fs := [.null, .null, .null, .null, .null, .null, .null, .null, .null, .null, .null, .null, .null, .null, .null, .int 0, .int 0]) (C := RX7) (T := TX7) (N := 17) hx hb hts it_7 tyX7 tyX7_ok hown (hts _ kt_148) (hts _ kt_149) (hts _ kt_150) hK hP hD hS hA rfl df_7 (by show _ + 1 ≤ 320; omega) (by show _ + 17 ≤ 55808; omega) dX11_init_59 (fun q_20 H hP hD hS => ?_)
  have hP : va_P (dC, dI) vwCl [(h0, .inr (11, [.ref q_1, .ref q_5, .ref q_9, .ref q_12, .null, .null, .null, .null, .null])), (q_1, .inr (0, [.ref q_3, .int 0, .int 0])), (q_3, .inl (cA_4, 3000, .inl (fun _ => 0))), (q_5, .inr (0, [.ref q_7, .int 0, .int 0])), (q_7, .inl (cA_8, 3000, .inl (fun _ => 0))), (q_9, .inr (2, [.ref q_11, .int 0])), (q_12, .inr (1, [.ref q_9, .ref q1_14, .ref q2_15, .ref q3_16, .ref q4_17, .ref q5_18, .ref q6_19, .int 0, .int 0, .int 0, .int 0])), (q_20, .inr (7, [.null, .null, .null, .null, .null, .null, .null, .null, .null, .null, .null, .null, .null, .null, .null, .int 0, .int 0]))] H := hP
  have hD : va_D A [(h0, .inr (11, [.ref q_1, .ref q_5, .ref q_9, .ref q_12, .null, .null, .null, .null, .null])), (q_1, .inr (0, [.ref q_3, .int 0, .int 0])), (q_3, .inl (cA_4, 3000, .inl (fun _ => 0))), (q_5, .inr (0, [.ref q_7, .int 0, .int 0])), (q_7, .inl (cA_8, 3000, .inl (fun _ => 0))), (q_9, .inr (2, [.ref q_11, .int 0])), (q_12, .inr (1, [.ref q_9, .ref q1_14, .ref q2_15, .ref q3_16, .ref q4_17, .ref q5_18, .ref q6_19, .int 0, .int 0, .int 0, .int 0])), (q_20, .inr (7, [.null, .null, .null, .null, .null, .null, .null, .null, .null, .null, .null, .null, .null, .null, .null, .int 0, .int 0]))] := hD
  refine lv_dup hx hb dX11_init_62 rfl ?_
  refine lv_aload_n hx hb dX11_init_63 rfl (lv_at hl 0 rfl) ?_
  refine va_get (D := (dC, dI)) (ci := 11) (v := .ref q_9) (C := RX11) (T := TX11) (N := 9) hx hb hts it_11 hown hK hP 0 rfl rfl 2 (by decide) (hts _ kt_140) (fun _ h9 => h9) rfl dX11_init_64 ?_
  have hPc := hP.sub (ws' := [(q_20, .inr (7, [.null, .null, .null, .null, .null, .null, .null, .null, .null, .null, .null, .null, .null, .null, .null, .int 0, .int 0]))]) [7] rfl
  have hDc := hD.sub (ws' := [(q_20, .inr (7, [.null, .null, .null, .null, .null, .null, .null, .null, .null, .null, .null, .null, .null, .null, .null, .int 0, .int 0]))]) [7] (by decide) rfl
  have hKc := hK.sub (tys' := []) [] rfl
  have hFc := va_free (wc := [(q_20, .inr (7, [.null, .null, .null, .null, .null, .null, .null, .null, .null, .null, .null, .null, .null, .null, .null, .int 0, .int 0]))]) hD hS hA [7] rfl
  refine va_callv (va_runI (As := [.ref q_9]) (rest := [.ref q_20, .ref h0]) ⟨hx, hb, hml, hown, hts⟩ (c_X7_init l dC dI H.size q_20 q_9 ) ⟨callB_of 1 hts (gi kt_151) rfl rfl rfl (hts _ kt_150) (hts _ kt_152) (by decide +kernel) ⟨Nat.le_of_ble_eq_true rfl, Nat.le_of_ble_eq_true rfl⟩, rfl, (hts _ kt_153)⟩ ⟨fun a U g mk q => ⟨q.1, PW.calling q.2⟩, fun U hU hW => ⟨rfl, PW.mk hU hW hPc hKc hDc hE⟩⟩ rfl rfl hl.1 rfl (lv_room (Nat.le_of_ble_eq_true rfl)) dX11_init_67 ⟨by show _ + 40 ≤ 320; omega, by show _ + 10697 ≤ 55808; omega⟩) hS (fun q _ h => hFc q h) hFc (fun u t H1 locs ht hvm hw hB hz1 hk1 hS => ?_)
  have hB1 := hB
  obtain ⟨hP, hD, hK⟩ := QW.join (wr := [(h0, .inr (11, [.ref q_1, .ref q_5, .ref q_9, .ref q_12, .null, .null, .null, .null, .null])), (q_1, .inr (0, [.ref q_3, .int 0, .int 0])), (q_3, .inl (cA_4, 3000, .inl (fun _ => 0))), (q_5, .inr (0, [.ref q_7, .int 0, .int 0])), (q_7, .inl (cA_8, 3000, .inl (fun _ => 0))), (q_9, .inr (2, [.ref q_11, .int 0])), (q_12, .inr (1, [.ref q_9, .ref q1_14, .ref q2_15, .ref q3_16, .ref q4_17, .ref q5_18, .ref q6_19, .int 0, .int 0, .int 0, .int 0]))]) hP hD hK [7] [0, 1, 2, 3, 4, 5, 6] rfl rfl (by decide) (by decide) hk1 hFc ht hvm hB1
  generalize H1 = H at hP hS ⊢
  have hK : va_K (dC, dI) vwCl [(cA_4, .int), (cA_8, .int)] s := hK.sub [0, 1] rfl
  have hP : va_P (dC, dI) vwCl [(h0, .inr (11, [.ref q_1, .ref q_5, .ref q_9, .ref q_12, .null, .null, .null, .null, .null])), (q_1, .inr (0, [.ref q_3, .int 0, .int 0])), (q_3, .inl (cA_4, 3000, .inl (fun _ => 0))), (q_5, .inr (0, [.ref q_7, .int 0, .int 0])), (q_7, .inl (cA_8, 3000, .inl (fun _ => 0))), (q_9, .inr (2, [.ref q_11, .int 0])), (q_12, .inr (1, [.ref q_9, .ref q1_14, .ref q2_15, .ref q3_16, .ref q4_17, .ref q5_18, .ref q6_19, .int 0, .int 0, .int 0, .int 0]))] H := hP
  have hD : va_D A [(h0, .inr (11, [.ref q_1, .ref q_5, .ref q_9, .ref q_12, .null, .null, .null, .null, .null])), (q_1, .inr (0, [.ref q_3, .int 0, .int 0])), (q_3, .inl (cA_4, 3000, .inl (fun _ => 0))), (q_5, .inr (0, [.ref q_7, .int 0, .int 0])), (q_7, .inl (cA_8, 3000, .inl (fun _ => 0))), (q_9, .inr (2, [.ref q_11, .int 0])), (q_12, .inr (1, [.ref q_9, .ref q1_14, .ref q2_15, .ref q3_16, .ref q4_17, .ref q5_18, .ref q6_19, .int 0, .int 0, .int 0, .int 0]))] := hD
  refine va_putF (D := (dC, dI)) (ci := 11) (v := .ref q_20) (ty := .object "PostGate$Sealer") (C := RX11) (T := TX11) (N := 9) hx hb hts it_11 tyX11 tyX11_ok nmX11 hown hK hP hD hS 0 rfl rfl 4 (by decide) (hts _ kt_154) (fun _ h9 => h9) rfl hin rfl (by decide +kernel) rfl rfl (Nat.le_of_ble_eq_true rfl) dX11_init_70 (fun H locs hP hD hS => ?_)
  have hP : va_P (dC, dI) vwCl [(h0, .inr (11, [.ref q_1, .ref q_5, .ref q_9, .ref q_12, .ref q_20, .null, .null, .null, .null])), (q_1, .inr (0, [.ref q_3, .int 0, .int 0])), (q_3, .inl (cA_4, 3000, .inl (fun _ => 0))), (q_5, .inr (0, [.ref q_7, .int 0, .int 0])), (q_7, .inl (cA_8, 3000, .inl (fun _ => 0))), (q_9, .inr (2, [.ref q_11, .int 0])), (q_12, .inr (1, [.ref q_9, .ref q1_14, .ref q2_15, .ref q3_16, .ref q4_17, .ref q5_18, .ref q6_19, .int 0, .int 0, .int 0, .int 0]))] H := hP
  have hD : va_D A [(h0, .inr (11, [.ref q_1, .ref q_5, .ref q_9, .ref q_12, .ref q_20, .null, .null, .null, .null])), (q_1, .inr (0, [.ref q_3, .int 0, .int 0])), (q_3, .inl (cA_4, 3000, .inl (fun _ => 0))), (q_5, .inr (0, [.ref q_7, .int 0, .int 0])), (q_7, .inl (cA_8, 3000, .inl (fun _ => 0))), (q_9, .inr (2, [.ref q_11, .int 0])), (q_12, .inr (1, [.ref q_9, .ref q1_14, .ref q2_15, .ref q3_16, .ref q4_17, .ref q5_18, .ref q6_19, .int 0, .int 0, .int 0, .int 0]))] := hD
  refine lv_aload_n hx hb dX11_init_73 rfl (lv_at hl 0 rfl) ?_
  refine va_new (ci := 5) (fs := [.null, .null, .null, .null, .int 0, .int 0, .int 0]) (C := RX5) (T := TX5) (N := 7) hx hb hts it_5 tyX5 tyX5_ok hown (hts _ kt_155) (hts _ kt_156) (hts _ kt_157) hK hP hD hS hA rfl df_5 (by show _ + 1 ≤ 320; omega) (by show _ + 7 ≤ 55808; omega) dX11_init_74 (fun q_22 H hP hD hS => ?_)
  have hP : va_P (dC, dI) vwCl [(h0, .inr (11, [.ref q_1, .ref q_5, .ref q_9, .ref q_12, .ref q_20, .null, .null, .null, .null])), (q_1, .inr (0, [.ref q_3, .int 0, .int 0])), (q_3, .inl (cA_4, 3000, .inl (fun _ => 0))), (q_5, .inr (0, [.ref q_7, .int 0, .int 0])), (q_7, .inl (cA_8, 3000, .inl (fun _ => 0))), (q_9, .inr (2, [.ref q_11, .int 0])), (q_12, .inr (1, [.ref q_9, .ref q1_14, .ref q2_15, .ref q3_16, .ref q4_17, .ref q5_18, .ref q6_19, .int 0, .int 0, .int 0, .int 0])), (q_22, .inr (5, [.null, .null, .null, .null, .int 0, .int 0, .int 0]))] H := hP
  have hD : va_D A [(h0, .inr (11, [.ref q_1, .ref q_5, .ref q_9, .ref q_12, .ref q_20, .null, .null, .null, .null])), (q_1, .inr (0, [.ref q_3, .int 0, .int 0])), (q_3, .inl (cA_4, 3000, .inl (fun _ => 0))), (q_5, .inr (0, [.ref q_7, .int 0, .int 0])), (q_7, .inl (cA_8, 3000, .inl (fun _ => 0))), (q_9, .inr (2, [.ref q_11, .int 0])), (q_12, .inr (1, [.ref q_9, .ref q1_14, .ref q2_15, .ref q3_16, .ref q4_17, .ref q5_18, .ref q6_19, .int 0, .int 0, .int 0, .int 0])), (q_22, .inr (5, [.null, .null, .null, .null, .int 0, .int 0, .int 0]))] := hD
  refine lv_dup hx hb dX11_init_77 rfl ?_
  refine lv_aload_n hx hb dX11_init_78 rfl (lv_at hl 0 rfl) ?_
  refine va_get (D := (dC, dI)) (ci := 11) (v := .ref q_9) (C := RX11) (T := TX11) (N := 9) hx hb hts it_11 hown hK hP 0 rfl rfl 2 (by decide) (hts _ kt_140) (fun _ h9 => h9) rfl dX11_init_79 ?_
  have hPc := hP.sub (ws' := [(q_22, .inr (5, [.null, .null, .null, .null, .int 0, .int 0, .int 0]))]) [7] rfl
  have hDc := hD.sub (ws' := [(q_22, .inr (5, [.null, .null, .null, .null, .int 0, .int 0, .int 0]))]) [7] (by decide) rfl
  have hKc := hK.sub (tys' := []) [] rfl
  have hFc := va_free (wc := [(q_22, .inr (5, [.null, .null, .null, .null, .int 0, .int 0, .int 0]))]) hD hS hA [7] rfl
  refine va_callv (va_runI (As := [.ref q_9]) (rest := [.ref q_22, .ref h0]) ⟨hx, hb, hml, hown, hts⟩ (c_X5_init l dC dI H.size q_22 q_9 ) ⟨callB_of 1 hts (gi kt_158) rfl rfl rfl (hts _ kt_157) (hts _ kt_159) (by decide +kernel) ⟨Nat.le_of_ble_eq_true rfl, Nat.le_of_ble_eq_true rfl⟩, rfl, (hts _ kt_160)⟩ ⟨fun a U g mk q => ⟨q.1, PW.calling q.2⟩, fun U hU hW => ⟨rfl, PW.mk hU hW hPc hKc hDc hE⟩⟩ rfl rfl hl.1 rfl (lv_room (Nat.le_of_ble_eq_true rfl)) dX11_init_82 ⟨by show _ + 10 ≤ 320; omega, by show _ + 954 ≤ 55808; omega⟩) hS (fun q _ h => hFc q h) hFc (fun u t H1 locs ht hvm hw hB hz1 hk1 hS => ?_)
  have hB1 := hB
  obtain ⟨hP, hD, hK⟩ := QW.join (wr := [(h0, .inr (11, [.ref q_1, .ref q_5, .ref q_9, .ref q_12, .ref q_20, .null, .null, .null, .null])), (q_1, .inr (0, [.ref q_3, .int 0, .int 0])), (q_3, .inl (cA_4, 3000, .inl (fun _ => 0))), (q_5, .inr (0, [.ref q_7, .int 0, .int 0])), (q_7, .inl (cA_8, 3000, .inl (fun _ => 0))), (q_9, .inr (2, [.ref q_11, .int 0])), (q_12, .inr (1, [.ref q_9, .ref q1_14, .ref q2_15, .ref q3_16, .ref q4_17, .ref q5_18, .ref q6_19, .int 0, .int 0, .int 0, .int 0]))]) hP hD hK [7] [0, 1, 2, 3, 4, 5, 6] rfl rfl (by decide) (by decide) hk1 hFc ht hvm hB1
  generalize H1 = H at hP hS ⊢
  have hK : va_K (dC, dI) vwCl [(cA_4, .int), (cA_8, .int)] s := hK.sub [0, 1] rfl
  have hP : va_P (dC, dI) vwCl [(h0, .inr (11, [.ref q_1, .ref q_5, .ref q_9, .ref q_12, .ref q_20, .null, .null, .null, .null])), (q_1, .inr (0, [.ref q_3, .int 0, .int 0])), (q_3, .inl (cA_4, 3000, .inl (fun _ => 0))), (q_5, .inr (0, [.ref q_7, .int 0, .int 0])), (q_7, .inl (cA_8, 3000, .inl (fun _ => 0))), (q_9, .inr (2, [.ref q_11, .int 0])), (q_12, .inr (1, [.ref q_9, .ref q1_14, .ref q2_15, .ref q3_16, .ref q4_17, .ref q5_18, .ref q6_19, .int 0, .int 0, .int 0, .int 0]))] H := hP
  have hD : va_D A [(h0, .inr (11, [.ref q_1, .ref q_5, .ref q_9, .ref q_12, .ref q_20, .null, .null, .null, .null])), (q_1, .inr (0, [.ref q_3, .int 0, .int 0])), (q_3, .inl (cA_4, 3000, .inl (fun _ => 0))), (q_5, .inr (0, [.ref q_7, .int 0, .int 0])), (q_7, .inl (cA_8, 3000, .inl (fun _ => 0))), (q_9, .inr (2, [.ref q_11, .int 0])), (q_12, .inr (1, [.ref q_9, .ref q1_14, .ref q2_15, .ref q3_16, .ref q4_17, .ref q5_18, .ref q6_19, .int 0, .int 0, .int 0, .int 0]))] := hD
  refine va_putF (D := (dC, dI)) (ci := 11) (v := .ref q_22) (ty := .object "PostGate$Policy") (C := RX11) (T := TX11) (N := 9) hx hb hts it_11 tyX11 tyX11_ok nmX11 hown hK hP hD hS 0 rfl rfl 5 (by decide) (hts _ kt_161) (fun _ h9 => h9) rfl hin rfl (by decide +kernel) rfl rfl (Nat.le_of_ble_eq_true rfl) dX11_init_85 (fun H locs hP hD hS => ?_)
  have hP : va_P (dC, dI) vwCl [(h0, .inr (11, [.ref q_1, .ref q_5, .ref q_9, .ref q_12, .ref q_20, .ref q_22, .null, .null, .null])), (q_1, .inr (0, [.ref q_3, .int 0, .int 0])), (q_3, .inl (cA_4, 3000, .inl (fun _ => 0))), (q_5, .inr (0, [.ref q_7, .int 0, .int 0])), (q_7, .inl (cA_8, 3000, .inl (fun _ => 0))), (q_9, .inr (2, [.ref q_11, .int 0])), (q_12, .inr (1, [.ref q_9, .ref q1_14, .ref q2_15, .ref q3_16, .ref q4_17, .ref q5_18, .ref q6_19, .int 0, .int 0, .int 0, .int 0]))] H := hP
  have hD : va_D A [(h0, .inr (11, [.ref q_1, .ref q_5, .ref q_9, .ref q_12, .ref q_20, .ref q_22, .null, .null, .null])), (q_1, .inr (0, [.ref q_3, .int 0, .int 0])), (q_3, .inl (cA_4, 3000, .inl (fun _ => 0))), (q_5, .inr (0, [.ref q_7, .int 0, .int 0])), (q_7, .inl (cA_8, 3000, .inl (fun _ => 0))), (q_9, .inr (2, [.ref q_11, .int 0])), (q_12, .inr (1, [.ref q_9, .ref q1_14, .ref q2_15, .ref q3_16, .ref q4_17, .ref q5_18, .ref q6_19, .int 0, .int 0, .int 0, .int 0]))] := hD
  refine lv_aload_n hx hb dX11_init_88 rfl (lv_at hl 0 rfl) ?_
  refine va_new (ci := 8) (fs := [.null, .null, .null]) (C := RX8) (T := TX8) (N := 3) hx hb hts it_8 tyX8 tyX8_ok hown (hts _ kt_162) (hts _ kt_115) (hts _ kt_116) hK hP hD hS hA rfl df_8 (by show _ + 1 ≤ 320; omega) (by show _ + 3 ≤ 55808; omega) dX11_init_89 (fun q_24 H hP hD hS => ?_)
  have hP : va_P (dC, dI) vwCl [(h0, .inr (11, [.ref q_1, .ref q_5, .ref q_9, .ref q_12, .ref q_20, .ref q_22, .null, .null, .null])), (q_1, .inr (0, [.ref q_3, .int 0, .int 0])), (q_3, .inl (cA_4, 3000, .inl (fun _ => 0))), (q_5, .inr (0, [.ref q_7, .int 0, .int 0])), (q_7, .inl (cA_8, 3000, .inl (fun _ => 0))), (q_9, .inr (2, [.ref q_11, .int 0])), (q_12, .inr (1, [.ref q_9, .ref q1_14, .ref q2_15, .ref q3_16, .ref q4_17, .ref q5_18, .ref q6_19, .int 0, .int 0, .int 0, .int 0])), (q_24, .inr (8, [.null, .null, .null]))] H := hP
  have hD : va_D A [(h0, .inr (11, [.ref q_1, .ref q_5, .ref q_9, .ref q_12, .ref q_20, .ref q_22, .null, .null, .null])), (q_1, .inr (0, [.ref q_3, .int 0, .int 0])), (q_3, .inl (cA_4, 3000, .inl (fun _ => 0))), (q_5, .inr (0, [.ref q_7, .int 0, .int 0])), (q_7, .inl (cA_8, 3000, .inl (fun _ => 0))), (q_9, .inr (2, [.ref q_11, .int 0])), (q_12, .inr (1, [.ref q_9, .ref q1_14, .ref q2_15, .ref q3_16, .ref q4_17, .ref q5_18, .ref q6_19, .int 0, .int 0, .int 0, .int 0])), (q_24, .inr (8, [.null, .null, .null]))] := hD
  refine lv_dup hx hb dX11_init_92 rfl ?_
  have hPc := hP.sub (ws' := [(q_24, .inr (8, [.null, .null, .null]))]) [7] rfl
  have hDc := hD.sub (ws' := [(q_24, .inr (8, [.null, .null, .null]))]) [7] (by decide) rfl
  have hKc := hK.sub (tys' := []) [] rfl
  have hFc := va_free (wc := [(q_24, .inr (8, [.null, .null, .null]))]) hD hS hA [7] rfl
  refine va_callv (va_runIN (As := []) (rest := [.ref q_24, .ref h0]) ⟨hx, hb, hml, hown, hts⟩ (c_X8_init l dC dI H.size q_24 ) ⟨va_cnB 0 hts (gi kt_117) rfl rfl rfl (hE.nestw kn_4) (hts _ kt_116) (by decide +kernel) ⟨Nat.le_of_ble_eq_true rfl, Nat.le_of_ble_eq_true rfl⟩, rfl, (hts _ kt_118)⟩ ⟨fun a U g mk q => ⟨q.1, PW.calling q.2⟩, fun U hU hW => ⟨rfl, PW.mk hU hW hPc hKc hDc hE⟩⟩ rfl rfl hl.1 rfl (lv_room (Nat.le_of_ble_eq_true rfl)) dX11_init_93 ⟨by show _ + 3 ≤ 320; omega, by show _ + 80 ≤ 55808; omega⟩) hS (fun q _ h => hFc q h) hFc (fun u t H1 locs ht hvm hw hB hz1 hk1 hS => ?_)
  obtain ⟨qw_26, qs_27, qt_28, cw_29, cs_30, ct_31, hB1⟩ := hB
  obtain ⟨hP, hD, hK⟩ := QW.join (wr := [(h0, .inr (11, [.ref q_1, .ref q_5, .ref q_9, .ref q_12, .ref q_20, .ref q_22, .null, .null, .null])), (q_1, .inr (0, [.ref q_3, .int 0, .int 0])), (q_3, .inl (cA_4, 3000, .inl (fun _ => 0))), (q_5, .inr (0, [.ref q_7, .int 0, .int 0])), (q_7, .inl (cA_8, 3000, .inl (fun _ => 0))), (q_9, .inr (2, [.ref q_11, .int 0])), (q_12, .inr (1, [.ref q_9, .ref q1_14, .ref q2_15, .ref q3_16, .ref q4_17, .ref q5_18, .ref q6_19, .int 0, .int 0, .int 0, .int 0]))]) hP hD hK [7] [0, 1, 2, 3, 4, 5, 6] rfl rfl (by decide) (by decide) hk1 hFc ht hvm hB1
  generalize H1 = H at hP hS ⊢
  have hK : va_K (dC, dI) vwCl [(cA_4, .int), (cA_8, .int), (cw_29, .int), (cs_30, .int), (ct_31, .int)] s := hK.sub [0, 1, 2, 3, 4] rfl
  have hP : va_P (dC, dI) vwCl [(h0, .inr (11, [.ref q_1, .ref q_5, .ref q_9, .ref q_12, .ref q_20, .ref q_22, .null, .null, .null])), (q_1, .inr (0, [.ref q_3, .int 0, .int 0])), (q_3, .inl (cA_4, 3000, .inl (fun _ => 0))), (q_5, .inr (0, [.ref q_7, .int 0, .int 0])), (q_7, .inl (cA_8, 3000, .inl (fun _ => 0))), (q_9, .inr (2, [.ref q_11, .int 0])), (q_12, .inr (1, [.ref q_9, .ref q1_14, .ref q2_15, .ref q3_16, .ref q4_17, .ref q5_18, .ref q6_19, .int 0, .int 0, .int 0, .int 0])), (q_24, .inr (8, [.ref qw_26, .ref qs_27, .ref qt_28])), (qw_26, .inl (cw_29, 64, .inl (fun _ => 0))), (qs_27, .inl (cs_30, 8, .inl (fun _ => 0))), (qt_28, .inl (ct_31, 8, .inl (fun _ => 0)))] H := hP
  have hD : va_D A [(h0, .inr (11, [.ref q_1, .ref q_5, .ref q_9, .ref q_12, .ref q_20, .ref q_22, .null, .null, .null])), (q_1, .inr (0, [.ref q_3, .int 0, .int 0])), (q_3, .inl (cA_4, 3000, .inl (fun _ => 0))), (q_5, .inr (0, [.ref q_7, .int 0, .int 0])), (q_7, .inl (cA_8, 3000, .inl (fun _ => 0))), (q_9, .inr (2, [.ref q_11, .int 0])), (q_12, .inr (1, [.ref q_9, .ref q1_14, .ref q2_15, .ref q3_16, .ref q4_17, .ref q5_18, .ref q6_19, .int 0, .int 0, .int 0, .int 0])), (q_24, .inr (8, [.ref qw_26, .ref qs_27, .ref qt_28])), (qw_26, .inl (cw_29, 64, .inl (fun _ => 0))), (qs_27, .inl (cs_30, 8, .inl (fun _ => 0))), (qt_28, .inl (ct_31, 8, .inl (fun _ => 0)))] := hD
  refine va_putF (D := (dC, dI)) (ci := 11) (v := .ref q_24) (ty := .object "PostGate$Sha") (C := RX11) (T := TX11) (N := 9) hx hb hts it_11 tyX11 tyX11_ok nmX11 hown hK hP hD hS 0 rfl rfl 6 (by decide) (hts _ kt_163) (fun _ h9 => h9) rfl hin rfl (by decide +kernel) rfl rfl (Nat.le_of_ble_eq_true rfl) dX11_init_96 (fun H locs hP hD hS => ?_)
  have hP : va_P (dC, dI) vwCl [(h0, .inr (11, [.ref q_1, .ref q_5, .ref q_9, .ref q_12, .ref q_20, .ref q_22, .ref q_24, .null, .null])), (q_1, .inr (0, [.ref q_3, .int 0, .int 0])), (q_3, .inl (cA_4, 3000, .inl (fun _ => 0))), (q_5, .inr (0, [.ref q_7, .int 0, .int 0])), (q_7, .inl (cA_8, 3000, .inl (fun _ => 0))), (q_9, .inr (2, [.ref q_11, .int 0])), (q_12, .inr (1, [.ref q_9, .ref q1_14, .ref q2_15, .ref q3_16, .ref q4_17, .ref q5_18, .ref q6_19, .int 0, .int 0, .int 0, .int 0])), (q_24, .inr (8, [.ref qw_26, .ref qs_27, .ref qt_28])), (qw_26, .inl (cw_29, 64, .inl (fun _ => 0))), (qs_27, .inl (cs_30, 8, .inl (fun _ => 0))), (qt_28, .inl (ct_31, 8, .inl (fun _ => 0)))] H := hP
  have hD : va_D A [(h0, .inr (11, [.ref q_1, .ref q_5, .ref q_9, .ref q_12, .ref q_20, .ref q_22, .ref q_24, .null, .null])), (q_1, .inr (0, [.ref q_3, .int 0, .int 0])), (q_3, .inl (cA_4, 3000, .inl (fun _ => 0))), (q_5, .inr (0, [.ref q_7, .int 0, .int 0])), (q_7, .inl (cA_8, 3000, .inl (fun _ => 0))), (q_9, .inr (2, [.ref q_11, .int 0])), (q_12, .inr (1, [.ref q_9, .ref q1_14, .ref q2_15, .ref q3_16, .ref q4_17, .ref q5_18, .ref q6_19, .int 0, .int 0, .int 0, .int 0])), (q_24, .inr (8, [.ref qw_26, .ref qs_27, .ref qt_28])), (qw_26, .inl (cw_29, 64, .inl (fun _ => 0))), (qs_27, .inl (cs_30, 8, .inl (fun _ => 0))), (qt_28, .inl (ct_31, 8, .inl (fun _ => 0)))] := hD
  refine lv_aload_n hx hb dX11_init_99 rfl (lv_at hl 0 rfl) ?_
  refine va_new (ci := 4) (fs := [.null, .null, .null, .null, .int 0, .int 0]) (C := RX4) (T := TX4) (N := 6) hx hb hts it_4 tyX4 tyX4_ok hown (hts _ kt_164) (hts _ kt_165) (hts _ kt_166) hK hP hD hS hA rfl df_4 (by show _ + 1 ≤ 320; omega) (by show _ + 6 ≤ 55808; omega) dX11_init_100 (fun q_32 H hP hD hS => ?_)
  have hP : va_P (dC, dI) vwCl [(h0, .inr (11, [.ref q_1, .ref q_5, .ref q_9, .ref q_12, .ref q_20, .ref q_22, .ref q_24, .null, .null])), (q_1, .inr (0, [.ref q_3, .int 0, .int 0])), (q_3, .inl (cA_4, 3000, .inl (fun _ => 0))), (q_5, .inr (0, [.ref q_7, .int 0, .int 0])), (q_7, .inl (cA_8, 3000, .inl (fun _ => 0))), (q_9, .inr (2, [.ref q_11, .int 0])), (q_12, .inr (1, [.ref q_9, .ref q1_14, .ref q2_15, .ref q3_16, .ref q4_17, .ref q5_18, .ref q6_19, .int 0, .int 0, .int 0, .int 0])), (q_24, .inr (8, [.ref qw_26, .ref qs_27, .ref qt_28])), (qw_26, .inl (cw_29, 64, .inl (fun _ => 0))), (qs_27, .inl (cs_30, 8, .inl (fun _ => 0))), (qt_28, .inl (ct_31, 8, .inl (fun _ => 0))), (q_32, .inr (4, [.null, .null, .null, .null, .int 0, .int 0]))] H := hP
  have hD : va_D A [(h0, .inr (11, [.ref q_1, .ref q_5, .ref q_9, .ref q_12, .ref q_20, .ref q_22, .ref q_24, .null, .null])), (q_1, .inr (0, [.ref q_3, .int 0, .int 0])), (q_3, .inl (cA_4, 3000, .inl (fun _ => 0))), (q_5, .inr (0, [.ref q_7, .int 0, .int 0])), (q_7, .inl (cA_8, 3000, .inl (fun _ => 0))), (q_9, .inr (2, [.ref q_11, .int 0])), (q_12, .inr (1, [.ref q_9, .ref q1_14, .ref q2_15, .ref q3_16, .ref q4_17, .ref q5_18, .ref q6_19, .int 0, .int 0, .int 0, .int 0])), (q_24, .inr (8, [.ref qw_26, .ref qs_27, .ref qt_28])), (qw_26, .inl (cw_29, 64, .inl (fun _ => 0))), (qs_27, .inl (cs_30, 8, .inl (fun _ => 0))), (qt_28, .inl (ct_31, 8, .inl (fun _ => 0))), (q_32, .inr (4, [.null, .null, .null, .null, .int 0, .int 0]))] := hD
  refine lv_dup hx hb dX11_init_103 rfl ?_
  have hPc := hP.sub (ws' := [(q_32, .inr (4, [.null, .null, .null, .null, .int 0, .int 0]))]) [11] rfl
  have hDc := hD.sub (ws' := [(q_32, .inr (4, [.null, .null, .null, .null, .int 0, .int 0]))]) [11] (by decide) rfl
  have hKc := hK.sub (tys' := []) [] rfl
  have hFc := va_free (wc := [(q_32, .inr (4, [.null, .null, .null, .null, .int 0, .int 0]))]) hD hS hA [11] rfl
  refine va_callv (va_runIN (As := []) (rest := [.ref q_32, .ref h0]) ⟨hx, hb, hml, hown, hts⟩ (c_X4_init l dC dI H.size q_32 ) ⟨va_cnB 0 hts (gi kt_167) rfl rfl rfl (hE.nestw kn_5) (hts _ kt_166) (by decide +kernel) ⟨Nat.le_of_ble_eq_true rfl, Nat.le_of_ble_eq_true rfl⟩, rfl, (hts _ kt_168)⟩ ⟨fun a U g mk q => ⟨q.1, PW.calling q.2⟩, fun U hU hW => ⟨rfl, PW.mk hU hW hPc hKc hDc hE⟩⟩ rfl rfl hl.1 rfl (lv_room (Nat.le_of_ble_eq_true rfl)) dX11_init_104 ⟨by show _ + 5 ≤ 320; omega, by show _ + 3063 ≤ 55808; omega⟩) hS (fun q _ h => hFc q h) hFc (fun u t H1 locs ht hvm hw hB hz1 hk1 hS => ?_)
  obtain ⟨qx_34, q1_35, q2_36, q3_37, qr_38, cr_39, hB1⟩ := hB
  obtain ⟨hP, hD, hK⟩ := QW.join (wr := [(h0, .inr (11, [.ref q_1, .ref q_5, .ref q_9, .ref q_12, .ref q_20, .ref q_22, .ref q_24, .null, .null])), (q_1, .inr (0, [.ref q_3, .int 0, .int 0])), (q_3, .inl (cA_4, 3000, .inl (fun _ => 0))), (q_5, .inr (0, [.ref q_7, .int 0, .int 0])), (q_7, .inl (cA_8, 3000, .inl (fun _ => 0))), (q_9, .inr (2, [.ref q_11, .int 0])), (q_12, .inr (1, [.ref q_9, .ref q1_14, .ref q2_15, .ref q3_16, .ref q4_17, .ref q5_18, .ref q6_19, .int 0, .int 0, .int 0, .int 0])), (q_24, .inr (8, [.ref qw_26, .ref qs_27, .ref qt_28])), (qw_26, .inl (cw_29, 64, .inl (fun _ => 0))), (qs_27, .inl (cs_30, 8, .inl (fun _ => 0))), (qt_28, .inl (ct_31, 8, .inl (fun _ => 0)))]) hP hD hK [11] [0, 1, 2, 3, 4, 5, 6, 7, 8, 9, 10] rfl rfl (by decide) (by decide) hk1 hFc ht hvm hB1
  generalize H1 = H at hP hS ⊢
  have hK : va_K (dC, dI) vwCl [(cA_4, .int), (cA_8, .int), (cw_29, .int), (cs_30, .int), (ct_31, .int), (cr_39, .int)] s := hK.sub [0, 1, 2, 3, 4, 5] rfl
  have hP : va_P (dC, dI) vwCl [(h0, .inr (11, [.ref q_1, .ref q_5, .ref q_9, .ref q_12, .ref q_20, .ref q_22, .ref q_24, .null, .null])), (q_1, .inr (0, [.ref q_3, .int 0, .int 0])), (q_3, .inl (cA_4, 3000, .inl (fun _ => 0))), (q_5, .inr (0, [.ref q_7, .int 0, .int 0])), (q_7, .inl (cA_8, 3000, .inl (fun _ => 0))), (q_9, .inr (2, [.ref q_11, .int 0])), (q_12, .inr (1, [.ref q_9, .ref q1_14, .ref q2_15, .ref q3_16, .ref q4_17, .ref q5_18, .ref q6_19, .int 0, .int 0, .int 0, .int 0])), (q_24, .inr (8, [.ref qw_26, .ref qs_27, .ref qt_28])), (qw_26, .inl (cw_29, 64, .inl (fun _ => 0))), (qs_27, .inl (cs_30, 8, .inl (fun _ => 0))), (qt_28, .inl (ct_31, 8, .inl (fun _ => 0))), (q_32, .inr (4, [.ref qx_34, .ref q1_35, .ref q2_36, .ref q3_37, .int 0, .int 0])), (qx_34, .inr (0, [.ref qr_38, .int 0, .int 0])), (qr_38, .inl (cr_39, 3000, .inl (fun _ => 0)))] H := hP
  have hD : va_D A [(h0, .inr (11, [.ref q_1, .ref q_5, .ref q_9, .ref q_12, .ref q_20, .ref q_22, .ref q_24, .null, .null])), (q_1, .inr (0, [.ref q_3, .int 0, .int 0])), (q_3, .inl (cA_4, 3000, .inl (fun _ => 0))), (q_5, .inr (0, [.ref q_7, .int 0, .int 0])), (q_7, .inl (cA_8, 3000, .inl (fun _ => 0))), (q_9, .inr (2, [.ref q_11, .int 0])), (q_12, .inr (1, [.ref q_9, .ref q1_14, .ref q2_15, .ref q3_16, .ref q4_17, .ref q5_18, .ref q6_19, .int 0, .int 0, .int 0, .int 0])), (q_24, .inr (8, [.ref qw_26, .ref qs_27, .ref qt_28])), (qw_26, .inl (cw_29, 64, .inl (fun _ => 0))), (qs_27, .inl (cs_30, 8, .inl (fun _ => 0))), (qt_28, .inl (ct_31, 8, .inl (fun _ => 0))), (q_32, .inr (4, [.ref qx_34, .ref q1_35, .ref q2_36, .ref q3_37, .int 0, .int 0])), (qx_34, .inr (0, [.ref qr_38, .int 0, .int 0])), (qr_38, .inl (cr_39, 3000, .inl (fun _ => 0)))] := hD
  refine va_put (D := (dC, dI)) (ci := 11) (v := .ref q_32) (ty := .object "PostGate$Message") (C := RX11) (T := TX11) (N := 9) hx hb hts it_11 tyX11 tyX11_ok nmX11 hown hK hP hD hS 0 rfl rfl 7 (by decide) (hts _ kt_169) (fun _ h9 => h9) rfl (by decide +kernel) rfl rfl (Nat.le_of_ble_eq_true rfl) dX11_init_107 (fun H locs hP hD hS => ?_)
  have hP : va_P (dC, dI) vwCl [(h0, .inr (11, [.ref q_1, .ref q_5, .ref q_9, .ref q_12, .ref q_20, .ref q_22, .ref q_24, .ref q_32, .null])), (q_1, .inr (0, [.ref q_3, .int 0, .int 0])), (q_3, .inl (cA_4, 3000, .inl (fun _ => 0))), (q_5, .inr (0, [.ref q_7, .int 0, .int 0])), (q_7, .inl (cA_8, 3000, .inl (fun _ => 0))), (q_9, .inr (2, [.ref q_11, .int 0])), (q_12, .inr (1, [.ref q_9, .ref q1_14, .ref q2_15, .ref q3_16, .ref q4_17, .ref q5_18, .ref q6_19, .int 0, .int 0, .int 0, .int 0])), (q_24, .inr (8, [.ref qw_26, .ref qs_27, .ref qt_28])), (qw_26, .inl (cw_29, 64, .inl (fun _ => 0))), (qs_27, .inl (cs_30, 8, .inl (fun _ => 0))), (qt_28, .inl (ct_31, 8, .inl (fun _ => 0))), (q_32, .inr (4, [.ref qx_34, .ref q1_35, .ref q2_36, .ref q3_37, .int 0, .int 0])), (qx_34, .inr (0, [.ref qr_38, .int 0, .int 0])), (qr_38, .inl (cr_39, 3000, .inl (fun _ => 0)))] H := hP
  have hD : va_D A [(h0, .inr (11, [.ref q_1, .ref q_5, .ref q_9, .ref q_12, .ref q_20, .ref q_22, .ref q_24, .ref q_32, .null])), (q_1, .inr (0, [.ref q_3, .int 0, .int 0])), (q_3, .inl (cA_4, 3000, .inl (fun _ => 0))), (q_5, .inr (0, [.ref q_7, .int 0, .int 0])), (q_7, .inl (cA_8, 3000, .inl (fun _ => 0))), (q_9, .inr (2, [.ref q_11, .int 0])), (q_12, .inr (1, [.ref q_9, .ref q1_14, .ref q2_15, .ref q3_16, .ref q4_17, .ref q5_18, .ref q6_19, .int 0, .int 0, .int 0, .int 0])), (q_24, .inr (8, [.ref qw_26, .ref qs_27, .ref qt_28])), (qw_26, .inl (cw_29, 64, .inl (fun _ => 0))), (qs_27, .inl (cs_30, 8, .inl (fun _ => 0))), (qt_28, .inl (ct_31, 8, .inl (fun _ => 0))), (q_32, .inr (4, [.ref qx_34, .ref q1_35, .ref q2_36, .ref q3_37, .int 0, .int 0])), (qx_34, .inr (0, [.ref qr_38, .int 0, .int 0])), (qr_38, .inl (cr_39, 3000, .inl (fun _ => 0)))] := hD
  refine lv_aload_n hx hb dX11_init_110 rfl (lv_at hl 0 rfl) ?_
  refine va_new (ci := 4) (fs := [.null, .null, .null, .null, .int 0, .int 0]) (C := RX4) (T := TX4) (N := 6) hx hb hts it_4 tyX4 tyX4_ok hown (hts _ kt_164) (hts _ kt_165) (hts _ kt_166) hK hP hD hS hA rfl df_4 (by show _ + 1 ≤ 320; omega) (by show _ + 6 ≤ 55808; omega) dX11_init_111 (fun q_40 H hP hD hS => ?_)
  have hP : va_P (dC, dI) vwCl [(h0, .inr (11, [.ref q_1, .ref q_5, .ref q_9, .ref q_12, .ref q_20, .ref q_22, .ref q_24, .ref q_32, .null])), (q_1, .inr (0, [.ref q_3, .int 0, .int 0])), (q_3, .inl (cA_4, 3000, .inl (fun _ => 0))), (q_5, .inr (0, [.ref q_7, .int 0, .int 0])), (q_7, .inl (cA_8, 3000, .inl (fun _ => 0))), (q_9, .inr (2, [.ref q_11, .int 0])), (q_12, .inr (1, [.ref q_9, .ref q1_14, .ref q2_15, .ref q3_16, .ref q4_17, .ref q5_18, .ref q6_19, .int 0, .int 0, .int 0, .int 0])), (q_24, .inr (8, [.ref qw_26, .ref qs_27, .ref qt_28])), (qw_26, .inl (cw_29, 64, .inl (fun _ => 0))), (qs_27, .inl (cs_30, 8, .inl (fun _ => 0))), (qt_28, .inl (ct_31, 8, .inl (fun _ => 0))), (q_32, .inr (4, [.ref qx_34, .ref q1_35, .ref q2_36, .ref q3_37, .int 0, .int 0])), (qx_34, .inr (0, [.ref qr_38, .int 0, .int 0])), (qr_38, .inl (cr_39, 3000, .inl (fun _ => 0))), (q_40, .inr (4, [.null, .null, .null, .null, .int 0, .int 0]))] H := hP
  have hD : va_D A [(h0, .inr (11, [.ref q_1, .ref q_5, .ref q_9, .ref q_12, .ref q_20, .ref q_22, .ref q_24, .ref q_32, .null])), (q_1, .inr (0, [.ref q_3, .int 0, .int 0])), (q_3, .inl (cA_4, 3000, .inl (fun _ => 0))), (q_5, .inr (0, [.ref q_7, .int 0, .int 0])), (q_7, .inl (cA_8, 3000, .inl (fun _ => 0))), (q_9, .inr (2, [.ref q_11, .int 0])), (q_12, .inr (1, [.ref q_9, .ref q1_14, .ref q2_15, .ref q3_16, .ref q4_17, .ref q5_18, .ref q6_19, .int 0, .int 0, .int 0, .int 0])), (q_24, .inr (8, [.ref qw_26, .ref qs_27, .ref qt_28])), (qw_26, .inl (cw_29, 64, .inl (fun _ => 0))), (qs_27, .inl (cs_30, 8, .inl (fun _ => 0))), (qt_28, .inl (ct_31, 8, .inl (fun _ => 0))), (q_32, .inr (4, [.ref qx_34, .ref q1_35, .ref q2_36, .ref q3_37, .int 0, .int 0])), (qx_34, .inr (0, [.ref qr_38, .int 0, .int 0])), (qr_38, .inl (cr_39, 3000, .inl (fun _ => 0))), (q_40, .inr (4, [.null, .null, .null, .null, .int 0, .int 0]))] := hD
  refine lv_dup hx hb dX11_init_114 rfl ?_
  have hPc := hP.sub (ws' := [(q_40, .inr (4, [.null, .null, .null, .null, .int 0, .int 0]))]) [14] rfl
  have hDc := hD.sub (ws' := [(q_40, .inr (4, [.null, .null, .null, .null, .int 0, .int 0]))]) [14] (by decide) rfl
  have hKc := hK.sub (tys' := []) [] rfl
  have hFc := va_free (wc := [(q_40, .inr (4, [.null, .null, .null, .null, .int 0, .int 0]))]) hD hS hA [14] rfl
  refine va_callv (va_runIN (As := []) (rest := [.ref q_40, .ref h0]) ⟨hx, hb, hml, hown, hts⟩ (c_X4_init l dC dI H.size q_40 ) ⟨va_cnB 0 hts (gi kt_167) rfl rfl rfl (hE.nestw kn_5) (hts _ kt_166) (by decide +kernel) ⟨Nat.le_of_ble_eq_true rfl, Nat.le_of_ble_eq_true rfl⟩, rfl, (hts _ kt_168)⟩ ⟨fun a U g mk q => ⟨q.1, PW.calling q.2⟩, fun U hU hW => ⟨rfl, PW.mk hU hW hPc hKc hDc hE⟩⟩ rfl rfl hl.1 rfl (lv_room (Nat.le_of_ble_eq_true rfl)) dX11_init_115 ⟨by show _ + 5 ≤ 320; omega, by show _ + 3063 ≤ 55808; omega⟩) hS (fun q _ h => hFc q h) hFc (fun u t H1 locs ht hvm hw hB hz1 hk1 hS => ?_)
  obtain ⟨qx_42, q1_43, q2_44, q3_45, qr_46, cr_47, hB1⟩ := hB
  obtain ⟨hP, hD, hK⟩ := QW.join (wr := [(h0, .inr (11, [.ref q_1, .ref q_5, .ref q_9, .ref q_12, .ref q_20, .ref q_22, .ref q_24, .ref q_32, .null])), (q_1, .inr (0, [.ref q_3, .int 0, .int 0])), (q_3, .inl (cA_4, 3000, .inl (fun _ => 0))), (q_5, .inr (0, [.ref q_7, .int 0, .int 0])), (q_7, .inl (cA_8, 3000, .inl (fun _ => 0))), (q_9, .inr (2, [.ref q_11, .int 0])), (q_12, .inr (1, [.ref q_9, .ref q1_14, .ref q2_15, .ref q3_16, .ref q4_17, .ref q5_18, .ref q6_19, .int 0, .int 0, .int 0, .int 0])), (q_24, .inr (8, [.ref qw_26, .ref qs_27, .ref qt_28])), (qw_26, .inl (cw_29, 64, .inl (fun _ => 0))), (qs_27, .inl (cs_30, 8, .inl (fun _ => 0))), (qt_28, .inl (ct_31, 8, .inl (fun _ => 0))), (q_32, .inr (4, [.ref qx_34, .ref q1_35, .ref q2_36, .ref q3_37, .int 0, .int 0])), (qx_34, .inr (0, [.ref qr_38, .int 0, .int 0])), (qr_38, .inl (cr_39, 3000, .inl (fun _ => 0)))]) hP hD hK [14] [0, 1, 2, 3, 4, 5, 6, 7, 8, 9, 10, 11, 12, 13] rfl rfl (by decide) (by decide) hk1 hFc ht hvm hB1
  generalize H1 = H at hP hS ⊢
  have hK : va_K (dC, dI) vwCl [(cA_4, .int), (cA_8, .int), (cw_29, .int), (cs_30, .int), (ct_31, .int), (cr_39, .int), (cr_47, .int)] s := hK.sub [0, 1, 2, 3, 4, 5, 6] rfl
  have hP : va_P (dC, dI) vwCl [(h0, .inr (11, [.ref q_1, .ref q_5, .ref q_9, .ref q_12, .ref q_20, .ref q_22, .ref q_24, .ref q_32, .null])), (q_1, .inr (0, [.ref q_3, .int 0, .int 0])), (q_3, .inl (cA_4, 3000, .inl (fun _ => 0))), (q_5, .inr (0, [.ref q_7, .int 0, .int 0])), (q_7, .inl (cA_8, 3000, .inl (fun _ => 0))), (q_9, .inr (2, [.ref q_11, .int 0])), (q_12, .inr (1, [.ref q_9, .ref q1_14, .ref q2_15, .ref q3_16, .ref q4_17, .ref q5_18, .ref q6_19, .int 0, .int 0, .int 0, .int 0])), (q_24, .inr (8, [.ref qw_26, .ref qs_27, .ref qt_28])), (qw_26, .inl (cw_29, 64, .inl (fun _ => 0))), (qs_27, .inl (cs_30, 8, .inl (fun _ => 0))), (qt_28, .inl (ct_31, 8, .inl (fun _ => 0))), (q_32, .inr (4, [.ref qx_34, .ref q1_35, .ref q2_36, .ref q3_37, .int 0, .int 0])), (qx_34, .inr (0, [.ref qr_38, .int 0, .int 0])), (qr_38, .inl (cr_39, 3000, .inl (fun _ => 0))), (q_40, .inr (4, [.ref qx_42, .ref q1_43, .ref q2_44, .ref q3_45, .int 0, .int 0])), (qx_42, .inr (0, [.ref qr_46, .int 0, .int 0])), (qr_46, .inl (cr_47, 3000, .inl (fun _ => 0)))] H := hP
  have hD : va_D A [(h0, .inr (11, [.ref q_1, .ref q_5, .ref q_9, .ref q_12, .ref q_20, .ref q_22, .ref q_24, .ref q_32, .null])), (q_1, .inr (0, [.ref q_3, .int 0, .int 0])), (q_3, .inl (cA_4, 3000, .inl (fun _ => 0))), (q_5, .inr (0, [.ref q_7, .int 0, .int 0])), (q_7, .inl (cA_8, 3000, .inl (fun _ => 0))), (q_9, .inr (2, [.ref q_11, .int 0])), (q_12, .inr (1, [.ref q_9, .ref q1_14, .ref q2_15, .ref q3_16, .ref q4_17, .ref q5_18, .ref q6_19, .int 0, .int 0, .int 0, .int 0])), (q_24, .inr (8, [.ref qw_26, .ref qs_27, .ref qt_28])), (qw_26, .inl (cw_29, 64, .inl (fun _ => 0))), (qs_27, .inl (cs_30, 8, .inl (fun _ => 0))), (qt_28, .inl (ct_31, 8, .inl (fun _ => 0))), (q_32, .inr (4, [.ref qx_34, .ref q1_35, .ref q2_36, .ref q3_37, .int 0, .int 0])), (qx_34, .inr (0, [.ref qr_38, .int 0, .int 0])), (qr_38, .inl (cr_39, 3000, .inl (fun _ => 0))), (q_40, .inr (4, [.ref qx_42, .ref q1_43, .ref q2_44, .ref q3_45, .int 0, .int 0])), (qx_42, .inr (0, [.ref qr_46, .int 0, .int 0])), (qr_46, .inl (cr_47, 3000, .inl (fun _ => 0)))] := hD
  refine va_put (D := (dC, dI)) (ci := 11) (v := .ref q_40) (ty := .object "PostGate$Message") (C := RX11) (T := TX11) (N := 9) hx hb hts it_11 tyX11 tyX11_ok nmX11 hown hK hP hD hS 0 rfl rfl 8 (by decide) (hts _ kt_170) (fun _ h9 => h9) rfl (by decide +kernel) rfl rfl (Nat.le_of_ble_eq_true rfl) dX11_init_118 (fun H locs hP hD hS => ?_)
  have hP : va_P (dC, dI) vwCl [(h0, .inr (11, [.ref q_1, .ref q_5, .ref q_9, .ref q_12, .ref q_20, .ref q_22, .ref q_24, .ref q_32, .ref q_40])), (q_1, .inr (0, [.ref q_3, .int 0, .int 0])), (q_3, .inl (cA_4, 3000, .inl (fun _ => 0))), (q_5, .inr (0, [.ref q_7, .int 0, .int 0])), (q_7, .inl (cA_8, 3000, .inl (fun _ => 0))), (q_9, .inr (2, [.ref q_11, .int 0])), (q_12, .inr (1, [.ref q_9, .ref q1_14, .ref q2_15, .ref q3_16, .ref q4_17, .ref q5_18, .ref q6_19, .int 0, .int 0, .int 0, .int 0])), (q_24, .inr (8, [.ref qw_26, .ref qs_27, .ref qt_28])), (qw_26, .inl (cw_29, 64, .inl (fun _ => 0))), (qs_27, .inl (cs_30, 8, .inl (fun _ => 0))), (qt_28, .inl (ct_31, 8, .inl (fun _ => 0))), (q_32, .inr (4, [.ref qx_34, .ref q1_35, .ref q2_36, .ref q3_37, .int 0, .int 0])), (qx_34, .inr (0, [.ref qr_38, .int 0, .int 0])), (qr_38, .inl (cr_39, 3000, .inl (fun _ => 0))), (q_40, .inr (4, [.ref qx_42, .ref q1_43, .ref q2_44, .ref q3_45, .int 0, .int 0])), (qx_42, .inr (0, [.ref qr_46, .int 0, .int 0])), (qr_46, .inl (cr_47, 3000, .inl (fun _ => 0)))] H := hP
  have hD : va_D A [(h0, .inr (11, [.ref q_1, .ref q_5, .ref q_9, .ref q_12, .ref q_20, .ref q_22, .ref q_24, .ref q_32, .ref q_40])), (q_1, .inr (0, [.ref q_3, .int 0, .int 0])), (q_3, .inl (cA_4, 3000, .inl (fun _ => 0))), (q_5, .inr (0, [.ref q_7, .int 0, .int 0])), (q_7, .inl (cA_8, 3000, .inl (fun _ => 0))), (q_9, .inr (2, [.ref q_11, .int 0])), (q_12, .inr (1, [.ref q_9, .ref q1_14, .ref q2_15, .ref q3_16, .ref q4_17, .ref q5_18, .ref q6_19, .int 0, .int 0, .int 0, .int 0])), (q_24, .inr (8, [.ref qw_26, .ref qs_27, .ref qt_28])), (qw_26, .inl (cw_29, 64, .inl (fun _ => 0))), (qs_27, .inl (cs_30, 8, .inl (fun _ => 0))), (qt_28, .inl (ct_31, 8, .inl (fun _ => 0))), (q_32, .inr (4, [.ref qx_34, .ref q1_35, .ref q2_36, .ref q3_37, .int 0, .int 0])), (qx_34, .inr (0, [.ref qr_38, .int 0, .int 0])), (qr_38, .inl (cr_39, 3000, .inl (fun _ => 0))), (q_40, .inr (4, [.ref qx_42, .ref q1_43, .ref q2_44, .ref q3_45, .int 0, .int 0])), (qx_42, .inr (0, [.ref qr_46, .int 0, .int 0])), (qr_46, .inl (cr_47, 3000, .inl (fun _ => 0)))] := hD
  have hP9 := hP.sub (ws' := [(h0, .inr (11, [.ref q_1, .ref q_5, .ref q_9, .ref q_12, .ref q_20, .ref q_22, .ref q_24, .ref q_32, .ref q_40])), (q_1, .inr (0, [.ref q_3, .int 0, .int 0])), (q_3, .inl (cA_4, 3000, .inl (fun _ => 0))), (q_5, .inr (0, [.ref q_7, .int 0, .int 0])), (q_7, .inl (cA_8, 3000, .inl (fun _ => 0))), (q_9, .inr (2, [.ref q_11, .int 0])), (q_12, .inr (1, [.ref q_9, .ref q1_14, .ref q2_15, .ref q3_16, .ref q4_17, .ref q5_18, .ref q6_19, .int 0, .int 0, .int 0, .int 0])), (q_24, .inr (8, [.ref qw_26, .ref qs_27, .ref qt_28])), (qw_26, .inl (cw_29, 64, .inl (fun _ => 0))), (qs_27, .inl (cs_30, 8, .inl (fun _ => 0))), (qt_28, .inl (ct_31, 8, .inl (fun _ => 0))), (q_32, .inr (4, [.ref qx_34, .ref q1_35, .ref q2_36, .ref q3_37, .int 0, .int 0])), (q_40, .inr (4, [.ref qx_42, .ref q1_43, .ref q2_44, .ref q3_45, .int 0, .int 0])), (qx_42, .inr (0, [.ref qr_46, .int 0, .int 0])), (qr_46, .inl (cr_47, 3000, .inl (fun _ => 0)))]) [0, 1, 2, 3, 4, 5, 6, 7, 8, 9, 10, 11, 14, 15, 16] rfl
  have hD9 := hD.sub (ws' := [(h0, .inr (11, [.ref q_1, .ref q_5, .ref q_9, .ref q_12, .ref q_20, .ref q_22, .ref q_24, .ref q_32, .ref q_40])), (q_1, .inr (0, [.ref q_3, .int 0, .int 0])), (q_3, .inl (cA_4, 3000, .inl (fun _ => 0))), (q_5, .inr (0, [.ref q_7, .int 0, .int 0])), (q_7, .inl (cA_8, 3000, .inl (fun _ => 0))), (q_9, .inr (2, [.ref q_11, .int 0])), (q_12, .inr (1, [.ref q_9, .ref q1_14, .ref q2_15, .ref q3_16, .ref q4_17, .ref q5_18, .ref q6_19, .int 0, .int 0, .int 0, .int 0])), (q_24, .inr (8, [.ref qw_26, .ref qs_27, .ref qt_28])), (qw_26, .inl (cw_29, 64, .inl (fun _ => 0))), (qs_27, .inl (cs_30, 8, .inl (fun _ => 0))), (qt_28, .inl (ct_31, 8, .inl (fun _ => 0))), (q_32, .inr (4, [.ref qx_34, .ref q1_35, .ref q2_36, .ref q3_37, .int 0, .int 0])), (q_40, .inr (4, [.ref qx_42, .ref q1_43, .ref q2_44, .ref q3_45, .int 0, .int 0])), (qx_42, .inr (0, [.ref qr_46, .int 0, .int 0])), (qr_46, .inl (cr_47, 3000, .inl (fun _ => 0)))]) [0, 1, 2, 3, 4, 5, 6, 7, 8, 9, 10, 11, 14, 15, 16] (by decide) rfl
  have hK9 := hK.sub (tys' := [(cA_4, .int), (cA_8, .int), (cw_29, .int), (cs_30, .int), (ct_31, .int), (cr_47, .int)]) [0, 1, 2, 3, 4, 6] rfl
  refine W.widen (k := 320) (n := 55808) (by omega) (by omega) ?_
  exact W.vret hx hb hr (fun t ht hW => ⟨⟨(), rfl, trivial, ⟨q_1, q_5, q_9, q_12, q_20, q_22, q_24, q_32, q_40, q_3, q_7, q_11, q1_14, q2_15, q3_16, q4_17, q5_18, q6_19, qw_26, qs_27, qt_28, qx_34, q1_35, q2_36, q3_37, qx_42, q1_43, q2_44, q3_45, qr_46, cA_4, cA_8, cw_29, cs_30, ct_31, cr_47, QW.mk ht hW hP9 hK9 hD9⟩⟩, hS.F ht⟩) hS.2.2 dX11_init_121
