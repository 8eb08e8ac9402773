theorem dX4_addBody_0 : decode cX4_addBody 0 = .ok (.iload_n 2, 1) := by decide +kernel
theorem dX4_addBody_1 : decode cX4_addBody 1 = .ok (.ifCond .eq 11, 3) := by decide +kernel
theorem dX4_addBody_4 : decode cX4_addBody 4 = .ok (.aload_n 0, 1) := by decide +kernel
theorem dX4_addBody_5 : decode cX4_addBody 5 = .ok (.aload_n 1, 1) := by decide +kernel
theorem dX4_addBody_6 : decode cX4_addBody 6 = .ok (.invokevirtual 95, 3) := by decide +kernel
theorem dX4_addBody_9 : decode cX4_addBody 9 = .ok (.goto 22, 3) := by decide +kernel
theorem dX4_addBody_12 : decode cX4_addBody 12 = .ok (.aload_n 1, 1) := by decide +kernel
theorem dX4_addBody_13 : decode cX4_addBody 13 = .ok (.aload_n 0, 1) := by decide +kernel
theorem dX4_addBody_14 : decode cX4_addBody 14 = .ok (.getfield 14, 3) := by decide +kernel
theorem dX4_addBody_17 : decode cX4_addBody 17 = .ok (.aload_n 0, 1) := by decide +kernel
theorem dX4_addBody_18 : decode cX4_addBody 18 = .ok (.getfield 34, 3) := by decide +kernel
theorem dX4_addBody_21 : decode cX4_addBody 21 = .ok (.aload_n 0, 1) := by decide +kernel
theorem dX4_addBody_22 : decode cX4_addBody 22 = .ok (.getfield 14, 3) := by decide +kernel
theorem dX4_addBody_25 : decode cX4_addBody 25 = .ok (.getfield 41, 3) := by decide +kernel
theorem dX4_addBody_28 : decode cX4_addBody 28 = .ok (.invokevirtual 91, 3) := by decide +kernel
theorem dX4_addBody_31 : decode cX4_addBody 31 = .ok (.aload_n 1, 1) := by decide +kernel
theorem dX4_addBody_32 : decode cX4_addBody 32 = .ok (.getfield 41, 3) := by decide +kernel
theorem dX4_addBody_35 : decode cX4_addBody 35 = .ok (.ifCond .le 24, 3) := by decide +kernel
theorem dX4_addBody_38 : decode cX4_addBody 38 = .ok (.aload_n 1, 1) := by decide +kernel
theorem dX4_addBody_39 : decode cX4_addBody 39 = .ok (.aload_n 1, 1) := by decide +kernel
theorem dX4_addBody_40 : decode cX4_addBody 40 = .ok (.getfield 41, 3) := by decide +kernel
theorem dX4_addBody_43 : decode cX4_addBody 43 = .ok (.iconst 1, 1) := by decide +kernel
theorem dX4_addBody_44 : decode cX4_addBody 44 = .ok (.isub, 1) := by decide +kernel
theorem dX4_addBody_45 : decode cX4_addBody 45 = .ok (.invokevirtual 44, 3) := by decide +kernel
theorem dX4_addBody_48 : decode cX4_addBody 48 = .ok (.bipush 10, 2) := by decide +kernel
theorem dX4_addBody_50 : decode cX4_addBody 50 = .ok (.if_icmp .eq 9, 3) := by decide +kernel
theorem dX4_addBody_53 : decode cX4_addBody 53 = .ok (.aload_n 1, 1) := by decide +kernel
theorem dX4_addBody_54 : decode cX4_addBody 54 = .ok (.bipush 10, 2) := by decide +kernel
theorem dX4_addBody_56 : decode cX4_addBody 56 = .ok (.invokevirtual 84, 3) := by decide +kernel
theorem dX4_addBody_59 : decode cX4_addBody 59 = .ok (.aload_n 1, 1) := by decide +kernel
theorem dX4_addBody_60 : decode cX4_addBody 60 = .ok (.getfield 41, 3) := by decide +kernel
theorem dX4_addBody_63 : decode cX4_addBody 63 = .ok (.istore_n 3, 1) := by decide +kernel
theorem dX4_addBody_64 : decode cX4_addBody 64 = .ok (.iload_n 3, 1) := by decide +kernel
theorem dX4_addBody_65 : decode cX4_addBody 65 = .ok (.ifCond .le 38, 3) := by decide +kernel
theorem dX4_addBody_68 : decode cX4_addBody 68 = .ok (.aload_n 1, 1) := by decide +kernel
theorem dX4_addBody_69 : decode cX4_addBody 69 = .ok (.iload_n 3, 1) := by decide +kernel
theorem dX4_addBody_70 : decode cX4_addBody 70 = .ok (.iconst 1, 1) := by decide +kernel
theorem dX4_addBody_71 : decode cX4_addBody 71 = .ok (.isub, 1) := by decide +kernel
theorem dX4_addBody_72 : decode cX4_addBody 72 = .ok (.invokevirtual 44, 3) := by decide +kernel
theorem dX4_addBody_75 : decode cX4_addBody 75 = .ok (.bipush 10, 2) := by decide +kernel
theorem dX4_addBody_77 : decode cX4_addBody 77 = .ok (.if_icmp .ne 26, 3) := by decide +kernel
theorem dX4_addBody_80 : decode cX4_addBody 80 = .ok (.iload_n 3, 1) := by decide +kernel
theorem dX4_addBody_81 : decode cX4_addBody 81 = .ok (.iconst 1, 1) := by decide +kernel
theorem dX4_addBody_82 : decode cX4_addBody 82 = .ok (.if_icmp .eq 15, 3) := by decide +kernel
theorem dX4_addBody_85 : decode cX4_addBody 85 = .ok (.aload_n 1, 1) := by decide +kernel
theorem dX4_addBody_86 : decode cX4_addBody 86 = .ok (.iload_n 3, 1) := by decide +kernel
theorem dX4_addBody_87 : decode cX4_addBody 87 = .ok (.iconst 2, 1) := by decide +kernel
theorem dX4_addBody_88 : decode cX4_addBody 88 = .ok (.isub, 1) := by decide +kernel
theorem dX4_addBody_89 : decode cX4_addBody 89 = .ok (.invokevirtual 44, 3) := by decide +kernel
theorem dX4_addBody_92 : decode cX4_addBody 92 = .ok (.bipush 10, 2) := by decide +kernel
theorem dX4_addBody_94 : decode cX4_addBody 94 = .ok (.if_icmp .ne 9, 3) := by decide +kernel
theorem dX4_addBody_97 : decode cX4_addBody 97 = .ok (.iinc 3 (-1), 3) := by decide +kernel
theorem dX4_addBody_100 : decode cX4_addBody 100 = .ok (.goto (-36), 3) := by decide +kernel
theorem dX4_addBody_103 : decode cX4_addBody 103 = .ok (.aload_n 1, 1) := by decide +kernel
theorem dX4_addBody_104 : decode cX4_addBody 104 = .ok (.iload_n 3, 1) := by decide +kernel
theorem dX4_addBody_105 : decode cX4_addBody 105 = .ok (.invokevirtual 98, 3) := by decide +kernel
theorem dX4_addBody_108 : decode cX4_addBody 108 = .ok (.iload_n 3, 1) := by decide +kernel
theorem dX4_addBody_109 : decode cX4_addBody 109 = .ok (.ifCond .ne 13, 3) := by decide +kernel
theorem dX4_addBody_112 : decode cX4_addBody 112 = .ok (.iload_n 2, 1) := by decide +kernel
theorem dX4_addBody_113 : decode cX4_addBody 113 = .ok (.ifCond .ne 9, 3) := by decide +kernel
theorem dX4_addBody_116 : decode cX4_addBody 116 = .ok (.aload_n 1, 1) := by decide +kernel
theorem dX4_addBody_117 : decode cX4_addBody 117 = .ok (.bipush 10, 2) := by decide +kernel
theorem dX4_addBody_119 : decode cX4_addBody 119 = .ok (.invokevirtual 84, 3) := by decide +kernel
theorem dX4_addBody_122 : decode cX4_addBody 122 = .ok (.return_, 1) := by decide +kernel
theorem dX4_addFieldWithout_0 : decode cX4_addFieldWithout 0 = .ok (.iload_n 2, 1) := by decide +kernel
theorem dX4_addFieldWithout_1 : decode cX4_addFieldWithout 1 = .ok (.ifCond .lt 11, 3) := by decide +kernel
theorem dX4_addFieldWithout_4 : decode cX4_addFieldWithout 4 = .ok (.iload_n 2, 1) := by decide +kernel
theorem dX4_addFieldWithout_5 : decode cX4_addFieldWithout 5 = .ok (.aload_n 0, 1) := by decide +kernel
theorem dX4_addFieldWithout_6 : decode cX4_addFieldWithout 6 = .ok (.getfield 30, 3) := by decide +kernel
theorem dX4_addFieldWithout_9 : decode cX4_addFieldWithout 9 = .ok (.if_icmp .lt 4, 3) := by decide +kernel
theorem dX4_addFieldWithout_12 : decode cX4_addFieldWithout 12 = .ok (.return_, 1) := by decide +kernel
theorem dX4_addFieldWithout_13 : decode cX4_addFieldWithout 13 = .ok (.iload_n 3, 1) := by decide +kernel
theorem dX4_addFieldWithout_14 : decode cX4_addFieldWithout 14 = .ok (.ifCond .eq 63, 3) := by decide +kernel
theorem dX4_addFieldWithout_17 : decode cX4_addFieldWithout 17 = .ok (.aload_n 0, 1) := by decide +kernel
theorem dX4_addFieldWithout_18 : decode cX4_addFieldWithout 18 = .ok (.getfield 20, 3) := by decide +kernel
theorem dX4_addFieldWithout_21 : decode cX4_addFieldWithout 21 = .ok (.iload_n 2, 1) := by decide +kernel
theorem dX4_addFieldWithout_22 : decode cX4_addFieldWithout 22 = .ok (.iaload, 1) := by decide +kernel
theorem dX4_addFieldWithout_23 : decode cX4_addFieldWithout 23 = .ok (.istore 6, 2) := by decide +kernel
theorem dX4_addFieldWithout_25 : decode cX4_addFieldWithout 25 = .ok (.iload 6, 2) := by decide +kernel
theorem dX4_addFieldWithout_27 : decode cX4_addFieldWithout 27 = .ok (.aload_n 0, 1) := by decide +kernel
theorem dX4_addFieldWithout_28 : decode cX4_addFieldWithout 28 = .ok (.getfield 24, 3) := by decide +kernel
theorem dX4_addFieldWithout_31 : decode cX4_addFieldWithout 31 = .ok (.iload_n 2, 1) := by decide +kernel
theorem dX4_addFieldWithout_32 : decode cX4_addFieldWithout 32 = .ok (.iaload, 1) := by decide +kernel
theorem dX4_addFieldWithout_33 : decode cX4_addFieldWithout 33 = .ok (.if_icmp .ge 25, 3) := by decide +kernel
theorem dX4_addFieldWithout_36 : decode cX4_addFieldWithout 36 = .ok (.aload_n 1, 1) := by decide +kernel
theorem dX4_addFieldWithout_37 : decode cX4_addFieldWithout 37 = .ok (.aload_n 0, 1) := by decide +kernel
theorem dX4_addFieldWithout_38 : decode cX4_addFieldWithout 38 = .ok (.getfield 14, 3) := by decide +kernel
theorem dX4_addFieldWithout_41 : decode cX4_addFieldWithout 41 = .ok (.iload 6, 2) := by decide +kernel
theorem dX4_addFieldWithout_43 : decode cX4_addFieldWithout 43 = .ok (.invokevirtual 44, 3) := by decide +kernel
theorem dX4_addFieldWithout_46 : decode cX4_addFieldWithout 46 = .ok (.invokestatic 73, 3) := by decide +kernel
theorem dX4_addFieldWithout_49 : decode cX4_addFieldWithout 49 = .ok (.invokevirtual 84, 3) := by decide +kernel
theorem dX4_addFieldWithout_52 : decode cX4_addFieldWithout 52 = .ok (.iinc 6 1, 3) := by decide +kernel
theorem dX4_addFieldWithout_55 : decode cX4_addFieldWithout 55 = .ok (.goto (-30), 3) := by decide +kernel
theorem dX4_addFieldWithout_58 : decode cX4_addFieldWithout 58 = .ok (.aload_n 1, 1) := by decide +kernel
theorem dX4_addFieldWithout_59 : decode cX4_addFieldWithout 59 = .ok (.bipush 58, 2) := by decide +kernel
theorem dX4_addFieldWithout_61 : decode cX4_addFieldWithout 61 = .ok (.invokevirtual 84, 3) := by decide +kernel
theorem dX4_addFieldWithout_64 : decode cX4_addFieldWithout 64 = .ok (.aload_n 0, 1) := by decide +kernel
theorem dX4_addFieldWithout_65 : decode cX4_addFieldWithout 65 = .ok (.aload_n 1, 1) := by decide +kernel
theorem dX4_addFieldWithout_66 : decode cX4_addFieldWithout 66 = .ok (.iload_n 2, 1) := by decide +kernel
theorem dX4_addFieldWithout_67 : decode cX4_addFieldWithout 67 = .ok (.iload 4, 2) := by decide +kernel
theorem dX4_addFieldWithout_69 : decode cX4_addFieldWithout 69 = .ok (.iload 5, 2) := by decide +kernel
theorem dX4_addFieldWithout_71 : decode cX4_addFieldWithout 71 = .ok (.invokevirtual 87, 3) := by decide +kernel
theorem dX4_addFieldWithout_74 : decode cX4_addFieldWithout 74 = .ok (.goto 65, 3) := by decide +kernel
theorem dX4_addFieldWithout_77 : decode cX4_addFieldWithout 77 = .ok (.iload 4, 2) := by decide +kernel
theorem dX4_addFieldWithout_79 : decode cX4_addFieldWithout 79 = .ok (.iload 5, 2) := by decide +kernel
theorem dX4_addFieldWithout_81 : decode cX4_addFieldWithout 81 = .ok (.if_icmp .ne 26, 3) := by decide +kernel
theorem dX4_addFieldWithout_84 : decode cX4_addFieldWithout 84 = .ok (.aload_n 1, 1) := by decide +kernel
theorem dX4_addFieldWithout_85 : decode cX4_addFieldWithout 85 = .ok (.aload_n 0, 1) := by decide +kernel
theorem dX4_addFieldWithout_86 : decode cX4_addFieldWithout 86 = .ok (.getfield 14, 3) := by decide +kernel
theorem dX4_addFieldWithout_89 : decode cX4_addFieldWithout 89 = .ok (.aload_n 0, 1) := by decide +kernel
theorem dX4_addFieldWithout_90 : decode cX4_addFieldWithout 90 = .ok (.getfield 20, 3) := by decide +kernel
theorem dX4_addFieldWithout_93 : decode cX4_addFieldWithout 93 = .ok (.iload_n 2, 1) := by decide +kernel
theorem dX4_addFieldWithout_94 : decode cX4_addFieldWithout 94 = .ok (.iaload, 1) := by decide +kernel
theorem dX4_addFieldWithout_95 : decode cX4_addFieldWithout 95 = .ok (.aload_n 0, 1) := by decide +kernel
theorem dX4_addFieldWithout_96 : decode cX4_addFieldWithout 96 = .ok (.getfield 27, 3) := by decide +kernel
theorem dX4_addFieldWithout_99 : decode cX4_addFieldWithout 99 = .ok (.iload_n 2, 1) := by decide +kernel
theorem dX4_addFieldWithout_100 : decode cX4_addFieldWithout 100 = .ok (.iaload, 1) := by decide +kernel
theorem dX4_addFieldWithout_101 : decode cX4_addFieldWithout 101 = .ok (.invokevirtual 91, 3) := by decide +kernel
theorem dX4_addFieldWithout_104 : decode cX4_addFieldWithout 104 = .ok (.goto 35, 3) := by decide +kernel
theorem dX4_addFieldWithout_107 : decode cX4_addFieldWithout 107 = .ok (.aload_n 1, 1) := by decide +kernel
theorem dX4_addFieldWithout_108 : decode cX4_addFieldWithout 108 = .ok (.aload_n 0, 1) := by decide +kernel
theorem dX4_addFieldWithout_109 : decode cX4_addFieldWithout 109 = .ok (.getfield 14, 3) := by decide +kernel
theorem dX4_addFieldWithout_112 : decode cX4_addFieldWithout 112 = .ok (.aload_n 0, 1) := by decide +kernel
theorem dX4_addFieldWithout_113 : decode cX4_addFieldWithout 113 = .ok (.getfield 20, 3) := by decide +kernel
theorem dX4_addFieldWithout_116 : decode cX4_addFieldWithout 116 = .ok (.iload_n 2, 1) := by decide +kernel
theorem dX4_addFieldWithout_117 : decode cX4_addFieldWithout 117 = .ok (.iaload, 1) := by decide +kernel
theorem dX4_addFieldWithout_118 : decode cX4_addFieldWithout 118 = .ok (.iload 4, 2) := by decide +kernel
theorem dX4_addFieldWithout_120 : decode cX4_addFieldWithout 120 = .ok (.invokevirtual 91, 3) := by decide +kernel
theorem dX4_addFieldWithout_123 : decode cX4_addFieldWithout 123 = .ok (.aload_n 1, 1) := by decide +kernel
theorem dX4_addFieldWithout_124 : decode cX4_addFieldWithout 124 = .ok (.aload_n 0, 1) := by decide +kernel
theorem dX4_addFieldWithout_125 : decode cX4_addFieldWithout 125 = .ok (.getfield 14, 3) := by decide +kernel
theorem dX4_addFieldWithout_128 : decode cX4_addFieldWithout 128 = .ok (.iload 5, 2) := by decide +kernel
theorem dX4_addFieldWithout_130 : decode cX4_addFieldWithout 130 = .ok (.aload_n 0, 1) := by decide +kernel
theorem dX4_addFieldWithout_131 : decode cX4_addFieldWithout 131 = .ok (.getfield 27, 3) := by decide +kernel
theorem dX4_addFieldWithout_134 : decode cX4_addFieldWithout 134 = .ok (.iload_n 2, 1) := by decide +kernel
theorem dX4_addFieldWithout_135 : decode cX4_addFieldWithout 135 = .ok (.iaload, 1) := by decide +kernel
theorem dX4_addFieldWithout_136 : decode cX4_addFieldWithout 136 = .ok (.invokevirtual 91, 3) := by decide +kernel
theorem dX4_addFieldWithout_139 : decode cX4_addFieldWithout 139 = .ok (.return_, 1) := by decide +kernel
theorem dX4_addRelaxedLines_0 : decode cX4_addRelaxedLines 0 = .ok (.iconst 0, 1) := by decide +kernel
theorem dX4_addRelaxedLines_1 : decode cX4_addRelaxedLines 1 = .ok (.istore_n 2, 1) := by decide +kernel
theorem dX4_addRelaxedLines_2 : decode cX4_addRelaxedLines 2 = .ok (.aload_n 0, 1) := by decide +kernel
theorem dX4_addRelaxedLines_3 : decode cX4_addRelaxedLines 3 = .ok (.getfield 34, 3) := by decide +kernel
theorem dX4_addRelaxedLines_6 : decode cX4_addRelaxedLines 6 = .ok (.istore_n 3, 1) := by decide +kernel
theorem dX4_addRelaxedLines_7 : decode cX4_addRelaxedLines 7 = .ok (.iload_n 3, 1) := by decide +kernel
theorem dX4_addRelaxedLines_8 : decode cX4_addRelaxedLines 8 = .ok (.aload_n 0, 1) := by decide +kernel
theorem dX4_addRelaxedLines_9 : decode cX4_addRelaxedLines 9 = .ok (.getfield 14, 3) := by decide +kernel
theorem dX4_addRelaxedLines_12 : decode cX4_addRelaxedLines 12 = .ok (.getfield 41, 3) := by decide +kernel
theorem dX4_addRelaxedLines_15 : decode cX4_addRelaxedLines 15 = .ok (.if_icmp .ge 57, 3) := by decide +kernel
theorem dX4_addRelaxedLines_18 : decode cX4_addRelaxedLines 18 = .ok (.aload_n 0, 1) := by decide +kernel
theorem dX4_addRelaxedLines_19 : decode cX4_addRelaxedLines 19 = .ok (.getfield 14, 3) := by decide +kernel
theorem dX4_addRelaxedLines_22 : decode cX4_addRelaxedLines 22 = .ok (.iload_n 3, 1) := by decide +kernel
theorem dX4_addRelaxedLines_23 : decode cX4_addRelaxedLines 23 = .ok (.invokevirtual 44, 3) := by decide +kernel
theorem dX4_addRelaxedLines_26 : decode cX4_addRelaxedLines 26 = .ok (.istore 4, 2) := by decide +kernel
theorem dX4_addRelaxedLines_28 : decode cX4_addRelaxedLines 28 = .ok (.iload 4, 2) := by decide +kernel
theorem dX4_addRelaxedLines_30 : decode cX4_addRelaxedLines 30 = .ok (.invokestatic 52, 3) := by decide +kernel
theorem dX4_addRelaxedLines_33 : decode cX4_addRelaxedLines 33 = .ok (.ifCond .eq 8, 3) := by decide +kernel
theorem dX4_addRelaxedLines_36 : decode cX4_addRelaxedLines 36 = .ok (.iconst 1, 1) := by decide +kernel
theorem dX4_addRelaxedLines_37 : decode cX4_addRelaxedLines 37 = .ok (.istore_n 2, 1) := by decide +kernel
theorem dX4_addRelaxedLines_38 : decode cX4_addRelaxedLines 38 = .ok (.goto 28, 3) := by decide +kernel
theorem dX4_addRelaxedLines_41 : decode cX4_addRelaxedLines 41 = .ok (.iload_n 2, 1) := by decide +kernel
theorem dX4_addRelaxedLines_42 : decode cX4_addRelaxedLines 42 = .ok (.ifCond .eq 16, 3) := by decide +kernel
theorem dX4_addRelaxedLines_45 : decode cX4_addRelaxedLines 45 = .ok (.iload 4, 2) := by decide +kernel
theorem dX4_addRelaxedLines_47 : decode cX4_addRelaxedLines 47 = .ok (.bipush 10, 2) := by decide +kernel
theorem dX4_addRelaxedLines_49 : decode cX4_addRelaxedLines 49 = .ok (.if_icmp .eq 9, 3) := by decide +kernel
theorem dX4_addRelaxedLines_52 : decode cX4_addRelaxedLines 52 = .ok (.aload_n 1, 1) := by decide +kernel
theorem dX4_addRelaxedLines_53 : decode cX4_addRelaxedLines 53 = .ok (.bipush 32, 2) := by decide +kernel
theorem dX4_addRelaxedLines_55 : decode cX4_addRelaxedLines 55 = .ok (.invokevirtual 84, 3) := by decide +kernel
theorem dX4_addRelaxedLines_58 : decode cX4_addRelaxedLines 58 = .ok (.aload_n 1, 1) := by decide +kernel
theorem dX4_addRelaxedLines_59 : decode cX4_addRelaxedLines 59 = .ok (.iload 4, 2) := by decide +kernel
theorem dX4_addRelaxedLines_61 : decode cX4_addRelaxedLines 61 = .ok (.invokevirtual 84, 3) := by decide +kernel
theorem dX4_addRelaxedLines_64 : decode cX4_addRelaxedLines 64 = .ok (.iconst 0, 1) := by decide +kernel
theorem dX4_addRelaxedLines_65 : decode cX4_addRelaxedLines 65 = .ok (.istore_n 2, 1) := by decide +kernel
theorem dX4_addRelaxedLines_66 : decode cX4_addRelaxedLines 66 = .ok (.iinc 3 1, 3) := by decide +kernel
theorem dX4_addRelaxedLines_69 : decode cX4_addRelaxedLines 69 = .ok (.goto (-62), 3) := by decide +kernel
theorem dX4_addRelaxedLines_72 : decode cX4_addRelaxedLines 72 = .ok (.return_, 1) := by decide +kernel
theorem dX4_addRelaxedValue_0 : decode cX4_addRelaxedValue 0 = .ok (.iconst 0, 1) := by decide +kernel
theorem dX4_addRelaxedValue_1 : decode cX4_addRelaxedValue 1 = .ok (.istore 5, 2) := by decide +kernel
theorem dX4_addRelaxedValue_3 : decode cX4_addRelaxedValue 3 = .ok (.iconst 0, 1) := by decide +kernel
theorem dX4_addRelaxedValue_4 : decode cX4_addRelaxedValue 4 = .ok (.istore 6, 2) := by decide +kernel
theorem dX4_addRelaxedValue_6 : decode cX4_addRelaxedValue 6 = .ok (.aload_n 0, 1) := by decide +kernel
theorem dX4_addRelaxedValue_7 : decode cX4_addRelaxedValue 7 = .ok (.getfield 24, 3) := by decide +kernel
theorem dX4_addRelaxedValue_10 : decode cX4_addRelaxedValue 10 = .ok (.iload_n 2, 1) := by decide +kernel
theorem dX4_addRelaxedValue_11 : decode cX4_addRelaxedValue 11 = .ok (.iaload, 1) := by decide +kernel
theorem dX4_addRelaxedValue_12 : decode cX4_addRelaxedValue 12 = .ok (.iconst 1, 1) := by decide +kernel
theorem dX4_addRelaxedValue_13 : decode cX4_addRelaxedValue 13 = .ok (.iadd, 1) := by decide +kernel
theorem dX4_addRelaxedValue_14 : decode cX4_addRelaxedValue 14 = .ok (.istore 7, 2) := by decide +kernel
theorem dX4_addRelaxedValue_16 : decode cX4_addRelaxedValue 16 = .ok (.iload 7, 2) := by decide +kernel
theorem dX4_addRelaxedValue_18 : decode cX4_addRelaxedValue 18 = .ok (.aload_n 0, 1) := by decide +kernel
theorem dX4_addRelaxedValue_19 : decode cX4_addRelaxedValue 19 = .ok (.getfield 27, 3) := by decide +kernel
theorem dX4_addRelaxedValue_22 : decode cX4_addRelaxedValue 22 = .ok (.iload_n 2, 1) := by decide +kernel
theorem dX4_addRelaxedValue_23 : decode cX4_addRelaxedValue 23 = .ok (.iaload, 1) := by decide +kernel
theorem dX4_addRelaxedValue_24 : decode cX4_addRelaxedValue 24 = .ok (.if_icmp .ge 81, 3) := by decide +kernel
theorem dX4_addRelaxedValue_27 : decode cX4_addRelaxedValue 27 = .ok (.aload_n 0, 1) := by decide +kernel
theorem dX4_addRelaxedValue_28 : decode cX4_addRelaxedValue 28 = .ok (.getfield 14, 3) := by decide +kernel
theorem dX4_addRelaxedValue_31 : decode cX4_addRelaxedValue 31 = .ok (.iload 7, 2) := by decide +kernel
theorem dX4_addRelaxedValue_33 : decode cX4_addRelaxedValue 33 = .ok (.invokevirtual 44, 3) := by decide +kernel
theorem dX4_addRelaxedValue_36 : decode cX4_addRelaxedValue 36 = .ok (.istore 8, 2) := by decide +kernel
theorem dX4_addRelaxedValue_38 : decode cX4_addRelaxedValue 38 = .ok (.iload 8, 2) := by decide +kernel
theorem dX4_addRelaxedValue_40 : decode cX4_addRelaxedValue 40 = .ok (.bipush 10, 2) := by decide +kernel
theorem dX4_addRelaxedValue_42 : decode cX4_addRelaxedValue 42 = .ok (.if_icmp .eq 57, 3) := by decide +kernel
theorem dX4_addRelaxedValue_45 : decode cX4_addRelaxedValue 45 = .ok (.iload 7, 2) := by decide +kernel
theorem dX4_addRelaxedValue_47 : decode cX4_addRelaxedValue 47 = .ok (.iload_n 3, 1) := by decide +kernel
theorem dX4_addRelaxedValue_48 : decode cX4_addRelaxedValue 48 = .ok (.if_icmp .lt 13, 3) := by decide +kernel
theorem dX4_addRelaxedValue_51 : decode cX4_addRelaxedValue 51 = .ok (.iload 7, 2) := by decide +kernel
theorem dX4_addRelaxedValue_53 : decode cX4_addRelaxedValue 53 = .ok (.iload 4, 2) := by decide +kernel
theorem dX4_addRelaxedValue_55 : decode cX4_addRelaxedValue 55 = .ok (.if_icmp .ge 6, 3) := by decide +kernel
theorem dX4_addRelaxedValue_58 : decode cX4_addRelaxedValue 58 = .ok (.goto 41, 3) := by decide +kernel
theorem dX4_addRelaxedValue_61 : decode cX4_addRelaxedValue 61 = .ok (.iload 8, 2) := by decide +kernel
theorem dX4_addRelaxedValue_63 : decode cX4_addRelaxedValue 63 = .ok (.invokestatic 52, 3) := by decide +kernel
theorem dX4_addRelaxedValue_66 : decode cX4_addRelaxedValue 66 = .ok (.ifCond .eq 10, 3) := by decide +kernel
theorem dX4_addRelaxedValue_69 : decode cX4_addRelaxedValue 69 = .ok (.iload 5, 2) := by decide +kernel
theorem dX4_addRelaxedValue_71 : decode cX4_addRelaxedValue 71 = .ok (.istore 6, 2) := by decide +kernel
theorem dX4_addRelaxedValue_73 : decode cX4_addRelaxedValue 73 = .ok (.goto 26, 3) := by decide +kernel
theorem dX4_addRelaxedValue_76 : decode cX4_addRelaxedValue 76 = .ok (.iload 6, 2) := by decide +kernel
theorem dX4_addRelaxedValue_78 : decode cX4_addRelaxedValue 78 = .ok (.ifCond .eq 9, 3) := by decide +kernel
theorem dX4_addRelaxedValue_81 : decode cX4_addRelaxedValue 81 = .ok (.aload_n 1, 1) := by decide +kernel
theorem dX4_addRelaxedValue_82 : decode cX4_addRelaxedValue 82 = .ok (.bipush 32, 2) := by decide +kernel
theorem dX4_addRelaxedValue_84 : decode cX4_addRelaxedValue 84 = .ok (.invokevirtual 84, 3) := by decide +kernel
theorem dX4_addRelaxedValue_87 : decode cX4_addRelaxedValue 87 = .ok (.aload_n 1, 1) := by decide +kernel
theorem dX4_addRelaxedValue_88 : decode cX4_addRelaxedValue 88 = .ok (.iload 8, 2) := by decide +kernel
theorem dX4_addRelaxedValue_90 : decode cX4_addRelaxedValue 90 = .ok (.invokevirtual 84, 3) := by decide +kernel
theorem dX4_addRelaxedValue_93 : decode cX4_addRelaxedValue 93 = .ok (.iconst 1, 1) := by decide +kernel
theorem dX4_addRelaxedValue_94 : decode cX4_addRelaxedValue 94 = .ok (.istore 5, 2) := by decide +kernel
theorem dX4_addRelaxedValue_96 : decode cX4_addRelaxedValue 96 = .ok (.iconst 0, 1) := by decide +kernel
theorem dX4_addRelaxedValue_97 : decode cX4_addRelaxedValue 97 = .ok (.istore 6, 2) := by decide +kernel
theorem dX4_addRelaxedValue_99 : decode cX4_addRelaxedValue 99 = .ok (.iinc 7 1, 3) := by decide +kernel
theorem dX4_addRelaxedValue_102 : decode cX4_addRelaxedValue 102 = .ok (.goto (-86), 3) := by decide +kernel
theorem dX4_addRelaxedValue_105 : decode cX4_addRelaxedValue 105 = .ok (.return_, 1) := by decide +kernel
theorem kt_230 : Cond.methodLink RX4 84 yX0_add ∈ tb := tb_at (i := 986) (by decide +kernel) (by decide +kernel)
theorem kt_231 : Cond.methodLink RX4 91 yX0_addRange ∈ tb := tb_at (i := 987) (by decide +kernel) (by decide +kernel)
theorem kt_232 : Cond.code yX4_addRelaxedValue cX4_addRelaxedValue 9 none ∈ tb := tb_at (i := 1032) (by decide +kernel) (by decide +kernel)
theorem kt_233 : Cond.methodLink RX4 87 yX4_addRelaxedValue ∈ tb := tb_at (i := 1029) (by decide +kernel) (by decide +kernel)
theorem kt_234 : Cond.instanceMethod yX4_addRelaxedValue ∈ tb := tb_at (i := 1031) (by decide +kernel) (by decide +kernel)
theorem kt_235 : Cond.selects RX4 yX4_addRelaxedValue yX4_addRelaxedValue ∈ tb := tb_at (i := 29) (by decide +kernel) (by decide +kernel)
theorem kt_236 : Cond.code yX0_cut cX0_cut 2 none ∈ tb := tb_at (i := 504) (by decide +kernel) (by decide +kernel)
theorem kt_237 : Cond.methodLink RX4 98 yX0_cut ∈ tb := tb_at (i := 988) (by decide +kernel) (by decide +kernel)
theorem kt_238 : Cond.instanceMethod yX0_cut ∈ tb := tb_at (i := 502) (by decide +kernel) (by decide +kernel)
theorem kt_239 : Cond.selects RX0 yX0_cut yX0_cut ∈ tb := tb_at (i := 503) (by decide +kernel) (by decide +kernel)
theorem kt_240 : Cond.code yX4_addRelaxedLines cX4_addRelaxedLines 5 none ∈ tb := tb_at (i := 985) (by decide +kernel) (by decide +kernel)
theorem kt_241 : Cond.methodLink RX4 95 yX4_addRelaxedLines ∈ tb := tb_at (i := 982) (by decide +kernel) (by decide +kernel)
theorem kt_242 : Cond.instanceMethod yX4_addRelaxedLines ∈ tb := tb_at (i := 984) (by decide +kernel) (by decide +kernel)
theorem kt_243 : Cond.selects RX4 yX4_addRelaxedLines yX4_addRelaxedLines ∈ tb := tb_at (i := 24) (by decide +kernel) (by decide +kernel)
set_option maxHeartbeats 4000000 in
set_option maxRecDepth 100000 in
theorem s_X4_addRelaxedLines (l : Launch) (dC : Nat → ClassId) (dI : Nat → Nat → Nat) (cs : Nat → ClassId) (ty : TyM) (L : List Nat) (sz : Nat) (F : Nat → va_E) (h0 : Nat) (ρ : Nat) (tx : Nat) (y0 : Nat) (y1 : Nat) (y2 : Nat) (g1 : Nat) (σ : Nat) (r1 : Nat) (n1 : Nat) (hW : WT ty L) (hL_h0 : h0 ∈ L) (hT_h0 : ty h0 = (4, ρ, [tx, y0, y1, y2])) (hL_g1 : g1 ∈ L) (hT_g1 : ty g1 = (0, σ, [r1, n1])) : Met l yX4_addRelaxedLines (.code yX4_addRelaxedLines cX4_addRelaxedLines 5 none :: tb) ({ frames := 1, cells := 0, slots := 0, locals := 21 }) (va_Pc [.ref h0, .ref g1] (PT (dC, dI) cs ty L F sz)) (va_Qv (fun _ : Unit => True) (fun _ T9 => ∃ F2 : Nat → va_E, QT (dC, dI) cs ty L [σ] F F2 (va_A (va_pl L F) sz) T9) (va_A (va_pl L F) sz)) 0 0 (va_A (va_pl L F) sz) := by
  refine Met.ofW (cc := cX4_addRelaxedLines) (maxL := 5) (ret := none) (by decide) rfl ?_
  intro p e s m args below meth c s₁ B hml hv
  obtain ⟨rfl, hsz, hP, hK, hD0, hE, hO⟩ := hv
  have hx := B.exec
  have hb := B.bytes
  have hr := B.returns
  have hts : ∀ w ∈ tb, w.before _ s = true := fun w h => atoms_spec (ws := .code yX4_addRelaxedLines cX4_addRelaxedLines 5 none :: tb) B.pre w (List.mem_cons_of_mem _ h)
  have hown : s.vm.findClass RX4 = some m.cls := findClass_of_methodNamed B.named
  have hlocks := B.notSynchronized
  subst hsz
  have hD := hD0.self (sz := s.heap.size)
  generalize hAe : va_A (va_pl L F) s.heap.size = A at hD ⊢
  have hA : ∀ q : Nat, s.heap.size ≤ q → A q := fun q h => by rw [← hAe]; exact Or.inr h
  have hS : va_S A s.heap s.heap [] := va_S.rf
  have hR : FR ty [σ] F F := FR.refl
  have hl := lv_entry ([.ref h0, .ref g1]) (n := 5) (Nat.le_of_ble_eq_true rfl)
  rw [lg_entry_eq]
  generalize (lg_sl ([.ref h0, .ref g1]) ++ List.replicate (5 - (lg_sl ([.ref h0, .ref g1])).length) Slot.unset).toArray = ls at hl ⊢
  have hl : lv_has ls 5 [(0, .ref h0), (1, .ref g1)] := hl
  refine lv_iconst (v := 0) hx hb dX4_addRelaxedLines_0 (by decide) ?_
  refine lv_istore_n (lv' := [(2, .int 0), (0, .ref h0), (1, .ref g1)]) hx hb dX4_addRelaxedLines_1 rfl hl (by decide) rfl (fun ls hl => ?_)
  refine lv_aload_n hx hb dX4_addRelaxedLines_2 rfl (lv_at hl 1 rfl) ?_
  obtain ⟨hi_1, hi_2, hi_3, hi_4, ⟨r_5, ht_6⟩, ht_7, ht_8, ht_9⟩ := hW.msg hL_h0 hT_h0
  obtain ⟨z_10, v0_11, hF_12, hq_13⟩ := hO.msg hL_h0 hT_h0
  refine pg_get (ci := 4) (v := .int v0_11) (C := RX4) (T := TX4) (N := 6) hx hb hts it_4 hown hK hP hL_h0 hF_12 rfl 5 (by decide) (hts _ kt_225) (fun _ h9 => h9) rfl dX4_addRelaxedLines_3 ?_
  refine lv_istore_n (lv' := [(3, .int v0_11), (2, .int 0), (0, .ref h0), (1, .ref g1)]) hx hb dX4_addRelaxedLines_6 rfl hl (by decide) rfl (fun ls hl => ?_)
  refine W.widen (k := 0) (n := 0) (by omega) (by omega) ?_
  refine pl_loop (σ := Int32 × Int32) A (dC, dI) cs ty L [σ] F 7 5 (fun (i1, w2) => [(3, .int i1), (2, .int w2), (0, .ref h0), (1, .ref g1)]) (fun (i1, w2) => []) (fun (i1, w2) _ => True) (fun (i1, w2) => (10000 - i1.toInt).toNat) ?_ (v0_11, 0) F (trivial) hO hR _ _ hP hD hS ls (lv_sub hl [0, 1, 2, 3] rfl)
  rintro ⟨i1, w2⟩ F_14 hv_15 hO hR ih_16 H locs hP hD hS ls hl
  have hl : lv_has ls 5 [(3, .int i1), (2, .int w2), (0, .ref h0), (1, .ref g1)] := hl
  have hv_15 : True := hv_15
  refine W.eq (g2 := F0 m 7 ls []) rfl ?_
  refine lv_iload_n hx hb dX4_addRelaxedLines_7 rfl (lv_at hl 0 rfl) ?_
  refine lv_aload_n hx hb dX4_addRelaxedLines_8 rfl (lv_at hl 2 rfl) ?_
  obtain ⟨z_17, v0_18, hF_19, hq_20⟩ := hO.msg hL_h0 hT_h0
  refine pg_get (ci := 4) (v := .ref tx) (C := RX4) (T := TX4) (N := 6) hx hb hts it_4 hown hK hP hL_h0 hF_19 rfl 0 (by decide) (hts _ kt_207) (fun _ h9 => h9) rfl dX4_addRelaxedLines_9 ?_
  obtain ⟨hi_21, ht_22, hq_23⟩ := hW.bytes hi_1 ht_6
  obtain ⟨z_24, o_25, hF_26, hq_27, hq_28⟩ := hO.bytes hi_1 ht_6
  refine pg_getN (ci := 0) (v := .int (nI z_24)) (C := RX0) (T := TX0) (N := 3) hx hb hts it_0 hown hK hP hi_1 hF_26 rfl 1 (by decide) (hE.nest kn_6) (fun _ h9 => h9) rfl dX4_addRelaxedLines_12 ?_
  refine lv_icmp_ge (tgt := 72) hx hb dX4_addRelaxedLines_15 (by decide) (fun c_29 => ?_) (fun c_29 => ?_)
  ·
    refine W.widen (k := 0) (n := 0) (by omega) (by omega) ?_
    exact W.vret hx hb hr (fun t ht hWm => ⟨⟨(), rfl, trivial, ⟨F_14, QT.mk ht hP hD hO hR⟩⟩, hS.F ht⟩) hS.2.2 dX4_addRelaxedLines_72
  ·
    refine lv_aload_n hx hb dX4_addRelaxedLines_18 rfl (lv_at hl 2 rfl) ?_
    refine pg_get (ci := 4) (v := .ref tx) (C := RX4) (T := TX4) (N := 6) hx hb hts it_4 hown hK hP hL_h0 hF_19 rfl 0 (by decide) (hts _ kt_207) (fun _ h9 => h9) rfl dX4_addRelaxedLines_19 ?_
    refine lv_iload_n hx hb dX4_addRelaxedLines_22 rfl (lv_at hl 0 rfl) ?_
    have hFc := pg_free hD hS hA
    refine va_calli (va_runV (As := [.int i1]) (rest := []) ⟨hx, hb, hml, hown, hts⟩ (s_X0_at l dC dI cs ty L H.size F_14 tx (ρ + 1) r_5 3000 i1 hW hi_1 ht_6) ⟨callB_of 1 hts (gi kt_21) rfl rfl rfl (hts _ kt_1) (hts _ kt_199) (by decide +kernel) ⟨Nat.le_of_ble_eq_true rfl, Nat.le_of_ble_eq_true rfl⟩, (hts _ kt_23), (hts _ kt_24)⟩ ⟨fun a U g mk q => ⟨q.1, PT.calling q.2⟩, pg_recv hK hP hi_1 hF_26 (q := (RX0, TX0, 3)) rfl, fun U hU hWm => ⟨rfl, PT.mk hU hWm hP hK hD hE hO⟩⟩ rfl rfl hl.1 rfl (lv_room (Nat.le_of_ble_eq_true rfl)) dX4_addRelaxedLines_23 ⟨by show _ + 0 ≤ 0; omega, by show _ + 0 ≤ 0; omega⟩) hS (fun q _ h => hFc q h) hFc (fun r_30 u t H1 locs ht hvm hw hB hz1 hk1 hS => ?_)
    obtain ⟨F_31, hB1⟩ := hB
    obtain ⟨hP, hD, hO, hR⟩ := QT.back hB1 ht hFc hR (fun q h => absurd h List.not_mem_nil)
    have hF_32 : F_31 h0 = .inr (4, [.ref tx, .ref y0, .ref y1, .ref y2, .int (nI z_17), .int v0_18]) := (hB1.2.2.2 h0 List.not_mem_nil).trans hF_19
    have hF_33 : F_31 tx = .inr (0, [.ref r_5, .int (nI z_24), .int o_25]) := (hB1.2.2.2 tx List.not_mem_nil).trans hF_26
    generalize H1 = H at hP hS ⊢
    have hw : True := hw
    have hw_34 := hw
    refine lv_istore (lv' := [(4, .int r_30), (3, .int i1), (2, .int w2), (0, .ref h0), (1, .ref g1)]) hx hb dX4_addRelaxedLines_26 hl (by decide) rfl (fun ls hl => ?_)
    refine lv_iload hx hb dX4_addRelaxedLines_28 (lv_at hl 0 rfl) ?_
    have hFc := pg_free hD hS hA
    refine va_calli (va_runS (As := [.int r_30]) (rest := []) ⟨hx, hb, hml, hown, hts⟩ (s_X0_isWhite l dC dI cs ty L H.size F_31 r_30 hW ) ⟨callB_of 1 hts (gi kt_195) rfl rfl rfl (hts _ kt_1) (hts _ kt_215) (by decide +kernel) ⟨Nat.le_of_ble_eq_true rfl, Nat.le_of_ble_eq_true rfl⟩, (hts _ kt_197)⟩ ⟨fun a U g mk q => ⟨q.1, PT.calling q.2⟩, fun U hU hWm => ⟨rfl, PT.mk hU hWm hP hK hD hE hO⟩⟩ rfl rfl hl.1 rfl (lv_room (Nat.le_of_ble_eq_true rfl)) dX4_addRelaxedLines_30 ⟨by show _ + 0 ≤ 0; omega, by show _ + 0 ≤ 0; omega⟩) hS (fun q _ h => hFc q h) hFc (fun r_35 u t H1 locs ht hvm hw hB hz1 hk1 hS => ?_)
    obtain ⟨F_36, hB1⟩ := hB
    obtain ⟨hP, hD, hO, hR⟩ := QT.back hB1 ht hFc hR (fun q h => absurd h List.not_mem_nil)
    have hF_37 : F_36 h0 = .inr (4, [.ref tx, .ref y0, .ref y1, .ref y2, .int (nI z_17), .int v0_18]) := (hB1.2.2.2 h0 List.not_mem_nil).trans hF_32
    have hF_38 : F_36 tx = .inr (0, [.ref r_5, .int (nI z_24), .int o_25]) := (hB1.2.2.2 tx List.not_mem_nil).trans hF_33
    generalize H1 = H at hP hS ⊢
    have hw : (r_35 = 0 ∨ r_35 = 1) := hw
    have hw_39 := hw
    refine lv_if_eq (tgt := 41) hx hb dX4_addRelaxedLines_33 (by decide) (fun c_40 => ?_) (fun c_40 => ?_)
    ·
      refine lv_iload_n hx hb dX4_addRelaxedLines_41 rfl (lv_at hl 2 rfl) ?_
      refine lv_if_eq (tgt := 58) hx hb dX4_addRelaxedLines_42 (by decide) (fun c_41 => ?_) (fun c_41 => ?_)
      ·
        refine lv_aload_n hx hb dX4_addRelaxedLines_58 rfl (lv_at hl 4 rfl) ?_
        refine lv_iload hx hb dX4_addRelaxedLines_59 (lv_at hl 0 rfl) ?_
        have hFc := pg_free hD hS hA
        obtain ⟨hi_42, ht_43, hq_44⟩ := hW.bytes hL_g1 hT_g1
        obtain ⟨z_45, o_46, hF_47, hq_48, hq_49⟩ := hO.bytes hL_g1 hT_g1
        refine va_callv (va_runV (As := [.int r_30]) (rest := []) ⟨hx, hb, hml, hown, hts⟩ (s_X0_add l dC dI cs ty L H.size F_36 g1 σ r1 n1 r_30 hW hL_g1 hT_g1) ⟨callB_of 1 hts (gi kt_13) rfl rfl rfl (hts _ kt_1) (hts _ kt_230) (by decide +kernel) ⟨Nat.le_of_ble_eq_true rfl, Nat.le_of_ble_eq_true rfl⟩, (hts _ kt_15), (hts _ kt_16)⟩ ⟨fun a U g mk q => ⟨q.1, PT.calling q.2⟩, pg_recv hK hP hL_g1 hF_47 (q := (RX0, TX0, 3)) rfl, fun U hU hWm => ⟨rfl, PT.mk hU hWm hP hK hD hE hO⟩⟩ rfl rfl hl.1 rfl (lv_room (Nat.le_of_ble_eq_true rfl)) dX4_addRelaxedLines_61 ⟨by show _ + 0 ≤ 0; omega, by show _ + 0 ≤ 0; omega⟩) hS (fun q _ h => hFc q h) hFc (fun u t H1 locs ht hvm hw hB hz1 hk1 hS => ?_)
        obtain ⟨F_51, hB1⟩ := hB
        obtain ⟨hP, hD, hO, hR⟩ := QT.back hB1 ht hFc hR (fun q h => by simp only [List.mem_cons, List.not_mem_nil, or_false] at h ⊢; omega)
        generalize H1 = H at hP hS ⊢
        refine lv_iconst (v := 0) hx hb dX4_addRelaxedLines_64 (by decide) ?_
        refine lv_istore_n (lv' := [(2, .int 0), (4, .int r_30), (3, .int i1), (0, .ref h0), (1, .ref g1)]) hx hb dX4_addRelaxedLines_65 rfl hl (by decide) rfl (fun ls hl => ?_)
        obtain ⟨x_52, ex_52⟩ : ∃ y : Int32, y = i1 + Int32.ofInt 1 := ⟨_, rfl⟩
        refine lv_iinc (v := x_52) (lv' := [(3, .int x_52), (2, .int 0), (4, .int r_30), (0, .ref h0), (1, .ref g1)]) hx hb dX4_addRelaxedLines_66 hl (k := 2) rfl (ex_52.symm) (by decide) rfl (fun ls hl => ?_)
        refine lv_goto (tgt := 7) hx hb dX4_addRelaxedLines_69 (by decide) ?_
        refine W.widen (k := 0) (n := 0) (by omega) (by omega) ?_
        exact ih_16 (x_52, 0) F_51 (trivial) (by show (10000 - x_52.toInt).toNat < (10000 - i1.toInt).toNat; exact incB ex_52 c_29 (by omega)) hO hR _ _ hP hD hS ls (lv_sub hl [0, 1, 3, 4] rfl)
      ·
        refine lv_iload hx hb dX4_addRelaxedLines_45 (lv_at hl 0 rfl) ?_
        refine lv_bipush (v := 10) hx hb dX4_addRelaxedLines_47 (by decide) ?_
        refine lv_icmp_eq (tgt := 58) hx hb dX4_addRelaxedLines_49 (by decide) (fun c_53 => ?_) (fun c_53 => ?_)
        ·
          refine lv_aload_n hx hb dX4_addRelaxedLines_58 rfl (lv_at hl 4 rfl) ?_
          refine lv_iload hx hb dX4_addRelaxedLines_59 (lv_at hl 0 rfl) ?_
          have hFc := pg_free hD hS hA
          obtain ⟨hi_54, ht_55, hq_56⟩ := hW.bytes hL_g1 hT_g1
          obtain ⟨z_57, o_58, hF_59, hq_60, hq_61⟩ := hO.bytes hL_g1 hT_g1
          refine va_callv (va_runV (As := [.int r_30]) (rest := []) ⟨hx, hb, hml, hown, hts⟩ (s_X0_add l dC dI cs ty L H.size F_36 g1 σ r1 n1 r_30 hW hL_g1 hT_g1) ⟨callB_of 1 hts (gi kt_13) rfl rfl rfl (hts _ kt_1) (hts _ kt_230) (by decide +kernel) ⟨Nat.le_of_ble_eq_true rfl, Nat.le_of_ble_eq_true rfl⟩, (hts _ kt_15), (hts _ kt_16)⟩ ⟨fun a U g mk q => ⟨q.1, PT.calling q.2⟩, pg_recv hK hP hL_g1 hF_59 (q := (RX0, TX0, 3)) rfl, fun U hU hWm => ⟨rfl, PT.mk hU hWm hP hK hD hE hO⟩⟩ rfl rfl hl.1 rfl (lv_room (Nat.le_of_ble_eq_true rfl)) dX4_addRelaxedLines_61 ⟨by show _ + 0 ≤ 0; omega, by show _ + 0 ≤ 0; omega⟩) hS (fun q _ h => hFc q h) hFc (fun u t H1 locs ht hvm hw hB hz1 hk1 hS => ?_)
          obtain ⟨F_63, hB1⟩ := hB
          obtain ⟨hP, hD, hO, hR⟩ := QT.back hB1 ht hFc hR (fun q h => by simp only [List.mem_cons, List.not_mem_nil, or_false] at h ⊢; omega)
          generalize H1 = H at hP hS ⊢
          refine lv_iconst (v := 0) hx hb dX4_addRelaxedLines_64 (by decide) ?_
          refine lv_istore_n (lv' := [(2, .int 0), (4, .int r_30), (3, .int i1), (0, .ref h0), (1, .ref g1)]) hx hb dX4_addRelaxedLines_65 rfl hl (by decide) rfl (fun ls hl => ?_)
          obtain ⟨x_64, ex_64⟩ : ∃ y : Int32, y = i1 + Int32.ofInt 1 := ⟨_, rfl⟩
          refine lv_iinc (v := x_64) (lv' := [(3, .int x_64), (2, .int 0), (4, .int r_30), (0, .ref h0), (1, .ref g1)]) hx hb dX4_addRelaxedLines_66 hl (k := 2) rfl (ex_64.symm) (by decide) rfl (fun ls hl => ?_)
          refine lv_goto (tgt := 7) hx hb dX4_addRelaxedLines_69 (by decide) ?_
          refine W.widen (k := 0) (n := 0) (by omega) (by omega) ?_
          exact ih_16 (x_64, 0) F_63 (trivial) (by show (10000 - x_64.toInt).toNat < (10000 - i1.toInt).toNat; exact incB ex_64 c_29 (by omega)) hO hR _ _ hP hD hS ls (lv_sub hl [0, 1, 3, 4] rfl)
        ·
          refine lv_aload_n hx hb dX4_addRelaxedLines_52 rfl (lv_at hl 4 rfl) ?_
          refine lv_bipush (v := 32) hx hb dX4_addRelaxedLines_53 (by decide) ?_
          have hFc := pg_free hD hS hA
          obtain ⟨hi_65, ht_66, hq_67⟩ := hW.bytes hL_g1 hT_g1
          obtain ⟨z_68, o_69, hF_70, hq_71, hq_72⟩ := hO.bytes hL_g1 hT_g1
          refine va_callv (va_runV (As := [.int 32]) (rest := []) ⟨hx, hb, hml, hown, hts⟩ (s_X0_add l dC dI cs ty L H.size F_36 g1 σ r1 n1 32 hW hL_g1 hT_g1) ⟨callB_of 1 hts (gi kt_13) rfl rfl rfl (hts _ kt_1) (hts _ kt_230) (by decide +kernel) ⟨Nat.le_of_ble_eq_true rfl, Nat.le_of_ble_eq_true rfl⟩, (hts _ kt_15), (hts _ kt_16)⟩ ⟨fun a U g mk q => ⟨q.1, PT.calling q.2⟩, pg_recv hK hP hL_g1 hF_70 (q := (RX0, TX0, 3)) rfl, fun U hU hWm => ⟨rfl, PT.mk hU hWm hP hK hD hE hO⟩⟩ rfl rfl hl.1 rfl (lv_room (Nat.le_of_ble_eq_true rfl)) dX4_addRelaxedLines_55 ⟨by show _ + 0 ≤ 0; omega, by show _ + 0 ≤ 0; omega⟩) hS (fun q _ h => hFc q h) hFc (fun u t H1 locs ht hvm hw hB hz1 hk1 hS => ?_)
          obtain ⟨F_74, hB1⟩ := hB
          obtain ⟨hP, hD, hO, hR⟩ := QT.back hB1 ht hFc hR (fun q h => by simp only [List.mem_cons, List.not_mem_nil, or_false] at h ⊢; omega)
          generalize H1 = H at hP hS ⊢
          refine lv_aload_n hx hb dX4_addRelaxedLines_58 rfl (lv_at hl 4 rfl) ?_
          refine lv_iload hx hb dX4_addRelaxedLines_59 (lv_at hl 0 rfl) ?_
          have hFc := pg_free hD hS hA
          obtain ⟨z_75, o_76, hF_77, hq_78, hq_79⟩ := hO.bytes hL_g1 hT_g1
          refine va_callv (va_runV (As := [.int r_30]) (rest := []) ⟨hx, hb, hml, hown, hts⟩ (s_X0_add l dC dI cs ty L H.size F_74 g1 σ r1 n1 r_30 hW hL_g1 hT_g1) ⟨callB_of 1 hts (gi kt_13) rfl rfl rfl (hts _ kt_1) (hts _ kt_230) (by decide +kernel) ⟨Nat.le_of_ble_eq_true rfl, Nat.le_of_ble_eq_true rfl⟩, (hts _ kt_15), (hts _ kt_16)⟩ ⟨fun a U g mk q => ⟨q.1, PT.calling q.2⟩, pg_recv hK hP hL_g1 hF_77 (q := (RX0, TX0, 3)) rfl, fun U hU hWm => ⟨rfl, PT.mk hU hWm hP hK hD hE hO⟩⟩ rfl rfl hl.1 rfl (lv_room (Nat.le_of_ble_eq_true rfl)) dX4_addRelaxedLines_61 ⟨by show _ + 0 ≤ 0; omega, by show _ + 0 ≤ 0; omega⟩) hS (fun q _ h => hFc q h) hFc (fun u t H1 locs ht hvm hw hB hz1 hk1 hS => ?_)
          obtain ⟨F_81, hB1⟩ := hB
          obtain ⟨hP, hD, hO, hR⟩ := QT.back hB1 ht hFc hR (fun q h => by simp only [List.mem_cons, List.not_mem_nil, or_false] at h ⊢; omega)
          generalize H1 = H at hP hS ⊢
          refine lv_iconst (v := 0) hx hb dX4_addRelaxedLines_64 (by decide) ?_
          refine lv_istore_n (lv' := [(2, .int 0), (4, .int r_30), (3, .int i1), (0, .ref h0), (1, .ref g1)]) hx hb dX4_addRelaxedLines_65 rfl hl (by decide) rfl (fun ls hl => ?_)
          obtain ⟨x_82, ex_82⟩ : ∃ y : Int32, y = i1 + Int32.ofInt 1 := ⟨_, rfl⟩
          refine lv_iinc (v := x_82) (lv' := [(3, .int x_82), (2, .int 0), (4, .int r_30), (0, .ref h0), (1, .ref g1)]) hx hb dX4_addRelaxedLines_66 hl (k := 2) rfl (ex_82.symm) (by decide) rfl (fun ls hl => ?_)
          refine lv_goto (tgt := 7) hx hb dX4_addRelaxedLines_69 (by decide) ?_
          refine W.widen (k := 0) (n := 0) (by omega) (by omega) ?_
          exact ih_16 (x_82, 0) F_81 (trivial) (by show (10000 - x_82.toInt).toNat < (10000 - i1.toInt).toNat; exact incB ex_82 c_29 (by omega)) hO hR _ _ hP hD hS ls (lv_sub hl [0, 1, 3, 4] rfl)
    ·
      refine lv_iconst (v := 1) hx hb dX4_addRelaxedLines_36 (by decide) ?_
      refine lv_istore_n (lv' := [(2, .int 1), (4, .int r_30), (3, .int i1), (0, .ref h0), (1, .ref g1)]) hx hb dX4_addRelaxedLines_37 rfl hl (by decide) rfl (fun ls hl => ?_)
      refine lv_goto (tgt := 66) hx hb dX4_addRelaxedLines_38 (by decide) ?_
      obtain ⟨x_83, ex_83⟩ : ∃ y : Int32, y = i1 + Int32.ofInt 1 := ⟨_, rfl⟩
      refine lv_iinc (v := x_83) (lv' := [(3, .int x_83), (2, .int 1), (4, .int r_30), (0, .ref h0), (1, .ref g1)]) hx hb dX4_addRelaxedLines_66 hl (k := 2) rfl (ex_83.symm) (by decide) rfl (fun ls hl => ?_)
      refine lv_goto (tgt := 7) hx hb dX4_addRelaxedLines_69 (by decide) ?_
      refine W.widen (k := 0) (n := 0) (by omega) (by omega) ?_
      exact ih_16 (x_83, 1) F_36 (trivial) (by show (10000 - x_83.toInt).toNat < (10000 - i1.toInt).toNat; exact incB ex_83 c_29 (by omega)) hO hR _ _ hP hD hS ls (lv_sub hl [0, 1, 3, 4] rfl)
set_option maxHeartbeats 4000000 in
set_option maxRecDepth 100000 in
theorem s_X4_addRelaxedValue (l : Launch) (dC : Nat → ClassId) (dI : Nat → Nat → Nat) (cs : Nat → ClassId) (ty : TyM) (L : List Nat) (sz : Nat) (F : Nat → va_E) (h0 : Nat) (ρ : Nat) (tx : Nat) (y0 : Nat) (y1 : Nat) (y2 : Nat) (g1 : Nat) (σ : Nat) (r1 : Nat) (n1 : Nat) (jk : Nat) (x3 : Int32) (x4 : Int32) (hW : WT ty L) (hL_h0 : h0 ∈ L) (hT_h0 : ty h0 = (4, ρ, [tx, y0, y1, y2])) (hL_g1 : g1 ∈ L) (hT_g1 : ty g1 = (0, σ, [r1, n1])) (hjk : jk < 20) : Met l yX4_addRelaxedValue (.code yX4_addRelaxedValue cX4_addRelaxedValue 9 none :: tb) ({ frames := 1, cells := 0, slots := 0, locals := 21 }) (va_Pc [.ref h0, .ref g1, .int (nI jk), .int x3, .int x4] (PT (dC, dI) cs ty L F sz)) (va_Qv (fun _ : Unit => True) (fun _ T9 => ∃ F2 : Nat → va_E, QT (dC, dI) cs ty L [σ] F F2 (va_A (va_pl L F) sz) T9) (va_A (va_pl L F) sz)) 0 0 (va_A (va_pl L F) sz) := by
  refine Met.ofW (cc := cX4_addRelaxedValue) (maxL := 9) (ret := none) (by decide) rfl ?_
  intro p e s m args below meth c s₁ B hml hv
  obtain ⟨rfl, hsz, hP, hK, hD0, hE, hO⟩ := hv
  have hx := B.exec
  have hb := B.bytes
  have hr := B.returns
  have hts : ∀ w ∈ tb, w.before _ s = true := fun w h => atoms_spec (ws := .code yX4_addRelaxedValue cX4_addRelaxedValue 9 none :: tb) B.pre w (List.mem_cons_of_mem _ h)
  have hown : s.vm.findClass RX4 = some m.cls := findClass_of_methodNamed B.named
  have hlocks := B.notSynchronized
  subst hsz
  have hD := hD0.self (sz := s.heap.size)
  generalize hAe : va_A (va_pl L F) s.heap.size = A at hD ⊢
  have hA : ∀ q : Nat, s.heap.size ≤ q → A q := fun q h => by rw [← hAe]; exact Or.inr h
  have hS : va_S A s.heap s.heap [] := va_S.rf
  have hR : FR ty [σ] F F := FR.refl
  have hl := lv_entry ([.ref h0, .ref g1, .int (nI jk), .int x3, .int x4]) (n := 9) (Nat.le_of_ble_eq_true rfl)
  rw [lg_entry_eq]
  generalize (lg_sl ([.ref h0, .ref g1, .int (nI jk), .int x3, .int x4]) ++ List.replicate (9 - (lg_sl ([.ref h0, .ref g1, .int (nI jk), .int x3, .int x4])).length) Slot.unset).toArray = ls at hl ⊢
  have hl : lv_has ls 9 [(0, .ref h0), (1, .ref g1), (2, .int (nI jk)), (3, .int x3), (4, .int x4)] := hl
  refine lv_iconst (v := 0) hx hb dX4_addRelaxedValue_0 (by decide) ?_
  refine lv_istore (lv' := [(5, .int 0), (0, .ref h0), (1, .ref g1), (2, .int (nI jk)), (3, .int x3), (4, .int x4)]) hx hb dX4_addRelaxedValue_1 hl (by decide) rfl (fun ls hl => ?_)
  refine lv_iconst (v := 0) hx hb dX4_addRelaxedValue_3 (by decide) ?_
  refine lv_istore (lv' := [(6, .int 0), (5, .int 0), (0, .ref h0), (1, .ref g1), (2, .int (nI jk)), (3, .int x3), (4, .int x4)]) hx hb dX4_addRelaxedValue_4 hl (by decide) rfl (fun ls hl => ?_)
  refine lv_aload_n hx hb dX4_addRelaxedValue_6 rfl (lv_at hl 2 rfl) ?_
  obtain ⟨hi_1, hi_2, hi_3, hi_4, ⟨r_5, ht_6⟩, ht_7, ht_8, ht_9⟩ := hW.msg hL_h0 hT_h0
  obtain ⟨z_10, v0_11, hF_12, hq_13⟩ := hO.msg hL_h0 hT_h0
  refine pg_get (ci := 4) (v := .ref y1) (C := RX4) (T := TX4) (N := 6) hx hb hts it_4 hown hK hP hL_h0 hF_12 rfl 2 (by decide) (hts _ kt_204) (fun _ h9 => h9) rfl dX4_addRelaxedValue_7 ?_
  refine lv_iload_n hx hb dX4_addRelaxedValue_10 rfl (lv_at hl 4 rfl) ?_
  obtain ⟨f_14, hF_15, hq_16⟩ := hO.idx hi_3 ht_8
  refine pg_iald hx hb hK hP hi_3 0 hF_15 rfl (vp_in_nI (by omega) (by omega)) dX4_addRelaxedValue_11 ?_
  obtain ⟨k_17, hk_18, ek_19⟩ := hq_16 ((nI jk) : Int32).toNatClampNeg
  refine lv_topi (fun x_20 ex_20 => ?_)
  obtain rfl : x_20 = nI k_17 := ex_20.trans ek_19
  refine lv_iconst (v := 1) hx hb dX4_addRelaxedValue_12 (by decide) ?_
  refine lv_iadd hx hb dX4_addRelaxedValue_13 ?_
  refine lv_topi (fun x_21 ex_21 => ?_)
  obtain rfl : x_21 = (nI (k_17 + 1)) := ex_21.trans (nI_1 _)
  refine lv_istore (lv' := [(7, .int (nI (k_17 + 1))), (6, .int 0), (5, .int 0), (0, .ref h0), (1, .ref g1), (2, .int (nI jk)), (3, .int x3), (4, .int x4)]) hx hb dX4_addRelaxedValue_14 hl (by decide) rfl (fun ls hl => ?_)
  refine W.widen (k := 0) (n := 0) (by omega) (by omega) ?_
  refine pl_loop (σ := Nat × Int32 × Int32) A (dC, dI) cs ty L [σ] F 16 9 (fun (j, w5, w6) => [(7, .int (nI j)), (6, .int w6), (5, .int w5), (0, .ref h0), (1, .ref g1), (2, .int (nI jk)), (3, .int x3), (4, .int x4)]) (fun (j, w5, w6) => []) (fun (j, w5, w6) _ => j ≤ 10002) (fun (j, w5, w6) => 10002 - j) ?_ ((k_17 + 1), 0, 0) F (by omega) hO hR _ _ hP hD hS ls (lv_sub hl [0, 1, 2, 3, 4, 5, 6, 7] rfl)
  rintro ⟨j, w5, w6⟩ F_22 hv_23 hO hR ih_24 H locs hP hD hS ls hl
  have hl : lv_has ls 9 [(7, .int (nI j)), (6, .int w6), (5, .int w5), (0, .ref h0), (1, .ref g1), (2, .int (nI jk)), (3, .int x3), (4, .int x4)] := hl
  have hv_23 : j ≤ 10002 := hv_23
  refine W.eq (g2 := F0 m 16 ls []) rfl ?_
  refine lv_iload hx hb dX4_addRelaxedValue_16 (lv_at hl 0 rfl) ?_
  refine lv_aload_n hx hb dX4_addRelaxedValue_18 rfl (lv_at hl 3 rfl) ?_
  obtain ⟨z_25, v0_26, hF_27, hq_28⟩ := hO.msg hL_h0 hT_h0
  refine pg_get (ci := 4) (v := .ref y2) (C := RX4) (T := TX4) (N := 6) hx hb hts it_4 hown hK hP hL_h0 hF_27 rfl 3 (by decide) (hts _ kt_220) (fun _ h9 => h9) rfl dX4_addRelaxedValue_19 ?_
  refine lv_iload_n hx hb dX4_addRelaxedValue_22 rfl (lv_at hl 5 rfl) ?_
  obtain ⟨f_29, hF_30, hq_31⟩ := hO.idx hi_4 ht_9
  refine pg_iald hx hb hK hP hi_4 0 hF_30 rfl (vp_in_nI (by omega) (by omega)) dX4_addRelaxedValue_23 ?_
  obtain ⟨k_32, hk_33, ek_34⟩ := hq_31 ((nI jk) : Int32).toNatClampNeg
  refine lv_topi (fun x_35 ex_35 => ?_)
  obtain rfl : x_35 = nI k_32 := ex_35.trans ek_34
  refine lv_icmp_ge (tgt := 105) hx hb dX4_addRelaxedValue_24 (by decide) (fun c_36 => ?_) (fun c_36 => ?_)
  ·
    have hi_37 : k_32 ≤ j := leN (N := k_32) c_36
    refine W.widen (k := 0) (n := 0) (by omega) (by omega) ?_
    exact W.vret hx hb hr (fun t ht hWm => ⟨⟨(), rfl, trivial, ⟨F_22, QT.mk ht hP hD hO hR⟩⟩, hS.F ht⟩) hS.2.2 dX4_addRelaxedValue_105
  ·
    have hi_38 : j < k_32 := ltN (N := k_32) c_36
    refine lv_aload_n hx hb dX4_addRelaxedValue_27 rfl (lv_at hl 3 rfl) ?_
    refine pg_get (ci := 4) (v := .ref tx) (C := RX4) (T := TX4) (N := 6) hx hb hts it_4 hown hK hP hL_h0 hF_27 rfl 0 (by decide) (hts _ kt_207) (fun _ h9 => h9) rfl dX4_addRelaxedValue_28 ?_
    refine lv_iload hx hb dX4_addRelaxedValue_31 (lv_at hl 0 rfl) ?_
    have hFc := pg_free hD hS hA
    obtain ⟨hi_39, ht_40, hq_41⟩ := hW.bytes hi_1 ht_6
    obtain ⟨z_42, o_43, hF_44, hq_45, hq_46⟩ := hO.bytes hi_1 ht_6
    refine va_calli (va_runV (As := [.int (nI j)]) (rest := []) ⟨hx, hb, hml, hown, hts⟩ (s_X0_at l dC dI cs ty L H.size F_22 tx (ρ + 1) r_5 3000 (nI j) hW hi_1 ht_6) ⟨callB_of 1 hts (gi kt_21) rfl rfl rfl (hts _ kt_1) (hts _ kt_199) (by decide +kernel) ⟨Nat.le_of_ble_eq_true rfl, Nat.le_of_ble_eq_true rfl⟩, (hts _ kt_23), (hts _ kt_24)⟩ ⟨fun a U g mk q => ⟨q.1, PT.calling q.2⟩, pg_recv hK hP hi_1 hF_44 (q := (RX0, TX0, 3)) rfl, fun U hU hWm => ⟨rfl, PT.mk hU hWm hP hK hD hE hO⟩⟩ rfl rfl hl.1 rfl (lv_room (Nat.le_of_ble_eq_true rfl)) dX4_addRelaxedValue_33 ⟨by show _ + 0 ≤ 0; omega, by show _ + 0 ≤ 0; omega⟩) hS (fun q _ h => hFc q h) hFc (fun r_47 u t H1 locs ht hvm hw hB hz1 hk1 hS => ?_)
    obtain ⟨F_48, hB1⟩ := hB
    obtain ⟨hP, hD, hO, hR⟩ := QT.back hB1 ht hFc hR (fun q h => absurd h List.not_mem_nil)
    have hF_49 : F_48 h0 = .inr (4, [.ref tx, .ref y0, .ref y1, .ref y2, .int (nI z_25), .int v0_26]) := (hB1.2.2.2 h0 List.not_mem_nil).trans hF_27
    have hF_50 : F_48 y2 = .inl (cs 16, 20, .inl f_29) := (hB1.2.2.2 y2 List.not_mem_nil).trans hF_30
    have hF_51 : F_48 tx = .inr (0, [.ref r_5, .int (nI z_42), .int o_43]) := (hB1.2.2.2 tx List.not_mem_nil).trans hF_44
    generalize H1 = H at hP hS ⊢
    have hw : True := hw
    have hw_52 := hw
    refine lv_istore (lv' := [(8, .int r_47), (7, .int (nI j)), (6, .int w6), (5, .int w5), (0, .ref h0), (1, .ref g1), (2, .int (nI jk)), (3, .int x3), (4, .int x4)]) hx hb dX4_addRelaxedValue_36 hl (by decide) rfl (fun ls hl => ?_)
    refine lv_iload hx hb dX4_addRelaxedValue_38 (lv_at hl 0 rfl) ?_
    refine lv_bipush (v := 10) hx hb dX4_addRelaxedValue_40 (by decide) ?_
    refine lv_icmp_eq (tgt := 99) hx hb dX4_addRelaxedValue_42 (by decide) (fun c_53 => ?_) (fun c_53 => ?_)
    ·
      refine lv_iinc (v := (nI (j + 1))) (lv' := [(7, .int (nI (j + 1))), (8, .int r_47), (6, .int w6), (5, .int w5), (0, .ref h0), (1, .ref g1), (2, .int (nI jk)), (3, .int x3), (4, .int x4)]) hx hb dX4_addRelaxedValue_99 hl (k := 1) rfl (nI_1 _) (by decide) rfl (fun ls hl => ?_)
      refine lv_goto (tgt := 16) hx hb dX4_addRelaxedValue_102 (by decide) ?_
      refine W.widen (k := 0) (n := 0) (by omega) (by omega) ?_
      exact ih_24 ((j + 1), w5, w6) F_48 (by first | omega | exact ⟨by omega, by omega⟩ | trivial) (by show 10002 - (j + 1) < 10002 - j; omega) hO hR _ _ hP hD hS ls (lv_sub hl [0, 2, 3, 4, 5, 6, 7, 8] rfl)
    ·
      refine lv_iload hx hb dX4_addRelaxedValue_45 (lv_at hl 1 rfl) ?_
      refine lv_iload_n hx hb dX4_addRelaxedValue_47 rfl (lv_at hl 7 rfl) ?_
      refine lv_icmp_lt (tgt := 61) hx hb dX4_addRelaxedValue_48 (by decide) (fun c_54 => ?_) (fun c_54 => ?_)
      ·
        refine lv_iload hx hb dX4_addRelaxedValue_61 (lv_at hl 0 rfl) ?_
        have hFc := pg_free hD hS hA
        refine va_calli (va_runS (As := [.int r_47]) (rest := []) ⟨hx, hb, hml, hown, hts⟩ (s_X0_isWhite l dC dI cs ty L H.size F_48 r_47 hW ) ⟨callB_of 1 hts (gi kt_195) rfl rfl rfl (hts _ kt_1) (hts _ kt_215) (by decide +kernel) ⟨Nat.le_of_ble_eq_true rfl, Nat.le_of_ble_eq_true rfl⟩, (hts _ kt_197)⟩ ⟨fun a U g mk q => ⟨q.1, PT.calling q.2⟩, fun U hU hWm => ⟨rfl, PT.mk hU hWm hP hK hD hE hO⟩⟩ rfl rfl hl.1 rfl (lv_room (Nat.le_of_ble_eq_true rfl)) dX4_addRelaxedValue_63 ⟨by show _ + 0 ≤ 0; omega, by show _ + 0 ≤ 0; omega⟩) hS (fun q _ h => hFc q h) hFc (fun r_55 u t H1 locs ht hvm hw hB hz1 hk1 hS => ?_)
        obtain ⟨F_56, hB1⟩ := hB
        obtain ⟨hP, hD, hO, hR⟩ := QT.back hB1 ht hFc hR (fun q h => absurd h List.not_mem_nil)
        have hF_57 : F_56 h0 = .inr (4, [.ref tx, .ref y0, .ref y1, .ref y2, .int (nI z_25), .int v0_26]) := (hB1.2.2.2 h0 List.not_mem_nil).trans hF_49
        have hF_58 : F_56 y2 = .inl (cs 16, 20, .inl f_29) := (hB1.2.2.2 y2 List.not_mem_nil).trans hF_50
        have hF_59 : F_56 tx = .inr (0, [.ref r_5, .int (nI z_42), .int o_43]) := (hB1.2.2.2 tx List.not_mem_nil).trans hF_51
        generalize H1 = H at hP hS ⊢
        have hw : (r_55 = 0 ∨ r_55 = 1) := hw
        have hw_60 := hw
        refine lv_if_eq (tgt := 76) hx hb dX4_addRelaxedValue_66 (by decide) (fun c_61 => ?_) (fun c_61 => ?_)
        ·
          refine lv_iload hx hb dX4_addRelaxedValue_76 (lv_at hl 2 rfl) ?_
          refine lv_if_eq (tgt := 87) hx hb dX4_addRelaxedValue_78 (by decide) (fun c_62 => ?_) (fun c_62 => ?_)
          ·
            refine lv_aload_n hx hb dX4_addRelaxedValue_87 rfl (lv_at hl 5 rfl) ?_
            refine lv_iload hx hb dX4_addRelaxedValue_88 (lv_at hl 0 rfl) ?_
            have hFc := pg_free hD hS hA
            obtain ⟨hi_63, ht_64, hq_65⟩ := hW.bytes hL_g1 hT_g1
            obtain ⟨z_66, o_67, hF_68, hq_69, hq_70⟩ := hO.bytes hL_g1 hT_g1
            refine va_callv (va_runV (As := [.int r_47]) (rest := []) ⟨hx, hb, hml, hown, hts⟩ (s_X0_add l dC dI cs ty L H.size F_56 g1 σ r1 n1 r_47 hW hL_g1 hT_g1) ⟨callB_of 1 hts (gi kt_13) rfl rfl rfl (hts _ kt_1) (hts _ kt_230) (by decide +kernel) ⟨Nat.le_of_ble_eq_true rfl, Nat.le_of_ble_eq_true rfl⟩, (hts _ kt_15), (hts _ kt_16)⟩ ⟨fun a U g mk q => ⟨q.1, PT.calling q.2⟩, pg_recv hK hP hL_g1 hF_68 (q := (RX0, TX0, 3)) rfl, fun U hU hWm => ⟨rfl, PT.mk hU hWm hP hK hD hE hO⟩⟩ rfl rfl hl.1 rfl (lv_room (Nat.le_of_ble_eq_true rfl)) dX4_addRelaxedValue_90 ⟨by show _ + 0 ≤ 0; omega, by show _ + 0 ≤ 0; omega⟩) hS (fun q _ h => hFc q h) hFc (fun u t H1 locs ht hvm hw hB hz1 hk1 hS => ?_)
            obtain ⟨F_72, hB1⟩ := hB
            obtain ⟨hP, hD, hO, hR⟩ := QT.back hB1 ht hFc hR (fun q h => by simp only [List.mem_cons, List.not_mem_nil, or_false] at h ⊢; omega)
            generalize H1 = H at hP hS ⊢
            refine lv_iconst (v := 1) hx hb dX4_addRelaxedValue_93 (by decide) ?_
            refine lv_istore (lv' := [(5, .int 1), (8, .int r_47), (7, .int (nI j)), (6, .int w6), (0, .ref h0), (1, .ref g1), (2, .int (nI jk)), (3, .int x3), (4, .int x4)]) hx hb dX4_addRelaxedValue_94 hl (by decide) rfl (fun ls hl => ?_)
            refine lv_iconst (v := 0) hx hb dX4_addRelaxedValue_96 (by decide) ?_
            refine lv_istore (lv' := [(6, .int 0), (5, .int 1), (8, .int r_47), (7, .int (nI j)), (0, .ref h0), (1, .ref g1), (2, .int (nI jk)), (3, .int x3), (4, .int x4)]) hx hb dX4_addRelaxedValue_97 hl (by decide) rfl (fun ls hl => ?_)
            refine lv_iinc (v := (nI (j + 1))) (lv' := [(7, .int (nI (j + 1))), (6, .int 0), (5, .int 1), (8, .int r_47), (0, .ref h0), (1, .ref g1), (2, .int (nI jk)), (3, .int x3), (4, .int x4)]) hx hb dX4_addRelaxedValue_99 hl (k := 3) rfl (nI_1 _) (by decide) rfl (fun ls hl => ?_)
            refine lv_goto (tgt := 16) hx hb dX4_addRelaxedValue_102 (by decide) ?_
            refine W.widen (k := 0) (n := 0) (by omega) (by omega) ?_
            exact ih_24 ((j + 1), 1, 0) F_72 (by first | omega | exact ⟨by omega, by omega⟩ | trivial) (by show 10002 - (j + 1) < 10002 - j; omega) hO hR _ _ hP hD hS ls (lv_sub hl [0, 1, 2, 4, 5, 6, 7, 8] rfl)
          ·
            refine lv_aload_n hx hb dX4_addRelaxedValue_81 rfl (lv_at hl 5 rfl) ?_
            refine lv_bipush (v := 32) hx hb dX4_addRelaxedValue_82 (by decide) ?_
            have hFc := pg_free hD hS hA
            obtain ⟨hi_73, ht_74, hq_75⟩ := hW.bytes hL_g1 hT_g1
            obtain ⟨z_76, o_77, hF_78, hq_79, hq_80⟩ := hO.bytes hL_g1 hT_g1
            refine va_callv (va_runV (As := [.int 32]) (rest := []) ⟨hx, hb, hml, hown, hts⟩ (s_X0_add l dC dI cs ty L H.size F_56 g1 σ r1 n1 32 hW hL_g1 hT_g1) ⟨callB_of 1 hts (gi kt_13) rfl rfl rfl (hts _ kt_1) (hts _ kt_230) (by decide +kernel) ⟨Nat.le_of_ble_eq_true rfl, Nat.le_of_ble_eq_true rfl⟩, (hts _ kt_15), (hts _ kt_16)⟩ ⟨fun a U g mk q => ⟨q.1, PT.calling q.2⟩, pg_recv hK hP hL_g1 hF_78 (q := (RX0, TX0, 3)) rfl, fun U hU hWm => ⟨rfl, PT.mk hU hWm hP hK hD hE hO⟩⟩ rfl rfl hl.1 rfl (lv_room (Nat.le_of_ble_eq_true rfl)) dX4_addRelaxedValue_84 ⟨by show _ + 0 ≤ 0; omega, by show _ + 0 ≤ 0; omega⟩) hS (fun q _ h => hFc q h) hFc (fun u t H1 locs ht hvm hw hB hz1 hk1 hS => ?_)
            obtain ⟨F_82, hB1⟩ := hB
            obtain ⟨hP, hD, hO, hR⟩ := QT.back hB1 ht hFc hR (fun q h => by simp only [List.mem_cons, List.not_mem_nil, or_false] at h ⊢; omega)
            generalize H1 = H at hP hS ⊢
            refine lv_aload_n hx hb dX4_addRelaxedValue_87 rfl (lv_at hl 5 rfl) ?_
            refine lv_iload hx hb dX4_addRelaxedValue_88 (lv_at hl 0 rfl) ?_
            have hFc := pg_free hD hS hA
            obtain ⟨z_83, o_84, hF_85, hq_86, hq_87⟩ := hO.bytes hL_g1 hT_g1
            refine va_callv (va_runV (As := [.int r_47]) (rest := []) ⟨hx, hb, hml, hown, hts⟩ (s_X0_add l dC dI cs ty L H.size F_82 g1 σ r1 n1 r_47 hW hL_g1 hT_g1) ⟨callB_of 1 hts (gi kt_13) rfl rfl rfl (hts _ kt_1) (hts _ kt_230) (by decide +kernel) ⟨Nat.le_of_ble_eq_true rfl, Nat.le_of_ble_eq_true rfl⟩, (hts _ kt_15), (hts _ kt_16)⟩ ⟨fun a U g mk q => ⟨q.1, PT.calling q.2⟩, pg_recv hK hP hL_g1 hF_85 (q := (RX0, TX0, 3)) rfl, fun U hU hWm => ⟨rfl, PT.mk hU hWm hP hK hD hE hO⟩⟩ rfl rfl hl.1 rfl (lv_room (Nat.le_of_ble_eq_true rfl)) dX4_addRelaxedValue_90 ⟨by show _ + 0 ≤ 0; omega, by show _ + 0 ≤ 0; omega⟩) hS (fun q _ h => hFc q h) hFc (fun u t H1 locs ht hvm hw hB hz1 hk1 hS => ?_)
            obtain ⟨F_89, hB1⟩ := hB
            obtain ⟨hP, hD, hO, hR⟩ := QT.back hB1 ht hFc hR (fun q h => by simp only [List.mem_cons, List.not_mem_nil, or_false] at h ⊢; omega)
            generalize H1 = H at hP hS ⊢
            refine lv_iconst (v := 1) hx hb dX4_addRelaxedValue_93 (by decide) ?_
            refine lv_istore (lv' := [(5, .int 1), (8, .int r_47), (7, .int (nI j)), (6, .int w6), (0, .ref h0), (1, .ref g1), (2, .int (nI jk)), (3, .int x3), (4, .int x4)]) hx hb dX4_addRelaxedValue_94 hl (by decide) rfl (fun ls hl => ?_)
            refine lv_iconst (v := 0) hx hb dX4_addRelaxedValue_96 (by decide) ?_
            refine lv_istore (lv' := [(6, .int 0), (5, .int 1), (8, .int r_47), (7, .int (nI j)), (0, .ref h0), (1, .ref g1), (2, .int (nI jk)), (3, .int x3), (4, .int x4)]) hx hb dX4_addRelaxedValue_97 hl (by decide) rfl (fun ls hl => ?_)
            refine lv_iinc (v := (nI (j + 1))) (lv' := [(7, .int (nI (j + 1))), (6, .int 0), (5, .int 1), (8, .int r_47), (0, .ref h0), (1, .ref g1), (2, .int (nI jk)), (3, .int x3), (4, .int x4)]) hx hb dX4_addRelaxedValue_99 hl (k := 3) rfl (nI_1 _) (by decide) rfl (fun ls hl => ?_)
            refine lv_goto (tgt := 16) hx hb dX4_addRelaxedValue_102 (by decide) ?_
            refine W.widen (k := 0) (n := 0) (by omega) (by omega) ?_
            exact ih_24 ((j + 1), 1, 0) F_89 (by first | omega | exact ⟨by omega, by omega⟩ | trivial) (by show 10002 - (j + 1) < 10002 - j; omega) hO hR _ _ hP hD hS ls (lv_sub hl [0, 1, 2, 4, 5, 6, 7, 8] rfl)
        ·
          refine lv_iload hx hb dX4_addRelaxedValue_69 (lv_at hl 3 rfl) ?_
          refine lv_istore (lv' := [(6, .int w5), (8, .int r_47), (7, .int (nI j)), (5, .int w5), (0, .ref h0), (1, .ref g1), (2, .int (nI jk)), (3, .int x3), (4, .int x4)]) hx hb dX4_addRelaxedValue_71 hl (by decide) rfl (fun ls hl => ?_)
          refine lv_goto (tgt := 99) hx hb dX4_addRelaxedValue_73 (by decide) ?_
          refine lv_iinc (v := (nI (j + 1))) (lv' := [(7, .int (nI (j + 1))), (6, .int w5), (8, .int r_47), (5, .int w5), (0, .ref h0), (1, .ref g1), (2, .int (nI jk)), (3, .int x3), (4, .int x4)]) hx hb dX4_addRelaxedValue_99 hl (k := 2) rfl (nI_1 _) (by decide) rfl (fun ls hl => ?_)
          refine lv_goto (tgt := 16) hx hb dX4_addRelaxedValue_102 (by decide) ?_
          refine W.widen (k := 0) (n := 0) (by omega) (by omega) ?_
          exact ih_24 ((j + 1), w5, w5) F_56 (by first | omega | exact ⟨by omega, by omega⟩ | trivial) (by show 10002 - (j + 1) < 10002 - j; omega) hO hR _ _ hP hD hS ls (lv_sub hl [0, 1, 3, 4, 5, 6, 7, 8] rfl)
      ·
        refine lv_iload hx hb dX4_addRelaxedValue_51 (lv_at hl 1 rfl) ?_
        refine lv_iload hx hb dX4_addRelaxedValue_53 (lv_at hl 8 rfl) ?_
        refine lv_icmp_ge (tgt := 61) hx hb dX4_addRelaxedValue_55 (by decide) (fun c_90 => ?_) (fun c_90 => ?_)
        ·
          refine lv_iload hx hb dX4_addRelaxedValue_61 (lv_at hl 0 rfl) ?_
          have hFc := pg_free hD hS hA
          refine va_calli (va_runS (As := [.int r_47]) (rest := []) ⟨hx, hb, hml, hown, hts⟩ (s_X0_isWhite l dC dI cs ty L H.size F_48 r_47 hW ) ⟨callB_of 1 hts (gi kt_195) rfl rfl rfl (hts _ kt_1) (hts _ kt_215) (by decide +kernel) ⟨Nat.le_of_ble_eq_true rfl, Nat.le_of_ble_eq_true rfl⟩, (hts _ kt_197)⟩ ⟨fun a U g mk q => ⟨q.1, PT.calling q.2⟩, fun U hU hWm => ⟨rfl, PT.mk hU hWm hP hK hD hE hO⟩⟩ rfl rfl hl.1 rfl (lv_room (Nat.le_of_ble_eq_true rfl)) dX4_addRelaxedValue_63 ⟨by show _ + 0 ≤ 0; omega, by show _ + 0 ≤ 0; omega⟩) hS (fun q _ h => hFc q h) hFc (fun r_91 u t H1 locs ht hvm hw hB hz1 hk1 hS => ?_)
          obtain ⟨F_92, hB1⟩ := hB
          obtain ⟨hP, hD, hO, hR⟩ := QT.back hB1 ht hFc hR (fun q h => absurd h List.not_mem_nil)
          have hF_93 : F_92 h0 = .inr (4, [.ref tx, .ref y0, .ref y1, .ref y2, .int (nI z_25), .int v0_26]) := (hB1.2.2.2 h0 List.not_mem_nil).trans hF_49
          have hF_94 : F_92 y2 = .inl (cs 16, 20, .inl f_29) := (hB1.2.2.2 y2 List.not_mem_nil).trans hF_50
          have hF_95 : F_92 tx = .inr (0, [.ref r_5, .int (nI z_42), .int o_43]) := (hB1.2.2.2 tx List.not_mem_nil).trans hF_51
          generalize H1 = H at hP hS ⊢
          have hw : (r_91 = 0 ∨ r_91 = 1) := hw
          have hw_96 := hw
          refine lv_if_eq (tgt := 76) hx hb dX4_addRelaxedValue_66 (by decide) (fun c_97 => ?_) (fun c_97 => ?_)
          ·
            refine lv_iload hx hb dX4_addRelaxedValue_76 (lv_at hl 2 rfl) ?_
            refine lv_if_eq (tgt := 87) hx hb dX4_addRelaxedValue_78 (by decide) (fun c_98 => ?_) (fun c_98 => ?_)
            ·
              refine lv_aload_n hx hb dX4_addRelaxedValue_87 rfl (lv_at hl 5 rfl) ?_
              refine lv_iload hx hb dX4_addRelaxedValue_88 (lv_at hl 0 rfl) ?_
              have hFc := pg_free hD hS hA
              obtain ⟨hi_99, ht_100, hq_101⟩ := hW.bytes hL_g1 hT_g1
              obtain ⟨z_102, o_103, hF_104, hq_105, hq_106⟩ := hO.bytes hL_g1 hT_g1
              refine va_callv (va_runV (As := [.int r_47]) (rest := []) ⟨hx, hb, hml, hown, hts⟩ (s_X0_add l dC dI cs ty L H.size F_92 g1 σ r1 n1 r_47 hW hL_g1 hT_g1) ⟨callB_of 1 hts (gi kt_13) rfl rfl rfl (hts _ kt_1) (hts _ kt_230) (by decide +kernel) ⟨Nat.le_of_ble_eq_true rfl, Nat.le_of_ble_eq_true rfl⟩, (hts _ kt_15), (hts _ kt_16)⟩ ⟨fun a U g mk q => ⟨q.1, PT.calling q.2⟩, pg_recv hK hP hL_g1 hF_104 (q := (RX0, TX0, 3)) rfl, fun U hU hWm => ⟨rfl, PT.mk hU hWm hP hK hD hE hO⟩⟩ rfl rfl hl.1 rfl (lv_room (Nat.le_of_ble_eq_true rfl)) dX4_addRelaxedValue_90 ⟨by show _ + 0 ≤ 0; omega, by show _ + 0 ≤ 0; omega⟩) hS (fun q _ h => hFc q h) hFc (fun u t H1 locs ht hvm hw hB hz1 hk1 hS => ?_)
              obtain ⟨F_108, hB1⟩ := hB
              obtain ⟨hP, hD, hO, hR⟩ := QT.back hB1 ht hFc hR (fun q h => by simp only [List.mem_cons, List.not_mem_nil, or_false] at h ⊢; omega)
              generalize H1 = H at hP hS ⊢
              refine lv_iconst (v := 1) hx hb dX4_addRelaxedValue_93 (by decide) ?_
              refine lv_istore (lv' := [(5, .int 1), (8, .int r_47), (7, .int (nI j)), (6, .int w6), (0, .ref h0), (1, .ref g1), (2, .int (nI jk)), (3, .int x3), (4, .int x4)]) hx hb dX4_addRelaxedValue_94 hl (by decide) rfl (fun ls hl => ?_)
              refine lv_iconst (v := 0) hx hb dX4_addRelaxedValue_96 (by decide) ?_
              refine lv_istore (lv' := [(6, .int 0), (5, .int 1), (8, .int r_47), (7, .int (nI j)), (0, .ref h0), (1, .ref g1), (2, .int (nI jk)), (3, .int x3), (4, .int x4)]) hx hb dX4_addRelaxedValue_97 hl (by decide) rfl (fun ls hl => ?_)
              refine lv_iinc (v := (nI (j + 1))) (lv' := [(7, .int (nI (j + 1))), (6, .int 0), (5, .int 1), (8, .int r_47), (0, .ref h0), (1, .ref g1), (2, .int (nI jk)), (3, .int x3), (4, .int x4)]) hx hb dX4_addRelaxedValue_99 hl (k := 3) rfl (nI_1 _) (by decide) rfl (fun ls hl => ?_)
              refine lv_goto (tgt := 16) hx hb dX4_addRelaxedValue_102 (by decide) ?_
              refine W.widen (k := 0) (n := 0) (by omega) (by omega) ?_
              exact ih_24 ((j + 1), 1, 0) F_108 (by first | omega | exact ⟨by omega, by omega⟩ | trivial) (by show 10002 - (j + 1) < 10002 - j; omega) hO hR _ _ hP hD hS ls (lv_sub hl [0, 1, 2, 4, 5, 6, 7, 8] rfl)
            ·
              refine lv_aload_n hx hb dX4_addRelaxedValue_81 rfl (lv_at hl 5 rfl) ?_
              refine lv_bipush (v := 32) hx hb dX4_addRelaxedValue_82 (by decide) ?_
              have hFc := pg_free hD hS hA
              obtain ⟨hi_109, ht_110, hq_111⟩ := hW.bytes hL_g1 hT_g1
              obtain ⟨z_112, o_113, hF_114, hq_115, hq_116⟩ := hO.bytes hL_g1 hT_g1
              refine va_callv (va_runV (As := [.int 32]) (rest := []) ⟨hx, hb, hml, hown, hts⟩ (s_X0_add l dC dI cs ty L H.size F_92 g1 σ r1 n1 32 hW hL_g1 hT_g1) ⟨callB_of 1 hts (gi kt_13) rfl rfl rfl (hts _ kt_1) (hts _ kt_230) (by decide +kernel) ⟨Nat.le_of_ble_eq_true rfl, Nat.le_of_ble_eq_true rfl⟩, (hts _ kt_15), (hts _ kt_16)⟩ ⟨fun a U g mk q => ⟨q.1, PT.calling q.2⟩, pg_recv hK hP hL_g1 hF_114 (q := (RX0, TX0, 3)) rfl, fun U hU hWm => ⟨rfl, PT.mk hU hWm hP hK hD hE hO⟩⟩ rfl rfl hl.1 rfl (lv_room (Nat.le_of_ble_eq_true rfl)) dX4_addRelaxedValue_84 ⟨by show _ + 0 ≤ 0; omega, by show _ + 0 ≤ 0; omega⟩) hS (fun q _ h => hFc q h) hFc (fun u t H1 locs ht hvm hw hB hz1 hk1 hS => ?_)
              obtain ⟨F_118, hB1⟩ := hB
              obtain ⟨hP, hD, hO, hR⟩ := QT.back hB1 ht hFc hR (fun q h => by simp only [List.mem_cons, List.not_mem_nil, or_false] at h ⊢; omega)
              generalize H1 = H at hP hS ⊢
              refine lv_aload_n hx hb dX4_addRelaxedValue_87 rfl (lv_at hl 5 rfl) ?_
              refine lv_iload hx hb dX4_addRelaxedValue_88 (lv_at hl 0 rfl) ?_
              have hFc := pg_free hD hS hA
              obtain ⟨z_119, o_120, hF_121, hq_122, hq_123⟩ := hO.bytes hL_g1 hT_g1
              refine va_callv (va_runV (As := [.int r_47]) (rest := []) ⟨hx, hb, hml, hown, hts⟩ (s_X0_add l dC dI cs ty L H.size F_118 g1 σ r1 n1 r_47 hW hL_g1 hT_g1) ⟨callB_of 1 hts (gi kt_13) rfl rfl rfl (hts _ kt_1) (hts _ kt_230) (by decide +kernel) ⟨Nat.le_of_ble_eq_true rfl, Nat.le_of_ble_eq_true rfl⟩, (hts _ kt_15), (hts _ kt_16)⟩ ⟨fun a U g mk q => ⟨q.1, PT.calling q.2⟩, pg_recv hK hP hL_g1 hF_121 (q := (RX0, TX0, 3)) rfl, fun U hU hWm => ⟨rfl, PT.mk hU hWm hP hK hD hE hO⟩⟩ rfl rfl hl.1 rfl (lv_room (Nat.le_of_ble_eq_true rfl)) dX4_addRelaxedValue_90 ⟨by show _ + 0 ≤ 0; omega, by show _ + 0 ≤ 0; omega⟩) hS (fun q _ h => hFc q h) hFc (fun u t H1 locs ht hvm hw hB hz1 hk1 hS => ?_)
              obtain ⟨F_125, hB1⟩ := hB
              obtain ⟨hP, hD, hO, hR⟩ := QT.back hB1 ht hFc hR (fun q h => by simp only [List.mem_cons, List.not_mem_nil, or_false] at h ⊢; omega)
              generalize H1 = H at hP hS ⊢
              refine lv_iconst (v := 1) hx hb dX4_addRelaxedValue_93 (by decide) ?_
              refine lv_istore (lv' := [(5, .int 1), (8, .int r_47), (7, .int (nI j)), (6, .int w6), (0, .ref h0), (1, .ref g1), (2, .int (nI jk)), (3, .int x3), (4, .int x4)]) hx hb dX4_addRelaxedValue_94 hl (by decide) rfl (fun ls hl => ?_)
              refine lv_iconst (v := 0) hx hb dX4_addRelaxedValue_96 (by decide) ?_
              refine lv_istore (lv' := [(6, .int 0), (5, .int 1), (8, .int r_47), (7, .int (nI j)), (0, .ref h0), (1, .ref g1), (2, .int (nI jk)), (3, .int x3), (4, .int x4)]) hx hb dX4_addRelaxedValue_97 hl (by decide) rfl (fun ls hl => ?_)
              refine lv_iinc (v := (nI (j + 1))) (lv' := [(7, .int (nI (j + 1))), (6, .int 0), (5, .int 1), (8, .int r_47), (0, .ref h0), (1, .ref g1), (2, .int (nI jk)), (3, .int x3), (4, .int x4)]) hx hb dX4_addRelaxedValue_99 hl (k := 3) rfl (nI_1 _) (by decide) rfl (fun ls hl => ?_)
              refine lv_goto (tgt := 16) hx hb dX4_addRelaxedValue_102 (by decide) ?_
              refine W.widen (k := 0) (n := 0) (by omega) (by omega) ?_
              exact ih_24 ((j + 1), 1, 0) F_125 (by first | omega | exact ⟨by omega, by omega⟩ | trivial) (by show 10002 - (j + 1) < 10002 - j; omega) hO hR _ _ hP hD hS ls (lv_sub hl [0, 1, 2, 4, 5, 6, 7, 8] rfl)
          ·
            refine lv_iload hx hb dX4_addRelaxedValue_69 (lv_at hl 3 rfl) ?_
            refine lv_istore (lv' := [(6, .int w5), (8, .int r_47), (7, .int (nI j)), (5, .int w5), (0, .ref h0), (1, .ref g1), (2, .int (nI jk)), (3, .int x3), (4, .int x4)]) hx hb dX4_addRelaxedValue_71 hl (by decide) rfl (fun ls hl => ?_)
            refine lv_goto (tgt := 99) hx hb dX4_addRelaxedValue_73 (by decide) ?_
            refine lv_iinc (v := (nI (j + 1))) (lv' := [(7, .int (nI (j + 1))), (6, .int w5), (8, .int r_47), (5, .int w5), (0, .ref h0), (1, .ref g1), (2, .int (nI jk)), (3, .int x3), (4, .int x4)]) hx hb dX4_addRelaxedValue_99 hl (k := 2) rfl (nI_1 _) (by decide) rfl (fun ls hl => ?_)
            refine lv_goto (tgt := 16) hx hb dX4_addRelaxedValue_102 (by decide) ?_
            refine W.widen (k := 0) (n := 0) (by omega) (by omega) ?_
            exact ih_24 ((j + 1), w5, w5) F_92 (by first | omega | exact ⟨by omega, by omega⟩ | trivial) (by show 10002 - (j + 1) < 10002 - j; omega) hO hR _ _ hP hD hS ls (lv_sub hl [0, 1, 3, 4, 5, 6, 7, 8] rfl)
        ·
          refine lv_goto (tgt := 99) hx hb dX4_addRelaxedValue_58 (by decide) ?_
          refine lv_iinc (v := (nI (j + 1))) (lv' := [(7, .int (nI (j + 1))), (8, .int r_47), (6, .int w6), (5, .int w5), (0, .ref h0), (1, .ref g1), (2, .int (nI jk)), (3, .int x3), (4, .int x4)]) hx hb dX4_addRelaxedValue_99 hl (k := 1) rfl (nI_1 _) (by decide) rfl (fun ls hl => ?_)
          refine lv_goto (tgt := 16) hx hb dX4_addRelaxedValue_102 (by decide) ?_
          refine W.widen (k := 0) (n := 0) (by omega) (by omega) ?_
          exact ih_24 ((j + 1), w5, w6) F_48 (by first | omega | exact ⟨by omega, by omega⟩ | trivial) (by show 10002 - (j + 1) < 10002 - j; omega) hO hR _ _ hP hD hS ls (lv_sub hl [0, 2, 3, 4, 5, 6, 7, 8] rfl)
set_option maxHeartbeats 4000000 in
set_option maxRecDepth 100000 in
theorem s_X4_addFieldWithout (l : Launch) (dC : Nat → ClassId) (dI : Nat → Nat → Nat) (cs : Nat → ClassId) (ty : TyM) (L : List Nat) (sz : Nat) (F : Nat → va_E) (h0 : Nat) (ρ : Nat) (tx : Nat) (y0 : Nat) (y1 : Nat) (y2 : Nat) (g1 : Nat) (σ : Nat) (r1 : Nat) (n1 : Nat) (x2 : Int32) (x3 : Int32) (x4 : Int32) (x5 : Int32) (hW : WT ty L) (hL_h0 : h0 ∈ L) (hT_h0 : ty h0 = (4, ρ, [tx, y0, y1, y2])) (hL_g1 : g1 ∈ L) (hT_g1 : ty g1 = (0, σ, [r1, n1])) (h40 : ¬ x4 < 0) : Met l yX4_addFieldWithout (.code yX4_addFieldWithout cX4_addFieldWithout 7 none :: tb) ({ frames := 2, cells := 0, slots := 0, locals := 74 }) (va_Pc [.ref h0, .ref g1, .int x2, .int x3, .int x4, .int x5] (PT (dC, dI) cs ty L F sz)) (va_Qv (fun _ : Unit => True) (fun _ T9 => ∃ F2 : Nat → va_E, QT (dC, dI) cs ty L [σ] F F2 (va_A (va_pl L F) sz) T9) (va_A (va_pl L F) sz)) 0 0 (va_A (va_pl L F) sz) := by
  refine Met.ofW (cc := cX4_addFieldWithout) (maxL := 7) (ret := none) (by decide) rfl ?_
  intro p e s m args below meth c s₁ B hml hv
  obtain ⟨rfl, hsz, hP, hK, hD0, hE, hO⟩ := hv
  have hx := B.exec
  have hb := B.bytes
  have hr := B.returns
  have hts : ∀ w ∈ tb, w.before _ s = true := fun w h => atoms_spec (ws := .code yX4_addFieldWithout cX4_addFieldWithout 7 none :: tb) B.pre w (List.mem_cons_of_mem _ h)
  have hown : s.vm.findClass RX4 = some m.cls := findClass_of_methodNamed B.named
  have hlocks := B.notSynchronized
  subst hsz
  have hD := hD0.self (sz := s.heap.size)
  generalize hAe : va_A (va_pl L F) s.heap.size = A at hD ⊢
  have hA : ∀ q : Nat, s.heap.size ≤ q → A q := fun q h => by rw [← hAe]; exact Or.inr h
  have hS : va_S A s.heap s.heap [] := va_S.rf
  have hR : FR ty [σ] F F := FR.refl
  have hl := lv_entry ([.ref h0, .ref g1, .int x2, .int x3, .int x4, .int x5]) (n := 7) (Nat.le_of_ble_eq_true rfl)
  rw [lg_entry_eq]
  generalize (lg_sl ([.ref h0, .ref g1, .int x2, .int x3, .int x4, .int x5]) ++ List.replicate (7 - (lg_sl ([.ref h0, .ref g1, .int x2, .int x3, .int x4, .int x5])).length) Slot.unset).toArray = ls at hl ⊢
  have hl : lv_has ls 7 [(0, .ref h0), (1, .ref g1), (2, .int x2), (3, .int x3), (4, .int x4), (5, .int x5)] := hl
  refine lv_iload_n hx hb dX4_addFieldWithout_0 rfl (lv_at hl 2 rfl) ?_
  refine lv_if_lt (tgt := 12) hx hb dX4_addFieldWithout_1 (by decide) (fun c_1 => ?_) (fun c_1 => ?_)
  ·
    refine W.widen (k := 0) (n := 0) (by omega) (by omega) ?_
    exact W.vret hx hb hr (fun t ht hWm => ⟨⟨(), rfl, trivial, ⟨F, QT.mk ht hP hD hO hR⟩⟩, hS.F ht⟩) hS.2.2 dX4_addFieldWithout_12
  ·
    refine lv_iload_n hx hb dX4_addFieldWithout_4 rfl (lv_at hl 2 rfl) ?_
    refine lv_aload_n hx hb dX4_addFieldWithout_5 rfl (lv_at hl 0 rfl) ?_
    obtain ⟨hi_2, hi_3, hi_4, hi_5, ⟨r_6, ht_7⟩, ht_8, ht_9, ht_10⟩ := hW.msg hL_h0 hT_h0
    obtain ⟨z_11, v0_12, hF_13, hq_14⟩ := hO.msg hL_h0 hT_h0
    refine pg_get (ci := 4) (v := .int (nI z_11)) (C := RX4) (T := TX4) (N := 6) hx hb hts it_4 hown hK hP hL_h0 hF_13 rfl 4 (by decide) (hts _ kt_203) (fun _ h9 => h9) rfl dX4_addFieldWithout_6 ?_
    refine lv_icmp_lt (tgt := 13) hx hb dX4_addFieldWithout_9 (by decide) (fun c_15 => ?_) (fun c_15 => ?_)
    ·
      obtain ⟨jk, hjk, rfl⟩ := nI_of c_1
      have hjkz : jk < z_11 := (nI_ltI hjk (by omega)).mp c_15
      refine lv_iload_n hx hb dX4_addFieldWithout_13 rfl (lv_at hl 3 rfl) ?_
      refine lv_if_eq (tgt := 77) hx hb dX4_addFieldWithout_14 (by decide) (fun c_16 => ?_) (fun c_16 => ?_)
      ·
        refine lv_iload hx hb dX4_addFieldWithout_77 (lv_at hl 4 rfl) ?_
        refine lv_iload hx hb dX4_addFieldWithout_79 (lv_at hl 5 rfl) ?_
        refine lv_icmp_ne (tgt := 107) hx hb dX4_addFieldWithout_81 (by decide) (fun c_17 => ?_) (fun c_17 => ?_)
        ·
          refine lv_aload_n hx hb dX4_addFieldWithout_107 rfl (lv_at hl 1 rfl) ?_
          refine lv_aload_n hx hb dX4_addFieldWithout_108 rfl (lv_at hl 0 rfl) ?_
          refine pg_get (ci := 4) (v := .ref tx) (C := RX4) (T := TX4) (N := 6) hx hb hts it_4 hown hK hP hL_h0 hF_13 rfl 0 (by decide) (hts _ kt_207) (fun _ h9 => h9) rfl dX4_addFieldWithout_109 ?_
          refine lv_aload_n hx hb dX4_addFieldWithout_112 rfl (lv_at hl 0 rfl) ?_
          refine pg_get (ci := 4) (v := .ref y0) (C := RX4) (T := TX4) (N := 6) hx hb hts it_4 hown hK hP hL_h0 hF_13 rfl 1 (by decide) (hts _ kt_205) (fun _ h9 => h9) rfl dX4_addFieldWithout_113 ?_
          refine lv_iload_n hx hb dX4_addFieldWithout_116 rfl (lv_at hl 2 rfl) ?_
          obtain ⟨f_18, hF_19, hq_20⟩ := hO.idx hi_3 ht_8
          refine pg_iald hx hb hK hP hi_3 0 hF_19 rfl (vp_in_nI (by omega) (by omega)) dX4_addFieldWithout_117 ?_
          obtain ⟨k_21, hk_22, ek_23⟩ := hq_20 ((nI jk) : Int32).toNatClampNeg
          refine lv_topi (fun x_24 ex_24 => ?_)
          obtain rfl : x_24 = nI k_21 := ex_24.trans ek_23
          refine lv_iload hx hb dX4_addFieldWithout_118 (lv_at hl 4 rfl) ?_
          have hFc := pg_free hD hS hA
          obtain ⟨hi_25, ht_26, hq_27⟩ := hW.bytes hL_g1 hT_g1
          obtain ⟨z_28, o_29, hF_30, hq_31, hq_32⟩ := hO.bytes hL_g1 hT_g1
          refine va_callv (va_runV (As := [.ref tx, .int (nI k_21), .int x4]) (rest := []) ⟨hx, hb, hml, hown, hts⟩ (s_X0_addRange l dC dI cs ty L s.heap.size F g1 σ r1 n1 tx (ρ + 1) r_6 3000 (nI k_21) x4 hW hL_g1 hT_g1 hi_2 ht_7 (h40)) ⟨callB_of 3 hts (gi kt_36) rfl rfl rfl (hts _ kt_1) (hts _ kt_231) (by decide +kernel) ⟨Nat.le_of_ble_eq_true rfl, Nat.le_of_ble_eq_true rfl⟩, (hts _ kt_38), (hts _ kt_39)⟩ ⟨fun a U g mk q => ⟨q.1, PT.calling q.2⟩, pg_recv hK hP hL_g1 hF_30 (q := (RX0, TX0, 3)) rfl, fun U hU hWm => ⟨rfl, PT.mk hU hWm hP hK hD hE hO⟩⟩ rfl rfl hl.1 rfl (lv_room (Nat.le_of_ble_eq_true rfl)) dX4_addFieldWithout_120 ⟨by show _ + 0 ≤ 0; omega, by show _ + 0 ≤ 0; omega⟩) hS (fun q _ h => hFc q h) hFc (fun u t H1 locs ht hvm hw hB hz1 hk1 hS => ?_)
          obtain ⟨F_34, hB1⟩ := hB
          obtain ⟨hP, hD, hO, hR⟩ := QT.back hB1 ht hFc hR (fun q h => by simp only [List.mem_cons, List.not_mem_nil, or_false] at h ⊢; omega)
          generalize H1 = H at hP hS ⊢
          refine lv_aload_n hx hb dX4_addFieldWithout_123 rfl (lv_at hl 1 rfl) ?_
          refine lv_aload_n hx hb dX4_addFieldWithout_124 rfl (lv_at hl 0 rfl) ?_
          obtain ⟨z_35, v0_36, hF_37, hq_38⟩ := hO.msg hL_h0 hT_h0
          refine pg_get (ci := 4) (v := .ref tx) (C := RX4) (T := TX4) (N := 6) hx hb hts it_4 hown hK hP hL_h0 hF_37 rfl 0 (by decide) (hts _ kt_207) (fun _ h9 => h9) rfl dX4_addFieldWithout_125 ?_
          refine lv_iload hx hb dX4_addFieldWithout_128 (lv_at hl 5 rfl) ?_
          refine lv_aload_n hx hb dX4_addFieldWithout_130 rfl (lv_at hl 0 rfl) ?_
          refine pg_get (ci := 4) (v := .ref y2) (C := RX4) (T := TX4) (N := 6) hx hb hts it_4 hown hK hP hL_h0 hF_37 rfl 3 (by decide) (hts _ kt_220) (fun _ h9 => h9) rfl dX4_addFieldWithout_131 ?_
          refine lv_iload_n hx hb dX4_addFieldWithout_134 rfl (lv_at hl 2 rfl) ?_
          obtain ⟨f_39, hF_40, hq_41⟩ := hO.idx hi_5 ht_10
          refine pg_iald hx hb hK hP hi_5 0 hF_40 rfl (vp_in_nI (by omega) (by omega)) dX4_addFieldWithout_135 ?_
          obtain ⟨k_42, hk_43, ek_44⟩ := hq_41 ((nI jk) : Int32).toNatClampNeg
          refine lv_topi (fun x_45 ex_45 => ?_)
          obtain rfl : x_45 = nI k_42 := ex_45.trans ek_44
          have hFc := pg_free hD hS hA
          obtain ⟨z_46, o_47, hF_48, hq_49, hq_50⟩ := hO.bytes hL_g1 hT_g1
          refine va_callv (va_runV (As := [.ref tx, .int x5, .int (nI k_42)]) (rest := []) ⟨hx, hb, hml, hown, hts⟩ (s_X0_addRange l dC dI cs ty L H.size F_34 g1 σ r1 n1 tx (ρ + 1) r_6 3000 x5 (nI k_42) hW hL_g1 hT_g1 hi_2 ht_7 (nI_pos (by omega))) ⟨callB_of 3 hts (gi kt_36) rfl rfl rfl (hts _ kt_1) (hts _ kt_231) (by decide +kernel) ⟨Nat.le_of_ble_eq_true rfl, Nat.le_of_ble_eq_true rfl⟩, (hts _ kt_38), (hts _ kt_39)⟩ ⟨fun a U g mk q => ⟨q.1, PT.calling q.2⟩, pg_recv hK hP hL_g1 hF_48 (q := (RX0, TX0, 3)) rfl, fun U hU hWm => ⟨rfl, PT.mk hU hWm hP hK hD hE hO⟩⟩ rfl rfl hl.1 rfl (lv_room (Nat.le_of_ble_eq_true rfl)) dX4_addFieldWithout_136 ⟨by show _ + 0 ≤ 0; omega, by show _ + 0 ≤ 0; omega⟩) hS (fun q _ h => hFc q h) hFc (fun u t H1 locs ht hvm hw hB hz1 hk1 hS => ?_)
          obtain ⟨F_52, hB1⟩ := hB
          obtain ⟨hP, hD, hO, hR⟩ := QT.back hB1 ht hFc hR (fun q h => by simp only [List.mem_cons, List.not_mem_nil, or_false] at h ⊢; omega)
          generalize H1 = H at hP hS ⊢
          refine W.widen (k := 0) (n := 0) (by omega) (by omega) ?_
          exact W.vret hx hb hr (fun t ht hWm => ⟨⟨(), rfl, trivial, ⟨F_52, QT.mk ht hP hD hO hR⟩⟩, hS.F ht⟩) hS.2.2 dX4_addFieldWithout_139
        ·
          refine lv_aload_n hx hb dX4_addFieldWithout_84 rfl (lv_at hl 1 rfl) ?_
          refine lv_aload_n hx hb dX4_addFieldWithout_85 rfl (lv_at hl 0 rfl) ?_
          refine pg_get (ci := 4) (v := .ref tx) (C := RX4) (T := TX4) (N := 6) hx hb hts it_4 hown hK hP hL_h0 hF_13 rfl 0 (by decide) (hts _ kt_207) (fun _ h9 => h9) rfl dX4_addFieldWithout_86 ?_
          refine lv_aload_n hx hb dX4_addFieldWithout_89 rfl (lv_at hl 0 rfl) ?_
          refine pg_get (ci := 4) (v := .ref y0) (C := RX4) (T := TX4) (N := 6) hx hb hts it_4 hown hK hP hL_h0 hF_13 rfl 1 (by decide) (hts _ kt_205) (fun _ h9 => h9) rfl dX4_addFieldWithout_90 ?_
          refine lv_iload_n hx hb dX4_addFieldWithout_93 rfl (lv_at hl 2 rfl) ?_
          obtain ⟨f_53, hF_54, hq_55⟩ := hO.idx hi_3 ht_8
          refine pg_iald hx hb hK hP hi_3 0 hF_54 rfl (vp_in_nI (by omega) (by omega)) dX4_addFieldWithout_94 ?_
          obtain ⟨k_56, hk_57, ek_58⟩ := hq_55 ((nI jk) : Int32).toNatClampNeg
          refine lv_topi (fun x_59 ex_59 => ?_)
          obtain rfl : x_59 = nI k_56 := ex_59.trans ek_58
          refine lv_aload_n hx hb dX4_addFieldWithout_95 rfl (lv_at hl 0 rfl) ?_
          refine pg_get (ci := 4) (v := .ref y2) (C := RX4) (T := TX4) (N := 6) hx hb hts it_4 hown hK hP hL_h0 hF_13 rfl 3 (by decide) (hts _ kt_220) (fun _ h9 => h9) rfl dX4_addFieldWithout_96 ?_
          refine lv_iload_n hx hb dX4_addFieldWithout_99 rfl (lv_at hl 2 rfl) ?_
          obtain ⟨f_60, hF_61, hq_62⟩ := hO.idx hi_5 ht_10
          refine pg_iald hx hb hK hP hi_5 0 hF_61 rfl (vp_in_nI (by omega) (by omega)) dX4_addFieldWithout_100 ?_
          obtain ⟨k_63, hk_64, ek_65⟩ := hq_62 ((nI jk) : Int32).toNatClampNeg
          refine lv_topi (fun x_66 ex_66 => ?_)
          obtain rfl : x_66 = nI k_63 := ex_66.trans ek_65
          have hFc := pg_free hD hS hA
          obtain ⟨hi_67, ht_68, hq_69⟩ := hW.bytes hL_g1 hT_g1
          obtain ⟨z_70, o_71, hF_72, hq_73, hq_74⟩ := hO.bytes hL_g1 hT_g1
          refine va_callv (va_runV (As := [.ref tx, .int (nI k_56), .int (nI k_63)]) (rest := []) ⟨hx, hb, hml, hown, hts⟩ (s_X0_addRange l dC dI cs ty L s.heap.size F g1 σ r1 n1 tx (ρ + 1) r_6 3000 (nI k_56) (nI k_63) hW hL_g1 hT_g1 hi_2 ht_7 (nI_pos (by omega))) ⟨callB_of 3 hts (gi kt_36) rfl rfl rfl (hts _ kt_1) (hts _ kt_231) (by decide +kernel) ⟨Nat.le_of_ble_eq_true rfl, Nat.le_of_ble_eq_true rfl⟩, (hts _ kt_38), (hts _ kt_39)⟩ ⟨fun a U g mk q => ⟨q.1, PT.calling q.2⟩, pg_recv hK hP hL_g1 hF_72 (q := (RX0, TX0, 3)) rfl, fun U hU hWm => ⟨rfl, PT.mk hU hWm hP hK hD hE hO⟩⟩ rfl rfl hl.1 rfl (lv_room (Nat.le_of_ble_eq_true rfl)) dX4_addFieldWithout_101 ⟨by show _ + 0 ≤ 0; omega, by show _ + 0 ≤ 0; omega⟩) hS (fun q _ h => hFc q h) hFc (fun u t H1 locs ht hvm hw hB hz1 hk1 hS => ?_)
          obtain ⟨F_76, hB1⟩ := hB
          obtain ⟨hP, hD, hO, hR⟩ := QT.back hB1 ht hFc hR (fun q h => by simp only [List.mem_cons, List.not_mem_nil, or_false] at h ⊢; omega)
          generalize H1 = H at hP hS ⊢
          refine lv_goto (tgt := 139) hx hb dX4_addFieldWithout_104 (by decide) ?_
          refine W.widen (k := 0) (n := 0) (by omega) (by omega) ?_
          exact W.vret hx hb hr (fun t ht hWm => ⟨⟨(), rfl, trivial, ⟨F_76, QT.mk ht hP hD hO hR⟩⟩, hS.F ht⟩) hS.2.2 dX4_addFieldWithout_139
      ·
        refine lv_aload_n hx hb dX4_addFieldWithout_17 rfl (lv_at hl 0 rfl) ?_
        refine pg_get (ci := 4) (v := .ref y0) (C := RX4) (T := TX4) (N := 6) hx hb hts it_4 hown hK hP hL_h0 hF_13 rfl 1 (by decide) (hts _ kt_205) (fun _ h9 => h9) rfl dX4_addFieldWithout_18 ?_
        refine lv_iload_n hx hb dX4_addFieldWithout_21 rfl (lv_at hl 2 rfl) ?_
        obtain ⟨f_77, hF_78, hq_79⟩ := hO.idx hi_3 ht_8
        refine pg_iald hx hb hK hP hi_3 0 hF_78 rfl (vp_in_nI (by omega) (by omega)) dX4_addFieldWithout_22 ?_
        obtain ⟨k_80, hk_81, ek_82⟩ := hq_79 ((nI jk) : Int32).toNatClampNeg
        refine lv_topi (fun x_83 ex_83 => ?_)
        obtain rfl : x_83 = nI k_80 := ex_83.trans ek_82
        refine lv_istore (lv' := [(6, .int (nI k_80)), (0, .ref h0), (1, .ref g1), (2, .int (nI jk)), (3, .int x3), (4, .int x4), (5, .int x5)]) hx hb dX4_addFieldWithout_23 hl (by decide) rfl (fun ls hl => ?_)
        refine W.widen (k := 0) (n := 0) (by omega) (by omega) ?_
        refine pl_loop (σ := Nat) A (dC, dI) cs ty L [σ] F 25 7 (fun j => [(6, .int (nI j)), (0, .ref h0), (1, .ref g1), (2, .int (nI jk)), (3, .int x3), (4, .int x4), (5, .int x5)]) (fun j => []) (fun j _ => j ≤ 10002) (fun j => 10002 - j) ?_ k_80 F (by omega) hO hR _ _ hP hD hS ls (lv_sub hl [0, 1, 2, 3, 4, 5, 6] rfl)
        rintro j F_84 hv_85 hO hR ih_86 H locs hP hD hS ls hl
        have hl : lv_has ls 7 [(6, .int (nI j)), (0, .ref h0), (1, .ref g1), (2, .int (nI jk)), (3, .int x3), (4, .int x4), (5, .int x5)] := hl
        have hv_85 : j ≤ 10002 := hv_85
        refine W.eq (g2 := F0 m 25 ls []) rfl ?_
        refine lv_iload hx hb dX4_addFieldWithout_25 (lv_at hl 0 rfl) ?_
        refine lv_aload_n hx hb dX4_addFieldWithout_27 rfl (lv_at hl 1 rfl) ?_
        obtain ⟨z_87, v0_88, hF_89, hq_90⟩ := hO.msg hL_h0 hT_h0
        refine pg_get (ci := 4) (v := .ref y1) (C := RX4) (T := TX4) (N := 6) hx hb hts it_4 hown hK hP hL_h0 hF_89 rfl 2 (by decide) (hts _ kt_204) (fun _ h9 => h9) rfl dX4_addFieldWithout_28 ?_
        refine lv_iload_n hx hb dX4_addFieldWithout_31 rfl (lv_at hl 3 rfl) ?_
        obtain ⟨f_91, hF_92, hq_93⟩ := hO.idx hi_4 ht_9
        refine pg_iald hx hb hK hP hi_4 0 hF_92 rfl (vp_in_nI (by omega) (by omega)) dX4_addFieldWithout_32 ?_
        obtain ⟨k_94, hk_95, ek_96⟩ := hq_93 ((nI jk) : Int32).toNatClampNeg
        refine lv_topi (fun x_97 ex_97 => ?_)
        obtain rfl : x_97 = nI k_94 := ex_97.trans ek_96
        refine lv_icmp_ge (tgt := 58) hx hb dX4_addFieldWithout_33 (by decide) (fun c_98 => ?_) (fun c_98 => ?_)
        ·
          have hi_99 : k_94 ≤ j := leN (N := k_94) c_98
          refine lv_aload_n hx hb dX4_addFieldWithout_58 rfl (lv_at hl 2 rfl) ?_
          refine lv_bipush (v := 58) hx hb dX4_addFieldWithout_59 (by decide) ?_
          have hFc := pg_free hD hS hA
          obtain ⟨hi_100, ht_101, hq_102⟩ := hW.bytes hL_g1 hT_g1
          obtain ⟨z_103, o_104, hF_105, hq_106, hq_107⟩ := hO.bytes hL_g1 hT_g1
          refine va_callv (va_runV (As := [.int 58]) (rest := []) ⟨hx, hb, hml, hown, hts⟩ (s_X0_add l dC dI cs ty L H.size F_84 g1 σ r1 n1 58 hW hL_g1 hT_g1) ⟨callB_of 1 hts (gi kt_13) rfl rfl rfl (hts _ kt_1) (hts _ kt_230) (by decide +kernel) ⟨Nat.le_of_ble_eq_true rfl, Nat.le_of_ble_eq_true rfl⟩, (hts _ kt_15), (hts _ kt_16)⟩ ⟨fun a U g mk q => ⟨q.1, PT.calling q.2⟩, pg_recv hK hP hL_g1 hF_105 (q := (RX0, TX0, 3)) rfl, fun U hU hWm => ⟨rfl, PT.mk hU hWm hP hK hD hE hO⟩⟩ rfl rfl hl.1 rfl (lv_room (Nat.le_of_ble_eq_true rfl)) dX4_addFieldWithout_61 ⟨by show _ + 0 ≤ 0; omega, by show _ + 0 ≤ 0; omega⟩) hS (fun q _ h => hFc q h) hFc (fun u t H1 locs ht hvm hw hB hz1 hk1 hS => ?_)
          obtain ⟨F_109, hB1⟩ := hB
          obtain ⟨hP, hD, hO, hR⟩ := QT.back hB1 ht hFc hR (fun q h => by simp only [List.mem_cons, List.not_mem_nil, or_false] at h ⊢; omega)
          generalize H1 = H at hP hS ⊢
          refine lv_aload_n hx hb dX4_addFieldWithout_64 rfl (lv_at hl 1 rfl) ?_
          refine lv_aload_n hx hb dX4_addFieldWithout_65 rfl (lv_at hl 2 rfl) ?_
          refine lv_iload_n hx hb dX4_addFieldWithout_66 rfl (lv_at hl 3 rfl) ?_
          refine lv_iload hx hb dX4_addFieldWithout_67 (lv_at hl 5 rfl) ?_
          refine lv_iload hx hb dX4_addFieldWithout_69 (lv_at hl 6 rfl) ?_
          have hFc := pg_free hD hS hA
          obtain ⟨z_110, v0_111, hF_112, hq_113⟩ := hO.msg hL_h0 hT_h0
          refine va_callv (va_runV (As := [.ref g1, .int (nI jk), .int x4, .int x5]) (rest := []) ⟨hx, hb, hml, hown, hts⟩ (s_X4_addRelaxedValue l dC dI cs ty L H.size F_109 h0 ρ tx y0 y1 y2 g1 σ r1 n1 jk x4 x5 hW hL_h0 hT_h0 hL_g1 hT_g1 (by omega)) ⟨callB_of 4 hts (gi kt_232) rfl rfl rfl (hts _ kt_211) (hts _ kt_233) (by decide +kernel) ⟨Nat.le_of_ble_eq_true rfl, Nat.le_of_ble_eq_true rfl⟩, (hts _ kt_234), (hts _ kt_235)⟩ ⟨fun a U g mk q => ⟨q.1, PT.calling q.2⟩, pg_recv hK hP hL_h0 hF_112 (q := (RX4, TX4, 6)) rfl, fun U hU hWm => ⟨rfl, PT.mk hU hWm hP hK hD hE hO⟩⟩ rfl rfl hl.1 rfl (lv_room (Nat.le_of_ble_eq_true rfl)) dX4_addFieldWithout_71 ⟨by show _ + 0 ≤ 0; omega, by show _ + 0 ≤ 0; omega⟩) hS (fun q _ h => hFc q h) hFc (fun u t H1 locs ht hvm hw hB hz1 hk1 hS => ?_)
          obtain ⟨F_115, hB1⟩ := hB
          obtain ⟨hP, hD, hO, hR⟩ := QT.back hB1 ht hFc hR (fun q h => by simp only [List.mem_cons, List.not_mem_nil, or_false] at h ⊢; omega)
          generalize H1 = H at hP hS ⊢
          refine lv_goto (tgt := 139) hx hb dX4_addFieldWithout_74 (by decide) ?_
          refine W.widen (k := 0) (n := 0) (by omega) (by omega) ?_
          exact W.vret hx hb hr (fun t ht hWm => ⟨⟨(), rfl, trivial, ⟨F_115, QT.mk ht hP hD hO hR⟩⟩, hS.F ht⟩) hS.2.2 dX4_addFieldWithout_139
        ·
          have hi_116 : j < k_94 := ltN (N := k_94) c_98
          refine lv_aload_n hx hb dX4_addFieldWithout_36 rfl (lv_at hl 2 rfl) ?_
          refine lv_aload_n hx hb dX4_addFieldWithout_37 rfl (lv_at hl 1 rfl) ?_
          refine pg_get (ci := 4) (v := .ref tx) (C := RX4) (T := TX4) (N := 6) hx hb hts it_4 hown hK hP hL_h0 hF_89 rfl 0 (by decide) (hts _ kt_207) (fun _ h9 => h9) rfl dX4_addFieldWithout_38 ?_
          refine lv_iload hx hb dX4_addFieldWithout_41 (lv_at hl 0 rfl) ?_
          have hFc := pg_free hD hS hA
          obtain ⟨hi_117, ht_118, hq_119⟩ := hW.bytes hi_2 ht_7
          obtain ⟨z_120, o_121, hF_122, hq_123, hq_124⟩ := hO.bytes hi_2 ht_7
          refine va_calli (va_runV (As := [.int (nI j)]) (rest := [.ref g1]) ⟨hx, hb, hml, hown, hts⟩ (s_X0_at l dC dI cs ty L H.size F_84 tx (ρ + 1) r_6 3000 (nI j) hW hi_2 ht_7) ⟨callB_of 1 hts (gi kt_21) rfl rfl rfl (hts _ kt_1) (hts _ kt_199) (by decide +kernel) ⟨Nat.le_of_ble_eq_true rfl, Nat.le_of_ble_eq_true rfl⟩, (hts _ kt_23), (hts _ kt_24)⟩ ⟨fun a U g mk q => ⟨q.1, PT.calling q.2⟩, pg_recv hK hP hi_2 hF_122 (q := (RX0, TX0, 3)) rfl, fun U hU hWm => ⟨rfl, PT.mk hU hWm hP hK hD hE hO⟩⟩ rfl rfl hl.1 rfl (lv_room (Nat.le_of_ble_eq_true rfl)) dX4_addFieldWithout_43 ⟨by show _ + 0 ≤ 0; omega, by show _ + 0 ≤ 0; omega⟩) hS (fun q _ h => hFc q h) hFc (fun r_125 u t H1 locs ht hvm hw hB hz1 hk1 hS => ?_)
          obtain ⟨F_126, hB1⟩ := hB
          obtain ⟨hP, hD, hO, hR⟩ := QT.back hB1 ht hFc hR (fun q h => absurd h List.not_mem_nil)
          have hF_127 : F_126 h0 = .inr (4, [.ref tx, .ref y0, .ref y1, .ref y2, .int (nI z_87), .int v0_88]) := (hB1.2.2.2 h0 List.not_mem_nil).trans hF_89
          have hF_128 : F_126 y1 = .inl (cs 16, 20, .inl f_91) := (hB1.2.2.2 y1 List.not_mem_nil).trans hF_92
          have hF_129 : F_126 tx = .inr (0, [.ref r_6, .int (nI z_120), .int o_121]) := (hB1.2.2.2 tx List.not_mem_nil).trans hF_122
          generalize H1 = H at hP hS ⊢
          have hw : True := hw
          have hw_130 := hw
          have hFc := pg_free hD hS hA
          refine va_calli (va_runS (As := [.int r_125]) (rest := [.ref g1]) ⟨hx, hb, hml, hown, hts⟩ (s_X0_smallOf l dC dI cs ty L H.size F_126 r_125 hW ) ⟨callB_of 1 hts (gi kt_0) rfl rfl rfl (hts _ kt_1) (hts _ kt_208) (by decide +kernel) ⟨Nat.le_of_ble_eq_true rfl, Nat.le_of_ble_eq_true rfl⟩, (hts _ kt_3)⟩ ⟨fun a U g mk q => ⟨q.1, PT.calling q.2⟩, fun U hU hWm => ⟨rfl, PT.mk hU hWm hP hK hD hE hO⟩⟩ rfl rfl hl.1 rfl (lv_room (Nat.le_of_ble_eq_true rfl)) dX4_addFieldWithout_46 ⟨by show _ + 0 ≤ 0; omega, by show _ + 0 ≤ 0; omega⟩) hS (fun q _ h => hFc q h) hFc (fun r_131 u t H1 locs ht hvm hw hB hz1 hk1 hS => ?_)
          obtain ⟨F_132, hB1⟩ := hB
          obtain ⟨hP, hD, hO, hR⟩ := QT.back hB1 ht hFc hR (fun q h => absurd h List.not_mem_nil)
          have hF_133 : F_132 h0 = .inr (4, [.ref tx, .ref y0, .ref y1, .ref y2, .int (nI z_87), .int v0_88]) := (hB1.2.2.2 h0 List.not_mem_nil).trans hF_127
          have hF_134 : F_132 y1 = .inl (cs 16, 20, .inl f_91) := (hB1.2.2.2 y1 List.not_mem_nil).trans hF_128
          have hF_135 : F_132 tx = .inr (0, [.ref r_6, .int (nI z_120), .int o_121]) := (hB1.2.2.2 tx List.not_mem_nil).trans hF_129
          generalize H1 = H at hP hS ⊢
          have hw : True := hw
          have hw_136 := hw
          have hFc := pg_free hD hS hA
          obtain ⟨hi_137, ht_138, hq_139⟩ := hW.bytes hL_g1 hT_g1
          obtain ⟨z_140, o_141, hF_142, hq_143, hq_144⟩ := hO.bytes hL_g1 hT_g1
          refine va_callv (va_runV (As := [.int r_131]) (rest := []) ⟨hx, hb, hml, hown, hts⟩ (s_X0_add l dC dI cs ty L H.size F_132 g1 σ r1 n1 r_131 hW hL_g1 hT_g1) ⟨callB_of 1 hts (gi kt_13) rfl rfl rfl (hts _ kt_1) (hts _ kt_230) (by decide +kernel) ⟨Nat.le_of_ble_eq_true rfl, Nat.le_of_ble_eq_true rfl⟩, (hts _ kt_15), (hts _ kt_16)⟩ ⟨fun a U g mk q => ⟨q.1, PT.calling q.2⟩, pg_recv hK hP hL_g1 hF_142 (q := (RX0, TX0, 3)) rfl, fun U hU hWm => ⟨rfl, PT.mk hU hWm hP hK hD hE hO⟩⟩ rfl rfl hl.1 rfl (lv_room (Nat.le_of_ble_eq_true rfl)) dX4_addFieldWithout_49 ⟨by show _ + 0 ≤ 0; omega, by show _ + 0 ≤ 0; omega⟩) hS (fun q _ h => hFc q h) hFc (fun u t H1 locs ht hvm hw hB hz1 hk1 hS => ?_)
          obtain ⟨F_146, hB1⟩ := hB
          obtain ⟨hP, hD, hO, hR⟩ := QT.back hB1 ht hFc hR (fun q h => by simp only [List.mem_cons, List.not_mem_nil, or_false] at h ⊢; omega)
          generalize H1 = H at hP hS ⊢
          refine lv_iinc (v := (nI (j + 1))) (lv' := [(6, .int (nI (j + 1))), (0, .ref h0), (1, .ref g1), (2, .int (nI jk)), (3, .int x3), (4, .int x4), (5, .int x5)]) hx hb dX4_addFieldWithout_52 hl (k := 0) rfl (nI_1 _) (by decide) rfl (fun ls hl => ?_)
          refine lv_goto (tgt := 25) hx hb dX4_addFieldWithout_55 (by decide) ?_
          refine W.widen (k := 0) (n := 0) (by omega) (by omega) ?_
          exact ih_86 (j + 1) F_146 (by first | omega | exact ⟨by omega, by omega⟩ | trivial) (by show 10002 - (j + 1) < 10002 - j; omega) hO hR _ _ hP hD hS ls (lv_sub hl [0, 1, 2, 3, 4, 5, 6] rfl)
    ·
      refine W.widen (k := 0) (n := 0) (by omega) (by omega) ?_
      exact W.vret hx hb hr (fun t ht hWm => ⟨⟨(), rfl, trivial, ⟨F, QT.mk ht hP hD hO hR⟩⟩, hS.F ht⟩) hS.2.2 dX4_addFieldWithout_12
set_option maxHeartbeats 4000000 in
set_option maxRecDepth 100000 in
theorem s_X4_addBody (l : Launch) (dC : Nat → ClassId) (dI : Nat → Nat → Nat) (cs : Nat → ClassId) (ty : TyM) (L : List Nat) (sz : Nat) (F : Nat → va_E) (h0 : Nat) (ρ : Nat) (tx : Nat) (y0 : Nat) (y1 : Nat) (y2 : Nat) (g1 : Nat) (σ : Nat) (r1 : Nat) (n1 : Nat) (x2 : Int32) (hW : WT ty L) (hL_h0 : h0 ∈ L) (hT_h0 : ty h0 = (4, ρ, [tx, y0, y1, y2])) (hL_g1 : g1 ∈ L) (hT_g1 : ty g1 = (0, σ, [r1, n1])) : Met l yX4_addBody (.code yX4_addBody cX4_addBody 4 none :: tb) ({ frames := 2, cells := 0, slots := 0, locals := 74 }) (va_Pc [.ref h0, .ref g1, .int x2] (PT (dC, dI) cs ty L F sz)) (va_Qv (fun _ : Unit => True) (fun _ T9 => ∃ F2 : Nat → va_E, QT (dC, dI) cs ty L [σ] F F2 (va_A (va_pl L F) sz) T9) (va_A (va_pl L F) sz)) 0 0 (va_A (va_pl L F) sz) := by
  refine Met.ofW (cc := cX4_addBody) (maxL := 4) (ret := none) (by decide) rfl ?_
  intro p e s m args below meth c s₁ B hml hv
  obtain ⟨rfl, hsz, hP, hK, hD0, hE, hO⟩ := hv
  have hx := B.exec
  have hb := B.bytes
  have hr := B.returns
  have hts : ∀ w ∈ tb, w.before _ s = true := fun w h => atoms_spec (ws := .code yX4_addBody cX4_addBody 4 none :: tb) B.pre w (List.mem_cons_of_mem _ h)
  have hown : s.vm.findClass RX4 = some m.cls := findClass_of_methodNamed B.named
  have hlocks := B.notSynchronized
  subst hsz
  have hD := hD0.self (sz := s.heap.size)
  generalize hAe : va_A (va_pl L F) s.heap.size = A at hD ⊢
  have hA : ∀ q : Nat, s.heap.size ≤ q → A q := fun q h => by rw [← hAe]; exact Or.inr h
  have hS : va_S A s.heap s.heap [] := va_S.rf
  have hR : FR ty [σ] F F := FR.refl
  have hl := lv_entry ([.ref h0, .ref g1, .int x2]) (n := 4) (Nat.le_of_ble_eq_true rfl)
  rw [lg_entry_eq]
  generalize (lg_sl ([.ref h0, .ref g1, .int x2]) ++ List.replicate (4 - (lg_sl ([.ref h0, .ref g1, .int x2])).length) Slot.unset).toArray = ls at hl ⊢
  have hl : lv_has ls 4 [(0, .ref h0), (1, .ref g1), (2, .int x2)] := hl
  refine W.widen (k := 0) (n := 0) (by omega) (by omega) ?_
  refine pl_cut (σ := Unit) A (dC, dI) cs ty L [σ] F 31 4 (fun u0 => [(0, .ref h0), (1, .ref g1), (2, .int x2)]) (fun u0 => []) (fun u0 _ => True) ?_ (fun jn_1 => ?_)
  ·
    rintro u0 F_2 hv_3 hO hR H locs hP hD hS ls hl
    have hl : lv_has ls 4 [(0, .ref h0), (1, .ref g1), (2, .int x2)] := hl
    have hv_3 : True := hv_3
    refine W.eq (g2 := F0 m 31 ls []) rfl ?_
    refine W.widen (k := 0) (n := 0) (by omega) (by omega) ?_
    refine pl_cut (σ := Unit) A (dC, dI) cs ty L [σ] F 59 4 (fun u0 => [(0, .ref h0), (1, .ref g1), (2, .int x2)]) (fun u0 => []) (fun u0 _ => True) ?_ (fun jn_4 => ?_)
    ·
      rintro u0 F_5 hv_6 hO hR H locs hP hD hS ls hl
      have hl : lv_has ls 4 [(0, .ref h0), (1, .ref g1), (2, .int x2)] := hl
      have hv_6 : True := hv_6
      refine W.eq (g2 := F0 m 59 ls []) rfl ?_
      refine lv_aload_n hx hb dX4_addBody_59 rfl (lv_at hl 1 rfl) ?_
      obtain ⟨hi_7, ht_8, hq_9⟩ := hW.bytes hL_g1 hT_g1
      obtain ⟨z_10, o_11, hF_12, hq_13, hq_14⟩ := hO.bytes hL_g1 hT_g1
      refine pg_getN (ci := 0) (v := .int (nI z_10)) (C := RX0) (T := TX0) (N := 3) hx hb hts it_0 hown hK hP hL_g1 hF_12 rfl 1 (by decide) (hE.nest kn_6) (fun _ h9 => h9) rfl dX4_addBody_60 ?_
      refine lv_istore_n (lv' := [(3, .int (nI z_10)), (0, .ref h0), (1, .ref g1), (2, .int x2)]) hx hb dX4_addBody_63 rfl hl (by decide) rfl (fun ls hl => ?_)
      refine W.widen (k := 0) (n := 0) (by omega) (by omega) ?_
      refine pl_loop (σ := Nat) A (dC, dI) cs ty L [σ] F 64 4 (fun j => [(3, .int (nI j)), (0, .ref h0), (1, .ref g1), (2, .int x2)]) (fun j => []) (fun j _ => j ≤ 10000) (fun j => j) ?_ z_10 F_5 (by omega) hO hR _ _ hP hD hS ls (lv_sub hl [0, 1, 2, 3] rfl)
      rintro j F_15 hv_16 hO hR ih_17 H locs hP hD hS ls hl
      have hl : lv_has ls 4 [(3, .int (nI j)), (0, .ref h0), (1, .ref g1), (2, .int x2)] := hl
      have hv_16 : j ≤ 10000 := hv_16
      refine W.eq (g2 := F0 m 64 ls []) rfl ?_
      refine lv_iload_n hx hb dX4_addBody_64 rfl (lv_at hl 0 rfl) ?_
      refine lv_if_le (tgt := 103) hx hb dX4_addBody_65 (by decide) (fun c_18 => ?_) (fun c_18 => ?_)
      ·
        refine lv_aload_n hx hb dX4_addBody_103 rfl (lv_at hl 2 rfl) ?_
        refine lv_iload_n hx hb dX4_addBody_104 rfl (lv_at hl 0 rfl) ?_
        have hFc := pg_free hD hS hA
        obtain ⟨z_20, o_21, hF_22, hq_23, hq_24⟩ := hO.bytes hL_g1 hT_g1
        refine va_callv (va_runV (As := [.int (nI j)]) (rest := []) ⟨hx, hb, hml, hown, hts⟩ (s_X0_cut l dC dI cs ty L H.size F_15 g1 σ r1 n1 (nI j) hW hL_g1 hT_g1) ⟨callB_of 1 hts (gi kt_236) rfl rfl rfl (hts _ kt_1) (hts _ kt_237) (by decide +kernel) ⟨Nat.le_of_ble_eq_true rfl, Nat.le_of_ble_eq_true rfl⟩, (hts _ kt_238), (hts _ kt_239)⟩ ⟨fun a U g mk q => ⟨q.1, PT.calling q.2⟩, pg_recv hK hP hL_g1 hF_22 (q := (RX0, TX0, 3)) rfl, fun U hU hWm => ⟨rfl, PT.mk hU hWm hP hK hD hE hO⟩⟩ rfl rfl hl.1 rfl (lv_room (Nat.le_of_ble_eq_true rfl)) dX4_addBody_105 ⟨by show _ + 0 ≤ 0; omega, by show _ + 0 ≤ 0; omega⟩) hS (fun q _ h => hFc q h) hFc (fun u t H1 locs ht hvm hw hB hz1 hk1 hS => ?_)
        obtain ⟨F_26, hB1⟩ := hB
        obtain ⟨hP, hD, hO, hR⟩ := QT.back hB1 ht hFc hR (fun q h => by simp only [List.mem_cons, List.not_mem_nil, or_false] at h ⊢; omega)
        generalize H1 = H at hP hS ⊢
        refine lv_iload_n hx hb dX4_addBody_108 rfl (lv_at hl 0 rfl) ?_
        refine lv_if_ne (tgt := 122) hx hb dX4_addBody_109 (by decide) (fun c_27 => ?_) (fun c_27 => ?_)
        ·
          refine W.widen (k := 0) (n := 0) (by omega) (by omega) ?_
          exact W.vret hx hb hr (fun t ht hWm => ⟨⟨(), rfl, trivial, ⟨F_26, QT.mk ht hP hD hO hR⟩⟩, hS.F ht⟩) hS.2.2 dX4_addBody_122
        ·
          refine lv_iload_n hx hb dX4_addBody_112 rfl (lv_at hl 3 rfl) ?_
          refine lv_if_ne (tgt := 122) hx hb dX4_addBody_113 (by decide) (fun c_30 => ?_) (fun c_30 => ?_)
          ·
            refine W.widen (k := 0) (n := 0) (by omega) (by omega) ?_
            exact W.vret hx hb hr (fun t ht hWm => ⟨⟨(), rfl, trivial, ⟨F_26, QT.mk ht hP hD hO hR⟩⟩, hS.F ht⟩) hS.2.2 dX4_addBody_122
          ·
            refine lv_aload_n hx hb dX4_addBody_116 rfl (lv_at hl 2 rfl) ?_
            refine lv_bipush (v := 10) hx hb dX4_addBody_117 (by decide) ?_
            have hFc := pg_free hD hS hA
            obtain ⟨z_31, o_32, hF_33, hq_34, hq_35⟩ := hO.bytes hL_g1 hT_g1
            refine va_callv (va_runV (As := [.int 10]) (rest := []) ⟨hx, hb, hml, hown, hts⟩ (s_X0_add l dC dI cs ty L H.size F_26 g1 σ r1 n1 10 hW hL_g1 hT_g1) ⟨callB_of 1 hts (gi kt_13) rfl rfl rfl (hts _ kt_1) (hts _ kt_230) (by decide +kernel) ⟨Nat.le_of_ble_eq_true rfl, Nat.le_of_ble_eq_true rfl⟩, (hts _ kt_15), (hts _ kt_16)⟩ ⟨fun a U g mk q => ⟨q.1, PT.calling q.2⟩, pg_recv hK hP hL_g1 hF_33 (q := (RX0, TX0, 3)) rfl, fun U hU hWm => ⟨rfl, PT.mk hU hWm hP hK hD hE hO⟩⟩ rfl rfl hl.1 rfl (lv_room (Nat.le_of_ble_eq_true rfl)) dX4_addBody_119 ⟨by show _ + 0 ≤ 0; omega, by show _ + 0 ≤ 0; omega⟩) hS (fun q _ h => hFc q h) hFc (fun u t H1 locs ht hvm hw hB hz1 hk1 hS => ?_)
            obtain ⟨F_37, hB1⟩ := hB
            obtain ⟨hP, hD, hO, hR⟩ := QT.back hB1 ht hFc hR (fun q h => by simp only [List.mem_cons, List.not_mem_nil, or_false] at h ⊢; omega)
            generalize H1 = H at hP hS ⊢
            refine W.widen (k := 0) (n := 0) (by omega) (by omega) ?_
            exact W.vret hx hb hr (fun t ht hWm => ⟨⟨(), rfl, trivial, ⟨F_37, QT.mk ht hP hD hO hR⟩⟩, hS.F ht⟩) hS.2.2 dX4_addBody_122
      ·
        have hj1 := posN c_18
        refine lv_aload_n hx hb dX4_addBody_68 rfl (lv_at hl 2 rfl) ?_
        refine lv_iload_n hx hb dX4_addBody_69 rfl (lv_at hl 0 rfl) ?_
        refine lv_iconst (v := 1) hx hb dX4_addBody_70 (by decide) ?_
        refine lv_isub hx hb dX4_addBody_71 ?_
        refine lv_topi (fun x_39 _ => ?_)
        have hFc := pg_free hD hS hA
        obtain ⟨z_40, o_41, hF_42, hq_43, hq_44⟩ := hO.bytes hL_g1 hT_g1
        refine va_calli (va_runV (As := [.int x_39]) (rest := []) ⟨hx, hb, hml, hown, hts⟩ (s_X0_at l dC dI cs ty L H.size F_15 g1 σ r1 n1 x_39 hW hL_g1 hT_g1) ⟨callB_of 1 hts (gi kt_21) rfl rfl rfl (hts _ kt_1) (hts _ kt_199) (by decide +kernel) ⟨Nat.le_of_ble_eq_true rfl, Nat.le_of_ble_eq_true rfl⟩, (hts _ kt_23), (hts _ kt_24)⟩ ⟨fun a U g mk q => ⟨q.1, PT.calling q.2⟩, pg_recv hK hP hL_g1 hF_42 (q := (RX0, TX0, 3)) rfl, fun U hU hWm => ⟨rfl, PT.mk hU hWm hP hK hD hE hO⟩⟩ rfl rfl hl.1 rfl (lv_room (Nat.le_of_ble_eq_true rfl)) dX4_addBody_72 ⟨by show _ + 0 ≤ 0; omega, by show _ + 0 ≤ 0; omega⟩) hS (fun q _ h => hFc q h) hFc (fun r_45 u t H1 locs ht hvm hw hB hz1 hk1 hS => ?_)
        obtain ⟨F_46, hB1⟩ := hB
        obtain ⟨hP, hD, hO, hR⟩ := QT.back hB1 ht hFc hR (fun q h => absurd h List.not_mem_nil)
        have hF_47 : F_46 g1 = .inr (0, [.ref r1, .int (nI z_40), .int o_41]) := (hB1.2.2.2 g1 List.not_mem_nil).trans hF_42
        generalize H1 = H at hP hS ⊢
        have hw : True := hw
        have hw_48 := hw
        refine lv_bipush (v := 10) hx hb dX4_addBody_75 (by decide) ?_
        refine lv_icmp_ne (tgt := 103) hx hb dX4_addBody_77 (by decide) (fun c_49 => ?_) (fun c_49 => ?_)
        ·
          refine lv_aload_n hx hb dX4_addBody_103 rfl (lv_at hl 2 rfl) ?_
          refine lv_iload_n hx hb dX4_addBody_104 rfl (lv_at hl 0 rfl) ?_
          have hFc := pg_free hD hS hA
          refine va_callv (va_runV (As := [.int (nI j)]) (rest := []) ⟨hx, hb, hml, hown, hts⟩ (s_X0_cut l dC dI cs ty L H.size F_46 g1 σ r1 n1 (nI j) hW hL_g1 hT_g1) ⟨callB_of 1 hts (gi kt_236) rfl rfl rfl (hts _ kt_1) (hts _ kt_237) (by decide +kernel) ⟨Nat.le_of_ble_eq_true rfl, Nat.le_of_ble_eq_true rfl⟩, (hts _ kt_238), (hts _ kt_239)⟩ ⟨fun a U g mk q => ⟨q.1, PT.calling q.2⟩, pg_recv hK hP hL_g1 hF_47 (q := (RX0, TX0, 3)) rfl, fun U hU hWm => ⟨rfl, PT.mk hU hWm hP hK hD hE hO⟩⟩ rfl rfl hl.1 rfl (lv_room (Nat.le_of_ble_eq_true rfl)) dX4_addBody_105 ⟨by show _ + 0 ≤ 0; omega, by show _ + 0 ≤ 0; omega⟩) hS (fun q _ h => hFc q h) hFc (fun u t H1 locs ht hvm hw hB hz1 hk1 hS => ?_)
          obtain ⟨F_51, hB1⟩ := hB
          obtain ⟨hP, hD, hO, hR⟩ := QT.back hB1 ht hFc hR (fun q h => by simp only [List.mem_cons, List.not_mem_nil, or_false] at h ⊢; omega)
          generalize H1 = H at hP hS ⊢
          refine lv_iload_n hx hb dX4_addBody_108 rfl (lv_at hl 0 rfl) ?_
          refine lv_if_ne (tgt := 122) hx hb dX4_addBody_109 (by decide) (fun c_52 => ?_) (fun c_52 => ?_)
          ·
            refine W.widen (k := 0) (n := 0) (by omega) (by omega) ?_
            exact W.vret hx hb hr (fun t ht hWm => ⟨⟨(), rfl, trivial, ⟨F_51, QT.mk ht hP hD hO hR⟩⟩, hS.F ht⟩) hS.2.2 dX4_addBody_122
          ·
            refine lv_iload_n hx hb dX4_addBody_112 rfl (lv_at hl 3 rfl) ?_
            refine lv_if_ne (tgt := 122) hx hb dX4_addBody_113 (by decide) (fun c_55 => ?_) (fun c_55 => ?_)
            ·
              refine W.widen (k := 0) (n := 0) (by omega) (by omega) ?_
              exact W.vret hx hb hr (fun t ht hWm => ⟨⟨(), rfl, trivial, ⟨F_51, QT.mk ht hP hD hO hR⟩⟩, hS.F ht⟩) hS.2.2 dX4_addBody_122
            ·
              refine lv_aload_n hx hb dX4_addBody_116 rfl (lv_at hl 2 rfl) ?_
              refine lv_bipush (v := 10) hx hb dX4_addBody_117 (by decide) ?_
              have hFc := pg_free hD hS hA
              obtain ⟨z_56, o_57, hF_58, hq_59, hq_60⟩ := hO.bytes hL_g1 hT_g1
              refine va_callv (va_runV (As := [.int 10]) (rest := []) ⟨hx, hb, hml, hown, hts⟩ (s_X0_add l dC dI cs ty L H.size F_51 g1 σ r1 n1 10 hW hL_g1 hT_g1) ⟨callB_of 1 hts (gi kt_13) rfl rfl rfl (hts _ kt_1) (hts _ kt_230) (by decide +kernel) ⟨Nat.le_of_ble_eq_true rfl, Nat.le_of_ble_eq_true rfl⟩, (hts _ kt_15), (hts _ kt_16)⟩ ⟨fun a U g mk q => ⟨q.1, PT.calling q.2⟩, pg_recv hK hP hL_g1 hF_58 (q := (RX0, TX0, 3)) rfl, fun U hU hWm => ⟨rfl, PT.mk hU hWm hP hK hD hE hO⟩⟩ rfl rfl hl.1 rfl (lv_room (Nat.le_of_ble_eq_true rfl)) dX4_addBody_119 ⟨by show _ + 0 ≤ 0; omega, by show _ + 0 ≤ 0; omega⟩) hS (fun q _ h => hFc q h) hFc (fun u t H1 locs ht hvm hw hB hz1 hk1 hS => ?_)
              obtain ⟨F_62, hB1⟩ := hB
              obtain ⟨hP, hD, hO, hR⟩ := QT.back hB1 ht hFc hR (fun q h => by simp only [List.mem_cons, List.not_mem_nil, or_false] at h ⊢; omega)
              generalize H1 = H at hP hS ⊢
              refine W.widen (k := 0) (n := 0) (by omega) (by omega) ?_
              exact W.vret hx hb hr (fun t ht hWm => ⟨⟨(), rfl, trivial, ⟨F_62, QT.mk ht hP hD hO hR⟩⟩, hS.F ht⟩) hS.2.2 dX4_addBody_122
        ·
          refine lv_iload_n hx hb dX4_addBody_80 rfl (lv_at hl 0 rfl) ?_
          refine lv_iconst (v := 1) hx hb dX4_addBody_81 (by decide) ?_
          refine lv_icmp_eq (tgt := 97) hx hb dX4_addBody_82 (by decide) (fun c_63 => ?_) (fun c_63 => ?_)
          ·
            refine lv_iinc (v := (nI (j - 1))) (lv' := [(3, .int (nI (j - 1))), (0, .ref h0), (1, .ref g1), (2, .int x2)]) hx hb dX4_addBody_97 hl (k := 0) rfl (m1N hj1) (by decide) rfl (fun ls hl => ?_)
            refine lv_goto (tgt := 64) hx hb dX4_addBody_100 (by decide) ?_
            refine W.widen (k := 0) (n := 0) (by omega) (by omega) ?_
            exact ih_17 (j - 1) F_46 (by first | omega | exact ⟨by omega, by omega⟩ | trivial) (by show (j - 1) < j; omega) hO hR _ _ hP hD hS ls (lv_sub hl [0, 1, 2, 3] rfl)
          ·
            refine lv_aload_n hx hb dX4_addBody_85 rfl (lv_at hl 2 rfl) ?_
            refine lv_iload_n hx hb dX4_addBody_86 rfl (lv_at hl 0 rfl) ?_
            refine lv_iconst (v := 2) hx hb dX4_addBody_87 (by decide) ?_
            refine lv_isub hx hb dX4_addBody_88 ?_
            refine lv_topi (fun x_66 _ => ?_)
            have hFc := pg_free hD hS hA
            refine va_calli (va_runV (As := [.int x_66]) (rest := []) ⟨hx, hb, hml, hown, hts⟩ (s_X0_at l dC dI cs ty L H.size F_46 g1 σ r1 n1 x_66 hW hL_g1 hT_g1) ⟨callB_of 1 hts (gi kt_21) rfl rfl rfl (hts _ kt_1) (hts _ kt_199) (by decide +kernel) ⟨Nat.le_of_ble_eq_true rfl, Nat.le_of_ble_eq_true rfl⟩, (hts _ kt_23), (hts _ kt_24)⟩ ⟨fun a U g mk q => ⟨q.1, PT.calling q.2⟩, pg_recv hK hP hL_g1 hF_47 (q := (RX0, TX0, 3)) rfl, fun U hU hWm => ⟨rfl, PT.mk hU hWm hP hK hD hE hO⟩⟩ rfl rfl hl.1 rfl (lv_room (Nat.le_of_ble_eq_true rfl)) dX4_addBody_89 ⟨by show _ + 0 ≤ 0; omega, by show _ + 0 ≤ 0; omega⟩) hS (fun q _ h => hFc q h) hFc (fun r_67 u t H1 locs ht hvm hw hB hz1 hk1 hS => ?_)
            obtain ⟨F_68, hB1⟩ := hB
            obtain ⟨hP, hD, hO, hR⟩ := QT.back hB1 ht hFc hR (fun q h => absurd h List.not_mem_nil)
            have hF_69 : F_68 g1 = .inr (0, [.ref r1, .int (nI z_40), .int o_41]) := (hB1.2.2.2 g1 List.not_mem_nil).trans hF_47
            generalize H1 = H at hP hS ⊢
            have hw : True := hw
            have hw_70 := hw
            refine lv_bipush (v := 10) hx hb dX4_addBody_92 (by decide) ?_
            refine lv_icmp_ne (tgt := 103) hx hb dX4_addBody_94 (by decide) (fun c_71 => ?_) (fun c_71 => ?_)
            ·
              refine lv_aload_n hx hb dX4_addBody_103 rfl (lv_at hl 2 rfl) ?_
              refine lv_iload_n hx hb dX4_addBody_104 rfl (lv_at hl 0 rfl) ?_
              have hFc := pg_free hD hS hA
              refine va_callv (va_runV (As := [.int (nI j)]) (rest := []) ⟨hx, hb, hml, hown, hts⟩ (s_X0_cut l dC dI cs ty L H.size F_68 g1 σ r1 n1 (nI j) hW hL_g1 hT_g1) ⟨callB_of 1 hts (gi kt_236) rfl rfl rfl (hts _ kt_1) (hts _ kt_237) (by decide +kernel) ⟨Nat.le_of_ble_eq_true rfl, Nat.le_of_ble_eq_true rfl⟩, (hts _ kt_238), (hts _ kt_239)⟩ ⟨fun a U g mk q => ⟨q.1, PT.calling q.2⟩, pg_recv hK hP hL_g1 hF_69 (q := (RX0, TX0, 3)) rfl, fun U hU hWm => ⟨rfl, PT.mk hU hWm hP hK hD hE hO⟩⟩ rfl rfl hl.1 rfl (lv_room (Nat.le_of_ble_eq_true rfl)) dX4_addBody_105 ⟨by show _ + 0 ≤ 0; omega, by show _ + 0 ≤ 0; omega⟩) hS (fun q _ h => hFc q h) hFc (fun u t H1 locs ht hvm hw hB hz1 hk1 hS => ?_)
              obtain ⟨F_73, hB1⟩ := hB
              obtain ⟨hP, hD, hO, hR⟩ := QT.back hB1 ht hFc hR (fun q h => by simp only [List.mem_cons, List.not_mem_nil, or_false] at h ⊢; omega)
              generalize H1 = H at hP hS ⊢
              refine lv_iload_n hx hb dX4_addBody_108 rfl (lv_at hl 0 rfl) ?_
              refine lv_if_ne (tgt := 122) hx hb dX4_addBody_109 (by decide) (fun c_74 => ?_) (fun c_74 => ?_)
              ·
                refine W.widen (k := 0) (n := 0) (by omega) (by omega) ?_
                exact W.vret hx hb hr (fun t ht hWm => ⟨⟨(), rfl, trivial, ⟨F_73, QT.mk ht hP hD hO hR⟩⟩, hS.F ht⟩) hS.2.2 dX4_addBody_122
              ·
                refine lv_iload_n hx hb dX4_addBody_112 rfl (lv_at hl 3 rfl) ?_
                refine lv_if_ne (tgt := 122) hx hb dX4_addBody_113 (by decide) (fun c_77 => ?_) (fun c_77 => ?_)
                ·
                  refine W.widen (k := 0) (n := 0) (by omega) (by omega) ?_
                  exact W.vret hx hb hr (fun t ht hWm => ⟨⟨(), rfl, trivial, ⟨F_73, QT.mk ht hP hD hO hR⟩⟩, hS.F ht⟩) hS.2.2 dX4_addBody_122
                ·
                  refine lv_aload_n hx hb dX4_addBody_116 rfl (lv_at hl 2 rfl) ?_
                  refine lv_bipush (v := 10) hx hb dX4_addBody_117 (by decide) ?_
                  have hFc := pg_free hD hS hA
                  obtain ⟨z_78, o_79, hF_80, hq_81, hq_82⟩ := hO.bytes hL_g1 hT_g1
                  refine va_callv (va_runV (As := [.int 10]) (rest := []) ⟨hx, hb, hml, hown, hts⟩ (s_X0_add l dC dI cs ty L H.size F_73 g1 σ r1 n1 10 hW hL_g1 hT_g1) ⟨callB_of 1 hts (gi kt_13) rfl rfl rfl (hts _ kt_1) (hts _ kt_230) (by decide +kernel) ⟨Nat.le_of_ble_eq_true rfl, Nat.le_of_ble_eq_true rfl⟩, (hts _ kt_15), (hts _ kt_16)⟩ ⟨fun a U g mk q => ⟨q.1, PT.calling q.2⟩, pg_recv hK hP hL_g1 hF_80 (q := (RX0, TX0, 3)) rfl, fun U hU hWm => ⟨rfl, PT.mk hU hWm hP hK hD hE hO⟩⟩ rfl rfl hl.1 rfl (lv_room (Nat.le_of_ble_eq_true rfl)) dX4_addBody_119 ⟨by show _ + 0 ≤ 0; omega, by show _ + 0 ≤ 0; omega⟩) hS (fun q _ h => hFc q h) hFc (fun u t H1 locs ht hvm hw hB hz1 hk1 hS => ?_)
                  obtain ⟨F_84, hB1⟩ := hB
                  obtain ⟨hP, hD, hO, hR⟩ := QT.back hB1 ht hFc hR (fun q h => by simp only [List.mem_cons, List.not_mem_nil, or_false] at h ⊢; omega)
                  generalize H1 = H at hP hS ⊢
                  refine W.widen (k := 0) (n := 0) (by omega) (by omega) ?_
                  exact W.vret hx hb hr (fun t ht hWm => ⟨⟨(), rfl, trivial, ⟨F_84, QT.mk ht hP hD hO hR⟩⟩, hS.F ht⟩) hS.2.2 dX4_addBody_122
            ·
              refine lv_iinc (v := (nI (j - 1))) (lv' := [(3, .int (nI (j - 1))), (0, .ref h0), (1, .ref g1), (2, .int x2)]) hx hb dX4_addBody_97 hl (k := 0) rfl (m1N hj1) (by decide) rfl (fun ls hl => ?_)
              refine lv_goto (tgt := 64) hx hb dX4_addBody_100 (by decide) ?_
              refine W.widen (k := 0) (n := 0) (by omega) (by omega) ?_
              exact ih_17 (j - 1) F_68 (by first | omega | exact ⟨by omega, by omega⟩ | trivial) (by show (j - 1) < j; omega) hO hR _ _ hP hD hS ls (lv_sub hl [0, 1, 2, 3] rfl)
    ·
      refine lv_aload_n hx hb dX4_addBody_31 rfl (lv_at hl 1 rfl) ?_
      obtain ⟨hi_85, ht_86, hq_87⟩ := hW.bytes hL_g1 hT_g1
      obtain ⟨z_88, o_89, hF_90, hq_91, hq_92⟩ := hO.bytes hL_g1 hT_g1
      refine pg_getN (ci := 0) (v := .int (nI z_88)) (C := RX0) (T := TX0) (N := 3) hx hb hts it_0 hown hK hP hL_g1 hF_90 rfl 1 (by decide) (hE.nest kn_6) (fun _ h9 => h9) rfl dX4_addBody_32 ?_
      refine lv_if_le (tgt := 59) hx hb dX4_addBody_35 (by decide) (fun c_93 => ?_) (fun c_93 => ?_)
      ·
        refine W.widen (k := 0) (n := 0) (by omega) (by omega) ?_
        exact jn_4 () F_2 (trivial) hO hR _ _ hP hD hS ls (lv_sub hl [0, 1, 2] rfl)
      ·
        refine lv_aload_n hx hb dX4_addBody_38 rfl (lv_at hl 1 rfl) ?_
        refine lv_aload_n hx hb dX4_addBody_39 rfl (lv_at hl 1 rfl) ?_
        refine pg_getN (ci := 0) (v := .int (nI z_88)) (C := RX0) (T := TX0) (N := 3) hx hb hts it_0 hown hK hP hL_g1 hF_90 rfl 1 (by decide) (hE.nest kn_6) (fun _ h9 => h9) rfl dX4_addBody_40 ?_
        refine lv_iconst (v := 1) hx hb dX4_addBody_43 (by decide) ?_
        refine lv_isub hx hb dX4_addBody_44 ?_
        refine lv_topi (fun x_96 _ => ?_)
        have hFc := pg_free hD hS hA
        refine va_calli (va_runV (As := [.int x_96]) (rest := []) ⟨hx, hb, hml, hown, hts⟩ (s_X0_at l dC dI cs ty L H.size F_2 g1 σ r1 n1 x_96 hW hL_g1 hT_g1) ⟨callB_of 1 hts (gi kt_21) rfl rfl rfl (hts _ kt_1) (hts _ kt_199) (by decide +kernel) ⟨Nat.le_of_ble_eq_true rfl, Nat.le_of_ble_eq_true rfl⟩, (hts _ kt_23), (hts _ kt_24)⟩ ⟨fun a U g mk q => ⟨q.1, PT.calling q.2⟩, pg_recv hK hP hL_g1 hF_90 (q := (RX0, TX0, 3)) rfl, fun U hU hWm => ⟨rfl, PT.mk hU hWm hP hK hD hE hO⟩⟩ rfl rfl hl.1 rfl (lv_room (Nat.le_of_ble_eq_true rfl)) dX4_addBody_45 ⟨by show _ + 0 ≤ 0; omega, by show _ + 0 ≤ 0; omega⟩) hS (fun q _ h => hFc q h) hFc (fun r_97 u t H1 locs ht hvm hw hB hz1 hk1 hS => ?_)
        obtain ⟨F_98, hB1⟩ := hB
        obtain ⟨hP, hD, hO, hR⟩ := QT.back hB1 ht hFc hR (fun q h => absurd h List.not_mem_nil)
        have hF_99 : F_98 g1 = .inr (0, [.ref r1, .int (nI z_88), .int o_89]) := (hB1.2.2.2 g1 List.not_mem_nil).trans hF_90
        generalize H1 = H at hP hS ⊢
        have hw : True := hw
        have hw_100 := hw
        refine lv_bipush (v := 10) hx hb dX4_addBody_48 (by decide) ?_
        refine lv_icmp_eq (tgt := 59) hx hb dX4_addBody_50 (by decide) (fun c_101 => ?_) (fun c_101 => ?_)
        ·
          refine W.widen (k := 0) (n := 0) (by omega) (by omega) ?_
          exact jn_4 () F_98 (trivial) hO hR _ _ hP hD hS ls (lv_sub hl [0, 1, 2] rfl)
        ·
          refine lv_aload_n hx hb dX4_addBody_53 rfl (lv_at hl 1 rfl) ?_
          refine lv_bipush (v := 10) hx hb dX4_addBody_54 (by decide) ?_
          have hFc := pg_free hD hS hA
          refine va_callv (va_runV (As := [.int 10]) (rest := []) ⟨hx, hb, hml, hown, hts⟩ (s_X0_add l dC dI cs ty L H.size F_98 g1 σ r1 n1 10 hW hL_g1 hT_g1) ⟨callB_of 1 hts (gi kt_13) rfl rfl rfl (hts _ kt_1) (hts _ kt_230) (by decide +kernel) ⟨Nat.le_of_ble_eq_true rfl, Nat.le_of_ble_eq_true rfl⟩, (hts _ kt_15), (hts _ kt_16)⟩ ⟨fun a U g mk q => ⟨q.1, PT.calling q.2⟩, pg_recv hK hP hL_g1 hF_99 (q := (RX0, TX0, 3)) rfl, fun U hU hWm => ⟨rfl, PT.mk hU hWm hP hK hD hE hO⟩⟩ rfl rfl hl.1 rfl (lv_room (Nat.le_of_ble_eq_true rfl)) dX4_addBody_56 ⟨by show _ + 0 ≤ 0; omega, by show _ + 0 ≤ 0; omega⟩) hS (fun q _ h => hFc q h) hFc (fun u t H1 locs ht hvm hw hB hz1 hk1 hS => ?_)
          obtain ⟨F_103, hB1⟩ := hB
          obtain ⟨hP, hD, hO, hR⟩ := QT.back hB1 ht hFc hR (fun q h => by simp only [List.mem_cons, List.not_mem_nil, or_false] at h ⊢; omega)
          generalize H1 = H at hP hS ⊢
          refine W.widen (k := 0) (n := 0) (by omega) (by omega) ?_
          exact jn_4 () F_103 (trivial) hO hR _ _ hP hD hS ls (lv_sub hl [0, 1, 2] rfl)
  ·
    refine lv_iload_n hx hb dX4_addBody_0 rfl (lv_at hl 2 rfl) ?_
    refine lv_if_eq (tgt := 12) hx hb dX4_addBody_1 (by decide) (fun c_104 => ?_) (fun c_104 => ?_)
    ·
      refine lv_aload_n hx hb dX4_addBody_12 rfl (lv_at hl 1 rfl) ?_
      refine lv_aload_n hx hb dX4_addBody_13 rfl (lv_at hl 0 rfl) ?_
      obtain ⟨hi_105, hi_106, hi_107, hi_108, ⟨r_109, ht_110⟩, ht_111, ht_112, ht_113⟩ := hW.msg hL_h0 hT_h0
      obtain ⟨z_114, v0_115, hF_116, hq_117⟩ := hO.msg hL_h0 hT_h0
      refine pg_get (ci := 4) (v := .ref tx) (C := RX4) (T := TX4) (N := 6) hx hb hts it_4 hown hK hP hL_h0 hF_116 rfl 0 (by decide) (hts _ kt_207) (fun _ h9 => h9) rfl dX4_addBody_14 ?_
      refine lv_aload_n hx hb dX4_addBody_17 rfl (lv_at hl 0 rfl) ?_
      refine pg_get (ci := 4) (v := .int v0_115) (C := RX4) (T := TX4) (N := 6) hx hb hts it_4 hown hK hP hL_h0 hF_116 rfl 5 (by decide) (hts _ kt_225) (fun _ h9 => h9) rfl dX4_addBody_18 ?_
      refine lv_aload_n hx hb dX4_addBody_21 rfl (lv_at hl 0 rfl) ?_
      refine pg_get (ci := 4) (v := .ref tx) (C := RX4) (T := TX4) (N := 6) hx hb hts it_4 hown hK hP hL_h0 hF_116 rfl 0 (by decide) (hts _ kt_207) (fun _ h9 => h9) rfl dX4_addBody_22 ?_
      obtain ⟨hi_118, ht_119, hq_120⟩ := hW.bytes hi_105 ht_110
      obtain ⟨z_121, o_122, hF_123, hq_124, hq_125⟩ := hO.bytes hi_105 ht_110
      refine pg_getN (ci := 0) (v := .int (nI z_121)) (C := RX0) (T := TX0) (N := 3) hx hb hts it_0 hown hK hP hi_105 hF_123 rfl 1 (by decide) (hE.nest kn_6) (fun _ h9 => h9) rfl dX4_addBody_25 ?_
      have hFc := pg_free hD hS hA
      obtain ⟨hi_126, ht_127, hq_128⟩ := hW.bytes hL_g1 hT_g1
      obtain ⟨z_129, o_130, hF_131, hq_132, hq_133⟩ := hO.bytes hL_g1 hT_g1
      refine va_callv (va_runV (As := [.ref tx, .int v0_115, .int (nI z_121)]) (rest := []) ⟨hx, hb, hml, hown, hts⟩ (s_X0_addRange l dC dI cs ty L s.heap.size F g1 σ r1 n1 tx (ρ + 1) r_109 3000 v0_115 (nI z_121) hW hL_g1 hT_g1 hi_105 ht_110 (nI_pos (by omega))) ⟨callB_of 3 hts (gi kt_36) rfl rfl rfl (hts _ kt_1) (hts _ kt_231) (by decide +kernel) ⟨Nat.le_of_ble_eq_true rfl, Nat.le_of_ble_eq_true rfl⟩, (hts _ kt_38), (hts _ kt_39)⟩ ⟨fun a U g mk q => ⟨q.1, PT.calling q.2⟩, pg_recv hK hP hL_g1 hF_131 (q := (RX0, TX0, 3)) rfl, fun U hU hWm => ⟨rfl, PT.mk hU hWm hP hK hD hE hO⟩⟩ rfl rfl hl.1 rfl (lv_room (Nat.le_of_ble_eq_true rfl)) dX4_addBody_28 ⟨by show _ + 0 ≤ 0; omega, by show _ + 0 ≤ 0; omega⟩) hS (fun q _ h => hFc q h) hFc (fun u t H1 locs ht hvm hw hB hz1 hk1 hS => ?_)
      obtain ⟨F_135, hB1⟩ := hB
      obtain ⟨hP, hD, hO, hR⟩ := QT.back hB1 ht hFc hR (fun q h => by simp only [List.mem_cons, List.not_mem_nil, or_false] at h ⊢; omega)
      generalize H1 = H at hP hS ⊢
      refine W.widen (k := 0) (n := 0) (by omega) (by omega) ?_
      exact jn_1 () F_135 (trivial) hO hR _ _ hP hD hS ls (lv_sub hl [0, 1, 2] rfl)
    ·
      refine lv_aload_n hx hb dX4_addBody_4 rfl (lv_at hl 0 rfl) ?_
      refine lv_aload_n hx hb dX4_addBody_5 rfl (lv_at hl 1 rfl) ?_
      have hFc := pg_free hD hS hA
      obtain ⟨hi_136, hi_137, hi_138, hi_139, ⟨r_140, ht_141⟩, ht_142, ht_143, ht_144⟩ := hW.msg hL_h0 hT_h0
      obtain ⟨z_145, v0_146, hF_147, hq_148⟩ := hO.msg hL_h0 hT_h0
      refine va_callv (va_runV (As := [.ref g1]) (rest := []) ⟨hx, hb, hml, hown, hts⟩ (s_X4_addRelaxedLines l dC dI cs ty L s.heap.size F h0 ρ tx y0 y1 y2 g1 σ r1 n1 hW hL_h0 hT_h0 hL_g1 hT_g1) ⟨callB_of 1 hts (gi kt_240) rfl rfl rfl (hts _ kt_211) (hts _ kt_241) (by decide +kernel) ⟨Nat.le_of_ble_eq_true rfl, Nat.le_of_ble_eq_true rfl⟩, (hts _ kt_242), (hts _ kt_243)⟩ ⟨fun a U g mk q => ⟨q.1, PT.calling q.2⟩, pg_recv hK hP hL_h0 hF_147 (q := (RX4, TX4, 6)) rfl, fun U hU hWm => ⟨rfl, PT.mk hU hWm hP hK hD hE hO⟩⟩ rfl rfl hl.1 rfl (lv_room (Nat.le_of_ble_eq_true rfl)) dX4_addBody_6 ⟨by show _ + 0 ≤ 0; omega, by show _ + 0 ≤ 0; omega⟩) hS (fun q _ h => hFc q h) hFc (fun u t H1 locs ht hvm hw hB hz1 hk1 hS => ?_)
      obtain ⟨F_150, hB1⟩ := hB
      obtain ⟨hP, hD, hO, hR⟩ := QT.back hB1 ht hFc hR (fun q h => by simp only [List.mem_cons, List.not_mem_nil, or_false] at h ⊢; omega)
      generalize H1 = H at hP hS ⊢
      refine lv_goto (tgt := 31) hx hb dX4_addBody_9 (by decide) ?_
      refine W.widen (k := 0) (n := 0) (by omega) (by omega) ?_
      exact jn_1 () F_150 (trivial) hO hR _ _ hP hD hS ls (lv_sub hl [0, 1, 2] rfl)
