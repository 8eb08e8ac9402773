theorem dX1_isLocal_0 : decode cX1_isLocal 0 = .ok (.iconst 0, 1) := by decide +kernel
theorem dX1_isLocal_1 : decode cX1_isLocal 1 = .ok (.istore_n 2, 1) := by decide +kernel
theorem dX1_isLocal_2 : decode cX1_isLocal 2 = .ok (.iload_n 2, 1) := by decide +kernel
theorem dX1_isLocal_3 : decode cX1_isLocal 3 = .ok (.iload_n 1, 1) := by decide +kernel
theorem dX1_isLocal_4 : decode cX1_isLocal 4 = .ok (.if_icmp .ge 67, 3) := by decide +kernel
theorem dX1_isLocal_7 : decode cX1_isLocal 7 = .ok (.aload_n 0, 1) := by decide +kernel
theorem dX1_isLocal_8 : decode cX1_isLocal 8 = .ok (.iload_n 2, 1) := by decide +kernel
theorem dX1_isLocal_9 : decode cX1_isLocal 9 = .ok (.invokevirtual 87, 3) := by decide +kernel
theorem dX1_isLocal_12 : decode cX1_isLocal 12 = .ok (.istore_n 3, 1) := by decide +kernel
theorem dX1_isLocal_13 : decode cX1_isLocal 13 = .ok (.iload_n 3, 1) := by decide +kernel
theorem dX1_isLocal_14 : decode cX1_isLocal 14 = .ok (.bipush 46, 2) := by decide +kernel
theorem dX1_isLocal_16 : decode cX1_isLocal 16 = .ok (.if_icmp .eq 21, 3) := by decide +kernel
theorem dX1_isLocal_19 : decode cX1_isLocal 19 = .ok (.iload_n 3, 1) := by decide +kernel
theorem dX1_isLocal_20 : decode cX1_isLocal 20 = .ok (.bipush 45, 2) := by decide +kernel
theorem dX1_isLocal_22 : decode cX1_isLocal 22 = .ok (.if_icmp .eq 15, 3) := by decide +kernel
theorem dX1_isLocal_25 : decode cX1_isLocal 25 = .ok (.iload_n 3, 1) := by decide +kernel
theorem dX1_isLocal_26 : decode cX1_isLocal 26 = .ok (.bipush 95, 2) := by decide +kernel
theorem dX1_isLocal_28 : decode cX1_isLocal 28 = .ok (.if_icmp .eq 9, 3) := by decide +kernel
theorem dX1_isLocal_31 : decode cX1_isLocal 31 = .ok (.iload_n 3, 1) := by decide +kernel
theorem dX1_isLocal_32 : decode cX1_isLocal 32 = .ok (.bipush 43, 2) := by decide +kernel
theorem dX1_isLocal_34 : decode cX1_isLocal 34 = .ok (.if_icmp .ne 7, 3) := by decide +kernel
theorem dX1_isLocal_37 : decode cX1_isLocal 37 = .ok (.iconst 1, 1) := by decide +kernel
theorem dX1_isLocal_38 : decode cX1_isLocal 38 = .ok (.goto 4, 3) := by decide +kernel
theorem dX1_isLocal_41 : decode cX1_isLocal 41 = .ok (.iconst 0, 1) := by decide +kernel
theorem dX1_isLocal_42 : decode cX1_isLocal 42 = .ok (.istore 4, 2) := by decide +kernel
theorem dX1_isLocal_44 : decode cX1_isLocal 44 = .ok (.iload 4, 2) := by decide +kernel
theorem dX1_isLocal_46 : decode cX1_isLocal 46 = .ok (.ifCond .ne 19, 3) := by decide +kernel
theorem dX1_isLocal_49 : decode cX1_isLocal 49 = .ok (.iload_n 3, 1) := by decide +kernel
theorem dX1_isLocal_50 : decode cX1_isLocal 50 = .ok (.invokestatic 91, 3) := by decide +kernel
theorem dX1_isLocal_53 : decode cX1_isLocal 53 = .ok (.ifCond .ne 12, 3) := by decide +kernel
theorem dX1_isLocal_56 : decode cX1_isLocal 56 = .ok (.iload_n 3, 1) := by decide +kernel
theorem dX1_isLocal_57 : decode cX1_isLocal 57 = .ok (.invokestatic 95, 3) := by decide +kernel
theorem dX1_isLocal_60 : decode cX1_isLocal 60 = .ok (.ifCond .ne 5, 3) := by decide +kernel
theorem dX1_isLocal_63 : decode cX1_isLocal 63 = .ok (.iconst 0, 1) := by decide +kernel
theorem dX1_isLocal_64 : decode cX1_isLocal 64 = .ok (.ireturn, 1) := by decide +kernel
theorem dX1_isLocal_65 : decode cX1_isLocal 65 = .ok (.iinc 2 1, 3) := by decide +kernel
theorem dX1_isLocal_68 : decode cX1_isLocal 68 = .ok (.goto (-66), 3) := by decide +kernel
theorem dX1_isLocal_71 : decode cX1_isLocal 71 = .ok (.iload_n 1, 1) := by decide +kernel
theorem dX1_isLocal_72 : decode cX1_isLocal 72 = .ok (.iconst 1, 1) := by decide +kernel
theorem dX1_isLocal_73 : decode cX1_isLocal 73 = .ok (.if_icmp .lt 13, 3) := by decide +kernel
theorem dX1_isLocal_76 : decode cX1_isLocal 76 = .ok (.iload_n 1, 1) := by decide +kernel
theorem dX1_isLocal_77 : decode cX1_isLocal 77 = .ok (.bipush 30, 2) := by decide +kernel
theorem dX1_isLocal_79 : decode cX1_isLocal 79 = .ok (.if_icmp .gt 7, 3) := by decide +kernel
theorem dX1_isLocal_82 : decode cX1_isLocal 82 = .ok (.iconst 1, 1) := by decide +kernel
theorem dX1_isLocal_83 : decode cX1_isLocal 83 = .ok (.goto 4, 3) := by decide +kernel
theorem dX1_isLocal_86 : decode cX1_isLocal 86 = .ok (.iconst 0, 1) := by decide +kernel
theorem dX1_isLocal_87 : decode cX1_isLocal 87 = .ok (.ireturn, 1) := by decide +kernel
theorem dX1_takeSender_0 : decode cX1_takeSender 0 = .ok (.aload_n 2, 1) := by decide +kernel
theorem dX1_takeSender_1 : decode cX1_takeSender 1 = .ok (.bipush 64, 2) := by decide +kernel
theorem dX1_takeSender_3 : decode cX1_takeSender 3 = .ok (.iconst 0, 1) := by decide +kernel
theorem dX1_takeSender_4 : decode cX1_takeSender 4 = .ok (.aload_n 2, 1) := by decide +kernel
theorem dX1_takeSender_5 : decode cX1_takeSender 5 = .ok (.getfield 58, 3) := by decide +kernel
theorem dX1_takeSender_8 : decode cX1_takeSender 8 = .ok (.invokevirtual 61, 3) := by decide +kernel
theorem dX1_takeSender_11 : decode cX1_takeSender 11 = .ok (.istore_n 3, 1) := by decide +kernel
theorem dX1_takeSender_12 : decode cX1_takeSender 12 = .ok (.aload_n 2, 1) := by decide +kernel
theorem dX1_takeSender_13 : decode cX1_takeSender 13 = .ok (.iload_n 3, 1) := by decide +kernel
theorem dX1_takeSender_14 : decode cX1_takeSender 14 = .ok (.invokestatic 65, 3) := by decide +kernel
theorem dX1_takeSender_17 : decode cX1_takeSender 17 = .ok (.ifCond .eq 17, 3) := by decide +kernel
theorem dX1_takeSender_20 : decode cX1_takeSender 20 = .ok (.aload_n 2, 1) := by decide +kernel
theorem dX1_takeSender_21 : decode cX1_takeSender 21 = .ok (.iload_n 3, 1) := by decide +kernel
theorem dX1_takeSender_22 : decode cX1_takeSender 22 = .ok (.iconst 1, 1) := by decide +kernel
theorem dX1_takeSender_23 : decode cX1_takeSender 23 = .ok (.iadd, 1) := by decide +kernel
theorem dX1_takeSender_24 : decode cX1_takeSender 24 = .ok (.aload_n 2, 1) := by decide +kernel
theorem dX1_takeSender_25 : decode cX1_takeSender 25 = .ok (.getfield 58, 3) := by decide +kernel
theorem dX1_takeSender_28 : decode cX1_takeSender 28 = .ok (.invokevirtual 69, 3) := by decide +kernel
theorem dX1_takeSender_31 : decode cX1_takeSender 31 = .ok (.ifCond .ne 5, 3) := by decide +kernel
theorem dX1_takeSender_34 : decode cX1_takeSender 34 = .ok (.iconst 0, 1) := by decide +kernel
theorem dX1_takeSender_35 : decode cX1_takeSender 35 = .ok (.ireturn, 1) := by decide +kernel
theorem dX1_takeSender_36 : decode cX1_takeSender 36 = .ok (.aload_n 0, 1) := by decide +kernel
theorem dX1_takeSender_37 : decode cX1_takeSender 37 = .ok (.getfield 16, 3) := by decide +kernel
theorem dX1_takeSender_40 : decode cX1_takeSender 40 = .ok (.aload_n 2, 1) := by decide +kernel
theorem dX1_takeSender_41 : decode cX1_takeSender 41 = .ok (.invokevirtual 73, 3) := by decide +kernel
theorem dX1_takeSender_44 : decode cX1_takeSender 44 = .ok (.aload_n 0, 1) := by decide +kernel
theorem dX1_takeSender_45 : decode cX1_takeSender 45 = .ok (.getfield 20, 3) := by decide +kernel
theorem dX1_takeSender_48 : decode cX1_takeSender 48 = .ok (.invokevirtual 77, 3) := by decide +kernel
theorem dX1_takeSender_51 : decode cX1_takeSender 51 = .ok (.aload_n 0, 1) := by decide +kernel
theorem dX1_takeSender_52 : decode cX1_takeSender 52 = .ok (.getfield 20, 3) := by decide +kernel
theorem dX1_takeSender_55 : decode cX1_takeSender 55 = .ok (.aload_n 2, 1) := by decide +kernel
theorem dX1_takeSender_56 : decode cX1_takeSender 56 = .ok (.iconst 0, 1) := by decide +kernel
theorem dX1_takeSender_57 : decode cX1_takeSender 57 = .ok (.iload_n 3, 1) := by decide +kernel
theorem dX1_takeSender_58 : decode cX1_takeSender 58 = .ok (.invokevirtual 80, 3) := by decide +kernel
theorem dX1_takeSender_61 : decode cX1_takeSender 61 = .ok (.aload_n 0, 1) := by decide +kernel
theorem dX1_takeSender_62 : decode cX1_takeSender 62 = .ok (.getfield 23, 3) := by decide +kernel
theorem dX1_takeSender_65 : decode cX1_takeSender 65 = .ok (.invokevirtual 77, 3) := by decide +kernel
theorem dX1_takeSender_68 : decode cX1_takeSender 68 = .ok (.aload_n 0, 1) := by decide +kernel
theorem dX1_takeSender_69 : decode cX1_takeSender 69 = .ok (.getfield 23, 3) := by decide +kernel
theorem dX1_takeSender_72 : decode cX1_takeSender 72 = .ok (.aload_n 2, 1) := by decide +kernel
theorem dX1_takeSender_73 : decode cX1_takeSender 73 = .ok (.iload_n 3, 1) := by decide +kernel
theorem dX1_takeSender_74 : decode cX1_takeSender 74 = .ok (.iconst 1, 1) := by decide +kernel
theorem dX1_takeSender_75 : decode cX1_takeSender 75 = .ok (.iadd, 1) := by decide +kernel
theorem dX1_takeSender_76 : decode cX1_takeSender 76 = .ok (.aload_n 2, 1) := by decide +kernel
theorem dX1_takeSender_77 : decode cX1_takeSender 77 = .ok (.getfield 58, 3) := by decide +kernel
theorem dX1_takeSender_80 : decode cX1_takeSender 80 = .ok (.invokevirtual 80, 3) := by decide +kernel
theorem dX1_takeSender_83 : decode cX1_takeSender 83 = .ok (.aload_n 0, 1) := by decide +kernel
theorem dX1_takeSender_84 : decode cX1_takeSender 84 = .ok (.iload_n 1, 1) := by decide +kernel
theorem dX1_takeSender_85 : decode cX1_takeSender 85 = .ok (.putfield 39, 3) := by decide +kernel
theorem dX1_takeSender_88 : decode cX1_takeSender 88 = .ok (.aload_n 0, 1) := by decide +kernel
theorem dX1_takeSender_89 : decode cX1_takeSender 89 = .ok (.getfield 26, 3) := by decide +kernel
theorem dX1_takeSender_92 : decode cX1_takeSender 92 = .ok (.invokevirtual 77, 3) := by decide +kernel
theorem dX1_takeSender_95 : decode cX1_takeSender 95 = .ok (.aload_n 0, 1) := by decide +kernel
theorem dX1_takeSender_96 : decode cX1_takeSender 96 = .ok (.invokevirtual 84, 3) := by decide +kernel
theorem dX1_takeSender_99 : decode cX1_takeSender 99 = .ok (.aload_n 0, 1) := by decide +kernel
theorem dX1_takeSender_100 : decode cX1_takeSender 100 = .ok (.iconst 1, 1) := by decide +kernel
theorem dX1_takeSender_101 : decode cX1_takeSender 101 = .ok (.putfield 43, 3) := by decide +kernel
theorem dX1_takeSender_104 : decode cX1_takeSender 104 = .ok (.iconst 1, 1) := by decide +kernel
theorem dX1_takeSender_105 : decode cX1_takeSender 105 = .ok (.ireturn, 1) := by decide +kernel
theorem dX2_clear_0 : decode cX2_clear 0 = .ok (.aload_n 0, 1) := by decide +kernel
theorem dX2_clear_1 : decode cX2_clear 1 = .ok (.getfield 17, 3) := by decide +kernel
theorem dX2_clear_4 : decode cX2_clear 4 = .ok (.istore_n 1, 1) := by decide +kernel
theorem dX2_clear_5 : decode cX2_clear 5 = .ok (.aload_n 0, 1) := by decide +kernel
theorem dX2_clear_6 : decode cX2_clear 6 = .ok (.iconst 0, 1) := by decide +kernel
theorem dX2_clear_7 : decode cX2_clear 7 = .ok (.putfield 17, 3) := by decide +kernel
theorem dX2_clear_10 : decode cX2_clear 10 = .ok (.iload_n 1, 1) := by decide +kernel
theorem dX2_clear_11 : decode cX2_clear 11 = .ok (.ireturn, 1) := by decide +kernel
theorem dX2_take_0 : decode cX2_take 0 = .ok (.aload_n 0, 1) := by decide +kernel
theorem dX2_take_1 : decode cX2_take 1 = .ok (.getfield 17, 3) := by decide +kernel
theorem dX2_take_4 : decode cX2_take 4 = .ok (.bipush 40, 2) := by decide +kernel
theorem dX2_take_6 : decode cX2_take 6 = .ok (.if_icmp .ne 6, 3) := by decide +kernel
theorem dX2_take_9 : decode cX2_take 9 = .ok (.bipush (-3), 2) := by decide +kernel
theorem dX2_take_11 : decode cX2_take 11 = .ok (.ireturn, 1) := by decide +kernel
theorem dX2_take_12 : decode cX2_take 12 = .ok (.iload_n 1, 1) := by decide +kernel
theorem dX2_take_13 : decode cX2_take 13 = .ok (.ifCond .eq 8, 3) := by decide +kernel
theorem dX2_take_16 : decode cX2_take 16 = .ok (.iload_n 1, 1) := by decide +kernel
theorem dX2_take_17 : decode cX2_take 17 = .ok (.iconst 2, 1) := by decide +kernel
theorem dX2_take_18 : decode cX2_take 18 = .ok (.if_icmp .ne 7, 3) := by decide +kernel
theorem dX2_take_21 : decode cX2_take 21 = .ok (.iconst 1, 1) := by decide +kernel
theorem dX2_take_22 : decode cX2_take 22 = .ok (.goto 4, 3) := by decide +kernel
theorem dX2_take_25 : decode cX2_take 25 = .ok (.iconst 0, 1) := by decide +kernel
theorem dX2_take_26 : decode cX2_take 26 = .ok (.istore 4, 2) := by decide +kernel
theorem dX2_take_28 : decode cX2_take 28 = .ok (.iload 4, 2) := by decide +kernel
theorem dX2_take_30 : decode cX2_take 30 = .ok (.ifCond .eq 17, 3) := by decide +kernel
theorem dX2_take_33 : decode cX2_take 33 = .ok (.aload_n 3, 1) := by decide +kernel
theorem dX2_take_34 : decode cX2_take 34 = .ok (.bipush 32, 2) := by decide +kernel
theorem dX2_take_36 : decode cX2_take 36 = .ok (.iconst 0, 1) := by decide +kernel
theorem dX2_take_37 : decode cX2_take 37 = .ok (.aload_n 3, 1) := by decide +kernel
theorem dX2_take_38 : decode cX2_take 38 = .ok (.getfield 22, 3) := by decide +kernel
theorem dX2_take_41 : decode cX2_take 41 = .ok (.invokevirtual 27, 3) := by decide +kernel
theorem dX2_take_44 : decode cX2_take 44 = .ok (.goto 7, 3) := by decide +kernel
theorem dX2_take_47 : decode cX2_take 47 = .ok (.aload_n 3, 1) := by decide +kernel
theorem dX2_take_48 : decode cX2_take 48 = .ok (.getfield 22, 3) := by decide +kernel
theorem dX2_take_51 : decode cX2_take 51 = .ok (.istore 5, 2) := by decide +kernel
theorem dX2_take_53 : decode cX2_take 53 = .ok (.iload_n 1, 1) := by decide +kernel
theorem dX2_take_54 : decode cX2_take 54 = .ok (.ifCond .lt 18, 3) := by decide +kernel
theorem dX2_take_57 : decode cX2_take 57 = .ok (.iload_n 1, 1) := by decide +kernel
theorem dX2_take_58 : decode cX2_take 58 = .ok (.iconst 4, 1) := by decide +kernel
theorem dX2_take_59 : decode cX2_take 59 = .ok (.if_icmp .gt 13, 3) := by decide +kernel
theorem dX2_take_62 : decode cX2_take 62 = .ok (.aload_n 3, 1) := by decide +kernel
theorem dX2_take_63 : decode cX2_take 63 = .ok (.iconst 0, 1) := by decide +kernel
theorem dX2_take_64 : decode cX2_take 64 = .ok (.iload 5, 2) := by decide +kernel
theorem dX2_take_66 : decode cX2_take 66 = .ok (.invokevirtual 31, 3) := by decide +kernel
theorem dX2_take_69 : decode cX2_take 69 = .ok (.ifCond .ne 5, 3) := by decide +kernel
theorem dX2_take_72 : decode cX2_take 72 = .ok (.iconst (-1), 1) := by decide +kernel
theorem dX2_take_73 : decode cX2_take 73 = .ok (.ireturn, 1) := by decide +kernel
theorem dX2_take_74 : decode cX2_take 74 = .ok (.iload 4, 2) := by decide +kernel
theorem dX2_take_76 : decode cX2_take 76 = .ok (.ifCond .eq 15, 3) := by decide +kernel
theorem dX2_take_79 : decode cX2_take 79 = .ok (.iload_n 1, 1) := by decide +kernel
theorem dX2_take_80 : decode cX2_take 80 = .ok (.aload_n 3, 1) := by decide +kernel
theorem dX2_take_81 : decode cX2_take 81 = .ok (.iload 5, 2) := by decide +kernel
theorem dX2_take_83 : decode cX2_take 83 = .ok (.invokestatic 35, 3) := by decide +kernel
theorem dX2_take_86 : decode cX2_take 86 = .ok (.ifCond .ne 5, 3) := by decide +kernel
theorem dX2_take_89 : decode cX2_take 89 = .ok (.iconst (-1), 1) := by decide +kernel
theorem dX2_take_90 : decode cX2_take 90 = .ok (.ireturn, 1) := by decide +kernel
theorem dX2_take_91 : decode cX2_take 91 = .ok (.aload_n 0, 1) := by decide +kernel
theorem dX2_take_92 : decode cX2_take 92 = .ok (.getfield 13, 3) := by decide +kernel
theorem dX2_take_95 : decode cX2_take 95 = .ok (.aload_n 0, 1) := by decide +kernel
theorem dX2_take_96 : decode cX2_take 96 = .ok (.getfield 17, 3) := by decide +kernel
theorem dX2_take_99 : decode cX2_take 99 = .ok (.aaload, 1) := by decide +kernel
theorem dX2_take_100 : decode cX2_take 100 = .ok (.astore 6, 2) := by decide +kernel
theorem dX2_take_102 : decode cX2_take 102 = .ok (.aload 6, 2) := by decide +kernel
theorem dX2_take_104 : decode cX2_take 104 = .ok (.iload_n 1, 1) := by decide +kernel
theorem dX2_take_105 : decode cX2_take 105 = .ok (.putfield 39, 3) := by decide +kernel
theorem dX2_take_108 : decode cX2_take 108 = .ok (.aload 6, 2) := by decide +kernel
theorem dX2_take_110 : decode cX2_take 110 = .ok (.iload_n 2, 1) := by decide +kernel
theorem dX2_take_111 : decode cX2_take 111 = .ok (.putfield 42, 3) := by decide +kernel
theorem dX2_take_114 : decode cX2_take 114 = .ok (.aload 6, 2) := by decide +kernel
theorem dX2_take_116 : decode cX2_take 116 = .ok (.getfield 45, 3) := by decide +kernel
theorem dX2_take_119 : decode cX2_take 119 = .ok (.invokevirtual 49, 3) := by decide +kernel
theorem dX2_take_122 : decode cX2_take 122 = .ok (.aload 6, 2) := by decide +kernel
theorem dX2_take_124 : decode cX2_take 124 = .ok (.getfield 45, 3) := by decide +kernel
theorem dX2_take_127 : decode cX2_take 127 = .ok (.aload_n 3, 1) := by decide +kernel
theorem dX2_take_128 : decode cX2_take 128 = .ok (.iconst 0, 1) := by decide +kernel
theorem dX2_take_129 : decode cX2_take 129 = .ok (.iload 5, 2) := by decide +kernel
theorem dX2_take_131 : decode cX2_take 131 = .ok (.invokevirtual 52, 3) := by decide +kernel
theorem dX2_take_134 : decode cX2_take 134 = .ok (.aload 6, 2) := by decide +kernel
theorem dX2_take_136 : decode cX2_take 136 = .ok (.getfield 56, 3) := by decide +kernel
theorem dX2_take_139 : decode cX2_take 139 = .ok (.invokevirtual 49, 3) := by decide +kernel
theorem dX2_take_142 : decode cX2_take 142 = .ok (.aload 6, 2) := by decide +kernel
theorem dX2_take_144 : decode cX2_take 144 = .ok (.getfield 56, 3) := by decide +kernel
theorem dX2_take_147 : decode cX2_take 147 = .ok (.aload_n 3, 1) := by decide +kernel
theorem dX2_take_148 : decode cX2_take 148 = .ok (.iload 5, 2) := by decide +kernel
theorem dX2_take_150 : decode cX2_take 150 = .ok (.iconst 1, 1) := by decide +kernel
theorem dX2_take_151 : decode cX2_take 151 = .ok (.iadd, 1) := by decide +kernel
theorem dX2_take_152 : decode cX2_take 152 = .ok (.aload_n 3, 1) := by decide +kernel
theorem dX2_take_153 : decode cX2_take 153 = .ok (.getfield 22, 3) := by decide +kernel
theorem dX2_take_156 : decode cX2_take 156 = .ok (.invokevirtual 52, 3) := by decide +kernel
theorem dX2_take_159 : decode cX2_take 159 = .ok (.aload_n 0, 1) := by decide +kernel
theorem dX2_take_160 : decode cX2_take 160 = .ok (.dup, 1) := by decide +kernel
theorem dX2_take_161 : decode cX2_take 161 = .ok (.getfield 17, 3) := by decide +kernel
theorem dX2_take_164 : decode cX2_take 164 = .ok (.iconst 1, 1) := by decide +kernel
theorem dX2_take_165 : decode cX2_take 165 = .ok (.iadd, 1) := by decide +kernel
theorem dX2_take_166 : decode cX2_take 166 = .ok (.putfield 17, 3) := by decide +kernel
theorem dX2_take_169 : decode cX2_take 169 = .ok (.aload_n 0, 1) := by decide +kernel
theorem dX2_take_170 : decode cX2_take 170 = .ok (.getfield 17, 3) := by decide +kernel
theorem dX2_take_173 : decode cX2_take 173 = .ok (.ireturn, 1) := by decide +kernel
theorem dX4_countOf_0 : decode cX4_countOf 0 = .ok (.iconst 0, 1) := by decide +kernel
theorem dX4_countOf_1 : decode cX4_countOf 1 = .ok (.istore_n 2, 1) := by decide +kernel
theorem dX4_countOf_2 : decode cX4_countOf 2 = .ok (.iconst 0, 1) := by decide +kernel
theorem dX4_countOf_3 : decode cX4_countOf 3 = .ok (.istore_n 3, 1) := by decide +kernel
theorem dX4_countOf_4 : decode cX4_countOf 4 = .ok (.iload_n 3, 1) := by decide +kernel
theorem dX4_countOf_5 : decode cX4_countOf 5 = .ok (.aload_n 0, 1) := by decide +kernel
theorem dX4_countOf_6 : decode cX4_countOf 6 = .ok (.getfield 30, 3) := by decide +kernel
theorem dX4_countOf_9 : decode cX4_countOf 9 = .ok (.if_icmp .ge 26, 3) := by decide +kernel
theorem dX4_countOf_12 : decode cX4_countOf 12 = .ok (.iload_n 2, 1) := by decide +kernel
theorem dX4_countOf_13 : decode cX4_countOf 13 = .ok (.aload_n 0, 1) := by decide +kernel
theorem dX4_countOf_14 : decode cX4_countOf 14 = .ok (.iload_n 3, 1) := by decide +kernel
theorem dX4_countOf_15 : decode cX4_countOf 15 = .ok (.aload_n 1, 1) := by decide +kernel
theorem dX4_countOf_16 : decode cX4_countOf 16 = .ok (.invokevirtual 80, 3) := by decide +kernel
theorem dX4_countOf_19 : decode cX4_countOf 19 = .ok (.ifCond .eq 7, 3) := by decide +kernel
theorem dX4_countOf_22 : decode cX4_countOf 22 = .ok (.iconst 1, 1) := by decide +kernel
theorem dX4_countOf_23 : decode cX4_countOf 23 = .ok (.goto 4, 3) := by decide +kernel
theorem dX4_countOf_26 : decode cX4_countOf 26 = .ok (.iconst 0, 1) := by decide +kernel
theorem dX4_countOf_27 : decode cX4_countOf 27 = .ok (.iadd, 1) := by decide +kernel
theorem dX4_countOf_28 : decode cX4_countOf 28 = .ok (.istore_n 2, 1) := by decide +kernel
theorem dX4_countOf_29 : decode cX4_countOf 29 = .ok (.iinc 3 1, 3) := by decide +kernel
theorem dX4_countOf_32 : decode cX4_countOf 32 = .ok (.goto (-28), 3) := by decide +kernel
theorem dX4_countOf_35 : decode cX4_countOf 35 = .ok (.iload_n 2, 1) := by decide +kernel
theorem dX4_countOf_36 : decode cX4_countOf 36 = .ok (.ireturn, 1) := by decide +kernel
theorem dX4_fieldOf_0 : decode cX4_fieldOf 0 = .ok (.iload_n 2, 1) := by decide +kernel
theorem dX4_fieldOf_1 : decode cX4_fieldOf 1 = .ok (.istore_n 3, 1) := by decide +kernel
theorem dX4_fieldOf_2 : decode cX4_fieldOf 2 = .ok (.iconst 0, 1) := by decide +kernel
theorem dX4_fieldOf_3 : decode cX4_fieldOf 3 = .ok (.istore 4, 2) := by decide +kernel
theorem dX4_fieldOf_5 : decode cX4_fieldOf 5 = .ok (.iload 4, 2) := by decide +kernel
theorem dX4_fieldOf_7 : decode cX4_fieldOf 7 = .ok (.aload_n 0, 1) := by decide +kernel
theorem dX4_fieldOf_8 : decode cX4_fieldOf 8 = .ok (.getfield 30, 3) := by decide +kernel
theorem dX4_fieldOf_11 : decode cX4_fieldOf 11 = .ok (.if_icmp .ge 32, 3) := by decide +kernel
theorem dX4_fieldOf_14 : decode cX4_fieldOf 14 = .ok (.aload_n 0, 1) := by decide +kernel
theorem dX4_fieldOf_15 : decode cX4_fieldOf 15 = .ok (.iload 4, 2) := by decide +kernel
theorem dX4_fieldOf_17 : decode cX4_fieldOf 17 = .ok (.aload_n 1, 1) := by decide +kernel
theorem dX4_fieldOf_18 : decode cX4_fieldOf 18 = .ok (.invokevirtual 80, 3) := by decide +kernel
theorem dX4_fieldOf_21 : decode cX4_fieldOf 21 = .ok (.ifCond .ne 6, 3) := by decide +kernel
theorem dX4_fieldOf_24 : decode cX4_fieldOf 24 = .ok (.goto 13, 3) := by decide +kernel
theorem dX4_fieldOf_27 : decode cX4_fieldOf 27 = .ok (.iload_n 3, 1) := by decide +kernel
theorem dX4_fieldOf_28 : decode cX4_fieldOf 28 = .ok (.ifCond .ne 6, 3) := by decide +kernel
theorem dX4_fieldOf_31 : decode cX4_fieldOf 31 = .ok (.iload 4, 2) := by decide +kernel
theorem dX4_fieldOf_33 : decode cX4_fieldOf 33 = .ok (.ireturn, 1) := by decide +kernel
theorem dX4_fieldOf_34 : decode cX4_fieldOf 34 = .ok (.iinc 3 (-1), 3) := by decide +kernel
theorem dX4_fieldOf_37 : decode cX4_fieldOf 37 = .ok (.iinc 4 1, 3) := by decide +kernel
theorem dX4_fieldOf_40 : decode cX4_fieldOf 40 = .ok (.goto (-35), 3) := by decide +kernel
theorem dX4_fieldOf_43 : decode cX4_fieldOf 43 = .ok (.iconst (-1), 1) := by decide +kernel
theorem dX4_fieldOf_44 : decode cX4_fieldOf 44 = .ok (.ireturn, 1) := by decide +kernel
theorem dX4_read_0 : decode cX4_read 0 = .ok (.aload_n 0, 1) := by decide +kernel
theorem dX4_read_1 : decode cX4_read 1 = .ok (.getfield 14, 3) := by decide +kernel
theorem dX4_read_4 : decode cX4_read 4 = .ok (.aload_n 1, 1) := by decide +kernel
theorem dX4_read_5 : decode cX4_read 5 = .ok (.invokevirtual 37, 3) := by decide +kernel
theorem dX4_read_8 : decode cX4_read 8 = .ok (.aload_n 0, 1) := by decide +kernel
theorem dX4_read_9 : decode cX4_read 9 = .ok (.iconst 0, 1) := by decide +kernel
theorem dX4_read_10 : decode cX4_read 10 = .ok (.putfield 30, 3) := by decide +kernel
theorem dX4_read_13 : decode cX4_read 13 = .ok (.aload_n 0, 1) := by decide +kernel
theorem dX4_read_14 : decode cX4_read 14 = .ok (.aload_n 0, 1) := by decide +kernel
theorem dX4_read_15 : decode cX4_read 15 = .ok (.getfield 14, 3) := by decide +kernel
theorem dX4_read_18 : decode cX4_read 18 = .ok (.getfield 41, 3) := by decide +kernel
theorem dX4_read_21 : decode cX4_read 21 = .ok (.putfield 34, 3) := by decide +kernel
theorem dX4_read_24 : decode cX4_read 24 = .ok (.iconst 0, 1) := by decide +kernel
theorem dX4_read_25 : decode cX4_read 25 = .ok (.istore_n 2, 1) := by decide +kernel
theorem dX4_read_26 : decode cX4_read 26 = .ok (.iconst 0, 1) := by decide +kernel
theorem dX4_read_27 : decode cX4_read 27 = .ok (.istore_n 3, 1) := by decide +kernel
theorem dX4_read_28 : decode cX4_read 28 = .ok (.iload_n 3, 1) := by decide +kernel
theorem dX4_read_29 : decode cX4_read 29 = .ok (.aload_n 0, 1) := by decide +kernel
theorem dX4_read_30 : decode cX4_read 30 = .ok (.getfield 14, 3) := by decide +kernel
theorem dX4_read_33 : decode cX4_read 33 = .ok (.getfield 41, 3) := by decide +kernel
theorem dX4_read_36 : decode cX4_read 36 = .ok (.if_icmp .gt 88, 3) := by decide +kernel
theorem dX4_read_39 : decode cX4_read 39 = .ok (.iload_n 3, 1) := by decide +kernel
theorem dX4_read_40 : decode cX4_read 40 = .ok (.aload_n 0, 1) := by decide +kernel
theorem dX4_read_41 : decode cX4_read 41 = .ok (.getfield 14, 3) := by decide +kernel
theorem dX4_read_44 : decode cX4_read 44 = .ok (.getfield 41, 3) := by decide +kernel
theorem dX4_read_47 : decode cX4_read 47 = .ok (.if_icmp .ne 7, 3) := by decide +kernel
theorem dX4_read_50 : decode cX4_read 50 = .ok (.iconst 1, 1) := by decide +kernel
theorem dX4_read_51 : decode cX4_read 51 = .ok (.goto 4, 3) := by decide +kernel
theorem dX4_read_54 : decode cX4_read 54 = .ok (.iconst 0, 1) := by decide +kernel
theorem dX4_read_55 : decode cX4_read 55 = .ok (.istore 4, 2) := by decide +kernel
theorem dX4_read_57 : decode cX4_read 57 = .ok (.iload 4, 2) := by decide +kernel
theorem dX4_read_59 : decode cX4_read 59 = .ok (.ifCond .ne 16, 3) := by decide +kernel
theorem dX4_read_62 : decode cX4_read 62 = .ok (.aload_n 0, 1) := by decide +kernel
theorem dX4_read_63 : decode cX4_read 63 = .ok (.getfield 14, 3) := by decide +kernel
theorem dX4_read_66 : decode cX4_read 66 = .ok (.iload_n 3, 1) := by decide +kernel
theorem dX4_read_67 : decode cX4_read 67 = .ok (.invokevirtual 44, 3) := by decide +kernel
theorem dX4_read_70 : decode cX4_read 70 = .ok (.bipush 10, 2) := by decide +kernel
theorem dX4_read_72 : decode cX4_read 72 = .ok (.if_icmp .ne 46, 3) := by decide +kernel
theorem dX4_read_75 : decode cX4_read 75 = .ok (.iload 4, 2) := by decide +kernel
theorem dX4_read_77 : decode cX4_read 77 = .ok (.ifCond .eq 11, 3) := by decide +kernel
theorem dX4_read_80 : decode cX4_read 80 = .ok (.iload_n 2, 1) := by decide +kernel
theorem dX4_read_81 : decode cX4_read 81 = .ok (.iload_n 3, 1) := by decide +kernel
theorem dX4_read_82 : decode cX4_read 82 = .ok (.if_icmp .ne 6, 3) := by decide +kernel
theorem dX4_read_85 : decode cX4_read 85 = .ok (.goto 33, 3) := by decide +kernel
theorem dX4_read_88 : decode cX4_read 88 = .ok (.iload_n 2, 1) := by decide +kernel
theorem dX4_read_89 : decode cX4_read 89 = .ok (.iload_n 3, 1) := by decide +kernel
theorem dX4_read_90 : decode cX4_read 90 = .ok (.if_icmp .ne 13, 3) := by decide +kernel
theorem dX4_read_93 : decode cX4_read 93 = .ok (.aload_n 0, 1) := by decide +kernel
theorem dX4_read_94 : decode cX4_read 94 = .ok (.iload_n 3, 1) := by decide +kernel
theorem dX4_read_95 : decode cX4_read 95 = .ok (.iconst 1, 1) := by decide +kernel
theorem dX4_read_96 : decode cX4_read 96 = .ok (.iadd, 1) := by decide +kernel
theorem dX4_read_97 : decode cX4_read 97 = .ok (.putfield 34, 3) := by decide +kernel
theorem dX4_read_100 : decode cX4_read 100 = .ok (.goto 24, 3) := by decide +kernel
theorem dX4_read_103 : decode cX4_read 103 = .ok (.aload_n 0, 1) := by decide +kernel
theorem dX4_read_104 : decode cX4_read 104 = .ok (.iload_n 2, 1) := by decide +kernel
theorem dX4_read_105 : decode cX4_read 105 = .ok (.iload_n 3, 1) := by decide +kernel
theorem dX4_read_106 : decode cX4_read 106 = .ok (.invokevirtual 48, 3) := by decide +kernel
theorem dX4_read_109 : decode cX4_read 109 = .ok (.ifCond .ne 5, 3) := by decide +kernel
theorem dX4_read_112 : decode cX4_read 112 = .ok (.iconst 0, 1) := by decide +kernel
theorem dX4_read_113 : decode cX4_read 113 = .ok (.ireturn, 1) := by decide +kernel
theorem dX4_read_114 : decode cX4_read 114 = .ok (.iload_n 3, 1) := by decide +kernel
theorem dX4_read_115 : decode cX4_read 115 = .ok (.iconst 1, 1) := by decide +kernel
theorem dX4_read_116 : decode cX4_read 116 = .ok (.iadd, 1) := by decide +kernel
theorem dX4_read_117 : decode cX4_read 117 = .ok (.istore_n 2, 1) := by decide +kernel
theorem dX4_read_118 : decode cX4_read 118 = .ok (.iinc 3 1, 3) := by decide +kernel
theorem dX4_read_121 : decode cX4_read 121 = .ok (.goto (-93), 3) := by decide +kernel
theorem dX4_read_124 : decode cX4_read 124 = .ok (.aload_n 0, 1) := by decide +kernel
theorem dX4_read_125 : decode cX4_read 125 = .ok (.getfield 30, 3) := by decide +kernel
theorem dX4_read_128 : decode cX4_read 128 = .ok (.ifCond .le 7, 3) := by decide +kernel
theorem dX4_read_131 : decode cX4_read 131 = .ok (.iconst 1, 1) := by decide +kernel
theorem dX4_read_132 : decode cX4_read 132 = .ok (.goto 4, 3) := by decide +kernel
theorem dX4_read_135 : decode cX4_read 135 = .ok (.iconst 0, 1) := by decide +kernel
theorem dX4_read_136 : decode cX4_read 136 = .ok (.ireturn, 1) := by decide +kernel
theorem kt_190 : Cond.code yX0_find cX0_find 5 (some .int) ∈ tb := tb_at (i := 516) (by decide +kernel) (by decide +kernel)
theorem kt_191 : Cond.methodLink RX1 61 yX0_find ∈ tb := tb_at (i := 568) (by decide +kernel) (by decide +kernel)
theorem kt_192 : Cond.instanceMethod yX0_find ∈ tb := tb_at (i := 514) (by decide +kernel) (by decide +kernel)
theorem kt_193 : Cond.selects RX0 yX0_find yX0_find ∈ tb := tb_at (i := 515) (by decide +kernel) (by decide +kernel)
theorem kt_194 : Cond.code yX1_isLocal cX1_isLocal 5 (some .boolean) ∈ tb := tb_at (i := 571) (by decide +kernel) (by decide +kernel)
theorem kt_195 : Cond.methodLink RX1 65 yX1_isLocal ∈ tb := tb_at (i := 569) (by decide +kernel) (by decide +kernel)
theorem kt_196 : Cond.static yX1_isLocal ∈ tb := tb_at (i := 570) (by decide +kernel) (by decide +kernel)
theorem kt_197 : Cond.methodLink RX2 27 yX0_find ∈ tb := tb_at (i := 513) (by decide +kernel) (by decide +kernel)
theorem kt_198 : Cond.code yX0_isName cX0_isName 7 (some .boolean) ∈ tb := tb_at (i := 523) (by decide +kernel) (by decide +kernel)
theorem kt_199 : Cond.methodLink RX2 31 yX0_isName ∈ tb := tb_at (i := 520) (by decide +kernel) (by decide +kernel)
theorem kt_200 : Cond.instanceMethod yX0_isName ∈ tb := tb_at (i := 521) (by decide +kernel) (by decide +kernel)
theorem kt_201 : Cond.selects RX0 yX0_isName yX0_isName ∈ tb := tb_at (i := 522) (by decide +kernel) (by decide +kernel)
theorem kt_202 : Cond.code yX0_copy cX0_copy 2 none ∈ tb := tb_at (i := 579) (by decide +kernel) (by decide +kernel)
theorem kt_203 : Cond.methodLink RX4 37 yX0_copy ∈ tb := tb_at (i := 799) (by decide +kernel) (by decide +kernel)
theorem kt_204 : Cond.instanceMethod yX0_copy ∈ tb := tb_at (i := 577) (by decide +kernel) (by decide +kernel)
theorem kt_205 : Cond.selects RX0 yX0_copy yX0_copy ∈ tb := tb_at (i := 578) (by decide +kernel) (by decide +kernel)
theorem kn_6 : Cond.fieldLinkNest RX1 58 "PostGate$Bytes" "size" "I" "PostGate" ∈ nw := nw_at (i := 42) (by decide +kernel) rfl
theorem kn_7 : Cond.fieldLinkNest RX2 22 "PostGate$Bytes" "size" "I" "PostGate" ∈ nw := nw_at (i := 44) (by decide +kernel) rfl
theorem kn_8 : Cond.fieldLinkNest RX4 41 "PostGate$Bytes" "size" "I" "PostGate" ∈ nw := nw_at (i := 43) (by decide +kernel) rfl
set_option maxHeartbeats 4000000 in
set_option maxRecDepth 100000 in
theorem c_X1_isLocal (l : Launch) (dC : Nat → ClassId) (dI : Nat → Nat → Nat) (sz : Nat) (t1 : Nat) : Met l yX1_isLocal (.code yX1_isLocal cX1_isLocal 5 (some .boolean) :: tb) ({ frames := 0, cells := 0, slots := 0, locals := 0 }) (va_Pc [.ref t1, .int 0] (PW (dC, dI) sz [] [])) (va_Qi (fun (r : Int32) (_ : Unit) => r = 0) (fun _ T9 => QW (dC, dI) (va_A [] sz) [] [] T9) (va_A [] sz)) 0 0 (va_A [] sz) := by
  refine Met.ofW (cc := cX1_isLocal) (maxL := 5) (ret := (some .boolean)) (by decide) rfl ?_
  intro p e s m args below meth c s₁ B hml hv
  obtain ⟨rfl, hsz, hP, hK, hD0, hE⟩ := hv
  have hx := B.exec
  have hb := B.bytes
  have hr := B.returns
  have hts : ∀ w ∈ tb, w.before _ s = true := fun w h => atoms_spec (ws := .code yX1_isLocal cX1_isLocal 5 (some .boolean) :: tb) B.pre w (List.mem_cons_of_mem _ h)
  have hown : s.vm.findClass RX1 = some m.cls := findClass_of_methodNamed B.named
  have hlocks := B.notSynchronized
  subst hsz
  have hD := hD0.self (sz := s.heap.size)
  generalize hAe : va_A [] s.heap.size = A at hD ⊢
  have hA : ∀ q : Nat, s.heap.size ≤ q → A q := fun q h => by rw [← hAe]; exact Or.inr h
  have hS : va_S A s.heap s.heap [] := va_S.rf
  have hP : va_P (dC, dI) vwCl [] s.heap := hP
  have hl := lv_entry ([.ref t1, .int 0]) (n := 5) (Nat.le_of_ble_eq_true rfl)
  rw [lg_entry_eq]
  generalize (lg_sl ([.ref t1, .int 0]) ++ List.replicate (5 - (lg_sl ([.ref t1, .int 0])).length) Slot.unset).toArray = ls at hl ⊢
  have hl : lv_has ls 5 [(0, .ref t1), (1, .int 0)] := hl
  refine lv_iconst (v := 0) hx hb dX1_isLocal_0 (by decide) ?_
  refine lv_istore_n (lv' := [(2, .int 0), (0, .ref t1), (1, .int 0)]) hx hb dX1_isLocal_1 rfl hl (by decide) rfl (fun ls hl => ?_)
  refine lv_iload_n hx hb dX1_isLocal_2 rfl (lv_at hl 0 rfl) ?_
  refine lv_iload_n hx hb dX1_isLocal_3 rfl (lv_at hl 2 rfl) ?_
  refine lv_icmp_ge (tgt := 71) hx hb dX1_isLocal_4 (by decide) (fun c_1 => ?_) (fun c_1 => absurd (by decide) c_1)
  refine lv_iload_n hx hb dX1_isLocal_71 rfl (lv_at hl 2 rfl) ?_
  refine lv_iconst (v := 1) hx hb dX1_isLocal_72 (by decide) ?_
  refine lv_icmp_lt (tgt := 86) hx hb dX1_isLocal_73 (by decide) (fun c_2 => ?_) (fun c_2 => absurd (by decide) c_2)
  refine lv_iconst (v := 0) hx hb dX1_isLocal_86 (by decide) ?_
  have hP9 := hP.sub (ws' := []) [] rfl
  have hD9 := hD.sub (ws' := []) [] (by decide) rfl
  have hK9 := hK.sub (tys' := []) [] rfl
  refine W.widen (k := 0) (n := 0) (by omega) (by omega) ?_
  exact W.zret (v := 0) (ty := .boolean) hx hb hr (by decide) (fun t ht hW => ⟨⟨0, (), rfl, rfl, QW.mk ht hW hP9 hK9 hD9⟩, hS.F ht⟩) hS.2.2 dX1_isLocal_87
set_option maxHeartbeats 4000000 in
set_option maxRecDepth 100000 in
theorem c_X1_takeSender (l : Launch) (dC : Nat → ClassId) (dI : Nat → Nat → Nat) (sz : Nat) (h0 : Nat) (t1 : Nat) (t2 : Nat) (qd : Nat) (q1 : Nat) (q2 : Nat) (q3 : Nat) (q4 : Nat) (q5 : Nat) (q6 : Nat) (x1 : Int32) : Met l yX1_takeSender (.code yX1_takeSender cX1_takeSender 4 (some .boolean) :: tb) ({ frames := 2, cells := 0, slots := 0, locals := 45 }) (va_Pc [.ref h0, .int x1, .ref t1] (PW (dC, dI) sz [(h0, .inr (1, [.ref qd, .ref q1, .ref q2, .ref q3, .ref q4, .ref q5, .ref q6, .int 0, .int 0, .int 0, .int 0])), (t1, .inr (0, [.ref t2, .int 0, .int 0]))] [])) (va_Qi (fun (r : Int32) (_ : Unit) => r = 0) (fun _ T9 => QW (dC, dI) (va_A [(h0, .inr (1, [.ref qd, .ref q1, .ref q2, .ref q3, .ref q4, .ref q5, .ref q6, .int 0, .int 0, .int 0, .int 0])), (t1, .inr (0, [.ref t2, .int 0, .int 0]))] sz) [(h0, .inr (1, [.ref qd, .ref q1, .ref q2, .ref q3, .ref q4, .ref q5, .ref q6, .int 0, .int 0, .int 0, .int 0])), (t1, .inr (0, [.ref t2, .int 0, .int 0]))] [] T9) (va_A [(h0, .inr (1, [.ref qd, .ref q1, .ref q2, .ref q3, .ref q4, .ref q5, .ref q6, .int 0, .int 0, .int 0, .int 0])), (t1, .inr (0, [.ref t2, .int 0, .int 0]))] sz)) 0 0 (va_A [(h0, .inr (1, [.ref qd, .ref q1, .ref q2, .ref q3, .ref q4, .ref q5, .ref q6, .int 0, .int 0, .int 0, .int 0])), (t1, .inr (0, [.ref t2, .int 0, .int 0]))] sz) := by
  refine Met.ofW (cc := cX1_takeSender) (maxL := 4) (ret := (some .boolean)) (by decide) rfl ?_
  intro p e s m args below meth c s₁ B hml hv
  obtain ⟨rfl, hsz, hP, hK, hD0, hE⟩ := hv
  have hx := B.exec
  have hb := B.bytes
  have hr := B.returns
  have hts : ∀ w ∈ tb, w.before _ s = true := fun w h => atoms_spec (ws := .code yX1_takeSender cX1_takeSender 4 (some .boolean) :: tb) B.pre w (List.mem_cons_of_mem _ h)
  have hown : s.vm.findClass RX1 = some m.cls := findClass_of_methodNamed B.named
  have hlocks := B.notSynchronized
  subst hsz
  have hD := hD0.self (sz := s.heap.size)
  generalize hAe : va_A [(h0, .inr (1, [.ref qd, .ref q1, .ref q2, .ref q3, .ref q4, .ref q5, .ref q6, .int 0, .int 0, .int 0, .int 0])), (t1, .inr (0, [.ref t2, .int 0, .int 0]))] s.heap.size = A at hD ⊢
  have hA : ∀ q : Nat, s.heap.size ≤ q → A q := fun q h => by rw [← hAe]; exact Or.inr h
  have hS : va_S A s.heap s.heap [] := va_S.rf
  have hP : va_P (dC, dI) vwCl [(h0, .inr (1, [.ref qd, .ref q1, .ref q2, .ref q3, .ref q4, .ref q5, .ref q6, .int 0, .int 0, .int 0, .int 0])), (t1, .inr (0, [.ref t2, .int 0, .int 0]))] s.heap := hP
  have hl := lv_entry ([.ref h0, .int x1, .ref t1]) (n := 4) (Nat.le_of_ble_eq_true rfl)
  rw [lg_entry_eq]
  generalize (lg_sl ([.ref h0, .int x1, .ref t1]) ++ List.replicate (4 - (lg_sl ([.ref h0, .int x1, .ref t1])).length) Slot.unset).toArray = ls at hl ⊢
  have hl : lv_has ls 4 [(0, .ref h0), (1, .int x1), (2, .ref t1)] := hl
  refine lv_aload_n hx hb dX1_takeSender_0 rfl (lv_at hl 2 rfl) ?_
  refine lv_bipush (v := 64) hx hb dX1_takeSender_1 (by decide) ?_
  refine lv_iconst (v := 0) hx hb dX1_takeSender_3 (by decide) ?_
  refine lv_aload_n hx hb dX1_takeSender_4 rfl (lv_at hl 2 rfl) ?_
  refine va_getN (D := (dC, dI)) (ci := 0) (v := .int 0) (C := RX0) (T := TX0) (N := 3) hx hb hts it_0 hown hK hP 1 rfl rfl 1 (by decide) (hE.nest kn_6) (fun _ h9 => h9) rfl dX1_takeSender_5 ?_
  have hPc := hP.sub (ws' := [(t1, .inr (0, [.ref t2, .int 0, .int 0]))]) [1] rfl
  have hDc := hD.sub (ws' := [(t1, .inr (0, [.ref t2, .int 0, .int 0]))]) [1] (by decide) rfl
  have hKc := hK.sub (tys' := []) [] rfl
  have hFc := va_free (wc := [(t1, .inr (0, [.ref t2, .int 0, .int 0]))]) hD hS hA [1] rfl
  refine va_calli (va_runV (As := [.int 64, .int 0, .int 0]) (rest := []) ⟨hx, hb, hml, hown, hts⟩ (c_X0_find l dC dI s.heap.size t1 t2 64 ) ⟨callB_of 3 hts (gi kt_190) rfl rfl rfl (hts _ kt_10) (hts _ kt_191) (by decide +kernel) ⟨Nat.le_of_ble_eq_true rfl, Nat.le_of_ble_eq_true rfl⟩, (hts _ kt_192), (hts _ kt_193)⟩ ⟨fun a U g mk q => ⟨q.1, PW.calling q.2⟩, va_recv hKc hPc (ci := 0) (q0 := 0) rfl rfl, fun U hU hW => ⟨rfl, PW.mk hU hW hPc hKc hDc hE⟩⟩ rfl rfl hl.1 rfl (lv_room (Nat.le_of_ble_eq_true rfl)) dX1_takeSender_8 ⟨by show _ + 0 ≤ 0; omega, by show _ + 0 ≤ 0; omega⟩) hS (fun q _ h => hFc q h) hFc (fun r_1 u t H1 locs ht hvm hw hB hz1 hk1 hS => ?_)
  have hB1 := hB
  obtain ⟨hP, hD, hK⟩ := QW.join (wr := [(h0, .inr (1, [.ref qd, .ref q1, .ref q2, .ref q3, .ref q4, .ref q5, .ref q6, .int 0, .int 0, .int 0, .int 0]))]) hP hD hK [1] [0] rfl rfl (by decide) (by decide) hk1 hFc ht hvm hB1
  generalize H1 = H at hP hS ⊢
  have hK : va_K (dC, dI) vwCl [] s := hK.sub [] rfl
  have hP : va_P (dC, dI) vwCl [(h0, .inr (1, [.ref qd, .ref q1, .ref q2, .ref q3, .ref q4, .ref q5, .ref q6, .int 0, .int 0, .int 0, .int 0])), (t1, .inr (0, [.ref t2, .int 0, .int 0]))] H := hP
  have hD : va_D A [(h0, .inr (1, [.ref qd, .ref q1, .ref q2, .ref q3, .ref q4, .ref q5, .ref q6, .int 0, .int 0, .int 0, .int 0])), (t1, .inr (0, [.ref t2, .int 0, .int 0]))] := hD
  have hw : r_1 = 0 := hw
  subst hw
  refine lv_istore_n (lv' := [(3, .int 0), (0, .ref h0), (1, .int x1), (2, .ref t1)]) hx hb dX1_takeSender_11 rfl hl (by decide) rfl (fun ls hl => ?_)
  refine lv_aload_n hx hb dX1_takeSender_12 rfl (lv_at hl 3 rfl) ?_
  refine lv_iload_n hx hb dX1_takeSender_13 rfl (lv_at hl 0 rfl) ?_
  have hPc := hP.sub (ws' := []) [] rfl
  have hDc := hD.sub (ws' := []) [] (by decide) rfl
  have hKc := hK.sub (tys' := []) [] rfl
  have hFc := va_free (wc := []) hD hS hA [] rfl
  refine va_calli (va_runS (As := [.ref t1, .int 0]) (rest := []) ⟨hx, hb, hml, hown, hts⟩ (c_X1_isLocal l dC dI H.size t1 ) ⟨callB_of 2 hts (gi kt_194) rfl rfl rfl (hts _ kt_143) (hts _ kt_195) (by decide +kernel) ⟨Nat.le_of_ble_eq_true rfl, Nat.le_of_ble_eq_true rfl⟩, (hts _ kt_196)⟩ ⟨fun a U g mk q => ⟨q.1, PW.calling q.2⟩, fun U hU hW => ⟨rfl, PW.mk hU hW hPc hKc hDc hE⟩⟩ rfl rfl hl.1 rfl (lv_room (Nat.le_of_ble_eq_true rfl)) dX1_takeSender_14 ⟨by show _ + 0 ≤ 0; omega, by show _ + 0 ≤ 0; omega⟩) hS (fun q _ h => hFc q h) hFc (fun r_2 u t H1 locs ht hvm hw hB hz1 hk1 hS => ?_)
  have hB1 := hB
  obtain ⟨hP, hD, hK⟩ := QW.join (wr := [(h0, .inr (1, [.ref qd, .ref q1, .ref q2, .ref q3, .ref q4, .ref q5, .ref q6, .int 0, .int 0, .int 0, .int 0])), (t1, .inr (0, [.ref t2, .int 0, .int 0]))]) hP hD hK [] [0, 1] rfl rfl (by decide) (by decide) hk1 hFc ht hvm hB1
  generalize H1 = H at hP hS ⊢
  have hK : va_K (dC, dI) vwCl [] s := hK.sub [] rfl
  have hP : va_P (dC, dI) vwCl [(h0, .inr (1, [.ref qd, .ref q1, .ref q2, .ref q3, .ref q4, .ref q5, .ref q6, .int 0, .int 0, .int 0, .int 0])), (t1, .inr (0, [.ref t2, .int 0, .int 0]))] H := hP
  have hD : va_D A [(h0, .inr (1, [.ref qd, .ref q1, .ref q2, .ref q3, .ref q4, .ref q5, .ref q6, .int 0, .int 0, .int 0, .int 0])), (t1, .inr (0, [.ref t2, .int 0, .int 0]))] := hD
  have hw : r_2 = 0 := hw
  subst hw
  refine lv_if_eq (tgt := 34) hx hb dX1_takeSender_17 (by decide) (fun c_3 => ?_) (fun c_3 => absurd (by decide) c_3)
  refine lv_iconst (v := 0) hx hb dX1_takeSender_34 (by decide) ?_
  have hP9 := hP.sub (ws' := [(h0, .inr (1, [.ref qd, .ref q1, .ref q2, .ref q3, .ref q4, .ref q5, .ref q6, .int 0, .int 0, .int 0, .int 0])), (t1, .inr (0, [.ref t2, .int 0, .int 0]))]) [0, 1] rfl
  have hD9 := hD.sub (ws' := [(h0, .inr (1, [.ref qd, .ref q1, .ref q2, .ref q3, .ref q4, .ref q5, .ref q6, .int 0, .int 0, .int 0, .int 0])), (t1, .inr (0, [.ref t2, .int 0, .int 0]))]) [0, 1] (by decide) rfl
  have hK9 := hK.sub (tys' := []) [] rfl
  refine W.widen (k := 0) (n := 0) (by omega) (by omega) ?_
  exact W.zret (v := 0) (ty := .boolean) hx hb hr (by decide) (fun t ht hW => ⟨⟨0, (), rfl, rfl, QW.mk ht hW hP9 hK9 hD9⟩, hS.F ht⟩) hS.2.2 dX1_takeSender_35
set_option maxHeartbeats 4000000 in
set_option maxRecDepth 100000 in
theorem c_X2_clear (l : Launch) (dC : Nat → ClassId) (dI : Nat → Nat → Nat) (sz : Nat) (h0 : Nat) (qe : Nat) : Met l yX2_clear (.code yX2_clear cX2_clear 2 (some .int) :: tb) ({ frames := 0, cells := 0, slots := 0, locals := 0 }) (va_Pc [.ref h0] (PW (dC, dI) sz [(h0, .inr (2, [.ref qe, .int 0]))] [])) (va_Qi (fun (r : Int32) (_ : Unit) => r = 0) (fun _ T9 => QW (dC, dI) (va_A [(h0, .inr (2, [.ref qe, .int 0]))] sz) [(h0, .inr (2, [.ref qe, .int 0]))] [] T9) (va_A [(h0, .inr (2, [.ref qe, .int 0]))] sz)) 0 0 (va_A [(h0, .inr (2, [.ref qe, .int 0]))] sz) := by
  refine Met.ofW (cc := cX2_clear) (maxL := 2) (ret := (some .int)) (by decide) rfl ?_
  intro p e s m args below meth c s₁ B hml hv
  obtain ⟨rfl, hsz, hP, hK, hD0, hE⟩ := hv
  have hx := B.exec
  have hb := B.bytes
  have hr := B.returns
  have hts : ∀ w ∈ tb, w.before _ s = true := fun w h => atoms_spec (ws := .code yX2_clear cX2_clear 2 (some .int) :: tb) B.pre w (List.mem_cons_of_mem _ h)
  have hown : s.vm.findClass RX2 = some m.cls := findClass_of_methodNamed B.named
  have hlocks := B.notSynchronized
  subst hsz
  have hD := hD0.self (sz := s.heap.size)
  generalize hAe : va_A [(h0, .inr (2, [.ref qe, .int 0]))] s.heap.size = A at hD ⊢
  have hA : ∀ q : Nat, s.heap.size ≤ q → A q := fun q h => by rw [← hAe]; exact Or.inr h
  have hS : va_S A s.heap s.heap [] := va_S.rf
  have hP : va_P (dC, dI) vwCl [(h0, .inr (2, [.ref qe, .int 0]))] s.heap := hP
  have hl := lv_entry ([.ref h0]) (n := 2) (Nat.le_of_ble_eq_true rfl)
  rw [lg_entry_eq]
  generalize (lg_sl ([.ref h0]) ++ List.replicate (2 - (lg_sl ([.ref h0])).length) Slot.unset).toArray = ls at hl ⊢
  have hl : lv_has ls 2 [(0, .ref h0)] := hl
  refine lv_aload_n hx hb dX2_clear_0 rfl (lv_at hl 0 rfl) ?_
  refine va_get (D := (dC, dI)) (ci := 2) (v := .int 0) (C := RX2) (T := TX2) (N := 2) hx hb hts it_2 hown hK hP 0 rfl rfl 1 (by decide) (hts _ kt_56) (fun _ h9 => h9) rfl dX2_clear_1 ?_
  refine lv_istore_n (lv' := [(1, .int 0), (0, .ref h0)]) hx hb dX2_clear_4 rfl hl (by decide) rfl (fun ls hl => ?_)
  refine lv_aload_n hx hb dX2_clear_5 rfl (lv_at hl 1 rfl) ?_
  refine lv_iconst (v := 0) hx hb dX2_clear_6 (by decide) ?_
  refine va_put (D := (dC, dI)) (ci := 2) (v := .int 0) (ty := .int) (C := RX2) (T := TX2) (N := 2) hx hb hts it_2 tyX2 tyX2_ok nmX2 hown hK hP hD hS 0 rfl rfl 1 (by decide) (hts _ kt_56) (fun _ h9 => h9) rfl (by decide +kernel) rfl rfl (Nat.le_of_ble_eq_true rfl) dX2_clear_7 (fun H locs hP hD hS => ?_)
  have hP : va_P (dC, dI) vwCl [(h0, .inr (2, [.ref qe, .int 0]))] H := hP
  have hD : va_D A [(h0, .inr (2, [.ref qe, .int 0]))] := hD
  refine lv_iload_n hx hb dX2_clear_10 rfl (lv_at hl 0 rfl) ?_
  have hP9 := hP.sub (ws' := [(h0, .inr (2, [.ref qe, .int 0]))]) [0] rfl
  have hD9 := hD.sub (ws' := [(h0, .inr (2, [.ref qe, .int 0]))]) [0] (by decide) rfl
  have hK9 := hK.sub (tys' := []) [] rfl
  refine W.widen (k := 0) (n := 0) (by omega) (by omega) ?_
  exact W.iret (v := 0) hx hb hr (fun t ht hW => ⟨⟨0, (), rfl, rfl, QW.mk ht hW hP9 hK9 hD9⟩, hS.F ht⟩) hS.2.2 dX2_clear_11
set_option maxHeartbeats 4000000 in
set_option maxRecDepth 100000 in
theorem c_X2_take (l : Launch) (dC : Nat → ClassId) (dI : Nat → Nat → Nat) (sz : Nat) (h0 : Nat) (qe : Nat) (t1 : Nat) (t2 : Nat) (x1 : Int32) (x2 : Int32) : Met l yX2_take (.code yX2_take cX2_take 7 (some .int) :: tb) ({ frames := 2, cells := 0, slots := 0, locals := 45 }) (va_Pc [.ref h0, .int x1, .int x2, .ref t1] (PW (dC, dI) sz [(h0, .inr (2, [.ref qe, .int 0])), (t1, .inr (0, [.ref t2, .int 0, .int 0]))] [])) (va_Qi (fun (r : Int32) (_ : Unit) => r = (-1)) (fun _ T9 => QW (dC, dI) (va_A [(h0, .inr (2, [.ref qe, .int 0])), (t1, .inr (0, [.ref t2, .int 0, .int 0]))] sz) [(h0, .inr (2, [.ref qe, .int 0])), (t1, .inr (0, [.ref t2, .int 0, .int 0]))] [] T9) (va_A [(h0, .inr (2, [.ref qe, .int 0])), (t1, .inr (0, [.ref t2, .int 0, .int 0]))] sz)) 0 0 (va_A [(h0, .inr (2, [.ref qe, .int 0])), (t1, .inr (0, [.ref t2, .int 0, .int 0]))] sz) := by
  refine Met.ofW (cc := cX2_take) (maxL := 7) (ret := (some .int)) (by decide) rfl ?_
  intro p e s m args below meth c s₁ B hml hv
  obtain ⟨rfl, hsz, hP, hK, hD0, hE⟩ := hv
  have hx := B.exec
  have hb := B.bytes
  have hr := B.returns
  have hts : ∀ w ∈ tb, w.before _ s = true := fun w h => atoms_spec (ws := .code yX2_take cX2_take 7 (some .int) :: tb) B.pre w (List.mem_cons_of_mem _ h)
  have hown : s.vm.findClass RX2 = some m.cls := findClass_of_methodNamed B.named
  have hlocks := B.notSynchronized
  subst hsz
  have hD := hD0.self (sz := s.heap.size)
  generalize hAe : va_A [(h0, .inr (2, [.ref qe, .int 0])), (t1, .inr (0, [.ref t2, .int 0, .int 0]))] s.heap.size = A at hD ⊢
  have hA : ∀ q : Nat, s.heap.size ≤ q → A q := fun q h => by rw [← hAe]; exact Or.inr h
  have hS : va_S A s.heap s.heap [] := va_S.rf
  have hP : va_P (dC, dI) vwCl [(h0, .inr (2, [.ref qe, .int 0])), (t1, .inr (0, [.ref t2, .int 0, .int 0]))] s.heap := hP
  have hl := lv_entry ([.ref h0, .int x1, .int x2, .ref t1]) (n := 7) (Nat.le_of_ble_eq_true rfl)
  rw [lg_entry_eq]
  generalize (lg_sl ([.ref h0, .int x1, .int x2, .ref t1]) ++ List.replicate (7 - (lg_sl ([.ref h0, .int x1, .int x2, .ref t1])).length) Slot.unset).toArray = ls at hl ⊢
  have hl : lv_has ls 7 [(0, .ref h0), (1, .int x1), (2, .int x2), (3, .ref t1)] := hl
  refine lv_aload_n hx hb dX2_take_0 rfl (lv_at hl 0 rfl) ?_
  refine va_get (D := (dC, dI)) (ci := 2) (v := .int 0) (C := RX2) (T := TX2) (N := 2) hx hb hts it_2 hown hK hP 0 rfl rfl 1 (by decide) (hts _ kt_56) (fun _ h9 => h9) rfl dX2_take_1 ?_
  refine lv_bipush (v := 40) hx hb dX2_take_4 (by decide) ?_
  refine lv_icmp_ne (tgt := 12) hx hb dX2_take_6 (by decide) (fun c_1 => ?_) (fun c_1 => absurd c_1 (by decide))
  refine lv_iload_n hx hb dX2_take_12 rfl (lv_at hl 1 rfl) ?_
  refine lv_if_eq (tgt := 21) hx hb dX2_take_13 (by decide) (fun c_2 => ?_) (fun c_2 => ?_)
  ·
    refine lv_iconst (v := 1) hx hb dX2_take_21 (by decide) ?_
    refine lv_goto (tgt := 26) hx hb dX2_take_22 (by decide) ?_
    refine lv_istore (lv' := [(4, .int 1), (0, .ref h0), (1, .int x1), (2, .int x2), (3, .ref t1)]) hx hb dX2_take_26 hl (by decide) rfl (fun ls hl => ?_)
    refine lv_iload hx hb dX2_take_28 (lv_at hl 0 rfl) ?_
    refine lv_if_eq (tgt := 47) hx hb dX2_take_30 (by decide) (fun c_3 => absurd c_3 (by decide)) (fun c_3 => ?_)
    refine lv_aload_n hx hb dX2_take_33 rfl (lv_at hl 4 rfl) ?_
    refine lv_bipush (v := 32) hx hb dX2_take_34 (by decide) ?_
    refine lv_iconst (v := 0) hx hb dX2_take_36 (by decide) ?_
    refine lv_aload_n hx hb dX2_take_37 rfl (lv_at hl 4 rfl) ?_
    refine va_getN (D := (dC, dI)) (ci := 0) (v := .int 0) (C := RX0) (T := TX0) (N := 3) hx hb hts it_0 hown hK hP 1 rfl rfl 1 (by decide) (hE.nest kn_7) (fun _ h9 => h9) rfl dX2_take_38 ?_
    have hPc := hP.sub (ws' := [(t1, .inr (0, [.ref t2, .int 0, .int 0]))]) [1] rfl
    have hDc := hD.sub (ws' := [(t1, .inr (0, [.ref t2, .int 0, .int 0]))]) [1] (by decide) rfl
    have hKc := hK.sub (tys' := []) [] rfl
    have hFc := va_free (wc := [(t1, .inr (0, [.ref t2, .int 0, .int 0]))]) hD hS hA [1] rfl
    refine va_calli (va_runV (As := [.int 32, .int 0, .int 0]) (rest := []) ⟨hx, hb, hml, hown, hts⟩ (c_X0_find l dC dI s.heap.size t1 t2 32 ) ⟨callB_of 3 hts (gi kt_190) rfl rfl rfl (hts _ kt_10) (hts _ kt_197) (by decide +kernel) ⟨Nat.le_of_ble_eq_true rfl, Nat.le_of_ble_eq_true rfl⟩, (hts _ kt_192), (hts _ kt_193)⟩ ⟨fun a U g mk q => ⟨q.1, PW.calling q.2⟩, va_recv hKc hPc (ci := 0) (q0 := 0) rfl rfl, fun U hU hW => ⟨rfl, PW.mk hU hW hPc hKc hDc hE⟩⟩ rfl rfl hl.1 rfl (lv_room (Nat.le_of_ble_eq_true rfl)) dX2_take_41 ⟨by show _ + 0 ≤ 0; omega, by show _ + 0 ≤ 0; omega⟩) hS (fun q _ h => hFc q h) hFc (fun r_4 u t H1 locs ht hvm hw hB hz1 hk1 hS => ?_)
    have hB1 := hB
    obtain ⟨hP, hD, hK⟩ := QW.join (wr := [(h0, .inr (2, [.ref qe, .int 0]))]) hP hD hK [1] [0] rfl rfl (by decide) (by decide) hk1 hFc ht hvm hB1
    generalize H1 = H at hP hS ⊢
    have hK : va_K (dC, dI) vwCl [] s := hK.sub [] rfl
    have hP : va_P (dC, dI) vwCl [(h0, .inr (2, [.ref qe, .int 0])), (t1, .inr (0, [.ref t2, .int 0, .int 0]))] H := hP
    have hD : va_D A [(h0, .inr (2, [.ref qe, .int 0])), (t1, .inr (0, [.ref t2, .int 0, .int 0]))] := hD
    have hw : r_4 = 0 := hw
    subst hw
    refine lv_goto (tgt := 51) hx hb dX2_take_44 (by decide) ?_
    refine lv_istore (lv' := [(5, .int 0), (4, .int 1), (0, .ref h0), (1, .int x1), (2, .int x2), (3, .ref t1)]) hx hb dX2_take_51 hl (by decide) rfl (fun ls hl => ?_)
    refine lv_iload_n hx hb dX2_take_53 rfl (lv_at hl 3 rfl) ?_
    refine lv_if_lt (tgt := 72) hx hb dX2_take_54 (by decide) (fun c_5 => ?_) (fun c_5 => ?_)
    ·
      refine lv_iconst (v := (-1)) hx hb dX2_take_72 (by decide) ?_
      have hP9 := hP.sub (ws' := [(h0, .inr (2, [.ref qe, .int 0])), (t1, .inr (0, [.ref t2, .int 0, .int 0]))]) [0, 1] rfl
      have hD9 := hD.sub (ws' := [(h0, .inr (2, [.ref qe, .int 0])), (t1, .inr (0, [.ref t2, .int 0, .int 0]))]) [0, 1] (by decide) rfl
      have hK9 := hK.sub (tys' := []) [] rfl
      refine W.widen (k := 0) (n := 0) (by omega) (by omega) ?_
      exact W.iret (v := (-1)) hx hb hr (fun t ht hW => ⟨⟨(-1), (), rfl, rfl, QW.mk ht hW hP9 hK9 hD9⟩, hS.F ht⟩) hS.2.2 dX2_take_73
    ·
      refine lv_iload_n hx hb dX2_take_57 rfl (lv_at hl 3 rfl) ?_
      refine lv_iconst (v := 4) hx hb dX2_take_58 (by decide) ?_
      refine lv_icmp_gt (tgt := 72) hx hb dX2_take_59 (by decide) (fun c_6 => ?_) (fun c_6 => ?_)
      ·
        refine lv_iconst (v := (-1)) hx hb dX2_take_72 (by decide) ?_
        have hP9 := hP.sub (ws' := [(h0, .inr (2, [.ref qe, .int 0])), (t1, .inr (0, [.ref t2, .int 0, .int 0]))]) [0, 1] rfl
        have hD9 := hD.sub (ws' := [(h0, .inr (2, [.ref qe, .int 0])), (t1, .inr (0, [.ref t2, .int 0, .int 0]))]) [0, 1] (by decide) rfl
        have hK9 := hK.sub (tys' := []) [] rfl
        refine W.widen (k := 0) (n := 0) (by omega) (by omega) ?_
        exact W.iret (v := (-1)) hx hb hr (fun t ht hW => ⟨⟨(-1), (), rfl, rfl, QW.mk ht hW hP9 hK9 hD9⟩, hS.F ht⟩) hS.2.2 dX2_take_73
      ·
        refine lv_aload_n hx hb dX2_take_62 rfl (lv_at hl 5 rfl) ?_
        refine lv_iconst (v := 0) hx hb dX2_take_63 (by decide) ?_
        refine lv_iload hx hb dX2_take_64 (lv_at hl 0 rfl) ?_
        have hPc := hP.sub (ws' := [(t1, .inr (0, [.ref t2, .int 0, .int 0]))]) [1] rfl
        have hDc := hD.sub (ws' := [(t1, .inr (0, [.ref t2, .int 0, .int 0]))]) [1] (by decide) rfl
        have hKc := hK.sub (tys' := []) [] rfl
        have hFc := va_free (wc := [(t1, .inr (0, [.ref t2, .int 0, .int 0]))]) hD hS hA [1] rfl
        refine va_calli (va_runV (As := [.int 0, .int 0]) (rest := []) ⟨hx, hb, hml, hown, hts⟩ (c_X0_isName l dC dI H.size t1 t2 ) ⟨callB_of 2 hts (gi kt_198) rfl rfl rfl (hts _ kt_10) (hts _ kt_199) (by decide +kernel) ⟨Nat.le_of_ble_eq_true rfl, Nat.le_of_ble_eq_true rfl⟩, (hts _ kt_200), (hts _ kt_201)⟩ ⟨fun a U g mk q => ⟨q.1, PW.calling q.2⟩, va_recv hKc hPc (ci := 0) (q0 := 0) rfl rfl, fun U hU hW => ⟨rfl, PW.mk hU hW hPc hKc hDc hE⟩⟩ rfl rfl hl.1 rfl (lv_room (Nat.le_of_ble_eq_true rfl)) dX2_take_66 ⟨by show _ + 0 ≤ 0; omega, by show _ + 0 ≤ 0; omega⟩) hS (fun q _ h => hFc q h) hFc (fun r_7 u t H1 locs ht hvm hw hB hz1 hk1 hS => ?_)
        have hB1 := hB
        obtain ⟨hP, hD, hK⟩ := QW.join (wr := [(h0, .inr (2, [.ref qe, .int 0]))]) hP hD hK [1] [0] rfl rfl (by decide) (by decide) hk1 hFc ht hvm hB1
        generalize H1 = H at hP hS ⊢
        have hK : va_K (dC, dI) vwCl [] s := hK.sub [] rfl
        have hP : va_P (dC, dI) vwCl [(h0, .inr (2, [.ref qe, .int 0])), (t1, .inr (0, [.ref t2, .int 0, .int 0]))] H := hP
        have hD : va_D A [(h0, .inr (2, [.ref qe, .int 0])), (t1, .inr (0, [.ref t2, .int 0, .int 0]))] := hD
        have hw : r_7 = 0 := hw
        subst hw
        refine lv_if_ne (tgt := 74) hx hb dX2_take_69 (by decide) (fun c_8 => absurd (by decide) c_8) (fun c_8 => ?_)
        refine lv_iconst (v := (-1)) hx hb dX2_take_72 (by decide) ?_
        have hP9 := hP.sub (ws' := [(h0, .inr (2, [.ref qe, .int 0])), (t1, .inr (0, [.ref t2, .int 0, .int 0]))]) [0, 1] rfl
        have hD9 := hD.sub (ws' := [(h0, .inr (2, [.ref qe, .int 0])), (t1, .inr (0, [.ref t2, .int 0, .int 0]))]) [0, 1] (by decide) rfl
        have hK9 := hK.sub (tys' := []) [] rfl
        refine W.widen (k := 0) (n := 0) (by omega) (by omega) ?_
        exact W.iret (v := (-1)) hx hb hr (fun t ht hW => ⟨⟨(-1), (), rfl, rfl, QW.mk ht hW hP9 hK9 hD9⟩, hS.F ht⟩) hS.2.2 dX2_take_73
  ·
    refine lv_iload_n hx hb dX2_take_16 rfl (lv_at hl 1 rfl) ?_
    refine lv_iconst (v := 2) hx hb dX2_take_17 (by decide) ?_
    refine lv_icmp_ne (tgt := 25) hx hb dX2_take_18 (by decide) (fun c_9 => ?_) (fun c_9 => ?_)
    ·
      refine lv_iconst (v := 0) hx hb dX2_take_25 (by decide) ?_
      refine lv_istore (lv' := [(4, .int 0), (0, .ref h0), (1, .int x1), (2, .int x2), (3, .ref t1)]) hx hb dX2_take_26 hl (by decide) rfl (fun ls hl => ?_)
      refine lv_iload hx hb dX2_take_28 (lv_at hl 0 rfl) ?_
      refine lv_if_eq (tgt := 47) hx hb dX2_take_30 (by decide) (fun c_10 => ?_) (fun c_10 => absurd (by decide) c_10)
      refine lv_aload_n hx hb dX2_take_47 rfl (lv_at hl 4 rfl) ?_
      refine va_getN (D := (dC, dI)) (ci := 0) (v := .int 0) (C := RX0) (T := TX0) (N := 3) hx hb hts it_0 hown hK hP 1 rfl rfl 1 (by decide) (hE.nest kn_7) (fun _ h9 => h9) rfl dX2_take_48 ?_
      refine lv_istore (lv' := [(5, .int 0), (4, .int 0), (0, .ref h0), (1, .int x1), (2, .int x2), (3, .ref t1)]) hx hb dX2_take_51 hl (by decide) rfl (fun ls hl => ?_)
      refine lv_iload_n hx hb dX2_take_53 rfl (lv_at hl 3 rfl) ?_
      refine lv_if_lt (tgt := 72) hx hb dX2_take_54 (by decide) (fun c_11 => ?_) (fun c_11 => ?_)
      ·
        refine lv_iconst (v := (-1)) hx hb dX2_take_72 (by decide) ?_
        have hP9 := hP.sub (ws' := [(h0, .inr (2, [.ref qe, .int 0])), (t1, .inr (0, [.ref t2, .int 0, .int 0]))]) [0, 1] rfl
        have hD9 := hD.sub (ws' := [(h0, .inr (2, [.ref qe, .int 0])), (t1, .inr (0, [.ref t2, .int 0, .int 0]))]) [0, 1] (by decide) rfl
        have hK9 := hK.sub (tys' := []) [] rfl
        refine W.widen (k := 0) (n := 0) (by omega) (by omega) ?_
        exact W.iret (v := (-1)) hx hb hr (fun t ht hW => ⟨⟨(-1), (), rfl, rfl, QW.mk ht hW hP9 hK9 hD9⟩, hS.F ht⟩) hS.2.2 dX2_take_73
      ·
        refine lv_iload_n hx hb dX2_take_57 rfl (lv_at hl 3 rfl) ?_
        refine lv_iconst (v := 4) hx hb dX2_take_58 (by decide) ?_
        refine lv_icmp_gt (tgt := 72) hx hb dX2_take_59 (by decide) (fun c_12 => ?_) (fun c_12 => ?_)
        ·
          refine lv_iconst (v := (-1)) hx hb dX2_take_72 (by decide) ?_
          have hP9 := hP.sub (ws' := [(h0, .inr (2, [.ref qe, .int 0])), (t1, .inr (0, [.ref t2, .int 0, .int 0]))]) [0, 1] rfl
          have hD9 := hD.sub (ws' := [(h0, .inr (2, [.ref qe, .int 0])), (t1, .inr (0, [.ref t2, .int 0, .int 0]))]) [0, 1] (by decide) rfl
          have hK9 := hK.sub (tys' := []) [] rfl
          refine W.widen (k := 0) (n := 0) (by omega) (by omega) ?_
          exact W.iret (v := (-1)) hx hb hr (fun t ht hW => ⟨⟨(-1), (), rfl, rfl, QW.mk ht hW hP9 hK9 hD9⟩, hS.F ht⟩) hS.2.2 dX2_take_73
        ·
          refine lv_aload_n hx hb dX2_take_62 rfl (lv_at hl 5 rfl) ?_
          refine lv_iconst (v := 0) hx hb dX2_take_63 (by decide) ?_
          refine lv_iload hx hb dX2_take_64 (lv_at hl 0 rfl) ?_
          have hPc := hP.sub (ws' := [(t1, .inr (0, [.ref t2, .int 0, .int 0]))]) [1] rfl
          have hDc := hD.sub (ws' := [(t1, .inr (0, [.ref t2, .int 0, .int 0]))]) [1] (by decide) rfl
          have hKc := hK.sub (tys' := []) [] rfl
          have hFc := va_free (wc := [(t1, .inr (0, [.ref t2, .int 0, .int 0]))]) hD hS hA [1] rfl
          refine va_calli (va_runV (As := [.int 0, .int 0]) (rest := []) ⟨hx, hb, hml, hown, hts⟩ (c_X0_isName l dC dI s.heap.size t1 t2 ) ⟨callB_of 2 hts (gi kt_198) rfl rfl rfl (hts _ kt_10) (hts _ kt_199) (by decide +kernel) ⟨Nat.le_of_ble_eq_true rfl, Nat.le_of_ble_eq_true rfl⟩, (hts _ kt_200), (hts _ kt_201)⟩ ⟨fun a U g mk q => ⟨q.1, PW.calling q.2⟩, va_recv hKc hPc (ci := 0) (q0 := 0) rfl rfl, fun U hU hW => ⟨rfl, PW.mk hU hW hPc hKc hDc hE⟩⟩ rfl rfl hl.1 rfl (lv_room (Nat.le_of_ble_eq_true rfl)) dX2_take_66 ⟨by show _ + 0 ≤ 0; omega, by show _ + 0 ≤ 0; omega⟩) hS (fun q _ h => hFc q h) hFc (fun r_13 u t H1 locs ht hvm hw hB hz1 hk1 hS => ?_)
          have hB1 := hB
          obtain ⟨hP, hD, hK⟩ := QW.join (wr := [(h0, .inr (2, [.ref qe, .int 0]))]) hP hD hK [1] [0] rfl rfl (by decide) (by decide) hk1 hFc ht hvm hB1
          generalize H1 = H at hP hS ⊢
          have hK : va_K (dC, dI) vwCl [] s := hK.sub [] rfl
          have hP : va_P (dC, dI) vwCl [(h0, .inr (2, [.ref qe, .int 0])), (t1, .inr (0, [.ref t2, .int 0, .int 0]))] H := hP
          have hD : va_D A [(h0, .inr (2, [.ref qe, .int 0])), (t1, .inr (0, [.ref t2, .int 0, .int 0]))] := hD
          have hw : r_13 = 0 := hw
          subst hw
          refine lv_if_ne (tgt := 74) hx hb dX2_take_69 (by decide) (fun c_14 => absurd (by decide) c_14) (fun c_14 => ?_)
          refine lv_iconst (v := (-1)) hx hb dX2_take_72 (by decide) ?_
          have hP9 := hP.sub (ws' := [(h0, .inr (2, [.ref qe, .int 0])), (t1, .inr (0, [.ref t2, .int 0, .int 0]))]) [0, 1] rfl
          have hD9 := hD.sub (ws' := [(h0, .inr (2, [.ref qe, .int 0])), (t1, .inr (0, [.ref t2, .int 0, .int 0]))]) [0, 1] (by decide) rfl
          have hK9 := hK.sub (tys' := []) [] rfl
          refine W.widen (k := 0) (n := 0) (by omega) (by omega) ?_
          exact W.iret (v := (-1)) hx hb hr (fun t ht hW => ⟨⟨(-1), (), rfl, rfl, QW.mk ht hW hP9 hK9 hD9⟩, hS.F ht⟩) hS.2.2 dX2_take_73
    ·
      refine lv_iconst (v := 1) hx hb dX2_take_21 (by decide) ?_
      refine lv_goto (tgt := 26) hx hb dX2_take_22 (by decide) ?_
      refine lv_istore (lv' := [(4, .int 1), (0, .ref h0), (1, .int x1), (2, .int x2), (3, .ref t1)]) hx hb dX2_take_26 hl (by decide) rfl (fun ls hl => ?_)
      refine lv_iload hx hb dX2_take_28 (lv_at hl 0 rfl) ?_
      refine lv_if_eq (tgt := 47) hx hb dX2_take_30 (by decide) (fun c_15 => absurd c_15 (by decide)) (fun c_15 => ?_)
      refine lv_aload_n hx hb dX2_take_33 rfl (lv_at hl 4 rfl) ?_
      refine lv_bipush (v := 32) hx hb dX2_take_34 (by decide) ?_
      refine lv_iconst (v := 0) hx hb dX2_take_36 (by decide) ?_
      refine lv_aload_n hx hb dX2_take_37 rfl (lv_at hl 4 rfl) ?_
      refine va_getN (D := (dC, dI)) (ci := 0) (v := .int 0) (C := RX0) (T := TX0) (N := 3) hx hb hts it_0 hown hK hP 1 rfl rfl 1 (by decide) (hE.nest kn_7) (fun _ h9 => h9) rfl dX2_take_38 ?_
      have hPc := hP.sub (ws' := [(t1, .inr (0, [.ref t2, .int 0, .int 0]))]) [1] rfl
      have hDc := hD.sub (ws' := [(t1, .inr (0, [.ref t2, .int 0, .int 0]))]) [1] (by decide) rfl
      have hKc := hK.sub (tys' := []) [] rfl
      have hFc := va_free (wc := [(t1, .inr (0, [.ref t2, .int 0, .int 0]))]) hD hS hA [1] rfl
      refine va_calli (va_runV (As := [.int 32, .int 0, .int 0]) (rest := []) ⟨hx, hb, hml, hown, hts⟩ (c_X0_find l dC dI s.heap.size t1 t2 32 ) ⟨callB_of 3 hts (gi kt_190) rfl rfl rfl (hts _ kt_10) (hts _ kt_197) (by decide +kernel) ⟨Nat.le_of_ble_eq_true rfl, Nat.le_of_ble_eq_true rfl⟩, (hts _ kt_192), (hts _ kt_193)⟩ ⟨fun a U g mk q => ⟨q.1, PW.calling q.2⟩, va_recv hKc hPc (ci := 0) (q0 := 0) rfl rfl, fun U hU hW => ⟨rfl, PW.mk hU hW hPc hKc hDc hE⟩⟩ rfl rfl hl.1 rfl (lv_room (Nat.le_of_ble_eq_true rfl)) dX2_take_41 ⟨by show _ + 0 ≤ 0; omega, by show _ + 0 ≤ 0; omega⟩) hS (fun q _ h => hFc q h) hFc (fun r_16 u t H1 locs ht hvm hw hB hz1 hk1 hS => ?_)
      have hB1 := hB
      obtain ⟨hP, hD, hK⟩ := QW.join (wr := [(h0, .inr (2, [.ref qe, .int 0]))]) hP hD hK [1] [0] rfl rfl (by decide) (by decide) hk1 hFc ht hvm hB1
      generalize H1 = H at hP hS ⊢
      have hK : va_K (dC, dI) vwCl [] s := hK.sub [] rfl
      have hP : va_P (dC, dI) vwCl [(h0, .inr (2, [.ref qe, .int 0])), (t1, .inr (0, [.ref t2, .int 0, .int 0]))] H := hP
      have hD : va_D A [(h0, .inr (2, [.ref qe, .int 0])), (t1, .inr (0, [.ref t2, .int 0, .int 0]))] := hD
      have hw : r_16 = 0 := hw
      subst hw
      refine lv_goto (tgt := 51) hx hb dX2_take_44 (by decide) ?_
      refine lv_istore (lv' := [(5, .int 0), (4, .int 1), (0, .ref h0), (1, .int x1), (2, .int x2), (3, .ref t1)]) hx hb dX2_take_51 hl (by decide) rfl (fun ls hl => ?_)
      refine lv_iload_n hx hb dX2_take_53 rfl (lv_at hl 3 rfl) ?_
      refine lv_if_lt (tgt := 72) hx hb dX2_take_54 (by decide) (fun c_17 => ?_) (fun c_17 => ?_)
      ·
        refine lv_iconst (v := (-1)) hx hb dX2_take_72 (by decide) ?_
        have hP9 := hP.sub (ws' := [(h0, .inr (2, [.ref qe, .int 0])), (t1, .inr (0, [.ref t2, .int 0, .int 0]))]) [0, 1] rfl
        have hD9 := hD.sub (ws' := [(h0, .inr (2, [.ref qe, .int 0])), (t1, .inr (0, [.ref t2, .int 0, .int 0]))]) [0, 1] (by decide) rfl
        have hK9 := hK.sub (tys' := []) [] rfl
        refine W.widen (k := 0) (n := 0) (by omega) (by omega) ?_
        exact W.iret (v := (-1)) hx hb hr (fun t ht hW => ⟨⟨(-1), (), rfl, rfl, QW.mk ht hW hP9 hK9 hD9⟩, hS.F ht⟩) hS.2.2 dX2_take_73
      ·
        refine lv_iload_n hx hb dX2_take_57 rfl (lv_at hl 3 rfl) ?_
        refine lv_iconst (v := 4) hx hb dX2_take_58 (by decide) ?_
        refine lv_icmp_gt (tgt := 72) hx hb dX2_take_59 (by decide) (fun c_18 => ?_) (fun c_18 => ?_)
        ·
          refine lv_iconst (v := (-1)) hx hb dX2_take_72 (by decide) ?_
          have hP9 := hP.sub (ws' := [(h0, .inr (2, [.ref qe, .int 0])), (t1, .inr (0, [.ref t2, .int 0, .int 0]))]) [0, 1] rfl
          have hD9 := hD.sub (ws' := [(h0, .inr (2, [.ref qe, .int 0])), (t1, .inr (0, [.ref t2, .int 0, .int 0]))]) [0, 1] (by decide) rfl
          have hK9 := hK.sub (tys' := []) [] rfl
          refine W.widen (k := 0) (n := 0) (by omega) (by omega) ?_
          exact W.iret (v := (-1)) hx hb hr (fun t ht hW => ⟨⟨(-1), (), rfl, rfl, QW.mk ht hW hP9 hK9 hD9⟩, hS.F ht⟩) hS.2.2 dX2_take_73
        ·
          refine lv_aload_n hx hb dX2_take_62 rfl (lv_at hl 5 rfl) ?_
          refine lv_iconst (v := 0) hx hb dX2_take_63 (by decide) ?_
          refine lv_iload hx hb dX2_take_64 (lv_at hl 0 rfl) ?_
          have hPc := hP.sub (ws' := [(t1, .inr (0, [.ref t2, .int 0, .int 0]))]) [1] rfl
          have hDc := hD.sub (ws' := [(t1, .inr (0, [.ref t2, .int 0, .int 0]))]) [1] (by decide) rfl
          have hKc := hK.sub (tys' := []) [] rfl
          have hFc := va_free (wc := [(t1, .inr (0, [.ref t2, .int 0, .int 0]))]) hD hS hA [1] rfl
          refine va_calli (va_runV (As := [.int 0, .int 0]) (rest := []) ⟨hx, hb, hml, hown, hts⟩ (c_X0_isName l dC dI H.size t1 t2 ) ⟨callB_of 2 hts (gi kt_198) rfl rfl rfl (hts _ kt_10) (hts _ kt_199) (by decide +kernel) ⟨Nat.le_of_ble_eq_true rfl, Nat.le_of_ble_eq_true rfl⟩, (hts _ kt_200), (hts _ kt_201)⟩ ⟨fun a U g mk q => ⟨q.1, PW.calling q.2⟩, va_recv hKc hPc (ci := 0) (q0 := 0) rfl rfl, fun U hU hW => ⟨rfl, PW.mk hU hW hPc hKc hDc hE⟩⟩ rfl rfl hl.1 rfl (lv_room (Nat.le_of_ble_eq_true rfl)) dX2_take_66 ⟨by show _ + 0 ≤ 0; omega, by show _ + 0 ≤ 0; omega⟩) hS (fun q _ h => hFc q h) hFc (fun r_19 u t H1 locs ht hvm hw hB hz1 hk1 hS => ?_)
          have hB1 := hB
          obtain ⟨hP, hD, hK⟩ := QW.join (wr := [(h0, .inr (2, [.ref qe, .int 0]))]) hP hD hK [1] [0] rfl rfl (by decide) (by decide) hk1 hFc ht hvm hB1
          generalize H1 = H at hP hS ⊢
          have hK : va_K (dC, dI) vwCl [] s := hK.sub [] rfl
          have hP : va_P (dC, dI) vwCl [(h0, .inr (2, [.ref qe, .int 0])), (t1, .inr (0, [.ref t2, .int 0, .int 0]))] H := hP
          have hD : va_D A [(h0, .inr (2, [.ref qe, .int 0])), (t1, .inr (0, [.ref t2, .int 0, .int 0]))] := hD
          have hw : r_19 = 0 := hw
          subst hw
          refine lv_if_ne (tgt := 74) hx hb dX2_take_69 (by decide) (fun c_20 => absurd (by decide) c_20) (fun c_20 => ?_)
          refine lv_iconst (v := (-1)) hx hb dX2_take_72 (by decide) ?_
          have hP9 := hP.sub (ws' := [(h0, .inr (2, [.ref qe, .int 0])), (t1, .inr (0, [.ref t2, .int 0, .int 0]))]) [0, 1] rfl
          have hD9 := hD.sub (ws' := [(h0, .inr (2, [.ref qe, .int 0])), (t1, .inr (0, [.ref t2, .int 0, .int 0]))]) [0, 1] (by decide) rfl
          have hK9 := hK.sub (tys' := []) [] rfl
          refine W.widen (k := 0) (n := 0) (by omega) (by omega) ?_
          exact W.iret (v := (-1)) hx hb hr (fun t ht hW => ⟨⟨(-1), (), rfl, rfl, QW.mk ht hW hP9 hK9 hD9⟩, hS.F ht⟩) hS.2.2 dX2_take_73
set_option maxHeartbeats 4000000 in
set_option maxRecDepth 100000 in
theorem c_X4_countOf (l : Launch) (dC : Nat → ClassId) (dI : Nat → Nat → Nat) (sz : Nat) (h0 : Nat) (l0 : Nat) (l1 : Nat) (l2 : Nat) (l3 : Nat) (qs : Nat) : Met l yX4_countOf (.code yX4_countOf cX4_countOf 4 (some .int) :: tb) ({ frames := 0, cells := 0, slots := 0, locals := 0 }) (va_Pc [.ref h0, .ref qs] (PW (dC, dI) sz [(h0, .inr (4, [.ref l0, .ref l1, .ref l2, .ref l3, .int 0, .int 0]))] [])) (va_Qi (fun (r : Int32) (_ : Unit) => r = 0) (fun _ T9 => QW (dC, dI) (va_A [(h0, .inr (4, [.ref l0, .ref l1, .ref l2, .ref l3, .int 0, .int 0]))] sz) [(h0, .inr (4, [.ref l0, .ref l1, .ref l2, .ref l3, .int 0, .int 0]))] [] T9) (va_A [(h0, .inr (4, [.ref l0, .ref l1, .ref l2, .ref l3, .int 0, .int 0]))] sz)) 0 0 (va_A [(h0, .inr (4, [.ref l0, .ref l1, .ref l2, .ref l3, .int 0, .int 0]))] sz) := by
  refine Met.ofW (cc := cX4_countOf) (maxL := 4) (ret := (some .int)) (by decide) rfl ?_
  intro p e s m args below meth c s₁ B hml hv
  obtain ⟨rfl, hsz, hP, hK, hD0, hE⟩ := hv
  have hx := B.exec
  have hb := B.bytes
  have hr := B.returns
  have hts : ∀ w ∈ tb, w.before _ s = true := fun w h => atoms_spec (ws := .code yX4_countOf cX4_countOf 4 (some .int) :: tb) B.pre w (List.mem_cons_of_mem _ h)
  have hown : s.vm.findClass RX4 = some m.cls := findClass_of_methodNamed B.named
  have hlocks := B.notSynchronized
  subst hsz
  have hD := hD0.self (sz := s.heap.size)
  generalize hAe : va_A [(h0, .inr (4, [.ref l0, .ref l1, .ref l2, .ref l3, .int 0, .int 0]))] s.heap.size = A at hD ⊢
  have hA : ∀ q : Nat, s.heap.size ≤ q → A q := fun q h => by rw [← hAe]; exact Or.inr h
  have hS : va_S A s.heap s.heap [] := va_S.rf
  have hP : va_P (dC, dI) vwCl [(h0, .inr (4, [.ref l0, .ref l1, .ref l2, .ref l3, .int 0, .int 0]))] s.heap := hP
  have hl := lv_entry ([.ref h0, .ref qs]) (n := 4) (Nat.le_of_ble_eq_true rfl)
  rw [lg_entry_eq]
  generalize (lg_sl ([.ref h0, .ref qs]) ++ List.replicate (4 - (lg_sl ([.ref h0, .ref qs])).length) Slot.unset).toArray = ls at hl ⊢
  have hl : lv_has ls 4 [(0, .ref h0), (1, .ref qs)] := hl
  refine lv_iconst (v := 0) hx hb dX4_countOf_0 (by decide) ?_
  refine lv_istore_n (lv' := [(2, .int 0), (0, .ref h0), (1, .ref qs)]) hx hb dX4_countOf_1 rfl hl (by decide) rfl (fun ls hl => ?_)
  refine lv_iconst (v := 0) hx hb dX4_countOf_2 (by decide) ?_
  refine lv_istore_n (lv' := [(3, .int 0), (2, .int 0), (0, .ref h0), (1, .ref qs)]) hx hb dX4_countOf_3 rfl hl (by decide) rfl (fun ls hl => ?_)
  refine lv_iload_n hx hb dX4_countOf_4 rfl (lv_at hl 0 rfl) ?_
  refine lv_aload_n hx hb dX4_countOf_5 rfl (lv_at hl 2 rfl) ?_
  refine va_get (D := (dC, dI)) (ci := 4) (v := .int 0) (C := RX4) (T := TX4) (N := 6) hx hb hts it_4 hown hK hP 0 rfl rfl 4 (by decide) (hts _ kt_51) (fun _ h9 => h9) rfl dX4_countOf_6 ?_
  refine lv_icmp_ge (tgt := 35) hx hb dX4_countOf_9 (by decide) (fun c_1 => ?_) (fun c_1 => absurd (by decide) c_1)
  refine lv_iload_n hx hb dX4_countOf_35 rfl (lv_at hl 1 rfl) ?_
  have hP9 := hP.sub (ws' := [(h0, .inr (4, [.ref l0, .ref l1, .ref l2, .ref l3, .int 0, .int 0]))]) [0] rfl
  have hD9 := hD.sub (ws' := [(h0, .inr (4, [.ref l0, .ref l1, .ref l2, .ref l3, .int 0, .int 0]))]) [0] (by decide) rfl
  have hK9 := hK.sub (tys' := []) [] rfl
  refine W.widen (k := 0) (n := 0) (by omega) (by omega) ?_
  exact W.iret (v := 0) hx hb hr (fun t ht hW => ⟨⟨0, (), rfl, rfl, QW.mk ht hW hP9 hK9 hD9⟩, hS.F ht⟩) hS.2.2 dX4_countOf_36
set_option maxHeartbeats 4000000 in
set_option maxRecDepth 100000 in
theorem c_X4_fieldOf (l : Launch) (dC : Nat → ClassId) (dI : Nat → Nat → Nat) (sz : Nat) (h0 : Nat) (l0 : Nat) (l1 : Nat) (l2 : Nat) (l3 : Nat) (qs : Nat) (x1 : Int32) : Met l yX4_fieldOf (.code yX4_fieldOf cX4_fieldOf 5 (some .int) :: tb) ({ frames := 0, cells := 0, slots := 0, locals := 0 }) (va_Pc [.ref h0, .ref qs, .int x1] (PW (dC, dI) sz [(h0, .inr (4, [.ref l0, .ref l1, .ref l2, .ref l3, .int 0, .int 0]))] [])) (va_Qi (fun (r : Int32) (_ : Unit) => r = (-1)) (fun _ T9 => QW (dC, dI) (va_A [(h0, .inr (4, [.ref l0, .ref l1, .ref l2, .ref l3, .int 0, .int 0]))] sz) [(h0, .inr (4, [.ref l0, .ref l1, .ref l2, .ref l3, .int 0, .int 0]))] [] T9) (va_A [(h0, .inr (4, [.ref l0, .ref l1, .ref l2, .ref l3, .int 0, .int 0]))] sz)) 0 0 (va_A [(h0, .inr (4, [.ref l0, .ref l1, .ref l2, .ref l3, .int 0, .int 0]))] sz) := by
  refine Met.ofW (cc := cX4_fieldOf) (maxL := 5) (ret := (some .int)) (by decide) rfl ?_
  intro p e s m args below meth c s₁ B hml hv
  obtain ⟨rfl, hsz, hP, hK, hD0, hE⟩ := hv
  have hx := B.exec
  have hb := B.bytes
  have hr := B.returns
  have hts : ∀ w ∈ tb, w.before _ s = true := fun w h => atoms_spec (ws := .code yX4_fieldOf cX4_fieldOf 5 (some .int) :: tb) B.pre w (List.mem_cons_of_mem _ h)
  have hown : s.vm.findClass RX4 = some m.cls := findClass_of_methodNamed B.named
  have hlocks := B.notSynchronized
  subst hsz
  have hD := hD0.self (sz := s.heap.size)
  generalize hAe : va_A [(h0, .inr (4, [.ref l0, .ref l1, .ref l2, .ref l3, .int 0, .int 0]))] s.heap.size = A at hD ⊢
  have hA : ∀ q : Nat, s.heap.size ≤ q → A q := fun q h => by rw [← hAe]; exact Or.inr h
  have hS : va_S A s.heap s.heap [] := va_S.rf
  have hP : va_P (dC, dI) vwCl [(h0, .inr (4, [.ref l0, .ref l1, .ref l2, .ref l3, .int 0, .int 0]))] s.heap := hP
  have hl := lv_entry ([.ref h0, .ref qs, .int x1]) (n := 5) (Nat.le_of_ble_eq_true rfl)
  rw [lg_entry_eq]
  generalize (lg_sl ([.ref h0, .ref qs, .int x1]) ++ List.replicate (5 - (lg_sl ([.ref h0, .ref qs, .int x1])).length) Slot.unset).toArray = ls at hl ⊢
  have hl : lv_has ls 5 [(0, .ref h0), (1, .ref qs), (2, .int x1)] := hl
  refine lv_iload_n hx hb dX4_fieldOf_0 rfl (lv_at hl 2 rfl) ?_
  refine lv_istore_n (lv' := [(3, .int x1), (0, .ref h0), (1, .ref qs), (2, .int x1)]) hx hb dX4_fieldOf_1 rfl hl (by decide) rfl (fun ls hl => ?_)
  refine lv_iconst (v := 0) hx hb dX4_fieldOf_2 (by decide) ?_
  refine lv_istore (lv' := [(4, .int 0), (3, .int x1), (0, .ref h0), (1, .ref qs), (2, .int x1)]) hx hb dX4_fieldOf_3 hl (by decide) rfl (fun ls hl => ?_)
  refine lv_iload hx hb dX4_fieldOf_5 (lv_at hl 0 rfl) ?_
  refine lv_aload_n hx hb dX4_fieldOf_7 rfl (lv_at hl 2 rfl) ?_
  refine va_get (D := (dC, dI)) (ci := 4) (v := .int 0) (C := RX4) (T := TX4) (N := 6) hx hb hts it_4 hown hK hP 0 rfl rfl 4 (by decide) (hts _ kt_51) (fun _ h9 => h9) rfl dX4_fieldOf_8 ?_
  refine lv_icmp_ge (tgt := 43) hx hb dX4_fieldOf_11 (by decide) (fun c_1 => ?_) (fun c_1 => absurd (by decide) c_1)
  refine lv_iconst (v := (-1)) hx hb dX4_fieldOf_43 (by decide) ?_
  have hP9 := hP.sub (ws' := [(h0, .inr (4, [.ref l0, .ref l1, .ref l2, .ref l3, .int 0, .int 0]))]) [0] rfl
  have hD9 := hD.sub (ws' := [(h0, .inr (4, [.ref l0, .ref l1, .ref l2, .ref l3, .int 0, .int 0]))]) [0] (by decide) rfl
  have hK9 := hK.sub (tys' := []) [] rfl
  refine W.widen (k := 0) (n := 0) (by omega) (by omega) ?_
  exact W.iret (v := (-1)) hx hb hr (fun t ht hW => ⟨⟨(-1), (), rfl, rfl, QW.mk ht hW hP9 hK9 hD9⟩, hS.F ht⟩) hS.2.2 dX4_fieldOf_44
set_option maxHeartbeats 4000000 in
set_option maxRecDepth 100000 in
theorem c_X4_read (l : Launch) (dC : Nat → ClassId) (dI : Nat → Nat → Nat) (sz : Nat) (h0 : Nat) (px : Nat) (p1 : Nat) (p2 : Nat) (p3 : Nat) (pr : Nat) (t1 : Nat) (t2 : Nat) (cA : ClassId) : Met l yX4_read (.code yX4_read cX4_read 5 (some .boolean) :: tb) ({ frames := 3, cells := 0, slots := 0, locals := 68 }) (va_Pc [.ref h0, .ref t1] (PW (dC, dI) sz [(h0, .inr (4, [.ref px, .ref p1, .ref p2, .ref p3, .int 0, .int 0])), (px, .inr (0, [.ref pr, .int 0, .int 0])), (pr, .inl (cA, 3000, .inl (fun _ => 0))), (t1, .inr (0, [.ref t2, .int 0, .int 0]))] [(cA, .int)])) (va_Qi (fun (r : Int32) (_ : Unit) => r = 0) (fun _ T9 => QW (dC, dI) (va_A [(h0, .inr (4, [.ref px, .ref p1, .ref p2, .ref p3, .int 0, .int 0])), (px, .inr (0, [.ref pr, .int 0, .int 0])), (pr, .inl (cA, 3000, .inl (fun _ => 0))), (t1, .inr (0, [.ref t2, .int 0, .int 0]))] sz) [(t1, .inr (0, [.ref t2, .int 0, .int 0]))] [] T9) (va_A [(h0, .inr (4, [.ref px, .ref p1, .ref p2, .ref p3, .int 0, .int 0])), (px, .inr (0, [.ref pr, .int 0, .int 0])), (pr, .inl (cA, 3000, .inl (fun _ => 0))), (t1, .inr (0, [.ref t2, .int 0, .int 0]))] sz)) 0 0 (va_A [(h0, .inr (4, [.ref px, .ref p1, .ref p2, .ref p3, .int 0, .int 0])), (px, .inr (0, [.ref pr, .int 0, .int 0])), (pr, .inl (cA, 3000, .inl (fun _ => 0))), (t1, .inr (0, [.ref t2, .int 0, .int 0]))] sz) := by
  refine Met.ofW (cc := cX4_read) (maxL := 5) (ret := (some .boolean)) (by decide) rfl ?_
  intro p e s m args below meth c s₁ B hml hv
  obtain ⟨rfl, hsz, hP, hK, hD0, hE⟩ := hv
  have hx := B.exec
  have hb := B.bytes
  have hr := B.returns
  have hts : ∀ w ∈ tb, w.before _ s = true := fun w h => atoms_spec (ws := .code yX4_read cX4_read 5 (some .boolean) :: tb) B.pre w (List.mem_cons_of_mem _ h)
  have hown : s.vm.findClass RX4 = some m.cls := findClass_of_methodNamed B.named
  have hlocks := B.notSynchronized
  subst hsz
  have hD := hD0.self (sz := s.heap.size)
  generalize hAe : va_A [(h0, .inr (4, [.ref px, .ref p1, .ref p2, .ref p3, .int 0, .int 0])), (px, .inr (0, [.ref pr, .int 0, .int 0])), (pr, .inl (cA, 3000, .inl (fun _ => 0))), (t1, .inr (0, [.ref t2, .int 0, .int 0]))] s.heap.size = A at hD ⊢
  have hA : ∀ q : Nat, s.heap.size ≤ q → A q := fun q h => by rw [← hAe]; exact Or.inr h
  have hS : va_S A s.heap s.heap [] := va_S.rf
  have hP : va_P (dC, dI) vwCl [(h0, .inr (4, [.ref px, .ref p1, .ref p2, .ref p3, .int 0, .int 0])), (px, .inr (0, [.ref pr, .int 0, .int 0])), (pr, .inl (cA, 3000, .inl (fun _ => 0))), (t1, .inr (0, [.ref t2, .int 0, .int 0]))] s.heap := hP
  have hl := lv_entry ([.ref h0, .ref t1]) (n := 5) (Nat.le_of_ble_eq_true rfl)
  rw [lg_entry_eq]
  generalize (lg_sl ([.ref h0, .ref t1]) ++ List.replicate (5 - (lg_sl ([.ref h0, .ref t1])).length) Slot.unset).toArray = ls at hl ⊢
  have hl : lv_has ls 5 [(0, .ref h0), (1, .ref t1)] := hl
  refine lv_aload_n hx hb dX4_read_0 rfl (lv_at hl 0 rfl) ?_
  refine va_get (D := (dC, dI)) (ci := 4) (v := .ref px) (C := RX4) (T := TX4) (N := 6) hx hb hts it_4 hown hK hP 0 rfl rfl 0 (by decide) (hts _ kt_47) (fun _ h9 => h9) rfl dX4_read_1 ?_
  refine lv_aload_n hx hb dX4_read_4 rfl (lv_at hl 1 rfl) ?_
  have hPc := hP.sub (ws' := [(px, .inr (0, [.ref pr, .int 0, .int 0])), (pr, .inl (cA, 3000, .inl (fun _ => 0))), (t1, .inr (0, [.ref t2, .int 0, .int 0]))]) [1, 2, 3] rfl
  have hDc := hD.sub (ws' := [(px, .inr (0, [.ref pr, .int 0, .int 0])), (pr, .inl (cA, 3000, .inl (fun _ => 0))), (t1, .inr (0, [.ref t2, .int 0, .int 0]))]) [1, 2, 3] (by decide) rfl
  have hKc := hK.sub (tys' := [(cA, .int)]) [0] rfl
  have hFc := va_free (wc := [(px, .inr (0, [.ref pr, .int 0, .int 0])), (pr, .inl (cA, 3000, .inl (fun _ => 0))), (t1, .inr (0, [.ref t2, .int 0, .int 0]))]) hD hS hA [1, 2, 3] rfl
  refine va_callv (va_runV (As := [.ref t1]) (rest := []) ⟨hx, hb, hml, hown, hts⟩ (c_X0_copy l dC dI s.heap.size px pr t1 t2 cA ) ⟨callB_of 1 hts (gi kt_202) rfl rfl rfl (hts _ kt_10) (hts _ kt_203) (by decide +kernel) ⟨Nat.le_of_ble_eq_true rfl, Nat.le_of_ble_eq_true rfl⟩, (hts _ kt_204), (hts _ kt_205)⟩ ⟨fun a U g mk q => ⟨q.1, PW.calling q.2⟩, va_recv hKc hPc (ci := 0) (q0 := 0) rfl rfl, fun U hU hW => ⟨rfl, PW.mk hU hW hPc hKc hDc hE⟩⟩ rfl rfl hl.1 rfl (lv_room (Nat.le_of_ble_eq_true rfl)) dX4_read_5 ⟨by show _ + 0 ≤ 0; omega, by show _ + 0 ≤ 0; omega⟩) hS (fun q _ h => hFc q h) hFc (fun u t H1 locs ht hvm hw hB hz1 hk1 hS => ?_)
  have hB1 := hB
  obtain ⟨hP, hD, hK⟩ := QW.join (wr := [(h0, .inr (4, [.ref px, .ref p1, .ref p2, .ref p3, .int 0, .int 0]))]) hP hD hK [1, 2, 3] [0] rfl rfl (by decide) (by decide) hk1 hFc ht hvm hB1
  generalize H1 = H at hP hS ⊢
  have hK : va_K (dC, dI) vwCl [(cA, .int)] s := hK.sub [0] rfl
  have hP : va_P (dC, dI) vwCl [(h0, .inr (4, [.ref px, .ref p1, .ref p2, .ref p3, .int 0, .int 0])), (px, .inr (0, [.ref pr, .int 0, .int 0])), (pr, .inl (cA, 3000, .inl (fun _ => 0))), (t1, .inr (0, [.ref t2, .int 0, .int 0]))] H := hP
  have hD : va_D A [(h0, .inr (4, [.ref px, .ref p1, .ref p2, .ref p3, .int 0, .int 0])), (px, .inr (0, [.ref pr, .int 0, .int 0])), (pr, .inl (cA, 3000, .inl (fun _ => 0))), (t1, .inr (0, [.ref t2, .int 0, .int 0]))] := hD
  refine lv_aload_n hx hb dX4_read_8 rfl (lv_at hl 0 rfl) ?_
  refine lv_iconst (v := 0) hx hb dX4_read_9 (by decide) ?_
  refine va_put (D := (dC, dI)) (ci := 4) (v := .int 0) (ty := .int) (C := RX4) (T := TX4) (N := 6) hx hb hts it_4 tyX4 tyX4_ok nmX4 hown hK hP hD hS 0 rfl rfl 4 (by decide) (hts _ kt_51) (fun _ h9 => h9) rfl (by decide +kernel) rfl rfl (Nat.le_of_ble_eq_true rfl) dX4_read_10 (fun H locs hP hD hS => ?_)
  have hP : va_P (dC, dI) vwCl [(h0, .inr (4, [.ref px, .ref p1, .ref p2, .ref p3, .int 0, .int 0])), (px, .inr (0, [.ref pr, .int 0, .int 0])), (pr, .inl (cA, 3000, .inl (fun _ => 0))), (t1, .inr (0, [.ref t2, .int 0, .int 0]))] H := hP
  have hD : va_D A [(h0, .inr (4, [.ref px, .ref p1, .ref p2, .ref p3, .int 0, .int 0])), (px, .inr (0, [.ref pr, .int 0, .int 0])), (pr, .inl (cA, 3000, .inl (fun _ => 0))), (t1, .inr (0, [.ref t2, .int 0, .int 0]))] := hD
  refine lv_aload_n hx hb dX4_read_13 rfl (lv_at hl 0 rfl) ?_
  refine lv_aload_n hx hb dX4_read_14 rfl (lv_at hl 0 rfl) ?_
  refine va_get (D := (dC, dI)) (ci := 4) (v := .ref px) (C := RX4) (T := TX4) (N := 6) hx hb hts it_4 hown hK hP 0 rfl rfl 0 (by decide) (hts _ kt_47) (fun _ h9 => h9) rfl dX4_read_15 ?_
  refine va_getN (D := (dC, dI)) (ci := 0) (v := .int 0) (C := RX0) (T := TX0) (N := 3) hx hb hts it_0 hown hK hP 1 rfl rfl 1 (by decide) (hE.nest kn_8) (fun _ h9 => h9) rfl dX4_read_18 ?_
  refine va_put (D := (dC, dI)) (ci := 4) (v := .int 0) (ty := .int) (C := RX4) (T := TX4) (N := 6) hx hb hts it_4 tyX4 tyX4_ok nmX4 hown hK hP hD hS 0 rfl rfl 5 (by decide) (hts _ kt_52) (fun _ h9 => h9) rfl (by decide +kernel) rfl rfl (Nat.le_of_ble_eq_true rfl) dX4_read_21 (fun H locs hP hD hS => ?_)
  have hP : va_P (dC, dI) vwCl [(h0, .inr (4, [.ref px, .ref p1, .ref p2, .ref p3, .int 0, .int 0])), (px, .inr (0, [.ref pr, .int 0, .int 0])), (pr, .inl (cA, 3000, .inl (fun _ => 0))), (t1, .inr (0, [.ref t2, .int 0, .int 0]))] H := hP
  have hD : va_D A [(h0, .inr (4, [.ref px, .ref p1, .ref p2, .ref p3, .int 0, .int 0])), (px, .inr (0, [.ref pr, .int 0, .int 0])), (pr, .inl (cA, 3000, .inl (fun _ => 0))), (t1, .inr (0, [.ref t2, .int 0, .int 0]))] := hD
  refine lv_iconst (v := 0) hx hb dX4_read_24 (by decide) ?_
  refine lv_istore_n (lv' := [(2, .int 0), (0, .ref h0), (1, .ref t1)]) hx hb dX4_read_25 rfl hl (by decide) rfl (fun ls hl => ?_)
  refine lv_iconst (v := 0) hx hb dX4_read_26 (by decide) ?_
  refine lv_istore_n (lv' := [(3, .int 0), (2, .int 0), (0, .ref h0), (1, .ref t1)]) hx hb dX4_read_27 rfl hl (by decide) rfl (fun ls hl => ?_)
  refine lv_iload_n hx hb dX4_read_28 rfl (lv_at hl 0 rfl) ?_
  refine lv_aload_n hx hb dX4_read_29 rfl (lv_at hl 2 rfl) ?_
  refine va_get (D := (dC, dI)) (ci := 4) (v := .ref px) (C := RX4) (T := TX4) (N := 6) hx hb hts it_4 hown hK hP 0 rfl rfl 0 (by decide) (hts _ kt_47) (fun _ h9 => h9) rfl dX4_read_30 ?_
  refine va_getN (D := (dC, dI)) (ci := 0) (v := .int 0) (C := RX0) (T := TX0) (N := 3) hx hb hts it_0 hown hK hP 1 rfl rfl 1 (by decide) (hE.nest kn_8) (fun _ h9 => h9) rfl dX4_read_33 ?_
  refine lv_icmp_gt (tgt := 124) hx hb dX4_read_36 (by decide) (fun c_2 => absurd c_2 (by decide)) (fun c_2 => ?_)
  refine lv_iload_n hx hb dX4_read_39 rfl (lv_at hl 0 rfl) ?_
  refine lv_aload_n hx hb dX4_read_40 rfl (lv_at hl 2 rfl) ?_
  refine va_get (D := (dC, dI)) (ci := 4) (v := .ref px) (C := RX4) (T := TX4) (N := 6) hx hb hts it_4 hown hK hP 0 rfl rfl 0 (by decide) (hts _ kt_47) (fun _ h9 => h9) rfl dX4_read_41 ?_
  refine va_getN (D := (dC, dI)) (ci := 0) (v := .int 0) (C := RX0) (T := TX0) (N := 3) hx hb hts it_0 hown hK hP 1 rfl rfl 1 (by decide) (hE.nest kn_8) (fun _ h9 => h9) rfl dX4_read_44 ?_
  refine lv_icmp_ne (tgt := 54) hx hb dX4_read_47 (by decide) (fun c_3 => absurd (by decide) c_3) (fun c_3 => ?_)
  refine lv_iconst (v := 1) hx hb dX4_read_50 (by decide) ?_
  refine lv_goto (tgt := 55) hx hb dX4_read_51 (by decide) ?_
  refine lv_istore (lv' := [(4, .int 1), (3, .int 0), (2, .int 0), (0, .ref h0), (1, .ref t1)]) hx hb dX4_read_55 hl (by decide) rfl (fun ls hl => ?_)
  refine lv_iload hx hb dX4_read_57 (lv_at hl 0 rfl) ?_
  refine lv_if_ne (tgt := 75) hx hb dX4_read_59 (by decide) (fun c_4 => ?_) (fun c_4 => absurd c_4 (by decide))
  refine lv_iload hx hb dX4_read_75 (lv_at hl 0 rfl) ?_
  refine lv_if_eq (tgt := 88) hx hb dX4_read_77 (by decide) (fun c_5 => absurd c_5 (by decide)) (fun c_5 => ?_)
  refine lv_iload_n hx hb dX4_read_80 rfl (lv_at hl 2 rfl) ?_
  refine lv_iload_n hx hb dX4_read_81 rfl (lv_at hl 1 rfl) ?_
  refine lv_icmp_ne (tgt := 88) hx hb dX4_read_82 (by decide) (fun c_6 => absurd (by decide) c_6) (fun c_6 => ?_)
  refine lv_goto (tgt := 118) hx hb dX4_read_85 (by decide) ?_
  refine lv_iinc (v := 1) (lv' := [(3, .int 1), (4, .int 1), (2, .int 0), (0, .ref h0), (1, .ref t1)]) hx hb dX4_read_118 hl (k := 1) rfl (by decide) (by decide) rfl (fun ls hl => ?_)
  refine lv_goto (tgt := 28) hx hb dX4_read_121 (by decide) ?_
  refine lv_iload_n hx hb dX4_read_28 rfl (lv_at hl 0 rfl) ?_
  refine lv_aload_n hx hb dX4_read_29 rfl (lv_at hl 3 rfl) ?_
  refine va_get (D := (dC, dI)) (ci := 4) (v := .ref px) (C := RX4) (T := TX4) (N := 6) hx hb hts it_4 hown hK hP 0 rfl rfl 0 (by decide) (hts _ kt_47) (fun _ h9 => h9) rfl dX4_read_30 ?_
  refine va_getN (D := (dC, dI)) (ci := 0) (v := .int 0) (C := RX0) (T := TX0) (N := 3) hx hb hts it_0 hown hK hP 1 rfl rfl 1 (by decide) (hE.nest kn_8) (fun _ h9 => h9) rfl dX4_read_33 ?_
  refine lv_icmp_gt (tgt := 124) hx hb dX4_read_36 (by decide) (fun c_7 => ?_) (fun c_7 => absurd (by decide) c_7)
  refine lv_aload_n hx hb dX4_read_124 rfl (lv_at hl 3 rfl) ?_
  refine va_get (D := (dC, dI)) (ci := 4) (v := .int 0) (C := RX4) (T := TX4) (N := 6) hx hb hts it_4 hown hK hP 0 rfl rfl 4 (by decide) (hts _ kt_51) (fun _ h9 => h9) rfl dX4_read_125 ?_
  refine lv_if_le (tgt := 135) hx hb dX4_read_128 (by decide) (fun c_8 => ?_) (fun c_8 => absurd (by decide) c_8)
  refine lv_iconst (v := 0) hx hb dX4_read_135 (by decide) ?_
  have hP9 := hP.sub (ws' := [(t1, .inr (0, [.ref t2, .int 0, .int 0]))]) [3] rfl
  have hD9 := hD.sub (ws' := [(t1, .inr (0, [.ref t2, .int 0, .int 0]))]) [3] (by decide) rfl
  have hK9 := hK.sub (tys' := []) [] rfl
  refine W.widen (k := 0) (n := 0) (by omega) (by omega) ?_
  exact W.zret (v := 0) (ty := .boolean) hx hb hr (by decide) (fun t ht hW => ⟨⟨0, (), rfl, rfl, QW.mk ht hW hP9 hK9 hD9⟩, hS.F ht⟩) hS.2.2 dX4_read_136
