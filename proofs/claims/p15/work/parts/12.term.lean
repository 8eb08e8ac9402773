theorem dX10_isOther_0 : decode cX10_isOther 0 = .ok (.aload_n 0, 1) := by decide +kernel
theorem dX10_isOther_1 : decode cX10_isOther 1 = .ok (.bipush 61, 2) := by decide +kernel
theorem dX10_isOther_3 : decode cX10_isOther 3 = .ok (.iload_n 1, 1) := by decide +kernel
theorem dX10_isOther_4 : decode cX10_isOther 4 = .ok (.iload_n 2, 1) := by decide +kernel
theorem dX10_isOther_5 : decode cX10_isOther 5 = .ok (.invokevirtual 32, 3) := by decide +kernel
theorem dX10_isOther_8 : decode cX10_isOther 8 = .ok (.istore_n 3, 1) := by decide +kernel
theorem dX10_isOther_9 : decode cX10_isOther 9 = .ok (.iload_n 3, 1) := by decide +kernel
theorem dX10_isOther_10 : decode cX10_isOther 10 = .ok (.iload_n 2, 1) := by decide +kernel
theorem dX10_isOther_11 : decode cX10_isOther 11 = .ok (.if_icmp .eq 14, 3) := by decide +kernel
theorem dX10_isOther_14 : decode cX10_isOther 14 = .ok (.aload_n 0, 1) := by decide +kernel
theorem dX10_isOther_15 : decode cX10_isOther 15 = .ok (.iload_n 1, 1) := by decide +kernel
theorem dX10_isOther_16 : decode cX10_isOther 16 = .ok (.invokevirtual 46, 3) := by decide +kernel
theorem dX10_isOther_19 : decode cX10_isOther 19 = .ok (.invokestatic 85, 3) := by decide +kernel
theorem dX10_isOther_22 : decode cX10_isOther 22 = .ok (.ifCond .ne 5, 3) := by decide +kernel
theorem dX10_isOther_25 : decode cX10_isOther 25 = .ok (.iconst 0, 1) := by decide +kernel
theorem dX10_isOther_26 : decode cX10_isOther 26 = .ok (.ireturn, 1) := by decide +kernel
theorem dX10_isOther_27 : decode cX10_isOther 27 = .ok (.iload_n 1, 1) := by decide +kernel
theorem dX10_isOther_28 : decode cX10_isOther 28 = .ok (.istore 4, 2) := by decide +kernel
theorem dX10_isOther_30 : decode cX10_isOther 30 = .ok (.iload 4, 2) := by decide +kernel
theorem dX10_isOther_32 : decode cX10_isOther 32 = .ok (.iload_n 3, 1) := by decide +kernel
theorem dX10_isOther_33 : decode cX10_isOther 33 = .ok (.if_icmp .ge 56, 3) := by decide +kernel
theorem dX10_isOther_36 : decode cX10_isOther 36 = .ok (.aload_n 0, 1) := by decide +kernel
theorem dX10_isOther_37 : decode cX10_isOther 37 = .ok (.iload 4, 2) := by decide +kernel
theorem dX10_isOther_39 : decode cX10_isOther 39 = .ok (.invokevirtual 46, 3) := by decide +kernel
theorem dX10_isOther_42 : decode cX10_isOther 42 = .ok (.istore 5, 2) := by decide +kernel
theorem dX10_isOther_44 : decode cX10_isOther 44 = .ok (.iload 5, 2) := by decide +kernel
theorem dX10_isOther_46 : decode cX10_isOther 46 = .ok (.invokestatic 85, 3) := by decide +kernel
theorem dX10_isOther_49 : decode cX10_isOther 49 = .ok (.ifCond .ne 34, 3) := by decide +kernel
theorem dX10_isOther_52 : decode cX10_isOther 52 = .ok (.iload 5, 2) := by decide +kernel
theorem dX10_isOther_54 : decode cX10_isOther 54 = .ok (.invokestatic 89, 3) := by decide +kernel
theorem dX10_isOther_57 : decode cX10_isOther 57 = .ok (.ifCond .ne 26, 3) := by decide +kernel
theorem dX10_isOther_60 : decode cX10_isOther 60 = .ok (.iload 5, 2) := by decide +kernel
theorem dX10_isOther_62 : decode cX10_isOther 62 = .ok (.bipush 45, 2) := by decide +kernel
theorem dX10_isOther_64 : decode cX10_isOther 64 = .ok (.if_icmp .eq 19, 3) := by decide +kernel
theorem dX10_isOther_67 : decode cX10_isOther 67 = .ok (.iload 5, 2) := by decide +kernel
theorem dX10_isOther_69 : decode cX10_isOther 69 = .ok (.bipush 95, 2) := by decide +kernel
theorem dX10_isOther_71 : decode cX10_isOther 71 = .ok (.if_icmp .eq 12, 3) := by decide +kernel
theorem dX10_isOther_74 : decode cX10_isOther 74 = .ok (.iload 5, 2) := by decide +kernel
theorem dX10_isOther_76 : decode cX10_isOther 76 = .ok (.bipush 46, 2) := by decide +kernel
theorem dX10_isOther_78 : decode cX10_isOther 78 = .ok (.if_icmp .eq 5, 3) := by decide +kernel
theorem dX10_isOther_81 : decode cX10_isOther 81 = .ok (.iconst 0, 1) := by decide +kernel
theorem dX10_isOther_82 : decode cX10_isOther 82 = .ok (.ireturn, 1) := by decide +kernel
theorem dX10_isOther_83 : decode cX10_isOther 83 = .ok (.iinc 4 1, 3) := by decide +kernel
theorem dX10_isOther_86 : decode cX10_isOther 86 = .ok (.goto (-56), 3) := by decide +kernel
theorem dX10_isOther_89 : decode cX10_isOther 89 = .ok (.iconst 1, 1) := by decide +kernel
theorem dX10_isOther_90 : decode cX10_isOther 90 = .ok (.ireturn, 1) := by decide +kernel
theorem dX10_macroLength_0 : decode cX10_macroLength 0 = .ok (.aload_n 0, 1) := by decide +kernel
theorem dX10_macroLength_1 : decode cX10_macroLength 1 = .ok (.iload_n 1, 1) := by decide +kernel
theorem dX10_macroLength_2 : decode cX10_macroLength 2 = .ok (.invokevirtual 46, 3) := by decide +kernel
theorem dX10_macroLength_5 : decode cX10_macroLength 5 = .ok (.bipush 37, 2) := by decide +kernel
theorem dX10_macroLength_7 : decode cX10_macroLength 7 = .ok (.if_icmp .ne 10, 3) := by decide +kernel
theorem dX10_macroLength_10 : decode cX10_macroLength 10 = .ok (.iload_n 1, 1) := by decide +kernel
theorem dX10_macroLength_11 : decode cX10_macroLength 11 = .ok (.iconst 1, 1) := by decide +kernel
theorem dX10_macroLength_12 : decode cX10_macroLength 12 = .ok (.iadd, 1) := by decide +kernel
theorem dX10_macroLength_13 : decode cX10_macroLength 13 = .ok (.iload_n 2, 1) := by decide +kernel
theorem dX10_macroLength_14 : decode cX10_macroLength 14 = .ok (.if_icmp .lt 5, 3) := by decide +kernel
theorem dX10_macroLength_17 : decode cX10_macroLength 17 = .ok (.iconst 0, 1) := by decide +kernel
theorem dX10_macroLength_18 : decode cX10_macroLength 18 = .ok (.ireturn, 1) := by decide +kernel
theorem dX10_macroLength_19 : decode cX10_macroLength 19 = .ok (.aload_n 0, 1) := by decide +kernel
theorem dX10_macroLength_20 : decode cX10_macroLength 20 = .ok (.iload_n 1, 1) := by decide +kernel
theorem dX10_macroLength_21 : decode cX10_macroLength 21 = .ok (.iconst 1, 1) := by decide +kernel
theorem dX10_macroLength_22 : decode cX10_macroLength 22 = .ok (.iadd, 1) := by decide +kernel
theorem dX10_macroLength_23 : decode cX10_macroLength 23 = .ok (.invokevirtual 46, 3) := by decide +kernel
theorem dX10_macroLength_26 : decode cX10_macroLength 26 = .ok (.istore_n 3, 1) := by decide +kernel
theorem dX10_macroLength_27 : decode cX10_macroLength 27 = .ok (.iload_n 3, 1) := by decide +kernel
theorem dX10_macroLength_28 : decode cX10_macroLength 28 = .ok (.bipush 37, 2) := by decide +kernel
theorem dX10_macroLength_30 : decode cX10_macroLength 30 = .ok (.if_icmp .eq 15, 3) := by decide +kernel
theorem dX10_macroLength_33 : decode cX10_macroLength 33 = .ok (.iload_n 3, 1) := by decide +kernel
theorem dX10_macroLength_34 : decode cX10_macroLength 34 = .ok (.bipush 95, 2) := by decide +kernel
theorem dX10_macroLength_36 : decode cX10_macroLength 36 = .ok (.if_icmp .eq 9, 3) := by decide +kernel
theorem dX10_macroLength_39 : decode cX10_macroLength 39 = .ok (.iload_n 3, 1) := by decide +kernel
theorem dX10_macroLength_40 : decode cX10_macroLength 40 = .ok (.bipush 45, 2) := by decide +kernel
theorem dX10_macroLength_42 : decode cX10_macroLength 42 = .ok (.if_icmp .ne 5, 3) := by decide +kernel
theorem dX10_macroLength_45 : decode cX10_macroLength 45 = .ok (.iconst 2, 1) := by decide +kernel
theorem dX10_macroLength_46 : decode cX10_macroLength 46 = .ok (.ireturn, 1) := by decide +kernel
theorem dX10_macroLength_47 : decode cX10_macroLength 47 = .ok (.aload_n 0, 1) := by decide +kernel
theorem dX10_macroLength_48 : decode cX10_macroLength 48 = .ok (.iload_n 1, 1) := by decide +kernel
theorem dX10_macroLength_49 : decode cX10_macroLength 49 = .ok (.iconst 2, 1) := by decide +kernel
theorem dX10_macroLength_50 : decode cX10_macroLength 50 = .ok (.iadd, 1) := by decide +kernel
theorem dX10_macroLength_51 : decode cX10_macroLength 51 = .ok (.invokevirtual 46, 3) := by decide +kernel
theorem dX10_macroLength_54 : decode cX10_macroLength 54 = .ok (.istore 4, 2) := by decide +kernel
theorem dX10_macroLength_56 : decode cX10_macroLength 56 = .ok (.iload_n 3, 1) := by decide +kernel
theorem dX10_macroLength_57 : decode cX10_macroLength 57 = .ok (.bipush 123, 2) := by decide +kernel
theorem dX10_macroLength_59 : decode cX10_macroLength 59 = .ok (.if_icmp .ne 38, 3) := by decide +kernel
theorem dX10_macroLength_62 : decode cX10_macroLength 62 = .ok (.iload 4, 2) := by decide +kernel
theorem dX10_macroLength_64 : decode cX10_macroLength 64 = .ok (.bipush 115, 2) := by decide +kernel
theorem dX10_macroLength_66 : decode cX10_macroLength 66 = .ok (.if_icmp .eq 33, 3) := by decide +kernel
theorem dX10_macroLength_69 : decode cX10_macroLength 69 = .ok (.iload 4, 2) := by decide +kernel
theorem dX10_macroLength_71 : decode cX10_macroLength 71 = .ok (.bipush 108, 2) := by decide +kernel
theorem dX10_macroLength_73 : decode cX10_macroLength 73 = .ok (.if_icmp .eq 26, 3) := by decide +kernel
theorem dX10_macroLength_76 : decode cX10_macroLength 76 = .ok (.iload 4, 2) := by decide +kernel
theorem dX10_macroLength_78 : decode cX10_macroLength 78 = .ok (.bipush 111, 2) := by decide +kernel
theorem dX10_macroLength_80 : decode cX10_macroLength 80 = .ok (.if_icmp .eq 19, 3) := by decide +kernel
theorem dX10_macroLength_83 : decode cX10_macroLength 83 = .ok (.iload 4, 2) := by decide +kernel
theorem dX10_macroLength_85 : decode cX10_macroLength 85 = .ok (.bipush 100, 2) := by decide +kernel
theorem dX10_macroLength_87 : decode cX10_macroLength 87 = .ok (.if_icmp .eq 12, 3) := by decide +kernel
theorem dX10_macroLength_90 : decode cX10_macroLength 90 = .ok (.iload 4, 2) := by decide +kernel
theorem dX10_macroLength_92 : decode cX10_macroLength 92 = .ok (.bipush 105, 2) := by decide +kernel
theorem dX10_macroLength_94 : decode cX10_macroLength 94 = .ok (.if_icmp .eq 5, 3) := by decide +kernel
theorem dX10_macroLength_97 : decode cX10_macroLength 97 = .ok (.iconst 0, 1) := by decide +kernel
theorem dX10_macroLength_98 : decode cX10_macroLength 98 = .ok (.ireturn, 1) := by decide +kernel
theorem dX10_macroLength_99 : decode cX10_macroLength 99 = .ok (.iload_n 1, 1) := by decide +kernel
theorem dX10_macroLength_100 : decode cX10_macroLength 100 = .ok (.iconst 3, 1) := by decide +kernel
theorem dX10_macroLength_101 : decode cX10_macroLength 101 = .ok (.iadd, 1) := by decide +kernel
theorem dX10_macroLength_102 : decode cX10_macroLength 102 = .ok (.istore 5, 2) := by decide +kernel
theorem dX10_macroLength_104 : decode cX10_macroLength 104 = .ok (.aload_n 0, 1) := by decide +kernel
theorem dX10_macroLength_105 : decode cX10_macroLength 105 = .ok (.iload 5, 2) := by decide +kernel
theorem dX10_macroLength_107 : decode cX10_macroLength 107 = .ok (.invokevirtual 46, 3) := by decide +kernel
theorem dX10_macroLength_110 : decode cX10_macroLength 110 = .ok (.bipush 49, 2) := by decide +kernel
theorem dX10_macroLength_112 : decode cX10_macroLength 112 = .ok (.if_icmp .lt 17, 3) := by decide +kernel
theorem dX10_macroLength_115 : decode cX10_macroLength 115 = .ok (.aload_n 0, 1) := by decide +kernel
theorem dX10_macroLength_116 : decode cX10_macroLength 116 = .ok (.iload 5, 2) := by decide +kernel
theorem dX10_macroLength_118 : decode cX10_macroLength 118 = .ok (.invokevirtual 46, 3) := by decide +kernel
theorem dX10_macroLength_121 : decode cX10_macroLength 121 = .ok (.bipush 57, 2) := by decide +kernel
theorem dX10_macroLength_123 : decode cX10_macroLength 123 = .ok (.if_icmp .gt 6, 3) := by decide +kernel
theorem dX10_macroLength_126 : decode cX10_macroLength 126 = .ok (.iinc 5 1, 3) := by decide +kernel
theorem dX10_macroLength_129 : decode cX10_macroLength 129 = .ok (.aload_n 0, 1) := by decide +kernel
theorem dX10_macroLength_130 : decode cX10_macroLength 130 = .ok (.iload 5, 2) := by decide +kernel
theorem dX10_macroLength_132 : decode cX10_macroLength 132 = .ok (.invokevirtual 46, 3) := by decide +kernel
theorem dX10_macroLength_135 : decode cX10_macroLength 135 = .ok (.bipush 114, 2) := by decide +kernel
theorem dX10_macroLength_137 : decode cX10_macroLength 137 = .ok (.if_icmp .ne 6, 3) := by decide +kernel
theorem dX10_macroLength_140 : decode cX10_macroLength 140 = .ok (.iinc 5 1, 3) := by decide +kernel
theorem dX10_macroLength_143 : decode cX10_macroLength 143 = .ok (.iload 5, 2) := by decide +kernel
theorem dX10_macroLength_145 : decode cX10_macroLength 145 = .ok (.iload_n 2, 1) := by decide +kernel
theorem dX10_macroLength_146 : decode cX10_macroLength 146 = .ok (.if_icmp .ge 23, 3) := by decide +kernel
theorem dX10_macroLength_149 : decode cX10_macroLength 149 = .ok (.aload_n 0, 1) := by decide +kernel
theorem dX10_macroLength_150 : decode cX10_macroLength 150 = .ok (.iload 5, 2) := by decide +kernel
theorem dX10_macroLength_152 : decode cX10_macroLength 152 = .ok (.invokevirtual 46, 3) := by decide +kernel
theorem dX10_macroLength_155 : decode cX10_macroLength 155 = .ok (.bipush 125, 2) := by decide +kernel
theorem dX10_macroLength_157 : decode cX10_macroLength 157 = .ok (.if_icmp .ne 12, 3) := by decide +kernel
theorem dX10_macroLength_160 : decode cX10_macroLength 160 = .ok (.iload 5, 2) := by decide +kernel
theorem dX10_macroLength_162 : decode cX10_macroLength 162 = .ok (.iconst 1, 1) := by decide +kernel
theorem dX10_macroLength_163 : decode cX10_macroLength 163 = .ok (.iadd, 1) := by decide +kernel
theorem dX10_macroLength_164 : decode cX10_macroLength 164 = .ok (.iload_n 1, 1) := by decide +kernel
theorem dX10_macroLength_165 : decode cX10_macroLength 165 = .ok (.isub, 1) := by decide +kernel
theorem dX10_macroLength_166 : decode cX10_macroLength 166 = .ok (.goto 4, 3) := by decide +kernel
theorem dX10_macroLength_169 : decode cX10_macroLength 169 = .ok (.iconst 0, 1) := by decide +kernel
theorem dX10_macroLength_170 : decode cX10_macroLength 170 = .ok (.ireturn, 1) := by decide +kernel
theorem dX10_numberOf_0 : decode cX10_numberOf 0 = .ok (.iload_n 2, 1) := by decide +kernel
theorem dX10_numberOf_1 : decode cX10_numberOf 1 = .ok (.iload_n 1, 1) := by decide +kernel
theorem dX10_numberOf_2 : decode cX10_numberOf 2 = .ok (.isub, 1) := by decide +kernel
theorem dX10_numberOf_3 : decode cX10_numberOf 3 = .ok (.iconst 1, 1) := by decide +kernel
theorem dX10_numberOf_4 : decode cX10_numberOf 4 = .ok (.if_icmp .lt 10, 3) := by decide +kernel
theorem dX10_numberOf_7 : decode cX10_numberOf 7 = .ok (.iload_n 2, 1) := by decide +kernel
theorem dX10_numberOf_8 : decode cX10_numberOf 8 = .ok (.iload_n 1, 1) := by decide +kernel
theorem dX10_numberOf_9 : decode cX10_numberOf 9 = .ok (.isub, 1) := by decide +kernel
theorem dX10_numberOf_10 : decode cX10_numberOf 10 = .ok (.iload_n 3, 1) := by decide +kernel
theorem dX10_numberOf_11 : decode cX10_numberOf 11 = .ok (.if_icmp .le 5, 3) := by decide +kernel
theorem dX10_numberOf_14 : decode cX10_numberOf 14 = .ok (.iconst (-1), 1) := by decide +kernel
theorem dX10_numberOf_15 : decode cX10_numberOf 15 = .ok (.ireturn, 1) := by decide +kernel
theorem dX10_numberOf_16 : decode cX10_numberOf 16 = .ok (.iconst 0, 1) := by decide +kernel
theorem dX10_numberOf_17 : decode cX10_numberOf 17 = .ok (.istore 4, 2) := by decide +kernel
theorem dX10_numberOf_19 : decode cX10_numberOf 19 = .ok (.iload_n 1, 1) := by decide +kernel
theorem dX10_numberOf_20 : decode cX10_numberOf 20 = .ok (.istore 5, 2) := by decide +kernel
theorem dX10_numberOf_22 : decode cX10_numberOf 22 = .ok (.iload 5, 2) := by decide +kernel
theorem dX10_numberOf_24 : decode cX10_numberOf 24 = .ok (.iload_n 2, 1) := by decide +kernel
theorem dX10_numberOf_25 : decode cX10_numberOf 25 = .ok (.if_icmp .ge 40, 3) := by decide +kernel
theorem dX10_numberOf_28 : decode cX10_numberOf 28 = .ok (.aload_n 0, 1) := by decide +kernel
theorem dX10_numberOf_29 : decode cX10_numberOf 29 = .ok (.iload 5, 2) := by decide +kernel
theorem dX10_numberOf_31 : decode cX10_numberOf 31 = .ok (.invokevirtual 46, 3) := by decide +kernel
theorem dX10_numberOf_34 : decode cX10_numberOf 34 = .ok (.invokestatic 89, 3) := by decide +kernel
theorem dX10_numberOf_37 : decode cX10_numberOf 37 = .ok (.ifCond .ne 5, 3) := by decide +kernel
theorem dX10_numberOf_40 : decode cX10_numberOf 40 = .ok (.iconst (-1), 1) := by decide +kernel
theorem dX10_numberOf_41 : decode cX10_numberOf 41 = .ok (.ireturn, 1) := by decide +kernel
theorem dX10_numberOf_42 : decode cX10_numberOf 42 = .ok (.iload 4, 2) := by decide +kernel
theorem dX10_numberOf_44 : decode cX10_numberOf 44 = .ok (.bipush 10, 2) := by decide +kernel
theorem dX10_numberOf_46 : decode cX10_numberOf 46 = .ok (.imul, 1) := by decide +kernel
theorem dX10_numberOf_47 : decode cX10_numberOf 47 = .ok (.aload_n 0, 1) := by decide +kernel
theorem dX10_numberOf_48 : decode cX10_numberOf 48 = .ok (.iload 5, 2) := by decide +kernel
theorem dX10_numberOf_50 : decode cX10_numberOf 50 = .ok (.invokevirtual 46, 3) := by decide +kernel
theorem dX10_numberOf_53 : decode cX10_numberOf 53 = .ok (.iadd, 1) := by decide +kernel
theorem dX10_numberOf_54 : decode cX10_numberOf 54 = .ok (.bipush 48, 2) := by decide +kernel
theorem dX10_numberOf_56 : decode cX10_numberOf 56 = .ok (.isub, 1) := by decide +kernel
theorem dX10_numberOf_57 : decode cX10_numberOf 57 = .ok (.istore 4, 2) := by decide +kernel
theorem dX10_numberOf_59 : decode cX10_numberOf 59 = .ok (.iinc 5 1, 3) := by decide +kernel
theorem dX10_numberOf_62 : decode cX10_numberOf 62 = .ok (.goto (-40), 3) := by decide +kernel
theorem dX10_numberOf_65 : decode cX10_numberOf 65 = .ok (.iload 4, 2) := by decide +kernel
theorem dX10_numberOf_67 : decode cX10_numberOf 67 = .ok (.ireturn, 1) := by decide +kernel
theorem dX10_setKind_0 : decode cX10_setKind 0 = .ok (.aload_n 0, 1) := by decide +kernel
theorem dX10_setKind_1 : decode cX10_setKind 1 = .ok (.iload_n 1, 1) := by decide +kernel
theorem dX10_setKind_2 : decode cX10_setKind 2 = .ok (.putfield 9, 3) := by decide +kernel
theorem dX10_setKind_5 : decode cX10_setKind 5 = .ok (.aload_n 0, 1) := by decide +kernel
theorem dX10_setKind_6 : decode cX10_setKind 6 = .ok (.iload_n 2, 1) := by decide +kernel
theorem dX10_setKind_7 : decode cX10_setKind 7 = .ok (.putfield 16, 3) := by decide +kernel
theorem dX10_setKind_10 : decode cX10_setKind 10 = .ok (.return_, 1) := by decide +kernel
theorem kt_118 : Cond.fieldLink RX10 9 "PostGate$Term" "kind" "I" ∈ tb := tb_at (i := 196) (by decide +kernel) (by decide +kernel)
theorem kt_119 : Cond.fieldLink RX10 16 "PostGate$Term" "start" "I" ∈ tb := tb_at (i := 200) (by decide +kernel) (by decide +kernel)
theorem kt_120 : Cond.methodLink RX10 46 yX0_at ∈ tb := tb_at (i := 701) (by decide +kernel) (by decide +kernel)
theorem kt_121 : Cond.methodLink RX10 89 yX0_isDigit ∈ tb := tb_at (i := 703) (by decide +kernel) (by decide +kernel)
theorem kt_122 : Cond.code yX0_find cX0_find 5 (some .int) ∈ tb := tb_at (i := 516) (by decide +kernel) (by decide +kernel)
theorem kt_123 : Cond.methodLink RX10 32 yX0_find ∈ tb := tb_at (i := 700) (by decide +kernel) (by decide +kernel)
theorem kt_124 : Cond.instanceMethod yX0_find ∈ tb := tb_at (i := 514) (by decide +kernel) (by decide +kernel)
theorem kt_125 : Cond.selects RX0 yX0_find yX0_find ∈ tb := tb_at (i := 515) (by decide +kernel) (by decide +kernel)
theorem kt_126 : Cond.methodLink RX10 85 yX0_isSmall ∈ tb := tb_at (i := 702) (by decide +kernel) (by decide +kernel)
set_option maxHeartbeats 4000000 in
set_option maxRecDepth 100000 in
theorem s_X10_setKind (l : Launch) (dC : Nat → ClassId) (dI : Nat → Nat → Nat) (cs : Nat → ClassId) (ty : TyM) (L : List Nat) (sz : Nat) (F : Nat → va_E) (h0 : Nat) (ρ : Nat) (x1 : Int32) (x2 : Int32) (hW : WT ty L) (hL_h0 : h0 ∈ L) (hT_h0 : ty h0 = (10, ρ, [])) : Met l yX10_setKind (.code yX10_setKind cX10_setKind 3 none :: tb) ({ frames := 0, cells := 0, slots := 0, locals := 0 }) (va_Pc [.ref h0, .int x1, .int x2] (PT (dC, dI) cs ty L F sz)) (va_Qv (fun _ : Unit => True) (fun _ T9 => ∃ F2 : Nat → va_E, QT (dC, dI) cs ty L [ρ] F F2 (va_A (va_pl L F) sz) T9) (va_A (va_pl L F) sz)) 0 0 (va_A (va_pl L F) sz) := by
  refine Met.ofW (cc := cX10_setKind) (maxL := 3) (ret := none) (by decide) rfl ?_
  intro p e s m args below meth c s₁ B hml hv
  obtain ⟨rfl, hsz, hP, hK, hD0, hE, hO⟩ := hv
  have hx := B.exec
  have hb := B.bytes
  have hr := B.returns
  have hts : ∀ w ∈ tb, w.before _ s = true := fun w h => atoms_spec (ws := .code yX10_setKind cX10_setKind 3 none :: tb) B.pre w (List.mem_cons_of_mem _ h)
  have hown : s.vm.findClass RX10 = some m.cls := findClass_of_methodNamed B.named
  have hlocks := B.notSynchronized
  subst hsz
  have hD := hD0.self (sz := s.heap.size)
  generalize hAe : va_A (va_pl L F) s.heap.size = A at hD ⊢
  have hA : ∀ q : Nat, s.heap.size ≤ q → A q := fun q h => by rw [← hAe]; exact Or.inr h
  have hS : va_S A s.heap s.heap [] := va_S.rf
  have hR : FR ty [ρ] F F := FR.refl
  have hl := lv_entry ([.ref h0, .int x1, .int x2]) (n := 3) (Nat.le_of_ble_eq_true rfl)
  rw [lg_entry_eq]
  generalize (lg_sl ([.ref h0, .int x1, .int x2]) ++ List.replicate (3 - (lg_sl ([.ref h0, .int x1, .int x2])).length) Slot.unset).toArray = ls at hl ⊢
  have hl : lv_has ls 3 [(0, .ref h0), (1, .int x1), (2, .int x2)] := hl
  refine lv_aload_n hx hb dX10_setKind_0 rfl (lv_at hl 0 rfl) ?_
  refine lv_iload_n hx hb dX10_setKind_1 rfl (lv_at hl 1 rfl) ?_
  obtain ⟨v0_1, v1_2, v2_3, z_4, v4_5, v5_6, hF_7, hq_8⟩ := hO.term hL_h0 hT_h0
  refine pg_put (ci := 10) (v := .int x1) (ty := .int) (C := RX10) (T := TX10) (N := 6) hx hb hts it_10 tyX10 tyX10_ok nmX10 hown hK hP hD hS hL_h0 hF_7 rfl 0 (by decide) (hts _ kt_118) (fun _ h9 => h9) rfl (by decide +kernel) (rfl) (rfl) (Nat.le_of_ble_eq_true rfl) dX10_setKind_2 (fun H locs hP hD hS => ?_)
  obtain ⟨F_9, he_10, hP, hD, hO, hR⟩ : ∃ G, G = va_up F h0 (.inr (10, [.int x1, .int v1_2, .int v2_3, .int (nI z_4), .int v4_5, .int v5_6])) ∧ va_P (dC, dI) vwCl (va_pl L G) H ∧ va_D A (va_pl L G) ∧ OK cs ty L G ∧ FR ty [ρ] F G := ⟨_, rfl, hP, hD, hO.up (sh.term hT_h0 ⟨x1, v1_2, v2_3, z_4, v4_5, v5_6, rfl, (by first | omega | assumption | exact Or.inl rfl | exact Or.inr rfl)⟩), hR.up hT_h0 (by simp)⟩
  have hF_11 : F_9 h0 = .inr (10, [.int x1, .int v1_2, .int v2_3, .int (nI z_4), .int v4_5, .int v5_6]) := by rw [he_10]; exact up_self
  refine lv_aload_n hx hb dX10_setKind_5 rfl (lv_at hl 0 rfl) ?_
  refine lv_iload_n hx hb dX10_setKind_6 rfl (lv_at hl 2 rfl) ?_
  refine pg_put (ci := 10) (v := .int x2) (ty := .int) (C := RX10) (T := TX10) (N := 6) hx hb hts it_10 tyX10 tyX10_ok nmX10 hown hK hP hD hS hL_h0 hF_11 rfl 2 (by decide) (hts _ kt_119) (fun _ h9 => h9) rfl (by decide +kernel) (rfl) (rfl) (Nat.le_of_ble_eq_true rfl) dX10_setKind_7 (fun H locs hP hD hS => ?_)
  obtain ⟨F_12, he_13, hP, hD, hO, hR⟩ : ∃ G, G = va_up F_9 h0 (.inr (10, [.int x1, .int v1_2, .int x2, .int (nI z_4), .int v4_5, .int v5_6])) ∧ va_P (dC, dI) vwCl (va_pl L G) H ∧ va_D A (va_pl L G) ∧ OK cs ty L G ∧ FR ty [ρ] F G := ⟨_, rfl, hP, hD, hO.up (sh.term hT_h0 ⟨x1, v1_2, x2, z_4, v4_5, v5_6, rfl, (by first | omega | assumption | exact Or.inl rfl | exact Or.inr rfl)⟩), hR.up hT_h0 (by simp)⟩
  have hF_14 : F_12 h0 = .inr (10, [.int x1, .int v1_2, .int x2, .int (nI z_4), .int v4_5, .int v5_6]) := by rw [he_13]; exact up_self
  refine W.widen (k := 0) (n := 0) (by omega) (by omega) ?_
  exact W.vret hx hb hr (fun t ht hWm => ⟨⟨(), rfl, trivial, ⟨F_12, QT.mk ht hP hD hO hR⟩⟩, hS.F ht⟩) hS.2.2 dX10_setKind_10
set_option maxHeartbeats 4000000 in
set_option maxRecDepth 100000 in
theorem s_X10_numberOf (l : Launch) (dC : Nat → ClassId) (dI : Nat → Nat → Nat) (cs : Nat → ClassId) (ty : TyM) (L : List Nat) (sz : Nat) (F : Nat → va_E) (g1 : Nat) (σ : Nat) (r1 : Nat) (n1 : Nat) (x2 : Int32) (x3 : Int32) (x4 : Int32) (hW : WT ty L) (hL_g1 : g1 ∈ L) (hT_g1 : ty g1 = (0, σ, [r1, n1])) : Met l yX10_numberOf (.code yX10_numberOf cX10_numberOf 6 (some .int) :: tb) ({ frames := 1, cells := 0, slots := 0, locals := 21 }) (va_Pc [.ref g1, .int x2, .int x3, .int x4] (PT (dC, dI) cs ty L F sz)) (va_Qi (fun (r : Int32) (_ : Unit) => True) (fun _ T9 => ∃ F2 : Nat → va_E, QT (dC, dI) cs ty L [] F F2 (va_A (va_pl L F) sz) T9) (va_A (va_pl L F) sz)) 0 0 (va_A (va_pl L F) sz) := by
  refine Met.ofW (cc := cX10_numberOf) (maxL := 6) (ret := (some .int)) (by decide) rfl ?_
  intro p e s m args below meth c s₁ B hml hv
  obtain ⟨rfl, hsz, hP, hK, hD0, hE, hO⟩ := hv
  have hx := B.exec
  have hb := B.bytes
  have hr := B.returns
  have hts : ∀ w ∈ tb, w.before _ s = true := fun w h => atoms_spec (ws := .code yX10_numberOf cX10_numberOf 6 (some .int) :: tb) B.pre w (List.mem_cons_of_mem _ h)
  have hown : s.vm.findClass RX10 = some m.cls := findClass_of_methodNamed B.named
  have hlocks := B.notSynchronized
  subst hsz
  have hD := hD0.self (sz := s.heap.size)
  generalize hAe : va_A (va_pl L F) s.heap.size = A at hD ⊢
  have hA : ∀ q : Nat, s.heap.size ≤ q → A q := fun q h => by rw [← hAe]; exact Or.inr h
  have hS : va_S A s.heap s.heap [] := va_S.rf
  have hR : FR ty [] F F := FR.refl
  have hl := lv_entry ([.ref g1, .int x2, .int x3, .int x4]) (n := 6) (Nat.le_of_ble_eq_true rfl)
  rw [lg_entry_eq]
  generalize (lg_sl ([.ref g1, .int x2, .int x3, .int x4]) ++ List.replicate (6 - (lg_sl ([.ref g1, .int x2, .int x3, .int x4])).length) Slot.unset).toArray = ls at hl ⊢
  have hl : lv_has ls 6 [(0, .ref g1), (1, .int x2), (2, .int x3), (3, .int x4)] := hl
  refine lv_iload_n hx hb dX10_numberOf_0 rfl (lv_at hl 2 rfl) ?_
  refine lv_iload_n hx hb dX10_numberOf_1 rfl (lv_at hl 1 rfl) ?_
  refine lv_isub hx hb dX10_numberOf_2 ?_
  refine lv_topi (fun x_1 _ => ?_)
  refine lv_iconst (v := 1) hx hb dX10_numberOf_3 (by decide) ?_
  refine lv_icmp_lt (tgt := 14) hx hb dX10_numberOf_4 (by decide) (fun c_2 => ?_) (fun c_2 => ?_)
  ·
    refine lv_iconst (v := (-1)) hx hb dX10_numberOf_14 (by decide) ?_
    refine W.widen (k := 0) (n := 0) (by omega) (by omega) ?_
    exact W.iret (v := (-1)) hx hb hr (fun t ht hWm => ⟨⟨(-1), (), rfl, trivial, ⟨F, QT.mk ht hP hD hO hR⟩⟩, hS.F ht⟩) hS.2.2 dX10_numberOf_15
  ·
    refine lv_iload_n hx hb dX10_numberOf_7 rfl (lv_at hl 2 rfl) ?_
    refine lv_iload_n hx hb dX10_numberOf_8 rfl (lv_at hl 1 rfl) ?_
    refine lv_isub hx hb dX10_numberOf_9 ?_
    refine lv_topi (fun x_3 _ => ?_)
    refine lv_iload_n hx hb dX10_numberOf_10 rfl (lv_at hl 3 rfl) ?_
    refine lv_icmp_le (tgt := 16) hx hb dX10_numberOf_11 (by decide) (fun c_4 => ?_) (fun c_4 => ?_)
    ·
      refine lv_iconst (v := 0) hx hb dX10_numberOf_16 (by decide) ?_
      refine lv_istore (lv' := [(4, .int 0), (0, .ref g1), (1, .int x2), (2, .int x3), (3, .int x4)]) hx hb dX10_numberOf_17 hl (by decide) rfl (fun ls hl => ?_)
      refine lv_iload_n hx hb dX10_numberOf_19 rfl (lv_at hl 2 rfl) ?_
      refine lv_istore (lv' := [(5, .int x2), (4, .int 0), (0, .ref g1), (1, .int x2), (2, .int x3), (3, .int x4)]) hx hb dX10_numberOf_20 hl (by decide) rfl (fun ls hl => ?_)
      refine W.widen (k := 0) (n := 0) (by omega) (by omega) ?_
      refine pl_loop (σ := Int32 × Int32) A (dC, dI) cs ty L [] F 22 6 (fun (i1, w4) => [(5, .int i1), (4, .int w4), (0, .ref g1), (1, .int x2), (2, .int x3), (3, .int x4)]) (fun (i1, w4) => []) (fun (i1, w4) _ => True) (fun (i1, w4) => ((x3).toInt - i1.toInt).toNat) ?_ (x2, 0) F (trivial) hO hR _ _ hP hD hS ls (lv_sub hl [0, 1, 2, 3, 4, 5] rfl)
      rintro ⟨i1, w4⟩ F_5 hv_6 hO hR ih_7 H locs hP hD hS ls hl
      have hl : lv_has ls 6 [(5, .int i1), (4, .int w4), (0, .ref g1), (1, .int x2), (2, .int x3), (3, .int x4)] := hl
      have hv_6 : True := hv_6
      refine W.eq (g2 := F0 m 22 ls []) rfl ?_
      refine lv_iload hx hb dX10_numberOf_22 (lv_at hl 0 rfl) ?_
      refine lv_iload_n hx hb dX10_numberOf_24 rfl (lv_at hl 4 rfl) ?_
      refine lv_icmp_ge (tgt := 65) hx hb dX10_numberOf_25 (by decide) (fun c_8 => ?_) (fun c_8 => ?_)
      ·
        refine lv_iload hx hb dX10_numberOf_65 (lv_at hl 1 rfl) ?_
        refine W.widen (k := 0) (n := 0) (by omega) (by omega) ?_
        exact W.iret (v := w4) hx hb hr (fun t ht hWm => ⟨⟨w4, (), rfl, trivial, ⟨F_5, QT.mk ht hP hD hO hR⟩⟩, hS.F ht⟩) hS.2.2 dX10_numberOf_67
      ·
        refine lv_aload_n hx hb dX10_numberOf_28 rfl (lv_at hl 2 rfl) ?_
        refine lv_iload hx hb dX10_numberOf_29 (lv_at hl 0 rfl) ?_
        have hFc := pg_free hD hS hA
        obtain ⟨hi_9, ht_10, hq_11⟩ := hW.bytes hL_g1 hT_g1
        obtain ⟨z_12, o_13, hF_14, hq_15, hq_16⟩ := hO.bytes hL_g1 hT_g1
        refine va_calli (va_runV (As := [.int i1]) (rest := []) ⟨hx, hb, hml, hown, hts⟩ (s_X0_at l dC dI cs ty L H.size F_5 g1 σ r1 n1 i1 hW hL_g1 hT_g1) ⟨callB_of 1 hts (gi kt_21) rfl rfl rfl (hts _ kt_1) (hts _ kt_120) (by decide +kernel) ⟨Nat.le_of_ble_eq_true rfl, Nat.le_of_ble_eq_true rfl⟩, (hts _ kt_23), (hts _ kt_24)⟩ ⟨fun a U g mk q => ⟨q.1, PT.calling q.2⟩, pg_recv hK hP hL_g1 hF_14 (q := (RX0, TX0, 3)) rfl, fun U hU hWm => ⟨rfl, PT.mk hU hWm hP hK hD hE hO⟩⟩ rfl rfl hl.1 rfl (lv_room (Nat.le_of_ble_eq_true rfl)) dX10_numberOf_31 ⟨by show _ + 0 ≤ 0; omega, by show _ + 0 ≤ 0; omega⟩) hS (fun q _ h => hFc q h) hFc (fun r_17 u t H1 locs ht hvm hw hB hz1 hk1 hS => ?_)
        obtain ⟨F_18, hB1⟩ := hB
        obtain ⟨hP, hD, hO, hR⟩ := QT.back hB1 ht hFc hR (fun q h => absurd h List.not_mem_nil)
        have hF_19 : F_18 g1 = .inr (0, [.ref r1, .int (nI z_12), .int o_13]) := (hB1.2.2.2 g1 List.not_mem_nil).trans hF_14
        generalize H1 = H at hP hS ⊢
        have hw : True := hw
        have hw_20 := hw
        have hFc := pg_free hD hS hA
        refine va_calli (va_runS (As := [.int r_17]) (rest := []) ⟨hx, hb, hml, hown, hts⟩ (s_X0_isDigit l dC dI cs ty L H.size F_18 r_17 hW ) ⟨callB_of 1 hts (gi kt_7) rfl rfl rfl (hts _ kt_1) (hts _ kt_121) (by decide +kernel) ⟨Nat.le_of_ble_eq_true rfl, Nat.le_of_ble_eq_true rfl⟩, (hts _ kt_9)⟩ ⟨fun a U g mk q => ⟨q.1, PT.calling q.2⟩, fun U hU hWm => ⟨rfl, PT.mk hU hWm hP hK hD hE hO⟩⟩ rfl rfl hl.1 rfl (lv_room (Nat.le_of_ble_eq_true rfl)) dX10_numberOf_34 ⟨by show _ + 0 ≤ 0; omega, by show _ + 0 ≤ 0; omega⟩) hS (fun q _ h => hFc q h) hFc (fun r_21 u t H1 locs ht hvm hw hB hz1 hk1 hS => ?_)
        obtain ⟨F_22, hB1⟩ := hB
        obtain ⟨hP, hD, hO, hR⟩ := QT.back hB1 ht hFc hR (fun q h => absurd h List.not_mem_nil)
        have hF_23 : F_22 g1 = .inr (0, [.ref r1, .int (nI z_12), .int o_13]) := (hB1.2.2.2 g1 List.not_mem_nil).trans hF_19
        generalize H1 = H at hP hS ⊢
        have hw : (r_21 = 0 ∨ r_21 = 1) := hw
        have hw_24 := hw
        refine lv_if_ne (tgt := 42) hx hb dX10_numberOf_37 (by decide) (fun c_25 => ?_) (fun c_25 => ?_)
        ·
          refine lv_iload hx hb dX10_numberOf_42 (lv_at hl 1 rfl) ?_
          refine lv_bipush (v := 10) hx hb dX10_numberOf_44 (by decide) ?_
          refine lv_imul hx hb dX10_numberOf_46 ?_
          refine lv_topi (fun x_26 _ => ?_)
          refine lv_aload_n hx hb dX10_numberOf_47 rfl (lv_at hl 2 rfl) ?_
          refine lv_iload hx hb dX10_numberOf_48 (lv_at hl 0 rfl) ?_
          have hFc := pg_free hD hS hA
          refine va_calli (va_runV (As := [.int i1]) (rest := [.int x_26]) ⟨hx, hb, hml, hown, hts⟩ (s_X0_at l dC dI cs ty L H.size F_22 g1 σ r1 n1 i1 hW hL_g1 hT_g1) ⟨callB_of 1 hts (gi kt_21) rfl rfl rfl (hts _ kt_1) (hts _ kt_120) (by decide +kernel) ⟨Nat.le_of_ble_eq_true rfl, Nat.le_of_ble_eq_true rfl⟩, (hts _ kt_23), (hts _ kt_24)⟩ ⟨fun a U g mk q => ⟨q.1, PT.calling q.2⟩, pg_recv hK hP hL_g1 hF_23 (q := (RX0, TX0, 3)) rfl, fun U hU hWm => ⟨rfl, PT.mk hU hWm hP hK hD hE hO⟩⟩ rfl rfl hl.1 rfl (lv_room (Nat.le_of_ble_eq_true rfl)) dX10_numberOf_50 ⟨by show _ + 0 ≤ 0; omega, by show _ + 0 ≤ 0; omega⟩) hS (fun q _ h => hFc q h) hFc (fun r_27 u t H1 locs ht hvm hw hB hz1 hk1 hS => ?_)
          obtain ⟨F_28, hB1⟩ := hB
          obtain ⟨hP, hD, hO, hR⟩ := QT.back hB1 ht hFc hR (fun q h => absurd h List.not_mem_nil)
          have hF_29 : F_28 g1 = .inr (0, [.ref r1, .int (nI z_12), .int o_13]) := (hB1.2.2.2 g1 List.not_mem_nil).trans hF_23
          generalize H1 = H at hP hS ⊢
          have hw : True := hw
          have hw_30 := hw
          refine lv_iadd hx hb dX10_numberOf_53 ?_
          refine lv_topi (fun x_31 _ => ?_)
          refine lv_bipush (v := 48) hx hb dX10_numberOf_54 (by decide) ?_
          refine lv_isub hx hb dX10_numberOf_56 ?_
          refine lv_topi (fun x_32 _ => ?_)
          refine lv_istore (lv' := [(4, .int x_32), (5, .int i1), (0, .ref g1), (1, .int x2), (2, .int x3), (3, .int x4)]) hx hb dX10_numberOf_57 hl (by decide) rfl (fun ls hl => ?_)
          obtain ⟨x_33, ex_33⟩ : ∃ y : Int32, y = i1 + Int32.ofInt 1 := ⟨_, rfl⟩
          refine lv_iinc (v := x_33) (lv' := [(5, .int x_33), (4, .int x_32), (0, .ref g1), (1, .int x2), (2, .int x3), (3, .int x4)]) hx hb dX10_numberOf_59 hl (k := 1) rfl (ex_33.symm) (by decide) rfl (fun ls hl => ?_)
          refine lv_goto (tgt := 22) hx hb dX10_numberOf_62 (by decide) ?_
          refine W.widen (k := 0) (n := 0) (by omega) (by omega) ?_
          exact ih_7 (x_33, x_32) F_28 (trivial) (by show ((x3).toInt - x_33.toInt).toNat < ((x3).toInt - i1.toInt).toNat; exact incN ex_33 c_8) hO hR _ _ hP hD hS ls (lv_sub hl [0, 1, 2, 3, 4, 5] rfl)
        ·
          refine lv_iconst (v := (-1)) hx hb dX10_numberOf_40 (by decide) ?_
          refine W.widen (k := 0) (n := 0) (by omega) (by omega) ?_
          exact W.iret (v := (-1)) hx hb hr (fun t ht hWm => ⟨⟨(-1), (), rfl, trivial, ⟨F_22, QT.mk ht hP hD hO hR⟩⟩, hS.F ht⟩) hS.2.2 dX10_numberOf_41
    ·
      refine lv_iconst (v := (-1)) hx hb dX10_numberOf_14 (by decide) ?_
      refine W.widen (k := 0) (n := 0) (by omega) (by omega) ?_
      exact W.iret (v := (-1)) hx hb hr (fun t ht hWm => ⟨⟨(-1), (), rfl, trivial, ⟨F, QT.mk ht hP hD hO hR⟩⟩, hS.F ht⟩) hS.2.2 dX10_numberOf_15
set_option maxHeartbeats 4000000 in
set_option maxRecDepth 100000 in
theorem s_X10_isOther (l : Launch) (dC : Nat → ClassId) (dI : Nat → Nat → Nat) (cs : Nat → ClassId) (ty : TyM) (L : List Nat) (sz : Nat) (F : Nat → va_E) (g1 : Nat) (σ : Nat) (r1 : Nat) (n1 : Nat) (x2 : Int32) (x3 : Int32) (hW : WT ty L) (hL_g1 : g1 ∈ L) (hT_g1 : ty g1 = (0, σ, [r1, n1])) : Met l yX10_isOther (.code yX10_isOther cX10_isOther 6 (some .boolean) :: tb) ({ frames := 2, cells := 0, slots := 0, locals := 45 }) (va_Pc [.ref g1, .int x2, .int x3] (PT (dC, dI) cs ty L F sz)) (va_Qi (fun (r : Int32) (_ : Unit) => (r = 0 ∨ r = 1)) (fun _ T9 => ∃ F2 : Nat → va_E, QT (dC, dI) cs ty L [] F F2 (va_A (va_pl L F) sz) T9) (va_A (va_pl L F) sz)) 0 0 (va_A (va_pl L F) sz) := by
  refine Met.ofW (cc := cX10_isOther) (maxL := 6) (ret := (some .boolean)) (by decide) rfl ?_
  intro p e s m args below meth c s₁ B hml hv
  obtain ⟨rfl, hsz, hP, hK, hD0, hE, hO⟩ := hv
  have hx := B.exec
  have hb := B.bytes
  have hr := B.returns
  have hts : ∀ w ∈ tb, w.before _ s = true := fun w h => atoms_spec (ws := .code yX10_isOther cX10_isOther 6 (some .boolean) :: tb) B.pre w (List.mem_cons_of_mem _ h)
  have hown : s.vm.findClass RX10 = some m.cls := findClass_of_methodNamed B.named
  have hlocks := B.notSynchronized
  subst hsz
  have hD := hD0.self (sz := s.heap.size)
  generalize hAe : va_A (va_pl L F) s.heap.size = A at hD ⊢
  have hA : ∀ q : Nat, s.heap.size ≤ q → A q := fun q h => by rw [← hAe]; exact Or.inr h
  have hS : va_S A s.heap s.heap [] := va_S.rf
  have hR : FR ty [] F F := FR.refl
  have hl := lv_entry ([.ref g1, .int x2, .int x3]) (n := 6) (Nat.le_of_ble_eq_true rfl)
  rw [lg_entry_eq]
  generalize (lg_sl ([.ref g1, .int x2, .int x3]) ++ List.replicate (6 - (lg_sl ([.ref g1, .int x2, .int x3])).length) Slot.unset).toArray = ls at hl ⊢
  have hl : lv_has ls 6 [(0, .ref g1), (1, .int x2), (2, .int x3)] := hl
  refine lv_aload_n hx hb dX10_isOther_0 rfl (lv_at hl 0 rfl) ?_
  refine lv_bipush (v := 61) hx hb dX10_isOther_1 (by decide) ?_
  refine lv_iload_n hx hb dX10_isOther_3 rfl (lv_at hl 1 rfl) ?_
  refine lv_iload_n hx hb dX10_isOther_4 rfl (lv_at hl 2 rfl) ?_
  have hFc := pg_free hD hS hA
  obtain ⟨hi_1, ht_2, hq_3⟩ := hW.bytes hL_g1 hT_g1
  obtain ⟨z_4, o_5, hF_6, hq_7, hq_8⟩ := hO.bytes hL_g1 hT_g1
  refine va_calli (va_runV (As := [.int 61, .int x2, .int x3]) (rest := []) ⟨hx, hb, hml, hown, hts⟩ (s_X0_find l dC dI cs ty L s.heap.size F g1 σ r1 n1 61 x2 x3 hW hL_g1 hT_g1) ⟨callB_of 3 hts (gi kt_122) rfl rfl rfl (hts _ kt_1) (hts _ kt_123) (by decide +kernel) ⟨Nat.le_of_ble_eq_true rfl, Nat.le_of_ble_eq_true rfl⟩, (hts _ kt_124), (hts _ kt_125)⟩ ⟨fun a U g mk q => ⟨q.1, PT.calling q.2⟩, pg_recv hK hP hL_g1 hF_6 (q := (RX0, TX0, 3)) rfl, fun U hU hWm => ⟨rfl, PT.mk hU hWm hP hK hD hE hO⟩⟩ rfl rfl hl.1 rfl (lv_room (Nat.le_of_ble_eq_true rfl)) dX10_isOther_5 ⟨by show _ + 0 ≤ 0; omega, by show _ + 0 ≤ 0; omega⟩) hS (fun q _ h => hFc q h) hFc (fun r_9 u t H1 locs ht hvm hw hB hz1 hk1 hS => ?_)
  obtain ⟨F_10, hB1⟩ := hB
  obtain ⟨hP, hD, hO, hR⟩ := QT.back hB1 ht hFc hR (fun q h => absurd h List.not_mem_nil)
  have hF_11 : F_10 g1 = .inr (0, [.ref r1, .int (nI z_4), .int o_5]) := (hB1.2.2.2 g1 List.not_mem_nil).trans hF_6
  generalize H1 = H at hP hS ⊢
  have hw : (r_9 = x3 ∨ ∃ j : Nat, j < n1 ∧ r_9 = nI j) := hw
  have hw_12 := hw
  refine lv_istore_n (lv' := [(3, .int r_9), (0, .ref g1), (1, .int x2), (2, .int x3)]) hx hb dX10_isOther_8 rfl hl (by decide) rfl (fun ls hl => ?_)
  refine lv_iload_n hx hb dX10_isOther_9 rfl (lv_at hl 0 rfl) ?_
  refine lv_iload_n hx hb dX10_isOther_10 rfl (lv_at hl 3 rfl) ?_
  refine lv_icmp_eq (tgt := 25) hx hb dX10_isOther_11 (by decide) (fun c_13 => ?_) (fun c_13 => ?_)
  ·
    refine lv_iconst (v := 0) hx hb dX10_isOther_25 (by decide) ?_
    refine W.widen (k := 0) (n := 0) (by omega) (by omega) ?_
    exact W.zret (v := 0) (ty := .boolean) hx hb hr (by decide) (fun t ht hWm => ⟨⟨0, (), rfl, (by first | exact Or.inl rfl | exact Or.inr rfl), ⟨F_10, QT.mk ht hP hD hO hR⟩⟩, hS.F ht⟩) hS.2.2 dX10_isOther_26
  ·
    refine lv_aload_n hx hb dX10_isOther_14 rfl (lv_at hl 1 rfl) ?_
    refine lv_iload_n hx hb dX10_isOther_15 rfl (lv_at hl 2 rfl) ?_
    have hFc := pg_free hD hS hA
    refine va_calli (va_runV (As := [.int x2]) (rest := []) ⟨hx, hb, hml, hown, hts⟩ (s_X0_at l dC dI cs ty L H.size F_10 g1 σ r1 n1 x2 hW hL_g1 hT_g1) ⟨callB_of 1 hts (gi kt_21) rfl rfl rfl (hts _ kt_1) (hts _ kt_120) (by decide +kernel) ⟨Nat.le_of_ble_eq_true rfl, Nat.le_of_ble_eq_true rfl⟩, (hts _ kt_23), (hts _ kt_24)⟩ ⟨fun a U g mk q => ⟨q.1, PT.calling q.2⟩, pg_recv hK hP hL_g1 hF_11 (q := (RX0, TX0, 3)) rfl, fun U hU hWm => ⟨rfl, PT.mk hU hWm hP hK hD hE hO⟩⟩ rfl rfl hl.1 rfl (lv_room (Nat.le_of_ble_eq_true rfl)) dX10_isOther_16 ⟨by show _ + 0 ≤ 0; omega, by show _ + 0 ≤ 0; omega⟩) hS (fun q _ h => hFc q h) hFc (fun r_14 u t H1 locs ht hvm hw hB hz1 hk1 hS => ?_)
    obtain ⟨F_15, hB1⟩ := hB
    obtain ⟨hP, hD, hO, hR⟩ := QT.back hB1 ht hFc hR (fun q h => absurd h List.not_mem_nil)
    have hF_16 : F_15 g1 = .inr (0, [.ref r1, .int (nI z_4), .int o_5]) := (hB1.2.2.2 g1 List.not_mem_nil).trans hF_11
    generalize H1 = H at hP hS ⊢
    have hw : True := hw
    have hw_17 := hw
    have hFc := pg_free hD hS hA
    refine va_calli (va_runS (As := [.int r_14]) (rest := []) ⟨hx, hb, hml, hown, hts⟩ (s_X0_isSmall l dC dI cs ty L H.size F_15 r_14 hW ) ⟨callB_of 1 hts (gi kt_4) rfl rfl rfl (hts _ kt_1) (hts _ kt_126) (by decide +kernel) ⟨Nat.le_of_ble_eq_true rfl, Nat.le_of_ble_eq_true rfl⟩, (hts _ kt_6)⟩ ⟨fun a U g mk q => ⟨q.1, PT.calling q.2⟩, fun U hU hWm => ⟨rfl, PT.mk hU hWm hP hK hD hE hO⟩⟩ rfl rfl hl.1 rfl (lv_room (Nat.le_of_ble_eq_true rfl)) dX10_isOther_19 ⟨by show _ + 0 ≤ 0; omega, by show _ + 0 ≤ 0; omega⟩) hS (fun q _ h => hFc q h) hFc (fun r_18 u t H1 locs ht hvm hw hB hz1 hk1 hS => ?_)
    obtain ⟨F_19, hB1⟩ := hB
    obtain ⟨hP, hD, hO, hR⟩ := QT.back hB1 ht hFc hR (fun q h => absurd h List.not_mem_nil)
    have hF_20 : F_19 g1 = .inr (0, [.ref r1, .int (nI z_4), .int o_5]) := (hB1.2.2.2 g1 List.not_mem_nil).trans hF_16
    generalize H1 = H at hP hS ⊢
    have hw : (r_18 = 0 ∨ r_18 = 1) := hw
    have hw_21 := hw
    refine lv_if_ne (tgt := 27) hx hb dX10_isOther_22 (by decide) (fun c_22 => ?_) (fun c_22 => ?_)
    ·
      refine lv_iload_n hx hb dX10_isOther_27 rfl (lv_at hl 2 rfl) ?_
      refine lv_istore (lv' := [(4, .int x2), (3, .int r_9), (0, .ref g1), (1, .int x2), (2, .int x3)]) hx hb dX10_isOther_28 hl (by decide) rfl (fun ls hl => ?_)
      refine W.widen (k := 0) (n := 0) (by omega) (by omega) ?_
      have hF_24 : F g1 = .inr (0, [.ref r1, .int (nI z_4), .int o_5]) := (hR g1 List.not_mem_nil).symm.trans hF_20
      refine pl_loop (σ := Int32) A (dC, dI) cs ty L [] F 30 6 (fun i1 => [(4, .int i1), (3, .int r_9), (0, .ref g1), (1, .int x2), (2, .int x3)]) (fun i1 => []) (fun i1 _ => True) (fun i1 => ((r_9).toInt - i1.toInt).toNat) ?_ x2 F_19 (trivial) hO hR _ _ hP hD hS ls (lv_sub hl [0, 1, 2, 3, 4] rfl)
      rintro i1 F_23 hv_25 hO hR ih_26 H locs hP hD hS ls hl
      have hl : lv_has ls 6 [(4, .int i1), (3, .int r_9), (0, .ref g1), (1, .int x2), (2, .int x3)] := hl
      have hv_25 : True := hv_25
      refine W.eq (g2 := F0 m 30 ls []) rfl ?_
      have hF_27 : F_23 g1 = .inr (0, [.ref r1, .int (nI z_4), .int o_5]) := (hR g1 List.not_mem_nil).trans hF_24
      refine lv_iload hx hb dX10_isOther_30 (lv_at hl 0 rfl) ?_
      refine lv_iload_n hx hb dX10_isOther_32 rfl (lv_at hl 1 rfl) ?_
      refine lv_icmp_ge (tgt := 89) hx hb dX10_isOther_33 (by decide) (fun c_28 => ?_) (fun c_28 => ?_)
      ·
        refine lv_iconst (v := 1) hx hb dX10_isOther_89 (by decide) ?_
        refine W.widen (k := 0) (n := 0) (by omega) (by omega) ?_
        exact W.zret (v := 1) (ty := .boolean) hx hb hr (by decide) (fun t ht hWm => ⟨⟨1, (), rfl, (by first | exact Or.inl rfl | exact Or.inr rfl), ⟨F_23, QT.mk ht hP hD hO hR⟩⟩, hS.F ht⟩) hS.2.2 dX10_isOther_90
      ·
        refine lv_aload_n hx hb dX10_isOther_36 rfl (lv_at hl 2 rfl) ?_
        refine lv_iload hx hb dX10_isOther_37 (lv_at hl 0 rfl) ?_
        have hFc := pg_free hD hS hA
        refine va_calli (va_runV (As := [.int i1]) (rest := []) ⟨hx, hb, hml, hown, hts⟩ (s_X0_at l dC dI cs ty L H.size F_23 g1 σ r1 n1 i1 hW hL_g1 hT_g1) ⟨callB_of 1 hts (gi kt_21) rfl rfl rfl (hts _ kt_1) (hts _ kt_120) (by decide +kernel) ⟨Nat.le_of_ble_eq_true rfl, Nat.le_of_ble_eq_true rfl⟩, (hts _ kt_23), (hts _ kt_24)⟩ ⟨fun a U g mk q => ⟨q.1, PT.calling q.2⟩, pg_recv hK hP hL_g1 hF_27 (q := (RX0, TX0, 3)) rfl, fun U hU hWm => ⟨rfl, PT.mk hU hWm hP hK hD hE hO⟩⟩ rfl rfl hl.1 rfl (lv_room (Nat.le_of_ble_eq_true rfl)) dX10_isOther_39 ⟨by show _ + 0 ≤ 0; omega, by show _ + 0 ≤ 0; omega⟩) hS (fun q _ h => hFc q h) hFc (fun r_29 u t H1 locs ht hvm hw hB hz1 hk1 hS => ?_)
        obtain ⟨F_30, hB1⟩ := hB
        obtain ⟨hP, hD, hO, hR⟩ := QT.back hB1 ht hFc hR (fun q h => absurd h List.not_mem_nil)
        have hF_31 : F_30 g1 = .inr (0, [.ref r1, .int (nI z_4), .int o_5]) := (hB1.2.2.2 g1 List.not_mem_nil).trans hF_27
        generalize H1 = H at hP hS ⊢
        have hw : True := hw
        have hw_32 := hw
        refine lv_istore (lv' := [(5, .int r_29), (4, .int i1), (3, .int r_9), (0, .ref g1), (1, .int x2), (2, .int x3)]) hx hb dX10_isOther_42 hl (by decide) rfl (fun ls hl => ?_)
        refine lv_iload hx hb dX10_isOther_44 (lv_at hl 0 rfl) ?_
        have hFc := pg_free hD hS hA
        refine va_calli (va_runS (As := [.int r_29]) (rest := []) ⟨hx, hb, hml, hown, hts⟩ (s_X0_isSmall l dC dI cs ty L H.size F_30 r_29 hW ) ⟨callB_of 1 hts (gi kt_4) rfl rfl rfl (hts _ kt_1) (hts _ kt_126) (by decide +kernel) ⟨Nat.le_of_ble_eq_true rfl, Nat.le_of_ble_eq_true rfl⟩, (hts _ kt_6)⟩ ⟨fun a U g mk q => ⟨q.1, PT.calling q.2⟩, fun U hU hWm => ⟨rfl, PT.mk hU hWm hP hK hD hE hO⟩⟩ rfl rfl hl.1 rfl (lv_room (Nat.le_of_ble_eq_true rfl)) dX10_isOther_46 ⟨by show _ + 0 ≤ 0; omega, by show _ + 0 ≤ 0; omega⟩) hS (fun q _ h => hFc q h) hFc (fun r_33 u t H1 locs ht hvm hw hB hz1 hk1 hS => ?_)
        obtain ⟨F_34, hB1⟩ := hB
        obtain ⟨hP, hD, hO, hR⟩ := QT.back hB1 ht hFc hR (fun q h => absurd h List.not_mem_nil)
        have hF_35 : F_34 g1 = .inr (0, [.ref r1, .int (nI z_4), .int o_5]) := (hB1.2.2.2 g1 List.not_mem_nil).trans hF_31
        generalize H1 = H at hP hS ⊢
        have hw : (r_33 = 0 ∨ r_33 = 1) := hw
        have hw_36 := hw
        refine lv_if_ne (tgt := 83) hx hb dX10_isOther_49 (by decide) (fun c_37 => ?_) (fun c_37 => ?_)
        ·
          obtain ⟨x_38, ex_38⟩ : ∃ y : Int32, y = i1 + Int32.ofInt 1 := ⟨_, rfl⟩
          refine lv_iinc (v := x_38) (lv' := [(4, .int x_38), (5, .int r_29), (3, .int r_9), (0, .ref g1), (1, .int x2), (2, .int x3)]) hx hb dX10_isOther_83 hl (k := 1) rfl (ex_38.symm) (by decide) rfl (fun ls hl => ?_)
          refine lv_goto (tgt := 30) hx hb dX10_isOther_86 (by decide) ?_
          refine W.widen (k := 0) (n := 0) (by omega) (by omega) ?_
          exact ih_26 x_38 F_34 (trivial) (by show ((r_9).toInt - x_38.toInt).toNat < ((r_9).toInt - i1.toInt).toNat; exact incN ex_38 c_28) hO hR _ _ hP hD hS ls (lv_sub hl [0, 2, 3, 4, 5] rfl)
        ·
          refine lv_iload hx hb dX10_isOther_52 (lv_at hl 0 rfl) ?_
          have hFc := pg_free hD hS hA
          refine va_calli (va_runS (As := [.int r_29]) (rest := []) ⟨hx, hb, hml, hown, hts⟩ (s_X0_isDigit l dC dI cs ty L H.size F_34 r_29 hW ) ⟨callB_of 1 hts (gi kt_7) rfl rfl rfl (hts _ kt_1) (hts _ kt_121) (by decide +kernel) ⟨Nat.le_of_ble_eq_true rfl, Nat.le_of_ble_eq_true rfl⟩, (hts _ kt_9)⟩ ⟨fun a U g mk q => ⟨q.1, PT.calling q.2⟩, fun U hU hWm => ⟨rfl, PT.mk hU hWm hP hK hD hE hO⟩⟩ rfl rfl hl.1 rfl (lv_room (Nat.le_of_ble_eq_true rfl)) dX10_isOther_54 ⟨by show _ + 0 ≤ 0; omega, by show _ + 0 ≤ 0; omega⟩) hS (fun q _ h => hFc q h) hFc (fun r_39 u t H1 locs ht hvm hw hB hz1 hk1 hS => ?_)
          obtain ⟨F_40, hB1⟩ := hB
          obtain ⟨hP, hD, hO, hR⟩ := QT.back hB1 ht hFc hR (fun q h => absurd h List.not_mem_nil)
          have hF_41 : F_40 g1 = .inr (0, [.ref r1, .int (nI z_4), .int o_5]) := (hB1.2.2.2 g1 List.not_mem_nil).trans hF_35
          generalize H1 = H at hP hS ⊢
          have hw : (r_39 = 0 ∨ r_39 = 1) := hw
          have hw_42 := hw
          refine lv_if_ne (tgt := 83) hx hb dX10_isOther_57 (by decide) (fun c_43 => ?_) (fun c_43 => ?_)
          ·
            obtain ⟨x_44, ex_44⟩ : ∃ y : Int32, y = i1 + Int32.ofInt 1 := ⟨_, rfl⟩
            refine lv_iinc (v := x_44) (lv' := [(4, .int x_44), (5, .int r_29), (3, .int r_9), (0, .ref g1), (1, .int x2), (2, .int x3)]) hx hb dX10_isOther_83 hl (k := 1) rfl (ex_44.symm) (by decide) rfl (fun ls hl => ?_)
            refine lv_goto (tgt := 30) hx hb dX10_isOther_86 (by decide) ?_
            refine W.widen (k := 0) (n := 0) (by omega) (by omega) ?_
            exact ih_26 x_44 F_40 (trivial) (by show ((r_9).toInt - x_44.toInt).toNat < ((r_9).toInt - i1.toInt).toNat; exact incN ex_44 c_28) hO hR _ _ hP hD hS ls (lv_sub hl [0, 2, 3, 4, 5] rfl)
          ·
            refine lv_iload hx hb dX10_isOther_60 (lv_at hl 0 rfl) ?_
            refine lv_bipush (v := 45) hx hb dX10_isOther_62 (by decide) ?_
            refine lv_icmp_eq (tgt := 83) hx hb dX10_isOther_64 (by decide) (fun c_45 => ?_) (fun c_45 => ?_)
            ·
              obtain ⟨x_46, ex_46⟩ : ∃ y : Int32, y = i1 + Int32.ofInt 1 := ⟨_, rfl⟩
              refine lv_iinc (v := x_46) (lv' := [(4, .int x_46), (5, .int r_29), (3, .int r_9), (0, .ref g1), (1, .int x2), (2, .int x3)]) hx hb dX10_isOther_83 hl (k := 1) rfl (ex_46.symm) (by decide) rfl (fun ls hl => ?_)
              refine lv_goto (tgt := 30) hx hb dX10_isOther_86 (by decide) ?_
              refine W.widen (k := 0) (n := 0) (by omega) (by omega) ?_
              exact ih_26 x_46 F_40 (trivial) (by show ((r_9).toInt - x_46.toInt).toNat < ((r_9).toInt - i1.toInt).toNat; exact incN ex_46 c_28) hO hR _ _ hP hD hS ls (lv_sub hl [0, 2, 3, 4, 5] rfl)
            ·
              refine lv_iload hx hb dX10_isOther_67 (lv_at hl 0 rfl) ?_
              refine lv_bipush (v := 95) hx hb dX10_isOther_69 (by decide) ?_
              refine lv_icmp_eq (tgt := 83) hx hb dX10_isOther_71 (by decide) (fun c_47 => ?_) (fun c_47 => ?_)
              ·
                obtain ⟨x_48, ex_48⟩ : ∃ y : Int32, y = i1 + Int32.ofInt 1 := ⟨_, rfl⟩
                refine lv_iinc (v := x_48) (lv' := [(4, .int x_48), (5, .int r_29), (3, .int r_9), (0, .ref g1), (1, .int x2), (2, .int x3)]) hx hb dX10_isOther_83 hl (k := 1) rfl (ex_48.symm) (by decide) rfl (fun ls hl => ?_)
                refine lv_goto (tgt := 30) hx hb dX10_isOther_86 (by decide) ?_
                refine W.widen (k := 0) (n := 0) (by omega) (by omega) ?_
                exact ih_26 x_48 F_40 (trivial) (by show ((r_9).toInt - x_48.toInt).toNat < ((r_9).toInt - i1.toInt).toNat; exact incN ex_48 c_28) hO hR _ _ hP hD hS ls (lv_sub hl [0, 2, 3, 4, 5] rfl)
              ·
                refine lv_iload hx hb dX10_isOther_74 (lv_at hl 0 rfl) ?_
                refine lv_bipush (v := 46) hx hb dX10_isOther_76 (by decide) ?_
                refine lv_icmp_eq (tgt := 83) hx hb dX10_isOther_78 (by decide) (fun c_49 => ?_) (fun c_49 => ?_)
                ·
                  obtain ⟨x_50, ex_50⟩ : ∃ y : Int32, y = i1 + Int32.ofInt 1 := ⟨_, rfl⟩
                  refine lv_iinc (v := x_50) (lv' := [(4, .int x_50), (5, .int r_29), (3, .int r_9), (0, .ref g1), (1, .int x2), (2, .int x3)]) hx hb dX10_isOther_83 hl (k := 1) rfl (ex_50.symm) (by decide) rfl (fun ls hl => ?_)
                  refine lv_goto (tgt := 30) hx hb dX10_isOther_86 (by decide) ?_
                  refine W.widen (k := 0) (n := 0) (by omega) (by omega) ?_
                  exact ih_26 x_50 F_40 (trivial) (by show ((r_9).toInt - x_50.toInt).toNat < ((r_9).toInt - i1.toInt).toNat; exact incN ex_50 c_28) hO hR _ _ hP hD hS ls (lv_sub hl [0, 2, 3, 4, 5] rfl)
                ·
                  refine lv_iconst (v := 0) hx hb dX10_isOther_81 (by decide) ?_
                  refine W.widen (k := 0) (n := 0) (by omega) (by omega) ?_
                  exact W.zret (v := 0) (ty := .boolean) hx hb hr (by decide) (fun t ht hWm => ⟨⟨0, (), rfl, (by first | exact Or.inl rfl | exact Or.inr rfl), ⟨F_40, QT.mk ht hP hD hO hR⟩⟩, hS.F ht⟩) hS.2.2 dX10_isOther_82
    ·
      refine lv_iconst (v := 0) hx hb dX10_isOther_25 (by decide) ?_
      refine W.widen (k := 0) (n := 0) (by omega) (by omega) ?_
      exact W.zret (v := 0) (ty := .boolean) hx hb hr (by decide) (fun t ht hWm => ⟨⟨0, (), rfl, (by first | exact Or.inl rfl | exact Or.inr rfl), ⟨F_19, QT.mk ht hP hD hO hR⟩⟩, hS.F ht⟩) hS.2.2 dX10_isOther_26
theorem ml1 (x : Int32) : x + 3 + Int32.ofInt 1 = x + 4 := by
  rw [show (Int32.ofInt 1 : Int32) = 1 from rfl]
  grind
theorem ml2 (x : Int32) : x + 4 + Int32.ofInt 1 = x + 5 := by
  rw [show (Int32.ofInt 1 : Int32) = 1 from rfl]
  grind
theorem ml3 {t x : Int32} (h : t = x + 3 ∨ t = x + 4 ∨ t = x + 5) : ∃ k : Nat, k ≤ 7 ∧ t + 1 - x = nI k := by
  rcases h with h | h | h
  · exact ⟨4, by omega, by rw [h, show nI 4 = 4 from rfl]; grind⟩
  · exact ⟨5, by omega, by rw [h, show nI 5 = 5 from rfl]; grind⟩
  · exact ⟨6, by omega, by rw [h, show nI 6 = 6 from rfl]; grind⟩
set_option maxHeartbeats 4000000 in
set_option maxRecDepth 100000 in
theorem s_X10_macroLength (l : Launch) (dC : Nat → ClassId) (dI : Nat → Nat → Nat) (cs : Nat → ClassId) (ty : TyM) (L : List Nat) (sz : Nat) (F : Nat → va_E) (g1 : Nat) (σ : Nat) (r1 : Nat) (n1 : Nat) (x2 : Int32) (x3 : Int32) (hW : WT ty L) (hL_g1 : g1 ∈ L) (hT_g1 : ty g1 = (0, σ, [r1, n1])) : Met l yX10_macroLength (.code yX10_macroLength cX10_macroLength 6 (some .int) :: tb) ({ frames := 1, cells := 0, slots := 0, locals := 21 }) (va_Pc [.ref g1, .int x2, .int x3] (PT (dC, dI) cs ty L F sz)) (va_Qi (fun (r : Int32) (_ : Unit) => (∃ k : Nat, k ≤ 7 ∧ r = nI k)) (fun _ T9 => ∃ F2 : Nat → va_E, QT (dC, dI) cs ty L [] F F2 (va_A (va_pl L F) sz) T9) (va_A (va_pl L F) sz)) 0 0 (va_A (va_pl L F) sz) := by
  refine Met.ofW (cc := cX10_macroLength) (maxL := 6) (ret := (some .int)) (by decide) rfl ?_
  intro p e s m args below meth c s₁ B hml hv
  obtain ⟨rfl, hsz, hP, hK, hD0, hE, hO⟩ := hv
  have hx := B.exec
  have hb := B.bytes
  have hr := B.returns
  have hts : ∀ w ∈ tb, w.before _ s = true := fun w h => atoms_spec (ws := .code yX10_macroLength cX10_macroLength 6 (some .int) :: tb) B.pre w (List.mem_cons_of_mem _ h)
  have hown : s.vm.findClass RX10 = some m.cls := findClass_of_methodNamed B.named
  have hlocks := B.notSynchronized
  subst hsz
  have hD := hD0.self (sz := s.heap.size)
  generalize hAe : va_A (va_pl L F) s.heap.size = A at hD ⊢
  have hA : ∀ q : Nat, s.heap.size ≤ q → A q := fun q h => by rw [← hAe]; exact Or.inr h
  have hS : va_S A s.heap s.heap [] := va_S.rf
  have hR : FR ty [] F F := FR.refl
  have hl := lv_entry ([.ref g1, .int x2, .int x3]) (n := 6) (Nat.le_of_ble_eq_true rfl)
  rw [lg_entry_eq]
  generalize (lg_sl ([.ref g1, .int x2, .int x3]) ++ List.replicate (6 - (lg_sl ([.ref g1, .int x2, .int x3])).length) Slot.unset).toArray = ls at hl ⊢
  have hl : lv_has ls 6 [(0, .ref g1), (1, .int x2), (2, .int x3)] := hl
  refine lv_aload_n hx hb dX10_macroLength_0 rfl (lv_at hl 0 rfl) ?_
  refine lv_iload_n hx hb dX10_macroLength_1 rfl (lv_at hl 1 rfl) ?_
  have hFc := pg_free hD hS hA
  obtain ⟨hi_1, ht_2, hq_3⟩ := hW.bytes hL_g1 hT_g1
  obtain ⟨z_4, o_5, hF_6, hq_7, hq_8⟩ := hO.bytes hL_g1 hT_g1
  refine va_calli (va_runV (As := [.int x2]) (rest := []) ⟨hx, hb, hml, hown, hts⟩ (s_X0_at l dC dI cs ty L s.heap.size F g1 σ r1 n1 x2 hW hL_g1 hT_g1) ⟨callB_of 1 hts (gi kt_21) rfl rfl rfl (hts _ kt_1) (hts _ kt_120) (by decide +kernel) ⟨Nat.le_of_ble_eq_true rfl, Nat.le_of_ble_eq_true rfl⟩, (hts _ kt_23), (hts _ kt_24)⟩ ⟨fun a U g mk q => ⟨q.1, PT.calling q.2⟩, pg_recv hK hP hL_g1 hF_6 (q := (RX0, TX0, 3)) rfl, fun U hU hWm => ⟨rfl, PT.mk hU hWm hP hK hD hE hO⟩⟩ rfl rfl hl.1 rfl (lv_room (Nat.le_of_ble_eq_true rfl)) dX10_macroLength_2 ⟨by show _ + 0 ≤ 0; omega, by show _ + 0 ≤ 0; omega⟩) hS (fun q _ h => hFc q h) hFc (fun r_9 u t H1 locs ht hvm hw hB hz1 hk1 hS => ?_)
  obtain ⟨F_10, hB1⟩ := hB
  obtain ⟨hP, hD, hO, hR⟩ := QT.back hB1 ht hFc hR (fun q h => absurd h List.not_mem_nil)
  have hF_11 : F_10 g1 = .inr (0, [.ref r1, .int (nI z_4), .int o_5]) := (hB1.2.2.2 g1 List.not_mem_nil).trans hF_6
  generalize H1 = H at hP hS ⊢
  have hw : True := hw
  have hw_12 := hw
  refine lv_bipush (v := 37) hx hb dX10_macroLength_5 (by decide) ?_
  refine lv_icmp_ne (tgt := 17) hx hb dX10_macroLength_7 (by decide) (fun c_13 => ?_) (fun c_13 => ?_)
  ·
    refine lv_iconst (v := 0) hx hb dX10_macroLength_17 (by decide) ?_
    refine W.widen (k := 0) (n := 0) (by omega) (by omega) ?_
    exact W.iret (v := 0) hx hb hr (fun t ht hWm => ⟨⟨0, (), rfl, ⟨0, by omega, rfl⟩, ⟨F_10, QT.mk ht hP hD hO hR⟩⟩, hS.F ht⟩) hS.2.2 dX10_macroLength_18
  ·
    refine lv_iload_n hx hb dX10_macroLength_10 rfl (lv_at hl 1 rfl) ?_
    refine lv_iconst (v := 1) hx hb dX10_macroLength_11 (by decide) ?_
    refine lv_iadd hx hb dX10_macroLength_12 ?_
    refine lv_topi (fun x_14 _ => ?_)
    refine lv_iload_n hx hb dX10_macroLength_13 rfl (lv_at hl 2 rfl) ?_
    refine lv_icmp_lt (tgt := 19) hx hb dX10_macroLength_14 (by decide) (fun c_15 => ?_) (fun c_15 => ?_)
    ·
      refine lv_aload_n hx hb dX10_macroLength_19 rfl (lv_at hl 0 rfl) ?_
      refine lv_iload_n hx hb dX10_macroLength_20 rfl (lv_at hl 1 rfl) ?_
      refine lv_iconst (v := 1) hx hb dX10_macroLength_21 (by decide) ?_
      refine lv_iadd hx hb dX10_macroLength_22 ?_
      refine lv_topi (fun x_16 _ => ?_)
      have hFc := pg_free hD hS hA
      refine va_calli (va_runV (As := [.int x_16]) (rest := []) ⟨hx, hb, hml, hown, hts⟩ (s_X0_at l dC dI cs ty L H.size F_10 g1 σ r1 n1 x_16 hW hL_g1 hT_g1) ⟨callB_of 1 hts (gi kt_21) rfl rfl rfl (hts _ kt_1) (hts _ kt_120) (by decide +kernel) ⟨Nat.le_of_ble_eq_true rfl, Nat.le_of_ble_eq_true rfl⟩, (hts _ kt_23), (hts _ kt_24)⟩ ⟨fun a U g mk q => ⟨q.1, PT.calling q.2⟩, pg_recv hK hP hL_g1 hF_11 (q := (RX0, TX0, 3)) rfl, fun U hU hWm => ⟨rfl, PT.mk hU hWm hP hK hD hE hO⟩⟩ rfl rfl hl.1 rfl (lv_room (Nat.le_of_ble_eq_true rfl)) dX10_macroLength_23 ⟨by show _ + 0 ≤ 0; omega, by show _ + 0 ≤ 0; omega⟩) hS (fun q _ h => hFc q h) hFc (fun r_17 u t H1 locs ht hvm hw hB hz1 hk1 hS => ?_)
      obtain ⟨F_18, hB1⟩ := hB
      obtain ⟨hP, hD, hO, hR⟩ := QT.back hB1 ht hFc hR (fun q h => absurd h List.not_mem_nil)
      have hF_19 : F_18 g1 = .inr (0, [.ref r1, .int (nI z_4), .int o_5]) := (hB1.2.2.2 g1 List.not_mem_nil).trans hF_11
      generalize H1 = H at hP hS ⊢
      have hw : True := hw
      have hw_20 := hw
      refine lv_istore_n (lv' := [(3, .int r_17), (0, .ref g1), (1, .int x2), (2, .int x3)]) hx hb dX10_macroLength_26 rfl hl (by decide) rfl (fun ls hl => ?_)
      refine lv_iload_n hx hb dX10_macroLength_27 rfl (lv_at hl 0 rfl) ?_
      refine lv_bipush (v := 37) hx hb dX10_macroLength_28 (by decide) ?_
      refine lv_icmp_eq (tgt := 45) hx hb dX10_macroLength_30 (by decide) (fun c_21 => ?_) (fun c_21 => ?_)
      ·
        refine lv_iconst (v := 2) hx hb dX10_macroLength_45 (by decide) ?_
        refine W.widen (k := 0) (n := 0) (by omega) (by omega) ?_
        exact W.iret (v := 2) hx hb hr (fun t ht hWm => ⟨⟨2, (), rfl, ⟨2, by omega, rfl⟩, ⟨F_18, QT.mk ht hP hD hO hR⟩⟩, hS.F ht⟩) hS.2.2 dX10_macroLength_46
      ·
        refine lv_iload_n hx hb dX10_macroLength_33 rfl (lv_at hl 0 rfl) ?_
        refine lv_bipush (v := 95) hx hb dX10_macroLength_34 (by decide) ?_
        refine lv_icmp_eq (tgt := 45) hx hb dX10_macroLength_36 (by decide) (fun c_22 => ?_) (fun c_22 => ?_)
        ·
          refine lv_iconst (v := 2) hx hb dX10_macroLength_45 (by decide) ?_
          refine W.widen (k := 0) (n := 0) (by omega) (by omega) ?_
          exact W.iret (v := 2) hx hb hr (fun t ht hWm => ⟨⟨2, (), rfl, ⟨2, by omega, rfl⟩, ⟨F_18, QT.mk ht hP hD hO hR⟩⟩, hS.F ht⟩) hS.2.2 dX10_macroLength_46
        ·
          refine lv_iload_n hx hb dX10_macroLength_39 rfl (lv_at hl 0 rfl) ?_
          refine lv_bipush (v := 45) hx hb dX10_macroLength_40 (by decide) ?_
          refine lv_icmp_ne (tgt := 47) hx hb dX10_macroLength_42 (by decide) (fun c_23 => ?_) (fun c_23 => ?_)
          ·
            refine W.widen (k := 0) (n := 0) (by omega) (by omega) ?_
            refine pl_cut (σ := Unit) A (dC, dI) cs ty L [] F 99 6 (fun u0 => [(0, .ref g1), (1, .int x2), (2, .int x3)]) (fun u0 => []) (fun u0 _ => True) ?_ (fun jn_24 => ?_)
            ·
              rintro u0 F_25 hv_26 hO hR H locs hP hD hS ls hl
              have hl : lv_has ls 6 [(0, .ref g1), (1, .int x2), (2, .int x3)] := hl
              have hv_26 : True := hv_26
              refine W.eq (g2 := F0 m 99 ls []) rfl ?_
              refine lv_iload_n hx hb dX10_macroLength_99 rfl (lv_at hl 1 rfl) ?_
              refine lv_iconst (v := 3) hx hb dX10_macroLength_100 (by decide) ?_
              refine lv_iadd hx hb dX10_macroLength_101 ?_
              refine lv_topi (fun x_27 ex_27 => ?_)
              obtain rfl : x_27 = (x2 + 3) := ex_27.trans (rfl)
              refine lv_istore (lv' := [(5, .int (x2 + 3)), (0, .ref g1), (1, .int x2), (2, .int x3)]) hx hb dX10_macroLength_102 hl (by decide) rfl (fun ls hl => ?_)
              refine W.widen (k := 0) (n := 0) (by omega) (by omega) ?_
              refine pl_cut (σ := Int32) A (dC, dI) cs ty L [] F 129 6 (fun s5 => [(5, .int s5), (0, .ref g1), (1, .int x2), (2, .int x3)]) (fun s5 => []) (fun s5 _ => (s5 = x2 + 3 ∨ s5 = x2 + 4)) ?_ (fun jn_28 => ?_)
              ·
                rintro s5 F_29 hv_30 hO hR H locs hP hD hS ls hl
                have hl : lv_has ls 6 [(5, .int s5), (0, .ref g1), (1, .int x2), (2, .int x3)] := hl
                have hv_30 : (s5 = x2 + 3 ∨ s5 = x2 + 4) := hv_30
                refine W.eq (g2 := F0 m 129 ls []) rfl ?_
                refine W.widen (k := 0) (n := 0) (by omega) (by omega) ?_
                refine pl_cut (σ := Int32) A (dC, dI) cs ty L [] F 143 6 (fun t5 => [(5, .int t5), (0, .ref g1), (1, .int x2), (2, .int x3)]) (fun t5 => []) (fun t5 _ => (t5 = x2 + 3 ∨ t5 = x2 + 4 ∨ t5 = x2 + 5)) ?_ (fun jn_31 => ?_)
                ·
                  rintro t5 F_32 hv_33 hO hR H locs hP hD hS ls hl
                  have hl : lv_has ls 6 [(5, .int t5), (0, .ref g1), (1, .int x2), (2, .int x3)] := hl
                  have hv_33 : (t5 = x2 + 3 ∨ t5 = x2 + 4 ∨ t5 = x2 + 5) := hv_33
                  refine W.eq (g2 := F0 m 143 ls []) rfl ?_
                  refine lv_iload hx hb dX10_macroLength_143 (lv_at hl 0 rfl) ?_
                  refine lv_iload_n hx hb dX10_macroLength_145 rfl (lv_at hl 3 rfl) ?_
                  refine lv_icmp_ge (tgt := 169) hx hb dX10_macroLength_146 (by decide) (fun c_34 => ?_) (fun c_34 => ?_)
                  ·
                    refine lv_iconst (v := 0) hx hb dX10_macroLength_169 (by decide) ?_
                    refine W.widen (k := 0) (n := 0) (by omega) (by omega) ?_
                    exact W.iret (v := 0) hx hb hr (fun t ht hWm => ⟨⟨0, (), rfl, ⟨0, by omega, rfl⟩, ⟨F_32, QT.mk ht hP hD hO hR⟩⟩, hS.F ht⟩) hS.2.2 dX10_macroLength_170
                  ·
                    refine lv_aload_n hx hb dX10_macroLength_149 rfl (lv_at hl 1 rfl) ?_
                    refine lv_iload hx hb dX10_macroLength_150 (lv_at hl 0 rfl) ?_
                    have hFc := pg_free hD hS hA
                    obtain ⟨z_35, o_36, hF_37, hq_38, hq_39⟩ := hO.bytes hL_g1 hT_g1
                    refine va_calli (va_runV (As := [.int t5]) (rest := []) ⟨hx, hb, hml, hown, hts⟩ (s_X0_at l dC dI cs ty L H.size F_32 g1 σ r1 n1 t5 hW hL_g1 hT_g1) ⟨callB_of 1 hts (gi kt_21) rfl rfl rfl (hts _ kt_1) (hts _ kt_120) (by decide +kernel) ⟨Nat.le_of_ble_eq_true rfl, Nat.le_of_ble_eq_true rfl⟩, (hts _ kt_23), (hts _ kt_24)⟩ ⟨fun a U g mk q => ⟨q.1, PT.calling q.2⟩, pg_recv hK hP hL_g1 hF_37 (q := (RX0, TX0, 3)) rfl, fun U hU hWm => ⟨rfl, PT.mk hU hWm hP hK hD hE hO⟩⟩ rfl rfl hl.1 rfl (lv_room (Nat.le_of_ble_eq_true rfl)) dX10_macroLength_152 ⟨by show _ + 0 ≤ 0; omega, by show _ + 0 ≤ 0; omega⟩) hS (fun q _ h => hFc q h) hFc (fun r_40 u t H1 locs ht hvm hw hB hz1 hk1 hS => ?_)
                    obtain ⟨F_41, hB1⟩ := hB
                    obtain ⟨hP, hD, hO, hR⟩ := QT.back hB1 ht hFc hR (fun q h => absurd h List.not_mem_nil)
                    have hF_42 : F_41 g1 = .inr (0, [.ref r1, .int (nI z_35), .int o_36]) := (hB1.2.2.2 g1 List.not_mem_nil).trans hF_37
                    generalize H1 = H at hP hS ⊢
                    have hw : True := hw
                    have hw_43 := hw
                    refine lv_bipush (v := 125) hx hb dX10_macroLength_155 (by decide) ?_
                    refine lv_icmp_ne (tgt := 169) hx hb dX10_macroLength_157 (by decide) (fun c_44 => ?_) (fun c_44 => ?_)
                    ·
                      refine lv_iconst (v := 0) hx hb dX10_macroLength_169 (by decide) ?_
                      refine W.widen (k := 0) (n := 0) (by omega) (by omega) ?_
                      exact W.iret (v := 0) hx hb hr (fun t ht hWm => ⟨⟨0, (), rfl, ⟨0, by omega, rfl⟩, ⟨F_41, QT.mk ht hP hD hO hR⟩⟩, hS.F ht⟩) hS.2.2 dX10_macroLength_170
                    ·
                      refine lv_iload hx hb dX10_macroLength_160 (lv_at hl 0 rfl) ?_
                      refine lv_iconst (v := 1) hx hb dX10_macroLength_162 (by decide) ?_
                      refine lv_iadd hx hb dX10_macroLength_163 ?_
                      refine lv_topi (fun x_45 ex_45 => ?_)
                      obtain rfl : x_45 = (t5 + 1) := ex_45.trans (rfl)
                      refine lv_iload_n hx hb dX10_macroLength_164 rfl (lv_at hl 2 rfl) ?_
                      refine lv_isub hx hb dX10_macroLength_165 ?_
                      refine lv_topi (fun x_46 ex_46 => ?_)
                      obtain rfl : x_46 = (t5 + 1 - x2) := ex_46.trans (rfl)
                      refine lv_goto (tgt := 170) hx hb dX10_macroLength_166 (by decide) ?_
                      refine W.widen (k := 0) (n := 0) (by omega) (by omega) ?_
                      exact W.iret (v := (t5 + 1 - x2)) hx hb hr (fun t ht hWm => ⟨⟨(t5 + 1 - x2), (), rfl, (ml3 hv_33), ⟨F_41, QT.mk ht hP hD hO hR⟩⟩, hS.F ht⟩) hS.2.2 dX10_macroLength_170
                ·
                  refine lv_aload_n hx hb dX10_macroLength_129 rfl (lv_at hl 1 rfl) ?_
                  refine lv_iload hx hb dX10_macroLength_130 (lv_at hl 0 rfl) ?_
                  have hFc := pg_free hD hS hA
                  obtain ⟨z_47, o_48, hF_49, hq_50, hq_51⟩ := hO.bytes hL_g1 hT_g1
                  refine va_calli (va_runV (As := [.int s5]) (rest := []) ⟨hx, hb, hml, hown, hts⟩ (s_X0_at l dC dI cs ty L H.size F_29 g1 σ r1 n1 s5 hW hL_g1 hT_g1) ⟨callB_of 1 hts (gi kt_21) rfl rfl rfl (hts _ kt_1) (hts _ kt_120) (by decide +kernel) ⟨Nat.le_of_ble_eq_true rfl, Nat.le_of_ble_eq_true rfl⟩, (hts _ kt_23), (hts _ kt_24)⟩ ⟨fun a U g mk q => ⟨q.1, PT.calling q.2⟩, pg_recv hK hP hL_g1 hF_49 (q := (RX0, TX0, 3)) rfl, fun U hU hWm => ⟨rfl, PT.mk hU hWm hP hK hD hE hO⟩⟩ rfl rfl hl.1 rfl (lv_room (Nat.le_of_ble_eq_true rfl)) dX10_macroLength_132 ⟨by show _ + 0 ≤ 0; omega, by show _ + 0 ≤ 0; omega⟩) hS (fun q _ h => hFc q h) hFc (fun r_52 u t H1 locs ht hvm hw hB hz1 hk1 hS => ?_)
                  obtain ⟨F_53, hB1⟩ := hB
                  obtain ⟨hP, hD, hO, hR⟩ := QT.back hB1 ht hFc hR (fun q h => absurd h List.not_mem_nil)
                  have hF_54 : F_53 g1 = .inr (0, [.ref r1, .int (nI z_47), .int o_48]) := (hB1.2.2.2 g1 List.not_mem_nil).trans hF_49
                  generalize H1 = H at hP hS ⊢
                  have hw : True := hw
                  have hw_55 := hw
                  refine lv_bipush (v := 114) hx hb dX10_macroLength_135 (by decide) ?_
                  refine lv_icmp_ne (tgt := 143) hx hb dX10_macroLength_137 (by decide) (fun c_56 => ?_) (fun c_56 => ?_)
                  ·
                    refine W.widen (k := 0) (n := 0) (by omega) (by omega) ?_
                    exact jn_31 s5 F_53 (hv_30.elim Or.inl (fun h => Or.inr (Or.inl h))) hO hR _ _ hP hD hS ls (lv_sub hl [0, 1, 2, 3] rfl)
                  ·
                    obtain ⟨x_57, ex_57⟩ : ∃ y : Int32, y = s5 + Int32.ofInt 1 := ⟨_, rfl⟩
                    refine lv_iinc (v := x_57) (lv' := [(5, .int x_57), (0, .ref g1), (1, .int x2), (2, .int x3)]) hx hb dX10_macroLength_140 hl (k := 0) rfl (ex_57.symm) (by decide) rfl (fun ls hl => ?_)
                    refine W.widen (k := 0) (n := 0) (by omega) (by omega) ?_
                    exact jn_31 x_57 F_53 (hv_30.elim (fun h => Or.inr (Or.inl (by rw [ex_57, h]; exact ml1 x2))) (fun h => Or.inr (Or.inr (by rw [ex_57, h]; exact ml2 x2)))) hO hR _ _ hP hD hS ls (lv_sub hl [0, 1, 2, 3] rfl)
              ·
                refine lv_aload_n hx hb dX10_macroLength_104 rfl (lv_at hl 1 rfl) ?_
                refine lv_iload hx hb dX10_macroLength_105 (lv_at hl 0 rfl) ?_
                have hFc := pg_free hD hS hA
                obtain ⟨z_58, o_59, hF_60, hq_61, hq_62⟩ := hO.bytes hL_g1 hT_g1
                refine va_calli (va_runV (As := [.int (x2 + 3)]) (rest := []) ⟨hx, hb, hml, hown, hts⟩ (s_X0_at l dC dI cs ty L H.size F_25 g1 σ r1 n1 (x2 + 3) hW hL_g1 hT_g1) ⟨callB_of 1 hts (gi kt_21) rfl rfl rfl (hts _ kt_1) (hts _ kt_120) (by decide +kernel) ⟨Nat.le_of_ble_eq_true rfl, Nat.le_of_ble_eq_true rfl⟩, (hts _ kt_23), (hts _ kt_24)⟩ ⟨fun a U g mk q => ⟨q.1, PT.calling q.2⟩, pg_recv hK hP hL_g1 hF_60 (q := (RX0, TX0, 3)) rfl, fun U hU hWm => ⟨rfl, PT.mk hU hWm hP hK hD hE hO⟩⟩ rfl rfl hl.1 rfl (lv_room (Nat.le_of_ble_eq_true rfl)) dX10_macroLength_107 ⟨by show _ + 0 ≤ 0; omega, by show _ + 0 ≤ 0; omega⟩) hS (fun q _ h => hFc q h) hFc (fun r_63 u t H1 locs ht hvm hw hB hz1 hk1 hS => ?_)
                obtain ⟨F_64, hB1⟩ := hB
                obtain ⟨hP, hD, hO, hR⟩ := QT.back hB1 ht hFc hR (fun q h => absurd h List.not_mem_nil)
                have hF_65 : F_64 g1 = .inr (0, [.ref r1, .int (nI z_58), .int o_59]) := (hB1.2.2.2 g1 List.not_mem_nil).trans hF_60
                generalize H1 = H at hP hS ⊢
                have hw : True := hw
                have hw_66 := hw
                refine lv_bipush (v := 49) hx hb dX10_macroLength_110 (by decide) ?_
                refine lv_icmp_lt (tgt := 129) hx hb dX10_macroLength_112 (by decide) (fun c_67 => ?_) (fun c_67 => ?_)
                ·
                  refine W.widen (k := 0) (n := 0) (by omega) (by omega) ?_
                  exact jn_28 (x2 + 3) F_64 (Or.inl rfl) hO hR _ _ hP hD hS ls (lv_sub hl [0, 1, 2, 3] rfl)
                ·
                  refine lv_aload_n hx hb dX10_macroLength_115 rfl (lv_at hl 1 rfl) ?_
                  refine lv_iload hx hb dX10_macroLength_116 (lv_at hl 0 rfl) ?_
                  have hFc := pg_free hD hS hA
                  refine va_calli (va_runV (As := [.int (x2 + 3)]) (rest := []) ⟨hx, hb, hml, hown, hts⟩ (s_X0_at l dC dI cs ty L H.size F_64 g1 σ r1 n1 (x2 + 3) hW hL_g1 hT_g1) ⟨callB_of 1 hts (gi kt_21) rfl rfl rfl (hts _ kt_1) (hts _ kt_120) (by decide +kernel) ⟨Nat.le_of_ble_eq_true rfl, Nat.le_of_ble_eq_true rfl⟩, (hts _ kt_23), (hts _ kt_24)⟩ ⟨fun a U g mk q => ⟨q.1, PT.calling q.2⟩, pg_recv hK hP hL_g1 hF_65 (q := (RX0, TX0, 3)) rfl, fun U hU hWm => ⟨rfl, PT.mk hU hWm hP hK hD hE hO⟩⟩ rfl rfl hl.1 rfl (lv_room (Nat.le_of_ble_eq_true rfl)) dX10_macroLength_118 ⟨by show _ + 0 ≤ 0; omega, by show _ + 0 ≤ 0; omega⟩) hS (fun q _ h => hFc q h) hFc (fun r_68 u t H1 locs ht hvm hw hB hz1 hk1 hS => ?_)
                  obtain ⟨F_69, hB1⟩ := hB
                  obtain ⟨hP, hD, hO, hR⟩ := QT.back hB1 ht hFc hR (fun q h => absurd h List.not_mem_nil)
                  have hF_70 : F_69 g1 = .inr (0, [.ref r1, .int (nI z_58), .int o_59]) := (hB1.2.2.2 g1 List.not_mem_nil).trans hF_65
                  generalize H1 = H at hP hS ⊢
                  have hw : True := hw
                  have hw_71 := hw
                  refine lv_bipush (v := 57) hx hb dX10_macroLength_121 (by decide) ?_
                  refine lv_icmp_gt (tgt := 129) hx hb dX10_macroLength_123 (by decide) (fun c_72 => ?_) (fun c_72 => ?_)
                  ·
                    refine W.widen (k := 0) (n := 0) (by omega) (by omega) ?_
                    exact jn_28 (x2 + 3) F_69 (Or.inl rfl) hO hR _ _ hP hD hS ls (lv_sub hl [0, 1, 2, 3] rfl)
                  ·
                    obtain ⟨x_73, ex_73⟩ : ∃ y : Int32, y = (x2 + 3) + Int32.ofInt 1 := ⟨_, rfl⟩
                    refine lv_iinc (v := x_73) (lv' := [(5, .int x_73), (0, .ref g1), (1, .int x2), (2, .int x3)]) hx hb dX10_macroLength_126 hl (k := 0) rfl (ex_73.symm) (by decide) rfl (fun ls hl => ?_)
                    refine W.widen (k := 0) (n := 0) (by omega) (by omega) ?_
                    exact jn_28 x_73 F_69 (Or.inr (by rw [ex_73]; exact ml1 x2)) hO hR _ _ hP hD hS ls (lv_sub hl [0, 1, 2, 3] rfl)
            ·
              refine lv_aload_n hx hb dX10_macroLength_47 rfl (lv_at hl 1 rfl) ?_
              refine lv_iload_n hx hb dX10_macroLength_48 rfl (lv_at hl 2 rfl) ?_
              refine lv_iconst (v := 2) hx hb dX10_macroLength_49 (by decide) ?_
              refine lv_iadd hx hb dX10_macroLength_50 ?_
              refine lv_topi (fun x_74 _ => ?_)
              have hFc := pg_free hD hS hA
              refine va_calli (va_runV (As := [.int x_74]) (rest := []) ⟨hx, hb, hml, hown, hts⟩ (s_X0_at l dC dI cs ty L H.size F_18 g1 σ r1 n1 x_74 hW hL_g1 hT_g1) ⟨callB_of 1 hts (gi kt_21) rfl rfl rfl (hts _ kt_1) (hts _ kt_120) (by decide +kernel) ⟨Nat.le_of_ble_eq_true rfl, Nat.le_of_ble_eq_true rfl⟩, (hts _ kt_23), (hts _ kt_24)⟩ ⟨fun a U g mk q => ⟨q.1, PT.calling q.2⟩, pg_recv hK hP hL_g1 hF_19 (q := (RX0, TX0, 3)) rfl, fun U hU hWm => ⟨rfl, PT.mk hU hWm hP hK hD hE hO⟩⟩ rfl rfl hl.1 rfl (lv_room (Nat.le_of_ble_eq_true rfl)) dX10_macroLength_51 ⟨by show _ + 0 ≤ 0; omega, by show _ + 0 ≤ 0; omega⟩) hS (fun q _ h => hFc q h) hFc (fun r_75 u t H1 locs ht hvm hw hB hz1 hk1 hS => ?_)
              obtain ⟨F_76, hB1⟩ := hB
              obtain ⟨hP, hD, hO, hR⟩ := QT.back hB1 ht hFc hR (fun q h => absurd h List.not_mem_nil)
              have hF_77 : F_76 g1 = .inr (0, [.ref r1, .int (nI z_4), .int o_5]) := (hB1.2.2.2 g1 List.not_mem_nil).trans hF_19
              generalize H1 = H at hP hS ⊢
              have hw : True := hw
              have hw_78 := hw
              refine lv_istore (lv' := [(4, .int r_75), (3, .int r_17), (0, .ref g1), (1, .int x2), (2, .int x3)]) hx hb dX10_macroLength_54 hl (by decide) rfl (fun ls hl => ?_)
              refine lv_iload_n hx hb dX10_macroLength_56 rfl (lv_at hl 1 rfl) ?_
              refine lv_bipush (v := 123) hx hb dX10_macroLength_57 (by decide) ?_
              refine lv_icmp_ne (tgt := 97) hx hb dX10_macroLength_59 (by decide) (fun c_79 => ?_) (fun c_79 => ?_)
              ·
                refine lv_iconst (v := 0) hx hb dX10_macroLength_97 (by decide) ?_
                refine W.widen (k := 0) (n := 0) (by omega) (by omega) ?_
                exact W.iret (v := 0) hx hb hr (fun t ht hWm => ⟨⟨0, (), rfl, ⟨0, by omega, rfl⟩, ⟨F_76, QT.mk ht hP hD hO hR⟩⟩, hS.F ht⟩) hS.2.2 dX10_macroLength_98
              ·
                refine lv_iload hx hb dX10_macroLength_62 (lv_at hl 0 rfl) ?_
                refine lv_bipush (v := 115) hx hb dX10_macroLength_64 (by decide) ?_
                refine lv_icmp_eq (tgt := 99) hx hb dX10_macroLength_66 (by decide) (fun c_80 => ?_) (fun c_80 => ?_)
                ·
                  refine W.widen (k := 0) (n := 0) (by omega) (by omega) ?_
                  exact jn_24 () F_76 (trivial) hO hR _ _ hP hD hS ls (lv_sub hl [2, 3, 4] rfl)
                ·
                  refine lv_iload hx hb dX10_macroLength_69 (lv_at hl 0 rfl) ?_
                  refine lv_bipush (v := 108) hx hb dX10_macroLength_71 (by decide) ?_
                  refine lv_icmp_eq (tgt := 99) hx hb dX10_macroLength_73 (by decide) (fun c_81 => ?_) (fun c_81 => ?_)
                  ·
                    refine W.widen (k := 0) (n := 0) (by omega) (by omega) ?_
                    exact jn_24 () F_76 (trivial) hO hR _ _ hP hD hS ls (lv_sub hl [2, 3, 4] rfl)
                  ·
                    refine lv_iload hx hb dX10_macroLength_76 (lv_at hl 0 rfl) ?_
                    refine lv_bipush (v := 111) hx hb dX10_macroLength_78 (by decide) ?_
                    refine lv_icmp_eq (tgt := 99) hx hb dX10_macroLength_80 (by decide) (fun c_82 => ?_) (fun c_82 => ?_)
                    ·
                      refine W.widen (k := 0) (n := 0) (by omega) (by omega) ?_
                      exact jn_24 () F_76 (trivial) hO hR _ _ hP hD hS ls (lv_sub hl [2, 3, 4] rfl)
                    ·
                      refine lv_iload hx hb dX10_macroLength_83 (lv_at hl 0 rfl) ?_
                      refine lv_bipush (v := 100) hx hb dX10_macroLength_85 (by decide) ?_
                      refine lv_icmp_eq (tgt := 99) hx hb dX10_macroLength_87 (by decide) (fun c_83 => ?_) (fun c_83 => ?_)
                      ·
                        refine W.widen (k := 0) (n := 0) (by omega) (by omega) ?_
                        exact jn_24 () F_76 (trivial) hO hR _ _ hP hD hS ls (lv_sub hl [2, 3, 4] rfl)
                      ·
                        refine lv_iload hx hb dX10_macroLength_90 (lv_at hl 0 rfl) ?_
                        refine lv_bipush (v := 105) hx hb dX10_macroLength_92 (by decide) ?_
                        refine lv_icmp_eq (tgt := 99) hx hb dX10_macroLength_94 (by decide) (fun c_84 => ?_) (fun c_84 => ?_)
                        ·
                          refine W.widen (k := 0) (n := 0) (by omega) (by omega) ?_
                          exact jn_24 () F_76 (trivial) hO hR _ _ hP hD hS ls (lv_sub hl [2, 3, 4] rfl)
                        ·
                          refine lv_iconst (v := 0) hx hb dX10_macroLength_97 (by decide) ?_
                          refine W.widen (k := 0) (n := 0) (by omega) (by omega) ?_
                          exact W.iret (v := 0) hx hb hr (fun t ht hWm => ⟨⟨0, (), rfl, ⟨0, by omega, rfl⟩, ⟨F_76, QT.mk ht hP hD hO hR⟩⟩, hS.F ht⟩) hS.2.2 dX10_macroLength_98
          ·
            refine lv_iconst (v := 2) hx hb dX10_macroLength_45 (by decide) ?_
            refine W.widen (k := 0) (n := 0) (by omega) (by omega) ?_
            exact W.iret (v := 2) hx hb hr (fun t ht hWm => ⟨⟨2, (), rfl, ⟨2, by omega, rfl⟩, ⟨F_18, QT.mk ht hP hD hO hR⟩⟩, hS.F ht⟩) hS.2.2 dX10_macroLength_46
    ·
      refine lv_iconst (v := 0) hx hb dX10_macroLength_17 (by decide) ?_
      refine W.widen (k := 0) (n := 0) (by omega) (by omega) ?_
      exact W.iret (v := 0) hx hb hr (fun t ht hWm => ⟨⟨0, (), rfl, ⟨0, by omega, rfl⟩, ⟨F_10, QT.mk ht hP hD hO hR⟩⟩, hS.F ht⟩) hS.2.2 dX10_macroLength_18
