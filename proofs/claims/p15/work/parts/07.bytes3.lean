theorem dX0_addRange_0 : decode cX0_addRange 0 = .ok (.iconst 0, 1) := by decide +kernel
theorem dX0_addRange_1 : decode cX0_addRange 1 = .ok (.iload_n 2, 1) := by decide +kernel
theorem dX0_addRange_2 : decode cX0_addRange 2 = .ok (.invokestatic 48, 3) := by decide +kernel
theorem dX0_addRange_5 : decode cX0_addRange 5 = .ok (.istore 4, 2) := by decide +kernel
theorem dX0_addRange_7 : decode cX0_addRange 7 = .ok (.iload_n 3, 1) := by decide +kernel
theorem dX0_addRange_8 : decode cX0_addRange 8 = .ok (.aload_n 1, 1) := by decide +kernel
theorem dX0_addRange_9 : decode cX0_addRange 9 = .ok (.getfield 9, 3) := by decide +kernel
theorem dX0_addRange_12 : decode cX0_addRange 12 = .ok (.invokestatic 54, 3) := by decide +kernel
theorem dX0_addRange_15 : decode cX0_addRange 15 = .ok (.iload 4, 2) := by decide +kernel
theorem dX0_addRange_17 : decode cX0_addRange 17 = .ok (.isub, 1) := by decide +kernel
theorem dX0_addRange_18 : decode cX0_addRange 18 = .ok (.istore 5, 2) := by decide +kernel
theorem dX0_addRange_20 : decode cX0_addRange 20 = .ok (.iload 5, 2) := by decide +kernel
theorem dX0_addRange_22 : decode cX0_addRange 22 = .ok (.aload_n 0, 1) := by decide +kernel
theorem dX0_addRange_23 : decode cX0_addRange 23 = .ok (.getfield 19, 3) := by decide +kernel
theorem dX0_addRange_26 : decode cX0_addRange 26 = .ok (.arraylength, 1) := by decide +kernel
theorem dX0_addRange_27 : decode cX0_addRange 27 = .ok (.aload_n 0, 1) := by decide +kernel
theorem dX0_addRange_28 : decode cX0_addRange 28 = .ok (.getfield 9, 3) := by decide +kernel
theorem dX0_addRange_31 : decode cX0_addRange 31 = .ok (.isub, 1) := by decide +kernel
theorem dX0_addRange_32 : decode cX0_addRange 32 = .ok (.invokestatic 54, 3) := by decide +kernel
theorem dX0_addRange_35 : decode cX0_addRange 35 = .ok (.istore 6, 2) := by decide +kernel
theorem dX0_addRange_37 : decode cX0_addRange 37 = .ok (.iload 6, 2) := by decide +kernel
theorem dX0_addRange_39 : decode cX0_addRange 39 = .ok (.ifCond .le 33, 3) := by decide +kernel
theorem dX0_addRange_42 : decode cX0_addRange 42 = .ok (.aload_n 1, 1) := by decide +kernel
theorem dX0_addRange_43 : decode cX0_addRange 43 = .ok (.getfield 19, 3) := by decide +kernel
theorem dX0_addRange_46 : decode cX0_addRange 46 = .ok (.iload 4, 2) := by decide +kernel
theorem dX0_addRange_48 : decode cX0_addRange 48 = .ok (.aload_n 0, 1) := by decide +kernel
theorem dX0_addRange_49 : decode cX0_addRange 49 = .ok (.getfield 19, 3) := by decide +kernel
theorem dX0_addRange_52 : decode cX0_addRange 52 = .ok (.aload_n 0, 1) := by decide +kernel
theorem dX0_addRange_53 : decode cX0_addRange 53 = .ok (.getfield 9, 3) := by decide +kernel
theorem dX0_addRange_56 : decode cX0_addRange 56 = .ok (.iload 6, 2) := by decide +kernel
theorem dX0_addRange_58 : decode cX0_addRange 58 = .ok (.invokestatic 57, 3) := by decide +kernel
theorem dX0_addRange_61 : decode cX0_addRange 61 = .ok (.aload_n 0, 1) := by decide +kernel
theorem dX0_addRange_62 : decode cX0_addRange 62 = .ok (.dup, 1) := by decide +kernel
theorem dX0_addRange_63 : decode cX0_addRange 63 = .ok (.getfield 9, 3) := by decide +kernel
theorem dX0_addRange_66 : decode cX0_addRange 66 = .ok (.iload 6, 2) := by decide +kernel
theorem dX0_addRange_68 : decode cX0_addRange 68 = .ok (.iadd, 1) := by decide +kernel
theorem dX0_addRange_69 : decode cX0_addRange 69 = .ok (.putfield 9, 3) := by decide +kernel
theorem dX0_addRange_72 : decode cX0_addRange 72 = .ok (.aload_n 0, 1) := by decide +kernel
theorem dX0_addRange_73 : decode cX0_addRange 73 = .ok (.aload_n 0, 1) := by decide +kernel
theorem dX0_addRange_74 : decode cX0_addRange 74 = .ok (.getfield 15, 3) := by decide +kernel
theorem dX0_addRange_77 : decode cX0_addRange 77 = .ok (.ifCond .ne 10, 3) := by decide +kernel
theorem dX0_addRange_80 : decode cX0_addRange 80 = .ok (.iload 6, 2) := by decide +kernel
theorem dX0_addRange_82 : decode cX0_addRange 82 = .ok (.iload 5, 2) := by decide +kernel
theorem dX0_addRange_84 : decode cX0_addRange 84 = .ok (.if_icmp .ge 7, 3) := by decide +kernel
theorem dX0_addRange_87 : decode cX0_addRange 87 = .ok (.iconst 1, 1) := by decide +kernel
theorem dX0_addRange_88 : decode cX0_addRange 88 = .ok (.goto 4, 3) := by decide +kernel
theorem dX0_addRange_91 : decode cX0_addRange 91 = .ok (.iconst 0, 1) := by decide +kernel
theorem dX0_addRange_92 : decode cX0_addRange 92 = .ok (.putfield 15, 3) := by decide +kernel
theorem dX0_addRange_95 : decode cX0_addRange 95 = .ok (.return_, 1) := by decide +kernel
theorem dX0_copy_0 : decode cX0_copy 0 = .ok (.aload_n 0, 1) := by decide +kernel
theorem dX0_copy_1 : decode cX0_copy 1 = .ok (.invokevirtual 63, 3) := by decide +kernel
theorem dX0_copy_4 : decode cX0_copy 4 = .ok (.aload_n 0, 1) := by decide +kernel
theorem dX0_copy_5 : decode cX0_copy 5 = .ok (.aload_n 1, 1) := by decide +kernel
theorem dX0_copy_6 : decode cX0_copy 6 = .ok (.iconst 0, 1) := by decide +kernel
theorem dX0_copy_7 : decode cX0_copy 7 = .ok (.aload_n 1, 1) := by decide +kernel
theorem dX0_copy_8 : decode cX0_copy 8 = .ok (.getfield 9, 3) := by decide +kernel
theorem dX0_copy_11 : decode cX0_copy 11 = .ok (.invokevirtual 66, 3) := by decide +kernel
theorem dX0_copy_14 : decode cX0_copy 14 = .ok (.return_, 1) := by decide +kernel
theorem dX0_decode_0 : decode cX0_decode 0 = .ok (.aload_n 0, 1) := by decide +kernel
theorem dX0_decode_1 : decode cX0_decode 1 = .ok (.invokevirtual 63, 3) := by decide +kernel
theorem dX0_decode_4 : decode cX0_decode 4 = .ok (.iload 4, 2) := by decide +kernel
theorem dX0_decode_6 : decode cX0_decode 6 = .ok (.iconst 4, 1) := by decide +kernel
theorem dX0_decode_7 : decode cX0_decode 7 = .ok (.imul, 1) := by decide +kernel
theorem dX0_decode_8 : decode cX0_decode 8 = .ok (.iconst 2, 1) := by decide +kernel
theorem dX0_decode_9 : decode cX0_decode 9 = .ok (.iadd, 1) := by decide +kernel
theorem dX0_decode_10 : decode cX0_decode 10 = .ok (.iconst 3, 1) := by decide +kernel
theorem dX0_decode_11 : decode cX0_decode 11 = .ok (.idiv, 1) := by decide +kernel
theorem dX0_decode_12 : decode cX0_decode 12 = .ok (.istore 5, 2) := by decide +kernel
theorem dX0_decode_14 : decode cX0_decode 14 = .ok (.iload_n 3, 1) := by decide +kernel
theorem dX0_decode_15 : decode cX0_decode 15 = .ok (.iload_n 2, 1) := by decide +kernel
theorem dX0_decode_16 : decode cX0_decode 16 = .ok (.isub, 1) := by decide +kernel
theorem dX0_decode_17 : decode cX0_decode 17 = .ok (.iload 4, 2) := by decide +kernel
theorem dX0_decode_19 : decode cX0_decode 19 = .ok (.iconst 2, 1) := by decide +kernel
theorem dX0_decode_20 : decode cX0_decode 20 = .ok (.iadd, 1) := by decide +kernel
theorem dX0_decode_21 : decode cX0_decode 21 = .ok (.iconst 3, 1) := by decide +kernel
theorem dX0_decode_22 : decode cX0_decode 22 = .ok (.idiv, 1) := by decide +kernel
theorem dX0_decode_23 : decode cX0_decode 23 = .ok (.iconst 4, 1) := by decide +kernel
theorem dX0_decode_24 : decode cX0_decode 24 = .ok (.imul, 1) := by decide +kernel
theorem dX0_decode_25 : decode cX0_decode 25 = .ok (.if_icmp .eq 5, 3) := by decide +kernel
theorem dX0_decode_28 : decode cX0_decode 28 = .ok (.iconst 0, 1) := by decide +kernel
theorem dX0_decode_29 : decode cX0_decode 29 = .ok (.ireturn, 1) := by decide +kernel
theorem dX0_decode_30 : decode cX0_decode 30 = .ok (.iconst 0, 1) := by decide +kernel
theorem dX0_decode_31 : decode cX0_decode 31 = .ok (.istore 6, 2) := by decide +kernel
theorem dX0_decode_33 : decode cX0_decode 33 = .ok (.iconst 0, 1) := by decide +kernel
theorem dX0_decode_34 : decode cX0_decode 34 = .ok (.istore 7, 2) := by decide +kernel
theorem dX0_decode_36 : decode cX0_decode 36 = .ok (.iload_n 2, 1) := by decide +kernel
theorem dX0_decode_37 : decode cX0_decode 37 = .ok (.istore 8, 2) := by decide +kernel
theorem dX0_decode_39 : decode cX0_decode 39 = .ok (.iload 8, 2) := by decide +kernel
theorem dX0_decode_41 : decode cX0_decode 41 = .ok (.iload_n 2, 1) := by decide +kernel
theorem dX0_decode_42 : decode cX0_decode 42 = .ok (.iload 5, 2) := by decide +kernel
theorem dX0_decode_44 : decode cX0_decode 44 = .ok (.iadd, 1) := by decide +kernel
theorem dX0_decode_45 : decode cX0_decode 45 = .ok (.if_icmp .ge 70, 3) := by decide +kernel
theorem dX0_decode_48 : decode cX0_decode 48 = .ok (.aload_n 1, 1) := by decide +kernel
theorem dX0_decode_49 : decode cX0_decode 49 = .ok (.iload 8, 2) := by decide +kernel
theorem dX0_decode_51 : decode cX0_decode 51 = .ok (.invokevirtual 74, 3) := by decide +kernel
theorem dX0_decode_54 : decode cX0_decode 54 = .ok (.invokestatic 81, 3) := by decide +kernel
theorem dX0_decode_57 : decode cX0_decode 57 = .ok (.istore 9, 2) := by decide +kernel
theorem dX0_decode_59 : decode cX0_decode 59 = .ok (.iload 9, 2) := by decide +kernel
theorem dX0_decode_61 : decode cX0_decode 61 = .ok (.ifCond .ge 5, 3) := by decide +kernel
theorem dX0_decode_64 : decode cX0_decode 64 = .ok (.iconst 0, 1) := by decide +kernel
theorem dX0_decode_65 : decode cX0_decode 65 = .ok (.ireturn, 1) := by decide +kernel
theorem dX0_decode_66 : decode cX0_decode 66 = .ok (.iload 6, 2) := by decide +kernel
theorem dX0_decode_68 : decode cX0_decode 68 = .ok (.bipush 6, 2) := by decide +kernel
theorem dX0_decode_70 : decode cX0_decode 70 = .ok (.ishl, 1) := by decide +kernel
theorem dX0_decode_71 : decode cX0_decode 71 = .ok (.iload 9, 2) := by decide +kernel
theorem dX0_decode_73 : decode cX0_decode 73 = .ok (.ior, 1) := by decide +kernel
theorem dX0_decode_74 : decode cX0_decode 74 = .ok (.istore 6, 2) := by decide +kernel
theorem dX0_decode_76 : decode cX0_decode 76 = .ok (.iinc 7 6, 3) := by decide +kernel
theorem dX0_decode_79 : decode cX0_decode 79 = .ok (.iload 7, 2) := by decide +kernel
theorem dX0_decode_81 : decode cX0_decode 81 = .ok (.bipush 8, 2) := by decide +kernel
theorem dX0_decode_83 : decode cX0_decode 83 = .ok (.if_icmp .lt 26, 3) := by decide +kernel
theorem dX0_decode_86 : decode cX0_decode 86 = .ok (.iinc 7 (-8), 3) := by decide +kernel
theorem dX0_decode_89 : decode cX0_decode 89 = .ok (.aload_n 0, 1) := by decide +kernel
theorem dX0_decode_90 : decode cX0_decode 90 = .ok (.iload 6, 2) := by decide +kernel
theorem dX0_decode_92 : decode cX0_decode 92 = .ok (.iload 7, 2) := by decide +kernel
theorem dX0_decode_94 : decode cX0_decode 94 = .ok (.iushr, 1) := by decide +kernel
theorem dX0_decode_95 : decode cX0_decode 95 = .ok (.invokevirtual 34, 3) := by decide +kernel
theorem dX0_decode_98 : decode cX0_decode 98 = .ok (.iload 6, 2) := by decide +kernel
theorem dX0_decode_100 : decode cX0_decode 100 = .ok (.iconst 1, 1) := by decide +kernel
theorem dX0_decode_101 : decode cX0_decode 101 = .ok (.iload 7, 2) := by decide +kernel
theorem dX0_decode_103 : decode cX0_decode 103 = .ok (.ishl, 1) := by decide +kernel
theorem dX0_decode_104 : decode cX0_decode 104 = .ok (.iconst 1, 1) := by decide +kernel
theorem dX0_decode_105 : decode cX0_decode 105 = .ok (.isub, 1) := by decide +kernel
theorem dX0_decode_106 : decode cX0_decode 106 = .ok (.iand, 1) := by decide +kernel
theorem dX0_decode_107 : decode cX0_decode 107 = .ok (.istore 6, 2) := by decide +kernel
theorem dX0_decode_109 : decode cX0_decode 109 = .ok (.iinc 8 1, 3) := by decide +kernel
theorem dX0_decode_112 : decode cX0_decode 112 = .ok (.goto (-73), 3) := by decide +kernel
theorem dX0_decode_115 : decode cX0_decode 115 = .ok (.iload_n 2, 1) := by decide +kernel
theorem dX0_decode_116 : decode cX0_decode 116 = .ok (.iload 5, 2) := by decide +kernel
theorem dX0_decode_118 : decode cX0_decode 118 = .ok (.iadd, 1) := by decide +kernel
theorem dX0_decode_119 : decode cX0_decode 119 = .ok (.istore 8, 2) := by decide +kernel
theorem dX0_decode_121 : decode cX0_decode 121 = .ok (.iload 8, 2) := by decide +kernel
theorem dX0_decode_123 : decode cX0_decode 123 = .ok (.iload_n 3, 1) := by decide +kernel
theorem dX0_decode_124 : decode cX0_decode 124 = .ok (.if_icmp .ge 22, 3) := by decide +kernel
theorem dX0_decode_127 : decode cX0_decode 127 = .ok (.aload_n 1, 1) := by decide +kernel
theorem dX0_decode_128 : decode cX0_decode 128 = .ok (.iload 8, 2) := by decide +kernel
theorem dX0_decode_130 : decode cX0_decode 130 = .ok (.invokevirtual 74, 3) := by decide +kernel
theorem dX0_decode_133 : decode cX0_decode 133 = .ok (.bipush 61, 2) := by decide +kernel
theorem dX0_decode_135 : decode cX0_decode 135 = .ok (.if_icmp .eq 5, 3) := by decide +kernel
theorem dX0_decode_138 : decode cX0_decode 138 = .ok (.iconst 0, 1) := by decide +kernel
theorem dX0_decode_139 : decode cX0_decode 139 = .ok (.ireturn, 1) := by decide +kernel
theorem dX0_decode_140 : decode cX0_decode 140 = .ok (.iinc 8 1, 3) := by decide +kernel
theorem dX0_decode_143 : decode cX0_decode 143 = .ok (.goto (-22), 3) := by decide +kernel
theorem dX0_decode_146 : decode cX0_decode 146 = .ok (.iload 6, 2) := by decide +kernel
theorem dX0_decode_148 : decode cX0_decode 148 = .ok (.ifCond .ne 7, 3) := by decide +kernel
theorem dX0_decode_151 : decode cX0_decode 151 = .ok (.iconst 1, 1) := by decide +kernel
theorem dX0_decode_152 : decode cX0_decode 152 = .ok (.goto 4, 3) := by decide +kernel
theorem dX0_decode_155 : decode cX0_decode 155 = .ok (.iconst 0, 1) := by decide +kernel
theorem dX0_decode_156 : decode cX0_decode 156 = .ok (.ireturn, 1) := by decide +kernel
theorem dX0_endsLike_0 : decode cX0_endsLike 0 = .ok (.iload_n 2, 1) := by decide +kernel
theorem dX0_endsLike_1 : decode cX0_endsLike 1 = .ok (.aload_n 0, 1) := by decide +kernel
theorem dX0_endsLike_2 : decode cX0_endsLike 2 = .ok (.getfield 9, 3) := by decide +kernel
theorem dX0_endsLike_5 : decode cX0_endsLike 5 = .ok (.if_icmp .gt 11, 3) := by decide +kernel
theorem dX0_endsLike_8 : decode cX0_endsLike 8 = .ok (.iload_n 2, 1) := by decide +kernel
theorem dX0_endsLike_9 : decode cX0_endsLike 9 = .ok (.aload_n 1, 1) := by decide +kernel
theorem dX0_endsLike_10 : decode cX0_endsLike 10 = .ok (.getfield 9, 3) := by decide +kernel
theorem dX0_endsLike_13 : decode cX0_endsLike 13 = .ok (.if_icmp .le 5, 3) := by decide +kernel
theorem dX0_endsLike_16 : decode cX0_endsLike 16 = .ok (.iconst 0, 1) := by decide +kernel
theorem dX0_endsLike_17 : decode cX0_endsLike 17 = .ok (.ireturn, 1) := by decide +kernel
theorem dX0_endsLike_18 : decode cX0_endsLike 18 = .ok (.iconst 1, 1) := by decide +kernel
theorem dX0_endsLike_19 : decode cX0_endsLike 19 = .ok (.istore_n 3, 1) := by decide +kernel
theorem dX0_endsLike_20 : decode cX0_endsLike 20 = .ok (.iload_n 3, 1) := by decide +kernel
theorem dX0_endsLike_21 : decode cX0_endsLike 21 = .ok (.iload_n 2, 1) := by decide +kernel
theorem dX0_endsLike_22 : decode cX0_endsLike 22 = .ok (.if_icmp .gt 36, 3) := by decide +kernel
theorem dX0_endsLike_25 : decode cX0_endsLike 25 = .ok (.aload_n 0, 1) := by decide +kernel
theorem dX0_endsLike_26 : decode cX0_endsLike 26 = .ok (.getfield 19, 3) := by decide +kernel
theorem dX0_endsLike_29 : decode cX0_endsLike 29 = .ok (.aload_n 0, 1) := by decide +kernel
theorem dX0_endsLike_30 : decode cX0_endsLike 30 = .ok (.getfield 9, 3) := by decide +kernel
theorem dX0_endsLike_33 : decode cX0_endsLike 33 = .ok (.iload_n 3, 1) := by decide +kernel
theorem dX0_endsLike_34 : decode cX0_endsLike 34 = .ok (.isub, 1) := by decide +kernel
theorem dX0_endsLike_35 : decode cX0_endsLike 35 = .ok (.iaload, 1) := by decide +kernel
theorem dX0_endsLike_36 : decode cX0_endsLike 36 = .ok (.aload_n 1, 1) := by decide +kernel
theorem dX0_endsLike_37 : decode cX0_endsLike 37 = .ok (.getfield 19, 3) := by decide +kernel
theorem dX0_endsLike_40 : decode cX0_endsLike 40 = .ok (.aload_n 1, 1) := by decide +kernel
theorem dX0_endsLike_41 : decode cX0_endsLike 41 = .ok (.getfield 9, 3) := by decide +kernel
theorem dX0_endsLike_44 : decode cX0_endsLike 44 = .ok (.iload_n 3, 1) := by decide +kernel
theorem dX0_endsLike_45 : decode cX0_endsLike 45 = .ok (.isub, 1) := by decide +kernel
theorem dX0_endsLike_46 : decode cX0_endsLike 46 = .ok (.iaload, 1) := by decide +kernel
theorem dX0_endsLike_47 : decode cX0_endsLike 47 = .ok (.if_icmp .eq 5, 3) := by decide +kernel
theorem dX0_endsLike_50 : decode cX0_endsLike 50 = .ok (.iconst 0, 1) := by decide +kernel
theorem dX0_endsLike_51 : decode cX0_endsLike 51 = .ok (.ireturn, 1) := by decide +kernel
theorem dX0_endsLike_52 : decode cX0_endsLike 52 = .ok (.iinc 3 1, 3) := by decide +kernel
theorem dX0_endsLike_55 : decode cX0_endsLike 55 = .ok (.goto (-35), 3) := by decide +kernel
theorem dX0_endsLike_58 : decode cX0_endsLike 58 = .ok (.iconst 1, 1) := by decide +kernel
theorem dX0_endsLike_59 : decode cX0_endsLike 59 = .ok (.ireturn, 1) := by decide +kernel
theorem dX0_isUnder_0 : decode cX0_isUnder 0 = .ok (.aload_n 0, 1) := by decide +kernel
theorem dX0_isUnder_1 : decode cX0_isUnder 1 = .ok (.getfield 15, 3) := by decide +kernel
theorem dX0_isUnder_4 : decode cX0_isUnder 4 = .ok (.ifCond .ne 33, 3) := by decide +kernel
theorem dX0_isUnder_7 : decode cX0_isUnder 7 = .ok (.aload_n 1, 1) := by decide +kernel
theorem dX0_isUnder_8 : decode cX0_isUnder 8 = .ok (.getfield 15, 3) := by decide +kernel
theorem dX0_isUnder_11 : decode cX0_isUnder 11 = .ok (.ifCond .ne 26, 3) := by decide +kernel
theorem dX0_isUnder_14 : decode cX0_isUnder 14 = .ok (.aload_n 0, 1) := by decide +kernel
theorem dX0_isUnder_15 : decode cX0_isUnder 15 = .ok (.getfield 9, 3) := by decide +kernel
theorem dX0_isUnder_18 : decode cX0_isUnder 18 = .ok (.aload_n 1, 1) := by decide +kernel
theorem dX0_isUnder_19 : decode cX0_isUnder 19 = .ok (.getfield 9, 3) := by decide +kernel
theorem dX0_isUnder_22 : decode cX0_isUnder 22 = .ok (.if_icmp .lt 15, 3) := by decide +kernel
theorem dX0_isUnder_25 : decode cX0_isUnder 25 = .ok (.aload_n 0, 1) := by decide +kernel
theorem dX0_isUnder_26 : decode cX0_isUnder 26 = .ok (.aload_n 1, 1) := by decide +kernel
theorem dX0_isUnder_27 : decode cX0_isUnder 27 = .ok (.aload_n 1, 1) := by decide +kernel
theorem dX0_isUnder_28 : decode cX0_isUnder 28 = .ok (.getfield 9, 3) := by decide +kernel
theorem dX0_isUnder_31 : decode cX0_isUnder 31 = .ok (.invokevirtual 77, 3) := by decide +kernel
theorem dX0_isUnder_34 : decode cX0_isUnder 34 = .ok (.ifCond .ne 5, 3) := by decide +kernel
theorem dX0_isUnder_37 : decode cX0_isUnder 37 = .ok (.iconst 0, 1) := by decide +kernel
theorem dX0_isUnder_38 : decode cX0_isUnder 38 = .ok (.ireturn, 1) := by decide +kernel
theorem dX0_isUnder_39 : decode cX0_isUnder 39 = .ok (.aload_n 0, 1) := by decide +kernel
theorem dX0_isUnder_40 : decode cX0_isUnder 40 = .ok (.getfield 9, 3) := by decide +kernel
theorem dX0_isUnder_43 : decode cX0_isUnder 43 = .ok (.aload_n 1, 1) := by decide +kernel
theorem dX0_isUnder_44 : decode cX0_isUnder 44 = .ok (.getfield 9, 3) := by decide +kernel
theorem dX0_isUnder_47 : decode cX0_isUnder 47 = .ok (.if_icmp .eq 24, 3) := by decide +kernel
theorem dX0_isUnder_50 : decode cX0_isUnder 50 = .ok (.aload_n 0, 1) := by decide +kernel
theorem dX0_isUnder_51 : decode cX0_isUnder 51 = .ok (.getfield 19, 3) := by decide +kernel
theorem dX0_isUnder_54 : decode cX0_isUnder 54 = .ok (.aload_n 0, 1) := by decide +kernel
theorem dX0_isUnder_55 : decode cX0_isUnder 55 = .ok (.getfield 9, 3) := by decide +kernel
theorem dX0_isUnder_58 : decode cX0_isUnder 58 = .ok (.aload_n 1, 1) := by decide +kernel
theorem dX0_isUnder_59 : decode cX0_isUnder 59 = .ok (.getfield 9, 3) := by decide +kernel
theorem dX0_isUnder_62 : decode cX0_isUnder 62 = .ok (.isub, 1) := by decide +kernel
theorem dX0_isUnder_63 : decode cX0_isUnder 63 = .ok (.iconst 1, 1) := by decide +kernel
theorem dX0_isUnder_64 : decode cX0_isUnder 64 = .ok (.isub, 1) := by decide +kernel
theorem dX0_isUnder_65 : decode cX0_isUnder 65 = .ok (.iaload, 1) := by decide +kernel
theorem dX0_isUnder_66 : decode cX0_isUnder 66 = .ok (.bipush 46, 2) := by decide +kernel
theorem dX0_isUnder_68 : decode cX0_isUnder 68 = .ok (.if_icmp .ne 7, 3) := by decide +kernel
theorem dX0_isUnder_71 : decode cX0_isUnder 71 = .ok (.iconst 1, 1) := by decide +kernel
theorem dX0_isUnder_72 : decode cX0_isUnder 72 = .ok (.goto 4, 3) := by decide +kernel
theorem dX0_isUnder_75 : decode cX0_isUnder 75 = .ok (.iconst 0, 1) := by decide +kernel
theorem dX0_isUnder_76 : decode cX0_isUnder 76 = .ok (.ireturn, 1) := by decide +kernel
theorem dX0_same_0 : decode cX0_same 0 = .ok (.aload_n 0, 1) := by decide +kernel
theorem dX0_same_1 : decode cX0_same 1 = .ok (.getfield 9, 3) := by decide +kernel
theorem dX0_same_4 : decode cX0_same 4 = .ok (.aload_n 1, 1) := by decide +kernel
theorem dX0_same_5 : decode cX0_same 5 = .ok (.getfield 9, 3) := by decide +kernel
theorem dX0_same_8 : decode cX0_same 8 = .ok (.if_icmp .ne 17, 3) := by decide +kernel
theorem dX0_same_11 : decode cX0_same 11 = .ok (.aload_n 0, 1) := by decide +kernel
theorem dX0_same_12 : decode cX0_same 12 = .ok (.getfield 15, 3) := by decide +kernel
theorem dX0_same_15 : decode cX0_same 15 = .ok (.ifCond .ne 10, 3) := by decide +kernel
theorem dX0_same_18 : decode cX0_same 18 = .ok (.aload_n 1, 1) := by decide +kernel
theorem dX0_same_19 : decode cX0_same 19 = .ok (.getfield 15, 3) := by decide +kernel
theorem dX0_same_22 : decode cX0_same 22 = .ok (.ifCond .eq 5, 3) := by decide +kernel
theorem dX0_same_25 : decode cX0_same 25 = .ok (.iconst 0, 1) := by decide +kernel
theorem dX0_same_26 : decode cX0_same 26 = .ok (.ireturn, 1) := by decide +kernel
theorem dX0_same_27 : decode cX0_same 27 = .ok (.iconst 0, 1) := by decide +kernel
theorem dX0_same_28 : decode cX0_same 28 = .ok (.istore_n 2, 1) := by decide +kernel
theorem dX0_same_29 : decode cX0_same 29 = .ok (.iload_n 2, 1) := by decide +kernel
theorem dX0_same_30 : decode cX0_same 30 = .ok (.aload_n 0, 1) := by decide +kernel
theorem dX0_same_31 : decode cX0_same 31 = .ok (.getfield 9, 3) := by decide +kernel
theorem dX0_same_34 : decode cX0_same 34 = .ok (.if_icmp .ge 26, 3) := by decide +kernel
theorem dX0_same_37 : decode cX0_same 37 = .ok (.aload_n 0, 1) := by decide +kernel
theorem dX0_same_38 : decode cX0_same 38 = .ok (.getfield 19, 3) := by decide +kernel
theorem dX0_same_41 : decode cX0_same 41 = .ok (.iload_n 2, 1) := by decide +kernel
theorem dX0_same_42 : decode cX0_same 42 = .ok (.iaload, 1) := by decide +kernel
theorem dX0_same_43 : decode cX0_same 43 = .ok (.aload_n 1, 1) := by decide +kernel
theorem dX0_same_44 : decode cX0_same 44 = .ok (.getfield 19, 3) := by decide +kernel
theorem dX0_same_47 : decode cX0_same 47 = .ok (.iload_n 2, 1) := by decide +kernel
theorem dX0_same_48 : decode cX0_same 48 = .ok (.iaload, 1) := by decide +kernel
theorem dX0_same_49 : decode cX0_same 49 = .ok (.if_icmp .eq 5, 3) := by decide +kernel
theorem dX0_same_52 : decode cX0_same 52 = .ok (.iconst 0, 1) := by decide +kernel
theorem dX0_same_53 : decode cX0_same 53 = .ok (.ireturn, 1) := by decide +kernel
theorem dX0_same_54 : decode cX0_same 54 = .ok (.iinc 2 1, 3) := by decide +kernel
theorem dX0_same_57 : decode cX0_same 57 = .ok (.goto (-28), 3) := by decide +kernel
theorem dX0_same_60 : decode cX0_same 60 = .ok (.iconst 1, 1) := by decide +kernel
theorem dX0_same_61 : decode cX0_same 61 = .ok (.ireturn, 1) := by decide +kernel
theorem kt_25 : Cond.methodLink RX0 54 Lib.Math.min.name ∈ tb := tb_at (i := 545) (by decide +kernel) (by decide +kernel)
theorem kt_26 : Cond.static Lib.Math.min.name ∈ tb := tb_at (i := 546) (by decide +kernel) (by decide +kernel)
theorem kt_27 : Cond.code Lib.Math.min.name Lib.Math.min.code 2 (some .int) ∈ tb := tb_at (i := 547) (by decide +kernel) (by decide +kernel)
theorem kt_28 : Cond.methodLink RX0 57 arraycopyName ∈ tb := tb_at (i := 548) (by decide +kernel) (by decide +kernel)
theorem kt_29 : Cond.native arraycopyName ∈ tb := tb_at (i := 550) (by decide +kernel) (by decide +kernel)
theorem kt_30 : Cond.static arraycopyName ∈ tb := tb_at (i := 549) (by decide +kernel) (by decide +kernel)
theorem kt_31 : Cond.initialized "java/lang/System" ∈ tb := tb_at (i := 98) (by decide +kernel) (by decide +kernel)
theorem kt_32 : Cond.code yX0_clear cX0_clear 1 none ∈ tb := tb_at (i := 540) (by decide +kernel) (by decide +kernel)
theorem kt_33 : Cond.methodLink RX0 63 yX0_clear ∈ tb := tb_at (i := 580) (by decide +kernel) (by decide +kernel)
theorem kt_34 : Cond.instanceMethod yX0_clear ∈ tb := tb_at (i := 538) (by decide +kernel) (by decide +kernel)
theorem kt_35 : Cond.selects RX0 yX0_clear yX0_clear ∈ tb := tb_at (i := 539) (by decide +kernel) (by decide +kernel)
theorem kt_36 : Cond.code yX0_addRange cX0_addRange 7 none ∈ tb := tb_at (i := 544) (by decide +kernel) (by decide +kernel)
theorem kt_37 : Cond.methodLink RX0 66 yX0_addRange ∈ tb := tb_at (i := 581) (by decide +kernel) (by decide +kernel)
theorem kt_38 : Cond.instanceMethod yX0_addRange ∈ tb := tb_at (i := 542) (by decide +kernel) (by decide +kernel)
theorem kt_39 : Cond.selects RX0 yX0_addRange yX0_addRange ∈ tb := tb_at (i := 543) (by decide +kernel) (by decide +kernel)
theorem kt_40 : Cond.code yX0_endsLike cX0_endsLike 4 (some .boolean) ∈ tb := tb_at (i := 1109) (by decide +kernel) (by decide +kernel)
theorem kt_41 : Cond.methodLink RX0 77 yX0_endsLike ∈ tb := tb_at (i := 1106) (by decide +kernel) (by decide +kernel)
theorem kt_42 : Cond.instanceMethod yX0_endsLike ∈ tb := tb_at (i := 1107) (by decide +kernel) (by decide +kernel)
theorem kt_43 : Cond.selects RX0 yX0_endsLike yX0_endsLike ∈ tb := tb_at (i := 1108) (by decide +kernel) (by decide +kernel)
theorem kt_44 : Cond.code yX0_sixOf cX0_sixOf 1 (some .int) ∈ tb := tb_at (i := 907) (by decide +kernel) (by decide +kernel)
theorem kt_45 : Cond.methodLink RX0 81 yX0_sixOf ∈ tb := tb_at (i := 905) (by decide +kernel) (by decide +kernel)
theorem kt_46 : Cond.static yX0_sixOf ∈ tb := tb_at (i := 906) (by decide +kernel) (by decide +kernel)
theorem minN (a b : Nat) (ha : a < 2 ^ 31) (hb : b < 2 ^ 31) : (if nI b < nI a then nI b else nI a) = nI (min a b) := by
  split
  · rename_i h
    rw [nI_ltI hb ha] at h
    rw [Nat.min_eq_right (by omega)]
  · rename_i h
    rw [nI_ltI hb ha] at h
    rw [Nat.min_eq_left (by omega)]
theorem fitN {a mn d : Nat} {y x : Int32} (ha : a < 2 ^ 31) (hm : mn ≤ 10000) (hd : d ≤ 10000) (ey : y = nI mn - nI a) (ex : x = (if nI d < y then nI d else y)) (c : ¬ x ≤ 0) : ∃ k : Nat, x = nI k ∧ 0 < k ∧ a + k ≤ mn ∧ k ≤ d := by
  rcases Nat.lt_or_ge mn a with q | q
  · exfalso
    have h1 : y.toInt = (mn : Int) - a := by
      rw [ey, Int32.toInt_sub, nI_toInt (by omega), nI_toInt ha]
      exact Int.bmod_eq_of_le (by omega) (by omega)
    have h0 : (0 : Int32).toInt = 0 := by decide
    have hd2 : (nI d).toInt = d := nI_toInt (by omega)
    apply c
    rw [ex]
    split
    · rename_i h
      rw [Int32.lt_iff_toInt_lt] at h
      omega
    · rw [Int32.le_iff_toInt_le]
      omega
  · rw [pk_sub q] at ey
    rw [ey] at ex
    have := minN (mn - a) d (by omega) (by omega)
    rw [this] at ex
    refine ⟨min (mn - a) d, ex, ?_, by omega, by omega⟩
    rcases Nat.eq_zero_or_pos (min (mn - a) d) with z | z
    · exfalso
      apply c
      rw [ex, z]
      decide
    · exact z
section
variable {p : Program} {l : Launch} {e : Env} {R : Room} {s : State} {m : MethodId} {args : Array Value} {below : List Frame} {meth : Method} {c : Code} {H H0 : Heap} {locs : List Loc} {cells slots : Nat} {Q : State → Prop}
variable {cc : ByteArray} {pc : Nat} {ls : Array Slot} {rest : List Value} {A : Nat → Prop} {D : va_G} {tys : List (ClassId × FieldType)} {L : List Nat} {F : Nat → va_E} {a a0 : Nat}
theorem pg_copyi (hexec : p.tables.exec = Jvm.exec) (hb : c.code = cc) (hml : c.maxLocals = ls.size) {own : String} {index : Nat} (hown : s.vm.findClass own = some m.cls) (hlink : (Cond.methodLink own index arraycopyName).before args s = true) (hnat : (Cond.native arraycopyName).before args s = true) (hstat : (Cond.static arraycopyName).before args s = true) (hini : (Cond.initialized "java/lang/System").before args s = true) (hK : va_K D vwCl tys s) (hP : va_P D vwCl (va_pl L F) H) (hD : va_D A (va_pl L F)) (hS : va_S A H0 H locs) (ha0 : a0 ∈ L) (ha1 : a ∈ L) (t0 t1 : Nat) {c0 c1 : ClassId} {n0 n1 : Nat} {f g : Nat → Int32} {ty : FieldType} (he0 : F a0 = .inl (c0, n0, .inl f)) (he1 : F a = .inl (c1, n1, .inl g)) (ht0 : tys[t0]? = some (c0, ty)) (ht1 : tys[t1]? = some (c1, ty)) (hprim : refKind ty = false) {sp dp n : Int32} (h1 : ¬ sp < 0) (h2 : ¬ dp < 0) (h3 : ¬ n < 0) (h4 : sp.toNatClampNeg + n.toNatClampNeg ≤ n0) (h5 : dp.toNatClampNeg + n.toNatClampNeg ≤ n1) (hfit : ∀ i, i < n.toNatClampNeg → fits ty (.int (f (sp.toNatClampNeg + i))) = true) (hframes : 1 ≤ R.frames) (hlocals : (rest.map fun v => v.category).sum + (nativeFrameWords "java/lang/System" "arraycopy" 5 + 11) ≤ R.locals) (hdg : decode cc pc = .ok (.invokestatic index, 3)) (kk : ∀ (H1 : Heap) (locs1 : List Loc), va_P D vwCl (va_pl L (va_up F a (.inl (c1, n1, .inl (va_cpy f g sp.toNatClampNeg dp.toNatClampNeg n.toNatClampNeg))))) H1 → va_D A (va_pl L (va_up F a (.inl (c1, n1, .inl (va_cpy f g sp.toNatClampNeg dp.toNatClampNeg n.toNatClampNeg))))) → va_S A H0 H1 locs1 → W p l e R s m args below meth c H1 locs1 cells slots Q (F0 m (pc + 3) ls rest)) : W p l e R s m args below meth c H locs cells slots Q (F0 m pc ls (.int n :: .int dp :: .ref a :: .int sp :: .ref a0 :: rest)) := by
  obtain ⟨q0, hq0⟩ := pg_at (F := F) ha0
  obtain ⟨q1, hq1⟩ := pg_at (F := F) ha1
  have e1 := pg_set (x := .inl (c1, n1, .inl (va_cpy f g sp.toNatClampNeg dp.toNatClampNeg n.toNatClampNeg))) hD ha1 hq1
  exact va_copyi hexec hb hml hown hlink hnat hstat hini hK hP hD hS q0 q1 t0 t1 (by rw [← he0]; exact hq0) (by rw [← he1]; exact hq1) ht0 ht1 hprim h1 h2 h3 h4 h5 hfit hframes hlocals hdg (fun H1 locs1 w1 w2 w3 => kk H1 locs1 (e1 ▸ w1) (e1 ▸ w2) w3)
end
set_option maxHeartbeats 4000000 in
set_option maxRecDepth 100000 in
theorem s_X0_addRange (l : Launch) (dC : Nat → ClassId) (dI : Nat → Nat → Nat) (cs : Nat → ClassId) (ty : TyM) (L : List Nat) (sz : Nat) (F : Nat → va_E) (h0 : Nat) (ρ : Nat) (r0 : Nat) (n : Nat) (g1 : Nat) (σ : Nat) (r1 : Nat) (n1 : Nat) (x2 : Int32) (x3 : Int32) (hW : WT ty L) (hL_h0 : h0 ∈ L) (hT_h0 : ty h0 = (0, ρ, [r0, n])) (hL_g1 : g1 ∈ L) (hT_g1 : ty g1 = (0, σ, [r1, n1])) (hend : ¬ x3 < 0) : Met l yX0_addRange (.code yX0_addRange cX0_addRange 7 none :: tb) ({ frames := 1, cells := 0, slots := 0, locals := 48 }) (va_Pc [.ref h0, .ref g1, .int x2, .int x3] (PT (dC, dI) cs ty L F sz)) (va_Qv (fun _ : Unit => True) (fun _ T9 => ∃ F2 : Nat → va_E, QT (dC, dI) cs ty L [ρ] F F2 (va_A (va_pl L F) sz) T9) (va_A (va_pl L F) sz)) 0 0 (va_A (va_pl L F) sz) := by
  refine Met.ofW (cc := cX0_addRange) (maxL := 7) (ret := none) (by decide) rfl ?_
  intro p e s m args below meth c s₁ B hml hv
  obtain ⟨rfl, hsz, hP, hK, hD0, hE, hO⟩ := hv
  have hx := B.exec
  have hb := B.bytes
  have hr := B.returns
  have hts : ∀ w ∈ tb, w.before _ s = true := fun w h => atoms_spec (ws := .code yX0_addRange cX0_addRange 7 none :: tb) B.pre w (List.mem_cons_of_mem _ h)
  have hown : s.vm.findClass RX0 = some m.cls := findClass_of_methodNamed B.named
  have hlocks := B.notSynchronized
  subst hsz
  have hD := hD0.self (sz := s.heap.size)
  generalize hAe : va_A (va_pl L F) s.heap.size = A at hD ⊢
  have hA : ∀ q : Nat, s.heap.size ≤ q → A q := fun q h => by rw [← hAe]; exact Or.inr h
  have hS : va_S A s.heap s.heap [] := va_S.rf
  have hR : FR ty [ρ] F F := FR.refl
  have hl := lv_entry ([.ref h0, .ref g1, .int x2, .int x3]) (n := 7) (Nat.le_of_ble_eq_true rfl)
  rw [lg_entry_eq]
  generalize (lg_sl ([.ref h0, .ref g1, .int x2, .int x3]) ++ List.replicate (7 - (lg_sl ([.ref h0, .ref g1, .int x2, .int x3])).length) Slot.unset).toArray = ls at hl ⊢
  have hl : lv_has ls 7 [(0, .ref h0), (1, .ref g1), (2, .int x2), (3, .int x3)] := hl
  refine lv_iconst (v := 0) hx hb dX0_addRange_0 (by decide) ?_
  refine lv_iload_n hx hb dX0_addRange_1 rfl (lv_at hl 2 rfl) ?_
  refine va_mmax hx hb (by rw [hml]; exact hl.1.symm) hown (hts _ kt_17) (hts _ kt_18) (hts _ kt_19) (hts _ kt_20) (Nat.le_of_ble_eq_true rfl) (Nat.le_of_ble_eq_true rfl) (by show _ ≤ 0; omega) (by show _ ≤ 0; omega) dX0_addRange_2 ?_
  obtain ⟨a_1, ha_1, ea_1⟩ := max0 x2
  refine lv_topi (fun x_2 ex_2 => ?_)
  obtain rfl : x_2 = nI a_1 := ex_2.trans ea_1
  refine lv_istore (lv' := [(4, .int (nI a_1)), (0, .ref h0), (1, .ref g1), (2, .int x2), (3, .int x3)]) hx hb dX0_addRange_5 hl (by decide) rfl (fun ls hl => ?_)
  obtain ⟨e3, he3, rfl⟩ := nI_of hend
  refine lv_iload_n hx hb dX0_addRange_7 rfl (lv_at hl 4 rfl) ?_
  refine lv_aload_n hx hb dX0_addRange_8 rfl (lv_at hl 2 rfl) ?_
  obtain ⟨hi_3, ht_4, hq_5⟩ := hW.bytes hL_g1 hT_g1
  obtain ⟨z_6, o_7, hF_8, hq_9, hq_10⟩ := hO.bytes hL_g1 hT_g1
  refine pg_get (ci := 0) (v := .int (nI z_6)) (C := RX0) (T := TX0) (N := 3) hx hb hts it_0 hown hK hP hL_g1 hF_8 rfl 1 (by decide) (hts _ kt_10) (fun _ h9 => h9) rfl dX0_addRange_9 ?_
  refine va_mmin hx hb (by rw [hml]; exact hl.1.symm) hown (hts _ kt_25) (hts _ kt_26) (hts _ kt_19) (hts _ kt_27) (Nat.le_of_ble_eq_true rfl) (Nat.le_of_ble_eq_true rfl) (by show _ ≤ 0; omega) (by show _ ≤ 0; omega) dX0_addRange_12 ?_
  refine lv_topi (fun x_11 ex_11 => ?_)
  obtain rfl : x_11 = (nI (min e3 z_6)) := ex_11.trans (minN e3 z_6 he3 (by omega))
  refine lv_iload hx hb dX0_addRange_15 (lv_at hl 0 rfl) ?_
  refine lv_isub hx hb dX0_addRange_17 ?_
  refine lv_topi (fun x_12 ex_12 => ?_)
  refine lv_istore (lv' := [(5, .int x_12), (4, .int (nI a_1)), (0, .ref h0), (1, .ref g1), (2, .int x2), (3, .int (nI e3))]) hx hb dX0_addRange_18 hl (by decide) rfl (fun ls hl => ?_)
  refine lv_iload hx hb dX0_addRange_20 (lv_at hl 0 rfl) ?_
  refine lv_aload_n hx hb dX0_addRange_22 rfl (lv_at hl 2 rfl) ?_
  obtain ⟨hi_13, ht_14, hq_15⟩ := hW.bytes hL_h0 hT_h0
  obtain ⟨z_16, o_17, hF_18, hq_19, hq_20⟩ := hO.bytes hL_h0 hT_h0
  refine pg_get (ci := 0) (v := .ref r0) (C := RX0) (T := TX0) (N := 3) hx hb hts it_0 hown hK hP hL_h0 hF_18 rfl 0 (by decide) (hts _ kt_12) (fun _ h9 => h9) rfl dX0_addRange_23 ?_
  obtain ⟨f_21, hF_22⟩ := hO.ints hi_13 ht_14
  refine pg_alen (v := (nI n)) hx hb hK hP hi_13 0 hF_22 rfl rfl dX0_addRange_26 ?_
  refine lv_aload_n hx hb dX0_addRange_27 rfl (lv_at hl 2 rfl) ?_
  refine pg_get (ci := 0) (v := .int (nI z_16)) (C := RX0) (T := TX0) (N := 3) hx hb hts it_0 hown hK hP hL_h0 hF_18 rfl 1 (by decide) (hts _ kt_10) (fun _ h9 => h9) rfl dX0_addRange_28 ?_
  refine lv_isub hx hb dX0_addRange_31 ?_
  refine lv_topi (fun x_23 ex_23 => ?_)
  obtain rfl : x_23 = (nI (n - z_16)) := ex_23.trans (pk_sub (by omega))
  refine va_mmin hx hb (by rw [hml]; exact hl.1.symm) hown (hts _ kt_25) (hts _ kt_26) (hts _ kt_19) (hts _ kt_27) (Nat.le_of_ble_eq_true rfl) (Nat.le_of_ble_eq_true rfl) (by show _ ≤ 0; omega) (by show _ ≤ 0; omega) dX0_addRange_32 ?_
  refine lv_topi (fun x_24 ex_24 => ?_)
  refine lv_istore (lv' := [(6, .int x_24), (5, .int x_12), (4, .int (nI a_1)), (0, .ref h0), (1, .ref g1), (2, .int x2), (3, .int (nI e3))]) hx hb dX0_addRange_35 hl (by decide) rfl (fun ls hl => ?_)
  refine lv_iload hx hb dX0_addRange_37 (lv_at hl 0 rfl) ?_
  refine lv_if_le (tgt := 72) hx hb dX0_addRange_39 (by decide) (fun c_25 => ?_) (fun c_25 => ?_)
  ·
    refine lv_aload_n hx hb dX0_addRange_72 rfl (lv_at hl 3 rfl) ?_
    refine lv_aload_n hx hb dX0_addRange_73 rfl (lv_at hl 3 rfl) ?_
    refine pg_get (ci := 0) (v := .int o_17) (C := RX0) (T := TX0) (N := 3) hx hb hts it_0 hown hK hP hL_h0 hF_18 rfl 2 (by decide) (hts _ kt_11) (fun _ h9 => h9) rfl dX0_addRange_74 ?_
    refine lv_if_ne (tgt := 87) hx hb dX0_addRange_77 (by decide) (fun c_26 => ?_) (fun c_26 => ?_)
    ·
      refine lv_iconst (v := 1) hx hb dX0_addRange_87 (by decide) ?_
      refine lv_goto (tgt := 92) hx hb dX0_addRange_88 (by decide) ?_
      refine pg_put (ci := 0) (v := .int 1) (ty := .boolean) (C := RX0) (T := TX0) (N := 3) hx hb hts it_0 tyX0 tyX0_ok nmX0 hown hK hP hD hS hL_h0 hF_18 rfl 2 (by decide) (hts _ kt_11) (fun _ h9 => h9) rfl (by decide +kernel) (rfl) (rfl) (Nat.le_of_ble_eq_true rfl) dX0_addRange_92 (fun H locs hP hD hS => ?_)
      obtain ⟨F_27, he_28, hP, hD, hO, hR⟩ : ∃ G, G = va_up F h0 (.inr (0, [.ref r0, .int (nI z_16), .int 1])) ∧ va_P (dC, dI) vwCl (va_pl L G) H ∧ va_D A (va_pl L G) ∧ OK cs ty L G ∧ FR ty [ρ] F G := ⟨_, rfl, hP, hD, hO.up (sh.bytes hT_h0 ⟨z_16, 1, rfl, (by first | omega | assumption | exact Or.inl rfl | exact Or.inr rfl), (by first | omega | assumption | exact Or.inl rfl | exact Or.inr rfl)⟩), hR.up hT_h0 (by simp)⟩
      have hF_29 : F_27 h0 = .inr (0, [.ref r0, .int (nI z_16), .int 1]) := by rw [he_28]; exact up_self
      have hF_30 : F_27 r0 = .inl (cs 16, n, .inl f_21) := by rw [he_28, up_ne (ne_ty ht_14 hT_h0 (by simp))]; exact hF_22
      refine W.widen (k := 0) (n := 0) (by omega) (by omega) ?_
      exact W.vret hx hb hr (fun t ht hWm => ⟨⟨(), rfl, trivial, ⟨F_27, QT.mk ht hP hD hO hR⟩⟩, hS.F ht⟩) hS.2.2 dX0_addRange_95
    ·
      refine lv_iload hx hb dX0_addRange_80 (lv_at hl 0 rfl) ?_
      refine lv_iload hx hb dX0_addRange_82 (lv_at hl 1 rfl) ?_
      refine lv_icmp_ge (tgt := 91) hx hb dX0_addRange_84 (by decide) (fun c_31 => ?_) (fun c_31 => ?_)
      ·
        refine lv_iconst (v := 0) hx hb dX0_addRange_91 (by decide) ?_
        refine pg_put (ci := 0) (v := .int 0) (ty := .boolean) (C := RX0) (T := TX0) (N := 3) hx hb hts it_0 tyX0 tyX0_ok nmX0 hown hK hP hD hS hL_h0 hF_18 rfl 2 (by decide) (hts _ kt_11) (fun _ h9 => h9) rfl (by decide +kernel) (rfl) (rfl) (Nat.le_of_ble_eq_true rfl) dX0_addRange_92 (fun H locs hP hD hS => ?_)
        obtain ⟨F_32, he_33, hP, hD, hO, hR⟩ : ∃ G, G = va_up F h0 (.inr (0, [.ref r0, .int (nI z_16), .int 0])) ∧ va_P (dC, dI) vwCl (va_pl L G) H ∧ va_D A (va_pl L G) ∧ OK cs ty L G ∧ FR ty [ρ] F G := ⟨_, rfl, hP, hD, hO.up (sh.bytes hT_h0 ⟨z_16, 0, rfl, (by first | omega | assumption | exact Or.inl rfl | exact Or.inr rfl), (by first | omega | assumption | exact Or.inl rfl | exact Or.inr rfl)⟩), hR.up hT_h0 (by simp)⟩
        have hF_34 : F_32 h0 = .inr (0, [.ref r0, .int (nI z_16), .int 0]) := by rw [he_33]; exact up_self
        have hF_35 : F_32 r0 = .inl (cs 16, n, .inl f_21) := by rw [he_33, up_ne (ne_ty ht_14 hT_h0 (by simp))]; exact hF_22
        refine W.widen (k := 0) (n := 0) (by omega) (by omega) ?_
        exact W.vret hx hb hr (fun t ht hWm => ⟨⟨(), rfl, trivial, ⟨F_32, QT.mk ht hP hD hO hR⟩⟩, hS.F ht⟩) hS.2.2 dX0_addRange_95
      ·
        refine lv_iconst (v := 1) hx hb dX0_addRange_87 (by decide) ?_
        refine lv_goto (tgt := 92) hx hb dX0_addRange_88 (by decide) ?_
        refine pg_put (ci := 0) (v := .int 1) (ty := .boolean) (C := RX0) (T := TX0) (N := 3) hx hb hts it_0 tyX0 tyX0_ok nmX0 hown hK hP hD hS hL_h0 hF_18 rfl 2 (by decide) (hts _ kt_11) (fun _ h9 => h9) rfl (by decide +kernel) (rfl) (rfl) (Nat.le_of_ble_eq_true rfl) dX0_addRange_92 (fun H locs hP hD hS => ?_)
        obtain ⟨F_36, he_37, hP, hD, hO, hR⟩ : ∃ G, G = va_up F h0 (.inr (0, [.ref r0, .int (nI z_16), .int 1])) ∧ va_P (dC, dI) vwCl (va_pl L G) H ∧ va_D A (va_pl L G) ∧ OK cs ty L G ∧ FR ty [ρ] F G := ⟨_, rfl, hP, hD, hO.up (sh.bytes hT_h0 ⟨z_16, 1, rfl, (by first | omega | assumption | exact Or.inl rfl | exact Or.inr rfl), (by first | omega | assumption | exact Or.inl rfl | exact Or.inr rfl)⟩), hR.up hT_h0 (by simp)⟩
        have hF_38 : F_36 h0 = .inr (0, [.ref r0, .int (nI z_16), .int 1]) := by rw [he_37]; exact up_self
        have hF_39 : F_36 r0 = .inl (cs 16, n, .inl f_21) := by rw [he_37, up_ne (ne_ty ht_14 hT_h0 (by simp))]; exact hF_22
        refine W.widen (k := 0) (n := 0) (by omega) (by omega) ?_
        exact W.vret hx hb hr (fun t ht hWm => ⟨⟨(), rfl, trivial, ⟨F_36, QT.mk ht hP hD hO hR⟩⟩, hS.F ht⟩) hS.2.2 dX0_addRange_95
  ·
    have hmn : min e3 z_6 ≤ z_6 := Nat.min_le_right _ _
    obtain ⟨k, hk0, hk1, hk2, hk3⟩ := fitN (a := a_1) (mn := min e3 z_6) (d := n - z_16) (by omega) (by omega) (by omega) ex_12 ex_24 c_25
    subst hk0
    refine lv_aload_n hx hb dX0_addRange_42 rfl (lv_at hl 4 rfl) ?_
    refine pg_get (ci := 0) (v := .ref r1) (C := RX0) (T := TX0) (N := 3) hx hb hts it_0 hown hK hP hL_g1 hF_8 rfl 0 (by decide) (hts _ kt_12) (fun _ h9 => h9) rfl dX0_addRange_43 ?_
    refine lv_iload hx hb dX0_addRange_46 (lv_at hl 2 rfl) ?_
    refine lv_aload_n hx hb dX0_addRange_48 rfl (lv_at hl 3 rfl) ?_
    refine pg_get (ci := 0) (v := .ref r0) (C := RX0) (T := TX0) (N := 3) hx hb hts it_0 hown hK hP hL_h0 hF_18 rfl 0 (by decide) (hts _ kt_12) (fun _ h9 => h9) rfl dX0_addRange_49 ?_
    refine lv_aload_n hx hb dX0_addRange_52 rfl (lv_at hl 3 rfl) ?_
    refine pg_get (ci := 0) (v := .int (nI z_16)) (C := RX0) (T := TX0) (N := 3) hx hb hts it_0 hown hK hP hL_h0 hF_18 rfl 1 (by decide) (hts _ kt_10) (fun _ h9 => h9) rfl dX0_addRange_53 ?_
    refine lv_iload hx hb dX0_addRange_56 (lv_at hl 0 rfl) ?_
    obtain ⟨f_40, hF_41⟩ := hO.ints hi_3 ht_4
    refine pg_copyi hx hb (by rw [hml]; exact hl.1.symm) hown (hts _ kt_28) (hts _ kt_29) (hts _ kt_30) (hts _ kt_31) hK hP hD hS hi_3 hi_13 0 0 hF_41 hF_22 rfl rfl rfl (nI_pos (by omega)) (nI_pos (by omega)) (nI_pos (by omega)) (by rw [nI_clamp (by omega), nI_clamp (by omega)]; omega) (by rw [nI_clamp (by omega), nI_clamp (by omega)]; omega) (fun _ _ => rfl) (Nat.le_of_ble_eq_true rfl) (by decide) dX0_addRange_58 (fun H locs hP hD hS => ?_)
    obtain ⟨F_42, he_43, hP, hD, hO, hR⟩ : ∃ G, G = va_up F r0 (.inl (cs 16, n, .inl (va_cpy f_40 f_21 ((nI a_1)).toNatClampNeg ((nI z_16)).toNatClampNeg ((nI k)).toNatClampNeg))) ∧ va_P (dC, dI) vwCl (va_pl L G) H ∧ va_D A (va_pl L G) ∧ OK cs ty L G ∧ FR ty [ρ] F G := ⟨_, rfl, hP, hD, hO.up (sh.ints ht_14 ⟨_, rfl⟩), hR.up ht_14 (by simp)⟩
    have hF_44 : F_42 r0 = .inl (cs 16, n, .inl (va_cpy f_40 f_21 ((nI a_1)).toNatClampNeg ((nI z_16)).toNatClampNeg ((nI k)).toNatClampNeg)) := by rw [he_43]; exact up_self
    have hF_45 : F_42 g1 = .inr (0, [.ref r1, .int (nI z_6), .int o_7]) := by rw [he_43, up_ne (ne_ty hT_g1 ht_14 (by simp))]; exact hF_8
    have hF_46 : F_42 h0 = .inr (0, [.ref r0, .int (nI z_16), .int o_17]) := by rw [he_43, up_ne (ne_ty hT_h0 ht_14 (by simp))]; exact hF_18
    obtain ⟨f_47, hF_44⟩ : ∃ f : Nat → Int32, F_42 r0 = .inl (cs 16, n, .inl f) := ⟨_, hF_44⟩
    refine lv_aload_n hx hb dX0_addRange_61 rfl (lv_at hl 3 rfl) ?_
    refine lv_dup hx hb dX0_addRange_62 rfl ?_
    refine pg_get (ci := 0) (v := .int (nI z_16)) (C := RX0) (T := TX0) (N := 3) hx hb hts it_0 hown hK hP hL_h0 hF_46 rfl 1 (by decide) (hts _ kt_10) (fun _ h9 => h9) rfl dX0_addRange_63 ?_
    refine lv_iload hx hb dX0_addRange_66 (lv_at hl 0 rfl) ?_
    refine lv_iadd hx hb dX0_addRange_68 ?_
    refine lv_topi (fun x_48 ex_48 => ?_)
    obtain rfl : x_48 = (nI (z_16 + k)) := ex_48.trans (nI_add _ _)
    refine pg_put (ci := 0) (v := .int (nI (z_16 + k))) (ty := .int) (C := RX0) (T := TX0) (N := 3) hx hb hts it_0 tyX0 tyX0_ok nmX0 hown hK hP hD hS hL_h0 hF_46 rfl 1 (by decide) (hts _ kt_10) (fun _ h9 => h9) rfl (by decide +kernel) (rfl) (rfl) (Nat.le_of_ble_eq_true rfl) dX0_addRange_69 (fun H locs hP hD hS => ?_)
    obtain ⟨F_49, he_50, hP, hD, hO, hR⟩ : ∃ G, G = va_up F_42 h0 (.inr (0, [.ref r0, .int (nI (z_16 + k)), .int o_17])) ∧ va_P (dC, dI) vwCl (va_pl L G) H ∧ va_D A (va_pl L G) ∧ OK cs ty L G ∧ FR ty [ρ] F G := ⟨_, rfl, hP, hD, hO.up (sh.bytes hT_h0 ⟨(z_16 + k), o_17, rfl, (by first | omega | assumption | exact Or.inl rfl | exact Or.inr rfl), (by first | omega | assumption | exact Or.inl rfl | exact Or.inr rfl)⟩), hR.up hT_h0 (by simp)⟩
    have hF_51 : F_49 h0 = .inr (0, [.ref r0, .int (nI (z_16 + k)), .int o_17]) := by rw [he_50]; exact up_self
    have hF_52 : F_49 r0 = .inl (cs 16, n, .inl f_47) := by rw [he_50, up_ne (ne_ty ht_14 hT_h0 (by simp))]; exact hF_44
    refine lv_aload_n hx hb dX0_addRange_72 rfl (lv_at hl 3 rfl) ?_
    refine lv_aload_n hx hb dX0_addRange_73 rfl (lv_at hl 3 rfl) ?_
    refine pg_get (ci := 0) (v := .int o_17) (C := RX0) (T := TX0) (N := 3) hx hb hts it_0 hown hK hP hL_h0 hF_51 rfl 2 (by decide) (hts _ kt_11) (fun _ h9 => h9) rfl dX0_addRange_74 ?_
    refine lv_if_ne (tgt := 87) hx hb dX0_addRange_77 (by decide) (fun c_53 => ?_) (fun c_53 => ?_)
    ·
      refine lv_iconst (v := 1) hx hb dX0_addRange_87 (by decide) ?_
      refine lv_goto (tgt := 92) hx hb dX0_addRange_88 (by decide) ?_
      refine pg_put (ci := 0) (v := .int 1) (ty := .boolean) (C := RX0) (T := TX0) (N := 3) hx hb hts it_0 tyX0 tyX0_ok nmX0 hown hK hP hD hS hL_h0 hF_51 rfl 2 (by decide) (hts _ kt_11) (fun _ h9 => h9) rfl (by decide +kernel) (rfl) (rfl) (Nat.le_of_ble_eq_true rfl) dX0_addRange_92 (fun H locs hP hD hS => ?_)
      obtain ⟨F_54, he_55, hP, hD, hO, hR⟩ : ∃ G, G = va_up F_49 h0 (.inr (0, [.ref r0, .int (nI (z_16 + k)), .int 1])) ∧ va_P (dC, dI) vwCl (va_pl L G) H ∧ va_D A (va_pl L G) ∧ OK cs ty L G ∧ FR ty [ρ] F G := ⟨_, rfl, hP, hD, hO.up (sh.bytes hT_h0 ⟨(z_16 + k), 1, rfl, (by first | omega | assumption | exact Or.inl rfl | exact Or.inr rfl), (by first | omega | assumption | exact Or.inl rfl | exact Or.inr rfl)⟩), hR.up hT_h0 (by simp)⟩
      have hF_56 : F_54 h0 = .inr (0, [.ref r0, .int (nI (z_16 + k)), .int 1]) := by rw [he_55]; exact up_self
      have hF_57 : F_54 r0 = .inl (cs 16, n, .inl f_47) := by rw [he_55, up_ne (ne_ty ht_14 hT_h0 (by simp))]; exact hF_52
      refine W.widen (k := 0) (n := 0) (by omega) (by omega) ?_
      exact W.vret hx hb hr (fun t ht hWm => ⟨⟨(), rfl, trivial, ⟨F_54, QT.mk ht hP hD hO hR⟩⟩, hS.F ht⟩) hS.2.2 dX0_addRange_95
    ·
      refine lv_iload hx hb dX0_addRange_80 (lv_at hl 0 rfl) ?_
      refine lv_iload hx hb dX0_addRange_82 (lv_at hl 1 rfl) ?_
      refine lv_icmp_ge (tgt := 91) hx hb dX0_addRange_84 (by decide) (fun c_58 => ?_) (fun c_58 => ?_)
      ·
        refine lv_iconst (v := 0) hx hb dX0_addRange_91 (by decide) ?_
        refine pg_put (ci := 0) (v := .int 0) (ty := .boolean) (C := RX0) (T := TX0) (N := 3) hx hb hts it_0 tyX0 tyX0_ok nmX0 hown hK hP hD hS hL_h0 hF_51 rfl 2 (by decide) (hts _ kt_11) (fun _ h9 => h9) rfl (by decide +kernel) (rfl) (rfl) (Nat.le_of_ble_eq_true rfl) dX0_addRange_92 (fun H locs hP hD hS => ?_)
        obtain ⟨F_59, he_60, hP, hD, hO, hR⟩ : ∃ G, G = va_up F_49 h0 (.inr (0, [.ref r0, .int (nI (z_16 + k)), .int 0])) ∧ va_P (dC, dI) vwCl (va_pl L G) H ∧ va_D A (va_pl L G) ∧ OK cs ty L G ∧ FR ty [ρ] F G := ⟨_, rfl, hP, hD, hO.up (sh.bytes hT_h0 ⟨(z_16 + k), 0, rfl, (by first | omega | assumption | exact Or.inl rfl | exact Or.inr rfl), (by first | omega | assumption | exact Or.inl rfl | exact Or.inr rfl)⟩), hR.up hT_h0 (by simp)⟩
        have hF_61 : F_59 h0 = .inr (0, [.ref r0, .int (nI (z_16 + k)), .int 0]) := by rw [he_60]; exact up_self
        have hF_62 : F_59 r0 = .inl (cs 16, n, .inl f_47) := by rw [he_60, up_ne (ne_ty ht_14 hT_h0 (by simp))]; exact hF_52
        refine W.widen (k := 0) (n := 0) (by omega) (by omega) ?_
        exact W.vret hx hb hr (fun t ht hWm => ⟨⟨(), rfl, trivial, ⟨F_59, QT.mk ht hP hD hO hR⟩⟩, hS.F ht⟩) hS.2.2 dX0_addRange_95
      ·
        refine lv_iconst (v := 1) hx hb dX0_addRange_87 (by decide) ?_
        refine lv_goto (tgt := 92) hx hb dX0_addRange_88 (by decide) ?_
        refine pg_put (ci := 0) (v := .int 1) (ty := .boolean) (C := RX0) (T := TX0) (N := 3) hx hb hts it_0 tyX0 tyX0_ok nmX0 hown hK hP hD hS hL_h0 hF_51 rfl 2 (by decide) (hts _ kt_11) (fun _ h9 => h9) rfl (by decide +kernel) (rfl) (rfl) (Nat.le_of_ble_eq_true rfl) dX0_addRange_92 (fun H locs hP hD hS => ?_)
        obtain ⟨F_63, he_64, hP, hD, hO, hR⟩ : ∃ G, G = va_up F_49 h0 (.inr (0, [.ref r0, .int (nI (z_16 + k)), .int 1])) ∧ va_P (dC, dI) vwCl (va_pl L G) H ∧ va_D A (va_pl L G) ∧ OK cs ty L G ∧ FR ty [ρ] F G := ⟨_, rfl, hP, hD, hO.up (sh.bytes hT_h0 ⟨(z_16 + k), 1, rfl, (by first | omega | assumption | exact Or.inl rfl | exact Or.inr rfl), (by first | omega | assumption | exact Or.inl rfl | exact Or.inr rfl)⟩), hR.up hT_h0 (by simp)⟩
        have hF_65 : F_63 h0 = .inr (0, [.ref r0, .int (nI (z_16 + k)), .int 1]) := by rw [he_64]; exact up_self
        have hF_66 : F_63 r0 = .inl (cs 16, n, .inl f_47) := by rw [he_64, up_ne (ne_ty ht_14 hT_h0 (by simp))]; exact hF_52
        refine W.widen (k := 0) (n := 0) (by omega) (by omega) ?_
        exact W.vret hx hb hr (fun t ht hWm => ⟨⟨(), rfl, trivial, ⟨F_63, QT.mk ht hP hD hO hR⟩⟩, hS.F ht⟩) hS.2.2 dX0_addRange_95
set_option maxHeartbeats 4000000 in
set_option maxRecDepth 100000 in
theorem s_X0_copy (l : Launch) (dC : Nat → ClassId) (dI : Nat → Nat → Nat) (cs : Nat → ClassId) (ty : TyM) (L : List Nat) (sz : Nat) (F : Nat → va_E) (h0 : Nat) (ρ : Nat) (r0 : Nat) (n : Nat) (g1 : Nat) (σ : Nat) (r1 : Nat) (n1 : Nat) (hW : WT ty L) (hL_h0 : h0 ∈ L) (hT_h0 : ty h0 = (0, ρ, [r0, n])) (hL_g1 : g1 ∈ L) (hT_g1 : ty g1 = (0, σ, [r1, n1])) : Met l yX0_copy (.code yX0_copy cX0_copy 2 none :: tb) ({ frames := 2, cells := 0, slots := 0, locals := 74 }) (va_Pc [.ref h0, .ref g1] (PT (dC, dI) cs ty L F sz)) (va_Qv (fun _ : Unit => True) (fun _ T9 => ∃ F2 : Nat → va_E, QT (dC, dI) cs ty L [ρ] F F2 (va_A (va_pl L F) sz) T9) (va_A (va_pl L F) sz)) 0 0 (va_A (va_pl L F) sz) := by
  refine Met.ofW (cc := cX0_copy) (maxL := 2) (ret := none) (by decide) rfl ?_
  intro p e s m args below meth c s₁ B hml hv
  obtain ⟨rfl, hsz, hP, hK, hD0, hE, hO⟩ := hv
  have hx := B.exec
  have hb := B.bytes
  have hr := B.returns
  have hts : ∀ w ∈ tb, w.before _ s = true := fun w h => atoms_spec (ws := .code yX0_copy cX0_copy 2 none :: tb) B.pre w (List.mem_cons_of_mem _ h)
  have hown : s.vm.findClass RX0 = some m.cls := findClass_of_methodNamed B.named
  have hlocks := B.notSynchronized
  subst hsz
  have hD := hD0.self (sz := s.heap.size)
  generalize hAe : va_A (va_pl L F) s.heap.size = A at hD ⊢
  have hA : ∀ q : Nat, s.heap.size ≤ q → A q := fun q h => by rw [← hAe]; exact Or.inr h
  have hS : va_S A s.heap s.heap [] := va_S.rf
  have hR : FR ty [ρ] F F := FR.refl
  have hl := lv_entry ([.ref h0, .ref g1]) (n := 2) (Nat.le_of_ble_eq_true rfl)
  rw [lg_entry_eq]
  generalize (lg_sl ([.ref h0, .ref g1]) ++ List.replicate (2 - (lg_sl ([.ref h0, .ref g1])).length) Slot.unset).toArray = ls at hl ⊢
  have hl : lv_has ls 2 [(0, .ref h0), (1, .ref g1)] := hl
  refine lv_aload_n hx hb dX0_copy_0 rfl (lv_at hl 0 rfl) ?_
  have hFc := pg_free hD hS hA
  obtain ⟨hi_1, ht_2, hq_3⟩ := hW.bytes hL_h0 hT_h0
  obtain ⟨z_4, o_5, hF_6, hq_7, hq_8⟩ := hO.bytes hL_h0 hT_h0
  refine va_callv (va_runV (As := []) (rest := []) ⟨hx, hb, hml, hown, hts⟩ (s_X0_clear l dC dI cs ty L s.heap.size F h0 ρ r0 n hW hL_h0 hT_h0) ⟨callB_of 0 hts (gi kt_32) rfl rfl rfl (hts _ kt_1) (hts _ kt_33) (by decide +kernel) ⟨Nat.le_of_ble_eq_true rfl, Nat.le_of_ble_eq_true rfl⟩, (hts _ kt_34), (hts _ kt_35)⟩ ⟨fun a U g mk q => ⟨q.1, PT.calling q.2⟩, pg_recv hK hP hL_h0 hF_6 (q := (RX0, TX0, 3)) rfl, fun U hU hWm => ⟨rfl, PT.mk hU hWm hP hK hD hE hO⟩⟩ rfl rfl hl.1 rfl (lv_room (Nat.le_of_ble_eq_true rfl)) dX0_copy_1 ⟨by show _ + 0 ≤ 0; omega, by show _ + 0 ≤ 0; omega⟩) hS (fun q _ h => hFc q h) hFc (fun u t H1 locs ht hvm hw hB hz1 hk1 hS => ?_)
  obtain ⟨F_10, hB1, hq_11⟩ := hB
  obtain ⟨hP, hD, hO, hR⟩ := QT.back hB1 ht hFc hR (fun q h => by simp only [List.mem_cons, List.not_mem_nil, or_false] at h ⊢; omega)
  generalize H1 = H at hP hS ⊢
  refine lv_aload_n hx hb dX0_copy_4 rfl (lv_at hl 0 rfl) ?_
  refine lv_aload_n hx hb dX0_copy_5 rfl (lv_at hl 1 rfl) ?_
  refine lv_iconst (v := 0) hx hb dX0_copy_6 (by decide) ?_
  refine lv_aload_n hx hb dX0_copy_7 rfl (lv_at hl 1 rfl) ?_
  obtain ⟨hi_12, ht_13, hq_14⟩ := hW.bytes hL_g1 hT_g1
  obtain ⟨z_15, o_16, hF_17, hq_18, hq_19⟩ := hO.bytes hL_g1 hT_g1
  refine pg_get (ci := 0) (v := .int (nI z_15)) (C := RX0) (T := TX0) (N := 3) hx hb hts it_0 hown hK hP hL_g1 hF_17 rfl 1 (by decide) (hts _ kt_10) (fun _ h9 => h9) rfl dX0_copy_8 ?_
  have hFc := pg_free hD hS hA
  refine va_callv (va_runV (As := [.ref g1, .int 0, .int (nI z_15)]) (rest := []) ⟨hx, hb, hml, hown, hts⟩ (s_X0_addRange l dC dI cs ty L H.size F_10 h0 ρ r0 n g1 σ r1 n1 0 (nI z_15) hW hL_h0 hT_h0 hL_g1 hT_g1 (nI_pos (by omega))) ⟨callB_of 3 hts (gi kt_36) rfl rfl rfl (hts _ kt_1) (hts _ kt_37) (by decide +kernel) ⟨Nat.le_of_ble_eq_true rfl, Nat.le_of_ble_eq_true rfl⟩, (hts _ kt_38), (hts _ kt_39)⟩ ⟨fun a U g mk q => ⟨q.1, PT.calling q.2⟩, pg_recv hK hP hL_h0 hq_11 (q := (RX0, TX0, 3)) rfl, fun U hU hWm => ⟨rfl, PT.mk hU hWm hP hK hD hE hO⟩⟩ rfl rfl hl.1 rfl (lv_room (Nat.le_of_ble_eq_true rfl)) dX0_copy_11 ⟨by show _ + 0 ≤ 0; omega, by show _ + 0 ≤ 0; omega⟩) hS (fun q _ h => hFc q h) hFc (fun u t H1 locs ht hvm hw hB hz1 hk1 hS => ?_)
  obtain ⟨F_21, hB1⟩ := hB
  obtain ⟨hP, hD, hO, hR⟩ := QT.back hB1 ht hFc hR (fun q h => by simp only [List.mem_cons, List.not_mem_nil, or_false] at h ⊢; omega)
  generalize H1 = H at hP hS ⊢
  refine W.widen (k := 0) (n := 0) (by omega) (by omega) ?_
  exact W.vret hx hb hr (fun t ht hWm => ⟨⟨(), rfl, trivial, ⟨F_21, QT.mk ht hP hD hO hR⟩⟩, hS.F ht⟩) hS.2.2 dX0_copy_14
set_option maxHeartbeats 4000000 in
set_option maxRecDepth 100000 in
theorem s_X0_same (l : Launch) (dC : Nat → ClassId) (dI : Nat → Nat → Nat) (cs : Nat → ClassId) (ty : TyM) (L : List Nat) (sz : Nat) (F : Nat → va_E) (h0 : Nat) (ρ : Nat) (r0 : Nat) (n : Nat) (g1 : Nat) (σ : Nat) (r1 : Nat) (n1 : Nat) (hW : WT ty L) (hL_h0 : h0 ∈ L) (hT_h0 : ty h0 = (0, ρ, [r0, n])) (hL_g1 : g1 ∈ L) (hT_g1 : ty g1 = (0, σ, [r1, n1])) : Met l yX0_same (.code yX0_same cX0_same 3 (some .boolean) :: tb) ({ frames := 0, cells := 0, slots := 0, locals := 0 }) (va_Pc [.ref h0, .ref g1] (PT (dC, dI) cs ty L F sz)) (va_Qi (fun (r : Int32) (_ : Unit) => (r = 0 ∨ r = 1)) (fun _ T9 => ∃ F2 : Nat → va_E, QT (dC, dI) cs ty L [] F F2 (va_A (va_pl L F) sz) T9) (va_A (va_pl L F) sz)) 0 0 (va_A (va_pl L F) sz) := by
  refine Met.ofW (cc := cX0_same) (maxL := 3) (ret := (some .boolean)) (by decide) rfl ?_
  intro p e s m args below meth c s₁ B hml hv
  obtain ⟨rfl, hsz, hP, hK, hD0, hE, hO⟩ := hv
  have hx := B.exec
  have hb := B.bytes
  have hr := B.returns
  have hts : ∀ w ∈ tb, w.before _ s = true := fun w h => atoms_spec (ws := .code yX0_same cX0_same 3 (some .boolean) :: tb) B.pre w (List.mem_cons_of_mem _ h)
  have hown : s.vm.findClass RX0 = some m.cls := findClass_of_methodNamed B.named
  have hlocks := B.notSynchronized
  subst hsz
  have hD := hD0.self (sz := s.heap.size)
  generalize hAe : va_A (va_pl L F) s.heap.size = A at hD ⊢
  have hA : ∀ q : Nat, s.heap.size ≤ q → A q := fun q h => by rw [← hAe]; exact Or.inr h
  have hS : va_S A s.heap s.heap [] := va_S.rf
  have hR : FR ty [] F F := FR.refl
  have hl := lv_entry ([.ref h0, .ref g1]) (n := 3) (Nat.le_of_ble_eq_true rfl)
  rw [lg_entry_eq]
  generalize (lg_sl ([.ref h0, .ref g1]) ++ List.replicate (3 - (lg_sl ([.ref h0, .ref g1])).length) Slot.unset).toArray = ls at hl ⊢
  have hl : lv_has ls 3 [(0, .ref h0), (1, .ref g1)] := hl
  refine lv_aload_n hx hb dX0_same_0 rfl (lv_at hl 0 rfl) ?_
  obtain ⟨hi_1, ht_2, hq_3⟩ := hW.bytes hL_h0 hT_h0
  obtain ⟨z_4, o_5, hF_6, hq_7, hq_8⟩ := hO.bytes hL_h0 hT_h0
  refine pg_get (ci := 0) (v := .int (nI z_4)) (C := RX0) (T := TX0) (N := 3) hx hb hts it_0 hown hK hP hL_h0 hF_6 rfl 1 (by decide) (hts _ kt_10) (fun _ h9 => h9) rfl dX0_same_1 ?_
  refine lv_aload_n hx hb dX0_same_4 rfl (lv_at hl 1 rfl) ?_
  obtain ⟨hi_9, ht_10, hq_11⟩ := hW.bytes hL_g1 hT_g1
  obtain ⟨z_12, o_13, hF_14, hq_15, hq_16⟩ := hO.bytes hL_g1 hT_g1
  refine pg_get (ci := 0) (v := .int (nI z_12)) (C := RX0) (T := TX0) (N := 3) hx hb hts it_0 hown hK hP hL_g1 hF_14 rfl 1 (by decide) (hts _ kt_10) (fun _ h9 => h9) rfl dX0_same_5 ?_
  refine lv_icmp_ne (tgt := 25) hx hb dX0_same_8 (by decide) (fun c_17 => ?_) (fun c_17 => ?_)
  ·
    refine lv_iconst (v := 0) hx hb dX0_same_25 (by decide) ?_
    refine W.widen (k := 0) (n := 0) (by omega) (by omega) ?_
    exact W.zret (v := 0) (ty := .boolean) hx hb hr (by decide) (fun t ht hWm => ⟨⟨0, (), rfl, (by first | exact Or.inl rfl | exact Or.inr rfl), ⟨F, QT.mk ht hP hD hO hR⟩⟩, hS.F ht⟩) hS.2.2 dX0_same_26
  ·
    have hzz : z_4 = z_12 := (nI_eq (by omega) (by omega)).mp c_17
    refine lv_aload_n hx hb dX0_same_11 rfl (lv_at hl 0 rfl) ?_
    refine pg_get (ci := 0) (v := .int o_5) (C := RX0) (T := TX0) (N := 3) hx hb hts it_0 hown hK hP hL_h0 hF_6 rfl 2 (by decide) (hts _ kt_11) (fun _ h9 => h9) rfl dX0_same_12 ?_
    refine lv_if_ne (tgt := 25) hx hb dX0_same_15 (by decide) (fun c_20 => ?_) (fun c_20 => ?_)
    ·
      refine lv_iconst (v := 0) hx hb dX0_same_25 (by decide) ?_
      refine W.widen (k := 0) (n := 0) (by omega) (by omega) ?_
      exact W.zret (v := 0) (ty := .boolean) hx hb hr (by decide) (fun t ht hWm => ⟨⟨0, (), rfl, (by first | exact Or.inl rfl | exact Or.inr rfl), ⟨F, QT.mk ht hP hD hO hR⟩⟩, hS.F ht⟩) hS.2.2 dX0_same_26
    ·
      refine lv_aload_n hx hb dX0_same_18 rfl (lv_at hl 1 rfl) ?_
      refine pg_get (ci := 0) (v := .int o_13) (C := RX0) (T := TX0) (N := 3) hx hb hts it_0 hown hK hP hL_g1 hF_14 rfl 2 (by decide) (hts _ kt_11) (fun _ h9 => h9) rfl dX0_same_19 ?_
      refine lv_if_eq (tgt := 27) hx hb dX0_same_22 (by decide) (fun c_21 => ?_) (fun c_21 => ?_)
      ·
        refine lv_iconst (v := 0) hx hb dX0_same_27 (by decide) ?_
        refine lv_istore_n (lv' := [(2, .int 0), (0, .ref h0), (1, .ref g1)]) hx hb dX0_same_28 rfl hl (by decide) rfl (fun ls hl => ?_)
        refine W.widen (k := 0) (n := 0) (by omega) (by omega) ?_
        have hF_23 : F h0 = .inr (0, [.ref r0, .int (nI z_4), .int o_5]) := (hR h0 List.not_mem_nil).symm.trans hF_6
        have hF_24 : F g1 = .inr (0, [.ref r1, .int (nI z_12), .int o_13]) := (hR g1 List.not_mem_nil).symm.trans hF_14
        refine pl_loop (σ := Nat) A (dC, dI) cs ty L [] F 29 3 (fun j => [(2, .int (nI j)), (0, .ref h0), (1, .ref g1)]) (fun j => []) (fun j _ => j ≤ 10000) (fun j => 10000 - j) ?_ 0 F (by omega) hO hR _ _ hP hD hS ls (lv_sub hl [0, 1, 2] rfl)
        rintro j F_22 hv_25 hO hR ih_26 H locs hP hD hS ls hl
        have hl : lv_has ls 3 [(2, .int (nI j)), (0, .ref h0), (1, .ref g1)] := hl
        have hv_25 : j ≤ 10000 := hv_25
        refine W.eq (g2 := F0 m 29 ls []) rfl ?_
        have hF_27 : F_22 h0 = .inr (0, [.ref r0, .int (nI z_4), .int o_5]) := (hR h0 List.not_mem_nil).trans hF_23
        have hF_28 : F_22 g1 = .inr (0, [.ref r1, .int (nI z_12), .int o_13]) := (hR g1 List.not_mem_nil).trans hF_24
        refine lv_iload_n hx hb dX0_same_29 rfl (lv_at hl 0 rfl) ?_
        refine lv_aload_n hx hb dX0_same_30 rfl (lv_at hl 1 rfl) ?_
        refine pg_get (ci := 0) (v := .int (nI z_4)) (C := RX0) (T := TX0) (N := 3) hx hb hts it_0 hown hK hP hL_h0 hF_27 rfl 1 (by decide) (hts _ kt_10) (fun _ h9 => h9) rfl dX0_same_31 ?_
        refine lv_icmp_ge (tgt := 60) hx hb dX0_same_34 (by decide) (fun c_29 => ?_) (fun c_29 => ?_)
        ·
          have hi_30 : z_4 ≤ j := leN (N := z_4) c_29
          refine lv_iconst (v := 1) hx hb dX0_same_60 (by decide) ?_
          refine W.widen (k := 0) (n := 0) (by omega) (by omega) ?_
          exact W.zret (v := 1) (ty := .boolean) hx hb hr (by decide) (fun t ht hWm => ⟨⟨1, (), rfl, (by first | exact Or.inl rfl | exact Or.inr rfl), ⟨F_22, QT.mk ht hP hD hO hR⟩⟩, hS.F ht⟩) hS.2.2 dX0_same_61
        ·
          have hi_31 : j < z_4 := ltN (N := z_4) c_29
          refine lv_aload_n hx hb dX0_same_37 rfl (lv_at hl 1 rfl) ?_
          refine pg_get (ci := 0) (v := .ref r0) (C := RX0) (T := TX0) (N := 3) hx hb hts it_0 hown hK hP hL_h0 hF_27 rfl 0 (by decide) (hts _ kt_12) (fun _ h9 => h9) rfl dX0_same_38 ?_
          refine lv_iload_n hx hb dX0_same_41 rfl (lv_at hl 0 rfl) ?_
          obtain ⟨f_32, hF_33⟩ := hO.ints hi_1 ht_2
          refine pg_iald hx hb hK hP hi_1 0 hF_33 rfl (vp_in_nI (by omega) (by omega)) dX0_same_42 ?_
          refine lv_topi (fun x_34 _ => ?_)
          refine lv_aload_n hx hb dX0_same_43 rfl (lv_at hl 2 rfl) ?_
          refine pg_get (ci := 0) (v := .ref r1) (C := RX0) (T := TX0) (N := 3) hx hb hts it_0 hown hK hP hL_g1 hF_28 rfl 0 (by decide) (hts _ kt_12) (fun _ h9 => h9) rfl dX0_same_44 ?_
          refine lv_iload_n hx hb dX0_same_47 rfl (lv_at hl 0 rfl) ?_
          obtain ⟨f_35, hF_36⟩ := hO.ints hi_9 ht_10
          refine pg_iald hx hb hK hP hi_9 0 hF_36 rfl (vp_in_nI (by omega) (by omega)) dX0_same_48 ?_
          refine lv_topi (fun x_37 _ => ?_)
          refine lv_icmp_eq (tgt := 54) hx hb dX0_same_49 (by decide) (fun c_38 => ?_) (fun c_38 => ?_)
          ·
            refine lv_iinc (v := (nI (j + 1))) (lv' := [(2, .int (nI (j + 1))), (0, .ref h0), (1, .ref g1)]) hx hb dX0_same_54 hl (k := 0) rfl (nI_1 _) (by decide) rfl (fun ls hl => ?_)
            refine lv_goto (tgt := 29) hx hb dX0_same_57 (by decide) ?_
            refine W.widen (k := 0) (n := 0) (by omega) (by omega) ?_
            exact ih_26 (j + 1) F_22 (by first | omega | exact ⟨by omega, by omega⟩ | trivial) (by show 10000 - (j + 1) < 10000 - j; omega) hO hR _ _ hP hD hS ls (lv_sub hl [0, 1, 2] rfl)
          ·
            refine lv_iconst (v := 0) hx hb dX0_same_52 (by decide) ?_
            refine W.widen (k := 0) (n := 0) (by omega) (by omega) ?_
            exact W.zret (v := 0) (ty := .boolean) hx hb hr (by decide) (fun t ht hWm => ⟨⟨0, (), rfl, (by first | exact Or.inl rfl | exact Or.inr rfl), ⟨F_22, QT.mk ht hP hD hO hR⟩⟩, hS.F ht⟩) hS.2.2 dX0_same_53
      ·
        refine lv_iconst (v := 0) hx hb dX0_same_25 (by decide) ?_
        refine W.widen (k := 0) (n := 0) (by omega) (by omega) ?_
        exact W.zret (v := 0) (ty := .boolean) hx hb hr (by decide) (fun t ht hWm => ⟨⟨0, (), rfl, (by first | exact Or.inl rfl | exact Or.inr rfl), ⟨F, QT.mk ht hP hD hO hR⟩⟩, hS.F ht⟩) hS.2.2 dX0_same_26
set_option maxHeartbeats 4000000 in
set_option maxRecDepth 100000 in
theorem s_X0_endsLike (l : Launch) (dC : Nat → ClassId) (dI : Nat → Nat → Nat) (cs : Nat → ClassId) (ty : TyM) (L : List Nat) (sz : Nat) (F : Nat → va_E) (h0 : Nat) (ρ : Nat) (r0 : Nat) (n : Nat) (g1 : Nat) (σ : Nat) (r1 : Nat) (n1 : Nat) (x2 : Int32) (hW : WT ty L) (hL_h0 : h0 ∈ L) (hT_h0 : ty h0 = (0, ρ, [r0, n])) (hL_g1 : g1 ∈ L) (hT_g1 : ty g1 = (0, σ, [r1, n1])) : Met l yX0_endsLike (.code yX0_endsLike cX0_endsLike 4 (some .boolean) :: tb) ({ frames := 0, cells := 0, slots := 0, locals := 0 }) (va_Pc [.ref h0, .ref g1, .int x2] (PT (dC, dI) cs ty L F sz)) (va_Qi (fun (r : Int32) (_ : Unit) => (r = 0 ∨ r = 1)) (fun _ T9 => ∃ F2 : Nat → va_E, QT (dC, dI) cs ty L [] F F2 (va_A (va_pl L F) sz) T9) (va_A (va_pl L F) sz)) 0 0 (va_A (va_pl L F) sz) := by
  refine Met.ofW (cc := cX0_endsLike) (maxL := 4) (ret := (some .boolean)) (by decide) rfl ?_
  intro p e s m args below meth c s₁ B hml hv
  obtain ⟨rfl, hsz, hP, hK, hD0, hE, hO⟩ := hv
  have hx := B.exec
  have hb := B.bytes
  have hr := B.returns
  have hts : ∀ w ∈ tb, w.before _ s = true := fun w h => atoms_spec (ws := .code yX0_endsLike cX0_endsLike 4 (some .boolean) :: tb) B.pre w (List.mem_cons_of_mem _ h)
  have hown : s.vm.findClass RX0 = some m.cls := findClass_of_methodNamed B.named
  have hlocks := B.notSynchronized
  subst hsz
  have hD := hD0.self (sz := s.heap.size)
  generalize hAe : va_A (va_pl L F) s.heap.size = A at hD ⊢
  have hA : ∀ q : Nat, s.heap.size ≤ q → A q := fun q h => by rw [← hAe]; exact Or.inr h
  have hS : va_S A s.heap s.heap [] := va_S.rf
  have hR : FR ty [] F F := FR.refl
  have hl := lv_entry ([.ref h0, .ref g1, .int x2]) (n := 4) (Nat.le_of_ble_eq_true rfl)
  rw [lg_entry_eq]
  generalize (lg_sl ([.ref h0, .ref g1, .int x2]) ++ List.replicate (4 - (lg_sl ([.ref h0, .ref g1, .int x2])).length) Slot.unset).toArray = ls at hl ⊢
  have hl : lv_has ls 4 [(0, .ref h0), (1, .ref g1), (2, .int x2)] := hl
  refine lv_iload_n hx hb dX0_endsLike_0 rfl (lv_at hl 2 rfl) ?_
  refine lv_aload_n hx hb dX0_endsLike_1 rfl (lv_at hl 0 rfl) ?_
  obtain ⟨hi_1, ht_2, hq_3⟩ := hW.bytes hL_h0 hT_h0
  obtain ⟨z_4, o_5, hF_6, hq_7, hq_8⟩ := hO.bytes hL_h0 hT_h0
  refine pg_get (ci := 0) (v := .int (nI z_4)) (C := RX0) (T := TX0) (N := 3) hx hb hts it_0 hown hK hP hL_h0 hF_6 rfl 1 (by decide) (hts _ kt_10) (fun _ h9 => h9) rfl dX0_endsLike_2 ?_
  refine lv_icmp_gt (tgt := 16) hx hb dX0_endsLike_5 (by decide) (fun c_9 => ?_) (fun c_9 => ?_)
  ·
    refine lv_iconst (v := 0) hx hb dX0_endsLike_16 (by decide) ?_
    refine W.widen (k := 0) (n := 0) (by omega) (by omega) ?_
    exact W.zret (v := 0) (ty := .boolean) hx hb hr (by decide) (fun t ht hWm => ⟨⟨0, (), rfl, (by first | exact Or.inl rfl | exact Or.inr rfl), ⟨F, QT.mk ht hP hD hO hR⟩⟩, hS.F ht⟩) hS.2.2 dX0_endsLike_17
  ·
    refine lv_iload_n hx hb dX0_endsLike_8 rfl (lv_at hl 2 rfl) ?_
    refine lv_aload_n hx hb dX0_endsLike_9 rfl (lv_at hl 1 rfl) ?_
    obtain ⟨hi_10, ht_11, hq_12⟩ := hW.bytes hL_g1 hT_g1
    obtain ⟨z_13, o_14, hF_15, hq_16, hq_17⟩ := hO.bytes hL_g1 hT_g1
    refine pg_get (ci := 0) (v := .int (nI z_13)) (C := RX0) (T := TX0) (N := 3) hx hb hts it_0 hown hK hP hL_g1 hF_15 rfl 1 (by decide) (hts _ kt_10) (fun _ h9 => h9) rfl dX0_endsLike_10 ?_
    refine lv_icmp_le (tgt := 18) hx hb dX0_endsLike_13 (by decide) (fun c_18 => ?_) (fun c_18 => ?_)
    ·
      refine lv_iconst (v := 1) hx hb dX0_endsLike_18 (by decide) ?_
      refine lv_istore_n (lv' := [(3, .int 1), (0, .ref h0), (1, .ref g1), (2, .int x2)]) hx hb dX0_endsLike_19 rfl hl (by decide) rfl (fun ls hl => ?_)
      refine W.widen (k := 0) (n := 0) (by omega) (by omega) ?_
      have hF_20 : F h0 = .inr (0, [.ref r0, .int (nI z_4), .int o_5]) := (hR h0 List.not_mem_nil).symm.trans hF_6
      have hF_21 : F g1 = .inr (0, [.ref r1, .int (nI z_13), .int o_14]) := (hR g1 List.not_mem_nil).symm.trans hF_15
      refine pl_loop (σ := Nat) A (dC, dI) cs ty L [] F 20 4 (fun j => [(3, .int (nI j)), (0, .ref h0), (1, .ref g1), (2, .int x2)]) (fun j => []) (fun j _ => 1 ≤ j ∧ j ≤ 10001) (fun j => 10001 - j) ?_ 1 F (by first | omega | exact ⟨by omega, by omega⟩ | trivial) hO hR _ _ hP hD hS ls (lv_sub hl [0, 1, 2, 3] rfl)
      rintro j F_19 hv_22 hO hR ih_23 H locs hP hD hS ls hl
      have hl : lv_has ls 4 [(3, .int (nI j)), (0, .ref h0), (1, .ref g1), (2, .int x2)] := hl
      have hv_22 : 1 ≤ j ∧ j ≤ 10001 := hv_22
      refine W.eq (g2 := F0 m 20 ls []) rfl ?_
      have hF_24 : F_19 h0 = .inr (0, [.ref r0, .int (nI z_4), .int o_5]) := (hR h0 List.not_mem_nil).trans hF_20
      have hF_25 : F_19 g1 = .inr (0, [.ref r1, .int (nI z_13), .int o_14]) := (hR g1 List.not_mem_nil).trans hF_21
      obtain ⟨hv1, hv2⟩ := hv_22
      refine lv_iload_n hx hb dX0_endsLike_20 rfl (lv_at hl 0 rfl) ?_
      refine lv_iload_n hx hb dX0_endsLike_21 rfl (lv_at hl 3 rfl) ?_
      refine lv_icmp_gt (tgt := 58) hx hb dX0_endsLike_22 (by decide) (fun c_26 => ?_) (fun c_26 => ?_)
      ·
        refine lv_iconst (v := 1) hx hb dX0_endsLike_58 (by decide) ?_
        refine W.widen (k := 0) (n := 0) (by omega) (by omega) ?_
        exact W.zret (v := 1) (ty := .boolean) hx hb hr (by decide) (fun t ht hWm => ⟨⟨1, (), rfl, (by first | exact Or.inl rfl | exact Or.inr rfl), ⟨F_19, QT.mk ht hP hD hO hR⟩⟩, hS.F ht⟩) hS.2.2 dX0_endsLike_59
      ·
        have hj0 : j ≤ z_4 := (nI_leI (by omega) (by omega)).mp (Int32.le_trans (Int32.not_lt.mp c_26) (Int32.not_lt.mp c_9))
        have hj1 : j ≤ z_13 := (nI_leI (by omega) (by omega)).mp (Int32.le_trans (Int32.not_lt.mp c_26) c_18)
        refine lv_aload_n hx hb dX0_endsLike_25 rfl (lv_at hl 1 rfl) ?_
        refine pg_get (ci := 0) (v := .ref r0) (C := RX0) (T := TX0) (N := 3) hx hb hts it_0 hown hK hP hL_h0 hF_24 rfl 0 (by decide) (hts _ kt_12) (fun _ h9 => h9) rfl dX0_endsLike_26 ?_
        refine lv_aload_n hx hb dX0_endsLike_29 rfl (lv_at hl 1 rfl) ?_
        refine pg_get (ci := 0) (v := .int (nI z_4)) (C := RX0) (T := TX0) (N := 3) hx hb hts it_0 hown hK hP hL_h0 hF_24 rfl 1 (by decide) (hts _ kt_10) (fun _ h9 => h9) rfl dX0_endsLike_30 ?_
        refine lv_iload_n hx hb dX0_endsLike_33 rfl (lv_at hl 0 rfl) ?_
        refine lv_isub hx hb dX0_endsLike_34 ?_
        refine lv_topi (fun x_27 ex_27 => ?_)
        obtain rfl : x_27 = (nI (z_4 - j)) := ex_27.trans (pk_sub (by omega))
        obtain ⟨f_28, hF_29⟩ := hO.ints hi_1 ht_2
        refine pg_iald hx hb hK hP hi_1 0 hF_29 rfl (vp_in_nI (by omega) (by omega)) dX0_endsLike_35 ?_
        refine lv_topi (fun x_30 _ => ?_)
        refine lv_aload_n hx hb dX0_endsLike_36 rfl (lv_at hl 2 rfl) ?_
        refine pg_get (ci := 0) (v := .ref r1) (C := RX0) (T := TX0) (N := 3) hx hb hts it_0 hown hK hP hL_g1 hF_25 rfl 0 (by decide) (hts _ kt_12) (fun _ h9 => h9) rfl dX0_endsLike_37 ?_
        refine lv_aload_n hx hb dX0_endsLike_40 rfl (lv_at hl 2 rfl) ?_
        refine pg_get (ci := 0) (v := .int (nI z_13)) (C := RX0) (T := TX0) (N := 3) hx hb hts it_0 hown hK hP hL_g1 hF_25 rfl 1 (by decide) (hts _ kt_10) (fun _ h9 => h9) rfl dX0_endsLike_41 ?_
        refine lv_iload_n hx hb dX0_endsLike_44 rfl (lv_at hl 0 rfl) ?_
        refine lv_isub hx hb dX0_endsLike_45 ?_
        refine lv_topi (fun x_31 ex_31 => ?_)
        obtain rfl : x_31 = (nI (z_13 - j)) := ex_31.trans (pk_sub (by omega))
        obtain ⟨f_32, hF_33⟩ := hO.ints hi_10 ht_11
        refine pg_iald hx hb hK hP hi_10 0 hF_33 rfl (vp_in_nI (by omega) (by omega)) dX0_endsLike_46 ?_
        refine lv_topi (fun x_34 _ => ?_)
        refine lv_icmp_eq (tgt := 52) hx hb dX0_endsLike_47 (by decide) (fun c_35 => ?_) (fun c_35 => ?_)
        ·
          refine lv_iinc (v := (nI (j + 1))) (lv' := [(3, .int (nI (j + 1))), (0, .ref h0), (1, .ref g1), (2, .int x2)]) hx hb dX0_endsLike_52 hl (k := 0) rfl (nI_1 _) (by decide) rfl (fun ls hl => ?_)
          refine lv_goto (tgt := 20) hx hb dX0_endsLike_55 (by decide) ?_
          refine W.widen (k := 0) (n := 0) (by omega) (by omega) ?_
          exact ih_23 (j + 1) F_19 (by first | omega | exact ⟨by omega, by omega⟩ | trivial) (by show 10001 - (j + 1) < 10001 - j; omega) hO hR _ _ hP hD hS ls (lv_sub hl [0, 1, 2, 3] rfl)
        ·
          refine lv_iconst (v := 0) hx hb dX0_endsLike_50 (by decide) ?_
          refine W.widen (k := 0) (n := 0) (by omega) (by omega) ?_
          exact W.zret (v := 0) (ty := .boolean) hx hb hr (by decide) (fun t ht hWm => ⟨⟨0, (), rfl, (by first | exact Or.inl rfl | exact Or.inr rfl), ⟨F_19, QT.mk ht hP hD hO hR⟩⟩, hS.F ht⟩) hS.2.2 dX0_endsLike_51
    ·
      refine lv_iconst (v := 0) hx hb dX0_endsLike_16 (by decide) ?_
      refine W.widen (k := 0) (n := 0) (by omega) (by omega) ?_
      exact W.zret (v := 0) (ty := .boolean) hx hb hr (by decide) (fun t ht hWm => ⟨⟨0, (), rfl, (by first | exact Or.inl rfl | exact Or.inr rfl), ⟨F, QT.mk ht hP hD hO hR⟩⟩, hS.F ht⟩) hS.2.2 dX0_endsLike_17
set_option maxHeartbeats 4000000 in
set_option maxRecDepth 100000 in
theorem s_X0_isUnder (l : Launch) (dC : Nat → ClassId) (dI : Nat → Nat → Nat) (cs : Nat → ClassId) (ty : TyM) (L : List Nat) (sz : Nat) (F : Nat → va_E) (h0 : Nat) (ρ : Nat) (r0 : Nat) (n : Nat) (g1 : Nat) (σ : Nat) (r1 : Nat) (n1 : Nat) (hW : WT ty L) (hL_h0 : h0 ∈ L) (hT_h0 : ty h0 = (0, ρ, [r0, n])) (hL_g1 : g1 ∈ L) (hT_g1 : ty g1 = (0, σ, [r1, n1])) : Met l yX0_isUnder (.code yX0_isUnder cX0_isUnder 2 (some .boolean) :: tb) ({ frames := 1, cells := 0, slots := 0, locals := 23 }) (va_Pc [.ref h0, .ref g1] (PT (dC, dI) cs ty L F sz)) (va_Qi (fun (r : Int32) (_ : Unit) => (r = 0 ∨ r = 1)) (fun _ T9 => ∃ F2 : Nat → va_E, QT (dC, dI) cs ty L [] F F2 (va_A (va_pl L F) sz) T9) (va_A (va_pl L F) sz)) 0 0 (va_A (va_pl L F) sz) := by
  refine Met.ofW (cc := cX0_isUnder) (maxL := 2) (ret := (some .boolean)) (by decide) rfl ?_
  intro p e s m args below meth c s₁ B hml hv
  obtain ⟨rfl, hsz, hP, hK, hD0, hE, hO⟩ := hv
  have hx := B.exec
  have hb := B.bytes
  have hr := B.returns
  have hts : ∀ w ∈ tb, w.before _ s = true := fun w h => atoms_spec (ws := .code yX0_isUnder cX0_isUnder 2 (some .boolean) :: tb) B.pre w (List.mem_cons_of_mem _ h)
  have hown : s.vm.findClass RX0 = some m.cls := findClass_of_methodNamed B.named
  have hlocks := B.notSynchronized
  subst hsz
  have hD := hD0.self (sz := s.heap.size)
  generalize hAe : va_A (va_pl L F) s.heap.size = A at hD ⊢
  have hA : ∀ q : Nat, s.heap.size ≤ q → A q := fun q h => by rw [← hAe]; exact Or.inr h
  have hS : va_S A s.heap s.heap [] := va_S.rf
  have hR : FR ty [] F F := FR.refl
  have hl := lv_entry ([.ref h0, .ref g1]) (n := 2) (Nat.le_of_ble_eq_true rfl)
  rw [lg_entry_eq]
  generalize (lg_sl ([.ref h0, .ref g1]) ++ List.replicate (2 - (lg_sl ([.ref h0, .ref g1])).length) Slot.unset).toArray = ls at hl ⊢
  have hl : lv_has ls 2 [(0, .ref h0), (1, .ref g1)] := hl
  refine lv_aload_n hx hb dX0_isUnder_0 rfl (lv_at hl 0 rfl) ?_
  obtain ⟨hi_1, ht_2, hq_3⟩ := hW.bytes hL_h0 hT_h0
  obtain ⟨z_4, o_5, hF_6, hq_7, hq_8⟩ := hO.bytes hL_h0 hT_h0
  refine pg_get (ci := 0) (v := .int o_5) (C := RX0) (T := TX0) (N := 3) hx hb hts it_0 hown hK hP hL_h0 hF_6 rfl 2 (by decide) (hts _ kt_11) (fun _ h9 => h9) rfl dX0_isUnder_1 ?_
  refine lv_if_ne (tgt := 37) hx hb dX0_isUnder_4 (by decide) (fun c_9 => ?_) (fun c_9 => ?_)
  ·
    refine lv_iconst (v := 0) hx hb dX0_isUnder_37 (by decide) ?_
    refine W.widen (k := 0) (n := 0) (by omega) (by omega) ?_
    exact W.zret (v := 0) (ty := .boolean) hx hb hr (by decide) (fun t ht hWm => ⟨⟨0, (), rfl, (by first | exact Or.inl rfl | exact Or.inr rfl), ⟨F, QT.mk ht hP hD hO hR⟩⟩, hS.F ht⟩) hS.2.2 dX0_isUnder_38
  ·
    refine lv_aload_n hx hb dX0_isUnder_7 rfl (lv_at hl 1 rfl) ?_
    obtain ⟨hi_10, ht_11, hq_12⟩ := hW.bytes hL_g1 hT_g1
    obtain ⟨z_13, o_14, hF_15, hq_16, hq_17⟩ := hO.bytes hL_g1 hT_g1
    refine pg_get (ci := 0) (v := .int o_14) (C := RX0) (T := TX0) (N := 3) hx hb hts it_0 hown hK hP hL_g1 hF_15 rfl 2 (by decide) (hts _ kt_11) (fun _ h9 => h9) rfl dX0_isUnder_8 ?_
    refine lv_if_ne (tgt := 37) hx hb dX0_isUnder_11 (by decide) (fun c_18 => ?_) (fun c_18 => ?_)
    ·
      refine lv_iconst (v := 0) hx hb dX0_isUnder_37 (by decide) ?_
      refine W.widen (k := 0) (n := 0) (by omega) (by omega) ?_
      exact W.zret (v := 0) (ty := .boolean) hx hb hr (by decide) (fun t ht hWm => ⟨⟨0, (), rfl, (by first | exact Or.inl rfl | exact Or.inr rfl), ⟨F, QT.mk ht hP hD hO hR⟩⟩, hS.F ht⟩) hS.2.2 dX0_isUnder_38
    ·
      refine lv_aload_n hx hb dX0_isUnder_14 rfl (lv_at hl 0 rfl) ?_
      refine pg_get (ci := 0) (v := .int (nI z_4)) (C := RX0) (T := TX0) (N := 3) hx hb hts it_0 hown hK hP hL_h0 hF_6 rfl 1 (by decide) (hts _ kt_10) (fun _ h9 => h9) rfl dX0_isUnder_15 ?_
      refine lv_aload_n hx hb dX0_isUnder_18 rfl (lv_at hl 1 rfl) ?_
      refine pg_get (ci := 0) (v := .int (nI z_13)) (C := RX0) (T := TX0) (N := 3) hx hb hts it_0 hown hK hP hL_g1 hF_15 rfl 1 (by decide) (hts _ kt_10) (fun _ h9 => h9) rfl dX0_isUnder_19 ?_
      refine lv_icmp_lt (tgt := 37) hx hb dX0_isUnder_22 (by decide) (fun c_19 => ?_) (fun c_19 => ?_)
      ·
        have hi_20 : z_4 < z_13 := ltN (N := z_13) (Int32.not_le.mpr c_19)
        refine lv_iconst (v := 0) hx hb dX0_isUnder_37 (by decide) ?_
        refine W.widen (k := 0) (n := 0) (by omega) (by omega) ?_
        exact W.zret (v := 0) (ty := .boolean) hx hb hr (by decide) (fun t ht hWm => ⟨⟨0, (), rfl, (by first | exact Or.inl rfl | exact Or.inr rfl), ⟨F, QT.mk ht hP hD hO hR⟩⟩, hS.F ht⟩) hS.2.2 dX0_isUnder_38
      ·
        have hi_21 : z_13 ≤ z_4 := leN (N := z_13) (Int32.not_lt.mp c_19)
        refine lv_aload_n hx hb dX0_isUnder_25 rfl (lv_at hl 0 rfl) ?_
        refine lv_aload_n hx hb dX0_isUnder_26 rfl (lv_at hl 1 rfl) ?_
        refine lv_aload_n hx hb dX0_isUnder_27 rfl (lv_at hl 1 rfl) ?_
        refine pg_get (ci := 0) (v := .int (nI z_13)) (C := RX0) (T := TX0) (N := 3) hx hb hts it_0 hown hK hP hL_g1 hF_15 rfl 1 (by decide) (hts _ kt_10) (fun _ h9 => h9) rfl dX0_isUnder_28 ?_
        have hFc := pg_free hD hS hA
        refine va_calli (va_runV (As := [.ref g1, .int (nI z_13)]) (rest := []) ⟨hx, hb, hml, hown, hts⟩ (s_X0_endsLike l dC dI cs ty L s.heap.size F h0 ρ r0 n g1 σ r1 n1 (nI z_13) hW hL_h0 hT_h0 hL_g1 hT_g1) ⟨callB_of 2 hts (gi kt_40) rfl rfl rfl (hts _ kt_1) (hts _ kt_41) (by decide +kernel) ⟨Nat.le_of_ble_eq_true rfl, Nat.le_of_ble_eq_true rfl⟩, (hts _ kt_42), (hts _ kt_43)⟩ ⟨fun a U g mk q => ⟨q.1, PT.calling q.2⟩, pg_recv hK hP hL_h0 hF_6 (q := (RX0, TX0, 3)) rfl, fun U hU hWm => ⟨rfl, PT.mk hU hWm hP hK hD hE hO⟩⟩ rfl rfl hl.1 rfl (lv_room (Nat.le_of_ble_eq_true rfl)) dX0_isUnder_31 ⟨by show _ + 0 ≤ 0; omega, by show _ + 0 ≤ 0; omega⟩) hS (fun q _ h => hFc q h) hFc (fun r_22 u t H1 locs ht hvm hw hB hz1 hk1 hS => ?_)
        obtain ⟨F_23, hB1⟩ := hB
        obtain ⟨hP, hD, hO, hR⟩ := QT.back hB1 ht hFc hR (fun q h => absurd h List.not_mem_nil)
        have hF_24 : F_23 h0 = .inr (0, [.ref r0, .int (nI z_4), .int o_5]) := (hB1.2.2.2 h0 List.not_mem_nil).trans hF_6
        have hF_25 : F_23 g1 = .inr (0, [.ref r1, .int (nI z_13), .int o_14]) := (hB1.2.2.2 g1 List.not_mem_nil).trans hF_15
        generalize H1 = H at hP hS ⊢
        have hw : (r_22 = 0 ∨ r_22 = 1) := hw
        have hw_26 := hw
        refine lv_if_ne (tgt := 39) hx hb dX0_isUnder_34 (by decide) (fun c_27 => ?_) (fun c_27 => ?_)
        ·
          refine lv_aload_n hx hb dX0_isUnder_39 rfl (lv_at hl 0 rfl) ?_
          refine pg_get (ci := 0) (v := .int (nI z_4)) (C := RX0) (T := TX0) (N := 3) hx hb hts it_0 hown hK hP hL_h0 hF_24 rfl 1 (by decide) (hts _ kt_10) (fun _ h9 => h9) rfl dX0_isUnder_40 ?_
          refine lv_aload_n hx hb dX0_isUnder_43 rfl (lv_at hl 1 rfl) ?_
          refine pg_get (ci := 0) (v := .int (nI z_13)) (C := RX0) (T := TX0) (N := 3) hx hb hts it_0 hown hK hP hL_g1 hF_25 rfl 1 (by decide) (hts _ kt_10) (fun _ h9 => h9) rfl dX0_isUnder_44 ?_
          refine lv_icmp_eq (tgt := 71) hx hb dX0_isUnder_47 (by decide) (fun c_28 => ?_) (fun c_28 => ?_)
          ·
            refine lv_iconst (v := 1) hx hb dX0_isUnder_71 (by decide) ?_
            refine lv_goto (tgt := 76) hx hb dX0_isUnder_72 (by decide) ?_
            refine W.widen (k := 0) (n := 0) (by omega) (by omega) ?_
            exact W.zret (v := 1) (ty := .boolean) hx hb hr (by decide) (fun t ht hWm => ⟨⟨1, (), rfl, (by first | exact Or.inl rfl | exact Or.inr rfl), ⟨F_23, QT.mk ht hP hD hO hR⟩⟩, hS.F ht⟩) hS.2.2 dX0_isUnder_76
          ·
            have hne : z_4 ≠ z_13 := fun h => c_28 (by rw [h])
            refine lv_aload_n hx hb dX0_isUnder_50 rfl (lv_at hl 0 rfl) ?_
            refine pg_get (ci := 0) (v := .ref r0) (C := RX0) (T := TX0) (N := 3) hx hb hts it_0 hown hK hP hL_h0 hF_24 rfl 0 (by decide) (hts _ kt_12) (fun _ h9 => h9) rfl dX0_isUnder_51 ?_
            refine lv_aload_n hx hb dX0_isUnder_54 rfl (lv_at hl 0 rfl) ?_
            refine pg_get (ci := 0) (v := .int (nI z_4)) (C := RX0) (T := TX0) (N := 3) hx hb hts it_0 hown hK hP hL_h0 hF_24 rfl 1 (by decide) (hts _ kt_10) (fun _ h9 => h9) rfl dX0_isUnder_55 ?_
            refine lv_aload_n hx hb dX0_isUnder_58 rfl (lv_at hl 1 rfl) ?_
            refine pg_get (ci := 0) (v := .int (nI z_13)) (C := RX0) (T := TX0) (N := 3) hx hb hts it_0 hown hK hP hL_g1 hF_25 rfl 1 (by decide) (hts _ kt_10) (fun _ h9 => h9) rfl dX0_isUnder_59 ?_
            refine lv_isub hx hb dX0_isUnder_62 ?_
            refine lv_topi (fun x_31 ex_31 => ?_)
            obtain rfl : x_31 = (nI (z_4 - z_13)) := ex_31.trans (pk_sub (by omega))
            refine lv_iconst (v := 1) hx hb dX0_isUnder_63 (by decide) ?_
            refine lv_isub hx hb dX0_isUnder_64 ?_
            refine lv_topi (fun x_32 ex_32 => ?_)
            obtain rfl : x_32 = (nI (z_4 - z_13 - 1)) := ex_32.trans (pk_sub (b := 1) (by omega))
            obtain ⟨f_33, hF_34⟩ := hO.ints hi_1 ht_2
            refine pg_iald hx hb hK hP hi_1 0 hF_34 rfl (vp_in_nI (by omega) (by omega)) dX0_isUnder_65 ?_
            refine lv_topi (fun x_35 _ => ?_)
            refine lv_bipush (v := 46) hx hb dX0_isUnder_66 (by decide) ?_
            refine lv_icmp_ne (tgt := 75) hx hb dX0_isUnder_68 (by decide) (fun c_36 => ?_) (fun c_36 => ?_)
            ·
              refine lv_iconst (v := 0) hx hb dX0_isUnder_75 (by decide) ?_
              refine W.widen (k := 0) (n := 0) (by omega) (by omega) ?_
              exact W.zret (v := 0) (ty := .boolean) hx hb hr (by decide) (fun t ht hWm => ⟨⟨0, (), rfl, (by first | exact Or.inl rfl | exact Or.inr rfl), ⟨F_23, QT.mk ht hP hD hO hR⟩⟩, hS.F ht⟩) hS.2.2 dX0_isUnder_76
            ·
              refine lv_iconst (v := 1) hx hb dX0_isUnder_71 (by decide) ?_
              refine lv_goto (tgt := 76) hx hb dX0_isUnder_72 (by decide) ?_
              refine W.widen (k := 0) (n := 0) (by omega) (by omega) ?_
              exact W.zret (v := 1) (ty := .boolean) hx hb hr (by decide) (fun t ht hWm => ⟨⟨1, (), rfl, (by first | exact Or.inl rfl | exact Or.inr rfl), ⟨F_23, QT.mk ht hP hD hO hR⟩⟩, hS.F ht⟩) hS.2.2 dX0_isUnder_76
        ·
          refine lv_iconst (v := 0) hx hb dX0_isUnder_37 (by decide) ?_
          refine W.widen (k := 0) (n := 0) (by omega) (by omega) ?_
          exact W.zret (v := 0) (ty := .boolean) hx hb hr (by decide) (fun t ht hWm => ⟨⟨0, (), rfl, (by first | exact Or.inl rfl | exact Or.inr rfl), ⟨F_23, QT.mk ht hP hD hO hR⟩⟩, hS.F ht⟩) hS.2.2 dX0_isUnder_38
set_option maxHeartbeats 4000000 in
set_option maxRecDepth 100000 in
theorem s_X0_decode (l : Launch) (dC : Nat → ClassId) (dI : Nat → Nat → Nat) (cs : Nat → ClassId) (ty : TyM) (L : List Nat) (sz : Nat) (F : Nat → va_E) (h0 : Nat) (ρ : Nat) (r0 : Nat) (n : Nat) (g1 : Nat) (σ : Nat) (r1 : Nat) (n1 : Nat) (x2 : Int32) (x3 : Int32) (x4 : Int32) (hW : WT ty L) (hL_h0 : h0 ∈ L) (hT_h0 : ty h0 = (0, ρ, [r0, n])) (hL_g1 : g1 ∈ L) (hT_g1 : ty g1 = (0, σ, [r1, n1])) : Met l yX0_decode (.code yX0_decode cX0_decode 10 (some .boolean) :: tb) ({ frames := 2, cells := 0, slots := 0, locals := 40 }) (va_Pc [.ref h0, .ref g1, .int x2, .int x3, .int x4] (PT (dC, dI) cs ty L F sz)) (va_Qi (fun (r : Int32) (_ : Unit) => (r = 0 ∨ r = 1)) (fun _ T9 => ∃ F2 : Nat → va_E, QT (dC, dI) cs ty L [ρ] F F2 (va_A (va_pl L F) sz) T9) (va_A (va_pl L F) sz)) 0 0 (va_A (va_pl L F) sz) := by
  refine Met.ofW (cc := cX0_decode) (maxL := 10) (ret := (some .boolean)) (by decide) rfl ?_
  intro p e s m args below meth c s₁ B hml hv
  obtain ⟨rfl, hsz, hP, hK, hD0, hE, hO⟩ := hv
  have hx := B.exec
  have hb := B.bytes
  have hr := B.returns
  have hts : ∀ w ∈ tb, w.before _ s = true := fun w h => atoms_spec (ws := .code yX0_decode cX0_decode 10 (some .boolean) :: tb) B.pre w (List.mem_cons_of_mem _ h)
  have hown : s.vm.findClass RX0 = some m.cls := findClass_of_methodNamed B.named
  have hlocks := B.notSynchronized
  subst hsz
  have hD := hD0.self (sz := s.heap.size)
  generalize hAe : va_A (va_pl L F) s.heap.size = A at hD ⊢
  have hA : ∀ q : Nat, s.heap.size ≤ q → A q := fun q h => by rw [← hAe]; exact Or.inr h
  have hS : va_S A s.heap s.heap [] := va_S.rf
  have hR : FR ty [ρ] F F := FR.refl
  have hl := lv_entry ([.ref h0, .ref g1, .int x2, .int x3, .int x4]) (n := 10) (Nat.le_of_ble_eq_true rfl)
  rw [lg_entry_eq]
  generalize (lg_sl ([.ref h0, .ref g1, .int x2, .int x3, .int x4]) ++ List.replicate (10 - (lg_sl ([.ref h0, .ref g1, .int x2, .int x3, .int x4])).length) Slot.unset).toArray = ls at hl ⊢
  have hl : lv_has ls 10 [(0, .ref h0), (1, .ref g1), (2, .int x2), (3, .int x3), (4, .int x4)] := hl
  refine lv_aload_n hx hb dX0_decode_0 rfl (lv_at hl 0 rfl) ?_
  have hFc := pg_free hD hS hA
  obtain ⟨hi_1, ht_2, hq_3⟩ := hW.bytes hL_h0 hT_h0
  obtain ⟨z_4, o_5, hF_6, hq_7, hq_8⟩ := hO.bytes hL_h0 hT_h0
  refine va_callv (va_runV (As := []) (rest := []) ⟨hx, hb, hml, hown, hts⟩ (s_X0_clear l dC dI cs ty L s.heap.size F h0 ρ r0 n hW hL_h0 hT_h0) ⟨callB_of 0 hts (gi kt_32) rfl rfl rfl (hts _ kt_1) (hts _ kt_33) (by decide +kernel) ⟨Nat.le_of_ble_eq_true rfl, Nat.le_of_ble_eq_true rfl⟩, (hts _ kt_34), (hts _ kt_35)⟩ ⟨fun a U g mk q => ⟨q.1, PT.calling q.2⟩, pg_recv hK hP hL_h0 hF_6 (q := (RX0, TX0, 3)) rfl, fun U hU hWm => ⟨rfl, PT.mk hU hWm hP hK hD hE hO⟩⟩ rfl rfl hl.1 rfl (lv_room (Nat.le_of_ble_eq_true rfl)) dX0_decode_1 ⟨by show _ + 0 ≤ 0; omega, by show _ + 0 ≤ 0; omega⟩) hS (fun q _ h => hFc q h) hFc (fun u t H1 locs ht hvm hw hB hz1 hk1 hS => ?_)
  obtain ⟨F_10, hB1, hq_11⟩ := hB
  obtain ⟨hP, hD, hO, hR⟩ := QT.back hB1 ht hFc hR (fun q h => by simp only [List.mem_cons, List.not_mem_nil, or_false] at h ⊢; omega)
  generalize H1 = H at hP hS ⊢
  refine lv_iload hx hb dX0_decode_4 (lv_at hl 4 rfl) ?_
  refine lv_iconst (v := 4) hx hb dX0_decode_6 (by decide) ?_
  refine lv_imul hx hb dX0_decode_7 ?_
  refine lv_topi (fun x_12 _ => ?_)
  refine lv_iconst (v := 2) hx hb dX0_decode_8 (by decide) ?_
  refine lv_iadd hx hb dX0_decode_9 ?_
  refine lv_topi (fun x_13 _ => ?_)
  refine lv_iconst (v := 3) hx hb dX0_decode_10 (by decide) ?_
  refine lv_idiv hx hb dX0_decode_11 (by decide) ?_
  refine lv_topi (fun x_14 _ => ?_)
  refine lv_istore (lv' := [(5, .int x_14), (0, .ref h0), (1, .ref g1), (2, .int x2), (3, .int x3), (4, .int x4)]) hx hb dX0_decode_12 hl (by decide) rfl (fun ls hl => ?_)
  refine lv_iload_n hx hb dX0_decode_14 rfl (lv_at hl 4 rfl) ?_
  refine lv_iload_n hx hb dX0_decode_15 rfl (lv_at hl 3 rfl) ?_
  refine lv_isub hx hb dX0_decode_16 ?_
  refine lv_topi (fun x_15 _ => ?_)
  refine lv_iload hx hb dX0_decode_17 (lv_at hl 5 rfl) ?_
  refine lv_iconst (v := 2) hx hb dX0_decode_19 (by decide) ?_
  refine lv_iadd hx hb dX0_decode_20 ?_
  refine lv_topi (fun x_16 _ => ?_)
  refine lv_iconst (v := 3) hx hb dX0_decode_21 (by decide) ?_
  refine lv_idiv hx hb dX0_decode_22 (by decide) ?_
  refine lv_topi (fun x_17 _ => ?_)
  refine lv_iconst (v := 4) hx hb dX0_decode_23 (by decide) ?_
  refine lv_imul hx hb dX0_decode_24 ?_
  refine lv_topi (fun x_18 _ => ?_)
  refine lv_icmp_eq (tgt := 30) hx hb dX0_decode_25 (by decide) (fun c_19 => ?_) (fun c_19 => ?_)
  ·
    refine lv_iconst (v := 0) hx hb dX0_decode_30 (by decide) ?_
    refine lv_istore (lv' := [(6, .int 0), (5, .int x_14), (0, .ref h0), (1, .ref g1), (2, .int x2), (3, .int x3), (4, .int x4)]) hx hb dX0_decode_31 hl (by decide) rfl (fun ls hl => ?_)
    refine lv_iconst (v := 0) hx hb dX0_decode_33 (by decide) ?_
    refine lv_istore (lv' := [(7, .int 0), (6, .int 0), (5, .int x_14), (0, .ref h0), (1, .ref g1), (2, .int x2), (3, .int x3), (4, .int x4)]) hx hb dX0_decode_34 hl (by decide) rfl (fun ls hl => ?_)
    refine lv_iload_n hx hb dX0_decode_36 rfl (lv_at hl 5 rfl) ?_
    refine lv_istore (lv' := [(8, .int x2), (7, .int 0), (6, .int 0), (5, .int x_14), (0, .ref h0), (1, .ref g1), (2, .int x2), (3, .int x3), (4, .int x4)]) hx hb dX0_decode_37 hl (by decide) rfl (fun ls hl => ?_)
    refine W.widen (k := 0) (n := 0) (by omega) (by omega) ?_
    refine pl_loop (σ := Int32 × Int32 × Int32) A (dC, dI) cs ty L [ρ] F 39 10 (fun (i1, v6, v7) => [(8, .int i1), (7, .int v7), (6, .int v6), (5, .int x_14), (0, .ref h0), (1, .ref g1), (2, .int x2), (3, .int x3), (4, .int x4)]) (fun (i1, v6, v7) => []) (fun (i1, v6, v7) _ => True) (fun (i1, v6, v7) => ((x2 + x_14).toInt - i1.toInt).toNat) ?_ (x2, 0, 0) F_10 (trivial) hO hR _ _ hP hD hS ls (lv_sub hl [0, 1, 2, 3, 4, 5, 6, 7, 8] rfl)
    rintro ⟨i1, v6, v7⟩ F_20 hv_21 hO hR ih_22 H locs hP hD hS ls hl
    have hl : lv_has ls 10 [(8, .int i1), (7, .int v7), (6, .int v6), (5, .int x_14), (0, .ref h0), (1, .ref g1), (2, .int x2), (3, .int x3), (4, .int x4)] := hl
    have hv_21 : True := hv_21
    refine W.eq (g2 := F0 m 39 ls []) rfl ?_
    refine lv_iload hx hb dX0_decode_39 (lv_at hl 0 rfl) ?_
    refine lv_iload_n hx hb dX0_decode_41 rfl (lv_at hl 6 rfl) ?_
    refine lv_iload hx hb dX0_decode_42 (lv_at hl 3 rfl) ?_
    refine lv_iadd hx hb dX0_decode_44 ?_
    refine lv_topi (fun x_23 ex_23 => ?_)
    obtain rfl : x_23 = (x2 + x_14) := ex_23.trans (rfl)
    refine lv_icmp_ge (tgt := 115) hx hb dX0_decode_45 (by decide) (fun c_24 => ?_) (fun c_24 => ?_)
    ·
      refine lv_iload_n hx hb dX0_decode_115 rfl (lv_at hl 6 rfl) ?_
      refine lv_iload hx hb dX0_decode_116 (lv_at hl 3 rfl) ?_
      refine lv_iadd hx hb dX0_decode_118 ?_
      refine lv_topi (fun x_25 _ => ?_)
      refine lv_istore (lv' := [(8, .int x_25), (7, .int v7), (6, .int v6), (5, .int x_14), (0, .ref h0), (1, .ref g1), (2, .int x2), (3, .int x3), (4, .int x4)]) hx hb dX0_decode_119 hl (by decide) rfl (fun ls hl => ?_)
      refine W.widen (k := 0) (n := 0) (by omega) (by omega) ?_
      refine pl_loop (σ := Int32) A (dC, dI) cs ty L [ρ] F 121 10 (fun i2 => [(8, .int i2), (6, .int v6), (5, .int x_14), (0, .ref h0), (1, .ref g1), (2, .int x2), (3, .int x3), (4, .int x4)]) (fun i2 => []) (fun i2 _ => True) (fun i2 => (x3.toInt - i2.toInt).toNat) ?_ x_25 F_20 (trivial) hO hR _ _ hP hD hS ls (lv_sub hl [0, 2, 3, 4, 5, 6, 7, 8] rfl)
      rintro i2 F_26 hv_27 hO hR ih_28 H locs hP hD hS ls hl
      have hl : lv_has ls 10 [(8, .int i2), (6, .int v6), (5, .int x_14), (0, .ref h0), (1, .ref g1), (2, .int x2), (3, .int x3), (4, .int x4)] := hl
      have hv_27 : True := hv_27
      refine W.eq (g2 := F0 m 121 ls []) rfl ?_
      refine lv_iload hx hb dX0_decode_121 (lv_at hl 0 rfl) ?_
      refine lv_iload_n hx hb dX0_decode_123 rfl (lv_at hl 6 rfl) ?_
      refine lv_icmp_ge (tgt := 146) hx hb dX0_decode_124 (by decide) (fun c_29 => ?_) (fun c_29 => ?_)
      ·
        refine lv_iload hx hb dX0_decode_146 (lv_at hl 1 rfl) ?_
        refine lv_if_ne (tgt := 155) hx hb dX0_decode_148 (by decide) (fun c_30 => ?_) (fun c_30 => ?_)
        ·
          refine lv_iconst (v := 0) hx hb dX0_decode_155 (by decide) ?_
          refine W.widen (k := 0) (n := 0) (by omega) (by omega) ?_
          exact W.zret (v := 0) (ty := .boolean) hx hb hr (by decide) (fun t ht hWm => ⟨⟨0, (), rfl, (by first | exact Or.inl rfl | exact Or.inr rfl), ⟨F_26, QT.mk ht hP hD hO hR⟩⟩, hS.F ht⟩) hS.2.2 dX0_decode_156
        ·
          refine lv_iconst (v := 1) hx hb dX0_decode_151 (by decide) ?_
          refine lv_goto (tgt := 156) hx hb dX0_decode_152 (by decide) ?_
          refine W.widen (k := 0) (n := 0) (by omega) (by omega) ?_
          exact W.zret (v := 1) (ty := .boolean) hx hb hr (by decide) (fun t ht hWm => ⟨⟨1, (), rfl, (by first | exact Or.inl rfl | exact Or.inr rfl), ⟨F_26, QT.mk ht hP hD hO hR⟩⟩, hS.F ht⟩) hS.2.2 dX0_decode_156
      ·
        refine lv_aload_n hx hb dX0_decode_127 rfl (lv_at hl 4 rfl) ?_
        refine lv_iload hx hb dX0_decode_128 (lv_at hl 0 rfl) ?_
        have hFc := pg_free hD hS hA
        obtain ⟨hi_31, ht_32, hq_33⟩ := hW.bytes hL_g1 hT_g1
        obtain ⟨z_34, o_35, hF_36, hq_37, hq_38⟩ := hO.bytes hL_g1 hT_g1
        refine va_calli (va_runV (As := [.int i2]) (rest := []) ⟨hx, hb, hml, hown, hts⟩ (s_X0_at l dC dI cs ty L H.size F_26 g1 σ r1 n1 i2 hW hL_g1 hT_g1) ⟨callB_of 1 hts (gi kt_21) rfl rfl rfl (hts _ kt_1) (hts _ kt_22) (by decide +kernel) ⟨Nat.le_of_ble_eq_true rfl, Nat.le_of_ble_eq_true rfl⟩, (hts _ kt_23), (hts _ kt_24)⟩ ⟨fun a U g mk q => ⟨q.1, PT.calling q.2⟩, pg_recv hK hP hL_g1 hF_36 (q := (RX0, TX0, 3)) rfl, fun U hU hWm => ⟨rfl, PT.mk hU hWm hP hK hD hE hO⟩⟩ rfl rfl hl.1 rfl (lv_room (Nat.le_of_ble_eq_true rfl)) dX0_decode_130 ⟨by show _ + 0 ≤ 0; omega, by show _ + 0 ≤ 0; omega⟩) hS (fun q _ h => hFc q h) hFc (fun r_39 u t H1 locs ht hvm hw hB hz1 hk1 hS => ?_)
        obtain ⟨F_40, hB1⟩ := hB
        obtain ⟨hP, hD, hO, hR⟩ := QT.back hB1 ht hFc hR (fun q h => absurd h List.not_mem_nil)
        have hF_41 : F_40 g1 = .inr (0, [.ref r1, .int (nI z_34), .int o_35]) := (hB1.2.2.2 g1 List.not_mem_nil).trans hF_36
        generalize H1 = H at hP hS ⊢
        have hw : True := hw
        have hw_42 := hw
        refine lv_bipush (v := 61) hx hb dX0_decode_133 (by decide) ?_
        refine lv_icmp_eq (tgt := 140) hx hb dX0_decode_135 (by decide) (fun c_43 => ?_) (fun c_43 => ?_)
        ·
          obtain ⟨x_44, ex_44⟩ : ∃ y : Int32, y = i2 + Int32.ofInt 1 := ⟨_, rfl⟩
          refine lv_iinc (v := x_44) (lv' := [(8, .int x_44), (6, .int v6), (5, .int x_14), (0, .ref h0), (1, .ref g1), (2, .int x2), (3, .int x3), (4, .int x4)]) hx hb dX0_decode_140 hl (k := 0) rfl (ex_44.symm) (by decide) rfl (fun ls hl => ?_)
          refine lv_goto (tgt := 121) hx hb dX0_decode_143 (by decide) ?_
          refine W.widen (k := 0) (n := 0) (by omega) (by omega) ?_
          exact ih_28 x_44 F_40 (trivial) (by show (x3.toInt - x_44.toInt).toNat < (x3.toInt - i2.toInt).toNat; exact incN ex_44 c_29) hO hR _ _ hP hD hS ls (lv_sub hl [0, 1, 2, 3, 4, 5, 6, 7] rfl)
        ·
          refine lv_iconst (v := 0) hx hb dX0_decode_138 (by decide) ?_
          refine W.widen (k := 0) (n := 0) (by omega) (by omega) ?_
          exact W.zret (v := 0) (ty := .boolean) hx hb hr (by decide) (fun t ht hWm => ⟨⟨0, (), rfl, (by first | exact Or.inl rfl | exact Or.inr rfl), ⟨F_40, QT.mk ht hP hD hO hR⟩⟩, hS.F ht⟩) hS.2.2 dX0_decode_139
    ·
      refine lv_aload_n hx hb dX0_decode_48 rfl (lv_at hl 5 rfl) ?_
      refine lv_iload hx hb dX0_decode_49 (lv_at hl 0 rfl) ?_
      have hFc := pg_free hD hS hA
      obtain ⟨hi_45, ht_46, hq_47⟩ := hW.bytes hL_g1 hT_g1
      obtain ⟨z_48, o_49, hF_50, hq_51, hq_52⟩ := hO.bytes hL_g1 hT_g1
      refine va_calli (va_runV (As := [.int i1]) (rest := []) ⟨hx, hb, hml, hown, hts⟩ (s_X0_at l dC dI cs ty L H.size F_20 g1 σ r1 n1 i1 hW hL_g1 hT_g1) ⟨callB_of 1 hts (gi kt_21) rfl rfl rfl (hts _ kt_1) (hts _ kt_22) (by decide +kernel) ⟨Nat.le_of_ble_eq_true rfl, Nat.le_of_ble_eq_true rfl⟩, (hts _ kt_23), (hts _ kt_24)⟩ ⟨fun a U g mk q => ⟨q.1, PT.calling q.2⟩, pg_recv hK hP hL_g1 hF_50 (q := (RX0, TX0, 3)) rfl, fun U hU hWm => ⟨rfl, PT.mk hU hWm hP hK hD hE hO⟩⟩ rfl rfl hl.1 rfl (lv_room (Nat.le_of_ble_eq_true rfl)) dX0_decode_51 ⟨by show _ + 0 ≤ 0; omega, by show _ + 0 ≤ 0; omega⟩) hS (fun q _ h => hFc q h) hFc (fun r_53 u t H1 locs ht hvm hw hB hz1 hk1 hS => ?_)
      obtain ⟨F_54, hB1⟩ := hB
      obtain ⟨hP, hD, hO, hR⟩ := QT.back hB1 ht hFc hR (fun q h => absurd h List.not_mem_nil)
      have hF_55 : F_54 g1 = .inr (0, [.ref r1, .int (nI z_48), .int o_49]) := (hB1.2.2.2 g1 List.not_mem_nil).trans hF_50
      generalize H1 = H at hP hS ⊢
      have hw : True := hw
      have hw_56 := hw
      have hFc := pg_free hD hS hA
      refine va_calli (va_runS (As := [.int r_53]) (rest := []) ⟨hx, hb, hml, hown, hts⟩ (s_X0_sixOf l dC dI cs ty L H.size F_54 r_53 hW ) ⟨callB_of 1 hts (gi kt_44) rfl rfl rfl (hts _ kt_1) (hts _ kt_45) (by decide +kernel) ⟨Nat.le_of_ble_eq_true rfl, Nat.le_of_ble_eq_true rfl⟩, (hts _ kt_46)⟩ ⟨fun a U g mk q => ⟨q.1, PT.calling q.2⟩, fun U hU hWm => ⟨rfl, PT.mk hU hWm hP hK hD hE hO⟩⟩ rfl rfl hl.1 rfl (lv_room (Nat.le_of_ble_eq_true rfl)) dX0_decode_54 ⟨by show _ + 0 ≤ 0; omega, by show _ + 0 ≤ 0; omega⟩) hS (fun q _ h => hFc q h) hFc (fun r_57 u t H1 locs ht hvm hw hB hz1 hk1 hS => ?_)
      obtain ⟨F_58, hB1⟩ := hB
      obtain ⟨hP, hD, hO, hR⟩ := QT.back hB1 ht hFc hR (fun q h => absurd h List.not_mem_nil)
      have hF_59 : F_58 g1 = .inr (0, [.ref r1, .int (nI z_48), .int o_49]) := (hB1.2.2.2 g1 List.not_mem_nil).trans hF_55
      generalize H1 = H at hP hS ⊢
      have hw : True := hw
      have hw_60 := hw
      refine lv_istore (lv' := [(9, .int r_57), (8, .int i1), (7, .int v7), (6, .int v6), (5, .int x_14), (0, .ref h0), (1, .ref g1), (2, .int x2), (3, .int x3), (4, .int x4)]) hx hb dX0_decode_57 hl (by decide) rfl (fun ls hl => ?_)
      refine lv_iload hx hb dX0_decode_59 (lv_at hl 0 rfl) ?_
      refine lv_if_ge (tgt := 66) hx hb dX0_decode_61 (by decide) (fun c_61 => ?_) (fun c_61 => ?_)
      ·
        refine lv_iload hx hb dX0_decode_66 (lv_at hl 3 rfl) ?_
        refine lv_bipush (v := 6) hx hb dX0_decode_68 (by decide) ?_
        refine lv_ishl hx hb dX0_decode_70 ?_
        refine lv_topi (fun x_62 _ => ?_)
        refine lv_iload hx hb dX0_decode_71 (lv_at hl 0 rfl) ?_
        refine lv_ior hx hb dX0_decode_73 ?_
        refine lv_topi (fun x_63 _ => ?_)
        refine lv_istore (lv' := [(6, .int x_63), (9, .int r_57), (8, .int i1), (7, .int v7), (5, .int x_14), (0, .ref h0), (1, .ref g1), (2, .int x2), (3, .int x3), (4, .int x4)]) hx hb dX0_decode_74 hl (by decide) rfl (fun ls hl => ?_)
        obtain ⟨x_64, ex_64⟩ : ∃ y : Int32, y = v7 + Int32.ofInt 6 := ⟨_, rfl⟩
        refine lv_iinc (v := x_64) (lv' := [(7, .int x_64), (6, .int x_63), (9, .int r_57), (8, .int i1), (5, .int x_14), (0, .ref h0), (1, .ref g1), (2, .int x2), (3, .int x3), (4, .int x4)]) hx hb dX0_decode_76 hl (k := 3) rfl (ex_64.symm) (by decide) rfl (fun ls hl => ?_)
        refine lv_iload hx hb dX0_decode_79 (lv_at hl 0 rfl) ?_
        refine lv_bipush (v := 8) hx hb dX0_decode_81 (by decide) ?_
        refine lv_icmp_lt (tgt := 109) hx hb dX0_decode_83 (by decide) (fun c_65 => ?_) (fun c_65 => ?_)
        ·
          obtain ⟨x_66, ex_66⟩ : ∃ y : Int32, y = i1 + Int32.ofInt 1 := ⟨_, rfl⟩
          refine lv_iinc (v := x_66) (lv' := [(8, .int x_66), (7, .int x_64), (6, .int x_63), (9, .int r_57), (5, .int x_14), (0, .ref h0), (1, .ref g1), (2, .int x2), (3, .int x3), (4, .int x4)]) hx hb dX0_decode_109 hl (k := 3) rfl (ex_66.symm) (by decide) rfl (fun ls hl => ?_)
          refine lv_goto (tgt := 39) hx hb dX0_decode_112 (by decide) ?_
          refine W.widen (k := 0) (n := 0) (by omega) (by omega) ?_
          exact ih_22 (x_66, x_63, x_64) F_58 (trivial) (by show ((x2 + x_14).toInt - x_66.toInt).toNat < ((x2 + x_14).toInt - i1.toInt).toNat; exact incN ex_66 c_24) hO hR _ _ hP hD hS ls (lv_sub hl [0, 1, 2, 4, 5, 6, 7, 8, 9] rfl)
        ·
          obtain ⟨x_67, ex_67⟩ : ∃ y : Int32, y = x_64 + Int32.ofInt (-8) := ⟨_, rfl⟩
          refine lv_iinc (v := x_67) (lv' := [(7, .int x_67), (6, .int x_63), (9, .int r_57), (8, .int i1), (5, .int x_14), (0, .ref h0), (1, .ref g1), (2, .int x2), (3, .int x3), (4, .int x4)]) hx hb dX0_decode_86 hl (k := 0) rfl (ex_67.symm) (by decide) rfl (fun ls hl => ?_)
          refine lv_aload_n hx hb dX0_decode_89 rfl (lv_at hl 5 rfl) ?_
          refine lv_iload hx hb dX0_decode_90 (lv_at hl 1 rfl) ?_
          refine lv_iload hx hb dX0_decode_92 (lv_at hl 0 rfl) ?_
          refine lv_iushr hx hb dX0_decode_94 rfl ?_
          refine lv_topi (fun x_69 _ => ?_)
          have hFc := pg_free hD hS hA
          obtain ⟨z_70, o_71, hF_72, hq_73, hq_74⟩ := hO.bytes hL_h0 hT_h0
          refine va_callv (va_runV (As := [.int x_69]) (rest := []) ⟨hx, hb, hml, hown, hts⟩ (s_X0_add l dC dI cs ty L H.size F_58 h0 ρ r0 n x_69 hW hL_h0 hT_h0) ⟨callB_of 1 hts (gi kt_13) rfl rfl rfl (hts _ kt_1) (hts _ kt_14) (by decide +kernel) ⟨Nat.le_of_ble_eq_true rfl, Nat.le_of_ble_eq_true rfl⟩, (hts _ kt_15), (hts _ kt_16)⟩ ⟨fun a U g mk q => ⟨q.1, PT.calling q.2⟩, pg_recv hK hP hL_h0 hF_72 (q := (RX0, TX0, 3)) rfl, fun U hU hWm => ⟨rfl, PT.mk hU hWm hP hK hD hE hO⟩⟩ rfl rfl hl.1 rfl (lv_room (Nat.le_of_ble_eq_true rfl)) dX0_decode_95 ⟨by show _ + 0 ≤ 0; omega, by show _ + 0 ≤ 0; omega⟩) hS (fun q _ h => hFc q h) hFc (fun u t H1 locs ht hvm hw hB hz1 hk1 hS => ?_)
          obtain ⟨F_76, hB1⟩ := hB
          obtain ⟨hP, hD, hO, hR⟩ := QT.back hB1 ht hFc hR (fun q h => by simp only [List.mem_cons, List.not_mem_nil, or_false] at h ⊢; omega)
          generalize H1 = H at hP hS ⊢
          refine lv_iload hx hb dX0_decode_98 (lv_at hl 1 rfl) ?_
          refine lv_iconst (v := 1) hx hb dX0_decode_100 (by decide) ?_
          refine lv_iload hx hb dX0_decode_101 (lv_at hl 0 rfl) ?_
          refine lv_ishl hx hb dX0_decode_103 ?_
          refine lv_topi (fun x_77 _ => ?_)
          refine lv_iconst (v := 1) hx hb dX0_decode_104 (by decide) ?_
          refine lv_isub hx hb dX0_decode_105 ?_
          refine lv_topi (fun x_78 _ => ?_)
          refine lv_iand hx hb dX0_decode_106 ?_
          refine lv_topi (fun x_79 _ => ?_)
          refine lv_istore (lv' := [(6, .int x_79), (7, .int x_67), (9, .int r_57), (8, .int i1), (5, .int x_14), (0, .ref h0), (1, .ref g1), (2, .int x2), (3, .int x3), (4, .int x4)]) hx hb dX0_decode_107 hl (by decide) rfl (fun ls hl => ?_)
          obtain ⟨x_80, ex_80⟩ : ∃ y : Int32, y = i1 + Int32.ofInt 1 := ⟨_, rfl⟩
          refine lv_iinc (v := x_80) (lv' := [(8, .int x_80), (6, .int x_79), (7, .int x_67), (9, .int r_57), (5, .int x_14), (0, .ref h0), (1, .ref g1), (2, .int x2), (3, .int x3), (4, .int x4)]) hx hb dX0_decode_109 hl (k := 3) rfl (ex_80.symm) (by decide) rfl (fun ls hl => ?_)
          refine lv_goto (tgt := 39) hx hb dX0_decode_112 (by decide) ?_
          refine W.widen (k := 0) (n := 0) (by omega) (by omega) ?_
          exact ih_22 (x_80, x_79, x_67) F_76 (trivial) (by show ((x2 + x_14).toInt - x_80.toInt).toNat < ((x2 + x_14).toInt - i1.toInt).toNat; exact incN ex_80 c_24) hO hR _ _ hP hD hS ls (lv_sub hl [0, 2, 1, 4, 5, 6, 7, 8, 9] rfl)
      ·
        refine lv_iconst (v := 0) hx hb dX0_decode_64 (by decide) ?_
        refine W.widen (k := 0) (n := 0) (by omega) (by omega) ?_
        exact W.zret (v := 0) (ty := .boolean) hx hb hr (by decide) (fun t ht hWm => ⟨⟨0, (), rfl, (by first | exact Or.inl rfl | exact Or.inr rfl), ⟨F_58, QT.mk ht hP hD hO hR⟩⟩, hS.F ht⟩) hS.2.2 dX0_decode_65
  ·
    refine lv_iconst (v := 0) hx hb dX0_decode_28 (by decide) ?_
    refine W.widen (k := 0) (n := 0) (by omega) (by omega) ?_
    exact W.zret (v := 0) (ty := .boolean) hx hb hr (by decide) (fun t ht hWm => ⟨⟨0, (), rfl, (by first | exact Or.inl rfl | exact Or.inr rfl), ⟨F_10, QT.mk ht hP hD hO hR⟩⟩, hS.F ht⟩) hS.2.2 dX0_decode_29
