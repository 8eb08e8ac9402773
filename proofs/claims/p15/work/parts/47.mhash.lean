theorem dJ6_rotateRight_7cf53_0 : decode cJ6_rotateRight_7cf53 0 = .ok (.iload_n 0, 1) := by decide +kernel
theorem dJ6_rotateRight_7cf53_1 : decode cJ6_rotateRight_7cf53 1 = .ok (.iload_n 1, 1) := by decide +kernel
theorem dJ6_rotateRight_7cf53_2 : decode cJ6_rotateRight_7cf53 2 = .ok (.iushr, 1) := by decide +kernel
theorem dJ6_rotateRight_7cf53_3 : decode cJ6_rotateRight_7cf53 3 = .ok (.iload_n 0, 1) := by decide +kernel
theorem dJ6_rotateRight_7cf53_4 : decode cJ6_rotateRight_7cf53 4 = .ok (.iload_n 1, 1) := by decide +kernel
theorem dJ6_rotateRight_7cf53_5 : decode cJ6_rotateRight_7cf53 5 = .ok (.ineg, 1) := by decide +kernel
theorem dJ6_rotateRight_7cf53_6 : decode cJ6_rotateRight_7cf53 6 = .ok (.ishl, 1) := by decide +kernel
theorem dJ6_rotateRight_7cf53_7 : decode cJ6_rotateRight_7cf53 7 = .ok (.ior, 1) := by decide +kernel
theorem dJ6_rotateRight_7cf53_8 : decode cJ6_rotateRight_7cf53 8 = .ok (.ireturn, 1) := by decide +kernel
theorem dX12_add_0 : decode cX12_add 0 = .ok (.iload_n 2, 1) := by decide +kernel
theorem dX12_add_1 : decode cX12_add 1 = .ok (.istore 4, 2) := by decide +kernel
theorem dX12_add_3 : decode cX12_add 3 = .ok (.iload 4, 2) := by decide +kernel
theorem dX12_add_5 : decode cX12_add 5 = .ok (.iload_n 2, 1) := by decide +kernel
theorem dX12_add_6 : decode cX12_add 6 = .ok (.iload_n 3, 1) := by decide +kernel
theorem dX12_add_7 : decode cX12_add 7 = .ok (.iadd, 1) := by decide +kernel
theorem dX12_add_8 : decode cX12_add 8 = .ok (.if_icmp .ge 17, 3) := by decide +kernel
theorem dX12_add_11 : decode cX12_add 11 = .ok (.aload_n 0, 1) := by decide +kernel
theorem dX12_add_12 : decode cX12_add 12 = .ok (.aload_n 1, 1) := by decide +kernel
theorem dX12_add_13 : decode cX12_add 13 = .ok (.iload 4, 2) := by decide +kernel
theorem dX12_add_15 : decode cX12_add 15 = .ok (.baload, 1) := by decide +kernel
theorem dX12_add_16 : decode cX12_add 16 = .ok (.invokevirtual 65, 3) := by decide +kernel
theorem dX12_add_19 : decode cX12_add 19 = .ok (.iinc 4 1, 3) := by decide +kernel
theorem dX12_add_22 : decode cX12_add 22 = .ok (.goto (-19), 3) := by decide +kernel
theorem dX12_add_25 : decode cX12_add 25 = .ok (.return_, 1) := by decide +kernel
theorem dX12_begin_0 : decode cX12_begin 0 = .ok (.aload_n 0, 1) := by decide +kernel
theorem dX12_begin_1 : decode cX12_begin 1 = .ok (.getfield 9, 3) := by decide +kernel
theorem dX12_begin_4 : decode cX12_begin 4 = .ok (.iconst 0, 1) := by decide +kernel
theorem dX12_begin_5 : decode cX12_begin 5 = .ok (.aload_n 0, 1) := by decide +kernel
theorem dX12_begin_6 : decode cX12_begin 6 = .ok (.getfield 13, 3) := by decide +kernel
theorem dX12_begin_9 : decode cX12_begin 9 = .ok (.iconst 0, 1) := by decide +kernel
theorem dX12_begin_10 : decode cX12_begin 10 = .ok (.bipush 8, 2) := by decide +kernel
theorem dX12_begin_12 : decode cX12_begin 12 = .ok (.invokestatic 48, 3) := by decide +kernel
theorem dX12_begin_15 : decode cX12_begin 15 = .ok (.aload_n 0, 1) := by decide +kernel
theorem dX12_begin_16 : decode cX12_begin 16 = .ok (.iconst 0, 1) := by decide +kernel
theorem dX12_begin_17 : decode cX12_begin 17 = .ok (.putfield 54, 3) := by decide +kernel
theorem dX12_begin_20 : decode cX12_begin 20 = .ok (.aload_n 0, 1) := by decide +kernel
theorem dX12_begin_21 : decode cX12_begin 21 = .ok (.lconst 0, 1) := by decide +kernel
theorem dX12_begin_22 : decode cX12_begin 22 = .ok (.putfield 58, 3) := by decide +kernel
theorem dX12_begin_25 : decode cX12_begin 25 = .ok (.return_, 1) := by decide +kernel
theorem dX12_finish_0 : decode cX12_finish 0 = .ok (.ldc2_w 69, 3) := by decide +kernel
theorem dX12_finish_3 : decode cX12_finish 3 = .ok (.aload_n 0, 1) := by decide +kernel
theorem dX12_finish_4 : decode cX12_finish 4 = .ok (.getfield 58, 3) := by decide +kernel
theorem dX12_finish_7 : decode cX12_finish 7 = .ok (.lmul, 1) := by decide +kernel
theorem dX12_finish_8 : decode cX12_finish 8 = .ok (.lstore_n 3, 1) := by decide +kernel
theorem dX12_finish_9 : decode cX12_finish 9 = .ok (.aload_n 0, 1) := by decide +kernel
theorem dX12_finish_10 : decode cX12_finish 10 = .ok (.sipush 128, 3) := by decide +kernel
theorem dX12_finish_13 : decode cX12_finish 13 = .ok (.invokevirtual 65, 3) := by decide +kernel
theorem dX12_finish_16 : decode cX12_finish 16 = .ok (.aload_n 0, 1) := by decide +kernel
theorem dX12_finish_17 : decode cX12_finish 17 = .ok (.getfield 54, 3) := by decide +kernel
theorem dX12_finish_20 : decode cX12_finish 20 = .ok (.bipush 56, 2) := by decide +kernel
theorem dX12_finish_22 : decode cX12_finish 22 = .ok (.if_icmp .eq 11, 3) := by decide +kernel
theorem dX12_finish_25 : decode cX12_finish 25 = .ok (.aload_n 0, 1) := by decide +kernel
theorem dX12_finish_26 : decode cX12_finish 26 = .ok (.iconst 0, 1) := by decide +kernel
theorem dX12_finish_27 : decode cX12_finish 27 = .ok (.invokevirtual 65, 3) := by decide +kernel
theorem dX12_finish_30 : decode cX12_finish 30 = .ok (.goto (-14), 3) := by decide +kernel
theorem dX12_finish_33 : decode cX12_finish 33 = .ok (.aload_n 0, 1) := by decide +kernel
theorem dX12_finish_34 : decode cX12_finish 34 = .ok (.lload_n 3, 1) := by decide +kernel
theorem dX12_finish_35 : decode cX12_finish 35 = .ok (.bipush 32, 2) := by decide +kernel
theorem dX12_finish_37 : decode cX12_finish 37 = .ok (.lushr, 1) := by decide +kernel
theorem dX12_finish_38 : decode cX12_finish 38 = .ok (.l2i, 1) := by decide +kernel
theorem dX12_finish_39 : decode cX12_finish 39 = .ok (.invokevirtual 71, 3) := by decide +kernel
theorem dX12_finish_42 : decode cX12_finish 42 = .ok (.aload_n 0, 1) := by decide +kernel
theorem dX12_finish_43 : decode cX12_finish 43 = .ok (.lload_n 3, 1) := by decide +kernel
theorem dX12_finish_44 : decode cX12_finish 44 = .ok (.l2i, 1) := by decide +kernel
theorem dX12_finish_45 : decode cX12_finish 45 = .ok (.invokevirtual 71, 3) := by decide +kernel
theorem dX12_finish_48 : decode cX12_finish 48 = .ok (.iconst 0, 1) := by decide +kernel
theorem dX12_finish_49 : decode cX12_finish 49 = .ok (.istore 5, 2) := by decide +kernel
theorem dX12_finish_51 : decode cX12_finish 51 = .ok (.iload 5, 2) := by decide +kernel
theorem dX12_finish_53 : decode cX12_finish 53 = .ok (.bipush 32, 2) := by decide +kernel
theorem dX12_finish_55 : decode cX12_finish 55 = .ok (.if_icmp .ge 36, 3) := by decide +kernel
theorem dX12_finish_58 : decode cX12_finish 58 = .ok (.aload_n 1, 1) := by decide +kernel
theorem dX12_finish_59 : decode cX12_finish 59 = .ok (.iload_n 2, 1) := by decide +kernel
theorem dX12_finish_60 : decode cX12_finish 60 = .ok (.iload 5, 2) := by decide +kernel
theorem dX12_finish_62 : decode cX12_finish 62 = .ok (.iadd, 1) := by decide +kernel
theorem dX12_finish_63 : decode cX12_finish 63 = .ok (.aload_n 0, 1) := by decide +kernel
theorem dX12_finish_64 : decode cX12_finish 64 = .ok (.getfield 13, 3) := by decide +kernel
theorem dX12_finish_67 : decode cX12_finish 67 = .ok (.iload 5, 2) := by decide +kernel
theorem dX12_finish_69 : decode cX12_finish 69 = .ok (.iconst 4, 1) := by decide +kernel
theorem dX12_finish_70 : decode cX12_finish 70 = .ok (.idiv, 1) := by decide +kernel
theorem dX12_finish_71 : decode cX12_finish 71 = .ok (.iaload, 1) := by decide +kernel
theorem dX12_finish_72 : decode cX12_finish 72 = .ok (.bipush 24, 2) := by decide +kernel
theorem dX12_finish_74 : decode cX12_finish 74 = .ok (.bipush 8, 2) := by decide +kernel
theorem dX12_finish_76 : decode cX12_finish 76 = .ok (.iload 5, 2) := by decide +kernel
theorem dX12_finish_78 : decode cX12_finish 78 = .ok (.iconst 4, 1) := by decide +kernel
theorem dX12_finish_79 : decode cX12_finish 79 = .ok (.irem, 1) := by decide +kernel
theorem dX12_finish_80 : decode cX12_finish 80 = .ok (.imul, 1) := by decide +kernel
theorem dX12_finish_81 : decode cX12_finish 81 = .ok (.isub, 1) := by decide +kernel
theorem dX12_finish_82 : decode cX12_finish 82 = .ok (.ishr, 1) := by decide +kernel
theorem dX12_finish_83 : decode cX12_finish 83 = .ok (.i2b, 1) := by decide +kernel
theorem dX12_finish_84 : decode cX12_finish 84 = .ok (.bastore, 1) := by decide +kernel
theorem dX12_finish_85 : decode cX12_finish 85 = .ok (.iinc 5 1, 3) := by decide +kernel
theorem dX12_finish_88 : decode cX12_finish 88 = .ok (.goto (-37), 3) := by decide +kernel
theorem dX12_finish_91 : decode cX12_finish 91 = .ok (.return_, 1) := by decide +kernel
theorem dX12_four_0 : decode cX12_four 0 = .ok (.bipush 24, 2) := by decide +kernel
theorem dX12_four_2 : decode cX12_four 2 = .ok (.istore_n 2, 1) := by decide +kernel
theorem dX12_four_3 : decode cX12_four 3 = .ok (.iload_n 2, 1) := by decide +kernel
theorem dX12_four_4 : decode cX12_four 4 = .ok (.ifCond .lt 16, 3) := by decide +kernel
theorem dX12_four_7 : decode cX12_four 7 = .ok (.aload_n 0, 1) := by decide +kernel
theorem dX12_four_8 : decode cX12_four 8 = .ok (.iload_n 1, 1) := by decide +kernel
theorem dX12_four_9 : decode cX12_four 9 = .ok (.iload_n 2, 1) := by decide +kernel
theorem dX12_four_10 : decode cX12_four 10 = .ok (.ishr, 1) := by decide +kernel
theorem dX12_four_11 : decode cX12_four 11 = .ok (.invokevirtual 65, 3) := by decide +kernel
theorem dX12_four_14 : decode cX12_four 14 = .ok (.iinc 2 (-8), 3) := by decide +kernel
theorem dX12_four_17 : decode cX12_four 17 = .ok (.goto (-14), 3) := by decide +kernel
theorem dX12_four_20 : decode cX12_four 20 = .ok (.return_, 1) := by decide +kernel
theorem dX12_one_0 : decode cX12_one 0 = .ok (.aload_n 0, 1) := by decide +kernel
theorem dX12_one_1 : decode cX12_one 1 = .ok (.getfield 22, 3) := by decide +kernel
theorem dX12_one_4 : decode cX12_one 4 = .ok (.aload_n 0, 1) := by decide +kernel
theorem dX12_one_5 : decode cX12_one 5 = .ok (.getfield 54, 3) := by decide +kernel
theorem dX12_one_8 : decode cX12_one 8 = .ok (.iload_n 1, 1) := by decide +kernel
theorem dX12_one_9 : decode cX12_one 9 = .ok (.i2b, 1) := by decide +kernel
theorem dX12_one_10 : decode cX12_one 10 = .ok (.bastore, 1) := by decide +kernel
theorem dX12_one_11 : decode cX12_one 11 = .ok (.aload_n 0, 1) := by decide +kernel
theorem dX12_one_12 : decode cX12_one 12 = .ok (.dup, 1) := by decide +kernel
theorem dX12_one_13 : decode cX12_one 13 = .ok (.getfield 54, 3) := by decide +kernel
theorem dX12_one_16 : decode cX12_one 16 = .ok (.iconst 1, 1) := by decide +kernel
theorem dX12_one_17 : decode cX12_one 17 = .ok (.iadd, 1) := by decide +kernel
theorem dX12_one_18 : decode cX12_one 18 = .ok (.putfield 54, 3) := by decide +kernel
theorem dX12_one_21 : decode cX12_one 21 = .ok (.aload_n 0, 1) := by decide +kernel
theorem dX12_one_22 : decode cX12_one 22 = .ok (.dup, 1) := by decide +kernel
theorem dX12_one_23 : decode cX12_one 23 = .ok (.getfield 58, 3) := by decide +kernel
theorem dX12_one_26 : decode cX12_one 26 = .ok (.lconst 1, 1) := by decide +kernel
theorem dX12_one_27 : decode cX12_one 27 = .ok (.ladd, 1) := by decide +kernel
theorem dX12_one_28 : decode cX12_one 28 = .ok (.putfield 58, 3) := by decide +kernel
theorem dX12_one_31 : decode cX12_one 31 = .ok (.aload_n 0, 1) := by decide +kernel
theorem dX12_one_32 : decode cX12_one 32 = .ok (.getfield 54, 3) := by decide +kernel
theorem dX12_one_35 : decode cX12_one 35 = .ok (.bipush 64, 2) := by decide +kernel
theorem dX12_one_37 : decode cX12_one 37 = .ok (.if_icmp .ge 4, 3) := by decide +kernel
theorem dX12_one_40 : decode cX12_one 40 = .ok (.return_, 1) := by decide +kernel
theorem dX12_one_41 : decode cX12_one 41 = .ok (.aload_n 0, 1) := by decide +kernel
theorem dX12_one_42 : decode cX12_one 42 = .ok (.invokevirtual 62, 3) := by decide +kernel
theorem dX12_one_45 : decode cX12_one 45 = .ok (.aload_n 0, 1) := by decide +kernel
theorem dX12_one_46 : decode cX12_one 46 = .ok (.iconst 0, 1) := by decide +kernel
theorem dX12_one_47 : decode cX12_one 47 = .ok (.putfield 54, 3) := by decide +kernel
theorem dX12_one_50 : decode cX12_one 50 = .ok (.return_, 1) := by decide +kernel
theorem dX12_round_0 : decode cX12_round 0 = .ok (.iconst 0, 1) := by decide +kernel
theorem dX12_round_1 : decode cX12_round 1 = .ok (.istore_n 1, 1) := by decide +kernel
theorem dX12_round_2 : decode cX12_round 2 = .ok (.iload_n 1, 1) := by decide +kernel
theorem dX12_round_3 : decode cX12_round 3 = .ok (.bipush 16, 2) := by decide +kernel
theorem dX12_round_5 : decode cX12_round 5 = .ok (.if_icmp .ge 77, 3) := by decide +kernel
theorem dX12_round_8 : decode cX12_round 8 = .ok (.aload_n 0, 1) := by decide +kernel
theorem dX12_round_9 : decode cX12_round 9 = .ok (.getfield 16, 3) := by decide +kernel
theorem dX12_round_12 : decode cX12_round 12 = .ok (.iload_n 1, 1) := by decide +kernel
theorem dX12_round_13 : decode cX12_round 13 = .ok (.aload_n 0, 1) := by decide +kernel
theorem dX12_round_14 : decode cX12_round 14 = .ok (.getfield 22, 3) := by decide +kernel
theorem dX12_round_17 : decode cX12_round 17 = .ok (.iconst 4, 1) := by decide +kernel
theorem dX12_round_18 : decode cX12_round 18 = .ok (.iload_n 1, 1) := by decide +kernel
theorem dX12_round_19 : decode cX12_round 19 = .ok (.imul, 1) := by decide +kernel
theorem dX12_round_20 : decode cX12_round 20 = .ok (.baload, 1) := by decide +kernel
theorem dX12_round_21 : decode cX12_round 21 = .ok (.bipush 24, 2) := by decide +kernel
theorem dX12_round_23 : decode cX12_round 23 = .ok (.ishl, 1) := by decide +kernel
theorem dX12_round_24 : decode cX12_round 24 = .ok (.aload_n 0, 1) := by decide +kernel
theorem dX12_round_25 : decode cX12_round 25 = .ok (.getfield 22, 3) := by decide +kernel
theorem dX12_round_28 : decode cX12_round 28 = .ok (.iconst 4, 1) := by decide +kernel
theorem dX12_round_29 : decode cX12_round 29 = .ok (.iload_n 1, 1) := by decide +kernel
theorem dX12_round_30 : decode cX12_round 30 = .ok (.imul, 1) := by decide +kernel
theorem dX12_round_31 : decode cX12_round 31 = .ok (.iconst 1, 1) := by decide +kernel
theorem dX12_round_32 : decode cX12_round 32 = .ok (.iadd, 1) := by decide +kernel
theorem dX12_round_33 : decode cX12_round 33 = .ok (.baload, 1) := by decide +kernel
theorem dX12_round_34 : decode cX12_round 34 = .ok (.sipush 255, 3) := by decide +kernel
theorem dX12_round_37 : decode cX12_round 37 = .ok (.iand, 1) := by decide +kernel
theorem dX12_round_38 : decode cX12_round 38 = .ok (.bipush 16, 2) := by decide +kernel
theorem dX12_round_40 : decode cX12_round 40 = .ok (.ishl, 1) := by decide +kernel
theorem dX12_round_41 : decode cX12_round 41 = .ok (.ior, 1) := by decide +kernel
theorem dX12_round_42 : decode cX12_round 42 = .ok (.aload_n 0, 1) := by decide +kernel
theorem dX12_round_43 : decode cX12_round 43 = .ok (.getfield 22, 3) := by decide +kernel
theorem dX12_round_46 : decode cX12_round 46 = .ok (.iconst 4, 1) := by decide +kernel
theorem dX12_round_47 : decode cX12_round 47 = .ok (.iload_n 1, 1) := by decide +kernel
theorem dX12_round_48 : decode cX12_round 48 = .ok (.imul, 1) := by decide +kernel
theorem dX12_round_49 : decode cX12_round 49 = .ok (.iconst 2, 1) := by decide +kernel
theorem dX12_round_50 : decode cX12_round 50 = .ok (.iadd, 1) := by decide +kernel
theorem dX12_round_51 : decode cX12_round 51 = .ok (.baload, 1) := by decide +kernel
theorem dX12_round_52 : decode cX12_round 52 = .ok (.sipush 255, 3) := by decide +kernel
theorem dX12_round_55 : decode cX12_round 55 = .ok (.iand, 1) := by decide +kernel
theorem dX12_round_56 : decode cX12_round 56 = .ok (.bipush 8, 2) := by decide +kernel
theorem dX12_round_58 : decode cX12_round 58 = .ok (.ishl, 1) := by decide +kernel
theorem dX12_round_59 : decode cX12_round 59 = .ok (.ior, 1) := by decide +kernel
theorem dX12_round_60 : decode cX12_round 60 = .ok (.aload_n 0, 1) := by decide +kernel
theorem dX12_round_61 : decode cX12_round 61 = .ok (.getfield 22, 3) := by decide +kernel
theorem dX12_round_64 : decode cX12_round 64 = .ok (.iconst 4, 1) := by decide +kernel
theorem dX12_round_65 : decode cX12_round 65 = .ok (.iload_n 1, 1) := by decide +kernel
theorem dX12_round_66 : decode cX12_round 66 = .ok (.imul, 1) := by decide +kernel
theorem dX12_round_67 : decode cX12_round 67 = .ok (.iconst 3, 1) := by decide +kernel
theorem dX12_round_68 : decode cX12_round 68 = .ok (.iadd, 1) := by decide +kernel
theorem dX12_round_69 : decode cX12_round 69 = .ok (.baload, 1) := by decide +kernel
theorem dX12_round_70 : decode cX12_round 70 = .ok (.sipush 255, 3) := by decide +kernel
theorem dX12_round_73 : decode cX12_round 73 = .ok (.iand, 1) := by decide +kernel
theorem dX12_round_74 : decode cX12_round 74 = .ok (.ior, 1) := by decide +kernel
theorem dX12_round_75 : decode cX12_round 75 = .ok (.iastore, 1) := by decide +kernel
theorem dX12_round_76 : decode cX12_round 76 = .ok (.iinc 1 1, 3) := by decide +kernel
theorem dX12_round_79 : decode cX12_round 79 = .ok (.goto (-77), 3) := by decide +kernel
theorem dX12_round_82 : decode cX12_round 82 = .ok (.bipush 16, 2) := by decide +kernel
theorem dX12_round_84 : decode cX12_round 84 = .ok (.istore_n 1, 1) := by decide +kernel
theorem dX12_round_85 : decode cX12_round 85 = .ok (.iload_n 1, 1) := by decide +kernel
theorem dX12_round_86 : decode cX12_round 86 = .ok (.bipush 64, 2) := by decide +kernel
theorem dX12_round_88 : decode cX12_round 88 = .ok (.if_icmp .ge 90, 3) := by decide +kernel
theorem dX12_round_91 : decode cX12_round 91 = .ok (.aload_n 0, 1) := by decide +kernel
theorem dX12_round_92 : decode cX12_round 92 = .ok (.getfield 16, 3) := by decide +kernel
theorem dX12_round_95 : decode cX12_round 95 = .ok (.iload_n 1, 1) := by decide +kernel
theorem dX12_round_96 : decode cX12_round 96 = .ok (.bipush 15, 2) := by decide +kernel
theorem dX12_round_98 : decode cX12_round 98 = .ok (.isub, 1) := by decide +kernel
theorem dX12_round_99 : decode cX12_round 99 = .ok (.iaload, 1) := by decide +kernel
theorem dX12_round_100 : decode cX12_round 100 = .ok (.istore_n 2, 1) := by decide +kernel
theorem dX12_round_101 : decode cX12_round 101 = .ok (.aload_n 0, 1) := by decide +kernel
theorem dX12_round_102 : decode cX12_round 102 = .ok (.getfield 16, 3) := by decide +kernel
theorem dX12_round_105 : decode cX12_round 105 = .ok (.iload_n 1, 1) := by decide +kernel
theorem dX12_round_106 : decode cX12_round 106 = .ok (.iconst 2, 1) := by decide +kernel
theorem dX12_round_107 : decode cX12_round 107 = .ok (.isub, 1) := by decide +kernel
theorem dX12_round_108 : decode cX12_round 108 = .ok (.iaload, 1) := by decide +kernel
theorem dX12_round_109 : decode cX12_round 109 = .ok (.istore_n 3, 1) := by decide +kernel
theorem dX12_round_110 : decode cX12_round 110 = .ok (.aload_n 0, 1) := by decide +kernel
theorem dX12_round_111 : decode cX12_round 111 = .ok (.getfield 16, 3) := by decide +kernel
theorem dX12_round_114 : decode cX12_round 114 = .ok (.iload_n 1, 1) := by decide +kernel
theorem dX12_round_115 : decode cX12_round 115 = .ok (.aload_n 0, 1) := by decide +kernel
theorem dX12_round_116 : decode cX12_round 116 = .ok (.getfield 16, 3) := by decide +kernel
theorem dX12_round_119 : decode cX12_round 119 = .ok (.iload_n 1, 1) := by decide +kernel
theorem dX12_round_120 : decode cX12_round 120 = .ok (.bipush 16, 2) := by decide +kernel
theorem dX12_round_122 : decode cX12_round 122 = .ok (.isub, 1) := by decide +kernel
theorem dX12_round_123 : decode cX12_round 123 = .ok (.iaload, 1) := by decide +kernel
theorem dX12_round_124 : decode cX12_round 124 = .ok (.iload_n 2, 1) := by decide +kernel
theorem dX12_round_125 : decode cX12_round 125 = .ok (.bipush 7, 2) := by decide +kernel
theorem dX12_round_127 : decode cX12_round 127 = .ok (.invokestatic 74, 3) := by decide +kernel
theorem dX12_round_130 : decode cX12_round 130 = .ok (.iload_n 2, 1) := by decide +kernel
theorem dX12_round_131 : decode cX12_round 131 = .ok (.bipush 18, 2) := by decide +kernel
theorem dX12_round_133 : decode cX12_round 133 = .ok (.invokestatic 74, 3) := by decide +kernel
theorem dX12_round_136 : decode cX12_round 136 = .ok (.ixor, 1) := by decide +kernel
theorem dX12_round_137 : decode cX12_round 137 = .ok (.iload_n 2, 1) := by decide +kernel
theorem dX12_round_138 : decode cX12_round 138 = .ok (.iconst 3, 1) := by decide +kernel
theorem dX12_round_139 : decode cX12_round 139 = .ok (.iushr, 1) := by decide +kernel
theorem dX12_round_140 : decode cX12_round 140 = .ok (.ixor, 1) := by decide +kernel
theorem dX12_round_141 : decode cX12_round 141 = .ok (.iadd, 1) := by decide +kernel
theorem dX12_round_142 : decode cX12_round 142 = .ok (.aload_n 0, 1) := by decide +kernel
theorem dX12_round_143 : decode cX12_round 143 = .ok (.getfield 16, 3) := by decide +kernel
theorem dX12_round_146 : decode cX12_round 146 = .ok (.iload_n 1, 1) := by decide +kernel
theorem dX12_round_147 : decode cX12_round 147 = .ok (.bipush 7, 2) := by decide +kernel
theorem dX12_round_149 : decode cX12_round 149 = .ok (.isub, 1) := by decide +kernel
theorem dX12_round_150 : decode cX12_round 150 = .ok (.iaload, 1) := by decide +kernel
theorem dX12_round_151 : decode cX12_round 151 = .ok (.iadd, 1) := by decide +kernel
theorem dX12_round_152 : decode cX12_round 152 = .ok (.iload_n 3, 1) := by decide +kernel
theorem dX12_round_153 : decode cX12_round 153 = .ok (.bipush 17, 2) := by decide +kernel
theorem dX12_round_155 : decode cX12_round 155 = .ok (.invokestatic 74, 3) := by decide +kernel
theorem dX12_round_158 : decode cX12_round 158 = .ok (.iload_n 3, 1) := by decide +kernel
theorem dX12_round_159 : decode cX12_round 159 = .ok (.bipush 19, 2) := by decide +kernel
theorem dX12_round_161 : decode cX12_round 161 = .ok (.invokestatic 74, 3) := by decide +kernel
theorem dX12_round_164 : decode cX12_round 164 = .ok (.ixor, 1) := by decide +kernel
theorem dX12_round_165 : decode cX12_round 165 = .ok (.iload_n 3, 1) := by decide +kernel
theorem dX12_round_166 : decode cX12_round 166 = .ok (.bipush 10, 2) := by decide +kernel
theorem dX12_round_168 : decode cX12_round 168 = .ok (.iushr, 1) := by decide +kernel
theorem dX12_round_169 : decode cX12_round 169 = .ok (.ixor, 1) := by decide +kernel
theorem dX12_round_170 : decode cX12_round 170 = .ok (.iadd, 1) := by decide +kernel
theorem dX12_round_171 : decode cX12_round 171 = .ok (.iastore, 1) := by decide +kernel
theorem dX12_round_172 : decode cX12_round 172 = .ok (.iinc 1 1, 3) := by decide +kernel
theorem dX12_round_175 : decode cX12_round 175 = .ok (.goto (-90), 3) := by decide +kernel
theorem dX12_round_178 : decode cX12_round 178 = .ok (.aload_n 0, 1) := by decide +kernel
theorem dX12_round_179 : decode cX12_round 179 = .ok (.getfield 13, 3) := by decide +kernel
theorem dX12_round_182 : decode cX12_round 182 = .ok (.iconst 0, 1) := by decide +kernel
theorem dX12_round_183 : decode cX12_round 183 = .ok (.iaload, 1) := by decide +kernel
theorem dX12_round_184 : decode cX12_round 184 = .ok (.istore_n 1, 1) := by decide +kernel
theorem dX12_round_185 : decode cX12_round 185 = .ok (.aload_n 0, 1) := by decide +kernel
theorem dX12_round_186 : decode cX12_round 186 = .ok (.getfield 13, 3) := by decide +kernel
theorem dX12_round_189 : decode cX12_round 189 = .ok (.iconst 1, 1) := by decide +kernel
theorem dX12_round_190 : decode cX12_round 190 = .ok (.iaload, 1) := by decide +kernel
theorem dX12_round_191 : decode cX12_round 191 = .ok (.istore_n 2, 1) := by decide +kernel
theorem dX12_round_192 : decode cX12_round 192 = .ok (.aload_n 0, 1) := by decide +kernel
theorem dX12_round_193 : decode cX12_round 193 = .ok (.getfield 13, 3) := by decide +kernel
theorem dX12_round_196 : decode cX12_round 196 = .ok (.iconst 2, 1) := by decide +kernel
theorem dX12_round_197 : decode cX12_round 197 = .ok (.iaload, 1) := by decide +kernel
theorem dX12_round_198 : decode cX12_round 198 = .ok (.istore_n 3, 1) := by decide +kernel
theorem dX12_round_199 : decode cX12_round 199 = .ok (.aload_n 0, 1) := by decide +kernel
theorem dX12_round_200 : decode cX12_round 200 = .ok (.getfield 13, 3) := by decide +kernel
theorem dX12_round_203 : decode cX12_round 203 = .ok (.iconst 3, 1) := by decide +kernel
theorem dX12_round_204 : decode cX12_round 204 = .ok (.iaload, 1) := by decide +kernel
theorem dX12_round_205 : decode cX12_round 205 = .ok (.istore 4, 2) := by decide +kernel
theorem dX12_round_207 : decode cX12_round 207 = .ok (.aload_n 0, 1) := by decide +kernel
theorem dX12_round_208 : decode cX12_round 208 = .ok (.getfield 13, 3) := by decide +kernel
theorem dX12_round_211 : decode cX12_round 211 = .ok (.iconst 4, 1) := by decide +kernel
theorem dX12_round_212 : decode cX12_round 212 = .ok (.iaload, 1) := by decide +kernel
theorem dX12_round_213 : decode cX12_round 213 = .ok (.istore 5, 2) := by decide +kernel
theorem dX12_round_215 : decode cX12_round 215 = .ok (.aload_n 0, 1) := by decide +kernel
theorem dX12_round_216 : decode cX12_round 216 = .ok (.getfield 13, 3) := by decide +kernel
theorem dX12_round_219 : decode cX12_round 219 = .ok (.iconst 5, 1) := by decide +kernel
theorem dX12_round_220 : decode cX12_round 220 = .ok (.iaload, 1) := by decide +kernel
theorem dX12_round_221 : decode cX12_round 221 = .ok (.istore 6, 2) := by decide +kernel
theorem dX12_round_223 : decode cX12_round 223 = .ok (.aload_n 0, 1) := by decide +kernel
theorem dX12_round_224 : decode cX12_round 224 = .ok (.getfield 13, 3) := by decide +kernel
theorem dX12_round_227 : decode cX12_round 227 = .ok (.bipush 6, 2) := by decide +kernel
theorem dX12_round_229 : decode cX12_round 229 = .ok (.iaload, 1) := by decide +kernel
theorem dX12_round_230 : decode cX12_round 230 = .ok (.istore 7, 2) := by decide +kernel
theorem dX12_round_232 : decode cX12_round 232 = .ok (.aload_n 0, 1) := by decide +kernel
theorem dX12_round_233 : decode cX12_round 233 = .ok (.getfield 13, 3) := by decide +kernel
theorem dX12_round_236 : decode cX12_round 236 = .ok (.bipush 7, 2) := by decide +kernel
theorem dX12_round_238 : decode cX12_round 238 = .ok (.iaload, 1) := by decide +kernel
theorem dX12_round_239 : decode cX12_round 239 = .ok (.istore 8, 2) := by decide +kernel
theorem dX12_round_241 : decode cX12_round 241 = .ok (.iconst 0, 1) := by decide +kernel
theorem dX12_round_242 : decode cX12_round 242 = .ok (.istore 9, 2) := by decide +kernel
theorem dX12_round_244 : decode cX12_round 244 = .ok (.iload 9, 2) := by decide +kernel
theorem dX12_round_246 : decode cX12_round 246 = .ok (.bipush 64, 2) := by decide +kernel
theorem dX12_round_248 : decode cX12_round 248 = .ok (.if_icmp .ge 132, 3) := by decide +kernel
theorem dX12_round_251 : decode cX12_round 251 = .ok (.iload 8, 2) := by decide +kernel
theorem dX12_round_253 : decode cX12_round 253 = .ok (.iload 5, 2) := by decide +kernel
theorem dX12_round_255 : decode cX12_round 255 = .ok (.bipush 6, 2) := by decide +kernel
theorem dX12_round_257 : decode cX12_round 257 = .ok (.invokestatic 74, 3) := by decide +kernel
theorem dX12_round_260 : decode cX12_round 260 = .ok (.iload 5, 2) := by decide +kernel
theorem dX12_round_262 : decode cX12_round 262 = .ok (.bipush 11, 2) := by decide +kernel
theorem dX12_round_264 : decode cX12_round 264 = .ok (.invokestatic 74, 3) := by decide +kernel
theorem dX12_round_267 : decode cX12_round 267 = .ok (.ixor, 1) := by decide +kernel
theorem dX12_round_268 : decode cX12_round 268 = .ok (.iload 5, 2) := by decide +kernel
theorem dX12_round_270 : decode cX12_round 270 = .ok (.bipush 25, 2) := by decide +kernel
theorem dX12_round_272 : decode cX12_round 272 = .ok (.invokestatic 74, 3) := by decide +kernel
theorem dX12_round_275 : decode cX12_round 275 = .ok (.ixor, 1) := by decide +kernel
theorem dX12_round_276 : decode cX12_round 276 = .ok (.iadd, 1) := by decide +kernel
theorem dX12_round_277 : decode cX12_round 277 = .ok (.iload 5, 2) := by decide +kernel
theorem dX12_round_279 : decode cX12_round 279 = .ok (.iload 6, 2) := by decide +kernel
theorem dX12_round_281 : decode cX12_round 281 = .ok (.iand, 1) := by decide +kernel
theorem dX12_round_282 : decode cX12_round 282 = .ok (.iload 5, 2) := by decide +kernel
theorem dX12_round_284 : decode cX12_round 284 = .ok (.iconst (-1), 1) := by decide +kernel
theorem dX12_round_285 : decode cX12_round 285 = .ok (.ixor, 1) := by decide +kernel
theorem dX12_round_286 : decode cX12_round 286 = .ok (.iload 7, 2) := by decide +kernel
theorem dX12_round_288 : decode cX12_round 288 = .ok (.iand, 1) := by decide +kernel
theorem dX12_round_289 : decode cX12_round 289 = .ok (.ixor, 1) := by decide +kernel
theorem dX12_round_290 : decode cX12_round 290 = .ok (.iadd, 1) := by decide +kernel
theorem dX12_round_291 : decode cX12_round 291 = .ok (.aload_n 0, 1) := by decide +kernel
theorem dX12_round_292 : decode cX12_round 292 = .ok (.getfield 19, 3) := by decide +kernel
theorem dX12_round_295 : decode cX12_round 295 = .ok (.iload 9, 2) := by decide +kernel
theorem dX12_round_297 : decode cX12_round 297 = .ok (.iaload, 1) := by decide +kernel
theorem dX12_round_298 : decode cX12_round 298 = .ok (.iadd, 1) := by decide +kernel
theorem dX12_round_299 : decode cX12_round 299 = .ok (.aload_n 0, 1) := by decide +kernel
theorem dX12_round_300 : decode cX12_round 300 = .ok (.getfield 16, 3) := by decide +kernel
theorem dX12_round_303 : decode cX12_round 303 = .ok (.iload 9, 2) := by decide +kernel
theorem dX12_round_305 : decode cX12_round 305 = .ok (.iaload, 1) := by decide +kernel
theorem dX12_round_306 : decode cX12_round 306 = .ok (.iadd, 1) := by decide +kernel
theorem dX12_round_307 : decode cX12_round 307 = .ok (.istore 10, 2) := by decide +kernel
theorem dX12_round_309 : decode cX12_round 309 = .ok (.iload_n 1, 1) := by decide +kernel
theorem dX12_round_310 : decode cX12_round 310 = .ok (.iconst 2, 1) := by decide +kernel
theorem dX12_round_311 : decode cX12_round 311 = .ok (.invokestatic 74, 3) := by decide +kernel
theorem dX12_round_314 : decode cX12_round 314 = .ok (.iload_n 1, 1) := by decide +kernel
theorem dX12_round_315 : decode cX12_round 315 = .ok (.bipush 13, 2) := by decide +kernel
theorem dX12_round_317 : decode cX12_round 317 = .ok (.invokestatic 74, 3) := by decide +kernel
theorem dX12_round_320 : decode cX12_round 320 = .ok (.ixor, 1) := by decide +kernel
theorem dX12_round_321 : decode cX12_round 321 = .ok (.iload_n 1, 1) := by decide +kernel
theorem dX12_round_322 : decode cX12_round 322 = .ok (.bipush 22, 2) := by decide +kernel
theorem dX12_round_324 : decode cX12_round 324 = .ok (.invokestatic 74, 3) := by decide +kernel
theorem dX12_round_327 : decode cX12_round 327 = .ok (.ixor, 1) := by decide +kernel
theorem dX12_round_328 : decode cX12_round 328 = .ok (.iload_n 1, 1) := by decide +kernel
theorem dX12_round_329 : decode cX12_round 329 = .ok (.iload_n 2, 1) := by decide +kernel
theorem dX12_round_330 : decode cX12_round 330 = .ok (.iand, 1) := by decide +kernel
theorem dX12_round_331 : decode cX12_round 331 = .ok (.iload_n 1, 1) := by decide +kernel
theorem dX12_round_332 : decode cX12_round 332 = .ok (.iload_n 3, 1) := by decide +kernel
theorem dX12_round_333 : decode cX12_round 333 = .ok (.iand, 1) := by decide +kernel
theorem dX12_round_334 : decode cX12_round 334 = .ok (.ixor, 1) := by decide +kernel
theorem dX12_round_335 : decode cX12_round 335 = .ok (.iload_n 2, 1) := by decide +kernel
theorem dX12_round_336 : decode cX12_round 336 = .ok (.iload_n 3, 1) := by decide +kernel
theorem dX12_round_337 : decode cX12_round 337 = .ok (.iand, 1) := by decide +kernel
theorem dX12_round_338 : decode cX12_round 338 = .ok (.ixor, 1) := by decide +kernel
theorem dX12_round_339 : decode cX12_round 339 = .ok (.iadd, 1) := by decide +kernel
theorem dX12_round_340 : decode cX12_round 340 = .ok (.istore 11, 2) := by decide +kernel
theorem dX12_round_342 : decode cX12_round 342 = .ok (.iload 7, 2) := by decide +kernel
theorem dX12_round_344 : decode cX12_round 344 = .ok (.istore 8, 2) := by decide +kernel
theorem dX12_round_346 : decode cX12_round 346 = .ok (.iload 6, 2) := by decide +kernel
theorem dX12_round_348 : decode cX12_round 348 = .ok (.istore 7, 2) := by decide +kernel
theorem dX12_round_350 : decode cX12_round 350 = .ok (.iload 5, 2) := by decide +kernel
theorem dX12_round_352 : decode cX12_round 352 = .ok (.istore 6, 2) := by decide +kernel
theorem dX12_round_354 : decode cX12_round 354 = .ok (.iload 4, 2) := by decide +kernel
theorem dX12_round_356 : decode cX12_round 356 = .ok (.iload 10, 2) := by decide +kernel
theorem dX12_round_358 : decode cX12_round 358 = .ok (.iadd, 1) := by decide +kernel
theorem dX12_round_359 : decode cX12_round 359 = .ok (.istore 5, 2) := by decide +kernel
theorem dX12_round_361 : decode cX12_round 361 = .ok (.iload_n 3, 1) := by decide +kernel
theorem dX12_round_362 : decode cX12_round 362 = .ok (.istore 4, 2) := by decide +kernel
theorem dX12_round_364 : decode cX12_round 364 = .ok (.iload_n 2, 1) := by decide +kernel
theorem dX12_round_365 : decode cX12_round 365 = .ok (.istore_n 3, 1) := by decide +kernel
theorem dX12_round_366 : decode cX12_round 366 = .ok (.iload_n 1, 1) := by decide +kernel
theorem dX12_round_367 : decode cX12_round 367 = .ok (.istore_n 2, 1) := by decide +kernel
theorem dX12_round_368 : decode cX12_round 368 = .ok (.iload 10, 2) := by decide +kernel
theorem dX12_round_370 : decode cX12_round 370 = .ok (.iload 11, 2) := by decide +kernel
theorem dX12_round_372 : decode cX12_round 372 = .ok (.iadd, 1) := by decide +kernel
theorem dX12_round_373 : decode cX12_round 373 = .ok (.istore_n 1, 1) := by decide +kernel
theorem dX12_round_374 : decode cX12_round 374 = .ok (.iinc 9 1, 3) := by decide +kernel
theorem dX12_round_377 : decode cX12_round 377 = .ok (.goto (-133), 3) := by decide +kernel
theorem dX12_round_380 : decode cX12_round 380 = .ok (.aload_n 0, 1) := by decide +kernel
theorem dX12_round_381 : decode cX12_round 381 = .ok (.getfield 13, 3) := by decide +kernel
theorem dX12_round_384 : decode cX12_round 384 = .ok (.iconst 0, 1) := by decide +kernel
theorem dX12_round_385 : decode cX12_round 385 = .ok (.dup2, 1) := by decide +kernel
theorem dX12_round_386 : decode cX12_round 386 = .ok (.iaload, 1) := by decide +kernel
theorem dX12_round_387 : decode cX12_round 387 = .ok (.iload_n 1, 1) := by decide +kernel
theorem dX12_round_388 : decode cX12_round 388 = .ok (.iadd, 1) := by decide +kernel
theorem dX12_round_389 : decode cX12_round 389 = .ok (.iastore, 1) := by decide +kernel
theorem dX12_round_390 : decode cX12_round 390 = .ok (.aload_n 0, 1) := by decide +kernel
theorem dX12_round_391 : decode cX12_round 391 = .ok (.getfield 13, 3) := by decide +kernel
theorem dX12_round_394 : decode cX12_round 394 = .ok (.iconst 1, 1) := by decide +kernel
theorem dX12_round_395 : decode cX12_round 395 = .ok (.dup2, 1) := by decide +kernel
theorem dX12_round_396 : decode cX12_round 396 = .ok (.iaload, 1) := by decide +kernel
theorem dX12_round_397 : decode cX12_round 397 = .ok (.iload_n 2, 1) := by decide +kernel
theorem dX12_round_398 : decode cX12_round 398 = .ok (.iadd, 1) := by decide +kernel
theorem dX12_round_399 : decode cX12_round 399 = .ok (.iastore, 1) := by decide +kernel
theorem dX12_round_400 : decode cX12_round 400 = .ok (.aload_n 0, 1) := by decide +kernel
theorem dX12_round_401 : decode cX12_round 401 = .ok (.getfield 13, 3) := by decide +kernel
theorem dX12_round_404 : decode cX12_round 404 = .ok (.iconst 2, 1) := by decide +kernel
theorem dX12_round_405 : decode cX12_round 405 = .ok (.dup2, 1) := by decide +kernel
theorem dX12_round_406 : decode cX12_round 406 = .ok (.iaload, 1) := by decide +kernel
theorem dX12_round_407 : decode cX12_round 407 = .ok (.iload_n 3, 1) := by decide +kernel
theorem dX12_round_408 : decode cX12_round 408 = .ok (.iadd, 1) := by decide +kernel
theorem dX12_round_409 : decode cX12_round 409 = .ok (.iastore, 1) := by decide +kernel
theorem dX12_round_410 : decode cX12_round 410 = .ok (.aload_n 0, 1) := by decide +kernel
theorem dX12_round_411 : decode cX12_round 411 = .ok (.getfield 13, 3) := by decide +kernel
theorem dX12_round_414 : decode cX12_round 414 = .ok (.iconst 3, 1) := by decide +kernel
theorem dX12_round_415 : decode cX12_round 415 = .ok (.dup2, 1) := by decide +kernel
theorem dX12_round_416 : decode cX12_round 416 = .ok (.iaload, 1) := by decide +kernel
theorem dX12_round_417 : decode cX12_round 417 = .ok (.iload 4, 2) := by decide +kernel
theorem dX12_round_419 : decode cX12_round 419 = .ok (.iadd, 1) := by decide +kernel
theorem dX12_round_420 : decode cX12_round 420 = .ok (.iastore, 1) := by decide +kernel
theorem dX12_round_421 : decode cX12_round 421 = .ok (.aload_n 0, 1) := by decide +kernel
theorem dX12_round_422 : decode cX12_round 422 = .ok (.getfield 13, 3) := by decide +kernel
theorem dX12_round_425 : decode cX12_round 425 = .ok (.iconst 4, 1) := by decide +kernel
theorem dX12_round_426 : decode cX12_round 426 = .ok (.dup2, 1) := by decide +kernel
theorem dX12_round_427 : decode cX12_round 427 = .ok (.iaload, 1) := by decide +kernel
theorem dX12_round_428 : decode cX12_round 428 = .ok (.iload 5, 2) := by decide +kernel
theorem dX12_round_430 : decode cX12_round 430 = .ok (.iadd, 1) := by decide +kernel
theorem dX12_round_431 : decode cX12_round 431 = .ok (.iastore, 1) := by decide +kernel
theorem dX12_round_432 : decode cX12_round 432 = .ok (.aload_n 0, 1) := by decide +kernel
theorem dX12_round_433 : decode cX12_round 433 = .ok (.getfield 13, 3) := by decide +kernel
theorem dX12_round_436 : decode cX12_round 436 = .ok (.iconst 5, 1) := by decide +kernel
theorem dX12_round_437 : decode cX12_round 437 = .ok (.dup2, 1) := by decide +kernel
theorem dX12_round_438 : decode cX12_round 438 = .ok (.iaload, 1) := by decide +kernel
theorem dX12_round_439 : decode cX12_round 439 = .ok (.iload 6, 2) := by decide +kernel
theorem dX12_round_441 : decode cX12_round 441 = .ok (.iadd, 1) := by decide +kernel
theorem dX12_round_442 : decode cX12_round 442 = .ok (.iastore, 1) := by decide +kernel
theorem dX12_round_443 : decode cX12_round 443 = .ok (.aload_n 0, 1) := by decide +kernel
theorem dX12_round_444 : decode cX12_round 444 = .ok (.getfield 13, 3) := by decide +kernel
theorem dX12_round_447 : decode cX12_round 447 = .ok (.bipush 6, 2) := by decide +kernel
theorem dX12_round_449 : decode cX12_round 449 = .ok (.dup2, 1) := by decide +kernel
theorem dX12_round_450 : decode cX12_round 450 = .ok (.iaload, 1) := by decide +kernel
theorem dX12_round_451 : decode cX12_round 451 = .ok (.iload 7, 2) := by decide +kernel
theorem dX12_round_453 : decode cX12_round 453 = .ok (.iadd, 1) := by decide +kernel
theorem dX12_round_454 : decode cX12_round 454 = .ok (.iastore, 1) := by decide +kernel
theorem dX12_round_455 : decode cX12_round 455 = .ok (.aload_n 0, 1) := by decide +kernel
theorem dX12_round_456 : decode cX12_round 456 = .ok (.getfield 13, 3) := by decide +kernel
theorem dX12_round_459 : decode cX12_round 459 = .ok (.bipush 7, 2) := by decide +kernel
theorem dX12_round_461 : decode cX12_round 461 = .ok (.dup2, 1) := by decide +kernel
theorem dX12_round_462 : decode cX12_round 462 = .ok (.iaload, 1) := by decide +kernel
theorem dX12_round_463 : decode cX12_round 463 = .ok (.iload 8, 2) := by decide +kernel
theorem dX12_round_465 : decode cX12_round 465 = .ok (.iadd, 1) := by decide +kernel
theorem dX12_round_466 : decode cX12_round 466 = .ok (.iastore, 1) := by decide +kernel
theorem dX12_round_467 : decode cX12_round 467 = .ok (.return_, 1) := by decide +kernel
theorem dX15_digest_0 : decode cX15_digest 0 = .ok (.aload_n 0, 1) := by decide +kernel
theorem dX15_digest_1 : decode cX15_digest 1 = .ok (.getfield 110, 3) := by decide +kernel
theorem dX15_digest_4 : decode cX15_digest 4 = .ok (.invokevirtual 417, 3) := by decide +kernel
theorem dX15_digest_7 : decode cX15_digest 7 = .ok (.aload_n 0, 1) := by decide +kernel
theorem dX15_digest_8 : decode cX15_digest 8 = .ok (.getfield 110, 3) := by decide +kernel
theorem dX15_digest_11 : decode cX15_digest 11 = .ok (.aload_n 1, 1) := by decide +kernel
theorem dX15_digest_12 : decode cX15_digest 12 = .ok (.iconst 0, 1) := by decide +kernel
theorem dX15_digest_13 : decode cX15_digest 13 = .ok (.iload_n 2, 1) := by decide +kernel
theorem dX15_digest_14 : decode cX15_digest 14 = .ok (.invokevirtual 419, 3) := by decide +kernel
theorem dX15_digest_17 : decode cX15_digest 17 = .ok (.aload_n 0, 1) := by decide +kernel
theorem dX15_digest_18 : decode cX15_digest 18 = .ok (.getfield 110, 3) := by decide +kernel
theorem dX15_digest_21 : decode cX15_digest 21 = .ok (.aload_n 3, 1) := by decide +kernel
theorem dX15_digest_22 : decode cX15_digest 22 = .ok (.iconst 0, 1) := by decide +kernel
theorem dX15_digest_23 : decode cX15_digest 23 = .ok (.invokevirtual 420, 3) := by decide +kernel
theorem dX15_digest_26 : decode cX15_digest 26 = .ok (.return_, 1) := by decide +kernel
theorem kt_768 : Cond.fieldLink RX12 13 "PostGateModel$Hash" "h" "[I" ∈ tb := tb_at (i := 1268) (by decide +kernel) (by decide +kernel)
theorem kt_769 : Cond.code yJ6_rotateRight_7cf53 cJ6_rotateRight_7cf53 2 (some .int) ∈ tb := tb_at (i := 1794) (by decide +kernel) (by decide +kernel)
theorem kt_770 : Cond.initialized RJ6 ∈ tb := tb_at (i := 103) (by decide +kernel) (by decide +kernel)
theorem kt_771 : Cond.methodLink RX12 74 yJ6_rotateRight_7cf53 ∈ tb := tb_at (i := 1792) (by decide +kernel) (by decide +kernel)
theorem kt_772 : Cond.static yJ6_rotateRight_7cf53 ∈ tb := tb_at (i := 1793) (by decide +kernel) (by decide +kernel)
theorem kt_773 : Cond.fieldLink RX12 19 "PostGateModel$Hash" "k" "[I" ∈ tb := tb_at (i := 1270) (by decide +kernel) (by decide +kernel)
theorem kt_774 : Cond.fieldLink RX12 16 "PostGateModel$Hash" "w" "[I" ∈ tb := tb_at (i := 1269) (by decide +kernel) (by decide +kernel)
theorem kt_775 : Cond.fieldLink RX12 22 "PostGateModel$Hash" "block" "[B" ∈ tb := tb_at (i := 1271) (by decide +kernel) (by decide +kernel)
theorem kt_776 : Cond.fieldLink RX12 54 "PostGateModel$Hash" "many" "I" ∈ tb := tb_at (i := 1272) (by decide +kernel) (by decide +kernel)
theorem kt_777 : Cond.fieldLink RX12 58 "PostGateModel$Hash" "all" "J" ∈ tb := tb_at (i := 1273) (by decide +kernel) (by decide +kernel)
theorem kt_778 : Cond.code yX12_round cX12_round 12 none ∈ tb := tb_at (i := 1791) (by decide +kernel) (by decide +kernel)
theorem kt_779 : Cond.initialized RX12 ∈ tb := tb_at (i := 96) (by decide +kernel) (by decide +kernel)
theorem kt_780 : Cond.methodLink RX12 62 yX12_round ∈ tb := tb_at (i := 1788) (by decide +kernel) (by decide +kernel)
theorem kt_781 : Cond.instanceMethod yX12_round ∈ tb := tb_at (i := 1790) (by decide +kernel) (by decide +kernel)
theorem kt_782 : Cond.selects RX12 yX12_round yX12_round ∈ tb := tb_at (i := 70) (by decide +kernel) (by decide +kernel)
theorem kt_783 : Cond.fieldLink RX12 9 "PostGateModel$Hash" "first" "[I" ∈ tb := tb_at (i := 1267) (by decide +kernel) (by decide +kernel)
theorem kt_784 : Cond.methodLink RX12 48 arraycopyName ∈ tb := tb_at (i := 1779) (by decide +kernel) (by decide +kernel)
theorem kt_785 : Cond.code yX12_one cX12_one 2 none ∈ tb := tb_at (i := 1787) (by decide +kernel) (by decide +kernel)
theorem kt_786 : Cond.methodLink RX12 65 yX12_one ∈ tb := tb_at (i := 1784) (by decide +kernel) (by decide +kernel)
theorem kt_787 : Cond.instanceMethod yX12_one ∈ tb := tb_at (i := 1785) (by decide +kernel) (by decide +kernel)
theorem kt_788 : Cond.selects RX12 yX12_one yX12_one ∈ tb := tb_at (i := 1786) (by decide +kernel) (by decide +kernel)
theorem kt_789 : Cond.constantLong RX12 69 8 ∈ tb := tb_at (i := 1799) (by decide +kernel) (by decide +kernel)
theorem kt_790 : Cond.code yX12_four cX12_four 3 none ∈ tb := tb_at (i := 1803) (by decide +kernel) (by decide +kernel)
theorem kt_791 : Cond.methodLink RX12 71 yX12_four ∈ tb := tb_at (i := 1800) (by decide +kernel) (by decide +kernel)
theorem kt_792 : Cond.instanceMethod yX12_four ∈ tb := tb_at (i := 1801) (by decide +kernel) (by decide +kernel)
theorem kt_793 : Cond.selects RX12 yX12_four yX12_four ∈ tb := tb_at (i := 1802) (by decide +kernel) (by decide +kernel)
theorem kt_794 : Cond.fieldLink RX15 110 "PostGateModel" "hash" "LPostGateModel$Hash;" ∈ tb := tb_at (i := 1327) (by decide +kernel) (by decide +kernel)
theorem kt_795 : Cond.code yX12_begin cX12_begin 1 none ∈ tb := tb_at (i := 1778) (by decide +kernel) (by decide +kernel)
theorem kt_796 : Cond.methodLink RX15 417 yX12_begin ∈ tb := tb_at (i := 1775) (by decide +kernel) (by decide +kernel)
theorem kt_797 : Cond.instanceMethod yX12_begin ∈ tb := tb_at (i := 1776) (by decide +kernel) (by decide +kernel)
theorem kt_798 : Cond.selects RX12 yX12_begin yX12_begin ∈ tb := tb_at (i := 1777) (by decide +kernel) (by decide +kernel)
theorem kt_799 : Cond.code yX12_add cX12_add 5 none ∈ tb := tb_at (i := 1783) (by decide +kernel) (by decide +kernel)
theorem kt_800 : Cond.methodLink RX15 419 yX12_add ∈ tb := tb_at (i := 1780) (by decide +kernel) (by decide +kernel)
theorem kt_801 : Cond.instanceMethod yX12_add ∈ tb := tb_at (i := 1781) (by decide +kernel) (by decide +kernel)
theorem kt_802 : Cond.selects RX12 yX12_add yX12_add ∈ tb := tb_at (i := 1782) (by decide +kernel) (by decide +kernel)
theorem kt_803 : Cond.code yX12_finish cX12_finish 6 none ∈ tb := tb_at (i := 1798) (by decide +kernel) (by decide +kernel)
theorem kt_804 : Cond.methodLink RX15 420 yX12_finish ∈ tb := tb_at (i := 1795) (by decide +kernel) (by decide +kernel)
theorem kt_805 : Cond.instanceMethod yX12_finish ∈ tb := tb_at (i := 1796) (by decide +kernel) (by decide +kernel)
theorem kt_806 : Cond.selects RX12 yX12_finish yX12_finish ∈ tb := tb_at (i := 1797) (by decide +kernel) (by decide +kernel)
theorem mod64 {z : Nat} (h : z < 64) (c : 64 ≤ z + 1) : 0 = (z + 1) % 64 := by omega
set_option maxHeartbeats 4000000 in
set_option maxRecDepth 100000 in
theorem m_J6_rotateRight_7cf53 (l : Launch) (dC : Nat → ClassId) (dI : Nat → Nat → Nat) (cs : Nat → ClassId) (ty : TyM) (gm : Nat → Nat → Nat) (L : List Nat) (sz : Nat) (F : Nat → va_E) (x1 : Int32) (x2 : Int32) (hW : WTm ty gm L) : Met l yJ6_rotateRight_7cf53 (.code yJ6_rotateRight_7cf53 cJ6_rotateRight_7cf53 2 (some .int) :: tb) ({ frames := 0, cells := 0, slots := 0, locals := 0 }) (va_Pc [.int x1, .int x2] (PTm (dC, dI) cs ty gm L F sz)) (va_Qi (fun (r : Int32) (_ : Unit) => True) (fun _ T9 => ∃ F2 : Nat → va_E, QTm (dC, dI) cs ty gm L [] F F2 (va_A (va_pl L F) sz) T9) (va_A (va_pl L F) sz)) 0 0 (va_A (va_pl L F) sz) := by
  refine Met.ofW (cc := cJ6_rotateRight_7cf53) (maxL := 2) (ret := (some .int)) (by decide) rfl ?_
  intro p e s m args below meth c s₁ B hml hv
  obtain ⟨rfl, hsz, hP, hK, hD0, hE, hO⟩ := hv
  have hx := B.exec
  have hb := B.bytes
  have hr := B.returns
  have hts : ∀ w ∈ tb, w.before _ s = true := fun w h => atoms_spec (ws := .code yJ6_rotateRight_7cf53 cJ6_rotateRight_7cf53 2 (some .int) :: tb) B.pre w (List.mem_cons_of_mem _ h)
  have hown : s.vm.findClass RJ6 = some m.cls := findClass_of_methodNamed B.named
  have hlocks := B.notSynchronized
  subst hsz
  have hD := hD0.self (sz := s.heap.size)
  generalize hAe : va_A (va_pl L F) s.heap.size = A at hD ⊢
  have hA : ∀ q : Nat, s.heap.size ≤ q → A q := fun q h => by rw [← hAe]; exact Or.inr h
  have hS : va_S A s.heap s.heap [] := va_S.rf
  have hR : FR ty [] F F := FR.refl
  have hl := lv_entry ([.int x1, .int x2]) (n := 2) (Nat.le_of_ble_eq_true rfl)
  rw [lg_entry_eq]
  generalize (lg_sl ([.int x1, .int x2]) ++ List.replicate (2 - (lg_sl ([.int x1, .int x2])).length) Slot.unset).toArray = ls at hl ⊢
  have hl : lv_has ls 2 [(0, .int x1), (1, .int x2)] := hl
  refine lv_iload_n hx hb dJ6_rotateRight_7cf53_0 rfl (lv_at hl 0 rfl) ?_
  refine lv_iload_n hx hb dJ6_rotateRight_7cf53_1 rfl (lv_at hl 1 rfl) ?_
  refine lv_iushr hx hb dJ6_rotateRight_7cf53_2 rfl ?_
  refine lv_topi (fun x_2 _ => ?_)
  refine lv_iload_n hx hb dJ6_rotateRight_7cf53_3 rfl (lv_at hl 0 rfl) ?_
  refine lv_iload_n hx hb dJ6_rotateRight_7cf53_4 rfl (lv_at hl 1 rfl) ?_
  refine lv_ineg hx hb dJ6_rotateRight_7cf53_5 ?_
  refine lv_topi (fun x_3 _ => ?_)
  refine lv_ishl hx hb dJ6_rotateRight_7cf53_6 ?_
  refine lv_topi (fun x_4 _ => ?_)
  refine lv_ior hx hb dJ6_rotateRight_7cf53_7 ?_
  refine lv_topi (fun x_5 _ => ?_)
  refine W.widen (k := 0) (n := 0) (by omega) (by omega) ?_
  exact W.iret (v := x_5) hx hb hr (fun t ht hWm => ⟨⟨x_5, (), rfl, trivial, ⟨F, QTm.mk ht hP hD hO hR⟩⟩, hS.F ht⟩) hS.2.2 dJ6_rotateRight_7cf53_8
set_option maxHeartbeats 4000000 in
set_option maxRecDepth 100000 in
theorem s_X12_round (l : Launch) (dC : Nat → ClassId) (dI : Nat → Nat → Nat) (cs : Nat → ClassId) (ty : TyM) (gm : Nat → Nat → Nat) (L : List Nat) (sz : Nat) (F : Nat → va_E) (h0 : Nat) (ρ : Nat) (q1 : Nat) (q2 : Nat) (q3 : Nat) (q4 : Nat) (q5 : Nat) (z : Nat) (v : Int64) (hW : WTm ty gm L) (hL_h0 : h0 ∈ L) (hT_h0 : ty h0 = (12, ρ, [q1, q2, q3, q4, q5])) (hF0 : F h0 = .inr (12, [.ref q1, .ref q2, .ref q3, .ref q4, .ref q5, .int (nI z), .long v])) : Met l yX12_round (.code yX12_round cX12_round 12 none :: tb) ({ frames := 1, cells := 0, slots := 0, locals := 21 }) (va_Pc [.ref h0] (PTm (dC, dI) cs ty gm L F sz)) (va_Qv (fun _ : Unit => True) (fun _ T9 => ∃ F2 : Nat → va_E, QTm (dC, dI) cs ty gm L [ρ] F F2 (va_A (va_pl L F) sz) T9 ∧ F2 h0 = .inr (12, [.ref q1, .ref q2, .ref q3, .ref q4, .ref q5, .int (nI z), .long v])) (va_A (va_pl L F) sz)) 0 0 (va_A (va_pl L F) sz) := by
  refine Met.ofW (cc := cX12_round) (maxL := 12) (ret := none) (by decide) rfl ?_
  intro p e s m args below meth c s₁ B hml hv
  obtain ⟨rfl, hsz, hP, hK, hD0, hE, hO⟩ := hv
  have hx := B.exec
  have hb := B.bytes
  have hr := B.returns
  have hts : ∀ w ∈ tb, w.before _ s = true := fun w h => atoms_spec (ws := .code yX12_round cX12_round 12 none :: tb) B.pre w (List.mem_cons_of_mem _ h)
  have hown : s.vm.findClass RX12 = some m.cls := findClass_of_methodNamed B.named
  have hlocks := B.notSynchronized
  subst hsz
  have hD := hD0.self (sz := s.heap.size)
  generalize hAe : va_A (va_pl L F) s.heap.size = A at hD ⊢
  have hA : ∀ q : Nat, s.heap.size ≤ q → A q := fun q h => by rw [← hAe]; exact Or.inr h
  have hS : va_S A s.heap s.heap [] := va_S.rf
  have hR : FR ty [ρ] F F := FR.refl
  have hl := lv_entry ([.ref h0]) (n := 12) (Nat.le_of_ble_eq_true rfl)
  rw [lg_entry_eq]
  generalize (lg_sl ([.ref h0]) ++ List.replicate (12 - (lg_sl ([.ref h0])).length) Slot.unset).toArray = ls at hl ⊢
  have hl : lv_has ls 12 [(0, .ref h0)] := hl
  refine lv_iconst (v := 0) hx hb dX12_round_0 (by decide) ?_
  refine lv_istore_n (lv' := [(1, .int 0), (0, .ref h0)]) hx hb dX12_round_1 rfl hl (by decide) rfl (fun ls hl => ?_)
  refine W.widen (k := 0) (n := 0) (by omega) (by omega) ?_
  refine pl_loopm (σ := Nat) A (dC, dI) cs ty gm L [ρ] F 2 12 (fun t1 => [(1, .int (nI t1)), (0, .ref h0)]) (fun t1 => []) (fun t1 FF => t1 ≤ 16 ∧ FF h0 = .inr (12, [.ref q1, .ref q2, .ref q3, .ref q4, .ref q5, .int (nI z), .long v])) (fun t1 => 16 - t1) ?_ 0 F (⟨by omega, hF0⟩) hO hR _ _ hP hD hS ls (lv_sub hl [0, 1] rfl)
  rintro t1 F_1 hv_2 hO hR ih_3 H locs hP hD hS ls hl
  have hl : lv_has ls 12 [(1, .int (nI t1)), (0, .ref h0)] := hl
  have hv_2 : t1 ≤ 16 ∧ F_1 h0 = .inr (12, [.ref q1, .ref q2, .ref q3, .ref q4, .ref q5, .int (nI z), .long v]) := hv_2
  refine W.eq (g2 := F0 m 2 ls []) rfl ?_
  obtain ⟨h1a, h1b⟩ := hv_2
  refine lv_iload_n hx hb dX12_round_2 rfl (lv_at hl 0 rfl) ?_
  refine lv_bipush (v := 16) hx hb dX12_round_3 (by decide) ?_
  refine lv_icmp_ge (tgt := 82) hx hb dX12_round_5 (by decide) (fun c_4 => ?_) (fun c_4 => ?_)
  ·
    have hi_5 : 16 ≤ t1 := leN (N := 16) c_4
    refine lv_bipush (v := 16) hx hb dX12_round_82 (by decide) ?_
    refine lv_istore_n (lv' := [(1, .int 16), (0, .ref h0)]) hx hb dX12_round_84 rfl hl (by decide) rfl (fun ls hl => ?_)
    refine W.widen (k := 0) (n := 0) (by omega) (by omega) ?_
    refine pl_loopm (σ := Nat) A (dC, dI) cs ty gm L [ρ] F 85 12 (fun t2 => [(1, .int (nI t2)), (0, .ref h0)]) (fun t2 => []) (fun t2 FF => (16 ≤ t2 ∧ t2 ≤ 64) ∧ FF h0 = .inr (12, [.ref q1, .ref q2, .ref q3, .ref q4, .ref q5, .int (nI z), .long v])) (fun t2 => 64 - t2) ?_ 16 F_1 (⟨⟨by omega, by omega⟩, h1b⟩) hO hR _ _ hP hD hS ls (lv_sub hl [0, 1] rfl)
    rintro t2 F_6 hv_7 hO hR ih_8 H locs hP hD hS ls hl
    have hl : lv_has ls 12 [(1, .int (nI t2)), (0, .ref h0)] := hl
    have hv_7 : (16 ≤ t2 ∧ t2 ≤ 64) ∧ F_6 h0 = .inr (12, [.ref q1, .ref q2, .ref q3, .ref q4, .ref q5, .int (nI z), .long v]) := hv_7
    refine W.eq (g2 := F0 m 85 ls []) rfl ?_
    obtain ⟨h2a, h2b⟩ := hv_7
    refine lv_iload_n hx hb dX12_round_85 rfl (lv_at hl 0 rfl) ?_
    refine lv_bipush (v := 64) hx hb dX12_round_86 (by decide) ?_
    refine lv_icmp_ge (tgt := 178) hx hb dX12_round_88 (by decide) (fun c_9 => ?_) (fun c_9 => ?_)
    ·
      have hi_10 : 64 ≤ t2 := leN (N := 64) c_9
      refine lv_aload_n hx hb dX12_round_178 rfl (lv_at hl 1 rfl) ?_
      obtain ⟨hi_11, hi_12, hi_13, hi_14, hi_15, ht_16, ht_17, ht_18, ht_19, ht_20⟩ := hW.hash hL_h0 hT_h0
      refine pg_get (ci := 12) (v := .ref q2) (C := RX12) (T := TX12) (N := 7) hx hb hts it_12 hown hK hP hL_h0 h2b rfl 1 (by decide) (hts _ kt_768) (fun _ h9 => h9) rfl dX12_round_179 ?_
      refine lv_iconst (v := 0) hx hb dX12_round_182 (by decide) ?_
      obtain ⟨hq_21, hq_22⟩ := hW.ints hi_12 ht_17
      obtain ⟨f_23, hF_24⟩ := hO.ints hi_12 ht_17
      refine pg_iald hx hb hK hP hi_12 0 hF_24 rfl (show vp_in (0 : Int32) 8 from (show vp_in (nI 0) 8 from vp_in_nI (by omega) (by omega))) dX12_round_183 ?_
      refine lv_topi (fun x_25 _ => ?_)
      refine lv_istore_n (lv' := [(1, .int x_25), (0, .ref h0)]) hx hb dX12_round_184 rfl hl (by decide) rfl (fun ls hl => ?_)
      refine lv_aload_n hx hb dX12_round_185 rfl (lv_at hl 1 rfl) ?_
      refine pg_get (ci := 12) (v := .ref q2) (C := RX12) (T := TX12) (N := 7) hx hb hts it_12 hown hK hP hL_h0 h2b rfl 1 (by decide) (hts _ kt_768) (fun _ h9 => h9) rfl dX12_round_186 ?_
      refine lv_iconst (v := 1) hx hb dX12_round_189 (by decide) ?_
      refine pg_iald hx hb hK hP hi_12 0 hF_24 rfl (show vp_in (1 : Int32) 8 from (show vp_in (nI 1) 8 from vp_in_nI (by omega) (by omega))) dX12_round_190 ?_
      refine lv_topi (fun x_26 _ => ?_)
      refine lv_istore_n (lv' := [(2, .int x_26), (1, .int x_25), (0, .ref h0)]) hx hb dX12_round_191 rfl hl (by decide) rfl (fun ls hl => ?_)
      refine lv_aload_n hx hb dX12_round_192 rfl (lv_at hl 2 rfl) ?_
      refine pg_get (ci := 12) (v := .ref q2) (C := RX12) (T := TX12) (N := 7) hx hb hts it_12 hown hK hP hL_h0 h2b rfl 1 (by decide) (hts _ kt_768) (fun _ h9 => h9) rfl dX12_round_193 ?_
      refine lv_iconst (v := 2) hx hb dX12_round_196 (by decide) ?_
      refine pg_iald hx hb hK hP hi_12 0 hF_24 rfl (show vp_in (2 : Int32) 8 from (show vp_in (nI 2) 8 from vp_in_nI (by omega) (by omega))) dX12_round_197 ?_
      refine lv_topi (fun x_27 _ => ?_)
      refine lv_istore_n (lv' := [(3, .int x_27), (2, .int x_26), (1, .int x_25), (0, .ref h0)]) hx hb dX12_round_198 rfl hl (by decide) rfl (fun ls hl => ?_)
      refine lv_aload_n hx hb dX12_round_199 rfl (lv_at hl 3 rfl) ?_
      refine pg_get (ci := 12) (v := .ref q2) (C := RX12) (T := TX12) (N := 7) hx hb hts it_12 hown hK hP hL_h0 h2b rfl 1 (by decide) (hts _ kt_768) (fun _ h9 => h9) rfl dX12_round_200 ?_
      refine lv_iconst (v := 3) hx hb dX12_round_203 (by decide) ?_
      refine pg_iald hx hb hK hP hi_12 0 hF_24 rfl (show vp_in (3 : Int32) 8 from (show vp_in (nI 3) 8 from vp_in_nI (by omega) (by omega))) dX12_round_204 ?_
      refine lv_topi (fun x_28 _ => ?_)
      refine lv_istore (lv' := [(4, .int x_28), (3, .int x_27), (2, .int x_26), (1, .int x_25), (0, .ref h0)]) hx hb dX12_round_205 hl (by decide) rfl (fun ls hl => ?_)
      refine lv_aload_n hx hb dX12_round_207 rfl (lv_at hl 4 rfl) ?_
      refine pg_get (ci := 12) (v := .ref q2) (C := RX12) (T := TX12) (N := 7) hx hb hts it_12 hown hK hP hL_h0 h2b rfl 1 (by decide) (hts _ kt_768) (fun _ h9 => h9) rfl dX12_round_208 ?_
      refine lv_iconst (v := 4) hx hb dX12_round_211 (by decide) ?_
      refine pg_iald hx hb hK hP hi_12 0 hF_24 rfl (show vp_in (4 : Int32) 8 from (show vp_in (nI 4) 8 from vp_in_nI (by omega) (by omega))) dX12_round_212 ?_
      refine lv_topi (fun x_29 _ => ?_)
      refine lv_istore (lv' := [(5, .int x_29), (4, .int x_28), (3, .int x_27), (2, .int x_26), (1, .int x_25), (0, .ref h0)]) hx hb dX12_round_213 hl (by decide) rfl (fun ls hl => ?_)
      refine lv_aload_n hx hb dX12_round_215 rfl (lv_at hl 5 rfl) ?_
      refine pg_get (ci := 12) (v := .ref q2) (C := RX12) (T := TX12) (N := 7) hx hb hts it_12 hown hK hP hL_h0 h2b rfl 1 (by decide) (hts _ kt_768) (fun _ h9 => h9) rfl dX12_round_216 ?_
      refine lv_iconst (v := 5) hx hb dX12_round_219 (by decide) ?_
      refine pg_iald hx hb hK hP hi_12 0 hF_24 rfl (show vp_in (5 : Int32) 8 from (show vp_in (nI 5) 8 from vp_in_nI (by omega) (by omega))) dX12_round_220 ?_
      refine lv_topi (fun x_30 _ => ?_)
      refine lv_istore (lv' := [(6, .int x_30), (5, .int x_29), (4, .int x_28), (3, .int x_27), (2, .int x_26), (1, .int x_25), (0, .ref h0)]) hx hb dX12_round_221 hl (by decide) rfl (fun ls hl => ?_)
      refine lv_aload_n hx hb dX12_round_223 rfl (lv_at hl 6 rfl) ?_
      refine pg_get (ci := 12) (v := .ref q2) (C := RX12) (T := TX12) (N := 7) hx hb hts it_12 hown hK hP hL_h0 h2b rfl 1 (by decide) (hts _ kt_768) (fun _ h9 => h9) rfl dX12_round_224 ?_
      refine lv_bipush (v := 6) hx hb dX12_round_227 (by decide) ?_
      refine pg_iald hx hb hK hP hi_12 0 hF_24 rfl (show vp_in (6 : Int32) 8 from (show vp_in (nI 6) 8 from vp_in_nI (by omega) (by omega))) dX12_round_229 ?_
      refine lv_topi (fun x_31 _ => ?_)
      refine lv_istore (lv' := [(7, .int x_31), (6, .int x_30), (5, .int x_29), (4, .int x_28), (3, .int x_27), (2, .int x_26), (1, .int x_25), (0, .ref h0)]) hx hb dX12_round_230 hl (by decide) rfl (fun ls hl => ?_)
      refine lv_aload_n hx hb dX12_round_232 rfl (lv_at hl 7 rfl) ?_
      refine pg_get (ci := 12) (v := .ref q2) (C := RX12) (T := TX12) (N := 7) hx hb hts it_12 hown hK hP hL_h0 h2b rfl 1 (by decide) (hts _ kt_768) (fun _ h9 => h9) rfl dX12_round_233 ?_
      refine lv_bipush (v := 7) hx hb dX12_round_236 (by decide) ?_
      refine pg_iald hx hb hK hP hi_12 0 hF_24 rfl (show vp_in (7 : Int32) 8 from (show vp_in (nI 7) 8 from vp_in_nI (by omega) (by omega))) dX12_round_238 ?_
      refine lv_topi (fun x_32 _ => ?_)
      refine lv_istore (lv' := [(8, .int x_32), (7, .int x_31), (6, .int x_30), (5, .int x_29), (4, .int x_28), (3, .int x_27), (2, .int x_26), (1, .int x_25), (0, .ref h0)]) hx hb dX12_round_239 hl (by decide) rfl (fun ls hl => ?_)
      refine lv_iconst (v := 0) hx hb dX12_round_241 (by decide) ?_
      refine lv_istore (lv' := [(9, .int 0), (8, .int x_32), (7, .int x_31), (6, .int x_30), (5, .int x_29), (4, .int x_28), (3, .int x_27), (2, .int x_26), (1, .int x_25), (0, .ref h0)]) hx hb dX12_round_242 hl (by decide) rfl (fun ls hl => ?_)
      refine W.widen (k := 0) (n := 0) (by omega) (by omega) ?_
      refine pl_loopm (σ := Nat × Int32 × Int32 × Int32 × Int32 × Int32 × Int32 × Int32 × Int32) A (dC, dI) cs ty gm L [ρ] F 244 12 (fun (t3, w1, w2, w3, w4, w5, w6, w7, w8) => [(9, .int (nI t3)), (8, .int w8), (7, .int w7), (6, .int w6), (5, .int w5), (4, .int w4), (3, .int w3), (2, .int w2), (1, .int w1), (0, .ref h0)]) (fun (t3, w1, w2, w3, w4, w5, w6, w7, w8) => []) (fun (t3, w1, w2, w3, w4, w5, w6, w7, w8) FF => t3 ≤ 64 ∧ FF h0 = .inr (12, [.ref q1, .ref q2, .ref q3, .ref q4, .ref q5, .int (nI z), .long v])) (fun (t3, w1, w2, w3, w4, w5, w6, w7, w8) => 64 - t3) ?_ (0, x_25, x_26, x_27, x_28, x_29, x_30, x_31, x_32) F_6 (⟨by omega, h2b⟩) hO hR _ _ hP hD hS ls (lv_sub hl [0, 1, 2, 3, 4, 5, 6, 7, 8, 9] rfl)
      rintro ⟨t3, w1, w2, w3, w4, w5, w6, w7, w8⟩ F_33 hv_34 hO hR ih_35 H locs hP hD hS ls hl
      have hl : lv_has ls 12 [(9, .int (nI t3)), (8, .int w8), (7, .int w7), (6, .int w6), (5, .int w5), (4, .int w4), (3, .int w3), (2, .int w2), (1, .int w1), (0, .ref h0)] := hl
      have hv_34 : t3 ≤ 64 ∧ F_33 h0 = .inr (12, [.ref q1, .ref q2, .ref q3, .ref q4, .ref q5, .int (nI z), .long v]) := hv_34
      refine W.eq (g2 := F0 m 244 ls []) rfl ?_
      obtain ⟨h3a, h3b⟩ := hv_34
      refine lv_iload hx hb dX12_round_244 (lv_at hl 0 rfl) ?_
      refine lv_bipush (v := 64) hx hb dX12_round_246 (by decide) ?_
      refine lv_icmp_ge (tgt := 380) hx hb dX12_round_248 (by decide) (fun c_36 => ?_) (fun c_36 => ?_)
      ·
        have hi_37 : 64 ≤ t3 := leN (N := 64) c_36
        refine lv_aload_n hx hb dX12_round_380 rfl (lv_at hl 9 rfl) ?_
        refine pg_get (ci := 12) (v := .ref q2) (C := RX12) (T := TX12) (N := 7) hx hb hts it_12 hown hK hP hL_h0 h3b rfl 1 (by decide) (hts _ kt_768) (fun _ h9 => h9) rfl dX12_round_381 ?_
        refine lv_iconst (v := 0) hx hb dX12_round_384 (by decide) ?_
        refine lv_dup2_11 hx hb dX12_round_385 rfl rfl ?_
        obtain ⟨f_38, hF_39⟩ := hO.ints hi_12 ht_17
        refine pg_iald hx hb hK hP hi_12 0 hF_39 rfl (show vp_in (0 : Int32) 8 from (show vp_in (nI 0) 8 from vp_in_nI (by omega) (by omega))) dX12_round_386 ?_
        refine lv_topi (fun x_40 _ => ?_)
        refine lv_iload_n hx hb dX12_round_387 rfl (lv_at hl 8 rfl) ?_
        refine lv_iadd hx hb dX12_round_388 ?_
        refine lv_topi (fun x_41 _ => ?_)
        refine pg_iast hx hb hK hP hD hS hi_12 0 hF_39 rfl (show vp_in (0 : Int32) 8 from (show vp_in (nI 0) 8 from vp_in_nI (by omega) (by omega))) dX12_round_389 (fun H locs hP hD hS => ?_)
        obtain ⟨F_42, he_43, hP, hD, hO, hR⟩ : ∃ G, G = va_up F_33 q2 (.inl (cs 16, 8, .inl (upd f_38 (0 : Int32).toNatClampNeg (x_41)))) ∧ va_P (dC, dI) vwCl (va_pl L G) H ∧ va_D A (va_pl L G) ∧ OKm cs ty gm L G ∧ FR ty [ρ] F G := ⟨_, rfl, hP, hD, hO.up (shm.ints ht_17 ⟨_, rfl⟩), hR.up ht_17 (by simp)⟩
        have hF_44 : F_42 q2 = .inl (cs 16, 8, .inl (upd f_38 (0 : Int32).toNatClampNeg (x_41))) := by rw [he_43]; exact up_self
        have hF_45 : F_42 h0 = .inr (12, [.ref q1, .ref q2, .ref q3, .ref q4, .ref q5, .int (nI z), .long v]) := by rw [he_43, up_ne (ne_ty hT_h0 ht_17 (by simp))]; exact h3b
        obtain ⟨f_46, hF_44⟩ : ∃ f : Nat → Int32, F_42 q2 = .inl (cs 16, 8, .inl f) := ⟨_, hF_44⟩
        refine lv_aload_n hx hb dX12_round_390 rfl (lv_at hl 9 rfl) ?_
        refine pg_get (ci := 12) (v := .ref q2) (C := RX12) (T := TX12) (N := 7) hx hb hts it_12 hown hK hP hL_h0 hF_45 rfl 1 (by decide) (hts _ kt_768) (fun _ h9 => h9) rfl dX12_round_391 ?_
        refine lv_iconst (v := 1) hx hb dX12_round_394 (by decide) ?_
        refine lv_dup2_11 hx hb dX12_round_395 rfl rfl ?_
        refine pg_iald hx hb hK hP hi_12 0 hF_44 rfl (show vp_in (1 : Int32) 8 from (show vp_in (nI 1) 8 from vp_in_nI (by omega) (by omega))) dX12_round_396 ?_
        refine lv_topi (fun x_47 _ => ?_)
        refine lv_iload_n hx hb dX12_round_397 rfl (lv_at hl 7 rfl) ?_
        refine lv_iadd hx hb dX12_round_398 ?_
        refine lv_topi (fun x_48 _ => ?_)
        refine pg_iast hx hb hK hP hD hS hi_12 0 hF_44 rfl (show vp_in (1 : Int32) 8 from (show vp_in (nI 1) 8 from vp_in_nI (by omega) (by omega))) dX12_round_399 (fun H locs hP hD hS => ?_)
        obtain ⟨F_49, he_50, hP, hD, hO, hR⟩ : ∃ G, G = va_up F_42 q2 (.inl (cs 16, 8, .inl (upd f_46 (1 : Int32).toNatClampNeg (x_48)))) ∧ va_P (dC, dI) vwCl (va_pl L G) H ∧ va_D A (va_pl L G) ∧ OKm cs ty gm L G ∧ FR ty [ρ] F G := ⟨_, rfl, hP, hD, hO.up (shm.ints ht_17 ⟨_, rfl⟩), hR.up ht_17 (by simp)⟩
        have hF_51 : F_49 q2 = .inl (cs 16, 8, .inl (upd f_46 (1 : Int32).toNatClampNeg (x_48))) := by rw [he_50]; exact up_self
        have hF_52 : F_49 h0 = .inr (12, [.ref q1, .ref q2, .ref q3, .ref q4, .ref q5, .int (nI z), .long v]) := by rw [he_50, up_ne (ne_ty hT_h0 ht_17 (by simp))]; exact hF_45
        obtain ⟨f_53, hF_51⟩ : ∃ f : Nat → Int32, F_49 q2 = .inl (cs 16, 8, .inl f) := ⟨_, hF_51⟩
        refine lv_aload_n hx hb dX12_round_400 rfl (lv_at hl 9 rfl) ?_
        refine pg_get (ci := 12) (v := .ref q2) (C := RX12) (T := TX12) (N := 7) hx hb hts it_12 hown hK hP hL_h0 hF_52 rfl 1 (by decide) (hts _ kt_768) (fun _ h9 => h9) rfl dX12_round_401 ?_
        refine lv_iconst (v := 2) hx hb dX12_round_404 (by decide) ?_
        refine lv_dup2_11 hx hb dX12_round_405 rfl rfl ?_
        refine pg_iald hx hb hK hP hi_12 0 hF_51 rfl (show vp_in (2 : Int32) 8 from (show vp_in (nI 2) 8 from vp_in_nI (by omega) (by omega))) dX12_round_406 ?_
        refine lv_topi (fun x_54 _ => ?_)
        refine lv_iload_n hx hb dX12_round_407 rfl (lv_at hl 6 rfl) ?_
        refine lv_iadd hx hb dX12_round_408 ?_
        refine lv_topi (fun x_55 _ => ?_)
        refine pg_iast hx hb hK hP hD hS hi_12 0 hF_51 rfl (show vp_in (2 : Int32) 8 from (show vp_in (nI 2) 8 from vp_in_nI (by omega) (by omega))) dX12_round_409 (fun H locs hP hD hS => ?_)
        obtain ⟨F_56, he_57, hP, hD, hO, hR⟩ : ∃ G, G = va_up F_49 q2 (.inl (cs 16, 8, .inl (upd f_53 (2 : Int32).toNatClampNeg (x_55)))) ∧ va_P (dC, dI) vwCl (va_pl L G) H ∧ va_D A (va_pl L G) ∧ OKm cs ty gm L G ∧ FR ty [ρ] F G := ⟨_, rfl, hP, hD, hO.up (shm.ints ht_17 ⟨_, rfl⟩), hR.up ht_17 (by simp)⟩
        have hF_58 : F_56 q2 = .inl (cs 16, 8, .inl (upd f_53 (2 : Int32).toNatClampNeg (x_55))) := by rw [he_57]; exact up_self
        have hF_59 : F_56 h0 = .inr (12, [.ref q1, .ref q2, .ref q3, .ref q4, .ref q5, .int (nI z), .long v]) := by rw [he_57, up_ne (ne_ty hT_h0 ht_17 (by simp))]; exact hF_52
        obtain ⟨f_60, hF_58⟩ : ∃ f : Nat → Int32, F_56 q2 = .inl (cs 16, 8, .inl f) := ⟨_, hF_58⟩
        refine lv_aload_n hx hb dX12_round_410 rfl (lv_at hl 9 rfl) ?_
        refine pg_get (ci := 12) (v := .ref q2) (C := RX12) (T := TX12) (N := 7) hx hb hts it_12 hown hK hP hL_h0 hF_59 rfl 1 (by decide) (hts _ kt_768) (fun _ h9 => h9) rfl dX12_round_411 ?_
        refine lv_iconst (v := 3) hx hb dX12_round_414 (by decide) ?_
        refine lv_dup2_11 hx hb dX12_round_415 rfl rfl ?_
        refine pg_iald hx hb hK hP hi_12 0 hF_58 rfl (show vp_in (3 : Int32) 8 from (show vp_in (nI 3) 8 from vp_in_nI (by omega) (by omega))) dX12_round_416 ?_
        refine lv_topi (fun x_61 _ => ?_)
        refine lv_iload hx hb dX12_round_417 (lv_at hl 5 rfl) ?_
        refine lv_iadd hx hb dX12_round_419 ?_
        refine lv_topi (fun x_62 _ => ?_)
        refine pg_iast hx hb hK hP hD hS hi_12 0 hF_58 rfl (show vp_in (3 : Int32) 8 from (show vp_in (nI 3) 8 from vp_in_nI (by omega) (by omega))) dX12_round_420 (fun H locs hP hD hS => ?_)
        obtain ⟨F_63, he_64, hP, hD, hO, hR⟩ : ∃ G, G = va_up F_56 q2 (.inl (cs 16, 8, .inl (upd f_60 (3 : Int32).toNatClampNeg (x_62)))) ∧ va_P (dC, dI) vwCl (va_pl L G) H ∧ va_D A (va_pl L G) ∧ OKm cs ty gm L G ∧ FR ty [ρ] F G := ⟨_, rfl, hP, hD, hO.up (shm.ints ht_17 ⟨_, rfl⟩), hR.up ht_17 (by simp)⟩
        have hF_65 : F_63 q2 = .inl (cs 16, 8, .inl (upd f_60 (3 : Int32).toNatClampNeg (x_62))) := by rw [he_64]; exact up_self
        have hF_66 : F_63 h0 = .inr (12, [.ref q1, .ref q2, .ref q3, .ref q4, .ref q5, .int (nI z), .long v]) := by rw [he_64, up_ne (ne_ty hT_h0 ht_17 (by simp))]; exact hF_59
        obtain ⟨f_67, hF_65⟩ : ∃ f : Nat → Int32, F_63 q2 = .inl (cs 16, 8, .inl f) := ⟨_, hF_65⟩
        refine lv_aload_n hx hb dX12_round_421 rfl (lv_at hl 9 rfl) ?_
        refine pg_get (ci := 12) (v := .ref q2) (C := RX12) (T := TX12) (N := 7) hx hb hts it_12 hown hK hP hL_h0 hF_66 rfl 1 (by decide) (hts _ kt_768) (fun _ h9 => h9) rfl dX12_round_422 ?_
        refine lv_iconst (v := 4) hx hb dX12_round_425 (by decide) ?_
        refine lv_dup2_11 hx hb dX12_round_426 rfl rfl ?_
        refine pg_iald hx hb hK hP hi_12 0 hF_65 rfl (show vp_in (4 : Int32) 8 from (show vp_in (nI 4) 8 from vp_in_nI (by omega) (by omega))) dX12_round_427 ?_
        refine lv_topi (fun x_68 _ => ?_)
        refine lv_iload hx hb dX12_round_428 (lv_at hl 4 rfl) ?_
        refine lv_iadd hx hb dX12_round_430 ?_
        refine lv_topi (fun x_69 _ => ?_)
        refine pg_iast hx hb hK hP hD hS hi_12 0 hF_65 rfl (show vp_in (4 : Int32) 8 from (show vp_in (nI 4) 8 from vp_in_nI (by omega) (by omega))) dX12_round_431 (fun H locs hP hD hS => ?_)
        obtain ⟨F_70, he_71, hP, hD, hO, hR⟩ : ∃ G, G = va_up F_63 q2 (.inl (cs 16, 8, .inl (upd f_67 (4 : Int32).toNatClampNeg (x_69)))) ∧ va_P (dC, dI) vwCl (va_pl L G) H ∧ va_D A (va_pl L G) ∧ OKm cs ty gm L G ∧ FR ty [ρ] F G := ⟨_, rfl, hP, hD, hO.up (shm.ints ht_17 ⟨_, rfl⟩), hR.up ht_17 (by simp)⟩
        have hF_72 : F_70 q2 = .inl (cs 16, 8, .inl (upd f_67 (4 : Int32).toNatClampNeg (x_69))) := by rw [he_71]; exact up_self
        have hF_73 : F_70 h0 = .inr (12, [.ref q1, .ref q2, .ref q3, .ref q4, .ref q5, .int (nI z), .long v]) := by rw [he_71, up_ne (ne_ty hT_h0 ht_17 (by simp))]; exact hF_66
        obtain ⟨f_74, hF_72⟩ : ∃ f : Nat → Int32, F_70 q2 = .inl (cs 16, 8, .inl f) := ⟨_, hF_72⟩
        refine lv_aload_n hx hb dX12_round_432 rfl (lv_at hl 9 rfl) ?_
        refine pg_get (ci := 12) (v := .ref q2) (C := RX12) (T := TX12) (N := 7) hx hb hts it_12 hown hK hP hL_h0 hF_73 rfl 1 (by decide) (hts _ kt_768) (fun _ h9 => h9) rfl dX12_round_433 ?_
        refine lv_iconst (v := 5) hx hb dX12_round_436 (by decide) ?_
        refine lv_dup2_11 hx hb dX12_round_437 rfl rfl ?_
        refine pg_iald hx hb hK hP hi_12 0 hF_72 rfl (show vp_in (5 : Int32) 8 from (show vp_in (nI 5) 8 from vp_in_nI (by omega) (by omega))) dX12_round_438 ?_
        refine lv_topi (fun x_75 _ => ?_)
        refine lv_iload hx hb dX12_round_439 (lv_at hl 3 rfl) ?_
        refine lv_iadd hx hb dX12_round_441 ?_
        refine lv_topi (fun x_76 _ => ?_)
        refine pg_iast hx hb hK hP hD hS hi_12 0 hF_72 rfl (show vp_in (5 : Int32) 8 from (show vp_in (nI 5) 8 from vp_in_nI (by omega) (by omega))) dX12_round_442 (fun H locs hP hD hS => ?_)
        obtain ⟨F_77, he_78, hP, hD, hO, hR⟩ : ∃ G, G = va_up F_70 q2 (.inl (cs 16, 8, .inl (upd f_74 (5 : Int32).toNatClampNeg (x_76)))) ∧ va_P (dC, dI) vwCl (va_pl L G) H ∧ va_D A (va_pl L G) ∧ OKm cs ty gm L G ∧ FR ty [ρ] F G := ⟨_, rfl, hP, hD, hO.up (shm.ints ht_17 ⟨_, rfl⟩), hR.up ht_17 (by simp)⟩
        have hF_79 : F_77 q2 = .inl (cs 16, 8, .inl (upd f_74 (5 : Int32).toNatClampNeg (x_76))) := by rw [he_78]; exact up_self
        have hF_80 : F_77 h0 = .inr (12, [.ref q1, .ref q2, .ref q3, .ref q4, .ref q5, .int (nI z), .long v]) := by rw [he_78, up_ne (ne_ty hT_h0 ht_17 (by simp))]; exact hF_73
        obtain ⟨f_81, hF_79⟩ : ∃ f : Nat → Int32, F_77 q2 = .inl (cs 16, 8, .inl f) := ⟨_, hF_79⟩
        refine lv_aload_n hx hb dX12_round_443 rfl (lv_at hl 9 rfl) ?_
        refine pg_get (ci := 12) (v := .ref q2) (C := RX12) (T := TX12) (N := 7) hx hb hts it_12 hown hK hP hL_h0 hF_80 rfl 1 (by decide) (hts _ kt_768) (fun _ h9 => h9) rfl dX12_round_444 ?_
        refine lv_bipush (v := 6) hx hb dX12_round_447 (by decide) ?_
        refine lv_dup2_11 hx hb dX12_round_449 rfl rfl ?_
        refine pg_iald hx hb hK hP hi_12 0 hF_79 rfl (show vp_in (6 : Int32) 8 from (show vp_in (nI 6) 8 from vp_in_nI (by omega) (by omega))) dX12_round_450 ?_
        refine lv_topi (fun x_82 _ => ?_)
        refine lv_iload hx hb dX12_round_451 (lv_at hl 2 rfl) ?_
        refine lv_iadd hx hb dX12_round_453 ?_
        refine lv_topi (fun x_83 _ => ?_)
        refine pg_iast hx hb hK hP hD hS hi_12 0 hF_79 rfl (show vp_in (6 : Int32) 8 from (show vp_in (nI 6) 8 from vp_in_nI (by omega) (by omega))) dX12_round_454 (fun H locs hP hD hS => ?_)
        obtain ⟨F_84, he_85, hP, hD, hO, hR⟩ : ∃ G, G = va_up F_77 q2 (.inl (cs 16, 8, .inl (upd f_81 (6 : Int32).toNatClampNeg (x_83)))) ∧ va_P (dC, dI) vwCl (va_pl L G) H ∧ va_D A (va_pl L G) ∧ OKm cs ty gm L G ∧ FR ty [ρ] F G := ⟨_, rfl, hP, hD, hO.up (shm.ints ht_17 ⟨_, rfl⟩), hR.up ht_17 (by simp)⟩
        have hF_86 : F_84 q2 = .inl (cs 16, 8, .inl (upd f_81 (6 : Int32).toNatClampNeg (x_83))) := by rw [he_85]; exact up_self
        have hF_87 : F_84 h0 = .inr (12, [.ref q1, .ref q2, .ref q3, .ref q4, .ref q5, .int (nI z), .long v]) := by rw [he_85, up_ne (ne_ty hT_h0 ht_17 (by simp))]; exact hF_80
        obtain ⟨f_88, hF_86⟩ : ∃ f : Nat → Int32, F_84 q2 = .inl (cs 16, 8, .inl f) := ⟨_, hF_86⟩
        refine lv_aload_n hx hb dX12_round_455 rfl (lv_at hl 9 rfl) ?_
        refine pg_get (ci := 12) (v := .ref q2) (C := RX12) (T := TX12) (N := 7) hx hb hts it_12 hown hK hP hL_h0 hF_87 rfl 1 (by decide) (hts _ kt_768) (fun _ h9 => h9) rfl dX12_round_456 ?_
        refine lv_bipush (v := 7) hx hb dX12_round_459 (by decide) ?_
        refine lv_dup2_11 hx hb dX12_round_461 rfl rfl ?_
        refine pg_iald hx hb hK hP hi_12 0 hF_86 rfl (show vp_in (7 : Int32) 8 from (show vp_in (nI 7) 8 from vp_in_nI (by omega) (by omega))) dX12_round_462 ?_
        refine lv_topi (fun x_89 _ => ?_)
        refine lv_iload hx hb dX12_round_463 (lv_at hl 1 rfl) ?_
        refine lv_iadd hx hb dX12_round_465 ?_
        refine lv_topi (fun x_90 _ => ?_)
        refine pg_iast hx hb hK hP hD hS hi_12 0 hF_86 rfl (show vp_in (7 : Int32) 8 from (show vp_in (nI 7) 8 from vp_in_nI (by omega) (by omega))) dX12_round_466 (fun H locs hP hD hS => ?_)
        obtain ⟨F_91, he_92, hP, hD, hO, hR⟩ : ∃ G, G = va_up F_84 q2 (.inl (cs 16, 8, .inl (upd f_88 (7 : Int32).toNatClampNeg (x_90)))) ∧ va_P (dC, dI) vwCl (va_pl L G) H ∧ va_D A (va_pl L G) ∧ OKm cs ty gm L G ∧ FR ty [ρ] F G := ⟨_, rfl, hP, hD, hO.up (shm.ints ht_17 ⟨_, rfl⟩), hR.up ht_17 (by simp)⟩
        have hF_93 : F_91 q2 = .inl (cs 16, 8, .inl (upd f_88 (7 : Int32).toNatClampNeg (x_90))) := by rw [he_92]; exact up_self
        have hF_94 : F_91 h0 = .inr (12, [.ref q1, .ref q2, .ref q3, .ref q4, .ref q5, .int (nI z), .long v]) := by rw [he_92, up_ne (ne_ty hT_h0 ht_17 (by simp))]; exact hF_87
        obtain ⟨f_95, hF_93⟩ : ∃ f : Nat → Int32, F_91 q2 = .inl (cs 16, 8, .inl f) := ⟨_, hF_93⟩
        refine W.widen (k := 0) (n := 0) (by omega) (by omega) ?_
        exact W.vret hx hb hr (fun t ht hWm => ⟨⟨(), rfl, trivial, ⟨F_91, QTm.mk ht hP hD hO hR, hF_94⟩⟩, hS.F ht⟩) hS.2.2 dX12_round_467
      ·
        have hi_96 : t3 < 64 := ltN (N := 64) c_36
        refine lv_iload hx hb dX12_round_251 (lv_at hl 1 rfl) ?_
        refine lv_iload hx hb dX12_round_253 (lv_at hl 4 rfl) ?_
        refine lv_bipush (v := 6) hx hb dX12_round_255 (by decide) ?_
        have hFc := pg_free hD hS hA
        refine va_calli (va_runS (As := [.int w5, .int 6]) (rest := [.int w8]) ⟨hx, hb, hml, hown, hts⟩ (m_J6_rotateRight_7cf53 l dC dI cs ty gm L H.size F_33 w5 6 hW ) ⟨callB_of 2 hts (gi kt_769) rfl rfl rfl (hts _ kt_770) (hts _ kt_771) (by decide +kernel) ⟨Nat.le_of_ble_eq_true rfl, Nat.le_of_ble_eq_true rfl⟩, (hts _ kt_772)⟩ ⟨fun a U g mk q => ⟨q.1, PTm.calling q.2⟩, fun U hU hWm => ⟨rfl, PTm.mk hU hWm hP hK hD hE hO⟩⟩ rfl rfl hl.1 rfl (lv_room (Nat.le_of_ble_eq_true rfl)) dX12_round_257 ⟨by show _ + 0 ≤ 0; omega, by show _ + 0 ≤ 0; omega⟩) hS (fun q _ h => hFc q h) hFc (fun r_97 u t H1 locs ht hvm hw hB hz1 hk1 hS => ?_)
        obtain ⟨F_98, hB1⟩ := hB
        obtain rfl : F_33 = F_98 := (funext (fun a => hB1.2.2.2 a List.not_mem_nil)).symm
        obtain ⟨hP, hD, hO, hR⟩ := QTm.back hB1 ht hFc hR (fun q h => absurd h List.not_mem_nil)
        generalize H1 = H at hP hS ⊢
        have hw : True := hw
        have hw_99 := hw
        refine lv_iload hx hb dX12_round_260 (lv_at hl 4 rfl) ?_
        refine lv_bipush (v := 11) hx hb dX12_round_262 (by decide) ?_
        have hFc := pg_free hD hS hA
        refine va_calli (va_runS (As := [.int w5, .int 11]) (rest := [.int r_97, .int w8]) ⟨hx, hb, hml, hown, hts⟩ (m_J6_rotateRight_7cf53 l dC dI cs ty gm L H.size F_33 w5 11 hW ) ⟨callB_of 2 hts (gi kt_769) rfl rfl rfl (hts _ kt_770) (hts _ kt_771) (by decide +kernel) ⟨Nat.le_of_ble_eq_true rfl, Nat.le_of_ble_eq_true rfl⟩, (hts _ kt_772)⟩ ⟨fun a U g mk q => ⟨q.1, PTm.calling q.2⟩, fun U hU hWm => ⟨rfl, PTm.mk hU hWm hP hK hD hE hO⟩⟩ rfl rfl hl.1 rfl (lv_room (Nat.le_of_ble_eq_true rfl)) dX12_round_264 ⟨by show _ + 0 ≤ 0; omega, by show _ + 0 ≤ 0; omega⟩) hS (fun q _ h => hFc q h) hFc (fun r_100 u t H1 locs ht hvm hw hB hz1 hk1 hS => ?_)
        obtain ⟨F_101, hB1⟩ := hB
        obtain rfl : F_33 = F_101 := (funext (fun a => hB1.2.2.2 a List.not_mem_nil)).symm
        obtain ⟨hP, hD, hO, hR⟩ := QTm.back hB1 ht hFc hR (fun q h => absurd h List.not_mem_nil)
        generalize H1 = H at hP hS ⊢
        have hw : True := hw
        have hw_102 := hw
        refine lv_ixor hx hb dX12_round_267 ?_
        refine lv_topi (fun x_103 _ => ?_)
        refine lv_iload hx hb dX12_round_268 (lv_at hl 4 rfl) ?_
        refine lv_bipush (v := 25) hx hb dX12_round_270 (by decide) ?_
        have hFc := pg_free hD hS hA
        refine va_calli (va_runS (As := [.int w5, .int 25]) (rest := [.int x_103, .int w8]) ⟨hx, hb, hml, hown, hts⟩ (m_J6_rotateRight_7cf53 l dC dI cs ty gm L H.size F_33 w5 25 hW ) ⟨callB_of 2 hts (gi kt_769) rfl rfl rfl (hts _ kt_770) (hts _ kt_771) (by decide +kernel) ⟨Nat.le_of_ble_eq_true rfl, Nat.le_of_ble_eq_true rfl⟩, (hts _ kt_772)⟩ ⟨fun a U g mk q => ⟨q.1, PTm.calling q.2⟩, fun U hU hWm => ⟨rfl, PTm.mk hU hWm hP hK hD hE hO⟩⟩ rfl rfl hl.1 rfl (lv_room (Nat.le_of_ble_eq_true rfl)) dX12_round_272 ⟨by show _ + 0 ≤ 0; omega, by show _ + 0 ≤ 0; omega⟩) hS (fun q _ h => hFc q h) hFc (fun r_104 u t H1 locs ht hvm hw hB hz1 hk1 hS => ?_)
        obtain ⟨F_105, hB1⟩ := hB
        obtain rfl : F_33 = F_105 := (funext (fun a => hB1.2.2.2 a List.not_mem_nil)).symm
        obtain ⟨hP, hD, hO, hR⟩ := QTm.back hB1 ht hFc hR (fun q h => absurd h List.not_mem_nil)
        generalize H1 = H at hP hS ⊢
        have hw : True := hw
        have hw_106 := hw
        refine lv_ixor hx hb dX12_round_275 ?_
        refine lv_topi (fun x_107 _ => ?_)
        refine lv_iadd hx hb dX12_round_276 ?_
        refine lv_topi (fun x_108 _ => ?_)
        refine lv_iload hx hb dX12_round_277 (lv_at hl 4 rfl) ?_
        refine lv_iload hx hb dX12_round_279 (lv_at hl 3 rfl) ?_
        refine lv_iand hx hb dX12_round_281 ?_
        refine lv_topi (fun x_109 _ => ?_)
        refine lv_iload hx hb dX12_round_282 (lv_at hl 4 rfl) ?_
        refine lv_iconst (v := (-1)) hx hb dX12_round_284 (by decide) ?_
        refine lv_ixor hx hb dX12_round_285 ?_
        refine lv_topi (fun x_110 _ => ?_)
        refine lv_iload hx hb dX12_round_286 (lv_at hl 2 rfl) ?_
        refine lv_iand hx hb dX12_round_288 ?_
        refine lv_topi (fun x_111 _ => ?_)
        refine lv_ixor hx hb dX12_round_289 ?_
        refine lv_topi (fun x_112 _ => ?_)
        refine lv_iadd hx hb dX12_round_290 ?_
        refine lv_topi (fun x_113 _ => ?_)
        refine lv_aload_n hx hb dX12_round_291 rfl (lv_at hl 9 rfl) ?_
        refine pg_get (ci := 12) (v := .ref q4) (C := RX12) (T := TX12) (N := 7) hx hb hts it_12 hown hK hP hL_h0 h3b rfl 3 (by decide) (hts _ kt_773) (fun _ h9 => h9) rfl dX12_round_292 ?_
        refine lv_iload hx hb dX12_round_295 (lv_at hl 0 rfl) ?_
        obtain ⟨f_114, hF_115, hq_116⟩ := hO.kst hi_14 ht_19
        refine pg_iald hx hb hK hP hi_14 0 hF_115 rfl (vp_in_nI (by omega) (by omega)) dX12_round_297 ?_
        refine lv_topi (fun x_117 _ => ?_)
        refine lv_iadd hx hb dX12_round_298 ?_
        refine lv_topi (fun x_118 _ => ?_)
        refine lv_aload_n hx hb dX12_round_299 rfl (lv_at hl 9 rfl) ?_
        refine pg_get (ci := 12) (v := .ref q3) (C := RX12) (T := TX12) (N := 7) hx hb hts it_12 hown hK hP hL_h0 h3b rfl 2 (by decide) (hts _ kt_774) (fun _ h9 => h9) rfl dX12_round_300 ?_
        refine lv_iload hx hb dX12_round_303 (lv_at hl 0 rfl) ?_
        obtain ⟨hq_119, hq_120⟩ := hW.ints hi_13 ht_18
        obtain ⟨f_121, hF_122⟩ := hO.ints hi_13 ht_18
        refine pg_iald hx hb hK hP hi_13 0 hF_122 rfl (vp_in_nI (by omega) (by omega)) dX12_round_305 ?_
        refine lv_topi (fun x_123 _ => ?_)
        refine lv_iadd hx hb dX12_round_306 ?_
        refine lv_topi (fun x_124 _ => ?_)
        refine lv_istore (lv' := [(10, .int x_124), (9, .int (nI t3)), (8, .int w8), (7, .int w7), (6, .int w6), (5, .int w5), (4, .int w4), (3, .int w3), (2, .int w2), (1, .int w1), (0, .ref h0)]) hx hb dX12_round_307 hl (by decide) rfl (fun ls hl => ?_)
        refine lv_iload_n hx hb dX12_round_309 rfl (lv_at hl 9 rfl) ?_
        refine lv_iconst (v := 2) hx hb dX12_round_310 (by decide) ?_
        have hFc := pg_free hD hS hA
        refine va_calli (va_runS (As := [.int w1, .int 2]) (rest := []) ⟨hx, hb, hml, hown, hts⟩ (m_J6_rotateRight_7cf53 l dC dI cs ty gm L H.size F_33 w1 2 hW ) ⟨callB_of 2 hts (gi kt_769) rfl rfl rfl (hts _ kt_770) (hts _ kt_771) (by decide +kernel) ⟨Nat.le_of_ble_eq_true rfl, Nat.le_of_ble_eq_true rfl⟩, (hts _ kt_772)⟩ ⟨fun a U g mk q => ⟨q.1, PTm.calling q.2⟩, fun U hU hWm => ⟨rfl, PTm.mk hU hWm hP hK hD hE hO⟩⟩ rfl rfl hl.1 rfl (lv_room (Nat.le_of_ble_eq_true rfl)) dX12_round_311 ⟨by show _ + 0 ≤ 0; omega, by show _ + 0 ≤ 0; omega⟩) hS (fun q _ h => hFc q h) hFc (fun r_125 u t H1 locs ht hvm hw hB hz1 hk1 hS => ?_)
        obtain ⟨F_126, hB1⟩ := hB
        obtain rfl : F_33 = F_126 := (funext (fun a => hB1.2.2.2 a List.not_mem_nil)).symm
        obtain ⟨hP, hD, hO, hR⟩ := QTm.back hB1 ht hFc hR (fun q h => absurd h List.not_mem_nil)
        generalize H1 = H at hP hS ⊢
        have hw : True := hw
        have hw_127 := hw
        refine lv_iload_n hx hb dX12_round_314 rfl (lv_at hl 9 rfl) ?_
        refine lv_bipush (v := 13) hx hb dX12_round_315 (by decide) ?_
        have hFc := pg_free hD hS hA
        refine va_calli (va_runS (As := [.int w1, .int 13]) (rest := [.int r_125]) ⟨hx, hb, hml, hown, hts⟩ (m_J6_rotateRight_7cf53 l dC dI cs ty gm L H.size F_33 w1 13 hW ) ⟨callB_of 2 hts (gi kt_769) rfl rfl rfl (hts _ kt_770) (hts _ kt_771) (by decide +kernel) ⟨Nat.le_of_ble_eq_true rfl, Nat.le_of_ble_eq_true rfl⟩, (hts _ kt_772)⟩ ⟨fun a U g mk q => ⟨q.1, PTm.calling q.2⟩, fun U hU hWm => ⟨rfl, PTm.mk hU hWm hP hK hD hE hO⟩⟩ rfl rfl hl.1 rfl (lv_room (Nat.le_of_ble_eq_true rfl)) dX12_round_317 ⟨by show _ + 0 ≤ 0; omega, by show _ + 0 ≤ 0; omega⟩) hS (fun q _ h => hFc q h) hFc (fun r_128 u t H1 locs ht hvm hw hB hz1 hk1 hS => ?_)
        obtain ⟨F_129, hB1⟩ := hB
        obtain rfl : F_33 = F_129 := (funext (fun a => hB1.2.2.2 a List.not_mem_nil)).symm
        obtain ⟨hP, hD, hO, hR⟩ := QTm.back hB1 ht hFc hR (fun q h => absurd h List.not_mem_nil)
        generalize H1 = H at hP hS ⊢
        have hw : True := hw
        have hw_130 := hw
        refine lv_ixor hx hb dX12_round_320 ?_
        refine lv_topi (fun x_131 _ => ?_)
        refine lv_iload_n hx hb dX12_round_321 rfl (lv_at hl 9 rfl) ?_
        refine lv_bipush (v := 22) hx hb dX12_round_322 (by decide) ?_
        have hFc := pg_free hD hS hA
        refine va_calli (va_runS (As := [.int w1, .int 22]) (rest := [.int x_131]) ⟨hx, hb, hml, hown, hts⟩ (m_J6_rotateRight_7cf53 l dC dI cs ty gm L H.size F_33 w1 22 hW ) ⟨callB_of 2 hts (gi kt_769) rfl rfl rfl (hts _ kt_770) (hts _ kt_771) (by decide +kernel) ⟨Nat.le_of_ble_eq_true rfl, Nat.le_of_ble_eq_true rfl⟩, (hts _ kt_772)⟩ ⟨fun a U g mk q => ⟨q.1, PTm.calling q.2⟩, fun U hU hWm => ⟨rfl, PTm.mk hU hWm hP hK hD hE hO⟩⟩ rfl rfl hl.1 rfl (lv_room (Nat.le_of_ble_eq_true rfl)) dX12_round_324 ⟨by show _ + 0 ≤ 0; omega, by show _ + 0 ≤ 0; omega⟩) hS (fun q _ h => hFc q h) hFc (fun r_132 u t H1 locs ht hvm hw hB hz1 hk1 hS => ?_)
        obtain ⟨F_133, hB1⟩ := hB
        obtain rfl : F_33 = F_133 := (funext (fun a => hB1.2.2.2 a List.not_mem_nil)).symm
        obtain ⟨hP, hD, hO, hR⟩ := QTm.back hB1 ht hFc hR (fun q h => absurd h List.not_mem_nil)
        generalize H1 = H at hP hS ⊢
        have hw : True := hw
        have hw_134 := hw
        refine lv_ixor hx hb dX12_round_327 ?_
        refine lv_topi (fun x_135 _ => ?_)
        refine lv_iload_n hx hb dX12_round_328 rfl (lv_at hl 9 rfl) ?_
        refine lv_iload_n hx hb dX12_round_329 rfl (lv_at hl 8 rfl) ?_
        refine lv_iand hx hb dX12_round_330 ?_
        refine lv_topi (fun x_136 _ => ?_)
        refine lv_iload_n hx hb dX12_round_331 rfl (lv_at hl 9 rfl) ?_
        refine lv_iload_n hx hb dX12_round_332 rfl (lv_at hl 7 rfl) ?_
        refine lv_iand hx hb dX12_round_333 ?_
        refine lv_topi (fun x_137 _ => ?_)
        refine lv_ixor hx hb dX12_round_334 ?_
        refine lv_topi (fun x_138 _ => ?_)
        refine lv_iload_n hx hb dX12_round_335 rfl (lv_at hl 8 rfl) ?_
        refine lv_iload_n hx hb dX12_round_336 rfl (lv_at hl 7 rfl) ?_
        refine lv_iand hx hb dX12_round_337 ?_
        refine lv_topi (fun x_139 _ => ?_)
        refine lv_ixor hx hb dX12_round_338 ?_
        refine lv_topi (fun x_140 _ => ?_)
        refine lv_iadd hx hb dX12_round_339 ?_
        refine lv_topi (fun x_141 _ => ?_)
        refine lv_istore (lv' := [(11, .int x_141), (10, .int x_124), (9, .int (nI t3)), (8, .int w8), (7, .int w7), (6, .int w6), (5, .int w5), (4, .int w4), (3, .int w3), (2, .int w2), (1, .int w1), (0, .ref h0)]) hx hb dX12_round_340 hl (by decide) rfl (fun ls hl => ?_)
        refine lv_iload hx hb dX12_round_342 (lv_at hl 4 rfl) ?_
        refine lv_istore (lv' := [(8, .int w7), (11, .int x_141), (10, .int x_124), (9, .int (nI t3)), (7, .int w7), (6, .int w6), (5, .int w5), (4, .int w4), (3, .int w3), (2, .int w2), (1, .int w1), (0, .ref h0)]) hx hb dX12_round_344 hl (by decide) rfl (fun ls hl => ?_)
        refine lv_iload hx hb dX12_round_346 (lv_at hl 5 rfl) ?_
        refine lv_istore (lv' := [(7, .int w6), (8, .int w7), (11, .int x_141), (10, .int x_124), (9, .int (nI t3)), (6, .int w6), (5, .int w5), (4, .int w4), (3, .int w3), (2, .int w2), (1, .int w1), (0, .ref h0)]) hx hb dX12_round_348 hl (by decide) rfl (fun ls hl => ?_)
        refine lv_iload hx hb dX12_round_350 (lv_at hl 6 rfl) ?_
        refine lv_istore (lv' := [(6, .int w5), (7, .int w6), (8, .int w7), (11, .int x_141), (10, .int x_124), (9, .int (nI t3)), (5, .int w5), (4, .int w4), (3, .int w3), (2, .int w2), (1, .int w1), (0, .ref h0)]) hx hb dX12_round_352 hl (by decide) rfl (fun ls hl => ?_)
        refine lv_iload hx hb dX12_round_354 (lv_at hl 7 rfl) ?_
        refine lv_iload hx hb dX12_round_356 (lv_at hl 4 rfl) ?_
        refine lv_iadd hx hb dX12_round_358 ?_
        refine lv_topi (fun x_142 _ => ?_)
        refine lv_istore (lv' := [(5, .int x_142), (6, .int w5), (7, .int w6), (8, .int w7), (11, .int x_141), (10, .int x_124), (9, .int (nI t3)), (4, .int w4), (3, .int w3), (2, .int w2), (1, .int w1), (0, .ref h0)]) hx hb dX12_round_359 hl (by decide) rfl (fun ls hl => ?_)
        refine lv_iload_n hx hb dX12_round_361 rfl (lv_at hl 8 rfl) ?_
        refine lv_istore (lv' := [(4, .int w3), (5, .int x_142), (6, .int w5), (7, .int w6), (8, .int w7), (11, .int x_141), (10, .int x_124), (9, .int (nI t3)), (3, .int w3), (2, .int w2), (1, .int w1), (0, .ref h0)]) hx hb dX12_round_362 hl (by decide) rfl (fun ls hl => ?_)
        refine lv_iload_n hx hb dX12_round_364 rfl (lv_at hl 9 rfl) ?_
        refine lv_istore_n (lv' := [(3, .int w2), (4, .int w3), (5, .int x_142), (6, .int w5), (7, .int w6), (8, .int w7), (11, .int x_141), (10, .int x_124), (9, .int (nI t3)), (2, .int w2), (1, .int w1), (0, .ref h0)]) hx hb dX12_round_365 rfl hl (by decide) rfl (fun ls hl => ?_)
        refine lv_iload_n hx hb dX12_round_366 rfl (lv_at hl 10 rfl) ?_
        refine lv_istore_n (lv' := [(2, .int w1), (3, .int w2), (4, .int w3), (5, .int x_142), (6, .int w5), (7, .int w6), (8, .int w7), (11, .int x_141), (10, .int x_124), (9, .int (nI t3)), (1, .int w1), (0, .ref h0)]) hx hb dX12_round_367 rfl hl (by decide) rfl (fun ls hl => ?_)
        refine lv_iload hx hb dX12_round_368 (lv_at hl 8 rfl) ?_
        refine lv_iload hx hb dX12_round_370 (lv_at hl 7 rfl) ?_
        refine lv_iadd hx hb dX12_round_372 ?_
        refine lv_topi (fun x_143 _ => ?_)
        refine lv_istore_n (lv' := [(1, .int x_143), (2, .int w1), (3, .int w2), (4, .int w3), (5, .int x_142), (6, .int w5), (7, .int w6), (8, .int w7), (11, .int x_141), (10, .int x_124), (9, .int (nI t3)), (0, .ref h0)]) hx hb dX12_round_373 rfl hl (by decide) rfl (fun ls hl => ?_)
        refine lv_iinc (v := (nI (t3 + 1))) (lv' := [(9, .int (nI (t3 + 1))), (1, .int x_143), (2, .int w1), (3, .int w2), (4, .int w3), (5, .int x_142), (6, .int w5), (7, .int w6), (8, .int w7), (11, .int x_141), (10, .int x_124), (0, .ref h0)]) hx hb dX12_round_374 hl (k := 10) rfl (nI_1 _) (by decide) rfl (fun ls hl => ?_)
        refine lv_goto (tgt := 244) hx hb dX12_round_377 (by decide) ?_
        refine W.widen (k := 0) (n := 0) (by omega) (by omega) ?_
        exact ih_35 ((t3 + 1), x_143, w1, w2, w3, x_142, w5, w6, w7) F_33 (⟨by omega, h3b⟩) (by show 64 - (t3 + 1) < 64 - t3; omega) hO hR _ _ hP hD hS ls (lv_sub hl [0, 8, 7, 6, 5, 4, 3, 2, 1, 11] rfl)
    ·
      have hi_144 : t2 < 64 := ltN (N := 64) c_9
      refine lv_aload_n hx hb dX12_round_91 rfl (lv_at hl 1 rfl) ?_
      obtain ⟨hi_145, hi_146, hi_147, hi_148, hi_149, ht_150, ht_151, ht_152, ht_153, ht_154⟩ := hW.hash hL_h0 hT_h0
      refine pg_get (ci := 12) (v := .ref q3) (C := RX12) (T := TX12) (N := 7) hx hb hts it_12 hown hK hP hL_h0 h2b rfl 2 (by decide) (hts _ kt_774) (fun _ h9 => h9) rfl dX12_round_92 ?_
      refine lv_iload_n hx hb dX12_round_95 rfl (lv_at hl 0 rfl) ?_
      refine lv_bipush (v := 15) hx hb dX12_round_96 (by decide) ?_
      refine lv_isub hx hb dX12_round_98 ?_
      refine lv_topi (fun x_155 ex_155 => ?_)
      obtain rfl : x_155 = (nI (t2 - 15)) := ex_155.trans (pk_sub (b := 15) (by omega))
      obtain ⟨hq_156, hq_157⟩ := hW.ints hi_147 ht_152
      obtain ⟨f_158, hF_159⟩ := hO.ints hi_147 ht_152
      refine pg_iald hx hb hK hP hi_147 0 hF_159 rfl (vp_in_nI (by omega) (by omega)) dX12_round_99 ?_
      refine lv_topi (fun x_160 _ => ?_)
      refine lv_istore_n (lv' := [(2, .int x_160), (1, .int (nI t2)), (0, .ref h0)]) hx hb dX12_round_100 rfl hl (by decide) rfl (fun ls hl => ?_)
      refine lv_aload_n hx hb dX12_round_101 rfl (lv_at hl 2 rfl) ?_
      refine pg_get (ci := 12) (v := .ref q3) (C := RX12) (T := TX12) (N := 7) hx hb hts it_12 hown hK hP hL_h0 h2b rfl 2 (by decide) (hts _ kt_774) (fun _ h9 => h9) rfl dX12_round_102 ?_
      refine lv_iload_n hx hb dX12_round_105 rfl (lv_at hl 1 rfl) ?_
      refine lv_iconst (v := 2) hx hb dX12_round_106 (by decide) ?_
      refine lv_isub hx hb dX12_round_107 ?_
      refine lv_topi (fun x_161 ex_161 => ?_)
      obtain rfl : x_161 = (nI (t2 - 2)) := ex_161.trans (pk_sub (b := 2) (by omega))
      refine pg_iald hx hb hK hP hi_147 0 hF_159 rfl (vp_in_nI (by omega) (by omega)) dX12_round_108 ?_
      refine lv_topi (fun x_162 _ => ?_)
      refine lv_istore_n (lv' := [(3, .int x_162), (2, .int x_160), (1, .int (nI t2)), (0, .ref h0)]) hx hb dX12_round_109 rfl hl (by decide) rfl (fun ls hl => ?_)
      refine lv_aload_n hx hb dX12_round_110 rfl (lv_at hl 3 rfl) ?_
      refine pg_get (ci := 12) (v := .ref q3) (C := RX12) (T := TX12) (N := 7) hx hb hts it_12 hown hK hP hL_h0 h2b rfl 2 (by decide) (hts _ kt_774) (fun _ h9 => h9) rfl dX12_round_111 ?_
      refine lv_iload_n hx hb dX12_round_114 rfl (lv_at hl 2 rfl) ?_
      refine lv_aload_n hx hb dX12_round_115 rfl (lv_at hl 3 rfl) ?_
      refine pg_get (ci := 12) (v := .ref q3) (C := RX12) (T := TX12) (N := 7) hx hb hts it_12 hown hK hP hL_h0 h2b rfl 2 (by decide) (hts _ kt_774) (fun _ h9 => h9) rfl dX12_round_116 ?_
      refine lv_iload_n hx hb dX12_round_119 rfl (lv_at hl 2 rfl) ?_
      refine lv_bipush (v := 16) hx hb dX12_round_120 (by decide) ?_
      refine lv_isub hx hb dX12_round_122 ?_
      refine lv_topi (fun x_163 ex_163 => ?_)
      obtain rfl : x_163 = (nI (t2 - 16)) := ex_163.trans (pk_sub (b := 16) (by omega))
      refine pg_iald hx hb hK hP hi_147 0 hF_159 rfl (vp_in_nI (by omega) (by omega)) dX12_round_123 ?_
      refine lv_topi (fun x_164 _ => ?_)
      refine lv_iload_n hx hb dX12_round_124 rfl (lv_at hl 1 rfl) ?_
      refine lv_bipush (v := 7) hx hb dX12_round_125 (by decide) ?_
      have hFc := pg_free hD hS hA
      refine va_calli (va_runS (As := [.int x_160, .int 7]) (rest := [.int x_164, .int (nI t2), .ref q3]) ⟨hx, hb, hml, hown, hts⟩ (m_J6_rotateRight_7cf53 l dC dI cs ty gm L H.size F_6 x_160 7 hW ) ⟨callB_of 2 hts (gi kt_769) rfl rfl rfl (hts _ kt_770) (hts _ kt_771) (by decide +kernel) ⟨Nat.le_of_ble_eq_true rfl, Nat.le_of_ble_eq_true rfl⟩, (hts _ kt_772)⟩ ⟨fun a U g mk q => ⟨q.1, PTm.calling q.2⟩, fun U hU hWm => ⟨rfl, PTm.mk hU hWm hP hK hD hE hO⟩⟩ rfl rfl hl.1 rfl (lv_room (Nat.le_of_ble_eq_true rfl)) dX12_round_127 ⟨by show _ + 0 ≤ 0; omega, by show _ + 0 ≤ 0; omega⟩) hS (fun q _ h => hFc q h) hFc (fun r_165 u t H1 locs ht hvm hw hB hz1 hk1 hS => ?_)
      obtain ⟨F_166, hB1⟩ := hB
      obtain rfl : F_6 = F_166 := (funext (fun a => hB1.2.2.2 a List.not_mem_nil)).symm
      obtain ⟨hP, hD, hO, hR⟩ := QTm.back hB1 ht hFc hR (fun q h => absurd h List.not_mem_nil)
      generalize H1 = H at hP hS ⊢
      have hw : True := hw
      have hw_167 := hw
      refine lv_iload_n hx hb dX12_round_130 rfl (lv_at hl 1 rfl) ?_
      refine lv_bipush (v := 18) hx hb dX12_round_131 (by decide) ?_
      have hFc := pg_free hD hS hA
      refine va_calli (va_runS (As := [.int x_160, .int 18]) (rest := [.int r_165, .int x_164, .int (nI t2), .ref q3]) ⟨hx, hb, hml, hown, hts⟩ (m_J6_rotateRight_7cf53 l dC dI cs ty gm L H.size F_6 x_160 18 hW ) ⟨callB_of 2 hts (gi kt_769) rfl rfl rfl (hts _ kt_770) (hts _ kt_771) (by decide +kernel) ⟨Nat.le_of_ble_eq_true rfl, Nat.le_of_ble_eq_true rfl⟩, (hts _ kt_772)⟩ ⟨fun a U g mk q => ⟨q.1, PTm.calling q.2⟩, fun U hU hWm => ⟨rfl, PTm.mk hU hWm hP hK hD hE hO⟩⟩ rfl rfl hl.1 rfl (lv_room (Nat.le_of_ble_eq_true rfl)) dX12_round_133 ⟨by show _ + 0 ≤ 0; omega, by show _ + 0 ≤ 0; omega⟩) hS (fun q _ h => hFc q h) hFc (fun r_168 u t H1 locs ht hvm hw hB hz1 hk1 hS => ?_)
      obtain ⟨F_169, hB1⟩ := hB
      obtain rfl : F_6 = F_169 := (funext (fun a => hB1.2.2.2 a List.not_mem_nil)).symm
      obtain ⟨hP, hD, hO, hR⟩ := QTm.back hB1 ht hFc hR (fun q h => absurd h List.not_mem_nil)
      generalize H1 = H at hP hS ⊢
      have hw : True := hw
      have hw_170 := hw
      refine lv_ixor hx hb dX12_round_136 ?_
      refine lv_topi (fun x_171 _ => ?_)
      refine lv_iload_n hx hb dX12_round_137 rfl (lv_at hl 1 rfl) ?_
      refine lv_iconst (v := 3) hx hb dX12_round_138 (by decide) ?_
      refine lv_iushr hx hb dX12_round_139 rfl ?_
      refine lv_topi (fun x_173 _ => ?_)
      refine lv_ixor hx hb dX12_round_140 ?_
      refine lv_topi (fun x_174 _ => ?_)
      refine lv_iadd hx hb dX12_round_141 ?_
      refine lv_topi (fun x_175 _ => ?_)
      refine lv_aload_n hx hb dX12_round_142 rfl (lv_at hl 3 rfl) ?_
      refine pg_get (ci := 12) (v := .ref q3) (C := RX12) (T := TX12) (N := 7) hx hb hts it_12 hown hK hP hL_h0 h2b rfl 2 (by decide) (hts _ kt_774) (fun _ h9 => h9) rfl dX12_round_143 ?_
      refine lv_iload_n hx hb dX12_round_146 rfl (lv_at hl 2 rfl) ?_
      refine lv_bipush (v := 7) hx hb dX12_round_147 (by decide) ?_
      refine lv_isub hx hb dX12_round_149 ?_
      refine lv_topi (fun x_176 ex_176 => ?_)
      obtain rfl : x_176 = (nI (t2 - 7)) := ex_176.trans (pk_sub (b := 7) (by omega))
      refine pg_iald hx hb hK hP hi_147 0 hF_159 rfl (vp_in_nI (by omega) (by omega)) dX12_round_150 ?_
      refine lv_topi (fun x_177 _ => ?_)
      refine lv_iadd hx hb dX12_round_151 ?_
      refine lv_topi (fun x_178 _ => ?_)
      refine lv_iload_n hx hb dX12_round_152 rfl (lv_at hl 0 rfl) ?_
      refine lv_bipush (v := 17) hx hb dX12_round_153 (by decide) ?_
      have hFc := pg_free hD hS hA
      refine va_calli (va_runS (As := [.int x_162, .int 17]) (rest := [.int x_178, .int (nI t2), .ref q3]) ⟨hx, hb, hml, hown, hts⟩ (m_J6_rotateRight_7cf53 l dC dI cs ty gm L H.size F_6 x_162 17 hW ) ⟨callB_of 2 hts (gi kt_769) rfl rfl rfl (hts _ kt_770) (hts _ kt_771) (by decide +kernel) ⟨Nat.le_of_ble_eq_true rfl, Nat.le_of_ble_eq_true rfl⟩, (hts _ kt_772)⟩ ⟨fun a U g mk q => ⟨q.1, PTm.calling q.2⟩, fun U hU hWm => ⟨rfl, PTm.mk hU hWm hP hK hD hE hO⟩⟩ rfl rfl hl.1 rfl (lv_room (Nat.le_of_ble_eq_true rfl)) dX12_round_155 ⟨by show _ + 0 ≤ 0; omega, by show _ + 0 ≤ 0; omega⟩) hS (fun q _ h => hFc q h) hFc (fun r_179 u t H1 locs ht hvm hw hB hz1 hk1 hS => ?_)
      obtain ⟨F_180, hB1⟩ := hB
      obtain rfl : F_6 = F_180 := (funext (fun a => hB1.2.2.2 a List.not_mem_nil)).symm
      obtain ⟨hP, hD, hO, hR⟩ := QTm.back hB1 ht hFc hR (fun q h => absurd h List.not_mem_nil)
      generalize H1 = H at hP hS ⊢
      have hw : True := hw
      have hw_181 := hw
      refine lv_iload_n hx hb dX12_round_158 rfl (lv_at hl 0 rfl) ?_
      refine lv_bipush (v := 19) hx hb dX12_round_159 (by decide) ?_
      have hFc := pg_free hD hS hA
      refine va_calli (va_runS (As := [.int x_162, .int 19]) (rest := [.int r_179, .int x_178, .int (nI t2), .ref q3]) ⟨hx, hb, hml, hown, hts⟩ (m_J6_rotateRight_7cf53 l dC dI cs ty gm L H.size F_6 x_162 19 hW ) ⟨callB_of 2 hts (gi kt_769) rfl rfl rfl (hts _ kt_770) (hts _ kt_771) (by decide +kernel) ⟨Nat.le_of_ble_eq_true rfl, Nat.le_of_ble_eq_true rfl⟩, (hts _ kt_772)⟩ ⟨fun a U g mk q => ⟨q.1, PTm.calling q.2⟩, fun U hU hWm => ⟨rfl, PTm.mk hU hWm hP hK hD hE hO⟩⟩ rfl rfl hl.1 rfl (lv_room (Nat.le_of_ble_eq_true rfl)) dX12_round_161 ⟨by show _ + 0 ≤ 0; omega, by show _ + 0 ≤ 0; omega⟩) hS (fun q _ h => hFc q h) hFc (fun r_182 u t H1 locs ht hvm hw hB hz1 hk1 hS => ?_)
      obtain ⟨F_183, hB1⟩ := hB
      obtain rfl : F_6 = F_183 := (funext (fun a => hB1.2.2.2 a List.not_mem_nil)).symm
      obtain ⟨hP, hD, hO, hR⟩ := QTm.back hB1 ht hFc hR (fun q h => absurd h List.not_mem_nil)
      generalize H1 = H at hP hS ⊢
      have hw : True := hw
      have hw_184 := hw
      refine lv_ixor hx hb dX12_round_164 ?_
      refine lv_topi (fun x_185 _ => ?_)
      refine lv_iload_n hx hb dX12_round_165 rfl (lv_at hl 0 rfl) ?_
      refine lv_bipush (v := 10) hx hb dX12_round_166 (by decide) ?_
      refine lv_iushr hx hb dX12_round_168 rfl ?_
      refine lv_topi (fun x_187 _ => ?_)
      refine lv_ixor hx hb dX12_round_169 ?_
      refine lv_topi (fun x_188 _ => ?_)
      refine lv_iadd hx hb dX12_round_170 ?_
      refine lv_topi (fun x_189 _ => ?_)
      refine pg_iast hx hb hK hP hD hS hi_147 0 hF_159 rfl (vp_in_nI (by omega) (by omega)) dX12_round_171 (fun H locs hP hD hS => ?_)
      obtain ⟨F_190, he_191, hP, hD, hO, hR⟩ : ∃ G, G = va_up F_6 q3 (.inl (cs 16, 64, .inl (upd f_158 ((nI t2)).toNatClampNeg (x_189)))) ∧ va_P (dC, dI) vwCl (va_pl L G) H ∧ va_D A (va_pl L G) ∧ OKm cs ty gm L G ∧ FR ty [ρ] F G := ⟨_, rfl, hP, hD, hO.up (shm.ints ht_152 ⟨_, rfl⟩), hR.up ht_152 (by simp)⟩
      have hF_192 : F_190 q3 = .inl (cs 16, 64, .inl (upd f_158 ((nI t2)).toNatClampNeg (x_189))) := by rw [he_191]; exact up_self
      have hF_193 : F_190 h0 = .inr (12, [.ref q1, .ref q2, .ref q3, .ref q4, .ref q5, .int (nI z), .long v]) := by rw [he_191, up_ne (ne_ty hT_h0 ht_152 (by simp))]; exact h2b
      obtain ⟨f_194, hF_192⟩ : ∃ f : Nat → Int32, F_190 q3 = .inl (cs 16, 64, .inl f) := ⟨_, hF_192⟩
      refine lv_iinc (v := (nI (t2 + 1))) (lv' := [(1, .int (nI (t2 + 1))), (3, .int x_162), (2, .int x_160), (0, .ref h0)]) hx hb dX12_round_172 hl (k := 2) rfl (nI_1 _) (by decide) rfl (fun ls hl => ?_)
      refine lv_goto (tgt := 85) hx hb dX12_round_175 (by decide) ?_
      refine W.widen (k := 0) (n := 0) (by omega) (by omega) ?_
      exact ih_8 (t2 + 1) F_190 (⟨⟨by omega, by omega⟩, hF_193⟩) (by show 64 - (t2 + 1) < 64 - t2; omega) hO hR _ _ hP hD hS ls (lv_sub hl [0, 3] rfl)
  ·
    have hi_195 : t1 < 16 := ltN (N := 16) c_4
    refine lv_aload_n hx hb dX12_round_8 rfl (lv_at hl 1 rfl) ?_
    obtain ⟨hi_196, hi_197, hi_198, hi_199, hi_200, ht_201, ht_202, ht_203, ht_204, ht_205⟩ := hW.hash hL_h0 hT_h0
    refine pg_get (ci := 12) (v := .ref q3) (C := RX12) (T := TX12) (N := 7) hx hb hts it_12 hown hK hP hL_h0 h1b rfl 2 (by decide) (hts _ kt_774) (fun _ h9 => h9) rfl dX12_round_9 ?_
    refine lv_iload_n hx hb dX12_round_12 rfl (lv_at hl 0 rfl) ?_
    refine lv_aload_n hx hb dX12_round_13 rfl (lv_at hl 1 rfl) ?_
    refine pg_get (ci := 12) (v := .ref q5) (C := RX12) (T := TX12) (N := 7) hx hb hts it_12 hown hK hP hL_h0 h1b rfl 4 (by decide) (hts _ kt_775) (fun _ h9 => h9) rfl dX12_round_14 ?_
    refine lv_iconst (v := 4) hx hb dX12_round_17 (by decide) ?_
    refine lv_iload_n hx hb dX12_round_18 rfl (lv_at hl 0 rfl) ?_
    refine lv_imul hx hb dX12_round_19 ?_
    refine lv_topi (fun x_206 ex_206 => ?_)
    obtain rfl : x_206 = (nI (4 * t1)) := ex_206.trans (pk_mul 4 t1)
    obtain ⟨hq_207, hq_208⟩ := hW.octs hi_200 ht_205
    obtain ⟨f_209, hF_210, hq_211⟩ := hO.octs hi_200 ht_205
    refine pg_bald hx hb hK hP hi_200 1 hF_210 rfl (vp_in_nI (by omega) (by omega)) dX12_round_20 ?_
    refine lv_topi (fun x_212 ex_212 => ?_)
    obtain rfl : x_212 = f_209 (4 * t1) := ex_212.trans (congrArg f_209 (show ((nI (4 * t1)) : Int32).toNatClampNeg = (4 * t1) from nI_clamp (by omega)))
    refine lv_bipush (v := 24) hx hb dX12_round_21 (by decide) ?_
    refine lv_ishl hx hb dX12_round_23 ?_
    refine lv_topi (fun x_213 _ => ?_)
    refine lv_aload_n hx hb dX12_round_24 rfl (lv_at hl 1 rfl) ?_
    refine pg_get (ci := 12) (v := .ref q5) (C := RX12) (T := TX12) (N := 7) hx hb hts it_12 hown hK hP hL_h0 h1b rfl 4 (by decide) (hts _ kt_775) (fun _ h9 => h9) rfl dX12_round_25 ?_
    refine lv_iconst (v := 4) hx hb dX12_round_28 (by decide) ?_
    refine lv_iload_n hx hb dX12_round_29 rfl (lv_at hl 0 rfl) ?_
    refine lv_imul hx hb dX12_round_30 ?_
    refine lv_topi (fun x_214 ex_214 => ?_)
    obtain rfl : x_214 = (nI (4 * t1)) := ex_214.trans (pk_mul 4 t1)
    refine lv_iconst (v := 1) hx hb dX12_round_31 (by decide) ?_
    refine lv_iadd hx hb dX12_round_32 ?_
    refine lv_topi (fun x_215 ex_215 => ?_)
    obtain rfl : x_215 = (nI ((4 * t1) + 1)) := ex_215.trans (nI_add (4 * t1) 1)
    refine pg_bald hx hb hK hP hi_200 1 hF_210 rfl (vp_in_nI (by omega) (by omega)) dX12_round_33 ?_
    refine lv_topi (fun x_216 ex_216 => ?_)
    obtain rfl : x_216 = f_209 ((4 * t1) + 1) := ex_216.trans (congrArg f_209 (show ((nI ((4 * t1) + 1)) : Int32).toNatClampNeg = ((4 * t1) + 1) from nI_clamp (by omega)))
    refine lv_sipush (v := 255) hx hb dX12_round_34 (by decide) ?_
    refine lv_iand hx hb dX12_round_37 ?_
    refine lv_topi (fun x_217 _ => ?_)
    refine lv_bipush (v := 16) hx hb dX12_round_38 (by decide) ?_
    refine lv_ishl hx hb dX12_round_40 ?_
    refine lv_topi (fun x_218 _ => ?_)
    refine lv_ior hx hb dX12_round_41 ?_
    refine lv_topi (fun x_219 _ => ?_)
    refine lv_aload_n hx hb dX12_round_42 rfl (lv_at hl 1 rfl) ?_
    refine pg_get (ci := 12) (v := .ref q5) (C := RX12) (T := TX12) (N := 7) hx hb hts it_12 hown hK hP hL_h0 h1b rfl 4 (by decide) (hts _ kt_775) (fun _ h9 => h9) rfl dX12_round_43 ?_
    refine lv_iconst (v := 4) hx hb dX12_round_46 (by decide) ?_
    refine lv_iload_n hx hb dX12_round_47 rfl (lv_at hl 0 rfl) ?_
    refine lv_imul hx hb dX12_round_48 ?_
    refine lv_topi (fun x_220 ex_220 => ?_)
    obtain rfl : x_220 = (nI (4 * t1)) := ex_220.trans (pk_mul 4 t1)
    refine lv_iconst (v := 2) hx hb dX12_round_49 (by decide) ?_
    refine lv_iadd hx hb dX12_round_50 ?_
    refine lv_topi (fun x_221 ex_221 => ?_)
    obtain rfl : x_221 = (nI ((4 * t1) + 2)) := ex_221.trans (nI_add (4 * t1) 2)
    refine pg_bald hx hb hK hP hi_200 1 hF_210 rfl (vp_in_nI (by omega) (by omega)) dX12_round_51 ?_
    refine lv_topi (fun x_222 ex_222 => ?_)
    obtain rfl : x_222 = f_209 ((4 * t1) + 2) := ex_222.trans (congrArg f_209 (show ((nI ((4 * t1) + 2)) : Int32).toNatClampNeg = ((4 * t1) + 2) from nI_clamp (by omega)))
    refine lv_sipush (v := 255) hx hb dX12_round_52 (by decide) ?_
    refine lv_iand hx hb dX12_round_55 ?_
    refine lv_topi (fun x_223 _ => ?_)
    refine lv_bipush (v := 8) hx hb dX12_round_56 (by decide) ?_
    refine lv_ishl hx hb dX12_round_58 ?_
    refine lv_topi (fun x_224 _ => ?_)
    refine lv_ior hx hb dX12_round_59 ?_
    refine lv_topi (fun x_225 _ => ?_)
    refine lv_aload_n hx hb dX12_round_60 rfl (lv_at hl 1 rfl) ?_
    refine pg_get (ci := 12) (v := .ref q5) (C := RX12) (T := TX12) (N := 7) hx hb hts it_12 hown hK hP hL_h0 h1b rfl 4 (by decide) (hts _ kt_775) (fun _ h9 => h9) rfl dX12_round_61 ?_
    refine lv_iconst (v := 4) hx hb dX12_round_64 (by decide) ?_
    refine lv_iload_n hx hb dX12_round_65 rfl (lv_at hl 0 rfl) ?_
    refine lv_imul hx hb dX12_round_66 ?_
    refine lv_topi (fun x_226 ex_226 => ?_)
    obtain rfl : x_226 = (nI (4 * t1)) := ex_226.trans (pk_mul 4 t1)
    refine lv_iconst (v := 3) hx hb dX12_round_67 (by decide) ?_
    refine lv_iadd hx hb dX12_round_68 ?_
    refine lv_topi (fun x_227 ex_227 => ?_)
    obtain rfl : x_227 = (nI ((4 * t1) + 3)) := ex_227.trans (nI_add (4 * t1) 3)
    refine pg_bald hx hb hK hP hi_200 1 hF_210 rfl (vp_in_nI (by omega) (by omega)) dX12_round_69 ?_
    refine lv_topi (fun x_228 ex_228 => ?_)
    obtain rfl : x_228 = f_209 ((4 * t1) + 3) := ex_228.trans (congrArg f_209 (show ((nI ((4 * t1) + 3)) : Int32).toNatClampNeg = ((4 * t1) + 3) from nI_clamp (by omega)))
    refine lv_sipush (v := 255) hx hb dX12_round_70 (by decide) ?_
    refine lv_iand hx hb dX12_round_73 ?_
    refine lv_topi (fun x_229 _ => ?_)
    refine lv_ior hx hb dX12_round_74 ?_
    refine lv_topi (fun x_230 _ => ?_)
    obtain ⟨hq_231, hq_232⟩ := hW.ints hi_198 ht_203
    obtain ⟨f_233, hF_234⟩ := hO.ints hi_198 ht_203
    refine pg_iast hx hb hK hP hD hS hi_198 0 hF_234 rfl (vp_in_nI (by omega) (by omega)) dX12_round_75 (fun H locs hP hD hS => ?_)
    obtain ⟨F_235, he_236, hP, hD, hO, hR⟩ : ∃ G, G = va_up F_1 q3 (.inl (cs 16, 64, .inl (upd f_233 ((nI t1)).toNatClampNeg (x_230)))) ∧ va_P (dC, dI) vwCl (va_pl L G) H ∧ va_D A (va_pl L G) ∧ OKm cs ty gm L G ∧ FR ty [ρ] F G := ⟨_, rfl, hP, hD, hO.up (shm.ints ht_203 ⟨_, rfl⟩), hR.up ht_203 (by simp)⟩
    have hF_237 : F_235 q3 = .inl (cs 16, 64, .inl (upd f_233 ((nI t1)).toNatClampNeg (x_230))) := by rw [he_236]; exact up_self
    have hF_238 : F_235 h0 = .inr (12, [.ref q1, .ref q2, .ref q3, .ref q4, .ref q5, .int (nI z), .long v]) := by rw [he_236, up_ne (ne_ty hT_h0 ht_203 (by simp))]; exact h1b
    have hF_239 : F_235 q5 = .inl (cs 17, 64, .inl f_209) := by rw [he_236, up_ne (ne_ty ht_205 ht_203 (by simp))]; exact hF_210
    obtain ⟨f_240, hF_237⟩ : ∃ f : Nat → Int32, F_235 q3 = .inl (cs 16, 64, .inl f) := ⟨_, hF_237⟩
    refine lv_iinc (v := (nI (t1 + 1))) (lv' := [(1, .int (nI (t1 + 1))), (0, .ref h0)]) hx hb dX12_round_76 hl (k := 0) rfl (nI_1 _) (by decide) rfl (fun ls hl => ?_)
    refine lv_goto (tgt := 2) hx hb dX12_round_79 (by decide) ?_
    refine W.widen (k := 0) (n := 0) (by omega) (by omega) ?_
    exact ih_3 (t1 + 1) F_235 (⟨by omega, hF_238⟩) (by show 16 - (t1 + 1) < 16 - t1; omega) hO hR _ _ hP hD hS ls (lv_sub hl [0, 1] rfl)
set_option maxHeartbeats 4000000 in
set_option maxRecDepth 100000 in
theorem s_X12_one (l : Launch) (dC : Nat → ClassId) (dI : Nat → Nat → Nat) (cs : Nat → ClassId) (ty : TyM) (gm : Nat → Nat → Nat) (L : List Nat) (sz : Nat) (F : Nat → va_E) (h0 : Nat) (ρ : Nat) (q1 : Nat) (q2 : Nat) (q3 : Nat) (q4 : Nat) (q5 : Nat) (z : Nat) (v : Int64) (x1 : Int32) (hW : WTm ty gm L) (hL_h0 : h0 ∈ L) (hT_h0 : ty h0 = (12, ρ, [q1, q2, q3, q4, q5])) (hF0 : F h0 = .inr (12, [.ref q1, .ref q2, .ref q3, .ref q4, .ref q5, .int (nI z), .long v])) (hz : z < 64) : Met l yX12_one (.code yX12_one cX12_one 2 none :: tb) ({ frames := 2, cells := 0, slots := 0, locals := 52 }) (va_Pc [.ref h0, .int x1] (PTm (dC, dI) cs ty gm L F sz)) (va_Qv (fun _ : Unit => True) (fun _ T9 => ∃ F2 : Nat → va_E, ∃ z2 : Nat, ∃ v2 : Int64, QTm (dC, dI) cs ty gm L [ρ] F F2 (va_A (va_pl L F) sz) T9 ∧ F2 h0 = .inr (12, [.ref q1, .ref q2, .ref q3, .ref q4, .ref q5, .int (nI z2), .long v2]) ∧ z2 = (z + 1) % 64) (va_A (va_pl L F) sz)) 0 0 (va_A (va_pl L F) sz) := by
  refine Met.ofW (cc := cX12_one) (maxL := 2) (ret := none) (by decide) rfl ?_
  intro p e s m args below meth c s₁ B hml hv
  obtain ⟨rfl, hsz, hP, hK, hD0, hE, hO⟩ := hv
  have hx := B.exec
  have hb := B.bytes
  have hr := B.returns
  have hts : ∀ w ∈ tb, w.before _ s = true := fun w h => atoms_spec (ws := .code yX12_one cX12_one 2 none :: tb) B.pre w (List.mem_cons_of_mem _ h)
  have hown : s.vm.findClass RX12 = some m.cls := findClass_of_methodNamed B.named
  have hlocks := B.notSynchronized
  subst hsz
  have hD := hD0.self (sz := s.heap.size)
  generalize hAe : va_A (va_pl L F) s.heap.size = A at hD ⊢
  have hA : ∀ q : Nat, s.heap.size ≤ q → A q := fun q h => by rw [← hAe]; exact Or.inr h
  have hS : va_S A s.heap s.heap [] := va_S.rf
  have hR : FR ty [ρ] F F := FR.refl
  have hl := lv_entry ([.ref h0, .int x1]) (n := 2) (Nat.le_of_ble_eq_true rfl)
  rw [lg_entry_eq]
  generalize (lg_sl ([.ref h0, .int x1]) ++ List.replicate (2 - (lg_sl ([.ref h0, .int x1])).length) Slot.unset).toArray = ls at hl ⊢
  have hl : lv_has ls 2 [(0, .ref h0), (1, .int x1)] := hl
  refine lv_aload_n hx hb dX12_one_0 rfl (lv_at hl 0 rfl) ?_
  obtain ⟨hi_1, hi_2, hi_3, hi_4, hi_5, ht_6, ht_7, ht_8, ht_9, ht_10⟩ := hW.hash hL_h0 hT_h0
  refine pg_get (ci := 12) (v := .ref q5) (C := RX12) (T := TX12) (N := 7) hx hb hts it_12 hown hK hP hL_h0 hF0 rfl 4 (by decide) (hts _ kt_775) (fun _ h9 => h9) rfl dX12_one_1 ?_
  refine lv_aload_n hx hb dX12_one_4 rfl (lv_at hl 0 rfl) ?_
  refine pg_get (ci := 12) (v := .int (nI z)) (C := RX12) (T := TX12) (N := 7) hx hb hts it_12 hown hK hP hL_h0 hF0 rfl 5 (by decide) (hts _ kt_776) (fun _ h9 => h9) rfl dX12_one_5 ?_
  refine lv_iload_n hx hb dX12_one_8 rfl (lv_at hl 1 rfl) ?_
  refine lv_i2b hx hb dX12_one_9 rfl ?_
  refine lv_topi (fun x_11 _ => ?_)
  obtain ⟨hq_12, hq_13⟩ := hW.octs hi_5 ht_10
  obtain ⟨f_14, hF_15, hq_16⟩ := hO.octs hi_5 ht_10
  refine pg_bast hx hb hK hP hD hS hi_5 1 hF_15 rfl (vp_in_nI (by omega) (by omega)) dX12_one_10 (fun H locs hP hD hS => ?_)
  obtain ⟨F_17, he_18, hP, hD, hO, hR⟩ : ∃ G, G = va_up F q5 (.inl (cs 17, 64, .inl (upd f_14 ((nI z)).toNatClampNeg (vp_nar .byte (x_11))))) ∧ va_P (dC, dI) vwCl (va_pl L G) H ∧ va_D A (va_pl L G) ∧ OKm cs ty gm L G ∧ FR ty [ρ] F G := ⟨_, rfl, hP, hD, hO.up (shm.octs ht_10 ⟨_, rfl, bfm_upd hq_16 _ _⟩), hR.up ht_10 (by simp)⟩
  have hF_19 : F_17 q5 = .inl (cs 17, 64, .inl (upd f_14 ((nI z)).toNatClampNeg (vp_nar .byte (x_11)))) := by rw [he_18]; exact up_self
  have hF_20 : F_17 h0 = .inr (12, [.ref q1, .ref q2, .ref q3, .ref q4, .ref q5, .int (nI z), .long v]) := by rw [he_18, up_ne (ne_ty hT_h0 ht_10 (by simp))]; exact hF0
  obtain ⟨f_21, hF_19, hq_22⟩ : ∃ f : Nat → Int32, F_17 q5 = .inl (cs 17, 64, .inl f) ∧ BFm f := ⟨_, hF_19, bfm_upd hq_16 _ _⟩
  refine lv_aload_n hx hb dX12_one_11 rfl (lv_at hl 0 rfl) ?_
  refine lv_dup hx hb dX12_one_12 rfl ?_
  refine pg_get (ci := 12) (v := .int (nI z)) (C := RX12) (T := TX12) (N := 7) hx hb hts it_12 hown hK hP hL_h0 hF_20 rfl 5 (by decide) (hts _ kt_776) (fun _ h9 => h9) rfl dX12_one_13 ?_
  refine lv_iconst (v := 1) hx hb dX12_one_16 (by decide) ?_
  refine lv_iadd hx hb dX12_one_17 ?_
  refine lv_topi (fun x_23 ex_23 => ?_)
  obtain rfl : x_23 = (nI (z + 1)) := ex_23.trans (nI_add z 1)
  refine pg_put (ci := 12) (v := .int (nI (z + 1))) (ty := .int) (C := RX12) (T := TX12) (N := 7) hx hb hts it_12 tyX12 tyX12_ok nmX12 hown hK hP hD hS hL_h0 hF_20 rfl 5 (by decide) (hts _ kt_776) (fun _ h9 => h9) rfl (by decide +kernel) (rfl) (rfl) (Nat.le_of_ble_eq_true rfl) dX12_one_18 (fun H locs hP hD hS => ?_)
  obtain ⟨F_24, he_25, hP, hD, hO, hR⟩ : ∃ G, G = va_up F_17 h0 (.inr (12, [.ref q1, .ref q2, .ref q3, .ref q4, .ref q5, .int (nI (z + 1)), .long v])) ∧ va_P (dC, dI) vwCl (va_pl L G) H ∧ va_D A (va_pl L G) ∧ OKm cs ty gm L G ∧ FR ty [ρ] F G := ⟨_, rfl, hP, hD, hO.up (shm.hash hT_h0 ⟨(z + 1), v, rfl, (by first | omega | assumption | exact Or.inl rfl | exact Or.inr rfl)⟩), hR.up hT_h0 (by simp)⟩
  have hF_26 : F_24 h0 = .inr (12, [.ref q1, .ref q2, .ref q3, .ref q4, .ref q5, .int (nI (z + 1)), .long v]) := by rw [he_25]; exact up_self
  have hF_27 : F_24 q5 = .inl (cs 17, 64, .inl f_21) := by rw [he_25, up_ne (ne_ty ht_10 hT_h0 (by simp))]; exact hF_19
  refine lv_aload_n hx hb dX12_one_21 rfl (lv_at hl 0 rfl) ?_
  refine lv_dup hx hb dX12_one_22 rfl ?_
  refine pg_get (ci := 12) (v := .long v) (C := RX12) (T := TX12) (N := 7) hx hb hts it_12 hown hK hP hL_h0 hF_26 rfl 6 (by decide) (hts _ kt_777) (fun _ h9 => h9) rfl dX12_one_23 ?_
  refine lv_lconst (v := 1) hx hb dX12_one_26 (by decide) ?_
  refine lv_ladd hx hb dX12_one_27 ?_
  refine lv_topl (fun x_28 _ => ?_)
  refine pg_put (ci := 12) (v := .long x_28) (ty := .long) (C := RX12) (T := TX12) (N := 7) hx hb hts it_12 tyX12 tyX12_ok nmX12 hown hK hP hD hS hL_h0 hF_26 rfl 6 (by decide) (hts _ kt_777) (fun _ h9 => h9) rfl (by decide +kernel) (rfl) (rfl) (Nat.le_of_ble_eq_true rfl) dX12_one_28 (fun H locs hP hD hS => ?_)
  obtain ⟨F_29, he_30, hP, hD, hO, hR⟩ : ∃ G, G = va_up F_24 h0 (.inr (12, [.ref q1, .ref q2, .ref q3, .ref q4, .ref q5, .int (nI (z + 1)), .long x_28])) ∧ va_P (dC, dI) vwCl (va_pl L G) H ∧ va_D A (va_pl L G) ∧ OKm cs ty gm L G ∧ FR ty [ρ] F G := ⟨_, rfl, hP, hD, hO.up (shm.hash hT_h0 ⟨(z + 1), x_28, rfl, (by first | omega | assumption | exact Or.inl rfl | exact Or.inr rfl)⟩), hR.up hT_h0 (by simp)⟩
  have hF_31 : F_29 h0 = .inr (12, [.ref q1, .ref q2, .ref q3, .ref q4, .ref q5, .int (nI (z + 1)), .long x_28]) := by rw [he_30]; exact up_self
  have hF_32 : F_29 q5 = .inl (cs 17, 64, .inl f_21) := by rw [he_30, up_ne (ne_ty ht_10 hT_h0 (by simp))]; exact hF_27
  refine lv_aload_n hx hb dX12_one_31 rfl (lv_at hl 0 rfl) ?_
  refine pg_get (ci := 12) (v := .int (nI (z + 1))) (C := RX12) (T := TX12) (N := 7) hx hb hts it_12 hown hK hP hL_h0 hF_31 rfl 5 (by decide) (hts _ kt_776) (fun _ h9 => h9) rfl dX12_one_32 ?_
  refine lv_bipush (v := 64) hx hb dX12_one_35 (by decide) ?_
  refine lv_icmp_ge (tgt := 41) hx hb dX12_one_37 (by decide) (fun c_33 => ?_) (fun c_33 => ?_)
  ·
    have hi_34 : 64 ≤ (z + 1) := leN (N := 64) c_33
    refine lv_aload_n hx hb dX12_one_41 rfl (lv_at hl 0 rfl) ?_
    have hFc := pg_free hD hS hA
    refine va_callv (va_runV (As := []) (rest := []) ⟨hx, hb, hml, hown, hts⟩ (s_X12_round l dC dI cs ty gm L H.size F_29 h0 ρ q1 q2 q3 q4 q5 (z + 1) x_28 hW hL_h0 hT_h0 hF_31) ⟨callB_of 0 hts (gi kt_778) rfl rfl rfl (hts _ kt_779) (hts _ kt_780) (by decide +kernel) ⟨Nat.le_of_ble_eq_true rfl, Nat.le_of_ble_eq_true rfl⟩, (hts _ kt_781), (hts _ kt_782)⟩ ⟨fun a U g mk q => ⟨q.1, PTm.calling q.2⟩, pg_recv hK hP hL_h0 hF_31 (q := (RX12, TX12, 7)) rfl, fun U hU hWm => ⟨rfl, PTm.mk hU hWm hP hK hD hE hO⟩⟩ rfl rfl hl.1 rfl (lv_room (Nat.le_of_ble_eq_true rfl)) dX12_one_42 ⟨by show _ + 0 ≤ 0; omega, by show _ + 0 ≤ 0; omega⟩) hS (fun q _ h => hFc q h) hFc (fun u t H1 locs ht hvm hw hB hz1 hk1 hS => ?_)
    obtain ⟨F_36, hB1, hq_37⟩ := hB
    obtain ⟨hP, hD, hO, hR⟩ := QTm.back hB1 ht hFc hR (fun q h => by simp only [List.mem_cons, List.not_mem_nil, or_false] at h ⊢; omega)
    generalize H1 = H at hP hS ⊢
    refine lv_aload_n hx hb dX12_one_45 rfl (lv_at hl 0 rfl) ?_
    refine lv_iconst (v := 0) hx hb dX12_one_46 (by decide) ?_
    refine pg_put (ci := 12) (v := .int 0) (ty := .int) (C := RX12) (T := TX12) (N := 7) hx hb hts it_12 tyX12 tyX12_ok nmX12 hown hK hP hD hS hL_h0 hq_37 rfl 5 (by decide) (hts _ kt_776) (fun _ h9 => h9) rfl (by decide +kernel) (rfl) (rfl) (Nat.le_of_ble_eq_true rfl) dX12_one_47 (fun H locs hP hD hS => ?_)
    obtain ⟨F_38, he_39, hP, hD, hO, hR⟩ : ∃ G, G = va_up F_36 h0 (.inr (12, [.ref q1, .ref q2, .ref q3, .ref q4, .ref q5, .int 0, .long x_28])) ∧ va_P (dC, dI) vwCl (va_pl L G) H ∧ va_D A (va_pl L G) ∧ OKm cs ty gm L G ∧ FR ty [ρ] F G := ⟨_, rfl, hP, hD, hO.up (shm.hash hT_h0 ⟨0, x_28, rfl, (by first | omega | assumption | exact Or.inl rfl | exact Or.inr rfl)⟩), hR.up hT_h0 (by simp)⟩
    have hF_40 : F_38 h0 = .inr (12, [.ref q1, .ref q2, .ref q3, .ref q4, .ref q5, .int 0, .long x_28]) := by rw [he_39]; exact up_self
    refine W.widen (k := 0) (n := 0) (by omega) (by omega) ?_
    exact W.vret hx hb hr (fun t ht hWm => ⟨⟨(), rfl, trivial, ⟨F_38, 0, x_28, QTm.mk ht hP hD hO hR, hF_40, by omega⟩⟩, hS.F ht⟩) hS.2.2 dX12_one_50
  ·
    have hi_41 : (z + 1) < 64 := ltN (N := 64) c_33
    refine W.widen (k := 0) (n := 0) (by omega) (by omega) ?_
    exact W.vret hx hb hr (fun t ht hWm => ⟨⟨(), rfl, trivial, ⟨F_29, (z + 1), x_28, QTm.mk ht hP hD hO hR, hF_31, by omega⟩⟩, hS.F ht⟩) hS.2.2 dX12_one_40
set_option maxHeartbeats 4000000 in
set_option maxRecDepth 100000 in
theorem s_X12_begin (l : Launch) (dC : Nat → ClassId) (dI : Nat → Nat → Nat) (cs : Nat → ClassId) (ty : TyM) (gm : Nat → Nat → Nat) (L : List Nat) (sz : Nat) (F : Nat → va_E) (h0 : Nat) (ρ : Nat) (q1 : Nat) (q2 : Nat) (q3 : Nat) (q4 : Nat) (q5 : Nat) (hW : WTm ty gm L) (hL_h0 : h0 ∈ L) (hT_h0 : ty h0 = (12, ρ, [q1, q2, q3, q4, q5])) : Met l yX12_begin (.code yX12_begin cX12_begin 1 none :: tb) ({ frames := 1, cells := 0, slots := 0, locals := 48 }) (va_Pc [.ref h0] (PTm (dC, dI) cs ty gm L F sz)) (va_Qv (fun _ : Unit => True) (fun _ T9 => ∃ F2 : Nat → va_E, QTm (dC, dI) cs ty gm L [ρ] F F2 (va_A (va_pl L F) sz) T9 ∧ F2 h0 = .inr (12, [.ref q1, .ref q2, .ref q3, .ref q4, .ref q5, .int (nI 0), .long 0])) (va_A (va_pl L F) sz)) 0 0 (va_A (va_pl L F) sz) := by
  refine Met.ofW (cc := cX12_begin) (maxL := 1) (ret := none) (by decide) rfl ?_
  intro p e s m args below meth c s₁ B hml hv
  obtain ⟨rfl, hsz, hP, hK, hD0, hE, hO⟩ := hv
  have hx := B.exec
  have hb := B.bytes
  have hr := B.returns
  have hts : ∀ w ∈ tb, w.before _ s = true := fun w h => atoms_spec (ws := .code yX12_begin cX12_begin 1 none :: tb) B.pre w (List.mem_cons_of_mem _ h)
  have hown : s.vm.findClass RX12 = some m.cls := findClass_of_methodNamed B.named
  have hlocks := B.notSynchronized
  subst hsz
  have hD := hD0.self (sz := s.heap.size)
  generalize hAe : va_A (va_pl L F) s.heap.size = A at hD ⊢
  have hA : ∀ q : Nat, s.heap.size ≤ q → A q := fun q h => by rw [← hAe]; exact Or.inr h
  have hS : va_S A s.heap s.heap [] := va_S.rf
  have hR : FR ty [ρ] F F := FR.refl
  have hl := lv_entry ([.ref h0]) (n := 1) (Nat.le_of_ble_eq_true rfl)
  rw [lg_entry_eq]
  generalize (lg_sl ([.ref h0]) ++ List.replicate (1 - (lg_sl ([.ref h0])).length) Slot.unset).toArray = ls at hl ⊢
  have hl : lv_has ls 1 [(0, .ref h0)] := hl
  refine lv_aload_n hx hb dX12_begin_0 rfl (lv_at hl 0 rfl) ?_
  obtain ⟨hi_1, hi_2, hi_3, hi_4, hi_5, ht_6, ht_7, ht_8, ht_9, ht_10⟩ := hW.hash hL_h0 hT_h0
  obtain ⟨z_11, v_12, hF_13, hq_14⟩ := hO.hash hL_h0 hT_h0
  refine pg_get (ci := 12) (v := .ref q1) (C := RX12) (T := TX12) (N := 7) hx hb hts it_12 hown hK hP hL_h0 hF_13 rfl 0 (by decide) (hts _ kt_783) (fun _ h9 => h9) rfl dX12_begin_1 ?_
  refine lv_iconst (v := 0) hx hb dX12_begin_4 (by decide) ?_
  refine lv_aload_n hx hb dX12_begin_5 rfl (lv_at hl 0 rfl) ?_
  refine pg_get (ci := 12) (v := .ref q2) (C := RX12) (T := TX12) (N := 7) hx hb hts it_12 hown hK hP hL_h0 hF_13 rfl 1 (by decide) (hts _ kt_768) (fun _ h9 => h9) rfl dX12_begin_6 ?_
  refine lv_iconst (v := 0) hx hb dX12_begin_9 (by decide) ?_
  refine lv_bipush (v := 8) hx hb dX12_begin_10 (by decide) ?_
  obtain ⟨f_15, hF_16, hq_17⟩ := hO.kst hi_1 ht_6
  obtain ⟨hq_18, hq_19⟩ := hW.ints hi_2 ht_7
  obtain ⟨f_20, hF_21⟩ := hO.ints hi_2 ht_7
  refine pg_copyi hx hb (by rw [hml]; exact hl.1.symm) hown (hts _ kt_784) (hts _ kt_29) (hts _ kt_30) (hts _ kt_31) hK hP hD hS hi_1 hi_2 0 0 hF_16 hF_21 rfl rfl rfl (by decide) (by decide) (by decide) (by decide) (by decide) (fun _ _ => rfl) (Nat.le_of_ble_eq_true rfl) (by decide) dX12_begin_12 (fun H locs hP hD hS => ?_)
  obtain ⟨F_22, he_23, hP, hD, hO, hR⟩ : ∃ G, G = va_up F q2 (.inl (cs 16, 8, .inl (va_cpy f_15 f_20 (0 : Int32).toNatClampNeg (0 : Int32).toNatClampNeg (8 : Int32).toNatClampNeg))) ∧ va_P (dC, dI) vwCl (va_pl L G) H ∧ va_D A (va_pl L G) ∧ OKm cs ty gm L G ∧ FR ty [ρ] F G := ⟨_, rfl, hP, hD, hO.up (shm.ints ht_7 ⟨_, rfl⟩), hR.up ht_7 (by simp)⟩
  have hF_24 : F_22 q2 = .inl (cs 16, 8, .inl (va_cpy f_15 f_20 (0 : Int32).toNatClampNeg (0 : Int32).toNatClampNeg (8 : Int32).toNatClampNeg)) := by rw [he_23]; exact up_self
  have hF_25 : F_22 h0 = .inr (12, [.ref q1, .ref q2, .ref q3, .ref q4, .ref q5, .int (nI z_11), .long v_12]) := by rw [he_23, up_ne (ne_ty hT_h0 ht_7 (by simp))]; exact hF_13
  have hF_26 : F_22 q1 = .inl (cs 16, 8, .inl f_15) := by rw [he_23, up_ne (ne_ty ht_6 ht_7 (by simp))]; exact hF_16
  obtain ⟨f_27, hF_24⟩ : ∃ f : Nat → Int32, F_22 q2 = .inl (cs 16, 8, .inl f) := ⟨_, hF_24⟩
  refine lv_aload_n hx hb dX12_begin_15 rfl (lv_at hl 0 rfl) ?_
  refine lv_iconst (v := 0) hx hb dX12_begin_16 (by decide) ?_
  refine pg_put (ci := 12) (v := .int 0) (ty := .int) (C := RX12) (T := TX12) (N := 7) hx hb hts it_12 tyX12 tyX12_ok nmX12 hown hK hP hD hS hL_h0 hF_25 rfl 5 (by decide) (hts _ kt_776) (fun _ h9 => h9) rfl (by decide +kernel) (rfl) (rfl) (Nat.le_of_ble_eq_true rfl) dX12_begin_17 (fun H locs hP hD hS => ?_)
  obtain ⟨F_28, he_29, hP, hD, hO, hR⟩ : ∃ G, G = va_up F_22 h0 (.inr (12, [.ref q1, .ref q2, .ref q3, .ref q4, .ref q5, .int 0, .long v_12])) ∧ va_P (dC, dI) vwCl (va_pl L G) H ∧ va_D A (va_pl L G) ∧ OKm cs ty gm L G ∧ FR ty [ρ] F G := ⟨_, rfl, hP, hD, hO.up (shm.hash hT_h0 ⟨0, v_12, rfl, (by first | omega | assumption | exact Or.inl rfl | exact Or.inr rfl)⟩), hR.up hT_h0 (by simp)⟩
  have hF_30 : F_28 h0 = .inr (12, [.ref q1, .ref q2, .ref q3, .ref q4, .ref q5, .int 0, .long v_12]) := by rw [he_29]; exact up_self
  have hF_31 : F_28 q2 = .inl (cs 16, 8, .inl f_27) := by rw [he_29, up_ne (ne_ty ht_7 hT_h0 (by simp))]; exact hF_24
  have hF_32 : F_28 q1 = .inl (cs 16, 8, .inl f_15) := by rw [he_29, up_ne (ne_ty ht_6 hT_h0 (by simp))]; exact hF_26
  refine lv_aload_n hx hb dX12_begin_20 rfl (lv_at hl 0 rfl) ?_
  refine lv_lconst (v := 0) hx hb dX12_begin_21 (by decide) ?_
  refine pg_put (ci := 12) (v := .long 0) (ty := .long) (C := RX12) (T := TX12) (N := 7) hx hb hts it_12 tyX12 tyX12_ok nmX12 hown hK hP hD hS hL_h0 hF_30 rfl 6 (by decide) (hts _ kt_777) (fun _ h9 => h9) rfl (by decide +kernel) (rfl) (rfl) (Nat.le_of_ble_eq_true rfl) dX12_begin_22 (fun H locs hP hD hS => ?_)
  obtain ⟨F_33, he_34, hP, hD, hO, hR⟩ : ∃ G, G = va_up F_28 h0 (.inr (12, [.ref q1, .ref q2, .ref q3, .ref q4, .ref q5, .int 0, .long 0])) ∧ va_P (dC, dI) vwCl (va_pl L G) H ∧ va_D A (va_pl L G) ∧ OKm cs ty gm L G ∧ FR ty [ρ] F G := ⟨_, rfl, hP, hD, hO.up (shm.hash hT_h0 ⟨0, 0, rfl, (by first | omega | assumption | exact Or.inl rfl | exact Or.inr rfl)⟩), hR.up hT_h0 (by simp)⟩
  have hF_35 : F_33 h0 = .inr (12, [.ref q1, .ref q2, .ref q3, .ref q4, .ref q5, .int 0, .long 0]) := by rw [he_34]; exact up_self
  have hF_36 : F_33 q2 = .inl (cs 16, 8, .inl f_27) := by rw [he_34, up_ne (ne_ty ht_7 hT_h0 (by simp))]; exact hF_31
  have hF_37 : F_33 q1 = .inl (cs 16, 8, .inl f_15) := by rw [he_34, up_ne (ne_ty ht_6 hT_h0 (by simp))]; exact hF_32
  refine W.widen (k := 0) (n := 0) (by omega) (by omega) ?_
  exact W.vret hx hb hr (fun t ht hWm => ⟨⟨(), rfl, trivial, ⟨F_33, QTm.mk ht hP hD hO hR, hF_35⟩⟩, hS.F ht⟩) hS.2.2 dX12_begin_25
set_option maxHeartbeats 4000000 in
set_option maxRecDepth 100000 in
theorem s_X12_add (l : Launch) (dC : Nat → ClassId) (dI : Nat → Nat → Nat) (cs : Nat → ClassId) (ty : TyM) (gm : Nat → Nat → Nat) (L : List Nat) (sz : Nat) (F : Nat → va_E) (h0 : Nat) (ρ : Nat) (q1 : Nat) (q2 : Nat) (q3 : Nat) (q4 : Nat) (q5 : Nat) (z : Nat) (v : Int64) (g1 : Nat) (σ : Nat) (n1 : Nat) (a : Nat) (k : Nat) (hW : WTm ty gm L) (hL_h0 : h0 ∈ L) (hT_h0 : ty h0 = (12, ρ, [q1, q2, q3, q4, q5])) (hL_g1 : g1 ∈ L) (hT_g1 : ty g1 = (17, σ, [n1])) (hF0 : F h0 = .inr (12, [.ref q1, .ref q2, .ref q3, .ref q4, .ref q5, .int (nI z), .long v])) (hz : z < 64) (hfit : a + k ≤ n1) : Met l yX12_add (.code yX12_add cX12_add 5 none :: tb) ({ frames := 3, cells := 0, slots := 0, locals := 73 }) (va_Pc [.ref h0, .ref g1, .int (nI a), .int (nI k)] (PTm (dC, dI) cs ty gm L F sz)) (va_Qv (fun _ : Unit => True) (fun _ T9 => ∃ F2 : Nat → va_E, ∃ z2 : Nat, ∃ v2 : Int64, QTm (dC, dI) cs ty gm L [ρ] F F2 (va_A (va_pl L F) sz) T9 ∧ F2 h0 = .inr (12, [.ref q1, .ref q2, .ref q3, .ref q4, .ref q5, .int (nI z2), .long v2]) ∧ z2 < 64) (va_A (va_pl L F) sz)) 0 0 (va_A (va_pl L F) sz) := by
  refine Met.ofW (cc := cX12_add) (maxL := 5) (ret := none) (by decide) rfl ?_
  intro p e s m args below meth c s₁ B hml hv
  obtain ⟨rfl, hsz, hP, hK, hD0, hE, hO⟩ := hv
  have hx := B.exec
  have hb := B.bytes
  have hr := B.returns
  have hts : ∀ w ∈ tb, w.before _ s = true := fun w h => atoms_spec (ws := .code yX12_add cX12_add 5 none :: tb) B.pre w (List.mem_cons_of_mem _ h)
  have hown : s.vm.findClass RX12 = some m.cls := findClass_of_methodNamed B.named
  have hlocks := B.notSynchronized
  subst hsz
  have hD := hD0.self (sz := s.heap.size)
  generalize hAe : va_A (va_pl L F) s.heap.size = A at hD ⊢
  have hA : ∀ q : Nat, s.heap.size ≤ q → A q := fun q h => by rw [← hAe]; exact Or.inr h
  have hS : va_S A s.heap s.heap [] := va_S.rf
  have hR : FR ty [ρ] F F := FR.refl
  have hl := lv_entry ([.ref h0, .ref g1, .int (nI a), .int (nI k)]) (n := 5) (Nat.le_of_ble_eq_true rfl)
  rw [lg_entry_eq]
  generalize (lg_sl ([.ref h0, .ref g1, .int (nI a), .int (nI k)]) ++ List.replicate (5 - (lg_sl ([.ref h0, .ref g1, .int (nI a), .int (nI k)])).length) Slot.unset).toArray = ls at hl ⊢
  have hl : lv_has ls 5 [(0, .ref h0), (1, .ref g1), (2, .int (nI a)), (3, .int (nI k))] := hl
  obtain ⟨hq_1, hq_2⟩ := hW.octs hL_g1 hT_g1
  refine lv_iload_n hx hb dX12_add_0 rfl (lv_at hl 2 rfl) ?_
  refine lv_istore (lv' := [(4, .int (nI a)), (0, .ref h0), (1, .ref g1), (2, .int (nI a)), (3, .int (nI k))]) hx hb dX12_add_1 hl (by decide) rfl (fun ls hl => ?_)
  obtain ⟨hi_3, hi_4, hi_5, hi_6, hi_7, ht_8, ht_9, ht_10, ht_11, ht_12⟩ := hW.hash hL_h0 hT_h0
  refine W.widen (k := 0) (n := 0) (by omega) (by omega) ?_
  refine pl_loopm (σ := Nat × Nat × Int64) A (dC, dI) cs ty gm L [ρ] F 3 5 (fun (j, zz, vv) => [(4, .int (nI j)), (0, .ref h0), (1, .ref g1), (2, .int (nI a)), (3, .int (nI k))]) (fun (j, zz, vv) => []) (fun (j, zz, vv) FF => j ≤ a + k ∧ zz < 64 ∧ FF h0 = .inr (12, [.ref q1, .ref q2, .ref q3, .ref q4, .ref q5, .int (nI zz), .long vv])) (fun (j, zz, vv) => a + k - j) ?_ (a, z, v) F (⟨by omega, by omega, hF0⟩) hO hR _ _ hP hD hS ls (lv_sub hl [0, 1, 2, 3, 4] rfl)
  rintro ⟨j, zz, vv⟩ F_13 hv_14 hO hR ih_15 H locs hP hD hS ls hl
  have hl : lv_has ls 5 [(4, .int (nI j)), (0, .ref h0), (1, .ref g1), (2, .int (nI a)), (3, .int (nI k))] := hl
  have hv_14 : j ≤ a + k ∧ zz < 64 ∧ F_13 h0 = .inr (12, [.ref q1, .ref q2, .ref q3, .ref q4, .ref q5, .int (nI zz), .long vv]) := hv_14
  refine W.eq (g2 := F0 m 3 ls []) rfl ?_
  obtain ⟨h1a, h1b, h1c⟩ := hv_14
  refine lv_iload hx hb dX12_add_3 (lv_at hl 0 rfl) ?_
  refine lv_iload_n hx hb dX12_add_5 rfl (lv_at hl 3 rfl) ?_
  refine lv_iload_n hx hb dX12_add_6 rfl (lv_at hl 4 rfl) ?_
  refine lv_iadd hx hb dX12_add_7 ?_
  refine lv_topi (fun x_16 ex_16 => ?_)
  obtain rfl : x_16 = (nI (a + k)) := ex_16.trans (nI_add a k)
  refine lv_icmp_ge (tgt := 25) hx hb dX12_add_8 (by decide) (fun c_17 => ?_) (fun c_17 => ?_)
  ·
    have hi_18 : (a + k) ≤ j := leN (N := (a + k)) c_17
    refine W.widen (k := 0) (n := 0) (by omega) (by omega) ?_
    exact W.vret hx hb hr (fun t ht hWm => ⟨⟨(), rfl, trivial, ⟨F_13, zz, vv, QTm.mk ht hP hD hO hR, h1c, by omega⟩⟩, hS.F ht⟩) hS.2.2 dX12_add_25
  ·
    have hi_19 : j < (a + k) := ltN (N := (a + k)) c_17
    refine lv_aload_n hx hb dX12_add_11 rfl (lv_at hl 1 rfl) ?_
    refine lv_aload_n hx hb dX12_add_12 rfl (lv_at hl 2 rfl) ?_
    refine lv_iload hx hb dX12_add_13 (lv_at hl 0 rfl) ?_
    obtain ⟨f_20, hF_21, hq_22⟩ := hO.octs hL_g1 hT_g1
    refine pg_bald hx hb hK hP hL_g1 1 hF_21 rfl (vp_in_nI (by omega) (by omega)) dX12_add_15 ?_
    refine lv_topi (fun x_23 ex_23 => ?_)
    obtain rfl : x_23 = f_20 j := ex_23.trans (congrArg f_20 (show ((nI j) : Int32).toNatClampNeg = j from nI_clamp (by omega)))
    obtain ⟨hi_24, hi_25, hi_26, hi_27, hi_28, ht_29, ht_30, ht_31, ht_32, ht_33⟩ := hW.hash hL_h0 hT_h0
    have hFc := pg_free hD hS hA
    refine va_callv (va_runV (As := [.int (f_20 j)]) (rest := []) ⟨hx, hb, hml, hown, hts⟩ (s_X12_one l dC dI cs ty gm L H.size F_13 h0 ρ q1 q2 q3 q4 q5 zz vv (f_20 j) hW hL_h0 hT_h0 h1c (by first | omega | assumption | exact Or.inl rfl)) ⟨callB_of 1 hts (gi kt_785) rfl rfl rfl (hts _ kt_779) (hts _ kt_786) (by decide +kernel) ⟨Nat.le_of_ble_eq_true rfl, Nat.le_of_ble_eq_true rfl⟩, (hts _ kt_787), (hts _ kt_788)⟩ ⟨fun a U g mk q => ⟨q.1, PTm.calling q.2⟩, pg_recv hK hP hL_h0 h1c (q := (RX12, TX12, 7)) rfl, fun U hU hWm => ⟨rfl, PTm.mk hU hWm hP hK hD hE hO⟩⟩ rfl rfl hl.1 rfl (lv_room (Nat.le_of_ble_eq_true rfl)) dX12_add_16 ⟨by show _ + 0 ≤ 0; omega, by show _ + 0 ≤ 0; omega⟩) hS (fun q _ h => hFc q h) hFc (fun u t H1 locs ht hvm hw hB hz1 hk1 hS => ?_)
    obtain ⟨F_35, z2_36, v2_37, hB1, hq_38, hq_39⟩ := hB
    obtain ⟨hP, hD, hO, hR⟩ := QTm.back hB1 ht hFc hR (fun q h => by simp only [List.mem_cons, List.not_mem_nil, or_false] at h ⊢; omega)
    generalize H1 = H at hP hS ⊢
    refine lv_iinc (v := (nI (j + 1))) (lv' := [(4, .int (nI (j + 1))), (0, .ref h0), (1, .ref g1), (2, .int (nI a)), (3, .int (nI k))]) hx hb dX12_add_19 hl (k := 0) rfl (nI_1 _) (by decide) rfl (fun ls hl => ?_)
    refine lv_goto (tgt := 3) hx hb dX12_add_22 (by decide) ?_
    refine W.widen (k := 0) (n := 0) (by omega) (by omega) ?_
    exact ih_15 ((j + 1), z2_36, v2_37) F_35 (⟨by omega, by omega, hq_38⟩) (by show a + k - (j + 1) < a + k - j; omega) hO hR _ _ hP hD hS ls (lv_sub hl [0, 1, 2, 3, 4] rfl)
set_option maxHeartbeats 4000000 in
set_option maxRecDepth 100000 in
theorem s_X12_four (l : Launch) (dC : Nat → ClassId) (dI : Nat → Nat → Nat) (cs : Nat → ClassId) (ty : TyM) (gm : Nat → Nat → Nat) (L : List Nat) (sz : Nat) (F : Nat → va_E) (h0 : Nat) (ρ : Nat) (q1 : Nat) (q2 : Nat) (q3 : Nat) (q4 : Nat) (q5 : Nat) (z : Nat) (v : Int64) (x1 : Int32) (hW : WTm ty gm L) (hL_h0 : h0 ∈ L) (hT_h0 : ty h0 = (12, ρ, [q1, q2, q3, q4, q5])) (hF0 : F h0 = .inr (12, [.ref q1, .ref q2, .ref q3, .ref q4, .ref q5, .int (nI z), .long v])) (hz : z < 64) : Met l yX12_four (.code yX12_four cX12_four 3 none :: tb) ({ frames := 3, cells := 0, slots := 0, locals := 73 }) (va_Pc [.ref h0, .int x1] (PTm (dC, dI) cs ty gm L F sz)) (va_Qv (fun _ : Unit => True) (fun _ T9 => ∃ F2 : Nat → va_E, ∃ z2 : Nat, ∃ v2 : Int64, QTm (dC, dI) cs ty gm L [ρ] F F2 (va_A (va_pl L F) sz) T9 ∧ F2 h0 = .inr (12, [.ref q1, .ref q2, .ref q3, .ref q4, .ref q5, .int (nI z2), .long v2]) ∧ z2 < 64) (va_A (va_pl L F) sz)) 0 0 (va_A (va_pl L F) sz) := by
  refine Met.ofW (cc := cX12_four) (maxL := 3) (ret := none) (by decide) rfl ?_
  intro p e s m args below meth c s₁ B hml hv
  obtain ⟨rfl, hsz, hP, hK, hD0, hE, hO⟩ := hv
  have hx := B.exec
  have hb := B.bytes
  have hr := B.returns
  have hts : ∀ w ∈ tb, w.before _ s = true := fun w h => atoms_spec (ws := .code yX12_four cX12_four 3 none :: tb) B.pre w (List.mem_cons_of_mem _ h)
  have hown : s.vm.findClass RX12 = some m.cls := findClass_of_methodNamed B.named
  have hlocks := B.notSynchronized
  subst hsz
  have hD := hD0.self (sz := s.heap.size)
  generalize hAe : va_A (va_pl L F) s.heap.size = A at hD ⊢
  have hA : ∀ q : Nat, s.heap.size ≤ q → A q := fun q h => by rw [← hAe]; exact Or.inr h
  have hS : va_S A s.heap s.heap [] := va_S.rf
  have hR : FR ty [ρ] F F := FR.refl
  have hl := lv_entry ([.ref h0, .int x1]) (n := 3) (Nat.le_of_ble_eq_true rfl)
  rw [lg_entry_eq]
  generalize (lg_sl ([.ref h0, .int x1]) ++ List.replicate (3 - (lg_sl ([.ref h0, .int x1])).length) Slot.unset).toArray = ls at hl ⊢
  have hl : lv_has ls 3 [(0, .ref h0), (1, .int x1)] := hl
  refine lv_bipush (v := 24) hx hb dX12_four_0 (by decide) ?_
  refine lv_istore_n (lv' := [(2, .int 24), (0, .ref h0), (1, .int x1)]) hx hb dX12_four_2 rfl hl (by decide) rfl (fun ls hl => ?_)
  obtain ⟨hi_1, hi_2, hi_3, hi_4, hi_5, ht_6, ht_7, ht_8, ht_9, ht_10⟩ := hW.hash hL_h0 hT_h0
  refine W.widen (k := 0) (n := 0) (by omega) (by omega) ?_
  refine pl_loopm (σ := Int32 × Nat × Int64) A (dC, dI) cs ty gm L [ρ] F 3 3 (fun (i1, zz, vv) => [(2, .int i1), (0, .ref h0), (1, .int x1)]) (fun (i1, zz, vv) => []) (fun (i1, zz, vv) FF => zz < 64 ∧ FF h0 = .inr (12, [.ref q1, .ref q2, .ref q3, .ref q4, .ref q5, .int (nI zz), .long vv])) (fun (i1, zz, vv) => (i1.toInt + 8).toNat) ?_ (24, z, v) F (⟨by omega, hF0⟩) hO hR _ _ hP hD hS ls (lv_sub hl [0, 1, 2] rfl)
  rintro ⟨i1, zz, vv⟩ F_11 hv_12 hO hR ih_13 H locs hP hD hS ls hl
  have hl : lv_has ls 3 [(2, .int i1), (0, .ref h0), (1, .int x1)] := hl
  have hv_12 : zz < 64 ∧ F_11 h0 = .inr (12, [.ref q1, .ref q2, .ref q3, .ref q4, .ref q5, .int (nI zz), .long vv]) := hv_12
  refine W.eq (g2 := F0 m 3 ls []) rfl ?_
  obtain ⟨h1b, h1c⟩ := hv_12
  refine lv_iload_n hx hb dX12_four_3 rfl (lv_at hl 0 rfl) ?_
  refine lv_if_lt (tgt := 20) hx hb dX12_four_4 (by decide) (fun c_14 => ?_) (fun c_14 => ?_)
  ·
    refine W.widen (k := 0) (n := 0) (by omega) (by omega) ?_
    exact W.vret hx hb hr (fun t ht hWm => ⟨⟨(), rfl, trivial, ⟨F_11, zz, vv, QTm.mk ht hP hD hO hR, h1c, by omega⟩⟩, hS.F ht⟩) hS.2.2 dX12_four_20
  ·
    have hc4 := c_14
    refine lv_aload_n hx hb dX12_four_7 rfl (lv_at hl 1 rfl) ?_
    refine lv_iload_n hx hb dX12_four_8 rfl (lv_at hl 2 rfl) ?_
    refine lv_iload_n hx hb dX12_four_9 rfl (lv_at hl 0 rfl) ?_
    refine lv_ishr hx hb dX12_four_10 ?_
    refine lv_topi (fun x_15 _ => ?_)
    obtain ⟨hi_16, hi_17, hi_18, hi_19, hi_20, ht_21, ht_22, ht_23, ht_24, ht_25⟩ := hW.hash hL_h0 hT_h0
    have hFc := pg_free hD hS hA
    refine va_callv (va_runV (As := [.int x_15]) (rest := []) ⟨hx, hb, hml, hown, hts⟩ (s_X12_one l dC dI cs ty gm L H.size F_11 h0 ρ q1 q2 q3 q4 q5 zz vv x_15 hW hL_h0 hT_h0 h1c (by first | omega | assumption | exact Or.inl rfl)) ⟨callB_of 1 hts (gi kt_785) rfl rfl rfl (hts _ kt_779) (hts _ kt_786) (by decide +kernel) ⟨Nat.le_of_ble_eq_true rfl, Nat.le_of_ble_eq_true rfl⟩, (hts _ kt_787), (hts _ kt_788)⟩ ⟨fun a U g mk q => ⟨q.1, PTm.calling q.2⟩, pg_recv hK hP hL_h0 h1c (q := (RX12, TX12, 7)) rfl, fun U hU hWm => ⟨rfl, PTm.mk hU hWm hP hK hD hE hO⟩⟩ rfl rfl hl.1 rfl (lv_room (Nat.le_of_ble_eq_true rfl)) dX12_four_11 ⟨by show _ + 0 ≤ 0; omega, by show _ + 0 ≤ 0; omega⟩) hS (fun q _ h => hFc q h) hFc (fun u t H1 locs ht hvm hw hB hz1 hk1 hS => ?_)
    obtain ⟨F_27, z2_28, v2_29, hB1, hq_30, hq_31⟩ := hB
    obtain ⟨hP, hD, hO, hR⟩ := QTm.back hB1 ht hFc hR (fun q h => by simp only [List.mem_cons, List.not_mem_nil, or_false] at h ⊢; omega)
    generalize H1 = H at hP hS ⊢
    obtain ⟨x_32, ex_32⟩ : ∃ y : Int32, y = i1 + Int32.ofInt (-8) := ⟨_, rfl⟩
    refine lv_iinc (v := x_32) (lv' := [(2, .int x_32), (0, .ref h0), (1, .int x1)]) hx hb dX12_four_14 hl (k := 0) rfl (ex_32.symm) (by decide) rfl (fun ls hl => ?_)
    refine lv_goto (tgt := 3) hx hb dX12_four_17 (by decide) ?_
    refine W.widen (k := 0) (n := 0) (by omega) (by omega) ?_
    exact ih_13 (x_32, z2_28, v2_29) F_27 (⟨by omega, hq_30⟩) (by show (x_32.toInt + 8).toNat < (i1.toInt + 8).toNat; exact dec8 ex_32 hc4) hO hR _ _ hP hD hS ls (lv_sub hl [0, 1, 2] rfl)
set_option maxHeartbeats 4000000 in
set_option maxRecDepth 100000 in
theorem s_X12_finish (l : Launch) (dC : Nat → ClassId) (dI : Nat → Nat → Nat) (cs : Nat → ClassId) (ty : TyM) (gm : Nat → Nat → Nat) (L : List Nat) (sz : Nat) (F : Nat → va_E) (h0 : Nat) (ρ : Nat) (q1 : Nat) (q2 : Nat) (q3 : Nat) (q4 : Nat) (q5 : Nat) (z : Nat) (v : Int64) (gt : Nat) (τ : Nat) (nt : Nat) (a : Nat) (hW : WTm ty gm L) (hL_h0 : h0 ∈ L) (hT_h0 : ty h0 = (12, ρ, [q1, q2, q3, q4, q5])) (hL_gt : gt ∈ L) (hT_gt : ty gt = (17, τ, [nt])) (hF0 : F h0 = .inr (12, [.ref q1, .ref q2, .ref q3, .ref q4, .ref q5, .int (nI z), .long v])) (hz : z < 64) (hfit : a + 32 ≤ nt) : Met l yX12_finish (.code yX12_finish cX12_finish 6 none :: tb) ({ frames := 4, cells := 0, slots := 0, locals := 95 }) (va_Pc [.ref h0, .ref gt, .int (nI a)] (PTm (dC, dI) cs ty gm L F sz)) (va_Qv (fun _ : Unit => True) (fun _ T9 => ∃ F2 : Nat → va_E, QTm (dC, dI) cs ty gm L [ρ, τ] F F2 (va_A (va_pl L F) sz) T9) (va_A (va_pl L F) sz)) 0 0 (va_A (va_pl L F) sz) := by
  refine Met.ofW (cc := cX12_finish) (maxL := 6) (ret := none) (by decide) rfl ?_
  intro p e s m args below meth c s₁ B hml hv
  obtain ⟨rfl, hsz, hP, hK, hD0, hE, hO⟩ := hv
  have hx := B.exec
  have hb := B.bytes
  have hr := B.returns
  have hts : ∀ w ∈ tb, w.before _ s = true := fun w h => atoms_spec (ws := .code yX12_finish cX12_finish 6 none :: tb) B.pre w (List.mem_cons_of_mem _ h)
  have hown : s.vm.findClass RX12 = some m.cls := findClass_of_methodNamed B.named
  have hlocks := B.notSynchronized
  subst hsz
  have hD := hD0.self (sz := s.heap.size)
  generalize hAe : va_A (va_pl L F) s.heap.size = A at hD ⊢
  have hA : ∀ q : Nat, s.heap.size ≤ q → A q := fun q h => by rw [← hAe]; exact Or.inr h
  have hS : va_S A s.heap s.heap [] := va_S.rf
  have hR : FR ty [ρ, τ] F F := FR.refl
  have hl := lv_entry ([.ref h0, .ref gt, .int (nI a)]) (n := 6) (Nat.le_of_ble_eq_true rfl)
  rw [lg_entry_eq]
  generalize (lg_sl ([.ref h0, .ref gt, .int (nI a)]) ++ List.replicate (6 - (lg_sl ([.ref h0, .ref gt, .int (nI a)])).length) Slot.unset).toArray = ls at hl ⊢
  have hl : lv_has ls 6 [(0, .ref h0), (1, .ref gt), (2, .int (nI a))] := hl
  obtain ⟨hq_1, hq_2⟩ := hW.octs hL_gt hT_gt
  refine lv_ldc2 (v := 8) hx hb hown (hts _ kt_789) dX12_finish_0 ?_
  refine lv_aload_n hx hb dX12_finish_3 rfl (lv_at hl 0 rfl) ?_
  obtain ⟨hi_3, hi_4, hi_5, hi_6, hi_7, ht_8, ht_9, ht_10, ht_11, ht_12⟩ := hW.hash hL_h0 hT_h0
  refine pg_get (ci := 12) (v := .long v) (C := RX12) (T := TX12) (N := 7) hx hb hts it_12 hown hK hP hL_h0 hF0 rfl 6 (by decide) (hts _ kt_777) (fun _ h9 => h9) rfl dX12_finish_4 ?_
  refine lv_lmul hx hb dX12_finish_7 ?_
  refine lv_topl (fun x_13 _ => ?_)
  refine lv_lstore_n (lv' := [(3, .long x_13), (0, .ref h0), (1, .ref gt), (2, .int (nI a))]) hx hb dX12_finish_8 rfl hl (by decide) rfl (fun ls hl => ?_)
  refine lv_aload_n hx hb dX12_finish_9 rfl (lv_at hl 1 rfl) ?_
  refine lv_sipush (v := 128) hx hb dX12_finish_10 (by decide) ?_
  have hFc := pg_free hD hS hA
  refine va_callv (va_runV (As := [.int 128]) (rest := []) ⟨hx, hb, hml, hown, hts⟩ (s_X12_one l dC dI cs ty gm L s.heap.size F h0 ρ q1 q2 q3 q4 q5 z v 128 hW hL_h0 hT_h0 hF0 (by first | omega | assumption | exact Or.inl rfl)) ⟨callB_of 1 hts (gi kt_785) rfl rfl rfl (hts _ kt_779) (hts _ kt_786) (by decide +kernel) ⟨Nat.le_of_ble_eq_true rfl, Nat.le_of_ble_eq_true rfl⟩, (hts _ kt_787), (hts _ kt_788)⟩ ⟨fun a U g mk q => ⟨q.1, PTm.calling q.2⟩, pg_recv hK hP hL_h0 hF0 (q := (RX12, TX12, 7)) rfl, fun U hU hWm => ⟨rfl, PTm.mk hU hWm hP hK hD hE hO⟩⟩ rfl rfl hl.1 rfl (lv_room (Nat.le_of_ble_eq_true rfl)) dX12_finish_13 ⟨by show _ + 0 ≤ 0; omega, by show _ + 0 ≤ 0; omega⟩) hS (fun q _ h => hFc q h) hFc (fun u t H1 locs ht hvm hw hB hz1 hk1 hS => ?_)
  obtain ⟨F_15, z2_16, v2_17, hB1, hq_18, hq_19⟩ := hB
  obtain ⟨hP, hD, hO, hR⟩ := QTm.back hB1 ht hFc hR (fun q h => by simp only [List.mem_cons, List.not_mem_nil, or_false] at h ⊢; omega)
  generalize H1 = H at hP hS ⊢
  refine W.widen (k := 0) (n := 0) (by omega) (by omega) ?_
  refine pl_loopm (σ := Nat × Int64) A (dC, dI) cs ty gm L [ρ, τ] F 16 6 (fun (zz, vv) => [(3, .long x_13), (0, .ref h0), (1, .ref gt), (2, .int (nI a))]) (fun (zz, vv) => []) (fun (zz, vv) FF => zz < 64 ∧ FF h0 = .inr (12, [.ref q1, .ref q2, .ref q3, .ref q4, .ref q5, .int (nI zz), .long vv])) (fun (zz, vv) => (120 - zz) % 64) ?_ (z2_16, v2_17) F_15 (⟨by omega, hq_18⟩) hO hR _ _ hP hD hS ls (lv_sub hl [0, 1, 2, 3] rfl)
  rintro ⟨zz, vv⟩ F_20 hv_21 hO hR ih_22 H locs hP hD hS ls hl
  have hl : lv_has ls 6 [(3, .long x_13), (0, .ref h0), (1, .ref gt), (2, .int (nI a))] := hl
  have hv_21 : zz < 64 ∧ F_20 h0 = .inr (12, [.ref q1, .ref q2, .ref q3, .ref q4, .ref q5, .int (nI zz), .long vv]) := hv_21
  refine W.eq (g2 := F0 m 16 ls []) rfl ?_
  obtain ⟨h1b, h1c⟩ := hv_21
  refine lv_aload_n hx hb dX12_finish_16 rfl (lv_at hl 1 rfl) ?_
  refine pg_get (ci := 12) (v := .int (nI zz)) (C := RX12) (T := TX12) (N := 7) hx hb hts it_12 hown hK hP hL_h0 h1c rfl 5 (by decide) (hts _ kt_776) (fun _ h9 => h9) rfl dX12_finish_17 ?_
  refine lv_bipush (v := 56) hx hb dX12_finish_20 (by decide) ?_
  refine lv_icmp_eq (tgt := 33) hx hb dX12_finish_22 (by decide) (fun c_23 => ?_) (fun c_23 => ?_)
  ·
    have hi_24 : zz = 56 := (nI_eq (a := zz) (b := 56) (by omega) (by omega)).mp c_23
    refine lv_aload_n hx hb dX12_finish_33 rfl (lv_at hl 1 rfl) ?_
    refine lv_lload_n hx hb dX12_finish_34 rfl (lv_at hl 0 rfl) ?_
    refine lv_bipush (v := 32) hx hb dX12_finish_35 (by decide) ?_
    refine lv_lushr hx hb dX12_finish_37 rfl ?_
    refine lv_topl (fun x_26 _ => ?_)
    refine lv_l2i hx hb dX12_finish_38 rfl ?_
    refine lv_topi (fun x_27 _ => ?_)
    have hFc := pg_free hD hS hA
    refine va_callv (va_runV (As := [.int x_27]) (rest := []) ⟨hx, hb, hml, hown, hts⟩ (s_X12_four l dC dI cs ty gm L H.size F_20 h0 ρ q1 q2 q3 q4 q5 zz vv x_27 hW hL_h0 hT_h0 h1c (by first | omega | assumption | exact Or.inl rfl)) ⟨callB_of 1 hts (gi kt_790) rfl rfl rfl (hts _ kt_779) (hts _ kt_791) (by decide +kernel) ⟨Nat.le_of_ble_eq_true rfl, Nat.le_of_ble_eq_true rfl⟩, (hts _ kt_792), (hts _ kt_793)⟩ ⟨fun a U g mk q => ⟨q.1, PTm.calling q.2⟩, pg_recv hK hP hL_h0 h1c (q := (RX12, TX12, 7)) rfl, fun U hU hWm => ⟨rfl, PTm.mk hU hWm hP hK hD hE hO⟩⟩ rfl rfl hl.1 rfl (lv_room (Nat.le_of_ble_eq_true rfl)) dX12_finish_39 ⟨by show _ + 0 ≤ 0; omega, by show _ + 0 ≤ 0; omega⟩) hS (fun q _ h => hFc q h) hFc (fun u t H1 locs ht hvm hw hB hz1 hk1 hS => ?_)
    obtain ⟨F_29, z2_30, v2_31, hB1, hq_32, hq_33⟩ := hB
    obtain ⟨hP, hD, hO, hR⟩ := QTm.back hB1 ht hFc hR (fun q h => by simp only [List.mem_cons, List.not_mem_nil, or_false] at h ⊢; omega)
    generalize H1 = H at hP hS ⊢
    refine lv_aload_n hx hb dX12_finish_42 rfl (lv_at hl 1 rfl) ?_
    refine lv_lload_n hx hb dX12_finish_43 rfl (lv_at hl 0 rfl) ?_
    refine lv_l2i hx hb dX12_finish_44 rfl ?_
    refine lv_topi (fun x_34 _ => ?_)
    have hFc := pg_free hD hS hA
    refine va_callv (va_runV (As := [.int x_34]) (rest := []) ⟨hx, hb, hml, hown, hts⟩ (s_X12_four l dC dI cs ty gm L H.size F_29 h0 ρ q1 q2 q3 q4 q5 z2_30 v2_31 x_34 hW hL_h0 hT_h0 hq_32 (by first | omega | assumption | exact Or.inl rfl)) ⟨callB_of 1 hts (gi kt_790) rfl rfl rfl (hts _ kt_779) (hts _ kt_791) (by decide +kernel) ⟨Nat.le_of_ble_eq_true rfl, Nat.le_of_ble_eq_true rfl⟩, (hts _ kt_792), (hts _ kt_793)⟩ ⟨fun a U g mk q => ⟨q.1, PTm.calling q.2⟩, pg_recv hK hP hL_h0 hq_32 (q := (RX12, TX12, 7)) rfl, fun U hU hWm => ⟨rfl, PTm.mk hU hWm hP hK hD hE hO⟩⟩ rfl rfl hl.1 rfl (lv_room (Nat.le_of_ble_eq_true rfl)) dX12_finish_45 ⟨by show _ + 0 ≤ 0; omega, by show _ + 0 ≤ 0; omega⟩) hS (fun q _ h => hFc q h) hFc (fun u t H1 locs ht hvm hw hB hz1 hk1 hS => ?_)
    obtain ⟨F_36, z2_37, v2_38, hB1, hq_39, hq_40⟩ := hB
    obtain ⟨hP, hD, hO, hR⟩ := QTm.back hB1 ht hFc hR (fun q h => by simp only [List.mem_cons, List.not_mem_nil, or_false] at h ⊢; omega)
    generalize H1 = H at hP hS ⊢
    refine lv_iconst (v := 0) hx hb dX12_finish_48 (by decide) ?_
    refine lv_istore (lv' := [(5, .int 0), (3, .long x_13), (0, .ref h0), (1, .ref gt), (2, .int (nI a))]) hx hb dX12_finish_49 hl (by decide) rfl (fun ls hl => ?_)
    refine W.widen (k := 0) (n := 0) (by omega) (by omega) ?_
    refine pl_loopm (σ := Nat) A (dC, dI) cs ty gm L [ρ, τ] F 51 6 (fun i1 => [(5, .int (nI i1)), (0, .ref h0), (1, .ref gt), (2, .int (nI a))]) (fun i1 => []) (fun i1 _ => i1 ≤ 32) (fun i1 => 32 - i1) ?_ 0 F_36 (by omega) hO hR _ _ hP hD hS ls (lv_sub hl [0, 2, 3, 4] rfl)
    rintro i1 F_41 hv_42 hO hR ih_43 H locs hP hD hS ls hl
    have hl : lv_has ls 6 [(5, .int (nI i1)), (0, .ref h0), (1, .ref gt), (2, .int (nI a))] := hl
    have hv_42 : i1 ≤ 32 := hv_42
    refine W.eq (g2 := F0 m 51 ls []) rfl ?_
    refine lv_iload hx hb dX12_finish_51 (lv_at hl 0 rfl) ?_
    refine lv_bipush (v := 32) hx hb dX12_finish_53 (by decide) ?_
    refine lv_icmp_ge (tgt := 91) hx hb dX12_finish_55 (by decide) (fun c_44 => ?_) (fun c_44 => ?_)
    ·
      have hi_45 : 32 ≤ i1 := leN (N := 32) c_44
      refine W.widen (k := 0) (n := 0) (by omega) (by omega) ?_
      exact W.vret hx hb hr (fun t ht hWm => ⟨⟨(), rfl, trivial, ⟨F_41, QTm.mk ht hP hD hO hR⟩⟩, hS.F ht⟩) hS.2.2 dX12_finish_91
    ·
      have hi_46 : i1 < 32 := ltN (N := 32) c_44
      refine lv_aload_n hx hb dX12_finish_58 rfl (lv_at hl 2 rfl) ?_
      refine lv_iload_n hx hb dX12_finish_59 rfl (lv_at hl 3 rfl) ?_
      refine lv_iload hx hb dX12_finish_60 (lv_at hl 0 rfl) ?_
      refine lv_iadd hx hb dX12_finish_62 ?_
      refine lv_topi (fun x_47 ex_47 => ?_)
      obtain rfl : x_47 = (nI (a + i1)) := ex_47.trans (nI_add a i1)
      refine lv_aload_n hx hb dX12_finish_63 rfl (lv_at hl 1 rfl) ?_
      obtain ⟨z_48, v_49, hF_50, hq_51⟩ := hO.hash hL_h0 hT_h0
      refine pg_get (ci := 12) (v := .ref q2) (C := RX12) (T := TX12) (N := 7) hx hb hts it_12 hown hK hP hL_h0 hF_50 rfl 1 (by decide) (hts _ kt_768) (fun _ h9 => h9) rfl dX12_finish_64 ?_
      refine lv_iload hx hb dX12_finish_67 (lv_at hl 0 rfl) ?_
      refine lv_iconst (v := 4) hx hb dX12_finish_69 (by decide) ?_
      refine lv_idiv hx hb dX12_finish_70 (by decide) ?_
      refine lv_topi (fun x_52 ex_52 => ?_)
      obtain rfl : x_52 = (nI (i1 / 4)) := ex_52.trans (pk_div (d := 4) (by omega) (by omega) (by omega))
      obtain ⟨hq_53, hq_54⟩ := hW.ints hi_4 ht_9
      obtain ⟨f_55, hF_56⟩ := hO.ints hi_4 ht_9
      refine pg_iald hx hb hK hP hi_4 0 hF_56 rfl (vp_in_nI (by omega) (by omega)) dX12_finish_71 ?_
      refine lv_topi (fun x_57 _ => ?_)
      refine lv_bipush (v := 24) hx hb dX12_finish_72 (by decide) ?_
      refine lv_bipush (v := 8) hx hb dX12_finish_74 (by decide) ?_
      refine lv_iload hx hb dX12_finish_76 (lv_at hl 0 rfl) ?_
      refine lv_iconst (v := 4) hx hb dX12_finish_78 (by decide) ?_
      refine lv_irem hx hb dX12_finish_79 (by decide) ?_
      refine lv_topi (fun x_58 ex_58 => ?_)
      refine lv_imul hx hb dX12_finish_80 ?_
      refine lv_topi (fun x_59 ex_59 => ?_)
      refine lv_isub hx hb dX12_finish_81 ?_
      refine lv_topi (fun x_60 ex_60 => ?_)
      refine lv_ishr hx hb dX12_finish_82 ?_
      refine lv_topi (fun x_61 _ => ?_)
      refine lv_i2b hx hb dX12_finish_83 rfl ?_
      refine lv_topi (fun x_62 _ => ?_)
      obtain ⟨f_63, hF_64, hq_65⟩ := hO.octs hL_gt hT_gt
      refine pg_bast hx hb hK hP hD hS hL_gt 1 hF_64 rfl (vp_in_nI (by omega) (by omega)) dX12_finish_84 (fun H locs hP hD hS => ?_)
      obtain ⟨F_66, he_67, hP, hD, hO, hR⟩ : ∃ G, G = va_up F_41 gt (.inl (cs 17, nt, .inl (upd f_63 ((nI (a + i1))).toNatClampNeg (vp_nar .byte (x_62))))) ∧ va_P (dC, dI) vwCl (va_pl L G) H ∧ va_D A (va_pl L G) ∧ OKm cs ty gm L G ∧ FR ty [ρ, τ] F G := ⟨_, rfl, hP, hD, hO.up (shm.octs hT_gt ⟨_, rfl, bfm_upd hq_65 _ _⟩), hR.up hT_gt (by simp)⟩
      have hF_68 : F_66 gt = .inl (cs 17, nt, .inl (upd f_63 ((nI (a + i1))).toNatClampNeg (vp_nar .byte (x_62)))) := by rw [he_67]; exact up_self
      have hF_69 : F_66 h0 = .inr (12, [.ref q1, .ref q2, .ref q3, .ref q4, .ref q5, .int (nI z_48), .long v_49]) := by rw [he_67, up_ne (ne_ty hT_h0 hT_gt (by simp))]; exact hF_50
      have hF_70 : F_66 q2 = .inl (cs 16, 8, .inl f_55) := by rw [he_67, up_ne (ne_ty ht_9 hT_gt (by simp))]; exact hF_56
      obtain ⟨f_71, hF_68, hq_72⟩ : ∃ f : Nat → Int32, F_66 gt = .inl (cs 17, nt, .inl f) ∧ BFm f := ⟨_, hF_68, bfm_upd hq_65 _ _⟩
      refine lv_iinc (v := (nI (i1 + 1))) (lv' := [(5, .int (nI (i1 + 1))), (0, .ref h0), (1, .ref gt), (2, .int (nI a))]) hx hb dX12_finish_85 hl (k := 0) rfl (nI_1 _) (by decide) rfl (fun ls hl => ?_)
      refine lv_goto (tgt := 51) hx hb dX12_finish_88 (by decide) ?_
      refine W.widen (k := 0) (n := 0) (by omega) (by omega) ?_
      exact ih_43 (i1 + 1) F_66 (by first | omega | exact ⟨by omega, by omega⟩ | trivial) (by show 32 - (i1 + 1) < 32 - i1; omega) hO hR _ _ hP hD hS ls (lv_sub hl [0, 1, 2, 3] rfl)
  ·
    have hi_73 : zz ≠ 56 := fun q => c_23 (by rw [q]; rfl)
    refine lv_aload_n hx hb dX12_finish_25 rfl (lv_at hl 1 rfl) ?_
    refine lv_iconst (v := 0) hx hb dX12_finish_26 (by decide) ?_
    have hFc := pg_free hD hS hA
    refine va_callv (va_runV (As := [.int 0]) (rest := []) ⟨hx, hb, hml, hown, hts⟩ (s_X12_one l dC dI cs ty gm L H.size F_20 h0 ρ q1 q2 q3 q4 q5 zz vv 0 hW hL_h0 hT_h0 h1c (by first | omega | assumption | exact Or.inl rfl)) ⟨callB_of 1 hts (gi kt_785) rfl rfl rfl (hts _ kt_779) (hts _ kt_786) (by decide +kernel) ⟨Nat.le_of_ble_eq_true rfl, Nat.le_of_ble_eq_true rfl⟩, (hts _ kt_787), (hts _ kt_788)⟩ ⟨fun a U g mk q => ⟨q.1, PTm.calling q.2⟩, pg_recv hK hP hL_h0 h1c (q := (RX12, TX12, 7)) rfl, fun U hU hWm => ⟨rfl, PTm.mk hU hWm hP hK hD hE hO⟩⟩ rfl rfl hl.1 rfl (lv_room (Nat.le_of_ble_eq_true rfl)) dX12_finish_27 ⟨by show _ + 0 ≤ 0; omega, by show _ + 0 ≤ 0; omega⟩) hS (fun q _ h => hFc q h) hFc (fun u t H1 locs ht hvm hw hB hz1 hk1 hS => ?_)
    obtain ⟨F_75, z2_76, v2_77, hB1, hq_78, hq_79⟩ := hB
    obtain ⟨hP, hD, hO, hR⟩ := QTm.back hB1 ht hFc hR (fun q h => by simp only [List.mem_cons, List.not_mem_nil, or_false] at h ⊢; omega)
    generalize H1 = H at hP hS ⊢
    refine lv_goto (tgt := 16) hx hb dX12_finish_30 (by decide) ?_
    refine W.widen (k := 0) (n := 0) (by omega) (by omega) ?_
    exact ih_22 (z2_76, v2_77) F_75 (⟨by omega, hq_78⟩) (by show (120 - z2_76) % 64 < (120 - zz) % 64; omega) hO hR _ _ hP hD hS ls (lv_sub hl [0, 1, 2, 3] rfl)
set_option maxHeartbeats 4000000 in
set_option maxRecDepth 100000 in
theorem s_X15_digest (l : Launch) (dC : Nat → ClassId) (dI : Nat → Nat → Nat) (cs : Nat → ClassId) (ty : TyM) (gm : Nat → Nat → Nat) (L : List Nat) (sz : Nat) (F : Nat → va_E) (h0 : Nat) (ρ : Nat) (ta : Nat) (ou : Nat) (so : Nat) (ad : Nat) (na : Nat) (va : Nat) (lc : Nat) (dm : Nat) (tg : Nat) (pe : Nat) (ml : Nat) (bg : Nat) (co : Nat) (sp : Nat) (nb0 : Nat) (nb1 : Nat) (nb2 : Nat) (pl : Nat) (se : Nat) (ke : Nat) (wi : Nat) (hs : Nat) (mo : Nat) (po : Nat) (nu : Nat) (pr : Nat) (sq : Nat) (xa : Nat) (sa : Nat) (n64 : Nat) (m64 : Nat) (ex : Nat) (wh : Nat) (sd : Nat) (tk : Nat) (hd : Nat) (ak : Nat) (ho : Nat) (ot : Nat) (sx : Nat) (s0 : Nat) (s1 : Nat) (s2 : Nat) (nf : Nat) (bd : Nat) (mm : Nat) (zo : Nat) (fm : Nat) (sn : Nat) (hg : Nat) (gc : Nat) (gv : Nat) (ze : Nat) (zt : Nat) (g1 : Nat) (σ : Nat) (n1 : Nat) (gt : Nat) (τ : Nat) (nt : Nat) (k : Nat) (hW : WTm ty gm L) (hL_h0 : h0 ∈ L) (hT_h0 : ty h0 = (15, ρ, [ta, ou, so, ad, na, va, lc, dm, tg, pe, ml, bg, co, sp, nb0, nb1, nb2, pl, se, ke, wi, hs, mo, po, nu, pr, sq, xa, sa, n64, m64, ex, wh, sd, tk, hd, ak, ho, ot, sx, s0, s1, s2, nf, bd, mm, zo, fm, sn, hg, gc, gv, ze, zt])) (hL_g1 : g1 ∈ L) (hT_g1 : ty g1 = (17, σ, [n1])) (hL_gt : gt ∈ L) (hT_gt : ty gt = (17, τ, [nt])) (hk : k ≤ n1) (hnt : 32 ≤ nt) : Met l yX15_digest (.code yX15_digest cX15_digest 4 none :: tb) ({ frames := 5, cells := 0, slots := 0, locals := 120 }) (va_Pc [.ref h0, .ref g1, .int (nI k), .ref gt] (PTm (dC, dI) cs ty gm L F sz)) (va_Qv (fun _ : Unit => True) (fun _ T9 => ∃ F2 : Nat → va_E, QTm (dC, dI) cs ty gm L [ρ + 17, τ] F F2 (va_A (va_pl L F) sz) T9) (va_A (va_pl L F) sz)) 0 0 (va_A (va_pl L F) sz) := by
  refine Met.ofW (cc := cX15_digest) (maxL := 4) (ret := none) (by decide) rfl ?_
  intro p e s m args below meth c s₁ B hml hv
  obtain ⟨rfl, hsz, hP, hK, hD0, hE, hO⟩ := hv
  have hx := B.exec
  have hb := B.bytes
  have hr := B.returns
  have hts : ∀ w ∈ tb, w.before _ s = true := fun w h => atoms_spec (ws := .code yX15_digest cX15_digest 4 none :: tb) B.pre w (List.mem_cons_of_mem _ h)
  have hown : s.vm.findClass RX15 = some m.cls := findClass_of_methodNamed B.named
  have hlocks := B.notSynchronized
  subst hsz
  have hD := hD0.self (sz := s.heap.size)
  generalize hAe : va_A (va_pl L F) s.heap.size = A at hD ⊢
  have hA : ∀ q : Nat, s.heap.size ≤ q → A q := fun q h => by rw [← hAe]; exact Or.inr h
  have hS : va_S A s.heap s.heap [] := va_S.rf
  have hR : FR ty [ρ + 17, τ] F F := FR.refl
  have hl := lv_entry ([.ref h0, .ref g1, .int (nI k), .ref gt]) (n := 4) (Nat.le_of_ble_eq_true rfl)
  rw [lg_entry_eq]
  generalize (lg_sl ([.ref h0, .ref g1, .int (nI k), .ref gt]) ++ List.replicate (4 - (lg_sl ([.ref h0, .ref g1, .int (nI k), .ref gt])).length) Slot.unset).toArray = ls at hl ⊢
  have hl : lv_has ls 4 [(0, .ref h0), (1, .ref g1), (2, .int (nI k)), (3, .ref gt)] := hl
  refine lv_aload_n hx hb dX15_digest_0 rfl (lv_at hl 0 rfl) ?_
  obtain ⟨hq_23, hq_24, hq_25, hq_26, hq_27, hgO, hgA, hgB, hq_28⟩ := hW.sc hL_h0 hT_h0
  obtain ⟨v14_29, v15_30, v17_31, v18_32, v19_33, v20_34, v21_35, v22_36, v33_37, v52_38, v53_39, v54_40, hF_41, hq_42, hq_43, hq_44, hq_45, hq_46⟩ := hO.mod hL_h0 hT_h0
  refine pg_get (ci := 15) (v := .ref hs) (C := RX15) (T := TX15) (N := 59) hx hb hts it_15 hown hK hP hL_h0 hF_41 rfl 38 (by decide) (hts _ kt_794) (fun _ h9 => h9) rfl dX15_digest_1 ?_
  obtain ⟨hi_47, x_13, y_14, w_15, u_16, bl_17, ht_48⟩ := hW.f_hs hL_h0 hT_h0
  obtain ⟨hi_49, hi_50, hi_51, hi_52, hi_53, ht_54, ht_55, ht_56, ht_57, ht_58⟩ := hW.hash hi_47 ht_48
  have hFc := pg_free hD hS hA
  obtain ⟨z_59, v_60, hF_61, hq_62⟩ := hO.hash hi_47 ht_48
  refine va_callv (va_runV (As := []) (rest := []) ⟨hx, hb, hml, hown, hts⟩ (s_X12_begin l dC dI cs ty gm L s.heap.size F hs (ρ + 17) x_13 y_14 w_15 u_16 bl_17 hW hi_47 ht_48) ⟨callB_of 0 hts (gi kt_795) rfl rfl rfl (hts _ kt_779) (hts _ kt_796) (by decide +kernel) ⟨Nat.le_of_ble_eq_true rfl, Nat.le_of_ble_eq_true rfl⟩, (hts _ kt_797), (hts _ kt_798)⟩ ⟨fun a U g mk q => ⟨q.1, PTm.calling q.2⟩, pg_recv hK hP hi_47 hF_61 (q := (RX12, TX12, 7)) rfl, fun U hU hWm => ⟨rfl, PTm.mk hU hWm hP hK hD hE hO⟩⟩ rfl rfl hl.1 rfl (lv_room (Nat.le_of_ble_eq_true rfl)) dX15_digest_4 ⟨by show _ + 0 ≤ 0; omega, by show _ + 0 ≤ 0; omega⟩) hS (fun q _ h => hFc q h) hFc (fun u t H1 locs ht hvm hw hB hz1 hk1 hS => ?_)
  obtain ⟨F_64, hB1, hq_65⟩ := hB
  obtain ⟨hP, hD, hO, hR⟩ := QTm.back hB1 ht hFc hR (fun q h => by simp only [List.mem_cons, List.not_mem_nil, or_false] at h ⊢; omega)
  have hF_66 : F_64 h0 = .inr (15, (.ref ta) :: (.int (nI zt)) :: (.int (nI zo)) :: (.int (nI ze)) :: (.ref ou) :: (.ref so) :: (.ref ad) :: (.ref na) :: (.ref va) :: (.ref lc) :: (.ref dm) :: (.int (nI fm)) :: (.int (nI sn)) :: (.ref tg) :: (.int v14_29) :: (.int v15_30) :: (.ref pe) :: (.int v17_31) :: (.int v18_32) :: (.int v19_33) :: (.int v20_34) :: (.int v21_35) :: (.int v22_36) :: (.ref ml) :: (.ref bg) :: (.ref co) :: (.ref sp) :: (.ref nb0) :: (.ref nb1) :: (.ref nb2) :: (.int (nI nf)) :: (.int (nI bd)) :: (.int (nI mm)) :: (.int v33_37) :: (.ref pl) :: (.ref se) :: (.ref ke) :: (.ref wi) :: (.ref hs) :: (.ref mo) :: (.ref po) :: (.ref nu) :: (.ref pr) :: (.ref sq) :: (.ref xa) :: (.ref sa) :: (.ref n64) :: (.ref m64) :: (.ref ex) :: (.ref wh) :: (.ref sd) :: (.ref tk) :: (.int v52_38) :: (.int v53_39) :: (.int v54_40) :: (.ref hd) :: (.ref ak) :: (.ref ho) :: (.ref ot) :: []) := (hB1.2.2.2 h0 (by rw [hT_h0]; simp)).trans hF_41
  generalize H1 = H at hP hS ⊢
  refine lv_aload_n hx hb dX15_digest_7 rfl (lv_at hl 0 rfl) ?_
  refine pg_get (ci := 15) (v := .ref hs) (C := RX15) (T := TX15) (N := 59) hx hb hts it_15 hown hK hP hL_h0 hF_66 rfl 38 (by decide) (hts _ kt_794) (fun _ h9 => h9) rfl dX15_digest_8 ?_
  refine lv_aload_n hx hb dX15_digest_11 rfl (lv_at hl 1 rfl) ?_
  refine lv_iconst (v := 0) hx hb dX15_digest_12 (by decide) ?_
  refine lv_iload_n hx hb dX15_digest_13 rfl (lv_at hl 2 rfl) ?_
  refine W.eq (g2 := F0 m 14 ls [.int (nI k), .int (nI 0), .ref g1, .ref hs]) rfl ?_
  obtain ⟨hq_67, hq_68⟩ := hW.octs hL_g1 hT_g1
  have hFc := pg_free hD hS hA
  refine va_callv (va_runV (As := [.ref g1, .int (nI 0), .int (nI k)]) (rest := []) ⟨hx, hb, hml, hown, hts⟩ (s_X12_add l dC dI cs ty gm L H.size F_64 hs (ρ + 17) x_13 y_14 w_15 u_16 bl_17 0 0 g1 σ n1 0 k hW hi_47 ht_48 hL_g1 hT_g1 hq_65 (by first | omega | assumption | exact Or.inl rfl) (by first | omega | assumption | exact Or.inl rfl)) ⟨callB_of 3 hts (gi kt_799) rfl rfl rfl (hts _ kt_779) (hts _ kt_800) (by decide +kernel) ⟨Nat.le_of_ble_eq_true rfl, Nat.le_of_ble_eq_true rfl⟩, (hts _ kt_801), (hts _ kt_802)⟩ ⟨fun a U g mk q => ⟨q.1, PTm.calling q.2⟩, pg_recv hK hP hi_47 hq_65 (q := (RX12, TX12, 7)) rfl, fun U hU hWm => ⟨rfl, PTm.mk hU hWm hP hK hD hE hO⟩⟩ rfl rfl hl.1 rfl (lv_room (Nat.le_of_ble_eq_true rfl)) dX15_digest_14 ⟨by show _ + 0 ≤ 0; omega, by show _ + 0 ≤ 0; omega⟩) hS (fun q _ h => hFc q h) hFc (fun u t H1 locs ht hvm hw hB hz1 hk1 hS => ?_)
  obtain ⟨F_70, z2_71, v2_72, hB1, hq_73, hq_74⟩ := hB
  obtain ⟨hP, hD, hO, hR⟩ := QTm.back hB1 ht hFc hR (fun q h => by simp only [List.mem_cons, List.not_mem_nil, or_false] at h ⊢; omega)
  have hF_75 : F_70 h0 = .inr (15, (.ref ta) :: (.int (nI zt)) :: (.int (nI zo)) :: (.int (nI ze)) :: (.ref ou) :: (.ref so) :: (.ref ad) :: (.ref na) :: (.ref va) :: (.ref lc) :: (.ref dm) :: (.int (nI fm)) :: (.int (nI sn)) :: (.ref tg) :: (.int v14_29) :: (.int v15_30) :: (.ref pe) :: (.int v17_31) :: (.int v18_32) :: (.int v19_33) :: (.int v20_34) :: (.int v21_35) :: (.int v22_36) :: (.ref ml) :: (.ref bg) :: (.ref co) :: (.ref sp) :: (.ref nb0) :: (.ref nb1) :: (.ref nb2) :: (.int (nI nf)) :: (.int (nI bd)) :: (.int (nI mm)) :: (.int v33_37) :: (.ref pl) :: (.ref se) :: (.ref ke) :: (.ref wi) :: (.ref hs) :: (.ref mo) :: (.ref po) :: (.ref nu) :: (.ref pr) :: (.ref sq) :: (.ref xa) :: (.ref sa) :: (.ref n64) :: (.ref m64) :: (.ref ex) :: (.ref wh) :: (.ref sd) :: (.ref tk) :: (.int v52_38) :: (.int v53_39) :: (.int v54_40) :: (.ref hd) :: (.ref ak) :: (.ref ho) :: (.ref ot) :: []) := (hB1.2.2.2 h0 (by rw [hT_h0]; simp)).trans hF_66
  generalize H1 = H at hP hS ⊢
  refine lv_aload_n hx hb dX15_digest_17 rfl (lv_at hl 0 rfl) ?_
  refine pg_get (ci := 15) (v := .ref hs) (C := RX15) (T := TX15) (N := 59) hx hb hts it_15 hown hK hP hL_h0 hF_75 rfl 38 (by decide) (hts _ kt_794) (fun _ h9 => h9) rfl dX15_digest_18 ?_
  refine lv_aload_n hx hb dX15_digest_21 rfl (lv_at hl 3 rfl) ?_
  refine lv_iconst (v := 0) hx hb dX15_digest_22 (by decide) ?_
  refine W.eq (g2 := F0 m 23 ls [.int (nI 0), .ref gt, .ref hs]) rfl ?_
  obtain ⟨hq_76, hq_77⟩ := hW.octs hL_gt hT_gt
  have hFc := pg_free hD hS hA
  refine va_callv (va_runV (As := [.ref gt, .int (nI 0)]) (rest := []) ⟨hx, hb, hml, hown, hts⟩ (s_X12_finish l dC dI cs ty gm L H.size F_70 hs (ρ + 17) x_13 y_14 w_15 u_16 bl_17 z2_71 v2_72 gt τ nt 0 hW hi_47 ht_48 hL_gt hT_gt hq_73 (by first | omega | assumption | exact Or.inl rfl) (by first | omega | assumption | exact Or.inl rfl)) ⟨callB_of 2 hts (gi kt_803) rfl rfl rfl (hts _ kt_779) (hts _ kt_804) (by decide +kernel) ⟨Nat.le_of_ble_eq_true rfl, Nat.le_of_ble_eq_true rfl⟩, (hts _ kt_805), (hts _ kt_806)⟩ ⟨fun a U g mk q => ⟨q.1, PTm.calling q.2⟩, pg_recv hK hP hi_47 hq_73 (q := (RX12, TX12, 7)) rfl, fun U hU hWm => ⟨rfl, PTm.mk hU hWm hP hK hD hE hO⟩⟩ rfl rfl hl.1 rfl (lv_room (Nat.le_of_ble_eq_true rfl)) dX15_digest_23 ⟨by show _ + 0 ≤ 0; omega, by show _ + 0 ≤ 0; omega⟩) hS (fun q _ h => hFc q h) hFc (fun u t H1 locs ht hvm hw hB hz1 hk1 hS => ?_)
  obtain ⟨F_79, hB1⟩ := hB
  obtain ⟨hP, hD, hO, hR⟩ := QTm.back hB1 ht hFc hR (fun q h => by simp only [List.mem_cons, List.not_mem_nil, or_false] at h ⊢; omega)
  generalize H1 = H at hP hS ⊢
  refine W.widen (k := 0) (n := 0) (by omega) (by omega) ?_
  exact W.vret hx hb hr (fun t ht hWm => ⟨⟨(), rfl, trivial, ⟨F_79, QTm.mk ht hP hD hO hR⟩⟩, hS.F ht⟩) hS.2.2 dX15_digest_26
