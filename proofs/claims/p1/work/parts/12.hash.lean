theorem dX12_add_0 : decode cX12_add 0 = .ok (.iload_n 2, 1) := by decide +kernel
theorem dX12_add_1 : decode cX12_add 1 = .ok (.istore 4, 2) := by decide +kernel
theorem dX12_add_3 : decode cX12_add 3 = .ok (.iload 4, 2) := by decide +kernel
theorem dX12_add_5 : decode cX12_add 5 = .ok (.iload_n 2, 1) := by decide +kernel
theorem dX12_add_6 : decode cX12_add 6 = .ok (.iload_n 3, 1) := by decide +kernel
theorem dX12_add_7 : decode cX12_add 7 = .ok (.iadd, 1) := by decide +kernel
theorem dX12_add_8 : decode cX12_add 8 = .ok (.if_icmp .ge 17, 3) := by decide +kernel
theorem dX12_add_11 : decode cX12_add 11 = .ok (.aload_n 0, 1) := by decide +kernel
theorem dX12_add_12 : decode cX12_add 12 = .ok (.aload_n 1, 1) := by decide +kernel
theorem dX12_add_13 : decode cX12_add 13 = .ok (.iload 4, 2) := by decide +kernel
theorem dX12_add_15 : decode cX12_add 15 = .ok (.baload, 1) := by decide +kernel
theorem dX12_add_16 : decode cX12_add 16 = .ok (.invokevirtual 65, 3) := by decide +kernel
theorem dX12_add_19 : decode cX12_add 19 = .ok (.iinc 4 1, 3) := by decide +kernel
theorem dX12_add_22 : decode cX12_add 22 = .ok (.goto (-19), 3) := by decide +kernel
theorem dX12_add_25 : decode cX12_add 25 = .ok (.return_, 1) := by decide +kernel
theorem dX12_begin_0 : decode cX12_begin 0 = .ok (.aload_n 0, 1) := by decide +kernel
theorem dX12_begin_1 : decode cX12_begin 1 = .ok (.getfield 9, 3) := by decide +kernel
theorem dX12_begin_4 : decode cX12_begin 4 = .ok (.iconst 0, 1) := by decide +kernel
theorem dX12_begin_5 : decode cX12_begin 5 = .ok (.aload_n 0, 1) := by decide +kernel
theorem dX12_begin_6 : decode cX12_begin 6 = .ok (.getfield 13, 3) := by decide +kernel
theorem dX12_begin_9 : decode cX12_begin 9 = .ok (.iconst 0, 1) := by decide +kernel
theorem dX12_begin_10 : decode cX12_begin 10 = .ok (.bipush 8, 2) := by decide +kernel
theorem dX12_begin_12 : decode cX12_begin 12 = .ok (.invokestatic 48, 3) := by decide +kernel
theorem dX12_begin_15 : decode cX12_begin 15 = .ok (.aload_n 0, 1) := by decide +kernel
theorem dX12_begin_16 : decode cX12_begin 16 = .ok (.iconst 0, 1) := by decide +kernel
theorem dX12_begin_17 : decode cX12_begin 17 = .ok (.putfield 54, 3) := by decide +kernel
theorem dX12_begin_20 : decode cX12_begin 20 = .ok (.aload_n 0, 1) := by decide +kernel
theorem dX12_begin_21 : decode cX12_begin 21 = .ok (.lconst 0, 1) := by decide +kernel
theorem dX12_begin_22 : decode cX12_begin 22 = .ok (.putfield 58, 3) := by decide +kernel
theorem dX12_begin_25 : decode cX12_begin 25 = .ok (.return_, 1) := by decide +kernel
theorem dX12_finish_0 : decode cX12_finish 0 = .ok (.ldc2_w 69, 3) := by decide +kernel
theorem dX12_finish_3 : decode cX12_finish 3 = .ok (.aload_n 0, 1) := by decide +kernel
theorem dX12_finish_4 : decode cX12_finish 4 = .ok (.getfield 58, 3) := by decide +kernel
theorem dX12_finish_7 : decode cX12_finish 7 = .ok (.lmul, 1) := by decide +kernel
theorem dX12_finish_8 : decode cX12_finish 8 = .ok (.lstore_n 3, 1) := by decide +kernel
theorem dX12_finish_9 : decode cX12_finish 9 = .ok (.aload_n 0, 1) := by decide +kernel
theorem dX12_finish_10 : decode cX12_finish 10 = .ok (.sipush 128, 3) := by decide +kernel
theorem dX12_finish_13 : decode cX12_finish 13 = .ok (.invokevirtual 65, 3) := by decide +kernel
theorem dX12_finish_16 : decode cX12_finish 16 = .ok (.aload_n 0, 1) := by decide +kernel
theorem dX12_finish_17 : decode cX12_finish 17 = .ok (.getfield 54, 3) := by decide +kernel
theorem dX12_finish_20 : decode cX12_finish 20 = .ok (.bipush 56, 2) := by decide +kernel
theorem dX12_finish_22 : decode cX12_finish 22 = .ok (.if_icmp .eq 11, 3) := by decide +kernel
theorem dX12_finish_25 : decode cX12_finish 25 = .ok (.aload_n 0, 1) := by decide +kernel
theorem dX12_finish_26 : decode cX12_finish 26 = .ok (.iconst 0, 1) := by decide +kernel
theorem dX12_finish_27 : decode cX12_finish 27 = .ok (.invokevirtual 65, 3) := by decide +kernel
theorem dX12_finish_30 : decode cX12_finish 30 = .ok (.goto (-14), 3) := by decide +kernel
theorem dX12_finish_33 : decode cX12_finish 33 = .ok (.aload_n 0, 1) := by decide +kernel
theorem dX12_finish_34 : decode cX12_finish 34 = .ok (.lload_n 3, 1) := by decide +kernel
theorem dX12_finish_35 : decode cX12_finish 35 = .ok (.bipush 32, 2) := by decide +kernel
theorem dX12_finish_37 : decode cX12_finish 37 = .ok (.lushr, 1) := by decide +kernel
theorem dX12_finish_38 : decode cX12_finish 38 = .ok (.l2i, 1) := by decide +kernel
theorem dX12_finish_39 : decode cX12_finish 39 = .ok (.invokevirtual 71, 3) := by decide +kernel
theorem dX12_finish_42 : decode cX12_finish 42 = .ok (.aload_n 0, 1) := by decide +kernel
theorem dX12_finish_43 : decode cX12_finish 43 = .ok (.lload_n 3, 1) := by decide +kernel
theorem dX12_finish_44 : decode cX12_finish 44 = .ok (.l2i, 1) := by decide +kernel
theorem dX12_finish_45 : decode cX12_finish 45 = .ok (.invokevirtual 71, 3) := by decide +kernel
theorem dX12_finish_48 : decode cX12_finish 48 = .ok (.iconst 0, 1) := by decide +kernel
theorem dX12_finish_49 : decode cX12_finish 49 = .ok (.istore 5, 2) := by decide +kernel
theorem dX12_finish_51 : decode cX12_finish 51 = .ok (.iload 5, 2) := by decide +kernel
theorem dX12_finish_53 : decode cX12_finish 53 = .ok (.bipush 32, 2) := by decide +kernel
theorem dX12_finish_55 : decode cX12_finish 55 = .ok (.if_icmp .ge 36, 3) := by decide +kernel
theorem dX12_finish_58 : decode cX12_finish 58 = .ok (.aload_n 1, 1) := by decide +kernel
theorem dX12_finish_59 : decode cX12_finish 59 = .ok (.iload_n 2, 1) := by decide +kernel
theorem dX12_finish_60 : decode cX12_finish 60 = .ok (.iload 5, 2) := by decide +kernel
theorem dX12_finish_62 : decode cX12_finish 62 = .ok (.iadd, 1) := by decide +kernel
theorem dX12_finish_63 : decode cX12_finish 63 = .ok (.aload_n 0, 1) := by decide +kernel
theorem dX12_finish_64 : decode cX12_finish 64 = .ok (.getfield 13, 3) := by decide +kernel
theorem dX12_finish_67 : decode cX12_finish 67 = .ok (.iload 5, 2) := by decide +kernel
theorem dX12_finish_69 : decode cX12_finish 69 = .ok (.iconst 4, 1) := by decide +kernel
theorem dX12_finish_70 : decode cX12_finish 70 = .ok (.idiv, 1) := by decide +kernel
theorem dX12_finish_71 : decode cX12_finish 71 = .ok (.iaload, 1) := by decide +kernel
theorem dX12_finish_72 : decode cX12_finish 72 = .ok (.bipush 24, 2) := by decide +kernel
theorem dX12_finish_74 : decode cX12_finish 74 = .ok (.bipush 8, 2) := by decide +kernel
theorem dX12_finish_76 : decode cX12_finish 76 = .ok (.iload 5, 2) := by decide +kernel
theorem dX12_finish_78 : decode cX12_finish 78 = .ok (.iconst 4, 1) := by decide +kernel
theorem dX12_finish_79 : decode cX12_finish 79 = .ok (.irem, 1) := by decide +kernel
theorem dX12_finish_80 : decode cX12_finish 80 = .ok (.imul, 1) := by decide +kernel
theorem dX12_finish_81 : decode cX12_finish 81 = .ok (.isub, 1) := by decide +kernel
theorem dX12_finish_82 : decode cX12_finish 82 = .ok (.ishr, 1) := by decide +kernel
theorem dX12_finish_83 : decode cX12_finish 83 = .ok (.i2b, 1) := by decide +kernel
theorem dX12_finish_84 : decode cX12_finish 84 = .ok (.bastore, 1) := by decide +kernel
theorem dX12_finish_85 : decode cX12_finish 85 = .ok (.iinc 5 1, 3) := by decide +kernel
theorem dX12_finish_88 : decode cX12_finish 88 = .ok (.goto (-37), 3) := by decide +kernel
theorem dX12_finish_91 : decode cX12_finish 91 = .ok (.return_, 1) := by decide +kernel
theorem dX12_four_0 : decode cX12_four 0 = .ok (.bipush 24, 2) := by decide +kernel
theorem dX12_four_2 : decode cX12_four 2 = .ok (.istore_n 2, 1) := by decide +kernel
theorem dX12_four_3 : decode cX12_four 3 = .ok (.iload_n 2, 1) := by decide +kernel
theorem dX12_four_4 : decode cX12_four 4 = .ok (.ifCond .lt 16, 3) := by decide +kernel
theorem dX12_four_7 : decode cX12_four 7 = .ok (.aload_n 0, 1) := by decide +kernel
theorem dX12_four_8 : decode cX12_four 8 = .ok (.iload_n 1, 1) := by decide +kernel
theorem dX12_four_9 : decode cX12_four 9 = .ok (.iload_n 2, 1) := by decide +kernel
theorem dX12_four_10 : decode cX12_four 10 = .ok (.ishr, 1) := by decide +kernel
theorem dX12_four_11 : decode cX12_four 11 = .ok (.invokevirtual 65, 3) := by decide +kernel
theorem dX12_four_14 : decode cX12_four 14 = .ok (.iinc 2 (-8), 3) := by decide +kernel
theorem dX12_four_17 : decode cX12_four 17 = .ok (.goto (-14), 3) := by decide +kernel
theorem dX12_four_20 : decode cX12_four 20 = .ok (.return_, 1) := by decide +kernel
theorem dX12_init_0 : decode cX12_init 0 = .ok (.aload_n 0, 1) := by decide +kernel
theorem dX12_init_1 : decode cX12_init 1 = .ok (.invokespecial 1, 3) := by decide +kernel
theorem dX12_init_4 : decode cX12_init 4 = .ok (.aload_n 0, 1) := by decide +kernel
theorem dX12_init_5 : decode cX12_init 5 = .ok (.bipush 8, 2) := by decide +kernel
theorem dX12_init_7 : decode cX12_init 7 = .ok (.newarray .int, 2) := by decide +kernel
theorem dX12_init_9 : decode cX12_init 9 = .ok (.putfield 9, 3) := by decide +kernel
theorem dX12_init_12 : decode cX12_init 12 = .ok (.aload_n 0, 1) := by decide +kernel
theorem dX12_init_13 : decode cX12_init 13 = .ok (.bipush 8, 2) := by decide +kernel
theorem dX12_init_15 : decode cX12_init 15 = .ok (.newarray .int, 2) := by decide +kernel
theorem dX12_init_17 : decode cX12_init 17 = .ok (.putfield 13, 3) := by decide +kernel
theorem dX12_init_20 : decode cX12_init 20 = .ok (.aload_n 0, 1) := by decide +kernel
theorem dX12_init_21 : decode cX12_init 21 = .ok (.bipush 64, 2) := by decide +kernel
theorem dX12_init_23 : decode cX12_init 23 = .ok (.newarray .int, 2) := by decide +kernel
theorem dX12_init_25 : decode cX12_init 25 = .ok (.putfield 16, 3) := by decide +kernel
theorem dX12_init_28 : decode cX12_init 28 = .ok (.aload_n 0, 1) := by decide +kernel
theorem dX12_init_29 : decode cX12_init 29 = .ok (.bipush 64, 2) := by decide +kernel
theorem dX12_init_31 : decode cX12_init 31 = .ok (.newarray .int, 2) := by decide +kernel
theorem dX12_init_33 : decode cX12_init 33 = .ok (.putfield 19, 3) := by decide +kernel
theorem dX12_init_36 : decode cX12_init 36 = .ok (.aload_n 0, 1) := by decide +kernel
theorem dX12_init_37 : decode cX12_init 37 = .ok (.bipush 64, 2) := by decide +kernel
theorem dX12_init_39 : decode cX12_init 39 = .ok (.newarray .byte, 2) := by decide +kernel
theorem dX12_init_41 : decode cX12_init 41 = .ok (.putfield 22, 3) := by decide +kernel
theorem dX12_init_44 : decode cX12_init 44 = .ok (.iconst 0, 1) := by decide +kernel
theorem dX12_init_45 : decode cX12_init 45 = .ok (.istore_n 1, 1) := by decide +kernel
theorem dX12_init_46 : decode cX12_init 46 = .ok (.iconst 2, 1) := by decide +kernel
theorem dX12_init_47 : decode cX12_init 47 = .ok (.istore_n 2, 1) := by decide +kernel
theorem dX12_init_48 : decode cX12_init 48 = .ok (.iload_n 1, 1) := by decide +kernel
theorem dX12_init_49 : decode cX12_init 49 = .ok (.bipush 64, 2) := by decide +kernel
theorem dX12_init_51 : decode cX12_init 51 = .ok (.if_icmp .ge 50, 3) := by decide +kernel
theorem dX12_init_54 : decode cX12_init 54 = .ok (.iload_n 2, 1) := by decide +kernel
theorem dX12_init_55 : decode cX12_init 55 = .ok (.invokestatic 26, 3) := by decide +kernel
theorem dX12_init_58 : decode cX12_init 58 = .ok (.ifCond .ne 6, 3) := by decide +kernel
theorem dX12_init_61 : decode cX12_init 61 = .ok (.goto 34, 3) := by decide +kernel
theorem dX12_init_64 : decode cX12_init 64 = .ok (.aload_n 0, 1) := by decide +kernel
theorem dX12_init_65 : decode cX12_init 65 = .ok (.getfield 19, 3) := by decide +kernel
theorem dX12_init_68 : decode cX12_init 68 = .ok (.iload_n 1, 1) := by decide +kernel
theorem dX12_init_69 : decode cX12_init 69 = .ok (.iload_n 2, 1) := by decide +kernel
theorem dX12_init_70 : decode cX12_init 70 = .ok (.iconst 3, 1) := by decide +kernel
theorem dX12_init_71 : decode cX12_init 71 = .ok (.invokestatic 30, 3) := by decide +kernel
theorem dX12_init_74 : decode cX12_init 74 = .ok (.iastore, 1) := by decide +kernel
theorem dX12_init_75 : decode cX12_init 75 = .ok (.iload_n 1, 1) := by decide +kernel
theorem dX12_init_76 : decode cX12_init 76 = .ok (.bipush 8, 2) := by decide +kernel
theorem dX12_init_78 : decode cX12_init 78 = .ok (.if_icmp .ge 14, 3) := by decide +kernel
theorem dX12_init_81 : decode cX12_init 81 = .ok (.aload_n 0, 1) := by decide +kernel
theorem dX12_init_82 : decode cX12_init 82 = .ok (.getfield 9, 3) := by decide +kernel
theorem dX12_init_85 : decode cX12_init 85 = .ok (.iload_n 1, 1) := by decide +kernel
theorem dX12_init_86 : decode cX12_init 86 = .ok (.iload_n 2, 1) := by decide +kernel
theorem dX12_init_87 : decode cX12_init 87 = .ok (.iconst 2, 1) := by decide +kernel
theorem dX12_init_88 : decode cX12_init 88 = .ok (.invokestatic 30, 3) := by decide +kernel
theorem dX12_init_91 : decode cX12_init 91 = .ok (.iastore, 1) := by decide +kernel
theorem dX12_init_92 : decode cX12_init 92 = .ok (.iinc 1 1, 3) := by decide +kernel
theorem dX12_init_95 : decode cX12_init 95 = .ok (.iinc 2 1, 3) := by decide +kernel
theorem dX12_init_98 : decode cX12_init 98 = .ok (.goto (-50), 3) := by decide +kernel
theorem dX12_init_101 : decode cX12_init 101 = .ok (.return_, 1) := by decide +kernel
theorem dX12_one_0 : decode cX12_one 0 = .ok (.aload_n 0, 1) := by decide +kernel
theorem dX12_one_1 : decode cX12_one 1 = .ok (.getfield 22, 3) := by decide +kernel
theorem dX12_one_4 : decode cX12_one 4 = .ok (.aload_n 0, 1) := by decide +kernel
theorem dX12_one_5 : decode cX12_one 5 = .ok (.getfield 54, 3) := by decide +kernel
theorem dX12_one_8 : decode cX12_one 8 = .ok (.iload_n 1, 1) := by decide +kernel
theorem dX12_one_9 : decode cX12_one 9 = .ok (.i2b, 1) := by decide +kernel
theorem dX12_one_10 : decode cX12_one 10 = .ok (.bastore, 1) := by decide +kernel
theorem dX12_one_11 : decode cX12_one 11 = .ok (.aload_n 0, 1) := by decide +kernel
theorem dX12_one_12 : decode cX12_one 12 = .ok (.dup, 1) := by decide +kernel
theorem dX12_one_13 : decode cX12_one 13 = .ok (.getfield 54, 3) := by decide +kernel
theorem dX12_one_16 : decode cX12_one 16 = .ok (.iconst 1, 1) := by decide +kernel
theorem dX12_one_17 : decode cX12_one 17 = .ok (.iadd, 1) := by decide +kernel
theorem dX12_one_18 : decode cX12_one 18 = .ok (.putfield 54, 3) := by decide +kernel
theorem dX12_one_21 : decode cX12_one 21 = .ok (.aload_n 0, 1) := by decide +kernel
theorem dX12_one_22 : decode cX12_one 22 = .ok (.dup, 1) := by decide +kernel
theorem dX12_one_23 : decode cX12_one 23 = .ok (.getfield 58, 3) := by decide +kernel
theorem dX12_one_26 : decode cX12_one 26 = .ok (.lconst 1, 1) := by decide +kernel
theorem dX12_one_27 : decode cX12_one 27 = .ok (.ladd, 1) := by decide +kernel
theorem dX12_one_28 : decode cX12_one 28 = .ok (.putfield 58, 3) := by decide +kernel
theorem dX12_one_31 : decode cX12_one 31 = .ok (.aload_n 0, 1) := by decide +kernel
theorem dX12_one_32 : decode cX12_one 32 = .ok (.getfield 54, 3) := by decide +kernel
theorem dX12_one_35 : decode cX12_one 35 = .ok (.bipush 64, 2) := by decide +kernel
theorem dX12_one_37 : decode cX12_one 37 = .ok (.if_icmp .ge 4, 3) := by decide +kernel
theorem dX12_one_40 : decode cX12_one 40 = .ok (.return_, 1) := by decide +kernel
theorem dX12_one_41 : decode cX12_one 41 = .ok (.aload_n 0, 1) := by decide +kernel
theorem dX12_one_42 : decode cX12_one 42 = .ok (.invokevirtual 62, 3) := by decide +kernel
theorem dX12_one_45 : decode cX12_one 45 = .ok (.aload_n 0, 1) := by decide +kernel
theorem dX12_one_46 : decode cX12_one 46 = .ok (.iconst 0, 1) := by decide +kernel
theorem dX12_one_47 : decode cX12_one 47 = .ok (.putfield 54, 3) := by decide +kernel
theorem dX12_one_50 : decode cX12_one 50 = .ok (.return_, 1) := by decide +kernel
theorem dX12_round_0 : decode cX12_round 0 = .ok (.iconst 0, 1) := by decide +kernel
theorem dX12_round_1 : decode cX12_round 1 = .ok (.istore_n 1, 1) := by decide +kernel
theorem dX12_round_2 : decode cX12_round 2 = .ok (.iload_n 1, 1) := by decide +kernel
theorem dX12_round_3 : decode cX12_round 3 = .ok (.bipush 16, 2) := by decide +kernel
theorem dX12_round_5 : decode cX12_round 5 = .ok (.if_icmp .ge 77, 3) := by decide +kernel
theorem dX12_round_8 : decode cX12_round 8 = .ok (.aload_n 0, 1) := by decide +kernel
theorem dX12_round_9 : decode cX12_round 9 = .ok (.getfield 16, 3) := by decide +kernel
theorem dX12_round_12 : decode cX12_round 12 = .ok (.iload_n 1, 1) := by decide +kernel
theorem dX12_round_13 : decode cX12_round 13 = .ok (.aload_n 0, 1) := by decide +kernel
theorem dX12_round_14 : decode cX12_round 14 = .ok (.getfield 22, 3) := by decide +kernel
theorem dX12_round_17 : decode cX12_round 17 = .ok (.iconst 4, 1) := by decide +kernel
theorem dX12_round_18 : decode cX12_round 18 = .ok (.iload_n 1, 1) := by decide +kernel
theorem dX12_round_19 : decode cX12_round 19 = .ok (.imul, 1) := by decide +kernel
theorem dX12_round_20 : decode cX12_round 20 = .ok (.baload, 1) := by decide +kernel
theorem dX12_round_21 : decode cX12_round 21 = .ok (.bipush 24, 2) := by decide +kernel
theorem dX12_round_23 : decode cX12_round 23 = .ok (.ishl, 1) := by decide +kernel
theorem dX12_round_24 : decode cX12_round 24 = .ok (.aload_n 0, 1) := by decide +kernel
theorem dX12_round_25 : decode cX12_round 25 = .ok (.getfield 22, 3) := by decide +kernel
theorem dX12_round_28 : decode cX12_round 28 = .ok (.iconst 4, 1) := by decide +kernel
theorem dX12_round_29 : decode cX12_round 29 = .ok (.iload_n 1, 1) := by decide +kernel
theorem dX12_round_30 : decode cX12_round 30 = .ok (.imul, 1) := by decide +kernel
theorem dX12_round_31 : decode cX12_round 31 = .ok (.iconst 1, 1) := by decide +kernel
theorem dX12_round_32 : decode cX12_round 32 = .ok (.iadd, 1) := by decide +kernel
theorem dX12_round_33 : decode cX12_round 33 = .ok (.baload, 1) := by decide +kernel
theorem dX12_round_34 : decode cX12_round 34 = .ok (.sipush 255, 3) := by decide +kernel
theorem dX12_round_37 : decode cX12_round 37 = .ok (.iand, 1) := by decide +kernel
theorem dX12_round_38 : decode cX12_round 38 = .ok (.bipush 16, 2) := by decide +kernel
theorem dX12_round_40 : decode cX12_round 40 = .ok (.ishl, 1) := by decide +kernel
theorem dX12_round_41 : decode cX12_round 41 = .ok (.ior, 1) := by decide +kernel
theorem dX12_round_42 : decode cX12_round 42 = .ok (.aload_n 0, 1) := by decide +kernel
theorem dX12_round_43 : decode cX12_round 43 = .ok (.getfield 22, 3) := by decide +kernel
theorem dX12_round_46 : decode cX12_round 46 = .ok (.iconst 4, 1) := by decide +kernel
theorem dX12_round_47 : decode cX12_round 47 = .ok (.iload_n 1, 1) := by decide +kernel
theorem dX12_round_48 : decode cX12_round 48 = .ok (.imul, 1) := by decide +kernel
theorem dX12_round_49 : decode cX12_round 49 = .ok (.iconst 2, 1) := by decide +kernel
theorem dX12_round_50 : decode cX12_round 50 = .ok (.iadd, 1) := by decide +kernel
theorem dX12_round_51 : decode cX12_round 51 = .ok (.baload, 1) := by decide +kernel
theorem dX12_round_52 : decode cX12_round 52 = .ok (.sipush 255, 3) := by decide +kernel
theorem dX12_round_55 : decode cX12_round 55 = .ok (.iand, 1) := by decide +kernel
theorem dX12_round_56 : decode cX12_round 56 = .ok (.bipush 8, 2) := by decide +kernel
theorem dX12_round_58 : decode cX12_round 58 = .ok (.ishl, 1) := by decide +kernel
theorem dX12_round_59 : decode cX12_round 59 = .ok (.ior, 1) := by decide +kernel
theorem dX12_round_60 : decode cX12_round 60 = .ok (.aload_n 0, 1) := by decide +kernel
theorem dX12_round_61 : decode cX12_round 61 = .ok (.getfield 22, 3) := by decide +kernel
theorem dX12_round_64 : decode cX12_round 64 = .ok (.iconst 4, 1) := by decide +kernel
theorem dX12_round_65 : decode cX12_round 65 = .ok (.iload_n 1, 1) := by decide +kernel
theorem dX12_round_66 : decode cX12_round 66 = .ok (.imul, 1) := by decide +kernel
theorem dX12_round_67 : decode cX12_round 67 = .ok (.iconst 3, 1) := by decide +kernel
theorem dX12_round_68 : decode cX12_round 68 = .ok (.iadd, 1) := by decide +kernel
theorem dX12_round_69 : decode cX12_round 69 = .ok (.baload, 1) := by decide +kernel
theorem dX12_round_70 : decode cX12_round 70 = .ok (.sipush 255, 3) := by decide +kernel
theorem dX12_round_73 : decode cX12_round 73 = .ok (.iand, 1) := by decide +kernel
theorem dX12_round_74 : decode cX12_round 74 = .ok (.ior, 1) := by decide +kernel
theorem dX12_round_75 : decode cX12_round 75 = .ok (.iastore, 1) := by decide +kernel
theorem dX12_round_76 : decode cX12_round 76 = .ok (.iinc 1 1, 3) := by decide +kernel
theorem dX12_round_79 : decode cX12_round 79 = .ok (.goto (-77), 3) := by decide +kernel
theorem dX12_round_82 : decode cX12_round 82 = .ok (.bipush 16, 2) := by decide +kernel
theorem dX12_round_84 : decode cX12_round 84 = .ok (.istore_n 1, 1) := by decide +kernel
theorem dX12_round_85 : decode cX12_round 85 = .ok (.iload_n 1, 1) := by decide +kernel
theorem dX12_round_86 : decode cX12_round 86 = .ok (.bipush 64, 2) := by decide +kernel
theorem dX12_round_88 : decode cX12_round 88 = .ok (.if_icmp .ge 90, 3) := by decide +kernel
theorem dX12_round_91 : decode cX12_round 91 = .ok (.aload_n 0, 1) := by decide +kernel
theorem dX12_round_92 : decode cX12_round 92 = .ok (.getfield 16, 3) := by decide +kernel
theorem dX12_round_95 : decode cX12_round 95 = .ok (.iload_n 1, 1) := by decide +kernel
theorem dX12_round_96 : decode cX12_round 96 = .ok (.bipush 15, 2) := by decide +kernel
theorem dX12_round_98 : decode cX12_round 98 = .ok (.isub, 1) := by decide +kernel
theorem dX12_round_99 : decode cX12_round 99 = .ok (.iaload, 1) := by decide +kernel
theorem dX12_round_100 : decode cX12_round 100 = .ok (.istore_n 2, 1) := by decide +kernel
theorem dX12_round_101 : decode cX12_round 101 = .ok (.aload_n 0, 1) := by decide +kernel
theorem dX12_round_102 : decode cX12_round 102 = .ok (.getfield 16, 3) := by decide +kernel
theorem dX12_round_105 : decode cX12_round 105 = .ok (.iload_n 1, 1) := by decide +kernel
theorem dX12_round_106 : decode cX12_round 106 = .ok (.iconst 2, 1) := by decide +kernel
theorem dX12_round_107 : decode cX12_round 107 = .ok (.isub, 1) := by decide +kernel
theorem dX12_round_108 : decode cX12_round 108 = .ok (.iaload, 1) := by decide +kernel
theorem dX12_round_109 : decode cX12_round 109 = .ok (.istore_n 3, 1) := by decide +kernel
theorem dX12_round_110 : decode cX12_round 110 = .ok (.aload_n 0, 1) := by decide +kernel
theorem dX12_round_111 : decode cX12_round 111 = .ok (.getfield 16, 3) := by decide +kernel
theorem dX12_round_114 : decode cX12_round 114 = .ok (.iload_n 1, 1) := by decide +kernel
theorem dX12_round_115 : decode cX12_round 115 = .ok (.aload_n 0, 1) := by decide +kernel
theorem dX12_round_116 : decode cX12_round 116 = .ok (.getfield 16, 3) := by decide +kernel
theorem dX12_round_119 : decode cX12_round 119 = .ok (.iload_n 1, 1) := by decide +kernel
theorem dX12_round_120 : decode cX12_round 120 = .ok (.bipush 16, 2) := by decide +kernel
theorem dX12_round_122 : decode cX12_round 122 = .ok (.isub, 1) := by decide +kernel
theorem dX12_round_123 : decode cX12_round 123 = .ok (.iaload, 1) := by decide +kernel
theorem dX12_round_124 : decode cX12_round 124 = .ok (.iload_n 2, 1) := by decide +kernel
theorem dX12_round_125 : decode cX12_round 125 = .ok (.bipush 7, 2) := by decide +kernel
theorem dX12_round_127 : decode cX12_round 127 = .ok (.invokestatic 74, 3) := by decide +kernel
theorem dX12_round_130 : decode cX12_round 130 = .ok (.iload_n 2, 1) := by decide +kernel
theorem dX12_round_131 : decode cX12_round 131 = .ok (.bipush 18, 2) := by decide +kernel
theorem dX12_round_133 : decode cX12_round 133 = .ok (.invokestatic 74, 3) := by decide +kernel
theorem dX12_round_136 : decode cX12_round 136 = .ok (.ixor, 1) := by decide +kernel
theorem dX12_round_137 : decode cX12_round 137 = .ok (.iload_n 2, 1) := by decide +kernel
theorem dX12_round_138 : decode cX12_round 138 = .ok (.iconst 3, 1) := by decide +kernel
theorem dX12_round_139 : decode cX12_round 139 = .ok (.iushr, 1) := by decide +kernel
theorem dX12_round_140 : decode cX12_round 140 = .ok (.ixor, 1) := by decide +kernel
theorem dX12_round_141 : decode cX12_round 141 = .ok (.iadd, 1) := by decide +kernel
theorem dX12_round_142 : decode cX12_round 142 = .ok (.aload_n 0, 1) := by decide +kernel
theorem dX12_round_143 : decode cX12_round 143 = .ok (.getfield 16, 3) := by decide +kernel
theorem dX12_round_146 : decode cX12_round 146 = .ok (.iload_n 1, 1) := by decide +kernel
theorem dX12_round_147 : decode cX12_round 147 = .ok (.bipush 7, 2) := by decide +kernel
theorem dX12_round_149 : decode cX12_round 149 = .ok (.isub, 1) := by decide +kernel
theorem dX12_round_150 : decode cX12_round 150 = .ok (.iaload, 1) := by decide +kernel
theorem dX12_round_151 : decode cX12_round 151 = .ok (.iadd, 1) := by decide +kernel
theorem dX12_round_152 : decode cX12_round 152 = .ok (.iload_n 3, 1) := by decide +kernel
theorem dX12_round_153 : decode cX12_round 153 = .ok (.bipush 17, 2) := by decide +kernel
theorem dX12_round_155 : decode cX12_round 155 = .ok (.invokestatic 74, 3) := by decide +kernel
theorem dX12_round_158 : decode cX12_round 158 = .ok (.iload_n 3, 1) := by decide +kernel
theorem dX12_round_159 : decode cX12_round 159 = .ok (.bipush 19, 2) := by decide +kernel
theorem dX12_round_161 : decode cX12_round 161 = .ok (.invokestatic 74, 3) := by decide +kernel
theorem dX12_round_164 : decode cX12_round 164 = .ok (.ixor, 1) := by decide +kernel
theorem dX12_round_165 : decode cX12_round 165 = .ok (.iload_n 3, 1) := by decide +kernel
theorem dX12_round_166 : decode cX12_round 166 = .ok (.bipush 10, 2) := by decide +kernel
theorem dX12_round_168 : decode cX12_round 168 = .ok (.iushr, 1) := by decide +kernel
theorem dX12_round_169 : decode cX12_round 169 = .ok (.ixor, 1) := by decide +kernel
theorem dX12_round_170 : decode cX12_round 170 = .ok (.iadd, 1) := by decide +kernel
theorem dX12_round_171 : decode cX12_round 171 = .ok (.iastore, 1) := by decide +kernel
theorem dX12_round_172 : decode cX12_round 172 = .ok (.iinc 1 1, 3) := by decide +kernel
theorem dX12_round_175 : decode cX12_round 175 = .ok (.goto (-90), 3) := by decide +kernel
theorem dX12_round_178 : decode cX12_round 178 = .ok (.aload_n 0, 1) := by decide +kernel
theorem dX12_round_179 : decode cX12_round 179 = .ok (.getfield 13, 3) := by decide +kernel
theorem dX12_round_182 : decode cX12_round 182 = .ok (.iconst 0, 1) := by decide +kernel
theorem dX12_round_183 : decode cX12_round 183 = .ok (.iaload, 1) := by decide +kernel
theorem dX12_round_184 : decode cX12_round 184 = .ok (.istore_n 1, 1) := by decide +kernel
theorem dX12_round_185 : decode cX12_round 185 = .ok (.aload_n 0, 1) := by decide +kernel
theorem dX12_round_186 : decode cX12_round 186 = .ok (.getfield 13, 3) := by decide +kernel
theorem dX12_round_189 : decode cX12_round 189 = .ok (.iconst 1, 1) := by decide +kernel
theorem dX12_round_190 : decode cX12_round 190 = .ok (.iaload, 1) := by decide +kernel
theorem dX12_round_191 : decode cX12_round 191 = .ok (.istore_n 2, 1) := by decide +kernel
theorem dX12_round_192 : decode cX12_round 192 = .ok (.aload_n 0, 1) := by decide +kernel
theorem dX12_round_193 : decode cX12_round 193 = .ok (.getfield 13, 3) := by decide +kernel
theorem dX12_round_196 : decode cX12_round 196 = .ok (.iconst 2, 1) := by decide +kernel
theorem dX12_round_197 : decode cX12_round 197 = .ok (.iaload, 1) := by decide +kernel
theorem dX12_round_198 : decode cX12_round 198 = .ok (.istore_n 3, 1) := by decide +kernel
theorem dX12_round_199 : decode cX12_round 199 = .ok (.aload_n 0, 1) := by decide +kernel
theorem dX12_round_200 : decode cX12_round 200 = .ok (.getfield 13, 3) := by decide +kernel
theorem dX12_round_203 : decode cX12_round 203 = .ok (.iconst 3, 1) := by decide +kernel
theorem dX12_round_204 : decode cX12_round 204 = .ok (.iaload, 1) := by decide +kernel
theorem dX12_round_205 : decode cX12_round 205 = .ok (.istore 4, 2) := by decide +kernel
theorem dX12_round_207 : decode cX12_round 207 = .ok (.aload_n 0, 1) := by decide +kernel
theorem dX12_round_208 : decode cX12_round 208 = .ok (.getfield 13, 3) := by decide +kernel
theorem dX12_round_211 : decode cX12_round 211 = .ok (.iconst 4, 1) := by decide +kernel
theorem dX12_round_212 : decode cX12_round 212 = .ok (.iaload, 1) := by decide +kernel
theorem dX12_round_213 : decode cX12_round 213 = .ok (.istore 5, 2) := by decide +kernel
theorem dX12_round_215 : decode cX12_round 215 = .ok (.aload_n 0, 1) := by decide +kernel
theorem dX12_round_216 : decode cX12_round 216 = .ok (.getfield 13, 3) := by decide +kernel
theorem dX12_round_219 : decode cX12_round 219 = .ok (.iconst 5, 1) := by decide +kernel
theorem dX12_round_220 : decode cX12_round 220 = .ok (.iaload, 1) := by decide +kernel
theorem dX12_round_221 : decode cX12_round 221 = .ok (.istore 6, 2) := by decide +kernel
theorem dX12_round_223 : decode cX12_round 223 = .ok (.aload_n 0, 1) := by decide +kernel
theorem dX12_round_224 : decode cX12_round 224 = .ok (.getfield 13, 3) := by decide +kernel
theorem dX12_round_227 : decode cX12_round 227 = .ok (.bipush 6, 2) := by decide +kernel
theorem dX12_round_229 : decode cX12_round 229 = .ok (.iaload, 1) := by decide +kernel
theorem dX12_round_230 : decode cX12_round 230 = .ok (.istore 7, 2) := by decide +kernel
theorem dX12_round_232 : decode cX12_round 232 = .ok (.aload_n 0, 1) := by decide +kernel
theorem dX12_round_233 : decode cX12_round 233 = .ok (.getfield 13, 3) := by decide +kernel
theorem dX12_round_236 : decode cX12_round 236 = .ok (.bipush 7, 2) := by decide +kernel
theorem dX12_round_238 : decode cX12_round 238 = .ok (.iaload, 1) := by decide +kernel
theorem dX12_round_239 : decode cX12_round 239 = .ok (.istore 8, 2) := by decide +kernel
theorem dX12_round_241 : decode cX12_round 241 = .ok (.iconst 0, 1) := by decide +kernel
theorem dX12_round_242 : decode cX12_round 242 = .ok (.istore 9, 2) := by decide +kernel
theorem dX12_round_244 : decode cX12_round 244 = .ok (.iload 9, 2) := by decide +kernel
theorem dX12_round_246 : decode cX12_round 246 = .ok (.bipush 64, 2) := by decide +kernel
theorem dX12_round_248 : decode cX12_round 248 = .ok (.if_icmp .ge 132, 3) := by decide +kernel
theorem dX12_round_251 : decode cX12_round 251 = .ok (.iload 8, 2) := by decide +kernel
theorem dX12_round_253 : decode cX12_round 253 = .ok (.iload 5, 2) := by decide +kernel
theorem dX12_round_255 : decode cX12_round 255 = .ok (.bipush 6, 2) := by decide +kernel
theorem dX12_round_257 : decode cX12_round 257 = .ok (.invokestatic 74, 3) := by decide +kernel
theorem dX12_round_260 : decode cX12_round 260 = .ok (.iload 5, 2) := by decide +kernel
theorem dX12_round_262 : decode cX12_round 262 = .ok (.bipush 11, 2) := by decide +kernel
theorem dX12_round_264 : decode cX12_round 264 = .ok (.invokestatic 74, 3) := by decide +kernel
theorem dX12_round_267 : decode cX12_round 267 = .ok (.ixor, 1) := by decide +kernel
theorem dX12_round_268 : decode cX12_round 268 = .ok (.iload 5, 2) := by decide +kernel
theorem dX12_round_270 : decode cX12_round 270 = .ok (.bipush 25, 2) := by decide +kernel
theorem dX12_round_272 : decode cX12_round 272 = .ok (.invokestatic 74, 3) := by decide +kernel
theorem dX12_round_275 : decode cX12_round 275 = .ok (.ixor, 1) := by decide +kernel
theorem dX12_round_276 : decode cX12_round 276 = .ok (.iadd, 1) := by decide +kernel
theorem dX12_round_277 : decode cX12_round 277 = .ok (.iload 5, 2) := by decide +kernel
theorem dX12_round_279 : decode cX12_round 279 = .ok (.iload 6, 2) := by decide +kernel
theorem dX12_round_281 : decode cX12_round 281 = .ok (.iand, 1) := by decide +kernel
theorem dX12_round_282 : decode cX12_round 282 = .ok (.iload 5, 2) := by decide +kernel
theorem dX12_round_284 : decode cX12_round 284 = .ok (.iconst (-1), 1) := by decide +kernel
theorem dX12_round_285 : decode cX12_round 285 = .ok (.ixor, 1) := by decide +kernel
theorem dX12_round_286 : decode cX12_round 286 = .ok (.iload 7, 2) := by decide +kernel
theorem dX12_round_288 : decode cX12_round 288 = .ok (.iand, 1) := by decide +kernel
theorem dX12_round_289 : decode cX12_round 289 = .ok (.ixor, 1) := by decide +kernel
theorem dX12_round_290 : decode cX12_round 290 = .ok (.iadd, 1) := by decide +kernel
theorem dX12_round_291 : decode cX12_round 291 = .ok (.aload_n 0, 1) := by decide +kernel
theorem dX12_round_292 : decode cX12_round 292 = .ok (.getfield 19, 3) := by decide +kernel
theorem dX12_round_295 : decode cX12_round 295 = .ok (.iload 9, 2) := by decide +kernel
theorem dX12_round_297 : decode cX12_round 297 = .ok (.iaload, 1) := by decide +kernel
theorem dX12_round_298 : decode cX12_round 298 = .ok (.iadd, 1) := by decide +kernel
theorem dX12_round_299 : decode cX12_round 299 = .ok (.aload_n 0, 1) := by decide +kernel
theorem dX12_round_300 : decode cX12_round 300 = .ok (.getfield 16, 3) := by decide +kernel
theorem dX12_round_303 : decode cX12_round 303 = .ok (.iload 9, 2) := by decide +kernel
theorem dX12_round_305 : decode cX12_round 305 = .ok (.iaload, 1) := by decide +kernel
theorem dX12_round_306 : decode cX12_round 306 = .ok (.iadd, 1) := by decide +kernel
theorem dX12_round_307 : decode cX12_round 307 = .ok (.istore 10, 2) := by decide +kernel
theorem dX12_round_309 : decode cX12_round 309 = .ok (.iload_n 1, 1) := by decide +kernel
theorem dX12_round_310 : decode cX12_round 310 = .ok (.iconst 2, 1) := by decide +kernel
theorem dX12_round_311 : decode cX12_round 311 = .ok (.invokestatic 74, 3) := by decide +kernel
theorem dX12_round_314 : decode cX12_round 314 = .ok (.iload_n 1, 1) := by decide +kernel
theorem dX12_round_315 : decode cX12_round 315 = .ok (.bipush 13, 2) := by decide +kernel
theorem dX12_round_317 : decode cX12_round 317 = .ok (.invokestatic 74, 3) := by decide +kernel
theorem dX12_round_320 : decode cX12_round 320 = .ok (.ixor, 1) := by decide +kernel
theorem dX12_round_321 : decode cX12_round 321 = .ok (.iload_n 1, 1) := by decide +kernel
theorem dX12_round_322 : decode cX12_round 322 = .ok (.bipush 22, 2) := by decide +kernel
theorem dX12_round_324 : decode cX12_round 324 = .ok (.invokestatic 74, 3) := by decide +kernel
theorem dX12_round_327 : decode cX12_round 327 = .ok (.ixor, 1) := by decide +kernel
theorem dX12_round_328 : decode cX12_round 328 = .ok (.iload_n 1, 1) := by decide +kernel
theorem dX12_round_329 : decode cX12_round 329 = .ok (.iload_n 2, 1) := by decide +kernel
theorem dX12_round_330 : decode cX12_round 330 = .ok (.iand, 1) := by decide +kernel
theorem dX12_round_331 : decode cX12_round 331 = .ok (.iload_n 1, 1) := by decide +kernel
theorem dX12_round_332 : decode cX12_round 332 = .ok (.iload_n 3, 1) := by decide +kernel
theorem dX12_round_333 : decode cX12_round 333 = .ok (.iand, 1) := by decide +kernel
theorem dX12_round_334 : decode cX12_round 334 = .ok (.ixor, 1) := by decide +kernel
theorem dX12_round_335 : decode cX12_round 335 = .ok (.iload_n 2, 1) := by decide +kernel
theorem dX12_round_336 : decode cX12_round 336 = .ok (.iload_n 3, 1) := by decide +kernel
theorem dX12_round_337 : decode cX12_round 337 = .ok (.iand, 1) := by decide +kernel
theorem dX12_round_338 : decode cX12_round 338 = .ok (.ixor, 1) := by decide +kernel
theorem dX12_round_339 : decode cX12_round 339 = .ok (.iadd, 1) := by decide +kernel
theorem dX12_round_340 : decode cX12_round 340 = .ok (.istore 11, 2) := by decide +kernel
theorem dX12_round_342 : decode cX12_round 342 = .ok (.iload 7, 2) := by decide +kernel
theorem dX12_round_344 : decode cX12_round 344 = .ok (.istore 8, 2) := by decide +kernel
theorem dX12_round_346 : decode cX12_round 346 = .ok (.iload 6, 2) := by decide +kernel
theorem dX12_round_348 : decode cX12_round 348 = .ok (.istore 7, 2) := by decide +kernel
theorem dX12_round_350 : decode cX12_round 350 = .ok (.iload 5, 2) := by decide +kernel
theorem dX12_round_352 : decode cX12_round 352 = .ok (.istore 6, 2) := by decide +kernel
theorem dX12_round_354 : decode cX12_round 354 = .ok (.iload 4, 2) := by decide +kernel
theorem dX12_round_356 : decode cX12_round 356 = .ok (.iload 10, 2) := by decide +kernel
theorem dX12_round_358 : decode cX12_round 358 = .ok (.iadd, 1) := by decide +kernel
theorem dX12_round_359 : decode cX12_round 359 = .ok (.istore 5, 2) := by decide +kernel
theorem dX12_round_361 : decode cX12_round 361 = .ok (.iload_n 3, 1) := by decide +kernel
theorem dX12_round_362 : decode cX12_round 362 = .ok (.istore 4, 2) := by decide +kernel
theorem dX12_round_364 : decode cX12_round 364 = .ok (.iload_n 2, 1) := by decide +kernel
theorem dX12_round_365 : decode cX12_round 365 = .ok (.istore_n 3, 1) := by decide +kernel
theorem dX12_round_366 : decode cX12_round 366 = .ok (.iload_n 1, 1) := by decide +kernel
theorem dX12_round_367 : decode cX12_round 367 = .ok (.istore_n 2, 1) := by decide +kernel
theorem dX12_round_368 : decode cX12_round 368 = .ok (.iload 10, 2) := by decide +kernel
theorem dX12_round_370 : decode cX12_round 370 = .ok (.iload 11, 2) := by decide +kernel
theorem dX12_round_372 : decode cX12_round 372 = .ok (.iadd, 1) := by decide +kernel
theorem dX12_round_373 : decode cX12_round 373 = .ok (.istore_n 1, 1) := by decide +kernel
theorem dX12_round_374 : decode cX12_round 374 = .ok (.iinc 9 1, 3) := by decide +kernel
theorem dX12_round_377 : decode cX12_round 377 = .ok (.goto (-133), 3) := by decide +kernel
theorem dX12_round_380 : decode cX12_round 380 = .ok (.aload_n 0, 1) := by decide +kernel
theorem dX12_round_381 : decode cX12_round 381 = .ok (.getfield 13, 3) := by decide +kernel
theorem dX12_round_384 : decode cX12_round 384 = .ok (.iconst 0, 1) := by decide +kernel
theorem dX12_round_385 : decode cX12_round 385 = .ok (.dup2, 1) := by decide +kernel
theorem dX12_round_386 : decode cX12_round 386 = .ok (.iaload, 1) := by decide +kernel
theorem dX12_round_387 : decode cX12_round 387 = .ok (.iload_n 1, 1) := by decide +kernel
theorem dX12_round_388 : decode cX12_round 388 = .ok (.iadd, 1) := by decide +kernel
theorem dX12_round_389 : decode cX12_round 389 = .ok (.iastore, 1) := by decide +kernel
theorem dX12_round_390 : decode cX12_round 390 = .ok (.aload_n 0, 1) := by decide +kernel
theorem dX12_round_391 : decode cX12_round 391 = .ok (.getfield 13, 3) := by decide +kernel
theorem dX12_round_394 : decode cX12_round 394 = .ok (.iconst 1, 1) := by decide +kernel
theorem dX12_round_395 : decode cX12_round 395 = .ok (.dup2, 1) := by decide +kernel
theorem dX12_round_396 : decode cX12_round 396 = .ok (.iaload, 1) := by decide +kernel
theorem dX12_round_397 : decode cX12_round 397 = .ok (.iload_n 2, 1) := by decide +kernel
theorem dX12_round_398 : decode cX12_round 398 = .ok (.iadd, 1) := by decide +kernel
theorem dX12_round_399 : decode cX12_round 399 = .ok (.iastore, 1) := by decide +kernel
theorem dX12_round_400 : decode cX12_round 400 = .ok (.aload_n 0, 1) := by decide +kernel
theorem dX12_round_401 : decode cX12_round 401 = .ok (.getfield 13, 3) := by decide +kernel
theorem dX12_round_404 : decode cX12_round 404 = .ok (.iconst 2, 1) := by decide +kernel
theorem dX12_round_405 : decode cX12_round 405 = .ok (.dup2, 1) := by decide +kernel
theorem dX12_round_406 : decode cX12_round 406 = .ok (.iaload, 1) := by decide +kernel
theorem dX12_round_407 : decode cX12_round 407 = .ok (.iload_n 3, 1) := by decide +kernel
theorem dX12_round_408 : decode cX12_round 408 = .ok (.iadd, 1) := by decide +kernel
theorem dX12_round_409 : decode cX12_round 409 = .ok (.iastore, 1) := by decide +kernel
theorem dX12_round_410 : decode cX12_round 410 = .ok (.aload_n 0, 1) := by decide +kernel
theorem dX12_round_411 : decode cX12_round 411 = .ok (.getfield 13, 3) := by decide +kernel
theorem dX12_round_414 : decode cX12_round 414 = .ok (.iconst 3, 1) := by decide +kernel
theorem dX12_round_415 : decode cX12_round 415 = .ok (.dup2, 1) := by decide +kernel
theorem dX12_round_416 : decode cX12_round 416 = .ok (.iaload, 1) := by decide +kernel
theorem dX12_round_417 : decode cX12_round 417 = .ok (.iload 4, 2) := by decide +kernel
theorem dX12_round_419 : decode cX12_round 419 = .ok (.iadd, 1) := by decide +kernel
theorem dX12_round_420 : decode cX12_round 420 = .ok (.iastore, 1) := by decide +kernel
theorem dX12_round_421 : decode cX12_round 421 = .ok (.aload_n 0, 1) := by decide +kernel
theorem dX12_round_422 : decode cX12_round 422 = .ok (.getfield 13, 3) := by decide +kernel
theorem dX12_round_425 : decode cX12_round 425 = .ok (.iconst 4, 1) := by decide +kernel
theorem dX12_round_426 : decode cX12_round 426 = .ok (.dup2, 1) := by decide +kernel
theorem dX12_round_427 : decode cX12_round 427 = .ok (.iaload, 1) := by decide +kernel
theorem dX12_round_428 : decode cX12_round 428 = .ok (.iload 5, 2) := by decide +kernel
theorem dX12_round_430 : decode cX12_round 430 = .ok (.iadd, 1) := by decide +kernel
theorem dX12_round_431 : decode cX12_round 431 = .ok (.iastore, 1) := by decide +kernel
theorem dX12_round_432 : decode cX12_round 432 = .ok (.aload_n 0, 1) := by decide +kernel
theorem dX12_round_433 : decode cX12_round 433 = .ok (.getfield 13, 3) := by decide +kernel
theorem dX12_round_436 : decode cX12_round 436 = .ok (.iconst 5, 1) := by decide +kernel
theorem dX12_round_437 : decode cX12_round 437 = .ok (.dup2, 1) := by decide +kernel
theorem dX12_round_438 : decode cX12_round 438 = .ok (.iaload, 1) := by decide +kernel
theorem dX12_round_439 : decode cX12_round 439 = .ok (.iload 6, 2) := by decide +kernel
theorem dX12_round_441 : decode cX12_round 441 = .ok (.iadd, 1) := by decide +kernel
theorem dX12_round_442 : decode cX12_round 442 = .ok (.iastore, 1) := by decide +kernel
theorem dX12_round_443 : decode cX12_round 443 = .ok (.aload_n 0, 1) := by decide +kernel
theorem dX12_round_444 : decode cX12_round 444 = .ok (.getfield 13, 3) := by decide +kernel
theorem dX12_round_447 : decode cX12_round 447 = .ok (.bipush 6, 2) := by decide +kernel
theorem dX12_round_449 : decode cX12_round 449 = .ok (.dup2, 1) := by decide +kernel
theorem dX12_round_450 : decode cX12_round 450 = .ok (.iaload, 1) := by decide +kernel
theorem dX12_round_451 : decode cX12_round 451 = .ok (.iload 7, 2) := by decide +kernel
theorem dX12_round_453 : decode cX12_round 453 = .ok (.iadd, 1) := by decide +kernel
theorem dX12_round_454 : decode cX12_round 454 = .ok (.iastore, 1) := by decide +kernel
theorem dX12_round_455 : decode cX12_round 455 = .ok (.aload_n 0, 1) := by decide +kernel
theorem dX12_round_456 : decode cX12_round 456 = .ok (.getfield 13, 3) := by decide +kernel
theorem dX12_round_459 : decode cX12_round 459 = .ok (.bipush 7, 2) := by decide +kernel
theorem dX12_round_461 : decode cX12_round 461 = .ok (.dup2, 1) := by decide +kernel
theorem dX12_round_462 : decode cX12_round 462 = .ok (.iaload, 1) := by decide +kernel
theorem dX12_round_463 : decode cX12_round 463 = .ok (.iload 8, 2) := by decide +kernel
theorem dX12_round_465 : decode cX12_round 465 = .ok (.iadd, 1) := by decide +kernel
theorem dX12_round_466 : decode cX12_round 466 = .ok (.iastore, 1) := by decide +kernel
theorem dX12_round_467 : decode cX12_round 467 = .ok (.return_, 1) := by decide +kernel
theorem kt_288 : Cond.methodLink RX12 1 objectInit ∈ tb := tb_at (i := 1251) (by decide +kernel) (by decide +kernel)
theorem kt_289 : Cond.fieldLink RX12 9 "PostGateModel$Hash" "first" "[I" ∈ tb := tb_at (i := 1267) (by decide +kernel) (by decide +kernel)
theorem kt_290 : Cond.fieldLink RX12 13 "PostGateModel$Hash" "h" "[I" ∈ tb := tb_at (i := 1268) (by decide +kernel) (by decide +kernel)
theorem kt_291 : Cond.fieldLink RX12 16 "PostGateModel$Hash" "w" "[I" ∈ tb := tb_at (i := 1269) (by decide +kernel) (by decide +kernel)
theorem kt_292 : Cond.fieldLink RX12 19 "PostGateModel$Hash" "k" "[I" ∈ tb := tb_at (i := 1270) (by decide +kernel) (by decide +kernel)
theorem kt_293 : Cond.fieldLink RX12 22 "PostGateModel$Hash" "block" "[B" ∈ tb := tb_at (i := 1271) (by decide +kernel) (by decide +kernel)
theorem kt_294 : Cond.code yX12_isPrime cX12_isPrime 2 (some .boolean) ∈ tb := tb_at (i := 1254) (by decide +kernel) (by decide +kernel)
theorem kt_295 : Cond.methodLink RX12 26 yX12_isPrime ∈ tb := tb_at (i := 1252) (by decide +kernel) (by decide +kernel)
theorem kt_296 : Cond.static yX12_isPrime ∈ tb := tb_at (i := 1253) (by decide +kernel) (by decide +kernel)
theorem kt_297 : Cond.code yX12_rootOf cX12_rootOf 6 (some .int) ∈ tb := tb_at (i := 1257) (by decide +kernel) (by decide +kernel)
theorem kt_298 : Cond.methodLink RX12 30 yX12_rootOf ∈ tb := tb_at (i := 1255) (by decide +kernel) (by decide +kernel)
theorem kt_299 : Cond.static yX12_rootOf ∈ tb := tb_at (i := 1256) (by decide +kernel) (by decide +kernel)
theorem kt_300 : Cond.code yJ6_rotateRight_7cf53 cJ6_rotateRight_7cf53 2 (some .int) ∈ tb := tb_at (i := 1794) (by decide +kernel) (by decide +kernel)
theorem kt_301 : Cond.initialized RJ6 ∈ tb := tb_at (i := 103) (by decide +kernel) (by decide +kernel)
theorem kt_302 : Cond.methodLink RX12 74 yJ6_rotateRight_7cf53 ∈ tb := tb_at (i := 1792) (by decide +kernel) (by decide +kernel)
theorem kt_303 : Cond.static yJ6_rotateRight_7cf53 ∈ tb := tb_at (i := 1793) (by decide +kernel) (by decide +kernel)
theorem kt_304 : Cond.methodLink RX12 48 arraycopyName ∈ tb := tb_at (i := 1779) (by decide +kernel) (by decide +kernel)
theorem kt_305 : Cond.fieldLink RX12 54 "PostGateModel$Hash" "many" "I" ∈ tb := tb_at (i := 1272) (by decide +kernel) (by decide +kernel)
theorem kt_306 : Cond.fieldLink RX12 58 "PostGateModel$Hash" "all" "J" ∈ tb := tb_at (i := 1273) (by decide +kernel) (by decide +kernel)
theorem kt_307 : Cond.code yX12_round cX12_round 12 none ∈ tb := tb_at (i := 1791) (by decide +kernel) (by decide +kernel)
theorem kt_308 : Cond.methodLink RX12 62 yX12_round ∈ tb := tb_at (i := 1788) (by decide +kernel) (by decide +kernel)
theorem kt_309 : Cond.instanceMethod yX12_round ∈ tb := tb_at (i := 1790) (by decide +kernel) (by decide +kernel)
theorem kt_310 : Cond.selects RX12 yX12_round yX12_round ∈ tb := tb_at (i := 70) (by decide +kernel) (by decide +kernel)
theorem kt_311 : Cond.code yX12_one cX12_one 2 none ∈ tb := tb_at (i := 1787) (by decide +kernel) (by decide +kernel)
theorem kt_312 : Cond.methodLink RX12 65 yX12_one ∈ tb := tb_at (i := 1784) (by decide +kernel) (by decide +kernel)
theorem kt_313 : Cond.instanceMethod yX12_one ∈ tb := tb_at (i := 1785) (by decide +kernel) (by decide +kernel)
theorem kt_314 : Cond.selects RX12 yX12_one yX12_one ∈ tb := tb_at (i := 1786) (by decide +kernel) (by decide +kernel)
theorem kt_315 : Cond.constantLong RX12 69 8 ∈ tb := tb_at (i := 1799) (by decide +kernel) (by decide +kernel)
theorem kt_316 : Cond.code yX12_four cX12_four 3 none ∈ tb := tb_at (i := 1803) (by decide +kernel) (by decide +kernel)
theorem kt_317 : Cond.methodLink RX12 71 yX12_four ∈ tb := tb_at (i := 1800) (by decide +kernel) (by decide +kernel)
theorem kt_318 : Cond.instanceMethod yX12_four ∈ tb := tb_at (i := 1801) (by decide +kernel) (by decide +kernel)
theorem kt_319 : Cond.selects RX12 yX12_four yX12_four ∈ tb := tb_at (i := 1802) (by decide +kernel) (by decide +kernel)
theorem cnx {p n : Nat} (h : 2 ≤ p ∧ p ≤ 312 ∧ n = cnt p) (hn : n < 64) : p < 312 := by
  obtain ⟨h1, h2, h3⟩ := h
  have hp : p ≠ 312 := fun q => by subst q; rw [cnt_e] at h3; omega
  omega
theorem cnt_le (p : Nat) : cnt p ≤ p := by
  induction p with
  | zero => exact Nat.le_refl 0
  | succ p ih =>
    rw [cnt]
    split
    · rcases pf01 30 2 p with q | q <;> omega
    · omega
set_option maxHeartbeats 4000000 in
set_option maxRecDepth 100000 in
theorem c_X12_init (l : Launch) (dC : Nat → ClassId) (dI : Nat → Nat → Nat) (sz : Nat) (h0 : Nat) : Met l yX12_init (.code yX12_init cX12_init 3 none :: tb) ({ frames := 3, cells := 5, slots := 208, locals := 111 }) (va_Pc [.ref h0] (PW (dC, dI) sz [(h0, .inr (12, [.null, .null, .null, .null, .null, .int 0, .long 0]))] [])) (va_Qv (fun _ : Unit => True) (fun _ T9 => ∃ (q1 : Nat) (q2 : Nat) (q3 : Nat) (q4 : Nat) (q5 : Nat) (c1 : ClassId) (c2 : ClassId) (c3 : ClassId) (c4 : ClassId) (c5 : ClassId) (f1 : Nat → Int32) (f4 : Nat → Int32), QW (dC, dI) (va_A [(h0, .inr (12, [.null, .null, .null, .null, .null, .int 0, .long 0]))] sz) [(h0, .inr (12, [.ref q1, .ref q2, .ref q3, .ref q4, .ref q5, .int 0, .long 0])), (q1, .inl (c1, 8, .inl f1)), (q2, .inl (c2, 8, .inl (fun _ => 0))), (q3, .inl (c3, 64, .inl (fun _ => 0))), (q4, .inl (c4, 64, .inl f4)), (q5, .inl (c5, 64, .inl (fun _ => 0)))] [(c1, .int), (c2, .int), (c3, .int), (c4, .int), (c5, .byte)] T9) (va_A [(h0, .inr (12, [.null, .null, .null, .null, .null, .int 0, .long 0]))] sz)) 5 208 (va_A [(h0, .inr (12, [.null, .null, .null, .null, .null, .int 0, .long 0]))] sz) := by
  refine Met.ofW (cc := cX12_init) (maxL := 3) (ret := none) (by decide) rfl ?_
  intro p e s m args below meth c s₁ B hml hv
  obtain ⟨rfl, hsz, hP, hK, hD0, hE⟩ := hv
  have hx := B.exec
  have hb := B.bytes
  have hr := B.returns
  have hts : ∀ w ∈ tb, w.before _ s = true := fun w h => atoms_spec (ws := .code yX12_init cX12_init 3 none :: tb) B.pre w (List.mem_cons_of_mem _ h)
  have hown : s.vm.findClass RX12 = some m.cls := findClass_of_methodNamed B.named
  have hlocks := B.notSynchronized
  have hin : meth.name = "<init>" := (name_of_methodNamed B.named B.method).1
  subst hsz
  have hD := hD0.self (sz := s.heap.size)
  generalize hAe : va_A [(h0, .inr (12, [.null, .null, .null, .null, .null, .int 0, .long 0]))] s.heap.size = A at hD ⊢
  have hA : ∀ q : Nat, s.heap.size ≤ q → A q := fun q h => by rw [← hAe]; exact Or.inr h
  have hS : va_S A s.heap s.heap [] := va_S.rf
  have hP : va_P (dC, dI) vwCl [(h0, .inr (12, [.null, .null, .null, .null, .null, .int 0, .long 0]))] s.heap := hP
  have hl := lv_entry ([.ref h0]) (n := 3) (Nat.le_of_ble_eq_true rfl)
  rw [lg_entry_eq]
  generalize (lg_sl ([.ref h0]) ++ List.replicate (3 - (lg_sl ([.ref h0])).length) Slot.unset).toArray = ls at hl ⊢
  have hl : lv_has ls 3 [(0, .ref h0)] := hl
  refine lv_aload_n hx hb dX12_init_0 rfl (lv_at hl 0 rfl) ?_
  refine W.objInit hx hb hown (hts _ kt_288) (hts _ kt_1) (hts _ kt_2) rfl (by rw [hml]; exact hl.1) rfl dX12_init_1 (Nat.le_of_ble_eq_true rfl) (Nat.le_of_ble_eq_true rfl) ?_
  refine W.eq (g2 := F0 m 4 ls []) rfl ?_
  refine lv_aload_n hx hb dX12_init_4 rfl (lv_at hl 0 rfl) ?_
  refine lv_bipush (v := 8) hx hb dX12_init_5 (by decide) ?_
  refine va_newa (atype := .int) (ty := .int) (a0 := (8, .inl (fun _ => 0))) (N' := 8) hx hb (hts _ kt_5) rfl hK hP hD hS hA (fun _ => rfl) (by decide) (by decide) (by show _ * 4 ≤ _; omega) (by show _ + 1 ≤ 5; omega) (by show _ + 8 ≤ 208; omega) dX12_init_7 (fun q_1 cA_2 H hK hP hD hS => ?_)
  have hK : va_K (dC, dI) vwCl [(cA_2, .int)] s := hK
  have hP : va_P (dC, dI) vwCl [(h0, .inr (12, [.null, .null, .null, .null, .null, .int 0, .long 0])), (q_1, .inl (cA_2, 8, .inl (fun _ => 0)))] H := hP
  have hD : va_D A [(h0, .inr (12, [.null, .null, .null, .null, .null, .int 0, .long 0])), (q_1, .inl (cA_2, 8, .inl (fun _ => 0)))] := hD
  refine va_putF (D := (dC, dI)) (ci := 12) (v := .ref q_1) (ty := .array .int) (C := RX12) (T := TX12) (N := 7) hx hb hts it_12 tyX12 tyX12_ok nmX12 hown hK hP hD hS 0 rfl rfl 0 (by decide) (hts _ kt_289) (fun _ h9 => h9) rfl hin rfl (by decide +kernel) rfl rfl (Nat.le_of_ble_eq_true rfl) dX12_init_9 (fun H locs hP hD hS => ?_)
  have hP : va_P (dC, dI) vwCl [(h0, .inr (12, [.ref q_1, .null, .null, .null, .null, .int 0, .long 0])), (q_1, .inl (cA_2, 8, .inl (fun _ => 0)))] H := hP
  have hD : va_D A [(h0, .inr (12, [.ref q_1, .null, .null, .null, .null, .int 0, .long 0])), (q_1, .inl (cA_2, 8, .inl (fun _ => 0)))] := hD
  refine lv_aload_n hx hb dX12_init_12 rfl (lv_at hl 0 rfl) ?_
  refine lv_bipush (v := 8) hx hb dX12_init_13 (by decide) ?_
  refine va_newa (atype := .int) (ty := .int) (a0 := (8, .inl (fun _ => 0))) (N' := 8) hx hb (hts _ kt_5) rfl hK hP hD hS hA (fun _ => rfl) (by decide) (by decide) (by show _ * 4 ≤ _; omega) (by show _ + 1 ≤ 5; omega) (by show _ + 8 ≤ 208; omega) dX12_init_15 (fun q_3 cA_4 H hK hP hD hS => ?_)
  have hK : va_K (dC, dI) vwCl [(cA_2, .int), (cA_4, .int)] s := hK
  have hP : va_P (dC, dI) vwCl [(h0, .inr (12, [.ref q_1, .null, .null, .null, .null, .int 0, .long 0])), (q_1, .inl (cA_2, 8, .inl (fun _ => 0))), (q_3, .inl (cA_4, 8, .inl (fun _ => 0)))] H := hP
  have hD : va_D A [(h0, .inr (12, [.ref q_1, .null, .null, .null, .null, .int 0, .long 0])), (q_1, .inl (cA_2, 8, .inl (fun _ => 0))), (q_3, .inl (cA_4, 8, .inl (fun _ => 0)))] := hD
  refine va_putF (D := (dC, dI)) (ci := 12) (v := .ref q_3) (ty := .array .int) (C := RX12) (T := TX12) (N := 7) hx hb hts it_12 tyX12 tyX12_ok nmX12 hown hK hP hD hS 0 rfl rfl 1 (by decide) (hts _ kt_290) (fun _ h9 => h9) rfl hin rfl (by decide +kernel) rfl rfl (Nat.le_of_ble_eq_true rfl) dX12_init_17 (fun H locs hP hD hS => ?_)
  have hP : va_P (dC, dI) vwCl [(h0, .inr (12, [.ref q_1, .ref q_3, .null, .null, .null, .int 0, .long 0])), (q_1, .inl (cA_2, 8, .inl (fun _ => 0))), (q_3, .inl (cA_4, 8, .inl (fun _ => 0)))] H := hP
  have hD : va_D A [(h0, .inr (12, [.ref q_1, .ref q_3, .null, .null, .null, .int 0, .long 0])), (q_1, .inl (cA_2, 8, .inl (fun _ => 0))), (q_3, .inl (cA_4, 8, .inl (fun _ => 0)))] := hD
  refine lv_aload_n hx hb dX12_init_20 rfl (lv_at hl 0 rfl) ?_
  refine lv_bipush (v := 64) hx hb dX12_init_21 (by decide) ?_
  refine va_newa (atype := .int) (ty := .int) (a0 := (64, .inl (fun _ => 0))) (N' := 64) hx hb (hts _ kt_5) rfl hK hP hD hS hA (fun _ => rfl) (by decide) (by decide) (by show _ * 4 ≤ _; omega) (by show _ + 1 ≤ 5; omega) (by show _ + 64 ≤ 208; omega) dX12_init_23 (fun q_5 cA_6 H hK hP hD hS => ?_)
  have hK : va_K (dC, dI) vwCl [(cA_2, .int), (cA_4, .int), (cA_6, .int)] s := hK
  have hP : va_P (dC, dI) vwCl [(h0, .inr (12, [.ref q_1, .ref q_3, .null, .null, .null, .int 0, .long 0])), (q_1, .inl (cA_2, 8, .inl (fun _ => 0))), (q_3, .inl (cA_4, 8, .inl (fun _ => 0))), (q_5, .inl (cA_6, 64, .inl (fun _ => 0)))] H := hP
  have hD : va_D A [(h0, .inr (12, [.ref q_1, .ref q_3, .null, .null, .null, .int 0, .long 0])), (q_1, .inl (cA_2, 8, .inl (fun _ => 0))), (q_3, .inl (cA_4, 8, .inl (fun _ => 0))), (q_5, .inl (cA_6, 64, .inl (fun _ => 0)))] := hD
  refine va_putF (D := (dC, dI)) (ci := 12) (v := .ref q_5) (ty := .array .int) (C := RX12) (T := TX12) (N := 7) hx hb hts it_12 tyX12 tyX12_ok nmX12 hown hK hP hD hS 0 rfl rfl 2 (by decide) (hts _ kt_291) (fun _ h9 => h9) rfl hin rfl (by decide +kernel) rfl rfl (Nat.le_of_ble_eq_true rfl) dX12_init_25 (fun H locs hP hD hS => ?_)
  have hP : va_P (dC, dI) vwCl [(h0, .inr (12, [.ref q_1, .ref q_3, .ref q_5, .null, .null, .int 0, .long 0])), (q_1, .inl (cA_2, 8, .inl (fun _ => 0))), (q_3, .inl (cA_4, 8, .inl (fun _ => 0))), (q_5, .inl (cA_6, 64, .inl (fun _ => 0)))] H := hP
  have hD : va_D A [(h0, .inr (12, [.ref q_1, .ref q_3, .ref q_5, .null, .null, .int 0, .long 0])), (q_1, .inl (cA_2, 8, .inl (fun _ => 0))), (q_3, .inl (cA_4, 8, .inl (fun _ => 0))), (q_5, .inl (cA_6, 64, .inl (fun _ => 0)))] := hD
  refine lv_aload_n hx hb dX12_init_28 rfl (lv_at hl 0 rfl) ?_
  refine lv_bipush (v := 64) hx hb dX12_init_29 (by decide) ?_
  refine va_newa (atype := .int) (ty := .int) (a0 := (64, .inl (fun _ => 0))) (N' := 64) hx hb (hts _ kt_5) rfl hK hP hD hS hA (fun _ => rfl) (by decide) (by decide) (by show _ * 4 ≤ _; omega) (by show _ + 1 ≤ 5; omega) (by show _ + 64 ≤ 208; omega) dX12_init_31 (fun q_7 cA_8 H hK hP hD hS => ?_)
  have hK : va_K (dC, dI) vwCl [(cA_2, .int), (cA_4, .int), (cA_6, .int), (cA_8, .int)] s := hK
  have hP : va_P (dC, dI) vwCl [(h0, .inr (12, [.ref q_1, .ref q_3, .ref q_5, .null, .null, .int 0, .long 0])), (q_1, .inl (cA_2, 8, .inl (fun _ => 0))), (q_3, .inl (cA_4, 8, .inl (fun _ => 0))), (q_5, .inl (cA_6, 64, .inl (fun _ => 0))), (q_7, .inl (cA_8, 64, .inl (fun _ => 0)))] H := hP
  have hD : va_D A [(h0, .inr (12, [.ref q_1, .ref q_3, .ref q_5, .null, .null, .int 0, .long 0])), (q_1, .inl (cA_2, 8, .inl (fun _ => 0))), (q_3, .inl (cA_4, 8, .inl (fun _ => 0))), (q_5, .inl (cA_6, 64, .inl (fun _ => 0))), (q_7, .inl (cA_8, 64, .inl (fun _ => 0)))] := hD
  refine va_putF (D := (dC, dI)) (ci := 12) (v := .ref q_7) (ty := .array .int) (C := RX12) (T := TX12) (N := 7) hx hb hts it_12 tyX12 tyX12_ok nmX12 hown hK hP hD hS 0 rfl rfl 3 (by decide) (hts _ kt_292) (fun _ h9 => h9) rfl hin rfl (by decide +kernel) rfl rfl (Nat.le_of_ble_eq_true rfl) dX12_init_33 (fun H locs hP hD hS => ?_)
  have hP : va_P (dC, dI) vwCl [(h0, .inr (12, [.ref q_1, .ref q_3, .ref q_5, .ref q_7, .null, .int 0, .long 0])), (q_1, .inl (cA_2, 8, .inl (fun _ => 0))), (q_3, .inl (cA_4, 8, .inl (fun _ => 0))), (q_5, .inl (cA_6, 64, .inl (fun _ => 0))), (q_7, .inl (cA_8, 64, .inl (fun _ => 0)))] H := hP
  have hD : va_D A [(h0, .inr (12, [.ref q_1, .ref q_3, .ref q_5, .ref q_7, .null, .int 0, .long 0])), (q_1, .inl (cA_2, 8, .inl (fun _ => 0))), (q_3, .inl (cA_4, 8, .inl (fun _ => 0))), (q_5, .inl (cA_6, 64, .inl (fun _ => 0))), (q_7, .inl (cA_8, 64, .inl (fun _ => 0)))] := hD
  refine lv_aload_n hx hb dX12_init_36 rfl (lv_at hl 0 rfl) ?_
  refine lv_bipush (v := 64) hx hb dX12_init_37 (by decide) ?_
  refine va_newa (atype := .byte) (ty := .byte) (a0 := (64, .inl (fun _ => 0))) (N' := 64) hx hb (hts _ kt_264) rfl hK hP hD hS hA (fun _ => rfl) (by decide) (by decide) (by show _ * 1 ≤ _; omega) (by show _ + 1 ≤ 5; omega) (by show _ + 64 ≤ 208; omega) dX12_init_39 (fun q_9 cA_10 H hK hP hD hS => ?_)
  have hK : va_K (dC, dI) vwCl [(cA_2, .int), (cA_4, .int), (cA_6, .int), (cA_8, .int), (cA_10, .byte)] s := hK
  have hP : va_P (dC, dI) vwCl [(h0, .inr (12, [.ref q_1, .ref q_3, .ref q_5, .ref q_7, .null, .int 0, .long 0])), (q_1, .inl (cA_2, 8, .inl (fun _ => 0))), (q_3, .inl (cA_4, 8, .inl (fun _ => 0))), (q_5, .inl (cA_6, 64, .inl (fun _ => 0))), (q_7, .inl (cA_8, 64, .inl (fun _ => 0))), (q_9, .inl (cA_10, 64, .inl (fun _ => 0)))] H := hP
  have hD : va_D A [(h0, .inr (12, [.ref q_1, .ref q_3, .ref q_5, .ref q_7, .null, .int 0, .long 0])), (q_1, .inl (cA_2, 8, .inl (fun _ => 0))), (q_3, .inl (cA_4, 8, .inl (fun _ => 0))), (q_5, .inl (cA_6, 64, .inl (fun _ => 0))), (q_7, .inl (cA_8, 64, .inl (fun _ => 0))), (q_9, .inl (cA_10, 64, .inl (fun _ => 0)))] := hD
  refine va_putF (D := (dC, dI)) (ci := 12) (v := .ref q_9) (ty := .array .byte) (C := RX12) (T := TX12) (N := 7) hx hb hts it_12 tyX12 tyX12_ok nmX12 hown hK hP hD hS 0 rfl rfl 4 (by decide) (hts _ kt_293) (fun _ h9 => h9) rfl hin rfl (by decide +kernel) rfl rfl (Nat.le_of_ble_eq_true rfl) dX12_init_41 (fun H locs hP hD hS => ?_)
  have hP : va_P (dC, dI) vwCl [(h0, .inr (12, [.ref q_1, .ref q_3, .ref q_5, .ref q_7, .ref q_9, .int 0, .long 0])), (q_1, .inl (cA_2, 8, .inl (fun _ => 0))), (q_3, .inl (cA_4, 8, .inl (fun _ => 0))), (q_5, .inl (cA_6, 64, .inl (fun _ => 0))), (q_7, .inl (cA_8, 64, .inl (fun _ => 0))), (q_9, .inl (cA_10, 64, .inl (fun _ => 0)))] H := hP
  have hD : va_D A [(h0, .inr (12, [.ref q_1, .ref q_3, .ref q_5, .ref q_7, .ref q_9, .int 0, .long 0])), (q_1, .inl (cA_2, 8, .inl (fun _ => 0))), (q_3, .inl (cA_4, 8, .inl (fun _ => 0))), (q_5, .inl (cA_6, 64, .inl (fun _ => 0))), (q_7, .inl (cA_8, 64, .inl (fun _ => 0))), (q_9, .inl (cA_10, 64, .inl (fun _ => 0)))] := hD
  refine lv_iconst (v := 0) hx hb dX12_init_44 (by decide) ?_
  refine lv_istore_n (lv' := [(1, .int 0), (0, .ref h0)]) hx hb dX12_init_45 rfl hl (by decide) rfl (fun ls hl => ?_)
  refine lv_iconst (v := 2) hx hb dX12_init_46 (by decide) ?_
  refine lv_istore_n (lv' := [(2, .int 2), (1, .int 0), (0, .ref h0)]) hx hb dX12_init_47 rfl hl (by decide) rfl (fun ls hl => ?_)
  refine W.widen (k := 5) (n := 208) (by omega) (by omega) ?_
  refine wl_loop (σ := Nat × Nat × (Nat → Int32) × (Nat → Int32)) A (dC, dI) 48 3 (fun (n1, p1, fa, fk) => [(h0, .inr (12, [.ref q_1, .ref q_3, .ref q_5, .ref q_7, .ref q_9, .int 0, .long 0])), (q_1, .inl (cA_2, 8, .inl fa)), (q_3, .inl (cA_4, 8, .inl (fun _ => 0))), (q_5, .inl (cA_6, 64, .inl (fun _ => 0))), (q_7, .inl (cA_8, 64, .inl fk)), (q_9, .inl (cA_10, 64, .inl (fun _ => 0)))]) (fun (n1, p1, fa, fk) => [(2, .int (nI p1)), (1, .int (nI n1)), (0, .ref h0)]) (fun (n1, p1, fa, fk) => []) (fun (n1, p1, fa, fk) => 5) (fun (n1, p1, fa, fk) => 208) (fun (n1, p1, fa, fk) => 2 ≤ p1 ∧ p1 ≤ 312 ∧ n1 = cnt p1) (fun (n1, p1, fa, fk) => 312 - p1) ?_ (0, 2, (fun _ => 0), (fun _ => 0)) (⟨by omega, by omega, by decide +kernel⟩) _ _ (hP.sub [0, 1, 2, 3, 4, 5] rfl) (hD.sub [0, 1, 2, 3, 4, 5] (by decide) rfl) hS ls (lv_sub hl [0, 1, 2] rfl)
  rintro ⟨n1, p1, fa, fk⟩ hv_11 ih_12 H locs hP hD hS ls hl
  have hP : va_P (dC, dI) vwCl [(h0, .inr (12, [.ref q_1, .ref q_3, .ref q_5, .ref q_7, .ref q_9, .int 0, .long 0])), (q_1, .inl (cA_2, 8, .inl fa)), (q_3, .inl (cA_4, 8, .inl (fun _ => 0))), (q_5, .inl (cA_6, 64, .inl (fun _ => 0))), (q_7, .inl (cA_8, 64, .inl fk)), (q_9, .inl (cA_10, 64, .inl (fun _ => 0)))] H := hP
  have hD : va_D A [(h0, .inr (12, [.ref q_1, .ref q_3, .ref q_5, .ref q_7, .ref q_9, .int 0, .long 0])), (q_1, .inl (cA_2, 8, .inl fa)), (q_3, .inl (cA_4, 8, .inl (fun _ => 0))), (q_5, .inl (cA_6, 64, .inl (fun _ => 0))), (q_7, .inl (cA_8, 64, .inl fk)), (q_9, .inl (cA_10, 64, .inl (fun _ => 0)))] := hD
  have hl : lv_has ls 3 [(2, .int (nI p1)), (1, .int (nI n1)), (0, .ref h0)] := hl
  have hv_11 : 2 ≤ p1 ∧ p1 ≤ 312 ∧ n1 = cnt p1 := hv_11
  refine W.widen (k := 5) (n := 208) (Nat.le_refl _) (Nat.le_refl _) ?_
  refine W.eq (g2 := F0 m 48 ls []) rfl ?_
  obtain ⟨hv1, hv2, hv3⟩ := id hv_11
  have hn9 : n1 < 2 ^ 31 := by rw [hv3]; exact Nat.lt_of_le_of_lt (cnt_le p1) (by omega)
  refine lv_iload_n hx hb dX12_init_48 rfl (lv_at hl 1 rfl) ?_
  refine lv_bipush (v := 64) hx hb dX12_init_49 (by decide) ?_
  refine lv_icmp_ge (tgt := 101) hx hb dX12_init_51 (by decide) (fun c_13 => ?_) (fun c_13 => ?_)
  ·
    have hi_14 : 64 ≤ n1 := leN (N := 64) c_13
    have hP9 := hP.sub (ws' := [(h0, .inr (12, [.ref q_1, .ref q_3, .ref q_5, .ref q_7, .ref q_9, .int 0, .long 0])), (q_1, .inl (cA_2, 8, .inl fa)), (q_3, .inl (cA_4, 8, .inl (fun _ => 0))), (q_5, .inl (cA_6, 64, .inl (fun _ => 0))), (q_7, .inl (cA_8, 64, .inl fk)), (q_9, .inl (cA_10, 64, .inl (fun _ => 0)))]) [0, 1, 2, 3, 4, 5] rfl
    have hD9 := hD.sub (ws' := [(h0, .inr (12, [.ref q_1, .ref q_3, .ref q_5, .ref q_7, .ref q_9, .int 0, .long 0])), (q_1, .inl (cA_2, 8, .inl fa)), (q_3, .inl (cA_4, 8, .inl (fun _ => 0))), (q_5, .inl (cA_6, 64, .inl (fun _ => 0))), (q_7, .inl (cA_8, 64, .inl fk)), (q_9, .inl (cA_10, 64, .inl (fun _ => 0)))]) [0, 1, 2, 3, 4, 5] (by decide) rfl
    have hK9 := hK.sub (tys' := [(cA_2, .int), (cA_4, .int), (cA_6, .int), (cA_8, .int), (cA_10, .byte)]) [0, 1, 2, 3, 4] rfl
    refine W.widen (k := 5) (n := 208) (by omega) (by omega) ?_
    exact W.vret hx hb hr (fun t ht hW => ⟨⟨(), rfl, trivial, ⟨q_1, q_3, q_5, q_7, q_9, cA_2, cA_4, cA_6, cA_8, cA_10, fa, fk, QW.mk ht hW hP9 hK9 hD9⟩⟩, hS.F ht⟩) hS.2.2 dX12_init_101
  ·
    have hi_15 : n1 < 64 := ltN (N := 64) c_13
    refine lv_iload_n hx hb dX12_init_54 rfl (lv_at hl 0 rfl) ?_
    have hPc := hP.sub (ws' := []) [] rfl
    have hDc := hD.sub (ws' := []) [] (by decide) rfl
    have hKc := hK.sub (tys' := []) [] rfl
    have hFc := va_free (wc := []) hD hS hA [] rfl
    refine va_calli (va_runS (As := [.int (nI p1)]) (rest := []) ⟨hx, hb, hml, hown, hts⟩ (c_X12_isPrime l dC dI H.size p1 (by omega) (by omega)) ⟨callB_of 1 hts (gi kt_294) rfl rfl rfl (hts _ kt_285) (hts _ kt_295) (by decide +kernel) ⟨Nat.le_of_ble_eq_true rfl, Nat.le_of_ble_eq_true rfl⟩, (hts _ kt_296)⟩ ⟨fun a U g mk q => ⟨q.1, PW.calling q.2⟩, fun U hU hW => ⟨rfl, PW.mk hU hW hPc hKc hDc hE⟩⟩ rfl rfl hl.1 rfl (lv_room (Nat.le_of_ble_eq_true rfl)) dX12_init_55 ⟨by show _ + 0 ≤ 5; omega, by show _ + 0 ≤ 208; omega⟩) hS (fun q _ h => hFc q h) hFc (fun r_16 u t H1 locs ht hvm hw hB hz1 hk1 hS => ?_)
    have hB1 := hB
    obtain ⟨hP, hD, hK⟩ := QW.join (wr := [(h0, .inr (12, [.ref q_1, .ref q_3, .ref q_5, .ref q_7, .ref q_9, .int 0, .long 0])), (q_1, .inl (cA_2, 8, .inl fa)), (q_3, .inl (cA_4, 8, .inl (fun _ => 0))), (q_5, .inl (cA_6, 64, .inl (fun _ => 0))), (q_7, .inl (cA_8, 64, .inl fk)), (q_9, .inl (cA_10, 64, .inl (fun _ => 0)))]) hP hD hK [] [0, 1, 2, 3, 4, 5] rfl rfl (by decide) (by decide) hk1 hFc ht hvm hB1
    generalize H1 = H at hP hS ⊢
    have hK : va_K (dC, dI) vwCl [(cA_2, .int), (cA_4, .int), (cA_6, .int), (cA_8, .int), (cA_10, .byte)] s := hK.sub [0, 1, 2, 3, 4] rfl
    have hP : va_P (dC, dI) vwCl [(h0, .inr (12, [.ref q_1, .ref q_3, .ref q_5, .ref q_7, .ref q_9, .int 0, .long 0])), (q_1, .inl (cA_2, 8, .inl fa)), (q_3, .inl (cA_4, 8, .inl (fun _ => 0))), (q_5, .inl (cA_6, 64, .inl (fun _ => 0))), (q_7, .inl (cA_8, 64, .inl fk)), (q_9, .inl (cA_10, 64, .inl (fun _ => 0)))] H := hP
    have hD : va_D A [(h0, .inr (12, [.ref q_1, .ref q_3, .ref q_5, .ref q_7, .ref q_9, .int 0, .long 0])), (q_1, .inl (cA_2, 8, .inl fa)), (q_3, .inl (cA_4, 8, .inl (fun _ => 0))), (q_5, .inl (cA_6, 64, .inl (fun _ => 0))), (q_7, .inl (cA_8, 64, .inl fk)), (q_9, .inl (cA_10, 64, .inl (fun _ => 0)))] := hD
    have hw : r_16 = nI (pf 30 2 p1) := hw
    have hw_17 := hw
    refine lv_if_ne (tgt := 64) hx hb dX12_init_58 (by decide) (fun c_18 => ?_) (fun c_18 => ?_)
    ·
      refine lv_aload_n hx hb dX12_init_64 rfl (lv_at hl 2 rfl) ?_
      refine va_get (D := (dC, dI)) (ci := 12) (v := .ref q_7) (C := RX12) (T := TX12) (N := 7) hx hb hts it_12 hown hK hP 0 rfl rfl 3 (by decide) (hts _ kt_292) (fun _ h9 => h9) rfl dX12_init_65 ?_
      refine lv_iload_n hx hb dX12_init_68 rfl (lv_at hl 1 rfl) ?_
      refine lv_iload_n hx hb dX12_init_69 rfl (lv_at hl 0 rfl) ?_
      refine lv_iconst (v := 3) hx hb dX12_init_70 (by decide) ?_
      have hPc := hP.sub (ws' := []) [] rfl
      have hDc := hD.sub (ws' := []) [] (by decide) rfl
      have hKc := hK.sub (tys' := []) [] rfl
      have hFc := va_free (wc := []) hD hS hA [] rfl
      refine va_calli (va_runS (As := [.int (nI p1), .int 3]) (rest := [.int (nI n1), .ref q_7]) ⟨hx, hb, hml, hown, hts⟩ (c_X12_rootOf l dC dI H.size (nI p1) 3 ) ⟨callB_of 2 hts (gi kt_297) rfl rfl rfl (hts _ kt_285) (hts _ kt_298) (by decide +kernel) ⟨Nat.le_of_ble_eq_true rfl, Nat.le_of_ble_eq_true rfl⟩, (hts _ kt_299)⟩ ⟨fun a U g mk q => ⟨q.1, PW.calling q.2⟩, fun U hU hW => ⟨rfl, PW.mk hU hW hPc hKc hDc hE⟩⟩ rfl rfl hl.1 rfl (lv_room (Nat.le_of_ble_eq_true rfl)) dX12_init_71 ⟨by show _ + 0 ≤ 5; omega, by show _ + 0 ≤ 208; omega⟩) hS (fun q _ h => hFc q h) hFc (fun r_19 u t H1 locs ht hvm hw hB hz1 hk1 hS => ?_)
      have hB1 := hB
      obtain ⟨hP, hD, hK⟩ := QW.join (wr := [(h0, .inr (12, [.ref q_1, .ref q_3, .ref q_5, .ref q_7, .ref q_9, .int 0, .long 0])), (q_1, .inl (cA_2, 8, .inl fa)), (q_3, .inl (cA_4, 8, .inl (fun _ => 0))), (q_5, .inl (cA_6, 64, .inl (fun _ => 0))), (q_7, .inl (cA_8, 64, .inl fk)), (q_9, .inl (cA_10, 64, .inl (fun _ => 0)))]) hP hD hK [] [0, 1, 2, 3, 4, 5] rfl rfl (by decide) (by decide) hk1 hFc ht hvm hB1
      generalize H1 = H at hP hS ⊢
      have hK : va_K (dC, dI) vwCl [(cA_2, .int), (cA_4, .int), (cA_6, .int), (cA_8, .int), (cA_10, .byte)] s := hK.sub [0, 1, 2, 3, 4] rfl
      have hP : va_P (dC, dI) vwCl [(h0, .inr (12, [.ref q_1, .ref q_3, .ref q_5, .ref q_7, .ref q_9, .int 0, .long 0])), (q_1, .inl (cA_2, 8, .inl fa)), (q_3, .inl (cA_4, 8, .inl (fun _ => 0))), (q_5, .inl (cA_6, 64, .inl (fun _ => 0))), (q_7, .inl (cA_8, 64, .inl fk)), (q_9, .inl (cA_10, 64, .inl (fun _ => 0)))] H := hP
      have hD : va_D A [(h0, .inr (12, [.ref q_1, .ref q_3, .ref q_5, .ref q_7, .ref q_9, .int 0, .long 0])), (q_1, .inl (cA_2, 8, .inl fa)), (q_3, .inl (cA_4, 8, .inl (fun _ => 0))), (q_5, .inl (cA_6, 64, .inl (fun _ => 0))), (q_7, .inl (cA_8, 64, .inl fk)), (q_9, .inl (cA_10, 64, .inl (fun _ => 0)))] := hD
      have hw : True := hw
      have hw_20 := hw
      refine va_iast hx hb hK hP hD hS 4 3 rfl rfl (vp_in_nI (by omega) (by omega)) dX12_init_74 (fun H locs hP hD hS => ?_)
      obtain ⟨f_21, hP, hD⟩ : ∃ f_21 : Nat → Int32, va_P (dC, dI) vwCl [(h0, .inr (12, [.ref q_1, .ref q_3, .ref q_5, .ref q_7, .ref q_9, .int 0, .long 0])), (q_1, .inl (cA_2, 8, .inl fa)), (q_3, .inl (cA_4, 8, .inl (fun _ => 0))), (q_5, .inl (cA_6, 64, .inl (fun _ => 0))), (q_7, .inl (cA_8, 64, .inl f_21)), (q_9, .inl (cA_10, 64, .inl (fun _ => 0)))] H ∧ va_D A [(h0, .inr (12, [.ref q_1, .ref q_3, .ref q_5, .ref q_7, .ref q_9, .int 0, .long 0])), (q_1, .inl (cA_2, 8, .inl fa)), (q_3, .inl (cA_4, 8, .inl (fun _ => 0))), (q_5, .inl (cA_6, 64, .inl (fun _ => 0))), (q_7, .inl (cA_8, 64, .inl f_21)), (q_9, .inl (cA_10, 64, .inl (fun _ => 0)))] := ⟨_, hP, hD⟩
      refine lv_iload_n hx hb dX12_init_75 rfl (lv_at hl 1 rfl) ?_
      refine lv_bipush (v := 8) hx hb dX12_init_76 (by decide) ?_
      refine lv_icmp_ge (tgt := 92) hx hb dX12_init_78 (by decide) (fun c_22 => ?_) (fun c_22 => ?_)
      ·
        have hi_23 : 8 ≤ n1 := leN (N := 8) c_22
        refine lv_iinc (v := (nI (n1 + 1))) (lv' := [(1, .int (nI (n1 + 1))), (2, .int (nI p1)), (0, .ref h0)]) hx hb dX12_init_92 hl (k := 1) rfl (nI_1 _) (by decide) rfl (fun ls hl => ?_)
        refine lv_iinc (v := (nI (p1 + 1))) (lv' := [(2, .int (nI (p1 + 1))), (1, .int (nI (n1 + 1))), (0, .ref h0)]) hx hb dX12_init_95 hl (k := 1) rfl (nI_1 _) (by decide) rfl (fun ls hl => ?_)
        refine lv_goto (tgt := 48) hx hb dX12_init_98 (by decide) ?_
        refine W.widen (k := 5) (n := 208) (by omega) (by omega) ?_
        exact ih_12 ((n1 + 1), (p1 + 1), fa, f_21) (cn1 hv_11 (by omega) hw_17 c_18) (by show 312 - (p1 + 1) < 312 - p1; have := cnx hv_11 (by omega); omega) _ _ (hP.sub [0, 1, 2, 3, 4, 5] rfl) (hD.sub [0, 1, 2, 3, 4, 5] (by decide) rfl) hS ls (lv_sub hl [0, 1, 2] rfl)
      ·
        have hi_24 : n1 < 8 := ltN (N := 8) c_22
        refine lv_aload_n hx hb dX12_init_81 rfl (lv_at hl 2 rfl) ?_
        refine va_get (D := (dC, dI)) (ci := 12) (v := .ref q_1) (C := RX12) (T := TX12) (N := 7) hx hb hts it_12 hown hK hP 0 rfl rfl 0 (by decide) (hts _ kt_289) (fun _ h9 => h9) rfl dX12_init_82 ?_
        refine lv_iload_n hx hb dX12_init_85 rfl (lv_at hl 1 rfl) ?_
        refine lv_iload_n hx hb dX12_init_86 rfl (lv_at hl 0 rfl) ?_
        refine lv_iconst (v := 2) hx hb dX12_init_87 (by decide) ?_
        have hPc := hP.sub (ws' := []) [] rfl
        have hDc := hD.sub (ws' := []) [] (by decide) rfl
        have hKc := hK.sub (tys' := []) [] rfl
        have hFc := va_free (wc := []) hD hS hA [] rfl
        refine va_calli (va_runS (As := [.int (nI p1), .int 2]) (rest := [.int (nI n1), .ref q_1]) ⟨hx, hb, hml, hown, hts⟩ (c_X12_rootOf l dC dI H.size (nI p1) 2 ) ⟨callB_of 2 hts (gi kt_297) rfl rfl rfl (hts _ kt_285) (hts _ kt_298) (by decide +kernel) ⟨Nat.le_of_ble_eq_true rfl, Nat.le_of_ble_eq_true rfl⟩, (hts _ kt_299)⟩ ⟨fun a U g mk q => ⟨q.1, PW.calling q.2⟩, fun U hU hW => ⟨rfl, PW.mk hU hW hPc hKc hDc hE⟩⟩ rfl rfl hl.1 rfl (lv_room (Nat.le_of_ble_eq_true rfl)) dX12_init_88 ⟨by show _ + 0 ≤ 5; omega, by show _ + 0 ≤ 208; omega⟩) hS (fun q _ h => hFc q h) hFc (fun r_25 u t H1 locs ht hvm hw hB hz1 hk1 hS => ?_)
        have hB1 := hB
        obtain ⟨hP, hD, hK⟩ := QW.join (wr := [(h0, .inr (12, [.ref q_1, .ref q_3, .ref q_5, .ref q_7, .ref q_9, .int 0, .long 0])), (q_1, .inl (cA_2, 8, .inl fa)), (q_3, .inl (cA_4, 8, .inl (fun _ => 0))), (q_5, .inl (cA_6, 64, .inl (fun _ => 0))), (q_7, .inl (cA_8, 64, .inl f_21)), (q_9, .inl (cA_10, 64, .inl (fun _ => 0)))]) hP hD hK [] [0, 1, 2, 3, 4, 5] rfl rfl (by decide) (by decide) hk1 hFc ht hvm hB1
        generalize H1 = H at hP hS ⊢
        have hK : va_K (dC, dI) vwCl [(cA_2, .int), (cA_4, .int), (cA_6, .int), (cA_8, .int), (cA_10, .byte)] s := hK.sub [0, 1, 2, 3, 4] rfl
        have hP : va_P (dC, dI) vwCl [(h0, .inr (12, [.ref q_1, .ref q_3, .ref q_5, .ref q_7, .ref q_9, .int 0, .long 0])), (q_1, .inl (cA_2, 8, .inl fa)), (q_3, .inl (cA_4, 8, .inl (fun _ => 0))), (q_5, .inl (cA_6, 64, .inl (fun _ => 0))), (q_7, .inl (cA_8, 64, .inl f_21)), (q_9, .inl (cA_10, 64, .inl (fun _ => 0)))] H := hP
        have hD : va_D A [(h0, .inr (12, [.ref q_1, .ref q_3, .ref q_5, .ref q_7, .ref q_9, .int 0, .long 0])), (q_1, .inl (cA_2, 8, .inl fa)), (q_3, .inl (cA_4, 8, .inl (fun _ => 0))), (q_5, .inl (cA_6, 64, .inl (fun _ => 0))), (q_7, .inl (cA_8, 64, .inl f_21)), (q_9, .inl (cA_10, 64, .inl (fun _ => 0)))] := hD
        have hw : True := hw
        have hw_26 := hw
        refine va_iast hx hb hK hP hD hS 1 0 rfl rfl (vp_in_nI (by omega) (by omega)) dX12_init_91 (fun H locs hP hD hS => ?_)
        obtain ⟨f_27, hP, hD⟩ : ∃ f_27 : Nat → Int32, va_P (dC, dI) vwCl [(h0, .inr (12, [.ref q_1, .ref q_3, .ref q_5, .ref q_7, .ref q_9, .int 0, .long 0])), (q_1, .inl (cA_2, 8, .inl f_27)), (q_3, .inl (cA_4, 8, .inl (fun _ => 0))), (q_5, .inl (cA_6, 64, .inl (fun _ => 0))), (q_7, .inl (cA_8, 64, .inl f_21)), (q_9, .inl (cA_10, 64, .inl (fun _ => 0)))] H ∧ va_D A [(h0, .inr (12, [.ref q_1, .ref q_3, .ref q_5, .ref q_7, .ref q_9, .int 0, .long 0])), (q_1, .inl (cA_2, 8, .inl f_27)), (q_3, .inl (cA_4, 8, .inl (fun _ => 0))), (q_5, .inl (cA_6, 64, .inl (fun _ => 0))), (q_7, .inl (cA_8, 64, .inl f_21)), (q_9, .inl (cA_10, 64, .inl (fun _ => 0)))] := ⟨_, hP, hD⟩
        refine lv_iinc (v := (nI (n1 + 1))) (lv' := [(1, .int (nI (n1 + 1))), (2, .int (nI p1)), (0, .ref h0)]) hx hb dX12_init_92 hl (k := 1) rfl (nI_1 _) (by decide) rfl (fun ls hl => ?_)
        refine lv_iinc (v := (nI (p1 + 1))) (lv' := [(2, .int (nI (p1 + 1))), (1, .int (nI (n1 + 1))), (0, .ref h0)]) hx hb dX12_init_95 hl (k := 1) rfl (nI_1 _) (by decide) rfl (fun ls hl => ?_)
        refine lv_goto (tgt := 48) hx hb dX12_init_98 (by decide) ?_
        refine W.widen (k := 5) (n := 208) (by omega) (by omega) ?_
        exact ih_12 ((n1 + 1), (p1 + 1), f_27, f_21) (cn1 hv_11 (by omega) hw_17 c_18) (by show 312 - (p1 + 1) < 312 - p1; have := cnx hv_11 (by omega); omega) _ _ (hP.sub [0, 1, 2, 3, 4, 5] rfl) (hD.sub [0, 1, 2, 3, 4, 5] (by decide) rfl) hS ls (lv_sub hl [0, 1, 2] rfl)
    ·
      refine lv_goto (tgt := 95) hx hb dX12_init_61 (by decide) ?_
      refine lv_iinc (v := (nI (p1 + 1))) (lv' := [(2, .int (nI (p1 + 1))), (1, .int (nI n1)), (0, .ref h0)]) hx hb dX12_init_95 hl (k := 0) rfl (nI_1 _) (by decide) rfl (fun ls hl => ?_)
      refine lv_goto (tgt := 48) hx hb dX12_init_98 (by decide) ?_
      refine W.widen (k := 5) (n := 208) (by omega) (by omega) ?_
      exact ih_12 (n1, (p1 + 1), fa, fk) (cn0 hv_11 (by omega) hw_17 c_18) (by show 312 - (p1 + 1) < 312 - p1; have := cnx hv_11 (by omega); omega) _ _ (hP.sub [0, 1, 2, 3, 4, 5] rfl) (hD.sub [0, 1, 2, 3, 4, 5] (by decide) rfl) hS ls (lv_sub hl [0, 1, 2] rfl)
set_option maxHeartbeats 4000000 in
set_option maxRecDepth 100000 in
theorem c_X12_round (l : Launch) (dC : Nat → ClassId) (dI : Nat → Nat → Nat) (sz : Nat) (h0 : Nat) (q1 : Nat) (q2 : Nat) (q3 : Nat) (q4 : Nat) (q5 : Nat) (c1 : ClassId) (c2 : ClassId) (c3 : ClassId) (c4 : ClassId) (c5 : ClassId) (f1 : Nat → Int32) (f2 : Nat → Int32) (f3 : Nat → Int32) (f4 : Nat → Int32) (f5 : Nat → Int32) (n0 : Int32) (a0 : Int64) : Met l yX12_round (.code yX12_round cX12_round 12 none :: tb) ({ frames := 1, cells := 0, slots := 0, locals := 21 }) (va_Pc [.ref h0] (PW (dC, dI) sz [(h0, .inr (12, [.ref q1, .ref q2, .ref q3, .ref q4, .ref q5, .int n0, .long a0])), (q1, .inl (c1, 8, .inl f1)), (q2, .inl (c2, 8, .inl f2)), (q3, .inl (c3, 64, .inl f3)), (q4, .inl (c4, 64, .inl f4)), (q5, .inl (c5, 64, .inl f5))] [(c1, .int), (c2, .int), (c3, .int), (c4, .int), (c5, .byte)])) (va_Qv (fun _ : Unit => True) (fun _ T9 => ∃ (g2 : Nat → Int32) (g3 : Nat → Int32), QW (dC, dI) (va_A [(h0, .inr (12, [.ref q1, .ref q2, .ref q3, .ref q4, .ref q5, .int n0, .long a0])), (q1, .inl (c1, 8, .inl f1)), (q2, .inl (c2, 8, .inl f2)), (q3, .inl (c3, 64, .inl f3)), (q4, .inl (c4, 64, .inl f4)), (q5, .inl (c5, 64, .inl f5))] sz) [(h0, .inr (12, [.ref q1, .ref q2, .ref q3, .ref q4, .ref q5, .int n0, .long a0])), (q1, .inl (c1, 8, .inl f1)), (q2, .inl (c2, 8, .inl g2)), (q3, .inl (c3, 64, .inl g3)), (q4, .inl (c4, 64, .inl f4)), (q5, .inl (c5, 64, .inl f5))] [(c1, .int), (c2, .int), (c3, .int), (c4, .int), (c5, .byte)] T9) (va_A [(h0, .inr (12, [.ref q1, .ref q2, .ref q3, .ref q4, .ref q5, .int n0, .long a0])), (q1, .inl (c1, 8, .inl f1)), (q2, .inl (c2, 8, .inl f2)), (q3, .inl (c3, 64, .inl f3)), (q4, .inl (c4, 64, .inl f4)), (q5, .inl (c5, 64, .inl f5))] sz)) 0 0 (va_A [(h0, .inr (12, [.ref q1, .ref q2, .ref q3, .ref q4, .ref q5, .int n0, .long a0])), (q1, .inl (c1, 8, .inl f1)), (q2, .inl (c2, 8, .inl f2)), (q3, .inl (c3, 64, .inl f3)), (q4, .inl (c4, 64, .inl f4)), (q5, .inl (c5, 64, .inl f5))] sz) := by
  refine Met.ofW (cc := cX12_round) (maxL := 12) (ret := none) (by decide) rfl ?_
  intro p e s m args below meth c s₁ B hml hv
  obtain ⟨rfl, hsz, hP, hK, hD0, hE⟩ := hv
  have hx := B.exec
  have hb := B.bytes
  have hr := B.returns
  have hts : ∀ w ∈ tb, w.before _ s = true := fun w h => atoms_spec (ws := .code yX12_round cX12_round 12 none :: tb) B.pre w (List.mem_cons_of_mem _ h)
  have hown : s.vm.findClass RX12 = some m.cls := findClass_of_methodNamed B.named
  have hlocks := B.notSynchronized
  subst hsz
  have hD := hD0.self (sz := s.heap.size)
  generalize hAe : va_A [(h0, .inr (12, [.ref q1, .ref q2, .ref q3, .ref q4, .ref q5, .int n0, .long a0])), (q1, .inl (c1, 8, .inl f1)), (q2, .inl (c2, 8, .inl f2)), (q3, .inl (c3, 64, .inl f3)), (q4, .inl (c4, 64, .inl f4)), (q5, .inl (c5, 64, .inl f5))] s.heap.size = A at hD ⊢
  have hA : ∀ q : Nat, s.heap.size ≤ q → A q := fun q h => by rw [← hAe]; exact Or.inr h
  have hS : va_S A s.heap s.heap [] := va_S.rf
  have hP : va_P (dC, dI) vwCl [(h0, .inr (12, [.ref q1, .ref q2, .ref q3, .ref q4, .ref q5, .int n0, .long a0])), (q1, .inl (c1, 8, .inl f1)), (q2, .inl (c2, 8, .inl f2)), (q3, .inl (c3, 64, .inl f3)), (q4, .inl (c4, 64, .inl f4)), (q5, .inl (c5, 64, .inl f5))] s.heap := hP
  have hl := lv_entry ([.ref h0]) (n := 12) (Nat.le_of_ble_eq_true rfl)
  rw [lg_entry_eq]
  generalize (lg_sl ([.ref h0]) ++ List.replicate (12 - (lg_sl ([.ref h0])).length) Slot.unset).toArray = ls at hl ⊢
  have hl : lv_has ls 12 [(0, .ref h0)] := hl
  refine lv_iconst (v := 0) hx hb dX12_round_0 (by decide) ?_
  refine lv_istore_n (lv' := [(1, .int 0), (0, .ref h0)]) hx hb dX12_round_1 rfl hl (by decide) rfl (fun ls hl => ?_)
  refine W.widen (k := 0) (n := 0) (by omega) (by omega) ?_
  refine wl_loop (σ := Nat × (Nat → Int32)) A (dC, dI) 2 12 (fun (t1, fa) => [(h0, .inr (12, [.ref q1, .ref q2, .ref q3, .ref q4, .ref q5, .int n0, .long a0])), (q1, .inl (c1, 8, .inl f1)), (q2, .inl (c2, 8, .inl f2)), (q3, .inl (c3, 64, .inl fa)), (q4, .inl (c4, 64, .inl f4)), (q5, .inl (c5, 64, .inl f5))]) (fun (t1, fa) => [(1, .int (nI t1)), (0, .ref h0)]) (fun (t1, fa) => []) (fun (t1, fa) => 0) (fun (t1, fa) => 0) (fun (t1, fa) => t1 ≤ 16) (fun (t1, fa) => 16 - t1) ?_ (0, f3) (by first | omega | exact ⟨by omega, by omega⟩) _ _ (hP.sub [0, 1, 2, 3, 4, 5] rfl) (hD.sub [0, 1, 2, 3, 4, 5] (by decide) rfl) hS ls (lv_sub hl [0, 1] rfl)
  rintro ⟨t1, fa⟩ hv_1 ih_2 H locs hP hD hS ls hl
  have hP : va_P (dC, dI) vwCl [(h0, .inr (12, [.ref q1, .ref q2, .ref q3, .ref q4, .ref q5, .int n0, .long a0])), (q1, .inl (c1, 8, .inl f1)), (q2, .inl (c2, 8, .inl f2)), (q3, .inl (c3, 64, .inl fa)), (q4, .inl (c4, 64, .inl f4)), (q5, .inl (c5, 64, .inl f5))] H := hP
  have hD : va_D A [(h0, .inr (12, [.ref q1, .ref q2, .ref q3, .ref q4, .ref q5, .int n0, .long a0])), (q1, .inl (c1, 8, .inl f1)), (q2, .inl (c2, 8, .inl f2)), (q3, .inl (c3, 64, .inl fa)), (q4, .inl (c4, 64, .inl f4)), (q5, .inl (c5, 64, .inl f5))] := hD
  have hl : lv_has ls 12 [(1, .int (nI t1)), (0, .ref h0)] := hl
  have hv_1 : t1 ≤ 16 := hv_1
  refine W.widen (k := 0) (n := 0) (Nat.le_refl _) (Nat.le_refl _) ?_
  refine W.eq (g2 := F0 m 2 ls []) rfl ?_
  refine lv_iload_n hx hb dX12_round_2 rfl (lv_at hl 0 rfl) ?_
  refine lv_bipush (v := 16) hx hb dX12_round_3 (by decide) ?_
  refine lv_icmp_ge (tgt := 82) hx hb dX12_round_5 (by decide) (fun c_3 => ?_) (fun c_3 => ?_)
  ·
    have hi_4 : 16 ≤ t1 := leN (N := 16) c_3
    refine lv_bipush (v := 16) hx hb dX12_round_82 (by decide) ?_
    refine lv_istore_n (lv' := [(1, .int 16), (0, .ref h0)]) hx hb dX12_round_84 rfl hl (by decide) rfl (fun ls hl => ?_)
    refine W.widen (k := 0) (n := 0) (by omega) (by omega) ?_
    refine wl_loop (σ := Nat × (Nat → Int32)) A (dC, dI) 85 12 (fun (t2, fb) => [(h0, .inr (12, [.ref q1, .ref q2, .ref q3, .ref q4, .ref q5, .int n0, .long a0])), (q1, .inl (c1, 8, .inl f1)), (q2, .inl (c2, 8, .inl f2)), (q3, .inl (c3, 64, .inl fb)), (q4, .inl (c4, 64, .inl f4)), (q5, .inl (c5, 64, .inl f5))]) (fun (t2, fb) => [(1, .int (nI t2)), (0, .ref h0)]) (fun (t2, fb) => []) (fun (t2, fb) => 0) (fun (t2, fb) => 0) (fun (t2, fb) => 16 ≤ t2 ∧ t2 ≤ 64) (fun (t2, fb) => 64 - t2) ?_ (16, fa) (by first | omega | exact ⟨by omega, by omega⟩) _ _ (hP.sub [0, 1, 2, 3, 4, 5] rfl) (hD.sub [0, 1, 2, 3, 4, 5] (by decide) rfl) hS ls (lv_sub hl [0, 1] rfl)
    rintro ⟨t2, fb⟩ hv_5 ih_6 H locs hP hD hS ls hl
    have hP : va_P (dC, dI) vwCl [(h0, .inr (12, [.ref q1, .ref q2, .ref q3, .ref q4, .ref q5, .int n0, .long a0])), (q1, .inl (c1, 8, .inl f1)), (q2, .inl (c2, 8, .inl f2)), (q3, .inl (c3, 64, .inl fb)), (q4, .inl (c4, 64, .inl f4)), (q5, .inl (c5, 64, .inl f5))] H := hP
    have hD : va_D A [(h0, .inr (12, [.ref q1, .ref q2, .ref q3, .ref q4, .ref q5, .int n0, .long a0])), (q1, .inl (c1, 8, .inl f1)), (q2, .inl (c2, 8, .inl f2)), (q3, .inl (c3, 64, .inl fb)), (q4, .inl (c4, 64, .inl f4)), (q5, .inl (c5, 64, .inl f5))] := hD
    have hl : lv_has ls 12 [(1, .int (nI t2)), (0, .ref h0)] := hl
    have hv_5 : 16 ≤ t2 ∧ t2 ≤ 64 := hv_5
    refine W.widen (k := 0) (n := 0) (Nat.le_refl _) (Nat.le_refl _) ?_
    refine W.eq (g2 := F0 m 85 ls []) rfl ?_
    obtain ⟨hv1, hv2⟩ := hv_5
    refine lv_iload_n hx hb dX12_round_85 rfl (lv_at hl 0 rfl) ?_
    refine lv_bipush (v := 64) hx hb dX12_round_86 (by decide) ?_
    refine lv_icmp_ge (tgt := 178) hx hb dX12_round_88 (by decide) (fun c_7 => ?_) (fun c_7 => ?_)
    ·
      have hi_8 : 64 ≤ t2 := leN (N := 64) c_7
      refine lv_aload_n hx hb dX12_round_178 rfl (lv_at hl 1 rfl) ?_
      refine va_get (D := (dC, dI)) (ci := 12) (v := .ref q2) (C := RX12) (T := TX12) (N := 7) hx hb hts it_12 hown hK hP 0 rfl rfl 1 (by decide) (hts _ kt_290) (fun _ h9 => h9) rfl dX12_round_179 ?_
      refine lv_iconst (v := 0) hx hb dX12_round_182 (by decide) ?_
      refine va_iald hx hb hK hP 2 1 rfl rfl (show vp_in (0 : Int32) 8 from (show vp_in (nI 0) 8 from vp_in_nI (by omega) (by omega))) dX12_round_183 ?_
      refine lv_topi (fun x_9 _ => ?_)
      refine lv_istore_n (lv' := [(1, .int x_9), (0, .ref h0)]) hx hb dX12_round_184 rfl hl (by decide) rfl (fun ls hl => ?_)
      refine lv_aload_n hx hb dX12_round_185 rfl (lv_at hl 1 rfl) ?_
      refine va_get (D := (dC, dI)) (ci := 12) (v := .ref q2) (C := RX12) (T := TX12) (N := 7) hx hb hts it_12 hown hK hP 0 rfl rfl 1 (by decide) (hts _ kt_290) (fun _ h9 => h9) rfl dX12_round_186 ?_
      refine lv_iconst (v := 1) hx hb dX12_round_189 (by decide) ?_
      refine va_iald hx hb hK hP 2 1 rfl rfl (show vp_in (1 : Int32) 8 from (show vp_in (nI 1) 8 from vp_in_nI (by omega) (by omega))) dX12_round_190 ?_
      refine lv_topi (fun x_10 _ => ?_)
      refine lv_istore_n (lv' := [(2, .int x_10), (1, .int x_9), (0, .ref h0)]) hx hb dX12_round_191 rfl hl (by decide) rfl (fun ls hl => ?_)
      refine lv_aload_n hx hb dX12_round_192 rfl (lv_at hl 2 rfl) ?_
      refine va_get (D := (dC, dI)) (ci := 12) (v := .ref q2) (C := RX12) (T := TX12) (N := 7) hx hb hts it_12 hown hK hP 0 rfl rfl 1 (by decide) (hts _ kt_290) (fun _ h9 => h9) rfl dX12_round_193 ?_
      refine lv_iconst (v := 2) hx hb dX12_round_196 (by decide) ?_
      refine va_iald hx hb hK hP 2 1 rfl rfl (show vp_in (2 : Int32) 8 from (show vp_in (nI 2) 8 from vp_in_nI (by omega) (by omega))) dX12_round_197 ?_
      refine lv_topi (fun x_11 _ => ?_)
      refine lv_istore_n (lv' := [(3, .int x_11), (2, .int x_10), (1, .int x_9), (0, .ref h0)]) hx hb dX12_round_198 rfl hl (by decide) rfl (fun ls hl => ?_)
      refine lv_aload_n hx hb dX12_round_199 rfl (lv_at hl 3 rfl) ?_
      refine va_get (D := (dC, dI)) (ci := 12) (v := .ref q2) (C := RX12) (T := TX12) (N := 7) hx hb hts it_12 hown hK hP 0 rfl rfl 1 (by decide) (hts _ kt_290) (fun _ h9 => h9) rfl dX12_round_200 ?_
      refine lv_iconst (v := 3) hx hb dX12_round_203 (by decide) ?_
      refine va_iald hx hb hK hP 2 1 rfl rfl (show vp_in (3 : Int32) 8 from (show vp_in (nI 3) 8 from vp_in_nI (by omega) (by omega))) dX12_round_204 ?_
      refine lv_topi (fun x_12 _ => ?_)
      refine lv_istore (lv' := [(4, .int x_12), (3, .int x_11), (2, .int x_10), (1, .int x_9), (0, .ref h0)]) hx hb dX12_round_205 hl (by decide) rfl (fun ls hl => ?_)
      refine lv_aload_n hx hb dX12_round_207 rfl (lv_at hl 4 rfl) ?_
      refine va_get (D := (dC, dI)) (ci := 12) (v := .ref q2) (C := RX12) (T := TX12) (N := 7) hx hb hts it_12 hown hK hP 0 rfl rfl 1 (by decide) (hts _ kt_290) (fun _ h9 => h9) rfl dX12_round_208 ?_
      refine lv_iconst (v := 4) hx hb dX12_round_211 (by decide) ?_
      refine va_iald hx hb hK hP 2 1 rfl rfl (show vp_in (4 : Int32) 8 from (show vp_in (nI 4) 8 from vp_in_nI (by omega) (by omega))) dX12_round_212 ?_
      refine lv_topi (fun x_13 _ => ?_)
      refine lv_istore (lv' := [(5, .int x_13), (4, .int x_12), (3, .int x_11), (2, .int x_10), (1, .int x_9), (0, .ref h0)]) hx hb dX12_round_213 hl (by decide) rfl (fun ls hl => ?_)
      refine lv_aload_n hx hb dX12_round_215 rfl (lv_at hl 5 rfl) ?_
      refine va_get (D := (dC, dI)) (ci := 12) (v := .ref q2) (C := RX12) (T := TX12) (N := 7) hx hb hts it_12 hown hK hP 0 rfl rfl 1 (by decide) (hts _ kt_290) (fun _ h9 => h9) rfl dX12_round_216 ?_
      refine lv_iconst (v := 5) hx hb dX12_round_219 (by decide) ?_
      refine va_iald hx hb hK hP 2 1 rfl rfl (show vp_in (5 : Int32) 8 from (show vp_in (nI 5) 8 from vp_in_nI (by omega) (by omega))) dX12_round_220 ?_
      refine lv_topi (fun x_14 _ => ?_)
      refine lv_istore (lv' := [(6, .int x_14), (5, .int x_13), (4, .int x_12), (3, .int x_11), (2, .int x_10), (1, .int x_9), (0, .ref h0)]) hx hb dX12_round_221 hl (by decide) rfl (fun ls hl => ?_)
      refine lv_aload_n hx hb dX12_round_223 rfl (lv_at hl 6 rfl) ?_
      refine va_get (D := (dC, dI)) (ci := 12) (v := .ref q2) (C := RX12) (T := TX12) (N := 7) hx hb hts it_12 hown hK hP 0 rfl rfl 1 (by decide) (hts _ kt_290) (fun _ h9 => h9) rfl dX12_round_224 ?_
      refine lv_bipush (v := 6) hx hb dX12_round_227 (by decide) ?_
      refine va_iald hx hb hK hP 2 1 rfl rfl (show vp_in (6 : Int32) 8 from (show vp_in (nI 6) 8 from vp_in_nI (by omega) (by omega))) dX12_round_229 ?_
      refine lv_topi (fun x_15 _ => ?_)
      refine lv_istore (lv' := [(7, .int x_15), (6, .int x_14), (5, .int x_13), (4, .int x_12), (3, .int x_11), (2, .int x_10), (1, .int x_9), (0, .ref h0)]) hx hb dX12_round_230 hl (by decide) rfl (fun ls hl => ?_)
      refine lv_aload_n hx hb dX12_round_232 rfl (lv_at hl 7 rfl) ?_
      refine va_get (D := (dC, dI)) (ci := 12) (v := .ref q2) (C := RX12) (T := TX12) (N := 7) hx hb hts it_12 hown hK hP 0 rfl rfl 1 (by decide) (hts _ kt_290) (fun _ h9 => h9) rfl dX12_round_233 ?_
      refine lv_bipush (v := 7) hx hb dX12_round_236 (by decide) ?_
      refine va_iald hx hb hK hP 2 1 rfl rfl (show vp_in (7 : Int32) 8 from (show vp_in (nI 7) 8 from vp_in_nI (by omega) (by omega))) dX12_round_238 ?_
      refine lv_topi (fun x_16 _ => ?_)
      refine lv_istore (lv' := [(8, .int x_16), (7, .int x_15), (6, .int x_14), (5, .int x_13), (4, .int x_12), (3, .int x_11), (2, .int x_10), (1, .int x_9), (0, .ref h0)]) hx hb dX12_round_239 hl (by decide) rfl (fun ls hl => ?_)
      refine lv_iconst (v := 0) hx hb dX12_round_241 (by decide) ?_
      refine lv_istore (lv' := [(9, .int 0), (8, .int x_16), (7, .int x_15), (6, .int x_14), (5, .int x_13), (4, .int x_12), (3, .int x_11), (2, .int x_10), (1, .int x_9), (0, .ref h0)]) hx hb dX12_round_242 hl (by decide) rfl (fun ls hl => ?_)
      refine W.widen (k := 0) (n := 0) (by omega) (by omega) ?_
      refine wl_loop (σ := Nat × Int32 × Int32 × Int32 × Int32 × Int32 × Int32 × Int32 × Int32) A (dC, dI) 244 12 (fun (t3, v1, v2, v3, v4, v5, v6, v7, v8) => [(h0, .inr (12, [.ref q1, .ref q2, .ref q3, .ref q4, .ref q5, .int n0, .long a0])), (q1, .inl (c1, 8, .inl f1)), (q2, .inl (c2, 8, .inl f2)), (q3, .inl (c3, 64, .inl fb)), (q4, .inl (c4, 64, .inl f4)), (q5, .inl (c5, 64, .inl f5))]) (fun (t3, v1, v2, v3, v4, v5, v6, v7, v8) => [(9, .int (nI t3)), (8, .int v8), (7, .int v7), (6, .int v6), (5, .int v5), (4, .int v4), (3, .int v3), (2, .int v2), (1, .int v1), (0, .ref h0)]) (fun (t3, v1, v2, v3, v4, v5, v6, v7, v8) => []) (fun (t3, v1, v2, v3, v4, v5, v6, v7, v8) => 0) (fun (t3, v1, v2, v3, v4, v5, v6, v7, v8) => 0) (fun (t3, v1, v2, v3, v4, v5, v6, v7, v8) => t3 ≤ 64) (fun (t3, v1, v2, v3, v4, v5, v6, v7, v8) => 64 - t3) ?_ (0, x_9, x_10, x_11, x_12, x_13, x_14, x_15, x_16) (by first | omega | exact ⟨by omega, by omega⟩) _ _ (hP.sub [0, 1, 2, 3, 4, 5] rfl) (hD.sub [0, 1, 2, 3, 4, 5] (by decide) rfl) hS ls (lv_sub hl [0, 1, 2, 3, 4, 5, 6, 7, 8, 9] rfl)
      rintro ⟨t3, v1, v2, v3, v4, v5, v6, v7, v8⟩ hv_17 ih_18 H locs hP hD hS ls hl
      have hP : va_P (dC, dI) vwCl [(h0, .inr (12, [.ref q1, .ref q2, .ref q3, .ref q4, .ref q5, .int n0, .long a0])), (q1, .inl (c1, 8, .inl f1)), (q2, .inl (c2, 8, .inl f2)), (q3, .inl (c3, 64, .inl fb)), (q4, .inl (c4, 64, .inl f4)), (q5, .inl (c5, 64, .inl f5))] H := hP
      have hD : va_D A [(h0, .inr (12, [.ref q1, .ref q2, .ref q3, .ref q4, .ref q5, .int n0, .long a0])), (q1, .inl (c1, 8, .inl f1)), (q2, .inl (c2, 8, .inl f2)), (q3, .inl (c3, 64, .inl fb)), (q4, .inl (c4, 64, .inl f4)), (q5, .inl (c5, 64, .inl f5))] := hD
      have hl : lv_has ls 12 [(9, .int (nI t3)), (8, .int v8), (7, .int v7), (6, .int v6), (5, .int v5), (4, .int v4), (3, .int v3), (2, .int v2), (1, .int v1), (0, .ref h0)] := hl
      have hv_17 : t3 ≤ 64 := hv_17
      refine W.widen (k := 0) (n := 0) (Nat.le_refl _) (Nat.le_refl _) ?_
      refine W.eq (g2 := F0 m 244 ls []) rfl ?_
      refine lv_iload hx hb dX12_round_244 (lv_at hl 0 rfl) ?_
      refine lv_bipush (v := 64) hx hb dX12_round_246 (by decide) ?_
      refine lv_icmp_ge (tgt := 380) hx hb dX12_round_248 (by decide) (fun c_19 => ?_) (fun c_19 => ?_)
      ·
        have hi_20 : 64 ≤ t3 := leN (N := 64) c_19
        refine lv_aload_n hx hb dX12_round_380 rfl (lv_at hl 9 rfl) ?_
        refine va_get (D := (dC, dI)) (ci := 12) (v := .ref q2) (C := RX12) (T := TX12) (N := 7) hx hb hts it_12 hown hK hP 0 rfl rfl 1 (by decide) (hts _ kt_290) (fun _ h9 => h9) rfl dX12_round_381 ?_
        refine lv_iconst (v := 0) hx hb dX12_round_384 (by decide) ?_
        refine lv_dup2_11 hx hb dX12_round_385 rfl rfl ?_
        refine va_iald hx hb hK hP 2 1 rfl rfl (show vp_in (0 : Int32) 8 from (show vp_in (nI 0) 8 from vp_in_nI (by omega) (by omega))) dX12_round_386 ?_
        refine lv_topi (fun x_21 _ => ?_)
        refine lv_iload_n hx hb dX12_round_387 rfl (lv_at hl 8 rfl) ?_
        refine lv_iadd hx hb dX12_round_388 ?_
        refine lv_topi (fun x_22 _ => ?_)
        refine va_iast hx hb hK hP hD hS 2 1 rfl rfl (show vp_in (0 : Int32) 8 from (show vp_in (nI 0) 8 from vp_in_nI (by omega) (by omega))) dX12_round_389 (fun H locs hP hD hS => ?_)
        obtain ⟨f_23, hP, hD⟩ : ∃ f_23 : Nat → Int32, va_P (dC, dI) vwCl [(h0, .inr (12, [.ref q1, .ref q2, .ref q3, .ref q4, .ref q5, .int n0, .long a0])), (q1, .inl (c1, 8, .inl f1)), (q2, .inl (c2, 8, .inl f_23)), (q3, .inl (c3, 64, .inl fb)), (q4, .inl (c4, 64, .inl f4)), (q5, .inl (c5, 64, .inl f5))] H ∧ va_D A [(h0, .inr (12, [.ref q1, .ref q2, .ref q3, .ref q4, .ref q5, .int n0, .long a0])), (q1, .inl (c1, 8, .inl f1)), (q2, .inl (c2, 8, .inl f_23)), (q3, .inl (c3, 64, .inl fb)), (q4, .inl (c4, 64, .inl f4)), (q5, .inl (c5, 64, .inl f5))] := ⟨_, hP, hD⟩
        refine lv_aload_n hx hb dX12_round_390 rfl (lv_at hl 9 rfl) ?_
        refine va_get (D := (dC, dI)) (ci := 12) (v := .ref q2) (C := RX12) (T := TX12) (N := 7) hx hb hts it_12 hown hK hP 0 rfl rfl 1 (by decide) (hts _ kt_290) (fun _ h9 => h9) rfl dX12_round_391 ?_
        refine lv_iconst (v := 1) hx hb dX12_round_394 (by decide) ?_
        refine lv_dup2_11 hx hb dX12_round_395 rfl rfl ?_
        refine va_iald hx hb hK hP 2 1 rfl rfl (show vp_in (1 : Int32) 8 from (show vp_in (nI 1) 8 from vp_in_nI (by omega) (by omega))) dX12_round_396 ?_
        refine lv_topi (fun x_24 _ => ?_)
        refine lv_iload_n hx hb dX12_round_397 rfl (lv_at hl 7 rfl) ?_
        refine lv_iadd hx hb dX12_round_398 ?_
        refine lv_topi (fun x_25 _ => ?_)
        refine va_iast hx hb hK hP hD hS 2 1 rfl rfl (show vp_in (1 : Int32) 8 from (show vp_in (nI 1) 8 from vp_in_nI (by omega) (by omega))) dX12_round_399 (fun H locs hP hD hS => ?_)
        obtain ⟨f_26, hP, hD⟩ : ∃ f_26 : Nat → Int32, va_P (dC, dI) vwCl [(h0, .inr (12, [.ref q1, .ref q2, .ref q3, .ref q4, .ref q5, .int n0, .long a0])), (q1, .inl (c1, 8, .inl f1)), (q2, .inl (c2, 8, .inl f_26)), (q3, .inl (c3, 64, .inl fb)), (q4, .inl (c4, 64, .inl f4)), (q5, .inl (c5, 64, .inl f5))] H ∧ va_D A [(h0, .inr (12, [.ref q1, .ref q2, .ref q3, .ref q4, .ref q5, .int n0, .long a0])), (q1, .inl (c1, 8, .inl f1)), (q2, .inl (c2, 8, .inl f_26)), (q3, .inl (c3, 64, .inl fb)), (q4, .inl (c4, 64, .inl f4)), (q5, .inl (c5, 64, .inl f5))] := ⟨_, hP, hD⟩
        refine lv_aload_n hx hb dX12_round_400 rfl (lv_at hl 9 rfl) ?_
        refine va_get (D := (dC, dI)) (ci := 12) (v := .ref q2) (C := RX12) (T := TX12) (N := 7) hx hb hts it_12 hown hK hP 0 rfl rfl 1 (by decide) (hts _ kt_290) (fun _ h9 => h9) rfl dX12_round_401 ?_
        refine lv_iconst (v := 2) hx hb dX12_round_404 (by decide) ?_
        refine lv_dup2_11 hx hb dX12_round_405 rfl rfl ?_
        refine va_iald hx hb hK hP 2 1 rfl rfl (show vp_in (2 : Int32) 8 from (show vp_in (nI 2) 8 from vp_in_nI (by omega) (by omega))) dX12_round_406 ?_
        refine lv_topi (fun x_27 _ => ?_)
        refine lv_iload_n hx hb dX12_round_407 rfl (lv_at hl 6 rfl) ?_
        refine lv_iadd hx hb dX12_round_408 ?_
        refine lv_topi (fun x_28 _ => ?_)
        refine va_iast hx hb hK hP hD hS 2 1 rfl rfl (show vp_in (2 : Int32) 8 from (show vp_in (nI 2) 8 from vp_in_nI (by omega) (by omega))) dX12_round_409 (fun H locs hP hD hS => ?_)
        obtain ⟨f_29, hP, hD⟩ : ∃ f_29 : Nat → Int32, va_P (dC, dI) vwCl [(h0, .inr (12, [.ref q1, .ref q2, .ref q3, .ref q4, .ref q5, .int n0, .long a0])), (q1, .inl (c1, 8, .inl f1)), (q2, .inl (c2, 8, .inl f_29)), (q3, .inl (c3, 64, .inl fb)), (q4, .inl (c4, 64, .inl f4)), (q5, .inl (c5, 64, .inl f5))] H ∧ va_D A [(h0, .inr (12, [.ref q1, .ref q2, .ref q3, .ref q4, .ref q5, .int n0, .long a0])), (q1, .inl (c1, 8, .inl f1)), (q2, .inl (c2, 8, .inl f_29)), (q3, .inl (c3, 64, .inl fb)), (q4, .inl (c4, 64, .inl f4)), (q5, .inl (c5, 64, .inl f5))] := ⟨_, hP, hD⟩
        refine lv_aload_n hx hb dX12_round_410 rfl (lv_at hl 9 rfl) ?_
        refine va_get (D := (dC, dI)) (ci := 12) (v := .ref q2) (C := RX12) (T := TX12) (N := 7) hx hb hts it_12 hown hK hP 0 rfl rfl 1 (by decide) (hts _ kt_290) (fun _ h9 => h9) rfl dX12_round_411 ?_
        refine lv_iconst (v := 3) hx hb dX12_round_414 (by decide) ?_
        refine lv_dup2_11 hx hb dX12_round_415 rfl rfl ?_
        refine va_iald hx hb hK hP 2 1 rfl rfl (show vp_in (3 : Int32) 8 from (show vp_in (nI 3) 8 from vp_in_nI (by omega) (by omega))) dX12_round_416 ?_
        refine lv_topi (fun x_30 _ => ?_)
        refine lv_iload hx hb dX12_round_417 (lv_at hl 5 rfl) ?_
        refine lv_iadd hx hb dX12_round_419 ?_
        refine lv_topi (fun x_31 _ => ?_)
        refine va_iast hx hb hK hP hD hS 2 1 rfl rfl (show vp_in (3 : Int32) 8 from (show vp_in (nI 3) 8 from vp_in_nI (by omega) (by omega))) dX12_round_420 (fun H locs hP hD hS => ?_)
        obtain ⟨f_32, hP, hD⟩ : ∃ f_32 : Nat → Int32, va_P (dC, dI) vwCl [(h0, .inr (12, [.ref q1, .ref q2, .ref q3, .ref q4, .ref q5, .int n0, .long a0])), (q1, .inl (c1, 8, .inl f1)), (q2, .inl (c2, 8, .inl f_32)), (q3, .inl (c3, 64, .inl fb)), (q4, .inl (c4, 64, .inl f4)), (q5, .inl (c5, 64, .inl f5))] H ∧ va_D A [(h0, .inr (12, [.ref q1, .ref q2, .ref q3, .ref q4, .ref q5, .int n0, .long a0])), (q1, .inl (c1, 8, .inl f1)), (q2, .inl (c2, 8, .inl f_32)), (q3, .inl (c3, 64, .inl fb)), (q4, .inl (c4, 64, .inl f4)), (q5, .inl (c5, 64, .inl f5))] := ⟨_, hP, hD⟩
        refine lv_aload_n hx hb dX12_round_421 rfl (lv_at hl 9 rfl) ?_
        refine va_get (D := (dC, dI)) (ci := 12) (v := .ref q2) (C := RX12) (T := TX12) (N := 7) hx hb hts it_12 hown hK hP 0 rfl rfl 1 (by decide) (hts _ kt_290) (fun _ h9 => h9) rfl dX12_round_422 ?_
        refine lv_iconst (v := 4) hx hb dX12_round_425 (by decide) ?_
        refine lv_dup2_11 hx hb dX12_round_426 rfl rfl ?_
        refine va_iald hx hb hK hP 2 1 rfl rfl (show vp_in (4 : Int32) 8 from (show vp_in (nI 4) 8 from vp_in_nI (by omega) (by omega))) dX12_round_427 ?_
        refine lv_topi (fun x_33 _ => ?_)
        refine lv_iload hx hb dX12_round_428 (lv_at hl 4 rfl) ?_
        refine lv_iadd hx hb dX12_round_430 ?_
        refine lv_topi (fun x_34 _ => ?_)
        refine va_iast hx hb hK hP hD hS 2 1 rfl rfl (show vp_in (4 : Int32) 8 from (show vp_in (nI 4) 8 from vp_in_nI (by omega) (by omega))) dX12_round_431 (fun H locs hP hD hS => ?_)
        obtain ⟨f_35, hP, hD⟩ : ∃ f_35 : Nat → Int32, va_P (dC, dI) vwCl [(h0, .inr (12, [.ref q1, .ref q2, .ref q3, .ref q4, .ref q5, .int n0, .long a0])), (q1, .inl (c1, 8, .inl f1)), (q2, .inl (c2, 8, .inl f_35)), (q3, .inl (c3, 64, .inl fb)), (q4, .inl (c4, 64, .inl f4)), (q5, .inl (c5, 64, .inl f5))] H ∧ va_D A [(h0, .inr (12, [.ref q1, .ref q2, .ref q3, .ref q4, .ref q5, .int n0, .long a0])), (q1, .inl (c1, 8, .inl f1)), (q2, .inl (c2, 8, .inl f_35)), (q3, .inl (c3, 64, .inl fb)), (q4, .inl (c4, 64, .inl f4)), (q5, .inl (c5, 64, .inl f5))] := ⟨_, hP, hD⟩
        refine lv_aload_n hx hb dX12_round_432 rfl (lv_at hl 9 rfl) ?_
        refine va_get (D := (dC, dI)) (ci := 12) (v := .ref q2) (C := RX12) (T := TX12) (N := 7) hx hb hts it_12 hown hK hP 0 rfl rfl 1 (by decide) (hts _ kt_290) (fun _ h9 => h9) rfl dX12_round_433 ?_
        refine lv_iconst (v := 5) hx hb dX12_round_436 (by decide) ?_
        refine lv_dup2_11 hx hb dX12_round_437 rfl rfl ?_
        refine va_iald hx hb hK hP 2 1 rfl rfl (show vp_in (5 : Int32) 8 from (show vp_in (nI 5) 8 from vp_in_nI (by omega) (by omega))) dX12_round_438 ?_
        refine lv_topi (fun x_36 _ => ?_)
        refine lv_iload hx hb dX12_round_439 (lv_at hl 3 rfl) ?_
        refine lv_iadd hx hb dX12_round_441 ?_
        refine lv_topi (fun x_37 _ => ?_)
        refine va_iast hx hb hK hP hD hS 2 1 rfl rfl (show vp_in (5 : Int32) 8 from (show vp_in (nI 5) 8 from vp_in_nI (by omega) (by omega))) dX12_round_442 (fun H locs hP hD hS => ?_)
        obtain ⟨f_38, hP, hD⟩ : ∃ f_38 : Nat → Int32, va_P (dC, dI) vwCl [(h0, .inr (12, [.ref q1, .ref q2, .ref q3, .ref q4, .ref q5, .int n0, .long a0])), (q1, .inl (c1, 8, .inl f1)), (q2, .inl (c2, 8, .inl f_38)), (q3, .inl (c3, 64, .inl fb)), (q4, .inl (c4, 64, .inl f4)), (q5, .inl (c5, 64, .inl f5))] H ∧ va_D A [(h0, .inr (12, [.ref q1, .ref q2, .ref q3, .ref q4, .ref q5, .int n0, .long a0])), (q1, .inl (c1, 8, .inl f1)), (q2, .inl (c2, 8, .inl f_38)), (q3, .inl (c3, 64, .inl fb)), (q4, .inl (c4, 64, .inl f4)), (q5, .inl (c5, 64, .inl f5))] := ⟨_, hP, hD⟩
        refine lv_aload_n hx hb dX12_round_443 rfl (lv_at hl 9 rfl) ?_
        refine va_get (D := (dC, dI)) (ci := 12) (v := .ref q2) (C := RX12) (T := TX12) (N := 7) hx hb hts it_12 hown hK hP 0 rfl rfl 1 (by decide) (hts _ kt_290) (fun _ h9 => h9) rfl dX12_round_444 ?_
        refine lv_bipush (v := 6) hx hb dX12_round_447 (by decide) ?_
        refine lv_dup2_11 hx hb dX12_round_449 rfl rfl ?_
        refine va_iald hx hb hK hP 2 1 rfl rfl (show vp_in (6 : Int32) 8 from (show vp_in (nI 6) 8 from vp_in_nI (by omega) (by omega))) dX12_round_450 ?_
        refine lv_topi (fun x_39 _ => ?_)
        refine lv_iload hx hb dX12_round_451 (lv_at hl 2 rfl) ?_
        refine lv_iadd hx hb dX12_round_453 ?_
        refine lv_topi (fun x_40 _ => ?_)
        refine va_iast hx hb hK hP hD hS 2 1 rfl rfl (show vp_in (6 : Int32) 8 from (show vp_in (nI 6) 8 from vp_in_nI (by omega) (by omega))) dX12_round_454 (fun H locs hP hD hS => ?_)
        obtain ⟨f_41, hP, hD⟩ : ∃ f_41 : Nat → Int32, va_P (dC, dI) vwCl [(h0, .inr (12, [.ref q1, .ref q2, .ref q3, .ref q4, .ref q5, .int n0, .long a0])), (q1, .inl (c1, 8, .inl f1)), (q2, .inl (c2, 8, .inl f_41)), (q3, .inl (c3, 64, .inl fb)), (q4, .inl (c4, 64, .inl f4)), (q5, .inl (c5, 64, .inl f5))] H ∧ va_D A [(h0, .inr (12, [.ref q1, .ref q2, .ref q3, .ref q4, .ref q5, .int n0, .long a0])), (q1, .inl (c1, 8, .inl f1)), (q2, .inl (c2, 8, .inl f_41)), (q3, .inl (c3, 64, .inl fb)), (q4, .inl (c4, 64, .inl f4)), (q5, .inl (c5, 64, .inl f5))] := ⟨_, hP, hD⟩
        refine lv_aload_n hx hb dX12_round_455 rfl (lv_at hl 9 rfl) ?_
        refine va_get (D := (dC, dI)) (ci := 12) (v := .ref q2) (C := RX12) (T := TX12) (N := 7) hx hb hts it_12 hown hK hP 0 rfl rfl 1 (by decide) (hts _ kt_290) (fun _ h9 => h9) rfl dX12_round_456 ?_
        refine lv_bipush (v := 7) hx hb dX12_round_459 (by decide) ?_
        refine lv_dup2_11 hx hb dX12_round_461 rfl rfl ?_
        refine va_iald hx hb hK hP 2 1 rfl rfl (show vp_in (7 : Int32) 8 from (show vp_in (nI 7) 8 from vp_in_nI (by omega) (by omega))) dX12_round_462 ?_
        refine lv_topi (fun x_42 _ => ?_)
        refine lv_iload hx hb dX12_round_463 (lv_at hl 1 rfl) ?_
        refine lv_iadd hx hb dX12_round_465 ?_
        refine lv_topi (fun x_43 _ => ?_)
        refine va_iast hx hb hK hP hD hS 2 1 rfl rfl (show vp_in (7 : Int32) 8 from (show vp_in (nI 7) 8 from vp_in_nI (by omega) (by omega))) dX12_round_466 (fun H locs hP hD hS => ?_)
        obtain ⟨f_44, hP, hD⟩ : ∃ f_44 : Nat → Int32, va_P (dC, dI) vwCl [(h0, .inr (12, [.ref q1, .ref q2, .ref q3, .ref q4, .ref q5, .int n0, .long a0])), (q1, .inl (c1, 8, .inl f1)), (q2, .inl (c2, 8, .inl f_44)), (q3, .inl (c3, 64, .inl fb)), (q4, .inl (c4, 64, .inl f4)), (q5, .inl (c5, 64, .inl f5))] H ∧ va_D A [(h0, .inr (12, [.ref q1, .ref q2, .ref q3, .ref q4, .ref q5, .int n0, .long a0])), (q1, .inl (c1, 8, .inl f1)), (q2, .inl (c2, 8, .inl f_44)), (q3, .inl (c3, 64, .inl fb)), (q4, .inl (c4, 64, .inl f4)), (q5, .inl (c5, 64, .inl f5))] := ⟨_, hP, hD⟩
        have hP9 := hP.sub (ws' := [(h0, .inr (12, [.ref q1, .ref q2, .ref q3, .ref q4, .ref q5, .int n0, .long a0])), (q1, .inl (c1, 8, .inl f1)), (q2, .inl (c2, 8, .inl f_44)), (q3, .inl (c3, 64, .inl fb)), (q4, .inl (c4, 64, .inl f4)), (q5, .inl (c5, 64, .inl f5))]) [0, 1, 2, 3, 4, 5] rfl
        have hD9 := hD.sub (ws' := [(h0, .inr (12, [.ref q1, .ref q2, .ref q3, .ref q4, .ref q5, .int n0, .long a0])), (q1, .inl (c1, 8, .inl f1)), (q2, .inl (c2, 8, .inl f_44)), (q3, .inl (c3, 64, .inl fb)), (q4, .inl (c4, 64, .inl f4)), (q5, .inl (c5, 64, .inl f5))]) [0, 1, 2, 3, 4, 5] (by decide) rfl
        have hK9 := hK.sub (tys' := [(c1, .int), (c2, .int), (c3, .int), (c4, .int), (c5, .byte)]) [0, 1, 2, 3, 4] rfl
        refine W.widen (k := 0) (n := 0) (by omega) (by omega) ?_
        exact W.vret hx hb hr (fun t ht hW => ⟨⟨(), rfl, trivial, ⟨f_44, fb, QW.mk ht hW hP9 hK9 hD9⟩⟩, hS.F ht⟩) hS.2.2 dX12_round_467
      ·
        have hi_45 : t3 < 64 := ltN (N := 64) c_19
        refine lv_iload hx hb dX12_round_251 (lv_at hl 1 rfl) ?_
        refine lv_iload hx hb dX12_round_253 (lv_at hl 4 rfl) ?_
        refine lv_bipush (v := 6) hx hb dX12_round_255 (by decide) ?_
        have hPc := hP.sub (ws' := []) [] rfl
        have hDc := hD.sub (ws' := []) [] (by decide) rfl
        have hKc := hK.sub (tys' := []) [] rfl
        have hFc := va_free (wc := []) hD hS hA [] rfl
        refine va_calli (va_runS (As := [.int v5, .int 6]) (rest := [.int v8]) ⟨hx, hb, hml, hown, hts⟩ (c_J6_rotateRight_7cf53 l dC dI H.size v5 6 ) ⟨callB_of 2 hts (gi kt_300) rfl rfl rfl (hts _ kt_301) (hts _ kt_302) (by decide +kernel) ⟨Nat.le_of_ble_eq_true rfl, Nat.le_of_ble_eq_true rfl⟩, (hts _ kt_303)⟩ ⟨fun a U g mk q => ⟨q.1, PW.calling q.2⟩, fun U hU hW => ⟨rfl, PW.mk hU hW hPc hKc hDc hE⟩⟩ rfl rfl hl.1 rfl (lv_room (Nat.le_of_ble_eq_true rfl)) dX12_round_257 ⟨by show _ + 0 ≤ 0; omega, by show _ + 0 ≤ 0; omega⟩) hS (fun q _ h => hFc q h) hFc (fun r_46 u t H1 locs ht hvm hw hB hz1 hk1 hS => ?_)
        have hB1 := hB
        obtain ⟨hP, hD, hK⟩ := QW.join (wr := [(h0, .inr (12, [.ref q1, .ref q2, .ref q3, .ref q4, .ref q5, .int n0, .long a0])), (q1, .inl (c1, 8, .inl f1)), (q2, .inl (c2, 8, .inl f2)), (q3, .inl (c3, 64, .inl fb)), (q4, .inl (c4, 64, .inl f4)), (q5, .inl (c5, 64, .inl f5))]) hP hD hK [] [0, 1, 2, 3, 4, 5] rfl rfl (by decide) (by decide) hk1 hFc ht hvm hB1
        generalize H1 = H at hP hS ⊢
        have hK : va_K (dC, dI) vwCl [(c1, .int), (c2, .int), (c3, .int), (c4, .int), (c5, .byte)] s := hK.sub [0, 1, 2, 3, 4] rfl
        have hP : va_P (dC, dI) vwCl [(h0, .inr (12, [.ref q1, .ref q2, .ref q3, .ref q4, .ref q5, .int n0, .long a0])), (q1, .inl (c1, 8, .inl f1)), (q2, .inl (c2, 8, .inl f2)), (q3, .inl (c3, 64, .inl fb)), (q4, .inl (c4, 64, .inl f4)), (q5, .inl (c5, 64, .inl f5))] H := hP
        have hD : va_D A [(h0, .inr (12, [.ref q1, .ref q2, .ref q3, .ref q4, .ref q5, .int n0, .long a0])), (q1, .inl (c1, 8, .inl f1)), (q2, .inl (c2, 8, .inl f2)), (q3, .inl (c3, 64, .inl fb)), (q4, .inl (c4, 64, .inl f4)), (q5, .inl (c5, 64, .inl f5))] := hD
        have hw : True := hw
        have hw_47 := hw
        refine lv_iload hx hb dX12_round_260 (lv_at hl 4 rfl) ?_
        refine lv_bipush (v := 11) hx hb dX12_round_262 (by decide) ?_
        have hPc := hP.sub (ws' := []) [] rfl
        have hDc := hD.sub (ws' := []) [] (by decide) rfl
        have hKc := hK.sub (tys' := []) [] rfl
        have hFc := va_free (wc := []) hD hS hA [] rfl
        refine va_calli (va_runS (As := [.int v5, .int 11]) (rest := [.int r_46, .int v8]) ⟨hx, hb, hml, hown, hts⟩ (c_J6_rotateRight_7cf53 l dC dI H.size v5 11 ) ⟨callB_of 2 hts (gi kt_300) rfl rfl rfl (hts _ kt_301) (hts _ kt_302) (by decide +kernel) ⟨Nat.le_of_ble_eq_true rfl, Nat.le_of_ble_eq_true rfl⟩, (hts _ kt_303)⟩ ⟨fun a U g mk q => ⟨q.1, PW.calling q.2⟩, fun U hU hW => ⟨rfl, PW.mk hU hW hPc hKc hDc hE⟩⟩ rfl rfl hl.1 rfl (lv_room (Nat.le_of_ble_eq_true rfl)) dX12_round_264 ⟨by show _ + 0 ≤ 0; omega, by show _ + 0 ≤ 0; omega⟩) hS (fun q _ h => hFc q h) hFc (fun r_48 u t H1 locs ht hvm hw hB hz1 hk1 hS => ?_)
        have hB1 := hB
        obtain ⟨hP, hD, hK⟩ := QW.join (wr := [(h0, .inr (12, [.ref q1, .ref q2, .ref q3, .ref q4, .ref q5, .int n0, .long a0])), (q1, .inl (c1, 8, .inl f1)), (q2, .inl (c2, 8, .inl f2)), (q3, .inl (c3, 64, .inl fb)), (q4, .inl (c4, 64, .inl f4)), (q5, .inl (c5, 64, .inl f5))]) hP hD hK [] [0, 1, 2, 3, 4, 5] rfl rfl (by decide) (by decide) hk1 hFc ht hvm hB1
        generalize H1 = H at hP hS ⊢
        have hK : va_K (dC, dI) vwCl [(c1, .int), (c2, .int), (c3, .int), (c4, .int), (c5, .byte)] s := hK.sub [0, 1, 2, 3, 4] rfl
        have hP : va_P (dC, dI) vwCl [(h0, .inr (12, [.ref q1, .ref q2, .ref q3, .ref q4, .ref q5, .int n0, .long a0])), (q1, .inl (c1, 8, .inl f1)), (q2, .inl (c2, 8, .inl f2)), (q3, .inl (c3, 64, .inl fb)), (q4, .inl (c4, 64, .inl f4)), (q5, .inl (c5, 64, .inl f5))] H := hP
        have hD : va_D A [(h0, .inr (12, [.ref q1, .ref q2, .ref q3, .ref q4, .ref q5, .int n0, .long a0])), (q1, .inl (c1, 8, .inl f1)), (q2, .inl (c2, 8, .inl f2)), (q3, .inl (c3, 64, .inl fb)), (q4, .inl (c4, 64, .inl f4)), (q5, .inl (c5, 64, .inl f5))] := hD
        have hw : True := hw
        have hw_49 := hw
        refine lv_ixor hx hb dX12_round_267 ?_
        refine lv_topi (fun x_50 _ => ?_)
        refine lv_iload hx hb dX12_round_268 (lv_at hl 4 rfl) ?_
        refine lv_bipush (v := 25) hx hb dX12_round_270 (by decide) ?_
        have hPc := hP.sub (ws' := []) [] rfl
        have hDc := hD.sub (ws' := []) [] (by decide) rfl
        have hKc := hK.sub (tys' := []) [] rfl
        have hFc := va_free (wc := []) hD hS hA [] rfl
        refine va_calli (va_runS (As := [.int v5, .int 25]) (rest := [.int x_50, .int v8]) ⟨hx, hb, hml, hown, hts⟩ (c_J6_rotateRight_7cf53 l dC dI H.size v5 25 ) ⟨callB_of 2 hts (gi kt_300) rfl rfl rfl (hts _ kt_301) (hts _ kt_302) (by decide +kernel) ⟨Nat.le_of_ble_eq_true rfl, Nat.le_of_ble_eq_true rfl⟩, (hts _ kt_303)⟩ ⟨fun a U g mk q => ⟨q.1, PW.calling q.2⟩, fun U hU hW => ⟨rfl, PW.mk hU hW hPc hKc hDc hE⟩⟩ rfl rfl hl.1 rfl (lv_room (Nat.le_of_ble_eq_true rfl)) dX12_round_272 ⟨by show _ + 0 ≤ 0; omega, by show _ + 0 ≤ 0; omega⟩) hS (fun q _ h => hFc q h) hFc (fun r_51 u t H1 locs ht hvm hw hB hz1 hk1 hS => ?_)
        have hB1 := hB
        obtain ⟨hP, hD, hK⟩ := QW.join (wr := [(h0, .inr (12, [.ref q1, .ref q2, .ref q3, .ref q4, .ref q5, .int n0, .long a0])), (q1, .inl (c1, 8, .inl f1)), (q2, .inl (c2, 8, .inl f2)), (q3, .inl (c3, 64, .inl fb)), (q4, .inl (c4, 64, .inl f4)), (q5, .inl (c5, 64, .inl f5))]) hP hD hK [] [0, 1, 2, 3, 4, 5] rfl rfl (by decide) (by decide) hk1 hFc ht hvm hB1
        generalize H1 = H at hP hS ⊢
        have hK : va_K (dC, dI) vwCl [(c1, .int), (c2, .int), (c3, .int), (c4, .int), (c5, .byte)] s := hK.sub [0, 1, 2, 3, 4] rfl
        have hP : va_P (dC, dI) vwCl [(h0, .inr (12, [.ref q1, .ref q2, .ref q3, .ref q4, .ref q5, .int n0, .long a0])), (q1, .inl (c1, 8, .inl f1)), (q2, .inl (c2, 8, .inl f2)), (q3, .inl (c3, 64, .inl fb)), (q4, .inl (c4, 64, .inl f4)), (q5, .inl (c5, 64, .inl f5))] H := hP
        have hD : va_D A [(h0, .inr (12, [.ref q1, .ref q2, .ref q3, .ref q4, .ref q5, .int n0, .long a0])), (q1, .inl (c1, 8, .inl f1)), (q2, .inl (c2, 8, .inl f2)), (q3, .inl (c3, 64, .inl fb)), (q4, .inl (c4, 64, .inl f4)), (q5, .inl (c5, 64, .inl f5))] := hD
        have hw : True := hw
        have hw_52 := hw
        refine lv_ixor hx hb dX12_round_275 ?_
        refine lv_topi (fun x_53 _ => ?_)
        refine lv_iadd hx hb dX12_round_276 ?_
        refine lv_topi (fun x_54 _ => ?_)
        refine lv_iload hx hb dX12_round_277 (lv_at hl 4 rfl) ?_
        refine lv_iload hx hb dX12_round_279 (lv_at hl 3 rfl) ?_
        refine lv_iand hx hb dX12_round_281 ?_
        refine lv_topi (fun x_55 _ => ?_)
        refine lv_iload hx hb dX12_round_282 (lv_at hl 4 rfl) ?_
        refine lv_iconst (v := (-1)) hx hb dX12_round_284 (by decide) ?_
        refine lv_ixor hx hb dX12_round_285 ?_
        refine lv_topi (fun x_56 _ => ?_)
        refine lv_iload hx hb dX12_round_286 (lv_at hl 2 rfl) ?_
        refine lv_iand hx hb dX12_round_288 ?_
        refine lv_topi (fun x_57 _ => ?_)
        refine lv_ixor hx hb dX12_round_289 ?_
        refine lv_topi (fun x_58 _ => ?_)
        refine lv_iadd hx hb dX12_round_290 ?_
        refine lv_topi (fun x_59 _ => ?_)
        refine lv_aload_n hx hb dX12_round_291 rfl (lv_at hl 9 rfl) ?_
        refine va_get (D := (dC, dI)) (ci := 12) (v := .ref q4) (C := RX12) (T := TX12) (N := 7) hx hb hts it_12 hown hK hP 0 rfl rfl 3 (by decide) (hts _ kt_292) (fun _ h9 => h9) rfl dX12_round_292 ?_
        refine lv_iload hx hb dX12_round_295 (lv_at hl 0 rfl) ?_
        refine va_iald hx hb hK hP 4 3 rfl rfl (vp_in_nI (by omega) (by omega)) dX12_round_297 ?_
        refine lv_topi (fun x_60 _ => ?_)
        refine lv_iadd hx hb dX12_round_298 ?_
        refine lv_topi (fun x_61 _ => ?_)
        refine lv_aload_n hx hb dX12_round_299 rfl (lv_at hl 9 rfl) ?_
        refine va_get (D := (dC, dI)) (ci := 12) (v := .ref q3) (C := RX12) (T := TX12) (N := 7) hx hb hts it_12 hown hK hP 0 rfl rfl 2 (by decide) (hts _ kt_291) (fun _ h9 => h9) rfl dX12_round_300 ?_
        refine lv_iload hx hb dX12_round_303 (lv_at hl 0 rfl) ?_
        refine va_iald hx hb hK hP 3 2 rfl rfl (vp_in_nI (by omega) (by omega)) dX12_round_305 ?_
        refine lv_topi (fun x_62 _ => ?_)
        refine lv_iadd hx hb dX12_round_306 ?_
        refine lv_topi (fun x_63 _ => ?_)
        refine lv_istore (lv' := [(10, .int x_63), (9, .int (nI t3)), (8, .int v8), (7, .int v7), (6, .int v6), (5, .int v5), (4, .int v4), (3, .int v3), (2, .int v2), (1, .int v1), (0, .ref h0)]) hx hb dX12_round_307 hl (by decide) rfl (fun ls hl => ?_)
        refine lv_iload_n hx hb dX12_round_309 rfl (lv_at hl 9 rfl) ?_
        refine lv_iconst (v := 2) hx hb dX12_round_310 (by decide) ?_
        have hPc := hP.sub (ws' := []) [] rfl
        have hDc := hD.sub (ws' := []) [] (by decide) rfl
        have hKc := hK.sub (tys' := []) [] rfl
        have hFc := va_free (wc := []) hD hS hA [] rfl
        refine va_calli (va_runS (As := [.int v1, .int 2]) (rest := []) ⟨hx, hb, hml, hown, hts⟩ (c_J6_rotateRight_7cf53 l dC dI H.size v1 2 ) ⟨callB_of 2 hts (gi kt_300) rfl rfl rfl (hts _ kt_301) (hts _ kt_302) (by decide +kernel) ⟨Nat.le_of_ble_eq_true rfl, Nat.le_of_ble_eq_true rfl⟩, (hts _ kt_303)⟩ ⟨fun a U g mk q => ⟨q.1, PW.calling q.2⟩, fun U hU hW => ⟨rfl, PW.mk hU hW hPc hKc hDc hE⟩⟩ rfl rfl hl.1 rfl (lv_room (Nat.le_of_ble_eq_true rfl)) dX12_round_311 ⟨by show _ + 0 ≤ 0; omega, by show _ + 0 ≤ 0; omega⟩) hS (fun q _ h => hFc q h) hFc (fun r_64 u t H1 locs ht hvm hw hB hz1 hk1 hS => ?_)
        have hB1 := hB
        obtain ⟨hP, hD, hK⟩ := QW.join (wr := [(h0, .inr (12, [.ref q1, .ref q2, .ref q3, .ref q4, .ref q5, .int n0, .long a0])), (q1, .inl (c1, 8, .inl f1)), (q2, .inl (c2, 8, .inl f2)), (q3, .inl (c3, 64, .inl fb)), (q4, .inl (c4, 64, .inl f4)), (q5, .inl (c5, 64, .inl f5))]) hP hD hK [] [0, 1, 2, 3, 4, 5] rfl rfl (by decide) (by decide) hk1 hFc ht hvm hB1
        generalize H1 = H at hP hS ⊢
        have hK : va_K (dC, dI) vwCl [(c1, .int), (c2, .int), (c3, .int), (c4, .int), (c5, .byte)] s := hK.sub [0, 1, 2, 3, 4] rfl
        have hP : va_P (dC, dI) vwCl [(h0, .inr (12, [.ref q1, .ref q2, .ref q3, .ref q4, .ref q5, .int n0, .long a0])), (q1, .inl (c1, 8, .inl f1)), (q2, .inl (c2, 8, .inl f2)), (q3, .inl (c3, 64, .inl fb)), (q4, .inl (c4, 64, .inl f4)), (q5, .inl (c5, 64, .inl f5))] H := hP
        have hD : va_D A [(h0, .inr (12, [.ref q1, .ref q2, .ref q3, .ref q4, .ref q5, .int n0, .long a0])), (q1, .inl (c1, 8, .inl f1)), (q2, .inl (c2, 8, .inl f2)), (q3, .inl (c3, 64, .inl fb)), (q4, .inl (c4, 64, .inl f4)), (q5, .inl (c5, 64, .inl f5))] := hD
        have hw : True := hw
        have hw_65 := hw
        refine lv_iload_n hx hb dX12_round_314 rfl (lv_at hl 9 rfl) ?_
        refine lv_bipush (v := 13) hx hb dX12_round_315 (by decide) ?_
        have hPc := hP.sub (ws' := []) [] rfl
        have hDc := hD.sub (ws' := []) [] (by decide) rfl
        have hKc := hK.sub (tys' := []) [] rfl
        have hFc := va_free (wc := []) hD hS hA [] rfl
        refine va_calli (va_runS (As := [.int v1, .int 13]) (rest := [.int r_64]) ⟨hx, hb, hml, hown, hts⟩ (c_J6_rotateRight_7cf53 l dC dI H.size v1 13 ) ⟨callB_of 2 hts (gi kt_300) rfl rfl rfl (hts _ kt_301) (hts _ kt_302) (by decide +kernel) ⟨Nat.le_of_ble_eq_true rfl, Nat.le_of_ble_eq_true rfl⟩, (hts _ kt_303)⟩ ⟨fun a U g mk q => ⟨q.1, PW.calling q.2⟩, fun U hU hW => ⟨rfl, PW.mk hU hW hPc hKc hDc hE⟩⟩ rfl rfl hl.1 rfl (lv_room (Nat.le_of_ble_eq_true rfl)) dX12_round_317 ⟨by show _ + 0 ≤ 0; omega, by show _ + 0 ≤ 0; omega⟩) hS (fun q _ h => hFc q h) hFc (fun r_66 u t H1 locs ht hvm hw hB hz1 hk1 hS => ?_)
        have hB1 := hB
        obtain ⟨hP, hD, hK⟩ := QW.join (wr := [(h0, .inr (12, [.ref q1, .ref q2, .ref q3, .ref q4, .ref q5, .int n0, .long a0])), (q1, .inl (c1, 8, .inl f1)), (q2, .inl (c2, 8, .inl f2)), (q3, .inl (c3, 64, .inl fb)), (q4, .inl (c4, 64, .inl f4)), (q5, .inl (c5, 64, .inl f5))]) hP hD hK [] [0, 1, 2, 3, 4, 5] rfl rfl (by decide) (by decide) hk1 hFc ht hvm hB1
        generalize H1 = H at hP hS ⊢
        have hK : va_K (dC, dI) vwCl [(c1, .int), (c2, .int), (c3, .int), (c4, .int), (c5, .byte)] s := hK.sub [0, 1, 2, 3, 4] rfl
        have hP : va_P (dC, dI) vwCl [(h0, .inr (12, [.ref q1, .ref q2, .ref q3, .ref q4, .ref q5, .int n0, .long a0])), (q1, .inl (c1, 8, .inl f1)), (q2, .inl (c2, 8, .inl f2)), (q3, .inl (c3, 64, .inl fb)), (q4, .inl (c4, 64, .inl f4)), (q5, .inl (c5, 64, .inl f5))] H := hP
        have hD : va_D A [(h0, .inr (12, [.ref q1, .ref q2, .ref q3, .ref q4, .ref q5, .int n0, .long a0])), (q1, .inl (c1, 8, .inl f1)), (q2, .inl (c2, 8, .inl f2)), (q3, .inl (c3, 64, .inl fb)), (q4, .inl (c4, 64, .inl f4)), (q5, .inl (c5, 64, .inl f5))] := hD
        have hw : True := hw
        have hw_67 := hw
        refine lv_ixor hx hb dX12_round_320 ?_
        refine lv_topi (fun x_68 _ => ?_)
        refine lv_iload_n hx hb dX12_round_321 rfl (lv_at hl 9 rfl) ?_
        refine lv_bipush (v := 22) hx hb dX12_round_322 (by decide) ?_
        have hPc := hP.sub (ws' := []) [] rfl
        have hDc := hD.sub (ws' := []) [] (by decide) rfl
        have hKc := hK.sub (tys' := []) [] rfl
        have hFc := va_free (wc := []) hD hS hA [] rfl
        refine va_calli (va_runS (As := [.int v1, .int 22]) (rest := [.int x_68]) ⟨hx, hb, hml, hown, hts⟩ (c_J6_rotateRight_7cf53 l dC dI H.size v1 22 ) ⟨callB_of 2 hts (gi kt_300) rfl rfl rfl (hts _ kt_301) (hts _ kt_302) (by decide +kernel) ⟨Nat.le_of_ble_eq_true rfl, Nat.le_of_ble_eq_true rfl⟩, (hts _ kt_303)⟩ ⟨fun a U g mk q => ⟨q.1, PW.calling q.2⟩, fun U hU hW => ⟨rfl, PW.mk hU hW hPc hKc hDc hE⟩⟩ rfl rfl hl.1 rfl (lv_room (Nat.le_of_ble_eq_true rfl)) dX12_round_324 ⟨by show _ + 0 ≤ 0; omega, by show _ + 0 ≤ 0; omega⟩) hS (fun q _ h => hFc q h) hFc (fun r_69 u t H1 locs ht hvm hw hB hz1 hk1 hS => ?_)
        have hB1 := hB
        obtain ⟨hP, hD, hK⟩ := QW.join (wr := [(h0, .inr (12, [.ref q1, .ref q2, .ref q3, .ref q4, .ref q5, .int n0, .long a0])), (q1, .inl (c1, 8, .inl f1)), (q2, .inl (c2, 8, .inl f2)), (q3, .inl (c3, 64, .inl fb)), (q4, .inl (c4, 64, .inl f4)), (q5, .inl (c5, 64, .inl f5))]) hP hD hK [] [0, 1, 2, 3, 4, 5] rfl rfl (by decide) (by decide) hk1 hFc ht hvm hB1
        generalize H1 = H at hP hS ⊢
        have hK : va_K (dC, dI) vwCl [(c1, .int), (c2, .int), (c3, .int), (c4, .int), (c5, .byte)] s := hK.sub [0, 1, 2, 3, 4] rfl
        have hP : va_P (dC, dI) vwCl [(h0, .inr (12, [.ref q1, .ref q2, .ref q3, .ref q4, .ref q5, .int n0, .long a0])), (q1, .inl (c1, 8, .inl f1)), (q2, .inl (c2, 8, .inl f2)), (q3, .inl (c3, 64, .inl fb)), (q4, .inl (c4, 64, .inl f4)), (q5, .inl (c5, 64, .inl f5))] H := hP
        have hD : va_D A [(h0, .inr (12, [.ref q1, .ref q2, .ref q3, .ref q4, .ref q5, .int n0, .long a0])), (q1, .inl (c1, 8, .inl f1)), (q2, .inl (c2, 8, .inl f2)), (q3, .inl (c3, 64, .inl fb)), (q4, .inl (c4, 64, .inl f4)), (q5, .inl (c5, 64, .inl f5))] := hD
        have hw : True := hw
        have hw_70 := hw
        refine lv_ixor hx hb dX12_round_327 ?_
        refine lv_topi (fun x_71 _ => ?_)
        refine lv_iload_n hx hb dX12_round_328 rfl (lv_at hl 9 rfl) ?_
        refine lv_iload_n hx hb dX12_round_329 rfl (lv_at hl 8 rfl) ?_
        refine lv_iand hx hb dX12_round_330 ?_
        refine lv_topi (fun x_72 _ => ?_)
        refine lv_iload_n hx hb dX12_round_331 rfl (lv_at hl 9 rfl) ?_
        refine lv_iload_n hx hb dX12_round_332 rfl (lv_at hl 7 rfl) ?_
        refine lv_iand hx hb dX12_round_333 ?_
        refine lv_topi (fun x_73 _ => ?_)
        refine lv_ixor hx hb dX12_round_334 ?_
        refine lv_topi (fun x_74 _ => ?_)
        refine lv_iload_n hx hb dX12_round_335 rfl (lv_at hl 8 rfl) ?_
        refine lv_iload_n hx hb dX12_round_336 rfl (lv_at hl 7 rfl) ?_
        refine lv_iand hx hb dX12_round_337 ?_
        refine lv_topi (fun x_75 _ => ?_)
        refine lv_ixor hx hb dX12_round_338 ?_
        refine lv_topi (fun x_76 _ => ?_)
        refine lv_iadd hx hb dX12_round_339 ?_
        refine lv_topi (fun x_77 _ => ?_)
        refine lv_istore (lv' := [(11, .int x_77), (10, .int x_63), (9, .int (nI t3)), (8, .int v8), (7, .int v7), (6, .int v6), (5, .int v5), (4, .int v4), (3, .int v3), (2, .int v2), (1, .int v1), (0, .ref h0)]) hx hb dX12_round_340 hl (by decide) rfl (fun ls hl => ?_)
        refine lv_iload hx hb dX12_round_342 (lv_at hl 4 rfl) ?_
        refine lv_istore (lv' := [(8, .int v7), (11, .int x_77), (10, .int x_63), (9, .int (nI t3)), (7, .int v7), (6, .int v6), (5, .int v5), (4, .int v4), (3, .int v3), (2, .int v2), (1, .int v1), (0, .ref h0)]) hx hb dX12_round_344 hl (by decide) rfl (fun ls hl => ?_)
        refine lv_iload hx hb dX12_round_346 (lv_at hl 5 rfl) ?_
        refine lv_istore (lv' := [(7, .int v6), (8, .int v7), (11, .int x_77), (10, .int x_63), (9, .int (nI t3)), (6, .int v6), (5, .int v5), (4, .int v4), (3, .int v3), (2, .int v2), (1, .int v1), (0, .ref h0)]) hx hb dX12_round_348 hl (by decide) rfl (fun ls hl => ?_)
        refine lv_iload hx hb dX12_round_350 (lv_at hl 6 rfl) ?_
        refine lv_istore (lv' := [(6, .int v5), (7, .int v6), (8, .int v7), (11, .int x_77), (10, .int x_63), (9, .int (nI t3)), (5, .int v5), (4, .int v4), (3, .int v3), (2, .int v2), (1, .int v1), (0, .ref h0)]) hx hb dX12_round_352 hl (by decide) rfl (fun ls hl => ?_)
        refine lv_iload hx hb dX12_round_354 (lv_at hl 7 rfl) ?_
        refine lv_iload hx hb dX12_round_356 (lv_at hl 4 rfl) ?_
        refine lv_iadd hx hb dX12_round_358 ?_
        refine lv_topi (fun x_78 _ => ?_)
        refine lv_istore (lv' := [(5, .int x_78), (6, .int v5), (7, .int v6), (8, .int v7), (11, .int x_77), (10, .int x_63), (9, .int (nI t3)), (4, .int v4), (3, .int v3), (2, .int v2), (1, .int v1), (0, .ref h0)]) hx hb dX12_round_359 hl (by decide) rfl (fun ls hl => ?_)
        refine lv_iload_n hx hb dX12_round_361 rfl (lv_at hl 8 rfl) ?_
        refine lv_istore (lv' := [(4, .int v3), (5, .int x_78), (6, .int v5), (7, .int v6), (8, .int v7), (11, .int x_77), (10, .int x_63), (9, .int (nI t3)), (3, .int v3), (2, .int v2), (1, .int v1), (0, .ref h0)]) hx hb dX12_round_362 hl (by decide) rfl (fun ls hl => ?_)
        refine lv_iload_n hx hb dX12_round_364 rfl (lv_at hl 9 rfl) ?_
        refine lv_istore_n (lv' := [(3, .int v2), (4, .int v3), (5, .int x_78), (6, .int v5), (7, .int v6), (8, .int v7), (11, .int x_77), (10, .int x_63), (9, .int (nI t3)), (2, .int v2), (1, .int v1), (0, .ref h0)]) hx hb dX12_round_365 rfl hl (by decide) rfl (fun ls hl => ?_)
        refine lv_iload_n hx hb dX12_round_366 rfl (lv_at hl 10 rfl) ?_
        refine lv_istore_n (lv' := [(2, .int v1), (3, .int v2), (4, .int v3), (5, .int x_78), (6, .int v5), (7, .int v6), (8, .int v7), (11, .int x_77), (10, .int x_63), (9, .int (nI t3)), (1, .int v1), (0, .ref h0)]) hx hb dX12_round_367 rfl hl (by decide) rfl (fun ls hl => ?_)
        refine lv_iload hx hb dX12_round_368 (lv_at hl 8 rfl) ?_
        refine lv_iload hx hb dX12_round_370 (lv_at hl 7 rfl) ?_
        refine lv_iadd hx hb dX12_round_372 ?_
        refine lv_topi (fun x_79 _ => ?_)
        refine lv_istore_n (lv' := [(1, .int x_79), (2, .int v1), (3, .int v2), (4, .int v3), (5, .int x_78), (6, .int v5), (7, .int v6), (8, .int v7), (11, .int x_77), (10, .int x_63), (9, .int (nI t3)), (0, .ref h0)]) hx hb dX12_round_373 rfl hl (by decide) rfl (fun ls hl => ?_)
        refine lv_iinc (v := (nI (t3 + 1))) (lv' := [(9, .int (nI (t3 + 1))), (1, .int x_79), (2, .int v1), (3, .int v2), (4, .int v3), (5, .int x_78), (6, .int v5), (7, .int v6), (8, .int v7), (11, .int x_77), (10, .int x_63), (0, .ref h0)]) hx hb dX12_round_374 hl (k := 10) rfl (nI_1 _) (by decide) rfl (fun ls hl => ?_)
        refine lv_goto (tgt := 244) hx hb dX12_round_377 (by decide) ?_
        refine W.widen (k := 0) (n := 0) (by omega) (by omega) ?_
        exact ih_18 ((t3 + 1), x_79, v1, v2, v3, x_78, v5, v6, v7) (by first | omega | exact ⟨by omega, by omega⟩) (by show 64 - (t3 + 1) < 64 - t3; omega) _ _ (hP.sub [0, 1, 2, 3, 4, 5] rfl) (hD.sub [0, 1, 2, 3, 4, 5] (by decide) rfl) hS ls (lv_sub hl [0, 8, 7, 6, 5, 4, 3, 2, 1, 11] rfl)
    ·
      have hi_80 : t2 < 64 := ltN (N := 64) c_7
      refine lv_aload_n hx hb dX12_round_91 rfl (lv_at hl 1 rfl) ?_
      refine va_get (D := (dC, dI)) (ci := 12) (v := .ref q3) (C := RX12) (T := TX12) (N := 7) hx hb hts it_12 hown hK hP 0 rfl rfl 2 (by decide) (hts _ kt_291) (fun _ h9 => h9) rfl dX12_round_92 ?_
      refine lv_iload_n hx hb dX12_round_95 rfl (lv_at hl 0 rfl) ?_
      refine lv_bipush (v := 15) hx hb dX12_round_96 (by decide) ?_
      refine lv_isub hx hb dX12_round_98 ?_
      refine lv_topi (fun x_81 ex_81 => ?_)
      obtain rfl : x_81 = (nI (t2 - 15)) := ex_81.trans (pk_sub (b := 15) (by omega))
      refine va_iald hx hb hK hP 3 2 rfl rfl (vp_in_nI (by omega) (by omega)) dX12_round_99 ?_
      refine lv_topi (fun x_82 _ => ?_)
      refine lv_istore_n (lv' := [(2, .int x_82), (1, .int (nI t2)), (0, .ref h0)]) hx hb dX12_round_100 rfl hl (by decide) rfl (fun ls hl => ?_)
      refine lv_aload_n hx hb dX12_round_101 rfl (lv_at hl 2 rfl) ?_
      refine va_get (D := (dC, dI)) (ci := 12) (v := .ref q3) (C := RX12) (T := TX12) (N := 7) hx hb hts it_12 hown hK hP 0 rfl rfl 2 (by decide) (hts _ kt_291) (fun _ h9 => h9) rfl dX12_round_102 ?_
      refine lv_iload_n hx hb dX12_round_105 rfl (lv_at hl 1 rfl) ?_
      refine lv_iconst (v := 2) hx hb dX12_round_106 (by decide) ?_
      refine lv_isub hx hb dX12_round_107 ?_
      refine lv_topi (fun x_83 ex_83 => ?_)
      obtain rfl : x_83 = (nI (t2 - 2)) := ex_83.trans (pk_sub (b := 2) (by omega))
      refine va_iald hx hb hK hP 3 2 rfl rfl (vp_in_nI (by omega) (by omega)) dX12_round_108 ?_
      refine lv_topi (fun x_84 _ => ?_)
      refine lv_istore_n (lv' := [(3, .int x_84), (2, .int x_82), (1, .int (nI t2)), (0, .ref h0)]) hx hb dX12_round_109 rfl hl (by decide) rfl (fun ls hl => ?_)
      refine lv_aload_n hx hb dX12_round_110 rfl (lv_at hl 3 rfl) ?_
      refine va_get (D := (dC, dI)) (ci := 12) (v := .ref q3) (C := RX12) (T := TX12) (N := 7) hx hb hts it_12 hown hK hP 0 rfl rfl 2 (by decide) (hts _ kt_291) (fun _ h9 => h9) rfl dX12_round_111 ?_
      refine lv_iload_n hx hb dX12_round_114 rfl (lv_at hl 2 rfl) ?_
      refine lv_aload_n hx hb dX12_round_115 rfl (lv_at hl 3 rfl) ?_
      refine va_get (D := (dC, dI)) (ci := 12) (v := .ref q3) (C := RX12) (T := TX12) (N := 7) hx hb hts it_12 hown hK hP 0 rfl rfl 2 (by decide) (hts _ kt_291) (fun _ h9 => h9) rfl dX12_round_116 ?_
      refine lv_iload_n hx hb dX12_round_119 rfl (lv_at hl 2 rfl) ?_
      refine lv_bipush (v := 16) hx hb dX12_round_120 (by decide) ?_
      refine lv_isub hx hb dX12_round_122 ?_
      refine lv_topi (fun x_85 ex_85 => ?_)
      obtain rfl : x_85 = (nI (t2 - 16)) := ex_85.trans (pk_sub (b := 16) (by omega))
      refine va_iald hx hb hK hP 3 2 rfl rfl (vp_in_nI (by omega) (by omega)) dX12_round_123 ?_
      refine lv_topi (fun x_86 _ => ?_)
      refine lv_iload_n hx hb dX12_round_124 rfl (lv_at hl 1 rfl) ?_
      refine lv_bipush (v := 7) hx hb dX12_round_125 (by decide) ?_
      have hPc := hP.sub (ws' := []) [] rfl
      have hDc := hD.sub (ws' := []) [] (by decide) rfl
      have hKc := hK.sub (tys' := []) [] rfl
      have hFc := va_free (wc := []) hD hS hA [] rfl
      refine va_calli (va_runS (As := [.int x_82, .int 7]) (rest := [.int x_86, .int (nI t2), .ref q3]) ⟨hx, hb, hml, hown, hts⟩ (c_J6_rotateRight_7cf53 l dC dI H.size x_82 7 ) ⟨callB_of 2 hts (gi kt_300) rfl rfl rfl (hts _ kt_301) (hts _ kt_302) (by decide +kernel) ⟨Nat.le_of_ble_eq_true rfl, Nat.le_of_ble_eq_true rfl⟩, (hts _ kt_303)⟩ ⟨fun a U g mk q => ⟨q.1, PW.calling q.2⟩, fun U hU hW => ⟨rfl, PW.mk hU hW hPc hKc hDc hE⟩⟩ rfl rfl hl.1 rfl (lv_room (Nat.le_of_ble_eq_true rfl)) dX12_round_127 ⟨by show _ + 0 ≤ 0; omega, by show _ + 0 ≤ 0; omega⟩) hS (fun q _ h => hFc q h) hFc (fun r_87 u t H1 locs ht hvm hw hB hz1 hk1 hS => ?_)
      have hB1 := hB
      obtain ⟨hP, hD, hK⟩ := QW.join (wr := [(h0, .inr (12, [.ref q1, .ref q2, .ref q3, .ref q4, .ref q5, .int n0, .long a0])), (q1, .inl (c1, 8, .inl f1)), (q2, .inl (c2, 8, .inl f2)), (q3, .inl (c3, 64, .inl fb)), (q4, .inl (c4, 64, .inl f4)), (q5, .inl (c5, 64, .inl f5))]) hP hD hK [] [0, 1, 2, 3, 4, 5] rfl rfl (by decide) (by decide) hk1 hFc ht hvm hB1
      generalize H1 = H at hP hS ⊢
      have hK : va_K (dC, dI) vwCl [(c1, .int), (c2, .int), (c3, .int), (c4, .int), (c5, .byte)] s := hK.sub [0, 1, 2, 3, 4] rfl
      have hP : va_P (dC, dI) vwCl [(h0, .inr (12, [.ref q1, .ref q2, .ref q3, .ref q4, .ref q5, .int n0, .long a0])), (q1, .inl (c1, 8, .inl f1)), (q2, .inl (c2, 8, .inl f2)), (q3, .inl (c3, 64, .inl fb)), (q4, .inl (c4, 64, .inl f4)), (q5, .inl (c5, 64, .inl f5))] H := hP
      have hD : va_D A [(h0, .inr (12, [.ref q1, .ref q2, .ref q3, .ref q4, .ref q5, .int n0, .long a0])), (q1, .inl (c1, 8, .inl f1)), (q2, .inl (c2, 8, .inl f2)), (q3, .inl (c3, 64, .inl fb)), (q4, .inl (c4, 64, .inl f4)), (q5, .inl (c5, 64, .inl f5))] := hD
      have hw : True := hw
      have hw_88 := hw
      refine lv_iload_n hx hb dX12_round_130 rfl (lv_at hl 1 rfl) ?_
      refine lv_bipush (v := 18) hx hb dX12_round_131 (by decide) ?_
      have hPc := hP.sub (ws' := []) [] rfl
      have hDc := hD.sub (ws' := []) [] (by decide) rfl
      have hKc := hK.sub (tys' := []) [] rfl
      have hFc := va_free (wc := []) hD hS hA [] rfl
      refine va_calli (va_runS (As := [.int x_82, .int 18]) (rest := [.int r_87, .int x_86, .int (nI t2), .ref q3]) ⟨hx, hb, hml, hown, hts⟩ (c_J6_rotateRight_7cf53 l dC dI H.size x_82 18 ) ⟨callB_of 2 hts (gi kt_300) rfl rfl rfl (hts _ kt_301) (hts _ kt_302) (by decide +kernel) ⟨Nat.le_of_ble_eq_true rfl, Nat.le_of_ble_eq_true rfl⟩, (hts _ kt_303)⟩ ⟨fun a U g mk q => ⟨q.1, PW.calling q.2⟩, fun U hU hW => ⟨rfl, PW.mk hU hW hPc hKc hDc hE⟩⟩ rfl rfl hl.1 rfl (lv_room (Nat.le_of_ble_eq_true rfl)) dX12_round_133 ⟨by show _ + 0 ≤ 0; omega, by show _ + 0 ≤ 0; omega⟩) hS (fun q _ h => hFc q h) hFc (fun r_89 u t H1 locs ht hvm hw hB hz1 hk1 hS => ?_)
      have hB1 := hB
      obtain ⟨hP, hD, hK⟩ := QW.join (wr := [(h0, .inr (12, [.ref q1, .ref q2, .ref q3, .ref q4, .ref q5, .int n0, .long a0])), (q1, .inl (c1, 8, .inl f1)), (q2, .inl (c2, 8, .inl f2)), (q3, .inl (c3, 64, .inl fb)), (q4, .inl (c4, 64, .inl f4)), (q5, .inl (c5, 64, .inl f5))]) hP hD hK [] [0, 1, 2, 3, 4, 5] rfl rfl (by decide) (by decide) hk1 hFc ht hvm hB1
      generalize H1 = H at hP hS ⊢
      have hK : va_K (dC, dI) vwCl [(c1, .int), (c2, .int), (c3, .int), (c4, .int), (c5, .byte)] s := hK.sub [0, 1, 2, 3, 4] rfl
      have hP : va_P (dC, dI) vwCl [(h0, .inr (12, [.ref q1, .ref q2, .ref q3, .ref q4, .ref q5, .int n0, .long a0])), (q1, .inl (c1, 8, .inl f1)), (q2, .inl (c2, 8, .inl f2)), (q3, .inl (c3, 64, .inl fb)), (q4, .inl (c4, 64, .inl f4)), (q5, .inl (c5, 64, .inl f5))] H := hP
      have hD : va_D A [(h0, .inr (12, [.ref q1, .ref q2, .ref q3, .ref q4, .ref q5, .int n0, .long a0])), (q1, .inl (c1, 8, .inl f1)), (q2, .inl (c2, 8, .inl f2)), (q3, .inl (c3, 64, .inl fb)), (q4, .inl (c4, 64, .inl f4)), (q5, .inl (c5, 64, .inl f5))] := hD
      have hw : True := hw
      have hw_90 := hw
      refine lv_ixor hx hb dX12_round_136 ?_
      refine lv_topi (fun x_91 _ => ?_)
      refine lv_iload_n hx hb dX12_round_137 rfl (lv_at hl 1 rfl) ?_
      refine lv_iconst (v := 3) hx hb dX12_round_138 (by decide) ?_
      refine lv_iushr hx hb dX12_round_139 rfl ?_
      refine lv_topi (fun x_93 _ => ?_)
      refine lv_ixor hx hb dX12_round_140 ?_
      refine lv_topi (fun x_94 _ => ?_)
      refine lv_iadd hx hb dX12_round_141 ?_
      refine lv_topi (fun x_95 _ => ?_)
      refine lv_aload_n hx hb dX12_round_142 rfl (lv_at hl 3 rfl) ?_
      refine va_get (D := (dC, dI)) (ci := 12) (v := .ref q3) (C := RX12) (T := TX12) (N := 7) hx hb hts it_12 hown hK hP 0 rfl rfl 2 (by decide) (hts _ kt_291) (fun _ h9 => h9) rfl dX12_round_143 ?_
      refine lv_iload_n hx hb dX12_round_146 rfl (lv_at hl 2 rfl) ?_
      refine lv_bipush (v := 7) hx hb dX12_round_147 (by decide) ?_
      refine lv_isub hx hb dX12_round_149 ?_
      refine lv_topi (fun x_96 ex_96 => ?_)
      obtain rfl : x_96 = (nI (t2 - 7)) := ex_96.trans (pk_sub (b := 7) (by omega))
      refine va_iald hx hb hK hP 3 2 rfl rfl (vp_in_nI (by omega) (by omega)) dX12_round_150 ?_
      refine lv_topi (fun x_97 _ => ?_)
      refine lv_iadd hx hb dX12_round_151 ?_
      refine lv_topi (fun x_98 _ => ?_)
      refine lv_iload_n hx hb dX12_round_152 rfl (lv_at hl 0 rfl) ?_
      refine lv_bipush (v := 17) hx hb dX12_round_153 (by decide) ?_
      have hPc := hP.sub (ws' := []) [] rfl
      have hDc := hD.sub (ws' := []) [] (by decide) rfl
      have hKc := hK.sub (tys' := []) [] rfl
      have hFc := va_free (wc := []) hD hS hA [] rfl
      refine va_calli (va_runS (As := [.int x_84, .int 17]) (rest := [.int x_98, .int (nI t2), .ref q3]) ⟨hx, hb, hml, hown, hts⟩ (c_J6_rotateRight_7cf53 l dC dI H.size x_84 17 ) ⟨callB_of 2 hts (gi kt_300) rfl rfl rfl (hts _ kt_301) (hts _ kt_302) (by decide +kernel) ⟨Nat.le_of_ble_eq_true rfl, Nat.le_of_ble_eq_true rfl⟩, (hts _ kt_303)⟩ ⟨fun a U g mk q => ⟨q.1, PW.calling q.2⟩, fun U hU hW => ⟨rfl, PW.mk hU hW hPc hKc hDc hE⟩⟩ rfl rfl hl.1 rfl (lv_room (Nat.le_of_ble_eq_true rfl)) dX12_round_155 ⟨by show _ + 0 ≤ 0; omega, by show _ + 0 ≤ 0; omega⟩) hS (fun q _ h => hFc q h) hFc (fun r_99 u t H1 locs ht hvm hw hB hz1 hk1 hS => ?_)
      have hB1 := hB
      obtain ⟨hP, hD, hK⟩ := QW.join (wr := [(h0, .inr (12, [.ref q1, .ref q2, .ref q3, .ref q4, .ref q5, .int n0, .long a0])), (q1, .inl (c1, 8, .inl f1)), (q2, .inl (c2, 8, .inl f2)), (q3, .inl (c3, 64, .inl fb)), (q4, .inl (c4, 64, .inl f4)), (q5, .inl (c5, 64, .inl f5))]) hP hD hK [] [0, 1, 2, 3, 4, 5] rfl rfl (by decide) (by decide) hk1 hFc ht hvm hB1
      generalize H1 = H at hP hS ⊢
      have hK : va_K (dC, dI) vwCl [(c1, .int), (c2, .int), (c3, .int), (c4, .int), (c5, .byte)] s := hK.sub [0, 1, 2, 3, 4] rfl
      have hP : va_P (dC, dI) vwCl [(h0, .inr (12, [.ref q1, .ref q2, .ref q3, .ref q4, .ref q5, .int n0, .long a0])), (q1, .inl (c1, 8, .inl f1)), (q2, .inl (c2, 8, .inl f2)), (q3, .inl (c3, 64, .inl fb)), (q4, .inl (c4, 64, .inl f4)), (q5, .inl (c5, 64, .inl f5))] H := hP
      have hD : va_D A [(h0, .inr (12, [.ref q1, .ref q2, .ref q3, .ref q4, .ref q5, .int n0, .long a0])), (q1, .inl (c1, 8, .inl f1)), (q2, .inl (c2, 8, .inl f2)), (q3, .inl (c3, 64, .inl fb)), (q4, .inl (c4, 64, .inl f4)), (q5, .inl (c5, 64, .inl f5))] := hD
      have hw : True := hw
      have hw_100 := hw
      refine lv_iload_n hx hb dX12_round_158 rfl (lv_at hl 0 rfl) ?_
      refine lv_bipush (v := 19) hx hb dX12_round_159 (by decide) ?_
      have hPc := hP.sub (ws' := []) [] rfl
      have hDc := hD.sub (ws' := []) [] (by decide) rfl
      have hKc := hK.sub (tys' := []) [] rfl
      have hFc := va_free (wc := []) hD hS hA [] rfl
      refine va_calli (va_runS (As := [.int x_84, .int 19]) (rest := [.int r_99, .int x_98, .int (nI t2), .ref q3]) ⟨hx, hb, hml, hown, hts⟩ (c_J6_rotateRight_7cf53 l dC dI H.size x_84 19 ) ⟨callB_of 2 hts (gi kt_300) rfl rfl rfl (hts _ kt_301) (hts _ kt_302) (by decide +kernel) ⟨Nat.le_of_ble_eq_true rfl, Nat.le_of_ble_eq_true rfl⟩, (hts _ kt_303)⟩ ⟨fun a U g mk q => ⟨q.1, PW.calling q.2⟩, fun U hU hW => ⟨rfl, PW.mk hU hW hPc hKc hDc hE⟩⟩ rfl rfl hl.1 rfl (lv_room (Nat.le_of_ble_eq_true rfl)) dX12_round_161 ⟨by show _ + 0 ≤ 0; omega, by show _ + 0 ≤ 0; omega⟩) hS (fun q _ h => hFc q h) hFc (fun r_101 u t H1 locs ht hvm hw hB hz1 hk1 hS => ?_)
      have hB1 := hB
      obtain ⟨hP, hD, hK⟩ := QW.join (wr := [(h0, .inr (12, [.ref q1, .ref q2, .ref q3, .ref q4, .ref q5, .int n0, .long a0])), (q1, .inl (c1, 8, .inl f1)), (q2, .inl (c2, 8, .inl f2)), (q3, .inl (c3, 64, .inl fb)), (q4, .inl (c4, 64, .inl f4)), (q5, .inl (c5, 64, .inl f5))]) hP hD hK [] [0, 1, 2, 3, 4, 5] rfl rfl (by decide) (by decide) hk1 hFc ht hvm hB1
      generalize H1 = H at hP hS ⊢
      have hK : va_K (dC, dI) vwCl [(c1, .int), (c2, .int), (c3, .int), (c4, .int), (c5, .byte)] s := hK.sub [0, 1, 2, 3, 4] rfl
      have hP : va_P (dC, dI) vwCl [(h0, .inr (12, [.ref q1, .ref q2, .ref q3, .ref q4, .ref q5, .int n0, .long a0])), (q1, .inl (c1, 8, .inl f1)), (q2, .inl (c2, 8, .inl f2)), (q3, .inl (c3, 64, .inl fb)), (q4, .inl (c4, 64, .inl f4)), (q5, .inl (c5, 64, .inl f5))] H := hP
      have hD : va_D A [(h0, .inr (12, [.ref q1, .ref q2, .ref q3, .ref q4, .ref q5, .int n0, .long a0])), (q1, .inl (c1, 8, .inl f1)), (q2, .inl (c2, 8, .inl f2)), (q3, .inl (c3, 64, .inl fb)), (q4, .inl (c4, 64, .inl f4)), (q5, .inl (c5, 64, .inl f5))] := hD
      have hw : True := hw
      have hw_102 := hw
      refine lv_ixor hx hb dX12_round_164 ?_
      refine lv_topi (fun x_103 _ => ?_)
      refine lv_iload_n hx hb dX12_round_165 rfl (lv_at hl 0 rfl) ?_
      refine lv_bipush (v := 10) hx hb dX12_round_166 (by decide) ?_
      refine lv_iushr hx hb dX12_round_168 rfl ?_
      refine lv_topi (fun x_105 _ => ?_)
      refine lv_ixor hx hb dX12_round_169 ?_
      refine lv_topi (fun x_106 _ => ?_)
      refine lv_iadd hx hb dX12_round_170 ?_
      refine lv_topi (fun x_107 _ => ?_)
      refine va_iast hx hb hK hP hD hS 3 2 rfl rfl (vp_in_nI (by omega) (by omega)) dX12_round_171 (fun H locs hP hD hS => ?_)
      obtain ⟨f_108, hP, hD⟩ : ∃ f_108 : Nat → Int32, va_P (dC, dI) vwCl [(h0, .inr (12, [.ref q1, .ref q2, .ref q3, .ref q4, .ref q5, .int n0, .long a0])), (q1, .inl (c1, 8, .inl f1)), (q2, .inl (c2, 8, .inl f2)), (q3, .inl (c3, 64, .inl f_108)), (q4, .inl (c4, 64, .inl f4)), (q5, .inl (c5, 64, .inl f5))] H ∧ va_D A [(h0, .inr (12, [.ref q1, .ref q2, .ref q3, .ref q4, .ref q5, .int n0, .long a0])), (q1, .inl (c1, 8, .inl f1)), (q2, .inl (c2, 8, .inl f2)), (q3, .inl (c3, 64, .inl f_108)), (q4, .inl (c4, 64, .inl f4)), (q5, .inl (c5, 64, .inl f5))] := ⟨_, hP, hD⟩
      refine lv_iinc (v := (nI (t2 + 1))) (lv' := [(1, .int (nI (t2 + 1))), (3, .int x_84), (2, .int x_82), (0, .ref h0)]) hx hb dX12_round_172 hl (k := 2) rfl (nI_1 _) (by decide) rfl (fun ls hl => ?_)
      refine lv_goto (tgt := 85) hx hb dX12_round_175 (by decide) ?_
      refine W.widen (k := 0) (n := 0) (by omega) (by omega) ?_
      exact ih_6 ((t2 + 1), f_108) (by first | omega | exact ⟨by omega, by omega⟩) (by show 64 - (t2 + 1) < 64 - t2; omega) _ _ (hP.sub [0, 1, 2, 3, 4, 5] rfl) (hD.sub [0, 1, 2, 3, 4, 5] (by decide) rfl) hS ls (lv_sub hl [0, 3] rfl)
  ·
    have hi_109 : t1 < 16 := ltN (N := 16) c_3
    refine lv_aload_n hx hb dX12_round_8 rfl (lv_at hl 1 rfl) ?_
    refine va_get (D := (dC, dI)) (ci := 12) (v := .ref q3) (C := RX12) (T := TX12) (N := 7) hx hb hts it_12 hown hK hP 0 rfl rfl 2 (by decide) (hts _ kt_291) (fun _ h9 => h9) rfl dX12_round_9 ?_
    refine lv_iload_n hx hb dX12_round_12 rfl (lv_at hl 0 rfl) ?_
    refine lv_aload_n hx hb dX12_round_13 rfl (lv_at hl 1 rfl) ?_
    refine va_get (D := (dC, dI)) (ci := 12) (v := .ref q5) (C := RX12) (T := TX12) (N := 7) hx hb hts it_12 hown hK hP 0 rfl rfl 4 (by decide) (hts _ kt_293) (fun _ h9 => h9) rfl dX12_round_14 ?_
    refine lv_iconst (v := 4) hx hb dX12_round_17 (by decide) ?_
    refine lv_iload_n hx hb dX12_round_18 rfl (lv_at hl 0 rfl) ?_
    refine lv_imul hx hb dX12_round_19 ?_
    refine lv_topi (fun x_110 ex_110 => ?_)
    obtain rfl : x_110 = (nI (4 * t1)) := ex_110.trans (pk_mul 4 t1)
    refine va_bald hx hb hK hP 5 4 rfl rfl (vp_in_nI (by omega) (by omega)) dX12_round_20 ?_
    refine lv_topi (fun x_111 _ => ?_)
    refine lv_bipush (v := 24) hx hb dX12_round_21 (by decide) ?_
    refine lv_ishl hx hb dX12_round_23 ?_
    refine lv_topi (fun x_112 _ => ?_)
    refine lv_aload_n hx hb dX12_round_24 rfl (lv_at hl 1 rfl) ?_
    refine va_get (D := (dC, dI)) (ci := 12) (v := .ref q5) (C := RX12) (T := TX12) (N := 7) hx hb hts it_12 hown hK hP 0 rfl rfl 4 (by decide) (hts _ kt_293) (fun _ h9 => h9) rfl dX12_round_25 ?_
    refine lv_iconst (v := 4) hx hb dX12_round_28 (by decide) ?_
    refine lv_iload_n hx hb dX12_round_29 rfl (lv_at hl 0 rfl) ?_
    refine lv_imul hx hb dX12_round_30 ?_
    refine lv_topi (fun x_113 ex_113 => ?_)
    obtain rfl : x_113 = (nI (4 * t1)) := ex_113.trans (pk_mul 4 t1)
    refine lv_iconst (v := 1) hx hb dX12_round_31 (by decide) ?_
    refine lv_iadd hx hb dX12_round_32 ?_
    refine lv_topi (fun x_114 ex_114 => ?_)
    obtain rfl : x_114 = (nI (4 * t1 + 1)) := ex_114.trans (nI_add (4 * t1) 1)
    refine va_bald hx hb hK hP 5 4 rfl rfl (vp_in_nI (by omega) (by omega)) dX12_round_33 ?_
    refine lv_topi (fun x_115 _ => ?_)
    refine lv_sipush (v := 255) hx hb dX12_round_34 (by decide) ?_
    refine lv_iand hx hb dX12_round_37 ?_
    refine lv_topi (fun x_116 _ => ?_)
    refine lv_bipush (v := 16) hx hb dX12_round_38 (by decide) ?_
    refine lv_ishl hx hb dX12_round_40 ?_
    refine lv_topi (fun x_117 _ => ?_)
    refine lv_ior hx hb dX12_round_41 ?_
    refine lv_topi (fun x_118 _ => ?_)
    refine lv_aload_n hx hb dX12_round_42 rfl (lv_at hl 1 rfl) ?_
    refine va_get (D := (dC, dI)) (ci := 12) (v := .ref q5) (C := RX12) (T := TX12) (N := 7) hx hb hts it_12 hown hK hP 0 rfl rfl 4 (by decide) (hts _ kt_293) (fun _ h9 => h9) rfl dX12_round_43 ?_
    refine lv_iconst (v := 4) hx hb dX12_round_46 (by decide) ?_
    refine lv_iload_n hx hb dX12_round_47 rfl (lv_at hl 0 rfl) ?_
    refine lv_imul hx hb dX12_round_48 ?_
    refine lv_topi (fun x_119 ex_119 => ?_)
    obtain rfl : x_119 = (nI (4 * t1)) := ex_119.trans (pk_mul 4 t1)
    refine lv_iconst (v := 2) hx hb dX12_round_49 (by decide) ?_
    refine lv_iadd hx hb dX12_round_50 ?_
    refine lv_topi (fun x_120 ex_120 => ?_)
    obtain rfl : x_120 = (nI (4 * t1 + 2)) := ex_120.trans (nI_add (4 * t1) 2)
    refine va_bald hx hb hK hP 5 4 rfl rfl (vp_in_nI (by omega) (by omega)) dX12_round_51 ?_
    refine lv_topi (fun x_121 _ => ?_)
    refine lv_sipush (v := 255) hx hb dX12_round_52 (by decide) ?_
    refine lv_iand hx hb dX12_round_55 ?_
    refine lv_topi (fun x_122 _ => ?_)
    refine lv_bipush (v := 8) hx hb dX12_round_56 (by decide) ?_
    refine lv_ishl hx hb dX12_round_58 ?_
    refine lv_topi (fun x_123 _ => ?_)
    refine lv_ior hx hb dX12_round_59 ?_
    refine lv_topi (fun x_124 _ => ?_)
    refine lv_aload_n hx hb dX12_round_60 rfl (lv_at hl 1 rfl) ?_
    refine va_get (D := (dC, dI)) (ci := 12) (v := .ref q5) (C := RX12) (T := TX12) (N := 7) hx hb hts it_12 hown hK hP 0 rfl rfl 4 (by decide) (hts _ kt_293) (fun _ h9 => h9) rfl dX12_round_61 ?_
    refine lv_iconst (v := 4) hx hb dX12_round_64 (by decide) ?_
    refine lv_iload_n hx hb dX12_round_65 rfl (lv_at hl 0 rfl) ?_
    refine lv_imul hx hb dX12_round_66 ?_
    refine lv_topi (fun x_125 ex_125 => ?_)
    obtain rfl : x_125 = (nI (4 * t1)) := ex_125.trans (pk_mul 4 t1)
    refine lv_iconst (v := 3) hx hb dX12_round_67 (by decide) ?_
    refine lv_iadd hx hb dX12_round_68 ?_
    refine lv_topi (fun x_126 ex_126 => ?_)
    obtain rfl : x_126 = (nI (4 * t1 + 3)) := ex_126.trans (nI_add (4 * t1) 3)
    refine va_bald hx hb hK hP 5 4 rfl rfl (vp_in_nI (by omega) (by omega)) dX12_round_69 ?_
    refine lv_topi (fun x_127 _ => ?_)
    refine lv_sipush (v := 255) hx hb dX12_round_70 (by decide) ?_
    refine lv_iand hx hb dX12_round_73 ?_
    refine lv_topi (fun x_128 _ => ?_)
    refine lv_ior hx hb dX12_round_74 ?_
    refine lv_topi (fun x_129 _ => ?_)
    refine va_iast hx hb hK hP hD hS 3 2 rfl rfl (vp_in_nI (by omega) (by omega)) dX12_round_75 (fun H locs hP hD hS => ?_)
    obtain ⟨f_130, hP, hD⟩ : ∃ f_130 : Nat → Int32, va_P (dC, dI) vwCl [(h0, .inr (12, [.ref q1, .ref q2, .ref q3, .ref q4, .ref q5, .int n0, .long a0])), (q1, .inl (c1, 8, .inl f1)), (q2, .inl (c2, 8, .inl f2)), (q3, .inl (c3, 64, .inl f_130)), (q4, .inl (c4, 64, .inl f4)), (q5, .inl (c5, 64, .inl f5))] H ∧ va_D A [(h0, .inr (12, [.ref q1, .ref q2, .ref q3, .ref q4, .ref q5, .int n0, .long a0])), (q1, .inl (c1, 8, .inl f1)), (q2, .inl (c2, 8, .inl f2)), (q3, .inl (c3, 64, .inl f_130)), (q4, .inl (c4, 64, .inl f4)), (q5, .inl (c5, 64, .inl f5))] := ⟨_, hP, hD⟩
    refine lv_iinc (v := (nI (t1 + 1))) (lv' := [(1, .int (nI (t1 + 1))), (0, .ref h0)]) hx hb dX12_round_76 hl (k := 0) rfl (nI_1 _) (by decide) rfl (fun ls hl => ?_)
    refine lv_goto (tgt := 2) hx hb dX12_round_79 (by decide) ?_
    refine W.widen (k := 0) (n := 0) (by omega) (by omega) ?_
    exact ih_2 ((t1 + 1), f_130) (by first | omega | exact ⟨by omega, by omega⟩) (by show 16 - (t1 + 1) < 16 - t1; omega) _ _ (hP.sub [0, 1, 2, 3, 4, 5] rfl) (hD.sub [0, 1, 2, 3, 4, 5] (by decide) rfl) hS ls (lv_sub hl [0, 1] rfl)
set_option maxHeartbeats 4000000 in
set_option maxRecDepth 100000 in
theorem c_X12_begin (l : Launch) (dC : Nat → ClassId) (dI : Nat → Nat → Nat) (sz : Nat) (h0 : Nat) (q1 : Nat) (q2 : Nat) (q3 : Nat) (q4 : Nat) (q5 : Nat) (c1 : ClassId) (c2 : ClassId) (c3 : ClassId) (c4 : ClassId) (c5 : ClassId) (f1 : Nat → Int32) (f2 : Nat → Int32) (f3 : Nat → Int32) (f4 : Nat → Int32) (f5 : Nat → Int32) (n0 : Int32) (a0 : Int64) : Met l yX12_begin (.code yX12_begin cX12_begin 1 none :: tb) ({ frames := 1, cells := 0, slots := 0, locals := 48 }) (va_Pc [.ref h0] (PW (dC, dI) sz [(h0, .inr (12, [.ref q1, .ref q2, .ref q3, .ref q4, .ref q5, .int n0, .long a0])), (q1, .inl (c1, 8, .inl f1)), (q2, .inl (c2, 8, .inl f2)), (q3, .inl (c3, 64, .inl f3)), (q4, .inl (c4, 64, .inl f4)), (q5, .inl (c5, 64, .inl f5))] [(c1, .int), (c2, .int), (c3, .int), (c4, .int), (c5, .byte)])) (va_Qv (fun _ : Unit => True) (fun _ T9 => ∃ (g2 : Nat → Int32), QW (dC, dI) (va_A [(h0, .inr (12, [.ref q1, .ref q2, .ref q3, .ref q4, .ref q5, .int n0, .long a0])), (q1, .inl (c1, 8, .inl f1)), (q2, .inl (c2, 8, .inl f2)), (q3, .inl (c3, 64, .inl f3)), (q4, .inl (c4, 64, .inl f4)), (q5, .inl (c5, 64, .inl f5))] sz) [(h0, .inr (12, [.ref q1, .ref q2, .ref q3, .ref q4, .ref q5, .int 0, .long 0])), (q1, .inl (c1, 8, .inl f1)), (q2, .inl (c2, 8, .inl g2)), (q3, .inl (c3, 64, .inl f3)), (q4, .inl (c4, 64, .inl f4)), (q5, .inl (c5, 64, .inl f5))] [(c1, .int), (c2, .int), (c3, .int), (c4, .int), (c5, .byte)] T9) (va_A [(h0, .inr (12, [.ref q1, .ref q2, .ref q3, .ref q4, .ref q5, .int n0, .long a0])), (q1, .inl (c1, 8, .inl f1)), (q2, .inl (c2, 8, .inl f2)), (q3, .inl (c3, 64, .inl f3)), (q4, .inl (c4, 64, .inl f4)), (q5, .inl (c5, 64, .inl f5))] sz)) 0 0 (va_A [(h0, .inr (12, [.ref q1, .ref q2, .ref q3, .ref q4, .ref q5, .int n0, .long a0])), (q1, .inl (c1, 8, .inl f1)), (q2, .inl (c2, 8, .inl f2)), (q3, .inl (c3, 64, .inl f3)), (q4, .inl (c4, 64, .inl f4)), (q5, .inl (c5, 64, .inl f5))] sz) := by
  refine Met.ofW (cc := cX12_begin) (maxL := 1) (ret := none) (by decide) rfl ?_
  intro p e s m args below meth c s₁ B hml hv
  obtain ⟨rfl, hsz, hP, hK, hD0, hE⟩ := hv
  have hx := B.exec
  have hb := B.bytes
  have hr := B.returns
  have hts : ∀ w ∈ tb, w.before _ s = true := fun w h => atoms_spec (ws := .code yX12_begin cX12_begin 1 none :: tb) B.pre w (List.mem_cons_of_mem _ h)
  have hown : s.vm.findClass RX12 = some m.cls := findClass_of_methodNamed B.named
  have hlocks := B.notSynchronized
  subst hsz
  have hD := hD0.self (sz := s.heap.size)
  generalize hAe : va_A [(h0, .inr (12, [.ref q1, .ref q2, .ref q3, .ref q4, .ref q5, .int n0, .long a0])), (q1, .inl (c1, 8, .inl f1)), (q2, .inl (c2, 8, .inl f2)), (q3, .inl (c3, 64, .inl f3)), (q4, .inl (c4, 64, .inl f4)), (q5, .inl (c5, 64, .inl f5))] s.heap.size = A at hD ⊢
  have hA : ∀ q : Nat, s.heap.size ≤ q → A q := fun q h => by rw [← hAe]; exact Or.inr h
  have hS : va_S A s.heap s.heap [] := va_S.rf
  have hP : va_P (dC, dI) vwCl [(h0, .inr (12, [.ref q1, .ref q2, .ref q3, .ref q4, .ref q5, .int n0, .long a0])), (q1, .inl (c1, 8, .inl f1)), (q2, .inl (c2, 8, .inl f2)), (q3, .inl (c3, 64, .inl f3)), (q4, .inl (c4, 64, .inl f4)), (q5, .inl (c5, 64, .inl f5))] s.heap := hP
  have hl := lv_entry ([.ref h0]) (n := 1) (Nat.le_of_ble_eq_true rfl)
  rw [lg_entry_eq]
  generalize (lg_sl ([.ref h0]) ++ List.replicate (1 - (lg_sl ([.ref h0])).length) Slot.unset).toArray = ls at hl ⊢
  have hl : lv_has ls 1 [(0, .ref h0)] := hl
  refine lv_aload_n hx hb dX12_begin_0 rfl (lv_at hl 0 rfl) ?_
  refine va_get (D := (dC, dI)) (ci := 12) (v := .ref q1) (C := RX12) (T := TX12) (N := 7) hx hb hts it_12 hown hK hP 0 rfl rfl 0 (by decide) (hts _ kt_289) (fun _ h9 => h9) rfl dX12_begin_1 ?_
  refine lv_iconst (v := 0) hx hb dX12_begin_4 (by decide) ?_
  refine lv_aload_n hx hb dX12_begin_5 rfl (lv_at hl 0 rfl) ?_
  refine va_get (D := (dC, dI)) (ci := 12) (v := .ref q2) (C := RX12) (T := TX12) (N := 7) hx hb hts it_12 hown hK hP 0 rfl rfl 1 (by decide) (hts _ kt_290) (fun _ h9 => h9) rfl dX12_begin_6 ?_
  refine lv_iconst (v := 0) hx hb dX12_begin_9 (by decide) ?_
  refine lv_bipush (v := 8) hx hb dX12_begin_10 (by decide) ?_
  refine va_copyi hx hb (by rw [hml]; exact hl.1.symm) hown (hts _ kt_304) (hts _ kt_242) (hts _ kt_243) (hts _ kt_244) hK hP hD hS 1 2 0 1 rfl rfl rfl rfl rfl (by decide) (by decide) (by decide) (by decide) (by decide) (fun _ _ => rfl) (Nat.le_of_ble_eq_true rfl) (by decide) dX12_begin_12 (fun H locs hP hD hS => ?_)
  obtain ⟨f_1, hP, hD⟩ : ∃ f_1 : Nat → Int32, va_P (dC, dI) vwCl [(h0, .inr (12, [.ref q1, .ref q2, .ref q3, .ref q4, .ref q5, .int n0, .long a0])), (q1, .inl (c1, 8, .inl f1)), (q2, .inl (c2, 8, .inl f_1)), (q3, .inl (c3, 64, .inl f3)), (q4, .inl (c4, 64, .inl f4)), (q5, .inl (c5, 64, .inl f5))] H ∧ va_D A [(h0, .inr (12, [.ref q1, .ref q2, .ref q3, .ref q4, .ref q5, .int n0, .long a0])), (q1, .inl (c1, 8, .inl f1)), (q2, .inl (c2, 8, .inl f_1)), (q3, .inl (c3, 64, .inl f3)), (q4, .inl (c4, 64, .inl f4)), (q5, .inl (c5, 64, .inl f5))] := ⟨_, hP, hD⟩
  refine lv_aload_n hx hb dX12_begin_15 rfl (lv_at hl 0 rfl) ?_
  refine lv_iconst (v := 0) hx hb dX12_begin_16 (by decide) ?_
  refine va_put (D := (dC, dI)) (ci := 12) (v := .int 0) (ty := .int) (C := RX12) (T := TX12) (N := 7) hx hb hts it_12 tyX12 tyX12_ok nmX12 hown hK hP hD hS 0 rfl rfl 5 (by decide) (hts _ kt_305) (fun _ h9 => h9) rfl (by decide +kernel) rfl rfl (Nat.le_of_ble_eq_true rfl) dX12_begin_17 (fun H locs hP hD hS => ?_)
  have hP : va_P (dC, dI) vwCl [(h0, .inr (12, [.ref q1, .ref q2, .ref q3, .ref q4, .ref q5, .int 0, .long a0])), (q1, .inl (c1, 8, .inl f1)), (q2, .inl (c2, 8, .inl f_1)), (q3, .inl (c3, 64, .inl f3)), (q4, .inl (c4, 64, .inl f4)), (q5, .inl (c5, 64, .inl f5))] H := hP
  have hD : va_D A [(h0, .inr (12, [.ref q1, .ref q2, .ref q3, .ref q4, .ref q5, .int 0, .long a0])), (q1, .inl (c1, 8, .inl f1)), (q2, .inl (c2, 8, .inl f_1)), (q3, .inl (c3, 64, .inl f3)), (q4, .inl (c4, 64, .inl f4)), (q5, .inl (c5, 64, .inl f5))] := hD
  refine lv_aload_n hx hb dX12_begin_20 rfl (lv_at hl 0 rfl) ?_
  refine lv_lconst (v := 0) hx hb dX12_begin_21 (by decide) ?_
  refine va_put (D := (dC, dI)) (ci := 12) (v := .long 0) (ty := .long) (C := RX12) (T := TX12) (N := 7) hx hb hts it_12 tyX12 tyX12_ok nmX12 hown hK hP hD hS 0 rfl rfl 6 (by decide) (hts _ kt_306) (fun _ h9 => h9) rfl (by decide +kernel) rfl rfl (Nat.le_of_ble_eq_true rfl) dX12_begin_22 (fun H locs hP hD hS => ?_)
  have hP : va_P (dC, dI) vwCl [(h0, .inr (12, [.ref q1, .ref q2, .ref q3, .ref q4, .ref q5, .int 0, .long 0])), (q1, .inl (c1, 8, .inl f1)), (q2, .inl (c2, 8, .inl f_1)), (q3, .inl (c3, 64, .inl f3)), (q4, .inl (c4, 64, .inl f4)), (q5, .inl (c5, 64, .inl f5))] H := hP
  have hD : va_D A [(h0, .inr (12, [.ref q1, .ref q2, .ref q3, .ref q4, .ref q5, .int 0, .long 0])), (q1, .inl (c1, 8, .inl f1)), (q2, .inl (c2, 8, .inl f_1)), (q3, .inl (c3, 64, .inl f3)), (q4, .inl (c4, 64, .inl f4)), (q5, .inl (c5, 64, .inl f5))] := hD
  have hP9 := hP.sub (ws' := [(h0, .inr (12, [.ref q1, .ref q2, .ref q3, .ref q4, .ref q5, .int 0, .long 0])), (q1, .inl (c1, 8, .inl f1)), (q2, .inl (c2, 8, .inl f_1)), (q3, .inl (c3, 64, .inl f3)), (q4, .inl (c4, 64, .inl f4)), (q5, .inl (c5, 64, .inl f5))]) [0, 1, 2, 3, 4, 5] rfl
  have hD9 := hD.sub (ws' := [(h0, .inr (12, [.ref q1, .ref q2, .ref q3, .ref q4, .ref q5, .int 0, .long 0])), (q1, .inl (c1, 8, .inl f1)), (q2, .inl (c2, 8, .inl f_1)), (q3, .inl (c3, 64, .inl f3)), (q4, .inl (c4, 64, .inl f4)), (q5, .inl (c5, 64, .inl f5))]) [0, 1, 2, 3, 4, 5] (by decide) rfl
  have hK9 := hK.sub (tys' := [(c1, .int), (c2, .int), (c3, .int), (c4, .int), (c5, .byte)]) [0, 1, 2, 3, 4] rfl
  refine W.widen (k := 0) (n := 0) (by omega) (by omega) ?_
  exact W.vret hx hb hr (fun t ht hW => ⟨⟨(), rfl, trivial, ⟨f_1, QW.mk ht hW hP9 hK9 hD9⟩⟩, hS.F ht⟩) hS.2.2 dX12_begin_25
set_option maxHeartbeats 4000000 in
set_option maxRecDepth 100000 in
theorem c_X12_add (l : Launch) (dC : Nat → ClassId) (dI : Nat → Nat → Nat) (sz : Nat) (h0 : Nat) (qb : Nat) (q1 : Nat) (q2 : Nat) (q3 : Nat) (q4 : Nat) (q5 : Nat) : Met l yX12_add (.code yX12_add cX12_add 5 none :: tb) ({ frames := 0, cells := 0, slots := 0, locals := 0 }) (va_Pc [.ref h0, .ref qb, .int 0, .int 0] (PW (dC, dI) sz [(h0, .inr (12, [.ref q1, .ref q2, .ref q3, .ref q4, .ref q5, .int 0, .long 0]))] [])) (va_Qv (fun _ : Unit => True) (fun _ T9 => QW (dC, dI) (va_A [(h0, .inr (12, [.ref q1, .ref q2, .ref q3, .ref q4, .ref q5, .int 0, .long 0]))] sz) [(h0, .inr (12, [.ref q1, .ref q2, .ref q3, .ref q4, .ref q5, .int 0, .long 0]))] [] T9) (va_A [(h0, .inr (12, [.ref q1, .ref q2, .ref q3, .ref q4, .ref q5, .int 0, .long 0]))] sz)) 0 0 (va_A [(h0, .inr (12, [.ref q1, .ref q2, .ref q3, .ref q4, .ref q5, .int 0, .long 0]))] sz) := by
  refine Met.ofW (cc := cX12_add) (maxL := 5) (ret := none) (by decide) rfl ?_
  intro p e s m args below meth c s₁ B hml hv
  obtain ⟨rfl, hsz, hP, hK, hD0, hE⟩ := hv
  have hx := B.exec
  have hb := B.bytes
  have hr := B.returns
  have hts : ∀ w ∈ tb, w.before _ s = true := fun w h => atoms_spec (ws := .code yX12_add cX12_add 5 none :: tb) B.pre w (List.mem_cons_of_mem _ h)
  have hown : s.vm.findClass RX12 = some m.cls := findClass_of_methodNamed B.named
  have hlocks := B.notSynchronized
  subst hsz
  have hD := hD0.self (sz := s.heap.size)
  generalize hAe : va_A [(h0, .inr (12, [.ref q1, .ref q2, .ref q3, .ref q4, .ref q5, .int 0, .long 0]))] s.heap.size = A at hD ⊢
  have hA : ∀ q : Nat, s.heap.size ≤ q → A q := fun q h => by rw [← hAe]; exact Or.inr h
  have hS : va_S A s.heap s.heap [] := va_S.rf
  have hP : va_P (dC, dI) vwCl [(h0, .inr (12, [.ref q1, .ref q2, .ref q3, .ref q4, .ref q5, .int 0, .long 0]))] s.heap := hP
  have hl := lv_entry ([.ref h0, .ref qb, .int 0, .int 0]) (n := 5) (Nat.le_of_ble_eq_true rfl)
  rw [lg_entry_eq]
  generalize (lg_sl ([.ref h0, .ref qb, .int 0, .int 0]) ++ List.replicate (5 - (lg_sl ([.ref h0, .ref qb, .int 0, .int 0])).length) Slot.unset).toArray = ls at hl ⊢
  have hl : lv_has ls 5 [(0, .ref h0), (1, .ref qb), (2, .int 0), (3, .int 0)] := hl
  refine lv_iload_n hx hb dX12_add_0 rfl (lv_at hl 2 rfl) ?_
  refine lv_istore (lv' := [(4, .int 0), (0, .ref h0), (1, .ref qb), (2, .int 0), (3, .int 0)]) hx hb dX12_add_1 hl (by decide) rfl (fun ls hl => ?_)
  refine lv_iload hx hb dX12_add_3 (lv_at hl 0 rfl) ?_
  refine lv_iload_n hx hb dX12_add_5 rfl (lv_at hl 3 rfl) ?_
  refine lv_iload_n hx hb dX12_add_6 rfl (lv_at hl 4 rfl) ?_
  refine lv_iadd hx hb dX12_add_7 ?_
  refine lv_topi (fun x_1 ex_1 => ?_)
  obtain rfl : x_1 = 0 := ex_1.trans (by decide)
  refine lv_icmp_ge (tgt := 25) hx hb dX12_add_8 (by decide) (fun c_2 => ?_) (fun c_2 => absurd (by decide) c_2)
  have hP9 := hP.sub (ws' := [(h0, .inr (12, [.ref q1, .ref q2, .ref q3, .ref q4, .ref q5, .int 0, .long 0]))]) [0] rfl
  have hD9 := hD.sub (ws' := [(h0, .inr (12, [.ref q1, .ref q2, .ref q3, .ref q4, .ref q5, .int 0, .long 0]))]) [0] (by decide) rfl
  have hK9 := hK.sub (tys' := []) [] rfl
  refine W.widen (k := 0) (n := 0) (by omega) (by omega) ?_
  exact W.vret hx hb hr (fun t ht hW => ⟨⟨(), rfl, trivial, QW.mk ht hW hP9 hK9 hD9⟩, hS.F ht⟩) hS.2.2 dX12_add_25
set_option maxHeartbeats 4000000 in
set_option maxRecDepth 100000 in
theorem c_X12_one (l : Launch) (dC : Nat → ClassId) (dI : Nat → Nat → Nat) (sz : Nat) (h0 : Nat) (n : Nat) (q1 : Nat) (q2 : Nat) (q3 : Nat) (q4 : Nat) (q5 : Nat) (c1 : ClassId) (c2 : ClassId) (c3 : ClassId) (c4 : ClassId) (c5 : ClassId) (f1 : Nat → Int32) (f2 : Nat → Int32) (f3 : Nat → Int32) (f4 : Nat → Int32) (f5 : Nat → Int32) (x1 : Int32) (a0 : Int64) (hn : n < 63) : Met l yX12_one (.code yX12_one cX12_one 2 none :: tb) ({ frames := 0, cells := 0, slots := 0, locals := 0 }) (va_Pc [.ref h0, .int x1] (PW (dC, dI) sz [(h0, .inr (12, [.ref q1, .ref q2, .ref q3, .ref q4, .ref q5, .int (nI n), .long a0])), (q1, .inl (c1, 8, .inl f1)), (q2, .inl (c2, 8, .inl f2)), (q3, .inl (c3, 64, .inl f3)), (q4, .inl (c4, 64, .inl f4)), (q5, .inl (c5, 64, .inl f5))] [(c1, .int), (c2, .int), (c3, .int), (c4, .int), (c5, .byte)])) (va_Qv (fun _ : Unit => True) (fun _ T9 => ∃ (a2 : Int64) (g5 : Nat → Int32), QW (dC, dI) (va_A [(h0, .inr (12, [.ref q1, .ref q2, .ref q3, .ref q4, .ref q5, .int (nI n), .long a0])), (q1, .inl (c1, 8, .inl f1)), (q2, .inl (c2, 8, .inl f2)), (q3, .inl (c3, 64, .inl f3)), (q4, .inl (c4, 64, .inl f4)), (q5, .inl (c5, 64, .inl f5))] sz) [(h0, .inr (12, [.ref q1, .ref q2, .ref q3, .ref q4, .ref q5, .int (nI (n + 1)), .long a2])), (q1, .inl (c1, 8, .inl f1)), (q2, .inl (c2, 8, .inl f2)), (q3, .inl (c3, 64, .inl f3)), (q4, .inl (c4, 64, .inl f4)), (q5, .inl (c5, 64, .inl g5))] [(c1, .int), (c2, .int), (c3, .int), (c4, .int), (c5, .byte)] T9) (va_A [(h0, .inr (12, [.ref q1, .ref q2, .ref q3, .ref q4, .ref q5, .int (nI n), .long a0])), (q1, .inl (c1, 8, .inl f1)), (q2, .inl (c2, 8, .inl f2)), (q3, .inl (c3, 64, .inl f3)), (q4, .inl (c4, 64, .inl f4)), (q5, .inl (c5, 64, .inl f5))] sz)) 0 0 (va_A [(h0, .inr (12, [.ref q1, .ref q2, .ref q3, .ref q4, .ref q5, .int (nI n), .long a0])), (q1, .inl (c1, 8, .inl f1)), (q2, .inl (c2, 8, .inl f2)), (q3, .inl (c3, 64, .inl f3)), (q4, .inl (c4, 64, .inl f4)), (q5, .inl (c5, 64, .inl f5))] sz) := by
  refine Met.ofW (cc := cX12_one) (maxL := 2) (ret := none) (by decide) rfl ?_
  intro p e s m args below meth c s₁ B hml hv
  obtain ⟨rfl, hsz, hP, hK, hD0, hE⟩ := hv
  have hx := B.exec
  have hb := B.bytes
  have hr := B.returns
  have hts : ∀ w ∈ tb, w.before _ s = true := fun w h => atoms_spec (ws := .code yX12_one cX12_one 2 none :: tb) B.pre w (List.mem_cons_of_mem _ h)
  have hown : s.vm.findClass RX12 = some m.cls := findClass_of_methodNamed B.named
  have hlocks := B.notSynchronized
  subst hsz
  have hD := hD0.self (sz := s.heap.size)
  generalize hAe : va_A [(h0, .inr (12, [.ref q1, .ref q2, .ref q3, .ref q4, .ref q5, .int (nI n), .long a0])), (q1, .inl (c1, 8, .inl f1)), (q2, .inl (c2, 8, .inl f2)), (q3, .inl (c3, 64, .inl f3)), (q4, .inl (c4, 64, .inl f4)), (q5, .inl (c5, 64, .inl f5))] s.heap.size = A at hD ⊢
  have hA : ∀ q : Nat, s.heap.size ≤ q → A q := fun q h => by rw [← hAe]; exact Or.inr h
  have hS : va_S A s.heap s.heap [] := va_S.rf
  have hP : va_P (dC, dI) vwCl [(h0, .inr (12, [.ref q1, .ref q2, .ref q3, .ref q4, .ref q5, .int (nI n), .long a0])), (q1, .inl (c1, 8, .inl f1)), (q2, .inl (c2, 8, .inl f2)), (q3, .inl (c3, 64, .inl f3)), (q4, .inl (c4, 64, .inl f4)), (q5, .inl (c5, 64, .inl f5))] s.heap := hP
  have hl := lv_entry ([.ref h0, .int x1]) (n := 2) (Nat.le_of_ble_eq_true rfl)
  rw [lg_entry_eq]
  generalize (lg_sl ([.ref h0, .int x1]) ++ List.replicate (2 - (lg_sl ([.ref h0, .int x1])).length) Slot.unset).toArray = ls at hl ⊢
  have hl : lv_has ls 2 [(0, .ref h0), (1, .int x1)] := hl
  refine lv_aload_n hx hb dX12_one_0 rfl (lv_at hl 0 rfl) ?_
  refine va_get (D := (dC, dI)) (ci := 12) (v := .ref q5) (C := RX12) (T := TX12) (N := 7) hx hb hts it_12 hown hK hP 0 rfl rfl 4 (by decide) (hts _ kt_293) (fun _ h9 => h9) rfl dX12_one_1 ?_
  refine lv_aload_n hx hb dX12_one_4 rfl (lv_at hl 0 rfl) ?_
  refine va_get (D := (dC, dI)) (ci := 12) (v := .int (nI n)) (C := RX12) (T := TX12) (N := 7) hx hb hts it_12 hown hK hP 0 rfl rfl 5 (by decide) (hts _ kt_305) (fun _ h9 => h9) rfl dX12_one_5 ?_
  refine lv_iload_n hx hb dX12_one_8 rfl (lv_at hl 1 rfl) ?_
  refine lv_i2b hx hb dX12_one_9 rfl ?_
  refine lv_topi (fun x_1 _ => ?_)
  refine va_bast hx hb hK hP hD hS 5 4 rfl rfl (vp_in_nI (by omega) (by omega)) dX12_one_10 (fun H locs hP hD hS => ?_)
  obtain ⟨f_2, hP, hD⟩ : ∃ f_2 : Nat → Int32, va_P (dC, dI) vwCl [(h0, .inr (12, [.ref q1, .ref q2, .ref q3, .ref q4, .ref q5, .int (nI n), .long a0])), (q1, .inl (c1, 8, .inl f1)), (q2, .inl (c2, 8, .inl f2)), (q3, .inl (c3, 64, .inl f3)), (q4, .inl (c4, 64, .inl f4)), (q5, .inl (c5, 64, .inl f_2))] H ∧ va_D A [(h0, .inr (12, [.ref q1, .ref q2, .ref q3, .ref q4, .ref q5, .int (nI n), .long a0])), (q1, .inl (c1, 8, .inl f1)), (q2, .inl (c2, 8, .inl f2)), (q3, .inl (c3, 64, .inl f3)), (q4, .inl (c4, 64, .inl f4)), (q5, .inl (c5, 64, .inl f_2))] := ⟨_, hP, hD⟩
  refine lv_aload_n hx hb dX12_one_11 rfl (lv_at hl 0 rfl) ?_
  refine lv_dup hx hb dX12_one_12 rfl ?_
  refine va_get (D := (dC, dI)) (ci := 12) (v := .int (nI n)) (C := RX12) (T := TX12) (N := 7) hx hb hts it_12 hown hK hP 0 rfl rfl 5 (by decide) (hts _ kt_305) (fun _ h9 => h9) rfl dX12_one_13 ?_
  refine lv_iconst (v := 1) hx hb dX12_one_16 (by decide) ?_
  refine lv_iadd hx hb dX12_one_17 ?_
  refine lv_topi (fun x_3 ex_3 => ?_)
  obtain rfl : x_3 = (nI (n + 1)) := ex_3.trans (nI_1 n)
  refine va_put (D := (dC, dI)) (ci := 12) (v := .int (nI (n + 1))) (ty := .int) (C := RX12) (T := TX12) (N := 7) hx hb hts it_12 tyX12 tyX12_ok nmX12 hown hK hP hD hS 0 rfl rfl 5 (by decide) (hts _ kt_305) (fun _ h9 => h9) rfl (by decide +kernel) rfl rfl (Nat.le_of_ble_eq_true rfl) dX12_one_18 (fun H locs hP hD hS => ?_)
  have hP : va_P (dC, dI) vwCl [(h0, .inr (12, [.ref q1, .ref q2, .ref q3, .ref q4, .ref q5, .int (nI (n + 1)), .long a0])), (q1, .inl (c1, 8, .inl f1)), (q2, .inl (c2, 8, .inl f2)), (q3, .inl (c3, 64, .inl f3)), (q4, .inl (c4, 64, .inl f4)), (q5, .inl (c5, 64, .inl f_2))] H := hP
  have hD : va_D A [(h0, .inr (12, [.ref q1, .ref q2, .ref q3, .ref q4, .ref q5, .int (nI (n + 1)), .long a0])), (q1, .inl (c1, 8, .inl f1)), (q2, .inl (c2, 8, .inl f2)), (q3, .inl (c3, 64, .inl f3)), (q4, .inl (c4, 64, .inl f4)), (q5, .inl (c5, 64, .inl f_2))] := hD
  refine lv_aload_n hx hb dX12_one_21 rfl (lv_at hl 0 rfl) ?_
  refine lv_dup hx hb dX12_one_22 rfl ?_
  refine va_get (D := (dC, dI)) (ci := 12) (v := .long a0) (C := RX12) (T := TX12) (N := 7) hx hb hts it_12 hown hK hP 0 rfl rfl 6 (by decide) (hts _ kt_306) (fun _ h9 => h9) rfl dX12_one_23 ?_
  refine lv_lconst (v := 1) hx hb dX12_one_26 (by decide) ?_
  refine lv_ladd hx hb dX12_one_27 ?_
  refine lv_topl (fun x_4 _ => ?_)
  refine va_put (D := (dC, dI)) (ci := 12) (v := .long x_4) (ty := .long) (C := RX12) (T := TX12) (N := 7) hx hb hts it_12 tyX12 tyX12_ok nmX12 hown hK hP hD hS 0 rfl rfl 6 (by decide) (hts _ kt_306) (fun _ h9 => h9) rfl (by decide +kernel) rfl rfl (Nat.le_of_ble_eq_true rfl) dX12_one_28 (fun H locs hP hD hS => ?_)
  have hP : va_P (dC, dI) vwCl [(h0, .inr (12, [.ref q1, .ref q2, .ref q3, .ref q4, .ref q5, .int (nI (n + 1)), .long x_4])), (q1, .inl (c1, 8, .inl f1)), (q2, .inl (c2, 8, .inl f2)), (q3, .inl (c3, 64, .inl f3)), (q4, .inl (c4, 64, .inl f4)), (q5, .inl (c5, 64, .inl f_2))] H := hP
  have hD : va_D A [(h0, .inr (12, [.ref q1, .ref q2, .ref q3, .ref q4, .ref q5, .int (nI (n + 1)), .long x_4])), (q1, .inl (c1, 8, .inl f1)), (q2, .inl (c2, 8, .inl f2)), (q3, .inl (c3, 64, .inl f3)), (q4, .inl (c4, 64, .inl f4)), (q5, .inl (c5, 64, .inl f_2))] := hD
  refine lv_aload_n hx hb dX12_one_31 rfl (lv_at hl 0 rfl) ?_
  refine va_get (D := (dC, dI)) (ci := 12) (v := .int (nI (n + 1))) (C := RX12) (T := TX12) (N := 7) hx hb hts it_12 hown hK hP 0 rfl rfl 5 (by decide) (hts _ kt_305) (fun _ h9 => h9) rfl dX12_one_32 ?_
  refine lv_bipush (v := 64) hx hb dX12_one_35 (by decide) ?_
  refine lv_icmp_ge (tgt := 41) hx hb dX12_one_37 (by decide) (fun c_5 => absurd c_5 (show ¬ nI 64 ≤ nI (n + 1) from nI_ge (by omega) (by omega))) (fun c_5 => ?_)
  have hP9 := hP.sub (ws' := [(h0, .inr (12, [.ref q1, .ref q2, .ref q3, .ref q4, .ref q5, .int (nI (n + 1)), .long x_4])), (q1, .inl (c1, 8, .inl f1)), (q2, .inl (c2, 8, .inl f2)), (q3, .inl (c3, 64, .inl f3)), (q4, .inl (c4, 64, .inl f4)), (q5, .inl (c5, 64, .inl f_2))]) [0, 1, 2, 3, 4, 5] rfl
  have hD9 := hD.sub (ws' := [(h0, .inr (12, [.ref q1, .ref q2, .ref q3, .ref q4, .ref q5, .int (nI (n + 1)), .long x_4])), (q1, .inl (c1, 8, .inl f1)), (q2, .inl (c2, 8, .inl f2)), (q3, .inl (c3, 64, .inl f3)), (q4, .inl (c4, 64, .inl f4)), (q5, .inl (c5, 64, .inl f_2))]) [0, 1, 2, 3, 4, 5] (by decide) rfl
  have hK9 := hK.sub (tys' := [(c1, .int), (c2, .int), (c3, .int), (c4, .int), (c5, .byte)]) [0, 1, 2, 3, 4] rfl
  refine W.widen (k := 0) (n := 0) (by omega) (by omega) ?_
  exact W.vret hx hb hr (fun t ht hW => ⟨⟨(), rfl, trivial, ⟨x_4, f_2, QW.mk ht hW hP9 hK9 hD9⟩⟩, hS.F ht⟩) hS.2.2 dX12_one_40
set_option maxHeartbeats 4000000 in
set_option maxRecDepth 100000 in
theorem c_X12_one_b (l : Launch) (dC : Nat → ClassId) (dI : Nat → Nat → Nat) (sz : Nat) (h0 : Nat) (q1 : Nat) (q2 : Nat) (q3 : Nat) (q4 : Nat) (q5 : Nat) (c1 : ClassId) (c2 : ClassId) (c3 : ClassId) (c4 : ClassId) (c5 : ClassId) (f1 : Nat → Int32) (f2 : Nat → Int32) (f3 : Nat → Int32) (f4 : Nat → Int32) (f5 : Nat → Int32) (x1 : Int32) (a0 : Int64) : Met l yX12_one (.code yX12_one cX12_one 2 none :: tb) ({ frames := 2, cells := 0, slots := 0, locals := 52 }) (va_Pc [.ref h0, .int x1] (PW (dC, dI) sz [(h0, .inr (12, [.ref q1, .ref q2, .ref q3, .ref q4, .ref q5, .int 63, .long a0])), (q1, .inl (c1, 8, .inl f1)), (q2, .inl (c2, 8, .inl f2)), (q3, .inl (c3, 64, .inl f3)), (q4, .inl (c4, 64, .inl f4)), (q5, .inl (c5, 64, .inl f5))] [(c1, .int), (c2, .int), (c3, .int), (c4, .int), (c5, .byte)])) (va_Qv (fun _ : Unit => True) (fun _ T9 => ∃ (a2 : Int64) (g2 : Nat → Int32) (g3 : Nat → Int32) (g5 : Nat → Int32), QW (dC, dI) (va_A [(h0, .inr (12, [.ref q1, .ref q2, .ref q3, .ref q4, .ref q5, .int 63, .long a0])), (q1, .inl (c1, 8, .inl f1)), (q2, .inl (c2, 8, .inl f2)), (q3, .inl (c3, 64, .inl f3)), (q4, .inl (c4, 64, .inl f4)), (q5, .inl (c5, 64, .inl f5))] sz) [(h0, .inr (12, [.ref q1, .ref q2, .ref q3, .ref q4, .ref q5, .int 0, .long a2])), (q1, .inl (c1, 8, .inl f1)), (q2, .inl (c2, 8, .inl g2)), (q3, .inl (c3, 64, .inl g3)), (q4, .inl (c4, 64, .inl f4)), (q5, .inl (c5, 64, .inl g5))] [(c1, .int), (c2, .int), (c3, .int), (c4, .int), (c5, .byte)] T9) (va_A [(h0, .inr (12, [.ref q1, .ref q2, .ref q3, .ref q4, .ref q5, .int 63, .long a0])), (q1, .inl (c1, 8, .inl f1)), (q2, .inl (c2, 8, .inl f2)), (q3, .inl (c3, 64, .inl f3)), (q4, .inl (c4, 64, .inl f4)), (q5, .inl (c5, 64, .inl f5))] sz)) 0 0 (va_A [(h0, .inr (12, [.ref q1, .ref q2, .ref q3, .ref q4, .ref q5, .int 63, .long a0])), (q1, .inl (c1, 8, .inl f1)), (q2, .inl (c2, 8, .inl f2)), (q3, .inl (c3, 64, .inl f3)), (q4, .inl (c4, 64, .inl f4)), (q5, .inl (c5, 64, .inl f5))] sz) := by
  refine Met.ofW (cc := cX12_one) (maxL := 2) (ret := none) (by decide) rfl ?_
  intro p e s m args below meth c s₁ B hml hv
  obtain ⟨rfl, hsz, hP, hK, hD0, hE⟩ := hv
  have hx := B.exec
  have hb := B.bytes
  have hr := B.returns
  have hts : ∀ w ∈ tb, w.before _ s = true := fun w h => atoms_spec (ws := .code yX12_one cX12_one 2 none :: tb) B.pre w (List.mem_cons_of_mem _ h)
  have hown : s.vm.findClass RX12 = some m.cls := findClass_of_methodNamed B.named
  have hlocks := B.notSynchronized
  subst hsz
  have hD := hD0.self (sz := s.heap.size)
  generalize hAe : va_A [(h0, .inr (12, [.ref q1, .ref q2, .ref q3, .ref q4, .ref q5, .int 63, .long a0])), (q1, .inl (c1, 8, .inl f1)), (q2, .inl (c2, 8, .inl f2)), (q3, .inl (c3, 64, .inl f3)), (q4, .inl (c4, 64, .inl f4)), (q5, .inl (c5, 64, .inl f5))] s.heap.size = A at hD ⊢
  have hA : ∀ q : Nat, s.heap.size ≤ q → A q := fun q h => by rw [← hAe]; exact Or.inr h
  have hS : va_S A s.heap s.heap [] := va_S.rf
  have hP : va_P (dC, dI) vwCl [(h0, .inr (12, [.ref q1, .ref q2, .ref q3, .ref q4, .ref q5, .int 63, .long a0])), (q1, .inl (c1, 8, .inl f1)), (q2, .inl (c2, 8, .inl f2)), (q3, .inl (c3, 64, .inl f3)), (q4, .inl (c4, 64, .inl f4)), (q5, .inl (c5, 64, .inl f5))] s.heap := hP
  have hl := lv_entry ([.ref h0, .int x1]) (n := 2) (Nat.le_of_ble_eq_true rfl)
  rw [lg_entry_eq]
  generalize (lg_sl ([.ref h0, .int x1]) ++ List.replicate (2 - (lg_sl ([.ref h0, .int x1])).length) Slot.unset).toArray = ls at hl ⊢
  have hl : lv_has ls 2 [(0, .ref h0), (1, .int x1)] := hl
  refine lv_aload_n hx hb dX12_one_0 rfl (lv_at hl 0 rfl) ?_
  refine va_get (D := (dC, dI)) (ci := 12) (v := .ref q5) (C := RX12) (T := TX12) (N := 7) hx hb hts it_12 hown hK hP 0 rfl rfl 4 (by decide) (hts _ kt_293) (fun _ h9 => h9) rfl dX12_one_1 ?_
  refine lv_aload_n hx hb dX12_one_4 rfl (lv_at hl 0 rfl) ?_
  refine va_get (D := (dC, dI)) (ci := 12) (v := .int 63) (C := RX12) (T := TX12) (N := 7) hx hb hts it_12 hown hK hP 0 rfl rfl 5 (by decide) (hts _ kt_305) (fun _ h9 => h9) rfl dX12_one_5 ?_
  refine lv_iload_n hx hb dX12_one_8 rfl (lv_at hl 1 rfl) ?_
  refine lv_i2b hx hb dX12_one_9 rfl ?_
  refine lv_topi (fun x_1 _ => ?_)
  refine va_bast hx hb hK hP hD hS 5 4 rfl rfl (show vp_in (63 : Int32) 64 from (show vp_in (nI 63) 64 from vp_in_nI (by omega) (by omega))) dX12_one_10 (fun H locs hP hD hS => ?_)
  obtain ⟨f_2, hP, hD⟩ : ∃ f_2 : Nat → Int32, va_P (dC, dI) vwCl [(h0, .inr (12, [.ref q1, .ref q2, .ref q3, .ref q4, .ref q5, .int 63, .long a0])), (q1, .inl (c1, 8, .inl f1)), (q2, .inl (c2, 8, .inl f2)), (q3, .inl (c3, 64, .inl f3)), (q4, .inl (c4, 64, .inl f4)), (q5, .inl (c5, 64, .inl f_2))] H ∧ va_D A [(h0, .inr (12, [.ref q1, .ref q2, .ref q3, .ref q4, .ref q5, .int 63, .long a0])), (q1, .inl (c1, 8, .inl f1)), (q2, .inl (c2, 8, .inl f2)), (q3, .inl (c3, 64, .inl f3)), (q4, .inl (c4, 64, .inl f4)), (q5, .inl (c5, 64, .inl f_2))] := ⟨_, hP, hD⟩
  refine lv_aload_n hx hb dX12_one_11 rfl (lv_at hl 0 rfl) ?_
  refine lv_dup hx hb dX12_one_12 rfl ?_
  refine va_get (D := (dC, dI)) (ci := 12) (v := .int 63) (C := RX12) (T := TX12) (N := 7) hx hb hts it_12 hown hK hP 0 rfl rfl 5 (by decide) (hts _ kt_305) (fun _ h9 => h9) rfl dX12_one_13 ?_
  refine lv_iconst (v := 1) hx hb dX12_one_16 (by decide) ?_
  refine lv_iadd hx hb dX12_one_17 ?_
  refine lv_topi (fun x_3 ex_3 => ?_)
  obtain rfl : x_3 = 64 := ex_3.trans (by decide)
  refine va_put (D := (dC, dI)) (ci := 12) (v := .int 64) (ty := .int) (C := RX12) (T := TX12) (N := 7) hx hb hts it_12 tyX12 tyX12_ok nmX12 hown hK hP hD hS 0 rfl rfl 5 (by decide) (hts _ kt_305) (fun _ h9 => h9) rfl (by decide +kernel) rfl rfl (Nat.le_of_ble_eq_true rfl) dX12_one_18 (fun H locs hP hD hS => ?_)
  have hP : va_P (dC, dI) vwCl [(h0, .inr (12, [.ref q1, .ref q2, .ref q3, .ref q4, .ref q5, .int 64, .long a0])), (q1, .inl (c1, 8, .inl f1)), (q2, .inl (c2, 8, .inl f2)), (q3, .inl (c3, 64, .inl f3)), (q4, .inl (c4, 64, .inl f4)), (q5, .inl (c5, 64, .inl f_2))] H := hP
  have hD : va_D A [(h0, .inr (12, [.ref q1, .ref q2, .ref q3, .ref q4, .ref q5, .int 64, .long a0])), (q1, .inl (c1, 8, .inl f1)), (q2, .inl (c2, 8, .inl f2)), (q3, .inl (c3, 64, .inl f3)), (q4, .inl (c4, 64, .inl f4)), (q5, .inl (c5, 64, .inl f_2))] := hD
  refine lv_aload_n hx hb dX12_one_21 rfl (lv_at hl 0 rfl) ?_
  refine lv_dup hx hb dX12_one_22 rfl ?_
  refine va_get (D := (dC, dI)) (ci := 12) (v := .long a0) (C := RX12) (T := TX12) (N := 7) hx hb hts it_12 hown hK hP 0 rfl rfl 6 (by decide) (hts _ kt_306) (fun _ h9 => h9) rfl dX12_one_23 ?_
  refine lv_lconst (v := 1) hx hb dX12_one_26 (by decide) ?_
  refine lv_ladd hx hb dX12_one_27 ?_
  refine lv_topl (fun x_4 _ => ?_)
  refine va_put (D := (dC, dI)) (ci := 12) (v := .long x_4) (ty := .long) (C := RX12) (T := TX12) (N := 7) hx hb hts it_12 tyX12 tyX12_ok nmX12 hown hK hP hD hS 0 rfl rfl 6 (by decide) (hts _ kt_306) (fun _ h9 => h9) rfl (by decide +kernel) rfl rfl (Nat.le_of_ble_eq_true rfl) dX12_one_28 (fun H locs hP hD hS => ?_)
  have hP : va_P (dC, dI) vwCl [(h0, .inr (12, [.ref q1, .ref q2, .ref q3, .ref q4, .ref q5, .int 64, .long x_4])), (q1, .inl (c1, 8, .inl f1)), (q2, .inl (c2, 8, .inl f2)), (q3, .inl (c3, 64, .inl f3)), (q4, .inl (c4, 64, .inl f4)), (q5, .inl (c5, 64, .inl f_2))] H := hP
  have hD : va_D A [(h0, .inr (12, [.ref q1, .ref q2, .ref q3, .ref q4, .ref q5, .int 64, .long x_4])), (q1, .inl (c1, 8, .inl f1)), (q2, .inl (c2, 8, .inl f2)), (q3, .inl (c3, 64, .inl f3)), (q4, .inl (c4, 64, .inl f4)), (q5, .inl (c5, 64, .inl f_2))] := hD
  refine lv_aload_n hx hb dX12_one_31 rfl (lv_at hl 0 rfl) ?_
  refine va_get (D := (dC, dI)) (ci := 12) (v := .int 64) (C := RX12) (T := TX12) (N := 7) hx hb hts it_12 hown hK hP 0 rfl rfl 5 (by decide) (hts _ kt_305) (fun _ h9 => h9) rfl dX12_one_32 ?_
  refine lv_bipush (v := 64) hx hb dX12_one_35 (by decide) ?_
  refine lv_icmp_ge (tgt := 41) hx hb dX12_one_37 (by decide) (fun c_5 => ?_) (fun c_5 => absurd (by decide) c_5)
  refine lv_aload_n hx hb dX12_one_41 rfl (lv_at hl 0 rfl) ?_
  have hPc := hP.sub (ws' := [(h0, .inr (12, [.ref q1, .ref q2, .ref q3, .ref q4, .ref q5, .int 64, .long x_4])), (q1, .inl (c1, 8, .inl f1)), (q2, .inl (c2, 8, .inl f2)), (q3, .inl (c3, 64, .inl f3)), (q4, .inl (c4, 64, .inl f4)), (q5, .inl (c5, 64, .inl f_2))]) [0, 1, 2, 3, 4, 5] rfl
  have hDc := hD.sub (ws' := [(h0, .inr (12, [.ref q1, .ref q2, .ref q3, .ref q4, .ref q5, .int 64, .long x_4])), (q1, .inl (c1, 8, .inl f1)), (q2, .inl (c2, 8, .inl f2)), (q3, .inl (c3, 64, .inl f3)), (q4, .inl (c4, 64, .inl f4)), (q5, .inl (c5, 64, .inl f_2))]) [0, 1, 2, 3, 4, 5] (by decide) rfl
  have hKc := hK.sub (tys' := [(c1, .int), (c2, .int), (c3, .int), (c4, .int), (c5, .byte)]) [0, 1, 2, 3, 4] rfl
  have hFc := va_free (wc := [(h0, .inr (12, [.ref q1, .ref q2, .ref q3, .ref q4, .ref q5, .int 64, .long x_4])), (q1, .inl (c1, 8, .inl f1)), (q2, .inl (c2, 8, .inl f2)), (q3, .inl (c3, 64, .inl f3)), (q4, .inl (c4, 64, .inl f4)), (q5, .inl (c5, 64, .inl f_2))]) hD hS hA [0, 1, 2, 3, 4, 5] rfl
  refine va_callv (va_runV (As := []) (rest := []) ⟨hx, hb, hml, hown, hts⟩ (c_X12_round l dC dI H.size h0 q1 q2 q3 q4 q5 c1 c2 c3 c4 c5 f1 f2 f3 f4 f_2 64 x_4 ) ⟨callB_of 0 hts (gi kt_307) rfl rfl rfl (hts _ kt_285) (hts _ kt_308) (by decide +kernel) ⟨Nat.le_of_ble_eq_true rfl, Nat.le_of_ble_eq_true rfl⟩, (hts _ kt_309), (hts _ kt_310)⟩ ⟨fun a U g mk q => ⟨q.1, PW.calling q.2⟩, va_recv hKc hPc (ci := 12) (q0 := 0) rfl rfl, fun U hU hW => ⟨rfl, PW.mk hU hW hPc hKc hDc hE⟩⟩ rfl rfl hl.1 rfl (lv_room (Nat.le_of_ble_eq_true rfl)) dX12_one_42 ⟨by show _ + 0 ≤ 0; omega, by show _ + 0 ≤ 0; omega⟩) hS (fun q _ h => hFc q h) hFc (fun u t H1 locs ht hvm hw hB hz1 hk1 hS => ?_)
  obtain ⟨g2_7, g3_8, hB1⟩ := hB
  obtain ⟨hP, hD, hK⟩ := QW.join (wr := []) hP hD hK [0, 1, 2, 3, 4, 5] [] rfl rfl (by decide) (by decide) hk1 hFc ht hvm hB1
  generalize H1 = H at hP hS ⊢
  have hK : va_K (dC, dI) vwCl [(c1, .int), (c2, .int), (c3, .int), (c4, .int), (c5, .byte)] s := hK.sub [0, 1, 2, 3, 4] rfl
  have hP : va_P (dC, dI) vwCl [(h0, .inr (12, [.ref q1, .ref q2, .ref q3, .ref q4, .ref q5, .int 64, .long x_4])), (q1, .inl (c1, 8, .inl f1)), (q2, .inl (c2, 8, .inl g2_7)), (q3, .inl (c3, 64, .inl g3_8)), (q4, .inl (c4, 64, .inl f4)), (q5, .inl (c5, 64, .inl f_2))] H := hP
  have hD : va_D A [(h0, .inr (12, [.ref q1, .ref q2, .ref q3, .ref q4, .ref q5, .int 64, .long x_4])), (q1, .inl (c1, 8, .inl f1)), (q2, .inl (c2, 8, .inl g2_7)), (q3, .inl (c3, 64, .inl g3_8)), (q4, .inl (c4, 64, .inl f4)), (q5, .inl (c5, 64, .inl f_2))] := hD
  refine lv_aload_n hx hb dX12_one_45 rfl (lv_at hl 0 rfl) ?_
  refine lv_iconst (v := 0) hx hb dX12_one_46 (by decide) ?_
  refine va_put (D := (dC, dI)) (ci := 12) (v := .int 0) (ty := .int) (C := RX12) (T := TX12) (N := 7) hx hb hts it_12 tyX12 tyX12_ok nmX12 hown hK hP hD hS 0 rfl rfl 5 (by decide) (hts _ kt_305) (fun _ h9 => h9) rfl (by decide +kernel) rfl rfl (Nat.le_of_ble_eq_true rfl) dX12_one_47 (fun H locs hP hD hS => ?_)
  have hP : va_P (dC, dI) vwCl [(h0, .inr (12, [.ref q1, .ref q2, .ref q3, .ref q4, .ref q5, .int 0, .long x_4])), (q1, .inl (c1, 8, .inl f1)), (q2, .inl (c2, 8, .inl g2_7)), (q3, .inl (c3, 64, .inl g3_8)), (q4, .inl (c4, 64, .inl f4)), (q5, .inl (c5, 64, .inl f_2))] H := hP
  have hD : va_D A [(h0, .inr (12, [.ref q1, .ref q2, .ref q3, .ref q4, .ref q5, .int 0, .long x_4])), (q1, .inl (c1, 8, .inl f1)), (q2, .inl (c2, 8, .inl g2_7)), (q3, .inl (c3, 64, .inl g3_8)), (q4, .inl (c4, 64, .inl f4)), (q5, .inl (c5, 64, .inl f_2))] := hD
  have hP9 := hP.sub (ws' := [(h0, .inr (12, [.ref q1, .ref q2, .ref q3, .ref q4, .ref q5, .int 0, .long x_4])), (q1, .inl (c1, 8, .inl f1)), (q2, .inl (c2, 8, .inl g2_7)), (q3, .inl (c3, 64, .inl g3_8)), (q4, .inl (c4, 64, .inl f4)), (q5, .inl (c5, 64, .inl f_2))]) [0, 1, 2, 3, 4, 5] rfl
  have hD9 := hD.sub (ws' := [(h0, .inr (12, [.ref q1, .ref q2, .ref q3, .ref q4, .ref q5, .int 0, .long x_4])), (q1, .inl (c1, 8, .inl f1)), (q2, .inl (c2, 8, .inl g2_7)), (q3, .inl (c3, 64, .inl g3_8)), (q4, .inl (c4, 64, .inl f4)), (q5, .inl (c5, 64, .inl f_2))]) [0, 1, 2, 3, 4, 5] (by decide) rfl
  have hK9 := hK.sub (tys' := [(c1, .int), (c2, .int), (c3, .int), (c4, .int), (c5, .byte)]) [0, 1, 2, 3, 4] rfl
  refine W.widen (k := 0) (n := 0) (by omega) (by omega) ?_
  exact W.vret hx hb hr (fun t ht hW => ⟨⟨(), rfl, trivial, ⟨x_4, g2_7, g3_8, f_2, QW.mk ht hW hP9 hK9 hD9⟩⟩, hS.F ht⟩) hS.2.2 dX12_one_50
set_option maxHeartbeats 4000000 in
set_option maxRecDepth 100000 in
theorem c_X12_four (l : Launch) (dC : Nat → ClassId) (dI : Nat → Nat → Nat) (sz : Nat) (h0 : Nat) (n : Nat) (q1 : Nat) (q2 : Nat) (q3 : Nat) (q4 : Nat) (q5 : Nat) (c1 : ClassId) (c2 : ClassId) (c3 : ClassId) (c4 : ClassId) (c5 : ClassId) (f1 : Nat → Int32) (f2 : Nat → Int32) (f3 : Nat → Int32) (f4 : Nat → Int32) (f5 : Nat → Int32) (x1 : Int32) (a0 : Int64) (hn : n + 4 ≤ 63) : Met l yX12_four (.code yX12_four cX12_four 3 none :: tb) ({ frames := 1, cells := 0, slots := 0, locals := 21 }) (va_Pc [.ref h0, .int x1] (PW (dC, dI) sz [(h0, .inr (12, [.ref q1, .ref q2, .ref q3, .ref q4, .ref q5, .int (nI n), .long a0])), (q1, .inl (c1, 8, .inl f1)), (q2, .inl (c2, 8, .inl f2)), (q3, .inl (c3, 64, .inl f3)), (q4, .inl (c4, 64, .inl f4)), (q5, .inl (c5, 64, .inl f5))] [(c1, .int), (c2, .int), (c3, .int), (c4, .int), (c5, .byte)])) (va_Qv (fun _ : Unit => True) (fun _ T9 => ∃ (a2 : Int64) (g5 : Nat → Int32), QW (dC, dI) (va_A [(h0, .inr (12, [.ref q1, .ref q2, .ref q3, .ref q4, .ref q5, .int (nI n), .long a0])), (q1, .inl (c1, 8, .inl f1)), (q2, .inl (c2, 8, .inl f2)), (q3, .inl (c3, 64, .inl f3)), (q4, .inl (c4, 64, .inl f4)), (q5, .inl (c5, 64, .inl f5))] sz) [(h0, .inr (12, [.ref q1, .ref q2, .ref q3, .ref q4, .ref q5, .int (nI (n + 4)), .long a2])), (q1, .inl (c1, 8, .inl f1)), (q2, .inl (c2, 8, .inl f2)), (q3, .inl (c3, 64, .inl f3)), (q4, .inl (c4, 64, .inl f4)), (q5, .inl (c5, 64, .inl g5))] [(c1, .int), (c2, .int), (c3, .int), (c4, .int), (c5, .byte)] T9) (va_A [(h0, .inr (12, [.ref q1, .ref q2, .ref q3, .ref q4, .ref q5, .int (nI n), .long a0])), (q1, .inl (c1, 8, .inl f1)), (q2, .inl (c2, 8, .inl f2)), (q3, .inl (c3, 64, .inl f3)), (q4, .inl (c4, 64, .inl f4)), (q5, .inl (c5, 64, .inl f5))] sz)) 0 0 (va_A [(h0, .inr (12, [.ref q1, .ref q2, .ref q3, .ref q4, .ref q5, .int (nI n), .long a0])), (q1, .inl (c1, 8, .inl f1)), (q2, .inl (c2, 8, .inl f2)), (q3, .inl (c3, 64, .inl f3)), (q4, .inl (c4, 64, .inl f4)), (q5, .inl (c5, 64, .inl f5))] sz) := by
  refine Met.ofW (cc := cX12_four) (maxL := 3) (ret := none) (by decide) rfl ?_
  intro p e s m args below meth c s₁ B hml hv
  obtain ⟨rfl, hsz, hP, hK, hD0, hE⟩ := hv
  have hx := B.exec
  have hb := B.bytes
  have hr := B.returns
  have hts : ∀ w ∈ tb, w.before _ s = true := fun w h => atoms_spec (ws := .code yX12_four cX12_four 3 none :: tb) B.pre w (List.mem_cons_of_mem _ h)
  have hown : s.vm.findClass RX12 = some m.cls := findClass_of_methodNamed B.named
  have hlocks := B.notSynchronized
  subst hsz
  have hD := hD0.self (sz := s.heap.size)
  generalize hAe : va_A [(h0, .inr (12, [.ref q1, .ref q2, .ref q3, .ref q4, .ref q5, .int (nI n), .long a0])), (q1, .inl (c1, 8, .inl f1)), (q2, .inl (c2, 8, .inl f2)), (q3, .inl (c3, 64, .inl f3)), (q4, .inl (c4, 64, .inl f4)), (q5, .inl (c5, 64, .inl f5))] s.heap.size = A at hD ⊢
  have hA : ∀ q : Nat, s.heap.size ≤ q → A q := fun q h => by rw [← hAe]; exact Or.inr h
  have hS : va_S A s.heap s.heap [] := va_S.rf
  have hP : va_P (dC, dI) vwCl [(h0, .inr (12, [.ref q1, .ref q2, .ref q3, .ref q4, .ref q5, .int (nI n), .long a0])), (q1, .inl (c1, 8, .inl f1)), (q2, .inl (c2, 8, .inl f2)), (q3, .inl (c3, 64, .inl f3)), (q4, .inl (c4, 64, .inl f4)), (q5, .inl (c5, 64, .inl f5))] s.heap := hP
  have hl := lv_entry ([.ref h0, .int x1]) (n := 3) (Nat.le_of_ble_eq_true rfl)
  rw [lg_entry_eq]
  generalize (lg_sl ([.ref h0, .int x1]) ++ List.replicate (3 - (lg_sl ([.ref h0, .int x1])).length) Slot.unset).toArray = ls at hl ⊢
  have hl : lv_has ls 3 [(0, .ref h0), (1, .int x1)] := hl
  refine lv_bipush (v := 24) hx hb dX12_four_0 (by decide) ?_
  refine lv_istore_n (lv' := [(2, .int 24), (0, .ref h0), (1, .int x1)]) hx hb dX12_four_2 rfl hl (by decide) rfl (fun ls hl => ?_)
  refine lv_iload_n hx hb dX12_four_3 rfl (lv_at hl 0 rfl) ?_
  refine lv_if_lt (tgt := 20) hx hb dX12_four_4 (by decide) (fun c_1 => absurd c_1 (by decide)) (fun c_1 => ?_)
  refine lv_aload_n hx hb dX12_four_7 rfl (lv_at hl 1 rfl) ?_
  refine lv_iload_n hx hb dX12_four_8 rfl (lv_at hl 2 rfl) ?_
  refine lv_iload_n hx hb dX12_four_9 rfl (lv_at hl 0 rfl) ?_
  refine lv_ishr hx hb dX12_four_10 ?_
  refine lv_topi (fun x_2 _ => ?_)
  have hPc := hP.sub (ws' := [(h0, .inr (12, [.ref q1, .ref q2, .ref q3, .ref q4, .ref q5, .int (nI n), .long a0])), (q1, .inl (c1, 8, .inl f1)), (q2, .inl (c2, 8, .inl f2)), (q3, .inl (c3, 64, .inl f3)), (q4, .inl (c4, 64, .inl f4)), (q5, .inl (c5, 64, .inl f5))]) [0, 1, 2, 3, 4, 5] rfl
  have hDc := hD.sub (ws' := [(h0, .inr (12, [.ref q1, .ref q2, .ref q3, .ref q4, .ref q5, .int (nI n), .long a0])), (q1, .inl (c1, 8, .inl f1)), (q2, .inl (c2, 8, .inl f2)), (q3, .inl (c3, 64, .inl f3)), (q4, .inl (c4, 64, .inl f4)), (q5, .inl (c5, 64, .inl f5))]) [0, 1, 2, 3, 4, 5] (by decide) rfl
  have hKc := hK.sub (tys' := [(c1, .int), (c2, .int), (c3, .int), (c4, .int), (c5, .byte)]) [0, 1, 2, 3, 4] rfl
  have hFc := va_free (wc := [(h0, .inr (12, [.ref q1, .ref q2, .ref q3, .ref q4, .ref q5, .int (nI n), .long a0])), (q1, .inl (c1, 8, .inl f1)), (q2, .inl (c2, 8, .inl f2)), (q3, .inl (c3, 64, .inl f3)), (q4, .inl (c4, 64, .inl f4)), (q5, .inl (c5, 64, .inl f5))]) hD hS hA [0, 1, 2, 3, 4, 5] rfl
  refine va_callv (va_runV (As := [.int x_2]) (rest := []) ⟨hx, hb, hml, hown, hts⟩ (c_X12_one l dC dI s.heap.size h0 n q1 q2 q3 q4 q5 c1 c2 c3 c4 c5 f1 f2 f3 f4 f5 x_2 a0 (by omega)) ⟨callB_of 1 hts (gi kt_311) rfl rfl rfl (hts _ kt_285) (hts _ kt_312) (by decide +kernel) ⟨Nat.le_of_ble_eq_true rfl, Nat.le_of_ble_eq_true rfl⟩, (hts _ kt_313), (hts _ kt_314)⟩ ⟨fun a U g mk q => ⟨q.1, PW.calling q.2⟩, va_recv hKc hPc (ci := 12) (q0 := 0) rfl rfl, fun U hU hW => ⟨rfl, PW.mk hU hW hPc hKc hDc hE⟩⟩ rfl rfl hl.1 rfl (lv_room (Nat.le_of_ble_eq_true rfl)) dX12_four_11 ⟨by show _ + 0 ≤ 0; omega, by show _ + 0 ≤ 0; omega⟩) hS (fun q _ h => hFc q h) hFc (fun u t H1 locs ht hvm hw hB hz1 hk1 hS => ?_)
  obtain ⟨a2_4, g5_5, hB1⟩ := hB
  obtain ⟨hP, hD, hK⟩ := QW.join (wr := []) hP hD hK [0, 1, 2, 3, 4, 5] [] rfl rfl (by decide) (by decide) hk1 hFc ht hvm hB1
  generalize H1 = H at hP hS ⊢
  have hK : va_K (dC, dI) vwCl [(c1, .int), (c2, .int), (c3, .int), (c4, .int), (c5, .byte)] s := hK.sub [0, 1, 2, 3, 4] rfl
  have hP : va_P (dC, dI) vwCl [(h0, .inr (12, [.ref q1, .ref q2, .ref q3, .ref q4, .ref q5, .int (nI (n + 1)), .long a2_4])), (q1, .inl (c1, 8, .inl f1)), (q2, .inl (c2, 8, .inl f2)), (q3, .inl (c3, 64, .inl f3)), (q4, .inl (c4, 64, .inl f4)), (q5, .inl (c5, 64, .inl g5_5))] H := hP
  have hD : va_D A [(h0, .inr (12, [.ref q1, .ref q2, .ref q3, .ref q4, .ref q5, .int (nI (n + 1)), .long a2_4])), (q1, .inl (c1, 8, .inl f1)), (q2, .inl (c2, 8, .inl f2)), (q3, .inl (c3, 64, .inl f3)), (q4, .inl (c4, 64, .inl f4)), (q5, .inl (c5, 64, .inl g5_5))] := hD
  refine lv_iinc (v := 16) (lv' := [(2, .int 16), (0, .ref h0), (1, .int x1)]) hx hb dX12_four_14 hl (k := 0) rfl (by decide) (by decide) rfl (fun ls hl => ?_)
  refine lv_goto (tgt := 3) hx hb dX12_four_17 (by decide) ?_
  refine lv_iload_n hx hb dX12_four_3 rfl (lv_at hl 0 rfl) ?_
  refine lv_if_lt (tgt := 20) hx hb dX12_four_4 (by decide) (fun c_6 => absurd c_6 (by decide)) (fun c_6 => ?_)
  refine lv_aload_n hx hb dX12_four_7 rfl (lv_at hl 1 rfl) ?_
  refine lv_iload_n hx hb dX12_four_8 rfl (lv_at hl 2 rfl) ?_
  refine lv_iload_n hx hb dX12_four_9 rfl (lv_at hl 0 rfl) ?_
  refine lv_ishr hx hb dX12_four_10 ?_
  refine lv_topi (fun x_7 _ => ?_)
  have hPc := hP.sub (ws' := [(h0, .inr (12, [.ref q1, .ref q2, .ref q3, .ref q4, .ref q5, .int (nI (n + 1)), .long a2_4])), (q1, .inl (c1, 8, .inl f1)), (q2, .inl (c2, 8, .inl f2)), (q3, .inl (c3, 64, .inl f3)), (q4, .inl (c4, 64, .inl f4)), (q5, .inl (c5, 64, .inl g5_5))]) [0, 1, 2, 3, 4, 5] rfl
  have hDc := hD.sub (ws' := [(h0, .inr (12, [.ref q1, .ref q2, .ref q3, .ref q4, .ref q5, .int (nI (n + 1)), .long a2_4])), (q1, .inl (c1, 8, .inl f1)), (q2, .inl (c2, 8, .inl f2)), (q3, .inl (c3, 64, .inl f3)), (q4, .inl (c4, 64, .inl f4)), (q5, .inl (c5, 64, .inl g5_5))]) [0, 1, 2, 3, 4, 5] (by decide) rfl
  have hKc := hK.sub (tys' := [(c1, .int), (c2, .int), (c3, .int), (c4, .int), (c5, .byte)]) [0, 1, 2, 3, 4] rfl
  have hFc := va_free (wc := [(h0, .inr (12, [.ref q1, .ref q2, .ref q3, .ref q4, .ref q5, .int (nI (n + 1)), .long a2_4])), (q1, .inl (c1, 8, .inl f1)), (q2, .inl (c2, 8, .inl f2)), (q3, .inl (c3, 64, .inl f3)), (q4, .inl (c4, 64, .inl f4)), (q5, .inl (c5, 64, .inl g5_5))]) hD hS hA [0, 1, 2, 3, 4, 5] rfl
  refine va_callv (va_runV (As := [.int x_7]) (rest := []) ⟨hx, hb, hml, hown, hts⟩ (c_X12_one l dC dI H.size h0 (n + 1) q1 q2 q3 q4 q5 c1 c2 c3 c4 c5 f1 f2 f3 f4 g5_5 x_7 a2_4 (by omega)) ⟨callB_of 1 hts (gi kt_311) rfl rfl rfl (hts _ kt_285) (hts _ kt_312) (by decide +kernel) ⟨Nat.le_of_ble_eq_true rfl, Nat.le_of_ble_eq_true rfl⟩, (hts _ kt_313), (hts _ kt_314)⟩ ⟨fun a U g mk q => ⟨q.1, PW.calling q.2⟩, va_recv hKc hPc (ci := 12) (q0 := 0) rfl rfl, fun U hU hW => ⟨rfl, PW.mk hU hW hPc hKc hDc hE⟩⟩ rfl rfl hl.1 rfl (lv_room (Nat.le_of_ble_eq_true rfl)) dX12_four_11 ⟨by show _ + 0 ≤ 0; omega, by show _ + 0 ≤ 0; omega⟩) hS (fun q _ h => hFc q h) hFc (fun u t H1 locs ht hvm hw hB hz1 hk1 hS => ?_)
  obtain ⟨a2_9, g5_10, hB1⟩ := hB
  obtain ⟨hP, hD, hK⟩ := QW.join (wr := []) hP hD hK [0, 1, 2, 3, 4, 5] [] rfl rfl (by decide) (by decide) hk1 hFc ht hvm hB1
  generalize H1 = H at hP hS ⊢
  have hK : va_K (dC, dI) vwCl [(c1, .int), (c2, .int), (c3, .int), (c4, .int), (c5, .byte)] s := hK.sub [0, 1, 2, 3, 4] rfl
  have hP : va_P (dC, dI) vwCl [(h0, .inr (12, [.ref q1, .ref q2, .ref q3, .ref q4, .ref q5, .int (nI (n + 2)), .long a2_9])), (q1, .inl (c1, 8, .inl f1)), (q2, .inl (c2, 8, .inl f2)), (q3, .inl (c3, 64, .inl f3)), (q4, .inl (c4, 64, .inl f4)), (q5, .inl (c5, 64, .inl g5_10))] H := hP
  have hD : va_D A [(h0, .inr (12, [.ref q1, .ref q2, .ref q3, .ref q4, .ref q5, .int (nI (n + 2)), .long a2_9])), (q1, .inl (c1, 8, .inl f1)), (q2, .inl (c2, 8, .inl f2)), (q3, .inl (c3, 64, .inl f3)), (q4, .inl (c4, 64, .inl f4)), (q5, .inl (c5, 64, .inl g5_10))] := hD
  refine lv_iinc (v := 8) (lv' := [(2, .int 8), (0, .ref h0), (1, .int x1)]) hx hb dX12_four_14 hl (k := 0) rfl (by decide) (by decide) rfl (fun ls hl => ?_)
  refine lv_goto (tgt := 3) hx hb dX12_four_17 (by decide) ?_
  refine lv_iload_n hx hb dX12_four_3 rfl (lv_at hl 0 rfl) ?_
  refine lv_if_lt (tgt := 20) hx hb dX12_four_4 (by decide) (fun c_11 => absurd c_11 (by decide)) (fun c_11 => ?_)
  refine lv_aload_n hx hb dX12_four_7 rfl (lv_at hl 1 rfl) ?_
  refine lv_iload_n hx hb dX12_four_8 rfl (lv_at hl 2 rfl) ?_
  refine lv_iload_n hx hb dX12_four_9 rfl (lv_at hl 0 rfl) ?_
  refine lv_ishr hx hb dX12_four_10 ?_
  refine lv_topi (fun x_12 _ => ?_)
  have hPc := hP.sub (ws' := [(h0, .inr (12, [.ref q1, .ref q2, .ref q3, .ref q4, .ref q5, .int (nI (n + 2)), .long a2_9])), (q1, .inl (c1, 8, .inl f1)), (q2, .inl (c2, 8, .inl f2)), (q3, .inl (c3, 64, .inl f3)), (q4, .inl (c4, 64, .inl f4)), (q5, .inl (c5, 64, .inl g5_10))]) [0, 1, 2, 3, 4, 5] rfl
  have hDc := hD.sub (ws' := [(h0, .inr (12, [.ref q1, .ref q2, .ref q3, .ref q4, .ref q5, .int (nI (n + 2)), .long a2_9])), (q1, .inl (c1, 8, .inl f1)), (q2, .inl (c2, 8, .inl f2)), (q3, .inl (c3, 64, .inl f3)), (q4, .inl (c4, 64, .inl f4)), (q5, .inl (c5, 64, .inl g5_10))]) [0, 1, 2, 3, 4, 5] (by decide) rfl
  have hKc := hK.sub (tys' := [(c1, .int), (c2, .int), (c3, .int), (c4, .int), (c5, .byte)]) [0, 1, 2, 3, 4] rfl
  have hFc := va_free (wc := [(h0, .inr (12, [.ref q1, .ref q2, .ref q3, .ref q4, .ref q5, .int (nI (n + 2)), .long a2_9])), (q1, .inl (c1, 8, .inl f1)), (q2, .inl (c2, 8, .inl f2)), (q3, .inl (c3, 64, .inl f3)), (q4, .inl (c4, 64, .inl f4)), (q5, .inl (c5, 64, .inl g5_10))]) hD hS hA [0, 1, 2, 3, 4, 5] rfl
  refine va_callv (va_runV (As := [.int x_12]) (rest := []) ⟨hx, hb, hml, hown, hts⟩ (c_X12_one l dC dI H.size h0 (n + 2) q1 q2 q3 q4 q5 c1 c2 c3 c4 c5 f1 f2 f3 f4 g5_10 x_12 a2_9 (by omega)) ⟨callB_of 1 hts (gi kt_311) rfl rfl rfl (hts _ kt_285) (hts _ kt_312) (by decide +kernel) ⟨Nat.le_of_ble_eq_true rfl, Nat.le_of_ble_eq_true rfl⟩, (hts _ kt_313), (hts _ kt_314)⟩ ⟨fun a U g mk q => ⟨q.1, PW.calling q.2⟩, va_recv hKc hPc (ci := 12) (q0 := 0) rfl rfl, fun U hU hW => ⟨rfl, PW.mk hU hW hPc hKc hDc hE⟩⟩ rfl rfl hl.1 rfl (lv_room (Nat.le_of_ble_eq_true rfl)) dX12_four_11 ⟨by show _ + 0 ≤ 0; omega, by show _ + 0 ≤ 0; omega⟩) hS (fun q _ h => hFc q h) hFc (fun u t H1 locs ht hvm hw hB hz1 hk1 hS => ?_)
  obtain ⟨a2_14, g5_15, hB1⟩ := hB
  obtain ⟨hP, hD, hK⟩ := QW.join (wr := []) hP hD hK [0, 1, 2, 3, 4, 5] [] rfl rfl (by decide) (by decide) hk1 hFc ht hvm hB1
  generalize H1 = H at hP hS ⊢
  have hK : va_K (dC, dI) vwCl [(c1, .int), (c2, .int), (c3, .int), (c4, .int), (c5, .byte)] s := hK.sub [0, 1, 2, 3, 4] rfl
  have hP : va_P (dC, dI) vwCl [(h0, .inr (12, [.ref q1, .ref q2, .ref q3, .ref q4, .ref q5, .int (nI (n + 3)), .long a2_14])), (q1, .inl (c1, 8, .inl f1)), (q2, .inl (c2, 8, .inl f2)), (q3, .inl (c3, 64, .inl f3)), (q4, .inl (c4, 64, .inl f4)), (q5, .inl (c5, 64, .inl g5_15))] H := hP
  have hD : va_D A [(h0, .inr (12, [.ref q1, .ref q2, .ref q3, .ref q4, .ref q5, .int (nI (n + 3)), .long a2_14])), (q1, .inl (c1, 8, .inl f1)), (q2, .inl (c2, 8, .inl f2)), (q3, .inl (c3, 64, .inl f3)), (q4, .inl (c4, 64, .inl f4)), (q5, .inl (c5, 64, .inl g5_15))] := hD
  refine lv_iinc (v := 0) (lv' := [(2, .int 0), (0, .ref h0), (1, .int x1)]) hx hb dX12_four_14 hl (k := 0) rfl (by decide) (by decide) rfl (fun ls hl => ?_)
  refine lv_goto (tgt := 3) hx hb dX12_four_17 (by decide) ?_
  refine lv_iload_n hx hb dX12_four_3 rfl (lv_at hl 0 rfl) ?_
  refine lv_if_lt (tgt := 20) hx hb dX12_four_4 (by decide) (fun c_16 => absurd c_16 (by decide)) (fun c_16 => ?_)
  refine lv_aload_n hx hb dX12_four_7 rfl (lv_at hl 1 rfl) ?_
  refine lv_iload_n hx hb dX12_four_8 rfl (lv_at hl 2 rfl) ?_
  refine lv_iload_n hx hb dX12_four_9 rfl (lv_at hl 0 rfl) ?_
  refine lv_ishr hx hb dX12_four_10 ?_
  refine lv_topi (fun x_17 _ => ?_)
  have hPc := hP.sub (ws' := [(h0, .inr (12, [.ref q1, .ref q2, .ref q3, .ref q4, .ref q5, .int (nI (n + 3)), .long a2_14])), (q1, .inl (c1, 8, .inl f1)), (q2, .inl (c2, 8, .inl f2)), (q3, .inl (c3, 64, .inl f3)), (q4, .inl (c4, 64, .inl f4)), (q5, .inl (c5, 64, .inl g5_15))]) [0, 1, 2, 3, 4, 5] rfl
  have hDc := hD.sub (ws' := [(h0, .inr (12, [.ref q1, .ref q2, .ref q3, .ref q4, .ref q5, .int (nI (n + 3)), .long a2_14])), (q1, .inl (c1, 8, .inl f1)), (q2, .inl (c2, 8, .inl f2)), (q3, .inl (c3, 64, .inl f3)), (q4, .inl (c4, 64, .inl f4)), (q5, .inl (c5, 64, .inl g5_15))]) [0, 1, 2, 3, 4, 5] (by decide) rfl
  have hKc := hK.sub (tys' := [(c1, .int), (c2, .int), (c3, .int), (c4, .int), (c5, .byte)]) [0, 1, 2, 3, 4] rfl
  have hFc := va_free (wc := [(h0, .inr (12, [.ref q1, .ref q2, .ref q3, .ref q4, .ref q5, .int (nI (n + 3)), .long a2_14])), (q1, .inl (c1, 8, .inl f1)), (q2, .inl (c2, 8, .inl f2)), (q3, .inl (c3, 64, .inl f3)), (q4, .inl (c4, 64, .inl f4)), (q5, .inl (c5, 64, .inl g5_15))]) hD hS hA [0, 1, 2, 3, 4, 5] rfl
  refine va_callv (va_runV (As := [.int x_17]) (rest := []) ⟨hx, hb, hml, hown, hts⟩ (c_X12_one l dC dI H.size h0 (n + 3) q1 q2 q3 q4 q5 c1 c2 c3 c4 c5 f1 f2 f3 f4 g5_15 x_17 a2_14 (by omega)) ⟨callB_of 1 hts (gi kt_311) rfl rfl rfl (hts _ kt_285) (hts _ kt_312) (by decide +kernel) ⟨Nat.le_of_ble_eq_true rfl, Nat.le_of_ble_eq_true rfl⟩, (hts _ kt_313), (hts _ kt_314)⟩ ⟨fun a U g mk q => ⟨q.1, PW.calling q.2⟩, va_recv hKc hPc (ci := 12) (q0 := 0) rfl rfl, fun U hU hW => ⟨rfl, PW.mk hU hW hPc hKc hDc hE⟩⟩ rfl rfl hl.1 rfl (lv_room (Nat.le_of_ble_eq_true rfl)) dX12_four_11 ⟨by show _ + 0 ≤ 0; omega, by show _ + 0 ≤ 0; omega⟩) hS (fun q _ h => hFc q h) hFc (fun u t H1 locs ht hvm hw hB hz1 hk1 hS => ?_)
  obtain ⟨a2_19, g5_20, hB1⟩ := hB
  obtain ⟨hP, hD, hK⟩ := QW.join (wr := []) hP hD hK [0, 1, 2, 3, 4, 5] [] rfl rfl (by decide) (by decide) hk1 hFc ht hvm hB1
  generalize H1 = H at hP hS ⊢
  have hK : va_K (dC, dI) vwCl [(c1, .int), (c2, .int), (c3, .int), (c4, .int), (c5, .byte)] s := hK.sub [0, 1, 2, 3, 4] rfl
  have hP : va_P (dC, dI) vwCl [(h0, .inr (12, [.ref q1, .ref q2, .ref q3, .ref q4, .ref q5, .int (nI (n + 4)), .long a2_19])), (q1, .inl (c1, 8, .inl f1)), (q2, .inl (c2, 8, .inl f2)), (q3, .inl (c3, 64, .inl f3)), (q4, .inl (c4, 64, .inl f4)), (q5, .inl (c5, 64, .inl g5_20))] H := hP
  have hD : va_D A [(h0, .inr (12, [.ref q1, .ref q2, .ref q3, .ref q4, .ref q5, .int (nI (n + 4)), .long a2_19])), (q1, .inl (c1, 8, .inl f1)), (q2, .inl (c2, 8, .inl f2)), (q3, .inl (c3, 64, .inl f3)), (q4, .inl (c4, 64, .inl f4)), (q5, .inl (c5, 64, .inl g5_20))] := hD
  refine lv_iinc (v := (-8)) (lv' := [(2, .int (-8)), (0, .ref h0), (1, .int x1)]) hx hb dX12_four_14 hl (k := 0) rfl (by decide) (by decide) rfl (fun ls hl => ?_)
  refine lv_goto (tgt := 3) hx hb dX12_four_17 (by decide) ?_
  refine lv_iload_n hx hb dX12_four_3 rfl (lv_at hl 0 rfl) ?_
  refine lv_if_lt (tgt := 20) hx hb dX12_four_4 (by decide) (fun c_21 => ?_) (fun c_21 => absurd (by decide) c_21)
  have hP9 := hP.sub (ws' := [(h0, .inr (12, [.ref q1, .ref q2, .ref q3, .ref q4, .ref q5, .int (nI (n + 4)), .long a2_19])), (q1, .inl (c1, 8, .inl f1)), (q2, .inl (c2, 8, .inl f2)), (q3, .inl (c3, 64, .inl f3)), (q4, .inl (c4, 64, .inl f4)), (q5, .inl (c5, 64, .inl g5_20))]) [0, 1, 2, 3, 4, 5] rfl
  have hD9 := hD.sub (ws' := [(h0, .inr (12, [.ref q1, .ref q2, .ref q3, .ref q4, .ref q5, .int (nI (n + 4)), .long a2_19])), (q1, .inl (c1, 8, .inl f1)), (q2, .inl (c2, 8, .inl f2)), (q3, .inl (c3, 64, .inl f3)), (q4, .inl (c4, 64, .inl f4)), (q5, .inl (c5, 64, .inl g5_20))]) [0, 1, 2, 3, 4, 5] (by decide) rfl
  have hK9 := hK.sub (tys' := [(c1, .int), (c2, .int), (c3, .int), (c4, .int), (c5, .byte)]) [0, 1, 2, 3, 4] rfl
  refine W.widen (k := 0) (n := 0) (by omega) (by omega) ?_
  exact W.vret hx hb hr (fun t ht hW => ⟨⟨(), rfl, trivial, ⟨a2_19, g5_20, QW.mk ht hW hP9 hK9 hD9⟩⟩, hS.F ht⟩) hS.2.2 dX12_four_20
set_option maxHeartbeats 4000000 in
set_option maxRecDepth 100000 in
theorem c_X12_four_b (l : Launch) (dC : Nat → ClassId) (dI : Nat → Nat → Nat) (sz : Nat) (h0 : Nat) (q1 : Nat) (q2 : Nat) (q3 : Nat) (q4 : Nat) (q5 : Nat) (c1 : ClassId) (c2 : ClassId) (c3 : ClassId) (c4 : ClassId) (c5 : ClassId) (f1 : Nat → Int32) (f2 : Nat → Int32) (f3 : Nat → Int32) (f4 : Nat → Int32) (f5 : Nat → Int32) (x1 : Int32) (a0 : Int64) : Met l yX12_four (.code yX12_four cX12_four 3 none :: tb) ({ frames := 3, cells := 0, slots := 0, locals := 73 }) (va_Pc [.ref h0, .int x1] (PW (dC, dI) sz [(h0, .inr (12, [.ref q1, .ref q2, .ref q3, .ref q4, .ref q5, .int (nI 60), .long a0])), (q1, .inl (c1, 8, .inl f1)), (q2, .inl (c2, 8, .inl f2)), (q3, .inl (c3, 64, .inl f3)), (q4, .inl (c4, 64, .inl f4)), (q5, .inl (c5, 64, .inl f5))] [(c1, .int), (c2, .int), (c3, .int), (c4, .int), (c5, .byte)])) (va_Qv (fun _ : Unit => True) (fun _ T9 => ∃ (a2 : Int64) (g2 : Nat → Int32) (g3 : Nat → Int32) (g5 : Nat → Int32), QW (dC, dI) (va_A [(h0, .inr (12, [.ref q1, .ref q2, .ref q3, .ref q4, .ref q5, .int (nI 60), .long a0])), (q1, .inl (c1, 8, .inl f1)), (q2, .inl (c2, 8, .inl f2)), (q3, .inl (c3, 64, .inl f3)), (q4, .inl (c4, 64, .inl f4)), (q5, .inl (c5, 64, .inl f5))] sz) [(h0, .inr (12, [.ref q1, .ref q2, .ref q3, .ref q4, .ref q5, .int 0, .long a2])), (q1, .inl (c1, 8, .inl f1)), (q2, .inl (c2, 8, .inl g2)), (q3, .inl (c3, 64, .inl g3)), (q4, .inl (c4, 64, .inl f4)), (q5, .inl (c5, 64, .inl g5))] [(c1, .int), (c2, .int), (c3, .int), (c4, .int), (c5, .byte)] T9) (va_A [(h0, .inr (12, [.ref q1, .ref q2, .ref q3, .ref q4, .ref q5, .int (nI 60), .long a0])), (q1, .inl (c1, 8, .inl f1)), (q2, .inl (c2, 8, .inl f2)), (q3, .inl (c3, 64, .inl f3)), (q4, .inl (c4, 64, .inl f4)), (q5, .inl (c5, 64, .inl f5))] sz)) 0 0 (va_A [(h0, .inr (12, [.ref q1, .ref q2, .ref q3, .ref q4, .ref q5, .int (nI 60), .long a0])), (q1, .inl (c1, 8, .inl f1)), (q2, .inl (c2, 8, .inl f2)), (q3, .inl (c3, 64, .inl f3)), (q4, .inl (c4, 64, .inl f4)), (q5, .inl (c5, 64, .inl f5))] sz) := by
  refine Met.ofW (cc := cX12_four) (maxL := 3) (ret := none) (by decide) rfl ?_
  intro p e s m args below meth c s₁ B hml hv
  obtain ⟨rfl, hsz, hP, hK, hD0, hE⟩ := hv
  have hx := B.exec
  have hb := B.bytes
  have hr := B.returns
  have hts : ∀ w ∈ tb, w.before _ s = true := fun w h => atoms_spec (ws := .code yX12_four cX12_four 3 none :: tb) B.pre w (List.mem_cons_of_mem _ h)
  have hown : s.vm.findClass RX12 = some m.cls := findClass_of_methodNamed B.named
  have hlocks := B.notSynchronized
  subst hsz
  have hD := hD0.self (sz := s.heap.size)
  generalize hAe : va_A [(h0, .inr (12, [.ref q1, .ref q2, .ref q3, .ref q4, .ref q5, .int (nI 60), .long a0])), (q1, .inl (c1, 8, .inl f1)), (q2, .inl (c2, 8, .inl f2)), (q3, .inl (c3, 64, .inl f3)), (q4, .inl (c4, 64, .inl f4)), (q5, .inl (c5, 64, .inl f5))] s.heap.size = A at hD ⊢
  have hA : ∀ q : Nat, s.heap.size ≤ q → A q := fun q h => by rw [← hAe]; exact Or.inr h
  have hS : va_S A s.heap s.heap [] := va_S.rf
  have hP : va_P (dC, dI) vwCl [(h0, .inr (12, [.ref q1, .ref q2, .ref q3, .ref q4, .ref q5, .int (nI 60), .long a0])), (q1, .inl (c1, 8, .inl f1)), (q2, .inl (c2, 8, .inl f2)), (q3, .inl (c3, 64, .inl f3)), (q4, .inl (c4, 64, .inl f4)), (q5, .inl (c5, 64, .inl f5))] s.heap := hP
  have hl := lv_entry ([.ref h0, .int x1]) (n := 3) (Nat.le_of_ble_eq_true rfl)
  rw [lg_entry_eq]
  generalize (lg_sl ([.ref h0, .int x1]) ++ List.replicate (3 - (lg_sl ([.ref h0, .int x1])).length) Slot.unset).toArray = ls at hl ⊢
  have hl : lv_has ls 3 [(0, .ref h0), (1, .int x1)] := hl
  refine lv_bipush (v := 24) hx hb dX12_four_0 (by decide) ?_
  refine lv_istore_n (lv' := [(2, .int 24), (0, .ref h0), (1, .int x1)]) hx hb dX12_four_2 rfl hl (by decide) rfl (fun ls hl => ?_)
  refine lv_iload_n hx hb dX12_four_3 rfl (lv_at hl 0 rfl) ?_
  refine lv_if_lt (tgt := 20) hx hb dX12_four_4 (by decide) (fun c_1 => absurd c_1 (by decide)) (fun c_1 => ?_)
  refine lv_aload_n hx hb dX12_four_7 rfl (lv_at hl 1 rfl) ?_
  refine lv_iload_n hx hb dX12_four_8 rfl (lv_at hl 2 rfl) ?_
  refine lv_iload_n hx hb dX12_four_9 rfl (lv_at hl 0 rfl) ?_
  refine lv_ishr hx hb dX12_four_10 ?_
  refine lv_topi (fun x_2 _ => ?_)
  have hPc := hP.sub (ws' := [(h0, .inr (12, [.ref q1, .ref q2, .ref q3, .ref q4, .ref q5, .int (nI 60), .long a0])), (q1, .inl (c1, 8, .inl f1)), (q2, .inl (c2, 8, .inl f2)), (q3, .inl (c3, 64, .inl f3)), (q4, .inl (c4, 64, .inl f4)), (q5, .inl (c5, 64, .inl f5))]) [0, 1, 2, 3, 4, 5] rfl
  have hDc := hD.sub (ws' := [(h0, .inr (12, [.ref q1, .ref q2, .ref q3, .ref q4, .ref q5, .int (nI 60), .long a0])), (q1, .inl (c1, 8, .inl f1)), (q2, .inl (c2, 8, .inl f2)), (q3, .inl (c3, 64, .inl f3)), (q4, .inl (c4, 64, .inl f4)), (q5, .inl (c5, 64, .inl f5))]) [0, 1, 2, 3, 4, 5] (by decide) rfl
  have hKc := hK.sub (tys' := [(c1, .int), (c2, .int), (c3, .int), (c4, .int), (c5, .byte)]) [0, 1, 2, 3, 4] rfl
  have hFc := va_free (wc := [(h0, .inr (12, [.ref q1, .ref q2, .ref q3, .ref q4, .ref q5, .int (nI 60), .long a0])), (q1, .inl (c1, 8, .inl f1)), (q2, .inl (c2, 8, .inl f2)), (q3, .inl (c3, 64, .inl f3)), (q4, .inl (c4, 64, .inl f4)), (q5, .inl (c5, 64, .inl f5))]) hD hS hA [0, 1, 2, 3, 4, 5] rfl
  refine va_callv (va_runV (As := [.int x_2]) (rest := []) ⟨hx, hb, hml, hown, hts⟩ (c_X12_one l dC dI s.heap.size h0 60 q1 q2 q3 q4 q5 c1 c2 c3 c4 c5 f1 f2 f3 f4 f5 x_2 a0 (by omega)) ⟨callB_of 1 hts (gi kt_311) rfl rfl rfl (hts _ kt_285) (hts _ kt_312) (by decide +kernel) ⟨Nat.le_of_ble_eq_true rfl, Nat.le_of_ble_eq_true rfl⟩, (hts _ kt_313), (hts _ kt_314)⟩ ⟨fun a U g mk q => ⟨q.1, PW.calling q.2⟩, va_recv hKc hPc (ci := 12) (q0 := 0) rfl rfl, fun U hU hW => ⟨rfl, PW.mk hU hW hPc hKc hDc hE⟩⟩ rfl rfl hl.1 rfl (lv_room (Nat.le_of_ble_eq_true rfl)) dX12_four_11 ⟨by show _ + 0 ≤ 0; omega, by show _ + 0 ≤ 0; omega⟩) hS (fun q _ h => hFc q h) hFc (fun u t H1 locs ht hvm hw hB hz1 hk1 hS => ?_)
  obtain ⟨a2_4, g5_5, hB1⟩ := hB
  obtain ⟨hP, hD, hK⟩ := QW.join (wr := []) hP hD hK [0, 1, 2, 3, 4, 5] [] rfl rfl (by decide) (by decide) hk1 hFc ht hvm hB1
  generalize H1 = H at hP hS ⊢
  have hK : va_K (dC, dI) vwCl [(c1, .int), (c2, .int), (c3, .int), (c4, .int), (c5, .byte)] s := hK.sub [0, 1, 2, 3, 4] rfl
  have hP : va_P (dC, dI) vwCl [(h0, .inr (12, [.ref q1, .ref q2, .ref q3, .ref q4, .ref q5, .int (nI 61), .long a2_4])), (q1, .inl (c1, 8, .inl f1)), (q2, .inl (c2, 8, .inl f2)), (q3, .inl (c3, 64, .inl f3)), (q4, .inl (c4, 64, .inl f4)), (q5, .inl (c5, 64, .inl g5_5))] H := hP
  have hD : va_D A [(h0, .inr (12, [.ref q1, .ref q2, .ref q3, .ref q4, .ref q5, .int (nI 61), .long a2_4])), (q1, .inl (c1, 8, .inl f1)), (q2, .inl (c2, 8, .inl f2)), (q3, .inl (c3, 64, .inl f3)), (q4, .inl (c4, 64, .inl f4)), (q5, .inl (c5, 64, .inl g5_5))] := hD
  refine lv_iinc (v := 16) (lv' := [(2, .int 16), (0, .ref h0), (1, .int x1)]) hx hb dX12_four_14 hl (k := 0) rfl (by decide) (by decide) rfl (fun ls hl => ?_)
  refine lv_goto (tgt := 3) hx hb dX12_four_17 (by decide) ?_
  refine lv_iload_n hx hb dX12_four_3 rfl (lv_at hl 0 rfl) ?_
  refine lv_if_lt (tgt := 20) hx hb dX12_four_4 (by decide) (fun c_6 => absurd c_6 (by decide)) (fun c_6 => ?_)
  refine lv_aload_n hx hb dX12_four_7 rfl (lv_at hl 1 rfl) ?_
  refine lv_iload_n hx hb dX12_four_8 rfl (lv_at hl 2 rfl) ?_
  refine lv_iload_n hx hb dX12_four_9 rfl (lv_at hl 0 rfl) ?_
  refine lv_ishr hx hb dX12_four_10 ?_
  refine lv_topi (fun x_7 _ => ?_)
  have hPc := hP.sub (ws' := [(h0, .inr (12, [.ref q1, .ref q2, .ref q3, .ref q4, .ref q5, .int (nI 61), .long a2_4])), (q1, .inl (c1, 8, .inl f1)), (q2, .inl (c2, 8, .inl f2)), (q3, .inl (c3, 64, .inl f3)), (q4, .inl (c4, 64, .inl f4)), (q5, .inl (c5, 64, .inl g5_5))]) [0, 1, 2, 3, 4, 5] rfl
  have hDc := hD.sub (ws' := [(h0, .inr (12, [.ref q1, .ref q2, .ref q3, .ref q4, .ref q5, .int (nI 61), .long a2_4])), (q1, .inl (c1, 8, .inl f1)), (q2, .inl (c2, 8, .inl f2)), (q3, .inl (c3, 64, .inl f3)), (q4, .inl (c4, 64, .inl f4)), (q5, .inl (c5, 64, .inl g5_5))]) [0, 1, 2, 3, 4, 5] (by decide) rfl
  have hKc := hK.sub (tys' := [(c1, .int), (c2, .int), (c3, .int), (c4, .int), (c5, .byte)]) [0, 1, 2, 3, 4] rfl
  have hFc := va_free (wc := [(h0, .inr (12, [.ref q1, .ref q2, .ref q3, .ref q4, .ref q5, .int (nI 61), .long a2_4])), (q1, .inl (c1, 8, .inl f1)), (q2, .inl (c2, 8, .inl f2)), (q3, .inl (c3, 64, .inl f3)), (q4, .inl (c4, 64, .inl f4)), (q5, .inl (c5, 64, .inl g5_5))]) hD hS hA [0, 1, 2, 3, 4, 5] rfl
  refine va_callv (va_runV (As := [.int x_7]) (rest := []) ⟨hx, hb, hml, hown, hts⟩ (c_X12_one l dC dI H.size h0 61 q1 q2 q3 q4 q5 c1 c2 c3 c4 c5 f1 f2 f3 f4 g5_5 x_7 a2_4 (by omega)) ⟨callB_of 1 hts (gi kt_311) rfl rfl rfl (hts _ kt_285) (hts _ kt_312) (by decide +kernel) ⟨Nat.le_of_ble_eq_true rfl, Nat.le_of_ble_eq_true rfl⟩, (hts _ kt_313), (hts _ kt_314)⟩ ⟨fun a U g mk q => ⟨q.1, PW.calling q.2⟩, va_recv hKc hPc (ci := 12) (q0 := 0) rfl rfl, fun U hU hW => ⟨rfl, PW.mk hU hW hPc hKc hDc hE⟩⟩ rfl rfl hl.1 rfl (lv_room (Nat.le_of_ble_eq_true rfl)) dX12_four_11 ⟨by show _ + 0 ≤ 0; omega, by show _ + 0 ≤ 0; omega⟩) hS (fun q _ h => hFc q h) hFc (fun u t H1 locs ht hvm hw hB hz1 hk1 hS => ?_)
  obtain ⟨a2_9, g5_10, hB1⟩ := hB
  obtain ⟨hP, hD, hK⟩ := QW.join (wr := []) hP hD hK [0, 1, 2, 3, 4, 5] [] rfl rfl (by decide) (by decide) hk1 hFc ht hvm hB1
  generalize H1 = H at hP hS ⊢
  have hK : va_K (dC, dI) vwCl [(c1, .int), (c2, .int), (c3, .int), (c4, .int), (c5, .byte)] s := hK.sub [0, 1, 2, 3, 4] rfl
  have hP : va_P (dC, dI) vwCl [(h0, .inr (12, [.ref q1, .ref q2, .ref q3, .ref q4, .ref q5, .int (nI 62), .long a2_9])), (q1, .inl (c1, 8, .inl f1)), (q2, .inl (c2, 8, .inl f2)), (q3, .inl (c3, 64, .inl f3)), (q4, .inl (c4, 64, .inl f4)), (q5, .inl (c5, 64, .inl g5_10))] H := hP
  have hD : va_D A [(h0, .inr (12, [.ref q1, .ref q2, .ref q3, .ref q4, .ref q5, .int (nI 62), .long a2_9])), (q1, .inl (c1, 8, .inl f1)), (q2, .inl (c2, 8, .inl f2)), (q3, .inl (c3, 64, .inl f3)), (q4, .inl (c4, 64, .inl f4)), (q5, .inl (c5, 64, .inl g5_10))] := hD
  refine lv_iinc (v := 8) (lv' := [(2, .int 8), (0, .ref h0), (1, .int x1)]) hx hb dX12_four_14 hl (k := 0) rfl (by decide) (by decide) rfl (fun ls hl => ?_)
  refine lv_goto (tgt := 3) hx hb dX12_four_17 (by decide) ?_
  refine lv_iload_n hx hb dX12_four_3 rfl (lv_at hl 0 rfl) ?_
  refine lv_if_lt (tgt := 20) hx hb dX12_four_4 (by decide) (fun c_11 => absurd c_11 (by decide)) (fun c_11 => ?_)
  refine lv_aload_n hx hb dX12_four_7 rfl (lv_at hl 1 rfl) ?_
  refine lv_iload_n hx hb dX12_four_8 rfl (lv_at hl 2 rfl) ?_
  refine lv_iload_n hx hb dX12_four_9 rfl (lv_at hl 0 rfl) ?_
  refine lv_ishr hx hb dX12_four_10 ?_
  refine lv_topi (fun x_12 _ => ?_)
  have hPc := hP.sub (ws' := [(h0, .inr (12, [.ref q1, .ref q2, .ref q3, .ref q4, .ref q5, .int (nI 62), .long a2_9])), (q1, .inl (c1, 8, .inl f1)), (q2, .inl (c2, 8, .inl f2)), (q3, .inl (c3, 64, .inl f3)), (q4, .inl (c4, 64, .inl f4)), (q5, .inl (c5, 64, .inl g5_10))]) [0, 1, 2, 3, 4, 5] rfl
  have hDc := hD.sub (ws' := [(h0, .inr (12, [.ref q1, .ref q2, .ref q3, .ref q4, .ref q5, .int (nI 62), .long a2_9])), (q1, .inl (c1, 8, .inl f1)), (q2, .inl (c2, 8, .inl f2)), (q3, .inl (c3, 64, .inl f3)), (q4, .inl (c4, 64, .inl f4)), (q5, .inl (c5, 64, .inl g5_10))]) [0, 1, 2, 3, 4, 5] (by decide) rfl
  have hKc := hK.sub (tys' := [(c1, .int), (c2, .int), (c3, .int), (c4, .int), (c5, .byte)]) [0, 1, 2, 3, 4] rfl
  have hFc := va_free (wc := [(h0, .inr (12, [.ref q1, .ref q2, .ref q3, .ref q4, .ref q5, .int (nI 62), .long a2_9])), (q1, .inl (c1, 8, .inl f1)), (q2, .inl (c2, 8, .inl f2)), (q3, .inl (c3, 64, .inl f3)), (q4, .inl (c4, 64, .inl f4)), (q5, .inl (c5, 64, .inl g5_10))]) hD hS hA [0, 1, 2, 3, 4, 5] rfl
  refine va_callv (va_runV (As := [.int x_12]) (rest := []) ⟨hx, hb, hml, hown, hts⟩ (c_X12_one l dC dI H.size h0 62 q1 q2 q3 q4 q5 c1 c2 c3 c4 c5 f1 f2 f3 f4 g5_10 x_12 a2_9 (by omega)) ⟨callB_of 1 hts (gi kt_311) rfl rfl rfl (hts _ kt_285) (hts _ kt_312) (by decide +kernel) ⟨Nat.le_of_ble_eq_true rfl, Nat.le_of_ble_eq_true rfl⟩, (hts _ kt_313), (hts _ kt_314)⟩ ⟨fun a U g mk q => ⟨q.1, PW.calling q.2⟩, va_recv hKc hPc (ci := 12) (q0 := 0) rfl rfl, fun U hU hW => ⟨rfl, PW.mk hU hW hPc hKc hDc hE⟩⟩ rfl rfl hl.1 rfl (lv_room (Nat.le_of_ble_eq_true rfl)) dX12_four_11 ⟨by show _ + 0 ≤ 0; omega, by show _ + 0 ≤ 0; omega⟩) hS (fun q _ h => hFc q h) hFc (fun u t H1 locs ht hvm hw hB hz1 hk1 hS => ?_)
  obtain ⟨a2_14, g5_15, hB1⟩ := hB
  obtain ⟨hP, hD, hK⟩ := QW.join (wr := []) hP hD hK [0, 1, 2, 3, 4, 5] [] rfl rfl (by decide) (by decide) hk1 hFc ht hvm hB1
  generalize H1 = H at hP hS ⊢
  have hK : va_K (dC, dI) vwCl [(c1, .int), (c2, .int), (c3, .int), (c4, .int), (c5, .byte)] s := hK.sub [0, 1, 2, 3, 4] rfl
  have hP : va_P (dC, dI) vwCl [(h0, .inr (12, [.ref q1, .ref q2, .ref q3, .ref q4, .ref q5, .int (nI 63), .long a2_14])), (q1, .inl (c1, 8, .inl f1)), (q2, .inl (c2, 8, .inl f2)), (q3, .inl (c3, 64, .inl f3)), (q4, .inl (c4, 64, .inl f4)), (q5, .inl (c5, 64, .inl g5_15))] H := hP
  have hD : va_D A [(h0, .inr (12, [.ref q1, .ref q2, .ref q3, .ref q4, .ref q5, .int (nI 63), .long a2_14])), (q1, .inl (c1, 8, .inl f1)), (q2, .inl (c2, 8, .inl f2)), (q3, .inl (c3, 64, .inl f3)), (q4, .inl (c4, 64, .inl f4)), (q5, .inl (c5, 64, .inl g5_15))] := hD
  refine lv_iinc (v := 0) (lv' := [(2, .int 0), (0, .ref h0), (1, .int x1)]) hx hb dX12_four_14 hl (k := 0) rfl (by decide) (by decide) rfl (fun ls hl => ?_)
  refine lv_goto (tgt := 3) hx hb dX12_four_17 (by decide) ?_
  refine lv_iload_n hx hb dX12_four_3 rfl (lv_at hl 0 rfl) ?_
  refine lv_if_lt (tgt := 20) hx hb dX12_four_4 (by decide) (fun c_16 => absurd c_16 (by decide)) (fun c_16 => ?_)
  refine lv_aload_n hx hb dX12_four_7 rfl (lv_at hl 1 rfl) ?_
  refine lv_iload_n hx hb dX12_four_8 rfl (lv_at hl 2 rfl) ?_
  refine lv_iload_n hx hb dX12_four_9 rfl (lv_at hl 0 rfl) ?_
  refine lv_ishr hx hb dX12_four_10 ?_
  refine lv_topi (fun x_17 _ => ?_)
  have hP : va_P (dC, dI) vwCl [(h0, .inr (12, [.ref q1, .ref q2, .ref q3, .ref q4, .ref q5, .int 63, .long a2_14])), (q1, .inl (c1, 8, .inl f1)), (q2, .inl (c2, 8, .inl f2)), (q3, .inl (c3, 64, .inl f3)), (q4, .inl (c4, 64, .inl f4)), (q5, .inl (c5, 64, .inl g5_15))] H := hP
  have hD : va_D A [(h0, .inr (12, [.ref q1, .ref q2, .ref q3, .ref q4, .ref q5, .int 63, .long a2_14])), (q1, .inl (c1, 8, .inl f1)), (q2, .inl (c2, 8, .inl f2)), (q3, .inl (c3, 64, .inl f3)), (q4, .inl (c4, 64, .inl f4)), (q5, .inl (c5, 64, .inl g5_15))] := hD
  have hPc := hP.sub (ws' := [(h0, .inr (12, [.ref q1, .ref q2, .ref q3, .ref q4, .ref q5, .int 63, .long a2_14])), (q1, .inl (c1, 8, .inl f1)), (q2, .inl (c2, 8, .inl f2)), (q3, .inl (c3, 64, .inl f3)), (q4, .inl (c4, 64, .inl f4)), (q5, .inl (c5, 64, .inl g5_15))]) [0, 1, 2, 3, 4, 5] rfl
  have hDc := hD.sub (ws' := [(h0, .inr (12, [.ref q1, .ref q2, .ref q3, .ref q4, .ref q5, .int 63, .long a2_14])), (q1, .inl (c1, 8, .inl f1)), (q2, .inl (c2, 8, .inl f2)), (q3, .inl (c3, 64, .inl f3)), (q4, .inl (c4, 64, .inl f4)), (q5, .inl (c5, 64, .inl g5_15))]) [0, 1, 2, 3, 4, 5] (by decide) rfl
  have hKc := hK.sub (tys' := [(c1, .int), (c2, .int), (c3, .int), (c4, .int), (c5, .byte)]) [0, 1, 2, 3, 4] rfl
  have hFc := va_free (wc := [(h0, .inr (12, [.ref q1, .ref q2, .ref q3, .ref q4, .ref q5, .int 63, .long a2_14])), (q1, .inl (c1, 8, .inl f1)), (q2, .inl (c2, 8, .inl f2)), (q3, .inl (c3, 64, .inl f3)), (q4, .inl (c4, 64, .inl f4)), (q5, .inl (c5, 64, .inl g5_15))]) hD hS hA [0, 1, 2, 3, 4, 5] rfl
  refine va_callv (va_runV (As := [.int x_17]) (rest := []) ⟨hx, hb, hml, hown, hts⟩ (c_X12_one_b l dC dI H.size h0 q1 q2 q3 q4 q5 c1 c2 c3 c4 c5 f1 f2 f3 f4 g5_15 x_17 a2_14 ) ⟨callB_of 1 hts (gi kt_311) rfl rfl rfl (hts _ kt_285) (hts _ kt_312) (by decide +kernel) ⟨Nat.le_of_ble_eq_true rfl, Nat.le_of_ble_eq_true rfl⟩, (hts _ kt_313), (hts _ kt_314)⟩ ⟨fun a U g mk q => ⟨q.1, PW.calling q.2⟩, va_recv hKc hPc (ci := 12) (q0 := 0) rfl rfl, fun U hU hW => ⟨rfl, PW.mk hU hW hPc hKc hDc hE⟩⟩ rfl rfl hl.1 rfl (lv_room (Nat.le_of_ble_eq_true rfl)) dX12_four_11 ⟨by show _ + 0 ≤ 0; omega, by show _ + 0 ≤ 0; omega⟩) hS (fun q _ h => hFc q h) hFc (fun u t H1 locs ht hvm hw hB hz1 hk1 hS => ?_)
  obtain ⟨a2_19, g2_20, g3_21, g5_22, hB1⟩ := hB
  obtain ⟨hP, hD, hK⟩ := QW.join (wr := []) hP hD hK [0, 1, 2, 3, 4, 5] [] rfl rfl (by decide) (by decide) hk1 hFc ht hvm hB1
  generalize H1 = H at hP hS ⊢
  have hK : va_K (dC, dI) vwCl [(c1, .int), (c2, .int), (c3, .int), (c4, .int), (c5, .byte)] s := hK.sub [0, 1, 2, 3, 4] rfl
  have hP : va_P (dC, dI) vwCl [(h0, .inr (12, [.ref q1, .ref q2, .ref q3, .ref q4, .ref q5, .int 0, .long a2_19])), (q1, .inl (c1, 8, .inl f1)), (q2, .inl (c2, 8, .inl g2_20)), (q3, .inl (c3, 64, .inl g3_21)), (q4, .inl (c4, 64, .inl f4)), (q5, .inl (c5, 64, .inl g5_22))] H := hP
  have hD : va_D A [(h0, .inr (12, [.ref q1, .ref q2, .ref q3, .ref q4, .ref q5, .int 0, .long a2_19])), (q1, .inl (c1, 8, .inl f1)), (q2, .inl (c2, 8, .inl g2_20)), (q3, .inl (c3, 64, .inl g3_21)), (q4, .inl (c4, 64, .inl f4)), (q5, .inl (c5, 64, .inl g5_22))] := hD
  refine lv_iinc (v := (-8)) (lv' := [(2, .int (-8)), (0, .ref h0), (1, .int x1)]) hx hb dX12_four_14 hl (k := 0) rfl (by decide) (by decide) rfl (fun ls hl => ?_)
  refine lv_goto (tgt := 3) hx hb dX12_four_17 (by decide) ?_
  refine lv_iload_n hx hb dX12_four_3 rfl (lv_at hl 0 rfl) ?_
  refine lv_if_lt (tgt := 20) hx hb dX12_four_4 (by decide) (fun c_23 => ?_) (fun c_23 => absurd (by decide) c_23)
  have hP9 := hP.sub (ws' := [(h0, .inr (12, [.ref q1, .ref q2, .ref q3, .ref q4, .ref q5, .int 0, .long a2_19])), (q1, .inl (c1, 8, .inl f1)), (q2, .inl (c2, 8, .inl g2_20)), (q3, .inl (c3, 64, .inl g3_21)), (q4, .inl (c4, 64, .inl f4)), (q5, .inl (c5, 64, .inl g5_22))]) [0, 1, 2, 3, 4, 5] rfl
  have hD9 := hD.sub (ws' := [(h0, .inr (12, [.ref q1, .ref q2, .ref q3, .ref q4, .ref q5, .int 0, .long a2_19])), (q1, .inl (c1, 8, .inl f1)), (q2, .inl (c2, 8, .inl g2_20)), (q3, .inl (c3, 64, .inl g3_21)), (q4, .inl (c4, 64, .inl f4)), (q5, .inl (c5, 64, .inl g5_22))]) [0, 1, 2, 3, 4, 5] (by decide) rfl
  have hK9 := hK.sub (tys' := [(c1, .int), (c2, .int), (c3, .int), (c4, .int), (c5, .byte)]) [0, 1, 2, 3, 4] rfl
  refine W.widen (k := 0) (n := 0) (by omega) (by omega) ?_
  exact W.vret hx hb hr (fun t ht hW => ⟨⟨(), rfl, trivial, ⟨a2_19, g2_20, g3_21, g5_22, QW.mk ht hW hP9 hK9 hD9⟩⟩, hS.F ht⟩) hS.2.2 dX12_four_20
set_option maxHeartbeats 4000000 in
set_option maxRecDepth 100000 in
theorem c_X12_finish (l : Launch) (dC : Nat → ClassId) (dI : Nat → Nat → Nat) (sz : Nat) (h0 : Nat) (qb : Nat) (q1 : Nat) (q2 : Nat) (q3 : Nat) (q4 : Nat) (q5 : Nat) (c1 : ClassId) (c2 : ClassId) (c3 : ClassId) (c4 : ClassId) (c5 : ClassId) (f1 : Nat → Int32) (f2 : Nat → Int32) (f3 : Nat → Int32) (f4 : Nat → Int32) (f5 : Nat → Int32) (cb : ClassId) (fb0 : Nat → Int32) : Met l yX12_finish (.code yX12_finish cX12_finish 6 none :: tb) ({ frames := 4, cells := 0, slots := 0, locals := 95 }) (va_Pc [.ref h0, .ref qb, .int 0] (PW (dC, dI) sz [(h0, .inr (12, [.ref q1, .ref q2, .ref q3, .ref q4, .ref q5, .int 0, .long 0])), (q1, .inl (c1, 8, .inl f1)), (q2, .inl (c2, 8, .inl f2)), (q3, .inl (c3, 64, .inl f3)), (q4, .inl (c4, 64, .inl f4)), (q5, .inl (c5, 64, .inl f5)), (qb, .inl (cb, 32, .inl fb0))] [(c1, .int), (c2, .int), (c3, .int), (c4, .int), (c5, .byte), (cb, .byte)])) (va_Qv (fun _ : Unit => True) (fun _ T9 => ∃ (fb2 : Nat → Int32), QW (dC, dI) (va_A [(h0, .inr (12, [.ref q1, .ref q2, .ref q3, .ref q4, .ref q5, .int 0, .long 0])), (q1, .inl (c1, 8, .inl f1)), (q2, .inl (c2, 8, .inl f2)), (q3, .inl (c3, 64, .inl f3)), (q4, .inl (c4, 64, .inl f4)), (q5, .inl (c5, 64, .inl f5)), (qb, .inl (cb, 32, .inl fb0))] sz) [(qb, .inl (cb, 32, .inl fb2))] [(cb, .byte)] T9) (va_A [(h0, .inr (12, [.ref q1, .ref q2, .ref q3, .ref q4, .ref q5, .int 0, .long 0])), (q1, .inl (c1, 8, .inl f1)), (q2, .inl (c2, 8, .inl f2)), (q3, .inl (c3, 64, .inl f3)), (q4, .inl (c4, 64, .inl f4)), (q5, .inl (c5, 64, .inl f5)), (qb, .inl (cb, 32, .inl fb0))] sz)) 0 0 (va_A [(h0, .inr (12, [.ref q1, .ref q2, .ref q3, .ref q4, .ref q5, .int 0, .long 0])), (q1, .inl (c1, 8, .inl f1)), (q2, .inl (c2, 8, .inl f2)), (q3, .inl (c3, 64, .inl f3)), (q4, .inl (c4, 64, .inl f4)), (q5, .inl (c5, 64, .inl f5)), (qb, .inl (cb, 32, .inl fb0))] sz) := by
  refine Met.ofW (cc := cX12_finish) (maxL := 6) (ret := none) (by decide) rfl ?_
  intro p e s m args below meth c s₁ B hml hv
  obtain ⟨rfl, hsz, hP, hK, hD0, hE⟩ := hv
  have hx := B.exec
  have hb := B.bytes
  have hr := B.returns
  have hts : ∀ w ∈ tb, w.before _ s = true := fun w h => atoms_spec (ws := .code yX12_finish cX12_finish 6 none :: tb) B.pre w (List.mem_cons_of_mem _ h)
  have hown : s.vm.findClass RX12 = some m.cls := findClass_of_methodNamed B.named
  have hlocks := B.notSynchronized
  subst hsz
  have hD := hD0.self (sz := s.heap.size)
  generalize hAe : va_A [(h0, .inr (12, [.ref q1, .ref q2, .ref q3, .ref q4, .ref q5, .int 0, .long 0])), (q1, .inl (c1, 8, .inl f1)), (q2, .inl (c2, 8, .inl f2)), (q3, .inl (c3, 64, .inl f3)), (q4, .inl (c4, 64, .inl f4)), (q5, .inl (c5, 64, .inl f5)), (qb, .inl (cb, 32, .inl fb0))] s.heap.size = A at hD ⊢
  have hA : ∀ q : Nat, s.heap.size ≤ q → A q := fun q h => by rw [← hAe]; exact Or.inr h
  have hS : va_S A s.heap s.heap [] := va_S.rf
  have hP : va_P (dC, dI) vwCl [(h0, .inr (12, [.ref q1, .ref q2, .ref q3, .ref q4, .ref q5, .int 0, .long 0])), (q1, .inl (c1, 8, .inl f1)), (q2, .inl (c2, 8, .inl f2)), (q3, .inl (c3, 64, .inl f3)), (q4, .inl (c4, 64, .inl f4)), (q5, .inl (c5, 64, .inl f5)), (qb, .inl (cb, 32, .inl fb0))] s.heap := hP
  have hl := lv_entry ([.ref h0, .ref qb, .int 0]) (n := 6) (Nat.le_of_ble_eq_true rfl)
  rw [lg_entry_eq]
  generalize (lg_sl ([.ref h0, .ref qb, .int 0]) ++ List.replicate (6 - (lg_sl ([.ref h0, .ref qb, .int 0])).length) Slot.unset).toArray = ls at hl ⊢
  have hl : lv_has ls 6 [(0, .ref h0), (1, .ref qb), (2, .int 0)] := hl
  refine lv_ldc2 (v := 8) hx hb hown (hts _ kt_315) dX12_finish_0 ?_
  refine lv_aload_n hx hb dX12_finish_3 rfl (lv_at hl 0 rfl) ?_
  refine va_get (D := (dC, dI)) (ci := 12) (v := .long 0) (C := RX12) (T := TX12) (N := 7) hx hb hts it_12 hown hK hP 0 rfl rfl 6 (by decide) (hts _ kt_306) (fun _ h9 => h9) rfl dX12_finish_4 ?_
  refine lv_lmul hx hb dX12_finish_7 ?_
  refine lv_topl (fun x_1 _ => ?_)
  refine lv_lstore_n (lv' := [(3, .long x_1), (0, .ref h0), (1, .ref qb), (2, .int 0)]) hx hb dX12_finish_8 rfl hl (by decide) rfl (fun ls hl => ?_)
  refine lv_aload_n hx hb dX12_finish_9 rfl (lv_at hl 1 rfl) ?_
  refine lv_sipush (v := 128) hx hb dX12_finish_10 (by decide) ?_
  have hP : va_P (dC, dI) vwCl [(h0, .inr (12, [.ref q1, .ref q2, .ref q3, .ref q4, .ref q5, .int (nI 0), .long 0])), (q1, .inl (c1, 8, .inl f1)), (q2, .inl (c2, 8, .inl f2)), (q3, .inl (c3, 64, .inl f3)), (q4, .inl (c4, 64, .inl f4)), (q5, .inl (c5, 64, .inl f5)), (qb, .inl (cb, 32, .inl fb0))] s.heap := hP
  have hD : va_D A [(h0, .inr (12, [.ref q1, .ref q2, .ref q3, .ref q4, .ref q5, .int (nI 0), .long 0])), (q1, .inl (c1, 8, .inl f1)), (q2, .inl (c2, 8, .inl f2)), (q3, .inl (c3, 64, .inl f3)), (q4, .inl (c4, 64, .inl f4)), (q5, .inl (c5, 64, .inl f5)), (qb, .inl (cb, 32, .inl fb0))] := hD
  have hPc := hP.sub (ws' := [(h0, .inr (12, [.ref q1, .ref q2, .ref q3, .ref q4, .ref q5, .int (nI 0), .long 0])), (q1, .inl (c1, 8, .inl f1)), (q2, .inl (c2, 8, .inl f2)), (q3, .inl (c3, 64, .inl f3)), (q4, .inl (c4, 64, .inl f4)), (q5, .inl (c5, 64, .inl f5))]) [0, 1, 2, 3, 4, 5] rfl
  have hDc := hD.sub (ws' := [(h0, .inr (12, [.ref q1, .ref q2, .ref q3, .ref q4, .ref q5, .int (nI 0), .long 0])), (q1, .inl (c1, 8, .inl f1)), (q2, .inl (c2, 8, .inl f2)), (q3, .inl (c3, 64, .inl f3)), (q4, .inl (c4, 64, .inl f4)), (q5, .inl (c5, 64, .inl f5))]) [0, 1, 2, 3, 4, 5] (by decide) rfl
  have hKc := hK.sub (tys' := [(c1, .int), (c2, .int), (c3, .int), (c4, .int), (c5, .byte)]) [0, 1, 2, 3, 4] rfl
  have hFc := va_free (wc := [(h0, .inr (12, [.ref q1, .ref q2, .ref q3, .ref q4, .ref q5, .int (nI 0), .long 0])), (q1, .inl (c1, 8, .inl f1)), (q2, .inl (c2, 8, .inl f2)), (q3, .inl (c3, 64, .inl f3)), (q4, .inl (c4, 64, .inl f4)), (q5, .inl (c5, 64, .inl f5))]) hD hS hA [0, 1, 2, 3, 4, 5] rfl
  refine va_callv (va_runV (As := [.int 128]) (rest := []) ⟨hx, hb, hml, hown, hts⟩ (c_X12_one l dC dI s.heap.size h0 0 q1 q2 q3 q4 q5 c1 c2 c3 c4 c5 f1 f2 f3 f4 f5 128 0 (by omega)) ⟨callB_of 1 hts (gi kt_311) rfl rfl rfl (hts _ kt_285) (hts _ kt_312) (by decide +kernel) ⟨Nat.le_of_ble_eq_true rfl, Nat.le_of_ble_eq_true rfl⟩, (hts _ kt_313), (hts _ kt_314)⟩ ⟨fun a U g mk q => ⟨q.1, PW.calling q.2⟩, va_recv hKc hPc (ci := 12) (q0 := 0) rfl rfl, fun U hU hW => ⟨rfl, PW.mk hU hW hPc hKc hDc hE⟩⟩ rfl rfl hl.1 rfl (lv_room (Nat.le_of_ble_eq_true rfl)) dX12_finish_13 ⟨by show _ + 0 ≤ 0; omega, by show _ + 0 ≤ 0; omega⟩) hS (fun q _ h => hFc q h) hFc (fun u t H1 locs ht hvm hw hB hz1 hk1 hS => ?_)
  obtain ⟨a2_3, g5_4, hB1⟩ := hB
  obtain ⟨hP, hD, hK⟩ := QW.join (wr := [(qb, .inl (cb, 32, .inl fb0))]) hP hD hK [0, 1, 2, 3, 4, 5] [6] rfl rfl (by decide) (by decide) hk1 hFc ht hvm hB1
  generalize H1 = H at hP hS ⊢
  have hK : va_K (dC, dI) vwCl [(c1, .int), (c2, .int), (c3, .int), (c4, .int), (c5, .byte), (cb, .byte)] s := hK.sub [0, 1, 2, 3, 4, 5] rfl
  have hP : va_P (dC, dI) vwCl [(qb, .inl (cb, 32, .inl fb0)), (h0, .inr (12, [.ref q1, .ref q2, .ref q3, .ref q4, .ref q5, .int (nI 1), .long a2_3])), (q1, .inl (c1, 8, .inl f1)), (q2, .inl (c2, 8, .inl f2)), (q3, .inl (c3, 64, .inl f3)), (q4, .inl (c4, 64, .inl f4)), (q5, .inl (c5, 64, .inl g5_4))] H := hP
  have hD : va_D A [(qb, .inl (cb, 32, .inl fb0)), (h0, .inr (12, [.ref q1, .ref q2, .ref q3, .ref q4, .ref q5, .int (nI 1), .long a2_3])), (q1, .inl (c1, 8, .inl f1)), (q2, .inl (c2, 8, .inl f2)), (q3, .inl (c3, 64, .inl f3)), (q4, .inl (c4, 64, .inl f4)), (q5, .inl (c5, 64, .inl g5_4))] := hD
  refine W.widen (k := 0) (n := 0) (by omega) (by omega) ?_
  refine wl_loop (σ := Nat × Int64 × (Nat → Int32)) A (dC, dI) 16 6 (fun (n1, al, fc) => [(qb, .inl (cb, 32, .inl fb0)), (h0, .inr (12, [.ref q1, .ref q2, .ref q3, .ref q4, .ref q5, .int (nI n1), .long al])), (q1, .inl (c1, 8, .inl f1)), (q2, .inl (c2, 8, .inl f2)), (q3, .inl (c3, 64, .inl f3)), (q4, .inl (c4, 64, .inl f4)), (q5, .inl (c5, 64, .inl fc))]) (fun (n1, al, fc) => [(3, .long x_1), (0, .ref h0), (1, .ref qb), (2, .int 0)]) (fun (n1, al, fc) => []) (fun (n1, al, fc) => 0) (fun (n1, al, fc) => 0) (fun (n1, al, fc) => 1 ≤ n1 ∧ n1 ≤ 56) (fun (n1, al, fc) => 56 - n1) ?_ (1, a2_3, g5_4) (by first | omega | exact ⟨by omega, by omega⟩) _ _ (hP.sub [0, 1, 2, 3, 4, 5, 6] rfl) (hD.sub [0, 1, 2, 3, 4, 5, 6] (by decide) rfl) hS ls (lv_sub hl [0, 1, 2, 3] rfl)
  rintro ⟨n1, al, fc⟩ hv_5 ih_6 H locs hP hD hS ls hl
  have hP : va_P (dC, dI) vwCl [(qb, .inl (cb, 32, .inl fb0)), (h0, .inr (12, [.ref q1, .ref q2, .ref q3, .ref q4, .ref q5, .int (nI n1), .long al])), (q1, .inl (c1, 8, .inl f1)), (q2, .inl (c2, 8, .inl f2)), (q3, .inl (c3, 64, .inl f3)), (q4, .inl (c4, 64, .inl f4)), (q5, .inl (c5, 64, .inl fc))] H := hP
  have hD : va_D A [(qb, .inl (cb, 32, .inl fb0)), (h0, .inr (12, [.ref q1, .ref q2, .ref q3, .ref q4, .ref q5, .int (nI n1), .long al])), (q1, .inl (c1, 8, .inl f1)), (q2, .inl (c2, 8, .inl f2)), (q3, .inl (c3, 64, .inl f3)), (q4, .inl (c4, 64, .inl f4)), (q5, .inl (c5, 64, .inl fc))] := hD
  have hl : lv_has ls 6 [(3, .long x_1), (0, .ref h0), (1, .ref qb), (2, .int 0)] := hl
  have hv_5 : 1 ≤ n1 ∧ n1 ≤ 56 := hv_5
  refine W.widen (k := 0) (n := 0) (Nat.le_refl _) (Nat.le_refl _) ?_
  refine W.eq (g2 := F0 m 16 ls []) rfl ?_
  obtain ⟨hv1, hv2⟩ := hv_5
  refine lv_aload_n hx hb dX12_finish_16 rfl (lv_at hl 1 rfl) ?_
  refine va_get (D := (dC, dI)) (ci := 12) (v := .int (nI n1)) (C := RX12) (T := TX12) (N := 7) hx hb hts it_12 hown hK hP 1 rfl rfl 5 (by decide) (hts _ kt_305) (fun _ h9 => h9) rfl dX12_finish_17 ?_
  refine lv_bipush (v := 56) hx hb dX12_finish_20 (by decide) ?_
  refine lv_icmp_eq (tgt := 33) hx hb dX12_finish_22 (by decide) (fun c_7 => ?_) (fun c_7 => ?_)
  ·
    have he : n1 = 56 := (nI_eq (by omega) (by omega)).mp (c_7.trans (rfl : (56 : Int32) = nI 56))
    subst he
    refine lv_aload_n hx hb dX12_finish_33 rfl (lv_at hl 1 rfl) ?_
    refine lv_lload_n hx hb dX12_finish_34 rfl (lv_at hl 0 rfl) ?_
    refine lv_bipush (v := 32) hx hb dX12_finish_35 (by decide) ?_
    refine lv_lushr hx hb dX12_finish_37 rfl ?_
    refine lv_topl (fun x_10 _ => ?_)
    refine lv_l2i hx hb dX12_finish_38 rfl ?_
    refine lv_topi (fun x_11 _ => ?_)
    have hPc := hP.sub (ws' := [(h0, .inr (12, [.ref q1, .ref q2, .ref q3, .ref q4, .ref q5, .int (nI 56), .long al])), (q1, .inl (c1, 8, .inl f1)), (q2, .inl (c2, 8, .inl f2)), (q3, .inl (c3, 64, .inl f3)), (q4, .inl (c4, 64, .inl f4)), (q5, .inl (c5, 64, .inl fc))]) [1, 2, 3, 4, 5, 6] rfl
    have hDc := hD.sub (ws' := [(h0, .inr (12, [.ref q1, .ref q2, .ref q3, .ref q4, .ref q5, .int (nI 56), .long al])), (q1, .inl (c1, 8, .inl f1)), (q2, .inl (c2, 8, .inl f2)), (q3, .inl (c3, 64, .inl f3)), (q4, .inl (c4, 64, .inl f4)), (q5, .inl (c5, 64, .inl fc))]) [1, 2, 3, 4, 5, 6] (by decide) rfl
    have hKc := hK.sub (tys' := [(c1, .int), (c2, .int), (c3, .int), (c4, .int), (c5, .byte)]) [0, 1, 2, 3, 4] rfl
    have hFc := va_free (wc := [(h0, .inr (12, [.ref q1, .ref q2, .ref q3, .ref q4, .ref q5, .int (nI 56), .long al])), (q1, .inl (c1, 8, .inl f1)), (q2, .inl (c2, 8, .inl f2)), (q3, .inl (c3, 64, .inl f3)), (q4, .inl (c4, 64, .inl f4)), (q5, .inl (c5, 64, .inl fc))]) hD hS hA [1, 2, 3, 4, 5, 6] rfl
    refine va_callv (va_runV (As := [.int x_11]) (rest := []) ⟨hx, hb, hml, hown, hts⟩ (c_X12_four l dC dI H.size h0 56 q1 q2 q3 q4 q5 c1 c2 c3 c4 c5 f1 f2 f3 f4 fc x_11 al (by omega)) ⟨callB_of 1 hts (gi kt_316) rfl rfl rfl (hts _ kt_285) (hts _ kt_317) (by decide +kernel) ⟨Nat.le_of_ble_eq_true rfl, Nat.le_of_ble_eq_true rfl⟩, (hts _ kt_318), (hts _ kt_319)⟩ ⟨fun a U g mk q => ⟨q.1, PW.calling q.2⟩, va_recv hKc hPc (ci := 12) (q0 := 0) rfl rfl, fun U hU hW => ⟨rfl, PW.mk hU hW hPc hKc hDc hE⟩⟩ rfl rfl hl.1 rfl (lv_room (Nat.le_of_ble_eq_true rfl)) dX12_finish_39 ⟨by show _ + 0 ≤ 0; omega, by show _ + 0 ≤ 0; omega⟩) hS (fun q _ h => hFc q h) hFc (fun u t H1 locs ht hvm hw hB hz1 hk1 hS => ?_)
    obtain ⟨a2_13, g5_14, hB1⟩ := hB
    obtain ⟨hP, hD, hK⟩ := QW.join (wr := [(qb, .inl (cb, 32, .inl fb0))]) hP hD hK [1, 2, 3, 4, 5, 6] [0] rfl rfl (by decide) (by decide) hk1 hFc ht hvm hB1
    generalize H1 = H at hP hS ⊢
    have hK : va_K (dC, dI) vwCl [(c1, .int), (c2, .int), (c3, .int), (c4, .int), (c5, .byte), (cb, .byte)] s := hK.sub [0, 1, 2, 3, 4, 5] rfl
    have hP : va_P (dC, dI) vwCl [(qb, .inl (cb, 32, .inl fb0)), (h0, .inr (12, [.ref q1, .ref q2, .ref q3, .ref q4, .ref q5, .int (nI 60), .long a2_13])), (q1, .inl (c1, 8, .inl f1)), (q2, .inl (c2, 8, .inl f2)), (q3, .inl (c3, 64, .inl f3)), (q4, .inl (c4, 64, .inl f4)), (q5, .inl (c5, 64, .inl g5_14))] H := hP
    have hD : va_D A [(qb, .inl (cb, 32, .inl fb0)), (h0, .inr (12, [.ref q1, .ref q2, .ref q3, .ref q4, .ref q5, .int (nI 60), .long a2_13])), (q1, .inl (c1, 8, .inl f1)), (q2, .inl (c2, 8, .inl f2)), (q3, .inl (c3, 64, .inl f3)), (q4, .inl (c4, 64, .inl f4)), (q5, .inl (c5, 64, .inl g5_14))] := hD
    refine lv_aload_n hx hb dX12_finish_42 rfl (lv_at hl 1 rfl) ?_
    refine lv_lload_n hx hb dX12_finish_43 rfl (lv_at hl 0 rfl) ?_
    refine lv_l2i hx hb dX12_finish_44 rfl ?_
    refine lv_topi (fun x_15 _ => ?_)
    have hPc := hP.sub (ws' := [(h0, .inr (12, [.ref q1, .ref q2, .ref q3, .ref q4, .ref q5, .int (nI 60), .long a2_13])), (q1, .inl (c1, 8, .inl f1)), (q2, .inl (c2, 8, .inl f2)), (q3, .inl (c3, 64, .inl f3)), (q4, .inl (c4, 64, .inl f4)), (q5, .inl (c5, 64, .inl g5_14))]) [1, 2, 3, 4, 5, 6] rfl
    have hDc := hD.sub (ws' := [(h0, .inr (12, [.ref q1, .ref q2, .ref q3, .ref q4, .ref q5, .int (nI 60), .long a2_13])), (q1, .inl (c1, 8, .inl f1)), (q2, .inl (c2, 8, .inl f2)), (q3, .inl (c3, 64, .inl f3)), (q4, .inl (c4, 64, .inl f4)), (q5, .inl (c5, 64, .inl g5_14))]) [1, 2, 3, 4, 5, 6] (by decide) rfl
    have hKc := hK.sub (tys' := [(c1, .int), (c2, .int), (c3, .int), (c4, .int), (c5, .byte)]) [0, 1, 2, 3, 4] rfl
    have hFc := va_free (wc := [(h0, .inr (12, [.ref q1, .ref q2, .ref q3, .ref q4, .ref q5, .int (nI 60), .long a2_13])), (q1, .inl (c1, 8, .inl f1)), (q2, .inl (c2, 8, .inl f2)), (q3, .inl (c3, 64, .inl f3)), (q4, .inl (c4, 64, .inl f4)), (q5, .inl (c5, 64, .inl g5_14))]) hD hS hA [1, 2, 3, 4, 5, 6] rfl
    refine va_callv (va_runV (As := [.int x_15]) (rest := []) ⟨hx, hb, hml, hown, hts⟩ (c_X12_four_b l dC dI H.size h0 q1 q2 q3 q4 q5 c1 c2 c3 c4 c5 f1 f2 f3 f4 g5_14 x_15 a2_13 ) ⟨callB_of 1 hts (gi kt_316) rfl rfl rfl (hts _ kt_285) (hts _ kt_317) (by decide +kernel) ⟨Nat.le_of_ble_eq_true rfl, Nat.le_of_ble_eq_true rfl⟩, (hts _ kt_318), (hts _ kt_319)⟩ ⟨fun a U g mk q => ⟨q.1, PW.calling q.2⟩, va_recv hKc hPc (ci := 12) (q0 := 0) rfl rfl, fun U hU hW => ⟨rfl, PW.mk hU hW hPc hKc hDc hE⟩⟩ rfl rfl hl.1 rfl (lv_room (Nat.le_of_ble_eq_true rfl)) dX12_finish_45 ⟨by show _ + 0 ≤ 0; omega, by show _ + 0 ≤ 0; omega⟩) hS (fun q _ h => hFc q h) hFc (fun u t H1 locs ht hvm hw hB hz1 hk1 hS => ?_)
    obtain ⟨a2_17, g2_18, g3_19, g5_20, hB1⟩ := hB
    obtain ⟨hP, hD, hK⟩ := QW.join (wr := [(qb, .inl (cb, 32, .inl fb0))]) hP hD hK [1, 2, 3, 4, 5, 6] [0] rfl rfl (by decide) (by decide) hk1 hFc ht hvm hB1
    generalize H1 = H at hP hS ⊢
    have hK : va_K (dC, dI) vwCl [(c1, .int), (c2, .int), (c3, .int), (c4, .int), (c5, .byte), (cb, .byte)] s := hK.sub [0, 1, 2, 3, 4, 5] rfl
    have hP : va_P (dC, dI) vwCl [(qb, .inl (cb, 32, .inl fb0)), (h0, .inr (12, [.ref q1, .ref q2, .ref q3, .ref q4, .ref q5, .int 0, .long a2_17])), (q1, .inl (c1, 8, .inl f1)), (q2, .inl (c2, 8, .inl g2_18)), (q3, .inl (c3, 64, .inl g3_19)), (q4, .inl (c4, 64, .inl f4)), (q5, .inl (c5, 64, .inl g5_20))] H := hP
    have hD : va_D A [(qb, .inl (cb, 32, .inl fb0)), (h0, .inr (12, [.ref q1, .ref q2, .ref q3, .ref q4, .ref q5, .int 0, .long a2_17])), (q1, .inl (c1, 8, .inl f1)), (q2, .inl (c2, 8, .inl g2_18)), (q3, .inl (c3, 64, .inl g3_19)), (q4, .inl (c4, 64, .inl f4)), (q5, .inl (c5, 64, .inl g5_20))] := hD
    refine lv_iconst (v := 0) hx hb dX12_finish_48 (by decide) ?_
    refine lv_istore (lv' := [(5, .int 0), (3, .long x_1), (0, .ref h0), (1, .ref qb), (2, .int 0)]) hx hb dX12_finish_49 hl (by decide) rfl (fun ls hl => ?_)
    refine W.widen (k := 0) (n := 0) (by omega) (by omega) ?_
    refine wl_loop (σ := Nat × (Nat → Int32)) A (dC, dI) 51 6 (fun (i1, fd) => [(qb, .inl (cb, 32, .inl fd)), (h0, .inr (12, [.ref q1, .ref q2, .ref q3, .ref q4, .ref q5, .int 0, .long a2_17])), (q1, .inl (c1, 8, .inl f1)), (q2, .inl (c2, 8, .inl g2_18)), (q3, .inl (c3, 64, .inl g3_19)), (q4, .inl (c4, 64, .inl f4)), (q5, .inl (c5, 64, .inl g5_20))]) (fun (i1, fd) => [(5, .int (nI i1)), (3, .long x_1), (0, .ref h0), (1, .ref qb), (2, .int 0)]) (fun (i1, fd) => []) (fun (i1, fd) => 0) (fun (i1, fd) => 0) (fun (i1, fd) => i1 ≤ 32) (fun (i1, fd) => 32 - i1) ?_ (0, fb0) (by first | omega | exact ⟨by omega, by omega⟩) _ _ (hP.sub [0, 1, 2, 3, 4, 5, 6] rfl) (hD.sub [0, 1, 2, 3, 4, 5, 6] (by decide) rfl) hS ls (lv_sub hl [0, 1, 2, 3, 4] rfl)
    rintro ⟨i1, fd⟩ hv_21 ih_22 H locs hP hD hS ls hl
    have hP : va_P (dC, dI) vwCl [(qb, .inl (cb, 32, .inl fd)), (h0, .inr (12, [.ref q1, .ref q2, .ref q3, .ref q4, .ref q5, .int 0, .long a2_17])), (q1, .inl (c1, 8, .inl f1)), (q2, .inl (c2, 8, .inl g2_18)), (q3, .inl (c3, 64, .inl g3_19)), (q4, .inl (c4, 64, .inl f4)), (q5, .inl (c5, 64, .inl g5_20))] H := hP
    have hD : va_D A [(qb, .inl (cb, 32, .inl fd)), (h0, .inr (12, [.ref q1, .ref q2, .ref q3, .ref q4, .ref q5, .int 0, .long a2_17])), (q1, .inl (c1, 8, .inl f1)), (q2, .inl (c2, 8, .inl g2_18)), (q3, .inl (c3, 64, .inl g3_19)), (q4, .inl (c4, 64, .inl f4)), (q5, .inl (c5, 64, .inl g5_20))] := hD
    have hl : lv_has ls 6 [(5, .int (nI i1)), (3, .long x_1), (0, .ref h0), (1, .ref qb), (2, .int 0)] := hl
    have hv_21 : i1 ≤ 32 := hv_21
    refine W.widen (k := 0) (n := 0) (Nat.le_refl _) (Nat.le_refl _) ?_
    refine W.eq (g2 := F0 m 51 ls []) rfl ?_
    refine lv_iload hx hb dX12_finish_51 (lv_at hl 0 rfl) ?_
    refine lv_bipush (v := 32) hx hb dX12_finish_53 (by decide) ?_
    refine lv_icmp_ge (tgt := 91) hx hb dX12_finish_55 (by decide) (fun c_23 => ?_) (fun c_23 => ?_)
    ·
      have hi_24 : 32 ≤ i1 := leN (N := 32) c_23
      have hP9 := hP.sub (ws' := [(qb, .inl (cb, 32, .inl fd))]) [0] rfl
      have hD9 := hD.sub (ws' := [(qb, .inl (cb, 32, .inl fd))]) [0] (by decide) rfl
      have hK9 := hK.sub (tys' := [(cb, .byte)]) [5] rfl
      refine W.widen (k := 0) (n := 0) (by omega) (by omega) ?_
      exact W.vret hx hb hr (fun t ht hW => ⟨⟨(), rfl, trivial, ⟨fd, QW.mk ht hW hP9 hK9 hD9⟩⟩, hS.F ht⟩) hS.2.2 dX12_finish_91
    ·
      have hi_25 : i1 < 32 := ltN (N := 32) c_23
      refine lv_aload_n hx hb dX12_finish_58 rfl (lv_at hl 3 rfl) ?_
      refine lv_iload_n hx hb dX12_finish_59 rfl (lv_at hl 4 rfl) ?_
      refine lv_iload hx hb dX12_finish_60 (lv_at hl 0 rfl) ?_
      refine lv_iadd hx hb dX12_finish_62 ?_
      refine lv_topi (fun x_26 ex_26 => ?_)
      obtain rfl : x_26 = (nI (0 + i1)) := ex_26.trans (nI_add 0 i1)
      refine lv_aload_n hx hb dX12_finish_63 rfl (lv_at hl 2 rfl) ?_
      refine va_get (D := (dC, dI)) (ci := 12) (v := .ref q2) (C := RX12) (T := TX12) (N := 7) hx hb hts it_12 hown hK hP 1 rfl rfl 1 (by decide) (hts _ kt_290) (fun _ h9 => h9) rfl dX12_finish_64 ?_
      refine lv_iload hx hb dX12_finish_67 (lv_at hl 0 rfl) ?_
      refine lv_iconst (v := 4) hx hb dX12_finish_69 (by decide) ?_
      refine lv_idiv hx hb dX12_finish_70 (by decide) ?_
      refine lv_topi (fun x_27 ex_27 => ?_)
      obtain rfl : x_27 = (nI (i1 / 4)) := ex_27.trans (pk_div (d := 4) (by omega) (by omega) (by omega))
      refine va_iald hx hb hK hP 3 1 rfl rfl (vp_in_nI (by omega) (by omega)) dX12_finish_71 ?_
      refine lv_topi (fun x_28 _ => ?_)
      refine lv_bipush (v := 24) hx hb dX12_finish_72 (by decide) ?_
      refine lv_bipush (v := 8) hx hb dX12_finish_74 (by decide) ?_
      refine lv_iload hx hb dX12_finish_76 (lv_at hl 0 rfl) ?_
      refine lv_iconst (v := 4) hx hb dX12_finish_78 (by decide) ?_
      refine lv_irem hx hb dX12_finish_79 (by decide) ?_
      refine lv_topi (fun x_29 _ => ?_)
      refine lv_imul hx hb dX12_finish_80 ?_
      refine lv_topi (fun x_30 _ => ?_)
      refine lv_isub hx hb dX12_finish_81 ?_
      refine lv_topi (fun x_31 _ => ?_)
      refine lv_ishr hx hb dX12_finish_82 ?_
      refine lv_topi (fun x_32 _ => ?_)
      refine lv_i2b hx hb dX12_finish_83 rfl ?_
      refine lv_topi (fun x_33 _ => ?_)
      refine va_bast hx hb hK hP hD hS 0 5 rfl rfl (vp_in_nI (by omega) (by omega)) dX12_finish_84 (fun H locs hP hD hS => ?_)
      obtain ⟨f_34, hP, hD⟩ : ∃ f_34 : Nat → Int32, va_P (dC, dI) vwCl [(qb, .inl (cb, 32, .inl f_34)), (h0, .inr (12, [.ref q1, .ref q2, .ref q3, .ref q4, .ref q5, .int 0, .long a2_17])), (q1, .inl (c1, 8, .inl f1)), (q2, .inl (c2, 8, .inl g2_18)), (q3, .inl (c3, 64, .inl g3_19)), (q4, .inl (c4, 64, .inl f4)), (q5, .inl (c5, 64, .inl g5_20))] H ∧ va_D A [(qb, .inl (cb, 32, .inl f_34)), (h0, .inr (12, [.ref q1, .ref q2, .ref q3, .ref q4, .ref q5, .int 0, .long a2_17])), (q1, .inl (c1, 8, .inl f1)), (q2, .inl (c2, 8, .inl g2_18)), (q3, .inl (c3, 64, .inl g3_19)), (q4, .inl (c4, 64, .inl f4)), (q5, .inl (c5, 64, .inl g5_20))] := ⟨_, hP, hD⟩
      refine lv_iinc (v := (nI (i1 + 1))) (lv' := [(5, .int (nI (i1 + 1))), (3, .long x_1), (0, .ref h0), (1, .ref qb), (2, .int 0)]) hx hb dX12_finish_85 hl (k := 0) rfl (nI_1 _) (by decide) rfl (fun ls hl => ?_)
      refine lv_goto (tgt := 51) hx hb dX12_finish_88 (by decide) ?_
      refine W.widen (k := 0) (n := 0) (by omega) (by omega) ?_
      exact ih_22 ((i1 + 1), f_34) (by first | omega | exact ⟨by omega, by omega⟩) (by show 32 - (i1 + 1) < 32 - i1; omega) _ _ (hP.sub [0, 1, 2, 3, 4, 5, 6] rfl) (hD.sub [0, 1, 2, 3, 4, 5, 6] (by decide) rfl) hS ls (lv_sub hl [0, 1, 2, 3, 4] rfl)
  ·
    have hne : n1 ≠ 56 := fun h => c_7 (by rw [h]; rfl)
    refine lv_aload_n hx hb dX12_finish_25 rfl (lv_at hl 1 rfl) ?_
    refine lv_iconst (v := 0) hx hb dX12_finish_26 (by decide) ?_
    have hPc := hP.sub (ws' := [(h0, .inr (12, [.ref q1, .ref q2, .ref q3, .ref q4, .ref q5, .int (nI n1), .long al])), (q1, .inl (c1, 8, .inl f1)), (q2, .inl (c2, 8, .inl f2)), (q3, .inl (c3, 64, .inl f3)), (q4, .inl (c4, 64, .inl f4)), (q5, .inl (c5, 64, .inl fc))]) [1, 2, 3, 4, 5, 6] rfl
    have hDc := hD.sub (ws' := [(h0, .inr (12, [.ref q1, .ref q2, .ref q3, .ref q4, .ref q5, .int (nI n1), .long al])), (q1, .inl (c1, 8, .inl f1)), (q2, .inl (c2, 8, .inl f2)), (q3, .inl (c3, 64, .inl f3)), (q4, .inl (c4, 64, .inl f4)), (q5, .inl (c5, 64, .inl fc))]) [1, 2, 3, 4, 5, 6] (by decide) rfl
    have hKc := hK.sub (tys' := [(c1, .int), (c2, .int), (c3, .int), (c4, .int), (c5, .byte)]) [0, 1, 2, 3, 4] rfl
    have hFc := va_free (wc := [(h0, .inr (12, [.ref q1, .ref q2, .ref q3, .ref q4, .ref q5, .int (nI n1), .long al])), (q1, .inl (c1, 8, .inl f1)), (q2, .inl (c2, 8, .inl f2)), (q3, .inl (c3, 64, .inl f3)), (q4, .inl (c4, 64, .inl f4)), (q5, .inl (c5, 64, .inl fc))]) hD hS hA [1, 2, 3, 4, 5, 6] rfl
    refine va_callv (va_runV (As := [.int 0]) (rest := []) ⟨hx, hb, hml, hown, hts⟩ (c_X12_one l dC dI H.size h0 n1 q1 q2 q3 q4 q5 c1 c2 c3 c4 c5 f1 f2 f3 f4 fc 0 al (by omega)) ⟨callB_of 1 hts (gi kt_311) rfl rfl rfl (hts _ kt_285) (hts _ kt_312) (by decide +kernel) ⟨Nat.le_of_ble_eq_true rfl, Nat.le_of_ble_eq_true rfl⟩, (hts _ kt_313), (hts _ kt_314)⟩ ⟨fun a U g mk q => ⟨q.1, PW.calling q.2⟩, va_recv hKc hPc (ci := 12) (q0 := 0) rfl rfl, fun U hU hW => ⟨rfl, PW.mk hU hW hPc hKc hDc hE⟩⟩ rfl rfl hl.1 rfl (lv_room (Nat.le_of_ble_eq_true rfl)) dX12_finish_27 ⟨by show _ + 0 ≤ 0; omega, by show _ + 0 ≤ 0; omega⟩) hS (fun q _ h => hFc q h) hFc (fun u t H1 locs ht hvm hw hB hz1 hk1 hS => ?_)
    obtain ⟨a2_37, g5_38, hB1⟩ := hB
    obtain ⟨hP, hD, hK⟩ := QW.join (wr := [(qb, .inl (cb, 32, .inl fb0))]) hP hD hK [1, 2, 3, 4, 5, 6] [0] rfl rfl (by decide) (by decide) hk1 hFc ht hvm hB1
    generalize H1 = H at hP hS ⊢
    have hK : va_K (dC, dI) vwCl [(c1, .int), (c2, .int), (c3, .int), (c4, .int), (c5, .byte), (cb, .byte)] s := hK.sub [0, 1, 2, 3, 4, 5] rfl
    have hP : va_P (dC, dI) vwCl [(qb, .inl (cb, 32, .inl fb0)), (h0, .inr (12, [.ref q1, .ref q2, .ref q3, .ref q4, .ref q5, .int (nI (n1 + 1)), .long a2_37])), (q1, .inl (c1, 8, .inl f1)), (q2, .inl (c2, 8, .inl f2)), (q3, .inl (c3, 64, .inl f3)), (q4, .inl (c4, 64, .inl f4)), (q5, .inl (c5, 64, .inl g5_38))] H := hP
    have hD : va_D A [(qb, .inl (cb, 32, .inl fb0)), (h0, .inr (12, [.ref q1, .ref q2, .ref q3, .ref q4, .ref q5, .int (nI (n1 + 1)), .long a2_37])), (q1, .inl (c1, 8, .inl f1)), (q2, .inl (c2, 8, .inl f2)), (q3, .inl (c3, 64, .inl f3)), (q4, .inl (c4, 64, .inl f4)), (q5, .inl (c5, 64, .inl g5_38))] := hD
    refine lv_goto (tgt := 16) hx hb dX12_finish_30 (by decide) ?_
    refine W.widen (k := 0) (n := 0) (by omega) (by omega) ?_
    exact ih_6 ((n1 + 1), a2_37, g5_38) (by first | omega | exact ⟨by omega, by omega⟩) (by show 56 - (n1 + 1) < 56 - n1; omega) _ _ (hP.sub [0, 1, 2, 3, 4, 5, 6] rfl) (hD.sub [0, 1, 2, 3, 4, 5, 6] (by decide) rfl) hS ls (lv_sub hl [0, 1, 2, 3] rfl)
