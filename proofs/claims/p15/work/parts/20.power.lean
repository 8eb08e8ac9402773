theorem dX6_addTimes_0 : decode cX6_addTimes 0 = .ok (.lconst 0, 1) := by decide +kernel
theorem dX6_addTimes_1 : decode cX6_addTimes 1 = .ok (.lstore 4, 2) := by decide +kernel
theorem dX6_addTimes_3 : decode cX6_addTimes 3 = .ok (.iconst 0, 1) := by decide +kernel
theorem dX6_addTimes_4 : decode cX6_addTimes 4 = .ok (.istore 6, 2) := by decide +kernel
theorem dX6_addTimes_6 : decode cX6_addTimes 6 = .ok (.iload 6, 2) := by decide +kernel
theorem dX6_addTimes_8 : decode cX6_addTimes 8 = .ok (.bipush 16, 2) := by decide +kernel
theorem dX6_addTimes_10 : decode cX6_addTimes 10 = .ok (.if_icmp .ge 48, 3) := by decide +kernel
theorem dX6_addTimes_13 : decode cX6_addTimes 13 = .ok (.aload_n 0, 1) := by decide +kernel
theorem dX6_addTimes_14 : decode cX6_addTimes 14 = .ok (.getfield 19, 3) := by decide +kernel
theorem dX6_addTimes_17 : decode cX6_addTimes 17 = .ok (.iload 6, 2) := by decide +kernel
theorem dX6_addTimes_19 : decode cX6_addTimes 19 = .ok (.laload, 1) := by decide +kernel
theorem dX6_addTimes_20 : decode cX6_addTimes 20 = .ok (.aload_n 1, 1) := by decide +kernel
theorem dX6_addTimes_21 : decode cX6_addTimes 21 = .ok (.iload 6, 2) := by decide +kernel
theorem dX6_addTimes_23 : decode cX6_addTimes 23 = .ok (.laload, 1) := by decide +kernel
theorem dX6_addTimes_24 : decode cX6_addTimes 24 = .ok (.lload_n 2, 1) := by decide +kernel
theorem dX6_addTimes_25 : decode cX6_addTimes 25 = .ok (.lmul, 1) := by decide +kernel
theorem dX6_addTimes_26 : decode cX6_addTimes 26 = .ok (.ladd, 1) := by decide +kernel
theorem dX6_addTimes_27 : decode cX6_addTimes 27 = .ok (.lload 4, 2) := by decide +kernel
theorem dX6_addTimes_29 : decode cX6_addTimes 29 = .ok (.ladd, 1) := by decide +kernel
theorem dX6_addTimes_30 : decode cX6_addTimes 30 = .ok (.lstore 7, 2) := by decide +kernel
theorem dX6_addTimes_32 : decode cX6_addTimes 32 = .ok (.aload_n 0, 1) := by decide +kernel
theorem dX6_addTimes_33 : decode cX6_addTimes 33 = .ok (.getfield 19, 3) := by decide +kernel
theorem dX6_addTimes_36 : decode cX6_addTimes 36 = .ok (.iload 6, 2) := by decide +kernel
theorem dX6_addTimes_38 : decode cX6_addTimes 38 = .ok (.lload 7, 2) := by decide +kernel
theorem dX6_addTimes_40 : decode cX6_addTimes 40 = .ok (.ldc2_w 54, 3) := by decide +kernel
theorem dX6_addTimes_43 : decode cX6_addTimes 43 = .ok (.land, 1) := by decide +kernel
theorem dX6_addTimes_44 : decode cX6_addTimes 44 = .ok (.lastore, 1) := by decide +kernel
theorem dX6_addTimes_45 : decode cX6_addTimes 45 = .ok (.lload 7, 2) := by decide +kernel
theorem dX6_addTimes_47 : decode cX6_addTimes 47 = .ok (.bipush 32, 2) := by decide +kernel
theorem dX6_addTimes_49 : decode cX6_addTimes 49 = .ok (.lushr, 1) := by decide +kernel
theorem dX6_addTimes_50 : decode cX6_addTimes 50 = .ok (.lstore 4, 2) := by decide +kernel
theorem dX6_addTimes_52 : decode cX6_addTimes 52 = .ok (.iinc 6 1, 3) := by decide +kernel
theorem dX6_addTimes_55 : decode cX6_addTimes 55 = .ok (.goto (-49), 3) := by decide +kernel
theorem dX6_addTimes_58 : decode cX6_addTimes 58 = .ok (.lload 4, 2) := by decide +kernel
theorem dX6_addTimes_60 : decode cX6_addTimes 60 = .ok (.aload_n 0, 1) := by decide +kernel
theorem dX6_addTimes_61 : decode cX6_addTimes 61 = .ok (.getfield 19, 3) := by decide +kernel
theorem dX6_addTimes_64 : decode cX6_addTimes 64 = .ok (.bipush 16, 2) := by decide +kernel
theorem dX6_addTimes_66 : decode cX6_addTimes 66 = .ok (.laload, 1) := by decide +kernel
theorem dX6_addTimes_67 : decode cX6_addTimes 67 = .ok (.ladd, 1) := by decide +kernel
theorem dX6_addTimes_68 : decode cX6_addTimes 68 = .ok (.lstore 4, 2) := by decide +kernel
theorem dX6_addTimes_70 : decode cX6_addTimes 70 = .ok (.aload_n 0, 1) := by decide +kernel
theorem dX6_addTimes_71 : decode cX6_addTimes 71 = .ok (.getfield 19, 3) := by decide +kernel
theorem dX6_addTimes_74 : decode cX6_addTimes 74 = .ok (.bipush 16, 2) := by decide +kernel
theorem dX6_addTimes_76 : decode cX6_addTimes 76 = .ok (.lload 4, 2) := by decide +kernel
theorem dX6_addTimes_78 : decode cX6_addTimes 78 = .ok (.ldc2_w 54, 3) := by decide +kernel
theorem dX6_addTimes_81 : decode cX6_addTimes 81 = .ok (.land, 1) := by decide +kernel
theorem dX6_addTimes_82 : decode cX6_addTimes 82 = .ok (.lastore, 1) := by decide +kernel
theorem dX6_addTimes_83 : decode cX6_addTimes 83 = .ok (.aload_n 0, 1) := by decide +kernel
theorem dX6_addTimes_84 : decode cX6_addTimes 84 = .ok (.getfield 19, 3) := by decide +kernel
theorem dX6_addTimes_87 : decode cX6_addTimes 87 = .ok (.bipush 17, 2) := by decide +kernel
theorem dX6_addTimes_89 : decode cX6_addTimes 89 = .ok (.dup2, 1) := by decide +kernel
theorem dX6_addTimes_90 : decode cX6_addTimes 90 = .ok (.laload, 1) := by decide +kernel
theorem dX6_addTimes_91 : decode cX6_addTimes 91 = .ok (.lload 4, 2) := by decide +kernel
theorem dX6_addTimes_93 : decode cX6_addTimes 93 = .ok (.bipush 32, 2) := by decide +kernel
theorem dX6_addTimes_95 : decode cX6_addTimes 95 = .ok (.lushr, 1) := by decide +kernel
theorem dX6_addTimes_96 : decode cX6_addTimes 96 = .ok (.ladd, 1) := by decide +kernel
theorem dX6_addTimes_97 : decode cX6_addTimes 97 = .ok (.lastore, 1) := by decide +kernel
theorem dX6_addTimes_98 : decode cX6_addTimes 98 = .ok (.return_, 1) := by decide +kernel
theorem dX6_factorOf_0 : decode cX6_factorOf 0 = .ok (.iload_n 0, 1) := by decide +kernel
theorem dX6_factorOf_1 : decode cX6_factorOf 1 = .ok (.istore_n 1, 1) := by decide +kernel
theorem dX6_factorOf_2 : decode cX6_factorOf 2 = .ok (.iconst 0, 1) := by decide +kernel
theorem dX6_factorOf_3 : decode cX6_factorOf 3 = .ok (.istore_n 2, 1) := by decide +kernel
theorem dX6_factorOf_4 : decode cX6_factorOf 4 = .ok (.iload_n 2, 1) := by decide +kernel
theorem dX6_factorOf_5 : decode cX6_factorOf 5 = .ok (.iconst 5, 1) := by decide +kernel
theorem dX6_factorOf_6 : decode cX6_factorOf 6 = .ok (.if_icmp .ge 17, 3) := by decide +kernel
theorem dX6_factorOf_9 : decode cX6_factorOf 9 = .ok (.iload_n 1, 1) := by decide +kernel
theorem dX6_factorOf_10 : decode cX6_factorOf 10 = .ok (.iconst 2, 1) := by decide +kernel
theorem dX6_factorOf_11 : decode cX6_factorOf 11 = .ok (.iload_n 0, 1) := by decide +kernel
theorem dX6_factorOf_12 : decode cX6_factorOf 12 = .ok (.iload_n 1, 1) := by decide +kernel
theorem dX6_factorOf_13 : decode cX6_factorOf 13 = .ok (.imul, 1) := by decide +kernel
theorem dX6_factorOf_14 : decode cX6_factorOf 14 = .ok (.isub, 1) := by decide +kernel
theorem dX6_factorOf_15 : decode cX6_factorOf 15 = .ok (.imul, 1) := by decide +kernel
theorem dX6_factorOf_16 : decode cX6_factorOf 16 = .ok (.istore_n 1, 1) := by decide +kernel
theorem dX6_factorOf_17 : decode cX6_factorOf 17 = .ok (.iinc 2 1, 3) := by decide +kernel
theorem dX6_factorOf_20 : decode cX6_factorOf 20 = .ok (.goto (-16), 3) := by decide +kernel
theorem dX6_factorOf_23 : decode cX6_factorOf 23 = .ok (.iload_n 1, 1) := by decide +kernel
theorem dX6_factorOf_24 : decode cX6_factorOf 24 = .ok (.ineg, 1) := by decide +kernel
theorem dX6_factorOf_25 : decode cX6_factorOf 25 = .ok (.i2l, 1) := by decide +kernel
theorem dX6_factorOf_26 : decode cX6_factorOf 26 = .ok (.ldc2_w 54, 3) := by decide +kernel
theorem dX6_factorOf_29 : decode cX6_factorOf 29 = .ok (.land, 1) := by decide +kernel
theorem dX6_factorOf_30 : decode cX6_factorOf 30 = .ok (.lreturn, 1) := by decide +kernel
theorem dX6_load_0 : decode cX6_load 0 = .ok (.iconst 0, 1) := by decide +kernel
theorem dX6_load_1 : decode cX6_load 1 = .ok (.istore_n 2, 1) := by decide +kernel
theorem dX6_load_2 : decode cX6_load 2 = .ok (.iload_n 2, 1) := by decide +kernel
theorem dX6_load_3 : decode cX6_load 3 = .ok (.bipush 16, 2) := by decide +kernel
theorem dX6_load_5 : decode cX6_load 5 = .ok (.if_icmp .ge 54, 3) := by decide +kernel
theorem dX6_load_8 : decode cX6_load 8 = .ok (.lconst 0, 1) := by decide +kernel
theorem dX6_load_9 : decode cX6_load 9 = .ok (.lstore_n 3, 1) := by decide +kernel
theorem dX6_load_10 : decode cX6_load 10 = .ok (.iconst 0, 1) := by decide +kernel
theorem dX6_load_11 : decode cX6_load 11 = .ok (.istore 5, 2) := by decide +kernel
theorem dX6_load_13 : decode cX6_load 13 = .ok (.iload 5, 2) := by decide +kernel
theorem dX6_load_15 : decode cX6_load 15 = .ok (.iconst 4, 1) := by decide +kernel
theorem dX6_load_16 : decode cX6_load 16 = .ok (.if_icmp .ge 33, 3) := by decide +kernel
theorem dX6_load_19 : decode cX6_load 19 = .ok (.lload_n 3, 1) := by decide +kernel
theorem dX6_load_20 : decode cX6_load 20 = .ok (.bipush 8, 2) := by decide +kernel
theorem dX6_load_22 : decode cX6_load 22 = .ok (.lshl, 1) := by decide +kernel
theorem dX6_load_23 : decode cX6_load 23 = .ok (.aload_n 0, 1) := by decide +kernel
theorem dX6_load_24 : decode cX6_load 24 = .ok (.bipush 15, 2) := by decide +kernel
theorem dX6_load_26 : decode cX6_load 26 = .ok (.iload_n 2, 1) := by decide +kernel
theorem dX6_load_27 : decode cX6_load 27 = .ok (.isub, 1) := by decide +kernel
theorem dX6_load_28 : decode cX6_load 28 = .ok (.iconst 4, 1) := by decide +kernel
theorem dX6_load_29 : decode cX6_load 29 = .ok (.imul, 1) := by decide +kernel
theorem dX6_load_30 : decode cX6_load 30 = .ok (.iload 5, 2) := by decide +kernel
theorem dX6_load_32 : decode cX6_load 32 = .ok (.iadd, 1) := by decide +kernel
theorem dX6_load_33 : decode cX6_load 33 = .ok (.invokevirtual 50, 3) := by decide +kernel
theorem dX6_load_36 : decode cX6_load 36 = .ok (.sipush 255, 3) := by decide +kernel
theorem dX6_load_39 : decode cX6_load 39 = .ok (.iand, 1) := by decide +kernel
theorem dX6_load_40 : decode cX6_load 40 = .ok (.i2l, 1) := by decide +kernel
theorem dX6_load_41 : decode cX6_load 41 = .ok (.lor, 1) := by decide +kernel
theorem dX6_load_42 : decode cX6_load 42 = .ok (.lstore_n 3, 1) := by decide +kernel
theorem dX6_load_43 : decode cX6_load 43 = .ok (.iinc 5 1, 3) := by decide +kernel
theorem dX6_load_46 : decode cX6_load 46 = .ok (.goto (-33), 3) := by decide +kernel
theorem dX6_load_49 : decode cX6_load 49 = .ok (.aload_n 1, 1) := by decide +kernel
theorem dX6_load_50 : decode cX6_load 50 = .ok (.iload_n 2, 1) := by decide +kernel
theorem dX6_load_51 : decode cX6_load 51 = .ok (.lload_n 3, 1) := by decide +kernel
theorem dX6_load_52 : decode cX6_load 52 = .ok (.lastore, 1) := by decide +kernel
theorem dX6_load_53 : decode cX6_load 53 = .ok (.iinc 2 1, 3) := by decide +kernel
theorem dX6_load_56 : decode cX6_load 56 = .ok (.goto (-54), 3) := by decide +kernel
theorem dX6_load_59 : decode cX6_load 59 = .ok (.return_, 1) := by decide +kernel
theorem dX6_multiply_0 : decode cX6_multiply 0 = .ok (.iconst 0, 1) := by decide +kernel
theorem dX6_multiply_1 : decode cX6_multiply 1 = .ok (.istore_n 3, 1) := by decide +kernel
theorem dX6_multiply_2 : decode cX6_multiply 2 = .ok (.iload_n 3, 1) := by decide +kernel
theorem dX6_multiply_3 : decode cX6_multiply 3 = .ok (.bipush 18, 2) := by decide +kernel
theorem dX6_multiply_5 : decode cX6_multiply 5 = .ok (.if_icmp .ge 16, 3) := by decide +kernel
theorem dX6_multiply_8 : decode cX6_multiply 8 = .ok (.aload_n 0, 1) := by decide +kernel
theorem dX6_multiply_9 : decode cX6_multiply 9 = .ok (.getfield 19, 3) := by decide +kernel
theorem dX6_multiply_12 : decode cX6_multiply 12 = .ok (.iload_n 3, 1) := by decide +kernel
theorem dX6_multiply_13 : decode cX6_multiply 13 = .ok (.lconst 0, 1) := by decide +kernel
theorem dX6_multiply_14 : decode cX6_multiply 14 = .ok (.lastore, 1) := by decide +kernel
theorem dX6_multiply_15 : decode cX6_multiply 15 = .ok (.iinc 3 1, 3) := by decide +kernel
theorem dX6_multiply_18 : decode cX6_multiply 18 = .ok (.goto (-16), 3) := by decide +kernel
theorem dX6_multiply_21 : decode cX6_multiply 21 = .ok (.iconst 0, 1) := by decide +kernel
theorem dX6_multiply_22 : decode cX6_multiply 22 = .ok (.istore_n 3, 1) := by decide +kernel
theorem dX6_multiply_23 : decode cX6_multiply 23 = .ok (.iload_n 3, 1) := by decide +kernel
theorem dX6_multiply_24 : decode cX6_multiply 24 = .ok (.bipush 16, 2) := by decide +kernel
theorem dX6_multiply_26 : decode cX6_multiply 26 = .ok (.if_icmp .ge 80, 3) := by decide +kernel
theorem dX6_multiply_29 : decode cX6_multiply 29 = .ok (.aload_n 0, 1) := by decide +kernel
theorem dX6_multiply_30 : decode cX6_multiply 30 = .ok (.aload_n 1, 1) := by decide +kernel
theorem dX6_multiply_31 : decode cX6_multiply 31 = .ok (.aload_n 2, 1) := by decide +kernel
theorem dX6_multiply_32 : decode cX6_multiply 32 = .ok (.iload_n 3, 1) := by decide +kernel
theorem dX6_multiply_33 : decode cX6_multiply 33 = .ok (.laload, 1) := by decide +kernel
theorem dX6_multiply_34 : decode cX6_multiply 34 = .ok (.invokevirtual 59, 3) := by decide +kernel
theorem dX6_multiply_37 : decode cX6_multiply 37 = .ok (.aload_n 0, 1) := by decide +kernel
theorem dX6_multiply_38 : decode cX6_multiply 38 = .ok (.aload_n 0, 1) := by decide +kernel
theorem dX6_multiply_39 : decode cX6_multiply 39 = .ok (.getfield 9, 3) := by decide +kernel
theorem dX6_multiply_42 : decode cX6_multiply 42 = .ok (.aload_n 0, 1) := by decide +kernel
theorem dX6_multiply_43 : decode cX6_multiply 43 = .ok (.getfield 19, 3) := by decide +kernel
theorem dX6_multiply_46 : decode cX6_multiply 46 = .ok (.iconst 0, 1) := by decide +kernel
theorem dX6_multiply_47 : decode cX6_multiply 47 = .ok (.laload, 1) := by decide +kernel
theorem dX6_multiply_48 : decode cX6_multiply 48 = .ok (.aload_n 0, 1) := by decide +kernel
theorem dX6_multiply_49 : decode cX6_multiply 49 = .ok (.getfield 22, 3) := by decide +kernel
theorem dX6_multiply_52 : decode cX6_multiply 52 = .ok (.lmul, 1) := by decide +kernel
theorem dX6_multiply_53 : decode cX6_multiply 53 = .ok (.ldc2_w 54, 3) := by decide +kernel
theorem dX6_multiply_56 : decode cX6_multiply 56 = .ok (.land, 1) := by decide +kernel
theorem dX6_multiply_57 : decode cX6_multiply 57 = .ok (.invokevirtual 59, 3) := by decide +kernel
theorem dX6_multiply_60 : decode cX6_multiply 60 = .ok (.iconst 0, 1) := by decide +kernel
theorem dX6_multiply_61 : decode cX6_multiply 61 = .ok (.istore 4, 2) := by decide +kernel
theorem dX6_multiply_63 : decode cX6_multiply 63 = .ok (.iload 4, 2) := by decide +kernel
theorem dX6_multiply_65 : decode cX6_multiply 65 = .ok (.bipush 16, 2) := by decide +kernel
theorem dX6_multiply_67 : decode cX6_multiply 67 = .ok (.if_icmp .gt 25, 3) := by decide +kernel
theorem dX6_multiply_70 : decode cX6_multiply 70 = .ok (.aload_n 0, 1) := by decide +kernel
theorem dX6_multiply_71 : decode cX6_multiply 71 = .ok (.getfield 19, 3) := by decide +kernel
theorem dX6_multiply_74 : decode cX6_multiply 74 = .ok (.iload 4, 2) := by decide +kernel
theorem dX6_multiply_76 : decode cX6_multiply 76 = .ok (.aload_n 0, 1) := by decide +kernel
theorem dX6_multiply_77 : decode cX6_multiply 77 = .ok (.getfield 19, 3) := by decide +kernel
theorem dX6_multiply_80 : decode cX6_multiply 80 = .ok (.iload 4, 2) := by decide +kernel
theorem dX6_multiply_82 : decode cX6_multiply 82 = .ok (.iconst 1, 1) := by decide +kernel
theorem dX6_multiply_83 : decode cX6_multiply 83 = .ok (.iadd, 1) := by decide +kernel
theorem dX6_multiply_84 : decode cX6_multiply 84 = .ok (.laload, 1) := by decide +kernel
theorem dX6_multiply_85 : decode cX6_multiply 85 = .ok (.lastore, 1) := by decide +kernel
theorem dX6_multiply_86 : decode cX6_multiply 86 = .ok (.iinc 4 1, 3) := by decide +kernel
theorem dX6_multiply_89 : decode cX6_multiply 89 = .ok (.goto (-26), 3) := by decide +kernel
theorem dX6_multiply_92 : decode cX6_multiply 92 = .ok (.aload_n 0, 1) := by decide +kernel
theorem dX6_multiply_93 : decode cX6_multiply 93 = .ok (.getfield 19, 3) := by decide +kernel
theorem dX6_multiply_96 : decode cX6_multiply 96 = .ok (.bipush 17, 2) := by decide +kernel
theorem dX6_multiply_98 : decode cX6_multiply 98 = .ok (.lconst 0, 1) := by decide +kernel
theorem dX6_multiply_99 : decode cX6_multiply 99 = .ok (.lastore, 1) := by decide +kernel
theorem dX6_multiply_100 : decode cX6_multiply 100 = .ok (.iinc 3 1, 3) := by decide +kernel
theorem dX6_multiply_103 : decode cX6_multiply 103 = .ok (.goto (-80), 3) := by decide +kernel
theorem dX6_multiply_106 : decode cX6_multiply 106 = .ok (.aload_n 0, 1) := by decide +kernel
theorem dX6_multiply_107 : decode cX6_multiply 107 = .ok (.invokevirtual 56, 3) := by decide +kernel
theorem dX6_multiply_110 : decode cX6_multiply 110 = .ok (.return_, 1) := by decide +kernel
theorem dX6_of_0 : decode cX6_of 0 = .ok (.aload_n 2, 1) := by decide +kernel
theorem dX6_of_1 : decode cX6_of 1 = .ok (.aload_n 0, 1) := by decide +kernel
theorem dX6_of_2 : decode cX6_of 2 = .ok (.getfield 9, 3) := by decide +kernel
theorem dX6_of_5 : decode cX6_of 5 = .ok (.invokestatic 26, 3) := by decide +kernel
theorem dX6_of_8 : decode cX6_of 8 = .ok (.aload_n 1, 1) := by decide +kernel
theorem dX6_of_9 : decode cX6_of 9 = .ok (.aload_n 0, 1) := by decide +kernel
theorem dX6_of_10 : decode cX6_of 10 = .ok (.getfield 13, 3) := by decide +kernel
theorem dX6_of_13 : decode cX6_of 13 = .ok (.invokestatic 26, 3) := by decide +kernel
theorem dX6_of_16 : decode cX6_of 16 = .ok (.aload_n 0, 1) := by decide +kernel
theorem dX6_of_17 : decode cX6_of 17 = .ok (.aload_n 0, 1) := by decide +kernel
theorem dX6_of_18 : decode cX6_of 18 = .ok (.getfield 9, 3) := by decide +kernel
theorem dX6_of_21 : decode cX6_of 21 = .ok (.iconst 0, 1) := by decide +kernel
theorem dX6_of_22 : decode cX6_of 22 = .ok (.laload, 1) := by decide +kernel
theorem dX6_of_23 : decode cX6_of 23 = .ok (.l2i, 1) := by decide +kernel
theorem dX6_of_24 : decode cX6_of 24 = .ok (.invokestatic 30, 3) := by decide +kernel
theorem dX6_of_27 : decode cX6_of 27 = .ok (.putfield 22, 3) := by decide +kernel
theorem dX6_of_30 : decode cX6_of 30 = .ok (.aload_n 0, 1) := by decide +kernel
theorem dX6_of_31 : decode cX6_of 31 = .ok (.invokevirtual 34, 3) := by decide +kernel
theorem dX6_of_34 : decode cX6_of 34 = .ok (.iconst 0, 1) := by decide +kernel
theorem dX6_of_35 : decode cX6_of 35 = .ok (.istore 4, 2) := by decide +kernel
theorem dX6_of_37 : decode cX6_of 37 = .ok (.iload 4, 2) := by decide +kernel
theorem dX6_of_39 : decode cX6_of 39 = .ok (.bipush 9, 2) := by decide +kernel
theorem dX6_of_41 : decode cX6_of 41 = .ok (.if_icmp .ge 21, 3) := by decide +kernel
theorem dX6_of_44 : decode cX6_of 44 = .ok (.aload_n 0, 1) := by decide +kernel
theorem dX6_of_45 : decode cX6_of 45 = .ok (.aload_n 0, 1) := by decide +kernel
theorem dX6_of_46 : decode cX6_of 46 = .ok (.getfield 16, 3) := by decide +kernel
theorem dX6_of_49 : decode cX6_of 49 = .ok (.aload_n 0, 1) := by decide +kernel
theorem dX6_of_50 : decode cX6_of 50 = .ok (.getfield 16, 3) := by decide +kernel
theorem dX6_of_53 : decode cX6_of 53 = .ok (.invokevirtual 37, 3) := by decide +kernel
theorem dX6_of_56 : decode cX6_of 56 = .ok (.iinc 4 1, 3) := by decide +kernel
theorem dX6_of_59 : decode cX6_of 59 = .ok (.goto (-22), 3) := by decide +kernel
theorem dX6_of_62 : decode cX6_of 62 = .ok (.aload_n 0, 1) := by decide +kernel
theorem dX6_of_63 : decode cX6_of 63 = .ok (.aload_n 0, 1) := by decide +kernel
theorem dX6_of_64 : decode cX6_of 64 = .ok (.getfield 16, 3) := by decide +kernel
theorem dX6_of_67 : decode cX6_of 67 = .ok (.aload_n 0, 1) := by decide +kernel
theorem dX6_of_68 : decode cX6_of 68 = .ok (.getfield 13, 3) := by decide +kernel
theorem dX6_of_71 : decode cX6_of 71 = .ok (.invokevirtual 37, 3) := by decide +kernel
theorem dX6_of_74 : decode cX6_of 74 = .ok (.iconst 0, 1) := by decide +kernel
theorem dX6_of_75 : decode cX6_of 75 = .ok (.istore 4, 2) := by decide +kernel
theorem dX6_of_77 : decode cX6_of 77 = .ok (.iload 4, 2) := by decide +kernel
theorem dX6_of_79 : decode cX6_of 79 = .ok (.bipush 16, 2) := by decide +kernel
theorem dX6_of_81 : decode cX6_of 81 = .ok (.if_icmp .ge 21, 3) := by decide +kernel
theorem dX6_of_84 : decode cX6_of 84 = .ok (.aload_n 0, 1) := by decide +kernel
theorem dX6_of_85 : decode cX6_of 85 = .ok (.aload_n 0, 1) := by decide +kernel
theorem dX6_of_86 : decode cX6_of 86 = .ok (.getfield 16, 3) := by decide +kernel
theorem dX6_of_89 : decode cX6_of 89 = .ok (.aload_n 0, 1) := by decide +kernel
theorem dX6_of_90 : decode cX6_of 90 = .ok (.getfield 16, 3) := by decide +kernel
theorem dX6_of_93 : decode cX6_of 93 = .ok (.invokevirtual 37, 3) := by decide +kernel
theorem dX6_of_96 : decode cX6_of 96 = .ok (.iinc 4 1, 3) := by decide +kernel
theorem dX6_of_99 : decode cX6_of 99 = .ok (.goto (-22), 3) := by decide +kernel
theorem dX6_of_102 : decode cX6_of 102 = .ok (.aload_n 0, 1) := by decide +kernel
theorem dX6_of_103 : decode cX6_of 103 = .ok (.aload_n 0, 1) := by decide +kernel
theorem dX6_of_104 : decode cX6_of 104 = .ok (.getfield 16, 3) := by decide +kernel
theorem dX6_of_107 : decode cX6_of 107 = .ok (.aload_n 0, 1) := by decide +kernel
theorem dX6_of_108 : decode cX6_of 108 = .ok (.getfield 13, 3) := by decide +kernel
theorem dX6_of_111 : decode cX6_of 111 = .ok (.invokevirtual 37, 3) := by decide +kernel
theorem dX6_of_114 : decode cX6_of 114 = .ok (.aload_n 3, 1) := by decide +kernel
theorem dX6_of_115 : decode cX6_of 115 = .ok (.invokevirtual 41, 3) := by decide +kernel
theorem dX6_of_118 : decode cX6_of 118 = .ok (.bipush 15, 2) := by decide +kernel
theorem dX6_of_120 : decode cX6_of 120 = .ok (.istore 4, 2) := by decide +kernel
theorem dX6_of_122 : decode cX6_of 122 = .ok (.iload 4, 2) := by decide +kernel
theorem dX6_of_124 : decode cX6_of 124 = .ok (.ifCond .lt 21, 3) := by decide +kernel
theorem dX6_of_127 : decode cX6_of 127 = .ok (.aload_n 3, 1) := by decide +kernel
theorem dX6_of_128 : decode cX6_of 128 = .ok (.aload_n 0, 1) := by decide +kernel
theorem dX6_of_129 : decode cX6_of 129 = .ok (.getfield 16, 3) := by decide +kernel
theorem dX6_of_132 : decode cX6_of 132 = .ok (.iload 4, 2) := by decide +kernel
theorem dX6_of_134 : decode cX6_of 134 = .ok (.laload, 1) := by decide +kernel
theorem dX6_of_135 : decode cX6_of 135 = .ok (.l2i, 1) := by decide +kernel
theorem dX6_of_136 : decode cX6_of 136 = .ok (.invokevirtual 46, 3) := by decide +kernel
theorem dX6_of_139 : decode cX6_of 139 = .ok (.iinc 4 (-1), 3) := by decide +kernel
theorem dX6_of_142 : decode cX6_of 142 = .ok (.goto (-20), 3) := by decide +kernel
theorem dX6_of_145 : decode cX6_of 145 = .ok (.return_, 1) := by decide +kernel
theorem dX6_reduce_0 : decode cX6_reduce 0 = .ok (.lconst 0, 1) := by decide +kernel
theorem dX6_reduce_1 : decode cX6_reduce 1 = .ok (.lstore_n 1, 1) := by decide +kernel
theorem dX6_reduce_2 : decode cX6_reduce 2 = .ok (.iconst 0, 1) := by decide +kernel
theorem dX6_reduce_3 : decode cX6_reduce 3 = .ok (.istore_n 3, 1) := by decide +kernel
theorem dX6_reduce_4 : decode cX6_reduce 4 = .ok (.iload_n 3, 1) := by decide +kernel
theorem dX6_reduce_5 : decode cX6_reduce 5 = .ok (.bipush 16, 2) := by decide +kernel
theorem dX6_reduce_7 : decode cX6_reduce 7 = .ok (.if_icmp .ge 44, 3) := by decide +kernel
theorem dX6_reduce_10 : decode cX6_reduce 10 = .ok (.aload_n 0, 1) := by decide +kernel
theorem dX6_reduce_11 : decode cX6_reduce 11 = .ok (.getfield 19, 3) := by decide +kernel
theorem dX6_reduce_14 : decode cX6_reduce 14 = .ok (.iload_n 3, 1) := by decide +kernel
theorem dX6_reduce_15 : decode cX6_reduce 15 = .ok (.laload, 1) := by decide +kernel
theorem dX6_reduce_16 : decode cX6_reduce 16 = .ok (.aload_n 0, 1) := by decide +kernel
theorem dX6_reduce_17 : decode cX6_reduce 17 = .ok (.getfield 9, 3) := by decide +kernel
theorem dX6_reduce_20 : decode cX6_reduce 20 = .ok (.iload_n 3, 1) := by decide +kernel
theorem dX6_reduce_21 : decode cX6_reduce 21 = .ok (.laload, 1) := by decide +kernel
theorem dX6_reduce_22 : decode cX6_reduce 22 = .ok (.lsub, 1) := by decide +kernel
theorem dX6_reduce_23 : decode cX6_reduce 23 = .ok (.lload_n 1, 1) := by decide +kernel
theorem dX6_reduce_24 : decode cX6_reduce 24 = .ok (.lsub, 1) := by decide +kernel
theorem dX6_reduce_25 : decode cX6_reduce 25 = .ok (.lstore 4, 2) := by decide +kernel
theorem dX6_reduce_27 : decode cX6_reduce 27 = .ok (.aload_n 0, 1) := by decide +kernel
theorem dX6_reduce_28 : decode cX6_reduce 28 = .ok (.getfield 16, 3) := by decide +kernel
theorem dX6_reduce_31 : decode cX6_reduce 31 = .ok (.iload_n 3, 1) := by decide +kernel
theorem dX6_reduce_32 : decode cX6_reduce 32 = .ok (.lload 4, 2) := by decide +kernel
theorem dX6_reduce_34 : decode cX6_reduce 34 = .ok (.ldc2_w 54, 3) := by decide +kernel
theorem dX6_reduce_37 : decode cX6_reduce 37 = .ok (.land, 1) := by decide +kernel
theorem dX6_reduce_38 : decode cX6_reduce 38 = .ok (.lastore, 1) := by decide +kernel
theorem dX6_reduce_39 : decode cX6_reduce 39 = .ok (.lload 4, 2) := by decide +kernel
theorem dX6_reduce_41 : decode cX6_reduce 41 = .ok (.bipush 63, 2) := by decide +kernel
theorem dX6_reduce_43 : decode cX6_reduce 43 = .ok (.lushr, 1) := by decide +kernel
theorem dX6_reduce_44 : decode cX6_reduce 44 = .ok (.lstore_n 1, 1) := by decide +kernel
theorem dX6_reduce_45 : decode cX6_reduce 45 = .ok (.iinc 3 1, 3) := by decide +kernel
theorem dX6_reduce_48 : decode cX6_reduce 48 = .ok (.goto (-44), 3) := by decide +kernel
theorem dX6_reduce_51 : decode cX6_reduce 51 = .ok (.aload_n 0, 1) := by decide +kernel
theorem dX6_reduce_52 : decode cX6_reduce 52 = .ok (.getfield 19, 3) := by decide +kernel
theorem dX6_reduce_55 : decode cX6_reduce 55 = .ok (.bipush 16, 2) := by decide +kernel
theorem dX6_reduce_57 : decode cX6_reduce 57 = .ok (.laload, 1) := by decide +kernel
theorem dX6_reduce_58 : decode cX6_reduce 58 = .ok (.lload_n 1, 1) := by decide +kernel
theorem dX6_reduce_59 : decode cX6_reduce 59 = .ok (.lcmp, 1) := by decide +kernel
theorem dX6_reduce_60 : decode cX6_reduce 60 = .ok (.ifCond .ge 18, 3) := by decide +kernel
theorem dX6_reduce_63 : decode cX6_reduce 63 = .ok (.aload_n 0, 1) := by decide +kernel
theorem dX6_reduce_64 : decode cX6_reduce 64 = .ok (.getfield 19, 3) := by decide +kernel
theorem dX6_reduce_67 : decode cX6_reduce 67 = .ok (.iconst 0, 1) := by decide +kernel
theorem dX6_reduce_68 : decode cX6_reduce 68 = .ok (.aload_n 0, 1) := by decide +kernel
theorem dX6_reduce_69 : decode cX6_reduce 69 = .ok (.getfield 16, 3) := by decide +kernel
theorem dX6_reduce_72 : decode cX6_reduce 72 = .ok (.iconst 0, 1) := by decide +kernel
theorem dX6_reduce_73 : decode cX6_reduce 73 = .ok (.bipush 16, 2) := by decide +kernel
theorem dX6_reduce_75 : decode cX6_reduce 75 = .ok (.invokestatic 63, 3) := by decide +kernel
theorem dX6_reduce_78 : decode cX6_reduce 78 = .ok (.return_, 1) := by decide +kernel
theorem dX6_setTwo_0 : decode cX6_setTwo 0 = .ok (.lconst 1, 1) := by decide +kernel
theorem dX6_setTwo_1 : decode cX6_setTwo 1 = .ok (.lstore_n 1, 1) := by decide +kernel
theorem dX6_setTwo_2 : decode cX6_setTwo 2 = .ok (.iconst 0, 1) := by decide +kernel
theorem dX6_setTwo_3 : decode cX6_setTwo 3 = .ok (.istore_n 3, 1) := by decide +kernel
theorem dX6_setTwo_4 : decode cX6_setTwo 4 = .ok (.iload_n 3, 1) := by decide +kernel
theorem dX6_setTwo_5 : decode cX6_setTwo 5 = .ok (.bipush 16, 2) := by decide +kernel
theorem dX6_setTwo_7 : decode cX6_setTwo 7 = .ok (.if_icmp .ge 41, 3) := by decide +kernel
theorem dX6_setTwo_10 : decode cX6_setTwo 10 = .ok (.aload_n 0, 1) := by decide +kernel
theorem dX6_setTwo_11 : decode cX6_setTwo 11 = .ok (.getfield 9, 3) := by decide +kernel
theorem dX6_setTwo_14 : decode cX6_setTwo 14 = .ok (.iload_n 3, 1) := by decide +kernel
theorem dX6_setTwo_15 : decode cX6_setTwo 15 = .ok (.laload, 1) := by decide +kernel
theorem dX6_setTwo_16 : decode cX6_setTwo 16 = .ok (.ldc2_w 54, 3) := by decide +kernel
theorem dX6_setTwo_19 : decode cX6_setTwo 19 = .ok (.lxor, 1) := by decide +kernel
theorem dX6_setTwo_20 : decode cX6_setTwo 20 = .ok (.lload_n 1, 1) := by decide +kernel
theorem dX6_setTwo_21 : decode cX6_setTwo 21 = .ok (.ladd, 1) := by decide +kernel
theorem dX6_setTwo_22 : decode cX6_setTwo 22 = .ok (.lstore 4, 2) := by decide +kernel
theorem dX6_setTwo_24 : decode cX6_setTwo 24 = .ok (.aload_n 0, 1) := by decide +kernel
theorem dX6_setTwo_25 : decode cX6_setTwo 25 = .ok (.getfield 19, 3) := by decide +kernel
theorem dX6_setTwo_28 : decode cX6_setTwo 28 = .ok (.iload_n 3, 1) := by decide +kernel
theorem dX6_setTwo_29 : decode cX6_setTwo 29 = .ok (.lload 4, 2) := by decide +kernel
theorem dX6_setTwo_31 : decode cX6_setTwo 31 = .ok (.ldc2_w 54, 3) := by decide +kernel
theorem dX6_setTwo_34 : decode cX6_setTwo 34 = .ok (.land, 1) := by decide +kernel
theorem dX6_setTwo_35 : decode cX6_setTwo 35 = .ok (.lastore, 1) := by decide +kernel
theorem dX6_setTwo_36 : decode cX6_setTwo 36 = .ok (.lload 4, 2) := by decide +kernel
theorem dX6_setTwo_38 : decode cX6_setTwo 38 = .ok (.bipush 32, 2) := by decide +kernel
theorem dX6_setTwo_40 : decode cX6_setTwo 40 = .ok (.lushr, 1) := by decide +kernel
theorem dX6_setTwo_41 : decode cX6_setTwo 41 = .ok (.lstore_n 1, 1) := by decide +kernel
theorem dX6_setTwo_42 : decode cX6_setTwo 42 = .ok (.iinc 3 1, 3) := by decide +kernel
theorem dX6_setTwo_45 : decode cX6_setTwo 45 = .ok (.goto (-41), 3) := by decide +kernel
theorem dX6_setTwo_48 : decode cX6_setTwo 48 = .ok (.lconst 0, 1) := by decide +kernel
theorem dX6_setTwo_49 : decode cX6_setTwo 49 = .ok (.lstore_n 1, 1) := by decide +kernel
theorem dX6_setTwo_50 : decode cX6_setTwo 50 = .ok (.iconst 0, 1) := by decide +kernel
theorem dX6_setTwo_51 : decode cX6_setTwo 51 = .ok (.istore_n 3, 1) := by decide +kernel
theorem dX6_setTwo_52 : decode cX6_setTwo 52 = .ok (.iload_n 3, 1) := by decide +kernel
theorem dX6_setTwo_53 : decode cX6_setTwo 53 = .ok (.bipush 16, 2) := by decide +kernel
theorem dX6_setTwo_55 : decode cX6_setTwo 55 = .ok (.if_icmp .ge 39, 3) := by decide +kernel
theorem dX6_setTwo_58 : decode cX6_setTwo 58 = .ok (.aload_n 0, 1) := by decide +kernel
theorem dX6_setTwo_59 : decode cX6_setTwo 59 = .ok (.getfield 19, 3) := by decide +kernel
theorem dX6_setTwo_62 : decode cX6_setTwo 62 = .ok (.iload_n 3, 1) := by decide +kernel
theorem dX6_setTwo_63 : decode cX6_setTwo 63 = .ok (.laload, 1) := by decide +kernel
theorem dX6_setTwo_64 : decode cX6_setTwo 64 = .ok (.iconst 1, 1) := by decide +kernel
theorem dX6_setTwo_65 : decode cX6_setTwo 65 = .ok (.lshl, 1) := by decide +kernel
theorem dX6_setTwo_66 : decode cX6_setTwo 66 = .ok (.lload_n 1, 1) := by decide +kernel
theorem dX6_setTwo_67 : decode cX6_setTwo 67 = .ok (.lor, 1) := by decide +kernel
theorem dX6_setTwo_68 : decode cX6_setTwo 68 = .ok (.lstore 4, 2) := by decide +kernel
theorem dX6_setTwo_70 : decode cX6_setTwo 70 = .ok (.aload_n 0, 1) := by decide +kernel
theorem dX6_setTwo_71 : decode cX6_setTwo 71 = .ok (.getfield 19, 3) := by decide +kernel
theorem dX6_setTwo_74 : decode cX6_setTwo 74 = .ok (.iload_n 3, 1) := by decide +kernel
theorem dX6_setTwo_75 : decode cX6_setTwo 75 = .ok (.lload 4, 2) := by decide +kernel
theorem dX6_setTwo_77 : decode cX6_setTwo 77 = .ok (.ldc2_w 54, 3) := by decide +kernel
theorem dX6_setTwo_80 : decode cX6_setTwo 80 = .ok (.land, 1) := by decide +kernel
theorem dX6_setTwo_81 : decode cX6_setTwo 81 = .ok (.lastore, 1) := by decide +kernel
theorem dX6_setTwo_82 : decode cX6_setTwo 82 = .ok (.lload 4, 2) := by decide +kernel
theorem dX6_setTwo_84 : decode cX6_setTwo 84 = .ok (.bipush 32, 2) := by decide +kernel
theorem dX6_setTwo_86 : decode cX6_setTwo 86 = .ok (.lushr, 1) := by decide +kernel
theorem dX6_setTwo_87 : decode cX6_setTwo 87 = .ok (.lstore_n 1, 1) := by decide +kernel
theorem dX6_setTwo_88 : decode cX6_setTwo 88 = .ok (.iinc 3 1, 3) := by decide +kernel
theorem dX6_setTwo_91 : decode cX6_setTwo 91 = .ok (.goto (-39), 3) := by decide +kernel
theorem dX6_setTwo_94 : decode cX6_setTwo 94 = .ok (.aload_n 0, 1) := by decide +kernel
theorem dX6_setTwo_95 : decode cX6_setTwo 95 = .ok (.getfield 19, 3) := by decide +kernel
theorem dX6_setTwo_98 : decode cX6_setTwo 98 = .ok (.bipush 16, 2) := by decide +kernel
theorem dX6_setTwo_100 : decode cX6_setTwo 100 = .ok (.lload_n 1, 1) := by decide +kernel
theorem dX6_setTwo_101 : decode cX6_setTwo 101 = .ok (.lastore, 1) := by decide +kernel
theorem dX6_setTwo_102 : decode cX6_setTwo 102 = .ok (.aload_n 0, 1) := by decide +kernel
theorem dX6_setTwo_103 : decode cX6_setTwo 103 = .ok (.invokevirtual 56, 3) := by decide +kernel
theorem dX6_setTwo_106 : decode cX6_setTwo 106 = .ok (.return_, 1) := by decide +kernel
theorem kt_268 : Cond.methodLink RX6 50 yX0_at ∈ tb := tb_at (i := 1059) (by decide +kernel) (by decide +kernel)
theorem kt_269 : Cond.constantLong RX6 54 4294967295 ∈ tb := tb_at (i := 1063) (by decide +kernel) (by decide +kernel)
theorem kt_270 : Cond.fieldLink RX6 19 "PostGate$Power" "sum" "[J" ∈ tb := tb_at (i := 318) (by decide +kernel) (by decide +kernel)
theorem kt_271 : Cond.fieldLink RX6 16 "PostGate$Power" "value" "[J" ∈ tb := tb_at (i := 317) (by decide +kernel) (by decide +kernel)
theorem kt_272 : Cond.methodLink RX6 63 arraycopyName ∈ tb := tb_at (i := 1072) (by decide +kernel) (by decide +kernel)
theorem kt_273 : Cond.fieldLink RX6 9 "PostGate$Power" "modulus" "[J" ∈ tb := tb_at (i := 315) (by decide +kernel) (by decide +kernel)
theorem kt_274 : Cond.code yX6_reduce cX6_reduce 6 none ∈ tb := tb_at (i := 1071) (by decide +kernel) (by decide +kernel)
theorem kt_275 : Cond.initialized RX6 ∈ tb := tb_at (i := 90) (by decide +kernel) (by decide +kernel)
theorem kt_276 : Cond.methodLink RX6 56 yX6_reduce ∈ tb := tb_at (i := 1068) (by decide +kernel) (by decide +kernel)
theorem kt_277 : Cond.instanceMethod yX6_reduce ∈ tb := tb_at (i := 1070) (by decide +kernel) (by decide +kernel)
theorem kt_278 : Cond.selects RX6 yX6_reduce yX6_reduce ∈ tb := tb_at (i := 34) (by decide +kernel) (by decide +kernel)
theorem kt_279 : Cond.code yX6_addTimes cX6_addTimes 9 none ∈ tb := tb_at (i := 1080) (by decide +kernel) (by decide +kernel)
theorem kt_280 : Cond.methodLink RX6 59 yX6_addTimes ∈ tb := tb_at (i := 1077) (by decide +kernel) (by decide +kernel)
theorem kt_281 : Cond.instanceMethod yX6_addTimes ∈ tb := tb_at (i := 1079) (by decide +kernel) (by decide +kernel)
theorem kt_282 : Cond.selects RX6 yX6_addTimes yX6_addTimes ∈ tb := tb_at (i := 36) (by decide +kernel) (by decide +kernel)
theorem kt_283 : Cond.fieldLink RX6 22 "PostGate$Power" "factor" "J" ∈ tb := tb_at (i := 319) (by decide +kernel) (by decide +kernel)
theorem kt_284 : Cond.code yX6_load cX6_load 6 none ∈ tb := tb_at (i := 1058) (by decide +kernel) (by decide +kernel)
theorem kt_285 : Cond.methodLink RX6 26 yX6_load ∈ tb := tb_at (i := 1056) (by decide +kernel) (by decide +kernel)
theorem kt_286 : Cond.static yX6_load ∈ tb := tb_at (i := 1057) (by decide +kernel) (by decide +kernel)
theorem kt_287 : Cond.fieldLink RX6 13 "PostGate$Power" "base" "[J" ∈ tb := tb_at (i := 316) (by decide +kernel) (by decide +kernel)
theorem kt_288 : Cond.code yX6_factorOf cX6_factorOf 3 (some .long) ∈ tb := tb_at (i := 1062) (by decide +kernel) (by decide +kernel)
theorem kt_289 : Cond.methodLink RX6 30 yX6_factorOf ∈ tb := tb_at (i := 1060) (by decide +kernel) (by decide +kernel)
theorem kt_290 : Cond.static yX6_factorOf ∈ tb := tb_at (i := 1061) (by decide +kernel) (by decide +kernel)
theorem kt_291 : Cond.code yX6_setTwo cX6_setTwo 6 none ∈ tb := tb_at (i := 1067) (by decide +kernel) (by decide +kernel)
theorem kt_292 : Cond.methodLink RX6 34 yX6_setTwo ∈ tb := tb_at (i := 1064) (by decide +kernel) (by decide +kernel)
theorem kt_293 : Cond.instanceMethod yX6_setTwo ∈ tb := tb_at (i := 1066) (by decide +kernel) (by decide +kernel)
theorem kt_294 : Cond.selects RX6 yX6_setTwo yX6_setTwo ∈ tb := tb_at (i := 33) (by decide +kernel) (by decide +kernel)
theorem kt_295 : Cond.code yX6_multiply cX6_multiply 5 none ∈ tb := tb_at (i := 1076) (by decide +kernel) (by decide +kernel)
theorem kt_296 : Cond.methodLink RX6 37 yX6_multiply ∈ tb := tb_at (i := 1073) (by decide +kernel) (by decide +kernel)
theorem kt_297 : Cond.instanceMethod yX6_multiply ∈ tb := tb_at (i := 1075) (by decide +kernel) (by decide +kernel)
theorem kt_298 : Cond.selects RX6 yX6_multiply yX6_multiply ∈ tb := tb_at (i := 35) (by decide +kernel) (by decide +kernel)
theorem kt_299 : Cond.methodLink RX6 41 yX0_clear ∈ tb := tb_at (i := 1081) (by decide +kernel) (by decide +kernel)
theorem kt_300 : Cond.methodLink RX6 46 yX0_addFour ∈ tb := tb_at (i := 1082) (by decide +kernel) (by decide +kernel)
section
variable {p : Program} {l : Launch} {e : Env} {R : Room} {s : State} {m : MethodId} {args : Array Value} {below : List Frame} {meth : Method} {c : Code} {H H0 : Heap} {locs : List Loc} {cells slots : Nat} {Q : State → Prop}
variable {cc : ByteArray} {pc : Nat} {ls : Array Slot} {rest : List Value} {A : Nat → Prop} {D : va_G} {tys : List (ClassId × FieldType)} {L : List Nat} {F : Nat → va_E} {a a0 : Nat}
theorem pg_copyl (hexec : p.tables.exec = Jvm.exec) (hb : c.code = cc) (hml : c.maxLocals = ls.size) {own : String} {index : Nat} (hown : s.vm.findClass own = some m.cls) (hlink : (Cond.methodLink own index arraycopyName).before args s = true) (hnat : (Cond.native arraycopyName).before args s = true) (hstat : (Cond.static arraycopyName).before args s = true) (hini : (Cond.initialized "java/lang/System").before args s = true) (hK : va_K D vwCl tys s) (hP : va_P D vwCl (va_pl L F) H) (hD : va_D A (va_pl L F)) (hS : va_S A H0 H locs) (ha0 : a0 ∈ L) (ha1 : a ∈ L) (t0 t1 : Nat) {c0 c1 : ClassId} {n0 n1 : Nat} {f g : Nat → Int64} {ty : FieldType} (he0 : F a0 = .inl (c0, n0, .inr (.inl f))) (he1 : F a = .inl (c1, n1, .inr (.inl g))) (ht0 : tys[t0]? = some (c0, ty)) (ht1 : tys[t1]? = some (c1, ty)) (hprim : refKind ty = false) {sp dp n : Int32} (h1 : ¬ sp < 0) (h2 : ¬ dp < 0) (h3 : ¬ n < 0) (h4 : sp.toNatClampNeg + n.toNatClampNeg ≤ n0) (h5 : dp.toNatClampNeg + n.toNatClampNeg ≤ n1) (hfit : ∀ i, i < n.toNatClampNeg → fits ty (.long (f (sp.toNatClampNeg + i))) = true) (hframes : 1 ≤ R.frames) (hlocals : (rest.map fun v => v.category).sum + (nativeFrameWords "java/lang/System" "arraycopy" 5 + 11) ≤ R.locals) (hdg : decode cc pc = .ok (.invokestatic index, 3)) (kk : ∀ (H1 : Heap) (locs1 : List Loc), va_P D vwCl (va_pl L (va_up F a (.inl (c1, n1, .inr (.inl (va_cpy f g sp.toNatClampNeg dp.toNatClampNeg n.toNatClampNeg)))))) H1 → va_D A (va_pl L (va_up F a (.inl (c1, n1, .inr (.inl (va_cpy f g sp.toNatClampNeg dp.toNatClampNeg n.toNatClampNeg)))))) → va_S A H0 H1 locs1 → W p l e R s m args below meth c H1 locs1 cells slots Q (F0 m (pc + 3) ls rest)) : W p l e R s m args below meth c H locs cells slots Q (F0 m pc ls (.int n :: .int dp :: .ref a :: .int sp :: .ref a0 :: rest)) := by
  obtain ⟨q0, hq0⟩ := pg_at (F := F) ha0
  obtain ⟨q1, hq1⟩ := pg_at (F := F) ha1
  have e1 := pg_set (x := .inl (c1, n1, .inr (.inl (va_cpy f g sp.toNatClampNeg dp.toNatClampNeg n.toNatClampNeg)))) hD ha1 hq1
  exact va_copyl hexec hb hml hown hlink hnat hstat hini hK hP hD hS q0 q1 t0 t1 (by rw [← he0]; exact hq0) (by rw [← he1]; exact hq1) ht0 ht1 hprim h1 h2 h3 h4 h5 hfit hframes hlocals hdg (fun H1 locs1 w1 w2 w3 => kk H1 locs1 (e1 ▸ w1) (e1 ▸ w2) w3)
end
set_option maxHeartbeats 4000000 in
set_option maxRecDepth 100000 in
theorem s_X6_load (l : Launch) (dC : Nat → ClassId) (dI : Nat → Nat → Nat) (cs : Nat → ClassId) (ty : TyM) (L : List Nat) (sz : Nat) (F : Nat → va_E) (g1 : Nat) (σ : Nat) (r1 : Nat) (n1 : Nat) (la : Nat) (τ : Nat) (hW : WT ty L) (hL_g1 : g1 ∈ L) (hT_g1 : ty g1 = (0, σ, [r1, n1])) (hL_la : la ∈ L) (hT_la : ty la = (19, τ, [16])) : Met l yX6_load (.code yX6_load cX6_load 6 none :: tb) ({ frames := 1, cells := 0, slots := 0, locals := 21 }) (va_Pc [.ref g1, .ref la] (PT (dC, dI) cs ty L F sz)) (va_Qv (fun _ : Unit => True) (fun _ T9 => ∃ F2 : Nat → va_E, QT (dC, dI) cs ty L [τ] F F2 (va_A (va_pl L F) sz) T9) (va_A (va_pl L F) sz)) 0 0 (va_A (va_pl L F) sz) := by
  refine Met.ofW (cc := cX6_load) (maxL := 6) (ret := none) (by decide) rfl ?_
  intro p e s m args below meth c s₁ B hml hv
  obtain ⟨rfl, hsz, hP, hK, hD0, hE, hO⟩ := hv
  have hx := B.exec
  have hb := B.bytes
  have hr := B.returns
  have hts : ∀ w ∈ tb, w.before _ s = true := fun w h => atoms_spec (ws := .code yX6_load cX6_load 6 none :: tb) B.pre w (List.mem_cons_of_mem _ h)
  have hown : s.vm.findClass RX6 = some m.cls := findClass_of_methodNamed B.named
  have hlocks := B.notSynchronized
  subst hsz
  have hD := hD0.self (sz := s.heap.size)
  generalize hAe : va_A (va_pl L F) s.heap.size = A at hD ⊢
  have hA : ∀ q : Nat, s.heap.size ≤ q → A q := fun q h => by rw [← hAe]; exact Or.inr h
  have hS : va_S A s.heap s.heap [] := va_S.rf
  have hR : FR ty [τ] F F := FR.refl
  have hl := lv_entry ([.ref g1, .ref la]) (n := 6) (Nat.le_of_ble_eq_true rfl)
  rw [lg_entry_eq]
  generalize (lg_sl ([.ref g1, .ref la]) ++ List.replicate (6 - (lg_sl ([.ref g1, .ref la])).length) Slot.unset).toArray = ls at hl ⊢
  have hl : lv_has ls 6 [(0, .ref g1), (1, .ref la)] := hl
  refine lv_iconst (v := 0) hx hb dX6_load_0 (by decide) ?_
  refine lv_istore_n (lv' := [(2, .int 0), (0, .ref g1), (1, .ref la)]) hx hb dX6_load_1 rfl hl (by decide) rfl (fun ls hl => ?_)
  refine W.widen (k := 0) (n := 0) (by omega) (by omega) ?_
  refine pl_loop (σ := Nat) A (dC, dI) cs ty L [τ] F 2 6 (fun j => [(2, .int (nI j)), (0, .ref g1), (1, .ref la)]) (fun j => []) (fun j _ => j ≤ 16) (fun j => 16 - j) ?_ 0 F (by omega) hO hR _ _ hP hD hS ls (lv_sub hl [0, 1, 2] rfl)
  rintro j F_1 hv_2 hO hR ih_3 H locs hP hD hS ls hl
  have hl : lv_has ls 6 [(2, .int (nI j)), (0, .ref g1), (1, .ref la)] := hl
  have hv_2 : j ≤ 16 := hv_2
  refine W.eq (g2 := F0 m 2 ls []) rfl ?_
  refine lv_iload_n hx hb dX6_load_2 rfl (lv_at hl 0 rfl) ?_
  refine lv_bipush (v := 16) hx hb dX6_load_3 (by decide) ?_
  refine lv_icmp_ge (tgt := 59) hx hb dX6_load_5 (by decide) (fun c_4 => ?_) (fun c_4 => ?_)
  ·
    have hi_5 : 16 ≤ j := leN (N := 16) c_4
    refine W.widen (k := 0) (n := 0) (by omega) (by omega) ?_
    exact W.vret hx hb hr (fun t ht hWm => ⟨⟨(), rfl, trivial, ⟨F_1, QT.mk ht hP hD hO hR⟩⟩, hS.F ht⟩) hS.2.2 dX6_load_59
  ·
    have hi_6 : j < 16 := ltN (N := 16) c_4
    refine lv_lconst (v := 0) hx hb dX6_load_8 (by decide) ?_
    refine lv_lstore_n (lv' := [(3, .long 0), (2, .int (nI j)), (0, .ref g1), (1, .ref la)]) hx hb dX6_load_9 rfl hl (by decide) rfl (fun ls hl => ?_)
    refine lv_iconst (v := 0) hx hb dX6_load_10 (by decide) ?_
    refine lv_istore (lv' := [(5, .int 0), (3, .long 0), (2, .int (nI j)), (0, .ref g1), (1, .ref la)]) hx hb dX6_load_11 hl (by decide) rfl (fun ls hl => ?_)
    refine W.widen (k := 0) (n := 0) (by omega) (by omega) ?_
    refine pl_loop (σ := Nat × Int64) A (dC, dI) cs ty L [τ] F 13 6 (fun (i, w3) => [(5, .int (nI i)), (3, .long w3), (2, .int (nI j)), (0, .ref g1), (1, .ref la)]) (fun (i, w3) => []) (fun (i, w3) _ => i ≤ 4) (fun (i, w3) => 4 - i) ?_ (0, 0) F_1 (by omega) hO hR _ _ hP hD hS ls (lv_sub hl [0, 1, 2, 3, 4] rfl)
    rintro ⟨i, w3⟩ F_7 hv_8 hO hR ih_9 H locs hP hD hS ls hl
    have hl : lv_has ls 6 [(5, .int (nI i)), (3, .long w3), (2, .int (nI j)), (0, .ref g1), (1, .ref la)] := hl
    have hv_8 : i ≤ 4 := hv_8
    refine W.eq (g2 := F0 m 13 ls []) rfl ?_
    refine lv_iload hx hb dX6_load_13 (lv_at hl 0 rfl) ?_
    refine lv_iconst (v := 4) hx hb dX6_load_15 (by decide) ?_
    refine lv_icmp_ge (tgt := 49) hx hb dX6_load_16 (by decide) (fun c_10 => ?_) (fun c_10 => ?_)
    ·
      have hi_11 : 4 ≤ i := leN (N := 4) c_10
      refine lv_aload_n hx hb dX6_load_49 rfl (lv_at hl 4 rfl) ?_
      refine lv_iload_n hx hb dX6_load_50 rfl (lv_at hl 2 rfl) ?_
      refine lv_lload_n hx hb dX6_load_51 rfl (lv_at hl 1 rfl) ?_
      obtain ⟨f_12, hF_13⟩ := hO.longs hL_la hT_la
      refine pg_last hx hb hK hP hD hS hL_la 3 hF_13 rfl (vp_in_nI (by omega) (by omega)) dX6_load_52 (fun H locs hP hD hS => ?_)
      obtain ⟨F_14, he_15, hP, hD, hO, hR⟩ : ∃ G, G = va_up F_7 la (.inl (cs 19, 16, .inr (.inl (vp_updL f_12 ((nI j)).toNatClampNeg (w3))))) ∧ va_P (dC, dI) vwCl (va_pl L G) H ∧ va_D A (va_pl L G) ∧ OK cs ty L G ∧ FR ty [τ] F G := ⟨_, rfl, hP, hD, hO.up (sh.longs hT_la ⟨_, rfl⟩), hR.up hT_la (by simp)⟩
      have hF_16 : F_14 la = .inl (cs 19, 16, .inr (.inl (vp_updL f_12 ((nI j)).toNatClampNeg (w3)))) := by rw [he_15]; exact up_self
      obtain ⟨f_17, hF_16⟩ : ∃ f : Nat → Int64, F_14 la = .inl (cs 19, 16, .inr (.inl f)) := ⟨_, hF_16⟩
      refine lv_iinc (v := (nI (j + 1))) (lv' := [(2, .int (nI (j + 1))), (5, .int (nI i)), (3, .long w3), (0, .ref g1), (1, .ref la)]) hx hb dX6_load_53 hl (k := 2) rfl (nI_1 _) (by decide) rfl (fun ls hl => ?_)
      refine lv_goto (tgt := 2) hx hb dX6_load_56 (by decide) ?_
      refine W.widen (k := 0) (n := 0) (by omega) (by omega) ?_
      exact ih_3 (j + 1) F_14 (by first | omega | exact ⟨by omega, by omega⟩ | trivial) (by show 16 - (j + 1) < 16 - j; omega) hO hR _ _ hP hD hS ls (lv_sub hl [0, 3, 4] rfl)
    ·
      have hi_18 : i < 4 := ltN (N := 4) c_10
      refine lv_lload_n hx hb dX6_load_19 rfl (lv_at hl 1 rfl) ?_
      refine lv_bipush (v := 8) hx hb dX6_load_20 (by decide) ?_
      refine lv_lshl hx hb dX6_load_22 rfl ?_
      refine lv_topl (fun x_20 _ => ?_)
      refine lv_aload_n hx hb dX6_load_23 rfl (lv_at hl 3 rfl) ?_
      refine lv_bipush (v := 15) hx hb dX6_load_24 (by decide) ?_
      refine lv_iload_n hx hb dX6_load_26 rfl (lv_at hl 2 rfl) ?_
      refine lv_isub hx hb dX6_load_27 ?_
      refine lv_topi (fun x_21 _ => ?_)
      refine lv_iconst (v := 4) hx hb dX6_load_28 (by decide) ?_
      refine lv_imul hx hb dX6_load_29 ?_
      refine lv_topi (fun x_22 _ => ?_)
      refine lv_iload hx hb dX6_load_30 (lv_at hl 0 rfl) ?_
      refine lv_iadd hx hb dX6_load_32 ?_
      refine lv_topi (fun x_23 _ => ?_)
      have hFc := pg_free hD hS hA
      obtain ⟨hi_24, ht_25, hq_26⟩ := hW.bytes hL_g1 hT_g1
      obtain ⟨z_27, o_28, hF_29, hq_30, hq_31⟩ := hO.bytes hL_g1 hT_g1
      refine va_calli (va_runV (As := [.int x_23]) (rest := [.long x_20]) ⟨hx, hb, hml, hown, hts⟩ (s_X0_at l dC dI cs ty L H.size F_7 g1 σ r1 n1 x_23 hW hL_g1 hT_g1) ⟨callB_of 1 hts (gi kt_21) rfl rfl rfl (hts _ kt_1) (hts _ kt_268) (by decide +kernel) ⟨Nat.le_of_ble_eq_true rfl, Nat.le_of_ble_eq_true rfl⟩, (hts _ kt_23), (hts _ kt_24)⟩ ⟨fun a U g mk q => ⟨q.1, PT.calling q.2⟩, pg_recv hK hP hL_g1 hF_29 (q := (RX0, TX0, 3)) rfl, fun U hU hWm => ⟨rfl, PT.mk hU hWm hP hK hD hE hO⟩⟩ rfl rfl hl.1 rfl (lv_room (Nat.le_of_ble_eq_true rfl)) dX6_load_33 ⟨by show _ + 0 ≤ 0; omega, by show _ + 0 ≤ 0; omega⟩) hS (fun q _ h => hFc q h) hFc (fun r_32 u t H1 locs ht hvm hw hB hz1 hk1 hS => ?_)
      obtain ⟨F_33, hB1⟩ := hB
      obtain ⟨hP, hD, hO, hR⟩ := QT.back hB1 ht hFc hR (fun q h => absurd h List.not_mem_nil)
      have hF_34 : F_33 g1 = .inr (0, [.ref r1, .int (nI z_27), .int o_28]) := (hB1.2.2.2 g1 List.not_mem_nil).trans hF_29
      generalize H1 = H at hP hS ⊢
      have hw : True := hw
      have hw_35 := hw
      refine lv_sipush (v := 255) hx hb dX6_load_36 (by decide) ?_
      refine lv_iand hx hb dX6_load_39 ?_
      refine lv_topi (fun x_36 _ => ?_)
      refine lv_i2l hx hb dX6_load_40 rfl ?_
      refine lv_topl (fun x_37 _ => ?_)
      refine lv_lor hx hb dX6_load_41 ?_
      refine lv_topl (fun x_38 _ => ?_)
      refine lv_lstore_n (lv' := [(3, .long x_38), (5, .int (nI i)), (2, .int (nI j)), (0, .ref g1), (1, .ref la)]) hx hb dX6_load_42 rfl hl (by decide) rfl (fun ls hl => ?_)
      refine lv_iinc (v := (nI (i + 1))) (lv' := [(5, .int (nI (i + 1))), (3, .long x_38), (2, .int (nI j)), (0, .ref g1), (1, .ref la)]) hx hb dX6_load_43 hl (k := 1) rfl (nI_1 _) (by decide) rfl (fun ls hl => ?_)
      refine lv_goto (tgt := 13) hx hb dX6_load_46 (by decide) ?_
      refine W.widen (k := 0) (n := 0) (by omega) (by omega) ?_
      exact ih_9 ((i + 1), x_38) F_33 (by first | omega | exact ⟨by omega, by omega⟩ | trivial) (by show 4 - (i + 1) < 4 - i; omega) hO hR _ _ hP hD hS ls (lv_sub hl [0, 1, 2, 3, 4] rfl)
set_option maxHeartbeats 4000000 in
set_option maxRecDepth 100000 in
theorem s_X6_factorOf (l : Launch) (dC : Nat → ClassId) (dI : Nat → Nat → Nat) (cs : Nat → ClassId) (ty : TyM) (L : List Nat) (sz : Nat) (F : Nat → va_E) (x1 : Int32) (hW : WT ty L) : Met l yX6_factorOf (.code yX6_factorOf cX6_factorOf 3 (some .long) :: tb) ({ frames := 0, cells := 0, slots := 0, locals := 0 }) (va_Pc [.int x1] (PT (dC, dI) cs ty L F sz)) (va_Ql (fun (r : Int64) (_ : Unit) => True) (fun _ T9 => ∃ F2 : Nat → va_E, QT (dC, dI) cs ty L [] F F2 (va_A (va_pl L F) sz) T9) (va_A (va_pl L F) sz)) 0 0 (va_A (va_pl L F) sz) := by
  refine Met.ofW (cc := cX6_factorOf) (maxL := 3) (ret := (some .long)) (by decide) rfl ?_
  intro p e s m args below meth c s₁ B hml hv
  obtain ⟨rfl, hsz, hP, hK, hD0, hE, hO⟩ := hv
  have hx := B.exec
  have hb := B.bytes
  have hr := B.returns
  have hts : ∀ w ∈ tb, w.before _ s = true := fun w h => atoms_spec (ws := .code yX6_factorOf cX6_factorOf 3 (some .long) :: tb) B.pre w (List.mem_cons_of_mem _ h)
  have hown : s.vm.findClass RX6 = some m.cls := findClass_of_methodNamed B.named
  have hlocks := B.notSynchronized
  subst hsz
  have hD := hD0.self (sz := s.heap.size)
  generalize hAe : va_A (va_pl L F) s.heap.size = A at hD ⊢
  have hA : ∀ q : Nat, s.heap.size ≤ q → A q := fun q h => by rw [← hAe]; exact Or.inr h
  have hS : va_S A s.heap s.heap [] := va_S.rf
  have hR : FR ty [] F F := FR.refl
  have hl := lv_entry ([.int x1]) (n := 3) (Nat.le_of_ble_eq_true rfl)
  rw [lg_entry_eq]
  generalize (lg_sl ([.int x1]) ++ List.replicate (3 - (lg_sl ([.int x1])).length) Slot.unset).toArray = ls at hl ⊢
  have hl : lv_has ls 3 [(0, .int x1)] := hl
  refine lv_iload_n hx hb dX6_factorOf_0 rfl (lv_at hl 0 rfl) ?_
  refine lv_istore_n (lv' := [(1, .int x1), (0, .int x1)]) hx hb dX6_factorOf_1 rfl hl (by decide) rfl (fun ls hl => ?_)
  refine lv_iconst (v := 0) hx hb dX6_factorOf_2 (by decide) ?_
  refine lv_istore_n (lv' := [(2, .int 0), (1, .int x1), (0, .int x1)]) hx hb dX6_factorOf_3 rfl hl (by decide) rfl (fun ls hl => ?_)
  refine W.widen (k := 0) (n := 0) (by omega) (by omega) ?_
  refine pl_loop (σ := Nat × Int32) A (dC, dI) cs ty L [] F 4 3 (fun (j, w1) => [(2, .int (nI j)), (1, .int w1), (0, .int x1)]) (fun (j, w1) => []) (fun (j, w1) _ => j ≤ 5) (fun (j, w1) => 5 - j) ?_ (0, x1) F (by omega) hO hR _ _ hP hD hS ls (lv_sub hl [0, 1, 2] rfl)
  rintro ⟨j, w1⟩ F_1 hv_2 hO hR ih_3 H locs hP hD hS ls hl
  have hl : lv_has ls 3 [(2, .int (nI j)), (1, .int w1), (0, .int x1)] := hl
  have hv_2 : j ≤ 5 := hv_2
  refine W.eq (g2 := F0 m 4 ls []) rfl ?_
  refine lv_iload_n hx hb dX6_factorOf_4 rfl (lv_at hl 0 rfl) ?_
  refine lv_iconst (v := 5) hx hb dX6_factorOf_5 (by decide) ?_
  refine lv_icmp_ge (tgt := 23) hx hb dX6_factorOf_6 (by decide) (fun c_4 => ?_) (fun c_4 => ?_)
  ·
    have hi_5 : 5 ≤ j := leN (N := 5) c_4
    refine lv_iload_n hx hb dX6_factorOf_23 rfl (lv_at hl 1 rfl) ?_
    refine lv_ineg hx hb dX6_factorOf_24 ?_
    refine lv_topi (fun x_6 _ => ?_)
    refine lv_i2l hx hb dX6_factorOf_25 rfl ?_
    refine lv_topl (fun x_7 _ => ?_)
    refine lv_ldc2 (v := 4294967295) hx hb hown (hts _ kt_269) dX6_factorOf_26 ?_
    refine lv_land hx hb dX6_factorOf_29 ?_
    refine lv_topl (fun x_8 _ => ?_)
    refine W.widen (k := 0) (n := 0) (by omega) (by omega) ?_
    exact W.lret (v := x_8) hx hb hr (fun t ht hWm => ⟨⟨x_8, (), rfl, trivial, ⟨F_1, QT.mk ht hP hD hO hR⟩⟩, hS.F ht⟩) hS.2.2 dX6_factorOf_30
  ·
    have hi_9 : j < 5 := ltN (N := 5) c_4
    refine lv_iload_n hx hb dX6_factorOf_9 rfl (lv_at hl 1 rfl) ?_
    refine lv_iconst (v := 2) hx hb dX6_factorOf_10 (by decide) ?_
    refine lv_iload_n hx hb dX6_factorOf_11 rfl (lv_at hl 2 rfl) ?_
    refine lv_iload_n hx hb dX6_factorOf_12 rfl (lv_at hl 1 rfl) ?_
    refine lv_imul hx hb dX6_factorOf_13 ?_
    refine lv_topi (fun x_10 _ => ?_)
    refine lv_isub hx hb dX6_factorOf_14 ?_
    refine lv_topi (fun x_11 _ => ?_)
    refine lv_imul hx hb dX6_factorOf_15 ?_
    refine lv_topi (fun x_12 _ => ?_)
    refine lv_istore_n (lv' := [(1, .int x_12), (2, .int (nI j)), (0, .int x1)]) hx hb dX6_factorOf_16 rfl hl (by decide) rfl (fun ls hl => ?_)
    refine lv_iinc (v := (nI (j + 1))) (lv' := [(2, .int (nI (j + 1))), (1, .int x_12), (0, .int x1)]) hx hb dX6_factorOf_17 hl (k := 1) rfl (nI_1 _) (by decide) rfl (fun ls hl => ?_)
    refine lv_goto (tgt := 4) hx hb dX6_factorOf_20 (by decide) ?_
    refine W.widen (k := 0) (n := 0) (by omega) (by omega) ?_
    exact ih_3 ((j + 1), x_12) F_1 (by first | omega | exact ⟨by omega, by omega⟩ | trivial) (by show 5 - (j + 1) < 5 - j; omega) hO hR _ _ hP hD hS ls (lv_sub hl [0, 1, 2] rfl)
set_option maxHeartbeats 4000000 in
set_option maxRecDepth 100000 in
theorem s_X6_reduce (l : Launch) (dC : Nat → ClassId) (dI : Nat → Nat → Nat) (cs : Nat → ClassId) (ty : TyM) (L : List Nat) (sz : Nat) (F : Nat → va_E) (h0 : Nat) (ρ : Nat) (pm : Nat) (pb : Nat) (pv : Nat) (pu : Nat) (hW : WT ty L) (hL_h0 : h0 ∈ L) (hT_h0 : ty h0 = (6, ρ, [pm, pb, pv, pu])) : Met l yX6_reduce (.code yX6_reduce cX6_reduce 6 none :: tb) ({ frames := 1, cells := 0, slots := 0, locals := 48 }) (va_Pc [.ref h0] (PT (dC, dI) cs ty L F sz)) (va_Qv (fun _ : Unit => True) (fun _ T9 => ∃ F2 : Nat → va_E, QT (dC, dI) cs ty L [ρ, ρ + 85, ρ + 86, ρ + 87, ρ + 88] F F2 (va_A (va_pl L F) sz) T9) (va_A (va_pl L F) sz)) 0 0 (va_A (va_pl L F) sz) := by
  refine Met.ofW (cc := cX6_reduce) (maxL := 6) (ret := none) (by decide) rfl ?_
  intro p e s m args below meth c s₁ B hml hv
  obtain ⟨rfl, hsz, hP, hK, hD0, hE, hO⟩ := hv
  have hx := B.exec
  have hb := B.bytes
  have hr := B.returns
  have hts : ∀ w ∈ tb, w.before _ s = true := fun w h => atoms_spec (ws := .code yX6_reduce cX6_reduce 6 none :: tb) B.pre w (List.mem_cons_of_mem _ h)
  have hown : s.vm.findClass RX6 = some m.cls := findClass_of_methodNamed B.named
  have hlocks := B.notSynchronized
  subst hsz
  have hD := hD0.self (sz := s.heap.size)
  generalize hAe : va_A (va_pl L F) s.heap.size = A at hD ⊢
  have hA : ∀ q : Nat, s.heap.size ≤ q → A q := fun q h => by rw [← hAe]; exact Or.inr h
  have hS : va_S A s.heap s.heap [] := va_S.rf
  have hR : FR ty [ρ, ρ + 85, ρ + 86, ρ + 87, ρ + 88] F F := FR.refl
  have hl := lv_entry ([.ref h0]) (n := 6) (Nat.le_of_ble_eq_true rfl)
  rw [lg_entry_eq]
  generalize (lg_sl ([.ref h0]) ++ List.replicate (6 - (lg_sl ([.ref h0])).length) Slot.unset).toArray = ls at hl ⊢
  have hl : lv_has ls 6 [(0, .ref h0)] := hl
  refine lv_lconst (v := 0) hx hb dX6_reduce_0 (by decide) ?_
  refine lv_lstore_n (lv' := [(1, .long 0), (0, .ref h0)]) hx hb dX6_reduce_1 rfl hl (by decide) rfl (fun ls hl => ?_)
  refine lv_iconst (v := 0) hx hb dX6_reduce_2 (by decide) ?_
  refine lv_istore_n (lv' := [(3, .int 0), (1, .long 0), (0, .ref h0)]) hx hb dX6_reduce_3 rfl hl (by decide) rfl (fun ls hl => ?_)
  refine W.widen (k := 0) (n := 0) (by omega) (by omega) ?_
  refine pl_loop (σ := Nat × Int64) A (dC, dI) cs ty L [ρ, ρ + 85, ρ + 86, ρ + 87, ρ + 88] F 4 6 (fun (j, w1) => [(3, .int (nI j)), (1, .long w1), (0, .ref h0)]) (fun (j, w1) => []) (fun (j, w1) _ => j ≤ 16) (fun (j, w1) => 16 - j) ?_ (0, 0) F (by omega) hO hR _ _ hP hD hS ls (lv_sub hl [0, 1, 2] rfl)
  rintro ⟨j, w1⟩ F_1 hv_2 hO hR ih_3 H locs hP hD hS ls hl
  have hl : lv_has ls 6 [(3, .int (nI j)), (1, .long w1), (0, .ref h0)] := hl
  have hv_2 : j ≤ 16 := hv_2
  refine W.eq (g2 := F0 m 4 ls []) rfl ?_
  refine lv_iload_n hx hb dX6_reduce_4 rfl (lv_at hl 0 rfl) ?_
  refine lv_bipush (v := 16) hx hb dX6_reduce_5 (by decide) ?_
  refine lv_icmp_ge (tgt := 51) hx hb dX6_reduce_7 (by decide) (fun c_4 => ?_) (fun c_4 => ?_)
  ·
    have hi_5 : 16 ≤ j := leN (N := 16) c_4
    refine lv_aload_n hx hb dX6_reduce_51 rfl (lv_at hl 2 rfl) ?_
    obtain ⟨hi_6, hi_7, hi_8, hi_9, ht_10, ht_11, ht_12, ht_13⟩ := hW.power hL_h0 hT_h0
    obtain ⟨v_14, hF_15⟩ := hO.power hL_h0 hT_h0
    refine pg_get (ci := 6) (v := .ref pu) (C := RX6) (T := TX6) (N := 5) hx hb hts it_6 hown hK hP hL_h0 hF_15 rfl 3 (by decide) (hts _ kt_270) (fun _ h9 => h9) rfl dX6_reduce_52 ?_
    refine lv_bipush (v := 16) hx hb dX6_reduce_55 (by decide) ?_
    obtain ⟨f_16, hF_17⟩ := hO.longs hi_9 ht_13
    refine pg_lald hx hb hK hP hi_9 3 hF_17 rfl (show vp_in (16 : Int32) 18 from (show vp_in (nI 16) 18 from vp_in_nI (by omega) (by omega))) dX6_reduce_57 ?_
    refine lv_topl (fun x_18 _ => ?_)
    refine lv_lload_n hx hb dX6_reduce_58 rfl (lv_at hl 1 rfl) ?_
    refine W.lcmp hx hb dX6_reduce_59 ?_
    refine lv_topi (fun x_19 ex_19 => ?_)
    refine lv_if_ge (tgt := 78) hx hb dX6_reduce_60 (by decide) (fun c_20 => ?_) (fun c_20 => ?_)
    ·
      refine W.widen (k := 0) (n := 0) (by omega) (by omega) ?_
      exact W.vret hx hb hr (fun t ht hWm => ⟨⟨(), rfl, trivial, ⟨F_1, QT.mk ht hP hD hO hR⟩⟩, hS.F ht⟩) hS.2.2 dX6_reduce_78
    ·
      refine lv_aload_n hx hb dX6_reduce_63 rfl (lv_at hl 2 rfl) ?_
      refine pg_get (ci := 6) (v := .ref pu) (C := RX6) (T := TX6) (N := 5) hx hb hts it_6 hown hK hP hL_h0 hF_15 rfl 3 (by decide) (hts _ kt_270) (fun _ h9 => h9) rfl dX6_reduce_64 ?_
      refine lv_iconst (v := 0) hx hb dX6_reduce_67 (by decide) ?_
      refine lv_aload_n hx hb dX6_reduce_68 rfl (lv_at hl 2 rfl) ?_
      refine pg_get (ci := 6) (v := .ref pv) (C := RX6) (T := TX6) (N := 5) hx hb hts it_6 hown hK hP hL_h0 hF_15 rfl 2 (by decide) (hts _ kt_271) (fun _ h9 => h9) rfl dX6_reduce_69 ?_
      refine lv_iconst (v := 0) hx hb dX6_reduce_72 (by decide) ?_
      refine lv_bipush (v := 16) hx hb dX6_reduce_73 (by decide) ?_
      obtain ⟨f_21, hF_22⟩ := hO.longs hi_8 ht_12
      refine pg_copyl hx hb (by rw [hml]; exact hl.1.symm) hown (hts _ kt_272) (hts _ kt_29) (hts _ kt_30) (hts _ kt_31) hK hP hD hS hi_9 hi_8 3 3 hF_17 hF_22 rfl rfl rfl (by decide) (by decide) (by decide) (by decide) (by decide) (fun _ _ => rfl) (Nat.le_of_ble_eq_true rfl) (by decide) dX6_reduce_75 (fun H locs hP hD hS => ?_)
      obtain ⟨F_23, he_24, hP, hD, hO, hR⟩ : ∃ G, G = va_up F_1 pv (.inl (cs 19, 16, .inr (.inl (va_cpy f_16 f_21 (0 : Int32).toNatClampNeg (0 : Int32).toNatClampNeg (16 : Int32).toNatClampNeg)))) ∧ va_P (dC, dI) vwCl (va_pl L G) H ∧ va_D A (va_pl L G) ∧ OK cs ty L G ∧ FR ty [ρ, ρ + 85, ρ + 86, ρ + 87, ρ + 88] F G := ⟨_, rfl, hP, hD, hO.up (sh.longs ht_12 ⟨_, rfl⟩), hR.up ht_12 (by simp)⟩
      have hF_25 : F_23 pv = .inl (cs 19, 16, .inr (.inl (va_cpy f_16 f_21 (0 : Int32).toNatClampNeg (0 : Int32).toNatClampNeg (16 : Int32).toNatClampNeg))) := by rw [he_24]; exact up_self
      have hF_26 : F_23 h0 = .inr (6, [.ref pm, .ref pb, .ref pv, .ref pu, .long v_14]) := by rw [he_24, up_ne (ne_ty hT_h0 ht_12 (by simp))]; exact hF_15
      have hF_27 : F_23 pu = .inl (cs 19, 18, .inr (.inl f_16)) := by rw [he_24, up_ne (ne_ty3 ht_13 ht_12 (by show ρ + 88 ≠ ρ + 87; omega))]; exact hF_17
      obtain ⟨f_28, hF_25⟩ : ∃ f : Nat → Int64, F_23 pv = .inl (cs 19, 16, .inr (.inl f)) := ⟨_, hF_25⟩
      refine W.widen (k := 0) (n := 0) (by omega) (by omega) ?_
      exact W.vret hx hb hr (fun t ht hWm => ⟨⟨(), rfl, trivial, ⟨F_23, QT.mk ht hP hD hO hR⟩⟩, hS.F ht⟩) hS.2.2 dX6_reduce_78
  ·
    have hi_29 : j < 16 := ltN (N := 16) c_4
    refine lv_aload_n hx hb dX6_reduce_10 rfl (lv_at hl 2 rfl) ?_
    obtain ⟨hi_30, hi_31, hi_32, hi_33, ht_34, ht_35, ht_36, ht_37⟩ := hW.power hL_h0 hT_h0
    obtain ⟨v_38, hF_39⟩ := hO.power hL_h0 hT_h0
    refine pg_get (ci := 6) (v := .ref pu) (C := RX6) (T := TX6) (N := 5) hx hb hts it_6 hown hK hP hL_h0 hF_39 rfl 3 (by decide) (hts _ kt_270) (fun _ h9 => h9) rfl dX6_reduce_11 ?_
    refine lv_iload_n hx hb dX6_reduce_14 rfl (lv_at hl 0 rfl) ?_
    obtain ⟨f_40, hF_41⟩ := hO.longs hi_33 ht_37
    refine pg_lald hx hb hK hP hi_33 3 hF_41 rfl (vp_in_nI (by omega) (by omega)) dX6_reduce_15 ?_
    refine lv_topl (fun x_42 _ => ?_)
    refine lv_aload_n hx hb dX6_reduce_16 rfl (lv_at hl 2 rfl) ?_
    refine pg_get (ci := 6) (v := .ref pm) (C := RX6) (T := TX6) (N := 5) hx hb hts it_6 hown hK hP hL_h0 hF_39 rfl 0 (by decide) (hts _ kt_273) (fun _ h9 => h9) rfl dX6_reduce_17 ?_
    refine lv_iload_n hx hb dX6_reduce_20 rfl (lv_at hl 0 rfl) ?_
    obtain ⟨f_43, hF_44⟩ := hO.longs hi_30 ht_34
    refine pg_lald hx hb hK hP hi_30 3 hF_44 rfl (vp_in_nI (by omega) (by omega)) dX6_reduce_21 ?_
    refine lv_topl (fun x_45 _ => ?_)
    refine lv_lsub hx hb dX6_reduce_22 ?_
    refine lv_topl (fun x_46 _ => ?_)
    refine lv_lload_n hx hb dX6_reduce_23 rfl (lv_at hl 1 rfl) ?_
    refine lv_lsub hx hb dX6_reduce_24 ?_
    refine lv_topl (fun x_47 _ => ?_)
    refine lv_lstore (lv' := [(4, .long x_47), (3, .int (nI j)), (1, .long w1), (0, .ref h0)]) hx hb dX6_reduce_25 hl (by decide) rfl (fun ls hl => ?_)
    refine lv_aload_n hx hb dX6_reduce_27 rfl (lv_at hl 3 rfl) ?_
    refine pg_get (ci := 6) (v := .ref pv) (C := RX6) (T := TX6) (N := 5) hx hb hts it_6 hown hK hP hL_h0 hF_39 rfl 2 (by decide) (hts _ kt_271) (fun _ h9 => h9) rfl dX6_reduce_28 ?_
    refine lv_iload_n hx hb dX6_reduce_31 rfl (lv_at hl 1 rfl) ?_
    refine lv_lload hx hb dX6_reduce_32 (lv_at hl 0 rfl) ?_
    refine lv_ldc2 (v := 4294967295) hx hb hown (hts _ kt_269) dX6_reduce_34 ?_
    refine lv_land hx hb dX6_reduce_37 ?_
    refine lv_topl (fun x_48 _ => ?_)
    obtain ⟨f_49, hF_50⟩ := hO.longs hi_32 ht_36
    refine pg_last hx hb hK hP hD hS hi_32 3 hF_50 rfl (vp_in_nI (by omega) (by omega)) dX6_reduce_38 (fun H locs hP hD hS => ?_)
    obtain ⟨F_51, he_52, hP, hD, hO, hR⟩ : ∃ G, G = va_up F_1 pv (.inl (cs 19, 16, .inr (.inl (vp_updL f_49 ((nI j)).toNatClampNeg (x_48))))) ∧ va_P (dC, dI) vwCl (va_pl L G) H ∧ va_D A (va_pl L G) ∧ OK cs ty L G ∧ FR ty [ρ, ρ + 85, ρ + 86, ρ + 87, ρ + 88] F G := ⟨_, rfl, hP, hD, hO.up (sh.longs ht_36 ⟨_, rfl⟩), hR.up ht_36 (by simp)⟩
    have hF_53 : F_51 pv = .inl (cs 19, 16, .inr (.inl (vp_updL f_49 ((nI j)).toNatClampNeg (x_48)))) := by rw [he_52]; exact up_self
    have hF_54 : F_51 h0 = .inr (6, [.ref pm, .ref pb, .ref pv, .ref pu, .long v_38]) := by rw [he_52, up_ne (ne_ty hT_h0 ht_36 (by simp))]; exact hF_39
    have hF_55 : F_51 pu = .inl (cs 19, 18, .inr (.inl f_40)) := by rw [he_52, up_ne (ne_ty3 ht_37 ht_36 (by show ρ + 88 ≠ ρ + 87; omega))]; exact hF_41
    have hF_56 : F_51 pm = .inl (cs 19, 16, .inr (.inl f_43)) := by rw [he_52, up_ne (ne_ty3 ht_34 ht_36 (by show ρ + 85 ≠ ρ + 87; omega))]; exact hF_44
    obtain ⟨f_57, hF_53⟩ : ∃ f : Nat → Int64, F_51 pv = .inl (cs 19, 16, .inr (.inl f)) := ⟨_, hF_53⟩
    refine lv_lload hx hb dX6_reduce_39 (lv_at hl 0 rfl) ?_
    refine lv_bipush (v := 63) hx hb dX6_reduce_41 (by decide) ?_
    refine lv_lushr hx hb dX6_reduce_43 rfl ?_
    refine lv_topl (fun x_59 _ => ?_)
    refine lv_lstore_n (lv' := [(1, .long x_59), (4, .long x_47), (3, .int (nI j)), (0, .ref h0)]) hx hb dX6_reduce_44 rfl hl (by decide) rfl (fun ls hl => ?_)
    refine lv_iinc (v := (nI (j + 1))) (lv' := [(3, .int (nI (j + 1))), (1, .long x_59), (4, .long x_47), (0, .ref h0)]) hx hb dX6_reduce_45 hl (k := 2) rfl (nI_1 _) (by decide) rfl (fun ls hl => ?_)
    refine lv_goto (tgt := 4) hx hb dX6_reduce_48 (by decide) ?_
    refine W.widen (k := 0) (n := 0) (by omega) (by omega) ?_
    exact ih_3 ((j + 1), x_59) F_51 (by first | omega | exact ⟨by omega, by omega⟩ | trivial) (by show 16 - (j + 1) < 16 - j; omega) hO hR _ _ hP hD hS ls (lv_sub hl [0, 1, 3] rfl)
set_option maxHeartbeats 4000000 in
set_option maxRecDepth 100000 in
theorem s_X6_setTwo (l : Launch) (dC : Nat → ClassId) (dI : Nat → Nat → Nat) (cs : Nat → ClassId) (ty : TyM) (L : List Nat) (sz : Nat) (F : Nat → va_E) (h0 : Nat) (ρ : Nat) (pm : Nat) (pb : Nat) (pv : Nat) (pu : Nat) (hW : WT ty L) (hL_h0 : h0 ∈ L) (hT_h0 : ty h0 = (6, ρ, [pm, pb, pv, pu])) : Met l yX6_setTwo (.code yX6_setTwo cX6_setTwo 6 none :: tb) ({ frames := 2, cells := 0, slots := 0, locals := 73 }) (va_Pc [.ref h0] (PT (dC, dI) cs ty L F sz)) (va_Qv (fun _ : Unit => True) (fun _ T9 => ∃ F2 : Nat → va_E, QT (dC, dI) cs ty L [ρ, ρ + 85, ρ + 86, ρ + 87, ρ + 88] F F2 (va_A (va_pl L F) sz) T9) (va_A (va_pl L F) sz)) 0 0 (va_A (va_pl L F) sz) := by
  refine Met.ofW (cc := cX6_setTwo) (maxL := 6) (ret := none) (by decide) rfl ?_
  intro p e s m args below meth c s₁ B hml hv
  obtain ⟨rfl, hsz, hP, hK, hD0, hE, hO⟩ := hv
  have hx := B.exec
  have hb := B.bytes
  have hr := B.returns
  have hts : ∀ w ∈ tb, w.before _ s = true := fun w h => atoms_spec (ws := .code yX6_setTwo cX6_setTwo 6 none :: tb) B.pre w (List.mem_cons_of_mem _ h)
  have hown : s.vm.findClass RX6 = some m.cls := findClass_of_methodNamed B.named
  have hlocks := B.notSynchronized
  subst hsz
  have hD := hD0.self (sz := s.heap.size)
  generalize hAe : va_A (va_pl L F) s.heap.size = A at hD ⊢
  have hA : ∀ q : Nat, s.heap.size ≤ q → A q := fun q h => by rw [← hAe]; exact Or.inr h
  have hS : va_S A s.heap s.heap [] := va_S.rf
  have hR : FR ty [ρ, ρ + 85, ρ + 86, ρ + 87, ρ + 88] F F := FR.refl
  have hl := lv_entry ([.ref h0]) (n := 6) (Nat.le_of_ble_eq_true rfl)
  rw [lg_entry_eq]
  generalize (lg_sl ([.ref h0]) ++ List.replicate (6 - (lg_sl ([.ref h0])).length) Slot.unset).toArray = ls at hl ⊢
  have hl : lv_has ls 6 [(0, .ref h0)] := hl
  refine lv_lconst (v := 1) hx hb dX6_setTwo_0 (by decide) ?_
  refine lv_lstore_n (lv' := [(1, .long 1), (0, .ref h0)]) hx hb dX6_setTwo_1 rfl hl (by decide) rfl (fun ls hl => ?_)
  refine lv_iconst (v := 0) hx hb dX6_setTwo_2 (by decide) ?_
  refine lv_istore_n (lv' := [(3, .int 0), (1, .long 1), (0, .ref h0)]) hx hb dX6_setTwo_3 rfl hl (by decide) rfl (fun ls hl => ?_)
  refine W.widen (k := 0) (n := 0) (by omega) (by omega) ?_
  refine pl_loop (σ := Nat × Int64) A (dC, dI) cs ty L [ρ, ρ + 85, ρ + 86, ρ + 87, ρ + 88] F 4 6 (fun (j, w1) => [(3, .int (nI j)), (1, .long w1), (0, .ref h0)]) (fun (j, w1) => []) (fun (j, w1) _ => j ≤ 16) (fun (j, w1) => 16 - j) ?_ (0, 1) F (by omega) hO hR _ _ hP hD hS ls (lv_sub hl [0, 1, 2] rfl)
  rintro ⟨j, w1⟩ F_1 hv_2 hO hR ih_3 H locs hP hD hS ls hl
  have hl : lv_has ls 6 [(3, .int (nI j)), (1, .long w1), (0, .ref h0)] := hl
  have hv_2 : j ≤ 16 := hv_2
  refine W.eq (g2 := F0 m 4 ls []) rfl ?_
  refine lv_iload_n hx hb dX6_setTwo_4 rfl (lv_at hl 0 rfl) ?_
  refine lv_bipush (v := 16) hx hb dX6_setTwo_5 (by decide) ?_
  refine lv_icmp_ge (tgt := 48) hx hb dX6_setTwo_7 (by decide) (fun c_4 => ?_) (fun c_4 => ?_)
  ·
    have hi_5 : 16 ≤ j := leN (N := 16) c_4
    refine lv_lconst (v := 0) hx hb dX6_setTwo_48 (by decide) ?_
    refine lv_lstore_n (lv' := [(1, .long 0), (3, .int (nI j)), (0, .ref h0)]) hx hb dX6_setTwo_49 rfl hl (by decide) rfl (fun ls hl => ?_)
    refine lv_iconst (v := 0) hx hb dX6_setTwo_50 (by decide) ?_
    refine lv_istore_n (lv' := [(3, .int 0), (1, .long 0), (0, .ref h0)]) hx hb dX6_setTwo_51 rfl hl (by decide) rfl (fun ls hl => ?_)
    refine W.widen (k := 0) (n := 0) (by omega) (by omega) ?_
    refine pl_loop (σ := Nat × Int64) A (dC, dI) cs ty L [ρ, ρ + 85, ρ + 86, ρ + 87, ρ + 88] F 52 6 (fun (j2, u1) => [(3, .int (nI j2)), (1, .long u1), (0, .ref h0)]) (fun (j2, u1) => []) (fun (j2, u1) _ => j2 ≤ 16) (fun (j2, u1) => 16 - j2) ?_ (0, 0) F_1 (by omega) hO hR _ _ hP hD hS ls (lv_sub hl [0, 1, 2] rfl)
    rintro ⟨j2, u1⟩ F_6 hv_7 hO hR ih_8 H locs hP hD hS ls hl
    have hl : lv_has ls 6 [(3, .int (nI j2)), (1, .long u1), (0, .ref h0)] := hl
    have hv_7 : j2 ≤ 16 := hv_7
    refine W.eq (g2 := F0 m 52 ls []) rfl ?_
    refine lv_iload_n hx hb dX6_setTwo_52 rfl (lv_at hl 0 rfl) ?_
    refine lv_bipush (v := 16) hx hb dX6_setTwo_53 (by decide) ?_
    refine lv_icmp_ge (tgt := 94) hx hb dX6_setTwo_55 (by decide) (fun c_9 => ?_) (fun c_9 => ?_)
    ·
      have hi_10 : 16 ≤ j2 := leN (N := 16) c_9
      refine lv_aload_n hx hb dX6_setTwo_94 rfl (lv_at hl 2 rfl) ?_
      obtain ⟨hi_11, hi_12, hi_13, hi_14, ht_15, ht_16, ht_17, ht_18⟩ := hW.power hL_h0 hT_h0
      obtain ⟨v_19, hF_20⟩ := hO.power hL_h0 hT_h0
      refine pg_get (ci := 6) (v := .ref pu) (C := RX6) (T := TX6) (N := 5) hx hb hts it_6 hown hK hP hL_h0 hF_20 rfl 3 (by decide) (hts _ kt_270) (fun _ h9 => h9) rfl dX6_setTwo_95 ?_
      refine lv_bipush (v := 16) hx hb dX6_setTwo_98 (by decide) ?_
      refine lv_lload_n hx hb dX6_setTwo_100 rfl (lv_at hl 1 rfl) ?_
      obtain ⟨f_21, hF_22⟩ := hO.longs hi_14 ht_18
      refine pg_last hx hb hK hP hD hS hi_14 3 hF_22 rfl (show vp_in (16 : Int32) 18 from (show vp_in (nI 16) 18 from vp_in_nI (by omega) (by omega))) dX6_setTwo_101 (fun H locs hP hD hS => ?_)
      obtain ⟨F_23, he_24, hP, hD, hO, hR⟩ : ∃ G, G = va_up F_6 pu (.inl (cs 19, 18, .inr (.inl (vp_updL f_21 (16 : Int32).toNatClampNeg (u1))))) ∧ va_P (dC, dI) vwCl (va_pl L G) H ∧ va_D A (va_pl L G) ∧ OK cs ty L G ∧ FR ty [ρ, ρ + 85, ρ + 86, ρ + 87, ρ + 88] F G := ⟨_, rfl, hP, hD, hO.up (sh.longs ht_18 ⟨_, rfl⟩), hR.up ht_18 (by simp)⟩
      have hF_25 : F_23 pu = .inl (cs 19, 18, .inr (.inl (vp_updL f_21 (16 : Int32).toNatClampNeg (u1)))) := by rw [he_24]; exact up_self
      have hF_26 : F_23 h0 = .inr (6, [.ref pm, .ref pb, .ref pv, .ref pu, .long v_19]) := by rw [he_24, up_ne (ne_ty hT_h0 ht_18 (by simp))]; exact hF_20
      obtain ⟨f_27, hF_25⟩ : ∃ f : Nat → Int64, F_23 pu = .inl (cs 19, 18, .inr (.inl f)) := ⟨_, hF_25⟩
      refine lv_aload_n hx hb dX6_setTwo_102 rfl (lv_at hl 2 rfl) ?_
      have hFc := pg_free hD hS hA
      refine va_callv (va_runV (As := []) (rest := []) ⟨hx, hb, hml, hown, hts⟩ (s_X6_reduce l dC dI cs ty L H.size F_23 h0 ρ pm pb pv pu hW hL_h0 hT_h0) ⟨callB_of 0 hts (gi kt_274) rfl rfl rfl (hts _ kt_275) (hts _ kt_276) (by decide +kernel) ⟨Nat.le_of_ble_eq_true rfl, Nat.le_of_ble_eq_true rfl⟩, (hts _ kt_277), (hts _ kt_278)⟩ ⟨fun a U g mk q => ⟨q.1, PT.calling q.2⟩, pg_recv hK hP hL_h0 hF_26 (q := (RX6, TX6, 5)) rfl, fun U hU hWm => ⟨rfl, PT.mk hU hWm hP hK hD hE hO⟩⟩ rfl rfl hl.1 rfl (lv_room (Nat.le_of_ble_eq_true rfl)) dX6_setTwo_103 ⟨by show _ + 0 ≤ 0; omega, by show _ + 0 ≤ 0; omega⟩) hS (fun q _ h => hFc q h) hFc (fun u t H1 locs ht hvm hw hB hz1 hk1 hS => ?_)
      obtain ⟨F_29, hB1⟩ := hB
      obtain ⟨hP, hD, hO, hR⟩ := QT.back hB1 ht hFc hR (fun q h => by simp only [List.mem_cons, List.not_mem_nil, or_false] at h ⊢; omega)
      generalize H1 = H at hP hS ⊢
      refine W.widen (k := 0) (n := 0) (by omega) (by omega) ?_
      exact W.vret hx hb hr (fun t ht hWm => ⟨⟨(), rfl, trivial, ⟨F_29, QT.mk ht hP hD hO hR⟩⟩, hS.F ht⟩) hS.2.2 dX6_setTwo_106
    ·
      have hi_30 : j2 < 16 := ltN (N := 16) c_9
      refine lv_aload_n hx hb dX6_setTwo_58 rfl (lv_at hl 2 rfl) ?_
      obtain ⟨hi_31, hi_32, hi_33, hi_34, ht_35, ht_36, ht_37, ht_38⟩ := hW.power hL_h0 hT_h0
      obtain ⟨v_39, hF_40⟩ := hO.power hL_h0 hT_h0
      refine pg_get (ci := 6) (v := .ref pu) (C := RX6) (T := TX6) (N := 5) hx hb hts it_6 hown hK hP hL_h0 hF_40 rfl 3 (by decide) (hts _ kt_270) (fun _ h9 => h9) rfl dX6_setTwo_59 ?_
      refine lv_iload_n hx hb dX6_setTwo_62 rfl (lv_at hl 0 rfl) ?_
      obtain ⟨f_41, hF_42⟩ := hO.longs hi_34 ht_38
      refine pg_lald hx hb hK hP hi_34 3 hF_42 rfl (vp_in_nI (by omega) (by omega)) dX6_setTwo_63 ?_
      refine lv_topl (fun x_43 _ => ?_)
      refine lv_iconst (v := 1) hx hb dX6_setTwo_64 (by decide) ?_
      refine lv_lshl hx hb dX6_setTwo_65 rfl ?_
      refine lv_topl (fun x_45 _ => ?_)
      refine lv_lload_n hx hb dX6_setTwo_66 rfl (lv_at hl 1 rfl) ?_
      refine lv_lor hx hb dX6_setTwo_67 ?_
      refine lv_topl (fun x_46 _ => ?_)
      refine lv_lstore (lv' := [(4, .long x_46), (3, .int (nI j2)), (1, .long u1), (0, .ref h0)]) hx hb dX6_setTwo_68 hl (by decide) rfl (fun ls hl => ?_)
      refine lv_aload_n hx hb dX6_setTwo_70 rfl (lv_at hl 3 rfl) ?_
      refine pg_get (ci := 6) (v := .ref pu) (C := RX6) (T := TX6) (N := 5) hx hb hts it_6 hown hK hP hL_h0 hF_40 rfl 3 (by decide) (hts _ kt_270) (fun _ h9 => h9) rfl dX6_setTwo_71 ?_
      refine lv_iload_n hx hb dX6_setTwo_74 rfl (lv_at hl 1 rfl) ?_
      refine lv_lload hx hb dX6_setTwo_75 (lv_at hl 0 rfl) ?_
      refine lv_ldc2 (v := 4294967295) hx hb hown (hts _ kt_269) dX6_setTwo_77 ?_
      refine lv_land hx hb dX6_setTwo_80 ?_
      refine lv_topl (fun x_47 _ => ?_)
      refine pg_last hx hb hK hP hD hS hi_34 3 hF_42 rfl (vp_in_nI (by omega) (by omega)) dX6_setTwo_81 (fun H locs hP hD hS => ?_)
      obtain ⟨F_48, he_49, hP, hD, hO, hR⟩ : ∃ G, G = va_up F_6 pu (.inl (cs 19, 18, .inr (.inl (vp_updL f_41 ((nI j2)).toNatClampNeg (x_47))))) ∧ va_P (dC, dI) vwCl (va_pl L G) H ∧ va_D A (va_pl L G) ∧ OK cs ty L G ∧ FR ty [ρ, ρ + 85, ρ + 86, ρ + 87, ρ + 88] F G := ⟨_, rfl, hP, hD, hO.up (sh.longs ht_38 ⟨_, rfl⟩), hR.up ht_38 (by simp)⟩
      have hF_50 : F_48 pu = .inl (cs 19, 18, .inr (.inl (vp_updL f_41 ((nI j2)).toNatClampNeg (x_47)))) := by rw [he_49]; exact up_self
      have hF_51 : F_48 h0 = .inr (6, [.ref pm, .ref pb, .ref pv, .ref pu, .long v_39]) := by rw [he_49, up_ne (ne_ty hT_h0 ht_38 (by simp))]; exact hF_40
      obtain ⟨f_52, hF_50⟩ : ∃ f : Nat → Int64, F_48 pu = .inl (cs 19, 18, .inr (.inl f)) := ⟨_, hF_50⟩
      refine lv_lload hx hb dX6_setTwo_82 (lv_at hl 0 rfl) ?_
      refine lv_bipush (v := 32) hx hb dX6_setTwo_84 (by decide) ?_
      refine lv_lushr hx hb dX6_setTwo_86 rfl ?_
      refine lv_topl (fun x_54 _ => ?_)
      refine lv_lstore_n (lv' := [(1, .long x_54), (4, .long x_46), (3, .int (nI j2)), (0, .ref h0)]) hx hb dX6_setTwo_87 rfl hl (by decide) rfl (fun ls hl => ?_)
      refine lv_iinc (v := (nI (j2 + 1))) (lv' := [(3, .int (nI (j2 + 1))), (1, .long x_54), (4, .long x_46), (0, .ref h0)]) hx hb dX6_setTwo_88 hl (k := 2) rfl (nI_1 _) (by decide) rfl (fun ls hl => ?_)
      refine lv_goto (tgt := 52) hx hb dX6_setTwo_91 (by decide) ?_
      refine W.widen (k := 0) (n := 0) (by omega) (by omega) ?_
      exact ih_8 ((j2 + 1), x_54) F_48 (by first | omega | exact ⟨by omega, by omega⟩ | trivial) (by show 16 - (j2 + 1) < 16 - j2; omega) hO hR _ _ hP hD hS ls (lv_sub hl [0, 1, 3] rfl)
  ·
    have hi_55 : j < 16 := ltN (N := 16) c_4
    refine lv_aload_n hx hb dX6_setTwo_10 rfl (lv_at hl 2 rfl) ?_
    obtain ⟨hi_56, hi_57, hi_58, hi_59, ht_60, ht_61, ht_62, ht_63⟩ := hW.power hL_h0 hT_h0
    obtain ⟨v_64, hF_65⟩ := hO.power hL_h0 hT_h0
    refine pg_get (ci := 6) (v := .ref pm) (C := RX6) (T := TX6) (N := 5) hx hb hts it_6 hown hK hP hL_h0 hF_65 rfl 0 (by decide) (hts _ kt_273) (fun _ h9 => h9) rfl dX6_setTwo_11 ?_
    refine lv_iload_n hx hb dX6_setTwo_14 rfl (lv_at hl 0 rfl) ?_
    obtain ⟨f_66, hF_67⟩ := hO.longs hi_56 ht_60
    refine pg_lald hx hb hK hP hi_56 3 hF_67 rfl (vp_in_nI (by omega) (by omega)) dX6_setTwo_15 ?_
    refine lv_topl (fun x_68 _ => ?_)
    refine lv_ldc2 (v := 4294967295) hx hb hown (hts _ kt_269) dX6_setTwo_16 ?_
    refine lv_lxor hx hb dX6_setTwo_19 ?_
    refine lv_topl (fun x_69 _ => ?_)
    refine lv_lload_n hx hb dX6_setTwo_20 rfl (lv_at hl 1 rfl) ?_
    refine lv_ladd hx hb dX6_setTwo_21 ?_
    refine lv_topl (fun x_70 _ => ?_)
    refine lv_lstore (lv' := [(4, .long x_70), (3, .int (nI j)), (1, .long w1), (0, .ref h0)]) hx hb dX6_setTwo_22 hl (by decide) rfl (fun ls hl => ?_)
    refine lv_aload_n hx hb dX6_setTwo_24 rfl (lv_at hl 3 rfl) ?_
    refine pg_get (ci := 6) (v := .ref pu) (C := RX6) (T := TX6) (N := 5) hx hb hts it_6 hown hK hP hL_h0 hF_65 rfl 3 (by decide) (hts _ kt_270) (fun _ h9 => h9) rfl dX6_setTwo_25 ?_
    refine lv_iload_n hx hb dX6_setTwo_28 rfl (lv_at hl 1 rfl) ?_
    refine lv_lload hx hb dX6_setTwo_29 (lv_at hl 0 rfl) ?_
    refine lv_ldc2 (v := 4294967295) hx hb hown (hts _ kt_269) dX6_setTwo_31 ?_
    refine lv_land hx hb dX6_setTwo_34 ?_
    refine lv_topl (fun x_71 _ => ?_)
    obtain ⟨f_72, hF_73⟩ := hO.longs hi_59 ht_63
    refine pg_last hx hb hK hP hD hS hi_59 3 hF_73 rfl (vp_in_nI (by omega) (by omega)) dX6_setTwo_35 (fun H locs hP hD hS => ?_)
    obtain ⟨F_74, he_75, hP, hD, hO, hR⟩ : ∃ G, G = va_up F_1 pu (.inl (cs 19, 18, .inr (.inl (vp_updL f_72 ((nI j)).toNatClampNeg (x_71))))) ∧ va_P (dC, dI) vwCl (va_pl L G) H ∧ va_D A (va_pl L G) ∧ OK cs ty L G ∧ FR ty [ρ, ρ + 85, ρ + 86, ρ + 87, ρ + 88] F G := ⟨_, rfl, hP, hD, hO.up (sh.longs ht_63 ⟨_, rfl⟩), hR.up ht_63 (by simp)⟩
    have hF_76 : F_74 pu = .inl (cs 19, 18, .inr (.inl (vp_updL f_72 ((nI j)).toNatClampNeg (x_71)))) := by rw [he_75]; exact up_self
    have hF_77 : F_74 h0 = .inr (6, [.ref pm, .ref pb, .ref pv, .ref pu, .long v_64]) := by rw [he_75, up_ne (ne_ty hT_h0 ht_63 (by simp))]; exact hF_65
    have hF_78 : F_74 pm = .inl (cs 19, 16, .inr (.inl f_66)) := by rw [he_75, up_ne (ne_ty3 ht_60 ht_63 (by show ρ + 85 ≠ ρ + 88; omega))]; exact hF_67
    obtain ⟨f_79, hF_76⟩ : ∃ f : Nat → Int64, F_74 pu = .inl (cs 19, 18, .inr (.inl f)) := ⟨_, hF_76⟩
    refine lv_lload hx hb dX6_setTwo_36 (lv_at hl 0 rfl) ?_
    refine lv_bipush (v := 32) hx hb dX6_setTwo_38 (by decide) ?_
    refine lv_lushr hx hb dX6_setTwo_40 rfl ?_
    refine lv_topl (fun x_81 _ => ?_)
    refine lv_lstore_n (lv' := [(1, .long x_81), (4, .long x_70), (3, .int (nI j)), (0, .ref h0)]) hx hb dX6_setTwo_41 rfl hl (by decide) rfl (fun ls hl => ?_)
    refine lv_iinc (v := (nI (j + 1))) (lv' := [(3, .int (nI (j + 1))), (1, .long x_81), (4, .long x_70), (0, .ref h0)]) hx hb dX6_setTwo_42 hl (k := 2) rfl (nI_1 _) (by decide) rfl (fun ls hl => ?_)
    refine lv_goto (tgt := 4) hx hb dX6_setTwo_45 (by decide) ?_
    refine W.widen (k := 0) (n := 0) (by omega) (by omega) ?_
    exact ih_3 ((j + 1), x_81) F_74 (by first | omega | exact ⟨by omega, by omega⟩ | trivial) (by show 16 - (j + 1) < 16 - j; omega) hO hR _ _ hP hD hS ls (lv_sub hl [0, 1, 3] rfl)
set_option maxHeartbeats 4000000 in
set_option maxRecDepth 100000 in
theorem s_X6_addTimes (l : Launch) (dC : Nat → ClassId) (dI : Nat → Nat → Nat) (cs : Nat → ClassId) (ty : TyM) (L : List Nat) (sz : Nat) (F : Nat → va_E) (h0 : Nat) (ρ : Nat) (pm : Nat) (pb : Nat) (pv : Nat) (pu : Nat) (la : Nat) (τ : Nat) (x2 : Int64) (hW : WT ty L) (hL_h0 : h0 ∈ L) (hT_h0 : ty h0 = (6, ρ, [pm, pb, pv, pu])) (hL_la : la ∈ L) (hT_la : ty la = (19, τ, [16])) : Met l yX6_addTimes (.code yX6_addTimes cX6_addTimes 9 none :: tb) ({ frames := 0, cells := 0, slots := 0, locals := 0 }) (va_Pc [.ref h0, .ref la, .long x2] (PT (dC, dI) cs ty L F sz)) (va_Qv (fun _ : Unit => True) (fun _ T9 => ∃ F2 : Nat → va_E, QT (dC, dI) cs ty L [ρ, ρ + 85, ρ + 86, ρ + 87, ρ + 88] F F2 (va_A (va_pl L F) sz) T9) (va_A (va_pl L F) sz)) 0 0 (va_A (va_pl L F) sz) := by
  refine Met.ofW (cc := cX6_addTimes) (maxL := 9) (ret := none) (by decide) rfl ?_
  intro p e s m args below meth c s₁ B hml hv
  obtain ⟨rfl, hsz, hP, hK, hD0, hE, hO⟩ := hv
  have hx := B.exec
  have hb := B.bytes
  have hr := B.returns
  have hts : ∀ w ∈ tb, w.before _ s = true := fun w h => atoms_spec (ws := .code yX6_addTimes cX6_addTimes 9 none :: tb) B.pre w (List.mem_cons_of_mem _ h)
  have hown : s.vm.findClass RX6 = some m.cls := findClass_of_methodNamed B.named
  have hlocks := B.notSynchronized
  subst hsz
  have hD := hD0.self (sz := s.heap.size)
  generalize hAe : va_A (va_pl L F) s.heap.size = A at hD ⊢
  have hA : ∀ q : Nat, s.heap.size ≤ q → A q := fun q h => by rw [← hAe]; exact Or.inr h
  have hS : va_S A s.heap s.heap [] := va_S.rf
  have hR : FR ty [ρ, ρ + 85, ρ + 86, ρ + 87, ρ + 88] F F := FR.refl
  have hl := lv_entry ([.ref h0, .ref la, .long x2]) (n := 9) (Nat.le_of_ble_eq_true rfl)
  rw [lg_entry_eq]
  generalize (lg_sl ([.ref h0, .ref la, .long x2]) ++ List.replicate (9 - (lg_sl ([.ref h0, .ref la, .long x2])).length) Slot.unset).toArray = ls at hl ⊢
  have hl : lv_has ls 9 [(0, .ref h0), (1, .ref la), (2, .long x2)] := hl
  refine lv_lconst (v := 0) hx hb dX6_addTimes_0 (by decide) ?_
  refine lv_lstore (lv' := [(4, .long 0), (0, .ref h0), (1, .ref la), (2, .long x2)]) hx hb dX6_addTimes_1 hl (by decide) rfl (fun ls hl => ?_)
  refine lv_iconst (v := 0) hx hb dX6_addTimes_3 (by decide) ?_
  refine lv_istore (lv' := [(6, .int 0), (4, .long 0), (0, .ref h0), (1, .ref la), (2, .long x2)]) hx hb dX6_addTimes_4 hl (by decide) rfl (fun ls hl => ?_)
  refine W.widen (k := 0) (n := 0) (by omega) (by omega) ?_
  refine pl_loop (σ := Nat × Int64) A (dC, dI) cs ty L [ρ, ρ + 85, ρ + 86, ρ + 87, ρ + 88] F 6 9 (fun (j, w4) => [(6, .int (nI j)), (4, .long w4), (0, .ref h0), (1, .ref la), (2, .long x2)]) (fun (j, w4) => []) (fun (j, w4) _ => j ≤ 16) (fun (j, w4) => 16 - j) ?_ (0, 0) F (by omega) hO hR _ _ hP hD hS ls (lv_sub hl [0, 1, 2, 3, 4] rfl)
  rintro ⟨j, w4⟩ F_1 hv_2 hO hR ih_3 H locs hP hD hS ls hl
  have hl : lv_has ls 9 [(6, .int (nI j)), (4, .long w4), (0, .ref h0), (1, .ref la), (2, .long x2)] := hl
  have hv_2 : j ≤ 16 := hv_2
  refine W.eq (g2 := F0 m 6 ls []) rfl ?_
  refine lv_iload hx hb dX6_addTimes_6 (lv_at hl 0 rfl) ?_
  refine lv_bipush (v := 16) hx hb dX6_addTimes_8 (by decide) ?_
  refine lv_icmp_ge (tgt := 58) hx hb dX6_addTimes_10 (by decide) (fun c_4 => ?_) (fun c_4 => ?_)
  ·
    have hi_5 : 16 ≤ j := leN (N := 16) c_4
    refine lv_lload hx hb dX6_addTimes_58 (lv_at hl 1 rfl) ?_
    refine lv_aload_n hx hb dX6_addTimes_60 rfl (lv_at hl 2 rfl) ?_
    obtain ⟨hi_6, hi_7, hi_8, hi_9, ht_10, ht_11, ht_12, ht_13⟩ := hW.power hL_h0 hT_h0
    obtain ⟨v_14, hF_15⟩ := hO.power hL_h0 hT_h0
    refine pg_get (ci := 6) (v := .ref pu) (C := RX6) (T := TX6) (N := 5) hx hb hts it_6 hown hK hP hL_h0 hF_15 rfl 3 (by decide) (hts _ kt_270) (fun _ h9 => h9) rfl dX6_addTimes_61 ?_
    refine lv_bipush (v := 16) hx hb dX6_addTimes_64 (by decide) ?_
    obtain ⟨f_16, hF_17⟩ := hO.longs hi_9 ht_13
    refine pg_lald hx hb hK hP hi_9 3 hF_17 rfl (show vp_in (16 : Int32) 18 from (show vp_in (nI 16) 18 from vp_in_nI (by omega) (by omega))) dX6_addTimes_66 ?_
    refine lv_topl (fun x_18 _ => ?_)
    refine lv_ladd hx hb dX6_addTimes_67 ?_
    refine lv_topl (fun x_19 _ => ?_)
    refine lv_lstore (lv' := [(4, .long x_19), (6, .int (nI j)), (0, .ref h0), (1, .ref la), (2, .long x2)]) hx hb dX6_addTimes_68 hl (by decide) rfl (fun ls hl => ?_)
    refine lv_aload_n hx hb dX6_addTimes_70 rfl (lv_at hl 2 rfl) ?_
    refine pg_get (ci := 6) (v := .ref pu) (C := RX6) (T := TX6) (N := 5) hx hb hts it_6 hown hK hP hL_h0 hF_15 rfl 3 (by decide) (hts _ kt_270) (fun _ h9 => h9) rfl dX6_addTimes_71 ?_
    refine lv_bipush (v := 16) hx hb dX6_addTimes_74 (by decide) ?_
    refine lv_lload hx hb dX6_addTimes_76 (lv_at hl 0 rfl) ?_
    refine lv_ldc2 (v := 4294967295) hx hb hown (hts _ kt_269) dX6_addTimes_78 ?_
    refine lv_land hx hb dX6_addTimes_81 ?_
    refine lv_topl (fun x_20 _ => ?_)
    refine pg_last hx hb hK hP hD hS hi_9 3 hF_17 rfl (show vp_in (16 : Int32) 18 from (show vp_in (nI 16) 18 from vp_in_nI (by omega) (by omega))) dX6_addTimes_82 (fun H locs hP hD hS => ?_)
    obtain ⟨F_21, he_22, hP, hD, hO, hR⟩ : ∃ G, G = va_up F_1 pu (.inl (cs 19, 18, .inr (.inl (vp_updL f_16 (16 : Int32).toNatClampNeg (x_20))))) ∧ va_P (dC, dI) vwCl (va_pl L G) H ∧ va_D A (va_pl L G) ∧ OK cs ty L G ∧ FR ty [ρ, ρ + 85, ρ + 86, ρ + 87, ρ + 88] F G := ⟨_, rfl, hP, hD, hO.up (sh.longs ht_13 ⟨_, rfl⟩), hR.up ht_13 (by simp)⟩
    have hF_23 : F_21 pu = .inl (cs 19, 18, .inr (.inl (vp_updL f_16 (16 : Int32).toNatClampNeg (x_20)))) := by rw [he_22]; exact up_self
    have hF_24 : F_21 h0 = .inr (6, [.ref pm, .ref pb, .ref pv, .ref pu, .long v_14]) := by rw [he_22, up_ne (ne_ty hT_h0 ht_13 (by simp))]; exact hF_15
    obtain ⟨f_25, hF_23⟩ : ∃ f : Nat → Int64, F_21 pu = .inl (cs 19, 18, .inr (.inl f)) := ⟨_, hF_23⟩
    refine lv_aload_n hx hb dX6_addTimes_83 rfl (lv_at hl 2 rfl) ?_
    refine pg_get (ci := 6) (v := .ref pu) (C := RX6) (T := TX6) (N := 5) hx hb hts it_6 hown hK hP hL_h0 hF_24 rfl 3 (by decide) (hts _ kt_270) (fun _ h9 => h9) rfl dX6_addTimes_84 ?_
    refine lv_bipush (v := 17) hx hb dX6_addTimes_87 (by decide) ?_
    refine lv_dup2_11 hx hb dX6_addTimes_89 rfl rfl ?_
    refine pg_lald hx hb hK hP hi_9 3 hF_23 rfl (show vp_in (17 : Int32) 18 from (show vp_in (nI 17) 18 from vp_in_nI (by omega) (by omega))) dX6_addTimes_90 ?_
    refine lv_topl (fun x_26 _ => ?_)
    refine lv_lload hx hb dX6_addTimes_91 (lv_at hl 0 rfl) ?_
    refine lv_bipush (v := 32) hx hb dX6_addTimes_93 (by decide) ?_
    refine lv_lushr hx hb dX6_addTimes_95 rfl ?_
    refine lv_topl (fun x_28 _ => ?_)
    refine lv_ladd hx hb dX6_addTimes_96 ?_
    refine lv_topl (fun x_29 _ => ?_)
    refine pg_last hx hb hK hP hD hS hi_9 3 hF_23 rfl (show vp_in (17 : Int32) 18 from (show vp_in (nI 17) 18 from vp_in_nI (by omega) (by omega))) dX6_addTimes_97 (fun H locs hP hD hS => ?_)
    obtain ⟨F_30, he_31, hP, hD, hO, hR⟩ : ∃ G, G = va_up F_21 pu (.inl (cs 19, 18, .inr (.inl (vp_updL f_25 (17 : Int32).toNatClampNeg (x_29))))) ∧ va_P (dC, dI) vwCl (va_pl L G) H ∧ va_D A (va_pl L G) ∧ OK cs ty L G ∧ FR ty [ρ, ρ + 85, ρ + 86, ρ + 87, ρ + 88] F G := ⟨_, rfl, hP, hD, hO.up (sh.longs ht_13 ⟨_, rfl⟩), hR.up ht_13 (by simp)⟩
    have hF_32 : F_30 pu = .inl (cs 19, 18, .inr (.inl (vp_updL f_25 (17 : Int32).toNatClampNeg (x_29)))) := by rw [he_31]; exact up_self
    have hF_33 : F_30 h0 = .inr (6, [.ref pm, .ref pb, .ref pv, .ref pu, .long v_14]) := by rw [he_31, up_ne (ne_ty hT_h0 ht_13 (by simp))]; exact hF_24
    obtain ⟨f_34, hF_32⟩ : ∃ f : Nat → Int64, F_30 pu = .inl (cs 19, 18, .inr (.inl f)) := ⟨_, hF_32⟩
    refine W.widen (k := 0) (n := 0) (by omega) (by omega) ?_
    exact W.vret hx hb hr (fun t ht hWm => ⟨⟨(), rfl, trivial, ⟨F_30, QT.mk ht hP hD hO hR⟩⟩, hS.F ht⟩) hS.2.2 dX6_addTimes_98
  ·
    have hi_35 : j < 16 := ltN (N := 16) c_4
    refine lv_aload_n hx hb dX6_addTimes_13 rfl (lv_at hl 2 rfl) ?_
    obtain ⟨hi_36, hi_37, hi_38, hi_39, ht_40, ht_41, ht_42, ht_43⟩ := hW.power hL_h0 hT_h0
    obtain ⟨v_44, hF_45⟩ := hO.power hL_h0 hT_h0
    refine pg_get (ci := 6) (v := .ref pu) (C := RX6) (T := TX6) (N := 5) hx hb hts it_6 hown hK hP hL_h0 hF_45 rfl 3 (by decide) (hts _ kt_270) (fun _ h9 => h9) rfl dX6_addTimes_14 ?_
    refine lv_iload hx hb dX6_addTimes_17 (lv_at hl 0 rfl) ?_
    obtain ⟨f_46, hF_47⟩ := hO.longs hi_39 ht_43
    refine pg_lald hx hb hK hP hi_39 3 hF_47 rfl (vp_in_nI (by omega) (by omega)) dX6_addTimes_19 ?_
    refine lv_topl (fun x_48 _ => ?_)
    refine lv_aload_n hx hb dX6_addTimes_20 rfl (lv_at hl 3 rfl) ?_
    refine lv_iload hx hb dX6_addTimes_21 (lv_at hl 0 rfl) ?_
    obtain ⟨f_49, hF_50⟩ := hO.longs hL_la hT_la
    refine pg_lald hx hb hK hP hL_la 3 hF_50 rfl (vp_in_nI (by omega) (by omega)) dX6_addTimes_23 ?_
    refine lv_topl (fun x_51 _ => ?_)
    refine lv_lload_n hx hb dX6_addTimes_24 rfl (lv_at hl 4 rfl) ?_
    refine lv_lmul hx hb dX6_addTimes_25 ?_
    refine lv_topl (fun x_52 _ => ?_)
    refine lv_ladd hx hb dX6_addTimes_26 ?_
    refine lv_topl (fun x_53 _ => ?_)
    refine lv_lload hx hb dX6_addTimes_27 (lv_at hl 1 rfl) ?_
    refine lv_ladd hx hb dX6_addTimes_29 ?_
    refine lv_topl (fun x_54 _ => ?_)
    refine lv_lstore (lv' := [(7, .long x_54), (6, .int (nI j)), (4, .long w4), (0, .ref h0), (1, .ref la), (2, .long x2)]) hx hb dX6_addTimes_30 hl (by decide) rfl (fun ls hl => ?_)
    refine lv_aload_n hx hb dX6_addTimes_32 rfl (lv_at hl 3 rfl) ?_
    refine pg_get (ci := 6) (v := .ref pu) (C := RX6) (T := TX6) (N := 5) hx hb hts it_6 hown hK hP hL_h0 hF_45 rfl 3 (by decide) (hts _ kt_270) (fun _ h9 => h9) rfl dX6_addTimes_33 ?_
    refine lv_iload hx hb dX6_addTimes_36 (lv_at hl 1 rfl) ?_
    refine lv_lload hx hb dX6_addTimes_38 (lv_at hl 0 rfl) ?_
    refine lv_ldc2 (v := 4294967295) hx hb hown (hts _ kt_269) dX6_addTimes_40 ?_
    refine lv_land hx hb dX6_addTimes_43 ?_
    refine lv_topl (fun x_55 _ => ?_)
    refine pg_last hx hb hK hP hD hS hi_39 3 hF_47 rfl (vp_in_nI (by omega) (by omega)) dX6_addTimes_44 (fun H locs hP hD hS => ?_)
    obtain ⟨F_56, he_57, hP, hD, hO, hR⟩ : ∃ G, G = va_up F_1 pu (.inl (cs 19, 18, .inr (.inl (vp_updL f_46 ((nI j)).toNatClampNeg (x_55))))) ∧ va_P (dC, dI) vwCl (va_pl L G) H ∧ va_D A (va_pl L G) ∧ OK cs ty L G ∧ FR ty [ρ, ρ + 85, ρ + 86, ρ + 87, ρ + 88] F G := ⟨_, rfl, hP, hD, hO.up (sh.longs ht_43 ⟨_, rfl⟩), hR.up ht_43 (by simp)⟩
    have hF_58 : F_56 pu = .inl (cs 19, 18, .inr (.inl (vp_updL f_46 ((nI j)).toNatClampNeg (x_55)))) := by rw [he_57]; exact up_self
    have hF_59 : F_56 h0 = .inr (6, [.ref pm, .ref pb, .ref pv, .ref pu, .long v_44]) := by rw [he_57, up_ne (ne_ty hT_h0 ht_43 (by simp))]; exact hF_45
    obtain ⟨f_60, hF_58⟩ : ∃ f : Nat → Int64, F_56 pu = .inl (cs 19, 18, .inr (.inl f)) := ⟨_, hF_58⟩
    refine lv_lload hx hb dX6_addTimes_45 (lv_at hl 0 rfl) ?_
    refine lv_bipush (v := 32) hx hb dX6_addTimes_47 (by decide) ?_
    refine lv_lushr hx hb dX6_addTimes_49 rfl ?_
    refine lv_topl (fun x_62 _ => ?_)
    refine lv_lstore (lv' := [(4, .long x_62), (7, .long x_54), (6, .int (nI j)), (0, .ref h0), (1, .ref la), (2, .long x2)]) hx hb dX6_addTimes_50 hl (by decide) rfl (fun ls hl => ?_)
    refine lv_iinc (v := (nI (j + 1))) (lv' := [(6, .int (nI (j + 1))), (4, .long x_62), (7, .long x_54), (0, .ref h0), (1, .ref la), (2, .long x2)]) hx hb dX6_addTimes_52 hl (k := 2) rfl (nI_1 _) (by decide) rfl (fun ls hl => ?_)
    refine lv_goto (tgt := 6) hx hb dX6_addTimes_55 (by decide) ?_
    refine W.widen (k := 0) (n := 0) (by omega) (by omega) ?_
    exact ih_3 ((j + 1), x_62) F_56 (by first | omega | exact ⟨by omega, by omega⟩ | trivial) (by show 16 - (j + 1) < 16 - j; omega) hO hR _ _ hP hD hS ls (lv_sub hl [0, 1, 3, 4, 5] rfl)
set_option maxHeartbeats 4000000 in
set_option maxRecDepth 100000 in
theorem s_X6_multiply (l : Launch) (dC : Nat → ClassId) (dI : Nat → Nat → Nat) (cs : Nat → ClassId) (ty : TyM) (L : List Nat) (sz : Nat) (F : Nat → va_E) (h0 : Nat) (ρ : Nat) (pm : Nat) (pb : Nat) (pv : Nat) (pu : Nat) (la : Nat) (τ : Nat) (lb : Nat) (υ : Nat) (hW : WT ty L) (hL_h0 : h0 ∈ L) (hT_h0 : ty h0 = (6, ρ, [pm, pb, pv, pu])) (hL_la : la ∈ L) (hT_la : ty la = (19, τ, [16])) (hL_lb : lb ∈ L) (hT_lb : ty lb = (19, υ, [16])) : Met l yX6_multiply (.code yX6_multiply cX6_multiply 5 none :: tb) ({ frames := 2, cells := 0, slots := 0, locals := 73 }) (va_Pc [.ref h0, .ref la, .ref lb] (PT (dC, dI) cs ty L F sz)) (va_Qv (fun _ : Unit => True) (fun _ T9 => ∃ F2 : Nat → va_E, QT (dC, dI) cs ty L [ρ, ρ + 85, ρ + 86, ρ + 87, ρ + 88] F F2 (va_A (va_pl L F) sz) T9) (va_A (va_pl L F) sz)) 0 0 (va_A (va_pl L F) sz) := by
  refine Met.ofW (cc := cX6_multiply) (maxL := 5) (ret := none) (by decide) rfl ?_
  intro p e s m args below meth c s₁ B hml hv
  obtain ⟨rfl, hsz, hP, hK, hD0, hE, hO⟩ := hv
  have hx := B.exec
  have hb := B.bytes
  have hr := B.returns
  have hts : ∀ w ∈ tb, w.before _ s = true := fun w h => atoms_spec (ws := .code yX6_multiply cX6_multiply 5 none :: tb) B.pre w (List.mem_cons_of_mem _ h)
  have hown : s.vm.findClass RX6 = some m.cls := findClass_of_methodNamed B.named
  have hlocks := B.notSynchronized
  subst hsz
  have hD := hD0.self (sz := s.heap.size)
  generalize hAe : va_A (va_pl L F) s.heap.size = A at hD ⊢
  have hA : ∀ q : Nat, s.heap.size ≤ q → A q := fun q h => by rw [← hAe]; exact Or.inr h
  have hS : va_S A s.heap s.heap [] := va_S.rf
  have hR : FR ty [ρ, ρ + 85, ρ + 86, ρ + 87, ρ + 88] F F := FR.refl
  have hl := lv_entry ([.ref h0, .ref la, .ref lb]) (n := 5) (Nat.le_of_ble_eq_true rfl)
  rw [lg_entry_eq]
  generalize (lg_sl ([.ref h0, .ref la, .ref lb]) ++ List.replicate (5 - (lg_sl ([.ref h0, .ref la, .ref lb])).length) Slot.unset).toArray = ls at hl ⊢
  have hl : lv_has ls 5 [(0, .ref h0), (1, .ref la), (2, .ref lb)] := hl
  refine lv_iconst (v := 0) hx hb dX6_multiply_0 (by decide) ?_
  refine lv_istore_n (lv' := [(3, .int 0), (0, .ref h0), (1, .ref la), (2, .ref lb)]) hx hb dX6_multiply_1 rfl hl (by decide) rfl (fun ls hl => ?_)
  refine W.widen (k := 0) (n := 0) (by omega) (by omega) ?_
  refine pl_loop (σ := Nat) A (dC, dI) cs ty L [ρ, ρ + 85, ρ + 86, ρ + 87, ρ + 88] F 2 5 (fun j => [(3, .int (nI j)), (0, .ref h0), (1, .ref la), (2, .ref lb)]) (fun j => []) (fun j _ => j ≤ 18) (fun j => 18 - j) ?_ 0 F (by omega) hO hR _ _ hP hD hS ls (lv_sub hl [0, 1, 2, 3] rfl)
  rintro j F_1 hv_2 hO hR ih_3 H locs hP hD hS ls hl
  have hl : lv_has ls 5 [(3, .int (nI j)), (0, .ref h0), (1, .ref la), (2, .ref lb)] := hl
  have hv_2 : j ≤ 18 := hv_2
  refine W.eq (g2 := F0 m 2 ls []) rfl ?_
  refine lv_iload_n hx hb dX6_multiply_2 rfl (lv_at hl 0 rfl) ?_
  refine lv_bipush (v := 18) hx hb dX6_multiply_3 (by decide) ?_
  refine lv_icmp_ge (tgt := 21) hx hb dX6_multiply_5 (by decide) (fun c_4 => ?_) (fun c_4 => ?_)
  ·
    have hi_5 : 18 ≤ j := leN (N := 18) c_4
    refine lv_iconst (v := 0) hx hb dX6_multiply_21 (by decide) ?_
    refine lv_istore_n (lv' := [(3, .int 0), (0, .ref h0), (1, .ref la), (2, .ref lb)]) hx hb dX6_multiply_22 rfl hl (by decide) rfl (fun ls hl => ?_)
    refine W.widen (k := 0) (n := 0) (by omega) (by omega) ?_
    refine pl_loop (σ := Nat) A (dC, dI) cs ty L [ρ, ρ + 85, ρ + 86, ρ + 87, ρ + 88] F 23 5 (fun j2 => [(3, .int (nI j2)), (0, .ref h0), (1, .ref la), (2, .ref lb)]) (fun j2 => []) (fun j2 _ => j2 ≤ 16) (fun j2 => 16 - j2) ?_ 0 F_1 (by omega) hO hR _ _ hP hD hS ls (lv_sub hl [0, 1, 2, 3] rfl)
    rintro j2 F_6 hv_7 hO hR ih_8 H locs hP hD hS ls hl
    have hl : lv_has ls 5 [(3, .int (nI j2)), (0, .ref h0), (1, .ref la), (2, .ref lb)] := hl
    have hv_7 : j2 ≤ 16 := hv_7
    refine W.eq (g2 := F0 m 23 ls []) rfl ?_
    refine lv_iload_n hx hb dX6_multiply_23 rfl (lv_at hl 0 rfl) ?_
    refine lv_bipush (v := 16) hx hb dX6_multiply_24 (by decide) ?_
    refine lv_icmp_ge (tgt := 106) hx hb dX6_multiply_26 (by decide) (fun c_9 => ?_) (fun c_9 => ?_)
    ·
      have hi_10 : 16 ≤ j2 := leN (N := 16) c_9
      refine lv_aload_n hx hb dX6_multiply_106 rfl (lv_at hl 1 rfl) ?_
      have hFc := pg_free hD hS hA
      obtain ⟨hi_11, hi_12, hi_13, hi_14, ht_15, ht_16, ht_17, ht_18⟩ := hW.power hL_h0 hT_h0
      obtain ⟨v_19, hF_20⟩ := hO.power hL_h0 hT_h0
      refine va_callv (va_runV (As := []) (rest := []) ⟨hx, hb, hml, hown, hts⟩ (s_X6_reduce l dC dI cs ty L H.size F_6 h0 ρ pm pb pv pu hW hL_h0 hT_h0) ⟨callB_of 0 hts (gi kt_274) rfl rfl rfl (hts _ kt_275) (hts _ kt_276) (by decide +kernel) ⟨Nat.le_of_ble_eq_true rfl, Nat.le_of_ble_eq_true rfl⟩, (hts _ kt_277), (hts _ kt_278)⟩ ⟨fun a U g mk q => ⟨q.1, PT.calling q.2⟩, pg_recv hK hP hL_h0 hF_20 (q := (RX6, TX6, 5)) rfl, fun U hU hWm => ⟨rfl, PT.mk hU hWm hP hK hD hE hO⟩⟩ rfl rfl hl.1 rfl (lv_room (Nat.le_of_ble_eq_true rfl)) dX6_multiply_107 ⟨by show _ + 0 ≤ 0; omega, by show _ + 0 ≤ 0; omega⟩) hS (fun q _ h => hFc q h) hFc (fun u t H1 locs ht hvm hw hB hz1 hk1 hS => ?_)
      obtain ⟨F_22, hB1⟩ := hB
      obtain ⟨hP, hD, hO, hR⟩ := QT.back hB1 ht hFc hR (fun q h => by simp only [List.mem_cons, List.not_mem_nil, or_false] at h ⊢; omega)
      generalize H1 = H at hP hS ⊢
      refine W.widen (k := 0) (n := 0) (by omega) (by omega) ?_
      exact W.vret hx hb hr (fun t ht hWm => ⟨⟨(), rfl, trivial, ⟨F_22, QT.mk ht hP hD hO hR⟩⟩, hS.F ht⟩) hS.2.2 dX6_multiply_110
    ·
      have hi_23 : j2 < 16 := ltN (N := 16) c_9
      refine lv_aload_n hx hb dX6_multiply_29 rfl (lv_at hl 1 rfl) ?_
      refine lv_aload_n hx hb dX6_multiply_30 rfl (lv_at hl 2 rfl) ?_
      refine lv_aload_n hx hb dX6_multiply_31 rfl (lv_at hl 3 rfl) ?_
      refine lv_iload_n hx hb dX6_multiply_32 rfl (lv_at hl 0 rfl) ?_
      obtain ⟨f_24, hF_25⟩ := hO.longs hL_lb hT_lb
      refine pg_lald hx hb hK hP hL_lb 3 hF_25 rfl (vp_in_nI (by omega) (by omega)) dX6_multiply_33 ?_
      refine lv_topl (fun x_26 _ => ?_)
      have hFc := pg_free hD hS hA
      obtain ⟨hi_27, hi_28, hi_29, hi_30, ht_31, ht_32, ht_33, ht_34⟩ := hW.power hL_h0 hT_h0
      obtain ⟨v_35, hF_36⟩ := hO.power hL_h0 hT_h0
      refine va_callv (va_runV (As := [.ref la, .long x_26]) (rest := []) ⟨hx, hb, hml, hown, hts⟩ (s_X6_addTimes l dC dI cs ty L H.size F_6 h0 ρ pm pb pv pu la τ x_26 hW hL_h0 hT_h0 hL_la hT_la) ⟨callB_of 2 hts (gi kt_279) rfl rfl rfl (hts _ kt_275) (hts _ kt_280) (by decide +kernel) ⟨Nat.le_of_ble_eq_true rfl, Nat.le_of_ble_eq_true rfl⟩, (hts _ kt_281), (hts _ kt_282)⟩ ⟨fun a U g mk q => ⟨q.1, PT.calling q.2⟩, pg_recv hK hP hL_h0 hF_36 (q := (RX6, TX6, 5)) rfl, fun U hU hWm => ⟨rfl, PT.mk hU hWm hP hK hD hE hO⟩⟩ rfl rfl hl.1 rfl (lv_room (Nat.le_of_ble_eq_true rfl)) dX6_multiply_34 ⟨by show _ + 0 ≤ 0; omega, by show _ + 0 ≤ 0; omega⟩) hS (fun q _ h => hFc q h) hFc (fun u t H1 locs ht hvm hw hB hz1 hk1 hS => ?_)
      obtain ⟨F_38, hB1⟩ := hB
      obtain ⟨hP, hD, hO, hR⟩ := QT.back hB1 ht hFc hR (fun q h => by simp only [List.mem_cons, List.not_mem_nil, or_false] at h ⊢; omega)
      generalize H1 = H at hP hS ⊢
      refine lv_aload_n hx hb dX6_multiply_37 rfl (lv_at hl 1 rfl) ?_
      refine lv_aload_n hx hb dX6_multiply_38 rfl (lv_at hl 1 rfl) ?_
      obtain ⟨v_39, hF_40⟩ := hO.power hL_h0 hT_h0
      refine pg_get (ci := 6) (v := .ref pm) (C := RX6) (T := TX6) (N := 5) hx hb hts it_6 hown hK hP hL_h0 hF_40 rfl 0 (by decide) (hts _ kt_273) (fun _ h9 => h9) rfl dX6_multiply_39 ?_
      refine lv_aload_n hx hb dX6_multiply_42 rfl (lv_at hl 1 rfl) ?_
      refine pg_get (ci := 6) (v := .ref pu) (C := RX6) (T := TX6) (N := 5) hx hb hts it_6 hown hK hP hL_h0 hF_40 rfl 3 (by decide) (hts _ kt_270) (fun _ h9 => h9) rfl dX6_multiply_43 ?_
      refine lv_iconst (v := 0) hx hb dX6_multiply_46 (by decide) ?_
      obtain ⟨f_41, hF_42⟩ := hO.longs hi_30 ht_34
      refine pg_lald hx hb hK hP hi_30 3 hF_42 rfl (show vp_in (0 : Int32) 18 from (show vp_in (nI 0) 18 from vp_in_nI (by omega) (by omega))) dX6_multiply_47 ?_
      refine lv_topl (fun x_43 _ => ?_)
      refine lv_aload_n hx hb dX6_multiply_48 rfl (lv_at hl 1 rfl) ?_
      refine pg_get (ci := 6) (v := .long v_39) (C := RX6) (T := TX6) (N := 5) hx hb hts it_6 hown hK hP hL_h0 hF_40 rfl 4 (by decide) (hts _ kt_283) (fun _ h9 => h9) rfl dX6_multiply_49 ?_
      refine lv_lmul hx hb dX6_multiply_52 ?_
      refine lv_topl (fun x_44 _ => ?_)
      refine lv_ldc2 (v := 4294967295) hx hb hown (hts _ kt_269) dX6_multiply_53 ?_
      refine lv_land hx hb dX6_multiply_56 ?_
      refine lv_topl (fun x_45 _ => ?_)
      have hFc := pg_free hD hS hA
      refine va_callv (va_runV (As := [.ref pm, .long x_45]) (rest := []) ⟨hx, hb, hml, hown, hts⟩ (s_X6_addTimes l dC dI cs ty L H.size F_38 h0 ρ pm pb pv pu pm (ρ + 85) x_45 hW hL_h0 hT_h0 hi_27 ht_31) ⟨callB_of 2 hts (gi kt_279) rfl rfl rfl (hts _ kt_275) (hts _ kt_280) (by decide +kernel) ⟨Nat.le_of_ble_eq_true rfl, Nat.le_of_ble_eq_true rfl⟩, (hts _ kt_281), (hts _ kt_282)⟩ ⟨fun a U g mk q => ⟨q.1, PT.calling q.2⟩, pg_recv hK hP hL_h0 hF_40 (q := (RX6, TX6, 5)) rfl, fun U hU hWm => ⟨rfl, PT.mk hU hWm hP hK hD hE hO⟩⟩ rfl rfl hl.1 rfl (lv_room (Nat.le_of_ble_eq_true rfl)) dX6_multiply_57 ⟨by show _ + 0 ≤ 0; omega, by show _ + 0 ≤ 0; omega⟩) hS (fun q _ h => hFc q h) hFc (fun u t H1 locs ht hvm hw hB hz1 hk1 hS => ?_)
      obtain ⟨F_47, hB1⟩ := hB
      obtain ⟨hP, hD, hO, hR⟩ := QT.back hB1 ht hFc hR (fun q h => by simp only [List.mem_cons, List.not_mem_nil, or_false] at h ⊢; omega)
      generalize H1 = H at hP hS ⊢
      refine lv_iconst (v := 0) hx hb dX6_multiply_60 (by decide) ?_
      refine lv_istore (lv' := [(4, .int 0), (3, .int (nI j2)), (0, .ref h0), (1, .ref la), (2, .ref lb)]) hx hb dX6_multiply_61 hl (by decide) rfl (fun ls hl => ?_)
      refine W.widen (k := 0) (n := 0) (by omega) (by omega) ?_
      refine pl_loop (σ := Nat) A (dC, dI) cs ty L [ρ, ρ + 85, ρ + 86, ρ + 87, ρ + 88] F 63 5 (fun j3 => [(4, .int (nI j3)), (3, .int (nI j2)), (0, .ref h0), (1, .ref la), (2, .ref lb)]) (fun j3 => []) (fun j3 _ => j3 ≤ 17) (fun j3 => 17 - j3) ?_ 0 F_47 (by omega) hO hR _ _ hP hD hS ls (lv_sub hl [0, 1, 2, 3, 4] rfl)
      rintro j3 F_48 hv_49 hO hR ih_50 H locs hP hD hS ls hl
      have hl : lv_has ls 5 [(4, .int (nI j3)), (3, .int (nI j2)), (0, .ref h0), (1, .ref la), (2, .ref lb)] := hl
      have hv_49 : j3 ≤ 17 := hv_49
      refine W.eq (g2 := F0 m 63 ls []) rfl ?_
      refine lv_iload hx hb dX6_multiply_63 (lv_at hl 0 rfl) ?_
      refine lv_bipush (v := 16) hx hb dX6_multiply_65 (by decide) ?_
      refine lv_icmp_gt (tgt := 92) hx hb dX6_multiply_67 (by decide) (fun c_51 => ?_) (fun c_51 => ?_)
      ·
        have hi_52 : 16 < j3 := (nI_ltI (a := 16) (b := j3) (by omega) (by omega)).mp c_51
        refine lv_aload_n hx hb dX6_multiply_92 rfl (lv_at hl 2 rfl) ?_
        obtain ⟨v_53, hF_54⟩ := hO.power hL_h0 hT_h0
        refine pg_get (ci := 6) (v := .ref pu) (C := RX6) (T := TX6) (N := 5) hx hb hts it_6 hown hK hP hL_h0 hF_54 rfl 3 (by decide) (hts _ kt_270) (fun _ h9 => h9) rfl dX6_multiply_93 ?_
        refine lv_bipush (v := 17) hx hb dX6_multiply_96 (by decide) ?_
        refine lv_lconst (v := 0) hx hb dX6_multiply_98 (by decide) ?_
        obtain ⟨f_55, hF_56⟩ := hO.longs hi_30 ht_34
        refine pg_last hx hb hK hP hD hS hi_30 3 hF_56 rfl (show vp_in (17 : Int32) 18 from (show vp_in (nI 17) 18 from vp_in_nI (by omega) (by omega))) dX6_multiply_99 (fun H locs hP hD hS => ?_)
        obtain ⟨F_57, he_58, hP, hD, hO, hR⟩ : ∃ G, G = va_up F_48 pu (.inl (cs 19, 18, .inr (.inl (vp_updL f_55 (17 : Int32).toNatClampNeg (0))))) ∧ va_P (dC, dI) vwCl (va_pl L G) H ∧ va_D A (va_pl L G) ∧ OK cs ty L G ∧ FR ty [ρ, ρ + 85, ρ + 86, ρ + 87, ρ + 88] F G := ⟨_, rfl, hP, hD, hO.up (sh.longs ht_34 ⟨_, rfl⟩), hR.up ht_34 (by simp)⟩
        have hF_59 : F_57 pu = .inl (cs 19, 18, .inr (.inl (vp_updL f_55 (17 : Int32).toNatClampNeg (0)))) := by rw [he_58]; exact up_self
        have hF_60 : F_57 h0 = .inr (6, [.ref pm, .ref pb, .ref pv, .ref pu, .long v_53]) := by rw [he_58, up_ne (ne_ty hT_h0 ht_34 (by simp))]; exact hF_54
        obtain ⟨f_61, hF_59⟩ : ∃ f : Nat → Int64, F_57 pu = .inl (cs 19, 18, .inr (.inl f)) := ⟨_, hF_59⟩
        refine lv_iinc (v := (nI (j2 + 1))) (lv' := [(3, .int (nI (j2 + 1))), (4, .int (nI j3)), (0, .ref h0), (1, .ref la), (2, .ref lb)]) hx hb dX6_multiply_100 hl (k := 1) rfl (nI_1 _) (by decide) rfl (fun ls hl => ?_)
        refine lv_goto (tgt := 23) hx hb dX6_multiply_103 (by decide) ?_
        refine W.widen (k := 0) (n := 0) (by omega) (by omega) ?_
        exact ih_8 (j2 + 1) F_57 (by first | omega | exact ⟨by omega, by omega⟩ | trivial) (by show 16 - (j2 + 1) < 16 - j2; omega) hO hR _ _ hP hD hS ls (lv_sub hl [0, 2, 3, 4] rfl)
      ·
        have hi_62 : j3 ≤ 16 := Nat.not_lt.mp (fun q => c_51 ((nI_ltI (a := 16) (b := j3) (by omega) (by omega)).mpr q))
        refine lv_aload_n hx hb dX6_multiply_70 rfl (lv_at hl 2 rfl) ?_
        obtain ⟨v_63, hF_64⟩ := hO.power hL_h0 hT_h0
        refine pg_get (ci := 6) (v := .ref pu) (C := RX6) (T := TX6) (N := 5) hx hb hts it_6 hown hK hP hL_h0 hF_64 rfl 3 (by decide) (hts _ kt_270) (fun _ h9 => h9) rfl dX6_multiply_71 ?_
        refine lv_iload hx hb dX6_multiply_74 (lv_at hl 0 rfl) ?_
        refine lv_aload_n hx hb dX6_multiply_76 rfl (lv_at hl 2 rfl) ?_
        refine pg_get (ci := 6) (v := .ref pu) (C := RX6) (T := TX6) (N := 5) hx hb hts it_6 hown hK hP hL_h0 hF_64 rfl 3 (by decide) (hts _ kt_270) (fun _ h9 => h9) rfl dX6_multiply_77 ?_
        refine lv_iload hx hb dX6_multiply_80 (lv_at hl 0 rfl) ?_
        refine lv_iconst (v := 1) hx hb dX6_multiply_82 (by decide) ?_
        refine lv_iadd hx hb dX6_multiply_83 ?_
        refine lv_topi (fun x_65 ex_65 => ?_)
        obtain rfl : x_65 = (nI (j3 + 1)) := ex_65.trans (nI_1 j3)
        obtain ⟨f_66, hF_67⟩ := hO.longs hi_30 ht_34
        refine pg_lald hx hb hK hP hi_30 3 hF_67 rfl (vp_in_nI (by omega) (by omega)) dX6_multiply_84 ?_
        refine lv_topl (fun x_68 _ => ?_)
        refine pg_last hx hb hK hP hD hS hi_30 3 hF_67 rfl (vp_in_nI (by omega) (by omega)) dX6_multiply_85 (fun H locs hP hD hS => ?_)
        obtain ⟨F_69, he_70, hP, hD, hO, hR⟩ : ∃ G, G = va_up F_48 pu (.inl (cs 19, 18, .inr (.inl (vp_updL f_66 ((nI j3)).toNatClampNeg (x_68))))) ∧ va_P (dC, dI) vwCl (va_pl L G) H ∧ va_D A (va_pl L G) ∧ OK cs ty L G ∧ FR ty [ρ, ρ + 85, ρ + 86, ρ + 87, ρ + 88] F G := ⟨_, rfl, hP, hD, hO.up (sh.longs ht_34 ⟨_, rfl⟩), hR.up ht_34 (by simp)⟩
        have hF_71 : F_69 pu = .inl (cs 19, 18, .inr (.inl (vp_updL f_66 ((nI j3)).toNatClampNeg (x_68)))) := by rw [he_70]; exact up_self
        have hF_72 : F_69 h0 = .inr (6, [.ref pm, .ref pb, .ref pv, .ref pu, .long v_63]) := by rw [he_70, up_ne (ne_ty hT_h0 ht_34 (by simp))]; exact hF_64
        obtain ⟨f_73, hF_71⟩ : ∃ f : Nat → Int64, F_69 pu = .inl (cs 19, 18, .inr (.inl f)) := ⟨_, hF_71⟩
        refine lv_iinc (v := (nI (j3 + 1))) (lv' := [(4, .int (nI (j3 + 1))), (3, .int (nI j2)), (0, .ref h0), (1, .ref la), (2, .ref lb)]) hx hb dX6_multiply_86 hl (k := 0) rfl (nI_1 _) (by decide) rfl (fun ls hl => ?_)
        refine lv_goto (tgt := 63) hx hb dX6_multiply_89 (by decide) ?_
        refine W.widen (k := 0) (n := 0) (by omega) (by omega) ?_
        exact ih_50 (j3 + 1) F_69 (by first | omega | exact ⟨by omega, by omega⟩ | trivial) (by show 17 - (j3 + 1) < 17 - j3; omega) hO hR _ _ hP hD hS ls (lv_sub hl [0, 1, 2, 3, 4] rfl)
  ·
    have hi_74 : j < 18 := ltN (N := 18) c_4
    refine lv_aload_n hx hb dX6_multiply_8 rfl (lv_at hl 1 rfl) ?_
    obtain ⟨hi_75, hi_76, hi_77, hi_78, ht_79, ht_80, ht_81, ht_82⟩ := hW.power hL_h0 hT_h0
    obtain ⟨v_83, hF_84⟩ := hO.power hL_h0 hT_h0
    refine pg_get (ci := 6) (v := .ref pu) (C := RX6) (T := TX6) (N := 5) hx hb hts it_6 hown hK hP hL_h0 hF_84 rfl 3 (by decide) (hts _ kt_270) (fun _ h9 => h9) rfl dX6_multiply_9 ?_
    refine lv_iload_n hx hb dX6_multiply_12 rfl (lv_at hl 0 rfl) ?_
    refine lv_lconst (v := 0) hx hb dX6_multiply_13 (by decide) ?_
    obtain ⟨f_85, hF_86⟩ := hO.longs hi_78 ht_82
    refine pg_last hx hb hK hP hD hS hi_78 3 hF_86 rfl (vp_in_nI (by omega) (by omega)) dX6_multiply_14 (fun H locs hP hD hS => ?_)
    obtain ⟨F_87, he_88, hP, hD, hO, hR⟩ : ∃ G, G = va_up F_1 pu (.inl (cs 19, 18, .inr (.inl (vp_updL f_85 ((nI j)).toNatClampNeg (0))))) ∧ va_P (dC, dI) vwCl (va_pl L G) H ∧ va_D A (va_pl L G) ∧ OK cs ty L G ∧ FR ty [ρ, ρ + 85, ρ + 86, ρ + 87, ρ + 88] F G := ⟨_, rfl, hP, hD, hO.up (sh.longs ht_82 ⟨_, rfl⟩), hR.up ht_82 (by simp)⟩
    have hF_89 : F_87 pu = .inl (cs 19, 18, .inr (.inl (vp_updL f_85 ((nI j)).toNatClampNeg (0)))) := by rw [he_88]; exact up_self
    have hF_90 : F_87 h0 = .inr (6, [.ref pm, .ref pb, .ref pv, .ref pu, .long v_83]) := by rw [he_88, up_ne (ne_ty hT_h0 ht_82 (by simp))]; exact hF_84
    obtain ⟨f_91, hF_89⟩ : ∃ f : Nat → Int64, F_87 pu = .inl (cs 19, 18, .inr (.inl f)) := ⟨_, hF_89⟩
    refine lv_iinc (v := (nI (j + 1))) (lv' := [(3, .int (nI (j + 1))), (0, .ref h0), (1, .ref la), (2, .ref lb)]) hx hb dX6_multiply_15 hl (k := 0) rfl (nI_1 _) (by decide) rfl (fun ls hl => ?_)
    refine lv_goto (tgt := 2) hx hb dX6_multiply_18 (by decide) ?_
    refine W.widen (k := 0) (n := 0) (by omega) (by omega) ?_
    exact ih_3 (j + 1) F_87 (by first | omega | exact ⟨by omega, by omega⟩ | trivial) (by show 18 - (j + 1) < 18 - j; omega) hO hR _ _ hP hD hS ls (lv_sub hl [0, 1, 2, 3] rfl)
set_option maxHeartbeats 4000000 in
set_option maxRecDepth 100000 in
theorem s_X6_of (l : Launch) (dC : Nat → ClassId) (dI : Nat → Nat → Nat) (cs : Nat → ClassId) (ty : TyM) (L : List Nat) (sz : Nat) (F : Nat → va_E) (h0 : Nat) (ρ : Nat) (pm : Nat) (pb : Nat) (pv : Nat) (pu : Nat) (g1 : Nat) (σ : Nat) (r1 : Nat) (n1 : Nat) (g2 : Nat) (τ : Nat) (r2 : Nat) (n2 : Nat) (g3 : Nat) (υ : Nat) (r3 : Nat) (n3 : Nat) (hW : WT ty L) (hL_h0 : h0 ∈ L) (hT_h0 : ty h0 = (6, ρ, [pm, pb, pv, pu])) (hL_g1 : g1 ∈ L) (hT_g1 : ty g1 = (0, σ, [r1, n1])) (hL_g2 : g2 ∈ L) (hT_g2 : ty g2 = (0, τ, [r2, n2])) (hL_g3 : g3 ∈ L) (hT_g3 : ty g3 = (0, υ, [r3, n3])) : Met l yX6_of (.code yX6_of cX6_of 5 none :: tb) ({ frames := 3, cells := 0, slots := 0, locals := 98 }) (va_Pc [.ref h0, .ref g1, .ref g2, .ref g3] (PT (dC, dI) cs ty L F sz)) (va_Qv (fun _ : Unit => True) (fun _ T9 => ∃ F2 : Nat → va_E, QT (dC, dI) cs ty L [ρ, ρ + 85, ρ + 86, ρ + 87, ρ + 88, υ] F F2 (va_A (va_pl L F) sz) T9) (va_A (va_pl L F) sz)) 0 0 (va_A (va_pl L F) sz) := by
  refine Met.ofW (cc := cX6_of) (maxL := 5) (ret := none) (by decide) rfl ?_
  intro p e s m args below meth c s₁ B hml hv
  obtain ⟨rfl, hsz, hP, hK, hD0, hE, hO⟩ := hv
  have hx := B.exec
  have hb := B.bytes
  have hr := B.returns
  have hts : ∀ w ∈ tb, w.before _ s = true := fun w h => atoms_spec (ws := .code yX6_of cX6_of 5 none :: tb) B.pre w (List.mem_cons_of_mem _ h)
  have hown : s.vm.findClass RX6 = some m.cls := findClass_of_methodNamed B.named
  have hlocks := B.notSynchronized
  subst hsz
  have hD := hD0.self (sz := s.heap.size)
  generalize hAe : va_A (va_pl L F) s.heap.size = A at hD ⊢
  have hA : ∀ q : Nat, s.heap.size ≤ q → A q := fun q h => by rw [← hAe]; exact Or.inr h
  have hS : va_S A s.heap s.heap [] := va_S.rf
  have hR : FR ty [ρ, ρ + 85, ρ + 86, ρ + 87, ρ + 88, υ] F F := FR.refl
  have hl := lv_entry ([.ref h0, .ref g1, .ref g2, .ref g3]) (n := 5) (Nat.le_of_ble_eq_true rfl)
  rw [lg_entry_eq]
  generalize (lg_sl ([.ref h0, .ref g1, .ref g2, .ref g3]) ++ List.replicate (5 - (lg_sl ([.ref h0, .ref g1, .ref g2, .ref g3])).length) Slot.unset).toArray = ls at hl ⊢
  have hl : lv_has ls 5 [(0, .ref h0), (1, .ref g1), (2, .ref g2), (3, .ref g3)] := hl
  refine lv_aload_n hx hb dX6_of_0 rfl (lv_at hl 2 rfl) ?_
  refine lv_aload_n hx hb dX6_of_1 rfl (lv_at hl 0 rfl) ?_
  obtain ⟨hi_1, hi_2, hi_3, hi_4, ht_5, ht_6, ht_7, ht_8⟩ := hW.power hL_h0 hT_h0
  obtain ⟨v_9, hF_10⟩ := hO.power hL_h0 hT_h0
  refine pg_get (ci := 6) (v := .ref pm) (C := RX6) (T := TX6) (N := 5) hx hb hts it_6 hown hK hP hL_h0 hF_10 rfl 0 (by decide) (hts _ kt_273) (fun _ h9 => h9) rfl dX6_of_2 ?_
  have hFc := pg_free hD hS hA
  refine va_callv (va_runS (As := [.ref g2, .ref pm]) (rest := []) ⟨hx, hb, hml, hown, hts⟩ (s_X6_load l dC dI cs ty L s.heap.size F g2 τ r2 n2 pm (ρ + 85) hW hL_g2 hT_g2 hi_1 ht_5) ⟨callB_of 2 hts (gi kt_284) rfl rfl rfl (hts _ kt_275) (hts _ kt_285) (by decide +kernel) ⟨Nat.le_of_ble_eq_true rfl, Nat.le_of_ble_eq_true rfl⟩, (hts _ kt_286)⟩ ⟨fun a U g mk q => ⟨q.1, PT.calling q.2⟩, fun U hU hWm => ⟨rfl, PT.mk hU hWm hP hK hD hE hO⟩⟩ rfl rfl hl.1 rfl (lv_room (Nat.le_of_ble_eq_true rfl)) dX6_of_5 ⟨by show _ + 0 ≤ 0; omega, by show _ + 0 ≤ 0; omega⟩) hS (fun q _ h => hFc q h) hFc (fun u t H1 locs ht hvm hw hB hz1 hk1 hS => ?_)
  obtain ⟨F_12, hB1⟩ := hB
  obtain ⟨hP, hD, hO, hR⟩ := QT.back hB1 ht hFc hR (fun q h => by simp only [List.mem_cons, List.not_mem_nil, or_false] at h ⊢; omega)
  have hF_13 : F_12 h0 = .inr (6, [.ref pm, .ref pb, .ref pv, .ref pu, .long v_9]) := (hB1.2.2.2 h0 (by rw [hT_h0]; simp)).trans hF_10
  generalize H1 = H at hP hS ⊢
  refine lv_aload_n hx hb dX6_of_8 rfl (lv_at hl 1 rfl) ?_
  refine lv_aload_n hx hb dX6_of_9 rfl (lv_at hl 0 rfl) ?_
  refine pg_get (ci := 6) (v := .ref pb) (C := RX6) (T := TX6) (N := 5) hx hb hts it_6 hown hK hP hL_h0 hF_13 rfl 1 (by decide) (hts _ kt_287) (fun _ h9 => h9) rfl dX6_of_10 ?_
  have hFc := pg_free hD hS hA
  refine va_callv (va_runS (As := [.ref g1, .ref pb]) (rest := []) ⟨hx, hb, hml, hown, hts⟩ (s_X6_load l dC dI cs ty L H.size F_12 g1 σ r1 n1 pb (ρ + 86) hW hL_g1 hT_g1 hi_2 ht_6) ⟨callB_of 2 hts (gi kt_284) rfl rfl rfl (hts _ kt_275) (hts _ kt_285) (by decide +kernel) ⟨Nat.le_of_ble_eq_true rfl, Nat.le_of_ble_eq_true rfl⟩, (hts _ kt_286)⟩ ⟨fun a U g mk q => ⟨q.1, PT.calling q.2⟩, fun U hU hWm => ⟨rfl, PT.mk hU hWm hP hK hD hE hO⟩⟩ rfl rfl hl.1 rfl (lv_room (Nat.le_of_ble_eq_true rfl)) dX6_of_13 ⟨by show _ + 0 ≤ 0; omega, by show _ + 0 ≤ 0; omega⟩) hS (fun q _ h => hFc q h) hFc (fun u t H1 locs ht hvm hw hB hz1 hk1 hS => ?_)
  obtain ⟨F_15, hB1⟩ := hB
  obtain ⟨hP, hD, hO, hR⟩ := QT.back hB1 ht hFc hR (fun q h => by simp only [List.mem_cons, List.not_mem_nil, or_false] at h ⊢; omega)
  have hF_16 : F_15 h0 = .inr (6, [.ref pm, .ref pb, .ref pv, .ref pu, .long v_9]) := (hB1.2.2.2 h0 (by rw [hT_h0]; simp)).trans hF_13
  generalize H1 = H at hP hS ⊢
  refine lv_aload_n hx hb dX6_of_16 rfl (lv_at hl 0 rfl) ?_
  refine lv_aload_n hx hb dX6_of_17 rfl (lv_at hl 0 rfl) ?_
  refine pg_get (ci := 6) (v := .ref pm) (C := RX6) (T := TX6) (N := 5) hx hb hts it_6 hown hK hP hL_h0 hF_16 rfl 0 (by decide) (hts _ kt_273) (fun _ h9 => h9) rfl dX6_of_18 ?_
  refine lv_iconst (v := 0) hx hb dX6_of_21 (by decide) ?_
  obtain ⟨f_17, hF_18⟩ := hO.longs hi_1 ht_5
  refine pg_lald hx hb hK hP hi_1 3 hF_18 rfl (show vp_in (0 : Int32) 16 from (show vp_in (nI 0) 16 from vp_in_nI (by omega) (by omega))) dX6_of_22 ?_
  refine lv_topl (fun x_19 _ => ?_)
  refine lv_l2i hx hb dX6_of_23 rfl ?_
  refine lv_topi (fun x_20 _ => ?_)
  have hFc := pg_free hD hS hA
  refine va_calll (va_runS (As := [.int x_20]) (rest := [.ref h0]) ⟨hx, hb, hml, hown, hts⟩ (s_X6_factorOf l dC dI cs ty L H.size F_15 x_20 hW ) ⟨callB_of 1 hts (gi kt_288) rfl rfl rfl (hts _ kt_275) (hts _ kt_289) (by decide +kernel) ⟨Nat.le_of_ble_eq_true rfl, Nat.le_of_ble_eq_true rfl⟩, (hts _ kt_290)⟩ ⟨fun a U g mk q => ⟨q.1, PT.calling q.2⟩, fun U hU hWm => ⟨rfl, PT.mk hU hWm hP hK hD hE hO⟩⟩ rfl rfl hl.1 rfl (lv_room (Nat.le_of_ble_eq_true rfl)) dX6_of_24 ⟨by show _ + 0 ≤ 0; omega, by show _ + 0 ≤ 0; omega⟩) hS (fun q _ h => hFc q h) hFc (fun r_21 u t H1 locs ht hvm hw hB hz1 hk1 hS => ?_)
  obtain ⟨F_22, hB1⟩ := hB
  obtain ⟨hP, hD, hO, hR⟩ := QT.back hB1 ht hFc hR (fun q h => absurd h List.not_mem_nil)
  have hF_23 : F_22 h0 = .inr (6, [.ref pm, .ref pb, .ref pv, .ref pu, .long v_9]) := (hB1.2.2.2 h0 List.not_mem_nil).trans hF_16
  have hF_24 : F_22 pm = .inl (cs 19, 16, .inr (.inl f_17)) := (hB1.2.2.2 pm List.not_mem_nil).trans hF_18
  generalize H1 = H at hP hS ⊢
  have hw : True := hw
  have hw_25 := hw
  refine pg_put (ci := 6) (v := .long r_21) (ty := .long) (C := RX6) (T := TX6) (N := 5) hx hb hts it_6 tyX6 tyX6_ok nmX6 hown hK hP hD hS hL_h0 hF_23 rfl 4 (by decide) (hts _ kt_283) (fun _ h9 => h9) rfl (by decide +kernel) (rfl) (rfl) (Nat.le_of_ble_eq_true rfl) dX6_of_27 (fun H locs hP hD hS => ?_)
  obtain ⟨F_26, he_27, hP, hD, hO, hR⟩ : ∃ G, G = va_up F_22 h0 (.inr (6, [.ref pm, .ref pb, .ref pv, .ref pu, .long r_21])) ∧ va_P (dC, dI) vwCl (va_pl L G) H ∧ va_D A (va_pl L G) ∧ OK cs ty L G ∧ FR ty [ρ, ρ + 85, ρ + 86, ρ + 87, ρ + 88, υ] F G := ⟨_, rfl, hP, hD, hO.up (sh.power hT_h0 ⟨r_21, rfl⟩), hR.up hT_h0 (by simp)⟩
  have hF_28 : F_26 h0 = .inr (6, [.ref pm, .ref pb, .ref pv, .ref pu, .long r_21]) := by rw [he_27]; exact up_self
  have hF_29 : F_26 pm = .inl (cs 19, 16, .inr (.inl f_17)) := by rw [he_27, up_ne (ne_ty ht_5 hT_h0 (by simp))]; exact hF_24
  refine lv_aload_n hx hb dX6_of_30 rfl (lv_at hl 0 rfl) ?_
  have hFc := pg_free hD hS hA
  refine va_callv (va_runV (As := []) (rest := []) ⟨hx, hb, hml, hown, hts⟩ (s_X6_setTwo l dC dI cs ty L H.size F_26 h0 ρ pm pb pv pu hW hL_h0 hT_h0) ⟨callB_of 0 hts (gi kt_291) rfl rfl rfl (hts _ kt_275) (hts _ kt_292) (by decide +kernel) ⟨Nat.le_of_ble_eq_true rfl, Nat.le_of_ble_eq_true rfl⟩, (hts _ kt_293), (hts _ kt_294)⟩ ⟨fun a U g mk q => ⟨q.1, PT.calling q.2⟩, pg_recv hK hP hL_h0 hF_28 (q := (RX6, TX6, 5)) rfl, fun U hU hWm => ⟨rfl, PT.mk hU hWm hP hK hD hE hO⟩⟩ rfl rfl hl.1 rfl (lv_room (Nat.le_of_ble_eq_true rfl)) dX6_of_31 ⟨by show _ + 0 ≤ 0; omega, by show _ + 0 ≤ 0; omega⟩) hS (fun q _ h => hFc q h) hFc (fun u t H1 locs ht hvm hw hB hz1 hk1 hS => ?_)
  obtain ⟨F_31, hB1⟩ := hB
  obtain ⟨hP, hD, hO, hR⟩ := QT.back hB1 ht hFc hR (fun q h => by simp only [List.mem_cons, List.not_mem_nil, or_false] at h ⊢; omega)
  generalize H1 = H at hP hS ⊢
  refine lv_iconst (v := 0) hx hb dX6_of_34 (by decide) ?_
  refine lv_istore (lv' := [(4, .int 0), (0, .ref h0), (1, .ref g1), (2, .ref g2), (3, .ref g3)]) hx hb dX6_of_35 hl (by decide) rfl (fun ls hl => ?_)
  refine W.widen (k := 0) (n := 0) (by omega) (by omega) ?_
  refine pl_loop (σ := Nat) A (dC, dI) cs ty L [ρ, ρ + 85, ρ + 86, ρ + 87, ρ + 88, υ] F 37 5 (fun j => [(4, .int (nI j)), (0, .ref h0), (1, .ref g1), (2, .ref g2), (3, .ref g3)]) (fun j => []) (fun j _ => j ≤ 9) (fun j => 9 - j) ?_ 0 F_31 (by omega) hO hR _ _ hP hD hS ls (lv_sub hl [0, 1, 2, 3, 4] rfl)
  rintro j F_32 hv_33 hO hR ih_34 H locs hP hD hS ls hl
  have hl : lv_has ls 5 [(4, .int (nI j)), (0, .ref h0), (1, .ref g1), (2, .ref g2), (3, .ref g3)] := hl
  have hv_33 : j ≤ 9 := hv_33
  refine W.eq (g2 := F0 m 37 ls []) rfl ?_
  refine lv_iload hx hb dX6_of_37 (lv_at hl 0 rfl) ?_
  refine lv_bipush (v := 9) hx hb dX6_of_39 (by decide) ?_
  refine lv_icmp_ge (tgt := 62) hx hb dX6_of_41 (by decide) (fun c_35 => ?_) (fun c_35 => ?_)
  ·
    have hi_36 : 9 ≤ j := leN (N := 9) c_35
    refine lv_aload_n hx hb dX6_of_62 rfl (lv_at hl 1 rfl) ?_
    refine lv_aload_n hx hb dX6_of_63 rfl (lv_at hl 1 rfl) ?_
    obtain ⟨v_37, hF_38⟩ := hO.power hL_h0 hT_h0
    refine pg_get (ci := 6) (v := .ref pv) (C := RX6) (T := TX6) (N := 5) hx hb hts it_6 hown hK hP hL_h0 hF_38 rfl 2 (by decide) (hts _ kt_271) (fun _ h9 => h9) rfl dX6_of_64 ?_
    refine lv_aload_n hx hb dX6_of_67 rfl (lv_at hl 1 rfl) ?_
    refine pg_get (ci := 6) (v := .ref pb) (C := RX6) (T := TX6) (N := 5) hx hb hts it_6 hown hK hP hL_h0 hF_38 rfl 1 (by decide) (hts _ kt_287) (fun _ h9 => h9) rfl dX6_of_68 ?_
    have hFc := pg_free hD hS hA
    refine va_callv (va_runV (As := [.ref pv, .ref pb]) (rest := []) ⟨hx, hb, hml, hown, hts⟩ (s_X6_multiply l dC dI cs ty L H.size F_32 h0 ρ pm pb pv pu pv (ρ + 87) pb (ρ + 86) hW hL_h0 hT_h0 hi_3 ht_7 hi_2 ht_6) ⟨callB_of 2 hts (gi kt_295) rfl rfl rfl (hts _ kt_275) (hts _ kt_296) (by decide +kernel) ⟨Nat.le_of_ble_eq_true rfl, Nat.le_of_ble_eq_true rfl⟩, (hts _ kt_297), (hts _ kt_298)⟩ ⟨fun a U g mk q => ⟨q.1, PT.calling q.2⟩, pg_recv hK hP hL_h0 hF_38 (q := (RX6, TX6, 5)) rfl, fun U hU hWm => ⟨rfl, PT.mk hU hWm hP hK hD hE hO⟩⟩ rfl rfl hl.1 rfl (lv_room (Nat.le_of_ble_eq_true rfl)) dX6_of_71 ⟨by show _ + 0 ≤ 0; omega, by show _ + 0 ≤ 0; omega⟩) hS (fun q _ h => hFc q h) hFc (fun u t H1 locs ht hvm hw hB hz1 hk1 hS => ?_)
    obtain ⟨F_40, hB1⟩ := hB
    obtain ⟨hP, hD, hO, hR⟩ := QT.back hB1 ht hFc hR (fun q h => by simp only [List.mem_cons, List.not_mem_nil, or_false] at h ⊢; omega)
    generalize H1 = H at hP hS ⊢
    refine lv_iconst (v := 0) hx hb dX6_of_74 (by decide) ?_
    refine lv_istore (lv' := [(4, .int 0), (0, .ref h0), (1, .ref g1), (2, .ref g2), (3, .ref g3)]) hx hb dX6_of_75 hl (by decide) rfl (fun ls hl => ?_)
    refine W.widen (k := 0) (n := 0) (by omega) (by omega) ?_
    refine pl_loop (σ := Nat) A (dC, dI) cs ty L [ρ, ρ + 85, ρ + 86, ρ + 87, ρ + 88, υ] F 77 5 (fun j2 => [(4, .int (nI j2)), (0, .ref h0), (1, .ref g1), (2, .ref g2), (3, .ref g3)]) (fun j2 => []) (fun j2 _ => j2 ≤ 16) (fun j2 => 16 - j2) ?_ 0 F_40 (by omega) hO hR _ _ hP hD hS ls (lv_sub hl [0, 1, 2, 3, 4] rfl)
    rintro j2 F_41 hv_42 hO hR ih_43 H locs hP hD hS ls hl
    have hl : lv_has ls 5 [(4, .int (nI j2)), (0, .ref h0), (1, .ref g1), (2, .ref g2), (3, .ref g3)] := hl
    have hv_42 : j2 ≤ 16 := hv_42
    refine W.eq (g2 := F0 m 77 ls []) rfl ?_
    refine lv_iload hx hb dX6_of_77 (lv_at hl 0 rfl) ?_
    refine lv_bipush (v := 16) hx hb dX6_of_79 (by decide) ?_
    refine lv_icmp_ge (tgt := 102) hx hb dX6_of_81 (by decide) (fun c_44 => ?_) (fun c_44 => ?_)
    ·
      have hi_45 : 16 ≤ j2 := leN (N := 16) c_44
      refine lv_aload_n hx hb dX6_of_102 rfl (lv_at hl 1 rfl) ?_
      refine lv_aload_n hx hb dX6_of_103 rfl (lv_at hl 1 rfl) ?_
      obtain ⟨v_46, hF_47⟩ := hO.power hL_h0 hT_h0
      refine pg_get (ci := 6) (v := .ref pv) (C := RX6) (T := TX6) (N := 5) hx hb hts it_6 hown hK hP hL_h0 hF_47 rfl 2 (by decide) (hts _ kt_271) (fun _ h9 => h9) rfl dX6_of_104 ?_
      refine lv_aload_n hx hb dX6_of_107 rfl (lv_at hl 1 rfl) ?_
      refine pg_get (ci := 6) (v := .ref pb) (C := RX6) (T := TX6) (N := 5) hx hb hts it_6 hown hK hP hL_h0 hF_47 rfl 1 (by decide) (hts _ kt_287) (fun _ h9 => h9) rfl dX6_of_108 ?_
      have hFc := pg_free hD hS hA
      refine va_callv (va_runV (As := [.ref pv, .ref pb]) (rest := []) ⟨hx, hb, hml, hown, hts⟩ (s_X6_multiply l dC dI cs ty L H.size F_41 h0 ρ pm pb pv pu pv (ρ + 87) pb (ρ + 86) hW hL_h0 hT_h0 hi_3 ht_7 hi_2 ht_6) ⟨callB_of 2 hts (gi kt_295) rfl rfl rfl (hts _ kt_275) (hts _ kt_296) (by decide +kernel) ⟨Nat.le_of_ble_eq_true rfl, Nat.le_of_ble_eq_true rfl⟩, (hts _ kt_297), (hts _ kt_298)⟩ ⟨fun a U g mk q => ⟨q.1, PT.calling q.2⟩, pg_recv hK hP hL_h0 hF_47 (q := (RX6, TX6, 5)) rfl, fun U hU hWm => ⟨rfl, PT.mk hU hWm hP hK hD hE hO⟩⟩ rfl rfl hl.1 rfl (lv_room (Nat.le_of_ble_eq_true rfl)) dX6_of_111 ⟨by show _ + 0 ≤ 0; omega, by show _ + 0 ≤ 0; omega⟩) hS (fun q _ h => hFc q h) hFc (fun u t H1 locs ht hvm hw hB hz1 hk1 hS => ?_)
      obtain ⟨F_49, hB1⟩ := hB
      obtain ⟨hP, hD, hO, hR⟩ := QT.back hB1 ht hFc hR (fun q h => by simp only [List.mem_cons, List.not_mem_nil, or_false] at h ⊢; omega)
      generalize H1 = H at hP hS ⊢
      refine lv_aload_n hx hb dX6_of_114 rfl (lv_at hl 4 rfl) ?_
      have hFc := pg_free hD hS hA
      obtain ⟨hi_50, ht_51, hq_52⟩ := hW.bytes hL_g3 hT_g3
      obtain ⟨z_53, o_54, hF_55, hq_56, hq_57⟩ := hO.bytes hL_g3 hT_g3
      refine va_callv (va_runV (As := []) (rest := []) ⟨hx, hb, hml, hown, hts⟩ (s_X0_clear l dC dI cs ty L H.size F_49 g3 υ r3 n3 hW hL_g3 hT_g3) ⟨callB_of 0 hts (gi kt_32) rfl rfl rfl (hts _ kt_1) (hts _ kt_299) (by decide +kernel) ⟨Nat.le_of_ble_eq_true rfl, Nat.le_of_ble_eq_true rfl⟩, (hts _ kt_34), (hts _ kt_35)⟩ ⟨fun a U g mk q => ⟨q.1, PT.calling q.2⟩, pg_recv hK hP hL_g3 hF_55 (q := (RX0, TX0, 3)) rfl, fun U hU hWm => ⟨rfl, PT.mk hU hWm hP hK hD hE hO⟩⟩ rfl rfl hl.1 rfl (lv_room (Nat.le_of_ble_eq_true rfl)) dX6_of_115 ⟨by show _ + 0 ≤ 0; omega, by show _ + 0 ≤ 0; omega⟩) hS (fun q _ h => hFc q h) hFc (fun u t H1 locs ht hvm hw hB hz1 hk1 hS => ?_)
      obtain ⟨F_59, hB1, hq_60⟩ := hB
      obtain ⟨hP, hD, hO, hR⟩ := QT.back hB1 ht hFc hR (fun q h => by simp only [List.mem_cons, List.not_mem_nil, or_false] at h ⊢; omega)
      generalize H1 = H at hP hS ⊢
      refine lv_bipush (v := 15) hx hb dX6_of_118 (by decide) ?_
      refine lv_istore (lv' := [(4, .int 15), (0, .ref h0), (1, .ref g1), (2, .ref g2), (3, .ref g3)]) hx hb dX6_of_120 hl (by decide) rfl (fun ls hl => ?_)
      refine lv_iload hx hb dX6_of_122 (lv_at hl 0 rfl) ?_
      refine lv_if_lt (tgt := 145) hx hb dX6_of_124 (by decide) (fun c_61 => absurd c_61 (by decide)) (fun c_61 => ?_)
      refine lv_aload_n hx hb dX6_of_127 rfl (lv_at hl 4 rfl) ?_
      refine lv_aload_n hx hb dX6_of_128 rfl (lv_at hl 1 rfl) ?_
      obtain ⟨v_62, hF_63⟩ := hO.power hL_h0 hT_h0
      refine pg_get (ci := 6) (v := .ref pv) (C := RX6) (T := TX6) (N := 5) hx hb hts it_6 hown hK hP hL_h0 hF_63 rfl 2 (by decide) (hts _ kt_271) (fun _ h9 => h9) rfl dX6_of_129 ?_
      refine lv_iload hx hb dX6_of_132 (lv_at hl 0 rfl) ?_
      obtain ⟨f_64, hF_65⟩ := hO.longs hi_3 ht_7
      refine pg_lald hx hb hK hP hi_3 3 hF_65 rfl (show vp_in (15 : Int32) 16 from (show vp_in (nI 15) 16 from vp_in_nI (by omega) (by omega))) dX6_of_134 ?_
      refine lv_topl (fun x_66 _ => ?_)
      refine lv_l2i hx hb dX6_of_135 rfl ?_
      refine lv_topi (fun x_67 _ => ?_)
      have hFc := pg_free hD hS hA
      refine va_callv (va_runV (As := [.int x_67]) (rest := []) ⟨hx, hb, hml, hown, hts⟩ (s_X0_addFour l dC dI cs ty L H.size F_59 g3 υ r3 n3 x_67 hW hL_g3 hT_g3) ⟨callB_of 1 hts (gi kt_257) rfl rfl rfl (hts _ kt_1) (hts _ kt_300) (by decide +kernel) ⟨Nat.le_of_ble_eq_true rfl, Nat.le_of_ble_eq_true rfl⟩, (hts _ kt_259), (hts _ kt_260)⟩ ⟨fun a U g mk q => ⟨q.1, PT.calling q.2⟩, pg_recv hK hP hL_g3 hq_60 (q := (RX0, TX0, 3)) rfl, fun U hU hWm => ⟨rfl, PT.mk hU hWm hP hK hD hE hO⟩⟩ rfl rfl hl.1 rfl (lv_room (Nat.le_of_ble_eq_true rfl)) dX6_of_136 ⟨by show _ + 0 ≤ 0; omega, by show _ + 0 ≤ 0; omega⟩) hS (fun q _ h => hFc q h) hFc (fun u t H1 locs ht hvm hw hB hz1 hk1 hS => ?_)
      obtain ⟨F_69, hB1⟩ := hB
      obtain ⟨hP, hD, hO, hR⟩ := QT.back hB1 ht hFc hR (fun q h => by simp only [List.mem_cons, List.not_mem_nil, or_false] at h ⊢; omega)
      generalize H1 = H at hP hS ⊢
      refine lv_iinc (v := 14) (lv' := [(4, .int 14), (0, .ref h0), (1, .ref g1), (2, .ref g2), (3, .ref g3)]) hx hb dX6_of_139 hl (k := 0) rfl (by decide) (by decide) rfl (fun ls hl => ?_)
      refine lv_goto (tgt := 122) hx hb dX6_of_142 (by decide) ?_
      refine lv_iload hx hb dX6_of_122 (lv_at hl 0 rfl) ?_
      refine lv_if_lt (tgt := 145) hx hb dX6_of_124 (by decide) (fun c_70 => absurd c_70 (by decide)) (fun c_70 => ?_)
      refine lv_aload_n hx hb dX6_of_127 rfl (lv_at hl 4 rfl) ?_
      refine lv_aload_n hx hb dX6_of_128 rfl (lv_at hl 1 rfl) ?_
      obtain ⟨v_71, hF_72⟩ := hO.power hL_h0 hT_h0
      refine pg_get (ci := 6) (v := .ref pv) (C := RX6) (T := TX6) (N := 5) hx hb hts it_6 hown hK hP hL_h0 hF_72 rfl 2 (by decide) (hts _ kt_271) (fun _ h9 => h9) rfl dX6_of_129 ?_
      refine lv_iload hx hb dX6_of_132 (lv_at hl 0 rfl) ?_
      obtain ⟨f_73, hF_74⟩ := hO.longs hi_3 ht_7
      refine pg_lald hx hb hK hP hi_3 3 hF_74 rfl (show vp_in (14 : Int32) 16 from (show vp_in (nI 14) 16 from vp_in_nI (by omega) (by omega))) dX6_of_134 ?_
      refine lv_topl (fun x_75 _ => ?_)
      refine lv_l2i hx hb dX6_of_135 rfl ?_
      refine lv_topi (fun x_76 _ => ?_)
      have hFc := pg_free hD hS hA
      obtain ⟨z_77, o_78, hF_79, hq_80, hq_81⟩ := hO.bytes hL_g3 hT_g3
      refine va_callv (va_runV (As := [.int x_76]) (rest := []) ⟨hx, hb, hml, hown, hts⟩ (s_X0_addFour l dC dI cs ty L H.size F_69 g3 υ r3 n3 x_76 hW hL_g3 hT_g3) ⟨callB_of 1 hts (gi kt_257) rfl rfl rfl (hts _ kt_1) (hts _ kt_300) (by decide +kernel) ⟨Nat.le_of_ble_eq_true rfl, Nat.le_of_ble_eq_true rfl⟩, (hts _ kt_259), (hts _ kt_260)⟩ ⟨fun a U g mk q => ⟨q.1, PT.calling q.2⟩, pg_recv hK hP hL_g3 hF_79 (q := (RX0, TX0, 3)) rfl, fun U hU hWm => ⟨rfl, PT.mk hU hWm hP hK hD hE hO⟩⟩ rfl rfl hl.1 rfl (lv_room (Nat.le_of_ble_eq_true rfl)) dX6_of_136 ⟨by show _ + 0 ≤ 0; omega, by show _ + 0 ≤ 0; omega⟩) hS (fun q _ h => hFc q h) hFc (fun u t H1 locs ht hvm hw hB hz1 hk1 hS => ?_)
      obtain ⟨F_83, hB1⟩ := hB
      obtain ⟨hP, hD, hO, hR⟩ := QT.back hB1 ht hFc hR (fun q h => by simp only [List.mem_cons, List.not_mem_nil, or_false] at h ⊢; omega)
      generalize H1 = H at hP hS ⊢
      refine lv_iinc (v := 13) (lv' := [(4, .int 13), (0, .ref h0), (1, .ref g1), (2, .ref g2), (3, .ref g3)]) hx hb dX6_of_139 hl (k := 0) rfl (by decide) (by decide) rfl (fun ls hl => ?_)
      refine lv_goto (tgt := 122) hx hb dX6_of_142 (by decide) ?_
      refine lv_iload hx hb dX6_of_122 (lv_at hl 0 rfl) ?_
      refine lv_if_lt (tgt := 145) hx hb dX6_of_124 (by decide) (fun c_84 => absurd c_84 (by decide)) (fun c_84 => ?_)
      refine lv_aload_n hx hb dX6_of_127 rfl (lv_at hl 4 rfl) ?_
      refine lv_aload_n hx hb dX6_of_128 rfl (lv_at hl 1 rfl) ?_
      obtain ⟨v_85, hF_86⟩ := hO.power hL_h0 hT_h0
      refine pg_get (ci := 6) (v := .ref pv) (C := RX6) (T := TX6) (N := 5) hx hb hts it_6 hown hK hP hL_h0 hF_86 rfl 2 (by decide) (hts _ kt_271) (fun _ h9 => h9) rfl dX6_of_129 ?_
      refine lv_iload hx hb dX6_of_132 (lv_at hl 0 rfl) ?_
      obtain ⟨f_87, hF_88⟩ := hO.longs hi_3 ht_7
      refine pg_lald hx hb hK hP hi_3 3 hF_88 rfl (show vp_in (13 : Int32) 16 from (show vp_in (nI 13) 16 from vp_in_nI (by omega) (by omega))) dX6_of_134 ?_
      refine lv_topl (fun x_89 _ => ?_)
      refine lv_l2i hx hb dX6_of_135 rfl ?_
      refine lv_topi (fun x_90 _ => ?_)
      have hFc := pg_free hD hS hA
      obtain ⟨z_91, o_92, hF_93, hq_94, hq_95⟩ := hO.bytes hL_g3 hT_g3
      refine va_callv (va_runV (As := [.int x_90]) (rest := []) ⟨hx, hb, hml, hown, hts⟩ (s_X0_addFour l dC dI cs ty L H.size F_83 g3 υ r3 n3 x_90 hW hL_g3 hT_g3) ⟨callB_of 1 hts (gi kt_257) rfl rfl rfl (hts _ kt_1) (hts _ kt_300) (by decide +kernel) ⟨Nat.le_of_ble_eq_true rfl, Nat.le_of_ble_eq_true rfl⟩, (hts _ kt_259), (hts _ kt_260)⟩ ⟨fun a U g mk q => ⟨q.1, PT.calling q.2⟩, pg_recv hK hP hL_g3 hF_93 (q := (RX0, TX0, 3)) rfl, fun U hU hWm => ⟨rfl, PT.mk hU hWm hP hK hD hE hO⟩⟩ rfl rfl hl.1 rfl (lv_room (Nat.le_of_ble_eq_true rfl)) dX6_of_136 ⟨by show _ + 0 ≤ 0; omega, by show _ + 0 ≤ 0; omega⟩) hS (fun q _ h => hFc q h) hFc (fun u t H1 locs ht hvm hw hB hz1 hk1 hS => ?_)
      obtain ⟨F_97, hB1⟩ := hB
      obtain ⟨hP, hD, hO, hR⟩ := QT.back hB1 ht hFc hR (fun q h => by simp only [List.mem_cons, List.not_mem_nil, or_false] at h ⊢; omega)
      generalize H1 = H at hP hS ⊢
      refine lv_iinc (v := 12) (lv' := [(4, .int 12), (0, .ref h0), (1, .ref g1), (2, .ref g2), (3, .ref g3)]) hx hb dX6_of_139 hl (k := 0) rfl (by decide) (by decide) rfl (fun ls hl => ?_)
      refine lv_goto (tgt := 122) hx hb dX6_of_142 (by decide) ?_
      refine lv_iload hx hb dX6_of_122 (lv_at hl 0 rfl) ?_
      refine lv_if_lt (tgt := 145) hx hb dX6_of_124 (by decide) (fun c_98 => absurd c_98 (by decide)) (fun c_98 => ?_)
      refine lv_aload_n hx hb dX6_of_127 rfl (lv_at hl 4 rfl) ?_
      refine lv_aload_n hx hb dX6_of_128 rfl (lv_at hl 1 rfl) ?_
      obtain ⟨v_99, hF_100⟩ := hO.power hL_h0 hT_h0
      refine pg_get (ci := 6) (v := .ref pv) (C := RX6) (T := TX6) (N := 5) hx hb hts it_6 hown hK hP hL_h0 hF_100 rfl 2 (by decide) (hts _ kt_271) (fun _ h9 => h9) rfl dX6_of_129 ?_
      refine lv_iload hx hb dX6_of_132 (lv_at hl 0 rfl) ?_
      obtain ⟨f_101, hF_102⟩ := hO.longs hi_3 ht_7
      refine pg_lald hx hb hK hP hi_3 3 hF_102 rfl (show vp_in (12 : Int32) 16 from (show vp_in (nI 12) 16 from vp_in_nI (by omega) (by omega))) dX6_of_134 ?_
      refine lv_topl (fun x_103 _ => ?_)
      refine lv_l2i hx hb dX6_of_135 rfl ?_
      refine lv_topi (fun x_104 _ => ?_)
      have hFc := pg_free hD hS hA
      obtain ⟨z_105, o_106, hF_107, hq_108, hq_109⟩ := hO.bytes hL_g3 hT_g3
      refine va_callv (va_runV (As := [.int x_104]) (rest := []) ⟨hx, hb, hml, hown, hts⟩ (s_X0_addFour l dC dI cs ty L H.size F_97 g3 υ r3 n3 x_104 hW hL_g3 hT_g3) ⟨callB_of 1 hts (gi kt_257) rfl rfl rfl (hts _ kt_1) (hts _ kt_300) (by decide +kernel) ⟨Nat.le_of_ble_eq_true rfl, Nat.le_of_ble_eq_true rfl⟩, (hts _ kt_259), (hts _ kt_260)⟩ ⟨fun a U g mk q => ⟨q.1, PT.calling q.2⟩, pg_recv hK hP hL_g3 hF_107 (q := (RX0, TX0, 3)) rfl, fun U hU hWm => ⟨rfl, PT.mk hU hWm hP hK hD hE hO⟩⟩ rfl rfl hl.1 rfl (lv_room (Nat.le_of_ble_eq_true rfl)) dX6_of_136 ⟨by show _ + 0 ≤ 0; omega, by show _ + 0 ≤ 0; omega⟩) hS (fun q _ h => hFc q h) hFc (fun u t H1 locs ht hvm hw hB hz1 hk1 hS => ?_)
      obtain ⟨F_111, hB1⟩ := hB
      obtain ⟨hP, hD, hO, hR⟩ := QT.back hB1 ht hFc hR (fun q h => by simp only [List.mem_cons, List.not_mem_nil, or_false] at h ⊢; omega)
      generalize H1 = H at hP hS ⊢
      refine lv_iinc (v := 11) (lv' := [(4, .int 11), (0, .ref h0), (1, .ref g1), (2, .ref g2), (3, .ref g3)]) hx hb dX6_of_139 hl (k := 0) rfl (by decide) (by decide) rfl (fun ls hl => ?_)
      refine lv_goto (tgt := 122) hx hb dX6_of_142 (by decide) ?_
      refine lv_iload hx hb dX6_of_122 (lv_at hl 0 rfl) ?_
      refine lv_if_lt (tgt := 145) hx hb dX6_of_124 (by decide) (fun c_112 => absurd c_112 (by decide)) (fun c_112 => ?_)
      refine lv_aload_n hx hb dX6_of_127 rfl (lv_at hl 4 rfl) ?_
      refine lv_aload_n hx hb dX6_of_128 rfl (lv_at hl 1 rfl) ?_
      obtain ⟨v_113, hF_114⟩ := hO.power hL_h0 hT_h0
      refine pg_get (ci := 6) (v := .ref pv) (C := RX6) (T := TX6) (N := 5) hx hb hts it_6 hown hK hP hL_h0 hF_114 rfl 2 (by decide) (hts _ kt_271) (fun _ h9 => h9) rfl dX6_of_129 ?_
      refine lv_iload hx hb dX6_of_132 (lv_at hl 0 rfl) ?_
      obtain ⟨f_115, hF_116⟩ := hO.longs hi_3 ht_7
      refine pg_lald hx hb hK hP hi_3 3 hF_116 rfl (show vp_in (11 : Int32) 16 from (show vp_in (nI 11) 16 from vp_in_nI (by omega) (by omega))) dX6_of_134 ?_
      refine lv_topl (fun x_117 _ => ?_)
      refine lv_l2i hx hb dX6_of_135 rfl ?_
      refine lv_topi (fun x_118 _ => ?_)
      have hFc := pg_free hD hS hA
      obtain ⟨z_119, o_120, hF_121, hq_122, hq_123⟩ := hO.bytes hL_g3 hT_g3
      refine va_callv (va_runV (As := [.int x_118]) (rest := []) ⟨hx, hb, hml, hown, hts⟩ (s_X0_addFour l dC dI cs ty L H.size F_111 g3 υ r3 n3 x_118 hW hL_g3 hT_g3) ⟨callB_of 1 hts (gi kt_257) rfl rfl rfl (hts _ kt_1) (hts _ kt_300) (by decide +kernel) ⟨Nat.le_of_ble_eq_true rfl, Nat.le_of_ble_eq_true rfl⟩, (hts _ kt_259), (hts _ kt_260)⟩ ⟨fun a U g mk q => ⟨q.1, PT.calling q.2⟩, pg_recv hK hP hL_g3 hF_121 (q := (RX0, TX0, 3)) rfl, fun U hU hWm => ⟨rfl, PT.mk hU hWm hP hK hD hE hO⟩⟩ rfl rfl hl.1 rfl (lv_room (Nat.le_of_ble_eq_true rfl)) dX6_of_136 ⟨by show _ + 0 ≤ 0; omega, by show _ + 0 ≤ 0; omega⟩) hS (fun q _ h => hFc q h) hFc (fun u t H1 locs ht hvm hw hB hz1 hk1 hS => ?_)
      obtain ⟨F_125, hB1⟩ := hB
      obtain ⟨hP, hD, hO, hR⟩ := QT.back hB1 ht hFc hR (fun q h => by simp only [List.mem_cons, List.not_mem_nil, or_false] at h ⊢; omega)
      generalize H1 = H at hP hS ⊢
      refine lv_iinc (v := 10) (lv' := [(4, .int 10), (0, .ref h0), (1, .ref g1), (2, .ref g2), (3, .ref g3)]) hx hb dX6_of_139 hl (k := 0) rfl (by decide) (by decide) rfl (fun ls hl => ?_)
      refine lv_goto (tgt := 122) hx hb dX6_of_142 (by decide) ?_
      refine lv_iload hx hb dX6_of_122 (lv_at hl 0 rfl) ?_
      refine lv_if_lt (tgt := 145) hx hb dX6_of_124 (by decide) (fun c_126 => absurd c_126 (by decide)) (fun c_126 => ?_)
      refine lv_aload_n hx hb dX6_of_127 rfl (lv_at hl 4 rfl) ?_
      refine lv_aload_n hx hb dX6_of_128 rfl (lv_at hl 1 rfl) ?_
      obtain ⟨v_127, hF_128⟩ := hO.power hL_h0 hT_h0
      refine pg_get (ci := 6) (v := .ref pv) (C := RX6) (T := TX6) (N := 5) hx hb hts it_6 hown hK hP hL_h0 hF_128 rfl 2 (by decide) (hts _ kt_271) (fun _ h9 => h9) rfl dX6_of_129 ?_
      refine lv_iload hx hb dX6_of_132 (lv_at hl 0 rfl) ?_
      obtain ⟨f_129, hF_130⟩ := hO.longs hi_3 ht_7
      refine pg_lald hx hb hK hP hi_3 3 hF_130 rfl (show vp_in (10 : Int32) 16 from (show vp_in (nI 10) 16 from vp_in_nI (by omega) (by omega))) dX6_of_134 ?_
      refine lv_topl (fun x_131 _ => ?_)
      refine lv_l2i hx hb dX6_of_135 rfl ?_
      refine lv_topi (fun x_132 _ => ?_)
      have hFc := pg_free hD hS hA
      obtain ⟨z_133, o_134, hF_135, hq_136, hq_137⟩ := hO.bytes hL_g3 hT_g3
      refine va_callv (va_runV (As := [.int x_132]) (rest := []) ⟨hx, hb, hml, hown, hts⟩ (s_X0_addFour l dC dI cs ty L H.size F_125 g3 υ r3 n3 x_132 hW hL_g3 hT_g3) ⟨callB_of 1 hts (gi kt_257) rfl rfl rfl (hts _ kt_1) (hts _ kt_300) (by decide +kernel) ⟨Nat.le_of_ble_eq_true rfl, Nat.le_of_ble_eq_true rfl⟩, (hts _ kt_259), (hts _ kt_260)⟩ ⟨fun a U g mk q => ⟨q.1, PT.calling q.2⟩, pg_recv hK hP hL_g3 hF_135 (q := (RX0, TX0, 3)) rfl, fun U hU hWm => ⟨rfl, PT.mk hU hWm hP hK hD hE hO⟩⟩ rfl rfl hl.1 rfl (lv_room (Nat.le_of_ble_eq_true rfl)) dX6_of_136 ⟨by show _ + 0 ≤ 0; omega, by show _ + 0 ≤ 0; omega⟩) hS (fun q _ h => hFc q h) hFc (fun u t H1 locs ht hvm hw hB hz1 hk1 hS => ?_)
      obtain ⟨F_139, hB1⟩ := hB
      obtain ⟨hP, hD, hO, hR⟩ := QT.back hB1 ht hFc hR (fun q h => by simp only [List.mem_cons, List.not_mem_nil, or_false] at h ⊢; omega)
      generalize H1 = H at hP hS ⊢
      refine lv_iinc (v := 9) (lv' := [(4, .int 9), (0, .ref h0), (1, .ref g1), (2, .ref g2), (3, .ref g3)]) hx hb dX6_of_139 hl (k := 0) rfl (by decide) (by decide) rfl (fun ls hl => ?_)
      refine lv_goto (tgt := 122) hx hb dX6_of_142 (by decide) ?_
      refine lv_iload hx hb dX6_of_122 (lv_at hl 0 rfl) ?_
      refine lv_if_lt (tgt := 145) hx hb dX6_of_124 (by decide) (fun c_140 => absurd c_140 (by decide)) (fun c_140 => ?_)
      refine lv_aload_n hx hb dX6_of_127 rfl (lv_at hl 4 rfl) ?_
      refine lv_aload_n hx hb dX6_of_128 rfl (lv_at hl 1 rfl) ?_
      obtain ⟨v_141, hF_142⟩ := hO.power hL_h0 hT_h0
      refine pg_get (ci := 6) (v := .ref pv) (C := RX6) (T := TX6) (N := 5) hx hb hts it_6 hown hK hP hL_h0 hF_142 rfl 2 (by decide) (hts _ kt_271) (fun _ h9 => h9) rfl dX6_of_129 ?_
      refine lv_iload hx hb dX6_of_132 (lv_at hl 0 rfl) ?_
      obtain ⟨f_143, hF_144⟩ := hO.longs hi_3 ht_7
      refine pg_lald hx hb hK hP hi_3 3 hF_144 rfl (show vp_in (9 : Int32) 16 from (show vp_in (nI 9) 16 from vp_in_nI (by omega) (by omega))) dX6_of_134 ?_
      refine lv_topl (fun x_145 _ => ?_)
      refine lv_l2i hx hb dX6_of_135 rfl ?_
      refine lv_topi (fun x_146 _ => ?_)
      have hFc := pg_free hD hS hA
      obtain ⟨z_147, o_148, hF_149, hq_150, hq_151⟩ := hO.bytes hL_g3 hT_g3
      refine va_callv (va_runV (As := [.int x_146]) (rest := []) ⟨hx, hb, hml, hown, hts⟩ (s_X0_addFour l dC dI cs ty L H.size F_139 g3 υ r3 n3 x_146 hW hL_g3 hT_g3) ⟨callB_of 1 hts (gi kt_257) rfl rfl rfl (hts _ kt_1) (hts _ kt_300) (by decide +kernel) ⟨Nat.le_of_ble_eq_true rfl, Nat.le_of_ble_eq_true rfl⟩, (hts _ kt_259), (hts _ kt_260)⟩ ⟨fun a U g mk q => ⟨q.1, PT.calling q.2⟩, pg_recv hK hP hL_g3 hF_149 (q := (RX0, TX0, 3)) rfl, fun U hU hWm => ⟨rfl, PT.mk hU hWm hP hK hD hE hO⟩⟩ rfl rfl hl.1 rfl (lv_room (Nat.le_of_ble_eq_true rfl)) dX6_of_136 ⟨by show _ + 0 ≤ 0; omega, by show _ + 0 ≤ 0; omega⟩) hS (fun q _ h => hFc q h) hFc (fun u t H1 locs ht hvm hw hB hz1 hk1 hS => ?_)
      obtain ⟨F_153, hB1⟩ := hB
      obtain ⟨hP, hD, hO, hR⟩ := QT.back hB1 ht hFc hR (fun q h => by simp only [List.mem_cons, List.not_mem_nil, or_false] at h ⊢; omega)
      generalize H1 = H at hP hS ⊢
      refine lv_iinc (v := 8) (lv' := [(4, .int 8), (0, .ref h0), (1, .ref g1), (2, .ref g2), (3, .ref g3)]) hx hb dX6_of_139 hl (k := 0) rfl (by decide) (by decide) rfl (fun ls hl => ?_)
      refine lv_goto (tgt := 122) hx hb dX6_of_142 (by decide) ?_
      refine lv_iload hx hb dX6_of_122 (lv_at hl 0 rfl) ?_
      refine lv_if_lt (tgt := 145) hx hb dX6_of_124 (by decide) (fun c_154 => absurd c_154 (by decide)) (fun c_154 => ?_)
      refine lv_aload_n hx hb dX6_of_127 rfl (lv_at hl 4 rfl) ?_
      refine lv_aload_n hx hb dX6_of_128 rfl (lv_at hl 1 rfl) ?_
      obtain ⟨v_155, hF_156⟩ := hO.power hL_h0 hT_h0
      refine pg_get (ci := 6) (v := .ref pv) (C := RX6) (T := TX6) (N := 5) hx hb hts it_6 hown hK hP hL_h0 hF_156 rfl 2 (by decide) (hts _ kt_271) (fun _ h9 => h9) rfl dX6_of_129 ?_
      refine lv_iload hx hb dX6_of_132 (lv_at hl 0 rfl) ?_
      obtain ⟨f_157, hF_158⟩ := hO.longs hi_3 ht_7
      refine pg_lald hx hb hK hP hi_3 3 hF_158 rfl (show vp_in (8 : Int32) 16 from (show vp_in (nI 8) 16 from vp_in_nI (by omega) (by omega))) dX6_of_134 ?_
      refine lv_topl (fun x_159 _ => ?_)
      refine lv_l2i hx hb dX6_of_135 rfl ?_
      refine lv_topi (fun x_160 _ => ?_)
      have hFc := pg_free hD hS hA
      obtain ⟨z_161, o_162, hF_163, hq_164, hq_165⟩ := hO.bytes hL_g3 hT_g3
      refine va_callv (va_runV (As := [.int x_160]) (rest := []) ⟨hx, hb, hml, hown, hts⟩ (s_X0_addFour l dC dI cs ty L H.size F_153 g3 υ r3 n3 x_160 hW hL_g3 hT_g3) ⟨callB_of 1 hts (gi kt_257) rfl rfl rfl (hts _ kt_1) (hts _ kt_300) (by decide +kernel) ⟨Nat.le_of_ble_eq_true rfl, Nat.le_of_ble_eq_true rfl⟩, (hts _ kt_259), (hts _ kt_260)⟩ ⟨fun a U g mk q => ⟨q.1, PT.calling q.2⟩, pg_recv hK hP hL_g3 hF_163 (q := (RX0, TX0, 3)) rfl, fun U hU hWm => ⟨rfl, PT.mk hU hWm hP hK hD hE hO⟩⟩ rfl rfl hl.1 rfl (lv_room (Nat.le_of_ble_eq_true rfl)) dX6_of_136 ⟨by show _ + 0 ≤ 0; omega, by show _ + 0 ≤ 0; omega⟩) hS (fun q _ h => hFc q h) hFc (fun u t H1 locs ht hvm hw hB hz1 hk1 hS => ?_)
      obtain ⟨F_167, hB1⟩ := hB
      obtain ⟨hP, hD, hO, hR⟩ := QT.back hB1 ht hFc hR (fun q h => by simp only [List.mem_cons, List.not_mem_nil, or_false] at h ⊢; omega)
      generalize H1 = H at hP hS ⊢
      refine lv_iinc (v := 7) (lv' := [(4, .int 7), (0, .ref h0), (1, .ref g1), (2, .ref g2), (3, .ref g3)]) hx hb dX6_of_139 hl (k := 0) rfl (by decide) (by decide) rfl (fun ls hl => ?_)
      refine lv_goto (tgt := 122) hx hb dX6_of_142 (by decide) ?_
      refine lv_iload hx hb dX6_of_122 (lv_at hl 0 rfl) ?_
      refine lv_if_lt (tgt := 145) hx hb dX6_of_124 (by decide) (fun c_168 => absurd c_168 (by decide)) (fun c_168 => ?_)
      refine lv_aload_n hx hb dX6_of_127 rfl (lv_at hl 4 rfl) ?_
      refine lv_aload_n hx hb dX6_of_128 rfl (lv_at hl 1 rfl) ?_
      obtain ⟨v_169, hF_170⟩ := hO.power hL_h0 hT_h0
      refine pg_get (ci := 6) (v := .ref pv) (C := RX6) (T := TX6) (N := 5) hx hb hts it_6 hown hK hP hL_h0 hF_170 rfl 2 (by decide) (hts _ kt_271) (fun _ h9 => h9) rfl dX6_of_129 ?_
      refine lv_iload hx hb dX6_of_132 (lv_at hl 0 rfl) ?_
      obtain ⟨f_171, hF_172⟩ := hO.longs hi_3 ht_7
      refine pg_lald hx hb hK hP hi_3 3 hF_172 rfl (show vp_in (7 : Int32) 16 from (show vp_in (nI 7) 16 from vp_in_nI (by omega) (by omega))) dX6_of_134 ?_
      refine lv_topl (fun x_173 _ => ?_)
      refine lv_l2i hx hb dX6_of_135 rfl ?_
      refine lv_topi (fun x_174 _ => ?_)
      have hFc := pg_free hD hS hA
      obtain ⟨z_175, o_176, hF_177, hq_178, hq_179⟩ := hO.bytes hL_g3 hT_g3
      refine va_callv (va_runV (As := [.int x_174]) (rest := []) ⟨hx, hb, hml, hown, hts⟩ (s_X0_addFour l dC dI cs ty L H.size F_167 g3 υ r3 n3 x_174 hW hL_g3 hT_g3) ⟨callB_of 1 hts (gi kt_257) rfl rfl rfl (hts _ kt_1) (hts _ kt_300) (by decide +kernel) ⟨Nat.le_of_ble_eq_true rfl, Nat.le_of_ble_eq_true rfl⟩, (hts _ kt_259), (hts _ kt_260)⟩ ⟨fun a U g mk q => ⟨q.1, PT.calling q.2⟩, pg_recv hK hP hL_g3 hF_177 (q := (RX0, TX0, 3)) rfl, fun U hU hWm => ⟨rfl, PT.mk hU hWm hP hK hD hE hO⟩⟩ rfl rfl hl.1 rfl (lv_room (Nat.le_of_ble_eq_true rfl)) dX6_of_136 ⟨by show _ + 0 ≤ 0; omega, by show _ + 0 ≤ 0; omega⟩) hS (fun q _ h => hFc q h) hFc (fun u t H1 locs ht hvm hw hB hz1 hk1 hS => ?_)
      obtain ⟨F_181, hB1⟩ := hB
      obtain ⟨hP, hD, hO, hR⟩ := QT.back hB1 ht hFc hR (fun q h => by simp only [List.mem_cons, List.not_mem_nil, or_false] at h ⊢; omega)
      generalize H1 = H at hP hS ⊢
      refine lv_iinc (v := 6) (lv' := [(4, .int 6), (0, .ref h0), (1, .ref g1), (2, .ref g2), (3, .ref g3)]) hx hb dX6_of_139 hl (k := 0) rfl (by decide) (by decide) rfl (fun ls hl => ?_)
      refine lv_goto (tgt := 122) hx hb dX6_of_142 (by decide) ?_
      refine lv_iload hx hb dX6_of_122 (lv_at hl 0 rfl) ?_
      refine lv_if_lt (tgt := 145) hx hb dX6_of_124 (by decide) (fun c_182 => absurd c_182 (by decide)) (fun c_182 => ?_)
      refine lv_aload_n hx hb dX6_of_127 rfl (lv_at hl 4 rfl) ?_
      refine lv_aload_n hx hb dX6_of_128 rfl (lv_at hl 1 rfl) ?_
      obtain ⟨v_183, hF_184⟩ := hO.power hL_h0 hT_h0
      refine pg_get (ci := 6) (v := .ref pv) (C := RX6) (T := TX6) (N := 5) hx hb hts it_6 hown hK hP hL_h0 hF_184 rfl 2 (by decide) (hts _ kt_271) (fun _ h9 => h9) rfl dX6_of_129 ?_
      refine lv_iload hx hb dX6_of_132 (lv_at hl 0 rfl) ?_
      obtain ⟨f_185, hF_186⟩ := hO.longs hi_3 ht_7
      refine pg_lald hx hb hK hP hi_3 3 hF_186 rfl (show vp_in (6 : Int32) 16 from (show vp_in (nI 6) 16 from vp_in_nI (by omega) (by omega))) dX6_of_134 ?_
      refine lv_topl (fun x_187 _ => ?_)
      refine lv_l2i hx hb dX6_of_135 rfl ?_
      refine lv_topi (fun x_188 _ => ?_)
      have hFc := pg_free hD hS hA
      obtain ⟨z_189, o_190, hF_191, hq_192, hq_193⟩ := hO.bytes hL_g3 hT_g3
      refine va_callv (va_runV (As := [.int x_188]) (rest := []) ⟨hx, hb, hml, hown, hts⟩ (s_X0_addFour l dC dI cs ty L H.size F_181 g3 υ r3 n3 x_188 hW hL_g3 hT_g3) ⟨callB_of 1 hts (gi kt_257) rfl rfl rfl (hts _ kt_1) (hts _ kt_300) (by decide +kernel) ⟨Nat.le_of_ble_eq_true rfl, Nat.le_of_ble_eq_true rfl⟩, (hts _ kt_259), (hts _ kt_260)⟩ ⟨fun a U g mk q => ⟨q.1, PT.calling q.2⟩, pg_recv hK hP hL_g3 hF_191 (q := (RX0, TX0, 3)) rfl, fun U hU hWm => ⟨rfl, PT.mk hU hWm hP hK hD hE hO⟩⟩ rfl rfl hl.1 rfl (lv_room (Nat.le_of_ble_eq_true rfl)) dX6_of_136 ⟨by show _ + 0 ≤ 0; omega, by show _ + 0 ≤ 0; omega⟩) hS (fun q _ h => hFc q h) hFc (fun u t H1 locs ht hvm hw hB hz1 hk1 hS => ?_)
      obtain ⟨F_195, hB1⟩ := hB
      obtain ⟨hP, hD, hO, hR⟩ := QT.back hB1 ht hFc hR (fun q h => by simp only [List.mem_cons, List.not_mem_nil, or_false] at h ⊢; omega)
      generalize H1 = H at hP hS ⊢
      refine lv_iinc (v := 5) (lv' := [(4, .int 5), (0, .ref h0), (1, .ref g1), (2, .ref g2), (3, .ref g3)]) hx hb dX6_of_139 hl (k := 0) rfl (by decide) (by decide) rfl (fun ls hl => ?_)
      refine lv_goto (tgt := 122) hx hb dX6_of_142 (by decide) ?_
      refine lv_iload hx hb dX6_of_122 (lv_at hl 0 rfl) ?_
      refine lv_if_lt (tgt := 145) hx hb dX6_of_124 (by decide) (fun c_196 => absurd c_196 (by decide)) (fun c_196 => ?_)
      refine lv_aload_n hx hb dX6_of_127 rfl (lv_at hl 4 rfl) ?_
      refine lv_aload_n hx hb dX6_of_128 rfl (lv_at hl 1 rfl) ?_
      obtain ⟨v_197, hF_198⟩ := hO.power hL_h0 hT_h0
      refine pg_get (ci := 6) (v := .ref pv) (C := RX6) (T := TX6) (N := 5) hx hb hts it_6 hown hK hP hL_h0 hF_198 rfl 2 (by decide) (hts _ kt_271) (fun _ h9 => h9) rfl dX6_of_129 ?_
      refine lv_iload hx hb dX6_of_132 (lv_at hl 0 rfl) ?_
      obtain ⟨f_199, hF_200⟩ := hO.longs hi_3 ht_7
      refine pg_lald hx hb hK hP hi_3 3 hF_200 rfl (show vp_in (5 : Int32) 16 from (show vp_in (nI 5) 16 from vp_in_nI (by omega) (by omega))) dX6_of_134 ?_
      refine lv_topl (fun x_201 _ => ?_)
      refine lv_l2i hx hb dX6_of_135 rfl ?_
      refine lv_topi (fun x_202 _ => ?_)
      have hFc := pg_free hD hS hA
      obtain ⟨z_203, o_204, hF_205, hq_206, hq_207⟩ := hO.bytes hL_g3 hT_g3
      refine va_callv (va_runV (As := [.int x_202]) (rest := []) ⟨hx, hb, hml, hown, hts⟩ (s_X0_addFour l dC dI cs ty L H.size F_195 g3 υ r3 n3 x_202 hW hL_g3 hT_g3) ⟨callB_of 1 hts (gi kt_257) rfl rfl rfl (hts _ kt_1) (hts _ kt_300) (by decide +kernel) ⟨Nat.le_of_ble_eq_true rfl, Nat.le_of_ble_eq_true rfl⟩, (hts _ kt_259), (hts _ kt_260)⟩ ⟨fun a U g mk q => ⟨q.1, PT.calling q.2⟩, pg_recv hK hP hL_g3 hF_205 (q := (RX0, TX0, 3)) rfl, fun U hU hWm => ⟨rfl, PT.mk hU hWm hP hK hD hE hO⟩⟩ rfl rfl hl.1 rfl (lv_room (Nat.le_of_ble_eq_true rfl)) dX6_of_136 ⟨by show _ + 0 ≤ 0; omega, by show _ + 0 ≤ 0; omega⟩) hS (fun q _ h => hFc q h) hFc (fun u t H1 locs ht hvm hw hB hz1 hk1 hS => ?_)
      obtain ⟨F_209, hB1⟩ := hB
      obtain ⟨hP, hD, hO, hR⟩ := QT.back hB1 ht hFc hR (fun q h => by simp only [List.mem_cons, List.not_mem_nil, or_false] at h ⊢; omega)
      generalize H1 = H at hP hS ⊢
      refine lv_iinc (v := 4) (lv' := [(4, .int 4), (0, .ref h0), (1, .ref g1), (2, .ref g2), (3, .ref g3)]) hx hb dX6_of_139 hl (k := 0) rfl (by decide) (by decide) rfl (fun ls hl => ?_)
      refine lv_goto (tgt := 122) hx hb dX6_of_142 (by decide) ?_
      refine lv_iload hx hb dX6_of_122 (lv_at hl 0 rfl) ?_
      refine lv_if_lt (tgt := 145) hx hb dX6_of_124 (by decide) (fun c_210 => absurd c_210 (by decide)) (fun c_210 => ?_)
      refine lv_aload_n hx hb dX6_of_127 rfl (lv_at hl 4 rfl) ?_
      refine lv_aload_n hx hb dX6_of_128 rfl (lv_at hl 1 rfl) ?_
      obtain ⟨v_211, hF_212⟩ := hO.power hL_h0 hT_h0
      refine pg_get (ci := 6) (v := .ref pv) (C := RX6) (T := TX6) (N := 5) hx hb hts it_6 hown hK hP hL_h0 hF_212 rfl 2 (by decide) (hts _ kt_271) (fun _ h9 => h9) rfl dX6_of_129 ?_
      refine lv_iload hx hb dX6_of_132 (lv_at hl 0 rfl) ?_
      obtain ⟨f_213, hF_214⟩ := hO.longs hi_3 ht_7
      refine pg_lald hx hb hK hP hi_3 3 hF_214 rfl (show vp_in (4 : Int32) 16 from (show vp_in (nI 4) 16 from vp_in_nI (by omega) (by omega))) dX6_of_134 ?_
      refine lv_topl (fun x_215 _ => ?_)
      refine lv_l2i hx hb dX6_of_135 rfl ?_
      refine lv_topi (fun x_216 _ => ?_)
      have hFc := pg_free hD hS hA
      obtain ⟨z_217, o_218, hF_219, hq_220, hq_221⟩ := hO.bytes hL_g3 hT_g3
      refine va_callv (va_runV (As := [.int x_216]) (rest := []) ⟨hx, hb, hml, hown, hts⟩ (s_X0_addFour l dC dI cs ty L H.size F_209 g3 υ r3 n3 x_216 hW hL_g3 hT_g3) ⟨callB_of 1 hts (gi kt_257) rfl rfl rfl (hts _ kt_1) (hts _ kt_300) (by decide +kernel) ⟨Nat.le_of_ble_eq_true rfl, Nat.le_of_ble_eq_true rfl⟩, (hts _ kt_259), (hts _ kt_260)⟩ ⟨fun a U g mk q => ⟨q.1, PT.calling q.2⟩, pg_recv hK hP hL_g3 hF_219 (q := (RX0, TX0, 3)) rfl, fun U hU hWm => ⟨rfl, PT.mk hU hWm hP hK hD hE hO⟩⟩ rfl rfl hl.1 rfl (lv_room (Nat.le_of_ble_eq_true rfl)) dX6_of_136 ⟨by show _ + 0 ≤ 0; omega, by show _ + 0 ≤ 0; omega⟩) hS (fun q _ h => hFc q h) hFc (fun u t H1 locs ht hvm hw hB hz1 hk1 hS => ?_)
      obtain ⟨F_223, hB1⟩ := hB
      obtain ⟨hP, hD, hO, hR⟩ := QT.back hB1 ht hFc hR (fun q h => by simp only [List.mem_cons, List.not_mem_nil, or_false] at h ⊢; omega)
      generalize H1 = H at hP hS ⊢
      refine lv_iinc (v := 3) (lv' := [(4, .int 3), (0, .ref h0), (1, .ref g1), (2, .ref g2), (3, .ref g3)]) hx hb dX6_of_139 hl (k := 0) rfl (by decide) (by decide) rfl (fun ls hl => ?_)
      refine lv_goto (tgt := 122) hx hb dX6_of_142 (by decide) ?_
      refine lv_iload hx hb dX6_of_122 (lv_at hl 0 rfl) ?_
      refine lv_if_lt (tgt := 145) hx hb dX6_of_124 (by decide) (fun c_224 => absurd c_224 (by decide)) (fun c_224 => ?_)
      refine lv_aload_n hx hb dX6_of_127 rfl (lv_at hl 4 rfl) ?_
      refine lv_aload_n hx hb dX6_of_128 rfl (lv_at hl 1 rfl) ?_
      obtain ⟨v_225, hF_226⟩ := hO.power hL_h0 hT_h0
      refine pg_get (ci := 6) (v := .ref pv) (C := RX6) (T := TX6) (N := 5) hx hb hts it_6 hown hK hP hL_h0 hF_226 rfl 2 (by decide) (hts _ kt_271) (fun _ h9 => h9) rfl dX6_of_129 ?_
      refine lv_iload hx hb dX6_of_132 (lv_at hl 0 rfl) ?_
      obtain ⟨f_227, hF_228⟩ := hO.longs hi_3 ht_7
      refine pg_lald hx hb hK hP hi_3 3 hF_228 rfl (show vp_in (3 : Int32) 16 from (show vp_in (nI 3) 16 from vp_in_nI (by omega) (by omega))) dX6_of_134 ?_
      refine lv_topl (fun x_229 _ => ?_)
      refine lv_l2i hx hb dX6_of_135 rfl ?_
      refine lv_topi (fun x_230 _ => ?_)
      have hFc := pg_free hD hS hA
      obtain ⟨z_231, o_232, hF_233, hq_234, hq_235⟩ := hO.bytes hL_g3 hT_g3
      refine va_callv (va_runV (As := [.int x_230]) (rest := []) ⟨hx, hb, hml, hown, hts⟩ (s_X0_addFour l dC dI cs ty L H.size F_223 g3 υ r3 n3 x_230 hW hL_g3 hT_g3) ⟨callB_of 1 hts (gi kt_257) rfl rfl rfl (hts _ kt_1) (hts _ kt_300) (by decide +kernel) ⟨Nat.le_of_ble_eq_true rfl, Nat.le_of_ble_eq_true rfl⟩, (hts _ kt_259), (hts _ kt_260)⟩ ⟨fun a U g mk q => ⟨q.1, PT.calling q.2⟩, pg_recv hK hP hL_g3 hF_233 (q := (RX0, TX0, 3)) rfl, fun U hU hWm => ⟨rfl, PT.mk hU hWm hP hK hD hE hO⟩⟩ rfl rfl hl.1 rfl (lv_room (Nat.le_of_ble_eq_true rfl)) dX6_of_136 ⟨by show _ + 0 ≤ 0; omega, by show _ + 0 ≤ 0; omega⟩) hS (fun q _ h => hFc q h) hFc (fun u t H1 locs ht hvm hw hB hz1 hk1 hS => ?_)
      obtain ⟨F_237, hB1⟩ := hB
      obtain ⟨hP, hD, hO, hR⟩ := QT.back hB1 ht hFc hR (fun q h => by simp only [List.mem_cons, List.not_mem_nil, or_false] at h ⊢; omega)
      generalize H1 = H at hP hS ⊢
      refine lv_iinc (v := 2) (lv' := [(4, .int 2), (0, .ref h0), (1, .ref g1), (2, .ref g2), (3, .ref g3)]) hx hb dX6_of_139 hl (k := 0) rfl (by decide) (by decide) rfl (fun ls hl => ?_)
      refine lv_goto (tgt := 122) hx hb dX6_of_142 (by decide) ?_
      refine lv_iload hx hb dX6_of_122 (lv_at hl 0 rfl) ?_
      refine lv_if_lt (tgt := 145) hx hb dX6_of_124 (by decide) (fun c_238 => absurd c_238 (by decide)) (fun c_238 => ?_)
      refine lv_aload_n hx hb dX6_of_127 rfl (lv_at hl 4 rfl) ?_
      refine lv_aload_n hx hb dX6_of_128 rfl (lv_at hl 1 rfl) ?_
      obtain ⟨v_239, hF_240⟩ := hO.power hL_h0 hT_h0
      refine pg_get (ci := 6) (v := .ref pv) (C := RX6) (T := TX6) (N := 5) hx hb hts it_6 hown hK hP hL_h0 hF_240 rfl 2 (by decide) (hts _ kt_271) (fun _ h9 => h9) rfl dX6_of_129 ?_
      refine lv_iload hx hb dX6_of_132 (lv_at hl 0 rfl) ?_
      obtain ⟨f_241, hF_242⟩ := hO.longs hi_3 ht_7
      refine pg_lald hx hb hK hP hi_3 3 hF_242 rfl (show vp_in (2 : Int32) 16 from (show vp_in (nI 2) 16 from vp_in_nI (by omega) (by omega))) dX6_of_134 ?_
      refine lv_topl (fun x_243 _ => ?_)
      refine lv_l2i hx hb dX6_of_135 rfl ?_
      refine lv_topi (fun x_244 _ => ?_)
      have hFc := pg_free hD hS hA
      obtain ⟨z_245, o_246, hF_247, hq_248, hq_249⟩ := hO.bytes hL_g3 hT_g3
      refine va_callv (va_runV (As := [.int x_244]) (rest := []) ⟨hx, hb, hml, hown, hts⟩ (s_X0_addFour l dC dI cs ty L H.size F_237 g3 υ r3 n3 x_244 hW hL_g3 hT_g3) ⟨callB_of 1 hts (gi kt_257) rfl rfl rfl (hts _ kt_1) (hts _ kt_300) (by decide +kernel) ⟨Nat.le_of_ble_eq_true rfl, Nat.le_of_ble_eq_true rfl⟩, (hts _ kt_259), (hts _ kt_260)⟩ ⟨fun a U g mk q => ⟨q.1, PT.calling q.2⟩, pg_recv hK hP hL_g3 hF_247 (q := (RX0, TX0, 3)) rfl, fun U hU hWm => ⟨rfl, PT.mk hU hWm hP hK hD hE hO⟩⟩ rfl rfl hl.1 rfl (lv_room (Nat.le_of_ble_eq_true rfl)) dX6_of_136 ⟨by show _ + 0 ≤ 0; omega, by show _ + 0 ≤ 0; omega⟩) hS (fun q _ h => hFc q h) hFc (fun u t H1 locs ht hvm hw hB hz1 hk1 hS => ?_)
      obtain ⟨F_251, hB1⟩ := hB
      obtain ⟨hP, hD, hO, hR⟩ := QT.back hB1 ht hFc hR (fun q h => by simp only [List.mem_cons, List.not_mem_nil, or_false] at h ⊢; omega)
      generalize H1 = H at hP hS ⊢
      refine lv_iinc (v := 1) (lv' := [(4, .int 1), (0, .ref h0), (1, .ref g1), (2, .ref g2), (3, .ref g3)]) hx hb dX6_of_139 hl (k := 0) rfl (by decide) (by decide) rfl (fun ls hl => ?_)
      refine lv_goto (tgt := 122) hx hb dX6_of_142 (by decide) ?_
      refine lv_iload hx hb dX6_of_122 (lv_at hl 0 rfl) ?_
      refine lv_if_lt (tgt := 145) hx hb dX6_of_124 (by decide) (fun c_252 => absurd c_252 (by decide)) (fun c_252 => ?_)
      refine lv_aload_n hx hb dX6_of_127 rfl (lv_at hl 4 rfl) ?_
      refine lv_aload_n hx hb dX6_of_128 rfl (lv_at hl 1 rfl) ?_
      obtain ⟨v_253, hF_254⟩ := hO.power hL_h0 hT_h0
      refine pg_get (ci := 6) (v := .ref pv) (C := RX6) (T := TX6) (N := 5) hx hb hts it_6 hown hK hP hL_h0 hF_254 rfl 2 (by decide) (hts _ kt_271) (fun _ h9 => h9) rfl dX6_of_129 ?_
      refine lv_iload hx hb dX6_of_132 (lv_at hl 0 rfl) ?_
      obtain ⟨f_255, hF_256⟩ := hO.longs hi_3 ht_7
      refine pg_lald hx hb hK hP hi_3 3 hF_256 rfl (show vp_in (1 : Int32) 16 from (show vp_in (nI 1) 16 from vp_in_nI (by omega) (by omega))) dX6_of_134 ?_
      refine lv_topl (fun x_257 _ => ?_)
      refine lv_l2i hx hb dX6_of_135 rfl ?_
      refine lv_topi (fun x_258 _ => ?_)
      have hFc := pg_free hD hS hA
      obtain ⟨z_259, o_260, hF_261, hq_262, hq_263⟩ := hO.bytes hL_g3 hT_g3
      refine va_callv (va_runV (As := [.int x_258]) (rest := []) ⟨hx, hb, hml, hown, hts⟩ (s_X0_addFour l dC dI cs ty L H.size F_251 g3 υ r3 n3 x_258 hW hL_g3 hT_g3) ⟨callB_of 1 hts (gi kt_257) rfl rfl rfl (hts _ kt_1) (hts _ kt_300) (by decide +kernel) ⟨Nat.le_of_ble_eq_true rfl, Nat.le_of_ble_eq_true rfl⟩, (hts _ kt_259), (hts _ kt_260)⟩ ⟨fun a U g mk q => ⟨q.1, PT.calling q.2⟩, pg_recv hK hP hL_g3 hF_261 (q := (RX0, TX0, 3)) rfl, fun U hU hWm => ⟨rfl, PT.mk hU hWm hP hK hD hE hO⟩⟩ rfl rfl hl.1 rfl (lv_room (Nat.le_of_ble_eq_true rfl)) dX6_of_136 ⟨by show _ + 0 ≤ 0; omega, by show _ + 0 ≤ 0; omega⟩) hS (fun q _ h => hFc q h) hFc (fun u t H1 locs ht hvm hw hB hz1 hk1 hS => ?_)
      obtain ⟨F_265, hB1⟩ := hB
      obtain ⟨hP, hD, hO, hR⟩ := QT.back hB1 ht hFc hR (fun q h => by simp only [List.mem_cons, List.not_mem_nil, or_false] at h ⊢; omega)
      generalize H1 = H at hP hS ⊢
      refine lv_iinc (v := 0) (lv' := [(4, .int 0), (0, .ref h0), (1, .ref g1), (2, .ref g2), (3, .ref g3)]) hx hb dX6_of_139 hl (k := 0) rfl (by decide) (by decide) rfl (fun ls hl => ?_)
      refine lv_goto (tgt := 122) hx hb dX6_of_142 (by decide) ?_
      refine lv_iload hx hb dX6_of_122 (lv_at hl 0 rfl) ?_
      refine lv_if_lt (tgt := 145) hx hb dX6_of_124 (by decide) (fun c_266 => absurd c_266 (by decide)) (fun c_266 => ?_)
      refine lv_aload_n hx hb dX6_of_127 rfl (lv_at hl 4 rfl) ?_
      refine lv_aload_n hx hb dX6_of_128 rfl (lv_at hl 1 rfl) ?_
      obtain ⟨v_267, hF_268⟩ := hO.power hL_h0 hT_h0
      refine pg_get (ci := 6) (v := .ref pv) (C := RX6) (T := TX6) (N := 5) hx hb hts it_6 hown hK hP hL_h0 hF_268 rfl 2 (by decide) (hts _ kt_271) (fun _ h9 => h9) rfl dX6_of_129 ?_
      refine lv_iload hx hb dX6_of_132 (lv_at hl 0 rfl) ?_
      obtain ⟨f_269, hF_270⟩ := hO.longs hi_3 ht_7
      refine pg_lald hx hb hK hP hi_3 3 hF_270 rfl (show vp_in (0 : Int32) 16 from (show vp_in (nI 0) 16 from vp_in_nI (by omega) (by omega))) dX6_of_134 ?_
      refine lv_topl (fun x_271 _ => ?_)
      refine lv_l2i hx hb dX6_of_135 rfl ?_
      refine lv_topi (fun x_272 _ => ?_)
      have hFc := pg_free hD hS hA
      obtain ⟨z_273, o_274, hF_275, hq_276, hq_277⟩ := hO.bytes hL_g3 hT_g3
      refine va_callv (va_runV (As := [.int x_272]) (rest := []) ⟨hx, hb, hml, hown, hts⟩ (s_X0_addFour l dC dI cs ty L H.size F_265 g3 υ r3 n3 x_272 hW hL_g3 hT_g3) ⟨callB_of 1 hts (gi kt_257) rfl rfl rfl (hts _ kt_1) (hts _ kt_300) (by decide +kernel) ⟨Nat.le_of_ble_eq_true rfl, Nat.le_of_ble_eq_true rfl⟩, (hts _ kt_259), (hts _ kt_260)⟩ ⟨fun a U g mk q => ⟨q.1, PT.calling q.2⟩, pg_recv hK hP hL_g3 hF_275 (q := (RX0, TX0, 3)) rfl, fun U hU hWm => ⟨rfl, PT.mk hU hWm hP hK hD hE hO⟩⟩ rfl rfl hl.1 rfl (lv_room (Nat.le_of_ble_eq_true rfl)) dX6_of_136 ⟨by show _ + 0 ≤ 0; omega, by show _ + 0 ≤ 0; omega⟩) hS (fun q _ h => hFc q h) hFc (fun u t H1 locs ht hvm hw hB hz1 hk1 hS => ?_)
      obtain ⟨F_279, hB1⟩ := hB
      obtain ⟨hP, hD, hO, hR⟩ := QT.back hB1 ht hFc hR (fun q h => by simp only [List.mem_cons, List.not_mem_nil, or_false] at h ⊢; omega)
      generalize H1 = H at hP hS ⊢
      refine lv_iinc (v := (-1)) (lv' := [(4, .int (-1)), (0, .ref h0), (1, .ref g1), (2, .ref g2), (3, .ref g3)]) hx hb dX6_of_139 hl (k := 0) rfl (by decide) (by decide) rfl (fun ls hl => ?_)
      refine lv_goto (tgt := 122) hx hb dX6_of_142 (by decide) ?_
      refine lv_iload hx hb dX6_of_122 (lv_at hl 0 rfl) ?_
      refine lv_if_lt (tgt := 145) hx hb dX6_of_124 (by decide) (fun c_280 => ?_) (fun c_280 => absurd (by decide) c_280)
      refine W.widen (k := 0) (n := 0) (by omega) (by omega) ?_
      exact W.vret hx hb hr (fun t ht hWm => ⟨⟨(), rfl, trivial, ⟨F_279, QT.mk ht hP hD hO hR⟩⟩, hS.F ht⟩) hS.2.2 dX6_of_145
    ·
      have hi_281 : j2 < 16 := ltN (N := 16) c_44
      refine lv_aload_n hx hb dX6_of_84 rfl (lv_at hl 1 rfl) ?_
      refine lv_aload_n hx hb dX6_of_85 rfl (lv_at hl 1 rfl) ?_
      obtain ⟨v_282, hF_283⟩ := hO.power hL_h0 hT_h0
      refine pg_get (ci := 6) (v := .ref pv) (C := RX6) (T := TX6) (N := 5) hx hb hts it_6 hown hK hP hL_h0 hF_283 rfl 2 (by decide) (hts _ kt_271) (fun _ h9 => h9) rfl dX6_of_86 ?_
      refine lv_aload_n hx hb dX6_of_89 rfl (lv_at hl 1 rfl) ?_
      refine pg_get (ci := 6) (v := .ref pv) (C := RX6) (T := TX6) (N := 5) hx hb hts it_6 hown hK hP hL_h0 hF_283 rfl 2 (by decide) (hts _ kt_271) (fun _ h9 => h9) rfl dX6_of_90 ?_
      have hFc := pg_free hD hS hA
      refine va_callv (va_runV (As := [.ref pv, .ref pv]) (rest := []) ⟨hx, hb, hml, hown, hts⟩ (s_X6_multiply l dC dI cs ty L H.size F_41 h0 ρ pm pb pv pu pv (ρ + 87) pv (ρ + 87) hW hL_h0 hT_h0 hi_3 ht_7 hi_3 ht_7) ⟨callB_of 2 hts (gi kt_295) rfl rfl rfl (hts _ kt_275) (hts _ kt_296) (by decide +kernel) ⟨Nat.le_of_ble_eq_true rfl, Nat.le_of_ble_eq_true rfl⟩, (hts _ kt_297), (hts _ kt_298)⟩ ⟨fun a U g mk q => ⟨q.1, PT.calling q.2⟩, pg_recv hK hP hL_h0 hF_283 (q := (RX6, TX6, 5)) rfl, fun U hU hWm => ⟨rfl, PT.mk hU hWm hP hK hD hE hO⟩⟩ rfl rfl hl.1 rfl (lv_room (Nat.le_of_ble_eq_true rfl)) dX6_of_93 ⟨by show _ + 0 ≤ 0; omega, by show _ + 0 ≤ 0; omega⟩) hS (fun q _ h => hFc q h) hFc (fun u t H1 locs ht hvm hw hB hz1 hk1 hS => ?_)
      obtain ⟨F_285, hB1⟩ := hB
      obtain ⟨hP, hD, hO, hR⟩ := QT.back hB1 ht hFc hR (fun q h => by simp only [List.mem_cons, List.not_mem_nil, or_false] at h ⊢; omega)
      generalize H1 = H at hP hS ⊢
      refine lv_iinc (v := (nI (j2 + 1))) (lv' := [(4, .int (nI (j2 + 1))), (0, .ref h0), (1, .ref g1), (2, .ref g2), (3, .ref g3)]) hx hb dX6_of_96 hl (k := 0) rfl (nI_1 _) (by decide) rfl (fun ls hl => ?_)
      refine lv_goto (tgt := 77) hx hb dX6_of_99 (by decide) ?_
      refine W.widen (k := 0) (n := 0) (by omega) (by omega) ?_
      exact ih_43 (j2 + 1) F_285 (by first | omega | exact ⟨by omega, by omega⟩ | trivial) (by show 16 - (j2 + 1) < 16 - j2; omega) hO hR _ _ hP hD hS ls (lv_sub hl [0, 1, 2, 3, 4] rfl)
  ·
    have hi_286 : j < 9 := ltN (N := 9) c_35
    refine lv_aload_n hx hb dX6_of_44 rfl (lv_at hl 1 rfl) ?_
    refine lv_aload_n hx hb dX6_of_45 rfl (lv_at hl 1 rfl) ?_
    obtain ⟨v_287, hF_288⟩ := hO.power hL_h0 hT_h0
    refine pg_get (ci := 6) (v := .ref pv) (C := RX6) (T := TX6) (N := 5) hx hb hts it_6 hown hK hP hL_h0 hF_288 rfl 2 (by decide) (hts _ kt_271) (fun _ h9 => h9) rfl dX6_of_46 ?_
    refine lv_aload_n hx hb dX6_of_49 rfl (lv_at hl 1 rfl) ?_
    refine pg_get (ci := 6) (v := .ref pv) (C := RX6) (T := TX6) (N := 5) hx hb hts it_6 hown hK hP hL_h0 hF_288 rfl 2 (by decide) (hts _ kt_271) (fun _ h9 => h9) rfl dX6_of_50 ?_
    have hFc := pg_free hD hS hA
    refine va_callv (va_runV (As := [.ref pv, .ref pv]) (rest := []) ⟨hx, hb, hml, hown, hts⟩ (s_X6_multiply l dC dI cs ty L H.size F_32 h0 ρ pm pb pv pu pv (ρ + 87) pv (ρ + 87) hW hL_h0 hT_h0 hi_3 ht_7 hi_3 ht_7) ⟨callB_of 2 hts (gi kt_295) rfl rfl rfl (hts _ kt_275) (hts _ kt_296) (by decide +kernel) ⟨Nat.le_of_ble_eq_true rfl, Nat.le_of_ble_eq_true rfl⟩, (hts _ kt_297), (hts _ kt_298)⟩ ⟨fun a U g mk q => ⟨q.1, PT.calling q.2⟩, pg_recv hK hP hL_h0 hF_288 (q := (RX6, TX6, 5)) rfl, fun U hU hWm => ⟨rfl, PT.mk hU hWm hP hK hD hE hO⟩⟩ rfl rfl hl.1 rfl (lv_room (Nat.le_of_ble_eq_true rfl)) dX6_of_53 ⟨by show _ + 0 ≤ 0; omega, by show _ + 0 ≤ 0; omega⟩) hS (fun q _ h => hFc q h) hFc (fun u t H1 locs ht hvm hw hB hz1 hk1 hS => ?_)
    obtain ⟨F_290, hB1⟩ := hB
    obtain ⟨hP, hD, hO, hR⟩ := QT.back hB1 ht hFc hR (fun q h => by simp only [List.mem_cons, List.not_mem_nil, or_false] at h ⊢; omega)
    generalize H1 = H at hP hS ⊢
    refine lv_iinc (v := (nI (j + 1))) (lv' := [(4, .int (nI (j + 1))), (0, .ref h0), (1, .ref g1), (2, .ref g2), (3, .ref g3)]) hx hb dX6_of_56 hl (k := 0) rfl (nI_1 _) (by decide) rfl (fun ls hl => ?_)
    refine lv_goto (tgt := 37) hx hb dX6_of_59 (by decide) ?_
    refine W.widen (k := 0) (n := 0) (by omega) (by omega) ?_
    exact ih_34 (j + 1) F_290 (by first | omega | exact ⟨by omega, by omega⟩ | trivial) (by show 9 - (j + 1) < 9 - j; omega) hO hR _ _ hP hD hS ls (lv_sub hl [0, 1, 2, 3, 4] rfl)
