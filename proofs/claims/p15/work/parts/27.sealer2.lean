theorem dX7_addLast_0 : decode cX7_addLast 0 = .ok (.aload_n 1, 1) := by decide +kernel
theorem dX7_addLast_1 : decode cX7_addLast 1 = .ok (.getfield 286, 3) := by decide +kernel
theorem dX7_addLast_4 : decode cX7_addLast 4 = .ok (.iconst 1, 1) := by decide +kernel
theorem dX7_addLast_5 : decode cX7_addLast 5 = .ok (.isub, 1) := by decide +kernel
theorem dX7_addLast_6 : decode cX7_addLast 6 = .ok (.istore 4, 2) := by decide +kernel
theorem dX7_addLast_8 : decode cX7_addLast 8 = .ok (.iload 4, 2) := by decide +kernel
theorem dX7_addLast_10 : decode cX7_addLast 10 = .ok (.ifCond .lt 74, 3) := by decide +kernel
theorem dX7_addLast_13 : decode cX7_addLast 13 = .ok (.aload_n 0, 1) := by decide +kernel
theorem dX7_addLast_14 : decode cX7_addLast 14 = .ok (.getfield 56, 3) := by decide +kernel
theorem dX7_addLast_17 : decode cX7_addLast 17 = .ok (.iload 4, 2) := by decide +kernel
theorem dX7_addLast_19 : decode cX7_addLast 19 = .ok (.baload, 1) := by decide +kernel
theorem dX7_addLast_20 : decode cX7_addLast 20 = .ok (.ifCond .ne 58, 3) := by decide +kernel
theorem dX7_addLast_23 : decode cX7_addLast 23 = .ok (.aload_n 1, 1) := by decide +kernel
theorem dX7_addLast_24 : decode cX7_addLast 24 = .ok (.iload 4, 2) := by decide +kernel
theorem dX7_addLast_26 : decode cX7_addLast 26 = .ok (.aload_n 0, 1) := by decide +kernel
theorem dX7_addLast_27 : decode cX7_addLast 27 = .ok (.getfield 14, 3) := by decide +kernel
theorem dX7_addLast_30 : decode cX7_addLast 30 = .ok (.getfield 98, 3) := by decide +kernel
theorem dX7_addLast_33 : decode cX7_addLast 33 = .ok (.iload_n 2, 1) := by decide +kernel
theorem dX7_addLast_34 : decode cX7_addLast 34 = .ok (.iload_n 3, 1) := by decide +kernel
theorem dX7_addLast_35 : decode cX7_addLast 35 = .ok (.invokevirtual 289, 3) := by decide +kernel
theorem dX7_addLast_38 : decode cX7_addLast 38 = .ok (.ifCond .ne 6, 3) := by decide +kernel
theorem dX7_addLast_41 : decode cX7_addLast 41 = .ok (.goto 37, 3) := by decide +kernel
theorem dX7_addLast_44 : decode cX7_addLast 44 = .ok (.aload_n 0, 1) := by decide +kernel
theorem dX7_addLast_45 : decode cX7_addLast 45 = .ok (.getfield 56, 3) := by decide +kernel
theorem dX7_addLast_48 : decode cX7_addLast 48 = .ok (.iload 4, 2) := by decide +kernel
theorem dX7_addLast_50 : decode cX7_addLast 50 = .ok (.iconst 1, 1) := by decide +kernel
theorem dX7_addLast_51 : decode cX7_addLast 51 = .ok (.bastore, 1) := by decide +kernel
theorem dX7_addLast_52 : decode cX7_addLast 52 = .ok (.aload_n 1, 1) := by decide +kernel
theorem dX7_addLast_53 : decode cX7_addLast 53 = .ok (.aload_n 0, 1) := by decide +kernel
theorem dX7_addLast_54 : decode cX7_addLast 54 = .ok (.getfield 51, 3) := by decide +kernel
theorem dX7_addLast_57 : decode cX7_addLast 57 = .ok (.iload 4, 2) := by decide +kernel
theorem dX7_addLast_59 : decode cX7_addLast 59 = .ok (.aload_n 0, 1) := by decide +kernel
theorem dX7_addLast_60 : decode cX7_addLast 60 = .ok (.getfield 74, 3) := by decide +kernel
theorem dX7_addLast_63 : decode cX7_addLast 63 = .ok (.iconst 0, 1) := by decide +kernel
theorem dX7_addLast_64 : decode cX7_addLast 64 = .ok (.iconst 0, 1) := by decide +kernel
theorem dX7_addLast_65 : decode cX7_addLast 65 = .ok (.invokevirtual 293, 3) := by decide +kernel
theorem dX7_addLast_68 : decode cX7_addLast 68 = .ok (.aload_n 0, 1) := by decide +kernel
theorem dX7_addLast_69 : decode cX7_addLast 69 = .ok (.getfield 51, 3) := by decide +kernel
theorem dX7_addLast_72 : decode cX7_addLast 72 = .ok (.bipush 10, 2) := by decide +kernel
theorem dX7_addLast_74 : decode cX7_addLast 74 = .ok (.invokevirtual 297, 3) := by decide +kernel
theorem dX7_addLast_77 : decode cX7_addLast 77 = .ok (.return_, 1) := by decide +kernel
theorem dX7_addLast_78 : decode cX7_addLast 78 = .ok (.iinc 4 (-1), 3) := by decide +kernel
theorem dX7_addLast_81 : decode cX7_addLast 81 = .ok (.goto (-73), 3) := by decide +kernel
theorem dX7_addLast_84 : decode cX7_addLast 84 = .ok (.return_, 1) := by decide +kernel
theorem dX7_addListed_0 : decode cX7_addListed 0 = .ok (.iconst 0, 1) := by decide +kernel
theorem dX7_addListed_1 : decode cX7_addListed 1 = .ok (.istore_n 2, 1) := by decide +kernel
theorem dX7_addListed_2 : decode cX7_addListed 2 = .ok (.iload_n 2, 1) := by decide +kernel
theorem dX7_addListed_3 : decode cX7_addListed 3 = .ok (.bipush 20, 2) := by decide +kernel
theorem dX7_addListed_5 : decode cX7_addListed 5 = .ok (.if_icmp .ge 16, 3) := by decide +kernel
theorem dX7_addListed_8 : decode cX7_addListed 8 = .ok (.aload_n 0, 1) := by decide +kernel
theorem dX7_addListed_9 : decode cX7_addListed 9 = .ok (.getfield 56, 3) := by decide +kernel
theorem dX7_addListed_12 : decode cX7_addListed 12 = .ok (.iload_n 2, 1) := by decide +kernel
theorem dX7_addListed_13 : decode cX7_addListed 13 = .ok (.iconst 0, 1) := by decide +kernel
theorem dX7_addListed_14 : decode cX7_addListed 14 = .ok (.bastore, 1) := by decide +kernel
theorem dX7_addListed_15 : decode cX7_addListed 15 = .ok (.iinc 2 1, 3) := by decide +kernel
theorem dX7_addListed_18 : decode cX7_addListed 18 = .ok (.goto (-16), 3) := by decide +kernel
theorem dX7_addListed_21 : decode cX7_addListed 21 = .ok (.aload_n 0, 1) := by decide +kernel
theorem dX7_addListed_22 : decode cX7_addListed 22 = .ok (.getfield 14, 3) := by decide +kernel
theorem dX7_addListed_25 : decode cX7_addListed 25 = .ok (.ldc 207, 2) := by decide +kernel
theorem dX7_addListed_27 : decode cX7_addListed 27 = .ok (.invokevirtual 103, 3) := by decide +kernel
theorem dX7_addListed_30 : decode cX7_addListed 30 = .ok (.istore_n 2, 1) := by decide +kernel
theorem dX7_addListed_31 : decode cX7_addListed 31 = .ok (.aload_n 0, 1) := by decide +kernel
theorem dX7_addListed_32 : decode cX7_addListed 32 = .ok (.getfield 14, 3) := by decide +kernel
theorem dX7_addListed_35 : decode cX7_addListed 35 = .ok (.ldc 207, 2) := by decide +kernel
theorem dX7_addListed_37 : decode cX7_addListed 37 = .ok (.invokevirtual 106, 3) := by decide +kernel
theorem dX7_addListed_40 : decode cX7_addListed 40 = .ok (.istore_n 3, 1) := by decide +kernel
theorem dX7_addListed_41 : decode cX7_addListed 41 = .ok (.iload_n 2, 1) := by decide +kernel
theorem dX7_addListed_42 : decode cX7_addListed 42 = .ok (.istore 4, 2) := by decide +kernel
theorem dX7_addListed_44 : decode cX7_addListed 44 = .ok (.iload 4, 2) := by decide +kernel
theorem dX7_addListed_46 : decode cX7_addListed 46 = .ok (.iload_n 3, 1) := by decide +kernel
theorem dX7_addListed_47 : decode cX7_addListed 47 = .ok (.if_icmp .gt 48, 3) := by decide +kernel
theorem dX7_addListed_50 : decode cX7_addListed 50 = .ok (.iload 4, 2) := by decide +kernel
theorem dX7_addListed_52 : decode cX7_addListed 52 = .ok (.iload_n 3, 1) := by decide +kernel
theorem dX7_addListed_53 : decode cX7_addListed 53 = .ok (.if_icmp .ge 23, 3) := by decide +kernel
theorem dX7_addListed_56 : decode cX7_addListed 56 = .ok (.aload_n 0, 1) := by decide +kernel
theorem dX7_addListed_57 : decode cX7_addListed 57 = .ok (.getfield 14, 3) := by decide +kernel
theorem dX7_addListed_60 : decode cX7_addListed 60 = .ok (.getfield 98, 3) := by decide +kernel
theorem dX7_addListed_63 : decode cX7_addListed 63 = .ok (.iload 4, 2) := by decide +kernel
theorem dX7_addListed_65 : decode cX7_addListed 65 = .ok (.invokevirtual 209, 3) := by decide +kernel
theorem dX7_addListed_68 : decode cX7_addListed 68 = .ok (.bipush 58, 2) := by decide +kernel
theorem dX7_addListed_70 : decode cX7_addListed 70 = .ok (.if_icmp .eq 6, 3) := by decide +kernel
theorem dX7_addListed_73 : decode cX7_addListed 73 = .ok (.goto 16, 3) := by decide +kernel
theorem dX7_addListed_76 : decode cX7_addListed 76 = .ok (.aload_n 0, 1) := by decide +kernel
theorem dX7_addListed_77 : decode cX7_addListed 77 = .ok (.aload_n 1, 1) := by decide +kernel
theorem dX7_addListed_78 : decode cX7_addListed 78 = .ok (.iload_n 2, 1) := by decide +kernel
theorem dX7_addListed_79 : decode cX7_addListed 79 = .ok (.iload 4, 2) := by decide +kernel
theorem dX7_addListed_81 : decode cX7_addListed 81 = .ok (.invokevirtual 282, 3) := by decide +kernel
theorem dX7_addListed_84 : decode cX7_addListed 84 = .ok (.iload 4, 2) := by decide +kernel
theorem dX7_addListed_86 : decode cX7_addListed 86 = .ok (.iconst 1, 1) := by decide +kernel
theorem dX7_addListed_87 : decode cX7_addListed 87 = .ok (.iadd, 1) := by decide +kernel
theorem dX7_addListed_88 : decode cX7_addListed 88 = .ok (.istore_n 2, 1) := by decide +kernel
theorem dX7_addListed_89 : decode cX7_addListed 89 = .ok (.iinc 4 1, 3) := by decide +kernel
theorem dX7_addListed_92 : decode cX7_addListed 92 = .ok (.goto (-48), 3) := by decide +kernel
theorem dX7_addListed_95 : decode cX7_addListed 95 = .ok (.return_, 1) := by decide +kernel
theorem dX7_addOwn_0 : decode cX7_addOwn 0 = .ok (.aload_n 1, 1) := by decide +kernel
theorem dX7_addOwn_1 : decode cX7_addOwn 1 = .ok (.getfield 142, 3) := by decide +kernel
theorem dX7_addOwn_4 : decode cX7_addOwn 4 = .ok (.astore_n 3, 1) := by decide +kernel
theorem dX7_addOwn_5 : decode cX7_addOwn 5 = .ok (.aload_n 1, 1) := by decide +kernel
theorem dX7_addOwn_6 : decode cX7_addOwn 6 = .ok (.getfield 147, 3) := by decide +kernel
theorem dX7_addOwn_9 : decode cX7_addOwn 9 = .ok (.iload_n 2, 1) := by decide +kernel
theorem dX7_addOwn_10 : decode cX7_addOwn 10 = .ok (.iaload, 1) := by decide +kernel
theorem dX7_addOwn_11 : decode cX7_addOwn 11 = .ok (.istore 4, 2) := by decide +kernel
theorem dX7_addOwn_13 : decode cX7_addOwn 13 = .ok (.aload_n 1, 1) := by decide +kernel
theorem dX7_addOwn_14 : decode cX7_addOwn 14 = .ok (.getfield 143, 3) := by decide +kernel
theorem dX7_addOwn_17 : decode cX7_addOwn 17 = .ok (.iload_n 2, 1) := by decide +kernel
theorem dX7_addOwn_18 : decode cX7_addOwn 18 = .ok (.iaload, 1) := by decide +kernel
theorem dX7_addOwn_19 : decode cX7_addOwn 19 = .ok (.iconst 1, 1) := by decide +kernel
theorem dX7_addOwn_20 : decode cX7_addOwn 20 = .ok (.iadd, 1) := by decide +kernel
theorem dX7_addOwn_21 : decode cX7_addOwn 21 = .ok (.istore 5, 2) := by decide +kernel
theorem dX7_addOwn_23 : decode cX7_addOwn 23 = .ok (.iload 5, 2) := by decide +kernel
theorem dX7_addOwn_25 : decode cX7_addOwn 25 = .ok (.istore 6, 2) := by decide +kernel
theorem dX7_addOwn_27 : decode cX7_addOwn 27 = .ok (.iload 6, 2) := by decide +kernel
theorem dX7_addOwn_29 : decode cX7_addOwn 29 = .ok (.iload 4, 2) := by decide +kernel
theorem dX7_addOwn_31 : decode cX7_addOwn 31 = .ok (.if_icmp .gt 79, 3) := by decide +kernel
theorem dX7_addOwn_34 : decode cX7_addOwn 34 = .ok (.iload 6, 2) := by decide +kernel
theorem dX7_addOwn_36 : decode cX7_addOwn 36 = .ok (.iload 4, 2) := by decide +kernel
theorem dX7_addOwn_38 : decode cX7_addOwn 38 = .ok (.if_icmp .ge 17, 3) := by decide +kernel
theorem dX7_addOwn_41 : decode cX7_addOwn 41 = .ok (.aload_n 3, 1) := by decide +kernel
theorem dX7_addOwn_42 : decode cX7_addOwn 42 = .ok (.iload 6, 2) := by decide +kernel
theorem dX7_addOwn_44 : decode cX7_addOwn 44 = .ok (.invokevirtual 209, 3) := by decide +kernel
theorem dX7_addOwn_47 : decode cX7_addOwn 47 = .ok (.bipush 59, 2) := by decide +kernel
theorem dX7_addOwn_49 : decode cX7_addOwn 49 = .ok (.if_icmp .eq 6, 3) := by decide +kernel
theorem dX7_addOwn_52 : decode cX7_addOwn 52 = .ok (.goto 52, 3) := by decide +kernel
theorem dX7_addOwn_55 : decode cX7_addOwn 55 = .ok (.aload_n 3, 1) := by decide +kernel
theorem dX7_addOwn_56 : decode cX7_addOwn 56 = .ok (.bipush 61, 2) := by decide +kernel
theorem dX7_addOwn_58 : decode cX7_addOwn 58 = .ok (.iload 5, 2) := by decide +kernel
theorem dX7_addOwn_60 : decode cX7_addOwn 60 = .ok (.iload 6, 2) := by decide +kernel
theorem dX7_addOwn_62 : decode cX7_addOwn 62 = .ok (.invokevirtual 192, 3) := by decide +kernel
theorem dX7_addOwn_65 : decode cX7_addOwn 65 = .ok (.istore 7, 2) := by decide +kernel
theorem dX7_addOwn_67 : decode cX7_addOwn 67 = .ok (.aload_n 3, 1) := by decide +kernel
theorem dX7_addOwn_68 : decode cX7_addOwn 68 = .ok (.iload 5, 2) := by decide +kernel
theorem dX7_addOwn_70 : decode cX7_addOwn 70 = .ok (.iload 7, 2) := by decide +kernel
theorem dX7_addOwn_72 : decode cX7_addOwn 72 = .ok (.invokestatic 300, 3) := by decide +kernel
theorem dX7_addOwn_75 : decode cX7_addOwn 75 = .ok (.ifCond .eq 23, 3) := by decide +kernel
theorem dX7_addOwn_78 : decode cX7_addOwn 78 = .ok (.aload_n 1, 1) := by decide +kernel
theorem dX7_addOwn_79 : decode cX7_addOwn 79 = .ok (.aload_n 0, 1) := by decide +kernel
theorem dX7_addOwn_80 : decode cX7_addOwn 80 = .ok (.getfield 51, 3) := by decide +kernel
theorem dX7_addOwn_83 : decode cX7_addOwn 83 = .ok (.iload_n 2, 1) := by decide +kernel
theorem dX7_addOwn_84 : decode cX7_addOwn 84 = .ok (.aload_n 0, 1) := by decide +kernel
theorem dX7_addOwn_85 : decode cX7_addOwn 85 = .ok (.getfield 74, 3) := by decide +kernel
theorem dX7_addOwn_88 : decode cX7_addOwn 88 = .ok (.iload 7, 2) := by decide +kernel
theorem dX7_addOwn_90 : decode cX7_addOwn 90 = .ok (.iconst 1, 1) := by decide +kernel
theorem dX7_addOwn_91 : decode cX7_addOwn 91 = .ok (.iadd, 1) := by decide +kernel
theorem dX7_addOwn_92 : decode cX7_addOwn 92 = .ok (.iload 6, 2) := by decide +kernel
theorem dX7_addOwn_94 : decode cX7_addOwn 94 = .ok (.invokevirtual 293, 3) := by decide +kernel
theorem dX7_addOwn_97 : decode cX7_addOwn 97 = .ok (.return_, 1) := by decide +kernel
theorem dX7_addOwn_98 : decode cX7_addOwn 98 = .ok (.iload 6, 2) := by decide +kernel
theorem dX7_addOwn_100 : decode cX7_addOwn 100 = .ok (.iconst 1, 1) := by decide +kernel
theorem dX7_addOwn_101 : decode cX7_addOwn 101 = .ok (.iadd, 1) := by decide +kernel
theorem dX7_addOwn_102 : decode cX7_addOwn 102 = .ok (.istore 5, 2) := by decide +kernel
theorem dX7_addOwn_104 : decode cX7_addOwn 104 = .ok (.iinc 6 1, 3) := by decide +kernel
theorem dX7_addOwn_107 : decode cX7_addOwn 107 = .ok (.goto (-80), 3) := by decide +kernel
theorem dX7_addOwn_110 : decode cX7_addOwn 110 = .ok (.return_, 1) := by decide +kernel
theorem dX7_isBodyRight_0 : decode cX7_isBodyRight 0 = .ok (.aload_n 0, 1) := by decide +kernel
theorem dX7_isBodyRight_1 : decode cX7_isBodyRight 1 = .ok (.getfield 51, 3) := by decide +kernel
theorem dX7_isBodyRight_4 : decode cX7_isBodyRight 4 = .ok (.invokevirtual 95, 3) := by decide +kernel
theorem dX7_isBodyRight_7 : decode cX7_isBodyRight 7 = .ok (.aload_n 1, 1) := by decide +kernel
theorem dX7_isBodyRight_8 : decode cX7_isBodyRight 8 = .ok (.aload_n 0, 1) := by decide +kernel
theorem dX7_isBodyRight_9 : decode cX7_isBodyRight 9 = .ok (.getfield 51, 3) := by decide +kernel
theorem dX7_isBodyRight_12 : decode cX7_isBodyRight 12 = .ok (.aload_n 0, 1) := by decide +kernel
theorem dX7_isBodyRight_13 : decode cX7_isBodyRight 13 = .ok (.getfield 78, 3) := by decide +kernel
theorem dX7_isBodyRight_16 : decode cX7_isBodyRight 16 = .ok (.invokevirtual 263, 3) := by decide +kernel
theorem dX7_isBodyRight_19 : decode cX7_isBodyRight 19 = .ok (.aload_n 0, 1) := by decide +kernel
theorem dX7_isBodyRight_20 : decode cX7_isBodyRight 20 = .ok (.getfield 14, 3) := by decide +kernel
theorem dX7_isBodyRight_23 : decode cX7_isBodyRight 23 = .ok (.ldc 185, 2) := by decide +kernel
theorem dX7_isBodyRight_25 : decode cX7_isBodyRight 25 = .ok (.invokevirtual 115, 3) := by decide +kernel
theorem dX7_isBodyRight_28 : decode cX7_isBodyRight 28 = .ok (.ifCond .eq 15, 3) := by decide +kernel
theorem dX7_isBodyRight_31 : decode cX7_isBodyRight 31 = .ok (.aload_n 0, 1) := by decide +kernel
theorem dX7_isBodyRight_32 : decode cX7_isBodyRight 32 = .ok (.getfield 14, 3) := by decide +kernel
theorem dX7_isBodyRight_35 : decode cX7_isBodyRight 35 = .ok (.ldc 185, 2) := by decide +kernel
theorem dX7_isBodyRight_37 : decode cX7_isBodyRight 37 = .ok (.invokevirtual 119, 3) := by decide +kernel
theorem dX7_isBodyRight_40 : decode cX7_isBodyRight 40 = .ok (.goto 10, 3) := by decide +kernel
theorem dX7_isBodyRight_43 : decode cX7_isBodyRight 43 = .ok (.aload_n 0, 1) := by decide +kernel
theorem dX7_isBodyRight_44 : decode cX7_isBodyRight 44 = .ok (.getfield 51, 3) := by decide +kernel
theorem dX7_isBodyRight_47 : decode cX7_isBodyRight 47 = .ok (.getfield 235, 3) := by decide +kernel
theorem dX7_isBodyRight_50 : decode cX7_isBodyRight 50 = .ok (.istore_n 2, 1) := by decide +kernel
theorem dX7_isBodyRight_51 : decode cX7_isBodyRight 51 = .ok (.iload_n 2, 1) := by decide +kernel
theorem dX7_isBodyRight_52 : decode cX7_isBodyRight 52 = .ok (.aload_n 0, 1) := by decide +kernel
theorem dX7_isBodyRight_53 : decode cX7_isBodyRight 53 = .ok (.getfield 51, 3) := by decide +kernel
theorem dX7_isBodyRight_56 : decode cX7_isBodyRight 56 = .ok (.getfield 235, 3) := by decide +kernel
theorem dX7_isBodyRight_59 : decode cX7_isBodyRight 59 = .ok (.if_icmp .le 5, 3) := by decide +kernel
theorem dX7_isBodyRight_62 : decode cX7_isBodyRight 62 = .ok (.iconst 0, 1) := by decide +kernel
theorem dX7_isBodyRight_63 : decode cX7_isBodyRight 63 = .ok (.ireturn, 1) := by decide +kernel
theorem dX7_isBodyRight_64 : decode cX7_isBodyRight 64 = .ok (.aload_n 0, 1) := by decide +kernel
theorem dX7_isBodyRight_65 : decode cX7_isBodyRight 65 = .ok (.getfield 63, 3) := by decide +kernel
theorem dX7_isBodyRight_68 : decode cX7_isBodyRight 68 = .ok (.aload_n 0, 1) := by decide +kernel
theorem dX7_isBodyRight_69 : decode cX7_isBodyRight 69 = .ok (.getfield 51, 3) := by decide +kernel
theorem dX7_isBodyRight_72 : decode cX7_isBodyRight 72 = .ok (.iload_n 2, 1) := by decide +kernel
theorem dX7_isBodyRight_73 : decode cX7_isBodyRight 73 = .ok (.aload_n 0, 1) := by decide +kernel
theorem dX7_isBodyRight_74 : decode cX7_isBodyRight 74 = .ok (.getfield 42, 3) := by decide +kernel
theorem dX7_isBodyRight_77 : decode cX7_isBodyRight 77 = .ok (.invokevirtual 267, 3) := by decide +kernel
theorem dX7_isBodyRight_80 : decode cX7_isBodyRight 80 = .ok (.aload_n 0, 1) := by decide +kernel
theorem dX7_isBodyRight_81 : decode cX7_isBodyRight 81 = .ok (.getfield 42, 3) := by decide +kernel
theorem dX7_isBodyRight_84 : decode cX7_isBodyRight 84 = .ok (.aload_n 0, 1) := by decide +kernel
theorem dX7_isBodyRight_85 : decode cX7_isBodyRight 85 = .ok (.getfield 33, 3) := by decide +kernel
theorem dX7_isBodyRight_88 : decode cX7_isBodyRight 88 = .ok (.invokevirtual 271, 3) := by decide +kernel
theorem dX7_isBodyRight_91 : decode cX7_isBodyRight 91 = .ok (.ireturn, 1) := by decide +kernel
theorem dX7_isSigned_0 : decode cX7_isSigned 0 = .ok (.aload_n 0, 1) := by decide +kernel
theorem dX7_isSigned_1 : decode cX7_isSigned 1 = .ok (.getfield 63, 3) := by decide +kernel
theorem dX7_isSigned_4 : decode cX7_isSigned 4 = .ok (.aload_n 0, 1) := by decide +kernel
theorem dX7_isSigned_5 : decode cX7_isSigned 5 = .ok (.getfield 51, 3) := by decide +kernel
theorem dX7_isSigned_8 : decode cX7_isSigned 8 = .ok (.aload_n 0, 1) := by decide +kernel
theorem dX7_isSigned_9 : decode cX7_isSigned 9 = .ok (.getfield 51, 3) := by decide +kernel
theorem dX7_isSigned_12 : decode cX7_isSigned 12 = .ok (.getfield 235, 3) := by decide +kernel
theorem dX7_isSigned_15 : decode cX7_isSigned 15 = .ok (.aload_n 0, 1) := by decide +kernel
theorem dX7_isSigned_16 : decode cX7_isSigned 16 = .ok (.getfield 42, 3) := by decide +kernel
theorem dX7_isSigned_19 : decode cX7_isSigned 19 = .ok (.invokevirtual 267, 3) := by decide +kernel
theorem dX7_isSigned_22 : decode cX7_isSigned 22 = .ok (.aload_n 0, 1) := by decide +kernel
theorem dX7_isSigned_23 : decode cX7_isSigned 23 = .ok (.invokevirtual 275, 3) := by decide +kernel
theorem dX7_isSigned_26 : decode cX7_isSigned 26 = .ok (.aload_n 0, 1) := by decide +kernel
theorem dX7_isSigned_27 : decode cX7_isSigned 27 = .ok (.getfield 70, 3) := by decide +kernel
theorem dX7_isSigned_30 : decode cX7_isSigned 30 = .ok (.aload_n 0, 1) := by decide +kernel
theorem dX7_isSigned_31 : decode cX7_isSigned 31 = .ok (.getfield 36, 3) := by decide +kernel
theorem dX7_isSigned_34 : decode cX7_isSigned 34 = .ok (.aload_n 0, 1) := by decide +kernel
theorem dX7_isSigned_35 : decode cX7_isSigned 35 = .ok (.getfield 39, 3) := by decide +kernel
theorem dX7_isSigned_38 : decode cX7_isSigned 38 = .ok (.aload_n 0, 1) := by decide +kernel
theorem dX7_isSigned_39 : decode cX7_isSigned 39 = .ok (.getfield 45, 3) := by decide +kernel
theorem dX7_isSigned_42 : decode cX7_isSigned 42 = .ok (.invokevirtual 278, 3) := by decide +kernel
theorem dX7_isSigned_45 : decode cX7_isSigned 45 = .ok (.aload_n 0, 1) := by decide +kernel
theorem dX7_isSigned_46 : decode cX7_isSigned 46 = .ok (.getfield 45, 3) := by decide +kernel
theorem dX7_isSigned_49 : decode cX7_isSigned 49 = .ok (.aload_n 0, 1) := by decide +kernel
theorem dX7_isSigned_50 : decode cX7_isSigned 50 = .ok (.getfield 48, 3) := by decide +kernel
theorem dX7_isSigned_53 : decode cX7_isSigned 53 = .ok (.invokevirtual 271, 3) := by decide +kernel
theorem dX7_isSigned_56 : decode cX7_isSigned 56 = .ok (.ireturn, 1) := by decide +kernel
theorem dX7_judge_0 : decode cX7_judge 0 = .ok (.aload_n 0, 1) := by decide +kernel
theorem dX7_judge_1 : decode cX7_judge 1 = .ok (.aload_n 1, 1) := by decide +kernel
theorem dX7_judge_2 : decode cX7_judge 2 = .ok (.iload_n 2, 1) := by decide +kernel
theorem dX7_judge_3 : decode cX7_judge 3 = .ok (.invokevirtual 85, 3) := by decide +kernel
theorem dX7_judge_6 : decode cX7_judge 6 = .ok (.ifCond .eq 12, 3) := by decide +kernel
theorem dX7_judge_9 : decode cX7_judge 9 = .ok (.aload_n 1, 1) := by decide +kernel
theorem dX7_judge_10 : decode cX7_judge 10 = .ok (.ldc 89, 2) := by decide +kernel
theorem dX7_judge_12 : decode cX7_judge 12 = .ok (.invokevirtual 91, 3) := by decide +kernel
theorem dX7_judge_15 : decode cX7_judge 15 = .ok (.ifCond .ne 5, 3) := by decide +kernel
theorem dX7_judge_18 : decode cX7_judge 18 = .ok (.iconst 1, 1) := by decide +kernel
theorem dX7_judge_19 : decode cX7_judge 19 = .ok (.ireturn, 1) := by decide +kernel
theorem dX7_judge_20 : decode cX7_judge 20 = .ok (.aload_n 0, 1) := by decide +kernel
theorem dX7_judge_21 : decode cX7_judge 21 = .ok (.getfield 26, 3) := by decide +kernel
theorem dX7_judge_24 : decode cX7_judge 24 = .ok (.invokevirtual 95, 3) := by decide +kernel
theorem dX7_judge_27 : decode cX7_judge 27 = .ok (.aload_n 0, 1) := by decide +kernel
theorem dX7_judge_28 : decode cX7_judge 28 = .ok (.getfield 26, 3) := by decide +kernel
theorem dX7_judge_31 : decode cX7_judge 31 = .ok (.aload_n 0, 1) := by decide +kernel
theorem dX7_judge_32 : decode cX7_judge 32 = .ok (.getfield 14, 3) := by decide +kernel
theorem dX7_judge_35 : decode cX7_judge 35 = .ok (.getfield 98, 3) := by decide +kernel
theorem dX7_judge_38 : decode cX7_judge 38 = .ok (.aload_n 0, 1) := by decide +kernel
theorem dX7_judge_39 : decode cX7_judge 39 = .ok (.getfield 14, 3) := by decide +kernel
theorem dX7_judge_42 : decode cX7_judge 42 = .ok (.ldc 101, 2) := by decide +kernel
theorem dX7_judge_44 : decode cX7_judge 44 = .ok (.invokevirtual 103, 3) := by decide +kernel
theorem dX7_judge_47 : decode cX7_judge 47 = .ok (.aload_n 0, 1) := by decide +kernel
theorem dX7_judge_48 : decode cX7_judge 48 = .ok (.getfield 14, 3) := by decide +kernel
theorem dX7_judge_51 : decode cX7_judge 51 = .ok (.ldc 101, 2) := by decide +kernel
theorem dX7_judge_53 : decode cX7_judge 53 = .ok (.invokevirtual 106, 3) := by decide +kernel
theorem dX7_judge_56 : decode cX7_judge 56 = .ok (.invokevirtual 109, 3) := by decide +kernel
theorem dX7_judge_59 : decode cX7_judge 59 = .ok (.aload_n 0, 1) := by decide +kernel
theorem dX7_judge_60 : decode cX7_judge 60 = .ok (.getfield 14, 3) := by decide +kernel
theorem dX7_judge_63 : decode cX7_judge 63 = .ok (.ldc 113, 2) := by decide +kernel
theorem dX7_judge_65 : decode cX7_judge 65 = .ok (.invokevirtual 115, 3) := by decide +kernel
theorem dX7_judge_68 : decode cX7_judge 68 = .ok (.ifCond .eq 18, 3) := by decide +kernel
theorem dX7_judge_71 : decode cX7_judge 71 = .ok (.iload_n 3, 1) := by decide +kernel
theorem dX7_judge_72 : decode cX7_judge 72 = .ok (.aload_n 0, 1) := by decide +kernel
theorem dX7_judge_73 : decode cX7_judge 73 = .ok (.getfield 14, 3) := by decide +kernel
theorem dX7_judge_76 : decode cX7_judge 76 = .ok (.ldc 113, 2) := by decide +kernel
theorem dX7_judge_78 : decode cX7_judge 78 = .ok (.invokevirtual 119, 3) := by decide +kernel
theorem dX7_judge_81 : decode cX7_judge 81 = .ok (.if_icmp .le 5, 3) := by decide +kernel
theorem dX7_judge_84 : decode cX7_judge 84 = .ok (.iconst 3, 1) := by decide +kernel
theorem dX7_judge_85 : decode cX7_judge 85 = .ok (.ireturn, 1) := by decide +kernel
theorem dX7_judge_86 : decode cX7_judge 86 = .ok (.aload_n 0, 1) := by decide +kernel
theorem dX7_judge_87 : decode cX7_judge 87 = .ok (.invokevirtual 122, 3) := by decide +kernel
theorem dX7_judge_90 : decode cX7_judge 90 = .ok (.istore 4, 2) := by decide +kernel
theorem dX7_judge_92 : decode cX7_judge 92 = .ok (.iload 4, 2) := by decide +kernel
theorem dX7_judge_94 : decode cX7_judge 94 = .ok (.iconst 2, 1) := by decide +kernel
theorem dX7_judge_95 : decode cX7_judge 95 = .ok (.if_icmp .eq 6, 3) := by decide +kernel
theorem dX7_judge_98 : decode cX7_judge 98 = .ok (.iload 4, 2) := by decide +kernel
theorem dX7_judge_100 : decode cX7_judge 100 = .ok (.ireturn, 1) := by decide +kernel
theorem dX7_judge_101 : decode cX7_judge 101 = .ok (.aload_n 0, 1) := by decide +kernel
theorem dX7_judge_102 : decode cX7_judge 102 = .ok (.aload_n 1, 1) := by decide +kernel
theorem dX7_judge_103 : decode cX7_judge 103 = .ok (.invokevirtual 126, 3) := by decide +kernel
theorem dX7_judge_106 : decode cX7_judge 106 = .ok (.ifCond .ne 5, 3) := by decide +kernel
theorem dX7_judge_109 : decode cX7_judge 109 = .ok (.iconst 3, 1) := by decide +kernel
theorem dX7_judge_110 : decode cX7_judge 110 = .ok (.ireturn, 1) := by decide +kernel
theorem dX7_judge_111 : decode cX7_judge 111 = .ok (.aload_n 0, 1) := by decide +kernel
theorem dX7_judge_112 : decode cX7_judge 112 = .ok (.getfield 51, 3) := by decide +kernel
theorem dX7_judge_115 : decode cX7_judge 115 = .ok (.invokevirtual 95, 3) := by decide +kernel
theorem dX7_judge_118 : decode cX7_judge 118 = .ok (.aload_n 0, 1) := by decide +kernel
theorem dX7_judge_119 : decode cX7_judge 119 = .ok (.aload_n 1, 1) := by decide +kernel
theorem dX7_judge_120 : decode cX7_judge 120 = .ok (.invokevirtual 130, 3) := by decide +kernel
theorem dX7_judge_123 : decode cX7_judge 123 = .ok (.aload_n 0, 1) := by decide +kernel
theorem dX7_judge_124 : decode cX7_judge 124 = .ok (.aload_n 1, 1) := by decide +kernel
theorem dX7_judge_125 : decode cX7_judge 125 = .ok (.iload_n 2, 1) := by decide +kernel
theorem dX7_judge_126 : decode cX7_judge 126 = .ok (.invokevirtual 134, 3) := by decide +kernel
theorem dX7_judge_129 : decode cX7_judge 129 = .ok (.aload_n 0, 1) := by decide +kernel
theorem dX7_judge_130 : decode cX7_judge 130 = .ok (.invokevirtual 138, 3) := by decide +kernel
theorem dX7_judge_133 : decode cX7_judge 133 = .ok (.ifCond .eq 7, 3) := by decide +kernel
theorem dX7_judge_136 : decode cX7_judge 136 = .ok (.iconst 2, 1) := by decide +kernel
theorem dX7_judge_137 : decode cX7_judge 137 = .ok (.goto 4, 3) := by decide +kernel
theorem dX7_judge_140 : decode cX7_judge 140 = .ok (.iconst 3, 1) := by decide +kernel
theorem dX7_judge_141 : decode cX7_judge 141 = .ok (.ireturn, 1) := by decide +kernel
theorem dX7_readKey_0 : decode cX7_readKey 0 = .ok (.aload_n 0, 1) := by decide +kernel
theorem dX7_readKey_1 : decode cX7_readKey 1 = .ok (.getfield 30, 3) := by decide +kernel
theorem dX7_readKey_4 : decode cX7_readKey 4 = .ok (.invokevirtual 95, 3) := by decide +kernel
theorem dX7_readKey_7 : decode cX7_readKey 7 = .ok (.aload_n 0, 1) := by decide +kernel
theorem dX7_readKey_8 : decode cX7_readKey 8 = .ok (.getfield 30, 3) := by decide +kernel
theorem dX7_readKey_11 : decode cX7_readKey 11 = .ok (.aload_n 0, 1) := by decide +kernel
theorem dX7_readKey_12 : decode cX7_readKey 12 = .ok (.getfield 14, 3) := by decide +kernel
theorem dX7_readKey_15 : decode cX7_readKey 15 = .ok (.getfield 98, 3) := by decide +kernel
theorem dX7_readKey_18 : decode cX7_readKey 18 = .ok (.aload_n 0, 1) := by decide +kernel
theorem dX7_readKey_19 : decode cX7_readKey 19 = .ok (.getfield 14, 3) := by decide +kernel
theorem dX7_readKey_22 : decode cX7_readKey 22 = .ok (.ldc 169, 2) := by decide +kernel
theorem dX7_readKey_24 : decode cX7_readKey 24 = .ok (.invokevirtual 103, 3) := by decide +kernel
theorem dX7_readKey_27 : decode cX7_readKey 27 = .ok (.aload_n 0, 1) := by decide +kernel
theorem dX7_readKey_28 : decode cX7_readKey 28 = .ok (.getfield 14, 3) := by decide +kernel
theorem dX7_readKey_31 : decode cX7_readKey 31 = .ok (.ldc 169, 2) := by decide +kernel
theorem dX7_readKey_33 : decode cX7_readKey 33 = .ok (.invokevirtual 106, 3) := by decide +kernel
theorem dX7_readKey_36 : decode cX7_readKey 36 = .ok (.invokevirtual 109, 3) := by decide +kernel
theorem dX7_readKey_39 : decode cX7_readKey 39 = .ok (.aload_n 0, 1) := by decide +kernel
theorem dX7_readKey_40 : decode cX7_readKey 40 = .ok (.getfield 30, 3) := by decide +kernel
theorem dX7_readKey_43 : decode cX7_readKey 43 = .ok (.ldc 229, 2) := by decide +kernel
theorem dX7_readKey_45 : decode cX7_readKey 45 = .ok (.invokevirtual 231, 3) := by decide +kernel
theorem dX7_readKey_48 : decode cX7_readKey 48 = .ok (.aload_n 0, 1) := by decide +kernel
theorem dX7_readKey_49 : decode cX7_readKey 49 = .ok (.getfield 30, 3) := by decide +kernel
theorem dX7_readKey_52 : decode cX7_readKey 52 = .ok (.aload_n 0, 1) := by decide +kernel
theorem dX7_readKey_53 : decode cX7_readKey 53 = .ok (.getfield 26, 3) := by decide +kernel
theorem dX7_readKey_56 : decode cX7_readKey 56 = .ok (.iconst 0, 1) := by decide +kernel
theorem dX7_readKey_57 : decode cX7_readKey 57 = .ok (.aload_n 0, 1) := by decide +kernel
theorem dX7_readKey_58 : decode cX7_readKey 58 = .ok (.getfield 26, 3) := by decide +kernel
theorem dX7_readKey_61 : decode cX7_readKey 61 = .ok (.getfield 235, 3) := by decide +kernel
theorem dX7_readKey_64 : decode cX7_readKey 64 = .ok (.invokevirtual 109, 3) := by decide +kernel
theorem dX7_readKey_67 : decode cX7_readKey 67 = .ok (.aload_n 0, 1) := by decide +kernel
theorem dX7_readKey_68 : decode cX7_readKey 68 = .ok (.getfield 81, 3) := by decide +kernel
theorem dX7_readKey_71 : decode cX7_readKey 71 = .ok (.iconst 3, 1) := by decide +kernel
theorem dX7_readKey_72 : decode cX7_readKey 72 = .ok (.aload_n 0, 1) := by decide +kernel
theorem dX7_readKey_73 : decode cX7_readKey 73 = .ok (.getfield 30, 3) := by decide +kernel
theorem dX7_readKey_76 : decode cX7_readKey 76 = .ok (.invokevirtual 241, 3) := by decide +kernel
theorem dX7_readKey_79 : decode cX7_readKey 79 = .ok (.ifCond .eq 5, 3) := by decide +kernel
theorem dX7_readKey_82 : decode cX7_readKey 82 = .ok (.iconst 5, 1) := by decide +kernel
theorem dX7_readKey_83 : decode cX7_readKey 83 = .ok (.ireturn, 1) := by decide +kernel
theorem dX7_readKey_84 : decode cX7_readKey 84 = .ok (.aload_n 0, 1) := by decide +kernel
theorem dX7_readKey_85 : decode cX7_readKey 85 = .ok (.getfield 81, 3) := by decide +kernel
theorem dX7_readKey_88 : decode cX7_readKey 88 = .ok (.aload_n 0, 1) := by decide +kernel
theorem dX7_readKey_89 : decode cX7_readKey 89 = .ok (.getfield 30, 3) := by decide +kernel
theorem dX7_readKey_92 : decode cX7_readKey 92 = .ok (.invokevirtual 244, 3) := by decide +kernel
theorem dX7_readKey_95 : decode cX7_readKey 95 = .ok (.istore_n 1, 1) := by decide +kernel
theorem dX7_readKey_96 : decode cX7_readKey 96 = .ok (.iload_n 1, 1) := by decide +kernel
theorem dX7_readKey_97 : decode cX7_readKey 97 = .ok (.ifCond .ge 6, 3) := by decide +kernel
theorem dX7_readKey_100 : decode cX7_readKey 100 = .ok (.bipush 6, 2) := by decide +kernel
theorem dX7_readKey_102 : decode cX7_readKey 102 = .ok (.ireturn, 1) := by decide +kernel
theorem dX7_readKey_103 : decode cX7_readKey 103 = .ok (.aload_n 0, 1) := by decide +kernel
theorem dX7_readKey_104 : decode cX7_readKey 104 = .ok (.getfield 81, 3) := by decide +kernel
theorem dX7_readKey_107 : decode cX7_readKey 107 = .ok (.iload_n 1, 1) := by decide +kernel
theorem dX7_readKey_108 : decode cX7_readKey 108 = .ok (.invokevirtual 248, 3) := by decide +kernel
theorem dX7_readKey_111 : decode cX7_readKey 111 = .ok (.astore_n 2, 1) := by decide +kernel
theorem dX7_readKey_112 : decode cX7_readKey 112 = .ok (.aload_n 0, 1) := by decide +kernel
theorem dX7_readKey_113 : decode cX7_readKey 113 = .ok (.getfield 20, 3) := by decide +kernel
theorem dX7_readKey_116 : decode cX7_readKey 116 = .ok (.aload_n 2, 1) := by decide +kernel
theorem dX7_readKey_117 : decode cX7_readKey 117 = .ok (.iconst 0, 1) := by decide +kernel
theorem dX7_readKey_118 : decode cX7_readKey 118 = .ok (.aload_n 2, 1) := by decide +kernel
theorem dX7_readKey_119 : decode cX7_readKey 119 = .ok (.getfield 235, 3) := by decide +kernel
theorem dX7_readKey_122 : decode cX7_readKey 122 = .ok (.invokevirtual 150, 3) := by decide +kernel
theorem dX7_readKey_125 : decode cX7_readKey 125 = .ok (.ifCond .eq 55, 3) := by decide +kernel
theorem dX7_readKey_128 : decode cX7_readKey 128 = .ok (.aload_n 0, 1) := by decide +kernel
theorem dX7_readKey_129 : decode cX7_readKey 129 = .ok (.getfield 20, 3) := by decide +kernel
theorem dX7_readKey_132 : decode cX7_readKey 132 = .ok (.ldc 252, 2) := by decide +kernel
theorem dX7_readKey_134 : decode cX7_readKey 134 = .ok (.aload_n 0, 1) := by decide +kernel
theorem dX7_readKey_135 : decode cX7_readKey 135 = .ok (.getfield 39, 3) := by decide +kernel
theorem dX7_readKey_138 : decode cX7_readKey 138 = .ok (.bipush 64, 2) := by decide +kernel
theorem dX7_readKey_140 : decode cX7_readKey 140 = .ok (.invokevirtual 173, 3) := by decide +kernel
theorem dX7_readKey_143 : decode cX7_readKey 143 = .ok (.ifCond .eq 37, 3) := by decide +kernel
theorem dX7_readKey_146 : decode cX7_readKey 146 = .ok (.aload_n 0, 1) := by decide +kernel
theorem dX7_readKey_147 : decode cX7_readKey 147 = .ok (.getfield 20, 3) := by decide +kernel
theorem dX7_readKey_150 : decode cX7_readKey 150 = .ok (.ldc 154, 2) := by decide +kernel
theorem dX7_readKey_152 : decode cX7_readKey 152 = .ok (.ldc 254, 2) := by decide +kernel
theorem dX7_readKey_154 : decode cX7_readKey 154 = .ok (.invokevirtual 256, 3) := by decide +kernel
theorem dX7_readKey_157 : decode cX7_readKey 157 = .ok (.ifCond .eq 23, 3) := by decide +kernel
theorem dX7_readKey_160 : decode cX7_readKey 160 = .ok (.aload_n 0, 1) := by decide +kernel
theorem dX7_readKey_161 : decode cX7_readKey 161 = .ok (.getfield 20, 3) := by decide +kernel
theorem dX7_readKey_164 : decode cX7_readKey 164 = .ok (.ldc_w 259, 3) := by decide +kernel
theorem dX7_readKey_167 : decode cX7_readKey 167 = .ok (.ldc_w 261, 3) := by decide +kernel
theorem dX7_readKey_170 : decode cX7_readKey 170 = .ok (.invokevirtual 256, 3) := by decide +kernel
theorem dX7_readKey_173 : decode cX7_readKey 173 = .ok (.ifCond .eq 7, 3) := by decide +kernel
theorem dX7_readKey_176 : decode cX7_readKey 176 = .ok (.iconst 1, 1) := by decide +kernel
theorem dX7_readKey_177 : decode cX7_readKey 177 = .ok (.goto 4, 3) := by decide +kernel
theorem dX7_readKey_180 : decode cX7_readKey 180 = .ok (.iconst 0, 1) := by decide +kernel
theorem dX7_readKey_181 : decode cX7_readKey 181 = .ok (.istore_n 3, 1) := by decide +kernel
theorem dX7_readKey_182 : decode cX7_readKey 182 = .ok (.iload_n 3, 1) := by decide +kernel
theorem dX7_readKey_183 : decode cX7_readKey 183 = .ok (.ifCond .eq 36, 3) := by decide +kernel
theorem dX7_readKey_186 : decode cX7_readKey 186 = .ok (.aload_n 0, 1) := by decide +kernel
theorem dX7_readKey_187 : decode cX7_readKey 187 = .ok (.getfield 39, 3) := by decide +kernel
theorem dX7_readKey_190 : decode cX7_readKey 190 = .ok (.iconst 0, 1) := by decide +kernel
theorem dX7_readKey_191 : decode cX7_readKey 191 = .ok (.invokevirtual 209, 3) := by decide +kernel
theorem dX7_readKey_194 : decode cX7_readKey 194 = .ok (.sipush 128, 3) := by decide +kernel
theorem dX7_readKey_197 : decode cX7_readKey 197 = .ok (.if_icmp .lt 22, 3) := by decide +kernel
theorem dX7_readKey_200 : decode cX7_readKey 200 = .ok (.aload_n 0, 1) := by decide +kernel
theorem dX7_readKey_201 : decode cX7_readKey 201 = .ok (.getfield 39, 3) := by decide +kernel
theorem dX7_readKey_204 : decode cX7_readKey 204 = .ok (.bipush 63, 2) := by decide +kernel
theorem dX7_readKey_206 : decode cX7_readKey 206 = .ok (.invokevirtual 209, 3) := by decide +kernel
theorem dX7_readKey_209 : decode cX7_readKey 209 = .ok (.iconst 1, 1) := by decide +kernel
theorem dX7_readKey_210 : decode cX7_readKey 210 = .ok (.iand, 1) := by decide +kernel
theorem dX7_readKey_211 : decode cX7_readKey 211 = .ok (.iconst 1, 1) := by decide +kernel
theorem dX7_readKey_212 : decode cX7_readKey 212 = .ok (.if_icmp .ne 7, 3) := by decide +kernel
theorem dX7_readKey_215 : decode cX7_readKey 215 = .ok (.iconst 2, 1) := by decide +kernel
theorem dX7_readKey_216 : decode cX7_readKey 216 = .ok (.goto 5, 3) := by decide +kernel
theorem dX7_readKey_219 : decode cX7_readKey 219 = .ok (.bipush 6, 2) := by decide +kernel
theorem dX7_readKey_221 : decode cX7_readKey 221 = .ok (.ireturn, 1) := by decide +kernel
theorem dX7_writeDue_0 : decode cX7_writeDue 0 = .ok (.aload_n 0, 1) := by decide +kernel
theorem dX7_writeDue_1 : decode cX7_writeDue 1 = .ok (.getfield 48, 3) := by decide +kernel
theorem dX7_writeDue_4 : decode cX7_writeDue 4 = .ok (.invokevirtual 95, 3) := by decide +kernel
theorem dX7_writeDue_7 : decode cX7_writeDue 7 = .ok (.aload_n 0, 1) := by decide +kernel
theorem dX7_writeDue_8 : decode cX7_writeDue 8 = .ok (.getfield 48, 3) := by decide +kernel
theorem dX7_writeDue_11 : decode cX7_writeDue 11 = .ok (.iconst 0, 1) := by decide +kernel
theorem dX7_writeDue_12 : decode cX7_writeDue 12 = .ok (.invokevirtual 297, 3) := by decide +kernel
theorem dX7_writeDue_15 : decode cX7_writeDue 15 = .ok (.aload_n 0, 1) := by decide +kernel
theorem dX7_writeDue_16 : decode cX7_writeDue 16 = .ok (.getfield 48, 3) := by decide +kernel
theorem dX7_writeDue_19 : decode cX7_writeDue 19 = .ok (.iconst 1, 1) := by decide +kernel
theorem dX7_writeDue_20 : decode cX7_writeDue 20 = .ok (.invokevirtual 297, 3) := by decide +kernel
theorem dX7_writeDue_23 : decode cX7_writeDue 23 = .ok (.iconst 0, 1) := by decide +kernel
theorem dX7_writeDue_24 : decode cX7_writeDue 24 = .ok (.istore_n 1, 1) := by decide +kernel
theorem dX7_writeDue_25 : decode cX7_writeDue 25 = .ok (.iload_n 1, 1) := by decide +kernel
theorem dX7_writeDue_26 : decode cX7_writeDue 26 = .ok (.bipush 10, 2) := by decide +kernel
theorem dX7_writeDue_28 : decode cX7_writeDue 28 = .ok (.if_icmp .ge 19, 3) := by decide +kernel
theorem dX7_writeDue_31 : decode cX7_writeDue 31 = .ok (.aload_n 0, 1) := by decide +kernel
theorem dX7_writeDue_32 : decode cX7_writeDue 32 = .ok (.getfield 48, 3) := by decide +kernel
theorem dX7_writeDue_35 : decode cX7_writeDue 35 = .ok (.sipush 255, 3) := by decide +kernel
theorem dX7_writeDue_38 : decode cX7_writeDue 38 = .ok (.invokevirtual 297, 3) := by decide +kernel
theorem dX7_writeDue_41 : decode cX7_writeDue 41 = .ok (.iinc 1 1, 3) := by decide +kernel
theorem dX7_writeDue_44 : decode cX7_writeDue 44 = .ok (.goto (-19), 3) := by decide +kernel
theorem dX7_writeDue_47 : decode cX7_writeDue 47 = .ok (.aload_n 0, 1) := by decide +kernel
theorem dX7_writeDue_48 : decode cX7_writeDue 48 = .ok (.getfield 48, 3) := by decide +kernel
theorem dX7_writeDue_51 : decode cX7_writeDue 51 = .ok (.iconst 0, 1) := by decide +kernel
theorem dX7_writeDue_52 : decode cX7_writeDue 52 = .ok (.invokevirtual 297, 3) := by decide +kernel
theorem dX7_writeDue_55 : decode cX7_writeDue 55 = .ok (.iconst 0, 1) := by decide +kernel
theorem dX7_writeDue_56 : decode cX7_writeDue 56 = .ok (.istore_n 1, 1) := by decide +kernel
theorem dX7_writeDue_57 : decode cX7_writeDue 57 = .ok (.iload_n 1, 1) := by decide +kernel
theorem dX7_writeDue_58 : decode cX7_writeDue 58 = .ok (.getstatic 307, 3) := by decide +kernel
theorem dX7_writeDue_61 : decode cX7_writeDue 61 = .ok (.arraylength, 1) := by decide +kernel
theorem dX7_writeDue_62 : decode cX7_writeDue 62 = .ok (.if_icmp .ge 21, 3) := by decide +kernel
theorem dX7_writeDue_65 : decode cX7_writeDue 65 = .ok (.aload_n 0, 1) := by decide +kernel
theorem dX7_writeDue_66 : decode cX7_writeDue 66 = .ok (.getfield 48, 3) := by decide +kernel
theorem dX7_writeDue_69 : decode cX7_writeDue 69 = .ok (.getstatic 307, 3) := by decide +kernel
theorem dX7_writeDue_72 : decode cX7_writeDue 72 = .ok (.iload_n 1, 1) := by decide +kernel
theorem dX7_writeDue_73 : decode cX7_writeDue 73 = .ok (.iaload, 1) := by decide +kernel
theorem dX7_writeDue_74 : decode cX7_writeDue 74 = .ok (.invokevirtual 297, 3) := by decide +kernel
theorem dX7_writeDue_77 : decode cX7_writeDue 77 = .ok (.iinc 1 1, 3) := by decide +kernel
theorem dX7_writeDue_80 : decode cX7_writeDue 80 = .ok (.goto (-23), 3) := by decide +kernel
theorem dX7_writeDue_83 : decode cX7_writeDue 83 = .ok (.aload_n 0, 1) := by decide +kernel
theorem dX7_writeDue_84 : decode cX7_writeDue 84 = .ok (.getfield 48, 3) := by decide +kernel
theorem dX7_writeDue_87 : decode cX7_writeDue 87 = .ok (.aload_n 0, 1) := by decide +kernel
theorem dX7_writeDue_88 : decode cX7_writeDue 88 = .ok (.getfield 42, 3) := by decide +kernel
theorem dX7_writeDue_91 : decode cX7_writeDue 91 = .ok (.iconst 0, 1) := by decide +kernel
theorem dX7_writeDue_92 : decode cX7_writeDue 92 = .ok (.aload_n 0, 1) := by decide +kernel
theorem dX7_writeDue_93 : decode cX7_writeDue 93 = .ok (.getfield 42, 3) := by decide +kernel
theorem dX7_writeDue_96 : decode cX7_writeDue 96 = .ok (.getfield 235, 3) := by decide +kernel
theorem dX7_writeDue_99 : decode cX7_writeDue 99 = .ok (.invokevirtual 109, 3) := by decide +kernel
theorem dX7_writeDue_102 : decode cX7_writeDue 102 = .ok (.return_, 1) := by decide +kernel
theorem kt_360 : Cond.fieldLink RX7 48 "PostGate$Sealer" "due" "LPostGate$Bytes;" ∈ tb := tb_at (i := 343) (by decide +kernel) (by decide +kernel)
theorem kt_361 : Cond.methodLink RX7 95 yX0_clear ∈ tb := tb_at (i := 952) (by decide +kernel) (by decide +kernel)
theorem kt_362 : Cond.methodLink RX7 297 yX0_add ∈ tb := tb_at (i := 1033) (by decide +kernel) (by decide +kernel)
theorem kt_363 : Cond.fieldLink RX7 307 "PostGate$Sealer" "DIGEST_INFO" "[I" ∈ tb := tb_at (i := 1050) (by decide +kernel) (by decide +kernel)
theorem kt_364 : Cond.fieldLink RX7 42 "PostGate$Sealer" "sum" "LPostGate$Bytes;" ∈ tb := tb_at (i := 341) (by decide +kernel) (by decide +kernel)
theorem kt_365 : Cond.methodLink RX7 109 yX0_addRange ∈ tb := tb_at (i := 953) (by decide +kernel) (by decide +kernel)
theorem kt_366 : Cond.fieldLink RX7 30 "PostGate$Sealer" "keyName" "LPostGate$Bytes;" ∈ tb := tb_at (i := 337) (by decide +kernel) (by decide +kernel)
theorem kt_367 : Cond.code yX0_addText cX0_addText 3 none ∈ tb := tb_at (i := 751) (by decide +kernel) (by decide +kernel)
theorem kt_368 : Cond.methodLink RX7 231 yX0_addText ∈ tb := tb_at (i := 959) (by decide +kernel) (by decide +kernel)
theorem kt_369 : Cond.instanceMethod yX0_addText ∈ tb := tb_at (i := 749) (by decide +kernel) (by decide +kernel)
theorem kt_370 : Cond.selects RX0 yX0_addText yX0_addText ∈ tb := tb_at (i := 750) (by decide +kernel) (by decide +kernel)
theorem kt_371 : Cond.fieldLink RX7 26 "PostGate$Sealer" "domain" "LPostGate$Bytes;" ∈ tb := tb_at (i := 335) (by decide +kernel) (by decide +kernel)
theorem kt_372 : Cond.fieldLink RX7 81 "PostGate$Sealer" "directory" "LPostGate$Directory;" ∈ tb := tb_at (i := 332) (by decide +kernel) (by decide +kernel)
theorem kt_373 : Cond.code yX2_has cX2_has 4 (some .boolean) ∈ tb := tb_at (i := 604) (by decide +kernel) (by decide +kernel)
theorem kt_374 : Cond.methodLink RX7 241 yX2_has ∈ tb := tb_at (i := 960) (by decide +kernel) (by decide +kernel)
theorem kt_375 : Cond.instanceMethod yX2_has ∈ tb := tb_at (i := 602) (by decide +kernel) (by decide +kernel)
theorem kt_376 : Cond.selects RX2 yX2_has yX2_has ∈ tb := tb_at (i := 603) (by decide +kernel) (by decide +kernel)
theorem kt_377 : Cond.code yX2_firstText cX2_firstText 3 (some .int) ∈ tb := tb_at (i := 964) (by decide +kernel) (by decide +kernel)
theorem kt_378 : Cond.methodLink RX7 244 yX2_firstText ∈ tb := tb_at (i := 961) (by decide +kernel) (by decide +kernel)
theorem kt_379 : Cond.instanceMethod yX2_firstText ∈ tb := tb_at (i := 962) (by decide +kernel) (by decide +kernel)
theorem kt_380 : Cond.selects RX2 yX2_firstText yX2_firstText ∈ tb := tb_at (i := 963) (by decide +kernel) (by decide +kernel)
theorem kt_381 : Cond.code yX2_valueAt cX2_valueAt 2 (some (.object "PostGate$Bytes")) ∈ tb := tb_at (i := 675) (by decide +kernel) (by decide +kernel)
theorem kt_382 : Cond.methodLink RX7 248 yX2_valueAt ∈ tb := tb_at (i := 965) (by decide +kernel) (by decide +kernel)
theorem kt_383 : Cond.instanceMethod yX2_valueAt ∈ tb := tb_at (i := 673) (by decide +kernel) (by decide +kernel)
theorem kt_384 : Cond.selects RX2 yX2_valueAt yX2_valueAt ∈ tb := tb_at (i := 674) (by decide +kernel) (by decide +kernel)
theorem kt_385 : Cond.fieldLink RX7 39 "PostGate$Sealer" "modulus" "LPostGate$Bytes;" ∈ tb := tb_at (i := 340) (by decide +kernel) (by decide +kernel)
theorem kt_386 : Cond.fieldLink RX7 20 "PostGate$Sealer" "key" "LPostGate$Tags;" ∈ tb := tb_at (i := 334) (by decide +kernel) (by decide +kernel)
theorem kt_387 : Cond.code yX9_isOrMisses cX9_isOrMisses 4 (some .boolean) ∈ tb := tb_at (i := 971) (by decide +kernel) (by decide +kernel)
theorem kt_388 : Cond.methodLink RX7 256 yX9_isOrMisses ∈ tb := tb_at (i := 968) (by decide +kernel) (by decide +kernel)
theorem kt_389 : Cond.instanceMethod yX9_isOrMisses ∈ tb := tb_at (i := 969) (by decide +kernel) (by decide +kernel)
theorem kt_390 : Cond.selects RX9 yX9_isOrMisses yX9_isOrMisses ∈ tb := tb_at (i := 970) (by decide +kernel) (by decide +kernel)
theorem kt_391 : Cond.fieldLink RX7 51 "PostGate$Sealer" "work" "LPostGate$Bytes;" ∈ tb := tb_at (i := 344) (by decide +kernel) (by decide +kernel)
theorem kt_392 : Cond.code yX4_addBody cX4_addBody 4 none ∈ tb := tb_at (i := 981) (by decide +kernel) (by decide +kernel)
theorem kt_393 : Cond.methodLink RX7 263 yX4_addBody ∈ tb := tb_at (i := 978) (by decide +kernel) (by decide +kernel)
theorem kt_394 : Cond.instanceMethod yX4_addBody ∈ tb := tb_at (i := 979) (by decide +kernel) (by decide +kernel)
theorem kt_395 : Cond.selects RX4 yX4_addBody yX4_addBody ∈ tb := tb_at (i := 980) (by decide +kernel) (by decide +kernel)
theorem kt_396 : Cond.fieldLink RX7 63 "PostGate$Sealer" "sha" "LPostGate$Sha;" ∈ tb := tb_at (i := 346) (by decide +kernel) (by decide +kernel)
theorem kt_397 : Cond.code yX8_sumOf cX8_sumOf 7 none ∈ tb := tb_at (i := 992) (by decide +kernel) (by decide +kernel)
theorem kt_398 : Cond.methodLink RX7 267 yX8_sumOf ∈ tb := tb_at (i := 989) (by decide +kernel) (by decide +kernel)
theorem kt_399 : Cond.instanceMethod yX8_sumOf ∈ tb := tb_at (i := 990) (by decide +kernel) (by decide +kernel)
theorem kt_400 : Cond.selects RX8 yX8_sumOf yX8_sumOf ∈ tb := tb_at (i := 991) (by decide +kernel) (by decide +kernel)
theorem kt_401 : Cond.methodLink RX7 271 yX0_same ∈ tb := tb_at (i := 1012) (by decide +kernel) (by decide +kernel)
theorem kt_402 : Cond.code yX7_writeDue cX7_writeDue 2 none ∈ tb := tb_at (i := 1049) (by decide +kernel) (by decide +kernel)
theorem kt_403 : Cond.methodLink RX7 275 yX7_writeDue ∈ tb := tb_at (i := 1046) (by decide +kernel) (by decide +kernel)
theorem kt_404 : Cond.instanceMethod yX7_writeDue ∈ tb := tb_at (i := 1048) (by decide +kernel) (by decide +kernel)
theorem kt_405 : Cond.selects RX7 yX7_writeDue yX7_writeDue ∈ tb := tb_at (i := 32) (by decide +kernel) (by decide +kernel)
theorem kt_406 : Cond.fieldLink RX7 70 "PostGate$Sealer" "powers" "LPostGate$Power;" ∈ tb := tb_at (i := 347) (by decide +kernel) (by decide +kernel)
theorem kt_407 : Cond.fieldLink RX7 45 "PostGate$Sealer" "power" "LPostGate$Bytes;" ∈ tb := tb_at (i := 342) (by decide +kernel) (by decide +kernel)
theorem kt_408 : Cond.code yX6_of cX6_of 5 none ∈ tb := tb_at (i := 1055) (by decide +kernel) (by decide +kernel)
theorem kt_409 : Cond.methodLink RX7 278 yX6_of ∈ tb := tb_at (i := 1052) (by decide +kernel) (by decide +kernel)
theorem kt_410 : Cond.instanceMethod yX6_of ∈ tb := tb_at (i := 1053) (by decide +kernel) (by decide +kernel)
theorem kt_411 : Cond.selects RX6 yX6_of yX6_of ∈ tb := tb_at (i := 1054) (by decide +kernel) (by decide +kernel)
theorem kt_412 : Cond.fieldLink RX7 56 "PostGate$Sealer" "taken" "[Z" ∈ tb := tb_at (i := 345) (by decide +kernel) (by decide +kernel)
theorem kt_413 : Cond.code yX4_isNamedLike cX4_isNamedLike 6 (some .boolean) ∈ tb := tb_at (i := 1024) (by decide +kernel) (by decide +kernel)
theorem kt_414 : Cond.methodLink RX7 289 yX4_isNamedLike ∈ tb := tb_at (i := 1021) (by decide +kernel) (by decide +kernel)
theorem kt_415 : Cond.instanceMethod yX4_isNamedLike ∈ tb := tb_at (i := 1022) (by decide +kernel) (by decide +kernel)
theorem kt_416 : Cond.selects RX4 yX4_isNamedLike yX4_isNamedLike ∈ tb := tb_at (i := 1023) (by decide +kernel) (by decide +kernel)
theorem kt_417 : Cond.code yX4_addFieldWithout cX4_addFieldWithout 7 none ∈ tb := tb_at (i := 1028) (by decide +kernel) (by decide +kernel)
theorem kt_418 : Cond.methodLink RX7 293 yX4_addFieldWithout ∈ tb := tb_at (i := 1025) (by decide +kernel) (by decide +kernel)
theorem kt_419 : Cond.instanceMethod yX4_addFieldWithout ∈ tb := tb_at (i := 1026) (by decide +kernel) (by decide +kernel)
theorem kt_420 : Cond.selects RX4 yX4_addFieldWithout yX4_addFieldWithout ∈ tb := tb_at (i := 1027) (by decide +kernel) (by decide +kernel)
theorem kt_421 : Cond.code yX7_addLast cX7_addLast 5 none ∈ tb := tb_at (i := 1020) (by decide +kernel) (by decide +kernel)
theorem kt_422 : Cond.methodLink RX7 282 yX7_addLast ∈ tb := tb_at (i := 1017) (by decide +kernel) (by decide +kernel)
theorem kt_423 : Cond.instanceMethod yX7_addLast ∈ tb := tb_at (i := 1019) (by decide +kernel) (by decide +kernel)
theorem kt_424 : Cond.selects RX7 yX7_addLast yX7_addLast ∈ tb := tb_at (i := 28) (by decide +kernel) (by decide +kernel)
theorem kt_425 : Cond.code yX7_isLetterB cX7_isLetterB 7 (some .boolean) ∈ tb := tb_at (i := 1040) (by decide +kernel) (by decide +kernel)
theorem kt_426 : Cond.methodLink RX7 300 yX7_isLetterB ∈ tb := tb_at (i := 1038) (by decide +kernel) (by decide +kernel)
theorem kt_427 : Cond.static yX7_isLetterB ∈ tb := tb_at (i := 1039) (by decide +kernel) (by decide +kernel)
theorem kt_428 : Cond.code yX7_isWell cX7_isWell 3 (some .boolean) ∈ tb := tb_at (i := 849) (by decide +kernel) (by decide +kernel)
theorem kt_429 : Cond.methodLink RX7 85 yX7_isWell ∈ tb := tb_at (i := 846) (by decide +kernel) (by decide +kernel)
theorem kt_430 : Cond.instanceMethod yX7_isWell ∈ tb := tb_at (i := 848) (by decide +kernel) (by decide +kernel)
theorem kt_431 : Cond.selects RX7 yX7_isWell yX7_isWell ∈ tb := tb_at (i := 14) (by decide +kernel) (by decide +kernel)
theorem kt_432 : Cond.code yX4_countOf cX4_countOf 4 (some .int) ∈ tb := tb_at (i := 826) (by decide +kernel) (by decide +kernel)
theorem kt_433 : Cond.methodLink RX7 91 yX4_countOf ∈ tb := tb_at (i := 951) (by decide +kernel) (by decide +kernel)
theorem kt_434 : Cond.instanceMethod yX4_countOf ∈ tb := tb_at (i := 824) (by decide +kernel) (by decide +kernel)
theorem kt_435 : Cond.selects RX4 yX4_countOf yX4_countOf ∈ tb := tb_at (i := 825) (by decide +kernel) (by decide +kernel)
theorem kt_436 : Cond.code yX7_readKey cX7_readKey 4 (some .int) ∈ tb := tb_at (i := 957) (by decide +kernel) (by decide +kernel)
theorem kt_437 : Cond.methodLink RX7 122 yX7_readKey ∈ tb := tb_at (i := 954) (by decide +kernel) (by decide +kernel)
theorem kt_438 : Cond.instanceMethod yX7_readKey ∈ tb := tb_at (i := 956) (by decide +kernel) (by decide +kernel)
theorem kt_439 : Cond.selects RX7 yX7_readKey yX7_readKey ∈ tb := tb_at (i := 22) (by decide +kernel) (by decide +kernel)
theorem kt_440 : Cond.code yX7_isBodyRight cX7_isBodyRight 3 (some .boolean) ∈ tb := tb_at (i := 977) (by decide +kernel) (by decide +kernel)
theorem kt_441 : Cond.methodLink RX7 126 yX7_isBodyRight ∈ tb := tb_at (i := 974) (by decide +kernel) (by decide +kernel)
theorem kt_442 : Cond.instanceMethod yX7_isBodyRight ∈ tb := tb_at (i := 976) (by decide +kernel) (by decide +kernel)
theorem kt_443 : Cond.selects RX7 yX7_isBodyRight yX7_isBodyRight ∈ tb := tb_at (i := 23) (by decide +kernel) (by decide +kernel)
theorem kt_444 : Cond.code yX7_addListed cX7_addListed 5 none ∈ tb := tb_at (i := 1016) (by decide +kernel) (by decide +kernel)
theorem kt_445 : Cond.methodLink RX7 130 yX7_addListed ∈ tb := tb_at (i := 1013) (by decide +kernel) (by decide +kernel)
theorem kt_446 : Cond.instanceMethod yX7_addListed ∈ tb := tb_at (i := 1015) (by decide +kernel) (by decide +kernel)
theorem kt_447 : Cond.selects RX7 yX7_addListed yX7_addListed ∈ tb := tb_at (i := 27) (by decide +kernel) (by decide +kernel)
theorem kt_448 : Cond.code yX7_addOwn cX7_addOwn 8 none ∈ tb := tb_at (i := 1037) (by decide +kernel) (by decide +kernel)
theorem kt_449 : Cond.methodLink RX7 134 yX7_addOwn ∈ tb := tb_at (i := 1034) (by decide +kernel) (by decide +kernel)
theorem kt_450 : Cond.instanceMethod yX7_addOwn ∈ tb := tb_at (i := 1036) (by decide +kernel) (by decide +kernel)
theorem kt_451 : Cond.selects RX7 yX7_addOwn yX7_addOwn ∈ tb := tb_at (i := 30) (by decide +kernel) (by decide +kernel)
theorem kt_452 : Cond.code yX7_isSigned cX7_isSigned 1 (some .boolean) ∈ tb := tb_at (i := 1045) (by decide +kernel) (by decide +kernel)
theorem kt_453 : Cond.methodLink RX7 138 yX7_isSigned ∈ tb := tb_at (i := 1042) (by decide +kernel) (by decide +kernel)
theorem kt_454 : Cond.instanceMethod yX7_isSigned ∈ tb := tb_at (i := 1044) (by decide +kernel) (by decide +kernel)
theorem kt_455 : Cond.selects RX7 yX7_isSigned yX7_isSigned ∈ tb := tb_at (i := 31) (by decide +kernel) (by decide +kernel)
theorem kn_11 : Cond.fieldLinkNest RX7 235 "PostGate$Bytes" "size" "I" "PostGate" ∈ nw := nw_at (i := 47) (by decide +kernel) rfl
theorem kn_12 : Cond.fieldLinkNest RX7 286 "PostGate$Message" "count" "I" "PostGate" ∈ nw := nw_at (i := 362) (by decide +kernel) rfl
section
variable {p : Program} {l : Launch} {e : Env} {R : Room} {s : State} {m : MethodId} {args : Array Value} {below : List Frame} {meth : Method} {c : Code} {H : Heap} {locs : List Loc} {cells slots : Nat} {Q : State → Prop}
variable {cc : ByteArray} {pc : Nat} {ls : Array Slot} {rest : List Value}
theorem va_ldcwS (hexec : p.tables.exec = Jvm.exec) (hb : c.code = cc) {own tx : String} {index q : Nat} (hown : s.vm.findClass own = some m.cls) (hZ : vk_R own index tx q s) (hdg : decode cc pc = .ok (.ldc_w index, 3)) (k : W p l e R s m args below meth c H locs cells slots Q (F0 m (pc + 3) ls (.ref q :: rest))) : W p l e R s m args below meth c H locs cells slots Q (F0 m pc ls rest) := by
  intro T hT X
  obtain ⟨t, a1, b1⟩ := k T hT X
  obtain ⟨kk, cf, i, a', hk, hcf, hcp, -, hr, hev'⟩ := Cond.stringRef_spec hown hZ.1
  cases hZ.2.symm.trans hev'
  obtain ⟨k', hk', he⟩ := X.warmed.alike.2.2 _ _ hk
  have hr' : k'.resolved[index]? = some (some (.string q)) := by
    rcases X.warmed.entry hk hk' index with h | ⟨h, -⟩
    · rw [h]; exact hr
    · rw [hr] at h; cases h
  refine ⟨t, ?_, b1⟩
  jvm_step X.here [hexec, hb, hdg, ldc_w.wp_string (e := e) (s := T) (f := F0 m pc ls rest) X.here.top hk' (by rw [he]; exact hcf) hcp hr']
  exact a1
end
set_option maxHeartbeats 4000000 in
set_option maxRecDepth 100000 in
theorem s_X7_writeDue (l : Launch) (dC : Nat → ClassId) (dI : Nat → Nat → Nat) (cs : Nat → ClassId) (ty : TyM) (L : List Nat) (sz : Nat) (F : Nat → va_E) (h0 : Nat) (ρ : Nat) (d : Nat) (δ : Nat) (ea : Nat) (sl : Nat) (sx : Nat) (sy0 : Nat) (sy1 : Nat) (sy2 : Nat) (ke : Nat) (kx : Nat) (ky0 : Nat) (ky1 : Nat) (ky2 : Nat) (w0 : Nat) (w1 : Nat) (w2 : Nat) (w3 : Nat) (w4 : Nat) (w5 : Nat) (w6 : Nat) (w7 : Nat) (w8 : Nat) (tk : Nat) (hs : Nat) (ha : Nat) (hbb : Nat) (hcc : Nat) (pw : Nat) (px : Nat) (py : Nat) (pz : Nat) (pu : Nat) (hW : WT ty L) (hL_h0 : h0 ∈ L) (hT_h0 : ty h0 = (7, ρ, [d, δ, ea, sl, sx, sy0, sy1, sy2, ke, kx, ky0, ky1, ky2, w0, w1, w2, w3, w4, w5, w6, w7, w8, tk, hs, ha, hbb, hcc, pw, px, py, pz, pu])) : Met l yX7_writeDue (.code yX7_writeDue cX7_writeDue 2 none :: tb) ({ frames := 2, cells := 0, slots := 0, locals := 74 }) (va_Pc [.ref h0] (PTE (dC, dI) cs ty L F sz [])) (va_Qv (fun _ : Unit => True) (fun _ T9 => ∃ F2 : Nat → va_E, QT (dC, dI) cs ty L [ρ + 82, ρ + 83, ρ + 84, ρ + 85, ρ + 86, ρ + 87, ρ + 88, ρ + 89, ρ + 90, ρ + 91] F F2 (va_A (va_pl L F) sz) T9) (va_A (va_pl L F) sz)) 0 0 (va_A (va_pl L F) sz) := by
  refine Met.ofW (cc := cX7_writeDue) (maxL := 2) (ret := none) (by decide) rfl ?_
  intro p e s m args below meth c s₁ B hml hv
  obtain ⟨rfl, ⟨hsz, hP, hK, hD0, hE, hO⟩, hG, hX⟩ := hv
  have hx := B.exec
  have hb := B.bytes
  have hr := B.returns
  have hts : ∀ w ∈ tb, w.before _ s = true := fun w h => atoms_spec (ws := .code yX7_writeDue cX7_writeDue 2 none :: tb) B.pre w (List.mem_cons_of_mem _ h)
  have hown : s.vm.findClass RX7 = some m.cls := findClass_of_methodNamed B.named
  have hlocks := B.notSynchronized
  subst hsz
  have hD := hD0.self (sz := s.heap.size)
  generalize hAe : va_A (va_pl L F) s.heap.size = A at hD hG hX ⊢
  have hA : ∀ q : Nat, s.heap.size ≤ q → A q := fun q h => by rw [← hAe]; exact Or.inr h
  have hS : va_S A s.heap s.heap [] := va_S.rf
  have hR : FR ty [ρ + 82, ρ + 83, ρ + 84, ρ + 85, ρ + 86, ρ + 87, ρ + 88, ρ + 89, ρ + 90, ρ + 91] F F := FR.refl
  have hl := lv_entry ([.ref h0]) (n := 2) (Nat.le_of_ble_eq_true rfl)
  rw [lg_entry_eq]
  generalize (lg_sl ([.ref h0]) ++ List.replicate (2 - (lg_sl ([.ref h0])).length) Slot.unset).toArray = ls at hl ⊢
  have hl : lv_has ls 2 [(0, .ref h0)] := hl
  refine lv_aload_n hx hb dX7_writeDue_0 rfl (lv_at hl 0 rfl) ?_
  obtain ⟨hi_1, ht_2, hi_3, ht_4, hi_5, ht_6, hi_7, ⟨r_8, ht_9⟩, hi_10, ⟨r_11, ht_12⟩, hi_13, ⟨r_14, ht_15⟩, hi_16, ⟨r_17, ht_18⟩, hi_19, ⟨r_20, ht_21⟩, hi_22, ⟨r_23, ht_24⟩, hi_25, ⟨r_26, ht_27⟩, hi_28, ⟨r_29, ht_30⟩, hi_31, ⟨r_32, ht_33⟩, hi_34, ht_35, hi_36, ht_37, hi_38, ht_39⟩ := hW.slr hL_h0 hT_h0
  obtain ⟨v0_40, v1_41, hF_42⟩ := hO.slr hL_h0 hT_h0
  refine pg_get (ci := 7) (v := .ref w7) (C := RX7) (T := TX7) (N := 17) hx hb hts it_7 hown hK hP hL_h0 hF_42 rfl 10 (by decide) (hts _ kt_360) (fun _ h9 => h9) rfl dX7_writeDue_1 ?_
  have hFc := pg_free hD hS hA
  obtain ⟨hi_43, ht_44, hq_45⟩ := hW.bytes hi_28 ht_30
  obtain ⟨z_46, o_47, hF_48, hq_49, hq_50⟩ := hO.bytes hi_28 ht_30
  refine va_callv (va_runV (As := []) (rest := []) ⟨hx, hb, hml, hown, hts⟩ (s_X0_clear l dC dI cs ty L s.heap.size F w7 (ρ + 89) r_29 64 hW hi_28 ht_30) ⟨callB_of 0 hts (gi kt_32) rfl rfl rfl (hts _ kt_1) (hts _ kt_361) (by decide +kernel) ⟨Nat.le_of_ble_eq_true rfl, Nat.le_of_ble_eq_true rfl⟩, (hts _ kt_34), (hts _ kt_35)⟩ ⟨fun a U g mk q => ⟨q.1, PT.calling q.2⟩, pg_recv hK hP hi_28 hF_48 (q := (RX0, TX0, 3)) rfl, fun U hU hWm => ⟨rfl, PT.mk hU hWm hP hK hD hE hO⟩⟩ rfl rfl hl.1 rfl (lv_room (Nat.le_of_ble_eq_true rfl)) dX7_writeDue_4 ⟨by show _ + 0 ≤ 0; omega, by show _ + 0 ≤ 0; omega⟩) hS (fun q _ h => hFc q h) hFc (fun u t H1 locs ht hvm hw hB hz1 hk1 hS => ?_)
  obtain ⟨F_52, hB1, hq_53⟩ := hB
  obtain ⟨hP, hD, hO, hR⟩ := QT.back hB1 ht hFc hR (fun q h => by simp only [List.mem_cons, List.not_mem_nil, or_false] at h ⊢; omega)
  have hF_54 : F_52 h0 = .inr (7, [.ref d, .ref sl, .ref ke, .ref w0, .ref w1, .ref w2, .ref w3, .ref w4, .ref w5, .ref w6, .ref w7, .ref w8, .ref tk, .ref hs, .ref pw, .int v0_40, .int v1_41]) := (hB1.2.2.2 h0 (by rw [hT_h0]; simp)).trans hF_42
  generalize H1 = H at hP hS ⊢
  refine lv_aload_n hx hb dX7_writeDue_7 rfl (lv_at hl 0 rfl) ?_
  refine pg_get (ci := 7) (v := .ref w7) (C := RX7) (T := TX7) (N := 17) hx hb hts it_7 hown hK hP hL_h0 hF_54 rfl 10 (by decide) (hts _ kt_360) (fun _ h9 => h9) rfl dX7_writeDue_8 ?_
  refine lv_iconst (v := 0) hx hb dX7_writeDue_11 (by decide) ?_
  have hFc := pg_free hD hS hA
  refine va_callv (va_runV (As := [.int 0]) (rest := []) ⟨hx, hb, hml, hown, hts⟩ (s_X0_add l dC dI cs ty L H.size F_52 w7 (ρ + 89) r_29 64 0 hW hi_28 ht_30) ⟨callB_of 1 hts (gi kt_13) rfl rfl rfl (hts _ kt_1) (hts _ kt_362) (by decide +kernel) ⟨Nat.le_of_ble_eq_true rfl, Nat.le_of_ble_eq_true rfl⟩, (hts _ kt_15), (hts _ kt_16)⟩ ⟨fun a U g mk q => ⟨q.1, PT.calling q.2⟩, pg_recv hK hP hi_28 hq_53 (q := (RX0, TX0, 3)) rfl, fun U hU hWm => ⟨rfl, PT.mk hU hWm hP hK hD hE hO⟩⟩ rfl rfl hl.1 rfl (lv_room (Nat.le_of_ble_eq_true rfl)) dX7_writeDue_12 ⟨by show _ + 0 ≤ 0; omega, by show _ + 0 ≤ 0; omega⟩) hS (fun q _ h => hFc q h) hFc (fun u t H1 locs ht hvm hw hB hz1 hk1 hS => ?_)
  obtain ⟨F_56, hB1⟩ := hB
  obtain ⟨hP, hD, hO, hR⟩ := QT.back hB1 ht hFc hR (fun q h => by simp only [List.mem_cons, List.not_mem_nil, or_false] at h ⊢; omega)
  have hF_57 : F_56 h0 = .inr (7, [.ref d, .ref sl, .ref ke, .ref w0, .ref w1, .ref w2, .ref w3, .ref w4, .ref w5, .ref w6, .ref w7, .ref w8, .ref tk, .ref hs, .ref pw, .int v0_40, .int v1_41]) := (hB1.2.2.2 h0 (by rw [hT_h0]; simp)).trans hF_54
  generalize H1 = H at hP hS ⊢
  refine lv_aload_n hx hb dX7_writeDue_15 rfl (lv_at hl 0 rfl) ?_
  refine pg_get (ci := 7) (v := .ref w7) (C := RX7) (T := TX7) (N := 17) hx hb hts it_7 hown hK hP hL_h0 hF_57 rfl 10 (by decide) (hts _ kt_360) (fun _ h9 => h9) rfl dX7_writeDue_16 ?_
  refine lv_iconst (v := 1) hx hb dX7_writeDue_19 (by decide) ?_
  have hFc := pg_free hD hS hA
  obtain ⟨z_58, o_59, hF_60, hq_61, hq_62⟩ := hO.bytes hi_28 ht_30
  refine va_callv (va_runV (As := [.int 1]) (rest := []) ⟨hx, hb, hml, hown, hts⟩ (s_X0_add l dC dI cs ty L H.size F_56 w7 (ρ + 89) r_29 64 1 hW hi_28 ht_30) ⟨callB_of 1 hts (gi kt_13) rfl rfl rfl (hts _ kt_1) (hts _ kt_362) (by decide +kernel) ⟨Nat.le_of_ble_eq_true rfl, Nat.le_of_ble_eq_true rfl⟩, (hts _ kt_15), (hts _ kt_16)⟩ ⟨fun a U g mk q => ⟨q.1, PT.calling q.2⟩, pg_recv hK hP hi_28 hF_60 (q := (RX0, TX0, 3)) rfl, fun U hU hWm => ⟨rfl, PT.mk hU hWm hP hK hD hE hO⟩⟩ rfl rfl hl.1 rfl (lv_room (Nat.le_of_ble_eq_true rfl)) dX7_writeDue_20 ⟨by show _ + 0 ≤ 0; omega, by show _ + 0 ≤ 0; omega⟩) hS (fun q _ h => hFc q h) hFc (fun u t H1 locs ht hvm hw hB hz1 hk1 hS => ?_)
  obtain ⟨F_64, hB1⟩ := hB
  obtain ⟨hP, hD, hO, hR⟩ := QT.back hB1 ht hFc hR (fun q h => by simp only [List.mem_cons, List.not_mem_nil, or_false] at h ⊢; omega)
  have hF_65 : F_64 h0 = .inr (7, [.ref d, .ref sl, .ref ke, .ref w0, .ref w1, .ref w2, .ref w3, .ref w4, .ref w5, .ref w6, .ref w7, .ref w8, .ref tk, .ref hs, .ref pw, .int v0_40, .int v1_41]) := (hB1.2.2.2 h0 (by rw [hT_h0]; simp)).trans hF_57
  generalize H1 = H at hP hS ⊢
  refine lv_iconst (v := 0) hx hb dX7_writeDue_23 (by decide) ?_
  refine lv_istore_n (lv' := [(1, .int 0), (0, .ref h0)]) hx hb dX7_writeDue_24 rfl hl (by decide) rfl (fun ls hl => ?_)
  refine W.widen (k := 0) (n := 0) (by omega) (by omega) ?_
  refine pl_loop (σ := Nat) A (dC, dI) cs ty L [ρ + 82, ρ + 83, ρ + 84, ρ + 85, ρ + 86, ρ + 87, ρ + 88, ρ + 89, ρ + 90, ρ + 91] F 25 2 (fun j => [(1, .int (nI j)), (0, .ref h0)]) (fun j => []) (fun j _ => j ≤ 10) (fun j => 10 - j) ?_ 0 F_64 (by omega) hO hR _ _ hP hD hS ls (lv_sub hl [0, 1] rfl)
  rintro j F_66 hv_67 hO hR ih_68 H locs hP hD hS ls hl
  have hl : lv_has ls 2 [(1, .int (nI j)), (0, .ref h0)] := hl
  have hv_67 : j ≤ 10 := hv_67
  refine W.eq (g2 := F0 m 25 ls []) rfl ?_
  refine lv_iload_n hx hb dX7_writeDue_25 rfl (lv_at hl 0 rfl) ?_
  refine lv_bipush (v := 10) hx hb dX7_writeDue_26 (by decide) ?_
  refine lv_icmp_ge (tgt := 47) hx hb dX7_writeDue_28 (by decide) (fun c_69 => ?_) (fun c_69 => ?_)
  ·
    have hi_70 : 10 ≤ j := leN (N := 10) c_69
    refine lv_aload_n hx hb dX7_writeDue_47 rfl (lv_at hl 1 rfl) ?_
    obtain ⟨v0_71, v1_72, hF_73⟩ := hO.slr hL_h0 hT_h0
    refine pg_get (ci := 7) (v := .ref w7) (C := RX7) (T := TX7) (N := 17) hx hb hts it_7 hown hK hP hL_h0 hF_73 rfl 10 (by decide) (hts _ kt_360) (fun _ h9 => h9) rfl dX7_writeDue_48 ?_
    refine lv_iconst (v := 0) hx hb dX7_writeDue_51 (by decide) ?_
    have hFc := pg_free hD hS hA
    obtain ⟨z_74, o_75, hF_76, hq_77, hq_78⟩ := hO.bytes hi_28 ht_30
    refine va_callv (va_runV (As := [.int 0]) (rest := []) ⟨hx, hb, hml, hown, hts⟩ (s_X0_add l dC dI cs ty L H.size F_66 w7 (ρ + 89) r_29 64 0 hW hi_28 ht_30) ⟨callB_of 1 hts (gi kt_13) rfl rfl rfl (hts _ kt_1) (hts _ kt_362) (by decide +kernel) ⟨Nat.le_of_ble_eq_true rfl, Nat.le_of_ble_eq_true rfl⟩, (hts _ kt_15), (hts _ kt_16)⟩ ⟨fun a U g mk q => ⟨q.1, PT.calling q.2⟩, pg_recv hK hP hi_28 hF_76 (q := (RX0, TX0, 3)) rfl, fun U hU hWm => ⟨rfl, PT.mk hU hWm hP hK hD hE hO⟩⟩ rfl rfl hl.1 rfl (lv_room (Nat.le_of_ble_eq_true rfl)) dX7_writeDue_52 ⟨by show _ + 0 ≤ 0; omega, by show _ + 0 ≤ 0; omega⟩) hS (fun q _ h => hFc q h) hFc (fun u t H1 locs ht hvm hw hB hz1 hk1 hS => ?_)
    obtain ⟨F_80, hB1⟩ := hB
    obtain ⟨hP, hD, hO, hR⟩ := QT.back hB1 ht hFc hR (fun q h => by simp only [List.mem_cons, List.not_mem_nil, or_false] at h ⊢; omega)
    have hF_81 : F_80 h0 = .inr (7, [.ref d, .ref sl, .ref ke, .ref w0, .ref w1, .ref w2, .ref w3, .ref w4, .ref w5, .ref w6, .ref w7, .ref w8, .ref tk, .ref hs, .ref pw, .int v0_71, .int v1_72]) := (hB1.2.2.2 h0 (by rw [hT_h0]; simp)).trans hF_73
    generalize H1 = H at hP hS ⊢
    refine lv_iconst (v := 0) hx hb dX7_writeDue_55 (by decide) ?_
    refine lv_istore_n (lv' := [(1, .int 0), (0, .ref h0)]) hx hb dX7_writeDue_56 rfl hl (by decide) rfl (fun ls hl => ?_)
    refine W.widen (k := 0) (n := 0) (by omega) (by omega) ?_
    refine pl_loop (σ := Nat) A (dC, dI) cs ty L [ρ + 82, ρ + 83, ρ + 84, ρ + 85, ρ + 86, ρ + 87, ρ + 88, ρ + 89, ρ + 90, ρ + 91] F 57 2 (fun j2 => [(1, .int (nI j2)), (0, .ref h0)]) (fun j2 => []) (fun j2 _ => j2 ≤ 19) (fun j2 => 19 - j2) ?_ 0 F_80 (by omega) hO hR _ _ hP hD hS ls (lv_sub hl [0, 1] rfl)
    rintro j2 F_82 hv_83 hO hR ih_84 H locs hP hD hS ls hl
    have hl : lv_has ls 2 [(1, .int (nI j2)), (0, .ref h0)] := hl
    have hv_83 : j2 ≤ 19 := hv_83
    refine W.eq (g2 := F0 m 57 ls []) rfl ?_
    refine lv_iload_n hx hb dX7_writeDue_57 rfl (lv_at hl 0 rfl) ?_
    obtain ⟨aD, fD, rfl, zD, tD⟩ := id hG.2.2.2.1
    refine va_gets hx hb zD hS hown (hts _ kt_363) (fun _ h9 => h9) dX7_writeDue_58 ?_
    refine va_tlen (v := 19) hx hb tD hS rfl dX7_writeDue_61 ?_
    refine lv_icmp_ge (tgt := 83) hx hb dX7_writeDue_62 (by decide) (fun c_85 => ?_) (fun c_85 => ?_)
    ·
      have hi_86 : 19 ≤ j2 := leN (N := 19) c_85
      refine lv_aload_n hx hb dX7_writeDue_83 rfl (lv_at hl 1 rfl) ?_
      obtain ⟨v0_87, v1_88, hF_89⟩ := hO.slr hL_h0 hT_h0
      refine pg_get (ci := 7) (v := .ref w7) (C := RX7) (T := TX7) (N := 17) hx hb hts it_7 hown hK hP hL_h0 hF_89 rfl 10 (by decide) (hts _ kt_360) (fun _ h9 => h9) rfl dX7_writeDue_84 ?_
      refine lv_aload_n hx hb dX7_writeDue_87 rfl (lv_at hl 1 rfl) ?_
      refine pg_get (ci := 7) (v := .ref w5) (C := RX7) (T := TX7) (N := 17) hx hb hts it_7 hown hK hP hL_h0 hF_89 rfl 8 (by decide) (hts _ kt_364) (fun _ h9 => h9) rfl dX7_writeDue_88 ?_
      refine lv_iconst (v := 0) hx hb dX7_writeDue_91 (by decide) ?_
      refine lv_aload_n hx hb dX7_writeDue_92 rfl (lv_at hl 1 rfl) ?_
      refine pg_get (ci := 7) (v := .ref w5) (C := RX7) (T := TX7) (N := 17) hx hb hts it_7 hown hK hP hL_h0 hF_89 rfl 8 (by decide) (hts _ kt_364) (fun _ h9 => h9) rfl dX7_writeDue_93 ?_
      obtain ⟨hi_90, ht_91, hq_92⟩ := hW.bytes hi_22 ht_24
      obtain ⟨z_93, o_94, hF_95, hq_96, hq_97⟩ := hO.bytes hi_22 ht_24
      refine pg_getN (ci := 0) (v := .int (nI z_93)) (C := RX0) (T := TX0) (N := 3) hx hb hts it_0 hown hK hP hi_22 hF_95 rfl 1 (by decide) (hE.nest kn_11) (fun _ h9 => h9) rfl dX7_writeDue_96 ?_
      have hFc := pg_free hD hS hA
      obtain ⟨z_98, o_99, hF_100, hq_101, hq_102⟩ := hO.bytes hi_28 ht_30
      refine va_callv (va_runV (As := [.ref w5, .int 0, .int (nI z_93)]) (rest := []) ⟨hx, hb, hml, hown, hts⟩ (s_X0_addRange l dC dI cs ty L H.size F_82 w7 (ρ + 89) r_29 64 w5 (ρ + 87) r_23 32 0 (nI z_93) hW hi_28 ht_30 hi_22 ht_24 (nI_pos (by omega))) ⟨callB_of 3 hts (gi kt_36) rfl rfl rfl (hts _ kt_1) (hts _ kt_365) (by decide +kernel) ⟨Nat.le_of_ble_eq_true rfl, Nat.le_of_ble_eq_true rfl⟩, (hts _ kt_38), (hts _ kt_39)⟩ ⟨fun a U g mk q => ⟨q.1, PT.calling q.2⟩, pg_recv hK hP hi_28 hF_100 (q := (RX0, TX0, 3)) rfl, fun U hU hWm => ⟨rfl, PT.mk hU hWm hP hK hD hE hO⟩⟩ rfl rfl hl.1 rfl (lv_room (Nat.le_of_ble_eq_true rfl)) dX7_writeDue_99 ⟨by show _ + 0 ≤ 0; omega, by show _ + 0 ≤ 0; omega⟩) hS (fun q _ h => hFc q h) hFc (fun u t H1 locs ht hvm hw hB hz1 hk1 hS => ?_)
      obtain ⟨F_104, hB1⟩ := hB
      obtain ⟨hP, hD, hO, hR⟩ := QT.back hB1 ht hFc hR (fun q h => by simp only [List.mem_cons, List.not_mem_nil, or_false] at h ⊢; omega)
      have hF_105 : F_104 h0 = .inr (7, [.ref d, .ref sl, .ref ke, .ref w0, .ref w1, .ref w2, .ref w3, .ref w4, .ref w5, .ref w6, .ref w7, .ref w8, .ref tk, .ref hs, .ref pw, .int v0_87, .int v1_88]) := (hB1.2.2.2 h0 (by rw [hT_h0]; simp)).trans hF_89
      have hF_106 : F_104 w5 = .inr (0, [.ref r_23, .int (nI z_93), .int o_94]) := (hB1.2.2.2 w5 (by rw [ht_24]; simp)).trans hF_95
      generalize H1 = H at hP hS ⊢
      refine W.widen (k := 0) (n := 0) (by omega) (by omega) ?_
      exact W.vret hx hb hr (fun t ht hWm => ⟨⟨(), rfl, trivial, ⟨F_104, QT.mk ht hP hD hO hR⟩⟩, hS.F ht⟩) hS.2.2 dX7_writeDue_102
    ·
      have hi_107 : j2 < 19 := ltN (N := 19) c_85
      refine lv_aload_n hx hb dX7_writeDue_65 rfl (lv_at hl 1 rfl) ?_
      obtain ⟨v0_108, v1_109, hF_110⟩ := hO.slr hL_h0 hT_h0
      refine pg_get (ci := 7) (v := .ref w7) (C := RX7) (T := TX7) (N := 17) hx hb hts it_7 hown hK hP hL_h0 hF_110 rfl 10 (by decide) (hts _ kt_360) (fun _ h9 => h9) rfl dX7_writeDue_66 ?_
      obtain ⟨aD, fD, rfl, zD, tD⟩ := id hG.2.2.2.1
      refine va_gets hx hb zD hS hown (hts _ kt_363) (fun _ h9 => h9) dX7_writeDue_69 ?_
      refine lv_iload_n hx hb dX7_writeDue_72 rfl (lv_at hl 0 rfl) ?_
      refine va_ti hx hb tD hS (vp_in_nI (by omega) (by omega)) rfl dX7_writeDue_73 ?_
      refine lv_topi (fun x_111 ex_111 => ?_)
      obtain rfl : x_111 = (dgI j2) := ex_111.trans (congrArg dgI (nI_clamp (by omega)))
      have hFc := pg_free hD hS hA
      obtain ⟨z_112, o_113, hF_114, hq_115, hq_116⟩ := hO.bytes hi_28 ht_30
      refine va_callv (va_runV (As := [.int (dgI j2)]) (rest := []) ⟨hx, hb, hml, hown, hts⟩ (s_X0_add l dC dI cs ty L H.size F_82 w7 (ρ + 89) r_29 64 (dgI j2) hW hi_28 ht_30) ⟨callB_of 1 hts (gi kt_13) rfl rfl rfl (hts _ kt_1) (hts _ kt_362) (by decide +kernel) ⟨Nat.le_of_ble_eq_true rfl, Nat.le_of_ble_eq_true rfl⟩, (hts _ kt_15), (hts _ kt_16)⟩ ⟨fun a U g mk q => ⟨q.1, PT.calling q.2⟩, pg_recv hK hP hi_28 hF_114 (q := (RX0, TX0, 3)) rfl, fun U hU hWm => ⟨rfl, PT.mk hU hWm hP hK hD hE hO⟩⟩ rfl rfl hl.1 rfl (lv_room (Nat.le_of_ble_eq_true rfl)) dX7_writeDue_74 ⟨by show _ + 0 ≤ 0; omega, by show _ + 0 ≤ 0; omega⟩) hS (fun q _ h => hFc q h) hFc (fun u t H1 locs ht hvm hw hB hz1 hk1 hS => ?_)
      obtain ⟨F_118, hB1⟩ := hB
      obtain ⟨hP, hD, hO, hR⟩ := QT.back hB1 ht hFc hR (fun q h => by simp only [List.mem_cons, List.not_mem_nil, or_false] at h ⊢; omega)
      have hF_119 : F_118 h0 = .inr (7, [.ref d, .ref sl, .ref ke, .ref w0, .ref w1, .ref w2, .ref w3, .ref w4, .ref w5, .ref w6, .ref w7, .ref w8, .ref tk, .ref hs, .ref pw, .int v0_108, .int v1_109]) := (hB1.2.2.2 h0 (by rw [hT_h0]; simp)).trans hF_110
      generalize H1 = H at hP hS ⊢
      refine lv_iinc (v := (nI (j2 + 1))) (lv' := [(1, .int (nI (j2 + 1))), (0, .ref h0)]) hx hb dX7_writeDue_77 hl (k := 0) rfl (nI_1 _) (by decide) rfl (fun ls hl => ?_)
      refine lv_goto (tgt := 57) hx hb dX7_writeDue_80 (by decide) ?_
      refine W.widen (k := 0) (n := 0) (by omega) (by omega) ?_
      exact ih_84 (j2 + 1) F_118 (by first | omega | exact ⟨by omega, by omega⟩ | trivial) (by show 19 - (j2 + 1) < 19 - j2; omega) hO hR _ _ hP hD hS ls (lv_sub hl [0, 1] rfl)
  ·
    have hi_120 : j < 10 := ltN (N := 10) c_69
    refine lv_aload_n hx hb dX7_writeDue_31 rfl (lv_at hl 1 rfl) ?_
    obtain ⟨v0_121, v1_122, hF_123⟩ := hO.slr hL_h0 hT_h0
    refine pg_get (ci := 7) (v := .ref w7) (C := RX7) (T := TX7) (N := 17) hx hb hts it_7 hown hK hP hL_h0 hF_123 rfl 10 (by decide) (hts _ kt_360) (fun _ h9 => h9) rfl dX7_writeDue_32 ?_
    refine lv_sipush (v := 255) hx hb dX7_writeDue_35 (by decide) ?_
    have hFc := pg_free hD hS hA
    obtain ⟨z_124, o_125, hF_126, hq_127, hq_128⟩ := hO.bytes hi_28 ht_30
    refine va_callv (va_runV (As := [.int 255]) (rest := []) ⟨hx, hb, hml, hown, hts⟩ (s_X0_add l dC dI cs ty L H.size F_66 w7 (ρ + 89) r_29 64 255 hW hi_28 ht_30) ⟨callB_of 1 hts (gi kt_13) rfl rfl rfl (hts _ kt_1) (hts _ kt_362) (by decide +kernel) ⟨Nat.le_of_ble_eq_true rfl, Nat.le_of_ble_eq_true rfl⟩, (hts _ kt_15), (hts _ kt_16)⟩ ⟨fun a U g mk q => ⟨q.1, PT.calling q.2⟩, pg_recv hK hP hi_28 hF_126 (q := (RX0, TX0, 3)) rfl, fun U hU hWm => ⟨rfl, PT.mk hU hWm hP hK hD hE hO⟩⟩ rfl rfl hl.1 rfl (lv_room (Nat.le_of_ble_eq_true rfl)) dX7_writeDue_38 ⟨by show _ + 0 ≤ 0; omega, by show _ + 0 ≤ 0; omega⟩) hS (fun q _ h => hFc q h) hFc (fun u t H1 locs ht hvm hw hB hz1 hk1 hS => ?_)
    obtain ⟨F_130, hB1⟩ := hB
    obtain ⟨hP, hD, hO, hR⟩ := QT.back hB1 ht hFc hR (fun q h => by simp only [List.mem_cons, List.not_mem_nil, or_false] at h ⊢; omega)
    have hF_131 : F_130 h0 = .inr (7, [.ref d, .ref sl, .ref ke, .ref w0, .ref w1, .ref w2, .ref w3, .ref w4, .ref w5, .ref w6, .ref w7, .ref w8, .ref tk, .ref hs, .ref pw, .int v0_121, .int v1_122]) := (hB1.2.2.2 h0 (by rw [hT_h0]; simp)).trans hF_123
    generalize H1 = H at hP hS ⊢
    refine lv_iinc (v := (nI (j + 1))) (lv' := [(1, .int (nI (j + 1))), (0, .ref h0)]) hx hb dX7_writeDue_41 hl (k := 0) rfl (nI_1 _) (by decide) rfl (fun ls hl => ?_)
    refine lv_goto (tgt := 25) hx hb dX7_writeDue_44 (by decide) ?_
    refine W.widen (k := 0) (n := 0) (by omega) (by omega) ?_
    exact ih_68 (j + 1) F_130 (by first | omega | exact ⟨by omega, by omega⟩ | trivial) (by show 10 - (j + 1) < 10 - j; omega) hO hR _ _ hP hD hS ls (lv_sub hl [0, 1] rfl)
set_option maxHeartbeats 4000000 in
set_option maxRecDepth 100000 in
theorem s_X7_readKey (l : Launch) (dC : Nat → ClassId) (dI : Nat → Nat → Nat) (cs : Nat → ClassId) (ty : TyM) (L : List Nat) (sz : Nat) (F : Nat → va_E) (h0 : Nat) (ρ : Nat) (d : Nat) (δ : Nat) (ea : Nat) (sl : Nat) (sx : Nat) (sy0 : Nat) (sy1 : Nat) (sy2 : Nat) (ke : Nat) (kx : Nat) (ky0 : Nat) (ky1 : Nat) (ky2 : Nat) (w0 : Nat) (w1 : Nat) (w2 : Nat) (w3 : Nat) (w4 : Nat) (w5 : Nat) (w6 : Nat) (w7 : Nat) (w8 : Nat) (tk : Nat) (hs : Nat) (ha : Nat) (hbb : Nat) (hcc : Nat) (pw : Nat) (px : Nat) (py : Nat) (pz : Nat) (pu : Nat) (hW : WT ty L) (hL_h0 : h0 ∈ L) (hT_h0 : ty h0 = (7, ρ, [d, δ, ea, sl, sx, sy0, sy1, sy2, ke, kx, ky0, ky1, ky2, w0, w1, w2, w3, w4, w5, w6, w7, w8, tk, hs, ha, hbb, hcc, pw, px, py, pz, pu])) : Met l yX7_readKey (.code yX7_readKey cX7_readKey 4 (some .int) :: tb) ({ frames := 8, cells := 0, slots := 0, locals := 176 }) (va_Pc [.ref h0] (PTE (dC, dI) cs ty L F sz [])) (va_Qi (fun (r : Int32) (_ : Unit) => True) (fun _ T9 => ∃ F2 : Nat → va_E, QT (dC, dI) cs ty L [ρ + 82, ρ + 83, ρ + 84, ρ + 85, ρ + 86, ρ + 87, ρ + 88, ρ + 89, ρ + 90, ρ + 91, ρ + 4, ρ + 5, ρ + 74, ρ + 75] F F2 (va_A (va_pl L F) sz) T9) (va_A (va_pl L F) sz)) 0 0 (va_A (va_pl L F) sz) := by
  refine Met.ofW (cc := cX7_readKey) (maxL := 4) (ret := (some .int)) (by decide) rfl ?_
  intro p e s m args below meth c s₁ B hml hv
  obtain ⟨rfl, ⟨hsz, hP, hK, hD0, hE, hO⟩, hG, hX⟩ := hv
  have hx := B.exec
  have hb := B.bytes
  have hr := B.returns
  have hts : ∀ w ∈ tb, w.before _ s = true := fun w h => atoms_spec (ws := .code yX7_readKey cX7_readKey 4 (some .int) :: tb) B.pre w (List.mem_cons_of_mem _ h)
  have hown : s.vm.findClass RX7 = some m.cls := findClass_of_methodNamed B.named
  have hlocks := B.notSynchronized
  subst hsz
  have hD := hD0.self (sz := s.heap.size)
  generalize hAe : va_A (va_pl L F) s.heap.size = A at hD hG hX ⊢
  have hA : ∀ q : Nat, s.heap.size ≤ q → A q := fun q h => by rw [← hAe]; exact Or.inr h
  have hS : va_S A s.heap s.heap [] := va_S.rf
  have hR : FR ty [ρ + 82, ρ + 83, ρ + 84, ρ + 85, ρ + 86, ρ + 87, ρ + 88, ρ + 89, ρ + 90, ρ + 91, ρ + 4, ρ + 5, ρ + 74, ρ + 75] F F := FR.refl
  have hl := lv_entry ([.ref h0]) (n := 4) (Nat.le_of_ble_eq_true rfl)
  rw [lg_entry_eq]
  generalize (lg_sl ([.ref h0]) ++ List.replicate (4 - (lg_sl ([.ref h0])).length) Slot.unset).toArray = ls at hl ⊢
  have hl : lv_has ls 4 [(0, .ref h0)] := hl
  refine lv_aload_n hx hb dX7_readKey_0 rfl (lv_at hl 0 rfl) ?_
  obtain ⟨hi_1, ht_2, hi_3, ht_4, hi_5, ht_6, hi_7, ⟨r_8, ht_9⟩, hi_10, ⟨r_11, ht_12⟩, hi_13, ⟨r_14, ht_15⟩, hi_16, ⟨r_17, ht_18⟩, hi_19, ⟨r_20, ht_21⟩, hi_22, ⟨r_23, ht_24⟩, hi_25, ⟨r_26, ht_27⟩, hi_28, ⟨r_29, ht_30⟩, hi_31, ⟨r_32, ht_33⟩, hi_34, ht_35, hi_36, ht_37, hi_38, ht_39⟩ := hW.slr hL_h0 hT_h0
  obtain ⟨v0_40, v1_41, hF_42⟩ := hO.slr hL_h0 hT_h0
  refine pg_get (ci := 7) (v := .ref w1) (C := RX7) (T := TX7) (N := 17) hx hb hts it_7 hown hK hP hL_h0 hF_42 rfl 4 (by decide) (hts _ kt_366) (fun _ h9 => h9) rfl dX7_readKey_1 ?_
  have hFc := pg_free hD hS hA
  obtain ⟨hi_43, ht_44, hq_45⟩ := hW.bytes hi_10 ht_12
  obtain ⟨z_46, o_47, hF_48, hq_49, hq_50⟩ := hO.bytes hi_10 ht_12
  refine va_callv (va_runV (As := []) (rest := []) ⟨hx, hb, hml, hown, hts⟩ (s_X0_clear l dC dI cs ty L s.heap.size F w1 (ρ + 83) r_11 60 hW hi_10 ht_12) ⟨callB_of 0 hts (gi kt_32) rfl rfl rfl (hts _ kt_1) (hts _ kt_361) (by decide +kernel) ⟨Nat.le_of_ble_eq_true rfl, Nat.le_of_ble_eq_true rfl⟩, (hts _ kt_34), (hts _ kt_35)⟩ ⟨fun a U g mk q => ⟨q.1, PT.calling q.2⟩, pg_recv hK hP hi_10 hF_48 (q := (RX0, TX0, 3)) rfl, fun U hU hWm => ⟨rfl, PT.mk hU hWm hP hK hD hE hO⟩⟩ rfl rfl hl.1 rfl (lv_room (Nat.le_of_ble_eq_true rfl)) dX7_readKey_4 ⟨by show _ + 0 ≤ 0; omega, by show _ + 0 ≤ 0; omega⟩) hS (fun q _ h => hFc q h) hFc (fun u t H1 locs ht hvm hw hB hz1 hk1 hS => ?_)
  obtain ⟨F_52, hB1, hq_53⟩ := hB
  obtain ⟨hP, hD, hO, hR⟩ := QT.back hB1 ht hFc hR (fun q h => by simp only [List.mem_cons, List.not_mem_nil, or_false] at h ⊢; omega)
  have hF_54 : F_52 h0 = .inr (7, [.ref d, .ref sl, .ref ke, .ref w0, .ref w1, .ref w2, .ref w3, .ref w4, .ref w5, .ref w6, .ref w7, .ref w8, .ref tk, .ref hs, .ref pw, .int v0_40, .int v1_41]) := (hB1.2.2.2 h0 (by rw [hT_h0]; simp)).trans hF_42
  generalize H1 = H at hP hS ⊢
  refine lv_aload_n hx hb dX7_readKey_7 rfl (lv_at hl 0 rfl) ?_
  refine pg_get (ci := 7) (v := .ref w1) (C := RX7) (T := TX7) (N := 17) hx hb hts it_7 hown hK hP hL_h0 hF_54 rfl 4 (by decide) (hts _ kt_366) (fun _ h9 => h9) rfl dX7_readKey_8 ?_
  refine lv_aload_n hx hb dX7_readKey_11 rfl (lv_at hl 0 rfl) ?_
  refine pg_get (ci := 7) (v := .ref sl) (C := RX7) (T := TX7) (N := 17) hx hb hts it_7 hown hK hP hL_h0 hF_54 rfl 1 (by decide) (hts _ kt_307) (fun _ h9 => h9) rfl dX7_readKey_12 ?_
  obtain ⟨hi_55, hi_56, hi_57, hi_58, ⟨r_59, ht_60⟩, ht_61, ht_62, ht_63⟩ := hW.tags hi_3 ht_4
  have ht_60 : ty sx = (0, ρ + 3, [r_59, 3000]) := ht_60
  have ht_62 : ty sy1 = (24, ρ + 72, [40]) := ht_62
  have ht_63 : ty sy2 = (24, ρ + 73, [40]) := ht_63
  obtain ⟨z_64, hF_65, hq_66⟩ := hO.tags hi_3 ht_4
  refine pg_getN (ci := 9) (v := .ref sx) (C := RX9) (T := TX9) (N := 5) hx hb hts it_9 hown hK hP hi_3 hF_65 rfl 0 (by decide) (hE.nest kn_7) (fun _ h9 => h9) rfl dX7_readKey_15 ?_
  refine lv_aload_n hx hb dX7_readKey_18 rfl (lv_at hl 0 rfl) ?_
  refine pg_get (ci := 7) (v := .ref sl) (C := RX7) (T := TX7) (N := 17) hx hb hts it_7 hown hK hP hL_h0 hF_54 rfl 1 (by decide) (hts _ kt_307) (fun _ h9 => h9) rfl dX7_readKey_19 ?_
  obtain ⟨q_67, v_68, hr_q_67, hXc_q_67⟩ := hG.2.2.2.2 ("PostGate$Sealer", 169, "s", [115]) (by decide +kernel)
  have hXc_q_67 : SXc q_67 v_68 1 (cct [115]) A s s.heap := hXc_q_67
  have hX_q_67 : SX q_67 v_68 1 A s s.heap := hXc_q_67.sx
  obtain ⟨xo_q_67, xc_q_67, xv_q_67, xt_q_67, xn_q_67⟩ := id hXc_q_67
  have hr_q_67 : vk_R "PostGate$Sealer" 169 "s" q_67 s := hr_q_67
  refine va_ldcS hx hb hown hr_q_67 dX7_readKey_22 ?_
  have hFc := pg_free hD hS hA
  refine va_calli (va_runV (As := [.ref q_67]) (rest := [.ref sx, .ref w1]) ⟨hx, hb, hml, hown, hts⟩ (s_X9_startOf l dC dI cs ty L H.size F_52 sl (ρ + 2) sx 3000 sy0 sy1 sy2 q_67 v_68 1 hW hi_3 ht_4) ⟨callB_of 1 hts (gi kt_170) rfl rfl rfl (hts _ kt_164) (hts _ kt_318) (by decide +kernel) ⟨Nat.le_of_ble_eq_true rfl, Nat.le_of_ble_eq_true rfl⟩, (hts _ kt_172), (hts _ kt_173)⟩ ⟨fun a U g mk q => ⟨q.1, PTE.calling q.2⟩, pg_recv hK hP hi_3 hF_65 (q := (RX9, TX9, 5)) rfl, fun U hU hWm => ⟨rfl, PTE.mk hU hWm hP hK hD hE hO hG (fun x hx => by rw [List.mem_singleton] at hx; subst hx; exact hX_q_67) hS hFc⟩⟩ rfl rfl hl.1 rfl (lv_room (Nat.le_of_ble_eq_true rfl)) dX7_readKey_24 ⟨by show _ + 0 ≤ 0; omega, by show _ + 0 ≤ 0; omega⟩) hS (fun q _ h => hFc q h) hFc (fun r_69 u t H1 locs ht hvm hw hB hz1 hk1 hS => ?_)
  obtain ⟨F_70, hB1⟩ := hB
  obtain rfl : F_52 = F_70 := (funext (fun a => hB1.2.2.2 a List.not_mem_nil)).symm
  obtain ⟨hP, hD, hO, hR⟩ := QT.back hB1 ht hFc hR (fun q h => absurd h List.not_mem_nil)
  generalize H1 = H at hP hS ⊢
  have hw : (∃ k : Nat, k ≤ 10002 ∧ r_69 = nI k) := hw
  have hw_71 := hw
  obtain ⟨k_72, hk_72, ek_72⟩ := hw_71
  subst ek_72
  refine lv_aload_n hx hb dX7_readKey_27 rfl (lv_at hl 0 rfl) ?_
  refine pg_get (ci := 7) (v := .ref sl) (C := RX7) (T := TX7) (N := 17) hx hb hts it_7 hown hK hP hL_h0 hF_54 rfl 1 (by decide) (hts _ kt_307) (fun _ h9 => h9) rfl dX7_readKey_28 ?_
  refine va_ldcS hx hb hown hr_q_67 dX7_readKey_31 ?_
  have hFc := pg_free hD hS hA
  refine va_calli (va_runV (As := [.ref q_67]) (rest := [.int (nI k_72), .ref sx, .ref w1]) ⟨hx, hb, hml, hown, hts⟩ (s_X9_endOf l dC dI cs ty L H.size F_52 sl (ρ + 2) sx 3000 sy0 sy1 sy2 q_67 v_68 1 hW hi_3 ht_4) ⟨callB_of 1 hts (gi kt_174) rfl rfl rfl (hts _ kt_164) (hts _ kt_319) (by decide +kernel) ⟨Nat.le_of_ble_eq_true rfl, Nat.le_of_ble_eq_true rfl⟩, (hts _ kt_176), (hts _ kt_177)⟩ ⟨fun a U g mk q => ⟨q.1, PTE.calling q.2⟩, pg_recv hK hP hi_3 hF_65 (q := (RX9, TX9, 5)) rfl, fun U hU hWm => ⟨rfl, PTE.mk hU hWm hP hK hD hE hO hG (fun x hx => by rw [List.mem_singleton] at hx; subst hx; exact hX_q_67) hS hFc⟩⟩ rfl rfl hl.1 rfl (lv_room (Nat.le_of_ble_eq_true rfl)) dX7_readKey_33 ⟨by show _ + 0 ≤ 0; omega, by show _ + 0 ≤ 0; omega⟩) hS (fun q _ h => hFc q h) hFc (fun r_73 u t H1 locs ht hvm hw hB hz1 hk1 hS => ?_)
  obtain ⟨F_74, hB1⟩ := hB
  obtain rfl : F_52 = F_74 := (funext (fun a => hB1.2.2.2 a List.not_mem_nil)).symm
  obtain ⟨hP, hD, hO, hR⟩ := QT.back hB1 ht hFc hR (fun q h => absurd h List.not_mem_nil)
  generalize H1 = H at hP hS ⊢
  have hw : (∃ k : Nat, k ≤ 10002 ∧ r_73 = nI k) := hw
  have hw_75 := hw
  obtain ⟨k_76, hk_76, ek_76⟩ := hw_75
  subst ek_76
  have hFc := pg_free hD hS hA
  refine va_callv (va_runV (As := [.ref sx, .int (nI k_72), .int (nI k_76)]) (rest := []) ⟨hx, hb, hml, hown, hts⟩ (s_X0_addRange l dC dI cs ty L H.size F_52 w1 (ρ + 83) r_11 60 sx (ρ + 3) r_59 3000 (nI k_72) (nI k_76) hW hi_10 ht_12 hi_55 ht_60 (nI_pos (by omega))) ⟨callB_of 3 hts (gi kt_36) rfl rfl rfl (hts _ kt_1) (hts _ kt_365) (by decide +kernel) ⟨Nat.le_of_ble_eq_true rfl, Nat.le_of_ble_eq_true rfl⟩, (hts _ kt_38), (hts _ kt_39)⟩ ⟨fun a U g mk q => ⟨q.1, PT.calling q.2⟩, pg_recv hK hP hi_10 hq_53 (q := (RX0, TX0, 3)) rfl, fun U hU hWm => ⟨rfl, PT.mk hU hWm hP hK hD hE hO⟩⟩ rfl rfl hl.1 rfl (lv_room (Nat.le_of_ble_eq_true rfl)) dX7_readKey_36 ⟨by show _ + 0 ≤ 0; omega, by show _ + 0 ≤ 0; omega⟩) hS (fun q _ h => hFc q h) hFc (fun u t H1 locs ht hvm hw hB hz1 hk1 hS => ?_)
  obtain ⟨F_78, hB1⟩ := hB
  obtain ⟨hP, hD, hO, hR⟩ := QT.back hB1 ht hFc hR (fun q h => by simp only [List.mem_cons, List.not_mem_nil, or_false] at h ⊢; omega)
  have hF_79 : F_78 h0 = .inr (7, [.ref d, .ref sl, .ref ke, .ref w0, .ref w1, .ref w2, .ref w3, .ref w4, .ref w5, .ref w6, .ref w7, .ref w8, .ref tk, .ref hs, .ref pw, .int v0_40, .int v1_41]) := (hB1.2.2.2 h0 (by rw [hT_h0]; simp)).trans hF_54
  have hF_80 : F_78 sl = .inr (9, [.ref sx, .ref sy0, .ref sy1, .ref sy2, .int (nI z_64)]) := (hB1.2.2.2 sl (by rw [ht_4]; simp)).trans hF_65
  generalize H1 = H at hP hS ⊢
  refine lv_aload_n hx hb dX7_readKey_39 rfl (lv_at hl 0 rfl) ?_
  refine pg_get (ci := 7) (v := .ref w1) (C := RX7) (T := TX7) (N := 17) hx hb hts it_7 hown hK hP hL_h0 hF_79 rfl 4 (by decide) (hts _ kt_366) (fun _ h9 => h9) rfl dX7_readKey_40 ?_
  obtain ⟨q_81, v_82, hr_q_81, hXc_q_81⟩ := hG.2.2.2.2 ("PostGate$Sealer", 229, "._domainkey.", [46, 95, 100, 111, 109, 97, 105, 110, 107, 101, 121, 46]) (by decide +kernel)
  have hXc_q_81 : SXc q_81 v_82 12 (cct [46, 95, 100, 111, 109, 97, 105, 110, 107, 101, 121, 46]) A s s.heap := hXc_q_81
  have hX_q_81 : SX q_81 v_82 12 A s s.heap := hXc_q_81.sx
  obtain ⟨xo_q_81, xc_q_81, xv_q_81, xt_q_81, xn_q_81⟩ := id hXc_q_81
  have hr_q_81 : vk_R "PostGate$Sealer" 229 "._domainkey." q_81 s := hr_q_81
  refine va_ldcS hx hb hown hr_q_81 dX7_readKey_43 ?_
  have hFc := pg_free hD hS hA
  obtain ⟨z_83, o_84, hF_85, hq_86, hq_87⟩ := hO.bytes hi_10 ht_12
  refine va_callv (va_runV (As := [.ref q_81]) (rest := []) ⟨hx, hb, hml, hown, hts⟩ (s_X0_addText l dC dI cs ty L H.size F_78 w1 (ρ + 83) r_11 60 q_81 v_82 12 hW hi_10 ht_12) ⟨callB_of 1 hts (gi kt_367) rfl rfl rfl (hts _ kt_1) (hts _ kt_368) (by decide +kernel) ⟨Nat.le_of_ble_eq_true rfl, Nat.le_of_ble_eq_true rfl⟩, (hts _ kt_369), (hts _ kt_370)⟩ ⟨fun a U g mk q => ⟨q.1, PTE.calling q.2⟩, pg_recv hK hP hi_10 hF_85 (q := (RX0, TX0, 3)) rfl, fun U hU hWm => ⟨rfl, PTE.mk hU hWm hP hK hD hE hO hG (fun x hx => by rw [List.mem_singleton] at hx; subst hx; exact hX_q_81) hS hFc⟩⟩ rfl rfl hl.1 rfl (lv_room (Nat.le_of_ble_eq_true rfl)) dX7_readKey_45 ⟨by show _ + 0 ≤ 0; omega, by show _ + 0 ≤ 0; omega⟩) hS (fun q _ h => hFc q h) hFc (fun u t H1 locs ht hvm hw hB hz1 hk1 hS => ?_)
  obtain ⟨F_89, hB1⟩ := hB
  obtain ⟨hP, hD, hO, hR⟩ := QT.back hB1 ht hFc hR (fun q h => by simp only [List.mem_cons, List.not_mem_nil, or_false] at h ⊢; omega)
  have hF_90 : F_89 h0 = .inr (7, [.ref d, .ref sl, .ref ke, .ref w0, .ref w1, .ref w2, .ref w3, .ref w4, .ref w5, .ref w6, .ref w7, .ref w8, .ref tk, .ref hs, .ref pw, .int v0_40, .int v1_41]) := (hB1.2.2.2 h0 (by rw [hT_h0]; simp)).trans hF_79
  have hF_91 : F_89 sl = .inr (9, [.ref sx, .ref sy0, .ref sy1, .ref sy2, .int (nI z_64)]) := (hB1.2.2.2 sl (by rw [ht_4]; simp)).trans hF_80
  generalize H1 = H at hP hS ⊢
  refine lv_aload_n hx hb dX7_readKey_48 rfl (lv_at hl 0 rfl) ?_
  refine pg_get (ci := 7) (v := .ref w1) (C := RX7) (T := TX7) (N := 17) hx hb hts it_7 hown hK hP hL_h0 hF_90 rfl 4 (by decide) (hts _ kt_366) (fun _ h9 => h9) rfl dX7_readKey_49 ?_
  refine lv_aload_n hx hb dX7_readKey_52 rfl (lv_at hl 0 rfl) ?_
  refine pg_get (ci := 7) (v := .ref w0) (C := RX7) (T := TX7) (N := 17) hx hb hts it_7 hown hK hP hL_h0 hF_90 rfl 3 (by decide) (hts _ kt_371) (fun _ h9 => h9) rfl dX7_readKey_53 ?_
  refine lv_iconst (v := 0) hx hb dX7_readKey_56 (by decide) ?_
  refine lv_aload_n hx hb dX7_readKey_57 rfl (lv_at hl 0 rfl) ?_
  refine pg_get (ci := 7) (v := .ref w0) (C := RX7) (T := TX7) (N := 17) hx hb hts it_7 hown hK hP hL_h0 hF_90 rfl 3 (by decide) (hts _ kt_371) (fun _ h9 => h9) rfl dX7_readKey_58 ?_
  obtain ⟨hi_92, ht_93, hq_94⟩ := hW.bytes hi_7 ht_9
  obtain ⟨z_95, o_96, hF_97, hq_98, hq_99⟩ := hO.bytes hi_7 ht_9
  refine pg_getN (ci := 0) (v := .int (nI z_95)) (C := RX0) (T := TX0) (N := 3) hx hb hts it_0 hown hK hP hi_7 hF_97 rfl 1 (by decide) (hE.nest kn_11) (fun _ h9 => h9) rfl dX7_readKey_61 ?_
  have hFc := pg_free hD hS hA
  obtain ⟨z_100, o_101, hF_102, hq_103, hq_104⟩ := hO.bytes hi_10 ht_12
  refine va_callv (va_runV (As := [.ref w0, .int 0, .int (nI z_95)]) (rest := []) ⟨hx, hb, hml, hown, hts⟩ (s_X0_addRange l dC dI cs ty L H.size F_89 w1 (ρ + 83) r_11 60 w0 (ρ + 82) r_8 60 0 (nI z_95) hW hi_10 ht_12 hi_7 ht_9 (nI_pos (by omega))) ⟨callB_of 3 hts (gi kt_36) rfl rfl rfl (hts _ kt_1) (hts _ kt_365) (by decide +kernel) ⟨Nat.le_of_ble_eq_true rfl, Nat.le_of_ble_eq_true rfl⟩, (hts _ kt_38), (hts _ kt_39)⟩ ⟨fun a U g mk q => ⟨q.1, PT.calling q.2⟩, pg_recv hK hP hi_10 hF_102 (q := (RX0, TX0, 3)) rfl, fun U hU hWm => ⟨rfl, PT.mk hU hWm hP hK hD hE hO⟩⟩ rfl rfl hl.1 rfl (lv_room (Nat.le_of_ble_eq_true rfl)) dX7_readKey_64 ⟨by show _ + 0 ≤ 0; omega, by show _ + 0 ≤ 0; omega⟩) hS (fun q _ h => hFc q h) hFc (fun u t H1 locs ht hvm hw hB hz1 hk1 hS => ?_)
  obtain ⟨F_106, hB1⟩ := hB
  obtain ⟨hP, hD, hO, hR⟩ := QT.back hB1 ht hFc hR (fun q h => by simp only [List.mem_cons, List.not_mem_nil, or_false] at h ⊢; omega)
  have hF_107 : F_106 h0 = .inr (7, [.ref d, .ref sl, .ref ke, .ref w0, .ref w1, .ref w2, .ref w3, .ref w4, .ref w5, .ref w6, .ref w7, .ref w8, .ref tk, .ref hs, .ref pw, .int v0_40, .int v1_41]) := (hB1.2.2.2 h0 (by rw [hT_h0]; simp)).trans hF_90
  have hF_108 : F_106 sl = .inr (9, [.ref sx, .ref sy0, .ref sy1, .ref sy2, .int (nI z_64)]) := (hB1.2.2.2 sl (by rw [ht_4]; simp)).trans hF_91
  have hF_109 : F_106 w0 = .inr (0, [.ref r_8, .int (nI z_95), .int o_96]) := (hB1.2.2.2 w0 (by rw [ht_9]; simp)).trans hF_97
  generalize H1 = H at hP hS ⊢
  refine lv_aload_n hx hb dX7_readKey_67 rfl (lv_at hl 0 rfl) ?_
  refine pg_get (ci := 7) (v := .ref d) (C := RX7) (T := TX7) (N := 17) hx hb hts it_7 hown hK hP hL_h0 hF_107 rfl 0 (by decide) (hts _ kt_372) (fun _ h9 => h9) rfl dX7_readKey_68 ?_
  refine lv_iconst (v := 3) hx hb dX7_readKey_71 (by decide) ?_
  refine lv_aload_n hx hb dX7_readKey_72 rfl (lv_at hl 0 rfl) ?_
  refine pg_get (ci := 7) (v := .ref w1) (C := RX7) (T := TX7) (N := 17) hx hb hts it_7 hown hK hP hL_h0 hF_107 rfl 4 (by decide) (hts _ kt_366) (fun _ h9 => h9) rfl dX7_readKey_73 ?_
  have hFc := pg_free hD hS hA
  obtain ⟨hi_110, ht_111⟩ := hW.dir hi_1 ht_2
  obtain ⟨z_112, hF_113, hq_114⟩ := hO.dir hi_1 ht_2
  refine va_calli (va_runV (As := [.int 3, .ref w1]) (rest := []) ⟨hx, hb, hml, hown, hts⟩ (s_X2_has l dC dI cs ty L H.size F_106 d δ ea w1 (ρ + 83) r_11 60 3 hW hi_1 ht_2 hi_10 ht_12) ⟨callB_of 2 hts (gi kt_373) rfl rfl rfl (hts _ kt_103) (hts _ kt_374) (by decide +kernel) ⟨Nat.le_of_ble_eq_true rfl, Nat.le_of_ble_eq_true rfl⟩, (hts _ kt_375), (hts _ kt_376)⟩ ⟨fun a U g mk q => ⟨q.1, PT.calling q.2⟩, pg_recv hK hP hi_1 hF_113 (q := (RX2, TX2, 2)) rfl, fun U hU hWm => ⟨rfl, PT.mk hU hWm hP hK hD hE hO⟩⟩ rfl rfl hl.1 rfl (lv_room (Nat.le_of_ble_eq_true rfl)) dX7_readKey_76 ⟨by show _ + 0 ≤ 0; omega, by show _ + 0 ≤ 0; omega⟩) hS (fun q _ h => hFc q h) hFc (fun r_115 u t H1 locs ht hvm hw hB hz1 hk1 hS => ?_)
  obtain ⟨F_116, hB1⟩ := hB
  obtain rfl : F_106 = F_116 := (funext (fun a => hB1.2.2.2 a List.not_mem_nil)).symm
  obtain ⟨hP, hD, hO, hR⟩ := QT.back hB1 ht hFc hR (fun q h => absurd h List.not_mem_nil)
  generalize H1 = H at hP hS ⊢
  have hw : (r_115 = 0 ∨ r_115 = 1) := hw
  have hw_117 := hw
  refine lv_if_eq (tgt := 84) hx hb dX7_readKey_79 (by decide) (fun c_118 => ?_) (fun c_118 => ?_)
  ·
    refine lv_aload_n hx hb dX7_readKey_84 rfl (lv_at hl 0 rfl) ?_
    refine pg_get (ci := 7) (v := .ref d) (C := RX7) (T := TX7) (N := 17) hx hb hts it_7 hown hK hP hL_h0 hF_107 rfl 0 (by decide) (hts _ kt_372) (fun _ h9 => h9) rfl dX7_readKey_85 ?_
    refine lv_aload_n hx hb dX7_readKey_88 rfl (lv_at hl 0 rfl) ?_
    refine pg_get (ci := 7) (v := .ref w1) (C := RX7) (T := TX7) (N := 17) hx hb hts it_7 hown hK hP hL_h0 hF_107 rfl 4 (by decide) (hts _ kt_366) (fun _ h9 => h9) rfl dX7_readKey_89 ?_
    have hFc := pg_free hD hS hA
    refine va_calli (va_runV (As := [.ref w1]) (rest := []) ⟨hx, hb, hml, hown, hts⟩ (s_X2_firstText l dC dI cs ty L H.size F_106 d δ ea w1 (ρ + 83) r_11 60 hW hi_1 ht_2 hi_10 ht_12) ⟨callB_of 1 hts (gi kt_377) rfl rfl rfl (hts _ kt_103) (hts _ kt_378) (by decide +kernel) ⟨Nat.le_of_ble_eq_true rfl, Nat.le_of_ble_eq_true rfl⟩, (hts _ kt_379), (hts _ kt_380)⟩ ⟨fun a U g mk q => ⟨q.1, PT.calling q.2⟩, pg_recv hK hP hi_1 hF_113 (q := (RX2, TX2, 2)) rfl, fun U hU hWm => ⟨rfl, PT.mk hU hWm hP hK hD hE hO⟩⟩ rfl rfl hl.1 rfl (lv_room (Nat.le_of_ble_eq_true rfl)) dX7_readKey_92 ⟨by show _ + 0 ≤ 0; omega, by show _ + 0 ≤ 0; omega⟩) hS (fun q _ h => hFc q h) hFc (fun r_119 u t H1 locs ht hvm hw hB hz1 hk1 hS => ?_)
    obtain ⟨F_120, hB1⟩ := hB
    obtain rfl : F_106 = F_120 := (funext (fun a => hB1.2.2.2 a List.not_mem_nil)).symm
    obtain ⟨hP, hD, hO, hR⟩ := QT.back hB1 ht hFc hR (fun q h => absurd h List.not_mem_nil)
    generalize H1 = H at hP hS ⊢
    have hw : True := hw
    have hw_121 := hw
    refine lv_istore_n (lv' := [(1, .int r_119), (0, .ref h0)]) hx hb dX7_readKey_95 rfl hl (by decide) rfl (fun ls hl => ?_)
    refine lv_iload_n hx hb dX7_readKey_96 rfl (lv_at hl 0 rfl) ?_
    refine lv_if_ge (tgt := 103) hx hb dX7_readKey_97 (by decide) (fun c_122 => ?_) (fun c_122 => ?_)
    ·
      refine lv_aload_n hx hb dX7_readKey_103 rfl (lv_at hl 1 rfl) ?_
      refine pg_get (ci := 7) (v := .ref d) (C := RX7) (T := TX7) (N := 17) hx hb hts it_7 hown hK hP hL_h0 hF_107 rfl 0 (by decide) (hts _ kt_372) (fun _ h9 => h9) rfl dX7_readKey_104 ?_
      refine lv_iload_n hx hb dX7_readKey_107 rfl (lv_at hl 0 rfl) ?_
      have hFc := pg_free hD hS hA
      refine va_callr (va_runV (As := [.int r_119]) (rest := []) ⟨hx, hb, hml, hown, hts⟩ (s_X2_valueAt l dC dI cs ty L H.size F_106 d δ ea r_119 hW hi_1 ht_2) ⟨callB_of 1 hts (gi kt_381) rfl rfl rfl (hts _ kt_103) (hts _ kt_382) (by decide +kernel) ⟨Nat.le_of_ble_eq_true rfl, Nat.le_of_ble_eq_true rfl⟩, (hts _ kt_383), (hts _ kt_384)⟩ ⟨fun a U g mk q => ⟨q.1, PT.calling q.2⟩, pg_recv hK hP hi_1 hF_113 (q := (RX2, TX2, 2)) rfl, fun U hU hWm => ⟨rfl, PT.mk hU hWm hP hK hD hE hO⟩⟩ rfl rfl hl.1 rfl (lv_room (Nat.le_of_ble_eq_true rfl)) dX7_readKey_108 ⟨by show _ + 0 ≤ 0; omega, by show _ + 0 ≤ 0; omega⟩) hS (fun q _ h => hFc q h) hFc (fun u r_123 t H1 locs ht hvm hw hB hz1 hk1 hS => ?_)
      obtain ⟨F_124, vr_125, μ_126, hB1, hq_127, hq_128⟩ := hB
      obtain rfl : F_106 = F_124 := (funext (fun a => hB1.2.2.2 a List.not_mem_nil)).symm
      obtain ⟨hP, hD, hO, hR⟩ := QT.back hB1 ht hFc hR (fun q h => absurd h List.not_mem_nil)
      generalize H1 = H at hP hS ⊢
      refine lv_astore_n (lv' := [(2, .ref r_123), (1, .int r_119), (0, .ref h0)]) hx hb dX7_readKey_111 rfl hl (by decide) rfl (fun ls hl => ?_)
      refine W.widen (k := 0) (n := 0) (by omega) (by omega) ?_
      refine pl_cut (σ := Int32) A (dC, dI) cs ty L [ρ + 82, ρ + 83, ρ + 84, ρ + 85, ρ + 86, ρ + 87, ρ + 88, ρ + 89, ρ + 90, ρ + 91, ρ + 4, ρ + 5, ρ + 74, ρ + 75] F 181 4 (fun s0 => [(2, .ref r_123), (1, .int r_119), (0, .ref h0)]) (fun s0 => [.int s0]) (fun s0 _ => True) ?_ (fun jn_129 => ?_)
      ·
        rintro s0 F_130 hv_131 hO hR H locs hP hD hS ls hl
        have hl : lv_has ls 4 [(2, .ref r_123), (1, .int r_119), (0, .ref h0)] := hl
        have hv_131 : True := hv_131
        refine W.eq (g2 := F0 m 181 ls [.int s0]) rfl ?_
        refine lv_istore_n (lv' := [(3, .int s0), (2, .ref r_123), (1, .int r_119), (0, .ref h0)]) hx hb dX7_readKey_181 rfl hl (by decide) rfl (fun ls hl => ?_)
        refine lv_iload_n hx hb dX7_readKey_182 rfl (lv_at hl 0 rfl) ?_
        refine lv_if_eq (tgt := 219) hx hb dX7_readKey_183 (by decide) (fun c_132 => ?_) (fun c_132 => ?_)
        ·
          refine lv_bipush (v := 6) hx hb dX7_readKey_219 (by decide) ?_
          refine W.widen (k := 0) (n := 0) (by omega) (by omega) ?_
          exact W.iret (v := 6) hx hb hr (fun t ht hWm => ⟨⟨6, (), rfl, trivial, ⟨F_130, QT.mk ht hP hD hO hR⟩⟩, hS.F ht⟩) hS.2.2 dX7_readKey_221
        ·
          refine lv_aload_n hx hb dX7_readKey_186 rfl (lv_at hl 3 rfl) ?_
          obtain ⟨v0_133, v1_134, hF_135⟩ := hO.slr hL_h0 hT_h0
          refine pg_get (ci := 7) (v := .ref w4) (C := RX7) (T := TX7) (N := 17) hx hb hts it_7 hown hK hP hL_h0 hF_135 rfl 7 (by decide) (hts _ kt_385) (fun _ h9 => h9) rfl dX7_readKey_187 ?_
          refine lv_iconst (v := 0) hx hb dX7_readKey_190 (by decide) ?_
          have hFc := pg_free hD hS hA
          obtain ⟨hi_136, ht_137, hq_138⟩ := hW.bytes hi_19 ht_21
          obtain ⟨z_139, o_140, hF_141, hq_142, hq_143⟩ := hO.bytes hi_19 ht_21
          refine va_calli (va_runV (As := [.int 0]) (rest := []) ⟨hx, hb, hml, hown, hts⟩ (s_X0_at l dC dI cs ty L H.size F_130 w4 (ρ + 86) r_20 64 0 hW hi_19 ht_21) ⟨callB_of 1 hts (gi kt_21) rfl rfl rfl (hts _ kt_1) (hts _ kt_305) (by decide +kernel) ⟨Nat.le_of_ble_eq_true rfl, Nat.le_of_ble_eq_true rfl⟩, (hts _ kt_23), (hts _ kt_24)⟩ ⟨fun a U g mk q => ⟨q.1, PT.calling q.2⟩, pg_recv hK hP hi_19 hF_141 (q := (RX0, TX0, 3)) rfl, fun U hU hWm => ⟨rfl, PT.mk hU hWm hP hK hD hE hO⟩⟩ rfl rfl hl.1 rfl (lv_room (Nat.le_of_ble_eq_true rfl)) dX7_readKey_191 ⟨by show _ + 0 ≤ 0; omega, by show _ + 0 ≤ 0; omega⟩) hS (fun q _ h => hFc q h) hFc (fun r_144 u t H1 locs ht hvm hw hB hz1 hk1 hS => ?_)
          obtain ⟨F_145, hB1⟩ := hB
          obtain rfl : F_130 = F_145 := (funext (fun a => hB1.2.2.2 a List.not_mem_nil)).symm
          obtain ⟨hP, hD, hO, hR⟩ := QT.back hB1 ht hFc hR (fun q h => absurd h List.not_mem_nil)
          generalize H1 = H at hP hS ⊢
          have hw : True := hw
          have hw_146 := hw
          refine lv_sipush (v := 128) hx hb dX7_readKey_194 (by decide) ?_
          refine lv_icmp_lt (tgt := 219) hx hb dX7_readKey_197 (by decide) (fun c_147 => ?_) (fun c_147 => ?_)
          ·
            refine lv_bipush (v := 6) hx hb dX7_readKey_219 (by decide) ?_
            refine W.widen (k := 0) (n := 0) (by omega) (by omega) ?_
            exact W.iret (v := 6) hx hb hr (fun t ht hWm => ⟨⟨6, (), rfl, trivial, ⟨F_130, QT.mk ht hP hD hO hR⟩⟩, hS.F ht⟩) hS.2.2 dX7_readKey_221
          ·
            refine lv_aload_n hx hb dX7_readKey_200 rfl (lv_at hl 3 rfl) ?_
            refine pg_get (ci := 7) (v := .ref w4) (C := RX7) (T := TX7) (N := 17) hx hb hts it_7 hown hK hP hL_h0 hF_135 rfl 7 (by decide) (hts _ kt_385) (fun _ h9 => h9) rfl dX7_readKey_201 ?_
            refine lv_bipush (v := 63) hx hb dX7_readKey_204 (by decide) ?_
            have hFc := pg_free hD hS hA
            refine va_calli (va_runV (As := [.int 63]) (rest := []) ⟨hx, hb, hml, hown, hts⟩ (s_X0_at l dC dI cs ty L H.size F_130 w4 (ρ + 86) r_20 64 63 hW hi_19 ht_21) ⟨callB_of 1 hts (gi kt_21) rfl rfl rfl (hts _ kt_1) (hts _ kt_305) (by decide +kernel) ⟨Nat.le_of_ble_eq_true rfl, Nat.le_of_ble_eq_true rfl⟩, (hts _ kt_23), (hts _ kt_24)⟩ ⟨fun a U g mk q => ⟨q.1, PT.calling q.2⟩, pg_recv hK hP hi_19 hF_141 (q := (RX0, TX0, 3)) rfl, fun U hU hWm => ⟨rfl, PT.mk hU hWm hP hK hD hE hO⟩⟩ rfl rfl hl.1 rfl (lv_room (Nat.le_of_ble_eq_true rfl)) dX7_readKey_206 ⟨by show _ + 0 ≤ 0; omega, by show _ + 0 ≤ 0; omega⟩) hS (fun q _ h => hFc q h) hFc (fun r_148 u t H1 locs ht hvm hw hB hz1 hk1 hS => ?_)
            obtain ⟨F_149, hB1⟩ := hB
            obtain rfl : F_130 = F_149 := (funext (fun a => hB1.2.2.2 a List.not_mem_nil)).symm
            obtain ⟨hP, hD, hO, hR⟩ := QT.back hB1 ht hFc hR (fun q h => absurd h List.not_mem_nil)
            generalize H1 = H at hP hS ⊢
            have hw : True := hw
            have hw_150 := hw
            refine lv_iconst (v := 1) hx hb dX7_readKey_209 (by decide) ?_
            refine lv_iand hx hb dX7_readKey_210 ?_
            refine lv_topi (fun x_151 _ => ?_)
            refine lv_iconst (v := 1) hx hb dX7_readKey_211 (by decide) ?_
            refine lv_icmp_ne (tgt := 219) hx hb dX7_readKey_212 (by decide) (fun c_152 => ?_) (fun c_152 => ?_)
            ·
              refine lv_bipush (v := 6) hx hb dX7_readKey_219 (by decide) ?_
              refine W.widen (k := 0) (n := 0) (by omega) (by omega) ?_
              exact W.iret (v := 6) hx hb hr (fun t ht hWm => ⟨⟨6, (), rfl, trivial, ⟨F_130, QT.mk ht hP hD hO hR⟩⟩, hS.F ht⟩) hS.2.2 dX7_readKey_221
            ·
              refine lv_iconst (v := 2) hx hb dX7_readKey_215 (by decide) ?_
              refine lv_goto (tgt := 221) hx hb dX7_readKey_216 (by decide) ?_
              refine W.widen (k := 0) (n := 0) (by omega) (by omega) ?_
              exact W.iret (v := 2) hx hb hr (fun t ht hWm => ⟨⟨2, (), rfl, trivial, ⟨F_130, QT.mk ht hP hD hO hR⟩⟩, hS.F ht⟩) hS.2.2 dX7_readKey_221
      ·
        refine lv_aload_n hx hb dX7_readKey_112 rfl (lv_at hl 2 rfl) ?_
        refine pg_get (ci := 7) (v := .ref ke) (C := RX7) (T := TX7) (N := 17) hx hb hts it_7 hown hK hP hL_h0 hF_107 rfl 2 (by decide) (hts _ kt_386) (fun _ h9 => h9) rfl dX7_readKey_113 ?_
        refine lv_aload_n hx hb dX7_readKey_116 rfl (lv_at hl 0 rfl) ?_
        refine lv_iconst (v := 0) hx hb dX7_readKey_117 (by decide) ?_
        refine lv_aload_n hx hb dX7_readKey_118 rfl (lv_at hl 0 rfl) ?_
        obtain ⟨hi_153, ht_154, hq_155⟩ := hW.bytes hq_127 hq_128
        obtain ⟨z_156, o_157, hF_158, hq_159, hq_160⟩ := hO.bytes hq_127 hq_128
        refine pg_getN (ci := 0) (v := .int (nI z_156)) (C := RX0) (T := TX0) (N := 3) hx hb hts it_0 hown hK hP hq_127 hF_158 rfl 1 (by decide) (hE.nest kn_11) (fun _ h9 => h9) rfl dX7_readKey_119 ?_
        have hFc := pg_free hD hS hA
        obtain ⟨hi_161, hi_162, hi_163, hi_164, ⟨r_165, ht_166⟩, ht_167, ht_168, ht_169⟩ := hW.tags hi_5 ht_6
        have ht_166 : ty kx = (0, ρ + 5, [r_165, 700]) := ht_166
        have ht_168 : ty ky1 = (24, ρ + 74, [40]) := ht_168
        have ht_169 : ty ky2 = (24, ρ + 75, [40]) := ht_169
        obtain ⟨z_170, hF_171, hq_172⟩ := hO.tags hi_5 ht_6
        refine va_calli (va_runV (As := [.ref r_123, .int 0, .int (nI z_156)]) (rest := []) ⟨hx, hb, hml, hown, hts⟩ (s_X9_read l dC dI cs ty L H.size F_106 ke (ρ + 4) kx 700 ky0 ky1 ky2 r_123 μ_126 vr_125 700 0 (nI z_156) hW hi_5 ht_6 hq_127 hq_128) ⟨callB_of 3 hts (gi kt_330) rfl rfl rfl (hts _ kt_164) (hts _ kt_331) (by decide +kernel) ⟨Nat.le_of_ble_eq_true rfl, Nat.le_of_ble_eq_true rfl⟩, (hts _ kt_332), (hts _ kt_333)⟩ ⟨fun a U g mk q => ⟨q.1, PT.calling q.2⟩, pg_recv hK hP hi_5 hF_171 (q := (RX9, TX9, 5)) rfl, fun U hU hWm => ⟨rfl, PT.mk hU hWm hP hK hD hE hO⟩⟩ rfl rfl hl.1 rfl (lv_room (Nat.le_of_ble_eq_true rfl)) dX7_readKey_122 ⟨by show _ + 0 ≤ 0; omega, by show _ + 0 ≤ 0; omega⟩) hS (fun q _ h => hFc q h) hFc (fun r_173 u t H1 locs ht hvm hw hB hz1 hk1 hS => ?_)
        obtain ⟨F_174, hB1⟩ := hB
        obtain ⟨hP, hD, hO, hR⟩ := QT.back hB1 ht hFc hR (fun q h => by simp only [List.mem_cons, List.not_mem_nil, or_false] at h ⊢; omega)
        have hF_175 : F_174 h0 = .inr (7, [.ref d, .ref sl, .ref ke, .ref w0, .ref w1, .ref w2, .ref w3, .ref w4, .ref w5, .ref w6, .ref w7, .ref w8, .ref tk, .ref hs, .ref pw, .int v0_40, .int v1_41]) := (hB1.2.2.2 h0 (by rw [hT_h0]; simp <;> omega)).trans hF_107
        have hF_176 : F_174 sl = .inr (9, [.ref sx, .ref sy0, .ref sy1, .ref sy2, .int (nI z_64)]) := (hB1.2.2.2 sl (by rw [ht_4]; simp <;> omega)).trans hF_108
        have hF_177 : F_174 w0 = .inr (0, [.ref r_8, .int (nI z_95), .int o_96]) := (hB1.2.2.2 w0 (by rw [ht_9]; simp <;> omega)).trans hF_109
        generalize H1 = H at hP hS ⊢
        have hw : (r_173 = 0 ∨ r_173 = 1) := hw
        have hw_178 := hw
        refine lv_if_eq (tgt := 180) hx hb dX7_readKey_125 (by decide) (fun c_179 => ?_) (fun c_179 => ?_)
        ·
          refine lv_iconst (v := 0) hx hb dX7_readKey_180 (by decide) ?_
          refine W.widen (k := 0) (n := 0) (by omega) (by omega) ?_
          exact jn_129 0 F_174 (trivial) hO hR _ _ hP hD hS ls (lv_sub hl [0, 1, 2] rfl)
        ·
          refine lv_aload_n hx hb dX7_readKey_128 rfl (lv_at hl 2 rfl) ?_
          refine pg_get (ci := 7) (v := .ref ke) (C := RX7) (T := TX7) (N := 17) hx hb hts it_7 hown hK hP hL_h0 hF_175 rfl 2 (by decide) (hts _ kt_386) (fun _ h9 => h9) rfl dX7_readKey_129 ?_
          obtain ⟨q_180, v_181, hr_q_180, hXc_q_180⟩ := hG.2.2.2.2 ("PostGate$Sealer", 252, "p", [112]) (by decide +kernel)
          have hXc_q_180 : SXc q_180 v_181 1 (cct [112]) A s s.heap := hXc_q_180
          have hX_q_180 : SX q_180 v_181 1 A s s.heap := hXc_q_180.sx
          obtain ⟨xo_q_180, xc_q_180, xv_q_180, xt_q_180, xn_q_180⟩ := id hXc_q_180
          have hr_q_180 : vk_R "PostGate$Sealer" 252 "p" q_180 s := hr_q_180
          refine va_ldcS hx hb hown hr_q_180 dX7_readKey_132 ?_
          refine lv_aload_n hx hb dX7_readKey_134 rfl (lv_at hl 2 rfl) ?_
          refine pg_get (ci := 7) (v := .ref w4) (C := RX7) (T := TX7) (N := 17) hx hb hts it_7 hown hK hP hL_h0 hF_175 rfl 7 (by decide) (hts _ kt_385) (fun _ h9 => h9) rfl dX7_readKey_135 ?_
          refine lv_bipush (v := 64) hx hb dX7_readKey_138 (by decide) ?_
          have hFc := pg_free hD hS hA
          obtain ⟨z_182, hF_183, hq_184⟩ := hO.tags hi_5 ht_6
          refine va_calli (va_runV (As := [.ref q_180, .ref w4, .int 64]) (rest := []) ⟨hx, hb, hml, hown, hts⟩ (s_X9_decode l dC dI cs ty L H.size F_174 ke (ρ + 4) kx 700 ky0 ky1 ky2 q_180 v_181 1 w4 (ρ + 86) r_20 64 64 hW hi_5 ht_6 hi_19 ht_21) ⟨callB_of 3 hts (gi kt_343) rfl rfl rfl (hts _ kt_164) (hts _ kt_344) (by decide +kernel) ⟨Nat.le_of_ble_eq_true rfl, Nat.le_of_ble_eq_true rfl⟩, (hts _ kt_345), (hts _ kt_346)⟩ ⟨fun a U g mk q => ⟨q.1, PTE.calling q.2⟩, pg_recv hK hP hi_5 hF_183 (q := (RX9, TX9, 5)) rfl, fun U hU hWm => ⟨rfl, PTE.mk hU hWm hP hK hD hE hO hG (fun x hx => by rw [List.mem_singleton] at hx; subst hx; exact hX_q_180) hS hFc⟩⟩ rfl rfl hl.1 rfl (lv_room (Nat.le_of_ble_eq_true rfl)) dX7_readKey_140 ⟨by show _ + 0 ≤ 0; omega, by show _ + 0 ≤ 0; omega⟩) hS (fun q _ h => hFc q h) hFc (fun r_185 u t H1 locs ht hvm hw hB hz1 hk1 hS => ?_)
          obtain ⟨F_186, hB1⟩ := hB
          obtain ⟨hP, hD, hO, hR⟩ := QT.back hB1 ht hFc hR (fun q h => by simp only [List.mem_cons, List.not_mem_nil, or_false] at h ⊢; omega)
          have hF_187 : F_186 h0 = .inr (7, [.ref d, .ref sl, .ref ke, .ref w0, .ref w1, .ref w2, .ref w3, .ref w4, .ref w5, .ref w6, .ref w7, .ref w8, .ref tk, .ref hs, .ref pw, .int v0_40, .int v1_41]) := (hB1.2.2.2 h0 (by rw [hT_h0]; simp)).trans hF_175
          have hF_188 : F_186 sl = .inr (9, [.ref sx, .ref sy0, .ref sy1, .ref sy2, .int (nI z_64)]) := (hB1.2.2.2 sl (by rw [ht_4]; simp)).trans hF_176
          have hF_189 : F_186 w0 = .inr (0, [.ref r_8, .int (nI z_95), .int o_96]) := (hB1.2.2.2 w0 (by rw [ht_9]; simp)).trans hF_177
          have hF_190 : F_186 ke = .inr (9, [.ref kx, .ref ky0, .ref ky1, .ref ky2, .int (nI z_182)]) := (hB1.2.2.2 ke (by rw [ht_6]; simp)).trans hF_183
          generalize H1 = H at hP hS ⊢
          have hw : (r_185 = 0 ∨ r_185 = 1) := hw
          have hw_191 := hw
          refine lv_if_eq (tgt := 180) hx hb dX7_readKey_143 (by decide) (fun c_192 => ?_) (fun c_192 => ?_)
          ·
            refine lv_iconst (v := 0) hx hb dX7_readKey_180 (by decide) ?_
            refine W.widen (k := 0) (n := 0) (by omega) (by omega) ?_
            exact jn_129 0 F_186 (trivial) hO hR _ _ hP hD hS ls (lv_sub hl [0, 1, 2] rfl)
          ·
            refine lv_aload_n hx hb dX7_readKey_146 rfl (lv_at hl 2 rfl) ?_
            refine pg_get (ci := 7) (v := .ref ke) (C := RX7) (T := TX7) (N := 17) hx hb hts it_7 hown hK hP hL_h0 hF_187 rfl 2 (by decide) (hts _ kt_386) (fun _ h9 => h9) rfl dX7_readKey_147 ?_
            obtain ⟨q_193, v_194, hr_q_193, hXc_q_193⟩ := hG.2.2.2.2 ("PostGate$Sealer", 154, "v", [118]) (by decide +kernel)
            have hXc_q_193 : SXc q_193 v_194 1 (cct [118]) A s s.heap := hXc_q_193
            have hX_q_193 : SX q_193 v_194 1 A s s.heap := hXc_q_193.sx
            obtain ⟨xo_q_193, xc_q_193, xv_q_193, xt_q_193, xn_q_193⟩ := id hXc_q_193
            have hr_q_193 : vk_R "PostGate$Sealer" 154 "v" q_193 s := hr_q_193
            refine va_ldcS hx hb hown hr_q_193 dX7_readKey_150 ?_
            obtain ⟨q_195, v_196, hr_q_195, hXc_q_195⟩ := hG.2.2.2.2 ("PostGate$Sealer", 254, "DKIM1", [68, 75, 73, 77, 49]) (by decide +kernel)
            have hXc_q_195 : SXc q_195 v_196 5 (cct [68, 75, 73, 77, 49]) A s s.heap := hXc_q_195
            have hX_q_195 : SX q_195 v_196 5 A s s.heap := hXc_q_195.sx
            obtain ⟨xo_q_195, xc_q_195, xv_q_195, xt_q_195, xn_q_195⟩ := id hXc_q_195
            have hr_q_195 : vk_R "PostGate$Sealer" 254 "DKIM1" q_195 s := hr_q_195
            refine va_ldcS hx hb hown hr_q_195 dX7_readKey_152 ?_
            have hFc := pg_free hD hS hA
            refine va_calli (va_runV (As := [.ref q_193, .ref q_195]) (rest := []) ⟨hx, hb, hml, hown, hts⟩ (s_X9_isOrMisses l dC dI cs ty L H.size F_186 ke (ρ + 4) kx 700 ky0 ky1 ky2 q_193 v_194 1 q_195 v_196 5 hW hi_5 ht_6) ⟨callB_of 2 hts (gi kt_387) rfl rfl rfl (hts _ kt_164) (hts _ kt_388) (by decide +kernel) ⟨Nat.le_of_ble_eq_true rfl, Nat.le_of_ble_eq_true rfl⟩, (hts _ kt_389), (hts _ kt_390)⟩ ⟨fun a U g mk q => ⟨q.1, PTE.calling q.2⟩, pg_recv hK hP hi_5 hF_190 (q := (RX9, TX9, 5)) rfl, fun U hU hWm => ⟨rfl, PTE.mk hU hWm hP hK hD hE hO hG (fun x hx => by simp only [List.mem_cons, List.not_mem_nil, or_false] at hx; rcases hx with hx | hx <;> subst hx <;> first | exact hX_q_193 | exact hX_q_195) hS hFc⟩⟩ rfl rfl hl.1 rfl (lv_room (Nat.le_of_ble_eq_true rfl)) dX7_readKey_154 ⟨by show _ + 0 ≤ 0; omega, by show _ + 0 ≤ 0; omega⟩) hS (fun q _ h => hFc q h) hFc (fun r_197 u t H1 locs ht hvm hw hB hz1 hk1 hS => ?_)
            obtain ⟨F_198, hB1⟩ := hB
            obtain rfl : F_186 = F_198 := (funext (fun a => hB1.2.2.2 a List.not_mem_nil)).symm
            obtain ⟨hP, hD, hO, hR⟩ := QT.back hB1 ht hFc hR (fun q h => absurd h List.not_mem_nil)
            generalize H1 = H at hP hS ⊢
            have hw : (r_197 = 0 ∨ r_197 = 1) := hw
            have hw_199 := hw
            refine lv_if_eq (tgt := 180) hx hb dX7_readKey_157 (by decide) (fun c_200 => ?_) (fun c_200 => ?_)
            ·
              refine lv_iconst (v := 0) hx hb dX7_readKey_180 (by decide) ?_
              refine W.widen (k := 0) (n := 0) (by omega) (by omega) ?_
              exact jn_129 0 F_186 (trivial) hO hR _ _ hP hD hS ls (lv_sub hl [0, 1, 2] rfl)
            ·
              refine lv_aload_n hx hb dX7_readKey_160 rfl (lv_at hl 2 rfl) ?_
              refine pg_get (ci := 7) (v := .ref ke) (C := RX7) (T := TX7) (N := 17) hx hb hts it_7 hown hK hP hL_h0 hF_187 rfl 2 (by decide) (hts _ kt_386) (fun _ h9 => h9) rfl dX7_readKey_161 ?_
              obtain ⟨q_201, v_202, hr_q_201, hXc_q_201⟩ := hG.2.2.2.2 ("PostGate$Sealer", 259, "k", [107]) (by decide +kernel)
              have hXc_q_201 : SXc q_201 v_202 1 (cct [107]) A s s.heap := hXc_q_201
              have hX_q_201 : SX q_201 v_202 1 A s s.heap := hXc_q_201.sx
              obtain ⟨xo_q_201, xc_q_201, xv_q_201, xt_q_201, xn_q_201⟩ := id hXc_q_201
              have hr_q_201 : vk_R "PostGate$Sealer" 259 "k" q_201 s := hr_q_201
              refine va_ldcwS hx hb hown hr_q_201 dX7_readKey_164 ?_
              obtain ⟨q_203, v_204, hr_q_203, hXc_q_203⟩ := hG.2.2.2.2 ("PostGate$Sealer", 261, "rsa", [114, 115, 97]) (by decide +kernel)
              have hXc_q_203 : SXc q_203 v_204 3 (cct [114, 115, 97]) A s s.heap := hXc_q_203
              have hX_q_203 : SX q_203 v_204 3 A s s.heap := hXc_q_203.sx
              obtain ⟨xo_q_203, xc_q_203, xv_q_203, xt_q_203, xn_q_203⟩ := id hXc_q_203
              have hr_q_203 : vk_R "PostGate$Sealer" 261 "rsa" q_203 s := hr_q_203
              refine va_ldcwS hx hb hown hr_q_203 dX7_readKey_167 ?_
              have hFc := pg_free hD hS hA
              refine va_calli (va_runV (As := [.ref q_201, .ref q_203]) (rest := []) ⟨hx, hb, hml, hown, hts⟩ (s_X9_isOrMisses l dC dI cs ty L H.size F_186 ke (ρ + 4) kx 700 ky0 ky1 ky2 q_201 v_202 1 q_203 v_204 3 hW hi_5 ht_6) ⟨callB_of 2 hts (gi kt_387) rfl rfl rfl (hts _ kt_164) (hts _ kt_388) (by decide +kernel) ⟨Nat.le_of_ble_eq_true rfl, Nat.le_of_ble_eq_true rfl⟩, (hts _ kt_389), (hts _ kt_390)⟩ ⟨fun a U g mk q => ⟨q.1, PTE.calling q.2⟩, pg_recv hK hP hi_5 hF_190 (q := (RX9, TX9, 5)) rfl, fun U hU hWm => ⟨rfl, PTE.mk hU hWm hP hK hD hE hO hG (fun x hx => by simp only [List.mem_cons, List.not_mem_nil, or_false] at hx; rcases hx with hx | hx <;> subst hx <;> first | exact hX_q_201 | exact hX_q_203) hS hFc⟩⟩ rfl rfl hl.1 rfl (lv_room (Nat.le_of_ble_eq_true rfl)) dX7_readKey_170 ⟨by show _ + 0 ≤ 0; omega, by show _ + 0 ≤ 0; omega⟩) hS (fun q _ h => hFc q h) hFc (fun r_205 u t H1 locs ht hvm hw hB hz1 hk1 hS => ?_)
              obtain ⟨F_206, hB1⟩ := hB
              obtain rfl : F_186 = F_206 := (funext (fun a => hB1.2.2.2 a List.not_mem_nil)).symm
              obtain ⟨hP, hD, hO, hR⟩ := QT.back hB1 ht hFc hR (fun q h => absurd h List.not_mem_nil)
              generalize H1 = H at hP hS ⊢
              have hw : (r_205 = 0 ∨ r_205 = 1) := hw
              have hw_207 := hw
              refine lv_if_eq (tgt := 180) hx hb dX7_readKey_173 (by decide) (fun c_208 => ?_) (fun c_208 => ?_)
              ·
                refine lv_iconst (v := 0) hx hb dX7_readKey_180 (by decide) ?_
                refine W.widen (k := 0) (n := 0) (by omega) (by omega) ?_
                exact jn_129 0 F_186 (trivial) hO hR _ _ hP hD hS ls (lv_sub hl [0, 1, 2] rfl)
              ·
                refine lv_iconst (v := 1) hx hb dX7_readKey_176 (by decide) ?_
                refine lv_goto (tgt := 181) hx hb dX7_readKey_177 (by decide) ?_
                refine W.widen (k := 0) (n := 0) (by omega) (by omega) ?_
                exact jn_129 1 F_186 (trivial) hO hR _ _ hP hD hS ls (lv_sub hl [0, 1, 2] rfl)
    ·
      refine lv_bipush (v := 6) hx hb dX7_readKey_100 (by decide) ?_
      refine W.widen (k := 0) (n := 0) (by omega) (by omega) ?_
      exact W.iret (v := 6) hx hb hr (fun t ht hWm => ⟨⟨6, (), rfl, trivial, ⟨F_106, QT.mk ht hP hD hO hR⟩⟩, hS.F ht⟩) hS.2.2 dX7_readKey_102
  ·
    refine lv_iconst (v := 5) hx hb dX7_readKey_82 (by decide) ?_
    refine W.widen (k := 0) (n := 0) (by omega) (by omega) ?_
    exact W.iret (v := 5) hx hb hr (fun t ht hWm => ⟨⟨5, (), rfl, trivial, ⟨F_106, QT.mk ht hP hD hO hR⟩⟩, hS.F ht⟩) hS.2.2 dX7_readKey_83
set_option maxHeartbeats 4000000 in
set_option maxRecDepth 100000 in
theorem s_X7_isBodyRight (l : Launch) (dC : Nat → ClassId) (dI : Nat → Nat → Nat) (cs : Nat → ClassId) (ty : TyM) (L : List Nat) (sz : Nat) (F : Nat → va_E) (h0 : Nat) (ρ : Nat) (d : Nat) (δ : Nat) (ea : Nat) (sl : Nat) (sx : Nat) (sy0 : Nat) (sy1 : Nat) (sy2 : Nat) (ke : Nat) (kx : Nat) (ky0 : Nat) (ky1 : Nat) (ky2 : Nat) (w0 : Nat) (w1 : Nat) (w2 : Nat) (w3 : Nat) (w4 : Nat) (w5 : Nat) (w6 : Nat) (w7 : Nat) (w8 : Nat) (tk : Nat) (hs : Nat) (ha : Nat) (hbb : Nat) (hcc : Nat) (pw : Nat) (px : Nat) (py : Nat) (pz : Nat) (pu : Nat) (mg : Nat) (μ : Nat) (mx : Nat) (m0 : Nat) (m1 : Nat) (m2 : Nat) (hW : WT ty L) (hL_h0 : h0 ∈ L) (hT_h0 : ty h0 = (7, ρ, [d, δ, ea, sl, sx, sy0, sy1, sy2, ke, kx, ky0, ky1, ky2, w0, w1, w2, w3, w4, w5, w6, w7, w8, tk, hs, ha, hbb, hcc, pw, px, py, pz, pu])) (hL_mg : mg ∈ L) (hT_mg : ty mg = (4, μ, [mx, m0, m1, m2])) : Met l yX7_isBodyRight (.code yX7_isBodyRight cX7_isBodyRight 3 (some .boolean) :: tb) ({ frames := 7, cells := 0, slots := 0, locals := 153 }) (va_Pc [.ref h0, .ref mg] (PTE (dC, dI) cs ty L F sz [])) (va_Qi (fun (r : Int32) (_ : Unit) => (r = 0 ∨ r = 1)) (fun _ T9 => ∃ F2 : Nat → va_E, QT (dC, dI) cs ty L [ρ + 82, ρ + 83, ρ + 84, ρ + 85, ρ + 86, ρ + 87, ρ + 88, ρ + 89, ρ + 90, ρ + 91, ρ + 6] F F2 (va_A (va_pl L F) sz) T9) (va_A (va_pl L F) sz)) 0 0 (va_A (va_pl L F) sz) := by
  refine Met.ofW (cc := cX7_isBodyRight) (maxL := 3) (ret := (some .boolean)) (by decide) rfl ?_
  intro p e s m args below meth c s₁ B hml hv
  obtain ⟨rfl, ⟨hsz, hP, hK, hD0, hE, hO⟩, hG, hX⟩ := hv
  have hx := B.exec
  have hb := B.bytes
  have hr := B.returns
  have hts : ∀ w ∈ tb, w.before _ s = true := fun w h => atoms_spec (ws := .code yX7_isBodyRight cX7_isBodyRight 3 (some .boolean) :: tb) B.pre w (List.mem_cons_of_mem _ h)
  have hown : s.vm.findClass RX7 = some m.cls := findClass_of_methodNamed B.named
  have hlocks := B.notSynchronized
  subst hsz
  have hD := hD0.self (sz := s.heap.size)
  generalize hAe : va_A (va_pl L F) s.heap.size = A at hD hG hX ⊢
  have hA : ∀ q : Nat, s.heap.size ≤ q → A q := fun q h => by rw [← hAe]; exact Or.inr h
  have hS : va_S A s.heap s.heap [] := va_S.rf
  have hR : FR ty [ρ + 82, ρ + 83, ρ + 84, ρ + 85, ρ + 86, ρ + 87, ρ + 88, ρ + 89, ρ + 90, ρ + 91, ρ + 6] F F := FR.refl
  have hl := lv_entry ([.ref h0, .ref mg]) (n := 3) (Nat.le_of_ble_eq_true rfl)
  rw [lg_entry_eq]
  generalize (lg_sl ([.ref h0, .ref mg]) ++ List.replicate (3 - (lg_sl ([.ref h0, .ref mg])).length) Slot.unset).toArray = ls at hl ⊢
  have hl : lv_has ls 3 [(0, .ref h0), (1, .ref mg)] := hl
  refine lv_aload_n hx hb dX7_isBodyRight_0 rfl (lv_at hl 0 rfl) ?_
  obtain ⟨hi_1, ht_2, hi_3, ht_4, hi_5, ht_6, hi_7, ⟨r_8, ht_9⟩, hi_10, ⟨r_11, ht_12⟩, hi_13, ⟨r_14, ht_15⟩, hi_16, ⟨r_17, ht_18⟩, hi_19, ⟨r_20, ht_21⟩, hi_22, ⟨r_23, ht_24⟩, hi_25, ⟨r_26, ht_27⟩, hi_28, ⟨r_29, ht_30⟩, hi_31, ⟨r_32, ht_33⟩, hi_34, ht_35, hi_36, ht_37, hi_38, ht_39⟩ := hW.slr hL_h0 hT_h0
  obtain ⟨v0_40, v1_41, hF_42⟩ := hO.slr hL_h0 hT_h0
  refine pg_get (ci := 7) (v := .ref w8) (C := RX7) (T := TX7) (N := 17) hx hb hts it_7 hown hK hP hL_h0 hF_42 rfl 11 (by decide) (hts _ kt_391) (fun _ h9 => h9) rfl dX7_isBodyRight_1 ?_
  have hFc := pg_free hD hS hA
  obtain ⟨hi_43, ht_44, hq_45⟩ := hW.bytes hi_31 ht_33
  obtain ⟨z_46, o_47, hF_48, hq_49, hq_50⟩ := hO.bytes hi_31 ht_33
  refine va_callv (va_runV (As := []) (rest := []) ⟨hx, hb, hml, hown, hts⟩ (s_X0_clear l dC dI cs ty L s.heap.size F w8 (ρ + 90) r_32 6100 hW hi_31 ht_33) ⟨callB_of 0 hts (gi kt_32) rfl rfl rfl (hts _ kt_1) (hts _ kt_361) (by decide +kernel) ⟨Nat.le_of_ble_eq_true rfl, Nat.le_of_ble_eq_true rfl⟩, (hts _ kt_34), (hts _ kt_35)⟩ ⟨fun a U g mk q => ⟨q.1, PT.calling q.2⟩, pg_recv hK hP hi_31 hF_48 (q := (RX0, TX0, 3)) rfl, fun U hU hWm => ⟨rfl, PT.mk hU hWm hP hK hD hE hO⟩⟩ rfl rfl hl.1 rfl (lv_room (Nat.le_of_ble_eq_true rfl)) dX7_isBodyRight_4 ⟨by show _ + 0 ≤ 0; omega, by show _ + 0 ≤ 0; omega⟩) hS (fun q _ h => hFc q h) hFc (fun u t H1 locs ht hvm hw hB hz1 hk1 hS => ?_)
  obtain ⟨F_52, hB1, hq_53⟩ := hB
  obtain ⟨hP, hD, hO, hR⟩ := QT.back hB1 ht hFc hR (fun q h => by simp only [List.mem_cons, List.not_mem_nil, or_false] at h ⊢; omega)
  have hF_54 : F_52 h0 = .inr (7, [.ref d, .ref sl, .ref ke, .ref w0, .ref w1, .ref w2, .ref w3, .ref w4, .ref w5, .ref w6, .ref w7, .ref w8, .ref tk, .ref hs, .ref pw, .int v0_40, .int v1_41]) := (hB1.2.2.2 h0 (by rw [hT_h0]; simp)).trans hF_42
  generalize H1 = H at hP hS ⊢
  refine lv_aload_n hx hb dX7_isBodyRight_7 rfl (lv_at hl 1 rfl) ?_
  refine lv_aload_n hx hb dX7_isBodyRight_8 rfl (lv_at hl 0 rfl) ?_
  refine pg_get (ci := 7) (v := .ref w8) (C := RX7) (T := TX7) (N := 17) hx hb hts it_7 hown hK hP hL_h0 hF_54 rfl 11 (by decide) (hts _ kt_391) (fun _ h9 => h9) rfl dX7_isBodyRight_9 ?_
  refine lv_aload_n hx hb dX7_isBodyRight_12 rfl (lv_at hl 0 rfl) ?_
  refine pg_get (ci := 7) (v := .int v1_41) (C := RX7) (T := TX7) (N := 17) hx hb hts it_7 hown hK hP hL_h0 hF_54 rfl 16 (by decide) (hts _ kt_327) (fun _ h9 => h9) rfl dX7_isBodyRight_13 ?_
  have hFc := pg_free hD hS hA
  obtain ⟨hi_55, hi_56, hi_57, hi_58, ⟨r_59, ht_60⟩, ht_61, ht_62, ht_63⟩ := hW.msg hL_mg hT_mg
  obtain ⟨z_64, v0_65, hF_66, hq_67⟩ := hO.msg hL_mg hT_mg
  refine va_callv (va_runV (As := [.ref w8, .int v1_41]) (rest := []) ⟨hx, hb, hml, hown, hts⟩ (s_X4_addBody l dC dI cs ty L H.size F_52 mg μ mx m0 m1 m2 w8 (ρ + 90) r_32 6100 v1_41 hW hL_mg hT_mg hi_31 ht_33) ⟨callB_of 2 hts (gi kt_392) rfl rfl rfl (hts _ kt_211) (hts _ kt_393) (by decide +kernel) ⟨Nat.le_of_ble_eq_true rfl, Nat.le_of_ble_eq_true rfl⟩, (hts _ kt_394), (hts _ kt_395)⟩ ⟨fun a U g mk q => ⟨q.1, PT.calling q.2⟩, pg_recv hK hP hL_mg hF_66 (q := (RX4, TX4, 6)) rfl, fun U hU hWm => ⟨rfl, PT.mk hU hWm hP hK hD hE hO⟩⟩ rfl rfl hl.1 rfl (lv_room (Nat.le_of_ble_eq_true rfl)) dX7_isBodyRight_16 ⟨by show _ + 0 ≤ 0; omega, by show _ + 0 ≤ 0; omega⟩) hS (fun q _ h => hFc q h) hFc (fun u t H1 locs ht hvm hw hB hz1 hk1 hS => ?_)
  obtain ⟨F_69, hB1⟩ := hB
  obtain ⟨hP, hD, hO, hR⟩ := QT.back hB1 ht hFc hR (fun q h => by simp only [List.mem_cons, List.not_mem_nil, or_false] at h ⊢; omega)
  have hF_70 : F_69 h0 = .inr (7, [.ref d, .ref sl, .ref ke, .ref w0, .ref w1, .ref w2, .ref w3, .ref w4, .ref w5, .ref w6, .ref w7, .ref w8, .ref tk, .ref hs, .ref pw, .int v0_40, .int v1_41]) := (hB1.2.2.2 h0 (by rw [hT_h0]; simp)).trans hF_54
  generalize H1 = H at hP hS ⊢
  refine W.widen (k := 0) (n := 0) (by omega) (by omega) ?_
  refine pl_cut (σ := Int32) A (dC, dI) cs ty L [ρ + 82, ρ + 83, ρ + 84, ρ + 85, ρ + 86, ρ + 87, ρ + 88, ρ + 89, ρ + 90, ρ + 91, ρ + 6] F 50 3 (fun s0 => [(0, .ref h0), (1, .ref mg)]) (fun s0 => [.int s0]) (fun s0 _ => True) ?_ (fun jn_71 => ?_)
  ·
    rintro s0 F_72 hv_73 hO hR H locs hP hD hS ls hl
    have hl : lv_has ls 3 [(0, .ref h0), (1, .ref mg)] := hl
    have hv_73 : True := hv_73
    refine W.eq (g2 := F0 m 50 ls [.int s0]) rfl ?_
    refine lv_istore_n (lv' := [(2, .int s0), (0, .ref h0), (1, .ref mg)]) hx hb dX7_isBodyRight_50 rfl hl (by decide) rfl (fun ls hl => ?_)
    refine lv_iload_n hx hb dX7_isBodyRight_51 rfl (lv_at hl 0 rfl) ?_
    refine lv_aload_n hx hb dX7_isBodyRight_52 rfl (lv_at hl 1 rfl) ?_
    obtain ⟨v0_74, v1_75, hF_76⟩ := hO.slr hL_h0 hT_h0
    refine pg_get (ci := 7) (v := .ref w8) (C := RX7) (T := TX7) (N := 17) hx hb hts it_7 hown hK hP hL_h0 hF_76 rfl 11 (by decide) (hts _ kt_391) (fun _ h9 => h9) rfl dX7_isBodyRight_53 ?_
    obtain ⟨z_77, o_78, hF_79, hq_80, hq_81⟩ := hO.bytes hi_31 ht_33
    refine pg_getN (ci := 0) (v := .int (nI z_77)) (C := RX0) (T := TX0) (N := 3) hx hb hts it_0 hown hK hP hi_31 hF_79 rfl 1 (by decide) (hE.nest kn_11) (fun _ h9 => h9) rfl dX7_isBodyRight_56 ?_
    refine lv_icmp_le (tgt := 64) hx hb dX7_isBodyRight_59 (by decide) (fun c_82 => ?_) (fun c_82 => ?_)
    ·
      refine lv_aload_n hx hb dX7_isBodyRight_64 rfl (lv_at hl 1 rfl) ?_
      refine pg_get (ci := 7) (v := .ref hs) (C := RX7) (T := TX7) (N := 17) hx hb hts it_7 hown hK hP hL_h0 hF_76 rfl 13 (by decide) (hts _ kt_396) (fun _ h9 => h9) rfl dX7_isBodyRight_65 ?_
      refine lv_aload_n hx hb dX7_isBodyRight_68 rfl (lv_at hl 1 rfl) ?_
      refine pg_get (ci := 7) (v := .ref w8) (C := RX7) (T := TX7) (N := 17) hx hb hts it_7 hown hK hP hL_h0 hF_76 rfl 11 (by decide) (hts _ kt_391) (fun _ h9 => h9) rfl dX7_isBodyRight_69 ?_
      refine lv_iload_n hx hb dX7_isBodyRight_72 rfl (lv_at hl 0 rfl) ?_
      refine lv_aload_n hx hb dX7_isBodyRight_73 rfl (lv_at hl 1 rfl) ?_
      refine pg_get (ci := 7) (v := .ref w5) (C := RX7) (T := TX7) (N := 17) hx hb hts it_7 hown hK hP hL_h0 hF_76 rfl 8 (by decide) (hts _ kt_364) (fun _ h9 => h9) rfl dX7_isBodyRight_74 ?_
      have hFc := pg_free hD hS hA
      obtain ⟨hi_83, hi_84, hi_85, ht_86, ht_87, ht_88⟩ := hW.sha hi_36 ht_37
      have hF_89 := hO.sha hi_36 ht_37
      refine va_callv (va_runV (As := [.ref w8, .int s0, .ref w5]) (rest := []) ⟨hx, hb, hml, hown, hts⟩ (s_X8_sumOf l dC dI cs ty L H.size F_72 hs (ρ + 6) ha hbb hcc w8 (ρ + 90) r_32 6100 w5 (ρ + 87) r_23 32 s0 hW hi_36 ht_37 hi_31 ht_33 hi_22 ht_24 (by omega)) ⟨callB_of 3 hts (gi kt_397) rfl rfl rfl (hts _ kt_250) (hts _ kt_398) (by decide +kernel) ⟨Nat.le_of_ble_eq_true rfl, Nat.le_of_ble_eq_true rfl⟩, (hts _ kt_399), (hts _ kt_400)⟩ ⟨fun a U g mk q => ⟨q.1, PTE.calling q.2⟩, pg_recv hK hP hi_36 hF_89 (q := (RX8, TX8, 3)) rfl, fun U hU hWm => ⟨rfl, PTE.mk hU hWm hP hK hD hE hO hG (fun x hx => absurd hx List.not_mem_nil) hS hFc⟩⟩ rfl rfl hl.1 rfl (lv_room (Nat.le_of_ble_eq_true rfl)) dX7_isBodyRight_77 ⟨by show _ + 0 ≤ 0; omega, by show _ + 0 ≤ 0; omega⟩) hS (fun q _ h => hFc q h) hFc (fun u t H1 locs ht hvm hw hB hz1 hk1 hS => ?_)
      obtain ⟨F_91, hB1, hq_92⟩ := hB
      obtain ⟨hP, hD, hO, hR⟩ := QT.back hB1 ht hFc hR (fun q h => by simp only [List.mem_cons, List.not_mem_nil, or_false] at h ⊢; omega)
      have hF_93 : F_91 h0 = .inr (7, [.ref d, .ref sl, .ref ke, .ref w0, .ref w1, .ref w2, .ref w3, .ref w4, .ref w5, .ref w6, .ref w7, .ref w8, .ref tk, .ref hs, .ref pw, .int v0_74, .int v1_75]) := (hB1.2.2.2 h0 (by rw [hT_h0]; simp)).trans hF_76
      have hF_94 : F_91 w8 = .inr (0, [.ref r_32, .int (nI z_77), .int o_78]) := (hB1.2.2.2 w8 (by rw [ht_33]; simp)).trans hF_79
      generalize H1 = H at hP hS ⊢
      refine lv_aload_n hx hb dX7_isBodyRight_80 rfl (lv_at hl 1 rfl) ?_
      refine pg_get (ci := 7) (v := .ref w5) (C := RX7) (T := TX7) (N := 17) hx hb hts it_7 hown hK hP hL_h0 hF_93 rfl 8 (by decide) (hts _ kt_364) (fun _ h9 => h9) rfl dX7_isBodyRight_81 ?_
      refine lv_aload_n hx hb dX7_isBodyRight_84 rfl (lv_at hl 1 rfl) ?_
      refine pg_get (ci := 7) (v := .ref w2) (C := RX7) (T := TX7) (N := 17) hx hb hts it_7 hown hK hP hL_h0 hF_93 rfl 5 (by decide) (hts _ kt_342) (fun _ h9 => h9) rfl dX7_isBodyRight_85 ?_
      have hFc := pg_free hD hS hA
      obtain ⟨hi_95, ht_96, hq_97⟩ := hW.bytes hi_22 ht_24
      refine va_calli (va_runV (As := [.ref w2]) (rest := []) ⟨hx, hb, hml, hown, hts⟩ (s_X0_same l dC dI cs ty L H.size F_91 w5 (ρ + 87) r_23 32 w2 (ρ + 84) r_14 32 hW hi_22 ht_24 hi_13 ht_15) ⟨callB_of 1 hts (gi kt_85) rfl rfl rfl (hts _ kt_1) (hts _ kt_401) (by decide +kernel) ⟨Nat.le_of_ble_eq_true rfl, Nat.le_of_ble_eq_true rfl⟩, (hts _ kt_87), (hts _ kt_88)⟩ ⟨fun a U g mk q => ⟨q.1, PT.calling q.2⟩, pg_recv hK hP hi_22 hq_92 (q := (RX0, TX0, 3)) rfl, fun U hU hWm => ⟨rfl, PT.mk hU hWm hP hK hD hE hO⟩⟩ rfl rfl hl.1 rfl (lv_room (Nat.le_of_ble_eq_true rfl)) dX7_isBodyRight_88 ⟨by show _ + 0 ≤ 0; omega, by show _ + 0 ≤ 0; omega⟩) hS (fun q _ h => hFc q h) hFc (fun r_98 u t H1 locs ht hvm hw hB hz1 hk1 hS => ?_)
      obtain ⟨F_99, hB1⟩ := hB
      obtain rfl : F_91 = F_99 := (funext (fun a => hB1.2.2.2 a List.not_mem_nil)).symm
      obtain ⟨hP, hD, hO, hR⟩ := QT.back hB1 ht hFc hR (fun q h => absurd h List.not_mem_nil)
      generalize H1 = H at hP hS ⊢
      have hw : (r_98 = 0 ∨ r_98 = 1) := hw
      have hw_100 := hw
      refine W.widen (k := 0) (n := 0) (by omega) (by omega) ?_
      exact W.zret (v := r_98) (ty := .boolean) hx hb hr (bitN hw_100) (fun t ht hWm => ⟨⟨r_98, (), rfl, hw_100, ⟨F_91, QT.mk ht hP hD hO hR⟩⟩, hS.F ht⟩) hS.2.2 dX7_isBodyRight_91
    ·
      refine lv_iconst (v := 0) hx hb dX7_isBodyRight_62 (by decide) ?_
      refine W.widen (k := 0) (n := 0) (by omega) (by omega) ?_
      exact W.zret (v := 0) (ty := .boolean) hx hb hr (by decide) (fun t ht hWm => ⟨⟨0, (), rfl, (by first | exact Or.inl rfl | exact Or.inr rfl), ⟨F_72, QT.mk ht hP hD hO hR⟩⟩, hS.F ht⟩) hS.2.2 dX7_isBodyRight_63
  ·
    refine lv_aload_n hx hb dX7_isBodyRight_19 rfl (lv_at hl 0 rfl) ?_
    refine pg_get (ci := 7) (v := .ref sl) (C := RX7) (T := TX7) (N := 17) hx hb hts it_7 hown hK hP hL_h0 hF_70 rfl 1 (by decide) (hts _ kt_307) (fun _ h9 => h9) rfl dX7_isBodyRight_20 ?_
    obtain ⟨q_101, v_102, hr_q_101, hXc_q_101⟩ := hG.2.2.2.2 ("PostGate$Sealer", 185, "l", [108]) (by decide +kernel)
    have hXc_q_101 : SXc q_101 v_102 1 (cct [108]) A s s.heap := hXc_q_101
    have hX_q_101 : SX q_101 v_102 1 A s s.heap := hXc_q_101.sx
    obtain ⟨xo_q_101, xc_q_101, xv_q_101, xt_q_101, xn_q_101⟩ := id hXc_q_101
    have hr_q_101 : vk_R "PostGate$Sealer" 185 "l" q_101 s := hr_q_101
    refine va_ldcS hx hb hown hr_q_101 dX7_isBodyRight_23 ?_
    have hFc := pg_free hD hS hA
    obtain ⟨hi_103, hi_104, hi_105, hi_106, ⟨r_107, ht_108⟩, ht_109, ht_110, ht_111⟩ := hW.tags hi_3 ht_4
    have ht_108 : ty sx = (0, ρ + 3, [r_107, 3000]) := ht_108
    have ht_110 : ty sy1 = (24, ρ + 72, [40]) := ht_110
    have ht_111 : ty sy2 = (24, ρ + 73, [40]) := ht_111
    obtain ⟨z_112, hF_113, hq_114⟩ := hO.tags hi_3 ht_4
    refine va_calli (va_runV (As := [.ref q_101]) (rest := []) ⟨hx, hb, hml, hown, hts⟩ (s_X9_has l dC dI cs ty L H.size F_69 sl (ρ + 2) sx 3000 sy0 sy1 sy2 q_101 v_102 1 hW hi_3 ht_4) ⟨callB_of 1 hts (gi kt_308) rfl rfl rfl (hts _ kt_164) (hts _ kt_309) (by decide +kernel) ⟨Nat.le_of_ble_eq_true rfl, Nat.le_of_ble_eq_true rfl⟩, (hts _ kt_310), (hts _ kt_311)⟩ ⟨fun a U g mk q => ⟨q.1, PTE.calling q.2⟩, pg_recv hK hP hi_3 hF_113 (q := (RX9, TX9, 5)) rfl, fun U hU hWm => ⟨rfl, PTE.mk hU hWm hP hK hD hE hO hG (fun x hx => by rw [List.mem_singleton] at hx; subst hx; exact hX_q_101) hS hFc⟩⟩ rfl rfl hl.1 rfl (lv_room (Nat.le_of_ble_eq_true rfl)) dX7_isBodyRight_25 ⟨by show _ + 0 ≤ 0; omega, by show _ + 0 ≤ 0; omega⟩) hS (fun q _ h => hFc q h) hFc (fun r_115 u t H1 locs ht hvm hw hB hz1 hk1 hS => ?_)
    obtain ⟨F_116, hB1⟩ := hB
    obtain rfl : F_69 = F_116 := (funext (fun a => hB1.2.2.2 a List.not_mem_nil)).symm
    obtain ⟨hP, hD, hO, hR⟩ := QT.back hB1 ht hFc hR (fun q h => absurd h List.not_mem_nil)
    generalize H1 = H at hP hS ⊢
    have hw : (r_115 = 0 ∨ r_115 = 1) := hw
    have hw_117 := hw
    refine lv_if_eq (tgt := 43) hx hb dX7_isBodyRight_28 (by decide) (fun c_118 => ?_) (fun c_118 => ?_)
    ·
      refine lv_aload_n hx hb dX7_isBodyRight_43 rfl (lv_at hl 0 rfl) ?_
      refine pg_get (ci := 7) (v := .ref w8) (C := RX7) (T := TX7) (N := 17) hx hb hts it_7 hown hK hP hL_h0 hF_70 rfl 11 (by decide) (hts _ kt_391) (fun _ h9 => h9) rfl dX7_isBodyRight_44 ?_
      obtain ⟨z_119, o_120, hF_121, hq_122, hq_123⟩ := hO.bytes hi_31 ht_33
      refine pg_getN (ci := 0) (v := .int (nI z_119)) (C := RX0) (T := TX0) (N := 3) hx hb hts it_0 hown hK hP hi_31 hF_121 rfl 1 (by decide) (hE.nest kn_11) (fun _ h9 => h9) rfl dX7_isBodyRight_47 ?_
      refine W.widen (k := 0) (n := 0) (by omega) (by omega) ?_
      exact jn_71 (nI z_119) F_69 (trivial) hO hR _ _ hP hD hS ls (lv_sub hl [0, 1] rfl)
    ·
      refine lv_aload_n hx hb dX7_isBodyRight_31 rfl (lv_at hl 0 rfl) ?_
      refine pg_get (ci := 7) (v := .ref sl) (C := RX7) (T := TX7) (N := 17) hx hb hts it_7 hown hK hP hL_h0 hF_70 rfl 1 (by decide) (hts _ kt_307) (fun _ h9 => h9) rfl dX7_isBodyRight_32 ?_
      refine va_ldcS hx hb hown hr_q_101 dX7_isBodyRight_35 ?_
      have hFc := pg_free hD hS hA
      refine va_calli (va_runV (As := [.ref q_101]) (rest := []) ⟨hx, hb, hml, hown, hts⟩ (s_X9_numberAt l dC dI cs ty L H.size F_69 sl (ρ + 2) sx 3000 sy0 sy1 sy2 q_101 v_102 1 hW hi_3 ht_4) ⟨callB_of 1 hts (gi kt_312) rfl rfl rfl (hts _ kt_164) (hts _ kt_313) (by decide +kernel) ⟨Nat.le_of_ble_eq_true rfl, Nat.le_of_ble_eq_true rfl⟩, (hts _ kt_314), (hts _ kt_315)⟩ ⟨fun a U g mk q => ⟨q.1, PTE.calling q.2⟩, pg_recv hK hP hi_3 hF_113 (q := (RX9, TX9, 5)) rfl, fun U hU hWm => ⟨rfl, PTE.mk hU hWm hP hK hD hE hO hG (fun x hx => by rw [List.mem_singleton] at hx; subst hx; exact hX_q_101) hS hFc⟩⟩ rfl rfl hl.1 rfl (lv_room (Nat.le_of_ble_eq_true rfl)) dX7_isBodyRight_37 ⟨by show _ + 0 ≤ 0; omega, by show _ + 0 ≤ 0; omega⟩) hS (fun q _ h => hFc q h) hFc (fun r_124 u t H1 locs ht hvm hw hB hz1 hk1 hS => ?_)
      obtain ⟨F_125, hB1⟩ := hB
      obtain rfl : F_69 = F_125 := (funext (fun a => hB1.2.2.2 a List.not_mem_nil)).symm
      obtain ⟨hP, hD, hO, hR⟩ := QT.back hB1 ht hFc hR (fun q h => absurd h List.not_mem_nil)
      generalize H1 = H at hP hS ⊢
      have hw : True := hw
      have hw_126 := hw
      refine lv_goto (tgt := 50) hx hb dX7_isBodyRight_40 (by decide) ?_
      refine W.widen (k := 0) (n := 0) (by omega) (by omega) ?_
      exact jn_71 r_124 F_69 (trivial) hO hR _ _ hP hD hS ls (lv_sub hl [0, 1] rfl)
set_option maxHeartbeats 4000000 in
set_option maxRecDepth 100000 in
theorem s_X7_isSigned (l : Launch) (dC : Nat → ClassId) (dI : Nat → Nat → Nat) (cs : Nat → ClassId) (ty : TyM) (L : List Nat) (sz : Nat) (F : Nat → va_E) (h0 : Nat) (ρ : Nat) (d : Nat) (δ : Nat) (ea : Nat) (sl : Nat) (sx : Nat) (sy0 : Nat) (sy1 : Nat) (sy2 : Nat) (ke : Nat) (kx : Nat) (ky0 : Nat) (ky1 : Nat) (ky2 : Nat) (w0 : Nat) (w1 : Nat) (w2 : Nat) (w3 : Nat) (w4 : Nat) (w5 : Nat) (w6 : Nat) (w7 : Nat) (w8 : Nat) (tk : Nat) (hs : Nat) (ha : Nat) (hbb : Nat) (hcc : Nat) (pw : Nat) (px : Nat) (py : Nat) (pz : Nat) (pu : Nat) (hW : WT ty L) (hL_h0 : h0 ∈ L) (hT_h0 : ty h0 = (7, ρ, [d, δ, ea, sl, sx, sy0, sy1, sy2, ke, kx, ky0, ky1, ky2, w0, w1, w2, w3, w4, w5, w6, w7, w8, tk, hs, ha, hbb, hcc, pw, px, py, pz, pu])) : Met l yX7_isSigned (.code yX7_isSigned cX7_isSigned 1 (some .boolean) :: tb) ({ frames := 4, cells := 0, slots := 0, locals := 122 }) (va_Pc [.ref h0] (PTE (dC, dI) cs ty L F sz [])) (va_Qi (fun (r : Int32) (_ : Unit) => (r = 0 ∨ r = 1)) (fun _ T9 => ∃ F2 : Nat → va_E, QT (dC, dI) cs ty L [ρ + 82, ρ + 83, ρ + 84, ρ + 85, ρ + 86, ρ + 87, ρ + 88, ρ + 89, ρ + 90, ρ + 91, ρ + 6, ρ + 7, ρ + 92, ρ + 93, ρ + 94, ρ + 95] F F2 (va_A (va_pl L F) sz) T9) (va_A (va_pl L F) sz)) 0 0 (va_A (va_pl L F) sz) := by
  refine Met.ofW (cc := cX7_isSigned) (maxL := 1) (ret := (some .boolean)) (by decide) rfl ?_
  intro p e s m args below meth c s₁ B hml hv
  obtain ⟨rfl, ⟨hsz, hP, hK, hD0, hE, hO⟩, hG, hX⟩ := hv
  have hx := B.exec
  have hb := B.bytes
  have hr := B.returns
  have hts : ∀ w ∈ tb, w.before _ s = true := fun w h => atoms_spec (ws := .code yX7_isSigned cX7_isSigned 1 (some .boolean) :: tb) B.pre w (List.mem_cons_of_mem _ h)
  have hown : s.vm.findClass RX7 = some m.cls := findClass_of_methodNamed B.named
  have hlocks := B.notSynchronized
  subst hsz
  have hD := hD0.self (sz := s.heap.size)
  generalize hAe : va_A (va_pl L F) s.heap.size = A at hD hG hX ⊢
  have hA : ∀ q : Nat, s.heap.size ≤ q → A q := fun q h => by rw [← hAe]; exact Or.inr h
  have hS : va_S A s.heap s.heap [] := va_S.rf
  have hR : FR ty [ρ + 82, ρ + 83, ρ + 84, ρ + 85, ρ + 86, ρ + 87, ρ + 88, ρ + 89, ρ + 90, ρ + 91, ρ + 6, ρ + 7, ρ + 92, ρ + 93, ρ + 94, ρ + 95] F F := FR.refl
  have hl := lv_entry ([.ref h0]) (n := 1) (Nat.le_of_ble_eq_true rfl)
  rw [lg_entry_eq]
  generalize (lg_sl ([.ref h0]) ++ List.replicate (1 - (lg_sl ([.ref h0])).length) Slot.unset).toArray = ls at hl ⊢
  have hl : lv_has ls 1 [(0, .ref h0)] := hl
  refine lv_aload_n hx hb dX7_isSigned_0 rfl (lv_at hl 0 rfl) ?_
  obtain ⟨hi_1, ht_2, hi_3, ht_4, hi_5, ht_6, hi_7, ⟨r_8, ht_9⟩, hi_10, ⟨r_11, ht_12⟩, hi_13, ⟨r_14, ht_15⟩, hi_16, ⟨r_17, ht_18⟩, hi_19, ⟨r_20, ht_21⟩, hi_22, ⟨r_23, ht_24⟩, hi_25, ⟨r_26, ht_27⟩, hi_28, ⟨r_29, ht_30⟩, hi_31, ⟨r_32, ht_33⟩, hi_34, ht_35, hi_36, ht_37, hi_38, ht_39⟩ := hW.slr hL_h0 hT_h0
  obtain ⟨v0_40, v1_41, hF_42⟩ := hO.slr hL_h0 hT_h0
  refine pg_get (ci := 7) (v := .ref hs) (C := RX7) (T := TX7) (N := 17) hx hb hts it_7 hown hK hP hL_h0 hF_42 rfl 13 (by decide) (hts _ kt_396) (fun _ h9 => h9) rfl dX7_isSigned_1 ?_
  refine lv_aload_n hx hb dX7_isSigned_4 rfl (lv_at hl 0 rfl) ?_
  refine pg_get (ci := 7) (v := .ref w8) (C := RX7) (T := TX7) (N := 17) hx hb hts it_7 hown hK hP hL_h0 hF_42 rfl 11 (by decide) (hts _ kt_391) (fun _ h9 => h9) rfl dX7_isSigned_5 ?_
  refine lv_aload_n hx hb dX7_isSigned_8 rfl (lv_at hl 0 rfl) ?_
  refine pg_get (ci := 7) (v := .ref w8) (C := RX7) (T := TX7) (N := 17) hx hb hts it_7 hown hK hP hL_h0 hF_42 rfl 11 (by decide) (hts _ kt_391) (fun _ h9 => h9) rfl dX7_isSigned_9 ?_
  obtain ⟨hi_43, ht_44, hq_45⟩ := hW.bytes hi_31 ht_33
  obtain ⟨z_46, o_47, hF_48, hq_49, hq_50⟩ := hO.bytes hi_31 ht_33
  refine pg_getN (ci := 0) (v := .int (nI z_46)) (C := RX0) (T := TX0) (N := 3) hx hb hts it_0 hown hK hP hi_31 hF_48 rfl 1 (by decide) (hE.nest kn_11) (fun _ h9 => h9) rfl dX7_isSigned_12 ?_
  refine lv_aload_n hx hb dX7_isSigned_15 rfl (lv_at hl 0 rfl) ?_
  refine pg_get (ci := 7) (v := .ref w5) (C := RX7) (T := TX7) (N := 17) hx hb hts it_7 hown hK hP hL_h0 hF_42 rfl 8 (by decide) (hts _ kt_364) (fun _ h9 => h9) rfl dX7_isSigned_16 ?_
  have hFc := pg_free hD hS hA
  obtain ⟨hi_51, hi_52, hi_53, ht_54, ht_55, ht_56⟩ := hW.sha hi_36 ht_37
  have hF_57 := hO.sha hi_36 ht_37
  refine va_callv (va_runV (As := [.ref w8, .int (nI z_46), .ref w5]) (rest := []) ⟨hx, hb, hml, hown, hts⟩ (s_X8_sumOf l dC dI cs ty L s.heap.size F hs (ρ + 6) ha hbb hcc w8 (ρ + 90) r_32 6100 w5 (ρ + 87) r_23 32 (nI z_46) hW hi_36 ht_37 hi_31 ht_33 hi_22 ht_24 (by omega)) ⟨callB_of 3 hts (gi kt_397) rfl rfl rfl (hts _ kt_250) (hts _ kt_398) (by decide +kernel) ⟨Nat.le_of_ble_eq_true rfl, Nat.le_of_ble_eq_true rfl⟩, (hts _ kt_399), (hts _ kt_400)⟩ ⟨fun a U g mk q => ⟨q.1, PTE.calling q.2⟩, pg_recv hK hP hi_36 hF_57 (q := (RX8, TX8, 3)) rfl, fun U hU hWm => ⟨rfl, PTE.mk hU hWm hP hK hD hE hO hG (fun x hx => absurd hx List.not_mem_nil) hS hFc⟩⟩ rfl rfl hl.1 rfl (lv_room (Nat.le_of_ble_eq_true rfl)) dX7_isSigned_19 ⟨by show _ + 0 ≤ 0; omega, by show _ + 0 ≤ 0; omega⟩) hS (fun q _ h => hFc q h) hFc (fun u t H1 locs ht hvm hw hB hz1 hk1 hS => ?_)
  obtain ⟨F_59, hB1, hq_60⟩ := hB
  obtain ⟨hP, hD, hO, hR⟩ := QT.back hB1 ht hFc hR (fun q h => by simp only [List.mem_cons, List.not_mem_nil, or_false] at h ⊢; omega)
  have hF_61 : F_59 h0 = .inr (7, [.ref d, .ref sl, .ref ke, .ref w0, .ref w1, .ref w2, .ref w3, .ref w4, .ref w5, .ref w6, .ref w7, .ref w8, .ref tk, .ref hs, .ref pw, .int v0_40, .int v1_41]) := (hB1.2.2.2 h0 (by rw [hT_h0]; simp)).trans hF_42
  have hF_62 : F_59 w8 = .inr (0, [.ref r_32, .int (nI z_46), .int o_47]) := (hB1.2.2.2 w8 (by rw [ht_33]; simp)).trans hF_48
  generalize H1 = H at hP hS ⊢
  refine lv_aload_n hx hb dX7_isSigned_22 rfl (lv_at hl 0 rfl) ?_
  have hFc := pg_free hD hS hA
  refine va_callv (va_runV (As := []) (rest := []) ⟨hx, hb, hml, hown, hts⟩ (s_X7_writeDue l dC dI cs ty L H.size F_59 h0 ρ d δ ea sl sx sy0 sy1 sy2 ke kx ky0 ky1 ky2 w0 w1 w2 w3 w4 w5 w6 w7 w8 tk hs ha hbb hcc pw px py pz pu hW hL_h0 hT_h0) ⟨callB_of 0 hts (gi kt_402) rfl rfl rfl (hts _ kt_322) (hts _ kt_403) (by decide +kernel) ⟨Nat.le_of_ble_eq_true rfl, Nat.le_of_ble_eq_true rfl⟩, (hts _ kt_404), (hts _ kt_405)⟩ ⟨fun a U g mk q => ⟨q.1, PTE.calling q.2⟩, pg_recv hK hP hL_h0 hF_61 (q := (RX7, TX7, 17)) rfl, fun U hU hWm => ⟨rfl, PTE.mk hU hWm hP hK hD hE hO hG (fun x hx => absurd hx List.not_mem_nil) hS hFc⟩⟩ rfl rfl hl.1 rfl (lv_room (Nat.le_of_ble_eq_true rfl)) dX7_isSigned_23 ⟨by show _ + 0 ≤ 0; omega, by show _ + 0 ≤ 0; omega⟩) hS (fun q _ h => hFc q h) hFc (fun u t H1 locs ht hvm hw hB hz1 hk1 hS => ?_)
  obtain ⟨F_64, hB1⟩ := hB
  obtain ⟨hP, hD, hO, hR⟩ := QT.back hB1 ht hFc hR (fun q h => by simp only [List.mem_cons, List.not_mem_nil, or_false] at h ⊢; omega)
  have hF_65 : F_64 h0 = .inr (7, [.ref d, .ref sl, .ref ke, .ref w0, .ref w1, .ref w2, .ref w3, .ref w4, .ref w5, .ref w6, .ref w7, .ref w8, .ref tk, .ref hs, .ref pw, .int v0_40, .int v1_41]) := (hB1.2.2.2 h0 (by rw [hT_h0]; simp)).trans hF_61
  generalize H1 = H at hP hS ⊢
  refine lv_aload_n hx hb dX7_isSigned_26 rfl (lv_at hl 0 rfl) ?_
  refine pg_get (ci := 7) (v := .ref pw) (C := RX7) (T := TX7) (N := 17) hx hb hts it_7 hown hK hP hL_h0 hF_65 rfl 14 (by decide) (hts _ kt_406) (fun _ h9 => h9) rfl dX7_isSigned_27 ?_
  refine lv_aload_n hx hb dX7_isSigned_30 rfl (lv_at hl 0 rfl) ?_
  refine pg_get (ci := 7) (v := .ref w3) (C := RX7) (T := TX7) (N := 17) hx hb hts it_7 hown hK hP hL_h0 hF_65 rfl 6 (by decide) (hts _ kt_347) (fun _ h9 => h9) rfl dX7_isSigned_31 ?_
  refine lv_aload_n hx hb dX7_isSigned_34 rfl (lv_at hl 0 rfl) ?_
  refine pg_get (ci := 7) (v := .ref w4) (C := RX7) (T := TX7) (N := 17) hx hb hts it_7 hown hK hP hL_h0 hF_65 rfl 7 (by decide) (hts _ kt_385) (fun _ h9 => h9) rfl dX7_isSigned_35 ?_
  refine lv_aload_n hx hb dX7_isSigned_38 rfl (lv_at hl 0 rfl) ?_
  refine pg_get (ci := 7) (v := .ref w6) (C := RX7) (T := TX7) (N := 17) hx hb hts it_7 hown hK hP hL_h0 hF_65 rfl 9 (by decide) (hts _ kt_407) (fun _ h9 => h9) rfl dX7_isSigned_39 ?_
  have hFc := pg_free hD hS hA
  obtain ⟨hi_66, hi_67, hi_68, hi_69, ht_70, ht_71, ht_72, ht_73⟩ := hW.power hi_38 ht_39
  have ht_70 : ty px = (19, ρ + 92, [16]) := ht_70
  have ht_71 : ty py = (19, ρ + 93, [16]) := ht_71
  have ht_72 : ty pz = (19, ρ + 94, [16]) := ht_72
  have ht_73 : ty pu = (19, ρ + 95, [18]) := ht_73
  obtain ⟨v_74, hF_75⟩ := hO.power hi_38 ht_39
  refine va_callv (va_runV (As := [.ref w3, .ref w4, .ref w6]) (rest := []) ⟨hx, hb, hml, hown, hts⟩ (s_X6_of l dC dI cs ty L H.size F_64 pw (ρ + 7) px py pz pu w3 (ρ + 85) r_17 64 w4 (ρ + 86) r_20 64 w6 (ρ + 88) r_26 64 hW hi_38 ht_39 hi_16 ht_18 hi_19 ht_21 hi_25 ht_27) ⟨callB_of 3 hts (gi kt_408) rfl rfl rfl (hts _ kt_275) (hts _ kt_409) (by decide +kernel) ⟨Nat.le_of_ble_eq_true rfl, Nat.le_of_ble_eq_true rfl⟩, (hts _ kt_410), (hts _ kt_411)⟩ ⟨fun a U g mk q => ⟨q.1, PT.calling q.2⟩, pg_recv hK hP hi_38 hF_75 (q := (RX6, TX6, 5)) rfl, fun U hU hWm => ⟨rfl, PT.mk hU hWm hP hK hD hE hO⟩⟩ rfl rfl hl.1 rfl (lv_room (Nat.le_of_ble_eq_true rfl)) dX7_isSigned_42 ⟨by show _ + 0 ≤ 0; omega, by show _ + 0 ≤ 0; omega⟩) hS (fun q _ h => hFc q h) hFc (fun u t H1 locs ht hvm hw hB hz1 hk1 hS => ?_)
  obtain ⟨F_77, hB1⟩ := hB
  obtain ⟨hP, hD, hO, hR⟩ := QT.back hB1 ht hFc hR (fun q h => by simp only [List.mem_cons, List.not_mem_nil, or_false] at h ⊢; omega)
  have hF_78 : F_77 h0 = .inr (7, [.ref d, .ref sl, .ref ke, .ref w0, .ref w1, .ref w2, .ref w3, .ref w4, .ref w5, .ref w6, .ref w7, .ref w8, .ref tk, .ref hs, .ref pw, .int v0_40, .int v1_41]) := (hB1.2.2.2 h0 (by rw [hT_h0]; simp <;> omega)).trans hF_65
  generalize H1 = H at hP hS ⊢
  refine lv_aload_n hx hb dX7_isSigned_45 rfl (lv_at hl 0 rfl) ?_
  refine pg_get (ci := 7) (v := .ref w6) (C := RX7) (T := TX7) (N := 17) hx hb hts it_7 hown hK hP hL_h0 hF_78 rfl 9 (by decide) (hts _ kt_407) (fun _ h9 => h9) rfl dX7_isSigned_46 ?_
  refine lv_aload_n hx hb dX7_isSigned_49 rfl (lv_at hl 0 rfl) ?_
  refine pg_get (ci := 7) (v := .ref w7) (C := RX7) (T := TX7) (N := 17) hx hb hts it_7 hown hK hP hL_h0 hF_78 rfl 10 (by decide) (hts _ kt_360) (fun _ h9 => h9) rfl dX7_isSigned_50 ?_
  have hFc := pg_free hD hS hA
  obtain ⟨hi_79, ht_80, hq_81⟩ := hW.bytes hi_25 ht_27
  obtain ⟨z_82, o_83, hF_84, hq_85, hq_86⟩ := hO.bytes hi_25 ht_27
  refine va_calli (va_runV (As := [.ref w7]) (rest := []) ⟨hx, hb, hml, hown, hts⟩ (s_X0_same l dC dI cs ty L H.size F_77 w6 (ρ + 88) r_26 64 w7 (ρ + 89) r_29 64 hW hi_25 ht_27 hi_28 ht_30) ⟨callB_of 1 hts (gi kt_85) rfl rfl rfl (hts _ kt_1) (hts _ kt_401) (by decide +kernel) ⟨Nat.le_of_ble_eq_true rfl, Nat.le_of_ble_eq_true rfl⟩, (hts _ kt_87), (hts _ kt_88)⟩ ⟨fun a U g mk q => ⟨q.1, PT.calling q.2⟩, pg_recv hK hP hi_25 hF_84 (q := (RX0, TX0, 3)) rfl, fun U hU hWm => ⟨rfl, PT.mk hU hWm hP hK hD hE hO⟩⟩ rfl rfl hl.1 rfl (lv_room (Nat.le_of_ble_eq_true rfl)) dX7_isSigned_53 ⟨by show _ + 0 ≤ 0; omega, by show _ + 0 ≤ 0; omega⟩) hS (fun q _ h => hFc q h) hFc (fun r_87 u t H1 locs ht hvm hw hB hz1 hk1 hS => ?_)
  obtain ⟨F_88, hB1⟩ := hB
  obtain rfl : F_77 = F_88 := (funext (fun a => hB1.2.2.2 a List.not_mem_nil)).symm
  obtain ⟨hP, hD, hO, hR⟩ := QT.back hB1 ht hFc hR (fun q h => absurd h List.not_mem_nil)
  generalize H1 = H at hP hS ⊢
  have hw : (r_87 = 0 ∨ r_87 = 1) := hw
  have hw_89 := hw
  refine W.widen (k := 0) (n := 0) (by omega) (by omega) ?_
  exact W.zret (v := r_87) (ty := .boolean) hx hb hr (bitN hw_89) (fun t ht hWm => ⟨⟨r_87, (), rfl, hw_89, ⟨F_77, QT.mk ht hP hD hO hR⟩⟩, hS.F ht⟩) hS.2.2 dX7_isSigned_56
set_option maxHeartbeats 4000000 in
set_option maxRecDepth 100000 in
theorem s_X7_addLast (l : Launch) (dC : Nat → ClassId) (dI : Nat → Nat → Nat) (cs : Nat → ClassId) (ty : TyM) (L : List Nat) (sz : Nat) (F : Nat → va_E) (h0 : Nat) (ρ : Nat) (d : Nat) (δ : Nat) (ea : Nat) (sl : Nat) (sx : Nat) (sy0 : Nat) (sy1 : Nat) (sy2 : Nat) (ke : Nat) (kx : Nat) (ky0 : Nat) (ky1 : Nat) (ky2 : Nat) (w0 : Nat) (w1 : Nat) (w2 : Nat) (w3 : Nat) (w4 : Nat) (w5 : Nat) (w6 : Nat) (w7 : Nat) (w8 : Nat) (tk : Nat) (hs : Nat) (ha : Nat) (hbb : Nat) (hcc : Nat) (pw : Nat) (px : Nat) (py : Nat) (pz : Nat) (pu : Nat) (mg : Nat) (μ : Nat) (mx : Nat) (m0 : Nat) (m1 : Nat) (m2 : Nat) (x2 : Int32) (x3 : Int32) (hW : WT ty L) (hL_h0 : h0 ∈ L) (hT_h0 : ty h0 = (7, ρ, [d, δ, ea, sl, sx, sy0, sy1, sy2, ke, kx, ky0, ky1, ky2, w0, w1, w2, w3, w4, w5, w6, w7, w8, tk, hs, ha, hbb, hcc, pw, px, py, pz, pu])) (hL_mg : mg ∈ L) (hT_mg : ty mg = (4, μ, [mx, m0, m1, m2])) : Met l yX7_addLast (.code yX7_addLast cX7_addLast 5 none :: tb) ({ frames := 3, cells := 0, slots := 0, locals := 100 }) (va_Pc [.ref h0, .ref mg, .int x2, .int x3] (PT (dC, dI) cs ty L F sz)) (va_Qv (fun _ : Unit => True) (fun _ T9 => ∃ F2 : Nat → va_E, QT (dC, dI) cs ty L [ρ, ρ + 82, ρ + 83, ρ + 84, ρ + 85, ρ + 86, ρ + 87, ρ + 88, ρ + 89, ρ + 90, ρ + 91] F F2 (va_A (va_pl L F) sz) T9) (va_A (va_pl L F) sz)) 0 0 (va_A (va_pl L F) sz) := by
  refine Met.ofW (cc := cX7_addLast) (maxL := 5) (ret := none) (by decide) rfl ?_
  intro p e s m args below meth c s₁ B hml hv
  obtain ⟨rfl, hsz, hP, hK, hD0, hE, hO⟩ := hv
  have hx := B.exec
  have hb := B.bytes
  have hr := B.returns
  have hts : ∀ w ∈ tb, w.before _ s = true := fun w h => atoms_spec (ws := .code yX7_addLast cX7_addLast 5 none :: tb) B.pre w (List.mem_cons_of_mem _ h)
  have hown : s.vm.findClass RX7 = some m.cls := findClass_of_methodNamed B.named
  have hlocks := B.notSynchronized
  subst hsz
  have hD := hD0.self (sz := s.heap.size)
  generalize hAe : va_A (va_pl L F) s.heap.size = A at hD ⊢
  have hA : ∀ q : Nat, s.heap.size ≤ q → A q := fun q h => by rw [← hAe]; exact Or.inr h
  have hS : va_S A s.heap s.heap [] := va_S.rf
  have hR : FR ty [ρ, ρ + 82, ρ + 83, ρ + 84, ρ + 85, ρ + 86, ρ + 87, ρ + 88, ρ + 89, ρ + 90, ρ + 91] F F := FR.refl
  have hl := lv_entry ([.ref h0, .ref mg, .int x2, .int x3]) (n := 5) (Nat.le_of_ble_eq_true rfl)
  rw [lg_entry_eq]
  generalize (lg_sl ([.ref h0, .ref mg, .int x2, .int x3]) ++ List.replicate (5 - (lg_sl ([.ref h0, .ref mg, .int x2, .int x3])).length) Slot.unset).toArray = ls at hl ⊢
  have hl : lv_has ls 5 [(0, .ref h0), (1, .ref mg), (2, .int x2), (3, .int x3)] := hl
  refine lv_aload_n hx hb dX7_addLast_0 rfl (lv_at hl 1 rfl) ?_
  obtain ⟨hi_1, hi_2, hi_3, hi_4, ⟨r_5, ht_6⟩, ht_7, ht_8, ht_9⟩ := hW.msg hL_mg hT_mg
  obtain ⟨z_10, v0_11, hF_12, hq_13⟩ := hO.msg hL_mg hT_mg
  refine pg_getN (ci := 4) (v := .int (nI z_10)) (C := RX4) (T := TX4) (N := 6) hx hb hts it_4 hown hK hP hL_mg hF_12 rfl 4 (by decide) (hE.nest kn_12) (fun _ h9 => h9) rfl dX7_addLast_1 ?_
  refine lv_iconst (v := 1) hx hb dX7_addLast_4 (by decide) ?_
  refine lv_isub hx hb dX7_addLast_5 ?_
  refine lv_topi (fun x_14 ex_14 => ?_)
  obtain rfl : x_14 = (nI z_10 - 1) := ex_14.trans (rfl)
  refine lv_istore (lv' := [(4, .int (nI z_10 - 1)), (0, .ref h0), (1, .ref mg), (2, .int x2), (3, .int x3)]) hx hb dX7_addLast_6 hl (by decide) rfl (fun ls hl => ?_)
  refine W.widen (k := 0) (n := 0) (by omega) (by omega) ?_
  refine pl_loop (σ := Int32) A (dC, dI) cs ty L [ρ, ρ + 82, ρ + 83, ρ + 84, ρ + 85, ρ + 86, ρ + 87, ρ + 88, ρ + 89, ρ + 90, ρ + 91] F 8 5 (fun i1 => [(4, .int i1), (0, .ref h0), (1, .ref mg), (2, .int x2), (3, .int x3)]) (fun i1 => []) (fun i1 _ => ∃ j : Nat, j ≤ 20 ∧ i1 = nI j - 1) (fun i1 => (i1.toInt + 1).toNat) ?_ (nI z_10 - 1) F (⟨z_10, by omega, rfl⟩) hO hR _ _ hP hD hS ls (lv_sub hl [0, 1, 2, 3, 4] rfl)
  rintro i1 F_15 hv_16 hO hR ih_17 H locs hP hD hS ls hl
  have hl : lv_has ls 5 [(4, .int i1), (0, .ref h0), (1, .ref mg), (2, .int x2), (3, .int x3)] := hl
  have hv_16 : ∃ j : Nat, j ≤ 20 ∧ i1 = nI j - 1 := hv_16
  refine W.eq (g2 := F0 m 8 ls []) rfl ?_
  refine lv_iload hx hb dX7_addLast_8 (lv_at hl 0 rfl) ?_
  refine lv_if_lt (tgt := 84) hx hb dX7_addLast_10 (by decide) (fun c_18 => ?_) (fun c_18 => ?_)
  ·
    refine W.widen (k := 0) (n := 0) (by omega) (by omega) ?_
    exact W.vret hx hb hr (fun t ht hWm => ⟨⟨(), rfl, trivial, ⟨F_15, QT.mk ht hP hD hO hR⟩⟩, hS.F ht⟩) hS.2.2 dX7_addLast_84
  ·
    obtain ⟨k, hk20, rfl⟩ := dn_pos hv_16 c_18
    refine lv_aload_n hx hb dX7_addLast_13 rfl (lv_at hl 1 rfl) ?_
    obtain ⟨hi_19, ht_20, hi_21, ht_22, hi_23, ht_24, hi_25, ⟨r_26, ht_27⟩, hi_28, ⟨r_29, ht_30⟩, hi_31, ⟨r_32, ht_33⟩, hi_34, ⟨r_35, ht_36⟩, hi_37, ⟨r_38, ht_39⟩, hi_40, ⟨r_41, ht_42⟩, hi_43, ⟨r_44, ht_45⟩, hi_46, ⟨r_47, ht_48⟩, hi_49, ⟨r_50, ht_51⟩, hi_52, ht_53, hi_54, ht_55, hi_56, ht_57⟩ := hW.slr hL_h0 hT_h0
    obtain ⟨v0_58, v1_59, hF_60⟩ := hO.slr hL_h0 hT_h0
    refine pg_get (ci := 7) (v := .ref tk) (C := RX7) (T := TX7) (N := 17) hx hb hts it_7 hown hK hP hL_h0 hF_60 rfl 12 (by decide) (hts _ kt_412) (fun _ h9 => h9) rfl dX7_addLast_14 ?_
    refine lv_iload hx hb dX7_addLast_17 (lv_at hl 0 rfl) ?_
    obtain ⟨f_61, hF_62⟩ := hO.bits hi_52 ht_53
    refine pg_zald hx hb hK hP hi_52 2 hF_62 rfl (vp_in_nI (by omega) (by omega)) dX7_addLast_19 ?_
    refine lv_topi (fun x_63 _ => ?_)
    refine lv_if_ne (tgt := 78) hx hb dX7_addLast_20 (by decide) (fun c_64 => ?_) (fun c_64 => ?_)
    ·
      refine lv_iinc (v := (nI k + Int32.ofInt (-1))) (lv' := [(4, .int (nI k + Int32.ofInt (-1))), (0, .ref h0), (1, .ref mg), (2, .int x2), (3, .int x3)]) hx hb dX7_addLast_78 hl (k := 0) rfl (rfl) (by decide) rfl (fun ls hl => ?_)
      refine lv_goto (tgt := 8) hx hb dX7_addLast_81 (by decide) ?_
      refine W.widen (k := 0) (n := 0) (by omega) (by omega) ?_
      exact ih_17 (nI k + Int32.ofInt (-1)) F_15 (⟨k, by omega, dn_st k⟩) (by show ((nI k + Int32.ofInt (-1)).toInt + 1).toNat < ((nI k).toInt + 1).toNat; exact dn_mu (by omega)) hO hR _ _ hP hD hS ls (lv_sub hl [0, 1, 2, 3, 4] rfl)
    ·
      refine lv_aload_n hx hb dX7_addLast_23 rfl (lv_at hl 2 rfl) ?_
      refine lv_iload hx hb dX7_addLast_24 (lv_at hl 0 rfl) ?_
      refine lv_aload_n hx hb dX7_addLast_26 rfl (lv_at hl 1 rfl) ?_
      refine pg_get (ci := 7) (v := .ref sl) (C := RX7) (T := TX7) (N := 17) hx hb hts it_7 hown hK hP hL_h0 hF_60 rfl 1 (by decide) (hts _ kt_307) (fun _ h9 => h9) rfl dX7_addLast_27 ?_
      obtain ⟨hi_65, hi_66, hi_67, hi_68, ⟨r_69, ht_70⟩, ht_71, ht_72, ht_73⟩ := hW.tags hi_21 ht_22
      have ht_70 : ty sx = (0, ρ + 3, [r_69, 3000]) := ht_70
      have ht_72 : ty sy1 = (24, ρ + 72, [40]) := ht_72
      have ht_73 : ty sy2 = (24, ρ + 73, [40]) := ht_73
      obtain ⟨z_74, hF_75, hq_76⟩ := hO.tags hi_21 ht_22
      refine pg_getN (ci := 9) (v := .ref sx) (C := RX9) (T := TX9) (N := 5) hx hb hts it_9 hown hK hP hi_21 hF_75 rfl 0 (by decide) (hE.nest kn_7) (fun _ h9 => h9) rfl dX7_addLast_30 ?_
      refine lv_iload_n hx hb dX7_addLast_33 rfl (lv_at hl 3 rfl) ?_
      refine lv_iload_n hx hb dX7_addLast_34 rfl (lv_at hl 4 rfl) ?_
      have hFc := pg_free hD hS hA
      obtain ⟨z_77, v0_78, hF_79, hq_80⟩ := hO.msg hL_mg hT_mg
      refine va_calli (va_runV (As := [.int (nI k), .ref sx, .int x2, .int x3]) (rest := []) ⟨hx, hb, hml, hown, hts⟩ (s_X4_isNamedLike l dC dI cs ty L H.size F_15 mg μ mx m0 m1 m2 sx (ρ + 3) r_69 3000 (nI k) x2 x3 hW hL_mg hT_mg hi_65 ht_70) ⟨callB_of 4 hts (gi kt_413) rfl rfl rfl (hts _ kt_211) (hts _ kt_414) (by decide +kernel) ⟨Nat.le_of_ble_eq_true rfl, Nat.le_of_ble_eq_true rfl⟩, (hts _ kt_415), (hts _ kt_416)⟩ ⟨fun a U g mk q => ⟨q.1, PT.calling q.2⟩, pg_recv hK hP hL_mg hF_79 (q := (RX4, TX4, 6)) rfl, fun U hU hWm => ⟨rfl, PT.mk hU hWm hP hK hD hE hO⟩⟩ rfl rfl hl.1 rfl (lv_room (Nat.le_of_ble_eq_true rfl)) dX7_addLast_35 ⟨by show _ + 0 ≤ 0; omega, by show _ + 0 ≤ 0; omega⟩) hS (fun q _ h => hFc q h) hFc (fun r_81 u t H1 locs ht hvm hw hB hz1 hk1 hS => ?_)
      obtain ⟨F_82, hB1⟩ := hB
      obtain rfl : F_15 = F_82 := (funext (fun a => hB1.2.2.2 a List.not_mem_nil)).symm
      obtain ⟨hP, hD, hO, hR⟩ := QT.back hB1 ht hFc hR (fun q h => absurd h List.not_mem_nil)
      generalize H1 = H at hP hS ⊢
      have hw : (r_81 = 0 ∨ r_81 = 1) := hw
      have hw_83 := hw
      refine lv_if_ne (tgt := 44) hx hb dX7_addLast_38 (by decide) (fun c_84 => ?_) (fun c_84 => ?_)
      ·
        refine lv_aload_n hx hb dX7_addLast_44 rfl (lv_at hl 1 rfl) ?_
        refine pg_get (ci := 7) (v := .ref tk) (C := RX7) (T := TX7) (N := 17) hx hb hts it_7 hown hK hP hL_h0 hF_60 rfl 12 (by decide) (hts _ kt_412) (fun _ h9 => h9) rfl dX7_addLast_45 ?_
        refine lv_iload hx hb dX7_addLast_48 (lv_at hl 0 rfl) ?_
        refine lv_iconst (v := 1) hx hb dX7_addLast_50 (by decide) ?_
        refine pg_zast hx hb hK hP hD hS hi_52 2 hF_62 rfl (vp_in_nI (by omega) (by omega)) dX7_addLast_51 (fun H locs hP hD hS => ?_)
        obtain ⟨F_85, he_86, hP, hD, hO, hR⟩ : ∃ G, G = va_up F_15 tk (.inl (cs 18, 20, .inl (upd f_61 ((nI k)).toNatClampNeg (vp_nar .boolean (1))))) ∧ va_P (dC, dI) vwCl (va_pl L G) H ∧ va_D A (va_pl L G) ∧ OK cs ty L G ∧ FR ty [ρ, ρ + 82, ρ + 83, ρ + 84, ρ + 85, ρ + 86, ρ + 87, ρ + 88, ρ + 89, ρ + 90, ρ + 91] F G := ⟨_, rfl, hP, hD, hO.up (sh.bits ht_53 ⟨_, rfl⟩), hR.up ht_53 (by simp)⟩
        have hF_87 : F_85 tk = .inl (cs 18, 20, .inl (upd f_61 ((nI k)).toNatClampNeg (vp_nar .boolean (1)))) := by rw [he_86]; exact up_self
        have hF_88 : F_85 h0 = .inr (7, [.ref d, .ref sl, .ref ke, .ref w0, .ref w1, .ref w2, .ref w3, .ref w4, .ref w5, .ref w6, .ref w7, .ref w8, .ref tk, .ref hs, .ref pw, .int v0_58, .int v1_59]) := by rw [he_86, up_ne (ne_ty hT_h0 ht_53 (by simp))]; exact hF_60
        have hF_89 : F_85 sl = .inr (9, [.ref sx, .ref sy0, .ref sy1, .ref sy2, .int (nI z_74)]) := by rw [he_86, up_ne (ne_ty ht_22 ht_53 (by simp))]; exact hF_75
        have hF_90 : F_85 mg = .inr (4, [.ref mx, .ref m0, .ref m1, .ref m2, .int (nI z_77), .int v0_78]) := by rw [he_86, up_ne (ne_ty hT_mg ht_53 (by simp))]; exact hF_79
        obtain ⟨f_91, hF_87⟩ : ∃ f : Nat → Int32, F_85 tk = .inl (cs 18, 20, .inl f) := ⟨_, hF_87⟩
        refine lv_aload_n hx hb dX7_addLast_52 rfl (lv_at hl 2 rfl) ?_
        refine lv_aload_n hx hb dX7_addLast_53 rfl (lv_at hl 1 rfl) ?_
        refine pg_get (ci := 7) (v := .ref w8) (C := RX7) (T := TX7) (N := 17) hx hb hts it_7 hown hK hP hL_h0 hF_88 rfl 11 (by decide) (hts _ kt_391) (fun _ h9 => h9) rfl dX7_addLast_54 ?_
        refine lv_iload hx hb dX7_addLast_57 (lv_at hl 0 rfl) ?_
        refine lv_aload_n hx hb dX7_addLast_59 rfl (lv_at hl 1 rfl) ?_
        refine pg_get (ci := 7) (v := .int v0_58) (C := RX7) (T := TX7) (N := 17) hx hb hts it_7 hown hK hP hL_h0 hF_88 rfl 15 (by decide) (hts _ kt_326) (fun _ h9 => h9) rfl dX7_addLast_60 ?_
        refine lv_iconst (v := 0) hx hb dX7_addLast_63 (by decide) ?_
        refine lv_iconst (v := 0) hx hb dX7_addLast_64 (by decide) ?_
        have hFc := pg_free hD hS hA
        refine va_callv (va_runV (As := [.ref w8, .int (nI k), .int v0_58, .int 0, .int 0]) (rest := []) ⟨hx, hb, hml, hown, hts⟩ (s_X4_addFieldWithout l dC dI cs ty L H.size F_85 mg μ mx m0 m1 m2 w8 (ρ + 90) r_50 6100 (nI k) v0_58 0 0 hW hL_mg hT_mg hi_49 ht_51 (by decide)) ⟨callB_of 5 hts (gi kt_417) rfl rfl rfl (hts _ kt_211) (hts _ kt_418) (by decide +kernel) ⟨Nat.le_of_ble_eq_true rfl, Nat.le_of_ble_eq_true rfl⟩, (hts _ kt_419), (hts _ kt_420)⟩ ⟨fun a U g mk q => ⟨q.1, PT.calling q.2⟩, pg_recv hK hP hL_mg hF_90 (q := (RX4, TX4, 6)) rfl, fun U hU hWm => ⟨rfl, PT.mk hU hWm hP hK hD hE hO⟩⟩ rfl rfl hl.1 rfl (lv_room (Nat.le_of_ble_eq_true rfl)) dX7_addLast_65 ⟨by show _ + 0 ≤ 0; omega, by show _ + 0 ≤ 0; omega⟩) hS (fun q _ h => hFc q h) hFc (fun u t H1 locs ht hvm hw hB hz1 hk1 hS => ?_)
        obtain ⟨F_93, hB1⟩ := hB
        obtain ⟨hP, hD, hO, hR⟩ := QT.back hB1 ht hFc hR (fun q h => by simp only [List.mem_cons, List.not_mem_nil, or_false] at h ⊢; omega)
        have hF_94 : F_93 tk = .inl (cs 18, 20, .inl f_91) := (hB1.2.2.2 tk (by rw [ht_53]; simp)).trans hF_87
        have hF_95 : F_93 h0 = .inr (7, [.ref d, .ref sl, .ref ke, .ref w0, .ref w1, .ref w2, .ref w3, .ref w4, .ref w5, .ref w6, .ref w7, .ref w8, .ref tk, .ref hs, .ref pw, .int v0_58, .int v1_59]) := (hB1.2.2.2 h0 (by rw [hT_h0]; simp)).trans hF_88
        have hF_96 : F_93 sl = .inr (9, [.ref sx, .ref sy0, .ref sy1, .ref sy2, .int (nI z_74)]) := (hB1.2.2.2 sl (by rw [ht_22]; simp)).trans hF_89
        generalize H1 = H at hP hS ⊢
        refine lv_aload_n hx hb dX7_addLast_68 rfl (lv_at hl 1 rfl) ?_
        refine pg_get (ci := 7) (v := .ref w8) (C := RX7) (T := TX7) (N := 17) hx hb hts it_7 hown hK hP hL_h0 hF_95 rfl 11 (by decide) (hts _ kt_391) (fun _ h9 => h9) rfl dX7_addLast_69 ?_
        refine lv_bipush (v := 10) hx hb dX7_addLast_72 (by decide) ?_
        have hFc := pg_free hD hS hA
        obtain ⟨hi_97, ht_98, hq_99⟩ := hW.bytes hi_49 ht_51
        obtain ⟨z_100, o_101, hF_102, hq_103, hq_104⟩ := hO.bytes hi_49 ht_51
        refine va_callv (va_runV (As := [.int 10]) (rest := []) ⟨hx, hb, hml, hown, hts⟩ (s_X0_add l dC dI cs ty L H.size F_93 w8 (ρ + 90) r_50 6100 10 hW hi_49 ht_51) ⟨callB_of 1 hts (gi kt_13) rfl rfl rfl (hts _ kt_1) (hts _ kt_362) (by decide +kernel) ⟨Nat.le_of_ble_eq_true rfl, Nat.le_of_ble_eq_true rfl⟩, (hts _ kt_15), (hts _ kt_16)⟩ ⟨fun a U g mk q => ⟨q.1, PT.calling q.2⟩, pg_recv hK hP hi_49 hF_102 (q := (RX0, TX0, 3)) rfl, fun U hU hWm => ⟨rfl, PT.mk hU hWm hP hK hD hE hO⟩⟩ rfl rfl hl.1 rfl (lv_room (Nat.le_of_ble_eq_true rfl)) dX7_addLast_74 ⟨by show _ + 0 ≤ 0; omega, by show _ + 0 ≤ 0; omega⟩) hS (fun q _ h => hFc q h) hFc (fun u t H1 locs ht hvm hw hB hz1 hk1 hS => ?_)
        obtain ⟨F_106, hB1⟩ := hB
        obtain ⟨hP, hD, hO, hR⟩ := QT.back hB1 ht hFc hR (fun q h => by simp only [List.mem_cons, List.not_mem_nil, or_false] at h ⊢; omega)
        have hF_107 : F_106 tk = .inl (cs 18, 20, .inl f_91) := (hB1.2.2.2 tk (by rw [ht_53]; simp)).trans hF_94
        have hF_108 : F_106 h0 = .inr (7, [.ref d, .ref sl, .ref ke, .ref w0, .ref w1, .ref w2, .ref w3, .ref w4, .ref w5, .ref w6, .ref w7, .ref w8, .ref tk, .ref hs, .ref pw, .int v0_58, .int v1_59]) := (hB1.2.2.2 h0 (by rw [hT_h0]; simp)).trans hF_95
        have hF_109 : F_106 sl = .inr (9, [.ref sx, .ref sy0, .ref sy1, .ref sy2, .int (nI z_74)]) := (hB1.2.2.2 sl (by rw [ht_22]; simp)).trans hF_96
        generalize H1 = H at hP hS ⊢
        refine W.widen (k := 0) (n := 0) (by omega) (by omega) ?_
        exact W.vret hx hb hr (fun t ht hWm => ⟨⟨(), rfl, trivial, ⟨F_106, QT.mk ht hP hD hO hR⟩⟩, hS.F ht⟩) hS.2.2 dX7_addLast_77
      ·
        refine lv_goto (tgt := 78) hx hb dX7_addLast_41 (by decide) ?_
        refine lv_iinc (v := (nI k + Int32.ofInt (-1))) (lv' := [(4, .int (nI k + Int32.ofInt (-1))), (0, .ref h0), (1, .ref mg), (2, .int x2), (3, .int x3)]) hx hb dX7_addLast_78 hl (k := 0) rfl (rfl) (by decide) rfl (fun ls hl => ?_)
        refine lv_goto (tgt := 8) hx hb dX7_addLast_81 (by decide) ?_
        refine W.widen (k := 0) (n := 0) (by omega) (by omega) ?_
        exact ih_17 (nI k + Int32.ofInt (-1)) F_15 (⟨k, by omega, dn_st k⟩) (by show ((nI k + Int32.ofInt (-1)).toInt + 1).toNat < ((nI k).toInt + 1).toNat; exact dn_mu (by omega)) hO hR _ _ hP hD hS ls (lv_sub hl [0, 1, 2, 3, 4] rfl)
set_option maxHeartbeats 4000000 in
set_option maxRecDepth 100000 in
theorem s_X7_addListed (l : Launch) (dC : Nat → ClassId) (dI : Nat → Nat → Nat) (cs : Nat → ClassId) (ty : TyM) (L : List Nat) (sz : Nat) (F : Nat → va_E) (h0 : Nat) (ρ : Nat) (d : Nat) (δ : Nat) (ea : Nat) (sl : Nat) (sx : Nat) (sy0 : Nat) (sy1 : Nat) (sy2 : Nat) (ke : Nat) (kx : Nat) (ky0 : Nat) (ky1 : Nat) (ky2 : Nat) (w0 : Nat) (w1 : Nat) (w2 : Nat) (w3 : Nat) (w4 : Nat) (w5 : Nat) (w6 : Nat) (w7 : Nat) (w8 : Nat) (tk : Nat) (hs : Nat) (ha : Nat) (hbb : Nat) (hcc : Nat) (pw : Nat) (px : Nat) (py : Nat) (pz : Nat) (pu : Nat) (mg : Nat) (μ : Nat) (mx : Nat) (m0 : Nat) (m1 : Nat) (m2 : Nat) (hW : WT ty L) (hL_h0 : h0 ∈ L) (hT_h0 : ty h0 = (7, ρ, [d, δ, ea, sl, sx, sy0, sy1, sy2, ke, kx, ky0, ky1, ky2, w0, w1, w2, w3, w4, w5, w6, w7, w8, tk, hs, ha, hbb, hcc, pw, px, py, pz, pu])) (hL_mg : mg ∈ L) (hT_mg : ty mg = (4, μ, [mx, m0, m1, m2])) : Met l yX7_addListed (.code yX7_addListed cX7_addListed 5 none :: tb) ({ frames := 7, cells := 0, slots := 0, locals := 153 }) (va_Pc [.ref h0, .ref mg] (PTE (dC, dI) cs ty L F sz [])) (va_Qv (fun _ : Unit => True) (fun _ T9 => ∃ F2 : Nat → va_E, QT (dC, dI) cs ty L [ρ, ρ + 82, ρ + 83, ρ + 84, ρ + 85, ρ + 86, ρ + 87, ρ + 88, ρ + 89, ρ + 90, ρ + 91] F F2 (va_A (va_pl L F) sz) T9) (va_A (va_pl L F) sz)) 0 0 (va_A (va_pl L F) sz) := by
  refine Met.ofW (cc := cX7_addListed) (maxL := 5) (ret := none) (by decide) rfl ?_
  intro p e s m args below meth c s₁ B hml hv
  obtain ⟨rfl, ⟨hsz, hP, hK, hD0, hE, hO⟩, hG, hX⟩ := hv
  have hx := B.exec
  have hb := B.bytes
  have hr := B.returns
  have hts : ∀ w ∈ tb, w.before _ s = true := fun w h => atoms_spec (ws := .code yX7_addListed cX7_addListed 5 none :: tb) B.pre w (List.mem_cons_of_mem _ h)
  have hown : s.vm.findClass RX7 = some m.cls := findClass_of_methodNamed B.named
  have hlocks := B.notSynchronized
  subst hsz
  have hD := hD0.self (sz := s.heap.size)
  generalize hAe : va_A (va_pl L F) s.heap.size = A at hD hG hX ⊢
  have hA : ∀ q : Nat, s.heap.size ≤ q → A q := fun q h => by rw [← hAe]; exact Or.inr h
  have hS : va_S A s.heap s.heap [] := va_S.rf
  have hR : FR ty [ρ, ρ + 82, ρ + 83, ρ + 84, ρ + 85, ρ + 86, ρ + 87, ρ + 88, ρ + 89, ρ + 90, ρ + 91] F F := FR.refl
  have hl := lv_entry ([.ref h0, .ref mg]) (n := 5) (Nat.le_of_ble_eq_true rfl)
  rw [lg_entry_eq]
  generalize (lg_sl ([.ref h0, .ref mg]) ++ List.replicate (5 - (lg_sl ([.ref h0, .ref mg])).length) Slot.unset).toArray = ls at hl ⊢
  have hl : lv_has ls 5 [(0, .ref h0), (1, .ref mg)] := hl
  refine lv_iconst (v := 0) hx hb dX7_addListed_0 (by decide) ?_
  refine lv_istore_n (lv' := [(2, .int 0), (0, .ref h0), (1, .ref mg)]) hx hb dX7_addListed_1 rfl hl (by decide) rfl (fun ls hl => ?_)
  refine W.widen (k := 0) (n := 0) (by omega) (by omega) ?_
  refine pl_loop (σ := Nat) A (dC, dI) cs ty L [ρ, ρ + 82, ρ + 83, ρ + 84, ρ + 85, ρ + 86, ρ + 87, ρ + 88, ρ + 89, ρ + 90, ρ + 91] F 2 5 (fun j0 => [(2, .int (nI j0)), (0, .ref h0), (1, .ref mg)]) (fun j0 => []) (fun j0 _ => j0 ≤ 20) (fun j0 => 20 - j0) ?_ 0 F (by omega) hO hR _ _ hP hD hS ls (lv_sub hl [0, 1, 2] rfl)
  rintro j0 F_1 hv_2 hO hR ih_3 H locs hP hD hS ls hl
  have hl : lv_has ls 5 [(2, .int (nI j0)), (0, .ref h0), (1, .ref mg)] := hl
  have hv_2 : j0 ≤ 20 := hv_2
  refine W.eq (g2 := F0 m 2 ls []) rfl ?_
  refine lv_iload_n hx hb dX7_addListed_2 rfl (lv_at hl 0 rfl) ?_
  refine lv_bipush (v := 20) hx hb dX7_addListed_3 (by decide) ?_
  refine lv_icmp_ge (tgt := 21) hx hb dX7_addListed_5 (by decide) (fun c_4 => ?_) (fun c_4 => ?_)
  ·
    have hi_5 : 20 ≤ j0 := leN (N := 20) c_4
    refine lv_aload_n hx hb dX7_addListed_21 rfl (lv_at hl 1 rfl) ?_
    obtain ⟨hi_6, ht_7, hi_8, ht_9, hi_10, ht_11, hi_12, ⟨r_13, ht_14⟩, hi_15, ⟨r_16, ht_17⟩, hi_18, ⟨r_19, ht_20⟩, hi_21, ⟨r_22, ht_23⟩, hi_24, ⟨r_25, ht_26⟩, hi_27, ⟨r_28, ht_29⟩, hi_30, ⟨r_31, ht_32⟩, hi_33, ⟨r_34, ht_35⟩, hi_36, ⟨r_37, ht_38⟩, hi_39, ht_40, hi_41, ht_42, hi_43, ht_44⟩ := hW.slr hL_h0 hT_h0
    obtain ⟨v0_45, v1_46, hF_47⟩ := hO.slr hL_h0 hT_h0
    refine pg_get (ci := 7) (v := .ref sl) (C := RX7) (T := TX7) (N := 17) hx hb hts it_7 hown hK hP hL_h0 hF_47 rfl 1 (by decide) (hts _ kt_307) (fun _ h9 => h9) rfl dX7_addListed_22 ?_
    obtain ⟨q_48, v_49, hr_q_48, hXc_q_48⟩ := hG.2.2.2.2 ("PostGate$Sealer", 207, "h", [104]) (by decide +kernel)
    have hXc_q_48 : SXc q_48 v_49 1 (cct [104]) A s s.heap := hXc_q_48
    have hX_q_48 : SX q_48 v_49 1 A s s.heap := hXc_q_48.sx
    obtain ⟨xo_q_48, xc_q_48, xv_q_48, xt_q_48, xn_q_48⟩ := id hXc_q_48
    have hr_q_48 : vk_R "PostGate$Sealer" 207 "h" q_48 s := hr_q_48
    refine va_ldcS hx hb hown hr_q_48 dX7_addListed_25 ?_
    have hFc := pg_free hD hS hA
    obtain ⟨hi_50, hi_51, hi_52, hi_53, ⟨r_54, ht_55⟩, ht_56, ht_57, ht_58⟩ := hW.tags hi_8 ht_9
    have ht_55 : ty sx = (0, ρ + 3, [r_54, 3000]) := ht_55
    have ht_57 : ty sy1 = (24, ρ + 72, [40]) := ht_57
    have ht_58 : ty sy2 = (24, ρ + 73, [40]) := ht_58
    obtain ⟨z_59, hF_60, hq_61⟩ := hO.tags hi_8 ht_9
    refine va_calli (va_runV (As := [.ref q_48]) (rest := []) ⟨hx, hb, hml, hown, hts⟩ (s_X9_startOf l dC dI cs ty L H.size F_1 sl (ρ + 2) sx 3000 sy0 sy1 sy2 q_48 v_49 1 hW hi_8 ht_9) ⟨callB_of 1 hts (gi kt_170) rfl rfl rfl (hts _ kt_164) (hts _ kt_318) (by decide +kernel) ⟨Nat.le_of_ble_eq_true rfl, Nat.le_of_ble_eq_true rfl⟩, (hts _ kt_172), (hts _ kt_173)⟩ ⟨fun a U g mk q => ⟨q.1, PTE.calling q.2⟩, pg_recv hK hP hi_8 hF_60 (q := (RX9, TX9, 5)) rfl, fun U hU hWm => ⟨rfl, PTE.mk hU hWm hP hK hD hE hO hG (fun x hx => by rw [List.mem_singleton] at hx; subst hx; exact hX_q_48) hS hFc⟩⟩ rfl rfl hl.1 rfl (lv_room (Nat.le_of_ble_eq_true rfl)) dX7_addListed_27 ⟨by show _ + 0 ≤ 0; omega, by show _ + 0 ≤ 0; omega⟩) hS (fun q _ h => hFc q h) hFc (fun r_62 u t H1 locs ht hvm hw hB hz1 hk1 hS => ?_)
    obtain ⟨F_63, hB1⟩ := hB
    obtain rfl : F_1 = F_63 := (funext (fun a => hB1.2.2.2 a List.not_mem_nil)).symm
    obtain ⟨hP, hD, hO, hR⟩ := QT.back hB1 ht hFc hR (fun q h => absurd h List.not_mem_nil)
    generalize H1 = H at hP hS ⊢
    have hw : (∃ k : Nat, k ≤ 10002 ∧ r_62 = nI k) := hw
    have hw_64 := hw
    obtain ⟨k_65, hk_65, ek_65⟩ := hw_64
    subst ek_65
    refine lv_istore_n (lv' := [(2, .int (nI k_65)), (0, .ref h0), (1, .ref mg)]) hx hb dX7_addListed_30 rfl hl (by decide) rfl (fun ls hl => ?_)
    refine lv_aload_n hx hb dX7_addListed_31 rfl (lv_at hl 1 rfl) ?_
    refine pg_get (ci := 7) (v := .ref sl) (C := RX7) (T := TX7) (N := 17) hx hb hts it_7 hown hK hP hL_h0 hF_47 rfl 1 (by decide) (hts _ kt_307) (fun _ h9 => h9) rfl dX7_addListed_32 ?_
    refine va_ldcS hx hb hown hr_q_48 dX7_addListed_35 ?_
    have hFc := pg_free hD hS hA
    refine va_calli (va_runV (As := [.ref q_48]) (rest := []) ⟨hx, hb, hml, hown, hts⟩ (s_X9_endOf l dC dI cs ty L H.size F_1 sl (ρ + 2) sx 3000 sy0 sy1 sy2 q_48 v_49 1 hW hi_8 ht_9) ⟨callB_of 1 hts (gi kt_174) rfl rfl rfl (hts _ kt_164) (hts _ kt_319) (by decide +kernel) ⟨Nat.le_of_ble_eq_true rfl, Nat.le_of_ble_eq_true rfl⟩, (hts _ kt_176), (hts _ kt_177)⟩ ⟨fun a U g mk q => ⟨q.1, PTE.calling q.2⟩, pg_recv hK hP hi_8 hF_60 (q := (RX9, TX9, 5)) rfl, fun U hU hWm => ⟨rfl, PTE.mk hU hWm hP hK hD hE hO hG (fun x hx => by rw [List.mem_singleton] at hx; subst hx; exact hX_q_48) hS hFc⟩⟩ rfl rfl hl.1 rfl (lv_room (Nat.le_of_ble_eq_true rfl)) dX7_addListed_37 ⟨by show _ + 0 ≤ 0; omega, by show _ + 0 ≤ 0; omega⟩) hS (fun q _ h => hFc q h) hFc (fun r_66 u t H1 locs ht hvm hw hB hz1 hk1 hS => ?_)
    obtain ⟨F_67, hB1⟩ := hB
    obtain rfl : F_1 = F_67 := (funext (fun a => hB1.2.2.2 a List.not_mem_nil)).symm
    obtain ⟨hP, hD, hO, hR⟩ := QT.back hB1 ht hFc hR (fun q h => absurd h List.not_mem_nil)
    generalize H1 = H at hP hS ⊢
    have hw : (∃ k : Nat, k ≤ 10002 ∧ r_66 = nI k) := hw
    have hw_68 := hw
    obtain ⟨k_69, hk_69, ek_69⟩ := hw_68
    subst ek_69
    refine lv_istore_n (lv' := [(3, .int (nI k_69)), (2, .int (nI k_65)), (0, .ref h0), (1, .ref mg)]) hx hb dX7_addListed_40 rfl hl (by decide) rfl (fun ls hl => ?_)
    refine lv_iload_n hx hb dX7_addListed_41 rfl (lv_at hl 1 rfl) ?_
    refine lv_istore (lv' := [(4, .int (nI k_65)), (3, .int (nI k_69)), (2, .int (nI k_65)), (0, .ref h0), (1, .ref mg)]) hx hb dX7_addListed_42 hl (by decide) rfl (fun ls hl => ?_)
    refine W.widen (k := 0) (n := 0) (by omega) (by omega) ?_
    refine pl_loop (σ := Nat × Int32) A (dC, dI) cs ty L [ρ, ρ + 82, ρ + 83, ρ + 84, ρ + 85, ρ + 86, ρ + 87, ρ + 88, ρ + 89, ρ + 90, ρ + 91] F 44 5 (fun (j, u2) => [(4, .int (nI j)), (3, .int (nI k_69)), (2, .int u2), (0, .ref h0), (1, .ref mg)]) (fun (j, u2) => []) (fun (j, u2) _ => j ≤ 10003) (fun (j, u2) => 10003 - j) ?_ (k_65, (nI k_65)) F_1 (by omega) hO hR _ _ hP hD hS ls (lv_sub hl [0, 1, 2, 3, 4] rfl)
    rintro ⟨j, u2⟩ F_70 hv_71 hO hR ih_72 H locs hP hD hS ls hl
    have hl : lv_has ls 5 [(4, .int (nI j)), (3, .int (nI k_69)), (2, .int u2), (0, .ref h0), (1, .ref mg)] := hl
    have hv_71 : j ≤ 10003 := hv_71
    refine W.eq (g2 := F0 m 44 ls []) rfl ?_
    refine lv_iload hx hb dX7_addListed_44 (lv_at hl 0 rfl) ?_
    refine lv_iload_n hx hb dX7_addListed_46 rfl (lv_at hl 1 rfl) ?_
    refine lv_icmp_gt (tgt := 95) hx hb dX7_addListed_47 (by decide) (fun c_73 => ?_) (fun c_73 => ?_)
    ·
      have hi_74 : k_69 < j := (nI_ltI (a := k_69) (b := j) (by omega) (by omega)).mp c_73
      refine W.widen (k := 0) (n := 0) (by omega) (by omega) ?_
      exact W.vret hx hb hr (fun t ht hWm => ⟨⟨(), rfl, trivial, ⟨F_70, QT.mk ht hP hD hO hR⟩⟩, hS.F ht⟩) hS.2.2 dX7_addListed_95
    ·
      have hi_75 : j ≤ k_69 := Nat.not_lt.mp (fun q => c_73 ((nI_ltI (a := k_69) (b := j) (by omega) (by omega)).mpr q))
      refine lv_iload hx hb dX7_addListed_50 (lv_at hl 0 rfl) ?_
      refine lv_iload_n hx hb dX7_addListed_52 rfl (lv_at hl 1 rfl) ?_
      refine lv_icmp_ge (tgt := 76) hx hb dX7_addListed_53 (by decide) (fun c_76 => ?_) (fun c_76 => ?_)
      ·
        have hi_77 : k_69 ≤ j := leN (N := k_69) c_76
        refine lv_aload_n hx hb dX7_addListed_76 rfl (lv_at hl 3 rfl) ?_
        refine lv_aload_n hx hb dX7_addListed_77 rfl (lv_at hl 4 rfl) ?_
        refine lv_iload_n hx hb dX7_addListed_78 rfl (lv_at hl 2 rfl) ?_
        refine lv_iload hx hb dX7_addListed_79 (lv_at hl 0 rfl) ?_
        have hFc := pg_free hD hS hA
        obtain ⟨v0_78, v1_79, hF_80⟩ := hO.slr hL_h0 hT_h0
        refine va_callv (va_runV (As := [.ref mg, .int u2, .int (nI j)]) (rest := []) ⟨hx, hb, hml, hown, hts⟩ (s_X7_addLast l dC dI cs ty L H.size F_70 h0 ρ d δ ea sl sx sy0 sy1 sy2 ke kx ky0 ky1 ky2 w0 w1 w2 w3 w4 w5 w6 w7 w8 tk hs ha hbb hcc pw px py pz pu mg μ mx m0 m1 m2 u2 (nI j) hW hL_h0 hT_h0 hL_mg hT_mg) ⟨callB_of 3 hts (gi kt_421) rfl rfl rfl (hts _ kt_322) (hts _ kt_422) (by decide +kernel) ⟨Nat.le_of_ble_eq_true rfl, Nat.le_of_ble_eq_true rfl⟩, (hts _ kt_423), (hts _ kt_424)⟩ ⟨fun a U g mk q => ⟨q.1, PT.calling q.2⟩, pg_recv hK hP hL_h0 hF_80 (q := (RX7, TX7, 17)) rfl, fun U hU hWm => ⟨rfl, PT.mk hU hWm hP hK hD hE hO⟩⟩ rfl rfl hl.1 rfl (lv_room (Nat.le_of_ble_eq_true rfl)) dX7_addListed_81 ⟨by show _ + 0 ≤ 0; omega, by show _ + 0 ≤ 0; omega⟩) hS (fun q _ h => hFc q h) hFc (fun u t H1 locs ht hvm hw hB hz1 hk1 hS => ?_)
        obtain ⟨F_82, hB1⟩ := hB
        obtain ⟨hP, hD, hO, hR⟩ := QT.back hB1 ht hFc hR (fun q h => by simp only [List.mem_cons, List.not_mem_nil, or_false] at h ⊢; omega)
        generalize H1 = H at hP hS ⊢
        refine lv_iload hx hb dX7_addListed_84 (lv_at hl 0 rfl) ?_
        refine lv_iconst (v := 1) hx hb dX7_addListed_86 (by decide) ?_
        refine lv_iadd hx hb dX7_addListed_87 ?_
        refine lv_topi (fun x_83 _ => ?_)
        refine lv_istore_n (lv' := [(2, .int x_83), (4, .int (nI j)), (3, .int (nI k_69)), (0, .ref h0), (1, .ref mg)]) hx hb dX7_addListed_88 rfl hl (by decide) rfl (fun ls hl => ?_)
        refine lv_iinc (v := (nI (j + 1))) (lv' := [(4, .int (nI (j + 1))), (2, .int x_83), (3, .int (nI k_69)), (0, .ref h0), (1, .ref mg)]) hx hb dX7_addListed_89 hl (k := 1) rfl (nI_1 _) (by decide) rfl (fun ls hl => ?_)
        refine lv_goto (tgt := 44) hx hb dX7_addListed_92 (by decide) ?_
        refine W.widen (k := 0) (n := 0) (by omega) (by omega) ?_
        exact ih_72 ((j + 1), x_83) F_82 (by first | omega | exact ⟨by omega, by omega⟩ | trivial) (by show 10003 - (j + 1) < 10003 - j; omega) hO hR _ _ hP hD hS ls (lv_sub hl [0, 2, 1, 3, 4] rfl)
      ·
        have hi_84 : j < k_69 := ltN (N := k_69) c_76
        refine lv_aload_n hx hb dX7_addListed_56 rfl (lv_at hl 3 rfl) ?_
        obtain ⟨v0_85, v1_86, hF_87⟩ := hO.slr hL_h0 hT_h0
        refine pg_get (ci := 7) (v := .ref sl) (C := RX7) (T := TX7) (N := 17) hx hb hts it_7 hown hK hP hL_h0 hF_87 rfl 1 (by decide) (hts _ kt_307) (fun _ h9 => h9) rfl dX7_addListed_57 ?_
        obtain ⟨z_88, hF_89, hq_90⟩ := hO.tags hi_8 ht_9
        refine pg_getN (ci := 9) (v := .ref sx) (C := RX9) (T := TX9) (N := 5) hx hb hts it_9 hown hK hP hi_8 hF_89 rfl 0 (by decide) (hE.nest kn_7) (fun _ h9 => h9) rfl dX7_addListed_60 ?_
        refine lv_iload hx hb dX7_addListed_63 (lv_at hl 0 rfl) ?_
        have hFc := pg_free hD hS hA
        obtain ⟨hi_91, ht_92, hq_93⟩ := hW.bytes hi_50 ht_55
        obtain ⟨z_94, o_95, hF_96, hq_97, hq_98⟩ := hO.bytes hi_50 ht_55
        refine va_calli (va_runV (As := [.int (nI j)]) (rest := []) ⟨hx, hb, hml, hown, hts⟩ (s_X0_at l dC dI cs ty L H.size F_70 sx (ρ + 3) r_54 3000 (nI j) hW hi_50 ht_55) ⟨callB_of 1 hts (gi kt_21) rfl rfl rfl (hts _ kt_1) (hts _ kt_305) (by decide +kernel) ⟨Nat.le_of_ble_eq_true rfl, Nat.le_of_ble_eq_true rfl⟩, (hts _ kt_23), (hts _ kt_24)⟩ ⟨fun a U g mk q => ⟨q.1, PT.calling q.2⟩, pg_recv hK hP hi_50 hF_96 (q := (RX0, TX0, 3)) rfl, fun U hU hWm => ⟨rfl, PT.mk hU hWm hP hK hD hE hO⟩⟩ rfl rfl hl.1 rfl (lv_room (Nat.le_of_ble_eq_true rfl)) dX7_addListed_65 ⟨by show _ + 0 ≤ 0; omega, by show _ + 0 ≤ 0; omega⟩) hS (fun q _ h => hFc q h) hFc (fun r_99 u t H1 locs ht hvm hw hB hz1 hk1 hS => ?_)
        obtain ⟨F_100, hB1⟩ := hB
        obtain rfl : F_70 = F_100 := (funext (fun a => hB1.2.2.2 a List.not_mem_nil)).symm
        obtain ⟨hP, hD, hO, hR⟩ := QT.back hB1 ht hFc hR (fun q h => absurd h List.not_mem_nil)
        generalize H1 = H at hP hS ⊢
        have hw : True := hw
        have hw_101 := hw
        refine lv_bipush (v := 58) hx hb dX7_addListed_68 (by decide) ?_
        refine lv_icmp_eq (tgt := 76) hx hb dX7_addListed_70 (by decide) (fun c_102 => ?_) (fun c_102 => ?_)
        ·
          refine lv_aload_n hx hb dX7_addListed_76 rfl (lv_at hl 3 rfl) ?_
          refine lv_aload_n hx hb dX7_addListed_77 rfl (lv_at hl 4 rfl) ?_
          refine lv_iload_n hx hb dX7_addListed_78 rfl (lv_at hl 2 rfl) ?_
          refine lv_iload hx hb dX7_addListed_79 (lv_at hl 0 rfl) ?_
          have hFc := pg_free hD hS hA
          refine va_callv (va_runV (As := [.ref mg, .int u2, .int (nI j)]) (rest := []) ⟨hx, hb, hml, hown, hts⟩ (s_X7_addLast l dC dI cs ty L H.size F_70 h0 ρ d δ ea sl sx sy0 sy1 sy2 ke kx ky0 ky1 ky2 w0 w1 w2 w3 w4 w5 w6 w7 w8 tk hs ha hbb hcc pw px py pz pu mg μ mx m0 m1 m2 u2 (nI j) hW hL_h0 hT_h0 hL_mg hT_mg) ⟨callB_of 3 hts (gi kt_421) rfl rfl rfl (hts _ kt_322) (hts _ kt_422) (by decide +kernel) ⟨Nat.le_of_ble_eq_true rfl, Nat.le_of_ble_eq_true rfl⟩, (hts _ kt_423), (hts _ kt_424)⟩ ⟨fun a U g mk q => ⟨q.1, PT.calling q.2⟩, pg_recv hK hP hL_h0 hF_87 (q := (RX7, TX7, 17)) rfl, fun U hU hWm => ⟨rfl, PT.mk hU hWm hP hK hD hE hO⟩⟩ rfl rfl hl.1 rfl (lv_room (Nat.le_of_ble_eq_true rfl)) dX7_addListed_81 ⟨by show _ + 0 ≤ 0; omega, by show _ + 0 ≤ 0; omega⟩) hS (fun q _ h => hFc q h) hFc (fun u t H1 locs ht hvm hw hB hz1 hk1 hS => ?_)
          obtain ⟨F_104, hB1⟩ := hB
          obtain ⟨hP, hD, hO, hR⟩ := QT.back hB1 ht hFc hR (fun q h => by simp only [List.mem_cons, List.not_mem_nil, or_false] at h ⊢; omega)
          have hF_105 : F_104 sl = .inr (9, [.ref sx, .ref sy0, .ref sy1, .ref sy2, .int (nI z_88)]) := (hB1.2.2.2 sl (by rw [ht_9]; simp)).trans hF_89
          have hF_106 : F_104 sx = .inr (0, [.ref r_54, .int (nI z_94), .int o_95]) := (hB1.2.2.2 sx (by rw [ht_55]; simp)).trans hF_96
          generalize H1 = H at hP hS ⊢
          refine lv_iload hx hb dX7_addListed_84 (lv_at hl 0 rfl) ?_
          refine lv_iconst (v := 1) hx hb dX7_addListed_86 (by decide) ?_
          refine lv_iadd hx hb dX7_addListed_87 ?_
          refine lv_topi (fun x_107 _ => ?_)
          refine lv_istore_n (lv' := [(2, .int x_107), (4, .int (nI j)), (3, .int (nI k_69)), (0, .ref h0), (1, .ref mg)]) hx hb dX7_addListed_88 rfl hl (by decide) rfl (fun ls hl => ?_)
          refine lv_iinc (v := (nI (j + 1))) (lv' := [(4, .int (nI (j + 1))), (2, .int x_107), (3, .int (nI k_69)), (0, .ref h0), (1, .ref mg)]) hx hb dX7_addListed_89 hl (k := 1) rfl (nI_1 _) (by decide) rfl (fun ls hl => ?_)
          refine lv_goto (tgt := 44) hx hb dX7_addListed_92 (by decide) ?_
          refine W.widen (k := 0) (n := 0) (by omega) (by omega) ?_
          exact ih_72 ((j + 1), x_107) F_104 (by first | omega | exact ⟨by omega, by omega⟩ | trivial) (by show 10003 - (j + 1) < 10003 - j; omega) hO hR _ _ hP hD hS ls (lv_sub hl [0, 2, 1, 3, 4] rfl)
        ·
          refine lv_goto (tgt := 89) hx hb dX7_addListed_73 (by decide) ?_
          refine lv_iinc (v := (nI (j + 1))) (lv' := [(4, .int (nI (j + 1))), (3, .int (nI k_69)), (2, .int u2), (0, .ref h0), (1, .ref mg)]) hx hb dX7_addListed_89 hl (k := 0) rfl (nI_1 _) (by decide) rfl (fun ls hl => ?_)
          refine lv_goto (tgt := 44) hx hb dX7_addListed_92 (by decide) ?_
          refine W.widen (k := 0) (n := 0) (by omega) (by omega) ?_
          exact ih_72 ((j + 1), u2) F_70 (by first | omega | exact ⟨by omega, by omega⟩ | trivial) (by show 10003 - (j + 1) < 10003 - j; omega) hO hR _ _ hP hD hS ls (lv_sub hl [0, 1, 2, 3, 4] rfl)
  ·
    have hi_108 : j0 < 20 := ltN (N := 20) c_4
    refine lv_aload_n hx hb dX7_addListed_8 rfl (lv_at hl 1 rfl) ?_
    obtain ⟨hi_109, ht_110, hi_111, ht_112, hi_113, ht_114, hi_115, ⟨r_116, ht_117⟩, hi_118, ⟨r_119, ht_120⟩, hi_121, ⟨r_122, ht_123⟩, hi_124, ⟨r_125, ht_126⟩, hi_127, ⟨r_128, ht_129⟩, hi_130, ⟨r_131, ht_132⟩, hi_133, ⟨r_134, ht_135⟩, hi_136, ⟨r_137, ht_138⟩, hi_139, ⟨r_140, ht_141⟩, hi_142, ht_143, hi_144, ht_145, hi_146, ht_147⟩ := hW.slr hL_h0 hT_h0
    obtain ⟨v0_148, v1_149, hF_150⟩ := hO.slr hL_h0 hT_h0
    refine pg_get (ci := 7) (v := .ref tk) (C := RX7) (T := TX7) (N := 17) hx hb hts it_7 hown hK hP hL_h0 hF_150 rfl 12 (by decide) (hts _ kt_412) (fun _ h9 => h9) rfl dX7_addListed_9 ?_
    refine lv_iload_n hx hb dX7_addListed_12 rfl (lv_at hl 0 rfl) ?_
    refine lv_iconst (v := 0) hx hb dX7_addListed_13 (by decide) ?_
    obtain ⟨f_151, hF_152⟩ := hO.bits hi_142 ht_143
    refine pg_zast hx hb hK hP hD hS hi_142 2 hF_152 rfl (vp_in_nI (by omega) (by omega)) dX7_addListed_14 (fun H locs hP hD hS => ?_)
    obtain ⟨F_153, he_154, hP, hD, hO, hR⟩ : ∃ G, G = va_up F_1 tk (.inl (cs 18, 20, .inl (upd f_151 ((nI j0)).toNatClampNeg (vp_nar .boolean (0))))) ∧ va_P (dC, dI) vwCl (va_pl L G) H ∧ va_D A (va_pl L G) ∧ OK cs ty L G ∧ FR ty [ρ, ρ + 82, ρ + 83, ρ + 84, ρ + 85, ρ + 86, ρ + 87, ρ + 88, ρ + 89, ρ + 90, ρ + 91] F G := ⟨_, rfl, hP, hD, hO.up (sh.bits ht_143 ⟨_, rfl⟩), hR.up ht_143 (by simp)⟩
    have hF_155 : F_153 tk = .inl (cs 18, 20, .inl (upd f_151 ((nI j0)).toNatClampNeg (vp_nar .boolean (0)))) := by rw [he_154]; exact up_self
    have hF_156 : F_153 h0 = .inr (7, [.ref d, .ref sl, .ref ke, .ref w0, .ref w1, .ref w2, .ref w3, .ref w4, .ref w5, .ref w6, .ref w7, .ref w8, .ref tk, .ref hs, .ref pw, .int v0_148, .int v1_149]) := by rw [he_154, up_ne (ne_ty hT_h0 ht_143 (by simp))]; exact hF_150
    obtain ⟨f_157, hF_155⟩ : ∃ f : Nat → Int32, F_153 tk = .inl (cs 18, 20, .inl f) := ⟨_, hF_155⟩
    refine lv_iinc (v := (nI (j0 + 1))) (lv' := [(2, .int (nI (j0 + 1))), (0, .ref h0), (1, .ref mg)]) hx hb dX7_addListed_15 hl (k := 0) rfl (nI_1 _) (by decide) rfl (fun ls hl => ?_)
    refine lv_goto (tgt := 2) hx hb dX7_addListed_18 (by decide) ?_
    refine W.widen (k := 0) (n := 0) (by omega) (by omega) ?_
    exact ih_3 (j0 + 1) F_153 (by first | omega | exact ⟨by omega, by omega⟩ | trivial) (by show 20 - (j0 + 1) < 20 - j0; omega) hO hR _ _ hP hD hS ls (lv_sub hl [0, 1, 2] rfl)
set_option maxHeartbeats 4000000 in
set_option maxRecDepth 100000 in
theorem s_X7_addOwn (l : Launch) (dC : Nat → ClassId) (dI : Nat → Nat → Nat) (cs : Nat → ClassId) (ty : TyM) (L : List Nat) (sz : Nat) (F : Nat → va_E) (h0 : Nat) (ρ : Nat) (d : Nat) (δ : Nat) (ea : Nat) (sl : Nat) (sx : Nat) (sy0 : Nat) (sy1 : Nat) (sy2 : Nat) (ke : Nat) (kx : Nat) (ky0 : Nat) (ky1 : Nat) (ky2 : Nat) (w0 : Nat) (w1 : Nat) (w2 : Nat) (w3 : Nat) (w4 : Nat) (w5 : Nat) (w6 : Nat) (w7 : Nat) (w8 : Nat) (tk : Nat) (hs : Nat) (ha : Nat) (hbb : Nat) (hcc : Nat) (pw : Nat) (px : Nat) (py : Nat) (pz : Nat) (pu : Nat) (mg : Nat) (μ : Nat) (mx : Nat) (m0 : Nat) (m1 : Nat) (m2 : Nat) (jf : Nat) (hW : WT ty L) (hL_h0 : h0 ∈ L) (hT_h0 : ty h0 = (7, ρ, [d, δ, ea, sl, sx, sy0, sy1, sy2, ke, kx, ky0, ky1, ky2, w0, w1, w2, w3, w4, w5, w6, w7, w8, tk, hs, ha, hbb, hcc, pw, px, py, pz, pu])) (hL_mg : mg ∈ L) (hT_mg : ty mg = (4, μ, [mx, m0, m1, m2])) (hjf : jf < 20) : Met l yX7_addOwn (.code yX7_addOwn cX7_addOwn 8 none :: tb) ({ frames := 3, cells := 0, slots := 0, locals := 100 }) (va_Pc [.ref h0, .ref mg, .int (nI jf)] (PT (dC, dI) cs ty L F sz)) (va_Qv (fun _ : Unit => True) (fun _ T9 => ∃ F2 : Nat → va_E, QT (dC, dI) cs ty L [ρ + 82, ρ + 83, ρ + 84, ρ + 85, ρ + 86, ρ + 87, ρ + 88, ρ + 89, ρ + 90, ρ + 91] F F2 (va_A (va_pl L F) sz) T9) (va_A (va_pl L F) sz)) 0 0 (va_A (va_pl L F) sz) := by
  refine Met.ofW (cc := cX7_addOwn) (maxL := 8) (ret := none) (by decide) rfl ?_
  intro p e s m args below meth c s₁ B hml hv
  obtain ⟨rfl, hsz, hP, hK, hD0, hE, hO⟩ := hv
  have hx := B.exec
  have hb := B.bytes
  have hr := B.returns
  have hts : ∀ w ∈ tb, w.before _ s = true := fun w h => atoms_spec (ws := .code yX7_addOwn cX7_addOwn 8 none :: tb) B.pre w (List.mem_cons_of_mem _ h)
  have hown : s.vm.findClass RX7 = some m.cls := findClass_of_methodNamed B.named
  have hlocks := B.notSynchronized
  subst hsz
  have hD := hD0.self (sz := s.heap.size)
  generalize hAe : va_A (va_pl L F) s.heap.size = A at hD ⊢
  have hA : ∀ q : Nat, s.heap.size ≤ q → A q := fun q h => by rw [← hAe]; exact Or.inr h
  have hS : va_S A s.heap s.heap [] := va_S.rf
  have hR : FR ty [ρ + 82, ρ + 83, ρ + 84, ρ + 85, ρ + 86, ρ + 87, ρ + 88, ρ + 89, ρ + 90, ρ + 91] F F := FR.refl
  have hl := lv_entry ([.ref h0, .ref mg, .int (nI jf)]) (n := 8) (Nat.le_of_ble_eq_true rfl)
  rw [lg_entry_eq]
  generalize (lg_sl ([.ref h0, .ref mg, .int (nI jf)]) ++ List.replicate (8 - (lg_sl ([.ref h0, .ref mg, .int (nI jf)])).length) Slot.unset).toArray = ls at hl ⊢
  have hl : lv_has ls 8 [(0, .ref h0), (1, .ref mg), (2, .int (nI jf))] := hl
  refine lv_aload_n hx hb dX7_addOwn_0 rfl (lv_at hl 1 rfl) ?_
  obtain ⟨hi_1, hi_2, hi_3, hi_4, ⟨r_5, ht_6⟩, ht_7, ht_8, ht_9⟩ := hW.msg hL_mg hT_mg
  obtain ⟨z_10, v0_11, hF_12, hq_13⟩ := hO.msg hL_mg hT_mg
  refine pg_getN (ci := 4) (v := .ref mx) (C := RX4) (T := TX4) (N := 6) hx hb hts it_4 hown hK hP hL_mg hF_12 rfl 0 (by decide) (hE.nest kn_8) (fun _ h9 => h9) rfl dX7_addOwn_1 ?_
  refine lv_astore_n (lv' := [(3, .ref mx), (0, .ref h0), (1, .ref mg), (2, .int (nI jf))]) hx hb dX7_addOwn_4 rfl hl (by decide) rfl (fun ls hl => ?_)
  refine lv_aload_n hx hb dX7_addOwn_5 rfl (lv_at hl 2 rfl) ?_
  refine pg_getN (ci := 4) (v := .ref m2) (C := RX4) (T := TX4) (N := 6) hx hb hts it_4 hown hK hP hL_mg hF_12 rfl 3 (by decide) (hE.nest kn_10) (fun _ h9 => h9) rfl dX7_addOwn_6 ?_
  refine lv_iload_n hx hb dX7_addOwn_9 rfl (lv_at hl 3 rfl) ?_
  obtain ⟨f_14, hF_15, hq_16⟩ := hO.idx hi_4 ht_9
  refine pg_iald hx hb hK hP hi_4 0 hF_15 rfl (vp_in_nI (by omega) (by omega)) dX7_addOwn_10 ?_
  obtain ⟨k_17, hk_18, ek_19⟩ := hq_16 ((nI jf) : Int32).toNatClampNeg
  refine lv_topi (fun x_20 ex_20 => ?_)
  obtain rfl : x_20 = nI k_17 := ex_20.trans ek_19
  refine lv_istore (lv' := [(4, .int (nI k_17)), (3, .ref mx), (0, .ref h0), (1, .ref mg), (2, .int (nI jf))]) hx hb dX7_addOwn_11 hl (by decide) rfl (fun ls hl => ?_)
  refine lv_aload_n hx hb dX7_addOwn_13 rfl (lv_at hl 3 rfl) ?_
  refine pg_getN (ci := 4) (v := .ref m1) (C := RX4) (T := TX4) (N := 6) hx hb hts it_4 hown hK hP hL_mg hF_12 rfl 2 (by decide) (hE.nest kn_9) (fun _ h9 => h9) rfl dX7_addOwn_14 ?_
  refine lv_iload_n hx hb dX7_addOwn_17 rfl (lv_at hl 4 rfl) ?_
  obtain ⟨f_21, hF_22, hq_23⟩ := hO.idx hi_3 ht_8
  refine pg_iald hx hb hK hP hi_3 0 hF_22 rfl (vp_in_nI (by omega) (by omega)) dX7_addOwn_18 ?_
  obtain ⟨k_24, hk_25, ek_26⟩ := hq_23 ((nI jf) : Int32).toNatClampNeg
  refine lv_topi (fun x_27 ex_27 => ?_)
  obtain rfl : x_27 = nI k_24 := ex_27.trans ek_26
  refine lv_iconst (v := 1) hx hb dX7_addOwn_19 (by decide) ?_
  refine lv_iadd hx hb dX7_addOwn_20 ?_
  refine lv_topi (fun x_28 ex_28 => ?_)
  obtain rfl : x_28 = (nI (k_24 + 1)) := ex_28.trans (nI_1 _)
  refine lv_istore (lv' := [(5, .int (nI (k_24 + 1))), (4, .int (nI k_17)), (3, .ref mx), (0, .ref h0), (1, .ref mg), (2, .int (nI jf))]) hx hb dX7_addOwn_21 hl (by decide) rfl (fun ls hl => ?_)
  refine lv_iload hx hb dX7_addOwn_23 (lv_at hl 0 rfl) ?_
  refine lv_istore (lv' := [(6, .int (nI (k_24 + 1))), (5, .int (nI (k_24 + 1))), (4, .int (nI k_17)), (3, .ref mx), (0, .ref h0), (1, .ref mg), (2, .int (nI jf))]) hx hb dX7_addOwn_25 hl (by decide) rfl (fun ls hl => ?_)
  refine W.widen (k := 0) (n := 0) (by omega) (by omega) ?_
  refine pl_loop (σ := Nat × Int32) A (dC, dI) cs ty L [ρ + 82, ρ + 83, ρ + 84, ρ + 85, ρ + 86, ρ + 87, ρ + 88, ρ + 89, ρ + 90, ρ + 91] F 27 8 (fun (j, u5) => [(6, .int (nI j)), (5, .int u5), (4, .int (nI k_17)), (3, .ref mx), (0, .ref h0), (1, .ref mg), (2, .int (nI jf))]) (fun (j, u5) => []) (fun (j, u5) _ => j ≤ 10003) (fun (j, u5) => 10003 - j) ?_ ((k_24 + 1), (nI (k_24 + 1))) F (by omega) hO hR _ _ hP hD hS ls (lv_sub hl [0, 1, 2, 3, 4, 5, 6] rfl)
  rintro ⟨j, u5⟩ F_29 hv_30 hO hR ih_31 H locs hP hD hS ls hl
  have hl : lv_has ls 8 [(6, .int (nI j)), (5, .int u5), (4, .int (nI k_17)), (3, .ref mx), (0, .ref h0), (1, .ref mg), (2, .int (nI jf))] := hl
  have hv_30 : j ≤ 10003 := hv_30
  refine W.eq (g2 := F0 m 27 ls []) rfl ?_
  refine lv_iload hx hb dX7_addOwn_27 (lv_at hl 0 rfl) ?_
  refine lv_iload hx hb dX7_addOwn_29 (lv_at hl 2 rfl) ?_
  refine lv_icmp_gt (tgt := 110) hx hb dX7_addOwn_31 (by decide) (fun c_32 => ?_) (fun c_32 => ?_)
  ·
    have hi_33 : k_17 < j := (nI_ltI (a := k_17) (b := j) (by omega) (by omega)).mp c_32
    refine W.widen (k := 0) (n := 0) (by omega) (by omega) ?_
    exact W.vret hx hb hr (fun t ht hWm => ⟨⟨(), rfl, trivial, ⟨F_29, QT.mk ht hP hD hO hR⟩⟩, hS.F ht⟩) hS.2.2 dX7_addOwn_110
  ·
    have hi_34 : j ≤ k_17 := Nat.not_lt.mp (fun q => c_32 ((nI_ltI (a := k_17) (b := j) (by omega) (by omega)).mpr q))
    refine lv_iload hx hb dX7_addOwn_34 (lv_at hl 0 rfl) ?_
    refine lv_iload hx hb dX7_addOwn_36 (lv_at hl 2 rfl) ?_
    refine lv_icmp_ge (tgt := 55) hx hb dX7_addOwn_38 (by decide) (fun c_35 => ?_) (fun c_35 => ?_)
    ·
      have hi_36 : k_17 ≤ j := leN (N := k_17) c_35
      refine lv_aload_n hx hb dX7_addOwn_55 rfl (lv_at hl 3 rfl) ?_
      refine lv_bipush (v := 61) hx hb dX7_addOwn_56 (by decide) ?_
      refine lv_iload hx hb dX7_addOwn_58 (lv_at hl 1 rfl) ?_
      refine lv_iload hx hb dX7_addOwn_60 (lv_at hl 0 rfl) ?_
      have hFc := pg_free hD hS hA
      obtain ⟨hi_37, ht_38, hq_39⟩ := hW.bytes hi_1 ht_6
      obtain ⟨z_40, o_41, hF_42, hq_43, hq_44⟩ := hO.bytes hi_1 ht_6
      refine va_calli (va_runV (As := [.int 61, .int u5, .int (nI j)]) (rest := []) ⟨hx, hb, hml, hown, hts⟩ (s_X0_find l dC dI cs ty L H.size F_29 mx (μ + 1) r_5 3000 61 u5 (nI j) hW hi_1 ht_6) ⟨callB_of 3 hts (gi kt_122) rfl rfl rfl (hts _ kt_1) (hts _ kt_328) (by decide +kernel) ⟨Nat.le_of_ble_eq_true rfl, Nat.le_of_ble_eq_true rfl⟩, (hts _ kt_124), (hts _ kt_125)⟩ ⟨fun a U g mk q => ⟨q.1, PT.calling q.2⟩, pg_recv hK hP hi_1 hF_42 (q := (RX0, TX0, 3)) rfl, fun U hU hWm => ⟨rfl, PT.mk hU hWm hP hK hD hE hO⟩⟩ rfl rfl hl.1 rfl (lv_room (Nat.le_of_ble_eq_true rfl)) dX7_addOwn_62 ⟨by show _ + 0 ≤ 0; omega, by show _ + 0 ≤ 0; omega⟩) hS (fun q _ h => hFc q h) hFc (fun r_45 u t H1 locs ht hvm hw hB hz1 hk1 hS => ?_)
      obtain ⟨F_46, hB1⟩ := hB
      obtain rfl : F_29 = F_46 := (funext (fun a => hB1.2.2.2 a List.not_mem_nil)).symm
      obtain ⟨hP, hD, hO, hR⟩ := QT.back hB1 ht hFc hR (fun q h => absurd h List.not_mem_nil)
      generalize H1 = H at hP hS ⊢
      have hw : (r_45 = (nI j) ∨ ∃ j : Nat, j < 3000 ∧ r_45 = nI j) := hw
      have hw_47 := hw
      obtain ⟨t_48, ht_48, et_48⟩ := fndB (B := 10003) hw_47 (by omega) (by omega)
      subst et_48
      refine lv_istore (lv' := [(7, .int (nI t_48)), (6, .int (nI j)), (5, .int u5), (4, .int (nI k_17)), (3, .ref mx), (0, .ref h0), (1, .ref mg), (2, .int (nI jf))]) hx hb dX7_addOwn_65 hl (by decide) rfl (fun ls hl => ?_)
      refine lv_aload_n hx hb dX7_addOwn_67 rfl (lv_at hl 4 rfl) ?_
      refine lv_iload hx hb dX7_addOwn_68 (lv_at hl 2 rfl) ?_
      refine lv_iload hx hb dX7_addOwn_70 (lv_at hl 0 rfl) ?_
      have hFc := pg_free hD hS hA
      refine va_calli (va_runS (As := [.ref mx, .int u5, .int (nI t_48)]) (rest := []) ⟨hx, hb, hml, hown, hts⟩ (s_X7_isLetterB l dC dI cs ty L H.size F_29 mx (μ + 1) r_5 3000 u5 (nI t_48) hW hi_1 ht_6) ⟨callB_of 3 hts (gi kt_425) rfl rfl rfl (hts _ kt_322) (hts _ kt_426) (by decide +kernel) ⟨Nat.le_of_ble_eq_true rfl, Nat.le_of_ble_eq_true rfl⟩, (hts _ kt_427)⟩ ⟨fun a U g mk q => ⟨q.1, PT.calling q.2⟩, fun U hU hWm => ⟨rfl, PT.mk hU hWm hP hK hD hE hO⟩⟩ rfl rfl hl.1 rfl (lv_room (Nat.le_of_ble_eq_true rfl)) dX7_addOwn_72 ⟨by show _ + 0 ≤ 0; omega, by show _ + 0 ≤ 0; omega⟩) hS (fun q _ h => hFc q h) hFc (fun r_49 u t H1 locs ht hvm hw hB hz1 hk1 hS => ?_)
      obtain ⟨F_50, hB1⟩ := hB
      obtain rfl : F_29 = F_50 := (funext (fun a => hB1.2.2.2 a List.not_mem_nil)).symm
      obtain ⟨hP, hD, hO, hR⟩ := QT.back hB1 ht hFc hR (fun q h => absurd h List.not_mem_nil)
      generalize H1 = H at hP hS ⊢
      have hw : (r_49 = 0 ∨ r_49 = 1) := hw
      have hw_51 := hw
      refine lv_if_eq (tgt := 98) hx hb dX7_addOwn_75 (by decide) (fun c_52 => ?_) (fun c_52 => ?_)
      ·
        refine lv_iload hx hb dX7_addOwn_98 (lv_at hl 1 rfl) ?_
        refine lv_iconst (v := 1) hx hb dX7_addOwn_100 (by decide) ?_
        refine lv_iadd hx hb dX7_addOwn_101 ?_
        refine lv_topi (fun x_53 _ => ?_)
        refine lv_istore (lv' := [(5, .int x_53), (7, .int (nI t_48)), (6, .int (nI j)), (4, .int (nI k_17)), (3, .ref mx), (0, .ref h0), (1, .ref mg), (2, .int (nI jf))]) hx hb dX7_addOwn_102 hl (by decide) rfl (fun ls hl => ?_)
        refine lv_iinc (v := (nI (j + 1))) (lv' := [(6, .int (nI (j + 1))), (5, .int x_53), (7, .int (nI t_48)), (4, .int (nI k_17)), (3, .ref mx), (0, .ref h0), (1, .ref mg), (2, .int (nI jf))]) hx hb dX7_addOwn_104 hl (k := 2) rfl (nI_1 _) (by decide) rfl (fun ls hl => ?_)
        refine lv_goto (tgt := 27) hx hb dX7_addOwn_107 (by decide) ?_
        refine W.widen (k := 0) (n := 0) (by omega) (by omega) ?_
        exact ih_31 ((j + 1), x_53) F_29 (by first | omega | exact ⟨by omega, by omega⟩ | trivial) (by show 10003 - (j + 1) < 10003 - j; omega) hO hR _ _ hP hD hS ls (lv_sub hl [0, 1, 3, 4, 5, 6, 7] rfl)
      ·
        refine lv_aload_n hx hb dX7_addOwn_78 rfl (lv_at hl 6 rfl) ?_
        refine lv_aload_n hx hb dX7_addOwn_79 rfl (lv_at hl 5 rfl) ?_
        obtain ⟨hi_54, ht_55, hi_56, ht_57, hi_58, ht_59, hi_60, ⟨r_61, ht_62⟩, hi_63, ⟨r_64, ht_65⟩, hi_66, ⟨r_67, ht_68⟩, hi_69, ⟨r_70, ht_71⟩, hi_72, ⟨r_73, ht_74⟩, hi_75, ⟨r_76, ht_77⟩, hi_78, ⟨r_79, ht_80⟩, hi_81, ⟨r_82, ht_83⟩, hi_84, ⟨r_85, ht_86⟩, hi_87, ht_88, hi_89, ht_90, hi_91, ht_92⟩ := hW.slr hL_h0 hT_h0
        obtain ⟨v0_93, v1_94, hF_95⟩ := hO.slr hL_h0 hT_h0
        refine pg_get (ci := 7) (v := .ref w8) (C := RX7) (T := TX7) (N := 17) hx hb hts it_7 hown hK hP hL_h0 hF_95 rfl 11 (by decide) (hts _ kt_391) (fun _ h9 => h9) rfl dX7_addOwn_80 ?_
        refine lv_iload_n hx hb dX7_addOwn_83 rfl (lv_at hl 7 rfl) ?_
        refine lv_aload_n hx hb dX7_addOwn_84 rfl (lv_at hl 5 rfl) ?_
        refine pg_get (ci := 7) (v := .int v0_93) (C := RX7) (T := TX7) (N := 17) hx hb hts it_7 hown hK hP hL_h0 hF_95 rfl 15 (by decide) (hts _ kt_326) (fun _ h9 => h9) rfl dX7_addOwn_85 ?_
        refine lv_iload hx hb dX7_addOwn_88 (lv_at hl 0 rfl) ?_
        refine lv_iconst (v := 1) hx hb dX7_addOwn_90 (by decide) ?_
        refine lv_iadd hx hb dX7_addOwn_91 ?_
        refine lv_topi (fun x_96 ex_96 => ?_)
        obtain rfl : x_96 = (nI (t_48 + 1)) := ex_96.trans (nI_1 _)
        refine lv_iload hx hb dX7_addOwn_92 (lv_at hl 1 rfl) ?_
        have hFc := pg_free hD hS hA
        obtain ⟨z_97, v0_98, hF_99, hq_100⟩ := hO.msg hL_mg hT_mg
        refine va_callv (va_runV (As := [.ref w8, .int (nI jf), .int v0_93, .int (nI (t_48 + 1)), .int (nI j)]) (rest := []) ⟨hx, hb, hml, hown, hts⟩ (s_X4_addFieldWithout l dC dI cs ty L H.size F_29 mg μ mx m0 m1 m2 w8 (ρ + 90) r_85 6100 (nI jf) v0_93 (nI (t_48 + 1)) (nI j) hW hL_mg hT_mg hi_84 ht_86 (nI_pos (by omega))) ⟨callB_of 5 hts (gi kt_417) rfl rfl rfl (hts _ kt_211) (hts _ kt_418) (by decide +kernel) ⟨Nat.le_of_ble_eq_true rfl, Nat.le_of_ble_eq_true rfl⟩, (hts _ kt_419), (hts _ kt_420)⟩ ⟨fun a U g mk q => ⟨q.1, PT.calling q.2⟩, pg_recv hK hP hL_mg hF_99 (q := (RX4, TX4, 6)) rfl, fun U hU hWm => ⟨rfl, PT.mk hU hWm hP hK hD hE hO⟩⟩ rfl rfl hl.1 rfl (lv_room (Nat.le_of_ble_eq_true rfl)) dX7_addOwn_94 ⟨by show _ + 0 ≤ 0; omega, by show _ + 0 ≤ 0; omega⟩) hS (fun q _ h => hFc q h) hFc (fun u t H1 locs ht hvm hw hB hz1 hk1 hS => ?_)
        obtain ⟨F_102, hB1⟩ := hB
        obtain ⟨hP, hD, hO, hR⟩ := QT.back hB1 ht hFc hR (fun q h => by simp only [List.mem_cons, List.not_mem_nil, or_false] at h ⊢; omega)
        have hF_103 : F_102 h0 = .inr (7, [.ref d, .ref sl, .ref ke, .ref w0, .ref w1, .ref w2, .ref w3, .ref w4, .ref w5, .ref w6, .ref w7, .ref w8, .ref tk, .ref hs, .ref pw, .int v0_93, .int v1_94]) := (hB1.2.2.2 h0 (by rw [hT_h0]; simp)).trans hF_95
        generalize H1 = H at hP hS ⊢
        refine W.widen (k := 0) (n := 0) (by omega) (by omega) ?_
        exact W.vret hx hb hr (fun t ht hWm => ⟨⟨(), rfl, trivial, ⟨F_102, QT.mk ht hP hD hO hR⟩⟩, hS.F ht⟩) hS.2.2 dX7_addOwn_97
    ·
      have hi_104 : j < k_17 := ltN (N := k_17) c_35
      refine lv_aload_n hx hb dX7_addOwn_41 rfl (lv_at hl 3 rfl) ?_
      refine lv_iload hx hb dX7_addOwn_42 (lv_at hl 0 rfl) ?_
      have hFc := pg_free hD hS hA
      obtain ⟨hi_105, ht_106, hq_107⟩ := hW.bytes hi_1 ht_6
      obtain ⟨z_108, o_109, hF_110, hq_111, hq_112⟩ := hO.bytes hi_1 ht_6
      refine va_calli (va_runV (As := [.int (nI j)]) (rest := []) ⟨hx, hb, hml, hown, hts⟩ (s_X0_at l dC dI cs ty L H.size F_29 mx (μ + 1) r_5 3000 (nI j) hW hi_1 ht_6) ⟨callB_of 1 hts (gi kt_21) rfl rfl rfl (hts _ kt_1) (hts _ kt_305) (by decide +kernel) ⟨Nat.le_of_ble_eq_true rfl, Nat.le_of_ble_eq_true rfl⟩, (hts _ kt_23), (hts _ kt_24)⟩ ⟨fun a U g mk q => ⟨q.1, PT.calling q.2⟩, pg_recv hK hP hi_1 hF_110 (q := (RX0, TX0, 3)) rfl, fun U hU hWm => ⟨rfl, PT.mk hU hWm hP hK hD hE hO⟩⟩ rfl rfl hl.1 rfl (lv_room (Nat.le_of_ble_eq_true rfl)) dX7_addOwn_44 ⟨by show _ + 0 ≤ 0; omega, by show _ + 0 ≤ 0; omega⟩) hS (fun q _ h => hFc q h) hFc (fun r_113 u t H1 locs ht hvm hw hB hz1 hk1 hS => ?_)
      obtain ⟨F_114, hB1⟩ := hB
      obtain rfl : F_29 = F_114 := (funext (fun a => hB1.2.2.2 a List.not_mem_nil)).symm
      obtain ⟨hP, hD, hO, hR⟩ := QT.back hB1 ht hFc hR (fun q h => absurd h List.not_mem_nil)
      generalize H1 = H at hP hS ⊢
      have hw : True := hw
      have hw_115 := hw
      refine lv_bipush (v := 59) hx hb dX7_addOwn_47 (by decide) ?_
      refine lv_icmp_eq (tgt := 55) hx hb dX7_addOwn_49 (by decide) (fun c_116 => ?_) (fun c_116 => ?_)
      ·
        refine lv_aload_n hx hb dX7_addOwn_55 rfl (lv_at hl 3 rfl) ?_
        refine lv_bipush (v := 61) hx hb dX7_addOwn_56 (by decide) ?_
        refine lv_iload hx hb dX7_addOwn_58 (lv_at hl 1 rfl) ?_
        refine lv_iload hx hb dX7_addOwn_60 (lv_at hl 0 rfl) ?_
        have hFc := pg_free hD hS hA
        refine va_calli (va_runV (As := [.int 61, .int u5, .int (nI j)]) (rest := []) ⟨hx, hb, hml, hown, hts⟩ (s_X0_find l dC dI cs ty L H.size F_29 mx (μ + 1) r_5 3000 61 u5 (nI j) hW hi_1 ht_6) ⟨callB_of 3 hts (gi kt_122) rfl rfl rfl (hts _ kt_1) (hts _ kt_328) (by decide +kernel) ⟨Nat.le_of_ble_eq_true rfl, Nat.le_of_ble_eq_true rfl⟩, (hts _ kt_124), (hts _ kt_125)⟩ ⟨fun a U g mk q => ⟨q.1, PT.calling q.2⟩, pg_recv hK hP hi_1 hF_110 (q := (RX0, TX0, 3)) rfl, fun U hU hWm => ⟨rfl, PT.mk hU hWm hP hK hD hE hO⟩⟩ rfl rfl hl.1 rfl (lv_room (Nat.le_of_ble_eq_true rfl)) dX7_addOwn_62 ⟨by show _ + 0 ≤ 0; omega, by show _ + 0 ≤ 0; omega⟩) hS (fun q _ h => hFc q h) hFc (fun r_117 u t H1 locs ht hvm hw hB hz1 hk1 hS => ?_)
        obtain ⟨F_118, hB1⟩ := hB
        obtain rfl : F_29 = F_118 := (funext (fun a => hB1.2.2.2 a List.not_mem_nil)).symm
        obtain ⟨hP, hD, hO, hR⟩ := QT.back hB1 ht hFc hR (fun q h => absurd h List.not_mem_nil)
        generalize H1 = H at hP hS ⊢
        have hw : (r_117 = (nI j) ∨ ∃ j : Nat, j < 3000 ∧ r_117 = nI j) := hw
        have hw_119 := hw
        obtain ⟨t_120, ht_120, et_120⟩ := fndB (B := 10003) hw_119 (by omega) (by omega)
        subst et_120
        refine lv_istore (lv' := [(7, .int (nI t_120)), (6, .int (nI j)), (5, .int u5), (4, .int (nI k_17)), (3, .ref mx), (0, .ref h0), (1, .ref mg), (2, .int (nI jf))]) hx hb dX7_addOwn_65 hl (by decide) rfl (fun ls hl => ?_)
        refine lv_aload_n hx hb dX7_addOwn_67 rfl (lv_at hl 4 rfl) ?_
        refine lv_iload hx hb dX7_addOwn_68 (lv_at hl 2 rfl) ?_
        refine lv_iload hx hb dX7_addOwn_70 (lv_at hl 0 rfl) ?_
        have hFc := pg_free hD hS hA
        refine va_calli (va_runS (As := [.ref mx, .int u5, .int (nI t_120)]) (rest := []) ⟨hx, hb, hml, hown, hts⟩ (s_X7_isLetterB l dC dI cs ty L H.size F_29 mx (μ + 1) r_5 3000 u5 (nI t_120) hW hi_1 ht_6) ⟨callB_of 3 hts (gi kt_425) rfl rfl rfl (hts _ kt_322) (hts _ kt_426) (by decide +kernel) ⟨Nat.le_of_ble_eq_true rfl, Nat.le_of_ble_eq_true rfl⟩, (hts _ kt_427)⟩ ⟨fun a U g mk q => ⟨q.1, PT.calling q.2⟩, fun U hU hWm => ⟨rfl, PT.mk hU hWm hP hK hD hE hO⟩⟩ rfl rfl hl.1 rfl (lv_room (Nat.le_of_ble_eq_true rfl)) dX7_addOwn_72 ⟨by show _ + 0 ≤ 0; omega, by show _ + 0 ≤ 0; omega⟩) hS (fun q _ h => hFc q h) hFc (fun r_121 u t H1 locs ht hvm hw hB hz1 hk1 hS => ?_)
        obtain ⟨F_122, hB1⟩ := hB
        obtain rfl : F_29 = F_122 := (funext (fun a => hB1.2.2.2 a List.not_mem_nil)).symm
        obtain ⟨hP, hD, hO, hR⟩ := QT.back hB1 ht hFc hR (fun q h => absurd h List.not_mem_nil)
        generalize H1 = H at hP hS ⊢
        have hw : (r_121 = 0 ∨ r_121 = 1) := hw
        have hw_123 := hw
        refine lv_if_eq (tgt := 98) hx hb dX7_addOwn_75 (by decide) (fun c_124 => ?_) (fun c_124 => ?_)
        ·
          refine lv_iload hx hb dX7_addOwn_98 (lv_at hl 1 rfl) ?_
          refine lv_iconst (v := 1) hx hb dX7_addOwn_100 (by decide) ?_
          refine lv_iadd hx hb dX7_addOwn_101 ?_
          refine lv_topi (fun x_125 _ => ?_)
          refine lv_istore (lv' := [(5, .int x_125), (7, .int (nI t_120)), (6, .int (nI j)), (4, .int (nI k_17)), (3, .ref mx), (0, .ref h0), (1, .ref mg), (2, .int (nI jf))]) hx hb dX7_addOwn_102 hl (by decide) rfl (fun ls hl => ?_)
          refine lv_iinc (v := (nI (j + 1))) (lv' := [(6, .int (nI (j + 1))), (5, .int x_125), (7, .int (nI t_120)), (4, .int (nI k_17)), (3, .ref mx), (0, .ref h0), (1, .ref mg), (2, .int (nI jf))]) hx hb dX7_addOwn_104 hl (k := 2) rfl (nI_1 _) (by decide) rfl (fun ls hl => ?_)
          refine lv_goto (tgt := 27) hx hb dX7_addOwn_107 (by decide) ?_
          refine W.widen (k := 0) (n := 0) (by omega) (by omega) ?_
          exact ih_31 ((j + 1), x_125) F_29 (by first | omega | exact ⟨by omega, by omega⟩ | trivial) (by show 10003 - (j + 1) < 10003 - j; omega) hO hR _ _ hP hD hS ls (lv_sub hl [0, 1, 3, 4, 5, 6, 7] rfl)
        ·
          refine lv_aload_n hx hb dX7_addOwn_78 rfl (lv_at hl 6 rfl) ?_
          refine lv_aload_n hx hb dX7_addOwn_79 rfl (lv_at hl 5 rfl) ?_
          obtain ⟨hi_126, ht_127, hi_128, ht_129, hi_130, ht_131, hi_132, ⟨r_133, ht_134⟩, hi_135, ⟨r_136, ht_137⟩, hi_138, ⟨r_139, ht_140⟩, hi_141, ⟨r_142, ht_143⟩, hi_144, ⟨r_145, ht_146⟩, hi_147, ⟨r_148, ht_149⟩, hi_150, ⟨r_151, ht_152⟩, hi_153, ⟨r_154, ht_155⟩, hi_156, ⟨r_157, ht_158⟩, hi_159, ht_160, hi_161, ht_162, hi_163, ht_164⟩ := hW.slr hL_h0 hT_h0
          obtain ⟨v0_165, v1_166, hF_167⟩ := hO.slr hL_h0 hT_h0
          refine pg_get (ci := 7) (v := .ref w8) (C := RX7) (T := TX7) (N := 17) hx hb hts it_7 hown hK hP hL_h0 hF_167 rfl 11 (by decide) (hts _ kt_391) (fun _ h9 => h9) rfl dX7_addOwn_80 ?_
          refine lv_iload_n hx hb dX7_addOwn_83 rfl (lv_at hl 7 rfl) ?_
          refine lv_aload_n hx hb dX7_addOwn_84 rfl (lv_at hl 5 rfl) ?_
          refine pg_get (ci := 7) (v := .int v0_165) (C := RX7) (T := TX7) (N := 17) hx hb hts it_7 hown hK hP hL_h0 hF_167 rfl 15 (by decide) (hts _ kt_326) (fun _ h9 => h9) rfl dX7_addOwn_85 ?_
          refine lv_iload hx hb dX7_addOwn_88 (lv_at hl 0 rfl) ?_
          refine lv_iconst (v := 1) hx hb dX7_addOwn_90 (by decide) ?_
          refine lv_iadd hx hb dX7_addOwn_91 ?_
          refine lv_topi (fun x_168 ex_168 => ?_)
          obtain rfl : x_168 = (nI (t_120 + 1)) := ex_168.trans (nI_1 _)
          refine lv_iload hx hb dX7_addOwn_92 (lv_at hl 1 rfl) ?_
          have hFc := pg_free hD hS hA
          obtain ⟨z_169, v0_170, hF_171, hq_172⟩ := hO.msg hL_mg hT_mg
          refine va_callv (va_runV (As := [.ref w8, .int (nI jf), .int v0_165, .int (nI (t_120 + 1)), .int (nI j)]) (rest := []) ⟨hx, hb, hml, hown, hts⟩ (s_X4_addFieldWithout l dC dI cs ty L H.size F_29 mg μ mx m0 m1 m2 w8 (ρ + 90) r_157 6100 (nI jf) v0_165 (nI (t_120 + 1)) (nI j) hW hL_mg hT_mg hi_156 ht_158 (nI_pos (by omega))) ⟨callB_of 5 hts (gi kt_417) rfl rfl rfl (hts _ kt_211) (hts _ kt_418) (by decide +kernel) ⟨Nat.le_of_ble_eq_true rfl, Nat.le_of_ble_eq_true rfl⟩, (hts _ kt_419), (hts _ kt_420)⟩ ⟨fun a U g mk q => ⟨q.1, PT.calling q.2⟩, pg_recv hK hP hL_mg hF_171 (q := (RX4, TX4, 6)) rfl, fun U hU hWm => ⟨rfl, PT.mk hU hWm hP hK hD hE hO⟩⟩ rfl rfl hl.1 rfl (lv_room (Nat.le_of_ble_eq_true rfl)) dX7_addOwn_94 ⟨by show _ + 0 ≤ 0; omega, by show _ + 0 ≤ 0; omega⟩) hS (fun q _ h => hFc q h) hFc (fun u t H1 locs ht hvm hw hB hz1 hk1 hS => ?_)
          obtain ⟨F_174, hB1⟩ := hB
          obtain ⟨hP, hD, hO, hR⟩ := QT.back hB1 ht hFc hR (fun q h => by simp only [List.mem_cons, List.not_mem_nil, or_false] at h ⊢; omega)
          have hF_175 : F_174 h0 = .inr (7, [.ref d, .ref sl, .ref ke, .ref w0, .ref w1, .ref w2, .ref w3, .ref w4, .ref w5, .ref w6, .ref w7, .ref w8, .ref tk, .ref hs, .ref pw, .int v0_165, .int v1_166]) := (hB1.2.2.2 h0 (by rw [hT_h0]; simp)).trans hF_167
          generalize H1 = H at hP hS ⊢
          refine W.widen (k := 0) (n := 0) (by omega) (by omega) ?_
          exact W.vret hx hb hr (fun t ht hWm => ⟨⟨(), rfl, trivial, ⟨F_174, QT.mk ht hP hD hO hR⟩⟩, hS.F ht⟩) hS.2.2 dX7_addOwn_97
      ·
        refine lv_goto (tgt := 104) hx hb dX7_addOwn_52 (by decide) ?_
        refine lv_iinc (v := (nI (j + 1))) (lv' := [(6, .int (nI (j + 1))), (5, .int u5), (4, .int (nI k_17)), (3, .ref mx), (0, .ref h0), (1, .ref mg), (2, .int (nI jf))]) hx hb dX7_addOwn_104 hl (k := 0) rfl (nI_1 _) (by decide) rfl (fun ls hl => ?_)
        refine lv_goto (tgt := 27) hx hb dX7_addOwn_107 (by decide) ?_
        refine W.widen (k := 0) (n := 0) (by omega) (by omega) ?_
        exact ih_31 ((j + 1), u5) F_29 (by first | omega | exact ⟨by omega, by omega⟩ | trivial) (by show 10003 - (j + 1) < 10003 - j; omega) hO hR _ _ hP hD hS ls (lv_sub hl [0, 1, 2, 3, 4, 5, 6] rfl)
set_option maxHeartbeats 4000000 in
set_option maxRecDepth 100000 in
theorem s_X7_judge (l : Launch) (dC : Nat → ClassId) (dI : Nat → Nat → Nat) (cs : Nat → ClassId) (ty : TyM) (L : List Nat) (sz : Nat) (F : Nat → va_E) (h0 : Nat) (ρ : Nat) (d : Nat) (δ : Nat) (ea : Nat) (sl : Nat) (sx : Nat) (sy0 : Nat) (sy1 : Nat) (sy2 : Nat) (ke : Nat) (kx : Nat) (ky0 : Nat) (ky1 : Nat) (ky2 : Nat) (w0 : Nat) (w1 : Nat) (w2 : Nat) (w3 : Nat) (w4 : Nat) (w5 : Nat) (w6 : Nat) (w7 : Nat) (w8 : Nat) (tk : Nat) (hs : Nat) (ha : Nat) (hbb : Nat) (hcc : Nat) (pw : Nat) (px : Nat) (py : Nat) (pz : Nat) (pu : Nat) (mg : Nat) (μ : Nat) (mx : Nat) (m0 : Nat) (m1 : Nat) (m2 : Nat) (jf : Nat) (x3 : Int32) (hW : WT ty L) (hL_h0 : h0 ∈ L) (hT_h0 : ty h0 = (7, ρ, [d, δ, ea, sl, sx, sy0, sy1, sy2, ke, kx, ky0, ky1, ky2, w0, w1, w2, w3, w4, w5, w6, w7, w8, tk, hs, ha, hbb, hcc, pw, px, py, pz, pu])) (hL_mg : mg ∈ L) (hT_mg : ty mg = (4, μ, [mx, m0, m1, m2])) (hjf : jf < 20) : Met l yX7_judge (.code yX7_judge cX7_judge 5 (some .int) :: tb) ({ frames := 9, cells := 0, slots := 0, locals := 199 }) (va_Pc [.ref h0, .ref mg, .int (nI jf), .int x3] (PTE (dC, dI) cs ty L F sz [])) (va_Qi (fun (r : Int32) (_ : Unit) => True) (fun _ T9 => ∃ F2 : Nat → va_E, QT (dC, dI) cs ty L [ρ, ρ + 82, ρ + 83, ρ + 84, ρ + 85, ρ + 86, ρ + 87, ρ + 88, ρ + 89, ρ + 90, ρ + 91, ρ + 2, ρ + 3, ρ + 4, ρ + 5, ρ + 6, ρ + 7, ρ + 92, ρ + 93, ρ + 94, ρ + 95, ρ + 72, ρ + 73, ρ + 74, ρ + 75] F F2 (va_A (va_pl L F) sz) T9) (va_A (va_pl L F) sz)) 0 0 (va_A (va_pl L F) sz) := by
  refine Met.ofW (cc := cX7_judge) (maxL := 5) (ret := (some .int)) (by decide) rfl ?_
  intro p e s m args below meth c s₁ B hml hv
  obtain ⟨rfl, ⟨hsz, hP, hK, hD0, hE, hO⟩, hG, hX⟩ := hv
  have hx := B.exec
  have hb := B.bytes
  have hr := B.returns
  have hts : ∀ w ∈ tb, w.before _ s = true := fun w h => atoms_spec (ws := .code yX7_judge cX7_judge 5 (some .int) :: tb) B.pre w (List.mem_cons_of_mem _ h)
  have hown : s.vm.findClass RX7 = some m.cls := findClass_of_methodNamed B.named
  have hlocks := B.notSynchronized
  subst hsz
  have hD := hD0.self (sz := s.heap.size)
  generalize hAe : va_A (va_pl L F) s.heap.size = A at hD hG hX ⊢
  have hA : ∀ q : Nat, s.heap.size ≤ q → A q := fun q h => by rw [← hAe]; exact Or.inr h
  have hS : va_S A s.heap s.heap [] := va_S.rf
  have hR : FR ty [ρ, ρ + 82, ρ + 83, ρ + 84, ρ + 85, ρ + 86, ρ + 87, ρ + 88, ρ + 89, ρ + 90, ρ + 91, ρ + 2, ρ + 3, ρ + 4, ρ + 5, ρ + 6, ρ + 7, ρ + 92, ρ + 93, ρ + 94, ρ + 95, ρ + 72, ρ + 73, ρ + 74, ρ + 75] F F := FR.refl
  have hl := lv_entry ([.ref h0, .ref mg, .int (nI jf), .int x3]) (n := 5) (Nat.le_of_ble_eq_true rfl)
  rw [lg_entry_eq]
  generalize (lg_sl ([.ref h0, .ref mg, .int (nI jf), .int x3]) ++ List.replicate (5 - (lg_sl ([.ref h0, .ref mg, .int (nI jf), .int x3])).length) Slot.unset).toArray = ls at hl ⊢
  have hl : lv_has ls 5 [(0, .ref h0), (1, .ref mg), (2, .int (nI jf)), (3, .int x3)] := hl
  refine lv_aload_n hx hb dX7_judge_0 rfl (lv_at hl 0 rfl) ?_
  refine lv_aload_n hx hb dX7_judge_1 rfl (lv_at hl 1 rfl) ?_
  refine lv_iload_n hx hb dX7_judge_2 rfl (lv_at hl 2 rfl) ?_
  have hFc := pg_free hD hS hA
  obtain ⟨hi_1, ht_2, hi_3, ht_4, hi_5, ht_6, hi_7, ⟨r_8, ht_9⟩, hi_10, ⟨r_11, ht_12⟩, hi_13, ⟨r_14, ht_15⟩, hi_16, ⟨r_17, ht_18⟩, hi_19, ⟨r_20, ht_21⟩, hi_22, ⟨r_23, ht_24⟩, hi_25, ⟨r_26, ht_27⟩, hi_28, ⟨r_29, ht_30⟩, hi_31, ⟨r_32, ht_33⟩, hi_34, ht_35, hi_36, ht_37, hi_38, ht_39⟩ := hW.slr hL_h0 hT_h0
  obtain ⟨v0_40, v1_41, hF_42⟩ := hO.slr hL_h0 hT_h0
  refine va_calli (va_runV (As := [.ref mg, .int (nI jf)]) (rest := []) ⟨hx, hb, hml, hown, hts⟩ (s_X7_isWell l dC dI cs ty L s.heap.size F h0 ρ d δ ea sl sx sy0 sy1 sy2 ke kx ky0 ky1 ky2 w0 w1 w2 w3 w4 w5 w6 w7 w8 tk hs ha hbb hcc pw px py pz pu mg μ mx m0 m1 m2 jf hW hL_h0 hT_h0 hL_mg hT_mg (by omega)) ⟨callB_of 2 hts (gi kt_428) rfl rfl rfl (hts _ kt_322) (hts _ kt_429) (by decide +kernel) ⟨Nat.le_of_ble_eq_true rfl, Nat.le_of_ble_eq_true rfl⟩, (hts _ kt_430), (hts _ kt_431)⟩ ⟨fun a U g mk q => ⟨q.1, PTE.calling q.2⟩, pg_recv hK hP hL_h0 hF_42 (q := (RX7, TX7, 17)) rfl, fun U hU hWm => ⟨rfl, PTE.mk hU hWm hP hK hD hE hO hG (fun x hx => absurd hx List.not_mem_nil) hS hFc⟩⟩ rfl rfl hl.1 rfl (lv_room (Nat.le_of_ble_eq_true rfl)) dX7_judge_3 ⟨by show _ + 0 ≤ 0; omega, by show _ + 0 ≤ 0; omega⟩) hS (fun q _ h => hFc q h) hFc (fun r_43 u t H1 locs ht hvm hw hB hz1 hk1 hS => ?_)
  obtain ⟨F_44, hB1⟩ := hB
  obtain ⟨hP, hD, hO, hR⟩ := QT.back hB1 ht hFc hR (fun q h => by simp only [List.mem_cons, List.not_mem_nil, or_false] at h ⊢; omega)
  generalize H1 = H at hP hS ⊢
  have hw : (r_43 = 0 ∨ r_43 = 1) := hw
  have hw_45 := hw
  refine lv_if_eq (tgt := 18) hx hb dX7_judge_6 (by decide) (fun c_46 => ?_) (fun c_46 => ?_)
  ·
    refine lv_iconst (v := 1) hx hb dX7_judge_18 (by decide) ?_
    refine W.widen (k := 0) (n := 0) (by omega) (by omega) ?_
    exact W.iret (v := 1) hx hb hr (fun t ht hWm => ⟨⟨1, (), rfl, trivial, ⟨F_44, QT.mk ht hP hD hO hR⟩⟩, hS.F ht⟩) hS.2.2 dX7_judge_19
  ·
    refine lv_aload_n hx hb dX7_judge_9 rfl (lv_at hl 1 rfl) ?_
    obtain ⟨q_47, v_48, hr_q_47, hXc_q_47⟩ := hG.2.2.2.2 ("PostGate$Sealer", 89, "from", [102, 114, 111, 109]) (by decide +kernel)
    have hXc_q_47 : SXc q_47 v_48 4 (cct [102, 114, 111, 109]) A s s.heap := hXc_q_47
    have hX_q_47 : SX q_47 v_48 4 A s s.heap := hXc_q_47.sx
    obtain ⟨xo_q_47, xc_q_47, xv_q_47, xt_q_47, xn_q_47⟩ := id hXc_q_47
    have hr_q_47 : vk_R "PostGate$Sealer" 89 "from" q_47 s := hr_q_47
    refine va_ldcS hx hb hown hr_q_47 dX7_judge_10 ?_
    have hFc := pg_free hD hS hA
    obtain ⟨hi_49, hi_50, hi_51, hi_52, ⟨r_53, ht_54⟩, ht_55, ht_56, ht_57⟩ := hW.msg hL_mg hT_mg
    obtain ⟨z_58, v0_59, hF_60, hq_61⟩ := hO.msg hL_mg hT_mg
    refine va_calli (va_runV (As := [.ref q_47]) (rest := []) ⟨hx, hb, hml, hown, hts⟩ (s_X4_countOf l dC dI cs ty L H.size F_44 mg μ mx m0 m1 m2 q_47 v_48 4 hW hL_mg hT_mg) ⟨callB_of 1 hts (gi kt_432) rfl rfl rfl (hts _ kt_211) (hts _ kt_433) (by decide +kernel) ⟨Nat.le_of_ble_eq_true rfl, Nat.le_of_ble_eq_true rfl⟩, (hts _ kt_434), (hts _ kt_435)⟩ ⟨fun a U g mk q => ⟨q.1, PTE.calling q.2⟩, pg_recv hK hP hL_mg hF_60 (q := (RX4, TX4, 6)) rfl, fun U hU hWm => ⟨rfl, PTE.mk hU hWm hP hK hD hE hO hG (fun x hx => by rw [List.mem_singleton] at hx; subst hx; exact hX_q_47) hS hFc⟩⟩ rfl rfl hl.1 rfl (lv_room (Nat.le_of_ble_eq_true rfl)) dX7_judge_12 ⟨by show _ + 0 ≤ 0; omega, by show _ + 0 ≤ 0; omega⟩) hS (fun q _ h => hFc q h) hFc (fun r_62 u t H1 locs ht hvm hw hB hz1 hk1 hS => ?_)
    obtain ⟨F_63, hB1⟩ := hB
    obtain rfl : F_44 = F_63 := (funext (fun a => hB1.2.2.2 a List.not_mem_nil)).symm
    obtain ⟨hP, hD, hO, hR⟩ := QT.back hB1 ht hFc hR (fun q h => absurd h List.not_mem_nil)
    generalize H1 = H at hP hS ⊢
    have hw : True := hw
    have hw_64 := hw
    refine lv_if_ne (tgt := 20) hx hb dX7_judge_15 (by decide) (fun c_65 => ?_) (fun c_65 => ?_)
    ·
      refine lv_aload_n hx hb dX7_judge_20 rfl (lv_at hl 0 rfl) ?_
      obtain ⟨v0_66, v1_67, hF_68⟩ := hO.slr hL_h0 hT_h0
      refine pg_get (ci := 7) (v := .ref w0) (C := RX7) (T := TX7) (N := 17) hx hb hts it_7 hown hK hP hL_h0 hF_68 rfl 3 (by decide) (hts _ kt_371) (fun _ h9 => h9) rfl dX7_judge_21 ?_
      have hFc := pg_free hD hS hA
      obtain ⟨hi_69, ht_70, hq_71⟩ := hW.bytes hi_7 ht_9
      obtain ⟨z_72, o_73, hF_74, hq_75, hq_76⟩ := hO.bytes hi_7 ht_9
      refine va_callv (va_runV (As := []) (rest := []) ⟨hx, hb, hml, hown, hts⟩ (s_X0_clear l dC dI cs ty L H.size F_44 w0 (ρ + 82) r_8 60 hW hi_7 ht_9) ⟨callB_of 0 hts (gi kt_32) rfl rfl rfl (hts _ kt_1) (hts _ kt_361) (by decide +kernel) ⟨Nat.le_of_ble_eq_true rfl, Nat.le_of_ble_eq_true rfl⟩, (hts _ kt_34), (hts _ kt_35)⟩ ⟨fun a U g mk q => ⟨q.1, PT.calling q.2⟩, pg_recv hK hP hi_7 hF_74 (q := (RX0, TX0, 3)) rfl, fun U hU hWm => ⟨rfl, PT.mk hU hWm hP hK hD hE hO⟩⟩ rfl rfl hl.1 rfl (lv_room (Nat.le_of_ble_eq_true rfl)) dX7_judge_24 ⟨by show _ + 0 ≤ 0; omega, by show _ + 0 ≤ 0; omega⟩) hS (fun q _ h => hFc q h) hFc (fun u t H1 locs ht hvm hw hB hz1 hk1 hS => ?_)
      obtain ⟨F_78, hB1, hq_79⟩ := hB
      obtain ⟨hP, hD, hO, hR⟩ := QT.back hB1 ht hFc hR (fun q h => by simp only [List.mem_cons, List.not_mem_nil, or_false] at h ⊢; omega)
      have hF_80 : F_78 h0 = .inr (7, [.ref d, .ref sl, .ref ke, .ref w0, .ref w1, .ref w2, .ref w3, .ref w4, .ref w5, .ref w6, .ref w7, .ref w8, .ref tk, .ref hs, .ref pw, .int v0_66, .int v1_67]) := (hB1.2.2.2 h0 (by rw [hT_h0]; simp)).trans hF_68
      generalize H1 = H at hP hS ⊢
      refine lv_aload_n hx hb dX7_judge_27 rfl (lv_at hl 0 rfl) ?_
      refine pg_get (ci := 7) (v := .ref w0) (C := RX7) (T := TX7) (N := 17) hx hb hts it_7 hown hK hP hL_h0 hF_80 rfl 3 (by decide) (hts _ kt_371) (fun _ h9 => h9) rfl dX7_judge_28 ?_
      refine lv_aload_n hx hb dX7_judge_31 rfl (lv_at hl 0 rfl) ?_
      refine pg_get (ci := 7) (v := .ref sl) (C := RX7) (T := TX7) (N := 17) hx hb hts it_7 hown hK hP hL_h0 hF_80 rfl 1 (by decide) (hts _ kt_307) (fun _ h9 => h9) rfl dX7_judge_32 ?_
      obtain ⟨hi_81, hi_82, hi_83, hi_84, ⟨r_85, ht_86⟩, ht_87, ht_88, ht_89⟩ := hW.tags hi_3 ht_4
      have ht_86 : ty sx = (0, ρ + 3, [r_85, 3000]) := ht_86
      have ht_88 : ty sy1 = (24, ρ + 72, [40]) := ht_88
      have ht_89 : ty sy2 = (24, ρ + 73, [40]) := ht_89
      obtain ⟨z_90, hF_91, hq_92⟩ := hO.tags hi_3 ht_4
      refine pg_getN (ci := 9) (v := .ref sx) (C := RX9) (T := TX9) (N := 5) hx hb hts it_9 hown hK hP hi_3 hF_91 rfl 0 (by decide) (hE.nest kn_7) (fun _ h9 => h9) rfl dX7_judge_35 ?_
      refine lv_aload_n hx hb dX7_judge_38 rfl (lv_at hl 0 rfl) ?_
      refine pg_get (ci := 7) (v := .ref sl) (C := RX7) (T := TX7) (N := 17) hx hb hts it_7 hown hK hP hL_h0 hF_80 rfl 1 (by decide) (hts _ kt_307) (fun _ h9 => h9) rfl dX7_judge_39 ?_
      obtain ⟨q_93, v_94, hr_q_93, hXc_q_93⟩ := hG.2.2.2.2 ("PostGate$Sealer", 101, "d", [100]) (by decide +kernel)
      have hXc_q_93 : SXc q_93 v_94 1 (cct [100]) A s s.heap := hXc_q_93
      have hX_q_93 : SX q_93 v_94 1 A s s.heap := hXc_q_93.sx
      obtain ⟨xo_q_93, xc_q_93, xv_q_93, xt_q_93, xn_q_93⟩ := id hXc_q_93
      have hr_q_93 : vk_R "PostGate$Sealer" 101 "d" q_93 s := hr_q_93
      refine va_ldcS hx hb hown hr_q_93 dX7_judge_42 ?_
      have hFc := pg_free hD hS hA
      refine va_calli (va_runV (As := [.ref q_93]) (rest := [.ref sx, .ref w0]) ⟨hx, hb, hml, hown, hts⟩ (s_X9_startOf l dC dI cs ty L H.size F_78 sl (ρ + 2) sx 3000 sy0 sy1 sy2 q_93 v_94 1 hW hi_3 ht_4) ⟨callB_of 1 hts (gi kt_170) rfl rfl rfl (hts _ kt_164) (hts _ kt_318) (by decide +kernel) ⟨Nat.le_of_ble_eq_true rfl, Nat.le_of_ble_eq_true rfl⟩, (hts _ kt_172), (hts _ kt_173)⟩ ⟨fun a U g mk q => ⟨q.1, PTE.calling q.2⟩, pg_recv hK hP hi_3 hF_91 (q := (RX9, TX9, 5)) rfl, fun U hU hWm => ⟨rfl, PTE.mk hU hWm hP hK hD hE hO hG (fun x hx => by rw [List.mem_singleton] at hx; subst hx; exact hX_q_93) hS hFc⟩⟩ rfl rfl hl.1 rfl (lv_room (Nat.le_of_ble_eq_true rfl)) dX7_judge_44 ⟨by show _ + 0 ≤ 0; omega, by show _ + 0 ≤ 0; omega⟩) hS (fun q _ h => hFc q h) hFc (fun r_95 u t H1 locs ht hvm hw hB hz1 hk1 hS => ?_)
      obtain ⟨F_96, hB1⟩ := hB
      obtain rfl : F_78 = F_96 := (funext (fun a => hB1.2.2.2 a List.not_mem_nil)).symm
      obtain ⟨hP, hD, hO, hR⟩ := QT.back hB1 ht hFc hR (fun q h => absurd h List.not_mem_nil)
      generalize H1 = H at hP hS ⊢
      have hw : (∃ k : Nat, k ≤ 10002 ∧ r_95 = nI k) := hw
      have hw_97 := hw
      obtain ⟨k_98, hk_98, ek_98⟩ := hw_97
      subst ek_98
      refine lv_aload_n hx hb dX7_judge_47 rfl (lv_at hl 0 rfl) ?_
      refine pg_get (ci := 7) (v := .ref sl) (C := RX7) (T := TX7) (N := 17) hx hb hts it_7 hown hK hP hL_h0 hF_80 rfl 1 (by decide) (hts _ kt_307) (fun _ h9 => h9) rfl dX7_judge_48 ?_
      refine va_ldcS hx hb hown hr_q_93 dX7_judge_51 ?_
      have hFc := pg_free hD hS hA
      refine va_calli (va_runV (As := [.ref q_93]) (rest := [.int (nI k_98), .ref sx, .ref w0]) ⟨hx, hb, hml, hown, hts⟩ (s_X9_endOf l dC dI cs ty L H.size F_78 sl (ρ + 2) sx 3000 sy0 sy1 sy2 q_93 v_94 1 hW hi_3 ht_4) ⟨callB_of 1 hts (gi kt_174) rfl rfl rfl (hts _ kt_164) (hts _ kt_319) (by decide +kernel) ⟨Nat.le_of_ble_eq_true rfl, Nat.le_of_ble_eq_true rfl⟩, (hts _ kt_176), (hts _ kt_177)⟩ ⟨fun a U g mk q => ⟨q.1, PTE.calling q.2⟩, pg_recv hK hP hi_3 hF_91 (q := (RX9, TX9, 5)) rfl, fun U hU hWm => ⟨rfl, PTE.mk hU hWm hP hK hD hE hO hG (fun x hx => by rw [List.mem_singleton] at hx; subst hx; exact hX_q_93) hS hFc⟩⟩ rfl rfl hl.1 rfl (lv_room (Nat.le_of_ble_eq_true rfl)) dX7_judge_53 ⟨by show _ + 0 ≤ 0; omega, by show _ + 0 ≤ 0; omega⟩) hS (fun q _ h => hFc q h) hFc (fun r_99 u t H1 locs ht hvm hw hB hz1 hk1 hS => ?_)
      obtain ⟨F_100, hB1⟩ := hB
      obtain rfl : F_78 = F_100 := (funext (fun a => hB1.2.2.2 a List.not_mem_nil)).symm
      obtain ⟨hP, hD, hO, hR⟩ := QT.back hB1 ht hFc hR (fun q h => absurd h List.not_mem_nil)
      generalize H1 = H at hP hS ⊢
      have hw : (∃ k : Nat, k ≤ 10002 ∧ r_99 = nI k) := hw
      have hw_101 := hw
      obtain ⟨k_102, hk_102, ek_102⟩ := hw_101
      subst ek_102
      have hFc := pg_free hD hS hA
      refine va_callv (va_runV (As := [.ref sx, .int (nI k_98), .int (nI k_102)]) (rest := []) ⟨hx, hb, hml, hown, hts⟩ (s_X0_addRange l dC dI cs ty L H.size F_78 w0 (ρ + 82) r_8 60 sx (ρ + 3) r_85 3000 (nI k_98) (nI k_102) hW hi_7 ht_9 hi_81 ht_86 (nI_pos (by omega))) ⟨callB_of 3 hts (gi kt_36) rfl rfl rfl (hts _ kt_1) (hts _ kt_365) (by decide +kernel) ⟨Nat.le_of_ble_eq_true rfl, Nat.le_of_ble_eq_true rfl⟩, (hts _ kt_38), (hts _ kt_39)⟩ ⟨fun a U g mk q => ⟨q.1, PT.calling q.2⟩, pg_recv hK hP hi_7 hq_79 (q := (RX0, TX0, 3)) rfl, fun U hU hWm => ⟨rfl, PT.mk hU hWm hP hK hD hE hO⟩⟩ rfl rfl hl.1 rfl (lv_room (Nat.le_of_ble_eq_true rfl)) dX7_judge_56 ⟨by show _ + 0 ≤ 0; omega, by show _ + 0 ≤ 0; omega⟩) hS (fun q _ h => hFc q h) hFc (fun u t H1 locs ht hvm hw hB hz1 hk1 hS => ?_)
      obtain ⟨F_104, hB1⟩ := hB
      obtain ⟨hP, hD, hO, hR⟩ := QT.back hB1 ht hFc hR (fun q h => by simp only [List.mem_cons, List.not_mem_nil, or_false] at h ⊢; omega)
      have hF_105 : F_104 h0 = .inr (7, [.ref d, .ref sl, .ref ke, .ref w0, .ref w1, .ref w2, .ref w3, .ref w4, .ref w5, .ref w6, .ref w7, .ref w8, .ref tk, .ref hs, .ref pw, .int v0_66, .int v1_67]) := (hB1.2.2.2 h0 (by rw [hT_h0]; simp)).trans hF_80
      have hF_106 : F_104 sl = .inr (9, [.ref sx, .ref sy0, .ref sy1, .ref sy2, .int (nI z_90)]) := (hB1.2.2.2 sl (by rw [ht_4]; simp)).trans hF_91
      generalize H1 = H at hP hS ⊢
      refine W.widen (k := 0) (n := 0) (by omega) (by omega) ?_
      refine pl_cut (σ := Unit) A (dC, dI) cs ty L [ρ, ρ + 82, ρ + 83, ρ + 84, ρ + 85, ρ + 86, ρ + 87, ρ + 88, ρ + 89, ρ + 90, ρ + 91, ρ + 2, ρ + 3, ρ + 4, ρ + 5, ρ + 6, ρ + 7, ρ + 92, ρ + 93, ρ + 94, ρ + 95, ρ + 72, ρ + 73, ρ + 74, ρ + 75] F 86 5 (fun u0 => [(0, .ref h0), (1, .ref mg), (2, .int (nI jf)), (3, .int x3)]) (fun u0 => []) (fun u0 _ => True) ?_ (fun jn_107 => ?_)
      ·
        rintro u0 F_108 hv_109 hO hR H locs hP hD hS ls hl
        have hl : lv_has ls 5 [(0, .ref h0), (1, .ref mg), (2, .int (nI jf)), (3, .int x3)] := hl
        have hv_109 : True := hv_109
        refine W.eq (g2 := F0 m 86 ls []) rfl ?_
        refine lv_aload_n hx hb dX7_judge_86 rfl (lv_at hl 0 rfl) ?_
        have hFc := pg_free hD hS hA
        obtain ⟨v0_110, v1_111, hF_112⟩ := hO.slr hL_h0 hT_h0
        refine va_calli (va_runV (As := []) (rest := []) ⟨hx, hb, hml, hown, hts⟩ (s_X7_readKey l dC dI cs ty L H.size F_108 h0 ρ d δ ea sl sx sy0 sy1 sy2 ke kx ky0 ky1 ky2 w0 w1 w2 w3 w4 w5 w6 w7 w8 tk hs ha hbb hcc pw px py pz pu hW hL_h0 hT_h0) ⟨callB_of 0 hts (gi kt_436) rfl rfl rfl (hts _ kt_322) (hts _ kt_437) (by decide +kernel) ⟨Nat.le_of_ble_eq_true rfl, Nat.le_of_ble_eq_true rfl⟩, (hts _ kt_438), (hts _ kt_439)⟩ ⟨fun a U g mk q => ⟨q.1, PTE.calling q.2⟩, pg_recv hK hP hL_h0 hF_112 (q := (RX7, TX7, 17)) rfl, fun U hU hWm => ⟨rfl, PTE.mk hU hWm hP hK hD hE hO hG (fun x hx => absurd hx List.not_mem_nil) hS hFc⟩⟩ rfl rfl hl.1 rfl (lv_room (Nat.le_of_ble_eq_true rfl)) dX7_judge_87 ⟨by show _ + 0 ≤ 0; omega, by show _ + 0 ≤ 0; omega⟩) hS (fun q _ h => hFc q h) hFc (fun r_113 u t H1 locs ht hvm hw hB hz1 hk1 hS => ?_)
        obtain ⟨F_114, hB1⟩ := hB
        obtain ⟨hP, hD, hO, hR⟩ := QT.back hB1 ht hFc hR (fun q h => by simp only [List.mem_cons, List.not_mem_nil, or_false] at h ⊢; omega)
        have hF_115 : F_114 h0 = .inr (7, [.ref d, .ref sl, .ref ke, .ref w0, .ref w1, .ref w2, .ref w3, .ref w4, .ref w5, .ref w6, .ref w7, .ref w8, .ref tk, .ref hs, .ref pw, .int v0_110, .int v1_111]) := (hB1.2.2.2 h0 (by rw [hT_h0]; simp)).trans hF_112
        generalize H1 = H at hP hS ⊢
        have hw : True := hw
        have hw_116 := hw
        refine lv_istore (lv' := [(4, .int r_113), (0, .ref h0), (1, .ref mg), (2, .int (nI jf)), (3, .int x3)]) hx hb dX7_judge_90 hl (by decide) rfl (fun ls hl => ?_)
        refine lv_iload hx hb dX7_judge_92 (lv_at hl 0 rfl) ?_
        refine lv_iconst (v := 2) hx hb dX7_judge_94 (by decide) ?_
        refine lv_icmp_eq (tgt := 101) hx hb dX7_judge_95 (by decide) (fun c_117 => ?_) (fun c_117 => ?_)
        ·
          refine lv_aload_n hx hb dX7_judge_101 rfl (lv_at hl 1 rfl) ?_
          refine lv_aload_n hx hb dX7_judge_102 rfl (lv_at hl 2 rfl) ?_
          have hFc := pg_free hD hS hA
          refine va_calli (va_runV (As := [.ref mg]) (rest := []) ⟨hx, hb, hml, hown, hts⟩ (s_X7_isBodyRight l dC dI cs ty L H.size F_114 h0 ρ d δ ea sl sx sy0 sy1 sy2 ke kx ky0 ky1 ky2 w0 w1 w2 w3 w4 w5 w6 w7 w8 tk hs ha hbb hcc pw px py pz pu mg μ mx m0 m1 m2 hW hL_h0 hT_h0 hL_mg hT_mg) ⟨callB_of 1 hts (gi kt_440) rfl rfl rfl (hts _ kt_322) (hts _ kt_441) (by decide +kernel) ⟨Nat.le_of_ble_eq_true rfl, Nat.le_of_ble_eq_true rfl⟩, (hts _ kt_442), (hts _ kt_443)⟩ ⟨fun a U g mk q => ⟨q.1, PTE.calling q.2⟩, pg_recv hK hP hL_h0 hF_115 (q := (RX7, TX7, 17)) rfl, fun U hU hWm => ⟨rfl, PTE.mk hU hWm hP hK hD hE hO hG (fun x hx => absurd hx List.not_mem_nil) hS hFc⟩⟩ rfl rfl hl.1 rfl (lv_room (Nat.le_of_ble_eq_true rfl)) dX7_judge_103 ⟨by show _ + 0 ≤ 0; omega, by show _ + 0 ≤ 0; omega⟩) hS (fun q _ h => hFc q h) hFc (fun r_118 u t H1 locs ht hvm hw hB hz1 hk1 hS => ?_)
          obtain ⟨F_119, hB1⟩ := hB
          obtain ⟨hP, hD, hO, hR⟩ := QT.back hB1 ht hFc hR (fun q h => by simp only [List.mem_cons, List.not_mem_nil, or_false] at h ⊢; omega)
          have hF_120 : F_119 h0 = .inr (7, [.ref d, .ref sl, .ref ke, .ref w0, .ref w1, .ref w2, .ref w3, .ref w4, .ref w5, .ref w6, .ref w7, .ref w8, .ref tk, .ref hs, .ref pw, .int v0_110, .int v1_111]) := (hB1.2.2.2 h0 (by rw [hT_h0]; simp)).trans hF_115
          generalize H1 = H at hP hS ⊢
          have hw : (r_118 = 0 ∨ r_118 = 1) := hw
          have hw_121 := hw
          refine lv_if_ne (tgt := 111) hx hb dX7_judge_106 (by decide) (fun c_122 => ?_) (fun c_122 => ?_)
          ·
            refine lv_aload_n hx hb dX7_judge_111 rfl (lv_at hl 1 rfl) ?_
            refine pg_get (ci := 7) (v := .ref w8) (C := RX7) (T := TX7) (N := 17) hx hb hts it_7 hown hK hP hL_h0 hF_120 rfl 11 (by decide) (hts _ kt_391) (fun _ h9 => h9) rfl dX7_judge_112 ?_
            have hFc := pg_free hD hS hA
            obtain ⟨hi_123, ht_124, hq_125⟩ := hW.bytes hi_31 ht_33
            obtain ⟨z_126, o_127, hF_128, hq_129, hq_130⟩ := hO.bytes hi_31 ht_33
            refine va_callv (va_runV (As := []) (rest := []) ⟨hx, hb, hml, hown, hts⟩ (s_X0_clear l dC dI cs ty L H.size F_119 w8 (ρ + 90) r_32 6100 hW hi_31 ht_33) ⟨callB_of 0 hts (gi kt_32) rfl rfl rfl (hts _ kt_1) (hts _ kt_361) (by decide +kernel) ⟨Nat.le_of_ble_eq_true rfl, Nat.le_of_ble_eq_true rfl⟩, (hts _ kt_34), (hts _ kt_35)⟩ ⟨fun a U g mk q => ⟨q.1, PT.calling q.2⟩, pg_recv hK hP hi_31 hF_128 (q := (RX0, TX0, 3)) rfl, fun U hU hWm => ⟨rfl, PT.mk hU hWm hP hK hD hE hO⟩⟩ rfl rfl hl.1 rfl (lv_room (Nat.le_of_ble_eq_true rfl)) dX7_judge_115 ⟨by show _ + 0 ≤ 0; omega, by show _ + 0 ≤ 0; omega⟩) hS (fun q _ h => hFc q h) hFc (fun u t H1 locs ht hvm hw hB hz1 hk1 hS => ?_)
            obtain ⟨F_132, hB1, hq_133⟩ := hB
            obtain ⟨hP, hD, hO, hR⟩ := QT.back hB1 ht hFc hR (fun q h => by simp only [List.mem_cons, List.not_mem_nil, or_false] at h ⊢; omega)
            have hF_134 : F_132 h0 = .inr (7, [.ref d, .ref sl, .ref ke, .ref w0, .ref w1, .ref w2, .ref w3, .ref w4, .ref w5, .ref w6, .ref w7, .ref w8, .ref tk, .ref hs, .ref pw, .int v0_110, .int v1_111]) := (hB1.2.2.2 h0 (by rw [hT_h0]; simp)).trans hF_120
            generalize H1 = H at hP hS ⊢
            refine lv_aload_n hx hb dX7_judge_118 rfl (lv_at hl 1 rfl) ?_
            refine lv_aload_n hx hb dX7_judge_119 rfl (lv_at hl 2 rfl) ?_
            have hFc := pg_free hD hS hA
            refine va_callv (va_runV (As := [.ref mg]) (rest := []) ⟨hx, hb, hml, hown, hts⟩ (s_X7_addListed l dC dI cs ty L H.size F_132 h0 ρ d δ ea sl sx sy0 sy1 sy2 ke kx ky0 ky1 ky2 w0 w1 w2 w3 w4 w5 w6 w7 w8 tk hs ha hbb hcc pw px py pz pu mg μ mx m0 m1 m2 hW hL_h0 hT_h0 hL_mg hT_mg) ⟨callB_of 1 hts (gi kt_444) rfl rfl rfl (hts _ kt_322) (hts _ kt_445) (by decide +kernel) ⟨Nat.le_of_ble_eq_true rfl, Nat.le_of_ble_eq_true rfl⟩, (hts _ kt_446), (hts _ kt_447)⟩ ⟨fun a U g mk q => ⟨q.1, PTE.calling q.2⟩, pg_recv hK hP hL_h0 hF_134 (q := (RX7, TX7, 17)) rfl, fun U hU hWm => ⟨rfl, PTE.mk hU hWm hP hK hD hE hO hG (fun x hx => absurd hx List.not_mem_nil) hS hFc⟩⟩ rfl rfl hl.1 rfl (lv_room (Nat.le_of_ble_eq_true rfl)) dX7_judge_120 ⟨by show _ + 0 ≤ 0; omega, by show _ + 0 ≤ 0; omega⟩) hS (fun q _ h => hFc q h) hFc (fun u t H1 locs ht hvm hw hB hz1 hk1 hS => ?_)
            obtain ⟨F_136, hB1⟩ := hB
            obtain ⟨hP, hD, hO, hR⟩ := QT.back hB1 ht hFc hR (fun q h => by simp only [List.mem_cons, List.not_mem_nil, or_false] at h ⊢; omega)
            generalize H1 = H at hP hS ⊢
            refine lv_aload_n hx hb dX7_judge_123 rfl (lv_at hl 1 rfl) ?_
            refine lv_aload_n hx hb dX7_judge_124 rfl (lv_at hl 2 rfl) ?_
            refine lv_iload_n hx hb dX7_judge_125 rfl (lv_at hl 3 rfl) ?_
            have hFc := pg_free hD hS hA
            obtain ⟨v0_137, v1_138, hF_139⟩ := hO.slr hL_h0 hT_h0
            refine va_callv (va_runV (As := [.ref mg, .int (nI jf)]) (rest := []) ⟨hx, hb, hml, hown, hts⟩ (s_X7_addOwn l dC dI cs ty L H.size F_136 h0 ρ d δ ea sl sx sy0 sy1 sy2 ke kx ky0 ky1 ky2 w0 w1 w2 w3 w4 w5 w6 w7 w8 tk hs ha hbb hcc pw px py pz pu mg μ mx m0 m1 m2 jf hW hL_h0 hT_h0 hL_mg hT_mg (by omega)) ⟨callB_of 2 hts (gi kt_448) rfl rfl rfl (hts _ kt_322) (hts _ kt_449) (by decide +kernel) ⟨Nat.le_of_ble_eq_true rfl, Nat.le_of_ble_eq_true rfl⟩, (hts _ kt_450), (hts _ kt_451)⟩ ⟨fun a U g mk q => ⟨q.1, PT.calling q.2⟩, pg_recv hK hP hL_h0 hF_139 (q := (RX7, TX7, 17)) rfl, fun U hU hWm => ⟨rfl, PT.mk hU hWm hP hK hD hE hO⟩⟩ rfl rfl hl.1 rfl (lv_room (Nat.le_of_ble_eq_true rfl)) dX7_judge_126 ⟨by show _ + 0 ≤ 0; omega, by show _ + 0 ≤ 0; omega⟩) hS (fun q _ h => hFc q h) hFc (fun u t H1 locs ht hvm hw hB hz1 hk1 hS => ?_)
            obtain ⟨F_141, hB1⟩ := hB
            obtain ⟨hP, hD, hO, hR⟩ := QT.back hB1 ht hFc hR (fun q h => by simp only [List.mem_cons, List.not_mem_nil, or_false] at h ⊢; omega)
            have hF_142 : F_141 h0 = .inr (7, [.ref d, .ref sl, .ref ke, .ref w0, .ref w1, .ref w2, .ref w3, .ref w4, .ref w5, .ref w6, .ref w7, .ref w8, .ref tk, .ref hs, .ref pw, .int v0_137, .int v1_138]) := (hB1.2.2.2 h0 (by rw [hT_h0]; simp)).trans hF_139
            generalize H1 = H at hP hS ⊢
            refine lv_aload_n hx hb dX7_judge_129 rfl (lv_at hl 1 rfl) ?_
            have hFc := pg_free hD hS hA
            refine va_calli (va_runV (As := []) (rest := []) ⟨hx, hb, hml, hown, hts⟩ (s_X7_isSigned l dC dI cs ty L H.size F_141 h0 ρ d δ ea sl sx sy0 sy1 sy2 ke kx ky0 ky1 ky2 w0 w1 w2 w3 w4 w5 w6 w7 w8 tk hs ha hbb hcc pw px py pz pu hW hL_h0 hT_h0) ⟨callB_of 0 hts (gi kt_452) rfl rfl rfl (hts _ kt_322) (hts _ kt_453) (by decide +kernel) ⟨Nat.le_of_ble_eq_true rfl, Nat.le_of_ble_eq_true rfl⟩, (hts _ kt_454), (hts _ kt_455)⟩ ⟨fun a U g mk q => ⟨q.1, PTE.calling q.2⟩, pg_recv hK hP hL_h0 hF_142 (q := (RX7, TX7, 17)) rfl, fun U hU hWm => ⟨rfl, PTE.mk hU hWm hP hK hD hE hO hG (fun x hx => absurd hx List.not_mem_nil) hS hFc⟩⟩ rfl rfl hl.1 rfl (lv_room (Nat.le_of_ble_eq_true rfl)) dX7_judge_130 ⟨by show _ + 0 ≤ 0; omega, by show _ + 0 ≤ 0; omega⟩) hS (fun q _ h => hFc q h) hFc (fun r_143 u t H1 locs ht hvm hw hB hz1 hk1 hS => ?_)
            obtain ⟨F_144, hB1⟩ := hB
            obtain ⟨hP, hD, hO, hR⟩ := QT.back hB1 ht hFc hR (fun q h => by simp only [List.mem_cons, List.not_mem_nil, or_false] at h ⊢; omega)
            have hF_145 : F_144 h0 = .inr (7, [.ref d, .ref sl, .ref ke, .ref w0, .ref w1, .ref w2, .ref w3, .ref w4, .ref w5, .ref w6, .ref w7, .ref w8, .ref tk, .ref hs, .ref pw, .int v0_137, .int v1_138]) := (hB1.2.2.2 h0 (by rw [hT_h0]; simp)).trans hF_142
            generalize H1 = H at hP hS ⊢
            have hw : (r_143 = 0 ∨ r_143 = 1) := hw
            have hw_146 := hw
            refine lv_if_eq (tgt := 140) hx hb dX7_judge_133 (by decide) (fun c_147 => ?_) (fun c_147 => ?_)
            ·
              refine lv_iconst (v := 3) hx hb dX7_judge_140 (by decide) ?_
              refine W.widen (k := 0) (n := 0) (by omega) (by omega) ?_
              exact W.iret (v := 3) hx hb hr (fun t ht hWm => ⟨⟨3, (), rfl, trivial, ⟨F_144, QT.mk ht hP hD hO hR⟩⟩, hS.F ht⟩) hS.2.2 dX7_judge_141
            ·
              refine lv_iconst (v := 2) hx hb dX7_judge_136 (by decide) ?_
              refine lv_goto (tgt := 141) hx hb dX7_judge_137 (by decide) ?_
              refine W.widen (k := 0) (n := 0) (by omega) (by omega) ?_
              exact W.iret (v := 2) hx hb hr (fun t ht hWm => ⟨⟨2, (), rfl, trivial, ⟨F_144, QT.mk ht hP hD hO hR⟩⟩, hS.F ht⟩) hS.2.2 dX7_judge_141
          ·
            refine lv_iconst (v := 3) hx hb dX7_judge_109 (by decide) ?_
            refine W.widen (k := 0) (n := 0) (by omega) (by omega) ?_
            exact W.iret (v := 3) hx hb hr (fun t ht hWm => ⟨⟨3, (), rfl, trivial, ⟨F_119, QT.mk ht hP hD hO hR⟩⟩, hS.F ht⟩) hS.2.2 dX7_judge_110
        ·
          refine lv_iload hx hb dX7_judge_98 (lv_at hl 0 rfl) ?_
          refine W.widen (k := 0) (n := 0) (by omega) (by omega) ?_
          exact W.iret (v := r_113) hx hb hr (fun t ht hWm => ⟨⟨r_113, (), rfl, trivial, ⟨F_114, QT.mk ht hP hD hO hR⟩⟩, hS.F ht⟩) hS.2.2 dX7_judge_100
      ·
        refine lv_aload_n hx hb dX7_judge_59 rfl (lv_at hl 0 rfl) ?_
        refine pg_get (ci := 7) (v := .ref sl) (C := RX7) (T := TX7) (N := 17) hx hb hts it_7 hown hK hP hL_h0 hF_105 rfl 1 (by decide) (hts _ kt_307) (fun _ h9 => h9) rfl dX7_judge_60 ?_
        obtain ⟨q_148, v_149, hr_q_148, hXc_q_148⟩ := hG.2.2.2.2 ("PostGate$Sealer", 113, "x", [120]) (by decide +kernel)
        have hXc_q_148 : SXc q_148 v_149 1 (cct [120]) A s s.heap := hXc_q_148
        have hX_q_148 : SX q_148 v_149 1 A s s.heap := hXc_q_148.sx
        obtain ⟨xo_q_148, xc_q_148, xv_q_148, xt_q_148, xn_q_148⟩ := id hXc_q_148
        have hr_q_148 : vk_R "PostGate$Sealer" 113 "x" q_148 s := hr_q_148
        refine va_ldcS hx hb hown hr_q_148 dX7_judge_63 ?_
        have hFc := pg_free hD hS hA
        refine va_calli (va_runV (As := [.ref q_148]) (rest := []) ⟨hx, hb, hml, hown, hts⟩ (s_X9_has l dC dI cs ty L H.size F_104 sl (ρ + 2) sx 3000 sy0 sy1 sy2 q_148 v_149 1 hW hi_3 ht_4) ⟨callB_of 1 hts (gi kt_308) rfl rfl rfl (hts _ kt_164) (hts _ kt_309) (by decide +kernel) ⟨Nat.le_of_ble_eq_true rfl, Nat.le_of_ble_eq_true rfl⟩, (hts _ kt_310), (hts _ kt_311)⟩ ⟨fun a U g mk q => ⟨q.1, PTE.calling q.2⟩, pg_recv hK hP hi_3 hF_106 (q := (RX9, TX9, 5)) rfl, fun U hU hWm => ⟨rfl, PTE.mk hU hWm hP hK hD hE hO hG (fun x hx => by rw [List.mem_singleton] at hx; subst hx; exact hX_q_148) hS hFc⟩⟩ rfl rfl hl.1 rfl (lv_room (Nat.le_of_ble_eq_true rfl)) dX7_judge_65 ⟨by show _ + 0 ≤ 0; omega, by show _ + 0 ≤ 0; omega⟩) hS (fun q _ h => hFc q h) hFc (fun r_150 u t H1 locs ht hvm hw hB hz1 hk1 hS => ?_)
        obtain ⟨F_151, hB1⟩ := hB
        obtain rfl : F_104 = F_151 := (funext (fun a => hB1.2.2.2 a List.not_mem_nil)).symm
        obtain ⟨hP, hD, hO, hR⟩ := QT.back hB1 ht hFc hR (fun q h => absurd h List.not_mem_nil)
        generalize H1 = H at hP hS ⊢
        have hw : (r_150 = 0 ∨ r_150 = 1) := hw
        have hw_152 := hw
        refine lv_if_eq (tgt := 86) hx hb dX7_judge_68 (by decide) (fun c_153 => ?_) (fun c_153 => ?_)
        ·
          refine W.widen (k := 0) (n := 0) (by omega) (by omega) ?_
          exact jn_107 () F_104 (trivial) hO hR _ _ hP hD hS ls (lv_sub hl [0, 1, 2, 3] rfl)
        ·
          refine lv_iload_n hx hb dX7_judge_71 rfl (lv_at hl 3 rfl) ?_
          refine lv_aload_n hx hb dX7_judge_72 rfl (lv_at hl 0 rfl) ?_
          refine pg_get (ci := 7) (v := .ref sl) (C := RX7) (T := TX7) (N := 17) hx hb hts it_7 hown hK hP hL_h0 hF_105 rfl 1 (by decide) (hts _ kt_307) (fun _ h9 => h9) rfl dX7_judge_73 ?_
          refine va_ldcS hx hb hown hr_q_148 dX7_judge_76 ?_
          have hFc := pg_free hD hS hA
          refine va_calli (va_runV (As := [.ref q_148]) (rest := [.int x3]) ⟨hx, hb, hml, hown, hts⟩ (s_X9_numberAt l dC dI cs ty L H.size F_104 sl (ρ + 2) sx 3000 sy0 sy1 sy2 q_148 v_149 1 hW hi_3 ht_4) ⟨callB_of 1 hts (gi kt_312) rfl rfl rfl (hts _ kt_164) (hts _ kt_313) (by decide +kernel) ⟨Nat.le_of_ble_eq_true rfl, Nat.le_of_ble_eq_true rfl⟩, (hts _ kt_314), (hts _ kt_315)⟩ ⟨fun a U g mk q => ⟨q.1, PTE.calling q.2⟩, pg_recv hK hP hi_3 hF_106 (q := (RX9, TX9, 5)) rfl, fun U hU hWm => ⟨rfl, PTE.mk hU hWm hP hK hD hE hO hG (fun x hx => by rw [List.mem_singleton] at hx; subst hx; exact hX_q_148) hS hFc⟩⟩ rfl rfl hl.1 rfl (lv_room (Nat.le_of_ble_eq_true rfl)) dX7_judge_78 ⟨by show _ + 0 ≤ 0; omega, by show _ + 0 ≤ 0; omega⟩) hS (fun q _ h => hFc q h) hFc (fun r_154 u t H1 locs ht hvm hw hB hz1 hk1 hS => ?_)
          obtain ⟨F_155, hB1⟩ := hB
          obtain rfl : F_104 = F_155 := (funext (fun a => hB1.2.2.2 a List.not_mem_nil)).symm
          obtain ⟨hP, hD, hO, hR⟩ := QT.back hB1 ht hFc hR (fun q h => absurd h List.not_mem_nil)
          generalize H1 = H at hP hS ⊢
          have hw : True := hw
          have hw_156 := hw
          refine lv_icmp_le (tgt := 86) hx hb dX7_judge_81 (by decide) (fun c_157 => ?_) (fun c_157 => ?_)
          ·
            refine W.widen (k := 0) (n := 0) (by omega) (by omega) ?_
            exact jn_107 () F_104 (trivial) hO hR _ _ hP hD hS ls (lv_sub hl [0, 1, 2, 3] rfl)
          ·
            refine lv_iconst (v := 3) hx hb dX7_judge_84 (by decide) ?_
            refine W.widen (k := 0) (n := 0) (by omega) (by omega) ?_
            exact W.iret (v := 3) hx hb hr (fun t ht hWm => ⟨⟨3, (), rfl, trivial, ⟨F_104, QT.mk ht hP hD hO hR⟩⟩, hS.F ht⟩) hS.2.2 dX7_judge_85
    ·
      refine lv_iconst (v := 1) hx hb dX7_judge_18 (by decide) ?_
      refine W.widen (k := 0) (n := 0) (by omega) (by omega) ?_
      exact W.iret (v := 1) hx hb hr (fun t ht hWm => ⟨⟨1, (), rfl, trivial, ⟨F_44, QT.mk ht hP hD hO hR⟩⟩, hS.F ht⟩) hS.2.2 dX7_judge_19
