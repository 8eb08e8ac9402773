theorem dX7_isFieldList_0 : decode cX7_isFieldList 0 = .ok (.iconst 0, 1) := by decide +kernel
theorem dX7_isFieldList_1 : decode cX7_isFieldList 1 = .ok (.istore_n 1, 1) := by decide +kernel
theorem dX7_isFieldList_2 : decode cX7_isFieldList 2 = .ok (.aload_n 0, 1) := by decide +kernel
theorem dX7_isFieldList_3 : decode cX7_isFieldList 3 = .ok (.getfield 14, 3) := by decide +kernel
theorem dX7_isFieldList_6 : decode cX7_isFieldList 6 = .ok (.ldc 207, 2) := by decide +kernel
theorem dX7_isFieldList_8 : decode cX7_isFieldList 8 = .ok (.invokevirtual 103, 3) := by decide +kernel
theorem dX7_isFieldList_11 : decode cX7_isFieldList 11 = .ok (.istore_n 2, 1) := by decide +kernel
theorem dX7_isFieldList_12 : decode cX7_isFieldList 12 = .ok (.aload_n 0, 1) := by decide +kernel
theorem dX7_isFieldList_13 : decode cX7_isFieldList 13 = .ok (.getfield 14, 3) := by decide +kernel
theorem dX7_isFieldList_16 : decode cX7_isFieldList 16 = .ok (.ldc 207, 2) := by decide +kernel
theorem dX7_isFieldList_18 : decode cX7_isFieldList 18 = .ok (.invokevirtual 106, 3) := by decide +kernel
theorem dX7_isFieldList_21 : decode cX7_isFieldList 21 = .ok (.istore_n 3, 1) := by decide +kernel
theorem dX7_isFieldList_22 : decode cX7_isFieldList 22 = .ok (.iload_n 2, 1) := by decide +kernel
theorem dX7_isFieldList_23 : decode cX7_isFieldList 23 = .ok (.istore 4, 2) := by decide +kernel
theorem dX7_isFieldList_25 : decode cX7_isFieldList 25 = .ok (.iload 4, 2) := by decide +kernel
theorem dX7_isFieldList_27 : decode cX7_isFieldList 27 = .ok (.iload_n 3, 1) := by decide +kernel
theorem dX7_isFieldList_28 : decode cX7_isFieldList 28 = .ok (.if_icmp .gt 78, 3) := by decide +kernel
theorem dX7_isFieldList_31 : decode cX7_isFieldList 31 = .ok (.iload 4, 2) := by decide +kernel
theorem dX7_isFieldList_33 : decode cX7_isFieldList 33 = .ok (.iload_n 3, 1) := by decide +kernel
theorem dX7_isFieldList_34 : decode cX7_isFieldList 34 = .ok (.if_icmp .ge 23, 3) := by decide +kernel
theorem dX7_isFieldList_37 : decode cX7_isFieldList 37 = .ok (.aload_n 0, 1) := by decide +kernel
theorem dX7_isFieldList_38 : decode cX7_isFieldList 38 = .ok (.getfield 14, 3) := by decide +kernel
theorem dX7_isFieldList_41 : decode cX7_isFieldList 41 = .ok (.getfield 98, 3) := by decide +kernel
theorem dX7_isFieldList_44 : decode cX7_isFieldList 44 = .ok (.iload 4, 2) := by decide +kernel
theorem dX7_isFieldList_46 : decode cX7_isFieldList 46 = .ok (.invokevirtual 209, 3) := by decide +kernel
theorem dX7_isFieldList_49 : decode cX7_isFieldList 49 = .ok (.bipush 58, 2) := by decide +kernel
theorem dX7_isFieldList_51 : decode cX7_isFieldList 51 = .ok (.if_icmp .eq 6, 3) := by decide +kernel
theorem dX7_isFieldList_54 : decode cX7_isFieldList 54 = .ok (.goto 46, 3) := by decide +kernel
theorem dX7_isFieldList_57 : decode cX7_isFieldList 57 = .ok (.aload_n 0, 1) := by decide +kernel
theorem dX7_isFieldList_58 : decode cX7_isFieldList 58 = .ok (.getfield 14, 3) := by decide +kernel
theorem dX7_isFieldList_61 : decode cX7_isFieldList 61 = .ok (.getfield 98, 3) := by decide +kernel
theorem dX7_isFieldList_64 : decode cX7_isFieldList 64 = .ok (.iload_n 2, 1) := by decide +kernel
theorem dX7_isFieldList_65 : decode cX7_isFieldList 65 = .ok (.iload 4, 2) := by decide +kernel
theorem dX7_isFieldList_67 : decode cX7_isFieldList 67 = .ok (.invokestatic 213, 3) := by decide +kernel
theorem dX7_isFieldList_70 : decode cX7_isFieldList 70 = .ok (.ifCond .ne 5, 3) := by decide +kernel
theorem dX7_isFieldList_73 : decode cX7_isFieldList 73 = .ok (.iconst 0, 1) := by decide +kernel
theorem dX7_isFieldList_74 : decode cX7_isFieldList 74 = .ok (.ireturn, 1) := by decide +kernel
theorem dX7_isFieldList_75 : decode cX7_isFieldList 75 = .ok (.iload_n 1, 1) := by decide +kernel
theorem dX7_isFieldList_76 : decode cX7_isFieldList 76 = .ok (.ifCond .ne 13, 3) := by decide +kernel
theorem dX7_isFieldList_79 : decode cX7_isFieldList 79 = .ok (.aload_n 0, 1) := by decide +kernel
theorem dX7_isFieldList_80 : decode cX7_isFieldList 80 = .ok (.iload_n 2, 1) := by decide +kernel
theorem dX7_isFieldList_81 : decode cX7_isFieldList 81 = .ok (.iload 4, 2) := by decide +kernel
theorem dX7_isFieldList_83 : decode cX7_isFieldList 83 = .ok (.invokevirtual 216, 3) := by decide +kernel
theorem dX7_isFieldList_86 : decode cX7_isFieldList 86 = .ok (.ifCond .eq 7, 3) := by decide +kernel
theorem dX7_isFieldList_89 : decode cX7_isFieldList 89 = .ok (.iconst 1, 1) := by decide +kernel
theorem dX7_isFieldList_90 : decode cX7_isFieldList 90 = .ok (.goto 4, 3) := by decide +kernel
theorem dX7_isFieldList_93 : decode cX7_isFieldList 93 = .ok (.iconst 0, 1) := by decide +kernel
theorem dX7_isFieldList_94 : decode cX7_isFieldList 94 = .ok (.istore_n 1, 1) := by decide +kernel
theorem dX7_isFieldList_95 : decode cX7_isFieldList 95 = .ok (.iload 4, 2) := by decide +kernel
theorem dX7_isFieldList_97 : decode cX7_isFieldList 97 = .ok (.iconst 1, 1) := by decide +kernel
theorem dX7_isFieldList_98 : decode cX7_isFieldList 98 = .ok (.iadd, 1) := by decide +kernel
theorem dX7_isFieldList_99 : decode cX7_isFieldList 99 = .ok (.istore_n 2, 1) := by decide +kernel
theorem dX7_isFieldList_100 : decode cX7_isFieldList 100 = .ok (.iinc 4 1, 3) := by decide +kernel
theorem dX7_isFieldList_103 : decode cX7_isFieldList 103 = .ok (.goto (-78), 3) := by decide +kernel
theorem dX7_isFieldList_106 : decode cX7_isFieldList 106 = .ok (.iload_n 1, 1) := by decide +kernel
theorem dX7_isFieldList_107 : decode cX7_isFieldList 107 = .ok (.ireturn, 1) := by decide +kernel
theorem dX7_isFrom_0 : decode cX7_isFrom 0 = .ok (.iload_n 2, 1) := by decide +kernel
theorem dX7_isFrom_1 : decode cX7_isFrom 1 = .ok (.iload_n 1, 1) := by decide +kernel
theorem dX7_isFrom_2 : decode cX7_isFrom 2 = .ok (.isub, 1) := by decide +kernel
theorem dX7_isFrom_3 : decode cX7_isFrom 3 = .ok (.iconst 4, 1) := by decide +kernel
theorem dX7_isFrom_4 : decode cX7_isFrom 4 = .ok (.if_icmp .ne 7, 3) := by decide +kernel
theorem dX7_isFrom_7 : decode cX7_isFrom 7 = .ok (.iconst 1, 1) := by decide +kernel
theorem dX7_isFrom_8 : decode cX7_isFrom 8 = .ok (.goto 4, 3) := by decide +kernel
theorem dX7_isFrom_11 : decode cX7_isFrom 11 = .ok (.iconst 0, 1) := by decide +kernel
theorem dX7_isFrom_12 : decode cX7_isFrom 12 = .ok (.istore_n 3, 1) := by decide +kernel
theorem dX7_isFrom_13 : decode cX7_isFrom 13 = .ok (.iconst 0, 1) := by decide +kernel
theorem dX7_isFrom_14 : decode cX7_isFrom 14 = .ok (.istore 4, 2) := by decide +kernel
theorem dX7_isFrom_16 : decode cX7_isFrom 16 = .ok (.iload_n 3, 1) := by decide +kernel
theorem dX7_isFrom_17 : decode cX7_isFrom 17 = .ok (.ifCond .eq 48, 3) := by decide +kernel
theorem dX7_isFrom_20 : decode cX7_isFrom 20 = .ok (.iload 4, 2) := by decide +kernel
theorem dX7_isFrom_22 : decode cX7_isFrom 22 = .ok (.iconst 4, 1) := by decide +kernel
theorem dX7_isFrom_23 : decode cX7_isFrom 23 = .ok (.if_icmp .ge 42, 3) := by decide +kernel
theorem dX7_isFrom_26 : decode cX7_isFrom 26 = .ok (.aload_n 0, 1) := by decide +kernel
theorem dX7_isFrom_27 : decode cX7_isFrom 27 = .ok (.getfield 14, 3) := by decide +kernel
theorem dX7_isFrom_30 : decode cX7_isFrom 30 = .ok (.getfield 98, 3) := by decide +kernel
theorem dX7_isFrom_33 : decode cX7_isFrom 33 = .ok (.iload_n 1, 1) := by decide +kernel
theorem dX7_isFrom_34 : decode cX7_isFrom 34 = .ok (.iload 4, 2) := by decide +kernel
theorem dX7_isFrom_36 : decode cX7_isFrom 36 = .ok (.iadd, 1) := by decide +kernel
theorem dX7_isFrom_37 : decode cX7_isFrom 37 = .ok (.invokevirtual 209, 3) := by decide +kernel
theorem dX7_isFrom_40 : decode cX7_isFrom 40 = .ok (.invokestatic 220, 3) := by decide +kernel
theorem dX7_isFrom_43 : decode cX7_isFrom 43 = .ok (.ldc 89, 2) := by decide +kernel
theorem dX7_isFrom_45 : decode cX7_isFrom 45 = .ok (.iload 4, 2) := by decide +kernel
theorem dX7_isFrom_47 : decode cX7_isFrom 47 = .ok (.invokevirtual 223, 3) := by decide +kernel
theorem dX7_isFrom_50 : decode cX7_isFrom 50 = .ok (.if_icmp .ne 7, 3) := by decide +kernel
theorem dX7_isFrom_53 : decode cX7_isFrom 53 = .ok (.iconst 1, 1) := by decide +kernel
theorem dX7_isFrom_54 : decode cX7_isFrom 54 = .ok (.goto 4, 3) := by decide +kernel
theorem dX7_isFrom_57 : decode cX7_isFrom 57 = .ok (.iconst 0, 1) := by decide +kernel
theorem dX7_isFrom_58 : decode cX7_isFrom 58 = .ok (.istore_n 3, 1) := by decide +kernel
theorem dX7_isFrom_59 : decode cX7_isFrom 59 = .ok (.iinc 4 1, 3) := by decide +kernel
theorem dX7_isFrom_62 : decode cX7_isFrom 62 = .ok (.goto (-46), 3) := by decide +kernel
theorem dX7_isFrom_65 : decode cX7_isFrom 65 = .ok (.iload_n 3, 1) := by decide +kernel
theorem dX7_isFrom_66 : decode cX7_isFrom 66 = .ok (.ireturn, 1) := by decide +kernel
theorem dX7_isLetterB_0 : decode cX7_isLetterB 0 = .ok (.iconst 0, 1) := by decide +kernel
theorem dX7_isLetterB_1 : decode cX7_isLetterB 1 = .ok (.istore_n 3, 1) := by decide +kernel
theorem dX7_isLetterB_2 : decode cX7_isLetterB 2 = .ok (.iconst 1, 1) := by decide +kernel
theorem dX7_isLetterB_3 : decode cX7_isLetterB 3 = .ok (.istore 4, 2) := by decide +kernel
theorem dX7_isLetterB_5 : decode cX7_isLetterB 5 = .ok (.iload_n 1, 1) := by decide +kernel
theorem dX7_isLetterB_6 : decode cX7_isLetterB 6 = .ok (.istore 5, 2) := by decide +kernel
theorem dX7_isLetterB_8 : decode cX7_isLetterB 8 = .ok (.iload 5, 2) := by decide +kernel
theorem dX7_isLetterB_10 : decode cX7_isLetterB 10 = .ok (.iload_n 2, 1) := by decide +kernel
theorem dX7_isLetterB_11 : decode cX7_isLetterB 11 = .ok (.if_icmp .ge 57, 3) := by decide +kernel
theorem dX7_isLetterB_14 : decode cX7_isLetterB 14 = .ok (.aload_n 0, 1) := by decide +kernel
theorem dX7_isLetterB_15 : decode cX7_isLetterB 15 = .ok (.iload 5, 2) := by decide +kernel
theorem dX7_isLetterB_17 : decode cX7_isLetterB 17 = .ok (.invokevirtual 209, 3) := by decide +kernel
theorem dX7_isLetterB_20 : decode cX7_isLetterB 20 = .ok (.istore 6, 2) := by decide +kernel
theorem dX7_isLetterB_22 : decode cX7_isLetterB 22 = .ok (.iload 6, 2) := by decide +kernel
theorem dX7_isLetterB_24 : decode cX7_isLetterB 24 = .ok (.invokestatic 303, 3) := by decide +kernel
theorem dX7_isLetterB_27 : decode cX7_isLetterB 27 = .ok (.ifCond .ne 35, 3) := by decide +kernel
theorem dX7_isLetterB_30 : decode cX7_isLetterB 30 = .ok (.iload 6, 2) := by decide +kernel
theorem dX7_isLetterB_32 : decode cX7_isLetterB 32 = .ok (.bipush 10, 2) := by decide +kernel
theorem dX7_isLetterB_34 : decode cX7_isLetterB 34 = .ok (.if_icmp .ne 6, 3) := by decide +kernel
theorem dX7_isLetterB_37 : decode cX7_isLetterB 37 = .ok (.goto 25, 3) := by decide +kernel
theorem dX7_isLetterB_40 : decode cX7_isLetterB 40 = .ok (.iinc 3 1, 3) := by decide +kernel
theorem dX7_isLetterB_43 : decode cX7_isLetterB 43 = .ok (.iload 4, 2) := by decide +kernel
theorem dX7_isLetterB_45 : decode cX7_isLetterB 45 = .ok (.ifCond .eq 14, 3) := by decide +kernel
theorem dX7_isLetterB_48 : decode cX7_isLetterB 48 = .ok (.iload 6, 2) := by decide +kernel
theorem dX7_isLetterB_50 : decode cX7_isLetterB 50 = .ok (.bipush 98, 2) := by decide +kernel
theorem dX7_isLetterB_52 : decode cX7_isLetterB 52 = .ok (.if_icmp .ne 7, 3) := by decide +kernel
theorem dX7_isLetterB_55 : decode cX7_isLetterB 55 = .ok (.iconst 1, 1) := by decide +kernel
theorem dX7_isLetterB_56 : decode cX7_isLetterB 56 = .ok (.goto 4, 3) := by decide +kernel
theorem dX7_isLetterB_59 : decode cX7_isLetterB 59 = .ok (.iconst 0, 1) := by decide +kernel
theorem dX7_isLetterB_60 : decode cX7_isLetterB 60 = .ok (.istore 4, 2) := by decide +kernel
theorem dX7_isLetterB_62 : decode cX7_isLetterB 62 = .ok (.iinc 5 1, 3) := by decide +kernel
theorem dX7_isLetterB_65 : decode cX7_isLetterB 65 = .ok (.goto (-57), 3) := by decide +kernel
theorem dX7_isLetterB_68 : decode cX7_isLetterB 68 = .ok (.iload 4, 2) := by decide +kernel
theorem dX7_isLetterB_70 : decode cX7_isLetterB 70 = .ok (.ifCond .eq 12, 3) := by decide +kernel
theorem dX7_isLetterB_73 : decode cX7_isLetterB 73 = .ok (.iload_n 3, 1) := by decide +kernel
theorem dX7_isLetterB_74 : decode cX7_isLetterB 74 = .ok (.iconst 1, 1) := by decide +kernel
theorem dX7_isLetterB_75 : decode cX7_isLetterB 75 = .ok (.if_icmp .ne 7, 3) := by decide +kernel
theorem dX7_isLetterB_78 : decode cX7_isLetterB 78 = .ok (.iconst 1, 1) := by decide +kernel
theorem dX7_isLetterB_79 : decode cX7_isLetterB 79 = .ok (.goto 4, 3) := by decide +kernel
theorem dX7_isLetterB_82 : decode cX7_isLetterB 82 = .ok (.iconst 0, 1) := by decide +kernel
theorem dX7_isLetterB_83 : decode cX7_isLetterB 83 = .ok (.ireturn, 1) := by decide +kernel
theorem dX7_isNumberOrMisses_0 : decode cX7_isNumberOrMisses 0 = .ok (.aload_n 0, 1) := by decide +kernel
theorem dX7_isNumberOrMisses_1 : decode cX7_isNumberOrMisses 1 = .ok (.getfield 14, 3) := by decide +kernel
theorem dX7_isNumberOrMisses_4 : decode cX7_isNumberOrMisses 4 = .ok (.aload_n 1, 1) := by decide +kernel
theorem dX7_isNumberOrMisses_5 : decode cX7_isNumberOrMisses 5 = .ok (.invokevirtual 115, 3) := by decide +kernel
theorem dX7_isNumberOrMisses_8 : decode cX7_isNumberOrMisses 8 = .ok (.ifCond .eq 14, 3) := by decide +kernel
theorem dX7_isNumberOrMisses_11 : decode cX7_isNumberOrMisses 11 = .ok (.aload_n 0, 1) := by decide +kernel
theorem dX7_isNumberOrMisses_12 : decode cX7_isNumberOrMisses 12 = .ok (.getfield 14, 3) := by decide +kernel
theorem dX7_isNumberOrMisses_15 : decode cX7_isNumberOrMisses 15 = .ok (.aload_n 1, 1) := by decide +kernel
theorem dX7_isNumberOrMisses_16 : decode cX7_isNumberOrMisses 16 = .ok (.invokevirtual 119, 3) := by decide +kernel
theorem dX7_isNumberOrMisses_19 : decode cX7_isNumberOrMisses 19 = .ok (.ifCond .lt 7, 3) := by decide +kernel
theorem dX7_isNumberOrMisses_22 : decode cX7_isNumberOrMisses 22 = .ok (.iconst 1, 1) := by decide +kernel
theorem dX7_isNumberOrMisses_23 : decode cX7_isNumberOrMisses 23 = .ok (.goto 4, 3) := by decide +kernel
theorem dX7_isNumberOrMisses_26 : decode cX7_isNumberOrMisses 26 = .ok (.iconst 0, 1) := by decide +kernel
theorem dX7_isNumberOrMisses_27 : decode cX7_isNumberOrMisses 27 = .ok (.ireturn, 1) := by decide +kernel
theorem dX7_isWell_0 : decode cX7_isWell 0 = .ok (.aload_n 0, 1) := by decide +kernel
theorem dX7_isWell_1 : decode cX7_isWell 1 = .ok (.getfield 14, 3) := by decide +kernel
theorem dX7_isWell_4 : decode cX7_isWell 4 = .ok (.aload_n 1, 1) := by decide +kernel
theorem dX7_isWell_5 : decode cX7_isWell 5 = .ok (.getfield 142, 3) := by decide +kernel
theorem dX7_isWell_8 : decode cX7_isWell 8 = .ok (.aload_n 1, 1) := by decide +kernel
theorem dX7_isWell_9 : decode cX7_isWell 9 = .ok (.getfield 143, 3) := by decide +kernel
theorem dX7_isWell_12 : decode cX7_isWell 12 = .ok (.iload_n 2, 1) := by decide +kernel
theorem dX7_isWell_13 : decode cX7_isWell 13 = .ok (.iaload, 1) := by decide +kernel
theorem dX7_isWell_14 : decode cX7_isWell 14 = .ok (.iconst 1, 1) := by decide +kernel
theorem dX7_isWell_15 : decode cX7_isWell 15 = .ok (.iadd, 1) := by decide +kernel
theorem dX7_isWell_16 : decode cX7_isWell 16 = .ok (.aload_n 1, 1) := by decide +kernel
theorem dX7_isWell_17 : decode cX7_isWell 17 = .ok (.getfield 147, 3) := by decide +kernel
theorem dX7_isWell_20 : decode cX7_isWell 20 = .ok (.iload_n 2, 1) := by decide +kernel
theorem dX7_isWell_21 : decode cX7_isWell 21 = .ok (.iaload, 1) := by decide +kernel
theorem dX7_isWell_22 : decode cX7_isWell 22 = .ok (.invokevirtual 150, 3) := by decide +kernel
theorem dX7_isWell_25 : decode cX7_isWell 25 = .ok (.ifCond .ne 5, 3) := by decide +kernel
theorem dX7_isWell_28 : decode cX7_isWell 28 = .ok (.iconst 0, 1) := by decide +kernel
theorem dX7_isWell_29 : decode cX7_isWell 29 = .ok (.ireturn, 1) := by decide +kernel
theorem dX7_isWell_30 : decode cX7_isWell 30 = .ok (.aload_n 0, 1) := by decide +kernel
theorem dX7_isWell_31 : decode cX7_isWell 31 = .ok (.getfield 14, 3) := by decide +kernel
theorem dX7_isWell_34 : decode cX7_isWell 34 = .ok (.ldc 154, 2) := by decide +kernel
theorem dX7_isWell_36 : decode cX7_isWell 36 = .ok (.ldc 156, 2) := by decide +kernel
theorem dX7_isWell_38 : decode cX7_isWell 38 = .ok (.invokevirtual 158, 3) := by decide +kernel
theorem dX7_isWell_41 : decode cX7_isWell 41 = .ok (.ifCond .eq 113, 3) := by decide +kernel
theorem dX7_isWell_44 : decode cX7_isWell 44 = .ok (.aload_n 0, 1) := by decide +kernel
theorem dX7_isWell_45 : decode cX7_isWell 45 = .ok (.getfield 14, 3) := by decide +kernel
theorem dX7_isWell_48 : decode cX7_isWell 48 = .ok (.ldc 162, 2) := by decide +kernel
theorem dX7_isWell_50 : decode cX7_isWell 50 = .ok (.ldc 164, 2) := by decide +kernel
theorem dX7_isWell_52 : decode cX7_isWell 52 = .ok (.invokevirtual 158, 3) := by decide +kernel
theorem dX7_isWell_55 : decode cX7_isWell 55 = .ok (.ifCond .eq 99, 3) := by decide +kernel
theorem dX7_isWell_58 : decode cX7_isWell 58 = .ok (.aload_n 0, 1) := by decide +kernel
theorem dX7_isWell_59 : decode cX7_isWell 59 = .ok (.getfield 14, 3) := by decide +kernel
theorem dX7_isWell_62 : decode cX7_isWell 62 = .ok (.ldc 101, 2) := by decide +kernel
theorem dX7_isWell_64 : decode cX7_isWell 64 = .ok (.invokevirtual 166, 3) := by decide +kernel
theorem dX7_isWell_67 : decode cX7_isWell 67 = .ok (.ifCond .eq 87, 3) := by decide +kernel
theorem dX7_isWell_70 : decode cX7_isWell 70 = .ok (.aload_n 0, 1) := by decide +kernel
theorem dX7_isWell_71 : decode cX7_isWell 71 = .ok (.getfield 14, 3) := by decide +kernel
theorem dX7_isWell_74 : decode cX7_isWell 74 = .ok (.ldc 169, 2) := by decide +kernel
theorem dX7_isWell_76 : decode cX7_isWell 76 = .ok (.invokevirtual 166, 3) := by decide +kernel
theorem dX7_isWell_79 : decode cX7_isWell 79 = .ok (.ifCond .eq 75, 3) := by decide +kernel
theorem dX7_isWell_82 : decode cX7_isWell 82 = .ok (.aload_n 0, 1) := by decide +kernel
theorem dX7_isWell_83 : decode cX7_isWell 83 = .ok (.getfield 14, 3) := by decide +kernel
theorem dX7_isWell_86 : decode cX7_isWell 86 = .ok (.ldc 171, 2) := by decide +kernel
theorem dX7_isWell_88 : decode cX7_isWell 88 = .ok (.aload_n 0, 1) := by decide +kernel
theorem dX7_isWell_89 : decode cX7_isWell 89 = .ok (.getfield 33, 3) := by decide +kernel
theorem dX7_isWell_92 : decode cX7_isWell 92 = .ok (.bipush 32, 2) := by decide +kernel
theorem dX7_isWell_94 : decode cX7_isWell 94 = .ok (.invokevirtual 173, 3) := by decide +kernel
theorem dX7_isWell_97 : decode cX7_isWell 97 = .ok (.ifCond .eq 57, 3) := by decide +kernel
theorem dX7_isWell_100 : decode cX7_isWell 100 = .ok (.aload_n 0, 1) := by decide +kernel
theorem dX7_isWell_101 : decode cX7_isWell 101 = .ok (.getfield 14, 3) := by decide +kernel
theorem dX7_isWell_104 : decode cX7_isWell 104 = .ok (.ldc 177, 2) := by decide +kernel
theorem dX7_isWell_106 : decode cX7_isWell 106 = .ok (.aload_n 0, 1) := by decide +kernel
theorem dX7_isWell_107 : decode cX7_isWell 107 = .ok (.getfield 36, 3) := by decide +kernel
theorem dX7_isWell_110 : decode cX7_isWell 110 = .ok (.bipush 64, 2) := by decide +kernel
theorem dX7_isWell_112 : decode cX7_isWell 112 = .ok (.invokevirtual 173, 3) := by decide +kernel
theorem dX7_isWell_115 : decode cX7_isWell 115 = .ok (.ifCond .eq 39, 3) := by decide +kernel
theorem dX7_isWell_118 : decode cX7_isWell 118 = .ok (.aload_n 0, 1) := by decide +kernel
theorem dX7_isWell_119 : decode cX7_isWell 119 = .ok (.invokevirtual 179, 3) := by decide +kernel
theorem dX7_isWell_122 : decode cX7_isWell 122 = .ok (.ifCond .eq 32, 3) := by decide +kernel
theorem dX7_isWell_125 : decode cX7_isWell 125 = .ok (.aload_n 0, 1) := by decide +kernel
theorem dX7_isWell_126 : decode cX7_isWell 126 = .ok (.invokevirtual 182, 3) := by decide +kernel
theorem dX7_isWell_129 : decode cX7_isWell 129 = .ok (.ifCond .eq 25, 3) := by decide +kernel
theorem dX7_isWell_132 : decode cX7_isWell 132 = .ok (.aload_n 0, 1) := by decide +kernel
theorem dX7_isWell_133 : decode cX7_isWell 133 = .ok (.ldc 185, 2) := by decide +kernel
theorem dX7_isWell_135 : decode cX7_isWell 135 = .ok (.invokevirtual 187, 3) := by decide +kernel
theorem dX7_isWell_138 : decode cX7_isWell 138 = .ok (.ifCond .eq 16, 3) := by decide +kernel
theorem dX7_isWell_141 : decode cX7_isWell 141 = .ok (.aload_n 0, 1) := by decide +kernel
theorem dX7_isWell_142 : decode cX7_isWell 142 = .ok (.ldc 113, 2) := by decide +kernel
theorem dX7_isWell_144 : decode cX7_isWell 144 = .ok (.invokevirtual 187, 3) := by decide +kernel
theorem dX7_isWell_147 : decode cX7_isWell 147 = .ok (.ifCond .eq 7, 3) := by decide +kernel
theorem dX7_isWell_150 : decode cX7_isWell 150 = .ok (.iconst 1, 1) := by decide +kernel
theorem dX7_isWell_151 : decode cX7_isWell 151 = .ok (.goto 4, 3) := by decide +kernel
theorem dX7_isWell_154 : decode cX7_isWell 154 = .ok (.iconst 0, 1) := by decide +kernel
theorem dX7_isWell_155 : decode cX7_isWell 155 = .ok (.ireturn, 1) := by decide +kernel
theorem dX7_readPlainness_0 : decode cX7_readPlainness 0 = .ok (.aload_n 0, 1) := by decide +kernel
theorem dX7_readPlainness_1 : decode cX7_readPlainness 1 = .ok (.iconst 0, 1) := by decide +kernel
theorem dX7_readPlainness_2 : decode cX7_readPlainness 2 = .ok (.putfield 74, 3) := by decide +kernel
theorem dX7_readPlainness_5 : decode cX7_readPlainness 5 = .ok (.aload_n 0, 1) := by decide +kernel
theorem dX7_readPlainness_6 : decode cX7_readPlainness 6 = .ok (.iconst 0, 1) := by decide +kernel
theorem dX7_readPlainness_7 : decode cX7_readPlainness 7 = .ok (.putfield 78, 3) := by decide +kernel
theorem dX7_readPlainness_10 : decode cX7_readPlainness 10 = .ok (.aload_n 0, 1) := by decide +kernel
theorem dX7_readPlainness_11 : decode cX7_readPlainness 11 = .ok (.getfield 14, 3) := by decide +kernel
theorem dX7_readPlainness_14 : decode cX7_readPlainness 14 = .ok (.ldc 190, 2) := by decide +kernel
theorem dX7_readPlainness_16 : decode cX7_readPlainness 16 = .ok (.invokevirtual 115, 3) := by decide +kernel
theorem dX7_readPlainness_19 : decode cX7_readPlainness 19 = .ok (.ifCond .ne 5, 3) := by decide +kernel
theorem dX7_readPlainness_22 : decode cX7_readPlainness 22 = .ok (.iconst 1, 1) := by decide +kernel
theorem dX7_readPlainness_23 : decode cX7_readPlainness 23 = .ok (.ireturn, 1) := by decide +kernel
theorem dX7_readPlainness_24 : decode cX7_readPlainness 24 = .ok (.aload_n 0, 1) := by decide +kernel
theorem dX7_readPlainness_25 : decode cX7_readPlainness 25 = .ok (.getfield 14, 3) := by decide +kernel
theorem dX7_readPlainness_28 : decode cX7_readPlainness 28 = .ok (.ldc 190, 2) := by decide +kernel
theorem dX7_readPlainness_30 : decode cX7_readPlainness 30 = .ok (.invokevirtual 106, 3) := by decide +kernel
theorem dX7_readPlainness_33 : decode cX7_readPlainness 33 = .ok (.istore_n 1, 1) := by decide +kernel
theorem dX7_readPlainness_34 : decode cX7_readPlainness 34 = .ok (.aload_n 0, 1) := by decide +kernel
theorem dX7_readPlainness_35 : decode cX7_readPlainness 35 = .ok (.getfield 14, 3) := by decide +kernel
theorem dX7_readPlainness_38 : decode cX7_readPlainness 38 = .ok (.ldc 190, 2) := by decide +kernel
theorem dX7_readPlainness_40 : decode cX7_readPlainness 40 = .ok (.invokevirtual 103, 3) := by decide +kernel
theorem dX7_readPlainness_43 : decode cX7_readPlainness 43 = .ok (.istore_n 2, 1) := by decide +kernel
theorem dX7_readPlainness_44 : decode cX7_readPlainness 44 = .ok (.aload_n 0, 1) := by decide +kernel
theorem dX7_readPlainness_45 : decode cX7_readPlainness 45 = .ok (.getfield 14, 3) := by decide +kernel
theorem dX7_readPlainness_48 : decode cX7_readPlainness 48 = .ok (.getfield 98, 3) := by decide +kernel
theorem dX7_readPlainness_51 : decode cX7_readPlainness 51 = .ok (.bipush 47, 2) := by decide +kernel
theorem dX7_readPlainness_53 : decode cX7_readPlainness 53 = .ok (.iload_n 2, 1) := by decide +kernel
theorem dX7_readPlainness_54 : decode cX7_readPlainness 54 = .ok (.iload_n 1, 1) := by decide +kernel
theorem dX7_readPlainness_55 : decode cX7_readPlainness 55 = .ok (.invokevirtual 192, 3) := by decide +kernel
theorem dX7_readPlainness_58 : decode cX7_readPlainness 58 = .ok (.istore_n 3, 1) := by decide +kernel
theorem dX7_readPlainness_59 : decode cX7_readPlainness 59 = .ok (.aload_n 0, 1) := by decide +kernel
theorem dX7_readPlainness_60 : decode cX7_readPlainness 60 = .ok (.aload_n 0, 1) := by decide +kernel
theorem dX7_readPlainness_61 : decode cX7_readPlainness 61 = .ok (.getfield 14, 3) := by decide +kernel
theorem dX7_readPlainness_64 : decode cX7_readPlainness 64 = .ok (.getfield 98, 3) := by decide +kernel
theorem dX7_readPlainness_67 : decode cX7_readPlainness 67 = .ok (.iload_n 2, 1) := by decide +kernel
theorem dX7_readPlainness_68 : decode cX7_readPlainness 68 = .ok (.iload_n 3, 1) := by decide +kernel
theorem dX7_readPlainness_69 : decode cX7_readPlainness 69 = .ok (.ldc 196, 2) := by decide +kernel
theorem dX7_readPlainness_71 : decode cX7_readPlainness 71 = .ok (.invokevirtual 198, 3) := by decide +kernel
theorem dX7_readPlainness_74 : decode cX7_readPlainness 74 = .ok (.putfield 74, 3) := by decide +kernel
theorem dX7_readPlainness_77 : decode cX7_readPlainness 77 = .ok (.aload_n 0, 1) := by decide +kernel
theorem dX7_readPlainness_78 : decode cX7_readPlainness 78 = .ok (.aload_n 0, 1) := by decide +kernel
theorem dX7_readPlainness_79 : decode cX7_readPlainness 79 = .ok (.getfield 14, 3) := by decide +kernel
theorem dX7_readPlainness_82 : decode cX7_readPlainness 82 = .ok (.getfield 98, 3) := by decide +kernel
theorem dX7_readPlainness_85 : decode cX7_readPlainness 85 = .ok (.iload_n 3, 1) := by decide +kernel
theorem dX7_readPlainness_86 : decode cX7_readPlainness 86 = .ok (.iload_n 1, 1) := by decide +kernel
theorem dX7_readPlainness_87 : decode cX7_readPlainness 87 = .ok (.ldc 201, 2) := by decide +kernel
theorem dX7_readPlainness_89 : decode cX7_readPlainness 89 = .ok (.invokevirtual 198, 3) := by decide +kernel
theorem dX7_readPlainness_92 : decode cX7_readPlainness 92 = .ok (.putfield 78, 3) := by decide +kernel
theorem dX7_readPlainness_95 : decode cX7_readPlainness 95 = .ok (.aload_n 0, 1) := by decide +kernel
theorem dX7_readPlainness_96 : decode cX7_readPlainness 96 = .ok (.getfield 74, 3) := by decide +kernel
theorem dX7_readPlainness_99 : decode cX7_readPlainness 99 = .ok (.ifCond .ne 20, 3) := by decide +kernel
theorem dX7_readPlainness_102 : decode cX7_readPlainness 102 = .ok (.aload_n 0, 1) := by decide +kernel
theorem dX7_readPlainness_103 : decode cX7_readPlainness 103 = .ok (.getfield 14, 3) := by decide +kernel
theorem dX7_readPlainness_106 : decode cX7_readPlainness 106 = .ok (.getfield 98, 3) := by decide +kernel
theorem dX7_readPlainness_109 : decode cX7_readPlainness 109 = .ok (.iload_n 2, 1) := by decide +kernel
theorem dX7_readPlainness_110 : decode cX7_readPlainness 110 = .ok (.iload_n 3, 1) := by decide +kernel
theorem dX7_readPlainness_111 : decode cX7_readPlainness 111 = .ok (.ldc 203, 2) := by decide +kernel
theorem dX7_readPlainness_113 : decode cX7_readPlainness 113 = .ok (.invokevirtual 198, 3) := by decide +kernel
theorem dX7_readPlainness_116 : decode cX7_readPlainness 116 = .ok (.ifCond .eq 36, 3) := by decide +kernel
theorem dX7_readPlainness_119 : decode cX7_readPlainness 119 = .ok (.aload_n 0, 1) := by decide +kernel
theorem dX7_readPlainness_120 : decode cX7_readPlainness 120 = .ok (.getfield 78, 3) := by decide +kernel
theorem dX7_readPlainness_123 : decode cX7_readPlainness 123 = .ok (.ifCond .ne 25, 3) := by decide +kernel
theorem dX7_readPlainness_126 : decode cX7_readPlainness 126 = .ok (.iload_n 3, 1) := by decide +kernel
theorem dX7_readPlainness_127 : decode cX7_readPlainness 127 = .ok (.iload_n 1, 1) := by decide +kernel
theorem dX7_readPlainness_128 : decode cX7_readPlainness 128 = .ok (.if_icmp .eq 20, 3) := by decide +kernel
theorem dX7_readPlainness_131 : decode cX7_readPlainness 131 = .ok (.aload_n 0, 1) := by decide +kernel
theorem dX7_readPlainness_132 : decode cX7_readPlainness 132 = .ok (.getfield 14, 3) := by decide +kernel
theorem dX7_readPlainness_135 : decode cX7_readPlainness 135 = .ok (.getfield 98, 3) := by decide +kernel
theorem dX7_readPlainness_138 : decode cX7_readPlainness 138 = .ok (.iload_n 3, 1) := by decide +kernel
theorem dX7_readPlainness_139 : decode cX7_readPlainness 139 = .ok (.iload_n 1, 1) := by decide +kernel
theorem dX7_readPlainness_140 : decode cX7_readPlainness 140 = .ok (.ldc 205, 2) := by decide +kernel
theorem dX7_readPlainness_142 : decode cX7_readPlainness 142 = .ok (.invokevirtual 198, 3) := by decide +kernel
theorem dX7_readPlainness_145 : decode cX7_readPlainness 145 = .ok (.ifCond .eq 7, 3) := by decide +kernel
theorem dX7_readPlainness_148 : decode cX7_readPlainness 148 = .ok (.iconst 1, 1) := by decide +kernel
theorem dX7_readPlainness_149 : decode cX7_readPlainness 149 = .ok (.goto 4, 3) := by decide +kernel
theorem dX7_readPlainness_152 : decode cX7_readPlainness 152 = .ok (.iconst 0, 1) := by decide +kernel
theorem dX7_readPlainness_153 : decode cX7_readPlainness 153 = .ok (.ireturn, 1) := by decide +kernel
theorem kt_305 : Cond.methodLink RX7 209 yX0_at ∈ tb := tb_at (i := 916) (by decide +kernel) (by decide +kernel)
theorem kt_306 : Cond.methodLink RX7 303 yX0_isWhite ∈ tb := tb_at (i := 1041) (by decide +kernel) (by decide +kernel)
theorem kt_307 : Cond.fieldLink RX7 14 "PostGate$Sealer" "seal" "LPostGate$Tags;" ∈ tb := tb_at (i := 333) (by decide +kernel) (by decide +kernel)
theorem kt_308 : Cond.code yX9_has cX9_has 2 (some .boolean) ∈ tb := tb_at (i := 933) (by decide +kernel) (by decide +kernel)
theorem kt_309 : Cond.methodLink RX7 115 yX9_has ∈ tb := tb_at (i := 930) (by decide +kernel) (by decide +kernel)
theorem kt_310 : Cond.instanceMethod yX9_has ∈ tb := tb_at (i := 931) (by decide +kernel) (by decide +kernel)
theorem kt_311 : Cond.selects RX9 yX9_has yX9_has ∈ tb := tb_at (i := 932) (by decide +kernel) (by decide +kernel)
theorem kt_312 : Cond.code yX9_numberAt cX9_numberAt 3 (some .int) ∈ tb := tb_at (i := 948) (by decide +kernel) (by decide +kernel)
theorem kt_313 : Cond.methodLink RX7 119 yX9_numberAt ∈ tb := tb_at (i := 945) (by decide +kernel) (by decide +kernel)
theorem kt_314 : Cond.instanceMethod yX9_numberAt ∈ tb := tb_at (i := 946) (by decide +kernel) (by decide +kernel)
theorem kt_315 : Cond.selects RX9 yX9_numberAt yX9_numberAt ∈ tb := tb_at (i := 947) (by decide +kernel) (by decide +kernel)
theorem kt_316 : Cond.methodLink RX7 220 yX0_smallOf ∈ tb := tb_at (i := 922) (by decide +kernel) (by decide +kernel)
theorem kt_317 : Cond.methodLink RX7 223 yJ0_charAt_5068e ∈ tb := tb_at (i := 924) (by decide +kernel) (by decide +kernel)
theorem kt_318 : Cond.methodLink RX7 103 yX9_startOf ∈ tb := tb_at (i := 914) (by decide +kernel) (by decide +kernel)
theorem kt_319 : Cond.methodLink RX7 106 yX9_endOf ∈ tb := tb_at (i := 915) (by decide +kernel) (by decide +kernel)
theorem kt_320 : Cond.methodLink RX7 213 yX4_isFieldName ∈ tb := tb_at (i := 917) (by decide +kernel) (by decide +kernel)
theorem kt_321 : Cond.code yX7_isFrom cX7_isFrom 5 (some .boolean) ∈ tb := tb_at (i := 921) (by decide +kernel) (by decide +kernel)
theorem kt_322 : Cond.initialized RX7 ∈ tb := tb_at (i := 87) (by decide +kernel) (by decide +kernel)
theorem kt_323 : Cond.methodLink RX7 216 yX7_isFrom ∈ tb := tb_at (i := 918) (by decide +kernel) (by decide +kernel)
theorem kt_324 : Cond.instanceMethod yX7_isFrom ∈ tb := tb_at (i := 920) (by decide +kernel) (by decide +kernel)
theorem kt_325 : Cond.selects RX7 yX7_isFrom yX7_isFrom ∈ tb := tb_at (i := 19) (by decide +kernel) (by decide +kernel)
theorem kt_326 : Cond.fieldLink RX7 74 "PostGate$Sealer" "fieldRelaxed" "Z" ∈ tb := tb_at (i := 348) (by decide +kernel) (by decide +kernel)
theorem kt_327 : Cond.fieldLink RX7 78 "PostGate$Sealer" "bodyRelaxed" "Z" ∈ tb := tb_at (i := 349) (by decide +kernel) (by decide +kernel)
theorem kt_328 : Cond.methodLink RX7 192 yX0_find ∈ tb := tb_at (i := 934) (by decide +kernel) (by decide +kernel)
theorem kt_329 : Cond.methodLink RX7 198 yX0_is ∈ tb := tb_at (i := 936) (by decide +kernel) (by decide +kernel)
theorem kt_330 : Cond.code yX9_read cX9_read 7 (some .boolean) ∈ tb := tb_at (i := 853) (by decide +kernel) (by decide +kernel)
theorem kt_331 : Cond.methodLink RX7 150 yX9_read ∈ tb := tb_at (i := 850) (by decide +kernel) (by decide +kernel)
theorem kt_332 : Cond.instanceMethod yX9_read ∈ tb := tb_at (i := 851) (by decide +kernel) (by decide +kernel)
theorem kt_333 : Cond.selects RX9 yX9_read yX9_read ∈ tb := tb_at (i := 852) (by decide +kernel) (by decide +kernel)
theorem kt_334 : Cond.code yX9_is cX9_is 4 (some .boolean) ∈ tb := tb_at (i := 873) (by decide +kernel) (by decide +kernel)
theorem kt_335 : Cond.methodLink RX7 158 yX9_is ∈ tb := tb_at (i := 870) (by decide +kernel) (by decide +kernel)
theorem kt_336 : Cond.instanceMethod yX9_is ∈ tb := tb_at (i := 871) (by decide +kernel) (by decide +kernel)
theorem kt_337 : Cond.selects RX9 yX9_is yX9_is ∈ tb := tb_at (i := 872) (by decide +kernel) (by decide +kernel)
theorem kt_338 : Cond.code yX9_isNameAt cX9_isNameAt 2 (some .boolean) ∈ tb := tb_at (i := 885) (by decide +kernel) (by decide +kernel)
theorem kt_339 : Cond.methodLink RX7 166 yX9_isNameAt ∈ tb := tb_at (i := 882) (by decide +kernel) (by decide +kernel)
theorem kt_340 : Cond.instanceMethod yX9_isNameAt ∈ tb := tb_at (i := 883) (by decide +kernel) (by decide +kernel)
theorem kt_341 : Cond.selects RX9 yX9_isNameAt yX9_isNameAt ∈ tb := tb_at (i := 884) (by decide +kernel) (by decide +kernel)
theorem kt_342 : Cond.fieldLink RX7 33 "PostGate$Sealer" "bodySum" "LPostGate$Bytes;" ∈ tb := tb_at (i := 338) (by decide +kernel) (by decide +kernel)
theorem kt_343 : Cond.code yX9_decode cX9_decode 4 (some .boolean) ∈ tb := tb_at (i := 900) (by decide +kernel) (by decide +kernel)
theorem kt_344 : Cond.methodLink RX7 173 yX9_decode ∈ tb := tb_at (i := 897) (by decide +kernel) (by decide +kernel)
theorem kt_345 : Cond.instanceMethod yX9_decode ∈ tb := tb_at (i := 898) (by decide +kernel) (by decide +kernel)
theorem kt_346 : Cond.selects RX9 yX9_decode yX9_decode ∈ tb := tb_at (i := 899) (by decide +kernel) (by decide +kernel)
theorem kt_347 : Cond.fieldLink RX7 36 "PostGate$Sealer" "signature" "LPostGate$Bytes;" ∈ tb := tb_at (i := 339) (by decide +kernel) (by decide +kernel)
theorem kt_348 : Cond.code yX7_isFieldList cX7_isFieldList 5 (some .boolean) ∈ tb := tb_at (i := 912) (by decide +kernel) (by decide +kernel)
theorem kt_349 : Cond.methodLink RX7 179 yX7_isFieldList ∈ tb := tb_at (i := 909) (by decide +kernel) (by decide +kernel)
theorem kt_350 : Cond.instanceMethod yX7_isFieldList ∈ tb := tb_at (i := 911) (by decide +kernel) (by decide +kernel)
theorem kt_351 : Cond.selects RX7 yX7_isFieldList yX7_isFieldList ∈ tb := tb_at (i := 18) (by decide +kernel) (by decide +kernel)
theorem kt_352 : Cond.code yX7_readPlainness cX7_readPlainness 4 (some .boolean) ∈ tb := tb_at (i := 928) (by decide +kernel) (by decide +kernel)
theorem kt_353 : Cond.methodLink RX7 182 yX7_readPlainness ∈ tb := tb_at (i := 925) (by decide +kernel) (by decide +kernel)
theorem kt_354 : Cond.instanceMethod yX7_readPlainness ∈ tb := tb_at (i := 927) (by decide +kernel) (by decide +kernel)
theorem kt_355 : Cond.selects RX7 yX7_readPlainness yX7_readPlainness ∈ tb := tb_at (i := 20) (by decide +kernel) (by decide +kernel)
theorem kt_356 : Cond.code yX7_isNumberOrMisses cX7_isNumberOrMisses 2 (some .boolean) ∈ tb := tb_at (i := 944) (by decide +kernel) (by decide +kernel)
theorem kt_357 : Cond.methodLink RX7 187 yX7_isNumberOrMisses ∈ tb := tb_at (i := 941) (by decide +kernel) (by decide +kernel)
theorem kt_358 : Cond.instanceMethod yX7_isNumberOrMisses ∈ tb := tb_at (i := 943) (by decide +kernel) (by decide +kernel)
theorem kt_359 : Cond.selects RX7 yX7_isNumberOrMisses yX7_isNumberOrMisses ∈ tb := tb_at (i := 21) (by decide +kernel) (by decide +kernel)
theorem kn_7 : Cond.fieldLinkNest RX7 98 "PostGate$Tags" "text" "LPostGate$Bytes;" "PostGate" ∈ nw := nw_at (i := 194) (by decide +kernel) rfl
theorem kn_8 : Cond.fieldLinkNest RX7 142 "PostGate$Message" "text" "LPostGate$Bytes;" "PostGate" ∈ nw := nw_at (i := 351) (by decide +kernel) rfl
theorem kn_9 : Cond.fieldLinkNest RX7 143 "PostGate$Message" "colons" "[I" "PostGate" ∈ nw := nw_at (i := 355) (by decide +kernel) rfl
theorem kn_10 : Cond.fieldLinkNest RX7 147 "PostGate$Message" "ends" "[I" "PostGate" ∈ nw := nw_at (i := 359) (by decide +kernel) rfl
theorem bitF {r : Int32} (h : r = 0 ∨ r = 1) : fits .boolean (.int r) = true := by
  rcases h with h | h <;> subst h <;> rfl
theorem fndB {n t B : Nat} {r : Int32} (h : r = nI t ∨ ∃ j : Nat, j < n ∧ r = nI j) (ht : t ≤ B) (hn : n ≤ B) : ∃ k : Nat, k ≤ B ∧ r = nI k := by
  rcases h with h | ⟨j, hj, h⟩
  · exact ⟨t, ht, h⟩
  · exact ⟨j, by omega, h⟩
theorem dn_pos {i : Int32} {z : Nat} (h : ∃ j : Nat, j ≤ z ∧ i = nI j - 1) (c : ¬ i < 0) : ∃ k : Nat, k < z ∧ i = nI k := by
  obtain ⟨j, hj, e⟩ := h
  rcases Nat.eq_zero_or_pos j with q | q
  · subst q
    rw [e] at c
    exact absurd (by decide) c
  · refine ⟨j - 1, by omega, ?_⟩
    rw [e]
    exact pk_sub (b := 1) q
theorem dn_st (k : Nat) : nI k + Int32.ofInt (-1) = nI k - 1 := by
  rw [Int32.sub_eq_add_neg]
  rfl
theorem dn_mu {k : Nat} (hk : k ≤ 10000) : ((nI k + Int32.ofInt (-1)).toInt + 1).toNat < ((nI k).toInt + 1).toNat := by
  have h1 : (nI k).toInt = k := nI_toInt (by omega)
  have h2 : (nI k + Int32.ofInt (-1)).toInt = (k : Int) - 1 := by
    rw [Int32.toInt_add, h1, show (Int32.ofInt (-1)).toInt = -1 from by decide]
    exact Int.bmod_eq_of_le (by omega) (by omega)
  omega
set_option maxHeartbeats 4000000 in
set_option maxRecDepth 100000 in
theorem s_X7_isLetterB (l : Launch) (dC : Nat → ClassId) (dI : Nat → Nat → Nat) (cs : Nat → ClassId) (ty : TyM) (L : List Nat) (sz : Nat) (F : Nat → va_E) (g1 : Nat) (σ : Nat) (r1 : Nat) (n1 : Nat) (x1 : Int32) (x2 : Int32) (hW : WT ty L) (hL_g1 : g1 ∈ L) (hT_g1 : ty g1 = (0, σ, [r1, n1])) : Met l yX7_isLetterB (.code yX7_isLetterB cX7_isLetterB 7 (some .boolean) :: tb) ({ frames := 1, cells := 0, slots := 0, locals := 21 }) (va_Pc [.ref g1, .int x1, .int x2] (PT (dC, dI) cs ty L F sz)) (va_Qi (fun (r : Int32) (_ : Unit) => (r = 0 ∨ r = 1)) (fun _ T9 => ∃ F2 : Nat → va_E, QT (dC, dI) cs ty L [] F F2 (va_A (va_pl L F) sz) T9) (va_A (va_pl L F) sz)) 0 0 (va_A (va_pl L F) sz) := by
  refine Met.ofW (cc := cX7_isLetterB) (maxL := 7) (ret := (some .boolean)) (by decide) rfl ?_
  intro p e s m args below meth c s₁ B hml hv
  obtain ⟨rfl, hsz, hP, hK, hD0, hE, hO⟩ := hv
  have hx := B.exec
  have hb := B.bytes
  have hr := B.returns
  have hts : ∀ w ∈ tb, w.before _ s = true := fun w h => atoms_spec (ws := .code yX7_isLetterB cX7_isLetterB 7 (some .boolean) :: tb) B.pre w (List.mem_cons_of_mem _ h)
  have hown : s.vm.findClass RX7 = some m.cls := findClass_of_methodNamed B.named
  have hlocks := B.notSynchronized
  subst hsz
  have hD := hD0.self (sz := s.heap.size)
  generalize hAe : va_A (va_pl L F) s.heap.size = A at hD ⊢
  have hA : ∀ q : Nat, s.heap.size ≤ q → A q := fun q h => by rw [← hAe]; exact Or.inr h
  have hS : va_S A s.heap s.heap [] := va_S.rf
  have hR : FR ty [] F F := FR.refl
  have hl := lv_entry ([.ref g1, .int x1, .int x2]) (n := 7) (Nat.le_of_ble_eq_true rfl)
  rw [lg_entry_eq]
  generalize (lg_sl ([.ref g1, .int x1, .int x2]) ++ List.replicate (7 - (lg_sl ([.ref g1, .int x1, .int x2])).length) Slot.unset).toArray = ls at hl ⊢
  have hl : lv_has ls 7 [(0, .ref g1), (1, .int x1), (2, .int x2)] := hl
  refine lv_iconst (v := 0) hx hb dX7_isLetterB_0 (by decide) ?_
  refine lv_istore_n (lv' := [(3, .int 0), (0, .ref g1), (1, .int x1), (2, .int x2)]) hx hb dX7_isLetterB_1 rfl hl (by decide) rfl (fun ls hl => ?_)
  refine lv_iconst (v := 1) hx hb dX7_isLetterB_2 (by decide) ?_
  refine lv_istore (lv' := [(4, .int 1), (3, .int 0), (0, .ref g1), (1, .int x1), (2, .int x2)]) hx hb dX7_isLetterB_3 hl (by decide) rfl (fun ls hl => ?_)
  refine lv_iload_n hx hb dX7_isLetterB_5 rfl (lv_at hl 3 rfl) ?_
  refine lv_istore (lv' := [(5, .int x1), (4, .int 1), (3, .int 0), (0, .ref g1), (1, .int x1), (2, .int x2)]) hx hb dX7_isLetterB_6 hl (by decide) rfl (fun ls hl => ?_)
  refine W.widen (k := 0) (n := 0) (by omega) (by omega) ?_
  refine pl_loop (σ := Int32 × Int32 × Int32) A (dC, dI) cs ty L [] F 8 7 (fun (i1, w3, w4) => [(5, .int i1), (4, .int w4), (3, .int w3), (0, .ref g1), (1, .int x1), (2, .int x2)]) (fun (i1, w3, w4) => []) (fun (i1, w3, w4) _ => True) (fun (i1, w3, w4) => ((x2).toInt - i1.toInt).toNat) ?_ (x1, 0, 1) F (trivial) hO hR _ _ hP hD hS ls (lv_sub hl [0, 1, 2, 3, 4, 5] rfl)
  rintro ⟨i1, w3, w4⟩ F_1 hv_2 hO hR ih_3 H locs hP hD hS ls hl
  have hl : lv_has ls 7 [(5, .int i1), (4, .int w4), (3, .int w3), (0, .ref g1), (1, .int x1), (2, .int x2)] := hl
  have hv_2 : True := hv_2
  refine W.eq (g2 := F0 m 8 ls []) rfl ?_
  obtain rfl : F = F_1 := (funext (fun a => hR a List.not_mem_nil)).symm
  refine lv_iload hx hb dX7_isLetterB_8 (lv_at hl 0 rfl) ?_
  refine lv_iload_n hx hb dX7_isLetterB_10 rfl (lv_at hl 5 rfl) ?_
  refine lv_icmp_ge (tgt := 68) hx hb dX7_isLetterB_11 (by decide) (fun c_4 => ?_) (fun c_4 => ?_)
  ·
    refine lv_iload hx hb dX7_isLetterB_68 (lv_at hl 1 rfl) ?_
    refine lv_if_eq (tgt := 82) hx hb dX7_isLetterB_70 (by decide) (fun c_5 => ?_) (fun c_5 => ?_)
    ·
      refine lv_iconst (v := 0) hx hb dX7_isLetterB_82 (by decide) ?_
      refine W.widen (k := 0) (n := 0) (by omega) (by omega) ?_
      exact W.zret (v := 0) (ty := .boolean) hx hb hr (by decide) (fun t ht hWm => ⟨⟨0, (), rfl, (by first | exact Or.inl rfl | exact Or.inr rfl), ⟨F, QT.mk ht hP hD hO hR⟩⟩, hS.F ht⟩) hS.2.2 dX7_isLetterB_83
    ·
      refine lv_iload_n hx hb dX7_isLetterB_73 rfl (lv_at hl 2 rfl) ?_
      refine lv_iconst (v := 1) hx hb dX7_isLetterB_74 (by decide) ?_
      refine lv_icmp_ne (tgt := 82) hx hb dX7_isLetterB_75 (by decide) (fun c_6 => ?_) (fun c_6 => ?_)
      ·
        refine lv_iconst (v := 0) hx hb dX7_isLetterB_82 (by decide) ?_
        refine W.widen (k := 0) (n := 0) (by omega) (by omega) ?_
        exact W.zret (v := 0) (ty := .boolean) hx hb hr (by decide) (fun t ht hWm => ⟨⟨0, (), rfl, (by first | exact Or.inl rfl | exact Or.inr rfl), ⟨F, QT.mk ht hP hD hO hR⟩⟩, hS.F ht⟩) hS.2.2 dX7_isLetterB_83
      ·
        refine lv_iconst (v := 1) hx hb dX7_isLetterB_78 (by decide) ?_
        refine lv_goto (tgt := 83) hx hb dX7_isLetterB_79 (by decide) ?_
        refine W.widen (k := 0) (n := 0) (by omega) (by omega) ?_
        exact W.zret (v := 1) (ty := .boolean) hx hb hr (by decide) (fun t ht hWm => ⟨⟨1, (), rfl, (by first | exact Or.inl rfl | exact Or.inr rfl), ⟨F, QT.mk ht hP hD hO hR⟩⟩, hS.F ht⟩) hS.2.2 dX7_isLetterB_83
  ·
    refine lv_aload_n hx hb dX7_isLetterB_14 rfl (lv_at hl 3 rfl) ?_
    refine lv_iload hx hb dX7_isLetterB_15 (lv_at hl 0 rfl) ?_
    have hFc := pg_free hD hS hA
    obtain ⟨hi_7, ht_8, hq_9⟩ := hW.bytes hL_g1 hT_g1
    obtain ⟨z_10, o_11, hF_12, hq_13, hq_14⟩ := hO.bytes hL_g1 hT_g1
    refine va_calli (va_runV (As := [.int i1]) (rest := []) ⟨hx, hb, hml, hown, hts⟩ (s_X0_at l dC dI cs ty L H.size F g1 σ r1 n1 i1 hW hL_g1 hT_g1) ⟨callB_of 1 hts (gi kt_21) rfl rfl rfl (hts _ kt_1) (hts _ kt_305) (by decide +kernel) ⟨Nat.le_of_ble_eq_true rfl, Nat.le_of_ble_eq_true rfl⟩, (hts _ kt_23), (hts _ kt_24)⟩ ⟨fun a U g mk q => ⟨q.1, PT.calling q.2⟩, pg_recv hK hP hL_g1 hF_12 (q := (RX0, TX0, 3)) rfl, fun U hU hWm => ⟨rfl, PT.mk hU hWm hP hK hD hE hO⟩⟩ rfl rfl hl.1 rfl (lv_room (Nat.le_of_ble_eq_true rfl)) dX7_isLetterB_17 ⟨by show _ + 0 ≤ 0; omega, by show _ + 0 ≤ 0; omega⟩) hS (fun q _ h => hFc q h) hFc (fun r_15 u t H1 locs ht hvm hw hB hz1 hk1 hS => ?_)
    obtain ⟨F_16, hB1⟩ := hB
    obtain rfl : F = F_16 := (funext (fun a => hB1.2.2.2 a List.not_mem_nil)).symm
    obtain ⟨hP, hD, hO, hR⟩ := QT.back hB1 ht hFc hR (fun q h => absurd h List.not_mem_nil)
    generalize H1 = H at hP hS ⊢
    have hw : True := hw
    have hw_17 := hw
    refine lv_istore (lv' := [(6, .int r_15), (5, .int i1), (4, .int w4), (3, .int w3), (0, .ref g1), (1, .int x1), (2, .int x2)]) hx hb dX7_isLetterB_20 hl (by decide) rfl (fun ls hl => ?_)
    refine lv_iload hx hb dX7_isLetterB_22 (lv_at hl 0 rfl) ?_
    have hFc := pg_free hD hS hA
    refine va_calli (va_runS (As := [.int r_15]) (rest := []) ⟨hx, hb, hml, hown, hts⟩ (s_X0_isWhite l dC dI cs ty L H.size F r_15 hW ) ⟨callB_of 1 hts (gi kt_195) rfl rfl rfl (hts _ kt_1) (hts _ kt_306) (by decide +kernel) ⟨Nat.le_of_ble_eq_true rfl, Nat.le_of_ble_eq_true rfl⟩, (hts _ kt_197)⟩ ⟨fun a U g mk q => ⟨q.1, PT.calling q.2⟩, fun U hU hWm => ⟨rfl, PT.mk hU hWm hP hK hD hE hO⟩⟩ rfl rfl hl.1 rfl (lv_room (Nat.le_of_ble_eq_true rfl)) dX7_isLetterB_24 ⟨by show _ + 0 ≤ 0; omega, by show _ + 0 ≤ 0; omega⟩) hS (fun q _ h => hFc q h) hFc (fun r_18 u t H1 locs ht hvm hw hB hz1 hk1 hS => ?_)
    obtain ⟨F_19, hB1⟩ := hB
    obtain rfl : F = F_19 := (funext (fun a => hB1.2.2.2 a List.not_mem_nil)).symm
    obtain ⟨hP, hD, hO, hR⟩ := QT.back hB1 ht hFc hR (fun q h => absurd h List.not_mem_nil)
    generalize H1 = H at hP hS ⊢
    have hw : (r_18 = 0 ∨ r_18 = 1) := hw
    have hw_20 := hw
    refine lv_if_ne (tgt := 62) hx hb dX7_isLetterB_27 (by decide) (fun c_21 => ?_) (fun c_21 => ?_)
    ·
      obtain ⟨x_22, ex_22⟩ : ∃ y : Int32, y = i1 + Int32.ofInt 1 := ⟨_, rfl⟩
      refine lv_iinc (v := x_22) (lv' := [(5, .int x_22), (6, .int r_15), (4, .int w4), (3, .int w3), (0, .ref g1), (1, .int x1), (2, .int x2)]) hx hb dX7_isLetterB_62 hl (k := 1) rfl (ex_22.symm) (by decide) rfl (fun ls hl => ?_)
      refine lv_goto (tgt := 8) hx hb dX7_isLetterB_65 (by decide) ?_
      refine W.widen (k := 0) (n := 0) (by omega) (by omega) ?_
      exact ih_3 (x_22, w3, w4) F (trivial) (by show ((x2).toInt - x_22.toInt).toNat < ((x2).toInt - i1.toInt).toNat; exact incN ex_22 c_4) hO hR _ _ hP hD hS ls (lv_sub hl [0, 2, 3, 4, 5, 6] rfl)
    ·
      refine lv_iload hx hb dX7_isLetterB_30 (lv_at hl 0 rfl) ?_
      refine lv_bipush (v := 10) hx hb dX7_isLetterB_32 (by decide) ?_
      refine lv_icmp_ne (tgt := 40) hx hb dX7_isLetterB_34 (by decide) (fun c_23 => ?_) (fun c_23 => ?_)
      ·
        obtain ⟨x_24, ex_24⟩ : ∃ y : Int32, y = w3 + Int32.ofInt 1 := ⟨_, rfl⟩
        refine lv_iinc (v := x_24) (lv' := [(3, .int x_24), (6, .int r_15), (5, .int i1), (4, .int w4), (0, .ref g1), (1, .int x1), (2, .int x2)]) hx hb dX7_isLetterB_40 hl (k := 3) rfl (ex_24.symm) (by decide) rfl (fun ls hl => ?_)
        refine lv_iload hx hb dX7_isLetterB_43 (lv_at hl 3 rfl) ?_
        refine lv_if_eq (tgt := 59) hx hb dX7_isLetterB_45 (by decide) (fun c_25 => ?_) (fun c_25 => ?_)
        ·
          refine lv_iconst (v := 0) hx hb dX7_isLetterB_59 (by decide) ?_
          refine lv_istore (lv' := [(4, .int 0), (3, .int x_24), (6, .int r_15), (5, .int i1), (0, .ref g1), (1, .int x1), (2, .int x2)]) hx hb dX7_isLetterB_60 hl (by decide) rfl (fun ls hl => ?_)
          obtain ⟨x_26, ex_26⟩ : ∃ y : Int32, y = i1 + Int32.ofInt 1 := ⟨_, rfl⟩
          refine lv_iinc (v := x_26) (lv' := [(5, .int x_26), (4, .int 0), (3, .int x_24), (6, .int r_15), (0, .ref g1), (1, .int x1), (2, .int x2)]) hx hb dX7_isLetterB_62 hl (k := 3) rfl (ex_26.symm) (by decide) rfl (fun ls hl => ?_)
          refine lv_goto (tgt := 8) hx hb dX7_isLetterB_65 (by decide) ?_
          refine W.widen (k := 0) (n := 0) (by omega) (by omega) ?_
          exact ih_3 (x_26, x_24, 0) F (trivial) (by show ((x2).toInt - x_26.toInt).toNat < ((x2).toInt - i1.toInt).toNat; exact incN ex_26 c_4) hO hR _ _ hP hD hS ls (lv_sub hl [0, 1, 2, 4, 5, 6] rfl)
        ·
          refine lv_iload hx hb dX7_isLetterB_48 (lv_at hl 1 rfl) ?_
          refine lv_bipush (v := 98) hx hb dX7_isLetterB_50 (by decide) ?_
          refine lv_icmp_ne (tgt := 59) hx hb dX7_isLetterB_52 (by decide) (fun c_27 => ?_) (fun c_27 => ?_)
          ·
            refine lv_iconst (v := 0) hx hb dX7_isLetterB_59 (by decide) ?_
            refine lv_istore (lv' := [(4, .int 0), (3, .int x_24), (6, .int r_15), (5, .int i1), (0, .ref g1), (1, .int x1), (2, .int x2)]) hx hb dX7_isLetterB_60 hl (by decide) rfl (fun ls hl => ?_)
            obtain ⟨x_28, ex_28⟩ : ∃ y : Int32, y = i1 + Int32.ofInt 1 := ⟨_, rfl⟩
            refine lv_iinc (v := x_28) (lv' := [(5, .int x_28), (4, .int 0), (3, .int x_24), (6, .int r_15), (0, .ref g1), (1, .int x1), (2, .int x2)]) hx hb dX7_isLetterB_62 hl (k := 3) rfl (ex_28.symm) (by decide) rfl (fun ls hl => ?_)
            refine lv_goto (tgt := 8) hx hb dX7_isLetterB_65 (by decide) ?_
            refine W.widen (k := 0) (n := 0) (by omega) (by omega) ?_
            exact ih_3 (x_28, x_24, 0) F (trivial) (by show ((x2).toInt - x_28.toInt).toNat < ((x2).toInt - i1.toInt).toNat; exact incN ex_28 c_4) hO hR _ _ hP hD hS ls (lv_sub hl [0, 1, 2, 4, 5, 6] rfl)
          ·
            refine lv_iconst (v := 1) hx hb dX7_isLetterB_55 (by decide) ?_
            refine lv_goto (tgt := 60) hx hb dX7_isLetterB_56 (by decide) ?_
            refine lv_istore (lv' := [(4, .int 1), (3, .int x_24), (6, .int r_15), (5, .int i1), (0, .ref g1), (1, .int x1), (2, .int x2)]) hx hb dX7_isLetterB_60 hl (by decide) rfl (fun ls hl => ?_)
            obtain ⟨x_29, ex_29⟩ : ∃ y : Int32, y = i1 + Int32.ofInt 1 := ⟨_, rfl⟩
            refine lv_iinc (v := x_29) (lv' := [(5, .int x_29), (4, .int 1), (3, .int x_24), (6, .int r_15), (0, .ref g1), (1, .int x1), (2, .int x2)]) hx hb dX7_isLetterB_62 hl (k := 3) rfl (ex_29.symm) (by decide) rfl (fun ls hl => ?_)
            refine lv_goto (tgt := 8) hx hb dX7_isLetterB_65 (by decide) ?_
            refine W.widen (k := 0) (n := 0) (by omega) (by omega) ?_
            exact ih_3 (x_29, x_24, 1) F (trivial) (by show ((x2).toInt - x_29.toInt).toNat < ((x2).toInt - i1.toInt).toNat; exact incN ex_29 c_4) hO hR _ _ hP hD hS ls (lv_sub hl [0, 1, 2, 4, 5, 6] rfl)
      ·
        refine lv_goto (tgt := 62) hx hb dX7_isLetterB_37 (by decide) ?_
        obtain ⟨x_30, ex_30⟩ : ∃ y : Int32, y = i1 + Int32.ofInt 1 := ⟨_, rfl⟩
        refine lv_iinc (v := x_30) (lv' := [(5, .int x_30), (6, .int r_15), (4, .int w4), (3, .int w3), (0, .ref g1), (1, .int x1), (2, .int x2)]) hx hb dX7_isLetterB_62 hl (k := 1) rfl (ex_30.symm) (by decide) rfl (fun ls hl => ?_)
        refine lv_goto (tgt := 8) hx hb dX7_isLetterB_65 (by decide) ?_
        refine W.widen (k := 0) (n := 0) (by omega) (by omega) ?_
        exact ih_3 (x_30, w3, w4) F (trivial) (by show ((x2).toInt - x_30.toInt).toNat < ((x2).toInt - i1.toInt).toNat; exact incN ex_30 c_4) hO hR _ _ hP hD hS ls (lv_sub hl [0, 2, 3, 4, 5, 6] rfl)
set_option maxHeartbeats 4000000 in
set_option maxRecDepth 100000 in
theorem s_X7_isNumberOrMisses (l : Launch) (dC : Nat → ClassId) (dI : Nat → Nat → Nat) (cs : Nat → ClassId) (ty : TyM) (L : List Nat) (sz : Nat) (F : Nat → va_E) (h0 : Nat) (ρ : Nat) (d : Nat) (δ : Nat) (ea : Nat) (sl : Nat) (sx : Nat) (sy0 : Nat) (sy1 : Nat) (sy2 : Nat) (ke : Nat) (kx : Nat) (ky0 : Nat) (ky1 : Nat) (ky2 : Nat) (w0 : Nat) (w1 : Nat) (w2 : Nat) (w3 : Nat) (w4 : Nat) (w5 : Nat) (w6 : Nat) (w7 : Nat) (w8 : Nat) (tk : Nat) (hs : Nat) (ha : Nat) (hbb : Nat) (hcc : Nat) (pw : Nat) (px : Nat) (py : Nat) (pz : Nat) (pu : Nat) (q : Nat) (v : Nat) (k0 : Nat) (hW : WT ty L) (hL_h0 : h0 ∈ L) (hT_h0 : ty h0 = (7, ρ, [d, δ, ea, sl, sx, sy0, sy1, sy2, ke, kx, ky0, ky1, ky2, w0, w1, w2, w3, w4, w5, w6, w7, w8, tk, hs, ha, hbb, hcc, pw, px, py, pz, pu])) : Met l yX7_isNumberOrMisses (.code yX7_isNumberOrMisses cX7_isNumberOrMisses 2 (some .boolean) :: tb) ({ frames := 7, cells := 0, slots := 0, locals := 153 }) (va_Pc [.ref h0, .ref q] (PTE (dC, dI) cs ty L F sz [(q, v, k0)])) (va_Qi (fun (r : Int32) (_ : Unit) => (r = 0 ∨ r = 1)) (fun _ T9 => ∃ F2 : Nat → va_E, QT (dC, dI) cs ty L [] F F2 (va_A (va_pl L F) sz) T9) (va_A (va_pl L F) sz)) 0 0 (va_A (va_pl L F) sz) := by
  refine Met.ofW (cc := cX7_isNumberOrMisses) (maxL := 2) (ret := (some .boolean)) (by decide) rfl ?_
  intro p e s m args below meth c s₁ B hml hv
  obtain ⟨rfl, ⟨hsz, hP, hK, hD0, hE, hO⟩, hG, hX⟩ := hv
  have hx := B.exec
  have hb := B.bytes
  have hr := B.returns
  have hts : ∀ w ∈ tb, w.before _ s = true := fun w h => atoms_spec (ws := .code yX7_isNumberOrMisses cX7_isNumberOrMisses 2 (some .boolean) :: tb) B.pre w (List.mem_cons_of_mem _ h)
  have hown : s.vm.findClass RX7 = some m.cls := findClass_of_methodNamed B.named
  have hlocks := B.notSynchronized
  subst hsz
  have hD := hD0.self (sz := s.heap.size)
  generalize hAe : va_A (va_pl L F) s.heap.size = A at hD hG hX ⊢
  have hX_q : SX q v k0 A s s.heap := hX (q, v, k0) (by simp)
  obtain ⟨xo_q, xc_q, xv_q, xf_q, xt_q, xn_q⟩ := id hX_q
  have hA : ∀ q : Nat, s.heap.size ≤ q → A q := fun q h => by rw [← hAe]; exact Or.inr h
  have hS : va_S A s.heap s.heap [] := va_S.rf
  have hR : FR ty [] F F := FR.refl
  have hl := lv_entry ([.ref h0, .ref q]) (n := 2) (Nat.le_of_ble_eq_true rfl)
  rw [lg_entry_eq]
  generalize (lg_sl ([.ref h0, .ref q]) ++ List.replicate (2 - (lg_sl ([.ref h0, .ref q])).length) Slot.unset).toArray = ls at hl ⊢
  have hl : lv_has ls 2 [(0, .ref h0), (1, .ref q)] := hl
  refine lv_aload_n hx hb dX7_isNumberOrMisses_0 rfl (lv_at hl 0 rfl) ?_
  obtain ⟨hi_1, ht_2, hi_3, ht_4, hi_5, ht_6, hi_7, ⟨r_8, ht_9⟩, hi_10, ⟨r_11, ht_12⟩, hi_13, ⟨r_14, ht_15⟩, hi_16, ⟨r_17, ht_18⟩, hi_19, ⟨r_20, ht_21⟩, hi_22, ⟨r_23, ht_24⟩, hi_25, ⟨r_26, ht_27⟩, hi_28, ⟨r_29, ht_30⟩, hi_31, ⟨r_32, ht_33⟩, hi_34, ht_35, hi_36, ht_37, hi_38, ht_39⟩ := hW.slr hL_h0 hT_h0
  obtain ⟨v0_40, v1_41, hF_42⟩ := hO.slr hL_h0 hT_h0
  refine pg_get (ci := 7) (v := .ref sl) (C := RX7) (T := TX7) (N := 17) hx hb hts it_7 hown hK hP hL_h0 hF_42 rfl 1 (by decide) (hts _ kt_307) (fun _ h9 => h9) rfl dX7_isNumberOrMisses_1 ?_
  refine lv_aload_n hx hb dX7_isNumberOrMisses_4 rfl (lv_at hl 1 rfl) ?_
  have hFc := pg_free hD hS hA
  obtain ⟨hi_43, hi_44, hi_45, hi_46, ⟨r_47, ht_48⟩, ht_49, ht_50, ht_51⟩ := hW.tags hi_3 ht_4
  have ht_48 : ty sx = (0, ρ + 3, [r_47, 3000]) := ht_48
  have ht_50 : ty sy1 = (24, ρ + 72, [40]) := ht_50
  have ht_51 : ty sy2 = (24, ρ + 73, [40]) := ht_51
  obtain ⟨z_52, hF_53, hq_54⟩ := hO.tags hi_3 ht_4
  refine va_calli (va_runV (As := [.ref q]) (rest := []) ⟨hx, hb, hml, hown, hts⟩ (s_X9_has l dC dI cs ty L s.heap.size F sl (ρ + 2) sx 3000 sy0 sy1 sy2 q v k0 hW hi_3 ht_4) ⟨callB_of 1 hts (gi kt_308) rfl rfl rfl (hts _ kt_164) (hts _ kt_309) (by decide +kernel) ⟨Nat.le_of_ble_eq_true rfl, Nat.le_of_ble_eq_true rfl⟩, (hts _ kt_310), (hts _ kt_311)⟩ ⟨fun a U g mk q => ⟨q.1, PTE.calling q.2⟩, pg_recv hK hP hi_3 hF_53 (q := (RX9, TX9, 5)) rfl, fun U hU hWm => ⟨rfl, PTE.mk hU hWm hP hK hD hE hO hG (fun x hx => by rw [List.mem_singleton] at hx; subst hx; exact hX_q) hS hFc⟩⟩ rfl rfl hl.1 rfl (lv_room (Nat.le_of_ble_eq_true rfl)) dX7_isNumberOrMisses_5 ⟨by show _ + 0 ≤ 0; omega, by show _ + 0 ≤ 0; omega⟩) hS (fun q _ h => hFc q h) hFc (fun r_55 u t H1 locs ht hvm hw hB hz1 hk1 hS => ?_)
  obtain ⟨F_56, hB1⟩ := hB
  obtain rfl : F = F_56 := (funext (fun a => hB1.2.2.2 a List.not_mem_nil)).symm
  obtain ⟨hP, hD, hO, hR⟩ := QT.back hB1 ht hFc hR (fun q h => absurd h List.not_mem_nil)
  generalize H1 = H at hP hS ⊢
  have hw : (r_55 = 0 ∨ r_55 = 1) := hw
  have hw_57 := hw
  refine lv_if_eq (tgt := 22) hx hb dX7_isNumberOrMisses_8 (by decide) (fun c_58 => ?_) (fun c_58 => ?_)
  ·
    refine lv_iconst (v := 1) hx hb dX7_isNumberOrMisses_22 (by decide) ?_
    refine lv_goto (tgt := 27) hx hb dX7_isNumberOrMisses_23 (by decide) ?_
    refine W.widen (k := 0) (n := 0) (by omega) (by omega) ?_
    exact W.zret (v := 1) (ty := .boolean) hx hb hr (by decide) (fun t ht hWm => ⟨⟨1, (), rfl, (by first | exact Or.inl rfl | exact Or.inr rfl), ⟨F, QT.mk ht hP hD hO hR⟩⟩, hS.F ht⟩) hS.2.2 dX7_isNumberOrMisses_27
  ·
    refine lv_aload_n hx hb dX7_isNumberOrMisses_11 rfl (lv_at hl 0 rfl) ?_
    refine pg_get (ci := 7) (v := .ref sl) (C := RX7) (T := TX7) (N := 17) hx hb hts it_7 hown hK hP hL_h0 hF_42 rfl 1 (by decide) (hts _ kt_307) (fun _ h9 => h9) rfl dX7_isNumberOrMisses_12 ?_
    refine lv_aload_n hx hb dX7_isNumberOrMisses_15 rfl (lv_at hl 1 rfl) ?_
    have hFc := pg_free hD hS hA
    refine va_calli (va_runV (As := [.ref q]) (rest := []) ⟨hx, hb, hml, hown, hts⟩ (s_X9_numberAt l dC dI cs ty L H.size F sl (ρ + 2) sx 3000 sy0 sy1 sy2 q v k0 hW hi_3 ht_4) ⟨callB_of 1 hts (gi kt_312) rfl rfl rfl (hts _ kt_164) (hts _ kt_313) (by decide +kernel) ⟨Nat.le_of_ble_eq_true rfl, Nat.le_of_ble_eq_true rfl⟩, (hts _ kt_314), (hts _ kt_315)⟩ ⟨fun a U g mk q => ⟨q.1, PTE.calling q.2⟩, pg_recv hK hP hi_3 hF_53 (q := (RX9, TX9, 5)) rfl, fun U hU hWm => ⟨rfl, PTE.mk hU hWm hP hK hD hE hO hG (fun x hx => by rw [List.mem_singleton] at hx; subst hx; exact hX_q) hS hFc⟩⟩ rfl rfl hl.1 rfl (lv_room (Nat.le_of_ble_eq_true rfl)) dX7_isNumberOrMisses_16 ⟨by show _ + 0 ≤ 0; omega, by show _ + 0 ≤ 0; omega⟩) hS (fun q _ h => hFc q h) hFc (fun r_59 u t H1 locs ht hvm hw hB hz1 hk1 hS => ?_)
    obtain ⟨F_60, hB1⟩ := hB
    obtain rfl : F = F_60 := (funext (fun a => hB1.2.2.2 a List.not_mem_nil)).symm
    obtain ⟨hP, hD, hO, hR⟩ := QT.back hB1 ht hFc hR (fun q h => absurd h List.not_mem_nil)
    generalize H1 = H at hP hS ⊢
    have hw : True := hw
    have hw_61 := hw
    refine lv_if_lt (tgt := 26) hx hb dX7_isNumberOrMisses_19 (by decide) (fun c_62 => ?_) (fun c_62 => ?_)
    ·
      refine lv_iconst (v := 0) hx hb dX7_isNumberOrMisses_26 (by decide) ?_
      refine W.widen (k := 0) (n := 0) (by omega) (by omega) ?_
      exact W.zret (v := 0) (ty := .boolean) hx hb hr (by decide) (fun t ht hWm => ⟨⟨0, (), rfl, (by first | exact Or.inl rfl | exact Or.inr rfl), ⟨F, QT.mk ht hP hD hO hR⟩⟩, hS.F ht⟩) hS.2.2 dX7_isNumberOrMisses_27
    ·
      refine lv_iconst (v := 1) hx hb dX7_isNumberOrMisses_22 (by decide) ?_
      refine lv_goto (tgt := 27) hx hb dX7_isNumberOrMisses_23 (by decide) ?_
      refine W.widen (k := 0) (n := 0) (by omega) (by omega) ?_
      exact W.zret (v := 1) (ty := .boolean) hx hb hr (by decide) (fun t ht hWm => ⟨⟨1, (), rfl, (by first | exact Or.inl rfl | exact Or.inr rfl), ⟨F, QT.mk ht hP hD hO hR⟩⟩, hS.F ht⟩) hS.2.2 dX7_isNumberOrMisses_27
set_option maxHeartbeats 4000000 in
set_option maxRecDepth 100000 in
theorem s_X7_isFrom (l : Launch) (dC : Nat → ClassId) (dI : Nat → Nat → Nat) (cs : Nat → ClassId) (ty : TyM) (L : List Nat) (sz : Nat) (F : Nat → va_E) (h0 : Nat) (ρ : Nat) (d : Nat) (δ : Nat) (ea : Nat) (sl : Nat) (sx : Nat) (sy0 : Nat) (sy1 : Nat) (sy2 : Nat) (ke : Nat) (kx : Nat) (ky0 : Nat) (ky1 : Nat) (ky2 : Nat) (w0 : Nat) (w1 : Nat) (w2 : Nat) (w3 : Nat) (w4 : Nat) (w5 : Nat) (w6 : Nat) (w7 : Nat) (w8 : Nat) (tk : Nat) (hs : Nat) (ha : Nat) (hbb : Nat) (hcc : Nat) (pw : Nat) (px : Nat) (py : Nat) (pz : Nat) (pu : Nat) (x1 : Int32) (x2 : Int32) (hW : WT ty L) (hL_h0 : h0 ∈ L) (hT_h0 : ty h0 = (7, ρ, [d, δ, ea, sl, sx, sy0, sy1, sy2, ke, kx, ky0, ky1, ky2, w0, w1, w2, w3, w4, w5, w6, w7, w8, tk, hs, ha, hbb, hcc, pw, px, py, pz, pu])) : Met l yX7_isFrom (.code yX7_isFrom cX7_isFrom 5 (some .boolean) :: tb) ({ frames := 4, cells := 0, slots := 0, locals := 85 }) (va_Pc [.ref h0, .int x1, .int x2] (PTE (dC, dI) cs ty L F sz [])) (va_Qi (fun (r : Int32) (_ : Unit) => (r = 0 ∨ r = 1)) (fun _ T9 => ∃ F2 : Nat → va_E, QT (dC, dI) cs ty L [] F F2 (va_A (va_pl L F) sz) T9) (va_A (va_pl L F) sz)) 0 0 (va_A (va_pl L F) sz) := by
  refine Met.ofW (cc := cX7_isFrom) (maxL := 5) (ret := (some .boolean)) (by decide) rfl ?_
  intro p e s m args below meth c s₁ B hml hv
  obtain ⟨rfl, ⟨hsz, hP, hK, hD0, hE, hO⟩, hG, hX⟩ := hv
  have hx := B.exec
  have hb := B.bytes
  have hr := B.returns
  have hts : ∀ w ∈ tb, w.before _ s = true := fun w h => atoms_spec (ws := .code yX7_isFrom cX7_isFrom 5 (some .boolean) :: tb) B.pre w (List.mem_cons_of_mem _ h)
  have hown : s.vm.findClass RX7 = some m.cls := findClass_of_methodNamed B.named
  have hlocks := B.notSynchronized
  subst hsz
  have hD := hD0.self (sz := s.heap.size)
  generalize hAe : va_A (va_pl L F) s.heap.size = A at hD hG hX ⊢
  have hA : ∀ q : Nat, s.heap.size ≤ q → A q := fun q h => by rw [← hAe]; exact Or.inr h
  have hS : va_S A s.heap s.heap [] := va_S.rf
  have hR : FR ty [] F F := FR.refl
  have hl := lv_entry ([.ref h0, .int x1, .int x2]) (n := 5) (Nat.le_of_ble_eq_true rfl)
  rw [lg_entry_eq]
  generalize (lg_sl ([.ref h0, .int x1, .int x2]) ++ List.replicate (5 - (lg_sl ([.ref h0, .int x1, .int x2])).length) Slot.unset).toArray = ls at hl ⊢
  have hl : lv_has ls 5 [(0, .ref h0), (1, .int x1), (2, .int x2)] := hl
  refine lv_iload_n hx hb dX7_isFrom_0 rfl (lv_at hl 2 rfl) ?_
  refine lv_iload_n hx hb dX7_isFrom_1 rfl (lv_at hl 1 rfl) ?_
  refine lv_isub hx hb dX7_isFrom_2 ?_
  refine lv_topi (fun x_1 _ => ?_)
  refine lv_iconst (v := 4) hx hb dX7_isFrom_3 (by decide) ?_
  refine lv_icmp_ne (tgt := 11) hx hb dX7_isFrom_4 (by decide) (fun c_2 => ?_) (fun c_2 => ?_)
  ·
    refine lv_iconst (v := 0) hx hb dX7_isFrom_11 (by decide) ?_
    refine lv_istore_n (lv' := [(3, .int 0), (0, .ref h0), (1, .int x1), (2, .int x2)]) hx hb dX7_isFrom_12 rfl hl (by decide) rfl (fun ls hl => ?_)
    refine lv_iconst (v := 0) hx hb dX7_isFrom_13 (by decide) ?_
    refine lv_istore (lv' := [(4, .int 0), (3, .int 0), (0, .ref h0), (1, .int x1), (2, .int x2)]) hx hb dX7_isFrom_14 hl (by decide) rfl (fun ls hl => ?_)
    refine W.widen (k := 0) (n := 0) (by omega) (by omega) ?_
    refine pl_loop (σ := Nat × Int32) A (dC, dI) cs ty L [] F 16 5 (fun (j, u3) => [(4, .int (nI j)), (3, .int u3), (0, .ref h0), (1, .int x1), (2, .int x2)]) (fun (j, u3) => []) (fun (j, u3) _ => j ≤ 4 ∧ (u3 = 0 ∨ u3 = 1)) (fun (j, u3) => 4 - j) ?_ (0, 0) F (⟨by omega, Or.inl rfl⟩) hO hR _ _ hP hD hS ls (lv_sub hl [0, 1, 2, 3, 4] rfl)
    rintro ⟨j, u3⟩ F_3 hv_4 hO hR ih_5 H locs hP hD hS ls hl
    have hl : lv_has ls 5 [(4, .int (nI j)), (3, .int u3), (0, .ref h0), (1, .int x1), (2, .int x2)] := hl
    have hv_4 : j ≤ 4 ∧ (u3 = 0 ∨ u3 = 1) := hv_4
    refine W.eq (g2 := F0 m 16 ls []) rfl ?_
    obtain rfl : F = F_3 := (funext (fun a => hR a List.not_mem_nil)).symm
    obtain ⟨hv1, hv2⟩ := hv_4
    refine lv_iload_n hx hb dX7_isFrom_16 rfl (lv_at hl 1 rfl) ?_
    refine lv_if_eq (tgt := 65) hx hb dX7_isFrom_17 (by decide) (fun c_6 => ?_) (fun c_6 => ?_)
    ·
      refine lv_iload_n hx hb dX7_isFrom_65 rfl (lv_at hl 1 rfl) ?_
      refine W.widen (k := 0) (n := 0) (by omega) (by omega) ?_
      exact W.zret (v := u3) (ty := .boolean) hx hb hr (bitN hv2) (fun t ht hWm => ⟨⟨u3, (), rfl, hv2, ⟨F, QT.mk ht hP hD hO hR⟩⟩, hS.F ht⟩) hS.2.2 dX7_isFrom_66
    ·
      refine lv_iload hx hb dX7_isFrom_20 (lv_at hl 0 rfl) ?_
      refine lv_iconst (v := 4) hx hb dX7_isFrom_22 (by decide) ?_
      refine lv_icmp_ge (tgt := 65) hx hb dX7_isFrom_23 (by decide) (fun c_7 => ?_) (fun c_7 => ?_)
      ·
        have hi_8 : 4 ≤ j := leN (N := 4) c_7
        refine lv_iload_n hx hb dX7_isFrom_65 rfl (lv_at hl 1 rfl) ?_
        refine W.widen (k := 0) (n := 0) (by omega) (by omega) ?_
        exact W.zret (v := u3) (ty := .boolean) hx hb hr (bitN hv2) (fun t ht hWm => ⟨⟨u3, (), rfl, hv2, ⟨F, QT.mk ht hP hD hO hR⟩⟩, hS.F ht⟩) hS.2.2 dX7_isFrom_66
      ·
        have hi_9 : j < 4 := ltN (N := 4) c_7
        refine lv_aload_n hx hb dX7_isFrom_26 rfl (lv_at hl 2 rfl) ?_
        obtain ⟨hi_10, ht_11, hi_12, ht_13, hi_14, ht_15, hi_16, ⟨r_17, ht_18⟩, hi_19, ⟨r_20, ht_21⟩, hi_22, ⟨r_23, ht_24⟩, hi_25, ⟨r_26, ht_27⟩, hi_28, ⟨r_29, ht_30⟩, hi_31, ⟨r_32, ht_33⟩, hi_34, ⟨r_35, ht_36⟩, hi_37, ⟨r_38, ht_39⟩, hi_40, ⟨r_41, ht_42⟩, hi_43, ht_44, hi_45, ht_46, hi_47, ht_48⟩ := hW.slr hL_h0 hT_h0
        obtain ⟨v0_49, v1_50, hF_51⟩ := hO.slr hL_h0 hT_h0
        refine pg_get (ci := 7) (v := .ref sl) (C := RX7) (T := TX7) (N := 17) hx hb hts it_7 hown hK hP hL_h0 hF_51 rfl 1 (by decide) (hts _ kt_307) (fun _ h9 => h9) rfl dX7_isFrom_27 ?_
        obtain ⟨hi_52, hi_53, hi_54, hi_55, ⟨r_56, ht_57⟩, ht_58, ht_59, ht_60⟩ := hW.tags hi_12 ht_13
        have ht_57 : ty sx = (0, ρ + 3, [r_56, 3000]) := ht_57
        have ht_59 : ty sy1 = (24, ρ + 72, [40]) := ht_59
        have ht_60 : ty sy2 = (24, ρ + 73, [40]) := ht_60
        obtain ⟨z_61, hF_62, hq_63⟩ := hO.tags hi_12 ht_13
        refine pg_getN (ci := 9) (v := .ref sx) (C := RX9) (T := TX9) (N := 5) hx hb hts it_9 hown hK hP hi_12 hF_62 rfl 0 (by decide) (hE.nest kn_7) (fun _ h9 => h9) rfl dX7_isFrom_30 ?_
        refine lv_iload_n hx hb dX7_isFrom_33 rfl (lv_at hl 3 rfl) ?_
        refine lv_iload hx hb dX7_isFrom_34 (lv_at hl 0 rfl) ?_
        refine lv_iadd hx hb dX7_isFrom_36 ?_
        refine lv_topi (fun x_64 _ => ?_)
        have hFc := pg_free hD hS hA
        obtain ⟨hi_65, ht_66, hq_67⟩ := hW.bytes hi_52 ht_57
        obtain ⟨z_68, o_69, hF_70, hq_71, hq_72⟩ := hO.bytes hi_52 ht_57
        refine va_calli (va_runV (As := [.int x_64]) (rest := []) ⟨hx, hb, hml, hown, hts⟩ (s_X0_at l dC dI cs ty L H.size F sx (ρ + 3) r_56 3000 x_64 hW hi_52 ht_57) ⟨callB_of 1 hts (gi kt_21) rfl rfl rfl (hts _ kt_1) (hts _ kt_305) (by decide +kernel) ⟨Nat.le_of_ble_eq_true rfl, Nat.le_of_ble_eq_true rfl⟩, (hts _ kt_23), (hts _ kt_24)⟩ ⟨fun a U g mk q => ⟨q.1, PT.calling q.2⟩, pg_recv hK hP hi_52 hF_70 (q := (RX0, TX0, 3)) rfl, fun U hU hWm => ⟨rfl, PT.mk hU hWm hP hK hD hE hO⟩⟩ rfl rfl hl.1 rfl (lv_room (Nat.le_of_ble_eq_true rfl)) dX7_isFrom_37 ⟨by show _ + 0 ≤ 0; omega, by show _ + 0 ≤ 0; omega⟩) hS (fun q _ h => hFc q h) hFc (fun r_73 u t H1 locs ht hvm hw hB hz1 hk1 hS => ?_)
        obtain ⟨F_74, hB1⟩ := hB
        obtain rfl : F = F_74 := (funext (fun a => hB1.2.2.2 a List.not_mem_nil)).symm
        obtain ⟨hP, hD, hO, hR⟩ := QT.back hB1 ht hFc hR (fun q h => absurd h List.not_mem_nil)
        generalize H1 = H at hP hS ⊢
        have hw : True := hw
        have hw_75 := hw
        have hFc := pg_free hD hS hA
        refine va_calli (va_runS (As := [.int r_73]) (rest := []) ⟨hx, hb, hml, hown, hts⟩ (s_X0_smallOf l dC dI cs ty L H.size F r_73 hW ) ⟨callB_of 1 hts (gi kt_0) rfl rfl rfl (hts _ kt_1) (hts _ kt_316) (by decide +kernel) ⟨Nat.le_of_ble_eq_true rfl, Nat.le_of_ble_eq_true rfl⟩, (hts _ kt_3)⟩ ⟨fun a U g mk q => ⟨q.1, PT.calling q.2⟩, fun U hU hWm => ⟨rfl, PT.mk hU hWm hP hK hD hE hO⟩⟩ rfl rfl hl.1 rfl (lv_room (Nat.le_of_ble_eq_true rfl)) dX7_isFrom_40 ⟨by show _ + 0 ≤ 0; omega, by show _ + 0 ≤ 0; omega⟩) hS (fun q _ h => hFc q h) hFc (fun r_76 u t H1 locs ht hvm hw hB hz1 hk1 hS => ?_)
        obtain ⟨F_77, hB1⟩ := hB
        obtain rfl : F = F_77 := (funext (fun a => hB1.2.2.2 a List.not_mem_nil)).symm
        obtain ⟨hP, hD, hO, hR⟩ := QT.back hB1 ht hFc hR (fun q h => absurd h List.not_mem_nil)
        generalize H1 = H at hP hS ⊢
        have hw : True := hw
        have hw_78 := hw
        obtain ⟨q_79, v_80, hr_q_79, hXc_q_79⟩ := hG.2.2.2.2 ("PostGate$Sealer", 89, "from", [102, 114, 111, 109]) (by decide +kernel)
        have hXc_q_79 : SXc q_79 v_80 4 (cct [102, 114, 111, 109]) A s s.heap := hXc_q_79
        have hX_q_79 : SX q_79 v_80 4 A s s.heap := hXc_q_79.sx
        obtain ⟨xo_q_79, xc_q_79, xv_q_79, xt_q_79, xn_q_79⟩ := id hXc_q_79
        have hr_q_79 : vk_R "PostGate$Sealer" 89 "from" q_79 s := hr_q_79
        refine va_ldcS hx hb hown hr_q_79 dX7_isFrom_43 ?_
        refine lv_iload hx hb dX7_isFrom_45 (lv_at hl 0 rfl) ?_
        have hFc := pg_free hD hS hA
        refine va_calli (va_runV (As := [.int (nI j)]) (rest := [.int r_76]) ⟨hx, hb, hml, hown, hts⟩ (s_J0_charAt_5068e l dC dI cs ty L H.size F q_79 v_80 4 j hW (by omega)) ⟨callB_of 1 hts (gi kt_75) rfl rfl rfl (hts _ kt_51) (hts _ kt_317) (by decide +kernel) ⟨Nat.le_of_ble_eq_true rfl, Nat.le_of_ble_eq_true rfl⟩, (hts _ kt_77), (hts _ kt_78)⟩ ⟨fun a U g mk q => ⟨q.1, PTE.calling q.2⟩, sx_recv hX_q_79 hS, fun U hU hWm => ⟨rfl, PTE.mk hU hWm hP hK hD hE hO hG (fun x hx => by rw [List.mem_singleton] at hx; subst hx; exact hX_q_79) hS hFc⟩⟩ rfl rfl hl.1 rfl (lv_room (Nat.le_of_ble_eq_true rfl)) dX7_isFrom_47 ⟨by show _ + 0 ≤ 0; omega, by show _ + 0 ≤ 0; omega⟩) hS (fun q _ h => hFc q h) hFc (fun r_81 u t H1 locs ht hvm hw hB hz1 hk1 hS => ?_)
        obtain ⟨F_82, hB1⟩ := hB
        obtain rfl : F = F_82 := (funext (fun a => hB1.2.2.2 a List.not_mem_nil)).symm
        obtain ⟨hP, hD, hO, hR⟩ := QT.back hB1 ht hFc hR (fun q h => absurd h List.not_mem_nil)
        generalize H1 = H at hP hS ⊢
        have hw : narrow .char (.int r_81) = .int r_81 := hw
        have hw_83 := hw
        refine lv_icmp_ne (tgt := 57) hx hb dX7_isFrom_50 (by decide) (fun c_84 => ?_) (fun c_84 => ?_)
        ·
          refine lv_iconst (v := 0) hx hb dX7_isFrom_57 (by decide) ?_
          refine lv_istore_n (lv' := [(3, .int 0), (4, .int (nI j)), (0, .ref h0), (1, .int x1), (2, .int x2)]) hx hb dX7_isFrom_58 rfl hl (by decide) rfl (fun ls hl => ?_)
          refine lv_iinc (v := (nI (j + 1))) (lv' := [(4, .int (nI (j + 1))), (3, .int 0), (0, .ref h0), (1, .int x1), (2, .int x2)]) hx hb dX7_isFrom_59 hl (k := 1) rfl (nI_1 _) (by decide) rfl (fun ls hl => ?_)
          refine lv_goto (tgt := 16) hx hb dX7_isFrom_62 (by decide) ?_
          refine W.widen (k := 0) (n := 0) (by omega) (by omega) ?_
          exact ih_5 ((j + 1), 0) F (⟨by omega, Or.inl rfl⟩) (by show 4 - (j + 1) < 4 - j; omega) hO hR _ _ hP hD hS ls (lv_sub hl [0, 1, 2, 3, 4] rfl)
        ·
          refine lv_iconst (v := 1) hx hb dX7_isFrom_53 (by decide) ?_
          refine lv_goto (tgt := 58) hx hb dX7_isFrom_54 (by decide) ?_
          refine lv_istore_n (lv' := [(3, .int 1), (4, .int (nI j)), (0, .ref h0), (1, .int x1), (2, .int x2)]) hx hb dX7_isFrom_58 rfl hl (by decide) rfl (fun ls hl => ?_)
          refine lv_iinc (v := (nI (j + 1))) (lv' := [(4, .int (nI (j + 1))), (3, .int 1), (0, .ref h0), (1, .int x1), (2, .int x2)]) hx hb dX7_isFrom_59 hl (k := 1) rfl (nI_1 _) (by decide) rfl (fun ls hl => ?_)
          refine lv_goto (tgt := 16) hx hb dX7_isFrom_62 (by decide) ?_
          refine W.widen (k := 0) (n := 0) (by omega) (by omega) ?_
          exact ih_5 ((j + 1), 1) F (⟨by omega, Or.inr rfl⟩) (by show 4 - (j + 1) < 4 - j; omega) hO hR _ _ hP hD hS ls (lv_sub hl [0, 1, 2, 3, 4] rfl)
  ·
    refine lv_iconst (v := 1) hx hb dX7_isFrom_7 (by decide) ?_
    refine lv_goto (tgt := 12) hx hb dX7_isFrom_8 (by decide) ?_
    refine lv_istore_n (lv' := [(3, .int 1), (0, .ref h0), (1, .int x1), (2, .int x2)]) hx hb dX7_isFrom_12 rfl hl (by decide) rfl (fun ls hl => ?_)
    refine lv_iconst (v := 0) hx hb dX7_isFrom_13 (by decide) ?_
    refine lv_istore (lv' := [(4, .int 0), (3, .int 1), (0, .ref h0), (1, .int x1), (2, .int x2)]) hx hb dX7_isFrom_14 hl (by decide) rfl (fun ls hl => ?_)
    refine W.widen (k := 0) (n := 0) (by omega) (by omega) ?_
    refine pl_loop (σ := Nat × Int32) A (dC, dI) cs ty L [] F 16 5 (fun (j, u3) => [(4, .int (nI j)), (3, .int u3), (0, .ref h0), (1, .int x1), (2, .int x2)]) (fun (j, u3) => []) (fun (j, u3) _ => j ≤ 4 ∧ (u3 = 0 ∨ u3 = 1)) (fun (j, u3) => 4 - j) ?_ (0, 1) F (⟨by omega, Or.inr rfl⟩) hO hR _ _ hP hD hS ls (lv_sub hl [0, 1, 2, 3, 4] rfl)
    rintro ⟨j, u3⟩ F_85 hv_86 hO hR ih_87 H locs hP hD hS ls hl
    have hl : lv_has ls 5 [(4, .int (nI j)), (3, .int u3), (0, .ref h0), (1, .int x1), (2, .int x2)] := hl
    have hv_86 : j ≤ 4 ∧ (u3 = 0 ∨ u3 = 1) := hv_86
    refine W.eq (g2 := F0 m 16 ls []) rfl ?_
    obtain rfl : F = F_85 := (funext (fun a => hR a List.not_mem_nil)).symm
    obtain ⟨hv1, hv2⟩ := hv_86
    refine lv_iload_n hx hb dX7_isFrom_16 rfl (lv_at hl 1 rfl) ?_
    refine lv_if_eq (tgt := 65) hx hb dX7_isFrom_17 (by decide) (fun c_88 => ?_) (fun c_88 => ?_)
    ·
      refine lv_iload_n hx hb dX7_isFrom_65 rfl (lv_at hl 1 rfl) ?_
      refine W.widen (k := 0) (n := 0) (by omega) (by omega) ?_
      exact W.zret (v := u3) (ty := .boolean) hx hb hr (bitN hv2) (fun t ht hWm => ⟨⟨u3, (), rfl, hv2, ⟨F, QT.mk ht hP hD hO hR⟩⟩, hS.F ht⟩) hS.2.2 dX7_isFrom_66
    ·
      refine lv_iload hx hb dX7_isFrom_20 (lv_at hl 0 rfl) ?_
      refine lv_iconst (v := 4) hx hb dX7_isFrom_22 (by decide) ?_
      refine lv_icmp_ge (tgt := 65) hx hb dX7_isFrom_23 (by decide) (fun c_89 => ?_) (fun c_89 => ?_)
      ·
        have hi_90 : 4 ≤ j := leN (N := 4) c_89
        refine lv_iload_n hx hb dX7_isFrom_65 rfl (lv_at hl 1 rfl) ?_
        refine W.widen (k := 0) (n := 0) (by omega) (by omega) ?_
        exact W.zret (v := u3) (ty := .boolean) hx hb hr (bitN hv2) (fun t ht hWm => ⟨⟨u3, (), rfl, hv2, ⟨F, QT.mk ht hP hD hO hR⟩⟩, hS.F ht⟩) hS.2.2 dX7_isFrom_66
      ·
        have hi_91 : j < 4 := ltN (N := 4) c_89
        refine lv_aload_n hx hb dX7_isFrom_26 rfl (lv_at hl 2 rfl) ?_
        obtain ⟨hi_92, ht_93, hi_94, ht_95, hi_96, ht_97, hi_98, ⟨r_99, ht_100⟩, hi_101, ⟨r_102, ht_103⟩, hi_104, ⟨r_105, ht_106⟩, hi_107, ⟨r_108, ht_109⟩, hi_110, ⟨r_111, ht_112⟩, hi_113, ⟨r_114, ht_115⟩, hi_116, ⟨r_117, ht_118⟩, hi_119, ⟨r_120, ht_121⟩, hi_122, ⟨r_123, ht_124⟩, hi_125, ht_126, hi_127, ht_128, hi_129, ht_130⟩ := hW.slr hL_h0 hT_h0
        obtain ⟨v0_131, v1_132, hF_133⟩ := hO.slr hL_h0 hT_h0
        refine pg_get (ci := 7) (v := .ref sl) (C := RX7) (T := TX7) (N := 17) hx hb hts it_7 hown hK hP hL_h0 hF_133 rfl 1 (by decide) (hts _ kt_307) (fun _ h9 => h9) rfl dX7_isFrom_27 ?_
        obtain ⟨hi_134, hi_135, hi_136, hi_137, ⟨r_138, ht_139⟩, ht_140, ht_141, ht_142⟩ := hW.tags hi_94 ht_95
        have ht_139 : ty sx = (0, ρ + 3, [r_138, 3000]) := ht_139
        have ht_141 : ty sy1 = (24, ρ + 72, [40]) := ht_141
        have ht_142 : ty sy2 = (24, ρ + 73, [40]) := ht_142
        obtain ⟨z_143, hF_144, hq_145⟩ := hO.tags hi_94 ht_95
        refine pg_getN (ci := 9) (v := .ref sx) (C := RX9) (T := TX9) (N := 5) hx hb hts it_9 hown hK hP hi_94 hF_144 rfl 0 (by decide) (hE.nest kn_7) (fun _ h9 => h9) rfl dX7_isFrom_30 ?_
        refine lv_iload_n hx hb dX7_isFrom_33 rfl (lv_at hl 3 rfl) ?_
        refine lv_iload hx hb dX7_isFrom_34 (lv_at hl 0 rfl) ?_
        refine lv_iadd hx hb dX7_isFrom_36 ?_
        refine lv_topi (fun x_146 _ => ?_)
        have hFc := pg_free hD hS hA
        obtain ⟨hi_147, ht_148, hq_149⟩ := hW.bytes hi_134 ht_139
        obtain ⟨z_150, o_151, hF_152, hq_153, hq_154⟩ := hO.bytes hi_134 ht_139
        refine va_calli (va_runV (As := [.int x_146]) (rest := []) ⟨hx, hb, hml, hown, hts⟩ (s_X0_at l dC dI cs ty L H.size F sx (ρ + 3) r_138 3000 x_146 hW hi_134 ht_139) ⟨callB_of 1 hts (gi kt_21) rfl rfl rfl (hts _ kt_1) (hts _ kt_305) (by decide +kernel) ⟨Nat.le_of_ble_eq_true rfl, Nat.le_of_ble_eq_true rfl⟩, (hts _ kt_23), (hts _ kt_24)⟩ ⟨fun a U g mk q => ⟨q.1, PT.calling q.2⟩, pg_recv hK hP hi_134 hF_152 (q := (RX0, TX0, 3)) rfl, fun U hU hWm => ⟨rfl, PT.mk hU hWm hP hK hD hE hO⟩⟩ rfl rfl hl.1 rfl (lv_room (Nat.le_of_ble_eq_true rfl)) dX7_isFrom_37 ⟨by show _ + 0 ≤ 0; omega, by show _ + 0 ≤ 0; omega⟩) hS (fun q _ h => hFc q h) hFc (fun r_155 u t H1 locs ht hvm hw hB hz1 hk1 hS => ?_)
        obtain ⟨F_156, hB1⟩ := hB
        obtain rfl : F = F_156 := (funext (fun a => hB1.2.2.2 a List.not_mem_nil)).symm
        obtain ⟨hP, hD, hO, hR⟩ := QT.back hB1 ht hFc hR (fun q h => absurd h List.not_mem_nil)
        generalize H1 = H at hP hS ⊢
        have hw : True := hw
        have hw_157 := hw
        have hFc := pg_free hD hS hA
        refine va_calli (va_runS (As := [.int r_155]) (rest := []) ⟨hx, hb, hml, hown, hts⟩ (s_X0_smallOf l dC dI cs ty L H.size F r_155 hW ) ⟨callB_of 1 hts (gi kt_0) rfl rfl rfl (hts _ kt_1) (hts _ kt_316) (by decide +kernel) ⟨Nat.le_of_ble_eq_true rfl, Nat.le_of_ble_eq_true rfl⟩, (hts _ kt_3)⟩ ⟨fun a U g mk q => ⟨q.1, PT.calling q.2⟩, fun U hU hWm => ⟨rfl, PT.mk hU hWm hP hK hD hE hO⟩⟩ rfl rfl hl.1 rfl (lv_room (Nat.le_of_ble_eq_true rfl)) dX7_isFrom_40 ⟨by show _ + 0 ≤ 0; omega, by show _ + 0 ≤ 0; omega⟩) hS (fun q _ h => hFc q h) hFc (fun r_158 u t H1 locs ht hvm hw hB hz1 hk1 hS => ?_)
        obtain ⟨F_159, hB1⟩ := hB
        obtain rfl : F = F_159 := (funext (fun a => hB1.2.2.2 a List.not_mem_nil)).symm
        obtain ⟨hP, hD, hO, hR⟩ := QT.back hB1 ht hFc hR (fun q h => absurd h List.not_mem_nil)
        generalize H1 = H at hP hS ⊢
        have hw : True := hw
        have hw_160 := hw
        obtain ⟨q_161, v_162, hr_q_161, hXc_q_161⟩ := hG.2.2.2.2 ("PostGate$Sealer", 89, "from", [102, 114, 111, 109]) (by decide +kernel)
        have hXc_q_161 : SXc q_161 v_162 4 (cct [102, 114, 111, 109]) A s s.heap := hXc_q_161
        have hX_q_161 : SX q_161 v_162 4 A s s.heap := hXc_q_161.sx
        obtain ⟨xo_q_161, xc_q_161, xv_q_161, xt_q_161, xn_q_161⟩ := id hXc_q_161
        have hr_q_161 : vk_R "PostGate$Sealer" 89 "from" q_161 s := hr_q_161
        refine va_ldcS hx hb hown hr_q_161 dX7_isFrom_43 ?_
        refine lv_iload hx hb dX7_isFrom_45 (lv_at hl 0 rfl) ?_
        have hFc := pg_free hD hS hA
        refine va_calli (va_runV (As := [.int (nI j)]) (rest := [.int r_158]) ⟨hx, hb, hml, hown, hts⟩ (s_J0_charAt_5068e l dC dI cs ty L H.size F q_161 v_162 4 j hW (by omega)) ⟨callB_of 1 hts (gi kt_75) rfl rfl rfl (hts _ kt_51) (hts _ kt_317) (by decide +kernel) ⟨Nat.le_of_ble_eq_true rfl, Nat.le_of_ble_eq_true rfl⟩, (hts _ kt_77), (hts _ kt_78)⟩ ⟨fun a U g mk q => ⟨q.1, PTE.calling q.2⟩, sx_recv hX_q_161 hS, fun U hU hWm => ⟨rfl, PTE.mk hU hWm hP hK hD hE hO hG (fun x hx => by rw [List.mem_singleton] at hx; subst hx; exact hX_q_161) hS hFc⟩⟩ rfl rfl hl.1 rfl (lv_room (Nat.le_of_ble_eq_true rfl)) dX7_isFrom_47 ⟨by show _ + 0 ≤ 0; omega, by show _ + 0 ≤ 0; omega⟩) hS (fun q _ h => hFc q h) hFc (fun r_163 u t H1 locs ht hvm hw hB hz1 hk1 hS => ?_)
        obtain ⟨F_164, hB1⟩ := hB
        obtain rfl : F = F_164 := (funext (fun a => hB1.2.2.2 a List.not_mem_nil)).symm
        obtain ⟨hP, hD, hO, hR⟩ := QT.back hB1 ht hFc hR (fun q h => absurd h List.not_mem_nil)
        generalize H1 = H at hP hS ⊢
        have hw : narrow .char (.int r_163) = .int r_163 := hw
        have hw_165 := hw
        refine lv_icmp_ne (tgt := 57) hx hb dX7_isFrom_50 (by decide) (fun c_166 => ?_) (fun c_166 => ?_)
        ·
          refine lv_iconst (v := 0) hx hb dX7_isFrom_57 (by decide) ?_
          refine lv_istore_n (lv' := [(3, .int 0), (4, .int (nI j)), (0, .ref h0), (1, .int x1), (2, .int x2)]) hx hb dX7_isFrom_58 rfl hl (by decide) rfl (fun ls hl => ?_)
          refine lv_iinc (v := (nI (j + 1))) (lv' := [(4, .int (nI (j + 1))), (3, .int 0), (0, .ref h0), (1, .int x1), (2, .int x2)]) hx hb dX7_isFrom_59 hl (k := 1) rfl (nI_1 _) (by decide) rfl (fun ls hl => ?_)
          refine lv_goto (tgt := 16) hx hb dX7_isFrom_62 (by decide) ?_
          refine W.widen (k := 0) (n := 0) (by omega) (by omega) ?_
          exact ih_87 ((j + 1), 0) F (⟨by omega, Or.inl rfl⟩) (by show 4 - (j + 1) < 4 - j; omega) hO hR _ _ hP hD hS ls (lv_sub hl [0, 1, 2, 3, 4] rfl)
        ·
          refine lv_iconst (v := 1) hx hb dX7_isFrom_53 (by decide) ?_
          refine lv_goto (tgt := 58) hx hb dX7_isFrom_54 (by decide) ?_
          refine lv_istore_n (lv' := [(3, .int 1), (4, .int (nI j)), (0, .ref h0), (1, .int x1), (2, .int x2)]) hx hb dX7_isFrom_58 rfl hl (by decide) rfl (fun ls hl => ?_)
          refine lv_iinc (v := (nI (j + 1))) (lv' := [(4, .int (nI (j + 1))), (3, .int 1), (0, .ref h0), (1, .int x1), (2, .int x2)]) hx hb dX7_isFrom_59 hl (k := 1) rfl (nI_1 _) (by decide) rfl (fun ls hl => ?_)
          refine lv_goto (tgt := 16) hx hb dX7_isFrom_62 (by decide) ?_
          refine W.widen (k := 0) (n := 0) (by omega) (by omega) ?_
          exact ih_87 ((j + 1), 1) F (⟨by omega, Or.inr rfl⟩) (by show 4 - (j + 1) < 4 - j; omega) hO hR _ _ hP hD hS ls (lv_sub hl [0, 1, 2, 3, 4] rfl)
set_option maxHeartbeats 4000000 in
set_option maxRecDepth 100000 in
theorem s_X7_isFieldList (l : Launch) (dC : Nat → ClassId) (dI : Nat → Nat → Nat) (cs : Nat → ClassId) (ty : TyM) (L : List Nat) (sz : Nat) (F : Nat → va_E) (h0 : Nat) (ρ : Nat) (d : Nat) (δ : Nat) (ea : Nat) (sl : Nat) (sx : Nat) (sy0 : Nat) (sy1 : Nat) (sy2 : Nat) (ke : Nat) (kx : Nat) (ky0 : Nat) (ky1 : Nat) (ky2 : Nat) (w0 : Nat) (w1 : Nat) (w2 : Nat) (w3 : Nat) (w4 : Nat) (w5 : Nat) (w6 : Nat) (w7 : Nat) (w8 : Nat) (tk : Nat) (hs : Nat) (ha : Nat) (hbb : Nat) (hcc : Nat) (pw : Nat) (px : Nat) (py : Nat) (pz : Nat) (pu : Nat) (hW : WT ty L) (hL_h0 : h0 ∈ L) (hT_h0 : ty h0 = (7, ρ, [d, δ, ea, sl, sx, sy0, sy1, sy2, ke, kx, ky0, ky1, ky2, w0, w1, w2, w3, w4, w5, w6, w7, w8, tk, hs, ha, hbb, hcc, pw, px, py, pz, pu])) : Met l yX7_isFieldList (.code yX7_isFieldList cX7_isFieldList 5 (some .boolean) :: tb) ({ frames := 7, cells := 0, slots := 0, locals := 153 }) (va_Pc [.ref h0] (PTE (dC, dI) cs ty L F sz [])) (va_Qi (fun (r : Int32) (_ : Unit) => (r = 0 ∨ r = 1)) (fun _ T9 => ∃ F2 : Nat → va_E, QT (dC, dI) cs ty L [] F F2 (va_A (va_pl L F) sz) T9) (va_A (va_pl L F) sz)) 0 0 (va_A (va_pl L F) sz) := by
  refine Met.ofW (cc := cX7_isFieldList) (maxL := 5) (ret := (some .boolean)) (by decide) rfl ?_
  intro p e s m args below meth c s₁ B hml hv
  obtain ⟨rfl, ⟨hsz, hP, hK, hD0, hE, hO⟩, hG, hX⟩ := hv
  have hx := B.exec
  have hb := B.bytes
  have hr := B.returns
  have hts : ∀ w ∈ tb, w.before _ s = true := fun w h => atoms_spec (ws := .code yX7_isFieldList cX7_isFieldList 5 (some .boolean) :: tb) B.pre w (List.mem_cons_of_mem _ h)
  have hown : s.vm.findClass RX7 = some m.cls := findClass_of_methodNamed B.named
  have hlocks := B.notSynchronized
  subst hsz
  have hD := hD0.self (sz := s.heap.size)
  generalize hAe : va_A (va_pl L F) s.heap.size = A at hD hG hX ⊢
  have hA : ∀ q : Nat, s.heap.size ≤ q → A q := fun q h => by rw [← hAe]; exact Or.inr h
  have hS : va_S A s.heap s.heap [] := va_S.rf
  have hR : FR ty [] F F := FR.refl
  have hl := lv_entry ([.ref h0]) (n := 5) (Nat.le_of_ble_eq_true rfl)
  rw [lg_entry_eq]
  generalize (lg_sl ([.ref h0]) ++ List.replicate (5 - (lg_sl ([.ref h0])).length) Slot.unset).toArray = ls at hl ⊢
  have hl : lv_has ls 5 [(0, .ref h0)] := hl
  refine lv_iconst (v := 0) hx hb dX7_isFieldList_0 (by decide) ?_
  refine lv_istore_n (lv' := [(1, .int 0), (0, .ref h0)]) hx hb dX7_isFieldList_1 rfl hl (by decide) rfl (fun ls hl => ?_)
  refine lv_aload_n hx hb dX7_isFieldList_2 rfl (lv_at hl 1 rfl) ?_
  obtain ⟨hi_1, ht_2, hi_3, ht_4, hi_5, ht_6, hi_7, ⟨r_8, ht_9⟩, hi_10, ⟨r_11, ht_12⟩, hi_13, ⟨r_14, ht_15⟩, hi_16, ⟨r_17, ht_18⟩, hi_19, ⟨r_20, ht_21⟩, hi_22, ⟨r_23, ht_24⟩, hi_25, ⟨r_26, ht_27⟩, hi_28, ⟨r_29, ht_30⟩, hi_31, ⟨r_32, ht_33⟩, hi_34, ht_35, hi_36, ht_37, hi_38, ht_39⟩ := hW.slr hL_h0 hT_h0
  obtain ⟨v0_40, v1_41, hF_42⟩ := hO.slr hL_h0 hT_h0
  refine pg_get (ci := 7) (v := .ref sl) (C := RX7) (T := TX7) (N := 17) hx hb hts it_7 hown hK hP hL_h0 hF_42 rfl 1 (by decide) (hts _ kt_307) (fun _ h9 => h9) rfl dX7_isFieldList_3 ?_
  obtain ⟨q_43, v_44, hr_q_43, hXc_q_43⟩ := hG.2.2.2.2 ("PostGate$Sealer", 207, "h", [104]) (by decide +kernel)
  have hXc_q_43 : SXc q_43 v_44 1 (cct [104]) A s s.heap := hXc_q_43
  have hX_q_43 : SX q_43 v_44 1 A s s.heap := hXc_q_43.sx
  obtain ⟨xo_q_43, xc_q_43, xv_q_43, xt_q_43, xn_q_43⟩ := id hXc_q_43
  have hr_q_43 : vk_R "PostGate$Sealer" 207 "h" q_43 s := hr_q_43
  refine va_ldcS hx hb hown hr_q_43 dX7_isFieldList_6 ?_
  have hFc := pg_free hD hS hA
  obtain ⟨hi_45, hi_46, hi_47, hi_48, ⟨r_49, ht_50⟩, ht_51, ht_52, ht_53⟩ := hW.tags hi_3 ht_4
  have ht_50 : ty sx = (0, ρ + 3, [r_49, 3000]) := ht_50
  have ht_52 : ty sy1 = (24, ρ + 72, [40]) := ht_52
  have ht_53 : ty sy2 = (24, ρ + 73, [40]) := ht_53
  obtain ⟨z_54, hF_55, hq_56⟩ := hO.tags hi_3 ht_4
  refine va_calli (va_runV (As := [.ref q_43]) (rest := []) ⟨hx, hb, hml, hown, hts⟩ (s_X9_startOf l dC dI cs ty L s.heap.size F sl (ρ + 2) sx 3000 sy0 sy1 sy2 q_43 v_44 1 hW hi_3 ht_4) ⟨callB_of 1 hts (gi kt_170) rfl rfl rfl (hts _ kt_164) (hts _ kt_318) (by decide +kernel) ⟨Nat.le_of_ble_eq_true rfl, Nat.le_of_ble_eq_true rfl⟩, (hts _ kt_172), (hts _ kt_173)⟩ ⟨fun a U g mk q => ⟨q.1, PTE.calling q.2⟩, pg_recv hK hP hi_3 hF_55 (q := (RX9, TX9, 5)) rfl, fun U hU hWm => ⟨rfl, PTE.mk hU hWm hP hK hD hE hO hG (fun x hx => by rw [List.mem_singleton] at hx; subst hx; exact hX_q_43) hS hFc⟩⟩ rfl rfl hl.1 rfl (lv_room (Nat.le_of_ble_eq_true rfl)) dX7_isFieldList_8 ⟨by show _ + 0 ≤ 0; omega, by show _ + 0 ≤ 0; omega⟩) hS (fun q _ h => hFc q h) hFc (fun r_57 u t H1 locs ht hvm hw hB hz1 hk1 hS => ?_)
  obtain ⟨F_58, hB1⟩ := hB
  obtain rfl : F = F_58 := (funext (fun a => hB1.2.2.2 a List.not_mem_nil)).symm
  obtain ⟨hP, hD, hO, hR⟩ := QT.back hB1 ht hFc hR (fun q h => absurd h List.not_mem_nil)
  generalize H1 = H at hP hS ⊢
  have hw : (∃ k : Nat, k ≤ 10002 ∧ r_57 = nI k) := hw
  have hw_59 := hw
  obtain ⟨k_60, hk_60, ek_60⟩ := hw_59
  subst ek_60
  refine lv_istore_n (lv' := [(2, .int (nI k_60)), (1, .int 0), (0, .ref h0)]) hx hb dX7_isFieldList_11 rfl hl (by decide) rfl (fun ls hl => ?_)
  refine lv_aload_n hx hb dX7_isFieldList_12 rfl (lv_at hl 2 rfl) ?_
  refine pg_get (ci := 7) (v := .ref sl) (C := RX7) (T := TX7) (N := 17) hx hb hts it_7 hown hK hP hL_h0 hF_42 rfl 1 (by decide) (hts _ kt_307) (fun _ h9 => h9) rfl dX7_isFieldList_13 ?_
  refine va_ldcS hx hb hown hr_q_43 dX7_isFieldList_16 ?_
  have hFc := pg_free hD hS hA
  refine va_calli (va_runV (As := [.ref q_43]) (rest := []) ⟨hx, hb, hml, hown, hts⟩ (s_X9_endOf l dC dI cs ty L H.size F sl (ρ + 2) sx 3000 sy0 sy1 sy2 q_43 v_44 1 hW hi_3 ht_4) ⟨callB_of 1 hts (gi kt_174) rfl rfl rfl (hts _ kt_164) (hts _ kt_319) (by decide +kernel) ⟨Nat.le_of_ble_eq_true rfl, Nat.le_of_ble_eq_true rfl⟩, (hts _ kt_176), (hts _ kt_177)⟩ ⟨fun a U g mk q => ⟨q.1, PTE.calling q.2⟩, pg_recv hK hP hi_3 hF_55 (q := (RX9, TX9, 5)) rfl, fun U hU hWm => ⟨rfl, PTE.mk hU hWm hP hK hD hE hO hG (fun x hx => by rw [List.mem_singleton] at hx; subst hx; exact hX_q_43) hS hFc⟩⟩ rfl rfl hl.1 rfl (lv_room (Nat.le_of_ble_eq_true rfl)) dX7_isFieldList_18 ⟨by show _ + 0 ≤ 0; omega, by show _ + 0 ≤ 0; omega⟩) hS (fun q _ h => hFc q h) hFc (fun r_61 u t H1 locs ht hvm hw hB hz1 hk1 hS => ?_)
  obtain ⟨F_62, hB1⟩ := hB
  obtain rfl : F = F_62 := (funext (fun a => hB1.2.2.2 a List.not_mem_nil)).symm
  obtain ⟨hP, hD, hO, hR⟩ := QT.back hB1 ht hFc hR (fun q h => absurd h List.not_mem_nil)
  generalize H1 = H at hP hS ⊢
  have hw : (∃ k : Nat, k ≤ 10002 ∧ r_61 = nI k) := hw
  have hw_63 := hw
  obtain ⟨k_64, hk_64, ek_64⟩ := hw_63
  subst ek_64
  refine lv_istore_n (lv' := [(3, .int (nI k_64)), (2, .int (nI k_60)), (1, .int 0), (0, .ref h0)]) hx hb dX7_isFieldList_21 rfl hl (by decide) rfl (fun ls hl => ?_)
  refine lv_iload_n hx hb dX7_isFieldList_22 rfl (lv_at hl 1 rfl) ?_
  refine lv_istore (lv' := [(4, .int (nI k_60)), (3, .int (nI k_64)), (2, .int (nI k_60)), (1, .int 0), (0, .ref h0)]) hx hb dX7_isFieldList_23 hl (by decide) rfl (fun ls hl => ?_)
  refine W.widen (k := 0) (n := 0) (by omega) (by omega) ?_
  refine pl_loop (σ := Nat × Int32 × Int32) A (dC, dI) cs ty L [] F 25 5 (fun (j, u1, u2) => [(4, .int (nI j)), (3, .int (nI k_64)), (2, .int u2), (1, .int u1), (0, .ref h0)]) (fun (j, u1, u2) => []) (fun (j, u1, u2) _ => j ≤ 10003 ∧ (u1 = 0 ∨ u1 = 1)) (fun (j, u1, u2) => 10003 - j) ?_ (k_60, 0, (nI k_60)) F (⟨by omega, Or.inl rfl⟩) hO hR _ _ hP hD hS ls (lv_sub hl [0, 1, 2, 3, 4] rfl)
  rintro ⟨j, u1, u2⟩ F_65 hv_66 hO hR ih_67 H locs hP hD hS ls hl
  have hl : lv_has ls 5 [(4, .int (nI j)), (3, .int (nI k_64)), (2, .int u2), (1, .int u1), (0, .ref h0)] := hl
  have hv_66 : j ≤ 10003 ∧ (u1 = 0 ∨ u1 = 1) := hv_66
  refine W.eq (g2 := F0 m 25 ls []) rfl ?_
  obtain rfl : F = F_65 := (funext (fun a => hR a List.not_mem_nil)).symm
  obtain ⟨hv1, hv2⟩ := hv_66
  refine lv_iload hx hb dX7_isFieldList_25 (lv_at hl 0 rfl) ?_
  refine lv_iload_n hx hb dX7_isFieldList_27 rfl (lv_at hl 1 rfl) ?_
  refine lv_icmp_gt (tgt := 106) hx hb dX7_isFieldList_28 (by decide) (fun c_68 => ?_) (fun c_68 => ?_)
  ·
    have hi_69 : k_64 < j := (nI_ltI (a := k_64) (b := j) (by omega) (by omega)).mp c_68
    refine lv_iload_n hx hb dX7_isFieldList_106 rfl (lv_at hl 3 rfl) ?_
    refine W.widen (k := 0) (n := 0) (by omega) (by omega) ?_
    exact W.zret (v := u1) (ty := .boolean) hx hb hr (bitN hv2) (fun t ht hWm => ⟨⟨u1, (), rfl, hv2, ⟨F, QT.mk ht hP hD hO hR⟩⟩, hS.F ht⟩) hS.2.2 dX7_isFieldList_107
  ·
    have hi_70 : j ≤ k_64 := Nat.not_lt.mp (fun q => c_68 ((nI_ltI (a := k_64) (b := j) (by omega) (by omega)).mpr q))
    refine lv_iload hx hb dX7_isFieldList_31 (lv_at hl 0 rfl) ?_
    refine lv_iload_n hx hb dX7_isFieldList_33 rfl (lv_at hl 1 rfl) ?_
    refine lv_icmp_ge (tgt := 57) hx hb dX7_isFieldList_34 (by decide) (fun c_71 => ?_) (fun c_71 => ?_)
    ·
      have hi_72 : k_64 ≤ j := leN (N := k_64) c_71
      refine lv_aload_n hx hb dX7_isFieldList_57 rfl (lv_at hl 4 rfl) ?_
      refine pg_get (ci := 7) (v := .ref sl) (C := RX7) (T := TX7) (N := 17) hx hb hts it_7 hown hK hP hL_h0 hF_42 rfl 1 (by decide) (hts _ kt_307) (fun _ h9 => h9) rfl dX7_isFieldList_58 ?_
      refine pg_getN (ci := 9) (v := .ref sx) (C := RX9) (T := TX9) (N := 5) hx hb hts it_9 hown hK hP hi_3 hF_55 rfl 0 (by decide) (hE.nest kn_7) (fun _ h9 => h9) rfl dX7_isFieldList_61 ?_
      refine lv_iload_n hx hb dX7_isFieldList_64 rfl (lv_at hl 2 rfl) ?_
      refine lv_iload hx hb dX7_isFieldList_65 (lv_at hl 0 rfl) ?_
      have hFc := pg_free hD hS hA
      refine va_calli (va_runS (As := [.ref sx, .int u2, .int (nI j)]) (rest := []) ⟨hx, hb, hml, hown, hts⟩ (s_X4_isFieldName l dC dI cs ty L H.size F sx (ρ + 3) r_49 3000 u2 (nI j) hW hi_45 ht_50) ⟨callB_of 3 hts (gi kt_217) rfl rfl rfl (hts _ kt_211) (hts _ kt_320) (by decide +kernel) ⟨Nat.le_of_ble_eq_true rfl, Nat.le_of_ble_eq_true rfl⟩, (hts _ kt_219)⟩ ⟨fun a U g mk q => ⟨q.1, PT.calling q.2⟩, fun U hU hWm => ⟨rfl, PT.mk hU hWm hP hK hD hE hO⟩⟩ rfl rfl hl.1 rfl (lv_room (Nat.le_of_ble_eq_true rfl)) dX7_isFieldList_67 ⟨by show _ + 0 ≤ 0; omega, by show _ + 0 ≤ 0; omega⟩) hS (fun q _ h => hFc q h) hFc (fun r_73 u t H1 locs ht hvm hw hB hz1 hk1 hS => ?_)
      obtain ⟨F_74, hB1⟩ := hB
      obtain rfl : F = F_74 := (funext (fun a => hB1.2.2.2 a List.not_mem_nil)).symm
      obtain ⟨hP, hD, hO, hR⟩ := QT.back hB1 ht hFc hR (fun q h => absurd h List.not_mem_nil)
      generalize H1 = H at hP hS ⊢
      have hw : (r_73 = 0 ∨ r_73 = 1) := hw
      have hw_75 := hw
      refine lv_if_ne (tgt := 75) hx hb dX7_isFieldList_70 (by decide) (fun c_76 => ?_) (fun c_76 => ?_)
      ·
        refine lv_iload_n hx hb dX7_isFieldList_75 rfl (lv_at hl 3 rfl) ?_
        refine lv_if_ne (tgt := 89) hx hb dX7_isFieldList_76 (by decide) (fun c_77 => ?_) (fun c_77 => ?_)
        ·
          refine lv_iconst (v := 1) hx hb dX7_isFieldList_89 (by decide) ?_
          refine lv_goto (tgt := 94) hx hb dX7_isFieldList_90 (by decide) ?_
          refine lv_istore_n (lv' := [(1, .int 1), (4, .int (nI j)), (3, .int (nI k_64)), (2, .int u2), (0, .ref h0)]) hx hb dX7_isFieldList_94 rfl hl (by decide) rfl (fun ls hl => ?_)
          refine lv_iload hx hb dX7_isFieldList_95 (lv_at hl 1 rfl) ?_
          refine lv_iconst (v := 1) hx hb dX7_isFieldList_97 (by decide) ?_
          refine lv_iadd hx hb dX7_isFieldList_98 ?_
          refine lv_topi (fun x_78 _ => ?_)
          refine lv_istore_n (lv' := [(2, .int x_78), (1, .int 1), (4, .int (nI j)), (3, .int (nI k_64)), (0, .ref h0)]) hx hb dX7_isFieldList_99 rfl hl (by decide) rfl (fun ls hl => ?_)
          refine lv_iinc (v := (nI (j + 1))) (lv' := [(4, .int (nI (j + 1))), (2, .int x_78), (1, .int 1), (3, .int (nI k_64)), (0, .ref h0)]) hx hb dX7_isFieldList_100 hl (k := 2) rfl (nI_1 _) (by decide) rfl (fun ls hl => ?_)
          refine lv_goto (tgt := 25) hx hb dX7_isFieldList_103 (by decide) ?_
          refine W.widen (k := 0) (n := 0) (by omega) (by omega) ?_
          exact ih_67 ((j + 1), 1, x_78) F (⟨by omega, Or.inr rfl⟩) (by show 10003 - (j + 1) < 10003 - j; omega) hO hR _ _ hP hD hS ls (lv_sub hl [0, 3, 1, 2, 4] rfl)
        ·
          refine lv_aload_n hx hb dX7_isFieldList_79 rfl (lv_at hl 4 rfl) ?_
          refine lv_iload_n hx hb dX7_isFieldList_80 rfl (lv_at hl 2 rfl) ?_
          refine lv_iload hx hb dX7_isFieldList_81 (lv_at hl 0 rfl) ?_
          have hFc := pg_free hD hS hA
          refine va_calli (va_runV (As := [.int u2, .int (nI j)]) (rest := []) ⟨hx, hb, hml, hown, hts⟩ (s_X7_isFrom l dC dI cs ty L H.size F h0 ρ d δ ea sl sx sy0 sy1 sy2 ke kx ky0 ky1 ky2 w0 w1 w2 w3 w4 w5 w6 w7 w8 tk hs ha hbb hcc pw px py pz pu u2 (nI j) hW hL_h0 hT_h0) ⟨callB_of 2 hts (gi kt_321) rfl rfl rfl (hts _ kt_322) (hts _ kt_323) (by decide +kernel) ⟨Nat.le_of_ble_eq_true rfl, Nat.le_of_ble_eq_true rfl⟩, (hts _ kt_324), (hts _ kt_325)⟩ ⟨fun a U g mk q => ⟨q.1, PTE.calling q.2⟩, pg_recv hK hP hL_h0 hF_42 (q := (RX7, TX7, 17)) rfl, fun U hU hWm => ⟨rfl, PTE.mk hU hWm hP hK hD hE hO hG (fun x hx => absurd hx List.not_mem_nil) hS hFc⟩⟩ rfl rfl hl.1 rfl (lv_room (Nat.le_of_ble_eq_true rfl)) dX7_isFieldList_83 ⟨by show _ + 0 ≤ 0; omega, by show _ + 0 ≤ 0; omega⟩) hS (fun q _ h => hFc q h) hFc (fun r_79 u t H1 locs ht hvm hw hB hz1 hk1 hS => ?_)
          obtain ⟨F_80, hB1⟩ := hB
          obtain rfl : F = F_80 := (funext (fun a => hB1.2.2.2 a List.not_mem_nil)).symm
          obtain ⟨hP, hD, hO, hR⟩ := QT.back hB1 ht hFc hR (fun q h => absurd h List.not_mem_nil)
          generalize H1 = H at hP hS ⊢
          have hw : (r_79 = 0 ∨ r_79 = 1) := hw
          have hw_81 := hw
          refine lv_if_eq (tgt := 93) hx hb dX7_isFieldList_86 (by decide) (fun c_82 => ?_) (fun c_82 => ?_)
          ·
            refine lv_iconst (v := 0) hx hb dX7_isFieldList_93 (by decide) ?_
            refine lv_istore_n (lv' := [(1, .int 0), (4, .int (nI j)), (3, .int (nI k_64)), (2, .int u2), (0, .ref h0)]) hx hb dX7_isFieldList_94 rfl hl (by decide) rfl (fun ls hl => ?_)
            refine lv_iload hx hb dX7_isFieldList_95 (lv_at hl 1 rfl) ?_
            refine lv_iconst (v := 1) hx hb dX7_isFieldList_97 (by decide) ?_
            refine lv_iadd hx hb dX7_isFieldList_98 ?_
            refine lv_topi (fun x_83 _ => ?_)
            refine lv_istore_n (lv' := [(2, .int x_83), (1, .int 0), (4, .int (nI j)), (3, .int (nI k_64)), (0, .ref h0)]) hx hb dX7_isFieldList_99 rfl hl (by decide) rfl (fun ls hl => ?_)
            refine lv_iinc (v := (nI (j + 1))) (lv' := [(4, .int (nI (j + 1))), (2, .int x_83), (1, .int 0), (3, .int (nI k_64)), (0, .ref h0)]) hx hb dX7_isFieldList_100 hl (k := 2) rfl (nI_1 _) (by decide) rfl (fun ls hl => ?_)
            refine lv_goto (tgt := 25) hx hb dX7_isFieldList_103 (by decide) ?_
            refine W.widen (k := 0) (n := 0) (by omega) (by omega) ?_
            exact ih_67 ((j + 1), 0, x_83) F (⟨by omega, Or.inl rfl⟩) (by show 10003 - (j + 1) < 10003 - j; omega) hO hR _ _ hP hD hS ls (lv_sub hl [0, 3, 1, 2, 4] rfl)
          ·
            refine lv_iconst (v := 1) hx hb dX7_isFieldList_89 (by decide) ?_
            refine lv_goto (tgt := 94) hx hb dX7_isFieldList_90 (by decide) ?_
            refine lv_istore_n (lv' := [(1, .int 1), (4, .int (nI j)), (3, .int (nI k_64)), (2, .int u2), (0, .ref h0)]) hx hb dX7_isFieldList_94 rfl hl (by decide) rfl (fun ls hl => ?_)
            refine lv_iload hx hb dX7_isFieldList_95 (lv_at hl 1 rfl) ?_
            refine lv_iconst (v := 1) hx hb dX7_isFieldList_97 (by decide) ?_
            refine lv_iadd hx hb dX7_isFieldList_98 ?_
            refine lv_topi (fun x_84 _ => ?_)
            refine lv_istore_n (lv' := [(2, .int x_84), (1, .int 1), (4, .int (nI j)), (3, .int (nI k_64)), (0, .ref h0)]) hx hb dX7_isFieldList_99 rfl hl (by decide) rfl (fun ls hl => ?_)
            refine lv_iinc (v := (nI (j + 1))) (lv' := [(4, .int (nI (j + 1))), (2, .int x_84), (1, .int 1), (3, .int (nI k_64)), (0, .ref h0)]) hx hb dX7_isFieldList_100 hl (k := 2) rfl (nI_1 _) (by decide) rfl (fun ls hl => ?_)
            refine lv_goto (tgt := 25) hx hb dX7_isFieldList_103 (by decide) ?_
            refine W.widen (k := 0) (n := 0) (by omega) (by omega) ?_
            exact ih_67 ((j + 1), 1, x_84) F (⟨by omega, Or.inr rfl⟩) (by show 10003 - (j + 1) < 10003 - j; omega) hO hR _ _ hP hD hS ls (lv_sub hl [0, 3, 1, 2, 4] rfl)
      ·
        refine lv_iconst (v := 0) hx hb dX7_isFieldList_73 (by decide) ?_
        refine W.widen (k := 0) (n := 0) (by omega) (by omega) ?_
        exact W.zret (v := 0) (ty := .boolean) hx hb hr (by decide) (fun t ht hWm => ⟨⟨0, (), rfl, (by first | exact Or.inl rfl | exact Or.inr rfl), ⟨F, QT.mk ht hP hD hO hR⟩⟩, hS.F ht⟩) hS.2.2 dX7_isFieldList_74
    ·
      have hi_85 : j < k_64 := ltN (N := k_64) c_71
      refine lv_aload_n hx hb dX7_isFieldList_37 rfl (lv_at hl 4 rfl) ?_
      refine pg_get (ci := 7) (v := .ref sl) (C := RX7) (T := TX7) (N := 17) hx hb hts it_7 hown hK hP hL_h0 hF_42 rfl 1 (by decide) (hts _ kt_307) (fun _ h9 => h9) rfl dX7_isFieldList_38 ?_
      refine pg_getN (ci := 9) (v := .ref sx) (C := RX9) (T := TX9) (N := 5) hx hb hts it_9 hown hK hP hi_3 hF_55 rfl 0 (by decide) (hE.nest kn_7) (fun _ h9 => h9) rfl dX7_isFieldList_41 ?_
      refine lv_iload hx hb dX7_isFieldList_44 (lv_at hl 0 rfl) ?_
      have hFc := pg_free hD hS hA
      obtain ⟨hi_86, ht_87, hq_88⟩ := hW.bytes hi_45 ht_50
      obtain ⟨z_89, o_90, hF_91, hq_92, hq_93⟩ := hO.bytes hi_45 ht_50
      refine va_calli (va_runV (As := [.int (nI j)]) (rest := []) ⟨hx, hb, hml, hown, hts⟩ (s_X0_at l dC dI cs ty L H.size F sx (ρ + 3) r_49 3000 (nI j) hW hi_45 ht_50) ⟨callB_of 1 hts (gi kt_21) rfl rfl rfl (hts _ kt_1) (hts _ kt_305) (by decide +kernel) ⟨Nat.le_of_ble_eq_true rfl, Nat.le_of_ble_eq_true rfl⟩, (hts _ kt_23), (hts _ kt_24)⟩ ⟨fun a U g mk q => ⟨q.1, PT.calling q.2⟩, pg_recv hK hP hi_45 hF_91 (q := (RX0, TX0, 3)) rfl, fun U hU hWm => ⟨rfl, PT.mk hU hWm hP hK hD hE hO⟩⟩ rfl rfl hl.1 rfl (lv_room (Nat.le_of_ble_eq_true rfl)) dX7_isFieldList_46 ⟨by show _ + 0 ≤ 0; omega, by show _ + 0 ≤ 0; omega⟩) hS (fun q _ h => hFc q h) hFc (fun r_94 u t H1 locs ht hvm hw hB hz1 hk1 hS => ?_)
      obtain ⟨F_95, hB1⟩ := hB
      obtain rfl : F = F_95 := (funext (fun a => hB1.2.2.2 a List.not_mem_nil)).symm
      obtain ⟨hP, hD, hO, hR⟩ := QT.back hB1 ht hFc hR (fun q h => absurd h List.not_mem_nil)
      generalize H1 = H at hP hS ⊢
      have hw : True := hw
      have hw_96 := hw
      refine lv_bipush (v := 58) hx hb dX7_isFieldList_49 (by decide) ?_
      refine lv_icmp_eq (tgt := 57) hx hb dX7_isFieldList_51 (by decide) (fun c_97 => ?_) (fun c_97 => ?_)
      ·
        refine lv_aload_n hx hb dX7_isFieldList_57 rfl (lv_at hl 4 rfl) ?_
        refine pg_get (ci := 7) (v := .ref sl) (C := RX7) (T := TX7) (N := 17) hx hb hts it_7 hown hK hP hL_h0 hF_42 rfl 1 (by decide) (hts _ kt_307) (fun _ h9 => h9) rfl dX7_isFieldList_58 ?_
        refine pg_getN (ci := 9) (v := .ref sx) (C := RX9) (T := TX9) (N := 5) hx hb hts it_9 hown hK hP hi_3 hF_55 rfl 0 (by decide) (hE.nest kn_7) (fun _ h9 => h9) rfl dX7_isFieldList_61 ?_
        refine lv_iload_n hx hb dX7_isFieldList_64 rfl (lv_at hl 2 rfl) ?_
        refine lv_iload hx hb dX7_isFieldList_65 (lv_at hl 0 rfl) ?_
        have hFc := pg_free hD hS hA
        refine va_calli (va_runS (As := [.ref sx, .int u2, .int (nI j)]) (rest := []) ⟨hx, hb, hml, hown, hts⟩ (s_X4_isFieldName l dC dI cs ty L H.size F sx (ρ + 3) r_49 3000 u2 (nI j) hW hi_45 ht_50) ⟨callB_of 3 hts (gi kt_217) rfl rfl rfl (hts _ kt_211) (hts _ kt_320) (by decide +kernel) ⟨Nat.le_of_ble_eq_true rfl, Nat.le_of_ble_eq_true rfl⟩, (hts _ kt_219)⟩ ⟨fun a U g mk q => ⟨q.1, PT.calling q.2⟩, fun U hU hWm => ⟨rfl, PT.mk hU hWm hP hK hD hE hO⟩⟩ rfl rfl hl.1 rfl (lv_room (Nat.le_of_ble_eq_true rfl)) dX7_isFieldList_67 ⟨by show _ + 0 ≤ 0; omega, by show _ + 0 ≤ 0; omega⟩) hS (fun q _ h => hFc q h) hFc (fun r_98 u t H1 locs ht hvm hw hB hz1 hk1 hS => ?_)
        obtain ⟨F_99, hB1⟩ := hB
        obtain rfl : F = F_99 := (funext (fun a => hB1.2.2.2 a List.not_mem_nil)).symm
        obtain ⟨hP, hD, hO, hR⟩ := QT.back hB1 ht hFc hR (fun q h => absurd h List.not_mem_nil)
        generalize H1 = H at hP hS ⊢
        have hw : (r_98 = 0 ∨ r_98 = 1) := hw
        have hw_100 := hw
        refine lv_if_ne (tgt := 75) hx hb dX7_isFieldList_70 (by decide) (fun c_101 => ?_) (fun c_101 => ?_)
        ·
          refine lv_iload_n hx hb dX7_isFieldList_75 rfl (lv_at hl 3 rfl) ?_
          refine lv_if_ne (tgt := 89) hx hb dX7_isFieldList_76 (by decide) (fun c_102 => ?_) (fun c_102 => ?_)
          ·
            refine lv_iconst (v := 1) hx hb dX7_isFieldList_89 (by decide) ?_
            refine lv_goto (tgt := 94) hx hb dX7_isFieldList_90 (by decide) ?_
            refine lv_istore_n (lv' := [(1, .int 1), (4, .int (nI j)), (3, .int (nI k_64)), (2, .int u2), (0, .ref h0)]) hx hb dX7_isFieldList_94 rfl hl (by decide) rfl (fun ls hl => ?_)
            refine lv_iload hx hb dX7_isFieldList_95 (lv_at hl 1 rfl) ?_
            refine lv_iconst (v := 1) hx hb dX7_isFieldList_97 (by decide) ?_
            refine lv_iadd hx hb dX7_isFieldList_98 ?_
            refine lv_topi (fun x_103 _ => ?_)
            refine lv_istore_n (lv' := [(2, .int x_103), (1, .int 1), (4, .int (nI j)), (3, .int (nI k_64)), (0, .ref h0)]) hx hb dX7_isFieldList_99 rfl hl (by decide) rfl (fun ls hl => ?_)
            refine lv_iinc (v := (nI (j + 1))) (lv' := [(4, .int (nI (j + 1))), (2, .int x_103), (1, .int 1), (3, .int (nI k_64)), (0, .ref h0)]) hx hb dX7_isFieldList_100 hl (k := 2) rfl (nI_1 _) (by decide) rfl (fun ls hl => ?_)
            refine lv_goto (tgt := 25) hx hb dX7_isFieldList_103 (by decide) ?_
            refine W.widen (k := 0) (n := 0) (by omega) (by omega) ?_
            exact ih_67 ((j + 1), 1, x_103) F (⟨by omega, Or.inr rfl⟩) (by show 10003 - (j + 1) < 10003 - j; omega) hO hR _ _ hP hD hS ls (lv_sub hl [0, 3, 1, 2, 4] rfl)
          ·
            refine lv_aload_n hx hb dX7_isFieldList_79 rfl (lv_at hl 4 rfl) ?_
            refine lv_iload_n hx hb dX7_isFieldList_80 rfl (lv_at hl 2 rfl) ?_
            refine lv_iload hx hb dX7_isFieldList_81 (lv_at hl 0 rfl) ?_
            have hFc := pg_free hD hS hA
            refine va_calli (va_runV (As := [.int u2, .int (nI j)]) (rest := []) ⟨hx, hb, hml, hown, hts⟩ (s_X7_isFrom l dC dI cs ty L H.size F h0 ρ d δ ea sl sx sy0 sy1 sy2 ke kx ky0 ky1 ky2 w0 w1 w2 w3 w4 w5 w6 w7 w8 tk hs ha hbb hcc pw px py pz pu u2 (nI j) hW hL_h0 hT_h0) ⟨callB_of 2 hts (gi kt_321) rfl rfl rfl (hts _ kt_322) (hts _ kt_323) (by decide +kernel) ⟨Nat.le_of_ble_eq_true rfl, Nat.le_of_ble_eq_true rfl⟩, (hts _ kt_324), (hts _ kt_325)⟩ ⟨fun a U g mk q => ⟨q.1, PTE.calling q.2⟩, pg_recv hK hP hL_h0 hF_42 (q := (RX7, TX7, 17)) rfl, fun U hU hWm => ⟨rfl, PTE.mk hU hWm hP hK hD hE hO hG (fun x hx => absurd hx List.not_mem_nil) hS hFc⟩⟩ rfl rfl hl.1 rfl (lv_room (Nat.le_of_ble_eq_true rfl)) dX7_isFieldList_83 ⟨by show _ + 0 ≤ 0; omega, by show _ + 0 ≤ 0; omega⟩) hS (fun q _ h => hFc q h) hFc (fun r_104 u t H1 locs ht hvm hw hB hz1 hk1 hS => ?_)
            obtain ⟨F_105, hB1⟩ := hB
            obtain rfl : F = F_105 := (funext (fun a => hB1.2.2.2 a List.not_mem_nil)).symm
            obtain ⟨hP, hD, hO, hR⟩ := QT.back hB1 ht hFc hR (fun q h => absurd h List.not_mem_nil)
            generalize H1 = H at hP hS ⊢
            have hw : (r_104 = 0 ∨ r_104 = 1) := hw
            have hw_106 := hw
            refine lv_if_eq (tgt := 93) hx hb dX7_isFieldList_86 (by decide) (fun c_107 => ?_) (fun c_107 => ?_)
            ·
              refine lv_iconst (v := 0) hx hb dX7_isFieldList_93 (by decide) ?_
              refine lv_istore_n (lv' := [(1, .int 0), (4, .int (nI j)), (3, .int (nI k_64)), (2, .int u2), (0, .ref h0)]) hx hb dX7_isFieldList_94 rfl hl (by decide) rfl (fun ls hl => ?_)
              refine lv_iload hx hb dX7_isFieldList_95 (lv_at hl 1 rfl) ?_
              refine lv_iconst (v := 1) hx hb dX7_isFieldList_97 (by decide) ?_
              refine lv_iadd hx hb dX7_isFieldList_98 ?_
              refine lv_topi (fun x_108 _ => ?_)
              refine lv_istore_n (lv' := [(2, .int x_108), (1, .int 0), (4, .int (nI j)), (3, .int (nI k_64)), (0, .ref h0)]) hx hb dX7_isFieldList_99 rfl hl (by decide) rfl (fun ls hl => ?_)
              refine lv_iinc (v := (nI (j + 1))) (lv' := [(4, .int (nI (j + 1))), (2, .int x_108), (1, .int 0), (3, .int (nI k_64)), (0, .ref h0)]) hx hb dX7_isFieldList_100 hl (k := 2) rfl (nI_1 _) (by decide) rfl (fun ls hl => ?_)
              refine lv_goto (tgt := 25) hx hb dX7_isFieldList_103 (by decide) ?_
              refine W.widen (k := 0) (n := 0) (by omega) (by omega) ?_
              exact ih_67 ((j + 1), 0, x_108) F (⟨by omega, Or.inl rfl⟩) (by show 10003 - (j + 1) < 10003 - j; omega) hO hR _ _ hP hD hS ls (lv_sub hl [0, 3, 1, 2, 4] rfl)
            ·
              refine lv_iconst (v := 1) hx hb dX7_isFieldList_89 (by decide) ?_
              refine lv_goto (tgt := 94) hx hb dX7_isFieldList_90 (by decide) ?_
              refine lv_istore_n (lv' := [(1, .int 1), (4, .int (nI j)), (3, .int (nI k_64)), (2, .int u2), (0, .ref h0)]) hx hb dX7_isFieldList_94 rfl hl (by decide) rfl (fun ls hl => ?_)
              refine lv_iload hx hb dX7_isFieldList_95 (lv_at hl 1 rfl) ?_
              refine lv_iconst (v := 1) hx hb dX7_isFieldList_97 (by decide) ?_
              refine lv_iadd hx hb dX7_isFieldList_98 ?_
              refine lv_topi (fun x_109 _ => ?_)
              refine lv_istore_n (lv' := [(2, .int x_109), (1, .int 1), (4, .int (nI j)), (3, .int (nI k_64)), (0, .ref h0)]) hx hb dX7_isFieldList_99 rfl hl (by decide) rfl (fun ls hl => ?_)
              refine lv_iinc (v := (nI (j + 1))) (lv' := [(4, .int (nI (j + 1))), (2, .int x_109), (1, .int 1), (3, .int (nI k_64)), (0, .ref h0)]) hx hb dX7_isFieldList_100 hl (k := 2) rfl (nI_1 _) (by decide) rfl (fun ls hl => ?_)
              refine lv_goto (tgt := 25) hx hb dX7_isFieldList_103 (by decide) ?_
              refine W.widen (k := 0) (n := 0) (by omega) (by omega) ?_
              exact ih_67 ((j + 1), 1, x_109) F (⟨by omega, Or.inr rfl⟩) (by show 10003 - (j + 1) < 10003 - j; omega) hO hR _ _ hP hD hS ls (lv_sub hl [0, 3, 1, 2, 4] rfl)
        ·
          refine lv_iconst (v := 0) hx hb dX7_isFieldList_73 (by decide) ?_
          refine W.widen (k := 0) (n := 0) (by omega) (by omega) ?_
          exact W.zret (v := 0) (ty := .boolean) hx hb hr (by decide) (fun t ht hWm => ⟨⟨0, (), rfl, (by first | exact Or.inl rfl | exact Or.inr rfl), ⟨F, QT.mk ht hP hD hO hR⟩⟩, hS.F ht⟩) hS.2.2 dX7_isFieldList_74
      ·
        refine lv_goto (tgt := 100) hx hb dX7_isFieldList_54 (by decide) ?_
        refine lv_iinc (v := (nI (j + 1))) (lv' := [(4, .int (nI (j + 1))), (3, .int (nI k_64)), (2, .int u2), (1, .int u1), (0, .ref h0)]) hx hb dX7_isFieldList_100 hl (k := 0) rfl (nI_1 _) (by decide) rfl (fun ls hl => ?_)
        refine lv_goto (tgt := 25) hx hb dX7_isFieldList_103 (by decide) ?_
        refine W.widen (k := 0) (n := 0) (by omega) (by omega) ?_
        exact ih_67 ((j + 1), u1, u2) F (⟨by omega, hv2⟩) (by show 10003 - (j + 1) < 10003 - j; omega) hO hR _ _ hP hD hS ls (lv_sub hl [0, 1, 2, 3, 4] rfl)
set_option maxHeartbeats 4000000 in
set_option maxRecDepth 100000 in
theorem s_X7_readPlainness (l : Launch) (dC : Nat → ClassId) (dI : Nat → Nat → Nat) (cs : Nat → ClassId) (ty : TyM) (L : List Nat) (sz : Nat) (F : Nat → va_E) (h0 : Nat) (ρ : Nat) (d : Nat) (δ : Nat) (ea : Nat) (sl : Nat) (sx : Nat) (sy0 : Nat) (sy1 : Nat) (sy2 : Nat) (ke : Nat) (kx : Nat) (ky0 : Nat) (ky1 : Nat) (ky2 : Nat) (w0 : Nat) (w1 : Nat) (w2 : Nat) (w3 : Nat) (w4 : Nat) (w5 : Nat) (w6 : Nat) (w7 : Nat) (w8 : Nat) (tk : Nat) (hs : Nat) (ha : Nat) (hbb : Nat) (hcc : Nat) (pw : Nat) (px : Nat) (py : Nat) (pz : Nat) (pu : Nat) (hW : WT ty L) (hL_h0 : h0 ∈ L) (hT_h0 : ty h0 = (7, ρ, [d, δ, ea, sl, sx, sy0, sy1, sy2, ke, kx, ky0, ky1, ky2, w0, w1, w2, w3, w4, w5, w6, w7, w8, tk, hs, ha, hbb, hcc, pw, px, py, pz, pu])) : Met l yX7_readPlainness (.code yX7_readPlainness cX7_readPlainness 4 (some .boolean) :: tb) ({ frames := 7, cells := 0, slots := 0, locals := 153 }) (va_Pc [.ref h0] (PTE (dC, dI) cs ty L F sz [])) (va_Qi (fun (r : Int32) (_ : Unit) => (r = 0 ∨ r = 1)) (fun _ T9 => ∃ F2 : Nat → va_E, QT (dC, dI) cs ty L [ρ] F F2 (va_A (va_pl L F) sz) T9) (va_A (va_pl L F) sz)) 0 0 (va_A (va_pl L F) sz) := by
  refine Met.ofW (cc := cX7_readPlainness) (maxL := 4) (ret := (some .boolean)) (by decide) rfl ?_
  intro p e s m args below meth c s₁ B hml hv
  obtain ⟨rfl, ⟨hsz, hP, hK, hD0, hE, hO⟩, hG, hX⟩ := hv
  have hx := B.exec
  have hb := B.bytes
  have hr := B.returns
  have hts : ∀ w ∈ tb, w.before _ s = true := fun w h => atoms_spec (ws := .code yX7_readPlainness cX7_readPlainness 4 (some .boolean) :: tb) B.pre w (List.mem_cons_of_mem _ h)
  have hown : s.vm.findClass RX7 = some m.cls := findClass_of_methodNamed B.named
  have hlocks := B.notSynchronized
  subst hsz
  have hD := hD0.self (sz := s.heap.size)
  generalize hAe : va_A (va_pl L F) s.heap.size = A at hD hG hX ⊢
  have hA : ∀ q : Nat, s.heap.size ≤ q → A q := fun q h => by rw [← hAe]; exact Or.inr h
  have hS : va_S A s.heap s.heap [] := va_S.rf
  have hR : FR ty [ρ] F F := FR.refl
  have hl := lv_entry ([.ref h0]) (n := 4) (Nat.le_of_ble_eq_true rfl)
  rw [lg_entry_eq]
  generalize (lg_sl ([.ref h0]) ++ List.replicate (4 - (lg_sl ([.ref h0])).length) Slot.unset).toArray = ls at hl ⊢
  have hl : lv_has ls 4 [(0, .ref h0)] := hl
  refine lv_aload_n hx hb dX7_readPlainness_0 rfl (lv_at hl 0 rfl) ?_
  refine lv_iconst (v := 0) hx hb dX7_readPlainness_1 (by decide) ?_
  obtain ⟨hi_1, ht_2, hi_3, ht_4, hi_5, ht_6, hi_7, ⟨r_8, ht_9⟩, hi_10, ⟨r_11, ht_12⟩, hi_13, ⟨r_14, ht_15⟩, hi_16, ⟨r_17, ht_18⟩, hi_19, ⟨r_20, ht_21⟩, hi_22, ⟨r_23, ht_24⟩, hi_25, ⟨r_26, ht_27⟩, hi_28, ⟨r_29, ht_30⟩, hi_31, ⟨r_32, ht_33⟩, hi_34, ht_35, hi_36, ht_37, hi_38, ht_39⟩ := hW.slr hL_h0 hT_h0
  obtain ⟨v0_40, v1_41, hF_42⟩ := hO.slr hL_h0 hT_h0
  refine pg_put (ci := 7) (v := .int 0) (ty := .boolean) (C := RX7) (T := TX7) (N := 17) hx hb hts it_7 tyX7 tyX7_ok nmX7 hown hK hP hD hS hL_h0 hF_42 rfl 15 (by decide) (hts _ kt_326) (fun _ h9 => h9) rfl (by decide +kernel) (rfl) (rfl) (Nat.le_of_ble_eq_true rfl) dX7_readPlainness_2 (fun H locs hP hD hS => ?_)
  obtain ⟨F_43, he_44, hP, hD, hO, hR⟩ : ∃ G, G = va_up F h0 (.inr (7, [.ref d, .ref sl, .ref ke, .ref w0, .ref w1, .ref w2, .ref w3, .ref w4, .ref w5, .ref w6, .ref w7, .ref w8, .ref tk, .ref hs, .ref pw, .int 0, .int v1_41])) ∧ va_P (dC, dI) vwCl (va_pl L G) H ∧ va_D A (va_pl L G) ∧ OK cs ty L G ∧ FR ty [ρ] F G := ⟨_, rfl, hP, hD, hO.up (sh.slr hT_h0 ⟨0, v1_41, rfl⟩), hR.up hT_h0 (by simp)⟩
  have hF_45 : F_43 h0 = .inr (7, [.ref d, .ref sl, .ref ke, .ref w0, .ref w1, .ref w2, .ref w3, .ref w4, .ref w5, .ref w6, .ref w7, .ref w8, .ref tk, .ref hs, .ref pw, .int 0, .int v1_41]) := by rw [he_44]; exact up_self
  refine lv_aload_n hx hb dX7_readPlainness_5 rfl (lv_at hl 0 rfl) ?_
  refine lv_iconst (v := 0) hx hb dX7_readPlainness_6 (by decide) ?_
  refine pg_put (ci := 7) (v := .int 0) (ty := .boolean) (C := RX7) (T := TX7) (N := 17) hx hb hts it_7 tyX7 tyX7_ok nmX7 hown hK hP hD hS hL_h0 hF_45 rfl 16 (by decide) (hts _ kt_327) (fun _ h9 => h9) rfl (by decide +kernel) (rfl) (rfl) (Nat.le_of_ble_eq_true rfl) dX7_readPlainness_7 (fun H locs hP hD hS => ?_)
  obtain ⟨F_46, he_47, hP, hD, hO, hR⟩ : ∃ G, G = va_up F_43 h0 (.inr (7, [.ref d, .ref sl, .ref ke, .ref w0, .ref w1, .ref w2, .ref w3, .ref w4, .ref w5, .ref w6, .ref w7, .ref w8, .ref tk, .ref hs, .ref pw, .int 0, .int 0])) ∧ va_P (dC, dI) vwCl (va_pl L G) H ∧ va_D A (va_pl L G) ∧ OK cs ty L G ∧ FR ty [ρ] F G := ⟨_, rfl, hP, hD, hO.up (sh.slr hT_h0 ⟨0, 0, rfl⟩), hR.up hT_h0 (by simp)⟩
  have hF_48 : F_46 h0 = .inr (7, [.ref d, .ref sl, .ref ke, .ref w0, .ref w1, .ref w2, .ref w3, .ref w4, .ref w5, .ref w6, .ref w7, .ref w8, .ref tk, .ref hs, .ref pw, .int 0, .int 0]) := by rw [he_47]; exact up_self
  refine lv_aload_n hx hb dX7_readPlainness_10 rfl (lv_at hl 0 rfl) ?_
  refine pg_get (ci := 7) (v := .ref sl) (C := RX7) (T := TX7) (N := 17) hx hb hts it_7 hown hK hP hL_h0 hF_48 rfl 1 (by decide) (hts _ kt_307) (fun _ h9 => h9) rfl dX7_readPlainness_11 ?_
  obtain ⟨q_49, v_50, hr_q_49, hXc_q_49⟩ := hG.2.2.2.2 ("PostGate$Sealer", 190, "c", [99]) (by decide +kernel)
  have hXc_q_49 : SXc q_49 v_50 1 (cct [99]) A s s.heap := hXc_q_49
  have hX_q_49 : SX q_49 v_50 1 A s s.heap := hXc_q_49.sx
  obtain ⟨xo_q_49, xc_q_49, xv_q_49, xt_q_49, xn_q_49⟩ := id hXc_q_49
  have hr_q_49 : vk_R "PostGate$Sealer" 190 "c" q_49 s := hr_q_49
  refine va_ldcS hx hb hown hr_q_49 dX7_readPlainness_14 ?_
  have hFc := pg_free hD hS hA
  obtain ⟨hi_51, hi_52, hi_53, hi_54, ⟨r_55, ht_56⟩, ht_57, ht_58, ht_59⟩ := hW.tags hi_3 ht_4
  have ht_56 : ty sx = (0, ρ + 3, [r_55, 3000]) := ht_56
  have ht_58 : ty sy1 = (24, ρ + 72, [40]) := ht_58
  have ht_59 : ty sy2 = (24, ρ + 73, [40]) := ht_59
  obtain ⟨z_60, hF_61, hq_62⟩ := hO.tags hi_3 ht_4
  refine va_calli (va_runV (As := [.ref q_49]) (rest := []) ⟨hx, hb, hml, hown, hts⟩ (s_X9_has l dC dI cs ty L H.size F_46 sl (ρ + 2) sx 3000 sy0 sy1 sy2 q_49 v_50 1 hW hi_3 ht_4) ⟨callB_of 1 hts (gi kt_308) rfl rfl rfl (hts _ kt_164) (hts _ kt_309) (by decide +kernel) ⟨Nat.le_of_ble_eq_true rfl, Nat.le_of_ble_eq_true rfl⟩, (hts _ kt_310), (hts _ kt_311)⟩ ⟨fun a U g mk q => ⟨q.1, PTE.calling q.2⟩, pg_recv hK hP hi_3 hF_61 (q := (RX9, TX9, 5)) rfl, fun U hU hWm => ⟨rfl, PTE.mk hU hWm hP hK hD hE hO hG (fun x hx => by rw [List.mem_singleton] at hx; subst hx; exact hX_q_49) hS hFc⟩⟩ rfl rfl hl.1 rfl (lv_room (Nat.le_of_ble_eq_true rfl)) dX7_readPlainness_16 ⟨by show _ + 0 ≤ 0; omega, by show _ + 0 ≤ 0; omega⟩) hS (fun q _ h => hFc q h) hFc (fun r_63 u t H1 locs ht hvm hw hB hz1 hk1 hS => ?_)
  obtain ⟨F_64, hB1⟩ := hB
  obtain rfl : F_46 = F_64 := (funext (fun a => hB1.2.2.2 a List.not_mem_nil)).symm
  obtain ⟨hP, hD, hO, hR⟩ := QT.back hB1 ht hFc hR (fun q h => absurd h List.not_mem_nil)
  generalize H1 = H at hP hS ⊢
  have hw : (r_63 = 0 ∨ r_63 = 1) := hw
  have hw_65 := hw
  refine lv_if_ne (tgt := 24) hx hb dX7_readPlainness_19 (by decide) (fun c_66 => ?_) (fun c_66 => ?_)
  ·
    refine lv_aload_n hx hb dX7_readPlainness_24 rfl (lv_at hl 0 rfl) ?_
    refine pg_get (ci := 7) (v := .ref sl) (C := RX7) (T := TX7) (N := 17) hx hb hts it_7 hown hK hP hL_h0 hF_48 rfl 1 (by decide) (hts _ kt_307) (fun _ h9 => h9) rfl dX7_readPlainness_25 ?_
    refine va_ldcS hx hb hown hr_q_49 dX7_readPlainness_28 ?_
    have hFc := pg_free hD hS hA
    refine va_calli (va_runV (As := [.ref q_49]) (rest := []) ⟨hx, hb, hml, hown, hts⟩ (s_X9_endOf l dC dI cs ty L H.size F_46 sl (ρ + 2) sx 3000 sy0 sy1 sy2 q_49 v_50 1 hW hi_3 ht_4) ⟨callB_of 1 hts (gi kt_174) rfl rfl rfl (hts _ kt_164) (hts _ kt_319) (by decide +kernel) ⟨Nat.le_of_ble_eq_true rfl, Nat.le_of_ble_eq_true rfl⟩, (hts _ kt_176), (hts _ kt_177)⟩ ⟨fun a U g mk q => ⟨q.1, PTE.calling q.2⟩, pg_recv hK hP hi_3 hF_61 (q := (RX9, TX9, 5)) rfl, fun U hU hWm => ⟨rfl, PTE.mk hU hWm hP hK hD hE hO hG (fun x hx => by rw [List.mem_singleton] at hx; subst hx; exact hX_q_49) hS hFc⟩⟩ rfl rfl hl.1 rfl (lv_room (Nat.le_of_ble_eq_true rfl)) dX7_readPlainness_30 ⟨by show _ + 0 ≤ 0; omega, by show _ + 0 ≤ 0; omega⟩) hS (fun q _ h => hFc q h) hFc (fun r_67 u t H1 locs ht hvm hw hB hz1 hk1 hS => ?_)
    obtain ⟨F_68, hB1⟩ := hB
    obtain rfl : F_46 = F_68 := (funext (fun a => hB1.2.2.2 a List.not_mem_nil)).symm
    obtain ⟨hP, hD, hO, hR⟩ := QT.back hB1 ht hFc hR (fun q h => absurd h List.not_mem_nil)
    generalize H1 = H at hP hS ⊢
    have hw : (∃ k : Nat, k ≤ 10002 ∧ r_67 = nI k) := hw
    have hw_69 := hw
    refine lv_istore_n (lv' := [(1, .int r_67), (0, .ref h0)]) hx hb dX7_readPlainness_33 rfl hl (by decide) rfl (fun ls hl => ?_)
    refine lv_aload_n hx hb dX7_readPlainness_34 rfl (lv_at hl 1 rfl) ?_
    refine pg_get (ci := 7) (v := .ref sl) (C := RX7) (T := TX7) (N := 17) hx hb hts it_7 hown hK hP hL_h0 hF_48 rfl 1 (by decide) (hts _ kt_307) (fun _ h9 => h9) rfl dX7_readPlainness_35 ?_
    refine va_ldcS hx hb hown hr_q_49 dX7_readPlainness_38 ?_
    have hFc := pg_free hD hS hA
    refine va_calli (va_runV (As := [.ref q_49]) (rest := []) ⟨hx, hb, hml, hown, hts⟩ (s_X9_startOf l dC dI cs ty L H.size F_46 sl (ρ + 2) sx 3000 sy0 sy1 sy2 q_49 v_50 1 hW hi_3 ht_4) ⟨callB_of 1 hts (gi kt_170) rfl rfl rfl (hts _ kt_164) (hts _ kt_318) (by decide +kernel) ⟨Nat.le_of_ble_eq_true rfl, Nat.le_of_ble_eq_true rfl⟩, (hts _ kt_172), (hts _ kt_173)⟩ ⟨fun a U g mk q => ⟨q.1, PTE.calling q.2⟩, pg_recv hK hP hi_3 hF_61 (q := (RX9, TX9, 5)) rfl, fun U hU hWm => ⟨rfl, PTE.mk hU hWm hP hK hD hE hO hG (fun x hx => by rw [List.mem_singleton] at hx; subst hx; exact hX_q_49) hS hFc⟩⟩ rfl rfl hl.1 rfl (lv_room (Nat.le_of_ble_eq_true rfl)) dX7_readPlainness_40 ⟨by show _ + 0 ≤ 0; omega, by show _ + 0 ≤ 0; omega⟩) hS (fun q _ h => hFc q h) hFc (fun r_70 u t H1 locs ht hvm hw hB hz1 hk1 hS => ?_)
    obtain ⟨F_71, hB1⟩ := hB
    obtain rfl : F_46 = F_71 := (funext (fun a => hB1.2.2.2 a List.not_mem_nil)).symm
    obtain ⟨hP, hD, hO, hR⟩ := QT.back hB1 ht hFc hR (fun q h => absurd h List.not_mem_nil)
    generalize H1 = H at hP hS ⊢
    have hw : (∃ k : Nat, k ≤ 10002 ∧ r_70 = nI k) := hw
    have hw_72 := hw
    refine lv_istore_n (lv' := [(2, .int r_70), (1, .int r_67), (0, .ref h0)]) hx hb dX7_readPlainness_43 rfl hl (by decide) rfl (fun ls hl => ?_)
    refine lv_aload_n hx hb dX7_readPlainness_44 rfl (lv_at hl 2 rfl) ?_
    refine pg_get (ci := 7) (v := .ref sl) (C := RX7) (T := TX7) (N := 17) hx hb hts it_7 hown hK hP hL_h0 hF_48 rfl 1 (by decide) (hts _ kt_307) (fun _ h9 => h9) rfl dX7_readPlainness_45 ?_
    refine pg_getN (ci := 9) (v := .ref sx) (C := RX9) (T := TX9) (N := 5) hx hb hts it_9 hown hK hP hi_3 hF_61 rfl 0 (by decide) (hE.nest kn_7) (fun _ h9 => h9) rfl dX7_readPlainness_48 ?_
    refine lv_bipush (v := 47) hx hb dX7_readPlainness_51 (by decide) ?_
    refine lv_iload_n hx hb dX7_readPlainness_53 rfl (lv_at hl 0 rfl) ?_
    refine lv_iload_n hx hb dX7_readPlainness_54 rfl (lv_at hl 1 rfl) ?_
    have hFc := pg_free hD hS hA
    obtain ⟨hi_73, ht_74, hq_75⟩ := hW.bytes hi_51 ht_56
    obtain ⟨z_76, o_77, hF_78, hq_79, hq_80⟩ := hO.bytes hi_51 ht_56
    refine va_calli (va_runV (As := [.int 47, .int r_70, .int r_67]) (rest := []) ⟨hx, hb, hml, hown, hts⟩ (s_X0_find l dC dI cs ty L H.size F_46 sx (ρ + 3) r_55 3000 47 r_70 r_67 hW hi_51 ht_56) ⟨callB_of 3 hts (gi kt_122) rfl rfl rfl (hts _ kt_1) (hts _ kt_328) (by decide +kernel) ⟨Nat.le_of_ble_eq_true rfl, Nat.le_of_ble_eq_true rfl⟩, (hts _ kt_124), (hts _ kt_125)⟩ ⟨fun a U g mk q => ⟨q.1, PT.calling q.2⟩, pg_recv hK hP hi_51 hF_78 (q := (RX0, TX0, 3)) rfl, fun U hU hWm => ⟨rfl, PT.mk hU hWm hP hK hD hE hO⟩⟩ rfl rfl hl.1 rfl (lv_room (Nat.le_of_ble_eq_true rfl)) dX7_readPlainness_55 ⟨by show _ + 0 ≤ 0; omega, by show _ + 0 ≤ 0; omega⟩) hS (fun q _ h => hFc q h) hFc (fun r_81 u t H1 locs ht hvm hw hB hz1 hk1 hS => ?_)
    obtain ⟨F_82, hB1⟩ := hB
    obtain rfl : F_46 = F_82 := (funext (fun a => hB1.2.2.2 a List.not_mem_nil)).symm
    obtain ⟨hP, hD, hO, hR⟩ := QT.back hB1 ht hFc hR (fun q h => absurd h List.not_mem_nil)
    generalize H1 = H at hP hS ⊢
    have hw : (r_81 = r_67 ∨ ∃ j : Nat, j < 3000 ∧ r_81 = nI j) := hw
    have hw_83 := hw
    refine lv_istore_n (lv' := [(3, .int r_81), (2, .int r_70), (1, .int r_67), (0, .ref h0)]) hx hb dX7_readPlainness_58 rfl hl (by decide) rfl (fun ls hl => ?_)
    refine lv_aload_n hx hb dX7_readPlainness_59 rfl (lv_at hl 3 rfl) ?_
    refine lv_aload_n hx hb dX7_readPlainness_60 rfl (lv_at hl 3 rfl) ?_
    refine pg_get (ci := 7) (v := .ref sl) (C := RX7) (T := TX7) (N := 17) hx hb hts it_7 hown hK hP hL_h0 hF_48 rfl 1 (by decide) (hts _ kt_307) (fun _ h9 => h9) rfl dX7_readPlainness_61 ?_
    refine pg_getN (ci := 9) (v := .ref sx) (C := RX9) (T := TX9) (N := 5) hx hb hts it_9 hown hK hP hi_3 hF_61 rfl 0 (by decide) (hE.nest kn_7) (fun _ h9 => h9) rfl dX7_readPlainness_64 ?_
    refine lv_iload_n hx hb dX7_readPlainness_67 rfl (lv_at hl 1 rfl) ?_
    refine lv_iload_n hx hb dX7_readPlainness_68 rfl (lv_at hl 0 rfl) ?_
    obtain ⟨q_84, v_85, hr_q_84, hXc_q_84⟩ := hG.2.2.2.2 ("PostGate$Sealer", 196, "relaxed", [114, 101, 108, 97, 120, 101, 100]) (by decide +kernel)
    have hXc_q_84 : SXc q_84 v_85 7 (cct [114, 101, 108, 97, 120, 101, 100]) A s s.heap := hXc_q_84
    have hX_q_84 : SX q_84 v_85 7 A s s.heap := hXc_q_84.sx
    obtain ⟨xo_q_84, xc_q_84, xv_q_84, xt_q_84, xn_q_84⟩ := id hXc_q_84
    have hr_q_84 : vk_R "PostGate$Sealer" 196 "relaxed" q_84 s := hr_q_84
    refine va_ldcS hx hb hown hr_q_84 dX7_readPlainness_69 ?_
    have hFc := pg_free hD hS hA
    refine va_calli (va_runV (As := [.int r_70, .int r_81, .ref q_84]) (rest := [.ref h0]) ⟨hx, hb, hml, hown, hts⟩ (s_X0_is l dC dI cs ty L H.size F_46 sx (ρ + 3) r_55 3000 q_84 v_85 7 r_70 r_81 hW hi_51 ht_56) ⟨callB_of 3 hts (gi kt_79) rfl rfl rfl (hts _ kt_1) (hts _ kt_329) (by decide +kernel) ⟨Nat.le_of_ble_eq_true rfl, Nat.le_of_ble_eq_true rfl⟩, (hts _ kt_81), (hts _ kt_82)⟩ ⟨fun a U g mk q => ⟨q.1, PTE.calling q.2⟩, pg_recv hK hP hi_51 hF_78 (q := (RX0, TX0, 3)) rfl, fun U hU hWm => ⟨rfl, PTE.mk hU hWm hP hK hD hE hO hG (fun x hx => by rw [List.mem_singleton] at hx; subst hx; exact hX_q_84) hS hFc⟩⟩ rfl rfl hl.1 rfl (lv_room (Nat.le_of_ble_eq_true rfl)) dX7_readPlainness_71 ⟨by show _ + 0 ≤ 0; omega, by show _ + 0 ≤ 0; omega⟩) hS (fun q _ h => hFc q h) hFc (fun r_86 u t H1 locs ht hvm hw hB hz1 hk1 hS => ?_)
    obtain ⟨F_87, hB1⟩ := hB
    obtain rfl : F_46 = F_87 := (funext (fun a => hB1.2.2.2 a List.not_mem_nil)).symm
    obtain ⟨hP, hD, hO, hR⟩ := QT.back hB1 ht hFc hR (fun q h => absurd h List.not_mem_nil)
    generalize H1 = H at hP hS ⊢
    have hw : (r_86 = 0 ∨ r_86 = 1) := hw
    have hw_88 := hw
    refine pg_put (ci := 7) (v := .int r_86) (ty := .boolean) (C := RX7) (T := TX7) (N := 17) hx hb hts it_7 tyX7 tyX7_ok nmX7 hown hK hP hD hS hL_h0 hF_48 rfl 15 (by decide) (hts _ kt_326) (fun _ h9 => h9) rfl (by decide +kernel) (bitN hw_88) (bitF hw_88) (Nat.le_of_ble_eq_true rfl) dX7_readPlainness_74 (fun H locs hP hD hS => ?_)
    obtain ⟨F_89, he_90, hP, hD, hO, hR⟩ : ∃ G, G = va_up F_46 h0 (.inr (7, [.ref d, .ref sl, .ref ke, .ref w0, .ref w1, .ref w2, .ref w3, .ref w4, .ref w5, .ref w6, .ref w7, .ref w8, .ref tk, .ref hs, .ref pw, .int r_86, .int 0])) ∧ va_P (dC, dI) vwCl (va_pl L G) H ∧ va_D A (va_pl L G) ∧ OK cs ty L G ∧ FR ty [ρ] F G := ⟨_, rfl, hP, hD, hO.up (sh.slr hT_h0 ⟨r_86, 0, rfl⟩), hR.up hT_h0 (by simp)⟩
    have hF_91 : F_89 h0 = .inr (7, [.ref d, .ref sl, .ref ke, .ref w0, .ref w1, .ref w2, .ref w3, .ref w4, .ref w5, .ref w6, .ref w7, .ref w8, .ref tk, .ref hs, .ref pw, .int r_86, .int 0]) := by rw [he_90]; exact up_self
    have hF_92 : F_89 sl = .inr (9, [.ref sx, .ref sy0, .ref sy1, .ref sy2, .int (nI z_60)]) := by rw [he_90, up_ne (ne_ty ht_4 hT_h0 (by simp))]; exact hF_61
    have hF_93 : F_89 sx = .inr (0, [.ref r_55, .int (nI z_76), .int o_77]) := by rw [he_90, up_ne (ne_ty ht_56 hT_h0 (by simp))]; exact hF_78
    refine lv_aload_n hx hb dX7_readPlainness_77 rfl (lv_at hl 3 rfl) ?_
    refine lv_aload_n hx hb dX7_readPlainness_78 rfl (lv_at hl 3 rfl) ?_
    refine pg_get (ci := 7) (v := .ref sl) (C := RX7) (T := TX7) (N := 17) hx hb hts it_7 hown hK hP hL_h0 hF_91 rfl 1 (by decide) (hts _ kt_307) (fun _ h9 => h9) rfl dX7_readPlainness_79 ?_
    refine pg_getN (ci := 9) (v := .ref sx) (C := RX9) (T := TX9) (N := 5) hx hb hts it_9 hown hK hP hi_3 hF_92 rfl 0 (by decide) (hE.nest kn_7) (fun _ h9 => h9) rfl dX7_readPlainness_82 ?_
    refine lv_iload_n hx hb dX7_readPlainness_85 rfl (lv_at hl 0 rfl) ?_
    refine lv_iload_n hx hb dX7_readPlainness_86 rfl (lv_at hl 2 rfl) ?_
    obtain ⟨q_94, v_95, hr_q_94, hXc_q_94⟩ := hG.2.2.2.2 ("PostGate$Sealer", 201, "/relaxed", [47, 114, 101, 108, 97, 120, 101, 100]) (by decide +kernel)
    have hXc_q_94 : SXc q_94 v_95 8 (cct [47, 114, 101, 108, 97, 120, 101, 100]) A s s.heap := hXc_q_94
    have hX_q_94 : SX q_94 v_95 8 A s s.heap := hXc_q_94.sx
    obtain ⟨xo_q_94, xc_q_94, xv_q_94, xt_q_94, xn_q_94⟩ := id hXc_q_94
    have hr_q_94 : vk_R "PostGate$Sealer" 201 "/relaxed" q_94 s := hr_q_94
    refine va_ldcS hx hb hown hr_q_94 dX7_readPlainness_87 ?_
    have hFc := pg_free hD hS hA
    refine va_calli (va_runV (As := [.int r_81, .int r_67, .ref q_94]) (rest := [.ref h0]) ⟨hx, hb, hml, hown, hts⟩ (s_X0_is l dC dI cs ty L H.size F_89 sx (ρ + 3) r_55 3000 q_94 v_95 8 r_81 r_67 hW hi_51 ht_56) ⟨callB_of 3 hts (gi kt_79) rfl rfl rfl (hts _ kt_1) (hts _ kt_329) (by decide +kernel) ⟨Nat.le_of_ble_eq_true rfl, Nat.le_of_ble_eq_true rfl⟩, (hts _ kt_81), (hts _ kt_82)⟩ ⟨fun a U g mk q => ⟨q.1, PTE.calling q.2⟩, pg_recv hK hP hi_51 hF_93 (q := (RX0, TX0, 3)) rfl, fun U hU hWm => ⟨rfl, PTE.mk hU hWm hP hK hD hE hO hG (fun x hx => by rw [List.mem_singleton] at hx; subst hx; exact hX_q_94) hS hFc⟩⟩ rfl rfl hl.1 rfl (lv_room (Nat.le_of_ble_eq_true rfl)) dX7_readPlainness_89 ⟨by show _ + 0 ≤ 0; omega, by show _ + 0 ≤ 0; omega⟩) hS (fun q _ h => hFc q h) hFc (fun r_96 u t H1 locs ht hvm hw hB hz1 hk1 hS => ?_)
    obtain ⟨F_97, hB1⟩ := hB
    obtain rfl : F_89 = F_97 := (funext (fun a => hB1.2.2.2 a List.not_mem_nil)).symm
    obtain ⟨hP, hD, hO, hR⟩ := QT.back hB1 ht hFc hR (fun q h => absurd h List.not_mem_nil)
    generalize H1 = H at hP hS ⊢
    have hw : (r_96 = 0 ∨ r_96 = 1) := hw
    have hw_98 := hw
    refine pg_put (ci := 7) (v := .int r_96) (ty := .boolean) (C := RX7) (T := TX7) (N := 17) hx hb hts it_7 tyX7 tyX7_ok nmX7 hown hK hP hD hS hL_h0 hF_91 rfl 16 (by decide) (hts _ kt_327) (fun _ h9 => h9) rfl (by decide +kernel) (bitN hw_98) (bitF hw_98) (Nat.le_of_ble_eq_true rfl) dX7_readPlainness_92 (fun H locs hP hD hS => ?_)
    obtain ⟨F_99, he_100, hP, hD, hO, hR⟩ : ∃ G, G = va_up F_89 h0 (.inr (7, [.ref d, .ref sl, .ref ke, .ref w0, .ref w1, .ref w2, .ref w3, .ref w4, .ref w5, .ref w6, .ref w7, .ref w8, .ref tk, .ref hs, .ref pw, .int r_86, .int r_96])) ∧ va_P (dC, dI) vwCl (va_pl L G) H ∧ va_D A (va_pl L G) ∧ OK cs ty L G ∧ FR ty [ρ] F G := ⟨_, rfl, hP, hD, hO.up (sh.slr hT_h0 ⟨r_86, r_96, rfl⟩), hR.up hT_h0 (by simp)⟩
    have hF_101 : F_99 h0 = .inr (7, [.ref d, .ref sl, .ref ke, .ref w0, .ref w1, .ref w2, .ref w3, .ref w4, .ref w5, .ref w6, .ref w7, .ref w8, .ref tk, .ref hs, .ref pw, .int r_86, .int r_96]) := by rw [he_100]; exact up_self
    have hF_102 : F_99 sl = .inr (9, [.ref sx, .ref sy0, .ref sy1, .ref sy2, .int (nI z_60)]) := by rw [he_100, up_ne (ne_ty ht_4 hT_h0 (by simp))]; exact hF_92
    have hF_103 : F_99 sx = .inr (0, [.ref r_55, .int (nI z_76), .int o_77]) := by rw [he_100, up_ne (ne_ty ht_56 hT_h0 (by simp))]; exact hF_93
    refine lv_aload_n hx hb dX7_readPlainness_95 rfl (lv_at hl 3 rfl) ?_
    refine pg_get (ci := 7) (v := .int r_86) (C := RX7) (T := TX7) (N := 17) hx hb hts it_7 hown hK hP hL_h0 hF_101 rfl 15 (by decide) (hts _ kt_326) (fun _ h9 => h9) rfl dX7_readPlainness_96 ?_
    refine lv_if_ne (tgt := 119) hx hb dX7_readPlainness_99 (by decide) (fun c_104 => ?_) (fun c_104 => ?_)
    ·
      refine lv_aload_n hx hb dX7_readPlainness_119 rfl (lv_at hl 3 rfl) ?_
      refine pg_get (ci := 7) (v := .int r_96) (C := RX7) (T := TX7) (N := 17) hx hb hts it_7 hown hK hP hL_h0 hF_101 rfl 16 (by decide) (hts _ kt_327) (fun _ h9 => h9) rfl dX7_readPlainness_120 ?_
      refine lv_if_ne (tgt := 148) hx hb dX7_readPlainness_123 (by decide) (fun c_105 => ?_) (fun c_105 => ?_)
      ·
        refine lv_iconst (v := 1) hx hb dX7_readPlainness_148 (by decide) ?_
        refine lv_goto (tgt := 153) hx hb dX7_readPlainness_149 (by decide) ?_
        refine W.widen (k := 0) (n := 0) (by omega) (by omega) ?_
        exact W.zret (v := 1) (ty := .boolean) hx hb hr (by decide) (fun t ht hWm => ⟨⟨1, (), rfl, (by first | exact Or.inl rfl | exact Or.inr rfl), ⟨F_99, QT.mk ht hP hD hO hR⟩⟩, hS.F ht⟩) hS.2.2 dX7_readPlainness_153
      ·
        refine lv_iload_n hx hb dX7_readPlainness_126 rfl (lv_at hl 0 rfl) ?_
        refine lv_iload_n hx hb dX7_readPlainness_127 rfl (lv_at hl 2 rfl) ?_
        refine lv_icmp_eq (tgt := 148) hx hb dX7_readPlainness_128 (by decide) (fun c_106 => ?_) (fun c_106 => ?_)
        ·
          refine lv_iconst (v := 1) hx hb dX7_readPlainness_148 (by decide) ?_
          refine lv_goto (tgt := 153) hx hb dX7_readPlainness_149 (by decide) ?_
          refine W.widen (k := 0) (n := 0) (by omega) (by omega) ?_
          exact W.zret (v := 1) (ty := .boolean) hx hb hr (by decide) (fun t ht hWm => ⟨⟨1, (), rfl, (by first | exact Or.inl rfl | exact Or.inr rfl), ⟨F_99, QT.mk ht hP hD hO hR⟩⟩, hS.F ht⟩) hS.2.2 dX7_readPlainness_153
        ·
          refine lv_aload_n hx hb dX7_readPlainness_131 rfl (lv_at hl 3 rfl) ?_
          refine pg_get (ci := 7) (v := .ref sl) (C := RX7) (T := TX7) (N := 17) hx hb hts it_7 hown hK hP hL_h0 hF_101 rfl 1 (by decide) (hts _ kt_307) (fun _ h9 => h9) rfl dX7_readPlainness_132 ?_
          refine pg_getN (ci := 9) (v := .ref sx) (C := RX9) (T := TX9) (N := 5) hx hb hts it_9 hown hK hP hi_3 hF_102 rfl 0 (by decide) (hE.nest kn_7) (fun _ h9 => h9) rfl dX7_readPlainness_135 ?_
          refine lv_iload_n hx hb dX7_readPlainness_138 rfl (lv_at hl 0 rfl) ?_
          refine lv_iload_n hx hb dX7_readPlainness_139 rfl (lv_at hl 2 rfl) ?_
          obtain ⟨q_107, v_108, hr_q_107, hXc_q_107⟩ := hG.2.2.2.2 ("PostGate$Sealer", 205, "/simple", [47, 115, 105, 109, 112, 108, 101]) (by decide +kernel)
          have hXc_q_107 : SXc q_107 v_108 7 (cct [47, 115, 105, 109, 112, 108, 101]) A s s.heap := hXc_q_107
          have hX_q_107 : SX q_107 v_108 7 A s s.heap := hXc_q_107.sx
          obtain ⟨xo_q_107, xc_q_107, xv_q_107, xt_q_107, xn_q_107⟩ := id hXc_q_107
          have hr_q_107 : vk_R "PostGate$Sealer" 205 "/simple" q_107 s := hr_q_107
          refine va_ldcS hx hb hown hr_q_107 dX7_readPlainness_140 ?_
          have hFc := pg_free hD hS hA
          refine va_calli (va_runV (As := [.int r_81, .int r_67, .ref q_107]) (rest := []) ⟨hx, hb, hml, hown, hts⟩ (s_X0_is l dC dI cs ty L H.size F_99 sx (ρ + 3) r_55 3000 q_107 v_108 7 r_81 r_67 hW hi_51 ht_56) ⟨callB_of 3 hts (gi kt_79) rfl rfl rfl (hts _ kt_1) (hts _ kt_329) (by decide +kernel) ⟨Nat.le_of_ble_eq_true rfl, Nat.le_of_ble_eq_true rfl⟩, (hts _ kt_81), (hts _ kt_82)⟩ ⟨fun a U g mk q => ⟨q.1, PTE.calling q.2⟩, pg_recv hK hP hi_51 hF_103 (q := (RX0, TX0, 3)) rfl, fun U hU hWm => ⟨rfl, PTE.mk hU hWm hP hK hD hE hO hG (fun x hx => by rw [List.mem_singleton] at hx; subst hx; exact hX_q_107) hS hFc⟩⟩ rfl rfl hl.1 rfl (lv_room (Nat.le_of_ble_eq_true rfl)) dX7_readPlainness_142 ⟨by show _ + 0 ≤ 0; omega, by show _ + 0 ≤ 0; omega⟩) hS (fun q _ h => hFc q h) hFc (fun r_109 u t H1 locs ht hvm hw hB hz1 hk1 hS => ?_)
          obtain ⟨F_110, hB1⟩ := hB
          obtain rfl : F_99 = F_110 := (funext (fun a => hB1.2.2.2 a List.not_mem_nil)).symm
          obtain ⟨hP, hD, hO, hR⟩ := QT.back hB1 ht hFc hR (fun q h => absurd h List.not_mem_nil)
          generalize H1 = H at hP hS ⊢
          have hw : (r_109 = 0 ∨ r_109 = 1) := hw
          have hw_111 := hw
          refine lv_if_eq (tgt := 152) hx hb dX7_readPlainness_145 (by decide) (fun c_112 => ?_) (fun c_112 => ?_)
          ·
            refine lv_iconst (v := 0) hx hb dX7_readPlainness_152 (by decide) ?_
            refine W.widen (k := 0) (n := 0) (by omega) (by omega) ?_
            exact W.zret (v := 0) (ty := .boolean) hx hb hr (by decide) (fun t ht hWm => ⟨⟨0, (), rfl, (by first | exact Or.inl rfl | exact Or.inr rfl), ⟨F_99, QT.mk ht hP hD hO hR⟩⟩, hS.F ht⟩) hS.2.2 dX7_readPlainness_153
          ·
            refine lv_iconst (v := 1) hx hb dX7_readPlainness_148 (by decide) ?_
            refine lv_goto (tgt := 153) hx hb dX7_readPlainness_149 (by decide) ?_
            refine W.widen (k := 0) (n := 0) (by omega) (by omega) ?_
            exact W.zret (v := 1) (ty := .boolean) hx hb hr (by decide) (fun t ht hWm => ⟨⟨1, (), rfl, (by first | exact Or.inl rfl | exact Or.inr rfl), ⟨F_99, QT.mk ht hP hD hO hR⟩⟩, hS.F ht⟩) hS.2.2 dX7_readPlainness_153
    ·
      refine lv_aload_n hx hb dX7_readPlainness_102 rfl (lv_at hl 3 rfl) ?_
      refine pg_get (ci := 7) (v := .ref sl) (C := RX7) (T := TX7) (N := 17) hx hb hts it_7 hown hK hP hL_h0 hF_101 rfl 1 (by decide) (hts _ kt_307) (fun _ h9 => h9) rfl dX7_readPlainness_103 ?_
      refine pg_getN (ci := 9) (v := .ref sx) (C := RX9) (T := TX9) (N := 5) hx hb hts it_9 hown hK hP hi_3 hF_102 rfl 0 (by decide) (hE.nest kn_7) (fun _ h9 => h9) rfl dX7_readPlainness_106 ?_
      refine lv_iload_n hx hb dX7_readPlainness_109 rfl (lv_at hl 1 rfl) ?_
      refine lv_iload_n hx hb dX7_readPlainness_110 rfl (lv_at hl 0 rfl) ?_
      obtain ⟨q_113, v_114, hr_q_113, hXc_q_113⟩ := hG.2.2.2.2 ("PostGate$Sealer", 203, "simple", [115, 105, 109, 112, 108, 101]) (by decide +kernel)
      have hXc_q_113 : SXc q_113 v_114 6 (cct [115, 105, 109, 112, 108, 101]) A s s.heap := hXc_q_113
      have hX_q_113 : SX q_113 v_114 6 A s s.heap := hXc_q_113.sx
      obtain ⟨xo_q_113, xc_q_113, xv_q_113, xt_q_113, xn_q_113⟩ := id hXc_q_113
      have hr_q_113 : vk_R "PostGate$Sealer" 203 "simple" q_113 s := hr_q_113
      refine va_ldcS hx hb hown hr_q_113 dX7_readPlainness_111 ?_
      have hFc := pg_free hD hS hA
      refine va_calli (va_runV (As := [.int r_70, .int r_81, .ref q_113]) (rest := []) ⟨hx, hb, hml, hown, hts⟩ (s_X0_is l dC dI cs ty L H.size F_99 sx (ρ + 3) r_55 3000 q_113 v_114 6 r_70 r_81 hW hi_51 ht_56) ⟨callB_of 3 hts (gi kt_79) rfl rfl rfl (hts _ kt_1) (hts _ kt_329) (by decide +kernel) ⟨Nat.le_of_ble_eq_true rfl, Nat.le_of_ble_eq_true rfl⟩, (hts _ kt_81), (hts _ kt_82)⟩ ⟨fun a U g mk q => ⟨q.1, PTE.calling q.2⟩, pg_recv hK hP hi_51 hF_103 (q := (RX0, TX0, 3)) rfl, fun U hU hWm => ⟨rfl, PTE.mk hU hWm hP hK hD hE hO hG (fun x hx => by rw [List.mem_singleton] at hx; subst hx; exact hX_q_113) hS hFc⟩⟩ rfl rfl hl.1 rfl (lv_room (Nat.le_of_ble_eq_true rfl)) dX7_readPlainness_113 ⟨by show _ + 0 ≤ 0; omega, by show _ + 0 ≤ 0; omega⟩) hS (fun q _ h => hFc q h) hFc (fun r_115 u t H1 locs ht hvm hw hB hz1 hk1 hS => ?_)
      obtain ⟨F_116, hB1⟩ := hB
      obtain rfl : F_99 = F_116 := (funext (fun a => hB1.2.2.2 a List.not_mem_nil)).symm
      obtain ⟨hP, hD, hO, hR⟩ := QT.back hB1 ht hFc hR (fun q h => absurd h List.not_mem_nil)
      generalize H1 = H at hP hS ⊢
      have hw : (r_115 = 0 ∨ r_115 = 1) := hw
      have hw_117 := hw
      refine lv_if_eq (tgt := 152) hx hb dX7_readPlainness_116 (by decide) (fun c_118 => ?_) (fun c_118 => ?_)
      ·
        refine lv_iconst (v := 0) hx hb dX7_readPlainness_152 (by decide) ?_
        refine W.widen (k := 0) (n := 0) (by omega) (by omega) ?_
        exact W.zret (v := 0) (ty := .boolean) hx hb hr (by decide) (fun t ht hWm => ⟨⟨0, (), rfl, (by first | exact Or.inl rfl | exact Or.inr rfl), ⟨F_99, QT.mk ht hP hD hO hR⟩⟩, hS.F ht⟩) hS.2.2 dX7_readPlainness_153
      ·
        refine lv_aload_n hx hb dX7_readPlainness_119 rfl (lv_at hl 3 rfl) ?_
        refine pg_get (ci := 7) (v := .int r_96) (C := RX7) (T := TX7) (N := 17) hx hb hts it_7 hown hK hP hL_h0 hF_101 rfl 16 (by decide) (hts _ kt_327) (fun _ h9 => h9) rfl dX7_readPlainness_120 ?_
        refine lv_if_ne (tgt := 148) hx hb dX7_readPlainness_123 (by decide) (fun c_119 => ?_) (fun c_119 => ?_)
        ·
          refine lv_iconst (v := 1) hx hb dX7_readPlainness_148 (by decide) ?_
          refine lv_goto (tgt := 153) hx hb dX7_readPlainness_149 (by decide) ?_
          refine W.widen (k := 0) (n := 0) (by omega) (by omega) ?_
          exact W.zret (v := 1) (ty := .boolean) hx hb hr (by decide) (fun t ht hWm => ⟨⟨1, (), rfl, (by first | exact Or.inl rfl | exact Or.inr rfl), ⟨F_99, QT.mk ht hP hD hO hR⟩⟩, hS.F ht⟩) hS.2.2 dX7_readPlainness_153
        ·
          refine lv_iload_n hx hb dX7_readPlainness_126 rfl (lv_at hl 0 rfl) ?_
          refine lv_iload_n hx hb dX7_readPlainness_127 rfl (lv_at hl 2 rfl) ?_
          refine lv_icmp_eq (tgt := 148) hx hb dX7_readPlainness_128 (by decide) (fun c_120 => ?_) (fun c_120 => ?_)
          ·
            refine lv_iconst (v := 1) hx hb dX7_readPlainness_148 (by decide) ?_
            refine lv_goto (tgt := 153) hx hb dX7_readPlainness_149 (by decide) ?_
            refine W.widen (k := 0) (n := 0) (by omega) (by omega) ?_
            exact W.zret (v := 1) (ty := .boolean) hx hb hr (by decide) (fun t ht hWm => ⟨⟨1, (), rfl, (by first | exact Or.inl rfl | exact Or.inr rfl), ⟨F_99, QT.mk ht hP hD hO hR⟩⟩, hS.F ht⟩) hS.2.2 dX7_readPlainness_153
          ·
            refine lv_aload_n hx hb dX7_readPlainness_131 rfl (lv_at hl 3 rfl) ?_
            refine pg_get (ci := 7) (v := .ref sl) (C := RX7) (T := TX7) (N := 17) hx hb hts it_7 hown hK hP hL_h0 hF_101 rfl 1 (by decide) (hts _ kt_307) (fun _ h9 => h9) rfl dX7_readPlainness_132 ?_
            refine pg_getN (ci := 9) (v := .ref sx) (C := RX9) (T := TX9) (N := 5) hx hb hts it_9 hown hK hP hi_3 hF_102 rfl 0 (by decide) (hE.nest kn_7) (fun _ h9 => h9) rfl dX7_readPlainness_135 ?_
            refine lv_iload_n hx hb dX7_readPlainness_138 rfl (lv_at hl 0 rfl) ?_
            refine lv_iload_n hx hb dX7_readPlainness_139 rfl (lv_at hl 2 rfl) ?_
            obtain ⟨q_121, v_122, hr_q_121, hXc_q_121⟩ := hG.2.2.2.2 ("PostGate$Sealer", 205, "/simple", [47, 115, 105, 109, 112, 108, 101]) (by decide +kernel)
            have hXc_q_121 : SXc q_121 v_122 7 (cct [47, 115, 105, 109, 112, 108, 101]) A s s.heap := hXc_q_121
            have hX_q_121 : SX q_121 v_122 7 A s s.heap := hXc_q_121.sx
            obtain ⟨xo_q_121, xc_q_121, xv_q_121, xt_q_121, xn_q_121⟩ := id hXc_q_121
            have hr_q_121 : vk_R "PostGate$Sealer" 205 "/simple" q_121 s := hr_q_121
            refine va_ldcS hx hb hown hr_q_121 dX7_readPlainness_140 ?_
            have hFc := pg_free hD hS hA
            refine va_calli (va_runV (As := [.int r_81, .int r_67, .ref q_121]) (rest := []) ⟨hx, hb, hml, hown, hts⟩ (s_X0_is l dC dI cs ty L H.size F_99 sx (ρ + 3) r_55 3000 q_121 v_122 7 r_81 r_67 hW hi_51 ht_56) ⟨callB_of 3 hts (gi kt_79) rfl rfl rfl (hts _ kt_1) (hts _ kt_329) (by decide +kernel) ⟨Nat.le_of_ble_eq_true rfl, Nat.le_of_ble_eq_true rfl⟩, (hts _ kt_81), (hts _ kt_82)⟩ ⟨fun a U g mk q => ⟨q.1, PTE.calling q.2⟩, pg_recv hK hP hi_51 hF_103 (q := (RX0, TX0, 3)) rfl, fun U hU hWm => ⟨rfl, PTE.mk hU hWm hP hK hD hE hO hG (fun x hx => by rw [List.mem_singleton] at hx; subst hx; exact hX_q_121) hS hFc⟩⟩ rfl rfl hl.1 rfl (lv_room (Nat.le_of_ble_eq_true rfl)) dX7_readPlainness_142 ⟨by show _ + 0 ≤ 0; omega, by show _ + 0 ≤ 0; omega⟩) hS (fun q _ h => hFc q h) hFc (fun r_123 u t H1 locs ht hvm hw hB hz1 hk1 hS => ?_)
            obtain ⟨F_124, hB1⟩ := hB
            obtain rfl : F_99 = F_124 := (funext (fun a => hB1.2.2.2 a List.not_mem_nil)).symm
            obtain ⟨hP, hD, hO, hR⟩ := QT.back hB1 ht hFc hR (fun q h => absurd h List.not_mem_nil)
            generalize H1 = H at hP hS ⊢
            have hw : (r_123 = 0 ∨ r_123 = 1) := hw
            have hw_125 := hw
            refine lv_if_eq (tgt := 152) hx hb dX7_readPlainness_145 (by decide) (fun c_126 => ?_) (fun c_126 => ?_)
            ·
              refine lv_iconst (v := 0) hx hb dX7_readPlainness_152 (by decide) ?_
              refine W.widen (k := 0) (n := 0) (by omega) (by omega) ?_
              exact W.zret (v := 0) (ty := .boolean) hx hb hr (by decide) (fun t ht hWm => ⟨⟨0, (), rfl, (by first | exact Or.inl rfl | exact Or.inr rfl), ⟨F_99, QT.mk ht hP hD hO hR⟩⟩, hS.F ht⟩) hS.2.2 dX7_readPlainness_153
            ·
              refine lv_iconst (v := 1) hx hb dX7_readPlainness_148 (by decide) ?_
              refine lv_goto (tgt := 153) hx hb dX7_readPlainness_149 (by decide) ?_
              refine W.widen (k := 0) (n := 0) (by omega) (by omega) ?_
              exact W.zret (v := 1) (ty := .boolean) hx hb hr (by decide) (fun t ht hWm => ⟨⟨1, (), rfl, (by first | exact Or.inl rfl | exact Or.inr rfl), ⟨F_99, QT.mk ht hP hD hO hR⟩⟩, hS.F ht⟩) hS.2.2 dX7_readPlainness_153
  ·
    refine lv_iconst (v := 1) hx hb dX7_readPlainness_22 (by decide) ?_
    refine W.widen (k := 0) (n := 0) (by omega) (by omega) ?_
    exact W.zret (v := 1) (ty := .boolean) hx hb hr (by decide) (fun t ht hWm => ⟨⟨1, (), rfl, (by first | exact Or.inl rfl | exact Or.inr rfl), ⟨F_46, QT.mk ht hP hD hO hR⟩⟩, hS.F ht⟩) hS.2.2 dX7_readPlainness_23
set_option maxHeartbeats 4000000 in
set_option maxRecDepth 100000 in
theorem s_X7_isWell (l : Launch) (dC : Nat → ClassId) (dI : Nat → Nat → Nat) (cs : Nat → ClassId) (ty : TyM) (L : List Nat) (sz : Nat) (F : Nat → va_E) (h0 : Nat) (ρ : Nat) (d : Nat) (δ : Nat) (ea : Nat) (sl : Nat) (sx : Nat) (sy0 : Nat) (sy1 : Nat) (sy2 : Nat) (ke : Nat) (kx : Nat) (ky0 : Nat) (ky1 : Nat) (ky2 : Nat) (w0 : Nat) (w1 : Nat) (w2 : Nat) (w3 : Nat) (w4 : Nat) (w5 : Nat) (w6 : Nat) (w7 : Nat) (w8 : Nat) (tk : Nat) (hs : Nat) (ha : Nat) (hbb : Nat) (hcc : Nat) (pw : Nat) (px : Nat) (py : Nat) (pz : Nat) (pu : Nat) (mg : Nat) (μ : Nat) (mx : Nat) (m0 : Nat) (m1 : Nat) (m2 : Nat) (jf : Nat) (hW : WT ty L) (hL_h0 : h0 ∈ L) (hT_h0 : ty h0 = (7, ρ, [d, δ, ea, sl, sx, sy0, sy1, sy2, ke, kx, ky0, ky1, ky2, w0, w1, w2, w3, w4, w5, w6, w7, w8, tk, hs, ha, hbb, hcc, pw, px, py, pz, pu])) (hL_mg : mg ∈ L) (hT_mg : ty mg = (4, μ, [mx, m0, m1, m2])) (hjf : jf < 20) : Met l yX7_isWell (.code yX7_isWell cX7_isWell 3 (some .boolean) :: tb) ({ frames := 8, cells := 0, slots := 0, locals := 177 }) (va_Pc [.ref h0, .ref mg, .int (nI jf)] (PTE (dC, dI) cs ty L F sz [])) (va_Qi (fun (r : Int32) (_ : Unit) => (r = 0 ∨ r = 1)) (fun _ T9 => ∃ F2 : Nat → va_E, QT (dC, dI) cs ty L [ρ, ρ + 82, ρ + 83, ρ + 84, ρ + 85, ρ + 86, ρ + 87, ρ + 88, ρ + 89, ρ + 90, ρ + 91, ρ + 2, ρ + 3, ρ + 72, ρ + 73] F F2 (va_A (va_pl L F) sz) T9) (va_A (va_pl L F) sz)) 0 0 (va_A (va_pl L F) sz) := by
  refine Met.ofW (cc := cX7_isWell) (maxL := 3) (ret := (some .boolean)) (by decide) rfl ?_
  intro p e s m args below meth c s₁ B hml hv
  obtain ⟨rfl, ⟨hsz, hP, hK, hD0, hE, hO⟩, hG, hX⟩ := hv
  have hx := B.exec
  have hb := B.bytes
  have hr := B.returns
  have hts : ∀ w ∈ tb, w.before _ s = true := fun w h => atoms_spec (ws := .code yX7_isWell cX7_isWell 3 (some .boolean) :: tb) B.pre w (List.mem_cons_of_mem _ h)
  have hown : s.vm.findClass RX7 = some m.cls := findClass_of_methodNamed B.named
  have hlocks := B.notSynchronized
  subst hsz
  have hD := hD0.self (sz := s.heap.size)
  generalize hAe : va_A (va_pl L F) s.heap.size = A at hD hG hX ⊢
  have hA : ∀ q : Nat, s.heap.size ≤ q → A q := fun q h => by rw [← hAe]; exact Or.inr h
  have hS : va_S A s.heap s.heap [] := va_S.rf
  have hR : FR ty [ρ, ρ + 82, ρ + 83, ρ + 84, ρ + 85, ρ + 86, ρ + 87, ρ + 88, ρ + 89, ρ + 90, ρ + 91, ρ + 2, ρ + 3, ρ + 72, ρ + 73] F F := FR.refl
  have hl := lv_entry ([.ref h0, .ref mg, .int (nI jf)]) (n := 3) (Nat.le_of_ble_eq_true rfl)
  rw [lg_entry_eq]
  generalize (lg_sl ([.ref h0, .ref mg, .int (nI jf)]) ++ List.replicate (3 - (lg_sl ([.ref h0, .ref mg, .int (nI jf)])).length) Slot.unset).toArray = ls at hl ⊢
  have hl : lv_has ls 3 [(0, .ref h0), (1, .ref mg), (2, .int (nI jf))] := hl
  refine lv_aload_n hx hb dX7_isWell_0 rfl (lv_at hl 0 rfl) ?_
  obtain ⟨hi_1, ht_2, hi_3, ht_4, hi_5, ht_6, hi_7, ⟨r_8, ht_9⟩, hi_10, ⟨r_11, ht_12⟩, hi_13, ⟨r_14, ht_15⟩, hi_16, ⟨r_17, ht_18⟩, hi_19, ⟨r_20, ht_21⟩, hi_22, ⟨r_23, ht_24⟩, hi_25, ⟨r_26, ht_27⟩, hi_28, ⟨r_29, ht_30⟩, hi_31, ⟨r_32, ht_33⟩, hi_34, ht_35, hi_36, ht_37, hi_38, ht_39⟩ := hW.slr hL_h0 hT_h0
  obtain ⟨v0_40, v1_41, hF_42⟩ := hO.slr hL_h0 hT_h0
  refine pg_get (ci := 7) (v := .ref sl) (C := RX7) (T := TX7) (N := 17) hx hb hts it_7 hown hK hP hL_h0 hF_42 rfl 1 (by decide) (hts _ kt_307) (fun _ h9 => h9) rfl dX7_isWell_1 ?_
  refine lv_aload_n hx hb dX7_isWell_4 rfl (lv_at hl 1 rfl) ?_
  obtain ⟨hi_43, hi_44, hi_45, hi_46, ⟨r_47, ht_48⟩, ht_49, ht_50, ht_51⟩ := hW.msg hL_mg hT_mg
  obtain ⟨z_52, v0_53, hF_54, hq_55⟩ := hO.msg hL_mg hT_mg
  refine pg_getN (ci := 4) (v := .ref mx) (C := RX4) (T := TX4) (N := 6) hx hb hts it_4 hown hK hP hL_mg hF_54 rfl 0 (by decide) (hE.nest kn_8) (fun _ h9 => h9) rfl dX7_isWell_5 ?_
  refine lv_aload_n hx hb dX7_isWell_8 rfl (lv_at hl 1 rfl) ?_
  refine pg_getN (ci := 4) (v := .ref m1) (C := RX4) (T := TX4) (N := 6) hx hb hts it_4 hown hK hP hL_mg hF_54 rfl 2 (by decide) (hE.nest kn_9) (fun _ h9 => h9) rfl dX7_isWell_9 ?_
  refine lv_iload_n hx hb dX7_isWell_12 rfl (lv_at hl 2 rfl) ?_
  obtain ⟨f_56, hF_57, hq_58⟩ := hO.idx hi_45 ht_50
  refine pg_iald hx hb hK hP hi_45 0 hF_57 rfl (vp_in_nI (by omega) (by omega)) dX7_isWell_13 ?_
  obtain ⟨k_59, hk_60, ek_61⟩ := hq_58 ((nI jf) : Int32).toNatClampNeg
  refine lv_topi (fun x_62 ex_62 => ?_)
  obtain rfl : x_62 = nI k_59 := ex_62.trans ek_61
  refine lv_iconst (v := 1) hx hb dX7_isWell_14 (by decide) ?_
  refine lv_iadd hx hb dX7_isWell_15 ?_
  refine lv_topi (fun x_63 _ => ?_)
  refine lv_aload_n hx hb dX7_isWell_16 rfl (lv_at hl 1 rfl) ?_
  refine pg_getN (ci := 4) (v := .ref m2) (C := RX4) (T := TX4) (N := 6) hx hb hts it_4 hown hK hP hL_mg hF_54 rfl 3 (by decide) (hE.nest kn_10) (fun _ h9 => h9) rfl dX7_isWell_17 ?_
  refine lv_iload_n hx hb dX7_isWell_20 rfl (lv_at hl 2 rfl) ?_
  obtain ⟨f_64, hF_65, hq_66⟩ := hO.idx hi_46 ht_51
  refine pg_iald hx hb hK hP hi_46 0 hF_65 rfl (vp_in_nI (by omega) (by omega)) dX7_isWell_21 ?_
  obtain ⟨k_67, hk_68, ek_69⟩ := hq_66 ((nI jf) : Int32).toNatClampNeg
  refine lv_topi (fun x_70 ex_70 => ?_)
  obtain rfl : x_70 = nI k_67 := ex_70.trans ek_69
  have hFc := pg_free hD hS hA
  obtain ⟨hi_71, hi_72, hi_73, hi_74, ⟨r_75, ht_76⟩, ht_77, ht_78, ht_79⟩ := hW.tags hi_3 ht_4
  have ht_76 : ty sx = (0, ρ + 3, [r_75, 3000]) := ht_76
  have ht_78 : ty sy1 = (24, ρ + 72, [40]) := ht_78
  have ht_79 : ty sy2 = (24, ρ + 73, [40]) := ht_79
  obtain ⟨z_80, hF_81, hq_82⟩ := hO.tags hi_3 ht_4
  refine va_calli (va_runV (As := [.ref mx, .int x_63, .int (nI k_67)]) (rest := []) ⟨hx, hb, hml, hown, hts⟩ (s_X9_read l dC dI cs ty L s.heap.size F sl (ρ + 2) sx 3000 sy0 sy1 sy2 mx (μ + 1) r_47 3000 x_63 (nI k_67) hW hi_3 ht_4 hi_43 ht_48) ⟨callB_of 3 hts (gi kt_330) rfl rfl rfl (hts _ kt_164) (hts _ kt_331) (by decide +kernel) ⟨Nat.le_of_ble_eq_true rfl, Nat.le_of_ble_eq_true rfl⟩, (hts _ kt_332), (hts _ kt_333)⟩ ⟨fun a U g mk q => ⟨q.1, PT.calling q.2⟩, pg_recv hK hP hi_3 hF_81 (q := (RX9, TX9, 5)) rfl, fun U hU hWm => ⟨rfl, PT.mk hU hWm hP hK hD hE hO⟩⟩ rfl rfl hl.1 rfl (lv_room (Nat.le_of_ble_eq_true rfl)) dX7_isWell_22 ⟨by show _ + 0 ≤ 0; omega, by show _ + 0 ≤ 0; omega⟩) hS (fun q _ h => hFc q h) hFc (fun r_83 u t H1 locs ht hvm hw hB hz1 hk1 hS => ?_)
  obtain ⟨F_84, hB1⟩ := hB
  obtain ⟨hP, hD, hO, hR⟩ := QT.back hB1 ht hFc hR (fun q h => by simp only [List.mem_cons, List.not_mem_nil, or_false] at h ⊢; omega)
  have hF_85 : F_84 h0 = .inr (7, [.ref d, .ref sl, .ref ke, .ref w0, .ref w1, .ref w2, .ref w3, .ref w4, .ref w5, .ref w6, .ref w7, .ref w8, .ref tk, .ref hs, .ref pw, .int v0_40, .int v1_41]) := (hB1.2.2.2 h0 (by rw [hT_h0]; simp <;> omega)).trans hF_42
  generalize H1 = H at hP hS ⊢
  have hw : (r_83 = 0 ∨ r_83 = 1) := hw
  have hw_86 := hw
  refine lv_if_ne (tgt := 30) hx hb dX7_isWell_25 (by decide) (fun c_87 => ?_) (fun c_87 => ?_)
  ·
    refine lv_aload_n hx hb dX7_isWell_30 rfl (lv_at hl 0 rfl) ?_
    refine pg_get (ci := 7) (v := .ref sl) (C := RX7) (T := TX7) (N := 17) hx hb hts it_7 hown hK hP hL_h0 hF_85 rfl 1 (by decide) (hts _ kt_307) (fun _ h9 => h9) rfl dX7_isWell_31 ?_
    obtain ⟨q_88, v_89, hr_q_88, hXc_q_88⟩ := hG.2.2.2.2 ("PostGate$Sealer", 154, "v", [118]) (by decide +kernel)
    have hXc_q_88 : SXc q_88 v_89 1 (cct [118]) A s s.heap := hXc_q_88
    have hX_q_88 : SX q_88 v_89 1 A s s.heap := hXc_q_88.sx
    obtain ⟨xo_q_88, xc_q_88, xv_q_88, xt_q_88, xn_q_88⟩ := id hXc_q_88
    have hr_q_88 : vk_R "PostGate$Sealer" 154 "v" q_88 s := hr_q_88
    refine va_ldcS hx hb hown hr_q_88 dX7_isWell_34 ?_
    obtain ⟨q_90, v_91, hr_q_90, hXc_q_90⟩ := hG.2.2.2.2 ("PostGate$Sealer", 156, "1", [49]) (by decide +kernel)
    have hXc_q_90 : SXc q_90 v_91 1 (cct [49]) A s s.heap := hXc_q_90
    have hX_q_90 : SX q_90 v_91 1 A s s.heap := hXc_q_90.sx
    obtain ⟨xo_q_90, xc_q_90, xv_q_90, xt_q_90, xn_q_90⟩ := id hXc_q_90
    have hr_q_90 : vk_R "PostGate$Sealer" 156 "1" q_90 s := hr_q_90
    refine va_ldcS hx hb hown hr_q_90 dX7_isWell_36 ?_
    have hFc := pg_free hD hS hA
    obtain ⟨z_92, hF_93, hq_94⟩ := hO.tags hi_3 ht_4
    refine va_calli (va_runV (As := [.ref q_88, .ref q_90]) (rest := []) ⟨hx, hb, hml, hown, hts⟩ (s_X9_is l dC dI cs ty L H.size F_84 sl (ρ + 2) sx 3000 sy0 sy1 sy2 q_88 v_89 1 q_90 v_91 1 hW hi_3 ht_4) ⟨callB_of 2 hts (gi kt_334) rfl rfl rfl (hts _ kt_164) (hts _ kt_335) (by decide +kernel) ⟨Nat.le_of_ble_eq_true rfl, Nat.le_of_ble_eq_true rfl⟩, (hts _ kt_336), (hts _ kt_337)⟩ ⟨fun a U g mk q => ⟨q.1, PTE.calling q.2⟩, pg_recv hK hP hi_3 hF_93 (q := (RX9, TX9, 5)) rfl, fun U hU hWm => ⟨rfl, PTE.mk hU hWm hP hK hD hE hO hG (fun x hx => by simp only [List.mem_cons, List.not_mem_nil, or_false] at hx; rcases hx with hx | hx <;> subst hx <;> first | exact hX_q_88 | exact hX_q_90) hS hFc⟩⟩ rfl rfl hl.1 rfl (lv_room (Nat.le_of_ble_eq_true rfl)) dX7_isWell_38 ⟨by show _ + 0 ≤ 0; omega, by show _ + 0 ≤ 0; omega⟩) hS (fun q _ h => hFc q h) hFc (fun r_95 u t H1 locs ht hvm hw hB hz1 hk1 hS => ?_)
    obtain ⟨F_96, hB1⟩ := hB
    obtain rfl : F_84 = F_96 := (funext (fun a => hB1.2.2.2 a List.not_mem_nil)).symm
    obtain ⟨hP, hD, hO, hR⟩ := QT.back hB1 ht hFc hR (fun q h => absurd h List.not_mem_nil)
    generalize H1 = H at hP hS ⊢
    have hw : (r_95 = 0 ∨ r_95 = 1) := hw
    have hw_97 := hw
    refine lv_if_eq (tgt := 154) hx hb dX7_isWell_41 (by decide) (fun c_98 => ?_) (fun c_98 => ?_)
    ·
      refine lv_iconst (v := 0) hx hb dX7_isWell_154 (by decide) ?_
      refine W.widen (k := 0) (n := 0) (by omega) (by omega) ?_
      exact W.zret (v := 0) (ty := .boolean) hx hb hr (by decide) (fun t ht hWm => ⟨⟨0, (), rfl, (by first | exact Or.inl rfl | exact Or.inr rfl), ⟨F_84, QT.mk ht hP hD hO hR⟩⟩, hS.F ht⟩) hS.2.2 dX7_isWell_155
    ·
      refine lv_aload_n hx hb dX7_isWell_44 rfl (lv_at hl 0 rfl) ?_
      refine pg_get (ci := 7) (v := .ref sl) (C := RX7) (T := TX7) (N := 17) hx hb hts it_7 hown hK hP hL_h0 hF_85 rfl 1 (by decide) (hts _ kt_307) (fun _ h9 => h9) rfl dX7_isWell_45 ?_
      obtain ⟨q_99, v_100, hr_q_99, hXc_q_99⟩ := hG.2.2.2.2 ("PostGate$Sealer", 162, "a", [97]) (by decide +kernel)
      have hXc_q_99 : SXc q_99 v_100 1 (cct [97]) A s s.heap := hXc_q_99
      have hX_q_99 : SX q_99 v_100 1 A s s.heap := hXc_q_99.sx
      obtain ⟨xo_q_99, xc_q_99, xv_q_99, xt_q_99, xn_q_99⟩ := id hXc_q_99
      have hr_q_99 : vk_R "PostGate$Sealer" 162 "a" q_99 s := hr_q_99
      refine va_ldcS hx hb hown hr_q_99 dX7_isWell_48 ?_
      obtain ⟨q_101, v_102, hr_q_101, hXc_q_101⟩ := hG.2.2.2.2 ("PostGate$Sealer", 164, "rsa-sha256", [114, 115, 97, 45, 115, 104, 97, 50, 53, 54]) (by decide +kernel)
      have hXc_q_101 : SXc q_101 v_102 10 (cct [114, 115, 97, 45, 115, 104, 97, 50, 53, 54]) A s s.heap := hXc_q_101
      have hX_q_101 : SX q_101 v_102 10 A s s.heap := hXc_q_101.sx
      obtain ⟨xo_q_101, xc_q_101, xv_q_101, xt_q_101, xn_q_101⟩ := id hXc_q_101
      have hr_q_101 : vk_R "PostGate$Sealer" 164 "rsa-sha256" q_101 s := hr_q_101
      refine va_ldcS hx hb hown hr_q_101 dX7_isWell_50 ?_
      have hFc := pg_free hD hS hA
      refine va_calli (va_runV (As := [.ref q_99, .ref q_101]) (rest := []) ⟨hx, hb, hml, hown, hts⟩ (s_X9_is l dC dI cs ty L H.size F_84 sl (ρ + 2) sx 3000 sy0 sy1 sy2 q_99 v_100 1 q_101 v_102 10 hW hi_3 ht_4) ⟨callB_of 2 hts (gi kt_334) rfl rfl rfl (hts _ kt_164) (hts _ kt_335) (by decide +kernel) ⟨Nat.le_of_ble_eq_true rfl, Nat.le_of_ble_eq_true rfl⟩, (hts _ kt_336), (hts _ kt_337)⟩ ⟨fun a U g mk q => ⟨q.1, PTE.calling q.2⟩, pg_recv hK hP hi_3 hF_93 (q := (RX9, TX9, 5)) rfl, fun U hU hWm => ⟨rfl, PTE.mk hU hWm hP hK hD hE hO hG (fun x hx => by simp only [List.mem_cons, List.not_mem_nil, or_false] at hx; rcases hx with hx | hx <;> subst hx <;> first | exact hX_q_99 | exact hX_q_101) hS hFc⟩⟩ rfl rfl hl.1 rfl (lv_room (Nat.le_of_ble_eq_true rfl)) dX7_isWell_52 ⟨by show _ + 0 ≤ 0; omega, by show _ + 0 ≤ 0; omega⟩) hS (fun q _ h => hFc q h) hFc (fun r_103 u t H1 locs ht hvm hw hB hz1 hk1 hS => ?_)
      obtain ⟨F_104, hB1⟩ := hB
      obtain rfl : F_84 = F_104 := (funext (fun a => hB1.2.2.2 a List.not_mem_nil)).symm
      obtain ⟨hP, hD, hO, hR⟩ := QT.back hB1 ht hFc hR (fun q h => absurd h List.not_mem_nil)
      generalize H1 = H at hP hS ⊢
      have hw : (r_103 = 0 ∨ r_103 = 1) := hw
      have hw_105 := hw
      refine lv_if_eq (tgt := 154) hx hb dX7_isWell_55 (by decide) (fun c_106 => ?_) (fun c_106 => ?_)
      ·
        refine lv_iconst (v := 0) hx hb dX7_isWell_154 (by decide) ?_
        refine W.widen (k := 0) (n := 0) (by omega) (by omega) ?_
        exact W.zret (v := 0) (ty := .boolean) hx hb hr (by decide) (fun t ht hWm => ⟨⟨0, (), rfl, (by first | exact Or.inl rfl | exact Or.inr rfl), ⟨F_84, QT.mk ht hP hD hO hR⟩⟩, hS.F ht⟩) hS.2.2 dX7_isWell_155
      ·
        refine lv_aload_n hx hb dX7_isWell_58 rfl (lv_at hl 0 rfl) ?_
        refine pg_get (ci := 7) (v := .ref sl) (C := RX7) (T := TX7) (N := 17) hx hb hts it_7 hown hK hP hL_h0 hF_85 rfl 1 (by decide) (hts _ kt_307) (fun _ h9 => h9) rfl dX7_isWell_59 ?_
        obtain ⟨q_107, v_108, hr_q_107, hXc_q_107⟩ := hG.2.2.2.2 ("PostGate$Sealer", 101, "d", [100]) (by decide +kernel)
        have hXc_q_107 : SXc q_107 v_108 1 (cct [100]) A s s.heap := hXc_q_107
        have hX_q_107 : SX q_107 v_108 1 A s s.heap := hXc_q_107.sx
        obtain ⟨xo_q_107, xc_q_107, xv_q_107, xt_q_107, xn_q_107⟩ := id hXc_q_107
        have hr_q_107 : vk_R "PostGate$Sealer" 101 "d" q_107 s := hr_q_107
        refine va_ldcS hx hb hown hr_q_107 dX7_isWell_62 ?_
        have hFc := pg_free hD hS hA
        refine va_calli (va_runV (As := [.ref q_107]) (rest := []) ⟨hx, hb, hml, hown, hts⟩ (s_X9_isNameAt l dC dI cs ty L H.size F_84 sl (ρ + 2) sx 3000 sy0 sy1 sy2 q_107 v_108 1 hW hi_3 ht_4) ⟨callB_of 1 hts (gi kt_338) rfl rfl rfl (hts _ kt_164) (hts _ kt_339) (by decide +kernel) ⟨Nat.le_of_ble_eq_true rfl, Nat.le_of_ble_eq_true rfl⟩, (hts _ kt_340), (hts _ kt_341)⟩ ⟨fun a U g mk q => ⟨q.1, PTE.calling q.2⟩, pg_recv hK hP hi_3 hF_93 (q := (RX9, TX9, 5)) rfl, fun U hU hWm => ⟨rfl, PTE.mk hU hWm hP hK hD hE hO hG (fun x hx => by rw [List.mem_singleton] at hx; subst hx; exact hX_q_107) hS hFc⟩⟩ rfl rfl hl.1 rfl (lv_room (Nat.le_of_ble_eq_true rfl)) dX7_isWell_64 ⟨by show _ + 0 ≤ 0; omega, by show _ + 0 ≤ 0; omega⟩) hS (fun q _ h => hFc q h) hFc (fun r_109 u t H1 locs ht hvm hw hB hz1 hk1 hS => ?_)
        obtain ⟨F_110, hB1⟩ := hB
        obtain rfl : F_84 = F_110 := (funext (fun a => hB1.2.2.2 a List.not_mem_nil)).symm
        obtain ⟨hP, hD, hO, hR⟩ := QT.back hB1 ht hFc hR (fun q h => absurd h List.not_mem_nil)
        generalize H1 = H at hP hS ⊢
        have hw : (r_109 = 0 ∨ r_109 = 1) := hw
        have hw_111 := hw
        refine lv_if_eq (tgt := 154) hx hb dX7_isWell_67 (by decide) (fun c_112 => ?_) (fun c_112 => ?_)
        ·
          refine lv_iconst (v := 0) hx hb dX7_isWell_154 (by decide) ?_
          refine W.widen (k := 0) (n := 0) (by omega) (by omega) ?_
          exact W.zret (v := 0) (ty := .boolean) hx hb hr (by decide) (fun t ht hWm => ⟨⟨0, (), rfl, (by first | exact Or.inl rfl | exact Or.inr rfl), ⟨F_84, QT.mk ht hP hD hO hR⟩⟩, hS.F ht⟩) hS.2.2 dX7_isWell_155
        ·
          refine lv_aload_n hx hb dX7_isWell_70 rfl (lv_at hl 0 rfl) ?_
          refine pg_get (ci := 7) (v := .ref sl) (C := RX7) (T := TX7) (N := 17) hx hb hts it_7 hown hK hP hL_h0 hF_85 rfl 1 (by decide) (hts _ kt_307) (fun _ h9 => h9) rfl dX7_isWell_71 ?_
          obtain ⟨q_113, v_114, hr_q_113, hXc_q_113⟩ := hG.2.2.2.2 ("PostGate$Sealer", 169, "s", [115]) (by decide +kernel)
          have hXc_q_113 : SXc q_113 v_114 1 (cct [115]) A s s.heap := hXc_q_113
          have hX_q_113 : SX q_113 v_114 1 A s s.heap := hXc_q_113.sx
          obtain ⟨xo_q_113, xc_q_113, xv_q_113, xt_q_113, xn_q_113⟩ := id hXc_q_113
          have hr_q_113 : vk_R "PostGate$Sealer" 169 "s" q_113 s := hr_q_113
          refine va_ldcS hx hb hown hr_q_113 dX7_isWell_74 ?_
          have hFc := pg_free hD hS hA
          refine va_calli (va_runV (As := [.ref q_113]) (rest := []) ⟨hx, hb, hml, hown, hts⟩ (s_X9_isNameAt l dC dI cs ty L H.size F_84 sl (ρ + 2) sx 3000 sy0 sy1 sy2 q_113 v_114 1 hW hi_3 ht_4) ⟨callB_of 1 hts (gi kt_338) rfl rfl rfl (hts _ kt_164) (hts _ kt_339) (by decide +kernel) ⟨Nat.le_of_ble_eq_true rfl, Nat.le_of_ble_eq_true rfl⟩, (hts _ kt_340), (hts _ kt_341)⟩ ⟨fun a U g mk q => ⟨q.1, PTE.calling q.2⟩, pg_recv hK hP hi_3 hF_93 (q := (RX9, TX9, 5)) rfl, fun U hU hWm => ⟨rfl, PTE.mk hU hWm hP hK hD hE hO hG (fun x hx => by rw [List.mem_singleton] at hx; subst hx; exact hX_q_113) hS hFc⟩⟩ rfl rfl hl.1 rfl (lv_room (Nat.le_of_ble_eq_true rfl)) dX7_isWell_76 ⟨by show _ + 0 ≤ 0; omega, by show _ + 0 ≤ 0; omega⟩) hS (fun q _ h => hFc q h) hFc (fun r_115 u t H1 locs ht hvm hw hB hz1 hk1 hS => ?_)
          obtain ⟨F_116, hB1⟩ := hB
          obtain rfl : F_84 = F_116 := (funext (fun a => hB1.2.2.2 a List.not_mem_nil)).symm
          obtain ⟨hP, hD, hO, hR⟩ := QT.back hB1 ht hFc hR (fun q h => absurd h List.not_mem_nil)
          generalize H1 = H at hP hS ⊢
          have hw : (r_115 = 0 ∨ r_115 = 1) := hw
          have hw_117 := hw
          refine lv_if_eq (tgt := 154) hx hb dX7_isWell_79 (by decide) (fun c_118 => ?_) (fun c_118 => ?_)
          ·
            refine lv_iconst (v := 0) hx hb dX7_isWell_154 (by decide) ?_
            refine W.widen (k := 0) (n := 0) (by omega) (by omega) ?_
            exact W.zret (v := 0) (ty := .boolean) hx hb hr (by decide) (fun t ht hWm => ⟨⟨0, (), rfl, (by first | exact Or.inl rfl | exact Or.inr rfl), ⟨F_84, QT.mk ht hP hD hO hR⟩⟩, hS.F ht⟩) hS.2.2 dX7_isWell_155
          ·
            refine lv_aload_n hx hb dX7_isWell_82 rfl (lv_at hl 0 rfl) ?_
            refine pg_get (ci := 7) (v := .ref sl) (C := RX7) (T := TX7) (N := 17) hx hb hts it_7 hown hK hP hL_h0 hF_85 rfl 1 (by decide) (hts _ kt_307) (fun _ h9 => h9) rfl dX7_isWell_83 ?_
            obtain ⟨q_119, v_120, hr_q_119, hXc_q_119⟩ := hG.2.2.2.2 ("PostGate$Sealer", 171, "bh", [98, 104]) (by decide +kernel)
            have hXc_q_119 : SXc q_119 v_120 2 (cct [98, 104]) A s s.heap := hXc_q_119
            have hX_q_119 : SX q_119 v_120 2 A s s.heap := hXc_q_119.sx
            obtain ⟨xo_q_119, xc_q_119, xv_q_119, xt_q_119, xn_q_119⟩ := id hXc_q_119
            have hr_q_119 : vk_R "PostGate$Sealer" 171 "bh" q_119 s := hr_q_119
            refine va_ldcS hx hb hown hr_q_119 dX7_isWell_86 ?_
            refine lv_aload_n hx hb dX7_isWell_88 rfl (lv_at hl 0 rfl) ?_
            refine pg_get (ci := 7) (v := .ref w2) (C := RX7) (T := TX7) (N := 17) hx hb hts it_7 hown hK hP hL_h0 hF_85 rfl 5 (by decide) (hts _ kt_342) (fun _ h9 => h9) rfl dX7_isWell_89 ?_
            refine lv_bipush (v := 32) hx hb dX7_isWell_92 (by decide) ?_
            have hFc := pg_free hD hS hA
            refine va_calli (va_runV (As := [.ref q_119, .ref w2, .int 32]) (rest := []) ⟨hx, hb, hml, hown, hts⟩ (s_X9_decode l dC dI cs ty L H.size F_84 sl (ρ + 2) sx 3000 sy0 sy1 sy2 q_119 v_120 2 w2 (ρ + 84) r_14 32 32 hW hi_3 ht_4 hi_13 ht_15) ⟨callB_of 3 hts (gi kt_343) rfl rfl rfl (hts _ kt_164) (hts _ kt_344) (by decide +kernel) ⟨Nat.le_of_ble_eq_true rfl, Nat.le_of_ble_eq_true rfl⟩, (hts _ kt_345), (hts _ kt_346)⟩ ⟨fun a U g mk q => ⟨q.1, PTE.calling q.2⟩, pg_recv hK hP hi_3 hF_93 (q := (RX9, TX9, 5)) rfl, fun U hU hWm => ⟨rfl, PTE.mk hU hWm hP hK hD hE hO hG (fun x hx => by rw [List.mem_singleton] at hx; subst hx; exact hX_q_119) hS hFc⟩⟩ rfl rfl hl.1 rfl (lv_room (Nat.le_of_ble_eq_true rfl)) dX7_isWell_94 ⟨by show _ + 0 ≤ 0; omega, by show _ + 0 ≤ 0; omega⟩) hS (fun q _ h => hFc q h) hFc (fun r_121 u t H1 locs ht hvm hw hB hz1 hk1 hS => ?_)
            obtain ⟨F_122, hB1⟩ := hB
            obtain ⟨hP, hD, hO, hR⟩ := QT.back hB1 ht hFc hR (fun q h => by simp only [List.mem_cons, List.not_mem_nil, or_false] at h ⊢; omega)
            have hF_123 : F_122 h0 = .inr (7, [.ref d, .ref sl, .ref ke, .ref w0, .ref w1, .ref w2, .ref w3, .ref w4, .ref w5, .ref w6, .ref w7, .ref w8, .ref tk, .ref hs, .ref pw, .int v0_40, .int v1_41]) := (hB1.2.2.2 h0 (by rw [hT_h0]; simp)).trans hF_85
            have hF_124 : F_122 sl = .inr (9, [.ref sx, .ref sy0, .ref sy1, .ref sy2, .int (nI z_92)]) := (hB1.2.2.2 sl (by rw [ht_4]; simp)).trans hF_93
            generalize H1 = H at hP hS ⊢
            have hw : (r_121 = 0 ∨ r_121 = 1) := hw
            have hw_125 := hw
            refine lv_if_eq (tgt := 154) hx hb dX7_isWell_97 (by decide) (fun c_126 => ?_) (fun c_126 => ?_)
            ·
              refine lv_iconst (v := 0) hx hb dX7_isWell_154 (by decide) ?_
              refine W.widen (k := 0) (n := 0) (by omega) (by omega) ?_
              exact W.zret (v := 0) (ty := .boolean) hx hb hr (by decide) (fun t ht hWm => ⟨⟨0, (), rfl, (by first | exact Or.inl rfl | exact Or.inr rfl), ⟨F_122, QT.mk ht hP hD hO hR⟩⟩, hS.F ht⟩) hS.2.2 dX7_isWell_155
            ·
              refine lv_aload_n hx hb dX7_isWell_100 rfl (lv_at hl 0 rfl) ?_
              refine pg_get (ci := 7) (v := .ref sl) (C := RX7) (T := TX7) (N := 17) hx hb hts it_7 hown hK hP hL_h0 hF_123 rfl 1 (by decide) (hts _ kt_307) (fun _ h9 => h9) rfl dX7_isWell_101 ?_
              obtain ⟨q_127, v_128, hr_q_127, hXc_q_127⟩ := hG.2.2.2.2 ("PostGate$Sealer", 177, "b", [98]) (by decide +kernel)
              have hXc_q_127 : SXc q_127 v_128 1 (cct [98]) A s s.heap := hXc_q_127
              have hX_q_127 : SX q_127 v_128 1 A s s.heap := hXc_q_127.sx
              obtain ⟨xo_q_127, xc_q_127, xv_q_127, xt_q_127, xn_q_127⟩ := id hXc_q_127
              have hr_q_127 : vk_R "PostGate$Sealer" 177 "b" q_127 s := hr_q_127
              refine va_ldcS hx hb hown hr_q_127 dX7_isWell_104 ?_
              refine lv_aload_n hx hb dX7_isWell_106 rfl (lv_at hl 0 rfl) ?_
              refine pg_get (ci := 7) (v := .ref w3) (C := RX7) (T := TX7) (N := 17) hx hb hts it_7 hown hK hP hL_h0 hF_123 rfl 6 (by decide) (hts _ kt_347) (fun _ h9 => h9) rfl dX7_isWell_107 ?_
              refine lv_bipush (v := 64) hx hb dX7_isWell_110 (by decide) ?_
              have hFc := pg_free hD hS hA
              refine va_calli (va_runV (As := [.ref q_127, .ref w3, .int 64]) (rest := []) ⟨hx, hb, hml, hown, hts⟩ (s_X9_decode l dC dI cs ty L H.size F_122 sl (ρ + 2) sx 3000 sy0 sy1 sy2 q_127 v_128 1 w3 (ρ + 85) r_17 64 64 hW hi_3 ht_4 hi_16 ht_18) ⟨callB_of 3 hts (gi kt_343) rfl rfl rfl (hts _ kt_164) (hts _ kt_344) (by decide +kernel) ⟨Nat.le_of_ble_eq_true rfl, Nat.le_of_ble_eq_true rfl⟩, (hts _ kt_345), (hts _ kt_346)⟩ ⟨fun a U g mk q => ⟨q.1, PTE.calling q.2⟩, pg_recv hK hP hi_3 hF_124 (q := (RX9, TX9, 5)) rfl, fun U hU hWm => ⟨rfl, PTE.mk hU hWm hP hK hD hE hO hG (fun x hx => by rw [List.mem_singleton] at hx; subst hx; exact hX_q_127) hS hFc⟩⟩ rfl rfl hl.1 rfl (lv_room (Nat.le_of_ble_eq_true rfl)) dX7_isWell_112 ⟨by show _ + 0 ≤ 0; omega, by show _ + 0 ≤ 0; omega⟩) hS (fun q _ h => hFc q h) hFc (fun r_129 u t H1 locs ht hvm hw hB hz1 hk1 hS => ?_)
              obtain ⟨F_130, hB1⟩ := hB
              obtain ⟨hP, hD, hO, hR⟩ := QT.back hB1 ht hFc hR (fun q h => by simp only [List.mem_cons, List.not_mem_nil, or_false] at h ⊢; omega)
              have hF_131 : F_130 h0 = .inr (7, [.ref d, .ref sl, .ref ke, .ref w0, .ref w1, .ref w2, .ref w3, .ref w4, .ref w5, .ref w6, .ref w7, .ref w8, .ref tk, .ref hs, .ref pw, .int v0_40, .int v1_41]) := (hB1.2.2.2 h0 (by rw [hT_h0]; simp)).trans hF_123
              have hF_132 : F_130 sl = .inr (9, [.ref sx, .ref sy0, .ref sy1, .ref sy2, .int (nI z_92)]) := (hB1.2.2.2 sl (by rw [ht_4]; simp)).trans hF_124
              generalize H1 = H at hP hS ⊢
              have hw : (r_129 = 0 ∨ r_129 = 1) := hw
              have hw_133 := hw
              refine lv_if_eq (tgt := 154) hx hb dX7_isWell_115 (by decide) (fun c_134 => ?_) (fun c_134 => ?_)
              ·
                refine lv_iconst (v := 0) hx hb dX7_isWell_154 (by decide) ?_
                refine W.widen (k := 0) (n := 0) (by omega) (by omega) ?_
                exact W.zret (v := 0) (ty := .boolean) hx hb hr (by decide) (fun t ht hWm => ⟨⟨0, (), rfl, (by first | exact Or.inl rfl | exact Or.inr rfl), ⟨F_130, QT.mk ht hP hD hO hR⟩⟩, hS.F ht⟩) hS.2.2 dX7_isWell_155
              ·
                refine lv_aload_n hx hb dX7_isWell_118 rfl (lv_at hl 0 rfl) ?_
                have hFc := pg_free hD hS hA
                refine va_calli (va_runV (As := []) (rest := []) ⟨hx, hb, hml, hown, hts⟩ (s_X7_isFieldList l dC dI cs ty L H.size F_130 h0 ρ d δ ea sl sx sy0 sy1 sy2 ke kx ky0 ky1 ky2 w0 w1 w2 w3 w4 w5 w6 w7 w8 tk hs ha hbb hcc pw px py pz pu hW hL_h0 hT_h0) ⟨callB_of 0 hts (gi kt_348) rfl rfl rfl (hts _ kt_322) (hts _ kt_349) (by decide +kernel) ⟨Nat.le_of_ble_eq_true rfl, Nat.le_of_ble_eq_true rfl⟩, (hts _ kt_350), (hts _ kt_351)⟩ ⟨fun a U g mk q => ⟨q.1, PTE.calling q.2⟩, pg_recv hK hP hL_h0 hF_131 (q := (RX7, TX7, 17)) rfl, fun U hU hWm => ⟨rfl, PTE.mk hU hWm hP hK hD hE hO hG (fun x hx => absurd hx List.not_mem_nil) hS hFc⟩⟩ rfl rfl hl.1 rfl (lv_room (Nat.le_of_ble_eq_true rfl)) dX7_isWell_119 ⟨by show _ + 0 ≤ 0; omega, by show _ + 0 ≤ 0; omega⟩) hS (fun q _ h => hFc q h) hFc (fun r_135 u t H1 locs ht hvm hw hB hz1 hk1 hS => ?_)
                obtain ⟨F_136, hB1⟩ := hB
                obtain rfl : F_130 = F_136 := (funext (fun a => hB1.2.2.2 a List.not_mem_nil)).symm
                obtain ⟨hP, hD, hO, hR⟩ := QT.back hB1 ht hFc hR (fun q h => absurd h List.not_mem_nil)
                generalize H1 = H at hP hS ⊢
                have hw : (r_135 = 0 ∨ r_135 = 1) := hw
                have hw_137 := hw
                refine lv_if_eq (tgt := 154) hx hb dX7_isWell_122 (by decide) (fun c_138 => ?_) (fun c_138 => ?_)
                ·
                  refine lv_iconst (v := 0) hx hb dX7_isWell_154 (by decide) ?_
                  refine W.widen (k := 0) (n := 0) (by omega) (by omega) ?_
                  exact W.zret (v := 0) (ty := .boolean) hx hb hr (by decide) (fun t ht hWm => ⟨⟨0, (), rfl, (by first | exact Or.inl rfl | exact Or.inr rfl), ⟨F_130, QT.mk ht hP hD hO hR⟩⟩, hS.F ht⟩) hS.2.2 dX7_isWell_155
                ·
                  refine lv_aload_n hx hb dX7_isWell_125 rfl (lv_at hl 0 rfl) ?_
                  have hFc := pg_free hD hS hA
                  refine va_calli (va_runV (As := []) (rest := []) ⟨hx, hb, hml, hown, hts⟩ (s_X7_readPlainness l dC dI cs ty L H.size F_130 h0 ρ d δ ea sl sx sy0 sy1 sy2 ke kx ky0 ky1 ky2 w0 w1 w2 w3 w4 w5 w6 w7 w8 tk hs ha hbb hcc pw px py pz pu hW hL_h0 hT_h0) ⟨callB_of 0 hts (gi kt_352) rfl rfl rfl (hts _ kt_322) (hts _ kt_353) (by decide +kernel) ⟨Nat.le_of_ble_eq_true rfl, Nat.le_of_ble_eq_true rfl⟩, (hts _ kt_354), (hts _ kt_355)⟩ ⟨fun a U g mk q => ⟨q.1, PTE.calling q.2⟩, pg_recv hK hP hL_h0 hF_131 (q := (RX7, TX7, 17)) rfl, fun U hU hWm => ⟨rfl, PTE.mk hU hWm hP hK hD hE hO hG (fun x hx => absurd hx List.not_mem_nil) hS hFc⟩⟩ rfl rfl hl.1 rfl (lv_room (Nat.le_of_ble_eq_true rfl)) dX7_isWell_126 ⟨by show _ + 0 ≤ 0; omega, by show _ + 0 ≤ 0; omega⟩) hS (fun q _ h => hFc q h) hFc (fun r_139 u t H1 locs ht hvm hw hB hz1 hk1 hS => ?_)
                  obtain ⟨F_140, hB1⟩ := hB
                  obtain ⟨hP, hD, hO, hR⟩ := QT.back hB1 ht hFc hR (fun q h => by simp only [List.mem_cons, List.not_mem_nil, or_false] at h ⊢; omega)
                  have hF_141 : F_140 sl = .inr (9, [.ref sx, .ref sy0, .ref sy1, .ref sy2, .int (nI z_92)]) := (hB1.2.2.2 sl (by rw [ht_4]; simp)).trans hF_132
                  generalize H1 = H at hP hS ⊢
                  have hw : (r_139 = 0 ∨ r_139 = 1) := hw
                  have hw_142 := hw
                  refine lv_if_eq (tgt := 154) hx hb dX7_isWell_129 (by decide) (fun c_143 => ?_) (fun c_143 => ?_)
                  ·
                    refine lv_iconst (v := 0) hx hb dX7_isWell_154 (by decide) ?_
                    refine W.widen (k := 0) (n := 0) (by omega) (by omega) ?_
                    exact W.zret (v := 0) (ty := .boolean) hx hb hr (by decide) (fun t ht hWm => ⟨⟨0, (), rfl, (by first | exact Or.inl rfl | exact Or.inr rfl), ⟨F_140, QT.mk ht hP hD hO hR⟩⟩, hS.F ht⟩) hS.2.2 dX7_isWell_155
                  ·
                    refine lv_aload_n hx hb dX7_isWell_132 rfl (lv_at hl 0 rfl) ?_
                    obtain ⟨q_144, v_145, hr_q_144, hXc_q_144⟩ := hG.2.2.2.2 ("PostGate$Sealer", 185, "l", [108]) (by decide +kernel)
                    have hXc_q_144 : SXc q_144 v_145 1 (cct [108]) A s s.heap := hXc_q_144
                    have hX_q_144 : SX q_144 v_145 1 A s s.heap := hXc_q_144.sx
                    obtain ⟨xo_q_144, xc_q_144, xv_q_144, xt_q_144, xn_q_144⟩ := id hXc_q_144
                    have hr_q_144 : vk_R "PostGate$Sealer" 185 "l" q_144 s := hr_q_144
                    refine va_ldcS hx hb hown hr_q_144 dX7_isWell_133 ?_
                    have hFc := pg_free hD hS hA
                    obtain ⟨v0_146, v1_147, hF_148⟩ := hO.slr hL_h0 hT_h0
                    refine va_calli (va_runV (As := [.ref q_144]) (rest := []) ⟨hx, hb, hml, hown, hts⟩ (s_X7_isNumberOrMisses l dC dI cs ty L H.size F_140 h0 ρ d δ ea sl sx sy0 sy1 sy2 ke kx ky0 ky1 ky2 w0 w1 w2 w3 w4 w5 w6 w7 w8 tk hs ha hbb hcc pw px py pz pu q_144 v_145 1 hW hL_h0 hT_h0) ⟨callB_of 1 hts (gi kt_356) rfl rfl rfl (hts _ kt_322) (hts _ kt_357) (by decide +kernel) ⟨Nat.le_of_ble_eq_true rfl, Nat.le_of_ble_eq_true rfl⟩, (hts _ kt_358), (hts _ kt_359)⟩ ⟨fun a U g mk q => ⟨q.1, PTE.calling q.2⟩, pg_recv hK hP hL_h0 hF_148 (q := (RX7, TX7, 17)) rfl, fun U hU hWm => ⟨rfl, PTE.mk hU hWm hP hK hD hE hO hG (fun x hx => by rw [List.mem_singleton] at hx; subst hx; exact hX_q_144) hS hFc⟩⟩ rfl rfl hl.1 rfl (lv_room (Nat.le_of_ble_eq_true rfl)) dX7_isWell_135 ⟨by show _ + 0 ≤ 0; omega, by show _ + 0 ≤ 0; omega⟩) hS (fun q _ h => hFc q h) hFc (fun r_149 u t H1 locs ht hvm hw hB hz1 hk1 hS => ?_)
                    obtain ⟨F_150, hB1⟩ := hB
                    obtain rfl : F_140 = F_150 := (funext (fun a => hB1.2.2.2 a List.not_mem_nil)).symm
                    obtain ⟨hP, hD, hO, hR⟩ := QT.back hB1 ht hFc hR (fun q h => absurd h List.not_mem_nil)
                    generalize H1 = H at hP hS ⊢
                    have hw : (r_149 = 0 ∨ r_149 = 1) := hw
                    have hw_151 := hw
                    refine lv_if_eq (tgt := 154) hx hb dX7_isWell_138 (by decide) (fun c_152 => ?_) (fun c_152 => ?_)
                    ·
                      refine lv_iconst (v := 0) hx hb dX7_isWell_154 (by decide) ?_
                      refine W.widen (k := 0) (n := 0) (by omega) (by omega) ?_
                      exact W.zret (v := 0) (ty := .boolean) hx hb hr (by decide) (fun t ht hWm => ⟨⟨0, (), rfl, (by first | exact Or.inl rfl | exact Or.inr rfl), ⟨F_140, QT.mk ht hP hD hO hR⟩⟩, hS.F ht⟩) hS.2.2 dX7_isWell_155
                    ·
                      refine lv_aload_n hx hb dX7_isWell_141 rfl (lv_at hl 0 rfl) ?_
                      obtain ⟨q_153, v_154, hr_q_153, hXc_q_153⟩ := hG.2.2.2.2 ("PostGate$Sealer", 113, "x", [120]) (by decide +kernel)
                      have hXc_q_153 : SXc q_153 v_154 1 (cct [120]) A s s.heap := hXc_q_153
                      have hX_q_153 : SX q_153 v_154 1 A s s.heap := hXc_q_153.sx
                      obtain ⟨xo_q_153, xc_q_153, xv_q_153, xt_q_153, xn_q_153⟩ := id hXc_q_153
                      have hr_q_153 : vk_R "PostGate$Sealer" 113 "x" q_153 s := hr_q_153
                      refine va_ldcS hx hb hown hr_q_153 dX7_isWell_142 ?_
                      have hFc := pg_free hD hS hA
                      refine va_calli (va_runV (As := [.ref q_153]) (rest := []) ⟨hx, hb, hml, hown, hts⟩ (s_X7_isNumberOrMisses l dC dI cs ty L H.size F_140 h0 ρ d δ ea sl sx sy0 sy1 sy2 ke kx ky0 ky1 ky2 w0 w1 w2 w3 w4 w5 w6 w7 w8 tk hs ha hbb hcc pw px py pz pu q_153 v_154 1 hW hL_h0 hT_h0) ⟨callB_of 1 hts (gi kt_356) rfl rfl rfl (hts _ kt_322) (hts _ kt_357) (by decide +kernel) ⟨Nat.le_of_ble_eq_true rfl, Nat.le_of_ble_eq_true rfl⟩, (hts _ kt_358), (hts _ kt_359)⟩ ⟨fun a U g mk q => ⟨q.1, PTE.calling q.2⟩, pg_recv hK hP hL_h0 hF_148 (q := (RX7, TX7, 17)) rfl, fun U hU hWm => ⟨rfl, PTE.mk hU hWm hP hK hD hE hO hG (fun x hx => by rw [List.mem_singleton] at hx; subst hx; exact hX_q_153) hS hFc⟩⟩ rfl rfl hl.1 rfl (lv_room (Nat.le_of_ble_eq_true rfl)) dX7_isWell_144 ⟨by show _ + 0 ≤ 0; omega, by show _ + 0 ≤ 0; omega⟩) hS (fun q _ h => hFc q h) hFc (fun r_155 u t H1 locs ht hvm hw hB hz1 hk1 hS => ?_)
                      obtain ⟨F_156, hB1⟩ := hB
                      obtain rfl : F_140 = F_156 := (funext (fun a => hB1.2.2.2 a List.not_mem_nil)).symm
                      obtain ⟨hP, hD, hO, hR⟩ := QT.back hB1 ht hFc hR (fun q h => absurd h List.not_mem_nil)
                      generalize H1 = H at hP hS ⊢
                      have hw : (r_155 = 0 ∨ r_155 = 1) := hw
                      have hw_157 := hw
                      refine lv_if_eq (tgt := 154) hx hb dX7_isWell_147 (by decide) (fun c_158 => ?_) (fun c_158 => ?_)
                      ·
                        refine lv_iconst (v := 0) hx hb dX7_isWell_154 (by decide) ?_
                        refine W.widen (k := 0) (n := 0) (by omega) (by omega) ?_
                        exact W.zret (v := 0) (ty := .boolean) hx hb hr (by decide) (fun t ht hWm => ⟨⟨0, (), rfl, (by first | exact Or.inl rfl | exact Or.inr rfl), ⟨F_140, QT.mk ht hP hD hO hR⟩⟩, hS.F ht⟩) hS.2.2 dX7_isWell_155
                      ·
                        refine lv_iconst (v := 1) hx hb dX7_isWell_150 (by decide) ?_
                        refine lv_goto (tgt := 155) hx hb dX7_isWell_151 (by decide) ?_
                        refine W.widen (k := 0) (n := 0) (by omega) (by omega) ?_
                        exact W.zret (v := 1) (ty := .boolean) hx hb hr (by decide) (fun t ht hWm => ⟨⟨1, (), rfl, (by first | exact Or.inl rfl | exact Or.inr rfl), ⟨F_140, QT.mk ht hP hD hO hR⟩⟩, hS.F ht⟩) hS.2.2 dX7_isWell_155
  ·
    refine lv_iconst (v := 0) hx hb dX7_isWell_28 (by decide) ?_
    refine W.widen (k := 0) (n := 0) (by omega) (by omega) ?_
    exact W.zret (v := 0) (ty := .boolean) hx hb hr (by decide) (fun t ht hWm => ⟨⟨0, (), rfl, (by first | exact Or.inl rfl | exact Or.inr rfl), ⟨F_84, QT.mk ht hP hD hO hR⟩⟩, hS.F ht⟩) hS.2.2 dX7_isWell_29
